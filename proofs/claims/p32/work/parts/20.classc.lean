set_option maxHeartbeats 4000000 in
set_option maxRecDepth 100000 in
theorem gc_Plain_on9 (l : Launch) (D : va_G) (y : Nat → ClassId) (o : Nat) (t : Int32) (l2 : Int32) (c2 : Int32)  : kw_Mi l yX5_sight wsX5_sight ({ frames := 1, cells := 0, slots := 0, locals := 60 }) D y [.ref o, .int t, .int l2, .int c2] [(o, .inr (9, []))] (fun (r : Int32) (u : Unit) => r = (if 0 < ((l2 - (2 * t)) - c2) then ((l2 - (2 * t)) - c2) else 0)) (fun _ => [(o, .inr (9, []))]) 0 0 := by
  refine kw_Mi.of (cc := cX5_sight) (maxL := 4) (ret := (some .int)) (by decide) rfl ?_
  intro pZ eZ s mZ beZ meZ cZ A hE
  obtain ⟨hx, hb, hr, hml, hts, hown, hlocks, hin, hA, hP, hD, hK, hN⟩ := hE
  have hS : va_S A s.heap s.heap [] := va_S.rf
  have hl := lv_entry ([.ref o, .int t, .int l2, .int c2]) (n := 4) (Nat.le_of_ble_eq_true rfl)
  rw [lg_entry_eq]
  generalize (lg_sl ([.ref o, .int t, .int l2, .int c2]) ++ List.replicate (4 - (lg_sl ([.ref o, .int t, .int l2, .int c2])).length) Slot.unset).toArray = ls at hl ⊢
  have hl : lv_has ls 4 [(0, .ref o), (1, .int t), (2, .int l2), (3, .int c2)] := hl
  have fw1 := hts (.methodLink RX5 7 Lib.Math.max.name) (List.mem_of_getElem? (i := 1) rfl)
  have fw2 := hts (.static Lib.Math.max.name) (List.mem_of_getElem? (i := 2) rfl)
  have fw3 := hts (.initialized "java/lang/Math") (List.mem_of_getElem? (i := 3) rfl)
  have fw4 := hts (.code Lib.Math.max.name Lib.Math.max.code 2 (some .int)) (List.mem_of_getElem? (i := 4) rfl)
  refine lv_iconst (v := 0) hx hb dX5_sight_0 (by decide) ?_
  refine lv_iload_n hx hb dX5_sight_1 rfl (lv_at hl 2 rfl) ?_
  refine lv_iconst (v := 2) hx hb dX5_sight_2 (by decide) ?_
  refine lv_iload_n hx hb dX5_sight_3 rfl (lv_at hl 1 rfl) ?_
  refine lv_imul hx hb dX5_sight_4 ?_
  refine lv_isub hx hb dX5_sight_5 ?_
  refine lv_iload_n hx hb dX5_sight_6 rfl (lv_at hl 3 rfl) ?_
  refine lv_isub hx hb dX5_sight_7 ?_
  refine va_mmax hx hb (hml.trans hl.1.symm) hown fw1 fw2 fw3 fw4 (Nat.le_of_ble_eq_true rfl) (Nat.le_of_ble_eq_true rfl) (Nat.le_of_ble_eq_true rfl) (Nat.le_of_ble_eq_true rfl) dX5_sight_8 ?_
  exact W.iret (v := (if 0 < ((l2 - (2 * t)) - c2) then ((l2 - (2 * t)) - c2) else 0)) hx hb hr (fun tZ ht hW => ⟨⟨(if 0 < ((l2 - (2 * t)) - c2) then ((l2 - (2 * t)) - c2) else 0), (), rfl, rfl, by rw [ht]; exact hP.sub [0] rfl, hD.sub [0] (by decide) rfl⟩, hS.F ht⟩) hS.2.2 dX5_sight_11

set_option maxHeartbeats 4000000 in
set_option maxRecDepth 100000 in
theorem gc_Plain_on6 (l : Launch) (D : va_G) (y : Nat → ClassId) (o : Nat) (t : Int32) (l2 : Int32) (c2 : Int32)  : kw_Mi l yX5_sight wsX5_sight ({ frames := 1, cells := 0, slots := 0, locals := 60 }) D y [.ref o, .int t, .int l2, .int c2] [(o, .inr (6, []))] (fun (r : Int32) (u : Unit) => r = (if 0 < ((l2 - (2 * t)) - c2) then ((l2 - (2 * t)) - c2) else 0)) (fun _ => [(o, .inr (6, []))]) 0 0 := by
  refine kw_Mi.of (cc := cX5_sight) (maxL := 4) (ret := (some .int)) (by decide) rfl ?_
  intro pZ eZ s mZ beZ meZ cZ A hE
  obtain ⟨hx, hb, hr, hml, hts, hown, hlocks, hin, hA, hP, hD, hK, hN⟩ := hE
  have hS : va_S A s.heap s.heap [] := va_S.rf
  have hl := lv_entry ([.ref o, .int t, .int l2, .int c2]) (n := 4) (Nat.le_of_ble_eq_true rfl)
  rw [lg_entry_eq]
  generalize (lg_sl ([.ref o, .int t, .int l2, .int c2]) ++ List.replicate (4 - (lg_sl ([.ref o, .int t, .int l2, .int c2])).length) Slot.unset).toArray = ls at hl ⊢
  have hl : lv_has ls 4 [(0, .ref o), (1, .int t), (2, .int l2), (3, .int c2)] := hl
  have fw1 := hts (.methodLink RX5 7 Lib.Math.max.name) (List.mem_of_getElem? (i := 1) rfl)
  have fw2 := hts (.static Lib.Math.max.name) (List.mem_of_getElem? (i := 2) rfl)
  have fw3 := hts (.initialized "java/lang/Math") (List.mem_of_getElem? (i := 3) rfl)
  have fw4 := hts (.code Lib.Math.max.name Lib.Math.max.code 2 (some .int)) (List.mem_of_getElem? (i := 4) rfl)
  refine lv_iconst (v := 0) hx hb dX5_sight_0 (by decide) ?_
  refine lv_iload_n hx hb dX5_sight_1 rfl (lv_at hl 2 rfl) ?_
  refine lv_iconst (v := 2) hx hb dX5_sight_2 (by decide) ?_
  refine lv_iload_n hx hb dX5_sight_3 rfl (lv_at hl 1 rfl) ?_
  refine lv_imul hx hb dX5_sight_4 ?_
  refine lv_isub hx hb dX5_sight_5 ?_
  refine lv_iload_n hx hb dX5_sight_6 rfl (lv_at hl 3 rfl) ?_
  refine lv_isub hx hb dX5_sight_7 ?_
  refine va_mmax hx hb (hml.trans hl.1.symm) hown fw1 fw2 fw3 fw4 (Nat.le_of_ble_eq_true rfl) (Nat.le_of_ble_eq_true rfl) (Nat.le_of_ble_eq_true rfl) (Nat.le_of_ble_eq_true rfl) dX5_sight_8 ?_
  exact W.iret (v := (if 0 < ((l2 - (2 * t)) - c2) then ((l2 - (2 * t)) - c2) else 0)) hx hb hr (fun tZ ht hW => ⟨⟨(if 0 < ((l2 - (2 * t)) - c2) then ((l2 - (2 * t)) - c2) else 0), (), rfl, rfl, by rw [ht]; exact hP.sub [0] rfl, hD.sub [0] (by decide) rfl⟩, hS.F ht⟩) hS.2.2 dX5_sight_11

set_option maxHeartbeats 4000000 in
set_option maxRecDepth 100000 in
theorem gc_Plain_on2 (l : Launch) (D : va_G) (y : Nat → ClassId) (o : Nat) (t : Int32) (l2 : Int32) (c2 : Int32)  : kw_Mi l yX5_sight wsX5_sight ({ frames := 1, cells := 0, slots := 0, locals := 60 }) D y [.ref o, .int t, .int l2, .int c2] [(o, .inr (2, []))] (fun (r : Int32) (u : Unit) => r = (if 0 < ((l2 - (2 * t)) - c2) then ((l2 - (2 * t)) - c2) else 0)) (fun _ => [(o, .inr (2, []))]) 0 0 := by
  refine kw_Mi.of (cc := cX5_sight) (maxL := 4) (ret := (some .int)) (by decide) rfl ?_
  intro pZ eZ s mZ beZ meZ cZ A hE
  obtain ⟨hx, hb, hr, hml, hts, hown, hlocks, hin, hA, hP, hD, hK, hN⟩ := hE
  have hS : va_S A s.heap s.heap [] := va_S.rf
  have hl := lv_entry ([.ref o, .int t, .int l2, .int c2]) (n := 4) (Nat.le_of_ble_eq_true rfl)
  rw [lg_entry_eq]
  generalize (lg_sl ([.ref o, .int t, .int l2, .int c2]) ++ List.replicate (4 - (lg_sl ([.ref o, .int t, .int l2, .int c2])).length) Slot.unset).toArray = ls at hl ⊢
  have hl : lv_has ls 4 [(0, .ref o), (1, .int t), (2, .int l2), (3, .int c2)] := hl
  have fw1 := hts (.methodLink RX5 7 Lib.Math.max.name) (List.mem_of_getElem? (i := 1) rfl)
  have fw2 := hts (.static Lib.Math.max.name) (List.mem_of_getElem? (i := 2) rfl)
  have fw3 := hts (.initialized "java/lang/Math") (List.mem_of_getElem? (i := 3) rfl)
  have fw4 := hts (.code Lib.Math.max.name Lib.Math.max.code 2 (some .int)) (List.mem_of_getElem? (i := 4) rfl)
  refine lv_iconst (v := 0) hx hb dX5_sight_0 (by decide) ?_
  refine lv_iload_n hx hb dX5_sight_1 rfl (lv_at hl 2 rfl) ?_
  refine lv_iconst (v := 2) hx hb dX5_sight_2 (by decide) ?_
  refine lv_iload_n hx hb dX5_sight_3 rfl (lv_at hl 1 rfl) ?_
  refine lv_imul hx hb dX5_sight_4 ?_
  refine lv_isub hx hb dX5_sight_5 ?_
  refine lv_iload_n hx hb dX5_sight_6 rfl (lv_at hl 3 rfl) ?_
  refine lv_isub hx hb dX5_sight_7 ?_
  refine va_mmax hx hb (hml.trans hl.1.symm) hown fw1 fw2 fw3 fw4 (Nat.le_of_ble_eq_true rfl) (Nat.le_of_ble_eq_true rfl) (Nat.le_of_ble_eq_true rfl) (Nat.le_of_ble_eq_true rfl) dX5_sight_8 ?_
  exact W.iret (v := (if 0 < ((l2 - (2 * t)) - c2) then ((l2 - (2 * t)) - c2) else 0)) hx hb hr (fun tZ ht hW => ⟨⟨(if 0 < ((l2 - (2 * t)) - c2) then ((l2 - (2 * t)) - c2) else 0), (), rfl, rfl, by rw [ht]; exact hP.sub [0] rfl, hD.sub [0] (by decide) rfl⟩, hS.F ht⟩) hS.2.2 dX5_sight_11

set_option maxHeartbeats 4000000 in
set_option maxRecDepth 100000 in
theorem gc_Plain_on3 (l : Launch) (D : va_G) (y : Nat → ClassId) (o : Nat) (t : Int32) (l2 : Int32) (c2 : Int32)  : kw_Mi l yX5_sight wsX5_sight ({ frames := 1, cells := 0, slots := 0, locals := 60 }) D y [.ref o, .int t, .int l2, .int c2] [(o, .inr (3, []))] (fun (r : Int32) (u : Unit) => r = (if 0 < ((l2 - (2 * t)) - c2) then ((l2 - (2 * t)) - c2) else 0)) (fun _ => [(o, .inr (3, []))]) 0 0 := by
  refine kw_Mi.of (cc := cX5_sight) (maxL := 4) (ret := (some .int)) (by decide) rfl ?_
  intro pZ eZ s mZ beZ meZ cZ A hE
  obtain ⟨hx, hb, hr, hml, hts, hown, hlocks, hin, hA, hP, hD, hK, hN⟩ := hE
  have hS : va_S A s.heap s.heap [] := va_S.rf
  have hl := lv_entry ([.ref o, .int t, .int l2, .int c2]) (n := 4) (Nat.le_of_ble_eq_true rfl)
  rw [lg_entry_eq]
  generalize (lg_sl ([.ref o, .int t, .int l2, .int c2]) ++ List.replicate (4 - (lg_sl ([.ref o, .int t, .int l2, .int c2])).length) Slot.unset).toArray = ls at hl ⊢
  have hl : lv_has ls 4 [(0, .ref o), (1, .int t), (2, .int l2), (3, .int c2)] := hl
  have fw1 := hts (.methodLink RX5 7 Lib.Math.max.name) (List.mem_of_getElem? (i := 1) rfl)
  have fw2 := hts (.static Lib.Math.max.name) (List.mem_of_getElem? (i := 2) rfl)
  have fw3 := hts (.initialized "java/lang/Math") (List.mem_of_getElem? (i := 3) rfl)
  have fw4 := hts (.code Lib.Math.max.name Lib.Math.max.code 2 (some .int)) (List.mem_of_getElem? (i := 4) rfl)
  refine lv_iconst (v := 0) hx hb dX5_sight_0 (by decide) ?_
  refine lv_iload_n hx hb dX5_sight_1 rfl (lv_at hl 2 rfl) ?_
  refine lv_iconst (v := 2) hx hb dX5_sight_2 (by decide) ?_
  refine lv_iload_n hx hb dX5_sight_3 rfl (lv_at hl 1 rfl) ?_
  refine lv_imul hx hb dX5_sight_4 ?_
  refine lv_isub hx hb dX5_sight_5 ?_
  refine lv_iload_n hx hb dX5_sight_6 rfl (lv_at hl 3 rfl) ?_
  refine lv_isub hx hb dX5_sight_7 ?_
  refine va_mmax hx hb (hml.trans hl.1.symm) hown fw1 fw2 fw3 fw4 (Nat.le_of_ble_eq_true rfl) (Nat.le_of_ble_eq_true rfl) (Nat.le_of_ble_eq_true rfl) (Nat.le_of_ble_eq_true rfl) dX5_sight_8 ?_
  exact W.iret (v := (if 0 < ((l2 - (2 * t)) - c2) then ((l2 - (2 * t)) - c2) else 0)) hx hb hr (fun tZ ht hW => ⟨⟨(if 0 < ((l2 - (2 * t)) - c2) then ((l2 - (2 * t)) - c2) else 0), (), rfl, rfl, by rw [ht]; exact hP.sub [0] rfl, hD.sub [0] (by decide) rfl⟩, hS.F ht⟩) hS.2.2 dX5_sight_11

set_option maxHeartbeats 4000000 in
set_option maxRecDepth 100000 in
theorem gc_West_on8 (l : Launch) (D : va_G) (y : Nat → ClassId) (o : Nat) (t : Int32) (l2 : Int32) (c2 : Int32)  : kw_Mi l yX8_sight wsX8_sight ({ frames := 2, cells := 0, slots := 0, locals := 83 }) D y [.ref o, .int t, .int l2, .int c2] [(o, .inr (8, []))] (fun (r : Int32) (u : Unit) => True) (fun _ => [(o, .inr (8, []))]) 0 0 := by
  refine kw_Mi.of (cc := cX8_sight) (maxL := 5) (ret := (some .int)) (by decide) rfl ?_
  intro pZ eZ s mZ beZ meZ cZ A hE
  obtain ⟨hx, hb, hr, hml, hts, hown, hlocks, hin, hA, hP, hD, hK, hN⟩ := hE
  have hS : va_S A s.heap s.heap [] := va_S.rf
  have hl := lv_entry ([.ref o, .int t, .int l2, .int c2]) (n := 5) (Nat.le_of_ble_eq_true rfl)
  rw [lg_entry_eq]
  generalize (lg_sl ([.ref o, .int t, .int l2, .int c2]) ++ List.replicate (5 - (lg_sl ([.ref o, .int t, .int l2, .int c2])).length) Slot.unset).toArray = ls at hl ⊢
  have hl : lv_has ls 5 [(0, .ref o), (1, .int t), (2, .int l2), (3, .int c2)] := hl
  refine lv_aload_n hx hb dX8_sight_0 rfl (lv_at hl 0 rfl) ?_
  refine lv_iload_n hx hb dX8_sight_1 rfl (lv_at hl 1 rfl) ?_
  refine lv_iload_n hx hb dX8_sight_2 rfl (lv_at hl 2 rfl) ?_
  refine lv_iload_n hx hb dX8_sight_3 rfl (lv_at hl 3 rfl) ?_
  have hs1 : kw_Split [(o, .inr (8, []))] [(o, .inr (8, []))] [] [0] [] := ⟨rfl, rfl, rfl, rfl, rfl, by decide⟩
  refine kw_go_i hs1 hP hD hS hA (va_runSU (As := [.int t, .int l2, .int c2]) (rest := []) (hK.1 8 _ rfl).2 ⟨hx, hb, hml, hown, hts⟩ (gc_Plain_on8 l D y o t l2 c2  _) (va_cwSU 3 hts gX8_sight_X5_sight_s7 rfl rfl rfl (by decide +kernel) ⟨Nat.le_of_ble_eq_true rfl, Nat.le_of_ble_eq_true rfl⟩) (kw_PreV (ci := 8) (q0 := 0) hs1 hP hD hK hN rfl rfl) rfl rfl hl.1 rfl (lv_room (Nat.le_of_ble_eq_true rfl)) dX8_sight_4 ⟨Nat.le_of_ble_eq_true rfl, Nat.le_of_ble_eq_true rfl⟩) (fun r2 u3 H locs hq hP hD hS => ?_)
  obtain rfl := hq
  have hP : va_P D vwCl [(o, .inr (8, []))] H := hP
  have hD : va_D A [(o, .inr (8, []))] := hD
  refine lv_istore (lv' := [(4, .int (if 0 < ((l2 - (2 * t)) - c2) then ((l2 - (2 * t)) - c2) else 0)), (0, .ref o), (1, .int t), (2, .int l2), (3, .int c2)]) hx hb dX8_sight_7 hl (by decide) rfl (fun ls hl => ?_)
  refine lv_iload_n hx hb dX8_sight_9 rfl (lv_at hl 2 rfl) ?_
  refine lv_bipush (v := 6) hx hb dX8_sight_10 (by decide) ?_
  refine lv_icmp_lt (tgt := 27) hx hb dX8_sight_12 (by decide) (fun h4 => ?_) (fun h5 => ?_)
  · skip
    refine lv_iload hx hb dX8_sight_27 (lv_at hl 0 rfl) ?_
    exact W.iret (v := (if 0 < ((l2 - (2 * t)) - c2) then ((l2 - (2 * t)) - c2) else 0)) hx hb hr (fun tZ ht hW => ⟨⟨(if 0 < ((l2 - (2 * t)) - c2) then ((l2 - (2 * t)) - c2) else 0), (), rfl, trivial, by rw [ht]; exact hP.sub [0] rfl, hD.sub [0] (by decide) rfl⟩, hS.F ht⟩) hS.2.2 dX8_sight_29
  · skip
    refine lv_iload_n hx hb dX8_sight_15 rfl (lv_at hl 3 rfl) ?_
    refine lv_iconst (v := 1) hx hb dX8_sight_16 (by decide) ?_
    refine lv_icmp_lt (tgt := 27) hx hb dX8_sight_17 (by decide) (fun h6 => ?_) (fun h7 => ?_)
    · skip
      refine lv_iload hx hb dX8_sight_27 (lv_at hl 0 rfl) ?_
      exact W.iret (v := (if 0 < ((l2 - (2 * t)) - c2) then ((l2 - (2 * t)) - c2) else 0)) hx hb hr (fun tZ ht hW => ⟨⟨(if 0 < ((l2 - (2 * t)) - c2) then ((l2 - (2 * t)) - c2) else 0), (), rfl, trivial, by rw [ht]; exact hP.sub [0] rfl, hD.sub [0] (by decide) rfl⟩, hS.F ht⟩) hS.2.2 dX8_sight_29
    · skip
      refine lv_iload hx hb dX8_sight_20 (lv_at hl 0 rfl) ?_
      refine lv_iload_n hx hb dX8_sight_22 rfl (lv_at hl 2 rfl) ?_
      refine lv_iadd hx hb dX8_sight_23 ?_
      refine lv_goto (tgt := 29) hx hb dX8_sight_24 (by decide) ?_
      exact W.iret (v := ((if 0 < ((l2 - (2 * t)) - c2) then ((l2 - (2 * t)) - c2) else 0) + t)) hx hb hr (fun tZ ht hW => ⟨⟨((if 0 < ((l2 - (2 * t)) - c2) then ((l2 - (2 * t)) - c2) else 0) + t), (), rfl, trivial, by rw [ht]; exact hP.sub [0] rfl, hD.sub [0] (by decide) rfl⟩, hS.F ht⟩) hS.2.2 dX8_sight_29

set_option maxHeartbeats 4000000 in
set_option maxRecDepth 100000 in
theorem gc_West_on2 (l : Launch) (D : va_G) (y : Nat → ClassId) (o : Nat) (t : Int32) (l2 : Int32) (c2 : Int32)  : kw_Mi l yX8_sight wsX8_sight ({ frames := 2, cells := 0, slots := 0, locals := 83 }) D y [.ref o, .int t, .int l2, .int c2] [(o, .inr (2, []))] (fun (r : Int32) (u : Unit) => True) (fun _ => [(o, .inr (2, []))]) 0 0 := by
  refine kw_Mi.of (cc := cX8_sight) (maxL := 5) (ret := (some .int)) (by decide) rfl ?_
  intro pZ eZ s mZ beZ meZ cZ A hE
  obtain ⟨hx, hb, hr, hml, hts, hown, hlocks, hin, hA, hP, hD, hK, hN⟩ := hE
  have hS : va_S A s.heap s.heap [] := va_S.rf
  have hl := lv_entry ([.ref o, .int t, .int l2, .int c2]) (n := 5) (Nat.le_of_ble_eq_true rfl)
  rw [lg_entry_eq]
  generalize (lg_sl ([.ref o, .int t, .int l2, .int c2]) ++ List.replicate (5 - (lg_sl ([.ref o, .int t, .int l2, .int c2])).length) Slot.unset).toArray = ls at hl ⊢
  have hl : lv_has ls 5 [(0, .ref o), (1, .int t), (2, .int l2), (3, .int c2)] := hl
  refine lv_aload_n hx hb dX8_sight_0 rfl (lv_at hl 0 rfl) ?_
  refine lv_iload_n hx hb dX8_sight_1 rfl (lv_at hl 1 rfl) ?_
  refine lv_iload_n hx hb dX8_sight_2 rfl (lv_at hl 2 rfl) ?_
  refine lv_iload_n hx hb dX8_sight_3 rfl (lv_at hl 3 rfl) ?_
  have hs1 : kw_Split [(o, .inr (2, []))] [(o, .inr (2, []))] [] [0] [] := ⟨rfl, rfl, rfl, rfl, rfl, by decide⟩
  refine kw_go_i hs1 hP hD hS hA (va_runSU (As := [.int t, .int l2, .int c2]) (rest := []) (hK.1 2 _ rfl).2 ⟨hx, hb, hml, hown, hts⟩ (gc_Plain_on2 l D y o t l2 c2  _) (va_cwSU 3 hts gX8_sight_X5_sight_s7 rfl rfl rfl (by decide +kernel) ⟨Nat.le_of_ble_eq_true rfl, Nat.le_of_ble_eq_true rfl⟩) (kw_PreV (ci := 2) (q0 := 0) hs1 hP hD hK hN rfl rfl) rfl rfl hl.1 rfl (lv_room (Nat.le_of_ble_eq_true rfl)) dX8_sight_4 ⟨Nat.le_of_ble_eq_true rfl, Nat.le_of_ble_eq_true rfl⟩) (fun r2 u3 H locs hq hP hD hS => ?_)
  obtain rfl := hq
  have hP : va_P D vwCl [(o, .inr (2, []))] H := hP
  have hD : va_D A [(o, .inr (2, []))] := hD
  refine lv_istore (lv' := [(4, .int (if 0 < ((l2 - (2 * t)) - c2) then ((l2 - (2 * t)) - c2) else 0)), (0, .ref o), (1, .int t), (2, .int l2), (3, .int c2)]) hx hb dX8_sight_7 hl (by decide) rfl (fun ls hl => ?_)
  refine lv_iload_n hx hb dX8_sight_9 rfl (lv_at hl 2 rfl) ?_
  refine lv_bipush (v := 6) hx hb dX8_sight_10 (by decide) ?_
  refine lv_icmp_lt (tgt := 27) hx hb dX8_sight_12 (by decide) (fun h4 => ?_) (fun h5 => ?_)
  · skip
    refine lv_iload hx hb dX8_sight_27 (lv_at hl 0 rfl) ?_
    exact W.iret (v := (if 0 < ((l2 - (2 * t)) - c2) then ((l2 - (2 * t)) - c2) else 0)) hx hb hr (fun tZ ht hW => ⟨⟨(if 0 < ((l2 - (2 * t)) - c2) then ((l2 - (2 * t)) - c2) else 0), (), rfl, trivial, by rw [ht]; exact hP.sub [0] rfl, hD.sub [0] (by decide) rfl⟩, hS.F ht⟩) hS.2.2 dX8_sight_29
  · skip
    refine lv_iload_n hx hb dX8_sight_15 rfl (lv_at hl 3 rfl) ?_
    refine lv_iconst (v := 1) hx hb dX8_sight_16 (by decide) ?_
    refine lv_icmp_lt (tgt := 27) hx hb dX8_sight_17 (by decide) (fun h6 => ?_) (fun h7 => ?_)
    · skip
      refine lv_iload hx hb dX8_sight_27 (lv_at hl 0 rfl) ?_
      exact W.iret (v := (if 0 < ((l2 - (2 * t)) - c2) then ((l2 - (2 * t)) - c2) else 0)) hx hb hr (fun tZ ht hW => ⟨⟨(if 0 < ((l2 - (2 * t)) - c2) then ((l2 - (2 * t)) - c2) else 0), (), rfl, trivial, by rw [ht]; exact hP.sub [0] rfl, hD.sub [0] (by decide) rfl⟩, hS.F ht⟩) hS.2.2 dX8_sight_29
    · skip
      refine lv_iload hx hb dX8_sight_20 (lv_at hl 0 rfl) ?_
      refine lv_iload_n hx hb dX8_sight_22 rfl (lv_at hl 2 rfl) ?_
      refine lv_iadd hx hb dX8_sight_23 ?_
      refine lv_goto (tgt := 29) hx hb dX8_sight_24 (by decide) ?_
      exact W.iret (v := ((if 0 < ((l2 - (2 * t)) - c2) then ((l2 - (2 * t)) - c2) else 0) + t)) hx hb hr (fun tZ ht hW => ⟨⟨((if 0 < ((l2 - (2 * t)) - c2) then ((l2 - (2 * t)) - c2) else 0) + t), (), rfl, trivial, by rw [ht]; exact hP.sub [0] rfl, hD.sub [0] (by decide) rfl⟩, hS.F ht⟩) hS.2.2 dX8_sight_29

set_option maxHeartbeats 4000000 in
set_option maxRecDepth 100000 in
theorem gc_Wood_on9 (l : Launch) (D : va_G) (y : Nat → ClassId) (o : Nat) (t : Int32) (l2 : Int32) (c2 : Int32)  : kw_Mi l yX9_sight wsX9_sight ({ frames := 2, cells := 0, slots := 0, locals := 83 }) D y [.ref o, .int t, .int l2, .int c2] [(o, .inr (9, []))] (fun (r : Int32) (u : Unit) => r = ((if 0 < ((l2 - (2 * t)) - c2) then ((l2 - (2 * t)) - c2) else 0) / 2)) (fun _ => [(o, .inr (9, []))]) 0 0 := by
  refine kw_Mi.of (cc := cX9_sight) (maxL := 4) (ret := (some .int)) (by decide) rfl ?_
  intro pZ eZ s mZ beZ meZ cZ A hE
  obtain ⟨hx, hb, hr, hml, hts, hown, hlocks, hin, hA, hP, hD, hK, hN⟩ := hE
  have hS : va_S A s.heap s.heap [] := va_S.rf
  have hl := lv_entry ([.ref o, .int t, .int l2, .int c2]) (n := 4) (Nat.le_of_ble_eq_true rfl)
  rw [lg_entry_eq]
  generalize (lg_sl ([.ref o, .int t, .int l2, .int c2]) ++ List.replicate (4 - (lg_sl ([.ref o, .int t, .int l2, .int c2])).length) Slot.unset).toArray = ls at hl ⊢
  have hl : lv_has ls 4 [(0, .ref o), (1, .int t), (2, .int l2), (3, .int c2)] := hl
  refine lv_aload_n hx hb dX9_sight_0 rfl (lv_at hl 0 rfl) ?_
  refine lv_iload_n hx hb dX9_sight_1 rfl (lv_at hl 1 rfl) ?_
  refine lv_iload_n hx hb dX9_sight_2 rfl (lv_at hl 2 rfl) ?_
  refine lv_iload_n hx hb dX9_sight_3 rfl (lv_at hl 3 rfl) ?_
  have hs1 : kw_Split [(o, .inr (9, []))] [(o, .inr (9, []))] [] [0] [] := ⟨rfl, rfl, rfl, rfl, rfl, by decide⟩
  refine kw_go_i hs1 hP hD hS hA (va_runSU (As := [.int t, .int l2, .int c2]) (rest := []) (hK.1 9 _ rfl).2 ⟨hx, hb, hml, hown, hts⟩ (gc_Plain_on9 l D y o t l2 c2  _) (va_cwSU 3 hts gX9_sight_X5_sight_s7 rfl rfl rfl (by decide +kernel) ⟨Nat.le_of_ble_eq_true rfl, Nat.le_of_ble_eq_true rfl⟩) (kw_PreV (ci := 9) (q0 := 0) hs1 hP hD hK hN rfl rfl) rfl rfl hl.1 rfl (lv_room (Nat.le_of_ble_eq_true rfl)) dX9_sight_4 ⟨Nat.le_of_ble_eq_true rfl, Nat.le_of_ble_eq_true rfl⟩) (fun r2 u3 H locs hq hP hD hS => ?_)
  obtain rfl := hq
  have hP : va_P D vwCl [(o, .inr (9, []))] H := hP
  have hD : va_D A [(o, .inr (9, []))] := hD
  refine lv_iconst (v := 2) hx hb dX9_sight_7 (by decide) ?_
  refine lv_idiv hx hb dX9_sight_8 (by decide) ?_
  exact W.iret (v := ((if 0 < ((l2 - (2 * t)) - c2) then ((l2 - (2 * t)) - c2) else 0) / 2)) hx hb hr (fun tZ ht hW => ⟨⟨((if 0 < ((l2 - (2 * t)) - c2) then ((l2 - (2 * t)) - c2) else 0) / 2), (), rfl, rfl, by rw [ht]; exact hP.sub [0] rfl, hD.sub [0] (by decide) rfl⟩, hS.F ht⟩) hS.2.2 dX9_sight_9

set_option maxHeartbeats 4000000 in
set_option maxRecDepth 100000 in
theorem gc_Wood_on3 (l : Launch) (D : va_G) (y : Nat → ClassId) (o : Nat) (t : Int32) (l2 : Int32) (c2 : Int32)  : kw_Mi l yX9_sight wsX9_sight ({ frames := 2, cells := 0, slots := 0, locals := 83 }) D y [.ref o, .int t, .int l2, .int c2] [(o, .inr (3, []))] (fun (r : Int32) (u : Unit) => r = ((if 0 < ((l2 - (2 * t)) - c2) then ((l2 - (2 * t)) - c2) else 0) / 2)) (fun _ => [(o, .inr (3, []))]) 0 0 := by
  refine kw_Mi.of (cc := cX9_sight) (maxL := 4) (ret := (some .int)) (by decide) rfl ?_
  intro pZ eZ s mZ beZ meZ cZ A hE
  obtain ⟨hx, hb, hr, hml, hts, hown, hlocks, hin, hA, hP, hD, hK, hN⟩ := hE
  have hS : va_S A s.heap s.heap [] := va_S.rf
  have hl := lv_entry ([.ref o, .int t, .int l2, .int c2]) (n := 4) (Nat.le_of_ble_eq_true rfl)
  rw [lg_entry_eq]
  generalize (lg_sl ([.ref o, .int t, .int l2, .int c2]) ++ List.replicate (4 - (lg_sl ([.ref o, .int t, .int l2, .int c2])).length) Slot.unset).toArray = ls at hl ⊢
  have hl : lv_has ls 4 [(0, .ref o), (1, .int t), (2, .int l2), (3, .int c2)] := hl
  refine lv_aload_n hx hb dX9_sight_0 rfl (lv_at hl 0 rfl) ?_
  refine lv_iload_n hx hb dX9_sight_1 rfl (lv_at hl 1 rfl) ?_
  refine lv_iload_n hx hb dX9_sight_2 rfl (lv_at hl 2 rfl) ?_
  refine lv_iload_n hx hb dX9_sight_3 rfl (lv_at hl 3 rfl) ?_
  have hs1 : kw_Split [(o, .inr (3, []))] [(o, .inr (3, []))] [] [0] [] := ⟨rfl, rfl, rfl, rfl, rfl, by decide⟩
  refine kw_go_i hs1 hP hD hS hA (va_runSU (As := [.int t, .int l2, .int c2]) (rest := []) (hK.1 3 _ rfl).2 ⟨hx, hb, hml, hown, hts⟩ (gc_Plain_on3 l D y o t l2 c2  _) (va_cwSU 3 hts gX9_sight_X5_sight_s7 rfl rfl rfl (by decide +kernel) ⟨Nat.le_of_ble_eq_true rfl, Nat.le_of_ble_eq_true rfl⟩) (kw_PreV (ci := 3) (q0 := 0) hs1 hP hD hK hN rfl rfl) rfl rfl hl.1 rfl (lv_room (Nat.le_of_ble_eq_true rfl)) dX9_sight_4 ⟨Nat.le_of_ble_eq_true rfl, Nat.le_of_ble_eq_true rfl⟩) (fun r2 u3 H locs hq hP hD hS => ?_)
  obtain rfl := hq
  have hP : va_P D vwCl [(o, .inr (3, []))] H := hP
  have hD : va_D A [(o, .inr (3, []))] := hD
  refine lv_iconst (v := 2) hx hb dX9_sight_7 (by decide) ?_
  refine lv_idiv hx hb dX9_sight_8 (by decide) ?_
  exact W.iret (v := ((if 0 < ((l2 - (2 * t)) - c2) then ((l2 - (2 * t)) - c2) else 0) / 2)) hx hb hr (fun tZ ht hW => ⟨⟨((if 0 < ((l2 - (2 * t)) - c2) then ((l2 - (2 * t)) - c2) else 0) / 2), (), rfl, rfl, by rw [ht]; exact hP.sub [0] rfl, hD.sub [0] (by decide) rfl⟩, hS.F ht⟩) hS.2.2 dX9_sight_9

set_option maxHeartbeats 4000000 in
set_option maxRecDepth 100000 in
theorem gc_Puddle_on6 (l : Launch) (D : va_G) (y : Nat → ClassId) (o : Nat) (t : Int32) (l2 : Int32) (c2 : Int32)  : kw_Mi l yX6_sight wsX6_sight ({ frames := 2, cells := 0, slots := 0, locals := 83 }) D y [.ref o, .int t, .int l2, .int c2] [(o, .inr (6, []))] (fun (r : Int32) (u : Unit) => r = (if ((if 0 < ((l2 - (2 * t)) - c2) then ((l2 - (2 * t)) - c2) else 0) + c2) < l2 then ((if 0 < ((l2 - (2 * t)) - c2) then ((l2 - (2 * t)) - c2) else 0) + c2) else l2)) (fun _ => [(o, .inr (6, []))]) 0 0 := by
  refine kw_Mi.of (cc := cX6_sight) (maxL := 4) (ret := (some .int)) (by decide) rfl ?_
  intro pZ eZ s mZ beZ meZ cZ A hE
  obtain ⟨hx, hb, hr, hml, hts, hown, hlocks, hin, hA, hP, hD, hK, hN⟩ := hE
  have hS : va_S A s.heap s.heap [] := va_S.rf
  have hl := lv_entry ([.ref o, .int t, .int l2, .int c2]) (n := 4) (Nat.le_of_ble_eq_true rfl)
  rw [lg_entry_eq]
  generalize (lg_sl ([.ref o, .int t, .int l2, .int c2]) ++ List.replicate (4 - (lg_sl ([.ref o, .int t, .int l2, .int c2])).length) Slot.unset).toArray = ls at hl ⊢
  have hl : lv_has ls 4 [(0, .ref o), (1, .int t), (2, .int l2), (3, .int c2)] := hl
  have fw1 := hts (.methodLink RX6 11 Lib.Math.min.name) (List.mem_of_getElem? (i := 1) rfl)
  have fw2 := hts (.static Lib.Math.min.name) (List.mem_of_getElem? (i := 2) rfl)
  have fw3 := hts (.initialized "java/lang/Math") (List.mem_of_getElem? (i := 3) rfl)
  have fw4 := hts (.code Lib.Math.min.name Lib.Math.min.code 2 (some .int)) (List.mem_of_getElem? (i := 4) rfl)
  refine lv_iload_n hx hb dX6_sight_0 rfl (lv_at hl 2 rfl) ?_
  refine lv_aload_n hx hb dX6_sight_1 rfl (lv_at hl 0 rfl) ?_
  refine lv_iload_n hx hb dX6_sight_2 rfl (lv_at hl 1 rfl) ?_
  refine lv_iload_n hx hb dX6_sight_3 rfl (lv_at hl 2 rfl) ?_
  refine lv_iload_n hx hb dX6_sight_4 rfl (lv_at hl 3 rfl) ?_
  have hs1 : kw_Split [(o, .inr (6, []))] [(o, .inr (6, []))] [] [0] [] := ⟨rfl, rfl, rfl, rfl, rfl, by decide⟩
  refine kw_go_i hs1 hP hD hS hA (va_runSU (As := [.int t, .int l2, .int c2]) (rest := [.int l2]) (hK.1 6 _ rfl).2 ⟨hx, hb, hml, hown, hts⟩ (gc_Plain_on6 l D y o t l2 c2  _) (va_cwSU 3 hts gX6_sight_X5_sight_s7 rfl rfl rfl (by decide +kernel) ⟨Nat.le_of_ble_eq_true rfl, Nat.le_of_ble_eq_true rfl⟩) (kw_PreV (ci := 6) (q0 := 0) hs1 hP hD hK hN rfl rfl) rfl rfl hl.1 rfl (lv_room (Nat.le_of_ble_eq_true rfl)) dX6_sight_5 ⟨Nat.le_of_ble_eq_true rfl, Nat.le_of_ble_eq_true rfl⟩) (fun r2 u3 H locs hq hP hD hS => ?_)
  obtain rfl := hq
  have hP : va_P D vwCl [(o, .inr (6, []))] H := hP
  have hD : va_D A [(o, .inr (6, []))] := hD
  refine lv_iload_n hx hb dX6_sight_8 rfl (lv_at hl 3 rfl) ?_
  refine lv_iadd hx hb dX6_sight_9 ?_
  refine va_mmin hx hb (hml.trans hl.1.symm) hown fw1 fw2 fw3 fw4 (Nat.le_of_ble_eq_true rfl) (Nat.le_of_ble_eq_true rfl) (Nat.le_of_ble_eq_true rfl) (Nat.le_of_ble_eq_true rfl) dX6_sight_10 ?_
  exact W.iret (v := (if ((if 0 < ((l2 - (2 * t)) - c2) then ((l2 - (2 * t)) - c2) else 0) + c2) < l2 then ((if 0 < ((l2 - (2 * t)) - c2) then ((l2 - (2 * t)) - c2) else 0) + c2) else l2)) hx hb hr (fun tZ ht hW => ⟨⟨(if ((if 0 < ((l2 - (2 * t)) - c2) then ((l2 - (2 * t)) - c2) else 0) + c2) < l2 then ((if 0 < ((l2 - (2 * t)) - c2) then ((l2 - (2 * t)) - c2) else 0) + c2) else l2), (), rfl, rfl, by rw [ht]; exact hP.sub [0] rfl, hD.sub [0] (by decide) rfl⟩, hS.F ht⟩) hS.2.2 dX6_sight_13

set_option maxHeartbeats 4000000 in
set_option maxRecDepth 100000 in
theorem gc_Hill_on2 (l : Launch) (D : va_G) (y : Nat → ClassId) (o : Nat) (t : Int32) (l2 : Int32) (c2 : Int32)  : kw_Mi l yX2_sight wsX2_sight ({ frames := 3, cells := 0, slots := 0, locals := 107 }) D y [.ref o, .int t, .int l2, .int c2] [(o, .inr (2, []))] (fun (r : Int32) (u : Unit) => True) (fun _ => [(o, .inr (2, []))]) 0 0 := by
  refine kw_Mi.of (cc := cX2_sight) (maxL := 4) (ret := (some .int)) (by decide) rfl ?_
  intro pZ eZ s mZ beZ meZ cZ A hE
  obtain ⟨hx, hb, hr, hml, hts, hown, hlocks, hin, hA, hP, hD, hK, hN⟩ := hE
  have hS : va_S A s.heap s.heap [] := va_S.rf
  have hl := lv_entry ([.ref o, .int t, .int l2, .int c2]) (n := 4) (Nat.le_of_ble_eq_true rfl)
  rw [lg_entry_eq]
  generalize (lg_sl ([.ref o, .int t, .int l2, .int c2]) ++ List.replicate (4 - (lg_sl ([.ref o, .int t, .int l2, .int c2])).length) Slot.unset).toArray = ls at hl ⊢
  have hl : lv_has ls 4 [(0, .ref o), (1, .int t), (2, .int l2), (3, .int c2)] := hl
  have fw1 := hts (.methodLink RX2 7 Lib.Math.max.name) (List.mem_of_getElem? (i := 1) rfl)
  have fw2 := hts (.static Lib.Math.max.name) (List.mem_of_getElem? (i := 2) rfl)
  have fw3 := hts (.initialized "java/lang/Math") (List.mem_of_getElem? (i := 3) rfl)
  have fw4 := hts (.code Lib.Math.max.name Lib.Math.max.code 2 (some .int)) (List.mem_of_getElem? (i := 4) rfl)
  refine lv_aload_n hx hb dX2_sight_0 rfl (lv_at hl 0 rfl) ?_
  refine lv_iload_n hx hb dX2_sight_1 rfl (lv_at hl 1 rfl) ?_
  refine lv_iload_n hx hb dX2_sight_2 rfl (lv_at hl 2 rfl) ?_
  refine lv_iconst (v := 0) hx hb dX2_sight_3 (by decide) ?_
  refine lv_iload_n hx hb dX2_sight_4 rfl (lv_at hl 3 rfl) ?_
  refine lv_iconst (v := 3) hx hb dX2_sight_5 (by decide) ?_
  refine lv_isub hx hb dX2_sight_6 ?_
  refine va_mmax hx hb (hml.trans hl.1.symm) hown fw1 fw2 fw3 fw4 (Nat.le_of_ble_eq_true rfl) (Nat.le_of_ble_eq_true rfl) (Nat.le_of_ble_eq_true rfl) (Nat.le_of_ble_eq_true rfl) dX2_sight_7 ?_
  have hs1 : kw_Split [(o, .inr (2, []))] [(o, .inr (2, []))] [] [0] [] := ⟨rfl, rfl, rfl, rfl, rfl, by decide⟩
  refine kw_go_i hs1 hP hD hS hA (va_runSU (As := [.int t, .int l2, .int (if 0 < (c2 - 3) then (c2 - 3) else 0)]) (rest := []) (hK.1 2 _ rfl).2 ⟨hx, hb, hml, hown, hts⟩ (gc_West_on2 l D y o t l2 (if 0 < (c2 - 3) then (c2 - 3) else 0)  _) (va_cwSU 3 hts gX2_sight_X8_sight_s13 rfl rfl rfl (by decide +kernel) ⟨Nat.le_of_ble_eq_true rfl, Nat.le_of_ble_eq_true rfl⟩) (kw_PreV (ci := 2) (q0 := 0) hs1 hP hD hK hN rfl rfl) rfl rfl hl.1 rfl (lv_room (Nat.le_of_ble_eq_true rfl)) dX2_sight_10 ⟨Nat.le_of_ble_eq_true rfl, Nat.le_of_ble_eq_true rfl⟩) (fun r2 u3 H locs hq hP hD hS => ?_)
  have hP : va_P D vwCl [(o, .inr (2, []))] H := hP
  have hD : va_D A [(o, .inr (2, []))] := hD
  exact W.iret (v := r2) hx hb hr (fun tZ ht hW => ⟨⟨r2, (), rfl, trivial, by rw [ht]; exact hP.sub [0] rfl, hD.sub [0] (by decide) rfl⟩, hS.F ht⟩) hS.2.2 dX2_sight_13

set_option maxHeartbeats 4000000 in
set_option maxRecDepth 100000 in
theorem gc_Lane_on3 (l : Launch) (D : va_G) (y : Nat → ClassId) (o : Nat) (t : Int32) (l2 : Int32) (c2 : Int32)  : kw_Mi l yX3_sight wsX3_sight ({ frames := 3, cells := 0, slots := 0, locals := 106 }) D y [.ref o, .int t, .int l2, .int c2] [(o, .inr (3, []))] (fun (r : Int32) (u : Unit) => True) (fun _ => [(o, .inr (3, []))]) 0 0 := by
  refine kw_Mi.of (cc := cX3_sight) (maxL := 4) (ret := (some .int)) (by decide) rfl ?_
  intro pZ eZ s mZ beZ meZ cZ A hE
  obtain ⟨hx, hb, hr, hml, hts, hown, hlocks, hin, hA, hP, hD, hK, hN⟩ := hE
  have hS : va_S A s.heap s.heap [] := va_S.rf
  have hl := lv_entry ([.ref o, .int t, .int l2, .int c2]) (n := 4) (Nat.le_of_ble_eq_true rfl)
  rw [lg_entry_eq]
  generalize (lg_sl ([.ref o, .int t, .int l2, .int c2]) ++ List.replicate (4 - (lg_sl ([.ref o, .int t, .int l2, .int c2])).length) Slot.unset).toArray = ls at hl ⊢
  have hl : lv_has ls 4 [(0, .ref o), (1, .int t), (2, .int l2), (3, .int c2)] := hl
  refine lv_iload_n hx hb dX3_sight_0 rfl (lv_at hl 1 rfl) ?_
  refine lv_bipush (v := 8) hx hb dX3_sight_1 (by decide) ?_
  refine lv_icmp_lt (tgt := 10) hx hb dX3_sight_3 (by decide) (fun h1 => ?_) (fun h2 => ?_)
  · skip
    refine lv_aload_n hx hb dX3_sight_10 rfl (lv_at hl 0 rfl) ?_
    refine lv_iload_n hx hb dX3_sight_11 rfl (lv_at hl 1 rfl) ?_
    refine lv_iload_n hx hb dX3_sight_12 rfl (lv_at hl 2 rfl) ?_
    refine lv_iload_n hx hb dX3_sight_13 rfl (lv_at hl 3 rfl) ?_
    have hs3 : kw_Split [(o, .inr (3, []))] [(o, .inr (3, []))] [] [0] [] := ⟨rfl, rfl, rfl, rfl, rfl, by decide⟩
    refine kw_go_i hs3 hP hD hS hA (va_runSU (As := [.int t, .int l2, .int c2]) (rest := []) (hK.1 3 _ rfl).2 ⟨hx, hb, hml, hown, hts⟩ (gc_Wood_on3 l D y o t l2 c2  _) (va_cwSU 3 hts gX3_sight_X9_sight_s7 rfl rfl rfl (by decide +kernel) ⟨Nat.le_of_ble_eq_true rfl, Nat.le_of_ble_eq_true rfl⟩) (kw_PreV (ci := 3) (q0 := 0) hs3 hP hD hK hN rfl rfl) rfl rfl hl.1 rfl (lv_room (Nat.le_of_ble_eq_true rfl)) dX3_sight_14 ⟨Nat.le_of_ble_eq_true rfl, Nat.le_of_ble_eq_true rfl⟩) (fun r4 u5 H locs hq hP hD hS => ?_)
    obtain rfl := hq
    have hP : va_P D vwCl [(o, .inr (3, []))] H := hP
    have hD : va_D A [(o, .inr (3, []))] := hD
    exact W.iret (v := ((if 0 < ((l2 - (2 * t)) - c2) then ((l2 - (2 * t)) - c2) else 0) / 2)) hx hb hr (fun tZ ht hW => ⟨⟨((if 0 < ((l2 - (2 * t)) - c2) then ((l2 - (2 * t)) - c2) else 0) / 2), (), rfl, trivial, by rw [ht]; exact hP.sub [0] rfl, hD.sub [0] (by decide) rfl⟩, hS.F ht⟩) hS.2.2 dX3_sight_17
  · skip
    refine lv_iconst (v := 0) hx hb dX3_sight_6 (by decide) ?_
    refine lv_goto (tgt := 17) hx hb dX3_sight_7 (by decide) ?_
    exact W.iret (v := 0) hx hb hr (fun tZ ht hW => ⟨⟨0, (), rfl, trivial, by rw [ht]; exact hP.sub [0] rfl, hD.sub [0] (by decide) rfl⟩, hS.F ht⟩) hS.2.2 dX3_sight_17

set_option maxHeartbeats 4000000 in
set_option maxRecDepth 100000 in
theorem gc_shows (l : Launch) (D : va_G) (y : Nat → ClassId) (nw : Nat) (kk : Nat) (nk : Nat) (nd : Nat) (ne : Nat) (nm : Nat) (nn : Nat) (fi : Nat) (gl : Nat) (un : Nat) (mi : Nat) (no : Nat) (d : Nat) (dl : Nat) (da : Nat) (ds : Nat) (dst : Int32) (dcl : Int32) (dnu : Int32) (dfl : Nat → Int32) (fk : Nat → Int32) (k0 : Nat) (k1 : Nat) (k2 : Nat) (k3 : Nat) (k4 : Nat) (k5 : Nat) (fq : Nat → Option Nat) (k : Nat) (t : Int32) (hfi : fi ≤ 6) (hgl : gl ≤ 5) (hun : un ≤ 8) (hmi : mi ≤ 4) (hno : no ≤ 6) (hk : kw_bd 6 6 fk) (hq0 : fq 0 = some k0) (hq1 : fq 1 = some k1) (hq2 : fq 2 = some k2) (hq3 : fq 3 = some k3) (hq4 : fq 4 = some k4) (hq5 : fq 5 = some k5) (hkk : k < 6) : kw_Mi l yX4_shows wsX4_shows ({ frames := 4, cells := 0, slots := 0, locals := 130 }) D y [.ref nw, .ref d, .int (nI k), .int t] [(nw, .inr (4, [.ref kk, .ref nk, .ref nd, .ref ne, .ref nm, .ref nn, .int (nI fi), .int (nI gl), .int (nI un), .int (nI mi), .int (nI no)])), (nk, .inl (y 0, 6, .inl fk)), (d, .inr (1, [.ref dl, .ref da, .ref ds, .int dst, .int dcl, .int dnu])), (dl, .inl (y 0, 6, .inl dfl)), (kk, .inl (y 5, 6, .inr (.inr (.inr (.inr fq))))), (k0, .inr (5, [])), (k1, .inr (8, [])), (k2, .inr (9, [])), (k3, .inr (6, [])), (k4, .inr (2, [])), (k5, .inr (3, []))] (fun (r : Int32) (u : Unit) => True) (fun _ => [(nw, .inr (4, [.ref kk, .ref nk, .ref nd, .ref ne, .ref nm, .ref nn, .int (nI fi), .int (nI gl), .int (nI un), .int (nI mi), .int (nI no)])), (nk, .inl (y 0, 6, .inl fk)), (d, .inr (1, [.ref dl, .ref da, .ref ds, .int dst, .int dcl, .int dnu])), (dl, .inl (y 0, 6, .inl dfl)), (kk, .inl (y 5, 6, .inr (.inr (.inr (.inr fq))))), (k0, .inr (5, [])), (k1, .inr (8, [])), (k2, .inr (9, [])), (k3, .inr (6, [])), (k4, .inr (2, [])), (k5, .inr (3, []))]) 0 0 := by
  refine kw_Mi.of (cc := cX4_shows) (maxL := 4) (ret := (some .int)) (by decide) rfl ?_
  intro pZ eZ s mZ beZ meZ cZ A hE
  obtain ⟨hx, hb, hr, hml, hts, hown, hlocks, hin, hA, hP, hD, hK, hN⟩ := hE
  have hS : va_S A s.heap s.heap [] := va_S.rf
  have hl := lv_entry ([.ref nw, .ref d, .int (nI k), .int t]) (n := 4) (Nat.le_of_ble_eq_true rfl)
  rw [lg_entry_eq]
  generalize (lg_sl ([.ref nw, .ref d, .int (nI k), .int t]) ++ List.replicate (4 - (lg_sl ([.ref nw, .ref d, .int (nI k), .int t])).length) Slot.unset).toArray = ls at hl ⊢
  have hl : lv_has ls 4 [(0, .ref nw), (1, .ref d), (2, .int (nI k)), (3, .int t)] := hl
  have fw1 := hts (.fieldLink RX4 34 "GleanDusk$Parish" "kinds" "[LGleanDusk$Plain;") (List.mem_of_getElem? (i := 1) rfl)
  have fw2 := hts (.fieldLink RX4 9 "GleanDusk$Parish" "kind" "[I") (List.mem_of_getElem? (i := 2) rfl)
  have fw3 := hts (.fieldLink RX4 77 "GleanDusk$Dusk" "light" "[I") (List.mem_of_getElem? (i := 3) rfl)
  have fw4 := hts (.fieldLink RX4 57 "GleanDusk$Dusk" "cloud" "I") (List.mem_of_getElem? (i := 4) rfl)
  have iw4 : ∀ w ∈ wsX40, w ∈ wsX4_shows := fun _ h => List.mem_cons_of_mem _ (List.mem_append_left _ (List.mem_append_right _ h))
  have iw1 : ∀ w ∈ wsX10, w ∈ wsX4_shows := fun _ h => List.mem_cons_of_mem _ (List.mem_append_right _ h)
  refine lv_iload_n hx hb dX4_shows_0 rfl (lv_at hl 3 rfl) ?_
  refine lv_bipush (v := 12) hx hb dX4_shows_1 (by decide) ?_
  refine lv_icmp_lt (tgt := 10) hx hb dX4_shows_3 (by decide) (fun h1 => ?_) (fun h2 => ?_)
  · skip
    refine lv_aload_n hx hb dX4_shows_10 rfl (lv_at hl 0 rfl) ?_
    refine va_get (D := D) (ci := 4) (v := .ref kk) (C := RX4) (T := TX4) (N := 11) hx hb hts iw4 hown hK hP 0 rfl rfl 0 (by decide) fw1 (fun _ h9 => h9) rfl dX4_shows_11 ?_
    refine lv_aload_n hx hb dX4_shows_14 rfl (lv_at hl 0 rfl) ?_
    refine va_get (D := D) (ci := 4) (v := .ref nk) (C := RX4) (T := TX4) (N := 11) hx hb hts iw4 hown hK hP 0 rfl rfl 1 (by decide) fw2 (fun _ h9 => h9) rfl dX4_shows_15 ?_
    refine lv_iload_n hx hb dX4_shows_18 rfl (lv_at hl 2 rfl) ?_
    refine va_iald hx hb hK hP 1 0 rfl rfl (vp_in_nI (by omega) (by decide)) dX4_shows_19 ?_
    rw [nI_clamp (n := k) (by omega)]
    obtain ⟨w3, h4, h5⟩ := kw_bdv hk (k := k) (by omega) (by decide)
    rw [h5]
    rcases (show w3 = 0 ∨ w3 = 1 ∨ w3 = 2 ∨ w3 = 3 ∨ w3 = 4 ∨ w3 = 5 by omega) with rfl | rfl | rfl | rfl | rfl | rfl
    · skip
      refine va_aldq hx hb hK hP 4 5 rfl rfl (vp_in_nI (by omega) (by decide)) dX4_shows_20 ?_
      rw [nI_clamp (n := 0) (by omega), show va_rf (fq 0) = .ref k0 from congrArg va_rf hq0]
      refine lv_iload_n hx hb dX4_shows_21 rfl (lv_at hl 3 rfl) ?_
      refine lv_aload_n hx hb dX4_shows_22 rfl (lv_at hl 1 rfl) ?_
      refine va_get (D := D) (ci := 1) (v := .ref dl) (C := RX1) (T := TX1) (N := 6) hx hb hts iw1 hown hK hP 2 rfl rfl 0 (by decide) fw3 (fun _ h9 => h9) rfl dX4_shows_23 ?_
      refine lv_iload_n hx hb dX4_shows_26 rfl (lv_at hl 2 rfl) ?_
      refine va_iald hx hb hK hP 3 0 rfl rfl (vp_in_nI (by omega) (by decide)) dX4_shows_27 ?_
      rw [nI_clamp (n := k) (by omega)]
      refine lv_aload_n hx hb dX4_shows_28 rfl (lv_at hl 1 rfl) ?_
      refine va_get (D := D) (ci := 1) (v := .int dcl) (C := RX1) (T := TX1) (N := 6) hx hb hts iw1 hown hK hP 2 rfl rfl 4 (by decide) fw4 (fun _ h9 => h9) rfl dX4_shows_29 ?_
      have hs6 : kw_Split [(nw, .inr (4, [.ref kk, .ref nk, .ref nd, .ref ne, .ref nm, .ref nn, .int (nI fi), .int (nI gl), .int (nI un), .int (nI mi), .int (nI no)])), (nk, .inl (y 0, 6, .inl fk)), (d, .inr (1, [.ref dl, .ref da, .ref ds, .int dst, .int dcl, .int dnu])), (dl, .inl (y 0, 6, .inl dfl)), (kk, .inl (y 5, 6, .inr (.inr (.inr (.inr fq))))), (k0, .inr (5, [])), (k1, .inr (8, [])), (k2, .inr (9, [])), (k3, .inr (6, [])), (k4, .inr (2, [])), (k5, .inr (3, []))] [(k0, .inr (5, []))] [(nw, .inr (4, [.ref kk, .ref nk, .ref nd, .ref ne, .ref nm, .ref nn, .int (nI fi), .int (nI gl), .int (nI un), .int (nI mi), .int (nI no)])), (nk, .inl (y 0, 6, .inl fk)), (d, .inr (1, [.ref dl, .ref da, .ref ds, .int dst, .int dcl, .int dnu])), (dl, .inl (y 0, 6, .inl dfl)), (kk, .inl (y 5, 6, .inr (.inr (.inr (.inr fq))))), (k1, .inr (8, [])), (k2, .inr (9, [])), (k3, .inr (6, [])), (k4, .inr (2, [])), (k5, .inr (3, []))] [5] [0, 1, 2, 3, 4, 6, 7, 8, 9, 10] := ⟨rfl, rfl, rfl, rfl, rfl, by decide⟩
      refine kw_go_i hs6 hP hD hS hA (va_runV (As := [.int t, .int (dfl k), .int dcl]) (rest := []) ⟨hx, hb, hml, hown, hts⟩ (gc_Plain_on5 l D y k0 t (dfl k) dcl  _) (cwV 3 hts gX4_shows_X5_sight rfl rfl rfl (by decide +kernel) ⟨Nat.le_of_ble_eq_true rfl, Nat.le_of_ble_eq_true rfl⟩) (kw_PreV (ci := 5) (q0 := 5) hs6 hP hD hK hN rfl rfl) rfl rfl hl.1 rfl (lv_room (Nat.le_of_ble_eq_true rfl)) dX4_shows_32 ⟨Nat.le_of_ble_eq_true rfl, Nat.le_of_ble_eq_true rfl⟩) (fun r7 u8 H locs hq hP hD hS => ?_)
      obtain rfl := hq
      have hP : va_P D vwCl [(nw, .inr (4, [.ref kk, .ref nk, .ref nd, .ref ne, .ref nm, .ref nn, .int (nI fi), .int (nI gl), .int (nI un), .int (nI mi), .int (nI no)])), (nk, .inl (y 0, 6, .inl fk)), (d, .inr (1, [.ref dl, .ref da, .ref ds, .int dst, .int dcl, .int dnu])), (dl, .inl (y 0, 6, .inl dfl)), (kk, .inl (y 5, 6, .inr (.inr (.inr (.inr fq))))), (k1, .inr (8, [])), (k2, .inr (9, [])), (k3, .inr (6, [])), (k4, .inr (2, [])), (k5, .inr (3, [])), (k0, .inr (5, []))] H := hP
      have hD : va_D A [(nw, .inr (4, [.ref kk, .ref nk, .ref nd, .ref ne, .ref nm, .ref nn, .int (nI fi), .int (nI gl), .int (nI un), .int (nI mi), .int (nI no)])), (nk, .inl (y 0, 6, .inl fk)), (d, .inr (1, [.ref dl, .ref da, .ref ds, .int dst, .int dcl, .int dnu])), (dl, .inl (y 0, 6, .inl dfl)), (kk, .inl (y 5, 6, .inr (.inr (.inr (.inr fq))))), (k1, .inr (8, [])), (k2, .inr (9, [])), (k3, .inr (6, [])), (k4, .inr (2, [])), (k5, .inr (3, [])), (k0, .inr (5, []))] := hD
      exact W.iret (v := (if 0 < (((dfl k) - (2 * t)) - dcl) then (((dfl k) - (2 * t)) - dcl) else 0)) hx hb hr (fun tZ ht hW => ⟨⟨(if 0 < (((dfl k) - (2 * t)) - dcl) then (((dfl k) - (2 * t)) - dcl) else 0), (), rfl, trivial, by rw [ht]; exact hP.sub [0, 1, 2, 3, 4, 10, 5, 6, 7, 8, 9] rfl, hD.sub [0, 1, 2, 3, 4, 10, 5, 6, 7, 8, 9] (by decide) rfl⟩, hS.F ht⟩) hS.2.2 dX4_shows_35
    · skip
      refine va_aldq hx hb hK hP 4 5 rfl rfl (vp_in_nI (by omega) (by decide)) dX4_shows_20 ?_
      rw [nI_clamp (n := 1) (by omega), show va_rf (fq 1) = .ref k1 from congrArg va_rf hq1]
      refine lv_iload_n hx hb dX4_shows_21 rfl (lv_at hl 3 rfl) ?_
      refine lv_aload_n hx hb dX4_shows_22 rfl (lv_at hl 1 rfl) ?_
      refine va_get (D := D) (ci := 1) (v := .ref dl) (C := RX1) (T := TX1) (N := 6) hx hb hts iw1 hown hK hP 2 rfl rfl 0 (by decide) fw3 (fun _ h9 => h9) rfl dX4_shows_23 ?_
      refine lv_iload_n hx hb dX4_shows_26 rfl (lv_at hl 2 rfl) ?_
      refine va_iald hx hb hK hP 3 0 rfl rfl (vp_in_nI (by omega) (by decide)) dX4_shows_27 ?_
      rw [nI_clamp (n := k) (by omega)]
      refine lv_aload_n hx hb dX4_shows_28 rfl (lv_at hl 1 rfl) ?_
      refine va_get (D := D) (ci := 1) (v := .int dcl) (C := RX1) (T := TX1) (N := 6) hx hb hts iw1 hown hK hP 2 rfl rfl 4 (by decide) fw4 (fun _ h9 => h9) rfl dX4_shows_29 ?_
      have hs9 : kw_Split [(nw, .inr (4, [.ref kk, .ref nk, .ref nd, .ref ne, .ref nm, .ref nn, .int (nI fi), .int (nI gl), .int (nI un), .int (nI mi), .int (nI no)])), (nk, .inl (y 0, 6, .inl fk)), (d, .inr (1, [.ref dl, .ref da, .ref ds, .int dst, .int dcl, .int dnu])), (dl, .inl (y 0, 6, .inl dfl)), (kk, .inl (y 5, 6, .inr (.inr (.inr (.inr fq))))), (k0, .inr (5, [])), (k1, .inr (8, [])), (k2, .inr (9, [])), (k3, .inr (6, [])), (k4, .inr (2, [])), (k5, .inr (3, []))] [(k1, .inr (8, []))] [(nw, .inr (4, [.ref kk, .ref nk, .ref nd, .ref ne, .ref nm, .ref nn, .int (nI fi), .int (nI gl), .int (nI un), .int (nI mi), .int (nI no)])), (nk, .inl (y 0, 6, .inl fk)), (d, .inr (1, [.ref dl, .ref da, .ref ds, .int dst, .int dcl, .int dnu])), (dl, .inl (y 0, 6, .inl dfl)), (kk, .inl (y 5, 6, .inr (.inr (.inr (.inr fq))))), (k0, .inr (5, [])), (k2, .inr (9, [])), (k3, .inr (6, [])), (k4, .inr (2, [])), (k5, .inr (3, []))] [6] [0, 1, 2, 3, 4, 5, 7, 8, 9, 10] := ⟨rfl, rfl, rfl, rfl, rfl, by decide⟩
      refine kw_go_i hs9 hP hD hS hA (va_runU (As := [.int t, .int (dfl k), .int dcl]) (rest := []) ⟨hx, hb, hml, hown, hts⟩ (gc_West_on8 l D y k1 t (dfl k) dcl  _) (va_cwO 3 hts gX4_shows_X8_sight_u89X8 rfl rfl rfl (List.mem_of_getElem? (i := 26) rfl) (by decide +kernel) ⟨Nat.le_of_ble_eq_true rfl, Nat.le_of_ble_eq_true rfl⟩) (kw_PreV (ci := 8) (q0 := 6) hs9 hP hD hK hN rfl rfl) rfl rfl hl.1 rfl (lv_room (Nat.le_of_ble_eq_true rfl)) dX4_shows_32 ⟨Nat.le_of_ble_eq_true rfl, Nat.le_of_ble_eq_true rfl⟩) (fun r10 u11 H locs hq hP hD hS => ?_)
      have hP : va_P D vwCl [(nw, .inr (4, [.ref kk, .ref nk, .ref nd, .ref ne, .ref nm, .ref nn, .int (nI fi), .int (nI gl), .int (nI un), .int (nI mi), .int (nI no)])), (nk, .inl (y 0, 6, .inl fk)), (d, .inr (1, [.ref dl, .ref da, .ref ds, .int dst, .int dcl, .int dnu])), (dl, .inl (y 0, 6, .inl dfl)), (kk, .inl (y 5, 6, .inr (.inr (.inr (.inr fq))))), (k0, .inr (5, [])), (k2, .inr (9, [])), (k3, .inr (6, [])), (k4, .inr (2, [])), (k5, .inr (3, [])), (k1, .inr (8, []))] H := hP
      have hD : va_D A [(nw, .inr (4, [.ref kk, .ref nk, .ref nd, .ref ne, .ref nm, .ref nn, .int (nI fi), .int (nI gl), .int (nI un), .int (nI mi), .int (nI no)])), (nk, .inl (y 0, 6, .inl fk)), (d, .inr (1, [.ref dl, .ref da, .ref ds, .int dst, .int dcl, .int dnu])), (dl, .inl (y 0, 6, .inl dfl)), (kk, .inl (y 5, 6, .inr (.inr (.inr (.inr fq))))), (k0, .inr (5, [])), (k2, .inr (9, [])), (k3, .inr (6, [])), (k4, .inr (2, [])), (k5, .inr (3, [])), (k1, .inr (8, []))] := hD
      exact W.iret (v := r10) hx hb hr (fun tZ ht hW => ⟨⟨r10, (), rfl, trivial, by rw [ht]; exact hP.sub [0, 1, 2, 3, 4, 5, 10, 6, 7, 8, 9] rfl, hD.sub [0, 1, 2, 3, 4, 5, 10, 6, 7, 8, 9] (by decide) rfl⟩, hS.F ht⟩) hS.2.2 dX4_shows_35
    · skip
      refine va_aldq hx hb hK hP 4 5 rfl rfl (vp_in_nI (by omega) (by decide)) dX4_shows_20 ?_
      rw [nI_clamp (n := 2) (by omega), show va_rf (fq 2) = .ref k2 from congrArg va_rf hq2]
      refine lv_iload_n hx hb dX4_shows_21 rfl (lv_at hl 3 rfl) ?_
      refine lv_aload_n hx hb dX4_shows_22 rfl (lv_at hl 1 rfl) ?_
      refine va_get (D := D) (ci := 1) (v := .ref dl) (C := RX1) (T := TX1) (N := 6) hx hb hts iw1 hown hK hP 2 rfl rfl 0 (by decide) fw3 (fun _ h9 => h9) rfl dX4_shows_23 ?_
      refine lv_iload_n hx hb dX4_shows_26 rfl (lv_at hl 2 rfl) ?_
      refine va_iald hx hb hK hP 3 0 rfl rfl (vp_in_nI (by omega) (by decide)) dX4_shows_27 ?_
      rw [nI_clamp (n := k) (by omega)]
      refine lv_aload_n hx hb dX4_shows_28 rfl (lv_at hl 1 rfl) ?_
      refine va_get (D := D) (ci := 1) (v := .int dcl) (C := RX1) (T := TX1) (N := 6) hx hb hts iw1 hown hK hP 2 rfl rfl 4 (by decide) fw4 (fun _ h9 => h9) rfl dX4_shows_29 ?_
      have hs12 : kw_Split [(nw, .inr (4, [.ref kk, .ref nk, .ref nd, .ref ne, .ref nm, .ref nn, .int (nI fi), .int (nI gl), .int (nI un), .int (nI mi), .int (nI no)])), (nk, .inl (y 0, 6, .inl fk)), (d, .inr (1, [.ref dl, .ref da, .ref ds, .int dst, .int dcl, .int dnu])), (dl, .inl (y 0, 6, .inl dfl)), (kk, .inl (y 5, 6, .inr (.inr (.inr (.inr fq))))), (k0, .inr (5, [])), (k1, .inr (8, [])), (k2, .inr (9, [])), (k3, .inr (6, [])), (k4, .inr (2, [])), (k5, .inr (3, []))] [(k2, .inr (9, []))] [(nw, .inr (4, [.ref kk, .ref nk, .ref nd, .ref ne, .ref nm, .ref nn, .int (nI fi), .int (nI gl), .int (nI un), .int (nI mi), .int (nI no)])), (nk, .inl (y 0, 6, .inl fk)), (d, .inr (1, [.ref dl, .ref da, .ref ds, .int dst, .int dcl, .int dnu])), (dl, .inl (y 0, 6, .inl dfl)), (kk, .inl (y 5, 6, .inr (.inr (.inr (.inr fq))))), (k0, .inr (5, [])), (k1, .inr (8, [])), (k3, .inr (6, [])), (k4, .inr (2, [])), (k5, .inr (3, []))] [7] [0, 1, 2, 3, 4, 5, 6, 8, 9, 10] := ⟨rfl, rfl, rfl, rfl, rfl, by decide⟩
      refine kw_go_i hs12 hP hD hS hA (va_runU (As := [.int t, .int (dfl k), .int dcl]) (rest := []) ⟨hx, hb, hml, hown, hts⟩ (gc_Wood_on9 l D y k2 t (dfl k) dcl  _) (va_cwO 3 hts gX4_shows_X9_sight_u89X9 rfl rfl rfl (List.mem_of_getElem? (i := 26) rfl) (by decide +kernel) ⟨Nat.le_of_ble_eq_true rfl, Nat.le_of_ble_eq_true rfl⟩) (kw_PreV (ci := 9) (q0 := 7) hs12 hP hD hK hN rfl rfl) rfl rfl hl.1 rfl (lv_room (Nat.le_of_ble_eq_true rfl)) dX4_shows_32 ⟨Nat.le_of_ble_eq_true rfl, Nat.le_of_ble_eq_true rfl⟩) (fun r13 u14 H locs hq hP hD hS => ?_)
      obtain rfl := hq
      have hP : va_P D vwCl [(nw, .inr (4, [.ref kk, .ref nk, .ref nd, .ref ne, .ref nm, .ref nn, .int (nI fi), .int (nI gl), .int (nI un), .int (nI mi), .int (nI no)])), (nk, .inl (y 0, 6, .inl fk)), (d, .inr (1, [.ref dl, .ref da, .ref ds, .int dst, .int dcl, .int dnu])), (dl, .inl (y 0, 6, .inl dfl)), (kk, .inl (y 5, 6, .inr (.inr (.inr (.inr fq))))), (k0, .inr (5, [])), (k1, .inr (8, [])), (k3, .inr (6, [])), (k4, .inr (2, [])), (k5, .inr (3, [])), (k2, .inr (9, []))] H := hP
      have hD : va_D A [(nw, .inr (4, [.ref kk, .ref nk, .ref nd, .ref ne, .ref nm, .ref nn, .int (nI fi), .int (nI gl), .int (nI un), .int (nI mi), .int (nI no)])), (nk, .inl (y 0, 6, .inl fk)), (d, .inr (1, [.ref dl, .ref da, .ref ds, .int dst, .int dcl, .int dnu])), (dl, .inl (y 0, 6, .inl dfl)), (kk, .inl (y 5, 6, .inr (.inr (.inr (.inr fq))))), (k0, .inr (5, [])), (k1, .inr (8, [])), (k3, .inr (6, [])), (k4, .inr (2, [])), (k5, .inr (3, [])), (k2, .inr (9, []))] := hD
      exact W.iret (v := ((if 0 < (((dfl k) - (2 * t)) - dcl) then (((dfl k) - (2 * t)) - dcl) else 0) / 2)) hx hb hr (fun tZ ht hW => ⟨⟨((if 0 < (((dfl k) - (2 * t)) - dcl) then (((dfl k) - (2 * t)) - dcl) else 0) / 2), (), rfl, trivial, by rw [ht]; exact hP.sub [0, 1, 2, 3, 4, 5, 6, 10, 7, 8, 9] rfl, hD.sub [0, 1, 2, 3, 4, 5, 6, 10, 7, 8, 9] (by decide) rfl⟩, hS.F ht⟩) hS.2.2 dX4_shows_35
    · skip
      refine va_aldq hx hb hK hP 4 5 rfl rfl (vp_in_nI (by omega) (by decide)) dX4_shows_20 ?_
      rw [nI_clamp (n := 3) (by omega), show va_rf (fq 3) = .ref k3 from congrArg va_rf hq3]
      refine lv_iload_n hx hb dX4_shows_21 rfl (lv_at hl 3 rfl) ?_
      refine lv_aload_n hx hb dX4_shows_22 rfl (lv_at hl 1 rfl) ?_
      refine va_get (D := D) (ci := 1) (v := .ref dl) (C := RX1) (T := TX1) (N := 6) hx hb hts iw1 hown hK hP 2 rfl rfl 0 (by decide) fw3 (fun _ h9 => h9) rfl dX4_shows_23 ?_
      refine lv_iload_n hx hb dX4_shows_26 rfl (lv_at hl 2 rfl) ?_
      refine va_iald hx hb hK hP 3 0 rfl rfl (vp_in_nI (by omega) (by decide)) dX4_shows_27 ?_
      rw [nI_clamp (n := k) (by omega)]
      refine lv_aload_n hx hb dX4_shows_28 rfl (lv_at hl 1 rfl) ?_
      refine va_get (D := D) (ci := 1) (v := .int dcl) (C := RX1) (T := TX1) (N := 6) hx hb hts iw1 hown hK hP 2 rfl rfl 4 (by decide) fw4 (fun _ h9 => h9) rfl dX4_shows_29 ?_
      have hs15 : kw_Split [(nw, .inr (4, [.ref kk, .ref nk, .ref nd, .ref ne, .ref nm, .ref nn, .int (nI fi), .int (nI gl), .int (nI un), .int (nI mi), .int (nI no)])), (nk, .inl (y 0, 6, .inl fk)), (d, .inr (1, [.ref dl, .ref da, .ref ds, .int dst, .int dcl, .int dnu])), (dl, .inl (y 0, 6, .inl dfl)), (kk, .inl (y 5, 6, .inr (.inr (.inr (.inr fq))))), (k0, .inr (5, [])), (k1, .inr (8, [])), (k2, .inr (9, [])), (k3, .inr (6, [])), (k4, .inr (2, [])), (k5, .inr (3, []))] [(k3, .inr (6, []))] [(nw, .inr (4, [.ref kk, .ref nk, .ref nd, .ref ne, .ref nm, .ref nn, .int (nI fi), .int (nI gl), .int (nI un), .int (nI mi), .int (nI no)])), (nk, .inl (y 0, 6, .inl fk)), (d, .inr (1, [.ref dl, .ref da, .ref ds, .int dst, .int dcl, .int dnu])), (dl, .inl (y 0, 6, .inl dfl)), (kk, .inl (y 5, 6, .inr (.inr (.inr (.inr fq))))), (k0, .inr (5, [])), (k1, .inr (8, [])), (k2, .inr (9, [])), (k4, .inr (2, [])), (k5, .inr (3, []))] [8] [0, 1, 2, 3, 4, 5, 6, 7, 9, 10] := ⟨rfl, rfl, rfl, rfl, rfl, by decide⟩
      refine kw_go_i hs15 hP hD hS hA (va_runU (As := [.int t, .int (dfl k), .int dcl]) (rest := []) ⟨hx, hb, hml, hown, hts⟩ (gc_Puddle_on6 l D y k3 t (dfl k) dcl  _) (va_cwO 3 hts gX4_shows_X6_sight_u89X6 rfl rfl rfl (List.mem_of_getElem? (i := 26) rfl) (by decide +kernel) ⟨Nat.le_of_ble_eq_true rfl, Nat.le_of_ble_eq_true rfl⟩) (kw_PreV (ci := 6) (q0 := 8) hs15 hP hD hK hN rfl rfl) rfl rfl hl.1 rfl (lv_room (Nat.le_of_ble_eq_true rfl)) dX4_shows_32 ⟨Nat.le_of_ble_eq_true rfl, Nat.le_of_ble_eq_true rfl⟩) (fun r16 u17 H locs hq hP hD hS => ?_)
      obtain rfl := hq
      have hP : va_P D vwCl [(nw, .inr (4, [.ref kk, .ref nk, .ref nd, .ref ne, .ref nm, .ref nn, .int (nI fi), .int (nI gl), .int (nI un), .int (nI mi), .int (nI no)])), (nk, .inl (y 0, 6, .inl fk)), (d, .inr (1, [.ref dl, .ref da, .ref ds, .int dst, .int dcl, .int dnu])), (dl, .inl (y 0, 6, .inl dfl)), (kk, .inl (y 5, 6, .inr (.inr (.inr (.inr fq))))), (k0, .inr (5, [])), (k1, .inr (8, [])), (k2, .inr (9, [])), (k4, .inr (2, [])), (k5, .inr (3, [])), (k3, .inr (6, []))] H := hP
      have hD : va_D A [(nw, .inr (4, [.ref kk, .ref nk, .ref nd, .ref ne, .ref nm, .ref nn, .int (nI fi), .int (nI gl), .int (nI un), .int (nI mi), .int (nI no)])), (nk, .inl (y 0, 6, .inl fk)), (d, .inr (1, [.ref dl, .ref da, .ref ds, .int dst, .int dcl, .int dnu])), (dl, .inl (y 0, 6, .inl dfl)), (kk, .inl (y 5, 6, .inr (.inr (.inr (.inr fq))))), (k0, .inr (5, [])), (k1, .inr (8, [])), (k2, .inr (9, [])), (k4, .inr (2, [])), (k5, .inr (3, [])), (k3, .inr (6, []))] := hD
      exact W.iret (v := (if ((if 0 < (((dfl k) - (2 * t)) - dcl) then (((dfl k) - (2 * t)) - dcl) else 0) + dcl) < (dfl k) then ((if 0 < (((dfl k) - (2 * t)) - dcl) then (((dfl k) - (2 * t)) - dcl) else 0) + dcl) else (dfl k))) hx hb hr (fun tZ ht hW => ⟨⟨(if ((if 0 < (((dfl k) - (2 * t)) - dcl) then (((dfl k) - (2 * t)) - dcl) else 0) + dcl) < (dfl k) then ((if 0 < (((dfl k) - (2 * t)) - dcl) then (((dfl k) - (2 * t)) - dcl) else 0) + dcl) else (dfl k)), (), rfl, trivial, by rw [ht]; exact hP.sub [0, 1, 2, 3, 4, 5, 6, 7, 10, 8, 9] rfl, hD.sub [0, 1, 2, 3, 4, 5, 6, 7, 10, 8, 9] (by decide) rfl⟩, hS.F ht⟩) hS.2.2 dX4_shows_35
    · skip
      refine va_aldq hx hb hK hP 4 5 rfl rfl (vp_in_nI (by omega) (by decide)) dX4_shows_20 ?_
      rw [nI_clamp (n := 4) (by omega), show va_rf (fq 4) = .ref k4 from congrArg va_rf hq4]
      refine lv_iload_n hx hb dX4_shows_21 rfl (lv_at hl 3 rfl) ?_
      refine lv_aload_n hx hb dX4_shows_22 rfl (lv_at hl 1 rfl) ?_
      refine va_get (D := D) (ci := 1) (v := .ref dl) (C := RX1) (T := TX1) (N := 6) hx hb hts iw1 hown hK hP 2 rfl rfl 0 (by decide) fw3 (fun _ h9 => h9) rfl dX4_shows_23 ?_
      refine lv_iload_n hx hb dX4_shows_26 rfl (lv_at hl 2 rfl) ?_
      refine va_iald hx hb hK hP 3 0 rfl rfl (vp_in_nI (by omega) (by decide)) dX4_shows_27 ?_
      rw [nI_clamp (n := k) (by omega)]
      refine lv_aload_n hx hb dX4_shows_28 rfl (lv_at hl 1 rfl) ?_
      refine va_get (D := D) (ci := 1) (v := .int dcl) (C := RX1) (T := TX1) (N := 6) hx hb hts iw1 hown hK hP 2 rfl rfl 4 (by decide) fw4 (fun _ h9 => h9) rfl dX4_shows_29 ?_
      have hs18 : kw_Split [(nw, .inr (4, [.ref kk, .ref nk, .ref nd, .ref ne, .ref nm, .ref nn, .int (nI fi), .int (nI gl), .int (nI un), .int (nI mi), .int (nI no)])), (nk, .inl (y 0, 6, .inl fk)), (d, .inr (1, [.ref dl, .ref da, .ref ds, .int dst, .int dcl, .int dnu])), (dl, .inl (y 0, 6, .inl dfl)), (kk, .inl (y 5, 6, .inr (.inr (.inr (.inr fq))))), (k0, .inr (5, [])), (k1, .inr (8, [])), (k2, .inr (9, [])), (k3, .inr (6, [])), (k4, .inr (2, [])), (k5, .inr (3, []))] [(k4, .inr (2, []))] [(nw, .inr (4, [.ref kk, .ref nk, .ref nd, .ref ne, .ref nm, .ref nn, .int (nI fi), .int (nI gl), .int (nI un), .int (nI mi), .int (nI no)])), (nk, .inl (y 0, 6, .inl fk)), (d, .inr (1, [.ref dl, .ref da, .ref ds, .int dst, .int dcl, .int dnu])), (dl, .inl (y 0, 6, .inl dfl)), (kk, .inl (y 5, 6, .inr (.inr (.inr (.inr fq))))), (k0, .inr (5, [])), (k1, .inr (8, [])), (k2, .inr (9, [])), (k3, .inr (6, [])), (k5, .inr (3, []))] [9] [0, 1, 2, 3, 4, 5, 6, 7, 8, 10] := ⟨rfl, rfl, rfl, rfl, rfl, by decide⟩
      refine kw_go_i hs18 hP hD hS hA (va_runU (As := [.int t, .int (dfl k), .int dcl]) (rest := []) ⟨hx, hb, hml, hown, hts⟩ (gc_Hill_on2 l D y k4 t (dfl k) dcl  _) (va_cwO 3 hts gX4_shows_X2_sight_u89X2 rfl rfl rfl (List.mem_of_getElem? (i := 26) rfl) (by decide +kernel) ⟨Nat.le_of_ble_eq_true rfl, Nat.le_of_ble_eq_true rfl⟩) (kw_PreV (ci := 2) (q0 := 9) hs18 hP hD hK hN rfl rfl) rfl rfl hl.1 rfl (lv_room (Nat.le_of_ble_eq_true rfl)) dX4_shows_32 ⟨Nat.le_of_ble_eq_true rfl, Nat.le_of_ble_eq_true rfl⟩) (fun r19 u20 H locs hq hP hD hS => ?_)
      have hP : va_P D vwCl [(nw, .inr (4, [.ref kk, .ref nk, .ref nd, .ref ne, .ref nm, .ref nn, .int (nI fi), .int (nI gl), .int (nI un), .int (nI mi), .int (nI no)])), (nk, .inl (y 0, 6, .inl fk)), (d, .inr (1, [.ref dl, .ref da, .ref ds, .int dst, .int dcl, .int dnu])), (dl, .inl (y 0, 6, .inl dfl)), (kk, .inl (y 5, 6, .inr (.inr (.inr (.inr fq))))), (k0, .inr (5, [])), (k1, .inr (8, [])), (k2, .inr (9, [])), (k3, .inr (6, [])), (k5, .inr (3, [])), (k4, .inr (2, []))] H := hP
      have hD : va_D A [(nw, .inr (4, [.ref kk, .ref nk, .ref nd, .ref ne, .ref nm, .ref nn, .int (nI fi), .int (nI gl), .int (nI un), .int (nI mi), .int (nI no)])), (nk, .inl (y 0, 6, .inl fk)), (d, .inr (1, [.ref dl, .ref da, .ref ds, .int dst, .int dcl, .int dnu])), (dl, .inl (y 0, 6, .inl dfl)), (kk, .inl (y 5, 6, .inr (.inr (.inr (.inr fq))))), (k0, .inr (5, [])), (k1, .inr (8, [])), (k2, .inr (9, [])), (k3, .inr (6, [])), (k5, .inr (3, [])), (k4, .inr (2, []))] := hD
      exact W.iret (v := r19) hx hb hr (fun tZ ht hW => ⟨⟨r19, (), rfl, trivial, by rw [ht]; exact hP.sub [0, 1, 2, 3, 4, 5, 6, 7, 8, 10, 9] rfl, hD.sub [0, 1, 2, 3, 4, 5, 6, 7, 8, 10, 9] (by decide) rfl⟩, hS.F ht⟩) hS.2.2 dX4_shows_35
    · skip
      refine va_aldq hx hb hK hP 4 5 rfl rfl (vp_in_nI (by omega) (by decide)) dX4_shows_20 ?_
      rw [nI_clamp (n := 5) (by omega), show va_rf (fq 5) = .ref k5 from congrArg va_rf hq5]
      refine lv_iload_n hx hb dX4_shows_21 rfl (lv_at hl 3 rfl) ?_
      refine lv_aload_n hx hb dX4_shows_22 rfl (lv_at hl 1 rfl) ?_
      refine va_get (D := D) (ci := 1) (v := .ref dl) (C := RX1) (T := TX1) (N := 6) hx hb hts iw1 hown hK hP 2 rfl rfl 0 (by decide) fw3 (fun _ h9 => h9) rfl dX4_shows_23 ?_
      refine lv_iload_n hx hb dX4_shows_26 rfl (lv_at hl 2 rfl) ?_
      refine va_iald hx hb hK hP 3 0 rfl rfl (vp_in_nI (by omega) (by decide)) dX4_shows_27 ?_
      rw [nI_clamp (n := k) (by omega)]
      refine lv_aload_n hx hb dX4_shows_28 rfl (lv_at hl 1 rfl) ?_
      refine va_get (D := D) (ci := 1) (v := .int dcl) (C := RX1) (T := TX1) (N := 6) hx hb hts iw1 hown hK hP 2 rfl rfl 4 (by decide) fw4 (fun _ h9 => h9) rfl dX4_shows_29 ?_
      have hs21 : kw_Split [(nw, .inr (4, [.ref kk, .ref nk, .ref nd, .ref ne, .ref nm, .ref nn, .int (nI fi), .int (nI gl), .int (nI un), .int (nI mi), .int (nI no)])), (nk, .inl (y 0, 6, .inl fk)), (d, .inr (1, [.ref dl, .ref da, .ref ds, .int dst, .int dcl, .int dnu])), (dl, .inl (y 0, 6, .inl dfl)), (kk, .inl (y 5, 6, .inr (.inr (.inr (.inr fq))))), (k0, .inr (5, [])), (k1, .inr (8, [])), (k2, .inr (9, [])), (k3, .inr (6, [])), (k4, .inr (2, [])), (k5, .inr (3, []))] [(k5, .inr (3, []))] [(nw, .inr (4, [.ref kk, .ref nk, .ref nd, .ref ne, .ref nm, .ref nn, .int (nI fi), .int (nI gl), .int (nI un), .int (nI mi), .int (nI no)])), (nk, .inl (y 0, 6, .inl fk)), (d, .inr (1, [.ref dl, .ref da, .ref ds, .int dst, .int dcl, .int dnu])), (dl, .inl (y 0, 6, .inl dfl)), (kk, .inl (y 5, 6, .inr (.inr (.inr (.inr fq))))), (k0, .inr (5, [])), (k1, .inr (8, [])), (k2, .inr (9, [])), (k3, .inr (6, [])), (k4, .inr (2, []))] [10] [0, 1, 2, 3, 4, 5, 6, 7, 8, 9] := ⟨rfl, rfl, rfl, rfl, rfl, by decide⟩
      refine kw_go_i hs21 hP hD hS hA (va_runU (As := [.int t, .int (dfl k), .int dcl]) (rest := []) ⟨hx, hb, hml, hown, hts⟩ (gc_Lane_on3 l D y k5 t (dfl k) dcl  _) (va_cwO 3 hts gX4_shows_X3_sight_u89X3 rfl rfl rfl (List.mem_of_getElem? (i := 26) rfl) (by decide +kernel) ⟨Nat.le_of_ble_eq_true rfl, Nat.le_of_ble_eq_true rfl⟩) (kw_PreV (ci := 3) (q0 := 10) hs21 hP hD hK hN rfl rfl) rfl rfl hl.1 rfl (lv_room (Nat.le_of_ble_eq_true rfl)) dX4_shows_32 ⟨Nat.le_of_ble_eq_true rfl, Nat.le_of_ble_eq_true rfl⟩) (fun r22 u23 H locs hq hP hD hS => ?_)
      have hP : va_P D vwCl [(nw, .inr (4, [.ref kk, .ref nk, .ref nd, .ref ne, .ref nm, .ref nn, .int (nI fi), .int (nI gl), .int (nI un), .int (nI mi), .int (nI no)])), (nk, .inl (y 0, 6, .inl fk)), (d, .inr (1, [.ref dl, .ref da, .ref ds, .int dst, .int dcl, .int dnu])), (dl, .inl (y 0, 6, .inl dfl)), (kk, .inl (y 5, 6, .inr (.inr (.inr (.inr fq))))), (k0, .inr (5, [])), (k1, .inr (8, [])), (k2, .inr (9, [])), (k3, .inr (6, [])), (k4, .inr (2, [])), (k5, .inr (3, []))] H := hP
      have hD : va_D A [(nw, .inr (4, [.ref kk, .ref nk, .ref nd, .ref ne, .ref nm, .ref nn, .int (nI fi), .int (nI gl), .int (nI un), .int (nI mi), .int (nI no)])), (nk, .inl (y 0, 6, .inl fk)), (d, .inr (1, [.ref dl, .ref da, .ref ds, .int dst, .int dcl, .int dnu])), (dl, .inl (y 0, 6, .inl dfl)), (kk, .inl (y 5, 6, .inr (.inr (.inr (.inr fq))))), (k0, .inr (5, [])), (k1, .inr (8, [])), (k2, .inr (9, [])), (k3, .inr (6, [])), (k4, .inr (2, [])), (k5, .inr (3, []))] := hD
      exact W.iret (v := r22) hx hb hr (fun tZ ht hW => ⟨⟨r22, (), rfl, trivial, by rw [ht]; exact hP.sub [0, 1, 2, 3, 4, 5, 6, 7, 8, 9, 10] rfl, hD.sub [0, 1, 2, 3, 4, 5, 6, 7, 8, 9, 10] (by decide) rfl⟩, hS.F ht⟩) hS.2.2 dX4_shows_35
  · skip
    refine lv_iconst (v := 0) hx hb dX4_shows_6 (by decide) ?_
    refine lv_goto (tgt := 35) hx hb dX4_shows_7 (by decide) ?_
    exact W.iret (v := 0) hx hb hr (fun tZ ht hW => ⟨⟨0, (), rfl, trivial, by rw [ht]; exact hP.sub [0, 1, 2, 3, 4, 5, 6, 7, 8, 9, 10] rfl, hD.sub [0, 1, 2, 3, 4, 5, 6, 7, 8, 9, 10] (by decide) rfl⟩, hS.F ht⟩) hS.2.2 dX4_shows_35

set_option maxHeartbeats 4000000 in
set_option maxRecDepth 100000 in
theorem gc_share (l : Launch) (D : va_G) (y : Nat → ClassId) (nw : Nat) (kk : Nat) (nk : Nat) (nd : Nat) (ne : Nat) (nm : Nat) (nn : Nat) (fi : Nat) (gl : Nat) (un : Nat) (mi : Nat) (no : Nat) (d : Nat) (dl : Nat) (da : Nat) (ds : Nat) (dst : Int32) (dcl : Int32) (dnu : Int32) (dfl : Nat → Int32) (dfa : Nat → Int32) (fk : Nat → Int32) (k0 : Nat) (k1 : Nat) (k2 : Nat) (k3 : Nat) (k4 : Nat) (k5 : Nat) (fq : Nat → Option Nat) (k : Nat) (hfi : fi ≤ 6) (hgl : gl ≤ 5) (hun : un ≤ 8) (hmi : mi ≤ 4) (hno : no ≤ 6) (hk : kw_bd 6 6 fk) (hda : kw_bd 6 5 dfa) (hq0 : fq 0 = some k0) (hq1 : fq 1 = some k1) (hq2 : fq 2 = some k2) (hq3 : fq 3 = some k3) (hq4 : fq 4 = some k4) (hq5 : fq 5 = some k5) (hkk : k < 6) : kw_Mi l yX4_share wsX4_share ({ frames := 5, cells := 0, slots := 0, locals := 153 }) D y [.ref nw, .ref d, .int (nI k)] [(nw, .inr (4, [.ref kk, .ref nk, .ref nd, .ref ne, .ref nm, .ref nn, .int (nI fi), .int (nI gl), .int (nI un), .int (nI mi), .int (nI no)])), (nk, .inl (y 0, 6, .inl fk)), (d, .inr (1, [.ref dl, .ref da, .ref ds, .int dst, .int dcl, .int dnu])), (dl, .inl (y 0, 6, .inl dfl)), (da, .inl (y 0, 5, .inl dfa)), (kk, .inl (y 5, 6, .inr (.inr (.inr (.inr fq))))), (k0, .inr (5, [])), (k1, .inr (8, [])), (k2, .inr (9, [])), (k3, .inr (6, [])), (k4, .inr (2, [])), (k5, .inr (3, []))] (fun (r : Int32) (u : Unit) => True) (fun _ => [(nw, .inr (4, [.ref kk, .ref nk, .ref nd, .ref ne, .ref nm, .ref nn, .int (nI fi), .int (nI gl), .int (nI un), .int (nI mi), .int (nI no)])), (nk, .inl (y 0, 6, .inl fk)), (d, .inr (1, [.ref dl, .ref da, .ref ds, .int dst, .int dcl, .int dnu])), (dl, .inl (y 0, 6, .inl dfl)), (da, .inl (y 0, 5, .inl dfa)), (kk, .inl (y 5, 6, .inr (.inr (.inr (.inr fq))))), (k0, .inr (5, [])), (k1, .inr (8, [])), (k2, .inr (9, [])), (k3, .inr (6, [])), (k4, .inr (2, [])), (k5, .inr (3, []))]) 0 0 := by
  refine kw_Mi.of (cc := cX4_share) (maxL := 4) (ret := (some .int)) (by decide) rfl ?_
  intro pZ eZ s mZ beZ meZ cZ A hE
  obtain ⟨hx, hb, hr, hml, hts, hown, hlocks, hin, hA, hP, hD, hK, hN⟩ := hE
  have hS : va_S A s.heap s.heap [] := va_S.rf
  have hl := lv_entry ([.ref nw, .ref d, .int (nI k)]) (n := 4) (Nat.le_of_ble_eq_true rfl)
  rw [lg_entry_eq]
  generalize (lg_sl ([.ref nw, .ref d, .int (nI k)]) ++ List.replicate (4 - (lg_sl ([.ref nw, .ref d, .int (nI k)])).length) Slot.unset).toArray = ls at hl ⊢
  have hl : lv_has ls 4 [(0, .ref nw), (1, .ref d), (2, .int (nI k))] := hl
  have fw1 := hts (.fieldLink RX4 54 "GleanDusk$Dusk" "step" "I") (List.mem_of_getElem? (i := 1) rfl)
  have iw1 : ∀ w ∈ wsX10, w ∈ wsX4_share := fun _ h => List.mem_cons_of_mem _ (List.mem_append_left _ (List.mem_append_right _ h))
  refine lv_aload_n hx hb dX4_share_0 rfl (lv_at hl 0 rfl) ?_
  refine lv_aload_n hx hb dX4_share_1 rfl (lv_at hl 1 rfl) ?_
  refine lv_iload_n hx hb dX4_share_2 rfl (lv_at hl 2 rfl) ?_
  have hs1 : kw_Split [(nw, .inr (4, [.ref kk, .ref nk, .ref nd, .ref ne, .ref nm, .ref nn, .int (nI fi), .int (nI gl), .int (nI un), .int (nI mi), .int (nI no)])), (nk, .inl (y 0, 6, .inl fk)), (d, .inr (1, [.ref dl, .ref da, .ref ds, .int dst, .int dcl, .int dnu])), (dl, .inl (y 0, 6, .inl dfl)), (da, .inl (y 0, 5, .inl dfa)), (kk, .inl (y 5, 6, .inr (.inr (.inr (.inr fq))))), (k0, .inr (5, [])), (k1, .inr (8, [])), (k2, .inr (9, [])), (k3, .inr (6, [])), (k4, .inr (2, [])), (k5, .inr (3, []))] [(nw, .inr (4, [.ref kk, .ref nk, .ref nd, .ref ne, .ref nm, .ref nn, .int (nI fi), .int (nI gl), .int (nI un), .int (nI mi), .int (nI no)])), (d, .inr (1, [.ref dl, .ref da, .ref ds, .int dst, .int dcl, .int dnu])), (da, .inl (y 0, 5, .inl dfa))] [(nk, .inl (y 0, 6, .inl fk)), (dl, .inl (y 0, 6, .inl dfl)), (kk, .inl (y 5, 6, .inr (.inr (.inr (.inr fq))))), (k0, .inr (5, [])), (k1, .inr (8, [])), (k2, .inr (9, [])), (k3, .inr (6, [])), (k4, .inr (2, [])), (k5, .inr (3, []))] [0, 2, 4] [1, 3, 5, 6, 7, 8, 9, 10, 11] := ⟨rfl, rfl, rfl, rfl, rfl, by decide⟩
  refine kw_go_i hs1 hP hD hS hA (va_runV (As := [.ref d, .int (nI k)]) (rest := []) ⟨hx, hb, hml, hown, hts⟩ (gc_crowd l D y nw kk nk nd ne nm nn fi gl un mi no d dl da ds dst dcl dnu dfa (nI k) hfi hgl hun hmi hno hda _) (cwV 2 hts gX4_share_X4_crowd rfl rfl rfl (by decide +kernel) ⟨Nat.le_of_ble_eq_true rfl, Nat.le_of_ble_eq_true rfl⟩) (kw_PreV (ci := 4) (q0 := 0) hs1 hP hD hK hN rfl rfl) rfl rfl hl.1 rfl (lv_room (Nat.le_of_ble_eq_true rfl)) dX4_share_3 ⟨Nat.le_of_ble_eq_true rfl, Nat.le_of_ble_eq_true rfl⟩) (fun r2 u3 H locs hq hP hD hS => ?_)
  have hP : va_P D vwCl [(nk, .inl (y 0, 6, .inl fk)), (dl, .inl (y 0, 6, .inl dfl)), (kk, .inl (y 5, 6, .inr (.inr (.inr (.inr fq))))), (k0, .inr (5, [])), (k1, .inr (8, [])), (k2, .inr (9, [])), (k3, .inr (6, [])), (k4, .inr (2, [])), (k5, .inr (3, [])), (nw, .inr (4, [.ref kk, .ref nk, .ref nd, .ref ne, .ref nm, .ref nn, .int (nI fi), .int (nI gl), .int (nI un), .int (nI mi), .int (nI no)])), (d, .inr (1, [.ref dl, .ref da, .ref ds, .int dst, .int dcl, .int dnu])), (da, .inl (y 0, 5, .inl dfa))] H := hP
  have hD : va_D A [(nk, .inl (y 0, 6, .inl fk)), (dl, .inl (y 0, 6, .inl dfl)), (kk, .inl (y 5, 6, .inr (.inr (.inr (.inr fq))))), (k0, .inr (5, [])), (k1, .inr (8, [])), (k2, .inr (9, [])), (k3, .inr (6, [])), (k4, .inr (2, [])), (k5, .inr (3, [])), (nw, .inr (4, [.ref kk, .ref nk, .ref nd, .ref ne, .ref nm, .ref nn, .int (nI fi), .int (nI gl), .int (nI un), .int (nI mi), .int (nI no)])), (d, .inr (1, [.ref dl, .ref da, .ref ds, .int dst, .int dcl, .int dnu])), (da, .inl (y 0, 5, .inl dfa))] := hD
  refine lv_istore_n (lv' := [(3, .int r2), (0, .ref nw), (1, .ref d), (2, .int (nI k))]) hx hb dX4_share_6 rfl hl (by decide) rfl (fun ls hl => ?_)
  refine lv_iload_n hx hb dX4_share_7 rfl (lv_at hl 0 rfl) ?_
  refine lv_if_ne (tgt := 15) hx hb dX4_share_8 (by decide) (fun h4 => ?_) (fun h5 => ?_)
  · skip
    refine lv_aload_n hx hb dX4_share_15 rfl (lv_at hl 1 rfl) ?_
    refine lv_aload_n hx hb dX4_share_16 rfl (lv_at hl 2 rfl) ?_
    refine lv_iload_n hx hb dX4_share_17 rfl (lv_at hl 3 rfl) ?_
    refine lv_aload_n hx hb dX4_share_18 rfl (lv_at hl 2 rfl) ?_
    refine va_get (D := D) (ci := 1) (v := .int dst) (C := RX1) (T := TX1) (N := 6) hx hb hts iw1 hown hK hP 10 rfl rfl 3 (by decide) fw1 (fun _ h9 => h9) rfl dX4_share_19 ?_
    have hs6 : kw_Split [(nk, .inl (y 0, 6, .inl fk)), (dl, .inl (y 0, 6, .inl dfl)), (kk, .inl (y 5, 6, .inr (.inr (.inr (.inr fq))))), (k0, .inr (5, [])), (k1, .inr (8, [])), (k2, .inr (9, [])), (k3, .inr (6, [])), (k4, .inr (2, [])), (k5, .inr (3, [])), (nw, .inr (4, [.ref kk, .ref nk, .ref nd, .ref ne, .ref nm, .ref nn, .int (nI fi), .int (nI gl), .int (nI un), .int (nI mi), .int (nI no)])), (d, .inr (1, [.ref dl, .ref da, .ref ds, .int dst, .int dcl, .int dnu])), (da, .inl (y 0, 5, .inl dfa))] [(nw, .inr (4, [.ref kk, .ref nk, .ref nd, .ref ne, .ref nm, .ref nn, .int (nI fi), .int (nI gl), .int (nI un), .int (nI mi), .int (nI no)])), (nk, .inl (y 0, 6, .inl fk)), (d, .inr (1, [.ref dl, .ref da, .ref ds, .int dst, .int dcl, .int dnu])), (dl, .inl (y 0, 6, .inl dfl)), (kk, .inl (y 5, 6, .inr (.inr (.inr (.inr fq))))), (k0, .inr (5, [])), (k1, .inr (8, [])), (k2, .inr (9, [])), (k3, .inr (6, [])), (k4, .inr (2, [])), (k5, .inr (3, []))] [(da, .inl (y 0, 5, .inl dfa))] [9, 0, 10, 1, 2, 3, 4, 5, 6, 7, 8] [11] := ⟨rfl, rfl, rfl, rfl, rfl, by decide⟩
    refine kw_go_i hs6 hP hD hS hA (va_runV (As := [.ref d, .int (nI k), .int dst]) (rest := []) ⟨hx, hb, hml, hown, hts⟩ (gc_shows l D y nw kk nk nd ne nm nn fi gl un mi no d dl da ds dst dcl dnu dfl fk k0 k1 k2 k3 k4 k5 fq k dst hfi hgl hun hmi hno hk hq0 hq1 hq2 hq3 hq4 hq5 hkk _) (cwV 3 hts gX4_share_X4_shows rfl rfl rfl (by decide +kernel) ⟨Nat.le_of_ble_eq_true rfl, Nat.le_of_ble_eq_true rfl⟩) (kw_PreV (ci := 4) (q0 := 9) hs6 hP hD hK hN rfl rfl) rfl rfl hl.1 rfl (lv_room (Nat.le_of_ble_eq_true rfl)) dX4_share_22 ⟨Nat.le_of_ble_eq_true rfl, Nat.le_of_ble_eq_true rfl⟩) (fun r7 u8 H locs hq hP hD hS => ?_)
    have hP : va_P D vwCl [(da, .inl (y 0, 5, .inl dfa)), (nw, .inr (4, [.ref kk, .ref nk, .ref nd, .ref ne, .ref nm, .ref nn, .int (nI fi), .int (nI gl), .int (nI un), .int (nI mi), .int (nI no)])), (nk, .inl (y 0, 6, .inl fk)), (d, .inr (1, [.ref dl, .ref da, .ref ds, .int dst, .int dcl, .int dnu])), (dl, .inl (y 0, 6, .inl dfl)), (kk, .inl (y 5, 6, .inr (.inr (.inr (.inr fq))))), (k0, .inr (5, [])), (k1, .inr (8, [])), (k2, .inr (9, [])), (k3, .inr (6, [])), (k4, .inr (2, [])), (k5, .inr (3, []))] H := hP
    have hD : va_D A [(da, .inl (y 0, 5, .inl dfa)), (nw, .inr (4, [.ref kk, .ref nk, .ref nd, .ref ne, .ref nm, .ref nn, .int (nI fi), .int (nI gl), .int (nI un), .int (nI mi), .int (nI no)])), (nk, .inl (y 0, 6, .inl fk)), (d, .inr (1, [.ref dl, .ref da, .ref ds, .int dst, .int dcl, .int dnu])), (dl, .inl (y 0, 6, .inl dfl)), (kk, .inl (y 5, 6, .inr (.inr (.inr (.inr fq))))), (k0, .inr (5, [])), (k1, .inr (8, [])), (k2, .inr (9, [])), (k3, .inr (6, [])), (k4, .inr (2, [])), (k5, .inr (3, []))] := hD
    refine lv_iload_n hx hb dX4_share_25 rfl (lv_at hl 0 rfl) ?_
    refine lv_idiv hx hb dX4_share_26 (h4) ?_
    exact W.iret (v := (r7 / r2)) hx hb hr (fun tZ ht hW => ⟨⟨(r7 / r2), (), rfl, trivial, by rw [ht]; exact hP.sub [1, 2, 3, 4, 0, 5, 6, 7, 8, 9, 10, 11] rfl, hD.sub [1, 2, 3, 4, 0, 5, 6, 7, 8, 9, 10, 11] (by decide) rfl⟩, hS.F ht⟩) hS.2.2 dX4_share_27
  · skip
    refine lv_iconst (v := 0) hx hb dX4_share_11 (by decide) ?_
    refine lv_goto (tgt := 27) hx hb dX4_share_12 (by decide) ?_
    exact W.iret (v := 0) hx hb hr (fun tZ ht hW => ⟨⟨0, (), rfl, trivial, by rw [ht]; exact hP.sub [9, 0, 10, 1, 11, 2, 3, 4, 5, 6, 7, 8] rfl, hD.sub [9, 0, 10, 1, 11, 2, 3, 4, 5, 6, 7, 8] (by decide) rfl⟩, hS.F ht⟩) hS.2.2 dX4_share_27
