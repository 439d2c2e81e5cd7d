set_option maxHeartbeats 4000000 in
set_option maxRecDepth 100000 in
theorem cq_clear (l : Launch) (D : va_G) (y : Nat → ClassId) (mo : Nat) (to : Nat) (ke : Nat) (ik : Nat) (rf : Nat) (ha : Nat) (r0 : Nat) (br : Nat) (bp : Nat) (bys : Nat) (an : Nat) (va : Nat) : kw_Mi l yX11_clear wsX11_clear ({ frames := 1, cells := 0, slots := 0, locals := 40 }) D y [.ref mo] [(mo, .inr (11, [.ref to, .ref ke, .ref ik, .ref rf, .long 0, .long 1, .ref ha, .ref r0, .ref br, .ref bp, .ref bys, .int 0, .int 0, .int 0, .int 0, .int 0, .ref an, .ref va]))] (fun (r : Int32) (u : Unit) => r = 0) (fun _ => []) 0 0 := by
  refine kw_Mi.of (cc := cX11_clear) (maxL := 2) (ret := (some .int)) (by decide) rfl ?_
  intro pZ eZ s mZ beZ meZ cZ A hE
  obtain ⟨hx, hb, hr, hml, hts, hown, hlocks, hin, hA, hP, hD, hK, hN⟩ := hE
  have hS : va_S A s.heap s.heap [] := va_S.rf
  have hl := lv_entry ([.ref mo]) (n := 2) (Nat.le_of_ble_eq_true rfl)
  rw [lg_entry_eq]
  generalize (lg_sl ([.ref mo]) ++ List.replicate (2 - (lg_sl ([.ref mo])).length) Slot.unset).toArray = ls at hl ⊢
  have hl : lv_has ls 2 [(0, .ref mo)] := hl
  have fw1 := hts (.fieldLink RX11 210 "GleanDuskModel" "bytesLong" "I") (List.mem_of_getElem? (i := 1) rfl)
  have i11 : ∀ w ∈ wsX110, w ∈ wsX11_clear := fun _ h => List.mem_cons_of_mem _ (List.mem_append_right _ h)
  refine lv_aload_n hx hb dX11_clear_0 rfl (lv_at hl 0 rfl) ?_
  refine va_get (D := D) (ci := 11) (v := .int 0) (C := RX11) (T := TX11) (N := 18) hx hb hts i11 hown hK hP 0 rfl rfl 11 (by decide) fw1 (fun _ h9 => h9) rfl dX11_clear_1 ?_
  refine lv_istore_n (lv' := [(1, .int 0), (0, .ref mo)]) hx hb dX11_clear_4 rfl hl (by decide) rfl (fun ls hl => ?_)
  refine lv_aload_n hx hb dX11_clear_5 rfl (lv_at hl 1 rfl) ?_
  refine lv_iconst (v := 0) hx hb dX11_clear_6 (by decide) ?_
  refine va_put (D := D) (ci := 11) (v := .int 0) (ty := .int) (C := RX11) (T := TX11) (N := 18) hx hb hts i11 tyX11 tyX11_ok nmX11 hown hK hP hD hS 0 rfl rfl 11 (by decide) fw1 (fun _ h9 => h9) rfl (by decide +kernel) rfl rfl (Nat.le_of_ble_eq_true rfl) dX11_clear_7 (fun H locs hP hD hS => ?_)
  have hP : va_P D vwCl [(mo, .inr (11, [.ref to, .ref ke, .ref ik, .ref rf, .long 0, .long 1, .ref ha, .ref r0, .ref br, .ref bp, .ref bys, .int 0, .int 0, .int 0, .int 0, .int 0, .ref an, .ref va]))] H := hP
  have hD : va_D A [(mo, .inr (11, [.ref to, .ref ke, .ref ik, .ref rf, .long 0, .long 1, .ref ha, .ref r0, .ref br, .ref bp, .ref bys, .int 0, .int 0, .int 0, .int 0, .int 0, .ref an, .ref va]))] := hD
  refine lv_iload_n hx hb dX11_clear_10 rfl (lv_at hl 0 rfl) ?_
  have hsp : (0 : Int32) = 0 := by
    rfl
  exact W.iret (v := 0) hx hb hr (fun tZ ht hW => ⟨⟨0, (), rfl, hsp, by rw [ht]; exact hP.sub [] rfl, hD.sub [] (by decide) rfl⟩, hS.F ht⟩) hS.2.2 dX11_clear_11

set_option maxHeartbeats 4000000 in
set_option maxRecDepth 100000 in
theorem cq_read (l : Launch) (D : va_G) (y : Nat → ClassId) (mo : Nat) (to : Nat) (ke : Nat) (ik : Nat) (rf : Nat) (ha : Nat) (r0 : Nat) (br : Nat) (bp : Nat) (bys : Nat) (an : Nat) (va : Nat) : kw_Mi l yX11_read wsX11_read ({ frames := 3, cells := 0, slots := 0, locals := 89 }) D y [.ref mo] [(mo, .inr (11, [.ref to, .ref ke, .ref ik, .ref rf, .long 0, .long 1, .ref ha, .ref r0, .ref br, .ref bp, .ref bys, .int 0, .int 0, .int 0, .int 0, .int 0, .ref an, .ref va]))] (fun (r : Int32) (u : Unit) => r = (-10)) (fun _ => []) 0 0 := by
  refine kw_Mi.of (cc := cX11_read) (maxL := 3) (ret := (some .int)) (by decide) rfl ?_
  intro pZ eZ s mZ beZ meZ cZ A hE
  obtain ⟨hx, hb, hr, hml, hts, hown, hlocks, hin, hA, hP, hD, hK, hN⟩ := hE
  have hS : va_S A s.heap s.heap [] := va_S.rf
  have hl := lv_entry ([.ref mo]) (n := 3) (Nat.le_of_ble_eq_true rfl)
  rw [lg_entry_eq]
  generalize (lg_sl ([.ref mo]) ++ List.replicate (3 - (lg_sl ([.ref mo])).length) Slot.unset).toArray = ls at hl ⊢
  have hl : lv_has ls 3 [(0, .ref mo)] := hl
  have fw1 := hts (.fieldLink RX11 222 "GleanDuskModel" "tokenAt" "I") (List.mem_of_getElem? (i := 1) rfl)
  have i11 : ∀ w ∈ wsX110, w ∈ wsX11_read := fun _ h => List.mem_cons_of_mem _ (List.mem_append_right _ h)
  refine lv_aload_n hx hb dX11_read_0 rfl (lv_at hl 0 rfl) ?_
  refine lv_iconst (v := 0) hx hb dX11_read_1 (by decide) ?_
  have hs1 : kw_Split [(mo, .inr (11, [.ref to, .ref ke, .ref ik, .ref rf, .long 0, .long 1, .ref ha, .ref r0, .ref br, .ref bp, .ref bys, .int 0, .int 0, .int 0, .int 0, .int 0, .ref an, .ref va]))] [(mo, .inr (11, [.ref to, .ref ke, .ref ik, .ref rf, .long 0, .long 1, .ref ha, .ref r0, .ref br, .ref bp, .ref bys, .int 0, .int 0, .int 0, .int 0, .int 0, .ref an, .ref va]))] [] [0] [] := ⟨rfl, rfl, rfl, rfl, rfl, by decide⟩
  refine kw_go_v hs1 hP hD hS hA (va_runV (As := [.int 0]) (rest := []) ⟨hx, hb, hml, hown, hts⟩ (cw_lookAt l D y mo to ke ik rf ha r0 br bp bys an va  _) (cwV 1 hts gX11_read_X11_lookAt rfl rfl rfl (by decide +kernel) ⟨Nat.le_of_ble_eq_true rfl, Nat.le_of_ble_eq_true rfl⟩) (kw_PreV (ci := 11) (q0 := 0) hs1 hP hD hK hN rfl rfl) rfl rfl hl.1 rfl (lv_room (Nat.le_of_ble_eq_true rfl)) dX11_read_2 ⟨Nat.le_of_ble_eq_true rfl, Nat.le_of_ble_eq_true rfl⟩) (fun u H locs hq hP hD hS => ?_)
  obtain - := hq
  have hP : va_P D vwCl [(mo, .inr (11, [.ref to, .ref ke, .ref ik, .ref rf, .long 0, .long 1, .ref ha, .ref r0, .ref br, .ref bp, .ref bys, .int 0, .int 0, .int 0, .int 0, .int 0, .ref an, .ref va]))] H := hP
  have hD : va_D A [(mo, .inr (11, [.ref to, .ref ke, .ref ik, .ref rf, .long 0, .long 1, .ref ha, .ref r0, .ref br, .ref bp, .ref bys, .int 0, .int 0, .int 0, .int 0, .int 0, .ref an, .ref va]))] := hD
  refine lv_aload_n hx hb dX11_read_5 rfl (lv_at hl 0 rfl) ?_
  have hs2 : kw_Split [(mo, .inr (11, [.ref to, .ref ke, .ref ik, .ref rf, .long 0, .long 1, .ref ha, .ref r0, .ref br, .ref bp, .ref bys, .int 0, .int 0, .int 0, .int 0, .int 0, .ref an, .ref va]))] [(mo, .inr (11, [.ref to, .ref ke, .ref ik, .ref rf, .long 0, .long 1, .ref ha, .ref r0, .ref br, .ref bp, .ref bys, .int 0, .int 0, .int 0, .int 0, .int 0, .ref an, .ref va]))] [] [0] [] := ⟨rfl, rfl, rfl, rfl, rfl, by decide⟩
  refine kw_go_i hs2 hP hD hS hA (va_runV (As := []) (rest := []) ⟨hx, hb, hml, hown, hts⟩ (cw_takesParish l D y mo to ke ik rf ha r0 br bp bys an va  _) (cwV 0 hts gX11_read_X11_takesParish rfl rfl rfl (by decide +kernel) ⟨Nat.le_of_ble_eq_true rfl, Nat.le_of_ble_eq_true rfl⟩) (kw_PreV (ci := 11) (q0 := 0) hs2 hP hD hK hN rfl rfl) rfl rfl hl.1 rfl (lv_room (Nat.le_of_ble_eq_true rfl)) dX11_read_6 ⟨Nat.le_of_ble_eq_true rfl, Nat.le_of_ble_eq_true rfl⟩) (fun r u H locs hq hP hD hS => ?_)
  obtain rfl := hq
  have hP : va_P D vwCl [(mo, .inr (11, [.ref to, .ref ke, .ref ik, .ref rf, .long 0, .long 1, .ref ha, .ref r0, .ref br, .ref bp, .ref bys, .int 0, .int 0, .int 0, .int 0, .int 0, .ref an, .ref va]))] H := hP
  have hD : va_D A [(mo, .inr (11, [.ref to, .ref ke, .ref ik, .ref rf, .long 0, .long 1, .ref ha, .ref r0, .ref br, .ref bp, .ref bys, .int 0, .int 0, .int 0, .int 0, .int 0, .ref an, .ref va]))] := hD
  refine lv_if_ne (tgt := 20) hx hb dX11_read_9 (by decide) (fun h9 => absurd h9 (by decide)) (fun _ => ?_)
  refine lv_bipush (v := (-10)) hx hb dX11_read_12 (by decide) ?_
  refine lv_aload_n hx hb dX11_read_14 rfl (lv_at hl 0 rfl) ?_
  refine va_get (D := D) (ci := 11) (v := .int 0) (C := RX11) (T := TX11) (N := 18) hx hb hts i11 hown hK hP 0 rfl rfl 12 (by decide) fw1 (fun _ h9 => h9) rfl dX11_read_15 ?_
  refine lv_isub hx hb dX11_read_18 ?_
  refine lv_topi (fun z3 hz3 => ?_)
  obtain rfl : z3 = (-10) := hz3.trans (by first | rfl | decide | (simp [upd]; done))
  have hsp : ((-10) : Int32) = (-10) := by
    rfl
  exact W.iret (v := (-10)) hx hb hr (fun tZ ht hW => ⟨⟨(-10), (), rfl, hsp, by rw [ht]; exact hP.sub [] rfl, hD.sub [] (by decide) rfl⟩, hS.F ht⟩) hS.2.2 dX11_read_19

set_option maxHeartbeats 4000000 in
set_option maxRecDepth 100000 in
theorem cq_glean (l : Launch) (D : va_G) (y : Nat → ClassId) (mo : Nat) (to : Nat) (ke : Nat) (ik : Nat) (rf : Nat) (ha : Nat) (r0 : Nat) (br : Nat) (bp : Nat) (bys : Nat) (an : Nat) (va : Nat) (n : Int32) : kw_Mi l yX11_glean wsX11_glean ({ frames := 2, cells := 0, slots := 0, locals := 66 }) D y [.ref mo, .int n] [(mo, .inr (11, [.ref to, .ref ke, .ref ik, .ref rf, .long 0, .long 1, .ref ha, .ref r0, .ref br, .ref bp, .ref bys, .int 0, .int 0, .int 0, .int 0, .int 0, .ref an, .ref va])), (rf, .inl (y 0, 3, .inl (fun _ => 0))), (to, .inl (y 0, 228, .inl (fun _ => 0)))] (fun (r : Int32) (u : Unit) => r = (sp_glean n)) (fun _ => []) 0 0 := by
  refine kw_Mi.of (cc := cX11_glean) (maxL := 4) (ret := (some .int)) (by decide) rfl ?_
  intro pZ eZ s mZ beZ meZ cZ A hE
  obtain ⟨hx, hb, hr, hml, hts, hown, hlocks, hin, hA, hP, hD, hK, hN⟩ := hE
  have hS : va_S A s.heap s.heap [] := va_S.rf
  have hl := lv_entry ([.ref mo, .int n]) (n := 4) (Nat.le_of_ble_eq_true rfl)
  rw [lg_entry_eq]
  generalize (lg_sl ([.ref mo, .int n]) ++ List.replicate (4 - (lg_sl ([.ref mo, .int n])).length) Slot.unset).toArray = ls at hl ⊢
  have hl : lv_has ls 4 [(0, .ref mo), (1, .int n)] := hl
  have fw1 := hts (.constantLong RX11 117 (12)) (List.mem_of_getElem? (i := 1) rfl)
  have fw2 := hts (.fieldLink RX11 7 "GleanDuskModel" "told" "[I") (List.mem_of_getElem? (i := 2) rfl)
  have i11 : ∀ w ∈ wsX110, w ∈ wsX11_glean := fun _ h => List.mem_cons_of_mem _ (List.mem_append_right _ h)
  refine lv_iload_n hx hb dX11_glean_0 rfl (lv_at hl 1 rfl) ?_
  refine lv_i2l (v := n.toInt64) hx hb dX11_glean_1 (rfl) ?_
  refine lv_lconst (v := 1) hx hb dX11_glean_2 (by decide) ?_
  refine lv_ldc2 (v := 12) hx hb hown fw1 dX11_glean_3 ?_
  have hs1 : kw_Split [(mo, .inr (11, [.ref to, .ref ke, .ref ik, .ref rf, .long 0, .long 1, .ref ha, .ref r0, .ref br, .ref bp, .ref bys, .int 0, .int 0, .int 0, .int 0, .int 0, .ref an, .ref va])), (rf, .inl (y 0, 3, .inl (fun _ => 0))), (to, .inl (y 0, 228, .inl (fun _ => 0)))] [] [(mo, .inr (11, [.ref to, .ref ke, .ref ik, .ref rf, .long 0, .long 1, .ref ha, .ref r0, .ref br, .ref bp, .ref bys, .int 0, .int 0, .int 0, .int 0, .int 0, .ref an, .ref va])), (rf, .inl (y 0, 3, .inl (fun _ => 0))), (to, .inl (y 0, 228, .inl (fun _ => 0)))] [] [0, 1, 2] := ⟨rfl, rfl, rfl, rfl, rfl, by decide⟩
  refine kw_go_i hs1 hP hD hS hA (va_runS (As := [.long n.toInt64, .long 1, .long 12]) (rest := []) ⟨hx, hb, hml, hown, hts⟩ (cw_in l D y n.toInt64 1 12  _) (va_cwS 3 hts gX11_glean_X11_in rfl rfl rfl (by decide +kernel) ⟨Nat.le_of_ble_eq_true rfl, Nat.le_of_ble_eq_true rfl⟩) (kw_PreS hs1 hP hD hK hN) rfl rfl hl.1 rfl (lv_room (Nat.le_of_ble_eq_true rfl)) dX11_glean_6 ⟨Nat.le_of_ble_eq_true rfl, Nat.le_of_ble_eq_true rfl⟩) (fun r u H locs hq hP hD hS => ?_)
  rcases hq with ⟨h2, rfl⟩ | ⟨h3, h4, rfl⟩ | ⟨h5, h6, rfl⟩
  · skip
    have hP : va_P D vwCl [(mo, .inr (11, [.ref to, .ref ke, .ref ik, .ref rf, .long 0, .long 1, .ref ha, .ref r0, .ref br, .ref bp, .ref bys, .int 0, .int 0, .int 0, .int 0, .int 0, .ref an, .ref va])), (rf, .inl (y 0, 3, .inl (fun _ => 0))), (to, .inl (y 0, 228, .inl (fun _ => 0)))] H := hP
    have hD : va_D A [(mo, .inr (11, [.ref to, .ref ke, .ref ik, .ref rf, .long 0, .long 1, .ref ha, .ref r0, .ref br, .ref bp, .ref bys, .int 0, .int 0, .int 0, .int 0, .int 0, .ref an, .ref va])), (rf, .inl (y 0, 3, .inl (fun _ => 0))), (to, .inl (y 0, 228, .inl (fun _ => 0)))] := hD
    refine lv_if_ne (tgt := 19) hx hb dX11_glean_9 (by decide) (fun h9 => absurd h9 (by decide)) (fun _ => ?_)
    refine lv_aload_n hx hb dX11_glean_12 rfl (lv_at hl 0 rfl) ?_
    refine lv_bipush (v := (-2)) hx hb dX11_glean_13 (by decide) ?_
    have hs7 : kw_Split [(mo, .inr (11, [.ref to, .ref ke, .ref ik, .ref rf, .long 0, .long 1, .ref ha, .ref r0, .ref br, .ref bp, .ref bys, .int 0, .int 0, .int 0, .int 0, .int 0, .ref an, .ref va])), (rf, .inl (y 0, 3, .inl (fun _ => 0))), (to, .inl (y 0, 228, .inl (fun _ => 0)))] [(mo, .inr (11, [.ref to, .ref ke, .ref ik, .ref rf, .long 0, .long 1, .ref ha, .ref r0, .ref br, .ref bp, .ref bys, .int 0, .int 0, .int 0, .int 0, .int 0, .ref an, .ref va])), (rf, .inl (y 0, 3, .inl (fun _ => 0)))] [(to, .inl (y 0, 228, .inl (fun _ => 0)))] [0, 1] [2] := ⟨rfl, rfl, rfl, rfl, rfl, by decide⟩
    refine kw_go_i hs7 hP hD hS hA (va_runV (As := [.int (-2)]) (rest := []) ⟨hx, hb, hml, hown, hts⟩ (cw_bad l D y mo to ke ik rf ha r0 br bp bys an va (fun _ => 0) (-2)  _) (cwV 1 hts gX11_glean_X11_bad rfl rfl rfl (by decide +kernel) ⟨Nat.le_of_ble_eq_true rfl, Nat.le_of_ble_eq_true rfl⟩) (kw_PreV (ci := 11) (q0 := 0) hs7 hP hD hK hN rfl rfl) rfl rfl hl.1 rfl (lv_room (Nat.le_of_ble_eq_true rfl)) dX11_glean_15 ⟨Nat.le_of_ble_eq_true rfl, Nat.le_of_ble_eq_true rfl⟩) (fun r u H locs hq hP hD hS => ?_)
    obtain rfl := hq
    have hP : va_P D vwCl [(to, .inl (y 0, 228, .inl (fun _ => 0)))] H := hP
    have hD : va_D A [(to, .inl (y 0, 228, .inl (fun _ => 0)))] := hD
    have hsp : ((-2) : Int32) = (sp_glean n) := by
      have gZ1 := Int64.lt_iff_toInt_lt.mp h2
      have lZ1 : (n.toInt64).toInt = n.toInt := Int32.toInt_toInt64 _
      have lZ2 : (1 : Int64).toInt = 1 := by decide
      unfold sp_glean; first | rfl | decide | exact (if_neg (by omega)).symm | exact (if_pos (by omega)).symm | exact ((if_pos (by omega)).trans (if_neg (by omega))).symm | exact ((if_pos (by omega)).trans (if_pos (by omega))).symm | exact ((if_neg (by omega)).trans (if_pos (by omega))).symm | exact ((if_neg (by omega)).trans (if_neg (by omega))).symm
    exact W.iret (v := (-2)) hx hb hr (fun tZ ht hW => ⟨⟨(-2), (), rfl, hsp, by rw [ht]; exact hP.sub [] rfl, hD.sub [] (by decide) rfl⟩, hS.F ht⟩) hS.2.2 dX11_glean_18
  · skip
    have hP : va_P D vwCl [(mo, .inr (11, [.ref to, .ref ke, .ref ik, .ref rf, .long 0, .long 1, .ref ha, .ref r0, .ref br, .ref bp, .ref bys, .int 0, .int 0, .int 0, .int 0, .int 0, .ref an, .ref va])), (rf, .inl (y 0, 3, .inl (fun _ => 0))), (to, .inl (y 0, 228, .inl (fun _ => 0)))] H := hP
    have hD : va_D A [(mo, .inr (11, [.ref to, .ref ke, .ref ik, .ref rf, .long 0, .long 1, .ref ha, .ref r0, .ref br, .ref bp, .ref bys, .int 0, .int 0, .int 0, .int 0, .int 0, .ref an, .ref va])), (rf, .inl (y 0, 3, .inl (fun _ => 0))), (to, .inl (y 0, 228, .inl (fun _ => 0)))] := hD
    refine lv_if_ne (tgt := 19) hx hb dX11_glean_9 (by decide) (fun h9 => absurd h9 (by decide)) (fun _ => ?_)
    refine lv_aload_n hx hb dX11_glean_12 rfl (lv_at hl 0 rfl) ?_
    refine lv_bipush (v := (-2)) hx hb dX11_glean_13 (by decide) ?_
    have hs8 : kw_Split [(mo, .inr (11, [.ref to, .ref ke, .ref ik, .ref rf, .long 0, .long 1, .ref ha, .ref r0, .ref br, .ref bp, .ref bys, .int 0, .int 0, .int 0, .int 0, .int 0, .ref an, .ref va])), (rf, .inl (y 0, 3, .inl (fun _ => 0))), (to, .inl (y 0, 228, .inl (fun _ => 0)))] [(mo, .inr (11, [.ref to, .ref ke, .ref ik, .ref rf, .long 0, .long 1, .ref ha, .ref r0, .ref br, .ref bp, .ref bys, .int 0, .int 0, .int 0, .int 0, .int 0, .ref an, .ref va])), (rf, .inl (y 0, 3, .inl (fun _ => 0)))] [(to, .inl (y 0, 228, .inl (fun _ => 0)))] [0, 1] [2] := ⟨rfl, rfl, rfl, rfl, rfl, by decide⟩
    refine kw_go_i hs8 hP hD hS hA (va_runV (As := [.int (-2)]) (rest := []) ⟨hx, hb, hml, hown, hts⟩ (cw_bad l D y mo to ke ik rf ha r0 br bp bys an va (fun _ => 0) (-2)  _) (cwV 1 hts gX11_glean_X11_bad rfl rfl rfl (by decide +kernel) ⟨Nat.le_of_ble_eq_true rfl, Nat.le_of_ble_eq_true rfl⟩) (kw_PreV (ci := 11) (q0 := 0) hs8 hP hD hK hN rfl rfl) rfl rfl hl.1 rfl (lv_room (Nat.le_of_ble_eq_true rfl)) dX11_glean_15 ⟨Nat.le_of_ble_eq_true rfl, Nat.le_of_ble_eq_true rfl⟩) (fun r u H locs hq hP hD hS => ?_)
    obtain rfl := hq
    have hP : va_P D vwCl [(to, .inl (y 0, 228, .inl (fun _ => 0)))] H := hP
    have hD : va_D A [(to, .inl (y 0, 228, .inl (fun _ => 0)))] := hD
    have hsp : ((-2) : Int32) = (sp_glean n) := by
      have gZ1 : ¬ (n.toInt64 : Int64).toInt < (1 : Int64).toInt := fun q => h3 (Int64.lt_iff_toInt_lt.mpr q)
      have lZ1 : (n.toInt64).toInt = n.toInt := Int32.toInt_toInt64 _
      have lZ2 : (1 : Int64).toInt = 1 := by decide
      have gZ2 := Int64.lt_iff_toInt_lt.mp h4
      have lZ3 : (12 : Int64).toInt = 12 := by decide
      unfold sp_glean; first | rfl | decide | exact (if_neg (by omega)).symm | exact (if_pos (by omega)).symm | exact ((if_pos (by omega)).trans (if_neg (by omega))).symm | exact ((if_pos (by omega)).trans (if_pos (by omega))).symm | exact ((if_neg (by omega)).trans (if_pos (by omega))).symm | exact ((if_neg (by omega)).trans (if_neg (by omega))).symm
    exact W.iret (v := (-2)) hx hb hr (fun tZ ht hW => ⟨⟨(-2), (), rfl, hsp, by rw [ht]; exact hP.sub [] rfl, hD.sub [] (by decide) rfl⟩, hS.F ht⟩) hS.2.2 dX11_glean_18
  · skip
    have hP : va_P D vwCl [(mo, .inr (11, [.ref to, .ref ke, .ref ik, .ref rf, .long 0, .long 1, .ref ha, .ref r0, .ref br, .ref bp, .ref bys, .int 0, .int 0, .int 0, .int 0, .int 0, .ref an, .ref va])), (rf, .inl (y 0, 3, .inl (fun _ => 0))), (to, .inl (y 0, 228, .inl (fun _ => 0)))] H := hP
    have hD : va_D A [(mo, .inr (11, [.ref to, .ref ke, .ref ik, .ref rf, .long 0, .long 1, .ref ha, .ref r0, .ref br, .ref bp, .ref bys, .int 0, .int 0, .int 0, .int 0, .int 0, .ref an, .ref va])), (rf, .inl (y 0, 3, .inl (fun _ => 0))), (to, .inl (y 0, 228, .inl (fun _ => 0)))] := hD
    refine lv_if_ne (tgt := 19) hx hb dX11_glean_9 (by decide) (fun _ => ?_) (fun h9 => absurd h9 (by decide))
    obtain ⟨NN, hNlo, hNhi, rfl⟩ := kw_rngL (a := 1) (b := 12) h5 h6 (by decide) (by decide)
    refine lv_aload_n hx hb dX11_glean_19 rfl (lv_at hl 0 rfl) ?_
    refine va_get (D := D) (ci := 11) (v := .ref to) (C := RX11) (T := TX11) (N := 18) hx hb hts i11 hown hK hP 0 rfl rfl 0 (by decide) fw2 (fun _ h9 => h9) rfl dX11_glean_20 ?_
    refine lv_bipush (v := 21) hx hb dX11_glean_23 (by decide) ?_
    refine va_iald hx hb hK hP 2 0 rfl rfl (by unfold vp_in; decide) dX11_glean_25 ?_
    refine lv_topi (fun z9 hz9 => ?_)
    obtain rfl : z9 = 0 := hz9.trans (by first | rfl | decide | assumption | (simp [upd]; done) | (unfold upd; rw [if_neg (by decide)]; assumption) | (simp [upd, *]; done))
    refine lv_iload_n hx hb dX11_glean_26 rfl (lv_at hl 1 rfl) ?_
    refine lv_iadd hx hb dX11_glean_27 ?_
    rw [Int32.zero_add]
    refine lv_bipush (v := 12) hx hb dX11_glean_28 (by decide) ?_
    refine lv_icmp_le (tgt := 38) hx hb dX11_glean_30 (by decide) (fun h10 => ?_) (fun h11 => ?_)
    · skip
      refine lv_iconst (v := 0) hx hb dX11_glean_38 (by decide) ?_
      refine lv_istore_n (lv' := [(2, .int 0), (0, .ref mo), (1, .int (nI NN))]) hx hb dX11_glean_39 rfl hl (by decide) rfl (fun ls hl => ?_)
      refine lv_aload_n hx hb dX11_glean_40 rfl (lv_at hl 1 rfl) ?_
      have hs12 : kw_Split [(mo, .inr (11, [.ref to, .ref ke, .ref ik, .ref rf, .long 0, .long 1, .ref ha, .ref r0, .ref br, .ref bp, .ref bys, .int 0, .int 0, .int 0, .int 0, .int 0, .ref an, .ref va])), (rf, .inl (y 0, 3, .inl (fun _ => 0))), (to, .inl (y 0, 228, .inl (fun _ => 0)))] [(mo, .inr (11, [.ref to, .ref ke, .ref ik, .ref rf, .long 0, .long 1, .ref ha, .ref r0, .ref br, .ref bp, .ref bys, .int 0, .int 0, .int 0, .int 0, .int 0, .ref an, .ref va])), (to, .inl (y 0, 228, .inl (fun _ => 0)))] [(rf, .inl (y 0, 3, .inl (fun _ => 0)))] [0, 2] [1] := ⟨rfl, rfl, rfl, rfl, rfl, by decide⟩
      refine kw_go_v hs12 hP hD hS hA (va_runV (As := []) (rest := []) ⟨hx, hb, hml, hown, hts⟩ (cw_keep l D y mo to ke ik rf ha r0 br bp bys an va  _) (cwV 0 hts gX11_glean_X11_keep rfl rfl rfl (by decide +kernel) ⟨Nat.le_of_ble_eq_true rfl, Nat.le_of_ble_eq_true rfl⟩) (kw_PreV (ci := 11) (q0 := 0) hs12 hP hD hK hN rfl rfl) rfl rfl hl.1 rfl (lv_room (Nat.le_of_ble_eq_true rfl)) dX11_glean_41 ⟨Nat.le_of_ble_eq_true rfl, Nat.le_of_ble_eq_true rfl⟩) (fun u H locs hq hP hD hS => ?_)
      obtain - := hq
      have hP : va_P D vwCl [(rf, .inl (y 0, 3, .inl (fun _ => 0))), (mo, .inr (11, [.ref to, .ref ke, .ref ik, .ref rf, .long 0, .long 1, .ref ha, .ref r0, .ref br, .ref bp, .ref bys, .int 0, .int 0, .int 0, .int 0, .int 0, .ref an, .ref va])), (to, .inl (y 0, 228, .inl (upd (fun _ => 0) (4 : Int32).toNatClampNeg 1)))] H := hP
      have hD : va_D A [(rf, .inl (y 0, 3, .inl (fun _ => 0))), (mo, .inr (11, [.ref to, .ref ke, .ref ik, .ref rf, .long 0, .long 1, .ref ha, .ref r0, .ref br, .ref bp, .ref bys, .int 0, .int 0, .int 0, .int 0, .int 0, .ref an, .ref va])), (to, .inl (y 0, 228, .inl (upd (fun _ => 0) (4 : Int32).toNatClampNeg 1)))] := hD
      refine lv_iconst (v := 0) hx hb dX11_glean_44 (by decide) ?_
      refine lv_istore_n (lv' := [(3, .int 0), (2, .int 0), (0, .ref mo), (1, .int (nI NN))]) hx hb dX11_glean_45 rfl hl (by decide) rfl (fun ls hl => ?_)
      have lp13 : ∀ (fu9 j9 : Nat) (f9 : Nat → Int32) (H : Heap) (locs : List Loc) (ls : Array Slot), j9 ≤ NN → NN - j9 < fu9 → f9 (0 : Int32).toNatClampNeg = 0 → va_P D vwCl [(rf, .inl (y 0, 3, .inl (fun _ => 0))), (mo, .inr (11, [.ref to, .ref ke, .ref ik, .ref rf, .long 0, .long 1, .ref ha, .ref r0, .ref br, .ref bp, .ref bys, .int 0, .int 0, .int 0, .int 0, .int 0, .ref an, .ref va])), (to, .inl (y 0, 228, .inl f9))] H → va_D A [(rf, .inl (y 0, 3, .inl (fun _ => 0))), (mo, .inr (11, [.ref to, .ref ke, .ref ik, .ref rf, .long 0, .long 1, .ref ha, .ref r0, .ref br, .ref bp, .ref bys, .int 0, .int 0, .int 0, .int 0, .int 0, .ref an, .ref va])), (to, .inl (y 0, 228, .inl f9))] → va_S A s.heap H locs → lv_has ls 4 [(3, .int (nI j9)), (2, .int 0), (0, .ref mo), (1, .int (nI NN))] → W pZ l eZ ({ frames := 2, cells := 0, slots := 0, locals := 66 }) s mZ [.ref mo, .int (nI NN)].toArray beZ meZ cZ H locs 0 0 (MQ beZ (va_Qi (fun (r : Int32) (u : Unit) => r = (sp_glean (nI NN))) (kw_B D (fun _ => []) A) A) [.ref mo, .int (nI NN)].toArray s 0 0 A) (F0 mZ 46 ls []) := by
        intro fu9
        induction fu9 with
        | zero => intro j9 f9 H locs ls hj9 hf9; exact absurd hf9 (Nat.not_lt_zero _)
        | succ fu9 ih =>
          intro j9 f9 H locs ls hj9 hf9 hv9 hP hD hS hl
          refine lv_iload_n hx hb dX11_glean_46 rfl (lv_at hl 0 rfl) ?_
          refine lv_iload_n hx hb dX11_glean_47 rfl (lv_at hl 3 rfl) ?_
          refine lv_icmp_ge (tgt := 67) hx hb dX11_glean_48 (by decide) (fun h14 => ?_) (fun h15 => ?_)
          · skip
            refine lv_iload_n hx hb dX11_glean_67 rfl (lv_at hl 1 rfl) ?_
            have hsp : (0 : Int32) = (sp_glean (nI NN)) := by
              have gZ1 : ¬ ((nI NN).toInt64 : Int64).toInt < (1 : Int64).toInt := fun q => h5 (Int64.lt_iff_toInt_lt.mpr q)
              have lZ1 : ((nI NN).toInt64).toInt = (nI NN).toInt := Int32.toInt_toInt64 _
              have lZ2 : (1 : Int64).toInt = 1 := by decide
              have gZ2 : ¬ (12 : Int64).toInt < ((nI NN).toInt64 : Int64).toInt := fun q => h6 (Int64.lt_iff_toInt_lt.mpr q)
              have lZ3 : (12 : Int64).toInt = 12 := by decide
              have gZ3 := Int32.le_iff_toInt_le.mp h10
              have lZ4 : (12 : Int32).toInt = 12 := by decide
              unfold sp_glean; first | rfl | decide | exact (if_neg (by omega)).symm | exact (if_pos (by omega)).symm | exact ((if_pos (by omega)).trans (if_neg (by omega))).symm | exact ((if_pos (by omega)).trans (if_pos (by omega))).symm | exact ((if_neg (by omega)).trans (if_pos (by omega))).symm | exact ((if_neg (by omega)).trans (if_neg (by omega))).symm
            exact W.iret (v := 0) hx hb hr (fun tZ ht hW => ⟨⟨0, (), rfl, hsp, by rw [ht]; exact hP.sub [] rfl, hD.sub [] (by decide) rfl⟩, hS.F ht⟩) hS.2.2 dX11_glean_68
          · skip
            refine lv_iload_n hx hb dX11_glean_51 rfl (lv_at hl 1 rfl) ?_
            refine lv_aload_n hx hb dX11_glean_52 rfl (lv_at hl 2 rfl) ?_
            refine va_get (D := D) (ci := 11) (v := .ref to) (C := RX11) (T := TX11) (N := 18) hx hb hts i11 hown hK hP 1 rfl rfl 0 (by decide) fw2 (fun _ h9 => h9) rfl dX11_glean_53 ?_
            have hs16 : kw_Split [(rf, .inl (y 0, 3, .inl (fun _ => 0))), (mo, .inr (11, [.ref to, .ref ke, .ref ik, .ref rf, .long 0, .long 1, .ref ha, .ref r0, .ref br, .ref bp, .ref bys, .int 0, .int 0, .int 0, .int 0, .int 0, .ref an, .ref va])), (to, .inl (y 0, 228, .inl f9))] [(to, .inl (y 0, 228, .inl f9))] [(rf, .inl (y 0, 3, .inl (fun _ => 0))), (mo, .inr (11, [.ref to, .ref ke, .ref ik, .ref rf, .long 0, .long 1, .ref ha, .ref r0, .ref br, .ref bp, .ref bys, .int 0, .int 0, .int 0, .int 0, .int 0, .ref an, .ref va]))] [2] [0, 1] := ⟨rfl, rfl, rfl, rfl, rfl, by decide⟩
            refine kw_go_i hs16 hP hD hS hA (va_runS (As := [.ref to]) (rest := [.int 0]) ⟨hx, hb, hml, hown, hts⟩ (cw_goStep228 l D y to f9 (by first | rfl | decide | assumption | (simp [upd]; done) | (unfold upd; rw [if_neg (by decide)]; assumption) | (unfold upd; rw [if_neg (by decide), if_neg (by decide)]; assumption)) _) (va_cwS 1 hts gX11_glean_X11_goStep rfl rfl rfl (by decide +kernel) ⟨Nat.le_of_ble_eq_true rfl, Nat.le_of_ble_eq_true rfl⟩) (kw_PreS hs16 hP hD hK hN) rfl rfl hl.1 rfl (lv_room (Nat.le_of_ble_eq_true rfl)) dX11_glean_56 ⟨Nat.le_of_ble_eq_true rfl, Nat.le_of_ble_eq_true rfl⟩) (fun r u H locs hq hP hD hS => ?_)
            obtain rfl := hq
            have hP : va_P D vwCl [(rf, .inl (y 0, 3, .inl (fun _ => 0))), (mo, .inr (11, [.ref to, .ref ke, .ref ik, .ref rf, .long 0, .long 1, .ref ha, .ref r0, .ref br, .ref bp, .ref bys, .int 0, .int 0, .int 0, .int 0, .int 0, .ref an, .ref va])), (to, .inl (y 0, 228, .inl (upd f9 (21 : Int32).toNatClampNeg ((f9 (21 : Int32).toNatClampNeg) + 1))))] H := hP
            have hD : va_D A [(rf, .inl (y 0, 3, .inl (fun _ => 0))), (mo, .inr (11, [.ref to, .ref ke, .ref ik, .ref rf, .long 0, .long 1, .ref ha, .ref r0, .ref br, .ref bp, .ref bys, .int 0, .int 0, .int 0, .int 0, .int 0, .ref an, .ref va])), (to, .inl (y 0, 228, .inl (upd f9 (21 : Int32).toNatClampNeg ((f9 (21 : Int32).toNatClampNeg) + 1))))] := hD
            refine lv_iadd hx hb dX11_glean_59 ?_
            refine lv_topi (fun z17 hz17 => ?_)
            obtain rfl : z17 = 0 := hz17.trans (by first | rfl | decide | (simp [upd]; done))
            refine lv_istore_n (lv' := [(2, .int 0), (3, .int (nI j9)), (0, .ref mo), (1, .int (nI NN))]) hx hb dX11_glean_60 rfl hl (by decide) rfl (fun ls hl => ?_)
            refine lv_iinc (v := ((nI j9) + 1)) (lv' := [(3, .int ((nI j9) + 1)), (2, .int 0), (0, .ref mo), (1, .int (nI NN))]) hx hb dX11_glean_61 hl (k := 1) rfl (rfl) (by decide) rfl (fun ls hl => ?_)
            refine lv_goto (tgt := 46) hx hb dX11_glean_64 (by decide) ?_
            have hlt9 : j9 < NN := kw_nlt (nI_toInt (by omega)) (by omega) h15
            rw [nI_1 j9] at hl
            exact ih (j9 + 1) (upd f9 (21 : Int32).toNatClampNeg ((f9 (21 : Int32).toNatClampNeg) + 1)) H locs ls (by omega) (by omega) (by first | rfl | decide | assumption | (simp [upd]; done) | (unfold upd; rw [if_neg (by decide)]; assumption)) (hP.sub [0, 1, 2] rfl) (hD.sub [0, 1, 2] (by decide) rfl) hS (lv_sub hl [0, 1, 2, 3] rfl)
      exact lp13 (NN + 1) 0 (upd (fun _ => 0) (4 : Int32).toNatClampNeg 1) _ _ _ (Nat.zero_le _) (by omega) (by first | rfl | decide | assumption | (simp [upd]; done) | (unfold upd; rw [if_neg (by decide)]; assumption)) hP hD hS (lv_sub hl [0, 1, 2, 3] rfl)
    · skip
      exact (by have gZ1 : ¬ ((nI NN).toInt64 : Int64).toInt < (1 : Int64).toInt := fun q => h5 (Int64.lt_iff_toInt_lt.mpr q); have lZ1 : ((nI NN).toInt64).toInt = (nI NN).toInt := Int32.toInt_toInt64 _; have lZ2 : (1 : Int64).toInt = 1 := (by decide); have gZ2 : ¬ (12 : Int64).toInt < ((nI NN).toInt64 : Int64).toInt := fun q => h6 (Int64.lt_iff_toInt_lt.mpr q); have lZ3 : (12 : Int64).toInt = 12 := (by decide); have gZ3 : ¬ ((nI NN) : Int32).toInt ≤ (12 : Int32).toInt := fun q => h11 (Int32.le_iff_toInt_le.mpr q); have lZ4 : (12 : Int32).toInt = 12 := (by decide); omega : False).elim

set_option maxHeartbeats 4000000 in
set_option maxRecDepth 100000 in
theorem cq_night (l : Launch) (D : va_G) (y : Nat → ClassId) (mo : Nat) (to : Nat) (ke : Nat) (ik : Nat) (rf : Nat) (ha : Nat) (r0 : Nat) (br : Nat) (bp : Nat) (bys : Nat) (an : Nat) (va : Nat) : kw_Mi l yX11_night wsX11_night ({ frames := 2, cells := 0, slots := 0, locals := 62 }) D y [.ref mo] [(mo, .inr (11, [.ref to, .ref ke, .ref ik, .ref rf, .long 0, .long 1, .ref ha, .ref r0, .ref br, .ref bp, .ref bys, .int 0, .int 0, .int 0, .int 0, .int 0, .ref an, .ref va])), (to, .inl (y 0, 228, .inl (fun _ => 0)))] (fun (r : Int32) (u : Unit) => r = 1) (fun _ => []) 0 0 := by
  refine kw_Mi.of (cc := cX11_night) (maxL := 1) (ret := (some .int)) (by decide) rfl ?_
  intro pZ eZ s mZ beZ meZ cZ A hE
  obtain ⟨hx, hb, hr, hml, hts, hown, hlocks, hin, hA, hP, hD, hK, hN⟩ := hE
  have hS : va_S A s.heap s.heap [] := va_S.rf
  have hl := lv_entry ([.ref mo]) (n := 1) (Nat.le_of_ble_eq_true rfl)
  rw [lg_entry_eq]
  generalize (lg_sl ([.ref mo]) ++ List.replicate (1 - (lg_sl ([.ref mo])).length) Slot.unset).toArray = ls at hl ⊢
  have hl : lv_has ls 1 [(0, .ref mo)] := hl
  have fw1 := hts (.fieldLink RX11 7 "GleanDuskModel" "told" "[I") (List.mem_of_getElem? (i := 1) rfl)
  have i11 : ∀ w ∈ wsX110, w ∈ wsX11_night := fun _ h => List.mem_cons_of_mem _ (List.mem_append_right _ h)
  refine lv_aload_n hx hb dX11_night_0 rfl (lv_at hl 0 rfl) ?_
  have hs1 : kw_Split [(mo, .inr (11, [.ref to, .ref ke, .ref ik, .ref rf, .long 0, .long 1, .ref ha, .ref r0, .ref br, .ref bp, .ref bys, .int 0, .int 0, .int 0, .int 0, .int 0, .ref an, .ref va])), (to, .inl (y 0, 228, .inl (fun _ => 0)))] [(mo, .inr (11, [.ref to, .ref ke, .ref ik, .ref rf, .long 0, .long 1, .ref ha, .ref r0, .ref br, .ref bp, .ref bys, .int 0, .int 0, .int 0, .int 0, .int 0, .ref an, .ref va])), (to, .inl (y 0, 228, .inl (fun _ => 0)))] [] [0, 1] [] := ⟨rfl, rfl, rfl, rfl, rfl, by decide⟩
  refine kw_go_v hs1 hP hD hS hA (va_runV (As := []) (rest := []) ⟨hx, hb, hml, hown, hts⟩ (cw_keep l D y mo to ke ik rf ha r0 br bp bys an va  _) (cwV 0 hts gX11_night_X11_keep rfl rfl rfl (by decide +kernel) ⟨Nat.le_of_ble_eq_true rfl, Nat.le_of_ble_eq_true rfl⟩) (kw_PreV (ci := 11) (q0 := 0) hs1 hP hD hK hN rfl rfl) rfl rfl hl.1 rfl (lv_room (Nat.le_of_ble_eq_true rfl)) dX11_night_1 ⟨Nat.le_of_ble_eq_true rfl, Nat.le_of_ble_eq_true rfl⟩) (fun u H locs hq hP hD hS => ?_)
  obtain - := hq
  have hP : va_P D vwCl [(mo, .inr (11, [.ref to, .ref ke, .ref ik, .ref rf, .long 0, .long 1, .ref ha, .ref r0, .ref br, .ref bp, .ref bys, .int 0, .int 0, .int 0, .int 0, .int 0, .ref an, .ref va])), (to, .inl (y 0, 228, .inl (upd (fun _ => 0) (4 : Int32).toNatClampNeg 1)))] H := hP
  have hD : va_D A [(mo, .inr (11, [.ref to, .ref ke, .ref ik, .ref rf, .long 0, .long 1, .ref ha, .ref r0, .ref br, .ref bp, .ref bys, .int 0, .int 0, .int 0, .int 0, .int 0, .ref an, .ref va])), (to, .inl (y 0, 228, .inl (upd (fun _ => 0) (4 : Int32).toNatClampNeg 1)))] := hD
  refine lv_aload_n hx hb dX11_night_4 rfl (lv_at hl 0 rfl) ?_
  refine va_get (D := D) (ci := 11) (v := .ref to) (C := RX11) (T := TX11) (N := 18) hx hb hts i11 hown hK hP 0 rfl rfl 0 (by decide) fw1 (fun _ h9 => h9) rfl dX11_night_5 ?_
  have hs2 : kw_Split [(mo, .inr (11, [.ref to, .ref ke, .ref ik, .ref rf, .long 0, .long 1, .ref ha, .ref r0, .ref br, .ref bp, .ref bys, .int 0, .int 0, .int 0, .int 0, .int 0, .ref an, .ref va])), (to, .inl (y 0, 228, .inl (upd (fun _ => 0) (4 : Int32).toNatClampNeg 1)))] [(to, .inl (y 0, 228, .inl (upd (fun _ => 0) (4 : Int32).toNatClampNeg 1)))] [(mo, .inr (11, [.ref to, .ref ke, .ref ik, .ref rf, .long 0, .long 1, .ref ha, .ref r0, .ref br, .ref bp, .ref bys, .int 0, .int 0, .int 0, .int 0, .int 0, .ref an, .ref va]))] [1] [0] := ⟨rfl, rfl, rfl, rfl, rfl, by decide⟩
  refine kw_go_v hs2 hP hD hS hA (va_runS (As := [.ref to]) (rest := []) ⟨hx, hb, hml, hown, hts⟩ (cw_goNight l D y to (upd (fun _ => 0) (4 : Int32).toNatClampNeg 1) 0 (by first | rfl | decide | assumption | (simp [upd]; done) | (unfold upd; rw [if_neg (by decide)]; assumption) | (unfold upd; rw [if_neg (by decide), if_neg (by decide)]; assumption)) (by first | rfl | decide | assumption | (simp [upd]; done) | (unfold upd; rw [if_neg (by decide)]; assumption) | (unfold upd; rw [if_neg (by decide), if_neg (by decide)]; assumption)) (by first | rfl | decide | assumption | (simp [upd]; done) | (unfold upd; rw [if_neg (by decide)]; assumption) | (unfold upd; rw [if_neg (by decide), if_neg (by decide)]; assumption)) _) (va_cwS 1 hts gX11_night_X11_goNight rfl rfl rfl (by decide +kernel) ⟨Nat.le_of_ble_eq_true rfl, Nat.le_of_ble_eq_true rfl⟩) (kw_PreS hs2 hP hD hK hN) rfl rfl hl.1 rfl (lv_room (Nat.le_of_ble_eq_true rfl)) dX11_night_8 ⟨Nat.le_of_ble_eq_true rfl, Nat.le_of_ble_eq_true rfl⟩) (fun u H locs hq hP hD hS => ?_)
  rcases hq with ⟨rfl, h3⟩ | ⟨rfl, h4⟩
  · skip
    exact absurd h3 (by decide)
  · skip
    have hP : va_P D vwCl [(mo, .inr (11, [.ref to, .ref ke, .ref ik, .ref rf, .long 0, .long 1, .ref ha, .ref r0, .ref br, .ref bp, .ref bys, .int 0, .int 0, .int 0, .int 0, .int 0, .ref an, .ref va])), (to, .inl (y 0, 228, .inl (upd (upd (upd (fun _ => 0) (4 : Int32).toNatClampNeg 1) (23 : Int32).toNatClampNeg (0 + 1)) (21 : Int32).toNatClampNeg 0)))] H := hP
    have hD : va_D A [(mo, .inr (11, [.ref to, .ref ke, .ref ik, .ref rf, .long 0, .long 1, .ref ha, .ref r0, .ref br, .ref bp, .ref bys, .int 0, .int 0, .int 0, .int 0, .int 0, .ref an, .ref va])), (to, .inl (y 0, 228, .inl (upd (upd (upd (fun _ => 0) (4 : Int32).toNatClampNeg 1) (23 : Int32).toNatClampNeg (0 + 1)) (21 : Int32).toNatClampNeg 0)))] := hD
    refine lv_aload_n hx hb dX11_night_11 rfl (lv_at hl 0 rfl) ?_
    refine va_get (D := D) (ci := 11) (v := .ref to) (C := RX11) (T := TX11) (N := 18) hx hb hts i11 hown hK hP 0 rfl rfl 0 (by decide) fw1 (fun _ h9 => h9) rfl dX11_night_12 ?_
    refine lv_bipush (v := 23) hx hb dX11_night_15 (by decide) ?_
    refine va_iald hx hb hK hP 1 0 rfl rfl (by unfold vp_in; decide) dX11_night_17 ?_
    refine lv_topi (fun z5 hz5 => ?_)
    obtain rfl : z5 = 1 := hz5.trans (by first | rfl | decide | assumption | (simp [upd]; done) | (unfold upd; rw [if_neg (by decide)]; assumption) | (simp [upd, *]; done))
    have hsp : (1 : Int32) = 1 := by
      rfl
    exact W.iret (v := 1) hx hb hr (fun tZ ht hW => ⟨⟨1, (), rfl, hsp, by rw [ht]; exact hP.sub [] rfl, hD.sub [] (by decide) rfl⟩, hS.F ht⟩) hS.2.2 dX11_night_18

set_option maxHeartbeats 4000000 in
set_option maxRecDepth 100000 in
theorem cq_goes (l : Launch) (D : va_G) (y : Nat → ClassId) (mo : Nat) (to : Nat) (ke : Nat) (ik : Nat) (rf : Nat) (ha : Nat) (r0 : Nat) (br : Nat) (bp : Nat) (bys : Nat) (an : Nat) (va : Nat) (x : Int32) (x2 : Int32) : kw_Mi l yX11_goes wsX11_goes ({ frames := 3, cells := 0, slots := 0, locals := 86 }) D y [.ref mo, .int x, .int x2] [(mo, .inr (11, [.ref to, .ref ke, .ref ik, .ref rf, .long 0, .long 1, .ref ha, .ref r0, .ref br, .ref bp, .ref bys, .int 0, .int 0, .int 0, .int 0, .int 0, .ref an, .ref va])), (rf, .inl (y 0, 3, .inl (fun _ => 0))), (to, .inl (y 0, 228, .inl (fun _ => 0)))] (fun (r : Int32) (u : Unit) => r = (-2)) (fun _ => []) 0 0 := by
  refine kw_Mi.of (cc := cX11_goes) (maxL := 4) (ret := (some .int)) (by decide) rfl ?_
  intro pZ eZ s mZ beZ meZ cZ A hE
  obtain ⟨hx, hb, hr, hml, hts, hown, hlocks, hin, hA, hP, hD, hK, hN⟩ := hE
  have hS : va_S A s.heap s.heap [] := va_S.rf
  have hl := lv_entry ([.ref mo, .int x, .int x2]) (n := 4) (Nat.le_of_ble_eq_true rfl)
  rw [lg_entry_eq]
  generalize (lg_sl ([.ref mo, .int x, .int x2]) ++ List.replicate (4 - (lg_sl ([.ref mo, .int x, .int x2])).length) Slot.unset).toArray = ls at hl ⊢
  have hl : lv_has ls 4 [(0, .ref mo), (1, .int x), (2, .int x2)] := hl
  refine lv_aload_n hx hb dX11_goes_0 rfl (lv_at hl 0 rfl) ?_
  refine lv_iload_n hx hb dX11_goes_1 rfl (lv_at hl 1 rfl) ?_
  have hs1 : kw_Split [(mo, .inr (11, [.ref to, .ref ke, .ref ik, .ref rf, .long 0, .long 1, .ref ha, .ref r0, .ref br, .ref bp, .ref bys, .int 0, .int 0, .int 0, .int 0, .int 0, .ref an, .ref va])), (rf, .inl (y 0, 3, .inl (fun _ => 0))), (to, .inl (y 0, 228, .inl (fun _ => 0)))] [(mo, .inr (11, [.ref to, .ref ke, .ref ik, .ref rf, .long 0, .long 1, .ref ha, .ref r0, .ref br, .ref bp, .ref bys, .int 0, .int 0, .int 0, .int 0, .int 0, .ref an, .ref va])), (to, .inl (y 0, 228, .inl (fun _ => 0)))] [(rf, .inl (y 0, 3, .inl (fun _ => 0)))] [0, 2] [1] := ⟨rfl, rfl, rfl, rfl, rfl, by decide⟩
  refine kw_go_i hs1 hP hD hS hA (va_runV (As := [.int x]) (rest := []) ⟨hx, hb, hml, hown, hts⟩ (cw_isGleaner l D y mo to ke ik rf ha r0 br bp bys an va x  _) (cwV 1 hts gX11_goes_X11_isGleaner rfl rfl rfl (by decide +kernel) ⟨Nat.le_of_ble_eq_true rfl, Nat.le_of_ble_eq_true rfl⟩) (kw_PreV (ci := 11) (q0 := 0) hs1 hP hD hK hN rfl rfl) rfl rfl hl.1 rfl (lv_room (Nat.le_of_ble_eq_true rfl)) dX11_goes_2 ⟨Nat.le_of_ble_eq_true rfl, Nat.le_of_ble_eq_true rfl⟩) (fun r u H locs hq hP hD hS => ?_)
  rcases hq with ⟨h2, rfl⟩ | ⟨h3, h4, rfl⟩
  · skip
    have hP : va_P D vwCl [(rf, .inl (y 0, 3, .inl (fun _ => 0))), (mo, .inr (11, [.ref to, .ref ke, .ref ik, .ref rf, .long 0, .long 1, .ref ha, .ref r0, .ref br, .ref bp, .ref bys, .int 0, .int 0, .int 0, .int 0, .int 0, .ref an, .ref va])), (to, .inl (y 0, 228, .inl (fun _ => 0)))] H := hP
    have hD : va_D A [(rf, .inl (y 0, 3, .inl (fun _ => 0))), (mo, .inr (11, [.ref to, .ref ke, .ref ik, .ref rf, .long 0, .long 1, .ref ha, .ref r0, .ref br, .ref bp, .ref bys, .int 0, .int 0, .int 0, .int 0, .int 0, .ref an, .ref va])), (to, .inl (y 0, 228, .inl (fun _ => 0)))] := hD
    refine lv_if_eq (tgt := 16) hx hb dX11_goes_5 (by decide) (fun _ => ?_) (fun h9 => absurd h9 (by decide))
    refine lv_aload_n hx hb dX11_goes_16 rfl (lv_at hl 0 rfl) ?_
    refine lv_bipush (v := (-2)) hx hb dX11_goes_17 (by decide) ?_
    have hs5 : kw_Split [(rf, .inl (y 0, 3, .inl (fun _ => 0))), (mo, .inr (11, [.ref to, .ref ke, .ref ik, .ref rf, .long 0, .long 1, .ref ha, .ref r0, .ref br, .ref bp, .ref bys, .int 0, .int 0, .int 0, .int 0, .int 0, .ref an, .ref va])), (to, .inl (y 0, 228, .inl (fun _ => 0)))] [(mo, .inr (11, [.ref to, .ref ke, .ref ik, .ref rf, .long 0, .long 1, .ref ha, .ref r0, .ref br, .ref bp, .ref bys, .int 0, .int 0, .int 0, .int 0, .int 0, .ref an, .ref va])), (rf, .inl (y 0, 3, .inl (fun _ => 0)))] [(to, .inl (y 0, 228, .inl (fun _ => 0)))] [1, 0] [2] := ⟨rfl, rfl, rfl, rfl, rfl, by decide⟩
    refine kw_go_i hs5 hP hD hS hA (va_runV (As := [.int (-2)]) (rest := []) ⟨hx, hb, hml, hown, hts⟩ (cw_bad l D y mo to ke ik rf ha r0 br bp bys an va (fun _ => 0) (-2)  _) (cwV 1 hts gX11_goes_X11_bad rfl rfl rfl (by decide +kernel) ⟨Nat.le_of_ble_eq_true rfl, Nat.le_of_ble_eq_true rfl⟩) (kw_PreV (ci := 11) (q0 := 1) hs5 hP hD hK hN rfl rfl) rfl rfl hl.1 rfl (lv_room (Nat.le_of_ble_eq_true rfl)) dX11_goes_19 ⟨Nat.le_of_ble_eq_true rfl, Nat.le_of_ble_eq_true rfl⟩) (fun r u H locs hq hP hD hS => ?_)
    obtain rfl := hq
    have hP : va_P D vwCl [(to, .inl (y 0, 228, .inl (fun _ => 0)))] H := hP
    have hD : va_D A [(to, .inl (y 0, 228, .inl (fun _ => 0)))] := hD
    have hsp : ((-2) : Int32) = (-2) := by
      have gZ1 := Int64.lt_iff_toInt_lt.mp h2
      have lZ1 : (x.toInt64).toInt = x.toInt := Int32.toInt_toInt64 _
      have lZ2 : (0 : Int64).toInt = 0 := by decide
      rfl
    exact W.iret (v := (-2)) hx hb hr (fun tZ ht hW => ⟨⟨(-2), (), rfl, hsp, by rw [ht]; exact hP.sub [] rfl, hD.sub [] (by decide) rfl⟩, hS.F ht⟩) hS.2.2 dX11_goes_22
  · skip
    have hP : va_P D vwCl [(rf, .inl (y 0, 3, .inl (fun _ => 0))), (mo, .inr (11, [.ref to, .ref ke, .ref ik, .ref rf, .long 0, .long 1, .ref ha, .ref r0, .ref br, .ref bp, .ref bys, .int 0, .int 0, .int 0, .int 0, .int 0, .ref an, .ref va])), (to, .inl (y 0, 228, .inl (fun _ => 0)))] H := hP
    have hD : va_D A [(rf, .inl (y 0, 3, .inl (fun _ => 0))), (mo, .inr (11, [.ref to, .ref ke, .ref ik, .ref rf, .long 0, .long 1, .ref ha, .ref r0, .ref br, .ref bp, .ref bys, .int 0, .int 0, .int 0, .int 0, .int 0, .ref an, .ref va])), (to, .inl (y 0, 228, .inl (fun _ => 0)))] := hD
    refine lv_if_eq (tgt := 16) hx hb dX11_goes_5 (by decide) (fun _ => ?_) (fun h9 => absurd h9 (by decide))
    refine lv_aload_n hx hb dX11_goes_16 rfl (lv_at hl 0 rfl) ?_
    refine lv_bipush (v := (-2)) hx hb dX11_goes_17 (by decide) ?_
    have hs6 : kw_Split [(rf, .inl (y 0, 3, .inl (fun _ => 0))), (mo, .inr (11, [.ref to, .ref ke, .ref ik, .ref rf, .long 0, .long 1, .ref ha, .ref r0, .ref br, .ref bp, .ref bys, .int 0, .int 0, .int 0, .int 0, .int 0, .ref an, .ref va])), (to, .inl (y 0, 228, .inl (fun _ => 0)))] [(mo, .inr (11, [.ref to, .ref ke, .ref ik, .ref rf, .long 0, .long 1, .ref ha, .ref r0, .ref br, .ref bp, .ref bys, .int 0, .int 0, .int 0, .int 0, .int 0, .ref an, .ref va])), (rf, .inl (y 0, 3, .inl (fun _ => 0)))] [(to, .inl (y 0, 228, .inl (fun _ => 0)))] [1, 0] [2] := ⟨rfl, rfl, rfl, rfl, rfl, by decide⟩
    refine kw_go_i hs6 hP hD hS hA (va_runV (As := [.int (-2)]) (rest := []) ⟨hx, hb, hml, hown, hts⟩ (cw_bad l D y mo to ke ik rf ha r0 br bp bys an va (fun _ => 0) (-2)  _) (cwV 1 hts gX11_goes_X11_bad rfl rfl rfl (by decide +kernel) ⟨Nat.le_of_ble_eq_true rfl, Nat.le_of_ble_eq_true rfl⟩) (kw_PreV (ci := 11) (q0 := 1) hs6 hP hD hK hN rfl rfl) rfl rfl hl.1 rfl (lv_room (Nat.le_of_ble_eq_true rfl)) dX11_goes_19 ⟨Nat.le_of_ble_eq_true rfl, Nat.le_of_ble_eq_true rfl⟩) (fun r u H locs hq hP hD hS => ?_)
    obtain rfl := hq
    have hP : va_P D vwCl [(to, .inl (y 0, 228, .inl (fun _ => 0)))] H := hP
    have hD : va_D A [(to, .inl (y 0, 228, .inl (fun _ => 0)))] := hD
    have hsp : ((-2) : Int32) = (-2) := by
      have gZ1 : ¬ (x.toInt64 : Int64).toInt < (0 : Int64).toInt := fun q => h3 (Int64.lt_iff_toInt_lt.mpr q)
      have lZ1 : (x.toInt64).toInt = x.toInt := Int32.toInt_toInt64 _
      have lZ2 : (0 : Int64).toInt = 0 := by decide
      have gZ2 := Int64.lt_iff_toInt_lt.mp h4
      have lZ3 : ((-1) : Int64).toInt = -1 := by decide
      rfl
    exact W.iret (v := (-2)) hx hb hr (fun tZ ht hW => ⟨⟨(-2), (), rfl, hsp, by rw [ht]; exact hP.sub [] rfl, hD.sub [] (by decide) rfl⟩, hS.F ht⟩) hS.2.2 dX11_goes_22

set_option maxHeartbeats 4000000 in
set_option maxRecDepth 100000 in
theorem cq_cloud (l : Launch) (D : va_G) (y : Nat → ClassId) (mo : Nat) (to : Nat) (ke : Nat) (ik : Nat) (rf : Nat) (ha : Nat) (r0 : Nat) (br : Nat) (bp : Nat) (bys : Nat) (an : Nat) (va : Nat) (c : Int32) : kw_Mi l yX11_cloud wsX11_cloud ({ frames := 3, cells := 0, slots := 0, locals := 85 }) D y [.ref mo, .int c] [(mo, .inr (11, [.ref to, .ref ke, .ref ik, .ref rf, .long 0, .long 1, .ref ha, .ref r0, .ref br, .ref bp, .ref bys, .int 0, .int 0, .int 0, .int 0, .int 0, .ref an, .ref va])), (rf, .inl (y 0, 3, .inl (fun _ => 0))), (to, .inl (y 0, 228, .inl (fun _ => 0)))] (fun (r : Int32) (u : Unit) => r = (sp_cloud c)) (fun _ => []) 0 0 := by
  refine kw_Mi.of (cc := cX11_cloud) (maxL := 3) (ret := (some .int)) (by decide) rfl ?_
  intro pZ eZ s mZ beZ meZ cZ A hE
  obtain ⟨hx, hb, hr, hml, hts, hown, hlocks, hin, hA, hP, hD, hK, hN⟩ := hE
  have hS : va_S A s.heap s.heap [] := va_S.rf
  have hl := lv_entry ([.ref mo, .int c]) (n := 3) (Nat.le_of_ble_eq_true rfl)
  rw [lg_entry_eq]
  generalize (lg_sl ([.ref mo, .int c]) ++ List.replicate (3 - (lg_sl ([.ref mo, .int c])).length) Slot.unset).toArray = ls at hl ⊢
  have hl : lv_has ls 3 [(0, .ref mo), (1, .int c)] := hl
  have fw1 := hts (.fieldLink RX11 7 "GleanDuskModel" "told" "[I") (List.mem_of_getElem? (i := 1) rfl)
  have i11 : ∀ w ∈ wsX110, w ∈ wsX11_cloud := fun _ h => List.mem_cons_of_mem _ (List.mem_append_right _ h)
  refine lv_iload_n hx hb dX11_cloud_0 rfl (lv_at hl 1 rfl) ?_
  have hs1 : kw_Split [(mo, .inr (11, [.ref to, .ref ke, .ref ik, .ref rf, .long 0, .long 1, .ref ha, .ref r0, .ref br, .ref bp, .ref bys, .int 0, .int 0, .int 0, .int 0, .int 0, .ref an, .ref va])), (rf, .inl (y 0, 3, .inl (fun _ => 0))), (to, .inl (y 0, 228, .inl (fun _ => 0)))] [] [(mo, .inr (11, [.ref to, .ref ke, .ref ik, .ref rf, .long 0, .long 1, .ref ha, .ref r0, .ref br, .ref bp, .ref bys, .int 0, .int 0, .int 0, .int 0, .int 0, .ref an, .ref va])), (rf, .inl (y 0, 3, .inl (fun _ => 0))), (to, .inl (y 0, 228, .inl (fun _ => 0)))] [] [0, 1, 2] := ⟨rfl, rfl, rfl, rfl, rfl, by decide⟩
  refine kw_go_i hs1 hP hD hS hA (va_runS (As := [.int c]) (rest := []) ⟨hx, hb, hml, hown, hts⟩ (cw_isCloud l D y c  _) (va_cwS 1 hts gX11_cloud_X11_isCloud rfl rfl rfl (by decide +kernel) ⟨Nat.le_of_ble_eq_true rfl, Nat.le_of_ble_eq_true rfl⟩) (kw_PreS hs1 hP hD hK hN) rfl rfl hl.1 rfl (lv_room (Nat.le_of_ble_eq_true rfl)) dX11_cloud_1 ⟨Nat.le_of_ble_eq_true rfl, Nat.le_of_ble_eq_true rfl⟩) (fun r u H locs hq hP hD hS => ?_)
  rcases hq with ⟨h2, rfl⟩ | ⟨h3, h4, rfl⟩ | ⟨h5, h6, rfl⟩
  · skip
    have hP : va_P D vwCl [(mo, .inr (11, [.ref to, .ref ke, .ref ik, .ref rf, .long 0, .long 1, .ref ha, .ref r0, .ref br, .ref bp, .ref bys, .int 0, .int 0, .int 0, .int 0, .int 0, .ref an, .ref va])), (rf, .inl (y 0, 3, .inl (fun _ => 0))), (to, .inl (y 0, 228, .inl (fun _ => 0)))] H := hP
    have hD : va_D A [(mo, .inr (11, [.ref to, .ref ke, .ref ik, .ref rf, .long 0, .long 1, .ref ha, .ref r0, .ref br, .ref bp, .ref bys, .int 0, .int 0, .int 0, .int 0, .int 0, .ref an, .ref va])), (rf, .inl (y 0, 3, .inl (fun _ => 0))), (to, .inl (y 0, 228, .inl (fun _ => 0)))] := hD
    refine lv_if_ne (tgt := 14) hx hb dX11_cloud_4 (by decide) (fun h9 => absurd h9 (by decide)) (fun _ => ?_)
    refine lv_aload_n hx hb dX11_cloud_7 rfl (lv_at hl 0 rfl) ?_
    refine lv_bipush (v := (-2)) hx hb dX11_cloud_8 (by decide) ?_
    have hs7 : kw_Split [(mo, .inr (11, [.ref to, .ref ke, .ref ik, .ref rf, .long 0, .long 1, .ref ha, .ref r0, .ref br, .ref bp, .ref bys, .int 0, .int 0, .int 0, .int 0, .int 0, .ref an, .ref va])), (rf, .inl (y 0, 3, .inl (fun _ => 0))), (to, .inl (y 0, 228, .inl (fun _ => 0)))] [(mo, .inr (11, [.ref to, .ref ke, .ref ik, .ref rf, .long 0, .long 1, .ref ha, .ref r0, .ref br, .ref bp, .ref bys, .int 0, .int 0, .int 0, .int 0, .int 0, .ref an, .ref va])), (rf, .inl (y 0, 3, .inl (fun _ => 0)))] [(to, .inl (y 0, 228, .inl (fun _ => 0)))] [0, 1] [2] := ⟨rfl, rfl, rfl, rfl, rfl, by decide⟩
    refine kw_go_i hs7 hP hD hS hA (va_runV (As := [.int (-2)]) (rest := []) ⟨hx, hb, hml, hown, hts⟩ (cw_bad l D y mo to ke ik rf ha r0 br bp bys an va (fun _ => 0) (-2)  _) (cwV 1 hts gX11_cloud_X11_bad rfl rfl rfl (by decide +kernel) ⟨Nat.le_of_ble_eq_true rfl, Nat.le_of_ble_eq_true rfl⟩) (kw_PreV (ci := 11) (q0 := 0) hs7 hP hD hK hN rfl rfl) rfl rfl hl.1 rfl (lv_room (Nat.le_of_ble_eq_true rfl)) dX11_cloud_10 ⟨Nat.le_of_ble_eq_true rfl, Nat.le_of_ble_eq_true rfl⟩) (fun r u H locs hq hP hD hS => ?_)
    obtain rfl := hq
    have hP : va_P D vwCl [(to, .inl (y 0, 228, .inl (fun _ => 0)))] H := hP
    have hD : va_D A [(to, .inl (y 0, 228, .inl (fun _ => 0)))] := hD
    have hsp : ((-2) : Int32) = (sp_cloud c) := by
      have gZ1 := Int64.lt_iff_toInt_lt.mp h2
      have lZ1 : (c.toInt64).toInt = c.toInt := Int32.toInt_toInt64 _
      have lZ2 : (0 : Int64).toInt = 0 := by decide
      unfold sp_cloud; first | rfl | decide | exact (if_neg (by omega)).symm | exact (if_pos (by omega)).symm | exact ((if_pos (by omega)).trans (if_neg (by omega))).symm | exact ((if_pos (by omega)).trans (if_pos (by omega))).symm | exact ((if_neg (by omega)).trans (if_pos (by omega))).symm | exact ((if_neg (by omega)).trans (if_neg (by omega))).symm
    exact W.iret (v := (-2)) hx hb hr (fun tZ ht hW => ⟨⟨(-2), (), rfl, hsp, by rw [ht]; exact hP.sub [] rfl, hD.sub [] (by decide) rfl⟩, hS.F ht⟩) hS.2.2 dX11_cloud_13
  · skip
    have hP : va_P D vwCl [(mo, .inr (11, [.ref to, .ref ke, .ref ik, .ref rf, .long 0, .long 1, .ref ha, .ref r0, .ref br, .ref bp, .ref bys, .int 0, .int 0, .int 0, .int 0, .int 0, .ref an, .ref va])), (rf, .inl (y 0, 3, .inl (fun _ => 0))), (to, .inl (y 0, 228, .inl (fun _ => 0)))] H := hP
    have hD : va_D A [(mo, .inr (11, [.ref to, .ref ke, .ref ik, .ref rf, .long 0, .long 1, .ref ha, .ref r0, .ref br, .ref bp, .ref bys, .int 0, .int 0, .int 0, .int 0, .int 0, .ref an, .ref va])), (rf, .inl (y 0, 3, .inl (fun _ => 0))), (to, .inl (y 0, 228, .inl (fun _ => 0)))] := hD
    refine lv_if_ne (tgt := 14) hx hb dX11_cloud_4 (by decide) (fun h9 => absurd h9 (by decide)) (fun _ => ?_)
    refine lv_aload_n hx hb dX11_cloud_7 rfl (lv_at hl 0 rfl) ?_
    refine lv_bipush (v := (-2)) hx hb dX11_cloud_8 (by decide) ?_
    have hs8 : kw_Split [(mo, .inr (11, [.ref to, .ref ke, .ref ik, .ref rf, .long 0, .long 1, .ref ha, .ref r0, .ref br, .ref bp, .ref bys, .int 0, .int 0, .int 0, .int 0, .int 0, .ref an, .ref va])), (rf, .inl (y 0, 3, .inl (fun _ => 0))), (to, .inl (y 0, 228, .inl (fun _ => 0)))] [(mo, .inr (11, [.ref to, .ref ke, .ref ik, .ref rf, .long 0, .long 1, .ref ha, .ref r0, .ref br, .ref bp, .ref bys, .int 0, .int 0, .int 0, .int 0, .int 0, .ref an, .ref va])), (rf, .inl (y 0, 3, .inl (fun _ => 0)))] [(to, .inl (y 0, 228, .inl (fun _ => 0)))] [0, 1] [2] := ⟨rfl, rfl, rfl, rfl, rfl, by decide⟩
    refine kw_go_i hs8 hP hD hS hA (va_runV (As := [.int (-2)]) (rest := []) ⟨hx, hb, hml, hown, hts⟩ (cw_bad l D y mo to ke ik rf ha r0 br bp bys an va (fun _ => 0) (-2)  _) (cwV 1 hts gX11_cloud_X11_bad rfl rfl rfl (by decide +kernel) ⟨Nat.le_of_ble_eq_true rfl, Nat.le_of_ble_eq_true rfl⟩) (kw_PreV (ci := 11) (q0 := 0) hs8 hP hD hK hN rfl rfl) rfl rfl hl.1 rfl (lv_room (Nat.le_of_ble_eq_true rfl)) dX11_cloud_10 ⟨Nat.le_of_ble_eq_true rfl, Nat.le_of_ble_eq_true rfl⟩) (fun r u H locs hq hP hD hS => ?_)
    obtain rfl := hq
    have hP : va_P D vwCl [(to, .inl (y 0, 228, .inl (fun _ => 0)))] H := hP
    have hD : va_D A [(to, .inl (y 0, 228, .inl (fun _ => 0)))] := hD
    have hsp : ((-2) : Int32) = (sp_cloud c) := by
      have gZ1 : ¬ (c.toInt64 : Int64).toInt < (0 : Int64).toInt := fun q => h3 (Int64.lt_iff_toInt_lt.mpr q)
      have lZ1 : (c.toInt64).toInt = c.toInt := Int32.toInt_toInt64 _
      have lZ2 : (0 : Int64).toInt = 0 := by decide
      have gZ2 := Int64.lt_iff_toInt_lt.mp h4
      have lZ3 : (9 : Int64).toInt = 9 := by decide
      unfold sp_cloud; first | rfl | decide | exact (if_neg (by omega)).symm | exact (if_pos (by omega)).symm | exact ((if_pos (by omega)).trans (if_neg (by omega))).symm | exact ((if_pos (by omega)).trans (if_pos (by omega))).symm | exact ((if_neg (by omega)).trans (if_pos (by omega))).symm | exact ((if_neg (by omega)).trans (if_neg (by omega))).symm
    exact W.iret (v := (-2)) hx hb hr (fun tZ ht hW => ⟨⟨(-2), (), rfl, hsp, by rw [ht]; exact hP.sub [] rfl, hD.sub [] (by decide) rfl⟩, hS.F ht⟩) hS.2.2 dX11_cloud_13
  · skip
    have hP : va_P D vwCl [(mo, .inr (11, [.ref to, .ref ke, .ref ik, .ref rf, .long 0, .long 1, .ref ha, .ref r0, .ref br, .ref bp, .ref bys, .int 0, .int 0, .int 0, .int 0, .int 0, .ref an, .ref va])), (rf, .inl (y 0, 3, .inl (fun _ => 0))), (to, .inl (y 0, 228, .inl (fun _ => 0)))] H := hP
    have hD : va_D A [(mo, .inr (11, [.ref to, .ref ke, .ref ik, .ref rf, .long 0, .long 1, .ref ha, .ref r0, .ref br, .ref bp, .ref bys, .int 0, .int 0, .int 0, .int 0, .int 0, .ref an, .ref va])), (rf, .inl (y 0, 3, .inl (fun _ => 0))), (to, .inl (y 0, 228, .inl (fun _ => 0)))] := hD
    refine lv_if_ne (tgt := 14) hx hb dX11_cloud_4 (by decide) (fun _ => ?_) (fun h9 => absurd h9 (by decide))
    refine lv_aload_n hx hb dX11_cloud_14 rfl (lv_at hl 0 rfl) ?_
    refine va_get (D := D) (ci := 11) (v := .ref to) (C := RX11) (T := TX11) (N := 18) hx hb hts i11 hown hK hP 0 rfl rfl 0 (by decide) fw1 (fun _ h9 => h9) rfl dX11_cloud_15 ?_
    refine lv_bipush (v := 22) hx hb dX11_cloud_18 (by decide) ?_
    refine va_iald hx hb hK hP 2 0 rfl rfl (by unfold vp_in; decide) dX11_cloud_20 ?_
    refine lv_topi (fun z9 hz9 => ?_)
    obtain rfl : z9 = 0 := hz9.trans (by first | rfl | decide | assumption | (simp [upd]; done) | (unfold upd; rw [if_neg (by decide)]; assumption) | (simp [upd, *]; done))
    refine lv_istore_n (lv' := [(2, .int 0), (0, .ref mo), (1, .int c)]) hx hb dX11_cloud_21 rfl hl (by decide) rfl (fun ls hl => ?_)
    refine lv_aload_n hx hb dX11_cloud_22 rfl (lv_at hl 1 rfl) ?_
    have hs10 : kw_Split [(mo, .inr (11, [.ref to, .ref ke, .ref ik, .ref rf, .long 0, .long 1, .ref ha, .ref r0, .ref br, .ref bp, .ref bys, .int 0, .int 0, .int 0, .int 0, .int 0, .ref an, .ref va])), (rf, .inl (y 0, 3, .inl (fun _ => 0))), (to, .inl (y 0, 228, .inl (fun _ => 0)))] [(mo, .inr (11, [.ref to, .ref ke, .ref ik, .ref rf, .long 0, .long 1, .ref ha, .ref r0, .ref br, .ref bp, .ref bys, .int 0, .int 0, .int 0, .int 0, .int 0, .ref an, .ref va])), (to, .inl (y 0, 228, .inl (fun _ => 0)))] [(rf, .inl (y 0, 3, .inl (fun _ => 0)))] [0, 2] [1] := ⟨rfl, rfl, rfl, rfl, rfl, by decide⟩
    refine kw_go_v hs10 hP hD hS hA (va_runV (As := []) (rest := []) ⟨hx, hb, hml, hown, hts⟩ (cw_keep l D y mo to ke ik rf ha r0 br bp bys an va  _) (cwV 0 hts gX11_cloud_X11_keep rfl rfl rfl (by decide +kernel) ⟨Nat.le_of_ble_eq_true rfl, Nat.le_of_ble_eq_true rfl⟩) (kw_PreV (ci := 11) (q0 := 0) hs10 hP hD hK hN rfl rfl) rfl rfl hl.1 rfl (lv_room (Nat.le_of_ble_eq_true rfl)) dX11_cloud_23 ⟨Nat.le_of_ble_eq_true rfl, Nat.le_of_ble_eq_true rfl⟩) (fun u H locs hq hP hD hS => ?_)
    obtain - := hq
    have hP : va_P D vwCl [(rf, .inl (y 0, 3, .inl (fun _ => 0))), (mo, .inr (11, [.ref to, .ref ke, .ref ik, .ref rf, .long 0, .long 1, .ref ha, .ref r0, .ref br, .ref bp, .ref bys, .int 0, .int 0, .int 0, .int 0, .int 0, .ref an, .ref va])), (to, .inl (y 0, 228, .inl (upd (fun _ => 0) (4 : Int32).toNatClampNeg 1)))] H := hP
    have hD : va_D A [(rf, .inl (y 0, 3, .inl (fun _ => 0))), (mo, .inr (11, [.ref to, .ref ke, .ref ik, .ref rf, .long 0, .long 1, .ref ha, .ref r0, .ref br, .ref bp, .ref bys, .int 0, .int 0, .int 0, .int 0, .int 0, .ref an, .ref va])), (to, .inl (y 0, 228, .inl (upd (fun _ => 0) (4 : Int32).toNatClampNeg 1)))] := hD
    refine lv_aload_n hx hb dX11_cloud_26 rfl (lv_at hl 1 rfl) ?_
    refine va_get (D := D) (ci := 11) (v := .ref to) (C := RX11) (T := TX11) (N := 18) hx hb hts i11 hown hK hP 1 rfl rfl 0 (by decide) fw1 (fun _ h9 => h9) rfl dX11_cloud_27 ?_
    refine lv_bipush (v := 22) hx hb dX11_cloud_30 (by decide) ?_
    refine lv_iload_n hx hb dX11_cloud_32 rfl (lv_at hl 2 rfl) ?_
    refine va_iast hx hb hK hP hD hS 2 0 rfl rfl (by unfold vp_in; decide) dX11_cloud_33 (fun H locs hP hD hS => ?_)
    have hP : va_P D vwCl [(rf, .inl (y 0, 3, .inl (fun _ => 0))), (mo, .inr (11, [.ref to, .ref ke, .ref ik, .ref rf, .long 0, .long 1, .ref ha, .ref r0, .ref br, .ref bp, .ref bys, .int 0, .int 0, .int 0, .int 0, .int 0, .ref an, .ref va])), (to, .inl (y 0, 228, .inl (upd (upd (fun _ => 0) (4 : Int32).toNatClampNeg 1) (22 : Int32).toNatClampNeg c)))] H := hP
    have hD : va_D A [(rf, .inl (y 0, 3, .inl (fun _ => 0))), (mo, .inr (11, [.ref to, .ref ke, .ref ik, .ref rf, .long 0, .long 1, .ref ha, .ref r0, .ref br, .ref bp, .ref bys, .int 0, .int 0, .int 0, .int 0, .int 0, .ref an, .ref va])), (to, .inl (y 0, 228, .inl (upd (upd (fun _ => 0) (4 : Int32).toNatClampNeg 1) (22 : Int32).toNatClampNeg c)))] := hD
    refine lv_iload_n hx hb dX11_cloud_34 rfl (lv_at hl 0 rfl) ?_
    have hsp : (0 : Int32) = (sp_cloud c) := by
      have gZ1 : ¬ (c.toInt64 : Int64).toInt < (0 : Int64).toInt := fun q => h5 (Int64.lt_iff_toInt_lt.mpr q)
      have lZ1 : (c.toInt64).toInt = c.toInt := Int32.toInt_toInt64 _
      have lZ2 : (0 : Int64).toInt = 0 := by decide
      have gZ2 : ¬ (9 : Int64).toInt < (c.toInt64 : Int64).toInt := fun q => h6 (Int64.lt_iff_toInt_lt.mpr q)
      have lZ3 : (9 : Int64).toInt = 9 := by decide
      unfold sp_cloud; first | rfl | decide | exact (if_neg (by omega)).symm | exact (if_pos (by omega)).symm | exact ((if_pos (by omega)).trans (if_neg (by omega))).symm | exact ((if_pos (by omega)).trans (if_pos (by omega))).symm | exact ((if_neg (by omega)).trans (if_pos (by omega))).symm | exact ((if_neg (by omega)).trans (if_neg (by omega))).symm
    exact W.iret (v := 0) hx hb hr (fun tZ ht hW => ⟨⟨0, (), rfl, hsp, by rw [ht]; exact hP.sub [] rfl, hD.sub [] (by decide) rfl⟩, hS.F ht⟩) hS.2.2 dX11_cloud_35

set_option maxHeartbeats 4000000 in
set_option maxRecDepth 100000 in
theorem cq_undo (l : Launch) (D : va_G) (y : Nat → ClassId) (mo : Nat) (to : Nat) (ke : Nat) (ik : Nat) (rf : Nat) (ha : Nat) (r0 : Nat) (br : Nat) (bp : Nat) (bys : Nat) (an : Nat) (va : Nat) : kw_Mi l yX11_undo wsX11_undo ({ frames := 2, cells := 0, slots := 0, locals := 60 }) D y [.ref mo] [(mo, .inr (11, [.ref to, .ref ke, .ref ik, .ref rf, .long 0, .long 1, .ref ha, .ref r0, .ref br, .ref bp, .ref bys, .int 0, .int 0, .int 0, .int 0, .int 0, .ref an, .ref va])), (rf, .inl (y 0, 3, .inl (fun _ => 0))), (to, .inl (y 0, 228, .inl (fun _ => 0)))] (fun (r : Int32) (u : Unit) => r = (-3)) (fun _ => []) 0 0 := by
  refine kw_Mi.of (cc := cX11_undo) (maxL := 2) (ret := (some .int)) (by decide) rfl ?_
  intro pZ eZ s mZ beZ meZ cZ A hE
  obtain ⟨hx, hb, hr, hml, hts, hown, hlocks, hin, hA, hP, hD, hK, hN⟩ := hE
  have hS : va_S A s.heap s.heap [] := va_S.rf
  have hl := lv_entry ([.ref mo]) (n := 2) (Nat.le_of_ble_eq_true rfl)
  rw [lg_entry_eq]
  generalize (lg_sl ([.ref mo]) ++ List.replicate (2 - (lg_sl ([.ref mo])).length) Slot.unset).toArray = ls at hl ⊢
  have hl : lv_has ls 2 [(0, .ref mo)] := hl
  have fw1 := hts (.fieldLink RX11 7 "GleanDuskModel" "told" "[I") (List.mem_of_getElem? (i := 1) rfl)
  have i11 : ∀ w ∈ wsX110, w ∈ wsX11_undo := fun _ h => List.mem_cons_of_mem _ (List.mem_append_right _ h)
  refine lv_aload_n hx hb dX11_undo_0 rfl (lv_at hl 0 rfl) ?_
  refine va_get (D := D) (ci := 11) (v := .ref to) (C := RX11) (T := TX11) (N := 18) hx hb hts i11 hown hK hP 0 rfl rfl 0 (by decide) fw1 (fun _ h9 => h9) rfl dX11_undo_1 ?_
  refine lv_iconst (v := 4) hx hb dX11_undo_4 (by decide) ?_
  refine va_iald hx hb hK hP 2 0 rfl rfl (by unfold vp_in; decide) dX11_undo_5 ?_
  refine lv_topi (fun z1 hz1 => ?_)
  obtain rfl : z1 = 0 := hz1.trans (by first | rfl | decide | assumption | (simp [upd]; done) | (unfold upd; rw [if_neg (by decide)]; assumption) | (simp [upd, *]; done))
  refine lv_if_ne (tgt := 14) hx hb dX11_undo_6 (by decide) (fun h9 => absurd h9 (by decide)) (fun _ => ?_)
  refine lv_aload_n hx hb dX11_undo_9 rfl (lv_at hl 0 rfl) ?_
  have hs2 : kw_Split [(mo, .inr (11, [.ref to, .ref ke, .ref ik, .ref rf, .long 0, .long 1, .ref ha, .ref r0, .ref br, .ref bp, .ref bys, .int 0, .int 0, .int 0, .int 0, .int 0, .ref an, .ref va])), (rf, .inl (y 0, 3, .inl (fun _ => 0))), (to, .inl (y 0, 228, .inl (fun _ => 0)))] [(mo, .inr (11, [.ref to, .ref ke, .ref ik, .ref rf, .long 0, .long 1, .ref ha, .ref r0, .ref br, .ref bp, .ref bys, .int 0, .int 0, .int 0, .int 0, .int 0, .ref an, .ref va])), (rf, .inl (y 0, 3, .inl (fun _ => 0)))] [(to, .inl (y 0, 228, .inl (fun _ => 0)))] [0, 1] [2] := ⟨rfl, rfl, rfl, rfl, rfl, by decide⟩
  refine kw_go_i hs2 hP hD hS hA (va_runV (As := []) (rest := []) ⟨hx, hb, hml, hown, hts⟩ (cw_no l D y mo to ke ik rf ha r0 br bp bys an va (fun _ => 0)  _) (cwV 0 hts gX11_undo_X11_no rfl rfl rfl (by decide +kernel) ⟨Nat.le_of_ble_eq_true rfl, Nat.le_of_ble_eq_true rfl⟩) (kw_PreV (ci := 11) (q0 := 0) hs2 hP hD hK hN rfl rfl) rfl rfl hl.1 rfl (lv_room (Nat.le_of_ble_eq_true rfl)) dX11_undo_10 ⟨Nat.le_of_ble_eq_true rfl, Nat.le_of_ble_eq_true rfl⟩) (fun r u H locs hq hP hD hS => ?_)
  obtain rfl := hq
  have hP : va_P D vwCl [(to, .inl (y 0, 228, .inl (fun _ => 0)))] H := hP
  have hD : va_D A [(to, .inl (y 0, 228, .inl (fun _ => 0)))] := hD
  have hsp : ((-3) : Int32) = (-3) := by
    rfl
  exact W.iret (v := (-3)) hx hb hr (fun tZ ht hW => ⟨⟨(-3), (), rfl, hsp, by rw [ht]; exact hP.sub [] rfl, hD.sub [] (by decide) rfl⟩, hS.F ht⟩) hS.2.2 dX11_undo_13

set_option maxHeartbeats 4000000 in
set_option maxRecDepth 100000 in
theorem cq_of (l : Launch) (D : va_G) (y : Nat → ClassId) (mo : Nat) (to : Nat) (ke : Nat) (ik : Nat) (rf : Nat) (ha : Nat) (r0 : Nat) (br : Nat) (bp : Nat) (bys : Nat) (an : Nat) (va : Nat) (x : Int32) (x2 : Int32) : kw_Mi l yX11_of wsX11_of ({ frames := 3, cells := 0, slots := 0, locals := 86 }) D y [.ref mo, .int x, .int x2] [(mo, .inr (11, [.ref to, .ref ke, .ref ik, .ref rf, .long 0, .long 1, .ref ha, .ref r0, .ref br, .ref bp, .ref bys, .int 0, .int 0, .int 0, .int 0, .int 0, .ref an, .ref va])), (rf, .inl (y 0, 3, .inl (fun _ => 0))), (to, .inl (y 0, 228, .inl (fun _ => 0)))] (fun (r : Int32) (u : Unit) => r = (-2)) (fun _ => []) 0 0 := by
  refine kw_Mi.of (cc := cX11_of) (maxL := 3) (ret := (some .int)) (by decide) rfl ?_
  intro pZ eZ s mZ beZ meZ cZ A hE
  obtain ⟨hx, hb, hr, hml, hts, hown, hlocks, hin, hA, hP, hD, hK, hN⟩ := hE
  have hS : va_S A s.heap s.heap [] := va_S.rf
  have hl := lv_entry ([.ref mo, .int x, .int x2]) (n := 3) (Nat.le_of_ble_eq_true rfl)
  rw [lg_entry_eq]
  generalize (lg_sl ([.ref mo, .int x, .int x2]) ++ List.replicate (3 - (lg_sl ([.ref mo, .int x, .int x2])).length) Slot.unset).toArray = ls at hl ⊢
  have hl : lv_has ls 3 [(0, .ref mo), (1, .int x), (2, .int x2)] := hl
  refine lv_aload_n hx hb dX11_of_0 rfl (lv_at hl 0 rfl) ?_
  refine lv_iload_n hx hb dX11_of_1 rfl (lv_at hl 1 rfl) ?_
  have hs1 : kw_Split [(mo, .inr (11, [.ref to, .ref ke, .ref ik, .ref rf, .long 0, .long 1, .ref ha, .ref r0, .ref br, .ref bp, .ref bys, .int 0, .int 0, .int 0, .int 0, .int 0, .ref an, .ref va])), (rf, .inl (y 0, 3, .inl (fun _ => 0))), (to, .inl (y 0, 228, .inl (fun _ => 0)))] [(mo, .inr (11, [.ref to, .ref ke, .ref ik, .ref rf, .long 0, .long 1, .ref ha, .ref r0, .ref br, .ref bp, .ref bys, .int 0, .int 0, .int 0, .int 0, .int 0, .ref an, .ref va])), (to, .inl (y 0, 228, .inl (fun _ => 0)))] [(rf, .inl (y 0, 3, .inl (fun _ => 0)))] [0, 2] [1] := ⟨rfl, rfl, rfl, rfl, rfl, by decide⟩
  refine kw_go_i hs1 hP hD hS hA (va_runV (As := [.int x]) (rest := []) ⟨hx, hb, hml, hown, hts⟩ (cw_isField l D y mo to ke ik rf ha r0 br bp bys an va x  _) (cwV 1 hts gX11_of_X11_isField rfl rfl rfl (by decide +kernel) ⟨Nat.le_of_ble_eq_true rfl, Nat.le_of_ble_eq_true rfl⟩) (kw_PreV (ci := 11) (q0 := 0) hs1 hP hD hK hN rfl rfl) rfl rfl hl.1 rfl (lv_room (Nat.le_of_ble_eq_true rfl)) dX11_of_2 ⟨Nat.le_of_ble_eq_true rfl, Nat.le_of_ble_eq_true rfl⟩) (fun r u H locs hq hP hD hS => ?_)
  rcases hq with ⟨h2, rfl⟩ | ⟨h3, h4, rfl⟩
  · skip
    have hP : va_P D vwCl [(rf, .inl (y 0, 3, .inl (fun _ => 0))), (mo, .inr (11, [.ref to, .ref ke, .ref ik, .ref rf, .long 0, .long 1, .ref ha, .ref r0, .ref br, .ref bp, .ref bys, .int 0, .int 0, .int 0, .int 0, .int 0, .ref an, .ref va])), (to, .inl (y 0, 228, .inl (fun _ => 0)))] H := hP
    have hD : va_D A [(rf, .inl (y 0, 3, .inl (fun _ => 0))), (mo, .inr (11, [.ref to, .ref ke, .ref ik, .ref rf, .long 0, .long 1, .ref ha, .ref r0, .ref br, .ref bp, .ref bys, .int 0, .int 0, .int 0, .int 0, .int 0, .ref an, .ref va])), (to, .inl (y 0, 228, .inl (fun _ => 0)))] := hD
    refine lv_if_eq (tgt := 20) hx hb dX11_of_5 (by decide) (fun _ => ?_) (fun h9 => absurd h9 (by decide))
    refine lv_aload_n hx hb dX11_of_20 rfl (lv_at hl 0 rfl) ?_
    refine lv_bipush (v := (-2)) hx hb dX11_of_21 (by decide) ?_
    have hs5 : kw_Split [(rf, .inl (y 0, 3, .inl (fun _ => 0))), (mo, .inr (11, [.ref to, .ref ke, .ref ik, .ref rf, .long 0, .long 1, .ref ha, .ref r0, .ref br, .ref bp, .ref bys, .int 0, .int 0, .int 0, .int 0, .int 0, .ref an, .ref va])), (to, .inl (y 0, 228, .inl (fun _ => 0)))] [(mo, .inr (11, [.ref to, .ref ke, .ref ik, .ref rf, .long 0, .long 1, .ref ha, .ref r0, .ref br, .ref bp, .ref bys, .int 0, .int 0, .int 0, .int 0, .int 0, .ref an, .ref va])), (rf, .inl (y 0, 3, .inl (fun _ => 0)))] [(to, .inl (y 0, 228, .inl (fun _ => 0)))] [1, 0] [2] := ⟨rfl, rfl, rfl, rfl, rfl, by decide⟩
    refine kw_go_i hs5 hP hD hS hA (va_runV (As := [.int (-2)]) (rest := []) ⟨hx, hb, hml, hown, hts⟩ (cw_bad l D y mo to ke ik rf ha r0 br bp bys an va (fun _ => 0) (-2)  _) (cwV 1 hts gX11_of_X11_bad rfl rfl rfl (by decide +kernel) ⟨Nat.le_of_ble_eq_true rfl, Nat.le_of_ble_eq_true rfl⟩) (kw_PreV (ci := 11) (q0 := 1) hs5 hP hD hK hN rfl rfl) rfl rfl hl.1 rfl (lv_room (Nat.le_of_ble_eq_true rfl)) dX11_of_23 ⟨Nat.le_of_ble_eq_true rfl, Nat.le_of_ble_eq_true rfl⟩) (fun r u H locs hq hP hD hS => ?_)
    obtain rfl := hq
    have hP : va_P D vwCl [(to, .inl (y 0, 228, .inl (fun _ => 0)))] H := hP
    have hD : va_D A [(to, .inl (y 0, 228, .inl (fun _ => 0)))] := hD
    have hsp : ((-2) : Int32) = (-2) := by
      have gZ1 := Int64.lt_iff_toInt_lt.mp h2
      have lZ1 : (x.toInt64).toInt = x.toInt := Int32.toInt_toInt64 _
      have lZ2 : (0 : Int64).toInt = 0 := by decide
      rfl
    exact W.iret (v := (-2)) hx hb hr (fun tZ ht hW => ⟨⟨(-2), (), rfl, hsp, by rw [ht]; exact hP.sub [] rfl, hD.sub [] (by decide) rfl⟩, hS.F ht⟩) hS.2.2 dX11_of_26
  · skip
    have hP : va_P D vwCl [(rf, .inl (y 0, 3, .inl (fun _ => 0))), (mo, .inr (11, [.ref to, .ref ke, .ref ik, .ref rf, .long 0, .long 1, .ref ha, .ref r0, .ref br, .ref bp, .ref bys, .int 0, .int 0, .int 0, .int 0, .int 0, .ref an, .ref va])), (to, .inl (y 0, 228, .inl (fun _ => 0)))] H := hP
    have hD : va_D A [(rf, .inl (y 0, 3, .inl (fun _ => 0))), (mo, .inr (11, [.ref to, .ref ke, .ref ik, .ref rf, .long 0, .long 1, .ref ha, .ref r0, .ref br, .ref bp, .ref bys, .int 0, .int 0, .int 0, .int 0, .int 0, .ref an, .ref va])), (to, .inl (y 0, 228, .inl (fun _ => 0)))] := hD
    refine lv_if_eq (tgt := 20) hx hb dX11_of_5 (by decide) (fun _ => ?_) (fun h9 => absurd h9 (by decide))
    refine lv_aload_n hx hb dX11_of_20 rfl (lv_at hl 0 rfl) ?_
    refine lv_bipush (v := (-2)) hx hb dX11_of_21 (by decide) ?_
    have hs6 : kw_Split [(rf, .inl (y 0, 3, .inl (fun _ => 0))), (mo, .inr (11, [.ref to, .ref ke, .ref ik, .ref rf, .long 0, .long 1, .ref ha, .ref r0, .ref br, .ref bp, .ref bys, .int 0, .int 0, .int 0, .int 0, .int 0, .ref an, .ref va])), (to, .inl (y 0, 228, .inl (fun _ => 0)))] [(mo, .inr (11, [.ref to, .ref ke, .ref ik, .ref rf, .long 0, .long 1, .ref ha, .ref r0, .ref br, .ref bp, .ref bys, .int 0, .int 0, .int 0, .int 0, .int 0, .ref an, .ref va])), (rf, .inl (y 0, 3, .inl (fun _ => 0)))] [(to, .inl (y 0, 228, .inl (fun _ => 0)))] [1, 0] [2] := ⟨rfl, rfl, rfl, rfl, rfl, by decide⟩
    refine kw_go_i hs6 hP hD hS hA (va_runV (As := [.int (-2)]) (rest := []) ⟨hx, hb, hml, hown, hts⟩ (cw_bad l D y mo to ke ik rf ha r0 br bp bys an va (fun _ => 0) (-2)  _) (cwV 1 hts gX11_of_X11_bad rfl rfl rfl (by decide +kernel) ⟨Nat.le_of_ble_eq_true rfl, Nat.le_of_ble_eq_true rfl⟩) (kw_PreV (ci := 11) (q0 := 1) hs6 hP hD hK hN rfl rfl) rfl rfl hl.1 rfl (lv_room (Nat.le_of_ble_eq_true rfl)) dX11_of_23 ⟨Nat.le_of_ble_eq_true rfl, Nat.le_of_ble_eq_true rfl⟩) (fun r u H locs hq hP hD hS => ?_)
    obtain rfl := hq
    have hP : va_P D vwCl [(to, .inl (y 0, 228, .inl (fun _ => 0)))] H := hP
    have hD : va_D A [(to, .inl (y 0, 228, .inl (fun _ => 0)))] := hD
    have hsp : ((-2) : Int32) = (-2) := by
      have gZ1 : ¬ (x.toInt64 : Int64).toInt < (0 : Int64).toInt := fun q => h3 (Int64.lt_iff_toInt_lt.mpr q)
      have lZ1 : (x.toInt64).toInt = x.toInt := Int32.toInt_toInt64 _
      have lZ2 : (0 : Int64).toInt = 0 := by decide
      have gZ2 := Int64.lt_iff_toInt_lt.mp h4
      have lZ3 : ((-1) : Int64).toInt = -1 := by decide
      rfl
    exact W.iret (v := (-2)) hx hb hr (fun tZ ht hW => ⟨⟨(-2), (), rfl, hsp, by rw [ht]; exact hP.sub [] rfl, hD.sub [] (by decide) rfl⟩, hS.F ht⟩) hS.2.2 dX11_of_26
