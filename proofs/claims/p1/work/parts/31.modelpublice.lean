set_option maxHeartbeats 4000000 in
set_option maxRecDepth 100000 in
theorem cq_note (l : Launch) (D : va_G) (y : Nat → ClassId) (mo : Nat) (to : Nat) (ke : Nat) (ik : Nat) (rf : Nat) (ha : Nat) (r0 : Nat) (br : Nat) (bp : Nat) (bys : Nat) (an : Nat) (va : Nat) (x : Int32) (x2 : Int32) (x3 : Int32) (x4 : Int32) (x5 : Int32) : kw_Mi l yX11_note wsX11_note ({ frames := 3, cells := 0, slots := 0, locals := 86 }) D y [.ref mo, .int x, .int x2, .int x3, .int x4, .int x5] [(mo, .inr (11, [.ref to, .ref ke, .ref ik, .ref rf, .long 0, .long 1, .ref ha, .ref r0, .ref br, .ref bp, .ref bys, .int 0, .int 0, .int 0, .int 0, .int 0, .ref an, .ref va])), (rf, .inl (y 0, 3, .inl (fun _ => 0))), (to, .inl (y 0, 228, .inl (fun _ => 0)))] (fun (r : Int32) (u : Unit) => r = (-2)) (fun _ => []) 0 0 := by
  refine kw_Mi.of (cc := cX11_note) (maxL := 7) (ret := (some .int)) (by decide) rfl ?_
  intro pZ eZ s mZ beZ meZ cZ A hE
  obtain ⟨hx, hb, hr, hml, hts, hown, hlocks, hin, hA, hP, hD, hK, hN⟩ := hE
  have hS : va_S A s.heap s.heap [] := va_S.rf
  have hl := lv_entry ([.ref mo, .int x, .int x2, .int x3, .int x4, .int x5]) (n := 7) (Nat.le_of_ble_eq_true rfl)
  rw [lg_entry_eq]
  generalize (lg_sl ([.ref mo, .int x, .int x2, .int x3, .int x4, .int x5]) ++ List.replicate (7 - (lg_sl ([.ref mo, .int x, .int x2, .int x3, .int x4, .int x5])).length) Slot.unset).toArray = ls at hl ⊢
  have hl : lv_has ls 7 [(0, .ref mo), (1, .int x), (2, .int x2), (3, .int x3), (4, .int x4), (5, .int x5)] := hl
  refine lv_aload_n hx hb dX11_note_0 rfl (lv_at hl 0 rfl) ?_
  refine lv_iload_n hx hb dX11_note_1 rfl (lv_at hl 1 rfl) ?_
  have hs1 : kw_Split [(mo, .inr (11, [.ref to, .ref ke, .ref ik, .ref rf, .long 0, .long 1, .ref ha, .ref r0, .ref br, .ref bp, .ref bys, .int 0, .int 0, .int 0, .int 0, .int 0, .ref an, .ref va])), (rf, .inl (y 0, 3, .inl (fun _ => 0))), (to, .inl (y 0, 228, .inl (fun _ => 0)))] [(mo, .inr (11, [.ref to, .ref ke, .ref ik, .ref rf, .long 0, .long 1, .ref ha, .ref r0, .ref br, .ref bp, .ref bys, .int 0, .int 0, .int 0, .int 0, .int 0, .ref an, .ref va])), (to, .inl (y 0, 228, .inl (fun _ => 0)))] [(rf, .inl (y 0, 3, .inl (fun _ => 0)))] [0, 2] [1] := ⟨rfl, rfl, rfl, rfl, rfl, by decide⟩
  refine kw_go_i hs1 hP hD hS hA (va_runV (As := [.int x]) (rest := []) ⟨hx, hb, hml, hown, hts⟩ (cw_isField l D y mo to ke ik rf ha r0 br bp bys an va x  _) (cwV 1 hts gX11_note_X11_isField rfl rfl rfl (by decide +kernel) ⟨Nat.le_of_ble_eq_true rfl, Nat.le_of_ble_eq_true rfl⟩) (kw_PreV (ci := 11) (q0 := 0) hs1 hP hD hK hN rfl rfl) rfl rfl hl.1 rfl (lv_room (Nat.le_of_ble_eq_true rfl)) dX11_note_2 ⟨Nat.le_of_ble_eq_true rfl, Nat.le_of_ble_eq_true rfl⟩) (fun r u H locs hq hP hD hS => ?_)
  rcases hq with ⟨h2, rfl⟩ | ⟨h3, h4, rfl⟩
  · skip
    have hP : va_P D vwCl [(rf, .inl (y 0, 3, .inl (fun _ => 0))), (mo, .inr (11, [.ref to, .ref ke, .ref ik, .ref rf, .long 0, .long 1, .ref ha, .ref r0, .ref br, .ref bp, .ref bys, .int 0, .int 0, .int 0, .int 0, .int 0, .ref an, .ref va])), (to, .inl (y 0, 228, .inl (fun _ => 0)))] H := hP
    have hD : va_D A [(rf, .inl (y 0, 3, .inl (fun _ => 0))), (mo, .inr (11, [.ref to, .ref ke, .ref ik, .ref rf, .long 0, .long 1, .ref ha, .ref r0, .ref br, .ref bp, .ref bys, .int 0, .int 0, .int 0, .int 0, .int 0, .ref an, .ref va])), (to, .inl (y 0, 228, .inl (fun _ => 0)))] := hD
    refine lv_if_eq (tgt := 43) hx hb dX11_note_5 (by decide) (fun _ => ?_) (fun h9 => absurd h9 (by decide))
    refine lv_aload_n hx hb dX11_note_43 rfl (lv_at hl 0 rfl) ?_
    refine lv_bipush (v := (-2)) hx hb dX11_note_44 (by decide) ?_
    have hs5 : kw_Split [(rf, .inl (y 0, 3, .inl (fun _ => 0))), (mo, .inr (11, [.ref to, .ref ke, .ref ik, .ref rf, .long 0, .long 1, .ref ha, .ref r0, .ref br, .ref bp, .ref bys, .int 0, .int 0, .int 0, .int 0, .int 0, .ref an, .ref va])), (to, .inl (y 0, 228, .inl (fun _ => 0)))] [(mo, .inr (11, [.ref to, .ref ke, .ref ik, .ref rf, .long 0, .long 1, .ref ha, .ref r0, .ref br, .ref bp, .ref bys, .int 0, .int 0, .int 0, .int 0, .int 0, .ref an, .ref va])), (rf, .inl (y 0, 3, .inl (fun _ => 0)))] [(to, .inl (y 0, 228, .inl (fun _ => 0)))] [1, 0] [2] := ⟨rfl, rfl, rfl, rfl, rfl, by decide⟩
    refine kw_go_i hs5 hP hD hS hA (va_runV (As := [.int (-2)]) (rest := []) ⟨hx, hb, hml, hown, hts⟩ (cw_bad l D y mo to ke ik rf ha r0 br bp bys an va (fun _ => 0) (-2)  _) (cwV 1 hts gX11_note_X11_bad rfl rfl rfl (by decide +kernel) ⟨Nat.le_of_ble_eq_true rfl, Nat.le_of_ble_eq_true rfl⟩) (kw_PreV (ci := 11) (q0 := 1) hs5 hP hD hK hN rfl rfl) rfl rfl hl.1 rfl (lv_room (Nat.le_of_ble_eq_true rfl)) dX11_note_46 ⟨Nat.le_of_ble_eq_true rfl, Nat.le_of_ble_eq_true rfl⟩) (fun r u H locs hq hP hD hS => ?_)
    obtain rfl := hq
    have hP : va_P D vwCl [(to, .inl (y 0, 228, .inl (fun _ => 0)))] H := hP
    have hD : va_D A [(to, .inl (y 0, 228, .inl (fun _ => 0)))] := hD
    have hsp : ((-2) : Int32) = (-2) := by
      have gZ1 := Int64.lt_iff_toInt_lt.mp h2
      have lZ1 : (x.toInt64).toInt = x.toInt := Int32.toInt_toInt64 _
      have lZ2 : (0 : Int64).toInt = 0 := by decide
      rfl
    exact W.iret (v := (-2)) hx hb hr (fun tZ ht hW => ⟨⟨(-2), (), rfl, hsp, by rw [ht]; exact hP.sub [] rfl, hD.sub [] (by decide) rfl⟩, hS.F ht⟩) hS.2.2 dX11_note_49
  · skip
    have hP : va_P D vwCl [(rf, .inl (y 0, 3, .inl (fun _ => 0))), (mo, .inr (11, [.ref to, .ref ke, .ref ik, .ref rf, .long 0, .long 1, .ref ha, .ref r0, .ref br, .ref bp, .ref bys, .int 0, .int 0, .int 0, .int 0, .int 0, .ref an, .ref va])), (to, .inl (y 0, 228, .inl (fun _ => 0)))] H := hP
    have hD : va_D A [(rf, .inl (y 0, 3, .inl (fun _ => 0))), (mo, .inr (11, [.ref to, .ref ke, .ref ik, .ref rf, .long 0, .long 1, .ref ha, .ref r0, .ref br, .ref bp, .ref bys, .int 0, .int 0, .int 0, .int 0, .int 0, .ref an, .ref va])), (to, .inl (y 0, 228, .inl (fun _ => 0)))] := hD
    refine lv_if_eq (tgt := 43) hx hb dX11_note_5 (by decide) (fun _ => ?_) (fun h9 => absurd h9 (by decide))
    refine lv_aload_n hx hb dX11_note_43 rfl (lv_at hl 0 rfl) ?_
    refine lv_bipush (v := (-2)) hx hb dX11_note_44 (by decide) ?_
    have hs6 : kw_Split [(rf, .inl (y 0, 3, .inl (fun _ => 0))), (mo, .inr (11, [.ref to, .ref ke, .ref ik, .ref rf, .long 0, .long 1, .ref ha, .ref r0, .ref br, .ref bp, .ref bys, .int 0, .int 0, .int 0, .int 0, .int 0, .ref an, .ref va])), (to, .inl (y 0, 228, .inl (fun _ => 0)))] [(mo, .inr (11, [.ref to, .ref ke, .ref ik, .ref rf, .long 0, .long 1, .ref ha, .ref r0, .ref br, .ref bp, .ref bys, .int 0, .int 0, .int 0, .int 0, .int 0, .ref an, .ref va])), (rf, .inl (y 0, 3, .inl (fun _ => 0)))] [(to, .inl (y 0, 228, .inl (fun _ => 0)))] [1, 0] [2] := ⟨rfl, rfl, rfl, rfl, rfl, by decide⟩
    refine kw_go_i hs6 hP hD hS hA (va_runV (As := [.int (-2)]) (rest := []) ⟨hx, hb, hml, hown, hts⟩ (cw_bad l D y mo to ke ik rf ha r0 br bp bys an va (fun _ => 0) (-2)  _) (cwV 1 hts gX11_note_X11_bad rfl rfl rfl (by decide +kernel) ⟨Nat.le_of_ble_eq_true rfl, Nat.le_of_ble_eq_true rfl⟩) (kw_PreV (ci := 11) (q0 := 1) hs6 hP hD hK hN rfl rfl) rfl rfl hl.1 rfl (lv_room (Nat.le_of_ble_eq_true rfl)) dX11_note_46 ⟨Nat.le_of_ble_eq_true rfl, Nat.le_of_ble_eq_true rfl⟩) (fun r u H locs hq hP hD hS => ?_)
    obtain rfl := hq
    have hP : va_P D vwCl [(to, .inl (y 0, 228, .inl (fun _ => 0)))] H := hP
    have hD : va_D A [(to, .inl (y 0, 228, .inl (fun _ => 0)))] := hD
    have hsp : ((-2) : Int32) = (-2) := by
      have gZ1 : ¬ (x.toInt64 : Int64).toInt < (0 : Int64).toInt := fun q => h3 (Int64.lt_iff_toInt_lt.mpr q)
      have lZ1 : (x.toInt64).toInt = x.toInt := Int32.toInt_toInt64 _
      have lZ2 : (0 : Int64).toInt = 0 := by decide
      have gZ2 := Int64.lt_iff_toInt_lt.mp h4
      have lZ3 : ((-1) : Int64).toInt = -1 := by decide
      rfl
    exact W.iret (v := (-2)) hx hb hr (fun tZ ht hW => ⟨⟨(-2), (), rfl, hsp, by rw [ht]; exact hP.sub [] rfl, hD.sub [] (by decide) rfl⟩, hS.F ht⟩) hS.2.2 dX11_note_49

set_option maxHeartbeats 4000000 in
set_option maxRecDepth 100000 in
theorem cq_forget (l : Launch) (D : va_G) (y : Nat → ClassId) (mo : Nat) (to : Nat) (ke : Nat) (ik : Nat) (rf : Nat) (ha : Nat) (r0 : Nat) (br : Nat) (bp : Nat) (bys : Nat) (an : Nat) (va : Nat) (w : Int32) : kw_Mi l yX11_forget wsX11_forget ({ frames := 2, cells := 0, slots := 0, locals := 65 }) D y [.ref mo, .int w] [(mo, .inr (11, [.ref to, .ref ke, .ref ik, .ref rf, .long 0, .long 1, .ref ha, .ref r0, .ref br, .ref bp, .ref bys, .int 0, .int 0, .int 0, .int 0, .int 0, .ref an, .ref va])), (rf, .inl (y 0, 3, .inl (fun _ => 0))), (to, .inl (y 0, 228, .inl (fun _ => 0)))] (fun (r : Int32) (u : Unit) => r = (sp_forget w)) (fun _ => []) 0 0 := by
  refine kw_Mi.of (cc := cX11_forget) (maxL := 3) (ret := (some .int)) (by decide) rfl ?_
  intro pZ eZ s mZ beZ meZ cZ A hE
  obtain ⟨hx, hb, hr, hml, hts, hown, hlocks, hin, hA, hP, hD, hK, hN⟩ := hE
  have hS : va_S A s.heap s.heap [] := va_S.rf
  have hl := lv_entry ([.ref mo, .int w]) (n := 3) (Nat.le_of_ble_eq_true rfl)
  rw [lg_entry_eq]
  generalize (lg_sl ([.ref mo, .int w]) ++ List.replicate (3 - (lg_sl ([.ref mo, .int w])).length) Slot.unset).toArray = ls at hl ⊢
  have hl : lv_has ls 3 [(0, .ref mo), (1, .int w)] := hl
  have fw1 := hts (.fieldLink RX11 7 "GleanDuskModel" "told" "[I") (List.mem_of_getElem? (i := 1) rfl)
  have i11 : ∀ w ∈ wsX110, w ∈ wsX11_forget := fun _ h => List.mem_cons_of_mem _ (List.mem_append_right _ h)
  refine lv_iload_n hx hb dX11_forget_0 rfl (lv_at hl 1 rfl) ?_
  refine lv_i2l (v := w.toInt64) hx hb dX11_forget_1 (rfl) ?_
  refine lv_lconst (v := 0) hx hb dX11_forget_2 (by decide) ?_
  refine lv_lconst (v := 1) hx hb dX11_forget_3 (by decide) ?_
  have hs1 : kw_Split [(mo, .inr (11, [.ref to, .ref ke, .ref ik, .ref rf, .long 0, .long 1, .ref ha, .ref r0, .ref br, .ref bp, .ref bys, .int 0, .int 0, .int 0, .int 0, .int 0, .ref an, .ref va])), (rf, .inl (y 0, 3, .inl (fun _ => 0))), (to, .inl (y 0, 228, .inl (fun _ => 0)))] [] [(mo, .inr (11, [.ref to, .ref ke, .ref ik, .ref rf, .long 0, .long 1, .ref ha, .ref r0, .ref br, .ref bp, .ref bys, .int 0, .int 0, .int 0, .int 0, .int 0, .ref an, .ref va])), (rf, .inl (y 0, 3, .inl (fun _ => 0))), (to, .inl (y 0, 228, .inl (fun _ => 0)))] [] [0, 1, 2] := ⟨rfl, rfl, rfl, rfl, rfl, by decide⟩
  refine kw_go_i hs1 hP hD hS hA (va_runS (As := [.long w.toInt64, .long 0, .long 1]) (rest := []) ⟨hx, hb, hml, hown, hts⟩ (cw_in l D y w.toInt64 0 1  _) (va_cwS 3 hts gX11_forget_X11_in rfl rfl rfl (by decide +kernel) ⟨Nat.le_of_ble_eq_true rfl, Nat.le_of_ble_eq_true rfl⟩) (kw_PreS hs1 hP hD hK hN) rfl rfl hl.1 rfl (lv_room (Nat.le_of_ble_eq_true rfl)) dX11_forget_4 ⟨Nat.le_of_ble_eq_true rfl, Nat.le_of_ble_eq_true rfl⟩) (fun r u H locs hq hP hD hS => ?_)
  rcases hq with ⟨h2, rfl⟩ | ⟨h3, h4, rfl⟩ | ⟨h5, h6, rfl⟩
  · skip
    have hP : va_P D vwCl [(mo, .inr (11, [.ref to, .ref ke, .ref ik, .ref rf, .long 0, .long 1, .ref ha, .ref r0, .ref br, .ref bp, .ref bys, .int 0, .int 0, .int 0, .int 0, .int 0, .ref an, .ref va])), (rf, .inl (y 0, 3, .inl (fun _ => 0))), (to, .inl (y 0, 228, .inl (fun _ => 0)))] H := hP
    have hD : va_D A [(mo, .inr (11, [.ref to, .ref ke, .ref ik, .ref rf, .long 0, .long 1, .ref ha, .ref r0, .ref br, .ref bp, .ref bys, .int 0, .int 0, .int 0, .int 0, .int 0, .ref an, .ref va])), (rf, .inl (y 0, 3, .inl (fun _ => 0))), (to, .inl (y 0, 228, .inl (fun _ => 0)))] := hD
    refine lv_if_ne (tgt := 17) hx hb dX11_forget_7 (by decide) (fun h9 => absurd h9 (by decide)) (fun _ => ?_)
    refine lv_aload_n hx hb dX11_forget_10 rfl (lv_at hl 0 rfl) ?_
    refine lv_bipush (v := (-2)) hx hb dX11_forget_11 (by decide) ?_
    have hs7 : kw_Split [(mo, .inr (11, [.ref to, .ref ke, .ref ik, .ref rf, .long 0, .long 1, .ref ha, .ref r0, .ref br, .ref bp, .ref bys, .int 0, .int 0, .int 0, .int 0, .int 0, .ref an, .ref va])), (rf, .inl (y 0, 3, .inl (fun _ => 0))), (to, .inl (y 0, 228, .inl (fun _ => 0)))] [(mo, .inr (11, [.ref to, .ref ke, .ref ik, .ref rf, .long 0, .long 1, .ref ha, .ref r0, .ref br, .ref bp, .ref bys, .int 0, .int 0, .int 0, .int 0, .int 0, .ref an, .ref va])), (rf, .inl (y 0, 3, .inl (fun _ => 0)))] [(to, .inl (y 0, 228, .inl (fun _ => 0)))] [0, 1] [2] := ⟨rfl, rfl, rfl, rfl, rfl, by decide⟩
    refine kw_go_i hs7 hP hD hS hA (va_runV (As := [.int (-2)]) (rest := []) ⟨hx, hb, hml, hown, hts⟩ (cw_bad l D y mo to ke ik rf ha r0 br bp bys an va (fun _ => 0) (-2)  _) (cwV 1 hts gX11_forget_X11_bad rfl rfl rfl (by decide +kernel) ⟨Nat.le_of_ble_eq_true rfl, Nat.le_of_ble_eq_true rfl⟩) (kw_PreV (ci := 11) (q0 := 0) hs7 hP hD hK hN rfl rfl) rfl rfl hl.1 rfl (lv_room (Nat.le_of_ble_eq_true rfl)) dX11_forget_13 ⟨Nat.le_of_ble_eq_true rfl, Nat.le_of_ble_eq_true rfl⟩) (fun r u H locs hq hP hD hS => ?_)
    obtain rfl := hq
    have hP : va_P D vwCl [(to, .inl (y 0, 228, .inl (fun _ => 0)))] H := hP
    have hD : va_D A [(to, .inl (y 0, 228, .inl (fun _ => 0)))] := hD
    have hsp : ((-2) : Int32) = (sp_forget w) := by
      have gZ1 := Int64.lt_iff_toInt_lt.mp h2
      have lZ1 : (w.toInt64).toInt = w.toInt := Int32.toInt_toInt64 _
      have lZ2 : (0 : Int64).toInt = 0 := by decide
      unfold sp_forget; first | rfl | decide | exact (if_neg (by omega)).symm | exact (if_pos (by omega)).symm | exact ((if_pos (by omega)).trans (if_neg (by omega))).symm | exact ((if_pos (by omega)).trans (if_pos (by omega))).symm | exact ((if_neg (by omega)).trans (if_pos (by omega))).symm | exact ((if_neg (by omega)).trans (if_neg (by omega))).symm
    exact W.iret (v := (-2)) hx hb hr (fun tZ ht hW => ⟨⟨(-2), (), rfl, hsp, by rw [ht]; exact hP.sub [] rfl, hD.sub [] (by decide) rfl⟩, hS.F ht⟩) hS.2.2 dX11_forget_16
  · skip
    have hP : va_P D vwCl [(mo, .inr (11, [.ref to, .ref ke, .ref ik, .ref rf, .long 0, .long 1, .ref ha, .ref r0, .ref br, .ref bp, .ref bys, .int 0, .int 0, .int 0, .int 0, .int 0, .ref an, .ref va])), (rf, .inl (y 0, 3, .inl (fun _ => 0))), (to, .inl (y 0, 228, .inl (fun _ => 0)))] H := hP
    have hD : va_D A [(mo, .inr (11, [.ref to, .ref ke, .ref ik, .ref rf, .long 0, .long 1, .ref ha, .ref r0, .ref br, .ref bp, .ref bys, .int 0, .int 0, .int 0, .int 0, .int 0, .ref an, .ref va])), (rf, .inl (y 0, 3, .inl (fun _ => 0))), (to, .inl (y 0, 228, .inl (fun _ => 0)))] := hD
    refine lv_if_ne (tgt := 17) hx hb dX11_forget_7 (by decide) (fun h9 => absurd h9 (by decide)) (fun _ => ?_)
    refine lv_aload_n hx hb dX11_forget_10 rfl (lv_at hl 0 rfl) ?_
    refine lv_bipush (v := (-2)) hx hb dX11_forget_11 (by decide) ?_
    have hs8 : kw_Split [(mo, .inr (11, [.ref to, .ref ke, .ref ik, .ref rf, .long 0, .long 1, .ref ha, .ref r0, .ref br, .ref bp, .ref bys, .int 0, .int 0, .int 0, .int 0, .int 0, .ref an, .ref va])), (rf, .inl (y 0, 3, .inl (fun _ => 0))), (to, .inl (y 0, 228, .inl (fun _ => 0)))] [(mo, .inr (11, [.ref to, .ref ke, .ref ik, .ref rf, .long 0, .long 1, .ref ha, .ref r0, .ref br, .ref bp, .ref bys, .int 0, .int 0, .int 0, .int 0, .int 0, .ref an, .ref va])), (rf, .inl (y 0, 3, .inl (fun _ => 0)))] [(to, .inl (y 0, 228, .inl (fun _ => 0)))] [0, 1] [2] := ⟨rfl, rfl, rfl, rfl, rfl, by decide⟩
    refine kw_go_i hs8 hP hD hS hA (va_runV (As := [.int (-2)]) (rest := []) ⟨hx, hb, hml, hown, hts⟩ (cw_bad l D y mo to ke ik rf ha r0 br bp bys an va (fun _ => 0) (-2)  _) (cwV 1 hts gX11_forget_X11_bad rfl rfl rfl (by decide +kernel) ⟨Nat.le_of_ble_eq_true rfl, Nat.le_of_ble_eq_true rfl⟩) (kw_PreV (ci := 11) (q0 := 0) hs8 hP hD hK hN rfl rfl) rfl rfl hl.1 rfl (lv_room (Nat.le_of_ble_eq_true rfl)) dX11_forget_13 ⟨Nat.le_of_ble_eq_true rfl, Nat.le_of_ble_eq_true rfl⟩) (fun r u H locs hq hP hD hS => ?_)
    obtain rfl := hq
    have hP : va_P D vwCl [(to, .inl (y 0, 228, .inl (fun _ => 0)))] H := hP
    have hD : va_D A [(to, .inl (y 0, 228, .inl (fun _ => 0)))] := hD
    have hsp : ((-2) : Int32) = (sp_forget w) := by
      have gZ1 : ¬ (w.toInt64 : Int64).toInt < (0 : Int64).toInt := fun q => h3 (Int64.lt_iff_toInt_lt.mpr q)
      have lZ1 : (w.toInt64).toInt = w.toInt := Int32.toInt_toInt64 _
      have lZ2 : (0 : Int64).toInt = 0 := by decide
      have gZ2 := Int64.lt_iff_toInt_lt.mp h4
      have lZ3 : (1 : Int64).toInt = 1 := by decide
      unfold sp_forget; first | rfl | decide | exact (if_neg (by omega)).symm | exact (if_pos (by omega)).symm | exact ((if_pos (by omega)).trans (if_neg (by omega))).symm | exact ((if_pos (by omega)).trans (if_pos (by omega))).symm | exact ((if_neg (by omega)).trans (if_pos (by omega))).symm | exact ((if_neg (by omega)).trans (if_neg (by omega))).symm
    exact W.iret (v := (-2)) hx hb hr (fun tZ ht hW => ⟨⟨(-2), (), rfl, hsp, by rw [ht]; exact hP.sub [] rfl, hD.sub [] (by decide) rfl⟩, hS.F ht⟩) hS.2.2 dX11_forget_16
  · skip
    have hP : va_P D vwCl [(mo, .inr (11, [.ref to, .ref ke, .ref ik, .ref rf, .long 0, .long 1, .ref ha, .ref r0, .ref br, .ref bp, .ref bys, .int 0, .int 0, .int 0, .int 0, .int 0, .ref an, .ref va])), (rf, .inl (y 0, 3, .inl (fun _ => 0))), (to, .inl (y 0, 228, .inl (fun _ => 0)))] H := hP
    have hD : va_D A [(mo, .inr (11, [.ref to, .ref ke, .ref ik, .ref rf, .long 0, .long 1, .ref ha, .ref r0, .ref br, .ref bp, .ref bys, .int 0, .int 0, .int 0, .int 0, .int 0, .ref an, .ref va])), (rf, .inl (y 0, 3, .inl (fun _ => 0))), (to, .inl (y 0, 228, .inl (fun _ => 0)))] := hD
    refine lv_if_ne (tgt := 17) hx hb dX11_forget_7 (by decide) (fun _ => ?_) (fun h9 => absurd h9 (by decide))
    rcases kw_twoL h5 h6 with rfl | rfl
    · skip
      refine lv_aload_n hx hb dX11_forget_17 rfl (lv_at hl 0 rfl) ?_
      refine va_get (D := D) (ci := 11) (v := .ref to) (C := RX11) (T := TX11) (N := 18) hx hb hts i11 hown hK hP 0 rfl rfl 0 (by decide) fw1 (fun _ h9 => h9) rfl dX11_forget_18 ?_
      refine lv_iconst (v := 2) hx hb dX11_forget_21 (by decide) ?_
      refine lv_iload_n hx hb dX11_forget_22 rfl (lv_at hl 1 rfl) ?_
      refine lv_iadd hx hb dX11_forget_23 ?_
      refine lv_topi (fun z9 hz9 => ?_)
      obtain rfl : z9 = 2 := hz9.trans (by first | rfl | decide | (simp [upd]; done))
      refine va_iald hx hb hK hP 2 0 rfl rfl (by unfold vp_in; decide) dX11_forget_24 ?_
      refine lv_topi (fun z10 hz10 => ?_)
      obtain rfl : z10 = 0 := hz10.trans (by first | rfl | decide | assumption | (simp [upd]; done) | (unfold upd; rw [if_neg (by decide)]; assumption) | (simp [upd, *]; done))
      refine lv_istore_n (lv' := [(2, .int 0), (0, .ref mo), (1, .int 0)]) hx hb dX11_forget_25 rfl hl (by decide) rfl (fun ls hl => ?_)
      refine lv_aload_n hx hb dX11_forget_26 rfl (lv_at hl 1 rfl) ?_
      refine va_get (D := D) (ci := 11) (v := .ref to) (C := RX11) (T := TX11) (N := 18) hx hb hts i11 hown hK hP 0 rfl rfl 0 (by decide) fw1 (fun _ h9 => h9) rfl dX11_forget_27 ?_
      refine lv_iconst (v := 2) hx hb dX11_forget_30 (by decide) ?_
      refine lv_iload_n hx hb dX11_forget_31 rfl (lv_at hl 2 rfl) ?_
      refine lv_iadd hx hb dX11_forget_32 ?_
      refine lv_topi (fun z11 hz11 => ?_)
      obtain rfl : z11 = 2 := hz11.trans (by first | rfl | decide | (simp [upd]; done))
      refine lv_iconst (v := 0) hx hb dX11_forget_33 (by decide) ?_
      refine va_iast hx hb hK hP hD hS 2 0 rfl rfl (by unfold vp_in; decide) dX11_forget_34 (fun H locs hP hD hS => ?_)
      rw [kw_upd0] at hP hD
      have hP : va_P D vwCl [(mo, .inr (11, [.ref to, .ref ke, .ref ik, .ref rf, .long 0, .long 1, .ref ha, .ref r0, .ref br, .ref bp, .ref bys, .int 0, .int 0, .int 0, .int 0, .int 0, .ref an, .ref va])), (rf, .inl (y 0, 3, .inl (fun _ => 0))), (to, .inl (y 0, 228, .inl (fun _ => 0)))] H := hP
      have hD : va_D A [(mo, .inr (11, [.ref to, .ref ke, .ref ik, .ref rf, .long 0, .long 1, .ref ha, .ref r0, .ref br, .ref bp, .ref bys, .int 0, .int 0, .int 0, .int 0, .int 0, .ref an, .ref va])), (rf, .inl (y 0, 3, .inl (fun _ => 0))), (to, .inl (y 0, 228, .inl (fun _ => 0)))] := hD
      refine lv_iload_n hx hb dX11_forget_35 rfl (lv_at hl 0 rfl) ?_
      have hsp : (0 : Int32) = (sp_forget 0) := by
        unfold sp_forget; first | rfl | decide | exact (if_neg (by omega)).symm | exact (if_pos (by omega)).symm | exact ((if_pos (by omega)).trans (if_neg (by omega))).symm | exact ((if_pos (by omega)).trans (if_pos (by omega))).symm | exact ((if_neg (by omega)).trans (if_pos (by omega))).symm | exact ((if_neg (by omega)).trans (if_neg (by omega))).symm
      exact W.iret (v := 0) hx hb hr (fun tZ ht hW => ⟨⟨0, (), rfl, hsp, by rw [ht]; exact hP.sub [] rfl, hD.sub [] (by decide) rfl⟩, hS.F ht⟩) hS.2.2 dX11_forget_36
    · skip
      refine lv_aload_n hx hb dX11_forget_17 rfl (lv_at hl 0 rfl) ?_
      refine va_get (D := D) (ci := 11) (v := .ref to) (C := RX11) (T := TX11) (N := 18) hx hb hts i11 hown hK hP 0 rfl rfl 0 (by decide) fw1 (fun _ h9 => h9) rfl dX11_forget_18 ?_
      refine lv_iconst (v := 2) hx hb dX11_forget_21 (by decide) ?_
      refine lv_iload_n hx hb dX11_forget_22 rfl (lv_at hl 1 rfl) ?_
      refine lv_iadd hx hb dX11_forget_23 ?_
      refine lv_topi (fun z12 hz12 => ?_)
      obtain rfl : z12 = 3 := hz12.trans (by first | rfl | decide | (simp [upd]; done))
      refine va_iald hx hb hK hP 2 0 rfl rfl (by unfold vp_in; decide) dX11_forget_24 ?_
      refine lv_topi (fun z13 hz13 => ?_)
      obtain rfl : z13 = 0 := hz13.trans (by first | rfl | decide | assumption | (simp [upd]; done) | (unfold upd; rw [if_neg (by decide)]; assumption) | (simp [upd, *]; done))
      refine lv_istore_n (lv' := [(2, .int 0), (0, .ref mo), (1, .int 1)]) hx hb dX11_forget_25 rfl hl (by decide) rfl (fun ls hl => ?_)
      refine lv_aload_n hx hb dX11_forget_26 rfl (lv_at hl 1 rfl) ?_
      refine va_get (D := D) (ci := 11) (v := .ref to) (C := RX11) (T := TX11) (N := 18) hx hb hts i11 hown hK hP 0 rfl rfl 0 (by decide) fw1 (fun _ h9 => h9) rfl dX11_forget_27 ?_
      refine lv_iconst (v := 2) hx hb dX11_forget_30 (by decide) ?_
      refine lv_iload_n hx hb dX11_forget_31 rfl (lv_at hl 2 rfl) ?_
      refine lv_iadd hx hb dX11_forget_32 ?_
      refine lv_topi (fun z14 hz14 => ?_)
      obtain rfl : z14 = 3 := hz14.trans (by first | rfl | decide | (simp [upd]; done))
      refine lv_iconst (v := 0) hx hb dX11_forget_33 (by decide) ?_
      refine va_iast hx hb hK hP hD hS 2 0 rfl rfl (by unfold vp_in; decide) dX11_forget_34 (fun H locs hP hD hS => ?_)
      rw [kw_upd0] at hP hD
      have hP : va_P D vwCl [(mo, .inr (11, [.ref to, .ref ke, .ref ik, .ref rf, .long 0, .long 1, .ref ha, .ref r0, .ref br, .ref bp, .ref bys, .int 0, .int 0, .int 0, .int 0, .int 0, .ref an, .ref va])), (rf, .inl (y 0, 3, .inl (fun _ => 0))), (to, .inl (y 0, 228, .inl (fun _ => 0)))] H := hP
      have hD : va_D A [(mo, .inr (11, [.ref to, .ref ke, .ref ik, .ref rf, .long 0, .long 1, .ref ha, .ref r0, .ref br, .ref bp, .ref bys, .int 0, .int 0, .int 0, .int 0, .int 0, .ref an, .ref va])), (rf, .inl (y 0, 3, .inl (fun _ => 0))), (to, .inl (y 0, 228, .inl (fun _ => 0)))] := hD
      refine lv_iload_n hx hb dX11_forget_35 rfl (lv_at hl 0 rfl) ?_
      have hsp : (0 : Int32) = (sp_forget 1) := by
        unfold sp_forget; first | rfl | decide | exact (if_neg (by omega)).symm | exact (if_pos (by omega)).symm | exact ((if_pos (by omega)).trans (if_neg (by omega))).symm | exact ((if_pos (by omega)).trans (if_pos (by omega))).symm | exact ((if_neg (by omega)).trans (if_pos (by omega))).symm | exact ((if_neg (by omega)).trans (if_neg (by omega))).symm
      exact W.iret (v := 0) hx hb hr (fun tZ ht hW => ⟨⟨0, (), rfl, hsp, by rw [ht]; exact hP.sub [] rfl, hD.sub [] (by decide) rfl⟩, hS.F ht⟩) hS.2.2 dX11_forget_36

set_option maxHeartbeats 4000000 in
set_option maxRecDepth 100000 in
theorem cq_is (l : Launch) (D : va_G) (y : Nat → ClassId) (mo : Nat) (to : Nat) (ke : Nat) (ik : Nat) (rf : Nat) (ha : Nat) (r0 : Nat) (br : Nat) (bp : Nat) (bys : Nat) (an : Nat) (va : Nat) (x : Int32) : kw_Mi l yX11_is wsX11_is ({ frames := 3, cells := 0, slots := 0, locals := 86 }) D y [.ref mo, .int x] [(mo, .inr (11, [.ref to, .ref ke, .ref ik, .ref rf, .long 0, .long 1, .ref ha, .ref r0, .ref br, .ref bp, .ref bys, .int 0, .int 0, .int 0, .int 0, .int 0, .ref an, .ref va])), (rf, .inl (y 0, 3, .inl (fun _ => 0))), (to, .inl (y 0, 228, .inl (fun _ => 0)))] (fun (r : Int32) (u : Unit) => r = (-2)) (fun _ => []) 0 0 := by
  refine kw_Mi.of (cc := cX11_is) (maxL := 2) (ret := (some .int)) (by decide) rfl ?_
  intro pZ eZ s mZ beZ meZ cZ A hE
  obtain ⟨hx, hb, hr, hml, hts, hown, hlocks, hin, hA, hP, hD, hK, hN⟩ := hE
  have hS : va_S A s.heap s.heap [] := va_S.rf
  have hl := lv_entry ([.ref mo, .int x]) (n := 2) (Nat.le_of_ble_eq_true rfl)
  rw [lg_entry_eq]
  generalize (lg_sl ([.ref mo, .int x]) ++ List.replicate (2 - (lg_sl ([.ref mo, .int x])).length) Slot.unset).toArray = ls at hl ⊢
  have hl : lv_has ls 2 [(0, .ref mo), (1, .int x)] := hl
  refine lv_aload_n hx hb dX11_is_0 rfl (lv_at hl 0 rfl) ?_
  refine lv_iload_n hx hb dX11_is_1 rfl (lv_at hl 1 rfl) ?_
  have hs1 : kw_Split [(mo, .inr (11, [.ref to, .ref ke, .ref ik, .ref rf, .long 0, .long 1, .ref ha, .ref r0, .ref br, .ref bp, .ref bys, .int 0, .int 0, .int 0, .int 0, .int 0, .ref an, .ref va])), (rf, .inl (y 0, 3, .inl (fun _ => 0))), (to, .inl (y 0, 228, .inl (fun _ => 0)))] [(mo, .inr (11, [.ref to, .ref ke, .ref ik, .ref rf, .long 0, .long 1, .ref ha, .ref r0, .ref br, .ref bp, .ref bys, .int 0, .int 0, .int 0, .int 0, .int 0, .ref an, .ref va])), (to, .inl (y 0, 228, .inl (fun _ => 0)))] [(rf, .inl (y 0, 3, .inl (fun _ => 0)))] [0, 2] [1] := ⟨rfl, rfl, rfl, rfl, rfl, by decide⟩
  refine kw_go_i hs1 hP hD hS hA (va_runV (As := [.int x]) (rest := []) ⟨hx, hb, hml, hown, hts⟩ (cw_isField l D y mo to ke ik rf ha r0 br bp bys an va x  _) (cwV 1 hts gX11_is_X11_isField rfl rfl rfl (by decide +kernel) ⟨Nat.le_of_ble_eq_true rfl, Nat.le_of_ble_eq_true rfl⟩) (kw_PreV (ci := 11) (q0 := 0) hs1 hP hD hK hN rfl rfl) rfl rfl hl.1 rfl (lv_room (Nat.le_of_ble_eq_true rfl)) dX11_is_2 ⟨Nat.le_of_ble_eq_true rfl, Nat.le_of_ble_eq_true rfl⟩) (fun r u H locs hq hP hD hS => ?_)
  rcases hq with ⟨h2, rfl⟩ | ⟨h3, h4, rfl⟩
  · skip
    have hP : va_P D vwCl [(rf, .inl (y 0, 3, .inl (fun _ => 0))), (mo, .inr (11, [.ref to, .ref ke, .ref ik, .ref rf, .long 0, .long 1, .ref ha, .ref r0, .ref br, .ref bp, .ref bys, .int 0, .int 0, .int 0, .int 0, .int 0, .ref an, .ref va])), (to, .inl (y 0, 228, .inl (fun _ => 0)))] H := hP
    have hD : va_D A [(rf, .inl (y 0, 3, .inl (fun _ => 0))), (mo, .inr (11, [.ref to, .ref ke, .ref ik, .ref rf, .long 0, .long 1, .ref ha, .ref r0, .ref br, .ref bp, .ref bys, .int 0, .int 0, .int 0, .int 0, .int 0, .ref an, .ref va])), (to, .inl (y 0, 228, .inl (fun _ => 0)))] := hD
    refine lv_if_eq (tgt := 16) hx hb dX11_is_5 (by decide) (fun _ => ?_) (fun h9 => absurd h9 (by decide))
    refine lv_aload_n hx hb dX11_is_16 rfl (lv_at hl 0 rfl) ?_
    refine lv_bipush (v := (-2)) hx hb dX11_is_17 (by decide) ?_
    have hs5 : kw_Split [(rf, .inl (y 0, 3, .inl (fun _ => 0))), (mo, .inr (11, [.ref to, .ref ke, .ref ik, .ref rf, .long 0, .long 1, .ref ha, .ref r0, .ref br, .ref bp, .ref bys, .int 0, .int 0, .int 0, .int 0, .int 0, .ref an, .ref va])), (to, .inl (y 0, 228, .inl (fun _ => 0)))] [(mo, .inr (11, [.ref to, .ref ke, .ref ik, .ref rf, .long 0, .long 1, .ref ha, .ref r0, .ref br, .ref bp, .ref bys, .int 0, .int 0, .int 0, .int 0, .int 0, .ref an, .ref va])), (rf, .inl (y 0, 3, .inl (fun _ => 0)))] [(to, .inl (y 0, 228, .inl (fun _ => 0)))] [1, 0] [2] := ⟨rfl, rfl, rfl, rfl, rfl, by decide⟩
    refine kw_go_i hs5 hP hD hS hA (va_runV (As := [.int (-2)]) (rest := []) ⟨hx, hb, hml, hown, hts⟩ (cw_bad l D y mo to ke ik rf ha r0 br bp bys an va (fun _ => 0) (-2)  _) (cwV 1 hts gX11_is_X11_bad rfl rfl rfl (by decide +kernel) ⟨Nat.le_of_ble_eq_true rfl, Nat.le_of_ble_eq_true rfl⟩) (kw_PreV (ci := 11) (q0 := 1) hs5 hP hD hK hN rfl rfl) rfl rfl hl.1 rfl (lv_room (Nat.le_of_ble_eq_true rfl)) dX11_is_19 ⟨Nat.le_of_ble_eq_true rfl, Nat.le_of_ble_eq_true rfl⟩) (fun r u H locs hq hP hD hS => ?_)
    obtain rfl := hq
    have hP : va_P D vwCl [(to, .inl (y 0, 228, .inl (fun _ => 0)))] H := hP
    have hD : va_D A [(to, .inl (y 0, 228, .inl (fun _ => 0)))] := hD
    have hsp : ((-2) : Int32) = (-2) := by
      have gZ1 := Int64.lt_iff_toInt_lt.mp h2
      have lZ1 : (x.toInt64).toInt = x.toInt := Int32.toInt_toInt64 _
      have lZ2 : (0 : Int64).toInt = 0 := by decide
      rfl
    exact W.iret (v := (-2)) hx hb hr (fun tZ ht hW => ⟨⟨(-2), (), rfl, hsp, by rw [ht]; exact hP.sub [] rfl, hD.sub [] (by decide) rfl⟩, hS.F ht⟩) hS.2.2 dX11_is_22
  · skip
    have hP : va_P D vwCl [(rf, .inl (y 0, 3, .inl (fun _ => 0))), (mo, .inr (11, [.ref to, .ref ke, .ref ik, .ref rf, .long 0, .long 1, .ref ha, .ref r0, .ref br, .ref bp, .ref bys, .int 0, .int 0, .int 0, .int 0, .int 0, .ref an, .ref va])), (to, .inl (y 0, 228, .inl (fun _ => 0)))] H := hP
    have hD : va_D A [(rf, .inl (y 0, 3, .inl (fun _ => 0))), (mo, .inr (11, [.ref to, .ref ke, .ref ik, .ref rf, .long 0, .long 1, .ref ha, .ref r0, .ref br, .ref bp, .ref bys, .int 0, .int 0, .int 0, .int 0, .int 0, .ref an, .ref va])), (to, .inl (y 0, 228, .inl (fun _ => 0)))] := hD
    refine lv_if_eq (tgt := 16) hx hb dX11_is_5 (by decide) (fun _ => ?_) (fun h9 => absurd h9 (by decide))
    refine lv_aload_n hx hb dX11_is_16 rfl (lv_at hl 0 rfl) ?_
    refine lv_bipush (v := (-2)) hx hb dX11_is_17 (by decide) ?_
    have hs6 : kw_Split [(rf, .inl (y 0, 3, .inl (fun _ => 0))), (mo, .inr (11, [.ref to, .ref ke, .ref ik, .ref rf, .long 0, .long 1, .ref ha, .ref r0, .ref br, .ref bp, .ref bys, .int 0, .int 0, .int 0, .int 0, .int 0, .ref an, .ref va])), (to, .inl (y 0, 228, .inl (fun _ => 0)))] [(mo, .inr (11, [.ref to, .ref ke, .ref ik, .ref rf, .long 0, .long 1, .ref ha, .ref r0, .ref br, .ref bp, .ref bys, .int 0, .int 0, .int 0, .int 0, .int 0, .ref an, .ref va])), (rf, .inl (y 0, 3, .inl (fun _ => 0)))] [(to, .inl (y 0, 228, .inl (fun _ => 0)))] [1, 0] [2] := ⟨rfl, rfl, rfl, rfl, rfl, by decide⟩
    refine kw_go_i hs6 hP hD hS hA (va_runV (As := [.int (-2)]) (rest := []) ⟨hx, hb, hml, hown, hts⟩ (cw_bad l D y mo to ke ik rf ha r0 br bp bys an va (fun _ => 0) (-2)  _) (cwV 1 hts gX11_is_X11_bad rfl rfl rfl (by decide +kernel) ⟨Nat.le_of_ble_eq_true rfl, Nat.le_of_ble_eq_true rfl⟩) (kw_PreV (ci := 11) (q0 := 1) hs6 hP hD hK hN rfl rfl) rfl rfl hl.1 rfl (lv_room (Nat.le_of_ble_eq_true rfl)) dX11_is_19 ⟨Nat.le_of_ble_eq_true rfl, Nat.le_of_ble_eq_true rfl⟩) (fun r u H locs hq hP hD hS => ?_)
    obtain rfl := hq
    have hP : va_P D vwCl [(to, .inl (y 0, 228, .inl (fun _ => 0)))] H := hP
    have hD : va_D A [(to, .inl (y 0, 228, .inl (fun _ => 0)))] := hD
    have hsp : ((-2) : Int32) = (-2) := by
      have gZ1 : ¬ (x.toInt64 : Int64).toInt < (0 : Int64).toInt := fun q => h3 (Int64.lt_iff_toInt_lt.mpr q)
      have lZ1 : (x.toInt64).toInt = x.toInt := Int32.toInt_toInt64 _
      have lZ2 : (0 : Int64).toInt = 0 := by decide
      have gZ2 := Int64.lt_iff_toInt_lt.mp h4
      have lZ3 : ((-1) : Int64).toInt = -1 := by decide
      rfl
    exact W.iret (v := (-2)) hx hb hr (fun tZ ht hW => ⟨⟨(-2), (), rfl, hsp, by rw [ht]; exact hP.sub [] rfl, hD.sub [] (by decide) rfl⟩, hS.F ht⟩) hS.2.2 dX11_is_22

set_option maxHeartbeats 4000000 in
set_option maxRecDepth 100000 in
theorem cq_look (l : Launch) (D : va_G) (y : Nat → ClassId) (mo : Nat) (to : Nat) (ke : Nat) (ik : Nat) (rf : Nat) (ha : Nat) (r0 : Nat) (br : Nat) (bp : Nat) (bys : Nat) (an : Nat) (va : Nat) (x : Int32) : kw_Mi l yX11_look wsX11_look ({ frames := 3, cells := 0, slots := 0, locals := 86 }) D y [.ref mo, .int x] [(mo, .inr (11, [.ref to, .ref ke, .ref ik, .ref rf, .long 0, .long 1, .ref ha, .ref r0, .ref br, .ref bp, .ref bys, .int 0, .int 0, .int 0, .int 0, .int 0, .ref an, .ref va])), (rf, .inl (y 0, 3, .inl (fun _ => 0))), (to, .inl (y 0, 228, .inl (fun _ => 0)))] (fun (r : Int32) (u : Unit) => r = (-2)) (fun _ => []) 0 0 := by
  refine kw_Mi.of (cc := cX11_look) (maxL := 11) (ret := (some .int)) (by decide) rfl ?_
  intro pZ eZ s mZ beZ meZ cZ A hE
  obtain ⟨hx, hb, hr, hml, hts, hown, hlocks, hin, hA, hP, hD, hK, hN⟩ := hE
  have hS : va_S A s.heap s.heap [] := va_S.rf
  have hl := lv_entry ([.ref mo, .int x]) (n := 11) (Nat.le_of_ble_eq_true rfl)
  rw [lg_entry_eq]
  generalize (lg_sl ([.ref mo, .int x]) ++ List.replicate (11 - (lg_sl ([.ref mo, .int x])).length) Slot.unset).toArray = ls at hl ⊢
  have hl : lv_has ls 11 [(0, .ref mo), (1, .int x)] := hl
  refine lv_aload_n hx hb dX11_look_0 rfl (lv_at hl 0 rfl) ?_
  refine lv_iload_n hx hb dX11_look_1 rfl (lv_at hl 1 rfl) ?_
  have hs1 : kw_Split [(mo, .inr (11, [.ref to, .ref ke, .ref ik, .ref rf, .long 0, .long 1, .ref ha, .ref r0, .ref br, .ref bp, .ref bys, .int 0, .int 0, .int 0, .int 0, .int 0, .ref an, .ref va])), (rf, .inl (y 0, 3, .inl (fun _ => 0))), (to, .inl (y 0, 228, .inl (fun _ => 0)))] [(mo, .inr (11, [.ref to, .ref ke, .ref ik, .ref rf, .long 0, .long 1, .ref ha, .ref r0, .ref br, .ref bp, .ref bys, .int 0, .int 0, .int 0, .int 0, .int 0, .ref an, .ref va])), (to, .inl (y 0, 228, .inl (fun _ => 0)))] [(rf, .inl (y 0, 3, .inl (fun _ => 0)))] [0, 2] [1] := ⟨rfl, rfl, rfl, rfl, rfl, by decide⟩
  refine kw_go_i hs1 hP hD hS hA (va_runV (As := [.int x]) (rest := []) ⟨hx, hb, hml, hown, hts⟩ (cw_isField l D y mo to ke ik rf ha r0 br bp bys an va x  _) (cwV 1 hts gX11_look_X11_isField rfl rfl rfl (by decide +kernel) ⟨Nat.le_of_ble_eq_true rfl, Nat.le_of_ble_eq_true rfl⟩) (kw_PreV (ci := 11) (q0 := 0) hs1 hP hD hK hN rfl rfl) rfl rfl hl.1 rfl (lv_room (Nat.le_of_ble_eq_true rfl)) dX11_look_2 ⟨Nat.le_of_ble_eq_true rfl, Nat.le_of_ble_eq_true rfl⟩) (fun r u H locs hq hP hD hS => ?_)
  rcases hq with ⟨h2, rfl⟩ | ⟨h3, h4, rfl⟩
  · skip
    have hP : va_P D vwCl [(rf, .inl (y 0, 3, .inl (fun _ => 0))), (mo, .inr (11, [.ref to, .ref ke, .ref ik, .ref rf, .long 0, .long 1, .ref ha, .ref r0, .ref br, .ref bp, .ref bys, .int 0, .int 0, .int 0, .int 0, .int 0, .ref an, .ref va])), (to, .inl (y 0, 228, .inl (fun _ => 0)))] H := hP
    have hD : va_D A [(rf, .inl (y 0, 3, .inl (fun _ => 0))), (mo, .inr (11, [.ref to, .ref ke, .ref ik, .ref rf, .long 0, .long 1, .ref ha, .ref r0, .ref br, .ref bp, .ref bys, .int 0, .int 0, .int 0, .int 0, .int 0, .ref an, .ref va])), (to, .inl (y 0, 228, .inl (fun _ => 0)))] := hD
    refine lv_if_ne (tgt := 15) hx hb dX11_look_5 (by decide) (fun h9 => absurd h9 (by decide)) (fun _ => ?_)
    refine lv_aload_n hx hb dX11_look_8 rfl (lv_at hl 0 rfl) ?_
    refine lv_bipush (v := (-2)) hx hb dX11_look_9 (by decide) ?_
    have hs5 : kw_Split [(rf, .inl (y 0, 3, .inl (fun _ => 0))), (mo, .inr (11, [.ref to, .ref ke, .ref ik, .ref rf, .long 0, .long 1, .ref ha, .ref r0, .ref br, .ref bp, .ref bys, .int 0, .int 0, .int 0, .int 0, .int 0, .ref an, .ref va])), (to, .inl (y 0, 228, .inl (fun _ => 0)))] [(mo, .inr (11, [.ref to, .ref ke, .ref ik, .ref rf, .long 0, .long 1, .ref ha, .ref r0, .ref br, .ref bp, .ref bys, .int 0, .int 0, .int 0, .int 0, .int 0, .ref an, .ref va])), (rf, .inl (y 0, 3, .inl (fun _ => 0)))] [(to, .inl (y 0, 228, .inl (fun _ => 0)))] [1, 0] [2] := ⟨rfl, rfl, rfl, rfl, rfl, by decide⟩
    refine kw_go_i hs5 hP hD hS hA (va_runV (As := [.int (-2)]) (rest := []) ⟨hx, hb, hml, hown, hts⟩ (cw_bad l D y mo to ke ik rf ha r0 br bp bys an va (fun _ => 0) (-2)  _) (cwV 1 hts gX11_look_X11_bad rfl rfl rfl (by decide +kernel) ⟨Nat.le_of_ble_eq_true rfl, Nat.le_of_ble_eq_true rfl⟩) (kw_PreV (ci := 11) (q0 := 1) hs5 hP hD hK hN rfl rfl) rfl rfl hl.1 rfl (lv_room (Nat.le_of_ble_eq_true rfl)) dX11_look_11 ⟨Nat.le_of_ble_eq_true rfl, Nat.le_of_ble_eq_true rfl⟩) (fun r u H locs hq hP hD hS => ?_)
    obtain rfl := hq
    have hP : va_P D vwCl [(to, .inl (y 0, 228, .inl (fun _ => 0)))] H := hP
    have hD : va_D A [(to, .inl (y 0, 228, .inl (fun _ => 0)))] := hD
    have hsp : ((-2) : Int32) = (-2) := by
      have gZ1 := Int64.lt_iff_toInt_lt.mp h2
      have lZ1 : (x.toInt64).toInt = x.toInt := Int32.toInt_toInt64 _
      have lZ2 : (0 : Int64).toInt = 0 := by decide
      rfl
    exact W.iret (v := (-2)) hx hb hr (fun tZ ht hW => ⟨⟨(-2), (), rfl, hsp, by rw [ht]; exact hP.sub [] rfl, hD.sub [] (by decide) rfl⟩, hS.F ht⟩) hS.2.2 dX11_look_14
  · skip
    have hP : va_P D vwCl [(rf, .inl (y 0, 3, .inl (fun _ => 0))), (mo, .inr (11, [.ref to, .ref ke, .ref ik, .ref rf, .long 0, .long 1, .ref ha, .ref r0, .ref br, .ref bp, .ref bys, .int 0, .int 0, .int 0, .int 0, .int 0, .ref an, .ref va])), (to, .inl (y 0, 228, .inl (fun _ => 0)))] H := hP
    have hD : va_D A [(rf, .inl (y 0, 3, .inl (fun _ => 0))), (mo, .inr (11, [.ref to, .ref ke, .ref ik, .ref rf, .long 0, .long 1, .ref ha, .ref r0, .ref br, .ref bp, .ref bys, .int 0, .int 0, .int 0, .int 0, .int 0, .ref an, .ref va])), (to, .inl (y 0, 228, .inl (fun _ => 0)))] := hD
    refine lv_if_ne (tgt := 15) hx hb dX11_look_5 (by decide) (fun h9 => absurd h9 (by decide)) (fun _ => ?_)
    refine lv_aload_n hx hb dX11_look_8 rfl (lv_at hl 0 rfl) ?_
    refine lv_bipush (v := (-2)) hx hb dX11_look_9 (by decide) ?_
    have hs6 : kw_Split [(rf, .inl (y 0, 3, .inl (fun _ => 0))), (mo, .inr (11, [.ref to, .ref ke, .ref ik, .ref rf, .long 0, .long 1, .ref ha, .ref r0, .ref br, .ref bp, .ref bys, .int 0, .int 0, .int 0, .int 0, .int 0, .ref an, .ref va])), (to, .inl (y 0, 228, .inl (fun _ => 0)))] [(mo, .inr (11, [.ref to, .ref ke, .ref ik, .ref rf, .long 0, .long 1, .ref ha, .ref r0, .ref br, .ref bp, .ref bys, .int 0, .int 0, .int 0, .int 0, .int 0, .ref an, .ref va])), (rf, .inl (y 0, 3, .inl (fun _ => 0)))] [(to, .inl (y 0, 228, .inl (fun _ => 0)))] [1, 0] [2] := ⟨rfl, rfl, rfl, rfl, rfl, by decide⟩
    refine kw_go_i hs6 hP hD hS hA (va_runV (As := [.int (-2)]) (rest := []) ⟨hx, hb, hml, hown, hts⟩ (cw_bad l D y mo to ke ik rf ha r0 br bp bys an va (fun _ => 0) (-2)  _) (cwV 1 hts gX11_look_X11_bad rfl rfl rfl (by decide +kernel) ⟨Nat.le_of_ble_eq_true rfl, Nat.le_of_ble_eq_true rfl⟩) (kw_PreV (ci := 11) (q0 := 1) hs6 hP hD hK hN rfl rfl) rfl rfl hl.1 rfl (lv_room (Nat.le_of_ble_eq_true rfl)) dX11_look_11 ⟨Nat.le_of_ble_eq_true rfl, Nat.le_of_ble_eq_true rfl⟩) (fun r u H locs hq hP hD hS => ?_)
    obtain rfl := hq
    have hP : va_P D vwCl [(to, .inl (y 0, 228, .inl (fun _ => 0)))] H := hP
    have hD : va_D A [(to, .inl (y 0, 228, .inl (fun _ => 0)))] := hD
    have hsp : ((-2) : Int32) = (-2) := by
      have gZ1 : ¬ (x.toInt64 : Int64).toInt < (0 : Int64).toInt := fun q => h3 (Int64.lt_iff_toInt_lt.mpr q)
      have lZ1 : (x.toInt64).toInt = x.toInt := Int32.toInt_toInt64 _
      have lZ2 : (0 : Int64).toInt = 0 := by decide
      have gZ2 := Int64.lt_iff_toInt_lt.mp h4
      have lZ3 : ((-1) : Int64).toInt = -1 := by decide
      rfl
    exact W.iret (v := (-2)) hx hb hr (fun tZ ht hW => ⟨⟨(-2), (), rfl, hsp, by rw [ht]; exact hP.sub [] rfl, hD.sub [] (by decide) rfl⟩, hS.F ht⟩) hS.2.2 dX11_look_14

set_option maxHeartbeats 4000000 in
set_option maxRecDepth 100000 in
theorem cq_two (l : Launch) (D : va_G) (y : Nat → ClassId) (mo : Nat) (to : Nat) (ke : Nat) (ik : Nat) (rf : Nat) (ha : Nat) (r0 : Nat) (br : Nat) (bp : Nat) (bys : Nat) (an : Nat) (va : Nat) (x : Int32) (x2 : Int32) (x3 : Int32) : kw_Mi l yX11_two wsX11_two ({ frames := 3, cells := 0, slots := 0, locals := 86 }) D y [.ref mo, .int x, .int x2, .int x3] [(mo, .inr (11, [.ref to, .ref ke, .ref ik, .ref rf, .long 0, .long 1, .ref ha, .ref r0, .ref br, .ref bp, .ref bys, .int 0, .int 0, .int 0, .int 0, .int 0, .ref an, .ref va])), (rf, .inl (y 0, 3, .inl (fun _ => 0))), (to, .inl (y 0, 228, .inl (fun _ => 0)))] (fun (r : Int32) (u : Unit) => r = (-10)) (fun _ => []) 0 0 := by
  refine kw_Mi.of (cc := cX11_two) (maxL := 8) (ret := (some .int)) (by decide) rfl ?_
  intro pZ eZ s mZ beZ meZ cZ A hE
  obtain ⟨hx, hb, hr, hml, hts, hown, hlocks, hin, hA, hP, hD, hK, hN⟩ := hE
  have hS : va_S A s.heap s.heap [] := va_S.rf
  have hl := lv_entry ([.ref mo, .int x, .int x2, .int x3]) (n := 8) (Nat.le_of_ble_eq_true rfl)
  rw [lg_entry_eq]
  generalize (lg_sl ([.ref mo, .int x, .int x2, .int x3]) ++ List.replicate (8 - (lg_sl ([.ref mo, .int x, .int x2, .int x3])).length) Slot.unset).toArray = ls at hl ⊢
  have hl : lv_has ls 8 [(0, .ref mo), (1, .int x), (2, .int x2), (3, .int x3)] := hl
  refine lv_aload_n hx hb dX11_two_0 rfl (lv_at hl 0 rfl) ?_
  refine lv_iload_n hx hb dX11_two_1 rfl (lv_at hl 1 rfl) ?_
  have hs1 : kw_Split [(mo, .inr (11, [.ref to, .ref ke, .ref ik, .ref rf, .long 0, .long 1, .ref ha, .ref r0, .ref br, .ref bp, .ref bys, .int 0, .int 0, .int 0, .int 0, .int 0, .ref an, .ref va])), (rf, .inl (y 0, 3, .inl (fun _ => 0))), (to, .inl (y 0, 228, .inl (fun _ => 0)))] [(mo, .inr (11, [.ref to, .ref ke, .ref ik, .ref rf, .long 0, .long 1, .ref ha, .ref r0, .ref br, .ref bp, .ref bys, .int 0, .int 0, .int 0, .int 0, .int 0, .ref an, .ref va])), (to, .inl (y 0, 228, .inl (fun _ => 0)))] [(rf, .inl (y 0, 3, .inl (fun _ => 0)))] [0, 2] [1] := ⟨rfl, rfl, rfl, rfl, rfl, by decide⟩
  refine kw_go_i hs1 hP hD hS hA (va_runV (As := [.int x]) (rest := []) ⟨hx, hb, hml, hown, hts⟩ (cw_isGleaner l D y mo to ke ik rf ha r0 br bp bys an va x  _) (cwV 1 hts gX11_two_X11_isGleaner rfl rfl rfl (by decide +kernel) ⟨Nat.le_of_ble_eq_true rfl, Nat.le_of_ble_eq_true rfl⟩) (kw_PreV (ci := 11) (q0 := 0) hs1 hP hD hK hN rfl rfl) rfl rfl hl.1 rfl (lv_room (Nat.le_of_ble_eq_true rfl)) dX11_two_2 ⟨Nat.le_of_ble_eq_true rfl, Nat.le_of_ble_eq_true rfl⟩) (fun r u H locs hq hP hD hS => ?_)
  rcases hq with ⟨h2, rfl⟩ | ⟨h3, h4, rfl⟩
  · skip
    have hP : va_P D vwCl [(rf, .inl (y 0, 3, .inl (fun _ => 0))), (mo, .inr (11, [.ref to, .ref ke, .ref ik, .ref rf, .long 0, .long 1, .ref ha, .ref r0, .ref br, .ref bp, .ref bys, .int 0, .int 0, .int 0, .int 0, .int 0, .ref an, .ref va])), (to, .inl (y 0, 228, .inl (fun _ => 0)))] H := hP
    have hD : va_D A [(rf, .inl (y 0, 3, .inl (fun _ => 0))), (mo, .inr (11, [.ref to, .ref ke, .ref ik, .ref rf, .long 0, .long 1, .ref ha, .ref r0, .ref br, .ref bp, .ref bys, .int 0, .int 0, .int 0, .int 0, .int 0, .ref an, .ref va])), (to, .inl (y 0, 228, .inl (fun _ => 0)))] := hD
    refine lv_if_eq (tgt := 26) hx hb dX11_two_5 (by decide) (fun _ => ?_) (fun h9 => absurd h9 (by decide))
    refine lv_aload_n hx hb dX11_two_26 rfl (lv_at hl 0 rfl) ?_
    refine lv_bipush (v := (-10)) hx hb dX11_two_27 (by decide) ?_
    have hs5 : kw_Split [(rf, .inl (y 0, 3, .inl (fun _ => 0))), (mo, .inr (11, [.ref to, .ref ke, .ref ik, .ref rf, .long 0, .long 1, .ref ha, .ref r0, .ref br, .ref bp, .ref bys, .int 0, .int 0, .int 0, .int 0, .int 0, .ref an, .ref va])), (to, .inl (y 0, 228, .inl (fun _ => 0)))] [(mo, .inr (11, [.ref to, .ref ke, .ref ik, .ref rf, .long 0, .long 1, .ref ha, .ref r0, .ref br, .ref bp, .ref bys, .int 0, .int 0, .int 0, .int 0, .int 0, .ref an, .ref va])), (rf, .inl (y 0, 3, .inl (fun _ => 0)))] [(to, .inl (y 0, 228, .inl (fun _ => 0)))] [1, 0] [2] := ⟨rfl, rfl, rfl, rfl, rfl, by decide⟩
    refine kw_go_i hs5 hP hD hS hA (va_runV (As := [.int (-10)]) (rest := []) ⟨hx, hb, hml, hown, hts⟩ (cw_bad l D y mo to ke ik rf ha r0 br bp bys an va (fun _ => 0) (-10)  _) (cwV 1 hts gX11_two_X11_bad rfl rfl rfl (by decide +kernel) ⟨Nat.le_of_ble_eq_true rfl, Nat.le_of_ble_eq_true rfl⟩) (kw_PreV (ci := 11) (q0 := 1) hs5 hP hD hK hN rfl rfl) rfl rfl hl.1 rfl (lv_room (Nat.le_of_ble_eq_true rfl)) dX11_two_29 ⟨Nat.le_of_ble_eq_true rfl, Nat.le_of_ble_eq_true rfl⟩) (fun r u H locs hq hP hD hS => ?_)
    obtain rfl := hq
    have hP : va_P D vwCl [(to, .inl (y 0, 228, .inl (fun _ => 0)))] H := hP
    have hD : va_D A [(to, .inl (y 0, 228, .inl (fun _ => 0)))] := hD
    have hsp : ((-10) : Int32) = (-10) := by
      have gZ1 := Int64.lt_iff_toInt_lt.mp h2
      have lZ1 : (x.toInt64).toInt = x.toInt := Int32.toInt_toInt64 _
      have lZ2 : (0 : Int64).toInt = 0 := by decide
      rfl
    exact W.iret (v := (-10)) hx hb hr (fun tZ ht hW => ⟨⟨(-10), (), rfl, hsp, by rw [ht]; exact hP.sub [] rfl, hD.sub [] (by decide) rfl⟩, hS.F ht⟩) hS.2.2 dX11_two_32
  · skip
    have hP : va_P D vwCl [(rf, .inl (y 0, 3, .inl (fun _ => 0))), (mo, .inr (11, [.ref to, .ref ke, .ref ik, .ref rf, .long 0, .long 1, .ref ha, .ref r0, .ref br, .ref bp, .ref bys, .int 0, .int 0, .int 0, .int 0, .int 0, .ref an, .ref va])), (to, .inl (y 0, 228, .inl (fun _ => 0)))] H := hP
    have hD : va_D A [(rf, .inl (y 0, 3, .inl (fun _ => 0))), (mo, .inr (11, [.ref to, .ref ke, .ref ik, .ref rf, .long 0, .long 1, .ref ha, .ref r0, .ref br, .ref bp, .ref bys, .int 0, .int 0, .int 0, .int 0, .int 0, .ref an, .ref va])), (to, .inl (y 0, 228, .inl (fun _ => 0)))] := hD
    refine lv_if_eq (tgt := 26) hx hb dX11_two_5 (by decide) (fun _ => ?_) (fun h9 => absurd h9 (by decide))
    refine lv_aload_n hx hb dX11_two_26 rfl (lv_at hl 0 rfl) ?_
    refine lv_bipush (v := (-10)) hx hb dX11_two_27 (by decide) ?_
    have hs6 : kw_Split [(rf, .inl (y 0, 3, .inl (fun _ => 0))), (mo, .inr (11, [.ref to, .ref ke, .ref ik, .ref rf, .long 0, .long 1, .ref ha, .ref r0, .ref br, .ref bp, .ref bys, .int 0, .int 0, .int 0, .int 0, .int 0, .ref an, .ref va])), (to, .inl (y 0, 228, .inl (fun _ => 0)))] [(mo, .inr (11, [.ref to, .ref ke, .ref ik, .ref rf, .long 0, .long 1, .ref ha, .ref r0, .ref br, .ref bp, .ref bys, .int 0, .int 0, .int 0, .int 0, .int 0, .ref an, .ref va])), (rf, .inl (y 0, 3, .inl (fun _ => 0)))] [(to, .inl (y 0, 228, .inl (fun _ => 0)))] [1, 0] [2] := ⟨rfl, rfl, rfl, rfl, rfl, by decide⟩
    refine kw_go_i hs6 hP hD hS hA (va_runV (As := [.int (-10)]) (rest := []) ⟨hx, hb, hml, hown, hts⟩ (cw_bad l D y mo to ke ik rf ha r0 br bp bys an va (fun _ => 0) (-10)  _) (cwV 1 hts gX11_two_X11_bad rfl rfl rfl (by decide +kernel) ⟨Nat.le_of_ble_eq_true rfl, Nat.le_of_ble_eq_true rfl⟩) (kw_PreV (ci := 11) (q0 := 1) hs6 hP hD hK hN rfl rfl) rfl rfl hl.1 rfl (lv_room (Nat.le_of_ble_eq_true rfl)) dX11_two_29 ⟨Nat.le_of_ble_eq_true rfl, Nat.le_of_ble_eq_true rfl⟩) (fun r u H locs hq hP hD hS => ?_)
    obtain rfl := hq
    have hP : va_P D vwCl [(to, .inl (y 0, 228, .inl (fun _ => 0)))] H := hP
    have hD : va_D A [(to, .inl (y 0, 228, .inl (fun _ => 0)))] := hD
    have hsp : ((-10) : Int32) = (-10) := by
      have gZ1 : ¬ (x.toInt64 : Int64).toInt < (0 : Int64).toInt := fun q => h3 (Int64.lt_iff_toInt_lt.mpr q)
      have lZ1 : (x.toInt64).toInt = x.toInt := Int32.toInt_toInt64 _
      have lZ2 : (0 : Int64).toInt = 0 := by decide
      have gZ2 := Int64.lt_iff_toInt_lt.mp h4
      have lZ3 : ((-1) : Int64).toInt = -1 := by decide
      rfl
    exact W.iret (v := (-10)) hx hb hr (fun tZ ht hW => ⟨⟨(-10), (), rfl, hsp, by rw [ht]; exact hP.sub [] rfl, hD.sub [] (by decide) rfl⟩, hS.F ht⟩) hS.2.2 dX11_two_32

set_option maxHeartbeats 4000000 in
set_option maxRecDepth 100000 in
theorem cq_rains (l : Launch) (D : va_G) (y : Nat → ClassId) (mo : Nat) (to : Nat) (ke : Nat) (ik : Nat) (rf : Nat) (ha : Nat) (r0 : Nat) (br : Nat) (bp : Nat) (bys : Nat) (an : Nat) (va : Nat) (x : Int32) (x2 : Int32) : kw_Mi l yX11_rains wsX11_rains ({ frames := 3, cells := 0, slots := 0, locals := 86 }) D y [.ref mo, .int x, .int x2] [(mo, .inr (11, [.ref to, .ref ke, .ref ik, .ref rf, .long 0, .long 1, .ref ha, .ref r0, .ref br, .ref bp, .ref bys, .int 0, .int 0, .int 0, .int 0, .int 0, .ref an, .ref va])), (rf, .inl (y 0, 3, .inl (fun _ => 0))), (to, .inl (y 0, 228, .inl (fun _ => 0)))] (fun (r : Int32) (u : Unit) => r = (-2)) (fun _ => []) 0 0 := by
  refine kw_Mi.of (cc := cX11_rains) (maxL := 3) (ret := (some .int)) (by decide) rfl ?_
  intro pZ eZ s mZ beZ meZ cZ A hE
  obtain ⟨hx, hb, hr, hml, hts, hown, hlocks, hin, hA, hP, hD, hK, hN⟩ := hE
  have hS : va_S A s.heap s.heap [] := va_S.rf
  have hl := lv_entry ([.ref mo, .int x, .int x2]) (n := 3) (Nat.le_of_ble_eq_true rfl)
  rw [lg_entry_eq]
  generalize (lg_sl ([.ref mo, .int x, .int x2]) ++ List.replicate (3 - (lg_sl ([.ref mo, .int x, .int x2])).length) Slot.unset).toArray = ls at hl ⊢
  have hl : lv_has ls 3 [(0, .ref mo), (1, .int x), (2, .int x2)] := hl
  refine lv_aload_n hx hb dX11_rains_0 rfl (lv_at hl 0 rfl) ?_
  refine lv_iload_n hx hb dX11_rains_1 rfl (lv_at hl 1 rfl) ?_
  have hs1 : kw_Split [(mo, .inr (11, [.ref to, .ref ke, .ref ik, .ref rf, .long 0, .long 1, .ref ha, .ref r0, .ref br, .ref bp, .ref bys, .int 0, .int 0, .int 0, .int 0, .int 0, .ref an, .ref va])), (rf, .inl (y 0, 3, .inl (fun _ => 0))), (to, .inl (y 0, 228, .inl (fun _ => 0)))] [(mo, .inr (11, [.ref to, .ref ke, .ref ik, .ref rf, .long 0, .long 1, .ref ha, .ref r0, .ref br, .ref bp, .ref bys, .int 0, .int 0, .int 0, .int 0, .int 0, .ref an, .ref va])), (to, .inl (y 0, 228, .inl (fun _ => 0)))] [(rf, .inl (y 0, 3, .inl (fun _ => 0)))] [0, 2] [1] := ⟨rfl, rfl, rfl, rfl, rfl, by decide⟩
  refine kw_go_i hs1 hP hD hS hA (va_runV (As := [.int x]) (rest := []) ⟨hx, hb, hml, hown, hts⟩ (cw_isField l D y mo to ke ik rf ha r0 br bp bys an va x  _) (cwV 1 hts gX11_rains_X11_isField rfl rfl rfl (by decide +kernel) ⟨Nat.le_of_ble_eq_true rfl, Nat.le_of_ble_eq_true rfl⟩) (kw_PreV (ci := 11) (q0 := 0) hs1 hP hD hK hN rfl rfl) rfl rfl hl.1 rfl (lv_room (Nat.le_of_ble_eq_true rfl)) dX11_rains_2 ⟨Nat.le_of_ble_eq_true rfl, Nat.le_of_ble_eq_true rfl⟩) (fun r u H locs hq hP hD hS => ?_)
  rcases hq with ⟨h2, rfl⟩ | ⟨h3, h4, rfl⟩
  · skip
    have hP : va_P D vwCl [(rf, .inl (y 0, 3, .inl (fun _ => 0))), (mo, .inr (11, [.ref to, .ref ke, .ref ik, .ref rf, .long 0, .long 1, .ref ha, .ref r0, .ref br, .ref bp, .ref bys, .int 0, .int 0, .int 0, .int 0, .int 0, .ref an, .ref va])), (to, .inl (y 0, 228, .inl (fun _ => 0)))] H := hP
    have hD : va_D A [(rf, .inl (y 0, 3, .inl (fun _ => 0))), (mo, .inr (11, [.ref to, .ref ke, .ref ik, .ref rf, .long 0, .long 1, .ref ha, .ref r0, .ref br, .ref bp, .ref bys, .int 0, .int 0, .int 0, .int 0, .int 0, .ref an, .ref va])), (to, .inl (y 0, 228, .inl (fun _ => 0)))] := hD
    refine lv_if_eq (tgt := 20) hx hb dX11_rains_5 (by decide) (fun _ => ?_) (fun h9 => absurd h9 (by decide))
    refine lv_aload_n hx hb dX11_rains_20 rfl (lv_at hl 0 rfl) ?_
    refine lv_bipush (v := (-2)) hx hb dX11_rains_21 (by decide) ?_
    have hs5 : kw_Split [(rf, .inl (y 0, 3, .inl (fun _ => 0))), (mo, .inr (11, [.ref to, .ref ke, .ref ik, .ref rf, .long 0, .long 1, .ref ha, .ref r0, .ref br, .ref bp, .ref bys, .int 0, .int 0, .int 0, .int 0, .int 0, .ref an, .ref va])), (to, .inl (y 0, 228, .inl (fun _ => 0)))] [(mo, .inr (11, [.ref to, .ref ke, .ref ik, .ref rf, .long 0, .long 1, .ref ha, .ref r0, .ref br, .ref bp, .ref bys, .int 0, .int 0, .int 0, .int 0, .int 0, .ref an, .ref va])), (rf, .inl (y 0, 3, .inl (fun _ => 0)))] [(to, .inl (y 0, 228, .inl (fun _ => 0)))] [1, 0] [2] := ⟨rfl, rfl, rfl, rfl, rfl, by decide⟩
    refine kw_go_i hs5 hP hD hS hA (va_runV (As := [.int (-2)]) (rest := []) ⟨hx, hb, hml, hown, hts⟩ (cw_bad l D y mo to ke ik rf ha r0 br bp bys an va (fun _ => 0) (-2)  _) (cwV 1 hts gX11_rains_X11_bad rfl rfl rfl (by decide +kernel) ⟨Nat.le_of_ble_eq_true rfl, Nat.le_of_ble_eq_true rfl⟩) (kw_PreV (ci := 11) (q0 := 1) hs5 hP hD hK hN rfl rfl) rfl rfl hl.1 rfl (lv_room (Nat.le_of_ble_eq_true rfl)) dX11_rains_23 ⟨Nat.le_of_ble_eq_true rfl, Nat.le_of_ble_eq_true rfl⟩) (fun r u H locs hq hP hD hS => ?_)
    obtain rfl := hq
    have hP : va_P D vwCl [(to, .inl (y 0, 228, .inl (fun _ => 0)))] H := hP
    have hD : va_D A [(to, .inl (y 0, 228, .inl (fun _ => 0)))] := hD
    have hsp : ((-2) : Int32) = (-2) := by
      have gZ1 := Int64.lt_iff_toInt_lt.mp h2
      have lZ1 : (x.toInt64).toInt = x.toInt := Int32.toInt_toInt64 _
      have lZ2 : (0 : Int64).toInt = 0 := by decide
      rfl
    exact W.iret (v := (-2)) hx hb hr (fun tZ ht hW => ⟨⟨(-2), (), rfl, hsp, by rw [ht]; exact hP.sub [] rfl, hD.sub [] (by decide) rfl⟩, hS.F ht⟩) hS.2.2 dX11_rains_26
  · skip
    have hP : va_P D vwCl [(rf, .inl (y 0, 3, .inl (fun _ => 0))), (mo, .inr (11, [.ref to, .ref ke, .ref ik, .ref rf, .long 0, .long 1, .ref ha, .ref r0, .ref br, .ref bp, .ref bys, .int 0, .int 0, .int 0, .int 0, .int 0, .ref an, .ref va])), (to, .inl (y 0, 228, .inl (fun _ => 0)))] H := hP
    have hD : va_D A [(rf, .inl (y 0, 3, .inl (fun _ => 0))), (mo, .inr (11, [.ref to, .ref ke, .ref ik, .ref rf, .long 0, .long 1, .ref ha, .ref r0, .ref br, .ref bp, .ref bys, .int 0, .int 0, .int 0, .int 0, .int 0, .ref an, .ref va])), (to, .inl (y 0, 228, .inl (fun _ => 0)))] := hD
    refine lv_if_eq (tgt := 20) hx hb dX11_rains_5 (by decide) (fun _ => ?_) (fun h9 => absurd h9 (by decide))
    refine lv_aload_n hx hb dX11_rains_20 rfl (lv_at hl 0 rfl) ?_
    refine lv_bipush (v := (-2)) hx hb dX11_rains_21 (by decide) ?_
    have hs6 : kw_Split [(rf, .inl (y 0, 3, .inl (fun _ => 0))), (mo, .inr (11, [.ref to, .ref ke, .ref ik, .ref rf, .long 0, .long 1, .ref ha, .ref r0, .ref br, .ref bp, .ref bys, .int 0, .int 0, .int 0, .int 0, .int 0, .ref an, .ref va])), (to, .inl (y 0, 228, .inl (fun _ => 0)))] [(mo, .inr (11, [.ref to, .ref ke, .ref ik, .ref rf, .long 0, .long 1, .ref ha, .ref r0, .ref br, .ref bp, .ref bys, .int 0, .int 0, .int 0, .int 0, .int 0, .ref an, .ref va])), (rf, .inl (y 0, 3, .inl (fun _ => 0)))] [(to, .inl (y 0, 228, .inl (fun _ => 0)))] [1, 0] [2] := ⟨rfl, rfl, rfl, rfl, rfl, by decide⟩
    refine kw_go_i hs6 hP hD hS hA (va_runV (As := [.int (-2)]) (rest := []) ⟨hx, hb, hml, hown, hts⟩ (cw_bad l D y mo to ke ik rf ha r0 br bp bys an va (fun _ => 0) (-2)  _) (cwV 1 hts gX11_rains_X11_bad rfl rfl rfl (by decide +kernel) ⟨Nat.le_of_ble_eq_true rfl, Nat.le_of_ble_eq_true rfl⟩) (kw_PreV (ci := 11) (q0 := 1) hs6 hP hD hK hN rfl rfl) rfl rfl hl.1 rfl (lv_room (Nat.le_of_ble_eq_true rfl)) dX11_rains_23 ⟨Nat.le_of_ble_eq_true rfl, Nat.le_of_ble_eq_true rfl⟩) (fun r u H locs hq hP hD hS => ?_)
    obtain rfl := hq
    have hP : va_P D vwCl [(to, .inl (y 0, 228, .inl (fun _ => 0)))] H := hP
    have hD : va_D A [(to, .inl (y 0, 228, .inl (fun _ => 0)))] := hD
    have hsp : ((-2) : Int32) = (-2) := by
      have gZ1 : ¬ (x.toInt64 : Int64).toInt < (0 : Int64).toInt := fun q => h3 (Int64.lt_iff_toInt_lt.mpr q)
      have lZ1 : (x.toInt64).toInt = x.toInt := Int32.toInt_toInt64 _
      have lZ2 : (0 : Int64).toInt = 0 := by decide
      have gZ2 := Int64.lt_iff_toInt_lt.mp h4
      have lZ3 : ((-1) : Int64).toInt = -1 := by decide
      rfl
    exact W.iret (v := (-2)) hx hb hr (fun tZ ht hW => ⟨⟨(-2), (), rfl, hsp, by rw [ht]; exact hP.sub [] rfl, hD.sub [] (by decide) rfl⟩, hS.F ht⟩) hS.2.2 dX11_rains_26

set_option maxHeartbeats 4000000 in
set_option maxRecDepth 100000 in
theorem cq_summers (l : Launch) (D : va_G) (y : Nat → ClassId) (mo : Nat) (to : Nat) (ke : Nat) (ik : Nat) (rf : Nat) (ha : Nat) (r0 : Nat) (br : Nat) (bp : Nat) (bys : Nat) (an : Nat) (va : Nat) (x : Int32) (n : Int32) : kw_Mi l yX11_summers wsX11_summers ({ frames := 2, cells := 0, slots := 0, locals := 66 }) D y [.ref mo, .int x, .int n] [(mo, .inr (11, [.ref to, .ref ke, .ref ik, .ref rf, .long 0, .long 1, .ref ha, .ref r0, .ref br, .ref bp, .ref bys, .int 0, .int 0, .int 0, .int 0, .int 0, .ref an, .ref va])), (rf, .inl (y 0, 3, .inl (fun _ => 0))), (to, .inl (y 0, 228, .inl (fun _ => 0))), (ha, .inl (y 0, 30, .inl (fun _ => 0)))] (fun (r : Int32) (u : Unit) => r = (sp_summers x n)) (fun _ => []) 0 0 := by
  refine kw_Mi.of (cc := cX11_summers) (maxL := 7) (ret := (some .int)) (by decide) rfl ?_
  intro pZ eZ s mZ beZ meZ cZ A hE
  obtain ⟨hx, hb, hr, hml, hts, hown, hlocks, hin, hA, hP, hD, hK, hN⟩ := hE
  have hS : va_S A s.heap s.heap [] := va_S.rf
  have hl := lv_entry ([.ref mo, .int x, .int n]) (n := 7) (Nat.le_of_ble_eq_true rfl)
  rw [lg_entry_eq]
  generalize (lg_sl ([.ref mo, .int x, .int n]) ++ List.replicate (7 - (lg_sl ([.ref mo, .int x, .int n])).length) Slot.unset).toArray = ls at hl ⊢
  have hl : lv_has ls 7 [(0, .ref mo), (1, .int x), (2, .int n)] := hl
  have fw1 := hts (.constantLong RX11 198 (999999)) (List.mem_of_getElem? (i := 1) rfl)
  have fw2 := hts (.constantLong RX11 67 (60)) (List.mem_of_getElem? (i := 2) rfl)
  have fw3 := hts (.constantLong RX11 200 (1103515245)) (List.mem_of_getElem? (i := 3) rfl)
  have fw4 := hts (.constantLong RX11 202 (12345)) (List.mem_of_getElem? (i := 4) rfl)
  have fw5 := hts (.constantLong RX11 204 (2147483648)) (List.mem_of_getElem? (i := 5) rfl)
  have fw6 := hts (.fieldLink RX11 27 "GleanDuskModel" "hand" "[I") (List.mem_of_getElem? (i := 6) rfl)
  have fw7 := hts (.constantLong RX11 206 (65536)) (List.mem_of_getElem? (i := 7) rfl)
  have fw8 := hts (.constantLong RX11 192 (10)) (List.mem_of_getElem? (i := 8) rfl)
  have i11 : ∀ w ∈ wsX110, w ∈ wsX11_summers := fun _ h => List.mem_cons_of_mem _ (List.mem_append_right _ h)
  refine lv_iload_n hx hb dX11_summers_0 rfl (lv_at hl 1 rfl) ?_
  refine lv_i2l (v := x.toInt64) hx hb dX11_summers_1 (rfl) ?_
  refine lv_lconst (v := 0) hx hb dX11_summers_2 (by decide) ?_
  refine lv_ldc2 (v := 999999) hx hb hown fw1 dX11_summers_3 ?_
  have hs1 : kw_Split [(mo, .inr (11, [.ref to, .ref ke, .ref ik, .ref rf, .long 0, .long 1, .ref ha, .ref r0, .ref br, .ref bp, .ref bys, .int 0, .int 0, .int 0, .int 0, .int 0, .ref an, .ref va])), (rf, .inl (y 0, 3, .inl (fun _ => 0))), (to, .inl (y 0, 228, .inl (fun _ => 0))), (ha, .inl (y 0, 30, .inl (fun _ => 0)))] [] [(mo, .inr (11, [.ref to, .ref ke, .ref ik, .ref rf, .long 0, .long 1, .ref ha, .ref r0, .ref br, .ref bp, .ref bys, .int 0, .int 0, .int 0, .int 0, .int 0, .ref an, .ref va])), (rf, .inl (y 0, 3, .inl (fun _ => 0))), (to, .inl (y 0, 228, .inl (fun _ => 0))), (ha, .inl (y 0, 30, .inl (fun _ => 0)))] [] [0, 1, 2, 3] := ⟨rfl, rfl, rfl, rfl, rfl, by decide⟩
  refine kw_go_i hs1 hP hD hS hA (va_runS (As := [.long x.toInt64, .long 0, .long 999999]) (rest := []) ⟨hx, hb, hml, hown, hts⟩ (cw_in l D y x.toInt64 0 999999  _) (va_cwS 3 hts gX11_summers_X11_in rfl rfl rfl (by decide +kernel) ⟨Nat.le_of_ble_eq_true rfl, Nat.le_of_ble_eq_true rfl⟩) (kw_PreS hs1 hP hD hK hN) rfl rfl hl.1 rfl (lv_room (Nat.le_of_ble_eq_true rfl)) dX11_summers_6 ⟨Nat.le_of_ble_eq_true rfl, Nat.le_of_ble_eq_true rfl⟩) (fun r u H locs hq hP hD hS => ?_)
  rcases hq with ⟨h2, rfl⟩ | ⟨h3, h4, rfl⟩ | ⟨h5, h6, rfl⟩
  · skip
    have hP : va_P D vwCl [(mo, .inr (11, [.ref to, .ref ke, .ref ik, .ref rf, .long 0, .long 1, .ref ha, .ref r0, .ref br, .ref bp, .ref bys, .int 0, .int 0, .int 0, .int 0, .int 0, .ref an, .ref va])), (rf, .inl (y 0, 3, .inl (fun _ => 0))), (to, .inl (y 0, 228, .inl (fun _ => 0))), (ha, .inl (y 0, 30, .inl (fun _ => 0)))] H := hP
    have hD : va_D A [(mo, .inr (11, [.ref to, .ref ke, .ref ik, .ref rf, .long 0, .long 1, .ref ha, .ref r0, .ref br, .ref bp, .ref bys, .int 0, .int 0, .int 0, .int 0, .int 0, .ref an, .ref va])), (rf, .inl (y 0, 3, .inl (fun _ => 0))), (to, .inl (y 0, 228, .inl (fun _ => 0))), (ha, .inl (y 0, 30, .inl (fun _ => 0)))] := hD
    refine lv_if_eq (tgt := 24) hx hb dX11_summers_9 (by decide) (fun _ => ?_) (fun h9 => absurd h9 (by decide))
    refine lv_aload_n hx hb dX11_summers_24 rfl (lv_at hl 0 rfl) ?_
    refine lv_bipush (v := (-2)) hx hb dX11_summers_25 (by decide) ?_
    have hs7 : kw_Split [(mo, .inr (11, [.ref to, .ref ke, .ref ik, .ref rf, .long 0, .long 1, .ref ha, .ref r0, .ref br, .ref bp, .ref bys, .int 0, .int 0, .int 0, .int 0, .int 0, .ref an, .ref va])), (rf, .inl (y 0, 3, .inl (fun _ => 0))), (to, .inl (y 0, 228, .inl (fun _ => 0))), (ha, .inl (y 0, 30, .inl (fun _ => 0)))] [(mo, .inr (11, [.ref to, .ref ke, .ref ik, .ref rf, .long 0, .long 1, .ref ha, .ref r0, .ref br, .ref bp, .ref bys, .int 0, .int 0, .int 0, .int 0, .int 0, .ref an, .ref va])), (rf, .inl (y 0, 3, .inl (fun _ => 0)))] [(to, .inl (y 0, 228, .inl (fun _ => 0))), (ha, .inl (y 0, 30, .inl (fun _ => 0)))] [0, 1] [2, 3] := ⟨rfl, rfl, rfl, rfl, rfl, by decide⟩
    refine kw_go_i hs7 hP hD hS hA (va_runV (As := [.int (-2)]) (rest := []) ⟨hx, hb, hml, hown, hts⟩ (cw_bad l D y mo to ke ik rf ha r0 br bp bys an va (fun _ => 0) (-2)  _) (cwV 1 hts gX11_summers_X11_bad rfl rfl rfl (by decide +kernel) ⟨Nat.le_of_ble_eq_true rfl, Nat.le_of_ble_eq_true rfl⟩) (kw_PreV (ci := 11) (q0 := 0) hs7 hP hD hK hN rfl rfl) rfl rfl hl.1 rfl (lv_room (Nat.le_of_ble_eq_true rfl)) dX11_summers_27 ⟨Nat.le_of_ble_eq_true rfl, Nat.le_of_ble_eq_true rfl⟩) (fun r u H locs hq hP hD hS => ?_)
    obtain rfl := hq
    have hP : va_P D vwCl [(to, .inl (y 0, 228, .inl (fun _ => 0))), (ha, .inl (y 0, 30, .inl (fun _ => 0)))] H := hP
    have hD : va_D A [(to, .inl (y 0, 228, .inl (fun _ => 0))), (ha, .inl (y 0, 30, .inl (fun _ => 0)))] := hD
    have hsp : ((-2) : Int32) = (sp_summers x n) := by
      have gZ1 := Int64.lt_iff_toInt_lt.mp h2
      have lZ1 : (x.toInt64).toInt = x.toInt := Int32.toInt_toInt64 _
      have lZ2 : (0 : Int64).toInt = 0 := by decide
      unfold sp_summers; first | rfl | decide | exact (if_neg (by omega)).symm | exact (if_pos (by omega)).symm | exact ((if_pos (by omega)).trans (if_neg (by omega))).symm | exact ((if_pos (by omega)).trans (if_pos (by omega))).symm | exact ((if_neg (by omega)).trans (if_pos (by omega))).symm | exact ((if_neg (by omega)).trans (if_neg (by omega))).symm
    exact W.iret (v := (-2)) hx hb hr (fun tZ ht hW => ⟨⟨(-2), (), rfl, hsp, by rw [ht]; exact hP.sub [] rfl, hD.sub [] (by decide) rfl⟩, hS.F ht⟩) hS.2.2 dX11_summers_30
  · skip
    have hP : va_P D vwCl [(mo, .inr (11, [.ref to, .ref ke, .ref ik, .ref rf, .long 0, .long 1, .ref ha, .ref r0, .ref br, .ref bp, .ref bys, .int 0, .int 0, .int 0, .int 0, .int 0, .ref an, .ref va])), (rf, .inl (y 0, 3, .inl (fun _ => 0))), (to, .inl (y 0, 228, .inl (fun _ => 0))), (ha, .inl (y 0, 30, .inl (fun _ => 0)))] H := hP
    have hD : va_D A [(mo, .inr (11, [.ref to, .ref ke, .ref ik, .ref rf, .long 0, .long 1, .ref ha, .ref r0, .ref br, .ref bp, .ref bys, .int 0, .int 0, .int 0, .int 0, .int 0, .ref an, .ref va])), (rf, .inl (y 0, 3, .inl (fun _ => 0))), (to, .inl (y 0, 228, .inl (fun _ => 0))), (ha, .inl (y 0, 30, .inl (fun _ => 0)))] := hD
    refine lv_if_eq (tgt := 24) hx hb dX11_summers_9 (by decide) (fun _ => ?_) (fun h9 => absurd h9 (by decide))
    refine lv_aload_n hx hb dX11_summers_24 rfl (lv_at hl 0 rfl) ?_
    refine lv_bipush (v := (-2)) hx hb dX11_summers_25 (by decide) ?_
    have hs8 : kw_Split [(mo, .inr (11, [.ref to, .ref ke, .ref ik, .ref rf, .long 0, .long 1, .ref ha, .ref r0, .ref br, .ref bp, .ref bys, .int 0, .int 0, .int 0, .int 0, .int 0, .ref an, .ref va])), (rf, .inl (y 0, 3, .inl (fun _ => 0))), (to, .inl (y 0, 228, .inl (fun _ => 0))), (ha, .inl (y 0, 30, .inl (fun _ => 0)))] [(mo, .inr (11, [.ref to, .ref ke, .ref ik, .ref rf, .long 0, .long 1, .ref ha, .ref r0, .ref br, .ref bp, .ref bys, .int 0, .int 0, .int 0, .int 0, .int 0, .ref an, .ref va])), (rf, .inl (y 0, 3, .inl (fun _ => 0)))] [(to, .inl (y 0, 228, .inl (fun _ => 0))), (ha, .inl (y 0, 30, .inl (fun _ => 0)))] [0, 1] [2, 3] := ⟨rfl, rfl, rfl, rfl, rfl, by decide⟩
    refine kw_go_i hs8 hP hD hS hA (va_runV (As := [.int (-2)]) (rest := []) ⟨hx, hb, hml, hown, hts⟩ (cw_bad l D y mo to ke ik rf ha r0 br bp bys an va (fun _ => 0) (-2)  _) (cwV 1 hts gX11_summers_X11_bad rfl rfl rfl (by decide +kernel) ⟨Nat.le_of_ble_eq_true rfl, Nat.le_of_ble_eq_true rfl⟩) (kw_PreV (ci := 11) (q0 := 0) hs8 hP hD hK hN rfl rfl) rfl rfl hl.1 rfl (lv_room (Nat.le_of_ble_eq_true rfl)) dX11_summers_27 ⟨Nat.le_of_ble_eq_true rfl, Nat.le_of_ble_eq_true rfl⟩) (fun r u H locs hq hP hD hS => ?_)
    obtain rfl := hq
    have hP : va_P D vwCl [(to, .inl (y 0, 228, .inl (fun _ => 0))), (ha, .inl (y 0, 30, .inl (fun _ => 0)))] H := hP
    have hD : va_D A [(to, .inl (y 0, 228, .inl (fun _ => 0))), (ha, .inl (y 0, 30, .inl (fun _ => 0)))] := hD
    have hsp : ((-2) : Int32) = (sp_summers x n) := by
      have gZ1 : ¬ (x.toInt64 : Int64).toInt < (0 : Int64).toInt := fun q => h3 (Int64.lt_iff_toInt_lt.mpr q)
      have lZ1 : (x.toInt64).toInt = x.toInt := Int32.toInt_toInt64 _
      have lZ2 : (0 : Int64).toInt = 0 := by decide
      have gZ2 := Int64.lt_iff_toInt_lt.mp h4
      have lZ3 : (999999 : Int64).toInt = 999999 := by decide
      unfold sp_summers; first | rfl | decide | exact (if_neg (by omega)).symm | exact (if_pos (by omega)).symm | exact ((if_pos (by omega)).trans (if_neg (by omega))).symm | exact ((if_pos (by omega)).trans (if_pos (by omega))).symm | exact ((if_neg (by omega)).trans (if_pos (by omega))).symm | exact ((if_neg (by omega)).trans (if_neg (by omega))).symm
    exact W.iret (v := (-2)) hx hb hr (fun tZ ht hW => ⟨⟨(-2), (), rfl, hsp, by rw [ht]; exact hP.sub [] rfl, hD.sub [] (by decide) rfl⟩, hS.F ht⟩) hS.2.2 dX11_summers_30
  · skip
    have hP : va_P D vwCl [(mo, .inr (11, [.ref to, .ref ke, .ref ik, .ref rf, .long 0, .long 1, .ref ha, .ref r0, .ref br, .ref bp, .ref bys, .int 0, .int 0, .int 0, .int 0, .int 0, .ref an, .ref va])), (rf, .inl (y 0, 3, .inl (fun _ => 0))), (to, .inl (y 0, 228, .inl (fun _ => 0))), (ha, .inl (y 0, 30, .inl (fun _ => 0)))] H := hP
    have hD : va_D A [(mo, .inr (11, [.ref to, .ref ke, .ref ik, .ref rf, .long 0, .long 1, .ref ha, .ref r0, .ref br, .ref bp, .ref bys, .int 0, .int 0, .int 0, .int 0, .int 0, .ref an, .ref va])), (rf, .inl (y 0, 3, .inl (fun _ => 0))), (to, .inl (y 0, 228, .inl (fun _ => 0))), (ha, .inl (y 0, 30, .inl (fun _ => 0)))] := hD
    refine lv_if_eq (tgt := 24) hx hb dX11_summers_9 (by decide) (fun h9 => absurd h9 (by decide)) (fun _ => ?_)
    refine lv_iload_n hx hb dX11_summers_12 rfl (lv_at hl 2 rfl) ?_
    refine lv_i2l (v := n.toInt64) hx hb dX11_summers_13 (rfl) ?_
    refine lv_lconst (v := 0) hx hb dX11_summers_14 (by decide) ?_
    refine lv_ldc2 (v := 60) hx hb hown fw2 dX11_summers_15 ?_
    have hs9 : kw_Split [(mo, .inr (11, [.ref to, .ref ke, .ref ik, .ref rf, .long 0, .long 1, .ref ha, .ref r0, .ref br, .ref bp, .ref bys, .int 0, .int 0, .int 0, .int 0, .int 0, .ref an, .ref va])), (rf, .inl (y 0, 3, .inl (fun _ => 0))), (to, .inl (y 0, 228, .inl (fun _ => 0))), (ha, .inl (y 0, 30, .inl (fun _ => 0)))] [] [(mo, .inr (11, [.ref to, .ref ke, .ref ik, .ref rf, .long 0, .long 1, .ref ha, .ref r0, .ref br, .ref bp, .ref bys, .int 0, .int 0, .int 0, .int 0, .int 0, .ref an, .ref va])), (rf, .inl (y 0, 3, .inl (fun _ => 0))), (to, .inl (y 0, 228, .inl (fun _ => 0))), (ha, .inl (y 0, 30, .inl (fun _ => 0)))] [] [0, 1, 2, 3] := ⟨rfl, rfl, rfl, rfl, rfl, by decide⟩
    refine kw_go_i hs9 hP hD hS hA (va_runS (As := [.long n.toInt64, .long 0, .long 60]) (rest := []) ⟨hx, hb, hml, hown, hts⟩ (cw_in l D y n.toInt64 0 60  _) (va_cwS 3 hts gX11_summers_X11_in rfl rfl rfl (by decide +kernel) ⟨Nat.le_of_ble_eq_true rfl, Nat.le_of_ble_eq_true rfl⟩) (kw_PreS hs9 hP hD hK hN) rfl rfl hl.1 rfl (lv_room (Nat.le_of_ble_eq_true rfl)) dX11_summers_18 ⟨Nat.le_of_ble_eq_true rfl, Nat.le_of_ble_eq_true rfl⟩) (fun r u H locs hq hP hD hS => ?_)
    rcases hq with ⟨h10, rfl⟩ | ⟨h11, h12, rfl⟩ | ⟨h13, h14, rfl⟩
    · skip
      have hP : va_P D vwCl [(mo, .inr (11, [.ref to, .ref ke, .ref ik, .ref rf, .long 0, .long 1, .ref ha, .ref r0, .ref br, .ref bp, .ref bys, .int 0, .int 0, .int 0, .int 0, .int 0, .ref an, .ref va])), (rf, .inl (y 0, 3, .inl (fun _ => 0))), (to, .inl (y 0, 228, .inl (fun _ => 0))), (ha, .inl (y 0, 30, .inl (fun _ => 0)))] H := hP
      have hD : va_D A [(mo, .inr (11, [.ref to, .ref ke, .ref ik, .ref rf, .long 0, .long 1, .ref ha, .ref r0, .ref br, .ref bp, .ref bys, .int 0, .int 0, .int 0, .int 0, .int 0, .ref an, .ref va])), (rf, .inl (y 0, 3, .inl (fun _ => 0))), (to, .inl (y 0, 228, .inl (fun _ => 0))), (ha, .inl (y 0, 30, .inl (fun _ => 0)))] := hD
      refine lv_if_ne (tgt := 31) hx hb dX11_summers_21 (by decide) (fun h9 => absurd h9 (by decide)) (fun _ => ?_)
      refine lv_aload_n hx hb dX11_summers_24 rfl (lv_at hl 0 rfl) ?_
      refine lv_bipush (v := (-2)) hx hb dX11_summers_25 (by decide) ?_
      have hs15 : kw_Split [(mo, .inr (11, [.ref to, .ref ke, .ref ik, .ref rf, .long 0, .long 1, .ref ha, .ref r0, .ref br, .ref bp, .ref bys, .int 0, .int 0, .int 0, .int 0, .int 0, .ref an, .ref va])), (rf, .inl (y 0, 3, .inl (fun _ => 0))), (to, .inl (y 0, 228, .inl (fun _ => 0))), (ha, .inl (y 0, 30, .inl (fun _ => 0)))] [(mo, .inr (11, [.ref to, .ref ke, .ref ik, .ref rf, .long 0, .long 1, .ref ha, .ref r0, .ref br, .ref bp, .ref bys, .int 0, .int 0, .int 0, .int 0, .int 0, .ref an, .ref va])), (rf, .inl (y 0, 3, .inl (fun _ => 0)))] [(to, .inl (y 0, 228, .inl (fun _ => 0))), (ha, .inl (y 0, 30, .inl (fun _ => 0)))] [0, 1] [2, 3] := ⟨rfl, rfl, rfl, rfl, rfl, by decide⟩
      refine kw_go_i hs15 hP hD hS hA (va_runV (As := [.int (-2)]) (rest := []) ⟨hx, hb, hml, hown, hts⟩ (cw_bad l D y mo to ke ik rf ha r0 br bp bys an va (fun _ => 0) (-2)  _) (cwV 1 hts gX11_summers_X11_bad rfl rfl rfl (by decide +kernel) ⟨Nat.le_of_ble_eq_true rfl, Nat.le_of_ble_eq_true rfl⟩) (kw_PreV (ci := 11) (q0 := 0) hs15 hP hD hK hN rfl rfl) rfl rfl hl.1 rfl (lv_room (Nat.le_of_ble_eq_true rfl)) dX11_summers_27 ⟨Nat.le_of_ble_eq_true rfl, Nat.le_of_ble_eq_true rfl⟩) (fun r u H locs hq hP hD hS => ?_)
      obtain rfl := hq
      have hP : va_P D vwCl [(to, .inl (y 0, 228, .inl (fun _ => 0))), (ha, .inl (y 0, 30, .inl (fun _ => 0)))] H := hP
      have hD : va_D A [(to, .inl (y 0, 228, .inl (fun _ => 0))), (ha, .inl (y 0, 30, .inl (fun _ => 0)))] := hD
      have hsp : ((-2) : Int32) = (sp_summers x n) := by
        have gZ1 : ¬ (x.toInt64 : Int64).toInt < (0 : Int64).toInt := fun q => h5 (Int64.lt_iff_toInt_lt.mpr q)
        have lZ1 : (x.toInt64).toInt = x.toInt := Int32.toInt_toInt64 _
        have lZ2 : (0 : Int64).toInt = 0 := by decide
        have gZ2 : ¬ (999999 : Int64).toInt < (x.toInt64 : Int64).toInt := fun q => h6 (Int64.lt_iff_toInt_lt.mpr q)
        have lZ3 : (999999 : Int64).toInt = 999999 := by decide
        have gZ3 := Int64.lt_iff_toInt_lt.mp h10
        have lZ4 : (n.toInt64).toInt = n.toInt := Int32.toInt_toInt64 _
        unfold sp_summers; first | rfl | decide | exact (if_neg (by omega)).symm | exact (if_pos (by omega)).symm | exact ((if_pos (by omega)).trans (if_neg (by omega))).symm | exact ((if_pos (by omega)).trans (if_pos (by omega))).symm | exact ((if_neg (by omega)).trans (if_pos (by omega))).symm | exact ((if_neg (by omega)).trans (if_neg (by omega))).symm
      exact W.iret (v := (-2)) hx hb hr (fun tZ ht hW => ⟨⟨(-2), (), rfl, hsp, by rw [ht]; exact hP.sub [] rfl, hD.sub [] (by decide) rfl⟩, hS.F ht⟩) hS.2.2 dX11_summers_30
    · skip
      have hP : va_P D vwCl [(mo, .inr (11, [.ref to, .ref ke, .ref ik, .ref rf, .long 0, .long 1, .ref ha, .ref r0, .ref br, .ref bp, .ref bys, .int 0, .int 0, .int 0, .int 0, .int 0, .ref an, .ref va])), (rf, .inl (y 0, 3, .inl (fun _ => 0))), (to, .inl (y 0, 228, .inl (fun _ => 0))), (ha, .inl (y 0, 30, .inl (fun _ => 0)))] H := hP
      have hD : va_D A [(mo, .inr (11, [.ref to, .ref ke, .ref ik, .ref rf, .long 0, .long 1, .ref ha, .ref r0, .ref br, .ref bp, .ref bys, .int 0, .int 0, .int 0, .int 0, .int 0, .ref an, .ref va])), (rf, .inl (y 0, 3, .inl (fun _ => 0))), (to, .inl (y 0, 228, .inl (fun _ => 0))), (ha, .inl (y 0, 30, .inl (fun _ => 0)))] := hD
      refine lv_if_ne (tgt := 31) hx hb dX11_summers_21 (by decide) (fun h9 => absurd h9 (by decide)) (fun _ => ?_)
      refine lv_aload_n hx hb dX11_summers_24 rfl (lv_at hl 0 rfl) ?_
      refine lv_bipush (v := (-2)) hx hb dX11_summers_25 (by decide) ?_
      have hs16 : kw_Split [(mo, .inr (11, [.ref to, .ref ke, .ref ik, .ref rf, .long 0, .long 1, .ref ha, .ref r0, .ref br, .ref bp, .ref bys, .int 0, .int 0, .int 0, .int 0, .int 0, .ref an, .ref va])), (rf, .inl (y 0, 3, .inl (fun _ => 0))), (to, .inl (y 0, 228, .inl (fun _ => 0))), (ha, .inl (y 0, 30, .inl (fun _ => 0)))] [(mo, .inr (11, [.ref to, .ref ke, .ref ik, .ref rf, .long 0, .long 1, .ref ha, .ref r0, .ref br, .ref bp, .ref bys, .int 0, .int 0, .int 0, .int 0, .int 0, .ref an, .ref va])), (rf, .inl (y 0, 3, .inl (fun _ => 0)))] [(to, .inl (y 0, 228, .inl (fun _ => 0))), (ha, .inl (y 0, 30, .inl (fun _ => 0)))] [0, 1] [2, 3] := ⟨rfl, rfl, rfl, rfl, rfl, by decide⟩
      refine kw_go_i hs16 hP hD hS hA (va_runV (As := [.int (-2)]) (rest := []) ⟨hx, hb, hml, hown, hts⟩ (cw_bad l D y mo to ke ik rf ha r0 br bp bys an va (fun _ => 0) (-2)  _) (cwV 1 hts gX11_summers_X11_bad rfl rfl rfl (by decide +kernel) ⟨Nat.le_of_ble_eq_true rfl, Nat.le_of_ble_eq_true rfl⟩) (kw_PreV (ci := 11) (q0 := 0) hs16 hP hD hK hN rfl rfl) rfl rfl hl.1 rfl (lv_room (Nat.le_of_ble_eq_true rfl)) dX11_summers_27 ⟨Nat.le_of_ble_eq_true rfl, Nat.le_of_ble_eq_true rfl⟩) (fun r u H locs hq hP hD hS => ?_)
      obtain rfl := hq
      have hP : va_P D vwCl [(to, .inl (y 0, 228, .inl (fun _ => 0))), (ha, .inl (y 0, 30, .inl (fun _ => 0)))] H := hP
      have hD : va_D A [(to, .inl (y 0, 228, .inl (fun _ => 0))), (ha, .inl (y 0, 30, .inl (fun _ => 0)))] := hD
      have hsp : ((-2) : Int32) = (sp_summers x n) := by
        have gZ1 : ¬ (x.toInt64 : Int64).toInt < (0 : Int64).toInt := fun q => h5 (Int64.lt_iff_toInt_lt.mpr q)
        have lZ1 : (x.toInt64).toInt = x.toInt := Int32.toInt_toInt64 _
        have lZ2 : (0 : Int64).toInt = 0 := by decide
        have gZ2 : ¬ (999999 : Int64).toInt < (x.toInt64 : Int64).toInt := fun q => h6 (Int64.lt_iff_toInt_lt.mpr q)
        have lZ3 : (999999 : Int64).toInt = 999999 := by decide
        have gZ3 : ¬ (n.toInt64 : Int64).toInt < (0 : Int64).toInt := fun q => h11 (Int64.lt_iff_toInt_lt.mpr q)
        have lZ4 : (n.toInt64).toInt = n.toInt := Int32.toInt_toInt64 _
        have gZ4 := Int64.lt_iff_toInt_lt.mp h12
        have lZ5 : (60 : Int64).toInt = 60 := by decide
        unfold sp_summers; first | rfl | decide | exact (if_neg (by omega)).symm | exact (if_pos (by omega)).symm | exact ((if_pos (by omega)).trans (if_neg (by omega))).symm | exact ((if_pos (by omega)).trans (if_pos (by omega))).symm | exact ((if_neg (by omega)).trans (if_pos (by omega))).symm | exact ((if_neg (by omega)).trans (if_neg (by omega))).symm
      exact W.iret (v := (-2)) hx hb hr (fun tZ ht hW => ⟨⟨(-2), (), rfl, hsp, by rw [ht]; exact hP.sub [] rfl, hD.sub [] (by decide) rfl⟩, hS.F ht⟩) hS.2.2 dX11_summers_30
    · skip
      have hP : va_P D vwCl [(mo, .inr (11, [.ref to, .ref ke, .ref ik, .ref rf, .long 0, .long 1, .ref ha, .ref r0, .ref br, .ref bp, .ref bys, .int 0, .int 0, .int 0, .int 0, .int 0, .ref an, .ref va])), (rf, .inl (y 0, 3, .inl (fun _ => 0))), (to, .inl (y 0, 228, .inl (fun _ => 0))), (ha, .inl (y 0, 30, .inl (fun _ => 0)))] H := hP
      have hD : va_D A [(mo, .inr (11, [.ref to, .ref ke, .ref ik, .ref rf, .long 0, .long 1, .ref ha, .ref r0, .ref br, .ref bp, .ref bys, .int 0, .int 0, .int 0, .int 0, .int 0, .ref an, .ref va])), (rf, .inl (y 0, 3, .inl (fun _ => 0))), (to, .inl (y 0, 228, .inl (fun _ => 0))), (ha, .inl (y 0, 30, .inl (fun _ => 0)))] := hD
      refine lv_if_ne (tgt := 31) hx hb dX11_summers_21 (by decide) (fun _ => ?_) (fun h9 => absurd h9 (by decide))
      obtain ⟨NN, hNlo, hNhi, rfl⟩ := kw_rngL (a := 0) (b := 60) h13 h14 (by decide) (by decide)
      refine lv_iload_n hx hb dX11_summers_31 rfl (lv_at hl 1 rfl) ?_
      refine lv_i2l (v := x.toInt64) hx hb dX11_summers_32 (rfl) ?_
      refine lv_lstore_n (lv' := [(3, .long x.toInt64), (0, .ref mo), (1, .int x), (2, .int (nI NN))]) hx hb dX11_summers_33 rfl hl (by decide) rfl (fun ls hl => ?_)
      refine lv_iconst (v := 0) hx hb dX11_summers_34 (by decide) ?_
      refine lv_istore (lv' := [(5, .int 0), (3, .long x.toInt64), (0, .ref mo), (1, .int x), (2, .int (nI NN))]) hx hb dX11_summers_35 hl (by decide) rfl (fun ls hl => ?_)
      refine lv_aload_n hx hb dX11_summers_37 rfl (lv_at hl 2 rfl) ?_
      have hs17 : kw_Split [(mo, .inr (11, [.ref to, .ref ke, .ref ik, .ref rf, .long 0, .long 1, .ref ha, .ref r0, .ref br, .ref bp, .ref bys, .int 0, .int 0, .int 0, .int 0, .int 0, .ref an, .ref va])), (rf, .inl (y 0, 3, .inl (fun _ => 0))), (to, .inl (y 0, 228, .inl (fun _ => 0))), (ha, .inl (y 0, 30, .inl (fun _ => 0)))] [(mo, .inr (11, [.ref to, .ref ke, .ref ik, .ref rf, .long 0, .long 1, .ref ha, .ref r0, .ref br, .ref bp, .ref bys, .int 0, .int 0, .int 0, .int 0, .int 0, .ref an, .ref va])), (to, .inl (y 0, 228, .inl (fun _ => 0))), (ha, .inl (y 0, 30, .inl (fun _ => 0)))] [(rf, .inl (y 0, 3, .inl (fun _ => 0)))] [0, 2, 3] [1] := ⟨rfl, rfl, rfl, rfl, rfl, by decide⟩
      refine kw_go_v hs17 hP hD hS hA (va_runV (As := []) (rest := []) ⟨hx, hb, hml, hown, hts⟩ (cw_layHand l D y mo to ke ik rf ha r0 br bp bys an va  _) (cwV 0 hts gX11_summers_X11_layHand rfl rfl rfl (by decide +kernel) ⟨Nat.le_of_ble_eq_true rfl, Nat.le_of_ble_eq_true rfl⟩) (kw_PreV (ci := 11) (q0 := 0) hs17 hP hD hK hN rfl rfl) rfl rfl hl.1 rfl (lv_room (Nat.le_of_ble_eq_true rfl)) dX11_summers_38 ⟨Nat.le_of_ble_eq_true rfl, Nat.le_of_ble_eq_true rfl⟩) (fun u H locs hq hP hD hS => ?_)
      obtain - := hq
      have hP : va_P D vwCl [(rf, .inl (y 0, 3, .inl (fun _ => 0))), (mo, .inr (11, [.ref to, .ref ke, .ref ik, .ref rf, .long 0, .long 1, .ref ha, .ref r0, .ref br, .ref bp, .ref bys, .int 0, .int 0, .int 0, .int 0, .int 0, .ref an, .ref va])), (to, .inl (y 0, 228, .inl (fun _ => 0))), (ha, .inl (y 0, 30, .inl (fun _ => 0)))] H := hP
      have hD : va_D A [(rf, .inl (y 0, 3, .inl (fun _ => 0))), (mo, .inr (11, [.ref to, .ref ke, .ref ik, .ref rf, .long 0, .long 1, .ref ha, .ref r0, .ref br, .ref bp, .ref bys, .int 0, .int 0, .int 0, .int 0, .int 0, .ref an, .ref va])), (to, .inl (y 0, 228, .inl (fun _ => 0))), (ha, .inl (y 0, 30, .inl (fun _ => 0)))] := hD
      refine lv_iconst (v := 0) hx hb dX11_summers_41 (by decide) ?_
      refine lv_istore (lv' := [(6, .int 0), (5, .int 0), (3, .long x.toInt64), (0, .ref mo), (1, .int x), (2, .int (nI NN))]) hx hb dX11_summers_42 hl (by decide) rfl (fun ls hl => ?_)
      have lp18 : ∀ (fu9 j9 : Nat) (lx9 : Int64) (f9 : Nat → Int32) (H : Heap) (locs : List Loc) (ls : Array Slot), j9 ≤ NN → NN - j9 < fu9 → f9 (0 : Int32).toNatClampNeg = 0 → f9 (1 : Int32).toNatClampNeg = 0 → va_P D vwCl [(rf, .inl (y 0, 3, .inl (fun _ => 0))), (mo, .inr (11, [.ref to, .ref ke, .ref ik, .ref rf, .long 0, .long 1, .ref ha, .ref r0, .ref br, .ref bp, .ref bys, .int 0, .int 0, .int 0, .int 0, .int 0, .ref an, .ref va])), (to, .inl (y 0, 228, .inl (fun _ => 0))), (ha, .inl (y 0, 30, .inl f9))] H → va_D A [(rf, .inl (y 0, 3, .inl (fun _ => 0))), (mo, .inr (11, [.ref to, .ref ke, .ref ik, .ref rf, .long 0, .long 1, .ref ha, .ref r0, .ref br, .ref bp, .ref bys, .int 0, .int 0, .int 0, .int 0, .int 0, .ref an, .ref va])), (to, .inl (y 0, 228, .inl (fun _ => 0))), (ha, .inl (y 0, 30, .inl f9))] → va_S A s.heap H locs → lv_has ls 7 [(6, .int (nI j9)), (5, .int 0), (3, .long lx9), (0, .ref mo), (1, .int x), (2, .int (nI NN))] → W pZ l eZ ({ frames := 2, cells := 0, slots := 0, locals := 66 }) s mZ [.ref mo, .int x, .int (nI NN)].toArray beZ meZ cZ H locs 0 0 (MQ beZ (va_Qi (fun (r : Int32) (u : Unit) => r = (sp_summers x (nI NN))) (kw_B D (fun _ => []) A) A) [.ref mo, .int x, .int (nI NN)].toArray s 0 0 A) (F0 mZ 44 ls []) := by
        intro fu9
        induction fu9 with
        | zero => intro j9 lx9 f9 H locs ls hj9 hf9; exact absurd hf9 (Nat.not_lt_zero _)
        | succ fu9 ih =>
          intro j9 lx9 f9 H locs ls hj9 hf9 hv9 hw9 hP hD hS hl
          refine lv_iload hx hb dX11_summers_44 (lv_at hl 0 rfl) ?_
          refine lv_iload_n hx hb dX11_summers_46 rfl (lv_at hl 5 rfl) ?_
          refine lv_icmp_ge (tgt := 118) hx hb dX11_summers_47 (by decide) (fun h19 => ?_) (fun h20 => ?_)
          · skip
            refine lv_iload hx hb dX11_summers_118 (lv_at hl 1 rfl) ?_
            have hsp : (0 : Int32) = (sp_summers x (nI NN)) := by
              have gZ1 : ¬ (x.toInt64 : Int64).toInt < (0 : Int64).toInt := fun q => h5 (Int64.lt_iff_toInt_lt.mpr q)
              have lZ1 : (x.toInt64).toInt = x.toInt := Int32.toInt_toInt64 _
              have lZ2 : (0 : Int64).toInt = 0 := by decide
              have gZ2 : ¬ (999999 : Int64).toInt < (x.toInt64 : Int64).toInt := fun q => h6 (Int64.lt_iff_toInt_lt.mpr q)
              have lZ3 : (999999 : Int64).toInt = 999999 := by decide
              have gZ3 : ¬ ((nI NN).toInt64 : Int64).toInt < (0 : Int64).toInt := fun q => h13 (Int64.lt_iff_toInt_lt.mpr q)
              have lZ4 : ((nI NN).toInt64).toInt = (nI NN).toInt := Int32.toInt_toInt64 _
              have gZ4 : ¬ (60 : Int64).toInt < ((nI NN).toInt64 : Int64).toInt := fun q => h14 (Int64.lt_iff_toInt_lt.mpr q)
              have lZ5 : (60 : Int64).toInt = 60 := by decide
              unfold sp_summers; first | rfl | decide | exact (if_neg (by omega)).symm | exact (if_pos (by omega)).symm | exact ((if_pos (by omega)).trans (if_neg (by omega))).symm | exact ((if_pos (by omega)).trans (if_pos (by omega))).symm | exact ((if_neg (by omega)).trans (if_pos (by omega))).symm | exact ((if_neg (by omega)).trans (if_neg (by omega))).symm
            exact W.iret (v := 0) hx hb hr (fun tZ ht hW => ⟨⟨0, (), rfl, hsp, by rw [ht]; exact hP.sub [] rfl, hD.sub [] (by decide) rfl⟩, hS.F ht⟩) hS.2.2 dX11_summers_120
          · skip
            refine lv_lload_n hx hb dX11_summers_50 rfl (lv_at hl 2 rfl) ?_
            refine lv_ldc2 (v := 1103515245) hx hb hown fw3 dX11_summers_51 ?_
            refine lv_lmul hx hb dX11_summers_54 ?_
            refine lv_ldc2 (v := 12345) hx hb hown fw4 dX11_summers_55 ?_
            refine lv_ladd hx hb dX11_summers_58 ?_
            refine lv_ldc2 (v := 2147483648) hx hb hown fw5 dX11_summers_59 ?_
            refine lv_lrem hx hb dX11_summers_62 (by decide) ?_
            refine lv_lstore_n (lv' := [(3, .long (((lx9 * 1103515245) + 12345) - ((lx9 * 1103515245) + 12345) / 2147483648 * 2147483648)), (6, .int (nI j9)), (5, .int 0), (0, .ref mo), (1, .int x), (2, .int (nI NN))]) hx hb dX11_summers_63 rfl hl (by decide) rfl (fun ls hl => ?_)
            refine lv_aload_n hx hb dX11_summers_64 rfl (lv_at hl 3 rfl) ?_
            refine va_get (D := D) (ci := 11) (v := .ref ha) (C := RX11) (T := TX11) (N := 18) hx hb hts i11 hown hK hP 1 rfl rfl 6 (by decide) fw6 (fun _ h9 => h9) rfl dX11_summers_65 ?_
            refine lv_bipush (v := 21) hx hb dX11_summers_68 (by decide) ?_
            refine va_iald hx hb hK hP 3 0 rfl rfl (by unfold vp_in; decide) dX11_summers_70 ?_
            refine lv_bipush (v := 12) hx hb dX11_summers_71 (by decide) ?_
            refine lv_icmp_ne (tgt := 83) hx hb dX11_summers_73 (by decide) (fun h21 => ?_) (fun h22 => ?_)
            · skip
              refine lv_aload_n hx hb dX11_summers_83 rfl (lv_at hl 3 rfl) ?_
              refine va_get (D := D) (ci := 11) (v := .ref ha) (C := RX11) (T := TX11) (N := 18) hx hb hts i11 hown hK hP 1 rfl rfl 6 (by decide) fw6 (fun _ h9 => h9) rfl dX11_summers_84 ?_
              refine lv_bipush (v := 22) hx hb dX11_summers_87 (by decide) ?_
              refine lv_lload_n hx hb dX11_summers_89 rfl (lv_at hl 0 rfl) ?_
              refine lv_ldc2 (v := 65536) hx hb hown fw7 dX11_summers_90 ?_
              refine lv_ldiv hx hb dX11_summers_93 (by decide) ?_
              refine lv_ldc2 (v := 10) hx hb hown fw8 dX11_summers_94 ?_
              refine lv_lrem hx hb dX11_summers_97 (by decide) ?_
              refine lv_l2i (v := (((((lx9 * 1103515245) + 12345) - ((lx9 * 1103515245) + 12345) / 2147483648 * 2147483648) / 65536) - ((((lx9 * 1103515245) + 12345) - ((lx9 * 1103515245) + 12345) / 2147483648 * 2147483648) / 65536) / 10 * 10).toInt32) hx hb dX11_summers_98 (rfl) ?_
              refine va_iast hx hb hK hP hD hS 3 0 rfl rfl (by unfold vp_in; decide) dX11_summers_99 (fun H locs hP hD hS => ?_)
              have hP : va_P D vwCl [(rf, .inl (y 0, 3, .inl (fun _ => 0))), (mo, .inr (11, [.ref to, .ref ke, .ref ik, .ref rf, .long 0, .long 1, .ref ha, .ref r0, .ref br, .ref bp, .ref bys, .int 0, .int 0, .int 0, .int 0, .int 0, .ref an, .ref va])), (to, .inl (y 0, 228, .inl (fun _ => 0))), (ha, .inl (y 0, 30, .inl (upd f9 (22 : Int32).toNatClampNeg ((((((lx9 * 1103515245) + 12345) - ((lx9 * 1103515245) + 12345) / 2147483648 * 2147483648) / 65536) - ((((lx9 * 1103515245) + 12345) - ((lx9 * 1103515245) + 12345) / 2147483648 * 2147483648) / 65536) / 10 * 10).toInt32))))] H := hP
              have hD : va_D A [(rf, .inl (y 0, 3, .inl (fun _ => 0))), (mo, .inr (11, [.ref to, .ref ke, .ref ik, .ref rf, .long 0, .long 1, .ref ha, .ref r0, .ref br, .ref bp, .ref bys, .int 0, .int 0, .int 0, .int 0, .int 0, .ref an, .ref va])), (to, .inl (y 0, 228, .inl (fun _ => 0))), (ha, .inl (y 0, 30, .inl (upd f9 (22 : Int32).toNatClampNeg ((((((lx9 * 1103515245) + 12345) - ((lx9 * 1103515245) + 12345) / 2147483648 * 2147483648) / 65536) - ((((lx9 * 1103515245) + 12345) - ((lx9 * 1103515245) + 12345) / 2147483648 * 2147483648) / 65536) / 10 * 10).toInt32))))] := hD
              refine lv_iload hx hb dX11_summers_100 (lv_at hl 2 rfl) ?_
              refine lv_aload_n hx hb dX11_summers_102 rfl (lv_at hl 3 rfl) ?_
              refine va_get (D := D) (ci := 11) (v := .ref ha) (C := RX11) (T := TX11) (N := 18) hx hb hts i11 hown hK hP 1 rfl rfl 6 (by decide) fw6 (fun _ h9 => h9) rfl dX11_summers_103 ?_
              have hs23 : kw_Split [(rf, .inl (y 0, 3, .inl (fun _ => 0))), (mo, .inr (11, [.ref to, .ref ke, .ref ik, .ref rf, .long 0, .long 1, .ref ha, .ref r0, .ref br, .ref bp, .ref bys, .int 0, .int 0, .int 0, .int 0, .int 0, .ref an, .ref va])), (to, .inl (y 0, 228, .inl (fun _ => 0))), (ha, .inl (y 0, 30, .inl (upd f9 (22 : Int32).toNatClampNeg ((((((lx9 * 1103515245) + 12345) - ((lx9 * 1103515245) + 12345) / 2147483648 * 2147483648) / 65536) - ((((lx9 * 1103515245) + 12345) - ((lx9 * 1103515245) + 12345) / 2147483648 * 2147483648) / 65536) / 10 * 10).toInt32))))] [(ha, .inl (y 0, 30, .inl (upd f9 (22 : Int32).toNatClampNeg ((((((lx9 * 1103515245) + 12345) - ((lx9 * 1103515245) + 12345) / 2147483648 * 2147483648) / 65536) - ((((lx9 * 1103515245) + 12345) - ((lx9 * 1103515245) + 12345) / 2147483648 * 2147483648) / 65536) / 10 * 10).toInt32))))] [(rf, .inl (y 0, 3, .inl (fun _ => 0))), (mo, .inr (11, [.ref to, .ref ke, .ref ik, .ref rf, .long 0, .long 1, .ref ha, .ref r0, .ref br, .ref bp, .ref bys, .int 0, .int 0, .int 0, .int 0, .int 0, .ref an, .ref va])), (to, .inl (y 0, 228, .inl (fun _ => 0)))] [3] [0, 1, 2] := ⟨rfl, rfl, rfl, rfl, rfl, by decide⟩
              refine kw_go_i hs23 hP hD hS hA (va_runS (As := [.ref ha]) (rest := [.int 0]) ⟨hx, hb, hml, hown, hts⟩ (cw_goStep30 l D y ha (upd f9 (22 : Int32).toNatClampNeg ((((((lx9 * 1103515245) + 12345) - ((lx9 * 1103515245) + 12345) / 2147483648 * 2147483648) / 65536) - ((((lx9 * 1103515245) + 12345) - ((lx9 * 1103515245) + 12345) / 2147483648 * 2147483648) / 65536) / 10 * 10).toInt32)) (by first | rfl | decide | assumption | (simp [upd]; done) | (unfold upd; rw [if_neg (by decide)]; assumption) | (unfold upd; rw [if_neg (by decide), if_neg (by decide)]; assumption)) _) (va_cwS 1 hts gX11_summers_X11_goStep rfl rfl rfl (by decide +kernel) ⟨Nat.le_of_ble_eq_true rfl, Nat.le_of_ble_eq_true rfl⟩) (kw_PreS hs23 hP hD hK hN) rfl rfl hl.1 rfl (lv_room (Nat.le_of_ble_eq_true rfl)) dX11_summers_106 ⟨Nat.le_of_ble_eq_true rfl, Nat.le_of_ble_eq_true rfl⟩) (fun r u H locs hq hP hD hS => ?_)
              obtain rfl := hq
              have hP : va_P D vwCl [(rf, .inl (y 0, 3, .inl (fun _ => 0))), (mo, .inr (11, [.ref to, .ref ke, .ref ik, .ref rf, .long 0, .long 1, .ref ha, .ref r0, .ref br, .ref bp, .ref bys, .int 0, .int 0, .int 0, .int 0, .int 0, .ref an, .ref va])), (to, .inl (y 0, 228, .inl (fun _ => 0))), (ha, .inl (y 0, 30, .inl (upd (upd f9 (22 : Int32).toNatClampNeg ((((((lx9 * 1103515245) + 12345) - ((lx9 * 1103515245) + 12345) / 2147483648 * 2147483648) / 65536) - ((((lx9 * 1103515245) + 12345) - ((lx9 * 1103515245) + 12345) / 2147483648 * 2147483648) / 65536) / 10 * 10).toInt32)) (21 : Int32).toNatClampNeg (((upd f9 (22 : Int32).toNatClampNeg ((((((lx9 * 1103515245) + 12345) - ((lx9 * 1103515245) + 12345) / 2147483648 * 2147483648) / 65536) - ((((lx9 * 1103515245) + 12345) - ((lx9 * 1103515245) + 12345) / 2147483648 * 2147483648) / 65536) / 10 * 10).toInt32)) (21 : Int32).toNatClampNeg) + 1))))] H := hP
              have hD : va_D A [(rf, .inl (y 0, 3, .inl (fun _ => 0))), (mo, .inr (11, [.ref to, .ref ke, .ref ik, .ref rf, .long 0, .long 1, .ref ha, .ref r0, .ref br, .ref bp, .ref bys, .int 0, .int 0, .int 0, .int 0, .int 0, .ref an, .ref va])), (to, .inl (y 0, 228, .inl (fun _ => 0))), (ha, .inl (y 0, 30, .inl (upd (upd f9 (22 : Int32).toNatClampNeg ((((((lx9 * 1103515245) + 12345) - ((lx9 * 1103515245) + 12345) / 2147483648 * 2147483648) / 65536) - ((((lx9 * 1103515245) + 12345) - ((lx9 * 1103515245) + 12345) / 2147483648 * 2147483648) / 65536) / 10 * 10).toInt32)) (21 : Int32).toNatClampNeg (((upd f9 (22 : Int32).toNatClampNeg ((((((lx9 * 1103515245) + 12345) - ((lx9 * 1103515245) + 12345) / 2147483648 * 2147483648) / 65536) - ((((lx9 * 1103515245) + 12345) - ((lx9 * 1103515245) + 12345) / 2147483648 * 2147483648) / 65536) / 10 * 10).toInt32)) (21 : Int32).toNatClampNeg) + 1))))] := hD
              refine lv_iadd hx hb dX11_summers_109 ?_
              refine lv_topi (fun z24 hz24 => ?_)
              obtain rfl : z24 = 0 := hz24.trans (by first | rfl | decide | (simp [upd]; done))
              refine lv_istore (lv' := [(5, .int 0), (3, .long (((lx9 * 1103515245) + 12345) - ((lx9 * 1103515245) + 12345) / 2147483648 * 2147483648)), (6, .int (nI j9)), (0, .ref mo), (1, .int x), (2, .int (nI NN))]) hx hb dX11_summers_110 hl (by decide) rfl (fun ls hl => ?_)
              refine lv_iinc (v := ((nI j9) + 1)) (lv' := [(6, .int ((nI j9) + 1)), (5, .int 0), (3, .long (((lx9 * 1103515245) + 12345) - ((lx9 * 1103515245) + 12345) / 2147483648 * 2147483648)), (0, .ref mo), (1, .int x), (2, .int (nI NN))]) hx hb dX11_summers_112 hl (k := 2) rfl (rfl) (by decide) rfl (fun ls hl => ?_)
              refine lv_goto (tgt := 44) hx hb dX11_summers_115 (by decide) ?_
              have hlt9 : j9 < NN := kw_nlt (nI_toInt (by omega)) (by omega) h20
              rw [nI_1 j9] at hl
              exact ih (j9 + 1) (((lx9 * 1103515245) + 12345) - ((lx9 * 1103515245) + 12345) / 2147483648 * 2147483648) (upd (upd f9 (22 : Int32).toNatClampNeg ((((((lx9 * 1103515245) + 12345) - ((lx9 * 1103515245) + 12345) / 2147483648 * 2147483648) / 65536) - ((((lx9 * 1103515245) + 12345) - ((lx9 * 1103515245) + 12345) / 2147483648 * 2147483648) / 65536) / 10 * 10).toInt32)) (21 : Int32).toNatClampNeg (((upd f9 (22 : Int32).toNatClampNeg ((((((lx9 * 1103515245) + 12345) - ((lx9 * 1103515245) + 12345) / 2147483648 * 2147483648) / 65536) - ((((lx9 * 1103515245) + 12345) - ((lx9 * 1103515245) + 12345) / 2147483648 * 2147483648) / 65536) / 10 * 10).toInt32)) (21 : Int32).toNatClampNeg) + 1)) H locs ls (by omega) (by omega) (by first | rfl | decide | assumption | (simp [upd]; done) | (unfold upd; rw [if_neg (by decide)]; assumption) | (unfold upd; rw [if_neg (by decide), if_neg (by decide)]; assumption) | (unfold upd; rw [if_neg (by decide), if_neg (by decide), if_neg (by decide)]; assumption) | (unfold upd; rw [if_neg (by decide), if_neg (by decide), if_neg (by decide), if_neg (by decide)]; assumption) | (unfold upd; rw [if_neg (by decide), if_neg (by decide), if_neg (by decide), if_neg (by decide), if_neg (by decide)]; assumption)) (by first | rfl | decide | assumption | (simp [upd]; done) | (unfold upd; rw [if_neg (by decide)]; assumption) | (unfold upd; rw [if_neg (by decide), if_neg (by decide)]; assumption) | (unfold upd; rw [if_neg (by decide), if_neg (by decide), if_neg (by decide)]; assumption) | (unfold upd; rw [if_neg (by decide), if_neg (by decide), if_neg (by decide), if_neg (by decide)]; assumption) | (unfold upd; rw [if_neg (by decide), if_neg (by decide), if_neg (by decide), if_neg (by decide), if_neg (by decide)]; assumption)) (hP.sub [0, 1, 2, 3] rfl) (hD.sub [0, 1, 2, 3] (by decide) rfl) hS (lv_sub hl [0, 1, 2, 3, 4, 5] rfl)
            · skip
              refine lv_aload_n hx hb dX11_summers_76 rfl (lv_at hl 3 rfl) ?_
              refine va_get (D := D) (ci := 11) (v := .ref ha) (C := RX11) (T := TX11) (N := 18) hx hb hts i11 hown hK hP 1 rfl rfl 6 (by decide) fw6 (fun _ h9 => h9) rfl dX11_summers_77 ?_
              have hs25 : kw_Split [(rf, .inl (y 0, 3, .inl (fun _ => 0))), (mo, .inr (11, [.ref to, .ref ke, .ref ik, .ref rf, .long 0, .long 1, .ref ha, .ref r0, .ref br, .ref bp, .ref bys, .int 0, .int 0, .int 0, .int 0, .int 0, .ref an, .ref va])), (to, .inl (y 0, 228, .inl (fun _ => 0))), (ha, .inl (y 0, 30, .inl f9))] [(ha, .inl (y 0, 30, .inl f9))] [(rf, .inl (y 0, 3, .inl (fun _ => 0))), (mo, .inr (11, [.ref to, .ref ke, .ref ik, .ref rf, .long 0, .long 1, .ref ha, .ref r0, .ref br, .ref bp, .ref bys, .int 0, .int 0, .int 0, .int 0, .int 0, .ref an, .ref va])), (to, .inl (y 0, 228, .inl (fun _ => 0)))] [3] [0, 1, 2] := ⟨rfl, rfl, rfl, rfl, rfl, by decide⟩
              refine kw_go_v hs25 hP hD hS hA (va_runS (As := [.ref ha]) (rest := []) ⟨hx, hb, hml, hown, hts⟩ (cw_goNight30 l D y ha f9 (by first | rfl | decide | assumption | (simp [upd]; done) | (unfold upd; rw [if_neg (by decide)]; assumption) | (unfold upd; rw [if_neg (by decide), if_neg (by decide)]; assumption)) (by first | rfl | decide | assumption | (simp [upd]; done) | (unfold upd; rw [if_neg (by decide)]; assumption) | (unfold upd; rw [if_neg (by decide), if_neg (by decide)]; assumption)) _) (va_cwS 1 hts gX11_summers_X11_goNight rfl rfl rfl (by decide +kernel) ⟨Nat.le_of_ble_eq_true rfl, Nat.le_of_ble_eq_true rfl⟩) (kw_PreS hs25 hP hD hK hN) rfl rfl hl.1 rfl (lv_room (Nat.le_of_ble_eq_true rfl)) dX11_summers_80 ⟨Nat.le_of_ble_eq_true rfl, Nat.le_of_ble_eq_true rfl⟩) (fun u H locs hq hP hD hS => ?_)
              rcases hq with ⟨rfl, h26⟩ | ⟨rfl, h27⟩
              · skip
                have hP : va_P D vwCl [(rf, .inl (y 0, 3, .inl (fun _ => 0))), (mo, .inr (11, [.ref to, .ref ke, .ref ik, .ref rf, .long 0, .long 1, .ref ha, .ref r0, .ref br, .ref bp, .ref bys, .int 0, .int 0, .int 0, .int 0, .int 0, .ref an, .ref va])), (to, .inl (y 0, 228, .inl (fun _ => 0))), (ha, .inl (y 0, 30, .inl (upd (upd f9 (23 : Int32).toNatClampNeg (f9 (23 : Int32).toNatClampNeg)) (21 : Int32).toNatClampNeg 0)))] H := hP
                have hD : va_D A [(rf, .inl (y 0, 3, .inl (fun _ => 0))), (mo, .inr (11, [.ref to, .ref ke, .ref ik, .ref rf, .long 0, .long 1, .ref ha, .ref r0, .ref br, .ref bp, .ref bys, .int 0, .int 0, .int 0, .int 0, .int 0, .ref an, .ref va])), (to, .inl (y 0, 228, .inl (fun _ => 0))), (ha, .inl (y 0, 30, .inl (upd (upd f9 (23 : Int32).toNatClampNeg (f9 (23 : Int32).toNatClampNeg)) (21 : Int32).toNatClampNeg 0)))] := hD
                refine lv_aload_n hx hb dX11_summers_83 rfl (lv_at hl 3 rfl) ?_
                refine va_get (D := D) (ci := 11) (v := .ref ha) (C := RX11) (T := TX11) (N := 18) hx hb hts i11 hown hK hP 1 rfl rfl 6 (by decide) fw6 (fun _ h9 => h9) rfl dX11_summers_84 ?_
                refine lv_bipush (v := 22) hx hb dX11_summers_87 (by decide) ?_
                refine lv_lload_n hx hb dX11_summers_89 rfl (lv_at hl 0 rfl) ?_
                refine lv_ldc2 (v := 65536) hx hb hown fw7 dX11_summers_90 ?_
                refine lv_ldiv hx hb dX11_summers_93 (by decide) ?_
                refine lv_ldc2 (v := 10) hx hb hown fw8 dX11_summers_94 ?_
                refine lv_lrem hx hb dX11_summers_97 (by decide) ?_
                refine lv_l2i (v := (((((lx9 * 1103515245) + 12345) - ((lx9 * 1103515245) + 12345) / 2147483648 * 2147483648) / 65536) - ((((lx9 * 1103515245) + 12345) - ((lx9 * 1103515245) + 12345) / 2147483648 * 2147483648) / 65536) / 10 * 10).toInt32) hx hb dX11_summers_98 (rfl) ?_
                refine va_iast hx hb hK hP hD hS 3 0 rfl rfl (by unfold vp_in; decide) dX11_summers_99 (fun H locs hP hD hS => ?_)
                have hP : va_P D vwCl [(rf, .inl (y 0, 3, .inl (fun _ => 0))), (mo, .inr (11, [.ref to, .ref ke, .ref ik, .ref rf, .long 0, .long 1, .ref ha, .ref r0, .ref br, .ref bp, .ref bys, .int 0, .int 0, .int 0, .int 0, .int 0, .ref an, .ref va])), (to, .inl (y 0, 228, .inl (fun _ => 0))), (ha, .inl (y 0, 30, .inl (upd (upd (upd f9 (23 : Int32).toNatClampNeg (f9 (23 : Int32).toNatClampNeg)) (21 : Int32).toNatClampNeg 0) (22 : Int32).toNatClampNeg ((((((lx9 * 1103515245) + 12345) - ((lx9 * 1103515245) + 12345) / 2147483648 * 2147483648) / 65536) - ((((lx9 * 1103515245) + 12345) - ((lx9 * 1103515245) + 12345) / 2147483648 * 2147483648) / 65536) / 10 * 10).toInt32))))] H := hP
                have hD : va_D A [(rf, .inl (y 0, 3, .inl (fun _ => 0))), (mo, .inr (11, [.ref to, .ref ke, .ref ik, .ref rf, .long 0, .long 1, .ref ha, .ref r0, .ref br, .ref bp, .ref bys, .int 0, .int 0, .int 0, .int 0, .int 0, .ref an, .ref va])), (to, .inl (y 0, 228, .inl (fun _ => 0))), (ha, .inl (y 0, 30, .inl (upd (upd (upd f9 (23 : Int32).toNatClampNeg (f9 (23 : Int32).toNatClampNeg)) (21 : Int32).toNatClampNeg 0) (22 : Int32).toNatClampNeg ((((((lx9 * 1103515245) + 12345) - ((lx9 * 1103515245) + 12345) / 2147483648 * 2147483648) / 65536) - ((((lx9 * 1103515245) + 12345) - ((lx9 * 1103515245) + 12345) / 2147483648 * 2147483648) / 65536) / 10 * 10).toInt32))))] := hD
                refine lv_iload hx hb dX11_summers_100 (lv_at hl 2 rfl) ?_
                refine lv_aload_n hx hb dX11_summers_102 rfl (lv_at hl 3 rfl) ?_
                refine va_get (D := D) (ci := 11) (v := .ref ha) (C := RX11) (T := TX11) (N := 18) hx hb hts i11 hown hK hP 1 rfl rfl 6 (by decide) fw6 (fun _ h9 => h9) rfl dX11_summers_103 ?_
                have hs28 : kw_Split [(rf, .inl (y 0, 3, .inl (fun _ => 0))), (mo, .inr (11, [.ref to, .ref ke, .ref ik, .ref rf, .long 0, .long 1, .ref ha, .ref r0, .ref br, .ref bp, .ref bys, .int 0, .int 0, .int 0, .int 0, .int 0, .ref an, .ref va])), (to, .inl (y 0, 228, .inl (fun _ => 0))), (ha, .inl (y 0, 30, .inl (upd (upd (upd f9 (23 : Int32).toNatClampNeg (f9 (23 : Int32).toNatClampNeg)) (21 : Int32).toNatClampNeg 0) (22 : Int32).toNatClampNeg ((((((lx9 * 1103515245) + 12345) - ((lx9 * 1103515245) + 12345) / 2147483648 * 2147483648) / 65536) - ((((lx9 * 1103515245) + 12345) - ((lx9 * 1103515245) + 12345) / 2147483648 * 2147483648) / 65536) / 10 * 10).toInt32))))] [(ha, .inl (y 0, 30, .inl (upd (upd (upd f9 (23 : Int32).toNatClampNeg (f9 (23 : Int32).toNatClampNeg)) (21 : Int32).toNatClampNeg 0) (22 : Int32).toNatClampNeg ((((((lx9 * 1103515245) + 12345) - ((lx9 * 1103515245) + 12345) / 2147483648 * 2147483648) / 65536) - ((((lx9 * 1103515245) + 12345) - ((lx9 * 1103515245) + 12345) / 2147483648 * 2147483648) / 65536) / 10 * 10).toInt32))))] [(rf, .inl (y 0, 3, .inl (fun _ => 0))), (mo, .inr (11, [.ref to, .ref ke, .ref ik, .ref rf, .long 0, .long 1, .ref ha, .ref r0, .ref br, .ref bp, .ref bys, .int 0, .int 0, .int 0, .int 0, .int 0, .ref an, .ref va])), (to, .inl (y 0, 228, .inl (fun _ => 0)))] [3] [0, 1, 2] := ⟨rfl, rfl, rfl, rfl, rfl, by decide⟩
                refine kw_go_i hs28 hP hD hS hA (va_runS (As := [.ref ha]) (rest := [.int 0]) ⟨hx, hb, hml, hown, hts⟩ (cw_goStep30 l D y ha (upd (upd (upd f9 (23 : Int32).toNatClampNeg (f9 (23 : Int32).toNatClampNeg)) (21 : Int32).toNatClampNeg 0) (22 : Int32).toNatClampNeg ((((((lx9 * 1103515245) + 12345) - ((lx9 * 1103515245) + 12345) / 2147483648 * 2147483648) / 65536) - ((((lx9 * 1103515245) + 12345) - ((lx9 * 1103515245) + 12345) / 2147483648 * 2147483648) / 65536) / 10 * 10).toInt32)) (by first | rfl | decide | assumption | (simp [upd]; done) | (unfold upd; rw [if_neg (by decide)]; assumption) | (unfold upd; rw [if_neg (by decide), if_neg (by decide)]; assumption)) _) (va_cwS 1 hts gX11_summers_X11_goStep rfl rfl rfl (by decide +kernel) ⟨Nat.le_of_ble_eq_true rfl, Nat.le_of_ble_eq_true rfl⟩) (kw_PreS hs28 hP hD hK hN) rfl rfl hl.1 rfl (lv_room (Nat.le_of_ble_eq_true rfl)) dX11_summers_106 ⟨Nat.le_of_ble_eq_true rfl, Nat.le_of_ble_eq_true rfl⟩) (fun r u H locs hq hP hD hS => ?_)
                obtain rfl := hq
                have hP : va_P D vwCl [(rf, .inl (y 0, 3, .inl (fun _ => 0))), (mo, .inr (11, [.ref to, .ref ke, .ref ik, .ref rf, .long 0, .long 1, .ref ha, .ref r0, .ref br, .ref bp, .ref bys, .int 0, .int 0, .int 0, .int 0, .int 0, .ref an, .ref va])), (to, .inl (y 0, 228, .inl (fun _ => 0))), (ha, .inl (y 0, 30, .inl (upd (upd (upd (upd f9 (23 : Int32).toNatClampNeg (f9 (23 : Int32).toNatClampNeg)) (21 : Int32).toNatClampNeg 0) (22 : Int32).toNatClampNeg ((((((lx9 * 1103515245) + 12345) - ((lx9 * 1103515245) + 12345) / 2147483648 * 2147483648) / 65536) - ((((lx9 * 1103515245) + 12345) - ((lx9 * 1103515245) + 12345) / 2147483648 * 2147483648) / 65536) / 10 * 10).toInt32)) (21 : Int32).toNatClampNeg (((upd (upd (upd f9 (23 : Int32).toNatClampNeg (f9 (23 : Int32).toNatClampNeg)) (21 : Int32).toNatClampNeg 0) (22 : Int32).toNatClampNeg ((((((lx9 * 1103515245) + 12345) - ((lx9 * 1103515245) + 12345) / 2147483648 * 2147483648) / 65536) - ((((lx9 * 1103515245) + 12345) - ((lx9 * 1103515245) + 12345) / 2147483648 * 2147483648) / 65536) / 10 * 10).toInt32)) (21 : Int32).toNatClampNeg) + 1))))] H := hP
                have hD : va_D A [(rf, .inl (y 0, 3, .inl (fun _ => 0))), (mo, .inr (11, [.ref to, .ref ke, .ref ik, .ref rf, .long 0, .long 1, .ref ha, .ref r0, .ref br, .ref bp, .ref bys, .int 0, .int 0, .int 0, .int 0, .int 0, .ref an, .ref va])), (to, .inl (y 0, 228, .inl (fun _ => 0))), (ha, .inl (y 0, 30, .inl (upd (upd (upd (upd f9 (23 : Int32).toNatClampNeg (f9 (23 : Int32).toNatClampNeg)) (21 : Int32).toNatClampNeg 0) (22 : Int32).toNatClampNeg ((((((lx9 * 1103515245) + 12345) - ((lx9 * 1103515245) + 12345) / 2147483648 * 2147483648) / 65536) - ((((lx9 * 1103515245) + 12345) - ((lx9 * 1103515245) + 12345) / 2147483648 * 2147483648) / 65536) / 10 * 10).toInt32)) (21 : Int32).toNatClampNeg (((upd (upd (upd f9 (23 : Int32).toNatClampNeg (f9 (23 : Int32).toNatClampNeg)) (21 : Int32).toNatClampNeg 0) (22 : Int32).toNatClampNeg ((((((lx9 * 1103515245) + 12345) - ((lx9 * 1103515245) + 12345) / 2147483648 * 2147483648) / 65536) - ((((lx9 * 1103515245) + 12345) - ((lx9 * 1103515245) + 12345) / 2147483648 * 2147483648) / 65536) / 10 * 10).toInt32)) (21 : Int32).toNatClampNeg) + 1))))] := hD
                refine lv_iadd hx hb dX11_summers_109 ?_
                refine lv_topi (fun z29 hz29 => ?_)
                obtain rfl : z29 = 0 := hz29.trans (by first | rfl | decide | (simp [upd]; done))
                refine lv_istore (lv' := [(5, .int 0), (3, .long (((lx9 * 1103515245) + 12345) - ((lx9 * 1103515245) + 12345) / 2147483648 * 2147483648)), (6, .int (nI j9)), (0, .ref mo), (1, .int x), (2, .int (nI NN))]) hx hb dX11_summers_110 hl (by decide) rfl (fun ls hl => ?_)
                refine lv_iinc (v := ((nI j9) + 1)) (lv' := [(6, .int ((nI j9) + 1)), (5, .int 0), (3, .long (((lx9 * 1103515245) + 12345) - ((lx9 * 1103515245) + 12345) / 2147483648 * 2147483648)), (0, .ref mo), (1, .int x), (2, .int (nI NN))]) hx hb dX11_summers_112 hl (k := 2) rfl (rfl) (by decide) rfl (fun ls hl => ?_)
                refine lv_goto (tgt := 44) hx hb dX11_summers_115 (by decide) ?_
                have hlt9 : j9 < NN := kw_nlt (nI_toInt (by omega)) (by omega) h20
                rw [nI_1 j9] at hl
                exact ih (j9 + 1) (((lx9 * 1103515245) + 12345) - ((lx9 * 1103515245) + 12345) / 2147483648 * 2147483648) (upd (upd (upd (upd f9 (23 : Int32).toNatClampNeg (f9 (23 : Int32).toNatClampNeg)) (21 : Int32).toNatClampNeg 0) (22 : Int32).toNatClampNeg ((((((lx9 * 1103515245) + 12345) - ((lx9 * 1103515245) + 12345) / 2147483648 * 2147483648) / 65536) - ((((lx9 * 1103515245) + 12345) - ((lx9 * 1103515245) + 12345) / 2147483648 * 2147483648) / 65536) / 10 * 10).toInt32)) (21 : Int32).toNatClampNeg (((upd (upd (upd f9 (23 : Int32).toNatClampNeg (f9 (23 : Int32).toNatClampNeg)) (21 : Int32).toNatClampNeg 0) (22 : Int32).toNatClampNeg ((((((lx9 * 1103515245) + 12345) - ((lx9 * 1103515245) + 12345) / 2147483648 * 2147483648) / 65536) - ((((lx9 * 1103515245) + 12345) - ((lx9 * 1103515245) + 12345) / 2147483648 * 2147483648) / 65536) / 10 * 10).toInt32)) (21 : Int32).toNatClampNeg) + 1)) H locs ls (by omega) (by omega) (by first | rfl | decide | assumption | (simp [upd]; done) | (unfold upd; rw [if_neg (by decide)]; assumption) | (unfold upd; rw [if_neg (by decide), if_neg (by decide)]; assumption) | (unfold upd; rw [if_neg (by decide), if_neg (by decide), if_neg (by decide)]; assumption) | (unfold upd; rw [if_neg (by decide), if_neg (by decide), if_neg (by decide), if_neg (by decide)]; assumption) | (unfold upd; rw [if_neg (by decide), if_neg (by decide), if_neg (by decide), if_neg (by decide), if_neg (by decide)]; assumption)) (by first | rfl | decide | assumption | (simp [upd]; done) | (unfold upd; rw [if_neg (by decide)]; assumption) | (unfold upd; rw [if_neg (by decide), if_neg (by decide)]; assumption) | (unfold upd; rw [if_neg (by decide), if_neg (by decide), if_neg (by decide)]; assumption) | (unfold upd; rw [if_neg (by decide), if_neg (by decide), if_neg (by decide), if_neg (by decide)]; assumption) | (unfold upd; rw [if_neg (by decide), if_neg (by decide), if_neg (by decide), if_neg (by decide), if_neg (by decide)]; assumption)) (hP.sub [0, 1, 2, 3] rfl) (hD.sub [0, 1, 2, 3] (by decide) rfl) hS (lv_sub hl [0, 1, 2, 3, 4, 5] rfl)
              · skip
                have hP : va_P D vwCl [(rf, .inl (y 0, 3, .inl (fun _ => 0))), (mo, .inr (11, [.ref to, .ref ke, .ref ik, .ref rf, .long 0, .long 1, .ref ha, .ref r0, .ref br, .ref bp, .ref bys, .int 0, .int 0, .int 0, .int 0, .int 0, .ref an, .ref va])), (to, .inl (y 0, 228, .inl (fun _ => 0))), (ha, .inl (y 0, 30, .inl (upd (upd f9 (23 : Int32).toNatClampNeg ((f9 (23 : Int32).toNatClampNeg) + 1)) (21 : Int32).toNatClampNeg 0)))] H := hP
                have hD : va_D A [(rf, .inl (y 0, 3, .inl (fun _ => 0))), (mo, .inr (11, [.ref to, .ref ke, .ref ik, .ref rf, .long 0, .long 1, .ref ha, .ref r0, .ref br, .ref bp, .ref bys, .int 0, .int 0, .int 0, .int 0, .int 0, .ref an, .ref va])), (to, .inl (y 0, 228, .inl (fun _ => 0))), (ha, .inl (y 0, 30, .inl (upd (upd f9 (23 : Int32).toNatClampNeg ((f9 (23 : Int32).toNatClampNeg) + 1)) (21 : Int32).toNatClampNeg 0)))] := hD
                refine lv_aload_n hx hb dX11_summers_83 rfl (lv_at hl 3 rfl) ?_
                refine va_get (D := D) (ci := 11) (v := .ref ha) (C := RX11) (T := TX11) (N := 18) hx hb hts i11 hown hK hP 1 rfl rfl 6 (by decide) fw6 (fun _ h9 => h9) rfl dX11_summers_84 ?_
                refine lv_bipush (v := 22) hx hb dX11_summers_87 (by decide) ?_
                refine lv_lload_n hx hb dX11_summers_89 rfl (lv_at hl 0 rfl) ?_
                refine lv_ldc2 (v := 65536) hx hb hown fw7 dX11_summers_90 ?_
                refine lv_ldiv hx hb dX11_summers_93 (by decide) ?_
                refine lv_ldc2 (v := 10) hx hb hown fw8 dX11_summers_94 ?_
                refine lv_lrem hx hb dX11_summers_97 (by decide) ?_
                refine lv_l2i (v := (((((lx9 * 1103515245) + 12345) - ((lx9 * 1103515245) + 12345) / 2147483648 * 2147483648) / 65536) - ((((lx9 * 1103515245) + 12345) - ((lx9 * 1103515245) + 12345) / 2147483648 * 2147483648) / 65536) / 10 * 10).toInt32) hx hb dX11_summers_98 (rfl) ?_
                refine va_iast hx hb hK hP hD hS 3 0 rfl rfl (by unfold vp_in; decide) dX11_summers_99 (fun H locs hP hD hS => ?_)
                have hP : va_P D vwCl [(rf, .inl (y 0, 3, .inl (fun _ => 0))), (mo, .inr (11, [.ref to, .ref ke, .ref ik, .ref rf, .long 0, .long 1, .ref ha, .ref r0, .ref br, .ref bp, .ref bys, .int 0, .int 0, .int 0, .int 0, .int 0, .ref an, .ref va])), (to, .inl (y 0, 228, .inl (fun _ => 0))), (ha, .inl (y 0, 30, .inl (upd (upd (upd f9 (23 : Int32).toNatClampNeg ((f9 (23 : Int32).toNatClampNeg) + 1)) (21 : Int32).toNatClampNeg 0) (22 : Int32).toNatClampNeg ((((((lx9 * 1103515245) + 12345) - ((lx9 * 1103515245) + 12345) / 2147483648 * 2147483648) / 65536) - ((((lx9 * 1103515245) + 12345) - ((lx9 * 1103515245) + 12345) / 2147483648 * 2147483648) / 65536) / 10 * 10).toInt32))))] H := hP
                have hD : va_D A [(rf, .inl (y 0, 3, .inl (fun _ => 0))), (mo, .inr (11, [.ref to, .ref ke, .ref ik, .ref rf, .long 0, .long 1, .ref ha, .ref r0, .ref br, .ref bp, .ref bys, .int 0, .int 0, .int 0, .int 0, .int 0, .ref an, .ref va])), (to, .inl (y 0, 228, .inl (fun _ => 0))), (ha, .inl (y 0, 30, .inl (upd (upd (upd f9 (23 : Int32).toNatClampNeg ((f9 (23 : Int32).toNatClampNeg) + 1)) (21 : Int32).toNatClampNeg 0) (22 : Int32).toNatClampNeg ((((((lx9 * 1103515245) + 12345) - ((lx9 * 1103515245) + 12345) / 2147483648 * 2147483648) / 65536) - ((((lx9 * 1103515245) + 12345) - ((lx9 * 1103515245) + 12345) / 2147483648 * 2147483648) / 65536) / 10 * 10).toInt32))))] := hD
                refine lv_iload hx hb dX11_summers_100 (lv_at hl 2 rfl) ?_
                refine lv_aload_n hx hb dX11_summers_102 rfl (lv_at hl 3 rfl) ?_
                refine va_get (D := D) (ci := 11) (v := .ref ha) (C := RX11) (T := TX11) (N := 18) hx hb hts i11 hown hK hP 1 rfl rfl 6 (by decide) fw6 (fun _ h9 => h9) rfl dX11_summers_103 ?_
                have hs30 : kw_Split [(rf, .inl (y 0, 3, .inl (fun _ => 0))), (mo, .inr (11, [.ref to, .ref ke, .ref ik, .ref rf, .long 0, .long 1, .ref ha, .ref r0, .ref br, .ref bp, .ref bys, .int 0, .int 0, .int 0, .int 0, .int 0, .ref an, .ref va])), (to, .inl (y 0, 228, .inl (fun _ => 0))), (ha, .inl (y 0, 30, .inl (upd (upd (upd f9 (23 : Int32).toNatClampNeg ((f9 (23 : Int32).toNatClampNeg) + 1)) (21 : Int32).toNatClampNeg 0) (22 : Int32).toNatClampNeg ((((((lx9 * 1103515245) + 12345) - ((lx9 * 1103515245) + 12345) / 2147483648 * 2147483648) / 65536) - ((((lx9 * 1103515245) + 12345) - ((lx9 * 1103515245) + 12345) / 2147483648 * 2147483648) / 65536) / 10 * 10).toInt32))))] [(ha, .inl (y 0, 30, .inl (upd (upd (upd f9 (23 : Int32).toNatClampNeg ((f9 (23 : Int32).toNatClampNeg) + 1)) (21 : Int32).toNatClampNeg 0) (22 : Int32).toNatClampNeg ((((((lx9 * 1103515245) + 12345) - ((lx9 * 1103515245) + 12345) / 2147483648 * 2147483648) / 65536) - ((((lx9 * 1103515245) + 12345) - ((lx9 * 1103515245) + 12345) / 2147483648 * 2147483648) / 65536) / 10 * 10).toInt32))))] [(rf, .inl (y 0, 3, .inl (fun _ => 0))), (mo, .inr (11, [.ref to, .ref ke, .ref ik, .ref rf, .long 0, .long 1, .ref ha, .ref r0, .ref br, .ref bp, .ref bys, .int 0, .int 0, .int 0, .int 0, .int 0, .ref an, .ref va])), (to, .inl (y 0, 228, .inl (fun _ => 0)))] [3] [0, 1, 2] := ⟨rfl, rfl, rfl, rfl, rfl, by decide⟩
                refine kw_go_i hs30 hP hD hS hA (va_runS (As := [.ref ha]) (rest := [.int 0]) ⟨hx, hb, hml, hown, hts⟩ (cw_goStep30 l D y ha (upd (upd (upd f9 (23 : Int32).toNatClampNeg ((f9 (23 : Int32).toNatClampNeg) + 1)) (21 : Int32).toNatClampNeg 0) (22 : Int32).toNatClampNeg ((((((lx9 * 1103515245) + 12345) - ((lx9 * 1103515245) + 12345) / 2147483648 * 2147483648) / 65536) - ((((lx9 * 1103515245) + 12345) - ((lx9 * 1103515245) + 12345) / 2147483648 * 2147483648) / 65536) / 10 * 10).toInt32)) (by first | rfl | decide | assumption | (simp [upd]; done) | (unfold upd; rw [if_neg (by decide)]; assumption) | (unfold upd; rw [if_neg (by decide), if_neg (by decide)]; assumption)) _) (va_cwS 1 hts gX11_summers_X11_goStep rfl rfl rfl (by decide +kernel) ⟨Nat.le_of_ble_eq_true rfl, Nat.le_of_ble_eq_true rfl⟩) (kw_PreS hs30 hP hD hK hN) rfl rfl hl.1 rfl (lv_room (Nat.le_of_ble_eq_true rfl)) dX11_summers_106 ⟨Nat.le_of_ble_eq_true rfl, Nat.le_of_ble_eq_true rfl⟩) (fun r u H locs hq hP hD hS => ?_)
                obtain rfl := hq
                have hP : va_P D vwCl [(rf, .inl (y 0, 3, .inl (fun _ => 0))), (mo, .inr (11, [.ref to, .ref ke, .ref ik, .ref rf, .long 0, .long 1, .ref ha, .ref r0, .ref br, .ref bp, .ref bys, .int 0, .int 0, .int 0, .int 0, .int 0, .ref an, .ref va])), (to, .inl (y 0, 228, .inl (fun _ => 0))), (ha, .inl (y 0, 30, .inl (upd (upd (upd (upd f9 (23 : Int32).toNatClampNeg ((f9 (23 : Int32).toNatClampNeg) + 1)) (21 : Int32).toNatClampNeg 0) (22 : Int32).toNatClampNeg ((((((lx9 * 1103515245) + 12345) - ((lx9 * 1103515245) + 12345) / 2147483648 * 2147483648) / 65536) - ((((lx9 * 1103515245) + 12345) - ((lx9 * 1103515245) + 12345) / 2147483648 * 2147483648) / 65536) / 10 * 10).toInt32)) (21 : Int32).toNatClampNeg (((upd (upd (upd f9 (23 : Int32).toNatClampNeg ((f9 (23 : Int32).toNatClampNeg) + 1)) (21 : Int32).toNatClampNeg 0) (22 : Int32).toNatClampNeg ((((((lx9 * 1103515245) + 12345) - ((lx9 * 1103515245) + 12345) / 2147483648 * 2147483648) / 65536) - ((((lx9 * 1103515245) + 12345) - ((lx9 * 1103515245) + 12345) / 2147483648 * 2147483648) / 65536) / 10 * 10).toInt32)) (21 : Int32).toNatClampNeg) + 1))))] H := hP
                have hD : va_D A [(rf, .inl (y 0, 3, .inl (fun _ => 0))), (mo, .inr (11, [.ref to, .ref ke, .ref ik, .ref rf, .long 0, .long 1, .ref ha, .ref r0, .ref br, .ref bp, .ref bys, .int 0, .int 0, .int 0, .int 0, .int 0, .ref an, .ref va])), (to, .inl (y 0, 228, .inl (fun _ => 0))), (ha, .inl (y 0, 30, .inl (upd (upd (upd (upd f9 (23 : Int32).toNatClampNeg ((f9 (23 : Int32).toNatClampNeg) + 1)) (21 : Int32).toNatClampNeg 0) (22 : Int32).toNatClampNeg ((((((lx9 * 1103515245) + 12345) - ((lx9 * 1103515245) + 12345) / 2147483648 * 2147483648) / 65536) - ((((lx9 * 1103515245) + 12345) - ((lx9 * 1103515245) + 12345) / 2147483648 * 2147483648) / 65536) / 10 * 10).toInt32)) (21 : Int32).toNatClampNeg (((upd (upd (upd f9 (23 : Int32).toNatClampNeg ((f9 (23 : Int32).toNatClampNeg) + 1)) (21 : Int32).toNatClampNeg 0) (22 : Int32).toNatClampNeg ((((((lx9 * 1103515245) + 12345) - ((lx9 * 1103515245) + 12345) / 2147483648 * 2147483648) / 65536) - ((((lx9 * 1103515245) + 12345) - ((lx9 * 1103515245) + 12345) / 2147483648 * 2147483648) / 65536) / 10 * 10).toInt32)) (21 : Int32).toNatClampNeg) + 1))))] := hD
                refine lv_iadd hx hb dX11_summers_109 ?_
                refine lv_topi (fun z31 hz31 => ?_)
                obtain rfl : z31 = 0 := hz31.trans (by first | rfl | decide | (simp [upd]; done))
                refine lv_istore (lv' := [(5, .int 0), (3, .long (((lx9 * 1103515245) + 12345) - ((lx9 * 1103515245) + 12345) / 2147483648 * 2147483648)), (6, .int (nI j9)), (0, .ref mo), (1, .int x), (2, .int (nI NN))]) hx hb dX11_summers_110 hl (by decide) rfl (fun ls hl => ?_)
                refine lv_iinc (v := ((nI j9) + 1)) (lv' := [(6, .int ((nI j9) + 1)), (5, .int 0), (3, .long (((lx9 * 1103515245) + 12345) - ((lx9 * 1103515245) + 12345) / 2147483648 * 2147483648)), (0, .ref mo), (1, .int x), (2, .int (nI NN))]) hx hb dX11_summers_112 hl (k := 2) rfl (rfl) (by decide) rfl (fun ls hl => ?_)
                refine lv_goto (tgt := 44) hx hb dX11_summers_115 (by decide) ?_
                have hlt9 : j9 < NN := kw_nlt (nI_toInt (by omega)) (by omega) h20
                rw [nI_1 j9] at hl
                exact ih (j9 + 1) (((lx9 * 1103515245) + 12345) - ((lx9 * 1103515245) + 12345) / 2147483648 * 2147483648) (upd (upd (upd (upd f9 (23 : Int32).toNatClampNeg ((f9 (23 : Int32).toNatClampNeg) + 1)) (21 : Int32).toNatClampNeg 0) (22 : Int32).toNatClampNeg ((((((lx9 * 1103515245) + 12345) - ((lx9 * 1103515245) + 12345) / 2147483648 * 2147483648) / 65536) - ((((lx9 * 1103515245) + 12345) - ((lx9 * 1103515245) + 12345) / 2147483648 * 2147483648) / 65536) / 10 * 10).toInt32)) (21 : Int32).toNatClampNeg (((upd (upd (upd f9 (23 : Int32).toNatClampNeg ((f9 (23 : Int32).toNatClampNeg) + 1)) (21 : Int32).toNatClampNeg 0) (22 : Int32).toNatClampNeg ((((((lx9 * 1103515245) + 12345) - ((lx9 * 1103515245) + 12345) / 2147483648 * 2147483648) / 65536) - ((((lx9 * 1103515245) + 12345) - ((lx9 * 1103515245) + 12345) / 2147483648 * 2147483648) / 65536) / 10 * 10).toInt32)) (21 : Int32).toNatClampNeg) + 1)) H locs ls (by omega) (by omega) (by first | rfl | decide | assumption | (simp [upd]; done) | (unfold upd; rw [if_neg (by decide)]; assumption) | (unfold upd; rw [if_neg (by decide), if_neg (by decide)]; assumption) | (unfold upd; rw [if_neg (by decide), if_neg (by decide), if_neg (by decide)]; assumption) | (unfold upd; rw [if_neg (by decide), if_neg (by decide), if_neg (by decide), if_neg (by decide)]; assumption) | (unfold upd; rw [if_neg (by decide), if_neg (by decide), if_neg (by decide), if_neg (by decide), if_neg (by decide)]; assumption)) (by first | rfl | decide | assumption | (simp [upd]; done) | (unfold upd; rw [if_neg (by decide)]; assumption) | (unfold upd; rw [if_neg (by decide), if_neg (by decide)]; assumption) | (unfold upd; rw [if_neg (by decide), if_neg (by decide), if_neg (by decide)]; assumption) | (unfold upd; rw [if_neg (by decide), if_neg (by decide), if_neg (by decide), if_neg (by decide)]; assumption) | (unfold upd; rw [if_neg (by decide), if_neg (by decide), if_neg (by decide), if_neg (by decide), if_neg (by decide)]; assumption)) (hP.sub [0, 1, 2, 3] rfl) (hD.sub [0, 1, 2, 3] (by decide) rfl) hS (lv_sub hl [0, 1, 2, 3, 4, 5] rfl)
      exact lp18 (NN + 1) 0 x.toInt64 (fun _ => 0) _ _ _ (Nat.zero_le _) (by omega) (by first | rfl | decide | assumption | (simp [upd]; done) | (unfold upd; rw [if_neg (by decide)]; assumption) | (unfold upd; rw [if_neg (by decide), if_neg (by decide)]; assumption) | (unfold upd; rw [if_neg (by decide), if_neg (by decide), if_neg (by decide)]; assumption) | (unfold upd; rw [if_neg (by decide), if_neg (by decide), if_neg (by decide), if_neg (by decide)]; assumption) | (unfold upd; rw [if_neg (by decide), if_neg (by decide), if_neg (by decide), if_neg (by decide), if_neg (by decide)]; assumption)) (by first | rfl | decide | assumption | (simp [upd]; done) | (unfold upd; rw [if_neg (by decide)]; assumption) | (unfold upd; rw [if_neg (by decide), if_neg (by decide)]; assumption) | (unfold upd; rw [if_neg (by decide), if_neg (by decide), if_neg (by decide)]; assumption) | (unfold upd; rw [if_neg (by decide), if_neg (by decide), if_neg (by decide), if_neg (by decide)]; assumption) | (unfold upd; rw [if_neg (by decide), if_neg (by decide), if_neg (by decide), if_neg (by decide), if_neg (by decide)]; assumption)) hP hD hS (lv_sub hl [0, 1, 2, 3, 4, 5] rfl)
