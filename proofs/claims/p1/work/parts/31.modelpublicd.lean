set_option maxHeartbeats 4000000 in
set_option maxRecDepth 100000 in
theorem cq_which (l : Launch) (D : va_G) (y : Nat → ClassId) (mo : Nat) (to : Nat) (ke : Nat) (ik : Nat) (rf : Nat) (ha : Nat) (r0 : Nat) (br : Nat) (bp : Nat) (bys : Nat) (an : Nat) (va : Nat) (t : Int32) : kw_Mi l yX11_which wsX11_which ({ frames := 3, cells := 0, slots := 0, locals := 85 }) D y [.ref mo, .int t] [(mo, .inr (11, [.ref to, .ref ke, .ref ik, .ref rf, .long 0, .long 1, .ref ha, .ref r0, .ref br, .ref bp, .ref bys, .int 0, .int 0, .int 0, .int 0, .int 0, .ref an, .ref va])), (rf, .inl (y 0, 3, .inl (fun _ => 0))), (to, .inl (y 0, 228, .inl (fun _ => 0)))] (fun (r : Int32) (u : Unit) => r = (sp_which t)) (fun _ => []) 0 0 := by
  refine kw_Mi.of (cc := cX11_which) (maxL := 4) (ret := (some .int)) (by decide) rfl ?_
  intro pZ eZ s mZ beZ meZ cZ A hE
  obtain ⟨hx, hb, hr, hml, hts, hown, hlocks, hin, hA, hP, hD, hK, hN⟩ := hE
  have hS : va_S A s.heap s.heap [] := va_S.rf
  have hl := lv_entry ([.ref mo, .int t]) (n := 4) (Nat.le_of_ble_eq_true rfl)
  rw [lg_entry_eq]
  generalize (lg_sl ([.ref mo, .int t]) ++ List.replicate (4 - (lg_sl ([.ref mo, .int t])).length) Slot.unset).toArray = ls at hl ⊢
  have hl : lv_has ls 4 [(0, .ref mo), (1, .int t)] := hl
  refine lv_iload_n hx hb dX11_which_0 rfl (lv_at hl 1 rfl) ?_
  have hs1 : kw_Split [(mo, .inr (11, [.ref to, .ref ke, .ref ik, .ref rf, .long 0, .long 1, .ref ha, .ref r0, .ref br, .ref bp, .ref bys, .int 0, .int 0, .int 0, .int 0, .int 0, .ref an, .ref va])), (rf, .inl (y 0, 3, .inl (fun _ => 0))), (to, .inl (y 0, 228, .inl (fun _ => 0)))] [] [(mo, .inr (11, [.ref to, .ref ke, .ref ik, .ref rf, .long 0, .long 1, .ref ha, .ref r0, .ref br, .ref bp, .ref bys, .int 0, .int 0, .int 0, .int 0, .int 0, .ref an, .ref va])), (rf, .inl (y 0, 3, .inl (fun _ => 0))), (to, .inl (y 0, 228, .inl (fun _ => 0)))] [] [0, 1, 2] := ⟨rfl, rfl, rfl, rfl, rfl, by decide⟩
  refine kw_go_i hs1 hP hD hS hA (va_runS (As := [.int t]) (rest := []) ⟨hx, hb, hml, hown, hts⟩ (cw_isStep l D y t  _) (va_cwS 1 hts gX11_which_X11_isStep rfl rfl rfl (by decide +kernel) ⟨Nat.le_of_ble_eq_true rfl, Nat.le_of_ble_eq_true rfl⟩) (kw_PreS hs1 hP hD hK hN) rfl rfl hl.1 rfl (lv_room (Nat.le_of_ble_eq_true rfl)) dX11_which_1 ⟨Nat.le_of_ble_eq_true rfl, Nat.le_of_ble_eq_true rfl⟩) (fun r u H locs hq hP hD hS => ?_)
  rcases hq with ⟨h2, rfl⟩ | ⟨h3, h4, rfl⟩ | ⟨h5, h6, rfl⟩
  · skip
    have hP : va_P D vwCl [(mo, .inr (11, [.ref to, .ref ke, .ref ik, .ref rf, .long 0, .long 1, .ref ha, .ref r0, .ref br, .ref bp, .ref bys, .int 0, .int 0, .int 0, .int 0, .int 0, .ref an, .ref va])), (rf, .inl (y 0, 3, .inl (fun _ => 0))), (to, .inl (y 0, 228, .inl (fun _ => 0)))] H := hP
    have hD : va_D A [(mo, .inr (11, [.ref to, .ref ke, .ref ik, .ref rf, .long 0, .long 1, .ref ha, .ref r0, .ref br, .ref bp, .ref bys, .int 0, .int 0, .int 0, .int 0, .int 0, .ref an, .ref va])), (rf, .inl (y 0, 3, .inl (fun _ => 0))), (to, .inl (y 0, 228, .inl (fun _ => 0)))] := hD
    refine lv_if_ne (tgt := 14) hx hb dX11_which_4 (by decide) (fun h9 => absurd h9 (by decide)) (fun _ => ?_)
    refine lv_aload_n hx hb dX11_which_7 rfl (lv_at hl 0 rfl) ?_
    refine lv_bipush (v := (-2)) hx hb dX11_which_8 (by decide) ?_
    have hs7 : kw_Split [(mo, .inr (11, [.ref to, .ref ke, .ref ik, .ref rf, .long 0, .long 1, .ref ha, .ref r0, .ref br, .ref bp, .ref bys, .int 0, .int 0, .int 0, .int 0, .int 0, .ref an, .ref va])), (rf, .inl (y 0, 3, .inl (fun _ => 0))), (to, .inl (y 0, 228, .inl (fun _ => 0)))] [(mo, .inr (11, [.ref to, .ref ke, .ref ik, .ref rf, .long 0, .long 1, .ref ha, .ref r0, .ref br, .ref bp, .ref bys, .int 0, .int 0, .int 0, .int 0, .int 0, .ref an, .ref va])), (rf, .inl (y 0, 3, .inl (fun _ => 0)))] [(to, .inl (y 0, 228, .inl (fun _ => 0)))] [0, 1] [2] := ⟨rfl, rfl, rfl, rfl, rfl, by decide⟩
    refine kw_go_i hs7 hP hD hS hA (va_runV (As := [.int (-2)]) (rest := []) ⟨hx, hb, hml, hown, hts⟩ (cw_bad l D y mo to ke ik rf ha r0 br bp bys an va (fun _ => 0) (-2)  _) (cwV 1 hts gX11_which_X11_bad rfl rfl rfl (by decide +kernel) ⟨Nat.le_of_ble_eq_true rfl, Nat.le_of_ble_eq_true rfl⟩) (kw_PreV (ci := 11) (q0 := 0) hs7 hP hD hK hN rfl rfl) rfl rfl hl.1 rfl (lv_room (Nat.le_of_ble_eq_true rfl)) dX11_which_10 ⟨Nat.le_of_ble_eq_true rfl, Nat.le_of_ble_eq_true rfl⟩) (fun r u H locs hq hP hD hS => ?_)
    obtain rfl := hq
    have hP : va_P D vwCl [(to, .inl (y 0, 228, .inl (fun _ => 0)))] H := hP
    have hD : va_D A [(to, .inl (y 0, 228, .inl (fun _ => 0)))] := hD
    have hsp : ((-2) : Int32) = (sp_which t) := by
      have gZ1 := Int64.lt_iff_toInt_lt.mp h2
      have lZ1 : (t.toInt64).toInt = t.toInt := Int32.toInt_toInt64 _
      have lZ2 : (0 : Int64).toInt = 0 := by decide
      unfold sp_which; first | rfl | decide | exact (if_neg (by omega)).symm | exact (if_pos (by omega)).symm | exact ((if_pos (by omega)).trans (if_neg (by omega))).symm | exact ((if_pos (by omega)).trans (if_pos (by omega))).symm | exact ((if_neg (by omega)).trans (if_pos (by omega))).symm | exact ((if_neg (by omega)).trans (if_neg (by omega))).symm
    exact W.iret (v := (-2)) hx hb hr (fun tZ ht hW => ⟨⟨(-2), (), rfl, hsp, by rw [ht]; exact hP.sub [] rfl, hD.sub [] (by decide) rfl⟩, hS.F ht⟩) hS.2.2 dX11_which_13
  · skip
    have hP : va_P D vwCl [(mo, .inr (11, [.ref to, .ref ke, .ref ik, .ref rf, .long 0, .long 1, .ref ha, .ref r0, .ref br, .ref bp, .ref bys, .int 0, .int 0, .int 0, .int 0, .int 0, .ref an, .ref va])), (rf, .inl (y 0, 3, .inl (fun _ => 0))), (to, .inl (y 0, 228, .inl (fun _ => 0)))] H := hP
    have hD : va_D A [(mo, .inr (11, [.ref to, .ref ke, .ref ik, .ref rf, .long 0, .long 1, .ref ha, .ref r0, .ref br, .ref bp, .ref bys, .int 0, .int 0, .int 0, .int 0, .int 0, .ref an, .ref va])), (rf, .inl (y 0, 3, .inl (fun _ => 0))), (to, .inl (y 0, 228, .inl (fun _ => 0)))] := hD
    refine lv_if_ne (tgt := 14) hx hb dX11_which_4 (by decide) (fun h9 => absurd h9 (by decide)) (fun _ => ?_)
    refine lv_aload_n hx hb dX11_which_7 rfl (lv_at hl 0 rfl) ?_
    refine lv_bipush (v := (-2)) hx hb dX11_which_8 (by decide) ?_
    have hs8 : kw_Split [(mo, .inr (11, [.ref to, .ref ke, .ref ik, .ref rf, .long 0, .long 1, .ref ha, .ref r0, .ref br, .ref bp, .ref bys, .int 0, .int 0, .int 0, .int 0, .int 0, .ref an, .ref va])), (rf, .inl (y 0, 3, .inl (fun _ => 0))), (to, .inl (y 0, 228, .inl (fun _ => 0)))] [(mo, .inr (11, [.ref to, .ref ke, .ref ik, .ref rf, .long 0, .long 1, .ref ha, .ref r0, .ref br, .ref bp, .ref bys, .int 0, .int 0, .int 0, .int 0, .int 0, .ref an, .ref va])), (rf, .inl (y 0, 3, .inl (fun _ => 0)))] [(to, .inl (y 0, 228, .inl (fun _ => 0)))] [0, 1] [2] := ⟨rfl, rfl, rfl, rfl, rfl, by decide⟩
    refine kw_go_i hs8 hP hD hS hA (va_runV (As := [.int (-2)]) (rest := []) ⟨hx, hb, hml, hown, hts⟩ (cw_bad l D y mo to ke ik rf ha r0 br bp bys an va (fun _ => 0) (-2)  _) (cwV 1 hts gX11_which_X11_bad rfl rfl rfl (by decide +kernel) ⟨Nat.le_of_ble_eq_true rfl, Nat.le_of_ble_eq_true rfl⟩) (kw_PreV (ci := 11) (q0 := 0) hs8 hP hD hK hN rfl rfl) rfl rfl hl.1 rfl (lv_room (Nat.le_of_ble_eq_true rfl)) dX11_which_10 ⟨Nat.le_of_ble_eq_true rfl, Nat.le_of_ble_eq_true rfl⟩) (fun r u H locs hq hP hD hS => ?_)
    obtain rfl := hq
    have hP : va_P D vwCl [(to, .inl (y 0, 228, .inl (fun _ => 0)))] H := hP
    have hD : va_D A [(to, .inl (y 0, 228, .inl (fun _ => 0)))] := hD
    have hsp : ((-2) : Int32) = (sp_which t) := by
      have gZ1 : ¬ (t.toInt64 : Int64).toInt < (0 : Int64).toInt := fun q => h3 (Int64.lt_iff_toInt_lt.mpr q)
      have lZ1 : (t.toInt64).toInt = t.toInt := Int32.toInt_toInt64 _
      have lZ2 : (0 : Int64).toInt = 0 := by decide
      have gZ2 := Int64.lt_iff_toInt_lt.mp h4
      have lZ3 : (11 : Int64).toInt = 11 := by decide
      unfold sp_which; first | rfl | decide | exact (if_neg (by omega)).symm | exact (if_pos (by omega)).symm | exact ((if_pos (by omega)).trans (if_neg (by omega))).symm | exact ((if_pos (by omega)).trans (if_pos (by omega))).symm | exact ((if_neg (by omega)).trans (if_pos (by omega))).symm | exact ((if_neg (by omega)).trans (if_neg (by omega))).symm
    exact W.iret (v := (-2)) hx hb hr (fun tZ ht hW => ⟨⟨(-2), (), rfl, hsp, by rw [ht]; exact hP.sub [] rfl, hD.sub [] (by decide) rfl⟩, hS.F ht⟩) hS.2.2 dX11_which_13
  · skip
    have hP : va_P D vwCl [(mo, .inr (11, [.ref to, .ref ke, .ref ik, .ref rf, .long 0, .long 1, .ref ha, .ref r0, .ref br, .ref bp, .ref bys, .int 0, .int 0, .int 0, .int 0, .int 0, .ref an, .ref va])), (rf, .inl (y 0, 3, .inl (fun _ => 0))), (to, .inl (y 0, 228, .inl (fun _ => 0)))] H := hP
    have hD : va_D A [(mo, .inr (11, [.ref to, .ref ke, .ref ik, .ref rf, .long 0, .long 1, .ref ha, .ref r0, .ref br, .ref bp, .ref bys, .int 0, .int 0, .int 0, .int 0, .int 0, .ref an, .ref va])), (rf, .inl (y 0, 3, .inl (fun _ => 0))), (to, .inl (y 0, 228, .inl (fun _ => 0)))] := hD
    refine lv_if_ne (tgt := 14) hx hb dX11_which_4 (by decide) (fun _ => ?_) (fun h9 => absurd h9 (by decide))
    refine lv_iconst (v := (-1)) hx hb dX11_which_14 (by decide) ?_
    refine lv_istore_n (lv' := [(2, .int (-1)), (0, .ref mo), (1, .int t)]) hx hb dX11_which_15 rfl hl (by decide) rfl (fun ls hl => ?_)
    refine lv_iconst (v := 0) hx hb dX11_which_16 (by decide) ?_
    refine lv_istore_n (lv' := [(3, .int 0), (2, .int (-1)), (0, .ref mo), (1, .int t)]) hx hb dX11_which_17 rfl hl (by decide) rfl (fun ls hl => ?_)
    refine lv_iload_n hx hb dX11_which_18 rfl (lv_at hl 0 rfl) ?_
    refine lv_aload_n hx hb dX11_which_19 rfl (lv_at hl 2 rfl) ?_
    have hs9 : kw_Split [(mo, .inr (11, [.ref to, .ref ke, .ref ik, .ref rf, .long 0, .long 1, .ref ha, .ref r0, .ref br, .ref bp, .ref bys, .int 0, .int 0, .int 0, .int 0, .int 0, .ref an, .ref va])), (rf, .inl (y 0, 3, .inl (fun _ => 0))), (to, .inl (y 0, 228, .inl (fun _ => 0)))] [(mo, .inr (11, [.ref to, .ref ke, .ref ik, .ref rf, .long 0, .long 1, .ref ha, .ref r0, .ref br, .ref bp, .ref bys, .int 0, .int 0, .int 0, .int 0, .int 0, .ref an, .ref va])), (to, .inl (y 0, 228, .inl (fun _ => 0)))] [(rf, .inl (y 0, 3, .inl (fun _ => 0)))] [0, 2] [1] := ⟨rfl, rfl, rfl, rfl, rfl, by decide⟩
    refine kw_go_i hs9 hP hD hS hA (va_runV (As := []) (rest := [.int 0]) ⟨hx, hb, hml, hown, hts⟩ (cw_many l D y mo to ke ik rf ha r0 br bp bys an va (fun _ => 0) 0 (by first | rfl | decide | assumption | (simp [upd]; done) | (unfold upd; rw [if_neg (by decide)]; assumption) | (unfold upd; rw [if_neg (by decide), if_neg (by decide)]; assumption)) _) (cwV 0 hts gX11_which_X11_many rfl rfl rfl (by decide +kernel) ⟨Nat.le_of_ble_eq_true rfl, Nat.le_of_ble_eq_true rfl⟩) (kw_PreV (ci := 11) (q0 := 0) hs9 hP hD hK hN rfl rfl) rfl rfl hl.1 rfl (lv_room (Nat.le_of_ble_eq_true rfl)) dX11_which_20 ⟨Nat.le_of_ble_eq_true rfl, Nat.le_of_ble_eq_true rfl⟩) (fun r u H locs hq hP hD hS => ?_)
    obtain rfl := hq
    have hP : va_P D vwCl [(rf, .inl (y 0, 3, .inl (fun _ => 0))), (mo, .inr (11, [.ref to, .ref ke, .ref ik, .ref rf, .long 0, .long 1, .ref ha, .ref r0, .ref br, .ref bp, .ref bys, .int 0, .int 0, .int 0, .int 0, .int 0, .ref an, .ref va])), (to, .inl (y 0, 228, .inl (fun _ => 0)))] H := hP
    have hD : va_D A [(rf, .inl (y 0, 3, .inl (fun _ => 0))), (mo, .inr (11, [.ref to, .ref ke, .ref ik, .ref rf, .long 0, .long 1, .ref ha, .ref r0, .ref br, .ref bp, .ref bys, .int 0, .int 0, .int 0, .int 0, .int 0, .ref an, .ref va])), (to, .inl (y 0, 228, .inl (fun _ => 0)))] := hD
    refine lv_icmp_ge (tgt := 64) hx hb dX11_which_23 (by decide) (fun _ => ?_) (fun h9 => absurd h9 (by decide))
    refine lv_iload_n hx hb dX11_which_64 rfl (lv_at hl 1 rfl) ?_
    have hsp : ((-1) : Int32) = (sp_which t) := by
      have gZ1 : ¬ (t.toInt64 : Int64).toInt < (0 : Int64).toInt := fun q => h5 (Int64.lt_iff_toInt_lt.mpr q)
      have lZ1 : (t.toInt64).toInt = t.toInt := Int32.toInt_toInt64 _
      have lZ2 : (0 : Int64).toInt = 0 := by decide
      have gZ2 : ¬ (11 : Int64).toInt < (t.toInt64 : Int64).toInt := fun q => h6 (Int64.lt_iff_toInt_lt.mpr q)
      have lZ3 : (11 : Int64).toInt = 11 := by decide
      unfold sp_which; first | rfl | decide | exact (if_neg (by omega)).symm | exact (if_pos (by omega)).symm | exact ((if_pos (by omega)).trans (if_neg (by omega))).symm | exact ((if_pos (by omega)).trans (if_pos (by omega))).symm | exact ((if_neg (by omega)).trans (if_pos (by omega))).symm | exact ((if_neg (by omega)).trans (if_neg (by omega))).symm
    exact W.iret (v := (-1)) hx hb hr (fun tZ ht hW => ⟨⟨(-1), (), rfl, hsp, by rw [ht]; exact hP.sub [] rfl, hD.sub [] (by decide) rfl⟩, hS.F ht⟩) hS.2.2 dX11_which_65

set_option maxHeartbeats 4000000 in
set_option maxRecDepth 100000 in
theorem cq_lasts (l : Launch) (D : va_G) (y : Nat → ClassId) (mo : Nat) (to : Nat) (ke : Nat) (ik : Nat) (rf : Nat) (ha : Nat) (r0 : Nat) (br : Nat) (bp : Nat) (bys : Nat) (an : Nat) (va : Nat) (x : Int32) (x2 : Int32) : kw_Mi l yX11_lasts wsX11_lasts ({ frames := 3, cells := 0, slots := 0, locals := 86 }) D y [.ref mo, .int x, .int x2] [(mo, .inr (11, [.ref to, .ref ke, .ref ik, .ref rf, .long 0, .long 1, .ref ha, .ref r0, .ref br, .ref bp, .ref bys, .int 0, .int 0, .int 0, .int 0, .int 0, .ref an, .ref va])), (rf, .inl (y 0, 3, .inl (fun _ => 0))), (to, .inl (y 0, 228, .inl (fun _ => 0)))] (fun (r : Int32) (u : Unit) => r = (-2)) (fun _ => []) 0 0 := by
  refine kw_Mi.of (cc := cX11_lasts) (maxL := 5) (ret := (some .int)) (by decide) rfl ?_
  intro pZ eZ s mZ beZ meZ cZ A hE
  obtain ⟨hx, hb, hr, hml, hts, hown, hlocks, hin, hA, hP, hD, hK, hN⟩ := hE
  have hS : va_S A s.heap s.heap [] := va_S.rf
  have hl := lv_entry ([.ref mo, .int x, .int x2]) (n := 5) (Nat.le_of_ble_eq_true rfl)
  rw [lg_entry_eq]
  generalize (lg_sl ([.ref mo, .int x, .int x2]) ++ List.replicate (5 - (lg_sl ([.ref mo, .int x, .int x2])).length) Slot.unset).toArray = ls at hl ⊢
  have hl : lv_has ls 5 [(0, .ref mo), (1, .int x), (2, .int x2)] := hl
  refine lv_aload_n hx hb dX11_lasts_0 rfl (lv_at hl 0 rfl) ?_
  refine lv_iload_n hx hb dX11_lasts_1 rfl (lv_at hl 1 rfl) ?_
  have hs1 : kw_Split [(mo, .inr (11, [.ref to, .ref ke, .ref ik, .ref rf, .long 0, .long 1, .ref ha, .ref r0, .ref br, .ref bp, .ref bys, .int 0, .int 0, .int 0, .int 0, .int 0, .ref an, .ref va])), (rf, .inl (y 0, 3, .inl (fun _ => 0))), (to, .inl (y 0, 228, .inl (fun _ => 0)))] [(mo, .inr (11, [.ref to, .ref ke, .ref ik, .ref rf, .long 0, .long 1, .ref ha, .ref r0, .ref br, .ref bp, .ref bys, .int 0, .int 0, .int 0, .int 0, .int 0, .ref an, .ref va])), (to, .inl (y 0, 228, .inl (fun _ => 0)))] [(rf, .inl (y 0, 3, .inl (fun _ => 0)))] [0, 2] [1] := ⟨rfl, rfl, rfl, rfl, rfl, by decide⟩
  refine kw_go_i hs1 hP hD hS hA (va_runV (As := [.int x]) (rest := []) ⟨hx, hb, hml, hown, hts⟩ (cw_isGleaner l D y mo to ke ik rf ha r0 br bp bys an va x  _) (cwV 1 hts gX11_lasts_X11_isGleaner rfl rfl rfl (by decide +kernel) ⟨Nat.le_of_ble_eq_true rfl, Nat.le_of_ble_eq_true rfl⟩) (kw_PreV (ci := 11) (q0 := 0) hs1 hP hD hK hN rfl rfl) rfl rfl hl.1 rfl (lv_room (Nat.le_of_ble_eq_true rfl)) dX11_lasts_2 ⟨Nat.le_of_ble_eq_true rfl, Nat.le_of_ble_eq_true rfl⟩) (fun r u H locs hq hP hD hS => ?_)
  rcases hq with ⟨h2, rfl⟩ | ⟨h3, h4, rfl⟩
  · skip
    have hP : va_P D vwCl [(rf, .inl (y 0, 3, .inl (fun _ => 0))), (mo, .inr (11, [.ref to, .ref ke, .ref ik, .ref rf, .long 0, .long 1, .ref ha, .ref r0, .ref br, .ref bp, .ref bys, .int 0, .int 0, .int 0, .int 0, .int 0, .ref an, .ref va])), (to, .inl (y 0, 228, .inl (fun _ => 0)))] H := hP
    have hD : va_D A [(rf, .inl (y 0, 3, .inl (fun _ => 0))), (mo, .inr (11, [.ref to, .ref ke, .ref ik, .ref rf, .long 0, .long 1, .ref ha, .ref r0, .ref br, .ref bp, .ref bys, .int 0, .int 0, .int 0, .int 0, .int 0, .ref an, .ref va])), (to, .inl (y 0, 228, .inl (fun _ => 0)))] := hD
    refine lv_if_eq (tgt := 20) hx hb dX11_lasts_5 (by decide) (fun _ => ?_) (fun h9 => absurd h9 (by decide))
    refine lv_aload_n hx hb dX11_lasts_20 rfl (lv_at hl 0 rfl) ?_
    refine lv_bipush (v := (-2)) hx hb dX11_lasts_21 (by decide) ?_
    have hs5 : kw_Split [(rf, .inl (y 0, 3, .inl (fun _ => 0))), (mo, .inr (11, [.ref to, .ref ke, .ref ik, .ref rf, .long 0, .long 1, .ref ha, .ref r0, .ref br, .ref bp, .ref bys, .int 0, .int 0, .int 0, .int 0, .int 0, .ref an, .ref va])), (to, .inl (y 0, 228, .inl (fun _ => 0)))] [(mo, .inr (11, [.ref to, .ref ke, .ref ik, .ref rf, .long 0, .long 1, .ref ha, .ref r0, .ref br, .ref bp, .ref bys, .int 0, .int 0, .int 0, .int 0, .int 0, .ref an, .ref va])), (rf, .inl (y 0, 3, .inl (fun _ => 0)))] [(to, .inl (y 0, 228, .inl (fun _ => 0)))] [1, 0] [2] := ⟨rfl, rfl, rfl, rfl, rfl, by decide⟩
    refine kw_go_i hs5 hP hD hS hA (va_runV (As := [.int (-2)]) (rest := []) ⟨hx, hb, hml, hown, hts⟩ (cw_bad l D y mo to ke ik rf ha r0 br bp bys an va (fun _ => 0) (-2)  _) (cwV 1 hts gX11_lasts_X11_bad rfl rfl rfl (by decide +kernel) ⟨Nat.le_of_ble_eq_true rfl, Nat.le_of_ble_eq_true rfl⟩) (kw_PreV (ci := 11) (q0 := 1) hs5 hP hD hK hN rfl rfl) rfl rfl hl.1 rfl (lv_room (Nat.le_of_ble_eq_true rfl)) dX11_lasts_23 ⟨Nat.le_of_ble_eq_true rfl, Nat.le_of_ble_eq_true rfl⟩) (fun r u H locs hq hP hD hS => ?_)
    obtain rfl := hq
    have hP : va_P D vwCl [(to, .inl (y 0, 228, .inl (fun _ => 0)))] H := hP
    have hD : va_D A [(to, .inl (y 0, 228, .inl (fun _ => 0)))] := hD
    have hsp : ((-2) : Int32) = (-2) := by
      have gZ1 := Int64.lt_iff_toInt_lt.mp h2
      have lZ1 : (x.toInt64).toInt = x.toInt := Int32.toInt_toInt64 _
      have lZ2 : (0 : Int64).toInt = 0 := by decide
      rfl
    exact W.iret (v := (-2)) hx hb hr (fun tZ ht hW => ⟨⟨(-2), (), rfl, hsp, by rw [ht]; exact hP.sub [] rfl, hD.sub [] (by decide) rfl⟩, hS.F ht⟩) hS.2.2 dX11_lasts_26
  · skip
    have hP : va_P D vwCl [(rf, .inl (y 0, 3, .inl (fun _ => 0))), (mo, .inr (11, [.ref to, .ref ke, .ref ik, .ref rf, .long 0, .long 1, .ref ha, .ref r0, .ref br, .ref bp, .ref bys, .int 0, .int 0, .int 0, .int 0, .int 0, .ref an, .ref va])), (to, .inl (y 0, 228, .inl (fun _ => 0)))] H := hP
    have hD : va_D A [(rf, .inl (y 0, 3, .inl (fun _ => 0))), (mo, .inr (11, [.ref to, .ref ke, .ref ik, .ref rf, .long 0, .long 1, .ref ha, .ref r0, .ref br, .ref bp, .ref bys, .int 0, .int 0, .int 0, .int 0, .int 0, .ref an, .ref va])), (to, .inl (y 0, 228, .inl (fun _ => 0)))] := hD
    refine lv_if_eq (tgt := 20) hx hb dX11_lasts_5 (by decide) (fun _ => ?_) (fun h9 => absurd h9 (by decide))
    refine lv_aload_n hx hb dX11_lasts_20 rfl (lv_at hl 0 rfl) ?_
    refine lv_bipush (v := (-2)) hx hb dX11_lasts_21 (by decide) ?_
    have hs6 : kw_Split [(rf, .inl (y 0, 3, .inl (fun _ => 0))), (mo, .inr (11, [.ref to, .ref ke, .ref ik, .ref rf, .long 0, .long 1, .ref ha, .ref r0, .ref br, .ref bp, .ref bys, .int 0, .int 0, .int 0, .int 0, .int 0, .ref an, .ref va])), (to, .inl (y 0, 228, .inl (fun _ => 0)))] [(mo, .inr (11, [.ref to, .ref ke, .ref ik, .ref rf, .long 0, .long 1, .ref ha, .ref r0, .ref br, .ref bp, .ref bys, .int 0, .int 0, .int 0, .int 0, .int 0, .ref an, .ref va])), (rf, .inl (y 0, 3, .inl (fun _ => 0)))] [(to, .inl (y 0, 228, .inl (fun _ => 0)))] [1, 0] [2] := ⟨rfl, rfl, rfl, rfl, rfl, by decide⟩
    refine kw_go_i hs6 hP hD hS hA (va_runV (As := [.int (-2)]) (rest := []) ⟨hx, hb, hml, hown, hts⟩ (cw_bad l D y mo to ke ik rf ha r0 br bp bys an va (fun _ => 0) (-2)  _) (cwV 1 hts gX11_lasts_X11_bad rfl rfl rfl (by decide +kernel) ⟨Nat.le_of_ble_eq_true rfl, Nat.le_of_ble_eq_true rfl⟩) (kw_PreV (ci := 11) (q0 := 1) hs6 hP hD hK hN rfl rfl) rfl rfl hl.1 rfl (lv_room (Nat.le_of_ble_eq_true rfl)) dX11_lasts_23 ⟨Nat.le_of_ble_eq_true rfl, Nat.le_of_ble_eq_true rfl⟩) (fun r u H locs hq hP hD hS => ?_)
    obtain rfl := hq
    have hP : va_P D vwCl [(to, .inl (y 0, 228, .inl (fun _ => 0)))] H := hP
    have hD : va_D A [(to, .inl (y 0, 228, .inl (fun _ => 0)))] := hD
    have hsp : ((-2) : Int32) = (-2) := by
      have gZ1 : ¬ (x.toInt64 : Int64).toInt < (0 : Int64).toInt := fun q => h3 (Int64.lt_iff_toInt_lt.mpr q)
      have lZ1 : (x.toInt64).toInt = x.toInt := Int32.toInt_toInt64 _
      have lZ2 : (0 : Int64).toInt = 0 := by decide
      have gZ2 := Int64.lt_iff_toInt_lt.mp h4
      have lZ3 : ((-1) : Int64).toInt = -1 := by decide
      rfl
    exact W.iret (v := (-2)) hx hb hr (fun tZ ht hW => ⟨⟨(-2), (), rfl, hsp, by rw [ht]; exact hP.sub [] rfl, hD.sub [] (by decide) rfl⟩, hS.F ht⟩) hS.2.2 dX11_lasts_26

set_option maxHeartbeats 4000000 in
set_option maxRecDepth 100000 in
theorem cq_enough (l : Launch) (D : va_G) (y : Nat → ClassId) (mo : Nat) (to : Nat) (ke : Nat) (ik : Nat) (rf : Nat) (ha : Nat) (r0 : Nat) (br : Nat) (bp : Nat) (bys : Nat) (an : Nat) (va : Nat) (x : Int32) : kw_Mi l yX11_enough wsX11_enough ({ frames := 2, cells := 0, slots := 0, locals := 65 }) D y [.ref mo, .int x] [(mo, .inr (11, [.ref to, .ref ke, .ref ik, .ref rf, .long 0, .long 1, .ref ha, .ref r0, .ref br, .ref bp, .ref bys, .int 0, .int 0, .int 0, .int 0, .int 0, .ref an, .ref va])), (rf, .inl (y 0, 3, .inl (fun _ => 0))), (to, .inl (y 0, 228, .inl (fun _ => 0)))] (fun (r : Int32) (u : Unit) => r = (sp_enough x)) (fun _ => []) 0 0 := by
  refine kw_Mi.of (cc := cX11_enough) (maxL := 6) (ret := (some .int)) (by decide) rfl ?_
  intro pZ eZ s mZ beZ meZ cZ A hE
  obtain ⟨hx, hb, hr, hml, hts, hown, hlocks, hin, hA, hP, hD, hK, hN⟩ := hE
  have hS : va_S A s.heap s.heap [] := va_S.rf
  have hl := lv_entry ([.ref mo, .int x]) (n := 6) (Nat.le_of_ble_eq_true rfl)
  rw [lg_entry_eq]
  generalize (lg_sl ([.ref mo, .int x]) ++ List.replicate (6 - (lg_sl ([.ref mo, .int x])).length) Slot.unset).toArray = ls at hl ⊢
  have hl : lv_has ls 6 [(0, .ref mo), (1, .int x)] := hl
  have fw1 := hts (.constantLong RX11 165 (999)) (List.mem_of_getElem? (i := 1) rfl)
  refine lv_iload_n hx hb dX11_enough_0 rfl (lv_at hl 1 rfl) ?_
  refine lv_i2l (v := x.toInt64) hx hb dX11_enough_1 (rfl) ?_
  refine lv_lconst (v := 0) hx hb dX11_enough_2 (by decide) ?_
  refine lv_ldc2 (v := 999) hx hb hown fw1 dX11_enough_3 ?_
  have hs1 : kw_Split [(mo, .inr (11, [.ref to, .ref ke, .ref ik, .ref rf, .long 0, .long 1, .ref ha, .ref r0, .ref br, .ref bp, .ref bys, .int 0, .int 0, .int 0, .int 0, .int 0, .ref an, .ref va])), (rf, .inl (y 0, 3, .inl (fun _ => 0))), (to, .inl (y 0, 228, .inl (fun _ => 0)))] [] [(mo, .inr (11, [.ref to, .ref ke, .ref ik, .ref rf, .long 0, .long 1, .ref ha, .ref r0, .ref br, .ref bp, .ref bys, .int 0, .int 0, .int 0, .int 0, .int 0, .ref an, .ref va])), (rf, .inl (y 0, 3, .inl (fun _ => 0))), (to, .inl (y 0, 228, .inl (fun _ => 0)))] [] [0, 1, 2] := ⟨rfl, rfl, rfl, rfl, rfl, by decide⟩
  refine kw_go_i hs1 hP hD hS hA (va_runS (As := [.long x.toInt64, .long 0, .long 999]) (rest := []) ⟨hx, hb, hml, hown, hts⟩ (cw_in l D y x.toInt64 0 999  _) (va_cwS 3 hts gX11_enough_X11_in rfl rfl rfl (by decide +kernel) ⟨Nat.le_of_ble_eq_true rfl, Nat.le_of_ble_eq_true rfl⟩) (kw_PreS hs1 hP hD hK hN) rfl rfl hl.1 rfl (lv_room (Nat.le_of_ble_eq_true rfl)) dX11_enough_6 ⟨Nat.le_of_ble_eq_true rfl, Nat.le_of_ble_eq_true rfl⟩) (fun r u H locs hq hP hD hS => ?_)
  rcases hq with ⟨h2, rfl⟩ | ⟨h3, h4, rfl⟩ | ⟨h5, h6, rfl⟩
  · skip
    have hP : va_P D vwCl [(mo, .inr (11, [.ref to, .ref ke, .ref ik, .ref rf, .long 0, .long 1, .ref ha, .ref r0, .ref br, .ref bp, .ref bys, .int 0, .int 0, .int 0, .int 0, .int 0, .ref an, .ref va])), (rf, .inl (y 0, 3, .inl (fun _ => 0))), (to, .inl (y 0, 228, .inl (fun _ => 0)))] H := hP
    have hD : va_D A [(mo, .inr (11, [.ref to, .ref ke, .ref ik, .ref rf, .long 0, .long 1, .ref ha, .ref r0, .ref br, .ref bp, .ref bys, .int 0, .int 0, .int 0, .int 0, .int 0, .ref an, .ref va])), (rf, .inl (y 0, 3, .inl (fun _ => 0))), (to, .inl (y 0, 228, .inl (fun _ => 0)))] := hD
    refine lv_if_ne (tgt := 19) hx hb dX11_enough_9 (by decide) (fun h9 => absurd h9 (by decide)) (fun _ => ?_)
    refine lv_aload_n hx hb dX11_enough_12 rfl (lv_at hl 0 rfl) ?_
    refine lv_bipush (v := (-2)) hx hb dX11_enough_13 (by decide) ?_
    have hs7 : kw_Split [(mo, .inr (11, [.ref to, .ref ke, .ref ik, .ref rf, .long 0, .long 1, .ref ha, .ref r0, .ref br, .ref bp, .ref bys, .int 0, .int 0, .int 0, .int 0, .int 0, .ref an, .ref va])), (rf, .inl (y 0, 3, .inl (fun _ => 0))), (to, .inl (y 0, 228, .inl (fun _ => 0)))] [(mo, .inr (11, [.ref to, .ref ke, .ref ik, .ref rf, .long 0, .long 1, .ref ha, .ref r0, .ref br, .ref bp, .ref bys, .int 0, .int 0, .int 0, .int 0, .int 0, .ref an, .ref va])), (rf, .inl (y 0, 3, .inl (fun _ => 0)))] [(to, .inl (y 0, 228, .inl (fun _ => 0)))] [0, 1] [2] := ⟨rfl, rfl, rfl, rfl, rfl, by decide⟩
    refine kw_go_i hs7 hP hD hS hA (va_runV (As := [.int (-2)]) (rest := []) ⟨hx, hb, hml, hown, hts⟩ (cw_bad l D y mo to ke ik rf ha r0 br bp bys an va (fun _ => 0) (-2)  _) (cwV 1 hts gX11_enough_X11_bad rfl rfl rfl (by decide +kernel) ⟨Nat.le_of_ble_eq_true rfl, Nat.le_of_ble_eq_true rfl⟩) (kw_PreV (ci := 11) (q0 := 0) hs7 hP hD hK hN rfl rfl) rfl rfl hl.1 rfl (lv_room (Nat.le_of_ble_eq_true rfl)) dX11_enough_15 ⟨Nat.le_of_ble_eq_true rfl, Nat.le_of_ble_eq_true rfl⟩) (fun r u H locs hq hP hD hS => ?_)
    obtain rfl := hq
    have hP : va_P D vwCl [(to, .inl (y 0, 228, .inl (fun _ => 0)))] H := hP
    have hD : va_D A [(to, .inl (y 0, 228, .inl (fun _ => 0)))] := hD
    have hsp : ((-2) : Int32) = (sp_enough x) := by
      have gZ1 := Int64.lt_iff_toInt_lt.mp h2
      have lZ1 : (x.toInt64).toInt = x.toInt := Int32.toInt_toInt64 _
      have lZ2 : (0 : Int64).toInt = 0 := by decide
      unfold sp_enough; first | rfl | decide | exact (if_neg (by omega)).symm | exact (if_pos (by omega)).symm | exact ((if_pos (by omega)).trans (if_neg (by omega))).symm | exact ((if_pos (by omega)).trans (if_pos (by omega))).symm | exact ((if_neg (by omega)).trans (if_pos (by omega))).symm | exact ((if_neg (by omega)).trans (if_neg (by omega))).symm
    exact W.iret (v := (-2)) hx hb hr (fun tZ ht hW => ⟨⟨(-2), (), rfl, hsp, by rw [ht]; exact hP.sub [] rfl, hD.sub [] (by decide) rfl⟩, hS.F ht⟩) hS.2.2 dX11_enough_18
  · skip
    have hP : va_P D vwCl [(mo, .inr (11, [.ref to, .ref ke, .ref ik, .ref rf, .long 0, .long 1, .ref ha, .ref r0, .ref br, .ref bp, .ref bys, .int 0, .int 0, .int 0, .int 0, .int 0, .ref an, .ref va])), (rf, .inl (y 0, 3, .inl (fun _ => 0))), (to, .inl (y 0, 228, .inl (fun _ => 0)))] H := hP
    have hD : va_D A [(mo, .inr (11, [.ref to, .ref ke, .ref ik, .ref rf, .long 0, .long 1, .ref ha, .ref r0, .ref br, .ref bp, .ref bys, .int 0, .int 0, .int 0, .int 0, .int 0, .ref an, .ref va])), (rf, .inl (y 0, 3, .inl (fun _ => 0))), (to, .inl (y 0, 228, .inl (fun _ => 0)))] := hD
    refine lv_if_ne (tgt := 19) hx hb dX11_enough_9 (by decide) (fun h9 => absurd h9 (by decide)) (fun _ => ?_)
    refine lv_aload_n hx hb dX11_enough_12 rfl (lv_at hl 0 rfl) ?_
    refine lv_bipush (v := (-2)) hx hb dX11_enough_13 (by decide) ?_
    have hs8 : kw_Split [(mo, .inr (11, [.ref to, .ref ke, .ref ik, .ref rf, .long 0, .long 1, .ref ha, .ref r0, .ref br, .ref bp, .ref bys, .int 0, .int 0, .int 0, .int 0, .int 0, .ref an, .ref va])), (rf, .inl (y 0, 3, .inl (fun _ => 0))), (to, .inl (y 0, 228, .inl (fun _ => 0)))] [(mo, .inr (11, [.ref to, .ref ke, .ref ik, .ref rf, .long 0, .long 1, .ref ha, .ref r0, .ref br, .ref bp, .ref bys, .int 0, .int 0, .int 0, .int 0, .int 0, .ref an, .ref va])), (rf, .inl (y 0, 3, .inl (fun _ => 0)))] [(to, .inl (y 0, 228, .inl (fun _ => 0)))] [0, 1] [2] := ⟨rfl, rfl, rfl, rfl, rfl, by decide⟩
    refine kw_go_i hs8 hP hD hS hA (va_runV (As := [.int (-2)]) (rest := []) ⟨hx, hb, hml, hown, hts⟩ (cw_bad l D y mo to ke ik rf ha r0 br bp bys an va (fun _ => 0) (-2)  _) (cwV 1 hts gX11_enough_X11_bad rfl rfl rfl (by decide +kernel) ⟨Nat.le_of_ble_eq_true rfl, Nat.le_of_ble_eq_true rfl⟩) (kw_PreV (ci := 11) (q0 := 0) hs8 hP hD hK hN rfl rfl) rfl rfl hl.1 rfl (lv_room (Nat.le_of_ble_eq_true rfl)) dX11_enough_15 ⟨Nat.le_of_ble_eq_true rfl, Nat.le_of_ble_eq_true rfl⟩) (fun r u H locs hq hP hD hS => ?_)
    obtain rfl := hq
    have hP : va_P D vwCl [(to, .inl (y 0, 228, .inl (fun _ => 0)))] H := hP
    have hD : va_D A [(to, .inl (y 0, 228, .inl (fun _ => 0)))] := hD
    have hsp : ((-2) : Int32) = (sp_enough x) := by
      have gZ1 : ¬ (x.toInt64 : Int64).toInt < (0 : Int64).toInt := fun q => h3 (Int64.lt_iff_toInt_lt.mpr q)
      have lZ1 : (x.toInt64).toInt = x.toInt := Int32.toInt_toInt64 _
      have lZ2 : (0 : Int64).toInt = 0 := by decide
      have gZ2 := Int64.lt_iff_toInt_lt.mp h4
      have lZ3 : (999 : Int64).toInt = 999 := by decide
      unfold sp_enough; first | rfl | decide | exact (if_neg (by omega)).symm | exact (if_pos (by omega)).symm | exact ((if_pos (by omega)).trans (if_neg (by omega))).symm | exact ((if_pos (by omega)).trans (if_pos (by omega))).symm | exact ((if_neg (by omega)).trans (if_pos (by omega))).symm | exact ((if_neg (by omega)).trans (if_neg (by omega))).symm
    exact W.iret (v := (-2)) hx hb hr (fun tZ ht hW => ⟨⟨(-2), (), rfl, hsp, by rw [ht]; exact hP.sub [] rfl, hD.sub [] (by decide) rfl⟩, hS.F ht⟩) hS.2.2 dX11_enough_18
  · skip
    have hP : va_P D vwCl [(mo, .inr (11, [.ref to, .ref ke, .ref ik, .ref rf, .long 0, .long 1, .ref ha, .ref r0, .ref br, .ref bp, .ref bys, .int 0, .int 0, .int 0, .int 0, .int 0, .ref an, .ref va])), (rf, .inl (y 0, 3, .inl (fun _ => 0))), (to, .inl (y 0, 228, .inl (fun _ => 0)))] H := hP
    have hD : va_D A [(mo, .inr (11, [.ref to, .ref ke, .ref ik, .ref rf, .long 0, .long 1, .ref ha, .ref r0, .ref br, .ref bp, .ref bys, .int 0, .int 0, .int 0, .int 0, .int 0, .ref an, .ref va])), (rf, .inl (y 0, 3, .inl (fun _ => 0))), (to, .inl (y 0, 228, .inl (fun _ => 0)))] := hD
    refine lv_if_ne (tgt := 19) hx hb dX11_enough_9 (by decide) (fun _ => ?_) (fun h9 => absurd h9 (by decide))
    refine lv_iconst (v := (-1)) hx hb dX11_enough_19 (by decide) ?_
    refine lv_istore_n (lv' := [(2, .int (-1)), (0, .ref mo), (1, .int x)]) hx hb dX11_enough_20 rfl hl (by decide) rfl (fun ls hl => ?_)
    refine lv_iconst (v := 0) hx hb dX11_enough_21 (by decide) ?_
    refine lv_istore_n (lv' := [(3, .int 0), (2, .int (-1)), (0, .ref mo), (1, .int x)]) hx hb dX11_enough_22 rfl hl (by decide) rfl (fun ls hl => ?_)
    refine lv_iload_n hx hb dX11_enough_23 rfl (lv_at hl 0 rfl) ?_
    refine lv_iconst (v := 1) hx hb dX11_enough_24 (by decide) ?_
    refine lv_aload_n hx hb dX11_enough_25 rfl (lv_at hl 2 rfl) ?_
    have hs9 : kw_Split [(mo, .inr (11, [.ref to, .ref ke, .ref ik, .ref rf, .long 0, .long 1, .ref ha, .ref r0, .ref br, .ref bp, .ref bys, .int 0, .int 0, .int 0, .int 0, .int 0, .ref an, .ref va])), (rf, .inl (y 0, 3, .inl (fun _ => 0))), (to, .inl (y 0, 228, .inl (fun _ => 0)))] [(mo, .inr (11, [.ref to, .ref ke, .ref ik, .ref rf, .long 0, .long 1, .ref ha, .ref r0, .ref br, .ref bp, .ref bys, .int 0, .int 0, .int 0, .int 0, .int 0, .ref an, .ref va])), (to, .inl (y 0, 228, .inl (fun _ => 0)))] [(rf, .inl (y 0, 3, .inl (fun _ => 0)))] [0, 2] [1] := ⟨rfl, rfl, rfl, rfl, rfl, by decide⟩
    refine kw_go_i hs9 hP hD hS hA (va_runV (As := []) (rest := [.int 1, .int 0]) ⟨hx, hb, hml, hown, hts⟩ (cw_manyGleaners l D y mo to ke ik rf ha r0 br bp bys an va (fun _ => 0) 0 (by first | rfl | decide | assumption | (simp [upd]; done) | (unfold upd; rw [if_neg (by decide)]; assumption) | (unfold upd; rw [if_neg (by decide), if_neg (by decide)]; assumption)) _) (cwV 0 hts gX11_enough_X11_manyGleaners rfl rfl rfl (by decide +kernel) ⟨Nat.le_of_ble_eq_true rfl, Nat.le_of_ble_eq_true rfl⟩) (kw_PreV (ci := 11) (q0 := 0) hs9 hP hD hK hN rfl rfl) rfl rfl hl.1 rfl (lv_room (Nat.le_of_ble_eq_true rfl)) dX11_enough_26 ⟨Nat.le_of_ble_eq_true rfl, Nat.le_of_ble_eq_true rfl⟩) (fun r u H locs hq hP hD hS => ?_)
    obtain rfl := hq
    have hP : va_P D vwCl [(rf, .inl (y 0, 3, .inl (fun _ => 0))), (mo, .inr (11, [.ref to, .ref ke, .ref ik, .ref rf, .long 0, .long 1, .ref ha, .ref r0, .ref br, .ref bp, .ref bys, .int 0, .int 0, .int 0, .int 0, .int 0, .ref an, .ref va])), (to, .inl (y 0, 228, .inl (fun _ => 0)))] H := hP
    have hD : va_D A [(rf, .inl (y 0, 3, .inl (fun _ => 0))), (mo, .inr (11, [.ref to, .ref ke, .ref ik, .ref rf, .long 0, .long 1, .ref ha, .ref r0, .ref br, .ref bp, .ref bys, .int 0, .int 0, .int 0, .int 0, .int 0, .ref an, .ref va])), (to, .inl (y 0, 228, .inl (fun _ => 0)))] := hD
    refine lv_ishl hx hb dX11_enough_29 ?_
    refine lv_topi (fun z10 hz10 => ?_)
    obtain rfl : z10 = 1 := hz10.trans (by first | rfl | decide | (simp [upd]; done))
    refine lv_icmp_ge (tgt := 116) hx hb dX11_enough_30 (by decide) (fun h9 => absurd h9 (by decide)) (fun _ => ?_)
    refine lv_iconst (v := 0) hx hb dX11_enough_33 (by decide) ?_
    refine lv_istore (lv' := [(4, .int 0), (3, .int 0), (2, .int (-1)), (0, .ref mo), (1, .int x)]) hx hb dX11_enough_34 hl (by decide) rfl (fun ls hl => ?_)
    refine lv_iconst (v := 0) hx hb dX11_enough_36 (by decide) ?_
    refine lv_istore (lv' := [(5, .int 0), (4, .int 0), (3, .int 0), (2, .int (-1)), (0, .ref mo), (1, .int x)]) hx hb dX11_enough_37 hl (by decide) rfl (fun ls hl => ?_)
    refine lv_iload hx hb dX11_enough_39 (lv_at hl 0 rfl) ?_
    refine lv_aload_n hx hb dX11_enough_41 rfl (lv_at hl 4 rfl) ?_
    have hs11 : kw_Split [(rf, .inl (y 0, 3, .inl (fun _ => 0))), (mo, .inr (11, [.ref to, .ref ke, .ref ik, .ref rf, .long 0, .long 1, .ref ha, .ref r0, .ref br, .ref bp, .ref bys, .int 0, .int 0, .int 0, .int 0, .int 0, .ref an, .ref va])), (to, .inl (y 0, 228, .inl (fun _ => 0)))] [(mo, .inr (11, [.ref to, .ref ke, .ref ik, .ref rf, .long 0, .long 1, .ref ha, .ref r0, .ref br, .ref bp, .ref bys, .int 0, .int 0, .int 0, .int 0, .int 0, .ref an, .ref va])), (to, .inl (y 0, 228, .inl (fun _ => 0)))] [(rf, .inl (y 0, 3, .inl (fun _ => 0)))] [1, 2] [0] := ⟨rfl, rfl, rfl, rfl, rfl, by decide⟩
    refine kw_go_i hs11 hP hD hS hA (va_runV (As := []) (rest := [.int 0]) ⟨hx, hb, hml, hown, hts⟩ (cw_manyGleaners l D y mo to ke ik rf ha r0 br bp bys an va (fun _ => 0) 0 (by first | rfl | decide | assumption | (simp [upd]; done) | (unfold upd; rw [if_neg (by decide)]; assumption) | (unfold upd; rw [if_neg (by decide), if_neg (by decide)]; assumption)) _) (cwV 0 hts gX11_enough_X11_manyGleaners rfl rfl rfl (by decide +kernel) ⟨Nat.le_of_ble_eq_true rfl, Nat.le_of_ble_eq_true rfl⟩) (kw_PreV (ci := 11) (q0 := 1) hs11 hP hD hK hN rfl rfl) rfl rfl hl.1 rfl (lv_room (Nat.le_of_ble_eq_true rfl)) dX11_enough_42 ⟨Nat.le_of_ble_eq_true rfl, Nat.le_of_ble_eq_true rfl⟩) (fun r u H locs hq hP hD hS => ?_)
    obtain rfl := hq
    have hP : va_P D vwCl [(rf, .inl (y 0, 3, .inl (fun _ => 0))), (mo, .inr (11, [.ref to, .ref ke, .ref ik, .ref rf, .long 0, .long 1, .ref ha, .ref r0, .ref br, .ref bp, .ref bys, .int 0, .int 0, .int 0, .int 0, .int 0, .ref an, .ref va])), (to, .inl (y 0, 228, .inl (fun _ => 0)))] H := hP
    have hD : va_D A [(rf, .inl (y 0, 3, .inl (fun _ => 0))), (mo, .inr (11, [.ref to, .ref ke, .ref ik, .ref rf, .long 0, .long 1, .ref ha, .ref r0, .ref br, .ref bp, .ref bys, .int 0, .int 0, .int 0, .int 0, .int 0, .ref an, .ref va])), (to, .inl (y 0, 228, .inl (fun _ => 0)))] := hD
    refine lv_icmp_ge (tgt := 82) hx hb dX11_enough_45 (by decide) (fun _ => ?_) (fun h9 => absurd h9 (by decide))
    refine lv_iload hx hb dX11_enough_82 (lv_at hl 1 rfl) ?_
    refine lv_iload_n hx hb dX11_enough_84 rfl (lv_at hl 5 rfl) ?_
    refine lv_icmp_lt (tgt := 108) hx hb dX11_enough_85 (by decide) (fun h12 => ?_) (fun h13 => ?_)
    · skip
      refine lv_iload_n hx hb dX11_enough_108 rfl (lv_at hl 3 rfl) ?_
      refine lv_istore_n (lv' := [(2, .int (-1)), (5, .int 0), (4, .int 0), (3, .int 0), (0, .ref mo), (1, .int x)]) hx hb dX11_enough_109 rfl hl (by decide) rfl (fun ls hl => ?_)
      refine lv_iinc (v := 1) (lv' := [(3, .int 1), (2, .int (-1)), (5, .int 0), (4, .int 0), (0, .ref mo), (1, .int x)]) hx hb dX11_enough_110 hl (k := 3) rfl (by decide) (by decide) rfl (fun ls hl => ?_)
      refine lv_goto (tgt := 23) hx hb dX11_enough_113 (by decide) ?_
      refine lv_iload_n hx hb dX11_enough_23 rfl (lv_at hl 0 rfl) ?_
      refine lv_iconst (v := 1) hx hb dX11_enough_24 (by decide) ?_
      refine lv_aload_n hx hb dX11_enough_25 rfl (lv_at hl 4 rfl) ?_
      have hs14 : kw_Split [(rf, .inl (y 0, 3, .inl (fun _ => 0))), (mo, .inr (11, [.ref to, .ref ke, .ref ik, .ref rf, .long 0, .long 1, .ref ha, .ref r0, .ref br, .ref bp, .ref bys, .int 0, .int 0, .int 0, .int 0, .int 0, .ref an, .ref va])), (to, .inl (y 0, 228, .inl (fun _ => 0)))] [(mo, .inr (11, [.ref to, .ref ke, .ref ik, .ref rf, .long 0, .long 1, .ref ha, .ref r0, .ref br, .ref bp, .ref bys, .int 0, .int 0, .int 0, .int 0, .int 0, .ref an, .ref va])), (to, .inl (y 0, 228, .inl (fun _ => 0)))] [(rf, .inl (y 0, 3, .inl (fun _ => 0)))] [1, 2] [0] := ⟨rfl, rfl, rfl, rfl, rfl, by decide⟩
      refine kw_go_i hs14 hP hD hS hA (va_runV (As := []) (rest := [.int 1, .int 1]) ⟨hx, hb, hml, hown, hts⟩ (cw_manyGleaners l D y mo to ke ik rf ha r0 br bp bys an va (fun _ => 0) 0 (by first | rfl | decide | assumption | (simp [upd]; done) | (unfold upd; rw [if_neg (by decide)]; assumption) | (unfold upd; rw [if_neg (by decide), if_neg (by decide)]; assumption)) _) (cwV 0 hts gX11_enough_X11_manyGleaners rfl rfl rfl (by decide +kernel) ⟨Nat.le_of_ble_eq_true rfl, Nat.le_of_ble_eq_true rfl⟩) (kw_PreV (ci := 11) (q0 := 1) hs14 hP hD hK hN rfl rfl) rfl rfl hl.1 rfl (lv_room (Nat.le_of_ble_eq_true rfl)) dX11_enough_26 ⟨Nat.le_of_ble_eq_true rfl, Nat.le_of_ble_eq_true rfl⟩) (fun r u H locs hq hP hD hS => ?_)
      obtain rfl := hq
      have hP : va_P D vwCl [(rf, .inl (y 0, 3, .inl (fun _ => 0))), (mo, .inr (11, [.ref to, .ref ke, .ref ik, .ref rf, .long 0, .long 1, .ref ha, .ref r0, .ref br, .ref bp, .ref bys, .int 0, .int 0, .int 0, .int 0, .int 0, .ref an, .ref va])), (to, .inl (y 0, 228, .inl (fun _ => 0)))] H := hP
      have hD : va_D A [(rf, .inl (y 0, 3, .inl (fun _ => 0))), (mo, .inr (11, [.ref to, .ref ke, .ref ik, .ref rf, .long 0, .long 1, .ref ha, .ref r0, .ref br, .ref bp, .ref bys, .int 0, .int 0, .int 0, .int 0, .int 0, .ref an, .ref va])), (to, .inl (y 0, 228, .inl (fun _ => 0)))] := hD
      refine lv_ishl hx hb dX11_enough_29 ?_
      refine lv_topi (fun z15 hz15 => ?_)
      obtain rfl : z15 = 1 := hz15.trans (by first | rfl | decide | (simp [upd]; done))
      refine lv_icmp_ge (tgt := 116) hx hb dX11_enough_30 (by decide) (fun _ => ?_) (fun h9 => absurd h9 (by decide))
      refine lv_iload_n hx hb dX11_enough_116 rfl (lv_at hl 1 rfl) ?_
      have hsp : ((-1) : Int32) = (sp_enough x) := by
        have gZ1 : ¬ (x.toInt64 : Int64).toInt < (0 : Int64).toInt := fun q => h5 (Int64.lt_iff_toInt_lt.mpr q)
        have lZ1 : (x.toInt64).toInt = x.toInt := Int32.toInt_toInt64 _
        have lZ2 : (0 : Int64).toInt = 0 := by decide
        have gZ2 : ¬ (999 : Int64).toInt < (x.toInt64 : Int64).toInt := fun q => h6 (Int64.lt_iff_toInt_lt.mpr q)
        have lZ3 : (999 : Int64).toInt = 999 := by decide
        have gZ3 := Int32.lt_iff_toInt_lt.mp h12
        have lZ4 : (0 : Int32).toInt = 0 := by decide
        unfold sp_enough; first | rfl | decide | exact (if_neg (by omega)).symm | exact (if_pos (by omega)).symm | exact ((if_pos (by omega)).trans (if_neg (by omega))).symm | exact ((if_pos (by omega)).trans (if_pos (by omega))).symm | exact ((if_neg (by omega)).trans (if_pos (by omega))).symm | exact ((if_neg (by omega)).trans (if_neg (by omega))).symm
      exact W.iret (v := (-1)) hx hb hr (fun tZ ht hW => ⟨⟨(-1), (), rfl, hsp, by rw [ht]; exact hP.sub [] rfl, hD.sub [] (by decide) rfl⟩, hS.F ht⟩) hS.2.2 dX11_enough_117
    · skip
      refine lv_iload_n hx hb dX11_enough_88 rfl (lv_at hl 3 rfl) ?_
      refine lv_iconst (v := (-1)) hx hb dX11_enough_89 (by decide) ?_
      refine lv_icmp_eq (tgt := 104) hx hb dX11_enough_90 (by decide) (fun _ => ?_) (fun h9 => absurd h9 (by decide))
      refine lv_iload_n hx hb dX11_enough_104 rfl (lv_at hl 2 rfl) ?_
      refine lv_goto (tgt := 109) hx hb dX11_enough_105 (by decide) ?_
      refine lv_istore_n (lv' := [(2, .int 0), (5, .int 0), (4, .int 0), (3, .int 0), (0, .ref mo), (1, .int x)]) hx hb dX11_enough_109 rfl hl (by decide) rfl (fun ls hl => ?_)
      refine lv_iinc (v := 1) (lv' := [(3, .int 1), (2, .int 0), (5, .int 0), (4, .int 0), (0, .ref mo), (1, .int x)]) hx hb dX11_enough_110 hl (k := 3) rfl (by decide) (by decide) rfl (fun ls hl => ?_)
      refine lv_goto (tgt := 23) hx hb dX11_enough_113 (by decide) ?_
      refine lv_iload_n hx hb dX11_enough_23 rfl (lv_at hl 0 rfl) ?_
      refine lv_iconst (v := 1) hx hb dX11_enough_24 (by decide) ?_
      refine lv_aload_n hx hb dX11_enough_25 rfl (lv_at hl 4 rfl) ?_
      have hs16 : kw_Split [(rf, .inl (y 0, 3, .inl (fun _ => 0))), (mo, .inr (11, [.ref to, .ref ke, .ref ik, .ref rf, .long 0, .long 1, .ref ha, .ref r0, .ref br, .ref bp, .ref bys, .int 0, .int 0, .int 0, .int 0, .int 0, .ref an, .ref va])), (to, .inl (y 0, 228, .inl (fun _ => 0)))] [(mo, .inr (11, [.ref to, .ref ke, .ref ik, .ref rf, .long 0, .long 1, .ref ha, .ref r0, .ref br, .ref bp, .ref bys, .int 0, .int 0, .int 0, .int 0, .int 0, .ref an, .ref va])), (to, .inl (y 0, 228, .inl (fun _ => 0)))] [(rf, .inl (y 0, 3, .inl (fun _ => 0)))] [1, 2] [0] := ⟨rfl, rfl, rfl, rfl, rfl, by decide⟩
      refine kw_go_i hs16 hP hD hS hA (va_runV (As := []) (rest := [.int 1, .int 1]) ⟨hx, hb, hml, hown, hts⟩ (cw_manyGleaners l D y mo to ke ik rf ha r0 br bp bys an va (fun _ => 0) 0 (by first | rfl | decide | assumption | (simp [upd]; done) | (unfold upd; rw [if_neg (by decide)]; assumption) | (unfold upd; rw [if_neg (by decide), if_neg (by decide)]; assumption)) _) (cwV 0 hts gX11_enough_X11_manyGleaners rfl rfl rfl (by decide +kernel) ⟨Nat.le_of_ble_eq_true rfl, Nat.le_of_ble_eq_true rfl⟩) (kw_PreV (ci := 11) (q0 := 1) hs16 hP hD hK hN rfl rfl) rfl rfl hl.1 rfl (lv_room (Nat.le_of_ble_eq_true rfl)) dX11_enough_26 ⟨Nat.le_of_ble_eq_true rfl, Nat.le_of_ble_eq_true rfl⟩) (fun r u H locs hq hP hD hS => ?_)
      obtain rfl := hq
      have hP : va_P D vwCl [(rf, .inl (y 0, 3, .inl (fun _ => 0))), (mo, .inr (11, [.ref to, .ref ke, .ref ik, .ref rf, .long 0, .long 1, .ref ha, .ref r0, .ref br, .ref bp, .ref bys, .int 0, .int 0, .int 0, .int 0, .int 0, .ref an, .ref va])), (to, .inl (y 0, 228, .inl (fun _ => 0)))] H := hP
      have hD : va_D A [(rf, .inl (y 0, 3, .inl (fun _ => 0))), (mo, .inr (11, [.ref to, .ref ke, .ref ik, .ref rf, .long 0, .long 1, .ref ha, .ref r0, .ref br, .ref bp, .ref bys, .int 0, .int 0, .int 0, .int 0, .int 0, .ref an, .ref va])), (to, .inl (y 0, 228, .inl (fun _ => 0)))] := hD
      refine lv_ishl hx hb dX11_enough_29 ?_
      refine lv_topi (fun z17 hz17 => ?_)
      obtain rfl : z17 = 1 := hz17.trans (by first | rfl | decide | (simp [upd]; done))
      refine lv_icmp_ge (tgt := 116) hx hb dX11_enough_30 (by decide) (fun _ => ?_) (fun h9 => absurd h9 (by decide))
      refine lv_iload_n hx hb dX11_enough_116 rfl (lv_at hl 1 rfl) ?_
      have hsp : (0 : Int32) = (sp_enough x) := by
        have gZ1 : ¬ (x.toInt64 : Int64).toInt < (0 : Int64).toInt := fun q => h5 (Int64.lt_iff_toInt_lt.mpr q)
        have lZ1 : (x.toInt64).toInt = x.toInt := Int32.toInt_toInt64 _
        have lZ2 : (0 : Int64).toInt = 0 := by decide
        have gZ2 : ¬ (999 : Int64).toInt < (x.toInt64 : Int64).toInt := fun q => h6 (Int64.lt_iff_toInt_lt.mpr q)
        have lZ3 : (999 : Int64).toInt = 999 := by decide
        have gZ3 : ¬ (0 : Int32).toInt < (x : Int32).toInt := fun q => h13 (Int32.lt_iff_toInt_lt.mpr q)
        have lZ4 : (0 : Int32).toInt = 0 := by decide
        unfold sp_enough; first | rfl | decide | exact (if_neg (by omega)).symm | exact (if_pos (by omega)).symm | exact ((if_pos (by omega)).trans (if_neg (by omega))).symm | exact ((if_pos (by omega)).trans (if_pos (by omega))).symm | exact ((if_neg (by omega)).trans (if_pos (by omega))).symm | exact ((if_neg (by omega)).trans (if_neg (by omega))).symm
      exact W.iret (v := 0) hx hb hr (fun tZ ht hW => ⟨⟨0, (), rfl, hsp, by rw [ht]; exact hP.sub [] rfl, hD.sub [] (by decide) rfl⟩, hS.F ht⟩) hS.2.2 dX11_enough_117

set_option maxHeartbeats 4000000 in
set_option maxRecDepth 100000 in
theorem cq_missed (l : Launch) (D : va_G) (y : Nat → ClassId) (mo : Nat) (to : Nat) (ke : Nat) (ik : Nat) (rf : Nat) (ha : Nat) (r0 : Nat) (br : Nat) (bp : Nat) (bys : Nat) (an : Nat) (va : Nat) (x : Int32) (x2 : Int32) (x3 : Int32) (x4 : Int32) : kw_Mi l yX11_missed wsX11_missed ({ frames := 3, cells := 0, slots := 0, locals := 86 }) D y [.ref mo, .int x, .int x2, .int x3, .int x4] [(mo, .inr (11, [.ref to, .ref ke, .ref ik, .ref rf, .long 0, .long 1, .ref ha, .ref r0, .ref br, .ref bp, .ref bys, .int 0, .int 0, .int 0, .int 0, .int 0, .ref an, .ref va])), (rf, .inl (y 0, 3, .inl (fun _ => 0))), (to, .inl (y 0, 228, .inl (fun _ => 0)))] (fun (r : Int32) (u : Unit) => r = (-2)) (fun _ => []) 0 0 := by
  refine kw_Mi.of (cc := cX11_missed) (maxL := 6) (ret := (some .int)) (by decide) rfl ?_
  intro pZ eZ s mZ beZ meZ cZ A hE
  obtain ⟨hx, hb, hr, hml, hts, hown, hlocks, hin, hA, hP, hD, hK, hN⟩ := hE
  have hS : va_S A s.heap s.heap [] := va_S.rf
  have hl := lv_entry ([.ref mo, .int x, .int x2, .int x3, .int x4]) (n := 6) (Nat.le_of_ble_eq_true rfl)
  rw [lg_entry_eq]
  generalize (lg_sl ([.ref mo, .int x, .int x2, .int x3, .int x4]) ++ List.replicate (6 - (lg_sl ([.ref mo, .int x, .int x2, .int x3, .int x4])).length) Slot.unset).toArray = ls at hl ⊢
  have hl : lv_has ls 6 [(0, .ref mo), (1, .int x), (2, .int x2), (3, .int x3), (4, .int x4)] := hl
  refine lv_aload_n hx hb dX11_missed_0 rfl (lv_at hl 0 rfl) ?_
  refine lv_iload_n hx hb dX11_missed_1 rfl (lv_at hl 1 rfl) ?_
  have hs1 : kw_Split [(mo, .inr (11, [.ref to, .ref ke, .ref ik, .ref rf, .long 0, .long 1, .ref ha, .ref r0, .ref br, .ref bp, .ref bys, .int 0, .int 0, .int 0, .int 0, .int 0, .ref an, .ref va])), (rf, .inl (y 0, 3, .inl (fun _ => 0))), (to, .inl (y 0, 228, .inl (fun _ => 0)))] [(mo, .inr (11, [.ref to, .ref ke, .ref ik, .ref rf, .long 0, .long 1, .ref ha, .ref r0, .ref br, .ref bp, .ref bys, .int 0, .int 0, .int 0, .int 0, .int 0, .ref an, .ref va])), (to, .inl (y 0, 228, .inl (fun _ => 0)))] [(rf, .inl (y 0, 3, .inl (fun _ => 0)))] [0, 2] [1] := ⟨rfl, rfl, rfl, rfl, rfl, by decide⟩
  refine kw_go_i hs1 hP hD hS hA (va_runV (As := [.int x]) (rest := []) ⟨hx, hb, hml, hown, hts⟩ (cw_isField l D y mo to ke ik rf ha r0 br bp bys an va x  _) (cwV 1 hts gX11_missed_X11_isField rfl rfl rfl (by decide +kernel) ⟨Nat.le_of_ble_eq_true rfl, Nat.le_of_ble_eq_true rfl⟩) (kw_PreV (ci := 11) (q0 := 0) hs1 hP hD hK hN rfl rfl) rfl rfl hl.1 rfl (lv_room (Nat.le_of_ble_eq_true rfl)) dX11_missed_2 ⟨Nat.le_of_ble_eq_true rfl, Nat.le_of_ble_eq_true rfl⟩) (fun r u H locs hq hP hD hS => ?_)
  rcases hq with ⟨h2, rfl⟩ | ⟨h3, h4, rfl⟩
  · skip
    have hP : va_P D vwCl [(rf, .inl (y 0, 3, .inl (fun _ => 0))), (mo, .inr (11, [.ref to, .ref ke, .ref ik, .ref rf, .long 0, .long 1, .ref ha, .ref r0, .ref br, .ref bp, .ref bys, .int 0, .int 0, .int 0, .int 0, .int 0, .ref an, .ref va])), (to, .inl (y 0, 228, .inl (fun _ => 0)))] H := hP
    have hD : va_D A [(rf, .inl (y 0, 3, .inl (fun _ => 0))), (mo, .inr (11, [.ref to, .ref ke, .ref ik, .ref rf, .long 0, .long 1, .ref ha, .ref r0, .ref br, .ref bp, .ref bys, .int 0, .int 0, .int 0, .int 0, .int 0, .ref an, .ref va])), (to, .inl (y 0, 228, .inl (fun _ => 0)))] := hD
    refine lv_if_eq (tgt := 30) hx hb dX11_missed_5 (by decide) (fun _ => ?_) (fun h9 => absurd h9 (by decide))
    refine lv_aload_n hx hb dX11_missed_30 rfl (lv_at hl 0 rfl) ?_
    refine lv_bipush (v := (-2)) hx hb dX11_missed_31 (by decide) ?_
    have hs5 : kw_Split [(rf, .inl (y 0, 3, .inl (fun _ => 0))), (mo, .inr (11, [.ref to, .ref ke, .ref ik, .ref rf, .long 0, .long 1, .ref ha, .ref r0, .ref br, .ref bp, .ref bys, .int 0, .int 0, .int 0, .int 0, .int 0, .ref an, .ref va])), (to, .inl (y 0, 228, .inl (fun _ => 0)))] [(mo, .inr (11, [.ref to, .ref ke, .ref ik, .ref rf, .long 0, .long 1, .ref ha, .ref r0, .ref br, .ref bp, .ref bys, .int 0, .int 0, .int 0, .int 0, .int 0, .ref an, .ref va])), (rf, .inl (y 0, 3, .inl (fun _ => 0)))] [(to, .inl (y 0, 228, .inl (fun _ => 0)))] [1, 0] [2] := ⟨rfl, rfl, rfl, rfl, rfl, by decide⟩
    refine kw_go_i hs5 hP hD hS hA (va_runV (As := [.int (-2)]) (rest := []) ⟨hx, hb, hml, hown, hts⟩ (cw_bad l D y mo to ke ik rf ha r0 br bp bys an va (fun _ => 0) (-2)  _) (cwV 1 hts gX11_missed_X11_bad rfl rfl rfl (by decide +kernel) ⟨Nat.le_of_ble_eq_true rfl, Nat.le_of_ble_eq_true rfl⟩) (kw_PreV (ci := 11) (q0 := 1) hs5 hP hD hK hN rfl rfl) rfl rfl hl.1 rfl (lv_room (Nat.le_of_ble_eq_true rfl)) dX11_missed_33 ⟨Nat.le_of_ble_eq_true rfl, Nat.le_of_ble_eq_true rfl⟩) (fun r u H locs hq hP hD hS => ?_)
    obtain rfl := hq
    have hP : va_P D vwCl [(to, .inl (y 0, 228, .inl (fun _ => 0)))] H := hP
    have hD : va_D A [(to, .inl (y 0, 228, .inl (fun _ => 0)))] := hD
    have hsp : ((-2) : Int32) = (-2) := by
      have gZ1 := Int64.lt_iff_toInt_lt.mp h2
      have lZ1 : (x.toInt64).toInt = x.toInt := Int32.toInt_toInt64 _
      have lZ2 : (0 : Int64).toInt = 0 := by decide
      rfl
    exact W.iret (v := (-2)) hx hb hr (fun tZ ht hW => ⟨⟨(-2), (), rfl, hsp, by rw [ht]; exact hP.sub [] rfl, hD.sub [] (by decide) rfl⟩, hS.F ht⟩) hS.2.2 dX11_missed_36
  · skip
    have hP : va_P D vwCl [(rf, .inl (y 0, 3, .inl (fun _ => 0))), (mo, .inr (11, [.ref to, .ref ke, .ref ik, .ref rf, .long 0, .long 1, .ref ha, .ref r0, .ref br, .ref bp, .ref bys, .int 0, .int 0, .int 0, .int 0, .int 0, .ref an, .ref va])), (to, .inl (y 0, 228, .inl (fun _ => 0)))] H := hP
    have hD : va_D A [(rf, .inl (y 0, 3, .inl (fun _ => 0))), (mo, .inr (11, [.ref to, .ref ke, .ref ik, .ref rf, .long 0, .long 1, .ref ha, .ref r0, .ref br, .ref bp, .ref bys, .int 0, .int 0, .int 0, .int 0, .int 0, .ref an, .ref va])), (to, .inl (y 0, 228, .inl (fun _ => 0)))] := hD
    refine lv_if_eq (tgt := 30) hx hb dX11_missed_5 (by decide) (fun _ => ?_) (fun h9 => absurd h9 (by decide))
    refine lv_aload_n hx hb dX11_missed_30 rfl (lv_at hl 0 rfl) ?_
    refine lv_bipush (v := (-2)) hx hb dX11_missed_31 (by decide) ?_
    have hs6 : kw_Split [(rf, .inl (y 0, 3, .inl (fun _ => 0))), (mo, .inr (11, [.ref to, .ref ke, .ref ik, .ref rf, .long 0, .long 1, .ref ha, .ref r0, .ref br, .ref bp, .ref bys, .int 0, .int 0, .int 0, .int 0, .int 0, .ref an, .ref va])), (to, .inl (y 0, 228, .inl (fun _ => 0)))] [(mo, .inr (11, [.ref to, .ref ke, .ref ik, .ref rf, .long 0, .long 1, .ref ha, .ref r0, .ref br, .ref bp, .ref bys, .int 0, .int 0, .int 0, .int 0, .int 0, .ref an, .ref va])), (rf, .inl (y 0, 3, .inl (fun _ => 0)))] [(to, .inl (y 0, 228, .inl (fun _ => 0)))] [1, 0] [2] := ⟨rfl, rfl, rfl, rfl, rfl, by decide⟩
    refine kw_go_i hs6 hP hD hS hA (va_runV (As := [.int (-2)]) (rest := []) ⟨hx, hb, hml, hown, hts⟩ (cw_bad l D y mo to ke ik rf ha r0 br bp bys an va (fun _ => 0) (-2)  _) (cwV 1 hts gX11_missed_X11_bad rfl rfl rfl (by decide +kernel) ⟨Nat.le_of_ble_eq_true rfl, Nat.le_of_ble_eq_true rfl⟩) (kw_PreV (ci := 11) (q0 := 1) hs6 hP hD hK hN rfl rfl) rfl rfl hl.1 rfl (lv_room (Nat.le_of_ble_eq_true rfl)) dX11_missed_33 ⟨Nat.le_of_ble_eq_true rfl, Nat.le_of_ble_eq_true rfl⟩) (fun r u H locs hq hP hD hS => ?_)
    obtain rfl := hq
    have hP : va_P D vwCl [(to, .inl (y 0, 228, .inl (fun _ => 0)))] H := hP
    have hD : va_D A [(to, .inl (y 0, 228, .inl (fun _ => 0)))] := hD
    have hsp : ((-2) : Int32) = (-2) := by
      have gZ1 : ¬ (x.toInt64 : Int64).toInt < (0 : Int64).toInt := fun q => h3 (Int64.lt_iff_toInt_lt.mpr q)
      have lZ1 : (x.toInt64).toInt = x.toInt := Int32.toInt_toInt64 _
      have lZ2 : (0 : Int64).toInt = 0 := by decide
      have gZ2 := Int64.lt_iff_toInt_lt.mp h4
      have lZ3 : ((-1) : Int64).toInt = -1 := by decide
      rfl
    exact W.iret (v := (-2)) hx hb hr (fun tZ ht hW => ⟨⟨(-2), (), rfl, hsp, by rw [ht]; exact hP.sub [] rfl, hD.sub [] (by decide) rfl⟩, hS.F ht⟩) hS.2.2 dX11_missed_36

set_option maxHeartbeats 4000000 in
set_option maxRecDepth 100000 in
theorem cq_clouds (l : Launch) (D : va_G) (y : Nat → ClassId) (mo : Nat) (to : Nat) (ke : Nat) (ik : Nat) (rf : Nat) (ha : Nat) (r0 : Nat) (br : Nat) (bp : Nat) (bys : Nat) (an : Nat) (va : Nat) : kw_Mi l yX11_clouds wsX11_clouds ({ frames := 1, cells := 0, slots := 0, locals := 40 }) D y [.ref mo] [(mo, .inr (11, [.ref to, .ref ke, .ref ik, .ref rf, .long 0, .long 1, .ref ha, .ref r0, .ref br, .ref bp, .ref bys, .int 0, .int 0, .int 0, .int 0, .int 0, .ref an, .ref va])), (to, .inl (y 0, 228, .inl (fun _ => 0)))] (fun (r : Int32) (u : Unit) => r = 1023) (fun _ => []) 0 0 := by
  refine kw_Mi.of (cc := cX11_clouds) (maxL := 6) (ret := (some .int)) (by decide) rfl ?_
  intro pZ eZ s mZ beZ meZ cZ A hE
  obtain ⟨hx, hb, hr, hml, hts, hown, hlocks, hin, hA, hP, hD, hK, hN⟩ := hE
  have hS : va_S A s.heap s.heap [] := va_S.rf
  have hl := lv_entry ([.ref mo]) (n := 6) (Nat.le_of_ble_eq_true rfl)
  rw [lg_entry_eq]
  generalize (lg_sl ([.ref mo]) ++ List.replicate (6 - (lg_sl ([.ref mo])).length) Slot.unset).toArray = ls at hl ⊢
  have hl : lv_has ls 6 [(0, .ref mo)] := hl
  have fw1 := hts (.fieldLink RX11 7 "GleanDuskModel" "told" "[I") (List.mem_of_getElem? (i := 1) rfl)
  have i11 : ∀ w ∈ wsX110, w ∈ wsX11_clouds := fun _ h => List.mem_cons_of_mem _ (List.mem_append_right _ h)
  refine lv_iconst (v := 0) hx hb dX11_clouds_0 (by decide) ?_
  refine lv_istore_n (lv' := [(1, .int 0), (0, .ref mo)]) hx hb dX11_clouds_1 rfl hl (by decide) rfl (fun ls hl => ?_)
  refine lv_iconst (v := 0) hx hb dX11_clouds_2 (by decide) ?_
  refine lv_istore_n (lv' := [(2, .int 0), (1, .int 0), (0, .ref mo)]) hx hb dX11_clouds_3 rfl hl (by decide) rfl (fun ls hl => ?_)
  refine lv_iload_n hx hb dX11_clouds_4 rfl (lv_at hl 0 rfl) ?_
  refine lv_bipush (v := 10) hx hb dX11_clouds_5 (by decide) ?_
  refine lv_icmp_ge (tgt := 120) hx hb dX11_clouds_7 (by decide) (fun h9 => absurd h9 (by decide)) (fun _ => ?_)
  refine lv_iconst (v := 1) hx hb dX11_clouds_10 (by decide) ?_
  refine lv_istore_n (lv' := [(3, .int 1), (2, .int 0), (1, .int 0), (0, .ref mo)]) hx hb dX11_clouds_11 rfl hl (by decide) rfl (fun ls hl => ?_)
  refine lv_iconst (v := 0) hx hb dX11_clouds_12 (by decide) ?_
  refine lv_istore (lv' := [(4, .int 0), (3, .int 1), (2, .int 0), (1, .int 0), (0, .ref mo)]) hx hb dX11_clouds_13 hl (by decide) rfl (fun ls hl => ?_)
  refine lv_iload hx hb dX11_clouds_15 (lv_at hl 0 rfl) ?_
  refine lv_aload_n hx hb dX11_clouds_17 rfl (lv_at hl 4 rfl) ?_
  refine va_get (D := D) (ci := 11) (v := .ref to) (C := RX11) (T := TX11) (N := 18) hx hb hts i11 hown hK hP 0 rfl rfl 0 (by decide) fw1 (fun _ h9 => h9) rfl dX11_clouds_18 ?_
  refine lv_iconst (v := 2) hx hb dX11_clouds_21 (by decide) ?_
  refine va_iald hx hb hK hP 1 0 rfl rfl (by unfold vp_in; decide) dX11_clouds_22 ?_
  refine lv_topi (fun z1 hz1 => ?_)
  obtain rfl : z1 = 0 := hz1.trans (by first | rfl | decide | assumption | (simp [upd]; done) | (unfold upd; rw [if_neg (by decide)]; assumption) | (simp [upd, *]; done))
  refine lv_icmp_ge (tgt := 100) hx hb dX11_clouds_23 (by decide) (fun _ => ?_) (fun h9 => absurd h9 (by decide))
  refine lv_iload_n hx hb dX11_clouds_100 rfl (lv_at hl 3 rfl) ?_
  refine lv_iload_n hx hb dX11_clouds_101 rfl (lv_at hl 1 rfl) ?_
  refine lv_if_eq (tgt := 111) hx hb dX11_clouds_102 (by decide) (fun h9 => absurd h9 (by decide)) (fun _ => ?_)
  refine lv_iconst (v := 1) hx hb dX11_clouds_105 (by decide) ?_
  refine lv_iload_n hx hb dX11_clouds_106 rfl (lv_at hl 2 rfl) ?_
  refine lv_ishl hx hb dX11_clouds_107 ?_
  refine lv_topi (fun z2 hz2 => ?_)
  obtain rfl : z2 = 1 := hz2.trans (by first | rfl | decide | (simp [upd]; done))
  refine lv_goto (tgt := 112) hx hb dX11_clouds_108 (by decide) ?_
  refine lv_ior hx hb dX11_clouds_112 ?_
  refine lv_topi (fun z3 hz3 => ?_)
  obtain rfl : z3 = 1 := hz3.trans (by first | rfl | decide | (simp [upd]; done))
  refine lv_istore_n (lv' := [(1, .int 1), (4, .int 0), (3, .int 1), (2, .int 0), (0, .ref mo)]) hx hb dX11_clouds_113 rfl hl (by decide) rfl (fun ls hl => ?_)
  refine lv_iinc (v := 1) (lv' := [(2, .int 1), (1, .int 1), (4, .int 0), (3, .int 1), (0, .ref mo)]) hx hb dX11_clouds_114 hl (k := 3) rfl (by decide) (by decide) rfl (fun ls hl => ?_)
  refine lv_goto (tgt := 4) hx hb dX11_clouds_117 (by decide) ?_
  refine lv_iload_n hx hb dX11_clouds_4 rfl (lv_at hl 0 rfl) ?_
  refine lv_bipush (v := 10) hx hb dX11_clouds_5 (by decide) ?_
  refine lv_icmp_ge (tgt := 120) hx hb dX11_clouds_7 (by decide) (fun h9 => absurd h9 (by decide)) (fun _ => ?_)
  refine lv_iconst (v := 1) hx hb dX11_clouds_10 (by decide) ?_
  refine lv_istore_n (lv' := [(3, .int 1), (2, .int 1), (1, .int 1), (4, .int 0), (0, .ref mo)]) hx hb dX11_clouds_11 rfl hl (by decide) rfl (fun ls hl => ?_)
  refine lv_iconst (v := 0) hx hb dX11_clouds_12 (by decide) ?_
  refine lv_istore (lv' := [(4, .int 0), (3, .int 1), (2, .int 1), (1, .int 1), (0, .ref mo)]) hx hb dX11_clouds_13 hl (by decide) rfl (fun ls hl => ?_)
  refine lv_iload hx hb dX11_clouds_15 (lv_at hl 0 rfl) ?_
  refine lv_aload_n hx hb dX11_clouds_17 rfl (lv_at hl 4 rfl) ?_
  refine va_get (D := D) (ci := 11) (v := .ref to) (C := RX11) (T := TX11) (N := 18) hx hb hts i11 hown hK hP 0 rfl rfl 0 (by decide) fw1 (fun _ h9 => h9) rfl dX11_clouds_18 ?_
  refine lv_iconst (v := 2) hx hb dX11_clouds_21 (by decide) ?_
  refine va_iald hx hb hK hP 1 0 rfl rfl (by unfold vp_in; decide) dX11_clouds_22 ?_
  refine lv_topi (fun z4 hz4 => ?_)
  obtain rfl : z4 = 0 := hz4.trans (by first | rfl | decide | assumption | (simp [upd]; done) | (unfold upd; rw [if_neg (by decide)]; assumption) | (simp [upd, *]; done))
  refine lv_icmp_ge (tgt := 100) hx hb dX11_clouds_23 (by decide) (fun _ => ?_) (fun h9 => absurd h9 (by decide))
  refine lv_iload_n hx hb dX11_clouds_100 rfl (lv_at hl 3 rfl) ?_
  refine lv_iload_n hx hb dX11_clouds_101 rfl (lv_at hl 1 rfl) ?_
  refine lv_if_eq (tgt := 111) hx hb dX11_clouds_102 (by decide) (fun h9 => absurd h9 (by decide)) (fun _ => ?_)
  refine lv_iconst (v := 1) hx hb dX11_clouds_105 (by decide) ?_
  refine lv_iload_n hx hb dX11_clouds_106 rfl (lv_at hl 2 rfl) ?_
  refine lv_ishl hx hb dX11_clouds_107 ?_
  refine lv_topi (fun z5 hz5 => ?_)
  obtain rfl : z5 = 2 := hz5.trans (by first | rfl | decide | (simp [upd]; done))
  refine lv_goto (tgt := 112) hx hb dX11_clouds_108 (by decide) ?_
  refine lv_ior hx hb dX11_clouds_112 ?_
  refine lv_topi (fun z6 hz6 => ?_)
  obtain rfl : z6 = 3 := hz6.trans (by first | rfl | decide | (simp [upd]; done))
  refine lv_istore_n (lv' := [(1, .int 3), (4, .int 0), (3, .int 1), (2, .int 1), (0, .ref mo)]) hx hb dX11_clouds_113 rfl hl (by decide) rfl (fun ls hl => ?_)
  refine lv_iinc (v := 2) (lv' := [(2, .int 2), (1, .int 3), (4, .int 0), (3, .int 1), (0, .ref mo)]) hx hb dX11_clouds_114 hl (k := 3) rfl (by decide) (by decide) rfl (fun ls hl => ?_)
  refine lv_goto (tgt := 4) hx hb dX11_clouds_117 (by decide) ?_
  refine lv_iload_n hx hb dX11_clouds_4 rfl (lv_at hl 0 rfl) ?_
  refine lv_bipush (v := 10) hx hb dX11_clouds_5 (by decide) ?_
  refine lv_icmp_ge (tgt := 120) hx hb dX11_clouds_7 (by decide) (fun h9 => absurd h9 (by decide)) (fun _ => ?_)
  refine lv_iconst (v := 1) hx hb dX11_clouds_10 (by decide) ?_
  refine lv_istore_n (lv' := [(3, .int 1), (2, .int 2), (1, .int 3), (4, .int 0), (0, .ref mo)]) hx hb dX11_clouds_11 rfl hl (by decide) rfl (fun ls hl => ?_)
  refine lv_iconst (v := 0) hx hb dX11_clouds_12 (by decide) ?_
  refine lv_istore (lv' := [(4, .int 0), (3, .int 1), (2, .int 2), (1, .int 3), (0, .ref mo)]) hx hb dX11_clouds_13 hl (by decide) rfl (fun ls hl => ?_)
  refine lv_iload hx hb dX11_clouds_15 (lv_at hl 0 rfl) ?_
  refine lv_aload_n hx hb dX11_clouds_17 rfl (lv_at hl 4 rfl) ?_
  refine va_get (D := D) (ci := 11) (v := .ref to) (C := RX11) (T := TX11) (N := 18) hx hb hts i11 hown hK hP 0 rfl rfl 0 (by decide) fw1 (fun _ h9 => h9) rfl dX11_clouds_18 ?_
  refine lv_iconst (v := 2) hx hb dX11_clouds_21 (by decide) ?_
  refine va_iald hx hb hK hP 1 0 rfl rfl (by unfold vp_in; decide) dX11_clouds_22 ?_
  refine lv_topi (fun z7 hz7 => ?_)
  obtain rfl : z7 = 0 := hz7.trans (by first | rfl | decide | assumption | (simp [upd]; done) | (unfold upd; rw [if_neg (by decide)]; assumption) | (simp [upd, *]; done))
  refine lv_icmp_ge (tgt := 100) hx hb dX11_clouds_23 (by decide) (fun _ => ?_) (fun h9 => absurd h9 (by decide))
  refine lv_iload_n hx hb dX11_clouds_100 rfl (lv_at hl 3 rfl) ?_
  refine lv_iload_n hx hb dX11_clouds_101 rfl (lv_at hl 1 rfl) ?_
  refine lv_if_eq (tgt := 111) hx hb dX11_clouds_102 (by decide) (fun h9 => absurd h9 (by decide)) (fun _ => ?_)
  refine lv_iconst (v := 1) hx hb dX11_clouds_105 (by decide) ?_
  refine lv_iload_n hx hb dX11_clouds_106 rfl (lv_at hl 2 rfl) ?_
  refine lv_ishl hx hb dX11_clouds_107 ?_
  refine lv_topi (fun z8 hz8 => ?_)
  obtain rfl : z8 = 4 := hz8.trans (by first | rfl | decide | (simp [upd]; done))
  refine lv_goto (tgt := 112) hx hb dX11_clouds_108 (by decide) ?_
  refine lv_ior hx hb dX11_clouds_112 ?_
  refine lv_topi (fun z9 hz9 => ?_)
  obtain rfl : z9 = 7 := hz9.trans (by first | rfl | decide | (simp [upd]; done))
  refine lv_istore_n (lv' := [(1, .int 7), (4, .int 0), (3, .int 1), (2, .int 2), (0, .ref mo)]) hx hb dX11_clouds_113 rfl hl (by decide) rfl (fun ls hl => ?_)
  refine lv_iinc (v := 3) (lv' := [(2, .int 3), (1, .int 7), (4, .int 0), (3, .int 1), (0, .ref mo)]) hx hb dX11_clouds_114 hl (k := 3) rfl (by decide) (by decide) rfl (fun ls hl => ?_)
  refine lv_goto (tgt := 4) hx hb dX11_clouds_117 (by decide) ?_
  refine lv_iload_n hx hb dX11_clouds_4 rfl (lv_at hl 0 rfl) ?_
  refine lv_bipush (v := 10) hx hb dX11_clouds_5 (by decide) ?_
  refine lv_icmp_ge (tgt := 120) hx hb dX11_clouds_7 (by decide) (fun h9 => absurd h9 (by decide)) (fun _ => ?_)
  refine lv_iconst (v := 1) hx hb dX11_clouds_10 (by decide) ?_
  refine lv_istore_n (lv' := [(3, .int 1), (2, .int 3), (1, .int 7), (4, .int 0), (0, .ref mo)]) hx hb dX11_clouds_11 rfl hl (by decide) rfl (fun ls hl => ?_)
  refine lv_iconst (v := 0) hx hb dX11_clouds_12 (by decide) ?_
  refine lv_istore (lv' := [(4, .int 0), (3, .int 1), (2, .int 3), (1, .int 7), (0, .ref mo)]) hx hb dX11_clouds_13 hl (by decide) rfl (fun ls hl => ?_)
  refine lv_iload hx hb dX11_clouds_15 (lv_at hl 0 rfl) ?_
  refine lv_aload_n hx hb dX11_clouds_17 rfl (lv_at hl 4 rfl) ?_
  refine va_get (D := D) (ci := 11) (v := .ref to) (C := RX11) (T := TX11) (N := 18) hx hb hts i11 hown hK hP 0 rfl rfl 0 (by decide) fw1 (fun _ h9 => h9) rfl dX11_clouds_18 ?_
  refine lv_iconst (v := 2) hx hb dX11_clouds_21 (by decide) ?_
  refine va_iald hx hb hK hP 1 0 rfl rfl (by unfold vp_in; decide) dX11_clouds_22 ?_
  refine lv_topi (fun z10 hz10 => ?_)
  obtain rfl : z10 = 0 := hz10.trans (by first | rfl | decide | assumption | (simp [upd]; done) | (unfold upd; rw [if_neg (by decide)]; assumption) | (simp [upd, *]; done))
  refine lv_icmp_ge (tgt := 100) hx hb dX11_clouds_23 (by decide) (fun _ => ?_) (fun h9 => absurd h9 (by decide))
  refine lv_iload_n hx hb dX11_clouds_100 rfl (lv_at hl 3 rfl) ?_
  refine lv_iload_n hx hb dX11_clouds_101 rfl (lv_at hl 1 rfl) ?_
  refine lv_if_eq (tgt := 111) hx hb dX11_clouds_102 (by decide) (fun h9 => absurd h9 (by decide)) (fun _ => ?_)
  refine lv_iconst (v := 1) hx hb dX11_clouds_105 (by decide) ?_
  refine lv_iload_n hx hb dX11_clouds_106 rfl (lv_at hl 2 rfl) ?_
  refine lv_ishl hx hb dX11_clouds_107 ?_
  refine lv_topi (fun z11 hz11 => ?_)
  obtain rfl : z11 = 8 := hz11.trans (by first | rfl | decide | (simp [upd]; done))
  refine lv_goto (tgt := 112) hx hb dX11_clouds_108 (by decide) ?_
  refine lv_ior hx hb dX11_clouds_112 ?_
  refine lv_topi (fun z12 hz12 => ?_)
  obtain rfl : z12 = 15 := hz12.trans (by first | rfl | decide | (simp [upd]; done))
  refine lv_istore_n (lv' := [(1, .int 15), (4, .int 0), (3, .int 1), (2, .int 3), (0, .ref mo)]) hx hb dX11_clouds_113 rfl hl (by decide) rfl (fun ls hl => ?_)
  refine lv_iinc (v := 4) (lv' := [(2, .int 4), (1, .int 15), (4, .int 0), (3, .int 1), (0, .ref mo)]) hx hb dX11_clouds_114 hl (k := 3) rfl (by decide) (by decide) rfl (fun ls hl => ?_)
  refine lv_goto (tgt := 4) hx hb dX11_clouds_117 (by decide) ?_
  refine lv_iload_n hx hb dX11_clouds_4 rfl (lv_at hl 0 rfl) ?_
  refine lv_bipush (v := 10) hx hb dX11_clouds_5 (by decide) ?_
  refine lv_icmp_ge (tgt := 120) hx hb dX11_clouds_7 (by decide) (fun h9 => absurd h9 (by decide)) (fun _ => ?_)
  refine lv_iconst (v := 1) hx hb dX11_clouds_10 (by decide) ?_
  refine lv_istore_n (lv' := [(3, .int 1), (2, .int 4), (1, .int 15), (4, .int 0), (0, .ref mo)]) hx hb dX11_clouds_11 rfl hl (by decide) rfl (fun ls hl => ?_)
  refine lv_iconst (v := 0) hx hb dX11_clouds_12 (by decide) ?_
  refine lv_istore (lv' := [(4, .int 0), (3, .int 1), (2, .int 4), (1, .int 15), (0, .ref mo)]) hx hb dX11_clouds_13 hl (by decide) rfl (fun ls hl => ?_)
  refine lv_iload hx hb dX11_clouds_15 (lv_at hl 0 rfl) ?_
  refine lv_aload_n hx hb dX11_clouds_17 rfl (lv_at hl 4 rfl) ?_
  refine va_get (D := D) (ci := 11) (v := .ref to) (C := RX11) (T := TX11) (N := 18) hx hb hts i11 hown hK hP 0 rfl rfl 0 (by decide) fw1 (fun _ h9 => h9) rfl dX11_clouds_18 ?_
  refine lv_iconst (v := 2) hx hb dX11_clouds_21 (by decide) ?_
  refine va_iald hx hb hK hP 1 0 rfl rfl (by unfold vp_in; decide) dX11_clouds_22 ?_
  refine lv_topi (fun z13 hz13 => ?_)
  obtain rfl : z13 = 0 := hz13.trans (by first | rfl | decide | assumption | (simp [upd]; done) | (unfold upd; rw [if_neg (by decide)]; assumption) | (simp [upd, *]; done))
  refine lv_icmp_ge (tgt := 100) hx hb dX11_clouds_23 (by decide) (fun _ => ?_) (fun h9 => absurd h9 (by decide))
  refine lv_iload_n hx hb dX11_clouds_100 rfl (lv_at hl 3 rfl) ?_
  refine lv_iload_n hx hb dX11_clouds_101 rfl (lv_at hl 1 rfl) ?_
  refine lv_if_eq (tgt := 111) hx hb dX11_clouds_102 (by decide) (fun h9 => absurd h9 (by decide)) (fun _ => ?_)
  refine lv_iconst (v := 1) hx hb dX11_clouds_105 (by decide) ?_
  refine lv_iload_n hx hb dX11_clouds_106 rfl (lv_at hl 2 rfl) ?_
  refine lv_ishl hx hb dX11_clouds_107 ?_
  refine lv_topi (fun z14 hz14 => ?_)
  obtain rfl : z14 = 16 := hz14.trans (by first | rfl | decide | (simp [upd]; done))
  refine lv_goto (tgt := 112) hx hb dX11_clouds_108 (by decide) ?_
  refine lv_ior hx hb dX11_clouds_112 ?_
  refine lv_topi (fun z15 hz15 => ?_)
  obtain rfl : z15 = 31 := hz15.trans (by first | rfl | decide | (simp [upd]; done))
  refine lv_istore_n (lv' := [(1, .int 31), (4, .int 0), (3, .int 1), (2, .int 4), (0, .ref mo)]) hx hb dX11_clouds_113 rfl hl (by decide) rfl (fun ls hl => ?_)
  refine lv_iinc (v := 5) (lv' := [(2, .int 5), (1, .int 31), (4, .int 0), (3, .int 1), (0, .ref mo)]) hx hb dX11_clouds_114 hl (k := 3) rfl (by decide) (by decide) rfl (fun ls hl => ?_)
  refine lv_goto (tgt := 4) hx hb dX11_clouds_117 (by decide) ?_
  refine lv_iload_n hx hb dX11_clouds_4 rfl (lv_at hl 0 rfl) ?_
  refine lv_bipush (v := 10) hx hb dX11_clouds_5 (by decide) ?_
  refine lv_icmp_ge (tgt := 120) hx hb dX11_clouds_7 (by decide) (fun h9 => absurd h9 (by decide)) (fun _ => ?_)
  refine lv_iconst (v := 1) hx hb dX11_clouds_10 (by decide) ?_
  refine lv_istore_n (lv' := [(3, .int 1), (2, .int 5), (1, .int 31), (4, .int 0), (0, .ref mo)]) hx hb dX11_clouds_11 rfl hl (by decide) rfl (fun ls hl => ?_)
  refine lv_iconst (v := 0) hx hb dX11_clouds_12 (by decide) ?_
  refine lv_istore (lv' := [(4, .int 0), (3, .int 1), (2, .int 5), (1, .int 31), (0, .ref mo)]) hx hb dX11_clouds_13 hl (by decide) rfl (fun ls hl => ?_)
  refine lv_iload hx hb dX11_clouds_15 (lv_at hl 0 rfl) ?_
  refine lv_aload_n hx hb dX11_clouds_17 rfl (lv_at hl 4 rfl) ?_
  refine va_get (D := D) (ci := 11) (v := .ref to) (C := RX11) (T := TX11) (N := 18) hx hb hts i11 hown hK hP 0 rfl rfl 0 (by decide) fw1 (fun _ h9 => h9) rfl dX11_clouds_18 ?_
  refine lv_iconst (v := 2) hx hb dX11_clouds_21 (by decide) ?_
  refine va_iald hx hb hK hP 1 0 rfl rfl (by unfold vp_in; decide) dX11_clouds_22 ?_
  refine lv_topi (fun z16 hz16 => ?_)
  obtain rfl : z16 = 0 := hz16.trans (by first | rfl | decide | assumption | (simp [upd]; done) | (unfold upd; rw [if_neg (by decide)]; assumption) | (simp [upd, *]; done))
  refine lv_icmp_ge (tgt := 100) hx hb dX11_clouds_23 (by decide) (fun _ => ?_) (fun h9 => absurd h9 (by decide))
  refine lv_iload_n hx hb dX11_clouds_100 rfl (lv_at hl 3 rfl) ?_
  refine lv_iload_n hx hb dX11_clouds_101 rfl (lv_at hl 1 rfl) ?_
  refine lv_if_eq (tgt := 111) hx hb dX11_clouds_102 (by decide) (fun h9 => absurd h9 (by decide)) (fun _ => ?_)
  refine lv_iconst (v := 1) hx hb dX11_clouds_105 (by decide) ?_
  refine lv_iload_n hx hb dX11_clouds_106 rfl (lv_at hl 2 rfl) ?_
  refine lv_ishl hx hb dX11_clouds_107 ?_
  refine lv_topi (fun z17 hz17 => ?_)
  obtain rfl : z17 = 32 := hz17.trans (by first | rfl | decide | (simp [upd]; done))
  refine lv_goto (tgt := 112) hx hb dX11_clouds_108 (by decide) ?_
  refine lv_ior hx hb dX11_clouds_112 ?_
  refine lv_topi (fun z18 hz18 => ?_)
  obtain rfl : z18 = 63 := hz18.trans (by first | rfl | decide | (simp [upd]; done))
  refine lv_istore_n (lv' := [(1, .int 63), (4, .int 0), (3, .int 1), (2, .int 5), (0, .ref mo)]) hx hb dX11_clouds_113 rfl hl (by decide) rfl (fun ls hl => ?_)
  refine lv_iinc (v := 6) (lv' := [(2, .int 6), (1, .int 63), (4, .int 0), (3, .int 1), (0, .ref mo)]) hx hb dX11_clouds_114 hl (k := 3) rfl (by decide) (by decide) rfl (fun ls hl => ?_)
  refine lv_goto (tgt := 4) hx hb dX11_clouds_117 (by decide) ?_
  refine lv_iload_n hx hb dX11_clouds_4 rfl (lv_at hl 0 rfl) ?_
  refine lv_bipush (v := 10) hx hb dX11_clouds_5 (by decide) ?_
  refine lv_icmp_ge (tgt := 120) hx hb dX11_clouds_7 (by decide) (fun h9 => absurd h9 (by decide)) (fun _ => ?_)
  refine lv_iconst (v := 1) hx hb dX11_clouds_10 (by decide) ?_
  refine lv_istore_n (lv' := [(3, .int 1), (2, .int 6), (1, .int 63), (4, .int 0), (0, .ref mo)]) hx hb dX11_clouds_11 rfl hl (by decide) rfl (fun ls hl => ?_)
  refine lv_iconst (v := 0) hx hb dX11_clouds_12 (by decide) ?_
  refine lv_istore (lv' := [(4, .int 0), (3, .int 1), (2, .int 6), (1, .int 63), (0, .ref mo)]) hx hb dX11_clouds_13 hl (by decide) rfl (fun ls hl => ?_)
  refine lv_iload hx hb dX11_clouds_15 (lv_at hl 0 rfl) ?_
  refine lv_aload_n hx hb dX11_clouds_17 rfl (lv_at hl 4 rfl) ?_
  refine va_get (D := D) (ci := 11) (v := .ref to) (C := RX11) (T := TX11) (N := 18) hx hb hts i11 hown hK hP 0 rfl rfl 0 (by decide) fw1 (fun _ h9 => h9) rfl dX11_clouds_18 ?_
  refine lv_iconst (v := 2) hx hb dX11_clouds_21 (by decide) ?_
  refine va_iald hx hb hK hP 1 0 rfl rfl (by unfold vp_in; decide) dX11_clouds_22 ?_
  refine lv_topi (fun z19 hz19 => ?_)
  obtain rfl : z19 = 0 := hz19.trans (by first | rfl | decide | assumption | (simp [upd]; done) | (unfold upd; rw [if_neg (by decide)]; assumption) | (simp [upd, *]; done))
  refine lv_icmp_ge (tgt := 100) hx hb dX11_clouds_23 (by decide) (fun _ => ?_) (fun h9 => absurd h9 (by decide))
  refine lv_iload_n hx hb dX11_clouds_100 rfl (lv_at hl 3 rfl) ?_
  refine lv_iload_n hx hb dX11_clouds_101 rfl (lv_at hl 1 rfl) ?_
  refine lv_if_eq (tgt := 111) hx hb dX11_clouds_102 (by decide) (fun h9 => absurd h9 (by decide)) (fun _ => ?_)
  refine lv_iconst (v := 1) hx hb dX11_clouds_105 (by decide) ?_
  refine lv_iload_n hx hb dX11_clouds_106 rfl (lv_at hl 2 rfl) ?_
  refine lv_ishl hx hb dX11_clouds_107 ?_
  refine lv_topi (fun z20 hz20 => ?_)
  obtain rfl : z20 = 64 := hz20.trans (by first | rfl | decide | (simp [upd]; done))
  refine lv_goto (tgt := 112) hx hb dX11_clouds_108 (by decide) ?_
  refine lv_ior hx hb dX11_clouds_112 ?_
  refine lv_topi (fun z21 hz21 => ?_)
  obtain rfl : z21 = 127 := hz21.trans (by first | rfl | decide | (simp [upd]; done))
  refine lv_istore_n (lv' := [(1, .int 127), (4, .int 0), (3, .int 1), (2, .int 6), (0, .ref mo)]) hx hb dX11_clouds_113 rfl hl (by decide) rfl (fun ls hl => ?_)
  refine lv_iinc (v := 7) (lv' := [(2, .int 7), (1, .int 127), (4, .int 0), (3, .int 1), (0, .ref mo)]) hx hb dX11_clouds_114 hl (k := 3) rfl (by decide) (by decide) rfl (fun ls hl => ?_)
  refine lv_goto (tgt := 4) hx hb dX11_clouds_117 (by decide) ?_
  refine lv_iload_n hx hb dX11_clouds_4 rfl (lv_at hl 0 rfl) ?_
  refine lv_bipush (v := 10) hx hb dX11_clouds_5 (by decide) ?_
  refine lv_icmp_ge (tgt := 120) hx hb dX11_clouds_7 (by decide) (fun h9 => absurd h9 (by decide)) (fun _ => ?_)
  refine lv_iconst (v := 1) hx hb dX11_clouds_10 (by decide) ?_
  refine lv_istore_n (lv' := [(3, .int 1), (2, .int 7), (1, .int 127), (4, .int 0), (0, .ref mo)]) hx hb dX11_clouds_11 rfl hl (by decide) rfl (fun ls hl => ?_)
  refine lv_iconst (v := 0) hx hb dX11_clouds_12 (by decide) ?_
  refine lv_istore (lv' := [(4, .int 0), (3, .int 1), (2, .int 7), (1, .int 127), (0, .ref mo)]) hx hb dX11_clouds_13 hl (by decide) rfl (fun ls hl => ?_)
  refine lv_iload hx hb dX11_clouds_15 (lv_at hl 0 rfl) ?_
  refine lv_aload_n hx hb dX11_clouds_17 rfl (lv_at hl 4 rfl) ?_
  refine va_get (D := D) (ci := 11) (v := .ref to) (C := RX11) (T := TX11) (N := 18) hx hb hts i11 hown hK hP 0 rfl rfl 0 (by decide) fw1 (fun _ h9 => h9) rfl dX11_clouds_18 ?_
  refine lv_iconst (v := 2) hx hb dX11_clouds_21 (by decide) ?_
  refine va_iald hx hb hK hP 1 0 rfl rfl (by unfold vp_in; decide) dX11_clouds_22 ?_
  refine lv_topi (fun z22 hz22 => ?_)
  obtain rfl : z22 = 0 := hz22.trans (by first | rfl | decide | assumption | (simp [upd]; done) | (unfold upd; rw [if_neg (by decide)]; assumption) | (simp [upd, *]; done))
  refine lv_icmp_ge (tgt := 100) hx hb dX11_clouds_23 (by decide) (fun _ => ?_) (fun h9 => absurd h9 (by decide))
  refine lv_iload_n hx hb dX11_clouds_100 rfl (lv_at hl 3 rfl) ?_
  refine lv_iload_n hx hb dX11_clouds_101 rfl (lv_at hl 1 rfl) ?_
  refine lv_if_eq (tgt := 111) hx hb dX11_clouds_102 (by decide) (fun h9 => absurd h9 (by decide)) (fun _ => ?_)
  refine lv_iconst (v := 1) hx hb dX11_clouds_105 (by decide) ?_
  refine lv_iload_n hx hb dX11_clouds_106 rfl (lv_at hl 2 rfl) ?_
  refine lv_ishl hx hb dX11_clouds_107 ?_
  refine lv_topi (fun z23 hz23 => ?_)
  obtain rfl : z23 = 128 := hz23.trans (by first | rfl | decide | (simp [upd]; done))
  refine lv_goto (tgt := 112) hx hb dX11_clouds_108 (by decide) ?_
  refine lv_ior hx hb dX11_clouds_112 ?_
  refine lv_topi (fun z24 hz24 => ?_)
  obtain rfl : z24 = 255 := hz24.trans (by first | rfl | decide | (simp [upd]; done))
  refine lv_istore_n (lv' := [(1, .int 255), (4, .int 0), (3, .int 1), (2, .int 7), (0, .ref mo)]) hx hb dX11_clouds_113 rfl hl (by decide) rfl (fun ls hl => ?_)
  refine lv_iinc (v := 8) (lv' := [(2, .int 8), (1, .int 255), (4, .int 0), (3, .int 1), (0, .ref mo)]) hx hb dX11_clouds_114 hl (k := 3) rfl (by decide) (by decide) rfl (fun ls hl => ?_)
  refine lv_goto (tgt := 4) hx hb dX11_clouds_117 (by decide) ?_
  refine lv_iload_n hx hb dX11_clouds_4 rfl (lv_at hl 0 rfl) ?_
  refine lv_bipush (v := 10) hx hb dX11_clouds_5 (by decide) ?_
  refine lv_icmp_ge (tgt := 120) hx hb dX11_clouds_7 (by decide) (fun h9 => absurd h9 (by decide)) (fun _ => ?_)
  refine lv_iconst (v := 1) hx hb dX11_clouds_10 (by decide) ?_
  refine lv_istore_n (lv' := [(3, .int 1), (2, .int 8), (1, .int 255), (4, .int 0), (0, .ref mo)]) hx hb dX11_clouds_11 rfl hl (by decide) rfl (fun ls hl => ?_)
  refine lv_iconst (v := 0) hx hb dX11_clouds_12 (by decide) ?_
  refine lv_istore (lv' := [(4, .int 0), (3, .int 1), (2, .int 8), (1, .int 255), (0, .ref mo)]) hx hb dX11_clouds_13 hl (by decide) rfl (fun ls hl => ?_)
  refine lv_iload hx hb dX11_clouds_15 (lv_at hl 0 rfl) ?_
  refine lv_aload_n hx hb dX11_clouds_17 rfl (lv_at hl 4 rfl) ?_
  refine va_get (D := D) (ci := 11) (v := .ref to) (C := RX11) (T := TX11) (N := 18) hx hb hts i11 hown hK hP 0 rfl rfl 0 (by decide) fw1 (fun _ h9 => h9) rfl dX11_clouds_18 ?_
  refine lv_iconst (v := 2) hx hb dX11_clouds_21 (by decide) ?_
  refine va_iald hx hb hK hP 1 0 rfl rfl (by unfold vp_in; decide) dX11_clouds_22 ?_
  refine lv_topi (fun z25 hz25 => ?_)
  obtain rfl : z25 = 0 := hz25.trans (by first | rfl | decide | assumption | (simp [upd]; done) | (unfold upd; rw [if_neg (by decide)]; assumption) | (simp [upd, *]; done))
  refine lv_icmp_ge (tgt := 100) hx hb dX11_clouds_23 (by decide) (fun _ => ?_) (fun h9 => absurd h9 (by decide))
  refine lv_iload_n hx hb dX11_clouds_100 rfl (lv_at hl 3 rfl) ?_
  refine lv_iload_n hx hb dX11_clouds_101 rfl (lv_at hl 1 rfl) ?_
  refine lv_if_eq (tgt := 111) hx hb dX11_clouds_102 (by decide) (fun h9 => absurd h9 (by decide)) (fun _ => ?_)
  refine lv_iconst (v := 1) hx hb dX11_clouds_105 (by decide) ?_
  refine lv_iload_n hx hb dX11_clouds_106 rfl (lv_at hl 2 rfl) ?_
  refine lv_ishl hx hb dX11_clouds_107 ?_
  refine lv_topi (fun z26 hz26 => ?_)
  obtain rfl : z26 = 256 := hz26.trans (by first | rfl | decide | (simp [upd]; done))
  refine lv_goto (tgt := 112) hx hb dX11_clouds_108 (by decide) ?_
  refine lv_ior hx hb dX11_clouds_112 ?_
  refine lv_topi (fun z27 hz27 => ?_)
  obtain rfl : z27 = 511 := hz27.trans (by first | rfl | decide | (simp [upd]; done))
  refine lv_istore_n (lv' := [(1, .int 511), (4, .int 0), (3, .int 1), (2, .int 8), (0, .ref mo)]) hx hb dX11_clouds_113 rfl hl (by decide) rfl (fun ls hl => ?_)
  refine lv_iinc (v := 9) (lv' := [(2, .int 9), (1, .int 511), (4, .int 0), (3, .int 1), (0, .ref mo)]) hx hb dX11_clouds_114 hl (k := 3) rfl (by decide) (by decide) rfl (fun ls hl => ?_)
  refine lv_goto (tgt := 4) hx hb dX11_clouds_117 (by decide) ?_
  refine lv_iload_n hx hb dX11_clouds_4 rfl (lv_at hl 0 rfl) ?_
  refine lv_bipush (v := 10) hx hb dX11_clouds_5 (by decide) ?_
  refine lv_icmp_ge (tgt := 120) hx hb dX11_clouds_7 (by decide) (fun h9 => absurd h9 (by decide)) (fun _ => ?_)
  refine lv_iconst (v := 1) hx hb dX11_clouds_10 (by decide) ?_
  refine lv_istore_n (lv' := [(3, .int 1), (2, .int 9), (1, .int 511), (4, .int 0), (0, .ref mo)]) hx hb dX11_clouds_11 rfl hl (by decide) rfl (fun ls hl => ?_)
  refine lv_iconst (v := 0) hx hb dX11_clouds_12 (by decide) ?_
  refine lv_istore (lv' := [(4, .int 0), (3, .int 1), (2, .int 9), (1, .int 511), (0, .ref mo)]) hx hb dX11_clouds_13 hl (by decide) rfl (fun ls hl => ?_)
  refine lv_iload hx hb dX11_clouds_15 (lv_at hl 0 rfl) ?_
  refine lv_aload_n hx hb dX11_clouds_17 rfl (lv_at hl 4 rfl) ?_
  refine va_get (D := D) (ci := 11) (v := .ref to) (C := RX11) (T := TX11) (N := 18) hx hb hts i11 hown hK hP 0 rfl rfl 0 (by decide) fw1 (fun _ h9 => h9) rfl dX11_clouds_18 ?_
  refine lv_iconst (v := 2) hx hb dX11_clouds_21 (by decide) ?_
  refine va_iald hx hb hK hP 1 0 rfl rfl (by unfold vp_in; decide) dX11_clouds_22 ?_
  refine lv_topi (fun z28 hz28 => ?_)
  obtain rfl : z28 = 0 := hz28.trans (by first | rfl | decide | assumption | (simp [upd]; done) | (unfold upd; rw [if_neg (by decide)]; assumption) | (simp [upd, *]; done))
  refine lv_icmp_ge (tgt := 100) hx hb dX11_clouds_23 (by decide) (fun _ => ?_) (fun h9 => absurd h9 (by decide))
  refine lv_iload_n hx hb dX11_clouds_100 rfl (lv_at hl 3 rfl) ?_
  refine lv_iload_n hx hb dX11_clouds_101 rfl (lv_at hl 1 rfl) ?_
  refine lv_if_eq (tgt := 111) hx hb dX11_clouds_102 (by decide) (fun h9 => absurd h9 (by decide)) (fun _ => ?_)
  refine lv_iconst (v := 1) hx hb dX11_clouds_105 (by decide) ?_
  refine lv_iload_n hx hb dX11_clouds_106 rfl (lv_at hl 2 rfl) ?_
  refine lv_ishl hx hb dX11_clouds_107 ?_
  refine lv_topi (fun z29 hz29 => ?_)
  obtain rfl : z29 = 512 := hz29.trans (by first | rfl | decide | (simp [upd]; done))
  refine lv_goto (tgt := 112) hx hb dX11_clouds_108 (by decide) ?_
  refine lv_ior hx hb dX11_clouds_112 ?_
  refine lv_topi (fun z30 hz30 => ?_)
  obtain rfl : z30 = 1023 := hz30.trans (by first | rfl | decide | (simp [upd]; done))
  refine lv_istore_n (lv' := [(1, .int 1023), (4, .int 0), (3, .int 1), (2, .int 9), (0, .ref mo)]) hx hb dX11_clouds_113 rfl hl (by decide) rfl (fun ls hl => ?_)
  refine lv_iinc (v := 10) (lv' := [(2, .int 10), (1, .int 1023), (4, .int 0), (3, .int 1), (0, .ref mo)]) hx hb dX11_clouds_114 hl (k := 3) rfl (by decide) (by decide) rfl (fun ls hl => ?_)
  refine lv_goto (tgt := 4) hx hb dX11_clouds_117 (by decide) ?_
  refine lv_iload_n hx hb dX11_clouds_4 rfl (lv_at hl 0 rfl) ?_
  refine lv_bipush (v := 10) hx hb dX11_clouds_5 (by decide) ?_
  refine lv_icmp_ge (tgt := 120) hx hb dX11_clouds_7 (by decide) (fun _ => ?_) (fun h9 => absurd h9 (by decide))
  refine lv_iload_n hx hb dX11_clouds_120 rfl (lv_at hl 1 rfl) ?_
  have hsp : (1023 : Int32) = 1023 := by
    rfl
  exact W.iret (v := 1023) hx hb hr (fun tZ ht hW => ⟨⟨1023, (), rfl, hsp, by rw [ht]; exact hP.sub [] rfl, hD.sub [] (by decide) rfl⟩, hS.F ht⟩) hS.2.2 dX11_clouds_121
