set_option maxHeartbeats 4000000 in
set_option maxRecDepth 100000 in
theorem cq_about (l : Launch) (D : va_G) (y : Nat → ClassId) (mo : Nat) (to : Nat) (ke : Nat) (ik : Nat) (rf : Nat) (ha : Nat) (r0 : Nat) (br : Nat) (bp : Nat) (bys : Nat) (an : Nat) (va : Nat) (x : Int32) (x2 : Int32) : kw_Mi l yX11_about wsX11_about ({ frames := 3, cells := 0, slots := 0, locals := 86 }) D y [.ref mo, .int x, .int x2] [(mo, .inr (11, [.ref to, .ref ke, .ref ik, .ref rf, .long 0, .long 1, .ref ha, .ref r0, .ref br, .ref bp, .ref bys, .int 0, .int 0, .int 0, .int 0, .int 0, .ref an, .ref va])), (rf, .inl (y 0, 3, .inl (fun _ => 0))), (to, .inl (y 0, 228, .inl (fun _ => 0)))] (fun (r : Int32) (u : Unit) => r = (-2)) (fun _ => []) 0 0 := by
  refine kw_Mi.of (cc := cX11_about) (maxL := 3) (ret := (some .int)) (by decide) rfl ?_
  intro pZ eZ s mZ beZ meZ cZ A hE
  obtain ⟨hx, hb, hr, hml, hts, hown, hlocks, hin, hA, hP, hD, hK, hN⟩ := hE
  have hS : va_S A s.heap s.heap [] := va_S.rf
  have hl := lv_entry ([.ref mo, .int x, .int x2]) (n := 3) (Nat.le_of_ble_eq_true rfl)
  rw [lg_entry_eq]
  generalize (lg_sl ([.ref mo, .int x, .int x2]) ++ List.replicate (3 - (lg_sl ([.ref mo, .int x, .int x2])).length) Slot.unset).toArray = ls at hl ⊢
  have hl : lv_has ls 3 [(0, .ref mo), (1, .int x), (2, .int x2)] := hl
  refine lv_aload_n hx hb dX11_about_0 rfl (lv_at hl 0 rfl) ?_
  refine lv_iload_n hx hb dX11_about_1 rfl (lv_at hl 1 rfl) ?_
  have hs1 : kw_Split [(mo, .inr (11, [.ref to, .ref ke, .ref ik, .ref rf, .long 0, .long 1, .ref ha, .ref r0, .ref br, .ref bp, .ref bys, .int 0, .int 0, .int 0, .int 0, .int 0, .ref an, .ref va])), (rf, .inl (y 0, 3, .inl (fun _ => 0))), (to, .inl (y 0, 228, .inl (fun _ => 0)))] [(mo, .inr (11, [.ref to, .ref ke, .ref ik, .ref rf, .long 0, .long 1, .ref ha, .ref r0, .ref br, .ref bp, .ref bys, .int 0, .int 0, .int 0, .int 0, .int 0, .ref an, .ref va])), (to, .inl (y 0, 228, .inl (fun _ => 0)))] [(rf, .inl (y 0, 3, .inl (fun _ => 0)))] [0, 2] [1] := ⟨rfl, rfl, rfl, rfl, rfl, by decide⟩
  refine kw_go_i hs1 hP hD hS hA (va_runV (As := [.int x]) (rest := []) ⟨hx, hb, hml, hown, hts⟩ (cw_isGleaner l D y mo to ke ik rf ha r0 br bp bys an va x  _) (cwV 1 hts gX11_about_X11_isGleaner rfl rfl rfl (by decide +kernel) ⟨Nat.le_of_ble_eq_true rfl, Nat.le_of_ble_eq_true rfl⟩) (kw_PreV (ci := 11) (q0 := 0) hs1 hP hD hK hN rfl rfl) rfl rfl hl.1 rfl (lv_room (Nat.le_of_ble_eq_true rfl)) dX11_about_2 ⟨Nat.le_of_ble_eq_true rfl, Nat.le_of_ble_eq_true rfl⟩) (fun r u H locs hq hP hD hS => ?_)
  rcases hq with ⟨h2, rfl⟩ | ⟨h3, h4, rfl⟩
  · skip
    have hP : va_P D vwCl [(rf, .inl (y 0, 3, .inl (fun _ => 0))), (mo, .inr (11, [.ref to, .ref ke, .ref ik, .ref rf, .long 0, .long 1, .ref ha, .ref r0, .ref br, .ref bp, .ref bys, .int 0, .int 0, .int 0, .int 0, .int 0, .ref an, .ref va])), (to, .inl (y 0, 228, .inl (fun _ => 0)))] H := hP
    have hD : va_D A [(rf, .inl (y 0, 3, .inl (fun _ => 0))), (mo, .inr (11, [.ref to, .ref ke, .ref ik, .ref rf, .long 0, .long 1, .ref ha, .ref r0, .ref br, .ref bp, .ref bys, .int 0, .int 0, .int 0, .int 0, .int 0, .ref an, .ref va])), (to, .inl (y 0, 228, .inl (fun _ => 0)))] := hD
    refine lv_if_eq (tgt := 20) hx hb dX11_about_5 (by decide) (fun _ => ?_) (fun h9 => absurd h9 (by decide))
    refine lv_aload_n hx hb dX11_about_20 rfl (lv_at hl 0 rfl) ?_
    refine lv_bipush (v := (-2)) hx hb dX11_about_21 (by decide) ?_
    have hs5 : kw_Split [(rf, .inl (y 0, 3, .inl (fun _ => 0))), (mo, .inr (11, [.ref to, .ref ke, .ref ik, .ref rf, .long 0, .long 1, .ref ha, .ref r0, .ref br, .ref bp, .ref bys, .int 0, .int 0, .int 0, .int 0, .int 0, .ref an, .ref va])), (to, .inl (y 0, 228, .inl (fun _ => 0)))] [(mo, .inr (11, [.ref to, .ref ke, .ref ik, .ref rf, .long 0, .long 1, .ref ha, .ref r0, .ref br, .ref bp, .ref bys, .int 0, .int 0, .int 0, .int 0, .int 0, .ref an, .ref va])), (rf, .inl (y 0, 3, .inl (fun _ => 0)))] [(to, .inl (y 0, 228, .inl (fun _ => 0)))] [1, 0] [2] := ⟨rfl, rfl, rfl, rfl, rfl, by decide⟩
    refine kw_go_i hs5 hP hD hS hA (va_runV (As := [.int (-2)]) (rest := []) ⟨hx, hb, hml, hown, hts⟩ (cw_bad l D y mo to ke ik rf ha r0 br bp bys an va (fun _ => 0) (-2)  _) (cwV 1 hts gX11_about_X11_bad rfl rfl rfl (by decide +kernel) ⟨Nat.le_of_ble_eq_true rfl, Nat.le_of_ble_eq_true rfl⟩) (kw_PreV (ci := 11) (q0 := 1) hs5 hP hD hK hN rfl rfl) rfl rfl hl.1 rfl (lv_room (Nat.le_of_ble_eq_true rfl)) dX11_about_23 ⟨Nat.le_of_ble_eq_true rfl, Nat.le_of_ble_eq_true rfl⟩) (fun r u H locs hq hP hD hS => ?_)
    obtain rfl := hq
    have hP : va_P D vwCl [(to, .inl (y 0, 228, .inl (fun _ => 0)))] H := hP
    have hD : va_D A [(to, .inl (y 0, 228, .inl (fun _ => 0)))] := hD
    have hsp : ((-2) : Int32) = (-2) := by
      have gZ1 := Int64.lt_iff_toInt_lt.mp h2
      have lZ1 : (x.toInt64).toInt = x.toInt := Int32.toInt_toInt64 _
      have lZ2 : (0 : Int64).toInt = 0 := by decide
      rfl
    exact W.iret (v := (-2)) hx hb hr (fun tZ ht hW => ⟨⟨(-2), (), rfl, hsp, by rw [ht]; exact hP.sub [] rfl, hD.sub [] (by decide) rfl⟩, hS.F ht⟩) hS.2.2 dX11_about_26
  · skip
    have hP : va_P D vwCl [(rf, .inl (y 0, 3, .inl (fun _ => 0))), (mo, .inr (11, [.ref to, .ref ke, .ref ik, .ref rf, .long 0, .long 1, .ref ha, .ref r0, .ref br, .ref bp, .ref bys, .int 0, .int 0, .int 0, .int 0, .int 0, .ref an, .ref va])), (to, .inl (y 0, 228, .inl (fun _ => 0)))] H := hP
    have hD : va_D A [(rf, .inl (y 0, 3, .inl (fun _ => 0))), (mo, .inr (11, [.ref to, .ref ke, .ref ik, .ref rf, .long 0, .long 1, .ref ha, .ref r0, .ref br, .ref bp, .ref bys, .int 0, .int 0, .int 0, .int 0, .int 0, .ref an, .ref va])), (to, .inl (y 0, 228, .inl (fun _ => 0)))] := hD
    refine lv_if_eq (tgt := 20) hx hb dX11_about_5 (by decide) (fun _ => ?_) (fun h9 => absurd h9 (by decide))
    refine lv_aload_n hx hb dX11_about_20 rfl (lv_at hl 0 rfl) ?_
    refine lv_bipush (v := (-2)) hx hb dX11_about_21 (by decide) ?_
    have hs6 : kw_Split [(rf, .inl (y 0, 3, .inl (fun _ => 0))), (mo, .inr (11, [.ref to, .ref ke, .ref ik, .ref rf, .long 0, .long 1, .ref ha, .ref r0, .ref br, .ref bp, .ref bys, .int 0, .int 0, .int 0, .int 0, .int 0, .ref an, .ref va])), (to, .inl (y 0, 228, .inl (fun _ => 0)))] [(mo, .inr (11, [.ref to, .ref ke, .ref ik, .ref rf, .long 0, .long 1, .ref ha, .ref r0, .ref br, .ref bp, .ref bys, .int 0, .int 0, .int 0, .int 0, .int 0, .ref an, .ref va])), (rf, .inl (y 0, 3, .inl (fun _ => 0)))] [(to, .inl (y 0, 228, .inl (fun _ => 0)))] [1, 0] [2] := ⟨rfl, rfl, rfl, rfl, rfl, by decide⟩
    refine kw_go_i hs6 hP hD hS hA (va_runV (As := [.int (-2)]) (rest := []) ⟨hx, hb, hml, hown, hts⟩ (cw_bad l D y mo to ke ik rf ha r0 br bp bys an va (fun _ => 0) (-2)  _) (cwV 1 hts gX11_about_X11_bad rfl rfl rfl (by decide +kernel) ⟨Nat.le_of_ble_eq_true rfl, Nat.le_of_ble_eq_true rfl⟩) (kw_PreV (ci := 11) (q0 := 1) hs6 hP hD hK hN rfl rfl) rfl rfl hl.1 rfl (lv_room (Nat.le_of_ble_eq_true rfl)) dX11_about_23 ⟨Nat.le_of_ble_eq_true rfl, Nat.le_of_ble_eq_true rfl⟩) (fun r u H locs hq hP hD hS => ?_)
    obtain rfl := hq
    have hP : va_P D vwCl [(to, .inl (y 0, 228, .inl (fun _ => 0)))] H := hP
    have hD : va_D A [(to, .inl (y 0, 228, .inl (fun _ => 0)))] := hD
    have hsp : ((-2) : Int32) = (-2) := by
      have gZ1 : ¬ (x.toInt64 : Int64).toInt < (0 : Int64).toInt := fun q => h3 (Int64.lt_iff_toInt_lt.mpr q)
      have lZ1 : (x.toInt64).toInt = x.toInt := Int32.toInt_toInt64 _
      have lZ2 : (0 : Int64).toInt = 0 := by decide
      have gZ2 := Int64.lt_iff_toInt_lt.mp h4
      have lZ3 : ((-1) : Int64).toInt = -1 := by decide
      rfl
    exact W.iret (v := (-2)) hx hb hr (fun tZ ht hW => ⟨⟨(-2), (), rfl, hsp, by rw [ht]; exact hP.sub [] rfl, hD.sub [] (by decide) rfl⟩, hS.F ht⟩) hS.2.2 dX11_about_26

set_option maxHeartbeats 4000000 in
set_option maxRecDepth 100000 in
theorem cq_seen (l : Launch) (D : va_G) (y : Nat → ClassId) (mo : Nat) (to : Nat) (ke : Nat) (ik : Nat) (rf : Nat) (ha : Nat) (r0 : Nat) (br : Nat) (bp : Nat) (bys : Nat) (an : Nat) (va : Nat) (x : Int32) (x2 : Int32) : kw_Mi l yX11_seen wsX11_seen ({ frames := 3, cells := 0, slots := 0, locals := 86 }) D y [.ref mo, .int x, .int x2] [(mo, .inr (11, [.ref to, .ref ke, .ref ik, .ref rf, .long 0, .long 1, .ref ha, .ref r0, .ref br, .ref bp, .ref bys, .int 0, .int 0, .int 0, .int 0, .int 0, .ref an, .ref va])), (rf, .inl (y 0, 3, .inl (fun _ => 0))), (to, .inl (y 0, 228, .inl (fun _ => 0)))] (fun (r : Int32) (u : Unit) => r = (-2)) (fun _ => []) 0 0 := by
  refine kw_Mi.of (cc := cX11_seen) (maxL := 3) (ret := (some .int)) (by decide) rfl ?_
  intro pZ eZ s mZ beZ meZ cZ A hE
  obtain ⟨hx, hb, hr, hml, hts, hown, hlocks, hin, hA, hP, hD, hK, hN⟩ := hE
  have hS : va_S A s.heap s.heap [] := va_S.rf
  have hl := lv_entry ([.ref mo, .int x, .int x2]) (n := 3) (Nat.le_of_ble_eq_true rfl)
  rw [lg_entry_eq]
  generalize (lg_sl ([.ref mo, .int x, .int x2]) ++ List.replicate (3 - (lg_sl ([.ref mo, .int x, .int x2])).length) Slot.unset).toArray = ls at hl ⊢
  have hl : lv_has ls 3 [(0, .ref mo), (1, .int x), (2, .int x2)] := hl
  refine lv_aload_n hx hb dX11_seen_0 rfl (lv_at hl 0 rfl) ?_
  refine lv_iload_n hx hb dX11_seen_1 rfl (lv_at hl 1 rfl) ?_
  have hs1 : kw_Split [(mo, .inr (11, [.ref to, .ref ke, .ref ik, .ref rf, .long 0, .long 1, .ref ha, .ref r0, .ref br, .ref bp, .ref bys, .int 0, .int 0, .int 0, .int 0, .int 0, .ref an, .ref va])), (rf, .inl (y 0, 3, .inl (fun _ => 0))), (to, .inl (y 0, 228, .inl (fun _ => 0)))] [(mo, .inr (11, [.ref to, .ref ke, .ref ik, .ref rf, .long 0, .long 1, .ref ha, .ref r0, .ref br, .ref bp, .ref bys, .int 0, .int 0, .int 0, .int 0, .int 0, .ref an, .ref va])), (to, .inl (y 0, 228, .inl (fun _ => 0)))] [(rf, .inl (y 0, 3, .inl (fun _ => 0)))] [0, 2] [1] := ⟨rfl, rfl, rfl, rfl, rfl, by decide⟩
  refine kw_go_i hs1 hP hD hS hA (va_runV (As := [.int x]) (rest := []) ⟨hx, hb, hml, hown, hts⟩ (cw_isField l D y mo to ke ik rf ha r0 br bp bys an va x  _) (cwV 1 hts gX11_seen_X11_isField rfl rfl rfl (by decide +kernel) ⟨Nat.le_of_ble_eq_true rfl, Nat.le_of_ble_eq_true rfl⟩) (kw_PreV (ci := 11) (q0 := 0) hs1 hP hD hK hN rfl rfl) rfl rfl hl.1 rfl (lv_room (Nat.le_of_ble_eq_true rfl)) dX11_seen_2 ⟨Nat.le_of_ble_eq_true rfl, Nat.le_of_ble_eq_true rfl⟩) (fun r u H locs hq hP hD hS => ?_)
  rcases hq with ⟨h2, rfl⟩ | ⟨h3, h4, rfl⟩
  · skip
    have hP : va_P D vwCl [(rf, .inl (y 0, 3, .inl (fun _ => 0))), (mo, .inr (11, [.ref to, .ref ke, .ref ik, .ref rf, .long 0, .long 1, .ref ha, .ref r0, .ref br, .ref bp, .ref bys, .int 0, .int 0, .int 0, .int 0, .int 0, .ref an, .ref va])), (to, .inl (y 0, 228, .inl (fun _ => 0)))] H := hP
    have hD : va_D A [(rf, .inl (y 0, 3, .inl (fun _ => 0))), (mo, .inr (11, [.ref to, .ref ke, .ref ik, .ref rf, .long 0, .long 1, .ref ha, .ref r0, .ref br, .ref bp, .ref bys, .int 0, .int 0, .int 0, .int 0, .int 0, .ref an, .ref va])), (to, .inl (y 0, 228, .inl (fun _ => 0)))] := hD
    refine lv_if_eq (tgt := 27) hx hb dX11_seen_5 (by decide) (fun _ => ?_) (fun h9 => absurd h9 (by decide))
    refine lv_aload_n hx hb dX11_seen_27 rfl (lv_at hl 0 rfl) ?_
    refine lv_bipush (v := (-2)) hx hb dX11_seen_28 (by decide) ?_
    have hs5 : kw_Split [(rf, .inl (y 0, 3, .inl (fun _ => 0))), (mo, .inr (11, [.ref to, .ref ke, .ref ik, .ref rf, .long 0, .long 1, .ref ha, .ref r0, .ref br, .ref bp, .ref bys, .int 0, .int 0, .int 0, .int 0, .int 0, .ref an, .ref va])), (to, .inl (y 0, 228, .inl (fun _ => 0)))] [(mo, .inr (11, [.ref to, .ref ke, .ref ik, .ref rf, .long 0, .long 1, .ref ha, .ref r0, .ref br, .ref bp, .ref bys, .int 0, .int 0, .int 0, .int 0, .int 0, .ref an, .ref va])), (rf, .inl (y 0, 3, .inl (fun _ => 0)))] [(to, .inl (y 0, 228, .inl (fun _ => 0)))] [1, 0] [2] := ⟨rfl, rfl, rfl, rfl, rfl, by decide⟩
    refine kw_go_i hs5 hP hD hS hA (va_runV (As := [.int (-2)]) (rest := []) ⟨hx, hb, hml, hown, hts⟩ (cw_bad l D y mo to ke ik rf ha r0 br bp bys an va (fun _ => 0) (-2)  _) (cwV 1 hts gX11_seen_X11_bad rfl rfl rfl (by decide +kernel) ⟨Nat.le_of_ble_eq_true rfl, Nat.le_of_ble_eq_true rfl⟩) (kw_PreV (ci := 11) (q0 := 1) hs5 hP hD hK hN rfl rfl) rfl rfl hl.1 rfl (lv_room (Nat.le_of_ble_eq_true rfl)) dX11_seen_30 ⟨Nat.le_of_ble_eq_true rfl, Nat.le_of_ble_eq_true rfl⟩) (fun r u H locs hq hP hD hS => ?_)
    obtain rfl := hq
    have hP : va_P D vwCl [(to, .inl (y 0, 228, .inl (fun _ => 0)))] H := hP
    have hD : va_D A [(to, .inl (y 0, 228, .inl (fun _ => 0)))] := hD
    have hsp : ((-2) : Int32) = (-2) := by
      have gZ1 := Int64.lt_iff_toInt_lt.mp h2
      have lZ1 : (x.toInt64).toInt = x.toInt := Int32.toInt_toInt64 _
      have lZ2 : (0 : Int64).toInt = 0 := by decide
      rfl
    exact W.iret (v := (-2)) hx hb hr (fun tZ ht hW => ⟨⟨(-2), (), rfl, hsp, by rw [ht]; exact hP.sub [] rfl, hD.sub [] (by decide) rfl⟩, hS.F ht⟩) hS.2.2 dX11_seen_33
  · skip
    have hP : va_P D vwCl [(rf, .inl (y 0, 3, .inl (fun _ => 0))), (mo, .inr (11, [.ref to, .ref ke, .ref ik, .ref rf, .long 0, .long 1, .ref ha, .ref r0, .ref br, .ref bp, .ref bys, .int 0, .int 0, .int 0, .int 0, .int 0, .ref an, .ref va])), (to, .inl (y 0, 228, .inl (fun _ => 0)))] H := hP
    have hD : va_D A [(rf, .inl (y 0, 3, .inl (fun _ => 0))), (mo, .inr (11, [.ref to, .ref ke, .ref ik, .ref rf, .long 0, .long 1, .ref ha, .ref r0, .ref br, .ref bp, .ref bys, .int 0, .int 0, .int 0, .int 0, .int 0, .ref an, .ref va])), (to, .inl (y 0, 228, .inl (fun _ => 0)))] := hD
    refine lv_if_eq (tgt := 27) hx hb dX11_seen_5 (by decide) (fun _ => ?_) (fun h9 => absurd h9 (by decide))
    refine lv_aload_n hx hb dX11_seen_27 rfl (lv_at hl 0 rfl) ?_
    refine lv_bipush (v := (-2)) hx hb dX11_seen_28 (by decide) ?_
    have hs6 : kw_Split [(rf, .inl (y 0, 3, .inl (fun _ => 0))), (mo, .inr (11, [.ref to, .ref ke, .ref ik, .ref rf, .long 0, .long 1, .ref ha, .ref r0, .ref br, .ref bp, .ref bys, .int 0, .int 0, .int 0, .int 0, .int 0, .ref an, .ref va])), (to, .inl (y 0, 228, .inl (fun _ => 0)))] [(mo, .inr (11, [.ref to, .ref ke, .ref ik, .ref rf, .long 0, .long 1, .ref ha, .ref r0, .ref br, .ref bp, .ref bys, .int 0, .int 0, .int 0, .int 0, .int 0, .ref an, .ref va])), (rf, .inl (y 0, 3, .inl (fun _ => 0)))] [(to, .inl (y 0, 228, .inl (fun _ => 0)))] [1, 0] [2] := ⟨rfl, rfl, rfl, rfl, rfl, by decide⟩
    refine kw_go_i hs6 hP hD hS hA (va_runV (As := [.int (-2)]) (rest := []) ⟨hx, hb, hml, hown, hts⟩ (cw_bad l D y mo to ke ik rf ha r0 br bp bys an va (fun _ => 0) (-2)  _) (cwV 1 hts gX11_seen_X11_bad rfl rfl rfl (by decide +kernel) ⟨Nat.le_of_ble_eq_true rfl, Nat.le_of_ble_eq_true rfl⟩) (kw_PreV (ci := 11) (q0 := 1) hs6 hP hD hK hN rfl rfl) rfl rfl hl.1 rfl (lv_room (Nat.le_of_ble_eq_true rfl)) dX11_seen_30 ⟨Nat.le_of_ble_eq_true rfl, Nat.le_of_ble_eq_true rfl⟩) (fun r u H locs hq hP hD hS => ?_)
    obtain rfl := hq
    have hP : va_P D vwCl [(to, .inl (y 0, 228, .inl (fun _ => 0)))] H := hP
    have hD : va_D A [(to, .inl (y 0, 228, .inl (fun _ => 0)))] := hD
    have hsp : ((-2) : Int32) = (-2) := by
      have gZ1 : ¬ (x.toInt64 : Int64).toInt < (0 : Int64).toInt := fun q => h3 (Int64.lt_iff_toInt_lt.mpr q)
      have lZ1 : (x.toInt64).toInt = x.toInt := Int32.toInt_toInt64 _
      have lZ2 : (0 : Int64).toInt = 0 := by decide
      have gZ2 := Int64.lt_iff_toInt_lt.mp h4
      have lZ3 : ((-1) : Int64).toInt = -1 := by decide
      rfl
    exact W.iret (v := (-2)) hx hb hr (fun tZ ht hW => ⟨⟨(-2), (), rfl, hsp, by rw [ht]; exact hP.sub [] rfl, hD.sub [] (by decide) rfl⟩, hS.F ht⟩) hS.2.2 dX11_seen_33

set_option maxHeartbeats 4000000 in
set_option maxRecDepth 100000 in
theorem cq_then (l : Launch) (D : va_G) (y : Nat → ClassId) (mo : Nat) (to : Nat) (ke : Nat) (ik : Nat) (rf : Nat) (ha : Nat) (r0 : Nat) (br : Nat) (bp : Nat) (bys : Nat) (an : Nat) (va : Nat) (x : Int32) (x2 : Int32) : kw_Mi l yX11_then wsX11_then ({ frames := 3, cells := 0, slots := 0, locals := 86 }) D y [.ref mo, .int x, .int x2] [(mo, .inr (11, [.ref to, .ref ke, .ref ik, .ref rf, .long 0, .long 1, .ref ha, .ref r0, .ref br, .ref bp, .ref bys, .int 0, .int 0, .int 0, .int 0, .int 0, .ref an, .ref va])), (rf, .inl (y 0, 3, .inl (fun _ => 0))), (to, .inl (y 0, 228, .inl (fun _ => 0)))] (fun (r : Int32) (u : Unit) => r = (-2)) (fun _ => []) 0 0 := by
  refine kw_Mi.of (cc := cX11_then) (maxL := 5) (ret := (some .int)) (by decide) rfl ?_
  intro pZ eZ s mZ beZ meZ cZ A hE
  obtain ⟨hx, hb, hr, hml, hts, hown, hlocks, hin, hA, hP, hD, hK, hN⟩ := hE
  have hS : va_S A s.heap s.heap [] := va_S.rf
  have hl := lv_entry ([.ref mo, .int x, .int x2]) (n := 5) (Nat.le_of_ble_eq_true rfl)
  rw [lg_entry_eq]
  generalize (lg_sl ([.ref mo, .int x, .int x2]) ++ List.replicate (5 - (lg_sl ([.ref mo, .int x, .int x2])).length) Slot.unset).toArray = ls at hl ⊢
  have hl : lv_has ls 5 [(0, .ref mo), (1, .int x), (2, .int x2)] := hl
  refine lv_aload_n hx hb dX11_then_0 rfl (lv_at hl 0 rfl) ?_
  refine lv_iload_n hx hb dX11_then_1 rfl (lv_at hl 1 rfl) ?_
  have hs1 : kw_Split [(mo, .inr (11, [.ref to, .ref ke, .ref ik, .ref rf, .long 0, .long 1, .ref ha, .ref r0, .ref br, .ref bp, .ref bys, .int 0, .int 0, .int 0, .int 0, .int 0, .ref an, .ref va])), (rf, .inl (y 0, 3, .inl (fun _ => 0))), (to, .inl (y 0, 228, .inl (fun _ => 0)))] [(mo, .inr (11, [.ref to, .ref ke, .ref ik, .ref rf, .long 0, .long 1, .ref ha, .ref r0, .ref br, .ref bp, .ref bys, .int 0, .int 0, .int 0, .int 0, .int 0, .ref an, .ref va])), (to, .inl (y 0, 228, .inl (fun _ => 0)))] [(rf, .inl (y 0, 3, .inl (fun _ => 0)))] [0, 2] [1] := ⟨rfl, rfl, rfl, rfl, rfl, by decide⟩
  refine kw_go_i hs1 hP hD hS hA (va_runV (As := [.int x]) (rest := []) ⟨hx, hb, hml, hown, hts⟩ (cw_isGleaner l D y mo to ke ik rf ha r0 br bp bys an va x  _) (cwV 1 hts gX11_then_X11_isGleaner rfl rfl rfl (by decide +kernel) ⟨Nat.le_of_ble_eq_true rfl, Nat.le_of_ble_eq_true rfl⟩) (kw_PreV (ci := 11) (q0 := 0) hs1 hP hD hK hN rfl rfl) rfl rfl hl.1 rfl (lv_room (Nat.le_of_ble_eq_true rfl)) dX11_then_2 ⟨Nat.le_of_ble_eq_true rfl, Nat.le_of_ble_eq_true rfl⟩) (fun r u H locs hq hP hD hS => ?_)
  rcases hq with ⟨h2, rfl⟩ | ⟨h3, h4, rfl⟩
  · skip
    have hP : va_P D vwCl [(rf, .inl (y 0, 3, .inl (fun _ => 0))), (mo, .inr (11, [.ref to, .ref ke, .ref ik, .ref rf, .long 0, .long 1, .ref ha, .ref r0, .ref br, .ref bp, .ref bys, .int 0, .int 0, .int 0, .int 0, .int 0, .ref an, .ref va])), (to, .inl (y 0, 228, .inl (fun _ => 0)))] H := hP
    have hD : va_D A [(rf, .inl (y 0, 3, .inl (fun _ => 0))), (mo, .inr (11, [.ref to, .ref ke, .ref ik, .ref rf, .long 0, .long 1, .ref ha, .ref r0, .ref br, .ref bp, .ref bys, .int 0, .int 0, .int 0, .int 0, .int 0, .ref an, .ref va])), (to, .inl (y 0, 228, .inl (fun _ => 0)))] := hD
    refine lv_if_eq (tgt := 20) hx hb dX11_then_5 (by decide) (fun _ => ?_) (fun h9 => absurd h9 (by decide))
    refine lv_aload_n hx hb dX11_then_20 rfl (lv_at hl 0 rfl) ?_
    refine lv_bipush (v := (-2)) hx hb dX11_then_21 (by decide) ?_
    have hs5 : kw_Split [(rf, .inl (y 0, 3, .inl (fun _ => 0))), (mo, .inr (11, [.ref to, .ref ke, .ref ik, .ref rf, .long 0, .long 1, .ref ha, .ref r0, .ref br, .ref bp, .ref bys, .int 0, .int 0, .int 0, .int 0, .int 0, .ref an, .ref va])), (to, .inl (y 0, 228, .inl (fun _ => 0)))] [(mo, .inr (11, [.ref to, .ref ke, .ref ik, .ref rf, .long 0, .long 1, .ref ha, .ref r0, .ref br, .ref bp, .ref bys, .int 0, .int 0, .int 0, .int 0, .int 0, .ref an, .ref va])), (rf, .inl (y 0, 3, .inl (fun _ => 0)))] [(to, .inl (y 0, 228, .inl (fun _ => 0)))] [1, 0] [2] := ⟨rfl, rfl, rfl, rfl, rfl, by decide⟩
    refine kw_go_i hs5 hP hD hS hA (va_runV (As := [.int (-2)]) (rest := []) ⟨hx, hb, hml, hown, hts⟩ (cw_bad l D y mo to ke ik rf ha r0 br bp bys an va (fun _ => 0) (-2)  _) (cwV 1 hts gX11_then_X11_bad rfl rfl rfl (by decide +kernel) ⟨Nat.le_of_ble_eq_true rfl, Nat.le_of_ble_eq_true rfl⟩) (kw_PreV (ci := 11) (q0 := 1) hs5 hP hD hK hN rfl rfl) rfl rfl hl.1 rfl (lv_room (Nat.le_of_ble_eq_true rfl)) dX11_then_23 ⟨Nat.le_of_ble_eq_true rfl, Nat.le_of_ble_eq_true rfl⟩) (fun r u H locs hq hP hD hS => ?_)
    obtain rfl := hq
    have hP : va_P D vwCl [(to, .inl (y 0, 228, .inl (fun _ => 0)))] H := hP
    have hD : va_D A [(to, .inl (y 0, 228, .inl (fun _ => 0)))] := hD
    have hsp : ((-2) : Int32) = (-2) := by
      have gZ1 := Int64.lt_iff_toInt_lt.mp h2
      have lZ1 : (x.toInt64).toInt = x.toInt := Int32.toInt_toInt64 _
      have lZ2 : (0 : Int64).toInt = 0 := by decide
      rfl
    exact W.iret (v := (-2)) hx hb hr (fun tZ ht hW => ⟨⟨(-2), (), rfl, hsp, by rw [ht]; exact hP.sub [] rfl, hD.sub [] (by decide) rfl⟩, hS.F ht⟩) hS.2.2 dX11_then_26
  · skip
    have hP : va_P D vwCl [(rf, .inl (y 0, 3, .inl (fun _ => 0))), (mo, .inr (11, [.ref to, .ref ke, .ref ik, .ref rf, .long 0, .long 1, .ref ha, .ref r0, .ref br, .ref bp, .ref bys, .int 0, .int 0, .int 0, .int 0, .int 0, .ref an, .ref va])), (to, .inl (y 0, 228, .inl (fun _ => 0)))] H := hP
    have hD : va_D A [(rf, .inl (y 0, 3, .inl (fun _ => 0))), (mo, .inr (11, [.ref to, .ref ke, .ref ik, .ref rf, .long 0, .long 1, .ref ha, .ref r0, .ref br, .ref bp, .ref bys, .int 0, .int 0, .int 0, .int 0, .int 0, .ref an, .ref va])), (to, .inl (y 0, 228, .inl (fun _ => 0)))] := hD
    refine lv_if_eq (tgt := 20) hx hb dX11_then_5 (by decide) (fun _ => ?_) (fun h9 => absurd h9 (by decide))
    refine lv_aload_n hx hb dX11_then_20 rfl (lv_at hl 0 rfl) ?_
    refine lv_bipush (v := (-2)) hx hb dX11_then_21 (by decide) ?_
    have hs6 : kw_Split [(rf, .inl (y 0, 3, .inl (fun _ => 0))), (mo, .inr (11, [.ref to, .ref ke, .ref ik, .ref rf, .long 0, .long 1, .ref ha, .ref r0, .ref br, .ref bp, .ref bys, .int 0, .int 0, .int 0, .int 0, .int 0, .ref an, .ref va])), (to, .inl (y 0, 228, .inl (fun _ => 0)))] [(mo, .inr (11, [.ref to, .ref ke, .ref ik, .ref rf, .long 0, .long 1, .ref ha, .ref r0, .ref br, .ref bp, .ref bys, .int 0, .int 0, .int 0, .int 0, .int 0, .ref an, .ref va])), (rf, .inl (y 0, 3, .inl (fun _ => 0)))] [(to, .inl (y 0, 228, .inl (fun _ => 0)))] [1, 0] [2] := ⟨rfl, rfl, rfl, rfl, rfl, by decide⟩
    refine kw_go_i hs6 hP hD hS hA (va_runV (As := [.int (-2)]) (rest := []) ⟨hx, hb, hml, hown, hts⟩ (cw_bad l D y mo to ke ik rf ha r0 br bp bys an va (fun _ => 0) (-2)  _) (cwV 1 hts gX11_then_X11_bad rfl rfl rfl (by decide +kernel) ⟨Nat.le_of_ble_eq_true rfl, Nat.le_of_ble_eq_true rfl⟩) (kw_PreV (ci := 11) (q0 := 1) hs6 hP hD hK hN rfl rfl) rfl rfl hl.1 rfl (lv_room (Nat.le_of_ble_eq_true rfl)) dX11_then_23 ⟨Nat.le_of_ble_eq_true rfl, Nat.le_of_ble_eq_true rfl⟩) (fun r u H locs hq hP hD hS => ?_)
    obtain rfl := hq
    have hP : va_P D vwCl [(to, .inl (y 0, 228, .inl (fun _ => 0)))] H := hP
    have hD : va_D A [(to, .inl (y 0, 228, .inl (fun _ => 0)))] := hD
    have hsp : ((-2) : Int32) = (-2) := by
      have gZ1 : ¬ (x.toInt64 : Int64).toInt < (0 : Int64).toInt := fun q => h3 (Int64.lt_iff_toInt_lt.mpr q)
      have lZ1 : (x.toInt64).toInt = x.toInt := Int32.toInt_toInt64 _
      have lZ2 : (0 : Int64).toInt = 0 := by decide
      have gZ2 := Int64.lt_iff_toInt_lt.mp h4
      have lZ3 : ((-1) : Int64).toInt = -1 := by decide
      rfl
    exact W.iret (v := (-2)) hx hb hr (fun tZ ht hW => ⟨⟨(-2), (), rfl, hsp, by rw [ht]; exact hP.sub [] rfl, hD.sub [] (by decide) rfl⟩, hS.F ht⟩) hS.2.2 dX11_then_26

set_option maxHeartbeats 4000000 in
set_option maxRecDepth 100000 in
theorem cq_round (l : Launch) (D : va_G) (y : Nat → ClassId) (mo : Nat) (to : Nat) (ke : Nat) (ik : Nat) (rf : Nat) (ha : Nat) (r0 : Nat) (br : Nat) (bp : Nat) (bys : Nat) (an : Nat) (va : Nat) (x : Int32) (x2 : Int32) (x3 : Int32) : kw_Mi l yX11_round wsX11_round ({ frames := 3, cells := 0, slots := 0, locals := 86 }) D y [.ref mo, .int x, .int x2, .int x3] [(mo, .inr (11, [.ref to, .ref ke, .ref ik, .ref rf, .long 0, .long 1, .ref ha, .ref r0, .ref br, .ref bp, .ref bys, .int 0, .int 0, .int 0, .int 0, .int 0, .ref an, .ref va])), (rf, .inl (y 0, 3, .inl (fun _ => 0))), (to, .inl (y 0, 228, .inl (fun _ => 0)))] (fun (r : Int32) (u : Unit) => r = (-10)) (fun _ => []) 0 0 := by
  refine kw_Mi.of (cc := cX11_round) (maxL := 8) (ret := (some .int)) (by decide) rfl ?_
  intro pZ eZ s mZ beZ meZ cZ A hE
  obtain ⟨hx, hb, hr, hml, hts, hown, hlocks, hin, hA, hP, hD, hK, hN⟩ := hE
  have hS : va_S A s.heap s.heap [] := va_S.rf
  have hl := lv_entry ([.ref mo, .int x, .int x2, .int x3]) (n := 8) (Nat.le_of_ble_eq_true rfl)
  rw [lg_entry_eq]
  generalize (lg_sl ([.ref mo, .int x, .int x2, .int x3]) ++ List.replicate (8 - (lg_sl ([.ref mo, .int x, .int x2, .int x3])).length) Slot.unset).toArray = ls at hl ⊢
  have hl : lv_has ls 8 [(0, .ref mo), (1, .int x), (2, .int x2), (3, .int x3)] := hl
  refine lv_aload_n hx hb dX11_round_0 rfl (lv_at hl 0 rfl) ?_
  refine lv_iload_n hx hb dX11_round_1 rfl (lv_at hl 1 rfl) ?_
  have hs1 : kw_Split [(mo, .inr (11, [.ref to, .ref ke, .ref ik, .ref rf, .long 0, .long 1, .ref ha, .ref r0, .ref br, .ref bp, .ref bys, .int 0, .int 0, .int 0, .int 0, .int 0, .ref an, .ref va])), (rf, .inl (y 0, 3, .inl (fun _ => 0))), (to, .inl (y 0, 228, .inl (fun _ => 0)))] [(mo, .inr (11, [.ref to, .ref ke, .ref ik, .ref rf, .long 0, .long 1, .ref ha, .ref r0, .ref br, .ref bp, .ref bys, .int 0, .int 0, .int 0, .int 0, .int 0, .ref an, .ref va])), (to, .inl (y 0, 228, .inl (fun _ => 0)))] [(rf, .inl (y 0, 3, .inl (fun _ => 0)))] [0, 2] [1] := ⟨rfl, rfl, rfl, rfl, rfl, by decide⟩
  refine kw_go_i hs1 hP hD hS hA (va_runV (As := [.int x]) (rest := []) ⟨hx, hb, hml, hown, hts⟩ (cw_isGleaner l D y mo to ke ik rf ha r0 br bp bys an va x  _) (cwV 1 hts gX11_round_X11_isGleaner rfl rfl rfl (by decide +kernel) ⟨Nat.le_of_ble_eq_true rfl, Nat.le_of_ble_eq_true rfl⟩) (kw_PreV (ci := 11) (q0 := 0) hs1 hP hD hK hN rfl rfl) rfl rfl hl.1 rfl (lv_room (Nat.le_of_ble_eq_true rfl)) dX11_round_2 ⟨Nat.le_of_ble_eq_true rfl, Nat.le_of_ble_eq_true rfl⟩) (fun r u H locs hq hP hD hS => ?_)
  rcases hq with ⟨h2, rfl⟩ | ⟨h3, h4, rfl⟩
  · skip
    have hP : va_P D vwCl [(rf, .inl (y 0, 3, .inl (fun _ => 0))), (mo, .inr (11, [.ref to, .ref ke, .ref ik, .ref rf, .long 0, .long 1, .ref ha, .ref r0, .ref br, .ref bp, .ref bys, .int 0, .int 0, .int 0, .int 0, .int 0, .ref an, .ref va])), (to, .inl (y 0, 228, .inl (fun _ => 0)))] H := hP
    have hD : va_D A [(rf, .inl (y 0, 3, .inl (fun _ => 0))), (mo, .inr (11, [.ref to, .ref ke, .ref ik, .ref rf, .long 0, .long 1, .ref ha, .ref r0, .ref br, .ref bp, .ref bys, .int 0, .int 0, .int 0, .int 0, .int 0, .ref an, .ref va])), (to, .inl (y 0, 228, .inl (fun _ => 0)))] := hD
    refine lv_if_eq (tgt := 25) hx hb dX11_round_5 (by decide) (fun _ => ?_) (fun h9 => absurd h9 (by decide))
    refine lv_aload_n hx hb dX11_round_25 rfl (lv_at hl 0 rfl) ?_
    refine lv_bipush (v := (-10)) hx hb dX11_round_26 (by decide) ?_
    have hs5 : kw_Split [(rf, .inl (y 0, 3, .inl (fun _ => 0))), (mo, .inr (11, [.ref to, .ref ke, .ref ik, .ref rf, .long 0, .long 1, .ref ha, .ref r0, .ref br, .ref bp, .ref bys, .int 0, .int 0, .int 0, .int 0, .int 0, .ref an, .ref va])), (to, .inl (y 0, 228, .inl (fun _ => 0)))] [(mo, .inr (11, [.ref to, .ref ke, .ref ik, .ref rf, .long 0, .long 1, .ref ha, .ref r0, .ref br, .ref bp, .ref bys, .int 0, .int 0, .int 0, .int 0, .int 0, .ref an, .ref va])), (rf, .inl (y 0, 3, .inl (fun _ => 0)))] [(to, .inl (y 0, 228, .inl (fun _ => 0)))] [1, 0] [2] := ⟨rfl, rfl, rfl, rfl, rfl, by decide⟩
    refine kw_go_i hs5 hP hD hS hA (va_runV (As := [.int (-10)]) (rest := []) ⟨hx, hb, hml, hown, hts⟩ (cw_bad l D y mo to ke ik rf ha r0 br bp bys an va (fun _ => 0) (-10)  _) (cwV 1 hts gX11_round_X11_bad rfl rfl rfl (by decide +kernel) ⟨Nat.le_of_ble_eq_true rfl, Nat.le_of_ble_eq_true rfl⟩) (kw_PreV (ci := 11) (q0 := 1) hs5 hP hD hK hN rfl rfl) rfl rfl hl.1 rfl (lv_room (Nat.le_of_ble_eq_true rfl)) dX11_round_28 ⟨Nat.le_of_ble_eq_true rfl, Nat.le_of_ble_eq_true rfl⟩) (fun r u H locs hq hP hD hS => ?_)
    obtain rfl := hq
    have hP : va_P D vwCl [(to, .inl (y 0, 228, .inl (fun _ => 0)))] H := hP
    have hD : va_D A [(to, .inl (y 0, 228, .inl (fun _ => 0)))] := hD
    have hsp : ((-10) : Int32) = (-10) := by
      have gZ1 := Int64.lt_iff_toInt_lt.mp h2
      have lZ1 : (x.toInt64).toInt = x.toInt := Int32.toInt_toInt64 _
      have lZ2 : (0 : Int64).toInt = 0 := by decide
      rfl
    exact W.iret (v := (-10)) hx hb hr (fun tZ ht hW => ⟨⟨(-10), (), rfl, hsp, by rw [ht]; exact hP.sub [] rfl, hD.sub [] (by decide) rfl⟩, hS.F ht⟩) hS.2.2 dX11_round_31
  · skip
    have hP : va_P D vwCl [(rf, .inl (y 0, 3, .inl (fun _ => 0))), (mo, .inr (11, [.ref to, .ref ke, .ref ik, .ref rf, .long 0, .long 1, .ref ha, .ref r0, .ref br, .ref bp, .ref bys, .int 0, .int 0, .int 0, .int 0, .int 0, .ref an, .ref va])), (to, .inl (y 0, 228, .inl (fun _ => 0)))] H := hP
    have hD : va_D A [(rf, .inl (y 0, 3, .inl (fun _ => 0))), (mo, .inr (11, [.ref to, .ref ke, .ref ik, .ref rf, .long 0, .long 1, .ref ha, .ref r0, .ref br, .ref bp, .ref bys, .int 0, .int 0, .int 0, .int 0, .int 0, .ref an, .ref va])), (to, .inl (y 0, 228, .inl (fun _ => 0)))] := hD
    refine lv_if_eq (tgt := 25) hx hb dX11_round_5 (by decide) (fun _ => ?_) (fun h9 => absurd h9 (by decide))
    refine lv_aload_n hx hb dX11_round_25 rfl (lv_at hl 0 rfl) ?_
    refine lv_bipush (v := (-10)) hx hb dX11_round_26 (by decide) ?_
    have hs6 : kw_Split [(rf, .inl (y 0, 3, .inl (fun _ => 0))), (mo, .inr (11, [.ref to, .ref ke, .ref ik, .ref rf, .long 0, .long 1, .ref ha, .ref r0, .ref br, .ref bp, .ref bys, .int 0, .int 0, .int 0, .int 0, .int 0, .ref an, .ref va])), (to, .inl (y 0, 228, .inl (fun _ => 0)))] [(mo, .inr (11, [.ref to, .ref ke, .ref ik, .ref rf, .long 0, .long 1, .ref ha, .ref r0, .ref br, .ref bp, .ref bys, .int 0, .int 0, .int 0, .int 0, .int 0, .ref an, .ref va])), (rf, .inl (y 0, 3, .inl (fun _ => 0)))] [(to, .inl (y 0, 228, .inl (fun _ => 0)))] [1, 0] [2] := ⟨rfl, rfl, rfl, rfl, rfl, by decide⟩
    refine kw_go_i hs6 hP hD hS hA (va_runV (As := [.int (-10)]) (rest := []) ⟨hx, hb, hml, hown, hts⟩ (cw_bad l D y mo to ke ik rf ha r0 br bp bys an va (fun _ => 0) (-10)  _) (cwV 1 hts gX11_round_X11_bad rfl rfl rfl (by decide +kernel) ⟨Nat.le_of_ble_eq_true rfl, Nat.le_of_ble_eq_true rfl⟩) (kw_PreV (ci := 11) (q0 := 1) hs6 hP hD hK hN rfl rfl) rfl rfl hl.1 rfl (lv_room (Nat.le_of_ble_eq_true rfl)) dX11_round_28 ⟨Nat.le_of_ble_eq_true rfl, Nat.le_of_ble_eq_true rfl⟩) (fun r u H locs hq hP hD hS => ?_)
    obtain rfl := hq
    have hP : va_P D vwCl [(to, .inl (y 0, 228, .inl (fun _ => 0)))] H := hP
    have hD : va_D A [(to, .inl (y 0, 228, .inl (fun _ => 0)))] := hD
    have hsp : ((-10) : Int32) = (-10) := by
      have gZ1 : ¬ (x.toInt64 : Int64).toInt < (0 : Int64).toInt := fun q => h3 (Int64.lt_iff_toInt_lt.mpr q)
      have lZ1 : (x.toInt64).toInt = x.toInt := Int32.toInt_toInt64 _
      have lZ2 : (0 : Int64).toInt = 0 := by decide
      have gZ2 := Int64.lt_iff_toInt_lt.mp h4
      have lZ3 : ((-1) : Int64).toInt = -1 := by decide
      rfl
    exact W.iret (v := (-10)) hx hb hr (fun tZ ht hW => ⟨⟨(-10), (), rfl, hsp, by rw [ht]; exact hP.sub [] rfl, hD.sub [] (by decide) rfl⟩, hS.F ht⟩) hS.2.2 dX11_round_31

set_option maxHeartbeats 4000000 in
set_option maxRecDepth 100000 in
theorem cq_places (l : Launch) (D : va_G) (y : Nat → ClassId) (mo : Nat) (to : Nat) (ke : Nat) (ik : Nat) (rf : Nat) (ha : Nat) (r0 : Nat) (br : Nat) (bp : Nat) (bys : Nat) (an : Nat) (va : Nat) (w : Int32) (g1 : Int32) : kw_Mi l yX11_places wsX11_places ({ frames := 2, cells := 0, slots := 0, locals := 65 }) D y [.ref mo, .int w, .int g1] [(mo, .inr (11, [.ref to, .ref ke, .ref ik, .ref rf, .long 0, .long 1, .ref ha, .ref r0, .ref br, .ref bp, .ref bys, .int 0, .int 0, .int 0, .int 0, .int 0, .ref an, .ref va])), (rf, .inl (y 0, 3, .inl (fun _ => 0))), (to, .inl (y 0, 228, .inl (fun _ => 0))), (ha, .inl (y 0, 30, .inl (fun _ => 0)))] (fun (r : Int32) (u : Unit) => r = (sp_places w g1)) (fun _ => []) 0 0 := by
  refine kw_Mi.of (cc := cX11_places) (maxL := 8) (ret := (some .int)) (by decide) rfl ?_
  intro pZ eZ s mZ beZ meZ cZ A hE
  obtain ⟨hx, hb, hr, hml, hts, hown, hlocks, hin, hA, hP, hD, hK, hN⟩ := hE
  have hS : va_S A s.heap s.heap [] := va_S.rf
  have hl := lv_entry ([.ref mo, .int w, .int g1]) (n := 8) (Nat.le_of_ble_eq_true rfl)
  rw [lg_entry_eq]
  generalize (lg_sl ([.ref mo, .int w, .int g1]) ++ List.replicate (8 - (lg_sl ([.ref mo, .int w, .int g1])).length) Slot.unset).toArray = ls at hl ⊢
  have hl : lv_has ls 8 [(0, .ref mo), (1, .int w), (2, .int g1)] := hl
  have fw1 := hts (.constantLong RX11 159 (-1)) (List.mem_of_getElem? (i := 1) rfl)
  refine lv_iload_n hx hb dX11_places_0 rfl (lv_at hl 1 rfl) ?_
  refine lv_i2l (v := w.toInt64) hx hb dX11_places_1 (rfl) ?_
  refine lv_lconst (v := 0) hx hb dX11_places_2 (by decide) ?_
  refine lv_lconst (v := 1) hx hb dX11_places_3 (by decide) ?_
  have hs1 : kw_Split [(mo, .inr (11, [.ref to, .ref ke, .ref ik, .ref rf, .long 0, .long 1, .ref ha, .ref r0, .ref br, .ref bp, .ref bys, .int 0, .int 0, .int 0, .int 0, .int 0, .ref an, .ref va])), (rf, .inl (y 0, 3, .inl (fun _ => 0))), (to, .inl (y 0, 228, .inl (fun _ => 0))), (ha, .inl (y 0, 30, .inl (fun _ => 0)))] [] [(mo, .inr (11, [.ref to, .ref ke, .ref ik, .ref rf, .long 0, .long 1, .ref ha, .ref r0, .ref br, .ref bp, .ref bys, .int 0, .int 0, .int 0, .int 0, .int 0, .ref an, .ref va])), (rf, .inl (y 0, 3, .inl (fun _ => 0))), (to, .inl (y 0, 228, .inl (fun _ => 0))), (ha, .inl (y 0, 30, .inl (fun _ => 0)))] [] [0, 1, 2, 3] := ⟨rfl, rfl, rfl, rfl, rfl, by decide⟩
  refine kw_go_i hs1 hP hD hS hA (va_runS (As := [.long w.toInt64, .long 0, .long 1]) (rest := []) ⟨hx, hb, hml, hown, hts⟩ (cw_in l D y w.toInt64 0 1  _) (va_cwS 3 hts gX11_places_X11_in rfl rfl rfl (by decide +kernel) ⟨Nat.le_of_ble_eq_true rfl, Nat.le_of_ble_eq_true rfl⟩) (kw_PreS hs1 hP hD hK hN) rfl rfl hl.1 rfl (lv_room (Nat.le_of_ble_eq_true rfl)) dX11_places_4 ⟨Nat.le_of_ble_eq_true rfl, Nat.le_of_ble_eq_true rfl⟩) (fun r u H locs hq hP hD hS => ?_)
  rcases hq with ⟨h2, rfl⟩ | ⟨h3, h4, rfl⟩ | ⟨h5, h6, rfl⟩
  · skip
    have hP : va_P D vwCl [(mo, .inr (11, [.ref to, .ref ke, .ref ik, .ref rf, .long 0, .long 1, .ref ha, .ref r0, .ref br, .ref bp, .ref bys, .int 0, .int 0, .int 0, .int 0, .int 0, .ref an, .ref va])), (rf, .inl (y 0, 3, .inl (fun _ => 0))), (to, .inl (y 0, 228, .inl (fun _ => 0))), (ha, .inl (y 0, 30, .inl (fun _ => 0)))] H := hP
    have hD : va_D A [(mo, .inr (11, [.ref to, .ref ke, .ref ik, .ref rf, .long 0, .long 1, .ref ha, .ref r0, .ref br, .ref bp, .ref bys, .int 0, .int 0, .int 0, .int 0, .int 0, .ref an, .ref va])), (rf, .inl (y 0, 3, .inl (fun _ => 0))), (to, .inl (y 0, 228, .inl (fun _ => 0))), (ha, .inl (y 0, 30, .inl (fun _ => 0)))] := hD
    refine lv_if_eq (tgt := 28) hx hb dX11_places_7 (by decide) (fun _ => ?_) (fun h9 => absurd h9 (by decide))
    refine lv_aload_n hx hb dX11_places_28 rfl (lv_at hl 0 rfl) ?_
    refine lv_bipush (v := (-10)) hx hb dX11_places_29 (by decide) ?_
    have hs7 : kw_Split [(mo, .inr (11, [.ref to, .ref ke, .ref ik, .ref rf, .long 0, .long 1, .ref ha, .ref r0, .ref br, .ref bp, .ref bys, .int 0, .int 0, .int 0, .int 0, .int 0, .ref an, .ref va])), (rf, .inl (y 0, 3, .inl (fun _ => 0))), (to, .inl (y 0, 228, .inl (fun _ => 0))), (ha, .inl (y 0, 30, .inl (fun _ => 0)))] [(mo, .inr (11, [.ref to, .ref ke, .ref ik, .ref rf, .long 0, .long 1, .ref ha, .ref r0, .ref br, .ref bp, .ref bys, .int 0, .int 0, .int 0, .int 0, .int 0, .ref an, .ref va])), (rf, .inl (y 0, 3, .inl (fun _ => 0)))] [(to, .inl (y 0, 228, .inl (fun _ => 0))), (ha, .inl (y 0, 30, .inl (fun _ => 0)))] [0, 1] [2, 3] := ⟨rfl, rfl, rfl, rfl, rfl, by decide⟩
    refine kw_go_i hs7 hP hD hS hA (va_runV (As := [.int (-10)]) (rest := []) ⟨hx, hb, hml, hown, hts⟩ (cw_bad l D y mo to ke ik rf ha r0 br bp bys an va (fun _ => 0) (-10)  _) (cwV 1 hts gX11_places_X11_bad rfl rfl rfl (by decide +kernel) ⟨Nat.le_of_ble_eq_true rfl, Nat.le_of_ble_eq_true rfl⟩) (kw_PreV (ci := 11) (q0 := 0) hs7 hP hD hK hN rfl rfl) rfl rfl hl.1 rfl (lv_room (Nat.le_of_ble_eq_true rfl)) dX11_places_31 ⟨Nat.le_of_ble_eq_true rfl, Nat.le_of_ble_eq_true rfl⟩) (fun r u H locs hq hP hD hS => ?_)
    obtain rfl := hq
    have hP : va_P D vwCl [(to, .inl (y 0, 228, .inl (fun _ => 0))), (ha, .inl (y 0, 30, .inl (fun _ => 0)))] H := hP
    have hD : va_D A [(to, .inl (y 0, 228, .inl (fun _ => 0))), (ha, .inl (y 0, 30, .inl (fun _ => 0)))] := hD
    have hsp : ((-10) : Int32) = (sp_places w g1) := by
      have gZ1 := Int64.lt_iff_toInt_lt.mp h2
      have lZ1 : (w.toInt64).toInt = w.toInt := Int32.toInt_toInt64 _
      have lZ2 : (0 : Int64).toInt = 0 := by decide
      unfold sp_places; first | rfl | decide | exact (if_neg (by omega)).symm | exact (if_pos (by omega)).symm | exact ((if_pos (by omega)).trans (if_neg (by omega))).symm | exact ((if_pos (by omega)).trans (if_pos (by omega))).symm | exact ((if_neg (by omega)).trans (if_pos (by omega))).symm | exact ((if_neg (by omega)).trans (if_neg (by omega))).symm
    exact W.iret (v := (-10)) hx hb hr (fun tZ ht hW => ⟨⟨(-10), (), rfl, hsp, by rw [ht]; exact hP.sub [] rfl, hD.sub [] (by decide) rfl⟩, hS.F ht⟩) hS.2.2 dX11_places_34
  · skip
    have hP : va_P D vwCl [(mo, .inr (11, [.ref to, .ref ke, .ref ik, .ref rf, .long 0, .long 1, .ref ha, .ref r0, .ref br, .ref bp, .ref bys, .int 0, .int 0, .int 0, .int 0, .int 0, .ref an, .ref va])), (rf, .inl (y 0, 3, .inl (fun _ => 0))), (to, .inl (y 0, 228, .inl (fun _ => 0))), (ha, .inl (y 0, 30, .inl (fun _ => 0)))] H := hP
    have hD : va_D A [(mo, .inr (11, [.ref to, .ref ke, .ref ik, .ref rf, .long 0, .long 1, .ref ha, .ref r0, .ref br, .ref bp, .ref bys, .int 0, .int 0, .int 0, .int 0, .int 0, .ref an, .ref va])), (rf, .inl (y 0, 3, .inl (fun _ => 0))), (to, .inl (y 0, 228, .inl (fun _ => 0))), (ha, .inl (y 0, 30, .inl (fun _ => 0)))] := hD
    refine lv_if_eq (tgt := 28) hx hb dX11_places_7 (by decide) (fun _ => ?_) (fun h9 => absurd h9 (by decide))
    refine lv_aload_n hx hb dX11_places_28 rfl (lv_at hl 0 rfl) ?_
    refine lv_bipush (v := (-10)) hx hb dX11_places_29 (by decide) ?_
    have hs8 : kw_Split [(mo, .inr (11, [.ref to, .ref ke, .ref ik, .ref rf, .long 0, .long 1, .ref ha, .ref r0, .ref br, .ref bp, .ref bys, .int 0, .int 0, .int 0, .int 0, .int 0, .ref an, .ref va])), (rf, .inl (y 0, 3, .inl (fun _ => 0))), (to, .inl (y 0, 228, .inl (fun _ => 0))), (ha, .inl (y 0, 30, .inl (fun _ => 0)))] [(mo, .inr (11, [.ref to, .ref ke, .ref ik, .ref rf, .long 0, .long 1, .ref ha, .ref r0, .ref br, .ref bp, .ref bys, .int 0, .int 0, .int 0, .int 0, .int 0, .ref an, .ref va])), (rf, .inl (y 0, 3, .inl (fun _ => 0)))] [(to, .inl (y 0, 228, .inl (fun _ => 0))), (ha, .inl (y 0, 30, .inl (fun _ => 0)))] [0, 1] [2, 3] := ⟨rfl, rfl, rfl, rfl, rfl, by decide⟩
    refine kw_go_i hs8 hP hD hS hA (va_runV (As := [.int (-10)]) (rest := []) ⟨hx, hb, hml, hown, hts⟩ (cw_bad l D y mo to ke ik rf ha r0 br bp bys an va (fun _ => 0) (-10)  _) (cwV 1 hts gX11_places_X11_bad rfl rfl rfl (by decide +kernel) ⟨Nat.le_of_ble_eq_true rfl, Nat.le_of_ble_eq_true rfl⟩) (kw_PreV (ci := 11) (q0 := 0) hs8 hP hD hK hN rfl rfl) rfl rfl hl.1 rfl (lv_room (Nat.le_of_ble_eq_true rfl)) dX11_places_31 ⟨Nat.le_of_ble_eq_true rfl, Nat.le_of_ble_eq_true rfl⟩) (fun r u H locs hq hP hD hS => ?_)
    obtain rfl := hq
    have hP : va_P D vwCl [(to, .inl (y 0, 228, .inl (fun _ => 0))), (ha, .inl (y 0, 30, .inl (fun _ => 0)))] H := hP
    have hD : va_D A [(to, .inl (y 0, 228, .inl (fun _ => 0))), (ha, .inl (y 0, 30, .inl (fun _ => 0)))] := hD
    have hsp : ((-10) : Int32) = (sp_places w g1) := by
      have gZ1 : ¬ (w.toInt64 : Int64).toInt < (0 : Int64).toInt := fun q => h3 (Int64.lt_iff_toInt_lt.mpr q)
      have lZ1 : (w.toInt64).toInt = w.toInt := Int32.toInt_toInt64 _
      have lZ2 : (0 : Int64).toInt = 0 := by decide
      have gZ2 := Int64.lt_iff_toInt_lt.mp h4
      have lZ3 : (1 : Int64).toInt = 1 := by decide
      unfold sp_places; first | rfl | decide | exact (if_neg (by omega)).symm | exact (if_pos (by omega)).symm | exact ((if_pos (by omega)).trans (if_neg (by omega))).symm | exact ((if_pos (by omega)).trans (if_pos (by omega))).symm | exact ((if_neg (by omega)).trans (if_pos (by omega))).symm | exact ((if_neg (by omega)).trans (if_neg (by omega))).symm
    exact W.iret (v := (-10)) hx hb hr (fun tZ ht hW => ⟨⟨(-10), (), rfl, hsp, by rw [ht]; exact hP.sub [] rfl, hD.sub [] (by decide) rfl⟩, hS.F ht⟩) hS.2.2 dX11_places_34
  · skip
    have hP : va_P D vwCl [(mo, .inr (11, [.ref to, .ref ke, .ref ik, .ref rf, .long 0, .long 1, .ref ha, .ref r0, .ref br, .ref bp, .ref bys, .int 0, .int 0, .int 0, .int 0, .int 0, .ref an, .ref va])), (rf, .inl (y 0, 3, .inl (fun _ => 0))), (to, .inl (y 0, 228, .inl (fun _ => 0))), (ha, .inl (y 0, 30, .inl (fun _ => 0)))] H := hP
    have hD : va_D A [(mo, .inr (11, [.ref to, .ref ke, .ref ik, .ref rf, .long 0, .long 1, .ref ha, .ref r0, .ref br, .ref bp, .ref bys, .int 0, .int 0, .int 0, .int 0, .int 0, .ref an, .ref va])), (rf, .inl (y 0, 3, .inl (fun _ => 0))), (to, .inl (y 0, 228, .inl (fun _ => 0))), (ha, .inl (y 0, 30, .inl (fun _ => 0)))] := hD
    refine lv_if_eq (tgt := 28) hx hb dX11_places_7 (by decide) (fun h9 => absurd h9 (by decide)) (fun _ => ?_)
    refine lv_iload_n hx hb dX11_places_10 rfl (lv_at hl 2 rfl) ?_
    refine lv_i2l (v := g1.toInt64) hx hb dX11_places_11 (rfl) ?_
    refine lv_ldc2 (v := (-1)) hx hb hown fw1 dX11_places_12 ?_
    refine lv_aload_n hx hb dX11_places_15 rfl (lv_at hl 0 rfl) ?_
    have hs9 : kw_Split [(mo, .inr (11, [.ref to, .ref ke, .ref ik, .ref rf, .long 0, .long 1, .ref ha, .ref r0, .ref br, .ref bp, .ref bys, .int 0, .int 0, .int 0, .int 0, .int 0, .ref an, .ref va])), (rf, .inl (y 0, 3, .inl (fun _ => 0))), (to, .inl (y 0, 228, .inl (fun _ => 0))), (ha, .inl (y 0, 30, .inl (fun _ => 0)))] [(mo, .inr (11, [.ref to, .ref ke, .ref ik, .ref rf, .long 0, .long 1, .ref ha, .ref r0, .ref br, .ref bp, .ref bys, .int 0, .int 0, .int 0, .int 0, .int 0, .ref an, .ref va])), (to, .inl (y 0, 228, .inl (fun _ => 0)))] [(rf, .inl (y 0, 3, .inl (fun _ => 0))), (ha, .inl (y 0, 30, .inl (fun _ => 0)))] [0, 2] [1, 3] := ⟨rfl, rfl, rfl, rfl, rfl, by decide⟩
    refine kw_go_i hs9 hP hD hS hA (va_runV (As := []) (rest := [.long (-1), .long g1.toInt64]) ⟨hx, hb, hml, hown, hts⟩ (cw_manyGleaners l D y mo to ke ik rf ha r0 br bp bys an va (fun _ => 0) 0 (by first | rfl | decide | assumption | (simp [upd]; done) | (unfold upd; rw [if_neg (by decide)]; assumption) | (unfold upd; rw [if_neg (by decide), if_neg (by decide)]; assumption)) _) (cwV 0 hts gX11_places_X11_manyGleaners rfl rfl rfl (by decide +kernel) ⟨Nat.le_of_ble_eq_true rfl, Nat.le_of_ble_eq_true rfl⟩) (kw_PreV (ci := 11) (q0 := 0) hs9 hP hD hK hN rfl rfl) rfl rfl hl.1 rfl (lv_room (Nat.le_of_ble_eq_true rfl)) dX11_places_16 ⟨Nat.le_of_ble_eq_true rfl, Nat.le_of_ble_eq_true rfl⟩) (fun r u H locs hq hP hD hS => ?_)
    obtain rfl := hq
    have hP : va_P D vwCl [(rf, .inl (y 0, 3, .inl (fun _ => 0))), (ha, .inl (y 0, 30, .inl (fun _ => 0))), (mo, .inr (11, [.ref to, .ref ke, .ref ik, .ref rf, .long 0, .long 1, .ref ha, .ref r0, .ref br, .ref bp, .ref bys, .int 0, .int 0, .int 0, .int 0, .int 0, .ref an, .ref va])), (to, .inl (y 0, 228, .inl (fun _ => 0)))] H := hP
    have hD : va_D A [(rf, .inl (y 0, 3, .inl (fun _ => 0))), (ha, .inl (y 0, 30, .inl (fun _ => 0))), (mo, .inr (11, [.ref to, .ref ke, .ref ik, .ref rf, .long 0, .long 1, .ref ha, .ref r0, .ref br, .ref bp, .ref bys, .int 0, .int 0, .int 0, .int 0, .int 0, .ref an, .ref va])), (to, .inl (y 0, 228, .inl (fun _ => 0)))] := hD
    refine lv_iconst (v := 1) hx hb dX11_places_19 (by decide) ?_
    refine lv_isub hx hb dX11_places_20 ?_
    refine lv_topi (fun z10 hz10 => ?_)
    obtain rfl : z10 = (-1) := hz10.trans (by first | rfl | decide | (simp [upd]; done))
    refine lv_i2l (v := (-1)) hx hb dX11_places_21 (by decide) ?_
    have hs11 : kw_Split [(rf, .inl (y 0, 3, .inl (fun _ => 0))), (ha, .inl (y 0, 30, .inl (fun _ => 0))), (mo, .inr (11, [.ref to, .ref ke, .ref ik, .ref rf, .long 0, .long 1, .ref ha, .ref r0, .ref br, .ref bp, .ref bys, .int 0, .int 0, .int 0, .int 0, .int 0, .ref an, .ref va])), (to, .inl (y 0, 228, .inl (fun _ => 0)))] [] [(rf, .inl (y 0, 3, .inl (fun _ => 0))), (ha, .inl (y 0, 30, .inl (fun _ => 0))), (mo, .inr (11, [.ref to, .ref ke, .ref ik, .ref rf, .long 0, .long 1, .ref ha, .ref r0, .ref br, .ref bp, .ref bys, .int 0, .int 0, .int 0, .int 0, .int 0, .ref an, .ref va])), (to, .inl (y 0, 228, .inl (fun _ => 0)))] [] [0, 1, 2, 3] := ⟨rfl, rfl, rfl, rfl, rfl, by decide⟩
    refine kw_go_i hs11 hP hD hS hA (va_runS (As := [.long g1.toInt64, .long (-1), .long (-1)]) (rest := []) ⟨hx, hb, hml, hown, hts⟩ (cw_in l D y g1.toInt64 (-1) (-1)  _) (va_cwS 3 hts gX11_places_X11_in rfl rfl rfl (by decide +kernel) ⟨Nat.le_of_ble_eq_true rfl, Nat.le_of_ble_eq_true rfl⟩) (kw_PreS hs11 hP hD hK hN) rfl rfl hl.1 rfl (lv_room (Nat.le_of_ble_eq_true rfl)) dX11_places_22 ⟨Nat.le_of_ble_eq_true rfl, Nat.le_of_ble_eq_true rfl⟩) (fun r u H locs hq hP hD hS => ?_)
    rcases hq with ⟨h12, rfl⟩ | ⟨h13, h14, rfl⟩ | ⟨h15, h16, rfl⟩
    · skip
      have hP : va_P D vwCl [(rf, .inl (y 0, 3, .inl (fun _ => 0))), (ha, .inl (y 0, 30, .inl (fun _ => 0))), (mo, .inr (11, [.ref to, .ref ke, .ref ik, .ref rf, .long 0, .long 1, .ref ha, .ref r0, .ref br, .ref bp, .ref bys, .int 0, .int 0, .int 0, .int 0, .int 0, .ref an, .ref va])), (to, .inl (y 0, 228, .inl (fun _ => 0)))] H := hP
      have hD : va_D A [(rf, .inl (y 0, 3, .inl (fun _ => 0))), (ha, .inl (y 0, 30, .inl (fun _ => 0))), (mo, .inr (11, [.ref to, .ref ke, .ref ik, .ref rf, .long 0, .long 1, .ref ha, .ref r0, .ref br, .ref bp, .ref bys, .int 0, .int 0, .int 0, .int 0, .int 0, .ref an, .ref va])), (to, .inl (y 0, 228, .inl (fun _ => 0)))] := hD
      refine lv_if_ne (tgt := 35) hx hb dX11_places_25 (by decide) (fun h9 => absurd h9 (by decide)) (fun _ => ?_)
      refine lv_aload_n hx hb dX11_places_28 rfl (lv_at hl 0 rfl) ?_
      refine lv_bipush (v := (-10)) hx hb dX11_places_29 (by decide) ?_
      have hs17 : kw_Split [(rf, .inl (y 0, 3, .inl (fun _ => 0))), (ha, .inl (y 0, 30, .inl (fun _ => 0))), (mo, .inr (11, [.ref to, .ref ke, .ref ik, .ref rf, .long 0, .long 1, .ref ha, .ref r0, .ref br, .ref bp, .ref bys, .int 0, .int 0, .int 0, .int 0, .int 0, .ref an, .ref va])), (to, .inl (y 0, 228, .inl (fun _ => 0)))] [(mo, .inr (11, [.ref to, .ref ke, .ref ik, .ref rf, .long 0, .long 1, .ref ha, .ref r0, .ref br, .ref bp, .ref bys, .int 0, .int 0, .int 0, .int 0, .int 0, .ref an, .ref va])), (rf, .inl (y 0, 3, .inl (fun _ => 0)))] [(ha, .inl (y 0, 30, .inl (fun _ => 0))), (to, .inl (y 0, 228, .inl (fun _ => 0)))] [2, 0] [1, 3] := ⟨rfl, rfl, rfl, rfl, rfl, by decide⟩
      refine kw_go_i hs17 hP hD hS hA (va_runV (As := [.int (-10)]) (rest := []) ⟨hx, hb, hml, hown, hts⟩ (cw_bad l D y mo to ke ik rf ha r0 br bp bys an va (fun _ => 0) (-10)  _) (cwV 1 hts gX11_places_X11_bad rfl rfl rfl (by decide +kernel) ⟨Nat.le_of_ble_eq_true rfl, Nat.le_of_ble_eq_true rfl⟩) (kw_PreV (ci := 11) (q0 := 2) hs17 hP hD hK hN rfl rfl) rfl rfl hl.1 rfl (lv_room (Nat.le_of_ble_eq_true rfl)) dX11_places_31 ⟨Nat.le_of_ble_eq_true rfl, Nat.le_of_ble_eq_true rfl⟩) (fun r u H locs hq hP hD hS => ?_)
      obtain rfl := hq
      have hP : va_P D vwCl [(ha, .inl (y 0, 30, .inl (fun _ => 0))), (to, .inl (y 0, 228, .inl (fun _ => 0)))] H := hP
      have hD : va_D A [(ha, .inl (y 0, 30, .inl (fun _ => 0))), (to, .inl (y 0, 228, .inl (fun _ => 0)))] := hD
      have hsp : ((-10) : Int32) = (sp_places w g1) := by
        have gZ1 : ¬ (w.toInt64 : Int64).toInt < (0 : Int64).toInt := fun q => h5 (Int64.lt_iff_toInt_lt.mpr q)
        have lZ1 : (w.toInt64).toInt = w.toInt := Int32.toInt_toInt64 _
        have lZ2 : (0 : Int64).toInt = 0 := by decide
        have gZ2 : ¬ (1 : Int64).toInt < (w.toInt64 : Int64).toInt := fun q => h6 (Int64.lt_iff_toInt_lt.mpr q)
        have lZ3 : (1 : Int64).toInt = 1 := by decide
        have gZ3 := Int64.lt_iff_toInt_lt.mp h12
        have lZ4 : (g1.toInt64).toInt = g1.toInt := Int32.toInt_toInt64 _
        have lZ5 : ((-1) : Int64).toInt = -1 := by decide
        unfold sp_places; first | rfl | decide | exact (if_neg (by omega)).symm | exact (if_pos (by omega)).symm | exact ((if_pos (by omega)).trans (if_neg (by omega))).symm | exact ((if_pos (by omega)).trans (if_pos (by omega))).symm | exact ((if_neg (by omega)).trans (if_pos (by omega))).symm | exact ((if_neg (by omega)).trans (if_neg (by omega))).symm
      exact W.iret (v := (-10)) hx hb hr (fun tZ ht hW => ⟨⟨(-10), (), rfl, hsp, by rw [ht]; exact hP.sub [] rfl, hD.sub [] (by decide) rfl⟩, hS.F ht⟩) hS.2.2 dX11_places_34
    · skip
      have hP : va_P D vwCl [(rf, .inl (y 0, 3, .inl (fun _ => 0))), (ha, .inl (y 0, 30, .inl (fun _ => 0))), (mo, .inr (11, [.ref to, .ref ke, .ref ik, .ref rf, .long 0, .long 1, .ref ha, .ref r0, .ref br, .ref bp, .ref bys, .int 0, .int 0, .int 0, .int 0, .int 0, .ref an, .ref va])), (to, .inl (y 0, 228, .inl (fun _ => 0)))] H := hP
      have hD : va_D A [(rf, .inl (y 0, 3, .inl (fun _ => 0))), (ha, .inl (y 0, 30, .inl (fun _ => 0))), (mo, .inr (11, [.ref to, .ref ke, .ref ik, .ref rf, .long 0, .long 1, .ref ha, .ref r0, .ref br, .ref bp, .ref bys, .int 0, .int 0, .int 0, .int 0, .int 0, .ref an, .ref va])), (to, .inl (y 0, 228, .inl (fun _ => 0)))] := hD
      refine lv_if_ne (tgt := 35) hx hb dX11_places_25 (by decide) (fun h9 => absurd h9 (by decide)) (fun _ => ?_)
      refine lv_aload_n hx hb dX11_places_28 rfl (lv_at hl 0 rfl) ?_
      refine lv_bipush (v := (-10)) hx hb dX11_places_29 (by decide) ?_
      have hs18 : kw_Split [(rf, .inl (y 0, 3, .inl (fun _ => 0))), (ha, .inl (y 0, 30, .inl (fun _ => 0))), (mo, .inr (11, [.ref to, .ref ke, .ref ik, .ref rf, .long 0, .long 1, .ref ha, .ref r0, .ref br, .ref bp, .ref bys, .int 0, .int 0, .int 0, .int 0, .int 0, .ref an, .ref va])), (to, .inl (y 0, 228, .inl (fun _ => 0)))] [(mo, .inr (11, [.ref to, .ref ke, .ref ik, .ref rf, .long 0, .long 1, .ref ha, .ref r0, .ref br, .ref bp, .ref bys, .int 0, .int 0, .int 0, .int 0, .int 0, .ref an, .ref va])), (rf, .inl (y 0, 3, .inl (fun _ => 0)))] [(ha, .inl (y 0, 30, .inl (fun _ => 0))), (to, .inl (y 0, 228, .inl (fun _ => 0)))] [2, 0] [1, 3] := ⟨rfl, rfl, rfl, rfl, rfl, by decide⟩
      refine kw_go_i hs18 hP hD hS hA (va_runV (As := [.int (-10)]) (rest := []) ⟨hx, hb, hml, hown, hts⟩ (cw_bad l D y mo to ke ik rf ha r0 br bp bys an va (fun _ => 0) (-10)  _) (cwV 1 hts gX11_places_X11_bad rfl rfl rfl (by decide +kernel) ⟨Nat.le_of_ble_eq_true rfl, Nat.le_of_ble_eq_true rfl⟩) (kw_PreV (ci := 11) (q0 := 2) hs18 hP hD hK hN rfl rfl) rfl rfl hl.1 rfl (lv_room (Nat.le_of_ble_eq_true rfl)) dX11_places_31 ⟨Nat.le_of_ble_eq_true rfl, Nat.le_of_ble_eq_true rfl⟩) (fun r u H locs hq hP hD hS => ?_)
      obtain rfl := hq
      have hP : va_P D vwCl [(ha, .inl (y 0, 30, .inl (fun _ => 0))), (to, .inl (y 0, 228, .inl (fun _ => 0)))] H := hP
      have hD : va_D A [(ha, .inl (y 0, 30, .inl (fun _ => 0))), (to, .inl (y 0, 228, .inl (fun _ => 0)))] := hD
      have hsp : ((-10) : Int32) = (sp_places w g1) := by
        have gZ1 : ¬ (w.toInt64 : Int64).toInt < (0 : Int64).toInt := fun q => h5 (Int64.lt_iff_toInt_lt.mpr q)
        have lZ1 : (w.toInt64).toInt = w.toInt := Int32.toInt_toInt64 _
        have lZ2 : (0 : Int64).toInt = 0 := by decide
        have gZ2 : ¬ (1 : Int64).toInt < (w.toInt64 : Int64).toInt := fun q => h6 (Int64.lt_iff_toInt_lt.mpr q)
        have lZ3 : (1 : Int64).toInt = 1 := by decide
        have gZ3 : ¬ (g1.toInt64 : Int64).toInt < ((-1) : Int64).toInt := fun q => h13 (Int64.lt_iff_toInt_lt.mpr q)
        have lZ4 : (g1.toInt64).toInt = g1.toInt := Int32.toInt_toInt64 _
        have lZ5 : ((-1) : Int64).toInt = -1 := by decide
        have gZ4 := Int64.lt_iff_toInt_lt.mp h14
        unfold sp_places; first | rfl | decide | exact (if_neg (by omega)).symm | exact (if_pos (by omega)).symm | exact ((if_pos (by omega)).trans (if_neg (by omega))).symm | exact ((if_pos (by omega)).trans (if_pos (by omega))).symm | exact ((if_neg (by omega)).trans (if_pos (by omega))).symm | exact ((if_neg (by omega)).trans (if_neg (by omega))).symm
      exact W.iret (v := (-10)) hx hb hr (fun tZ ht hW => ⟨⟨(-10), (), rfl, hsp, by rw [ht]; exact hP.sub [] rfl, hD.sub [] (by decide) rfl⟩, hS.F ht⟩) hS.2.2 dX11_places_34
    · skip
      have hP : va_P D vwCl [(rf, .inl (y 0, 3, .inl (fun _ => 0))), (ha, .inl (y 0, 30, .inl (fun _ => 0))), (mo, .inr (11, [.ref to, .ref ke, .ref ik, .ref rf, .long 0, .long 1, .ref ha, .ref r0, .ref br, .ref bp, .ref bys, .int 0, .int 0, .int 0, .int 0, .int 0, .ref an, .ref va])), (to, .inl (y 0, 228, .inl (fun _ => 0)))] H := hP
      have hD : va_D A [(rf, .inl (y 0, 3, .inl (fun _ => 0))), (ha, .inl (y 0, 30, .inl (fun _ => 0))), (mo, .inr (11, [.ref to, .ref ke, .ref ik, .ref rf, .long 0, .long 1, .ref ha, .ref r0, .ref br, .ref bp, .ref bys, .int 0, .int 0, .int 0, .int 0, .int 0, .ref an, .ref va])), (to, .inl (y 0, 228, .inl (fun _ => 0)))] := hD
      refine lv_if_ne (tgt := 35) hx hb dX11_places_25 (by decide) (fun _ => ?_) (fun h9 => absurd h9 (by decide))
      refine lv_iconst (v := 1) hx hb dX11_places_35 (by decide) ?_
      refine lv_istore_n (lv' := [(3, .int 1), (0, .ref mo), (1, .int w), (2, .int g1)]) hx hb dX11_places_36 rfl hl (by decide) rfl (fun ls hl => ?_)
      refine lv_aload_n hx hb dX11_places_37 rfl (lv_at hl 1 rfl) ?_
      have hs19 : kw_Split [(rf, .inl (y 0, 3, .inl (fun _ => 0))), (ha, .inl (y 0, 30, .inl (fun _ => 0))), (mo, .inr (11, [.ref to, .ref ke, .ref ik, .ref rf, .long 0, .long 1, .ref ha, .ref r0, .ref br, .ref bp, .ref bys, .int 0, .int 0, .int 0, .int 0, .int 0, .ref an, .ref va])), (to, .inl (y 0, 228, .inl (fun _ => 0)))] [(mo, .inr (11, [.ref to, .ref ke, .ref ik, .ref rf, .long 0, .long 1, .ref ha, .ref r0, .ref br, .ref bp, .ref bys, .int 0, .int 0, .int 0, .int 0, .int 0, .ref an, .ref va])), (to, .inl (y 0, 228, .inl (fun _ => 0)))] [(rf, .inl (y 0, 3, .inl (fun _ => 0))), (ha, .inl (y 0, 30, .inl (fun _ => 0)))] [2, 3] [0, 1] := ⟨rfl, rfl, rfl, rfl, rfl, by decide⟩
      refine kw_go_i hs19 hP hD hS hA (va_runV (As := []) (rest := []) ⟨hx, hb, hml, hown, hts⟩ (cw_manyGleaners l D y mo to ke ik rf ha r0 br bp bys an va (fun _ => 0) 0 (by first | rfl | decide | assumption | (simp [upd]; done) | (unfold upd; rw [if_neg (by decide)]; assumption) | (unfold upd; rw [if_neg (by decide), if_neg (by decide)]; assumption)) _) (cwV 0 hts gX11_places_X11_manyGleaners rfl rfl rfl (by decide +kernel) ⟨Nat.le_of_ble_eq_true rfl, Nat.le_of_ble_eq_true rfl⟩) (kw_PreV (ci := 11) (q0 := 2) hs19 hP hD hK hN rfl rfl) rfl rfl hl.1 rfl (lv_room (Nat.le_of_ble_eq_true rfl)) dX11_places_38 ⟨Nat.le_of_ble_eq_true rfl, Nat.le_of_ble_eq_true rfl⟩) (fun r u H locs hq hP hD hS => ?_)
      obtain rfl := hq
      have hP : va_P D vwCl [(rf, .inl (y 0, 3, .inl (fun _ => 0))), (ha, .inl (y 0, 30, .inl (fun _ => 0))), (mo, .inr (11, [.ref to, .ref ke, .ref ik, .ref rf, .long 0, .long 1, .ref ha, .ref r0, .ref br, .ref bp, .ref bys, .int 0, .int 0, .int 0, .int 0, .int 0, .ref an, .ref va])), (to, .inl (y 0, 228, .inl (fun _ => 0)))] H := hP
      have hD : va_D A [(rf, .inl (y 0, 3, .inl (fun _ => 0))), (ha, .inl (y 0, 30, .inl (fun _ => 0))), (mo, .inr (11, [.ref to, .ref ke, .ref ik, .ref rf, .long 0, .long 1, .ref ha, .ref r0, .ref br, .ref bp, .ref bys, .int 0, .int 0, .int 0, .int 0, .int 0, .ref an, .ref va])), (to, .inl (y 0, 228, .inl (fun _ => 0)))] := hD
      refine lv_if_ne (tgt := 48) hx hb dX11_places_41 (by decide) (fun h9 => absurd h9 (by decide)) (fun _ => ?_)
      refine lv_iconst (v := 0) hx hb dX11_places_44 (by decide) ?_
      refine lv_goto (tgt := 49) hx hb dX11_places_45 (by decide) ?_
      refine lv_istore (lv' := [(4, .int 0), (3, .int 1), (0, .ref mo), (1, .int w), (2, .int g1)]) hx hb dX11_places_49 hl (by decide) rfl (fun ls hl => ?_)
      refine lv_aload_n hx hb dX11_places_51 rfl (lv_at hl 2 rfl) ?_
      have hs20 : kw_Split [(rf, .inl (y 0, 3, .inl (fun _ => 0))), (ha, .inl (y 0, 30, .inl (fun _ => 0))), (mo, .inr (11, [.ref to, .ref ke, .ref ik, .ref rf, .long 0, .long 1, .ref ha, .ref r0, .ref br, .ref bp, .ref bys, .int 0, .int 0, .int 0, .int 0, .int 0, .ref an, .ref va])), (to, .inl (y 0, 228, .inl (fun _ => 0)))] [(mo, .inr (11, [.ref to, .ref ke, .ref ik, .ref rf, .long 0, .long 1, .ref ha, .ref r0, .ref br, .ref bp, .ref bys, .int 0, .int 0, .int 0, .int 0, .int 0, .ref an, .ref va])), (to, .inl (y 0, 228, .inl (fun _ => 0))), (ha, .inl (y 0, 30, .inl (fun _ => 0)))] [(rf, .inl (y 0, 3, .inl (fun _ => 0)))] [2, 3, 1] [0] := ⟨rfl, rfl, rfl, rfl, rfl, by decide⟩
      refine kw_go_v hs20 hP hD hS hA (va_runV (As := []) (rest := []) ⟨hx, hb, hml, hown, hts⟩ (cw_layHand l D y mo to ke ik rf ha r0 br bp bys an va  _) (cwV 0 hts gX11_places_X11_layHand rfl rfl rfl (by decide +kernel) ⟨Nat.le_of_ble_eq_true rfl, Nat.le_of_ble_eq_true rfl⟩) (kw_PreV (ci := 11) (q0 := 2) hs20 hP hD hK hN rfl rfl) rfl rfl hl.1 rfl (lv_room (Nat.le_of_ble_eq_true rfl)) dX11_places_52 ⟨Nat.le_of_ble_eq_true rfl, Nat.le_of_ble_eq_true rfl⟩) (fun u H locs hq hP hD hS => ?_)
      obtain - := hq
      have hP : va_P D vwCl [(rf, .inl (y 0, 3, .inl (fun _ => 0))), (mo, .inr (11, [.ref to, .ref ke, .ref ik, .ref rf, .long 0, .long 1, .ref ha, .ref r0, .ref br, .ref bp, .ref bys, .int 0, .int 0, .int 0, .int 0, .int 0, .ref an, .ref va])), (to, .inl (y 0, 228, .inl (fun _ => 0))), (ha, .inl (y 0, 30, .inl (fun _ => 0)))] H := hP
      have hD : va_D A [(rf, .inl (y 0, 3, .inl (fun _ => 0))), (mo, .inr (11, [.ref to, .ref ke, .ref ik, .ref rf, .long 0, .long 1, .ref ha, .ref r0, .ref br, .ref bp, .ref bys, .int 0, .int 0, .int 0, .int 0, .int 0, .ref an, .ref va])), (to, .inl (y 0, 228, .inl (fun _ => 0))), (ha, .inl (y 0, 30, .inl (fun _ => 0)))] := hD
      refine lv_iconst (v := 0) hx hb dX11_places_55 (by decide) ?_
      refine lv_istore (lv' := [(5, .int 0), (4, .int 0), (3, .int 1), (0, .ref mo), (1, .int w), (2, .int g1)]) hx hb dX11_places_56 hl (by decide) rfl (fun ls hl => ?_)
      refine lv_iload hx hb dX11_places_58 (lv_at hl 0 rfl) ?_
      refine lv_aload_n hx hb dX11_places_60 rfl (lv_at hl 3 rfl) ?_
      have hs21 : kw_Split [(rf, .inl (y 0, 3, .inl (fun _ => 0))), (mo, .inr (11, [.ref to, .ref ke, .ref ik, .ref rf, .long 0, .long 1, .ref ha, .ref r0, .ref br, .ref bp, .ref bys, .int 0, .int 0, .int 0, .int 0, .int 0, .ref an, .ref va])), (to, .inl (y 0, 228, .inl (fun _ => 0))), (ha, .inl (y 0, 30, .inl (fun _ => 0)))] [(mo, .inr (11, [.ref to, .ref ke, .ref ik, .ref rf, .long 0, .long 1, .ref ha, .ref r0, .ref br, .ref bp, .ref bys, .int 0, .int 0, .int 0, .int 0, .int 0, .ref an, .ref va])), (to, .inl (y 0, 228, .inl (fun _ => 0)))] [(rf, .inl (y 0, 3, .inl (fun _ => 0))), (ha, .inl (y 0, 30, .inl (fun _ => 0)))] [1, 2] [0, 3] := ⟨rfl, rfl, rfl, rfl, rfl, by decide⟩
      refine kw_go_i hs21 hP hD hS hA (va_runV (As := []) (rest := [.int 0]) ⟨hx, hb, hml, hown, hts⟩ (cw_manyGleaners l D y mo to ke ik rf ha r0 br bp bys an va (fun _ => 0) 0 (by first | rfl | decide | assumption | (simp [upd]; done) | (unfold upd; rw [if_neg (by decide)]; assumption) | (unfold upd; rw [if_neg (by decide), if_neg (by decide)]; assumption)) _) (cwV 0 hts gX11_places_X11_manyGleaners rfl rfl rfl (by decide +kernel) ⟨Nat.le_of_ble_eq_true rfl, Nat.le_of_ble_eq_true rfl⟩) (kw_PreV (ci := 11) (q0 := 1) hs21 hP hD hK hN rfl rfl) rfl rfl hl.1 rfl (lv_room (Nat.le_of_ble_eq_true rfl)) dX11_places_61 ⟨Nat.le_of_ble_eq_true rfl, Nat.le_of_ble_eq_true rfl⟩) (fun r u H locs hq hP hD hS => ?_)
      obtain rfl := hq
      have hP : va_P D vwCl [(rf, .inl (y 0, 3, .inl (fun _ => 0))), (ha, .inl (y 0, 30, .inl (fun _ => 0))), (mo, .inr (11, [.ref to, .ref ke, .ref ik, .ref rf, .long 0, .long 1, .ref ha, .ref r0, .ref br, .ref bp, .ref bys, .int 0, .int 0, .int 0, .int 0, .int 0, .ref an, .ref va])), (to, .inl (y 0, 228, .inl (fun _ => 0)))] H := hP
      have hD : va_D A [(rf, .inl (y 0, 3, .inl (fun _ => 0))), (ha, .inl (y 0, 30, .inl (fun _ => 0))), (mo, .inr (11, [.ref to, .ref ke, .ref ik, .ref rf, .long 0, .long 1, .ref ha, .ref r0, .ref br, .ref bp, .ref bys, .int 0, .int 0, .int 0, .int 0, .int 0, .ref an, .ref va])), (to, .inl (y 0, 228, .inl (fun _ => 0)))] := hD
      refine lv_icmp_ge (tgt := 80) hx hb dX11_places_64 (by decide) (fun _ => ?_) (fun h9 => absurd h9 (by decide))
      refine lv_iconst (v := 0) hx hb dX11_places_80 (by decide) ?_
      refine lv_istore (lv' := [(5, .int 0), (4, .int 0), (3, .int 1), (0, .ref mo), (1, .int w), (2, .int g1)]) hx hb dX11_places_81 hl (by decide) rfl (fun ls hl => ?_)
      refine lv_iload hx hb dX11_places_83 (lv_at hl 0 rfl) ?_
      refine lv_iload_n hx hb dX11_places_85 rfl (lv_at hl 2 rfl) ?_
      refine lv_icmp_ge (tgt := 169) hx hb dX11_places_86 (by decide) (fun h9 => absurd h9 (by decide)) (fun _ => ?_)
      refine lv_aload_n hx hb dX11_places_89 rfl (lv_at hl 3 rfl) ?_
      have hs22 : kw_Split [(rf, .inl (y 0, 3, .inl (fun _ => 0))), (ha, .inl (y 0, 30, .inl (fun _ => 0))), (mo, .inr (11, [.ref to, .ref ke, .ref ik, .ref rf, .long 0, .long 1, .ref ha, .ref r0, .ref br, .ref bp, .ref bys, .int 0, .int 0, .int 0, .int 0, .int 0, .ref an, .ref va])), (to, .inl (y 0, 228, .inl (fun _ => 0)))] [(mo, .inr (11, [.ref to, .ref ke, .ref ik, .ref rf, .long 0, .long 1, .ref ha, .ref r0, .ref br, .ref bp, .ref bys, .int 0, .int 0, .int 0, .int 0, .int 0, .ref an, .ref va])), (to, .inl (y 0, 228, .inl (fun _ => 0)))] [(rf, .inl (y 0, 3, .inl (fun _ => 0))), (ha, .inl (y 0, 30, .inl (fun _ => 0)))] [2, 3] [0, 1] := ⟨rfl, rfl, rfl, rfl, rfl, by decide⟩
      refine kw_go_i hs22 hP hD hS hA (va_runV (As := []) (rest := []) ⟨hx, hb, hml, hown, hts⟩ (cw_manyGleaners l D y mo to ke ik rf ha r0 br bp bys an va (fun _ => 0) 0 (by first | rfl | decide | assumption | (simp [upd]; done) | (unfold upd; rw [if_neg (by decide)]; assumption) | (unfold upd; rw [if_neg (by decide), if_neg (by decide)]; assumption)) _) (cwV 0 hts gX11_places_X11_manyGleaners rfl rfl rfl (by decide +kernel) ⟨Nat.le_of_ble_eq_true rfl, Nat.le_of_ble_eq_true rfl⟩) (kw_PreV (ci := 11) (q0 := 2) hs22 hP hD hK hN rfl rfl) rfl rfl hl.1 rfl (lv_room (Nat.le_of_ble_eq_true rfl)) dX11_places_90 ⟨Nat.le_of_ble_eq_true rfl, Nat.le_of_ble_eq_true rfl⟩) (fun r u H locs hq hP hD hS => ?_)
      obtain rfl := hq
      have hP : va_P D vwCl [(rf, .inl (y 0, 3, .inl (fun _ => 0))), (ha, .inl (y 0, 30, .inl (fun _ => 0))), (mo, .inr (11, [.ref to, .ref ke, .ref ik, .ref rf, .long 0, .long 1, .ref ha, .ref r0, .ref br, .ref bp, .ref bys, .int 0, .int 0, .int 0, .int 0, .int 0, .ref an, .ref va])), (to, .inl (y 0, 228, .inl (fun _ => 0)))] H := hP
      have hD : va_D A [(rf, .inl (y 0, 3, .inl (fun _ => 0))), (ha, .inl (y 0, 30, .inl (fun _ => 0))), (mo, .inr (11, [.ref to, .ref ke, .ref ik, .ref rf, .long 0, .long 1, .ref ha, .ref r0, .ref br, .ref bp, .ref bys, .int 0, .int 0, .int 0, .int 0, .int 0, .ref an, .ref va])), (to, .inl (y 0, 228, .inl (fun _ => 0)))] := hD
      refine lv_if_le (tgt := 169) hx hb dX11_places_93 (by decide) (fun _ => ?_) (fun h9 => absurd h9 (by decide))
      refine lv_iload_n hx hb dX11_places_169 rfl (lv_at hl 5 rfl) ?_
      refine lv_iconst (v := (-1)) hx hb dX11_places_170 (by decide) ?_
      refine lv_icmp_ne (tgt := 179) hx hb dX11_places_171 (by decide) (fun h23 => ?_) (fun h24 => ?_)
      · skip
        exact (by have gZ1 : ¬ (g1.toInt64 : Int64).toInt < ((-1) : Int64).toInt := fun q => h15 (Int64.lt_iff_toInt_lt.mpr q); have lZ1 : (g1.toInt64).toInt = g1.toInt := Int32.toInt_toInt64 _; have lZ2 : ((-1) : Int64).toInt = -1 := (by decide); have gZ2 : ¬ ((-1) : Int64).toInt < (g1.toInt64 : Int64).toInt := fun q => h16 (Int64.lt_iff_toInt_lt.mpr q); have gZ3 : ¬ (g1 : Int32).toInt = ((-1) : Int32).toInt := fun q => h23 (Int32.toInt_inj.mp q); have lZ3 : ((-1) : Int32).toInt = -1 := (by decide); omega : False).elim
      · skip
        refine lv_iload hx hb dX11_places_174 (lv_at hl 1 rfl) ?_
        refine lv_goto (tgt := 185) hx hb dX11_places_176 (by decide) ?_
        have hsp : (0 : Int32) = (sp_places w g1) := by
          have gZ1 : ¬ (w.toInt64 : Int64).toInt < (0 : Int64).toInt := fun q => h5 (Int64.lt_iff_toInt_lt.mpr q)
          have lZ1 : (w.toInt64).toInt = w.toInt := Int32.toInt_toInt64 _
          have lZ2 : (0 : Int64).toInt = 0 := by decide
          have gZ2 : ¬ (1 : Int64).toInt < (w.toInt64 : Int64).toInt := fun q => h6 (Int64.lt_iff_toInt_lt.mpr q)
          have lZ3 : (1 : Int64).toInt = 1 := by decide
          have gZ3 : ¬ (g1.toInt64 : Int64).toInt < ((-1) : Int64).toInt := fun q => h15 (Int64.lt_iff_toInt_lt.mpr q)
          have lZ4 : (g1.toInt64).toInt = g1.toInt := Int32.toInt_toInt64 _
          have lZ5 : ((-1) : Int64).toInt = -1 := by decide
          have gZ4 : ¬ ((-1) : Int64).toInt < (g1.toInt64 : Int64).toInt := fun q => h16 (Int64.lt_iff_toInt_lt.mpr q)
          have gZ5 := congrArg Int32.toInt h24
          have lZ6 : ((-1) : Int32).toInt = -1 := by decide
          unfold sp_places; first | rfl | decide | exact (if_neg (by omega)).symm | exact (if_pos (by omega)).symm | exact ((if_pos (by omega)).trans (if_neg (by omega))).symm | exact ((if_pos (by omega)).trans (if_pos (by omega))).symm | exact ((if_neg (by omega)).trans (if_pos (by omega))).symm | exact ((if_neg (by omega)).trans (if_neg (by omega))).symm
        exact W.iret (v := 0) hx hb hr (fun tZ ht hW => ⟨⟨0, (), rfl, hsp, by rw [ht]; exact hP.sub [] rfl, hD.sub [] (by decide) rfl⟩, hS.F ht⟩) hS.2.2 dX11_places_185
