set_option maxHeartbeats 4000000 in
set_option maxRecDepth 100000 in
theorem cp_which (l : Launch) (D : va_G) (y : Nat → ClassId) (g : Nat) (kk : Nat) (nw : Nat) (im : Nat) (kp : Nat) (tx : Nat) (tr : Nat) (be : Nat) (sh : Nat) (sd : Nat) (rf : Nat) (nk : Nat) (nd : Nat) (ne : Nat) (nm : Nat) (nn : Nat) (t : Int32) : kw_Mi l yX10_which wsX10_which ({ frames := 2, cells := 0, slots := 0, locals := 62 }) D y [.ref g, .int t] [(g, .inr (10, [.ref kk, .ref nw, .ref im, .ref kp, .ref tx, .ref tr, .ref be, .ref sh, .ref sd, .ref rf, .int 0, .int 1])), (rf, .inl (y 0, 3, .inl (fun _ => 0))), (nw, .inr (4, [.ref kk, .ref nk, .ref nd, .ref ne, .ref nm, .ref nn, .int 0, .int 0, .int 0, .int 0, .int 0]))] (fun (r : Int32) (u : Unit) => r = (sp_which t)) (fun _ => []) 0 0 := by
  refine kw_Mi.of (cc := cX10_which) (maxL := 4) (ret := (some .int)) (by decide) rfl ?_
  intro pZ eZ s mZ beZ meZ cZ A hE
  obtain ⟨hx, hb, hr, hml, hts, hown, hlocks, hin, hA, hP, hD, hK, hN⟩ := hE
  have hS : va_S A s.heap s.heap [] := va_S.rf
  have hl := lv_entry ([.ref g, .int t]) (n := 4) (Nat.le_of_ble_eq_true rfl)
  rw [lg_entry_eq]
  generalize (lg_sl ([.ref g, .int t]) ++ List.replicate (4 - (lg_sl ([.ref g, .int t])).length) Slot.unset).toArray = ls at hl ⊢
  have hl : lv_has ls 4 [(0, .ref g), (1, .int t)] := hl
  have fw1 := hts (.fieldLink RX10 36 "GleanDusk" "now" "LGleanDusk$Parish;") (List.mem_of_getElem? (i := 1) rfl)
  have fw2 := hts (.fieldLink RX10 94 "GleanDusk$Parish" "fields" "I") (List.mem_of_getElem? (i := 2) rfl)
  have i10 : ∀ w ∈ wsX100, w ∈ wsX10_which := fun _ h => List.mem_cons_of_mem _ (List.mem_append_left _ (List.mem_append_left _ (List.mem_append_right _ h)))
  have i4 : ∀ w ∈ wsX40, w ∈ wsX10_which := fun _ h => List.mem_cons_of_mem _ (List.mem_append_left _ (List.mem_append_right _ h))
  refine lv_iload_n hx hb dX10_which_0 rfl (lv_at hl 1 rfl) ?_
  refine lv_bipush (v := 12) hx hb dX10_which_1 (by decide) ?_
  have hs1 : kw_Split [(g, .inr (10, [.ref kk, .ref nw, .ref im, .ref kp, .ref tx, .ref tr, .ref be, .ref sh, .ref sd, .ref rf, .int 0, .int 1])), (rf, .inl (y 0, 3, .inl (fun _ => 0))), (nw, .inr (4, [.ref kk, .ref nk, .ref nd, .ref ne, .ref nm, .ref nn, .int 0, .int 0, .int 0, .int 0, .int 0]))] [] [(g, .inr (10, [.ref kk, .ref nw, .ref im, .ref kp, .ref tx, .ref tr, .ref be, .ref sh, .ref sd, .ref rf, .int 0, .int 1])), (rf, .inl (y 0, 3, .inl (fun _ => 0))), (nw, .inr (4, [.ref kk, .ref nk, .ref nd, .ref ne, .ref nm, .ref nn, .int 0, .int 0, .int 0, .int 0, .int 0]))] [] [0, 1, 2] := ⟨rfl, rfl, rfl, rfl, rfl, by decide⟩
  refine kw_go_i hs1 hP hD hS hA (va_runS (As := [.int t, .int 12]) (rest := []) ⟨hx, hb, hml, hown, hts⟩ (ct_isBelow l D y t 12  _) (va_cwS 2 hts gX10_which_X10_isBelow rfl rfl rfl (by decide +kernel) ⟨Nat.le_of_ble_eq_true rfl, Nat.le_of_ble_eq_true rfl⟩) (kw_PreS hs1 hP hD hK hN) rfl rfl hl.1 rfl (lv_room (Nat.le_of_ble_eq_true rfl)) dX10_which_3 ⟨Nat.le_of_ble_eq_true rfl, Nat.le_of_ble_eq_true rfl⟩) (fun r u H locs hq hP hD hS => ?_)
  rcases hq with ⟨h2, rfl⟩ | ⟨h3, h4, rfl⟩ | ⟨h5, h6, rfl⟩
  · skip
    have hP : va_P D vwCl [(g, .inr (10, [.ref kk, .ref nw, .ref im, .ref kp, .ref tx, .ref tr, .ref be, .ref sh, .ref sd, .ref rf, .int 0, .int 1])), (rf, .inl (y 0, 3, .inl (fun _ => 0))), (nw, .inr (4, [.ref kk, .ref nk, .ref nd, .ref ne, .ref nm, .ref nn, .int 0, .int 0, .int 0, .int 0, .int 0]))] H := hP
    have hD : va_D A [(g, .inr (10, [.ref kk, .ref nw, .ref im, .ref kp, .ref tx, .ref tr, .ref be, .ref sh, .ref sd, .ref rf, .int 0, .int 1])), (rf, .inl (y 0, 3, .inl (fun _ => 0))), (nw, .inr (4, [.ref kk, .ref nk, .ref nd, .ref ne, .ref nm, .ref nn, .int 0, .int 0, .int 0, .int 0, .int 0]))] := hD
    refine lv_if_ne (tgt := 14) hx hb dX10_which_6 (by decide) (fun h9 => absurd h9 (by decide)) (fun _ => ?_)
    refine lv_aload_n hx hb dX10_which_9 rfl (lv_at hl 0 rfl) ?_
    have hs7 : kw_Split [(g, .inr (10, [.ref kk, .ref nw, .ref im, .ref kp, .ref tx, .ref tr, .ref be, .ref sh, .ref sd, .ref rf, .int 0, .int 1])), (rf, .inl (y 0, 3, .inl (fun _ => 0))), (nw, .inr (4, [.ref kk, .ref nk, .ref nd, .ref ne, .ref nm, .ref nn, .int 0, .int 0, .int 0, .int 0, .int 0]))] [(g, .inr (10, [.ref kk, .ref nw, .ref im, .ref kp, .ref tx, .ref tr, .ref be, .ref sh, .ref sd, .ref rf, .int 0, .int 1])), (rf, .inl (y 0, 3, .inl (fun _ => 0)))] [(nw, .inr (4, [.ref kk, .ref nk, .ref nd, .ref ne, .ref nm, .ref nn, .int 0, .int 0, .int 0, .int 0, .int 0]))] [0, 1] [2] := ⟨rfl, rfl, rfl, rfl, rfl, by decide⟩
    refine kw_go_i hs7 hP hD hS hA (va_runV (As := []) (rest := []) ⟨hx, hb, hml, hown, hts⟩ (ct_refuseBad l D y g kk nw im kp tx tr be sh sd rf (fun _ => 0)  _) (cwV 0 hts gX10_which_X10_refuseBad rfl rfl rfl (by decide +kernel) ⟨Nat.le_of_ble_eq_true rfl, Nat.le_of_ble_eq_true rfl⟩) (kw_PreV (ci := 10) (q0 := 0) hs7 hP hD hK hN rfl rfl) rfl rfl hl.1 rfl (lv_room (Nat.le_of_ble_eq_true rfl)) dX10_which_10 ⟨Nat.le_of_ble_eq_true rfl, Nat.le_of_ble_eq_true rfl⟩) (fun r u H locs hq hP hD hS => ?_)
    obtain rfl := hq
    have hP : va_P D vwCl [(nw, .inr (4, [.ref kk, .ref nk, .ref nd, .ref ne, .ref nm, .ref nn, .int 0, .int 0, .int 0, .int 0, .int 0]))] H := hP
    have hD : va_D A [(nw, .inr (4, [.ref kk, .ref nk, .ref nd, .ref ne, .ref nm, .ref nn, .int 0, .int 0, .int 0, .int 0, .int 0]))] := hD
    have hsp : ((-2) : Int32) = (sp_which t) := by
      have gZ1 := Int32.lt_iff_toInt_lt.mp h2
      have lZ1 : (0 : Int32).toInt = 0 := by decide
      unfold sp_which; first | rfl | decide | exact (if_neg (by omega)).symm | exact (if_pos (by omega)).symm | exact ((if_pos (by omega)).trans (if_neg (by omega))).symm | exact ((if_pos (by omega)).trans (if_pos (by omega))).symm | exact ((if_neg (by omega)).trans (if_pos (by omega))).symm | exact ((if_neg (by omega)).trans (if_neg (by omega))).symm
    exact W.iret (v := (-2)) hx hb hr (fun tZ ht hW => ⟨⟨(-2), (), rfl, hsp, by rw [ht]; exact hP.sub [] rfl, hD.sub [] (by decide) rfl⟩, hS.F ht⟩) hS.2.2 dX10_which_13
  · skip
    have hP : va_P D vwCl [(g, .inr (10, [.ref kk, .ref nw, .ref im, .ref kp, .ref tx, .ref tr, .ref be, .ref sh, .ref sd, .ref rf, .int 0, .int 1])), (rf, .inl (y 0, 3, .inl (fun _ => 0))), (nw, .inr (4, [.ref kk, .ref nk, .ref nd, .ref ne, .ref nm, .ref nn, .int 0, .int 0, .int 0, .int 0, .int 0]))] H := hP
    have hD : va_D A [(g, .inr (10, [.ref kk, .ref nw, .ref im, .ref kp, .ref tx, .ref tr, .ref be, .ref sh, .ref sd, .ref rf, .int 0, .int 1])), (rf, .inl (y 0, 3, .inl (fun _ => 0))), (nw, .inr (4, [.ref kk, .ref nk, .ref nd, .ref ne, .ref nm, .ref nn, .int 0, .int 0, .int 0, .int 0, .int 0]))] := hD
    refine lv_if_ne (tgt := 14) hx hb dX10_which_6 (by decide) (fun h9 => absurd h9 (by decide)) (fun _ => ?_)
    refine lv_aload_n hx hb dX10_which_9 rfl (lv_at hl 0 rfl) ?_
    have hs8 : kw_Split [(g, .inr (10, [.ref kk, .ref nw, .ref im, .ref kp, .ref tx, .ref tr, .ref be, .ref sh, .ref sd, .ref rf, .int 0, .int 1])), (rf, .inl (y 0, 3, .inl (fun _ => 0))), (nw, .inr (4, [.ref kk, .ref nk, .ref nd, .ref ne, .ref nm, .ref nn, .int 0, .int 0, .int 0, .int 0, .int 0]))] [(g, .inr (10, [.ref kk, .ref nw, .ref im, .ref kp, .ref tx, .ref tr, .ref be, .ref sh, .ref sd, .ref rf, .int 0, .int 1])), (rf, .inl (y 0, 3, .inl (fun _ => 0)))] [(nw, .inr (4, [.ref kk, .ref nk, .ref nd, .ref ne, .ref nm, .ref nn, .int 0, .int 0, .int 0, .int 0, .int 0]))] [0, 1] [2] := ⟨rfl, rfl, rfl, rfl, rfl, by decide⟩
    refine kw_go_i hs8 hP hD hS hA (va_runV (As := []) (rest := []) ⟨hx, hb, hml, hown, hts⟩ (ct_refuseBad l D y g kk nw im kp tx tr be sh sd rf (fun _ => 0)  _) (cwV 0 hts gX10_which_X10_refuseBad rfl rfl rfl (by decide +kernel) ⟨Nat.le_of_ble_eq_true rfl, Nat.le_of_ble_eq_true rfl⟩) (kw_PreV (ci := 10) (q0 := 0) hs8 hP hD hK hN rfl rfl) rfl rfl hl.1 rfl (lv_room (Nat.le_of_ble_eq_true rfl)) dX10_which_10 ⟨Nat.le_of_ble_eq_true rfl, Nat.le_of_ble_eq_true rfl⟩) (fun r u H locs hq hP hD hS => ?_)
    obtain rfl := hq
    have hP : va_P D vwCl [(nw, .inr (4, [.ref kk, .ref nk, .ref nd, .ref ne, .ref nm, .ref nn, .int 0, .int 0, .int 0, .int 0, .int 0]))] H := hP
    have hD : va_D A [(nw, .inr (4, [.ref kk, .ref nk, .ref nd, .ref ne, .ref nm, .ref nn, .int 0, .int 0, .int 0, .int 0, .int 0]))] := hD
    have hsp : ((-2) : Int32) = (sp_which t) := by
      have gZ1 : ¬ (t : Int32).toInt < (0 : Int32).toInt := fun q => h3 (Int32.lt_iff_toInt_lt.mpr q)
      have lZ1 : (0 : Int32).toInt = 0 := by decide
      have gZ2 := Int32.le_iff_toInt_le.mp h4
      have lZ2 : (12 : Int32).toInt = 12 := by decide
      unfold sp_which; first | rfl | decide | exact (if_neg (by omega)).symm | exact (if_pos (by omega)).symm | exact ((if_pos (by omega)).trans (if_neg (by omega))).symm | exact ((if_pos (by omega)).trans (if_pos (by omega))).symm | exact ((if_neg (by omega)).trans (if_pos (by omega))).symm | exact ((if_neg (by omega)).trans (if_neg (by omega))).symm
    exact W.iret (v := (-2)) hx hb hr (fun tZ ht hW => ⟨⟨(-2), (), rfl, hsp, by rw [ht]; exact hP.sub [] rfl, hD.sub [] (by decide) rfl⟩, hS.F ht⟩) hS.2.2 dX10_which_13
  · skip
    have hP : va_P D vwCl [(g, .inr (10, [.ref kk, .ref nw, .ref im, .ref kp, .ref tx, .ref tr, .ref be, .ref sh, .ref sd, .ref rf, .int 0, .int 1])), (rf, .inl (y 0, 3, .inl (fun _ => 0))), (nw, .inr (4, [.ref kk, .ref nk, .ref nd, .ref ne, .ref nm, .ref nn, .int 0, .int 0, .int 0, .int 0, .int 0]))] H := hP
    have hD : va_D A [(g, .inr (10, [.ref kk, .ref nw, .ref im, .ref kp, .ref tx, .ref tr, .ref be, .ref sh, .ref sd, .ref rf, .int 0, .int 1])), (rf, .inl (y 0, 3, .inl (fun _ => 0))), (nw, .inr (4, [.ref kk, .ref nk, .ref nd, .ref ne, .ref nm, .ref nn, .int 0, .int 0, .int 0, .int 0, .int 0]))] := hD
    refine lv_if_ne (tgt := 14) hx hb dX10_which_6 (by decide) (fun _ => ?_) (fun h9 => absurd h9 (by decide))
    refine lv_aload_n hx hb dX10_which_14 rfl (lv_at hl 0 rfl) ?_
    refine lv_iload_n hx hb dX10_which_15 rfl (lv_at hl 1 rfl) ?_
    have hs9 : kw_Split [(g, .inr (10, [.ref kk, .ref nw, .ref im, .ref kp, .ref tx, .ref tr, .ref be, .ref sh, .ref sd, .ref rf, .int 0, .int 1])), (rf, .inl (y 0, 3, .inl (fun _ => 0))), (nw, .inr (4, [.ref kk, .ref nk, .ref nd, .ref ne, .ref nm, .ref nn, .int 0, .int 0, .int 0, .int 0, .int 0]))] [(g, .inr (10, [.ref kk, .ref nw, .ref im, .ref kp, .ref tx, .ref tr, .ref be, .ref sh, .ref sd, .ref rf, .int 0, .int 1])), (nw, .inr (4, [.ref kk, .ref nk, .ref nd, .ref ne, .ref nm, .ref nn, .int 0, .int 0, .int 0, .int 0, .int 0]))] [(rf, .inl (y 0, 3, .inl (fun _ => 0)))] [0, 2] [1] := ⟨rfl, rfl, rfl, rfl, rfl, by decide⟩
    refine kw_go_v hs9 hP hD hS hA (va_runV (As := [.int t]) (rest := []) ⟨hx, hb, hml, hown, hts⟩ (ct_showAll l D y g kk nw im kp tx tr be sh sd rf nk nd ne nm nn t  _) (cwV 1 hts gX10_which_X10_showAll rfl rfl rfl (by decide +kernel) ⟨Nat.le_of_ble_eq_true rfl, Nat.le_of_ble_eq_true rfl⟩) (kw_PreV (ci := 10) (q0 := 0) hs9 hP hD hK hN rfl rfl) rfl rfl hl.1 rfl (lv_room (Nat.le_of_ble_eq_true rfl)) dX10_which_16 ⟨Nat.le_of_ble_eq_true rfl, Nat.le_of_ble_eq_true rfl⟩) (fun u H locs hq hP hD hS => ?_)
    obtain - := hq
    have hP : va_P D vwCl [(rf, .inl (y 0, 3, .inl (fun _ => 0))), (g, .inr (10, [.ref kk, .ref nw, .ref im, .ref kp, .ref tx, .ref tr, .ref be, .ref sh, .ref sd, .ref rf, .int 0, .int 1])), (nw, .inr (4, [.ref kk, .ref nk, .ref nd, .ref ne, .ref nm, .ref nn, .int 0, .int 0, .int 0, .int 0, .int 0]))] H := hP
    have hD : va_D A [(rf, .inl (y 0, 3, .inl (fun _ => 0))), (g, .inr (10, [.ref kk, .ref nw, .ref im, .ref kp, .ref tx, .ref tr, .ref be, .ref sh, .ref sd, .ref rf, .int 0, .int 1])), (nw, .inr (4, [.ref kk, .ref nk, .ref nd, .ref ne, .ref nm, .ref nn, .int 0, .int 0, .int 0, .int 0, .int 0]))] := hD
    refine lv_iconst (v := (-1)) hx hb dX10_which_19 (by decide) ?_
    refine lv_istore_n (lv' := [(2, .int (-1)), (0, .ref g), (1, .int t)]) hx hb dX10_which_20 rfl hl (by decide) rfl (fun ls hl => ?_)
    refine lv_iconst (v := 0) hx hb dX10_which_21 (by decide) ?_
    refine lv_istore_n (lv' := [(3, .int 0), (2, .int (-1)), (0, .ref g), (1, .int t)]) hx hb dX10_which_22 rfl hl (by decide) rfl (fun ls hl => ?_)
    refine lv_iload_n hx hb dX10_which_23 rfl (lv_at hl 0 rfl) ?_
    refine lv_aload_n hx hb dX10_which_24 rfl (lv_at hl 2 rfl) ?_
    refine va_get (D := D) (ci := 10) (v := .ref nw) (C := RX10) (T := TX10) (N := 12) hx hb hts i10 hown hK hP 1 rfl rfl 1 (by decide) fw1 (fun _ h9 => h9) rfl dX10_which_25 ?_
    refine va_get (D := D) (ci := 4) (v := .int 0) (C := RX4) (T := TX4) (N := 11) hx hb hts i4 hown hK hP 2 rfl rfl 6 (by decide) fw2 (fun _ h9 => h9) rfl dX10_which_28 ?_
    refine lv_icmp_ge (tgt := 62) hx hb dX10_which_31 (by decide) (fun _ => ?_) (fun h9 => absurd h9 (by decide))
    refine lv_iload_n hx hb dX10_which_62 rfl (lv_at hl 1 rfl) ?_
    have hsp : ((-1) : Int32) = (sp_which t) := by
      have gZ1 : ¬ (t : Int32).toInt < (0 : Int32).toInt := fun q => h5 (Int32.lt_iff_toInt_lt.mpr q)
      have lZ1 : (0 : Int32).toInt = 0 := by decide
      have gZ2 : ¬ (12 : Int32).toInt ≤ (t : Int32).toInt := fun q => h6 (Int32.le_iff_toInt_le.mpr q)
      have lZ2 : (12 : Int32).toInt = 12 := by decide
      unfold sp_which; first | rfl | decide | exact (if_neg (by omega)).symm | exact (if_pos (by omega)).symm | exact ((if_pos (by omega)).trans (if_neg (by omega))).symm | exact ((if_pos (by omega)).trans (if_pos (by omega))).symm | exact ((if_neg (by omega)).trans (if_pos (by omega))).symm | exact ((if_neg (by omega)).trans (if_neg (by omega))).symm
    exact W.iret (v := (-1)) hx hb hr (fun tZ ht hW => ⟨⟨(-1), (), rfl, hsp, by rw [ht]; exact hP.sub [] rfl, hD.sub [] (by decide) rfl⟩, hS.F ht⟩) hS.2.2 dX10_which_63

set_option maxHeartbeats 4000000 in
set_option maxRecDepth 100000 in
theorem cp_lasts (l : Launch) (D : va_G) (y : Nat → ClassId) (g : Nat) (kk : Nat) (nw : Nat) (im : Nat) (kp : Nat) (tx : Nat) (tr : Nat) (be : Nat) (sh : Nat) (sd : Nat) (rf : Nat) (nk : Nat) (nd : Nat) (ne : Nat) (nm : Nat) (nn : Nat) (x : Int32) (x2 : Int32) : kw_Mi l yX10_lasts wsX10_lasts ({ frames := 3, cells := 0, slots := 0, locals := 82 }) D y [.ref g, .int x, .int x2] [(g, .inr (10, [.ref kk, .ref nw, .ref im, .ref kp, .ref tx, .ref tr, .ref be, .ref sh, .ref sd, .ref rf, .int 0, .int 1])), (rf, .inl (y 0, 3, .inl (fun _ => 0))), (nw, .inr (4, [.ref kk, .ref nk, .ref nd, .ref ne, .ref nm, .ref nn, .int 0, .int 0, .int 0, .int 0, .int 0]))] (fun (r : Int32) (u : Unit) => r = (-2)) (fun _ => []) 0 0 := by
  refine kw_Mi.of (cc := cX10_lasts) (maxL := 5) (ret := (some .int)) (by decide) rfl ?_
  intro pZ eZ s mZ beZ meZ cZ A hE
  obtain ⟨hx, hb, hr, hml, hts, hown, hlocks, hin, hA, hP, hD, hK, hN⟩ := hE
  have hS : va_S A s.heap s.heap [] := va_S.rf
  have hl := lv_entry ([.ref g, .int x, .int x2]) (n := 5) (Nat.le_of_ble_eq_true rfl)
  rw [lg_entry_eq]
  generalize (lg_sl ([.ref g, .int x, .int x2]) ++ List.replicate (5 - (lg_sl ([.ref g, .int x, .int x2])).length) Slot.unset).toArray = ls at hl ⊢
  have hl : lv_has ls 5 [(0, .ref g), (1, .int x), (2, .int x2)] := hl
  have fw1 := hts (.fieldLink RX10 36 "GleanDusk" "now" "LGleanDusk$Parish;") (List.mem_of_getElem? (i := 1) rfl)
  have i10 : ∀ w ∈ wsX100, w ∈ wsX10_lasts := fun _ h => List.mem_cons_of_mem _ (List.mem_append_left _ (List.mem_append_left _ (List.mem_append_right _ h)))
  refine lv_aload_n hx hb dX10_lasts_0 rfl (lv_at hl 0 rfl) ?_
  refine va_get (D := D) (ci := 10) (v := .ref nw) (C := RX10) (T := TX10) (N := 12) hx hb hts i10 hown hK hP 0 rfl rfl 1 (by decide) fw1 (fun _ h9 => h9) rfl dX10_lasts_1 ?_
  refine lv_iload_n hx hb dX10_lasts_4 rfl (lv_at hl 1 rfl) ?_
  have hs1 : kw_Split [(g, .inr (10, [.ref kk, .ref nw, .ref im, .ref kp, .ref tx, .ref tr, .ref be, .ref sh, .ref sd, .ref rf, .int 0, .int 1])), (rf, .inl (y 0, 3, .inl (fun _ => 0))), (nw, .inr (4, [.ref kk, .ref nk, .ref nd, .ref ne, .ref nm, .ref nn, .int 0, .int 0, .int 0, .int 0, .int 0]))] [(nw, .inr (4, [.ref kk, .ref nk, .ref nd, .ref ne, .ref nm, .ref nn, .int 0, .int 0, .int 0, .int 0, .int 0]))] [(g, .inr (10, [.ref kk, .ref nw, .ref im, .ref kp, .ref tx, .ref tr, .ref be, .ref sh, .ref sd, .ref rf, .int 0, .int 1])), (rf, .inl (y 0, 3, .inl (fun _ => 0)))] [2] [0, 1] := ⟨rfl, rfl, rfl, rfl, rfl, by decide⟩
  refine kw_go_i hs1 hP hD hS hA (va_runV (As := [.int x]) (rest := []) ⟨hx, hb, hml, hown, hts⟩ (ct_hasGleaner l D y nw kk nk nd ne nm nn 0 0 0 0 0 x  _) (cwV 1 hts gX10_lasts_X4_hasGleaner rfl rfl rfl (by decide +kernel) ⟨Nat.le_of_ble_eq_true rfl, Nat.le_of_ble_eq_true rfl⟩) (kw_PreV (ci := 4) (q0 := 2) hs1 hP hD hK hN rfl rfl) rfl rfl hl.1 rfl (lv_room (Nat.le_of_ble_eq_true rfl)) dX10_lasts_5 ⟨Nat.le_of_ble_eq_true rfl, Nat.le_of_ble_eq_true rfl⟩) (fun r u H locs hq hP hD hS => ?_)
  rcases hq with ⟨h2, rfl⟩ | ⟨h3, h4, rfl⟩ | ⟨h5, h6, rfl⟩
  · skip
    have hP : va_P D vwCl [(g, .inr (10, [.ref kk, .ref nw, .ref im, .ref kp, .ref tx, .ref tr, .ref be, .ref sh, .ref sd, .ref rf, .int 0, .int 1])), (rf, .inl (y 0, 3, .inl (fun _ => 0))), (nw, .inr (4, [.ref kk, .ref nk, .ref nd, .ref ne, .ref nm, .ref nn, .int 0, .int 0, .int 0, .int 0, .int 0]))] H := hP
    have hD : va_D A [(g, .inr (10, [.ref kk, .ref nw, .ref im, .ref kp, .ref tx, .ref tr, .ref be, .ref sh, .ref sd, .ref rf, .int 0, .int 1])), (rf, .inl (y 0, 3, .inl (fun _ => 0))), (nw, .inr (4, [.ref kk, .ref nk, .ref nd, .ref ne, .ref nm, .ref nn, .int 0, .int 0, .int 0, .int 0, .int 0]))] := hD
    refine lv_if_eq (tgt := 22) hx hb dX10_lasts_8 (by decide) (fun _ => ?_) (fun h9 => absurd h9 (by decide))
    refine lv_aload_n hx hb dX10_lasts_22 rfl (lv_at hl 0 rfl) ?_
    have hs7 : kw_Split [(g, .inr (10, [.ref kk, .ref nw, .ref im, .ref kp, .ref tx, .ref tr, .ref be, .ref sh, .ref sd, .ref rf, .int 0, .int 1])), (rf, .inl (y 0, 3, .inl (fun _ => 0))), (nw, .inr (4, [.ref kk, .ref nk, .ref nd, .ref ne, .ref nm, .ref nn, .int 0, .int 0, .int 0, .int 0, .int 0]))] [(g, .inr (10, [.ref kk, .ref nw, .ref im, .ref kp, .ref tx, .ref tr, .ref be, .ref sh, .ref sd, .ref rf, .int 0, .int 1])), (rf, .inl (y 0, 3, .inl (fun _ => 0)))] [(nw, .inr (4, [.ref kk, .ref nk, .ref nd, .ref ne, .ref nm, .ref nn, .int 0, .int 0, .int 0, .int 0, .int 0]))] [0, 1] [2] := ⟨rfl, rfl, rfl, rfl, rfl, by decide⟩
    refine kw_go_i hs7 hP hD hS hA (va_runV (As := []) (rest := []) ⟨hx, hb, hml, hown, hts⟩ (ct_refuseBad l D y g kk nw im kp tx tr be sh sd rf (fun _ => 0)  _) (cwV 0 hts gX10_lasts_X10_refuseBad rfl rfl rfl (by decide +kernel) ⟨Nat.le_of_ble_eq_true rfl, Nat.le_of_ble_eq_true rfl⟩) (kw_PreV (ci := 10) (q0 := 0) hs7 hP hD hK hN rfl rfl) rfl rfl hl.1 rfl (lv_room (Nat.le_of_ble_eq_true rfl)) dX10_lasts_23 ⟨Nat.le_of_ble_eq_true rfl, Nat.le_of_ble_eq_true rfl⟩) (fun r u H locs hq hP hD hS => ?_)
    obtain rfl := hq
    have hP : va_P D vwCl [(nw, .inr (4, [.ref kk, .ref nk, .ref nd, .ref ne, .ref nm, .ref nn, .int 0, .int 0, .int 0, .int 0, .int 0]))] H := hP
    have hD : va_D A [(nw, .inr (4, [.ref kk, .ref nk, .ref nd, .ref ne, .ref nm, .ref nn, .int 0, .int 0, .int 0, .int 0, .int 0]))] := hD
    have hsp : ((-2) : Int32) = (-2) := by
      have gZ1 := Int32.lt_iff_toInt_lt.mp h2
      have lZ1 : (0 : Int32).toInt = 0 := by decide
      rfl
    exact W.iret (v := (-2)) hx hb hr (fun tZ ht hW => ⟨⟨(-2), (), rfl, hsp, by rw [ht]; exact hP.sub [] rfl, hD.sub [] (by decide) rfl⟩, hS.F ht⟩) hS.2.2 dX10_lasts_26
  · skip
    have hP : va_P D vwCl [(g, .inr (10, [.ref kk, .ref nw, .ref im, .ref kp, .ref tx, .ref tr, .ref be, .ref sh, .ref sd, .ref rf, .int 0, .int 1])), (rf, .inl (y 0, 3, .inl (fun _ => 0))), (nw, .inr (4, [.ref kk, .ref nk, .ref nd, .ref ne, .ref nm, .ref nn, .int 0, .int 0, .int 0, .int 0, .int 0]))] H := hP
    have hD : va_D A [(g, .inr (10, [.ref kk, .ref nw, .ref im, .ref kp, .ref tx, .ref tr, .ref be, .ref sh, .ref sd, .ref rf, .int 0, .int 1])), (rf, .inl (y 0, 3, .inl (fun _ => 0))), (nw, .inr (4, [.ref kk, .ref nk, .ref nd, .ref ne, .ref nm, .ref nn, .int 0, .int 0, .int 0, .int 0, .int 0]))] := hD
    refine lv_if_eq (tgt := 22) hx hb dX10_lasts_8 (by decide) (fun _ => ?_) (fun h9 => absurd h9 (by decide))
    refine lv_aload_n hx hb dX10_lasts_22 rfl (lv_at hl 0 rfl) ?_
    have hs8 : kw_Split [(g, .inr (10, [.ref kk, .ref nw, .ref im, .ref kp, .ref tx, .ref tr, .ref be, .ref sh, .ref sd, .ref rf, .int 0, .int 1])), (rf, .inl (y 0, 3, .inl (fun _ => 0))), (nw, .inr (4, [.ref kk, .ref nk, .ref nd, .ref ne, .ref nm, .ref nn, .int 0, .int 0, .int 0, .int 0, .int 0]))] [(g, .inr (10, [.ref kk, .ref nw, .ref im, .ref kp, .ref tx, .ref tr, .ref be, .ref sh, .ref sd, .ref rf, .int 0, .int 1])), (rf, .inl (y 0, 3, .inl (fun _ => 0)))] [(nw, .inr (4, [.ref kk, .ref nk, .ref nd, .ref ne, .ref nm, .ref nn, .int 0, .int 0, .int 0, .int 0, .int 0]))] [0, 1] [2] := ⟨rfl, rfl, rfl, rfl, rfl, by decide⟩
    refine kw_go_i hs8 hP hD hS hA (va_runV (As := []) (rest := []) ⟨hx, hb, hml, hown, hts⟩ (ct_refuseBad l D y g kk nw im kp tx tr be sh sd rf (fun _ => 0)  _) (cwV 0 hts gX10_lasts_X10_refuseBad rfl rfl rfl (by decide +kernel) ⟨Nat.le_of_ble_eq_true rfl, Nat.le_of_ble_eq_true rfl⟩) (kw_PreV (ci := 10) (q0 := 0) hs8 hP hD hK hN rfl rfl) rfl rfl hl.1 rfl (lv_room (Nat.le_of_ble_eq_true rfl)) dX10_lasts_23 ⟨Nat.le_of_ble_eq_true rfl, Nat.le_of_ble_eq_true rfl⟩) (fun r u H locs hq hP hD hS => ?_)
    obtain rfl := hq
    have hP : va_P D vwCl [(nw, .inr (4, [.ref kk, .ref nk, .ref nd, .ref ne, .ref nm, .ref nn, .int 0, .int 0, .int 0, .int 0, .int 0]))] H := hP
    have hD : va_D A [(nw, .inr (4, [.ref kk, .ref nk, .ref nd, .ref ne, .ref nm, .ref nn, .int 0, .int 0, .int 0, .int 0, .int 0]))] := hD
    have hsp : ((-2) : Int32) = (-2) := by
      have gZ1 : ¬ (x : Int32).toInt < (0 : Int32).toInt := fun q => h3 (Int32.lt_iff_toInt_lt.mpr q)
      have lZ1 : (0 : Int32).toInt = 0 := by decide
      have gZ2 := Int32.le_iff_toInt_le.mp h4
      rfl
    exact W.iret (v := (-2)) hx hb hr (fun tZ ht hW => ⟨⟨(-2), (), rfl, hsp, by rw [ht]; exact hP.sub [] rfl, hD.sub [] (by decide) rfl⟩, hS.F ht⟩) hS.2.2 dX10_lasts_26
  · skip
    exact (kw_x1 h5 h6).elim

set_option maxHeartbeats 4000000 in
set_option maxRecDepth 100000 in
theorem cp_enough (l : Launch) (D : va_G) (y : Nat → ClassId) (g : Nat) (kk : Nat) (nw : Nat) (im : Nat) (kp : Nat) (tx : Nat) (tr : Nat) (be : Nat) (sh : Nat) (sd : Nat) (rf : Nat) (nk : Nat) (nd : Nat) (ne : Nat) (nm : Nat) (nn : Nat) (nl : Nat) (na : Nat) (ns : Nat) (x : Int32) : kw_Mi l yX10_enough wsX10_enough ({ frames := 2, cells := 0, slots := 0, locals := 63 }) D y [.ref g, .int x] [(g, .inr (10, [.ref kk, .ref nw, .ref im, .ref kp, .ref tx, .ref tr, .ref be, .ref sh, .ref sd, .ref rf, .int 0, .int 1])), (rf, .inl (y 0, 3, .inl (fun _ => 0))), (nw, .inr (4, [.ref kk, .ref nk, .ref nd, .ref ne, .ref nm, .ref nn, .int 0, .int 0, .int 0, .int 0, .int 0])), (nd, .inr (1, [.ref nl, .ref na, .ref ns, .int 0, .int 0, .int 0]))] (fun (r : Int32) (u : Unit) => r = (sp_enough x)) (fun _ => []) 0 0 := by
  refine kw_Mi.of (cc := cX10_enough) (maxL := 5) (ret := (some .int)) (by decide) rfl ?_
  intro pZ eZ s mZ beZ meZ cZ A hE
  obtain ⟨hx, hb, hr, hml, hts, hown, hlocks, hin, hA, hP, hD, hK, hN⟩ := hE
  have hS : va_S A s.heap s.heap [] := va_S.rf
  have hl := lv_entry ([.ref g, .int x]) (n := 5) (Nat.le_of_ble_eq_true rfl)
  rw [lg_entry_eq]
  generalize (lg_sl ([.ref g, .int x]) ++ List.replicate (5 - (lg_sl ([.ref g, .int x])).length) Slot.unset).toArray = ls at hl ⊢
  have hl : lv_has ls 5 [(0, .ref g), (1, .int x)] := hl
  have fw1 := hts (.fieldLink RX10 36 "GleanDusk" "now" "LGleanDusk$Parish;") (List.mem_of_getElem? (i := 1) rfl)
  have fw2 := hts (.fieldLink RX10 115 "GleanDusk$Parish" "gleaners" "I") (List.mem_of_getElem? (i := 2) rfl)
  have i10 : ∀ w ∈ wsX100, w ∈ wsX10_enough := fun _ h => List.mem_cons_of_mem _ (List.mem_append_left _ (List.mem_append_left _ (List.mem_append_right _ h)))
  have i4 : ∀ w ∈ wsX40, w ∈ wsX10_enough := fun _ h => List.mem_cons_of_mem _ (List.mem_append_left _ (List.mem_append_right _ h))
  refine lv_iload_n hx hb dX10_enough_0 rfl (lv_at hl 1 rfl) ?_
  refine lv_iconst (v := 0) hx hb dX10_enough_1 (by decide) ?_
  refine lv_sipush (v := 999) hx hb dX10_enough_2 (by decide) ?_
  have hs1 : kw_Split [(g, .inr (10, [.ref kk, .ref nw, .ref im, .ref kp, .ref tx, .ref tr, .ref be, .ref sh, .ref sd, .ref rf, .int 0, .int 1])), (rf, .inl (y 0, 3, .inl (fun _ => 0))), (nw, .inr (4, [.ref kk, .ref nk, .ref nd, .ref ne, .ref nm, .ref nn, .int 0, .int 0, .int 0, .int 0, .int 0])), (nd, .inr (1, [.ref nl, .ref na, .ref ns, .int 0, .int 0, .int 0]))] [] [(g, .inr (10, [.ref kk, .ref nw, .ref im, .ref kp, .ref tx, .ref tr, .ref be, .ref sh, .ref sd, .ref rf, .int 0, .int 1])), (rf, .inl (y 0, 3, .inl (fun _ => 0))), (nw, .inr (4, [.ref kk, .ref nk, .ref nd, .ref ne, .ref nm, .ref nn, .int 0, .int 0, .int 0, .int 0, .int 0])), (nd, .inr (1, [.ref nl, .ref na, .ref ns, .int 0, .int 0, .int 0]))] [] [0, 1, 2, 3] := ⟨rfl, rfl, rfl, rfl, rfl, by decide⟩
  refine kw_go_i hs1 hP hD hS hA (va_runS (As := [.int x, .int 0, .int 999]) (rest := []) ⟨hx, hb, hml, hown, hts⟩ (ct_isIn l D y x 0 999  _) (va_cwS 3 hts gX10_enough_X10_isIn rfl rfl rfl (by decide +kernel) ⟨Nat.le_of_ble_eq_true rfl, Nat.le_of_ble_eq_true rfl⟩) (kw_PreS hs1 hP hD hK hN) rfl rfl hl.1 rfl (lv_room (Nat.le_of_ble_eq_true rfl)) dX10_enough_5 ⟨Nat.le_of_ble_eq_true rfl, Nat.le_of_ble_eq_true rfl⟩) (fun r u H locs hq hP hD hS => ?_)
  rcases hq with ⟨h2, rfl⟩ | ⟨h3, h4, rfl⟩ | ⟨h5, h6, rfl⟩
  · skip
    have hP : va_P D vwCl [(g, .inr (10, [.ref kk, .ref nw, .ref im, .ref kp, .ref tx, .ref tr, .ref be, .ref sh, .ref sd, .ref rf, .int 0, .int 1])), (rf, .inl (y 0, 3, .inl (fun _ => 0))), (nw, .inr (4, [.ref kk, .ref nk, .ref nd, .ref ne, .ref nm, .ref nn, .int 0, .int 0, .int 0, .int 0, .int 0])), (nd, .inr (1, [.ref nl, .ref na, .ref ns, .int 0, .int 0, .int 0]))] H := hP
    have hD : va_D A [(g, .inr (10, [.ref kk, .ref nw, .ref im, .ref kp, .ref tx, .ref tr, .ref be, .ref sh, .ref sd, .ref rf, .int 0, .int 1])), (rf, .inl (y 0, 3, .inl (fun _ => 0))), (nw, .inr (4, [.ref kk, .ref nk, .ref nd, .ref ne, .ref nm, .ref nn, .int 0, .int 0, .int 0, .int 0, .int 0])), (nd, .inr (1, [.ref nl, .ref na, .ref ns, .int 0, .int 0, .int 0]))] := hD
    refine lv_if_ne (tgt := 16) hx hb dX10_enough_8 (by decide) (fun h9 => absurd h9 (by decide)) (fun _ => ?_)
    refine lv_aload_n hx hb dX10_enough_11 rfl (lv_at hl 0 rfl) ?_
    have hs7 : kw_Split [(g, .inr (10, [.ref kk, .ref nw, .ref im, .ref kp, .ref tx, .ref tr, .ref be, .ref sh, .ref sd, .ref rf, .int 0, .int 1])), (rf, .inl (y 0, 3, .inl (fun _ => 0))), (nw, .inr (4, [.ref kk, .ref nk, .ref nd, .ref ne, .ref nm, .ref nn, .int 0, .int 0, .int 0, .int 0, .int 0])), (nd, .inr (1, [.ref nl, .ref na, .ref ns, .int 0, .int 0, .int 0]))] [(g, .inr (10, [.ref kk, .ref nw, .ref im, .ref kp, .ref tx, .ref tr, .ref be, .ref sh, .ref sd, .ref rf, .int 0, .int 1])), (rf, .inl (y 0, 3, .inl (fun _ => 0)))] [(nw, .inr (4, [.ref kk, .ref nk, .ref nd, .ref ne, .ref nm, .ref nn, .int 0, .int 0, .int 0, .int 0, .int 0])), (nd, .inr (1, [.ref nl, .ref na, .ref ns, .int 0, .int 0, .int 0]))] [0, 1] [2, 3] := ⟨rfl, rfl, rfl, rfl, rfl, by decide⟩
    refine kw_go_i hs7 hP hD hS hA (va_runV (As := []) (rest := []) ⟨hx, hb, hml, hown, hts⟩ (ct_refuseBad l D y g kk nw im kp tx tr be sh sd rf (fun _ => 0)  _) (cwV 0 hts gX10_enough_X10_refuseBad rfl rfl rfl (by decide +kernel) ⟨Nat.le_of_ble_eq_true rfl, Nat.le_of_ble_eq_true rfl⟩) (kw_PreV (ci := 10) (q0 := 0) hs7 hP hD hK hN rfl rfl) rfl rfl hl.1 rfl (lv_room (Nat.le_of_ble_eq_true rfl)) dX10_enough_12 ⟨Nat.le_of_ble_eq_true rfl, Nat.le_of_ble_eq_true rfl⟩) (fun r u H locs hq hP hD hS => ?_)
    obtain rfl := hq
    have hP : va_P D vwCl [(nw, .inr (4, [.ref kk, .ref nk, .ref nd, .ref ne, .ref nm, .ref nn, .int 0, .int 0, .int 0, .int 0, .int 0])), (nd, .inr (1, [.ref nl, .ref na, .ref ns, .int 0, .int 0, .int 0]))] H := hP
    have hD : va_D A [(nw, .inr (4, [.ref kk, .ref nk, .ref nd, .ref ne, .ref nm, .ref nn, .int 0, .int 0, .int 0, .int 0, .int 0])), (nd, .inr (1, [.ref nl, .ref na, .ref ns, .int 0, .int 0, .int 0]))] := hD
    have hsp : ((-2) : Int32) = (sp_enough x) := by
      have gZ1 := Int32.lt_iff_toInt_lt.mp h2
      have lZ1 : (0 : Int32).toInt = 0 := by decide
      unfold sp_enough; first | rfl | decide | exact (if_neg (by omega)).symm | exact (if_pos (by omega)).symm | exact ((if_pos (by omega)).trans (if_neg (by omega))).symm | exact ((if_pos (by omega)).trans (if_pos (by omega))).symm | exact ((if_neg (by omega)).trans (if_pos (by omega))).symm | exact ((if_neg (by omega)).trans (if_neg (by omega))).symm
    exact W.iret (v := (-2)) hx hb hr (fun tZ ht hW => ⟨⟨(-2), (), rfl, hsp, by rw [ht]; exact hP.sub [] rfl, hD.sub [] (by decide) rfl⟩, hS.F ht⟩) hS.2.2 dX10_enough_15
  · skip
    have hP : va_P D vwCl [(g, .inr (10, [.ref kk, .ref nw, .ref im, .ref kp, .ref tx, .ref tr, .ref be, .ref sh, .ref sd, .ref rf, .int 0, .int 1])), (rf, .inl (y 0, 3, .inl (fun _ => 0))), (nw, .inr (4, [.ref kk, .ref nk, .ref nd, .ref ne, .ref nm, .ref nn, .int 0, .int 0, .int 0, .int 0, .int 0])), (nd, .inr (1, [.ref nl, .ref na, .ref ns, .int 0, .int 0, .int 0]))] H := hP
    have hD : va_D A [(g, .inr (10, [.ref kk, .ref nw, .ref im, .ref kp, .ref tx, .ref tr, .ref be, .ref sh, .ref sd, .ref rf, .int 0, .int 1])), (rf, .inl (y 0, 3, .inl (fun _ => 0))), (nw, .inr (4, [.ref kk, .ref nk, .ref nd, .ref ne, .ref nm, .ref nn, .int 0, .int 0, .int 0, .int 0, .int 0])), (nd, .inr (1, [.ref nl, .ref na, .ref ns, .int 0, .int 0, .int 0]))] := hD
    refine lv_if_ne (tgt := 16) hx hb dX10_enough_8 (by decide) (fun h9 => absurd h9 (by decide)) (fun _ => ?_)
    refine lv_aload_n hx hb dX10_enough_11 rfl (lv_at hl 0 rfl) ?_
    have hs8 : kw_Split [(g, .inr (10, [.ref kk, .ref nw, .ref im, .ref kp, .ref tx, .ref tr, .ref be, .ref sh, .ref sd, .ref rf, .int 0, .int 1])), (rf, .inl (y 0, 3, .inl (fun _ => 0))), (nw, .inr (4, [.ref kk, .ref nk, .ref nd, .ref ne, .ref nm, .ref nn, .int 0, .int 0, .int 0, .int 0, .int 0])), (nd, .inr (1, [.ref nl, .ref na, .ref ns, .int 0, .int 0, .int 0]))] [(g, .inr (10, [.ref kk, .ref nw, .ref im, .ref kp, .ref tx, .ref tr, .ref be, .ref sh, .ref sd, .ref rf, .int 0, .int 1])), (rf, .inl (y 0, 3, .inl (fun _ => 0)))] [(nw, .inr (4, [.ref kk, .ref nk, .ref nd, .ref ne, .ref nm, .ref nn, .int 0, .int 0, .int 0, .int 0, .int 0])), (nd, .inr (1, [.ref nl, .ref na, .ref ns, .int 0, .int 0, .int 0]))] [0, 1] [2, 3] := ⟨rfl, rfl, rfl, rfl, rfl, by decide⟩
    refine kw_go_i hs8 hP hD hS hA (va_runV (As := []) (rest := []) ⟨hx, hb, hml, hown, hts⟩ (ct_refuseBad l D y g kk nw im kp tx tr be sh sd rf (fun _ => 0)  _) (cwV 0 hts gX10_enough_X10_refuseBad rfl rfl rfl (by decide +kernel) ⟨Nat.le_of_ble_eq_true rfl, Nat.le_of_ble_eq_true rfl⟩) (kw_PreV (ci := 10) (q0 := 0) hs8 hP hD hK hN rfl rfl) rfl rfl hl.1 rfl (lv_room (Nat.le_of_ble_eq_true rfl)) dX10_enough_12 ⟨Nat.le_of_ble_eq_true rfl, Nat.le_of_ble_eq_true rfl⟩) (fun r u H locs hq hP hD hS => ?_)
    obtain rfl := hq
    have hP : va_P D vwCl [(nw, .inr (4, [.ref kk, .ref nk, .ref nd, .ref ne, .ref nm, .ref nn, .int 0, .int 0, .int 0, .int 0, .int 0])), (nd, .inr (1, [.ref nl, .ref na, .ref ns, .int 0, .int 0, .int 0]))] H := hP
    have hD : va_D A [(nw, .inr (4, [.ref kk, .ref nk, .ref nd, .ref ne, .ref nm, .ref nn, .int 0, .int 0, .int 0, .int 0, .int 0])), (nd, .inr (1, [.ref nl, .ref na, .ref ns, .int 0, .int 0, .int 0]))] := hD
    have hsp : ((-2) : Int32) = (sp_enough x) := by
      have gZ1 : ¬ (x : Int32).toInt < (0 : Int32).toInt := fun q => h3 (Int32.lt_iff_toInt_lt.mpr q)
      have lZ1 : (0 : Int32).toInt = 0 := by decide
      have gZ2 := Int32.lt_iff_toInt_lt.mp h4
      have lZ2 : (999 : Int32).toInt = 999 := by decide
      unfold sp_enough; first | rfl | decide | exact (if_neg (by omega)).symm | exact (if_pos (by omega)).symm | exact ((if_pos (by omega)).trans (if_neg (by omega))).symm | exact ((if_pos (by omega)).trans (if_pos (by omega))).symm | exact ((if_neg (by omega)).trans (if_pos (by omega))).symm | exact ((if_neg (by omega)).trans (if_neg (by omega))).symm
    exact W.iret (v := (-2)) hx hb hr (fun tZ ht hW => ⟨⟨(-2), (), rfl, hsp, by rw [ht]; exact hP.sub [] rfl, hD.sub [] (by decide) rfl⟩, hS.F ht⟩) hS.2.2 dX10_enough_15
  · skip
    have hP : va_P D vwCl [(g, .inr (10, [.ref kk, .ref nw, .ref im, .ref kp, .ref tx, .ref tr, .ref be, .ref sh, .ref sd, .ref rf, .int 0, .int 1])), (rf, .inl (y 0, 3, .inl (fun _ => 0))), (nw, .inr (4, [.ref kk, .ref nk, .ref nd, .ref ne, .ref nm, .ref nn, .int 0, .int 0, .int 0, .int 0, .int 0])), (nd, .inr (1, [.ref nl, .ref na, .ref ns, .int 0, .int 0, .int 0]))] H := hP
    have hD : va_D A [(g, .inr (10, [.ref kk, .ref nw, .ref im, .ref kp, .ref tx, .ref tr, .ref be, .ref sh, .ref sd, .ref rf, .int 0, .int 1])), (rf, .inl (y 0, 3, .inl (fun _ => 0))), (nw, .inr (4, [.ref kk, .ref nk, .ref nd, .ref ne, .ref nm, .ref nn, .int 0, .int 0, .int 0, .int 0, .int 0])), (nd, .inr (1, [.ref nl, .ref na, .ref ns, .int 0, .int 0, .int 0]))] := hD
    refine lv_if_ne (tgt := 16) hx hb dX10_enough_8 (by decide) (fun _ => ?_) (fun h9 => absurd h9 (by decide))
    refine lv_iconst (v := (-1)) hx hb dX10_enough_16 (by decide) ?_
    refine lv_istore_n (lv' := [(2, .int (-1)), (0, .ref g), (1, .int x)]) hx hb dX10_enough_17 rfl hl (by decide) rfl (fun ls hl => ?_)
    refine lv_iconst (v := 0) hx hb dX10_enough_18 (by decide) ?_
    refine lv_istore_n (lv' := [(3, .int 0), (2, .int (-1)), (0, .ref g), (1, .int x)]) hx hb dX10_enough_19 rfl hl (by decide) rfl (fun ls hl => ?_)
    refine lv_iload_n hx hb dX10_enough_20 rfl (lv_at hl 0 rfl) ?_
    refine lv_iconst (v := 1) hx hb dX10_enough_21 (by decide) ?_
    refine lv_aload_n hx hb dX10_enough_22 rfl (lv_at hl 2 rfl) ?_
    refine va_get (D := D) (ci := 10) (v := .ref nw) (C := RX10) (T := TX10) (N := 12) hx hb hts i10 hown hK hP 0 rfl rfl 1 (by decide) fw1 (fun _ h9 => h9) rfl dX10_enough_23 ?_
    refine va_get (D := D) (ci := 4) (v := .int 0) (C := RX4) (T := TX4) (N := 11) hx hb hts i4 hown hK hP 2 rfl rfl 7 (by decide) fw2 (fun _ h9 => h9) rfl dX10_enough_26 ?_
    refine lv_ishl hx hb dX10_enough_29 ?_
    refine lv_topi (fun z9 hz9 => ?_)
    obtain rfl : z9 = 1 := hz9.trans (by first | rfl | decide | (simp [upd]; done))
    refine lv_icmp_ge (tgt := 81) hx hb dX10_enough_30 (by decide) (fun h9 => absurd h9 (by decide)) (fun _ => ?_)
    refine lv_iload_n hx hb dX10_enough_33 rfl (lv_at hl 1 rfl) ?_
    refine lv_iconst (v := (-1)) hx hb dX10_enough_34 (by decide) ?_
    refine lv_icmp_eq (tgt := 49) hx hb dX10_enough_35 (by decide) (fun _ => ?_) (fun h9 => absurd h9 (by decide))
    refine lv_iconst (v := 1) hx hb dX10_enough_49 (by decide) ?_
    refine lv_goto (tgt := 54) hx hb dX10_enough_50 (by decide) ?_
    refine lv_istore (lv' := [(4, .int 1), (3, .int 0), (2, .int (-1)), (0, .ref g), (1, .int x)]) hx hb dX10_enough_54 hl (by decide) rfl (fun ls hl => ?_)
    refine lv_iload hx hb dX10_enough_56 (lv_at hl 0 rfl) ?_
    refine lv_if_eq (tgt := 75) hx hb dX10_enough_58 (by decide) (fun h9 => absurd h9 (by decide)) (fun _ => ?_)
    refine lv_aload_n hx hb dX10_enough_61 rfl (lv_at hl 3 rfl) ?_
    refine va_get (D := D) (ci := 10) (v := .ref nw) (C := RX10) (T := TX10) (N := 12) hx hb hts i10 hown hK hP 0 rfl rfl 1 (by decide) fw1 (fun _ h9 => h9) rfl dX10_enough_62 ?_
    refine lv_iload_n hx hb dX10_enough_65 rfl (lv_at hl 1 rfl) ?_
    have hs10 : kw_Split [(g, .inr (10, [.ref kk, .ref nw, .ref im, .ref kp, .ref tx, .ref tr, .ref be, .ref sh, .ref sd, .ref rf, .int 0, .int 1])), (rf, .inl (y 0, 3, .inl (fun _ => 0))), (nw, .inr (4, [.ref kk, .ref nk, .ref nd, .ref ne, .ref nm, .ref nn, .int 0, .int 0, .int 0, .int 0, .int 0])), (nd, .inr (1, [.ref nl, .ref na, .ref ns, .int 0, .int 0, .int 0]))] [(nw, .inr (4, [.ref kk, .ref nk, .ref nd, .ref ne, .ref nm, .ref nn, .int 0, .int 0, .int 0, .int 0, .int 0])), (nd, .inr (1, [.ref nl, .ref na, .ref ns, .int 0, .int 0, .int 0]))] [(g, .inr (10, [.ref kk, .ref nw, .ref im, .ref kp, .ref tx, .ref tr, .ref be, .ref sh, .ref sd, .ref rf, .int 0, .int 1])), (rf, .inl (y 0, 3, .inl (fun _ => 0)))] [2, 3] [0, 1] := ⟨rfl, rfl, rfl, rfl, rfl, by decide⟩
    refine kw_go_i hs10 hP hD hS hA (va_runV (As := [.int 0]) (rest := []) ⟨hx, hb, hml, hown, hts⟩ (ct_storesOf l D y nw kk nk nd ne nm nn nl na ns 0  _) (cwV 1 hts gX10_enough_X4_storesOf rfl rfl rfl (by decide +kernel) ⟨Nat.le_of_ble_eq_true rfl, Nat.le_of_ble_eq_true rfl⟩) (kw_PreV (ci := 4) (q0 := 2) hs10 hP hD hK hN rfl rfl) rfl rfl hl.1 rfl (lv_room (Nat.le_of_ble_eq_true rfl)) dX10_enough_66 ⟨Nat.le_of_ble_eq_true rfl, Nat.le_of_ble_eq_true rfl⟩) (fun r u H locs hq hP hD hS => ?_)
    obtain rfl := hq
    have hP : va_P D vwCl [(g, .inr (10, [.ref kk, .ref nw, .ref im, .ref kp, .ref tx, .ref tr, .ref be, .ref sh, .ref sd, .ref rf, .int 0, .int 1])), (rf, .inl (y 0, 3, .inl (fun _ => 0))), (nw, .inr (4, [.ref kk, .ref nk, .ref nd, .ref ne, .ref nm, .ref nn, .int 0, .int 0, .int 0, .int 0, .int 0])), (nd, .inr (1, [.ref nl, .ref na, .ref ns, .int 0, .int 0, .int 0]))] H := hP
    have hD : va_D A [(g, .inr (10, [.ref kk, .ref nw, .ref im, .ref kp, .ref tx, .ref tr, .ref be, .ref sh, .ref sd, .ref rf, .int 0, .int 1])), (rf, .inl (y 0, 3, .inl (fun _ => 0))), (nw, .inr (4, [.ref kk, .ref nk, .ref nd, .ref ne, .ref nm, .ref nn, .int 0, .int 0, .int 0, .int 0, .int 0])), (nd, .inr (1, [.ref nl, .ref na, .ref ns, .int 0, .int 0, .int 0]))] := hD
    refine lv_iload_n hx hb dX10_enough_69 rfl (lv_at hl 4 rfl) ?_
    refine lv_icmp_lt (tgt := 75) hx hb dX10_enough_70 (by decide) (fun h11 => ?_) (fun h12 => ?_)
    · skip
      refine lv_iinc (v := 1) (lv' := [(3, .int 1), (4, .int 1), (2, .int (-1)), (0, .ref g), (1, .int x)]) hx hb dX10_enough_75 hl (k := 1) rfl (by decide) (by decide) rfl (fun ls hl => ?_)
      refine lv_goto (tgt := 20) hx hb dX10_enough_78 (by decide) ?_
      refine lv_iload_n hx hb dX10_enough_20 rfl (lv_at hl 0 rfl) ?_
      refine lv_iconst (v := 1) hx hb dX10_enough_21 (by decide) ?_
      refine lv_aload_n hx hb dX10_enough_22 rfl (lv_at hl 3 rfl) ?_
      refine va_get (D := D) (ci := 10) (v := .ref nw) (C := RX10) (T := TX10) (N := 12) hx hb hts i10 hown hK hP 0 rfl rfl 1 (by decide) fw1 (fun _ h9 => h9) rfl dX10_enough_23 ?_
      refine va_get (D := D) (ci := 4) (v := .int 0) (C := RX4) (T := TX4) (N := 11) hx hb hts i4 hown hK hP 2 rfl rfl 7 (by decide) fw2 (fun _ h9 => h9) rfl dX10_enough_26 ?_
      refine lv_ishl hx hb dX10_enough_29 ?_
      refine lv_topi (fun z13 hz13 => ?_)
      obtain rfl : z13 = 1 := hz13.trans (by first | rfl | decide | (simp [upd]; done))
      refine lv_icmp_ge (tgt := 81) hx hb dX10_enough_30 (by decide) (fun _ => ?_) (fun h9 => absurd h9 (by decide))
      refine lv_iload_n hx hb dX10_enough_81 rfl (lv_at hl 2 rfl) ?_
      have hsp : ((-1) : Int32) = (sp_enough x) := by
        have gZ1 : ¬ (x : Int32).toInt < (0 : Int32).toInt := fun q => h5 (Int32.lt_iff_toInt_lt.mpr q)
        have lZ1 : (0 : Int32).toInt = 0 := by decide
        have gZ2 : ¬ (999 : Int32).toInt < (x : Int32).toInt := fun q => h6 (Int32.lt_iff_toInt_lt.mpr q)
        have lZ2 : (999 : Int32).toInt = 999 := by decide
        have gZ3 := Int32.lt_iff_toInt_lt.mp h11
        unfold sp_enough; first | rfl | decide | exact (if_neg (by omega)).symm | exact (if_pos (by omega)).symm | exact ((if_pos (by omega)).trans (if_neg (by omega))).symm | exact ((if_pos (by omega)).trans (if_pos (by omega))).symm | exact ((if_neg (by omega)).trans (if_pos (by omega))).symm | exact ((if_neg (by omega)).trans (if_neg (by omega))).symm
      exact W.iret (v := (-1)) hx hb hr (fun tZ ht hW => ⟨⟨(-1), (), rfl, hsp, by rw [ht]; exact hP.sub [] rfl, hD.sub [] (by decide) rfl⟩, hS.F ht⟩) hS.2.2 dX10_enough_82
    · skip
      refine lv_iload_n hx hb dX10_enough_73 rfl (lv_at hl 1 rfl) ?_
      refine lv_istore_n (lv' := [(2, .int 0), (4, .int 1), (3, .int 0), (0, .ref g), (1, .int x)]) hx hb dX10_enough_74 rfl hl (by decide) rfl (fun ls hl => ?_)
      refine lv_iinc (v := 1) (lv' := [(3, .int 1), (2, .int 0), (4, .int 1), (0, .ref g), (1, .int x)]) hx hb dX10_enough_75 hl (k := 2) rfl (by decide) (by decide) rfl (fun ls hl => ?_)
      refine lv_goto (tgt := 20) hx hb dX10_enough_78 (by decide) ?_
      refine lv_iload_n hx hb dX10_enough_20 rfl (lv_at hl 0 rfl) ?_
      refine lv_iconst (v := 1) hx hb dX10_enough_21 (by decide) ?_
      refine lv_aload_n hx hb dX10_enough_22 rfl (lv_at hl 3 rfl) ?_
      refine va_get (D := D) (ci := 10) (v := .ref nw) (C := RX10) (T := TX10) (N := 12) hx hb hts i10 hown hK hP 0 rfl rfl 1 (by decide) fw1 (fun _ h9 => h9) rfl dX10_enough_23 ?_
      refine va_get (D := D) (ci := 4) (v := .int 0) (C := RX4) (T := TX4) (N := 11) hx hb hts i4 hown hK hP 2 rfl rfl 7 (by decide) fw2 (fun _ h9 => h9) rfl dX10_enough_26 ?_
      refine lv_ishl hx hb dX10_enough_29 ?_
      refine lv_topi (fun z14 hz14 => ?_)
      obtain rfl : z14 = 1 := hz14.trans (by first | rfl | decide | (simp [upd]; done))
      refine lv_icmp_ge (tgt := 81) hx hb dX10_enough_30 (by decide) (fun _ => ?_) (fun h9 => absurd h9 (by decide))
      refine lv_iload_n hx hb dX10_enough_81 rfl (lv_at hl 1 rfl) ?_
      have hsp : (0 : Int32) = (sp_enough x) := by
        have gZ1 : ¬ (x : Int32).toInt < (0 : Int32).toInt := fun q => h5 (Int32.lt_iff_toInt_lt.mpr q)
        have lZ1 : (0 : Int32).toInt = 0 := by decide
        have gZ2 : ¬ (999 : Int32).toInt < (x : Int32).toInt := fun q => h6 (Int32.lt_iff_toInt_lt.mpr q)
        have lZ2 : (999 : Int32).toInt = 999 := by decide
        have gZ3 : ¬ (0 : Int32).toInt < (x : Int32).toInt := fun q => h12 (Int32.lt_iff_toInt_lt.mpr q)
        unfold sp_enough; first | rfl | decide | exact (if_neg (by omega)).symm | exact (if_pos (by omega)).symm | exact ((if_pos (by omega)).trans (if_neg (by omega))).symm | exact ((if_pos (by omega)).trans (if_pos (by omega))).symm | exact ((if_neg (by omega)).trans (if_pos (by omega))).symm | exact ((if_neg (by omega)).trans (if_neg (by omega))).symm
      exact W.iret (v := 0) hx hb hr (fun tZ ht hW => ⟨⟨0, (), rfl, hsp, by rw [ht]; exact hP.sub [] rfl, hD.sub [] (by decide) rfl⟩, hS.F ht⟩) hS.2.2 dX10_enough_82

set_option maxHeartbeats 4000000 in
set_option maxRecDepth 100000 in
theorem cp_missed (l : Launch) (D : va_G) (y : Nat → ClassId) (g : Nat) (kk : Nat) (nw : Nat) (im : Nat) (kp : Nat) (tx : Nat) (tr : Nat) (be : Nat) (sh : Nat) (sd : Nat) (rf : Nat) (nk : Nat) (nd : Nat) (ne : Nat) (nm : Nat) (nn : Nat) (x : Int32) (x2 : Int32) (x3 : Int32) (x4 : Int32) : kw_Mi l yX10_missed wsX10_missed ({ frames := 3, cells := 0, slots := 0, locals := 82 }) D y [.ref g, .int x, .int x2, .int x3, .int x4] [(g, .inr (10, [.ref kk, .ref nw, .ref im, .ref kp, .ref tx, .ref tr, .ref be, .ref sh, .ref sd, .ref rf, .int 0, .int 1])), (rf, .inl (y 0, 3, .inl (fun _ => 0))), (nw, .inr (4, [.ref kk, .ref nk, .ref nd, .ref ne, .ref nm, .ref nn, .int 0, .int 0, .int 0, .int 0, .int 0]))] (fun (r : Int32) (u : Unit) => r = (-2)) (fun _ => []) 0 0 := by
  refine kw_Mi.of (cc := cX10_missed) (maxL := 5) (ret := (some .int)) (by decide) rfl ?_
  intro pZ eZ s mZ beZ meZ cZ A hE
  obtain ⟨hx, hb, hr, hml, hts, hown, hlocks, hin, hA, hP, hD, hK, hN⟩ := hE
  have hS : va_S A s.heap s.heap [] := va_S.rf
  have hl := lv_entry ([.ref g, .int x, .int x2, .int x3, .int x4]) (n := 5) (Nat.le_of_ble_eq_true rfl)
  rw [lg_entry_eq]
  generalize (lg_sl ([.ref g, .int x, .int x2, .int x3, .int x4]) ++ List.replicate (5 - (lg_sl ([.ref g, .int x, .int x2, .int x3, .int x4])).length) Slot.unset).toArray = ls at hl ⊢
  have hl : lv_has ls 5 [(0, .ref g), (1, .int x), (2, .int x2), (3, .int x3), (4, .int x4)] := hl
  have fw1 := hts (.fieldLink RX10 36 "GleanDusk" "now" "LGleanDusk$Parish;") (List.mem_of_getElem? (i := 1) rfl)
  have i10 : ∀ w ∈ wsX100, w ∈ wsX10_missed := fun _ h => List.mem_cons_of_mem _ (List.mem_append_left _ (List.mem_append_right _ h))
  refine lv_aload_n hx hb dX10_missed_0 rfl (lv_at hl 0 rfl) ?_
  refine va_get (D := D) (ci := 10) (v := .ref nw) (C := RX10) (T := TX10) (N := 12) hx hb hts i10 hown hK hP 0 rfl rfl 1 (by decide) fw1 (fun _ h9 => h9) rfl dX10_missed_1 ?_
  refine lv_iload_n hx hb dX10_missed_4 rfl (lv_at hl 1 rfl) ?_
  have hs1 : kw_Split [(g, .inr (10, [.ref kk, .ref nw, .ref im, .ref kp, .ref tx, .ref tr, .ref be, .ref sh, .ref sd, .ref rf, .int 0, .int 1])), (rf, .inl (y 0, 3, .inl (fun _ => 0))), (nw, .inr (4, [.ref kk, .ref nk, .ref nd, .ref ne, .ref nm, .ref nn, .int 0, .int 0, .int 0, .int 0, .int 0]))] [(nw, .inr (4, [.ref kk, .ref nk, .ref nd, .ref ne, .ref nm, .ref nn, .int 0, .int 0, .int 0, .int 0, .int 0]))] [(g, .inr (10, [.ref kk, .ref nw, .ref im, .ref kp, .ref tx, .ref tr, .ref be, .ref sh, .ref sd, .ref rf, .int 0, .int 1])), (rf, .inl (y 0, 3, .inl (fun _ => 0)))] [2] [0, 1] := ⟨rfl, rfl, rfl, rfl, rfl, by decide⟩
  refine kw_go_i hs1 hP hD hS hA (va_runV (As := [.int x]) (rest := []) ⟨hx, hb, hml, hown, hts⟩ (ct_hasField l D y nw kk nk nd ne nm nn 0 0 0 0 0 x  _) (cwV 1 hts gX10_missed_X4_hasField rfl rfl rfl (by decide +kernel) ⟨Nat.le_of_ble_eq_true rfl, Nat.le_of_ble_eq_true rfl⟩) (kw_PreV (ci := 4) (q0 := 2) hs1 hP hD hK hN rfl rfl) rfl rfl hl.1 rfl (lv_room (Nat.le_of_ble_eq_true rfl)) dX10_missed_5 ⟨Nat.le_of_ble_eq_true rfl, Nat.le_of_ble_eq_true rfl⟩) (fun r u H locs hq hP hD hS => ?_)
  rcases hq with ⟨h2, rfl⟩ | ⟨h3, h4, rfl⟩ | ⟨h5, h6, rfl⟩
  · skip
    have hP : va_P D vwCl [(g, .inr (10, [.ref kk, .ref nw, .ref im, .ref kp, .ref tx, .ref tr, .ref be, .ref sh, .ref sd, .ref rf, .int 0, .int 1])), (rf, .inl (y 0, 3, .inl (fun _ => 0))), (nw, .inr (4, [.ref kk, .ref nk, .ref nd, .ref ne, .ref nm, .ref nn, .int 0, .int 0, .int 0, .int 0, .int 0]))] H := hP
    have hD : va_D A [(g, .inr (10, [.ref kk, .ref nw, .ref im, .ref kp, .ref tx, .ref tr, .ref be, .ref sh, .ref sd, .ref rf, .int 0, .int 1])), (rf, .inl (y 0, 3, .inl (fun _ => 0))), (nw, .inr (4, [.ref kk, .ref nk, .ref nd, .ref ne, .ref nm, .ref nn, .int 0, .int 0, .int 0, .int 0, .int 0]))] := hD
    refine lv_if_eq (tgt := 38) hx hb dX10_missed_8 (by decide) (fun _ => ?_) (fun h9 => absurd h9 (by decide))
    refine lv_aload_n hx hb dX10_missed_38 rfl (lv_at hl 0 rfl) ?_
    have hs7 : kw_Split [(g, .inr (10, [.ref kk, .ref nw, .ref im, .ref kp, .ref tx, .ref tr, .ref be, .ref sh, .ref sd, .ref rf, .int 0, .int 1])), (rf, .inl (y 0, 3, .inl (fun _ => 0))), (nw, .inr (4, [.ref kk, .ref nk, .ref nd, .ref ne, .ref nm, .ref nn, .int 0, .int 0, .int 0, .int 0, .int 0]))] [(g, .inr (10, [.ref kk, .ref nw, .ref im, .ref kp, .ref tx, .ref tr, .ref be, .ref sh, .ref sd, .ref rf, .int 0, .int 1])), (rf, .inl (y 0, 3, .inl (fun _ => 0)))] [(nw, .inr (4, [.ref kk, .ref nk, .ref nd, .ref ne, .ref nm, .ref nn, .int 0, .int 0, .int 0, .int 0, .int 0]))] [0, 1] [2] := ⟨rfl, rfl, rfl, rfl, rfl, by decide⟩
    refine kw_go_i hs7 hP hD hS hA (va_runV (As := []) (rest := []) ⟨hx, hb, hml, hown, hts⟩ (ct_refuseBad l D y g kk nw im kp tx tr be sh sd rf (fun _ => 0)  _) (cwV 0 hts gX10_missed_X10_refuseBad rfl rfl rfl (by decide +kernel) ⟨Nat.le_of_ble_eq_true rfl, Nat.le_of_ble_eq_true rfl⟩) (kw_PreV (ci := 10) (q0 := 0) hs7 hP hD hK hN rfl rfl) rfl rfl hl.1 rfl (lv_room (Nat.le_of_ble_eq_true rfl)) dX10_missed_39 ⟨Nat.le_of_ble_eq_true rfl, Nat.le_of_ble_eq_true rfl⟩) (fun r u H locs hq hP hD hS => ?_)
    obtain rfl := hq
    have hP : va_P D vwCl [(nw, .inr (4, [.ref kk, .ref nk, .ref nd, .ref ne, .ref nm, .ref nn, .int 0, .int 0, .int 0, .int 0, .int 0]))] H := hP
    have hD : va_D A [(nw, .inr (4, [.ref kk, .ref nk, .ref nd, .ref ne, .ref nm, .ref nn, .int 0, .int 0, .int 0, .int 0, .int 0]))] := hD
    have hsp : ((-2) : Int32) = (-2) := by
      have gZ1 := Int32.lt_iff_toInt_lt.mp h2
      have lZ1 : (0 : Int32).toInt = 0 := by decide
      rfl
    exact W.iret (v := (-2)) hx hb hr (fun tZ ht hW => ⟨⟨(-2), (), rfl, hsp, by rw [ht]; exact hP.sub [] rfl, hD.sub [] (by decide) rfl⟩, hS.F ht⟩) hS.2.2 dX10_missed_42
  · skip
    have hP : va_P D vwCl [(g, .inr (10, [.ref kk, .ref nw, .ref im, .ref kp, .ref tx, .ref tr, .ref be, .ref sh, .ref sd, .ref rf, .int 0, .int 1])), (rf, .inl (y 0, 3, .inl (fun _ => 0))), (nw, .inr (4, [.ref kk, .ref nk, .ref nd, .ref ne, .ref nm, .ref nn, .int 0, .int 0, .int 0, .int 0, .int 0]))] H := hP
    have hD : va_D A [(g, .inr (10, [.ref kk, .ref nw, .ref im, .ref kp, .ref tx, .ref tr, .ref be, .ref sh, .ref sd, .ref rf, .int 0, .int 1])), (rf, .inl (y 0, 3, .inl (fun _ => 0))), (nw, .inr (4, [.ref kk, .ref nk, .ref nd, .ref ne, .ref nm, .ref nn, .int 0, .int 0, .int 0, .int 0, .int 0]))] := hD
    refine lv_if_eq (tgt := 38) hx hb dX10_missed_8 (by decide) (fun _ => ?_) (fun h9 => absurd h9 (by decide))
    refine lv_aload_n hx hb dX10_missed_38 rfl (lv_at hl 0 rfl) ?_
    have hs8 : kw_Split [(g, .inr (10, [.ref kk, .ref nw, .ref im, .ref kp, .ref tx, .ref tr, .ref be, .ref sh, .ref sd, .ref rf, .int 0, .int 1])), (rf, .inl (y 0, 3, .inl (fun _ => 0))), (nw, .inr (4, [.ref kk, .ref nk, .ref nd, .ref ne, .ref nm, .ref nn, .int 0, .int 0, .int 0, .int 0, .int 0]))] [(g, .inr (10, [.ref kk, .ref nw, .ref im, .ref kp, .ref tx, .ref tr, .ref be, .ref sh, .ref sd, .ref rf, .int 0, .int 1])), (rf, .inl (y 0, 3, .inl (fun _ => 0)))] [(nw, .inr (4, [.ref kk, .ref nk, .ref nd, .ref ne, .ref nm, .ref nn, .int 0, .int 0, .int 0, .int 0, .int 0]))] [0, 1] [2] := ⟨rfl, rfl, rfl, rfl, rfl, by decide⟩
    refine kw_go_i hs8 hP hD hS hA (va_runV (As := []) (rest := []) ⟨hx, hb, hml, hown, hts⟩ (ct_refuseBad l D y g kk nw im kp tx tr be sh sd rf (fun _ => 0)  _) (cwV 0 hts gX10_missed_X10_refuseBad rfl rfl rfl (by decide +kernel) ⟨Nat.le_of_ble_eq_true rfl, Nat.le_of_ble_eq_true rfl⟩) (kw_PreV (ci := 10) (q0 := 0) hs8 hP hD hK hN rfl rfl) rfl rfl hl.1 rfl (lv_room (Nat.le_of_ble_eq_true rfl)) dX10_missed_39 ⟨Nat.le_of_ble_eq_true rfl, Nat.le_of_ble_eq_true rfl⟩) (fun r u H locs hq hP hD hS => ?_)
    obtain rfl := hq
    have hP : va_P D vwCl [(nw, .inr (4, [.ref kk, .ref nk, .ref nd, .ref ne, .ref nm, .ref nn, .int 0, .int 0, .int 0, .int 0, .int 0]))] H := hP
    have hD : va_D A [(nw, .inr (4, [.ref kk, .ref nk, .ref nd, .ref ne, .ref nm, .ref nn, .int 0, .int 0, .int 0, .int 0, .int 0]))] := hD
    have hsp : ((-2) : Int32) = (-2) := by
      have gZ1 : ¬ (x : Int32).toInt < (0 : Int32).toInt := fun q => h3 (Int32.lt_iff_toInt_lt.mpr q)
      have lZ1 : (0 : Int32).toInt = 0 := by decide
      have gZ2 := Int32.le_iff_toInt_le.mp h4
      rfl
    exact W.iret (v := (-2)) hx hb hr (fun tZ ht hW => ⟨⟨(-2), (), rfl, hsp, by rw [ht]; exact hP.sub [] rfl, hD.sub [] (by decide) rfl⟩, hS.F ht⟩) hS.2.2 dX10_missed_42
  · skip
    exact (kw_x1 h5 h6).elim

set_option maxHeartbeats 4000000 in
set_option maxRecDepth 100000 in
theorem cp_clouds (l : Launch) (D : va_G) (y : Nat → ClassId) (g : Nat) (kk : Nat) (nw : Nat) (im : Nat) (kp : Nat) (tx : Nat) (tr : Nat) (be : Nat) (sh : Nat) (sd : Nat) (rf : Nat) (nk : Nat) (nd : Nat) (ne : Nat) (nm : Nat) (nn : Nat) : kw_Mi l yX10_clouds wsX10_clouds ({ frames := 2, cells := 0, slots := 0, locals := 63 }) D y [.ref g] [(g, .inr (10, [.ref kk, .ref nw, .ref im, .ref kp, .ref tx, .ref tr, .ref be, .ref sh, .ref sd, .ref rf, .int 0, .int 1])), (nw, .inr (4, [.ref kk, .ref nk, .ref nd, .ref ne, .ref nm, .ref nn, .int 0, .int 0, .int 0, .int 0, .int 0]))] (fun (r : Int32) (u : Unit) => r = 1023) (fun _ => []) 0 0 := by
  refine kw_Mi.of (cc := cX10_clouds) (maxL := 3) (ret := (some .int)) (by decide) rfl ?_
  intro pZ eZ s mZ beZ meZ cZ A hE
  obtain ⟨hx, hb, hr, hml, hts, hown, hlocks, hin, hA, hP, hD, hK, hN⟩ := hE
  have hS : va_S A s.heap s.heap [] := va_S.rf
  have hl := lv_entry ([.ref g]) (n := 3) (Nat.le_of_ble_eq_true rfl)
  rw [lg_entry_eq]
  generalize (lg_sl ([.ref g]) ++ List.replicate (3 - (lg_sl ([.ref g])).length) Slot.unset).toArray = ls at hl ⊢
  have hl : lv_has ls 3 [(0, .ref g)] := hl
  have fw1 := hts (.fieldLink RX10 36 "GleanDusk" "now" "LGleanDusk$Parish;") (List.mem_of_getElem? (i := 1) rfl)
  have i10 : ∀ w ∈ wsX100, w ∈ wsX10_clouds := fun _ h => List.mem_cons_of_mem _ (List.mem_append_left _ (List.mem_append_right _ h))
  refine lv_iconst (v := 0) hx hb dX10_clouds_0 (by decide) ?_
  refine lv_istore_n (lv' := [(1, .int 0), (0, .ref g)]) hx hb dX10_clouds_1 rfl hl (by decide) rfl (fun ls hl => ?_)
  refine lv_iconst (v := 0) hx hb dX10_clouds_2 (by decide) ?_
  refine lv_istore_n (lv' := [(2, .int 0), (1, .int 0), (0, .ref g)]) hx hb dX10_clouds_3 rfl hl (by decide) rfl (fun ls hl => ?_)
  refine lv_iload_n hx hb dX10_clouds_4 rfl (lv_at hl 0 rfl) ?_
  refine lv_bipush (v := 10) hx hb dX10_clouds_5 (by decide) ?_
  refine lv_icmp_ge (tgt := 33) hx hb dX10_clouds_7 (by decide) (fun h9 => absurd h9 (by decide)) (fun _ => ?_)
  refine lv_aload_n hx hb dX10_clouds_10 rfl (lv_at hl 2 rfl) ?_
  refine va_get (D := D) (ci := 10) (v := .ref nw) (C := RX10) (T := TX10) (N := 12) hx hb hts i10 hown hK hP 0 rfl rfl 1 (by decide) fw1 (fun _ h9 => h9) rfl dX10_clouds_11 ?_
  refine lv_iload_n hx hb dX10_clouds_14 rfl (lv_at hl 0 rfl) ?_
  have hs1 : kw_Split [(g, .inr (10, [.ref kk, .ref nw, .ref im, .ref kp, .ref tx, .ref tr, .ref be, .ref sh, .ref sd, .ref rf, .int 0, .int 1])), (nw, .inr (4, [.ref kk, .ref nk, .ref nd, .ref ne, .ref nm, .ref nn, .int 0, .int 0, .int 0, .int 0, .int 0]))] [(nw, .inr (4, [.ref kk, .ref nk, .ref nd, .ref ne, .ref nm, .ref nn, .int 0, .int 0, .int 0, .int 0, .int 0]))] [(g, .inr (10, [.ref kk, .ref nw, .ref im, .ref kp, .ref tx, .ref tr, .ref be, .ref sh, .ref sd, .ref rf, .int 0, .int 1]))] [1] [0] := ⟨rfl, rfl, rfl, rfl, rfl, by decide⟩
  refine kw_go_i hs1 hP hD hS hA (va_runV (As := [.int 0]) (rest := []) ⟨hx, hb, hml, hown, hts⟩ (ct_missedFit l D y nw kk nk nd ne nm nn 0  _) (cwV 1 hts gX10_clouds_X4_missedFit rfl rfl rfl (by decide +kernel) ⟨Nat.le_of_ble_eq_true rfl, Nat.le_of_ble_eq_true rfl⟩) (kw_PreV (ci := 4) (q0 := 1) hs1 hP hD hK hN rfl rfl) rfl rfl hl.1 rfl (lv_room (Nat.le_of_ble_eq_true rfl)) dX10_clouds_15 ⟨Nat.le_of_ble_eq_true rfl, Nat.le_of_ble_eq_true rfl⟩) (fun r u H locs hq hP hD hS => ?_)
  obtain rfl := hq
  have hP : va_P D vwCl [(g, .inr (10, [.ref kk, .ref nw, .ref im, .ref kp, .ref tx, .ref tr, .ref be, .ref sh, .ref sd, .ref rf, .int 0, .int 1])), (nw, .inr (4, [.ref kk, .ref nk, .ref nd, .ref ne, .ref nm, .ref nn, .int 0, .int 0, .int 0, .int 0, .int 0]))] H := hP
  have hD : va_D A [(g, .inr (10, [.ref kk, .ref nw, .ref im, .ref kp, .ref tx, .ref tr, .ref be, .ref sh, .ref sd, .ref rf, .int 0, .int 1])), (nw, .inr (4, [.ref kk, .ref nk, .ref nd, .ref ne, .ref nm, .ref nn, .int 0, .int 0, .int 0, .int 0, .int 0]))] := hD
  refine lv_if_eq (tgt := 27) hx hb dX10_clouds_18 (by decide) (fun h9 => absurd h9 (by decide)) (fun _ => ?_)
  refine lv_iload_n hx hb dX10_clouds_21 rfl (lv_at hl 1 rfl) ?_
  refine lv_iconst (v := 1) hx hb dX10_clouds_22 (by decide) ?_
  refine lv_iload_n hx hb dX10_clouds_23 rfl (lv_at hl 0 rfl) ?_
  refine lv_ishl hx hb dX10_clouds_24 ?_
  refine lv_topi (fun z2 hz2 => ?_)
  obtain rfl : z2 = 1 := hz2.trans (by first | rfl | decide | (simp [upd]; done))
  refine lv_ior hx hb dX10_clouds_25 ?_
  refine lv_topi (fun z3 hz3 => ?_)
  obtain rfl : z3 = 1 := hz3.trans (by first | rfl | decide | (simp [upd]; done))
  refine lv_istore_n (lv' := [(1, .int 1), (2, .int 0), (0, .ref g)]) hx hb dX10_clouds_26 rfl hl (by decide) rfl (fun ls hl => ?_)
  refine lv_iinc (v := 1) (lv' := [(2, .int 1), (1, .int 1), (0, .ref g)]) hx hb dX10_clouds_27 hl (k := 1) rfl (by decide) (by decide) rfl (fun ls hl => ?_)
  refine lv_goto (tgt := 4) hx hb dX10_clouds_30 (by decide) ?_
  refine lv_iload_n hx hb dX10_clouds_4 rfl (lv_at hl 0 rfl) ?_
  refine lv_bipush (v := 10) hx hb dX10_clouds_5 (by decide) ?_
  refine lv_icmp_ge (tgt := 33) hx hb dX10_clouds_7 (by decide) (fun h9 => absurd h9 (by decide)) (fun _ => ?_)
  refine lv_aload_n hx hb dX10_clouds_10 rfl (lv_at hl 2 rfl) ?_
  refine va_get (D := D) (ci := 10) (v := .ref nw) (C := RX10) (T := TX10) (N := 12) hx hb hts i10 hown hK hP 0 rfl rfl 1 (by decide) fw1 (fun _ h9 => h9) rfl dX10_clouds_11 ?_
  refine lv_iload_n hx hb dX10_clouds_14 rfl (lv_at hl 0 rfl) ?_
  have hs4 : kw_Split [(g, .inr (10, [.ref kk, .ref nw, .ref im, .ref kp, .ref tx, .ref tr, .ref be, .ref sh, .ref sd, .ref rf, .int 0, .int 1])), (nw, .inr (4, [.ref kk, .ref nk, .ref nd, .ref ne, .ref nm, .ref nn, .int 0, .int 0, .int 0, .int 0, .int 0]))] [(nw, .inr (4, [.ref kk, .ref nk, .ref nd, .ref ne, .ref nm, .ref nn, .int 0, .int 0, .int 0, .int 0, .int 0]))] [(g, .inr (10, [.ref kk, .ref nw, .ref im, .ref kp, .ref tx, .ref tr, .ref be, .ref sh, .ref sd, .ref rf, .int 0, .int 1]))] [1] [0] := ⟨rfl, rfl, rfl, rfl, rfl, by decide⟩
  refine kw_go_i hs4 hP hD hS hA (va_runV (As := [.int 1]) (rest := []) ⟨hx, hb, hml, hown, hts⟩ (ct_missedFit l D y nw kk nk nd ne nm nn 1  _) (cwV 1 hts gX10_clouds_X4_missedFit rfl rfl rfl (by decide +kernel) ⟨Nat.le_of_ble_eq_true rfl, Nat.le_of_ble_eq_true rfl⟩) (kw_PreV (ci := 4) (q0 := 1) hs4 hP hD hK hN rfl rfl) rfl rfl hl.1 rfl (lv_room (Nat.le_of_ble_eq_true rfl)) dX10_clouds_15 ⟨Nat.le_of_ble_eq_true rfl, Nat.le_of_ble_eq_true rfl⟩) (fun r u H locs hq hP hD hS => ?_)
  obtain rfl := hq
  have hP : va_P D vwCl [(g, .inr (10, [.ref kk, .ref nw, .ref im, .ref kp, .ref tx, .ref tr, .ref be, .ref sh, .ref sd, .ref rf, .int 0, .int 1])), (nw, .inr (4, [.ref kk, .ref nk, .ref nd, .ref ne, .ref nm, .ref nn, .int 0, .int 0, .int 0, .int 0, .int 0]))] H := hP
  have hD : va_D A [(g, .inr (10, [.ref kk, .ref nw, .ref im, .ref kp, .ref tx, .ref tr, .ref be, .ref sh, .ref sd, .ref rf, .int 0, .int 1])), (nw, .inr (4, [.ref kk, .ref nk, .ref nd, .ref ne, .ref nm, .ref nn, .int 0, .int 0, .int 0, .int 0, .int 0]))] := hD
  refine lv_if_eq (tgt := 27) hx hb dX10_clouds_18 (by decide) (fun h9 => absurd h9 (by decide)) (fun _ => ?_)
  refine lv_iload_n hx hb dX10_clouds_21 rfl (lv_at hl 1 rfl) ?_
  refine lv_iconst (v := 1) hx hb dX10_clouds_22 (by decide) ?_
  refine lv_iload_n hx hb dX10_clouds_23 rfl (lv_at hl 0 rfl) ?_
  refine lv_ishl hx hb dX10_clouds_24 ?_
  refine lv_topi (fun z5 hz5 => ?_)
  obtain rfl : z5 = 2 := hz5.trans (by first | rfl | decide | (simp [upd]; done))
  refine lv_ior hx hb dX10_clouds_25 ?_
  refine lv_topi (fun z6 hz6 => ?_)
  obtain rfl : z6 = 3 := hz6.trans (by first | rfl | decide | (simp [upd]; done))
  refine lv_istore_n (lv' := [(1, .int 3), (2, .int 1), (0, .ref g)]) hx hb dX10_clouds_26 rfl hl (by decide) rfl (fun ls hl => ?_)
  refine lv_iinc (v := 2) (lv' := [(2, .int 2), (1, .int 3), (0, .ref g)]) hx hb dX10_clouds_27 hl (k := 1) rfl (by decide) (by decide) rfl (fun ls hl => ?_)
  refine lv_goto (tgt := 4) hx hb dX10_clouds_30 (by decide) ?_
  refine lv_iload_n hx hb dX10_clouds_4 rfl (lv_at hl 0 rfl) ?_
  refine lv_bipush (v := 10) hx hb dX10_clouds_5 (by decide) ?_
  refine lv_icmp_ge (tgt := 33) hx hb dX10_clouds_7 (by decide) (fun h9 => absurd h9 (by decide)) (fun _ => ?_)
  refine lv_aload_n hx hb dX10_clouds_10 rfl (lv_at hl 2 rfl) ?_
  refine va_get (D := D) (ci := 10) (v := .ref nw) (C := RX10) (T := TX10) (N := 12) hx hb hts i10 hown hK hP 0 rfl rfl 1 (by decide) fw1 (fun _ h9 => h9) rfl dX10_clouds_11 ?_
  refine lv_iload_n hx hb dX10_clouds_14 rfl (lv_at hl 0 rfl) ?_
  have hs7 : kw_Split [(g, .inr (10, [.ref kk, .ref nw, .ref im, .ref kp, .ref tx, .ref tr, .ref be, .ref sh, .ref sd, .ref rf, .int 0, .int 1])), (nw, .inr (4, [.ref kk, .ref nk, .ref nd, .ref ne, .ref nm, .ref nn, .int 0, .int 0, .int 0, .int 0, .int 0]))] [(nw, .inr (4, [.ref kk, .ref nk, .ref nd, .ref ne, .ref nm, .ref nn, .int 0, .int 0, .int 0, .int 0, .int 0]))] [(g, .inr (10, [.ref kk, .ref nw, .ref im, .ref kp, .ref tx, .ref tr, .ref be, .ref sh, .ref sd, .ref rf, .int 0, .int 1]))] [1] [0] := ⟨rfl, rfl, rfl, rfl, rfl, by decide⟩
  refine kw_go_i hs7 hP hD hS hA (va_runV (As := [.int 2]) (rest := []) ⟨hx, hb, hml, hown, hts⟩ (ct_missedFit l D y nw kk nk nd ne nm nn 2  _) (cwV 1 hts gX10_clouds_X4_missedFit rfl rfl rfl (by decide +kernel) ⟨Nat.le_of_ble_eq_true rfl, Nat.le_of_ble_eq_true rfl⟩) (kw_PreV (ci := 4) (q0 := 1) hs7 hP hD hK hN rfl rfl) rfl rfl hl.1 rfl (lv_room (Nat.le_of_ble_eq_true rfl)) dX10_clouds_15 ⟨Nat.le_of_ble_eq_true rfl, Nat.le_of_ble_eq_true rfl⟩) (fun r u H locs hq hP hD hS => ?_)
  obtain rfl := hq
  have hP : va_P D vwCl [(g, .inr (10, [.ref kk, .ref nw, .ref im, .ref kp, .ref tx, .ref tr, .ref be, .ref sh, .ref sd, .ref rf, .int 0, .int 1])), (nw, .inr (4, [.ref kk, .ref nk, .ref nd, .ref ne, .ref nm, .ref nn, .int 0, .int 0, .int 0, .int 0, .int 0]))] H := hP
  have hD : va_D A [(g, .inr (10, [.ref kk, .ref nw, .ref im, .ref kp, .ref tx, .ref tr, .ref be, .ref sh, .ref sd, .ref rf, .int 0, .int 1])), (nw, .inr (4, [.ref kk, .ref nk, .ref nd, .ref ne, .ref nm, .ref nn, .int 0, .int 0, .int 0, .int 0, .int 0]))] := hD
  refine lv_if_eq (tgt := 27) hx hb dX10_clouds_18 (by decide) (fun h9 => absurd h9 (by decide)) (fun _ => ?_)
  refine lv_iload_n hx hb dX10_clouds_21 rfl (lv_at hl 1 rfl) ?_
  refine lv_iconst (v := 1) hx hb dX10_clouds_22 (by decide) ?_
  refine lv_iload_n hx hb dX10_clouds_23 rfl (lv_at hl 0 rfl) ?_
  refine lv_ishl hx hb dX10_clouds_24 ?_
  refine lv_topi (fun z8 hz8 => ?_)
  obtain rfl : z8 = 4 := hz8.trans (by first | rfl | decide | (simp [upd]; done))
  refine lv_ior hx hb dX10_clouds_25 ?_
  refine lv_topi (fun z9 hz9 => ?_)
  obtain rfl : z9 = 7 := hz9.trans (by first | rfl | decide | (simp [upd]; done))
  refine lv_istore_n (lv' := [(1, .int 7), (2, .int 2), (0, .ref g)]) hx hb dX10_clouds_26 rfl hl (by decide) rfl (fun ls hl => ?_)
  refine lv_iinc (v := 3) (lv' := [(2, .int 3), (1, .int 7), (0, .ref g)]) hx hb dX10_clouds_27 hl (k := 1) rfl (by decide) (by decide) rfl (fun ls hl => ?_)
  refine lv_goto (tgt := 4) hx hb dX10_clouds_30 (by decide) ?_
  refine lv_iload_n hx hb dX10_clouds_4 rfl (lv_at hl 0 rfl) ?_
  refine lv_bipush (v := 10) hx hb dX10_clouds_5 (by decide) ?_
  refine lv_icmp_ge (tgt := 33) hx hb dX10_clouds_7 (by decide) (fun h9 => absurd h9 (by decide)) (fun _ => ?_)
  refine lv_aload_n hx hb dX10_clouds_10 rfl (lv_at hl 2 rfl) ?_
  refine va_get (D := D) (ci := 10) (v := .ref nw) (C := RX10) (T := TX10) (N := 12) hx hb hts i10 hown hK hP 0 rfl rfl 1 (by decide) fw1 (fun _ h9 => h9) rfl dX10_clouds_11 ?_
  refine lv_iload_n hx hb dX10_clouds_14 rfl (lv_at hl 0 rfl) ?_
  have hs10 : kw_Split [(g, .inr (10, [.ref kk, .ref nw, .ref im, .ref kp, .ref tx, .ref tr, .ref be, .ref sh, .ref sd, .ref rf, .int 0, .int 1])), (nw, .inr (4, [.ref kk, .ref nk, .ref nd, .ref ne, .ref nm, .ref nn, .int 0, .int 0, .int 0, .int 0, .int 0]))] [(nw, .inr (4, [.ref kk, .ref nk, .ref nd, .ref ne, .ref nm, .ref nn, .int 0, .int 0, .int 0, .int 0, .int 0]))] [(g, .inr (10, [.ref kk, .ref nw, .ref im, .ref kp, .ref tx, .ref tr, .ref be, .ref sh, .ref sd, .ref rf, .int 0, .int 1]))] [1] [0] := ⟨rfl, rfl, rfl, rfl, rfl, by decide⟩
  refine kw_go_i hs10 hP hD hS hA (va_runV (As := [.int 3]) (rest := []) ⟨hx, hb, hml, hown, hts⟩ (ct_missedFit l D y nw kk nk nd ne nm nn 3  _) (cwV 1 hts gX10_clouds_X4_missedFit rfl rfl rfl (by decide +kernel) ⟨Nat.le_of_ble_eq_true rfl, Nat.le_of_ble_eq_true rfl⟩) (kw_PreV (ci := 4) (q0 := 1) hs10 hP hD hK hN rfl rfl) rfl rfl hl.1 rfl (lv_room (Nat.le_of_ble_eq_true rfl)) dX10_clouds_15 ⟨Nat.le_of_ble_eq_true rfl, Nat.le_of_ble_eq_true rfl⟩) (fun r u H locs hq hP hD hS => ?_)
  obtain rfl := hq
  have hP : va_P D vwCl [(g, .inr (10, [.ref kk, .ref nw, .ref im, .ref kp, .ref tx, .ref tr, .ref be, .ref sh, .ref sd, .ref rf, .int 0, .int 1])), (nw, .inr (4, [.ref kk, .ref nk, .ref nd, .ref ne, .ref nm, .ref nn, .int 0, .int 0, .int 0, .int 0, .int 0]))] H := hP
  have hD : va_D A [(g, .inr (10, [.ref kk, .ref nw, .ref im, .ref kp, .ref tx, .ref tr, .ref be, .ref sh, .ref sd, .ref rf, .int 0, .int 1])), (nw, .inr (4, [.ref kk, .ref nk, .ref nd, .ref ne, .ref nm, .ref nn, .int 0, .int 0, .int 0, .int 0, .int 0]))] := hD
  refine lv_if_eq (tgt := 27) hx hb dX10_clouds_18 (by decide) (fun h9 => absurd h9 (by decide)) (fun _ => ?_)
  refine lv_iload_n hx hb dX10_clouds_21 rfl (lv_at hl 1 rfl) ?_
  refine lv_iconst (v := 1) hx hb dX10_clouds_22 (by decide) ?_
  refine lv_iload_n hx hb dX10_clouds_23 rfl (lv_at hl 0 rfl) ?_
  refine lv_ishl hx hb dX10_clouds_24 ?_
  refine lv_topi (fun z11 hz11 => ?_)
  obtain rfl : z11 = 8 := hz11.trans (by first | rfl | decide | (simp [upd]; done))
  refine lv_ior hx hb dX10_clouds_25 ?_
  refine lv_topi (fun z12 hz12 => ?_)
  obtain rfl : z12 = 15 := hz12.trans (by first | rfl | decide | (simp [upd]; done))
  refine lv_istore_n (lv' := [(1, .int 15), (2, .int 3), (0, .ref g)]) hx hb dX10_clouds_26 rfl hl (by decide) rfl (fun ls hl => ?_)
  refine lv_iinc (v := 4) (lv' := [(2, .int 4), (1, .int 15), (0, .ref g)]) hx hb dX10_clouds_27 hl (k := 1) rfl (by decide) (by decide) rfl (fun ls hl => ?_)
  refine lv_goto (tgt := 4) hx hb dX10_clouds_30 (by decide) ?_
  refine lv_iload_n hx hb dX10_clouds_4 rfl (lv_at hl 0 rfl) ?_
  refine lv_bipush (v := 10) hx hb dX10_clouds_5 (by decide) ?_
  refine lv_icmp_ge (tgt := 33) hx hb dX10_clouds_7 (by decide) (fun h9 => absurd h9 (by decide)) (fun _ => ?_)
  refine lv_aload_n hx hb dX10_clouds_10 rfl (lv_at hl 2 rfl) ?_
  refine va_get (D := D) (ci := 10) (v := .ref nw) (C := RX10) (T := TX10) (N := 12) hx hb hts i10 hown hK hP 0 rfl rfl 1 (by decide) fw1 (fun _ h9 => h9) rfl dX10_clouds_11 ?_
  refine lv_iload_n hx hb dX10_clouds_14 rfl (lv_at hl 0 rfl) ?_
  have hs13 : kw_Split [(g, .inr (10, [.ref kk, .ref nw, .ref im, .ref kp, .ref tx, .ref tr, .ref be, .ref sh, .ref sd, .ref rf, .int 0, .int 1])), (nw, .inr (4, [.ref kk, .ref nk, .ref nd, .ref ne, .ref nm, .ref nn, .int 0, .int 0, .int 0, .int 0, .int 0]))] [(nw, .inr (4, [.ref kk, .ref nk, .ref nd, .ref ne, .ref nm, .ref nn, .int 0, .int 0, .int 0, .int 0, .int 0]))] [(g, .inr (10, [.ref kk, .ref nw, .ref im, .ref kp, .ref tx, .ref tr, .ref be, .ref sh, .ref sd, .ref rf, .int 0, .int 1]))] [1] [0] := ⟨rfl, rfl, rfl, rfl, rfl, by decide⟩
  refine kw_go_i hs13 hP hD hS hA (va_runV (As := [.int 4]) (rest := []) ⟨hx, hb, hml, hown, hts⟩ (ct_missedFit l D y nw kk nk nd ne nm nn 4  _) (cwV 1 hts gX10_clouds_X4_missedFit rfl rfl rfl (by decide +kernel) ⟨Nat.le_of_ble_eq_true rfl, Nat.le_of_ble_eq_true rfl⟩) (kw_PreV (ci := 4) (q0 := 1) hs13 hP hD hK hN rfl rfl) rfl rfl hl.1 rfl (lv_room (Nat.le_of_ble_eq_true rfl)) dX10_clouds_15 ⟨Nat.le_of_ble_eq_true rfl, Nat.le_of_ble_eq_true rfl⟩) (fun r u H locs hq hP hD hS => ?_)
  obtain rfl := hq
  have hP : va_P D vwCl [(g, .inr (10, [.ref kk, .ref nw, .ref im, .ref kp, .ref tx, .ref tr, .ref be, .ref sh, .ref sd, .ref rf, .int 0, .int 1])), (nw, .inr (4, [.ref kk, .ref nk, .ref nd, .ref ne, .ref nm, .ref nn, .int 0, .int 0, .int 0, .int 0, .int 0]))] H := hP
  have hD : va_D A [(g, .inr (10, [.ref kk, .ref nw, .ref im, .ref kp, .ref tx, .ref tr, .ref be, .ref sh, .ref sd, .ref rf, .int 0, .int 1])), (nw, .inr (4, [.ref kk, .ref nk, .ref nd, .ref ne, .ref nm, .ref nn, .int 0, .int 0, .int 0, .int 0, .int 0]))] := hD
  refine lv_if_eq (tgt := 27) hx hb dX10_clouds_18 (by decide) (fun h9 => absurd h9 (by decide)) (fun _ => ?_)
  refine lv_iload_n hx hb dX10_clouds_21 rfl (lv_at hl 1 rfl) ?_
  refine lv_iconst (v := 1) hx hb dX10_clouds_22 (by decide) ?_
  refine lv_iload_n hx hb dX10_clouds_23 rfl (lv_at hl 0 rfl) ?_
  refine lv_ishl hx hb dX10_clouds_24 ?_
  refine lv_topi (fun z14 hz14 => ?_)
  obtain rfl : z14 = 16 := hz14.trans (by first | rfl | decide | (simp [upd]; done))
  refine lv_ior hx hb dX10_clouds_25 ?_
  refine lv_topi (fun z15 hz15 => ?_)
  obtain rfl : z15 = 31 := hz15.trans (by first | rfl | decide | (simp [upd]; done))
  refine lv_istore_n (lv' := [(1, .int 31), (2, .int 4), (0, .ref g)]) hx hb dX10_clouds_26 rfl hl (by decide) rfl (fun ls hl => ?_)
  refine lv_iinc (v := 5) (lv' := [(2, .int 5), (1, .int 31), (0, .ref g)]) hx hb dX10_clouds_27 hl (k := 1) rfl (by decide) (by decide) rfl (fun ls hl => ?_)
  refine lv_goto (tgt := 4) hx hb dX10_clouds_30 (by decide) ?_
  refine lv_iload_n hx hb dX10_clouds_4 rfl (lv_at hl 0 rfl) ?_
  refine lv_bipush (v := 10) hx hb dX10_clouds_5 (by decide) ?_
  refine lv_icmp_ge (tgt := 33) hx hb dX10_clouds_7 (by decide) (fun h9 => absurd h9 (by decide)) (fun _ => ?_)
  refine lv_aload_n hx hb dX10_clouds_10 rfl (lv_at hl 2 rfl) ?_
  refine va_get (D := D) (ci := 10) (v := .ref nw) (C := RX10) (T := TX10) (N := 12) hx hb hts i10 hown hK hP 0 rfl rfl 1 (by decide) fw1 (fun _ h9 => h9) rfl dX10_clouds_11 ?_
  refine lv_iload_n hx hb dX10_clouds_14 rfl (lv_at hl 0 rfl) ?_
  have hs16 : kw_Split [(g, .inr (10, [.ref kk, .ref nw, .ref im, .ref kp, .ref tx, .ref tr, .ref be, .ref sh, .ref sd, .ref rf, .int 0, .int 1])), (nw, .inr (4, [.ref kk, .ref nk, .ref nd, .ref ne, .ref nm, .ref nn, .int 0, .int 0, .int 0, .int 0, .int 0]))] [(nw, .inr (4, [.ref kk, .ref nk, .ref nd, .ref ne, .ref nm, .ref nn, .int 0, .int 0, .int 0, .int 0, .int 0]))] [(g, .inr (10, [.ref kk, .ref nw, .ref im, .ref kp, .ref tx, .ref tr, .ref be, .ref sh, .ref sd, .ref rf, .int 0, .int 1]))] [1] [0] := ⟨rfl, rfl, rfl, rfl, rfl, by decide⟩
  refine kw_go_i hs16 hP hD hS hA (va_runV (As := [.int 5]) (rest := []) ⟨hx, hb, hml, hown, hts⟩ (ct_missedFit l D y nw kk nk nd ne nm nn 5  _) (cwV 1 hts gX10_clouds_X4_missedFit rfl rfl rfl (by decide +kernel) ⟨Nat.le_of_ble_eq_true rfl, Nat.le_of_ble_eq_true rfl⟩) (kw_PreV (ci := 4) (q0 := 1) hs16 hP hD hK hN rfl rfl) rfl rfl hl.1 rfl (lv_room (Nat.le_of_ble_eq_true rfl)) dX10_clouds_15 ⟨Nat.le_of_ble_eq_true rfl, Nat.le_of_ble_eq_true rfl⟩) (fun r u H locs hq hP hD hS => ?_)
  obtain rfl := hq
  have hP : va_P D vwCl [(g, .inr (10, [.ref kk, .ref nw, .ref im, .ref kp, .ref tx, .ref tr, .ref be, .ref sh, .ref sd, .ref rf, .int 0, .int 1])), (nw, .inr (4, [.ref kk, .ref nk, .ref nd, .ref ne, .ref nm, .ref nn, .int 0, .int 0, .int 0, .int 0, .int 0]))] H := hP
  have hD : va_D A [(g, .inr (10, [.ref kk, .ref nw, .ref im, .ref kp, .ref tx, .ref tr, .ref be, .ref sh, .ref sd, .ref rf, .int 0, .int 1])), (nw, .inr (4, [.ref kk, .ref nk, .ref nd, .ref ne, .ref nm, .ref nn, .int 0, .int 0, .int 0, .int 0, .int 0]))] := hD
  refine lv_if_eq (tgt := 27) hx hb dX10_clouds_18 (by decide) (fun h9 => absurd h9 (by decide)) (fun _ => ?_)
  refine lv_iload_n hx hb dX10_clouds_21 rfl (lv_at hl 1 rfl) ?_
  refine lv_iconst (v := 1) hx hb dX10_clouds_22 (by decide) ?_
  refine lv_iload_n hx hb dX10_clouds_23 rfl (lv_at hl 0 rfl) ?_
  refine lv_ishl hx hb dX10_clouds_24 ?_
  refine lv_topi (fun z17 hz17 => ?_)
  obtain rfl : z17 = 32 := hz17.trans (by first | rfl | decide | (simp [upd]; done))
  refine lv_ior hx hb dX10_clouds_25 ?_
  refine lv_topi (fun z18 hz18 => ?_)
  obtain rfl : z18 = 63 := hz18.trans (by first | rfl | decide | (simp [upd]; done))
  refine lv_istore_n (lv' := [(1, .int 63), (2, .int 5), (0, .ref g)]) hx hb dX10_clouds_26 rfl hl (by decide) rfl (fun ls hl => ?_)
  refine lv_iinc (v := 6) (lv' := [(2, .int 6), (1, .int 63), (0, .ref g)]) hx hb dX10_clouds_27 hl (k := 1) rfl (by decide) (by decide) rfl (fun ls hl => ?_)
  refine lv_goto (tgt := 4) hx hb dX10_clouds_30 (by decide) ?_
  refine lv_iload_n hx hb dX10_clouds_4 rfl (lv_at hl 0 rfl) ?_
  refine lv_bipush (v := 10) hx hb dX10_clouds_5 (by decide) ?_
  refine lv_icmp_ge (tgt := 33) hx hb dX10_clouds_7 (by decide) (fun h9 => absurd h9 (by decide)) (fun _ => ?_)
  refine lv_aload_n hx hb dX10_clouds_10 rfl (lv_at hl 2 rfl) ?_
  refine va_get (D := D) (ci := 10) (v := .ref nw) (C := RX10) (T := TX10) (N := 12) hx hb hts i10 hown hK hP 0 rfl rfl 1 (by decide) fw1 (fun _ h9 => h9) rfl dX10_clouds_11 ?_
  refine lv_iload_n hx hb dX10_clouds_14 rfl (lv_at hl 0 rfl) ?_
  have hs19 : kw_Split [(g, .inr (10, [.ref kk, .ref nw, .ref im, .ref kp, .ref tx, .ref tr, .ref be, .ref sh, .ref sd, .ref rf, .int 0, .int 1])), (nw, .inr (4, [.ref kk, .ref nk, .ref nd, .ref ne, .ref nm, .ref nn, .int 0, .int 0, .int 0, .int 0, .int 0]))] [(nw, .inr (4, [.ref kk, .ref nk, .ref nd, .ref ne, .ref nm, .ref nn, .int 0, .int 0, .int 0, .int 0, .int 0]))] [(g, .inr (10, [.ref kk, .ref nw, .ref im, .ref kp, .ref tx, .ref tr, .ref be, .ref sh, .ref sd, .ref rf, .int 0, .int 1]))] [1] [0] := ⟨rfl, rfl, rfl, rfl, rfl, by decide⟩
  refine kw_go_i hs19 hP hD hS hA (va_runV (As := [.int 6]) (rest := []) ⟨hx, hb, hml, hown, hts⟩ (ct_missedFit l D y nw kk nk nd ne nm nn 6  _) (cwV 1 hts gX10_clouds_X4_missedFit rfl rfl rfl (by decide +kernel) ⟨Nat.le_of_ble_eq_true rfl, Nat.le_of_ble_eq_true rfl⟩) (kw_PreV (ci := 4) (q0 := 1) hs19 hP hD hK hN rfl rfl) rfl rfl hl.1 rfl (lv_room (Nat.le_of_ble_eq_true rfl)) dX10_clouds_15 ⟨Nat.le_of_ble_eq_true rfl, Nat.le_of_ble_eq_true rfl⟩) (fun r u H locs hq hP hD hS => ?_)
  obtain rfl := hq
  have hP : va_P D vwCl [(g, .inr (10, [.ref kk, .ref nw, .ref im, .ref kp, .ref tx, .ref tr, .ref be, .ref sh, .ref sd, .ref rf, .int 0, .int 1])), (nw, .inr (4, [.ref kk, .ref nk, .ref nd, .ref ne, .ref nm, .ref nn, .int 0, .int 0, .int 0, .int 0, .int 0]))] H := hP
  have hD : va_D A [(g, .inr (10, [.ref kk, .ref nw, .ref im, .ref kp, .ref tx, .ref tr, .ref be, .ref sh, .ref sd, .ref rf, .int 0, .int 1])), (nw, .inr (4, [.ref kk, .ref nk, .ref nd, .ref ne, .ref nm, .ref nn, .int 0, .int 0, .int 0, .int 0, .int 0]))] := hD
  refine lv_if_eq (tgt := 27) hx hb dX10_clouds_18 (by decide) (fun h9 => absurd h9 (by decide)) (fun _ => ?_)
  refine lv_iload_n hx hb dX10_clouds_21 rfl (lv_at hl 1 rfl) ?_
  refine lv_iconst (v := 1) hx hb dX10_clouds_22 (by decide) ?_
  refine lv_iload_n hx hb dX10_clouds_23 rfl (lv_at hl 0 rfl) ?_
  refine lv_ishl hx hb dX10_clouds_24 ?_
  refine lv_topi (fun z20 hz20 => ?_)
  obtain rfl : z20 = 64 := hz20.trans (by first | rfl | decide | (simp [upd]; done))
  refine lv_ior hx hb dX10_clouds_25 ?_
  refine lv_topi (fun z21 hz21 => ?_)
  obtain rfl : z21 = 127 := hz21.trans (by first | rfl | decide | (simp [upd]; done))
  refine lv_istore_n (lv' := [(1, .int 127), (2, .int 6), (0, .ref g)]) hx hb dX10_clouds_26 rfl hl (by decide) rfl (fun ls hl => ?_)
  refine lv_iinc (v := 7) (lv' := [(2, .int 7), (1, .int 127), (0, .ref g)]) hx hb dX10_clouds_27 hl (k := 1) rfl (by decide) (by decide) rfl (fun ls hl => ?_)
  refine lv_goto (tgt := 4) hx hb dX10_clouds_30 (by decide) ?_
  refine lv_iload_n hx hb dX10_clouds_4 rfl (lv_at hl 0 rfl) ?_
  refine lv_bipush (v := 10) hx hb dX10_clouds_5 (by decide) ?_
  refine lv_icmp_ge (tgt := 33) hx hb dX10_clouds_7 (by decide) (fun h9 => absurd h9 (by decide)) (fun _ => ?_)
  refine lv_aload_n hx hb dX10_clouds_10 rfl (lv_at hl 2 rfl) ?_
  refine va_get (D := D) (ci := 10) (v := .ref nw) (C := RX10) (T := TX10) (N := 12) hx hb hts i10 hown hK hP 0 rfl rfl 1 (by decide) fw1 (fun _ h9 => h9) rfl dX10_clouds_11 ?_
  refine lv_iload_n hx hb dX10_clouds_14 rfl (lv_at hl 0 rfl) ?_
  have hs22 : kw_Split [(g, .inr (10, [.ref kk, .ref nw, .ref im, .ref kp, .ref tx, .ref tr, .ref be, .ref sh, .ref sd, .ref rf, .int 0, .int 1])), (nw, .inr (4, [.ref kk, .ref nk, .ref nd, .ref ne, .ref nm, .ref nn, .int 0, .int 0, .int 0, .int 0, .int 0]))] [(nw, .inr (4, [.ref kk, .ref nk, .ref nd, .ref ne, .ref nm, .ref nn, .int 0, .int 0, .int 0, .int 0, .int 0]))] [(g, .inr (10, [.ref kk, .ref nw, .ref im, .ref kp, .ref tx, .ref tr, .ref be, .ref sh, .ref sd, .ref rf, .int 0, .int 1]))] [1] [0] := ⟨rfl, rfl, rfl, rfl, rfl, by decide⟩
  refine kw_go_i hs22 hP hD hS hA (va_runV (As := [.int 7]) (rest := []) ⟨hx, hb, hml, hown, hts⟩ (ct_missedFit l D y nw kk nk nd ne nm nn 7  _) (cwV 1 hts gX10_clouds_X4_missedFit rfl rfl rfl (by decide +kernel) ⟨Nat.le_of_ble_eq_true rfl, Nat.le_of_ble_eq_true rfl⟩) (kw_PreV (ci := 4) (q0 := 1) hs22 hP hD hK hN rfl rfl) rfl rfl hl.1 rfl (lv_room (Nat.le_of_ble_eq_true rfl)) dX10_clouds_15 ⟨Nat.le_of_ble_eq_true rfl, Nat.le_of_ble_eq_true rfl⟩) (fun r u H locs hq hP hD hS => ?_)
  obtain rfl := hq
  have hP : va_P D vwCl [(g, .inr (10, [.ref kk, .ref nw, .ref im, .ref kp, .ref tx, .ref tr, .ref be, .ref sh, .ref sd, .ref rf, .int 0, .int 1])), (nw, .inr (4, [.ref kk, .ref nk, .ref nd, .ref ne, .ref nm, .ref nn, .int 0, .int 0, .int 0, .int 0, .int 0]))] H := hP
  have hD : va_D A [(g, .inr (10, [.ref kk, .ref nw, .ref im, .ref kp, .ref tx, .ref tr, .ref be, .ref sh, .ref sd, .ref rf, .int 0, .int 1])), (nw, .inr (4, [.ref kk, .ref nk, .ref nd, .ref ne, .ref nm, .ref nn, .int 0, .int 0, .int 0, .int 0, .int 0]))] := hD
  refine lv_if_eq (tgt := 27) hx hb dX10_clouds_18 (by decide) (fun h9 => absurd h9 (by decide)) (fun _ => ?_)
  refine lv_iload_n hx hb dX10_clouds_21 rfl (lv_at hl 1 rfl) ?_
  refine lv_iconst (v := 1) hx hb dX10_clouds_22 (by decide) ?_
  refine lv_iload_n hx hb dX10_clouds_23 rfl (lv_at hl 0 rfl) ?_
  refine lv_ishl hx hb dX10_clouds_24 ?_
  refine lv_topi (fun z23 hz23 => ?_)
  obtain rfl : z23 = 128 := hz23.trans (by first | rfl | decide | (simp [upd]; done))
  refine lv_ior hx hb dX10_clouds_25 ?_
  refine lv_topi (fun z24 hz24 => ?_)
  obtain rfl : z24 = 255 := hz24.trans (by first | rfl | decide | (simp [upd]; done))
  refine lv_istore_n (lv' := [(1, .int 255), (2, .int 7), (0, .ref g)]) hx hb dX10_clouds_26 rfl hl (by decide) rfl (fun ls hl => ?_)
  refine lv_iinc (v := 8) (lv' := [(2, .int 8), (1, .int 255), (0, .ref g)]) hx hb dX10_clouds_27 hl (k := 1) rfl (by decide) (by decide) rfl (fun ls hl => ?_)
  refine lv_goto (tgt := 4) hx hb dX10_clouds_30 (by decide) ?_
  refine lv_iload_n hx hb dX10_clouds_4 rfl (lv_at hl 0 rfl) ?_
  refine lv_bipush (v := 10) hx hb dX10_clouds_5 (by decide) ?_
  refine lv_icmp_ge (tgt := 33) hx hb dX10_clouds_7 (by decide) (fun h9 => absurd h9 (by decide)) (fun _ => ?_)
  refine lv_aload_n hx hb dX10_clouds_10 rfl (lv_at hl 2 rfl) ?_
  refine va_get (D := D) (ci := 10) (v := .ref nw) (C := RX10) (T := TX10) (N := 12) hx hb hts i10 hown hK hP 0 rfl rfl 1 (by decide) fw1 (fun _ h9 => h9) rfl dX10_clouds_11 ?_
  refine lv_iload_n hx hb dX10_clouds_14 rfl (lv_at hl 0 rfl) ?_
  have hs25 : kw_Split [(g, .inr (10, [.ref kk, .ref nw, .ref im, .ref kp, .ref tx, .ref tr, .ref be, .ref sh, .ref sd, .ref rf, .int 0, .int 1])), (nw, .inr (4, [.ref kk, .ref nk, .ref nd, .ref ne, .ref nm, .ref nn, .int 0, .int 0, .int 0, .int 0, .int 0]))] [(nw, .inr (4, [.ref kk, .ref nk, .ref nd, .ref ne, .ref nm, .ref nn, .int 0, .int 0, .int 0, .int 0, .int 0]))] [(g, .inr (10, [.ref kk, .ref nw, .ref im, .ref kp, .ref tx, .ref tr, .ref be, .ref sh, .ref sd, .ref rf, .int 0, .int 1]))] [1] [0] := ⟨rfl, rfl, rfl, rfl, rfl, by decide⟩
  refine kw_go_i hs25 hP hD hS hA (va_runV (As := [.int 8]) (rest := []) ⟨hx, hb, hml, hown, hts⟩ (ct_missedFit l D y nw kk nk nd ne nm nn 8  _) (cwV 1 hts gX10_clouds_X4_missedFit rfl rfl rfl (by decide +kernel) ⟨Nat.le_of_ble_eq_true rfl, Nat.le_of_ble_eq_true rfl⟩) (kw_PreV (ci := 4) (q0 := 1) hs25 hP hD hK hN rfl rfl) rfl rfl hl.1 rfl (lv_room (Nat.le_of_ble_eq_true rfl)) dX10_clouds_15 ⟨Nat.le_of_ble_eq_true rfl, Nat.le_of_ble_eq_true rfl⟩) (fun r u H locs hq hP hD hS => ?_)
  obtain rfl := hq
  have hP : va_P D vwCl [(g, .inr (10, [.ref kk, .ref nw, .ref im, .ref kp, .ref tx, .ref tr, .ref be, .ref sh, .ref sd, .ref rf, .int 0, .int 1])), (nw, .inr (4, [.ref kk, .ref nk, .ref nd, .ref ne, .ref nm, .ref nn, .int 0, .int 0, .int 0, .int 0, .int 0]))] H := hP
  have hD : va_D A [(g, .inr (10, [.ref kk, .ref nw, .ref im, .ref kp, .ref tx, .ref tr, .ref be, .ref sh, .ref sd, .ref rf, .int 0, .int 1])), (nw, .inr (4, [.ref kk, .ref nk, .ref nd, .ref ne, .ref nm, .ref nn, .int 0, .int 0, .int 0, .int 0, .int 0]))] := hD
  refine lv_if_eq (tgt := 27) hx hb dX10_clouds_18 (by decide) (fun h9 => absurd h9 (by decide)) (fun _ => ?_)
  refine lv_iload_n hx hb dX10_clouds_21 rfl (lv_at hl 1 rfl) ?_
  refine lv_iconst (v := 1) hx hb dX10_clouds_22 (by decide) ?_
  refine lv_iload_n hx hb dX10_clouds_23 rfl (lv_at hl 0 rfl) ?_
  refine lv_ishl hx hb dX10_clouds_24 ?_
  refine lv_topi (fun z26 hz26 => ?_)
  obtain rfl : z26 = 256 := hz26.trans (by first | rfl | decide | (simp [upd]; done))
  refine lv_ior hx hb dX10_clouds_25 ?_
  refine lv_topi (fun z27 hz27 => ?_)
  obtain rfl : z27 = 511 := hz27.trans (by first | rfl | decide | (simp [upd]; done))
  refine lv_istore_n (lv' := [(1, .int 511), (2, .int 8), (0, .ref g)]) hx hb dX10_clouds_26 rfl hl (by decide) rfl (fun ls hl => ?_)
  refine lv_iinc (v := 9) (lv' := [(2, .int 9), (1, .int 511), (0, .ref g)]) hx hb dX10_clouds_27 hl (k := 1) rfl (by decide) (by decide) rfl (fun ls hl => ?_)
  refine lv_goto (tgt := 4) hx hb dX10_clouds_30 (by decide) ?_
  refine lv_iload_n hx hb dX10_clouds_4 rfl (lv_at hl 0 rfl) ?_
  refine lv_bipush (v := 10) hx hb dX10_clouds_5 (by decide) ?_
  refine lv_icmp_ge (tgt := 33) hx hb dX10_clouds_7 (by decide) (fun h9 => absurd h9 (by decide)) (fun _ => ?_)
  refine lv_aload_n hx hb dX10_clouds_10 rfl (lv_at hl 2 rfl) ?_
  refine va_get (D := D) (ci := 10) (v := .ref nw) (C := RX10) (T := TX10) (N := 12) hx hb hts i10 hown hK hP 0 rfl rfl 1 (by decide) fw1 (fun _ h9 => h9) rfl dX10_clouds_11 ?_
  refine lv_iload_n hx hb dX10_clouds_14 rfl (lv_at hl 0 rfl) ?_
  have hs28 : kw_Split [(g, .inr (10, [.ref kk, .ref nw, .ref im, .ref kp, .ref tx, .ref tr, .ref be, .ref sh, .ref sd, .ref rf, .int 0, .int 1])), (nw, .inr (4, [.ref kk, .ref nk, .ref nd, .ref ne, .ref nm, .ref nn, .int 0, .int 0, .int 0, .int 0, .int 0]))] [(nw, .inr (4, [.ref kk, .ref nk, .ref nd, .ref ne, .ref nm, .ref nn, .int 0, .int 0, .int 0, .int 0, .int 0]))] [(g, .inr (10, [.ref kk, .ref nw, .ref im, .ref kp, .ref tx, .ref tr, .ref be, .ref sh, .ref sd, .ref rf, .int 0, .int 1]))] [1] [0] := ⟨rfl, rfl, rfl, rfl, rfl, by decide⟩
  refine kw_go_i hs28 hP hD hS hA (va_runV (As := [.int 9]) (rest := []) ⟨hx, hb, hml, hown, hts⟩ (ct_missedFit l D y nw kk nk nd ne nm nn 9  _) (cwV 1 hts gX10_clouds_X4_missedFit rfl rfl rfl (by decide +kernel) ⟨Nat.le_of_ble_eq_true rfl, Nat.le_of_ble_eq_true rfl⟩) (kw_PreV (ci := 4) (q0 := 1) hs28 hP hD hK hN rfl rfl) rfl rfl hl.1 rfl (lv_room (Nat.le_of_ble_eq_true rfl)) dX10_clouds_15 ⟨Nat.le_of_ble_eq_true rfl, Nat.le_of_ble_eq_true rfl⟩) (fun r u H locs hq hP hD hS => ?_)
  obtain rfl := hq
  have hP : va_P D vwCl [(g, .inr (10, [.ref kk, .ref nw, .ref im, .ref kp, .ref tx, .ref tr, .ref be, .ref sh, .ref sd, .ref rf, .int 0, .int 1])), (nw, .inr (4, [.ref kk, .ref nk, .ref nd, .ref ne, .ref nm, .ref nn, .int 0, .int 0, .int 0, .int 0, .int 0]))] H := hP
  have hD : va_D A [(g, .inr (10, [.ref kk, .ref nw, .ref im, .ref kp, .ref tx, .ref tr, .ref be, .ref sh, .ref sd, .ref rf, .int 0, .int 1])), (nw, .inr (4, [.ref kk, .ref nk, .ref nd, .ref ne, .ref nm, .ref nn, .int 0, .int 0, .int 0, .int 0, .int 0]))] := hD
  refine lv_if_eq (tgt := 27) hx hb dX10_clouds_18 (by decide) (fun h9 => absurd h9 (by decide)) (fun _ => ?_)
  refine lv_iload_n hx hb dX10_clouds_21 rfl (lv_at hl 1 rfl) ?_
  refine lv_iconst (v := 1) hx hb dX10_clouds_22 (by decide) ?_
  refine lv_iload_n hx hb dX10_clouds_23 rfl (lv_at hl 0 rfl) ?_
  refine lv_ishl hx hb dX10_clouds_24 ?_
  refine lv_topi (fun z29 hz29 => ?_)
  obtain rfl : z29 = 512 := hz29.trans (by first | rfl | decide | (simp [upd]; done))
  refine lv_ior hx hb dX10_clouds_25 ?_
  refine lv_topi (fun z30 hz30 => ?_)
  obtain rfl : z30 = 1023 := hz30.trans (by first | rfl | decide | (simp [upd]; done))
  refine lv_istore_n (lv' := [(1, .int 1023), (2, .int 9), (0, .ref g)]) hx hb dX10_clouds_26 rfl hl (by decide) rfl (fun ls hl => ?_)
  refine lv_iinc (v := 10) (lv' := [(2, .int 10), (1, .int 1023), (0, .ref g)]) hx hb dX10_clouds_27 hl (k := 1) rfl (by decide) (by decide) rfl (fun ls hl => ?_)
  refine lv_goto (tgt := 4) hx hb dX10_clouds_30 (by decide) ?_
  refine lv_iload_n hx hb dX10_clouds_4 rfl (lv_at hl 0 rfl) ?_
  refine lv_bipush (v := 10) hx hb dX10_clouds_5 (by decide) ?_
  refine lv_icmp_ge (tgt := 33) hx hb dX10_clouds_7 (by decide) (fun _ => ?_) (fun h9 => absurd h9 (by decide))
  refine lv_iload_n hx hb dX10_clouds_33 rfl (lv_at hl 1 rfl) ?_
  have hsp : (1023 : Int32) = 1023 := by
    rfl
  exact W.iret (v := 1023) hx hb hr (fun tZ ht hW => ⟨⟨1023, (), rfl, hsp, by rw [ht]; exact hP.sub [] rfl, hD.sub [] (by decide) rfl⟩, hS.F ht⟩) hS.2.2 dX10_clouds_34
