set_option maxHeartbeats 4000000 in
set_option maxRecDepth 100000 in
theorem cp_parish (l : Launch) (D : va_G) (y : Nat → ClassId) (g : Nat) (kk : Nat) (nw : Nat) (im : Nat) (kp : Nat) (tx : Nat) (tr : Nat) (be : Nat) (sh : Nat) (sd : Nat) (rf : Nat) (nk : Nat) (nd : Nat) (ne : Nat) (nm : Nat) (nn : Nat) (nl : Nat) (na : Nat) (ns : Nat) (c : Int32) : kw_Mi l yX10_parish wsX10_parish ({ frames := 2, cells := 0, slots := 0, locals := 61 }) D y [.ref g, .int c] [(g, .inr (10, [.ref kk, .ref nw, .ref im, .ref kp, .ref tx, .ref tr, .ref be, .ref sh, .ref sd, .ref rf, .int 0, .int 1])), (rf, .inl (y 0, 3, .inl (fun _ => 0))), (nw, .inr (4, [.ref kk, .ref nk, .ref nd, .ref ne, .ref nm, .ref nn, .int 0, .int 0, .int 0, .int 0, .int 0])), (nd, .inr (1, [.ref nl, .ref na, .ref ns, .int 0, .int 0, .int 0]))] (fun (r : Int32) (u : Unit) => r = (sp_parish c)) (fun _ => []) 0 0 := by
  refine kw_Mi.of (cc := cX10_parish) (maxL := 3) (ret := (some .int)) (by decide) rfl ?_
  intro pZ eZ s mZ beZ meZ cZ A hE
  obtain ⟨hx, hb, hr, hml, hts, hown, hlocks, hin, hA, hP, hD, hK, hN⟩ := hE
  have hS : va_S A s.heap s.heap [] := va_S.rf
  have hl := lv_entry ([.ref g, .int c]) (n := 3) (Nat.le_of_ble_eq_true rfl)
  rw [lg_entry_eq]
  generalize (lg_sl ([.ref g, .int c]) ++ List.replicate (3 - (lg_sl ([.ref g, .int c])).length) Slot.unset).toArray = ls at hl ⊢
  have hl : lv_has ls 3 [(0, .ref g), (1, .int c)] := hl
  have fw1 := hts (.fieldLink RX10 36 "GleanDusk" "now" "LGleanDusk$Parish;") (List.mem_of_getElem? (i := 1) rfl)
  have fw2 := hts (.fieldLink RX10 94 "GleanDusk$Parish" "fields" "I") (List.mem_of_getElem? (i := 2) rfl)
  have i10 : ∀ w ∈ wsX100, w ∈ wsX10_parish := fun _ h => List.mem_cons_of_mem _ (List.mem_append_left _ (List.mem_append_left _ (List.mem_append_right _ h)))
  have i4 : ∀ w ∈ wsX40, w ∈ wsX10_parish := fun _ h => List.mem_cons_of_mem _ (List.mem_append_left _ (List.mem_append_right _ h))
  refine lv_iload_n hx hb dX10_parish_0 rfl (lv_at hl 1 rfl) ?_
  refine lv_bipush (v := 10) hx hb dX10_parish_1 (by decide) ?_
  have hs1 : kw_Split [(g, .inr (10, [.ref kk, .ref nw, .ref im, .ref kp, .ref tx, .ref tr, .ref be, .ref sh, .ref sd, .ref rf, .int 0, .int 1])), (rf, .inl (y 0, 3, .inl (fun _ => 0))), (nw, .inr (4, [.ref kk, .ref nk, .ref nd, .ref ne, .ref nm, .ref nn, .int 0, .int 0, .int 0, .int 0, .int 0])), (nd, .inr (1, [.ref nl, .ref na, .ref ns, .int 0, .int 0, .int 0]))] [] [(g, .inr (10, [.ref kk, .ref nw, .ref im, .ref kp, .ref tx, .ref tr, .ref be, .ref sh, .ref sd, .ref rf, .int 0, .int 1])), (rf, .inl (y 0, 3, .inl (fun _ => 0))), (nw, .inr (4, [.ref kk, .ref nk, .ref nd, .ref ne, .ref nm, .ref nn, .int 0, .int 0, .int 0, .int 0, .int 0])), (nd, .inr (1, [.ref nl, .ref na, .ref ns, .int 0, .int 0, .int 0]))] [] [0, 1, 2, 3] := ⟨rfl, rfl, rfl, rfl, rfl, by decide⟩
  refine kw_go_i hs1 hP hD hS hA (va_runS (As := [.int c, .int 10]) (rest := []) ⟨hx, hb, hml, hown, hts⟩ (ct_isBelow l D y c 10  _) (va_cwS 2 hts gX10_parish_X10_isBelow rfl rfl rfl (by decide +kernel) ⟨Nat.le_of_ble_eq_true rfl, Nat.le_of_ble_eq_true rfl⟩) (kw_PreS hs1 hP hD hK hN) rfl rfl hl.1 rfl (lv_room (Nat.le_of_ble_eq_true rfl)) dX10_parish_3 ⟨Nat.le_of_ble_eq_true rfl, Nat.le_of_ble_eq_true rfl⟩) (fun r u H locs hq hP hD hS => ?_)
  rcases hq with ⟨h2, rfl⟩ | ⟨h3, h4, rfl⟩ | ⟨h5, h6, rfl⟩
  · skip
    have hP : va_P D vwCl [(g, .inr (10, [.ref kk, .ref nw, .ref im, .ref kp, .ref tx, .ref tr, .ref be, .ref sh, .ref sd, .ref rf, .int 0, .int 1])), (rf, .inl (y 0, 3, .inl (fun _ => 0))), (nw, .inr (4, [.ref kk, .ref nk, .ref nd, .ref ne, .ref nm, .ref nn, .int 0, .int 0, .int 0, .int 0, .int 0])), (nd, .inr (1, [.ref nl, .ref na, .ref ns, .int 0, .int 0, .int 0]))] H := hP
    have hD : va_D A [(g, .inr (10, [.ref kk, .ref nw, .ref im, .ref kp, .ref tx, .ref tr, .ref be, .ref sh, .ref sd, .ref rf, .int 0, .int 1])), (rf, .inl (y 0, 3, .inl (fun _ => 0))), (nw, .inr (4, [.ref kk, .ref nk, .ref nd, .ref ne, .ref nm, .ref nn, .int 0, .int 0, .int 0, .int 0, .int 0])), (nd, .inr (1, [.ref nl, .ref na, .ref ns, .int 0, .int 0, .int 0]))] := hD
    refine lv_if_ne (tgt := 14) hx hb dX10_parish_6 (by decide) (fun h9 => absurd h9 (by decide)) (fun _ => ?_)
    refine lv_aload_n hx hb dX10_parish_9 rfl (lv_at hl 0 rfl) ?_
    have hs7 : kw_Split [(g, .inr (10, [.ref kk, .ref nw, .ref im, .ref kp, .ref tx, .ref tr, .ref be, .ref sh, .ref sd, .ref rf, .int 0, .int 1])), (rf, .inl (y 0, 3, .inl (fun _ => 0))), (nw, .inr (4, [.ref kk, .ref nk, .ref nd, .ref ne, .ref nm, .ref nn, .int 0, .int 0, .int 0, .int 0, .int 0])), (nd, .inr (1, [.ref nl, .ref na, .ref ns, .int 0, .int 0, .int 0]))] [(g, .inr (10, [.ref kk, .ref nw, .ref im, .ref kp, .ref tx, .ref tr, .ref be, .ref sh, .ref sd, .ref rf, .int 0, .int 1])), (rf, .inl (y 0, 3, .inl (fun _ => 0)))] [(nw, .inr (4, [.ref kk, .ref nk, .ref nd, .ref ne, .ref nm, .ref nn, .int 0, .int 0, .int 0, .int 0, .int 0])), (nd, .inr (1, [.ref nl, .ref na, .ref ns, .int 0, .int 0, .int 0]))] [0, 1] [2, 3] := ⟨rfl, rfl, rfl, rfl, rfl, by decide⟩
    refine kw_go_i hs7 hP hD hS hA (va_runV (As := []) (rest := []) ⟨hx, hb, hml, hown, hts⟩ (ct_refuseBad l D y g kk nw im kp tx tr be sh sd rf (fun _ => 0)  _) (cwV 0 hts gX10_parish_X10_refuseBad rfl rfl rfl (by decide +kernel) ⟨Nat.le_of_ble_eq_true rfl, Nat.le_of_ble_eq_true rfl⟩) (kw_PreV (ci := 10) (q0 := 0) hs7 hP hD hK hN rfl rfl) rfl rfl hl.1 rfl (lv_room (Nat.le_of_ble_eq_true rfl)) dX10_parish_10 ⟨Nat.le_of_ble_eq_true rfl, Nat.le_of_ble_eq_true rfl⟩) (fun r u H locs hq hP hD hS => ?_)
    obtain rfl := hq
    have hP : va_P D vwCl [(nw, .inr (4, [.ref kk, .ref nk, .ref nd, .ref ne, .ref nm, .ref nn, .int 0, .int 0, .int 0, .int 0, .int 0])), (nd, .inr (1, [.ref nl, .ref na, .ref ns, .int 0, .int 0, .int 0]))] H := hP
    have hD : va_D A [(nw, .inr (4, [.ref kk, .ref nk, .ref nd, .ref ne, .ref nm, .ref nn, .int 0, .int 0, .int 0, .int 0, .int 0])), (nd, .inr (1, [.ref nl, .ref na, .ref ns, .int 0, .int 0, .int 0]))] := hD
    have hsp : ((-2) : Int32) = (sp_parish c) := by
      have gZ1 := Int32.lt_iff_toInt_lt.mp h2
      have lZ1 : (0 : Int32).toInt = 0 := by decide
      unfold sp_parish; first | rfl | decide | exact (if_neg (by omega)).symm | exact (if_pos (by omega)).symm | exact ((if_pos (by omega)).trans (if_neg (by omega))).symm | exact ((if_pos (by omega)).trans (if_pos (by omega))).symm | exact ((if_neg (by omega)).trans (if_pos (by omega))).symm | exact ((if_neg (by omega)).trans (if_neg (by omega))).symm
    exact W.iret (v := (-2)) hx hb hr (fun tZ ht hW => ⟨⟨(-2), (), rfl, hsp, by rw [ht]; exact hP.sub [] rfl, hD.sub [] (by decide) rfl⟩, hS.F ht⟩) hS.2.2 dX10_parish_13
  · skip
    have hP : va_P D vwCl [(g, .inr (10, [.ref kk, .ref nw, .ref im, .ref kp, .ref tx, .ref tr, .ref be, .ref sh, .ref sd, .ref rf, .int 0, .int 1])), (rf, .inl (y 0, 3, .inl (fun _ => 0))), (nw, .inr (4, [.ref kk, .ref nk, .ref nd, .ref ne, .ref nm, .ref nn, .int 0, .int 0, .int 0, .int 0, .int 0])), (nd, .inr (1, [.ref nl, .ref na, .ref ns, .int 0, .int 0, .int 0]))] H := hP
    have hD : va_D A [(g, .inr (10, [.ref kk, .ref nw, .ref im, .ref kp, .ref tx, .ref tr, .ref be, .ref sh, .ref sd, .ref rf, .int 0, .int 1])), (rf, .inl (y 0, 3, .inl (fun _ => 0))), (nw, .inr (4, [.ref kk, .ref nk, .ref nd, .ref ne, .ref nm, .ref nn, .int 0, .int 0, .int 0, .int 0, .int 0])), (nd, .inr (1, [.ref nl, .ref na, .ref ns, .int 0, .int 0, .int 0]))] := hD
    refine lv_if_ne (tgt := 14) hx hb dX10_parish_6 (by decide) (fun h9 => absurd h9 (by decide)) (fun _ => ?_)
    refine lv_aload_n hx hb dX10_parish_9 rfl (lv_at hl 0 rfl) ?_
    have hs8 : kw_Split [(g, .inr (10, [.ref kk, .ref nw, .ref im, .ref kp, .ref tx, .ref tr, .ref be, .ref sh, .ref sd, .ref rf, .int 0, .int 1])), (rf, .inl (y 0, 3, .inl (fun _ => 0))), (nw, .inr (4, [.ref kk, .ref nk, .ref nd, .ref ne, .ref nm, .ref nn, .int 0, .int 0, .int 0, .int 0, .int 0])), (nd, .inr (1, [.ref nl, .ref na, .ref ns, .int 0, .int 0, .int 0]))] [(g, .inr (10, [.ref kk, .ref nw, .ref im, .ref kp, .ref tx, .ref tr, .ref be, .ref sh, .ref sd, .ref rf, .int 0, .int 1])), (rf, .inl (y 0, 3, .inl (fun _ => 0)))] [(nw, .inr (4, [.ref kk, .ref nk, .ref nd, .ref ne, .ref nm, .ref nn, .int 0, .int 0, .int 0, .int 0, .int 0])), (nd, .inr (1, [.ref nl, .ref na, .ref ns, .int 0, .int 0, .int 0]))] [0, 1] [2, 3] := ⟨rfl, rfl, rfl, rfl, rfl, by decide⟩
    refine kw_go_i hs8 hP hD hS hA (va_runV (As := []) (rest := []) ⟨hx, hb, hml, hown, hts⟩ (ct_refuseBad l D y g kk nw im kp tx tr be sh sd rf (fun _ => 0)  _) (cwV 0 hts gX10_parish_X10_refuseBad rfl rfl rfl (by decide +kernel) ⟨Nat.le_of_ble_eq_true rfl, Nat.le_of_ble_eq_true rfl⟩) (kw_PreV (ci := 10) (q0 := 0) hs8 hP hD hK hN rfl rfl) rfl rfl hl.1 rfl (lv_room (Nat.le_of_ble_eq_true rfl)) dX10_parish_10 ⟨Nat.le_of_ble_eq_true rfl, Nat.le_of_ble_eq_true rfl⟩) (fun r u H locs hq hP hD hS => ?_)
    obtain rfl := hq
    have hP : va_P D vwCl [(nw, .inr (4, [.ref kk, .ref nk, .ref nd, .ref ne, .ref nm, .ref nn, .int 0, .int 0, .int 0, .int 0, .int 0])), (nd, .inr (1, [.ref nl, .ref na, .ref ns, .int 0, .int 0, .int 0]))] H := hP
    have hD : va_D A [(nw, .inr (4, [.ref kk, .ref nk, .ref nd, .ref ne, .ref nm, .ref nn, .int 0, .int 0, .int 0, .int 0, .int 0])), (nd, .inr (1, [.ref nl, .ref na, .ref ns, .int 0, .int 0, .int 0]))] := hD
    have hsp : ((-2) : Int32) = (sp_parish c) := by
      have gZ1 : ¬ (c : Int32).toInt < (0 : Int32).toInt := fun q => h3 (Int32.lt_iff_toInt_lt.mpr q)
      have lZ1 : (0 : Int32).toInt = 0 := by decide
      have gZ2 := Int32.le_iff_toInt_le.mp h4
      have lZ2 : (10 : Int32).toInt = 10 := by decide
      unfold sp_parish; first | rfl | decide | exact (if_neg (by omega)).symm | exact (if_pos (by omega)).symm | exact ((if_pos (by omega)).trans (if_neg (by omega))).symm | exact ((if_pos (by omega)).trans (if_pos (by omega))).symm | exact ((if_neg (by omega)).trans (if_pos (by omega))).symm | exact ((if_neg (by omega)).trans (if_neg (by omega))).symm
    exact W.iret (v := (-2)) hx hb hr (fun tZ ht hW => ⟨⟨(-2), (), rfl, hsp, by rw [ht]; exact hP.sub [] rfl, hD.sub [] (by decide) rfl⟩, hS.F ht⟩) hS.2.2 dX10_parish_13
  · skip
    have hP : va_P D vwCl [(g, .inr (10, [.ref kk, .ref nw, .ref im, .ref kp, .ref tx, .ref tr, .ref be, .ref sh, .ref sd, .ref rf, .int 0, .int 1])), (rf, .inl (y 0, 3, .inl (fun _ => 0))), (nw, .inr (4, [.ref kk, .ref nk, .ref nd, .ref ne, .ref nm, .ref nn, .int 0, .int 0, .int 0, .int 0, .int 0])), (nd, .inr (1, [.ref nl, .ref na, .ref ns, .int 0, .int 0, .int 0]))] H := hP
    have hD : va_D A [(g, .inr (10, [.ref kk, .ref nw, .ref im, .ref kp, .ref tx, .ref tr, .ref be, .ref sh, .ref sd, .ref rf, .int 0, .int 1])), (rf, .inl (y 0, 3, .inl (fun _ => 0))), (nw, .inr (4, [.ref kk, .ref nk, .ref nd, .ref ne, .ref nm, .ref nn, .int 0, .int 0, .int 0, .int 0, .int 0])), (nd, .inr (1, [.ref nl, .ref na, .ref ns, .int 0, .int 0, .int 0]))] := hD
    refine lv_if_ne (tgt := 14) hx hb dX10_parish_6 (by decide) (fun _ => ?_) (fun h9 => absurd h9 (by decide))
    refine lv_aload_n hx hb dX10_parish_14 rfl (lv_at hl 0 rfl) ?_
    refine va_get (D := D) (ci := 10) (v := .ref nw) (C := RX10) (T := TX10) (N := 12) hx hb hts i10 hown hK hP 0 rfl rfl 1 (by decide) fw1 (fun _ h9 => h9) rfl dX10_parish_15 ?_
    refine va_get (D := D) (ci := 4) (v := .int 0) (C := RX4) (T := TX4) (N := 11) hx hb hts i4 hown hK hP 2 rfl rfl 6 (by decide) fw2 (fun _ h9 => h9) rfl dX10_parish_18 ?_
    refine lv_istore_n (lv' := [(2, .int 0), (0, .ref g), (1, .int c)]) hx hb dX10_parish_21 rfl hl (by decide) rfl (fun ls hl => ?_)
    refine lv_aload_n hx hb dX10_parish_22 rfl (lv_at hl 1 rfl) ?_
    refine va_get (D := D) (ci := 10) (v := .ref nw) (C := RX10) (T := TX10) (N := 12) hx hb hts i10 hown hK hP 0 rfl rfl 1 (by decide) fw1 (fun _ h9 => h9) rfl dX10_parish_23 ?_
    refine lv_iload_n hx hb dX10_parish_26 rfl (lv_at hl 2 rfl) ?_
    have hs9 : kw_Split [(g, .inr (10, [.ref kk, .ref nw, .ref im, .ref kp, .ref tx, .ref tr, .ref be, .ref sh, .ref sd, .ref rf, .int 0, .int 1])), (rf, .inl (y 0, 3, .inl (fun _ => 0))), (nw, .inr (4, [.ref kk, .ref nk, .ref nd, .ref ne, .ref nm, .ref nn, .int 0, .int 0, .int 0, .int 0, .int 0])), (nd, .inr (1, [.ref nl, .ref na, .ref ns, .int 0, .int 0, .int 0]))] [(nw, .inr (4, [.ref kk, .ref nk, .ref nd, .ref ne, .ref nm, .ref nn, .int 0, .int 0, .int 0, .int 0, .int 0])), (nd, .inr (1, [.ref nl, .ref na, .ref ns, .int 0, .int 0, .int 0]))] [(g, .inr (10, [.ref kk, .ref nw, .ref im, .ref kp, .ref tx, .ref tr, .ref be, .ref sh, .ref sd, .ref rf, .int 0, .int 1])), (rf, .inl (y 0, 3, .inl (fun _ => 0)))] [2, 3] [0, 1] := ⟨rfl, rfl, rfl, rfl, rfl, by decide⟩
    refine kw_go_v hs9 hP hD hS hA (va_runV (As := [.int c]) (rest := []) ⟨hx, hb, hml, hown, hts⟩ (ct_begin l D y nw kk nk nd ne nm nn nl na ns c 0 0 0 0 0 0 0 0  _) (cwV 1 hts gX10_parish_X4_begin rfl rfl rfl (by decide +kernel) ⟨Nat.le_of_ble_eq_true rfl, Nat.le_of_ble_eq_true rfl⟩) (kw_PreV (ci := 4) (q0 := 2) hs9 hP hD hK hN rfl rfl) rfl rfl hl.1 rfl (lv_room (Nat.le_of_ble_eq_true rfl)) dX10_parish_27 ⟨Nat.le_of_ble_eq_true rfl, Nat.le_of_ble_eq_true rfl⟩) (fun u H locs hq hP hD hS => ?_)
    obtain - := hq
    have hP : va_P D vwCl [(g, .inr (10, [.ref kk, .ref nw, .ref im, .ref kp, .ref tx, .ref tr, .ref be, .ref sh, .ref sd, .ref rf, .int 0, .int 1])), (rf, .inl (y 0, 3, .inl (fun _ => 0))), (nw, .inr (4, [.ref kk, .ref nk, .ref nd, .ref ne, .ref nm, .ref nn, .int 0, .int 0, .int 0, .int 0, .int 0])), (nd, .inr (1, [.ref nl, .ref na, .ref ns, .int 0, .int c, .int 0]))] H := hP
    have hD : va_D A [(g, .inr (10, [.ref kk, .ref nw, .ref im, .ref kp, .ref tx, .ref tr, .ref be, .ref sh, .ref sd, .ref rf, .int 0, .int 1])), (rf, .inl (y 0, 3, .inl (fun _ => 0))), (nw, .inr (4, [.ref kk, .ref nk, .ref nd, .ref ne, .ref nm, .ref nn, .int 0, .int 0, .int 0, .int 0, .int 0])), (nd, .inr (1, [.ref nl, .ref na, .ref ns, .int 0, .int c, .int 0]))] := hD
    refine lv_iload_n hx hb dX10_parish_30 rfl (lv_at hl 0 rfl) ?_
    have hsp : (0 : Int32) = (sp_parish c) := by
      have gZ1 : ¬ (c : Int32).toInt < (0 : Int32).toInt := fun q => h5 (Int32.lt_iff_toInt_lt.mpr q)
      have lZ1 : (0 : Int32).toInt = 0 := by decide
      have gZ2 : ¬ (10 : Int32).toInt ≤ (c : Int32).toInt := fun q => h6 (Int32.le_iff_toInt_le.mpr q)
      have lZ2 : (10 : Int32).toInt = 10 := by decide
      unfold sp_parish; first | rfl | decide | exact (if_neg (by omega)).symm | exact (if_pos (by omega)).symm | exact ((if_pos (by omega)).trans (if_neg (by omega))).symm | exact ((if_pos (by omega)).trans (if_pos (by omega))).symm | exact ((if_neg (by omega)).trans (if_pos (by omega))).symm | exact ((if_neg (by omega)).trans (if_neg (by omega))).symm
    exact W.iret (v := 0) hx hb hr (fun tZ ht hW => ⟨⟨0, (), rfl, hsp, by rw [ht]; exact hP.sub [] rfl, hD.sub [] (by decide) rfl⟩, hS.F ht⟩) hS.2.2 dX10_parish_31

set_option maxHeartbeats 4000000 in
set_option maxRecDepth 100000 in
theorem cp_field (l : Launch) (D : va_G) (y : Nat → ClassId) (g : Nat) (kk : Nat) (nw : Nat) (im : Nat) (kp : Nat) (tx : Nat) (tr : Nat) (be : Nat) (sh : Nat) (sd : Nat) (rf : Nat) (nk : Nat) (nd : Nat) (ne : Nat) (nm : Nat) (nn : Nat) (nl : Nat) (na : Nat) (ns : Nat) (k : Int32) (c : Int32) : kw_Mi l yX10_field wsX10_field ({ frames := 3, cells := 0, slots := 0, locals := 82 }) D y [.ref g, .int k, .int c] [(g, .inr (10, [.ref kk, .ref nw, .ref im, .ref kp, .ref tx, .ref tr, .ref be, .ref sh, .ref sd, .ref rf, .int 0, .int 1])), (rf, .inl (y 0, 3, .inl (fun _ => 0))), (nw, .inr (4, [.ref kk, .ref nk, .ref nd, .ref ne, .ref nm, .ref nn, .int 0, .int 0, .int 0, .int 0, .int 0])), (nk, .inl (y 0, 6, .inl (fun _ => 0))), (nd, .inr (1, [.ref nl, .ref na, .ref ns, .int 0, .int 0, .int 0])), (nl, .inl (y 0, 6, .inl (fun _ => 0)))] (fun (r : Int32) (u : Unit) => r = (sp_field k c)) (fun _ => []) 0 0 := by
  refine kw_Mi.of (cc := cX10_field) (maxL := 3) (ret := (some .int)) (by decide) rfl ?_
  intro pZ eZ s mZ beZ meZ cZ A hE
  obtain ⟨hx, hb, hr, hml, hts, hown, hlocks, hin, hA, hP, hD, hK, hN⟩ := hE
  have hS : va_S A s.heap s.heap [] := va_S.rf
  have hl := lv_entry ([.ref g, .int k, .int c]) (n := 3) (Nat.le_of_ble_eq_true rfl)
  rw [lg_entry_eq]
  generalize (lg_sl ([.ref g, .int k, .int c]) ++ List.replicate (3 - (lg_sl ([.ref g, .int k, .int c])).length) Slot.unset).toArray = ls at hl ⊢
  have hl : lv_has ls 3 [(0, .ref g), (1, .int k), (2, .int c)] := hl
  have fw1 := hts (.fieldLink RX10 36 "GleanDusk" "now" "LGleanDusk$Parish;") (List.mem_of_getElem? (i := 1) rfl)
  have fw2 := hts (.fieldLink RX10 94 "GleanDusk$Parish" "fields" "I") (List.mem_of_getElem? (i := 2) rfl)
  have i10 : ∀ w ∈ wsX100, w ∈ wsX10_field := fun _ h => List.mem_cons_of_mem _ (List.mem_append_left _ (List.mem_append_left _ (List.mem_append_right _ h)))
  have i4 : ∀ w ∈ wsX40, w ∈ wsX10_field := fun _ h => List.mem_cons_of_mem _ (List.mem_append_left _ (List.mem_append_right _ h))
  refine lv_iload_n hx hb dX10_field_0 rfl (lv_at hl 1 rfl) ?_
  refine lv_bipush (v := 6) hx hb dX10_field_1 (by decide) ?_
  have hs1 : kw_Split [(g, .inr (10, [.ref kk, .ref nw, .ref im, .ref kp, .ref tx, .ref tr, .ref be, .ref sh, .ref sd, .ref rf, .int 0, .int 1])), (rf, .inl (y 0, 3, .inl (fun _ => 0))), (nw, .inr (4, [.ref kk, .ref nk, .ref nd, .ref ne, .ref nm, .ref nn, .int 0, .int 0, .int 0, .int 0, .int 0])), (nk, .inl (y 0, 6, .inl (fun _ => 0))), (nd, .inr (1, [.ref nl, .ref na, .ref ns, .int 0, .int 0, .int 0])), (nl, .inl (y 0, 6, .inl (fun _ => 0)))] [] [(g, .inr (10, [.ref kk, .ref nw, .ref im, .ref kp, .ref tx, .ref tr, .ref be, .ref sh, .ref sd, .ref rf, .int 0, .int 1])), (rf, .inl (y 0, 3, .inl (fun _ => 0))), (nw, .inr (4, [.ref kk, .ref nk, .ref nd, .ref ne, .ref nm, .ref nn, .int 0, .int 0, .int 0, .int 0, .int 0])), (nk, .inl (y 0, 6, .inl (fun _ => 0))), (nd, .inr (1, [.ref nl, .ref na, .ref ns, .int 0, .int 0, .int 0])), (nl, .inl (y 0, 6, .inl (fun _ => 0)))] [] [0, 1, 2, 3, 4, 5] := ⟨rfl, rfl, rfl, rfl, rfl, by decide⟩
  refine kw_go_i hs1 hP hD hS hA (va_runS (As := [.int k, .int 6]) (rest := []) ⟨hx, hb, hml, hown, hts⟩ (ct_isBelow l D y k 6  _) (va_cwS 2 hts gX10_field_X10_isBelow rfl rfl rfl (by decide +kernel) ⟨Nat.le_of_ble_eq_true rfl, Nat.le_of_ble_eq_true rfl⟩) (kw_PreS hs1 hP hD hK hN) rfl rfl hl.1 rfl (lv_room (Nat.le_of_ble_eq_true rfl)) dX10_field_3 ⟨Nat.le_of_ble_eq_true rfl, Nat.le_of_ble_eq_true rfl⟩) (fun r u H locs hq hP hD hS => ?_)
  rcases hq with ⟨h2, rfl⟩ | ⟨h3, h4, rfl⟩ | ⟨h5, h6, rfl⟩
  · skip
    have hP : va_P D vwCl [(g, .inr (10, [.ref kk, .ref nw, .ref im, .ref kp, .ref tx, .ref tr, .ref be, .ref sh, .ref sd, .ref rf, .int 0, .int 1])), (rf, .inl (y 0, 3, .inl (fun _ => 0))), (nw, .inr (4, [.ref kk, .ref nk, .ref nd, .ref ne, .ref nm, .ref nn, .int 0, .int 0, .int 0, .int 0, .int 0])), (nk, .inl (y 0, 6, .inl (fun _ => 0))), (nd, .inr (1, [.ref nl, .ref na, .ref ns, .int 0, .int 0, .int 0])), (nl, .inl (y 0, 6, .inl (fun _ => 0)))] H := hP
    have hD : va_D A [(g, .inr (10, [.ref kk, .ref nw, .ref im, .ref kp, .ref tx, .ref tr, .ref be, .ref sh, .ref sd, .ref rf, .int 0, .int 1])), (rf, .inl (y 0, 3, .inl (fun _ => 0))), (nw, .inr (4, [.ref kk, .ref nk, .ref nd, .ref ne, .ref nm, .ref nn, .int 0, .int 0, .int 0, .int 0, .int 0])), (nk, .inl (y 0, 6, .inl (fun _ => 0))), (nd, .inr (1, [.ref nl, .ref na, .ref ns, .int 0, .int 0, .int 0])), (nl, .inl (y 0, 6, .inl (fun _ => 0)))] := hD
    refine lv_if_eq (tgt := 16) hx hb dX10_field_6 (by decide) (fun _ => ?_) (fun h9 => absurd h9 (by decide))
    refine lv_aload_n hx hb dX10_field_16 rfl (lv_at hl 0 rfl) ?_
    have hs7 : kw_Split [(g, .inr (10, [.ref kk, .ref nw, .ref im, .ref kp, .ref tx, .ref tr, .ref be, .ref sh, .ref sd, .ref rf, .int 0, .int 1])), (rf, .inl (y 0, 3, .inl (fun _ => 0))), (nw, .inr (4, [.ref kk, .ref nk, .ref nd, .ref ne, .ref nm, .ref nn, .int 0, .int 0, .int 0, .int 0, .int 0])), (nk, .inl (y 0, 6, .inl (fun _ => 0))), (nd, .inr (1, [.ref nl, .ref na, .ref ns, .int 0, .int 0, .int 0])), (nl, .inl (y 0, 6, .inl (fun _ => 0)))] [(g, .inr (10, [.ref kk, .ref nw, .ref im, .ref kp, .ref tx, .ref tr, .ref be, .ref sh, .ref sd, .ref rf, .int 0, .int 1])), (rf, .inl (y 0, 3, .inl (fun _ => 0)))] [(nw, .inr (4, [.ref kk, .ref nk, .ref nd, .ref ne, .ref nm, .ref nn, .int 0, .int 0, .int 0, .int 0, .int 0])), (nk, .inl (y 0, 6, .inl (fun _ => 0))), (nd, .inr (1, [.ref nl, .ref na, .ref ns, .int 0, .int 0, .int 0])), (nl, .inl (y 0, 6, .inl (fun _ => 0)))] [0, 1] [2, 3, 4, 5] := ⟨rfl, rfl, rfl, rfl, rfl, by decide⟩
    refine kw_go_i hs7 hP hD hS hA (va_runV (As := []) (rest := []) ⟨hx, hb, hml, hown, hts⟩ (ct_refuseBad l D y g kk nw im kp tx tr be sh sd rf (fun _ => 0)  _) (cwV 0 hts gX10_field_X10_refuseBad rfl rfl rfl (by decide +kernel) ⟨Nat.le_of_ble_eq_true rfl, Nat.le_of_ble_eq_true rfl⟩) (kw_PreV (ci := 10) (q0 := 0) hs7 hP hD hK hN rfl rfl) rfl rfl hl.1 rfl (lv_room (Nat.le_of_ble_eq_true rfl)) dX10_field_17 ⟨Nat.le_of_ble_eq_true rfl, Nat.le_of_ble_eq_true rfl⟩) (fun r u H locs hq hP hD hS => ?_)
    obtain rfl := hq
    have hP : va_P D vwCl [(nw, .inr (4, [.ref kk, .ref nk, .ref nd, .ref ne, .ref nm, .ref nn, .int 0, .int 0, .int 0, .int 0, .int 0])), (nk, .inl (y 0, 6, .inl (fun _ => 0))), (nd, .inr (1, [.ref nl, .ref na, .ref ns, .int 0, .int 0, .int 0])), (nl, .inl (y 0, 6, .inl (fun _ => 0)))] H := hP
    have hD : va_D A [(nw, .inr (4, [.ref kk, .ref nk, .ref nd, .ref ne, .ref nm, .ref nn, .int 0, .int 0, .int 0, .int 0, .int 0])), (nk, .inl (y 0, 6, .inl (fun _ => 0))), (nd, .inr (1, [.ref nl, .ref na, .ref ns, .int 0, .int 0, .int 0])), (nl, .inl (y 0, 6, .inl (fun _ => 0)))] := hD
    have hsp : ((-2) : Int32) = (sp_field k c) := by
      have gZ1 := Int32.lt_iff_toInt_lt.mp h2
      have lZ1 : (0 : Int32).toInt = 0 := by decide
      unfold sp_field; first | rfl | decide | exact (if_neg (by omega)).symm | exact (if_pos (by omega)).symm | exact ((if_pos (by omega)).trans (if_neg (by omega))).symm | exact ((if_pos (by omega)).trans (if_pos (by omega))).symm | exact ((if_neg (by omega)).trans (if_pos (by omega))).symm | exact ((if_neg (by omega)).trans (if_neg (by omega))).symm
    exact W.iret (v := (-2)) hx hb hr (fun tZ ht hW => ⟨⟨(-2), (), rfl, hsp, by rw [ht]; exact hP.sub [] rfl, hD.sub [] (by decide) rfl⟩, hS.F ht⟩) hS.2.2 dX10_field_20
  · skip
    have hP : va_P D vwCl [(g, .inr (10, [.ref kk, .ref nw, .ref im, .ref kp, .ref tx, .ref tr, .ref be, .ref sh, .ref sd, .ref rf, .int 0, .int 1])), (rf, .inl (y 0, 3, .inl (fun _ => 0))), (nw, .inr (4, [.ref kk, .ref nk, .ref nd, .ref ne, .ref nm, .ref nn, .int 0, .int 0, .int 0, .int 0, .int 0])), (nk, .inl (y 0, 6, .inl (fun _ => 0))), (nd, .inr (1, [.ref nl, .ref na, .ref ns, .int 0, .int 0, .int 0])), (nl, .inl (y 0, 6, .inl (fun _ => 0)))] H := hP
    have hD : va_D A [(g, .inr (10, [.ref kk, .ref nw, .ref im, .ref kp, .ref tx, .ref tr, .ref be, .ref sh, .ref sd, .ref rf, .int 0, .int 1])), (rf, .inl (y 0, 3, .inl (fun _ => 0))), (nw, .inr (4, [.ref kk, .ref nk, .ref nd, .ref ne, .ref nm, .ref nn, .int 0, .int 0, .int 0, .int 0, .int 0])), (nk, .inl (y 0, 6, .inl (fun _ => 0))), (nd, .inr (1, [.ref nl, .ref na, .ref ns, .int 0, .int 0, .int 0])), (nl, .inl (y 0, 6, .inl (fun _ => 0)))] := hD
    refine lv_if_eq (tgt := 16) hx hb dX10_field_6 (by decide) (fun _ => ?_) (fun h9 => absurd h9 (by decide))
    refine lv_aload_n hx hb dX10_field_16 rfl (lv_at hl 0 rfl) ?_
    have hs8 : kw_Split [(g, .inr (10, [.ref kk, .ref nw, .ref im, .ref kp, .ref tx, .ref tr, .ref be, .ref sh, .ref sd, .ref rf, .int 0, .int 1])), (rf, .inl (y 0, 3, .inl (fun _ => 0))), (nw, .inr (4, [.ref kk, .ref nk, .ref nd, .ref ne, .ref nm, .ref nn, .int 0, .int 0, .int 0, .int 0, .int 0])), (nk, .inl (y 0, 6, .inl (fun _ => 0))), (nd, .inr (1, [.ref nl, .ref na, .ref ns, .int 0, .int 0, .int 0])), (nl, .inl (y 0, 6, .inl (fun _ => 0)))] [(g, .inr (10, [.ref kk, .ref nw, .ref im, .ref kp, .ref tx, .ref tr, .ref be, .ref sh, .ref sd, .ref rf, .int 0, .int 1])), (rf, .inl (y 0, 3, .inl (fun _ => 0)))] [(nw, .inr (4, [.ref kk, .ref nk, .ref nd, .ref ne, .ref nm, .ref nn, .int 0, .int 0, .int 0, .int 0, .int 0])), (nk, .inl (y 0, 6, .inl (fun _ => 0))), (nd, .inr (1, [.ref nl, .ref na, .ref ns, .int 0, .int 0, .int 0])), (nl, .inl (y 0, 6, .inl (fun _ => 0)))] [0, 1] [2, 3, 4, 5] := ⟨rfl, rfl, rfl, rfl, rfl, by decide⟩
    refine kw_go_i hs8 hP hD hS hA (va_runV (As := []) (rest := []) ⟨hx, hb, hml, hown, hts⟩ (ct_refuseBad l D y g kk nw im kp tx tr be sh sd rf (fun _ => 0)  _) (cwV 0 hts gX10_field_X10_refuseBad rfl rfl rfl (by decide +kernel) ⟨Nat.le_of_ble_eq_true rfl, Nat.le_of_ble_eq_true rfl⟩) (kw_PreV (ci := 10) (q0 := 0) hs8 hP hD hK hN rfl rfl) rfl rfl hl.1 rfl (lv_room (Nat.le_of_ble_eq_true rfl)) dX10_field_17 ⟨Nat.le_of_ble_eq_true rfl, Nat.le_of_ble_eq_true rfl⟩) (fun r u H locs hq hP hD hS => ?_)
    obtain rfl := hq
    have hP : va_P D vwCl [(nw, .inr (4, [.ref kk, .ref nk, .ref nd, .ref ne, .ref nm, .ref nn, .int 0, .int 0, .int 0, .int 0, .int 0])), (nk, .inl (y 0, 6, .inl (fun _ => 0))), (nd, .inr (1, [.ref nl, .ref na, .ref ns, .int 0, .int 0, .int 0])), (nl, .inl (y 0, 6, .inl (fun _ => 0)))] H := hP
    have hD : va_D A [(nw, .inr (4, [.ref kk, .ref nk, .ref nd, .ref ne, .ref nm, .ref nn, .int 0, .int 0, .int 0, .int 0, .int 0])), (nk, .inl (y 0, 6, .inl (fun _ => 0))), (nd, .inr (1, [.ref nl, .ref na, .ref ns, .int 0, .int 0, .int 0])), (nl, .inl (y 0, 6, .inl (fun _ => 0)))] := hD
    have hsp : ((-2) : Int32) = (sp_field k c) := by
      have gZ1 : ¬ (k : Int32).toInt < (0 : Int32).toInt := fun q => h3 (Int32.lt_iff_toInt_lt.mpr q)
      have lZ1 : (0 : Int32).toInt = 0 := by decide
      have gZ2 := Int32.le_iff_toInt_le.mp h4
      have lZ2 : (6 : Int32).toInt = 6 := by decide
      unfold sp_field; first | rfl | decide | exact (if_neg (by omega)).symm | exact (if_pos (by omega)).symm | exact ((if_pos (by omega)).trans (if_neg (by omega))).symm | exact ((if_pos (by omega)).trans (if_pos (by omega))).symm | exact ((if_neg (by omega)).trans (if_pos (by omega))).symm | exact ((if_neg (by omega)).trans (if_neg (by omega))).symm
    exact W.iret (v := (-2)) hx hb hr (fun tZ ht hW => ⟨⟨(-2), (), rfl, hsp, by rw [ht]; exact hP.sub [] rfl, hD.sub [] (by decide) rfl⟩, hS.F ht⟩) hS.2.2 dX10_field_20
  · skip
    have hP : va_P D vwCl [(g, .inr (10, [.ref kk, .ref nw, .ref im, .ref kp, .ref tx, .ref tr, .ref be, .ref sh, .ref sd, .ref rf, .int 0, .int 1])), (rf, .inl (y 0, 3, .inl (fun _ => 0))), (nw, .inr (4, [.ref kk, .ref nk, .ref nd, .ref ne, .ref nm, .ref nn, .int 0, .int 0, .int 0, .int 0, .int 0])), (nk, .inl (y 0, 6, .inl (fun _ => 0))), (nd, .inr (1, [.ref nl, .ref na, .ref ns, .int 0, .int 0, .int 0])), (nl, .inl (y 0, 6, .inl (fun _ => 0)))] H := hP
    have hD : va_D A [(g, .inr (10, [.ref kk, .ref nw, .ref im, .ref kp, .ref tx, .ref tr, .ref be, .ref sh, .ref sd, .ref rf, .int 0, .int 1])), (rf, .inl (y 0, 3, .inl (fun _ => 0))), (nw, .inr (4, [.ref kk, .ref nk, .ref nd, .ref ne, .ref nm, .ref nn, .int 0, .int 0, .int 0, .int 0, .int 0])), (nk, .inl (y 0, 6, .inl (fun _ => 0))), (nd, .inr (1, [.ref nl, .ref na, .ref ns, .int 0, .int 0, .int 0])), (nl, .inl (y 0, 6, .inl (fun _ => 0)))] := hD
    refine lv_if_eq (tgt := 16) hx hb dX10_field_6 (by decide) (fun h9 => absurd h9 (by decide)) (fun _ => ?_)
    refine lv_iload_n hx hb dX10_field_9 rfl (lv_at hl 2 rfl) ?_
    have hs9 : kw_Split [(g, .inr (10, [.ref kk, .ref nw, .ref im, .ref kp, .ref tx, .ref tr, .ref be, .ref sh, .ref sd, .ref rf, .int 0, .int 1])), (rf, .inl (y 0, 3, .inl (fun _ => 0))), (nw, .inr (4, [.ref kk, .ref nk, .ref nd, .ref ne, .ref nm, .ref nn, .int 0, .int 0, .int 0, .int 0, .int 0])), (nk, .inl (y 0, 6, .inl (fun _ => 0))), (nd, .inr (1, [.ref nl, .ref na, .ref ns, .int 0, .int 0, .int 0])), (nl, .inl (y 0, 6, .inl (fun _ => 0)))] [] [(g, .inr (10, [.ref kk, .ref nw, .ref im, .ref kp, .ref tx, .ref tr, .ref be, .ref sh, .ref sd, .ref rf, .int 0, .int 1])), (rf, .inl (y 0, 3, .inl (fun _ => 0))), (nw, .inr (4, [.ref kk, .ref nk, .ref nd, .ref ne, .ref nm, .ref nn, .int 0, .int 0, .int 0, .int 0, .int 0])), (nk, .inl (y 0, 6, .inl (fun _ => 0))), (nd, .inr (1, [.ref nl, .ref na, .ref ns, .int 0, .int 0, .int 0])), (nl, .inl (y 0, 6, .inl (fun _ => 0)))] [] [0, 1, 2, 3, 4, 5] := ⟨rfl, rfl, rfl, rfl, rfl, by decide⟩
    refine kw_go_i hs9 hP hD hS hA (va_runS (As := [.int c]) (rest := []) ⟨hx, hb, hml, hown, hts⟩ (ct_isLight l D y c  _) (va_cwS 1 hts gX10_field_X10_isLight rfl rfl rfl (by decide +kernel) ⟨Nat.le_of_ble_eq_true rfl, Nat.le_of_ble_eq_true rfl⟩) (kw_PreS hs9 hP hD hK hN) rfl rfl hl.1 rfl (lv_room (Nat.le_of_ble_eq_true rfl)) dX10_field_10 ⟨Nat.le_of_ble_eq_true rfl, Nat.le_of_ble_eq_true rfl⟩) (fun r u H locs hq hP hD hS => ?_)
    rcases hq with ⟨h10, rfl⟩ | ⟨h11, h12, rfl⟩ | ⟨h13, h14, rfl⟩
    · skip
      have hP : va_P D vwCl [(g, .inr (10, [.ref kk, .ref nw, .ref im, .ref kp, .ref tx, .ref tr, .ref be, .ref sh, .ref sd, .ref rf, .int 0, .int 1])), (rf, .inl (y 0, 3, .inl (fun _ => 0))), (nw, .inr (4, [.ref kk, .ref nk, .ref nd, .ref ne, .ref nm, .ref nn, .int 0, .int 0, .int 0, .int 0, .int 0])), (nk, .inl (y 0, 6, .inl (fun _ => 0))), (nd, .inr (1, [.ref nl, .ref na, .ref ns, .int 0, .int 0, .int 0])), (nl, .inl (y 0, 6, .inl (fun _ => 0)))] H := hP
      have hD : va_D A [(g, .inr (10, [.ref kk, .ref nw, .ref im, .ref kp, .ref tx, .ref tr, .ref be, .ref sh, .ref sd, .ref rf, .int 0, .int 1])), (rf, .inl (y 0, 3, .inl (fun _ => 0))), (nw, .inr (4, [.ref kk, .ref nk, .ref nd, .ref ne, .ref nm, .ref nn, .int 0, .int 0, .int 0, .int 0, .int 0])), (nk, .inl (y 0, 6, .inl (fun _ => 0))), (nd, .inr (1, [.ref nl, .ref na, .ref ns, .int 0, .int 0, .int 0])), (nl, .inl (y 0, 6, .inl (fun _ => 0)))] := hD
      refine lv_if_ne (tgt := 21) hx hb dX10_field_13 (by decide) (fun h9 => absurd h9 (by decide)) (fun _ => ?_)
      refine lv_aload_n hx hb dX10_field_16 rfl (lv_at hl 0 rfl) ?_
      have hs15 : kw_Split [(g, .inr (10, [.ref kk, .ref nw, .ref im, .ref kp, .ref tx, .ref tr, .ref be, .ref sh, .ref sd, .ref rf, .int 0, .int 1])), (rf, .inl (y 0, 3, .inl (fun _ => 0))), (nw, .inr (4, [.ref kk, .ref nk, .ref nd, .ref ne, .ref nm, .ref nn, .int 0, .int 0, .int 0, .int 0, .int 0])), (nk, .inl (y 0, 6, .inl (fun _ => 0))), (nd, .inr (1, [.ref nl, .ref na, .ref ns, .int 0, .int 0, .int 0])), (nl, .inl (y 0, 6, .inl (fun _ => 0)))] [(g, .inr (10, [.ref kk, .ref nw, .ref im, .ref kp, .ref tx, .ref tr, .ref be, .ref sh, .ref sd, .ref rf, .int 0, .int 1])), (rf, .inl (y 0, 3, .inl (fun _ => 0)))] [(nw, .inr (4, [.ref kk, .ref nk, .ref nd, .ref ne, .ref nm, .ref nn, .int 0, .int 0, .int 0, .int 0, .int 0])), (nk, .inl (y 0, 6, .inl (fun _ => 0))), (nd, .inr (1, [.ref nl, .ref na, .ref ns, .int 0, .int 0, .int 0])), (nl, .inl (y 0, 6, .inl (fun _ => 0)))] [0, 1] [2, 3, 4, 5] := ⟨rfl, rfl, rfl, rfl, rfl, by decide⟩
      refine kw_go_i hs15 hP hD hS hA (va_runV (As := []) (rest := []) ⟨hx, hb, hml, hown, hts⟩ (ct_refuseBad l D y g kk nw im kp tx tr be sh sd rf (fun _ => 0)  _) (cwV 0 hts gX10_field_X10_refuseBad rfl rfl rfl (by decide +kernel) ⟨Nat.le_of_ble_eq_true rfl, Nat.le_of_ble_eq_true rfl⟩) (kw_PreV (ci := 10) (q0 := 0) hs15 hP hD hK hN rfl rfl) rfl rfl hl.1 rfl (lv_room (Nat.le_of_ble_eq_true rfl)) dX10_field_17 ⟨Nat.le_of_ble_eq_true rfl, Nat.le_of_ble_eq_true rfl⟩) (fun r u H locs hq hP hD hS => ?_)
      obtain rfl := hq
      have hP : va_P D vwCl [(nw, .inr (4, [.ref kk, .ref nk, .ref nd, .ref ne, .ref nm, .ref nn, .int 0, .int 0, .int 0, .int 0, .int 0])), (nk, .inl (y 0, 6, .inl (fun _ => 0))), (nd, .inr (1, [.ref nl, .ref na, .ref ns, .int 0, .int 0, .int 0])), (nl, .inl (y 0, 6, .inl (fun _ => 0)))] H := hP
      have hD : va_D A [(nw, .inr (4, [.ref kk, .ref nk, .ref nd, .ref ne, .ref nm, .ref nn, .int 0, .int 0, .int 0, .int 0, .int 0])), (nk, .inl (y 0, 6, .inl (fun _ => 0))), (nd, .inr (1, [.ref nl, .ref na, .ref ns, .int 0, .int 0, .int 0])), (nl, .inl (y 0, 6, .inl (fun _ => 0)))] := hD
      have hsp : ((-2) : Int32) = (sp_field k c) := by
        have gZ1 : ¬ (k : Int32).toInt < (0 : Int32).toInt := fun q => h5 (Int32.lt_iff_toInt_lt.mpr q)
        have lZ1 : (0 : Int32).toInt = 0 := by decide
        have gZ2 : ¬ (6 : Int32).toInt ≤ (k : Int32).toInt := fun q => h6 (Int32.le_iff_toInt_le.mpr q)
        have lZ2 : (6 : Int32).toInt = 6 := by decide
        have gZ3 := Int32.lt_iff_toInt_lt.mp h10
        unfold sp_field; first | rfl | decide | exact (if_neg (by omega)).symm | exact (if_pos (by omega)).symm | exact ((if_pos (by omega)).trans (if_neg (by omega))).symm | exact ((if_pos (by omega)).trans (if_pos (by omega))).symm | exact ((if_neg (by omega)).trans (if_pos (by omega))).symm | exact ((if_neg (by omega)).trans (if_neg (by omega))).symm
      exact W.iret (v := (-2)) hx hb hr (fun tZ ht hW => ⟨⟨(-2), (), rfl, hsp, by rw [ht]; exact hP.sub [] rfl, hD.sub [] (by decide) rfl⟩, hS.F ht⟩) hS.2.2 dX10_field_20
    · skip
      have hP : va_P D vwCl [(g, .inr (10, [.ref kk, .ref nw, .ref im, .ref kp, .ref tx, .ref tr, .ref be, .ref sh, .ref sd, .ref rf, .int 0, .int 1])), (rf, .inl (y 0, 3, .inl (fun _ => 0))), (nw, .inr (4, [.ref kk, .ref nk, .ref nd, .ref ne, .ref nm, .ref nn, .int 0, .int 0, .int 0, .int 0, .int 0])), (nk, .inl (y 0, 6, .inl (fun _ => 0))), (nd, .inr (1, [.ref nl, .ref na, .ref ns, .int 0, .int 0, .int 0])), (nl, .inl (y 0, 6, .inl (fun _ => 0)))] H := hP
      have hD : va_D A [(g, .inr (10, [.ref kk, .ref nw, .ref im, .ref kp, .ref tx, .ref tr, .ref be, .ref sh, .ref sd, .ref rf, .int 0, .int 1])), (rf, .inl (y 0, 3, .inl (fun _ => 0))), (nw, .inr (4, [.ref kk, .ref nk, .ref nd, .ref ne, .ref nm, .ref nn, .int 0, .int 0, .int 0, .int 0, .int 0])), (nk, .inl (y 0, 6, .inl (fun _ => 0))), (nd, .inr (1, [.ref nl, .ref na, .ref ns, .int 0, .int 0, .int 0])), (nl, .inl (y 0, 6, .inl (fun _ => 0)))] := hD
      refine lv_if_ne (tgt := 21) hx hb dX10_field_13 (by decide) (fun h9 => absurd h9 (by decide)) (fun _ => ?_)
      refine lv_aload_n hx hb dX10_field_16 rfl (lv_at hl 0 rfl) ?_
      have hs16 : kw_Split [(g, .inr (10, [.ref kk, .ref nw, .ref im, .ref kp, .ref tx, .ref tr, .ref be, .ref sh, .ref sd, .ref rf, .int 0, .int 1])), (rf, .inl (y 0, 3, .inl (fun _ => 0))), (nw, .inr (4, [.ref kk, .ref nk, .ref nd, .ref ne, .ref nm, .ref nn, .int 0, .int 0, .int 0, .int 0, .int 0])), (nk, .inl (y 0, 6, .inl (fun _ => 0))), (nd, .inr (1, [.ref nl, .ref na, .ref ns, .int 0, .int 0, .int 0])), (nl, .inl (y 0, 6, .inl (fun _ => 0)))] [(g, .inr (10, [.ref kk, .ref nw, .ref im, .ref kp, .ref tx, .ref tr, .ref be, .ref sh, .ref sd, .ref rf, .int 0, .int 1])), (rf, .inl (y 0, 3, .inl (fun _ => 0)))] [(nw, .inr (4, [.ref kk, .ref nk, .ref nd, .ref ne, .ref nm, .ref nn, .int 0, .int 0, .int 0, .int 0, .int 0])), (nk, .inl (y 0, 6, .inl (fun _ => 0))), (nd, .inr (1, [.ref nl, .ref na, .ref ns, .int 0, .int 0, .int 0])), (nl, .inl (y 0, 6, .inl (fun _ => 0)))] [0, 1] [2, 3, 4, 5] := ⟨rfl, rfl, rfl, rfl, rfl, by decide⟩
      refine kw_go_i hs16 hP hD hS hA (va_runV (As := []) (rest := []) ⟨hx, hb, hml, hown, hts⟩ (ct_refuseBad l D y g kk nw im kp tx tr be sh sd rf (fun _ => 0)  _) (cwV 0 hts gX10_field_X10_refuseBad rfl rfl rfl (by decide +kernel) ⟨Nat.le_of_ble_eq_true rfl, Nat.le_of_ble_eq_true rfl⟩) (kw_PreV (ci := 10) (q0 := 0) hs16 hP hD hK hN rfl rfl) rfl rfl hl.1 rfl (lv_room (Nat.le_of_ble_eq_true rfl)) dX10_field_17 ⟨Nat.le_of_ble_eq_true rfl, Nat.le_of_ble_eq_true rfl⟩) (fun r u H locs hq hP hD hS => ?_)
      obtain rfl := hq
      have hP : va_P D vwCl [(nw, .inr (4, [.ref kk, .ref nk, .ref nd, .ref ne, .ref nm, .ref nn, .int 0, .int 0, .int 0, .int 0, .int 0])), (nk, .inl (y 0, 6, .inl (fun _ => 0))), (nd, .inr (1, [.ref nl, .ref na, .ref ns, .int 0, .int 0, .int 0])), (nl, .inl (y 0, 6, .inl (fun _ => 0)))] H := hP
      have hD : va_D A [(nw, .inr (4, [.ref kk, .ref nk, .ref nd, .ref ne, .ref nm, .ref nn, .int 0, .int 0, .int 0, .int 0, .int 0])), (nk, .inl (y 0, 6, .inl (fun _ => 0))), (nd, .inr (1, [.ref nl, .ref na, .ref ns, .int 0, .int 0, .int 0])), (nl, .inl (y 0, 6, .inl (fun _ => 0)))] := hD
      have hsp : ((-2) : Int32) = (sp_field k c) := by
        have gZ1 : ¬ (k : Int32).toInt < (0 : Int32).toInt := fun q => h5 (Int32.lt_iff_toInt_lt.mpr q)
        have lZ1 : (0 : Int32).toInt = 0 := by decide
        have gZ2 : ¬ (6 : Int32).toInt ≤ (k : Int32).toInt := fun q => h6 (Int32.le_iff_toInt_le.mpr q)
        have lZ2 : (6 : Int32).toInt = 6 := by decide
        have gZ3 : ¬ (c : Int32).toInt < (0 : Int32).toInt := fun q => h11 (Int32.lt_iff_toInt_lt.mpr q)
        have gZ4 := Int32.lt_iff_toInt_lt.mp h12
        have lZ3 : (60 : Int32).toInt = 60 := by decide
        unfold sp_field; first | rfl | decide | exact (if_neg (by omega)).symm | exact (if_pos (by omega)).symm | exact ((if_pos (by omega)).trans (if_neg (by omega))).symm | exact ((if_pos (by omega)).trans (if_pos (by omega))).symm | exact ((if_neg (by omega)).trans (if_pos (by omega))).symm | exact ((if_neg (by omega)).trans (if_neg (by omega))).symm
      exact W.iret (v := (-2)) hx hb hr (fun tZ ht hW => ⟨⟨(-2), (), rfl, hsp, by rw [ht]; exact hP.sub [] rfl, hD.sub [] (by decide) rfl⟩, hS.F ht⟩) hS.2.2 dX10_field_20
    · skip
      have hP : va_P D vwCl [(g, .inr (10, [.ref kk, .ref nw, .ref im, .ref kp, .ref tx, .ref tr, .ref be, .ref sh, .ref sd, .ref rf, .int 0, .int 1])), (rf, .inl (y 0, 3, .inl (fun _ => 0))), (nw, .inr (4, [.ref kk, .ref nk, .ref nd, .ref ne, .ref nm, .ref nn, .int 0, .int 0, .int 0, .int 0, .int 0])), (nk, .inl (y 0, 6, .inl (fun _ => 0))), (nd, .inr (1, [.ref nl, .ref na, .ref ns, .int 0, .int 0, .int 0])), (nl, .inl (y 0, 6, .inl (fun _ => 0)))] H := hP
      have hD : va_D A [(g, .inr (10, [.ref kk, .ref nw, .ref im, .ref kp, .ref tx, .ref tr, .ref be, .ref sh, .ref sd, .ref rf, .int 0, .int 1])), (rf, .inl (y 0, 3, .inl (fun _ => 0))), (nw, .inr (4, [.ref kk, .ref nk, .ref nd, .ref ne, .ref nm, .ref nn, .int 0, .int 0, .int 0, .int 0, .int 0])), (nk, .inl (y 0, 6, .inl (fun _ => 0))), (nd, .inr (1, [.ref nl, .ref na, .ref ns, .int 0, .int 0, .int 0])), (nl, .inl (y 0, 6, .inl (fun _ => 0)))] := hD
      refine lv_if_ne (tgt := 21) hx hb dX10_field_13 (by decide) (fun _ => ?_) (fun h9 => absurd h9 (by decide))
      refine lv_aload_n hx hb dX10_field_21 rfl (lv_at hl 0 rfl) ?_
      refine va_get (D := D) (ci := 10) (v := .ref nw) (C := RX10) (T := TX10) (N := 12) hx hb hts i10 hown hK hP 0 rfl rfl 1 (by decide) fw1 (fun _ h9 => h9) rfl dX10_field_22 ?_
      refine va_get (D := D) (ci := 4) (v := .int 0) (C := RX4) (T := TX4) (N := 11) hx hb hts i4 hown hK hP 2 rfl rfl 6 (by decide) fw2 (fun _ h9 => h9) rfl dX10_field_25 ?_
      refine lv_bipush (v := 6) hx hb dX10_field_28 (by decide) ?_
      refine lv_icmp_lt (tgt := 38) hx hb dX10_field_30 (by decide) (fun _ => ?_) (fun h9 => absurd h9 (by decide))
      refine lv_aload_n hx hb dX10_field_38 rfl (lv_at hl 0 rfl) ?_
      refine va_get (D := D) (ci := 10) (v := .ref nw) (C := RX10) (T := TX10) (N := 12) hx hb hts i10 hown hK hP 0 rfl rfl 1 (by decide) fw1 (fun _ h9 => h9) rfl dX10_field_39 ?_
      refine lv_iload_n hx hb dX10_field_42 rfl (lv_at hl 1 rfl) ?_
      refine lv_iload_n hx hb dX10_field_43 rfl (lv_at hl 2 rfl) ?_
      have hs17 : kw_Split [(g, .inr (10, [.ref kk, .ref nw, .ref im, .ref kp, .ref tx, .ref tr, .ref be, .ref sh, .ref sd, .ref rf, .int 0, .int 1])), (rf, .inl (y 0, 3, .inl (fun _ => 0))), (nw, .inr (4, [.ref kk, .ref nk, .ref nd, .ref ne, .ref nm, .ref nn, .int 0, .int 0, .int 0, .int 0, .int 0])), (nk, .inl (y 0, 6, .inl (fun _ => 0))), (nd, .inr (1, [.ref nl, .ref na, .ref ns, .int 0, .int 0, .int 0])), (nl, .inl (y 0, 6, .inl (fun _ => 0)))] [(nw, .inr (4, [.ref kk, .ref nk, .ref nd, .ref ne, .ref nm, .ref nn, .int 0, .int 0, .int 0, .int 0, .int 0])), (nk, .inl (y 0, 6, .inl (fun _ => 0))), (nd, .inr (1, [.ref nl, .ref na, .ref ns, .int 0, .int 0, .int 0])), (nl, .inl (y 0, 6, .inl (fun _ => 0)))] [(g, .inr (10, [.ref kk, .ref nw, .ref im, .ref kp, .ref tx, .ref tr, .ref be, .ref sh, .ref sd, .ref rf, .int 0, .int 1])), (rf, .inl (y 0, 3, .inl (fun _ => 0)))] [2, 3, 4, 5] [0, 1] := ⟨rfl, rfl, rfl, rfl, rfl, by decide⟩
      refine kw_go_i hs17 hP hD hS hA (va_runV (As := [.int k, .int c]) (rest := []) ⟨hx, hb, hml, hown, hts⟩ (ct_addField l D y nw kk nk nd ne nm nn nl na ns k c 0 0 0 0 0 0 0  _) (cwV 2 hts gX10_field_X4_addField rfl rfl rfl (by decide +kernel) ⟨Nat.le_of_ble_eq_true rfl, Nat.le_of_ble_eq_true rfl⟩) (kw_PreV (ci := 4) (q0 := 2) hs17 hP hD hK hN rfl rfl) rfl rfl hl.1 rfl (lv_room (Nat.le_of_ble_eq_true rfl)) dX10_field_44 ⟨Nat.le_of_ble_eq_true rfl, Nat.le_of_ble_eq_true rfl⟩) (fun r u H locs hq hP hD hS => ?_)
      obtain rfl := hq
      have hP : va_P D vwCl [(g, .inr (10, [.ref kk, .ref nw, .ref im, .ref kp, .ref tx, .ref tr, .ref be, .ref sh, .ref sd, .ref rf, .int 0, .int 1])), (rf, .inl (y 0, 3, .inl (fun _ => 0)))] H := hP
      have hD : va_D A [(g, .inr (10, [.ref kk, .ref nw, .ref im, .ref kp, .ref tx, .ref tr, .ref be, .ref sh, .ref sd, .ref rf, .int 0, .int 1])), (rf, .inl (y 0, 3, .inl (fun _ => 0)))] := hD
      have hsp : (0 : Int32) = (sp_field k c) := by
        have gZ1 : ¬ (k : Int32).toInt < (0 : Int32).toInt := fun q => h5 (Int32.lt_iff_toInt_lt.mpr q)
        have lZ1 : (0 : Int32).toInt = 0 := by decide
        have gZ2 : ¬ (6 : Int32).toInt ≤ (k : Int32).toInt := fun q => h6 (Int32.le_iff_toInt_le.mpr q)
        have lZ2 : (6 : Int32).toInt = 6 := by decide
        have gZ3 : ¬ (c : Int32).toInt < (0 : Int32).toInt := fun q => h13 (Int32.lt_iff_toInt_lt.mpr q)
        have gZ4 : ¬ (60 : Int32).toInt < (c : Int32).toInt := fun q => h14 (Int32.lt_iff_toInt_lt.mpr q)
        have lZ3 : (60 : Int32).toInt = 60 := by decide
        unfold sp_field; first | rfl | decide | exact (if_neg (by omega)).symm | exact (if_pos (by omega)).symm | exact ((if_pos (by omega)).trans (if_neg (by omega))).symm | exact ((if_pos (by omega)).trans (if_pos (by omega))).symm | exact ((if_neg (by omega)).trans (if_pos (by omega))).symm | exact ((if_neg (by omega)).trans (if_neg (by omega))).symm
      exact W.iret (v := 0) hx hb hr (fun tZ ht hW => ⟨⟨0, (), rfl, hsp, by rw [ht]; exact hP.sub [] rfl, hD.sub [] (by decide) rfl⟩, hS.F ht⟩) hS.2.2 dX10_field_47

set_option maxHeartbeats 4000000 in
set_option maxRecDepth 100000 in
theorem cp_gleaner (l : Launch) (D : va_G) (y : Nat → ClassId) (g : Nat) (kk : Nat) (nw : Nat) (im : Nat) (kp : Nat) (tx : Nat) (tr : Nat) (be : Nat) (sh : Nat) (sd : Nat) (rf : Nat) (nk : Nat) (nd : Nat) (ne : Nat) (nm : Nat) (nn : Nat) (x : Int32) : kw_Mi l yX10_gleaner wsX10_gleaner ({ frames := 3, cells := 0, slots := 0, locals := 82 }) D y [.ref g, .int x] [(g, .inr (10, [.ref kk, .ref nw, .ref im, .ref kp, .ref tx, .ref tr, .ref be, .ref sh, .ref sd, .ref rf, .int 0, .int 1])), (rf, .inl (y 0, 3, .inl (fun _ => 0))), (nw, .inr (4, [.ref kk, .ref nk, .ref nd, .ref ne, .ref nm, .ref nn, .int 0, .int 0, .int 0, .int 0, .int 0]))] (fun (r : Int32) (u : Unit) => r = (-2)) (fun _ => []) 0 0 := by
  refine kw_Mi.of (cc := cX10_gleaner) (maxL := 2) (ret := (some .int)) (by decide) rfl ?_
  intro pZ eZ s mZ beZ meZ cZ A hE
  obtain ⟨hx, hb, hr, hml, hts, hown, hlocks, hin, hA, hP, hD, hK, hN⟩ := hE
  have hS : va_S A s.heap s.heap [] := va_S.rf
  have hl := lv_entry ([.ref g, .int x]) (n := 2) (Nat.le_of_ble_eq_true rfl)
  rw [lg_entry_eq]
  generalize (lg_sl ([.ref g, .int x]) ++ List.replicate (2 - (lg_sl ([.ref g, .int x])).length) Slot.unset).toArray = ls at hl ⊢
  have hl : lv_has ls 2 [(0, .ref g), (1, .int x)] := hl
  have fw1 := hts (.fieldLink RX10 36 "GleanDusk" "now" "LGleanDusk$Parish;") (List.mem_of_getElem? (i := 1) rfl)
  have i10 : ∀ w ∈ wsX100, w ∈ wsX10_gleaner := fun _ h => List.mem_cons_of_mem _ (List.mem_append_left _ (List.mem_append_left _ (List.mem_append_right _ h)))
  refine lv_aload_n hx hb dX10_gleaner_0 rfl (lv_at hl 0 rfl) ?_
  refine va_get (D := D) (ci := 10) (v := .ref nw) (C := RX10) (T := TX10) (N := 12) hx hb hts i10 hown hK hP 0 rfl rfl 1 (by decide) fw1 (fun _ h9 => h9) rfl dX10_gleaner_1 ?_
  refine lv_iload_n hx hb dX10_gleaner_4 rfl (lv_at hl 1 rfl) ?_
  have hs1 : kw_Split [(g, .inr (10, [.ref kk, .ref nw, .ref im, .ref kp, .ref tx, .ref tr, .ref be, .ref sh, .ref sd, .ref rf, .int 0, .int 1])), (rf, .inl (y 0, 3, .inl (fun _ => 0))), (nw, .inr (4, [.ref kk, .ref nk, .ref nd, .ref ne, .ref nm, .ref nn, .int 0, .int 0, .int 0, .int 0, .int 0]))] [(nw, .inr (4, [.ref kk, .ref nk, .ref nd, .ref ne, .ref nm, .ref nn, .int 0, .int 0, .int 0, .int 0, .int 0]))] [(g, .inr (10, [.ref kk, .ref nw, .ref im, .ref kp, .ref tx, .ref tr, .ref be, .ref sh, .ref sd, .ref rf, .int 0, .int 1])), (rf, .inl (y 0, 3, .inl (fun _ => 0)))] [2] [0, 1] := ⟨rfl, rfl, rfl, rfl, rfl, by decide⟩
  refine kw_go_i hs1 hP hD hS hA (va_runV (As := [.int x]) (rest := []) ⟨hx, hb, hml, hown, hts⟩ (ct_hasField l D y nw kk nk nd ne nm nn 0 0 0 0 0 x  _) (cwV 1 hts gX10_gleaner_X4_hasField rfl rfl rfl (by decide +kernel) ⟨Nat.le_of_ble_eq_true rfl, Nat.le_of_ble_eq_true rfl⟩) (kw_PreV (ci := 4) (q0 := 2) hs1 hP hD hK hN rfl rfl) rfl rfl hl.1 rfl (lv_room (Nat.le_of_ble_eq_true rfl)) dX10_gleaner_5 ⟨Nat.le_of_ble_eq_true rfl, Nat.le_of_ble_eq_true rfl⟩) (fun r u H locs hq hP hD hS => ?_)
  rcases hq with ⟨h2, rfl⟩ | ⟨h3, h4, rfl⟩ | ⟨h5, h6, rfl⟩
  · skip
    have hP : va_P D vwCl [(g, .inr (10, [.ref kk, .ref nw, .ref im, .ref kp, .ref tx, .ref tr, .ref be, .ref sh, .ref sd, .ref rf, .int 0, .int 1])), (rf, .inl (y 0, 3, .inl (fun _ => 0))), (nw, .inr (4, [.ref kk, .ref nk, .ref nd, .ref ne, .ref nm, .ref nn, .int 0, .int 0, .int 0, .int 0, .int 0]))] H := hP
    have hD : va_D A [(g, .inr (10, [.ref kk, .ref nw, .ref im, .ref kp, .ref tx, .ref tr, .ref be, .ref sh, .ref sd, .ref rf, .int 0, .int 1])), (rf, .inl (y 0, 3, .inl (fun _ => 0))), (nw, .inr (4, [.ref kk, .ref nk, .ref nd, .ref ne, .ref nm, .ref nn, .int 0, .int 0, .int 0, .int 0, .int 0]))] := hD
    refine lv_if_ne (tgt := 16) hx hb dX10_gleaner_8 (by decide) (fun h9 => absurd h9 (by decide)) (fun _ => ?_)
    refine lv_aload_n hx hb dX10_gleaner_11 rfl (lv_at hl 0 rfl) ?_
    have hs7 : kw_Split [(g, .inr (10, [.ref kk, .ref nw, .ref im, .ref kp, .ref tx, .ref tr, .ref be, .ref sh, .ref sd, .ref rf, .int 0, .int 1])), (rf, .inl (y 0, 3, .inl (fun _ => 0))), (nw, .inr (4, [.ref kk, .ref nk, .ref nd, .ref ne, .ref nm, .ref nn, .int 0, .int 0, .int 0, .int 0, .int 0]))] [(g, .inr (10, [.ref kk, .ref nw, .ref im, .ref kp, .ref tx, .ref tr, .ref be, .ref sh, .ref sd, .ref rf, .int 0, .int 1])), (rf, .inl (y 0, 3, .inl (fun _ => 0)))] [(nw, .inr (4, [.ref kk, .ref nk, .ref nd, .ref ne, .ref nm, .ref nn, .int 0, .int 0, .int 0, .int 0, .int 0]))] [0, 1] [2] := ⟨rfl, rfl, rfl, rfl, rfl, by decide⟩
    refine kw_go_i hs7 hP hD hS hA (va_runV (As := []) (rest := []) ⟨hx, hb, hml, hown, hts⟩ (ct_refuseBad l D y g kk nw im kp tx tr be sh sd rf (fun _ => 0)  _) (cwV 0 hts gX10_gleaner_X10_refuseBad rfl rfl rfl (by decide +kernel) ⟨Nat.le_of_ble_eq_true rfl, Nat.le_of_ble_eq_true rfl⟩) (kw_PreV (ci := 10) (q0 := 0) hs7 hP hD hK hN rfl rfl) rfl rfl hl.1 rfl (lv_room (Nat.le_of_ble_eq_true rfl)) dX10_gleaner_12 ⟨Nat.le_of_ble_eq_true rfl, Nat.le_of_ble_eq_true rfl⟩) (fun r u H locs hq hP hD hS => ?_)
    obtain rfl := hq
    have hP : va_P D vwCl [(nw, .inr (4, [.ref kk, .ref nk, .ref nd, .ref ne, .ref nm, .ref nn, .int 0, .int 0, .int 0, .int 0, .int 0]))] H := hP
    have hD : va_D A [(nw, .inr (4, [.ref kk, .ref nk, .ref nd, .ref ne, .ref nm, .ref nn, .int 0, .int 0, .int 0, .int 0, .int 0]))] := hD
    have hsp : ((-2) : Int32) = (-2) := by
      have gZ1 := Int32.lt_iff_toInt_lt.mp h2
      have lZ1 : (0 : Int32).toInt = 0 := by decide
      rfl
    exact W.iret (v := (-2)) hx hb hr (fun tZ ht hW => ⟨⟨(-2), (), rfl, hsp, by rw [ht]; exact hP.sub [] rfl, hD.sub [] (by decide) rfl⟩, hS.F ht⟩) hS.2.2 dX10_gleaner_15
  · skip
    have hP : va_P D vwCl [(g, .inr (10, [.ref kk, .ref nw, .ref im, .ref kp, .ref tx, .ref tr, .ref be, .ref sh, .ref sd, .ref rf, .int 0, .int 1])), (rf, .inl (y 0, 3, .inl (fun _ => 0))), (nw, .inr (4, [.ref kk, .ref nk, .ref nd, .ref ne, .ref nm, .ref nn, .int 0, .int 0, .int 0, .int 0, .int 0]))] H := hP
    have hD : va_D A [(g, .inr (10, [.ref kk, .ref nw, .ref im, .ref kp, .ref tx, .ref tr, .ref be, .ref sh, .ref sd, .ref rf, .int 0, .int 1])), (rf, .inl (y 0, 3, .inl (fun _ => 0))), (nw, .inr (4, [.ref kk, .ref nk, .ref nd, .ref ne, .ref nm, .ref nn, .int 0, .int 0, .int 0, .int 0, .int 0]))] := hD
    refine lv_if_ne (tgt := 16) hx hb dX10_gleaner_8 (by decide) (fun h9 => absurd h9 (by decide)) (fun _ => ?_)
    refine lv_aload_n hx hb dX10_gleaner_11 rfl (lv_at hl 0 rfl) ?_
    have hs8 : kw_Split [(g, .inr (10, [.ref kk, .ref nw, .ref im, .ref kp, .ref tx, .ref tr, .ref be, .ref sh, .ref sd, .ref rf, .int 0, .int 1])), (rf, .inl (y 0, 3, .inl (fun _ => 0))), (nw, .inr (4, [.ref kk, .ref nk, .ref nd, .ref ne, .ref nm, .ref nn, .int 0, .int 0, .int 0, .int 0, .int 0]))] [(g, .inr (10, [.ref kk, .ref nw, .ref im, .ref kp, .ref tx, .ref tr, .ref be, .ref sh, .ref sd, .ref rf, .int 0, .int 1])), (rf, .inl (y 0, 3, .inl (fun _ => 0)))] [(nw, .inr (4, [.ref kk, .ref nk, .ref nd, .ref ne, .ref nm, .ref nn, .int 0, .int 0, .int 0, .int 0, .int 0]))] [0, 1] [2] := ⟨rfl, rfl, rfl, rfl, rfl, by decide⟩
    refine kw_go_i hs8 hP hD hS hA (va_runV (As := []) (rest := []) ⟨hx, hb, hml, hown, hts⟩ (ct_refuseBad l D y g kk nw im kp tx tr be sh sd rf (fun _ => 0)  _) (cwV 0 hts gX10_gleaner_X10_refuseBad rfl rfl rfl (by decide +kernel) ⟨Nat.le_of_ble_eq_true rfl, Nat.le_of_ble_eq_true rfl⟩) (kw_PreV (ci := 10) (q0 := 0) hs8 hP hD hK hN rfl rfl) rfl rfl hl.1 rfl (lv_room (Nat.le_of_ble_eq_true rfl)) dX10_gleaner_12 ⟨Nat.le_of_ble_eq_true rfl, Nat.le_of_ble_eq_true rfl⟩) (fun r u H locs hq hP hD hS => ?_)
    obtain rfl := hq
    have hP : va_P D vwCl [(nw, .inr (4, [.ref kk, .ref nk, .ref nd, .ref ne, .ref nm, .ref nn, .int 0, .int 0, .int 0, .int 0, .int 0]))] H := hP
    have hD : va_D A [(nw, .inr (4, [.ref kk, .ref nk, .ref nd, .ref ne, .ref nm, .ref nn, .int 0, .int 0, .int 0, .int 0, .int 0]))] := hD
    have hsp : ((-2) : Int32) = (-2) := by
      have gZ1 : ¬ (x : Int32).toInt < (0 : Int32).toInt := fun q => h3 (Int32.lt_iff_toInt_lt.mpr q)
      have lZ1 : (0 : Int32).toInt = 0 := by decide
      have gZ2 := Int32.le_iff_toInt_le.mp h4
      rfl
    exact W.iret (v := (-2)) hx hb hr (fun tZ ht hW => ⟨⟨(-2), (), rfl, hsp, by rw [ht]; exact hP.sub [] rfl, hD.sub [] (by decide) rfl⟩, hS.F ht⟩) hS.2.2 dX10_gleaner_15
  · skip
    exact (kw_x1 h5 h6).elim

set_option maxHeartbeats 4000000 in
set_option maxRecDepth 100000 in
theorem cp_type (l : Launch) (D : va_G) (y : Nat → ClassId) (g : Nat) (kk : Nat) (nw : Nat) (im : Nat) (kp : Nat) (tx : Nat) (tr : Nat) (be : Nat) (sh : Nat) (sd : Nat) (rf : Nat) (bys : Nat) (wo : Nat) (fs : Nat) (sc : Nat) (c : Int32) : kw_Mi l yX10_type wsX10_type ({ frames := 2, cells := 0, slots := 0, locals := 61 }) D y [.ref g, .int c] [(g, .inr (10, [.ref kk, .ref nw, .ref im, .ref kp, .ref tx, .ref tr, .ref be, .ref sh, .ref sd, .ref rf, .int 0, .int 1])), (rf, .inl (y 0, 3, .inl (fun _ => 0))), (tx, .inr (7, [.ref bys, .int 0, .int 0, .int 0, .int 0, .int 0, .ref wo, .ref fs, .ref sc, .int 0, .int 0, .int 0])), (bys, .inl (y 1, 150, .inl (fun _ => 0)))] (fun (r : Int32) (u : Unit) => r = (sp_type c)) (fun _ => []) 0 0 := by
  refine kw_Mi.of (cc := cX10_type) (maxL := 2) (ret := (some .int)) (by decide) rfl ?_
  intro pZ eZ s mZ beZ meZ cZ A hE
  obtain ⟨hx, hb, hr, hml, hts, hown, hlocks, hin, hA, hP, hD, hK, hN⟩ := hE
  have hS : va_S A s.heap s.heap [] := va_S.rf
  have hl := lv_entry ([.ref g, .int c]) (n := 2) (Nat.le_of_ble_eq_true rfl)
  rw [lg_entry_eq]
  generalize (lg_sl ([.ref g, .int c]) ++ List.replicate (2 - (lg_sl ([.ref g, .int c])).length) Slot.unset).toArray = ls at hl ⊢
  have hl : lv_has ls 2 [(0, .ref g), (1, .int c)] := hl
  have fw1 := hts (.fieldLink RX10 51 "GleanDusk" "text" "LGleanDusk$Text;") (List.mem_of_getElem? (i := 1) rfl)
  have fw2 := hts (.fieldLink RX10 122 "GleanDusk$Text" "length" "I") (List.mem_of_getElem? (i := 2) rfl)
  have i10 : ∀ w ∈ wsX100, w ∈ wsX10_type := fun _ h => List.mem_cons_of_mem _ (List.mem_append_left _ (List.mem_append_right _ h))
  have i7 : ∀ w ∈ wsX70, w ∈ wsX10_type := fun _ h => List.mem_cons_of_mem _ (List.mem_append_right _ h)
  refine lv_iload_n hx hb dX10_type_0 rfl (lv_at hl 1 rfl) ?_
  refine lv_sipush (v := 128) hx hb dX10_type_1 (by decide) ?_
  have hs1 : kw_Split [(g, .inr (10, [.ref kk, .ref nw, .ref im, .ref kp, .ref tx, .ref tr, .ref be, .ref sh, .ref sd, .ref rf, .int 0, .int 1])), (rf, .inl (y 0, 3, .inl (fun _ => 0))), (tx, .inr (7, [.ref bys, .int 0, .int 0, .int 0, .int 0, .int 0, .ref wo, .ref fs, .ref sc, .int 0, .int 0, .int 0])), (bys, .inl (y 1, 150, .inl (fun _ => 0)))] [] [(g, .inr (10, [.ref kk, .ref nw, .ref im, .ref kp, .ref tx, .ref tr, .ref be, .ref sh, .ref sd, .ref rf, .int 0, .int 1])), (rf, .inl (y 0, 3, .inl (fun _ => 0))), (tx, .inr (7, [.ref bys, .int 0, .int 0, .int 0, .int 0, .int 0, .ref wo, .ref fs, .ref sc, .int 0, .int 0, .int 0])), (bys, .inl (y 1, 150, .inl (fun _ => 0)))] [] [0, 1, 2, 3] := ⟨rfl, rfl, rfl, rfl, rfl, by decide⟩
  refine kw_go_i hs1 hP hD hS hA (va_runS (As := [.int c, .int 128]) (rest := []) ⟨hx, hb, hml, hown, hts⟩ (ct_isBelow l D y c 128  _) (va_cwS 2 hts gX10_type_X10_isBelow rfl rfl rfl (by decide +kernel) ⟨Nat.le_of_ble_eq_true rfl, Nat.le_of_ble_eq_true rfl⟩) (kw_PreS hs1 hP hD hK hN) rfl rfl hl.1 rfl (lv_room (Nat.le_of_ble_eq_true rfl)) dX10_type_4 ⟨Nat.le_of_ble_eq_true rfl, Nat.le_of_ble_eq_true rfl⟩) (fun r u H locs hq hP hD hS => ?_)
  rcases hq with ⟨h2, rfl⟩ | ⟨h3, h4, rfl⟩ | ⟨h5, h6, rfl⟩
  · skip
    have hP : va_P D vwCl [(g, .inr (10, [.ref kk, .ref nw, .ref im, .ref kp, .ref tx, .ref tr, .ref be, .ref sh, .ref sd, .ref rf, .int 0, .int 1])), (rf, .inl (y 0, 3, .inl (fun _ => 0))), (tx, .inr (7, [.ref bys, .int 0, .int 0, .int 0, .int 0, .int 0, .ref wo, .ref fs, .ref sc, .int 0, .int 0, .int 0])), (bys, .inl (y 1, 150, .inl (fun _ => 0)))] H := hP
    have hD : va_D A [(g, .inr (10, [.ref kk, .ref nw, .ref im, .ref kp, .ref tx, .ref tr, .ref be, .ref sh, .ref sd, .ref rf, .int 0, .int 1])), (rf, .inl (y 0, 3, .inl (fun _ => 0))), (tx, .inr (7, [.ref bys, .int 0, .int 0, .int 0, .int 0, .int 0, .ref wo, .ref fs, .ref sc, .int 0, .int 0, .int 0])), (bys, .inl (y 1, 150, .inl (fun _ => 0)))] := hD
    refine lv_if_ne (tgt := 15) hx hb dX10_type_7 (by decide) (fun h9 => absurd h9 (by decide)) (fun _ => ?_)
    refine lv_aload_n hx hb dX10_type_10 rfl (lv_at hl 0 rfl) ?_
    have hs7 : kw_Split [(g, .inr (10, [.ref kk, .ref nw, .ref im, .ref kp, .ref tx, .ref tr, .ref be, .ref sh, .ref sd, .ref rf, .int 0, .int 1])), (rf, .inl (y 0, 3, .inl (fun _ => 0))), (tx, .inr (7, [.ref bys, .int 0, .int 0, .int 0, .int 0, .int 0, .ref wo, .ref fs, .ref sc, .int 0, .int 0, .int 0])), (bys, .inl (y 1, 150, .inl (fun _ => 0)))] [(g, .inr (10, [.ref kk, .ref nw, .ref im, .ref kp, .ref tx, .ref tr, .ref be, .ref sh, .ref sd, .ref rf, .int 0, .int 1])), (rf, .inl (y 0, 3, .inl (fun _ => 0)))] [(tx, .inr (7, [.ref bys, .int 0, .int 0, .int 0, .int 0, .int 0, .ref wo, .ref fs, .ref sc, .int 0, .int 0, .int 0])), (bys, .inl (y 1, 150, .inl (fun _ => 0)))] [0, 1] [2, 3] := ⟨rfl, rfl, rfl, rfl, rfl, by decide⟩
    refine kw_go_i hs7 hP hD hS hA (va_runV (As := []) (rest := []) ⟨hx, hb, hml, hown, hts⟩ (ct_refuseBad l D y g kk nw im kp tx tr be sh sd rf (fun _ => 0)  _) (cwV 0 hts gX10_type_X10_refuseBad rfl rfl rfl (by decide +kernel) ⟨Nat.le_of_ble_eq_true rfl, Nat.le_of_ble_eq_true rfl⟩) (kw_PreV (ci := 10) (q0 := 0) hs7 hP hD hK hN rfl rfl) rfl rfl hl.1 rfl (lv_room (Nat.le_of_ble_eq_true rfl)) dX10_type_11 ⟨Nat.le_of_ble_eq_true rfl, Nat.le_of_ble_eq_true rfl⟩) (fun r u H locs hq hP hD hS => ?_)
    obtain rfl := hq
    have hP : va_P D vwCl [(tx, .inr (7, [.ref bys, .int 0, .int 0, .int 0, .int 0, .int 0, .ref wo, .ref fs, .ref sc, .int 0, .int 0, .int 0])), (bys, .inl (y 1, 150, .inl (fun _ => 0)))] H := hP
    have hD : va_D A [(tx, .inr (7, [.ref bys, .int 0, .int 0, .int 0, .int 0, .int 0, .ref wo, .ref fs, .ref sc, .int 0, .int 0, .int 0])), (bys, .inl (y 1, 150, .inl (fun _ => 0)))] := hD
    have hsp : ((-2) : Int32) = (sp_type c) := by
      have gZ1 := Int32.lt_iff_toInt_lt.mp h2
      have lZ1 : (0 : Int32).toInt = 0 := by decide
      unfold sp_type; first | rfl | decide | exact (if_neg (by omega)).symm | exact (if_pos (by omega)).symm | exact ((if_pos (by omega)).trans (if_neg (by omega))).symm | exact ((if_pos (by omega)).trans (if_pos (by omega))).symm | exact ((if_neg (by omega)).trans (if_pos (by omega))).symm | exact ((if_neg (by omega)).trans (if_neg (by omega))).symm
    exact W.iret (v := (-2)) hx hb hr (fun tZ ht hW => ⟨⟨(-2), (), rfl, hsp, by rw [ht]; exact hP.sub [] rfl, hD.sub [] (by decide) rfl⟩, hS.F ht⟩) hS.2.2 dX10_type_14
  · skip
    have hP : va_P D vwCl [(g, .inr (10, [.ref kk, .ref nw, .ref im, .ref kp, .ref tx, .ref tr, .ref be, .ref sh, .ref sd, .ref rf, .int 0, .int 1])), (rf, .inl (y 0, 3, .inl (fun _ => 0))), (tx, .inr (7, [.ref bys, .int 0, .int 0, .int 0, .int 0, .int 0, .ref wo, .ref fs, .ref sc, .int 0, .int 0, .int 0])), (bys, .inl (y 1, 150, .inl (fun _ => 0)))] H := hP
    have hD : va_D A [(g, .inr (10, [.ref kk, .ref nw, .ref im, .ref kp, .ref tx, .ref tr, .ref be, .ref sh, .ref sd, .ref rf, .int 0, .int 1])), (rf, .inl (y 0, 3, .inl (fun _ => 0))), (tx, .inr (7, [.ref bys, .int 0, .int 0, .int 0, .int 0, .int 0, .ref wo, .ref fs, .ref sc, .int 0, .int 0, .int 0])), (bys, .inl (y 1, 150, .inl (fun _ => 0)))] := hD
    refine lv_if_ne (tgt := 15) hx hb dX10_type_7 (by decide) (fun h9 => absurd h9 (by decide)) (fun _ => ?_)
    refine lv_aload_n hx hb dX10_type_10 rfl (lv_at hl 0 rfl) ?_
    have hs8 : kw_Split [(g, .inr (10, [.ref kk, .ref nw, .ref im, .ref kp, .ref tx, .ref tr, .ref be, .ref sh, .ref sd, .ref rf, .int 0, .int 1])), (rf, .inl (y 0, 3, .inl (fun _ => 0))), (tx, .inr (7, [.ref bys, .int 0, .int 0, .int 0, .int 0, .int 0, .ref wo, .ref fs, .ref sc, .int 0, .int 0, .int 0])), (bys, .inl (y 1, 150, .inl (fun _ => 0)))] [(g, .inr (10, [.ref kk, .ref nw, .ref im, .ref kp, .ref tx, .ref tr, .ref be, .ref sh, .ref sd, .ref rf, .int 0, .int 1])), (rf, .inl (y 0, 3, .inl (fun _ => 0)))] [(tx, .inr (7, [.ref bys, .int 0, .int 0, .int 0, .int 0, .int 0, .ref wo, .ref fs, .ref sc, .int 0, .int 0, .int 0])), (bys, .inl (y 1, 150, .inl (fun _ => 0)))] [0, 1] [2, 3] := ⟨rfl, rfl, rfl, rfl, rfl, by decide⟩
    refine kw_go_i hs8 hP hD hS hA (va_runV (As := []) (rest := []) ⟨hx, hb, hml, hown, hts⟩ (ct_refuseBad l D y g kk nw im kp tx tr be sh sd rf (fun _ => 0)  _) (cwV 0 hts gX10_type_X10_refuseBad rfl rfl rfl (by decide +kernel) ⟨Nat.le_of_ble_eq_true rfl, Nat.le_of_ble_eq_true rfl⟩) (kw_PreV (ci := 10) (q0 := 0) hs8 hP hD hK hN rfl rfl) rfl rfl hl.1 rfl (lv_room (Nat.le_of_ble_eq_true rfl)) dX10_type_11 ⟨Nat.le_of_ble_eq_true rfl, Nat.le_of_ble_eq_true rfl⟩) (fun r u H locs hq hP hD hS => ?_)
    obtain rfl := hq
    have hP : va_P D vwCl [(tx, .inr (7, [.ref bys, .int 0, .int 0, .int 0, .int 0, .int 0, .ref wo, .ref fs, .ref sc, .int 0, .int 0, .int 0])), (bys, .inl (y 1, 150, .inl (fun _ => 0)))] H := hP
    have hD : va_D A [(tx, .inr (7, [.ref bys, .int 0, .int 0, .int 0, .int 0, .int 0, .ref wo, .ref fs, .ref sc, .int 0, .int 0, .int 0])), (bys, .inl (y 1, 150, .inl (fun _ => 0)))] := hD
    have hsp : ((-2) : Int32) = (sp_type c) := by
      have gZ1 : ¬ (c : Int32).toInt < (0 : Int32).toInt := fun q => h3 (Int32.lt_iff_toInt_lt.mpr q)
      have lZ1 : (0 : Int32).toInt = 0 := by decide
      have gZ2 := Int32.le_iff_toInt_le.mp h4
      have lZ2 : (128 : Int32).toInt = 128 := by decide
      unfold sp_type; first | rfl | decide | exact (if_neg (by omega)).symm | exact (if_pos (by omega)).symm | exact ((if_pos (by omega)).trans (if_neg (by omega))).symm | exact ((if_pos (by omega)).trans (if_pos (by omega))).symm | exact ((if_neg (by omega)).trans (if_pos (by omega))).symm | exact ((if_neg (by omega)).trans (if_neg (by omega))).symm
    exact W.iret (v := (-2)) hx hb hr (fun tZ ht hW => ⟨⟨(-2), (), rfl, hsp, by rw [ht]; exact hP.sub [] rfl, hD.sub [] (by decide) rfl⟩, hS.F ht⟩) hS.2.2 dX10_type_14
  · skip
    have hP : va_P D vwCl [(g, .inr (10, [.ref kk, .ref nw, .ref im, .ref kp, .ref tx, .ref tr, .ref be, .ref sh, .ref sd, .ref rf, .int 0, .int 1])), (rf, .inl (y 0, 3, .inl (fun _ => 0))), (tx, .inr (7, [.ref bys, .int 0, .int 0, .int 0, .int 0, .int 0, .ref wo, .ref fs, .ref sc, .int 0, .int 0, .int 0])), (bys, .inl (y 1, 150, .inl (fun _ => 0)))] H := hP
    have hD : va_D A [(g, .inr (10, [.ref kk, .ref nw, .ref im, .ref kp, .ref tx, .ref tr, .ref be, .ref sh, .ref sd, .ref rf, .int 0, .int 1])), (rf, .inl (y 0, 3, .inl (fun _ => 0))), (tx, .inr (7, [.ref bys, .int 0, .int 0, .int 0, .int 0, .int 0, .ref wo, .ref fs, .ref sc, .int 0, .int 0, .int 0])), (bys, .inl (y 1, 150, .inl (fun _ => 0)))] := hD
    refine lv_if_ne (tgt := 15) hx hb dX10_type_7 (by decide) (fun _ => ?_) (fun h9 => absurd h9 (by decide))
    refine lv_aload_n hx hb dX10_type_15 rfl (lv_at hl 0 rfl) ?_
    refine va_get (D := D) (ci := 10) (v := .ref tx) (C := RX10) (T := TX10) (N := 12) hx hb hts i10 hown hK hP 0 rfl rfl 4 (by decide) fw1 (fun _ h9 => h9) rfl dX10_type_16 ?_
    refine va_get (D := D) (ci := 7) (v := .int 0) (C := RX7) (T := TX7) (N := 12) hx hb hts i7 hown hK hP 2 rfl rfl 1 (by decide) fw2 (fun _ h9 => h9) rfl dX10_type_19 ?_
    refine lv_sipush (v := 150) hx hb dX10_type_22 (by decide) ?_
    refine lv_icmp_lt (tgt := 33) hx hb dX10_type_25 (by decide) (fun _ => ?_) (fun h9 => absurd h9 (by decide))
    refine lv_aload_n hx hb dX10_type_33 rfl (lv_at hl 0 rfl) ?_
    refine va_get (D := D) (ci := 10) (v := .ref tx) (C := RX10) (T := TX10) (N := 12) hx hb hts i10 hown hK hP 0 rfl rfl 4 (by decide) fw1 (fun _ h9 => h9) rfl dX10_type_34 ?_
    refine lv_iload_n hx hb dX10_type_37 rfl (lv_at hl 1 rfl) ?_
    have hs9 : kw_Split [(g, .inr (10, [.ref kk, .ref nw, .ref im, .ref kp, .ref tx, .ref tr, .ref be, .ref sh, .ref sd, .ref rf, .int 0, .int 1])), (rf, .inl (y 0, 3, .inl (fun _ => 0))), (tx, .inr (7, [.ref bys, .int 0, .int 0, .int 0, .int 0, .int 0, .ref wo, .ref fs, .ref sc, .int 0, .int 0, .int 0])), (bys, .inl (y 1, 150, .inl (fun _ => 0)))] [(tx, .inr (7, [.ref bys, .int 0, .int 0, .int 0, .int 0, .int 0, .ref wo, .ref fs, .ref sc, .int 0, .int 0, .int 0])), (bys, .inl (y 1, 150, .inl (fun _ => 0)))] [(g, .inr (10, [.ref kk, .ref nw, .ref im, .ref kp, .ref tx, .ref tr, .ref be, .ref sh, .ref sd, .ref rf, .int 0, .int 1])), (rf, .inl (y 0, 3, .inl (fun _ => 0)))] [2, 3] [0, 1] := ⟨rfl, rfl, rfl, rfl, rfl, by decide⟩
    refine kw_go_i hs9 hP hD hS hA (va_runV (As := [.int c]) (rest := []) ⟨hx, hb, hml, hown, hts⟩ (ct_append l D y tx bys wo fs sc c  _) (cwV 1 hts gX10_type_X7_append rfl rfl rfl (by decide +kernel) ⟨Nat.le_of_ble_eq_true rfl, Nat.le_of_ble_eq_true rfl⟩) (kw_PreV (ci := 7) (q0 := 2) hs9 hP hD hK hN rfl rfl) rfl rfl hl.1 rfl (lv_room (Nat.le_of_ble_eq_true rfl)) dX10_type_38 ⟨Nat.le_of_ble_eq_true rfl, Nat.le_of_ble_eq_true rfl⟩) (fun r u H locs hq hP hD hS => ?_)
    obtain rfl := hq
    have hP : va_P D vwCl [(g, .inr (10, [.ref kk, .ref nw, .ref im, .ref kp, .ref tx, .ref tr, .ref be, .ref sh, .ref sd, .ref rf, .int 0, .int 1])), (rf, .inl (y 0, 3, .inl (fun _ => 0)))] H := hP
    have hD : va_D A [(g, .inr (10, [.ref kk, .ref nw, .ref im, .ref kp, .ref tx, .ref tr, .ref be, .ref sh, .ref sd, .ref rf, .int 0, .int 1])), (rf, .inl (y 0, 3, .inl (fun _ => 0)))] := hD
    have hsp : (1 : Int32) = (sp_type c) := by
      have gZ1 : ¬ (c : Int32).toInt < (0 : Int32).toInt := fun q => h5 (Int32.lt_iff_toInt_lt.mpr q)
      have lZ1 : (0 : Int32).toInt = 0 := by decide
      have gZ2 : ¬ (128 : Int32).toInt ≤ (c : Int32).toInt := fun q => h6 (Int32.le_iff_toInt_le.mpr q)
      have lZ2 : (128 : Int32).toInt = 128 := by decide
      unfold sp_type; first | rfl | decide | exact (if_neg (by omega)).symm | exact (if_pos (by omega)).symm | exact ((if_pos (by omega)).trans (if_neg (by omega))).symm | exact ((if_pos (by omega)).trans (if_pos (by omega))).symm | exact ((if_neg (by omega)).trans (if_pos (by omega))).symm | exact ((if_neg (by omega)).trans (if_neg (by omega))).symm
    exact W.iret (v := 1) hx hb hr (fun tZ ht hW => ⟨⟨1, (), rfl, hsp, by rw [ht]; exact hP.sub [] rfl, hD.sub [] (by decide) rfl⟩, hS.F ht⟩) hS.2.2 dX10_type_41
