set_option maxHeartbeats 4000000 in
set_option maxRecDepth 100000 in
theorem cp_undo (l : Launch) (D : va_G) (y : Nat → ClassId) (g : Nat) (kk : Nat) (nw : Nat) (im : Nat) (kp : Nat) (tx : Nat) (tr : Nat) (be : Nat) (sh : Nat) (sd : Nat) (rf : Nat) (nk : Nat) (nd : Nat) (ne : Nat) (nm : Nat) (nn : Nat) : kw_Mi l yX10_undo wsX10_undo ({ frames := 2, cells := 0, slots := 0, locals := 60 }) D y [.ref g] [(g, .inr (10, [.ref kk, .ref nw, .ref im, .ref kp, .ref tx, .ref tr, .ref be, .ref sh, .ref sd, .ref rf, .int 0, .int 1])), (rf, .inl (y 0, 3, .inl (fun _ => 0))), (nw, .inr (4, [.ref kk, .ref nk, .ref nd, .ref ne, .ref nm, .ref nn, .int 0, .int 0, .int 0, .int 0, .int 0]))] (fun (r : Int32) (u : Unit) => r = (-3)) (fun _ => []) 0 0 := by
  refine kw_Mi.of (cc := cX10_undo) (maxL := 1) (ret := (some .int)) (by decide) rfl ?_
  intro pZ eZ s mZ beZ meZ cZ A hE
  obtain ⟨hx, hb, hr, hml, hts, hown, hlocks, hin, hA, hP, hD, hK, hN⟩ := hE
  have hS : va_S A s.heap s.heap [] := va_S.rf
  have hl := lv_entry ([.ref g]) (n := 1) (Nat.le_of_ble_eq_true rfl)
  rw [lg_entry_eq]
  generalize (lg_sl ([.ref g]) ++ List.replicate (1 - (lg_sl ([.ref g])).length) Slot.unset).toArray = ls at hl ⊢
  have hl : lv_has ls 1 [(0, .ref g)] := hl
  have fw1 := hts (.fieldLink RX10 36 "GleanDusk" "now" "LGleanDusk$Parish;") (List.mem_of_getElem? (i := 1) rfl)
  have fw2 := hts (.fieldLink RX10 176 "GleanDusk$Parish" "undoable" "I") (List.mem_of_getElem? (i := 2) rfl)
  have i10 : ∀ w ∈ wsX100, w ∈ wsX10_undo := fun _ h => List.mem_cons_of_mem _ (List.mem_append_left _ (List.mem_append_left _ (List.mem_append_right _ h)))
  have i4 : ∀ w ∈ wsX40, w ∈ wsX10_undo := fun _ h => List.mem_cons_of_mem _ (List.mem_append_left _ (List.mem_append_right _ h))
  refine lv_aload_n hx hb dX10_undo_0 rfl (lv_at hl 0 rfl) ?_
  refine va_get (D := D) (ci := 10) (v := .ref nw) (C := RX10) (T := TX10) (N := 12) hx hb hts i10 hown hK hP 0 rfl rfl 1 (by decide) fw1 (fun _ h9 => h9) rfl dX10_undo_1 ?_
  refine va_get (D := D) (ci := 4) (v := .int 0) (C := RX4) (T := TX4) (N := 11) hx hb hts i4 hown hK hP 2 rfl rfl 8 (by decide) fw2 (fun _ h9 => h9) rfl dX10_undo_4 ?_
  refine lv_if_ne (tgt := 15) hx hb dX10_undo_7 (by decide) (fun h9 => absurd h9 (by decide)) (fun _ => ?_)
  refine lv_aload_n hx hb dX10_undo_10 rfl (lv_at hl 0 rfl) ?_
  have hs1 : kw_Split [(g, .inr (10, [.ref kk, .ref nw, .ref im, .ref kp, .ref tx, .ref tr, .ref be, .ref sh, .ref sd, .ref rf, .int 0, .int 1])), (rf, .inl (y 0, 3, .inl (fun _ => 0))), (nw, .inr (4, [.ref kk, .ref nk, .ref nd, .ref ne, .ref nm, .ref nn, .int 0, .int 0, .int 0, .int 0, .int 0]))] [(g, .inr (10, [.ref kk, .ref nw, .ref im, .ref kp, .ref tx, .ref tr, .ref be, .ref sh, .ref sd, .ref rf, .int 0, .int 1])), (rf, .inl (y 0, 3, .inl (fun _ => 0)))] [(nw, .inr (4, [.ref kk, .ref nk, .ref nd, .ref ne, .ref nm, .ref nn, .int 0, .int 0, .int 0, .int 0, .int 0]))] [0, 1] [2] := ⟨rfl, rfl, rfl, rfl, rfl, by decide⟩
  refine kw_go_i hs1 hP hD hS hA (va_runV (As := []) (rest := []) ⟨hx, hb, hml, hown, hts⟩ (ct_refuseNo l D y g kk nw im kp tx tr be sh sd rf (fun _ => 0)  _) (cwV 0 hts gX10_undo_X10_refuseNo rfl rfl rfl (by decide +kernel) ⟨Nat.le_of_ble_eq_true rfl, Nat.le_of_ble_eq_true rfl⟩) (kw_PreV (ci := 10) (q0 := 0) hs1 hP hD hK hN rfl rfl) rfl rfl hl.1 rfl (lv_room (Nat.le_of_ble_eq_true rfl)) dX10_undo_11 ⟨Nat.le_of_ble_eq_true rfl, Nat.le_of_ble_eq_true rfl⟩) (fun r u H locs hq hP hD hS => ?_)
  obtain rfl := hq
  have hP : va_P D vwCl [(nw, .inr (4, [.ref kk, .ref nk, .ref nd, .ref ne, .ref nm, .ref nn, .int 0, .int 0, .int 0, .int 0, .int 0]))] H := hP
  have hD : va_D A [(nw, .inr (4, [.ref kk, .ref nk, .ref nd, .ref ne, .ref nm, .ref nn, .int 0, .int 0, .int 0, .int 0, .int 0]))] := hD
  have hsp : ((-3) : Int32) = (-3) := by
    rfl
  exact W.iret (v := (-3)) hx hb hr (fun tZ ht hW => ⟨⟨(-3), (), rfl, hsp, by rw [ht]; exact hP.sub [] rfl, hD.sub [] (by decide) rfl⟩, hS.F ht⟩) hS.2.2 dX10_undo_14

set_option maxHeartbeats 4000000 in
set_option maxRecDepth 100000 in
theorem cp_of (l : Launch) (D : va_G) (y : Nat → ClassId) (g : Nat) (kk : Nat) (nw : Nat) (im : Nat) (kp : Nat) (tx : Nat) (tr : Nat) (be : Nat) (sh : Nat) (sd : Nat) (rf : Nat) (nk : Nat) (nd : Nat) (ne : Nat) (nm : Nat) (nn : Nat) (x : Int32) (x2 : Int32) : kw_Mi l yX10_of wsX10_of ({ frames := 3, cells := 0, slots := 0, locals := 82 }) D y [.ref g, .int x, .int x2] [(g, .inr (10, [.ref kk, .ref nw, .ref im, .ref kp, .ref tx, .ref tr, .ref be, .ref sh, .ref sd, .ref rf, .int 0, .int 1])), (rf, .inl (y 0, 3, .inl (fun _ => 0))), (nw, .inr (4, [.ref kk, .ref nk, .ref nd, .ref ne, .ref nm, .ref nn, .int 0, .int 0, .int 0, .int 0, .int 0]))] (fun (r : Int32) (u : Unit) => r = (-2)) (fun _ => []) 0 0 := by
  refine kw_Mi.of (cc := cX10_of) (maxL := 3) (ret := (some .int)) (by decide) rfl ?_
  intro pZ eZ s mZ beZ meZ cZ A hE
  obtain ⟨hx, hb, hr, hml, hts, hown, hlocks, hin, hA, hP, hD, hK, hN⟩ := hE
  have hS : va_S A s.heap s.heap [] := va_S.rf
  have hl := lv_entry ([.ref g, .int x, .int x2]) (n := 3) (Nat.le_of_ble_eq_true rfl)
  rw [lg_entry_eq]
  generalize (lg_sl ([.ref g, .int x, .int x2]) ++ List.replicate (3 - (lg_sl ([.ref g, .int x, .int x2])).length) Slot.unset).toArray = ls at hl ⊢
  have hl : lv_has ls 3 [(0, .ref g), (1, .int x), (2, .int x2)] := hl
  have fw1 := hts (.fieldLink RX10 36 "GleanDusk" "now" "LGleanDusk$Parish;") (List.mem_of_getElem? (i := 1) rfl)
  have i10 : ∀ w ∈ wsX100, w ∈ wsX10_of := fun _ h => List.mem_cons_of_mem _ (List.mem_append_left _ (List.mem_append_left _ (List.mem_append_right _ h)))
  refine lv_aload_n hx hb dX10_of_0 rfl (lv_at hl 0 rfl) ?_
  refine va_get (D := D) (ci := 10) (v := .ref nw) (C := RX10) (T := TX10) (N := 12) hx hb hts i10 hown hK hP 0 rfl rfl 1 (by decide) fw1 (fun _ h9 => h9) rfl dX10_of_1 ?_
  refine lv_iload_n hx hb dX10_of_4 rfl (lv_at hl 1 rfl) ?_
  have hs1 : kw_Split [(g, .inr (10, [.ref kk, .ref nw, .ref im, .ref kp, .ref tx, .ref tr, .ref be, .ref sh, .ref sd, .ref rf, .int 0, .int 1])), (rf, .inl (y 0, 3, .inl (fun _ => 0))), (nw, .inr (4, [.ref kk, .ref nk, .ref nd, .ref ne, .ref nm, .ref nn, .int 0, .int 0, .int 0, .int 0, .int 0]))] [(nw, .inr (4, [.ref kk, .ref nk, .ref nd, .ref ne, .ref nm, .ref nn, .int 0, .int 0, .int 0, .int 0, .int 0]))] [(g, .inr (10, [.ref kk, .ref nw, .ref im, .ref kp, .ref tx, .ref tr, .ref be, .ref sh, .ref sd, .ref rf, .int 0, .int 1])), (rf, .inl (y 0, 3, .inl (fun _ => 0)))] [2] [0, 1] := ⟨rfl, rfl, rfl, rfl, rfl, by decide⟩
  refine kw_go_i hs1 hP hD hS hA (va_runV (As := [.int x]) (rest := []) ⟨hx, hb, hml, hown, hts⟩ (ct_hasField l D y nw kk nk nd ne nm nn 0 0 0 0 0 x  _) (cwV 1 hts gX10_of_X4_hasField rfl rfl rfl (by decide +kernel) ⟨Nat.le_of_ble_eq_true rfl, Nat.le_of_ble_eq_true rfl⟩) (kw_PreV (ci := 4) (q0 := 2) hs1 hP hD hK hN rfl rfl) rfl rfl hl.1 rfl (lv_room (Nat.le_of_ble_eq_true rfl)) dX10_of_5 ⟨Nat.le_of_ble_eq_true rfl, Nat.le_of_ble_eq_true rfl⟩) (fun r u H locs hq hP hD hS => ?_)
  rcases hq with ⟨h2, rfl⟩ | ⟨h3, h4, rfl⟩ | ⟨h5, h6, rfl⟩
  · skip
    have hP : va_P D vwCl [(g, .inr (10, [.ref kk, .ref nw, .ref im, .ref kp, .ref tx, .ref tr, .ref be, .ref sh, .ref sd, .ref rf, .int 0, .int 1])), (rf, .inl (y 0, 3, .inl (fun _ => 0))), (nw, .inr (4, [.ref kk, .ref nk, .ref nd, .ref ne, .ref nm, .ref nn, .int 0, .int 0, .int 0, .int 0, .int 0]))] H := hP
    have hD : va_D A [(g, .inr (10, [.ref kk, .ref nw, .ref im, .ref kp, .ref tx, .ref tr, .ref be, .ref sh, .ref sd, .ref rf, .int 0, .int 1])), (rf, .inl (y 0, 3, .inl (fun _ => 0))), (nw, .inr (4, [.ref kk, .ref nk, .ref nd, .ref ne, .ref nm, .ref nn, .int 0, .int 0, .int 0, .int 0, .int 0]))] := hD
    refine lv_if_eq (tgt := 19) hx hb dX10_of_8 (by decide) (fun _ => ?_) (fun h9 => absurd h9 (by decide))
    refine lv_aload_n hx hb dX10_of_19 rfl (lv_at hl 0 rfl) ?_
    have hs7 : kw_Split [(g, .inr (10, [.ref kk, .ref nw, .ref im, .ref kp, .ref tx, .ref tr, .ref be, .ref sh, .ref sd, .ref rf, .int 0, .int 1])), (rf, .inl (y 0, 3, .inl (fun _ => 0))), (nw, .inr (4, [.ref kk, .ref nk, .ref nd, .ref ne, .ref nm, .ref nn, .int 0, .int 0, .int 0, .int 0, .int 0]))] [(g, .inr (10, [.ref kk, .ref nw, .ref im, .ref kp, .ref tx, .ref tr, .ref be, .ref sh, .ref sd, .ref rf, .int 0, .int 1])), (rf, .inl (y 0, 3, .inl (fun _ => 0)))] [(nw, .inr (4, [.ref kk, .ref nk, .ref nd, .ref ne, .ref nm, .ref nn, .int 0, .int 0, .int 0, .int 0, .int 0]))] [0, 1] [2] := ⟨rfl, rfl, rfl, rfl, rfl, by decide⟩
    refine kw_go_i hs7 hP hD hS hA (va_runV (As := []) (rest := []) ⟨hx, hb, hml, hown, hts⟩ (ct_refuseBad l D y g kk nw im kp tx tr be sh sd rf (fun _ => 0)  _) (cwV 0 hts gX10_of_X10_refuseBad rfl rfl rfl (by decide +kernel) ⟨Nat.le_of_ble_eq_true rfl, Nat.le_of_ble_eq_true rfl⟩) (kw_PreV (ci := 10) (q0 := 0) hs7 hP hD hK hN rfl rfl) rfl rfl hl.1 rfl (lv_room (Nat.le_of_ble_eq_true rfl)) dX10_of_20 ⟨Nat.le_of_ble_eq_true rfl, Nat.le_of_ble_eq_true rfl⟩) (fun r u H locs hq hP hD hS => ?_)
    obtain rfl := hq
    have hP : va_P D vwCl [(nw, .inr (4, [.ref kk, .ref nk, .ref nd, .ref ne, .ref nm, .ref nn, .int 0, .int 0, .int 0, .int 0, .int 0]))] H := hP
    have hD : va_D A [(nw, .inr (4, [.ref kk, .ref nk, .ref nd, .ref ne, .ref nm, .ref nn, .int 0, .int 0, .int 0, .int 0, .int 0]))] := hD
    have hsp : ((-2) : Int32) = (-2) := by
      have gZ1 := Int32.lt_iff_toInt_lt.mp h2
      have lZ1 : (0 : Int32).toInt = 0 := by decide
      rfl
    exact W.iret (v := (-2)) hx hb hr (fun tZ ht hW => ⟨⟨(-2), (), rfl, hsp, by rw [ht]; exact hP.sub [] rfl, hD.sub [] (by decide) rfl⟩, hS.F ht⟩) hS.2.2 dX10_of_23
  · skip
    have hP : va_P D vwCl [(g, .inr (10, [.ref kk, .ref nw, .ref im, .ref kp, .ref tx, .ref tr, .ref be, .ref sh, .ref sd, .ref rf, .int 0, .int 1])), (rf, .inl (y 0, 3, .inl (fun _ => 0))), (nw, .inr (4, [.ref kk, .ref nk, .ref nd, .ref ne, .ref nm, .ref nn, .int 0, .int 0, .int 0, .int 0, .int 0]))] H := hP
    have hD : va_D A [(g, .inr (10, [.ref kk, .ref nw, .ref im, .ref kp, .ref tx, .ref tr, .ref be, .ref sh, .ref sd, .ref rf, .int 0, .int 1])), (rf, .inl (y 0, 3, .inl (fun _ => 0))), (nw, .inr (4, [.ref kk, .ref nk, .ref nd, .ref ne, .ref nm, .ref nn, .int 0, .int 0, .int 0, .int 0, .int 0]))] := hD
    refine lv_if_eq (tgt := 19) hx hb dX10_of_8 (by decide) (fun _ => ?_) (fun h9 => absurd h9 (by decide))
    refine lv_aload_n hx hb dX10_of_19 rfl (lv_at hl 0 rfl) ?_
    have hs8 : kw_Split [(g, .inr (10, [.ref kk, .ref nw, .ref im, .ref kp, .ref tx, .ref tr, .ref be, .ref sh, .ref sd, .ref rf, .int 0, .int 1])), (rf, .inl (y 0, 3, .inl (fun _ => 0))), (nw, .inr (4, [.ref kk, .ref nk, .ref nd, .ref ne, .ref nm, .ref nn, .int 0, .int 0, .int 0, .int 0, .int 0]))] [(g, .inr (10, [.ref kk, .ref nw, .ref im, .ref kp, .ref tx, .ref tr, .ref be, .ref sh, .ref sd, .ref rf, .int 0, .int 1])), (rf, .inl (y 0, 3, .inl (fun _ => 0)))] [(nw, .inr (4, [.ref kk, .ref nk, .ref nd, .ref ne, .ref nm, .ref nn, .int 0, .int 0, .int 0, .int 0, .int 0]))] [0, 1] [2] := ⟨rfl, rfl, rfl, rfl, rfl, by decide⟩
    refine kw_go_i hs8 hP hD hS hA (va_runV (As := []) (rest := []) ⟨hx, hb, hml, hown, hts⟩ (ct_refuseBad l D y g kk nw im kp tx tr be sh sd rf (fun _ => 0)  _) (cwV 0 hts gX10_of_X10_refuseBad rfl rfl rfl (by decide +kernel) ⟨Nat.le_of_ble_eq_true rfl, Nat.le_of_ble_eq_true rfl⟩) (kw_PreV (ci := 10) (q0 := 0) hs8 hP hD hK hN rfl rfl) rfl rfl hl.1 rfl (lv_room (Nat.le_of_ble_eq_true rfl)) dX10_of_20 ⟨Nat.le_of_ble_eq_true rfl, Nat.le_of_ble_eq_true rfl⟩) (fun r u H locs hq hP hD hS => ?_)
    obtain rfl := hq
    have hP : va_P D vwCl [(nw, .inr (4, [.ref kk, .ref nk, .ref nd, .ref ne, .ref nm, .ref nn, .int 0, .int 0, .int 0, .int 0, .int 0]))] H := hP
    have hD : va_D A [(nw, .inr (4, [.ref kk, .ref nk, .ref nd, .ref ne, .ref nm, .ref nn, .int 0, .int 0, .int 0, .int 0, .int 0]))] := hD
    have hsp : ((-2) : Int32) = (-2) := by
      have gZ1 : ¬ (x : Int32).toInt < (0 : Int32).toInt := fun q => h3 (Int32.lt_iff_toInt_lt.mpr q)
      have lZ1 : (0 : Int32).toInt = 0 := by decide
      have gZ2 := Int32.le_iff_toInt_le.mp h4
      rfl
    exact W.iret (v := (-2)) hx hb hr (fun tZ ht hW => ⟨⟨(-2), (), rfl, hsp, by rw [ht]; exact hP.sub [] rfl, hD.sub [] (by decide) rfl⟩, hS.F ht⟩) hS.2.2 dX10_of_23
  · skip
    exact (kw_x1 h5 h6).elim

set_option maxHeartbeats 4000000 in
set_option maxRecDepth 100000 in
theorem cp_about (l : Launch) (D : va_G) (y : Nat → ClassId) (g : Nat) (kk : Nat) (nw : Nat) (im : Nat) (kp : Nat) (tx : Nat) (tr : Nat) (be : Nat) (sh : Nat) (sd : Nat) (rf : Nat) (nk : Nat) (nd : Nat) (ne : Nat) (nm : Nat) (nn : Nat) (x : Int32) (x2 : Int32) : kw_Mi l yX10_about wsX10_about ({ frames := 3, cells := 0, slots := 0, locals := 82 }) D y [.ref g, .int x, .int x2] [(g, .inr (10, [.ref kk, .ref nw, .ref im, .ref kp, .ref tx, .ref tr, .ref be, .ref sh, .ref sd, .ref rf, .int 0, .int 1])), (rf, .inl (y 0, 3, .inl (fun _ => 0))), (nw, .inr (4, [.ref kk, .ref nk, .ref nd, .ref ne, .ref nm, .ref nn, .int 0, .int 0, .int 0, .int 0, .int 0]))] (fun (r : Int32) (u : Unit) => r = (-2)) (fun _ => []) 0 0 := by
  refine kw_Mi.of (cc := cX10_about) (maxL := 3) (ret := (some .int)) (by decide) rfl ?_
  intro pZ eZ s mZ beZ meZ cZ A hE
  obtain ⟨hx, hb, hr, hml, hts, hown, hlocks, hin, hA, hP, hD, hK, hN⟩ := hE
  have hS : va_S A s.heap s.heap [] := va_S.rf
  have hl := lv_entry ([.ref g, .int x, .int x2]) (n := 3) (Nat.le_of_ble_eq_true rfl)
  rw [lg_entry_eq]
  generalize (lg_sl ([.ref g, .int x, .int x2]) ++ List.replicate (3 - (lg_sl ([.ref g, .int x, .int x2])).length) Slot.unset).toArray = ls at hl ⊢
  have hl : lv_has ls 3 [(0, .ref g), (1, .int x), (2, .int x2)] := hl
  have fw1 := hts (.fieldLink RX10 36 "GleanDusk" "now" "LGleanDusk$Parish;") (List.mem_of_getElem? (i := 1) rfl)
  have i10 : ∀ w ∈ wsX100, w ∈ wsX10_about := fun _ h => List.mem_cons_of_mem _ (List.mem_append_left _ (List.mem_append_left _ (List.mem_append_right _ h)))
  refine lv_aload_n hx hb dX10_about_0 rfl (lv_at hl 0 rfl) ?_
  refine va_get (D := D) (ci := 10) (v := .ref nw) (C := RX10) (T := TX10) (N := 12) hx hb hts i10 hown hK hP 0 rfl rfl 1 (by decide) fw1 (fun _ h9 => h9) rfl dX10_about_1 ?_
  refine lv_iload_n hx hb dX10_about_4 rfl (lv_at hl 1 rfl) ?_
  have hs1 : kw_Split [(g, .inr (10, [.ref kk, .ref nw, .ref im, .ref kp, .ref tx, .ref tr, .ref be, .ref sh, .ref sd, .ref rf, .int 0, .int 1])), (rf, .inl (y 0, 3, .inl (fun _ => 0))), (nw, .inr (4, [.ref kk, .ref nk, .ref nd, .ref ne, .ref nm, .ref nn, .int 0, .int 0, .int 0, .int 0, .int 0]))] [(nw, .inr (4, [.ref kk, .ref nk, .ref nd, .ref ne, .ref nm, .ref nn, .int 0, .int 0, .int 0, .int 0, .int 0]))] [(g, .inr (10, [.ref kk, .ref nw, .ref im, .ref kp, .ref tx, .ref tr, .ref be, .ref sh, .ref sd, .ref rf, .int 0, .int 1])), (rf, .inl (y 0, 3, .inl (fun _ => 0)))] [2] [0, 1] := ⟨rfl, rfl, rfl, rfl, rfl, by decide⟩
  refine kw_go_i hs1 hP hD hS hA (va_runV (As := [.int x]) (rest := []) ⟨hx, hb, hml, hown, hts⟩ (ct_hasGleaner l D y nw kk nk nd ne nm nn 0 0 0 0 0 x  _) (cwV 1 hts gX10_about_X4_hasGleaner rfl rfl rfl (by decide +kernel) ⟨Nat.le_of_ble_eq_true rfl, Nat.le_of_ble_eq_true rfl⟩) (kw_PreV (ci := 4) (q0 := 2) hs1 hP hD hK hN rfl rfl) rfl rfl hl.1 rfl (lv_room (Nat.le_of_ble_eq_true rfl)) dX10_about_5 ⟨Nat.le_of_ble_eq_true rfl, Nat.le_of_ble_eq_true rfl⟩) (fun r u H locs hq hP hD hS => ?_)
  rcases hq with ⟨h2, rfl⟩ | ⟨h3, h4, rfl⟩ | ⟨h5, h6, rfl⟩
  · skip
    have hP : va_P D vwCl [(g, .inr (10, [.ref kk, .ref nw, .ref im, .ref kp, .ref tx, .ref tr, .ref be, .ref sh, .ref sd, .ref rf, .int 0, .int 1])), (rf, .inl (y 0, 3, .inl (fun _ => 0))), (nw, .inr (4, [.ref kk, .ref nk, .ref nd, .ref ne, .ref nm, .ref nn, .int 0, .int 0, .int 0, .int 0, .int 0]))] H := hP
    have hD : va_D A [(g, .inr (10, [.ref kk, .ref nw, .ref im, .ref kp, .ref tx, .ref tr, .ref be, .ref sh, .ref sd, .ref rf, .int 0, .int 1])), (rf, .inl (y 0, 3, .inl (fun _ => 0))), (nw, .inr (4, [.ref kk, .ref nk, .ref nd, .ref ne, .ref nm, .ref nn, .int 0, .int 0, .int 0, .int 0, .int 0]))] := hD
    refine lv_if_eq (tgt := 19) hx hb dX10_about_8 (by decide) (fun _ => ?_) (fun h9 => absurd h9 (by decide))
    refine lv_aload_n hx hb dX10_about_19 rfl (lv_at hl 0 rfl) ?_
    have hs7 : kw_Split [(g, .inr (10, [.ref kk, .ref nw, .ref im, .ref kp, .ref tx, .ref tr, .ref be, .ref sh, .ref sd, .ref rf, .int 0, .int 1])), (rf, .inl (y 0, 3, .inl (fun _ => 0))), (nw, .inr (4, [.ref kk, .ref nk, .ref nd, .ref ne, .ref nm, .ref nn, .int 0, .int 0, .int 0, .int 0, .int 0]))] [(g, .inr (10, [.ref kk, .ref nw, .ref im, .ref kp, .ref tx, .ref tr, .ref be, .ref sh, .ref sd, .ref rf, .int 0, .int 1])), (rf, .inl (y 0, 3, .inl (fun _ => 0)))] [(nw, .inr (4, [.ref kk, .ref nk, .ref nd, .ref ne, .ref nm, .ref nn, .int 0, .int 0, .int 0, .int 0, .int 0]))] [0, 1] [2] := ⟨rfl, rfl, rfl, rfl, rfl, by decide⟩
    refine kw_go_i hs7 hP hD hS hA (va_runV (As := []) (rest := []) ⟨hx, hb, hml, hown, hts⟩ (ct_refuseBad l D y g kk nw im kp tx tr be sh sd rf (fun _ => 0)  _) (cwV 0 hts gX10_about_X10_refuseBad rfl rfl rfl (by decide +kernel) ⟨Nat.le_of_ble_eq_true rfl, Nat.le_of_ble_eq_true rfl⟩) (kw_PreV (ci := 10) (q0 := 0) hs7 hP hD hK hN rfl rfl) rfl rfl hl.1 rfl (lv_room (Nat.le_of_ble_eq_true rfl)) dX10_about_20 ⟨Nat.le_of_ble_eq_true rfl, Nat.le_of_ble_eq_true rfl⟩) (fun r u H locs hq hP hD hS => ?_)
    obtain rfl := hq
    have hP : va_P D vwCl [(nw, .inr (4, [.ref kk, .ref nk, .ref nd, .ref ne, .ref nm, .ref nn, .int 0, .int 0, .int 0, .int 0, .int 0]))] H := hP
    have hD : va_D A [(nw, .inr (4, [.ref kk, .ref nk, .ref nd, .ref ne, .ref nm, .ref nn, .int 0, .int 0, .int 0, .int 0, .int 0]))] := hD
    have hsp : ((-2) : Int32) = (-2) := by
      have gZ1 := Int32.lt_iff_toInt_lt.mp h2
      have lZ1 : (0 : Int32).toInt = 0 := by decide
      rfl
    exact W.iret (v := (-2)) hx hb hr (fun tZ ht hW => ⟨⟨(-2), (), rfl, hsp, by rw [ht]; exact hP.sub [] rfl, hD.sub [] (by decide) rfl⟩, hS.F ht⟩) hS.2.2 dX10_about_23
  · skip
    have hP : va_P D vwCl [(g, .inr (10, [.ref kk, .ref nw, .ref im, .ref kp, .ref tx, .ref tr, .ref be, .ref sh, .ref sd, .ref rf, .int 0, .int 1])), (rf, .inl (y 0, 3, .inl (fun _ => 0))), (nw, .inr (4, [.ref kk, .ref nk, .ref nd, .ref ne, .ref nm, .ref nn, .int 0, .int 0, .int 0, .int 0, .int 0]))] H := hP
    have hD : va_D A [(g, .inr (10, [.ref kk, .ref nw, .ref im, .ref kp, .ref tx, .ref tr, .ref be, .ref sh, .ref sd, .ref rf, .int 0, .int 1])), (rf, .inl (y 0, 3, .inl (fun _ => 0))), (nw, .inr (4, [.ref kk, .ref nk, .ref nd, .ref ne, .ref nm, .ref nn, .int 0, .int 0, .int 0, .int 0, .int 0]))] := hD
    refine lv_if_eq (tgt := 19) hx hb dX10_about_8 (by decide) (fun _ => ?_) (fun h9 => absurd h9 (by decide))
    refine lv_aload_n hx hb dX10_about_19 rfl (lv_at hl 0 rfl) ?_
    have hs8 : kw_Split [(g, .inr (10, [.ref kk, .ref nw, .ref im, .ref kp, .ref tx, .ref tr, .ref be, .ref sh, .ref sd, .ref rf, .int 0, .int 1])), (rf, .inl (y 0, 3, .inl (fun _ => 0))), (nw, .inr (4, [.ref kk, .ref nk, .ref nd, .ref ne, .ref nm, .ref nn, .int 0, .int 0, .int 0, .int 0, .int 0]))] [(g, .inr (10, [.ref kk, .ref nw, .ref im, .ref kp, .ref tx, .ref tr, .ref be, .ref sh, .ref sd, .ref rf, .int 0, .int 1])), (rf, .inl (y 0, 3, .inl (fun _ => 0)))] [(nw, .inr (4, [.ref kk, .ref nk, .ref nd, .ref ne, .ref nm, .ref nn, .int 0, .int 0, .int 0, .int 0, .int 0]))] [0, 1] [2] := ⟨rfl, rfl, rfl, rfl, rfl, by decide⟩
    refine kw_go_i hs8 hP hD hS hA (va_runV (As := []) (rest := []) ⟨hx, hb, hml, hown, hts⟩ (ct_refuseBad l D y g kk nw im kp tx tr be sh sd rf (fun _ => 0)  _) (cwV 0 hts gX10_about_X10_refuseBad rfl rfl rfl (by decide +kernel) ⟨Nat.le_of_ble_eq_true rfl, Nat.le_of_ble_eq_true rfl⟩) (kw_PreV (ci := 10) (q0 := 0) hs8 hP hD hK hN rfl rfl) rfl rfl hl.1 rfl (lv_room (Nat.le_of_ble_eq_true rfl)) dX10_about_20 ⟨Nat.le_of_ble_eq_true rfl, Nat.le_of_ble_eq_true rfl⟩) (fun r u H locs hq hP hD hS => ?_)
    obtain rfl := hq
    have hP : va_P D vwCl [(nw, .inr (4, [.ref kk, .ref nk, .ref nd, .ref ne, .ref nm, .ref nn, .int 0, .int 0, .int 0, .int 0, .int 0]))] H := hP
    have hD : va_D A [(nw, .inr (4, [.ref kk, .ref nk, .ref nd, .ref ne, .ref nm, .ref nn, .int 0, .int 0, .int 0, .int 0, .int 0]))] := hD
    have hsp : ((-2) : Int32) = (-2) := by
      have gZ1 : ¬ (x : Int32).toInt < (0 : Int32).toInt := fun q => h3 (Int32.lt_iff_toInt_lt.mpr q)
      have lZ1 : (0 : Int32).toInt = 0 := by decide
      have gZ2 := Int32.le_iff_toInt_le.mp h4
      rfl
    exact W.iret (v := (-2)) hx hb hr (fun tZ ht hW => ⟨⟨(-2), (), rfl, hsp, by rw [ht]; exact hP.sub [] rfl, hD.sub [] (by decide) rfl⟩, hS.F ht⟩) hS.2.2 dX10_about_23
  · skip
    exact (kw_x1 h5 h6).elim

set_option maxHeartbeats 4000000 in
set_option maxRecDepth 100000 in
theorem cp_seen (l : Launch) (D : va_G) (y : Nat → ClassId) (g : Nat) (kk : Nat) (nw : Nat) (im : Nat) (kp : Nat) (tx : Nat) (tr : Nat) (be : Nat) (sh : Nat) (sd : Nat) (rf : Nat) (nk : Nat) (nd : Nat) (ne : Nat) (nm : Nat) (nn : Nat) (x : Int32) (x2 : Int32) : kw_Mi l yX10_seen wsX10_seen ({ frames := 3, cells := 0, slots := 0, locals := 82 }) D y [.ref g, .int x, .int x2] [(g, .inr (10, [.ref kk, .ref nw, .ref im, .ref kp, .ref tx, .ref tr, .ref be, .ref sh, .ref sd, .ref rf, .int 0, .int 1])), (rf, .inl (y 0, 3, .inl (fun _ => 0))), (nw, .inr (4, [.ref kk, .ref nk, .ref nd, .ref ne, .ref nm, .ref nn, .int 0, .int 0, .int 0, .int 0, .int 0]))] (fun (r : Int32) (u : Unit) => r = (-2)) (fun _ => []) 0 0 := by
  refine kw_Mi.of (cc := cX10_seen) (maxL := 3) (ret := (some .int)) (by decide) rfl ?_
  intro pZ eZ s mZ beZ meZ cZ A hE
  obtain ⟨hx, hb, hr, hml, hts, hown, hlocks, hin, hA, hP, hD, hK, hN⟩ := hE
  have hS : va_S A s.heap s.heap [] := va_S.rf
  have hl := lv_entry ([.ref g, .int x, .int x2]) (n := 3) (Nat.le_of_ble_eq_true rfl)
  rw [lg_entry_eq]
  generalize (lg_sl ([.ref g, .int x, .int x2]) ++ List.replicate (3 - (lg_sl ([.ref g, .int x, .int x2])).length) Slot.unset).toArray = ls at hl ⊢
  have hl : lv_has ls 3 [(0, .ref g), (1, .int x), (2, .int x2)] := hl
  have fw1 := hts (.fieldLink RX10 36 "GleanDusk" "now" "LGleanDusk$Parish;") (List.mem_of_getElem? (i := 1) rfl)
  have i10 : ∀ w ∈ wsX100, w ∈ wsX10_seen := fun _ h => List.mem_cons_of_mem _ (List.mem_append_left _ (List.mem_append_left _ (List.mem_append_right _ h)))
  refine lv_aload_n hx hb dX10_seen_0 rfl (lv_at hl 0 rfl) ?_
  refine va_get (D := D) (ci := 10) (v := .ref nw) (C := RX10) (T := TX10) (N := 12) hx hb hts i10 hown hK hP 0 rfl rfl 1 (by decide) fw1 (fun _ h9 => h9) rfl dX10_seen_1 ?_
  refine lv_iload_n hx hb dX10_seen_4 rfl (lv_at hl 1 rfl) ?_
  have hs1 : kw_Split [(g, .inr (10, [.ref kk, .ref nw, .ref im, .ref kp, .ref tx, .ref tr, .ref be, .ref sh, .ref sd, .ref rf, .int 0, .int 1])), (rf, .inl (y 0, 3, .inl (fun _ => 0))), (nw, .inr (4, [.ref kk, .ref nk, .ref nd, .ref ne, .ref nm, .ref nn, .int 0, .int 0, .int 0, .int 0, .int 0]))] [(nw, .inr (4, [.ref kk, .ref nk, .ref nd, .ref ne, .ref nm, .ref nn, .int 0, .int 0, .int 0, .int 0, .int 0]))] [(g, .inr (10, [.ref kk, .ref nw, .ref im, .ref kp, .ref tx, .ref tr, .ref be, .ref sh, .ref sd, .ref rf, .int 0, .int 1])), (rf, .inl (y 0, 3, .inl (fun _ => 0)))] [2] [0, 1] := ⟨rfl, rfl, rfl, rfl, rfl, by decide⟩
  refine kw_go_i hs1 hP hD hS hA (va_runV (As := [.int x]) (rest := []) ⟨hx, hb, hml, hown, hts⟩ (ct_hasField l D y nw kk nk nd ne nm nn 0 0 0 0 0 x  _) (cwV 1 hts gX10_seen_X4_hasField rfl rfl rfl (by decide +kernel) ⟨Nat.le_of_ble_eq_true rfl, Nat.le_of_ble_eq_true rfl⟩) (kw_PreV (ci := 4) (q0 := 2) hs1 hP hD hK hN rfl rfl) rfl rfl hl.1 rfl (lv_room (Nat.le_of_ble_eq_true rfl)) dX10_seen_5 ⟨Nat.le_of_ble_eq_true rfl, Nat.le_of_ble_eq_true rfl⟩) (fun r u H locs hq hP hD hS => ?_)
  rcases hq with ⟨h2, rfl⟩ | ⟨h3, h4, rfl⟩ | ⟨h5, h6, rfl⟩
  · skip
    have hP : va_P D vwCl [(g, .inr (10, [.ref kk, .ref nw, .ref im, .ref kp, .ref tx, .ref tr, .ref be, .ref sh, .ref sd, .ref rf, .int 0, .int 1])), (rf, .inl (y 0, 3, .inl (fun _ => 0))), (nw, .inr (4, [.ref kk, .ref nk, .ref nd, .ref ne, .ref nm, .ref nn, .int 0, .int 0, .int 0, .int 0, .int 0]))] H := hP
    have hD : va_D A [(g, .inr (10, [.ref kk, .ref nw, .ref im, .ref kp, .ref tx, .ref tr, .ref be, .ref sh, .ref sd, .ref rf, .int 0, .int 1])), (rf, .inl (y 0, 3, .inl (fun _ => 0))), (nw, .inr (4, [.ref kk, .ref nk, .ref nd, .ref ne, .ref nm, .ref nn, .int 0, .int 0, .int 0, .int 0, .int 0]))] := hD
    refine lv_if_eq (tgt := 20) hx hb dX10_seen_8 (by decide) (fun _ => ?_) (fun h9 => absurd h9 (by decide))
    refine lv_aload_n hx hb dX10_seen_20 rfl (lv_at hl 0 rfl) ?_
    have hs7 : kw_Split [(g, .inr (10, [.ref kk, .ref nw, .ref im, .ref kp, .ref tx, .ref tr, .ref be, .ref sh, .ref sd, .ref rf, .int 0, .int 1])), (rf, .inl (y 0, 3, .inl (fun _ => 0))), (nw, .inr (4, [.ref kk, .ref nk, .ref nd, .ref ne, .ref nm, .ref nn, .int 0, .int 0, .int 0, .int 0, .int 0]))] [(g, .inr (10, [.ref kk, .ref nw, .ref im, .ref kp, .ref tx, .ref tr, .ref be, .ref sh, .ref sd, .ref rf, .int 0, .int 1])), (rf, .inl (y 0, 3, .inl (fun _ => 0)))] [(nw, .inr (4, [.ref kk, .ref nk, .ref nd, .ref ne, .ref nm, .ref nn, .int 0, .int 0, .int 0, .int 0, .int 0]))] [0, 1] [2] := ⟨rfl, rfl, rfl, rfl, rfl, by decide⟩
    refine kw_go_i hs7 hP hD hS hA (va_runV (As := []) (rest := []) ⟨hx, hb, hml, hown, hts⟩ (ct_refuseBad l D y g kk nw im kp tx tr be sh sd rf (fun _ => 0)  _) (cwV 0 hts gX10_seen_X10_refuseBad rfl rfl rfl (by decide +kernel) ⟨Nat.le_of_ble_eq_true rfl, Nat.le_of_ble_eq_true rfl⟩) (kw_PreV (ci := 10) (q0 := 0) hs7 hP hD hK hN rfl rfl) rfl rfl hl.1 rfl (lv_room (Nat.le_of_ble_eq_true rfl)) dX10_seen_21 ⟨Nat.le_of_ble_eq_true rfl, Nat.le_of_ble_eq_true rfl⟩) (fun r u H locs hq hP hD hS => ?_)
    obtain rfl := hq
    have hP : va_P D vwCl [(nw, .inr (4, [.ref kk, .ref nk, .ref nd, .ref ne, .ref nm, .ref nn, .int 0, .int 0, .int 0, .int 0, .int 0]))] H := hP
    have hD : va_D A [(nw, .inr (4, [.ref kk, .ref nk, .ref nd, .ref ne, .ref nm, .ref nn, .int 0, .int 0, .int 0, .int 0, .int 0]))] := hD
    have hsp : ((-2) : Int32) = (-2) := by
      have gZ1 := Int32.lt_iff_toInt_lt.mp h2
      have lZ1 : (0 : Int32).toInt = 0 := by decide
      rfl
    exact W.iret (v := (-2)) hx hb hr (fun tZ ht hW => ⟨⟨(-2), (), rfl, hsp, by rw [ht]; exact hP.sub [] rfl, hD.sub [] (by decide) rfl⟩, hS.F ht⟩) hS.2.2 dX10_seen_24
  · skip
    have hP : va_P D vwCl [(g, .inr (10, [.ref kk, .ref nw, .ref im, .ref kp, .ref tx, .ref tr, .ref be, .ref sh, .ref sd, .ref rf, .int 0, .int 1])), (rf, .inl (y 0, 3, .inl (fun _ => 0))), (nw, .inr (4, [.ref kk, .ref nk, .ref nd, .ref ne, .ref nm, .ref nn, .int 0, .int 0, .int 0, .int 0, .int 0]))] H := hP
    have hD : va_D A [(g, .inr (10, [.ref kk, .ref nw, .ref im, .ref kp, .ref tx, .ref tr, .ref be, .ref sh, .ref sd, .ref rf, .int 0, .int 1])), (rf, .inl (y 0, 3, .inl (fun _ => 0))), (nw, .inr (4, [.ref kk, .ref nk, .ref nd, .ref ne, .ref nm, .ref nn, .int 0, .int 0, .int 0, .int 0, .int 0]))] := hD
    refine lv_if_eq (tgt := 20) hx hb dX10_seen_8 (by decide) (fun _ => ?_) (fun h9 => absurd h9 (by decide))
    refine lv_aload_n hx hb dX10_seen_20 rfl (lv_at hl 0 rfl) ?_
    have hs8 : kw_Split [(g, .inr (10, [.ref kk, .ref nw, .ref im, .ref kp, .ref tx, .ref tr, .ref be, .ref sh, .ref sd, .ref rf, .int 0, .int 1])), (rf, .inl (y 0, 3, .inl (fun _ => 0))), (nw, .inr (4, [.ref kk, .ref nk, .ref nd, .ref ne, .ref nm, .ref nn, .int 0, .int 0, .int 0, .int 0, .int 0]))] [(g, .inr (10, [.ref kk, .ref nw, .ref im, .ref kp, .ref tx, .ref tr, .ref be, .ref sh, .ref sd, .ref rf, .int 0, .int 1])), (rf, .inl (y 0, 3, .inl (fun _ => 0)))] [(nw, .inr (4, [.ref kk, .ref nk, .ref nd, .ref ne, .ref nm, .ref nn, .int 0, .int 0, .int 0, .int 0, .int 0]))] [0, 1] [2] := ⟨rfl, rfl, rfl, rfl, rfl, by decide⟩
    refine kw_go_i hs8 hP hD hS hA (va_runV (As := []) (rest := []) ⟨hx, hb, hml, hown, hts⟩ (ct_refuseBad l D y g kk nw im kp tx tr be sh sd rf (fun _ => 0)  _) (cwV 0 hts gX10_seen_X10_refuseBad rfl rfl rfl (by decide +kernel) ⟨Nat.le_of_ble_eq_true rfl, Nat.le_of_ble_eq_true rfl⟩) (kw_PreV (ci := 10) (q0 := 0) hs8 hP hD hK hN rfl rfl) rfl rfl hl.1 rfl (lv_room (Nat.le_of_ble_eq_true rfl)) dX10_seen_21 ⟨Nat.le_of_ble_eq_true rfl, Nat.le_of_ble_eq_true rfl⟩) (fun r u H locs hq hP hD hS => ?_)
    obtain rfl := hq
    have hP : va_P D vwCl [(nw, .inr (4, [.ref kk, .ref nk, .ref nd, .ref ne, .ref nm, .ref nn, .int 0, .int 0, .int 0, .int 0, .int 0]))] H := hP
    have hD : va_D A [(nw, .inr (4, [.ref kk, .ref nk, .ref nd, .ref ne, .ref nm, .ref nn, .int 0, .int 0, .int 0, .int 0, .int 0]))] := hD
    have hsp : ((-2) : Int32) = (-2) := by
      have gZ1 : ¬ (x : Int32).toInt < (0 : Int32).toInt := fun q => h3 (Int32.lt_iff_toInt_lt.mpr q)
      have lZ1 : (0 : Int32).toInt = 0 := by decide
      have gZ2 := Int32.le_iff_toInt_le.mp h4
      rfl
    exact W.iret (v := (-2)) hx hb hr (fun tZ ht hW => ⟨⟨(-2), (), rfl, hsp, by rw [ht]; exact hP.sub [] rfl, hD.sub [] (by decide) rfl⟩, hS.F ht⟩) hS.2.2 dX10_seen_24
  · skip
    exact (kw_x1 h5 h6).elim

set_option maxHeartbeats 4000000 in
set_option maxRecDepth 100000 in
theorem cp_then (l : Launch) (D : va_G) (y : Nat → ClassId) (g : Nat) (kk : Nat) (nw : Nat) (im : Nat) (kp : Nat) (tx : Nat) (tr : Nat) (be : Nat) (sh : Nat) (sd : Nat) (rf : Nat) (nk : Nat) (nd : Nat) (ne : Nat) (nm : Nat) (nn : Nat) (x : Int32) (x2 : Int32) : kw_Mi l yX10_then wsX10_then ({ frames := 3, cells := 0, slots := 0, locals := 82 }) D y [.ref g, .int x, .int x2] [(g, .inr (10, [.ref kk, .ref nw, .ref im, .ref kp, .ref tx, .ref tr, .ref be, .ref sh, .ref sd, .ref rf, .int 0, .int 1])), (rf, .inl (y 0, 3, .inl (fun _ => 0))), (nw, .inr (4, [.ref kk, .ref nk, .ref nd, .ref ne, .ref nm, .ref nn, .int 0, .int 0, .int 0, .int 0, .int 0]))] (fun (r : Int32) (u : Unit) => r = (-2)) (fun _ => []) 0 0 := by
  refine kw_Mi.of (cc := cX10_then) (maxL := 3) (ret := (some .int)) (by decide) rfl ?_
  intro pZ eZ s mZ beZ meZ cZ A hE
  obtain ⟨hx, hb, hr, hml, hts, hown, hlocks, hin, hA, hP, hD, hK, hN⟩ := hE
  have hS : va_S A s.heap s.heap [] := va_S.rf
  have hl := lv_entry ([.ref g, .int x, .int x2]) (n := 3) (Nat.le_of_ble_eq_true rfl)
  rw [lg_entry_eq]
  generalize (lg_sl ([.ref g, .int x, .int x2]) ++ List.replicate (3 - (lg_sl ([.ref g, .int x, .int x2])).length) Slot.unset).toArray = ls at hl ⊢
  have hl : lv_has ls 3 [(0, .ref g), (1, .int x), (2, .int x2)] := hl
  have fw1 := hts (.fieldLink RX10 36 "GleanDusk" "now" "LGleanDusk$Parish;") (List.mem_of_getElem? (i := 1) rfl)
  have i10 : ∀ w ∈ wsX100, w ∈ wsX10_then := fun _ h => List.mem_cons_of_mem _ (List.mem_append_left _ (List.mem_append_left _ (List.mem_append_right _ h)))
  refine lv_aload_n hx hb dX10_then_0 rfl (lv_at hl 0 rfl) ?_
  refine va_get (D := D) (ci := 10) (v := .ref nw) (C := RX10) (T := TX10) (N := 12) hx hb hts i10 hown hK hP 0 rfl rfl 1 (by decide) fw1 (fun _ h9 => h9) rfl dX10_then_1 ?_
  refine lv_iload_n hx hb dX10_then_4 rfl (lv_at hl 1 rfl) ?_
  have hs1 : kw_Split [(g, .inr (10, [.ref kk, .ref nw, .ref im, .ref kp, .ref tx, .ref tr, .ref be, .ref sh, .ref sd, .ref rf, .int 0, .int 1])), (rf, .inl (y 0, 3, .inl (fun _ => 0))), (nw, .inr (4, [.ref kk, .ref nk, .ref nd, .ref ne, .ref nm, .ref nn, .int 0, .int 0, .int 0, .int 0, .int 0]))] [(nw, .inr (4, [.ref kk, .ref nk, .ref nd, .ref ne, .ref nm, .ref nn, .int 0, .int 0, .int 0, .int 0, .int 0]))] [(g, .inr (10, [.ref kk, .ref nw, .ref im, .ref kp, .ref tx, .ref tr, .ref be, .ref sh, .ref sd, .ref rf, .int 0, .int 1])), (rf, .inl (y 0, 3, .inl (fun _ => 0)))] [2] [0, 1] := ⟨rfl, rfl, rfl, rfl, rfl, by decide⟩
  refine kw_go_i hs1 hP hD hS hA (va_runV (As := [.int x]) (rest := []) ⟨hx, hb, hml, hown, hts⟩ (ct_hasGleaner l D y nw kk nk nd ne nm nn 0 0 0 0 0 x  _) (cwV 1 hts gX10_then_X4_hasGleaner rfl rfl rfl (by decide +kernel) ⟨Nat.le_of_ble_eq_true rfl, Nat.le_of_ble_eq_true rfl⟩) (kw_PreV (ci := 4) (q0 := 2) hs1 hP hD hK hN rfl rfl) rfl rfl hl.1 rfl (lv_room (Nat.le_of_ble_eq_true rfl)) dX10_then_5 ⟨Nat.le_of_ble_eq_true rfl, Nat.le_of_ble_eq_true rfl⟩) (fun r u H locs hq hP hD hS => ?_)
  rcases hq with ⟨h2, rfl⟩ | ⟨h3, h4, rfl⟩ | ⟨h5, h6, rfl⟩
  · skip
    have hP : va_P D vwCl [(g, .inr (10, [.ref kk, .ref nw, .ref im, .ref kp, .ref tx, .ref tr, .ref be, .ref sh, .ref sd, .ref rf, .int 0, .int 1])), (rf, .inl (y 0, 3, .inl (fun _ => 0))), (nw, .inr (4, [.ref kk, .ref nk, .ref nd, .ref ne, .ref nm, .ref nn, .int 0, .int 0, .int 0, .int 0, .int 0]))] H := hP
    have hD : va_D A [(g, .inr (10, [.ref kk, .ref nw, .ref im, .ref kp, .ref tx, .ref tr, .ref be, .ref sh, .ref sd, .ref rf, .int 0, .int 1])), (rf, .inl (y 0, 3, .inl (fun _ => 0))), (nw, .inr (4, [.ref kk, .ref nk, .ref nd, .ref ne, .ref nm, .ref nn, .int 0, .int 0, .int 0, .int 0, .int 0]))] := hD
    refine lv_if_eq (tgt := 21) hx hb dX10_then_8 (by decide) (fun _ => ?_) (fun h9 => absurd h9 (by decide))
    refine lv_aload_n hx hb dX10_then_21 rfl (lv_at hl 0 rfl) ?_
    have hs7 : kw_Split [(g, .inr (10, [.ref kk, .ref nw, .ref im, .ref kp, .ref tx, .ref tr, .ref be, .ref sh, .ref sd, .ref rf, .int 0, .int 1])), (rf, .inl (y 0, 3, .inl (fun _ => 0))), (nw, .inr (4, [.ref kk, .ref nk, .ref nd, .ref ne, .ref nm, .ref nn, .int 0, .int 0, .int 0, .int 0, .int 0]))] [(g, .inr (10, [.ref kk, .ref nw, .ref im, .ref kp, .ref tx, .ref tr, .ref be, .ref sh, .ref sd, .ref rf, .int 0, .int 1])), (rf, .inl (y 0, 3, .inl (fun _ => 0)))] [(nw, .inr (4, [.ref kk, .ref nk, .ref nd, .ref ne, .ref nm, .ref nn, .int 0, .int 0, .int 0, .int 0, .int 0]))] [0, 1] [2] := ⟨rfl, rfl, rfl, rfl, rfl, by decide⟩
    refine kw_go_i hs7 hP hD hS hA (va_runV (As := []) (rest := []) ⟨hx, hb, hml, hown, hts⟩ (ct_refuseBad l D y g kk nw im kp tx tr be sh sd rf (fun _ => 0)  _) (cwV 0 hts gX10_then_X10_refuseBad rfl rfl rfl (by decide +kernel) ⟨Nat.le_of_ble_eq_true rfl, Nat.le_of_ble_eq_true rfl⟩) (kw_PreV (ci := 10) (q0 := 0) hs7 hP hD hK hN rfl rfl) rfl rfl hl.1 rfl (lv_room (Nat.le_of_ble_eq_true rfl)) dX10_then_22 ⟨Nat.le_of_ble_eq_true rfl, Nat.le_of_ble_eq_true rfl⟩) (fun r u H locs hq hP hD hS => ?_)
    obtain rfl := hq
    have hP : va_P D vwCl [(nw, .inr (4, [.ref kk, .ref nk, .ref nd, .ref ne, .ref nm, .ref nn, .int 0, .int 0, .int 0, .int 0, .int 0]))] H := hP
    have hD : va_D A [(nw, .inr (4, [.ref kk, .ref nk, .ref nd, .ref ne, .ref nm, .ref nn, .int 0, .int 0, .int 0, .int 0, .int 0]))] := hD
    have hsp : ((-2) : Int32) = (-2) := by
      have gZ1 := Int32.lt_iff_toInt_lt.mp h2
      have lZ1 : (0 : Int32).toInt = 0 := by decide
      rfl
    exact W.iret (v := (-2)) hx hb hr (fun tZ ht hW => ⟨⟨(-2), (), rfl, hsp, by rw [ht]; exact hP.sub [] rfl, hD.sub [] (by decide) rfl⟩, hS.F ht⟩) hS.2.2 dX10_then_25
  · skip
    have hP : va_P D vwCl [(g, .inr (10, [.ref kk, .ref nw, .ref im, .ref kp, .ref tx, .ref tr, .ref be, .ref sh, .ref sd, .ref rf, .int 0, .int 1])), (rf, .inl (y 0, 3, .inl (fun _ => 0))), (nw, .inr (4, [.ref kk, .ref nk, .ref nd, .ref ne, .ref nm, .ref nn, .int 0, .int 0, .int 0, .int 0, .int 0]))] H := hP
    have hD : va_D A [(g, .inr (10, [.ref kk, .ref nw, .ref im, .ref kp, .ref tx, .ref tr, .ref be, .ref sh, .ref sd, .ref rf, .int 0, .int 1])), (rf, .inl (y 0, 3, .inl (fun _ => 0))), (nw, .inr (4, [.ref kk, .ref nk, .ref nd, .ref ne, .ref nm, .ref nn, .int 0, .int 0, .int 0, .int 0, .int 0]))] := hD
    refine lv_if_eq (tgt := 21) hx hb dX10_then_8 (by decide) (fun _ => ?_) (fun h9 => absurd h9 (by decide))
    refine lv_aload_n hx hb dX10_then_21 rfl (lv_at hl 0 rfl) ?_
    have hs8 : kw_Split [(g, .inr (10, [.ref kk, .ref nw, .ref im, .ref kp, .ref tx, .ref tr, .ref be, .ref sh, .ref sd, .ref rf, .int 0, .int 1])), (rf, .inl (y 0, 3, .inl (fun _ => 0))), (nw, .inr (4, [.ref kk, .ref nk, .ref nd, .ref ne, .ref nm, .ref nn, .int 0, .int 0, .int 0, .int 0, .int 0]))] [(g, .inr (10, [.ref kk, .ref nw, .ref im, .ref kp, .ref tx, .ref tr, .ref be, .ref sh, .ref sd, .ref rf, .int 0, .int 1])), (rf, .inl (y 0, 3, .inl (fun _ => 0)))] [(nw, .inr (4, [.ref kk, .ref nk, .ref nd, .ref ne, .ref nm, .ref nn, .int 0, .int 0, .int 0, .int 0, .int 0]))] [0, 1] [2] := ⟨rfl, rfl, rfl, rfl, rfl, by decide⟩
    refine kw_go_i hs8 hP hD hS hA (va_runV (As := []) (rest := []) ⟨hx, hb, hml, hown, hts⟩ (ct_refuseBad l D y g kk nw im kp tx tr be sh sd rf (fun _ => 0)  _) (cwV 0 hts gX10_then_X10_refuseBad rfl rfl rfl (by decide +kernel) ⟨Nat.le_of_ble_eq_true rfl, Nat.le_of_ble_eq_true rfl⟩) (kw_PreV (ci := 10) (q0 := 0) hs8 hP hD hK hN rfl rfl) rfl rfl hl.1 rfl (lv_room (Nat.le_of_ble_eq_true rfl)) dX10_then_22 ⟨Nat.le_of_ble_eq_true rfl, Nat.le_of_ble_eq_true rfl⟩) (fun r u H locs hq hP hD hS => ?_)
    obtain rfl := hq
    have hP : va_P D vwCl [(nw, .inr (4, [.ref kk, .ref nk, .ref nd, .ref ne, .ref nm, .ref nn, .int 0, .int 0, .int 0, .int 0, .int 0]))] H := hP
    have hD : va_D A [(nw, .inr (4, [.ref kk, .ref nk, .ref nd, .ref ne, .ref nm, .ref nn, .int 0, .int 0, .int 0, .int 0, .int 0]))] := hD
    have hsp : ((-2) : Int32) = (-2) := by
      have gZ1 : ¬ (x : Int32).toInt < (0 : Int32).toInt := fun q => h3 (Int32.lt_iff_toInt_lt.mpr q)
      have lZ1 : (0 : Int32).toInt = 0 := by decide
      have gZ2 := Int32.le_iff_toInt_le.mp h4
      rfl
    exact W.iret (v := (-2)) hx hb hr (fun tZ ht hW => ⟨⟨(-2), (), rfl, hsp, by rw [ht]; exact hP.sub [] rfl, hD.sub [] (by decide) rfl⟩, hS.F ht⟩) hS.2.2 dX10_then_25
  · skip
    exact (kw_x1 h5 h6).elim

set_option maxHeartbeats 4000000 in
set_option maxRecDepth 100000 in
theorem cp_round (l : Launch) (D : va_G) (y : Nat → ClassId) (g : Nat) (kk : Nat) (nw : Nat) (im : Nat) (kp : Nat) (tx : Nat) (tr : Nat) (be : Nat) (sh : Nat) (sd : Nat) (rf : Nat) (nk : Nat) (nd : Nat) (ne : Nat) (nm : Nat) (nn : Nat) (x : Int32) (x2 : Int32) (x3 : Int32) : kw_Mi l yX10_round wsX10_round ({ frames := 3, cells := 0, slots := 0, locals := 82 }) D y [.ref g, .int x, .int x2, .int x3] [(g, .inr (10, [.ref kk, .ref nw, .ref im, .ref kp, .ref tx, .ref tr, .ref be, .ref sh, .ref sd, .ref rf, .int 0, .int 1])), (rf, .inl (y 0, 3, .inl (fun _ => 0))), (nw, .inr (4, [.ref kk, .ref nk, .ref nd, .ref ne, .ref nm, .ref nn, .int 0, .int 0, .int 0, .int 0, .int 0]))] (fun (r : Int32) (u : Unit) => r = (-10)) (fun _ => []) 0 0 := by
  refine kw_Mi.of (cc := cX10_round) (maxL := 4) (ret := (some .int)) (by decide) rfl ?_
  intro pZ eZ s mZ beZ meZ cZ A hE
  obtain ⟨hx, hb, hr, hml, hts, hown, hlocks, hin, hA, hP, hD, hK, hN⟩ := hE
  have hS : va_S A s.heap s.heap [] := va_S.rf
  have hl := lv_entry ([.ref g, .int x, .int x2, .int x3]) (n := 4) (Nat.le_of_ble_eq_true rfl)
  rw [lg_entry_eq]
  generalize (lg_sl ([.ref g, .int x, .int x2, .int x3]) ++ List.replicate (4 - (lg_sl ([.ref g, .int x, .int x2, .int x3])).length) Slot.unset).toArray = ls at hl ⊢
  have hl : lv_has ls 4 [(0, .ref g), (1, .int x), (2, .int x2), (3, .int x3)] := hl
  have fw1 := hts (.fieldLink RX10 36 "GleanDusk" "now" "LGleanDusk$Parish;") (List.mem_of_getElem? (i := 1) rfl)
  have i10 : ∀ w ∈ wsX100, w ∈ wsX10_round := fun _ h => List.mem_cons_of_mem _ (List.mem_append_left _ (List.mem_append_left _ (List.mem_append_left _ (List.mem_append_right _ h))))
  refine lv_aload_n hx hb dX10_round_0 rfl (lv_at hl 0 rfl) ?_
  refine va_get (D := D) (ci := 10) (v := .ref nw) (C := RX10) (T := TX10) (N := 12) hx hb hts i10 hown hK hP 0 rfl rfl 1 (by decide) fw1 (fun _ h9 => h9) rfl dX10_round_1 ?_
  refine lv_iload_n hx hb dX10_round_4 rfl (lv_at hl 1 rfl) ?_
  have hs1 : kw_Split [(g, .inr (10, [.ref kk, .ref nw, .ref im, .ref kp, .ref tx, .ref tr, .ref be, .ref sh, .ref sd, .ref rf, .int 0, .int 1])), (rf, .inl (y 0, 3, .inl (fun _ => 0))), (nw, .inr (4, [.ref kk, .ref nk, .ref nd, .ref ne, .ref nm, .ref nn, .int 0, .int 0, .int 0, .int 0, .int 0]))] [(nw, .inr (4, [.ref kk, .ref nk, .ref nd, .ref ne, .ref nm, .ref nn, .int 0, .int 0, .int 0, .int 0, .int 0]))] [(g, .inr (10, [.ref kk, .ref nw, .ref im, .ref kp, .ref tx, .ref tr, .ref be, .ref sh, .ref sd, .ref rf, .int 0, .int 1])), (rf, .inl (y 0, 3, .inl (fun _ => 0)))] [2] [0, 1] := ⟨rfl, rfl, rfl, rfl, rfl, by decide⟩
  refine kw_go_i hs1 hP hD hS hA (va_runV (As := [.int x]) (rest := []) ⟨hx, hb, hml, hown, hts⟩ (ct_hasGleaner l D y nw kk nk nd ne nm nn 0 0 0 0 0 x  _) (cwV 1 hts gX10_round_X4_hasGleaner rfl rfl rfl (by decide +kernel) ⟨Nat.le_of_ble_eq_true rfl, Nat.le_of_ble_eq_true rfl⟩) (kw_PreV (ci := 4) (q0 := 2) hs1 hP hD hK hN rfl rfl) rfl rfl hl.1 rfl (lv_room (Nat.le_of_ble_eq_true rfl)) dX10_round_5 ⟨Nat.le_of_ble_eq_true rfl, Nat.le_of_ble_eq_true rfl⟩) (fun r u H locs hq hP hD hS => ?_)
  rcases hq with ⟨h2, rfl⟩ | ⟨h3, h4, rfl⟩ | ⟨h5, h6, rfl⟩
  · skip
    have hP : va_P D vwCl [(g, .inr (10, [.ref kk, .ref nw, .ref im, .ref kp, .ref tx, .ref tr, .ref be, .ref sh, .ref sd, .ref rf, .int 0, .int 1])), (rf, .inl (y 0, 3, .inl (fun _ => 0))), (nw, .inr (4, [.ref kk, .ref nk, .ref nd, .ref ne, .ref nm, .ref nn, .int 0, .int 0, .int 0, .int 0, .int 0]))] H := hP
    have hD : va_D A [(g, .inr (10, [.ref kk, .ref nw, .ref im, .ref kp, .ref tx, .ref tr, .ref be, .ref sh, .ref sd, .ref rf, .int 0, .int 1])), (rf, .inl (y 0, 3, .inl (fun _ => 0))), (nw, .inr (4, [.ref kk, .ref nk, .ref nd, .ref ne, .ref nm, .ref nn, .int 0, .int 0, .int 0, .int 0, .int 0]))] := hD
    refine lv_if_eq (tgt := 26) hx hb dX10_round_8 (by decide) (fun _ => ?_) (fun h9 => absurd h9 (by decide))
    refine lv_aload_n hx hb dX10_round_26 rfl (lv_at hl 0 rfl) ?_
    have hs7 : kw_Split [(g, .inr (10, [.ref kk, .ref nw, .ref im, .ref kp, .ref tx, .ref tr, .ref be, .ref sh, .ref sd, .ref rf, .int 0, .int 1])), (rf, .inl (y 0, 3, .inl (fun _ => 0))), (nw, .inr (4, [.ref kk, .ref nk, .ref nd, .ref ne, .ref nm, .ref nn, .int 0, .int 0, .int 0, .int 0, .int 0]))] [(g, .inr (10, [.ref kk, .ref nw, .ref im, .ref kp, .ref tx, .ref tr, .ref be, .ref sh, .ref sd, .ref rf, .int 0, .int 1])), (rf, .inl (y 0, 3, .inl (fun _ => 0)))] [(nw, .inr (4, [.ref kk, .ref nk, .ref nd, .ref ne, .ref nm, .ref nn, .int 0, .int 0, .int 0, .int 0, .int 0]))] [0, 1] [2] := ⟨rfl, rfl, rfl, rfl, rfl, by decide⟩
    refine kw_go_i hs7 hP hD hS hA (va_runV (As := []) (rest := []) ⟨hx, hb, hml, hown, hts⟩ (ct_refuseTen l D y g kk nw im kp tx tr be sh sd rf (fun _ => 0)  _) (cwV 0 hts gX10_round_X10_refuseTen rfl rfl rfl (by decide +kernel) ⟨Nat.le_of_ble_eq_true rfl, Nat.le_of_ble_eq_true rfl⟩) (kw_PreV (ci := 10) (q0 := 0) hs7 hP hD hK hN rfl rfl) rfl rfl hl.1 rfl (lv_room (Nat.le_of_ble_eq_true rfl)) dX10_round_27 ⟨Nat.le_of_ble_eq_true rfl, Nat.le_of_ble_eq_true rfl⟩) (fun r u H locs hq hP hD hS => ?_)
    obtain rfl := hq
    have hP : va_P D vwCl [(nw, .inr (4, [.ref kk, .ref nk, .ref nd, .ref ne, .ref nm, .ref nn, .int 0, .int 0, .int 0, .int 0, .int 0]))] H := hP
    have hD : va_D A [(nw, .inr (4, [.ref kk, .ref nk, .ref nd, .ref ne, .ref nm, .ref nn, .int 0, .int 0, .int 0, .int 0, .int 0]))] := hD
    have hsp : ((-10) : Int32) = (-10) := by
      have gZ1 := Int32.lt_iff_toInt_lt.mp h2
      have lZ1 : (0 : Int32).toInt = 0 := by decide
      rfl
    exact W.iret (v := (-10)) hx hb hr (fun tZ ht hW => ⟨⟨(-10), (), rfl, hsp, by rw [ht]; exact hP.sub [] rfl, hD.sub [] (by decide) rfl⟩, hS.F ht⟩) hS.2.2 dX10_round_30
  · skip
    have hP : va_P D vwCl [(g, .inr (10, [.ref kk, .ref nw, .ref im, .ref kp, .ref tx, .ref tr, .ref be, .ref sh, .ref sd, .ref rf, .int 0, .int 1])), (rf, .inl (y 0, 3, .inl (fun _ => 0))), (nw, .inr (4, [.ref kk, .ref nk, .ref nd, .ref ne, .ref nm, .ref nn, .int 0, .int 0, .int 0, .int 0, .int 0]))] H := hP
    have hD : va_D A [(g, .inr (10, [.ref kk, .ref nw, .ref im, .ref kp, .ref tx, .ref tr, .ref be, .ref sh, .ref sd, .ref rf, .int 0, .int 1])), (rf, .inl (y 0, 3, .inl (fun _ => 0))), (nw, .inr (4, [.ref kk, .ref nk, .ref nd, .ref ne, .ref nm, .ref nn, .int 0, .int 0, .int 0, .int 0, .int 0]))] := hD
    refine lv_if_eq (tgt := 26) hx hb dX10_round_8 (by decide) (fun _ => ?_) (fun h9 => absurd h9 (by decide))
    refine lv_aload_n hx hb dX10_round_26 rfl (lv_at hl 0 rfl) ?_
    have hs8 : kw_Split [(g, .inr (10, [.ref kk, .ref nw, .ref im, .ref kp, .ref tx, .ref tr, .ref be, .ref sh, .ref sd, .ref rf, .int 0, .int 1])), (rf, .inl (y 0, 3, .inl (fun _ => 0))), (nw, .inr (4, [.ref kk, .ref nk, .ref nd, .ref ne, .ref nm, .ref nn, .int 0, .int 0, .int 0, .int 0, .int 0]))] [(g, .inr (10, [.ref kk, .ref nw, .ref im, .ref kp, .ref tx, .ref tr, .ref be, .ref sh, .ref sd, .ref rf, .int 0, .int 1])), (rf, .inl (y 0, 3, .inl (fun _ => 0)))] [(nw, .inr (4, [.ref kk, .ref nk, .ref nd, .ref ne, .ref nm, .ref nn, .int 0, .int 0, .int 0, .int 0, .int 0]))] [0, 1] [2] := ⟨rfl, rfl, rfl, rfl, rfl, by decide⟩
    refine kw_go_i hs8 hP hD hS hA (va_runV (As := []) (rest := []) ⟨hx, hb, hml, hown, hts⟩ (ct_refuseTen l D y g kk nw im kp tx tr be sh sd rf (fun _ => 0)  _) (cwV 0 hts gX10_round_X10_refuseTen rfl rfl rfl (by decide +kernel) ⟨Nat.le_of_ble_eq_true rfl, Nat.le_of_ble_eq_true rfl⟩) (kw_PreV (ci := 10) (q0 := 0) hs8 hP hD hK hN rfl rfl) rfl rfl hl.1 rfl (lv_room (Nat.le_of_ble_eq_true rfl)) dX10_round_27 ⟨Nat.le_of_ble_eq_true rfl, Nat.le_of_ble_eq_true rfl⟩) (fun r u H locs hq hP hD hS => ?_)
    obtain rfl := hq
    have hP : va_P D vwCl [(nw, .inr (4, [.ref kk, .ref nk, .ref nd, .ref ne, .ref nm, .ref nn, .int 0, .int 0, .int 0, .int 0, .int 0]))] H := hP
    have hD : va_D A [(nw, .inr (4, [.ref kk, .ref nk, .ref nd, .ref ne, .ref nm, .ref nn, .int 0, .int 0, .int 0, .int 0, .int 0]))] := hD
    have hsp : ((-10) : Int32) = (-10) := by
      have gZ1 : ¬ (x : Int32).toInt < (0 : Int32).toInt := fun q => h3 (Int32.lt_iff_toInt_lt.mpr q)
      have lZ1 : (0 : Int32).toInt = 0 := by decide
      have gZ2 := Int32.le_iff_toInt_le.mp h4
      rfl
    exact W.iret (v := (-10)) hx hb hr (fun tZ ht hW => ⟨⟨(-10), (), rfl, hsp, by rw [ht]; exact hP.sub [] rfl, hD.sub [] (by decide) rfl⟩, hS.F ht⟩) hS.2.2 dX10_round_30
  · skip
    exact (kw_x1 h5 h6).elim

set_option maxHeartbeats 4000000 in
set_option maxRecDepth 100000 in
theorem cp_places (l : Launch) (D : va_G) (y : Nat → ClassId) (g : Nat) (kk : Nat) (nw : Nat) (im : Nat) (kp : Nat) (tx : Nat) (tr : Nat) (be : Nat) (sh : Nat) (sd : Nat) (rf : Nat) (nk : Nat) (nd : Nat) (ne : Nat) (nm : Nat) (nn : Nat) (w : Int32) (g1 : Int32) : kw_Mi l yX10_places wsX10_places ({ frames := 3, cells := 0, slots := 0, locals := 82 }) D y [.ref g, .int w, .int g1] [(g, .inr (10, [.ref kk, .ref nw, .ref im, .ref kp, .ref tx, .ref tr, .ref be, .ref sh, .ref sd, .ref rf, .int 0, .int 1])), (rf, .inl (y 0, 3, .inl (fun _ => 0))), (nw, .inr (4, [.ref kk, .ref nk, .ref nd, .ref ne, .ref nm, .ref nn, .int 0, .int 0, .int 0, .int 0, .int 0]))] (fun (r : Int32) (u : Unit) => r = (sp_places w g1)) (fun _ => []) 0 0 := by
  refine kw_Mi.of (cc := cX10_places) (maxL := 3) (ret := (some .int)) (by decide) rfl ?_
  intro pZ eZ s mZ beZ meZ cZ A hE
  obtain ⟨hx, hb, hr, hml, hts, hown, hlocks, hin, hA, hP, hD, hK, hN⟩ := hE
  have hS : va_S A s.heap s.heap [] := va_S.rf
  have hl := lv_entry ([.ref g, .int w, .int g1]) (n := 3) (Nat.le_of_ble_eq_true rfl)
  rw [lg_entry_eq]
  generalize (lg_sl ([.ref g, .int w, .int g1]) ++ List.replicate (3 - (lg_sl ([.ref g, .int w, .int g1])).length) Slot.unset).toArray = ls at hl ⊢
  have hl : lv_has ls 3 [(0, .ref g), (1, .int w), (2, .int g1)] := hl
  have fw1 := hts (.fieldLink RX10 36 "GleanDusk" "now" "LGleanDusk$Parish;") (List.mem_of_getElem? (i := 1) rfl)
  have fw2 := hts (.fieldLink RX10 115 "GleanDusk$Parish" "gleaners" "I") (List.mem_of_getElem? (i := 2) rfl)
  have i10 : ∀ w ∈ wsX100, w ∈ wsX10_places := fun _ h => List.mem_cons_of_mem _ (List.mem_append_left _ (List.mem_append_left _ (List.mem_append_left _ (List.mem_append_right _ h))))
  have i4 : ∀ w ∈ wsX40, w ∈ wsX10_places := fun _ h => List.mem_cons_of_mem _ (List.mem_append_left _ (List.mem_append_left _ (List.mem_append_right _ h)))
  refine lv_iload_n hx hb dX10_places_0 rfl (lv_at hl 1 rfl) ?_
  refine lv_iconst (v := 2) hx hb dX10_places_1 (by decide) ?_
  have hs1 : kw_Split [(g, .inr (10, [.ref kk, .ref nw, .ref im, .ref kp, .ref tx, .ref tr, .ref be, .ref sh, .ref sd, .ref rf, .int 0, .int 1])), (rf, .inl (y 0, 3, .inl (fun _ => 0))), (nw, .inr (4, [.ref kk, .ref nk, .ref nd, .ref ne, .ref nm, .ref nn, .int 0, .int 0, .int 0, .int 0, .int 0]))] [] [(g, .inr (10, [.ref kk, .ref nw, .ref im, .ref kp, .ref tx, .ref tr, .ref be, .ref sh, .ref sd, .ref rf, .int 0, .int 1])), (rf, .inl (y 0, 3, .inl (fun _ => 0))), (nw, .inr (4, [.ref kk, .ref nk, .ref nd, .ref ne, .ref nm, .ref nn, .int 0, .int 0, .int 0, .int 0, .int 0]))] [] [0, 1, 2] := ⟨rfl, rfl, rfl, rfl, rfl, by decide⟩
  refine kw_go_i hs1 hP hD hS hA (va_runS (As := [.int w, .int 2]) (rest := []) ⟨hx, hb, hml, hown, hts⟩ (ct_isBelow l D y w 2  _) (va_cwS 2 hts gX10_places_X10_isBelow rfl rfl rfl (by decide +kernel) ⟨Nat.le_of_ble_eq_true rfl, Nat.le_of_ble_eq_true rfl⟩) (kw_PreS hs1 hP hD hK hN) rfl rfl hl.1 rfl (lv_room (Nat.le_of_ble_eq_true rfl)) dX10_places_2 ⟨Nat.le_of_ble_eq_true rfl, Nat.le_of_ble_eq_true rfl⟩) (fun r u H locs hq hP hD hS => ?_)
  rcases hq with ⟨h2, rfl⟩ | ⟨h3, h4, rfl⟩ | ⟨h5, h6, rfl⟩
  · skip
    have hP : va_P D vwCl [(g, .inr (10, [.ref kk, .ref nw, .ref im, .ref kp, .ref tx, .ref tr, .ref be, .ref sh, .ref sd, .ref rf, .int 0, .int 1])), (rf, .inl (y 0, 3, .inl (fun _ => 0))), (nw, .inr (4, [.ref kk, .ref nk, .ref nd, .ref ne, .ref nm, .ref nn, .int 0, .int 0, .int 0, .int 0, .int 0]))] H := hP
    have hD : va_D A [(g, .inr (10, [.ref kk, .ref nw, .ref im, .ref kp, .ref tx, .ref tr, .ref be, .ref sh, .ref sd, .ref rf, .int 0, .int 1])), (rf, .inl (y 0, 3, .inl (fun _ => 0))), (nw, .inr (4, [.ref kk, .ref nk, .ref nd, .ref ne, .ref nm, .ref nn, .int 0, .int 0, .int 0, .int 0, .int 0]))] := hD
    refine lv_if_eq (tgt := 24) hx hb dX10_places_5 (by decide) (fun _ => ?_) (fun h9 => absurd h9 (by decide))
    refine lv_aload_n hx hb dX10_places_24 rfl (lv_at hl 0 rfl) ?_
    have hs7 : kw_Split [(g, .inr (10, [.ref kk, .ref nw, .ref im, .ref kp, .ref tx, .ref tr, .ref be, .ref sh, .ref sd, .ref rf, .int 0, .int 1])), (rf, .inl (y 0, 3, .inl (fun _ => 0))), (nw, .inr (4, [.ref kk, .ref nk, .ref nd, .ref ne, .ref nm, .ref nn, .int 0, .int 0, .int 0, .int 0, .int 0]))] [(g, .inr (10, [.ref kk, .ref nw, .ref im, .ref kp, .ref tx, .ref tr, .ref be, .ref sh, .ref sd, .ref rf, .int 0, .int 1])), (rf, .inl (y 0, 3, .inl (fun _ => 0)))] [(nw, .inr (4, [.ref kk, .ref nk, .ref nd, .ref ne, .ref nm, .ref nn, .int 0, .int 0, .int 0, .int 0, .int 0]))] [0, 1] [2] := ⟨rfl, rfl, rfl, rfl, rfl, by decide⟩
    refine kw_go_i hs7 hP hD hS hA (va_runV (As := []) (rest := []) ⟨hx, hb, hml, hown, hts⟩ (ct_refuseTen l D y g kk nw im kp tx tr be sh sd rf (fun _ => 0)  _) (cwV 0 hts gX10_places_X10_refuseTen rfl rfl rfl (by decide +kernel) ⟨Nat.le_of_ble_eq_true rfl, Nat.le_of_ble_eq_true rfl⟩) (kw_PreV (ci := 10) (q0 := 0) hs7 hP hD hK hN rfl rfl) rfl rfl hl.1 rfl (lv_room (Nat.le_of_ble_eq_true rfl)) dX10_places_25 ⟨Nat.le_of_ble_eq_true rfl, Nat.le_of_ble_eq_true rfl⟩) (fun r u H locs hq hP hD hS => ?_)
    obtain rfl := hq
    have hP : va_P D vwCl [(nw, .inr (4, [.ref kk, .ref nk, .ref nd, .ref ne, .ref nm, .ref nn, .int 0, .int 0, .int 0, .int 0, .int 0]))] H := hP
    have hD : va_D A [(nw, .inr (4, [.ref kk, .ref nk, .ref nd, .ref ne, .ref nm, .ref nn, .int 0, .int 0, .int 0, .int 0, .int 0]))] := hD
    have hsp : ((-10) : Int32) = (sp_places w g1) := by
      have gZ1 := Int32.lt_iff_toInt_lt.mp h2
      have lZ1 : (0 : Int32).toInt = 0 := by decide
      unfold sp_places; first | rfl | decide | exact (if_neg (by omega)).symm | exact (if_pos (by omega)).symm | exact ((if_pos (by omega)).trans (if_neg (by omega))).symm | exact ((if_pos (by omega)).trans (if_pos (by omega))).symm | exact ((if_neg (by omega)).trans (if_pos (by omega))).symm | exact ((if_neg (by omega)).trans (if_neg (by omega))).symm
    exact W.iret (v := (-10)) hx hb hr (fun tZ ht hW => ⟨⟨(-10), (), rfl, hsp, by rw [ht]; exact hP.sub [] rfl, hD.sub [] (by decide) rfl⟩, hS.F ht⟩) hS.2.2 dX10_places_28
  · skip
    have hP : va_P D vwCl [(g, .inr (10, [.ref kk, .ref nw, .ref im, .ref kp, .ref tx, .ref tr, .ref be, .ref sh, .ref sd, .ref rf, .int 0, .int 1])), (rf, .inl (y 0, 3, .inl (fun _ => 0))), (nw, .inr (4, [.ref kk, .ref nk, .ref nd, .ref ne, .ref nm, .ref nn, .int 0, .int 0, .int 0, .int 0, .int 0]))] H := hP
    have hD : va_D A [(g, .inr (10, [.ref kk, .ref nw, .ref im, .ref kp, .ref tx, .ref tr, .ref be, .ref sh, .ref sd, .ref rf, .int 0, .int 1])), (rf, .inl (y 0, 3, .inl (fun _ => 0))), (nw, .inr (4, [.ref kk, .ref nk, .ref nd, .ref ne, .ref nm, .ref nn, .int 0, .int 0, .int 0, .int 0, .int 0]))] := hD
    refine lv_if_eq (tgt := 24) hx hb dX10_places_5 (by decide) (fun _ => ?_) (fun h9 => absurd h9 (by decide))
    refine lv_aload_n hx hb dX10_places_24 rfl (lv_at hl 0 rfl) ?_
    have hs8 : kw_Split [(g, .inr (10, [.ref kk, .ref nw, .ref im, .ref kp, .ref tx, .ref tr, .ref be, .ref sh, .ref sd, .ref rf, .int 0, .int 1])), (rf, .inl (y 0, 3, .inl (fun _ => 0))), (nw, .inr (4, [.ref kk, .ref nk, .ref nd, .ref ne, .ref nm, .ref nn, .int 0, .int 0, .int 0, .int 0, .int 0]))] [(g, .inr (10, [.ref kk, .ref nw, .ref im, .ref kp, .ref tx, .ref tr, .ref be, .ref sh, .ref sd, .ref rf, .int 0, .int 1])), (rf, .inl (y 0, 3, .inl (fun _ => 0)))] [(nw, .inr (4, [.ref kk, .ref nk, .ref nd, .ref ne, .ref nm, .ref nn, .int 0, .int 0, .int 0, .int 0, .int 0]))] [0, 1] [2] := ⟨rfl, rfl, rfl, rfl, rfl, by decide⟩
    refine kw_go_i hs8 hP hD hS hA (va_runV (As := []) (rest := []) ⟨hx, hb, hml, hown, hts⟩ (ct_refuseTen l D y g kk nw im kp tx tr be sh sd rf (fun _ => 0)  _) (cwV 0 hts gX10_places_X10_refuseTen rfl rfl rfl (by decide +kernel) ⟨Nat.le_of_ble_eq_true rfl, Nat.le_of_ble_eq_true rfl⟩) (kw_PreV (ci := 10) (q0 := 0) hs8 hP hD hK hN rfl rfl) rfl rfl hl.1 rfl (lv_room (Nat.le_of_ble_eq_true rfl)) dX10_places_25 ⟨Nat.le_of_ble_eq_true rfl, Nat.le_of_ble_eq_true rfl⟩) (fun r u H locs hq hP hD hS => ?_)
    obtain rfl := hq
    have hP : va_P D vwCl [(nw, .inr (4, [.ref kk, .ref nk, .ref nd, .ref ne, .ref nm, .ref nn, .int 0, .int 0, .int 0, .int 0, .int 0]))] H := hP
    have hD : va_D A [(nw, .inr (4, [.ref kk, .ref nk, .ref nd, .ref ne, .ref nm, .ref nn, .int 0, .int 0, .int 0, .int 0, .int 0]))] := hD
    have hsp : ((-10) : Int32) = (sp_places w g1) := by
      have gZ1 : ¬ (w : Int32).toInt < (0 : Int32).toInt := fun q => h3 (Int32.lt_iff_toInt_lt.mpr q)
      have lZ1 : (0 : Int32).toInt = 0 := by decide
      have gZ2 := Int32.le_iff_toInt_le.mp h4
      have lZ2 : (2 : Int32).toInt = 2 := by decide
      unfold sp_places; first | rfl | decide | exact (if_neg (by omega)).symm | exact (if_pos (by omega)).symm | exact ((if_pos (by omega)).trans (if_neg (by omega))).symm | exact ((if_pos (by omega)).trans (if_pos (by omega))).symm | exact ((if_neg (by omega)).trans (if_pos (by omega))).symm | exact ((if_neg (by omega)).trans (if_neg (by omega))).symm
    exact W.iret (v := (-10)) hx hb hr (fun tZ ht hW => ⟨⟨(-10), (), rfl, hsp, by rw [ht]; exact hP.sub [] rfl, hD.sub [] (by decide) rfl⟩, hS.F ht⟩) hS.2.2 dX10_places_28
  · skip
    have hP : va_P D vwCl [(g, .inr (10, [.ref kk, .ref nw, .ref im, .ref kp, .ref tx, .ref tr, .ref be, .ref sh, .ref sd, .ref rf, .int 0, .int 1])), (rf, .inl (y 0, 3, .inl (fun _ => 0))), (nw, .inr (4, [.ref kk, .ref nk, .ref nd, .ref ne, .ref nm, .ref nn, .int 0, .int 0, .int 0, .int 0, .int 0]))] H := hP
    have hD : va_D A [(g, .inr (10, [.ref kk, .ref nw, .ref im, .ref kp, .ref tx, .ref tr, .ref be, .ref sh, .ref sd, .ref rf, .int 0, .int 1])), (rf, .inl (y 0, 3, .inl (fun _ => 0))), (nw, .inr (4, [.ref kk, .ref nk, .ref nd, .ref ne, .ref nm, .ref nn, .int 0, .int 0, .int 0, .int 0, .int 0]))] := hD
    refine lv_if_eq (tgt := 24) hx hb dX10_places_5 (by decide) (fun h9 => absurd h9 (by decide)) (fun _ => ?_)
    refine lv_iload_n hx hb dX10_places_8 rfl (lv_at hl 2 rfl) ?_
    refine lv_iconst (v := (-1)) hx hb dX10_places_9 (by decide) ?_
    refine lv_icmp_eq (tgt := 29) hx hb dX10_places_10 (by decide) (fun h9 => ?_) (fun h10 => ?_)
    · skip
      refine lv_aload_n hx hb dX10_places_29 rfl (lv_at hl 0 rfl) ?_
      refine va_get (D := D) (ci := 10) (v := .ref nw) (C := RX10) (T := TX10) (N := 12) hx hb hts i10 hown hK hP 0 rfl rfl 1 (by decide) fw1 (fun _ h9 => h9) rfl dX10_places_30 ?_
      refine va_get (D := D) (ci := 4) (v := .int 0) (C := RX4) (T := TX4) (N := 11) hx hb hts i4 hown hK hP 2 rfl rfl 7 (by decide) fw2 (fun _ h9 => h9) rfl dX10_places_33 ?_
      refine lv_if_ne (tgt := 41) hx hb dX10_places_36 (by decide) (fun h9 => absurd h9 (by decide)) (fun _ => ?_)
      refine lv_iconst (v := 0) hx hb dX10_places_39 (by decide) ?_
      have hsp : (0 : Int32) = (sp_places w g1) := by
        have gZ1 : ¬ (w : Int32).toInt < (0 : Int32).toInt := fun q => h5 (Int32.lt_iff_toInt_lt.mpr q)
        have lZ1 : (0 : Int32).toInt = 0 := by decide
        have gZ2 : ¬ (2 : Int32).toInt ≤ (w : Int32).toInt := fun q => h6 (Int32.le_iff_toInt_le.mpr q)
        have lZ2 : (2 : Int32).toInt = 2 := by decide
        have gZ3 := congrArg Int32.toInt h9
        have lZ3 : ((-1) : Int32).toInt = -1 := by decide
        unfold sp_places; first | rfl | decide | exact (if_neg (by omega)).symm | exact (if_pos (by omega)).symm | exact ((if_pos (by omega)).trans (if_neg (by omega))).symm | exact ((if_pos (by omega)).trans (if_pos (by omega))).symm | exact ((if_neg (by omega)).trans (if_pos (by omega))).symm | exact ((if_neg (by omega)).trans (if_neg (by omega))).symm
      exact W.iret (v := 0) hx hb hr (fun tZ ht hW => ⟨⟨0, (), rfl, hsp, by rw [ht]; exact hP.sub [] rfl, hD.sub [] (by decide) rfl⟩, hS.F ht⟩) hS.2.2 dX10_places_40
    · skip
      refine lv_aload_n hx hb dX10_places_13 rfl (lv_at hl 0 rfl) ?_
      refine va_get (D := D) (ci := 10) (v := .ref nw) (C := RX10) (T := TX10) (N := 12) hx hb hts i10 hown hK hP 0 rfl rfl 1 (by decide) fw1 (fun _ h9 => h9) rfl dX10_places_14 ?_
      refine lv_iload_n hx hb dX10_places_17 rfl (lv_at hl 2 rfl) ?_
      have hs11 : kw_Split [(g, .inr (10, [.ref kk, .ref nw, .ref im, .ref kp, .ref tx, .ref tr, .ref be, .ref sh, .ref sd, .ref rf, .int 0, .int 1])), (rf, .inl (y 0, 3, .inl (fun _ => 0))), (nw, .inr (4, [.ref kk, .ref nk, .ref nd, .ref ne, .ref nm, .ref nn, .int 0, .int 0, .int 0, .int 0, .int 0]))] [(nw, .inr (4, [.ref kk, .ref nk, .ref nd, .ref ne, .ref nm, .ref nn, .int 0, .int 0, .int 0, .int 0, .int 0]))] [(g, .inr (10, [.ref kk, .ref nw, .ref im, .ref kp, .ref tx, .ref tr, .ref be, .ref sh, .ref sd, .ref rf, .int 0, .int 1])), (rf, .inl (y 0, 3, .inl (fun _ => 0)))] [2] [0, 1] := ⟨rfl, rfl, rfl, rfl, rfl, by decide⟩
      refine kw_go_i hs11 hP hD hS hA (va_runV (As := [.int g1]) (rest := []) ⟨hx, hb, hml, hown, hts⟩ (ct_hasGleaner l D y nw kk nk nd ne nm nn 0 0 0 0 0 g1  _) (cwV 1 hts gX10_places_X4_hasGleaner rfl rfl rfl (by decide +kernel) ⟨Nat.le_of_ble_eq_true rfl, Nat.le_of_ble_eq_true rfl⟩) (kw_PreV (ci := 4) (q0 := 2) hs11 hP hD hK hN rfl rfl) rfl rfl hl.1 rfl (lv_room (Nat.le_of_ble_eq_true rfl)) dX10_places_18 ⟨Nat.le_of_ble_eq_true rfl, Nat.le_of_ble_eq_true rfl⟩) (fun r u H locs hq hP hD hS => ?_)
      rcases hq with ⟨h12, rfl⟩ | ⟨h13, h14, rfl⟩ | ⟨h15, h16, rfl⟩
      · skip
        have hP : va_P D vwCl [(g, .inr (10, [.ref kk, .ref nw, .ref im, .ref kp, .ref tx, .ref tr, .ref be, .ref sh, .ref sd, .ref rf, .int 0, .int 1])), (rf, .inl (y 0, 3, .inl (fun _ => 0))), (nw, .inr (4, [.ref kk, .ref nk, .ref nd, .ref ne, .ref nm, .ref nn, .int 0, .int 0, .int 0, .int 0, .int 0]))] H := hP
        have hD : va_D A [(g, .inr (10, [.ref kk, .ref nw, .ref im, .ref kp, .ref tx, .ref tr, .ref be, .ref sh, .ref sd, .ref rf, .int 0, .int 1])), (rf, .inl (y 0, 3, .inl (fun _ => 0))), (nw, .inr (4, [.ref kk, .ref nk, .ref nd, .ref ne, .ref nm, .ref nn, .int 0, .int 0, .int 0, .int 0, .int 0]))] := hD
        refine lv_if_ne (tgt := 29) hx hb dX10_places_21 (by decide) (fun h9 => absurd h9 (by decide)) (fun _ => ?_)
        refine lv_aload_n hx hb dX10_places_24 rfl (lv_at hl 0 rfl) ?_
        have hs17 : kw_Split [(g, .inr (10, [.ref kk, .ref nw, .ref im, .ref kp, .ref tx, .ref tr, .ref be, .ref sh, .ref sd, .ref rf, .int 0, .int 1])), (rf, .inl (y 0, 3, .inl (fun _ => 0))), (nw, .inr (4, [.ref kk, .ref nk, .ref nd, .ref ne, .ref nm, .ref nn, .int 0, .int 0, .int 0, .int 0, .int 0]))] [(g, .inr (10, [.ref kk, .ref nw, .ref im, .ref kp, .ref tx, .ref tr, .ref be, .ref sh, .ref sd, .ref rf, .int 0, .int 1])), (rf, .inl (y 0, 3, .inl (fun _ => 0)))] [(nw, .inr (4, [.ref kk, .ref nk, .ref nd, .ref ne, .ref nm, .ref nn, .int 0, .int 0, .int 0, .int 0, .int 0]))] [0, 1] [2] := ⟨rfl, rfl, rfl, rfl, rfl, by decide⟩
        refine kw_go_i hs17 hP hD hS hA (va_runV (As := []) (rest := []) ⟨hx, hb, hml, hown, hts⟩ (ct_refuseTen l D y g kk nw im kp tx tr be sh sd rf (fun _ => 0)  _) (cwV 0 hts gX10_places_X10_refuseTen rfl rfl rfl (by decide +kernel) ⟨Nat.le_of_ble_eq_true rfl, Nat.le_of_ble_eq_true rfl⟩) (kw_PreV (ci := 10) (q0 := 0) hs17 hP hD hK hN rfl rfl) rfl rfl hl.1 rfl (lv_room (Nat.le_of_ble_eq_true rfl)) dX10_places_25 ⟨Nat.le_of_ble_eq_true rfl, Nat.le_of_ble_eq_true rfl⟩) (fun r u H locs hq hP hD hS => ?_)
        obtain rfl := hq
        have hP : va_P D vwCl [(nw, .inr (4, [.ref kk, .ref nk, .ref nd, .ref ne, .ref nm, .ref nn, .int 0, .int 0, .int 0, .int 0, .int 0]))] H := hP
        have hD : va_D A [(nw, .inr (4, [.ref kk, .ref nk, .ref nd, .ref ne, .ref nm, .ref nn, .int 0, .int 0, .int 0, .int 0, .int 0]))] := hD
        have hsp : ((-10) : Int32) = (sp_places w g1) := by
          have gZ1 : ¬ (w : Int32).toInt < (0 : Int32).toInt := fun q => h5 (Int32.lt_iff_toInt_lt.mpr q)
          have lZ1 : (0 : Int32).toInt = 0 := by decide
          have gZ2 : ¬ (2 : Int32).toInt ≤ (w : Int32).toInt := fun q => h6 (Int32.le_iff_toInt_le.mpr q)
          have lZ2 : (2 : Int32).toInt = 2 := by decide
          have gZ3 : ¬ (g1 : Int32).toInt = ((-1) : Int32).toInt := fun q => h10 (Int32.toInt_inj.mp q)
          have lZ3 : ((-1) : Int32).toInt = -1 := by decide
          have gZ4 := Int32.lt_iff_toInt_lt.mp h12
          unfold sp_places; first | rfl | decide | exact (if_neg (by omega)).symm | exact (if_pos (by omega)).symm | exact ((if_pos (by omega)).trans (if_neg (by omega))).symm | exact ((if_pos (by omega)).trans (if_pos (by omega))).symm | exact ((if_neg (by omega)).trans (if_pos (by omega))).symm | exact ((if_neg (by omega)).trans (if_neg (by omega))).symm
        exact W.iret (v := (-10)) hx hb hr (fun tZ ht hW => ⟨⟨(-10), (), rfl, hsp, by rw [ht]; exact hP.sub [] rfl, hD.sub [] (by decide) rfl⟩, hS.F ht⟩) hS.2.2 dX10_places_28
      · skip
        have hP : va_P D vwCl [(g, .inr (10, [.ref kk, .ref nw, .ref im, .ref kp, .ref tx, .ref tr, .ref be, .ref sh, .ref sd, .ref rf, .int 0, .int 1])), (rf, .inl (y 0, 3, .inl (fun _ => 0))), (nw, .inr (4, [.ref kk, .ref nk, .ref nd, .ref ne, .ref nm, .ref nn, .int 0, .int 0, .int 0, .int 0, .int 0]))] H := hP
        have hD : va_D A [(g, .inr (10, [.ref kk, .ref nw, .ref im, .ref kp, .ref tx, .ref tr, .ref be, .ref sh, .ref sd, .ref rf, .int 0, .int 1])), (rf, .inl (y 0, 3, .inl (fun _ => 0))), (nw, .inr (4, [.ref kk, .ref nk, .ref nd, .ref ne, .ref nm, .ref nn, .int 0, .int 0, .int 0, .int 0, .int 0]))] := hD
        refine lv_if_ne (tgt := 29) hx hb dX10_places_21 (by decide) (fun h9 => absurd h9 (by decide)) (fun _ => ?_)
        refine lv_aload_n hx hb dX10_places_24 rfl (lv_at hl 0 rfl) ?_
        have hs18 : kw_Split [(g, .inr (10, [.ref kk, .ref nw, .ref im, .ref kp, .ref tx, .ref tr, .ref be, .ref sh, .ref sd, .ref rf, .int 0, .int 1])), (rf, .inl (y 0, 3, .inl (fun _ => 0))), (nw, .inr (4, [.ref kk, .ref nk, .ref nd, .ref ne, .ref nm, .ref nn, .int 0, .int 0, .int 0, .int 0, .int 0]))] [(g, .inr (10, [.ref kk, .ref nw, .ref im, .ref kp, .ref tx, .ref tr, .ref be, .ref sh, .ref sd, .ref rf, .int 0, .int 1])), (rf, .inl (y 0, 3, .inl (fun _ => 0)))] [(nw, .inr (4, [.ref kk, .ref nk, .ref nd, .ref ne, .ref nm, .ref nn, .int 0, .int 0, .int 0, .int 0, .int 0]))] [0, 1] [2] := ⟨rfl, rfl, rfl, rfl, rfl, by decide⟩
        refine kw_go_i hs18 hP hD hS hA (va_runV (As := []) (rest := []) ⟨hx, hb, hml, hown, hts⟩ (ct_refuseTen l D y g kk nw im kp tx tr be sh sd rf (fun _ => 0)  _) (cwV 0 hts gX10_places_X10_refuseTen rfl rfl rfl (by decide +kernel) ⟨Nat.le_of_ble_eq_true rfl, Nat.le_of_ble_eq_true rfl⟩) (kw_PreV (ci := 10) (q0 := 0) hs18 hP hD hK hN rfl rfl) rfl rfl hl.1 rfl (lv_room (Nat.le_of_ble_eq_true rfl)) dX10_places_25 ⟨Nat.le_of_ble_eq_true rfl, Nat.le_of_ble_eq_true rfl⟩) (fun r u H locs hq hP hD hS => ?_)
        obtain rfl := hq
        have hP : va_P D vwCl [(nw, .inr (4, [.ref kk, .ref nk, .ref nd, .ref ne, .ref nm, .ref nn, .int 0, .int 0, .int 0, .int 0, .int 0]))] H := hP
        have hD : va_D A [(nw, .inr (4, [.ref kk, .ref nk, .ref nd, .ref ne, .ref nm, .ref nn, .int 0, .int 0, .int 0, .int 0, .int 0]))] := hD
        have hsp : ((-10) : Int32) = (sp_places w g1) := by
          have gZ1 : ¬ (w : Int32).toInt < (0 : Int32).toInt := fun q => h5 (Int32.lt_iff_toInt_lt.mpr q)
          have lZ1 : (0 : Int32).toInt = 0 := by decide
          have gZ2 : ¬ (2 : Int32).toInt ≤ (w : Int32).toInt := fun q => h6 (Int32.le_iff_toInt_le.mpr q)
          have lZ2 : (2 : Int32).toInt = 2 := by decide
          have gZ3 : ¬ (g1 : Int32).toInt = ((-1) : Int32).toInt := fun q => h10 (Int32.toInt_inj.mp q)
          have lZ3 : ((-1) : Int32).toInt = -1 := by decide
          have gZ4 : ¬ (g1 : Int32).toInt < (0 : Int32).toInt := fun q => h13 (Int32.lt_iff_toInt_lt.mpr q)
          have gZ5 := Int32.le_iff_toInt_le.mp h14
          unfold sp_places; first | rfl | decide | exact (if_neg (by omega)).symm | exact (if_pos (by omega)).symm | exact ((if_pos (by omega)).trans (if_neg (by omega))).symm | exact ((if_pos (by omega)).trans (if_pos (by omega))).symm | exact ((if_neg (by omega)).trans (if_pos (by omega))).symm | exact ((if_neg (by omega)).trans (if_neg (by omega))).symm
        exact W.iret (v := (-10)) hx hb hr (fun tZ ht hW => ⟨⟨(-10), (), rfl, hsp, by rw [ht]; exact hP.sub [] rfl, hD.sub [] (by decide) rfl⟩, hS.F ht⟩) hS.2.2 dX10_places_28
      · skip
        exact (kw_x1 h15 h16).elim
