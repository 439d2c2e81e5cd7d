set_option maxHeartbeats 4000000 in
set_option maxRecDepth 100000 in
theorem gx_missed_ok (l : Launch) (D : va_G) (y : Nat → ClassId) (g : Nat) (kk : Nat) (nw : Nat) (im : Nat) (kp : Nat) (tx : Nat) (tr : Nat) (be : Nat) (sh : Nat) (sd : Nat) (rf : Nat) (ab : Int32) (bl : Int32) (frf : Nat → Int32) (nk : Nat) (nd : Nat) (ne : Nat) (nm : Nat) (nn : Nat) (fi : Nat) (gl : Nat) (un : Nat) (mi : Nat) (no : Nat) (m0 : Nat) (m1 : Nat) (m2 : Nat) (m3 : Nat) (m0f : Nat → Int32) (m1f : Nat → Int32) (m2f : Nat → Int32) (m3f : Nat → Int32) (fm : Nat → Option Nat) (an1 : Nat) (an2 : Nat) (an3 : Nat) (an4 : Nat) (hfi : fi ≤ 6) (hgl : gl ≤ 5) (hun : un ≤ 8) (hmi : mi ≤ 4) (hno : no ≤ 6) (hm0 : fm 0 = some m0) (hm1 : fm 1 = some m1) (hm2 : fm 2 = some m2) (hm3 : fm 3 = some m3) (hm0f : vp_in (m0f 0) 6) (hm1f : vp_in (m1f 0) 6) (hm2f : vp_in (m2f 0) 6) (hm3f : vp_in (m3f 0) 6) (hA2 : mi < 4) (hB0_ : an1 < fi) (hB1_ : an2 < 12) (hB2_ : an3 ≤ 60) (hB3_ : an4 ≤ 60) : kw_Mi l yX10_missed wsX10_missed ({ frames := 3, cells := 0, slots := 0, locals := 102 }) D y [.ref g, .int (nI an1), .int (nI an2), .int (nI an3), .int (nI an4)] [(g, .inr (10, [.ref kk, .ref nw, .ref im, .ref kp, .ref tx, .ref tr, .ref be, .ref sh, .ref sd, .ref rf, .int ab, .int bl])), (rf, .inl (y 0, 3, .inl frf)), (nw, .inr (4, [.ref kk, .ref nk, .ref nd, .ref ne, .ref nm, .ref nn, .int (nI fi), .int (nI gl), .int (nI un), .int (nI mi), .int (nI no)])), (nm, .inl (y 6, 4, .inr (.inr (.inr (.inr fm))))), (m0, .inl (y 0, 4, .inl m0f)), (m1, .inl (y 0, 4, .inl m1f)), (m2, .inl (y 0, 4, .inl m2f)), (m3, .inl (y 0, 4, .inl m3f))] (fun (r : Int32) (u : (Nat → Int32) × (Nat → Int32) × (Nat → Int32) × (Nat → Int32)) => vp_in (u.1 0) 6 ∧ vp_in (u.2.1 0) 6 ∧ vp_in (u.2.2.1 0) 6 ∧ vp_in (u.2.2.2 0) 6 ∧ r = (nI (mi + 1))) (fun u => [(g, .inr (10, [.ref kk, .ref nw, .ref im, .ref kp, .ref tx, .ref tr, .ref be, .ref sh, .ref sd, .ref rf, .int ab, .int bl])), (rf, .inl (y 0, 3, .inl frf)), (nw, .inr (4, [.ref kk, .ref nk, .ref nd, .ref ne, .ref nm, .ref nn, .int (nI fi), .int (nI gl), .int (nI un), .int (nI (mi + 1)), .int (nI no)])), (nm, .inl (y 6, 4, .inr (.inr (.inr (.inr fm))))), (m0, .inl (y 0, 4, .inl u.1)), (m1, .inl (y 0, 4, .inl u.2.1)), (m2, .inl (y 0, 4, .inl u.2.2.1)), (m3, .inl (y 0, 4, .inl u.2.2.2))]) 0 0 := by
  refine kw_Mi.of (cc := cX10_missed) (maxL := 5) (ret := (some .int)) (by decide) rfl ?_
  intro pZ eZ s mZ beZ meZ cZ A hE
  obtain ⟨hx, hb, hr, hml, hts, hown, hlocks, hin, hA, hP, hD, hK, hN⟩ := hE
  have hS : va_S A s.heap s.heap [] := va_S.rf
  have hl := lv_entry ([.ref g, .int (nI an1), .int (nI an2), .int (nI an3), .int (nI an4)]) (n := 5) (Nat.le_of_ble_eq_true rfl)
  rw [lg_entry_eq]
  generalize (lg_sl ([.ref g, .int (nI an1), .int (nI an2), .int (nI an3), .int (nI an4)]) ++ List.replicate (5 - (lg_sl ([.ref g, .int (nI an1), .int (nI an2), .int (nI an3), .int (nI an4)])).length) Slot.unset).toArray = ls at hl ⊢
  have hl : lv_has ls 5 [(0, .ref g), (1, .int (nI an1)), (2, .int (nI an2)), (3, .int (nI an3)), (4, .int (nI an4))] := hl
  have fw1 := hts (.fieldLink RX10 36 "GleanDusk" "now" "LGleanDusk$Parish;") (List.mem_of_getElem? (i := 1) rfl)
  have fw2 := hts (.fieldLink RX10 240 "GleanDusk$Parish" "missedCount" "I") (List.mem_of_getElem? (i := 2) rfl)
  have iw10 : ∀ w ∈ wsX100, w ∈ wsX10_missed := fun _ h => List.mem_cons_of_mem _ (List.mem_append_left _ (List.mem_append_right _ h))
  have iw4 : ∀ w ∈ wsX40, w ∈ wsX10_missed := fun _ h => List.mem_cons_of_mem _ (List.mem_append_right _ h)
  refine lv_aload_n hx hb dX10_missed_0 rfl (lv_at hl 0 rfl) ?_
  refine va_get (D := D) (ci := 10) (v := .ref nw) (C := RX10) (T := TX10) (N := 12) hx hb hts iw10 hown hK hP 0 rfl rfl 1 (by decide) fw1 (fun _ h9 => h9) rfl dX10_missed_1 ?_
  refine lv_iload_n hx hb dX10_missed_4 rfl (lv_at hl 1 rfl) ?_
  have hs1 : kw_Split [(g, .inr (10, [.ref kk, .ref nw, .ref im, .ref kp, .ref tx, .ref tr, .ref be, .ref sh, .ref sd, .ref rf, .int ab, .int bl])), (rf, .inl (y 0, 3, .inl frf)), (nw, .inr (4, [.ref kk, .ref nk, .ref nd, .ref ne, .ref nm, .ref nn, .int (nI fi), .int (nI gl), .int (nI un), .int (nI mi), .int (nI no)])), (nm, .inl (y 6, 4, .inr (.inr (.inr (.inr fm))))), (m0, .inl (y 0, 4, .inl m0f)), (m1, .inl (y 0, 4, .inl m1f)), (m2, .inl (y 0, 4, .inl m2f)), (m3, .inl (y 0, 4, .inl m3f))] [(nw, .inr (4, [.ref kk, .ref nk, .ref nd, .ref ne, .ref nm, .ref nn, .int (nI fi), .int (nI gl), .int (nI un), .int (nI mi), .int (nI no)]))] [(g, .inr (10, [.ref kk, .ref nw, .ref im, .ref kp, .ref tx, .ref tr, .ref be, .ref sh, .ref sd, .ref rf, .int ab, .int bl])), (rf, .inl (y 0, 3, .inl frf)), (nm, .inl (y 6, 4, .inr (.inr (.inr (.inr fm))))), (m0, .inl (y 0, 4, .inl m0f)), (m1, .inl (y 0, 4, .inl m1f)), (m2, .inl (y 0, 4, .inl m2f)), (m3, .inl (y 0, 4, .inl m3f))] [2] [0, 1, 3, 4, 5, 6, 7] := ⟨rfl, rfl, rfl, rfl, rfl, by decide⟩
  refine kw_go_i hs1 hP hD hS hA (va_runV (As := [.int (nI an1)]) (rest := []) ⟨hx, hb, hml, hown, hts⟩ (gc_hasField l D y nw kk nk nd ne nm nn fi gl un mi no (nI an1) hfi hgl hun hmi hno _) (cwV 1 hts gX10_missed_X4_hasField rfl rfl rfl (by decide +kernel) ⟨Nat.le_of_ble_eq_true rfl, Nat.le_of_ble_eq_true rfl⟩) (kw_PreV (ci := 4) (q0 := 2) hs1 hP hD hK hN rfl rfl) rfl rfl hl.1 rfl (lv_room (Nat.le_of_ble_eq_true rfl)) dX10_missed_5 ⟨Nat.le_of_ble_eq_true rfl, Nat.le_of_ble_eq_true rfl⟩) (fun r2 u3 H locs hq hP hD hS => ?_)
  rcases hq with ⟨j4, h5, h6, rfl⟩ | ⟨h7, rfl⟩
  · skip
    have h6 : an1 = j4 := (nI_eq (a := an1) (b := j4) (by omega) (by omega)).mp h6
    have hP : va_P D vwCl [(g, .inr (10, [.ref kk, .ref nw, .ref im, .ref kp, .ref tx, .ref tr, .ref be, .ref sh, .ref sd, .ref rf, .int ab, .int bl])), (rf, .inl (y 0, 3, .inl frf)), (nm, .inl (y 6, 4, .inr (.inr (.inr (.inr fm))))), (m0, .inl (y 0, 4, .inl m0f)), (m1, .inl (y 0, 4, .inl m1f)), (m2, .inl (y 0, 4, .inl m2f)), (m3, .inl (y 0, 4, .inl m3f)), (nw, .inr (4, [.ref kk, .ref nk, .ref nd, .ref ne, .ref nm, .ref nn, .int (nI fi), .int (nI gl), .int (nI un), .int (nI mi), .int (nI no)]))] H := hP
    have hD : va_D A [(g, .inr (10, [.ref kk, .ref nw, .ref im, .ref kp, .ref tx, .ref tr, .ref be, .ref sh, .ref sd, .ref rf, .int ab, .int bl])), (rf, .inl (y 0, 3, .inl frf)), (nm, .inl (y 6, 4, .inr (.inr (.inr (.inr fm))))), (m0, .inl (y 0, 4, .inl m0f)), (m1, .inl (y 0, 4, .inl m1f)), (m2, .inl (y 0, 4, .inl m2f)), (m3, .inl (y 0, 4, .inl m3f)), (nw, .inr (4, [.ref kk, .ref nk, .ref nd, .ref ne, .ref nm, .ref nn, .int (nI fi), .int (nI gl), .int (nI un), .int (nI mi), .int (nI no)]))] := hD
    refine lv_if_eq (tgt := 38) hx hb dX10_missed_8 (by decide) (fun h9 => absurd h9 (by decide)) (fun _ => ?_)
    refine lv_iload_n hx hb dX10_missed_11 rfl (lv_at hl 2 rfl) ?_
    refine lv_bipush (v := 12) hx hb dX10_missed_12 (by decide) ?_
    have hs8 : kw_Split [(g, .inr (10, [.ref kk, .ref nw, .ref im, .ref kp, .ref tx, .ref tr, .ref be, .ref sh, .ref sd, .ref rf, .int ab, .int bl])), (rf, .inl (y 0, 3, .inl frf)), (nm, .inl (y 6, 4, .inr (.inr (.inr (.inr fm))))), (m0, .inl (y 0, 4, .inl m0f)), (m1, .inl (y 0, 4, .inl m1f)), (m2, .inl (y 0, 4, .inl m2f)), (m3, .inl (y 0, 4, .inl m3f)), (nw, .inr (4, [.ref kk, .ref nk, .ref nd, .ref ne, .ref nm, .ref nn, .int (nI fi), .int (nI gl), .int (nI un), .int (nI mi), .int (nI no)]))] [] [(g, .inr (10, [.ref kk, .ref nw, .ref im, .ref kp, .ref tx, .ref tr, .ref be, .ref sh, .ref sd, .ref rf, .int ab, .int bl])), (rf, .inl (y 0, 3, .inl frf)), (nm, .inl (y 6, 4, .inr (.inr (.inr (.inr fm))))), (m0, .inl (y 0, 4, .inl m0f)), (m1, .inl (y 0, 4, .inl m1f)), (m2, .inl (y 0, 4, .inl m2f)), (m3, .inl (y 0, 4, .inl m3f)), (nw, .inr (4, [.ref kk, .ref nk, .ref nd, .ref ne, .ref nm, .ref nn, .int (nI fi), .int (nI gl), .int (nI un), .int (nI mi), .int (nI no)]))] [] [0, 1, 2, 3, 4, 5, 6, 7] := ⟨rfl, rfl, rfl, rfl, rfl, by decide⟩
    refine kw_go_i hs8 hP hD hS hA (va_runS (As := [.int (nI an2), .int 12]) (rest := []) ⟨hx, hb, hml, hown, hts⟩ (gc_isBelow l D y (nI an2) 12 (by omega) _) (va_cwS 2 hts gX10_missed_X10_isBelow rfl rfl rfl (by decide +kernel) ⟨Nat.le_of_ble_eq_true rfl, Nat.le_of_ble_eq_true rfl⟩) (kw_PreS hs8 hP hD hK hN) rfl rfl hl.1 rfl (lv_room (Nat.le_of_ble_eq_true rfl)) dX10_missed_14 ⟨Nat.le_of_ble_eq_true rfl, Nat.le_of_ble_eq_true rfl⟩) (fun r9 u10 H locs hq hP hD hS => ?_)
    rcases hq with ⟨j11, h12, h13, rfl⟩ | ⟨h14, rfl⟩
    · skip
      have h13 : an2 = j11 := (nI_eq (a := an2) (b := j11) (by omega) (by omega)).mp h13
      have hP : va_P D vwCl [(g, .inr (10, [.ref kk, .ref nw, .ref im, .ref kp, .ref tx, .ref tr, .ref be, .ref sh, .ref sd, .ref rf, .int ab, .int bl])), (rf, .inl (y 0, 3, .inl frf)), (nm, .inl (y 6, 4, .inr (.inr (.inr (.inr fm))))), (m0, .inl (y 0, 4, .inl m0f)), (m1, .inl (y 0, 4, .inl m1f)), (m2, .inl (y 0, 4, .inl m2f)), (m3, .inl (y 0, 4, .inl m3f)), (nw, .inr (4, [.ref kk, .ref nk, .ref nd, .ref ne, .ref nm, .ref nn, .int (nI fi), .int (nI gl), .int (nI un), .int (nI mi), .int (nI no)]))] H := hP
      have hD : va_D A [(g, .inr (10, [.ref kk, .ref nw, .ref im, .ref kp, .ref tx, .ref tr, .ref be, .ref sh, .ref sd, .ref rf, .int ab, .int bl])), (rf, .inl (y 0, 3, .inl frf)), (nm, .inl (y 6, 4, .inr (.inr (.inr (.inr fm))))), (m0, .inl (y 0, 4, .inl m0f)), (m1, .inl (y 0, 4, .inl m1f)), (m2, .inl (y 0, 4, .inl m2f)), (m3, .inl (y 0, 4, .inl m3f)), (nw, .inr (4, [.ref kk, .ref nk, .ref nd, .ref ne, .ref nm, .ref nn, .int (nI fi), .int (nI gl), .int (nI un), .int (nI mi), .int (nI no)]))] := hD
      refine lv_if_eq (tgt := 38) hx hb dX10_missed_17 (by decide) (fun h9 => absurd h9 (by decide)) (fun _ => ?_)
      refine lv_iload_n hx hb dX10_missed_20 rfl (lv_at hl 3 rfl) ?_
      have hs15 : kw_Split [(g, .inr (10, [.ref kk, .ref nw, .ref im, .ref kp, .ref tx, .ref tr, .ref be, .ref sh, .ref sd, .ref rf, .int ab, .int bl])), (rf, .inl (y 0, 3, .inl frf)), (nm, .inl (y 6, 4, .inr (.inr (.inr (.inr fm))))), (m0, .inl (y 0, 4, .inl m0f)), (m1, .inl (y 0, 4, .inl m1f)), (m2, .inl (y 0, 4, .inl m2f)), (m3, .inl (y 0, 4, .inl m3f)), (nw, .inr (4, [.ref kk, .ref nk, .ref nd, .ref ne, .ref nm, .ref nn, .int (nI fi), .int (nI gl), .int (nI un), .int (nI mi), .int (nI no)]))] [] [(g, .inr (10, [.ref kk, .ref nw, .ref im, .ref kp, .ref tx, .ref tr, .ref be, .ref sh, .ref sd, .ref rf, .int ab, .int bl])), (rf, .inl (y 0, 3, .inl frf)), (nm, .inl (y 6, 4, .inr (.inr (.inr (.inr fm))))), (m0, .inl (y 0, 4, .inl m0f)), (m1, .inl (y 0, 4, .inl m1f)), (m2, .inl (y 0, 4, .inl m2f)), (m3, .inl (y 0, 4, .inl m3f)), (nw, .inr (4, [.ref kk, .ref nk, .ref nd, .ref ne, .ref nm, .ref nn, .int (nI fi), .int (nI gl), .int (nI un), .int (nI mi), .int (nI no)]))] [] [0, 1, 2, 3, 4, 5, 6, 7] := ⟨rfl, rfl, rfl, rfl, rfl, by decide⟩
      refine kw_go_i hs15 hP hD hS hA (va_runS (As := [.int (nI an3)]) (rest := []) ⟨hx, hb, hml, hown, hts⟩ (gc_isLight l D y (nI an3)  _) (va_cwS 1 hts gX10_missed_X10_isLight rfl rfl rfl (by decide +kernel) ⟨Nat.le_of_ble_eq_true rfl, Nat.le_of_ble_eq_true rfl⟩) (kw_PreS hs15 hP hD hK hN) rfl rfl hl.1 rfl (lv_room (Nat.le_of_ble_eq_true rfl)) dX10_missed_21 ⟨Nat.le_of_ble_eq_true rfl, Nat.le_of_ble_eq_true rfl⟩) (fun r16 u17 H locs hq hP hD hS => ?_)
      rcases hq with ⟨j18, h19, h20, rfl⟩ | ⟨h21, rfl⟩
      · skip
        have h20 : an3 = j18 := (nI_eq (a := an3) (b := j18) (by omega) (by omega)).mp h20
        have hP : va_P D vwCl [(g, .inr (10, [.ref kk, .ref nw, .ref im, .ref kp, .ref tx, .ref tr, .ref be, .ref sh, .ref sd, .ref rf, .int ab, .int bl])), (rf, .inl (y 0, 3, .inl frf)), (nm, .inl (y 6, 4, .inr (.inr (.inr (.inr fm))))), (m0, .inl (y 0, 4, .inl m0f)), (m1, .inl (y 0, 4, .inl m1f)), (m2, .inl (y 0, 4, .inl m2f)), (m3, .inl (y 0, 4, .inl m3f)), (nw, .inr (4, [.ref kk, .ref nk, .ref nd, .ref ne, .ref nm, .ref nn, .int (nI fi), .int (nI gl), .int (nI un), .int (nI mi), .int (nI no)]))] H := hP
        have hD : va_D A [(g, .inr (10, [.ref kk, .ref nw, .ref im, .ref kp, .ref tx, .ref tr, .ref be, .ref sh, .ref sd, .ref rf, .int ab, .int bl])), (rf, .inl (y 0, 3, .inl frf)), (nm, .inl (y 6, 4, .inr (.inr (.inr (.inr fm))))), (m0, .inl (y 0, 4, .inl m0f)), (m1, .inl (y 0, 4, .inl m1f)), (m2, .inl (y 0, 4, .inl m2f)), (m3, .inl (y 0, 4, .inl m3f)), (nw, .inr (4, [.ref kk, .ref nk, .ref nd, .ref ne, .ref nm, .ref nn, .int (nI fi), .int (nI gl), .int (nI un), .int (nI mi), .int (nI no)]))] := hD
        refine lv_if_eq (tgt := 38) hx hb dX10_missed_24 (by decide) (fun h9 => absurd h9 (by decide)) (fun _ => ?_)
        refine lv_iload hx hb dX10_missed_27 (lv_at hl 4 rfl) ?_
        refine lv_iconst (v := 0) hx hb dX10_missed_29 (by decide) ?_
        refine lv_bipush (v := 60) hx hb dX10_missed_30 (by decide) ?_
        have hs22 : kw_Split [(g, .inr (10, [.ref kk, .ref nw, .ref im, .ref kp, .ref tx, .ref tr, .ref be, .ref sh, .ref sd, .ref rf, .int ab, .int bl])), (rf, .inl (y 0, 3, .inl frf)), (nm, .inl (y 6, 4, .inr (.inr (.inr (.inr fm))))), (m0, .inl (y 0, 4, .inl m0f)), (m1, .inl (y 0, 4, .inl m1f)), (m2, .inl (y 0, 4, .inl m2f)), (m3, .inl (y 0, 4, .inl m3f)), (nw, .inr (4, [.ref kk, .ref nk, .ref nd, .ref ne, .ref nm, .ref nn, .int (nI fi), .int (nI gl), .int (nI un), .int (nI mi), .int (nI no)]))] [] [(g, .inr (10, [.ref kk, .ref nw, .ref im, .ref kp, .ref tx, .ref tr, .ref be, .ref sh, .ref sd, .ref rf, .int ab, .int bl])), (rf, .inl (y 0, 3, .inl frf)), (nm, .inl (y 6, 4, .inr (.inr (.inr (.inr fm))))), (m0, .inl (y 0, 4, .inl m0f)), (m1, .inl (y 0, 4, .inl m1f)), (m2, .inl (y 0, 4, .inl m2f)), (m3, .inl (y 0, 4, .inl m3f)), (nw, .inr (4, [.ref kk, .ref nk, .ref nd, .ref ne, .ref nm, .ref nn, .int (nI fi), .int (nI gl), .int (nI un), .int (nI mi), .int (nI no)]))] [] [0, 1, 2, 3, 4, 5, 6, 7] := ⟨rfl, rfl, rfl, rfl, rfl, by decide⟩
        refine kw_go_i hs22 hP hD hS hA (va_runS (As := [.int (nI an4), .int 0, .int 60]) (rest := []) ⟨hx, hb, hml, hown, hts⟩ (gc_isIn l D y (nI an4) 0 60 (by omega) (by omega) _) (va_cwS 3 hts gX10_missed_X10_isIn rfl rfl rfl (by decide +kernel) ⟨Nat.le_of_ble_eq_true rfl, Nat.le_of_ble_eq_true rfl⟩) (kw_PreS hs22 hP hD hK hN) rfl rfl hl.1 rfl (lv_room (Nat.le_of_ble_eq_true rfl)) dX10_missed_32 ⟨Nat.le_of_ble_eq_true rfl, Nat.le_of_ble_eq_true rfl⟩) (fun r23 u24 H locs hq hP hD hS => ?_)
        rcases hq with ⟨j25, h26, h27, h28, rfl⟩ | ⟨h29, rfl⟩
        · skip
          have h28 : an4 = j25 := (nI_eq (a := an4) (b := j25) (by omega) (by omega)).mp h28
          have hP : va_P D vwCl [(g, .inr (10, [.ref kk, .ref nw, .ref im, .ref kp, .ref tx, .ref tr, .ref be, .ref sh, .ref sd, .ref rf, .int ab, .int bl])), (rf, .inl (y 0, 3, .inl frf)), (nm, .inl (y 6, 4, .inr (.inr (.inr (.inr fm))))), (m0, .inl (y 0, 4, .inl m0f)), (m1, .inl (y 0, 4, .inl m1f)), (m2, .inl (y 0, 4, .inl m2f)), (m3, .inl (y 0, 4, .inl m3f)), (nw, .inr (4, [.ref kk, .ref nk, .ref nd, .ref ne, .ref nm, .ref nn, .int (nI fi), .int (nI gl), .int (nI un), .int (nI mi), .int (nI no)]))] H := hP
          have hD : va_D A [(g, .inr (10, [.ref kk, .ref nw, .ref im, .ref kp, .ref tx, .ref tr, .ref be, .ref sh, .ref sd, .ref rf, .int ab, .int bl])), (rf, .inl (y 0, 3, .inl frf)), (nm, .inl (y 6, 4, .inr (.inr (.inr (.inr fm))))), (m0, .inl (y 0, 4, .inl m0f)), (m1, .inl (y 0, 4, .inl m1f)), (m2, .inl (y 0, 4, .inl m2f)), (m3, .inl (y 0, 4, .inl m3f)), (nw, .inr (4, [.ref kk, .ref nk, .ref nd, .ref ne, .ref nm, .ref nn, .int (nI fi), .int (nI gl), .int (nI un), .int (nI mi), .int (nI no)]))] := hD
          refine lv_if_ne (tgt := 43) hx hb dX10_missed_35 (by decide) (fun _ => ?_) (fun h9 => absurd h9 (by decide))
          refine lv_aload_n hx hb dX10_missed_43 rfl (lv_at hl 0 rfl) ?_
          refine va_get (D := D) (ci := 10) (v := .ref nw) (C := RX10) (T := TX10) (N := 12) hx hb hts iw10 hown hK hP 0 rfl rfl 1 (by decide) fw1 (fun _ h9 => h9) rfl dX10_missed_44 ?_
          refine va_get (D := D) (ci := 4) (v := .int (nI mi)) (C := RX4) (T := TX4) (N := 11) hx hb hts iw4 hown hK hP 7 rfl rfl 9 (by decide) fw2 (fun _ h9 => h9) rfl dX10_missed_47 ?_
          refine lv_iconst (v := 4) hx hb dX10_missed_50 (by decide) ?_
          refine lv_icmp_lt (tgt := 59) hx hb dX10_missed_51 (by decide) (fun h30 => ?_) (fun h31 => ?_)
          · skip
            have h30 : mi < 4 := (nI_ltI (a := mi) (b := 4) (by omega) (by omega)).mp h30
            refine lv_aload_n hx hb dX10_missed_59 rfl (lv_at hl 0 rfl) ?_
            refine va_get (D := D) (ci := 10) (v := .ref nw) (C := RX10) (T := TX10) (N := 12) hx hb hts iw10 hown hK hP 0 rfl rfl 1 (by decide) fw1 (fun _ h9 => h9) rfl dX10_missed_60 ?_
            refine lv_iload_n hx hb dX10_missed_63 rfl (lv_at hl 1 rfl) ?_
            refine lv_iload_n hx hb dX10_missed_64 rfl (lv_at hl 2 rfl) ?_
            refine lv_iload_n hx hb dX10_missed_65 rfl (lv_at hl 3 rfl) ?_
            refine lv_iload hx hb dX10_missed_66 (lv_at hl 4 rfl) ?_
            have hs32 : kw_Split [(g, .inr (10, [.ref kk, .ref nw, .ref im, .ref kp, .ref tx, .ref tr, .ref be, .ref sh, .ref sd, .ref rf, .int ab, .int bl])), (rf, .inl (y 0, 3, .inl frf)), (nm, .inl (y 6, 4, .inr (.inr (.inr (.inr fm))))), (m0, .inl (y 0, 4, .inl m0f)), (m1, .inl (y 0, 4, .inl m1f)), (m2, .inl (y 0, 4, .inl m2f)), (m3, .inl (y 0, 4, .inl m3f)), (nw, .inr (4, [.ref kk, .ref nk, .ref nd, .ref ne, .ref nm, .ref nn, .int (nI fi), .int (nI gl), .int (nI un), .int (nI mi), .int (nI no)]))] [(nw, .inr (4, [.ref kk, .ref nk, .ref nd, .ref ne, .ref nm, .ref nn, .int (nI fi), .int (nI gl), .int (nI un), .int (nI mi), .int (nI no)])), (nm, .inl (y 6, 4, .inr (.inr (.inr (.inr fm))))), (m0, .inl (y 0, 4, .inl m0f)), (m1, .inl (y 0, 4, .inl m1f)), (m2, .inl (y 0, 4, .inl m2f)), (m3, .inl (y 0, 4, .inl m3f))] [(g, .inr (10, [.ref kk, .ref nw, .ref im, .ref kp, .ref tx, .ref tr, .ref be, .ref sh, .ref sd, .ref rf, .int ab, .int bl])), (rf, .inl (y 0, 3, .inl frf))] [7, 2, 3, 4, 5, 6] [0, 1] := ⟨rfl, rfl, rfl, rfl, rfl, by decide⟩
            refine kw_go_i hs32 hP hD hS hA (va_runV (As := [.int (nI an1), .int (nI an2), .int (nI an3), .int (nI an4)]) (rest := []) ⟨hx, hb, hml, hown, hts⟩ (gs_addMissed l D y nw kk nk nd ne nm nn fi gl un mi no m0 m1 m2 m3 m0f m1f m2f m3f fm an1 (nI an2) (nI an3) (nI an4) hfi hgl hun hmi hno hm0 hm1 hm2 hm3 hm0f hm1f hm2f hm3f (by omega) hA2 _) (cwV 4 hts gX10_missed_X4_addMissed rfl rfl rfl (by decide +kernel) ⟨Nat.le_of_ble_eq_true rfl, Nat.le_of_ble_eq_true rfl⟩) (kw_PreV (ci := 4) (q0 := 7) hs32 hP hD hK hN rfl rfl) rfl rfl hl.1 rfl (lv_room (Nat.le_of_ble_eq_true rfl)) dX10_missed_68 ⟨Nat.le_of_ble_eq_true rfl, Nat.le_of_ble_eq_true rfl⟩) (fun r33 u34 H locs hq hP hD hS => ?_)
            obtain ⟨v35, v36, v37, v38⟩ := u34
            try dsimp only at hq
            obtain ⟨h39, h40, h41, h42, rfl⟩ := hq
            have hP : va_P D vwCl [(g, .inr (10, [.ref kk, .ref nw, .ref im, .ref kp, .ref tx, .ref tr, .ref be, .ref sh, .ref sd, .ref rf, .int ab, .int bl])), (rf, .inl (y 0, 3, .inl frf)), (nw, .inr (4, [.ref kk, .ref nk, .ref nd, .ref ne, .ref nm, .ref nn, .int (nI fi), .int (nI gl), .int (nI un), .int (nI (mi + 1)), .int (nI no)])), (nm, .inl (y 6, 4, .inr (.inr (.inr (.inr fm))))), (m0, .inl (y 0, 4, .inl v35)), (m1, .inl (y 0, 4, .inl v36)), (m2, .inl (y 0, 4, .inl v37)), (m3, .inl (y 0, 4, .inl v38))] H := hP
            have hD : va_D A [(g, .inr (10, [.ref kk, .ref nw, .ref im, .ref kp, .ref tx, .ref tr, .ref be, .ref sh, .ref sd, .ref rf, .int ab, .int bl])), (rf, .inl (y 0, 3, .inl frf)), (nw, .inr (4, [.ref kk, .ref nk, .ref nd, .ref ne, .ref nm, .ref nn, .int (nI fi), .int (nI gl), .int (nI un), .int (nI (mi + 1)), .int (nI no)])), (nm, .inl (y 6, 4, .inr (.inr (.inr (.inr fm))))), (m0, .inl (y 0, 4, .inl v35)), (m1, .inl (y 0, 4, .inl v36)), (m2, .inl (y 0, 4, .inl v37)), (m3, .inl (y 0, 4, .inl v38))] := hD
            exact W.iret (v := (nI (mi + 1))) hx hb hr (fun tZ ht hW => ⟨⟨(nI (mi + 1)), (v35, v36, v37, v38), rfl, ⟨h39, h40, h41, h42, rfl⟩, by rw [ht]; exact hP.sub [0, 1, 2, 3, 4, 5, 6, 7] rfl, hD.sub [0, 1, 2, 3, 4, 5, 6, 7] (by decide) rfl⟩, hS.F ht⟩) hS.2.2 dX10_missed_71
          · skip
            have h31 : ¬ mi < 4 := fun q9 => h31 ((nI_ltI (a := mi) (b := 4) (by omega) (by omega)).mpr q9)
            exact absurd h31 (by omega)
        · skip
          exact absurd ⟨an4, by omega, by omega, rfl⟩ h29
      · skip
        exact absurd ⟨an3, by omega, by omega, rfl⟩ h21
    · skip
      exact absurd ⟨an2, by omega, rfl⟩ h14
  · skip
    exact absurd ⟨an1, by omega, rfl⟩ h7

set_option maxHeartbeats 4000000 in
set_option maxRecDepth 100000 in
theorem gy_missed_ok (l : Launch) (D : va_G) (y : Nat → ClassId) (mo : Nat) (to : Nat) (ke : Nat) (ik : Nat) (mrf : Nat) (ha : Nat) (r0 : Nat) (mbr : Nat) (mbp : Nat) (mby : Nat) (an : Nat) (va : Nat) (mab : Int64) (mbl : Int64) (bl : Nat) (ta : Nat) (tl : Nat) (tk : Nat) (vv : Int32) (frf : Nat → Int32) (ft : Nat → Int32) (fi : Nat) (gl : Nat) (mi : Nat) (no : Nat) (un : Nat) (an1 : Nat) (an2 : Nat) (an3 : Nat) (an4 : Nat) (hk0_ : ft 0 = (nI fi)) (hk1_ : ft 1 = (nI gl)) (hk2_ : ft 2 = (nI mi)) (hk3_ : ft 3 = (nI no)) (hk4_ : ft 4 = (nI un)) (hkt : kr_t 228 ft) (hfi : fi ≤ 6) (hgl : gl ≤ 5) (hmi : mi ≤ 4) (hno : no ≤ 6) (hun : un ≤ 8) (hgf : (gl = 0 ∨ 0 < fi)) (hA2 : ¬ mi = 4) (hB0_ : an1 < fi) (hB1_ : an2 < 12) (hB2_ : an3 ≤ 60) (hB3_ : an4 ≤ 60) : kw_Mi l yX11_missed wsX11_missed ({ frames := 3, cells := 0, slots := 0, locals := 106 }) D y [.ref mo, .int (nI an1), .int (nI an2), .int (nI an3), .int (nI an4)] [(mo, .inr (11, [.ref to, .ref ke, .ref ik, .ref mrf, .long mab, .long mbl, .ref ha, .ref r0, .ref mbr, .ref mbp, .ref mby, .int (nI bl), .int (nI ta), .int (nI tl), .int (nI tk), .int vv, .ref an, .ref va])), (mrf, .inl (y 0, 3, .inl frf)), (to, .inl (y 0, 228, .inl ft))] (fun (r : Int32) (u : (Nat → Int32)) => kr_t 228 u ∧ u 0 = (nI fi) ∧ u 1 = (nI gl) ∧ u 2 = (nI (mi + 1)) ∧ u 3 = (nI no) ∧ u 4 = (nI un) ∧ (gl = 0 ∨ 0 < fi) ∧ r = (nI (mi + 1))) (fun u => [(mo, .inr (11, [.ref to, .ref ke, .ref ik, .ref mrf, .long mab, .long mbl, .ref ha, .ref r0, .ref mbr, .ref mbp, .ref mby, .int (nI bl), .int (nI ta), .int (nI tl), .int (nI tk), .int vv, .ref an, .ref va])), (mrf, .inl (y 0, 3, .inl frf)), (to, .inl (y 0, 228, .inl u))]) 0 0 := by
  refine kw_Mi.of (cc := cX11_missed) (maxL := 6) (ret := (some .int)) (by decide) rfl ?_
  intro pZ eZ s mZ beZ meZ cZ A hE
  obtain ⟨hx, hb, hr, hml, hts, hown, hlocks, hin, hA, hP, hD, hK, hN⟩ := hE
  have hS : va_S A s.heap s.heap [] := va_S.rf
  have hl := lv_entry ([.ref mo, .int (nI an1), .int (nI an2), .int (nI an3), .int (nI an4)]) (n := 6) (Nat.le_of_ble_eq_true rfl)
  rw [lg_entry_eq]
  generalize (lg_sl ([.ref mo, .int (nI an1), .int (nI an2), .int (nI an3), .int (nI an4)]) ++ List.replicate (6 - (lg_sl ([.ref mo, .int (nI an1), .int (nI an2), .int (nI an3), .int (nI an4)])).length) Slot.unset).toArray = ls at hl ⊢
  have hl : lv_has ls 6 [(0, .ref mo), (1, .int (nI an1)), (2, .int (nI an2)), (3, .int (nI an3)), (4, .int (nI an4))] := hl
  have fw1 := hts (.fieldLink RX11 7 "GleanDuskModel" "told" "[I") (List.mem_of_getElem? (i := 1) rfl)
  have iw11 : ∀ w ∈ wsX110, w ∈ wsX11_missed := fun _ h => List.mem_cons_of_mem _ (List.mem_append_right _ h)
  refine lv_aload_n hx hb dX11_missed_0 rfl (lv_at hl 0 rfl) ?_
  refine lv_iload_n hx hb dX11_missed_1 rfl (lv_at hl 1 rfl) ?_
  have hs1 : kw_Split [(mo, .inr (11, [.ref to, .ref ke, .ref ik, .ref mrf, .long mab, .long mbl, .ref ha, .ref r0, .ref mbr, .ref mbp, .ref mby, .int (nI bl), .int (nI ta), .int (nI tl), .int (nI tk), .int vv, .ref an, .ref va])), (mrf, .inl (y 0, 3, .inl frf)), (to, .inl (y 0, 228, .inl ft))] [(mo, .inr (11, [.ref to, .ref ke, .ref ik, .ref mrf, .long mab, .long mbl, .ref ha, .ref r0, .ref mbr, .ref mbp, .ref mby, .int (nI bl), .int (nI ta), .int (nI tl), .int (nI tk), .int vv, .ref an, .ref va])), (to, .inl (y 0, 228, .inl ft))] [(mrf, .inl (y 0, 3, .inl frf))] [0, 2] [1] := ⟨rfl, rfl, rfl, rfl, rfl, by decide⟩
  refine kw_go_i hs1 hP hD hS hA (va_runV (As := [.int (nI an1)]) (rest := []) ⟨hx, hb, hml, hown, hts⟩ (gr_isField l D y mo to ke ik mrf ha r0 mbr mbp mby an va mab mbl bl ta tl tk vv ft fi gl mi no un (nI an1) hk0_ hk1_ hk2_ hk3_ hk4_ hkt hfi hgl hmi hno hun _) (cwV 1 hts gX11_missed_X11_isField rfl rfl rfl (by decide +kernel) ⟨Nat.le_of_ble_eq_true rfl, Nat.le_of_ble_eq_true rfl⟩) (kw_PreV (ci := 11) (q0 := 0) hs1 hP hD hK hN rfl rfl) rfl rfl hl.1 rfl (lv_room (Nat.le_of_ble_eq_true rfl)) dX11_missed_2 ⟨Nat.le_of_ble_eq_true rfl, Nat.le_of_ble_eq_true rfl⟩) (fun r2 u3 H locs hq hP hD hS => ?_)
  rcases hq with ⟨j4, h5, h6, rfl⟩ | ⟨h7, rfl⟩
  · skip
    have h6 : an1 = j4 := (nI_eq (a := an1) (b := j4) (by omega) (by omega)).mp h6
    have hP : va_P D vwCl [(mrf, .inl (y 0, 3, .inl frf)), (mo, .inr (11, [.ref to, .ref ke, .ref ik, .ref mrf, .long mab, .long mbl, .ref ha, .ref r0, .ref mbr, .ref mbp, .ref mby, .int (nI bl), .int (nI ta), .int (nI tl), .int (nI tk), .int vv, .ref an, .ref va])), (to, .inl (y 0, 228, .inl ft))] H := hP
    have hD : va_D A [(mrf, .inl (y 0, 3, .inl frf)), (mo, .inr (11, [.ref to, .ref ke, .ref ik, .ref mrf, .long mab, .long mbl, .ref ha, .ref r0, .ref mbr, .ref mbp, .ref mby, .int (nI bl), .int (nI ta), .int (nI tl), .int (nI tk), .int vv, .ref an, .ref va])), (to, .inl (y 0, 228, .inl ft))] := hD
    refine lv_if_eq (tgt := 30) hx hb dX11_missed_5 (by decide) (fun h9 => absurd h9 (by decide)) (fun _ => ?_)
    refine lv_iload_n hx hb dX11_missed_8 rfl (lv_at hl 2 rfl) ?_
    have hs8 : kw_Split [(mrf, .inl (y 0, 3, .inl frf)), (mo, .inr (11, [.ref to, .ref ke, .ref ik, .ref mrf, .long mab, .long mbl, .ref ha, .ref r0, .ref mbr, .ref mbp, .ref mby, .int (nI bl), .int (nI ta), .int (nI tl), .int (nI tk), .int vv, .ref an, .ref va])), (to, .inl (y 0, 228, .inl ft))] [] [(mrf, .inl (y 0, 3, .inl frf)), (mo, .inr (11, [.ref to, .ref ke, .ref ik, .ref mrf, .long mab, .long mbl, .ref ha, .ref r0, .ref mbr, .ref mbp, .ref mby, .int (nI bl), .int (nI ta), .int (nI tl), .int (nI tk), .int vv, .ref an, .ref va])), (to, .inl (y 0, 228, .inl ft))] [] [0, 1, 2] := ⟨rfl, rfl, rfl, rfl, rfl, by decide⟩
    refine kw_go_i hs8 hP hD hS hA (va_runS (As := [.int (nI an2)]) (rest := []) ⟨hx, hb, hml, hown, hts⟩ (gr_isStep l D y (nI an2)  _) (va_cwS 1 hts gX11_missed_X11_isStep rfl rfl rfl (by decide +kernel) ⟨Nat.le_of_ble_eq_true rfl, Nat.le_of_ble_eq_true rfl⟩) (kw_PreS hs8 hP hD hK hN) rfl rfl hl.1 rfl (lv_room (Nat.le_of_ble_eq_true rfl)) dX11_missed_9 ⟨Nat.le_of_ble_eq_true rfl, Nat.le_of_ble_eq_true rfl⟩) (fun r9 u10 H locs hq hP hD hS => ?_)
    rcases hq with ⟨j11, h12, h13, rfl⟩ | ⟨h14, rfl⟩
    · skip
      have h13 : an2 = j11 := (nI_eq (a := an2) (b := j11) (by omega) (by omega)).mp h13
      have hP : va_P D vwCl [(mrf, .inl (y 0, 3, .inl frf)), (mo, .inr (11, [.ref to, .ref ke, .ref ik, .ref mrf, .long mab, .long mbl, .ref ha, .ref r0, .ref mbr, .ref mbp, .ref mby, .int (nI bl), .int (nI ta), .int (nI tl), .int (nI tk), .int vv, .ref an, .ref va])), (to, .inl (y 0, 228, .inl ft))] H := hP
      have hD : va_D A [(mrf, .inl (y 0, 3, .inl frf)), (mo, .inr (11, [.ref to, .ref ke, .ref ik, .ref mrf, .long mab, .long mbl, .ref ha, .ref r0, .ref mbr, .ref mbp, .ref mby, .int (nI bl), .int (nI ta), .int (nI tl), .int (nI tk), .int vv, .ref an, .ref va])), (to, .inl (y 0, 228, .inl ft))] := hD
      refine lv_if_eq (tgt := 30) hx hb dX11_missed_12 (by decide) (fun h9 => absurd h9 (by decide)) (fun _ => ?_)
      refine lv_iload_n hx hb dX11_missed_15 rfl (lv_at hl 3 rfl) ?_
      have hs15 : kw_Split [(mrf, .inl (y 0, 3, .inl frf)), (mo, .inr (11, [.ref to, .ref ke, .ref ik, .ref mrf, .long mab, .long mbl, .ref ha, .ref r0, .ref mbr, .ref mbp, .ref mby, .int (nI bl), .int (nI ta), .int (nI tl), .int (nI tk), .int vv, .ref an, .ref va])), (to, .inl (y 0, 228, .inl ft))] [] [(mrf, .inl (y 0, 3, .inl frf)), (mo, .inr (11, [.ref to, .ref ke, .ref ik, .ref mrf, .long mab, .long mbl, .ref ha, .ref r0, .ref mbr, .ref mbp, .ref mby, .int (nI bl), .int (nI ta), .int (nI tl), .int (nI tk), .int vv, .ref an, .ref va])), (to, .inl (y 0, 228, .inl ft))] [] [0, 1, 2] := ⟨rfl, rfl, rfl, rfl, rfl, by decide⟩
      refine kw_go_i hs15 hP hD hS hA (va_runS (As := [.int (nI an3)]) (rest := []) ⟨hx, hb, hml, hown, hts⟩ (gr_isLight l D y (nI an3)  _) (va_cwS 1 hts gX11_missed_X11_isLight rfl rfl rfl (by decide +kernel) ⟨Nat.le_of_ble_eq_true rfl, Nat.le_of_ble_eq_true rfl⟩) (kw_PreS hs15 hP hD hK hN) rfl rfl hl.1 rfl (lv_room (Nat.le_of_ble_eq_true rfl)) dX11_missed_16 ⟨Nat.le_of_ble_eq_true rfl, Nat.le_of_ble_eq_true rfl⟩) (fun r16 u17 H locs hq hP hD hS => ?_)
      rcases hq with ⟨j18, h19, h20, rfl⟩ | ⟨h21, rfl⟩
      · skip
        have h20 : an3 = j18 := (nI_eq (a := an3) (b := j18) (by omega) (by omega)).mp h20
        have hP : va_P D vwCl [(mrf, .inl (y 0, 3, .inl frf)), (mo, .inr (11, [.ref to, .ref ke, .ref ik, .ref mrf, .long mab, .long mbl, .ref ha, .ref r0, .ref mbr, .ref mbp, .ref mby, .int (nI bl), .int (nI ta), .int (nI tl), .int (nI tk), .int vv, .ref an, .ref va])), (to, .inl (y 0, 228, .inl ft))] H := hP
        have hD : va_D A [(mrf, .inl (y 0, 3, .inl frf)), (mo, .inr (11, [.ref to, .ref ke, .ref ik, .ref mrf, .long mab, .long mbl, .ref ha, .ref r0, .ref mbr, .ref mbp, .ref mby, .int (nI bl), .int (nI ta), .int (nI tl), .int (nI tk), .int vv, .ref an, .ref va])), (to, .inl (y 0, 228, .inl ft))] := hD
        refine lv_if_eq (tgt := 30) hx hb dX11_missed_19 (by decide) (fun h9 => absurd h9 (by decide)) (fun _ => ?_)
        refine lv_iload hx hb dX11_missed_22 (lv_at hl 4 rfl) ?_
        have hs22 : kw_Split [(mrf, .inl (y 0, 3, .inl frf)), (mo, .inr (11, [.ref to, .ref ke, .ref ik, .ref mrf, .long mab, .long mbl, .ref ha, .ref r0, .ref mbr, .ref mbp, .ref mby, .int (nI bl), .int (nI ta), .int (nI tl), .int (nI tk), .int vv, .ref an, .ref va])), (to, .inl (y 0, 228, .inl ft))] [] [(mrf, .inl (y 0, 3, .inl frf)), (mo, .inr (11, [.ref to, .ref ke, .ref ik, .ref mrf, .long mab, .long mbl, .ref ha, .ref r0, .ref mbr, .ref mbp, .ref mby, .int (nI bl), .int (nI ta), .int (nI tl), .int (nI tk), .int vv, .ref an, .ref va])), (to, .inl (y 0, 228, .inl ft))] [] [0, 1, 2] := ⟨rfl, rfl, rfl, rfl, rfl, by decide⟩
        refine kw_go_i hs22 hP hD hS hA (va_runS (As := [.int (nI an4)]) (rest := []) ⟨hx, hb, hml, hown, hts⟩ (gr_isLight l D y (nI an4)  _) (va_cwS 1 hts gX11_missed_X11_isLight rfl rfl rfl (by decide +kernel) ⟨Nat.le_of_ble_eq_true rfl, Nat.le_of_ble_eq_true rfl⟩) (kw_PreS hs22 hP hD hK hN) rfl rfl hl.1 rfl (lv_room (Nat.le_of_ble_eq_true rfl)) dX11_missed_24 ⟨Nat.le_of_ble_eq_true rfl, Nat.le_of_ble_eq_true rfl⟩) (fun r23 u24 H locs hq hP hD hS => ?_)
        rcases hq with ⟨j25, h26, h27, rfl⟩ | ⟨h28, rfl⟩
        · skip
          have h27 : an4 = j25 := (nI_eq (a := an4) (b := j25) (by omega) (by omega)).mp h27
          have hP : va_P D vwCl [(mrf, .inl (y 0, 3, .inl frf)), (mo, .inr (11, [.ref to, .ref ke, .ref ik, .ref mrf, .long mab, .long mbl, .ref ha, .ref r0, .ref mbr, .ref mbp, .ref mby, .int (nI bl), .int (nI ta), .int (nI tl), .int (nI tk), .int vv, .ref an, .ref va])), (to, .inl (y 0, 228, .inl ft))] H := hP
          have hD : va_D A [(mrf, .inl (y 0, 3, .inl frf)), (mo, .inr (11, [.ref to, .ref ke, .ref ik, .ref mrf, .long mab, .long mbl, .ref ha, .ref r0, .ref mbr, .ref mbp, .ref mby, .int (nI bl), .int (nI ta), .int (nI tl), .int (nI tk), .int vv, .ref an, .ref va])), (to, .inl (y 0, 228, .inl ft))] := hD
          refine lv_if_ne (tgt := 37) hx hb dX11_missed_27 (by decide) (fun _ => ?_) (fun h9 => absurd h9 (by decide))
          refine lv_aload_n hx hb dX11_missed_37 rfl (lv_at hl 0 rfl) ?_
          refine va_get (D := D) (ci := 11) (v := .ref to) (C := RX11) (T := TX11) (N := 18) hx hb hts iw11 hown hK hP 1 rfl rfl 0 (by decide) fw1 (fun _ h9 => h9) rfl dX11_missed_38 ?_
          refine lv_iconst (v := 2) hx hb dX11_missed_41 (by decide) ?_
          refine va_iald hx hb hK hP 2 0 rfl rfl (by unfold vp_in; decide) dX11_missed_42 ?_
          rw [show ((2 : Int32)).toNatClampNeg = 2 from rfl]
          rw [show (ft 2) = (nI mi) from hk2_]
          refine lv_iconst (v := 4) hx hb dX11_missed_43 (by decide) ?_
          refine lv_icmp_ne (tgt := 52) hx hb dX11_missed_44 (by decide) (fun h29 => ?_) (fun h30 => ?_)
          · skip
            have h29 : ¬ mi = 4 := fun q9 => h29 ((nI_eq (a := mi) (b := 4) (by omega) (by omega)).mpr q9)
            rcases (show mi = 0 ∨ mi = 1 ∨ mi = 2 ∨ mi = 3 by omega) with rfl | rfl | rfl | rfl
            · skip
              refine lv_bipush (v := 30) hx hb dX11_missed_52 (by decide) ?_
              refine lv_iconst (v := 4) hx hb dX11_missed_54 (by decide) ?_
              refine lv_aload_n hx hb dX11_missed_55 rfl (lv_at hl 0 rfl) ?_
              refine va_get (D := D) (ci := 11) (v := .ref to) (C := RX11) (T := TX11) (N := 18) hx hb hts iw11 hown hK hP 1 rfl rfl 0 (by decide) fw1 (fun _ h9 => h9) rfl dX11_missed_56 ?_
              refine lv_iconst (v := 2) hx hb dX11_missed_59 (by decide) ?_
              refine va_iald hx hb hK hP 2 0 rfl rfl (by unfold vp_in; decide) dX11_missed_60 ?_
              rw [show ((2 : Int32)).toNatClampNeg = 2 from rfl]
              rw [show (ft 2) = (nI 0) from hk2_]
              refine lv_imul hx hb dX11_missed_61 ?_
              rw [show 4 * (nI 0) = nI (0) from pk_mul 4 0]
              refine lv_iadd hx hb dX11_missed_62 ?_
              rw [show 30 + (nI 0) = nI (30) from nI_add 30 0]
              refine lv_istore (lv' := [(5, .int (nI 30)), (0, .ref mo), (1, .int (nI an1)), (2, .int (nI an2)), (3, .int (nI an3)), (4, .int (nI an4))]) hx hb dX11_missed_63 hl (by decide) rfl (fun ls hl => ?_)
              refine lv_aload_n hx hb dX11_missed_65 rfl (lv_at hl 1 rfl) ?_
              refine va_get (D := D) (ci := 11) (v := .ref to) (C := RX11) (T := TX11) (N := 18) hx hb hts iw11 hown hK hP 1 rfl rfl 0 (by decide) fw1 (fun _ h9 => h9) rfl dX11_missed_66 ?_
              refine lv_iload hx hb dX11_missed_69 (lv_at hl 0 rfl) ?_
              refine lv_iload_n hx hb dX11_missed_71 rfl (lv_at hl 2 rfl) ?_
              refine va_iast hx hb hK hP hD hS 2 0 rfl rfl (vp_in_nI (by omega) (by decide)) dX11_missed_72 (fun H locs hP hD hS => ?_)
              rw [nI_clamp (n := 30) (by omega)] at hP hD
              have hr31 : kr_t 228 (upd ft 30 (nI an1)) := kr_up hkt (kr_oka (vp_in_nI (by omega) (by decide)) (by unfold kr_s; omega))
              have hk32 : (upd ft 30 (nI an1)) 0 = (nI fi) := (pk_un (by decide)).trans hk0_
              have hk33 : (upd ft 30 (nI an1)) 1 = (nI gl) := (pk_un (by decide)).trans hk1_
              have hk34 : (upd ft 30 (nI an1)) 2 = (nI 0) := (pk_un (by decide)).trans hk2_
              have hk35 : (upd ft 30 (nI an1)) 3 = (nI no) := (pk_un (by decide)).trans hk3_
              have hk36 : (upd ft 30 (nI an1)) 4 = (nI un) := (pk_un (by decide)).trans hk4_
              have hP : va_P D vwCl [(mrf, .inl (y 0, 3, .inl frf)), (mo, .inr (11, [.ref to, .ref ke, .ref ik, .ref mrf, .long mab, .long mbl, .ref ha, .ref r0, .ref mbr, .ref mbp, .ref mby, .int (nI bl), .int (nI ta), .int (nI tl), .int (nI tk), .int vv, .ref an, .ref va])), (to, .inl (y 0, 228, .inl (upd ft 30 (nI an1))))] H := hP
              have hD : va_D A [(mrf, .inl (y 0, 3, .inl frf)), (mo, .inr (11, [.ref to, .ref ke, .ref ik, .ref mrf, .long mab, .long mbl, .ref ha, .ref r0, .ref mbr, .ref mbp, .ref mby, .int (nI bl), .int (nI ta), .int (nI tl), .int (nI tk), .int vv, .ref an, .ref va])), (to, .inl (y 0, 228, .inl (upd ft 30 (nI an1))))] := hD
              refine lv_aload_n hx hb dX11_missed_73 rfl (lv_at hl 1 rfl) ?_
              refine va_get (D := D) (ci := 11) (v := .ref to) (C := RX11) (T := TX11) (N := 18) hx hb hts iw11 hown hK hP 1 rfl rfl 0 (by decide) fw1 (fun _ h9 => h9) rfl dX11_missed_74 ?_
              refine lv_iload hx hb dX11_missed_77 (lv_at hl 0 rfl) ?_
              refine lv_iconst (v := 1) hx hb dX11_missed_79 (by decide) ?_
              refine lv_iadd hx hb dX11_missed_80 ?_
              rw [show (nI 30) + 1 = nI (31) from nI_add 30 1]
              refine lv_iload_n hx hb dX11_missed_81 rfl (lv_at hl 3 rfl) ?_
              refine va_iast hx hb hK hP hD hS 2 0 rfl rfl (vp_in_nI (by omega) (by decide)) dX11_missed_82 (fun H locs hP hD hS => ?_)
              rw [nI_clamp (n := 31) (by omega)] at hP hD
              have hr37 : kr_t 228 (upd (upd ft 30 (nI an1)) 31 (nI an2)) := kr_up hr31 (kr_free (by unfold kr_a; omega) (by unfold kr_s; omega))
              have hk38 : (upd (upd ft 30 (nI an1)) 31 (nI an2)) 0 = (nI fi) := (pk_un (by decide)).trans hk32
              have hk39 : (upd (upd ft 30 (nI an1)) 31 (nI an2)) 1 = (nI gl) := (pk_un (by decide)).trans hk33
              have hk40 : (upd (upd ft 30 (nI an1)) 31 (nI an2)) 2 = (nI 0) := (pk_un (by decide)).trans hk34
              have hk41 : (upd (upd ft 30 (nI an1)) 31 (nI an2)) 3 = (nI no) := (pk_un (by decide)).trans hk35
              have hk42 : (upd (upd ft 30 (nI an1)) 31 (nI an2)) 4 = (nI un) := (pk_un (by decide)).trans hk36
              have hP : va_P D vwCl [(mrf, .inl (y 0, 3, .inl frf)), (mo, .inr (11, [.ref to, .ref ke, .ref ik, .ref mrf, .long mab, .long mbl, .ref ha, .ref r0, .ref mbr, .ref mbp, .ref mby, .int (nI bl), .int (nI ta), .int (nI tl), .int (nI tk), .int vv, .ref an, .ref va])), (to, .inl (y 0, 228, .inl (upd (upd ft 30 (nI an1)) 31 (nI an2))))] H := hP
              have hD : va_D A [(mrf, .inl (y 0, 3, .inl frf)), (mo, .inr (11, [.ref to, .ref ke, .ref ik, .ref mrf, .long mab, .long mbl, .ref ha, .ref r0, .ref mbr, .ref mbp, .ref mby, .int (nI bl), .int (nI ta), .int (nI tl), .int (nI tk), .int vv, .ref an, .ref va])), (to, .inl (y 0, 228, .inl (upd (upd ft 30 (nI an1)) 31 (nI an2))))] := hD
              refine lv_aload_n hx hb dX11_missed_83 rfl (lv_at hl 1 rfl) ?_
              refine va_get (D := D) (ci := 11) (v := .ref to) (C := RX11) (T := TX11) (N := 18) hx hb hts iw11 hown hK hP 1 rfl rfl 0 (by decide) fw1 (fun _ h9 => h9) rfl dX11_missed_84 ?_
              refine lv_iload hx hb dX11_missed_87 (lv_at hl 0 rfl) ?_
              refine lv_iconst (v := 2) hx hb dX11_missed_89 (by decide) ?_
              refine lv_iadd hx hb dX11_missed_90 ?_
              rw [show (nI 30) + 2 = nI (32) from nI_add 30 2]
              refine lv_iload_n hx hb dX11_missed_91 rfl (lv_at hl 4 rfl) ?_
              refine va_iast hx hb hK hP hD hS 2 0 rfl rfl (vp_in_nI (by omega) (by decide)) dX11_missed_92 (fun H locs hP hD hS => ?_)
              rw [nI_clamp (n := 32) (by omega)] at hP hD
              have hr43 : kr_t 228 (upd (upd (upd ft 30 (nI an1)) 31 (nI an2)) 32 (nI an3)) := kr_up hr37 (kr_free (by unfold kr_a; omega) (by unfold kr_s; omega))
              have hk44 : (upd (upd (upd ft 30 (nI an1)) 31 (nI an2)) 32 (nI an3)) 0 = (nI fi) := (pk_un (by decide)).trans hk38
              have hk45 : (upd (upd (upd ft 30 (nI an1)) 31 (nI an2)) 32 (nI an3)) 1 = (nI gl) := (pk_un (by decide)).trans hk39
              have hk46 : (upd (upd (upd ft 30 (nI an1)) 31 (nI an2)) 32 (nI an3)) 2 = (nI 0) := (pk_un (by decide)).trans hk40
              have hk47 : (upd (upd (upd ft 30 (nI an1)) 31 (nI an2)) 32 (nI an3)) 3 = (nI no) := (pk_un (by decide)).trans hk41
              have hk48 : (upd (upd (upd ft 30 (nI an1)) 31 (nI an2)) 32 (nI an3)) 4 = (nI un) := (pk_un (by decide)).trans hk42
              have hP : va_P D vwCl [(mrf, .inl (y 0, 3, .inl frf)), (mo, .inr (11, [.ref to, .ref ke, .ref ik, .ref mrf, .long mab, .long mbl, .ref ha, .ref r0, .ref mbr, .ref mbp, .ref mby, .int (nI bl), .int (nI ta), .int (nI tl), .int (nI tk), .int vv, .ref an, .ref va])), (to, .inl (y 0, 228, .inl (upd (upd (upd ft 30 (nI an1)) 31 (nI an2)) 32 (nI an3))))] H := hP
              have hD : va_D A [(mrf, .inl (y 0, 3, .inl frf)), (mo, .inr (11, [.ref to, .ref ke, .ref ik, .ref mrf, .long mab, .long mbl, .ref ha, .ref r0, .ref mbr, .ref mbp, .ref mby, .int (nI bl), .int (nI ta), .int (nI tl), .int (nI tk), .int vv, .ref an, .ref va])), (to, .inl (y 0, 228, .inl (upd (upd (upd ft 30 (nI an1)) 31 (nI an2)) 32 (nI an3))))] := hD
              refine lv_aload_n hx hb dX11_missed_93 rfl (lv_at hl 1 rfl) ?_
              refine va_get (D := D) (ci := 11) (v := .ref to) (C := RX11) (T := TX11) (N := 18) hx hb hts iw11 hown hK hP 1 rfl rfl 0 (by decide) fw1 (fun _ h9 => h9) rfl dX11_missed_94 ?_
              refine lv_iload hx hb dX11_missed_97 (lv_at hl 0 rfl) ?_
              refine lv_iconst (v := 3) hx hb dX11_missed_99 (by decide) ?_
              refine lv_iadd hx hb dX11_missed_100 ?_
              rw [show (nI 30) + 3 = nI (33) from nI_add 30 3]
              refine lv_iload hx hb dX11_missed_101 (lv_at hl 5 rfl) ?_
              refine va_iast hx hb hK hP hD hS 2 0 rfl rfl (vp_in_nI (by omega) (by decide)) dX11_missed_103 (fun H locs hP hD hS => ?_)
              rw [nI_clamp (n := 33) (by omega)] at hP hD
              have hr49 : kr_t 228 (upd (upd (upd (upd ft 30 (nI an1)) 31 (nI an2)) 32 (nI an3)) 33 (nI an4)) := kr_up hr43 (kr_free (by unfold kr_a; omega) (by unfold kr_s; omega))
              have hk50 : (upd (upd (upd (upd ft 30 (nI an1)) 31 (nI an2)) 32 (nI an3)) 33 (nI an4)) 0 = (nI fi) := (pk_un (by decide)).trans hk44
              have hk51 : (upd (upd (upd (upd ft 30 (nI an1)) 31 (nI an2)) 32 (nI an3)) 33 (nI an4)) 1 = (nI gl) := (pk_un (by decide)).trans hk45
              have hk52 : (upd (upd (upd (upd ft 30 (nI an1)) 31 (nI an2)) 32 (nI an3)) 33 (nI an4)) 2 = (nI 0) := (pk_un (by decide)).trans hk46
              have hk53 : (upd (upd (upd (upd ft 30 (nI an1)) 31 (nI an2)) 32 (nI an3)) 33 (nI an4)) 3 = (nI no) := (pk_un (by decide)).trans hk47
              have hk54 : (upd (upd (upd (upd ft 30 (nI an1)) 31 (nI an2)) 32 (nI an3)) 33 (nI an4)) 4 = (nI un) := (pk_un (by decide)).trans hk48
              have hP : va_P D vwCl [(mrf, .inl (y 0, 3, .inl frf)), (mo, .inr (11, [.ref to, .ref ke, .ref ik, .ref mrf, .long mab, .long mbl, .ref ha, .ref r0, .ref mbr, .ref mbp, .ref mby, .int (nI bl), .int (nI ta), .int (nI tl), .int (nI tk), .int vv, .ref an, .ref va])), (to, .inl (y 0, 228, .inl (upd (upd (upd (upd ft 30 (nI an1)) 31 (nI an2)) 32 (nI an3)) 33 (nI an4))))] H := hP
              have hD : va_D A [(mrf, .inl (y 0, 3, .inl frf)), (mo, .inr (11, [.ref to, .ref ke, .ref ik, .ref mrf, .long mab, .long mbl, .ref ha, .ref r0, .ref mbr, .ref mbp, .ref mby, .int (nI bl), .int (nI ta), .int (nI tl), .int (nI tk), .int vv, .ref an, .ref va])), (to, .inl (y 0, 228, .inl (upd (upd (upd (upd ft 30 (nI an1)) 31 (nI an2)) 32 (nI an3)) 33 (nI an4))))] := hD
              refine lv_aload_n hx hb dX11_missed_104 rfl (lv_at hl 1 rfl) ?_
              refine va_get (D := D) (ci := 11) (v := .ref to) (C := RX11) (T := TX11) (N := 18) hx hb hts iw11 hown hK hP 1 rfl rfl 0 (by decide) fw1 (fun _ h9 => h9) rfl dX11_missed_105 ?_
              refine lv_iconst (v := 2) hx hb dX11_missed_108 (by decide) ?_
              refine lv_dup2_11 hx hb dX11_missed_109 rfl rfl ?_
              refine va_iald hx hb hK hP 2 0 rfl rfl (by unfold vp_in; decide) dX11_missed_110 ?_
              rw [show ((2 : Int32)).toNatClampNeg = 2 from rfl]
              rw [show ((upd (upd (upd (upd ft 30 (nI an1)) 31 (nI an2)) 32 (nI an3)) 33 (nI an4)) 2) = (nI 0) from hk52]
              refine lv_iconst (v := 1) hx hb dX11_missed_111 (by decide) ?_
              refine lv_iadd hx hb dX11_missed_112 ?_
              rw [show (nI 0) + 1 = nI (1) from nI_add 0 1]
              refine va_iast hx hb hK hP hD hS 2 0 rfl rfl (by unfold vp_in; decide) dX11_missed_113 (fun H locs hP hD hS => ?_)
              rw [show ((2 : Int32)).toNatClampNeg = 2 from rfl] at hP hD
              have hr55 : kr_t 228 (upd (upd (upd (upd (upd ft 30 (nI an1)) 31 (nI an2)) 32 (nI an3)) 33 (nI an4)) 2 (nI 1)) := kr_up hr49 (kr_free (by unfold kr_a; omega) (by unfold kr_s; omega))
              have hk56 : (upd (upd (upd (upd (upd ft 30 (nI an1)) 31 (nI an2)) 32 (nI an3)) 33 (nI an4)) 2 (nI 1)) 0 = (nI fi) := (pk_un (by decide)).trans hk50
              have hk57 : (upd (upd (upd (upd (upd ft 30 (nI an1)) 31 (nI an2)) 32 (nI an3)) 33 (nI an4)) 2 (nI 1)) 1 = (nI gl) := (pk_un (by decide)).trans hk51
              have hk58 : (upd (upd (upd (upd (upd ft 30 (nI an1)) 31 (nI an2)) 32 (nI an3)) 33 (nI an4)) 2 (nI 1)) 3 = (nI no) := (pk_un (by decide)).trans hk53
              have hk59 : (upd (upd (upd (upd (upd ft 30 (nI an1)) 31 (nI an2)) 32 (nI an3)) 33 (nI an4)) 2 (nI 1)) 4 = (nI un) := (pk_un (by decide)).trans hk54
              have hk60 : (upd (upd (upd (upd (upd ft 30 (nI an1)) 31 (nI an2)) 32 (nI an3)) 33 (nI an4)) 2 (nI 1)) 2 = (nI 1) := pk_us
              have hP : va_P D vwCl [(mrf, .inl (y 0, 3, .inl frf)), (mo, .inr (11, [.ref to, .ref ke, .ref ik, .ref mrf, .long mab, .long mbl, .ref ha, .ref r0, .ref mbr, .ref mbp, .ref mby, .int (nI bl), .int (nI ta), .int (nI tl), .int (nI tk), .int vv, .ref an, .ref va])), (to, .inl (y 0, 228, .inl (upd (upd (upd (upd (upd ft 30 (nI an1)) 31 (nI an2)) 32 (nI an3)) 33 (nI an4)) 2 (nI 1))))] H := hP
              have hD : va_D A [(mrf, .inl (y 0, 3, .inl frf)), (mo, .inr (11, [.ref to, .ref ke, .ref ik, .ref mrf, .long mab, .long mbl, .ref ha, .ref r0, .ref mbr, .ref mbp, .ref mby, .int (nI bl), .int (nI ta), .int (nI tl), .int (nI tk), .int vv, .ref an, .ref va])), (to, .inl (y 0, 228, .inl (upd (upd (upd (upd (upd ft 30 (nI an1)) 31 (nI an2)) 32 (nI an3)) 33 (nI an4)) 2 (nI 1))))] := hD
              refine lv_aload_n hx hb dX11_missed_114 rfl (lv_at hl 1 rfl) ?_
              refine va_get (D := D) (ci := 11) (v := .ref to) (C := RX11) (T := TX11) (N := 18) hx hb hts iw11 hown hK hP 1 rfl rfl 0 (by decide) fw1 (fun _ h9 => h9) rfl dX11_missed_115 ?_
              refine lv_iconst (v := 2) hx hb dX11_missed_118 (by decide) ?_
              refine va_iald hx hb hK hP 2 0 rfl rfl (by unfold vp_in; decide) dX11_missed_119 ?_
              rw [show ((2 : Int32)).toNatClampNeg = 2 from rfl]
              rw [show ((upd (upd (upd (upd (upd ft 30 (nI an1)) 31 (nI an2)) 32 (nI an3)) 33 (nI an4)) 2 (nI 1)) 2) = (nI 1) from hk60]
              exact W.iret (v := (nI 1)) hx hb hr (fun tZ ht hW => ⟨⟨(nI 1), ((upd (upd (upd (upd (upd ft 30 (nI an1)) 31 (nI an2)) 32 (nI an3)) 33 (nI an4)) 2 (nI 1))), rfl, ⟨hr55, hk56, hk57, hk60, hk58, hk59, by first | omega | (dsimp only; omega), rfl⟩, by rw [ht]; exact hP.sub [1, 0, 2] rfl, hD.sub [1, 0, 2] (by decide) rfl⟩, hS.F ht⟩) hS.2.2 dX11_missed_120
            · skip
              refine lv_bipush (v := 30) hx hb dX11_missed_52 (by decide) ?_
              refine lv_iconst (v := 4) hx hb dX11_missed_54 (by decide) ?_
              refine lv_aload_n hx hb dX11_missed_55 rfl (lv_at hl 0 rfl) ?_
              refine va_get (D := D) (ci := 11) (v := .ref to) (C := RX11) (T := TX11) (N := 18) hx hb hts iw11 hown hK hP 1 rfl rfl 0 (by decide) fw1 (fun _ h9 => h9) rfl dX11_missed_56 ?_
              refine lv_iconst (v := 2) hx hb dX11_missed_59 (by decide) ?_
              refine va_iald hx hb hK hP 2 0 rfl rfl (by unfold vp_in; decide) dX11_missed_60 ?_
              rw [show ((2 : Int32)).toNatClampNeg = 2 from rfl]
              rw [show (ft 2) = (nI 1) from hk2_]
              refine lv_imul hx hb dX11_missed_61 ?_
              rw [show 4 * (nI 1) = nI (4) from pk_mul 4 1]
              refine lv_iadd hx hb dX11_missed_62 ?_
              rw [show 30 + (nI 4) = nI (34) from nI_add 30 4]
              refine lv_istore (lv' := [(5, .int (nI 34)), (0, .ref mo), (1, .int (nI an1)), (2, .int (nI an2)), (3, .int (nI an3)), (4, .int (nI an4))]) hx hb dX11_missed_63 hl (by decide) rfl (fun ls hl => ?_)
              refine lv_aload_n hx hb dX11_missed_65 rfl (lv_at hl 1 rfl) ?_
              refine va_get (D := D) (ci := 11) (v := .ref to) (C := RX11) (T := TX11) (N := 18) hx hb hts iw11 hown hK hP 1 rfl rfl 0 (by decide) fw1 (fun _ h9 => h9) rfl dX11_missed_66 ?_
              refine lv_iload hx hb dX11_missed_69 (lv_at hl 0 rfl) ?_
              refine lv_iload_n hx hb dX11_missed_71 rfl (lv_at hl 2 rfl) ?_
              refine va_iast hx hb hK hP hD hS 2 0 rfl rfl (vp_in_nI (by omega) (by decide)) dX11_missed_72 (fun H locs hP hD hS => ?_)
              rw [nI_clamp (n := 34) (by omega)] at hP hD
              have hr61 : kr_t 228 (upd ft 34 (nI an1)) := kr_up hkt (kr_oka (vp_in_nI (by omega) (by decide)) (by unfold kr_s; omega))
              have hk62 : (upd ft 34 (nI an1)) 0 = (nI fi) := (pk_un (by decide)).trans hk0_
              have hk63 : (upd ft 34 (nI an1)) 1 = (nI gl) := (pk_un (by decide)).trans hk1_
              have hk64 : (upd ft 34 (nI an1)) 2 = (nI 1) := (pk_un (by decide)).trans hk2_
              have hk65 : (upd ft 34 (nI an1)) 3 = (nI no) := (pk_un (by decide)).trans hk3_
              have hk66 : (upd ft 34 (nI an1)) 4 = (nI un) := (pk_un (by decide)).trans hk4_
              have hP : va_P D vwCl [(mrf, .inl (y 0, 3, .inl frf)), (mo, .inr (11, [.ref to, .ref ke, .ref ik, .ref mrf, .long mab, .long mbl, .ref ha, .ref r0, .ref mbr, .ref mbp, .ref mby, .int (nI bl), .int (nI ta), .int (nI tl), .int (nI tk), .int vv, .ref an, .ref va])), (to, .inl (y 0, 228, .inl (upd ft 34 (nI an1))))] H := hP
              have hD : va_D A [(mrf, .inl (y 0, 3, .inl frf)), (mo, .inr (11, [.ref to, .ref ke, .ref ik, .ref mrf, .long mab, .long mbl, .ref ha, .ref r0, .ref mbr, .ref mbp, .ref mby, .int (nI bl), .int (nI ta), .int (nI tl), .int (nI tk), .int vv, .ref an, .ref va])), (to, .inl (y 0, 228, .inl (upd ft 34 (nI an1))))] := hD
              refine lv_aload_n hx hb dX11_missed_73 rfl (lv_at hl 1 rfl) ?_
              refine va_get (D := D) (ci := 11) (v := .ref to) (C := RX11) (T := TX11) (N := 18) hx hb hts iw11 hown hK hP 1 rfl rfl 0 (by decide) fw1 (fun _ h9 => h9) rfl dX11_missed_74 ?_
              refine lv_iload hx hb dX11_missed_77 (lv_at hl 0 rfl) ?_
              refine lv_iconst (v := 1) hx hb dX11_missed_79 (by decide) ?_
              refine lv_iadd hx hb dX11_missed_80 ?_
              rw [show (nI 34) + 1 = nI (35) from nI_add 34 1]
              refine lv_iload_n hx hb dX11_missed_81 rfl (lv_at hl 3 rfl) ?_
              refine va_iast hx hb hK hP hD hS 2 0 rfl rfl (vp_in_nI (by omega) (by decide)) dX11_missed_82 (fun H locs hP hD hS => ?_)
              rw [nI_clamp (n := 35) (by omega)] at hP hD
              have hr67 : kr_t 228 (upd (upd ft 34 (nI an1)) 35 (nI an2)) := kr_up hr61 (kr_free (by unfold kr_a; omega) (by unfold kr_s; omega))
              have hk68 : (upd (upd ft 34 (nI an1)) 35 (nI an2)) 0 = (nI fi) := (pk_un (by decide)).trans hk62
              have hk69 : (upd (upd ft 34 (nI an1)) 35 (nI an2)) 1 = (nI gl) := (pk_un (by decide)).trans hk63
              have hk70 : (upd (upd ft 34 (nI an1)) 35 (nI an2)) 2 = (nI 1) := (pk_un (by decide)).trans hk64
              have hk71 : (upd (upd ft 34 (nI an1)) 35 (nI an2)) 3 = (nI no) := (pk_un (by decide)).trans hk65
              have hk72 : (upd (upd ft 34 (nI an1)) 35 (nI an2)) 4 = (nI un) := (pk_un (by decide)).trans hk66
              have hP : va_P D vwCl [(mrf, .inl (y 0, 3, .inl frf)), (mo, .inr (11, [.ref to, .ref ke, .ref ik, .ref mrf, .long mab, .long mbl, .ref ha, .ref r0, .ref mbr, .ref mbp, .ref mby, .int (nI bl), .int (nI ta), .int (nI tl), .int (nI tk), .int vv, .ref an, .ref va])), (to, .inl (y 0, 228, .inl (upd (upd ft 34 (nI an1)) 35 (nI an2))))] H := hP
              have hD : va_D A [(mrf, .inl (y 0, 3, .inl frf)), (mo, .inr (11, [.ref to, .ref ke, .ref ik, .ref mrf, .long mab, .long mbl, .ref ha, .ref r0, .ref mbr, .ref mbp, .ref mby, .int (nI bl), .int (nI ta), .int (nI tl), .int (nI tk), .int vv, .ref an, .ref va])), (to, .inl (y 0, 228, .inl (upd (upd ft 34 (nI an1)) 35 (nI an2))))] := hD
              refine lv_aload_n hx hb dX11_missed_83 rfl (lv_at hl 1 rfl) ?_
              refine va_get (D := D) (ci := 11) (v := .ref to) (C := RX11) (T := TX11) (N := 18) hx hb hts iw11 hown hK hP 1 rfl rfl 0 (by decide) fw1 (fun _ h9 => h9) rfl dX11_missed_84 ?_
              refine lv_iload hx hb dX11_missed_87 (lv_at hl 0 rfl) ?_
              refine lv_iconst (v := 2) hx hb dX11_missed_89 (by decide) ?_
              refine lv_iadd hx hb dX11_missed_90 ?_
              rw [show (nI 34) + 2 = nI (36) from nI_add 34 2]
              refine lv_iload_n hx hb dX11_missed_91 rfl (lv_at hl 4 rfl) ?_
              refine va_iast hx hb hK hP hD hS 2 0 rfl rfl (vp_in_nI (by omega) (by decide)) dX11_missed_92 (fun H locs hP hD hS => ?_)
              rw [nI_clamp (n := 36) (by omega)] at hP hD
              have hr73 : kr_t 228 (upd (upd (upd ft 34 (nI an1)) 35 (nI an2)) 36 (nI an3)) := kr_up hr67 (kr_free (by unfold kr_a; omega) (by unfold kr_s; omega))
              have hk74 : (upd (upd (upd ft 34 (nI an1)) 35 (nI an2)) 36 (nI an3)) 0 = (nI fi) := (pk_un (by decide)).trans hk68
              have hk75 : (upd (upd (upd ft 34 (nI an1)) 35 (nI an2)) 36 (nI an3)) 1 = (nI gl) := (pk_un (by decide)).trans hk69
              have hk76 : (upd (upd (upd ft 34 (nI an1)) 35 (nI an2)) 36 (nI an3)) 2 = (nI 1) := (pk_un (by decide)).trans hk70
              have hk77 : (upd (upd (upd ft 34 (nI an1)) 35 (nI an2)) 36 (nI an3)) 3 = (nI no) := (pk_un (by decide)).trans hk71
              have hk78 : (upd (upd (upd ft 34 (nI an1)) 35 (nI an2)) 36 (nI an3)) 4 = (nI un) := (pk_un (by decide)).trans hk72
              have hP : va_P D vwCl [(mrf, .inl (y 0, 3, .inl frf)), (mo, .inr (11, [.ref to, .ref ke, .ref ik, .ref mrf, .long mab, .long mbl, .ref ha, .ref r0, .ref mbr, .ref mbp, .ref mby, .int (nI bl), .int (nI ta), .int (nI tl), .int (nI tk), .int vv, .ref an, .ref va])), (to, .inl (y 0, 228, .inl (upd (upd (upd ft 34 (nI an1)) 35 (nI an2)) 36 (nI an3))))] H := hP
              have hD : va_D A [(mrf, .inl (y 0, 3, .inl frf)), (mo, .inr (11, [.ref to, .ref ke, .ref ik, .ref mrf, .long mab, .long mbl, .ref ha, .ref r0, .ref mbr, .ref mbp, .ref mby, .int (nI bl), .int (nI ta), .int (nI tl), .int (nI tk), .int vv, .ref an, .ref va])), (to, .inl (y 0, 228, .inl (upd (upd (upd ft 34 (nI an1)) 35 (nI an2)) 36 (nI an3))))] := hD
              refine lv_aload_n hx hb dX11_missed_93 rfl (lv_at hl 1 rfl) ?_
              refine va_get (D := D) (ci := 11) (v := .ref to) (C := RX11) (T := TX11) (N := 18) hx hb hts iw11 hown hK hP 1 rfl rfl 0 (by decide) fw1 (fun _ h9 => h9) rfl dX11_missed_94 ?_
              refine lv_iload hx hb dX11_missed_97 (lv_at hl 0 rfl) ?_
              refine lv_iconst (v := 3) hx hb dX11_missed_99 (by decide) ?_
              refine lv_iadd hx hb dX11_missed_100 ?_
              rw [show (nI 34) + 3 = nI (37) from nI_add 34 3]
              refine lv_iload hx hb dX11_missed_101 (lv_at hl 5 rfl) ?_
              refine va_iast hx hb hK hP hD hS 2 0 rfl rfl (vp_in_nI (by omega) (by decide)) dX11_missed_103 (fun H locs hP hD hS => ?_)
              rw [nI_clamp (n := 37) (by omega)] at hP hD
              have hr79 : kr_t 228 (upd (upd (upd (upd ft 34 (nI an1)) 35 (nI an2)) 36 (nI an3)) 37 (nI an4)) := kr_up hr73 (kr_free (by unfold kr_a; omega) (by unfold kr_s; omega))
              have hk80 : (upd (upd (upd (upd ft 34 (nI an1)) 35 (nI an2)) 36 (nI an3)) 37 (nI an4)) 0 = (nI fi) := (pk_un (by decide)).trans hk74
              have hk81 : (upd (upd (upd (upd ft 34 (nI an1)) 35 (nI an2)) 36 (nI an3)) 37 (nI an4)) 1 = (nI gl) := (pk_un (by decide)).trans hk75
              have hk82 : (upd (upd (upd (upd ft 34 (nI an1)) 35 (nI an2)) 36 (nI an3)) 37 (nI an4)) 2 = (nI 1) := (pk_un (by decide)).trans hk76
              have hk83 : (upd (upd (upd (upd ft 34 (nI an1)) 35 (nI an2)) 36 (nI an3)) 37 (nI an4)) 3 = (nI no) := (pk_un (by decide)).trans hk77
              have hk84 : (upd (upd (upd (upd ft 34 (nI an1)) 35 (nI an2)) 36 (nI an3)) 37 (nI an4)) 4 = (nI un) := (pk_un (by decide)).trans hk78
              have hP : va_P D vwCl [(mrf, .inl (y 0, 3, .inl frf)), (mo, .inr (11, [.ref to, .ref ke, .ref ik, .ref mrf, .long mab, .long mbl, .ref ha, .ref r0, .ref mbr, .ref mbp, .ref mby, .int (nI bl), .int (nI ta), .int (nI tl), .int (nI tk), .int vv, .ref an, .ref va])), (to, .inl (y 0, 228, .inl (upd (upd (upd (upd ft 34 (nI an1)) 35 (nI an2)) 36 (nI an3)) 37 (nI an4))))] H := hP
              have hD : va_D A [(mrf, .inl (y 0, 3, .inl frf)), (mo, .inr (11, [.ref to, .ref ke, .ref ik, .ref mrf, .long mab, .long mbl, .ref ha, .ref r0, .ref mbr, .ref mbp, .ref mby, .int (nI bl), .int (nI ta), .int (nI tl), .int (nI tk), .int vv, .ref an, .ref va])), (to, .inl (y 0, 228, .inl (upd (upd (upd (upd ft 34 (nI an1)) 35 (nI an2)) 36 (nI an3)) 37 (nI an4))))] := hD
              refine lv_aload_n hx hb dX11_missed_104 rfl (lv_at hl 1 rfl) ?_
              refine va_get (D := D) (ci := 11) (v := .ref to) (C := RX11) (T := TX11) (N := 18) hx hb hts iw11 hown hK hP 1 rfl rfl 0 (by decide) fw1 (fun _ h9 => h9) rfl dX11_missed_105 ?_
              refine lv_iconst (v := 2) hx hb dX11_missed_108 (by decide) ?_
              refine lv_dup2_11 hx hb dX11_missed_109 rfl rfl ?_
              refine va_iald hx hb hK hP 2 0 rfl rfl (by unfold vp_in; decide) dX11_missed_110 ?_
              rw [show ((2 : Int32)).toNatClampNeg = 2 from rfl]
              rw [show ((upd (upd (upd (upd ft 34 (nI an1)) 35 (nI an2)) 36 (nI an3)) 37 (nI an4)) 2) = (nI 1) from hk82]
              refine lv_iconst (v := 1) hx hb dX11_missed_111 (by decide) ?_
              refine lv_iadd hx hb dX11_missed_112 ?_
              rw [show (nI 1) + 1 = nI (2) from nI_add 1 1]
              refine va_iast hx hb hK hP hD hS 2 0 rfl rfl (by unfold vp_in; decide) dX11_missed_113 (fun H locs hP hD hS => ?_)
              rw [show ((2 : Int32)).toNatClampNeg = 2 from rfl] at hP hD
              have hr85 : kr_t 228 (upd (upd (upd (upd (upd ft 34 (nI an1)) 35 (nI an2)) 36 (nI an3)) 37 (nI an4)) 2 (nI 2)) := kr_up hr79 (kr_free (by unfold kr_a; omega) (by unfold kr_s; omega))
              have hk86 : (upd (upd (upd (upd (upd ft 34 (nI an1)) 35 (nI an2)) 36 (nI an3)) 37 (nI an4)) 2 (nI 2)) 0 = (nI fi) := (pk_un (by decide)).trans hk80
              have hk87 : (upd (upd (upd (upd (upd ft 34 (nI an1)) 35 (nI an2)) 36 (nI an3)) 37 (nI an4)) 2 (nI 2)) 1 = (nI gl) := (pk_un (by decide)).trans hk81
              have hk88 : (upd (upd (upd (upd (upd ft 34 (nI an1)) 35 (nI an2)) 36 (nI an3)) 37 (nI an4)) 2 (nI 2)) 3 = (nI no) := (pk_un (by decide)).trans hk83
              have hk89 : (upd (upd (upd (upd (upd ft 34 (nI an1)) 35 (nI an2)) 36 (nI an3)) 37 (nI an4)) 2 (nI 2)) 4 = (nI un) := (pk_un (by decide)).trans hk84
              have hk90 : (upd (upd (upd (upd (upd ft 34 (nI an1)) 35 (nI an2)) 36 (nI an3)) 37 (nI an4)) 2 (nI 2)) 2 = (nI 2) := pk_us
              have hP : va_P D vwCl [(mrf, .inl (y 0, 3, .inl frf)), (mo, .inr (11, [.ref to, .ref ke, .ref ik, .ref mrf, .long mab, .long mbl, .ref ha, .ref r0, .ref mbr, .ref mbp, .ref mby, .int (nI bl), .int (nI ta), .int (nI tl), .int (nI tk), .int vv, .ref an, .ref va])), (to, .inl (y 0, 228, .inl (upd (upd (upd (upd (upd ft 34 (nI an1)) 35 (nI an2)) 36 (nI an3)) 37 (nI an4)) 2 (nI 2))))] H := hP
              have hD : va_D A [(mrf, .inl (y 0, 3, .inl frf)), (mo, .inr (11, [.ref to, .ref ke, .ref ik, .ref mrf, .long mab, .long mbl, .ref ha, .ref r0, .ref mbr, .ref mbp, .ref mby, .int (nI bl), .int (nI ta), .int (nI tl), .int (nI tk), .int vv, .ref an, .ref va])), (to, .inl (y 0, 228, .inl (upd (upd (upd (upd (upd ft 34 (nI an1)) 35 (nI an2)) 36 (nI an3)) 37 (nI an4)) 2 (nI 2))))] := hD
              refine lv_aload_n hx hb dX11_missed_114 rfl (lv_at hl 1 rfl) ?_
              refine va_get (D := D) (ci := 11) (v := .ref to) (C := RX11) (T := TX11) (N := 18) hx hb hts iw11 hown hK hP 1 rfl rfl 0 (by decide) fw1 (fun _ h9 => h9) rfl dX11_missed_115 ?_
              refine lv_iconst (v := 2) hx hb dX11_missed_118 (by decide) ?_
              refine va_iald hx hb hK hP 2 0 rfl rfl (by unfold vp_in; decide) dX11_missed_119 ?_
              rw [show ((2 : Int32)).toNatClampNeg = 2 from rfl]
              rw [show ((upd (upd (upd (upd (upd ft 34 (nI an1)) 35 (nI an2)) 36 (nI an3)) 37 (nI an4)) 2 (nI 2)) 2) = (nI 2) from hk90]
              exact W.iret (v := (nI 2)) hx hb hr (fun tZ ht hW => ⟨⟨(nI 2), ((upd (upd (upd (upd (upd ft 34 (nI an1)) 35 (nI an2)) 36 (nI an3)) 37 (nI an4)) 2 (nI 2))), rfl, ⟨hr85, hk86, hk87, hk90, hk88, hk89, by first | omega | (dsimp only; omega), rfl⟩, by rw [ht]; exact hP.sub [1, 0, 2] rfl, hD.sub [1, 0, 2] (by decide) rfl⟩, hS.F ht⟩) hS.2.2 dX11_missed_120
            · skip
              refine lv_bipush (v := 30) hx hb dX11_missed_52 (by decide) ?_
              refine lv_iconst (v := 4) hx hb dX11_missed_54 (by decide) ?_
              refine lv_aload_n hx hb dX11_missed_55 rfl (lv_at hl 0 rfl) ?_
              refine va_get (D := D) (ci := 11) (v := .ref to) (C := RX11) (T := TX11) (N := 18) hx hb hts iw11 hown hK hP 1 rfl rfl 0 (by decide) fw1 (fun _ h9 => h9) rfl dX11_missed_56 ?_
              refine lv_iconst (v := 2) hx hb dX11_missed_59 (by decide) ?_
              refine va_iald hx hb hK hP 2 0 rfl rfl (by unfold vp_in; decide) dX11_missed_60 ?_
              rw [show ((2 : Int32)).toNatClampNeg = 2 from rfl]
              rw [show (ft 2) = (nI 2) from hk2_]
              refine lv_imul hx hb dX11_missed_61 ?_
              rw [show 4 * (nI 2) = nI (8) from pk_mul 4 2]
              refine lv_iadd hx hb dX11_missed_62 ?_
              rw [show 30 + (nI 8) = nI (38) from nI_add 30 8]
              refine lv_istore (lv' := [(5, .int (nI 38)), (0, .ref mo), (1, .int (nI an1)), (2, .int (nI an2)), (3, .int (nI an3)), (4, .int (nI an4))]) hx hb dX11_missed_63 hl (by decide) rfl (fun ls hl => ?_)
              refine lv_aload_n hx hb dX11_missed_65 rfl (lv_at hl 1 rfl) ?_
              refine va_get (D := D) (ci := 11) (v := .ref to) (C := RX11) (T := TX11) (N := 18) hx hb hts iw11 hown hK hP 1 rfl rfl 0 (by decide) fw1 (fun _ h9 => h9) rfl dX11_missed_66 ?_
              refine lv_iload hx hb dX11_missed_69 (lv_at hl 0 rfl) ?_
              refine lv_iload_n hx hb dX11_missed_71 rfl (lv_at hl 2 rfl) ?_
              refine va_iast hx hb hK hP hD hS 2 0 rfl rfl (vp_in_nI (by omega) (by decide)) dX11_missed_72 (fun H locs hP hD hS => ?_)
              rw [nI_clamp (n := 38) (by omega)] at hP hD
              have hr91 : kr_t 228 (upd ft 38 (nI an1)) := kr_up hkt (kr_oka (vp_in_nI (by omega) (by decide)) (by unfold kr_s; omega))
              have hk92 : (upd ft 38 (nI an1)) 0 = (nI fi) := (pk_un (by decide)).trans hk0_
              have hk93 : (upd ft 38 (nI an1)) 1 = (nI gl) := (pk_un (by decide)).trans hk1_
              have hk94 : (upd ft 38 (nI an1)) 2 = (nI 2) := (pk_un (by decide)).trans hk2_
              have hk95 : (upd ft 38 (nI an1)) 3 = (nI no) := (pk_un (by decide)).trans hk3_
              have hk96 : (upd ft 38 (nI an1)) 4 = (nI un) := (pk_un (by decide)).trans hk4_
              have hP : va_P D vwCl [(mrf, .inl (y 0, 3, .inl frf)), (mo, .inr (11, [.ref to, .ref ke, .ref ik, .ref mrf, .long mab, .long mbl, .ref ha, .ref r0, .ref mbr, .ref mbp, .ref mby, .int (nI bl), .int (nI ta), .int (nI tl), .int (nI tk), .int vv, .ref an, .ref va])), (to, .inl (y 0, 228, .inl (upd ft 38 (nI an1))))] H := hP
              have hD : va_D A [(mrf, .inl (y 0, 3, .inl frf)), (mo, .inr (11, [.ref to, .ref ke, .ref ik, .ref mrf, .long mab, .long mbl, .ref ha, .ref r0, .ref mbr, .ref mbp, .ref mby, .int (nI bl), .int (nI ta), .int (nI tl), .int (nI tk), .int vv, .ref an, .ref va])), (to, .inl (y 0, 228, .inl (upd ft 38 (nI an1))))] := hD
              refine lv_aload_n hx hb dX11_missed_73 rfl (lv_at hl 1 rfl) ?_
              refine va_get (D := D) (ci := 11) (v := .ref to) (C := RX11) (T := TX11) (N := 18) hx hb hts iw11 hown hK hP 1 rfl rfl 0 (by decide) fw1 (fun _ h9 => h9) rfl dX11_missed_74 ?_
              refine lv_iload hx hb dX11_missed_77 (lv_at hl 0 rfl) ?_
              refine lv_iconst (v := 1) hx hb dX11_missed_79 (by decide) ?_
              refine lv_iadd hx hb dX11_missed_80 ?_
              rw [show (nI 38) + 1 = nI (39) from nI_add 38 1]
              refine lv_iload_n hx hb dX11_missed_81 rfl (lv_at hl 3 rfl) ?_
              refine va_iast hx hb hK hP hD hS 2 0 rfl rfl (vp_in_nI (by omega) (by decide)) dX11_missed_82 (fun H locs hP hD hS => ?_)
              rw [nI_clamp (n := 39) (by omega)] at hP hD
              have hr97 : kr_t 228 (upd (upd ft 38 (nI an1)) 39 (nI an2)) := kr_up hr91 (kr_free (by unfold kr_a; omega) (by unfold kr_s; omega))
              have hk98 : (upd (upd ft 38 (nI an1)) 39 (nI an2)) 0 = (nI fi) := (pk_un (by decide)).trans hk92
              have hk99 : (upd (upd ft 38 (nI an1)) 39 (nI an2)) 1 = (nI gl) := (pk_un (by decide)).trans hk93
              have hk100 : (upd (upd ft 38 (nI an1)) 39 (nI an2)) 2 = (nI 2) := (pk_un (by decide)).trans hk94
              have hk101 : (upd (upd ft 38 (nI an1)) 39 (nI an2)) 3 = (nI no) := (pk_un (by decide)).trans hk95
              have hk102 : (upd (upd ft 38 (nI an1)) 39 (nI an2)) 4 = (nI un) := (pk_un (by decide)).trans hk96
              have hP : va_P D vwCl [(mrf, .inl (y 0, 3, .inl frf)), (mo, .inr (11, [.ref to, .ref ke, .ref ik, .ref mrf, .long mab, .long mbl, .ref ha, .ref r0, .ref mbr, .ref mbp, .ref mby, .int (nI bl), .int (nI ta), .int (nI tl), .int (nI tk), .int vv, .ref an, .ref va])), (to, .inl (y 0, 228, .inl (upd (upd ft 38 (nI an1)) 39 (nI an2))))] H := hP
              have hD : va_D A [(mrf, .inl (y 0, 3, .inl frf)), (mo, .inr (11, [.ref to, .ref ke, .ref ik, .ref mrf, .long mab, .long mbl, .ref ha, .ref r0, .ref mbr, .ref mbp, .ref mby, .int (nI bl), .int (nI ta), .int (nI tl), .int (nI tk), .int vv, .ref an, .ref va])), (to, .inl (y 0, 228, .inl (upd (upd ft 38 (nI an1)) 39 (nI an2))))] := hD
              refine lv_aload_n hx hb dX11_missed_83 rfl (lv_at hl 1 rfl) ?_
              refine va_get (D := D) (ci := 11) (v := .ref to) (C := RX11) (T := TX11) (N := 18) hx hb hts iw11 hown hK hP 1 rfl rfl 0 (by decide) fw1 (fun _ h9 => h9) rfl dX11_missed_84 ?_
              refine lv_iload hx hb dX11_missed_87 (lv_at hl 0 rfl) ?_
              refine lv_iconst (v := 2) hx hb dX11_missed_89 (by decide) ?_
              refine lv_iadd hx hb dX11_missed_90 ?_
              rw [show (nI 38) + 2 = nI (40) from nI_add 38 2]
              refine lv_iload_n hx hb dX11_missed_91 rfl (lv_at hl 4 rfl) ?_
              refine va_iast hx hb hK hP hD hS 2 0 rfl rfl (vp_in_nI (by omega) (by decide)) dX11_missed_92 (fun H locs hP hD hS => ?_)
              rw [nI_clamp (n := 40) (by omega)] at hP hD
              have hr103 : kr_t 228 (upd (upd (upd ft 38 (nI an1)) 39 (nI an2)) 40 (nI an3)) := kr_up hr97 (kr_free (by unfold kr_a; omega) (by unfold kr_s; omega))
              have hk104 : (upd (upd (upd ft 38 (nI an1)) 39 (nI an2)) 40 (nI an3)) 0 = (nI fi) := (pk_un (by decide)).trans hk98
              have hk105 : (upd (upd (upd ft 38 (nI an1)) 39 (nI an2)) 40 (nI an3)) 1 = (nI gl) := (pk_un (by decide)).trans hk99
              have hk106 : (upd (upd (upd ft 38 (nI an1)) 39 (nI an2)) 40 (nI an3)) 2 = (nI 2) := (pk_un (by decide)).trans hk100
              have hk107 : (upd (upd (upd ft 38 (nI an1)) 39 (nI an2)) 40 (nI an3)) 3 = (nI no) := (pk_un (by decide)).trans hk101
              have hk108 : (upd (upd (upd ft 38 (nI an1)) 39 (nI an2)) 40 (nI an3)) 4 = (nI un) := (pk_un (by decide)).trans hk102
              have hP : va_P D vwCl [(mrf, .inl (y 0, 3, .inl frf)), (mo, .inr (11, [.ref to, .ref ke, .ref ik, .ref mrf, .long mab, .long mbl, .ref ha, .ref r0, .ref mbr, .ref mbp, .ref mby, .int (nI bl), .int (nI ta), .int (nI tl), .int (nI tk), .int vv, .ref an, .ref va])), (to, .inl (y 0, 228, .inl (upd (upd (upd ft 38 (nI an1)) 39 (nI an2)) 40 (nI an3))))] H := hP
              have hD : va_D A [(mrf, .inl (y 0, 3, .inl frf)), (mo, .inr (11, [.ref to, .ref ke, .ref ik, .ref mrf, .long mab, .long mbl, .ref ha, .ref r0, .ref mbr, .ref mbp, .ref mby, .int (nI bl), .int (nI ta), .int (nI tl), .int (nI tk), .int vv, .ref an, .ref va])), (to, .inl (y 0, 228, .inl (upd (upd (upd ft 38 (nI an1)) 39 (nI an2)) 40 (nI an3))))] := hD
              refine lv_aload_n hx hb dX11_missed_93 rfl (lv_at hl 1 rfl) ?_
              refine va_get (D := D) (ci := 11) (v := .ref to) (C := RX11) (T := TX11) (N := 18) hx hb hts iw11 hown hK hP 1 rfl rfl 0 (by decide) fw1 (fun _ h9 => h9) rfl dX11_missed_94 ?_
              refine lv_iload hx hb dX11_missed_97 (lv_at hl 0 rfl) ?_
              refine lv_iconst (v := 3) hx hb dX11_missed_99 (by decide) ?_
              refine lv_iadd hx hb dX11_missed_100 ?_
              rw [show (nI 38) + 3 = nI (41) from nI_add 38 3]
              refine lv_iload hx hb dX11_missed_101 (lv_at hl 5 rfl) ?_
              refine va_iast hx hb hK hP hD hS 2 0 rfl rfl (vp_in_nI (by omega) (by decide)) dX11_missed_103 (fun H locs hP hD hS => ?_)
              rw [nI_clamp (n := 41) (by omega)] at hP hD
              have hr109 : kr_t 228 (upd (upd (upd (upd ft 38 (nI an1)) 39 (nI an2)) 40 (nI an3)) 41 (nI an4)) := kr_up hr103 (kr_free (by unfold kr_a; omega) (by unfold kr_s; omega))
              have hk110 : (upd (upd (upd (upd ft 38 (nI an1)) 39 (nI an2)) 40 (nI an3)) 41 (nI an4)) 0 = (nI fi) := (pk_un (by decide)).trans hk104
              have hk111 : (upd (upd (upd (upd ft 38 (nI an1)) 39 (nI an2)) 40 (nI an3)) 41 (nI an4)) 1 = (nI gl) := (pk_un (by decide)).trans hk105
              have hk112 : (upd (upd (upd (upd ft 38 (nI an1)) 39 (nI an2)) 40 (nI an3)) 41 (nI an4)) 2 = (nI 2) := (pk_un (by decide)).trans hk106
              have hk113 : (upd (upd (upd (upd ft 38 (nI an1)) 39 (nI an2)) 40 (nI an3)) 41 (nI an4)) 3 = (nI no) := (pk_un (by decide)).trans hk107
              have hk114 : (upd (upd (upd (upd ft 38 (nI an1)) 39 (nI an2)) 40 (nI an3)) 41 (nI an4)) 4 = (nI un) := (pk_un (by decide)).trans hk108
              have hP : va_P D vwCl [(mrf, .inl (y 0, 3, .inl frf)), (mo, .inr (11, [.ref to, .ref ke, .ref ik, .ref mrf, .long mab, .long mbl, .ref ha, .ref r0, .ref mbr, .ref mbp, .ref mby, .int (nI bl), .int (nI ta), .int (nI tl), .int (nI tk), .int vv, .ref an, .ref va])), (to, .inl (y 0, 228, .inl (upd (upd (upd (upd ft 38 (nI an1)) 39 (nI an2)) 40 (nI an3)) 41 (nI an4))))] H := hP
              have hD : va_D A [(mrf, .inl (y 0, 3, .inl frf)), (mo, .inr (11, [.ref to, .ref ke, .ref ik, .ref mrf, .long mab, .long mbl, .ref ha, .ref r0, .ref mbr, .ref mbp, .ref mby, .int (nI bl), .int (nI ta), .int (nI tl), .int (nI tk), .int vv, .ref an, .ref va])), (to, .inl (y 0, 228, .inl (upd (upd (upd (upd ft 38 (nI an1)) 39 (nI an2)) 40 (nI an3)) 41 (nI an4))))] := hD
              refine lv_aload_n hx hb dX11_missed_104 rfl (lv_at hl 1 rfl) ?_
              refine va_get (D := D) (ci := 11) (v := .ref to) (C := RX11) (T := TX11) (N := 18) hx hb hts iw11 hown hK hP 1 rfl rfl 0 (by decide) fw1 (fun _ h9 => h9) rfl dX11_missed_105 ?_
              refine lv_iconst (v := 2) hx hb dX11_missed_108 (by decide) ?_
              refine lv_dup2_11 hx hb dX11_missed_109 rfl rfl ?_
              refine va_iald hx hb hK hP 2 0 rfl rfl (by unfold vp_in; decide) dX11_missed_110 ?_
              rw [show ((2 : Int32)).toNatClampNeg = 2 from rfl]
              rw [show ((upd (upd (upd (upd ft 38 (nI an1)) 39 (nI an2)) 40 (nI an3)) 41 (nI an4)) 2) = (nI 2) from hk112]
              refine lv_iconst (v := 1) hx hb dX11_missed_111 (by decide) ?_
              refine lv_iadd hx hb dX11_missed_112 ?_
              rw [show (nI 2) + 1 = nI (3) from nI_add 2 1]
              refine va_iast hx hb hK hP hD hS 2 0 rfl rfl (by unfold vp_in; decide) dX11_missed_113 (fun H locs hP hD hS => ?_)
              rw [show ((2 : Int32)).toNatClampNeg = 2 from rfl] at hP hD
              have hr115 : kr_t 228 (upd (upd (upd (upd (upd ft 38 (nI an1)) 39 (nI an2)) 40 (nI an3)) 41 (nI an4)) 2 (nI 3)) := kr_up hr109 (kr_free (by unfold kr_a; omega) (by unfold kr_s; omega))
              have hk116 : (upd (upd (upd (upd (upd ft 38 (nI an1)) 39 (nI an2)) 40 (nI an3)) 41 (nI an4)) 2 (nI 3)) 0 = (nI fi) := (pk_un (by decide)).trans hk110
              have hk117 : (upd (upd (upd (upd (upd ft 38 (nI an1)) 39 (nI an2)) 40 (nI an3)) 41 (nI an4)) 2 (nI 3)) 1 = (nI gl) := (pk_un (by decide)).trans hk111
              have hk118 : (upd (upd (upd (upd (upd ft 38 (nI an1)) 39 (nI an2)) 40 (nI an3)) 41 (nI an4)) 2 (nI 3)) 3 = (nI no) := (pk_un (by decide)).trans hk113
              have hk119 : (upd (upd (upd (upd (upd ft 38 (nI an1)) 39 (nI an2)) 40 (nI an3)) 41 (nI an4)) 2 (nI 3)) 4 = (nI un) := (pk_un (by decide)).trans hk114
              have hk120 : (upd (upd (upd (upd (upd ft 38 (nI an1)) 39 (nI an2)) 40 (nI an3)) 41 (nI an4)) 2 (nI 3)) 2 = (nI 3) := pk_us
              have hP : va_P D vwCl [(mrf, .inl (y 0, 3, .inl frf)), (mo, .inr (11, [.ref to, .ref ke, .ref ik, .ref mrf, .long mab, .long mbl, .ref ha, .ref r0, .ref mbr, .ref mbp, .ref mby, .int (nI bl), .int (nI ta), .int (nI tl), .int (nI tk), .int vv, .ref an, .ref va])), (to, .inl (y 0, 228, .inl (upd (upd (upd (upd (upd ft 38 (nI an1)) 39 (nI an2)) 40 (nI an3)) 41 (nI an4)) 2 (nI 3))))] H := hP
              have hD : va_D A [(mrf, .inl (y 0, 3, .inl frf)), (mo, .inr (11, [.ref to, .ref ke, .ref ik, .ref mrf, .long mab, .long mbl, .ref ha, .ref r0, .ref mbr, .ref mbp, .ref mby, .int (nI bl), .int (nI ta), .int (nI tl), .int (nI tk), .int vv, .ref an, .ref va])), (to, .inl (y 0, 228, .inl (upd (upd (upd (upd (upd ft 38 (nI an1)) 39 (nI an2)) 40 (nI an3)) 41 (nI an4)) 2 (nI 3))))] := hD
              refine lv_aload_n hx hb dX11_missed_114 rfl (lv_at hl 1 rfl) ?_
              refine va_get (D := D) (ci := 11) (v := .ref to) (C := RX11) (T := TX11) (N := 18) hx hb hts iw11 hown hK hP 1 rfl rfl 0 (by decide) fw1 (fun _ h9 => h9) rfl dX11_missed_115 ?_
              refine lv_iconst (v := 2) hx hb dX11_missed_118 (by decide) ?_
              refine va_iald hx hb hK hP 2 0 rfl rfl (by unfold vp_in; decide) dX11_missed_119 ?_
              rw [show ((2 : Int32)).toNatClampNeg = 2 from rfl]
              rw [show ((upd (upd (upd (upd (upd ft 38 (nI an1)) 39 (nI an2)) 40 (nI an3)) 41 (nI an4)) 2 (nI 3)) 2) = (nI 3) from hk120]
              exact W.iret (v := (nI 3)) hx hb hr (fun tZ ht hW => ⟨⟨(nI 3), ((upd (upd (upd (upd (upd ft 38 (nI an1)) 39 (nI an2)) 40 (nI an3)) 41 (nI an4)) 2 (nI 3))), rfl, ⟨hr115, hk116, hk117, hk120, hk118, hk119, by first | omega | (dsimp only; omega), rfl⟩, by rw [ht]; exact hP.sub [1, 0, 2] rfl, hD.sub [1, 0, 2] (by decide) rfl⟩, hS.F ht⟩) hS.2.2 dX11_missed_120
            · skip
              refine lv_bipush (v := 30) hx hb dX11_missed_52 (by decide) ?_
              refine lv_iconst (v := 4) hx hb dX11_missed_54 (by decide) ?_
              refine lv_aload_n hx hb dX11_missed_55 rfl (lv_at hl 0 rfl) ?_
              refine va_get (D := D) (ci := 11) (v := .ref to) (C := RX11) (T := TX11) (N := 18) hx hb hts iw11 hown hK hP 1 rfl rfl 0 (by decide) fw1 (fun _ h9 => h9) rfl dX11_missed_56 ?_
              refine lv_iconst (v := 2) hx hb dX11_missed_59 (by decide) ?_
              refine va_iald hx hb hK hP 2 0 rfl rfl (by unfold vp_in; decide) dX11_missed_60 ?_
              rw [show ((2 : Int32)).toNatClampNeg = 2 from rfl]
              rw [show (ft 2) = (nI 3) from hk2_]
              refine lv_imul hx hb dX11_missed_61 ?_
              rw [show 4 * (nI 3) = nI (12) from pk_mul 4 3]
              refine lv_iadd hx hb dX11_missed_62 ?_
              rw [show 30 + (nI 12) = nI (42) from nI_add 30 12]
              refine lv_istore (lv' := [(5, .int (nI 42)), (0, .ref mo), (1, .int (nI an1)), (2, .int (nI an2)), (3, .int (nI an3)), (4, .int (nI an4))]) hx hb dX11_missed_63 hl (by decide) rfl (fun ls hl => ?_)
              refine lv_aload_n hx hb dX11_missed_65 rfl (lv_at hl 1 rfl) ?_
              refine va_get (D := D) (ci := 11) (v := .ref to) (C := RX11) (T := TX11) (N := 18) hx hb hts iw11 hown hK hP 1 rfl rfl 0 (by decide) fw1 (fun _ h9 => h9) rfl dX11_missed_66 ?_
              refine lv_iload hx hb dX11_missed_69 (lv_at hl 0 rfl) ?_
              refine lv_iload_n hx hb dX11_missed_71 rfl (lv_at hl 2 rfl) ?_
              refine va_iast hx hb hK hP hD hS 2 0 rfl rfl (vp_in_nI (by omega) (by decide)) dX11_missed_72 (fun H locs hP hD hS => ?_)
              rw [nI_clamp (n := 42) (by omega)] at hP hD
              have hr121 : kr_t 228 (upd ft 42 (nI an1)) := kr_up hkt (kr_oka (vp_in_nI (by omega) (by decide)) (by unfold kr_s; omega))
              have hk122 : (upd ft 42 (nI an1)) 0 = (nI fi) := (pk_un (by decide)).trans hk0_
              have hk123 : (upd ft 42 (nI an1)) 1 = (nI gl) := (pk_un (by decide)).trans hk1_
              have hk124 : (upd ft 42 (nI an1)) 2 = (nI 3) := (pk_un (by decide)).trans hk2_
              have hk125 : (upd ft 42 (nI an1)) 3 = (nI no) := (pk_un (by decide)).trans hk3_
              have hk126 : (upd ft 42 (nI an1)) 4 = (nI un) := (pk_un (by decide)).trans hk4_
              have hP : va_P D vwCl [(mrf, .inl (y 0, 3, .inl frf)), (mo, .inr (11, [.ref to, .ref ke, .ref ik, .ref mrf, .long mab, .long mbl, .ref ha, .ref r0, .ref mbr, .ref mbp, .ref mby, .int (nI bl), .int (nI ta), .int (nI tl), .int (nI tk), .int vv, .ref an, .ref va])), (to, .inl (y 0, 228, .inl (upd ft 42 (nI an1))))] H := hP
              have hD : va_D A [(mrf, .inl (y 0, 3, .inl frf)), (mo, .inr (11, [.ref to, .ref ke, .ref ik, .ref mrf, .long mab, .long mbl, .ref ha, .ref r0, .ref mbr, .ref mbp, .ref mby, .int (nI bl), .int (nI ta), .int (nI tl), .int (nI tk), .int vv, .ref an, .ref va])), (to, .inl (y 0, 228, .inl (upd ft 42 (nI an1))))] := hD
              refine lv_aload_n hx hb dX11_missed_73 rfl (lv_at hl 1 rfl) ?_
              refine va_get (D := D) (ci := 11) (v := .ref to) (C := RX11) (T := TX11) (N := 18) hx hb hts iw11 hown hK hP 1 rfl rfl 0 (by decide) fw1 (fun _ h9 => h9) rfl dX11_missed_74 ?_
              refine lv_iload hx hb dX11_missed_77 (lv_at hl 0 rfl) ?_
              refine lv_iconst (v := 1) hx hb dX11_missed_79 (by decide) ?_
              refine lv_iadd hx hb dX11_missed_80 ?_
              rw [show (nI 42) + 1 = nI (43) from nI_add 42 1]
              refine lv_iload_n hx hb dX11_missed_81 rfl (lv_at hl 3 rfl) ?_
              refine va_iast hx hb hK hP hD hS 2 0 rfl rfl (vp_in_nI (by omega) (by decide)) dX11_missed_82 (fun H locs hP hD hS => ?_)
              rw [nI_clamp (n := 43) (by omega)] at hP hD
              have hr127 : kr_t 228 (upd (upd ft 42 (nI an1)) 43 (nI an2)) := kr_up hr121 (kr_free (by unfold kr_a; omega) (by unfold kr_s; omega))
              have hk128 : (upd (upd ft 42 (nI an1)) 43 (nI an2)) 0 = (nI fi) := (pk_un (by decide)).trans hk122
              have hk129 : (upd (upd ft 42 (nI an1)) 43 (nI an2)) 1 = (nI gl) := (pk_un (by decide)).trans hk123
              have hk130 : (upd (upd ft 42 (nI an1)) 43 (nI an2)) 2 = (nI 3) := (pk_un (by decide)).trans hk124
              have hk131 : (upd (upd ft 42 (nI an1)) 43 (nI an2)) 3 = (nI no) := (pk_un (by decide)).trans hk125
              have hk132 : (upd (upd ft 42 (nI an1)) 43 (nI an2)) 4 = (nI un) := (pk_un (by decide)).trans hk126
              have hP : va_P D vwCl [(mrf, .inl (y 0, 3, .inl frf)), (mo, .inr (11, [.ref to, .ref ke, .ref ik, .ref mrf, .long mab, .long mbl, .ref ha, .ref r0, .ref mbr, .ref mbp, .ref mby, .int (nI bl), .int (nI ta), .int (nI tl), .int (nI tk), .int vv, .ref an, .ref va])), (to, .inl (y 0, 228, .inl (upd (upd ft 42 (nI an1)) 43 (nI an2))))] H := hP
              have hD : va_D A [(mrf, .inl (y 0, 3, .inl frf)), (mo, .inr (11, [.ref to, .ref ke, .ref ik, .ref mrf, .long mab, .long mbl, .ref ha, .ref r0, .ref mbr, .ref mbp, .ref mby, .int (nI bl), .int (nI ta), .int (nI tl), .int (nI tk), .int vv, .ref an, .ref va])), (to, .inl (y 0, 228, .inl (upd (upd ft 42 (nI an1)) 43 (nI an2))))] := hD
              refine lv_aload_n hx hb dX11_missed_83 rfl (lv_at hl 1 rfl) ?_
              refine va_get (D := D) (ci := 11) (v := .ref to) (C := RX11) (T := TX11) (N := 18) hx hb hts iw11 hown hK hP 1 rfl rfl 0 (by decide) fw1 (fun _ h9 => h9) rfl dX11_missed_84 ?_
              refine lv_iload hx hb dX11_missed_87 (lv_at hl 0 rfl) ?_
              refine lv_iconst (v := 2) hx hb dX11_missed_89 (by decide) ?_
              refine lv_iadd hx hb dX11_missed_90 ?_
              rw [show (nI 42) + 2 = nI (44) from nI_add 42 2]
              refine lv_iload_n hx hb dX11_missed_91 rfl (lv_at hl 4 rfl) ?_
              refine va_iast hx hb hK hP hD hS 2 0 rfl rfl (vp_in_nI (by omega) (by decide)) dX11_missed_92 (fun H locs hP hD hS => ?_)
              rw [nI_clamp (n := 44) (by omega)] at hP hD
              have hr133 : kr_t 228 (upd (upd (upd ft 42 (nI an1)) 43 (nI an2)) 44 (nI an3)) := kr_up hr127 (kr_free (by unfold kr_a; omega) (by unfold kr_s; omega))
              have hk134 : (upd (upd (upd ft 42 (nI an1)) 43 (nI an2)) 44 (nI an3)) 0 = (nI fi) := (pk_un (by decide)).trans hk128
              have hk135 : (upd (upd (upd ft 42 (nI an1)) 43 (nI an2)) 44 (nI an3)) 1 = (nI gl) := (pk_un (by decide)).trans hk129
              have hk136 : (upd (upd (upd ft 42 (nI an1)) 43 (nI an2)) 44 (nI an3)) 2 = (nI 3) := (pk_un (by decide)).trans hk130
              have hk137 : (upd (upd (upd ft 42 (nI an1)) 43 (nI an2)) 44 (nI an3)) 3 = (nI no) := (pk_un (by decide)).trans hk131
              have hk138 : (upd (upd (upd ft 42 (nI an1)) 43 (nI an2)) 44 (nI an3)) 4 = (nI un) := (pk_un (by decide)).trans hk132
              have hP : va_P D vwCl [(mrf, .inl (y 0, 3, .inl frf)), (mo, .inr (11, [.ref to, .ref ke, .ref ik, .ref mrf, .long mab, .long mbl, .ref ha, .ref r0, .ref mbr, .ref mbp, .ref mby, .int (nI bl), .int (nI ta), .int (nI tl), .int (nI tk), .int vv, .ref an, .ref va])), (to, .inl (y 0, 228, .inl (upd (upd (upd ft 42 (nI an1)) 43 (nI an2)) 44 (nI an3))))] H := hP
              have hD : va_D A [(mrf, .inl (y 0, 3, .inl frf)), (mo, .inr (11, [.ref to, .ref ke, .ref ik, .ref mrf, .long mab, .long mbl, .ref ha, .ref r0, .ref mbr, .ref mbp, .ref mby, .int (nI bl), .int (nI ta), .int (nI tl), .int (nI tk), .int vv, .ref an, .ref va])), (to, .inl (y 0, 228, .inl (upd (upd (upd ft 42 (nI an1)) 43 (nI an2)) 44 (nI an3))))] := hD
              refine lv_aload_n hx hb dX11_missed_93 rfl (lv_at hl 1 rfl) ?_
              refine va_get (D := D) (ci := 11) (v := .ref to) (C := RX11) (T := TX11) (N := 18) hx hb hts iw11 hown hK hP 1 rfl rfl 0 (by decide) fw1 (fun _ h9 => h9) rfl dX11_missed_94 ?_
              refine lv_iload hx hb dX11_missed_97 (lv_at hl 0 rfl) ?_
              refine lv_iconst (v := 3) hx hb dX11_missed_99 (by decide) ?_
              refine lv_iadd hx hb dX11_missed_100 ?_
              rw [show (nI 42) + 3 = nI (45) from nI_add 42 3]
              refine lv_iload hx hb dX11_missed_101 (lv_at hl 5 rfl) ?_
              refine va_iast hx hb hK hP hD hS 2 0 rfl rfl (vp_in_nI (by omega) (by decide)) dX11_missed_103 (fun H locs hP hD hS => ?_)
              rw [nI_clamp (n := 45) (by omega)] at hP hD
              have hr139 : kr_t 228 (upd (upd (upd (upd ft 42 (nI an1)) 43 (nI an2)) 44 (nI an3)) 45 (nI an4)) := kr_up hr133 (kr_free (by unfold kr_a; omega) (by unfold kr_s; omega))
              have hk140 : (upd (upd (upd (upd ft 42 (nI an1)) 43 (nI an2)) 44 (nI an3)) 45 (nI an4)) 0 = (nI fi) := (pk_un (by decide)).trans hk134
              have hk141 : (upd (upd (upd (upd ft 42 (nI an1)) 43 (nI an2)) 44 (nI an3)) 45 (nI an4)) 1 = (nI gl) := (pk_un (by decide)).trans hk135
              have hk142 : (upd (upd (upd (upd ft 42 (nI an1)) 43 (nI an2)) 44 (nI an3)) 45 (nI an4)) 2 = (nI 3) := (pk_un (by decide)).trans hk136
              have hk143 : (upd (upd (upd (upd ft 42 (nI an1)) 43 (nI an2)) 44 (nI an3)) 45 (nI an4)) 3 = (nI no) := (pk_un (by decide)).trans hk137
              have hk144 : (upd (upd (upd (upd ft 42 (nI an1)) 43 (nI an2)) 44 (nI an3)) 45 (nI an4)) 4 = (nI un) := (pk_un (by decide)).trans hk138
              have hP : va_P D vwCl [(mrf, .inl (y 0, 3, .inl frf)), (mo, .inr (11, [.ref to, .ref ke, .ref ik, .ref mrf, .long mab, .long mbl, .ref ha, .ref r0, .ref mbr, .ref mbp, .ref mby, .int (nI bl), .int (nI ta), .int (nI tl), .int (nI tk), .int vv, .ref an, .ref va])), (to, .inl (y 0, 228, .inl (upd (upd (upd (upd ft 42 (nI an1)) 43 (nI an2)) 44 (nI an3)) 45 (nI an4))))] H := hP
              have hD : va_D A [(mrf, .inl (y 0, 3, .inl frf)), (mo, .inr (11, [.ref to, .ref ke, .ref ik, .ref mrf, .long mab, .long mbl, .ref ha, .ref r0, .ref mbr, .ref mbp, .ref mby, .int (nI bl), .int (nI ta), .int (nI tl), .int (nI tk), .int vv, .ref an, .ref va])), (to, .inl (y 0, 228, .inl (upd (upd (upd (upd ft 42 (nI an1)) 43 (nI an2)) 44 (nI an3)) 45 (nI an4))))] := hD
              refine lv_aload_n hx hb dX11_missed_104 rfl (lv_at hl 1 rfl) ?_
              refine va_get (D := D) (ci := 11) (v := .ref to) (C := RX11) (T := TX11) (N := 18) hx hb hts iw11 hown hK hP 1 rfl rfl 0 (by decide) fw1 (fun _ h9 => h9) rfl dX11_missed_105 ?_
              refine lv_iconst (v := 2) hx hb dX11_missed_108 (by decide) ?_
              refine lv_dup2_11 hx hb dX11_missed_109 rfl rfl ?_
              refine va_iald hx hb hK hP 2 0 rfl rfl (by unfold vp_in; decide) dX11_missed_110 ?_
              rw [show ((2 : Int32)).toNatClampNeg = 2 from rfl]
              rw [show ((upd (upd (upd (upd ft 42 (nI an1)) 43 (nI an2)) 44 (nI an3)) 45 (nI an4)) 2) = (nI 3) from hk142]
              refine lv_iconst (v := 1) hx hb dX11_missed_111 (by decide) ?_
              refine lv_iadd hx hb dX11_missed_112 ?_
              rw [show (nI 3) + 1 = nI (4) from nI_add 3 1]
              refine va_iast hx hb hK hP hD hS 2 0 rfl rfl (by unfold vp_in; decide) dX11_missed_113 (fun H locs hP hD hS => ?_)
              rw [show ((2 : Int32)).toNatClampNeg = 2 from rfl] at hP hD
              have hr145 : kr_t 228 (upd (upd (upd (upd (upd ft 42 (nI an1)) 43 (nI an2)) 44 (nI an3)) 45 (nI an4)) 2 (nI 4)) := kr_up hr139 (kr_free (by unfold kr_a; omega) (by unfold kr_s; omega))
              have hk146 : (upd (upd (upd (upd (upd ft 42 (nI an1)) 43 (nI an2)) 44 (nI an3)) 45 (nI an4)) 2 (nI 4)) 0 = (nI fi) := (pk_un (by decide)).trans hk140
              have hk147 : (upd (upd (upd (upd (upd ft 42 (nI an1)) 43 (nI an2)) 44 (nI an3)) 45 (nI an4)) 2 (nI 4)) 1 = (nI gl) := (pk_un (by decide)).trans hk141
              have hk148 : (upd (upd (upd (upd (upd ft 42 (nI an1)) 43 (nI an2)) 44 (nI an3)) 45 (nI an4)) 2 (nI 4)) 3 = (nI no) := (pk_un (by decide)).trans hk143
              have hk149 : (upd (upd (upd (upd (upd ft 42 (nI an1)) 43 (nI an2)) 44 (nI an3)) 45 (nI an4)) 2 (nI 4)) 4 = (nI un) := (pk_un (by decide)).trans hk144
              have hk150 : (upd (upd (upd (upd (upd ft 42 (nI an1)) 43 (nI an2)) 44 (nI an3)) 45 (nI an4)) 2 (nI 4)) 2 = (nI 4) := pk_us
              have hP : va_P D vwCl [(mrf, .inl (y 0, 3, .inl frf)), (mo, .inr (11, [.ref to, .ref ke, .ref ik, .ref mrf, .long mab, .long mbl, .ref ha, .ref r0, .ref mbr, .ref mbp, .ref mby, .int (nI bl), .int (nI ta), .int (nI tl), .int (nI tk), .int vv, .ref an, .ref va])), (to, .inl (y 0, 228, .inl (upd (upd (upd (upd (upd ft 42 (nI an1)) 43 (nI an2)) 44 (nI an3)) 45 (nI an4)) 2 (nI 4))))] H := hP
              have hD : va_D A [(mrf, .inl (y 0, 3, .inl frf)), (mo, .inr (11, [.ref to, .ref ke, .ref ik, .ref mrf, .long mab, .long mbl, .ref ha, .ref r0, .ref mbr, .ref mbp, .ref mby, .int (nI bl), .int (nI ta), .int (nI tl), .int (nI tk), .int vv, .ref an, .ref va])), (to, .inl (y 0, 228, .inl (upd (upd (upd (upd (upd ft 42 (nI an1)) 43 (nI an2)) 44 (nI an3)) 45 (nI an4)) 2 (nI 4))))] := hD
              refine lv_aload_n hx hb dX11_missed_114 rfl (lv_at hl 1 rfl) ?_
              refine va_get (D := D) (ci := 11) (v := .ref to) (C := RX11) (T := TX11) (N := 18) hx hb hts iw11 hown hK hP 1 rfl rfl 0 (by decide) fw1 (fun _ h9 => h9) rfl dX11_missed_115 ?_
              refine lv_iconst (v := 2) hx hb dX11_missed_118 (by decide) ?_
              refine va_iald hx hb hK hP 2 0 rfl rfl (by unfold vp_in; decide) dX11_missed_119 ?_
              rw [show ((2 : Int32)).toNatClampNeg = 2 from rfl]
              rw [show ((upd (upd (upd (upd (upd ft 42 (nI an1)) 43 (nI an2)) 44 (nI an3)) 45 (nI an4)) 2 (nI 4)) 2) = (nI 4) from hk150]
              exact W.iret (v := (nI 4)) hx hb hr (fun tZ ht hW => ⟨⟨(nI 4), ((upd (upd (upd (upd (upd ft 42 (nI an1)) 43 (nI an2)) 44 (nI an3)) 45 (nI an4)) 2 (nI 4))), rfl, ⟨hr145, hk146, hk147, hk150, hk148, hk149, by first | omega | (dsimp only; omega), rfl⟩, by rw [ht]; exact hP.sub [1, 0, 2] rfl, hD.sub [1, 0, 2] (by decide) rfl⟩, hS.F ht⟩) hS.2.2 dX11_missed_120
          · skip
            have h30 : mi = 4 := (nI_eq (a := mi) (b := 4) (by omega) (by omega)).mp h30
            exact absurd h30 (by omega)
        · skip
          exact absurd ⟨an4, by omega, by omega, rfl⟩ h28
      · skip
        exact absurd ⟨an3, by omega, by omega, rfl⟩ h21
    · skip
      exact absurd ⟨an2, by omega, by omega, rfl⟩ h14
  · skip
    exact absurd ⟨an1, by omega, rfl⟩ h7

set_option maxHeartbeats 4000000 in
set_option maxRecDepth 100000 in
theorem gx_note_full (l : Launch) (D : va_G) (y : Nat → ClassId) (g : Nat) (kk : Nat) (nw : Nat) (im : Nat) (kp : Nat) (tx : Nat) (tr : Nat) (be : Nat) (sh : Nat) (sd : Nat) (rf : Nat) (ab : Int32) (bl : Int32) (frf : Nat → Int32) (nk : Nat) (nd : Nat) (ne : Nat) (nm : Nat) (nn : Nat) (fi : Nat) (gl : Nat) (un : Nat) (mi : Nat) (no : Nat) (an1 : Nat) (an2 : Nat) (an3 : Nat) (an4 : Nat) (an5 : Nat) (hfi : fi ≤ 6) (hgl : gl ≤ 5) (hun : un ≤ 8) (hmi : mi ≤ 4) (hno : no ≤ 6) (hA2 : 6 ≤ no) (hB0_ : an1 < fi) (hB1_ : an2 < 12) (hB2_ : an3 ≤ 60) (hB3_ : an4 < 10) (hB4_ : an5 ≤ 99) : kw_Mi l yX10_note wsX10_note ({ frames := 3, cells := 0, slots := 0, locals := 102 }) D y [.ref g, .int (nI an1), .int (nI an2), .int (nI an3), .int (nI an4), .int (nI an5)] [(g, .inr (10, [.ref kk, .ref nw, .ref im, .ref kp, .ref tx, .ref tr, .ref be, .ref sh, .ref sd, .ref rf, .int ab, .int bl])), (rf, .inl (y 0, 3, .inl frf)), (nw, .inr (4, [.ref kk, .ref nk, .ref nd, .ref ne, .ref nm, .ref nn, .int (nI fi), .int (nI gl), .int (nI un), .int (nI mi), .int (nI no)]))] (fun (r : Int32) (u : Unit) => r = (-4)) (fun _ => [(g, .inr (10, [.ref kk, .ref nw, .ref im, .ref kp, .ref tx, .ref tr, .ref be, .ref sh, .ref sd, .ref rf, .int ab, .int bl])), (rf, .inl (y 0, 3, .inl (upd frf 2 ((frf 2) + 1)))), (nw, .inr (4, [.ref kk, .ref nk, .ref nd, .ref ne, .ref nm, .ref nn, .int (nI fi), .int (nI gl), .int (nI un), .int (nI mi), .int (nI no)]))]) 0 0 := by
  refine kw_Mi.of (cc := cX10_note) (maxL := 6) (ret := (some .int)) (by decide) rfl ?_
  intro pZ eZ s mZ beZ meZ cZ A hE
  obtain ⟨hx, hb, hr, hml, hts, hown, hlocks, hin, hA, hP, hD, hK, hN⟩ := hE
  have hS : va_S A s.heap s.heap [] := va_S.rf
  have hl := lv_entry ([.ref g, .int (nI an1), .int (nI an2), .int (nI an3), .int (nI an4), .int (nI an5)]) (n := 6) (Nat.le_of_ble_eq_true rfl)
  rw [lg_entry_eq]
  generalize (lg_sl ([.ref g, .int (nI an1), .int (nI an2), .int (nI an3), .int (nI an4), .int (nI an5)]) ++ List.replicate (6 - (lg_sl ([.ref g, .int (nI an1), .int (nI an2), .int (nI an3), .int (nI an4), .int (nI an5)])).length) Slot.unset).toArray = ls at hl ⊢
  have hl : lv_has ls 6 [(0, .ref g), (1, .int (nI an1)), (2, .int (nI an2)), (3, .int (nI an3)), (4, .int (nI an4)), (5, .int (nI an5))] := hl
  have fw1 := hts (.fieldLink RX10 36 "GleanDusk" "now" "LGleanDusk$Parish;") (List.mem_of_getElem? (i := 1) rfl)
  have fw2 := hts (.fieldLink RX10 250 "GleanDusk$Parish" "noteCount" "I") (List.mem_of_getElem? (i := 2) rfl)
  have iw10 : ∀ w ∈ wsX100, w ∈ wsX10_note := fun _ h => List.mem_cons_of_mem _ (List.mem_append_left _ (List.mem_append_right _ h))
  have iw4 : ∀ w ∈ wsX40, w ∈ wsX10_note := fun _ h => List.mem_cons_of_mem _ (List.mem_append_right _ h)
  refine lv_aload_n hx hb dX10_note_0 rfl (lv_at hl 0 rfl) ?_
  refine va_get (D := D) (ci := 10) (v := .ref nw) (C := RX10) (T := TX10) (N := 12) hx hb hts iw10 hown hK hP 0 rfl rfl 1 (by decide) fw1 (fun _ h9 => h9) rfl dX10_note_1 ?_
  refine lv_iload_n hx hb dX10_note_4 rfl (lv_at hl 1 rfl) ?_
  have hs1 : kw_Split [(g, .inr (10, [.ref kk, .ref nw, .ref im, .ref kp, .ref tx, .ref tr, .ref be, .ref sh, .ref sd, .ref rf, .int ab, .int bl])), (rf, .inl (y 0, 3, .inl frf)), (nw, .inr (4, [.ref kk, .ref nk, .ref nd, .ref ne, .ref nm, .ref nn, .int (nI fi), .int (nI gl), .int (nI un), .int (nI mi), .int (nI no)]))] [(nw, .inr (4, [.ref kk, .ref nk, .ref nd, .ref ne, .ref nm, .ref nn, .int (nI fi), .int (nI gl), .int (nI un), .int (nI mi), .int (nI no)]))] [(g, .inr (10, [.ref kk, .ref nw, .ref im, .ref kp, .ref tx, .ref tr, .ref be, .ref sh, .ref sd, .ref rf, .int ab, .int bl])), (rf, .inl (y 0, 3, .inl frf))] [2] [0, 1] := ⟨rfl, rfl, rfl, rfl, rfl, by decide⟩
  refine kw_go_i hs1 hP hD hS hA (va_runV (As := [.int (nI an1)]) (rest := []) ⟨hx, hb, hml, hown, hts⟩ (gc_hasField l D y nw kk nk nd ne nm nn fi gl un mi no (nI an1) hfi hgl hun hmi hno _) (cwV 1 hts gX10_note_X4_hasField rfl rfl rfl (by decide +kernel) ⟨Nat.le_of_ble_eq_true rfl, Nat.le_of_ble_eq_true rfl⟩) (kw_PreV (ci := 4) (q0 := 2) hs1 hP hD hK hN rfl rfl) rfl rfl hl.1 rfl (lv_room (Nat.le_of_ble_eq_true rfl)) dX10_note_5 ⟨Nat.le_of_ble_eq_true rfl, Nat.le_of_ble_eq_true rfl⟩) (fun r2 u3 H locs hq hP hD hS => ?_)
  rcases hq with ⟨j4, h5, h6, rfl⟩ | ⟨h7, rfl⟩
  · skip
    have h6 : an1 = j4 := (nI_eq (a := an1) (b := j4) (by omega) (by omega)).mp h6
    have hP : va_P D vwCl [(g, .inr (10, [.ref kk, .ref nw, .ref im, .ref kp, .ref tx, .ref tr, .ref be, .ref sh, .ref sd, .ref rf, .int ab, .int bl])), (rf, .inl (y 0, 3, .inl frf)), (nw, .inr (4, [.ref kk, .ref nk, .ref nd, .ref ne, .ref nm, .ref nn, .int (nI fi), .int (nI gl), .int (nI un), .int (nI mi), .int (nI no)]))] H := hP
    have hD : va_D A [(g, .inr (10, [.ref kk, .ref nw, .ref im, .ref kp, .ref tx, .ref tr, .ref be, .ref sh, .ref sd, .ref rf, .int ab, .int bl])), (rf, .inl (y 0, 3, .inl frf)), (nw, .inr (4, [.ref kk, .ref nk, .ref nd, .ref ne, .ref nm, .ref nn, .int (nI fi), .int (nI gl), .int (nI un), .int (nI mi), .int (nI no)]))] := hD
    refine lv_if_eq (tgt := 27) hx hb dX10_note_8 (by decide) (fun h9 => absurd h9 (by decide)) (fun _ => ?_)
    refine lv_iload_n hx hb dX10_note_11 rfl (lv_at hl 2 rfl) ?_
    refine lv_bipush (v := 12) hx hb dX10_note_12 (by decide) ?_
    have hs8 : kw_Split [(g, .inr (10, [.ref kk, .ref nw, .ref im, .ref kp, .ref tx, .ref tr, .ref be, .ref sh, .ref sd, .ref rf, .int ab, .int bl])), (rf, .inl (y 0, 3, .inl frf)), (nw, .inr (4, [.ref kk, .ref nk, .ref nd, .ref ne, .ref nm, .ref nn, .int (nI fi), .int (nI gl), .int (nI un), .int (nI mi), .int (nI no)]))] [] [(g, .inr (10, [.ref kk, .ref nw, .ref im, .ref kp, .ref tx, .ref tr, .ref be, .ref sh, .ref sd, .ref rf, .int ab, .int bl])), (rf, .inl (y 0, 3, .inl frf)), (nw, .inr (4, [.ref kk, .ref nk, .ref nd, .ref ne, .ref nm, .ref nn, .int (nI fi), .int (nI gl), .int (nI un), .int (nI mi), .int (nI no)]))] [] [0, 1, 2] := ⟨rfl, rfl, rfl, rfl, rfl, by decide⟩
    refine kw_go_i hs8 hP hD hS hA (va_runS (As := [.int (nI an2), .int 12]) (rest := []) ⟨hx, hb, hml, hown, hts⟩ (gc_isBelow l D y (nI an2) 12 (by omega) _) (va_cwS 2 hts gX10_note_X10_isBelow rfl rfl rfl (by decide +kernel) ⟨Nat.le_of_ble_eq_true rfl, Nat.le_of_ble_eq_true rfl⟩) (kw_PreS hs8 hP hD hK hN) rfl rfl hl.1 rfl (lv_room (Nat.le_of_ble_eq_true rfl)) dX10_note_14 ⟨Nat.le_of_ble_eq_true rfl, Nat.le_of_ble_eq_true rfl⟩) (fun r9 u10 H locs hq hP hD hS => ?_)
    rcases hq with ⟨j11, h12, h13, rfl⟩ | ⟨h14, rfl⟩
    · skip
      have h13 : an2 = j11 := (nI_eq (a := an2) (b := j11) (by omega) (by omega)).mp h13
      have hP : va_P D vwCl [(g, .inr (10, [.ref kk, .ref nw, .ref im, .ref kp, .ref tx, .ref tr, .ref be, .ref sh, .ref sd, .ref rf, .int ab, .int bl])), (rf, .inl (y 0, 3, .inl frf)), (nw, .inr (4, [.ref kk, .ref nk, .ref nd, .ref ne, .ref nm, .ref nn, .int (nI fi), .int (nI gl), .int (nI un), .int (nI mi), .int (nI no)]))] H := hP
      have hD : va_D A [(g, .inr (10, [.ref kk, .ref nw, .ref im, .ref kp, .ref tx, .ref tr, .ref be, .ref sh, .ref sd, .ref rf, .int ab, .int bl])), (rf, .inl (y 0, 3, .inl frf)), (nw, .inr (4, [.ref kk, .ref nk, .ref nd, .ref ne, .ref nm, .ref nn, .int (nI fi), .int (nI gl), .int (nI un), .int (nI mi), .int (nI no)]))] := hD
      refine lv_if_eq (tgt := 27) hx hb dX10_note_17 (by decide) (fun h9 => absurd h9 (by decide)) (fun _ => ?_)
      refine lv_iload_n hx hb dX10_note_20 rfl (lv_at hl 3 rfl) ?_
      have hs15 : kw_Split [(g, .inr (10, [.ref kk, .ref nw, .ref im, .ref kp, .ref tx, .ref tr, .ref be, .ref sh, .ref sd, .ref rf, .int ab, .int bl])), (rf, .inl (y 0, 3, .inl frf)), (nw, .inr (4, [.ref kk, .ref nk, .ref nd, .ref ne, .ref nm, .ref nn, .int (nI fi), .int (nI gl), .int (nI un), .int (nI mi), .int (nI no)]))] [] [(g, .inr (10, [.ref kk, .ref nw, .ref im, .ref kp, .ref tx, .ref tr, .ref be, .ref sh, .ref sd, .ref rf, .int ab, .int bl])), (rf, .inl (y 0, 3, .inl frf)), (nw, .inr (4, [.ref kk, .ref nk, .ref nd, .ref ne, .ref nm, .ref nn, .int (nI fi), .int (nI gl), .int (nI un), .int (nI mi), .int (nI no)]))] [] [0, 1, 2] := ⟨rfl, rfl, rfl, rfl, rfl, by decide⟩
      refine kw_go_i hs15 hP hD hS hA (va_runS (As := [.int (nI an3)]) (rest := []) ⟨hx, hb, hml, hown, hts⟩ (gc_isLight l D y (nI an3)  _) (va_cwS 1 hts gX10_note_X10_isLight rfl rfl rfl (by decide +kernel) ⟨Nat.le_of_ble_eq_true rfl, Nat.le_of_ble_eq_true rfl⟩) (kw_PreS hs15 hP hD hK hN) rfl rfl hl.1 rfl (lv_room (Nat.le_of_ble_eq_true rfl)) dX10_note_21 ⟨Nat.le_of_ble_eq_true rfl, Nat.le_of_ble_eq_true rfl⟩) (fun r16 u17 H locs hq hP hD hS => ?_)
      rcases hq with ⟨j18, h19, h20, rfl⟩ | ⟨h21, rfl⟩
      · skip
        have h20 : an3 = j18 := (nI_eq (a := an3) (b := j18) (by omega) (by omega)).mp h20
        have hP : va_P D vwCl [(g, .inr (10, [.ref kk, .ref nw, .ref im, .ref kp, .ref tx, .ref tr, .ref be, .ref sh, .ref sd, .ref rf, .int ab, .int bl])), (rf, .inl (y 0, 3, .inl frf)), (nw, .inr (4, [.ref kk, .ref nk, .ref nd, .ref ne, .ref nm, .ref nn, .int (nI fi), .int (nI gl), .int (nI un), .int (nI mi), .int (nI no)]))] H := hP
        have hD : va_D A [(g, .inr (10, [.ref kk, .ref nw, .ref im, .ref kp, .ref tx, .ref tr, .ref be, .ref sh, .ref sd, .ref rf, .int ab, .int bl])), (rf, .inl (y 0, 3, .inl frf)), (nw, .inr (4, [.ref kk, .ref nk, .ref nd, .ref ne, .ref nm, .ref nn, .int (nI fi), .int (nI gl), .int (nI un), .int (nI mi), .int (nI no)]))] := hD
        refine lv_if_ne (tgt := 32) hx hb dX10_note_24 (by decide) (fun _ => ?_) (fun h9 => absurd h9 (by decide))
        refine lv_iload hx hb dX10_note_32 (lv_at hl 4 rfl) ?_
        refine lv_bipush (v := 10) hx hb dX10_note_34 (by decide) ?_
        have hs22 : kw_Split [(g, .inr (10, [.ref kk, .ref nw, .ref im, .ref kp, .ref tx, .ref tr, .ref be, .ref sh, .ref sd, .ref rf, .int ab, .int bl])), (rf, .inl (y 0, 3, .inl frf)), (nw, .inr (4, [.ref kk, .ref nk, .ref nd, .ref ne, .ref nm, .ref nn, .int (nI fi), .int (nI gl), .int (nI un), .int (nI mi), .int (nI no)]))] [] [(g, .inr (10, [.ref kk, .ref nw, .ref im, .ref kp, .ref tx, .ref tr, .ref be, .ref sh, .ref sd, .ref rf, .int ab, .int bl])), (rf, .inl (y 0, 3, .inl frf)), (nw, .inr (4, [.ref kk, .ref nk, .ref nd, .ref ne, .ref nm, .ref nn, .int (nI fi), .int (nI gl), .int (nI un), .int (nI mi), .int (nI no)]))] [] [0, 1, 2] := ⟨rfl, rfl, rfl, rfl, rfl, by decide⟩
        refine kw_go_i hs22 hP hD hS hA (va_runS (As := [.int (nI an4), .int 10]) (rest := []) ⟨hx, hb, hml, hown, hts⟩ (gc_isBelow l D y (nI an4) 10 (by omega) _) (va_cwS 2 hts gX10_note_X10_isBelow rfl rfl rfl (by decide +kernel) ⟨Nat.le_of_ble_eq_true rfl, Nat.le_of_ble_eq_true rfl⟩) (kw_PreS hs22 hP hD hK hN) rfl rfl hl.1 rfl (lv_room (Nat.le_of_ble_eq_true rfl)) dX10_note_36 ⟨Nat.le_of_ble_eq_true rfl, Nat.le_of_ble_eq_true rfl⟩) (fun r23 u24 H locs hq hP hD hS => ?_)
        rcases hq with ⟨j25, h26, h27, rfl⟩ | ⟨h28, rfl⟩
        · skip
          have h27 : an4 = j25 := (nI_eq (a := an4) (b := j25) (by omega) (by omega)).mp h27
          have hP : va_P D vwCl [(g, .inr (10, [.ref kk, .ref nw, .ref im, .ref kp, .ref tx, .ref tr, .ref be, .ref sh, .ref sd, .ref rf, .int ab, .int bl])), (rf, .inl (y 0, 3, .inl frf)), (nw, .inr (4, [.ref kk, .ref nk, .ref nd, .ref ne, .ref nm, .ref nn, .int (nI fi), .int (nI gl), .int (nI un), .int (nI mi), .int (nI no)]))] H := hP
          have hD : va_D A [(g, .inr (10, [.ref kk, .ref nw, .ref im, .ref kp, .ref tx, .ref tr, .ref be, .ref sh, .ref sd, .ref rf, .int ab, .int bl])), (rf, .inl (y 0, 3, .inl frf)), (nw, .inr (4, [.ref kk, .ref nk, .ref nd, .ref ne, .ref nm, .ref nn, .int (nI fi), .int (nI gl), .int (nI un), .int (nI mi), .int (nI no)]))] := hD
          refine lv_if_eq (tgt := 53) hx hb dX10_note_39 (by decide) (fun h9 => absurd h9 (by decide)) (fun _ => ?_)
          refine lv_iload hx hb dX10_note_42 (lv_at hl 5 rfl) ?_
          refine lv_iconst (v := 0) hx hb dX10_note_44 (by decide) ?_
          refine lv_bipush (v := 99) hx hb dX10_note_45 (by decide) ?_
          have hs29 : kw_Split [(g, .inr (10, [.ref kk, .ref nw, .ref im, .ref kp, .ref tx, .ref tr, .ref be, .ref sh, .ref sd, .ref rf, .int ab, .int bl])), (rf, .inl (y 0, 3, .inl frf)), (nw, .inr (4, [.ref kk, .ref nk, .ref nd, .ref ne, .ref nm, .ref nn, .int (nI fi), .int (nI gl), .int (nI un), .int (nI mi), .int (nI no)]))] [] [(g, .inr (10, [.ref kk, .ref nw, .ref im, .ref kp, .ref tx, .ref tr, .ref be, .ref sh, .ref sd, .ref rf, .int ab, .int bl])), (rf, .inl (y 0, 3, .inl frf)), (nw, .inr (4, [.ref kk, .ref nk, .ref nd, .ref ne, .ref nm, .ref nn, .int (nI fi), .int (nI gl), .int (nI un), .int (nI mi), .int (nI no)]))] [] [0, 1, 2] := ⟨rfl, rfl, rfl, rfl, rfl, by decide⟩
          refine kw_go_i hs29 hP hD hS hA (va_runS (As := [.int (nI an5), .int 0, .int 99]) (rest := []) ⟨hx, hb, hml, hown, hts⟩ (gc_isIn l D y (nI an5) 0 99 (by omega) (by omega) _) (va_cwS 3 hts gX10_note_X10_isIn rfl rfl rfl (by decide +kernel) ⟨Nat.le_of_ble_eq_true rfl, Nat.le_of_ble_eq_true rfl⟩) (kw_PreS hs29 hP hD hK hN) rfl rfl hl.1 rfl (lv_room (Nat.le_of_ble_eq_true rfl)) dX10_note_47 ⟨Nat.le_of_ble_eq_true rfl, Nat.le_of_ble_eq_true rfl⟩) (fun r30 u31 H locs hq hP hD hS => ?_)
          rcases hq with ⟨j32, h33, h34, h35, rfl⟩ | ⟨h36, rfl⟩
          · skip
            have h35 : an5 = j32 := (nI_eq (a := an5) (b := j32) (by omega) (by omega)).mp h35
            have hP : va_P D vwCl [(g, .inr (10, [.ref kk, .ref nw, .ref im, .ref kp, .ref tx, .ref tr, .ref be, .ref sh, .ref sd, .ref rf, .int ab, .int bl])), (rf, .inl (y 0, 3, .inl frf)), (nw, .inr (4, [.ref kk, .ref nk, .ref nd, .ref ne, .ref nm, .ref nn, .int (nI fi), .int (nI gl), .int (nI un), .int (nI mi), .int (nI no)]))] H := hP
            have hD : va_D A [(g, .inr (10, [.ref kk, .ref nw, .ref im, .ref kp, .ref tx, .ref tr, .ref be, .ref sh, .ref sd, .ref rf, .int ab, .int bl])), (rf, .inl (y 0, 3, .inl frf)), (nw, .inr (4, [.ref kk, .ref nk, .ref nd, .ref ne, .ref nm, .ref nn, .int (nI fi), .int (nI gl), .int (nI un), .int (nI mi), .int (nI no)]))] := hD
            refine lv_if_ne (tgt := 58) hx hb dX10_note_50 (by decide) (fun _ => ?_) (fun h9 => absurd h9 (by decide))
            refine lv_aload_n hx hb dX10_note_58 rfl (lv_at hl 0 rfl) ?_
            refine va_get (D := D) (ci := 10) (v := .ref nw) (C := RX10) (T := TX10) (N := 12) hx hb hts iw10 hown hK hP 0 rfl rfl 1 (by decide) fw1 (fun _ h9 => h9) rfl dX10_note_59 ?_
            refine va_get (D := D) (ci := 4) (v := .int (nI no)) (C := RX4) (T := TX4) (N := 11) hx hb hts iw4 hown hK hP 2 rfl rfl 10 (by decide) fw2 (fun _ h9 => h9) rfl dX10_note_62 ?_
            refine lv_bipush (v := 6) hx hb dX10_note_65 (by decide) ?_
            refine lv_icmp_lt (tgt := 75) hx hb dX10_note_67 (by decide) (fun h37 => ?_) (fun h38 => ?_)
            · skip
              have h37 : no < 6 := (nI_ltI (a := no) (b := 6) (by omega) (by omega)).mp h37
              exact absurd h37 (by omega)
            · skip
              have h38 : ¬ no < 6 := fun q9 => h38 ((nI_ltI (a := no) (b := 6) (by omega) (by omega)).mpr q9)
              refine lv_aload_n hx hb dX10_note_70 rfl (lv_at hl 0 rfl) ?_
              have hs39 : kw_Split [(g, .inr (10, [.ref kk, .ref nw, .ref im, .ref kp, .ref tx, .ref tr, .ref be, .ref sh, .ref sd, .ref rf, .int ab, .int bl])), (rf, .inl (y 0, 3, .inl frf)), (nw, .inr (4, [.ref kk, .ref nk, .ref nd, .ref ne, .ref nm, .ref nn, .int (nI fi), .int (nI gl), .int (nI un), .int (nI mi), .int (nI no)]))] [(g, .inr (10, [.ref kk, .ref nw, .ref im, .ref kp, .ref tx, .ref tr, .ref be, .ref sh, .ref sd, .ref rf, .int ab, .int bl])), (rf, .inl (y 0, 3, .inl frf))] [(nw, .inr (4, [.ref kk, .ref nk, .ref nd, .ref ne, .ref nm, .ref nn, .int (nI fi), .int (nI gl), .int (nI un), .int (nI mi), .int (nI no)]))] [0, 1] [2] := ⟨rfl, rfl, rfl, rfl, rfl, by decide⟩
              refine kw_go_i hs39 hP hD hS hA (va_runV (As := []) (rest := []) ⟨hx, hb, hml, hown, hts⟩ (gc_refuseFull l D y g kk nw im kp tx tr be sh sd rf ab bl frf  _) (cwV 0 hts gX10_note_X10_refuseFull rfl rfl rfl (by decide +kernel) ⟨Nat.le_of_ble_eq_true rfl, Nat.le_of_ble_eq_true rfl⟩) (kw_PreV (ci := 10) (q0 := 0) hs39 hP hD hK hN rfl rfl) rfl rfl hl.1 rfl (lv_room (Nat.le_of_ble_eq_true rfl)) dX10_note_71 ⟨Nat.le_of_ble_eq_true rfl, Nat.le_of_ble_eq_true rfl⟩) (fun r40 u41 H locs hq hP hD hS => ?_)
              obtain rfl := hq
              have hP : va_P D vwCl [(nw, .inr (4, [.ref kk, .ref nk, .ref nd, .ref ne, .ref nm, .ref nn, .int (nI fi), .int (nI gl), .int (nI un), .int (nI mi), .int (nI no)])), (g, .inr (10, [.ref kk, .ref nw, .ref im, .ref kp, .ref tx, .ref tr, .ref be, .ref sh, .ref sd, .ref rf, .int ab, .int bl])), (rf, .inl (y 0, 3, .inl (upd frf 2 ((frf 2) + 1))))] H := hP
              have hD : va_D A [(nw, .inr (4, [.ref kk, .ref nk, .ref nd, .ref ne, .ref nm, .ref nn, .int (nI fi), .int (nI gl), .int (nI un), .int (nI mi), .int (nI no)])), (g, .inr (10, [.ref kk, .ref nw, .ref im, .ref kp, .ref tx, .ref tr, .ref be, .ref sh, .ref sd, .ref rf, .int ab, .int bl])), (rf, .inl (y 0, 3, .inl (upd frf 2 ((frf 2) + 1))))] := hD
              exact W.iret (v := (-4)) hx hb hr (fun tZ ht hW => ⟨⟨(-4), (), rfl, rfl, by rw [ht]; exact hP.sub [1, 2, 0] rfl, hD.sub [1, 2, 0] (by decide) rfl⟩, hS.F ht⟩) hS.2.2 dX10_note_74
          · skip
            exact absurd ⟨an5, by omega, by omega, rfl⟩ h36
        · skip
          exact absurd ⟨an4, by omega, rfl⟩ h28
      · skip
        exact absurd ⟨an3, by omega, by omega, rfl⟩ h21
    · skip
      exact absurd ⟨an2, by omega, rfl⟩ h14
  · skip
    exact absurd ⟨an1, by omega, rfl⟩ h7

set_option maxHeartbeats 4000000 in
set_option maxRecDepth 100000 in
theorem gy_note_full (l : Launch) (D : va_G) (y : Nat → ClassId) (mo : Nat) (to : Nat) (ke : Nat) (ik : Nat) (mrf : Nat) (ha : Nat) (r0 : Nat) (mbr : Nat) (mbp : Nat) (mby : Nat) (an : Nat) (va : Nat) (mab : Int64) (mbl : Int64) (bl : Nat) (ta : Nat) (tl : Nat) (tk : Nat) (vv : Int32) (frf : Nat → Int32) (ft : Nat → Int32) (fi : Nat) (gl : Nat) (mi : Nat) (no : Nat) (un : Nat) (an1 : Nat) (an2 : Nat) (an3 : Nat) (an4 : Nat) (an5 : Nat) (hk0_ : ft 0 = (nI fi)) (hk1_ : ft 1 = (nI gl)) (hk2_ : ft 2 = (nI mi)) (hk3_ : ft 3 = (nI no)) (hk4_ : ft 4 = (nI un)) (hkt : kr_t 228 ft) (hfi : fi ≤ 6) (hgl : gl ≤ 5) (hmi : mi ≤ 4) (hno : no ≤ 6) (hun : un ≤ 8) (hgf : (gl = 0 ∨ 0 < fi)) (hA2 : no = 6) (hB0_ : an1 < fi) (hB1_ : an2 < 12) (hB2_ : an3 ≤ 60) (hB3_ : an4 < 10) (hB4_ : an5 ≤ 99) : kw_Mi l yX11_note wsX11_note ({ frames := 3, cells := 0, slots := 0, locals := 106 }) D y [.ref mo, .int (nI an1), .int (nI an2), .int (nI an3), .int (nI an4), .int (nI an5)] [(mo, .inr (11, [.ref to, .ref ke, .ref ik, .ref mrf, .long mab, .long mbl, .ref ha, .ref r0, .ref mbr, .ref mbp, .ref mby, .int (nI bl), .int (nI ta), .int (nI tl), .int (nI tk), .int vv, .ref an, .ref va])), (mrf, .inl (y 0, 3, .inl frf)), (to, .inl (y 0, 228, .inl ft))] (fun (r : Int32) (u : Unit) => (gl = 0 ∨ 0 < fi) ∧ r = (-4)) (fun _ => [(mo, .inr (11, [.ref to, .ref ke, .ref ik, .ref mrf, .long mab, .long mbl, .ref ha, .ref r0, .ref mbr, .ref mbp, .ref mby, .int (nI bl), .int (nI ta), .int (nI tl), .int (nI tk), .int vv, .ref an, .ref va])), (mrf, .inl (y 0, 3, .inl (upd frf 2 ((frf 2) + 1)))), (to, .inl (y 0, 228, .inl ft))]) 0 0 := by
  refine kw_Mi.of (cc := cX11_note) (maxL := 7) (ret := (some .int)) (by decide) rfl ?_
  intro pZ eZ s mZ beZ meZ cZ A hE
  obtain ⟨hx, hb, hr, hml, hts, hown, hlocks, hin, hA, hP, hD, hK, hN⟩ := hE
  have hS : va_S A s.heap s.heap [] := va_S.rf
  have hl := lv_entry ([.ref mo, .int (nI an1), .int (nI an2), .int (nI an3), .int (nI an4), .int (nI an5)]) (n := 7) (Nat.le_of_ble_eq_true rfl)
  rw [lg_entry_eq]
  generalize (lg_sl ([.ref mo, .int (nI an1), .int (nI an2), .int (nI an3), .int (nI an4), .int (nI an5)]) ++ List.replicate (7 - (lg_sl ([.ref mo, .int (nI an1), .int (nI an2), .int (nI an3), .int (nI an4), .int (nI an5)])).length) Slot.unset).toArray = ls at hl ⊢
  have hl : lv_has ls 7 [(0, .ref mo), (1, .int (nI an1)), (2, .int (nI an2)), (3, .int (nI an3)), (4, .int (nI an4)), (5, .int (nI an5))] := hl
  have fw1 := hts (.constantLong RX11 174 (99)) (List.mem_of_getElem? (i := 1) rfl)
  have fw2 := hts (.fieldLink RX11 7 "GleanDuskModel" "told" "[I") (List.mem_of_getElem? (i := 2) rfl)
  have iw11 : ∀ w ∈ wsX110, w ∈ wsX11_note := fun _ h => List.mem_cons_of_mem _ (List.mem_append_right _ h)
  refine lv_aload_n hx hb dX11_note_0 rfl (lv_at hl 0 rfl) ?_
  refine lv_iload_n hx hb dX11_note_1 rfl (lv_at hl 1 rfl) ?_
  have hs1 : kw_Split [(mo, .inr (11, [.ref to, .ref ke, .ref ik, .ref mrf, .long mab, .long mbl, .ref ha, .ref r0, .ref mbr, .ref mbp, .ref mby, .int (nI bl), .int (nI ta), .int (nI tl), .int (nI tk), .int vv, .ref an, .ref va])), (mrf, .inl (y 0, 3, .inl frf)), (to, .inl (y 0, 228, .inl ft))] [(mo, .inr (11, [.ref to, .ref ke, .ref ik, .ref mrf, .long mab, .long mbl, .ref ha, .ref r0, .ref mbr, .ref mbp, .ref mby, .int (nI bl), .int (nI ta), .int (nI tl), .int (nI tk), .int vv, .ref an, .ref va])), (to, .inl (y 0, 228, .inl ft))] [(mrf, .inl (y 0, 3, .inl frf))] [0, 2] [1] := ⟨rfl, rfl, rfl, rfl, rfl, by decide⟩
  refine kw_go_i hs1 hP hD hS hA (va_runV (As := [.int (nI an1)]) (rest := []) ⟨hx, hb, hml, hown, hts⟩ (gr_isField l D y mo to ke ik mrf ha r0 mbr mbp mby an va mab mbl bl ta tl tk vv ft fi gl mi no un (nI an1) hk0_ hk1_ hk2_ hk3_ hk4_ hkt hfi hgl hmi hno hun _) (cwV 1 hts gX11_note_X11_isField rfl rfl rfl (by decide +kernel) ⟨Nat.le_of_ble_eq_true rfl, Nat.le_of_ble_eq_true rfl⟩) (kw_PreV (ci := 11) (q0 := 0) hs1 hP hD hK hN rfl rfl) rfl rfl hl.1 rfl (lv_room (Nat.le_of_ble_eq_true rfl)) dX11_note_2 ⟨Nat.le_of_ble_eq_true rfl, Nat.le_of_ble_eq_true rfl⟩) (fun r2 u3 H locs hq hP hD hS => ?_)
  rcases hq with ⟨j4, h5, h6, rfl⟩ | ⟨h7, rfl⟩
  · skip
    have h6 : an1 = j4 := (nI_eq (a := an1) (b := j4) (by omega) (by omega)).mp h6
    have hP : va_P D vwCl [(mrf, .inl (y 0, 3, .inl frf)), (mo, .inr (11, [.ref to, .ref ke, .ref ik, .ref mrf, .long mab, .long mbl, .ref ha, .ref r0, .ref mbr, .ref mbp, .ref mby, .int (nI bl), .int (nI ta), .int (nI tl), .int (nI tk), .int vv, .ref an, .ref va])), (to, .inl (y 0, 228, .inl ft))] H := hP
    have hD : va_D A [(mrf, .inl (y 0, 3, .inl frf)), (mo, .inr (11, [.ref to, .ref ke, .ref ik, .ref mrf, .long mab, .long mbl, .ref ha, .ref r0, .ref mbr, .ref mbp, .ref mby, .int (nI bl), .int (nI ta), .int (nI tl), .int (nI tk), .int vv, .ref an, .ref va])), (to, .inl (y 0, 228, .inl ft))] := hD
    refine lv_if_eq (tgt := 43) hx hb dX11_note_5 (by decide) (fun h9 => absurd h9 (by decide)) (fun _ => ?_)
    refine lv_iload_n hx hb dX11_note_8 rfl (lv_at hl 2 rfl) ?_
    have hs8 : kw_Split [(mrf, .inl (y 0, 3, .inl frf)), (mo, .inr (11, [.ref to, .ref ke, .ref ik, .ref mrf, .long mab, .long mbl, .ref ha, .ref r0, .ref mbr, .ref mbp, .ref mby, .int (nI bl), .int (nI ta), .int (nI tl), .int (nI tk), .int vv, .ref an, .ref va])), (to, .inl (y 0, 228, .inl ft))] [] [(mrf, .inl (y 0, 3, .inl frf)), (mo, .inr (11, [.ref to, .ref ke, .ref ik, .ref mrf, .long mab, .long mbl, .ref ha, .ref r0, .ref mbr, .ref mbp, .ref mby, .int (nI bl), .int (nI ta), .int (nI tl), .int (nI tk), .int vv, .ref an, .ref va])), (to, .inl (y 0, 228, .inl ft))] [] [0, 1, 2] := ⟨rfl, rfl, rfl, rfl, rfl, by decide⟩
    refine kw_go_i hs8 hP hD hS hA (va_runS (As := [.int (nI an2)]) (rest := []) ⟨hx, hb, hml, hown, hts⟩ (gr_isStep l D y (nI an2)  _) (va_cwS 1 hts gX11_note_X11_isStep rfl rfl rfl (by decide +kernel) ⟨Nat.le_of_ble_eq_true rfl, Nat.le_of_ble_eq_true rfl⟩) (kw_PreS hs8 hP hD hK hN) rfl rfl hl.1 rfl (lv_room (Nat.le_of_ble_eq_true rfl)) dX11_note_9 ⟨Nat.le_of_ble_eq_true rfl, Nat.le_of_ble_eq_true rfl⟩) (fun r9 u10 H locs hq hP hD hS => ?_)
    rcases hq with ⟨j11, h12, h13, rfl⟩ | ⟨h14, rfl⟩
    · skip
      have h13 : an2 = j11 := (nI_eq (a := an2) (b := j11) (by omega) (by omega)).mp h13
      have hP : va_P D vwCl [(mrf, .inl (y 0, 3, .inl frf)), (mo, .inr (11, [.ref to, .ref ke, .ref ik, .ref mrf, .long mab, .long mbl, .ref ha, .ref r0, .ref mbr, .ref mbp, .ref mby, .int (nI bl), .int (nI ta), .int (nI tl), .int (nI tk), .int vv, .ref an, .ref va])), (to, .inl (y 0, 228, .inl ft))] H := hP
      have hD : va_D A [(mrf, .inl (y 0, 3, .inl frf)), (mo, .inr (11, [.ref to, .ref ke, .ref ik, .ref mrf, .long mab, .long mbl, .ref ha, .ref r0, .ref mbr, .ref mbp, .ref mby, .int (nI bl), .int (nI ta), .int (nI tl), .int (nI tk), .int vv, .ref an, .ref va])), (to, .inl (y 0, 228, .inl ft))] := hD
      refine lv_if_eq (tgt := 43) hx hb dX11_note_12 (by decide) (fun h9 => absurd h9 (by decide)) (fun _ => ?_)
      refine lv_iload_n hx hb dX11_note_15 rfl (lv_at hl 3 rfl) ?_
      have hs15 : kw_Split [(mrf, .inl (y 0, 3, .inl frf)), (mo, .inr (11, [.ref to, .ref ke, .ref ik, .ref mrf, .long mab, .long mbl, .ref ha, .ref r0, .ref mbr, .ref mbp, .ref mby, .int (nI bl), .int (nI ta), .int (nI tl), .int (nI tk), .int vv, .ref an, .ref va])), (to, .inl (y 0, 228, .inl ft))] [] [(mrf, .inl (y 0, 3, .inl frf)), (mo, .inr (11, [.ref to, .ref ke, .ref ik, .ref mrf, .long mab, .long mbl, .ref ha, .ref r0, .ref mbr, .ref mbp, .ref mby, .int (nI bl), .int (nI ta), .int (nI tl), .int (nI tk), .int vv, .ref an, .ref va])), (to, .inl (y 0, 228, .inl ft))] [] [0, 1, 2] := ⟨rfl, rfl, rfl, rfl, rfl, by decide⟩
      refine kw_go_i hs15 hP hD hS hA (va_runS (As := [.int (nI an3)]) (rest := []) ⟨hx, hb, hml, hown, hts⟩ (gr_isLight l D y (nI an3)  _) (va_cwS 1 hts gX11_note_X11_isLight rfl rfl rfl (by decide +kernel) ⟨Nat.le_of_ble_eq_true rfl, Nat.le_of_ble_eq_true rfl⟩) (kw_PreS hs15 hP hD hK hN) rfl rfl hl.1 rfl (lv_room (Nat.le_of_ble_eq_true rfl)) dX11_note_16 ⟨Nat.le_of_ble_eq_true rfl, Nat.le_of_ble_eq_true rfl⟩) (fun r16 u17 H locs hq hP hD hS => ?_)
      rcases hq with ⟨j18, h19, h20, rfl⟩ | ⟨h21, rfl⟩
      · skip
        have h20 : an3 = j18 := (nI_eq (a := an3) (b := j18) (by omega) (by omega)).mp h20
        have hP : va_P D vwCl [(mrf, .inl (y 0, 3, .inl frf)), (mo, .inr (11, [.ref to, .ref ke, .ref ik, .ref mrf, .long mab, .long mbl, .ref ha, .ref r0, .ref mbr, .ref mbp, .ref mby, .int (nI bl), .int (nI ta), .int (nI tl), .int (nI tk), .int vv, .ref an, .ref va])), (to, .inl (y 0, 228, .inl ft))] H := hP
        have hD : va_D A [(mrf, .inl (y 0, 3, .inl frf)), (mo, .inr (11, [.ref to, .ref ke, .ref ik, .ref mrf, .long mab, .long mbl, .ref ha, .ref r0, .ref mbr, .ref mbp, .ref mby, .int (nI bl), .int (nI ta), .int (nI tl), .int (nI tk), .int vv, .ref an, .ref va])), (to, .inl (y 0, 228, .inl ft))] := hD
        refine lv_if_eq (tgt := 43) hx hb dX11_note_19 (by decide) (fun h9 => absurd h9 (by decide)) (fun _ => ?_)
        refine lv_iload hx hb dX11_note_22 (lv_at hl 4 rfl) ?_
        have hs22 : kw_Split [(mrf, .inl (y 0, 3, .inl frf)), (mo, .inr (11, [.ref to, .ref ke, .ref ik, .ref mrf, .long mab, .long mbl, .ref ha, .ref r0, .ref mbr, .ref mbp, .ref mby, .int (nI bl), .int (nI ta), .int (nI tl), .int (nI tk), .int vv, .ref an, .ref va])), (to, .inl (y 0, 228, .inl ft))] [] [(mrf, .inl (y 0, 3, .inl frf)), (mo, .inr (11, [.ref to, .ref ke, .ref ik, .ref mrf, .long mab, .long mbl, .ref ha, .ref r0, .ref mbr, .ref mbp, .ref mby, .int (nI bl), .int (nI ta), .int (nI tl), .int (nI tk), .int vv, .ref an, .ref va])), (to, .inl (y 0, 228, .inl ft))] [] [0, 1, 2] := ⟨rfl, rfl, rfl, rfl, rfl, by decide⟩
        refine kw_go_i hs22 hP hD hS hA (va_runS (As := [.int (nI an4)]) (rest := []) ⟨hx, hb, hml, hown, hts⟩ (gr_isCloud l D y (nI an4)  _) (va_cwS 1 hts gX11_note_X11_isCloud rfl rfl rfl (by decide +kernel) ⟨Nat.le_of_ble_eq_true rfl, Nat.le_of_ble_eq_true rfl⟩) (kw_PreS hs22 hP hD hK hN) rfl rfl hl.1 rfl (lv_room (Nat.le_of_ble_eq_true rfl)) dX11_note_24 ⟨Nat.le_of_ble_eq_true rfl, Nat.le_of_ble_eq_true rfl⟩) (fun r23 u24 H locs hq hP hD hS => ?_)
        rcases hq with ⟨j25, h26, h27, rfl⟩ | ⟨h28, rfl⟩
        · skip
          have h27 : an4 = j25 := (nI_eq (a := an4) (b := j25) (by omega) (by omega)).mp h27
          have hP : va_P D vwCl [(mrf, .inl (y 0, 3, .inl frf)), (mo, .inr (11, [.ref to, .ref ke, .ref ik, .ref mrf, .long mab, .long mbl, .ref ha, .ref r0, .ref mbr, .ref mbp, .ref mby, .int (nI bl), .int (nI ta), .int (nI tl), .int (nI tk), .int vv, .ref an, .ref va])), (to, .inl (y 0, 228, .inl ft))] H := hP
          have hD : va_D A [(mrf, .inl (y 0, 3, .inl frf)), (mo, .inr (11, [.ref to, .ref ke, .ref ik, .ref mrf, .long mab, .long mbl, .ref ha, .ref r0, .ref mbr, .ref mbp, .ref mby, .int (nI bl), .int (nI ta), .int (nI tl), .int (nI tk), .int vv, .ref an, .ref va])), (to, .inl (y 0, 228, .inl ft))] := hD
          refine lv_if_eq (tgt := 43) hx hb dX11_note_27 (by decide) (fun h9 => absurd h9 (by decide)) (fun _ => ?_)
          refine lv_iload hx hb dX11_note_30 (lv_at hl 5 rfl) ?_
          refine lv_i2l (v := (nI an5).toInt64) hx hb dX11_note_32 (rfl) ?_
          refine lv_lconst (v := 0) hx hb dX11_note_33 (by decide) ?_
          refine lv_ldc2 (v := 99) hx hb hown fw1 dX11_note_34 ?_
          have hs29 : kw_Split [(mrf, .inl (y 0, 3, .inl frf)), (mo, .inr (11, [.ref to, .ref ke, .ref ik, .ref mrf, .long mab, .long mbl, .ref ha, .ref r0, .ref mbr, .ref mbp, .ref mby, .int (nI bl), .int (nI ta), .int (nI tl), .int (nI tk), .int vv, .ref an, .ref va])), (to, .inl (y 0, 228, .inl ft))] [] [(mrf, .inl (y 0, 3, .inl frf)), (mo, .inr (11, [.ref to, .ref ke, .ref ik, .ref mrf, .long mab, .long mbl, .ref ha, .ref r0, .ref mbr, .ref mbp, .ref mby, .int (nI bl), .int (nI ta), .int (nI tl), .int (nI tk), .int vv, .ref an, .ref va])), (to, .inl (y 0, 228, .inl ft))] [] [0, 1, 2] := ⟨rfl, rfl, rfl, rfl, rfl, by decide⟩
          refine kw_go_i hs29 hP hD hS hA (va_runS (As := [.long ((nI an5).toInt64), .long 0, .long 99]) (rest := []) ⟨hx, hb, hml, hown, hts⟩ (gr_in l D y (nI an5) 0 99 (by omega) (by omega) _) (va_cwS 3 hts gX11_note_X11_in rfl rfl rfl (by decide +kernel) ⟨Nat.le_of_ble_eq_true rfl, Nat.le_of_ble_eq_true rfl⟩) (kw_PreS hs29 hP hD hK hN) rfl rfl hl.1 rfl (lv_room (Nat.le_of_ble_eq_true rfl)) dX11_note_37 ⟨Nat.le_of_ble_eq_true rfl, Nat.le_of_ble_eq_true rfl⟩) (fun r30 u31 H locs hq hP hD hS => ?_)
          rcases hq with ⟨j32, h33, h34, h35, rfl⟩ | ⟨h36, rfl⟩
          · skip
            have h35 : an5 = j32 := (nI_eq (a := an5) (b := j32) (by omega) (by omega)).mp h35
            have hP : va_P D vwCl [(mrf, .inl (y 0, 3, .inl frf)), (mo, .inr (11, [.ref to, .ref ke, .ref ik, .ref mrf, .long mab, .long mbl, .ref ha, .ref r0, .ref mbr, .ref mbp, .ref mby, .int (nI bl), .int (nI ta), .int (nI tl), .int (nI tk), .int vv, .ref an, .ref va])), (to, .inl (y 0, 228, .inl ft))] H := hP
            have hD : va_D A [(mrf, .inl (y 0, 3, .inl frf)), (mo, .inr (11, [.ref to, .ref ke, .ref ik, .ref mrf, .long mab, .long mbl, .ref ha, .ref r0, .ref mbr, .ref mbp, .ref mby, .int (nI bl), .int (nI ta), .int (nI tl), .int (nI tk), .int vv, .ref an, .ref va])), (to, .inl (y 0, 228, .inl ft))] := hD
            refine lv_if_ne (tgt := 50) hx hb dX11_note_40 (by decide) (fun _ => ?_) (fun h9 => absurd h9 (by decide))
            refine lv_aload_n hx hb dX11_note_50 rfl (lv_at hl 0 rfl) ?_
            refine va_get (D := D) (ci := 11) (v := .ref to) (C := RX11) (T := TX11) (N := 18) hx hb hts iw11 hown hK hP 1 rfl rfl 0 (by decide) fw2 (fun _ h9 => h9) rfl dX11_note_51 ?_
            refine lv_iconst (v := 3) hx hb dX11_note_54 (by decide) ?_
            refine va_iald hx hb hK hP 2 0 rfl rfl (by unfold vp_in; decide) dX11_note_55 ?_
            rw [show ((3 : Int32)).toNatClampNeg = 3 from rfl]
            rw [show (ft 3) = (nI no) from hk3_]
            refine lv_bipush (v := 6) hx hb dX11_note_56 (by decide) ?_
            refine lv_icmp_ne (tgt := 66) hx hb dX11_note_58 (by decide) (fun h37 => ?_) (fun h38 => ?_)
            · skip
              have h37 : ¬ no = 6 := fun q9 => h37 ((nI_eq (a := no) (b := 6) (by omega) (by omega)).mpr q9)
              exact absurd h37 (by omega)
            · skip
              have h38 : no = 6 := (nI_eq (a := no) (b := 6) (by omega) (by omega)).mp h38
              refine lv_aload_n hx hb dX11_note_61 rfl (lv_at hl 0 rfl) ?_
              have hs39 : kw_Split [(mrf, .inl (y 0, 3, .inl frf)), (mo, .inr (11, [.ref to, .ref ke, .ref ik, .ref mrf, .long mab, .long mbl, .ref ha, .ref r0, .ref mbr, .ref mbp, .ref mby, .int (nI bl), .int (nI ta), .int (nI tl), .int (nI tk), .int vv, .ref an, .ref va])), (to, .inl (y 0, 228, .inl ft))] [(mo, .inr (11, [.ref to, .ref ke, .ref ik, .ref mrf, .long mab, .long mbl, .ref ha, .ref r0, .ref mbr, .ref mbp, .ref mby, .int (nI bl), .int (nI ta), .int (nI tl), .int (nI tk), .int vv, .ref an, .ref va])), (mrf, .inl (y 0, 3, .inl frf))] [(to, .inl (y 0, 228, .inl ft))] [1, 0] [2] := ⟨rfl, rfl, rfl, rfl, rfl, by decide⟩
              refine kw_go_i hs39 hP hD hS hA (va_runV (As := []) (rest := []) ⟨hx, hb, hml, hown, hts⟩ (gr_full l D y mo to ke ik mrf ha r0 mbr mbp mby an va mab mbl bl ta tl tk vv frf  _) (cwV 0 hts gX11_note_X11_full rfl rfl rfl (by decide +kernel) ⟨Nat.le_of_ble_eq_true rfl, Nat.le_of_ble_eq_true rfl⟩) (kw_PreV (ci := 11) (q0 := 1) hs39 hP hD hK hN rfl rfl) rfl rfl hl.1 rfl (lv_room (Nat.le_of_ble_eq_true rfl)) dX11_note_62 ⟨Nat.le_of_ble_eq_true rfl, Nat.le_of_ble_eq_true rfl⟩) (fun r40 u41 H locs hq hP hD hS => ?_)
              obtain rfl := hq
              have hP : va_P D vwCl [(to, .inl (y 0, 228, .inl ft)), (mo, .inr (11, [.ref to, .ref ke, .ref ik, .ref mrf, .long mab, .long mbl, .ref ha, .ref r0, .ref mbr, .ref mbp, .ref mby, .int (nI bl), .int (nI ta), .int (nI tl), .int (nI tk), .int vv, .ref an, .ref va])), (mrf, .inl (y 0, 3, .inl (upd frf 2 ((frf 2) + 1))))] H := hP
              have hD : va_D A [(to, .inl (y 0, 228, .inl ft)), (mo, .inr (11, [.ref to, .ref ke, .ref ik, .ref mrf, .long mab, .long mbl, .ref ha, .ref r0, .ref mbr, .ref mbp, .ref mby, .int (nI bl), .int (nI ta), .int (nI tl), .int (nI tk), .int vv, .ref an, .ref va])), (mrf, .inl (y 0, 3, .inl (upd frf 2 ((frf 2) + 1))))] := hD
              exact W.iret (v := (-4)) hx hb hr (fun tZ ht hW => ⟨⟨(-4), (), rfl, ⟨by first | omega | (dsimp only; omega), rfl⟩, by rw [ht]; exact hP.sub [1, 2, 0] rfl, hD.sub [1, 2, 0] (by decide) rfl⟩, hS.F ht⟩) hS.2.2 dX11_note_65
          · skip
            exact absurd ⟨an5, by omega, by omega, rfl⟩ h36
        · skip
          exact absurd ⟨an4, by omega, by omega, rfl⟩ h28
      · skip
        exact absurd ⟨an3, by omega, by omega, rfl⟩ h21
    · skip
      exact absurd ⟨an2, by omega, by omega, rfl⟩ h14
  · skip
    exact absurd ⟨an1, by omega, rfl⟩ h7

set_option maxHeartbeats 4000000 in
set_option maxRecDepth 100000 in
theorem gx_note_ok (l : Launch) (D : va_G) (y : Nat → ClassId) (g : Nat) (kk : Nat) (nw : Nat) (im : Nat) (kp : Nat) (tx : Nat) (tr : Nat) (be : Nat) (sh : Nat) (sd : Nat) (rf : Nat) (ab : Int32) (bl : Int32) (frf : Nat → Int32) (nk : Nat) (nd : Nat) (ne : Nat) (nm : Nat) (nn : Nat) (fi : Nat) (gl : Nat) (un : Nat) (mi : Nat) (no : Nat) (t0 : Nat) (t1 : Nat) (t2 : Nat) (t3 : Nat) (t4 : Nat) (t5 : Nat) (t0f : Nat → Int32) (t1f : Nat → Int32) (t2f : Nat → Int32) (t3f : Nat → Int32) (t4f : Nat → Int32) (t5f : Nat → Int32) (fn_ : Nat → Option Nat) (an1 : Nat) (an2 : Nat) (an3 : Nat) (an4 : Nat) (an5 : Nat) (hfi : fi ≤ 6) (hgl : gl ≤ 5) (hun : un ≤ 8) (hmi : mi ≤ 4) (hno : no ≤ 6) (hn0 : fn_ 0 = some t0) (hn1 : fn_ 1 = some t1) (hn2 : fn_ 2 = some t2) (hn3 : fn_ 3 = some t3) (hn4 : fn_ 4 = some t4) (hn5 : fn_ 5 = some t5) (hA2 : no < 6) (hB0_ : an1 < fi) (hB1_ : an2 < 12) (hB2_ : an3 ≤ 60) (hB3_ : an4 < 10) (hB4_ : an5 ≤ 99) : kw_Mi l yX10_note wsX10_note ({ frames := 3, cells := 0, slots := 0, locals := 102 }) D y [.ref g, .int (nI an1), .int (nI an2), .int (nI an3), .int (nI an4), .int (nI an5)] [(g, .inr (10, [.ref kk, .ref nw, .ref im, .ref kp, .ref tx, .ref tr, .ref be, .ref sh, .ref sd, .ref rf, .int ab, .int bl])), (rf, .inl (y 0, 3, .inl frf)), (nw, .inr (4, [.ref kk, .ref nk, .ref nd, .ref ne, .ref nm, .ref nn, .int (nI fi), .int (nI gl), .int (nI un), .int (nI mi), .int (nI no)])), (nn, .inl (y 6, 6, .inr (.inr (.inr (.inr fn_))))), (t0, .inl (y 0, 5, .inl t0f)), (t1, .inl (y 0, 5, .inl t1f)), (t2, .inl (y 0, 5, .inl t2f)), (t3, .inl (y 0, 5, .inl t3f)), (t4, .inl (y 0, 5, .inl t4f)), (t5, .inl (y 0, 5, .inl t5f))] (fun (r : Int32) (u : (Nat → Int32) × (Nat → Int32) × (Nat → Int32) × (Nat → Int32) × (Nat → Int32) × (Nat → Int32)) => r = (nI (no + 1))) (fun u => [(g, .inr (10, [.ref kk, .ref nw, .ref im, .ref kp, .ref tx, .ref tr, .ref be, .ref sh, .ref sd, .ref rf, .int ab, .int bl])), (rf, .inl (y 0, 3, .inl frf)), (nw, .inr (4, [.ref kk, .ref nk, .ref nd, .ref ne, .ref nm, .ref nn, .int (nI fi), .int (nI gl), .int (nI un), .int (nI mi), .int (nI (no + 1))])), (nn, .inl (y 6, 6, .inr (.inr (.inr (.inr fn_))))), (t0, .inl (y 0, 5, .inl u.1)), (t1, .inl (y 0, 5, .inl u.2.1)), (t2, .inl (y 0, 5, .inl u.2.2.1)), (t3, .inl (y 0, 5, .inl u.2.2.2.1)), (t4, .inl (y 0, 5, .inl u.2.2.2.2.1)), (t5, .inl (y 0, 5, .inl u.2.2.2.2.2))]) 0 0 := by
  refine kw_Mi.of (cc := cX10_note) (maxL := 6) (ret := (some .int)) (by decide) rfl ?_
  intro pZ eZ s mZ beZ meZ cZ A hE
  obtain ⟨hx, hb, hr, hml, hts, hown, hlocks, hin, hA, hP, hD, hK, hN⟩ := hE
  have hS : va_S A s.heap s.heap [] := va_S.rf
  have hl := lv_entry ([.ref g, .int (nI an1), .int (nI an2), .int (nI an3), .int (nI an4), .int (nI an5)]) (n := 6) (Nat.le_of_ble_eq_true rfl)
  rw [lg_entry_eq]
  generalize (lg_sl ([.ref g, .int (nI an1), .int (nI an2), .int (nI an3), .int (nI an4), .int (nI an5)]) ++ List.replicate (6 - (lg_sl ([.ref g, .int (nI an1), .int (nI an2), .int (nI an3), .int (nI an4), .int (nI an5)])).length) Slot.unset).toArray = ls at hl ⊢
  have hl : lv_has ls 6 [(0, .ref g), (1, .int (nI an1)), (2, .int (nI an2)), (3, .int (nI an3)), (4, .int (nI an4)), (5, .int (nI an5))] := hl
  have fw1 := hts (.fieldLink RX10 36 "GleanDusk" "now" "LGleanDusk$Parish;") (List.mem_of_getElem? (i := 1) rfl)
  have fw2 := hts (.fieldLink RX10 250 "GleanDusk$Parish" "noteCount" "I") (List.mem_of_getElem? (i := 2) rfl)
  have iw10 : ∀ w ∈ wsX100, w ∈ wsX10_note := fun _ h => List.mem_cons_of_mem _ (List.mem_append_left _ (List.mem_append_right _ h))
  have iw4 : ∀ w ∈ wsX40, w ∈ wsX10_note := fun _ h => List.mem_cons_of_mem _ (List.mem_append_right _ h)
  refine lv_aload_n hx hb dX10_note_0 rfl (lv_at hl 0 rfl) ?_
  refine va_get (D := D) (ci := 10) (v := .ref nw) (C := RX10) (T := TX10) (N := 12) hx hb hts iw10 hown hK hP 0 rfl rfl 1 (by decide) fw1 (fun _ h9 => h9) rfl dX10_note_1 ?_
  refine lv_iload_n hx hb dX10_note_4 rfl (lv_at hl 1 rfl) ?_
  have hs1 : kw_Split [(g, .inr (10, [.ref kk, .ref nw, .ref im, .ref kp, .ref tx, .ref tr, .ref be, .ref sh, .ref sd, .ref rf, .int ab, .int bl])), (rf, .inl (y 0, 3, .inl frf)), (nw, .inr (4, [.ref kk, .ref nk, .ref nd, .ref ne, .ref nm, .ref nn, .int (nI fi), .int (nI gl), .int (nI un), .int (nI mi), .int (nI no)])), (nn, .inl (y 6, 6, .inr (.inr (.inr (.inr fn_))))), (t0, .inl (y 0, 5, .inl t0f)), (t1, .inl (y 0, 5, .inl t1f)), (t2, .inl (y 0, 5, .inl t2f)), (t3, .inl (y 0, 5, .inl t3f)), (t4, .inl (y 0, 5, .inl t4f)), (t5, .inl (y 0, 5, .inl t5f))] [(nw, .inr (4, [.ref kk, .ref nk, .ref nd, .ref ne, .ref nm, .ref nn, .int (nI fi), .int (nI gl), .int (nI un), .int (nI mi), .int (nI no)]))] [(g, .inr (10, [.ref kk, .ref nw, .ref im, .ref kp, .ref tx, .ref tr, .ref be, .ref sh, .ref sd, .ref rf, .int ab, .int bl])), (rf, .inl (y 0, 3, .inl frf)), (nn, .inl (y 6, 6, .inr (.inr (.inr (.inr fn_))))), (t0, .inl (y 0, 5, .inl t0f)), (t1, .inl (y 0, 5, .inl t1f)), (t2, .inl (y 0, 5, .inl t2f)), (t3, .inl (y 0, 5, .inl t3f)), (t4, .inl (y 0, 5, .inl t4f)), (t5, .inl (y 0, 5, .inl t5f))] [2] [0, 1, 3, 4, 5, 6, 7, 8, 9] := ⟨rfl, rfl, rfl, rfl, rfl, by decide⟩
  refine kw_go_i hs1 hP hD hS hA (va_runV (As := [.int (nI an1)]) (rest := []) ⟨hx, hb, hml, hown, hts⟩ (gc_hasField l D y nw kk nk nd ne nm nn fi gl un mi no (nI an1) hfi hgl hun hmi hno _) (cwV 1 hts gX10_note_X4_hasField rfl rfl rfl (by decide +kernel) ⟨Nat.le_of_ble_eq_true rfl, Nat.le_of_ble_eq_true rfl⟩) (kw_PreV (ci := 4) (q0 := 2) hs1 hP hD hK hN rfl rfl) rfl rfl hl.1 rfl (lv_room (Nat.le_of_ble_eq_true rfl)) dX10_note_5 ⟨Nat.le_of_ble_eq_true rfl, Nat.le_of_ble_eq_true rfl⟩) (fun r2 u3 H locs hq hP hD hS => ?_)
  rcases hq with ⟨j4, h5, h6, rfl⟩ | ⟨h7, rfl⟩
  · skip
    have h6 : an1 = j4 := (nI_eq (a := an1) (b := j4) (by omega) (by omega)).mp h6
    have hP : va_P D vwCl [(g, .inr (10, [.ref kk, .ref nw, .ref im, .ref kp, .ref tx, .ref tr, .ref be, .ref sh, .ref sd, .ref rf, .int ab, .int bl])), (rf, .inl (y 0, 3, .inl frf)), (nn, .inl (y 6, 6, .inr (.inr (.inr (.inr fn_))))), (t0, .inl (y 0, 5, .inl t0f)), (t1, .inl (y 0, 5, .inl t1f)), (t2, .inl (y 0, 5, .inl t2f)), (t3, .inl (y 0, 5, .inl t3f)), (t4, .inl (y 0, 5, .inl t4f)), (t5, .inl (y 0, 5, .inl t5f)), (nw, .inr (4, [.ref kk, .ref nk, .ref nd, .ref ne, .ref nm, .ref nn, .int (nI fi), .int (nI gl), .int (nI un), .int (nI mi), .int (nI no)]))] H := hP
    have hD : va_D A [(g, .inr (10, [.ref kk, .ref nw, .ref im, .ref kp, .ref tx, .ref tr, .ref be, .ref sh, .ref sd, .ref rf, .int ab, .int bl])), (rf, .inl (y 0, 3, .inl frf)), (nn, .inl (y 6, 6, .inr (.inr (.inr (.inr fn_))))), (t0, .inl (y 0, 5, .inl t0f)), (t1, .inl (y 0, 5, .inl t1f)), (t2, .inl (y 0, 5, .inl t2f)), (t3, .inl (y 0, 5, .inl t3f)), (t4, .inl (y 0, 5, .inl t4f)), (t5, .inl (y 0, 5, .inl t5f)), (nw, .inr (4, [.ref kk, .ref nk, .ref nd, .ref ne, .ref nm, .ref nn, .int (nI fi), .int (nI gl), .int (nI un), .int (nI mi), .int (nI no)]))] := hD
    refine lv_if_eq (tgt := 27) hx hb dX10_note_8 (by decide) (fun h9 => absurd h9 (by decide)) (fun _ => ?_)
    refine lv_iload_n hx hb dX10_note_11 rfl (lv_at hl 2 rfl) ?_
    refine lv_bipush (v := 12) hx hb dX10_note_12 (by decide) ?_
    have hs8 : kw_Split [(g, .inr (10, [.ref kk, .ref nw, .ref im, .ref kp, .ref tx, .ref tr, .ref be, .ref sh, .ref sd, .ref rf, .int ab, .int bl])), (rf, .inl (y 0, 3, .inl frf)), (nn, .inl (y 6, 6, .inr (.inr (.inr (.inr fn_))))), (t0, .inl (y 0, 5, .inl t0f)), (t1, .inl (y 0, 5, .inl t1f)), (t2, .inl (y 0, 5, .inl t2f)), (t3, .inl (y 0, 5, .inl t3f)), (t4, .inl (y 0, 5, .inl t4f)), (t5, .inl (y 0, 5, .inl t5f)), (nw, .inr (4, [.ref kk, .ref nk, .ref nd, .ref ne, .ref nm, .ref nn, .int (nI fi), .int (nI gl), .int (nI un), .int (nI mi), .int (nI no)]))] [] [(g, .inr (10, [.ref kk, .ref nw, .ref im, .ref kp, .ref tx, .ref tr, .ref be, .ref sh, .ref sd, .ref rf, .int ab, .int bl])), (rf, .inl (y 0, 3, .inl frf)), (nn, .inl (y 6, 6, .inr (.inr (.inr (.inr fn_))))), (t0, .inl (y 0, 5, .inl t0f)), (t1, .inl (y 0, 5, .inl t1f)), (t2, .inl (y 0, 5, .inl t2f)), (t3, .inl (y 0, 5, .inl t3f)), (t4, .inl (y 0, 5, .inl t4f)), (t5, .inl (y 0, 5, .inl t5f)), (nw, .inr (4, [.ref kk, .ref nk, .ref nd, .ref ne, .ref nm, .ref nn, .int (nI fi), .int (nI gl), .int (nI un), .int (nI mi), .int (nI no)]))] [] [0, 1, 2, 3, 4, 5, 6, 7, 8, 9] := ⟨rfl, rfl, rfl, rfl, rfl, by decide⟩
    refine kw_go_i hs8 hP hD hS hA (va_runS (As := [.int (nI an2), .int 12]) (rest := []) ⟨hx, hb, hml, hown, hts⟩ (gc_isBelow l D y (nI an2) 12 (by omega) _) (va_cwS 2 hts gX10_note_X10_isBelow rfl rfl rfl (by decide +kernel) ⟨Nat.le_of_ble_eq_true rfl, Nat.le_of_ble_eq_true rfl⟩) (kw_PreS hs8 hP hD hK hN) rfl rfl hl.1 rfl (lv_room (Nat.le_of_ble_eq_true rfl)) dX10_note_14 ⟨Nat.le_of_ble_eq_true rfl, Nat.le_of_ble_eq_true rfl⟩) (fun r9 u10 H locs hq hP hD hS => ?_)
    rcases hq with ⟨j11, h12, h13, rfl⟩ | ⟨h14, rfl⟩
    · skip
      have h13 : an2 = j11 := (nI_eq (a := an2) (b := j11) (by omega) (by omega)).mp h13
      have hP : va_P D vwCl [(g, .inr (10, [.ref kk, .ref nw, .ref im, .ref kp, .ref tx, .ref tr, .ref be, .ref sh, .ref sd, .ref rf, .int ab, .int bl])), (rf, .inl (y 0, 3, .inl frf)), (nn, .inl (y 6, 6, .inr (.inr (.inr (.inr fn_))))), (t0, .inl (y 0, 5, .inl t0f)), (t1, .inl (y 0, 5, .inl t1f)), (t2, .inl (y 0, 5, .inl t2f)), (t3, .inl (y 0, 5, .inl t3f)), (t4, .inl (y 0, 5, .inl t4f)), (t5, .inl (y 0, 5, .inl t5f)), (nw, .inr (4, [.ref kk, .ref nk, .ref nd, .ref ne, .ref nm, .ref nn, .int (nI fi), .int (nI gl), .int (nI un), .int (nI mi), .int (nI no)]))] H := hP
      have hD : va_D A [(g, .inr (10, [.ref kk, .ref nw, .ref im, .ref kp, .ref tx, .ref tr, .ref be, .ref sh, .ref sd, .ref rf, .int ab, .int bl])), (rf, .inl (y 0, 3, .inl frf)), (nn, .inl (y 6, 6, .inr (.inr (.inr (.inr fn_))))), (t0, .inl (y 0, 5, .inl t0f)), (t1, .inl (y 0, 5, .inl t1f)), (t2, .inl (y 0, 5, .inl t2f)), (t3, .inl (y 0, 5, .inl t3f)), (t4, .inl (y 0, 5, .inl t4f)), (t5, .inl (y 0, 5, .inl t5f)), (nw, .inr (4, [.ref kk, .ref nk, .ref nd, .ref ne, .ref nm, .ref nn, .int (nI fi), .int (nI gl), .int (nI un), .int (nI mi), .int (nI no)]))] := hD
      refine lv_if_eq (tgt := 27) hx hb dX10_note_17 (by decide) (fun h9 => absurd h9 (by decide)) (fun _ => ?_)
      refine lv_iload_n hx hb dX10_note_20 rfl (lv_at hl 3 rfl) ?_
      have hs15 : kw_Split [(g, .inr (10, [.ref kk, .ref nw, .ref im, .ref kp, .ref tx, .ref tr, .ref be, .ref sh, .ref sd, .ref rf, .int ab, .int bl])), (rf, .inl (y 0, 3, .inl frf)), (nn, .inl (y 6, 6, .inr (.inr (.inr (.inr fn_))))), (t0, .inl (y 0, 5, .inl t0f)), (t1, .inl (y 0, 5, .inl t1f)), (t2, .inl (y 0, 5, .inl t2f)), (t3, .inl (y 0, 5, .inl t3f)), (t4, .inl (y 0, 5, .inl t4f)), (t5, .inl (y 0, 5, .inl t5f)), (nw, .inr (4, [.ref kk, .ref nk, .ref nd, .ref ne, .ref nm, .ref nn, .int (nI fi), .int (nI gl), .int (nI un), .int (nI mi), .int (nI no)]))] [] [(g, .inr (10, [.ref kk, .ref nw, .ref im, .ref kp, .ref tx, .ref tr, .ref be, .ref sh, .ref sd, .ref rf, .int ab, .int bl])), (rf, .inl (y 0, 3, .inl frf)), (nn, .inl (y 6, 6, .inr (.inr (.inr (.inr fn_))))), (t0, .inl (y 0, 5, .inl t0f)), (t1, .inl (y 0, 5, .inl t1f)), (t2, .inl (y 0, 5, .inl t2f)), (t3, .inl (y 0, 5, .inl t3f)), (t4, .inl (y 0, 5, .inl t4f)), (t5, .inl (y 0, 5, .inl t5f)), (nw, .inr (4, [.ref kk, .ref nk, .ref nd, .ref ne, .ref nm, .ref nn, .int (nI fi), .int (nI gl), .int (nI un), .int (nI mi), .int (nI no)]))] [] [0, 1, 2, 3, 4, 5, 6, 7, 8, 9] := ⟨rfl, rfl, rfl, rfl, rfl, by decide⟩
      refine kw_go_i hs15 hP hD hS hA (va_runS (As := [.int (nI an3)]) (rest := []) ⟨hx, hb, hml, hown, hts⟩ (gc_isLight l D y (nI an3)  _) (va_cwS 1 hts gX10_note_X10_isLight rfl rfl rfl (by decide +kernel) ⟨Nat.le_of_ble_eq_true rfl, Nat.le_of_ble_eq_true rfl⟩) (kw_PreS hs15 hP hD hK hN) rfl rfl hl.1 rfl (lv_room (Nat.le_of_ble_eq_true rfl)) dX10_note_21 ⟨Nat.le_of_ble_eq_true rfl, Nat.le_of_ble_eq_true rfl⟩) (fun r16 u17 H locs hq hP hD hS => ?_)
      rcases hq with ⟨j18, h19, h20, rfl⟩ | ⟨h21, rfl⟩
      · skip
        have h20 : an3 = j18 := (nI_eq (a := an3) (b := j18) (by omega) (by omega)).mp h20
        have hP : va_P D vwCl [(g, .inr (10, [.ref kk, .ref nw, .ref im, .ref kp, .ref tx, .ref tr, .ref be, .ref sh, .ref sd, .ref rf, .int ab, .int bl])), (rf, .inl (y 0, 3, .inl frf)), (nn, .inl (y 6, 6, .inr (.inr (.inr (.inr fn_))))), (t0, .inl (y 0, 5, .inl t0f)), (t1, .inl (y 0, 5, .inl t1f)), (t2, .inl (y 0, 5, .inl t2f)), (t3, .inl (y 0, 5, .inl t3f)), (t4, .inl (y 0, 5, .inl t4f)), (t5, .inl (y 0, 5, .inl t5f)), (nw, .inr (4, [.ref kk, .ref nk, .ref nd, .ref ne, .ref nm, .ref nn, .int (nI fi), .int (nI gl), .int (nI un), .int (nI mi), .int (nI no)]))] H := hP
        have hD : va_D A [(g, .inr (10, [.ref kk, .ref nw, .ref im, .ref kp, .ref tx, .ref tr, .ref be, .ref sh, .ref sd, .ref rf, .int ab, .int bl])), (rf, .inl (y 0, 3, .inl frf)), (nn, .inl (y 6, 6, .inr (.inr (.inr (.inr fn_))))), (t0, .inl (y 0, 5, .inl t0f)), (t1, .inl (y 0, 5, .inl t1f)), (t2, .inl (y 0, 5, .inl t2f)), (t3, .inl (y 0, 5, .inl t3f)), (t4, .inl (y 0, 5, .inl t4f)), (t5, .inl (y 0, 5, .inl t5f)), (nw, .inr (4, [.ref kk, .ref nk, .ref nd, .ref ne, .ref nm, .ref nn, .int (nI fi), .int (nI gl), .int (nI un), .int (nI mi), .int (nI no)]))] := hD
        refine lv_if_ne (tgt := 32) hx hb dX10_note_24 (by decide) (fun _ => ?_) (fun h9 => absurd h9 (by decide))
        refine lv_iload hx hb dX10_note_32 (lv_at hl 4 rfl) ?_
        refine lv_bipush (v := 10) hx hb dX10_note_34 (by decide) ?_
        have hs22 : kw_Split [(g, .inr (10, [.ref kk, .ref nw, .ref im, .ref kp, .ref tx, .ref tr, .ref be, .ref sh, .ref sd, .ref rf, .int ab, .int bl])), (rf, .inl (y 0, 3, .inl frf)), (nn, .inl (y 6, 6, .inr (.inr (.inr (.inr fn_))))), (t0, .inl (y 0, 5, .inl t0f)), (t1, .inl (y 0, 5, .inl t1f)), (t2, .inl (y 0, 5, .inl t2f)), (t3, .inl (y 0, 5, .inl t3f)), (t4, .inl (y 0, 5, .inl t4f)), (t5, .inl (y 0, 5, .inl t5f)), (nw, .inr (4, [.ref kk, .ref nk, .ref nd, .ref ne, .ref nm, .ref nn, .int (nI fi), .int (nI gl), .int (nI un), .int (nI mi), .int (nI no)]))] [] [(g, .inr (10, [.ref kk, .ref nw, .ref im, .ref kp, .ref tx, .ref tr, .ref be, .ref sh, .ref sd, .ref rf, .int ab, .int bl])), (rf, .inl (y 0, 3, .inl frf)), (nn, .inl (y 6, 6, .inr (.inr (.inr (.inr fn_))))), (t0, .inl (y 0, 5, .inl t0f)), (t1, .inl (y 0, 5, .inl t1f)), (t2, .inl (y 0, 5, .inl t2f)), (t3, .inl (y 0, 5, .inl t3f)), (t4, .inl (y 0, 5, .inl t4f)), (t5, .inl (y 0, 5, .inl t5f)), (nw, .inr (4, [.ref kk, .ref nk, .ref nd, .ref ne, .ref nm, .ref nn, .int (nI fi), .int (nI gl), .int (nI un), .int (nI mi), .int (nI no)]))] [] [0, 1, 2, 3, 4, 5, 6, 7, 8, 9] := ⟨rfl, rfl, rfl, rfl, rfl, by decide⟩
        refine kw_go_i hs22 hP hD hS hA (va_runS (As := [.int (nI an4), .int 10]) (rest := []) ⟨hx, hb, hml, hown, hts⟩ (gc_isBelow l D y (nI an4) 10 (by omega) _) (va_cwS 2 hts gX10_note_X10_isBelow rfl rfl rfl (by decide +kernel) ⟨Nat.le_of_ble_eq_true rfl, Nat.le_of_ble_eq_true rfl⟩) (kw_PreS hs22 hP hD hK hN) rfl rfl hl.1 rfl (lv_room (Nat.le_of_ble_eq_true rfl)) dX10_note_36 ⟨Nat.le_of_ble_eq_true rfl, Nat.le_of_ble_eq_true rfl⟩) (fun r23 u24 H locs hq hP hD hS => ?_)
        rcases hq with ⟨j25, h26, h27, rfl⟩ | ⟨h28, rfl⟩
        · skip
          have h27 : an4 = j25 := (nI_eq (a := an4) (b := j25) (by omega) (by omega)).mp h27
          have hP : va_P D vwCl [(g, .inr (10, [.ref kk, .ref nw, .ref im, .ref kp, .ref tx, .ref tr, .ref be, .ref sh, .ref sd, .ref rf, .int ab, .int bl])), (rf, .inl (y 0, 3, .inl frf)), (nn, .inl (y 6, 6, .inr (.inr (.inr (.inr fn_))))), (t0, .inl (y 0, 5, .inl t0f)), (t1, .inl (y 0, 5, .inl t1f)), (t2, .inl (y 0, 5, .inl t2f)), (t3, .inl (y 0, 5, .inl t3f)), (t4, .inl (y 0, 5, .inl t4f)), (t5, .inl (y 0, 5, .inl t5f)), (nw, .inr (4, [.ref kk, .ref nk, .ref nd, .ref ne, .ref nm, .ref nn, .int (nI fi), .int (nI gl), .int (nI un), .int (nI mi), .int (nI no)]))] H := hP
          have hD : va_D A [(g, .inr (10, [.ref kk, .ref nw, .ref im, .ref kp, .ref tx, .ref tr, .ref be, .ref sh, .ref sd, .ref rf, .int ab, .int bl])), (rf, .inl (y 0, 3, .inl frf)), (nn, .inl (y 6, 6, .inr (.inr (.inr (.inr fn_))))), (t0, .inl (y 0, 5, .inl t0f)), (t1, .inl (y 0, 5, .inl t1f)), (t2, .inl (y 0, 5, .inl t2f)), (t3, .inl (y 0, 5, .inl t3f)), (t4, .inl (y 0, 5, .inl t4f)), (t5, .inl (y 0, 5, .inl t5f)), (nw, .inr (4, [.ref kk, .ref nk, .ref nd, .ref ne, .ref nm, .ref nn, .int (nI fi), .int (nI gl), .int (nI un), .int (nI mi), .int (nI no)]))] := hD
          refine lv_if_eq (tgt := 53) hx hb dX10_note_39 (by decide) (fun h9 => absurd h9 (by decide)) (fun _ => ?_)
          refine lv_iload hx hb dX10_note_42 (lv_at hl 5 rfl) ?_
          refine lv_iconst (v := 0) hx hb dX10_note_44 (by decide) ?_
          refine lv_bipush (v := 99) hx hb dX10_note_45 (by decide) ?_
          have hs29 : kw_Split [(g, .inr (10, [.ref kk, .ref nw, .ref im, .ref kp, .ref tx, .ref tr, .ref be, .ref sh, .ref sd, .ref rf, .int ab, .int bl])), (rf, .inl (y 0, 3, .inl frf)), (nn, .inl (y 6, 6, .inr (.inr (.inr (.inr fn_))))), (t0, .inl (y 0, 5, .inl t0f)), (t1, .inl (y 0, 5, .inl t1f)), (t2, .inl (y 0, 5, .inl t2f)), (t3, .inl (y 0, 5, .inl t3f)), (t4, .inl (y 0, 5, .inl t4f)), (t5, .inl (y 0, 5, .inl t5f)), (nw, .inr (4, [.ref kk, .ref nk, .ref nd, .ref ne, .ref nm, .ref nn, .int (nI fi), .int (nI gl), .int (nI un), .int (nI mi), .int (nI no)]))] [] [(g, .inr (10, [.ref kk, .ref nw, .ref im, .ref kp, .ref tx, .ref tr, .ref be, .ref sh, .ref sd, .ref rf, .int ab, .int bl])), (rf, .inl (y 0, 3, .inl frf)), (nn, .inl (y 6, 6, .inr (.inr (.inr (.inr fn_))))), (t0, .inl (y 0, 5, .inl t0f)), (t1, .inl (y 0, 5, .inl t1f)), (t2, .inl (y 0, 5, .inl t2f)), (t3, .inl (y 0, 5, .inl t3f)), (t4, .inl (y 0, 5, .inl t4f)), (t5, .inl (y 0, 5, .inl t5f)), (nw, .inr (4, [.ref kk, .ref nk, .ref nd, .ref ne, .ref nm, .ref nn, .int (nI fi), .int (nI gl), .int (nI un), .int (nI mi), .int (nI no)]))] [] [0, 1, 2, 3, 4, 5, 6, 7, 8, 9] := ⟨rfl, rfl, rfl, rfl, rfl, by decide⟩
          refine kw_go_i hs29 hP hD hS hA (va_runS (As := [.int (nI an5), .int 0, .int 99]) (rest := []) ⟨hx, hb, hml, hown, hts⟩ (gc_isIn l D y (nI an5) 0 99 (by omega) (by omega) _) (va_cwS 3 hts gX10_note_X10_isIn rfl rfl rfl (by decide +kernel) ⟨Nat.le_of_ble_eq_true rfl, Nat.le_of_ble_eq_true rfl⟩) (kw_PreS hs29 hP hD hK hN) rfl rfl hl.1 rfl (lv_room (Nat.le_of_ble_eq_true rfl)) dX10_note_47 ⟨Nat.le_of_ble_eq_true rfl, Nat.le_of_ble_eq_true rfl⟩) (fun r30 u31 H locs hq hP hD hS => ?_)
          rcases hq with ⟨j32, h33, h34, h35, rfl⟩ | ⟨h36, rfl⟩
          · skip
            have h35 : an5 = j32 := (nI_eq (a := an5) (b := j32) (by omega) (by omega)).mp h35
            have hP : va_P D vwCl [(g, .inr (10, [.ref kk, .ref nw, .ref im, .ref kp, .ref tx, .ref tr, .ref be, .ref sh, .ref sd, .ref rf, .int ab, .int bl])), (rf, .inl (y 0, 3, .inl frf)), (nn, .inl (y 6, 6, .inr (.inr (.inr (.inr fn_))))), (t0, .inl (y 0, 5, .inl t0f)), (t1, .inl (y 0, 5, .inl t1f)), (t2, .inl (y 0, 5, .inl t2f)), (t3, .inl (y 0, 5, .inl t3f)), (t4, .inl (y 0, 5, .inl t4f)), (t5, .inl (y 0, 5, .inl t5f)), (nw, .inr (4, [.ref kk, .ref nk, .ref nd, .ref ne, .ref nm, .ref nn, .int (nI fi), .int (nI gl), .int (nI un), .int (nI mi), .int (nI no)]))] H := hP
            have hD : va_D A [(g, .inr (10, [.ref kk, .ref nw, .ref im, .ref kp, .ref tx, .ref tr, .ref be, .ref sh, .ref sd, .ref rf, .int ab, .int bl])), (rf, .inl (y 0, 3, .inl frf)), (nn, .inl (y 6, 6, .inr (.inr (.inr (.inr fn_))))), (t0, .inl (y 0, 5, .inl t0f)), (t1, .inl (y 0, 5, .inl t1f)), (t2, .inl (y 0, 5, .inl t2f)), (t3, .inl (y 0, 5, .inl t3f)), (t4, .inl (y 0, 5, .inl t4f)), (t5, .inl (y 0, 5, .inl t5f)), (nw, .inr (4, [.ref kk, .ref nk, .ref nd, .ref ne, .ref nm, .ref nn, .int (nI fi), .int (nI gl), .int (nI un), .int (nI mi), .int (nI no)]))] := hD
            refine lv_if_ne (tgt := 58) hx hb dX10_note_50 (by decide) (fun _ => ?_) (fun h9 => absurd h9 (by decide))
            refine lv_aload_n hx hb dX10_note_58 rfl (lv_at hl 0 rfl) ?_
            refine va_get (D := D) (ci := 10) (v := .ref nw) (C := RX10) (T := TX10) (N := 12) hx hb hts iw10 hown hK hP 0 rfl rfl 1 (by decide) fw1 (fun _ h9 => h9) rfl dX10_note_59 ?_
            refine va_get (D := D) (ci := 4) (v := .int (nI no)) (C := RX4) (T := TX4) (N := 11) hx hb hts iw4 hown hK hP 9 rfl rfl 10 (by decide) fw2 (fun _ h9 => h9) rfl dX10_note_62 ?_
            refine lv_bipush (v := 6) hx hb dX10_note_65 (by decide) ?_
            refine lv_icmp_lt (tgt := 75) hx hb dX10_note_67 (by decide) (fun h37 => ?_) (fun h38 => ?_)
            · skip
              have h37 : no < 6 := (nI_ltI (a := no) (b := 6) (by omega) (by omega)).mp h37
              refine lv_aload_n hx hb dX10_note_75 rfl (lv_at hl 0 rfl) ?_
              refine va_get (D := D) (ci := 10) (v := .ref nw) (C := RX10) (T := TX10) (N := 12) hx hb hts iw10 hown hK hP 0 rfl rfl 1 (by decide) fw1 (fun _ h9 => h9) rfl dX10_note_76 ?_
              refine lv_iload_n hx hb dX10_note_79 rfl (lv_at hl 1 rfl) ?_
              refine lv_iload_n hx hb dX10_note_80 rfl (lv_at hl 2 rfl) ?_
              refine lv_iload_n hx hb dX10_note_81 rfl (lv_at hl 3 rfl) ?_
              refine lv_iload hx hb dX10_note_82 (lv_at hl 4 rfl) ?_
              refine lv_iload hx hb dX10_note_84 (lv_at hl 5 rfl) ?_
              have hs39 : kw_Split [(g, .inr (10, [.ref kk, .ref nw, .ref im, .ref kp, .ref tx, .ref tr, .ref be, .ref sh, .ref sd, .ref rf, .int ab, .int bl])), (rf, .inl (y 0, 3, .inl frf)), (nn, .inl (y 6, 6, .inr (.inr (.inr (.inr fn_))))), (t0, .inl (y 0, 5, .inl t0f)), (t1, .inl (y 0, 5, .inl t1f)), (t2, .inl (y 0, 5, .inl t2f)), (t3, .inl (y 0, 5, .inl t3f)), (t4, .inl (y 0, 5, .inl t4f)), (t5, .inl (y 0, 5, .inl t5f)), (nw, .inr (4, [.ref kk, .ref nk, .ref nd, .ref ne, .ref nm, .ref nn, .int (nI fi), .int (nI gl), .int (nI un), .int (nI mi), .int (nI no)]))] [(nw, .inr (4, [.ref kk, .ref nk, .ref nd, .ref ne, .ref nm, .ref nn, .int (nI fi), .int (nI gl), .int (nI un), .int (nI mi), .int (nI no)])), (nn, .inl (y 6, 6, .inr (.inr (.inr (.inr fn_))))), (t0, .inl (y 0, 5, .inl t0f)), (t1, .inl (y 0, 5, .inl t1f)), (t2, .inl (y 0, 5, .inl t2f)), (t3, .inl (y 0, 5, .inl t3f)), (t4, .inl (y 0, 5, .inl t4f)), (t5, .inl (y 0, 5, .inl t5f))] [(g, .inr (10, [.ref kk, .ref nw, .ref im, .ref kp, .ref tx, .ref tr, .ref be, .ref sh, .ref sd, .ref rf, .int ab, .int bl])), (rf, .inl (y 0, 3, .inl frf))] [9, 2, 3, 4, 5, 6, 7, 8] [0, 1] := ⟨rfl, rfl, rfl, rfl, rfl, by decide⟩
              refine kw_go_i hs39 hP hD hS hA (va_runV (As := [.int (nI an1), .int (nI an2), .int (nI an3), .int (nI an4), .int (nI an5)]) (rest := []) ⟨hx, hb, hml, hown, hts⟩ (gs_addNote l D y nw kk nk nd ne nm nn fi gl un mi no t0 t1 t2 t3 t4 t5 t0f t1f t2f t3f t4f t5f fn_ (nI an1) (nI an2) (nI an3) (nI an4) (nI an5) hfi hgl hun hmi hno hn0 hn1 hn2 hn3 hn4 hn5 hA2 _) (cwV 5 hts gX10_note_X4_addNote rfl rfl rfl (by decide +kernel) ⟨Nat.le_of_ble_eq_true rfl, Nat.le_of_ble_eq_true rfl⟩) (kw_PreV (ci := 4) (q0 := 9) hs39 hP hD hK hN rfl rfl) rfl rfl hl.1 rfl (lv_room (Nat.le_of_ble_eq_true rfl)) dX10_note_86 ⟨Nat.le_of_ble_eq_true rfl, Nat.le_of_ble_eq_true rfl⟩) (fun r40 u41 H locs hq hP hD hS => ?_)
              obtain ⟨v42, v43, v44, v45, v46, v47⟩ := u41
              try dsimp only at hq
              obtain rfl := hq
              have hP : va_P D vwCl [(g, .inr (10, [.ref kk, .ref nw, .ref im, .ref kp, .ref tx, .ref tr, .ref be, .ref sh, .ref sd, .ref rf, .int ab, .int bl])), (rf, .inl (y 0, 3, .inl frf)), (nw, .inr (4, [.ref kk, .ref nk, .ref nd, .ref ne, .ref nm, .ref nn, .int (nI fi), .int (nI gl), .int (nI un), .int (nI mi), .int (nI (no + 1))])), (nn, .inl (y 6, 6, .inr (.inr (.inr (.inr fn_))))), (t0, .inl (y 0, 5, .inl v42)), (t1, .inl (y 0, 5, .inl v43)), (t2, .inl (y 0, 5, .inl v44)), (t3, .inl (y 0, 5, .inl v45)), (t4, .inl (y 0, 5, .inl v46)), (t5, .inl (y 0, 5, .inl v47))] H := hP
              have hD : va_D A [(g, .inr (10, [.ref kk, .ref nw, .ref im, .ref kp, .ref tx, .ref tr, .ref be, .ref sh, .ref sd, .ref rf, .int ab, .int bl])), (rf, .inl (y 0, 3, .inl frf)), (nw, .inr (4, [.ref kk, .ref nk, .ref nd, .ref ne, .ref nm, .ref nn, .int (nI fi), .int (nI gl), .int (nI un), .int (nI mi), .int (nI (no + 1))])), (nn, .inl (y 6, 6, .inr (.inr (.inr (.inr fn_))))), (t0, .inl (y 0, 5, .inl v42)), (t1, .inl (y 0, 5, .inl v43)), (t2, .inl (y 0, 5, .inl v44)), (t3, .inl (y 0, 5, .inl v45)), (t4, .inl (y 0, 5, .inl v46)), (t5, .inl (y 0, 5, .inl v47))] := hD
              exact W.iret (v := (nI (no + 1))) hx hb hr (fun tZ ht hW => ⟨⟨(nI (no + 1)), (v42, v43, v44, v45, v46, v47), rfl, rfl, by rw [ht]; exact hP.sub [0, 1, 2, 3, 4, 5, 6, 7, 8, 9] rfl, hD.sub [0, 1, 2, 3, 4, 5, 6, 7, 8, 9] (by decide) rfl⟩, hS.F ht⟩) hS.2.2 dX10_note_89
            · skip
              have h38 : ¬ no < 6 := fun q9 => h38 ((nI_ltI (a := no) (b := 6) (by omega) (by omega)).mpr q9)
              exact absurd h38 (by omega)
          · skip
            exact absurd ⟨an5, by omega, by omega, rfl⟩ h36
        · skip
          exact absurd ⟨an4, by omega, rfl⟩ h28
      · skip
        exact absurd ⟨an3, by omega, by omega, rfl⟩ h21
    · skip
      exact absurd ⟨an2, by omega, rfl⟩ h14
  · skip
    exact absurd ⟨an1, by omega, rfl⟩ h7
