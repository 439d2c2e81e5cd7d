set_option maxHeartbeats 4000000 in
set_option maxRecDepth 100000 in
theorem gx_note_b4 (l : Launch) (D : va_G) (y : Nat → ClassId) (g : Nat) (kk : Nat) (nw : Nat) (im : Nat) (kp : Nat) (tx : Nat) (tr : Nat) (be : Nat) (sh : Nat) (sd : Nat) (rf : Nat) (ab : Int32) (bl : Int32) (frf : Nat → Int32) (nk : Nat) (nd : Nat) (ne : Nat) (nm : Nat) (nn : Nat) (fi : Nat) (gl : Nat) (un : Nat) (mi : Nat) (no : Nat) (an1 : Nat) (an2 : Nat) (an3 : Nat) (an4 : Nat) (ax5 : Int32) (hfi : fi ≤ 6) (hgl : gl ≤ 5) (hun : un ≤ 8) (hmi : mi ≤ 4) (hno : no ≤ 6) (hB0_ : an1 < fi) (hB1_ : an2 < 12) (hB2_ : an3 ≤ 60) (hB3_ : an4 < 10) (hnx : (¬ ∃ j : Nat, 0 ≤ j ∧ j ≤ 99 ∧ ax5 = nI j)) : kw_Mi l yX10_note wsX10_note ({ frames := 3, cells := 0, slots := 0, locals := 102 }) D y [.ref g, .int (nI an1), .int (nI an2), .int (nI an3), .int (nI an4), .int ax5] [(g, .inr (10, [.ref kk, .ref nw, .ref im, .ref kp, .ref tx, .ref tr, .ref be, .ref sh, .ref sd, .ref rf, .int ab, .int bl])), (rf, .inl (y 0, 3, .inl frf)), (nw, .inr (4, [.ref kk, .ref nk, .ref nd, .ref ne, .ref nm, .ref nn, .int (nI fi), .int (nI gl), .int (nI un), .int (nI mi), .int (nI no)]))] (fun (r : Int32) (u : Unit) => r = (-2)) (fun _ => [(g, .inr (10, [.ref kk, .ref nw, .ref im, .ref kp, .ref tx, .ref tr, .ref be, .ref sh, .ref sd, .ref rf, .int ab, .int bl])), (rf, .inl (y 0, 3, .inl (upd frf 0 ((frf 0) + 1)))), (nw, .inr (4, [.ref kk, .ref nk, .ref nd, .ref ne, .ref nm, .ref nn, .int (nI fi), .int (nI gl), .int (nI un), .int (nI mi), .int (nI no)]))]) 0 0 := by
  refine kw_Mi.of (cc := cX10_note) (maxL := 6) (ret := (some .int)) (by decide) rfl ?_
  intro pZ eZ s mZ beZ meZ cZ A hE
  obtain ⟨hx, hb, hr, hml, hts, hown, hlocks, hin, hA, hP, hD, hK, hN⟩ := hE
  have hS : va_S A s.heap s.heap [] := va_S.rf
  have hl := lv_entry ([.ref g, .int (nI an1), .int (nI an2), .int (nI an3), .int (nI an4), .int ax5]) (n := 6) (Nat.le_of_ble_eq_true rfl)
  rw [lg_entry_eq]
  generalize (lg_sl ([.ref g, .int (nI an1), .int (nI an2), .int (nI an3), .int (nI an4), .int ax5]) ++ List.replicate (6 - (lg_sl ([.ref g, .int (nI an1), .int (nI an2), .int (nI an3), .int (nI an4), .int ax5])).length) Slot.unset).toArray = ls at hl ⊢
  have hl : lv_has ls 6 [(0, .ref g), (1, .int (nI an1)), (2, .int (nI an2)), (3, .int (nI an3)), (4, .int (nI an4)), (5, .int ax5)] := hl
  have fw1 := hts (.fieldLink RX10 36 "GleanDusk" "now" "LGleanDusk$Parish;") (List.mem_of_getElem? (i := 1) rfl)
  have iw10 : ∀ w ∈ wsX100, w ∈ wsX10_note := fun _ h => List.mem_cons_of_mem _ (List.mem_append_left _ (List.mem_append_right _ h))
  refine lv_aload_n hx hb dX10_note_0 rfl (lv_at hl 0 rfl) ?_
  refine va_get (D := D) (ci := 10) (v := .ref nw) (C := RX10) (T := TX10) (N := 12) hx hb hts iw10 hown hK hP 0 rfl rfl 1 (by decide) fw1 (fun _ h9 => h9) rfl dX10_note_1 ?_
  refine lv_iload_n hx hb dX10_note_4 rfl (lv_at hl 1 rfl) ?_
  have hs1 : kw_Split [(g, .inr (10, [.ref kk, .ref nw, .ref im, .ref kp, .ref tx, .ref tr, .ref be, .ref sh, .ref sd, .ref rf, .int ab, .int bl])), (rf, .inl (y 0, 3, .inl frf)), (nw, .inr (4, [.ref kk, .ref nk, .ref nd, .ref ne, .ref nm, .ref nn, .int (nI fi), .int (nI gl), .int (nI un), .int (nI mi), .int (nI no)]))] [(nw, .inr (4, [.ref kk, .ref nk, .ref nd, .ref ne, .ref nm, .ref nn, .int (nI fi), .int (nI gl), .int (nI un), .int (nI mi), .int (nI no)]))] [(g, .inr (10, [.ref kk, .ref nw, .ref im, .ref kp, .ref tx, .ref tr, .ref be, .ref sh, .ref sd, .ref rf, .int ab, .int bl])), (rf, .inl (y 0, 3, .inl frf))] [2] [0, 1] := ⟨rfl, rfl, rfl, rfl, rfl, by decide⟩
  refine kw_go_i hs1 hP hD hS hA (va_runV (As := [.int (nI an1)]) (rest := []) ⟨hx, hb, hml, hown, hts⟩ (gc_hasField l D y nw kk nk nd ne nm nn fi gl un mi no (nI an1) hfi hgl hun hmi hno _) (cwV 1 hts gX10_note_X4_hasField rfl rfl rfl (by decide +kernel) ⟨Nat.le_of_ble_eq_true rfl, Nat.le_of_ble_eq_true rfl⟩) (kw_PreV (ci := 4) (q0 := 2) hs1 hP hD hK hN rfl rfl) rfl rfl hl.1 rfl (lv_room (Nat.le_of_ble_eq_true rfl)) dX10_note_5 ⟨Nat.le_of_ble_eq_true rfl, Nat.le_of_ble_eq_true rfl⟩) (fun r2 u3 H locs hq hP hD hS => ?_)
  rcases hq with ⟨j4, h5, h6, rfl⟩ | ⟨h7, rfl⟩
  · skip
    have h6 : an1 = j4 := (nI_eq (a := an1) (b := j4) (by omega) (by omega)).mp h6
    have hP : va_P D vwCl [(g, .inr (10, [.ref kk, .ref nw, .ref im, .ref kp, .ref tx, .ref tr, .ref be, .ref sh, .ref sd, .ref rf, .int ab, .int bl])), (rf, .inl (y 0, 3, .inl frf)), (nw, .inr (4, [.ref kk, .ref nk, .ref nd, .ref ne, .ref nm, .ref nn, .int (nI fi), .int (nI gl), .int (nI un), .int (nI mi), .int (nI no)]))] H := hP
    have hD : va_D A [(g, .inr (10, [.ref kk, .ref nw, .ref im, .ref kp, .ref tx, .ref tr, .ref be, .ref sh, .ref sd, .ref rf, .int ab, .int bl])), (rf, .inl (y 0, 3, .inl frf)), (nw, .inr (4, [.ref kk, .ref nk, .ref nd, .ref ne, .ref nm, .ref nn, .int (nI fi), .int (nI gl), .int (nI un), .int (nI mi), .int (nI no)]))] := hD
    refine lv_if_eq (tgt := 27) hx hb dX10_note_8 (by decide) (fun h9 => absurd h9 (by decide)) (fun _ => ?_)
    refine lv_iload_n hx hb dX10_note_11 rfl (lv_at hl 2 rfl) ?_
    refine lv_bipush (v := 12) hx hb dX10_note_12 (by decide) ?_
    have hs8 : kw_Split [(g, .inr (10, [.ref kk, .ref nw, .ref im, .ref kp, .ref tx, .ref tr, .ref be, .ref sh, .ref sd, .ref rf, .int ab, .int bl])), (rf, .inl (y 0, 3, .inl frf)), (nw, .inr (4, [.ref kk, .ref nk, .ref nd, .ref ne, .ref nm, .ref nn, .int (nI fi), .int (nI gl), .int (nI un), .int (nI mi), .int (nI no)]))] [] [(g, .inr (10, [.ref kk, .ref nw, .ref im, .ref kp, .ref tx, .ref tr, .ref be, .ref sh, .ref sd, .ref rf, .int ab, .int bl])), (rf, .inl (y 0, 3, .inl frf)), (nw, .inr (4, [.ref kk, .ref nk, .ref nd, .ref ne, .ref nm, .ref nn, .int (nI fi), .int (nI gl), .int (nI un), .int (nI mi), .int (nI no)]))] [] [0, 1, 2] := ⟨rfl, rfl, rfl, rfl, rfl, by decide⟩
    refine kw_go_i hs8 hP hD hS hA (va_runS (As := [.int (nI an2), .int 12]) (rest := []) ⟨hx, hb, hml, hown, hts⟩ (gc_isBelow l D y (nI an2) 12 (by omega) _) (va_cwS 2 hts gX10_note_X10_isBelow rfl rfl rfl (by decide +kernel) ⟨Nat.le_of_ble_eq_true rfl, Nat.le_of_ble_eq_true rfl⟩) (kw_PreS hs8 hP hD hK hN) rfl rfl hl.1 rfl (lv_room (Nat.le_of_ble_eq_true rfl)) dX10_note_14 ⟨Nat.le_of_ble_eq_true rfl, Nat.le_of_ble_eq_true rfl⟩) (fun r9 u10 H locs hq hP hD hS => ?_)
    rcases hq with ⟨j11, h12, h13, rfl⟩ | ⟨h14, rfl⟩
    · skip
      have h13 : an2 = j11 := (nI_eq (a := an2) (b := j11) (by omega) (by omega)).mp h13
      have hP : va_P D vwCl [(g, .inr (10, [.ref kk, .ref nw, .ref im, .ref kp, .ref tx, .ref tr, .ref be, .ref sh, .ref sd, .ref rf, .int ab, .int bl])), (rf, .inl (y 0, 3, .inl frf)), (nw, .inr (4, [.ref kk, .ref nk, .ref nd, .ref ne, .ref nm, .ref nn, .int (nI fi), .int (nI gl), .int (nI un), .int (nI mi), .int (nI no)]))] H := hP
      have hD : va_D A [(g, .inr (10, [.ref kk, .ref nw, .ref im, .ref kp, .ref tx, .ref tr, .ref be, .ref sh, .ref sd, .ref rf, .int ab, .int bl])), (rf, .inl (y 0, 3, .inl frf)), (nw, .inr (4, [.ref kk, .ref nk, .ref nd, .ref ne, .ref nm, .ref nn, .int (nI fi), .int (nI gl), .int (nI un), .int (nI mi), .int (nI no)]))] := hD
      refine lv_if_eq (tgt := 27) hx hb dX10_note_17 (by decide) (fun h9 => absurd h9 (by decide)) (fun _ => ?_)
      refine lv_iload_n hx hb dX10_note_20 rfl (lv_at hl 3 rfl) ?_
      have hs15 : kw_Split [(g, .inr (10, [.ref kk, .ref nw, .ref im, .ref kp, .ref tx, .ref tr, .ref be, .ref sh, .ref sd, .ref rf, .int ab, .int bl])), (rf, .inl (y 0, 3, .inl frf)), (nw, .inr (4, [.ref kk, .ref nk, .ref nd, .ref ne, .ref nm, .ref nn, .int (nI fi), .int (nI gl), .int (nI un), .int (nI mi), .int (nI no)]))] [] [(g, .inr (10, [.ref kk, .ref nw, .ref im, .ref kp, .ref tx, .ref tr, .ref be, .ref sh, .ref sd, .ref rf, .int ab, .int bl])), (rf, .inl (y 0, 3, .inl frf)), (nw, .inr (4, [.ref kk, .ref nk, .ref nd, .ref ne, .ref nm, .ref nn, .int (nI fi), .int (nI gl), .int (nI un), .int (nI mi), .int (nI no)]))] [] [0, 1, 2] := ⟨rfl, rfl, rfl, rfl, rfl, by decide⟩
      refine kw_go_i hs15 hP hD hS hA (va_runS (As := [.int (nI an3)]) (rest := []) ⟨hx, hb, hml, hown, hts⟩ (gc_isLight l D y (nI an3)  _) (va_cwS 1 hts gX10_note_X10_isLight rfl rfl rfl (by decide +kernel) ⟨Nat.le_of_ble_eq_true rfl, Nat.le_of_ble_eq_true rfl⟩) (kw_PreS hs15 hP hD hK hN) rfl rfl hl.1 rfl (lv_room (Nat.le_of_ble_eq_true rfl)) dX10_note_21 ⟨Nat.le_of_ble_eq_true rfl, Nat.le_of_ble_eq_true rfl⟩) (fun r16 u17 H locs hq hP hD hS => ?_)
      rcases hq with ⟨j18, h19, h20, rfl⟩ | ⟨h21, rfl⟩
      · skip
        have h20 : an3 = j18 := (nI_eq (a := an3) (b := j18) (by omega) (by omega)).mp h20
        have hP : va_P D vwCl [(g, .inr (10, [.ref kk, .ref nw, .ref im, .ref kp, .ref tx, .ref tr, .ref be, .ref sh, .ref sd, .ref rf, .int ab, .int bl])), (rf, .inl (y 0, 3, .inl frf)), (nw, .inr (4, [.ref kk, .ref nk, .ref nd, .ref ne, .ref nm, .ref nn, .int (nI fi), .int (nI gl), .int (nI un), .int (nI mi), .int (nI no)]))] H := hP
        have hD : va_D A [(g, .inr (10, [.ref kk, .ref nw, .ref im, .ref kp, .ref tx, .ref tr, .ref be, .ref sh, .ref sd, .ref rf, .int ab, .int bl])), (rf, .inl (y 0, 3, .inl frf)), (nw, .inr (4, [.ref kk, .ref nk, .ref nd, .ref ne, .ref nm, .ref nn, .int (nI fi), .int (nI gl), .int (nI un), .int (nI mi), .int (nI no)]))] := hD
        refine lv_if_ne (tgt := 32) hx hb dX10_note_24 (by decide) (fun _ => ?_) (fun h9 => absurd h9 (by decide))
        refine lv_iload hx hb dX10_note_32 (lv_at hl 4 rfl) ?_
        refine lv_bipush (v := 10) hx hb dX10_note_34 (by decide) ?_
        have hs22 : kw_Split [(g, .inr (10, [.ref kk, .ref nw, .ref im, .ref kp, .ref tx, .ref tr, .ref be, .ref sh, .ref sd, .ref rf, .int ab, .int bl])), (rf, .inl (y 0, 3, .inl frf)), (nw, .inr (4, [.ref kk, .ref nk, .ref nd, .ref ne, .ref nm, .ref nn, .int (nI fi), .int (nI gl), .int (nI un), .int (nI mi), .int (nI no)]))] [] [(g, .inr (10, [.ref kk, .ref nw, .ref im, .ref kp, .ref tx, .ref tr, .ref be, .ref sh, .ref sd, .ref rf, .int ab, .int bl])), (rf, .inl (y 0, 3, .inl frf)), (nw, .inr (4, [.ref kk, .ref nk, .ref nd, .ref ne, .ref nm, .ref nn, .int (nI fi), .int (nI gl), .int (nI un), .int (nI mi), .int (nI no)]))] [] [0, 1, 2] := ⟨rfl, rfl, rfl, rfl, rfl, by decide⟩
        refine kw_go_i hs22 hP hD hS hA (va_runS (As := [.int (nI an4), .int 10]) (rest := []) ⟨hx, hb, hml, hown, hts⟩ (gc_isBelow l D y (nI an4) 10 (by omega) _) (va_cwS 2 hts gX10_note_X10_isBelow rfl rfl rfl (by decide +kernel) ⟨Nat.le_of_ble_eq_true rfl, Nat.le_of_ble_eq_true rfl⟩) (kw_PreS hs22 hP hD hK hN) rfl rfl hl.1 rfl (lv_room (Nat.le_of_ble_eq_true rfl)) dX10_note_36 ⟨Nat.le_of_ble_eq_true rfl, Nat.le_of_ble_eq_true rfl⟩) (fun r23 u24 H locs hq hP hD hS => ?_)
        rcases hq with ⟨j25, h26, h27, rfl⟩ | ⟨h28, rfl⟩
        · skip
          have h27 : an4 = j25 := (nI_eq (a := an4) (b := j25) (by omega) (by omega)).mp h27
          have hP : va_P D vwCl [(g, .inr (10, [.ref kk, .ref nw, .ref im, .ref kp, .ref tx, .ref tr, .ref be, .ref sh, .ref sd, .ref rf, .int ab, .int bl])), (rf, .inl (y 0, 3, .inl frf)), (nw, .inr (4, [.ref kk, .ref nk, .ref nd, .ref ne, .ref nm, .ref nn, .int (nI fi), .int (nI gl), .int (nI un), .int (nI mi), .int (nI no)]))] H := hP
          have hD : va_D A [(g, .inr (10, [.ref kk, .ref nw, .ref im, .ref kp, .ref tx, .ref tr, .ref be, .ref sh, .ref sd, .ref rf, .int ab, .int bl])), (rf, .inl (y 0, 3, .inl frf)), (nw, .inr (4, [.ref kk, .ref nk, .ref nd, .ref ne, .ref nm, .ref nn, .int (nI fi), .int (nI gl), .int (nI un), .int (nI mi), .int (nI no)]))] := hD
          refine lv_if_eq (tgt := 53) hx hb dX10_note_39 (by decide) (fun h9 => absurd h9 (by decide)) (fun _ => ?_)
          refine lv_iload hx hb dX10_note_42 (lv_at hl 5 rfl) ?_
          refine lv_iconst (v := 0) hx hb dX10_note_44 (by decide) ?_
          refine lv_bipush (v := 99) hx hb dX10_note_45 (by decide) ?_
          have hs29 : kw_Split [(g, .inr (10, [.ref kk, .ref nw, .ref im, .ref kp, .ref tx, .ref tr, .ref be, .ref sh, .ref sd, .ref rf, .int ab, .int bl])), (rf, .inl (y 0, 3, .inl frf)), (nw, .inr (4, [.ref kk, .ref nk, .ref nd, .ref ne, .ref nm, .ref nn, .int (nI fi), .int (nI gl), .int (nI un), .int (nI mi), .int (nI no)]))] [] [(g, .inr (10, [.ref kk, .ref nw, .ref im, .ref kp, .ref tx, .ref tr, .ref be, .ref sh, .ref sd, .ref rf, .int ab, .int bl])), (rf, .inl (y 0, 3, .inl frf)), (nw, .inr (4, [.ref kk, .ref nk, .ref nd, .ref ne, .ref nm, .ref nn, .int (nI fi), .int (nI gl), .int (nI un), .int (nI mi), .int (nI no)]))] [] [0, 1, 2] := ⟨rfl, rfl, rfl, rfl, rfl, by decide⟩
          refine kw_go_i hs29 hP hD hS hA (va_runS (As := [.int ax5, .int 0, .int 99]) (rest := []) ⟨hx, hb, hml, hown, hts⟩ (gc_isIn l D y ax5 0 99 (by omega) (by omega) _) (va_cwS 3 hts gX10_note_X10_isIn rfl rfl rfl (by decide +kernel) ⟨Nat.le_of_ble_eq_true rfl, Nat.le_of_ble_eq_true rfl⟩) (kw_PreS hs29 hP hD hK hN) rfl rfl hl.1 rfl (lv_room (Nat.le_of_ble_eq_true rfl)) dX10_note_47 ⟨Nat.le_of_ble_eq_true rfl, Nat.le_of_ble_eq_true rfl⟩) (fun r30 u31 H locs hq hP hD hS => ?_)
          rcases hq with ⟨j32, h33, h34, rfl, rfl⟩ | ⟨h35, rfl⟩
          · skip
            exact absurd ⟨j32, by omega, by omega, rfl⟩ hnx
          · skip
            have hP : va_P D vwCl [(g, .inr (10, [.ref kk, .ref nw, .ref im, .ref kp, .ref tx, .ref tr, .ref be, .ref sh, .ref sd, .ref rf, .int ab, .int bl])), (rf, .inl (y 0, 3, .inl frf)), (nw, .inr (4, [.ref kk, .ref nk, .ref nd, .ref ne, .ref nm, .ref nn, .int (nI fi), .int (nI gl), .int (nI un), .int (nI mi), .int (nI no)]))] H := hP
            have hD : va_D A [(g, .inr (10, [.ref kk, .ref nw, .ref im, .ref kp, .ref tx, .ref tr, .ref be, .ref sh, .ref sd, .ref rf, .int ab, .int bl])), (rf, .inl (y 0, 3, .inl frf)), (nw, .inr (4, [.ref kk, .ref nk, .ref nd, .ref ne, .ref nm, .ref nn, .int (nI fi), .int (nI gl), .int (nI un), .int (nI mi), .int (nI no)]))] := hD
            refine lv_if_ne (tgt := 58) hx hb dX10_note_50 (by decide) (fun h9 => absurd h9 (by decide)) (fun _ => ?_)
            refine lv_aload_n hx hb dX10_note_53 rfl (lv_at hl 0 rfl) ?_
            have hs36 : kw_Split [(g, .inr (10, [.ref kk, .ref nw, .ref im, .ref kp, .ref tx, .ref tr, .ref be, .ref sh, .ref sd, .ref rf, .int ab, .int bl])), (rf, .inl (y 0, 3, .inl frf)), (nw, .inr (4, [.ref kk, .ref nk, .ref nd, .ref ne, .ref nm, .ref nn, .int (nI fi), .int (nI gl), .int (nI un), .int (nI mi), .int (nI no)]))] [(g, .inr (10, [.ref kk, .ref nw, .ref im, .ref kp, .ref tx, .ref tr, .ref be, .ref sh, .ref sd, .ref rf, .int ab, .int bl])), (rf, .inl (y 0, 3, .inl frf))] [(nw, .inr (4, [.ref kk, .ref nk, .ref nd, .ref ne, .ref nm, .ref nn, .int (nI fi), .int (nI gl), .int (nI un), .int (nI mi), .int (nI no)]))] [0, 1] [2] := ⟨rfl, rfl, rfl, rfl, rfl, by decide⟩
            refine kw_go_i hs36 hP hD hS hA (va_runV (As := []) (rest := []) ⟨hx, hb, hml, hown, hts⟩ (gc_refuseBad l D y g kk nw im kp tx tr be sh sd rf ab bl frf  _) (cwV 0 hts gX10_note_X10_refuseBad rfl rfl rfl (by decide +kernel) ⟨Nat.le_of_ble_eq_true rfl, Nat.le_of_ble_eq_true rfl⟩) (kw_PreV (ci := 10) (q0 := 0) hs36 hP hD hK hN rfl rfl) rfl rfl hl.1 rfl (lv_room (Nat.le_of_ble_eq_true rfl)) dX10_note_54 ⟨Nat.le_of_ble_eq_true rfl, Nat.le_of_ble_eq_true rfl⟩) (fun r37 u38 H locs hq hP hD hS => ?_)
            obtain rfl := hq
            have hP : va_P D vwCl [(nw, .inr (4, [.ref kk, .ref nk, .ref nd, .ref ne, .ref nm, .ref nn, .int (nI fi), .int (nI gl), .int (nI un), .int (nI mi), .int (nI no)])), (g, .inr (10, [.ref kk, .ref nw, .ref im, .ref kp, .ref tx, .ref tr, .ref be, .ref sh, .ref sd, .ref rf, .int ab, .int bl])), (rf, .inl (y 0, 3, .inl (upd frf 0 ((frf 0) + 1))))] H := hP
            have hD : va_D A [(nw, .inr (4, [.ref kk, .ref nk, .ref nd, .ref ne, .ref nm, .ref nn, .int (nI fi), .int (nI gl), .int (nI un), .int (nI mi), .int (nI no)])), (g, .inr (10, [.ref kk, .ref nw, .ref im, .ref kp, .ref tx, .ref tr, .ref be, .ref sh, .ref sd, .ref rf, .int ab, .int bl])), (rf, .inl (y 0, 3, .inl (upd frf 0 ((frf 0) + 1))))] := hD
            exact W.iret (v := (-2)) hx hb hr (fun tZ ht hW => ⟨⟨(-2), (), rfl, rfl, by rw [ht]; exact hP.sub [1, 2, 0] rfl, hD.sub [1, 2, 0] (by decide) rfl⟩, hS.F ht⟩) hS.2.2 dX10_note_57
        · skip
          exact absurd ⟨an4, by omega, rfl⟩ h28
      · skip
        exact absurd ⟨an3, by omega, by omega, rfl⟩ h21
    · skip
      exact absurd ⟨an2, by omega, rfl⟩ h14
  · skip
    exact absurd ⟨an1, by omega, rfl⟩ h7

set_option maxHeartbeats 4000000 in
set_option maxRecDepth 100000 in
theorem gy_note_b4 (l : Launch) (D : va_G) (y : Nat → ClassId) (mo : Nat) (to : Nat) (ke : Nat) (ik : Nat) (mrf : Nat) (ha : Nat) (r0 : Nat) (mbr : Nat) (mbp : Nat) (mby : Nat) (an : Nat) (va : Nat) (mab : Int64) (mbl : Int64) (bl : Nat) (ta : Nat) (tl : Nat) (tk : Nat) (vv : Int32) (frf : Nat → Int32) (ft : Nat → Int32) (fi : Nat) (gl : Nat) (mi : Nat) (no : Nat) (un : Nat) (an1 : Nat) (an2 : Nat) (an3 : Nat) (an4 : Nat) (ax5 : Int32) (hk0_ : ft 0 = (nI fi)) (hk1_ : ft 1 = (nI gl)) (hk2_ : ft 2 = (nI mi)) (hk3_ : ft 3 = (nI no)) (hk4_ : ft 4 = (nI un)) (hkt : kr_t 228 ft) (hfi : fi ≤ 6) (hgl : gl ≤ 5) (hmi : mi ≤ 4) (hno : no ≤ 6) (hun : un ≤ 8) (hB0_ : an1 < fi) (hB1_ : an2 < 12) (hB2_ : an3 ≤ 60) (hB3_ : an4 < 10) (hnx : (¬ ∃ j : Nat, 0 ≤ j ∧ j ≤ 99 ∧ ax5 = nI j)) : kw_Mi l yX11_note wsX11_note ({ frames := 3, cells := 0, slots := 0, locals := 106 }) D y [.ref mo, .int (nI an1), .int (nI an2), .int (nI an3), .int (nI an4), .int ax5] [(mo, .inr (11, [.ref to, .ref ke, .ref ik, .ref mrf, .long mab, .long mbl, .ref ha, .ref r0, .ref mbr, .ref mbp, .ref mby, .int (nI bl), .int (nI ta), .int (nI tl), .int (nI tk), .int vv, .ref an, .ref va])), (mrf, .inl (y 0, 3, .inl frf)), (to, .inl (y 0, 228, .inl ft))] (fun (r : Int32) (u : Unit) => r = (-2)) (fun _ => [(mo, .inr (11, [.ref to, .ref ke, .ref ik, .ref mrf, .long mab, .long mbl, .ref ha, .ref r0, .ref mbr, .ref mbp, .ref mby, .int (nI bl), .int (nI ta), .int (nI tl), .int (nI tk), .int vv, .ref an, .ref va])), (mrf, .inl (y 0, 3, .inl (upd frf 0 ((frf 0) + 1)))), (to, .inl (y 0, 228, .inl ft))]) 0 0 := by
  refine kw_Mi.of (cc := cX11_note) (maxL := 7) (ret := (some .int)) (by decide) rfl ?_
  intro pZ eZ s mZ beZ meZ cZ A hE
  obtain ⟨hx, hb, hr, hml, hts, hown, hlocks, hin, hA, hP, hD, hK, hN⟩ := hE
  have hS : va_S A s.heap s.heap [] := va_S.rf
  have hl := lv_entry ([.ref mo, .int (nI an1), .int (nI an2), .int (nI an3), .int (nI an4), .int ax5]) (n := 7) (Nat.le_of_ble_eq_true rfl)
  rw [lg_entry_eq]
  generalize (lg_sl ([.ref mo, .int (nI an1), .int (nI an2), .int (nI an3), .int (nI an4), .int ax5]) ++ List.replicate (7 - (lg_sl ([.ref mo, .int (nI an1), .int (nI an2), .int (nI an3), .int (nI an4), .int ax5])).length) Slot.unset).toArray = ls at hl ⊢
  have hl : lv_has ls 7 [(0, .ref mo), (1, .int (nI an1)), (2, .int (nI an2)), (3, .int (nI an3)), (4, .int (nI an4)), (5, .int ax5)] := hl
  have fw1 := hts (.constantLong RX11 174 (99)) (List.mem_of_getElem? (i := 1) rfl)
  refine lv_aload_n hx hb dX11_note_0 rfl (lv_at hl 0 rfl) ?_
  refine lv_iload_n hx hb dX11_note_1 rfl (lv_at hl 1 rfl) ?_
  have hs1 : kw_Split [(mo, .inr (11, [.ref to, .ref ke, .ref ik, .ref mrf, .long mab, .long mbl, .ref ha, .ref r0, .ref mbr, .ref mbp, .ref mby, .int (nI bl), .int (nI ta), .int (nI tl), .int (nI tk), .int vv, .ref an, .ref va])), (mrf, .inl (y 0, 3, .inl frf)), (to, .inl (y 0, 228, .inl ft))] [(mo, .inr (11, [.ref to, .ref ke, .ref ik, .ref mrf, .long mab, .long mbl, .ref ha, .ref r0, .ref mbr, .ref mbp, .ref mby, .int (nI bl), .int (nI ta), .int (nI tl), .int (nI tk), .int vv, .ref an, .ref va])), (to, .inl (y 0, 228, .inl ft))] [(mrf, .inl (y 0, 3, .inl frf))] [0, 2] [1] := ⟨rfl, rfl, rfl, rfl, rfl, by decide⟩
  refine kw_go_i hs1 hP hD hS hA (va_runV (As := [.int (nI an1)]) (rest := []) ⟨hx, hb, hml, hown, hts⟩ (gr_isField l D y mo to ke ik mrf ha r0 mbr mbp mby an va mab mbl bl ta tl tk vv ft fi gl mi no un (nI an1) hk0_ hk1_ hk2_ hk3_ hk4_ hkt hfi hgl hmi hno hun _) (cwV 1 hts gX11_note_X11_isField rfl rfl rfl (by decide +kernel) ⟨Nat.le_of_ble_eq_true rfl, Nat.le_of_ble_eq_true rfl⟩) (kw_PreV (ci := 11) (q0 := 0) hs1 hP hD hK hN rfl rfl) rfl rfl hl.1 rfl (lv_room (Nat.le_of_ble_eq_true rfl)) dX11_note_2 ⟨Nat.le_of_ble_eq_true rfl, Nat.le_of_ble_eq_true rfl⟩) (fun r2 u3 H locs hq hP hD hS => ?_)
  rcases hq with ⟨j4, h5, h6, rfl⟩ | ⟨h7, rfl⟩
  · skip
    have h6 : an1 = j4 := (nI_eq (a := an1) (b := j4) (by omega) (by omega)).mp h6
    have hP : va_P D vwCl [(mrf, .inl (y 0, 3, .inl frf)), (mo, .inr (11, [.ref to, .ref ke, .ref ik, .ref mrf, .long mab, .long mbl, .ref ha, .ref r0, .ref mbr, .ref mbp, .ref mby, .int (nI bl), .int (nI ta), .int (nI tl), .int (nI tk), .int vv, .ref an, .ref va])), (to, .inl (y 0, 228, .inl ft))] H := hP
    have hD : va_D A [(mrf, .inl (y 0, 3, .inl frf)), (mo, .inr (11, [.ref to, .ref ke, .ref ik, .ref mrf, .long mab, .long mbl, .ref ha, .ref r0, .ref mbr, .ref mbp, .ref mby, .int (nI bl), .int (nI ta), .int (nI tl), .int (nI tk), .int vv, .ref an, .ref va])), (to, .inl (y 0, 228, .inl ft))] := hD
    refine lv_if_eq (tgt := 43) hx hb dX11_note_5 (by decide) (fun h9 => absurd h9 (by decide)) (fun _ => ?_)
    refine lv_iload_n hx hb dX11_note_8 rfl (lv_at hl 2 rfl) ?_
    have hs8 : kw_Split [(mrf, .inl (y 0, 3, .inl frf)), (mo, .inr (11, [.ref to, .ref ke, .ref ik, .ref mrf, .long mab, .long mbl, .ref ha, .ref r0, .ref mbr, .ref mbp, .ref mby, .int (nI bl), .int (nI ta), .int (nI tl), .int (nI tk), .int vv, .ref an, .ref va])), (to, .inl (y 0, 228, .inl ft))] [] [(mrf, .inl (y 0, 3, .inl frf)), (mo, .inr (11, [.ref to, .ref ke, .ref ik, .ref mrf, .long mab, .long mbl, .ref ha, .ref r0, .ref mbr, .ref mbp, .ref mby, .int (nI bl), .int (nI ta), .int (nI tl), .int (nI tk), .int vv, .ref an, .ref va])), (to, .inl (y 0, 228, .inl ft))] [] [0, 1, 2] := ⟨rfl, rfl, rfl, rfl, rfl, by decide⟩
    refine kw_go_i hs8 hP hD hS hA (va_runS (As := [.int (nI an2)]) (rest := []) ⟨hx, hb, hml, hown, hts⟩ (gr_isStep l D y (nI an2)  _) (va_cwS 1 hts gX11_note_X11_isStep rfl rfl rfl (by decide +kernel) ⟨Nat.le_of_ble_eq_true rfl, Nat.le_of_ble_eq_true rfl⟩) (kw_PreS hs8 hP hD hK hN) rfl rfl hl.1 rfl (lv_room (Nat.le_of_ble_eq_true rfl)) dX11_note_9 ⟨Nat.le_of_ble_eq_true rfl, Nat.le_of_ble_eq_true rfl⟩) (fun r9 u10 H locs hq hP hD hS => ?_)
    rcases hq with ⟨j11, h12, h13, rfl⟩ | ⟨h14, rfl⟩
    · skip
      have h13 : an2 = j11 := (nI_eq (a := an2) (b := j11) (by omega) (by omega)).mp h13
      have hP : va_P D vwCl [(mrf, .inl (y 0, 3, .inl frf)), (mo, .inr (11, [.ref to, .ref ke, .ref ik, .ref mrf, .long mab, .long mbl, .ref ha, .ref r0, .ref mbr, .ref mbp, .ref mby, .int (nI bl), .int (nI ta), .int (nI tl), .int (nI tk), .int vv, .ref an, .ref va])), (to, .inl (y 0, 228, .inl ft))] H := hP
      have hD : va_D A [(mrf, .inl (y 0, 3, .inl frf)), (mo, .inr (11, [.ref to, .ref ke, .ref ik, .ref mrf, .long mab, .long mbl, .ref ha, .ref r0, .ref mbr, .ref mbp, .ref mby, .int (nI bl), .int (nI ta), .int (nI tl), .int (nI tk), .int vv, .ref an, .ref va])), (to, .inl (y 0, 228, .inl ft))] := hD
      refine lv_if_eq (tgt := 43) hx hb dX11_note_12 (by decide) (fun h9 => absurd h9 (by decide)) (fun _ => ?_)
      refine lv_iload_n hx hb dX11_note_15 rfl (lv_at hl 3 rfl) ?_
      have hs15 : kw_Split [(mrf, .inl (y 0, 3, .inl frf)), (mo, .inr (11, [.ref to, .ref ke, .ref ik, .ref mrf, .long mab, .long mbl, .ref ha, .ref r0, .ref mbr, .ref mbp, .ref mby, .int (nI bl), .int (nI ta), .int (nI tl), .int (nI tk), .int vv, .ref an, .ref va])), (to, .inl (y 0, 228, .inl ft))] [] [(mrf, .inl (y 0, 3, .inl frf)), (mo, .inr (11, [.ref to, .ref ke, .ref ik, .ref mrf, .long mab, .long mbl, .ref ha, .ref r0, .ref mbr, .ref mbp, .ref mby, .int (nI bl), .int (nI ta), .int (nI tl), .int (nI tk), .int vv, .ref an, .ref va])), (to, .inl (y 0, 228, .inl ft))] [] [0, 1, 2] := ⟨rfl, rfl, rfl, rfl, rfl, by decide⟩
      refine kw_go_i hs15 hP hD hS hA (va_runS (As := [.int (nI an3)]) (rest := []) ⟨hx, hb, hml, hown, hts⟩ (gr_isLight l D y (nI an3)  _) (va_cwS 1 hts gX11_note_X11_isLight rfl rfl rfl (by decide +kernel) ⟨Nat.le_of_ble_eq_true rfl, Nat.le_of_ble_eq_true rfl⟩) (kw_PreS hs15 hP hD hK hN) rfl rfl hl.1 rfl (lv_room (Nat.le_of_ble_eq_true rfl)) dX11_note_16 ⟨Nat.le_of_ble_eq_true rfl, Nat.le_of_ble_eq_true rfl⟩) (fun r16 u17 H locs hq hP hD hS => ?_)
      rcases hq with ⟨j18, h19, h20, rfl⟩ | ⟨h21, rfl⟩
      · skip
        have h20 : an3 = j18 := (nI_eq (a := an3) (b := j18) (by omega) (by omega)).mp h20
        have hP : va_P D vwCl [(mrf, .inl (y 0, 3, .inl frf)), (mo, .inr (11, [.ref to, .ref ke, .ref ik, .ref mrf, .long mab, .long mbl, .ref ha, .ref r0, .ref mbr, .ref mbp, .ref mby, .int (nI bl), .int (nI ta), .int (nI tl), .int (nI tk), .int vv, .ref an, .ref va])), (to, .inl (y 0, 228, .inl ft))] H := hP
        have hD : va_D A [(mrf, .inl (y 0, 3, .inl frf)), (mo, .inr (11, [.ref to, .ref ke, .ref ik, .ref mrf, .long mab, .long mbl, .ref ha, .ref r0, .ref mbr, .ref mbp, .ref mby, .int (nI bl), .int (nI ta), .int (nI tl), .int (nI tk), .int vv, .ref an, .ref va])), (to, .inl (y 0, 228, .inl ft))] := hD
        refine lv_if_eq (tgt := 43) hx hb dX11_note_19 (by decide) (fun h9 => absurd h9 (by decide)) (fun _ => ?_)
        refine lv_iload hx hb dX11_note_22 (lv_at hl 4 rfl) ?_
        have hs22 : kw_Split [(mrf, .inl (y 0, 3, .inl frf)), (mo, .inr (11, [.ref to, .ref ke, .ref ik, .ref mrf, .long mab, .long mbl, .ref ha, .ref r0, .ref mbr, .ref mbp, .ref mby, .int (nI bl), .int (nI ta), .int (nI tl), .int (nI tk), .int vv, .ref an, .ref va])), (to, .inl (y 0, 228, .inl ft))] [] [(mrf, .inl (y 0, 3, .inl frf)), (mo, .inr (11, [.ref to, .ref ke, .ref ik, .ref mrf, .long mab, .long mbl, .ref ha, .ref r0, .ref mbr, .ref mbp, .ref mby, .int (nI bl), .int (nI ta), .int (nI tl), .int (nI tk), .int vv, .ref an, .ref va])), (to, .inl (y 0, 228, .inl ft))] [] [0, 1, 2] := ⟨rfl, rfl, rfl, rfl, rfl, by decide⟩
        refine kw_go_i hs22 hP hD hS hA (va_runS (As := [.int (nI an4)]) (rest := []) ⟨hx, hb, hml, hown, hts⟩ (gr_isCloud l D y (nI an4)  _) (va_cwS 1 hts gX11_note_X11_isCloud rfl rfl rfl (by decide +kernel) ⟨Nat.le_of_ble_eq_true rfl, Nat.le_of_ble_eq_true rfl⟩) (kw_PreS hs22 hP hD hK hN) rfl rfl hl.1 rfl (lv_room (Nat.le_of_ble_eq_true rfl)) dX11_note_24 ⟨Nat.le_of_ble_eq_true rfl, Nat.le_of_ble_eq_true rfl⟩) (fun r23 u24 H locs hq hP hD hS => ?_)
        rcases hq with ⟨j25, h26, h27, rfl⟩ | ⟨h28, rfl⟩
        · skip
          have h27 : an4 = j25 := (nI_eq (a := an4) (b := j25) (by omega) (by omega)).mp h27
          have hP : va_P D vwCl [(mrf, .inl (y 0, 3, .inl frf)), (mo, .inr (11, [.ref to, .ref ke, .ref ik, .ref mrf, .long mab, .long mbl, .ref ha, .ref r0, .ref mbr, .ref mbp, .ref mby, .int (nI bl), .int (nI ta), .int (nI tl), .int (nI tk), .int vv, .ref an, .ref va])), (to, .inl (y 0, 228, .inl ft))] H := hP
          have hD : va_D A [(mrf, .inl (y 0, 3, .inl frf)), (mo, .inr (11, [.ref to, .ref ke, .ref ik, .ref mrf, .long mab, .long mbl, .ref ha, .ref r0, .ref mbr, .ref mbp, .ref mby, .int (nI bl), .int (nI ta), .int (nI tl), .int (nI tk), .int vv, .ref an, .ref va])), (to, .inl (y 0, 228, .inl ft))] := hD
          refine lv_if_eq (tgt := 43) hx hb dX11_note_27 (by decide) (fun h9 => absurd h9 (by decide)) (fun _ => ?_)
          refine lv_iload hx hb dX11_note_30 (lv_at hl 5 rfl) ?_
          refine lv_i2l (v := ax5.toInt64) hx hb dX11_note_32 (rfl) ?_
          refine lv_lconst (v := 0) hx hb dX11_note_33 (by decide) ?_
          refine lv_ldc2 (v := 99) hx hb hown fw1 dX11_note_34 ?_
          have hs29 : kw_Split [(mrf, .inl (y 0, 3, .inl frf)), (mo, .inr (11, [.ref to, .ref ke, .ref ik, .ref mrf, .long mab, .long mbl, .ref ha, .ref r0, .ref mbr, .ref mbp, .ref mby, .int (nI bl), .int (nI ta), .int (nI tl), .int (nI tk), .int vv, .ref an, .ref va])), (to, .inl (y 0, 228, .inl ft))] [] [(mrf, .inl (y 0, 3, .inl frf)), (mo, .inr (11, [.ref to, .ref ke, .ref ik, .ref mrf, .long mab, .long mbl, .ref ha, .ref r0, .ref mbr, .ref mbp, .ref mby, .int (nI bl), .int (nI ta), .int (nI tl), .int (nI tk), .int vv, .ref an, .ref va])), (to, .inl (y 0, 228, .inl ft))] [] [0, 1, 2] := ⟨rfl, rfl, rfl, rfl, rfl, by decide⟩
          refine kw_go_i hs29 hP hD hS hA (va_runS (As := [.long ax5.toInt64, .long 0, .long 99]) (rest := []) ⟨hx, hb, hml, hown, hts⟩ (gr_in l D y ax5 0 99 (by omega) (by omega) _) (va_cwS 3 hts gX11_note_X11_in rfl rfl rfl (by decide +kernel) ⟨Nat.le_of_ble_eq_true rfl, Nat.le_of_ble_eq_true rfl⟩) (kw_PreS hs29 hP hD hK hN) rfl rfl hl.1 rfl (lv_room (Nat.le_of_ble_eq_true rfl)) dX11_note_37 ⟨Nat.le_of_ble_eq_true rfl, Nat.le_of_ble_eq_true rfl⟩) (fun r30 u31 H locs hq hP hD hS => ?_)
          rcases hq with ⟨j32, h33, h34, rfl, rfl⟩ | ⟨h35, rfl⟩
          · skip
            exact absurd ⟨j32, by omega, by omega, rfl⟩ hnx
          · skip
            have hP : va_P D vwCl [(mrf, .inl (y 0, 3, .inl frf)), (mo, .inr (11, [.ref to, .ref ke, .ref ik, .ref mrf, .long mab, .long mbl, .ref ha, .ref r0, .ref mbr, .ref mbp, .ref mby, .int (nI bl), .int (nI ta), .int (nI tl), .int (nI tk), .int vv, .ref an, .ref va])), (to, .inl (y 0, 228, .inl ft))] H := hP
            have hD : va_D A [(mrf, .inl (y 0, 3, .inl frf)), (mo, .inr (11, [.ref to, .ref ke, .ref ik, .ref mrf, .long mab, .long mbl, .ref ha, .ref r0, .ref mbr, .ref mbp, .ref mby, .int (nI bl), .int (nI ta), .int (nI tl), .int (nI tk), .int vv, .ref an, .ref va])), (to, .inl (y 0, 228, .inl ft))] := hD
            refine lv_if_ne (tgt := 50) hx hb dX11_note_40 (by decide) (fun h9 => absurd h9 (by decide)) (fun _ => ?_)
            refine lv_aload_n hx hb dX11_note_43 rfl (lv_at hl 0 rfl) ?_
            refine lv_bipush (v := (-2)) hx hb dX11_note_44 (by decide) ?_
            have hs36 : kw_Split [(mrf, .inl (y 0, 3, .inl frf)), (mo, .inr (11, [.ref to, .ref ke, .ref ik, .ref mrf, .long mab, .long mbl, .ref ha, .ref r0, .ref mbr, .ref mbp, .ref mby, .int (nI bl), .int (nI ta), .int (nI tl), .int (nI tk), .int vv, .ref an, .ref va])), (to, .inl (y 0, 228, .inl ft))] [(mo, .inr (11, [.ref to, .ref ke, .ref ik, .ref mrf, .long mab, .long mbl, .ref ha, .ref r0, .ref mbr, .ref mbp, .ref mby, .int (nI bl), .int (nI ta), .int (nI tl), .int (nI tk), .int vv, .ref an, .ref va])), (mrf, .inl (y 0, 3, .inl frf))] [(to, .inl (y 0, 228, .inl ft))] [1, 0] [2] := ⟨rfl, rfl, rfl, rfl, rfl, by decide⟩
            refine kw_go_i hs36 hP hD hS hA (va_runV (As := [.int (-2)]) (rest := []) ⟨hx, hb, hml, hown, hts⟩ (gr_bad l D y mo to ke ik mrf ha r0 mbr mbp mby an va mab mbl bl ta tl tk vv frf (-2)  _) (cwV 1 hts gX11_note_X11_bad rfl rfl rfl (by decide +kernel) ⟨Nat.le_of_ble_eq_true rfl, Nat.le_of_ble_eq_true rfl⟩) (kw_PreV (ci := 11) (q0 := 1) hs36 hP hD hK hN rfl rfl) rfl rfl hl.1 rfl (lv_room (Nat.le_of_ble_eq_true rfl)) dX11_note_46 ⟨Nat.le_of_ble_eq_true rfl, Nat.le_of_ble_eq_true rfl⟩) (fun r37 u38 H locs hq hP hD hS => ?_)
            obtain rfl := hq
            have hP : va_P D vwCl [(to, .inl (y 0, 228, .inl ft)), (mo, .inr (11, [.ref to, .ref ke, .ref ik, .ref mrf, .long mab, .long mbl, .ref ha, .ref r0, .ref mbr, .ref mbp, .ref mby, .int (nI bl), .int (nI ta), .int (nI tl), .int (nI tk), .int vv, .ref an, .ref va])), (mrf, .inl (y 0, 3, .inl (upd frf 0 ((frf 0) + 1))))] H := hP
            have hD : va_D A [(to, .inl (y 0, 228, .inl ft)), (mo, .inr (11, [.ref to, .ref ke, .ref ik, .ref mrf, .long mab, .long mbl, .ref ha, .ref r0, .ref mbr, .ref mbp, .ref mby, .int (nI bl), .int (nI ta), .int (nI tl), .int (nI tk), .int vv, .ref an, .ref va])), (mrf, .inl (y 0, 3, .inl (upd frf 0 ((frf 0) + 1))))] := hD
            exact W.iret (v := (-2)) hx hb hr (fun tZ ht hW => ⟨⟨(-2), (), rfl, rfl, by rw [ht]; exact hP.sub [1, 2, 0] rfl, hD.sub [1, 2, 0] (by decide) rfl⟩, hS.F ht⟩) hS.2.2 dX11_note_49
        · skip
          exact absurd ⟨an4, by omega, by omega, rfl⟩ h28
      · skip
        exact absurd ⟨an3, by omega, by omega, rfl⟩ h21
    · skip
      exact absurd ⟨an2, by omega, by omega, rfl⟩ h14
  · skip
    exact absurd ⟨an1, by omega, rfl⟩ h7

set_option maxHeartbeats 4000000 in
set_option maxRecDepth 100000 in
theorem gx_forget_b0 (l : Launch) (D : va_G) (y : Nat → ClassId) (g : Nat) (kk : Nat) (nw : Nat) (im : Nat) (kp : Nat) (tx : Nat) (tr : Nat) (be : Nat) (sh : Nat) (sd : Nat) (rf : Nat) (ab : Int32) (bl : Int32) (frf : Nat → Int32) (ax1 : Int32) (hnx : (¬ ∃ j : Nat, j < 2 ∧ ax1 = nI j)) : kw_Mi l yX10_forget wsX10_forget ({ frames := 2, cells := 0, slots := 0, locals := 81 }) D y [.ref g, .int ax1] [(g, .inr (10, [.ref kk, .ref nw, .ref im, .ref kp, .ref tx, .ref tr, .ref be, .ref sh, .ref sd, .ref rf, .int ab, .int bl])), (rf, .inl (y 0, 3, .inl frf))] (fun (r : Int32) (u : Unit) => r = (-2)) (fun _ => [(g, .inr (10, [.ref kk, .ref nw, .ref im, .ref kp, .ref tx, .ref tr, .ref be, .ref sh, .ref sd, .ref rf, .int ab, .int bl])), (rf, .inl (y 0, 3, .inl (upd frf 0 ((frf 0) + 1))))]) 0 0 := by
  refine kw_Mi.of (cc := cX10_forget) (maxL := 3) (ret := (some .int)) (by decide) rfl ?_
  intro pZ eZ s mZ beZ meZ cZ A hE
  obtain ⟨hx, hb, hr, hml, hts, hown, hlocks, hin, hA, hP, hD, hK, hN⟩ := hE
  have hS : va_S A s.heap s.heap [] := va_S.rf
  have hl := lv_entry ([.ref g, .int ax1]) (n := 3) (Nat.le_of_ble_eq_true rfl)
  rw [lg_entry_eq]
  generalize (lg_sl ([.ref g, .int ax1]) ++ List.replicate (3 - (lg_sl ([.ref g, .int ax1])).length) Slot.unset).toArray = ls at hl ⊢
  have hl : lv_has ls 3 [(0, .ref g), (1, .int ax1)] := hl
  refine lv_iload_n hx hb dX10_forget_0 rfl (lv_at hl 1 rfl) ?_
  refine lv_iconst (v := 2) hx hb dX10_forget_1 (by decide) ?_
  have hs1 : kw_Split [(g, .inr (10, [.ref kk, .ref nw, .ref im, .ref kp, .ref tx, .ref tr, .ref be, .ref sh, .ref sd, .ref rf, .int ab, .int bl])), (rf, .inl (y 0, 3, .inl frf))] [] [(g, .inr (10, [.ref kk, .ref nw, .ref im, .ref kp, .ref tx, .ref tr, .ref be, .ref sh, .ref sd, .ref rf, .int ab, .int bl])), (rf, .inl (y 0, 3, .inl frf))] [] [0, 1] := ⟨rfl, rfl, rfl, rfl, rfl, by decide⟩
  refine kw_go_i hs1 hP hD hS hA (va_runS (As := [.int ax1, .int 2]) (rest := []) ⟨hx, hb, hml, hown, hts⟩ (gc_isBelow l D y ax1 2 (by omega) _) (va_cwS 2 hts gX10_forget_X10_isBelow rfl rfl rfl (by decide +kernel) ⟨Nat.le_of_ble_eq_true rfl, Nat.le_of_ble_eq_true rfl⟩) (kw_PreS hs1 hP hD hK hN) rfl rfl hl.1 rfl (lv_room (Nat.le_of_ble_eq_true rfl)) dX10_forget_2 ⟨Nat.le_of_ble_eq_true rfl, Nat.le_of_ble_eq_true rfl⟩) (fun r2 u3 H locs hq hP hD hS => ?_)
  rcases hq with ⟨j4, h5, rfl, rfl⟩ | ⟨h6, rfl⟩
  · skip
    exact absurd ⟨j4, by omega, rfl⟩ hnx
  · skip
    have hP : va_P D vwCl [(g, .inr (10, [.ref kk, .ref nw, .ref im, .ref kp, .ref tx, .ref tr, .ref be, .ref sh, .ref sd, .ref rf, .int ab, .int bl])), (rf, .inl (y 0, 3, .inl frf))] H := hP
    have hD : va_D A [(g, .inr (10, [.ref kk, .ref nw, .ref im, .ref kp, .ref tx, .ref tr, .ref be, .ref sh, .ref sd, .ref rf, .int ab, .int bl])), (rf, .inl (y 0, 3, .inl frf))] := hD
    refine lv_if_ne (tgt := 13) hx hb dX10_forget_5 (by decide) (fun h9 => absurd h9 (by decide)) (fun _ => ?_)
    refine lv_aload_n hx hb dX10_forget_8 rfl (lv_at hl 0 rfl) ?_
    have hs7 : kw_Split [(g, .inr (10, [.ref kk, .ref nw, .ref im, .ref kp, .ref tx, .ref tr, .ref be, .ref sh, .ref sd, .ref rf, .int ab, .int bl])), (rf, .inl (y 0, 3, .inl frf))] [(g, .inr (10, [.ref kk, .ref nw, .ref im, .ref kp, .ref tx, .ref tr, .ref be, .ref sh, .ref sd, .ref rf, .int ab, .int bl])), (rf, .inl (y 0, 3, .inl frf))] [] [0, 1] [] := ⟨rfl, rfl, rfl, rfl, rfl, by decide⟩
    refine kw_go_i hs7 hP hD hS hA (va_runV (As := []) (rest := []) ⟨hx, hb, hml, hown, hts⟩ (gc_refuseBad l D y g kk nw im kp tx tr be sh sd rf ab bl frf  _) (cwV 0 hts gX10_forget_X10_refuseBad rfl rfl rfl (by decide +kernel) ⟨Nat.le_of_ble_eq_true rfl, Nat.le_of_ble_eq_true rfl⟩) (kw_PreV (ci := 10) (q0 := 0) hs7 hP hD hK hN rfl rfl) rfl rfl hl.1 rfl (lv_room (Nat.le_of_ble_eq_true rfl)) dX10_forget_9 ⟨Nat.le_of_ble_eq_true rfl, Nat.le_of_ble_eq_true rfl⟩) (fun r8 u9 H locs hq hP hD hS => ?_)
    obtain rfl := hq
    have hP : va_P D vwCl [(g, .inr (10, [.ref kk, .ref nw, .ref im, .ref kp, .ref tx, .ref tr, .ref be, .ref sh, .ref sd, .ref rf, .int ab, .int bl])), (rf, .inl (y 0, 3, .inl (upd frf 0 ((frf 0) + 1))))] H := hP
    have hD : va_D A [(g, .inr (10, [.ref kk, .ref nw, .ref im, .ref kp, .ref tx, .ref tr, .ref be, .ref sh, .ref sd, .ref rf, .int ab, .int bl])), (rf, .inl (y 0, 3, .inl (upd frf 0 ((frf 0) + 1))))] := hD
    exact W.iret (v := (-2)) hx hb hr (fun tZ ht hW => ⟨⟨(-2), (), rfl, rfl, by rw [ht]; exact hP.sub [0, 1] rfl, hD.sub [0, 1] (by decide) rfl⟩, hS.F ht⟩) hS.2.2 dX10_forget_12

set_option maxHeartbeats 4000000 in
set_option maxRecDepth 100000 in
theorem gy_forget_b0 (l : Launch) (D : va_G) (y : Nat → ClassId) (mo : Nat) (to : Nat) (ke : Nat) (ik : Nat) (mrf : Nat) (ha : Nat) (r0 : Nat) (mbr : Nat) (mbp : Nat) (mby : Nat) (an : Nat) (va : Nat) (mab : Int64) (mbl : Int64) (bl : Nat) (ta : Nat) (tl : Nat) (tk : Nat) (vv : Int32) (frf : Nat → Int32) (ax1 : Int32) (hnx : (¬ ∃ j : Nat, 0 ≤ j ∧ j ≤ 1 ∧ ax1 = nI j)) : kw_Mi l yX11_forget wsX11_forget ({ frames := 2, cells := 0, slots := 0, locals := 85 }) D y [.ref mo, .int ax1] [(mo, .inr (11, [.ref to, .ref ke, .ref ik, .ref mrf, .long mab, .long mbl, .ref ha, .ref r0, .ref mbr, .ref mbp, .ref mby, .int (nI bl), .int (nI ta), .int (nI tl), .int (nI tk), .int vv, .ref an, .ref va])), (mrf, .inl (y 0, 3, .inl frf))] (fun (r : Int32) (u : Unit) => r = (-2)) (fun _ => [(mo, .inr (11, [.ref to, .ref ke, .ref ik, .ref mrf, .long mab, .long mbl, .ref ha, .ref r0, .ref mbr, .ref mbp, .ref mby, .int (nI bl), .int (nI ta), .int (nI tl), .int (nI tk), .int vv, .ref an, .ref va])), (mrf, .inl (y 0, 3, .inl (upd frf 0 ((frf 0) + 1))))]) 0 0 := by
  refine kw_Mi.of (cc := cX11_forget) (maxL := 3) (ret := (some .int)) (by decide) rfl ?_
  intro pZ eZ s mZ beZ meZ cZ A hE
  obtain ⟨hx, hb, hr, hml, hts, hown, hlocks, hin, hA, hP, hD, hK, hN⟩ := hE
  have hS : va_S A s.heap s.heap [] := va_S.rf
  have hl := lv_entry ([.ref mo, .int ax1]) (n := 3) (Nat.le_of_ble_eq_true rfl)
  rw [lg_entry_eq]
  generalize (lg_sl ([.ref mo, .int ax1]) ++ List.replicate (3 - (lg_sl ([.ref mo, .int ax1])).length) Slot.unset).toArray = ls at hl ⊢
  have hl : lv_has ls 3 [(0, .ref mo), (1, .int ax1)] := hl
  refine lv_iload_n hx hb dX11_forget_0 rfl (lv_at hl 1 rfl) ?_
  refine lv_i2l (v := ax1.toInt64) hx hb dX11_forget_1 (rfl) ?_
  refine lv_lconst (v := 0) hx hb dX11_forget_2 (by decide) ?_
  refine lv_lconst (v := 1) hx hb dX11_forget_3 (by decide) ?_
  have hs1 : kw_Split [(mo, .inr (11, [.ref to, .ref ke, .ref ik, .ref mrf, .long mab, .long mbl, .ref ha, .ref r0, .ref mbr, .ref mbp, .ref mby, .int (nI bl), .int (nI ta), .int (nI tl), .int (nI tk), .int vv, .ref an, .ref va])), (mrf, .inl (y 0, 3, .inl frf))] [] [(mo, .inr (11, [.ref to, .ref ke, .ref ik, .ref mrf, .long mab, .long mbl, .ref ha, .ref r0, .ref mbr, .ref mbp, .ref mby, .int (nI bl), .int (nI ta), .int (nI tl), .int (nI tk), .int vv, .ref an, .ref va])), (mrf, .inl (y 0, 3, .inl frf))] [] [0, 1] := ⟨rfl, rfl, rfl, rfl, rfl, by decide⟩
  refine kw_go_i hs1 hP hD hS hA (va_runS (As := [.long ax1.toInt64, .long 0, .long 1]) (rest := []) ⟨hx, hb, hml, hown, hts⟩ (gr_in l D y ax1 0 1 (by omega) (by omega) _) (va_cwS 3 hts gX11_forget_X11_in rfl rfl rfl (by decide +kernel) ⟨Nat.le_of_ble_eq_true rfl, Nat.le_of_ble_eq_true rfl⟩) (kw_PreS hs1 hP hD hK hN) rfl rfl hl.1 rfl (lv_room (Nat.le_of_ble_eq_true rfl)) dX11_forget_4 ⟨Nat.le_of_ble_eq_true rfl, Nat.le_of_ble_eq_true rfl⟩) (fun r2 u3 H locs hq hP hD hS => ?_)
  rcases hq with ⟨j4, h5, h6, rfl, rfl⟩ | ⟨h7, rfl⟩
  · skip
    exact absurd ⟨j4, by omega, by omega, rfl⟩ hnx
  · skip
    have hP : va_P D vwCl [(mo, .inr (11, [.ref to, .ref ke, .ref ik, .ref mrf, .long mab, .long mbl, .ref ha, .ref r0, .ref mbr, .ref mbp, .ref mby, .int (nI bl), .int (nI ta), .int (nI tl), .int (nI tk), .int vv, .ref an, .ref va])), (mrf, .inl (y 0, 3, .inl frf))] H := hP
    have hD : va_D A [(mo, .inr (11, [.ref to, .ref ke, .ref ik, .ref mrf, .long mab, .long mbl, .ref ha, .ref r0, .ref mbr, .ref mbp, .ref mby, .int (nI bl), .int (nI ta), .int (nI tl), .int (nI tk), .int vv, .ref an, .ref va])), (mrf, .inl (y 0, 3, .inl frf))] := hD
    refine lv_if_ne (tgt := 17) hx hb dX11_forget_7 (by decide) (fun h9 => absurd h9 (by decide)) (fun _ => ?_)
    refine lv_aload_n hx hb dX11_forget_10 rfl (lv_at hl 0 rfl) ?_
    refine lv_bipush (v := (-2)) hx hb dX11_forget_11 (by decide) ?_
    have hs8 : kw_Split [(mo, .inr (11, [.ref to, .ref ke, .ref ik, .ref mrf, .long mab, .long mbl, .ref ha, .ref r0, .ref mbr, .ref mbp, .ref mby, .int (nI bl), .int (nI ta), .int (nI tl), .int (nI tk), .int vv, .ref an, .ref va])), (mrf, .inl (y 0, 3, .inl frf))] [(mo, .inr (11, [.ref to, .ref ke, .ref ik, .ref mrf, .long mab, .long mbl, .ref ha, .ref r0, .ref mbr, .ref mbp, .ref mby, .int (nI bl), .int (nI ta), .int (nI tl), .int (nI tk), .int vv, .ref an, .ref va])), (mrf, .inl (y 0, 3, .inl frf))] [] [0, 1] [] := ⟨rfl, rfl, rfl, rfl, rfl, by decide⟩
    refine kw_go_i hs8 hP hD hS hA (va_runV (As := [.int (-2)]) (rest := []) ⟨hx, hb, hml, hown, hts⟩ (gr_bad l D y mo to ke ik mrf ha r0 mbr mbp mby an va mab mbl bl ta tl tk vv frf (-2)  _) (cwV 1 hts gX11_forget_X11_bad rfl rfl rfl (by decide +kernel) ⟨Nat.le_of_ble_eq_true rfl, Nat.le_of_ble_eq_true rfl⟩) (kw_PreV (ci := 11) (q0 := 0) hs8 hP hD hK hN rfl rfl) rfl rfl hl.1 rfl (lv_room (Nat.le_of_ble_eq_true rfl)) dX11_forget_13 ⟨Nat.le_of_ble_eq_true rfl, Nat.le_of_ble_eq_true rfl⟩) (fun r9 u10 H locs hq hP hD hS => ?_)
    obtain rfl := hq
    have hP : va_P D vwCl [(mo, .inr (11, [.ref to, .ref ke, .ref ik, .ref mrf, .long mab, .long mbl, .ref ha, .ref r0, .ref mbr, .ref mbp, .ref mby, .int (nI bl), .int (nI ta), .int (nI tl), .int (nI tk), .int vv, .ref an, .ref va])), (mrf, .inl (y 0, 3, .inl (upd frf 0 ((frf 0) + 1))))] H := hP
    have hD : va_D A [(mo, .inr (11, [.ref to, .ref ke, .ref ik, .ref mrf, .long mab, .long mbl, .ref ha, .ref r0, .ref mbr, .ref mbp, .ref mby, .int (nI bl), .int (nI ta), .int (nI tl), .int (nI tk), .int vv, .ref an, .ref va])), (mrf, .inl (y 0, 3, .inl (upd frf 0 ((frf 0) + 1))))] := hD
    exact W.iret (v := (-2)) hx hb hr (fun tZ ht hW => ⟨⟨(-2), (), rfl, rfl, by rw [ht]; exact hP.sub [0, 1] rfl, hD.sub [0, 1] (by decide) rfl⟩, hS.F ht⟩) hS.2.2 dX11_forget_16

set_option maxHeartbeats 4000000 in
set_option maxRecDepth 100000 in
theorem gx_rains_b0 (l : Launch) (D : va_G) (y : Nat → ClassId) (g : Nat) (kk : Nat) (nw : Nat) (im : Nat) (kp : Nat) (tx : Nat) (tr : Nat) (be : Nat) (sh : Nat) (sd : Nat) (rf : Nat) (ab : Int32) (bl : Int32) (frf : Nat → Int32) (nk : Nat) (nd : Nat) (ne : Nat) (nm : Nat) (nn : Nat) (fi : Nat) (gl : Nat) (un : Nat) (mi : Nat) (no : Nat) (ax1 : Int32) (ax2 : Int32) (hfi : fi ≤ 6) (hgl : gl ≤ 5) (hun : un ≤ 8) (hmi : mi ≤ 4) (hno : no ≤ 6) (hnx : (¬ ∃ j : Nat, j < fi ∧ ax1 = nI j)) : kw_Mi l yX10_rains wsX10_rains ({ frames := 3, cells := 0, slots := 0, locals := 102 }) D y [.ref g, .int ax1, .int ax2] [(g, .inr (10, [.ref kk, .ref nw, .ref im, .ref kp, .ref tx, .ref tr, .ref be, .ref sh, .ref sd, .ref rf, .int ab, .int bl])), (rf, .inl (y 0, 3, .inl frf)), (nw, .inr (4, [.ref kk, .ref nk, .ref nd, .ref ne, .ref nm, .ref nn, .int (nI fi), .int (nI gl), .int (nI un), .int (nI mi), .int (nI no)]))] (fun (r : Int32) (u : Unit) => r = (-2)) (fun _ => [(g, .inr (10, [.ref kk, .ref nw, .ref im, .ref kp, .ref tx, .ref tr, .ref be, .ref sh, .ref sd, .ref rf, .int ab, .int bl])), (rf, .inl (y 0, 3, .inl (upd frf 0 ((frf 0) + 1)))), (nw, .inr (4, [.ref kk, .ref nk, .ref nd, .ref ne, .ref nm, .ref nn, .int (nI fi), .int (nI gl), .int (nI un), .int (nI mi), .int (nI no)]))]) 0 0 := by
  refine kw_Mi.of (cc := cX10_rains) (maxL := 7) (ret := (some .int)) (by decide) rfl ?_
  intro pZ eZ s mZ beZ meZ cZ A hE
  obtain ⟨hx, hb, hr, hml, hts, hown, hlocks, hin, hA, hP, hD, hK, hN⟩ := hE
  have hS : va_S A s.heap s.heap [] := va_S.rf
  have hl := lv_entry ([.ref g, .int ax1, .int ax2]) (n := 7) (Nat.le_of_ble_eq_true rfl)
  rw [lg_entry_eq]
  generalize (lg_sl ([.ref g, .int ax1, .int ax2]) ++ List.replicate (7 - (lg_sl ([.ref g, .int ax1, .int ax2])).length) Slot.unset).toArray = ls at hl ⊢
  have hl : lv_has ls 7 [(0, .ref g), (1, .int ax1), (2, .int ax2)] := hl
  have fw1 := hts (.fieldLink RX10 36 "GleanDusk" "now" "LGleanDusk$Parish;") (List.mem_of_getElem? (i := 1) rfl)
  have iw10 : ∀ w ∈ wsX100, w ∈ wsX10_rains := fun _ h => List.mem_cons_of_mem _ (List.mem_append_left _ (List.mem_append_left _ (List.mem_append_right _ h)))
  refine lv_aload_n hx hb dX10_rains_0 rfl (lv_at hl 0 rfl) ?_
  refine va_get (D := D) (ci := 10) (v := .ref nw) (C := RX10) (T := TX10) (N := 12) hx hb hts iw10 hown hK hP 0 rfl rfl 1 (by decide) fw1 (fun _ h9 => h9) rfl dX10_rains_1 ?_
  refine lv_iload_n hx hb dX10_rains_4 rfl (lv_at hl 1 rfl) ?_
  have hs1 : kw_Split [(g, .inr (10, [.ref kk, .ref nw, .ref im, .ref kp, .ref tx, .ref tr, .ref be, .ref sh, .ref sd, .ref rf, .int ab, .int bl])), (rf, .inl (y 0, 3, .inl frf)), (nw, .inr (4, [.ref kk, .ref nk, .ref nd, .ref ne, .ref nm, .ref nn, .int (nI fi), .int (nI gl), .int (nI un), .int (nI mi), .int (nI no)]))] [(nw, .inr (4, [.ref kk, .ref nk, .ref nd, .ref ne, .ref nm, .ref nn, .int (nI fi), .int (nI gl), .int (nI un), .int (nI mi), .int (nI no)]))] [(g, .inr (10, [.ref kk, .ref nw, .ref im, .ref kp, .ref tx, .ref tr, .ref be, .ref sh, .ref sd, .ref rf, .int ab, .int bl])), (rf, .inl (y 0, 3, .inl frf))] [2] [0, 1] := ⟨rfl, rfl, rfl, rfl, rfl, by decide⟩
  refine kw_go_i hs1 hP hD hS hA (va_runV (As := [.int ax1]) (rest := []) ⟨hx, hb, hml, hown, hts⟩ (gc_hasField l D y nw kk nk nd ne nm nn fi gl un mi no ax1 hfi hgl hun hmi hno _) (cwV 1 hts gX10_rains_X4_hasField rfl rfl rfl (by decide +kernel) ⟨Nat.le_of_ble_eq_true rfl, Nat.le_of_ble_eq_true rfl⟩) (kw_PreV (ci := 4) (q0 := 2) hs1 hP hD hK hN rfl rfl) rfl rfl hl.1 rfl (lv_room (Nat.le_of_ble_eq_true rfl)) dX10_rains_5 ⟨Nat.le_of_ble_eq_true rfl, Nat.le_of_ble_eq_true rfl⟩) (fun r2 u3 H locs hq hP hD hS => ?_)
  rcases hq with ⟨j4, h5, rfl, rfl⟩ | ⟨h6, rfl⟩
  · skip
    exact absurd ⟨j4, by omega, rfl⟩ hnx
  · skip
    have hP : va_P D vwCl [(g, .inr (10, [.ref kk, .ref nw, .ref im, .ref kp, .ref tx, .ref tr, .ref be, .ref sh, .ref sd, .ref rf, .int ab, .int bl])), (rf, .inl (y 0, 3, .inl frf)), (nw, .inr (4, [.ref kk, .ref nk, .ref nd, .ref ne, .ref nm, .ref nn, .int (nI fi), .int (nI gl), .int (nI un), .int (nI mi), .int (nI no)]))] H := hP
    have hD : va_D A [(g, .inr (10, [.ref kk, .ref nw, .ref im, .ref kp, .ref tx, .ref tr, .ref be, .ref sh, .ref sd, .ref rf, .int ab, .int bl])), (rf, .inl (y 0, 3, .inl frf)), (nw, .inr (4, [.ref kk, .ref nk, .ref nd, .ref ne, .ref nm, .ref nn, .int (nI fi), .int (nI gl), .int (nI un), .int (nI mi), .int (nI no)]))] := hD
    refine lv_if_eq (tgt := 21) hx hb dX10_rains_8 (by decide) (fun _ => ?_) (fun h9 => absurd h9 (by decide))
    refine lv_aload_n hx hb dX10_rains_21 rfl (lv_at hl 0 rfl) ?_
    have hs7 : kw_Split [(g, .inr (10, [.ref kk, .ref nw, .ref im, .ref kp, .ref tx, .ref tr, .ref be, .ref sh, .ref sd, .ref rf, .int ab, .int bl])), (rf, .inl (y 0, 3, .inl frf)), (nw, .inr (4, [.ref kk, .ref nk, .ref nd, .ref ne, .ref nm, .ref nn, .int (nI fi), .int (nI gl), .int (nI un), .int (nI mi), .int (nI no)]))] [(g, .inr (10, [.ref kk, .ref nw, .ref im, .ref kp, .ref tx, .ref tr, .ref be, .ref sh, .ref sd, .ref rf, .int ab, .int bl])), (rf, .inl (y 0, 3, .inl frf))] [(nw, .inr (4, [.ref kk, .ref nk, .ref nd, .ref ne, .ref nm, .ref nn, .int (nI fi), .int (nI gl), .int (nI un), .int (nI mi), .int (nI no)]))] [0, 1] [2] := ⟨rfl, rfl, rfl, rfl, rfl, by decide⟩
    refine kw_go_i hs7 hP hD hS hA (va_runV (As := []) (rest := []) ⟨hx, hb, hml, hown, hts⟩ (gc_refuseBad l D y g kk nw im kp tx tr be sh sd rf ab bl frf  _) (cwV 0 hts gX10_rains_X10_refuseBad rfl rfl rfl (by decide +kernel) ⟨Nat.le_of_ble_eq_true rfl, Nat.le_of_ble_eq_true rfl⟩) (kw_PreV (ci := 10) (q0 := 0) hs7 hP hD hK hN rfl rfl) rfl rfl hl.1 rfl (lv_room (Nat.le_of_ble_eq_true rfl)) dX10_rains_22 ⟨Nat.le_of_ble_eq_true rfl, Nat.le_of_ble_eq_true rfl⟩) (fun r8 u9 H locs hq hP hD hS => ?_)
    obtain rfl := hq
    have hP : va_P D vwCl [(nw, .inr (4, [.ref kk, .ref nk, .ref nd, .ref ne, .ref nm, .ref nn, .int (nI fi), .int (nI gl), .int (nI un), .int (nI mi), .int (nI no)])), (g, .inr (10, [.ref kk, .ref nw, .ref im, .ref kp, .ref tx, .ref tr, .ref be, .ref sh, .ref sd, .ref rf, .int ab, .int bl])), (rf, .inl (y 0, 3, .inl (upd frf 0 ((frf 0) + 1))))] H := hP
    have hD : va_D A [(nw, .inr (4, [.ref kk, .ref nk, .ref nd, .ref ne, .ref nm, .ref nn, .int (nI fi), .int (nI gl), .int (nI un), .int (nI mi), .int (nI no)])), (g, .inr (10, [.ref kk, .ref nw, .ref im, .ref kp, .ref tx, .ref tr, .ref be, .ref sh, .ref sd, .ref rf, .int ab, .int bl])), (rf, .inl (y 0, 3, .inl (upd frf 0 ((frf 0) + 1))))] := hD
    exact W.iret (v := (-2)) hx hb hr (fun tZ ht hW => ⟨⟨(-2), (), rfl, rfl, by rw [ht]; exact hP.sub [1, 2, 0] rfl, hD.sub [1, 2, 0] (by decide) rfl⟩, hS.F ht⟩) hS.2.2 dX10_rains_25

set_option maxHeartbeats 4000000 in
set_option maxRecDepth 100000 in
theorem gy_rains_b0 (l : Launch) (D : va_G) (y : Nat → ClassId) (mo : Nat) (to : Nat) (ke : Nat) (ik : Nat) (mrf : Nat) (ha : Nat) (r0 : Nat) (mbr : Nat) (mbp : Nat) (mby : Nat) (an : Nat) (va : Nat) (mab : Int64) (mbl : Int64) (bl : Nat) (ta : Nat) (tl : Nat) (tk : Nat) (vv : Int32) (frf : Nat → Int32) (ft : Nat → Int32) (fi : Nat) (gl : Nat) (mi : Nat) (no : Nat) (un : Nat) (ax1 : Int32) (ax2 : Int32) (hk0_ : ft 0 = (nI fi)) (hk1_ : ft 1 = (nI gl)) (hk2_ : ft 2 = (nI mi)) (hk3_ : ft 3 = (nI no)) (hk4_ : ft 4 = (nI un)) (hkt : kr_t 228 ft) (hfi : fi ≤ 6) (hgl : gl ≤ 5) (hmi : mi ≤ 4) (hno : no ≤ 6) (hun : un ≤ 8) (hnx : (¬ ∃ j : Nat, j < fi ∧ ax1 = nI j)) : kw_Mi l yX11_rains wsX11_rains ({ frames := 3, cells := 0, slots := 0, locals := 106 }) D y [.ref mo, .int ax1, .int ax2] [(mo, .inr (11, [.ref to, .ref ke, .ref ik, .ref mrf, .long mab, .long mbl, .ref ha, .ref r0, .ref mbr, .ref mbp, .ref mby, .int (nI bl), .int (nI ta), .int (nI tl), .int (nI tk), .int vv, .ref an, .ref va])), (mrf, .inl (y 0, 3, .inl frf)), (to, .inl (y 0, 228, .inl ft))] (fun (r : Int32) (u : Unit) => r = (-2)) (fun _ => [(mo, .inr (11, [.ref to, .ref ke, .ref ik, .ref mrf, .long mab, .long mbl, .ref ha, .ref r0, .ref mbr, .ref mbp, .ref mby, .int (nI bl), .int (nI ta), .int (nI tl), .int (nI tk), .int vv, .ref an, .ref va])), (mrf, .inl (y 0, 3, .inl (upd frf 0 ((frf 0) + 1)))), (to, .inl (y 0, 228, .inl ft))]) 0 0 := by
  refine kw_Mi.of (cc := cX11_rains) (maxL := 3) (ret := (some .int)) (by decide) rfl ?_
  intro pZ eZ s mZ beZ meZ cZ A hE
  obtain ⟨hx, hb, hr, hml, hts, hown, hlocks, hin, hA, hP, hD, hK, hN⟩ := hE
  have hS : va_S A s.heap s.heap [] := va_S.rf
  have hl := lv_entry ([.ref mo, .int ax1, .int ax2]) (n := 3) (Nat.le_of_ble_eq_true rfl)
  rw [lg_entry_eq]
  generalize (lg_sl ([.ref mo, .int ax1, .int ax2]) ++ List.replicate (3 - (lg_sl ([.ref mo, .int ax1, .int ax2])).length) Slot.unset).toArray = ls at hl ⊢
  have hl : lv_has ls 3 [(0, .ref mo), (1, .int ax1), (2, .int ax2)] := hl
  refine lv_aload_n hx hb dX11_rains_0 rfl (lv_at hl 0 rfl) ?_
  refine lv_iload_n hx hb dX11_rains_1 rfl (lv_at hl 1 rfl) ?_
  have hs1 : kw_Split [(mo, .inr (11, [.ref to, .ref ke, .ref ik, .ref mrf, .long mab, .long mbl, .ref ha, .ref r0, .ref mbr, .ref mbp, .ref mby, .int (nI bl), .int (nI ta), .int (nI tl), .int (nI tk), .int vv, .ref an, .ref va])), (mrf, .inl (y 0, 3, .inl frf)), (to, .inl (y 0, 228, .inl ft))] [(mo, .inr (11, [.ref to, .ref ke, .ref ik, .ref mrf, .long mab, .long mbl, .ref ha, .ref r0, .ref mbr, .ref mbp, .ref mby, .int (nI bl), .int (nI ta), .int (nI tl), .int (nI tk), .int vv, .ref an, .ref va])), (to, .inl (y 0, 228, .inl ft))] [(mrf, .inl (y 0, 3, .inl frf))] [0, 2] [1] := ⟨rfl, rfl, rfl, rfl, rfl, by decide⟩
  refine kw_go_i hs1 hP hD hS hA (va_runV (As := [.int ax1]) (rest := []) ⟨hx, hb, hml, hown, hts⟩ (gr_isField l D y mo to ke ik mrf ha r0 mbr mbp mby an va mab mbl bl ta tl tk vv ft fi gl mi no un ax1 hk0_ hk1_ hk2_ hk3_ hk4_ hkt hfi hgl hmi hno hun _) (cwV 1 hts gX11_rains_X11_isField rfl rfl rfl (by decide +kernel) ⟨Nat.le_of_ble_eq_true rfl, Nat.le_of_ble_eq_true rfl⟩) (kw_PreV (ci := 11) (q0 := 0) hs1 hP hD hK hN rfl rfl) rfl rfl hl.1 rfl (lv_room (Nat.le_of_ble_eq_true rfl)) dX11_rains_2 ⟨Nat.le_of_ble_eq_true rfl, Nat.le_of_ble_eq_true rfl⟩) (fun r2 u3 H locs hq hP hD hS => ?_)
  rcases hq with ⟨j4, h5, rfl, rfl⟩ | ⟨h6, rfl⟩
  · skip
    exact absurd ⟨j4, by omega, rfl⟩ hnx
  · skip
    have hP : va_P D vwCl [(mrf, .inl (y 0, 3, .inl frf)), (mo, .inr (11, [.ref to, .ref ke, .ref ik, .ref mrf, .long mab, .long mbl, .ref ha, .ref r0, .ref mbr, .ref mbp, .ref mby, .int (nI bl), .int (nI ta), .int (nI tl), .int (nI tk), .int vv, .ref an, .ref va])), (to, .inl (y 0, 228, .inl ft))] H := hP
    have hD : va_D A [(mrf, .inl (y 0, 3, .inl frf)), (mo, .inr (11, [.ref to, .ref ke, .ref ik, .ref mrf, .long mab, .long mbl, .ref ha, .ref r0, .ref mbr, .ref mbp, .ref mby, .int (nI bl), .int (nI ta), .int (nI tl), .int (nI tk), .int vv, .ref an, .ref va])), (to, .inl (y 0, 228, .inl ft))] := hD
    refine lv_if_eq (tgt := 20) hx hb dX11_rains_5 (by decide) (fun _ => ?_) (fun h9 => absurd h9 (by decide))
    refine lv_aload_n hx hb dX11_rains_20 rfl (lv_at hl 0 rfl) ?_
    refine lv_bipush (v := (-2)) hx hb dX11_rains_21 (by decide) ?_
    have hs7 : kw_Split [(mrf, .inl (y 0, 3, .inl frf)), (mo, .inr (11, [.ref to, .ref ke, .ref ik, .ref mrf, .long mab, .long mbl, .ref ha, .ref r0, .ref mbr, .ref mbp, .ref mby, .int (nI bl), .int (nI ta), .int (nI tl), .int (nI tk), .int vv, .ref an, .ref va])), (to, .inl (y 0, 228, .inl ft))] [(mo, .inr (11, [.ref to, .ref ke, .ref ik, .ref mrf, .long mab, .long mbl, .ref ha, .ref r0, .ref mbr, .ref mbp, .ref mby, .int (nI bl), .int (nI ta), .int (nI tl), .int (nI tk), .int vv, .ref an, .ref va])), (mrf, .inl (y 0, 3, .inl frf))] [(to, .inl (y 0, 228, .inl ft))] [1, 0] [2] := ⟨rfl, rfl, rfl, rfl, rfl, by decide⟩
    refine kw_go_i hs7 hP hD hS hA (va_runV (As := [.int (-2)]) (rest := []) ⟨hx, hb, hml, hown, hts⟩ (gr_bad l D y mo to ke ik mrf ha r0 mbr mbp mby an va mab mbl bl ta tl tk vv frf (-2)  _) (cwV 1 hts gX11_rains_X11_bad rfl rfl rfl (by decide +kernel) ⟨Nat.le_of_ble_eq_true rfl, Nat.le_of_ble_eq_true rfl⟩) (kw_PreV (ci := 11) (q0 := 1) hs7 hP hD hK hN rfl rfl) rfl rfl hl.1 rfl (lv_room (Nat.le_of_ble_eq_true rfl)) dX11_rains_23 ⟨Nat.le_of_ble_eq_true rfl, Nat.le_of_ble_eq_true rfl⟩) (fun r8 u9 H locs hq hP hD hS => ?_)
    obtain rfl := hq
    have hP : va_P D vwCl [(to, .inl (y 0, 228, .inl ft)), (mo, .inr (11, [.ref to, .ref ke, .ref ik, .ref mrf, .long mab, .long mbl, .ref ha, .ref r0, .ref mbr, .ref mbp, .ref mby, .int (nI bl), .int (nI ta), .int (nI tl), .int (nI tk), .int vv, .ref an, .ref va])), (mrf, .inl (y 0, 3, .inl (upd frf 0 ((frf 0) + 1))))] H := hP
    have hD : va_D A [(to, .inl (y 0, 228, .inl ft)), (mo, .inr (11, [.ref to, .ref ke, .ref ik, .ref mrf, .long mab, .long mbl, .ref ha, .ref r0, .ref mbr, .ref mbp, .ref mby, .int (nI bl), .int (nI ta), .int (nI tl), .int (nI tk), .int vv, .ref an, .ref va])), (mrf, .inl (y 0, 3, .inl (upd frf 0 ((frf 0) + 1))))] := hD
    exact W.iret (v := (-2)) hx hb hr (fun tZ ht hW => ⟨⟨(-2), (), rfl, rfl, by rw [ht]; exact hP.sub [1, 2, 0] rfl, hD.sub [1, 2, 0] (by decide) rfl⟩, hS.F ht⟩) hS.2.2 dX11_rains_26

set_option maxHeartbeats 4000000 in
set_option maxRecDepth 100000 in
theorem gx_rains_b1 (l : Launch) (D : va_G) (y : Nat → ClassId) (g : Nat) (kk : Nat) (nw : Nat) (im : Nat) (kp : Nat) (tx : Nat) (tr : Nat) (be : Nat) (sh : Nat) (sd : Nat) (rf : Nat) (ab : Int32) (bl : Int32) (frf : Nat → Int32) (nk : Nat) (nd : Nat) (ne : Nat) (nm : Nat) (nn : Nat) (fi : Nat) (gl : Nat) (un : Nat) (mi : Nat) (no : Nat) (an1 : Nat) (ax2 : Int32) (hfi : fi ≤ 6) (hgl : gl ≤ 5) (hun : un ≤ 8) (hmi : mi ≤ 4) (hno : no ≤ 6) (hB0_ : an1 < fi) (hnx : (¬ ∃ j : Nat, 0 ≤ j ∧ j ≤ 10 ∧ ax2 = nI j)) : kw_Mi l yX10_rains wsX10_rains ({ frames := 3, cells := 0, slots := 0, locals := 102 }) D y [.ref g, .int (nI an1), .int ax2] [(g, .inr (10, [.ref kk, .ref nw, .ref im, .ref kp, .ref tx, .ref tr, .ref be, .ref sh, .ref sd, .ref rf, .int ab, .int bl])), (rf, .inl (y 0, 3, .inl frf)), (nw, .inr (4, [.ref kk, .ref nk, .ref nd, .ref ne, .ref nm, .ref nn, .int (nI fi), .int (nI gl), .int (nI un), .int (nI mi), .int (nI no)]))] (fun (r : Int32) (u : Unit) => r = (-2)) (fun _ => [(g, .inr (10, [.ref kk, .ref nw, .ref im, .ref kp, .ref tx, .ref tr, .ref be, .ref sh, .ref sd, .ref rf, .int ab, .int bl])), (rf, .inl (y 0, 3, .inl (upd frf 0 ((frf 0) + 1)))), (nw, .inr (4, [.ref kk, .ref nk, .ref nd, .ref ne, .ref nm, .ref nn, .int (nI fi), .int (nI gl), .int (nI un), .int (nI mi), .int (nI no)]))]) 0 0 := by
  refine kw_Mi.of (cc := cX10_rains) (maxL := 7) (ret := (some .int)) (by decide) rfl ?_
  intro pZ eZ s mZ beZ meZ cZ A hE
  obtain ⟨hx, hb, hr, hml, hts, hown, hlocks, hin, hA, hP, hD, hK, hN⟩ := hE
  have hS : va_S A s.heap s.heap [] := va_S.rf
  have hl := lv_entry ([.ref g, .int (nI an1), .int ax2]) (n := 7) (Nat.le_of_ble_eq_true rfl)
  rw [lg_entry_eq]
  generalize (lg_sl ([.ref g, .int (nI an1), .int ax2]) ++ List.replicate (7 - (lg_sl ([.ref g, .int (nI an1), .int ax2])).length) Slot.unset).toArray = ls at hl ⊢
  have hl : lv_has ls 7 [(0, .ref g), (1, .int (nI an1)), (2, .int ax2)] := hl
  have fw1 := hts (.fieldLink RX10 36 "GleanDusk" "now" "LGleanDusk$Parish;") (List.mem_of_getElem? (i := 1) rfl)
  have iw10 : ∀ w ∈ wsX100, w ∈ wsX10_rains := fun _ h => List.mem_cons_of_mem _ (List.mem_append_left _ (List.mem_append_left _ (List.mem_append_right _ h)))
  refine lv_aload_n hx hb dX10_rains_0 rfl (lv_at hl 0 rfl) ?_
  refine va_get (D := D) (ci := 10) (v := .ref nw) (C := RX10) (T := TX10) (N := 12) hx hb hts iw10 hown hK hP 0 rfl rfl 1 (by decide) fw1 (fun _ h9 => h9) rfl dX10_rains_1 ?_
  refine lv_iload_n hx hb dX10_rains_4 rfl (lv_at hl 1 rfl) ?_
  have hs1 : kw_Split [(g, .inr (10, [.ref kk, .ref nw, .ref im, .ref kp, .ref tx, .ref tr, .ref be, .ref sh, .ref sd, .ref rf, .int ab, .int bl])), (rf, .inl (y 0, 3, .inl frf)), (nw, .inr (4, [.ref kk, .ref nk, .ref nd, .ref ne, .ref nm, .ref nn, .int (nI fi), .int (nI gl), .int (nI un), .int (nI mi), .int (nI no)]))] [(nw, .inr (4, [.ref kk, .ref nk, .ref nd, .ref ne, .ref nm, .ref nn, .int (nI fi), .int (nI gl), .int (nI un), .int (nI mi), .int (nI no)]))] [(g, .inr (10, [.ref kk, .ref nw, .ref im, .ref kp, .ref tx, .ref tr, .ref be, .ref sh, .ref sd, .ref rf, .int ab, .int bl])), (rf, .inl (y 0, 3, .inl frf))] [2] [0, 1] := ⟨rfl, rfl, rfl, rfl, rfl, by decide⟩
  refine kw_go_i hs1 hP hD hS hA (va_runV (As := [.int (nI an1)]) (rest := []) ⟨hx, hb, hml, hown, hts⟩ (gc_hasField l D y nw kk nk nd ne nm nn fi gl un mi no (nI an1) hfi hgl hun hmi hno _) (cwV 1 hts gX10_rains_X4_hasField rfl rfl rfl (by decide +kernel) ⟨Nat.le_of_ble_eq_true rfl, Nat.le_of_ble_eq_true rfl⟩) (kw_PreV (ci := 4) (q0 := 2) hs1 hP hD hK hN rfl rfl) rfl rfl hl.1 rfl (lv_room (Nat.le_of_ble_eq_true rfl)) dX10_rains_5 ⟨Nat.le_of_ble_eq_true rfl, Nat.le_of_ble_eq_true rfl⟩) (fun r2 u3 H locs hq hP hD hS => ?_)
  rcases hq with ⟨j4, h5, h6, rfl⟩ | ⟨h7, rfl⟩
  · skip
    have h6 : an1 = j4 := (nI_eq (a := an1) (b := j4) (by omega) (by omega)).mp h6
    have hP : va_P D vwCl [(g, .inr (10, [.ref kk, .ref nw, .ref im, .ref kp, .ref tx, .ref tr, .ref be, .ref sh, .ref sd, .ref rf, .int ab, .int bl])), (rf, .inl (y 0, 3, .inl frf)), (nw, .inr (4, [.ref kk, .ref nk, .ref nd, .ref ne, .ref nm, .ref nn, .int (nI fi), .int (nI gl), .int (nI un), .int (nI mi), .int (nI no)]))] H := hP
    have hD : va_D A [(g, .inr (10, [.ref kk, .ref nw, .ref im, .ref kp, .ref tx, .ref tr, .ref be, .ref sh, .ref sd, .ref rf, .int ab, .int bl])), (rf, .inl (y 0, 3, .inl frf)), (nw, .inr (4, [.ref kk, .ref nk, .ref nd, .ref ne, .ref nm, .ref nn, .int (nI fi), .int (nI gl), .int (nI un), .int (nI mi), .int (nI no)]))] := hD
    refine lv_if_eq (tgt := 21) hx hb dX10_rains_8 (by decide) (fun h9 => absurd h9 (by decide)) (fun _ => ?_)
    refine lv_iload_n hx hb dX10_rains_11 rfl (lv_at hl 2 rfl) ?_
    refine lv_iconst (v := 0) hx hb dX10_rains_12 (by decide) ?_
    refine lv_bipush (v := 10) hx hb dX10_rains_13 (by decide) ?_
    have hs8 : kw_Split [(g, .inr (10, [.ref kk, .ref nw, .ref im, .ref kp, .ref tx, .ref tr, .ref be, .ref sh, .ref sd, .ref rf, .int ab, .int bl])), (rf, .inl (y 0, 3, .inl frf)), (nw, .inr (4, [.ref kk, .ref nk, .ref nd, .ref ne, .ref nm, .ref nn, .int (nI fi), .int (nI gl), .int (nI un), .int (nI mi), .int (nI no)]))] [] [(g, .inr (10, [.ref kk, .ref nw, .ref im, .ref kp, .ref tx, .ref tr, .ref be, .ref sh, .ref sd, .ref rf, .int ab, .int bl])), (rf, .inl (y 0, 3, .inl frf)), (nw, .inr (4, [.ref kk, .ref nk, .ref nd, .ref ne, .ref nm, .ref nn, .int (nI fi), .int (nI gl), .int (nI un), .int (nI mi), .int (nI no)]))] [] [0, 1, 2] := ⟨rfl, rfl, rfl, rfl, rfl, by decide⟩
    refine kw_go_i hs8 hP hD hS hA (va_runS (As := [.int ax2, .int 0, .int 10]) (rest := []) ⟨hx, hb, hml, hown, hts⟩ (gc_isIn l D y ax2 0 10 (by omega) (by omega) _) (va_cwS 3 hts gX10_rains_X10_isIn rfl rfl rfl (by decide +kernel) ⟨Nat.le_of_ble_eq_true rfl, Nat.le_of_ble_eq_true rfl⟩) (kw_PreS hs8 hP hD hK hN) rfl rfl hl.1 rfl (lv_room (Nat.le_of_ble_eq_true rfl)) dX10_rains_15 ⟨Nat.le_of_ble_eq_true rfl, Nat.le_of_ble_eq_true rfl⟩) (fun r9 u10 H locs hq hP hD hS => ?_)
    rcases hq with ⟨j11, h12, h13, rfl, rfl⟩ | ⟨h14, rfl⟩
    · skip
      exact absurd ⟨j11, by omega, by omega, rfl⟩ hnx
    · skip
      have hP : va_P D vwCl [(g, .inr (10, [.ref kk, .ref nw, .ref im, .ref kp, .ref tx, .ref tr, .ref be, .ref sh, .ref sd, .ref rf, .int ab, .int bl])), (rf, .inl (y 0, 3, .inl frf)), (nw, .inr (4, [.ref kk, .ref nk, .ref nd, .ref ne, .ref nm, .ref nn, .int (nI fi), .int (nI gl), .int (nI un), .int (nI mi), .int (nI no)]))] H := hP
      have hD : va_D A [(g, .inr (10, [.ref kk, .ref nw, .ref im, .ref kp, .ref tx, .ref tr, .ref be, .ref sh, .ref sd, .ref rf, .int ab, .int bl])), (rf, .inl (y 0, 3, .inl frf)), (nw, .inr (4, [.ref kk, .ref nk, .ref nd, .ref ne, .ref nm, .ref nn, .int (nI fi), .int (nI gl), .int (nI un), .int (nI mi), .int (nI no)]))] := hD
      refine lv_if_ne (tgt := 26) hx hb dX10_rains_18 (by decide) (fun h9 => absurd h9 (by decide)) (fun _ => ?_)
      refine lv_aload_n hx hb dX10_rains_21 rfl (lv_at hl 0 rfl) ?_
      have hs15 : kw_Split [(g, .inr (10, [.ref kk, .ref nw, .ref im, .ref kp, .ref tx, .ref tr, .ref be, .ref sh, .ref sd, .ref rf, .int ab, .int bl])), (rf, .inl (y 0, 3, .inl frf)), (nw, .inr (4, [.ref kk, .ref nk, .ref nd, .ref ne, .ref nm, .ref nn, .int (nI fi), .int (nI gl), .int (nI un), .int (nI mi), .int (nI no)]))] [(g, .inr (10, [.ref kk, .ref nw, .ref im, .ref kp, .ref tx, .ref tr, .ref be, .ref sh, .ref sd, .ref rf, .int ab, .int bl])), (rf, .inl (y 0, 3, .inl frf))] [(nw, .inr (4, [.ref kk, .ref nk, .ref nd, .ref ne, .ref nm, .ref nn, .int (nI fi), .int (nI gl), .int (nI un), .int (nI mi), .int (nI no)]))] [0, 1] [2] := ⟨rfl, rfl, rfl, rfl, rfl, by decide⟩
      refine kw_go_i hs15 hP hD hS hA (va_runV (As := []) (rest := []) ⟨hx, hb, hml, hown, hts⟩ (gc_refuseBad l D y g kk nw im kp tx tr be sh sd rf ab bl frf  _) (cwV 0 hts gX10_rains_X10_refuseBad rfl rfl rfl (by decide +kernel) ⟨Nat.le_of_ble_eq_true rfl, Nat.le_of_ble_eq_true rfl⟩) (kw_PreV (ci := 10) (q0 := 0) hs15 hP hD hK hN rfl rfl) rfl rfl hl.1 rfl (lv_room (Nat.le_of_ble_eq_true rfl)) dX10_rains_22 ⟨Nat.le_of_ble_eq_true rfl, Nat.le_of_ble_eq_true rfl⟩) (fun r16 u17 H locs hq hP hD hS => ?_)
      obtain rfl := hq
      have hP : va_P D vwCl [(nw, .inr (4, [.ref kk, .ref nk, .ref nd, .ref ne, .ref nm, .ref nn, .int (nI fi), .int (nI gl), .int (nI un), .int (nI mi), .int (nI no)])), (g, .inr (10, [.ref kk, .ref nw, .ref im, .ref kp, .ref tx, .ref tr, .ref be, .ref sh, .ref sd, .ref rf, .int ab, .int bl])), (rf, .inl (y 0, 3, .inl (upd frf 0 ((frf 0) + 1))))] H := hP
      have hD : va_D A [(nw, .inr (4, [.ref kk, .ref nk, .ref nd, .ref ne, .ref nm, .ref nn, .int (nI fi), .int (nI gl), .int (nI un), .int (nI mi), .int (nI no)])), (g, .inr (10, [.ref kk, .ref nw, .ref im, .ref kp, .ref tx, .ref tr, .ref be, .ref sh, .ref sd, .ref rf, .int ab, .int bl])), (rf, .inl (y 0, 3, .inl (upd frf 0 ((frf 0) + 1))))] := hD
      exact W.iret (v := (-2)) hx hb hr (fun tZ ht hW => ⟨⟨(-2), (), rfl, rfl, by rw [ht]; exact hP.sub [1, 2, 0] rfl, hD.sub [1, 2, 0] (by decide) rfl⟩, hS.F ht⟩) hS.2.2 dX10_rains_25
  · skip
    exact absurd ⟨an1, by omega, rfl⟩ h7

set_option maxHeartbeats 4000000 in
set_option maxRecDepth 100000 in
theorem gy_rains_b1 (l : Launch) (D : va_G) (y : Nat → ClassId) (mo : Nat) (to : Nat) (ke : Nat) (ik : Nat) (mrf : Nat) (ha : Nat) (r0 : Nat) (mbr : Nat) (mbp : Nat) (mby : Nat) (an : Nat) (va : Nat) (mab : Int64) (mbl : Int64) (bl : Nat) (ta : Nat) (tl : Nat) (tk : Nat) (vv : Int32) (frf : Nat → Int32) (ft : Nat → Int32) (fi : Nat) (gl : Nat) (mi : Nat) (no : Nat) (un : Nat) (an1 : Nat) (ax2 : Int32) (hk0_ : ft 0 = (nI fi)) (hk1_ : ft 1 = (nI gl)) (hk2_ : ft 2 = (nI mi)) (hk3_ : ft 3 = (nI no)) (hk4_ : ft 4 = (nI un)) (hkt : kr_t 228 ft) (hfi : fi ≤ 6) (hgl : gl ≤ 5) (hmi : mi ≤ 4) (hno : no ≤ 6) (hun : un ≤ 8) (hB0_ : an1 < fi) (hnx : (¬ ∃ j : Nat, 0 ≤ j ∧ j ≤ 10 ∧ ax2 = nI j)) : kw_Mi l yX11_rains wsX11_rains ({ frames := 3, cells := 0, slots := 0, locals := 106 }) D y [.ref mo, .int (nI an1), .int ax2] [(mo, .inr (11, [.ref to, .ref ke, .ref ik, .ref mrf, .long mab, .long mbl, .ref ha, .ref r0, .ref mbr, .ref mbp, .ref mby, .int (nI bl), .int (nI ta), .int (nI tl), .int (nI tk), .int vv, .ref an, .ref va])), (mrf, .inl (y 0, 3, .inl frf)), (to, .inl (y 0, 228, .inl ft))] (fun (r : Int32) (u : Unit) => r = (-2)) (fun _ => [(mo, .inr (11, [.ref to, .ref ke, .ref ik, .ref mrf, .long mab, .long mbl, .ref ha, .ref r0, .ref mbr, .ref mbp, .ref mby, .int (nI bl), .int (nI ta), .int (nI tl), .int (nI tk), .int vv, .ref an, .ref va])), (mrf, .inl (y 0, 3, .inl (upd frf 0 ((frf 0) + 1)))), (to, .inl (y 0, 228, .inl ft))]) 0 0 := by
  refine kw_Mi.of (cc := cX11_rains) (maxL := 3) (ret := (some .int)) (by decide) rfl ?_
  intro pZ eZ s mZ beZ meZ cZ A hE
  obtain ⟨hx, hb, hr, hml, hts, hown, hlocks, hin, hA, hP, hD, hK, hN⟩ := hE
  have hS : va_S A s.heap s.heap [] := va_S.rf
  have hl := lv_entry ([.ref mo, .int (nI an1), .int ax2]) (n := 3) (Nat.le_of_ble_eq_true rfl)
  rw [lg_entry_eq]
  generalize (lg_sl ([.ref mo, .int (nI an1), .int ax2]) ++ List.replicate (3 - (lg_sl ([.ref mo, .int (nI an1), .int ax2])).length) Slot.unset).toArray = ls at hl ⊢
  have hl : lv_has ls 3 [(0, .ref mo), (1, .int (nI an1)), (2, .int ax2)] := hl
  have fw1 := hts (.constantLong RX11 192 (10)) (List.mem_of_getElem? (i := 1) rfl)
  refine lv_aload_n hx hb dX11_rains_0 rfl (lv_at hl 0 rfl) ?_
  refine lv_iload_n hx hb dX11_rains_1 rfl (lv_at hl 1 rfl) ?_
  have hs1 : kw_Split [(mo, .inr (11, [.ref to, .ref ke, .ref ik, .ref mrf, .long mab, .long mbl, .ref ha, .ref r0, .ref mbr, .ref mbp, .ref mby, .int (nI bl), .int (nI ta), .int (nI tl), .int (nI tk), .int vv, .ref an, .ref va])), (mrf, .inl (y 0, 3, .inl frf)), (to, .inl (y 0, 228, .inl ft))] [(mo, .inr (11, [.ref to, .ref ke, .ref ik, .ref mrf, .long mab, .long mbl, .ref ha, .ref r0, .ref mbr, .ref mbp, .ref mby, .int (nI bl), .int (nI ta), .int (nI tl), .int (nI tk), .int vv, .ref an, .ref va])), (to, .inl (y 0, 228, .inl ft))] [(mrf, .inl (y 0, 3, .inl frf))] [0, 2] [1] := ⟨rfl, rfl, rfl, rfl, rfl, by decide⟩
  refine kw_go_i hs1 hP hD hS hA (va_runV (As := [.int (nI an1)]) (rest := []) ⟨hx, hb, hml, hown, hts⟩ (gr_isField l D y mo to ke ik mrf ha r0 mbr mbp mby an va mab mbl bl ta tl tk vv ft fi gl mi no un (nI an1) hk0_ hk1_ hk2_ hk3_ hk4_ hkt hfi hgl hmi hno hun _) (cwV 1 hts gX11_rains_X11_isField rfl rfl rfl (by decide +kernel) ⟨Nat.le_of_ble_eq_true rfl, Nat.le_of_ble_eq_true rfl⟩) (kw_PreV (ci := 11) (q0 := 0) hs1 hP hD hK hN rfl rfl) rfl rfl hl.1 rfl (lv_room (Nat.le_of_ble_eq_true rfl)) dX11_rains_2 ⟨Nat.le_of_ble_eq_true rfl, Nat.le_of_ble_eq_true rfl⟩) (fun r2 u3 H locs hq hP hD hS => ?_)
  rcases hq with ⟨j4, h5, h6, rfl⟩ | ⟨h7, rfl⟩
  · skip
    have h6 : an1 = j4 := (nI_eq (a := an1) (b := j4) (by omega) (by omega)).mp h6
    have hP : va_P D vwCl [(mrf, .inl (y 0, 3, .inl frf)), (mo, .inr (11, [.ref to, .ref ke, .ref ik, .ref mrf, .long mab, .long mbl, .ref ha, .ref r0, .ref mbr, .ref mbp, .ref mby, .int (nI bl), .int (nI ta), .int (nI tl), .int (nI tk), .int vv, .ref an, .ref va])), (to, .inl (y 0, 228, .inl ft))] H := hP
    have hD : va_D A [(mrf, .inl (y 0, 3, .inl frf)), (mo, .inr (11, [.ref to, .ref ke, .ref ik, .ref mrf, .long mab, .long mbl, .ref ha, .ref r0, .ref mbr, .ref mbp, .ref mby, .int (nI bl), .int (nI ta), .int (nI tl), .int (nI tk), .int vv, .ref an, .ref va])), (to, .inl (y 0, 228, .inl ft))] := hD
    refine lv_if_eq (tgt := 20) hx hb dX11_rains_5 (by decide) (fun h9 => absurd h9 (by decide)) (fun _ => ?_)
    refine lv_iload_n hx hb dX11_rains_8 rfl (lv_at hl 2 rfl) ?_
    refine lv_i2l (v := ax2.toInt64) hx hb dX11_rains_9 (rfl) ?_
    refine lv_lconst (v := 0) hx hb dX11_rains_10 (by decide) ?_
    refine lv_ldc2 (v := 10) hx hb hown fw1 dX11_rains_11 ?_
    have hs8 : kw_Split [(mrf, .inl (y 0, 3, .inl frf)), (mo, .inr (11, [.ref to, .ref ke, .ref ik, .ref mrf, .long mab, .long mbl, .ref ha, .ref r0, .ref mbr, .ref mbp, .ref mby, .int (nI bl), .int (nI ta), .int (nI tl), .int (nI tk), .int vv, .ref an, .ref va])), (to, .inl (y 0, 228, .inl ft))] [] [(mrf, .inl (y 0, 3, .inl frf)), (mo, .inr (11, [.ref to, .ref ke, .ref ik, .ref mrf, .long mab, .long mbl, .ref ha, .ref r0, .ref mbr, .ref mbp, .ref mby, .int (nI bl), .int (nI ta), .int (nI tl), .int (nI tk), .int vv, .ref an, .ref va])), (to, .inl (y 0, 228, .inl ft))] [] [0, 1, 2] := ⟨rfl, rfl, rfl, rfl, rfl, by decide⟩
    refine kw_go_i hs8 hP hD hS hA (va_runS (As := [.long ax2.toInt64, .long 0, .long 10]) (rest := []) ⟨hx, hb, hml, hown, hts⟩ (gr_in l D y ax2 0 10 (by omega) (by omega) _) (va_cwS 3 hts gX11_rains_X11_in rfl rfl rfl (by decide +kernel) ⟨Nat.le_of_ble_eq_true rfl, Nat.le_of_ble_eq_true rfl⟩) (kw_PreS hs8 hP hD hK hN) rfl rfl hl.1 rfl (lv_room (Nat.le_of_ble_eq_true rfl)) dX11_rains_14 ⟨Nat.le_of_ble_eq_true rfl, Nat.le_of_ble_eq_true rfl⟩) (fun r9 u10 H locs hq hP hD hS => ?_)
    rcases hq with ⟨j11, h12, h13, rfl, rfl⟩ | ⟨h14, rfl⟩
    · skip
      exact absurd ⟨j11, by omega, by omega, rfl⟩ hnx
    · skip
      have hP : va_P D vwCl [(mrf, .inl (y 0, 3, .inl frf)), (mo, .inr (11, [.ref to, .ref ke, .ref ik, .ref mrf, .long mab, .long mbl, .ref ha, .ref r0, .ref mbr, .ref mbp, .ref mby, .int (nI bl), .int (nI ta), .int (nI tl), .int (nI tk), .int vv, .ref an, .ref va])), (to, .inl (y 0, 228, .inl ft))] H := hP
      have hD : va_D A [(mrf, .inl (y 0, 3, .inl frf)), (mo, .inr (11, [.ref to, .ref ke, .ref ik, .ref mrf, .long mab, .long mbl, .ref ha, .ref r0, .ref mbr, .ref mbp, .ref mby, .int (nI bl), .int (nI ta), .int (nI tl), .int (nI tk), .int vv, .ref an, .ref va])), (to, .inl (y 0, 228, .inl ft))] := hD
      refine lv_if_ne (tgt := 27) hx hb dX11_rains_17 (by decide) (fun h9 => absurd h9 (by decide)) (fun _ => ?_)
      refine lv_aload_n hx hb dX11_rains_20 rfl (lv_at hl 0 rfl) ?_
      refine lv_bipush (v := (-2)) hx hb dX11_rains_21 (by decide) ?_
      have hs15 : kw_Split [(mrf, .inl (y 0, 3, .inl frf)), (mo, .inr (11, [.ref to, .ref ke, .ref ik, .ref mrf, .long mab, .long mbl, .ref ha, .ref r0, .ref mbr, .ref mbp, .ref mby, .int (nI bl), .int (nI ta), .int (nI tl), .int (nI tk), .int vv, .ref an, .ref va])), (to, .inl (y 0, 228, .inl ft))] [(mo, .inr (11, [.ref to, .ref ke, .ref ik, .ref mrf, .long mab, .long mbl, .ref ha, .ref r0, .ref mbr, .ref mbp, .ref mby, .int (nI bl), .int (nI ta), .int (nI tl), .int (nI tk), .int vv, .ref an, .ref va])), (mrf, .inl (y 0, 3, .inl frf))] [(to, .inl (y 0, 228, .inl ft))] [1, 0] [2] := ⟨rfl, rfl, rfl, rfl, rfl, by decide⟩
      refine kw_go_i hs15 hP hD hS hA (va_runV (As := [.int (-2)]) (rest := []) ⟨hx, hb, hml, hown, hts⟩ (gr_bad l D y mo to ke ik mrf ha r0 mbr mbp mby an va mab mbl bl ta tl tk vv frf (-2)  _) (cwV 1 hts gX11_rains_X11_bad rfl rfl rfl (by decide +kernel) ⟨Nat.le_of_ble_eq_true rfl, Nat.le_of_ble_eq_true rfl⟩) (kw_PreV (ci := 11) (q0 := 1) hs15 hP hD hK hN rfl rfl) rfl rfl hl.1 rfl (lv_room (Nat.le_of_ble_eq_true rfl)) dX11_rains_23 ⟨Nat.le_of_ble_eq_true rfl, Nat.le_of_ble_eq_true rfl⟩) (fun r16 u17 H locs hq hP hD hS => ?_)
      obtain rfl := hq
      have hP : va_P D vwCl [(to, .inl (y 0, 228, .inl ft)), (mo, .inr (11, [.ref to, .ref ke, .ref ik, .ref mrf, .long mab, .long mbl, .ref ha, .ref r0, .ref mbr, .ref mbp, .ref mby, .int (nI bl), .int (nI ta), .int (nI tl), .int (nI tk), .int vv, .ref an, .ref va])), (mrf, .inl (y 0, 3, .inl (upd frf 0 ((frf 0) + 1))))] H := hP
      have hD : va_D A [(to, .inl (y 0, 228, .inl ft)), (mo, .inr (11, [.ref to, .ref ke, .ref ik, .ref mrf, .long mab, .long mbl, .ref ha, .ref r0, .ref mbr, .ref mbp, .ref mby, .int (nI bl), .int (nI ta), .int (nI tl), .int (nI tk), .int vv, .ref an, .ref va])), (mrf, .inl (y 0, 3, .inl (upd frf 0 ((frf 0) + 1))))] := hD
      exact W.iret (v := (-2)) hx hb hr (fun tZ ht hW => ⟨⟨(-2), (), rfl, rfl, by rw [ht]; exact hP.sub [1, 2, 0] rfl, hD.sub [1, 2, 0] (by decide) rfl⟩, hS.F ht⟩) hS.2.2 dX11_rains_26
  · skip
    exact absurd ⟨an1, by omega, rfl⟩ h7

set_option maxHeartbeats 4000000 in
set_option maxRecDepth 100000 in
theorem gx_parish_ok (l : Launch) (D : va_G) (y : Nat → ClassId) (g : Nat) (kk : Nat) (nw : Nat) (im : Nat) (kp : Nat) (tx : Nat) (tr : Nat) (be : Nat) (sh : Nat) (sd : Nat) (rf : Nat) (ab : Int32) (bl : Int32) (frf : Nat → Int32) (nk : Nat) (nd : Nat) (ne : Nat) (nm : Nat) (nn : Nat) (fi : Nat) (gl : Nat) (un : Nat) (mi : Nat) (no : Nat) (nd : Nat) (nl : Nat) (na : Nat) (ns : Nat) (nst : Int32) (ncl : Int32) (nnu : Int32) (an1 : Nat) (hfi : fi ≤ 6) (hgl : gl ≤ 5) (hun : un ≤ 8) (hmi : mi ≤ 4) (hno : no ≤ 6) (hB0_ : an1 < 10) : kw_Mi l yX10_parish wsX10_parish ({ frames := 2, cells := 0, slots := 0, locals := 81 }) D y [.ref g, .int (nI an1)] [(g, .inr (10, [.ref kk, .ref nw, .ref im, .ref kp, .ref tx, .ref tr, .ref be, .ref sh, .ref sd, .ref rf, .int ab, .int bl])), (rf, .inl (y 0, 3, .inl frf)), (nw, .inr (4, [.ref kk, .ref nk, .ref nd, .ref ne, .ref nm, .ref nn, .int (nI fi), .int (nI gl), .int (nI un), .int (nI mi), .int (nI no)])), (nd, .inr (1, [.ref nl, .ref na, .ref ns, .int nst, .int ncl, .int nnu]))] (fun (r : Int32) (u : Unit) => r = (nI fi)) (fun _ => [(g, .inr (10, [.ref kk, .ref nw, .ref im, .ref kp, .ref tx, .ref tr, .ref be, .ref sh, .ref sd, .ref rf, .int ab, .int bl])), (rf, .inl (y 0, 3, .inl frf)), (nw, .inr (4, [.ref kk, .ref nk, .ref nd, .ref ne, .ref nm, .ref nn, .int 0, .int 0, .int 0, .int 0, .int 0])), (nd, .inr (1, [.ref nl, .ref na, .ref ns, .int 0, .int (nI an1), .int 0]))]) 0 0 := by
  refine kw_Mi.of (cc := cX10_parish) (maxL := 3) (ret := (some .int)) (by decide) rfl ?_
  intro pZ eZ s mZ beZ meZ cZ A hE
  obtain ⟨hx, hb, hr, hml, hts, hown, hlocks, hin, hA, hP, hD, hK, hN⟩ := hE
  have hS : va_S A s.heap s.heap [] := va_S.rf
  have hl := lv_entry ([.ref g, .int (nI an1)]) (n := 3) (Nat.le_of_ble_eq_true rfl)
  rw [lg_entry_eq]
  generalize (lg_sl ([.ref g, .int (nI an1)]) ++ List.replicate (3 - (lg_sl ([.ref g, .int (nI an1)])).length) Slot.unset).toArray = ls at hl ⊢
  have hl : lv_has ls 3 [(0, .ref g), (1, .int (nI an1))] := hl
  have fw1 := hts (.fieldLink RX10 36 "GleanDusk" "now" "LGleanDusk$Parish;") (List.mem_of_getElem? (i := 1) rfl)
  have fw2 := hts (.fieldLink RX10 94 "GleanDusk$Parish" "fields" "I") (List.mem_of_getElem? (i := 2) rfl)
  have iw10 : ∀ w ∈ wsX100, w ∈ wsX10_parish := fun _ h => List.mem_cons_of_mem _ (List.mem_append_left _ (List.mem_append_left _ (List.mem_append_right _ h)))
  have iw4 : ∀ w ∈ wsX40, w ∈ wsX10_parish := fun _ h => List.mem_cons_of_mem _ (List.mem_append_left _ (List.mem_append_right _ h))
  refine lv_iload_n hx hb dX10_parish_0 rfl (lv_at hl 1 rfl) ?_
  refine lv_bipush (v := 10) hx hb dX10_parish_1 (by decide) ?_
  have hs1 : kw_Split [(g, .inr (10, [.ref kk, .ref nw, .ref im, .ref kp, .ref tx, .ref tr, .ref be, .ref sh, .ref sd, .ref rf, .int ab, .int bl])), (rf, .inl (y 0, 3, .inl frf)), (nw, .inr (4, [.ref kk, .ref nk, .ref nd, .ref ne, .ref nm, .ref nn, .int (nI fi), .int (nI gl), .int (nI un), .int (nI mi), .int (nI no)])), (nd, .inr (1, [.ref nl, .ref na, .ref ns, .int nst, .int ncl, .int nnu]))] [] [(g, .inr (10, [.ref kk, .ref nw, .ref im, .ref kp, .ref tx, .ref tr, .ref be, .ref sh, .ref sd, .ref rf, .int ab, .int bl])), (rf, .inl (y 0, 3, .inl frf)), (nw, .inr (4, [.ref kk, .ref nk, .ref nd, .ref ne, .ref nm, .ref nn, .int (nI fi), .int (nI gl), .int (nI un), .int (nI mi), .int (nI no)])), (nd, .inr (1, [.ref nl, .ref na, .ref ns, .int nst, .int ncl, .int nnu]))] [] [0, 1, 2, 3] := ⟨rfl, rfl, rfl, rfl, rfl, by decide⟩
  refine kw_go_i hs1 hP hD hS hA (va_runS (As := [.int (nI an1), .int 10]) (rest := []) ⟨hx, hb, hml, hown, hts⟩ (gc_isBelow l D y (nI an1) 10 (by omega) _) (va_cwS 2 hts gX10_parish_X10_isBelow rfl rfl rfl (by decide +kernel) ⟨Nat.le_of_ble_eq_true rfl, Nat.le_of_ble_eq_true rfl⟩) (kw_PreS hs1 hP hD hK hN) rfl rfl hl.1 rfl (lv_room (Nat.le_of_ble_eq_true rfl)) dX10_parish_3 ⟨Nat.le_of_ble_eq_true rfl, Nat.le_of_ble_eq_true rfl⟩) (fun r2 u3 H locs hq hP hD hS => ?_)
  rcases hq with ⟨j4, h5, h6, rfl⟩ | ⟨h7, rfl⟩
  · skip
    have h6 : an1 = j4 := (nI_eq (a := an1) (b := j4) (by omega) (by omega)).mp h6
    have hP : va_P D vwCl [(g, .inr (10, [.ref kk, .ref nw, .ref im, .ref kp, .ref tx, .ref tr, .ref be, .ref sh, .ref sd, .ref rf, .int ab, .int bl])), (rf, .inl (y 0, 3, .inl frf)), (nw, .inr (4, [.ref kk, .ref nk, .ref nd, .ref ne, .ref nm, .ref nn, .int (nI fi), .int (nI gl), .int (nI un), .int (nI mi), .int (nI no)])), (nd, .inr (1, [.ref nl, .ref na, .ref ns, .int nst, .int ncl, .int nnu]))] H := hP
    have hD : va_D A [(g, .inr (10, [.ref kk, .ref nw, .ref im, .ref kp, .ref tx, .ref tr, .ref be, .ref sh, .ref sd, .ref rf, .int ab, .int bl])), (rf, .inl (y 0, 3, .inl frf)), (nw, .inr (4, [.ref kk, .ref nk, .ref nd, .ref ne, .ref nm, .ref nn, .int (nI fi), .int (nI gl), .int (nI un), .int (nI mi), .int (nI no)])), (nd, .inr (1, [.ref nl, .ref na, .ref ns, .int nst, .int ncl, .int nnu]))] := hD
    refine lv_if_ne (tgt := 14) hx hb dX10_parish_6 (by decide) (fun _ => ?_) (fun h9 => absurd h9 (by decide))
    refine lv_aload_n hx hb dX10_parish_14 rfl (lv_at hl 0 rfl) ?_
    refine va_get (D := D) (ci := 10) (v := .ref nw) (C := RX10) (T := TX10) (N := 12) hx hb hts iw10 hown hK hP 0 rfl rfl 1 (by decide) fw1 (fun _ h9 => h9) rfl dX10_parish_15 ?_
    refine va_get (D := D) (ci := 4) (v := .int (nI fi)) (C := RX4) (T := TX4) (N := 11) hx hb hts iw4 hown hK hP 2 rfl rfl 6 (by decide) fw2 (fun _ h9 => h9) rfl dX10_parish_18 ?_
    refine lv_istore_n (lv' := [(2, .int (nI fi)), (0, .ref g), (1, .int (nI an1))]) hx hb dX10_parish_21 rfl hl (by decide) rfl (fun ls hl => ?_)
    refine lv_aload_n hx hb dX10_parish_22 rfl (lv_at hl 1 rfl) ?_
    refine va_get (D := D) (ci := 10) (v := .ref nw) (C := RX10) (T := TX10) (N := 12) hx hb hts iw10 hown hK hP 0 rfl rfl 1 (by decide) fw1 (fun _ h9 => h9) rfl dX10_parish_23 ?_
    refine lv_iload_n hx hb dX10_parish_26 rfl (lv_at hl 2 rfl) ?_
    have hs8 : kw_Split [(g, .inr (10, [.ref kk, .ref nw, .ref im, .ref kp, .ref tx, .ref tr, .ref be, .ref sh, .ref sd, .ref rf, .int ab, .int bl])), (rf, .inl (y 0, 3, .inl frf)), (nw, .inr (4, [.ref kk, .ref nk, .ref nd, .ref ne, .ref nm, .ref nn, .int (nI fi), .int (nI gl), .int (nI un), .int (nI mi), .int (nI no)])), (nd, .inr (1, [.ref nl, .ref na, .ref ns, .int nst, .int ncl, .int nnu]))] [(nw, .inr (4, [.ref kk, .ref nk, .ref nd, .ref ne, .ref nm, .ref nn, .int (nI fi), .int (nI gl), .int (nI un), .int (nI mi), .int (nI no)])), (nd, .inr (1, [.ref nl, .ref na, .ref ns, .int nst, .int ncl, .int nnu]))] [(g, .inr (10, [.ref kk, .ref nw, .ref im, .ref kp, .ref tx, .ref tr, .ref be, .ref sh, .ref sd, .ref rf, .int ab, .int bl])), (rf, .inl (y 0, 3, .inl frf))] [2, 3] [0, 1] := ⟨rfl, rfl, rfl, rfl, rfl, by decide⟩
    refine kw_go_v hs8 hP hD hS hA (va_runV (As := [.int (nI an1)]) (rest := []) ⟨hx, hb, hml, hown, hts⟩ (gc_begin l D y nw kk nk nd ne nm nn fi gl un mi no (nI an1) nd nl na ns nst ncl nnu hfi hgl hun hmi hno _) (cwV 1 hts gX10_parish_X4_begin rfl rfl rfl (by decide +kernel) ⟨Nat.le_of_ble_eq_true rfl, Nat.le_of_ble_eq_true rfl⟩) (kw_PreV (ci := 4) (q0 := 2) hs8 hP hD hK hN rfl rfl) rfl rfl hl.1 rfl (lv_room (Nat.le_of_ble_eq_true rfl)) dX10_parish_27 ⟨Nat.le_of_ble_eq_true rfl, Nat.le_of_ble_eq_true rfl⟩) (fun u10 H locs hq hP hD hS => ?_)
    have hP : va_P D vwCl [(g, .inr (10, [.ref kk, .ref nw, .ref im, .ref kp, .ref tx, .ref tr, .ref be, .ref sh, .ref sd, .ref rf, .int ab, .int bl])), (rf, .inl (y 0, 3, .inl frf)), (nw, .inr (4, [.ref kk, .ref nk, .ref nd, .ref ne, .ref nm, .ref nn, .int 0, .int 0, .int 0, .int 0, .int 0])), (nd, .inr (1, [.ref nl, .ref na, .ref ns, .int 0, .int (nI an1), .int 0]))] H := hP
    have hD : va_D A [(g, .inr (10, [.ref kk, .ref nw, .ref im, .ref kp, .ref tx, .ref tr, .ref be, .ref sh, .ref sd, .ref rf, .int ab, .int bl])), (rf, .inl (y 0, 3, .inl frf)), (nw, .inr (4, [.ref kk, .ref nk, .ref nd, .ref ne, .ref nm, .ref nn, .int 0, .int 0, .int 0, .int 0, .int 0])), (nd, .inr (1, [.ref nl, .ref na, .ref ns, .int 0, .int (nI an1), .int 0]))] := hD
    refine lv_iload_n hx hb dX10_parish_30 rfl (lv_at hl 0 rfl) ?_
    exact W.iret (v := (nI fi)) hx hb hr (fun tZ ht hW => ⟨⟨(nI fi), (), rfl, rfl, by rw [ht]; exact hP.sub [0, 1, 2, 3] rfl, hD.sub [0, 1, 2, 3] (by decide) rfl⟩, hS.F ht⟩) hS.2.2 dX10_parish_31
  · skip
    exact absurd ⟨an1, by omega, rfl⟩ h7
