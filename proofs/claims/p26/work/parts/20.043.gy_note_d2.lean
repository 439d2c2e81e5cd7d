set_option maxHeartbeats 4000000 in
set_option maxRecDepth 100000 in
theorem gy_note_d2 (l : Launch) (D : va_G) (y : Nat → ClassId) (mo : Nat) (to : Nat) (ke : Nat) (ik : Nat) (mrf : Nat) (ha : Nat) (r0 : Nat) (mbr : Nat) (mbp : Nat) (mby : Nat) (an : Nat) (va : Nat) (mab : Int64) (mbl : Int64) (bl : Nat) (ta : Nat) (tl : Nat) (tk : Nat) (vv : Int32) (frf : Nat → Int32) (ft : Nat → Int32) (fi : Nat) (gl : Nat) (mi : Nat) (no : Nat) (un : Nat) (an1 : Nat) (an2 : Nat) (an3 : Nat) (an4 : Nat) (an5 : Nat) (hk0_ : ft 0 = (nI fi)) (hk1_ : ft 1 = (nI gl)) (hk2_ : ft 2 = (nI mi)) (hk3_ : ft 3 = (nI no)) (hk4_ : ft 4 = (nI un)) (hkt : kr_t 228 ft) (hfi : fi ≤ 6) (hgl : gl ≤ 5) (hmi : mi ≤ 4) (hno : no ≤ 6) (hun : un ≤ 8) (hgf : (gl = 0 ∨ 0 < fi)) (hA2 : ¬ no = 6) (hj : no = 2) (hB0_ : an1 < fi) (hB1_ : an2 < 12) (hB2_ : an3 ≤ 60) (hB3_ : an4 < 10) (hB4_ : an5 ≤ 99) : kw_Mi l yX11_note wsX11_note ({ frames := 3, cells := 0, slots := 0, locals := 106 }) D y [.ref mo, .int (nI an1), .int (nI an2), .int (nI an3), .int (nI an4), .int (nI an5)] [(mo, .inr (11, [.ref to, .ref ke, .ref ik, .ref mrf, .long mab, .long mbl, .ref ha, .ref r0, .ref mbr, .ref mbp, .ref mby, .int (nI bl), .int (nI ta), .int (nI tl), .int (nI tk), .int vv, .ref an, .ref va])), (mrf, .inl (y 0, 3, .inl frf)), (to, .inl (y 0, 228, .inl ft))] (fun (r : Int32) (u : Unit) => kr_t 228 (upd (upd (upd (upd (upd (upd ft 56 (nI an1)) 57 (nI an2)) 58 (nI an3)) 59 (nI an4)) 60 (nI an5)) 3 (nI 3)) ∧ (upd (upd (upd (upd (upd (upd ft 56 (nI an1)) 57 (nI an2)) 58 (nI an3)) 59 (nI an4)) 60 (nI an5)) 3 (nI 3)) 0 = (nI fi) ∧ (upd (upd (upd (upd (upd (upd ft 56 (nI an1)) 57 (nI an2)) 58 (nI an3)) 59 (nI an4)) 60 (nI an5)) 3 (nI 3)) 1 = (nI gl) ∧ (upd (upd (upd (upd (upd (upd ft 56 (nI an1)) 57 (nI an2)) 58 (nI an3)) 59 (nI an4)) 60 (nI an5)) 3 (nI 3)) 2 = (nI mi) ∧ (upd (upd (upd (upd (upd (upd ft 56 (nI an1)) 57 (nI an2)) 58 (nI an3)) 59 (nI an4)) 60 (nI an5)) 3 (nI 3)) 3 = (nI (no + 1)) ∧ (upd (upd (upd (upd (upd (upd ft 56 (nI an1)) 57 (nI an2)) 58 (nI an3)) 59 (nI an4)) 60 (nI an5)) 3 (nI 3)) 4 = (nI un) ∧ (gl = 0 ∨ 0 < fi) ∧ r = (nI (no + 1))) (fun _ => [(mo, .inr (11, [.ref to, .ref ke, .ref ik, .ref mrf, .long mab, .long mbl, .ref ha, .ref r0, .ref mbr, .ref mbp, .ref mby, .int (nI bl), .int (nI ta), .int (nI tl), .int (nI tk), .int vv, .ref an, .ref va])), (mrf, .inl (y 0, 3, .inl frf)), (to, .inl (y 0, 228, .inl (upd (upd (upd (upd (upd (upd ft 56 (nI an1)) 57 (nI an2)) 58 (nI an3)) 59 (nI an4)) 60 (nI an5)) 3 (nI 3))))]) 0 0 := by
  refine kw_Mi.of (cc := cX11_note) (maxL := 7) (ret := (some .int)) (by decide) rfl ?_
  intro pZ eZ s mZ beZ meZ cZ A hE
  obtain ⟨hx, hb, hr, hml, hts, hown, hlocks, hin, hA, hP, hD, hK, hN⟩ := hE
  have hS : va_S A s.heap s.heap [] := va_S.rf
  have hl := lv_entry ([.ref mo, .int (nI an1), .int (nI an2), .int (nI an3), .int (nI an4), .int (nI an5)]) (n := 7) (Nat.le_of_ble_eq_true rfl)
  rw [lg_entry_eq]
  generalize (lg_sl ([.ref mo, .int (nI an1), .int (nI an2), .int (nI an3), .int (nI an4), .int (nI an5)]) ++ List.replicate (7 - (lg_sl ([.ref mo, .int (nI an1), .int (nI an2), .int (nI an3), .int (nI an4), .int (nI an5)])).length) Slot.unset).toArray = ls at hl ⊢
  have hl : lv_has ls 7 [(0, .ref mo), (1, .int (nI an1)), (2, .int (nI an2)), (3, .int (nI an3)), (4, .int (nI an4)), (5, .int (nI an5))] := hl
  have fw1 := hts (.constantLong RX11 174 (99)) (List.mem_of_getElem? (i := 1) rfl)
  have fw2 := hts (.fieldLink RX11 7 "GleanDuskModel" "told" "[I") (List.mem_of_getElem? (i := 2) rfl)
  have iw11 : ∀ w ∈ wsX110, w ∈ wsX11_note := fun _ h => List.mem_cons_of_mem _ (List.mem_append_right _ h)
  obtain rfl : no = 2 := by omega
  refine lv_aload_n hx hb dX11_note_0 rfl (lv_at hl 0 rfl) ?_
  refine lv_iload_n hx hb dX11_note_1 rfl (lv_at hl 1 rfl) ?_
  have hs1 : kw_Split [(mo, .inr (11, [.ref to, .ref ke, .ref ik, .ref mrf, .long mab, .long mbl, .ref ha, .ref r0, .ref mbr, .ref mbp, .ref mby, .int (nI bl), .int (nI ta), .int (nI tl), .int (nI tk), .int vv, .ref an, .ref va])), (mrf, .inl (y 0, 3, .inl frf)), (to, .inl (y 0, 228, .inl ft))] [(mo, .inr (11, [.ref to, .ref ke, .ref ik, .ref mrf, .long mab, .long mbl, .ref ha, .ref r0, .ref mbr, .ref mbp, .ref mby, .int (nI bl), .int (nI ta), .int (nI tl), .int (nI tk), .int vv, .ref an, .ref va])), (to, .inl (y 0, 228, .inl ft))] [(mrf, .inl (y 0, 3, .inl frf))] [0, 2] [1] := ⟨rfl, rfl, rfl, rfl, rfl, by decide⟩
  refine kw_go_i hs1 hP hD hS hA (va_runV (As := [.int (nI an1)]) (rest := []) ⟨hx, hb, hml, hown, hts⟩ (gr_isField l D y mo to ke ik mrf ha r0 mbr mbp mby an va mab mbl bl ta tl tk vv ft fi gl mi 2 un (nI an1) hk0_ hk1_ hk2_ hk3_ hk4_ hkt hfi hgl hmi hno hun _) (cwV 1 hts gX11_note_X11_isField rfl rfl rfl (by decide +kernel) ⟨Nat.le_of_ble_eq_true rfl, Nat.le_of_ble_eq_true rfl⟩) (kw_PreV (ci := 11) (q0 := 0) hs1 hP hD hK hN rfl rfl) rfl rfl hl.1 rfl (lv_room (Nat.le_of_ble_eq_true rfl)) dX11_note_2 ⟨Nat.le_of_ble_eq_true rfl, Nat.le_of_ble_eq_true rfl⟩) (fun r2 u3 H locs hq hP hD hS => ?_)
  rcases hq with ⟨j4, h5, h6, rfl⟩ | ⟨h7, rfl⟩
  · skip
    have h6 : an1 = j4 := (nI_eq (a := an1) (b := j4) (by omega) (by omega)).mp h6
    have hP : va_P D vwCl [(mrf, .inl (y 0, 3, .inl frf)), (mo, .inr (11, [.ref to, .ref ke, .ref ik, .ref mrf, .long mab, .long mbl, .ref ha, .ref r0, .ref mbr, .ref mbp, .ref mby, .int (nI bl), .int (nI ta), .int (nI tl), .int (nI tk), .int vv, .ref an, .ref va])), (to, .inl (y 0, 228, .inl ft))] H := hP
    have hD : va_D A [(mrf, .inl (y 0, 3, .inl frf)), (mo, .inr (11, [.ref to, .ref ke, .ref ik, .ref mrf, .long mab, .long mbl, .ref ha, .ref r0, .ref mbr, .ref mbp, .ref mby, .int (nI bl), .int (nI ta), .int (nI tl), .int (nI tk), .int vv, .ref an, .ref va])), (to, .inl (y 0, 228, .inl ft))] := hD
    refine lv_if_eq (tgt := 43) hx hb dX11_note_5 (by decide) (fun h9 => absurd h9 (by decide)) (fun _ => ?_)
    refine lv_iload_n hx hb dX11_note_8 rfl (lv_at hl 2 rfl) ?_
    have hs8 : kw_Split [(mrf, .inl (y 0, 3, .inl frf)), (mo, .inr (11, [.ref to, .ref ke, .ref ik, .ref mrf, .long mab, .long mbl, .ref ha, .ref r0, .ref mbr, .ref mbp, .ref mby, .int (nI bl), .int (nI ta), .int (nI tl), .int (nI tk), .int vv, .ref an, .ref va])), (to, .inl (y 0, 228, .inl ft))] [] [(mrf, .inl (y 0, 3, .inl frf)), (mo, .inr (11, [.ref to, .ref ke, .ref ik, .ref mrf, .long mab, .long mbl, .ref ha, .ref r0, .ref mbr, .ref mbp, .ref mby, .int (nI bl), .int (nI ta), .int (nI tl), .int (nI tk), .int vv, .ref an, .ref va])), (to, .inl (y 0, 228, .inl ft))] [] [0, 1, 2] := ⟨rfl, rfl, rfl, rfl, rfl, by decide⟩
    refine kw_go_i hs8 hP hD hS hA (va_runS (As := [.int (nI an2)]) (rest := []) ⟨hx, hb, hml, hown, hts⟩ (gr_isStep l D y (nI an2)  _) (va_cwS 1 hts gX11_note_X11_isStep rfl rfl rfl (by decide +kernel) ⟨Nat.le_of_ble_eq_true rfl, Nat.le_of_ble_eq_true rfl⟩) (kw_PreS hs8 hP hD hK hN) rfl rfl hl.1 rfl (lv_room (Nat.le_of_ble_eq_true rfl)) dX11_note_9 ⟨Nat.le_of_ble_eq_true rfl, Nat.le_of_ble_eq_true rfl⟩) (fun r9 u10 H locs hq hP hD hS => ?_)
    rcases hq with ⟨j11, h12, h13, rfl⟩ | ⟨h14, rfl⟩
    · skip
      have h13 : an2 = j11 := (nI_eq (a := an2) (b := j11) (by omega) (by omega)).mp h13
      have hP : va_P D vwCl [(mrf, .inl (y 0, 3, .inl frf)), (mo, .inr (11, [.ref to, .ref ke, .ref ik, .ref mrf, .long mab, .long mbl, .ref ha, .ref r0, .ref mbr, .ref mbp, .ref mby, .int (nI bl), .int (nI ta), .int (nI tl), .int (nI tk), .int vv, .ref an, .ref va])), (to, .inl (y 0, 228, .inl ft))] H := hP
      have hD : va_D A [(mrf, .inl (y 0, 3, .inl frf)), (mo, .inr (11, [.ref to, .ref ke, .ref ik, .ref mrf, .long mab, .long mbl, .ref ha, .ref r0, .ref mbr, .ref mbp, .ref mby, .int (nI bl), .int (nI ta), .int (nI tl), .int (nI tk), .int vv, .ref an, .ref va])), (to, .inl (y 0, 228, .inl ft))] := hD
      refine lv_if_eq (tgt := 43) hx hb dX11_note_12 (by decide) (fun h9 => absurd h9 (by decide)) (fun _ => ?_)
      refine lv_iload_n hx hb dX11_note_15 rfl (lv_at hl 3 rfl) ?_
      have hs15 : kw_Split [(mrf, .inl (y 0, 3, .inl frf)), (mo, .inr (11, [.ref to, .ref ke, .ref ik, .ref mrf, .long mab, .long mbl, .ref ha, .ref r0, .ref mbr, .ref mbp, .ref mby, .int (nI bl), .int (nI ta), .int (nI tl), .int (nI tk), .int vv, .ref an, .ref va])), (to, .inl (y 0, 228, .inl ft))] [] [(mrf, .inl (y 0, 3, .inl frf)), (mo, .inr (11, [.ref to, .ref ke, .ref ik, .ref mrf, .long mab, .long mbl, .ref ha, .ref r0, .ref mbr, .ref mbp, .ref mby, .int (nI bl), .int (nI ta), .int (nI tl), .int (nI tk), .int vv, .ref an, .ref va])), (to, .inl (y 0, 228, .inl ft))] [] [0, 1, 2] := ⟨rfl, rfl, rfl, rfl, rfl, by decide⟩
      refine kw_go_i hs15 hP hD hS hA (va_runS (As := [.int (nI an3)]) (rest := []) ⟨hx, hb, hml, hown, hts⟩ (gr_isLight l D y (nI an3)  _) (va_cwS 1 hts gX11_note_X11_isLight rfl rfl rfl (by decide +kernel) ⟨Nat.le_of_ble_eq_true rfl, Nat.le_of_ble_eq_true rfl⟩) (kw_PreS hs15 hP hD hK hN) rfl rfl hl.1 rfl (lv_room (Nat.le_of_ble_eq_true rfl)) dX11_note_16 ⟨Nat.le_of_ble_eq_true rfl, Nat.le_of_ble_eq_true rfl⟩) (fun r16 u17 H locs hq hP hD hS => ?_)
      rcases hq with ⟨j18, h19, h20, rfl⟩ | ⟨h21, rfl⟩
      · skip
        have h20 : an3 = j18 := (nI_eq (a := an3) (b := j18) (by omega) (by omega)).mp h20
        have hP : va_P D vwCl [(mrf, .inl (y 0, 3, .inl frf)), (mo, .inr (11, [.ref to, .ref ke, .ref ik, .ref mrf, .long mab, .long mbl, .ref ha, .ref r0, .ref mbr, .ref mbp, .ref mby, .int (nI bl), .int (nI ta), .int (nI tl), .int (nI tk), .int vv, .ref an, .ref va])), (to, .inl (y 0, 228, .inl ft))] H := hP
        have hD : va_D A [(mrf, .inl (y 0, 3, .inl frf)), (mo, .inr (11, [.ref to, .ref ke, .ref ik, .ref mrf, .long mab, .long mbl, .ref ha, .ref r0, .ref mbr, .ref mbp, .ref mby, .int (nI bl), .int (nI ta), .int (nI tl), .int (nI tk), .int vv, .ref an, .ref va])), (to, .inl (y 0, 228, .inl ft))] := hD
        refine lv_if_eq (tgt := 43) hx hb dX11_note_19 (by decide) (fun h9 => absurd h9 (by decide)) (fun _ => ?_)
        refine lv_iload hx hb dX11_note_22 (lv_at hl 4 rfl) ?_
        have hs22 : kw_Split [(mrf, .inl (y 0, 3, .inl frf)), (mo, .inr (11, [.ref to, .ref ke, .ref ik, .ref mrf, .long mab, .long mbl, .ref ha, .ref r0, .ref mbr, .ref mbp, .ref mby, .int (nI bl), .int (nI ta), .int (nI tl), .int (nI tk), .int vv, .ref an, .ref va])), (to, .inl (y 0, 228, .inl ft))] [] [(mrf, .inl (y 0, 3, .inl frf)), (mo, .inr (11, [.ref to, .ref ke, .ref ik, .ref mrf, .long mab, .long mbl, .ref ha, .ref r0, .ref mbr, .ref mbp, .ref mby, .int (nI bl), .int (nI ta), .int (nI tl), .int (nI tk), .int vv, .ref an, .ref va])), (to, .inl (y 0, 228, .inl ft))] [] [0, 1, 2] := ⟨rfl, rfl, rfl, rfl, rfl, by decide⟩
        refine kw_go_i hs22 hP hD hS hA (va_runS (As := [.int (nI an4)]) (rest := []) ⟨hx, hb, hml, hown, hts⟩ (gr_isCloud l D y (nI an4)  _) (va_cwS 1 hts gX11_note_X11_isCloud rfl rfl rfl (by decide +kernel) ⟨Nat.le_of_ble_eq_true rfl, Nat.le_of_ble_eq_true rfl⟩) (kw_PreS hs22 hP hD hK hN) rfl rfl hl.1 rfl (lv_room (Nat.le_of_ble_eq_true rfl)) dX11_note_24 ⟨Nat.le_of_ble_eq_true rfl, Nat.le_of_ble_eq_true rfl⟩) (fun r23 u24 H locs hq hP hD hS => ?_)
        rcases hq with ⟨j25, h26, h27, rfl⟩ | ⟨h28, rfl⟩
        · skip
          have h27 : an4 = j25 := (nI_eq (a := an4) (b := j25) (by omega) (by omega)).mp h27
          have hP : va_P D vwCl [(mrf, .inl (y 0, 3, .inl frf)), (mo, .inr (11, [.ref to, .ref ke, .ref ik, .ref mrf, .long mab, .long mbl, .ref ha, .ref r0, .ref mbr, .ref mbp, .ref mby, .int (nI bl), .int (nI ta), .int (nI tl), .int (nI tk), .int vv, .ref an, .ref va])), (to, .inl (y 0, 228, .inl ft))] H := hP
          have hD : va_D A [(mrf, .inl (y 0, 3, .inl frf)), (mo, .inr (11, [.ref to, .ref ke, .ref ik, .ref mrf, .long mab, .long mbl, .ref ha, .ref r0, .ref mbr, .ref mbp, .ref mby, .int (nI bl), .int (nI ta), .int (nI tl), .int (nI tk), .int vv, .ref an, .ref va])), (to, .inl (y 0, 228, .inl ft))] := hD
          refine lv_if_eq (tgt := 43) hx hb dX11_note_27 (by decide) (fun h9 => absurd h9 (by decide)) (fun _ => ?_)
          refine lv_iload hx hb dX11_note_30 (lv_at hl 5 rfl) ?_
          refine lv_i2l (v := (nI an5).toInt64) hx hb dX11_note_32 (rfl) ?_
          refine lv_lconst (v := 0) hx hb dX11_note_33 (by decide) ?_
          refine lv_ldc2 (v := 99) hx hb hown fw1 dX11_note_34 ?_
          have hs29 : kw_Split [(mrf, .inl (y 0, 3, .inl frf)), (mo, .inr (11, [.ref to, .ref ke, .ref ik, .ref mrf, .long mab, .long mbl, .ref ha, .ref r0, .ref mbr, .ref mbp, .ref mby, .int (nI bl), .int (nI ta), .int (nI tl), .int (nI tk), .int vv, .ref an, .ref va])), (to, .inl (y 0, 228, .inl ft))] [] [(mrf, .inl (y 0, 3, .inl frf)), (mo, .inr (11, [.ref to, .ref ke, .ref ik, .ref mrf, .long mab, .long mbl, .ref ha, .ref r0, .ref mbr, .ref mbp, .ref mby, .int (nI bl), .int (nI ta), .int (nI tl), .int (nI tk), .int vv, .ref an, .ref va])), (to, .inl (y 0, 228, .inl ft))] [] [0, 1, 2] := ⟨rfl, rfl, rfl, rfl, rfl, by decide⟩
          refine kw_go_i hs29 hP hD hS hA (va_runS (As := [.long ((nI an5).toInt64), .long 0, .long 99]) (rest := []) ⟨hx, hb, hml, hown, hts⟩ (gr_in l D y (nI an5) 0 99 (by omega) (by omega) _) (va_cwS 3 hts gX11_note_X11_in rfl rfl rfl (by decide +kernel) ⟨Nat.le_of_ble_eq_true rfl, Nat.le_of_ble_eq_true rfl⟩) (kw_PreS hs29 hP hD hK hN) rfl rfl hl.1 rfl (lv_room (Nat.le_of_ble_eq_true rfl)) dX11_note_37 ⟨Nat.le_of_ble_eq_true rfl, Nat.le_of_ble_eq_true rfl⟩) (fun r30 u31 H locs hq hP hD hS => ?_)
          rcases hq with ⟨j32, h33, h34, h35, rfl⟩ | ⟨h36, rfl⟩
          · skip
            have h35 : an5 = j32 := (nI_eq (a := an5) (b := j32) (by omega) (by omega)).mp h35
            have hP : va_P D vwCl [(mrf, .inl (y 0, 3, .inl frf)), (mo, .inr (11, [.ref to, .ref ke, .ref ik, .ref mrf, .long mab, .long mbl, .ref ha, .ref r0, .ref mbr, .ref mbp, .ref mby, .int (nI bl), .int (nI ta), .int (nI tl), .int (nI tk), .int vv, .ref an, .ref va])), (to, .inl (y 0, 228, .inl ft))] H := hP
            have hD : va_D A [(mrf, .inl (y 0, 3, .inl frf)), (mo, .inr (11, [.ref to, .ref ke, .ref ik, .ref mrf, .long mab, .long mbl, .ref ha, .ref r0, .ref mbr, .ref mbp, .ref mby, .int (nI bl), .int (nI ta), .int (nI tl), .int (nI tk), .int vv, .ref an, .ref va])), (to, .inl (y 0, 228, .inl ft))] := hD
            refine lv_if_ne (tgt := 50) hx hb dX11_note_40 (by decide) (fun _ => ?_) (fun h9 => absurd h9 (by decide))
            refine lv_aload_n hx hb dX11_note_50 rfl (lv_at hl 0 rfl) ?_
            refine va_get (D := D) (ci := 11) (v := .ref to) (C := RX11) (T := TX11) (N := 18) hx hb hts iw11 hown hK hP 1 rfl rfl 0 (by decide) fw2 (fun _ h9 => h9) rfl dX11_note_51 ?_
            refine lv_iconst (v := 3) hx hb dX11_note_54 (by decide) ?_
            refine va_iald hx hb hK hP 2 0 rfl rfl (by unfold vp_in; decide) dX11_note_55 ?_
            rw [show ((3 : Int32)).toNatClampNeg = 3 from rfl]
            rw [show (ft 3) = (nI 2) from hk3_]
            refine lv_bipush (v := 6) hx hb dX11_note_56 (by decide) ?_
            refine lv_icmp_ne (tgt := 66) hx hb dX11_note_58 (by decide) (fun h37 => ?_) (fun h38 => ?_)
            · skip
              have h37 : ¬ 2 = 6 := fun q9 => h37 ((nI_eq (a := 2) (b := 6) (by omega) (by omega)).mpr q9)
              refine lv_bipush (v := 46) hx hb dX11_note_66 (by decide) ?_
              refine lv_iconst (v := 5) hx hb dX11_note_68 (by decide) ?_
              refine lv_aload_n hx hb dX11_note_69 rfl (lv_at hl 0 rfl) ?_
              refine va_get (D := D) (ci := 11) (v := .ref to) (C := RX11) (T := TX11) (N := 18) hx hb hts iw11 hown hK hP 1 rfl rfl 0 (by decide) fw2 (fun _ h9 => h9) rfl dX11_note_70 ?_
              refine lv_iconst (v := 3) hx hb dX11_note_73 (by decide) ?_
              refine va_iald hx hb hK hP 2 0 rfl rfl (by unfold vp_in; decide) dX11_note_74 ?_
              rw [show ((3 : Int32)).toNatClampNeg = 3 from rfl]
              rw [show (ft 3) = (nI 2) from hk3_]
              refine lv_imul hx hb dX11_note_75 ?_
              rw [show 5 * (nI 2) = nI (10) from pk_mul 5 2]
              refine lv_iadd hx hb dX11_note_76 ?_
              rw [show 46 + (nI 10) = nI (56) from nI_add 46 10]
              refine lv_istore (lv' := [(6, .int (nI 56)), (0, .ref mo), (1, .int (nI an1)), (2, .int (nI an2)), (3, .int (nI an3)), (4, .int (nI an4)), (5, .int (nI an5))]) hx hb dX11_note_77 hl (by decide) rfl (fun ls hl => ?_)
              refine lv_aload_n hx hb dX11_note_79 rfl (lv_at hl 1 rfl) ?_
              refine va_get (D := D) (ci := 11) (v := .ref to) (C := RX11) (T := TX11) (N := 18) hx hb hts iw11 hown hK hP 1 rfl rfl 0 (by decide) fw2 (fun _ h9 => h9) rfl dX11_note_80 ?_
              refine lv_iload hx hb dX11_note_83 (lv_at hl 0 rfl) ?_
              refine lv_iload_n hx hb dX11_note_85 rfl (lv_at hl 2 rfl) ?_
              refine va_iast hx hb hK hP hD hS 2 0 rfl rfl (vp_in_nI (by omega) (by decide)) dX11_note_86 (fun H locs hP hD hS => ?_)
              rw [nI_clamp (n := 56) (by omega)] at hP hD
              have hr39 : kr_t 228 (upd ft 56 (nI an1)) := kr_up hkt (kr_free (by unfold kr_a; omega) (by unfold kr_s; omega))
              have hk40 : (upd ft 56 (nI an1)) 0 = (nI fi) := (pk_un (by decide)).trans hk0_
              have hk41 : (upd ft 56 (nI an1)) 1 = (nI gl) := (pk_un (by decide)).trans hk1_
              have hk42 : (upd ft 56 (nI an1)) 2 = (nI mi) := (pk_un (by decide)).trans hk2_
              have hk43 : (upd ft 56 (nI an1)) 3 = (nI 2) := (pk_un (by decide)).trans hk3_
              have hk44 : (upd ft 56 (nI an1)) 4 = (nI un) := (pk_un (by decide)).trans hk4_
              have hP : va_P D vwCl [(mrf, .inl (y 0, 3, .inl frf)), (mo, .inr (11, [.ref to, .ref ke, .ref ik, .ref mrf, .long mab, .long mbl, .ref ha, .ref r0, .ref mbr, .ref mbp, .ref mby, .int (nI bl), .int (nI ta), .int (nI tl), .int (nI tk), .int vv, .ref an, .ref va])), (to, .inl (y 0, 228, .inl (upd ft 56 (nI an1))))] H := hP
              have hD : va_D A [(mrf, .inl (y 0, 3, .inl frf)), (mo, .inr (11, [.ref to, .ref ke, .ref ik, .ref mrf, .long mab, .long mbl, .ref ha, .ref r0, .ref mbr, .ref mbp, .ref mby, .int (nI bl), .int (nI ta), .int (nI tl), .int (nI tk), .int vv, .ref an, .ref va])), (to, .inl (y 0, 228, .inl (upd ft 56 (nI an1))))] := hD
              refine lv_aload_n hx hb dX11_note_87 rfl (lv_at hl 1 rfl) ?_
              refine va_get (D := D) (ci := 11) (v := .ref to) (C := RX11) (T := TX11) (N := 18) hx hb hts iw11 hown hK hP 1 rfl rfl 0 (by decide) fw2 (fun _ h9 => h9) rfl dX11_note_88 ?_
              refine lv_iload hx hb dX11_note_91 (lv_at hl 0 rfl) ?_
              refine lv_iconst (v := 1) hx hb dX11_note_93 (by decide) ?_
              refine lv_iadd hx hb dX11_note_94 ?_
              rw [show (nI 56) + 1 = nI (57) from nI_add 56 1]
              refine lv_iload_n hx hb dX11_note_95 rfl (lv_at hl 3 rfl) ?_
              refine va_iast hx hb hK hP hD hS 2 0 rfl rfl (vp_in_nI (by omega) (by decide)) dX11_note_96 (fun H locs hP hD hS => ?_)
              rw [nI_clamp (n := 57) (by omega)] at hP hD
              have hr45 : kr_t 228 (upd (upd ft 56 (nI an1)) 57 (nI an2)) := kr_up hr39 (kr_free (by unfold kr_a; omega) (by unfold kr_s; omega))
              have hk46 : (upd (upd ft 56 (nI an1)) 57 (nI an2)) 0 = (nI fi) := (pk_un (by decide)).trans hk40
              have hk47 : (upd (upd ft 56 (nI an1)) 57 (nI an2)) 1 = (nI gl) := (pk_un (by decide)).trans hk41
              have hk48 : (upd (upd ft 56 (nI an1)) 57 (nI an2)) 2 = (nI mi) := (pk_un (by decide)).trans hk42
              have hk49 : (upd (upd ft 56 (nI an1)) 57 (nI an2)) 3 = (nI 2) := (pk_un (by decide)).trans hk43
              have hk50 : (upd (upd ft 56 (nI an1)) 57 (nI an2)) 4 = (nI un) := (pk_un (by decide)).trans hk44
              have hP : va_P D vwCl [(mrf, .inl (y 0, 3, .inl frf)), (mo, .inr (11, [.ref to, .ref ke, .ref ik, .ref mrf, .long mab, .long mbl, .ref ha, .ref r0, .ref mbr, .ref mbp, .ref mby, .int (nI bl), .int (nI ta), .int (nI tl), .int (nI tk), .int vv, .ref an, .ref va])), (to, .inl (y 0, 228, .inl (upd (upd ft 56 (nI an1)) 57 (nI an2))))] H := hP
              have hD : va_D A [(mrf, .inl (y 0, 3, .inl frf)), (mo, .inr (11, [.ref to, .ref ke, .ref ik, .ref mrf, .long mab, .long mbl, .ref ha, .ref r0, .ref mbr, .ref mbp, .ref mby, .int (nI bl), .int (nI ta), .int (nI tl), .int (nI tk), .int vv, .ref an, .ref va])), (to, .inl (y 0, 228, .inl (upd (upd ft 56 (nI an1)) 57 (nI an2))))] := hD
              refine lv_aload_n hx hb dX11_note_97 rfl (lv_at hl 1 rfl) ?_
              refine va_get (D := D) (ci := 11) (v := .ref to) (C := RX11) (T := TX11) (N := 18) hx hb hts iw11 hown hK hP 1 rfl rfl 0 (by decide) fw2 (fun _ h9 => h9) rfl dX11_note_98 ?_
              refine lv_iload hx hb dX11_note_101 (lv_at hl 0 rfl) ?_
              refine lv_iconst (v := 2) hx hb dX11_note_103 (by decide) ?_
              refine lv_iadd hx hb dX11_note_104 ?_
              rw [show (nI 56) + 2 = nI (58) from nI_add 56 2]
              refine lv_iload_n hx hb dX11_note_105 rfl (lv_at hl 4 rfl) ?_
              refine va_iast hx hb hK hP hD hS 2 0 rfl rfl (vp_in_nI (by omega) (by decide)) dX11_note_106 (fun H locs hP hD hS => ?_)
              rw [nI_clamp (n := 58) (by omega)] at hP hD
              have hr51 : kr_t 228 (upd (upd (upd ft 56 (nI an1)) 57 (nI an2)) 58 (nI an3)) := kr_up hr45 (kr_free (by unfold kr_a; omega) (by unfold kr_s; omega))
              have hk52 : (upd (upd (upd ft 56 (nI an1)) 57 (nI an2)) 58 (nI an3)) 0 = (nI fi) := (pk_un (by decide)).trans hk46
              have hk53 : (upd (upd (upd ft 56 (nI an1)) 57 (nI an2)) 58 (nI an3)) 1 = (nI gl) := (pk_un (by decide)).trans hk47
              have hk54 : (upd (upd (upd ft 56 (nI an1)) 57 (nI an2)) 58 (nI an3)) 2 = (nI mi) := (pk_un (by decide)).trans hk48
              have hk55 : (upd (upd (upd ft 56 (nI an1)) 57 (nI an2)) 58 (nI an3)) 3 = (nI 2) := (pk_un (by decide)).trans hk49
              have hk56 : (upd (upd (upd ft 56 (nI an1)) 57 (nI an2)) 58 (nI an3)) 4 = (nI un) := (pk_un (by decide)).trans hk50
              have hP : va_P D vwCl [(mrf, .inl (y 0, 3, .inl frf)), (mo, .inr (11, [.ref to, .ref ke, .ref ik, .ref mrf, .long mab, .long mbl, .ref ha, .ref r0, .ref mbr, .ref mbp, .ref mby, .int (nI bl), .int (nI ta), .int (nI tl), .int (nI tk), .int vv, .ref an, .ref va])), (to, .inl (y 0, 228, .inl (upd (upd (upd ft 56 (nI an1)) 57 (nI an2)) 58 (nI an3))))] H := hP
              have hD : va_D A [(mrf, .inl (y 0, 3, .inl frf)), (mo, .inr (11, [.ref to, .ref ke, .ref ik, .ref mrf, .long mab, .long mbl, .ref ha, .ref r0, .ref mbr, .ref mbp, .ref mby, .int (nI bl), .int (nI ta), .int (nI tl), .int (nI tk), .int vv, .ref an, .ref va])), (to, .inl (y 0, 228, .inl (upd (upd (upd ft 56 (nI an1)) 57 (nI an2)) 58 (nI an3))))] := hD
              refine lv_aload_n hx hb dX11_note_107 rfl (lv_at hl 1 rfl) ?_
              refine va_get (D := D) (ci := 11) (v := .ref to) (C := RX11) (T := TX11) (N := 18) hx hb hts iw11 hown hK hP 1 rfl rfl 0 (by decide) fw2 (fun _ h9 => h9) rfl dX11_note_108 ?_
              refine lv_iload hx hb dX11_note_111 (lv_at hl 0 rfl) ?_
              refine lv_iconst (v := 3) hx hb dX11_note_113 (by decide) ?_
              refine lv_iadd hx hb dX11_note_114 ?_
              rw [show (nI 56) + 3 = nI (59) from nI_add 56 3]
              refine lv_iload hx hb dX11_note_115 (lv_at hl 5 rfl) ?_
              refine va_iast hx hb hK hP hD hS 2 0 rfl rfl (vp_in_nI (by omega) (by decide)) dX11_note_117 (fun H locs hP hD hS => ?_)
              rw [nI_clamp (n := 59) (by omega)] at hP hD
              have hr57 : kr_t 228 (upd (upd (upd (upd ft 56 (nI an1)) 57 (nI an2)) 58 (nI an3)) 59 (nI an4)) := kr_up hr51 (kr_free (by unfold kr_a; omega) (by unfold kr_s; omega))
              have hk58 : (upd (upd (upd (upd ft 56 (nI an1)) 57 (nI an2)) 58 (nI an3)) 59 (nI an4)) 0 = (nI fi) := (pk_un (by decide)).trans hk52
              have hk59 : (upd (upd (upd (upd ft 56 (nI an1)) 57 (nI an2)) 58 (nI an3)) 59 (nI an4)) 1 = (nI gl) := (pk_un (by decide)).trans hk53
              have hk60 : (upd (upd (upd (upd ft 56 (nI an1)) 57 (nI an2)) 58 (nI an3)) 59 (nI an4)) 2 = (nI mi) := (pk_un (by decide)).trans hk54
              have hk61 : (upd (upd (upd (upd ft 56 (nI an1)) 57 (nI an2)) 58 (nI an3)) 59 (nI an4)) 3 = (nI 2) := (pk_un (by decide)).trans hk55
              have hk62 : (upd (upd (upd (upd ft 56 (nI an1)) 57 (nI an2)) 58 (nI an3)) 59 (nI an4)) 4 = (nI un) := (pk_un (by decide)).trans hk56
              have hP : va_P D vwCl [(mrf, .inl (y 0, 3, .inl frf)), (mo, .inr (11, [.ref to, .ref ke, .ref ik, .ref mrf, .long mab, .long mbl, .ref ha, .ref r0, .ref mbr, .ref mbp, .ref mby, .int (nI bl), .int (nI ta), .int (nI tl), .int (nI tk), .int vv, .ref an, .ref va])), (to, .inl (y 0, 228, .inl (upd (upd (upd (upd ft 56 (nI an1)) 57 (nI an2)) 58 (nI an3)) 59 (nI an4))))] H := hP
              have hD : va_D A [(mrf, .inl (y 0, 3, .inl frf)), (mo, .inr (11, [.ref to, .ref ke, .ref ik, .ref mrf, .long mab, .long mbl, .ref ha, .ref r0, .ref mbr, .ref mbp, .ref mby, .int (nI bl), .int (nI ta), .int (nI tl), .int (nI tk), .int vv, .ref an, .ref va])), (to, .inl (y 0, 228, .inl (upd (upd (upd (upd ft 56 (nI an1)) 57 (nI an2)) 58 (nI an3)) 59 (nI an4))))] := hD
              refine lv_aload_n hx hb dX11_note_118 rfl (lv_at hl 1 rfl) ?_
              refine va_get (D := D) (ci := 11) (v := .ref to) (C := RX11) (T := TX11) (N := 18) hx hb hts iw11 hown hK hP 1 rfl rfl 0 (by decide) fw2 (fun _ h9 => h9) rfl dX11_note_119 ?_
              refine lv_iload hx hb dX11_note_122 (lv_at hl 0 rfl) ?_
              refine lv_iconst (v := 4) hx hb dX11_note_124 (by decide) ?_
              refine lv_iadd hx hb dX11_note_125 ?_
              rw [show (nI 56) + 4 = nI (60) from nI_add 56 4]
              refine lv_iload hx hb dX11_note_126 (lv_at hl 6 rfl) ?_
              refine va_iast hx hb hK hP hD hS 2 0 rfl rfl (vp_in_nI (by omega) (by decide)) dX11_note_128 (fun H locs hP hD hS => ?_)
              rw [nI_clamp (n := 60) (by omega)] at hP hD
              have hr63 : kr_t 228 (upd (upd (upd (upd (upd ft 56 (nI an1)) 57 (nI an2)) 58 (nI an3)) 59 (nI an4)) 60 (nI an5)) := kr_up hr57 (kr_free (by unfold kr_a; omega) (by unfold kr_s; omega))
              have hk64 : (upd (upd (upd (upd (upd ft 56 (nI an1)) 57 (nI an2)) 58 (nI an3)) 59 (nI an4)) 60 (nI an5)) 0 = (nI fi) := (pk_un (by decide)).trans hk58
              have hk65 : (upd (upd (upd (upd (upd ft 56 (nI an1)) 57 (nI an2)) 58 (nI an3)) 59 (nI an4)) 60 (nI an5)) 1 = (nI gl) := (pk_un (by decide)).trans hk59
              have hk66 : (upd (upd (upd (upd (upd ft 56 (nI an1)) 57 (nI an2)) 58 (nI an3)) 59 (nI an4)) 60 (nI an5)) 2 = (nI mi) := (pk_un (by decide)).trans hk60
              have hk67 : (upd (upd (upd (upd (upd ft 56 (nI an1)) 57 (nI an2)) 58 (nI an3)) 59 (nI an4)) 60 (nI an5)) 3 = (nI 2) := (pk_un (by decide)).trans hk61
              have hk68 : (upd (upd (upd (upd (upd ft 56 (nI an1)) 57 (nI an2)) 58 (nI an3)) 59 (nI an4)) 60 (nI an5)) 4 = (nI un) := (pk_un (by decide)).trans hk62
              have hP : va_P D vwCl [(mrf, .inl (y 0, 3, .inl frf)), (mo, .inr (11, [.ref to, .ref ke, .ref ik, .ref mrf, .long mab, .long mbl, .ref ha, .ref r0, .ref mbr, .ref mbp, .ref mby, .int (nI bl), .int (nI ta), .int (nI tl), .int (nI tk), .int vv, .ref an, .ref va])), (to, .inl (y 0, 228, .inl (upd (upd (upd (upd (upd ft 56 (nI an1)) 57 (nI an2)) 58 (nI an3)) 59 (nI an4)) 60 (nI an5))))] H := hP
              have hD : va_D A [(mrf, .inl (y 0, 3, .inl frf)), (mo, .inr (11, [.ref to, .ref ke, .ref ik, .ref mrf, .long mab, .long mbl, .ref ha, .ref r0, .ref mbr, .ref mbp, .ref mby, .int (nI bl), .int (nI ta), .int (nI tl), .int (nI tk), .int vv, .ref an, .ref va])), (to, .inl (y 0, 228, .inl (upd (upd (upd (upd (upd ft 56 (nI an1)) 57 (nI an2)) 58 (nI an3)) 59 (nI an4)) 60 (nI an5))))] := hD
              refine lv_aload_n hx hb dX11_note_129 rfl (lv_at hl 1 rfl) ?_
              refine va_get (D := D) (ci := 11) (v := .ref to) (C := RX11) (T := TX11) (N := 18) hx hb hts iw11 hown hK hP 1 rfl rfl 0 (by decide) fw2 (fun _ h9 => h9) rfl dX11_note_130 ?_
              refine lv_iconst (v := 3) hx hb dX11_note_133 (by decide) ?_
              refine lv_dup2_11 hx hb dX11_note_134 rfl rfl ?_
              refine va_iald hx hb hK hP 2 0 rfl rfl (by unfold vp_in; decide) dX11_note_135 ?_
              rw [show ((3 : Int32)).toNatClampNeg = 3 from rfl]
              rw [show ((upd (upd (upd (upd (upd ft 56 (nI an1)) 57 (nI an2)) 58 (nI an3)) 59 (nI an4)) 60 (nI an5)) 3) = (nI 2) from hk67]
              refine lv_iconst (v := 1) hx hb dX11_note_136 (by decide) ?_
              refine lv_iadd hx hb dX11_note_137 ?_
              rw [show (nI 2) + 1 = nI (3) from nI_add 2 1]
              refine va_iast hx hb hK hP hD hS 2 0 rfl rfl (by unfold vp_in; decide) dX11_note_138 (fun H locs hP hD hS => ?_)
              rw [show ((3 : Int32)).toNatClampNeg = 3 from rfl] at hP hD
              have hr69 : kr_t 228 (upd (upd (upd (upd (upd (upd ft 56 (nI an1)) 57 (nI an2)) 58 (nI an3)) 59 (nI an4)) 60 (nI an5)) 3 (nI 3)) := kr_up hr63 (kr_free (by unfold kr_a; omega) (by unfold kr_s; omega))
              have hk70 : (upd (upd (upd (upd (upd (upd ft 56 (nI an1)) 57 (nI an2)) 58 (nI an3)) 59 (nI an4)) 60 (nI an5)) 3 (nI 3)) 0 = (nI fi) := (pk_un (by decide)).trans hk64
              have hk71 : (upd (upd (upd (upd (upd (upd ft 56 (nI an1)) 57 (nI an2)) 58 (nI an3)) 59 (nI an4)) 60 (nI an5)) 3 (nI 3)) 1 = (nI gl) := (pk_un (by decide)).trans hk65
              have hk72 : (upd (upd (upd (upd (upd (upd ft 56 (nI an1)) 57 (nI an2)) 58 (nI an3)) 59 (nI an4)) 60 (nI an5)) 3 (nI 3)) 2 = (nI mi) := (pk_un (by decide)).trans hk66
              have hk73 : (upd (upd (upd (upd (upd (upd ft 56 (nI an1)) 57 (nI an2)) 58 (nI an3)) 59 (nI an4)) 60 (nI an5)) 3 (nI 3)) 4 = (nI un) := (pk_un (by decide)).trans hk68
              have hk74 : (upd (upd (upd (upd (upd (upd ft 56 (nI an1)) 57 (nI an2)) 58 (nI an3)) 59 (nI an4)) 60 (nI an5)) 3 (nI 3)) 3 = (nI 3) := pk_us
              have hP : va_P D vwCl [(mrf, .inl (y 0, 3, .inl frf)), (mo, .inr (11, [.ref to, .ref ke, .ref ik, .ref mrf, .long mab, .long mbl, .ref ha, .ref r0, .ref mbr, .ref mbp, .ref mby, .int (nI bl), .int (nI ta), .int (nI tl), .int (nI tk), .int vv, .ref an, .ref va])), (to, .inl (y 0, 228, .inl (upd (upd (upd (upd (upd (upd ft 56 (nI an1)) 57 (nI an2)) 58 (nI an3)) 59 (nI an4)) 60 (nI an5)) 3 (nI 3))))] H := hP
              have hD : va_D A [(mrf, .inl (y 0, 3, .inl frf)), (mo, .inr (11, [.ref to, .ref ke, .ref ik, .ref mrf, .long mab, .long mbl, .ref ha, .ref r0, .ref mbr, .ref mbp, .ref mby, .int (nI bl), .int (nI ta), .int (nI tl), .int (nI tk), .int vv, .ref an, .ref va])), (to, .inl (y 0, 228, .inl (upd (upd (upd (upd (upd (upd ft 56 (nI an1)) 57 (nI an2)) 58 (nI an3)) 59 (nI an4)) 60 (nI an5)) 3 (nI 3))))] := hD
              refine lv_aload_n hx hb dX11_note_139 rfl (lv_at hl 1 rfl) ?_
              refine va_get (D := D) (ci := 11) (v := .ref to) (C := RX11) (T := TX11) (N := 18) hx hb hts iw11 hown hK hP 1 rfl rfl 0 (by decide) fw2 (fun _ h9 => h9) rfl dX11_note_140 ?_
              refine lv_iconst (v := 3) hx hb dX11_note_143 (by decide) ?_
              refine va_iald hx hb hK hP 2 0 rfl rfl (by unfold vp_in; decide) dX11_note_144 ?_
              rw [show ((3 : Int32)).toNatClampNeg = 3 from rfl]
              rw [show ((upd (upd (upd (upd (upd (upd ft 56 (nI an1)) 57 (nI an2)) 58 (nI an3)) 59 (nI an4)) 60 (nI an5)) 3 (nI 3)) 3) = (nI 3) from hk74]
              exact W.iret (v := (nI 3)) hx hb hr (fun tZ ht hW => ⟨⟨(nI 3), (), rfl, ⟨hr69, hk70, hk71, hk72, hk74, hk73, by first | omega | (dsimp only; omega), rfl⟩, by rw [ht]; exact hP.sub [1, 0, 2] rfl, hD.sub [1, 0, 2] (by decide) rfl⟩, hS.F ht⟩) hS.2.2 dX11_note_145
            · skip
              have h38 : 2 = 6 := (nI_eq (a := 2) (b := 6) (by omega) (by omega)).mp h38
              exact absurd h38 (by omega)
          · skip
            exact absurd ⟨an5, by omega, by omega, rfl⟩ h36
        · skip
          exact absurd ⟨an4, by omega, by omega, rfl⟩ h28
      · skip
        exact absurd ⟨an3, by omega, by omega, rfl⟩ h21
    · skip
      exact absurd ⟨an2, by omega, by omega, rfl⟩ h14
  · skip
    exact absurd ⟨an1, by omega, rfl⟩ h7

set_option maxHeartbeats 4000000 in
set_option maxRecDepth 100000 in
theorem gd_addNote3 (l : Launch) (D : va_G) (y : Nat → ClassId) (nw : Nat) (kk : Nat) (nk : Nat) (nd : Nat) (ne : Nat) (nm : Nat) (nn : Nat) (fi : Nat) (gl : Nat) (un : Nat) (mi : Nat) (no : Nat) (t0 : Nat) (t1 : Nat) (t2 : Nat) (t3 : Nat) (t4 : Nat) (t5 : Nat) (t0f : Nat → Int32) (t1f : Nat → Int32) (t2f : Nat → Int32) (t3f : Nat → Int32) (t4f : Nat → Int32) (t5f : Nat → Int32) (fn_ : Nat → Option Nat) (x0 : Int32) (x : Int32) (x2 : Int32) (x3 : Int32) (x4 : Int32) (hfi : fi ≤ 6) (hgl : gl ≤ 5) (hun : un ≤ 8) (hmi : mi ≤ 4) (hno : no ≤ 6) (hn0 : fn_ 0 = some t0) (hn1 : fn_ 1 = some t1) (hn2 : fn_ 2 = some t2) (hn3 : fn_ 3 = some t3) (hn4 : fn_ 4 = some t4) (hn5 : fn_ 5 = some t5) (hj : no = 3) : kw_Mi l yX4_addNote wsX4_addNote ({ frames := 1, cells := 0, slots := 0, locals := 60 }) D y [.ref nw, .int x0, .int x, .int x2, .int x3, .int x4] [(nw, .inr (4, [.ref kk, .ref nk, .ref nd, .ref ne, .ref nm, .ref nn, .int (nI fi), .int (nI gl), .int (nI un), .int (nI mi), .int (nI no)])), (nn, .inl (y 6, 6, .inr (.inr (.inr (.inr fn_))))), (t0, .inl (y 0, 5, .inl t0f)), (t1, .inl (y 0, 5, .inl t1f)), (t2, .inl (y 0, 5, .inl t2f)), (t3, .inl (y 0, 5, .inl t3f)), (t4, .inl (y 0, 5, .inl t4f)), (t5, .inl (y 0, 5, .inl t5f))] (fun (r : Int32) (u : Unit) => r = (nI (no + 1))) (fun _ => [(nw, .inr (4, [.ref kk, .ref nk, .ref nd, .ref ne, .ref nm, .ref nn, .int (nI fi), .int (nI gl), .int (nI un), .int (nI mi), .int (nI (no + 1))])), (nn, .inl (y 6, 6, .inr (.inr (.inr (.inr fn_))))), (t0, .inl (y 0, 5, .inl t0f)), (t1, .inl (y 0, 5, .inl t1f)), (t2, .inl (y 0, 5, .inl t2f)), (t3, .inl (y 0, 5, .inl (upd (upd (upd (upd (upd t3f 0 x0) 1 x) 2 x2) 3 x3) 4 x4))), (t4, .inl (y 0, 5, .inl t4f)), (t5, .inl (y 0, 5, .inl t5f))]) 0 0 := by
  refine kw_Mi.of (cc := cX4_addNote) (maxL := 7) (ret := (some .int)) (by decide) rfl ?_
  intro pZ eZ s mZ beZ meZ cZ A hE
  obtain ⟨hx, hb, hr, hml, hts, hown, hlocks, hin, hA, hP, hD, hK, hN⟩ := hE
  have hS : va_S A s.heap s.heap [] := va_S.rf
  have hl := lv_entry ([.ref nw, .int x0, .int x, .int x2, .int x3, .int x4]) (n := 7) (Nat.le_of_ble_eq_true rfl)
  rw [lg_entry_eq]
  generalize (lg_sl ([.ref nw, .int x0, .int x, .int x2, .int x3, .int x4]) ++ List.replicate (7 - (lg_sl ([.ref nw, .int x0, .int x, .int x2, .int x3, .int x4])).length) Slot.unset).toArray = ls at hl ⊢
  have hl : lv_has ls 7 [(0, .ref nw), (1, .int x0), (2, .int x), (3, .int x2), (4, .int x3), (5, .int x4)] := hl
  have fw1 := hts (.fieldLink RX4 31 "GleanDusk$Parish" "notes" "[[I") (List.mem_of_getElem? (i := 1) rfl)
  have fw2 := hts (.fieldLink RX4 51 "GleanDusk$Parish" "noteCount" "I") (List.mem_of_getElem? (i := 2) rfl)
  have iw4 : ∀ w ∈ wsX40, w ∈ wsX4_addNote := fun _ h => List.mem_cons_of_mem _ (List.mem_append_right _ h)
  obtain rfl : no = 3 := by omega
  refine lv_aload_n hx hb dX4_addNote_0 rfl (lv_at hl 0 rfl) ?_
  refine va_get (D := D) (ci := 4) (v := .ref nn) (C := RX4) (T := TX4) (N := 11) hx hb hts iw4 hown hK hP 0 rfl rfl 5 (by decide) fw1 (fun _ h9 => h9) rfl dX4_addNote_1 ?_
  refine lv_aload_n hx hb dX4_addNote_4 rfl (lv_at hl 0 rfl) ?_
  refine va_get (D := D) (ci := 4) (v := .int (nI 3)) (C := RX4) (T := TX4) (N := 11) hx hb hts iw4 hown hK hP 0 rfl rfl 10 (by decide) fw2 (fun _ h9 => h9) rfl dX4_addNote_5 ?_
  refine kw_aldQ hx hb hK hP 1 6 rfl rfl (vp_in_nI (by omega) (by decide)) dX4_addNote_8 ?_
  rw [nI_clamp (n := 3) (by omega), show va_rf (fn_ 3) = .ref t3 from congrArg va_rf hn3]
  refine lv_astore (lv' := [(6, .ref t3), (0, .ref nw), (1, .int x0), (2, .int x), (3, .int x2), (4, .int x3), (5, .int x4)]) hx hb dX4_addNote_9 hl (by decide) rfl (fun ls hl => ?_)
  refine lv_aload hx hb dX4_addNote_11 (lv_at hl 0 rfl) ?_
  refine lv_iconst (v := 0) hx hb dX4_addNote_13 (by decide) ?_
  refine lv_iload_n hx hb dX4_addNote_14 rfl (lv_at hl 2 rfl) ?_
  refine va_iast hx hb hK hP hD hS 5 0 rfl rfl (by unfold vp_in; decide) dX4_addNote_15 (fun H locs hP hD hS => ?_)
  rw [show ((0 : Int32)).toNatClampNeg = 0 from rfl] at hP hD
  have hP : va_P D vwCl [(nw, .inr (4, [.ref kk, .ref nk, .ref nd, .ref ne, .ref nm, .ref nn, .int (nI fi), .int (nI gl), .int (nI un), .int (nI mi), .int (nI 3)])), (nn, .inl (y 6, 6, .inr (.inr (.inr (.inr fn_))))), (t0, .inl (y 0, 5, .inl t0f)), (t1, .inl (y 0, 5, .inl t1f)), (t2, .inl (y 0, 5, .inl t2f)), (t3, .inl (y 0, 5, .inl (upd t3f 0 x0))), (t4, .inl (y 0, 5, .inl t4f)), (t5, .inl (y 0, 5, .inl t5f))] H := hP
  have hD : va_D A [(nw, .inr (4, [.ref kk, .ref nk, .ref nd, .ref ne, .ref nm, .ref nn, .int (nI fi), .int (nI gl), .int (nI un), .int (nI mi), .int (nI 3)])), (nn, .inl (y 6, 6, .inr (.inr (.inr (.inr fn_))))), (t0, .inl (y 0, 5, .inl t0f)), (t1, .inl (y 0, 5, .inl t1f)), (t2, .inl (y 0, 5, .inl t2f)), (t3, .inl (y 0, 5, .inl (upd t3f 0 x0))), (t4, .inl (y 0, 5, .inl t4f)), (t5, .inl (y 0, 5, .inl t5f))] := hD
  refine lv_aload hx hb dX4_addNote_16 (lv_at hl 0 rfl) ?_
  refine lv_iconst (v := 1) hx hb dX4_addNote_18 (by decide) ?_
  refine lv_iload_n hx hb dX4_addNote_19 rfl (lv_at hl 3 rfl) ?_
  refine va_iast hx hb hK hP hD hS 5 0 rfl rfl (by unfold vp_in; decide) dX4_addNote_20 (fun H locs hP hD hS => ?_)
  rw [show ((1 : Int32)).toNatClampNeg = 1 from rfl] at hP hD
  have hP : va_P D vwCl [(nw, .inr (4, [.ref kk, .ref nk, .ref nd, .ref ne, .ref nm, .ref nn, .int (nI fi), .int (nI gl), .int (nI un), .int (nI mi), .int (nI 3)])), (nn, .inl (y 6, 6, .inr (.inr (.inr (.inr fn_))))), (t0, .inl (y 0, 5, .inl t0f)), (t1, .inl (y 0, 5, .inl t1f)), (t2, .inl (y 0, 5, .inl t2f)), (t3, .inl (y 0, 5, .inl (upd (upd t3f 0 x0) 1 x))), (t4, .inl (y 0, 5, .inl t4f)), (t5, .inl (y 0, 5, .inl t5f))] H := hP
  have hD : va_D A [(nw, .inr (4, [.ref kk, .ref nk, .ref nd, .ref ne, .ref nm, .ref nn, .int (nI fi), .int (nI gl), .int (nI un), .int (nI mi), .int (nI 3)])), (nn, .inl (y 6, 6, .inr (.inr (.inr (.inr fn_))))), (t0, .inl (y 0, 5, .inl t0f)), (t1, .inl (y 0, 5, .inl t1f)), (t2, .inl (y 0, 5, .inl t2f)), (t3, .inl (y 0, 5, .inl (upd (upd t3f 0 x0) 1 x))), (t4, .inl (y 0, 5, .inl t4f)), (t5, .inl (y 0, 5, .inl t5f))] := hD
  refine lv_aload hx hb dX4_addNote_21 (lv_at hl 0 rfl) ?_
  refine lv_iconst (v := 2) hx hb dX4_addNote_23 (by decide) ?_
  refine lv_iload_n hx hb dX4_addNote_24 rfl (lv_at hl 4 rfl) ?_
  refine va_iast hx hb hK hP hD hS 5 0 rfl rfl (by unfold vp_in; decide) dX4_addNote_25 (fun H locs hP hD hS => ?_)
  rw [show ((2 : Int32)).toNatClampNeg = 2 from rfl] at hP hD
  have hP : va_P D vwCl [(nw, .inr (4, [.ref kk, .ref nk, .ref nd, .ref ne, .ref nm, .ref nn, .int (nI fi), .int (nI gl), .int (nI un), .int (nI mi), .int (nI 3)])), (nn, .inl (y 6, 6, .inr (.inr (.inr (.inr fn_))))), (t0, .inl (y 0, 5, .inl t0f)), (t1, .inl (y 0, 5, .inl t1f)), (t2, .inl (y 0, 5, .inl t2f)), (t3, .inl (y 0, 5, .inl (upd (upd (upd t3f 0 x0) 1 x) 2 x2))), (t4, .inl (y 0, 5, .inl t4f)), (t5, .inl (y 0, 5, .inl t5f))] H := hP
  have hD : va_D A [(nw, .inr (4, [.ref kk, .ref nk, .ref nd, .ref ne, .ref nm, .ref nn, .int (nI fi), .int (nI gl), .int (nI un), .int (nI mi), .int (nI 3)])), (nn, .inl (y 6, 6, .inr (.inr (.inr (.inr fn_))))), (t0, .inl (y 0, 5, .inl t0f)), (t1, .inl (y 0, 5, .inl t1f)), (t2, .inl (y 0, 5, .inl t2f)), (t3, .inl (y 0, 5, .inl (upd (upd (upd t3f 0 x0) 1 x) 2 x2))), (t4, .inl (y 0, 5, .inl t4f)), (t5, .inl (y 0, 5, .inl t5f))] := hD
  refine lv_aload hx hb dX4_addNote_26 (lv_at hl 0 rfl) ?_
  refine lv_iconst (v := 3) hx hb dX4_addNote_28 (by decide) ?_
  refine lv_iload hx hb dX4_addNote_29 (lv_at hl 5 rfl) ?_
  refine va_iast hx hb hK hP hD hS 5 0 rfl rfl (by unfold vp_in; decide) dX4_addNote_31 (fun H locs hP hD hS => ?_)
  rw [show ((3 : Int32)).toNatClampNeg = 3 from rfl] at hP hD
  have hP : va_P D vwCl [(nw, .inr (4, [.ref kk, .ref nk, .ref nd, .ref ne, .ref nm, .ref nn, .int (nI fi), .int (nI gl), .int (nI un), .int (nI mi), .int (nI 3)])), (nn, .inl (y 6, 6, .inr (.inr (.inr (.inr fn_))))), (t0, .inl (y 0, 5, .inl t0f)), (t1, .inl (y 0, 5, .inl t1f)), (t2, .inl (y 0, 5, .inl t2f)), (t3, .inl (y 0, 5, .inl (upd (upd (upd (upd t3f 0 x0) 1 x) 2 x2) 3 x3))), (t4, .inl (y 0, 5, .inl t4f)), (t5, .inl (y 0, 5, .inl t5f))] H := hP
  have hD : va_D A [(nw, .inr (4, [.ref kk, .ref nk, .ref nd, .ref ne, .ref nm, .ref nn, .int (nI fi), .int (nI gl), .int (nI un), .int (nI mi), .int (nI 3)])), (nn, .inl (y 6, 6, .inr (.inr (.inr (.inr fn_))))), (t0, .inl (y 0, 5, .inl t0f)), (t1, .inl (y 0, 5, .inl t1f)), (t2, .inl (y 0, 5, .inl t2f)), (t3, .inl (y 0, 5, .inl (upd (upd (upd (upd t3f 0 x0) 1 x) 2 x2) 3 x3))), (t4, .inl (y 0, 5, .inl t4f)), (t5, .inl (y 0, 5, .inl t5f))] := hD
  refine lv_aload hx hb dX4_addNote_32 (lv_at hl 0 rfl) ?_
  refine lv_iconst (v := 4) hx hb dX4_addNote_34 (by decide) ?_
  refine lv_iload hx hb dX4_addNote_35 (lv_at hl 6 rfl) ?_
  refine va_iast hx hb hK hP hD hS 5 0 rfl rfl (by unfold vp_in; decide) dX4_addNote_37 (fun H locs hP hD hS => ?_)
  rw [show ((4 : Int32)).toNatClampNeg = 4 from rfl] at hP hD
  have hP : va_P D vwCl [(nw, .inr (4, [.ref kk, .ref nk, .ref nd, .ref ne, .ref nm, .ref nn, .int (nI fi), .int (nI gl), .int (nI un), .int (nI mi), .int (nI 3)])), (nn, .inl (y 6, 6, .inr (.inr (.inr (.inr fn_))))), (t0, .inl (y 0, 5, .inl t0f)), (t1, .inl (y 0, 5, .inl t1f)), (t2, .inl (y 0, 5, .inl t2f)), (t3, .inl (y 0, 5, .inl (upd (upd (upd (upd (upd t3f 0 x0) 1 x) 2 x2) 3 x3) 4 x4))), (t4, .inl (y 0, 5, .inl t4f)), (t5, .inl (y 0, 5, .inl t5f))] H := hP
  have hD : va_D A [(nw, .inr (4, [.ref kk, .ref nk, .ref nd, .ref ne, .ref nm, .ref nn, .int (nI fi), .int (nI gl), .int (nI un), .int (nI mi), .int (nI 3)])), (nn, .inl (y 6, 6, .inr (.inr (.inr (.inr fn_))))), (t0, .inl (y 0, 5, .inl t0f)), (t1, .inl (y 0, 5, .inl t1f)), (t2, .inl (y 0, 5, .inl t2f)), (t3, .inl (y 0, 5, .inl (upd (upd (upd (upd (upd t3f 0 x0) 1 x) 2 x2) 3 x3) 4 x4))), (t4, .inl (y 0, 5, .inl t4f)), (t5, .inl (y 0, 5, .inl t5f))] := hD
  refine lv_aload_n hx hb dX4_addNote_38 rfl (lv_at hl 1 rfl) ?_
  refine lv_dup hx hb dX4_addNote_39 rfl ?_
  refine va_get (D := D) (ci := 4) (v := .int (nI 3)) (C := RX4) (T := TX4) (N := 11) hx hb hts iw4 hown hK hP 0 rfl rfl 10 (by decide) fw2 (fun _ h9 => h9) rfl dX4_addNote_40 ?_
  refine lv_iconst (v := 1) hx hb dX4_addNote_43 (by decide) ?_
  refine lv_iadd hx hb dX4_addNote_44 ?_
  rw [show (nI 3) + 1 = nI (4) from nI_add 3 1]
  refine lv_dup_x1 hx hb dX4_addNote_45 rfl rfl ?_
  refine va_put (D := D) (ci := 4) (v := .int (nI 4)) (ty := .int) (C := RX4) (T := TX4) (N := 11) hx hb hts iw4 tyX4 tyX4_ok nmX4 hown hK hP hD hS 0 rfl rfl 10 (by decide) fw2 (fun _ h9 => h9) rfl (by decide +kernel) rfl rfl (Nat.le_of_ble_eq_true rfl) dX4_addNote_46 (fun H locs hP hD hS => ?_)
  have hP : va_P D vwCl [(nw, .inr (4, [.ref kk, .ref nk, .ref nd, .ref ne, .ref nm, .ref nn, .int (nI fi), .int (nI gl), .int (nI un), .int (nI mi), .int (nI 4)])), (nn, .inl (y 6, 6, .inr (.inr (.inr (.inr fn_))))), (t0, .inl (y 0, 5, .inl t0f)), (t1, .inl (y 0, 5, .inl t1f)), (t2, .inl (y 0, 5, .inl t2f)), (t3, .inl (y 0, 5, .inl (upd (upd (upd (upd (upd t3f 0 x0) 1 x) 2 x2) 3 x3) 4 x4))), (t4, .inl (y 0, 5, .inl t4f)), (t5, .inl (y 0, 5, .inl t5f))] H := hP
  have hD : va_D A [(nw, .inr (4, [.ref kk, .ref nk, .ref nd, .ref ne, .ref nm, .ref nn, .int (nI fi), .int (nI gl), .int (nI un), .int (nI mi), .int (nI 4)])), (nn, .inl (y 6, 6, .inr (.inr (.inr (.inr fn_))))), (t0, .inl (y 0, 5, .inl t0f)), (t1, .inl (y 0, 5, .inl t1f)), (t2, .inl (y 0, 5, .inl t2f)), (t3, .inl (y 0, 5, .inl (upd (upd (upd (upd (upd t3f 0 x0) 1 x) 2 x2) 3 x3) 4 x4))), (t4, .inl (y 0, 5, .inl t4f)), (t5, .inl (y 0, 5, .inl t5f))] := hD
  exact W.iret (v := (nI 4)) hx hb hr (fun tZ ht hW => ⟨⟨(nI 4), (), rfl, rfl, by rw [ht]; exact hP.sub [0, 1, 2, 3, 4, 5, 6, 7] rfl, hD.sub [0, 1, 2, 3, 4, 5, 6, 7] (by decide) rfl⟩, hS.F ht⟩) hS.2.2 dX4_addNote_49

set_option maxHeartbeats 4000000 in
set_option maxRecDepth 100000 in
theorem gx_note_d3 (l : Launch) (D : va_G) (y : Nat → ClassId) (g : Nat) (kk : Nat) (nw : Nat) (im : Nat) (kp : Nat) (tx : Nat) (tr : Nat) (be : Nat) (sh : Nat) (sd : Nat) (rf : Nat) (ab : Int32) (bl : Int32) (frf : Nat → Int32) (nk : Nat) (nd : Nat) (ne : Nat) (nm : Nat) (nn : Nat) (fi : Nat) (gl : Nat) (un : Nat) (mi : Nat) (no : Nat) (t0 : Nat) (t1 : Nat) (t2 : Nat) (t3 : Nat) (t4 : Nat) (t5 : Nat) (t0f : Nat → Int32) (t1f : Nat → Int32) (t2f : Nat → Int32) (t3f : Nat → Int32) (t4f : Nat → Int32) (t5f : Nat → Int32) (fn_ : Nat → Option Nat) (an1 : Nat) (an2 : Nat) (an3 : Nat) (an4 : Nat) (an5 : Nat) (hfi : fi ≤ 6) (hgl : gl ≤ 5) (hun : un ≤ 8) (hmi : mi ≤ 4) (hno : no ≤ 6) (hn0 : fn_ 0 = some t0) (hn1 : fn_ 1 = some t1) (hn2 : fn_ 2 = some t2) (hn3 : fn_ 3 = some t3) (hn4 : fn_ 4 = some t4) (hn5 : fn_ 5 = some t5) (hA2 : no < 6) (hj : no = 3) (hB0_ : an1 < fi) (hB1_ : an2 < 12) (hB2_ : an3 ≤ 60) (hB3_ : an4 < 10) (hB4_ : an5 ≤ 99) : kw_Mi l yX10_note wsX10_note ({ frames := 3, cells := 0, slots := 0, locals := 102 }) D y [.ref g, .int (nI an1), .int (nI an2), .int (nI an3), .int (nI an4), .int (nI an5)] [(g, .inr (10, [.ref kk, .ref nw, .ref im, .ref kp, .ref tx, .ref tr, .ref be, .ref sh, .ref sd, .ref rf, .int ab, .int bl])), (rf, .inl (y 0, 3, .inl frf)), (nw, .inr (4, [.ref kk, .ref nk, .ref nd, .ref ne, .ref nm, .ref nn, .int (nI fi), .int (nI gl), .int (nI un), .int (nI mi), .int (nI no)])), (nn, .inl (y 6, 6, .inr (.inr (.inr (.inr fn_))))), (t0, .inl (y 0, 5, .inl t0f)), (t1, .inl (y 0, 5, .inl t1f)), (t2, .inl (y 0, 5, .inl t2f)), (t3, .inl (y 0, 5, .inl t3f)), (t4, .inl (y 0, 5, .inl t4f)), (t5, .inl (y 0, 5, .inl t5f))] (fun (r : Int32) (u : Unit) => r = (nI (no + 1))) (fun _ => [(g, .inr (10, [.ref kk, .ref nw, .ref im, .ref kp, .ref tx, .ref tr, .ref be, .ref sh, .ref sd, .ref rf, .int ab, .int bl])), (rf, .inl (y 0, 3, .inl frf)), (nw, .inr (4, [.ref kk, .ref nk, .ref nd, .ref ne, .ref nm, .ref nn, .int (nI fi), .int (nI gl), .int (nI un), .int (nI mi), .int (nI (no + 1))])), (nn, .inl (y 6, 6, .inr (.inr (.inr (.inr fn_))))), (t0, .inl (y 0, 5, .inl t0f)), (t1, .inl (y 0, 5, .inl t1f)), (t2, .inl (y 0, 5, .inl t2f)), (t3, .inl (y 0, 5, .inl (upd (upd (upd (upd (upd t3f 0 (nI an1)) 1 (nI an2)) 2 (nI an3)) 3 (nI an4)) 4 (nI an5)))), (t4, .inl (y 0, 5, .inl t4f)), (t5, .inl (y 0, 5, .inl t5f))]) 0 0 := by
  refine kw_Mi.of (cc := cX10_note) (maxL := 6) (ret := (some .int)) (by decide) rfl ?_
  intro pZ eZ s mZ beZ meZ cZ A hE
  obtain ⟨hx, hb, hr, hml, hts, hown, hlocks, hin, hA, hP, hD, hK, hN⟩ := hE
  have hS : va_S A s.heap s.heap [] := va_S.rf
  have hl := lv_entry ([.ref g, .int (nI an1), .int (nI an2), .int (nI an3), .int (nI an4), .int (nI an5)]) (n := 6) (Nat.le_of_ble_eq_true rfl)
  rw [lg_entry_eq]
  generalize (lg_sl ([.ref g, .int (nI an1), .int (nI an2), .int (nI an3), .int (nI an4), .int (nI an5)]) ++ List.replicate (6 - (lg_sl ([.ref g, .int (nI an1), .int (nI an2), .int (nI an3), .int (nI an4), .int (nI an5)])).length) Slot.unset).toArray = ls at hl ⊢
  have hl : lv_has ls 6 [(0, .ref g), (1, .int (nI an1)), (2, .int (nI an2)), (3, .int (nI an3)), (4, .int (nI an4)), (5, .int (nI an5))] := hl
  have fw1 := hts (.fieldLink RX10 36 "GleanDusk" "now" "LGleanDusk$Parish;") (List.mem_of_getElem? (i := 1) rfl)
  have fw2 := hts (.fieldLink RX10 250 "GleanDusk$Parish" "noteCount" "I") (List.mem_of_getElem? (i := 2) rfl)
  have iw10 : ∀ w ∈ wsX100, w ∈ wsX10_note := fun _ h => List.mem_cons_of_mem _ (List.mem_append_left _ (List.mem_append_right _ h))
  have iw4 : ∀ w ∈ wsX40, w ∈ wsX10_note := fun _ h => List.mem_cons_of_mem _ (List.mem_append_right _ h)
  obtain rfl : no = 3 := by omega
  refine lv_aload_n hx hb dX10_note_0 rfl (lv_at hl 0 rfl) ?_
  refine va_get (D := D) (ci := 10) (v := .ref nw) (C := RX10) (T := TX10) (N := 12) hx hb hts iw10 hown hK hP 0 rfl rfl 1 (by decide) fw1 (fun _ h9 => h9) rfl dX10_note_1 ?_
  refine lv_iload_n hx hb dX10_note_4 rfl (lv_at hl 1 rfl) ?_
  have hs1 : kw_Split [(g, .inr (10, [.ref kk, .ref nw, .ref im, .ref kp, .ref tx, .ref tr, .ref be, .ref sh, .ref sd, .ref rf, .int ab, .int bl])), (rf, .inl (y 0, 3, .inl frf)), (nw, .inr (4, [.ref kk, .ref nk, .ref nd, .ref ne, .ref nm, .ref nn, .int (nI fi), .int (nI gl), .int (nI un), .int (nI mi), .int (nI 3)])), (nn, .inl (y 6, 6, .inr (.inr (.inr (.inr fn_))))), (t0, .inl (y 0, 5, .inl t0f)), (t1, .inl (y 0, 5, .inl t1f)), (t2, .inl (y 0, 5, .inl t2f)), (t3, .inl (y 0, 5, .inl t3f)), (t4, .inl (y 0, 5, .inl t4f)), (t5, .inl (y 0, 5, .inl t5f))] [(nw, .inr (4, [.ref kk, .ref nk, .ref nd, .ref ne, .ref nm, .ref nn, .int (nI fi), .int (nI gl), .int (nI un), .int (nI mi), .int (nI 3)]))] [(g, .inr (10, [.ref kk, .ref nw, .ref im, .ref kp, .ref tx, .ref tr, .ref be, .ref sh, .ref sd, .ref rf, .int ab, .int bl])), (rf, .inl (y 0, 3, .inl frf)), (nn, .inl (y 6, 6, .inr (.inr (.inr (.inr fn_))))), (t0, .inl (y 0, 5, .inl t0f)), (t1, .inl (y 0, 5, .inl t1f)), (t2, .inl (y 0, 5, .inl t2f)), (t3, .inl (y 0, 5, .inl t3f)), (t4, .inl (y 0, 5, .inl t4f)), (t5, .inl (y 0, 5, .inl t5f))] [2] [0, 1, 3, 4, 5, 6, 7, 8, 9] := ⟨rfl, rfl, rfl, rfl, rfl, by decide⟩
  refine kw_go_i hs1 hP hD hS hA (va_runV (As := [.int (nI an1)]) (rest := []) ⟨hx, hb, hml, hown, hts⟩ (gc_hasField l D y nw kk nk nd ne nm nn fi gl un mi 3 (nI an1) hfi hgl hun hmi hno _) (cwV 1 hts gX10_note_X4_hasField rfl rfl rfl (by decide +kernel) ⟨Nat.le_of_ble_eq_true rfl, Nat.le_of_ble_eq_true rfl⟩) (kw_PreV (ci := 4) (q0 := 2) hs1 hP hD hK hN rfl rfl) rfl rfl hl.1 rfl (lv_room (Nat.le_of_ble_eq_true rfl)) dX10_note_5 ⟨Nat.le_of_ble_eq_true rfl, Nat.le_of_ble_eq_true rfl⟩) (fun r2 u3 H locs hq hP hD hS => ?_)
  rcases hq with ⟨j4, h5, h6, rfl⟩ | ⟨h7, rfl⟩
  · skip
    have h6 : an1 = j4 := (nI_eq (a := an1) (b := j4) (by omega) (by omega)).mp h6
    have hP : va_P D vwCl [(g, .inr (10, [.ref kk, .ref nw, .ref im, .ref kp, .ref tx, .ref tr, .ref be, .ref sh, .ref sd, .ref rf, .int ab, .int bl])), (rf, .inl (y 0, 3, .inl frf)), (nn, .inl (y 6, 6, .inr (.inr (.inr (.inr fn_))))), (t0, .inl (y 0, 5, .inl t0f)), (t1, .inl (y 0, 5, .inl t1f)), (t2, .inl (y 0, 5, .inl t2f)), (t3, .inl (y 0, 5, .inl t3f)), (t4, .inl (y 0, 5, .inl t4f)), (t5, .inl (y 0, 5, .inl t5f)), (nw, .inr (4, [.ref kk, .ref nk, .ref nd, .ref ne, .ref nm, .ref nn, .int (nI fi), .int (nI gl), .int (nI un), .int (nI mi), .int (nI 3)]))] H := hP
    have hD : va_D A [(g, .inr (10, [.ref kk, .ref nw, .ref im, .ref kp, .ref tx, .ref tr, .ref be, .ref sh, .ref sd, .ref rf, .int ab, .int bl])), (rf, .inl (y 0, 3, .inl frf)), (nn, .inl (y 6, 6, .inr (.inr (.inr (.inr fn_))))), (t0, .inl (y 0, 5, .inl t0f)), (t1, .inl (y 0, 5, .inl t1f)), (t2, .inl (y 0, 5, .inl t2f)), (t3, .inl (y 0, 5, .inl t3f)), (t4, .inl (y 0, 5, .inl t4f)), (t5, .inl (y 0, 5, .inl t5f)), (nw, .inr (4, [.ref kk, .ref nk, .ref nd, .ref ne, .ref nm, .ref nn, .int (nI fi), .int (nI gl), .int (nI un), .int (nI mi), .int (nI 3)]))] := hD
    refine lv_if_eq (tgt := 27) hx hb dX10_note_8 (by decide) (fun h9 => absurd h9 (by decide)) (fun _ => ?_)
    refine lv_iload_n hx hb dX10_note_11 rfl (lv_at hl 2 rfl) ?_
    refine lv_bipush (v := 12) hx hb dX10_note_12 (by decide) ?_
    have hs8 : kw_Split [(g, .inr (10, [.ref kk, .ref nw, .ref im, .ref kp, .ref tx, .ref tr, .ref be, .ref sh, .ref sd, .ref rf, .int ab, .int bl])), (rf, .inl (y 0, 3, .inl frf)), (nn, .inl (y 6, 6, .inr (.inr (.inr (.inr fn_))))), (t0, .inl (y 0, 5, .inl t0f)), (t1, .inl (y 0, 5, .inl t1f)), (t2, .inl (y 0, 5, .inl t2f)), (t3, .inl (y 0, 5, .inl t3f)), (t4, .inl (y 0, 5, .inl t4f)), (t5, .inl (y 0, 5, .inl t5f)), (nw, .inr (4, [.ref kk, .ref nk, .ref nd, .ref ne, .ref nm, .ref nn, .int (nI fi), .int (nI gl), .int (nI un), .int (nI mi), .int (nI 3)]))] [] [(g, .inr (10, [.ref kk, .ref nw, .ref im, .ref kp, .ref tx, .ref tr, .ref be, .ref sh, .ref sd, .ref rf, .int ab, .int bl])), (rf, .inl (y 0, 3, .inl frf)), (nn, .inl (y 6, 6, .inr (.inr (.inr (.inr fn_))))), (t0, .inl (y 0, 5, .inl t0f)), (t1, .inl (y 0, 5, .inl t1f)), (t2, .inl (y 0, 5, .inl t2f)), (t3, .inl (y 0, 5, .inl t3f)), (t4, .inl (y 0, 5, .inl t4f)), (t5, .inl (y 0, 5, .inl t5f)), (nw, .inr (4, [.ref kk, .ref nk, .ref nd, .ref ne, .ref nm, .ref nn, .int (nI fi), .int (nI gl), .int (nI un), .int (nI mi), .int (nI 3)]))] [] [0, 1, 2, 3, 4, 5, 6, 7, 8, 9] := ⟨rfl, rfl, rfl, rfl, rfl, by decide⟩
    refine kw_go_i hs8 hP hD hS hA (va_runS (As := [.int (nI an2), .int 12]) (rest := []) ⟨hx, hb, hml, hown, hts⟩ (gc_isBelow l D y (nI an2) 12 (by omega) _) (va_cwS 2 hts gX10_note_X10_isBelow rfl rfl rfl (by decide +kernel) ⟨Nat.le_of_ble_eq_true rfl, Nat.le_of_ble_eq_true rfl⟩) (kw_PreS hs8 hP hD hK hN) rfl rfl hl.1 rfl (lv_room (Nat.le_of_ble_eq_true rfl)) dX10_note_14 ⟨Nat.le_of_ble_eq_true rfl, Nat.le_of_ble_eq_true rfl⟩) (fun r9 u10 H locs hq hP hD hS => ?_)
    rcases hq with ⟨j11, h12, h13, rfl⟩ | ⟨h14, rfl⟩
    · skip
      have h13 : an2 = j11 := (nI_eq (a := an2) (b := j11) (by omega) (by omega)).mp h13
      have hP : va_P D vwCl [(g, .inr (10, [.ref kk, .ref nw, .ref im, .ref kp, .ref tx, .ref tr, .ref be, .ref sh, .ref sd, .ref rf, .int ab, .int bl])), (rf, .inl (y 0, 3, .inl frf)), (nn, .inl (y 6, 6, .inr (.inr (.inr (.inr fn_))))), (t0, .inl (y 0, 5, .inl t0f)), (t1, .inl (y 0, 5, .inl t1f)), (t2, .inl (y 0, 5, .inl t2f)), (t3, .inl (y 0, 5, .inl t3f)), (t4, .inl (y 0, 5, .inl t4f)), (t5, .inl (y 0, 5, .inl t5f)), (nw, .inr (4, [.ref kk, .ref nk, .ref nd, .ref ne, .ref nm, .ref nn, .int (nI fi), .int (nI gl), .int (nI un), .int (nI mi), .int (nI 3)]))] H := hP
      have hD : va_D A [(g, .inr (10, [.ref kk, .ref nw, .ref im, .ref kp, .ref tx, .ref tr, .ref be, .ref sh, .ref sd, .ref rf, .int ab, .int bl])), (rf, .inl (y 0, 3, .inl frf)), (nn, .inl (y 6, 6, .inr (.inr (.inr (.inr fn_))))), (t0, .inl (y 0, 5, .inl t0f)), (t1, .inl (y 0, 5, .inl t1f)), (t2, .inl (y 0, 5, .inl t2f)), (t3, .inl (y 0, 5, .inl t3f)), (t4, .inl (y 0, 5, .inl t4f)), (t5, .inl (y 0, 5, .inl t5f)), (nw, .inr (4, [.ref kk, .ref nk, .ref nd, .ref ne, .ref nm, .ref nn, .int (nI fi), .int (nI gl), .int (nI un), .int (nI mi), .int (nI 3)]))] := hD
      refine lv_if_eq (tgt := 27) hx hb dX10_note_17 (by decide) (fun h9 => absurd h9 (by decide)) (fun _ => ?_)
      refine lv_iload_n hx hb dX10_note_20 rfl (lv_at hl 3 rfl) ?_
      have hs15 : kw_Split [(g, .inr (10, [.ref kk, .ref nw, .ref im, .ref kp, .ref tx, .ref tr, .ref be, .ref sh, .ref sd, .ref rf, .int ab, .int bl])), (rf, .inl (y 0, 3, .inl frf)), (nn, .inl (y 6, 6, .inr (.inr (.inr (.inr fn_))))), (t0, .inl (y 0, 5, .inl t0f)), (t1, .inl (y 0, 5, .inl t1f)), (t2, .inl (y 0, 5, .inl t2f)), (t3, .inl (y 0, 5, .inl t3f)), (t4, .inl (y 0, 5, .inl t4f)), (t5, .inl (y 0, 5, .inl t5f)), (nw, .inr (4, [.ref kk, .ref nk, .ref nd, .ref ne, .ref nm, .ref nn, .int (nI fi), .int (nI gl), .int (nI un), .int (nI mi), .int (nI 3)]))] [] [(g, .inr (10, [.ref kk, .ref nw, .ref im, .ref kp, .ref tx, .ref tr, .ref be, .ref sh, .ref sd, .ref rf, .int ab, .int bl])), (rf, .inl (y 0, 3, .inl frf)), (nn, .inl (y 6, 6, .inr (.inr (.inr (.inr fn_))))), (t0, .inl (y 0, 5, .inl t0f)), (t1, .inl (y 0, 5, .inl t1f)), (t2, .inl (y 0, 5, .inl t2f)), (t3, .inl (y 0, 5, .inl t3f)), (t4, .inl (y 0, 5, .inl t4f)), (t5, .inl (y 0, 5, .inl t5f)), (nw, .inr (4, [.ref kk, .ref nk, .ref nd, .ref ne, .ref nm, .ref nn, .int (nI fi), .int (nI gl), .int (nI un), .int (nI mi), .int (nI 3)]))] [] [0, 1, 2, 3, 4, 5, 6, 7, 8, 9] := ⟨rfl, rfl, rfl, rfl, rfl, by decide⟩
      refine kw_go_i hs15 hP hD hS hA (va_runS (As := [.int (nI an3)]) (rest := []) ⟨hx, hb, hml, hown, hts⟩ (gc_isLight l D y (nI an3)  _) (va_cwS 1 hts gX10_note_X10_isLight rfl rfl rfl (by decide +kernel) ⟨Nat.le_of_ble_eq_true rfl, Nat.le_of_ble_eq_true rfl⟩) (kw_PreS hs15 hP hD hK hN) rfl rfl hl.1 rfl (lv_room (Nat.le_of_ble_eq_true rfl)) dX10_note_21 ⟨Nat.le_of_ble_eq_true rfl, Nat.le_of_ble_eq_true rfl⟩) (fun r16 u17 H locs hq hP hD hS => ?_)
      rcases hq with ⟨j18, h19, h20, rfl⟩ | ⟨h21, rfl⟩
      · skip
        have h20 : an3 = j18 := (nI_eq (a := an3) (b := j18) (by omega) (by omega)).mp h20
        have hP : va_P D vwCl [(g, .inr (10, [.ref kk, .ref nw, .ref im, .ref kp, .ref tx, .ref tr, .ref be, .ref sh, .ref sd, .ref rf, .int ab, .int bl])), (rf, .inl (y 0, 3, .inl frf)), (nn, .inl (y 6, 6, .inr (.inr (.inr (.inr fn_))))), (t0, .inl (y 0, 5, .inl t0f)), (t1, .inl (y 0, 5, .inl t1f)), (t2, .inl (y 0, 5, .inl t2f)), (t3, .inl (y 0, 5, .inl t3f)), (t4, .inl (y 0, 5, .inl t4f)), (t5, .inl (y 0, 5, .inl t5f)), (nw, .inr (4, [.ref kk, .ref nk, .ref nd, .ref ne, .ref nm, .ref nn, .int (nI fi), .int (nI gl), .int (nI un), .int (nI mi), .int (nI 3)]))] H := hP
        have hD : va_D A [(g, .inr (10, [.ref kk, .ref nw, .ref im, .ref kp, .ref tx, .ref tr, .ref be, .ref sh, .ref sd, .ref rf, .int ab, .int bl])), (rf, .inl (y 0, 3, .inl frf)), (nn, .inl (y 6, 6, .inr (.inr (.inr (.inr fn_))))), (t0, .inl (y 0, 5, .inl t0f)), (t1, .inl (y 0, 5, .inl t1f)), (t2, .inl (y 0, 5, .inl t2f)), (t3, .inl (y 0, 5, .inl t3f)), (t4, .inl (y 0, 5, .inl t4f)), (t5, .inl (y 0, 5, .inl t5f)), (nw, .inr (4, [.ref kk, .ref nk, .ref nd, .ref ne, .ref nm, .ref nn, .int (nI fi), .int (nI gl), .int (nI un), .int (nI mi), .int (nI 3)]))] := hD
        refine lv_if_ne (tgt := 32) hx hb dX10_note_24 (by decide) (fun _ => ?_) (fun h9 => absurd h9 (by decide))
        refine lv_iload hx hb dX10_note_32 (lv_at hl 4 rfl) ?_
        refine lv_bipush (v := 10) hx hb dX10_note_34 (by decide) ?_
        have hs22 : kw_Split [(g, .inr (10, [.ref kk, .ref nw, .ref im, .ref kp, .ref tx, .ref tr, .ref be, .ref sh, .ref sd, .ref rf, .int ab, .int bl])), (rf, .inl (y 0, 3, .inl frf)), (nn, .inl (y 6, 6, .inr (.inr (.inr (.inr fn_))))), (t0, .inl (y 0, 5, .inl t0f)), (t1, .inl (y 0, 5, .inl t1f)), (t2, .inl (y 0, 5, .inl t2f)), (t3, .inl (y 0, 5, .inl t3f)), (t4, .inl (y 0, 5, .inl t4f)), (t5, .inl (y 0, 5, .inl t5f)), (nw, .inr (4, [.ref kk, .ref nk, .ref nd, .ref ne, .ref nm, .ref nn, .int (nI fi), .int (nI gl), .int (nI un), .int (nI mi), .int (nI 3)]))] [] [(g, .inr (10, [.ref kk, .ref nw, .ref im, .ref kp, .ref tx, .ref tr, .ref be, .ref sh, .ref sd, .ref rf, .int ab, .int bl])), (rf, .inl (y 0, 3, .inl frf)), (nn, .inl (y 6, 6, .inr (.inr (.inr (.inr fn_))))), (t0, .inl (y 0, 5, .inl t0f)), (t1, .inl (y 0, 5, .inl t1f)), (t2, .inl (y 0, 5, .inl t2f)), (t3, .inl (y 0, 5, .inl t3f)), (t4, .inl (y 0, 5, .inl t4f)), (t5, .inl (y 0, 5, .inl t5f)), (nw, .inr (4, [.ref kk, .ref nk, .ref nd, .ref ne, .ref nm, .ref nn, .int (nI fi), .int (nI gl), .int (nI un), .int (nI mi), .int (nI 3)]))] [] [0, 1, 2, 3, 4, 5, 6, 7, 8, 9] := ⟨rfl, rfl, rfl, rfl, rfl, by decide⟩
        refine kw_go_i hs22 hP hD hS hA (va_runS (As := [.int (nI an4), .int 10]) (rest := []) ⟨hx, hb, hml, hown, hts⟩ (gc_isBelow l D y (nI an4) 10 (by omega) _) (va_cwS 2 hts gX10_note_X10_isBelow rfl rfl rfl (by decide +kernel) ⟨Nat.le_of_ble_eq_true rfl, Nat.le_of_ble_eq_true rfl⟩) (kw_PreS hs22 hP hD hK hN) rfl rfl hl.1 rfl (lv_room (Nat.le_of_ble_eq_true rfl)) dX10_note_36 ⟨Nat.le_of_ble_eq_true rfl, Nat.le_of_ble_eq_true rfl⟩) (fun r23 u24 H locs hq hP hD hS => ?_)
        rcases hq with ⟨j25, h26, h27, rfl⟩ | ⟨h28, rfl⟩
        · skip
          have h27 : an4 = j25 := (nI_eq (a := an4) (b := j25) (by omega) (by omega)).mp h27
          have hP : va_P D vwCl [(g, .inr (10, [.ref kk, .ref nw, .ref im, .ref kp, .ref tx, .ref tr, .ref be, .ref sh, .ref sd, .ref rf, .int ab, .int bl])), (rf, .inl (y 0, 3, .inl frf)), (nn, .inl (y 6, 6, .inr (.inr (.inr (.inr fn_))))), (t0, .inl (y 0, 5, .inl t0f)), (t1, .inl (y 0, 5, .inl t1f)), (t2, .inl (y 0, 5, .inl t2f)), (t3, .inl (y 0, 5, .inl t3f)), (t4, .inl (y 0, 5, .inl t4f)), (t5, .inl (y 0, 5, .inl t5f)), (nw, .inr (4, [.ref kk, .ref nk, .ref nd, .ref ne, .ref nm, .ref nn, .int (nI fi), .int (nI gl), .int (nI un), .int (nI mi), .int (nI 3)]))] H := hP
          have hD : va_D A [(g, .inr (10, [.ref kk, .ref nw, .ref im, .ref kp, .ref tx, .ref tr, .ref be, .ref sh, .ref sd, .ref rf, .int ab, .int bl])), (rf, .inl (y 0, 3, .inl frf)), (nn, .inl (y 6, 6, .inr (.inr (.inr (.inr fn_))))), (t0, .inl (y 0, 5, .inl t0f)), (t1, .inl (y 0, 5, .inl t1f)), (t2, .inl (y 0, 5, .inl t2f)), (t3, .inl (y 0, 5, .inl t3f)), (t4, .inl (y 0, 5, .inl t4f)), (t5, .inl (y 0, 5, .inl t5f)), (nw, .inr (4, [.ref kk, .ref nk, .ref nd, .ref ne, .ref nm, .ref nn, .int (nI fi), .int (nI gl), .int (nI un), .int (nI mi), .int (nI 3)]))] := hD
          refine lv_if_eq (tgt := 53) hx hb dX10_note_39 (by decide) (fun h9 => absurd h9 (by decide)) (fun _ => ?_)
          refine lv_iload hx hb dX10_note_42 (lv_at hl 5 rfl) ?_
          refine lv_iconst (v := 0) hx hb dX10_note_44 (by decide) ?_
          refine lv_bipush (v := 99) hx hb dX10_note_45 (by decide) ?_
          have hs29 : kw_Split [(g, .inr (10, [.ref kk, .ref nw, .ref im, .ref kp, .ref tx, .ref tr, .ref be, .ref sh, .ref sd, .ref rf, .int ab, .int bl])), (rf, .inl (y 0, 3, .inl frf)), (nn, .inl (y 6, 6, .inr (.inr (.inr (.inr fn_))))), (t0, .inl (y 0, 5, .inl t0f)), (t1, .inl (y 0, 5, .inl t1f)), (t2, .inl (y 0, 5, .inl t2f)), (t3, .inl (y 0, 5, .inl t3f)), (t4, .inl (y 0, 5, .inl t4f)), (t5, .inl (y 0, 5, .inl t5f)), (nw, .inr (4, [.ref kk, .ref nk, .ref nd, .ref ne, .ref nm, .ref nn, .int (nI fi), .int (nI gl), .int (nI un), .int (nI mi), .int (nI 3)]))] [] [(g, .inr (10, [.ref kk, .ref nw, .ref im, .ref kp, .ref tx, .ref tr, .ref be, .ref sh, .ref sd, .ref rf, .int ab, .int bl])), (rf, .inl (y 0, 3, .inl frf)), (nn, .inl (y 6, 6, .inr (.inr (.inr (.inr fn_))))), (t0, .inl (y 0, 5, .inl t0f)), (t1, .inl (y 0, 5, .inl t1f)), (t2, .inl (y 0, 5, .inl t2f)), (t3, .inl (y 0, 5, .inl t3f)), (t4, .inl (y 0, 5, .inl t4f)), (t5, .inl (y 0, 5, .inl t5f)), (nw, .inr (4, [.ref kk, .ref nk, .ref nd, .ref ne, .ref nm, .ref nn, .int (nI fi), .int (nI gl), .int (nI un), .int (nI mi), .int (nI 3)]))] [] [0, 1, 2, 3, 4, 5, 6, 7, 8, 9] := ⟨rfl, rfl, rfl, rfl, rfl, by decide⟩
          refine kw_go_i hs29 hP hD hS hA (va_runS (As := [.int (nI an5), .int 0, .int 99]) (rest := []) ⟨hx, hb, hml, hown, hts⟩ (gc_isIn l D y (nI an5) 0 99 (by omega) (by omega) _) (va_cwS 3 hts gX10_note_X10_isIn rfl rfl rfl (by decide +kernel) ⟨Nat.le_of_ble_eq_true rfl, Nat.le_of_ble_eq_true rfl⟩) (kw_PreS hs29 hP hD hK hN) rfl rfl hl.1 rfl (lv_room (Nat.le_of_ble_eq_true rfl)) dX10_note_47 ⟨Nat.le_of_ble_eq_true rfl, Nat.le_of_ble_eq_true rfl⟩) (fun r30 u31 H locs hq hP hD hS => ?_)
          rcases hq with ⟨j32, h33, h34, h35, rfl⟩ | ⟨h36, rfl⟩
          · skip
            have h35 : an5 = j32 := (nI_eq (a := an5) (b := j32) (by omega) (by omega)).mp h35
            have hP : va_P D vwCl [(g, .inr (10, [.ref kk, .ref nw, .ref im, .ref kp, .ref tx, .ref tr, .ref be, .ref sh, .ref sd, .ref rf, .int ab, .int bl])), (rf, .inl (y 0, 3, .inl frf)), (nn, .inl (y 6, 6, .inr (.inr (.inr (.inr fn_))))), (t0, .inl (y 0, 5, .inl t0f)), (t1, .inl (y 0, 5, .inl t1f)), (t2, .inl (y 0, 5, .inl t2f)), (t3, .inl (y 0, 5, .inl t3f)), (t4, .inl (y 0, 5, .inl t4f)), (t5, .inl (y 0, 5, .inl t5f)), (nw, .inr (4, [.ref kk, .ref nk, .ref nd, .ref ne, .ref nm, .ref nn, .int (nI fi), .int (nI gl), .int (nI un), .int (nI mi), .int (nI 3)]))] H := hP
            have hD : va_D A [(g, .inr (10, [.ref kk, .ref nw, .ref im, .ref kp, .ref tx, .ref tr, .ref be, .ref sh, .ref sd, .ref rf, .int ab, .int bl])), (rf, .inl (y 0, 3, .inl frf)), (nn, .inl (y 6, 6, .inr (.inr (.inr (.inr fn_))))), (t0, .inl (y 0, 5, .inl t0f)), (t1, .inl (y 0, 5, .inl t1f)), (t2, .inl (y 0, 5, .inl t2f)), (t3, .inl (y 0, 5, .inl t3f)), (t4, .inl (y 0, 5, .inl t4f)), (t5, .inl (y 0, 5, .inl t5f)), (nw, .inr (4, [.ref kk, .ref nk, .ref nd, .ref ne, .ref nm, .ref nn, .int (nI fi), .int (nI gl), .int (nI un), .int (nI mi), .int (nI 3)]))] := hD
            refine lv_if_ne (tgt := 58) hx hb dX10_note_50 (by decide) (fun _ => ?_) (fun h9 => absurd h9 (by decide))
            refine lv_aload_n hx hb dX10_note_58 rfl (lv_at hl 0 rfl) ?_
            refine va_get (D := D) (ci := 10) (v := .ref nw) (C := RX10) (T := TX10) (N := 12) hx hb hts iw10 hown hK hP 0 rfl rfl 1 (by decide) fw1 (fun _ h9 => h9) rfl dX10_note_59 ?_
            refine va_get (D := D) (ci := 4) (v := .int (nI 3)) (C := RX4) (T := TX4) (N := 11) hx hb hts iw4 hown hK hP 9 rfl rfl 10 (by decide) fw2 (fun _ h9 => h9) rfl dX10_note_62 ?_
            refine lv_bipush (v := 6) hx hb dX10_note_65 (by decide) ?_
            refine lv_icmp_lt (tgt := 75) hx hb dX10_note_67 (by decide) (fun h37 => ?_) (fun h38 => ?_)
            · skip
              have h37 : 3 < 6 := (nI_ltI (a := 3) (b := 6) (by omega) (by omega)).mp h37
              refine lv_aload_n hx hb dX10_note_75 rfl (lv_at hl 0 rfl) ?_
              refine va_get (D := D) (ci := 10) (v := .ref nw) (C := RX10) (T := TX10) (N := 12) hx hb hts iw10 hown hK hP 0 rfl rfl 1 (by decide) fw1 (fun _ h9 => h9) rfl dX10_note_76 ?_
              refine lv_iload_n hx hb dX10_note_79 rfl (lv_at hl 1 rfl) ?_
              refine lv_iload_n hx hb dX10_note_80 rfl (lv_at hl 2 rfl) ?_
              refine lv_iload_n hx hb dX10_note_81 rfl (lv_at hl 3 rfl) ?_
              refine lv_iload hx hb dX10_note_82 (lv_at hl 4 rfl) ?_
              refine lv_iload hx hb dX10_note_84 (lv_at hl 5 rfl) ?_
              have hs39 : kw_Split [(g, .inr (10, [.ref kk, .ref nw, .ref im, .ref kp, .ref tx, .ref tr, .ref be, .ref sh, .ref sd, .ref rf, .int ab, .int bl])), (rf, .inl (y 0, 3, .inl frf)), (nn, .inl (y 6, 6, .inr (.inr (.inr (.inr fn_))))), (t0, .inl (y 0, 5, .inl t0f)), (t1, .inl (y 0, 5, .inl t1f)), (t2, .inl (y 0, 5, .inl t2f)), (t3, .inl (y 0, 5, .inl t3f)), (t4, .inl (y 0, 5, .inl t4f)), (t5, .inl (y 0, 5, .inl t5f)), (nw, .inr (4, [.ref kk, .ref nk, .ref nd, .ref ne, .ref nm, .ref nn, .int (nI fi), .int (nI gl), .int (nI un), .int (nI mi), .int (nI 3)]))] [(nw, .inr (4, [.ref kk, .ref nk, .ref nd, .ref ne, .ref nm, .ref nn, .int (nI fi), .int (nI gl), .int (nI un), .int (nI mi), .int (nI 3)])), (nn, .inl (y 6, 6, .inr (.inr (.inr (.inr fn_))))), (t0, .inl (y 0, 5, .inl t0f)), (t1, .inl (y 0, 5, .inl t1f)), (t2, .inl (y 0, 5, .inl t2f)), (t3, .inl (y 0, 5, .inl t3f)), (t4, .inl (y 0, 5, .inl t4f)), (t5, .inl (y 0, 5, .inl t5f))] [(g, .inr (10, [.ref kk, .ref nw, .ref im, .ref kp, .ref tx, .ref tr, .ref be, .ref sh, .ref sd, .ref rf, .int ab, .int bl])), (rf, .inl (y 0, 3, .inl frf))] [9, 2, 3, 4, 5, 6, 7, 8] [0, 1] := ⟨rfl, rfl, rfl, rfl, rfl, by decide⟩
              refine kw_go_i hs39 hP hD hS hA (va_runV (As := [.int (nI an1), .int (nI an2), .int (nI an3), .int (nI an4), .int (nI an5)]) (rest := []) ⟨hx, hb, hml, hown, hts⟩ (gd_addNote3 l D y nw kk nk nd ne nm nn fi gl un mi 3 t0 t1 t2 t3 t4 t5 t0f t1f t2f t3f t4f t5f fn_ (nI an1) (nI an2) (nI an3) (nI an4) (nI an5) hfi hgl hun hmi hno hn0 hn1 hn2 hn3 hn4 hn5 hj _) (cwV 5 hts gX10_note_X4_addNote rfl rfl rfl (by decide +kernel) ⟨Nat.le_of_ble_eq_true rfl, Nat.le_of_ble_eq_true rfl⟩) (kw_PreV (ci := 4) (q0 := 9) hs39 hP hD hK hN rfl rfl) rfl rfl hl.1 rfl (lv_room (Nat.le_of_ble_eq_true rfl)) dX10_note_86 ⟨Nat.le_of_ble_eq_true rfl, Nat.le_of_ble_eq_true rfl⟩) (fun r40 u41 H locs hq hP hD hS => ?_)
              obtain rfl := hq
              have hP : va_P D vwCl [(g, .inr (10, [.ref kk, .ref nw, .ref im, .ref kp, .ref tx, .ref tr, .ref be, .ref sh, .ref sd, .ref rf, .int ab, .int bl])), (rf, .inl (y 0, 3, .inl frf)), (nw, .inr (4, [.ref kk, .ref nk, .ref nd, .ref ne, .ref nm, .ref nn, .int (nI fi), .int (nI gl), .int (nI un), .int (nI mi), .int (nI 4)])), (nn, .inl (y 6, 6, .inr (.inr (.inr (.inr fn_))))), (t0, .inl (y 0, 5, .inl t0f)), (t1, .inl (y 0, 5, .inl t1f)), (t2, .inl (y 0, 5, .inl t2f)), (t3, .inl (y 0, 5, .inl (upd (upd (upd (upd (upd t3f 0 (nI an1)) 1 (nI an2)) 2 (nI an3)) 3 (nI an4)) 4 (nI an5)))), (t4, .inl (y 0, 5, .inl t4f)), (t5, .inl (y 0, 5, .inl t5f))] H := hP
              have hD : va_D A [(g, .inr (10, [.ref kk, .ref nw, .ref im, .ref kp, .ref tx, .ref tr, .ref be, .ref sh, .ref sd, .ref rf, .int ab, .int bl])), (rf, .inl (y 0, 3, .inl frf)), (nw, .inr (4, [.ref kk, .ref nk, .ref nd, .ref ne, .ref nm, .ref nn, .int (nI fi), .int (nI gl), .int (nI un), .int (nI mi), .int (nI 4)])), (nn, .inl (y 6, 6, .inr (.inr (.inr (.inr fn_))))), (t0, .inl (y 0, 5, .inl t0f)), (t1, .inl (y 0, 5, .inl t1f)), (t2, .inl (y 0, 5, .inl t2f)), (t3, .inl (y 0, 5, .inl (upd (upd (upd (upd (upd t3f 0 (nI an1)) 1 (nI an2)) 2 (nI an3)) 3 (nI an4)) 4 (nI an5)))), (t4, .inl (y 0, 5, .inl t4f)), (t5, .inl (y 0, 5, .inl t5f))] := hD
              exact W.iret (v := (nI 4)) hx hb hr (fun tZ ht hW => ⟨⟨(nI 4), (), rfl, rfl, by rw [ht]; exact hP.sub [0, 1, 2, 3, 4, 5, 6, 7, 8, 9] rfl, hD.sub [0, 1, 2, 3, 4, 5, 6, 7, 8, 9] (by decide) rfl⟩, hS.F ht⟩) hS.2.2 dX10_note_89
            · skip
              have h38 : ¬ 3 < 6 := fun q9 => h38 ((nI_ltI (a := 3) (b := 6) (by omega) (by omega)).mpr q9)
              exact absurd h38 (by omega)
          · skip
            exact absurd ⟨an5, by omega, by omega, rfl⟩ h36
        · skip
          exact absurd ⟨an4, by omega, rfl⟩ h28
      · skip
        exact absurd ⟨an3, by omega, by omega, rfl⟩ h21
    · skip
      exact absurd ⟨an2, by omega, rfl⟩ h14
  · skip
    exact absurd ⟨an1, by omega, rfl⟩ h7

set_option maxHeartbeats 4000000 in
set_option maxRecDepth 100000 in
theorem gy_note_d3 (l : Launch) (D : va_G) (y : Nat → ClassId) (mo : Nat) (to : Nat) (ke : Nat) (ik : Nat) (mrf : Nat) (ha : Nat) (r0 : Nat) (mbr : Nat) (mbp : Nat) (mby : Nat) (an : Nat) (va : Nat) (mab : Int64) (mbl : Int64) (bl : Nat) (ta : Nat) (tl : Nat) (tk : Nat) (vv : Int32) (frf : Nat → Int32) (ft : Nat → Int32) (fi : Nat) (gl : Nat) (mi : Nat) (no : Nat) (un : Nat) (an1 : Nat) (an2 : Nat) (an3 : Nat) (an4 : Nat) (an5 : Nat) (hk0_ : ft 0 = (nI fi)) (hk1_ : ft 1 = (nI gl)) (hk2_ : ft 2 = (nI mi)) (hk3_ : ft 3 = (nI no)) (hk4_ : ft 4 = (nI un)) (hkt : kr_t 228 ft) (hfi : fi ≤ 6) (hgl : gl ≤ 5) (hmi : mi ≤ 4) (hno : no ≤ 6) (hun : un ≤ 8) (hgf : (gl = 0 ∨ 0 < fi)) (hA2 : ¬ no = 6) (hj : no = 3) (hB0_ : an1 < fi) (hB1_ : an2 < 12) (hB2_ : an3 ≤ 60) (hB3_ : an4 < 10) (hB4_ : an5 ≤ 99) : kw_Mi l yX11_note wsX11_note ({ frames := 3, cells := 0, slots := 0, locals := 106 }) D y [.ref mo, .int (nI an1), .int (nI an2), .int (nI an3), .int (nI an4), .int (nI an5)] [(mo, .inr (11, [.ref to, .ref ke, .ref ik, .ref mrf, .long mab, .long mbl, .ref ha, .ref r0, .ref mbr, .ref mbp, .ref mby, .int (nI bl), .int (nI ta), .int (nI tl), .int (nI tk), .int vv, .ref an, .ref va])), (mrf, .inl (y 0, 3, .inl frf)), (to, .inl (y 0, 228, .inl ft))] (fun (r : Int32) (u : Unit) => kr_t 228 (upd (upd (upd (upd (upd (upd ft 61 (nI an1)) 62 (nI an2)) 63 (nI an3)) 64 (nI an4)) 65 (nI an5)) 3 (nI 4)) ∧ (upd (upd (upd (upd (upd (upd ft 61 (nI an1)) 62 (nI an2)) 63 (nI an3)) 64 (nI an4)) 65 (nI an5)) 3 (nI 4)) 0 = (nI fi) ∧ (upd (upd (upd (upd (upd (upd ft 61 (nI an1)) 62 (nI an2)) 63 (nI an3)) 64 (nI an4)) 65 (nI an5)) 3 (nI 4)) 1 = (nI gl) ∧ (upd (upd (upd (upd (upd (upd ft 61 (nI an1)) 62 (nI an2)) 63 (nI an3)) 64 (nI an4)) 65 (nI an5)) 3 (nI 4)) 2 = (nI mi) ∧ (upd (upd (upd (upd (upd (upd ft 61 (nI an1)) 62 (nI an2)) 63 (nI an3)) 64 (nI an4)) 65 (nI an5)) 3 (nI 4)) 3 = (nI (no + 1)) ∧ (upd (upd (upd (upd (upd (upd ft 61 (nI an1)) 62 (nI an2)) 63 (nI an3)) 64 (nI an4)) 65 (nI an5)) 3 (nI 4)) 4 = (nI un) ∧ (gl = 0 ∨ 0 < fi) ∧ r = (nI (no + 1))) (fun _ => [(mo, .inr (11, [.ref to, .ref ke, .ref ik, .ref mrf, .long mab, .long mbl, .ref ha, .ref r0, .ref mbr, .ref mbp, .ref mby, .int (nI bl), .int (nI ta), .int (nI tl), .int (nI tk), .int vv, .ref an, .ref va])), (mrf, .inl (y 0, 3, .inl frf)), (to, .inl (y 0, 228, .inl (upd (upd (upd (upd (upd (upd ft 61 (nI an1)) 62 (nI an2)) 63 (nI an3)) 64 (nI an4)) 65 (nI an5)) 3 (nI 4))))]) 0 0 := by
  refine kw_Mi.of (cc := cX11_note) (maxL := 7) (ret := (some .int)) (by decide) rfl ?_
  intro pZ eZ s mZ beZ meZ cZ A hE
  obtain ⟨hx, hb, hr, hml, hts, hown, hlocks, hin, hA, hP, hD, hK, hN⟩ := hE
  have hS : va_S A s.heap s.heap [] := va_S.rf
  have hl := lv_entry ([.ref mo, .int (nI an1), .int (nI an2), .int (nI an3), .int (nI an4), .int (nI an5)]) (n := 7) (Nat.le_of_ble_eq_true rfl)
  rw [lg_entry_eq]
  generalize (lg_sl ([.ref mo, .int (nI an1), .int (nI an2), .int (nI an3), .int (nI an4), .int (nI an5)]) ++ List.replicate (7 - (lg_sl ([.ref mo, .int (nI an1), .int (nI an2), .int (nI an3), .int (nI an4), .int (nI an5)])).length) Slot.unset).toArray = ls at hl ⊢
  have hl : lv_has ls 7 [(0, .ref mo), (1, .int (nI an1)), (2, .int (nI an2)), (3, .int (nI an3)), (4, .int (nI an4)), (5, .int (nI an5))] := hl
  have fw1 := hts (.constantLong RX11 174 (99)) (List.mem_of_getElem? (i := 1) rfl)
  have fw2 := hts (.fieldLink RX11 7 "GleanDuskModel" "told" "[I") (List.mem_of_getElem? (i := 2) rfl)
  have iw11 : ∀ w ∈ wsX110, w ∈ wsX11_note := fun _ h => List.mem_cons_of_mem _ (List.mem_append_right _ h)
  obtain rfl : no = 3 := by omega
  refine lv_aload_n hx hb dX11_note_0 rfl (lv_at hl 0 rfl) ?_
  refine lv_iload_n hx hb dX11_note_1 rfl (lv_at hl 1 rfl) ?_
  have hs1 : kw_Split [(mo, .inr (11, [.ref to, .ref ke, .ref ik, .ref mrf, .long mab, .long mbl, .ref ha, .ref r0, .ref mbr, .ref mbp, .ref mby, .int (nI bl), .int (nI ta), .int (nI tl), .int (nI tk), .int vv, .ref an, .ref va])), (mrf, .inl (y 0, 3, .inl frf)), (to, .inl (y 0, 228, .inl ft))] [(mo, .inr (11, [.ref to, .ref ke, .ref ik, .ref mrf, .long mab, .long mbl, .ref ha, .ref r0, .ref mbr, .ref mbp, .ref mby, .int (nI bl), .int (nI ta), .int (nI tl), .int (nI tk), .int vv, .ref an, .ref va])), (to, .inl (y 0, 228, .inl ft))] [(mrf, .inl (y 0, 3, .inl frf))] [0, 2] [1] := ⟨rfl, rfl, rfl, rfl, rfl, by decide⟩
  refine kw_go_i hs1 hP hD hS hA (va_runV (As := [.int (nI an1)]) (rest := []) ⟨hx, hb, hml, hown, hts⟩ (gr_isField l D y mo to ke ik mrf ha r0 mbr mbp mby an va mab mbl bl ta tl tk vv ft fi gl mi 3 un (nI an1) hk0_ hk1_ hk2_ hk3_ hk4_ hkt hfi hgl hmi hno hun _) (cwV 1 hts gX11_note_X11_isField rfl rfl rfl (by decide +kernel) ⟨Nat.le_of_ble_eq_true rfl, Nat.le_of_ble_eq_true rfl⟩) (kw_PreV (ci := 11) (q0 := 0) hs1 hP hD hK hN rfl rfl) rfl rfl hl.1 rfl (lv_room (Nat.le_of_ble_eq_true rfl)) dX11_note_2 ⟨Nat.le_of_ble_eq_true rfl, Nat.le_of_ble_eq_true rfl⟩) (fun r2 u3 H locs hq hP hD hS => ?_)
  rcases hq with ⟨j4, h5, h6, rfl⟩ | ⟨h7, rfl⟩
  · skip
    have h6 : an1 = j4 := (nI_eq (a := an1) (b := j4) (by omega) (by omega)).mp h6
    have hP : va_P D vwCl [(mrf, .inl (y 0, 3, .inl frf)), (mo, .inr (11, [.ref to, .ref ke, .ref ik, .ref mrf, .long mab, .long mbl, .ref ha, .ref r0, .ref mbr, .ref mbp, .ref mby, .int (nI bl), .int (nI ta), .int (nI tl), .int (nI tk), .int vv, .ref an, .ref va])), (to, .inl (y 0, 228, .inl ft))] H := hP
    have hD : va_D A [(mrf, .inl (y 0, 3, .inl frf)), (mo, .inr (11, [.ref to, .ref ke, .ref ik, .ref mrf, .long mab, .long mbl, .ref ha, .ref r0, .ref mbr, .ref mbp, .ref mby, .int (nI bl), .int (nI ta), .int (nI tl), .int (nI tk), .int vv, .ref an, .ref va])), (to, .inl (y 0, 228, .inl ft))] := hD
    refine lv_if_eq (tgt := 43) hx hb dX11_note_5 (by decide) (fun h9 => absurd h9 (by decide)) (fun _ => ?_)
    refine lv_iload_n hx hb dX11_note_8 rfl (lv_at hl 2 rfl) ?_
    have hs8 : kw_Split [(mrf, .inl (y 0, 3, .inl frf)), (mo, .inr (11, [.ref to, .ref ke, .ref ik, .ref mrf, .long mab, .long mbl, .ref ha, .ref r0, .ref mbr, .ref mbp, .ref mby, .int (nI bl), .int (nI ta), .int (nI tl), .int (nI tk), .int vv, .ref an, .ref va])), (to, .inl (y 0, 228, .inl ft))] [] [(mrf, .inl (y 0, 3, .inl frf)), (mo, .inr (11, [.ref to, .ref ke, .ref ik, .ref mrf, .long mab, .long mbl, .ref ha, .ref r0, .ref mbr, .ref mbp, .ref mby, .int (nI bl), .int (nI ta), .int (nI tl), .int (nI tk), .int vv, .ref an, .ref va])), (to, .inl (y 0, 228, .inl ft))] [] [0, 1, 2] := ⟨rfl, rfl, rfl, rfl, rfl, by decide⟩
    refine kw_go_i hs8 hP hD hS hA (va_runS (As := [.int (nI an2)]) (rest := []) ⟨hx, hb, hml, hown, hts⟩ (gr_isStep l D y (nI an2)  _) (va_cwS 1 hts gX11_note_X11_isStep rfl rfl rfl (by decide +kernel) ⟨Nat.le_of_ble_eq_true rfl, Nat.le_of_ble_eq_true rfl⟩) (kw_PreS hs8 hP hD hK hN) rfl rfl hl.1 rfl (lv_room (Nat.le_of_ble_eq_true rfl)) dX11_note_9 ⟨Nat.le_of_ble_eq_true rfl, Nat.le_of_ble_eq_true rfl⟩) (fun r9 u10 H locs hq hP hD hS => ?_)
    rcases hq with ⟨j11, h12, h13, rfl⟩ | ⟨h14, rfl⟩
    · skip
      have h13 : an2 = j11 := (nI_eq (a := an2) (b := j11) (by omega) (by omega)).mp h13
      have hP : va_P D vwCl [(mrf, .inl (y 0, 3, .inl frf)), (mo, .inr (11, [.ref to, .ref ke, .ref ik, .ref mrf, .long mab, .long mbl, .ref ha, .ref r0, .ref mbr, .ref mbp, .ref mby, .int (nI bl), .int (nI ta), .int (nI tl), .int (nI tk), .int vv, .ref an, .ref va])), (to, .inl (y 0, 228, .inl ft))] H := hP
      have hD : va_D A [(mrf, .inl (y 0, 3, .inl frf)), (mo, .inr (11, [.ref to, .ref ke, .ref ik, .ref mrf, .long mab, .long mbl, .ref ha, .ref r0, .ref mbr, .ref mbp, .ref mby, .int (nI bl), .int (nI ta), .int (nI tl), .int (nI tk), .int vv, .ref an, .ref va])), (to, .inl (y 0, 228, .inl ft))] := hD
      refine lv_if_eq (tgt := 43) hx hb dX11_note_12 (by decide) (fun h9 => absurd h9 (by decide)) (fun _ => ?_)
      refine lv_iload_n hx hb dX11_note_15 rfl (lv_at hl 3 rfl) ?_
      have hs15 : kw_Split [(mrf, .inl (y 0, 3, .inl frf)), (mo, .inr (11, [.ref to, .ref ke, .ref ik, .ref mrf, .long mab, .long mbl, .ref ha, .ref r0, .ref mbr, .ref mbp, .ref mby, .int (nI bl), .int (nI ta), .int (nI tl), .int (nI tk), .int vv, .ref an, .ref va])), (to, .inl (y 0, 228, .inl ft))] [] [(mrf, .inl (y 0, 3, .inl frf)), (mo, .inr (11, [.ref to, .ref ke, .ref ik, .ref mrf, .long mab, .long mbl, .ref ha, .ref r0, .ref mbr, .ref mbp, .ref mby, .int (nI bl), .int (nI ta), .int (nI tl), .int (nI tk), .int vv, .ref an, .ref va])), (to, .inl (y 0, 228, .inl ft))] [] [0, 1, 2] := ⟨rfl, rfl, rfl, rfl, rfl, by decide⟩
      refine kw_go_i hs15 hP hD hS hA (va_runS (As := [.int (nI an3)]) (rest := []) ⟨hx, hb, hml, hown, hts⟩ (gr_isLight l D y (nI an3)  _) (va_cwS 1 hts gX11_note_X11_isLight rfl rfl rfl (by decide +kernel) ⟨Nat.le_of_ble_eq_true rfl, Nat.le_of_ble_eq_true rfl⟩) (kw_PreS hs15 hP hD hK hN) rfl rfl hl.1 rfl (lv_room (Nat.le_of_ble_eq_true rfl)) dX11_note_16 ⟨Nat.le_of_ble_eq_true rfl, Nat.le_of_ble_eq_true rfl⟩) (fun r16 u17 H locs hq hP hD hS => ?_)
      rcases hq with ⟨j18, h19, h20, rfl⟩ | ⟨h21, rfl⟩
      · skip
        have h20 : an3 = j18 := (nI_eq (a := an3) (b := j18) (by omega) (by omega)).mp h20
        have hP : va_P D vwCl [(mrf, .inl (y 0, 3, .inl frf)), (mo, .inr (11, [.ref to, .ref ke, .ref ik, .ref mrf, .long mab, .long mbl, .ref ha, .ref r0, .ref mbr, .ref mbp, .ref mby, .int (nI bl), .int (nI ta), .int (nI tl), .int (nI tk), .int vv, .ref an, .ref va])), (to, .inl (y 0, 228, .inl ft))] H := hP
        have hD : va_D A [(mrf, .inl (y 0, 3, .inl frf)), (mo, .inr (11, [.ref to, .ref ke, .ref ik, .ref mrf, .long mab, .long mbl, .ref ha, .ref r0, .ref mbr, .ref mbp, .ref mby, .int (nI bl), .int (nI ta), .int (nI tl), .int (nI tk), .int vv, .ref an, .ref va])), (to, .inl (y 0, 228, .inl ft))] := hD
        refine lv_if_eq (tgt := 43) hx hb dX11_note_19 (by decide) (fun h9 => absurd h9 (by decide)) (fun _ => ?_)
        refine lv_iload hx hb dX11_note_22 (lv_at hl 4 rfl) ?_
        have hs22 : kw_Split [(mrf, .inl (y 0, 3, .inl frf)), (mo, .inr (11, [.ref to, .ref ke, .ref ik, .ref mrf, .long mab, .long mbl, .ref ha, .ref r0, .ref mbr, .ref mbp, .ref mby, .int (nI bl), .int (nI ta), .int (nI tl), .int (nI tk), .int vv, .ref an, .ref va])), (to, .inl (y 0, 228, .inl ft))] [] [(mrf, .inl (y 0, 3, .inl frf)), (mo, .inr (11, [.ref to, .ref ke, .ref ik, .ref mrf, .long mab, .long mbl, .ref ha, .ref r0, .ref mbr, .ref mbp, .ref mby, .int (nI bl), .int (nI ta), .int (nI tl), .int (nI tk), .int vv, .ref an, .ref va])), (to, .inl (y 0, 228, .inl ft))] [] [0, 1, 2] := ⟨rfl, rfl, rfl, rfl, rfl, by decide⟩
        refine kw_go_i hs22 hP hD hS hA (va_runS (As := [.int (nI an4)]) (rest := []) ⟨hx, hb, hml, hown, hts⟩ (gr_isCloud l D y (nI an4)  _) (va_cwS 1 hts gX11_note_X11_isCloud rfl rfl rfl (by decide +kernel) ⟨Nat.le_of_ble_eq_true rfl, Nat.le_of_ble_eq_true rfl⟩) (kw_PreS hs22 hP hD hK hN) rfl rfl hl.1 rfl (lv_room (Nat.le_of_ble_eq_true rfl)) dX11_note_24 ⟨Nat.le_of_ble_eq_true rfl, Nat.le_of_ble_eq_true rfl⟩) (fun r23 u24 H locs hq hP hD hS => ?_)
        rcases hq with ⟨j25, h26, h27, rfl⟩ | ⟨h28, rfl⟩
        · skip
          have h27 : an4 = j25 := (nI_eq (a := an4) (b := j25) (by omega) (by omega)).mp h27
          have hP : va_P D vwCl [(mrf, .inl (y 0, 3, .inl frf)), (mo, .inr (11, [.ref to, .ref ke, .ref ik, .ref mrf, .long mab, .long mbl, .ref ha, .ref r0, .ref mbr, .ref mbp, .ref mby, .int (nI bl), .int (nI ta), .int (nI tl), .int (nI tk), .int vv, .ref an, .ref va])), (to, .inl (y 0, 228, .inl ft))] H := hP
          have hD : va_D A [(mrf, .inl (y 0, 3, .inl frf)), (mo, .inr (11, [.ref to, .ref ke, .ref ik, .ref mrf, .long mab, .long mbl, .ref ha, .ref r0, .ref mbr, .ref mbp, .ref mby, .int (nI bl), .int (nI ta), .int (nI tl), .int (nI tk), .int vv, .ref an, .ref va])), (to, .inl (y 0, 228, .inl ft))] := hD
          refine lv_if_eq (tgt := 43) hx hb dX11_note_27 (by decide) (fun h9 => absurd h9 (by decide)) (fun _ => ?_)
          refine lv_iload hx hb dX11_note_30 (lv_at hl 5 rfl) ?_
          refine lv_i2l (v := (nI an5).toInt64) hx hb dX11_note_32 (rfl) ?_
          refine lv_lconst (v := 0) hx hb dX11_note_33 (by decide) ?_
          refine lv_ldc2 (v := 99) hx hb hown fw1 dX11_note_34 ?_
          have hs29 : kw_Split [(mrf, .inl (y 0, 3, .inl frf)), (mo, .inr (11, [.ref to, .ref ke, .ref ik, .ref mrf, .long mab, .long mbl, .ref ha, .ref r0, .ref mbr, .ref mbp, .ref mby, .int (nI bl), .int (nI ta), .int (nI tl), .int (nI tk), .int vv, .ref an, .ref va])), (to, .inl (y 0, 228, .inl ft))] [] [(mrf, .inl (y 0, 3, .inl frf)), (mo, .inr (11, [.ref to, .ref ke, .ref ik, .ref mrf, .long mab, .long mbl, .ref ha, .ref r0, .ref mbr, .ref mbp, .ref mby, .int (nI bl), .int (nI ta), .int (nI tl), .int (nI tk), .int vv, .ref an, .ref va])), (to, .inl (y 0, 228, .inl ft))] [] [0, 1, 2] := ⟨rfl, rfl, rfl, rfl, rfl, by decide⟩
          refine kw_go_i hs29 hP hD hS hA (va_runS (As := [.long ((nI an5).toInt64), .long 0, .long 99]) (rest := []) ⟨hx, hb, hml, hown, hts⟩ (gr_in l D y (nI an5) 0 99 (by omega) (by omega) _) (va_cwS 3 hts gX11_note_X11_in rfl rfl rfl (by decide +kernel) ⟨Nat.le_of_ble_eq_true rfl, Nat.le_of_ble_eq_true rfl⟩) (kw_PreS hs29 hP hD hK hN) rfl rfl hl.1 rfl (lv_room (Nat.le_of_ble_eq_true rfl)) dX11_note_37 ⟨Nat.le_of_ble_eq_true rfl, Nat.le_of_ble_eq_true rfl⟩) (fun r30 u31 H locs hq hP hD hS => ?_)
          rcases hq with ⟨j32, h33, h34, h35, rfl⟩ | ⟨h36, rfl⟩
          · skip
            have h35 : an5 = j32 := (nI_eq (a := an5) (b := j32) (by omega) (by omega)).mp h35
            have hP : va_P D vwCl [(mrf, .inl (y 0, 3, .inl frf)), (mo, .inr (11, [.ref to, .ref ke, .ref ik, .ref mrf, .long mab, .long mbl, .ref ha, .ref r0, .ref mbr, .ref mbp, .ref mby, .int (nI bl), .int (nI ta), .int (nI tl), .int (nI tk), .int vv, .ref an, .ref va])), (to, .inl (y 0, 228, .inl ft))] H := hP
            have hD : va_D A [(mrf, .inl (y 0, 3, .inl frf)), (mo, .inr (11, [.ref to, .ref ke, .ref ik, .ref mrf, .long mab, .long mbl, .ref ha, .ref r0, .ref mbr, .ref mbp, .ref mby, .int (nI bl), .int (nI ta), .int (nI tl), .int (nI tk), .int vv, .ref an, .ref va])), (to, .inl (y 0, 228, .inl ft))] := hD
            refine lv_if_ne (tgt := 50) hx hb dX11_note_40 (by decide) (fun _ => ?_) (fun h9 => absurd h9 (by decide))
            refine lv_aload_n hx hb dX11_note_50 rfl (lv_at hl 0 rfl) ?_
            refine va_get (D := D) (ci := 11) (v := .ref to) (C := RX11) (T := TX11) (N := 18) hx hb hts iw11 hown hK hP 1 rfl rfl 0 (by decide) fw2 (fun _ h9 => h9) rfl dX11_note_51 ?_
            refine lv_iconst (v := 3) hx hb dX11_note_54 (by decide) ?_
            refine va_iald hx hb hK hP 2 0 rfl rfl (by unfold vp_in; decide) dX11_note_55 ?_
            rw [show ((3 : Int32)).toNatClampNeg = 3 from rfl]
            rw [show (ft 3) = (nI 3) from hk3_]
            refine lv_bipush (v := 6) hx hb dX11_note_56 (by decide) ?_
            refine lv_icmp_ne (tgt := 66) hx hb dX11_note_58 (by decide) (fun h37 => ?_) (fun h38 => ?_)
            · skip
              have h37 : ¬ 3 = 6 := fun q9 => h37 ((nI_eq (a := 3) (b := 6) (by omega) (by omega)).mpr q9)
              refine lv_bipush (v := 46) hx hb dX11_note_66 (by decide) ?_
              refine lv_iconst (v := 5) hx hb dX11_note_68 (by decide) ?_
              refine lv_aload_n hx hb dX11_note_69 rfl (lv_at hl 0 rfl) ?_
              refine va_get (D := D) (ci := 11) (v := .ref to) (C := RX11) (T := TX11) (N := 18) hx hb hts iw11 hown hK hP 1 rfl rfl 0 (by decide) fw2 (fun _ h9 => h9) rfl dX11_note_70 ?_
              refine lv_iconst (v := 3) hx hb dX11_note_73 (by decide) ?_
              refine va_iald hx hb hK hP 2 0 rfl rfl (by unfold vp_in; decide) dX11_note_74 ?_
              rw [show ((3 : Int32)).toNatClampNeg = 3 from rfl]
              rw [show (ft 3) = (nI 3) from hk3_]
              refine lv_imul hx hb dX11_note_75 ?_
              rw [show 5 * (nI 3) = nI (15) from pk_mul 5 3]
              refine lv_iadd hx hb dX11_note_76 ?_
              rw [show 46 + (nI 15) = nI (61) from nI_add 46 15]
              refine lv_istore (lv' := [(6, .int (nI 61)), (0, .ref mo), (1, .int (nI an1)), (2, .int (nI an2)), (3, .int (nI an3)), (4, .int (nI an4)), (5, .int (nI an5))]) hx hb dX11_note_77 hl (by decide) rfl (fun ls hl => ?_)
              refine lv_aload_n hx hb dX11_note_79 rfl (lv_at hl 1 rfl) ?_
              refine va_get (D := D) (ci := 11) (v := .ref to) (C := RX11) (T := TX11) (N := 18) hx hb hts iw11 hown hK hP 1 rfl rfl 0 (by decide) fw2 (fun _ h9 => h9) rfl dX11_note_80 ?_
              refine lv_iload hx hb dX11_note_83 (lv_at hl 0 rfl) ?_
              refine lv_iload_n hx hb dX11_note_85 rfl (lv_at hl 2 rfl) ?_
              refine va_iast hx hb hK hP hD hS 2 0 rfl rfl (vp_in_nI (by omega) (by decide)) dX11_note_86 (fun H locs hP hD hS => ?_)
              rw [nI_clamp (n := 61) (by omega)] at hP hD
              have hr39 : kr_t 228 (upd ft 61 (nI an1)) := kr_up hkt (kr_free (by unfold kr_a; omega) (by unfold kr_s; omega))
              have hk40 : (upd ft 61 (nI an1)) 0 = (nI fi) := (pk_un (by decide)).trans hk0_
              have hk41 : (upd ft 61 (nI an1)) 1 = (nI gl) := (pk_un (by decide)).trans hk1_
              have hk42 : (upd ft 61 (nI an1)) 2 = (nI mi) := (pk_un (by decide)).trans hk2_
              have hk43 : (upd ft 61 (nI an1)) 3 = (nI 3) := (pk_un (by decide)).trans hk3_
              have hk44 : (upd ft 61 (nI an1)) 4 = (nI un) := (pk_un (by decide)).trans hk4_
              have hP : va_P D vwCl [(mrf, .inl (y 0, 3, .inl frf)), (mo, .inr (11, [.ref to, .ref ke, .ref ik, .ref mrf, .long mab, .long mbl, .ref ha, .ref r0, .ref mbr, .ref mbp, .ref mby, .int (nI bl), .int (nI ta), .int (nI tl), .int (nI tk), .int vv, .ref an, .ref va])), (to, .inl (y 0, 228, .inl (upd ft 61 (nI an1))))] H := hP
              have hD : va_D A [(mrf, .inl (y 0, 3, .inl frf)), (mo, .inr (11, [.ref to, .ref ke, .ref ik, .ref mrf, .long mab, .long mbl, .ref ha, .ref r0, .ref mbr, .ref mbp, .ref mby, .int (nI bl), .int (nI ta), .int (nI tl), .int (nI tk), .int vv, .ref an, .ref va])), (to, .inl (y 0, 228, .inl (upd ft 61 (nI an1))))] := hD
              refine lv_aload_n hx hb dX11_note_87 rfl (lv_at hl 1 rfl) ?_
              refine va_get (D := D) (ci := 11) (v := .ref to) (C := RX11) (T := TX11) (N := 18) hx hb hts iw11 hown hK hP 1 rfl rfl 0 (by decide) fw2 (fun _ h9 => h9) rfl dX11_note_88 ?_
              refine lv_iload hx hb dX11_note_91 (lv_at hl 0 rfl) ?_
              refine lv_iconst (v := 1) hx hb dX11_note_93 (by decide) ?_
              refine lv_iadd hx hb dX11_note_94 ?_
              rw [show (nI 61) + 1 = nI (62) from nI_add 61 1]
              refine lv_iload_n hx hb dX11_note_95 rfl (lv_at hl 3 rfl) ?_
              refine va_iast hx hb hK hP hD hS 2 0 rfl rfl (vp_in_nI (by omega) (by decide)) dX11_note_96 (fun H locs hP hD hS => ?_)
              rw [nI_clamp (n := 62) (by omega)] at hP hD
              have hr45 : kr_t 228 (upd (upd ft 61 (nI an1)) 62 (nI an2)) := kr_up hr39 (kr_free (by unfold kr_a; omega) (by unfold kr_s; omega))
              have hk46 : (upd (upd ft 61 (nI an1)) 62 (nI an2)) 0 = (nI fi) := (pk_un (by decide)).trans hk40
              have hk47 : (upd (upd ft 61 (nI an1)) 62 (nI an2)) 1 = (nI gl) := (pk_un (by decide)).trans hk41
              have hk48 : (upd (upd ft 61 (nI an1)) 62 (nI an2)) 2 = (nI mi) := (pk_un (by decide)).trans hk42
              have hk49 : (upd (upd ft 61 (nI an1)) 62 (nI an2)) 3 = (nI 3) := (pk_un (by decide)).trans hk43
              have hk50 : (upd (upd ft 61 (nI an1)) 62 (nI an2)) 4 = (nI un) := (pk_un (by decide)).trans hk44
              have hP : va_P D vwCl [(mrf, .inl (y 0, 3, .inl frf)), (mo, .inr (11, [.ref to, .ref ke, .ref ik, .ref mrf, .long mab, .long mbl, .ref ha, .ref r0, .ref mbr, .ref mbp, .ref mby, .int (nI bl), .int (nI ta), .int (nI tl), .int (nI tk), .int vv, .ref an, .ref va])), (to, .inl (y 0, 228, .inl (upd (upd ft 61 (nI an1)) 62 (nI an2))))] H := hP
              have hD : va_D A [(mrf, .inl (y 0, 3, .inl frf)), (mo, .inr (11, [.ref to, .ref ke, .ref ik, .ref mrf, .long mab, .long mbl, .ref ha, .ref r0, .ref mbr, .ref mbp, .ref mby, .int (nI bl), .int (nI ta), .int (nI tl), .int (nI tk), .int vv, .ref an, .ref va])), (to, .inl (y 0, 228, .inl (upd (upd ft 61 (nI an1)) 62 (nI an2))))] := hD
              refine lv_aload_n hx hb dX11_note_97 rfl (lv_at hl 1 rfl) ?_
              refine va_get (D := D) (ci := 11) (v := .ref to) (C := RX11) (T := TX11) (N := 18) hx hb hts iw11 hown hK hP 1 rfl rfl 0 (by decide) fw2 (fun _ h9 => h9) rfl dX11_note_98 ?_
              refine lv_iload hx hb dX11_note_101 (lv_at hl 0 rfl) ?_
              refine lv_iconst (v := 2) hx hb dX11_note_103 (by decide) ?_
              refine lv_iadd hx hb dX11_note_104 ?_
              rw [show (nI 61) + 2 = nI (63) from nI_add 61 2]
              refine lv_iload_n hx hb dX11_note_105 rfl (lv_at hl 4 rfl) ?_
              refine va_iast hx hb hK hP hD hS 2 0 rfl rfl (vp_in_nI (by omega) (by decide)) dX11_note_106 (fun H locs hP hD hS => ?_)
              rw [nI_clamp (n := 63) (by omega)] at hP hD
              have hr51 : kr_t 228 (upd (upd (upd ft 61 (nI an1)) 62 (nI an2)) 63 (nI an3)) := kr_up hr45 (kr_free (by unfold kr_a; omega) (by unfold kr_s; omega))
              have hk52 : (upd (upd (upd ft 61 (nI an1)) 62 (nI an2)) 63 (nI an3)) 0 = (nI fi) := (pk_un (by decide)).trans hk46
              have hk53 : (upd (upd (upd ft 61 (nI an1)) 62 (nI an2)) 63 (nI an3)) 1 = (nI gl) := (pk_un (by decide)).trans hk47
              have hk54 : (upd (upd (upd ft 61 (nI an1)) 62 (nI an2)) 63 (nI an3)) 2 = (nI mi) := (pk_un (by decide)).trans hk48
              have hk55 : (upd (upd (upd ft 61 (nI an1)) 62 (nI an2)) 63 (nI an3)) 3 = (nI 3) := (pk_un (by decide)).trans hk49
              have hk56 : (upd (upd (upd ft 61 (nI an1)) 62 (nI an2)) 63 (nI an3)) 4 = (nI un) := (pk_un (by decide)).trans hk50
              have hP : va_P D vwCl [(mrf, .inl (y 0, 3, .inl frf)), (mo, .inr (11, [.ref to, .ref ke, .ref ik, .ref mrf, .long mab, .long mbl, .ref ha, .ref r0, .ref mbr, .ref mbp, .ref mby, .int (nI bl), .int (nI ta), .int (nI tl), .int (nI tk), .int vv, .ref an, .ref va])), (to, .inl (y 0, 228, .inl (upd (upd (upd ft 61 (nI an1)) 62 (nI an2)) 63 (nI an3))))] H := hP
              have hD : va_D A [(mrf, .inl (y 0, 3, .inl frf)), (mo, .inr (11, [.ref to, .ref ke, .ref ik, .ref mrf, .long mab, .long mbl, .ref ha, .ref r0, .ref mbr, .ref mbp, .ref mby, .int (nI bl), .int (nI ta), .int (nI tl), .int (nI tk), .int vv, .ref an, .ref va])), (to, .inl (y 0, 228, .inl (upd (upd (upd ft 61 (nI an1)) 62 (nI an2)) 63 (nI an3))))] := hD
              refine lv_aload_n hx hb dX11_note_107 rfl (lv_at hl 1 rfl) ?_
              refine va_get (D := D) (ci := 11) (v := .ref to) (C := RX11) (T := TX11) (N := 18) hx hb hts iw11 hown hK hP 1 rfl rfl 0 (by decide) fw2 (fun _ h9 => h9) rfl dX11_note_108 ?_
              refine lv_iload hx hb dX11_note_111 (lv_at hl 0 rfl) ?_
              refine lv_iconst (v := 3) hx hb dX11_note_113 (by decide) ?_
              refine lv_iadd hx hb dX11_note_114 ?_
              rw [show (nI 61) + 3 = nI (64) from nI_add 61 3]
              refine lv_iload hx hb dX11_note_115 (lv_at hl 5 rfl) ?_
              refine va_iast hx hb hK hP hD hS 2 0 rfl rfl (vp_in_nI (by omega) (by decide)) dX11_note_117 (fun H locs hP hD hS => ?_)
              rw [nI_clamp (n := 64) (by omega)] at hP hD
              have hr57 : kr_t 228 (upd (upd (upd (upd ft 61 (nI an1)) 62 (nI an2)) 63 (nI an3)) 64 (nI an4)) := kr_up hr51 (kr_free (by unfold kr_a; omega) (by unfold kr_s; omega))
              have hk58 : (upd (upd (upd (upd ft 61 (nI an1)) 62 (nI an2)) 63 (nI an3)) 64 (nI an4)) 0 = (nI fi) := (pk_un (by decide)).trans hk52
              have hk59 : (upd (upd (upd (upd ft 61 (nI an1)) 62 (nI an2)) 63 (nI an3)) 64 (nI an4)) 1 = (nI gl) := (pk_un (by decide)).trans hk53
              have hk60 : (upd (upd (upd (upd ft 61 (nI an1)) 62 (nI an2)) 63 (nI an3)) 64 (nI an4)) 2 = (nI mi) := (pk_un (by decide)).trans hk54
              have hk61 : (upd (upd (upd (upd ft 61 (nI an1)) 62 (nI an2)) 63 (nI an3)) 64 (nI an4)) 3 = (nI 3) := (pk_un (by decide)).trans hk55
              have hk62 : (upd (upd (upd (upd ft 61 (nI an1)) 62 (nI an2)) 63 (nI an3)) 64 (nI an4)) 4 = (nI un) := (pk_un (by decide)).trans hk56
              have hP : va_P D vwCl [(mrf, .inl (y 0, 3, .inl frf)), (mo, .inr (11, [.ref to, .ref ke, .ref ik, .ref mrf, .long mab, .long mbl, .ref ha, .ref r0, .ref mbr, .ref mbp, .ref mby, .int (nI bl), .int (nI ta), .int (nI tl), .int (nI tk), .int vv, .ref an, .ref va])), (to, .inl (y 0, 228, .inl (upd (upd (upd (upd ft 61 (nI an1)) 62 (nI an2)) 63 (nI an3)) 64 (nI an4))))] H := hP
              have hD : va_D A [(mrf, .inl (y 0, 3, .inl frf)), (mo, .inr (11, [.ref to, .ref ke, .ref ik, .ref mrf, .long mab, .long mbl, .ref ha, .ref r0, .ref mbr, .ref mbp, .ref mby, .int (nI bl), .int (nI ta), .int (nI tl), .int (nI tk), .int vv, .ref an, .ref va])), (to, .inl (y 0, 228, .inl (upd (upd (upd (upd ft 61 (nI an1)) 62 (nI an2)) 63 (nI an3)) 64 (nI an4))))] := hD
              refine lv_aload_n hx hb dX11_note_118 rfl (lv_at hl 1 rfl) ?_
              refine va_get (D := D) (ci := 11) (v := .ref to) (C := RX11) (T := TX11) (N := 18) hx hb hts iw11 hown hK hP 1 rfl rfl 0 (by decide) fw2 (fun _ h9 => h9) rfl dX11_note_119 ?_
              refine lv_iload hx hb dX11_note_122 (lv_at hl 0 rfl) ?_
              refine lv_iconst (v := 4) hx hb dX11_note_124 (by decide) ?_
              refine lv_iadd hx hb dX11_note_125 ?_
              rw [show (nI 61) + 4 = nI (65) from nI_add 61 4]
              refine lv_iload hx hb dX11_note_126 (lv_at hl 6 rfl) ?_
              refine va_iast hx hb hK hP hD hS 2 0 rfl rfl (vp_in_nI (by omega) (by decide)) dX11_note_128 (fun H locs hP hD hS => ?_)
              rw [nI_clamp (n := 65) (by omega)] at hP hD
              have hr63 : kr_t 228 (upd (upd (upd (upd (upd ft 61 (nI an1)) 62 (nI an2)) 63 (nI an3)) 64 (nI an4)) 65 (nI an5)) := kr_up hr57 (kr_free (by unfold kr_a; omega) (by unfold kr_s; omega))
              have hk64 : (upd (upd (upd (upd (upd ft 61 (nI an1)) 62 (nI an2)) 63 (nI an3)) 64 (nI an4)) 65 (nI an5)) 0 = (nI fi) := (pk_un (by decide)).trans hk58
              have hk65 : (upd (upd (upd (upd (upd ft 61 (nI an1)) 62 (nI an2)) 63 (nI an3)) 64 (nI an4)) 65 (nI an5)) 1 = (nI gl) := (pk_un (by decide)).trans hk59
              have hk66 : (upd (upd (upd (upd (upd ft 61 (nI an1)) 62 (nI an2)) 63 (nI an3)) 64 (nI an4)) 65 (nI an5)) 2 = (nI mi) := (pk_un (by decide)).trans hk60
              have hk67 : (upd (upd (upd (upd (upd ft 61 (nI an1)) 62 (nI an2)) 63 (nI an3)) 64 (nI an4)) 65 (nI an5)) 3 = (nI 3) := (pk_un (by decide)).trans hk61
              have hk68 : (upd (upd (upd (upd (upd ft 61 (nI an1)) 62 (nI an2)) 63 (nI an3)) 64 (nI an4)) 65 (nI an5)) 4 = (nI un) := (pk_un (by decide)).trans hk62
              have hP : va_P D vwCl [(mrf, .inl (y 0, 3, .inl frf)), (mo, .inr (11, [.ref to, .ref ke, .ref ik, .ref mrf, .long mab, .long mbl, .ref ha, .ref r0, .ref mbr, .ref mbp, .ref mby, .int (nI bl), .int (nI ta), .int (nI tl), .int (nI tk), .int vv, .ref an, .ref va])), (to, .inl (y 0, 228, .inl (upd (upd (upd (upd (upd ft 61 (nI an1)) 62 (nI an2)) 63 (nI an3)) 64 (nI an4)) 65 (nI an5))))] H := hP
              have hD : va_D A [(mrf, .inl (y 0, 3, .inl frf)), (mo, .inr (11, [.ref to, .ref ke, .ref ik, .ref mrf, .long mab, .long mbl, .ref ha, .ref r0, .ref mbr, .ref mbp, .ref mby, .int (nI bl), .int (nI ta), .int (nI tl), .int (nI tk), .int vv, .ref an, .ref va])), (to, .inl (y 0, 228, .inl (upd (upd (upd (upd (upd ft 61 (nI an1)) 62 (nI an2)) 63 (nI an3)) 64 (nI an4)) 65 (nI an5))))] := hD
              refine lv_aload_n hx hb dX11_note_129 rfl (lv_at hl 1 rfl) ?_
              refine va_get (D := D) (ci := 11) (v := .ref to) (C := RX11) (T := TX11) (N := 18) hx hb hts iw11 hown hK hP 1 rfl rfl 0 (by decide) fw2 (fun _ h9 => h9) rfl dX11_note_130 ?_
              refine lv_iconst (v := 3) hx hb dX11_note_133 (by decide) ?_
              refine lv_dup2_11 hx hb dX11_note_134 rfl rfl ?_
              refine va_iald hx hb hK hP 2 0 rfl rfl (by unfold vp_in; decide) dX11_note_135 ?_
              rw [show ((3 : Int32)).toNatClampNeg = 3 from rfl]
              rw [show ((upd (upd (upd (upd (upd ft 61 (nI an1)) 62 (nI an2)) 63 (nI an3)) 64 (nI an4)) 65 (nI an5)) 3) = (nI 3) from hk67]
              refine lv_iconst (v := 1) hx hb dX11_note_136 (by decide) ?_
              refine lv_iadd hx hb dX11_note_137 ?_
              rw [show (nI 3) + 1 = nI (4) from nI_add 3 1]
              refine va_iast hx hb hK hP hD hS 2 0 rfl rfl (by unfold vp_in; decide) dX11_note_138 (fun H locs hP hD hS => ?_)
              rw [show ((3 : Int32)).toNatClampNeg = 3 from rfl] at hP hD
              have hr69 : kr_t 228 (upd (upd (upd (upd (upd (upd ft 61 (nI an1)) 62 (nI an2)) 63 (nI an3)) 64 (nI an4)) 65 (nI an5)) 3 (nI 4)) := kr_up hr63 (kr_free (by unfold kr_a; omega) (by unfold kr_s; omega))
              have hk70 : (upd (upd (upd (upd (upd (upd ft 61 (nI an1)) 62 (nI an2)) 63 (nI an3)) 64 (nI an4)) 65 (nI an5)) 3 (nI 4)) 0 = (nI fi) := (pk_un (by decide)).trans hk64
              have hk71 : (upd (upd (upd (upd (upd (upd ft 61 (nI an1)) 62 (nI an2)) 63 (nI an3)) 64 (nI an4)) 65 (nI an5)) 3 (nI 4)) 1 = (nI gl) := (pk_un (by decide)).trans hk65
              have hk72 : (upd (upd (upd (upd (upd (upd ft 61 (nI an1)) 62 (nI an2)) 63 (nI an3)) 64 (nI an4)) 65 (nI an5)) 3 (nI 4)) 2 = (nI mi) := (pk_un (by decide)).trans hk66
              have hk73 : (upd (upd (upd (upd (upd (upd ft 61 (nI an1)) 62 (nI an2)) 63 (nI an3)) 64 (nI an4)) 65 (nI an5)) 3 (nI 4)) 4 = (nI un) := (pk_un (by decide)).trans hk68
              have hk74 : (upd (upd (upd (upd (upd (upd ft 61 (nI an1)) 62 (nI an2)) 63 (nI an3)) 64 (nI an4)) 65 (nI an5)) 3 (nI 4)) 3 = (nI 4) := pk_us
              have hP : va_P D vwCl [(mrf, .inl (y 0, 3, .inl frf)), (mo, .inr (11, [.ref to, .ref ke, .ref ik, .ref mrf, .long mab, .long mbl, .ref ha, .ref r0, .ref mbr, .ref mbp, .ref mby, .int (nI bl), .int (nI ta), .int (nI tl), .int (nI tk), .int vv, .ref an, .ref va])), (to, .inl (y 0, 228, .inl (upd (upd (upd (upd (upd (upd ft 61 (nI an1)) 62 (nI an2)) 63 (nI an3)) 64 (nI an4)) 65 (nI an5)) 3 (nI 4))))] H := hP
              have hD : va_D A [(mrf, .inl (y 0, 3, .inl frf)), (mo, .inr (11, [.ref to, .ref ke, .ref ik, .ref mrf, .long mab, .long mbl, .ref ha, .ref r0, .ref mbr, .ref mbp, .ref mby, .int (nI bl), .int (nI ta), .int (nI tl), .int (nI tk), .int vv, .ref an, .ref va])), (to, .inl (y 0, 228, .inl (upd (upd (upd (upd (upd (upd ft 61 (nI an1)) 62 (nI an2)) 63 (nI an3)) 64 (nI an4)) 65 (nI an5)) 3 (nI 4))))] := hD
              refine lv_aload_n hx hb dX11_note_139 rfl (lv_at hl 1 rfl) ?_
              refine va_get (D := D) (ci := 11) (v := .ref to) (C := RX11) (T := TX11) (N := 18) hx hb hts iw11 hown hK hP 1 rfl rfl 0 (by decide) fw2 (fun _ h9 => h9) rfl dX11_note_140 ?_
              refine lv_iconst (v := 3) hx hb dX11_note_143 (by decide) ?_
              refine va_iald hx hb hK hP 2 0 rfl rfl (by unfold vp_in; decide) dX11_note_144 ?_
              rw [show ((3 : Int32)).toNatClampNeg = 3 from rfl]
              rw [show ((upd (upd (upd (upd (upd (upd ft 61 (nI an1)) 62 (nI an2)) 63 (nI an3)) 64 (nI an4)) 65 (nI an5)) 3 (nI 4)) 3) = (nI 4) from hk74]
              exact W.iret (v := (nI 4)) hx hb hr (fun tZ ht hW => ⟨⟨(nI 4), (), rfl, ⟨hr69, hk70, hk71, hk72, hk74, hk73, by first | omega | (dsimp only; omega), rfl⟩, by rw [ht]; exact hP.sub [1, 0, 2] rfl, hD.sub [1, 0, 2] (by decide) rfl⟩, hS.F ht⟩) hS.2.2 dX11_note_145
            · skip
              have h38 : 3 = 6 := (nI_eq (a := 3) (b := 6) (by omega) (by omega)).mp h38
              exact absurd h38 (by omega)
          · skip
            exact absurd ⟨an5, by omega, by omega, rfl⟩ h36
        · skip
          exact absurd ⟨an4, by omega, by omega, rfl⟩ h28
      · skip
        exact absurd ⟨an3, by omega, by omega, rfl⟩ h21
    · skip
      exact absurd ⟨an2, by omega, by omega, rfl⟩ h14
  · skip
    exact absurd ⟨an1, by omega, rfl⟩ h7

set_option maxHeartbeats 4000000 in
set_option maxRecDepth 100000 in
theorem gd_addNote4 (l : Launch) (D : va_G) (y : Nat → ClassId) (nw : Nat) (kk : Nat) (nk : Nat) (nd : Nat) (ne : Nat) (nm : Nat) (nn : Nat) (fi : Nat) (gl : Nat) (un : Nat) (mi : Nat) (no : Nat) (t0 : Nat) (t1 : Nat) (t2 : Nat) (t3 : Nat) (t4 : Nat) (t5 : Nat) (t0f : Nat → Int32) (t1f : Nat → Int32) (t2f : Nat → Int32) (t3f : Nat → Int32) (t4f : Nat → Int32) (t5f : Nat → Int32) (fn_ : Nat → Option Nat) (x0 : Int32) (x : Int32) (x2 : Int32) (x3 : Int32) (x4 : Int32) (hfi : fi ≤ 6) (hgl : gl ≤ 5) (hun : un ≤ 8) (hmi : mi ≤ 4) (hno : no ≤ 6) (hn0 : fn_ 0 = some t0) (hn1 : fn_ 1 = some t1) (hn2 : fn_ 2 = some t2) (hn3 : fn_ 3 = some t3) (hn4 : fn_ 4 = some t4) (hn5 : fn_ 5 = some t5) (hj : no = 4) : kw_Mi l yX4_addNote wsX4_addNote ({ frames := 1, cells := 0, slots := 0, locals := 60 }) D y [.ref nw, .int x0, .int x, .int x2, .int x3, .int x4] [(nw, .inr (4, [.ref kk, .ref nk, .ref nd, .ref ne, .ref nm, .ref nn, .int (nI fi), .int (nI gl), .int (nI un), .int (nI mi), .int (nI no)])), (nn, .inl (y 6, 6, .inr (.inr (.inr (.inr fn_))))), (t0, .inl (y 0, 5, .inl t0f)), (t1, .inl (y 0, 5, .inl t1f)), (t2, .inl (y 0, 5, .inl t2f)), (t3, .inl (y 0, 5, .inl t3f)), (t4, .inl (y 0, 5, .inl t4f)), (t5, .inl (y 0, 5, .inl t5f))] (fun (r : Int32) (u : Unit) => r = (nI (no + 1))) (fun _ => [(nw, .inr (4, [.ref kk, .ref nk, .ref nd, .ref ne, .ref nm, .ref nn, .int (nI fi), .int (nI gl), .int (nI un), .int (nI mi), .int (nI (no + 1))])), (nn, .inl (y 6, 6, .inr (.inr (.inr (.inr fn_))))), (t0, .inl (y 0, 5, .inl t0f)), (t1, .inl (y 0, 5, .inl t1f)), (t2, .inl (y 0, 5, .inl t2f)), (t3, .inl (y 0, 5, .inl t3f)), (t4, .inl (y 0, 5, .inl (upd (upd (upd (upd (upd t4f 0 x0) 1 x) 2 x2) 3 x3) 4 x4))), (t5, .inl (y 0, 5, .inl t5f))]) 0 0 := by
  refine kw_Mi.of (cc := cX4_addNote) (maxL := 7) (ret := (some .int)) (by decide) rfl ?_
  intro pZ eZ s mZ beZ meZ cZ A hE
  obtain ⟨hx, hb, hr, hml, hts, hown, hlocks, hin, hA, hP, hD, hK, hN⟩ := hE
  have hS : va_S A s.heap s.heap [] := va_S.rf
  have hl := lv_entry ([.ref nw, .int x0, .int x, .int x2, .int x3, .int x4]) (n := 7) (Nat.le_of_ble_eq_true rfl)
  rw [lg_entry_eq]
  generalize (lg_sl ([.ref nw, .int x0, .int x, .int x2, .int x3, .int x4]) ++ List.replicate (7 - (lg_sl ([.ref nw, .int x0, .int x, .int x2, .int x3, .int x4])).length) Slot.unset).toArray = ls at hl ⊢
  have hl : lv_has ls 7 [(0, .ref nw), (1, .int x0), (2, .int x), (3, .int x2), (4, .int x3), (5, .int x4)] := hl
  have fw1 := hts (.fieldLink RX4 31 "GleanDusk$Parish" "notes" "[[I") (List.mem_of_getElem? (i := 1) rfl)
  have fw2 := hts (.fieldLink RX4 51 "GleanDusk$Parish" "noteCount" "I") (List.mem_of_getElem? (i := 2) rfl)
  have iw4 : ∀ w ∈ wsX40, w ∈ wsX4_addNote := fun _ h => List.mem_cons_of_mem _ (List.mem_append_right _ h)
  obtain rfl : no = 4 := by omega
  refine lv_aload_n hx hb dX4_addNote_0 rfl (lv_at hl 0 rfl) ?_
  refine va_get (D := D) (ci := 4) (v := .ref nn) (C := RX4) (T := TX4) (N := 11) hx hb hts iw4 hown hK hP 0 rfl rfl 5 (by decide) fw1 (fun _ h9 => h9) rfl dX4_addNote_1 ?_
  refine lv_aload_n hx hb dX4_addNote_4 rfl (lv_at hl 0 rfl) ?_
  refine va_get (D := D) (ci := 4) (v := .int (nI 4)) (C := RX4) (T := TX4) (N := 11) hx hb hts iw4 hown hK hP 0 rfl rfl 10 (by decide) fw2 (fun _ h9 => h9) rfl dX4_addNote_5 ?_
  refine kw_aldQ hx hb hK hP 1 6 rfl rfl (vp_in_nI (by omega) (by decide)) dX4_addNote_8 ?_
  rw [nI_clamp (n := 4) (by omega), show va_rf (fn_ 4) = .ref t4 from congrArg va_rf hn4]
  refine lv_astore (lv' := [(6, .ref t4), (0, .ref nw), (1, .int x0), (2, .int x), (3, .int x2), (4, .int x3), (5, .int x4)]) hx hb dX4_addNote_9 hl (by decide) rfl (fun ls hl => ?_)
  refine lv_aload hx hb dX4_addNote_11 (lv_at hl 0 rfl) ?_
  refine lv_iconst (v := 0) hx hb dX4_addNote_13 (by decide) ?_
  refine lv_iload_n hx hb dX4_addNote_14 rfl (lv_at hl 2 rfl) ?_
  refine va_iast hx hb hK hP hD hS 6 0 rfl rfl (by unfold vp_in; decide) dX4_addNote_15 (fun H locs hP hD hS => ?_)
  rw [show ((0 : Int32)).toNatClampNeg = 0 from rfl] at hP hD
  have hP : va_P D vwCl [(nw, .inr (4, [.ref kk, .ref nk, .ref nd, .ref ne, .ref nm, .ref nn, .int (nI fi), .int (nI gl), .int (nI un), .int (nI mi), .int (nI 4)])), (nn, .inl (y 6, 6, .inr (.inr (.inr (.inr fn_))))), (t0, .inl (y 0, 5, .inl t0f)), (t1, .inl (y 0, 5, .inl t1f)), (t2, .inl (y 0, 5, .inl t2f)), (t3, .inl (y 0, 5, .inl t3f)), (t4, .inl (y 0, 5, .inl (upd t4f 0 x0))), (t5, .inl (y 0, 5, .inl t5f))] H := hP
  have hD : va_D A [(nw, .inr (4, [.ref kk, .ref nk, .ref nd, .ref ne, .ref nm, .ref nn, .int (nI fi), .int (nI gl), .int (nI un), .int (nI mi), .int (nI 4)])), (nn, .inl (y 6, 6, .inr (.inr (.inr (.inr fn_))))), (t0, .inl (y 0, 5, .inl t0f)), (t1, .inl (y 0, 5, .inl t1f)), (t2, .inl (y 0, 5, .inl t2f)), (t3, .inl (y 0, 5, .inl t3f)), (t4, .inl (y 0, 5, .inl (upd t4f 0 x0))), (t5, .inl (y 0, 5, .inl t5f))] := hD
  refine lv_aload hx hb dX4_addNote_16 (lv_at hl 0 rfl) ?_
  refine lv_iconst (v := 1) hx hb dX4_addNote_18 (by decide) ?_
  refine lv_iload_n hx hb dX4_addNote_19 rfl (lv_at hl 3 rfl) ?_
  refine va_iast hx hb hK hP hD hS 6 0 rfl rfl (by unfold vp_in; decide) dX4_addNote_20 (fun H locs hP hD hS => ?_)
  rw [show ((1 : Int32)).toNatClampNeg = 1 from rfl] at hP hD
  have hP : va_P D vwCl [(nw, .inr (4, [.ref kk, .ref nk, .ref nd, .ref ne, .ref nm, .ref nn, .int (nI fi), .int (nI gl), .int (nI un), .int (nI mi), .int (nI 4)])), (nn, .inl (y 6, 6, .inr (.inr (.inr (.inr fn_))))), (t0, .inl (y 0, 5, .inl t0f)), (t1, .inl (y 0, 5, .inl t1f)), (t2, .inl (y 0, 5, .inl t2f)), (t3, .inl (y 0, 5, .inl t3f)), (t4, .inl (y 0, 5, .inl (upd (upd t4f 0 x0) 1 x))), (t5, .inl (y 0, 5, .inl t5f))] H := hP
  have hD : va_D A [(nw, .inr (4, [.ref kk, .ref nk, .ref nd, .ref ne, .ref nm, .ref nn, .int (nI fi), .int (nI gl), .int (nI un), .int (nI mi), .int (nI 4)])), (nn, .inl (y 6, 6, .inr (.inr (.inr (.inr fn_))))), (t0, .inl (y 0, 5, .inl t0f)), (t1, .inl (y 0, 5, .inl t1f)), (t2, .inl (y 0, 5, .inl t2f)), (t3, .inl (y 0, 5, .inl t3f)), (t4, .inl (y 0, 5, .inl (upd (upd t4f 0 x0) 1 x))), (t5, .inl (y 0, 5, .inl t5f))] := hD
  refine lv_aload hx hb dX4_addNote_21 (lv_at hl 0 rfl) ?_
  refine lv_iconst (v := 2) hx hb dX4_addNote_23 (by decide) ?_
  refine lv_iload_n hx hb dX4_addNote_24 rfl (lv_at hl 4 rfl) ?_
  refine va_iast hx hb hK hP hD hS 6 0 rfl rfl (by unfold vp_in; decide) dX4_addNote_25 (fun H locs hP hD hS => ?_)
  rw [show ((2 : Int32)).toNatClampNeg = 2 from rfl] at hP hD
  have hP : va_P D vwCl [(nw, .inr (4, [.ref kk, .ref nk, .ref nd, .ref ne, .ref nm, .ref nn, .int (nI fi), .int (nI gl), .int (nI un), .int (nI mi), .int (nI 4)])), (nn, .inl (y 6, 6, .inr (.inr (.inr (.inr fn_))))), (t0, .inl (y 0, 5, .inl t0f)), (t1, .inl (y 0, 5, .inl t1f)), (t2, .inl (y 0, 5, .inl t2f)), (t3, .inl (y 0, 5, .inl t3f)), (t4, .inl (y 0, 5, .inl (upd (upd (upd t4f 0 x0) 1 x) 2 x2))), (t5, .inl (y 0, 5, .inl t5f))] H := hP
  have hD : va_D A [(nw, .inr (4, [.ref kk, .ref nk, .ref nd, .ref ne, .ref nm, .ref nn, .int (nI fi), .int (nI gl), .int (nI un), .int (nI mi), .int (nI 4)])), (nn, .inl (y 6, 6, .inr (.inr (.inr (.inr fn_))))), (t0, .inl (y 0, 5, .inl t0f)), (t1, .inl (y 0, 5, .inl t1f)), (t2, .inl (y 0, 5, .inl t2f)), (t3, .inl (y 0, 5, .inl t3f)), (t4, .inl (y 0, 5, .inl (upd (upd (upd t4f 0 x0) 1 x) 2 x2))), (t5, .inl (y 0, 5, .inl t5f))] := hD
  refine lv_aload hx hb dX4_addNote_26 (lv_at hl 0 rfl) ?_
  refine lv_iconst (v := 3) hx hb dX4_addNote_28 (by decide) ?_
  refine lv_iload hx hb dX4_addNote_29 (lv_at hl 5 rfl) ?_
  refine va_iast hx hb hK hP hD hS 6 0 rfl rfl (by unfold vp_in; decide) dX4_addNote_31 (fun H locs hP hD hS => ?_)
  rw [show ((3 : Int32)).toNatClampNeg = 3 from rfl] at hP hD
  have hP : va_P D vwCl [(nw, .inr (4, [.ref kk, .ref nk, .ref nd, .ref ne, .ref nm, .ref nn, .int (nI fi), .int (nI gl), .int (nI un), .int (nI mi), .int (nI 4)])), (nn, .inl (y 6, 6, .inr (.inr (.inr (.inr fn_))))), (t0, .inl (y 0, 5, .inl t0f)), (t1, .inl (y 0, 5, .inl t1f)), (t2, .inl (y 0, 5, .inl t2f)), (t3, .inl (y 0, 5, .inl t3f)), (t4, .inl (y 0, 5, .inl (upd (upd (upd (upd t4f 0 x0) 1 x) 2 x2) 3 x3))), (t5, .inl (y 0, 5, .inl t5f))] H := hP
  have hD : va_D A [(nw, .inr (4, [.ref kk, .ref nk, .ref nd, .ref ne, .ref nm, .ref nn, .int (nI fi), .int (nI gl), .int (nI un), .int (nI mi), .int (nI 4)])), (nn, .inl (y 6, 6, .inr (.inr (.inr (.inr fn_))))), (t0, .inl (y 0, 5, .inl t0f)), (t1, .inl (y 0, 5, .inl t1f)), (t2, .inl (y 0, 5, .inl t2f)), (t3, .inl (y 0, 5, .inl t3f)), (t4, .inl (y 0, 5, .inl (upd (upd (upd (upd t4f 0 x0) 1 x) 2 x2) 3 x3))), (t5, .inl (y 0, 5, .inl t5f))] := hD
  refine lv_aload hx hb dX4_addNote_32 (lv_at hl 0 rfl) ?_
  refine lv_iconst (v := 4) hx hb dX4_addNote_34 (by decide) ?_
  refine lv_iload hx hb dX4_addNote_35 (lv_at hl 6 rfl) ?_
  refine va_iast hx hb hK hP hD hS 6 0 rfl rfl (by unfold vp_in; decide) dX4_addNote_37 (fun H locs hP hD hS => ?_)
  rw [show ((4 : Int32)).toNatClampNeg = 4 from rfl] at hP hD
  have hP : va_P D vwCl [(nw, .inr (4, [.ref kk, .ref nk, .ref nd, .ref ne, .ref nm, .ref nn, .int (nI fi), .int (nI gl), .int (nI un), .int (nI mi), .int (nI 4)])), (nn, .inl (y 6, 6, .inr (.inr (.inr (.inr fn_))))), (t0, .inl (y 0, 5, .inl t0f)), (t1, .inl (y 0, 5, .inl t1f)), (t2, .inl (y 0, 5, .inl t2f)), (t3, .inl (y 0, 5, .inl t3f)), (t4, .inl (y 0, 5, .inl (upd (upd (upd (upd (upd t4f 0 x0) 1 x) 2 x2) 3 x3) 4 x4))), (t5, .inl (y 0, 5, .inl t5f))] H := hP
  have hD : va_D A [(nw, .inr (4, [.ref kk, .ref nk, .ref nd, .ref ne, .ref nm, .ref nn, .int (nI fi), .int (nI gl), .int (nI un), .int (nI mi), .int (nI 4)])), (nn, .inl (y 6, 6, .inr (.inr (.inr (.inr fn_))))), (t0, .inl (y 0, 5, .inl t0f)), (t1, .inl (y 0, 5, .inl t1f)), (t2, .inl (y 0, 5, .inl t2f)), (t3, .inl (y 0, 5, .inl t3f)), (t4, .inl (y 0, 5, .inl (upd (upd (upd (upd (upd t4f 0 x0) 1 x) 2 x2) 3 x3) 4 x4))), (t5, .inl (y 0, 5, .inl t5f))] := hD
  refine lv_aload_n hx hb dX4_addNote_38 rfl (lv_at hl 1 rfl) ?_
  refine lv_dup hx hb dX4_addNote_39 rfl ?_
  refine va_get (D := D) (ci := 4) (v := .int (nI 4)) (C := RX4) (T := TX4) (N := 11) hx hb hts iw4 hown hK hP 0 rfl rfl 10 (by decide) fw2 (fun _ h9 => h9) rfl dX4_addNote_40 ?_
  refine lv_iconst (v := 1) hx hb dX4_addNote_43 (by decide) ?_
  refine lv_iadd hx hb dX4_addNote_44 ?_
  rw [show (nI 4) + 1 = nI (5) from nI_add 4 1]
  refine lv_dup_x1 hx hb dX4_addNote_45 rfl rfl ?_
  refine va_put (D := D) (ci := 4) (v := .int (nI 5)) (ty := .int) (C := RX4) (T := TX4) (N := 11) hx hb hts iw4 tyX4 tyX4_ok nmX4 hown hK hP hD hS 0 rfl rfl 10 (by decide) fw2 (fun _ h9 => h9) rfl (by decide +kernel) rfl rfl (Nat.le_of_ble_eq_true rfl) dX4_addNote_46 (fun H locs hP hD hS => ?_)
  have hP : va_P D vwCl [(nw, .inr (4, [.ref kk, .ref nk, .ref nd, .ref ne, .ref nm, .ref nn, .int (nI fi), .int (nI gl), .int (nI un), .int (nI mi), .int (nI 5)])), (nn, .inl (y 6, 6, .inr (.inr (.inr (.inr fn_))))), (t0, .inl (y 0, 5, .inl t0f)), (t1, .inl (y 0, 5, .inl t1f)), (t2, .inl (y 0, 5, .inl t2f)), (t3, .inl (y 0, 5, .inl t3f)), (t4, .inl (y 0, 5, .inl (upd (upd (upd (upd (upd t4f 0 x0) 1 x) 2 x2) 3 x3) 4 x4))), (t5, .inl (y 0, 5, .inl t5f))] H := hP
  have hD : va_D A [(nw, .inr (4, [.ref kk, .ref nk, .ref nd, .ref ne, .ref nm, .ref nn, .int (nI fi), .int (nI gl), .int (nI un), .int (nI mi), .int (nI 5)])), (nn, .inl (y 6, 6, .inr (.inr (.inr (.inr fn_))))), (t0, .inl (y 0, 5, .inl t0f)), (t1, .inl (y 0, 5, .inl t1f)), (t2, .inl (y 0, 5, .inl t2f)), (t3, .inl (y 0, 5, .inl t3f)), (t4, .inl (y 0, 5, .inl (upd (upd (upd (upd (upd t4f 0 x0) 1 x) 2 x2) 3 x3) 4 x4))), (t5, .inl (y 0, 5, .inl t5f))] := hD
  exact W.iret (v := (nI 5)) hx hb hr (fun tZ ht hW => ⟨⟨(nI 5), (), rfl, rfl, by rw [ht]; exact hP.sub [0, 1, 2, 3, 4, 5, 6, 7] rfl, hD.sub [0, 1, 2, 3, 4, 5, 6, 7] (by decide) rfl⟩, hS.F ht⟩) hS.2.2 dX4_addNote_49

set_option maxHeartbeats 4000000 in
set_option maxRecDepth 100000 in
theorem gx_note_d4 (l : Launch) (D : va_G) (y : Nat → ClassId) (g : Nat) (kk : Nat) (nw : Nat) (im : Nat) (kp : Nat) (tx : Nat) (tr : Nat) (be : Nat) (sh : Nat) (sd : Nat) (rf : Nat) (ab : Int32) (bl : Int32) (frf : Nat → Int32) (nk : Nat) (nd : Nat) (ne : Nat) (nm : Nat) (nn : Nat) (fi : Nat) (gl : Nat) (un : Nat) (mi : Nat) (no : Nat) (t0 : Nat) (t1 : Nat) (t2 : Nat) (t3 : Nat) (t4 : Nat) (t5 : Nat) (t0f : Nat → Int32) (t1f : Nat → Int32) (t2f : Nat → Int32) (t3f : Nat → Int32) (t4f : Nat → Int32) (t5f : Nat → Int32) (fn_ : Nat → Option Nat) (an1 : Nat) (an2 : Nat) (an3 : Nat) (an4 : Nat) (an5 : Nat) (hfi : fi ≤ 6) (hgl : gl ≤ 5) (hun : un ≤ 8) (hmi : mi ≤ 4) (hno : no ≤ 6) (hn0 : fn_ 0 = some t0) (hn1 : fn_ 1 = some t1) (hn2 : fn_ 2 = some t2) (hn3 : fn_ 3 = some t3) (hn4 : fn_ 4 = some t4) (hn5 : fn_ 5 = some t5) (hA2 : no < 6) (hj : no = 4) (hB0_ : an1 < fi) (hB1_ : an2 < 12) (hB2_ : an3 ≤ 60) (hB3_ : an4 < 10) (hB4_ : an5 ≤ 99) : kw_Mi l yX10_note wsX10_note ({ frames := 3, cells := 0, slots := 0, locals := 102 }) D y [.ref g, .int (nI an1), .int (nI an2), .int (nI an3), .int (nI an4), .int (nI an5)] [(g, .inr (10, [.ref kk, .ref nw, .ref im, .ref kp, .ref tx, .ref tr, .ref be, .ref sh, .ref sd, .ref rf, .int ab, .int bl])), (rf, .inl (y 0, 3, .inl frf)), (nw, .inr (4, [.ref kk, .ref nk, .ref nd, .ref ne, .ref nm, .ref nn, .int (nI fi), .int (nI gl), .int (nI un), .int (nI mi), .int (nI no)])), (nn, .inl (y 6, 6, .inr (.inr (.inr (.inr fn_))))), (t0, .inl (y 0, 5, .inl t0f)), (t1, .inl (y 0, 5, .inl t1f)), (t2, .inl (y 0, 5, .inl t2f)), (t3, .inl (y 0, 5, .inl t3f)), (t4, .inl (y 0, 5, .inl t4f)), (t5, .inl (y 0, 5, .inl t5f))] (fun (r : Int32) (u : Unit) => r = (nI (no + 1))) (fun _ => [(g, .inr (10, [.ref kk, .ref nw, .ref im, .ref kp, .ref tx, .ref tr, .ref be, .ref sh, .ref sd, .ref rf, .int ab, .int bl])), (rf, .inl (y 0, 3, .inl frf)), (nw, .inr (4, [.ref kk, .ref nk, .ref nd, .ref ne, .ref nm, .ref nn, .int (nI fi), .int (nI gl), .int (nI un), .int (nI mi), .int (nI (no + 1))])), (nn, .inl (y 6, 6, .inr (.inr (.inr (.inr fn_))))), (t0, .inl (y 0, 5, .inl t0f)), (t1, .inl (y 0, 5, .inl t1f)), (t2, .inl (y 0, 5, .inl t2f)), (t3, .inl (y 0, 5, .inl t3f)), (t4, .inl (y 0, 5, .inl (upd (upd (upd (upd (upd t4f 0 (nI an1)) 1 (nI an2)) 2 (nI an3)) 3 (nI an4)) 4 (nI an5)))), (t5, .inl (y 0, 5, .inl t5f))]) 0 0 := by
  refine kw_Mi.of (cc := cX10_note) (maxL := 6) (ret := (some .int)) (by decide) rfl ?_
  intro pZ eZ s mZ beZ meZ cZ A hE
  obtain ⟨hx, hb, hr, hml, hts, hown, hlocks, hin, hA, hP, hD, hK, hN⟩ := hE
  have hS : va_S A s.heap s.heap [] := va_S.rf
  have hl := lv_entry ([.ref g, .int (nI an1), .int (nI an2), .int (nI an3), .int (nI an4), .int (nI an5)]) (n := 6) (Nat.le_of_ble_eq_true rfl)
  rw [lg_entry_eq]
  generalize (lg_sl ([.ref g, .int (nI an1), .int (nI an2), .int (nI an3), .int (nI an4), .int (nI an5)]) ++ List.replicate (6 - (lg_sl ([.ref g, .int (nI an1), .int (nI an2), .int (nI an3), .int (nI an4), .int (nI an5)])).length) Slot.unset).toArray = ls at hl ⊢
  have hl : lv_has ls 6 [(0, .ref g), (1, .int (nI an1)), (2, .int (nI an2)), (3, .int (nI an3)), (4, .int (nI an4)), (5, .int (nI an5))] := hl
  have fw1 := hts (.fieldLink RX10 36 "GleanDusk" "now" "LGleanDusk$Parish;") (List.mem_of_getElem? (i := 1) rfl)
  have fw2 := hts (.fieldLink RX10 250 "GleanDusk$Parish" "noteCount" "I") (List.mem_of_getElem? (i := 2) rfl)
  have iw10 : ∀ w ∈ wsX100, w ∈ wsX10_note := fun _ h => List.mem_cons_of_mem _ (List.mem_append_left _ (List.mem_append_right _ h))
  have iw4 : ∀ w ∈ wsX40, w ∈ wsX10_note := fun _ h => List.mem_cons_of_mem _ (List.mem_append_right _ h)
  obtain rfl : no = 4 := by omega
  refine lv_aload_n hx hb dX10_note_0 rfl (lv_at hl 0 rfl) ?_
  refine va_get (D := D) (ci := 10) (v := .ref nw) (C := RX10) (T := TX10) (N := 12) hx hb hts iw10 hown hK hP 0 rfl rfl 1 (by decide) fw1 (fun _ h9 => h9) rfl dX10_note_1 ?_
  refine lv_iload_n hx hb dX10_note_4 rfl (lv_at hl 1 rfl) ?_
  have hs1 : kw_Split [(g, .inr (10, [.ref kk, .ref nw, .ref im, .ref kp, .ref tx, .ref tr, .ref be, .ref sh, .ref sd, .ref rf, .int ab, .int bl])), (rf, .inl (y 0, 3, .inl frf)), (nw, .inr (4, [.ref kk, .ref nk, .ref nd, .ref ne, .ref nm, .ref nn, .int (nI fi), .int (nI gl), .int (nI un), .int (nI mi), .int (nI 4)])), (nn, .inl (y 6, 6, .inr (.inr (.inr (.inr fn_))))), (t0, .inl (y 0, 5, .inl t0f)), (t1, .inl (y 0, 5, .inl t1f)), (t2, .inl (y 0, 5, .inl t2f)), (t3, .inl (y 0, 5, .inl t3f)), (t4, .inl (y 0, 5, .inl t4f)), (t5, .inl (y 0, 5, .inl t5f))] [(nw, .inr (4, [.ref kk, .ref nk, .ref nd, .ref ne, .ref nm, .ref nn, .int (nI fi), .int (nI gl), .int (nI un), .int (nI mi), .int (nI 4)]))] [(g, .inr (10, [.ref kk, .ref nw, .ref im, .ref kp, .ref tx, .ref tr, .ref be, .ref sh, .ref sd, .ref rf, .int ab, .int bl])), (rf, .inl (y 0, 3, .inl frf)), (nn, .inl (y 6, 6, .inr (.inr (.inr (.inr fn_))))), (t0, .inl (y 0, 5, .inl t0f)), (t1, .inl (y 0, 5, .inl t1f)), (t2, .inl (y 0, 5, .inl t2f)), (t3, .inl (y 0, 5, .inl t3f)), (t4, .inl (y 0, 5, .inl t4f)), (t5, .inl (y 0, 5, .inl t5f))] [2] [0, 1, 3, 4, 5, 6, 7, 8, 9] := ⟨rfl, rfl, rfl, rfl, rfl, by decide⟩
  refine kw_go_i hs1 hP hD hS hA (va_runV (As := [.int (nI an1)]) (rest := []) ⟨hx, hb, hml, hown, hts⟩ (gc_hasField l D y nw kk nk nd ne nm nn fi gl un mi 4 (nI an1) hfi hgl hun hmi hno _) (cwV 1 hts gX10_note_X4_hasField rfl rfl rfl (by decide +kernel) ⟨Nat.le_of_ble_eq_true rfl, Nat.le_of_ble_eq_true rfl⟩) (kw_PreV (ci := 4) (q0 := 2) hs1 hP hD hK hN rfl rfl) rfl rfl hl.1 rfl (lv_room (Nat.le_of_ble_eq_true rfl)) dX10_note_5 ⟨Nat.le_of_ble_eq_true rfl, Nat.le_of_ble_eq_true rfl⟩) (fun r2 u3 H locs hq hP hD hS => ?_)
  rcases hq with ⟨j4, h5, h6, rfl⟩ | ⟨h7, rfl⟩
  · skip
    have h6 : an1 = j4 := (nI_eq (a := an1) (b := j4) (by omega) (by omega)).mp h6
    have hP : va_P D vwCl [(g, .inr (10, [.ref kk, .ref nw, .ref im, .ref kp, .ref tx, .ref tr, .ref be, .ref sh, .ref sd, .ref rf, .int ab, .int bl])), (rf, .inl (y 0, 3, .inl frf)), (nn, .inl (y 6, 6, .inr (.inr (.inr (.inr fn_))))), (t0, .inl (y 0, 5, .inl t0f)), (t1, .inl (y 0, 5, .inl t1f)), (t2, .inl (y 0, 5, .inl t2f)), (t3, .inl (y 0, 5, .inl t3f)), (t4, .inl (y 0, 5, .inl t4f)), (t5, .inl (y 0, 5, .inl t5f)), (nw, .inr (4, [.ref kk, .ref nk, .ref nd, .ref ne, .ref nm, .ref nn, .int (nI fi), .int (nI gl), .int (nI un), .int (nI mi), .int (nI 4)]))] H := hP
    have hD : va_D A [(g, .inr (10, [.ref kk, .ref nw, .ref im, .ref kp, .ref tx, .ref tr, .ref be, .ref sh, .ref sd, .ref rf, .int ab, .int bl])), (rf, .inl (y 0, 3, .inl frf)), (nn, .inl (y 6, 6, .inr (.inr (.inr (.inr fn_))))), (t0, .inl (y 0, 5, .inl t0f)), (t1, .inl (y 0, 5, .inl t1f)), (t2, .inl (y 0, 5, .inl t2f)), (t3, .inl (y 0, 5, .inl t3f)), (t4, .inl (y 0, 5, .inl t4f)), (t5, .inl (y 0, 5, .inl t5f)), (nw, .inr (4, [.ref kk, .ref nk, .ref nd, .ref ne, .ref nm, .ref nn, .int (nI fi), .int (nI gl), .int (nI un), .int (nI mi), .int (nI 4)]))] := hD
    refine lv_if_eq (tgt := 27) hx hb dX10_note_8 (by decide) (fun h9 => absurd h9 (by decide)) (fun _ => ?_)
    refine lv_iload_n hx hb dX10_note_11 rfl (lv_at hl 2 rfl) ?_
    refine lv_bipush (v := 12) hx hb dX10_note_12 (by decide) ?_
    have hs8 : kw_Split [(g, .inr (10, [.ref kk, .ref nw, .ref im, .ref kp, .ref tx, .ref tr, .ref be, .ref sh, .ref sd, .ref rf, .int ab, .int bl])), (rf, .inl (y 0, 3, .inl frf)), (nn, .inl (y 6, 6, .inr (.inr (.inr (.inr fn_))))), (t0, .inl (y 0, 5, .inl t0f)), (t1, .inl (y 0, 5, .inl t1f)), (t2, .inl (y 0, 5, .inl t2f)), (t3, .inl (y 0, 5, .inl t3f)), (t4, .inl (y 0, 5, .inl t4f)), (t5, .inl (y 0, 5, .inl t5f)), (nw, .inr (4, [.ref kk, .ref nk, .ref nd, .ref ne, .ref nm, .ref nn, .int (nI fi), .int (nI gl), .int (nI un), .int (nI mi), .int (nI 4)]))] [] [(g, .inr (10, [.ref kk, .ref nw, .ref im, .ref kp, .ref tx, .ref tr, .ref be, .ref sh, .ref sd, .ref rf, .int ab, .int bl])), (rf, .inl (y 0, 3, .inl frf)), (nn, .inl (y 6, 6, .inr (.inr (.inr (.inr fn_))))), (t0, .inl (y 0, 5, .inl t0f)), (t1, .inl (y 0, 5, .inl t1f)), (t2, .inl (y 0, 5, .inl t2f)), (t3, .inl (y 0, 5, .inl t3f)), (t4, .inl (y 0, 5, .inl t4f)), (t5, .inl (y 0, 5, .inl t5f)), (nw, .inr (4, [.ref kk, .ref nk, .ref nd, .ref ne, .ref nm, .ref nn, .int (nI fi), .int (nI gl), .int (nI un), .int (nI mi), .int (nI 4)]))] [] [0, 1, 2, 3, 4, 5, 6, 7, 8, 9] := ⟨rfl, rfl, rfl, rfl, rfl, by decide⟩
    refine kw_go_i hs8 hP hD hS hA (va_runS (As := [.int (nI an2), .int 12]) (rest := []) ⟨hx, hb, hml, hown, hts⟩ (gc_isBelow l D y (nI an2) 12 (by omega) _) (va_cwS 2 hts gX10_note_X10_isBelow rfl rfl rfl (by decide +kernel) ⟨Nat.le_of_ble_eq_true rfl, Nat.le_of_ble_eq_true rfl⟩) (kw_PreS hs8 hP hD hK hN) rfl rfl hl.1 rfl (lv_room (Nat.le_of_ble_eq_true rfl)) dX10_note_14 ⟨Nat.le_of_ble_eq_true rfl, Nat.le_of_ble_eq_true rfl⟩) (fun r9 u10 H locs hq hP hD hS => ?_)
    rcases hq with ⟨j11, h12, h13, rfl⟩ | ⟨h14, rfl⟩
    · skip
      have h13 : an2 = j11 := (nI_eq (a := an2) (b := j11) (by omega) (by omega)).mp h13
      have hP : va_P D vwCl [(g, .inr (10, [.ref kk, .ref nw, .ref im, .ref kp, .ref tx, .ref tr, .ref be, .ref sh, .ref sd, .ref rf, .int ab, .int bl])), (rf, .inl (y 0, 3, .inl frf)), (nn, .inl (y 6, 6, .inr (.inr (.inr (.inr fn_))))), (t0, .inl (y 0, 5, .inl t0f)), (t1, .inl (y 0, 5, .inl t1f)), (t2, .inl (y 0, 5, .inl t2f)), (t3, .inl (y 0, 5, .inl t3f)), (t4, .inl (y 0, 5, .inl t4f)), (t5, .inl (y 0, 5, .inl t5f)), (nw, .inr (4, [.ref kk, .ref nk, .ref nd, .ref ne, .ref nm, .ref nn, .int (nI fi), .int (nI gl), .int (nI un), .int (nI mi), .int (nI 4)]))] H := hP
      have hD : va_D A [(g, .inr (10, [.ref kk, .ref nw, .ref im, .ref kp, .ref tx, .ref tr, .ref be, .ref sh, .ref sd, .ref rf, .int ab, .int bl])), (rf, .inl (y 0, 3, .inl frf)), (nn, .inl (y 6, 6, .inr (.inr (.inr (.inr fn_))))), (t0, .inl (y 0, 5, .inl t0f)), (t1, .inl (y 0, 5, .inl t1f)), (t2, .inl (y 0, 5, .inl t2f)), (t3, .inl (y 0, 5, .inl t3f)), (t4, .inl (y 0, 5, .inl t4f)), (t5, .inl (y 0, 5, .inl t5f)), (nw, .inr (4, [.ref kk, .ref nk, .ref nd, .ref ne, .ref nm, .ref nn, .int (nI fi), .int (nI gl), .int (nI un), .int (nI mi), .int (nI 4)]))] := hD
      refine lv_if_eq (tgt := 27) hx hb dX10_note_17 (by decide) (fun h9 => absurd h9 (by decide)) (fun _ => ?_)
      refine lv_iload_n hx hb dX10_note_20 rfl (lv_at hl 3 rfl) ?_
      have hs15 : kw_Split [(g, .inr (10, [.ref kk, .ref nw, .ref im, .ref kp, .ref tx, .ref tr, .ref be, .ref sh, .ref sd, .ref rf, .int ab, .int bl])), (rf, .inl (y 0, 3, .inl frf)), (nn, .inl (y 6, 6, .inr (.inr (.inr (.inr fn_))))), (t0, .inl (y 0, 5, .inl t0f)), (t1, .inl (y 0, 5, .inl t1f)), (t2, .inl (y 0, 5, .inl t2f)), (t3, .inl (y 0, 5, .inl t3f)), (t4, .inl (y 0, 5, .inl t4f)), (t5, .inl (y 0, 5, .inl t5f)), (nw, .inr (4, [.ref kk, .ref nk, .ref nd, .ref ne, .ref nm, .ref nn, .int (nI fi), .int (nI gl), .int (nI un), .int (nI mi), .int (nI 4)]))] [] [(g, .inr (10, [.ref kk, .ref nw, .ref im, .ref kp, .ref tx, .ref tr, .ref be, .ref sh, .ref sd, .ref rf, .int ab, .int bl])), (rf, .inl (y 0, 3, .inl frf)), (nn, .inl (y 6, 6, .inr (.inr (.inr (.inr fn_))))), (t0, .inl (y 0, 5, .inl t0f)), (t1, .inl (y 0, 5, .inl t1f)), (t2, .inl (y 0, 5, .inl t2f)), (t3, .inl (y 0, 5, .inl t3f)), (t4, .inl (y 0, 5, .inl t4f)), (t5, .inl (y 0, 5, .inl t5f)), (nw, .inr (4, [.ref kk, .ref nk, .ref nd, .ref ne, .ref nm, .ref nn, .int (nI fi), .int (nI gl), .int (nI un), .int (nI mi), .int (nI 4)]))] [] [0, 1, 2, 3, 4, 5, 6, 7, 8, 9] := ⟨rfl, rfl, rfl, rfl, rfl, by decide⟩
      refine kw_go_i hs15 hP hD hS hA (va_runS (As := [.int (nI an3)]) (rest := []) ⟨hx, hb, hml, hown, hts⟩ (gc_isLight l D y (nI an3)  _) (va_cwS 1 hts gX10_note_X10_isLight rfl rfl rfl (by decide +kernel) ⟨Nat.le_of_ble_eq_true rfl, Nat.le_of_ble_eq_true rfl⟩) (kw_PreS hs15 hP hD hK hN) rfl rfl hl.1 rfl (lv_room (Nat.le_of_ble_eq_true rfl)) dX10_note_21 ⟨Nat.le_of_ble_eq_true rfl, Nat.le_of_ble_eq_true rfl⟩) (fun r16 u17 H locs hq hP hD hS => ?_)
      rcases hq with ⟨j18, h19, h20, rfl⟩ | ⟨h21, rfl⟩
      · skip
        have h20 : an3 = j18 := (nI_eq (a := an3) (b := j18) (by omega) (by omega)).mp h20
        have hP : va_P D vwCl [(g, .inr (10, [.ref kk, .ref nw, .ref im, .ref kp, .ref tx, .ref tr, .ref be, .ref sh, .ref sd, .ref rf, .int ab, .int bl])), (rf, .inl (y 0, 3, .inl frf)), (nn, .inl (y 6, 6, .inr (.inr (.inr (.inr fn_))))), (t0, .inl (y 0, 5, .inl t0f)), (t1, .inl (y 0, 5, .inl t1f)), (t2, .inl (y 0, 5, .inl t2f)), (t3, .inl (y 0, 5, .inl t3f)), (t4, .inl (y 0, 5, .inl t4f)), (t5, .inl (y 0, 5, .inl t5f)), (nw, .inr (4, [.ref kk, .ref nk, .ref nd, .ref ne, .ref nm, .ref nn, .int (nI fi), .int (nI gl), .int (nI un), .int (nI mi), .int (nI 4)]))] H := hP
        have hD : va_D A [(g, .inr (10, [.ref kk, .ref nw, .ref im, .ref kp, .ref tx, .ref tr, .ref be, .ref sh, .ref sd, .ref rf, .int ab, .int bl])), (rf, .inl (y 0, 3, .inl frf)), (nn, .inl (y 6, 6, .inr (.inr (.inr (.inr fn_))))), (t0, .inl (y 0, 5, .inl t0f)), (t1, .inl (y 0, 5, .inl t1f)), (t2, .inl (y 0, 5, .inl t2f)), (t3, .inl (y 0, 5, .inl t3f)), (t4, .inl (y 0, 5, .inl t4f)), (t5, .inl (y 0, 5, .inl t5f)), (nw, .inr (4, [.ref kk, .ref nk, .ref nd, .ref ne, .ref nm, .ref nn, .int (nI fi), .int (nI gl), .int (nI un), .int (nI mi), .int (nI 4)]))] := hD
        refine lv_if_ne (tgt := 32) hx hb dX10_note_24 (by decide) (fun _ => ?_) (fun h9 => absurd h9 (by decide))
        refine lv_iload hx hb dX10_note_32 (lv_at hl 4 rfl) ?_
        refine lv_bipush (v := 10) hx hb dX10_note_34 (by decide) ?_
        have hs22 : kw_Split [(g, .inr (10, [.ref kk, .ref nw, .ref im, .ref kp, .ref tx, .ref tr, .ref be, .ref sh, .ref sd, .ref rf, .int ab, .int bl])), (rf, .inl (y 0, 3, .inl frf)), (nn, .inl (y 6, 6, .inr (.inr (.inr (.inr fn_))))), (t0, .inl (y 0, 5, .inl t0f)), (t1, .inl (y 0, 5, .inl t1f)), (t2, .inl (y 0, 5, .inl t2f)), (t3, .inl (y 0, 5, .inl t3f)), (t4, .inl (y 0, 5, .inl t4f)), (t5, .inl (y 0, 5, .inl t5f)), (nw, .inr (4, [.ref kk, .ref nk, .ref nd, .ref ne, .ref nm, .ref nn, .int (nI fi), .int (nI gl), .int (nI un), .int (nI mi), .int (nI 4)]))] [] [(g, .inr (10, [.ref kk, .ref nw, .ref im, .ref kp, .ref tx, .ref tr, .ref be, .ref sh, .ref sd, .ref rf, .int ab, .int bl])), (rf, .inl (y 0, 3, .inl frf)), (nn, .inl (y 6, 6, .inr (.inr (.inr (.inr fn_))))), (t0, .inl (y 0, 5, .inl t0f)), (t1, .inl (y 0, 5, .inl t1f)), (t2, .inl (y 0, 5, .inl t2f)), (t3, .inl (y 0, 5, .inl t3f)), (t4, .inl (y 0, 5, .inl t4f)), (t5, .inl (y 0, 5, .inl t5f)), (nw, .inr (4, [.ref kk, .ref nk, .ref nd, .ref ne, .ref nm, .ref nn, .int (nI fi), .int (nI gl), .int (nI un), .int (nI mi), .int (nI 4)]))] [] [0, 1, 2, 3, 4, 5, 6, 7, 8, 9] := ⟨rfl, rfl, rfl, rfl, rfl, by decide⟩
        refine kw_go_i hs22 hP hD hS hA (va_runS (As := [.int (nI an4), .int 10]) (rest := []) ⟨hx, hb, hml, hown, hts⟩ (gc_isBelow l D y (nI an4) 10 (by omega) _) (va_cwS 2 hts gX10_note_X10_isBelow rfl rfl rfl (by decide +kernel) ⟨Nat.le_of_ble_eq_true rfl, Nat.le_of_ble_eq_true rfl⟩) (kw_PreS hs22 hP hD hK hN) rfl rfl hl.1 rfl (lv_room (Nat.le_of_ble_eq_true rfl)) dX10_note_36 ⟨Nat.le_of_ble_eq_true rfl, Nat.le_of_ble_eq_true rfl⟩) (fun r23 u24 H locs hq hP hD hS => ?_)
        rcases hq with ⟨j25, h26, h27, rfl⟩ | ⟨h28, rfl⟩
        · skip
          have h27 : an4 = j25 := (nI_eq (a := an4) (b := j25) (by omega) (by omega)).mp h27
          have hP : va_P D vwCl [(g, .inr (10, [.ref kk, .ref nw, .ref im, .ref kp, .ref tx, .ref tr, .ref be, .ref sh, .ref sd, .ref rf, .int ab, .int bl])), (rf, .inl (y 0, 3, .inl frf)), (nn, .inl (y 6, 6, .inr (.inr (.inr (.inr fn_))))), (t0, .inl (y 0, 5, .inl t0f)), (t1, .inl (y 0, 5, .inl t1f)), (t2, .inl (y 0, 5, .inl t2f)), (t3, .inl (y 0, 5, .inl t3f)), (t4, .inl (y 0, 5, .inl t4f)), (t5, .inl (y 0, 5, .inl t5f)), (nw, .inr (4, [.ref kk, .ref nk, .ref nd, .ref ne, .ref nm, .ref nn, .int (nI fi), .int (nI gl), .int (nI un), .int (nI mi), .int (nI 4)]))] H := hP
          have hD : va_D A [(g, .inr (10, [.ref kk, .ref nw, .ref im, .ref kp, .ref tx, .ref tr, .ref be, .ref sh, .ref sd, .ref rf, .int ab, .int bl])), (rf, .inl (y 0, 3, .inl frf)), (nn, .inl (y 6, 6, .inr (.inr (.inr (.inr fn_))))), (t0, .inl (y 0, 5, .inl t0f)), (t1, .inl (y 0, 5, .inl t1f)), (t2, .inl (y 0, 5, .inl t2f)), (t3, .inl (y 0, 5, .inl t3f)), (t4, .inl (y 0, 5, .inl t4f)), (t5, .inl (y 0, 5, .inl t5f)), (nw, .inr (4, [.ref kk, .ref nk, .ref nd, .ref ne, .ref nm, .ref nn, .int (nI fi), .int (nI gl), .int (nI un), .int (nI mi), .int (nI 4)]))] := hD
          refine lv_if_eq (tgt := 53) hx hb dX10_note_39 (by decide) (fun h9 => absurd h9 (by decide)) (fun _ => ?_)
          refine lv_iload hx hb dX10_note_42 (lv_at hl 5 rfl) ?_
          refine lv_iconst (v := 0) hx hb dX10_note_44 (by decide) ?_
          refine lv_bipush (v := 99) hx hb dX10_note_45 (by decide) ?_
          have hs29 : kw_Split [(g, .inr (10, [.ref kk, .ref nw, .ref im, .ref kp, .ref tx, .ref tr, .ref be, .ref sh, .ref sd, .ref rf, .int ab, .int bl])), (rf, .inl (y 0, 3, .inl frf)), (nn, .inl (y 6, 6, .inr (.inr (.inr (.inr fn_))))), (t0, .inl (y 0, 5, .inl t0f)), (t1, .inl (y 0, 5, .inl t1f)), (t2, .inl (y 0, 5, .inl t2f)), (t3, .inl (y 0, 5, .inl t3f)), (t4, .inl (y 0, 5, .inl t4f)), (t5, .inl (y 0, 5, .inl t5f)), (nw, .inr (4, [.ref kk, .ref nk, .ref nd, .ref ne, .ref nm, .ref nn, .int (nI fi), .int (nI gl), .int (nI un), .int (nI mi), .int (nI 4)]))] [] [(g, .inr (10, [.ref kk, .ref nw, .ref im, .ref kp, .ref tx, .ref tr, .ref be, .ref sh, .ref sd, .ref rf, .int ab, .int bl])), (rf, .inl (y 0, 3, .inl frf)), (nn, .inl (y 6, 6, .inr (.inr (.inr (.inr fn_))))), (t0, .inl (y 0, 5, .inl t0f)), (t1, .inl (y 0, 5, .inl t1f)), (t2, .inl (y 0, 5, .inl t2f)), (t3, .inl (y 0, 5, .inl t3f)), (t4, .inl (y 0, 5, .inl t4f)), (t5, .inl (y 0, 5, .inl t5f)), (nw, .inr (4, [.ref kk, .ref nk, .ref nd, .ref ne, .ref nm, .ref nn, .int (nI fi), .int (nI gl), .int (nI un), .int (nI mi), .int (nI 4)]))] [] [0, 1, 2, 3, 4, 5, 6, 7, 8, 9] := ⟨rfl, rfl, rfl, rfl, rfl, by decide⟩
          refine kw_go_i hs29 hP hD hS hA (va_runS (As := [.int (nI an5), .int 0, .int 99]) (rest := []) ⟨hx, hb, hml, hown, hts⟩ (gc_isIn l D y (nI an5) 0 99 (by omega) (by omega) _) (va_cwS 3 hts gX10_note_X10_isIn rfl rfl rfl (by decide +kernel) ⟨Nat.le_of_ble_eq_true rfl, Nat.le_of_ble_eq_true rfl⟩) (kw_PreS hs29 hP hD hK hN) rfl rfl hl.1 rfl (lv_room (Nat.le_of_ble_eq_true rfl)) dX10_note_47 ⟨Nat.le_of_ble_eq_true rfl, Nat.le_of_ble_eq_true rfl⟩) (fun r30 u31 H locs hq hP hD hS => ?_)
          rcases hq with ⟨j32, h33, h34, h35, rfl⟩ | ⟨h36, rfl⟩
          · skip
            have h35 : an5 = j32 := (nI_eq (a := an5) (b := j32) (by omega) (by omega)).mp h35
            have hP : va_P D vwCl [(g, .inr (10, [.ref kk, .ref nw, .ref im, .ref kp, .ref tx, .ref tr, .ref be, .ref sh, .ref sd, .ref rf, .int ab, .int bl])), (rf, .inl (y 0, 3, .inl frf)), (nn, .inl (y 6, 6, .inr (.inr (.inr (.inr fn_))))), (t0, .inl (y 0, 5, .inl t0f)), (t1, .inl (y 0, 5, .inl t1f)), (t2, .inl (y 0, 5, .inl t2f)), (t3, .inl (y 0, 5, .inl t3f)), (t4, .inl (y 0, 5, .inl t4f)), (t5, .inl (y 0, 5, .inl t5f)), (nw, .inr (4, [.ref kk, .ref nk, .ref nd, .ref ne, .ref nm, .ref nn, .int (nI fi), .int (nI gl), .int (nI un), .int (nI mi), .int (nI 4)]))] H := hP
            have hD : va_D A [(g, .inr (10, [.ref kk, .ref nw, .ref im, .ref kp, .ref tx, .ref tr, .ref be, .ref sh, .ref sd, .ref rf, .int ab, .int bl])), (rf, .inl (y 0, 3, .inl frf)), (nn, .inl (y 6, 6, .inr (.inr (.inr (.inr fn_))))), (t0, .inl (y 0, 5, .inl t0f)), (t1, .inl (y 0, 5, .inl t1f)), (t2, .inl (y 0, 5, .inl t2f)), (t3, .inl (y 0, 5, .inl t3f)), (t4, .inl (y 0, 5, .inl t4f)), (t5, .inl (y 0, 5, .inl t5f)), (nw, .inr (4, [.ref kk, .ref nk, .ref nd, .ref ne, .ref nm, .ref nn, .int (nI fi), .int (nI gl), .int (nI un), .int (nI mi), .int (nI 4)]))] := hD
            refine lv_if_ne (tgt := 58) hx hb dX10_note_50 (by decide) (fun _ => ?_) (fun h9 => absurd h9 (by decide))
            refine lv_aload_n hx hb dX10_note_58 rfl (lv_at hl 0 rfl) ?_
            refine va_get (D := D) (ci := 10) (v := .ref nw) (C := RX10) (T := TX10) (N := 12) hx hb hts iw10 hown hK hP 0 rfl rfl 1 (by decide) fw1 (fun _ h9 => h9) rfl dX10_note_59 ?_
            refine va_get (D := D) (ci := 4) (v := .int (nI 4)) (C := RX4) (T := TX4) (N := 11) hx hb hts iw4 hown hK hP 9 rfl rfl 10 (by decide) fw2 (fun _ h9 => h9) rfl dX10_note_62 ?_
            refine lv_bipush (v := 6) hx hb dX10_note_65 (by decide) ?_
            refine lv_icmp_lt (tgt := 75) hx hb dX10_note_67 (by decide) (fun h37 => ?_) (fun h38 => ?_)
            · skip
              have h37 : 4 < 6 := (nI_ltI (a := 4) (b := 6) (by omega) (by omega)).mp h37
              refine lv_aload_n hx hb dX10_note_75 rfl (lv_at hl 0 rfl) ?_
              refine va_get (D := D) (ci := 10) (v := .ref nw) (C := RX10) (T := TX10) (N := 12) hx hb hts iw10 hown hK hP 0 rfl rfl 1 (by decide) fw1 (fun _ h9 => h9) rfl dX10_note_76 ?_
              refine lv_iload_n hx hb dX10_note_79 rfl (lv_at hl 1 rfl) ?_
              refine lv_iload_n hx hb dX10_note_80 rfl (lv_at hl 2 rfl) ?_
              refine lv_iload_n hx hb dX10_note_81 rfl (lv_at hl 3 rfl) ?_
              refine lv_iload hx hb dX10_note_82 (lv_at hl 4 rfl) ?_
              refine lv_iload hx hb dX10_note_84 (lv_at hl 5 rfl) ?_
              have hs39 : kw_Split [(g, .inr (10, [.ref kk, .ref nw, .ref im, .ref kp, .ref tx, .ref tr, .ref be, .ref sh, .ref sd, .ref rf, .int ab, .int bl])), (rf, .inl (y 0, 3, .inl frf)), (nn, .inl (y 6, 6, .inr (.inr (.inr (.inr fn_))))), (t0, .inl (y 0, 5, .inl t0f)), (t1, .inl (y 0, 5, .inl t1f)), (t2, .inl (y 0, 5, .inl t2f)), (t3, .inl (y 0, 5, .inl t3f)), (t4, .inl (y 0, 5, .inl t4f)), (t5, .inl (y 0, 5, .inl t5f)), (nw, .inr (4, [.ref kk, .ref nk, .ref nd, .ref ne, .ref nm, .ref nn, .int (nI fi), .int (nI gl), .int (nI un), .int (nI mi), .int (nI 4)]))] [(nw, .inr (4, [.ref kk, .ref nk, .ref nd, .ref ne, .ref nm, .ref nn, .int (nI fi), .int (nI gl), .int (nI un), .int (nI mi), .int (nI 4)])), (nn, .inl (y 6, 6, .inr (.inr (.inr (.inr fn_))))), (t0, .inl (y 0, 5, .inl t0f)), (t1, .inl (y 0, 5, .inl t1f)), (t2, .inl (y 0, 5, .inl t2f)), (t3, .inl (y 0, 5, .inl t3f)), (t4, .inl (y 0, 5, .inl t4f)), (t5, .inl (y 0, 5, .inl t5f))] [(g, .inr (10, [.ref kk, .ref nw, .ref im, .ref kp, .ref tx, .ref tr, .ref be, .ref sh, .ref sd, .ref rf, .int ab, .int bl])), (rf, .inl (y 0, 3, .inl frf))] [9, 2, 3, 4, 5, 6, 7, 8] [0, 1] := ⟨rfl, rfl, rfl, rfl, rfl, by decide⟩
              refine kw_go_i hs39 hP hD hS hA (va_runV (As := [.int (nI an1), .int (nI an2), .int (nI an3), .int (nI an4), .int (nI an5)]) (rest := []) ⟨hx, hb, hml, hown, hts⟩ (gd_addNote4 l D y nw kk nk nd ne nm nn fi gl un mi 4 t0 t1 t2 t3 t4 t5 t0f t1f t2f t3f t4f t5f fn_ (nI an1) (nI an2) (nI an3) (nI an4) (nI an5) hfi hgl hun hmi hno hn0 hn1 hn2 hn3 hn4 hn5 hj _) (cwV 5 hts gX10_note_X4_addNote rfl rfl rfl (by decide +kernel) ⟨Nat.le_of_ble_eq_true rfl, Nat.le_of_ble_eq_true rfl⟩) (kw_PreV (ci := 4) (q0 := 9) hs39 hP hD hK hN rfl rfl) rfl rfl hl.1 rfl (lv_room (Nat.le_of_ble_eq_true rfl)) dX10_note_86 ⟨Nat.le_of_ble_eq_true rfl, Nat.le_of_ble_eq_true rfl⟩) (fun r40 u41 H locs hq hP hD hS => ?_)
              obtain rfl := hq
              have hP : va_P D vwCl [(g, .inr (10, [.ref kk, .ref nw, .ref im, .ref kp, .ref tx, .ref tr, .ref be, .ref sh, .ref sd, .ref rf, .int ab, .int bl])), (rf, .inl (y 0, 3, .inl frf)), (nw, .inr (4, [.ref kk, .ref nk, .ref nd, .ref ne, .ref nm, .ref nn, .int (nI fi), .int (nI gl), .int (nI un), .int (nI mi), .int (nI 5)])), (nn, .inl (y 6, 6, .inr (.inr (.inr (.inr fn_))))), (t0, .inl (y 0, 5, .inl t0f)), (t1, .inl (y 0, 5, .inl t1f)), (t2, .inl (y 0, 5, .inl t2f)), (t3, .inl (y 0, 5, .inl t3f)), (t4, .inl (y 0, 5, .inl (upd (upd (upd (upd (upd t4f 0 (nI an1)) 1 (nI an2)) 2 (nI an3)) 3 (nI an4)) 4 (nI an5)))), (t5, .inl (y 0, 5, .inl t5f))] H := hP
              have hD : va_D A [(g, .inr (10, [.ref kk, .ref nw, .ref im, .ref kp, .ref tx, .ref tr, .ref be, .ref sh, .ref sd, .ref rf, .int ab, .int bl])), (rf, .inl (y 0, 3, .inl frf)), (nw, .inr (4, [.ref kk, .ref nk, .ref nd, .ref ne, .ref nm, .ref nn, .int (nI fi), .int (nI gl), .int (nI un), .int (nI mi), .int (nI 5)])), (nn, .inl (y 6, 6, .inr (.inr (.inr (.inr fn_))))), (t0, .inl (y 0, 5, .inl t0f)), (t1, .inl (y 0, 5, .inl t1f)), (t2, .inl (y 0, 5, .inl t2f)), (t3, .inl (y 0, 5, .inl t3f)), (t4, .inl (y 0, 5, .inl (upd (upd (upd (upd (upd t4f 0 (nI an1)) 1 (nI an2)) 2 (nI an3)) 3 (nI an4)) 4 (nI an5)))), (t5, .inl (y 0, 5, .inl t5f))] := hD
              exact W.iret (v := (nI 5)) hx hb hr (fun tZ ht hW => ⟨⟨(nI 5), (), rfl, rfl, by rw [ht]; exact hP.sub [0, 1, 2, 3, 4, 5, 6, 7, 8, 9] rfl, hD.sub [0, 1, 2, 3, 4, 5, 6, 7, 8, 9] (by decide) rfl⟩, hS.F ht⟩) hS.2.2 dX10_note_89
            · skip
              have h38 : ¬ 4 < 6 := fun q9 => h38 ((nI_ltI (a := 4) (b := 6) (by omega) (by omega)).mpr q9)
              exact absurd h38 (by omega)
          · skip
            exact absurd ⟨an5, by omega, by omega, rfl⟩ h36
        · skip
          exact absurd ⟨an4, by omega, rfl⟩ h28
      · skip
        exact absurd ⟨an3, by omega, by omega, rfl⟩ h21
    · skip
      exact absurd ⟨an2, by omega, rfl⟩ h14
  · skip
    exact absurd ⟨an1, by omega, rfl⟩ h7

set_option maxHeartbeats 4000000 in
set_option maxRecDepth 100000 in
theorem gy_note_d4 (l : Launch) (D : va_G) (y : Nat → ClassId) (mo : Nat) (to : Nat) (ke : Nat) (ik : Nat) (mrf : Nat) (ha : Nat) (r0 : Nat) (mbr : Nat) (mbp : Nat) (mby : Nat) (an : Nat) (va : Nat) (mab : Int64) (mbl : Int64) (bl : Nat) (ta : Nat) (tl : Nat) (tk : Nat) (vv : Int32) (frf : Nat → Int32) (ft : Nat → Int32) (fi : Nat) (gl : Nat) (mi : Nat) (no : Nat) (un : Nat) (an1 : Nat) (an2 : Nat) (an3 : Nat) (an4 : Nat) (an5 : Nat) (hk0_ : ft 0 = (nI fi)) (hk1_ : ft 1 = (nI gl)) (hk2_ : ft 2 = (nI mi)) (hk3_ : ft 3 = (nI no)) (hk4_ : ft 4 = (nI un)) (hkt : kr_t 228 ft) (hfi : fi ≤ 6) (hgl : gl ≤ 5) (hmi : mi ≤ 4) (hno : no ≤ 6) (hun : un ≤ 8) (hgf : (gl = 0 ∨ 0 < fi)) (hA2 : ¬ no = 6) (hj : no = 4) (hB0_ : an1 < fi) (hB1_ : an2 < 12) (hB2_ : an3 ≤ 60) (hB3_ : an4 < 10) (hB4_ : an5 ≤ 99) : kw_Mi l yX11_note wsX11_note ({ frames := 3, cells := 0, slots := 0, locals := 106 }) D y [.ref mo, .int (nI an1), .int (nI an2), .int (nI an3), .int (nI an4), .int (nI an5)] [(mo, .inr (11, [.ref to, .ref ke, .ref ik, .ref mrf, .long mab, .long mbl, .ref ha, .ref r0, .ref mbr, .ref mbp, .ref mby, .int (nI bl), .int (nI ta), .int (nI tl), .int (nI tk), .int vv, .ref an, .ref va])), (mrf, .inl (y 0, 3, .inl frf)), (to, .inl (y 0, 228, .inl ft))] (fun (r : Int32) (u : Unit) => kr_t 228 (upd (upd (upd (upd (upd (upd ft 66 (nI an1)) 67 (nI an2)) 68 (nI an3)) 69 (nI an4)) 70 (nI an5)) 3 (nI 5)) ∧ (upd (upd (upd (upd (upd (upd ft 66 (nI an1)) 67 (nI an2)) 68 (nI an3)) 69 (nI an4)) 70 (nI an5)) 3 (nI 5)) 0 = (nI fi) ∧ (upd (upd (upd (upd (upd (upd ft 66 (nI an1)) 67 (nI an2)) 68 (nI an3)) 69 (nI an4)) 70 (nI an5)) 3 (nI 5)) 1 = (nI gl) ∧ (upd (upd (upd (upd (upd (upd ft 66 (nI an1)) 67 (nI an2)) 68 (nI an3)) 69 (nI an4)) 70 (nI an5)) 3 (nI 5)) 2 = (nI mi) ∧ (upd (upd (upd (upd (upd (upd ft 66 (nI an1)) 67 (nI an2)) 68 (nI an3)) 69 (nI an4)) 70 (nI an5)) 3 (nI 5)) 3 = (nI (no + 1)) ∧ (upd (upd (upd (upd (upd (upd ft 66 (nI an1)) 67 (nI an2)) 68 (nI an3)) 69 (nI an4)) 70 (nI an5)) 3 (nI 5)) 4 = (nI un) ∧ (gl = 0 ∨ 0 < fi) ∧ r = (nI (no + 1))) (fun _ => [(mo, .inr (11, [.ref to, .ref ke, .ref ik, .ref mrf, .long mab, .long mbl, .ref ha, .ref r0, .ref mbr, .ref mbp, .ref mby, .int (nI bl), .int (nI ta), .int (nI tl), .int (nI tk), .int vv, .ref an, .ref va])), (mrf, .inl (y 0, 3, .inl frf)), (to, .inl (y 0, 228, .inl (upd (upd (upd (upd (upd (upd ft 66 (nI an1)) 67 (nI an2)) 68 (nI an3)) 69 (nI an4)) 70 (nI an5)) 3 (nI 5))))]) 0 0 := by
  refine kw_Mi.of (cc := cX11_note) (maxL := 7) (ret := (some .int)) (by decide) rfl ?_
  intro pZ eZ s mZ beZ meZ cZ A hE
  obtain ⟨hx, hb, hr, hml, hts, hown, hlocks, hin, hA, hP, hD, hK, hN⟩ := hE
  have hS : va_S A s.heap s.heap [] := va_S.rf
  have hl := lv_entry ([.ref mo, .int (nI an1), .int (nI an2), .int (nI an3), .int (nI an4), .int (nI an5)]) (n := 7) (Nat.le_of_ble_eq_true rfl)
  rw [lg_entry_eq]
  generalize (lg_sl ([.ref mo, .int (nI an1), .int (nI an2), .int (nI an3), .int (nI an4), .int (nI an5)]) ++ List.replicate (7 - (lg_sl ([.ref mo, .int (nI an1), .int (nI an2), .int (nI an3), .int (nI an4), .int (nI an5)])).length) Slot.unset).toArray = ls at hl ⊢
  have hl : lv_has ls 7 [(0, .ref mo), (1, .int (nI an1)), (2, .int (nI an2)), (3, .int (nI an3)), (4, .int (nI an4)), (5, .int (nI an5))] := hl
  have fw1 := hts (.constantLong RX11 174 (99)) (List.mem_of_getElem? (i := 1) rfl)
  have fw2 := hts (.fieldLink RX11 7 "GleanDuskModel" "told" "[I") (List.mem_of_getElem? (i := 2) rfl)
  have iw11 : ∀ w ∈ wsX110, w ∈ wsX11_note := fun _ h => List.mem_cons_of_mem _ (List.mem_append_right _ h)
  obtain rfl : no = 4 := by omega
  refine lv_aload_n hx hb dX11_note_0 rfl (lv_at hl 0 rfl) ?_
  refine lv_iload_n hx hb dX11_note_1 rfl (lv_at hl 1 rfl) ?_
  have hs1 : kw_Split [(mo, .inr (11, [.ref to, .ref ke, .ref ik, .ref mrf, .long mab, .long mbl, .ref ha, .ref r0, .ref mbr, .ref mbp, .ref mby, .int (nI bl), .int (nI ta), .int (nI tl), .int (nI tk), .int vv, .ref an, .ref va])), (mrf, .inl (y 0, 3, .inl frf)), (to, .inl (y 0, 228, .inl ft))] [(mo, .inr (11, [.ref to, .ref ke, .ref ik, .ref mrf, .long mab, .long mbl, .ref ha, .ref r0, .ref mbr, .ref mbp, .ref mby, .int (nI bl), .int (nI ta), .int (nI tl), .int (nI tk), .int vv, .ref an, .ref va])), (to, .inl (y 0, 228, .inl ft))] [(mrf, .inl (y 0, 3, .inl frf))] [0, 2] [1] := ⟨rfl, rfl, rfl, rfl, rfl, by decide⟩
  refine kw_go_i hs1 hP hD hS hA (va_runV (As := [.int (nI an1)]) (rest := []) ⟨hx, hb, hml, hown, hts⟩ (gr_isField l D y mo to ke ik mrf ha r0 mbr mbp mby an va mab mbl bl ta tl tk vv ft fi gl mi 4 un (nI an1) hk0_ hk1_ hk2_ hk3_ hk4_ hkt hfi hgl hmi hno hun _) (cwV 1 hts gX11_note_X11_isField rfl rfl rfl (by decide +kernel) ⟨Nat.le_of_ble_eq_true rfl, Nat.le_of_ble_eq_true rfl⟩) (kw_PreV (ci := 11) (q0 := 0) hs1 hP hD hK hN rfl rfl) rfl rfl hl.1 rfl (lv_room (Nat.le_of_ble_eq_true rfl)) dX11_note_2 ⟨Nat.le_of_ble_eq_true rfl, Nat.le_of_ble_eq_true rfl⟩) (fun r2 u3 H locs hq hP hD hS => ?_)
  rcases hq with ⟨j4, h5, h6, rfl⟩ | ⟨h7, rfl⟩
  · skip
    have h6 : an1 = j4 := (nI_eq (a := an1) (b := j4) (by omega) (by omega)).mp h6
    have hP : va_P D vwCl [(mrf, .inl (y 0, 3, .inl frf)), (mo, .inr (11, [.ref to, .ref ke, .ref ik, .ref mrf, .long mab, .long mbl, .ref ha, .ref r0, .ref mbr, .ref mbp, .ref mby, .int (nI bl), .int (nI ta), .int (nI tl), .int (nI tk), .int vv, .ref an, .ref va])), (to, .inl (y 0, 228, .inl ft))] H := hP
    have hD : va_D A [(mrf, .inl (y 0, 3, .inl frf)), (mo, .inr (11, [.ref to, .ref ke, .ref ik, .ref mrf, .long mab, .long mbl, .ref ha, .ref r0, .ref mbr, .ref mbp, .ref mby, .int (nI bl), .int (nI ta), .int (nI tl), .int (nI tk), .int vv, .ref an, .ref va])), (to, .inl (y 0, 228, .inl ft))] := hD
    refine lv_if_eq (tgt := 43) hx hb dX11_note_5 (by decide) (fun h9 => absurd h9 (by decide)) (fun _ => ?_)
    refine lv_iload_n hx hb dX11_note_8 rfl (lv_at hl 2 rfl) ?_
    have hs8 : kw_Split [(mrf, .inl (y 0, 3, .inl frf)), (mo, .inr (11, [.ref to, .ref ke, .ref ik, .ref mrf, .long mab, .long mbl, .ref ha, .ref r0, .ref mbr, .ref mbp, .ref mby, .int (nI bl), .int (nI ta), .int (nI tl), .int (nI tk), .int vv, .ref an, .ref va])), (to, .inl (y 0, 228, .inl ft))] [] [(mrf, .inl (y 0, 3, .inl frf)), (mo, .inr (11, [.ref to, .ref ke, .ref ik, .ref mrf, .long mab, .long mbl, .ref ha, .ref r0, .ref mbr, .ref mbp, .ref mby, .int (nI bl), .int (nI ta), .int (nI tl), .int (nI tk), .int vv, .ref an, .ref va])), (to, .inl (y 0, 228, .inl ft))] [] [0, 1, 2] := ⟨rfl, rfl, rfl, rfl, rfl, by decide⟩
    refine kw_go_i hs8 hP hD hS hA (va_runS (As := [.int (nI an2)]) (rest := []) ⟨hx, hb, hml, hown, hts⟩ (gr_isStep l D y (nI an2)  _) (va_cwS 1 hts gX11_note_X11_isStep rfl rfl rfl (by decide +kernel) ⟨Nat.le_of_ble_eq_true rfl, Nat.le_of_ble_eq_true rfl⟩) (kw_PreS hs8 hP hD hK hN) rfl rfl hl.1 rfl (lv_room (Nat.le_of_ble_eq_true rfl)) dX11_note_9 ⟨Nat.le_of_ble_eq_true rfl, Nat.le_of_ble_eq_true rfl⟩) (fun r9 u10 H locs hq hP hD hS => ?_)
    rcases hq with ⟨j11, h12, h13, rfl⟩ | ⟨h14, rfl⟩
    · skip
      have h13 : an2 = j11 := (nI_eq (a := an2) (b := j11) (by omega) (by omega)).mp h13
      have hP : va_P D vwCl [(mrf, .inl (y 0, 3, .inl frf)), (mo, .inr (11, [.ref to, .ref ke, .ref ik, .ref mrf, .long mab, .long mbl, .ref ha, .ref r0, .ref mbr, .ref mbp, .ref mby, .int (nI bl), .int (nI ta), .int (nI tl), .int (nI tk), .int vv, .ref an, .ref va])), (to, .inl (y 0, 228, .inl ft))] H := hP
      have hD : va_D A [(mrf, .inl (y 0, 3, .inl frf)), (mo, .inr (11, [.ref to, .ref ke, .ref ik, .ref mrf, .long mab, .long mbl, .ref ha, .ref r0, .ref mbr, .ref mbp, .ref mby, .int (nI bl), .int (nI ta), .int (nI tl), .int (nI tk), .int vv, .ref an, .ref va])), (to, .inl (y 0, 228, .inl ft))] := hD
      refine lv_if_eq (tgt := 43) hx hb dX11_note_12 (by decide) (fun h9 => absurd h9 (by decide)) (fun _ => ?_)
      refine lv_iload_n hx hb dX11_note_15 rfl (lv_at hl 3 rfl) ?_
      have hs15 : kw_Split [(mrf, .inl (y 0, 3, .inl frf)), (mo, .inr (11, [.ref to, .ref ke, .ref ik, .ref mrf, .long mab, .long mbl, .ref ha, .ref r0, .ref mbr, .ref mbp, .ref mby, .int (nI bl), .int (nI ta), .int (nI tl), .int (nI tk), .int vv, .ref an, .ref va])), (to, .inl (y 0, 228, .inl ft))] [] [(mrf, .inl (y 0, 3, .inl frf)), (mo, .inr (11, [.ref to, .ref ke, .ref ik, .ref mrf, .long mab, .long mbl, .ref ha, .ref r0, .ref mbr, .ref mbp, .ref mby, .int (nI bl), .int (nI ta), .int (nI tl), .int (nI tk), .int vv, .ref an, .ref va])), (to, .inl (y 0, 228, .inl ft))] [] [0, 1, 2] := ⟨rfl, rfl, rfl, rfl, rfl, by decide⟩
      refine kw_go_i hs15 hP hD hS hA (va_runS (As := [.int (nI an3)]) (rest := []) ⟨hx, hb, hml, hown, hts⟩ (gr_isLight l D y (nI an3)  _) (va_cwS 1 hts gX11_note_X11_isLight rfl rfl rfl (by decide +kernel) ⟨Nat.le_of_ble_eq_true rfl, Nat.le_of_ble_eq_true rfl⟩) (kw_PreS hs15 hP hD hK hN) rfl rfl hl.1 rfl (lv_room (Nat.le_of_ble_eq_true rfl)) dX11_note_16 ⟨Nat.le_of_ble_eq_true rfl, Nat.le_of_ble_eq_true rfl⟩) (fun r16 u17 H locs hq hP hD hS => ?_)
      rcases hq with ⟨j18, h19, h20, rfl⟩ | ⟨h21, rfl⟩
      · skip
        have h20 : an3 = j18 := (nI_eq (a := an3) (b := j18) (by omega) (by omega)).mp h20
        have hP : va_P D vwCl [(mrf, .inl (y 0, 3, .inl frf)), (mo, .inr (11, [.ref to, .ref ke, .ref ik, .ref mrf, .long mab, .long mbl, .ref ha, .ref r0, .ref mbr, .ref mbp, .ref mby, .int (nI bl), .int (nI ta), .int (nI tl), .int (nI tk), .int vv, .ref an, .ref va])), (to, .inl (y 0, 228, .inl ft))] H := hP
        have hD : va_D A [(mrf, .inl (y 0, 3, .inl frf)), (mo, .inr (11, [.ref to, .ref ke, .ref ik, .ref mrf, .long mab, .long mbl, .ref ha, .ref r0, .ref mbr, .ref mbp, .ref mby, .int (nI bl), .int (nI ta), .int (nI tl), .int (nI tk), .int vv, .ref an, .ref va])), (to, .inl (y 0, 228, .inl ft))] := hD
        refine lv_if_eq (tgt := 43) hx hb dX11_note_19 (by decide) (fun h9 => absurd h9 (by decide)) (fun _ => ?_)
        refine lv_iload hx hb dX11_note_22 (lv_at hl 4 rfl) ?_
        have hs22 : kw_Split [(mrf, .inl (y 0, 3, .inl frf)), (mo, .inr (11, [.ref to, .ref ke, .ref ik, .ref mrf, .long mab, .long mbl, .ref ha, .ref r0, .ref mbr, .ref mbp, .ref mby, .int (nI bl), .int (nI ta), .int (nI tl), .int (nI tk), .int vv, .ref an, .ref va])), (to, .inl (y 0, 228, .inl ft))] [] [(mrf, .inl (y 0, 3, .inl frf)), (mo, .inr (11, [.ref to, .ref ke, .ref ik, .ref mrf, .long mab, .long mbl, .ref ha, .ref r0, .ref mbr, .ref mbp, .ref mby, .int (nI bl), .int (nI ta), .int (nI tl), .int (nI tk), .int vv, .ref an, .ref va])), (to, .inl (y 0, 228, .inl ft))] [] [0, 1, 2] := ⟨rfl, rfl, rfl, rfl, rfl, by decide⟩
        refine kw_go_i hs22 hP hD hS hA (va_runS (As := [.int (nI an4)]) (rest := []) ⟨hx, hb, hml, hown, hts⟩ (gr_isCloud l D y (nI an4)  _) (va_cwS 1 hts gX11_note_X11_isCloud rfl rfl rfl (by decide +kernel) ⟨Nat.le_of_ble_eq_true rfl, Nat.le_of_ble_eq_true rfl⟩) (kw_PreS hs22 hP hD hK hN) rfl rfl hl.1 rfl (lv_room (Nat.le_of_ble_eq_true rfl)) dX11_note_24 ⟨Nat.le_of_ble_eq_true rfl, Nat.le_of_ble_eq_true rfl⟩) (fun r23 u24 H locs hq hP hD hS => ?_)
        rcases hq with ⟨j25, h26, h27, rfl⟩ | ⟨h28, rfl⟩
        · skip
          have h27 : an4 = j25 := (nI_eq (a := an4) (b := j25) (by omega) (by omega)).mp h27
          have hP : va_P D vwCl [(mrf, .inl (y 0, 3, .inl frf)), (mo, .inr (11, [.ref to, .ref ke, .ref ik, .ref mrf, .long mab, .long mbl, .ref ha, .ref r0, .ref mbr, .ref mbp, .ref mby, .int (nI bl), .int (nI ta), .int (nI tl), .int (nI tk), .int vv, .ref an, .ref va])), (to, .inl (y 0, 228, .inl ft))] H := hP
          have hD : va_D A [(mrf, .inl (y 0, 3, .inl frf)), (mo, .inr (11, [.ref to, .ref ke, .ref ik, .ref mrf, .long mab, .long mbl, .ref ha, .ref r0, .ref mbr, .ref mbp, .ref mby, .int (nI bl), .int (nI ta), .int (nI tl), .int (nI tk), .int vv, .ref an, .ref va])), (to, .inl (y 0, 228, .inl ft))] := hD
          refine lv_if_eq (tgt := 43) hx hb dX11_note_27 (by decide) (fun h9 => absurd h9 (by decide)) (fun _ => ?_)
          refine lv_iload hx hb dX11_note_30 (lv_at hl 5 rfl) ?_
          refine lv_i2l (v := (nI an5).toInt64) hx hb dX11_note_32 (rfl) ?_
          refine lv_lconst (v := 0) hx hb dX11_note_33 (by decide) ?_
          refine lv_ldc2 (v := 99) hx hb hown fw1 dX11_note_34 ?_
          have hs29 : kw_Split [(mrf, .inl (y 0, 3, .inl frf)), (mo, .inr (11, [.ref to, .ref ke, .ref ik, .ref mrf, .long mab, .long mbl, .ref ha, .ref r0, .ref mbr, .ref mbp, .ref mby, .int (nI bl), .int (nI ta), .int (nI tl), .int (nI tk), .int vv, .ref an, .ref va])), (to, .inl (y 0, 228, .inl ft))] [] [(mrf, .inl (y 0, 3, .inl frf)), (mo, .inr (11, [.ref to, .ref ke, .ref ik, .ref mrf, .long mab, .long mbl, .ref ha, .ref r0, .ref mbr, .ref mbp, .ref mby, .int (nI bl), .int (nI ta), .int (nI tl), .int (nI tk), .int vv, .ref an, .ref va])), (to, .inl (y 0, 228, .inl ft))] [] [0, 1, 2] := ⟨rfl, rfl, rfl, rfl, rfl, by decide⟩
          refine kw_go_i hs29 hP hD hS hA (va_runS (As := [.long ((nI an5).toInt64), .long 0, .long 99]) (rest := []) ⟨hx, hb, hml, hown, hts⟩ (gr_in l D y (nI an5) 0 99 (by omega) (by omega) _) (va_cwS 3 hts gX11_note_X11_in rfl rfl rfl (by decide +kernel) ⟨Nat.le_of_ble_eq_true rfl, Nat.le_of_ble_eq_true rfl⟩) (kw_PreS hs29 hP hD hK hN) rfl rfl hl.1 rfl (lv_room (Nat.le_of_ble_eq_true rfl)) dX11_note_37 ⟨Nat.le_of_ble_eq_true rfl, Nat.le_of_ble_eq_true rfl⟩) (fun r30 u31 H locs hq hP hD hS => ?_)
          rcases hq with ⟨j32, h33, h34, h35, rfl⟩ | ⟨h36, rfl⟩
          · skip
            have h35 : an5 = j32 := (nI_eq (a := an5) (b := j32) (by omega) (by omega)).mp h35
            have hP : va_P D vwCl [(mrf, .inl (y 0, 3, .inl frf)), (mo, .inr (11, [.ref to, .ref ke, .ref ik, .ref mrf, .long mab, .long mbl, .ref ha, .ref r0, .ref mbr, .ref mbp, .ref mby, .int (nI bl), .int (nI ta), .int (nI tl), .int (nI tk), .int vv, .ref an, .ref va])), (to, .inl (y 0, 228, .inl ft))] H := hP
            have hD : va_D A [(mrf, .inl (y 0, 3, .inl frf)), (mo, .inr (11, [.ref to, .ref ke, .ref ik, .ref mrf, .long mab, .long mbl, .ref ha, .ref r0, .ref mbr, .ref mbp, .ref mby, .int (nI bl), .int (nI ta), .int (nI tl), .int (nI tk), .int vv, .ref an, .ref va])), (to, .inl (y 0, 228, .inl ft))] := hD
            refine lv_if_ne (tgt := 50) hx hb dX11_note_40 (by decide) (fun _ => ?_) (fun h9 => absurd h9 (by decide))
            refine lv_aload_n hx hb dX11_note_50 rfl (lv_at hl 0 rfl) ?_
            refine va_get (D := D) (ci := 11) (v := .ref to) (C := RX11) (T := TX11) (N := 18) hx hb hts iw11 hown hK hP 1 rfl rfl 0 (by decide) fw2 (fun _ h9 => h9) rfl dX11_note_51 ?_
            refine lv_iconst (v := 3) hx hb dX11_note_54 (by decide) ?_
            refine va_iald hx hb hK hP 2 0 rfl rfl (by unfold vp_in; decide) dX11_note_55 ?_
            rw [show ((3 : Int32)).toNatClampNeg = 3 from rfl]
            rw [show (ft 3) = (nI 4) from hk3_]
            refine lv_bipush (v := 6) hx hb dX11_note_56 (by decide) ?_
            refine lv_icmp_ne (tgt := 66) hx hb dX11_note_58 (by decide) (fun h37 => ?_) (fun h38 => ?_)
            · skip
              have h37 : ¬ 4 = 6 := fun q9 => h37 ((nI_eq (a := 4) (b := 6) (by omega) (by omega)).mpr q9)
              refine lv_bipush (v := 46) hx hb dX11_note_66 (by decide) ?_
              refine lv_iconst (v := 5) hx hb dX11_note_68 (by decide) ?_
              refine lv_aload_n hx hb dX11_note_69 rfl (lv_at hl 0 rfl) ?_
              refine va_get (D := D) (ci := 11) (v := .ref to) (C := RX11) (T := TX11) (N := 18) hx hb hts iw11 hown hK hP 1 rfl rfl 0 (by decide) fw2 (fun _ h9 => h9) rfl dX11_note_70 ?_
              refine lv_iconst (v := 3) hx hb dX11_note_73 (by decide) ?_
              refine va_iald hx hb hK hP 2 0 rfl rfl (by unfold vp_in; decide) dX11_note_74 ?_
              rw [show ((3 : Int32)).toNatClampNeg = 3 from rfl]
              rw [show (ft 3) = (nI 4) from hk3_]
              refine lv_imul hx hb dX11_note_75 ?_
              rw [show 5 * (nI 4) = nI (20) from pk_mul 5 4]
              refine lv_iadd hx hb dX11_note_76 ?_
              rw [show 46 + (nI 20) = nI (66) from nI_add 46 20]
              refine lv_istore (lv' := [(6, .int (nI 66)), (0, .ref mo), (1, .int (nI an1)), (2, .int (nI an2)), (3, .int (nI an3)), (4, .int (nI an4)), (5, .int (nI an5))]) hx hb dX11_note_77 hl (by decide) rfl (fun ls hl => ?_)
              refine lv_aload_n hx hb dX11_note_79 rfl (lv_at hl 1 rfl) ?_
              refine va_get (D := D) (ci := 11) (v := .ref to) (C := RX11) (T := TX11) (N := 18) hx hb hts iw11 hown hK hP 1 rfl rfl 0 (by decide) fw2 (fun _ h9 => h9) rfl dX11_note_80 ?_
              refine lv_iload hx hb dX11_note_83 (lv_at hl 0 rfl) ?_
              refine lv_iload_n hx hb dX11_note_85 rfl (lv_at hl 2 rfl) ?_
              refine va_iast hx hb hK hP hD hS 2 0 rfl rfl (vp_in_nI (by omega) (by decide)) dX11_note_86 (fun H locs hP hD hS => ?_)
              rw [nI_clamp (n := 66) (by omega)] at hP hD
              have hr39 : kr_t 228 (upd ft 66 (nI an1)) := kr_up hkt (kr_free (by unfold kr_a; omega) (by unfold kr_s; omega))
              have hk40 : (upd ft 66 (nI an1)) 0 = (nI fi) := (pk_un (by decide)).trans hk0_
              have hk41 : (upd ft 66 (nI an1)) 1 = (nI gl) := (pk_un (by decide)).trans hk1_
              have hk42 : (upd ft 66 (nI an1)) 2 = (nI mi) := (pk_un (by decide)).trans hk2_
              have hk43 : (upd ft 66 (nI an1)) 3 = (nI 4) := (pk_un (by decide)).trans hk3_
              have hk44 : (upd ft 66 (nI an1)) 4 = (nI un) := (pk_un (by decide)).trans hk4_
              have hP : va_P D vwCl [(mrf, .inl (y 0, 3, .inl frf)), (mo, .inr (11, [.ref to, .ref ke, .ref ik, .ref mrf, .long mab, .long mbl, .ref ha, .ref r0, .ref mbr, .ref mbp, .ref mby, .int (nI bl), .int (nI ta), .int (nI tl), .int (nI tk), .int vv, .ref an, .ref va])), (to, .inl (y 0, 228, .inl (upd ft 66 (nI an1))))] H := hP
              have hD : va_D A [(mrf, .inl (y 0, 3, .inl frf)), (mo, .inr (11, [.ref to, .ref ke, .ref ik, .ref mrf, .long mab, .long mbl, .ref ha, .ref r0, .ref mbr, .ref mbp, .ref mby, .int (nI bl), .int (nI ta), .int (nI tl), .int (nI tk), .int vv, .ref an, .ref va])), (to, .inl (y 0, 228, .inl (upd ft 66 (nI an1))))] := hD
              refine lv_aload_n hx hb dX11_note_87 rfl (lv_at hl 1 rfl) ?_
              refine va_get (D := D) (ci := 11) (v := .ref to) (C := RX11) (T := TX11) (N := 18) hx hb hts iw11 hown hK hP 1 rfl rfl 0 (by decide) fw2 (fun _ h9 => h9) rfl dX11_note_88 ?_
              refine lv_iload hx hb dX11_note_91 (lv_at hl 0 rfl) ?_
              refine lv_iconst (v := 1) hx hb dX11_note_93 (by decide) ?_
              refine lv_iadd hx hb dX11_note_94 ?_
              rw [show (nI 66) + 1 = nI (67) from nI_add 66 1]
              refine lv_iload_n hx hb dX11_note_95 rfl (lv_at hl 3 rfl) ?_
              refine va_iast hx hb hK hP hD hS 2 0 rfl rfl (vp_in_nI (by omega) (by decide)) dX11_note_96 (fun H locs hP hD hS => ?_)
              rw [nI_clamp (n := 67) (by omega)] at hP hD
              have hr45 : kr_t 228 (upd (upd ft 66 (nI an1)) 67 (nI an2)) := kr_up hr39 (kr_free (by unfold kr_a; omega) (by unfold kr_s; omega))
              have hk46 : (upd (upd ft 66 (nI an1)) 67 (nI an2)) 0 = (nI fi) := (pk_un (by decide)).trans hk40
              have hk47 : (upd (upd ft 66 (nI an1)) 67 (nI an2)) 1 = (nI gl) := (pk_un (by decide)).trans hk41
              have hk48 : (upd (upd ft 66 (nI an1)) 67 (nI an2)) 2 = (nI mi) := (pk_un (by decide)).trans hk42
              have hk49 : (upd (upd ft 66 (nI an1)) 67 (nI an2)) 3 = (nI 4) := (pk_un (by decide)).trans hk43
              have hk50 : (upd (upd ft 66 (nI an1)) 67 (nI an2)) 4 = (nI un) := (pk_un (by decide)).trans hk44
              have hP : va_P D vwCl [(mrf, .inl (y 0, 3, .inl frf)), (mo, .inr (11, [.ref to, .ref ke, .ref ik, .ref mrf, .long mab, .long mbl, .ref ha, .ref r0, .ref mbr, .ref mbp, .ref mby, .int (nI bl), .int (nI ta), .int (nI tl), .int (nI tk), .int vv, .ref an, .ref va])), (to, .inl (y 0, 228, .inl (upd (upd ft 66 (nI an1)) 67 (nI an2))))] H := hP
              have hD : va_D A [(mrf, .inl (y 0, 3, .inl frf)), (mo, .inr (11, [.ref to, .ref ke, .ref ik, .ref mrf, .long mab, .long mbl, .ref ha, .ref r0, .ref mbr, .ref mbp, .ref mby, .int (nI bl), .int (nI ta), .int (nI tl), .int (nI tk), .int vv, .ref an, .ref va])), (to, .inl (y 0, 228, .inl (upd (upd ft 66 (nI an1)) 67 (nI an2))))] := hD
              refine lv_aload_n hx hb dX11_note_97 rfl (lv_at hl 1 rfl) ?_
              refine va_get (D := D) (ci := 11) (v := .ref to) (C := RX11) (T := TX11) (N := 18) hx hb hts iw11 hown hK hP 1 rfl rfl 0 (by decide) fw2 (fun _ h9 => h9) rfl dX11_note_98 ?_
              refine lv_iload hx hb dX11_note_101 (lv_at hl 0 rfl) ?_
              refine lv_iconst (v := 2) hx hb dX11_note_103 (by decide) ?_
              refine lv_iadd hx hb dX11_note_104 ?_
              rw [show (nI 66) + 2 = nI (68) from nI_add 66 2]
              refine lv_iload_n hx hb dX11_note_105 rfl (lv_at hl 4 rfl) ?_
              refine va_iast hx hb hK hP hD hS 2 0 rfl rfl (vp_in_nI (by omega) (by decide)) dX11_note_106 (fun H locs hP hD hS => ?_)
              rw [nI_clamp (n := 68) (by omega)] at hP hD
              have hr51 : kr_t 228 (upd (upd (upd ft 66 (nI an1)) 67 (nI an2)) 68 (nI an3)) := kr_up hr45 (kr_free (by unfold kr_a; omega) (by unfold kr_s; omega))
              have hk52 : (upd (upd (upd ft 66 (nI an1)) 67 (nI an2)) 68 (nI an3)) 0 = (nI fi) := (pk_un (by decide)).trans hk46
              have hk53 : (upd (upd (upd ft 66 (nI an1)) 67 (nI an2)) 68 (nI an3)) 1 = (nI gl) := (pk_un (by decide)).trans hk47
              have hk54 : (upd (upd (upd ft 66 (nI an1)) 67 (nI an2)) 68 (nI an3)) 2 = (nI mi) := (pk_un (by decide)).trans hk48
              have hk55 : (upd (upd (upd ft 66 (nI an1)) 67 (nI an2)) 68 (nI an3)) 3 = (nI 4) := (pk_un (by decide)).trans hk49
              have hk56 : (upd (upd (upd ft 66 (nI an1)) 67 (nI an2)) 68 (nI an3)) 4 = (nI un) := (pk_un (by decide)).trans hk50
              have hP : va_P D vwCl [(mrf, .inl (y 0, 3, .inl frf)), (mo, .inr (11, [.ref to, .ref ke, .ref ik, .ref mrf, .long mab, .long mbl, .ref ha, .ref r0, .ref mbr, .ref mbp, .ref mby, .int (nI bl), .int (nI ta), .int (nI tl), .int (nI tk), .int vv, .ref an, .ref va])), (to, .inl (y 0, 228, .inl (upd (upd (upd ft 66 (nI an1)) 67 (nI an2)) 68 (nI an3))))] H := hP
              have hD : va_D A [(mrf, .inl (y 0, 3, .inl frf)), (mo, .inr (11, [.ref to, .ref ke, .ref ik, .ref mrf, .long mab, .long mbl, .ref ha, .ref r0, .ref mbr, .ref mbp, .ref mby, .int (nI bl), .int (nI ta), .int (nI tl), .int (nI tk), .int vv, .ref an, .ref va])), (to, .inl (y 0, 228, .inl (upd (upd (upd ft 66 (nI an1)) 67 (nI an2)) 68 (nI an3))))] := hD
              refine lv_aload_n hx hb dX11_note_107 rfl (lv_at hl 1 rfl) ?_
              refine va_get (D := D) (ci := 11) (v := .ref to) (C := RX11) (T := TX11) (N := 18) hx hb hts iw11 hown hK hP 1 rfl rfl 0 (by decide) fw2 (fun _ h9 => h9) rfl dX11_note_108 ?_
              refine lv_iload hx hb dX11_note_111 (lv_at hl 0 rfl) ?_
              refine lv_iconst (v := 3) hx hb dX11_note_113 (by decide) ?_
              refine lv_iadd hx hb dX11_note_114 ?_
              rw [show (nI 66) + 3 = nI (69) from nI_add 66 3]
              refine lv_iload hx hb dX11_note_115 (lv_at hl 5 rfl) ?_
              refine va_iast hx hb hK hP hD hS 2 0 rfl rfl (vp_in_nI (by omega) (by decide)) dX11_note_117 (fun H locs hP hD hS => ?_)
              rw [nI_clamp (n := 69) (by omega)] at hP hD
              have hr57 : kr_t 228 (upd (upd (upd (upd ft 66 (nI an1)) 67 (nI an2)) 68 (nI an3)) 69 (nI an4)) := kr_up hr51 (kr_free (by unfold kr_a; omega) (by unfold kr_s; omega))
              have hk58 : (upd (upd (upd (upd ft 66 (nI an1)) 67 (nI an2)) 68 (nI an3)) 69 (nI an4)) 0 = (nI fi) := (pk_un (by decide)).trans hk52
              have hk59 : (upd (upd (upd (upd ft 66 (nI an1)) 67 (nI an2)) 68 (nI an3)) 69 (nI an4)) 1 = (nI gl) := (pk_un (by decide)).trans hk53
              have hk60 : (upd (upd (upd (upd ft 66 (nI an1)) 67 (nI an2)) 68 (nI an3)) 69 (nI an4)) 2 = (nI mi) := (pk_un (by decide)).trans hk54
              have hk61 : (upd (upd (upd (upd ft 66 (nI an1)) 67 (nI an2)) 68 (nI an3)) 69 (nI an4)) 3 = (nI 4) := (pk_un (by decide)).trans hk55
              have hk62 : (upd (upd (upd (upd ft 66 (nI an1)) 67 (nI an2)) 68 (nI an3)) 69 (nI an4)) 4 = (nI un) := (pk_un (by decide)).trans hk56
              have hP : va_P D vwCl [(mrf, .inl (y 0, 3, .inl frf)), (mo, .inr (11, [.ref to, .ref ke, .ref ik, .ref mrf, .long mab, .long mbl, .ref ha, .ref r0, .ref mbr, .ref mbp, .ref mby, .int (nI bl), .int (nI ta), .int (nI tl), .int (nI tk), .int vv, .ref an, .ref va])), (to, .inl (y 0, 228, .inl (upd (upd (upd (upd ft 66 (nI an1)) 67 (nI an2)) 68 (nI an3)) 69 (nI an4))))] H := hP
              have hD : va_D A [(mrf, .inl (y 0, 3, .inl frf)), (mo, .inr (11, [.ref to, .ref ke, .ref ik, .ref mrf, .long mab, .long mbl, .ref ha, .ref r0, .ref mbr, .ref mbp, .ref mby, .int (nI bl), .int (nI ta), .int (nI tl), .int (nI tk), .int vv, .ref an, .ref va])), (to, .inl (y 0, 228, .inl (upd (upd (upd (upd ft 66 (nI an1)) 67 (nI an2)) 68 (nI an3)) 69 (nI an4))))] := hD
              refine lv_aload_n hx hb dX11_note_118 rfl (lv_at hl 1 rfl) ?_
              refine va_get (D := D) (ci := 11) (v := .ref to) (C := RX11) (T := TX11) (N := 18) hx hb hts iw11 hown hK hP 1 rfl rfl 0 (by decide) fw2 (fun _ h9 => h9) rfl dX11_note_119 ?_
              refine lv_iload hx hb dX11_note_122 (lv_at hl 0 rfl) ?_
              refine lv_iconst (v := 4) hx hb dX11_note_124 (by decide) ?_
              refine lv_iadd hx hb dX11_note_125 ?_
              rw [show (nI 66) + 4 = nI (70) from nI_add 66 4]
              refine lv_iload hx hb dX11_note_126 (lv_at hl 6 rfl) ?_
              refine va_iast hx hb hK hP hD hS 2 0 rfl rfl (vp_in_nI (by omega) (by decide)) dX11_note_128 (fun H locs hP hD hS => ?_)
              rw [nI_clamp (n := 70) (by omega)] at hP hD
              have hr63 : kr_t 228 (upd (upd (upd (upd (upd ft 66 (nI an1)) 67 (nI an2)) 68 (nI an3)) 69 (nI an4)) 70 (nI an5)) := kr_up hr57 (kr_free (by unfold kr_a; omega) (by unfold kr_s; omega))
              have hk64 : (upd (upd (upd (upd (upd ft 66 (nI an1)) 67 (nI an2)) 68 (nI an3)) 69 (nI an4)) 70 (nI an5)) 0 = (nI fi) := (pk_un (by decide)).trans hk58
              have hk65 : (upd (upd (upd (upd (upd ft 66 (nI an1)) 67 (nI an2)) 68 (nI an3)) 69 (nI an4)) 70 (nI an5)) 1 = (nI gl) := (pk_un (by decide)).trans hk59
              have hk66 : (upd (upd (upd (upd (upd ft 66 (nI an1)) 67 (nI an2)) 68 (nI an3)) 69 (nI an4)) 70 (nI an5)) 2 = (nI mi) := (pk_un (by decide)).trans hk60
              have hk67 : (upd (upd (upd (upd (upd ft 66 (nI an1)) 67 (nI an2)) 68 (nI an3)) 69 (nI an4)) 70 (nI an5)) 3 = (nI 4) := (pk_un (by decide)).trans hk61
              have hk68 : (upd (upd (upd (upd (upd ft 66 (nI an1)) 67 (nI an2)) 68 (nI an3)) 69 (nI an4)) 70 (nI an5)) 4 = (nI un) := (pk_un (by decide)).trans hk62
              have hP : va_P D vwCl [(mrf, .inl (y 0, 3, .inl frf)), (mo, .inr (11, [.ref to, .ref ke, .ref ik, .ref mrf, .long mab, .long mbl, .ref ha, .ref r0, .ref mbr, .ref mbp, .ref mby, .int (nI bl), .int (nI ta), .int (nI tl), .int (nI tk), .int vv, .ref an, .ref va])), (to, .inl (y 0, 228, .inl (upd (upd (upd (upd (upd ft 66 (nI an1)) 67 (nI an2)) 68 (nI an3)) 69 (nI an4)) 70 (nI an5))))] H := hP
              have hD : va_D A [(mrf, .inl (y 0, 3, .inl frf)), (mo, .inr (11, [.ref to, .ref ke, .ref ik, .ref mrf, .long mab, .long mbl, .ref ha, .ref r0, .ref mbr, .ref mbp, .ref mby, .int (nI bl), .int (nI ta), .int (nI tl), .int (nI tk), .int vv, .ref an, .ref va])), (to, .inl (y 0, 228, .inl (upd (upd (upd (upd (upd ft 66 (nI an1)) 67 (nI an2)) 68 (nI an3)) 69 (nI an4)) 70 (nI an5))))] := hD
              refine lv_aload_n hx hb dX11_note_129 rfl (lv_at hl 1 rfl) ?_
              refine va_get (D := D) (ci := 11) (v := .ref to) (C := RX11) (T := TX11) (N := 18) hx hb hts iw11 hown hK hP 1 rfl rfl 0 (by decide) fw2 (fun _ h9 => h9) rfl dX11_note_130 ?_
              refine lv_iconst (v := 3) hx hb dX11_note_133 (by decide) ?_
              refine lv_dup2_11 hx hb dX11_note_134 rfl rfl ?_
              refine va_iald hx hb hK hP 2 0 rfl rfl (by unfold vp_in; decide) dX11_note_135 ?_
              rw [show ((3 : Int32)).toNatClampNeg = 3 from rfl]
              rw [show ((upd (upd (upd (upd (upd ft 66 (nI an1)) 67 (nI an2)) 68 (nI an3)) 69 (nI an4)) 70 (nI an5)) 3) = (nI 4) from hk67]
              refine lv_iconst (v := 1) hx hb dX11_note_136 (by decide) ?_
              refine lv_iadd hx hb dX11_note_137 ?_
              rw [show (nI 4) + 1 = nI (5) from nI_add 4 1]
              refine va_iast hx hb hK hP hD hS 2 0 rfl rfl (by unfold vp_in; decide) dX11_note_138 (fun H locs hP hD hS => ?_)
              rw [show ((3 : Int32)).toNatClampNeg = 3 from rfl] at hP hD
              have hr69 : kr_t 228 (upd (upd (upd (upd (upd (upd ft 66 (nI an1)) 67 (nI an2)) 68 (nI an3)) 69 (nI an4)) 70 (nI an5)) 3 (nI 5)) := kr_up hr63 (kr_free (by unfold kr_a; omega) (by unfold kr_s; omega))
              have hk70 : (upd (upd (upd (upd (upd (upd ft 66 (nI an1)) 67 (nI an2)) 68 (nI an3)) 69 (nI an4)) 70 (nI an5)) 3 (nI 5)) 0 = (nI fi) := (pk_un (by decide)).trans hk64
              have hk71 : (upd (upd (upd (upd (upd (upd ft 66 (nI an1)) 67 (nI an2)) 68 (nI an3)) 69 (nI an4)) 70 (nI an5)) 3 (nI 5)) 1 = (nI gl) := (pk_un (by decide)).trans hk65
              have hk72 : (upd (upd (upd (upd (upd (upd ft 66 (nI an1)) 67 (nI an2)) 68 (nI an3)) 69 (nI an4)) 70 (nI an5)) 3 (nI 5)) 2 = (nI mi) := (pk_un (by decide)).trans hk66
              have hk73 : (upd (upd (upd (upd (upd (upd ft 66 (nI an1)) 67 (nI an2)) 68 (nI an3)) 69 (nI an4)) 70 (nI an5)) 3 (nI 5)) 4 = (nI un) := (pk_un (by decide)).trans hk68
              have hk74 : (upd (upd (upd (upd (upd (upd ft 66 (nI an1)) 67 (nI an2)) 68 (nI an3)) 69 (nI an4)) 70 (nI an5)) 3 (nI 5)) 3 = (nI 5) := pk_us
              have hP : va_P D vwCl [(mrf, .inl (y 0, 3, .inl frf)), (mo, .inr (11, [.ref to, .ref ke, .ref ik, .ref mrf, .long mab, .long mbl, .ref ha, .ref r0, .ref mbr, .ref mbp, .ref mby, .int (nI bl), .int (nI ta), .int (nI tl), .int (nI tk), .int vv, .ref an, .ref va])), (to, .inl (y 0, 228, .inl (upd (upd (upd (upd (upd (upd ft 66 (nI an1)) 67 (nI an2)) 68 (nI an3)) 69 (nI an4)) 70 (nI an5)) 3 (nI 5))))] H := hP
              have hD : va_D A [(mrf, .inl (y 0, 3, .inl frf)), (mo, .inr (11, [.ref to, .ref ke, .ref ik, .ref mrf, .long mab, .long mbl, .ref ha, .ref r0, .ref mbr, .ref mbp, .ref mby, .int (nI bl), .int (nI ta), .int (nI tl), .int (nI tk), .int vv, .ref an, .ref va])), (to, .inl (y 0, 228, .inl (upd (upd (upd (upd (upd (upd ft 66 (nI an1)) 67 (nI an2)) 68 (nI an3)) 69 (nI an4)) 70 (nI an5)) 3 (nI 5))))] := hD
              refine lv_aload_n hx hb dX11_note_139 rfl (lv_at hl 1 rfl) ?_
              refine va_get (D := D) (ci := 11) (v := .ref to) (C := RX11) (T := TX11) (N := 18) hx hb hts iw11 hown hK hP 1 rfl rfl 0 (by decide) fw2 (fun _ h9 => h9) rfl dX11_note_140 ?_
              refine lv_iconst (v := 3) hx hb dX11_note_143 (by decide) ?_
              refine va_iald hx hb hK hP 2 0 rfl rfl (by unfold vp_in; decide) dX11_note_144 ?_
              rw [show ((3 : Int32)).toNatClampNeg = 3 from rfl]
              rw [show ((upd (upd (upd (upd (upd (upd ft 66 (nI an1)) 67 (nI an2)) 68 (nI an3)) 69 (nI an4)) 70 (nI an5)) 3 (nI 5)) 3) = (nI 5) from hk74]
              exact W.iret (v := (nI 5)) hx hb hr (fun tZ ht hW => ⟨⟨(nI 5), (), rfl, ⟨hr69, hk70, hk71, hk72, hk74, hk73, by first | omega | (dsimp only; omega), rfl⟩, by rw [ht]; exact hP.sub [1, 0, 2] rfl, hD.sub [1, 0, 2] (by decide) rfl⟩, hS.F ht⟩) hS.2.2 dX11_note_145
            · skip
              have h38 : 4 = 6 := (nI_eq (a := 4) (b := 6) (by omega) (by omega)).mp h38
              exact absurd h38 (by omega)
          · skip
            exact absurd ⟨an5, by omega, by omega, rfl⟩ h36
        · skip
          exact absurd ⟨an4, by omega, by omega, rfl⟩ h28
      · skip
        exact absurd ⟨an3, by omega, by omega, rfl⟩ h21
    · skip
      exact absurd ⟨an2, by omega, by omega, rfl⟩ h14
  · skip
    exact absurd ⟨an1, by omega, rfl⟩ h7

set_option maxHeartbeats 4000000 in
set_option maxRecDepth 100000 in
theorem gd_addNote5 (l : Launch) (D : va_G) (y : Nat → ClassId) (nw : Nat) (kk : Nat) (nk : Nat) (nd : Nat) (ne : Nat) (nm : Nat) (nn : Nat) (fi : Nat) (gl : Nat) (un : Nat) (mi : Nat) (no : Nat) (t0 : Nat) (t1 : Nat) (t2 : Nat) (t3 : Nat) (t4 : Nat) (t5 : Nat) (t0f : Nat → Int32) (t1f : Nat → Int32) (t2f : Nat → Int32) (t3f : Nat → Int32) (t4f : Nat → Int32) (t5f : Nat → Int32) (fn_ : Nat → Option Nat) (x0 : Int32) (x : Int32) (x2 : Int32) (x3 : Int32) (x4 : Int32) (hfi : fi ≤ 6) (hgl : gl ≤ 5) (hun : un ≤ 8) (hmi : mi ≤ 4) (hno : no ≤ 6) (hn0 : fn_ 0 = some t0) (hn1 : fn_ 1 = some t1) (hn2 : fn_ 2 = some t2) (hn3 : fn_ 3 = some t3) (hn4 : fn_ 4 = some t4) (hn5 : fn_ 5 = some t5) (hj : no = 5) : kw_Mi l yX4_addNote wsX4_addNote ({ frames := 1, cells := 0, slots := 0, locals := 60 }) D y [.ref nw, .int x0, .int x, .int x2, .int x3, .int x4] [(nw, .inr (4, [.ref kk, .ref nk, .ref nd, .ref ne, .ref nm, .ref nn, .int (nI fi), .int (nI gl), .int (nI un), .int (nI mi), .int (nI no)])), (nn, .inl (y 6, 6, .inr (.inr (.inr (.inr fn_))))), (t0, .inl (y 0, 5, .inl t0f)), (t1, .inl (y 0, 5, .inl t1f)), (t2, .inl (y 0, 5, .inl t2f)), (t3, .inl (y 0, 5, .inl t3f)), (t4, .inl (y 0, 5, .inl t4f)), (t5, .inl (y 0, 5, .inl t5f))] (fun (r : Int32) (u : Unit) => r = (nI (no + 1))) (fun _ => [(nw, .inr (4, [.ref kk, .ref nk, .ref nd, .ref ne, .ref nm, .ref nn, .int (nI fi), .int (nI gl), .int (nI un), .int (nI mi), .int (nI (no + 1))])), (nn, .inl (y 6, 6, .inr (.inr (.inr (.inr fn_))))), (t0, .inl (y 0, 5, .inl t0f)), (t1, .inl (y 0, 5, .inl t1f)), (t2, .inl (y 0, 5, .inl t2f)), (t3, .inl (y 0, 5, .inl t3f)), (t4, .inl (y 0, 5, .inl t4f)), (t5, .inl (y 0, 5, .inl (upd (upd (upd (upd (upd t5f 0 x0) 1 x) 2 x2) 3 x3) 4 x4)))]) 0 0 := by
  refine kw_Mi.of (cc := cX4_addNote) (maxL := 7) (ret := (some .int)) (by decide) rfl ?_
  intro pZ eZ s mZ beZ meZ cZ A hE
  obtain ⟨hx, hb, hr, hml, hts, hown, hlocks, hin, hA, hP, hD, hK, hN⟩ := hE
  have hS : va_S A s.heap s.heap [] := va_S.rf
  have hl := lv_entry ([.ref nw, .int x0, .int x, .int x2, .int x3, .int x4]) (n := 7) (Nat.le_of_ble_eq_true rfl)
  rw [lg_entry_eq]
  generalize (lg_sl ([.ref nw, .int x0, .int x, .int x2, .int x3, .int x4]) ++ List.replicate (7 - (lg_sl ([.ref nw, .int x0, .int x, .int x2, .int x3, .int x4])).length) Slot.unset).toArray = ls at hl ⊢
  have hl : lv_has ls 7 [(0, .ref nw), (1, .int x0), (2, .int x), (3, .int x2), (4, .int x3), (5, .int x4)] := hl
  have fw1 := hts (.fieldLink RX4 31 "GleanDusk$Parish" "notes" "[[I") (List.mem_of_getElem? (i := 1) rfl)
  have fw2 := hts (.fieldLink RX4 51 "GleanDusk$Parish" "noteCount" "I") (List.mem_of_getElem? (i := 2) rfl)
  have iw4 : ∀ w ∈ wsX40, w ∈ wsX4_addNote := fun _ h => List.mem_cons_of_mem _ (List.mem_append_right _ h)
  obtain rfl : no = 5 := by omega
  refine lv_aload_n hx hb dX4_addNote_0 rfl (lv_at hl 0 rfl) ?_
  refine va_get (D := D) (ci := 4) (v := .ref nn) (C := RX4) (T := TX4) (N := 11) hx hb hts iw4 hown hK hP 0 rfl rfl 5 (by decide) fw1 (fun _ h9 => h9) rfl dX4_addNote_1 ?_
  refine lv_aload_n hx hb dX4_addNote_4 rfl (lv_at hl 0 rfl) ?_
  refine va_get (D := D) (ci := 4) (v := .int (nI 5)) (C := RX4) (T := TX4) (N := 11) hx hb hts iw4 hown hK hP 0 rfl rfl 10 (by decide) fw2 (fun _ h9 => h9) rfl dX4_addNote_5 ?_
  refine kw_aldQ hx hb hK hP 1 6 rfl rfl (vp_in_nI (by omega) (by decide)) dX4_addNote_8 ?_
  rw [nI_clamp (n := 5) (by omega), show va_rf (fn_ 5) = .ref t5 from congrArg va_rf hn5]
  refine lv_astore (lv' := [(6, .ref t5), (0, .ref nw), (1, .int x0), (2, .int x), (3, .int x2), (4, .int x3), (5, .int x4)]) hx hb dX4_addNote_9 hl (by decide) rfl (fun ls hl => ?_)
  refine lv_aload hx hb dX4_addNote_11 (lv_at hl 0 rfl) ?_
  refine lv_iconst (v := 0) hx hb dX4_addNote_13 (by decide) ?_
  refine lv_iload_n hx hb dX4_addNote_14 rfl (lv_at hl 2 rfl) ?_
  refine va_iast hx hb hK hP hD hS 7 0 rfl rfl (by unfold vp_in; decide) dX4_addNote_15 (fun H locs hP hD hS => ?_)
  rw [show ((0 : Int32)).toNatClampNeg = 0 from rfl] at hP hD
  have hP : va_P D vwCl [(nw, .inr (4, [.ref kk, .ref nk, .ref nd, .ref ne, .ref nm, .ref nn, .int (nI fi), .int (nI gl), .int (nI un), .int (nI mi), .int (nI 5)])), (nn, .inl (y 6, 6, .inr (.inr (.inr (.inr fn_))))), (t0, .inl (y 0, 5, .inl t0f)), (t1, .inl (y 0, 5, .inl t1f)), (t2, .inl (y 0, 5, .inl t2f)), (t3, .inl (y 0, 5, .inl t3f)), (t4, .inl (y 0, 5, .inl t4f)), (t5, .inl (y 0, 5, .inl (upd t5f 0 x0)))] H := hP
  have hD : va_D A [(nw, .inr (4, [.ref kk, .ref nk, .ref nd, .ref ne, .ref nm, .ref nn, .int (nI fi), .int (nI gl), .int (nI un), .int (nI mi), .int (nI 5)])), (nn, .inl (y 6, 6, .inr (.inr (.inr (.inr fn_))))), (t0, .inl (y 0, 5, .inl t0f)), (t1, .inl (y 0, 5, .inl t1f)), (t2, .inl (y 0, 5, .inl t2f)), (t3, .inl (y 0, 5, .inl t3f)), (t4, .inl (y 0, 5, .inl t4f)), (t5, .inl (y 0, 5, .inl (upd t5f 0 x0)))] := hD
  refine lv_aload hx hb dX4_addNote_16 (lv_at hl 0 rfl) ?_
  refine lv_iconst (v := 1) hx hb dX4_addNote_18 (by decide) ?_
  refine lv_iload_n hx hb dX4_addNote_19 rfl (lv_at hl 3 rfl) ?_
  refine va_iast hx hb hK hP hD hS 7 0 rfl rfl (by unfold vp_in; decide) dX4_addNote_20 (fun H locs hP hD hS => ?_)
  rw [show ((1 : Int32)).toNatClampNeg = 1 from rfl] at hP hD
  have hP : va_P D vwCl [(nw, .inr (4, [.ref kk, .ref nk, .ref nd, .ref ne, .ref nm, .ref nn, .int (nI fi), .int (nI gl), .int (nI un), .int (nI mi), .int (nI 5)])), (nn, .inl (y 6, 6, .inr (.inr (.inr (.inr fn_))))), (t0, .inl (y 0, 5, .inl t0f)), (t1, .inl (y 0, 5, .inl t1f)), (t2, .inl (y 0, 5, .inl t2f)), (t3, .inl (y 0, 5, .inl t3f)), (t4, .inl (y 0, 5, .inl t4f)), (t5, .inl (y 0, 5, .inl (upd (upd t5f 0 x0) 1 x)))] H := hP
  have hD : va_D A [(nw, .inr (4, [.ref kk, .ref nk, .ref nd, .ref ne, .ref nm, .ref nn, .int (nI fi), .int (nI gl), .int (nI un), .int (nI mi), .int (nI 5)])), (nn, .inl (y 6, 6, .inr (.inr (.inr (.inr fn_))))), (t0, .inl (y 0, 5, .inl t0f)), (t1, .inl (y 0, 5, .inl t1f)), (t2, .inl (y 0, 5, .inl t2f)), (t3, .inl (y 0, 5, .inl t3f)), (t4, .inl (y 0, 5, .inl t4f)), (t5, .inl (y 0, 5, .inl (upd (upd t5f 0 x0) 1 x)))] := hD
  refine lv_aload hx hb dX4_addNote_21 (lv_at hl 0 rfl) ?_
  refine lv_iconst (v := 2) hx hb dX4_addNote_23 (by decide) ?_
  refine lv_iload_n hx hb dX4_addNote_24 rfl (lv_at hl 4 rfl) ?_
  refine va_iast hx hb hK hP hD hS 7 0 rfl rfl (by unfold vp_in; decide) dX4_addNote_25 (fun H locs hP hD hS => ?_)
  rw [show ((2 : Int32)).toNatClampNeg = 2 from rfl] at hP hD
  have hP : va_P D vwCl [(nw, .inr (4, [.ref kk, .ref nk, .ref nd, .ref ne, .ref nm, .ref nn, .int (nI fi), .int (nI gl), .int (nI un), .int (nI mi), .int (nI 5)])), (nn, .inl (y 6, 6, .inr (.inr (.inr (.inr fn_))))), (t0, .inl (y 0, 5, .inl t0f)), (t1, .inl (y 0, 5, .inl t1f)), (t2, .inl (y 0, 5, .inl t2f)), (t3, .inl (y 0, 5, .inl t3f)), (t4, .inl (y 0, 5, .inl t4f)), (t5, .inl (y 0, 5, .inl (upd (upd (upd t5f 0 x0) 1 x) 2 x2)))] H := hP
  have hD : va_D A [(nw, .inr (4, [.ref kk, .ref nk, .ref nd, .ref ne, .ref nm, .ref nn, .int (nI fi), .int (nI gl), .int (nI un), .int (nI mi), .int (nI 5)])), (nn, .inl (y 6, 6, .inr (.inr (.inr (.inr fn_))))), (t0, .inl (y 0, 5, .inl t0f)), (t1, .inl (y 0, 5, .inl t1f)), (t2, .inl (y 0, 5, .inl t2f)), (t3, .inl (y 0, 5, .inl t3f)), (t4, .inl (y 0, 5, .inl t4f)), (t5, .inl (y 0, 5, .inl (upd (upd (upd t5f 0 x0) 1 x) 2 x2)))] := hD
  refine lv_aload hx hb dX4_addNote_26 (lv_at hl 0 rfl) ?_
  refine lv_iconst (v := 3) hx hb dX4_addNote_28 (by decide) ?_
  refine lv_iload hx hb dX4_addNote_29 (lv_at hl 5 rfl) ?_
  refine va_iast hx hb hK hP hD hS 7 0 rfl rfl (by unfold vp_in; decide) dX4_addNote_31 (fun H locs hP hD hS => ?_)
  rw [show ((3 : Int32)).toNatClampNeg = 3 from rfl] at hP hD
  have hP : va_P D vwCl [(nw, .inr (4, [.ref kk, .ref nk, .ref nd, .ref ne, .ref nm, .ref nn, .int (nI fi), .int (nI gl), .int (nI un), .int (nI mi), .int (nI 5)])), (nn, .inl (y 6, 6, .inr (.inr (.inr (.inr fn_))))), (t0, .inl (y 0, 5, .inl t0f)), (t1, .inl (y 0, 5, .inl t1f)), (t2, .inl (y 0, 5, .inl t2f)), (t3, .inl (y 0, 5, .inl t3f)), (t4, .inl (y 0, 5, .inl t4f)), (t5, .inl (y 0, 5, .inl (upd (upd (upd (upd t5f 0 x0) 1 x) 2 x2) 3 x3)))] H := hP
  have hD : va_D A [(nw, .inr (4, [.ref kk, .ref nk, .ref nd, .ref ne, .ref nm, .ref nn, .int (nI fi), .int (nI gl), .int (nI un), .int (nI mi), .int (nI 5)])), (nn, .inl (y 6, 6, .inr (.inr (.inr (.inr fn_))))), (t0, .inl (y 0, 5, .inl t0f)), (t1, .inl (y 0, 5, .inl t1f)), (t2, .inl (y 0, 5, .inl t2f)), (t3, .inl (y 0, 5, .inl t3f)), (t4, .inl (y 0, 5, .inl t4f)), (t5, .inl (y 0, 5, .inl (upd (upd (upd (upd t5f 0 x0) 1 x) 2 x2) 3 x3)))] := hD
  refine lv_aload hx hb dX4_addNote_32 (lv_at hl 0 rfl) ?_
  refine lv_iconst (v := 4) hx hb dX4_addNote_34 (by decide) ?_
  refine lv_iload hx hb dX4_addNote_35 (lv_at hl 6 rfl) ?_
  refine va_iast hx hb hK hP hD hS 7 0 rfl rfl (by unfold vp_in; decide) dX4_addNote_37 (fun H locs hP hD hS => ?_)
  rw [show ((4 : Int32)).toNatClampNeg = 4 from rfl] at hP hD
  have hP : va_P D vwCl [(nw, .inr (4, [.ref kk, .ref nk, .ref nd, .ref ne, .ref nm, .ref nn, .int (nI fi), .int (nI gl), .int (nI un), .int (nI mi), .int (nI 5)])), (nn, .inl (y 6, 6, .inr (.inr (.inr (.inr fn_))))), (t0, .inl (y 0, 5, .inl t0f)), (t1, .inl (y 0, 5, .inl t1f)), (t2, .inl (y 0, 5, .inl t2f)), (t3, .inl (y 0, 5, .inl t3f)), (t4, .inl (y 0, 5, .inl t4f)), (t5, .inl (y 0, 5, .inl (upd (upd (upd (upd (upd t5f 0 x0) 1 x) 2 x2) 3 x3) 4 x4)))] H := hP
  have hD : va_D A [(nw, .inr (4, [.ref kk, .ref nk, .ref nd, .ref ne, .ref nm, .ref nn, .int (nI fi), .int (nI gl), .int (nI un), .int (nI mi), .int (nI 5)])), (nn, .inl (y 6, 6, .inr (.inr (.inr (.inr fn_))))), (t0, .inl (y 0, 5, .inl t0f)), (t1, .inl (y 0, 5, .inl t1f)), (t2, .inl (y 0, 5, .inl t2f)), (t3, .inl (y 0, 5, .inl t3f)), (t4, .inl (y 0, 5, .inl t4f)), (t5, .inl (y 0, 5, .inl (upd (upd (upd (upd (upd t5f 0 x0) 1 x) 2 x2) 3 x3) 4 x4)))] := hD
  refine lv_aload_n hx hb dX4_addNote_38 rfl (lv_at hl 1 rfl) ?_
  refine lv_dup hx hb dX4_addNote_39 rfl ?_
  refine va_get (D := D) (ci := 4) (v := .int (nI 5)) (C := RX4) (T := TX4) (N := 11) hx hb hts iw4 hown hK hP 0 rfl rfl 10 (by decide) fw2 (fun _ h9 => h9) rfl dX4_addNote_40 ?_
  refine lv_iconst (v := 1) hx hb dX4_addNote_43 (by decide) ?_
  refine lv_iadd hx hb dX4_addNote_44 ?_
  rw [show (nI 5) + 1 = nI (6) from nI_add 5 1]
  refine lv_dup_x1 hx hb dX4_addNote_45 rfl rfl ?_
  refine va_put (D := D) (ci := 4) (v := .int (nI 6)) (ty := .int) (C := RX4) (T := TX4) (N := 11) hx hb hts iw4 tyX4 tyX4_ok nmX4 hown hK hP hD hS 0 rfl rfl 10 (by decide) fw2 (fun _ h9 => h9) rfl (by decide +kernel) rfl rfl (Nat.le_of_ble_eq_true rfl) dX4_addNote_46 (fun H locs hP hD hS => ?_)
  have hP : va_P D vwCl [(nw, .inr (4, [.ref kk, .ref nk, .ref nd, .ref ne, .ref nm, .ref nn, .int (nI fi), .int (nI gl), .int (nI un), .int (nI mi), .int (nI 6)])), (nn, .inl (y 6, 6, .inr (.inr (.inr (.inr fn_))))), (t0, .inl (y 0, 5, .inl t0f)), (t1, .inl (y 0, 5, .inl t1f)), (t2, .inl (y 0, 5, .inl t2f)), (t3, .inl (y 0, 5, .inl t3f)), (t4, .inl (y 0, 5, .inl t4f)), (t5, .inl (y 0, 5, .inl (upd (upd (upd (upd (upd t5f 0 x0) 1 x) 2 x2) 3 x3) 4 x4)))] H := hP
  have hD : va_D A [(nw, .inr (4, [.ref kk, .ref nk, .ref nd, .ref ne, .ref nm, .ref nn, .int (nI fi), .int (nI gl), .int (nI un), .int (nI mi), .int (nI 6)])), (nn, .inl (y 6, 6, .inr (.inr (.inr (.inr fn_))))), (t0, .inl (y 0, 5, .inl t0f)), (t1, .inl (y 0, 5, .inl t1f)), (t2, .inl (y 0, 5, .inl t2f)), (t3, .inl (y 0, 5, .inl t3f)), (t4, .inl (y 0, 5, .inl t4f)), (t5, .inl (y 0, 5, .inl (upd (upd (upd (upd (upd t5f 0 x0) 1 x) 2 x2) 3 x3) 4 x4)))] := hD
  exact W.iret (v := (nI 6)) hx hb hr (fun tZ ht hW => ⟨⟨(nI 6), (), rfl, rfl, by rw [ht]; exact hP.sub [0, 1, 2, 3, 4, 5, 6, 7] rfl, hD.sub [0, 1, 2, 3, 4, 5, 6, 7] (by decide) rfl⟩, hS.F ht⟩) hS.2.2 dX4_addNote_49

set_option maxHeartbeats 4000000 in
set_option maxRecDepth 100000 in
theorem gx_note_d5 (l : Launch) (D : va_G) (y : Nat → ClassId) (g : Nat) (kk : Nat) (nw : Nat) (im : Nat) (kp : Nat) (tx : Nat) (tr : Nat) (be : Nat) (sh : Nat) (sd : Nat) (rf : Nat) (ab : Int32) (bl : Int32) (frf : Nat → Int32) (nk : Nat) (nd : Nat) (ne : Nat) (nm : Nat) (nn : Nat) (fi : Nat) (gl : Nat) (un : Nat) (mi : Nat) (no : Nat) (t0 : Nat) (t1 : Nat) (t2 : Nat) (t3 : Nat) (t4 : Nat) (t5 : Nat) (t0f : Nat → Int32) (t1f : Nat → Int32) (t2f : Nat → Int32) (t3f : Nat → Int32) (t4f : Nat → Int32) (t5f : Nat → Int32) (fn_ : Nat → Option Nat) (an1 : Nat) (an2 : Nat) (an3 : Nat) (an4 : Nat) (an5 : Nat) (hfi : fi ≤ 6) (hgl : gl ≤ 5) (hun : un ≤ 8) (hmi : mi ≤ 4) (hno : no ≤ 6) (hn0 : fn_ 0 = some t0) (hn1 : fn_ 1 = some t1) (hn2 : fn_ 2 = some t2) (hn3 : fn_ 3 = some t3) (hn4 : fn_ 4 = some t4) (hn5 : fn_ 5 = some t5) (hA2 : no < 6) (hj : no = 5) (hB0_ : an1 < fi) (hB1_ : an2 < 12) (hB2_ : an3 ≤ 60) (hB3_ : an4 < 10) (hB4_ : an5 ≤ 99) : kw_Mi l yX10_note wsX10_note ({ frames := 3, cells := 0, slots := 0, locals := 102 }) D y [.ref g, .int (nI an1), .int (nI an2), .int (nI an3), .int (nI an4), .int (nI an5)] [(g, .inr (10, [.ref kk, .ref nw, .ref im, .ref kp, .ref tx, .ref tr, .ref be, .ref sh, .ref sd, .ref rf, .int ab, .int bl])), (rf, .inl (y 0, 3, .inl frf)), (nw, .inr (4, [.ref kk, .ref nk, .ref nd, .ref ne, .ref nm, .ref nn, .int (nI fi), .int (nI gl), .int (nI un), .int (nI mi), .int (nI no)])), (nn, .inl (y 6, 6, .inr (.inr (.inr (.inr fn_))))), (t0, .inl (y 0, 5, .inl t0f)), (t1, .inl (y 0, 5, .inl t1f)), (t2, .inl (y 0, 5, .inl t2f)), (t3, .inl (y 0, 5, .inl t3f)), (t4, .inl (y 0, 5, .inl t4f)), (t5, .inl (y 0, 5, .inl t5f))] (fun (r : Int32) (u : Unit) => r = (nI (no + 1))) (fun _ => [(g, .inr (10, [.ref kk, .ref nw, .ref im, .ref kp, .ref tx, .ref tr, .ref be, .ref sh, .ref sd, .ref rf, .int ab, .int bl])), (rf, .inl (y 0, 3, .inl frf)), (nw, .inr (4, [.ref kk, .ref nk, .ref nd, .ref ne, .ref nm, .ref nn, .int (nI fi), .int (nI gl), .int (nI un), .int (nI mi), .int (nI (no + 1))])), (nn, .inl (y 6, 6, .inr (.inr (.inr (.inr fn_))))), (t0, .inl (y 0, 5, .inl t0f)), (t1, .inl (y 0, 5, .inl t1f)), (t2, .inl (y 0, 5, .inl t2f)), (t3, .inl (y 0, 5, .inl t3f)), (t4, .inl (y 0, 5, .inl t4f)), (t5, .inl (y 0, 5, .inl (upd (upd (upd (upd (upd t5f 0 (nI an1)) 1 (nI an2)) 2 (nI an3)) 3 (nI an4)) 4 (nI an5))))]) 0 0 := by
  refine kw_Mi.of (cc := cX10_note) (maxL := 6) (ret := (some .int)) (by decide) rfl ?_
  intro pZ eZ s mZ beZ meZ cZ A hE
  obtain ⟨hx, hb, hr, hml, hts, hown, hlocks, hin, hA, hP, hD, hK, hN⟩ := hE
  have hS : va_S A s.heap s.heap [] := va_S.rf
  have hl := lv_entry ([.ref g, .int (nI an1), .int (nI an2), .int (nI an3), .int (nI an4), .int (nI an5)]) (n := 6) (Nat.le_of_ble_eq_true rfl)
  rw [lg_entry_eq]
  generalize (lg_sl ([.ref g, .int (nI an1), .int (nI an2), .int (nI an3), .int (nI an4), .int (nI an5)]) ++ List.replicate (6 - (lg_sl ([.ref g, .int (nI an1), .int (nI an2), .int (nI an3), .int (nI an4), .int (nI an5)])).length) Slot.unset).toArray = ls at hl ⊢
  have hl : lv_has ls 6 [(0, .ref g), (1, .int (nI an1)), (2, .int (nI an2)), (3, .int (nI an3)), (4, .int (nI an4)), (5, .int (nI an5))] := hl
  have fw1 := hts (.fieldLink RX10 36 "GleanDusk" "now" "LGleanDusk$Parish;") (List.mem_of_getElem? (i := 1) rfl)
  have fw2 := hts (.fieldLink RX10 250 "GleanDusk$Parish" "noteCount" "I") (List.mem_of_getElem? (i := 2) rfl)
  have iw10 : ∀ w ∈ wsX100, w ∈ wsX10_note := fun _ h => List.mem_cons_of_mem _ (List.mem_append_left _ (List.mem_append_right _ h))
  have iw4 : ∀ w ∈ wsX40, w ∈ wsX10_note := fun _ h => List.mem_cons_of_mem _ (List.mem_append_right _ h)
  obtain rfl : no = 5 := by omega
  refine lv_aload_n hx hb dX10_note_0 rfl (lv_at hl 0 rfl) ?_
  refine va_get (D := D) (ci := 10) (v := .ref nw) (C := RX10) (T := TX10) (N := 12) hx hb hts iw10 hown hK hP 0 rfl rfl 1 (by decide) fw1 (fun _ h9 => h9) rfl dX10_note_1 ?_
  refine lv_iload_n hx hb dX10_note_4 rfl (lv_at hl 1 rfl) ?_
  have hs1 : kw_Split [(g, .inr (10, [.ref kk, .ref nw, .ref im, .ref kp, .ref tx, .ref tr, .ref be, .ref sh, .ref sd, .ref rf, .int ab, .int bl])), (rf, .inl (y 0, 3, .inl frf)), (nw, .inr (4, [.ref kk, .ref nk, .ref nd, .ref ne, .ref nm, .ref nn, .int (nI fi), .int (nI gl), .int (nI un), .int (nI mi), .int (nI 5)])), (nn, .inl (y 6, 6, .inr (.inr (.inr (.inr fn_))))), (t0, .inl (y 0, 5, .inl t0f)), (t1, .inl (y 0, 5, .inl t1f)), (t2, .inl (y 0, 5, .inl t2f)), (t3, .inl (y 0, 5, .inl t3f)), (t4, .inl (y 0, 5, .inl t4f)), (t5, .inl (y 0, 5, .inl t5f))] [(nw, .inr (4, [.ref kk, .ref nk, .ref nd, .ref ne, .ref nm, .ref nn, .int (nI fi), .int (nI gl), .int (nI un), .int (nI mi), .int (nI 5)]))] [(g, .inr (10, [.ref kk, .ref nw, .ref im, .ref kp, .ref tx, .ref tr, .ref be, .ref sh, .ref sd, .ref rf, .int ab, .int bl])), (rf, .inl (y 0, 3, .inl frf)), (nn, .inl (y 6, 6, .inr (.inr (.inr (.inr fn_))))), (t0, .inl (y 0, 5, .inl t0f)), (t1, .inl (y 0, 5, .inl t1f)), (t2, .inl (y 0, 5, .inl t2f)), (t3, .inl (y 0, 5, .inl t3f)), (t4, .inl (y 0, 5, .inl t4f)), (t5, .inl (y 0, 5, .inl t5f))] [2] [0, 1, 3, 4, 5, 6, 7, 8, 9] := ⟨rfl, rfl, rfl, rfl, rfl, by decide⟩
  refine kw_go_i hs1 hP hD hS hA (va_runV (As := [.int (nI an1)]) (rest := []) ⟨hx, hb, hml, hown, hts⟩ (gc_hasField l D y nw kk nk nd ne nm nn fi gl un mi 5 (nI an1) hfi hgl hun hmi hno _) (cwV 1 hts gX10_note_X4_hasField rfl rfl rfl (by decide +kernel) ⟨Nat.le_of_ble_eq_true rfl, Nat.le_of_ble_eq_true rfl⟩) (kw_PreV (ci := 4) (q0 := 2) hs1 hP hD hK hN rfl rfl) rfl rfl hl.1 rfl (lv_room (Nat.le_of_ble_eq_true rfl)) dX10_note_5 ⟨Nat.le_of_ble_eq_true rfl, Nat.le_of_ble_eq_true rfl⟩) (fun r2 u3 H locs hq hP hD hS => ?_)
  rcases hq with ⟨j4, h5, h6, rfl⟩ | ⟨h7, rfl⟩
  · skip
    have h6 : an1 = j4 := (nI_eq (a := an1) (b := j4) (by omega) (by omega)).mp h6
    have hP : va_P D vwCl [(g, .inr (10, [.ref kk, .ref nw, .ref im, .ref kp, .ref tx, .ref tr, .ref be, .ref sh, .ref sd, .ref rf, .int ab, .int bl])), (rf, .inl (y 0, 3, .inl frf)), (nn, .inl (y 6, 6, .inr (.inr (.inr (.inr fn_))))), (t0, .inl (y 0, 5, .inl t0f)), (t1, .inl (y 0, 5, .inl t1f)), (t2, .inl (y 0, 5, .inl t2f)), (t3, .inl (y 0, 5, .inl t3f)), (t4, .inl (y 0, 5, .inl t4f)), (t5, .inl (y 0, 5, .inl t5f)), (nw, .inr (4, [.ref kk, .ref nk, .ref nd, .ref ne, .ref nm, .ref nn, .int (nI fi), .int (nI gl), .int (nI un), .int (nI mi), .int (nI 5)]))] H := hP
    have hD : va_D A [(g, .inr (10, [.ref kk, .ref nw, .ref im, .ref kp, .ref tx, .ref tr, .ref be, .ref sh, .ref sd, .ref rf, .int ab, .int bl])), (rf, .inl (y 0, 3, .inl frf)), (nn, .inl (y 6, 6, .inr (.inr (.inr (.inr fn_))))), (t0, .inl (y 0, 5, .inl t0f)), (t1, .inl (y 0, 5, .inl t1f)), (t2, .inl (y 0, 5, .inl t2f)), (t3, .inl (y 0, 5, .inl t3f)), (t4, .inl (y 0, 5, .inl t4f)), (t5, .inl (y 0, 5, .inl t5f)), (nw, .inr (4, [.ref kk, .ref nk, .ref nd, .ref ne, .ref nm, .ref nn, .int (nI fi), .int (nI gl), .int (nI un), .int (nI mi), .int (nI 5)]))] := hD
    refine lv_if_eq (tgt := 27) hx hb dX10_note_8 (by decide) (fun h9 => absurd h9 (by decide)) (fun _ => ?_)
    refine lv_iload_n hx hb dX10_note_11 rfl (lv_at hl 2 rfl) ?_
    refine lv_bipush (v := 12) hx hb dX10_note_12 (by decide) ?_
    have hs8 : kw_Split [(g, .inr (10, [.ref kk, .ref nw, .ref im, .ref kp, .ref tx, .ref tr, .ref be, .ref sh, .ref sd, .ref rf, .int ab, .int bl])), (rf, .inl (y 0, 3, .inl frf)), (nn, .inl (y 6, 6, .inr (.inr (.inr (.inr fn_))))), (t0, .inl (y 0, 5, .inl t0f)), (t1, .inl (y 0, 5, .inl t1f)), (t2, .inl (y 0, 5, .inl t2f)), (t3, .inl (y 0, 5, .inl t3f)), (t4, .inl (y 0, 5, .inl t4f)), (t5, .inl (y 0, 5, .inl t5f)), (nw, .inr (4, [.ref kk, .ref nk, .ref nd, .ref ne, .ref nm, .ref nn, .int (nI fi), .int (nI gl), .int (nI un), .int (nI mi), .int (nI 5)]))] [] [(g, .inr (10, [.ref kk, .ref nw, .ref im, .ref kp, .ref tx, .ref tr, .ref be, .ref sh, .ref sd, .ref rf, .int ab, .int bl])), (rf, .inl (y 0, 3, .inl frf)), (nn, .inl (y 6, 6, .inr (.inr (.inr (.inr fn_))))), (t0, .inl (y 0, 5, .inl t0f)), (t1, .inl (y 0, 5, .inl t1f)), (t2, .inl (y 0, 5, .inl t2f)), (t3, .inl (y 0, 5, .inl t3f)), (t4, .inl (y 0, 5, .inl t4f)), (t5, .inl (y 0, 5, .inl t5f)), (nw, .inr (4, [.ref kk, .ref nk, .ref nd, .ref ne, .ref nm, .ref nn, .int (nI fi), .int (nI gl), .int (nI un), .int (nI mi), .int (nI 5)]))] [] [0, 1, 2, 3, 4, 5, 6, 7, 8, 9] := ⟨rfl, rfl, rfl, rfl, rfl, by decide⟩
    refine kw_go_i hs8 hP hD hS hA (va_runS (As := [.int (nI an2), .int 12]) (rest := []) ⟨hx, hb, hml, hown, hts⟩ (gc_isBelow l D y (nI an2) 12 (by omega) _) (va_cwS 2 hts gX10_note_X10_isBelow rfl rfl rfl (by decide +kernel) ⟨Nat.le_of_ble_eq_true rfl, Nat.le_of_ble_eq_true rfl⟩) (kw_PreS hs8 hP hD hK hN) rfl rfl hl.1 rfl (lv_room (Nat.le_of_ble_eq_true rfl)) dX10_note_14 ⟨Nat.le_of_ble_eq_true rfl, Nat.le_of_ble_eq_true rfl⟩) (fun r9 u10 H locs hq hP hD hS => ?_)
    rcases hq with ⟨j11, h12, h13, rfl⟩ | ⟨h14, rfl⟩
    · skip
      have h13 : an2 = j11 := (nI_eq (a := an2) (b := j11) (by omega) (by omega)).mp h13
      have hP : va_P D vwCl [(g, .inr (10, [.ref kk, .ref nw, .ref im, .ref kp, .ref tx, .ref tr, .ref be, .ref sh, .ref sd, .ref rf, .int ab, .int bl])), (rf, .inl (y 0, 3, .inl frf)), (nn, .inl (y 6, 6, .inr (.inr (.inr (.inr fn_))))), (t0, .inl (y 0, 5, .inl t0f)), (t1, .inl (y 0, 5, .inl t1f)), (t2, .inl (y 0, 5, .inl t2f)), (t3, .inl (y 0, 5, .inl t3f)), (t4, .inl (y 0, 5, .inl t4f)), (t5, .inl (y 0, 5, .inl t5f)), (nw, .inr (4, [.ref kk, .ref nk, .ref nd, .ref ne, .ref nm, .ref nn, .int (nI fi), .int (nI gl), .int (nI un), .int (nI mi), .int (nI 5)]))] H := hP
      have hD : va_D A [(g, .inr (10, [.ref kk, .ref nw, .ref im, .ref kp, .ref tx, .ref tr, .ref be, .ref sh, .ref sd, .ref rf, .int ab, .int bl])), (rf, .inl (y 0, 3, .inl frf)), (nn, .inl (y 6, 6, .inr (.inr (.inr (.inr fn_))))), (t0, .inl (y 0, 5, .inl t0f)), (t1, .inl (y 0, 5, .inl t1f)), (t2, .inl (y 0, 5, .inl t2f)), (t3, .inl (y 0, 5, .inl t3f)), (t4, .inl (y 0, 5, .inl t4f)), (t5, .inl (y 0, 5, .inl t5f)), (nw, .inr (4, [.ref kk, .ref nk, .ref nd, .ref ne, .ref nm, .ref nn, .int (nI fi), .int (nI gl), .int (nI un), .int (nI mi), .int (nI 5)]))] := hD
      refine lv_if_eq (tgt := 27) hx hb dX10_note_17 (by decide) (fun h9 => absurd h9 (by decide)) (fun _ => ?_)
      refine lv_iload_n hx hb dX10_note_20 rfl (lv_at hl 3 rfl) ?_
      have hs15 : kw_Split [(g, .inr (10, [.ref kk, .ref nw, .ref im, .ref kp, .ref tx, .ref tr, .ref be, .ref sh, .ref sd, .ref rf, .int ab, .int bl])), (rf, .inl (y 0, 3, .inl frf)), (nn, .inl (y 6, 6, .inr (.inr (.inr (.inr fn_))))), (t0, .inl (y 0, 5, .inl t0f)), (t1, .inl (y 0, 5, .inl t1f)), (t2, .inl (y 0, 5, .inl t2f)), (t3, .inl (y 0, 5, .inl t3f)), (t4, .inl (y 0, 5, .inl t4f)), (t5, .inl (y 0, 5, .inl t5f)), (nw, .inr (4, [.ref kk, .ref nk, .ref nd, .ref ne, .ref nm, .ref nn, .int (nI fi), .int (nI gl), .int (nI un), .int (nI mi), .int (nI 5)]))] [] [(g, .inr (10, [.ref kk, .ref nw, .ref im, .ref kp, .ref tx, .ref tr, .ref be, .ref sh, .ref sd, .ref rf, .int ab, .int bl])), (rf, .inl (y 0, 3, .inl frf)), (nn, .inl (y 6, 6, .inr (.inr (.inr (.inr fn_))))), (t0, .inl (y 0, 5, .inl t0f)), (t1, .inl (y 0, 5, .inl t1f)), (t2, .inl (y 0, 5, .inl t2f)), (t3, .inl (y 0, 5, .inl t3f)), (t4, .inl (y 0, 5, .inl t4f)), (t5, .inl (y 0, 5, .inl t5f)), (nw, .inr (4, [.ref kk, .ref nk, .ref nd, .ref ne, .ref nm, .ref nn, .int (nI fi), .int (nI gl), .int (nI un), .int (nI mi), .int (nI 5)]))] [] [0, 1, 2, 3, 4, 5, 6, 7, 8, 9] := ⟨rfl, rfl, rfl, rfl, rfl, by decide⟩
      refine kw_go_i hs15 hP hD hS hA (va_runS (As := [.int (nI an3)]) (rest := []) ⟨hx, hb, hml, hown, hts⟩ (gc_isLight l D y (nI an3)  _) (va_cwS 1 hts gX10_note_X10_isLight rfl rfl rfl (by decide +kernel) ⟨Nat.le_of_ble_eq_true rfl, Nat.le_of_ble_eq_true rfl⟩) (kw_PreS hs15 hP hD hK hN) rfl rfl hl.1 rfl (lv_room (Nat.le_of_ble_eq_true rfl)) dX10_note_21 ⟨Nat.le_of_ble_eq_true rfl, Nat.le_of_ble_eq_true rfl⟩) (fun r16 u17 H locs hq hP hD hS => ?_)
      rcases hq with ⟨j18, h19, h20, rfl⟩ | ⟨h21, rfl⟩
      · skip
        have h20 : an3 = j18 := (nI_eq (a := an3) (b := j18) (by omega) (by omega)).mp h20
        have hP : va_P D vwCl [(g, .inr (10, [.ref kk, .ref nw, .ref im, .ref kp, .ref tx, .ref tr, .ref be, .ref sh, .ref sd, .ref rf, .int ab, .int bl])), (rf, .inl (y 0, 3, .inl frf)), (nn, .inl (y 6, 6, .inr (.inr (.inr (.inr fn_))))), (t0, .inl (y 0, 5, .inl t0f)), (t1, .inl (y 0, 5, .inl t1f)), (t2, .inl (y 0, 5, .inl t2f)), (t3, .inl (y 0, 5, .inl t3f)), (t4, .inl (y 0, 5, .inl t4f)), (t5, .inl (y 0, 5, .inl t5f)), (nw, .inr (4, [.ref kk, .ref nk, .ref nd, .ref ne, .ref nm, .ref nn, .int (nI fi), .int (nI gl), .int (nI un), .int (nI mi), .int (nI 5)]))] H := hP
        have hD : va_D A [(g, .inr (10, [.ref kk, .ref nw, .ref im, .ref kp, .ref tx, .ref tr, .ref be, .ref sh, .ref sd, .ref rf, .int ab, .int bl])), (rf, .inl (y 0, 3, .inl frf)), (nn, .inl (y 6, 6, .inr (.inr (.inr (.inr fn_))))), (t0, .inl (y 0, 5, .inl t0f)), (t1, .inl (y 0, 5, .inl t1f)), (t2, .inl (y 0, 5, .inl t2f)), (t3, .inl (y 0, 5, .inl t3f)), (t4, .inl (y 0, 5, .inl t4f)), (t5, .inl (y 0, 5, .inl t5f)), (nw, .inr (4, [.ref kk, .ref nk, .ref nd, .ref ne, .ref nm, .ref nn, .int (nI fi), .int (nI gl), .int (nI un), .int (nI mi), .int (nI 5)]))] := hD
        refine lv_if_ne (tgt := 32) hx hb dX10_note_24 (by decide) (fun _ => ?_) (fun h9 => absurd h9 (by decide))
        refine lv_iload hx hb dX10_note_32 (lv_at hl 4 rfl) ?_
        refine lv_bipush (v := 10) hx hb dX10_note_34 (by decide) ?_
        have hs22 : kw_Split [(g, .inr (10, [.ref kk, .ref nw, .ref im, .ref kp, .ref tx, .ref tr, .ref be, .ref sh, .ref sd, .ref rf, .int ab, .int bl])), (rf, .inl (y 0, 3, .inl frf)), (nn, .inl (y 6, 6, .inr (.inr (.inr (.inr fn_))))), (t0, .inl (y 0, 5, .inl t0f)), (t1, .inl (y 0, 5, .inl t1f)), (t2, .inl (y 0, 5, .inl t2f)), (t3, .inl (y 0, 5, .inl t3f)), (t4, .inl (y 0, 5, .inl t4f)), (t5, .inl (y 0, 5, .inl t5f)), (nw, .inr (4, [.ref kk, .ref nk, .ref nd, .ref ne, .ref nm, .ref nn, .int (nI fi), .int (nI gl), .int (nI un), .int (nI mi), .int (nI 5)]))] [] [(g, .inr (10, [.ref kk, .ref nw, .ref im, .ref kp, .ref tx, .ref tr, .ref be, .ref sh, .ref sd, .ref rf, .int ab, .int bl])), (rf, .inl (y 0, 3, .inl frf)), (nn, .inl (y 6, 6, .inr (.inr (.inr (.inr fn_))))), (t0, .inl (y 0, 5, .inl t0f)), (t1, .inl (y 0, 5, .inl t1f)), (t2, .inl (y 0, 5, .inl t2f)), (t3, .inl (y 0, 5, .inl t3f)), (t4, .inl (y 0, 5, .inl t4f)), (t5, .inl (y 0, 5, .inl t5f)), (nw, .inr (4, [.ref kk, .ref nk, .ref nd, .ref ne, .ref nm, .ref nn, .int (nI fi), .int (nI gl), .int (nI un), .int (nI mi), .int (nI 5)]))] [] [0, 1, 2, 3, 4, 5, 6, 7, 8, 9] := ⟨rfl, rfl, rfl, rfl, rfl, by decide⟩
        refine kw_go_i hs22 hP hD hS hA (va_runS (As := [.int (nI an4), .int 10]) (rest := []) ⟨hx, hb, hml, hown, hts⟩ (gc_isBelow l D y (nI an4) 10 (by omega) _) (va_cwS 2 hts gX10_note_X10_isBelow rfl rfl rfl (by decide +kernel) ⟨Nat.le_of_ble_eq_true rfl, Nat.le_of_ble_eq_true rfl⟩) (kw_PreS hs22 hP hD hK hN) rfl rfl hl.1 rfl (lv_room (Nat.le_of_ble_eq_true rfl)) dX10_note_36 ⟨Nat.le_of_ble_eq_true rfl, Nat.le_of_ble_eq_true rfl⟩) (fun r23 u24 H locs hq hP hD hS => ?_)
        rcases hq with ⟨j25, h26, h27, rfl⟩ | ⟨h28, rfl⟩
        · skip
          have h27 : an4 = j25 := (nI_eq (a := an4) (b := j25) (by omega) (by omega)).mp h27
          have hP : va_P D vwCl [(g, .inr (10, [.ref kk, .ref nw, .ref im, .ref kp, .ref tx, .ref tr, .ref be, .ref sh, .ref sd, .ref rf, .int ab, .int bl])), (rf, .inl (y 0, 3, .inl frf)), (nn, .inl (y 6, 6, .inr (.inr (.inr (.inr fn_))))), (t0, .inl (y 0, 5, .inl t0f)), (t1, .inl (y 0, 5, .inl t1f)), (t2, .inl (y 0, 5, .inl t2f)), (t3, .inl (y 0, 5, .inl t3f)), (t4, .inl (y 0, 5, .inl t4f)), (t5, .inl (y 0, 5, .inl t5f)), (nw, .inr (4, [.ref kk, .ref nk, .ref nd, .ref ne, .ref nm, .ref nn, .int (nI fi), .int (nI gl), .int (nI un), .int (nI mi), .int (nI 5)]))] H := hP
          have hD : va_D A [(g, .inr (10, [.ref kk, .ref nw, .ref im, .ref kp, .ref tx, .ref tr, .ref be, .ref sh, .ref sd, .ref rf, .int ab, .int bl])), (rf, .inl (y 0, 3, .inl frf)), (nn, .inl (y 6, 6, .inr (.inr (.inr (.inr fn_))))), (t0, .inl (y 0, 5, .inl t0f)), (t1, .inl (y 0, 5, .inl t1f)), (t2, .inl (y 0, 5, .inl t2f)), (t3, .inl (y 0, 5, .inl t3f)), (t4, .inl (y 0, 5, .inl t4f)), (t5, .inl (y 0, 5, .inl t5f)), (nw, .inr (4, [.ref kk, .ref nk, .ref nd, .ref ne, .ref nm, .ref nn, .int (nI fi), .int (nI gl), .int (nI un), .int (nI mi), .int (nI 5)]))] := hD
          refine lv_if_eq (tgt := 53) hx hb dX10_note_39 (by decide) (fun h9 => absurd h9 (by decide)) (fun _ => ?_)
          refine lv_iload hx hb dX10_note_42 (lv_at hl 5 rfl) ?_
          refine lv_iconst (v := 0) hx hb dX10_note_44 (by decide) ?_
          refine lv_bipush (v := 99) hx hb dX10_note_45 (by decide) ?_
          have hs29 : kw_Split [(g, .inr (10, [.ref kk, .ref nw, .ref im, .ref kp, .ref tx, .ref tr, .ref be, .ref sh, .ref sd, .ref rf, .int ab, .int bl])), (rf, .inl (y 0, 3, .inl frf)), (nn, .inl (y 6, 6, .inr (.inr (.inr (.inr fn_))))), (t0, .inl (y 0, 5, .inl t0f)), (t1, .inl (y 0, 5, .inl t1f)), (t2, .inl (y 0, 5, .inl t2f)), (t3, .inl (y 0, 5, .inl t3f)), (t4, .inl (y 0, 5, .inl t4f)), (t5, .inl (y 0, 5, .inl t5f)), (nw, .inr (4, [.ref kk, .ref nk, .ref nd, .ref ne, .ref nm, .ref nn, .int (nI fi), .int (nI gl), .int (nI un), .int (nI mi), .int (nI 5)]))] [] [(g, .inr (10, [.ref kk, .ref nw, .ref im, .ref kp, .ref tx, .ref tr, .ref be, .ref sh, .ref sd, .ref rf, .int ab, .int bl])), (rf, .inl (y 0, 3, .inl frf)), (nn, .inl (y 6, 6, .inr (.inr (.inr (.inr fn_))))), (t0, .inl (y 0, 5, .inl t0f)), (t1, .inl (y 0, 5, .inl t1f)), (t2, .inl (y 0, 5, .inl t2f)), (t3, .inl (y 0, 5, .inl t3f)), (t4, .inl (y 0, 5, .inl t4f)), (t5, .inl (y 0, 5, .inl t5f)), (nw, .inr (4, [.ref kk, .ref nk, .ref nd, .ref ne, .ref nm, .ref nn, .int (nI fi), .int (nI gl), .int (nI un), .int (nI mi), .int (nI 5)]))] [] [0, 1, 2, 3, 4, 5, 6, 7, 8, 9] := ⟨rfl, rfl, rfl, rfl, rfl, by decide⟩
          refine kw_go_i hs29 hP hD hS hA (va_runS (As := [.int (nI an5), .int 0, .int 99]) (rest := []) ⟨hx, hb, hml, hown, hts⟩ (gc_isIn l D y (nI an5) 0 99 (by omega) (by omega) _) (va_cwS 3 hts gX10_note_X10_isIn rfl rfl rfl (by decide +kernel) ⟨Nat.le_of_ble_eq_true rfl, Nat.le_of_ble_eq_true rfl⟩) (kw_PreS hs29 hP hD hK hN) rfl rfl hl.1 rfl (lv_room (Nat.le_of_ble_eq_true rfl)) dX10_note_47 ⟨Nat.le_of_ble_eq_true rfl, Nat.le_of_ble_eq_true rfl⟩) (fun r30 u31 H locs hq hP hD hS => ?_)
          rcases hq with ⟨j32, h33, h34, h35, rfl⟩ | ⟨h36, rfl⟩
          · skip
            have h35 : an5 = j32 := (nI_eq (a := an5) (b := j32) (by omega) (by omega)).mp h35
            have hP : va_P D vwCl [(g, .inr (10, [.ref kk, .ref nw, .ref im, .ref kp, .ref tx, .ref tr, .ref be, .ref sh, .ref sd, .ref rf, .int ab, .int bl])), (rf, .inl (y 0, 3, .inl frf)), (nn, .inl (y 6, 6, .inr (.inr (.inr (.inr fn_))))), (t0, .inl (y 0, 5, .inl t0f)), (t1, .inl (y 0, 5, .inl t1f)), (t2, .inl (y 0, 5, .inl t2f)), (t3, .inl (y 0, 5, .inl t3f)), (t4, .inl (y 0, 5, .inl t4f)), (t5, .inl (y 0, 5, .inl t5f)), (nw, .inr (4, [.ref kk, .ref nk, .ref nd, .ref ne, .ref nm, .ref nn, .int (nI fi), .int (nI gl), .int (nI un), .int (nI mi), .int (nI 5)]))] H := hP
            have hD : va_D A [(g, .inr (10, [.ref kk, .ref nw, .ref im, .ref kp, .ref tx, .ref tr, .ref be, .ref sh, .ref sd, .ref rf, .int ab, .int bl])), (rf, .inl (y 0, 3, .inl frf)), (nn, .inl (y 6, 6, .inr (.inr (.inr (.inr fn_))))), (t0, .inl (y 0, 5, .inl t0f)), (t1, .inl (y 0, 5, .inl t1f)), (t2, .inl (y 0, 5, .inl t2f)), (t3, .inl (y 0, 5, .inl t3f)), (t4, .inl (y 0, 5, .inl t4f)), (t5, .inl (y 0, 5, .inl t5f)), (nw, .inr (4, [.ref kk, .ref nk, .ref nd, .ref ne, .ref nm, .ref nn, .int (nI fi), .int (nI gl), .int (nI un), .int (nI mi), .int (nI 5)]))] := hD
            refine lv_if_ne (tgt := 58) hx hb dX10_note_50 (by decide) (fun _ => ?_) (fun h9 => absurd h9 (by decide))
            refine lv_aload_n hx hb dX10_note_58 rfl (lv_at hl 0 rfl) ?_
            refine va_get (D := D) (ci := 10) (v := .ref nw) (C := RX10) (T := TX10) (N := 12) hx hb hts iw10 hown hK hP 0 rfl rfl 1 (by decide) fw1 (fun _ h9 => h9) rfl dX10_note_59 ?_
            refine va_get (D := D) (ci := 4) (v := .int (nI 5)) (C := RX4) (T := TX4) (N := 11) hx hb hts iw4 hown hK hP 9 rfl rfl 10 (by decide) fw2 (fun _ h9 => h9) rfl dX10_note_62 ?_
            refine lv_bipush (v := 6) hx hb dX10_note_65 (by decide) ?_
            refine lv_icmp_lt (tgt := 75) hx hb dX10_note_67 (by decide) (fun h37 => ?_) (fun h38 => ?_)
            · skip
              have h37 : 5 < 6 := (nI_ltI (a := 5) (b := 6) (by omega) (by omega)).mp h37
              refine lv_aload_n hx hb dX10_note_75 rfl (lv_at hl 0 rfl) ?_
              refine va_get (D := D) (ci := 10) (v := .ref nw) (C := RX10) (T := TX10) (N := 12) hx hb hts iw10 hown hK hP 0 rfl rfl 1 (by decide) fw1 (fun _ h9 => h9) rfl dX10_note_76 ?_
              refine lv_iload_n hx hb dX10_note_79 rfl (lv_at hl 1 rfl) ?_
              refine lv_iload_n hx hb dX10_note_80 rfl (lv_at hl 2 rfl) ?_
              refine lv_iload_n hx hb dX10_note_81 rfl (lv_at hl 3 rfl) ?_
              refine lv_iload hx hb dX10_note_82 (lv_at hl 4 rfl) ?_
              refine lv_iload hx hb dX10_note_84 (lv_at hl 5 rfl) ?_
              have hs39 : kw_Split [(g, .inr (10, [.ref kk, .ref nw, .ref im, .ref kp, .ref tx, .ref tr, .ref be, .ref sh, .ref sd, .ref rf, .int ab, .int bl])), (rf, .inl (y 0, 3, .inl frf)), (nn, .inl (y 6, 6, .inr (.inr (.inr (.inr fn_))))), (t0, .inl (y 0, 5, .inl t0f)), (t1, .inl (y 0, 5, .inl t1f)), (t2, .inl (y 0, 5, .inl t2f)), (t3, .inl (y 0, 5, .inl t3f)), (t4, .inl (y 0, 5, .inl t4f)), (t5, .inl (y 0, 5, .inl t5f)), (nw, .inr (4, [.ref kk, .ref nk, .ref nd, .ref ne, .ref nm, .ref nn, .int (nI fi), .int (nI gl), .int (nI un), .int (nI mi), .int (nI 5)]))] [(nw, .inr (4, [.ref kk, .ref nk, .ref nd, .ref ne, .ref nm, .ref nn, .int (nI fi), .int (nI gl), .int (nI un), .int (nI mi), .int (nI 5)])), (nn, .inl (y 6, 6, .inr (.inr (.inr (.inr fn_))))), (t0, .inl (y 0, 5, .inl t0f)), (t1, .inl (y 0, 5, .inl t1f)), (t2, .inl (y 0, 5, .inl t2f)), (t3, .inl (y 0, 5, .inl t3f)), (t4, .inl (y 0, 5, .inl t4f)), (t5, .inl (y 0, 5, .inl t5f))] [(g, .inr (10, [.ref kk, .ref nw, .ref im, .ref kp, .ref tx, .ref tr, .ref be, .ref sh, .ref sd, .ref rf, .int ab, .int bl])), (rf, .inl (y 0, 3, .inl frf))] [9, 2, 3, 4, 5, 6, 7, 8] [0, 1] := ⟨rfl, rfl, rfl, rfl, rfl, by decide⟩
              refine kw_go_i hs39 hP hD hS hA (va_runV (As := [.int (nI an1), .int (nI an2), .int (nI an3), .int (nI an4), .int (nI an5)]) (rest := []) ⟨hx, hb, hml, hown, hts⟩ (gd_addNote5 l D y nw kk nk nd ne nm nn fi gl un mi 5 t0 t1 t2 t3 t4 t5 t0f t1f t2f t3f t4f t5f fn_ (nI an1) (nI an2) (nI an3) (nI an4) (nI an5) hfi hgl hun hmi hno hn0 hn1 hn2 hn3 hn4 hn5 hj _) (cwV 5 hts gX10_note_X4_addNote rfl rfl rfl (by decide +kernel) ⟨Nat.le_of_ble_eq_true rfl, Nat.le_of_ble_eq_true rfl⟩) (kw_PreV (ci := 4) (q0 := 9) hs39 hP hD hK hN rfl rfl) rfl rfl hl.1 rfl (lv_room (Nat.le_of_ble_eq_true rfl)) dX10_note_86 ⟨Nat.le_of_ble_eq_true rfl, Nat.le_of_ble_eq_true rfl⟩) (fun r40 u41 H locs hq hP hD hS => ?_)
              obtain rfl := hq
              have hP : va_P D vwCl [(g, .inr (10, [.ref kk, .ref nw, .ref im, .ref kp, .ref tx, .ref tr, .ref be, .ref sh, .ref sd, .ref rf, .int ab, .int bl])), (rf, .inl (y 0, 3, .inl frf)), (nw, .inr (4, [.ref kk, .ref nk, .ref nd, .ref ne, .ref nm, .ref nn, .int (nI fi), .int (nI gl), .int (nI un), .int (nI mi), .int (nI 6)])), (nn, .inl (y 6, 6, .inr (.inr (.inr (.inr fn_))))), (t0, .inl (y 0, 5, .inl t0f)), (t1, .inl (y 0, 5, .inl t1f)), (t2, .inl (y 0, 5, .inl t2f)), (t3, .inl (y 0, 5, .inl t3f)), (t4, .inl (y 0, 5, .inl t4f)), (t5, .inl (y 0, 5, .inl (upd (upd (upd (upd (upd t5f 0 (nI an1)) 1 (nI an2)) 2 (nI an3)) 3 (nI an4)) 4 (nI an5))))] H := hP
              have hD : va_D A [(g, .inr (10, [.ref kk, .ref nw, .ref im, .ref kp, .ref tx, .ref tr, .ref be, .ref sh, .ref sd, .ref rf, .int ab, .int bl])), (rf, .inl (y 0, 3, .inl frf)), (nw, .inr (4, [.ref kk, .ref nk, .ref nd, .ref ne, .ref nm, .ref nn, .int (nI fi), .int (nI gl), .int (nI un), .int (nI mi), .int (nI 6)])), (nn, .inl (y 6, 6, .inr (.inr (.inr (.inr fn_))))), (t0, .inl (y 0, 5, .inl t0f)), (t1, .inl (y 0, 5, .inl t1f)), (t2, .inl (y 0, 5, .inl t2f)), (t3, .inl (y 0, 5, .inl t3f)), (t4, .inl (y 0, 5, .inl t4f)), (t5, .inl (y 0, 5, .inl (upd (upd (upd (upd (upd t5f 0 (nI an1)) 1 (nI an2)) 2 (nI an3)) 3 (nI an4)) 4 (nI an5))))] := hD
              exact W.iret (v := (nI 6)) hx hb hr (fun tZ ht hW => ⟨⟨(nI 6), (), rfl, rfl, by rw [ht]; exact hP.sub [0, 1, 2, 3, 4, 5, 6, 7, 8, 9] rfl, hD.sub [0, 1, 2, 3, 4, 5, 6, 7, 8, 9] (by decide) rfl⟩, hS.F ht⟩) hS.2.2 dX10_note_89
            · skip
              have h38 : ¬ 5 < 6 := fun q9 => h38 ((nI_ltI (a := 5) (b := 6) (by omega) (by omega)).mpr q9)
              exact absurd h38 (by omega)
          · skip
            exact absurd ⟨an5, by omega, by omega, rfl⟩ h36
        · skip
          exact absurd ⟨an4, by omega, rfl⟩ h28
      · skip
        exact absurd ⟨an3, by omega, by omega, rfl⟩ h21
    · skip
      exact absurd ⟨an2, by omega, rfl⟩ h14
  · skip
    exact absurd ⟨an1, by omega, rfl⟩ h7

set_option maxHeartbeats 4000000 in
set_option maxRecDepth 100000 in
theorem gy_note_d5 (l : Launch) (D : va_G) (y : Nat → ClassId) (mo : Nat) (to : Nat) (ke : Nat) (ik : Nat) (mrf : Nat) (ha : Nat) (r0 : Nat) (mbr : Nat) (mbp : Nat) (mby : Nat) (an : Nat) (va : Nat) (mab : Int64) (mbl : Int64) (bl : Nat) (ta : Nat) (tl : Nat) (tk : Nat) (vv : Int32) (frf : Nat → Int32) (ft : Nat → Int32) (fi : Nat) (gl : Nat) (mi : Nat) (no : Nat) (un : Nat) (an1 : Nat) (an2 : Nat) (an3 : Nat) (an4 : Nat) (an5 : Nat) (hk0_ : ft 0 = (nI fi)) (hk1_ : ft 1 = (nI gl)) (hk2_ : ft 2 = (nI mi)) (hk3_ : ft 3 = (nI no)) (hk4_ : ft 4 = (nI un)) (hkt : kr_t 228 ft) (hfi : fi ≤ 6) (hgl : gl ≤ 5) (hmi : mi ≤ 4) (hno : no ≤ 6) (hun : un ≤ 8) (hgf : (gl = 0 ∨ 0 < fi)) (hA2 : ¬ no = 6) (hj : no = 5) (hB0_ : an1 < fi) (hB1_ : an2 < 12) (hB2_ : an3 ≤ 60) (hB3_ : an4 < 10) (hB4_ : an5 ≤ 99) : kw_Mi l yX11_note wsX11_note ({ frames := 3, cells := 0, slots := 0, locals := 106 }) D y [.ref mo, .int (nI an1), .int (nI an2), .int (nI an3), .int (nI an4), .int (nI an5)] [(mo, .inr (11, [.ref to, .ref ke, .ref ik, .ref mrf, .long mab, .long mbl, .ref ha, .ref r0, .ref mbr, .ref mbp, .ref mby, .int (nI bl), .int (nI ta), .int (nI tl), .int (nI tk), .int vv, .ref an, .ref va])), (mrf, .inl (y 0, 3, .inl frf)), (to, .inl (y 0, 228, .inl ft))] (fun (r : Int32) (u : Unit) => kr_t 228 (upd (upd (upd (upd (upd (upd ft 71 (nI an1)) 72 (nI an2)) 73 (nI an3)) 74 (nI an4)) 75 (nI an5)) 3 (nI 6)) ∧ (upd (upd (upd (upd (upd (upd ft 71 (nI an1)) 72 (nI an2)) 73 (nI an3)) 74 (nI an4)) 75 (nI an5)) 3 (nI 6)) 0 = (nI fi) ∧ (upd (upd (upd (upd (upd (upd ft 71 (nI an1)) 72 (nI an2)) 73 (nI an3)) 74 (nI an4)) 75 (nI an5)) 3 (nI 6)) 1 = (nI gl) ∧ (upd (upd (upd (upd (upd (upd ft 71 (nI an1)) 72 (nI an2)) 73 (nI an3)) 74 (nI an4)) 75 (nI an5)) 3 (nI 6)) 2 = (nI mi) ∧ (upd (upd (upd (upd (upd (upd ft 71 (nI an1)) 72 (nI an2)) 73 (nI an3)) 74 (nI an4)) 75 (nI an5)) 3 (nI 6)) 3 = (nI (no + 1)) ∧ (upd (upd (upd (upd (upd (upd ft 71 (nI an1)) 72 (nI an2)) 73 (nI an3)) 74 (nI an4)) 75 (nI an5)) 3 (nI 6)) 4 = (nI un) ∧ (gl = 0 ∨ 0 < fi) ∧ r = (nI (no + 1))) (fun _ => [(mo, .inr (11, [.ref to, .ref ke, .ref ik, .ref mrf, .long mab, .long mbl, .ref ha, .ref r0, .ref mbr, .ref mbp, .ref mby, .int (nI bl), .int (nI ta), .int (nI tl), .int (nI tk), .int vv, .ref an, .ref va])), (mrf, .inl (y 0, 3, .inl frf)), (to, .inl (y 0, 228, .inl (upd (upd (upd (upd (upd (upd ft 71 (nI an1)) 72 (nI an2)) 73 (nI an3)) 74 (nI an4)) 75 (nI an5)) 3 (nI 6))))]) 0 0 := by
  refine kw_Mi.of (cc := cX11_note) (maxL := 7) (ret := (some .int)) (by decide) rfl ?_
  intro pZ eZ s mZ beZ meZ cZ A hE
  obtain ⟨hx, hb, hr, hml, hts, hown, hlocks, hin, hA, hP, hD, hK, hN⟩ := hE
  have hS : va_S A s.heap s.heap [] := va_S.rf
  have hl := lv_entry ([.ref mo, .int (nI an1), .int (nI an2), .int (nI an3), .int (nI an4), .int (nI an5)]) (n := 7) (Nat.le_of_ble_eq_true rfl)
  rw [lg_entry_eq]
  generalize (lg_sl ([.ref mo, .int (nI an1), .int (nI an2), .int (nI an3), .int (nI an4), .int (nI an5)]) ++ List.replicate (7 - (lg_sl ([.ref mo, .int (nI an1), .int (nI an2), .int (nI an3), .int (nI an4), .int (nI an5)])).length) Slot.unset).toArray = ls at hl ⊢
  have hl : lv_has ls 7 [(0, .ref mo), (1, .int (nI an1)), (2, .int (nI an2)), (3, .int (nI an3)), (4, .int (nI an4)), (5, .int (nI an5))] := hl
  have fw1 := hts (.constantLong RX11 174 (99)) (List.mem_of_getElem? (i := 1) rfl)
  have fw2 := hts (.fieldLink RX11 7 "GleanDuskModel" "told" "[I") (List.mem_of_getElem? (i := 2) rfl)
  have iw11 : ∀ w ∈ wsX110, w ∈ wsX11_note := fun _ h => List.mem_cons_of_mem _ (List.mem_append_right _ h)
  obtain rfl : no = 5 := by omega
  refine lv_aload_n hx hb dX11_note_0 rfl (lv_at hl 0 rfl) ?_
  refine lv_iload_n hx hb dX11_note_1 rfl (lv_at hl 1 rfl) ?_
  have hs1 : kw_Split [(mo, .inr (11, [.ref to, .ref ke, .ref ik, .ref mrf, .long mab, .long mbl, .ref ha, .ref r0, .ref mbr, .ref mbp, .ref mby, .int (nI bl), .int (nI ta), .int (nI tl), .int (nI tk), .int vv, .ref an, .ref va])), (mrf, .inl (y 0, 3, .inl frf)), (to, .inl (y 0, 228, .inl ft))] [(mo, .inr (11, [.ref to, .ref ke, .ref ik, .ref mrf, .long mab, .long mbl, .ref ha, .ref r0, .ref mbr, .ref mbp, .ref mby, .int (nI bl), .int (nI ta), .int (nI tl), .int (nI tk), .int vv, .ref an, .ref va])), (to, .inl (y 0, 228, .inl ft))] [(mrf, .inl (y 0, 3, .inl frf))] [0, 2] [1] := ⟨rfl, rfl, rfl, rfl, rfl, by decide⟩
  refine kw_go_i hs1 hP hD hS hA (va_runV (As := [.int (nI an1)]) (rest := []) ⟨hx, hb, hml, hown, hts⟩ (gr_isField l D y mo to ke ik mrf ha r0 mbr mbp mby an va mab mbl bl ta tl tk vv ft fi gl mi 5 un (nI an1) hk0_ hk1_ hk2_ hk3_ hk4_ hkt hfi hgl hmi hno hun _) (cwV 1 hts gX11_note_X11_isField rfl rfl rfl (by decide +kernel) ⟨Nat.le_of_ble_eq_true rfl, Nat.le_of_ble_eq_true rfl⟩) (kw_PreV (ci := 11) (q0 := 0) hs1 hP hD hK hN rfl rfl) rfl rfl hl.1 rfl (lv_room (Nat.le_of_ble_eq_true rfl)) dX11_note_2 ⟨Nat.le_of_ble_eq_true rfl, Nat.le_of_ble_eq_true rfl⟩) (fun r2 u3 H locs hq hP hD hS => ?_)
  rcases hq with ⟨j4, h5, h6, rfl⟩ | ⟨h7, rfl⟩
  · skip
    have h6 : an1 = j4 := (nI_eq (a := an1) (b := j4) (by omega) (by omega)).mp h6
    have hP : va_P D vwCl [(mrf, .inl (y 0, 3, .inl frf)), (mo, .inr (11, [.ref to, .ref ke, .ref ik, .ref mrf, .long mab, .long mbl, .ref ha, .ref r0, .ref mbr, .ref mbp, .ref mby, .int (nI bl), .int (nI ta), .int (nI tl), .int (nI tk), .int vv, .ref an, .ref va])), (to, .inl (y 0, 228, .inl ft))] H := hP
    have hD : va_D A [(mrf, .inl (y 0, 3, .inl frf)), (mo, .inr (11, [.ref to, .ref ke, .ref ik, .ref mrf, .long mab, .long mbl, .ref ha, .ref r0, .ref mbr, .ref mbp, .ref mby, .int (nI bl), .int (nI ta), .int (nI tl), .int (nI tk), .int vv, .ref an, .ref va])), (to, .inl (y 0, 228, .inl ft))] := hD
    refine lv_if_eq (tgt := 43) hx hb dX11_note_5 (by decide) (fun h9 => absurd h9 (by decide)) (fun _ => ?_)
    refine lv_iload_n hx hb dX11_note_8 rfl (lv_at hl 2 rfl) ?_
    have hs8 : kw_Split [(mrf, .inl (y 0, 3, .inl frf)), (mo, .inr (11, [.ref to, .ref ke, .ref ik, .ref mrf, .long mab, .long mbl, .ref ha, .ref r0, .ref mbr, .ref mbp, .ref mby, .int (nI bl), .int (nI ta), .int (nI tl), .int (nI tk), .int vv, .ref an, .ref va])), (to, .inl (y 0, 228, .inl ft))] [] [(mrf, .inl (y 0, 3, .inl frf)), (mo, .inr (11, [.ref to, .ref ke, .ref ik, .ref mrf, .long mab, .long mbl, .ref ha, .ref r0, .ref mbr, .ref mbp, .ref mby, .int (nI bl), .int (nI ta), .int (nI tl), .int (nI tk), .int vv, .ref an, .ref va])), (to, .inl (y 0, 228, .inl ft))] [] [0, 1, 2] := ⟨rfl, rfl, rfl, rfl, rfl, by decide⟩
    refine kw_go_i hs8 hP hD hS hA (va_runS (As := [.int (nI an2)]) (rest := []) ⟨hx, hb, hml, hown, hts⟩ (gr_isStep l D y (nI an2)  _) (va_cwS 1 hts gX11_note_X11_isStep rfl rfl rfl (by decide +kernel) ⟨Nat.le_of_ble_eq_true rfl, Nat.le_of_ble_eq_true rfl⟩) (kw_PreS hs8 hP hD hK hN) rfl rfl hl.1 rfl (lv_room (Nat.le_of_ble_eq_true rfl)) dX11_note_9 ⟨Nat.le_of_ble_eq_true rfl, Nat.le_of_ble_eq_true rfl⟩) (fun r9 u10 H locs hq hP hD hS => ?_)
    rcases hq with ⟨j11, h12, h13, rfl⟩ | ⟨h14, rfl⟩
    · skip
      have h13 : an2 = j11 := (nI_eq (a := an2) (b := j11) (by omega) (by omega)).mp h13
      have hP : va_P D vwCl [(mrf, .inl (y 0, 3, .inl frf)), (mo, .inr (11, [.ref to, .ref ke, .ref ik, .ref mrf, .long mab, .long mbl, .ref ha, .ref r0, .ref mbr, .ref mbp, .ref mby, .int (nI bl), .int (nI ta), .int (nI tl), .int (nI tk), .int vv, .ref an, .ref va])), (to, .inl (y 0, 228, .inl ft))] H := hP
      have hD : va_D A [(mrf, .inl (y 0, 3, .inl frf)), (mo, .inr (11, [.ref to, .ref ke, .ref ik, .ref mrf, .long mab, .long mbl, .ref ha, .ref r0, .ref mbr, .ref mbp, .ref mby, .int (nI bl), .int (nI ta), .int (nI tl), .int (nI tk), .int vv, .ref an, .ref va])), (to, .inl (y 0, 228, .inl ft))] := hD
      refine lv_if_eq (tgt := 43) hx hb dX11_note_12 (by decide) (fun h9 => absurd h9 (by decide)) (fun _ => ?_)
      refine lv_iload_n hx hb dX11_note_15 rfl (lv_at hl 3 rfl) ?_
      have hs15 : kw_Split [(mrf, .inl (y 0, 3, .inl frf)), (mo, .inr (11, [.ref to, .ref ke, .ref ik, .ref mrf, .long mab, .long mbl, .ref ha, .ref r0, .ref mbr, .ref mbp, .ref mby, .int (nI bl), .int (nI ta), .int (nI tl), .int (nI tk), .int vv, .ref an, .ref va])), (to, .inl (y 0, 228, .inl ft))] [] [(mrf, .inl (y 0, 3, .inl frf)), (mo, .inr (11, [.ref to, .ref ke, .ref ik, .ref mrf, .long mab, .long mbl, .ref ha, .ref r0, .ref mbr, .ref mbp, .ref mby, .int (nI bl), .int (nI ta), .int (nI tl), .int (nI tk), .int vv, .ref an, .ref va])), (to, .inl (y 0, 228, .inl ft))] [] [0, 1, 2] := ⟨rfl, rfl, rfl, rfl, rfl, by decide⟩
      refine kw_go_i hs15 hP hD hS hA (va_runS (As := [.int (nI an3)]) (rest := []) ⟨hx, hb, hml, hown, hts⟩ (gr_isLight l D y (nI an3)  _) (va_cwS 1 hts gX11_note_X11_isLight rfl rfl rfl (by decide +kernel) ⟨Nat.le_of_ble_eq_true rfl, Nat.le_of_ble_eq_true rfl⟩) (kw_PreS hs15 hP hD hK hN) rfl rfl hl.1 rfl (lv_room (Nat.le_of_ble_eq_true rfl)) dX11_note_16 ⟨Nat.le_of_ble_eq_true rfl, Nat.le_of_ble_eq_true rfl⟩) (fun r16 u17 H locs hq hP hD hS => ?_)
      rcases hq with ⟨j18, h19, h20, rfl⟩ | ⟨h21, rfl⟩
      · skip
        have h20 : an3 = j18 := (nI_eq (a := an3) (b := j18) (by omega) (by omega)).mp h20
        have hP : va_P D vwCl [(mrf, .inl (y 0, 3, .inl frf)), (mo, .inr (11, [.ref to, .ref ke, .ref ik, .ref mrf, .long mab, .long mbl, .ref ha, .ref r0, .ref mbr, .ref mbp, .ref mby, .int (nI bl), .int (nI ta), .int (nI tl), .int (nI tk), .int vv, .ref an, .ref va])), (to, .inl (y 0, 228, .inl ft))] H := hP
        have hD : va_D A [(mrf, .inl (y 0, 3, .inl frf)), (mo, .inr (11, [.ref to, .ref ke, .ref ik, .ref mrf, .long mab, .long mbl, .ref ha, .ref r0, .ref mbr, .ref mbp, .ref mby, .int (nI bl), .int (nI ta), .int (nI tl), .int (nI tk), .int vv, .ref an, .ref va])), (to, .inl (y 0, 228, .inl ft))] := hD
        refine lv_if_eq (tgt := 43) hx hb dX11_note_19 (by decide) (fun h9 => absurd h9 (by decide)) (fun _ => ?_)
        refine lv_iload hx hb dX11_note_22 (lv_at hl 4 rfl) ?_
        have hs22 : kw_Split [(mrf, .inl (y 0, 3, .inl frf)), (mo, .inr (11, [.ref to, .ref ke, .ref ik, .ref mrf, .long mab, .long mbl, .ref ha, .ref r0, .ref mbr, .ref mbp, .ref mby, .int (nI bl), .int (nI ta), .int (nI tl), .int (nI tk), .int vv, .ref an, .ref va])), (to, .inl (y 0, 228, .inl ft))] [] [(mrf, .inl (y 0, 3, .inl frf)), (mo, .inr (11, [.ref to, .ref ke, .ref ik, .ref mrf, .long mab, .long mbl, .ref ha, .ref r0, .ref mbr, .ref mbp, .ref mby, .int (nI bl), .int (nI ta), .int (nI tl), .int (nI tk), .int vv, .ref an, .ref va])), (to, .inl (y 0, 228, .inl ft))] [] [0, 1, 2] := ⟨rfl, rfl, rfl, rfl, rfl, by decide⟩
        refine kw_go_i hs22 hP hD hS hA (va_runS (As := [.int (nI an4)]) (rest := []) ⟨hx, hb, hml, hown, hts⟩ (gr_isCloud l D y (nI an4)  _) (va_cwS 1 hts gX11_note_X11_isCloud rfl rfl rfl (by decide +kernel) ⟨Nat.le_of_ble_eq_true rfl, Nat.le_of_ble_eq_true rfl⟩) (kw_PreS hs22 hP hD hK hN) rfl rfl hl.1 rfl (lv_room (Nat.le_of_ble_eq_true rfl)) dX11_note_24 ⟨Nat.le_of_ble_eq_true rfl, Nat.le_of_ble_eq_true rfl⟩) (fun r23 u24 H locs hq hP hD hS => ?_)
        rcases hq with ⟨j25, h26, h27, rfl⟩ | ⟨h28, rfl⟩
        · skip
          have h27 : an4 = j25 := (nI_eq (a := an4) (b := j25) (by omega) (by omega)).mp h27
          have hP : va_P D vwCl [(mrf, .inl (y 0, 3, .inl frf)), (mo, .inr (11, [.ref to, .ref ke, .ref ik, .ref mrf, .long mab, .long mbl, .ref ha, .ref r0, .ref mbr, .ref mbp, .ref mby, .int (nI bl), .int (nI ta), .int (nI tl), .int (nI tk), .int vv, .ref an, .ref va])), (to, .inl (y 0, 228, .inl ft))] H := hP
          have hD : va_D A [(mrf, .inl (y 0, 3, .inl frf)), (mo, .inr (11, [.ref to, .ref ke, .ref ik, .ref mrf, .long mab, .long mbl, .ref ha, .ref r0, .ref mbr, .ref mbp, .ref mby, .int (nI bl), .int (nI ta), .int (nI tl), .int (nI tk), .int vv, .ref an, .ref va])), (to, .inl (y 0, 228, .inl ft))] := hD
          refine lv_if_eq (tgt := 43) hx hb dX11_note_27 (by decide) (fun h9 => absurd h9 (by decide)) (fun _ => ?_)
          refine lv_iload hx hb dX11_note_30 (lv_at hl 5 rfl) ?_
          refine lv_i2l (v := (nI an5).toInt64) hx hb dX11_note_32 (rfl) ?_
          refine lv_lconst (v := 0) hx hb dX11_note_33 (by decide) ?_
          refine lv_ldc2 (v := 99) hx hb hown fw1 dX11_note_34 ?_
          have hs29 : kw_Split [(mrf, .inl (y 0, 3, .inl frf)), (mo, .inr (11, [.ref to, .ref ke, .ref ik, .ref mrf, .long mab, .long mbl, .ref ha, .ref r0, .ref mbr, .ref mbp, .ref mby, .int (nI bl), .int (nI ta), .int (nI tl), .int (nI tk), .int vv, .ref an, .ref va])), (to, .inl (y 0, 228, .inl ft))] [] [(mrf, .inl (y 0, 3, .inl frf)), (mo, .inr (11, [.ref to, .ref ke, .ref ik, .ref mrf, .long mab, .long mbl, .ref ha, .ref r0, .ref mbr, .ref mbp, .ref mby, .int (nI bl), .int (nI ta), .int (nI tl), .int (nI tk), .int vv, .ref an, .ref va])), (to, .inl (y 0, 228, .inl ft))] [] [0, 1, 2] := ⟨rfl, rfl, rfl, rfl, rfl, by decide⟩
          refine kw_go_i hs29 hP hD hS hA (va_runS (As := [.long ((nI an5).toInt64), .long 0, .long 99]) (rest := []) ⟨hx, hb, hml, hown, hts⟩ (gr_in l D y (nI an5) 0 99 (by omega) (by omega) _) (va_cwS 3 hts gX11_note_X11_in rfl rfl rfl (by decide +kernel) ⟨Nat.le_of_ble_eq_true rfl, Nat.le_of_ble_eq_true rfl⟩) (kw_PreS hs29 hP hD hK hN) rfl rfl hl.1 rfl (lv_room (Nat.le_of_ble_eq_true rfl)) dX11_note_37 ⟨Nat.le_of_ble_eq_true rfl, Nat.le_of_ble_eq_true rfl⟩) (fun r30 u31 H locs hq hP hD hS => ?_)
          rcases hq with ⟨j32, h33, h34, h35, rfl⟩ | ⟨h36, rfl⟩
          · skip
            have h35 : an5 = j32 := (nI_eq (a := an5) (b := j32) (by omega) (by omega)).mp h35
            have hP : va_P D vwCl [(mrf, .inl (y 0, 3, .inl frf)), (mo, .inr (11, [.ref to, .ref ke, .ref ik, .ref mrf, .long mab, .long mbl, .ref ha, .ref r0, .ref mbr, .ref mbp, .ref mby, .int (nI bl), .int (nI ta), .int (nI tl), .int (nI tk), .int vv, .ref an, .ref va])), (to, .inl (y 0, 228, .inl ft))] H := hP
            have hD : va_D A [(mrf, .inl (y 0, 3, .inl frf)), (mo, .inr (11, [.ref to, .ref ke, .ref ik, .ref mrf, .long mab, .long mbl, .ref ha, .ref r0, .ref mbr, .ref mbp, .ref mby, .int (nI bl), .int (nI ta), .int (nI tl), .int (nI tk), .int vv, .ref an, .ref va])), (to, .inl (y 0, 228, .inl ft))] := hD
            refine lv_if_ne (tgt := 50) hx hb dX11_note_40 (by decide) (fun _ => ?_) (fun h9 => absurd h9 (by decide))
            refine lv_aload_n hx hb dX11_note_50 rfl (lv_at hl 0 rfl) ?_
            refine va_get (D := D) (ci := 11) (v := .ref to) (C := RX11) (T := TX11) (N := 18) hx hb hts iw11 hown hK hP 1 rfl rfl 0 (by decide) fw2 (fun _ h9 => h9) rfl dX11_note_51 ?_
            refine lv_iconst (v := 3) hx hb dX11_note_54 (by decide) ?_
            refine va_iald hx hb hK hP 2 0 rfl rfl (by unfold vp_in; decide) dX11_note_55 ?_
            rw [show ((3 : Int32)).toNatClampNeg = 3 from rfl]
            rw [show (ft 3) = (nI 5) from hk3_]
            refine lv_bipush (v := 6) hx hb dX11_note_56 (by decide) ?_
            refine lv_icmp_ne (tgt := 66) hx hb dX11_note_58 (by decide) (fun h37 => ?_) (fun h38 => ?_)
            · skip
              have h37 : ¬ 5 = 6 := fun q9 => h37 ((nI_eq (a := 5) (b := 6) (by omega) (by omega)).mpr q9)
              refine lv_bipush (v := 46) hx hb dX11_note_66 (by decide) ?_
              refine lv_iconst (v := 5) hx hb dX11_note_68 (by decide) ?_
              refine lv_aload_n hx hb dX11_note_69 rfl (lv_at hl 0 rfl) ?_
              refine va_get (D := D) (ci := 11) (v := .ref to) (C := RX11) (T := TX11) (N := 18) hx hb hts iw11 hown hK hP 1 rfl rfl 0 (by decide) fw2 (fun _ h9 => h9) rfl dX11_note_70 ?_
              refine lv_iconst (v := 3) hx hb dX11_note_73 (by decide) ?_
              refine va_iald hx hb hK hP 2 0 rfl rfl (by unfold vp_in; decide) dX11_note_74 ?_
              rw [show ((3 : Int32)).toNatClampNeg = 3 from rfl]
              rw [show (ft 3) = (nI 5) from hk3_]
              refine lv_imul hx hb dX11_note_75 ?_
              rw [show 5 * (nI 5) = nI (25) from pk_mul 5 5]
              refine lv_iadd hx hb dX11_note_76 ?_
              rw [show 46 + (nI 25) = nI (71) from nI_add 46 25]
              refine lv_istore (lv' := [(6, .int (nI 71)), (0, .ref mo), (1, .int (nI an1)), (2, .int (nI an2)), (3, .int (nI an3)), (4, .int (nI an4)), (5, .int (nI an5))]) hx hb dX11_note_77 hl (by decide) rfl (fun ls hl => ?_)
              refine lv_aload_n hx hb dX11_note_79 rfl (lv_at hl 1 rfl) ?_
              refine va_get (D := D) (ci := 11) (v := .ref to) (C := RX11) (T := TX11) (N := 18) hx hb hts iw11 hown hK hP 1 rfl rfl 0 (by decide) fw2 (fun _ h9 => h9) rfl dX11_note_80 ?_
              refine lv_iload hx hb dX11_note_83 (lv_at hl 0 rfl) ?_
              refine lv_iload_n hx hb dX11_note_85 rfl (lv_at hl 2 rfl) ?_
              refine va_iast hx hb hK hP hD hS 2 0 rfl rfl (vp_in_nI (by omega) (by decide)) dX11_note_86 (fun H locs hP hD hS => ?_)
              rw [nI_clamp (n := 71) (by omega)] at hP hD
              have hr39 : kr_t 228 (upd ft 71 (nI an1)) := kr_up hkt (kr_free (by unfold kr_a; omega) (by unfold kr_s; omega))
              have hk40 : (upd ft 71 (nI an1)) 0 = (nI fi) := (pk_un (by decide)).trans hk0_
              have hk41 : (upd ft 71 (nI an1)) 1 = (nI gl) := (pk_un (by decide)).trans hk1_
              have hk42 : (upd ft 71 (nI an1)) 2 = (nI mi) := (pk_un (by decide)).trans hk2_
              have hk43 : (upd ft 71 (nI an1)) 3 = (nI 5) := (pk_un (by decide)).trans hk3_
              have hk44 : (upd ft 71 (nI an1)) 4 = (nI un) := (pk_un (by decide)).trans hk4_
              have hP : va_P D vwCl [(mrf, .inl (y 0, 3, .inl frf)), (mo, .inr (11, [.ref to, .ref ke, .ref ik, .ref mrf, .long mab, .long mbl, .ref ha, .ref r0, .ref mbr, .ref mbp, .ref mby, .int (nI bl), .int (nI ta), .int (nI tl), .int (nI tk), .int vv, .ref an, .ref va])), (to, .inl (y 0, 228, .inl (upd ft 71 (nI an1))))] H := hP
              have hD : va_D A [(mrf, .inl (y 0, 3, .inl frf)), (mo, .inr (11, [.ref to, .ref ke, .ref ik, .ref mrf, .long mab, .long mbl, .ref ha, .ref r0, .ref mbr, .ref mbp, .ref mby, .int (nI bl), .int (nI ta), .int (nI tl), .int (nI tk), .int vv, .ref an, .ref va])), (to, .inl (y 0, 228, .inl (upd ft 71 (nI an1))))] := hD
              refine lv_aload_n hx hb dX11_note_87 rfl (lv_at hl 1 rfl) ?_
              refine va_get (D := D) (ci := 11) (v := .ref to) (C := RX11) (T := TX11) (N := 18) hx hb hts iw11 hown hK hP 1 rfl rfl 0 (by decide) fw2 (fun _ h9 => h9) rfl dX11_note_88 ?_
              refine lv_iload hx hb dX11_note_91 (lv_at hl 0 rfl) ?_
              refine lv_iconst (v := 1) hx hb dX11_note_93 (by decide) ?_
              refine lv_iadd hx hb dX11_note_94 ?_
              rw [show (nI 71) + 1 = nI (72) from nI_add 71 1]
              refine lv_iload_n hx hb dX11_note_95 rfl (lv_at hl 3 rfl) ?_
              refine va_iast hx hb hK hP hD hS 2 0 rfl rfl (vp_in_nI (by omega) (by decide)) dX11_note_96 (fun H locs hP hD hS => ?_)
              rw [nI_clamp (n := 72) (by omega)] at hP hD
              have hr45 : kr_t 228 (upd (upd ft 71 (nI an1)) 72 (nI an2)) := kr_up hr39 (kr_free (by unfold kr_a; omega) (by unfold kr_s; omega))
              have hk46 : (upd (upd ft 71 (nI an1)) 72 (nI an2)) 0 = (nI fi) := (pk_un (by decide)).trans hk40
              have hk47 : (upd (upd ft 71 (nI an1)) 72 (nI an2)) 1 = (nI gl) := (pk_un (by decide)).trans hk41
              have hk48 : (upd (upd ft 71 (nI an1)) 72 (nI an2)) 2 = (nI mi) := (pk_un (by decide)).trans hk42
              have hk49 : (upd (upd ft 71 (nI an1)) 72 (nI an2)) 3 = (nI 5) := (pk_un (by decide)).trans hk43
              have hk50 : (upd (upd ft 71 (nI an1)) 72 (nI an2)) 4 = (nI un) := (pk_un (by decide)).trans hk44
              have hP : va_P D vwCl [(mrf, .inl (y 0, 3, .inl frf)), (mo, .inr (11, [.ref to, .ref ke, .ref ik, .ref mrf, .long mab, .long mbl, .ref ha, .ref r0, .ref mbr, .ref mbp, .ref mby, .int (nI bl), .int (nI ta), .int (nI tl), .int (nI tk), .int vv, .ref an, .ref va])), (to, .inl (y 0, 228, .inl (upd (upd ft 71 (nI an1)) 72 (nI an2))))] H := hP
              have hD : va_D A [(mrf, .inl (y 0, 3, .inl frf)), (mo, .inr (11, [.ref to, .ref ke, .ref ik, .ref mrf, .long mab, .long mbl, .ref ha, .ref r0, .ref mbr, .ref mbp, .ref mby, .int (nI bl), .int (nI ta), .int (nI tl), .int (nI tk), .int vv, .ref an, .ref va])), (to, .inl (y 0, 228, .inl (upd (upd ft 71 (nI an1)) 72 (nI an2))))] := hD
              refine lv_aload_n hx hb dX11_note_97 rfl (lv_at hl 1 rfl) ?_
              refine va_get (D := D) (ci := 11) (v := .ref to) (C := RX11) (T := TX11) (N := 18) hx hb hts iw11 hown hK hP 1 rfl rfl 0 (by decide) fw2 (fun _ h9 => h9) rfl dX11_note_98 ?_
              refine lv_iload hx hb dX11_note_101 (lv_at hl 0 rfl) ?_
              refine lv_iconst (v := 2) hx hb dX11_note_103 (by decide) ?_
              refine lv_iadd hx hb dX11_note_104 ?_
              rw [show (nI 71) + 2 = nI (73) from nI_add 71 2]
              refine lv_iload_n hx hb dX11_note_105 rfl (lv_at hl 4 rfl) ?_
              refine va_iast hx hb hK hP hD hS 2 0 rfl rfl (vp_in_nI (by omega) (by decide)) dX11_note_106 (fun H locs hP hD hS => ?_)
              rw [nI_clamp (n := 73) (by omega)] at hP hD
              have hr51 : kr_t 228 (upd (upd (upd ft 71 (nI an1)) 72 (nI an2)) 73 (nI an3)) := kr_up hr45 (kr_free (by unfold kr_a; omega) (by unfold kr_s; omega))
              have hk52 : (upd (upd (upd ft 71 (nI an1)) 72 (nI an2)) 73 (nI an3)) 0 = (nI fi) := (pk_un (by decide)).trans hk46
              have hk53 : (upd (upd (upd ft 71 (nI an1)) 72 (nI an2)) 73 (nI an3)) 1 = (nI gl) := (pk_un (by decide)).trans hk47
              have hk54 : (upd (upd (upd ft 71 (nI an1)) 72 (nI an2)) 73 (nI an3)) 2 = (nI mi) := (pk_un (by decide)).trans hk48
              have hk55 : (upd (upd (upd ft 71 (nI an1)) 72 (nI an2)) 73 (nI an3)) 3 = (nI 5) := (pk_un (by decide)).trans hk49
              have hk56 : (upd (upd (upd ft 71 (nI an1)) 72 (nI an2)) 73 (nI an3)) 4 = (nI un) := (pk_un (by decide)).trans hk50
              have hP : va_P D vwCl [(mrf, .inl (y 0, 3, .inl frf)), (mo, .inr (11, [.ref to, .ref ke, .ref ik, .ref mrf, .long mab, .long mbl, .ref ha, .ref r0, .ref mbr, .ref mbp, .ref mby, .int (nI bl), .int (nI ta), .int (nI tl), .int (nI tk), .int vv, .ref an, .ref va])), (to, .inl (y 0, 228, .inl (upd (upd (upd ft 71 (nI an1)) 72 (nI an2)) 73 (nI an3))))] H := hP
              have hD : va_D A [(mrf, .inl (y 0, 3, .inl frf)), (mo, .inr (11, [.ref to, .ref ke, .ref ik, .ref mrf, .long mab, .long mbl, .ref ha, .ref r0, .ref mbr, .ref mbp, .ref mby, .int (nI bl), .int (nI ta), .int (nI tl), .int (nI tk), .int vv, .ref an, .ref va])), (to, .inl (y 0, 228, .inl (upd (upd (upd ft 71 (nI an1)) 72 (nI an2)) 73 (nI an3))))] := hD
              refine lv_aload_n hx hb dX11_note_107 rfl (lv_at hl 1 rfl) ?_
              refine va_get (D := D) (ci := 11) (v := .ref to) (C := RX11) (T := TX11) (N := 18) hx hb hts iw11 hown hK hP 1 rfl rfl 0 (by decide) fw2 (fun _ h9 => h9) rfl dX11_note_108 ?_
              refine lv_iload hx hb dX11_note_111 (lv_at hl 0 rfl) ?_
              refine lv_iconst (v := 3) hx hb dX11_note_113 (by decide) ?_
              refine lv_iadd hx hb dX11_note_114 ?_
              rw [show (nI 71) + 3 = nI (74) from nI_add 71 3]
              refine lv_iload hx hb dX11_note_115 (lv_at hl 5 rfl) ?_
              refine va_iast hx hb hK hP hD hS 2 0 rfl rfl (vp_in_nI (by omega) (by decide)) dX11_note_117 (fun H locs hP hD hS => ?_)
              rw [nI_clamp (n := 74) (by omega)] at hP hD
              have hr57 : kr_t 228 (upd (upd (upd (upd ft 71 (nI an1)) 72 (nI an2)) 73 (nI an3)) 74 (nI an4)) := kr_up hr51 (kr_free (by unfold kr_a; omega) (by unfold kr_s; omega))
              have hk58 : (upd (upd (upd (upd ft 71 (nI an1)) 72 (nI an2)) 73 (nI an3)) 74 (nI an4)) 0 = (nI fi) := (pk_un (by decide)).trans hk52
              have hk59 : (upd (upd (upd (upd ft 71 (nI an1)) 72 (nI an2)) 73 (nI an3)) 74 (nI an4)) 1 = (nI gl) := (pk_un (by decide)).trans hk53
              have hk60 : (upd (upd (upd (upd ft 71 (nI an1)) 72 (nI an2)) 73 (nI an3)) 74 (nI an4)) 2 = (nI mi) := (pk_un (by decide)).trans hk54
              have hk61 : (upd (upd (upd (upd ft 71 (nI an1)) 72 (nI an2)) 73 (nI an3)) 74 (nI an4)) 3 = (nI 5) := (pk_un (by decide)).trans hk55
              have hk62 : (upd (upd (upd (upd ft 71 (nI an1)) 72 (nI an2)) 73 (nI an3)) 74 (nI an4)) 4 = (nI un) := (pk_un (by decide)).trans hk56
              have hP : va_P D vwCl [(mrf, .inl (y 0, 3, .inl frf)), (mo, .inr (11, [.ref to, .ref ke, .ref ik, .ref mrf, .long mab, .long mbl, .ref ha, .ref r0, .ref mbr, .ref mbp, .ref mby, .int (nI bl), .int (nI ta), .int (nI tl), .int (nI tk), .int vv, .ref an, .ref va])), (to, .inl (y 0, 228, .inl (upd (upd (upd (upd ft 71 (nI an1)) 72 (nI an2)) 73 (nI an3)) 74 (nI an4))))] H := hP
              have hD : va_D A [(mrf, .inl (y 0, 3, .inl frf)), (mo, .inr (11, [.ref to, .ref ke, .ref ik, .ref mrf, .long mab, .long mbl, .ref ha, .ref r0, .ref mbr, .ref mbp, .ref mby, .int (nI bl), .int (nI ta), .int (nI tl), .int (nI tk), .int vv, .ref an, .ref va])), (to, .inl (y 0, 228, .inl (upd (upd (upd (upd ft 71 (nI an1)) 72 (nI an2)) 73 (nI an3)) 74 (nI an4))))] := hD
              refine lv_aload_n hx hb dX11_note_118 rfl (lv_at hl 1 rfl) ?_
              refine va_get (D := D) (ci := 11) (v := .ref to) (C := RX11) (T := TX11) (N := 18) hx hb hts iw11 hown hK hP 1 rfl rfl 0 (by decide) fw2 (fun _ h9 => h9) rfl dX11_note_119 ?_
              refine lv_iload hx hb dX11_note_122 (lv_at hl 0 rfl) ?_
              refine lv_iconst (v := 4) hx hb dX11_note_124 (by decide) ?_
              refine lv_iadd hx hb dX11_note_125 ?_
              rw [show (nI 71) + 4 = nI (75) from nI_add 71 4]
              refine lv_iload hx hb dX11_note_126 (lv_at hl 6 rfl) ?_
              refine va_iast hx hb hK hP hD hS 2 0 rfl rfl (vp_in_nI (by omega) (by decide)) dX11_note_128 (fun H locs hP hD hS => ?_)
              rw [nI_clamp (n := 75) (by omega)] at hP hD
              have hr63 : kr_t 228 (upd (upd (upd (upd (upd ft 71 (nI an1)) 72 (nI an2)) 73 (nI an3)) 74 (nI an4)) 75 (nI an5)) := kr_up hr57 (kr_free (by unfold kr_a; omega) (by unfold kr_s; omega))
              have hk64 : (upd (upd (upd (upd (upd ft 71 (nI an1)) 72 (nI an2)) 73 (nI an3)) 74 (nI an4)) 75 (nI an5)) 0 = (nI fi) := (pk_un (by decide)).trans hk58
              have hk65 : (upd (upd (upd (upd (upd ft 71 (nI an1)) 72 (nI an2)) 73 (nI an3)) 74 (nI an4)) 75 (nI an5)) 1 = (nI gl) := (pk_un (by decide)).trans hk59
              have hk66 : (upd (upd (upd (upd (upd ft 71 (nI an1)) 72 (nI an2)) 73 (nI an3)) 74 (nI an4)) 75 (nI an5)) 2 = (nI mi) := (pk_un (by decide)).trans hk60
              have hk67 : (upd (upd (upd (upd (upd ft 71 (nI an1)) 72 (nI an2)) 73 (nI an3)) 74 (nI an4)) 75 (nI an5)) 3 = (nI 5) := (pk_un (by decide)).trans hk61
              have hk68 : (upd (upd (upd (upd (upd ft 71 (nI an1)) 72 (nI an2)) 73 (nI an3)) 74 (nI an4)) 75 (nI an5)) 4 = (nI un) := (pk_un (by decide)).trans hk62
              have hP : va_P D vwCl [(mrf, .inl (y 0, 3, .inl frf)), (mo, .inr (11, [.ref to, .ref ke, .ref ik, .ref mrf, .long mab, .long mbl, .ref ha, .ref r0, .ref mbr, .ref mbp, .ref mby, .int (nI bl), .int (nI ta), .int (nI tl), .int (nI tk), .int vv, .ref an, .ref va])), (to, .inl (y 0, 228, .inl (upd (upd (upd (upd (upd ft 71 (nI an1)) 72 (nI an2)) 73 (nI an3)) 74 (nI an4)) 75 (nI an5))))] H := hP
              have hD : va_D A [(mrf, .inl (y 0, 3, .inl frf)), (mo, .inr (11, [.ref to, .ref ke, .ref ik, .ref mrf, .long mab, .long mbl, .ref ha, .ref r0, .ref mbr, .ref mbp, .ref mby, .int (nI bl), .int (nI ta), .int (nI tl), .int (nI tk), .int vv, .ref an, .ref va])), (to, .inl (y 0, 228, .inl (upd (upd (upd (upd (upd ft 71 (nI an1)) 72 (nI an2)) 73 (nI an3)) 74 (nI an4)) 75 (nI an5))))] := hD
              refine lv_aload_n hx hb dX11_note_129 rfl (lv_at hl 1 rfl) ?_
              refine va_get (D := D) (ci := 11) (v := .ref to) (C := RX11) (T := TX11) (N := 18) hx hb hts iw11 hown hK hP 1 rfl rfl 0 (by decide) fw2 (fun _ h9 => h9) rfl dX11_note_130 ?_
              refine lv_iconst (v := 3) hx hb dX11_note_133 (by decide) ?_
              refine lv_dup2_11 hx hb dX11_note_134 rfl rfl ?_
              refine va_iald hx hb hK hP 2 0 rfl rfl (by unfold vp_in; decide) dX11_note_135 ?_
              rw [show ((3 : Int32)).toNatClampNeg = 3 from rfl]
              rw [show ((upd (upd (upd (upd (upd ft 71 (nI an1)) 72 (nI an2)) 73 (nI an3)) 74 (nI an4)) 75 (nI an5)) 3) = (nI 5) from hk67]
              refine lv_iconst (v := 1) hx hb dX11_note_136 (by decide) ?_
              refine lv_iadd hx hb dX11_note_137 ?_
              rw [show (nI 5) + 1 = nI (6) from nI_add 5 1]
              refine va_iast hx hb hK hP hD hS 2 0 rfl rfl (by unfold vp_in; decide) dX11_note_138 (fun H locs hP hD hS => ?_)
              rw [show ((3 : Int32)).toNatClampNeg = 3 from rfl] at hP hD
              have hr69 : kr_t 228 (upd (upd (upd (upd (upd (upd ft 71 (nI an1)) 72 (nI an2)) 73 (nI an3)) 74 (nI an4)) 75 (nI an5)) 3 (nI 6)) := kr_up hr63 (kr_free (by unfold kr_a; omega) (by unfold kr_s; omega))
              have hk70 : (upd (upd (upd (upd (upd (upd ft 71 (nI an1)) 72 (nI an2)) 73 (nI an3)) 74 (nI an4)) 75 (nI an5)) 3 (nI 6)) 0 = (nI fi) := (pk_un (by decide)).trans hk64
              have hk71 : (upd (upd (upd (upd (upd (upd ft 71 (nI an1)) 72 (nI an2)) 73 (nI an3)) 74 (nI an4)) 75 (nI an5)) 3 (nI 6)) 1 = (nI gl) := (pk_un (by decide)).trans hk65
              have hk72 : (upd (upd (upd (upd (upd (upd ft 71 (nI an1)) 72 (nI an2)) 73 (nI an3)) 74 (nI an4)) 75 (nI an5)) 3 (nI 6)) 2 = (nI mi) := (pk_un (by decide)).trans hk66
              have hk73 : (upd (upd (upd (upd (upd (upd ft 71 (nI an1)) 72 (nI an2)) 73 (nI an3)) 74 (nI an4)) 75 (nI an5)) 3 (nI 6)) 4 = (nI un) := (pk_un (by decide)).trans hk68
              have hk74 : (upd (upd (upd (upd (upd (upd ft 71 (nI an1)) 72 (nI an2)) 73 (nI an3)) 74 (nI an4)) 75 (nI an5)) 3 (nI 6)) 3 = (nI 6) := pk_us
              have hP : va_P D vwCl [(mrf, .inl (y 0, 3, .inl frf)), (mo, .inr (11, [.ref to, .ref ke, .ref ik, .ref mrf, .long mab, .long mbl, .ref ha, .ref r0, .ref mbr, .ref mbp, .ref mby, .int (nI bl), .int (nI ta), .int (nI tl), .int (nI tk), .int vv, .ref an, .ref va])), (to, .inl (y 0, 228, .inl (upd (upd (upd (upd (upd (upd ft 71 (nI an1)) 72 (nI an2)) 73 (nI an3)) 74 (nI an4)) 75 (nI an5)) 3 (nI 6))))] H := hP
              have hD : va_D A [(mrf, .inl (y 0, 3, .inl frf)), (mo, .inr (11, [.ref to, .ref ke, .ref ik, .ref mrf, .long mab, .long mbl, .ref ha, .ref r0, .ref mbr, .ref mbp, .ref mby, .int (nI bl), .int (nI ta), .int (nI tl), .int (nI tk), .int vv, .ref an, .ref va])), (to, .inl (y 0, 228, .inl (upd (upd (upd (upd (upd (upd ft 71 (nI an1)) 72 (nI an2)) 73 (nI an3)) 74 (nI an4)) 75 (nI an5)) 3 (nI 6))))] := hD
              refine lv_aload_n hx hb dX11_note_139 rfl (lv_at hl 1 rfl) ?_
              refine va_get (D := D) (ci := 11) (v := .ref to) (C := RX11) (T := TX11) (N := 18) hx hb hts iw11 hown hK hP 1 rfl rfl 0 (by decide) fw2 (fun _ h9 => h9) rfl dX11_note_140 ?_
              refine lv_iconst (v := 3) hx hb dX11_note_143 (by decide) ?_
              refine va_iald hx hb hK hP 2 0 rfl rfl (by unfold vp_in; decide) dX11_note_144 ?_
              rw [show ((3 : Int32)).toNatClampNeg = 3 from rfl]
              rw [show ((upd (upd (upd (upd (upd (upd ft 71 (nI an1)) 72 (nI an2)) 73 (nI an3)) 74 (nI an4)) 75 (nI an5)) 3 (nI 6)) 3) = (nI 6) from hk74]
              exact W.iret (v := (nI 6)) hx hb hr (fun tZ ht hW => ⟨⟨(nI 6), (), rfl, ⟨hr69, hk70, hk71, hk72, hk74, hk73, by first | omega | (dsimp only; omega), rfl⟩, by rw [ht]; exact hP.sub [1, 0, 2] rfl, hD.sub [1, 0, 2] (by decide) rfl⟩, hS.F ht⟩) hS.2.2 dX11_note_145
            · skip
              have h38 : 5 = 6 := (nI_eq (a := 5) (b := 6) (by omega) (by omega)).mp h38
              exact absurd h38 (by omega)
          · skip
            exact absurd ⟨an5, by omega, by omega, rfl⟩ h36
        · skip
          exact absurd ⟨an4, by omega, by omega, rfl⟩ h28
      · skip
        exact absurd ⟨an3, by omega, by omega, rfl⟩ h21
    · skip
      exact absurd ⟨an2, by omega, by omega, rfl⟩ h14
  · skip
    exact absurd ⟨an1, by omega, rfl⟩ h7
