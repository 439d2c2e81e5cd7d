set_option maxHeartbeats 4000000 in
set_option maxRecDepth 100000 in
theorem gy_note_ok (l : Launch) (D : va_G) (y : Nat → ClassId) (mo : Nat) (to : Nat) (ke : Nat) (ik : Nat) (mrf : Nat) (ha : Nat) (r0 : Nat) (mbr : Nat) (mbp : Nat) (mby : Nat) (an : Nat) (va : Nat) (mab : Int64) (mbl : Int64) (bl : Nat) (ta : Nat) (tl : Nat) (tk : Nat) (vv : Int32) (frf : Nat → Int32) (ft : Nat → Int32) (fi : Nat) (gl : Nat) (mi : Nat) (no : Nat) (un : Nat) (an1 : Nat) (an2 : Nat) (an3 : Nat) (an4 : Nat) (an5 : Nat) (hk0_ : ft 0 = (nI fi)) (hk1_ : ft 1 = (nI gl)) (hk2_ : ft 2 = (nI mi)) (hk3_ : ft 3 = (nI no)) (hk4_ : ft 4 = (nI un)) (hkt : kr_t 228 ft) (hfi : fi ≤ 6) (hgl : gl ≤ 5) (hmi : mi ≤ 4) (hno : no ≤ 6) (hun : un ≤ 8) (hgf : (gl = 0 ∨ 0 < fi)) (hA2 : ¬ no = 6) (hB0_ : an1 < fi) (hB1_ : an2 < 12) (hB2_ : an3 ≤ 60) (hB3_ : an4 < 10) (hB4_ : an5 ≤ 99) : kw_Mi l yX11_note wsX11_note ({ frames := 3, cells := 0, slots := 0, locals := 106 }) D y [.ref mo, .int (nI an1), .int (nI an2), .int (nI an3), .int (nI an4), .int (nI an5)] [(mo, .inr (11, [.ref to, .ref ke, .ref ik, .ref mrf, .long mab, .long mbl, .ref ha, .ref r0, .ref mbr, .ref mbp, .ref mby, .int (nI bl), .int (nI ta), .int (nI tl), .int (nI tk), .int vv, .ref an, .ref va])), (mrf, .inl (y 0, 3, .inl frf)), (to, .inl (y 0, 228, .inl ft))] (fun (r : Int32) (u : (Nat → Int32)) => kr_t 228 u ∧ u 0 = (nI fi) ∧ u 1 = (nI gl) ∧ u 2 = (nI mi) ∧ u 3 = (nI (no + 1)) ∧ u 4 = (nI un) ∧ (gl = 0 ∨ 0 < fi) ∧ r = (nI (no + 1))) (fun u => [(mo, .inr (11, [.ref to, .ref ke, .ref ik, .ref mrf, .long mab, .long mbl, .ref ha, .ref r0, .ref mbr, .ref mbp, .ref mby, .int (nI bl), .int (nI ta), .int (nI tl), .int (nI tk), .int vv, .ref an, .ref va])), (mrf, .inl (y 0, 3, .inl frf)), (to, .inl (y 0, 228, .inl u))]) 0 0 := by
  refine kw_Mi.of (cc := cX11_note) (maxL := 7) (ret := (some .int)) (by decide) rfl ?_
  intro pZ eZ s mZ beZ meZ cZ A hE
  obtain ⟨hx, hb, hr, hml, hts, hown, hlocks, hin, hA, hP, hD, hK, hN⟩ := hE
  have hS : va_S A s.heap s.heap [] := va_S.rf
  have hl := lv_entry ([.ref mo, .int (nI an1), .int (nI an2), .int (nI an3), .int (nI an4), .int (nI an5)]) (n := 7) (Nat.le_of_ble_eq_true rfl)
  rw [lg_entry_eq]
  generalize (lg_sl ([.ref mo, .int (nI an1), .int (nI an2), .int (nI an3), .int (nI an4), .int (nI an5)]) ++ List.replicate (7 - (lg_sl ([.ref mo, .int (nI an1), .int (nI an2), .int (nI an3), .int (nI an4), .int (nI an5)])).length) Slot.unset).toArray = ls at hl ⊢
  have hl : lv_has ls 7 [(0, .ref mo), (1, .int (nI an1)), (2, .int (nI an2)), (3, .int (nI an3)), (4, .int (nI an4)), (5, .int (nI an5))] := hl
  have fw1 := hts (.constantLong RX11 174 (99)) (List.mem_of_getElem? (i := 1) rfl)
  have fw2 := hts (.fieldLink RX11 7 "GleanDuskModel" "told" "[I") (List.mem_of_getElem? (i := 2) rfl)
  have iw11 : ∀ w ∈ wsX110, w ∈ wsX11_note := fun _ h => List.mem_cons_of_mem _ (List.mem_append_right _ h)
  refine lv_aload_n hx hb dX11_note_0 rfl (lv_at hl 0 rfl) ?_
  refine lv_iload_n hx hb dX11_note_1 rfl (lv_at hl 1 rfl) ?_
  have hs1 : kw_Split [(mo, .inr (11, [.ref to, .ref ke, .ref ik, .ref mrf, .long mab, .long mbl, .ref ha, .ref r0, .ref mbr, .ref mbp, .ref mby, .int (nI bl), .int (nI ta), .int (nI tl), .int (nI tk), .int vv, .ref an, .ref va])), (mrf, .inl (y 0, 3, .inl frf)), (to, .inl (y 0, 228, .inl ft))] [(mo, .inr (11, [.ref to, .ref ke, .ref ik, .ref mrf, .long mab, .long mbl, .ref ha, .ref r0, .ref mbr, .ref mbp, .ref mby, .int (nI bl), .int (nI ta), .int (nI tl), .int (nI tk), .int vv, .ref an, .ref va])), (to, .inl (y 0, 228, .inl ft))] [(mrf, .inl (y 0, 3, .inl frf))] [0, 2] [1] := ⟨rfl, rfl, rfl, rfl, rfl, by decide⟩
  refine kw_go_i hs1 hP hD hS hA (va_runV (As := [.int (nI an1)]) (rest := []) ⟨hx, hb, hml, hown, hts⟩ (gr_isField l D y mo to ke ik mrf ha r0 mbr mbp mby an va mab mbl bl ta tl tk vv ft fi gl mi no un (nI an1) hk0_ hk1_ hk2_ hk3_ hk4_ hkt hfi hgl hmi hno hun _) (cwV 1 hts gX11_note_X11_isField rfl rfl rfl (by decide +kernel) ⟨Nat.le_of_ble_eq_true rfl, Nat.le_of_ble_eq_true rfl⟩) (kw_PreV (ci := 11) (q0 := 0) hs1 hP hD hK hN rfl rfl) rfl rfl hl.1 rfl (lv_room (Nat.le_of_ble_eq_true rfl)) dX11_note_2 ⟨Nat.le_of_ble_eq_true rfl, Nat.le_of_ble_eq_true rfl⟩) (fun r2 u3 H locs hq hP hD hS => ?_)
  rcases hq with ⟨j4, h5, h6, rfl⟩ | ⟨h7, rfl⟩
  · skip
    have h6 : an1 = j4 := (nI_eq (a := an1) (b := j4) (by omega) (by omega)).mp h6
    have hP : va_P D vwCl [(mrf, .inl (y 0, 3, .inl frf)), (mo, .inr (11, [.ref to, .ref ke, .ref ik, .ref mrf, .long mab, .long mbl, .ref ha, .ref r0, .ref mbr, .ref mbp, .ref mby, .int (nI bl), .int (nI ta), .int (nI tl), .int (nI tk), .int vv, .ref an, .ref va])), (to, .inl (y 0, 228, .inl ft))] H := hP
    have hD : va_D A [(mrf, .inl (y 0, 3, .inl frf)), (mo, .inr (11, [.ref to, .ref ke, .ref ik, .ref mrf, .long mab, .long mbl, .ref ha, .ref r0, .ref mbr, .ref mbp, .ref mby, .int (nI bl), .int (nI ta), .int (nI tl), .int (nI tk), .int vv, .ref an, .ref va])), (to, .inl (y 0, 228, .inl ft))] := hD
    refine lv_if_eq (tgt := 43) hx hb dX11_note_5 (by decide) (fun h9 => absurd h9 (by decide)) (fun _ => ?_)
    refine lv_iload_n hx hb dX11_note_8 rfl (lv_at hl 2 rfl) ?_
    have hs8 : kw_Split [(mrf, .inl (y 0, 3, .inl frf)), (mo, .inr (11, [.ref to, .ref ke, .ref ik, .ref mrf, .long mab, .long mbl, .ref ha, .ref r0, .ref mbr, .ref mbp, .ref mby, .int (nI bl), .int (nI ta), .int (nI tl), .int (nI tk), .int vv, .ref an, .ref va])), (to, .inl (y 0, 228, .inl ft))] [] [(mrf, .inl (y 0, 3, .inl frf)), (mo, .inr (11, [.ref to, .ref ke, .ref ik, .ref mrf, .long mab, .long mbl, .ref ha, .ref r0, .ref mbr, .ref mbp, .ref mby, .int (nI bl), .int (nI ta), .int (nI tl), .int (nI tk), .int vv, .ref an, .ref va])), (to, .inl (y 0, 228, .inl ft))] [] [0, 1, 2] := ⟨rfl, rfl, rfl, rfl, rfl, by decide⟩
    refine kw_go_i hs8 hP hD hS hA (va_runS (As := [.int (nI an2)]) (rest := []) ⟨hx, hb, hml, hown, hts⟩ (gr_isStep l D y (nI an2)  _) (va_cwS 1 hts gX11_note_X11_isStep rfl rfl rfl (by decide +kernel) ⟨Nat.le_of_ble_eq_true rfl, Nat.le_of_ble_eq_true rfl⟩) (kw_PreS hs8 hP hD hK hN) rfl rfl hl.1 rfl (lv_room (Nat.le_of_ble_eq_true rfl)) dX11_note_9 ⟨Nat.le_of_ble_eq_true rfl, Nat.le_of_ble_eq_true rfl⟩) (fun r9 u10 H locs hq hP hD hS => ?_)
    rcases hq with ⟨j11, h12, h13, rfl⟩ | ⟨h14, rfl⟩
    · skip
      have h13 : an2 = j11 := (nI_eq (a := an2) (b := j11) (by omega) (by omega)).mp h13
      have hP : va_P D vwCl [(mrf, .inl (y 0, 3, .inl frf)), (mo, .inr (11, [.ref to, .ref ke, .ref ik, .ref mrf, .long mab, .long mbl, .ref ha, .ref r0, .ref mbr, .ref mbp, .ref mby, .int (nI bl), .int (nI ta), .int (nI tl), .int (nI tk), .int vv, .ref an, .ref va])), (to, .inl (y 0, 228, .inl ft))] H := hP
      have hD : va_D A [(mrf, .inl (y 0, 3, .inl frf)), (mo, .inr (11, [.ref to, .ref ke, .ref ik, .ref mrf, .long mab, .long mbl, .ref ha, .ref r0, .ref mbr, .ref mbp, .ref mby, .int (nI bl), .int (nI ta), .int (nI tl), .int (nI tk), .int vv, .ref an, .ref va])), (to, .inl (y 0, 228, .inl ft))] := hD
      refine lv_if_eq (tgt := 43) hx hb dX11_note_12 (by decide) (fun h9 => absurd h9 (by decide)) (fun _ => ?_)
      refine lv_iload_n hx hb dX11_note_15 rfl (lv_at hl 3 rfl) ?_
      have hs15 : kw_Split [(mrf, .inl (y 0, 3, .inl frf)), (mo, .inr (11, [.ref to, .ref ke, .ref ik, .ref mrf, .long mab, .long mbl, .ref ha, .ref r0, .ref mbr, .ref mbp, .ref mby, .int (nI bl), .int (nI ta), .int (nI tl), .int (nI tk), .int vv, .ref an, .ref va])), (to, .inl (y 0, 228, .inl ft))] [] [(mrf, .inl (y 0, 3, .inl frf)), (mo, .inr (11, [.ref to, .ref ke, .ref ik, .ref mrf, .long mab, .long mbl, .ref ha, .ref r0, .ref mbr, .ref mbp, .ref mby, .int (nI bl), .int (nI ta), .int (nI tl), .int (nI tk), .int vv, .ref an, .ref va])), (to, .inl (y 0, 228, .inl ft))] [] [0, 1, 2] := ⟨rfl, rfl, rfl, rfl, rfl, by decide⟩
      refine kw_go_i hs15 hP hD hS hA (va_runS (As := [.int (nI an3)]) (rest := []) ⟨hx, hb, hml, hown, hts⟩ (gr_isLight l D y (nI an3)  _) (va_cwS 1 hts gX11_note_X11_isLight rfl rfl rfl (by decide +kernel) ⟨Nat.le_of_ble_eq_true rfl, Nat.le_of_ble_eq_true rfl⟩) (kw_PreS hs15 hP hD hK hN) rfl rfl hl.1 rfl (lv_room (Nat.le_of_ble_eq_true rfl)) dX11_note_16 ⟨Nat.le_of_ble_eq_true rfl, Nat.le_of_ble_eq_true rfl⟩) (fun r16 u17 H locs hq hP hD hS => ?_)
      rcases hq with ⟨j18, h19, h20, rfl⟩ | ⟨h21, rfl⟩
      · skip
        have h20 : an3 = j18 := (nI_eq (a := an3) (b := j18) (by omega) (by omega)).mp h20
        have hP : va_P D vwCl [(mrf, .inl (y 0, 3, .inl frf)), (mo, .inr (11, [.ref to, .ref ke, .ref ik, .ref mrf, .long mab, .long mbl, .ref ha, .ref r0, .ref mbr, .ref mbp, .ref mby, .int (nI bl), .int (nI ta), .int (nI tl), .int (nI tk), .int vv, .ref an, .ref va])), (to, .inl (y 0, 228, .inl ft))] H := hP
        have hD : va_D A [(mrf, .inl (y 0, 3, .inl frf)), (mo, .inr (11, [.ref to, .ref ke, .ref ik, .ref mrf, .long mab, .long mbl, .ref ha, .ref r0, .ref mbr, .ref mbp, .ref mby, .int (nI bl), .int (nI ta), .int (nI tl), .int (nI tk), .int vv, .ref an, .ref va])), (to, .inl (y 0, 228, .inl ft))] := hD
        refine lv_if_eq (tgt := 43) hx hb dX11_note_19 (by decide) (fun h9 => absurd h9 (by decide)) (fun _ => ?_)
        refine lv_iload hx hb dX11_note_22 (lv_at hl 4 rfl) ?_
        have hs22 : kw_Split [(mrf, .inl (y 0, 3, .inl frf)), (mo, .inr (11, [.ref to, .ref ke, .ref ik, .ref mrf, .long mab, .long mbl, .ref ha, .ref r0, .ref mbr, .ref mbp, .ref mby, .int (nI bl), .int (nI ta), .int (nI tl), .int (nI tk), .int vv, .ref an, .ref va])), (to, .inl (y 0, 228, .inl ft))] [] [(mrf, .inl (y 0, 3, .inl frf)), (mo, .inr (11, [.ref to, .ref ke, .ref ik, .ref mrf, .long mab, .long mbl, .ref ha, .ref r0, .ref mbr, .ref mbp, .ref mby, .int (nI bl), .int (nI ta), .int (nI tl), .int (nI tk), .int vv, .ref an, .ref va])), (to, .inl (y 0, 228, .inl ft))] [] [0, 1, 2] := ⟨rfl, rfl, rfl, rfl, rfl, by decide⟩
        refine kw_go_i hs22 hP hD hS hA (va_runS (As := [.int (nI an4)]) (rest := []) ⟨hx, hb, hml, hown, hts⟩ (gr_isCloud l D y (nI an4)  _) (va_cwS 1 hts gX11_note_X11_isCloud rfl rfl rfl (by decide +kernel) ⟨Nat.le_of_ble_eq_true rfl, Nat.le_of_ble_eq_true rfl⟩) (kw_PreS hs22 hP hD hK hN) rfl rfl hl.1 rfl (lv_room (Nat.le_of_ble_eq_true rfl)) dX11_note_24 ⟨Nat.le_of_ble_eq_true rfl, Nat.le_of_ble_eq_true rfl⟩) (fun r23 u24 H locs hq hP hD hS => ?_)
        rcases hq with ⟨j25, h26, h27, rfl⟩ | ⟨h28, rfl⟩
        · skip
          have h27 : an4 = j25 := (nI_eq (a := an4) (b := j25) (by omega) (by omega)).mp h27
          have hP : va_P D vwCl [(mrf, .inl (y 0, 3, .inl frf)), (mo, .inr (11, [.ref to, .ref ke, .ref ik, .ref mrf, .long mab, .long mbl, .ref ha, .ref r0, .ref mbr, .ref mbp, .ref mby, .int (nI bl), .int (nI ta), .int (nI tl), .int (nI tk), .int vv, .ref an, .ref va])), (to, .inl (y 0, 228, .inl ft))] H := hP
          have hD : va_D A [(mrf, .inl (y 0, 3, .inl frf)), (mo, .inr (11, [.ref to, .ref ke, .ref ik, .ref mrf, .long mab, .long mbl, .ref ha, .ref r0, .ref mbr, .ref mbp, .ref mby, .int (nI bl), .int (nI ta), .int (nI tl), .int (nI tk), .int vv, .ref an, .ref va])), (to, .inl (y 0, 228, .inl ft))] := hD
          refine lv_if_eq (tgt := 43) hx hb dX11_note_27 (by decide) (fun h9 => absurd h9 (by decide)) (fun _ => ?_)
          refine lv_iload hx hb dX11_note_30 (lv_at hl 5 rfl) ?_
          refine lv_i2l (v := (nI an5).toInt64) hx hb dX11_note_32 (rfl) ?_
          refine lv_lconst (v := 0) hx hb dX11_note_33 (by decide) ?_
          refine lv_ldc2 (v := 99) hx hb hown fw1 dX11_note_34 ?_
          have hs29 : kw_Split [(mrf, .inl (y 0, 3, .inl frf)), (mo, .inr (11, [.ref to, .ref ke, .ref ik, .ref mrf, .long mab, .long mbl, .ref ha, .ref r0, .ref mbr, .ref mbp, .ref mby, .int (nI bl), .int (nI ta), .int (nI tl), .int (nI tk), .int vv, .ref an, .ref va])), (to, .inl (y 0, 228, .inl ft))] [] [(mrf, .inl (y 0, 3, .inl frf)), (mo, .inr (11, [.ref to, .ref ke, .ref ik, .ref mrf, .long mab, .long mbl, .ref ha, .ref r0, .ref mbr, .ref mbp, .ref mby, .int (nI bl), .int (nI ta), .int (nI tl), .int (nI tk), .int vv, .ref an, .ref va])), (to, .inl (y 0, 228, .inl ft))] [] [0, 1, 2] := ⟨rfl, rfl, rfl, rfl, rfl, by decide⟩
          refine kw_go_i hs29 hP hD hS hA (va_runS (As := [.long ((nI an5).toInt64), .long 0, .long 99]) (rest := []) ⟨hx, hb, hml, hown, hts⟩ (gr_in l D y (nI an5) 0 99 (by omega) (by omega) _) (va_cwS 3 hts gX11_note_X11_in rfl rfl rfl (by decide +kernel) ⟨Nat.le_of_ble_eq_true rfl, Nat.le_of_ble_eq_true rfl⟩) (kw_PreS hs29 hP hD hK hN) rfl rfl hl.1 rfl (lv_room (Nat.le_of_ble_eq_true rfl)) dX11_note_37 ⟨Nat.le_of_ble_eq_true rfl, Nat.le_of_ble_eq_true rfl⟩) (fun r30 u31 H locs hq hP hD hS => ?_)
          rcases hq with ⟨j32, h33, h34, h35, rfl⟩ | ⟨h36, rfl⟩
          · skip
            have h35 : an5 = j32 := (nI_eq (a := an5) (b := j32) (by omega) (by omega)).mp h35
            have hP : va_P D vwCl [(mrf, .inl (y 0, 3, .inl frf)), (mo, .inr (11, [.ref to, .ref ke, .ref ik, .ref mrf, .long mab, .long mbl, .ref ha, .ref r0, .ref mbr, .ref mbp, .ref mby, .int (nI bl), .int (nI ta), .int (nI tl), .int (nI tk), .int vv, .ref an, .ref va])), (to, .inl (y 0, 228, .inl ft))] H := hP
            have hD : va_D A [(mrf, .inl (y 0, 3, .inl frf)), (mo, .inr (11, [.ref to, .ref ke, .ref ik, .ref mrf, .long mab, .long mbl, .ref ha, .ref r0, .ref mbr, .ref mbp, .ref mby, .int (nI bl), .int (nI ta), .int (nI tl), .int (nI tk), .int vv, .ref an, .ref va])), (to, .inl (y 0, 228, .inl ft))] := hD
            refine lv_if_ne (tgt := 50) hx hb dX11_note_40 (by decide) (fun _ => ?_) (fun h9 => absurd h9 (by decide))
            refine lv_aload_n hx hb dX11_note_50 rfl (lv_at hl 0 rfl) ?_
            refine va_get (D := D) (ci := 11) (v := .ref to) (C := RX11) (T := TX11) (N := 18) hx hb hts iw11 hown hK hP 1 rfl rfl 0 (by decide) fw2 (fun _ h9 => h9) rfl dX11_note_51 ?_
            refine lv_iconst (v := 3) hx hb dX11_note_54 (by decide) ?_
            refine va_iald hx hb hK hP 2 0 rfl rfl (by unfold vp_in; decide) dX11_note_55 ?_
            rw [show ((3 : Int32)).toNatClampNeg = 3 from rfl]
            rw [show (ft 3) = (nI no) from hk3_]
            refine lv_bipush (v := 6) hx hb dX11_note_56 (by decide) ?_
            refine lv_icmp_ne (tgt := 66) hx hb dX11_note_58 (by decide) (fun h37 => ?_) (fun h38 => ?_)
            · skip
              have h37 : ¬ no = 6 := fun q9 => h37 ((nI_eq (a := no) (b := 6) (by omega) (by omega)).mpr q9)
              rcases (show no = 0 ∨ no = 1 ∨ no = 2 ∨ no = 3 ∨ no = 4 ∨ no = 5 by omega) with rfl | rfl | rfl | rfl | rfl | rfl
              · skip
                refine lv_bipush (v := 46) hx hb dX11_note_66 (by decide) ?_
                refine lv_iconst (v := 5) hx hb dX11_note_68 (by decide) ?_
                refine lv_aload_n hx hb dX11_note_69 rfl (lv_at hl 0 rfl) ?_
                refine va_get (D := D) (ci := 11) (v := .ref to) (C := RX11) (T := TX11) (N := 18) hx hb hts iw11 hown hK hP 1 rfl rfl 0 (by decide) fw2 (fun _ h9 => h9) rfl dX11_note_70 ?_
                refine lv_iconst (v := 3) hx hb dX11_note_73 (by decide) ?_
                refine va_iald hx hb hK hP 2 0 rfl rfl (by unfold vp_in; decide) dX11_note_74 ?_
                rw [show ((3 : Int32)).toNatClampNeg = 3 from rfl]
                rw [show (ft 3) = (nI 0) from hk3_]
                refine lv_imul hx hb dX11_note_75 ?_
                rw [show 5 * (nI 0) = nI (0) from pk_mul 5 0]
                refine lv_iadd hx hb dX11_note_76 ?_
                rw [show 46 + (nI 0) = nI (46) from nI_add 46 0]
                refine lv_istore (lv' := [(6, .int (nI 46)), (0, .ref mo), (1, .int (nI an1)), (2, .int (nI an2)), (3, .int (nI an3)), (4, .int (nI an4)), (5, .int (nI an5))]) hx hb dX11_note_77 hl (by decide) rfl (fun ls hl => ?_)
                refine lv_aload_n hx hb dX11_note_79 rfl (lv_at hl 1 rfl) ?_
                refine va_get (D := D) (ci := 11) (v := .ref to) (C := RX11) (T := TX11) (N := 18) hx hb hts iw11 hown hK hP 1 rfl rfl 0 (by decide) fw2 (fun _ h9 => h9) rfl dX11_note_80 ?_
                refine lv_iload hx hb dX11_note_83 (lv_at hl 0 rfl) ?_
                refine lv_iload_n hx hb dX11_note_85 rfl (lv_at hl 2 rfl) ?_
                refine va_iast hx hb hK hP hD hS 2 0 rfl rfl (vp_in_nI (by omega) (by decide)) dX11_note_86 (fun H locs hP hD hS => ?_)
                rw [nI_clamp (n := 46) (by omega)] at hP hD
                have hr39 : kr_t 228 (upd ft 46 (nI an1)) := kr_up hkt (kr_free (by unfold kr_a; omega) (by unfold kr_s; omega))
                have hk40 : (upd ft 46 (nI an1)) 0 = (nI fi) := (pk_un (by decide)).trans hk0_
                have hk41 : (upd ft 46 (nI an1)) 1 = (nI gl) := (pk_un (by decide)).trans hk1_
                have hk42 : (upd ft 46 (nI an1)) 2 = (nI mi) := (pk_un (by decide)).trans hk2_
                have hk43 : (upd ft 46 (nI an1)) 3 = (nI 0) := (pk_un (by decide)).trans hk3_
                have hk44 : (upd ft 46 (nI an1)) 4 = (nI un) := (pk_un (by decide)).trans hk4_
                have hP : va_P D vwCl [(mrf, .inl (y 0, 3, .inl frf)), (mo, .inr (11, [.ref to, .ref ke, .ref ik, .ref mrf, .long mab, .long mbl, .ref ha, .ref r0, .ref mbr, .ref mbp, .ref mby, .int (nI bl), .int (nI ta), .int (nI tl), .int (nI tk), .int vv, .ref an, .ref va])), (to, .inl (y 0, 228, .inl (upd ft 46 (nI an1))))] H := hP
                have hD : va_D A [(mrf, .inl (y 0, 3, .inl frf)), (mo, .inr (11, [.ref to, .ref ke, .ref ik, .ref mrf, .long mab, .long mbl, .ref ha, .ref r0, .ref mbr, .ref mbp, .ref mby, .int (nI bl), .int (nI ta), .int (nI tl), .int (nI tk), .int vv, .ref an, .ref va])), (to, .inl (y 0, 228, .inl (upd ft 46 (nI an1))))] := hD
                refine lv_aload_n hx hb dX11_note_87 rfl (lv_at hl 1 rfl) ?_
                refine va_get (D := D) (ci := 11) (v := .ref to) (C := RX11) (T := TX11) (N := 18) hx hb hts iw11 hown hK hP 1 rfl rfl 0 (by decide) fw2 (fun _ h9 => h9) rfl dX11_note_88 ?_
                refine lv_iload hx hb dX11_note_91 (lv_at hl 0 rfl) ?_
                refine lv_iconst (v := 1) hx hb dX11_note_93 (by decide) ?_
                refine lv_iadd hx hb dX11_note_94 ?_
                rw [show (nI 46) + 1 = nI (47) from nI_add 46 1]
                refine lv_iload_n hx hb dX11_note_95 rfl (lv_at hl 3 rfl) ?_
                refine va_iast hx hb hK hP hD hS 2 0 rfl rfl (vp_in_nI (by omega) (by decide)) dX11_note_96 (fun H locs hP hD hS => ?_)
                rw [nI_clamp (n := 47) (by omega)] at hP hD
                have hr45 : kr_t 228 (upd (upd ft 46 (nI an1)) 47 (nI an2)) := kr_up hr39 (kr_free (by unfold kr_a; omega) (by unfold kr_s; omega))
                have hk46 : (upd (upd ft 46 (nI an1)) 47 (nI an2)) 0 = (nI fi) := (pk_un (by decide)).trans hk40
                have hk47 : (upd (upd ft 46 (nI an1)) 47 (nI an2)) 1 = (nI gl) := (pk_un (by decide)).trans hk41
                have hk48 : (upd (upd ft 46 (nI an1)) 47 (nI an2)) 2 = (nI mi) := (pk_un (by decide)).trans hk42
                have hk49 : (upd (upd ft 46 (nI an1)) 47 (nI an2)) 3 = (nI 0) := (pk_un (by decide)).trans hk43
                have hk50 : (upd (upd ft 46 (nI an1)) 47 (nI an2)) 4 = (nI un) := (pk_un (by decide)).trans hk44
                have hP : va_P D vwCl [(mrf, .inl (y 0, 3, .inl frf)), (mo, .inr (11, [.ref to, .ref ke, .ref ik, .ref mrf, .long mab, .long mbl, .ref ha, .ref r0, .ref mbr, .ref mbp, .ref mby, .int (nI bl), .int (nI ta), .int (nI tl), .int (nI tk), .int vv, .ref an, .ref va])), (to, .inl (y 0, 228, .inl (upd (upd ft 46 (nI an1)) 47 (nI an2))))] H := hP
                have hD : va_D A [(mrf, .inl (y 0, 3, .inl frf)), (mo, .inr (11, [.ref to, .ref ke, .ref ik, .ref mrf, .long mab, .long mbl, .ref ha, .ref r0, .ref mbr, .ref mbp, .ref mby, .int (nI bl), .int (nI ta), .int (nI tl), .int (nI tk), .int vv, .ref an, .ref va])), (to, .inl (y 0, 228, .inl (upd (upd ft 46 (nI an1)) 47 (nI an2))))] := hD
                refine lv_aload_n hx hb dX11_note_97 rfl (lv_at hl 1 rfl) ?_
                refine va_get (D := D) (ci := 11) (v := .ref to) (C := RX11) (T := TX11) (N := 18) hx hb hts iw11 hown hK hP 1 rfl rfl 0 (by decide) fw2 (fun _ h9 => h9) rfl dX11_note_98 ?_
                refine lv_iload hx hb dX11_note_101 (lv_at hl 0 rfl) ?_
                refine lv_iconst (v := 2) hx hb dX11_note_103 (by decide) ?_
                refine lv_iadd hx hb dX11_note_104 ?_
                rw [show (nI 46) + 2 = nI (48) from nI_add 46 2]
                refine lv_iload_n hx hb dX11_note_105 rfl (lv_at hl 4 rfl) ?_
                refine va_iast hx hb hK hP hD hS 2 0 rfl rfl (vp_in_nI (by omega) (by decide)) dX11_note_106 (fun H locs hP hD hS => ?_)
                rw [nI_clamp (n := 48) (by omega)] at hP hD
                have hr51 : kr_t 228 (upd (upd (upd ft 46 (nI an1)) 47 (nI an2)) 48 (nI an3)) := kr_up hr45 (kr_free (by unfold kr_a; omega) (by unfold kr_s; omega))
                have hk52 : (upd (upd (upd ft 46 (nI an1)) 47 (nI an2)) 48 (nI an3)) 0 = (nI fi) := (pk_un (by decide)).trans hk46
                have hk53 : (upd (upd (upd ft 46 (nI an1)) 47 (nI an2)) 48 (nI an3)) 1 = (nI gl) := (pk_un (by decide)).trans hk47
                have hk54 : (upd (upd (upd ft 46 (nI an1)) 47 (nI an2)) 48 (nI an3)) 2 = (nI mi) := (pk_un (by decide)).trans hk48
                have hk55 : (upd (upd (upd ft 46 (nI an1)) 47 (nI an2)) 48 (nI an3)) 3 = (nI 0) := (pk_un (by decide)).trans hk49
                have hk56 : (upd (upd (upd ft 46 (nI an1)) 47 (nI an2)) 48 (nI an3)) 4 = (nI un) := (pk_un (by decide)).trans hk50
                have hP : va_P D vwCl [(mrf, .inl (y 0, 3, .inl frf)), (mo, .inr (11, [.ref to, .ref ke, .ref ik, .ref mrf, .long mab, .long mbl, .ref ha, .ref r0, .ref mbr, .ref mbp, .ref mby, .int (nI bl), .int (nI ta), .int (nI tl), .int (nI tk), .int vv, .ref an, .ref va])), (to, .inl (y 0, 228, .inl (upd (upd (upd ft 46 (nI an1)) 47 (nI an2)) 48 (nI an3))))] H := hP
                have hD : va_D A [(mrf, .inl (y 0, 3, .inl frf)), (mo, .inr (11, [.ref to, .ref ke, .ref ik, .ref mrf, .long mab, .long mbl, .ref ha, .ref r0, .ref mbr, .ref mbp, .ref mby, .int (nI bl), .int (nI ta), .int (nI tl), .int (nI tk), .int vv, .ref an, .ref va])), (to, .inl (y 0, 228, .inl (upd (upd (upd ft 46 (nI an1)) 47 (nI an2)) 48 (nI an3))))] := hD
                refine lv_aload_n hx hb dX11_note_107 rfl (lv_at hl 1 rfl) ?_
                refine va_get (D := D) (ci := 11) (v := .ref to) (C := RX11) (T := TX11) (N := 18) hx hb hts iw11 hown hK hP 1 rfl rfl 0 (by decide) fw2 (fun _ h9 => h9) rfl dX11_note_108 ?_
                refine lv_iload hx hb dX11_note_111 (lv_at hl 0 rfl) ?_
                refine lv_iconst (v := 3) hx hb dX11_note_113 (by decide) ?_
                refine lv_iadd hx hb dX11_note_114 ?_
                rw [show (nI 46) + 3 = nI (49) from nI_add 46 3]
                refine lv_iload hx hb dX11_note_115 (lv_at hl 5 rfl) ?_
                refine va_iast hx hb hK hP hD hS 2 0 rfl rfl (vp_in_nI (by omega) (by decide)) dX11_note_117 (fun H locs hP hD hS => ?_)
                rw [nI_clamp (n := 49) (by omega)] at hP hD
                have hr57 : kr_t 228 (upd (upd (upd (upd ft 46 (nI an1)) 47 (nI an2)) 48 (nI an3)) 49 (nI an4)) := kr_up hr51 (kr_free (by unfold kr_a; omega) (by unfold kr_s; omega))
                have hk58 : (upd (upd (upd (upd ft 46 (nI an1)) 47 (nI an2)) 48 (nI an3)) 49 (nI an4)) 0 = (nI fi) := (pk_un (by decide)).trans hk52
                have hk59 : (upd (upd (upd (upd ft 46 (nI an1)) 47 (nI an2)) 48 (nI an3)) 49 (nI an4)) 1 = (nI gl) := (pk_un (by decide)).trans hk53
                have hk60 : (upd (upd (upd (upd ft 46 (nI an1)) 47 (nI an2)) 48 (nI an3)) 49 (nI an4)) 2 = (nI mi) := (pk_un (by decide)).trans hk54
                have hk61 : (upd (upd (upd (upd ft 46 (nI an1)) 47 (nI an2)) 48 (nI an3)) 49 (nI an4)) 3 = (nI 0) := (pk_un (by decide)).trans hk55
                have hk62 : (upd (upd (upd (upd ft 46 (nI an1)) 47 (nI an2)) 48 (nI an3)) 49 (nI an4)) 4 = (nI un) := (pk_un (by decide)).trans hk56
                have hP : va_P D vwCl [(mrf, .inl (y 0, 3, .inl frf)), (mo, .inr (11, [.ref to, .ref ke, .ref ik, .ref mrf, .long mab, .long mbl, .ref ha, .ref r0, .ref mbr, .ref mbp, .ref mby, .int (nI bl), .int (nI ta), .int (nI tl), .int (nI tk), .int vv, .ref an, .ref va])), (to, .inl (y 0, 228, .inl (upd (upd (upd (upd ft 46 (nI an1)) 47 (nI an2)) 48 (nI an3)) 49 (nI an4))))] H := hP
                have hD : va_D A [(mrf, .inl (y 0, 3, .inl frf)), (mo, .inr (11, [.ref to, .ref ke, .ref ik, .ref mrf, .long mab, .long mbl, .ref ha, .ref r0, .ref mbr, .ref mbp, .ref mby, .int (nI bl), .int (nI ta), .int (nI tl), .int (nI tk), .int vv, .ref an, .ref va])), (to, .inl (y 0, 228, .inl (upd (upd (upd (upd ft 46 (nI an1)) 47 (nI an2)) 48 (nI an3)) 49 (nI an4))))] := hD
                refine lv_aload_n hx hb dX11_note_118 rfl (lv_at hl 1 rfl) ?_
                refine va_get (D := D) (ci := 11) (v := .ref to) (C := RX11) (T := TX11) (N := 18) hx hb hts iw11 hown hK hP 1 rfl rfl 0 (by decide) fw2 (fun _ h9 => h9) rfl dX11_note_119 ?_
                refine lv_iload hx hb dX11_note_122 (lv_at hl 0 rfl) ?_
                refine lv_iconst (v := 4) hx hb dX11_note_124 (by decide) ?_
                refine lv_iadd hx hb dX11_note_125 ?_
                rw [show (nI 46) + 4 = nI (50) from nI_add 46 4]
                refine lv_iload hx hb dX11_note_126 (lv_at hl 6 rfl) ?_
                refine va_iast hx hb hK hP hD hS 2 0 rfl rfl (vp_in_nI (by omega) (by decide)) dX11_note_128 (fun H locs hP hD hS => ?_)
                rw [nI_clamp (n := 50) (by omega)] at hP hD
                have hr63 : kr_t 228 (upd (upd (upd (upd (upd ft 46 (nI an1)) 47 (nI an2)) 48 (nI an3)) 49 (nI an4)) 50 (nI an5)) := kr_up hr57 (kr_free (by unfold kr_a; omega) (by unfold kr_s; omega))
                have hk64 : (upd (upd (upd (upd (upd ft 46 (nI an1)) 47 (nI an2)) 48 (nI an3)) 49 (nI an4)) 50 (nI an5)) 0 = (nI fi) := (pk_un (by decide)).trans hk58
                have hk65 : (upd (upd (upd (upd (upd ft 46 (nI an1)) 47 (nI an2)) 48 (nI an3)) 49 (nI an4)) 50 (nI an5)) 1 = (nI gl) := (pk_un (by decide)).trans hk59
                have hk66 : (upd (upd (upd (upd (upd ft 46 (nI an1)) 47 (nI an2)) 48 (nI an3)) 49 (nI an4)) 50 (nI an5)) 2 = (nI mi) := (pk_un (by decide)).trans hk60
                have hk67 : (upd (upd (upd (upd (upd ft 46 (nI an1)) 47 (nI an2)) 48 (nI an3)) 49 (nI an4)) 50 (nI an5)) 3 = (nI 0) := (pk_un (by decide)).trans hk61
                have hk68 : (upd (upd (upd (upd (upd ft 46 (nI an1)) 47 (nI an2)) 48 (nI an3)) 49 (nI an4)) 50 (nI an5)) 4 = (nI un) := (pk_un (by decide)).trans hk62
                have hP : va_P D vwCl [(mrf, .inl (y 0, 3, .inl frf)), (mo, .inr (11, [.ref to, .ref ke, .ref ik, .ref mrf, .long mab, .long mbl, .ref ha, .ref r0, .ref mbr, .ref mbp, .ref mby, .int (nI bl), .int (nI ta), .int (nI tl), .int (nI tk), .int vv, .ref an, .ref va])), (to, .inl (y 0, 228, .inl (upd (upd (upd (upd (upd ft 46 (nI an1)) 47 (nI an2)) 48 (nI an3)) 49 (nI an4)) 50 (nI an5))))] H := hP
                have hD : va_D A [(mrf, .inl (y 0, 3, .inl frf)), (mo, .inr (11, [.ref to, .ref ke, .ref ik, .ref mrf, .long mab, .long mbl, .ref ha, .ref r0, .ref mbr, .ref mbp, .ref mby, .int (nI bl), .int (nI ta), .int (nI tl), .int (nI tk), .int vv, .ref an, .ref va])), (to, .inl (y 0, 228, .inl (upd (upd (upd (upd (upd ft 46 (nI an1)) 47 (nI an2)) 48 (nI an3)) 49 (nI an4)) 50 (nI an5))))] := hD
                refine lv_aload_n hx hb dX11_note_129 rfl (lv_at hl 1 rfl) ?_
                refine va_get (D := D) (ci := 11) (v := .ref to) (C := RX11) (T := TX11) (N := 18) hx hb hts iw11 hown hK hP 1 rfl rfl 0 (by decide) fw2 (fun _ h9 => h9) rfl dX11_note_130 ?_
                refine lv_iconst (v := 3) hx hb dX11_note_133 (by decide) ?_
                refine lv_dup2_11 hx hb dX11_note_134 rfl rfl ?_
                refine va_iald hx hb hK hP 2 0 rfl rfl (by unfold vp_in; decide) dX11_note_135 ?_
                rw [show ((3 : Int32)).toNatClampNeg = 3 from rfl]
                rw [show ((upd (upd (upd (upd (upd ft 46 (nI an1)) 47 (nI an2)) 48 (nI an3)) 49 (nI an4)) 50 (nI an5)) 3) = (nI 0) from hk67]
                refine lv_iconst (v := 1) hx hb dX11_note_136 (by decide) ?_
                refine lv_iadd hx hb dX11_note_137 ?_
                rw [show (nI 0) + 1 = nI (1) from nI_add 0 1]
                refine va_iast hx hb hK hP hD hS 2 0 rfl rfl (by unfold vp_in; decide) dX11_note_138 (fun H locs hP hD hS => ?_)
                rw [show ((3 : Int32)).toNatClampNeg = 3 from rfl] at hP hD
                have hr69 : kr_t 228 (upd (upd (upd (upd (upd (upd ft 46 (nI an1)) 47 (nI an2)) 48 (nI an3)) 49 (nI an4)) 50 (nI an5)) 3 (nI 1)) := kr_up hr63 (kr_free (by unfold kr_a; omega) (by unfold kr_s; omega))
                have hk70 : (upd (upd (upd (upd (upd (upd ft 46 (nI an1)) 47 (nI an2)) 48 (nI an3)) 49 (nI an4)) 50 (nI an5)) 3 (nI 1)) 0 = (nI fi) := (pk_un (by decide)).trans hk64
                have hk71 : (upd (upd (upd (upd (upd (upd ft 46 (nI an1)) 47 (nI an2)) 48 (nI an3)) 49 (nI an4)) 50 (nI an5)) 3 (nI 1)) 1 = (nI gl) := (pk_un (by decide)).trans hk65
                have hk72 : (upd (upd (upd (upd (upd (upd ft 46 (nI an1)) 47 (nI an2)) 48 (nI an3)) 49 (nI an4)) 50 (nI an5)) 3 (nI 1)) 2 = (nI mi) := (pk_un (by decide)).trans hk66
                have hk73 : (upd (upd (upd (upd (upd (upd ft 46 (nI an1)) 47 (nI an2)) 48 (nI an3)) 49 (nI an4)) 50 (nI an5)) 3 (nI 1)) 4 = (nI un) := (pk_un (by decide)).trans hk68
                have hk74 : (upd (upd (upd (upd (upd (upd ft 46 (nI an1)) 47 (nI an2)) 48 (nI an3)) 49 (nI an4)) 50 (nI an5)) 3 (nI 1)) 3 = (nI 1) := pk_us
                have hP : va_P D vwCl [(mrf, .inl (y 0, 3, .inl frf)), (mo, .inr (11, [.ref to, .ref ke, .ref ik, .ref mrf, .long mab, .long mbl, .ref ha, .ref r0, .ref mbr, .ref mbp, .ref mby, .int (nI bl), .int (nI ta), .int (nI tl), .int (nI tk), .int vv, .ref an, .ref va])), (to, .inl (y 0, 228, .inl (upd (upd (upd (upd (upd (upd ft 46 (nI an1)) 47 (nI an2)) 48 (nI an3)) 49 (nI an4)) 50 (nI an5)) 3 (nI 1))))] H := hP
                have hD : va_D A [(mrf, .inl (y 0, 3, .inl frf)), (mo, .inr (11, [.ref to, .ref ke, .ref ik, .ref mrf, .long mab, .long mbl, .ref ha, .ref r0, .ref mbr, .ref mbp, .ref mby, .int (nI bl), .int (nI ta), .int (nI tl), .int (nI tk), .int vv, .ref an, .ref va])), (to, .inl (y 0, 228, .inl (upd (upd (upd (upd (upd (upd ft 46 (nI an1)) 47 (nI an2)) 48 (nI an3)) 49 (nI an4)) 50 (nI an5)) 3 (nI 1))))] := hD
                refine lv_aload_n hx hb dX11_note_139 rfl (lv_at hl 1 rfl) ?_
                refine va_get (D := D) (ci := 11) (v := .ref to) (C := RX11) (T := TX11) (N := 18) hx hb hts iw11 hown hK hP 1 rfl rfl 0 (by decide) fw2 (fun _ h9 => h9) rfl dX11_note_140 ?_
                refine lv_iconst (v := 3) hx hb dX11_note_143 (by decide) ?_
                refine va_iald hx hb hK hP 2 0 rfl rfl (by unfold vp_in; decide) dX11_note_144 ?_
                rw [show ((3 : Int32)).toNatClampNeg = 3 from rfl]
                rw [show ((upd (upd (upd (upd (upd (upd ft 46 (nI an1)) 47 (nI an2)) 48 (nI an3)) 49 (nI an4)) 50 (nI an5)) 3 (nI 1)) 3) = (nI 1) from hk74]
                exact W.iret (v := (nI 1)) hx hb hr (fun tZ ht hW => ⟨⟨(nI 1), ((upd (upd (upd (upd (upd (upd ft 46 (nI an1)) 47 (nI an2)) 48 (nI an3)) 49 (nI an4)) 50 (nI an5)) 3 (nI 1))), rfl, ⟨hr69, hk70, hk71, hk72, hk74, hk73, by first | omega | (dsimp only; omega), rfl⟩, by rw [ht]; exact hP.sub [1, 0, 2] rfl, hD.sub [1, 0, 2] (by decide) rfl⟩, hS.F ht⟩) hS.2.2 dX11_note_145
              · skip
                refine lv_bipush (v := 46) hx hb dX11_note_66 (by decide) ?_
                refine lv_iconst (v := 5) hx hb dX11_note_68 (by decide) ?_
                refine lv_aload_n hx hb dX11_note_69 rfl (lv_at hl 0 rfl) ?_
                refine va_get (D := D) (ci := 11) (v := .ref to) (C := RX11) (T := TX11) (N := 18) hx hb hts iw11 hown hK hP 1 rfl rfl 0 (by decide) fw2 (fun _ h9 => h9) rfl dX11_note_70 ?_
                refine lv_iconst (v := 3) hx hb dX11_note_73 (by decide) ?_
                refine va_iald hx hb hK hP 2 0 rfl rfl (by unfold vp_in; decide) dX11_note_74 ?_
                rw [show ((3 : Int32)).toNatClampNeg = 3 from rfl]
                rw [show (ft 3) = (nI 1) from hk3_]
                refine lv_imul hx hb dX11_note_75 ?_
                rw [show 5 * (nI 1) = nI (5) from pk_mul 5 1]
                refine lv_iadd hx hb dX11_note_76 ?_
                rw [show 46 + (nI 5) = nI (51) from nI_add 46 5]
                refine lv_istore (lv' := [(6, .int (nI 51)), (0, .ref mo), (1, .int (nI an1)), (2, .int (nI an2)), (3, .int (nI an3)), (4, .int (nI an4)), (5, .int (nI an5))]) hx hb dX11_note_77 hl (by decide) rfl (fun ls hl => ?_)
                refine lv_aload_n hx hb dX11_note_79 rfl (lv_at hl 1 rfl) ?_
                refine va_get (D := D) (ci := 11) (v := .ref to) (C := RX11) (T := TX11) (N := 18) hx hb hts iw11 hown hK hP 1 rfl rfl 0 (by decide) fw2 (fun _ h9 => h9) rfl dX11_note_80 ?_
                refine lv_iload hx hb dX11_note_83 (lv_at hl 0 rfl) ?_
                refine lv_iload_n hx hb dX11_note_85 rfl (lv_at hl 2 rfl) ?_
                refine va_iast hx hb hK hP hD hS 2 0 rfl rfl (vp_in_nI (by omega) (by decide)) dX11_note_86 (fun H locs hP hD hS => ?_)
                rw [nI_clamp (n := 51) (by omega)] at hP hD
                have hr75 : kr_t 228 (upd ft 51 (nI an1)) := kr_up hkt (kr_free (by unfold kr_a; omega) (by unfold kr_s; omega))
                have hk76 : (upd ft 51 (nI an1)) 0 = (nI fi) := (pk_un (by decide)).trans hk0_
                have hk77 : (upd ft 51 (nI an1)) 1 = (nI gl) := (pk_un (by decide)).trans hk1_
                have hk78 : (upd ft 51 (nI an1)) 2 = (nI mi) := (pk_un (by decide)).trans hk2_
                have hk79 : (upd ft 51 (nI an1)) 3 = (nI 1) := (pk_un (by decide)).trans hk3_
                have hk80 : (upd ft 51 (nI an1)) 4 = (nI un) := (pk_un (by decide)).trans hk4_
                have hP : va_P D vwCl [(mrf, .inl (y 0, 3, .inl frf)), (mo, .inr (11, [.ref to, .ref ke, .ref ik, .ref mrf, .long mab, .long mbl, .ref ha, .ref r0, .ref mbr, .ref mbp, .ref mby, .int (nI bl), .int (nI ta), .int (nI tl), .int (nI tk), .int vv, .ref an, .ref va])), (to, .inl (y 0, 228, .inl (upd ft 51 (nI an1))))] H := hP
                have hD : va_D A [(mrf, .inl (y 0, 3, .inl frf)), (mo, .inr (11, [.ref to, .ref ke, .ref ik, .ref mrf, .long mab, .long mbl, .ref ha, .ref r0, .ref mbr, .ref mbp, .ref mby, .int (nI bl), .int (nI ta), .int (nI tl), .int (nI tk), .int vv, .ref an, .ref va])), (to, .inl (y 0, 228, .inl (upd ft 51 (nI an1))))] := hD
                refine lv_aload_n hx hb dX11_note_87 rfl (lv_at hl 1 rfl) ?_
                refine va_get (D := D) (ci := 11) (v := .ref to) (C := RX11) (T := TX11) (N := 18) hx hb hts iw11 hown hK hP 1 rfl rfl 0 (by decide) fw2 (fun _ h9 => h9) rfl dX11_note_88 ?_
                refine lv_iload hx hb dX11_note_91 (lv_at hl 0 rfl) ?_
                refine lv_iconst (v := 1) hx hb dX11_note_93 (by decide) ?_
                refine lv_iadd hx hb dX11_note_94 ?_
                rw [show (nI 51) + 1 = nI (52) from nI_add 51 1]
                refine lv_iload_n hx hb dX11_note_95 rfl (lv_at hl 3 rfl) ?_
                refine va_iast hx hb hK hP hD hS 2 0 rfl rfl (vp_in_nI (by omega) (by decide)) dX11_note_96 (fun H locs hP hD hS => ?_)
                rw [nI_clamp (n := 52) (by omega)] at hP hD
                have hr81 : kr_t 228 (upd (upd ft 51 (nI an1)) 52 (nI an2)) := kr_up hr75 (kr_free (by unfold kr_a; omega) (by unfold kr_s; omega))
                have hk82 : (upd (upd ft 51 (nI an1)) 52 (nI an2)) 0 = (nI fi) := (pk_un (by decide)).trans hk76
                have hk83 : (upd (upd ft 51 (nI an1)) 52 (nI an2)) 1 = (nI gl) := (pk_un (by decide)).trans hk77
                have hk84 : (upd (upd ft 51 (nI an1)) 52 (nI an2)) 2 = (nI mi) := (pk_un (by decide)).trans hk78
                have hk85 : (upd (upd ft 51 (nI an1)) 52 (nI an2)) 3 = (nI 1) := (pk_un (by decide)).trans hk79
                have hk86 : (upd (upd ft 51 (nI an1)) 52 (nI an2)) 4 = (nI un) := (pk_un (by decide)).trans hk80
                have hP : va_P D vwCl [(mrf, .inl (y 0, 3, .inl frf)), (mo, .inr (11, [.ref to, .ref ke, .ref ik, .ref mrf, .long mab, .long mbl, .ref ha, .ref r0, .ref mbr, .ref mbp, .ref mby, .int (nI bl), .int (nI ta), .int (nI tl), .int (nI tk), .int vv, .ref an, .ref va])), (to, .inl (y 0, 228, .inl (upd (upd ft 51 (nI an1)) 52 (nI an2))))] H := hP
                have hD : va_D A [(mrf, .inl (y 0, 3, .inl frf)), (mo, .inr (11, [.ref to, .ref ke, .ref ik, .ref mrf, .long mab, .long mbl, .ref ha, .ref r0, .ref mbr, .ref mbp, .ref mby, .int (nI bl), .int (nI ta), .int (nI tl), .int (nI tk), .int vv, .ref an, .ref va])), (to, .inl (y 0, 228, .inl (upd (upd ft 51 (nI an1)) 52 (nI an2))))] := hD
                refine lv_aload_n hx hb dX11_note_97 rfl (lv_at hl 1 rfl) ?_
                refine va_get (D := D) (ci := 11) (v := .ref to) (C := RX11) (T := TX11) (N := 18) hx hb hts iw11 hown hK hP 1 rfl rfl 0 (by decide) fw2 (fun _ h9 => h9) rfl dX11_note_98 ?_
                refine lv_iload hx hb dX11_note_101 (lv_at hl 0 rfl) ?_
                refine lv_iconst (v := 2) hx hb dX11_note_103 (by decide) ?_
                refine lv_iadd hx hb dX11_note_104 ?_
                rw [show (nI 51) + 2 = nI (53) from nI_add 51 2]
                refine lv_iload_n hx hb dX11_note_105 rfl (lv_at hl 4 rfl) ?_
                refine va_iast hx hb hK hP hD hS 2 0 rfl rfl (vp_in_nI (by omega) (by decide)) dX11_note_106 (fun H locs hP hD hS => ?_)
                rw [nI_clamp (n := 53) (by omega)] at hP hD
                have hr87 : kr_t 228 (upd (upd (upd ft 51 (nI an1)) 52 (nI an2)) 53 (nI an3)) := kr_up hr81 (kr_free (by unfold kr_a; omega) (by unfold kr_s; omega))
                have hk88 : (upd (upd (upd ft 51 (nI an1)) 52 (nI an2)) 53 (nI an3)) 0 = (nI fi) := (pk_un (by decide)).trans hk82
                have hk89 : (upd (upd (upd ft 51 (nI an1)) 52 (nI an2)) 53 (nI an3)) 1 = (nI gl) := (pk_un (by decide)).trans hk83
                have hk90 : (upd (upd (upd ft 51 (nI an1)) 52 (nI an2)) 53 (nI an3)) 2 = (nI mi) := (pk_un (by decide)).trans hk84
                have hk91 : (upd (upd (upd ft 51 (nI an1)) 52 (nI an2)) 53 (nI an3)) 3 = (nI 1) := (pk_un (by decide)).trans hk85
                have hk92 : (upd (upd (upd ft 51 (nI an1)) 52 (nI an2)) 53 (nI an3)) 4 = (nI un) := (pk_un (by decide)).trans hk86
                have hP : va_P D vwCl [(mrf, .inl (y 0, 3, .inl frf)), (mo, .inr (11, [.ref to, .ref ke, .ref ik, .ref mrf, .long mab, .long mbl, .ref ha, .ref r0, .ref mbr, .ref mbp, .ref mby, .int (nI bl), .int (nI ta), .int (nI tl), .int (nI tk), .int vv, .ref an, .ref va])), (to, .inl (y 0, 228, .inl (upd (upd (upd ft 51 (nI an1)) 52 (nI an2)) 53 (nI an3))))] H := hP
                have hD : va_D A [(mrf, .inl (y 0, 3, .inl frf)), (mo, .inr (11, [.ref to, .ref ke, .ref ik, .ref mrf, .long mab, .long mbl, .ref ha, .ref r0, .ref mbr, .ref mbp, .ref mby, .int (nI bl), .int (nI ta), .int (nI tl), .int (nI tk), .int vv, .ref an, .ref va])), (to, .inl (y 0, 228, .inl (upd (upd (upd ft 51 (nI an1)) 52 (nI an2)) 53 (nI an3))))] := hD
                refine lv_aload_n hx hb dX11_note_107 rfl (lv_at hl 1 rfl) ?_
                refine va_get (D := D) (ci := 11) (v := .ref to) (C := RX11) (T := TX11) (N := 18) hx hb hts iw11 hown hK hP 1 rfl rfl 0 (by decide) fw2 (fun _ h9 => h9) rfl dX11_note_108 ?_
                refine lv_iload hx hb dX11_note_111 (lv_at hl 0 rfl) ?_
                refine lv_iconst (v := 3) hx hb dX11_note_113 (by decide) ?_
                refine lv_iadd hx hb dX11_note_114 ?_
                rw [show (nI 51) + 3 = nI (54) from nI_add 51 3]
                refine lv_iload hx hb dX11_note_115 (lv_at hl 5 rfl) ?_
                refine va_iast hx hb hK hP hD hS 2 0 rfl rfl (vp_in_nI (by omega) (by decide)) dX11_note_117 (fun H locs hP hD hS => ?_)
                rw [nI_clamp (n := 54) (by omega)] at hP hD
                have hr93 : kr_t 228 (upd (upd (upd (upd ft 51 (nI an1)) 52 (nI an2)) 53 (nI an3)) 54 (nI an4)) := kr_up hr87 (kr_free (by unfold kr_a; omega) (by unfold kr_s; omega))
                have hk94 : (upd (upd (upd (upd ft 51 (nI an1)) 52 (nI an2)) 53 (nI an3)) 54 (nI an4)) 0 = (nI fi) := (pk_un (by decide)).trans hk88
                have hk95 : (upd (upd (upd (upd ft 51 (nI an1)) 52 (nI an2)) 53 (nI an3)) 54 (nI an4)) 1 = (nI gl) := (pk_un (by decide)).trans hk89
                have hk96 : (upd (upd (upd (upd ft 51 (nI an1)) 52 (nI an2)) 53 (nI an3)) 54 (nI an4)) 2 = (nI mi) := (pk_un (by decide)).trans hk90
                have hk97 : (upd (upd (upd (upd ft 51 (nI an1)) 52 (nI an2)) 53 (nI an3)) 54 (nI an4)) 3 = (nI 1) := (pk_un (by decide)).trans hk91
                have hk98 : (upd (upd (upd (upd ft 51 (nI an1)) 52 (nI an2)) 53 (nI an3)) 54 (nI an4)) 4 = (nI un) := (pk_un (by decide)).trans hk92
                have hP : va_P D vwCl [(mrf, .inl (y 0, 3, .inl frf)), (mo, .inr (11, [.ref to, .ref ke, .ref ik, .ref mrf, .long mab, .long mbl, .ref ha, .ref r0, .ref mbr, .ref mbp, .ref mby, .int (nI bl), .int (nI ta), .int (nI tl), .int (nI tk), .int vv, .ref an, .ref va])), (to, .inl (y 0, 228, .inl (upd (upd (upd (upd ft 51 (nI an1)) 52 (nI an2)) 53 (nI an3)) 54 (nI an4))))] H := hP
                have hD : va_D A [(mrf, .inl (y 0, 3, .inl frf)), (mo, .inr (11, [.ref to, .ref ke, .ref ik, .ref mrf, .long mab, .long mbl, .ref ha, .ref r0, .ref mbr, .ref mbp, .ref mby, .int (nI bl), .int (nI ta), .int (nI tl), .int (nI tk), .int vv, .ref an, .ref va])), (to, .inl (y 0, 228, .inl (upd (upd (upd (upd ft 51 (nI an1)) 52 (nI an2)) 53 (nI an3)) 54 (nI an4))))] := hD
                refine lv_aload_n hx hb dX11_note_118 rfl (lv_at hl 1 rfl) ?_
                refine va_get (D := D) (ci := 11) (v := .ref to) (C := RX11) (T := TX11) (N := 18) hx hb hts iw11 hown hK hP 1 rfl rfl 0 (by decide) fw2 (fun _ h9 => h9) rfl dX11_note_119 ?_
                refine lv_iload hx hb dX11_note_122 (lv_at hl 0 rfl) ?_
                refine lv_iconst (v := 4) hx hb dX11_note_124 (by decide) ?_
                refine lv_iadd hx hb dX11_note_125 ?_
                rw [show (nI 51) + 4 = nI (55) from nI_add 51 4]
                refine lv_iload hx hb dX11_note_126 (lv_at hl 6 rfl) ?_
                refine va_iast hx hb hK hP hD hS 2 0 rfl rfl (vp_in_nI (by omega) (by decide)) dX11_note_128 (fun H locs hP hD hS => ?_)
                rw [nI_clamp (n := 55) (by omega)] at hP hD
                have hr99 : kr_t 228 (upd (upd (upd (upd (upd ft 51 (nI an1)) 52 (nI an2)) 53 (nI an3)) 54 (nI an4)) 55 (nI an5)) := kr_up hr93 (kr_free (by unfold kr_a; omega) (by unfold kr_s; omega))
                have hk100 : (upd (upd (upd (upd (upd ft 51 (nI an1)) 52 (nI an2)) 53 (nI an3)) 54 (nI an4)) 55 (nI an5)) 0 = (nI fi) := (pk_un (by decide)).trans hk94
                have hk101 : (upd (upd (upd (upd (upd ft 51 (nI an1)) 52 (nI an2)) 53 (nI an3)) 54 (nI an4)) 55 (nI an5)) 1 = (nI gl) := (pk_un (by decide)).trans hk95
                have hk102 : (upd (upd (upd (upd (upd ft 51 (nI an1)) 52 (nI an2)) 53 (nI an3)) 54 (nI an4)) 55 (nI an5)) 2 = (nI mi) := (pk_un (by decide)).trans hk96
                have hk103 : (upd (upd (upd (upd (upd ft 51 (nI an1)) 52 (nI an2)) 53 (nI an3)) 54 (nI an4)) 55 (nI an5)) 3 = (nI 1) := (pk_un (by decide)).trans hk97
                have hk104 : (upd (upd (upd (upd (upd ft 51 (nI an1)) 52 (nI an2)) 53 (nI an3)) 54 (nI an4)) 55 (nI an5)) 4 = (nI un) := (pk_un (by decide)).trans hk98
                have hP : va_P D vwCl [(mrf, .inl (y 0, 3, .inl frf)), (mo, .inr (11, [.ref to, .ref ke, .ref ik, .ref mrf, .long mab, .long mbl, .ref ha, .ref r0, .ref mbr, .ref mbp, .ref mby, .int (nI bl), .int (nI ta), .int (nI tl), .int (nI tk), .int vv, .ref an, .ref va])), (to, .inl (y 0, 228, .inl (upd (upd (upd (upd (upd ft 51 (nI an1)) 52 (nI an2)) 53 (nI an3)) 54 (nI an4)) 55 (nI an5))))] H := hP
                have hD : va_D A [(mrf, .inl (y 0, 3, .inl frf)), (mo, .inr (11, [.ref to, .ref ke, .ref ik, .ref mrf, .long mab, .long mbl, .ref ha, .ref r0, .ref mbr, .ref mbp, .ref mby, .int (nI bl), .int (nI ta), .int (nI tl), .int (nI tk), .int vv, .ref an, .ref va])), (to, .inl (y 0, 228, .inl (upd (upd (upd (upd (upd ft 51 (nI an1)) 52 (nI an2)) 53 (nI an3)) 54 (nI an4)) 55 (nI an5))))] := hD
                refine lv_aload_n hx hb dX11_note_129 rfl (lv_at hl 1 rfl) ?_
                refine va_get (D := D) (ci := 11) (v := .ref to) (C := RX11) (T := TX11) (N := 18) hx hb hts iw11 hown hK hP 1 rfl rfl 0 (by decide) fw2 (fun _ h9 => h9) rfl dX11_note_130 ?_
                refine lv_iconst (v := 3) hx hb dX11_note_133 (by decide) ?_
                refine lv_dup2_11 hx hb dX11_note_134 rfl rfl ?_
                refine va_iald hx hb hK hP 2 0 rfl rfl (by unfold vp_in; decide) dX11_note_135 ?_
                rw [show ((3 : Int32)).toNatClampNeg = 3 from rfl]
                rw [show ((upd (upd (upd (upd (upd ft 51 (nI an1)) 52 (nI an2)) 53 (nI an3)) 54 (nI an4)) 55 (nI an5)) 3) = (nI 1) from hk103]
                refine lv_iconst (v := 1) hx hb dX11_note_136 (by decide) ?_
                refine lv_iadd hx hb dX11_note_137 ?_
                rw [show (nI 1) + 1 = nI (2) from nI_add 1 1]
                refine va_iast hx hb hK hP hD hS 2 0 rfl rfl (by unfold vp_in; decide) dX11_note_138 (fun H locs hP hD hS => ?_)
                rw [show ((3 : Int32)).toNatClampNeg = 3 from rfl] at hP hD
                have hr105 : kr_t 228 (upd (upd (upd (upd (upd (upd ft 51 (nI an1)) 52 (nI an2)) 53 (nI an3)) 54 (nI an4)) 55 (nI an5)) 3 (nI 2)) := kr_up hr99 (kr_free (by unfold kr_a; omega) (by unfold kr_s; omega))
                have hk106 : (upd (upd (upd (upd (upd (upd ft 51 (nI an1)) 52 (nI an2)) 53 (nI an3)) 54 (nI an4)) 55 (nI an5)) 3 (nI 2)) 0 = (nI fi) := (pk_un (by decide)).trans hk100
                have hk107 : (upd (upd (upd (upd (upd (upd ft 51 (nI an1)) 52 (nI an2)) 53 (nI an3)) 54 (nI an4)) 55 (nI an5)) 3 (nI 2)) 1 = (nI gl) := (pk_un (by decide)).trans hk101
                have hk108 : (upd (upd (upd (upd (upd (upd ft 51 (nI an1)) 52 (nI an2)) 53 (nI an3)) 54 (nI an4)) 55 (nI an5)) 3 (nI 2)) 2 = (nI mi) := (pk_un (by decide)).trans hk102
                have hk109 : (upd (upd (upd (upd (upd (upd ft 51 (nI an1)) 52 (nI an2)) 53 (nI an3)) 54 (nI an4)) 55 (nI an5)) 3 (nI 2)) 4 = (nI un) := (pk_un (by decide)).trans hk104
                have hk110 : (upd (upd (upd (upd (upd (upd ft 51 (nI an1)) 52 (nI an2)) 53 (nI an3)) 54 (nI an4)) 55 (nI an5)) 3 (nI 2)) 3 = (nI 2) := pk_us
                have hP : va_P D vwCl [(mrf, .inl (y 0, 3, .inl frf)), (mo, .inr (11, [.ref to, .ref ke, .ref ik, .ref mrf, .long mab, .long mbl, .ref ha, .ref r0, .ref mbr, .ref mbp, .ref mby, .int (nI bl), .int (nI ta), .int (nI tl), .int (nI tk), .int vv, .ref an, .ref va])), (to, .inl (y 0, 228, .inl (upd (upd (upd (upd (upd (upd ft 51 (nI an1)) 52 (nI an2)) 53 (nI an3)) 54 (nI an4)) 55 (nI an5)) 3 (nI 2))))] H := hP
                have hD : va_D A [(mrf, .inl (y 0, 3, .inl frf)), (mo, .inr (11, [.ref to, .ref ke, .ref ik, .ref mrf, .long mab, .long mbl, .ref ha, .ref r0, .ref mbr, .ref mbp, .ref mby, .int (nI bl), .int (nI ta), .int (nI tl), .int (nI tk), .int vv, .ref an, .ref va])), (to, .inl (y 0, 228, .inl (upd (upd (upd (upd (upd (upd ft 51 (nI an1)) 52 (nI an2)) 53 (nI an3)) 54 (nI an4)) 55 (nI an5)) 3 (nI 2))))] := hD
                refine lv_aload_n hx hb dX11_note_139 rfl (lv_at hl 1 rfl) ?_
                refine va_get (D := D) (ci := 11) (v := .ref to) (C := RX11) (T := TX11) (N := 18) hx hb hts iw11 hown hK hP 1 rfl rfl 0 (by decide) fw2 (fun _ h9 => h9) rfl dX11_note_140 ?_
                refine lv_iconst (v := 3) hx hb dX11_note_143 (by decide) ?_
                refine va_iald hx hb hK hP 2 0 rfl rfl (by unfold vp_in; decide) dX11_note_144 ?_
                rw [show ((3 : Int32)).toNatClampNeg = 3 from rfl]
                rw [show ((upd (upd (upd (upd (upd (upd ft 51 (nI an1)) 52 (nI an2)) 53 (nI an3)) 54 (nI an4)) 55 (nI an5)) 3 (nI 2)) 3) = (nI 2) from hk110]
                exact W.iret (v := (nI 2)) hx hb hr (fun tZ ht hW => ⟨⟨(nI 2), ((upd (upd (upd (upd (upd (upd ft 51 (nI an1)) 52 (nI an2)) 53 (nI an3)) 54 (nI an4)) 55 (nI an5)) 3 (nI 2))), rfl, ⟨hr105, hk106, hk107, hk108, hk110, hk109, by first | omega | (dsimp only; omega), rfl⟩, by rw [ht]; exact hP.sub [1, 0, 2] rfl, hD.sub [1, 0, 2] (by decide) rfl⟩, hS.F ht⟩) hS.2.2 dX11_note_145
              · skip
                refine lv_bipush (v := 46) hx hb dX11_note_66 (by decide) ?_
                refine lv_iconst (v := 5) hx hb dX11_note_68 (by decide) ?_
                refine lv_aload_n hx hb dX11_note_69 rfl (lv_at hl 0 rfl) ?_
                refine va_get (D := D) (ci := 11) (v := .ref to) (C := RX11) (T := TX11) (N := 18) hx hb hts iw11 hown hK hP 1 rfl rfl 0 (by decide) fw2 (fun _ h9 => h9) rfl dX11_note_70 ?_
                refine lv_iconst (v := 3) hx hb dX11_note_73 (by decide) ?_
                refine va_iald hx hb hK hP 2 0 rfl rfl (by unfold vp_in; decide) dX11_note_74 ?_
                rw [show ((3 : Int32)).toNatClampNeg = 3 from rfl]
                rw [show (ft 3) = (nI 2) from hk3_]
                refine lv_imul hx hb dX11_note_75 ?_
                rw [show 5 * (nI 2) = nI (10) from pk_mul 5 2]
                refine lv_iadd hx hb dX11_note_76 ?_
                rw [show 46 + (nI 10) = nI (56) from nI_add 46 10]
                refine lv_istore (lv' := [(6, .int (nI 56)), (0, .ref mo), (1, .int (nI an1)), (2, .int (nI an2)), (3, .int (nI an3)), (4, .int (nI an4)), (5, .int (nI an5))]) hx hb dX11_note_77 hl (by decide) rfl (fun ls hl => ?_)
                refine lv_aload_n hx hb dX11_note_79 rfl (lv_at hl 1 rfl) ?_
                refine va_get (D := D) (ci := 11) (v := .ref to) (C := RX11) (T := TX11) (N := 18) hx hb hts iw11 hown hK hP 1 rfl rfl 0 (by decide) fw2 (fun _ h9 => h9) rfl dX11_note_80 ?_
                refine lv_iload hx hb dX11_note_83 (lv_at hl 0 rfl) ?_
                refine lv_iload_n hx hb dX11_note_85 rfl (lv_at hl 2 rfl) ?_
                refine va_iast hx hb hK hP hD hS 2 0 rfl rfl (vp_in_nI (by omega) (by decide)) dX11_note_86 (fun H locs hP hD hS => ?_)
                rw [nI_clamp (n := 56) (by omega)] at hP hD
                have hr111 : kr_t 228 (upd ft 56 (nI an1)) := kr_up hkt (kr_free (by unfold kr_a; omega) (by unfold kr_s; omega))
                have hk112 : (upd ft 56 (nI an1)) 0 = (nI fi) := (pk_un (by decide)).trans hk0_
                have hk113 : (upd ft 56 (nI an1)) 1 = (nI gl) := (pk_un (by decide)).trans hk1_
                have hk114 : (upd ft 56 (nI an1)) 2 = (nI mi) := (pk_un (by decide)).trans hk2_
                have hk115 : (upd ft 56 (nI an1)) 3 = (nI 2) := (pk_un (by decide)).trans hk3_
                have hk116 : (upd ft 56 (nI an1)) 4 = (nI un) := (pk_un (by decide)).trans hk4_
                have hP : va_P D vwCl [(mrf, .inl (y 0, 3, .inl frf)), (mo, .inr (11, [.ref to, .ref ke, .ref ik, .ref mrf, .long mab, .long mbl, .ref ha, .ref r0, .ref mbr, .ref mbp, .ref mby, .int (nI bl), .int (nI ta), .int (nI tl), .int (nI tk), .int vv, .ref an, .ref va])), (to, .inl (y 0, 228, .inl (upd ft 56 (nI an1))))] H := hP
                have hD : va_D A [(mrf, .inl (y 0, 3, .inl frf)), (mo, .inr (11, [.ref to, .ref ke, .ref ik, .ref mrf, .long mab, .long mbl, .ref ha, .ref r0, .ref mbr, .ref mbp, .ref mby, .int (nI bl), .int (nI ta), .int (nI tl), .int (nI tk), .int vv, .ref an, .ref va])), (to, .inl (y 0, 228, .inl (upd ft 56 (nI an1))))] := hD
                refine lv_aload_n hx hb dX11_note_87 rfl (lv_at hl 1 rfl) ?_
                refine va_get (D := D) (ci := 11) (v := .ref to) (C := RX11) (T := TX11) (N := 18) hx hb hts iw11 hown hK hP 1 rfl rfl 0 (by decide) fw2 (fun _ h9 => h9) rfl dX11_note_88 ?_
                refine lv_iload hx hb dX11_note_91 (lv_at hl 0 rfl) ?_
                refine lv_iconst (v := 1) hx hb dX11_note_93 (by decide) ?_
                refine lv_iadd hx hb dX11_note_94 ?_
                rw [show (nI 56) + 1 = nI (57) from nI_add 56 1]
                refine lv_iload_n hx hb dX11_note_95 rfl (lv_at hl 3 rfl) ?_
                refine va_iast hx hb hK hP hD hS 2 0 rfl rfl (vp_in_nI (by omega) (by decide)) dX11_note_96 (fun H locs hP hD hS => ?_)
                rw [nI_clamp (n := 57) (by omega)] at hP hD
                have hr117 : kr_t 228 (upd (upd ft 56 (nI an1)) 57 (nI an2)) := kr_up hr111 (kr_free (by unfold kr_a; omega) (by unfold kr_s; omega))
                have hk118 : (upd (upd ft 56 (nI an1)) 57 (nI an2)) 0 = (nI fi) := (pk_un (by decide)).trans hk112
                have hk119 : (upd (upd ft 56 (nI an1)) 57 (nI an2)) 1 = (nI gl) := (pk_un (by decide)).trans hk113
                have hk120 : (upd (upd ft 56 (nI an1)) 57 (nI an2)) 2 = (nI mi) := (pk_un (by decide)).trans hk114
                have hk121 : (upd (upd ft 56 (nI an1)) 57 (nI an2)) 3 = (nI 2) := (pk_un (by decide)).trans hk115
                have hk122 : (upd (upd ft 56 (nI an1)) 57 (nI an2)) 4 = (nI un) := (pk_un (by decide)).trans hk116
                have hP : va_P D vwCl [(mrf, .inl (y 0, 3, .inl frf)), (mo, .inr (11, [.ref to, .ref ke, .ref ik, .ref mrf, .long mab, .long mbl, .ref ha, .ref r0, .ref mbr, .ref mbp, .ref mby, .int (nI bl), .int (nI ta), .int (nI tl), .int (nI tk), .int vv, .ref an, .ref va])), (to, .inl (y 0, 228, .inl (upd (upd ft 56 (nI an1)) 57 (nI an2))))] H := hP
                have hD : va_D A [(mrf, .inl (y 0, 3, .inl frf)), (mo, .inr (11, [.ref to, .ref ke, .ref ik, .ref mrf, .long mab, .long mbl, .ref ha, .ref r0, .ref mbr, .ref mbp, .ref mby, .int (nI bl), .int (nI ta), .int (nI tl), .int (nI tk), .int vv, .ref an, .ref va])), (to, .inl (y 0, 228, .inl (upd (upd ft 56 (nI an1)) 57 (nI an2))))] := hD
                refine lv_aload_n hx hb dX11_note_97 rfl (lv_at hl 1 rfl) ?_
                refine va_get (D := D) (ci := 11) (v := .ref to) (C := RX11) (T := TX11) (N := 18) hx hb hts iw11 hown hK hP 1 rfl rfl 0 (by decide) fw2 (fun _ h9 => h9) rfl dX11_note_98 ?_
                refine lv_iload hx hb dX11_note_101 (lv_at hl 0 rfl) ?_
                refine lv_iconst (v := 2) hx hb dX11_note_103 (by decide) ?_
                refine lv_iadd hx hb dX11_note_104 ?_
                rw [show (nI 56) + 2 = nI (58) from nI_add 56 2]
                refine lv_iload_n hx hb dX11_note_105 rfl (lv_at hl 4 rfl) ?_
                refine va_iast hx hb hK hP hD hS 2 0 rfl rfl (vp_in_nI (by omega) (by decide)) dX11_note_106 (fun H locs hP hD hS => ?_)
                rw [nI_clamp (n := 58) (by omega)] at hP hD
                have hr123 : kr_t 228 (upd (upd (upd ft 56 (nI an1)) 57 (nI an2)) 58 (nI an3)) := kr_up hr117 (kr_free (by unfold kr_a; omega) (by unfold kr_s; omega))
                have hk124 : (upd (upd (upd ft 56 (nI an1)) 57 (nI an2)) 58 (nI an3)) 0 = (nI fi) := (pk_un (by decide)).trans hk118
                have hk125 : (upd (upd (upd ft 56 (nI an1)) 57 (nI an2)) 58 (nI an3)) 1 = (nI gl) := (pk_un (by decide)).trans hk119
                have hk126 : (upd (upd (upd ft 56 (nI an1)) 57 (nI an2)) 58 (nI an3)) 2 = (nI mi) := (pk_un (by decide)).trans hk120
                have hk127 : (upd (upd (upd ft 56 (nI an1)) 57 (nI an2)) 58 (nI an3)) 3 = (nI 2) := (pk_un (by decide)).trans hk121
                have hk128 : (upd (upd (upd ft 56 (nI an1)) 57 (nI an2)) 58 (nI an3)) 4 = (nI un) := (pk_un (by decide)).trans hk122
                have hP : va_P D vwCl [(mrf, .inl (y 0, 3, .inl frf)), (mo, .inr (11, [.ref to, .ref ke, .ref ik, .ref mrf, .long mab, .long mbl, .ref ha, .ref r0, .ref mbr, .ref mbp, .ref mby, .int (nI bl), .int (nI ta), .int (nI tl), .int (nI tk), .int vv, .ref an, .ref va])), (to, .inl (y 0, 228, .inl (upd (upd (upd ft 56 (nI an1)) 57 (nI an2)) 58 (nI an3))))] H := hP
                have hD : va_D A [(mrf, .inl (y 0, 3, .inl frf)), (mo, .inr (11, [.ref to, .ref ke, .ref ik, .ref mrf, .long mab, .long mbl, .ref ha, .ref r0, .ref mbr, .ref mbp, .ref mby, .int (nI bl), .int (nI ta), .int (nI tl), .int (nI tk), .int vv, .ref an, .ref va])), (to, .inl (y 0, 228, .inl (upd (upd (upd ft 56 (nI an1)) 57 (nI an2)) 58 (nI an3))))] := hD
                refine lv_aload_n hx hb dX11_note_107 rfl (lv_at hl 1 rfl) ?_
                refine va_get (D := D) (ci := 11) (v := .ref to) (C := RX11) (T := TX11) (N := 18) hx hb hts iw11 hown hK hP 1 rfl rfl 0 (by decide) fw2 (fun _ h9 => h9) rfl dX11_note_108 ?_
                refine lv_iload hx hb dX11_note_111 (lv_at hl 0 rfl) ?_
                refine lv_iconst (v := 3) hx hb dX11_note_113 (by decide) ?_
                refine lv_iadd hx hb dX11_note_114 ?_
                rw [show (nI 56) + 3 = nI (59) from nI_add 56 3]
                refine lv_iload hx hb dX11_note_115 (lv_at hl 5 rfl) ?_
                refine va_iast hx hb hK hP hD hS 2 0 rfl rfl (vp_in_nI (by omega) (by decide)) dX11_note_117 (fun H locs hP hD hS => ?_)
                rw [nI_clamp (n := 59) (by omega)] at hP hD
                have hr129 : kr_t 228 (upd (upd (upd (upd ft 56 (nI an1)) 57 (nI an2)) 58 (nI an3)) 59 (nI an4)) := kr_up hr123 (kr_free (by unfold kr_a; omega) (by unfold kr_s; omega))
                have hk130 : (upd (upd (upd (upd ft 56 (nI an1)) 57 (nI an2)) 58 (nI an3)) 59 (nI an4)) 0 = (nI fi) := (pk_un (by decide)).trans hk124
                have hk131 : (upd (upd (upd (upd ft 56 (nI an1)) 57 (nI an2)) 58 (nI an3)) 59 (nI an4)) 1 = (nI gl) := (pk_un (by decide)).trans hk125
                have hk132 : (upd (upd (upd (upd ft 56 (nI an1)) 57 (nI an2)) 58 (nI an3)) 59 (nI an4)) 2 = (nI mi) := (pk_un (by decide)).trans hk126
                have hk133 : (upd (upd (upd (upd ft 56 (nI an1)) 57 (nI an2)) 58 (nI an3)) 59 (nI an4)) 3 = (nI 2) := (pk_un (by decide)).trans hk127
                have hk134 : (upd (upd (upd (upd ft 56 (nI an1)) 57 (nI an2)) 58 (nI an3)) 59 (nI an4)) 4 = (nI un) := (pk_un (by decide)).trans hk128
                have hP : va_P D vwCl [(mrf, .inl (y 0, 3, .inl frf)), (mo, .inr (11, [.ref to, .ref ke, .ref ik, .ref mrf, .long mab, .long mbl, .ref ha, .ref r0, .ref mbr, .ref mbp, .ref mby, .int (nI bl), .int (nI ta), .int (nI tl), .int (nI tk), .int vv, .ref an, .ref va])), (to, .inl (y 0, 228, .inl (upd (upd (upd (upd ft 56 (nI an1)) 57 (nI an2)) 58 (nI an3)) 59 (nI an4))))] H := hP
                have hD : va_D A [(mrf, .inl (y 0, 3, .inl frf)), (mo, .inr (11, [.ref to, .ref ke, .ref ik, .ref mrf, .long mab, .long mbl, .ref ha, .ref r0, .ref mbr, .ref mbp, .ref mby, .int (nI bl), .int (nI ta), .int (nI tl), .int (nI tk), .int vv, .ref an, .ref va])), (to, .inl (y 0, 228, .inl (upd (upd (upd (upd ft 56 (nI an1)) 57 (nI an2)) 58 (nI an3)) 59 (nI an4))))] := hD
                refine lv_aload_n hx hb dX11_note_118 rfl (lv_at hl 1 rfl) ?_
                refine va_get (D := D) (ci := 11) (v := .ref to) (C := RX11) (T := TX11) (N := 18) hx hb hts iw11 hown hK hP 1 rfl rfl 0 (by decide) fw2 (fun _ h9 => h9) rfl dX11_note_119 ?_
                refine lv_iload hx hb dX11_note_122 (lv_at hl 0 rfl) ?_
                refine lv_iconst (v := 4) hx hb dX11_note_124 (by decide) ?_
                refine lv_iadd hx hb dX11_note_125 ?_
                rw [show (nI 56) + 4 = nI (60) from nI_add 56 4]
                refine lv_iload hx hb dX11_note_126 (lv_at hl 6 rfl) ?_
                refine va_iast hx hb hK hP hD hS 2 0 rfl rfl (vp_in_nI (by omega) (by decide)) dX11_note_128 (fun H locs hP hD hS => ?_)
                rw [nI_clamp (n := 60) (by omega)] at hP hD
                have hr135 : kr_t 228 (upd (upd (upd (upd (upd ft 56 (nI an1)) 57 (nI an2)) 58 (nI an3)) 59 (nI an4)) 60 (nI an5)) := kr_up hr129 (kr_free (by unfold kr_a; omega) (by unfold kr_s; omega))
                have hk136 : (upd (upd (upd (upd (upd ft 56 (nI an1)) 57 (nI an2)) 58 (nI an3)) 59 (nI an4)) 60 (nI an5)) 0 = (nI fi) := (pk_un (by decide)).trans hk130
                have hk137 : (upd (upd (upd (upd (upd ft 56 (nI an1)) 57 (nI an2)) 58 (nI an3)) 59 (nI an4)) 60 (nI an5)) 1 = (nI gl) := (pk_un (by decide)).trans hk131
                have hk138 : (upd (upd (upd (upd (upd ft 56 (nI an1)) 57 (nI an2)) 58 (nI an3)) 59 (nI an4)) 60 (nI an5)) 2 = (nI mi) := (pk_un (by decide)).trans hk132
                have hk139 : (upd (upd (upd (upd (upd ft 56 (nI an1)) 57 (nI an2)) 58 (nI an3)) 59 (nI an4)) 60 (nI an5)) 3 = (nI 2) := (pk_un (by decide)).trans hk133
                have hk140 : (upd (upd (upd (upd (upd ft 56 (nI an1)) 57 (nI an2)) 58 (nI an3)) 59 (nI an4)) 60 (nI an5)) 4 = (nI un) := (pk_un (by decide)).trans hk134
                have hP : va_P D vwCl [(mrf, .inl (y 0, 3, .inl frf)), (mo, .inr (11, [.ref to, .ref ke, .ref ik, .ref mrf, .long mab, .long mbl, .ref ha, .ref r0, .ref mbr, .ref mbp, .ref mby, .int (nI bl), .int (nI ta), .int (nI tl), .int (nI tk), .int vv, .ref an, .ref va])), (to, .inl (y 0, 228, .inl (upd (upd (upd (upd (upd ft 56 (nI an1)) 57 (nI an2)) 58 (nI an3)) 59 (nI an4)) 60 (nI an5))))] H := hP
                have hD : va_D A [(mrf, .inl (y 0, 3, .inl frf)), (mo, .inr (11, [.ref to, .ref ke, .ref ik, .ref mrf, .long mab, .long mbl, .ref ha, .ref r0, .ref mbr, .ref mbp, .ref mby, .int (nI bl), .int (nI ta), .int (nI tl), .int (nI tk), .int vv, .ref an, .ref va])), (to, .inl (y 0, 228, .inl (upd (upd (upd (upd (upd ft 56 (nI an1)) 57 (nI an2)) 58 (nI an3)) 59 (nI an4)) 60 (nI an5))))] := hD
                refine lv_aload_n hx hb dX11_note_129 rfl (lv_at hl 1 rfl) ?_
                refine va_get (D := D) (ci := 11) (v := .ref to) (C := RX11) (T := TX11) (N := 18) hx hb hts iw11 hown hK hP 1 rfl rfl 0 (by decide) fw2 (fun _ h9 => h9) rfl dX11_note_130 ?_
                refine lv_iconst (v := 3) hx hb dX11_note_133 (by decide) ?_
                refine lv_dup2_11 hx hb dX11_note_134 rfl rfl ?_
                refine va_iald hx hb hK hP 2 0 rfl rfl (by unfold vp_in; decide) dX11_note_135 ?_
                rw [show ((3 : Int32)).toNatClampNeg = 3 from rfl]
                rw [show ((upd (upd (upd (upd (upd ft 56 (nI an1)) 57 (nI an2)) 58 (nI an3)) 59 (nI an4)) 60 (nI an5)) 3) = (nI 2) from hk139]
                refine lv_iconst (v := 1) hx hb dX11_note_136 (by decide) ?_
                refine lv_iadd hx hb dX11_note_137 ?_
                rw [show (nI 2) + 1 = nI (3) from nI_add 2 1]
                refine va_iast hx hb hK hP hD hS 2 0 rfl rfl (by unfold vp_in; decide) dX11_note_138 (fun H locs hP hD hS => ?_)
                rw [show ((3 : Int32)).toNatClampNeg = 3 from rfl] at hP hD
                have hr141 : kr_t 228 (upd (upd (upd (upd (upd (upd ft 56 (nI an1)) 57 (nI an2)) 58 (nI an3)) 59 (nI an4)) 60 (nI an5)) 3 (nI 3)) := kr_up hr135 (kr_free (by unfold kr_a; omega) (by unfold kr_s; omega))
                have hk142 : (upd (upd (upd (upd (upd (upd ft 56 (nI an1)) 57 (nI an2)) 58 (nI an3)) 59 (nI an4)) 60 (nI an5)) 3 (nI 3)) 0 = (nI fi) := (pk_un (by decide)).trans hk136
                have hk143 : (upd (upd (upd (upd (upd (upd ft 56 (nI an1)) 57 (nI an2)) 58 (nI an3)) 59 (nI an4)) 60 (nI an5)) 3 (nI 3)) 1 = (nI gl) := (pk_un (by decide)).trans hk137
                have hk144 : (upd (upd (upd (upd (upd (upd ft 56 (nI an1)) 57 (nI an2)) 58 (nI an3)) 59 (nI an4)) 60 (nI an5)) 3 (nI 3)) 2 = (nI mi) := (pk_un (by decide)).trans hk138
                have hk145 : (upd (upd (upd (upd (upd (upd ft 56 (nI an1)) 57 (nI an2)) 58 (nI an3)) 59 (nI an4)) 60 (nI an5)) 3 (nI 3)) 4 = (nI un) := (pk_un (by decide)).trans hk140
                have hk146 : (upd (upd (upd (upd (upd (upd ft 56 (nI an1)) 57 (nI an2)) 58 (nI an3)) 59 (nI an4)) 60 (nI an5)) 3 (nI 3)) 3 = (nI 3) := pk_us
                have hP : va_P D vwCl [(mrf, .inl (y 0, 3, .inl frf)), (mo, .inr (11, [.ref to, .ref ke, .ref ik, .ref mrf, .long mab, .long mbl, .ref ha, .ref r0, .ref mbr, .ref mbp, .ref mby, .int (nI bl), .int (nI ta), .int (nI tl), .int (nI tk), .int vv, .ref an, .ref va])), (to, .inl (y 0, 228, .inl (upd (upd (upd (upd (upd (upd ft 56 (nI an1)) 57 (nI an2)) 58 (nI an3)) 59 (nI an4)) 60 (nI an5)) 3 (nI 3))))] H := hP
                have hD : va_D A [(mrf, .inl (y 0, 3, .inl frf)), (mo, .inr (11, [.ref to, .ref ke, .ref ik, .ref mrf, .long mab, .long mbl, .ref ha, .ref r0, .ref mbr, .ref mbp, .ref mby, .int (nI bl), .int (nI ta), .int (nI tl), .int (nI tk), .int vv, .ref an, .ref va])), (to, .inl (y 0, 228, .inl (upd (upd (upd (upd (upd (upd ft 56 (nI an1)) 57 (nI an2)) 58 (nI an3)) 59 (nI an4)) 60 (nI an5)) 3 (nI 3))))] := hD
                refine lv_aload_n hx hb dX11_note_139 rfl (lv_at hl 1 rfl) ?_
                refine va_get (D := D) (ci := 11) (v := .ref to) (C := RX11) (T := TX11) (N := 18) hx hb hts iw11 hown hK hP 1 rfl rfl 0 (by decide) fw2 (fun _ h9 => h9) rfl dX11_note_140 ?_
                refine lv_iconst (v := 3) hx hb dX11_note_143 (by decide) ?_
                refine va_iald hx hb hK hP 2 0 rfl rfl (by unfold vp_in; decide) dX11_note_144 ?_
                rw [show ((3 : Int32)).toNatClampNeg = 3 from rfl]
                rw [show ((upd (upd (upd (upd (upd (upd ft 56 (nI an1)) 57 (nI an2)) 58 (nI an3)) 59 (nI an4)) 60 (nI an5)) 3 (nI 3)) 3) = (nI 3) from hk146]
                exact W.iret (v := (nI 3)) hx hb hr (fun tZ ht hW => ⟨⟨(nI 3), ((upd (upd (upd (upd (upd (upd ft 56 (nI an1)) 57 (nI an2)) 58 (nI an3)) 59 (nI an4)) 60 (nI an5)) 3 (nI 3))), rfl, ⟨hr141, hk142, hk143, hk144, hk146, hk145, by first | omega | (dsimp only; omega), rfl⟩, by rw [ht]; exact hP.sub [1, 0, 2] rfl, hD.sub [1, 0, 2] (by decide) rfl⟩, hS.F ht⟩) hS.2.2 dX11_note_145
              · skip
                refine lv_bipush (v := 46) hx hb dX11_note_66 (by decide) ?_
                refine lv_iconst (v := 5) hx hb dX11_note_68 (by decide) ?_
                refine lv_aload_n hx hb dX11_note_69 rfl (lv_at hl 0 rfl) ?_
                refine va_get (D := D) (ci := 11) (v := .ref to) (C := RX11) (T := TX11) (N := 18) hx hb hts iw11 hown hK hP 1 rfl rfl 0 (by decide) fw2 (fun _ h9 => h9) rfl dX11_note_70 ?_
                refine lv_iconst (v := 3) hx hb dX11_note_73 (by decide) ?_
                refine va_iald hx hb hK hP 2 0 rfl rfl (by unfold vp_in; decide) dX11_note_74 ?_
                rw [show ((3 : Int32)).toNatClampNeg = 3 from rfl]
                rw [show (ft 3) = (nI 3) from hk3_]
                refine lv_imul hx hb dX11_note_75 ?_
                rw [show 5 * (nI 3) = nI (15) from pk_mul 5 3]
                refine lv_iadd hx hb dX11_note_76 ?_
                rw [show 46 + (nI 15) = nI (61) from nI_add 46 15]
                refine lv_istore (lv' := [(6, .int (nI 61)), (0, .ref mo), (1, .int (nI an1)), (2, .int (nI an2)), (3, .int (nI an3)), (4, .int (nI an4)), (5, .int (nI an5))]) hx hb dX11_note_77 hl (by decide) rfl (fun ls hl => ?_)
                refine lv_aload_n hx hb dX11_note_79 rfl (lv_at hl 1 rfl) ?_
                refine va_get (D := D) (ci := 11) (v := .ref to) (C := RX11) (T := TX11) (N := 18) hx hb hts iw11 hown hK hP 1 rfl rfl 0 (by decide) fw2 (fun _ h9 => h9) rfl dX11_note_80 ?_
                refine lv_iload hx hb dX11_note_83 (lv_at hl 0 rfl) ?_
                refine lv_iload_n hx hb dX11_note_85 rfl (lv_at hl 2 rfl) ?_
                refine va_iast hx hb hK hP hD hS 2 0 rfl rfl (vp_in_nI (by omega) (by decide)) dX11_note_86 (fun H locs hP hD hS => ?_)
                rw [nI_clamp (n := 61) (by omega)] at hP hD
                have hr147 : kr_t 228 (upd ft 61 (nI an1)) := kr_up hkt (kr_free (by unfold kr_a; omega) (by unfold kr_s; omega))
                have hk148 : (upd ft 61 (nI an1)) 0 = (nI fi) := (pk_un (by decide)).trans hk0_
                have hk149 : (upd ft 61 (nI an1)) 1 = (nI gl) := (pk_un (by decide)).trans hk1_
                have hk150 : (upd ft 61 (nI an1)) 2 = (nI mi) := (pk_un (by decide)).trans hk2_
                have hk151 : (upd ft 61 (nI an1)) 3 = (nI 3) := (pk_un (by decide)).trans hk3_
                have hk152 : (upd ft 61 (nI an1)) 4 = (nI un) := (pk_un (by decide)).trans hk4_
                have hP : va_P D vwCl [(mrf, .inl (y 0, 3, .inl frf)), (mo, .inr (11, [.ref to, .ref ke, .ref ik, .ref mrf, .long mab, .long mbl, .ref ha, .ref r0, .ref mbr, .ref mbp, .ref mby, .int (nI bl), .int (nI ta), .int (nI tl), .int (nI tk), .int vv, .ref an, .ref va])), (to, .inl (y 0, 228, .inl (upd ft 61 (nI an1))))] H := hP
                have hD : va_D A [(mrf, .inl (y 0, 3, .inl frf)), (mo, .inr (11, [.ref to, .ref ke, .ref ik, .ref mrf, .long mab, .long mbl, .ref ha, .ref r0, .ref mbr, .ref mbp, .ref mby, .int (nI bl), .int (nI ta), .int (nI tl), .int (nI tk), .int vv, .ref an, .ref va])), (to, .inl (y 0, 228, .inl (upd ft 61 (nI an1))))] := hD
                refine lv_aload_n hx hb dX11_note_87 rfl (lv_at hl 1 rfl) ?_
                refine va_get (D := D) (ci := 11) (v := .ref to) (C := RX11) (T := TX11) (N := 18) hx hb hts iw11 hown hK hP 1 rfl rfl 0 (by decide) fw2 (fun _ h9 => h9) rfl dX11_note_88 ?_
                refine lv_iload hx hb dX11_note_91 (lv_at hl 0 rfl) ?_
                refine lv_iconst (v := 1) hx hb dX11_note_93 (by decide) ?_
                refine lv_iadd hx hb dX11_note_94 ?_
                rw [show (nI 61) + 1 = nI (62) from nI_add 61 1]
                refine lv_iload_n hx hb dX11_note_95 rfl (lv_at hl 3 rfl) ?_
                refine va_iast hx hb hK hP hD hS 2 0 rfl rfl (vp_in_nI (by omega) (by decide)) dX11_note_96 (fun H locs hP hD hS => ?_)
                rw [nI_clamp (n := 62) (by omega)] at hP hD
                have hr153 : kr_t 228 (upd (upd ft 61 (nI an1)) 62 (nI an2)) := kr_up hr147 (kr_free (by unfold kr_a; omega) (by unfold kr_s; omega))
                have hk154 : (upd (upd ft 61 (nI an1)) 62 (nI an2)) 0 = (nI fi) := (pk_un (by decide)).trans hk148
                have hk155 : (upd (upd ft 61 (nI an1)) 62 (nI an2)) 1 = (nI gl) := (pk_un (by decide)).trans hk149
                have hk156 : (upd (upd ft 61 (nI an1)) 62 (nI an2)) 2 = (nI mi) := (pk_un (by decide)).trans hk150
                have hk157 : (upd (upd ft 61 (nI an1)) 62 (nI an2)) 3 = (nI 3) := (pk_un (by decide)).trans hk151
                have hk158 : (upd (upd ft 61 (nI an1)) 62 (nI an2)) 4 = (nI un) := (pk_un (by decide)).trans hk152
                have hP : va_P D vwCl [(mrf, .inl (y 0, 3, .inl frf)), (mo, .inr (11, [.ref to, .ref ke, .ref ik, .ref mrf, .long mab, .long mbl, .ref ha, .ref r0, .ref mbr, .ref mbp, .ref mby, .int (nI bl), .int (nI ta), .int (nI tl), .int (nI tk), .int vv, .ref an, .ref va])), (to, .inl (y 0, 228, .inl (upd (upd ft 61 (nI an1)) 62 (nI an2))))] H := hP
                have hD : va_D A [(mrf, .inl (y 0, 3, .inl frf)), (mo, .inr (11, [.ref to, .ref ke, .ref ik, .ref mrf, .long mab, .long mbl, .ref ha, .ref r0, .ref mbr, .ref mbp, .ref mby, .int (nI bl), .int (nI ta), .int (nI tl), .int (nI tk), .int vv, .ref an, .ref va])), (to, .inl (y 0, 228, .inl (upd (upd ft 61 (nI an1)) 62 (nI an2))))] := hD
                refine lv_aload_n hx hb dX11_note_97 rfl (lv_at hl 1 rfl) ?_
                refine va_get (D := D) (ci := 11) (v := .ref to) (C := RX11) (T := TX11) (N := 18) hx hb hts iw11 hown hK hP 1 rfl rfl 0 (by decide) fw2 (fun _ h9 => h9) rfl dX11_note_98 ?_
                refine lv_iload hx hb dX11_note_101 (lv_at hl 0 rfl) ?_
                refine lv_iconst (v := 2) hx hb dX11_note_103 (by decide) ?_
                refine lv_iadd hx hb dX11_note_104 ?_
                rw [show (nI 61) + 2 = nI (63) from nI_add 61 2]
                refine lv_iload_n hx hb dX11_note_105 rfl (lv_at hl 4 rfl) ?_
                refine va_iast hx hb hK hP hD hS 2 0 rfl rfl (vp_in_nI (by omega) (by decide)) dX11_note_106 (fun H locs hP hD hS => ?_)
                rw [nI_clamp (n := 63) (by omega)] at hP hD
                have hr159 : kr_t 228 (upd (upd (upd ft 61 (nI an1)) 62 (nI an2)) 63 (nI an3)) := kr_up hr153 (kr_free (by unfold kr_a; omega) (by unfold kr_s; omega))
                have hk160 : (upd (upd (upd ft 61 (nI an1)) 62 (nI an2)) 63 (nI an3)) 0 = (nI fi) := (pk_un (by decide)).trans hk154
                have hk161 : (upd (upd (upd ft 61 (nI an1)) 62 (nI an2)) 63 (nI an3)) 1 = (nI gl) := (pk_un (by decide)).trans hk155
                have hk162 : (upd (upd (upd ft 61 (nI an1)) 62 (nI an2)) 63 (nI an3)) 2 = (nI mi) := (pk_un (by decide)).trans hk156
                have hk163 : (upd (upd (upd ft 61 (nI an1)) 62 (nI an2)) 63 (nI an3)) 3 = (nI 3) := (pk_un (by decide)).trans hk157
                have hk164 : (upd (upd (upd ft 61 (nI an1)) 62 (nI an2)) 63 (nI an3)) 4 = (nI un) := (pk_un (by decide)).trans hk158
                have hP : va_P D vwCl [(mrf, .inl (y 0, 3, .inl frf)), (mo, .inr (11, [.ref to, .ref ke, .ref ik, .ref mrf, .long mab, .long mbl, .ref ha, .ref r0, .ref mbr, .ref mbp, .ref mby, .int (nI bl), .int (nI ta), .int (nI tl), .int (nI tk), .int vv, .ref an, .ref va])), (to, .inl (y 0, 228, .inl (upd (upd (upd ft 61 (nI an1)) 62 (nI an2)) 63 (nI an3))))] H := hP
                have hD : va_D A [(mrf, .inl (y 0, 3, .inl frf)), (mo, .inr (11, [.ref to, .ref ke, .ref ik, .ref mrf, .long mab, .long mbl, .ref ha, .ref r0, .ref mbr, .ref mbp, .ref mby, .int (nI bl), .int (nI ta), .int (nI tl), .int (nI tk), .int vv, .ref an, .ref va])), (to, .inl (y 0, 228, .inl (upd (upd (upd ft 61 (nI an1)) 62 (nI an2)) 63 (nI an3))))] := hD
                refine lv_aload_n hx hb dX11_note_107 rfl (lv_at hl 1 rfl) ?_
                refine va_get (D := D) (ci := 11) (v := .ref to) (C := RX11) (T := TX11) (N := 18) hx hb hts iw11 hown hK hP 1 rfl rfl 0 (by decide) fw2 (fun _ h9 => h9) rfl dX11_note_108 ?_
                refine lv_iload hx hb dX11_note_111 (lv_at hl 0 rfl) ?_
                refine lv_iconst (v := 3) hx hb dX11_note_113 (by decide) ?_
                refine lv_iadd hx hb dX11_note_114 ?_
                rw [show (nI 61) + 3 = nI (64) from nI_add 61 3]
                refine lv_iload hx hb dX11_note_115 (lv_at hl 5 rfl) ?_
                refine va_iast hx hb hK hP hD hS 2 0 rfl rfl (vp_in_nI (by omega) (by decide)) dX11_note_117 (fun H locs hP hD hS => ?_)
                rw [nI_clamp (n := 64) (by omega)] at hP hD
                have hr165 : kr_t 228 (upd (upd (upd (upd ft 61 (nI an1)) 62 (nI an2)) 63 (nI an3)) 64 (nI an4)) := kr_up hr159 (kr_free (by unfold kr_a; omega) (by unfold kr_s; omega))
                have hk166 : (upd (upd (upd (upd ft 61 (nI an1)) 62 (nI an2)) 63 (nI an3)) 64 (nI an4)) 0 = (nI fi) := (pk_un (by decide)).trans hk160
                have hk167 : (upd (upd (upd (upd ft 61 (nI an1)) 62 (nI an2)) 63 (nI an3)) 64 (nI an4)) 1 = (nI gl) := (pk_un (by decide)).trans hk161
                have hk168 : (upd (upd (upd (upd ft 61 (nI an1)) 62 (nI an2)) 63 (nI an3)) 64 (nI an4)) 2 = (nI mi) := (pk_un (by decide)).trans hk162
                have hk169 : (upd (upd (upd (upd ft 61 (nI an1)) 62 (nI an2)) 63 (nI an3)) 64 (nI an4)) 3 = (nI 3) := (pk_un (by decide)).trans hk163
                have hk170 : (upd (upd (upd (upd ft 61 (nI an1)) 62 (nI an2)) 63 (nI an3)) 64 (nI an4)) 4 = (nI un) := (pk_un (by decide)).trans hk164
                have hP : va_P D vwCl [(mrf, .inl (y 0, 3, .inl frf)), (mo, .inr (11, [.ref to, .ref ke, .ref ik, .ref mrf, .long mab, .long mbl, .ref ha, .ref r0, .ref mbr, .ref mbp, .ref mby, .int (nI bl), .int (nI ta), .int (nI tl), .int (nI tk), .int vv, .ref an, .ref va])), (to, .inl (y 0, 228, .inl (upd (upd (upd (upd ft 61 (nI an1)) 62 (nI an2)) 63 (nI an3)) 64 (nI an4))))] H := hP
                have hD : va_D A [(mrf, .inl (y 0, 3, .inl frf)), (mo, .inr (11, [.ref to, .ref ke, .ref ik, .ref mrf, .long mab, .long mbl, .ref ha, .ref r0, .ref mbr, .ref mbp, .ref mby, .int (nI bl), .int (nI ta), .int (nI tl), .int (nI tk), .int vv, .ref an, .ref va])), (to, .inl (y 0, 228, .inl (upd (upd (upd (upd ft 61 (nI an1)) 62 (nI an2)) 63 (nI an3)) 64 (nI an4))))] := hD
                refine lv_aload_n hx hb dX11_note_118 rfl (lv_at hl 1 rfl) ?_
                refine va_get (D := D) (ci := 11) (v := .ref to) (C := RX11) (T := TX11) (N := 18) hx hb hts iw11 hown hK hP 1 rfl rfl 0 (by decide) fw2 (fun _ h9 => h9) rfl dX11_note_119 ?_
                refine lv_iload hx hb dX11_note_122 (lv_at hl 0 rfl) ?_
                refine lv_iconst (v := 4) hx hb dX11_note_124 (by decide) ?_
                refine lv_iadd hx hb dX11_note_125 ?_
                rw [show (nI 61) + 4 = nI (65) from nI_add 61 4]
                refine lv_iload hx hb dX11_note_126 (lv_at hl 6 rfl) ?_
                refine va_iast hx hb hK hP hD hS 2 0 rfl rfl (vp_in_nI (by omega) (by decide)) dX11_note_128 (fun H locs hP hD hS => ?_)
                rw [nI_clamp (n := 65) (by omega)] at hP hD
                have hr171 : kr_t 228 (upd (upd (upd (upd (upd ft 61 (nI an1)) 62 (nI an2)) 63 (nI an3)) 64 (nI an4)) 65 (nI an5)) := kr_up hr165 (kr_free (by unfold kr_a; omega) (by unfold kr_s; omega))
                have hk172 : (upd (upd (upd (upd (upd ft 61 (nI an1)) 62 (nI an2)) 63 (nI an3)) 64 (nI an4)) 65 (nI an5)) 0 = (nI fi) := (pk_un (by decide)).trans hk166
                have hk173 : (upd (upd (upd (upd (upd ft 61 (nI an1)) 62 (nI an2)) 63 (nI an3)) 64 (nI an4)) 65 (nI an5)) 1 = (nI gl) := (pk_un (by decide)).trans hk167
                have hk174 : (upd (upd (upd (upd (upd ft 61 (nI an1)) 62 (nI an2)) 63 (nI an3)) 64 (nI an4)) 65 (nI an5)) 2 = (nI mi) := (pk_un (by decide)).trans hk168
                have hk175 : (upd (upd (upd (upd (upd ft 61 (nI an1)) 62 (nI an2)) 63 (nI an3)) 64 (nI an4)) 65 (nI an5)) 3 = (nI 3) := (pk_un (by decide)).trans hk169
                have hk176 : (upd (upd (upd (upd (upd ft 61 (nI an1)) 62 (nI an2)) 63 (nI an3)) 64 (nI an4)) 65 (nI an5)) 4 = (nI un) := (pk_un (by decide)).trans hk170
                have hP : va_P D vwCl [(mrf, .inl (y 0, 3, .inl frf)), (mo, .inr (11, [.ref to, .ref ke, .ref ik, .ref mrf, .long mab, .long mbl, .ref ha, .ref r0, .ref mbr, .ref mbp, .ref mby, .int (nI bl), .int (nI ta), .int (nI tl), .int (nI tk), .int vv, .ref an, .ref va])), (to, .inl (y 0, 228, .inl (upd (upd (upd (upd (upd ft 61 (nI an1)) 62 (nI an2)) 63 (nI an3)) 64 (nI an4)) 65 (nI an5))))] H := hP
                have hD : va_D A [(mrf, .inl (y 0, 3, .inl frf)), (mo, .inr (11, [.ref to, .ref ke, .ref ik, .ref mrf, .long mab, .long mbl, .ref ha, .ref r0, .ref mbr, .ref mbp, .ref mby, .int (nI bl), .int (nI ta), .int (nI tl), .int (nI tk), .int vv, .ref an, .ref va])), (to, .inl (y 0, 228, .inl (upd (upd (upd (upd (upd ft 61 (nI an1)) 62 (nI an2)) 63 (nI an3)) 64 (nI an4)) 65 (nI an5))))] := hD
                refine lv_aload_n hx hb dX11_note_129 rfl (lv_at hl 1 rfl) ?_
                refine va_get (D := D) (ci := 11) (v := .ref to) (C := RX11) (T := TX11) (N := 18) hx hb hts iw11 hown hK hP 1 rfl rfl 0 (by decide) fw2 (fun _ h9 => h9) rfl dX11_note_130 ?_
                refine lv_iconst (v := 3) hx hb dX11_note_133 (by decide) ?_
                refine lv_dup2_11 hx hb dX11_note_134 rfl rfl ?_
                refine va_iald hx hb hK hP 2 0 rfl rfl (by unfold vp_in; decide) dX11_note_135 ?_
                rw [show ((3 : Int32)).toNatClampNeg = 3 from rfl]
                rw [show ((upd (upd (upd (upd (upd ft 61 (nI an1)) 62 (nI an2)) 63 (nI an3)) 64 (nI an4)) 65 (nI an5)) 3) = (nI 3) from hk175]
                refine lv_iconst (v := 1) hx hb dX11_note_136 (by decide) ?_
                refine lv_iadd hx hb dX11_note_137 ?_
                rw [show (nI 3) + 1 = nI (4) from nI_add 3 1]
                refine va_iast hx hb hK hP hD hS 2 0 rfl rfl (by unfold vp_in; decide) dX11_note_138 (fun H locs hP hD hS => ?_)
                rw [show ((3 : Int32)).toNatClampNeg = 3 from rfl] at hP hD
                have hr177 : kr_t 228 (upd (upd (upd (upd (upd (upd ft 61 (nI an1)) 62 (nI an2)) 63 (nI an3)) 64 (nI an4)) 65 (nI an5)) 3 (nI 4)) := kr_up hr171 (kr_free (by unfold kr_a; omega) (by unfold kr_s; omega))
                have hk178 : (upd (upd (upd (upd (upd (upd ft 61 (nI an1)) 62 (nI an2)) 63 (nI an3)) 64 (nI an4)) 65 (nI an5)) 3 (nI 4)) 0 = (nI fi) := (pk_un (by decide)).trans hk172
                have hk179 : (upd (upd (upd (upd (upd (upd ft 61 (nI an1)) 62 (nI an2)) 63 (nI an3)) 64 (nI an4)) 65 (nI an5)) 3 (nI 4)) 1 = (nI gl) := (pk_un (by decide)).trans hk173
                have hk180 : (upd (upd (upd (upd (upd (upd ft 61 (nI an1)) 62 (nI an2)) 63 (nI an3)) 64 (nI an4)) 65 (nI an5)) 3 (nI 4)) 2 = (nI mi) := (pk_un (by decide)).trans hk174
                have hk181 : (upd (upd (upd (upd (upd (upd ft 61 (nI an1)) 62 (nI an2)) 63 (nI an3)) 64 (nI an4)) 65 (nI an5)) 3 (nI 4)) 4 = (nI un) := (pk_un (by decide)).trans hk176
                have hk182 : (upd (upd (upd (upd (upd (upd ft 61 (nI an1)) 62 (nI an2)) 63 (nI an3)) 64 (nI an4)) 65 (nI an5)) 3 (nI 4)) 3 = (nI 4) := pk_us
                have hP : va_P D vwCl [(mrf, .inl (y 0, 3, .inl frf)), (mo, .inr (11, [.ref to, .ref ke, .ref ik, .ref mrf, .long mab, .long mbl, .ref ha, .ref r0, .ref mbr, .ref mbp, .ref mby, .int (nI bl), .int (nI ta), .int (nI tl), .int (nI tk), .int vv, .ref an, .ref va])), (to, .inl (y 0, 228, .inl (upd (upd (upd (upd (upd (upd ft 61 (nI an1)) 62 (nI an2)) 63 (nI an3)) 64 (nI an4)) 65 (nI an5)) 3 (nI 4))))] H := hP
                have hD : va_D A [(mrf, .inl (y 0, 3, .inl frf)), (mo, .inr (11, [.ref to, .ref ke, .ref ik, .ref mrf, .long mab, .long mbl, .ref ha, .ref r0, .ref mbr, .ref mbp, .ref mby, .int (nI bl), .int (nI ta), .int (nI tl), .int (nI tk), .int vv, .ref an, .ref va])), (to, .inl (y 0, 228, .inl (upd (upd (upd (upd (upd (upd ft 61 (nI an1)) 62 (nI an2)) 63 (nI an3)) 64 (nI an4)) 65 (nI an5)) 3 (nI 4))))] := hD
                refine lv_aload_n hx hb dX11_note_139 rfl (lv_at hl 1 rfl) ?_
                refine va_get (D := D) (ci := 11) (v := .ref to) (C := RX11) (T := TX11) (N := 18) hx hb hts iw11 hown hK hP 1 rfl rfl 0 (by decide) fw2 (fun _ h9 => h9) rfl dX11_note_140 ?_
                refine lv_iconst (v := 3) hx hb dX11_note_143 (by decide) ?_
                refine va_iald hx hb hK hP 2 0 rfl rfl (by unfold vp_in; decide) dX11_note_144 ?_
                rw [show ((3 : Int32)).toNatClampNeg = 3 from rfl]
                rw [show ((upd (upd (upd (upd (upd (upd ft 61 (nI an1)) 62 (nI an2)) 63 (nI an3)) 64 (nI an4)) 65 (nI an5)) 3 (nI 4)) 3) = (nI 4) from hk182]
                exact W.iret (v := (nI 4)) hx hb hr (fun tZ ht hW => ⟨⟨(nI 4), ((upd (upd (upd (upd (upd (upd ft 61 (nI an1)) 62 (nI an2)) 63 (nI an3)) 64 (nI an4)) 65 (nI an5)) 3 (nI 4))), rfl, ⟨hr177, hk178, hk179, hk180, hk182, hk181, by first | omega | (dsimp only; omega), rfl⟩, by rw [ht]; exact hP.sub [1, 0, 2] rfl, hD.sub [1, 0, 2] (by decide) rfl⟩, hS.F ht⟩) hS.2.2 dX11_note_145
              · skip
                refine lv_bipush (v := 46) hx hb dX11_note_66 (by decide) ?_
                refine lv_iconst (v := 5) hx hb dX11_note_68 (by decide) ?_
                refine lv_aload_n hx hb dX11_note_69 rfl (lv_at hl 0 rfl) ?_
                refine va_get (D := D) (ci := 11) (v := .ref to) (C := RX11) (T := TX11) (N := 18) hx hb hts iw11 hown hK hP 1 rfl rfl 0 (by decide) fw2 (fun _ h9 => h9) rfl dX11_note_70 ?_
                refine lv_iconst (v := 3) hx hb dX11_note_73 (by decide) ?_
                refine va_iald hx hb hK hP 2 0 rfl rfl (by unfold vp_in; decide) dX11_note_74 ?_
                rw [show ((3 : Int32)).toNatClampNeg = 3 from rfl]
                rw [show (ft 3) = (nI 4) from hk3_]
                refine lv_imul hx hb dX11_note_75 ?_
                rw [show 5 * (nI 4) = nI (20) from pk_mul 5 4]
                refine lv_iadd hx hb dX11_note_76 ?_
                rw [show 46 + (nI 20) = nI (66) from nI_add 46 20]
                refine lv_istore (lv' := [(6, .int (nI 66)), (0, .ref mo), (1, .int (nI an1)), (2, .int (nI an2)), (3, .int (nI an3)), (4, .int (nI an4)), (5, .int (nI an5))]) hx hb dX11_note_77 hl (by decide) rfl (fun ls hl => ?_)
                refine lv_aload_n hx hb dX11_note_79 rfl (lv_at hl 1 rfl) ?_
                refine va_get (D := D) (ci := 11) (v := .ref to) (C := RX11) (T := TX11) (N := 18) hx hb hts iw11 hown hK hP 1 rfl rfl 0 (by decide) fw2 (fun _ h9 => h9) rfl dX11_note_80 ?_
                refine lv_iload hx hb dX11_note_83 (lv_at hl 0 rfl) ?_
                refine lv_iload_n hx hb dX11_note_85 rfl (lv_at hl 2 rfl) ?_
                refine va_iast hx hb hK hP hD hS 2 0 rfl rfl (vp_in_nI (by omega) (by decide)) dX11_note_86 (fun H locs hP hD hS => ?_)
                rw [nI_clamp (n := 66) (by omega)] at hP hD
                have hr183 : kr_t 228 (upd ft 66 (nI an1)) := kr_up hkt (kr_free (by unfold kr_a; omega) (by unfold kr_s; omega))
                have hk184 : (upd ft 66 (nI an1)) 0 = (nI fi) := (pk_un (by decide)).trans hk0_
                have hk185 : (upd ft 66 (nI an1)) 1 = (nI gl) := (pk_un (by decide)).trans hk1_
                have hk186 : (upd ft 66 (nI an1)) 2 = (nI mi) := (pk_un (by decide)).trans hk2_
                have hk187 : (upd ft 66 (nI an1)) 3 = (nI 4) := (pk_un (by decide)).trans hk3_
                have hk188 : (upd ft 66 (nI an1)) 4 = (nI un) := (pk_un (by decide)).trans hk4_
                have hP : va_P D vwCl [(mrf, .inl (y 0, 3, .inl frf)), (mo, .inr (11, [.ref to, .ref ke, .ref ik, .ref mrf, .long mab, .long mbl, .ref ha, .ref r0, .ref mbr, .ref mbp, .ref mby, .int (nI bl), .int (nI ta), .int (nI tl), .int (nI tk), .int vv, .ref an, .ref va])), (to, .inl (y 0, 228, .inl (upd ft 66 (nI an1))))] H := hP
                have hD : va_D A [(mrf, .inl (y 0, 3, .inl frf)), (mo, .inr (11, [.ref to, .ref ke, .ref ik, .ref mrf, .long mab, .long mbl, .ref ha, .ref r0, .ref mbr, .ref mbp, .ref mby, .int (nI bl), .int (nI ta), .int (nI tl), .int (nI tk), .int vv, .ref an, .ref va])), (to, .inl (y 0, 228, .inl (upd ft 66 (nI an1))))] := hD
                refine lv_aload_n hx hb dX11_note_87 rfl (lv_at hl 1 rfl) ?_
                refine va_get (D := D) (ci := 11) (v := .ref to) (C := RX11) (T := TX11) (N := 18) hx hb hts iw11 hown hK hP 1 rfl rfl 0 (by decide) fw2 (fun _ h9 => h9) rfl dX11_note_88 ?_
                refine lv_iload hx hb dX11_note_91 (lv_at hl 0 rfl) ?_
                refine lv_iconst (v := 1) hx hb dX11_note_93 (by decide) ?_
                refine lv_iadd hx hb dX11_note_94 ?_
                rw [show (nI 66) + 1 = nI (67) from nI_add 66 1]
                refine lv_iload_n hx hb dX11_note_95 rfl (lv_at hl 3 rfl) ?_
                refine va_iast hx hb hK hP hD hS 2 0 rfl rfl (vp_in_nI (by omega) (by decide)) dX11_note_96 (fun H locs hP hD hS => ?_)
                rw [nI_clamp (n := 67) (by omega)] at hP hD
                have hr189 : kr_t 228 (upd (upd ft 66 (nI an1)) 67 (nI an2)) := kr_up hr183 (kr_free (by unfold kr_a; omega) (by unfold kr_s; omega))
                have hk190 : (upd (upd ft 66 (nI an1)) 67 (nI an2)) 0 = (nI fi) := (pk_un (by decide)).trans hk184
                have hk191 : (upd (upd ft 66 (nI an1)) 67 (nI an2)) 1 = (nI gl) := (pk_un (by decide)).trans hk185
                have hk192 : (upd (upd ft 66 (nI an1)) 67 (nI an2)) 2 = (nI mi) := (pk_un (by decide)).trans hk186
                have hk193 : (upd (upd ft 66 (nI an1)) 67 (nI an2)) 3 = (nI 4) := (pk_un (by decide)).trans hk187
                have hk194 : (upd (upd ft 66 (nI an1)) 67 (nI an2)) 4 = (nI un) := (pk_un (by decide)).trans hk188
                have hP : va_P D vwCl [(mrf, .inl (y 0, 3, .inl frf)), (mo, .inr (11, [.ref to, .ref ke, .ref ik, .ref mrf, .long mab, .long mbl, .ref ha, .ref r0, .ref mbr, .ref mbp, .ref mby, .int (nI bl), .int (nI ta), .int (nI tl), .int (nI tk), .int vv, .ref an, .ref va])), (to, .inl (y 0, 228, .inl (upd (upd ft 66 (nI an1)) 67 (nI an2))))] H := hP
                have hD : va_D A [(mrf, .inl (y 0, 3, .inl frf)), (mo, .inr (11, [.ref to, .ref ke, .ref ik, .ref mrf, .long mab, .long mbl, .ref ha, .ref r0, .ref mbr, .ref mbp, .ref mby, .int (nI bl), .int (nI ta), .int (nI tl), .int (nI tk), .int vv, .ref an, .ref va])), (to, .inl (y 0, 228, .inl (upd (upd ft 66 (nI an1)) 67 (nI an2))))] := hD
                refine lv_aload_n hx hb dX11_note_97 rfl (lv_at hl 1 rfl) ?_
                refine va_get (D := D) (ci := 11) (v := .ref to) (C := RX11) (T := TX11) (N := 18) hx hb hts iw11 hown hK hP 1 rfl rfl 0 (by decide) fw2 (fun _ h9 => h9) rfl dX11_note_98 ?_
                refine lv_iload hx hb dX11_note_101 (lv_at hl 0 rfl) ?_
                refine lv_iconst (v := 2) hx hb dX11_note_103 (by decide) ?_
                refine lv_iadd hx hb dX11_note_104 ?_
                rw [show (nI 66) + 2 = nI (68) from nI_add 66 2]
                refine lv_iload_n hx hb dX11_note_105 rfl (lv_at hl 4 rfl) ?_
                refine va_iast hx hb hK hP hD hS 2 0 rfl rfl (vp_in_nI (by omega) (by decide)) dX11_note_106 (fun H locs hP hD hS => ?_)
                rw [nI_clamp (n := 68) (by omega)] at hP hD
                have hr195 : kr_t 228 (upd (upd (upd ft 66 (nI an1)) 67 (nI an2)) 68 (nI an3)) := kr_up hr189 (kr_free (by unfold kr_a; omega) (by unfold kr_s; omega))
                have hk196 : (upd (upd (upd ft 66 (nI an1)) 67 (nI an2)) 68 (nI an3)) 0 = (nI fi) := (pk_un (by decide)).trans hk190
                have hk197 : (upd (upd (upd ft 66 (nI an1)) 67 (nI an2)) 68 (nI an3)) 1 = (nI gl) := (pk_un (by decide)).trans hk191
                have hk198 : (upd (upd (upd ft 66 (nI an1)) 67 (nI an2)) 68 (nI an3)) 2 = (nI mi) := (pk_un (by decide)).trans hk192
                have hk199 : (upd (upd (upd ft 66 (nI an1)) 67 (nI an2)) 68 (nI an3)) 3 = (nI 4) := (pk_un (by decide)).trans hk193
                have hk200 : (upd (upd (upd ft 66 (nI an1)) 67 (nI an2)) 68 (nI an3)) 4 = (nI un) := (pk_un (by decide)).trans hk194
                have hP : va_P D vwCl [(mrf, .inl (y 0, 3, .inl frf)), (mo, .inr (11, [.ref to, .ref ke, .ref ik, .ref mrf, .long mab, .long mbl, .ref ha, .ref r0, .ref mbr, .ref mbp, .ref mby, .int (nI bl), .int (nI ta), .int (nI tl), .int (nI tk), .int vv, .ref an, .ref va])), (to, .inl (y 0, 228, .inl (upd (upd (upd ft 66 (nI an1)) 67 (nI an2)) 68 (nI an3))))] H := hP
                have hD : va_D A [(mrf, .inl (y 0, 3, .inl frf)), (mo, .inr (11, [.ref to, .ref ke, .ref ik, .ref mrf, .long mab, .long mbl, .ref ha, .ref r0, .ref mbr, .ref mbp, .ref mby, .int (nI bl), .int (nI ta), .int (nI tl), .int (nI tk), .int vv, .ref an, .ref va])), (to, .inl (y 0, 228, .inl (upd (upd (upd ft 66 (nI an1)) 67 (nI an2)) 68 (nI an3))))] := hD
                refine lv_aload_n hx hb dX11_note_107 rfl (lv_at hl 1 rfl) ?_
                refine va_get (D := D) (ci := 11) (v := .ref to) (C := RX11) (T := TX11) (N := 18) hx hb hts iw11 hown hK hP 1 rfl rfl 0 (by decide) fw2 (fun _ h9 => h9) rfl dX11_note_108 ?_
                refine lv_iload hx hb dX11_note_111 (lv_at hl 0 rfl) ?_
                refine lv_iconst (v := 3) hx hb dX11_note_113 (by decide) ?_
                refine lv_iadd hx hb dX11_note_114 ?_
                rw [show (nI 66) + 3 = nI (69) from nI_add 66 3]
                refine lv_iload hx hb dX11_note_115 (lv_at hl 5 rfl) ?_
                refine va_iast hx hb hK hP hD hS 2 0 rfl rfl (vp_in_nI (by omega) (by decide)) dX11_note_117 (fun H locs hP hD hS => ?_)
                rw [nI_clamp (n := 69) (by omega)] at hP hD
                have hr201 : kr_t 228 (upd (upd (upd (upd ft 66 (nI an1)) 67 (nI an2)) 68 (nI an3)) 69 (nI an4)) := kr_up hr195 (kr_free (by unfold kr_a; omega) (by unfold kr_s; omega))
                have hk202 : (upd (upd (upd (upd ft 66 (nI an1)) 67 (nI an2)) 68 (nI an3)) 69 (nI an4)) 0 = (nI fi) := (pk_un (by decide)).trans hk196
                have hk203 : (upd (upd (upd (upd ft 66 (nI an1)) 67 (nI an2)) 68 (nI an3)) 69 (nI an4)) 1 = (nI gl) := (pk_un (by decide)).trans hk197
                have hk204 : (upd (upd (upd (upd ft 66 (nI an1)) 67 (nI an2)) 68 (nI an3)) 69 (nI an4)) 2 = (nI mi) := (pk_un (by decide)).trans hk198
                have hk205 : (upd (upd (upd (upd ft 66 (nI an1)) 67 (nI an2)) 68 (nI an3)) 69 (nI an4)) 3 = (nI 4) := (pk_un (by decide)).trans hk199
                have hk206 : (upd (upd (upd (upd ft 66 (nI an1)) 67 (nI an2)) 68 (nI an3)) 69 (nI an4)) 4 = (nI un) := (pk_un (by decide)).trans hk200
                have hP : va_P D vwCl [(mrf, .inl (y 0, 3, .inl frf)), (mo, .inr (11, [.ref to, .ref ke, .ref ik, .ref mrf, .long mab, .long mbl, .ref ha, .ref r0, .ref mbr, .ref mbp, .ref mby, .int (nI bl), .int (nI ta), .int (nI tl), .int (nI tk), .int vv, .ref an, .ref va])), (to, .inl (y 0, 228, .inl (upd (upd (upd (upd ft 66 (nI an1)) 67 (nI an2)) 68 (nI an3)) 69 (nI an4))))] H := hP
                have hD : va_D A [(mrf, .inl (y 0, 3, .inl frf)), (mo, .inr (11, [.ref to, .ref ke, .ref ik, .ref mrf, .long mab, .long mbl, .ref ha, .ref r0, .ref mbr, .ref mbp, .ref mby, .int (nI bl), .int (nI ta), .int (nI tl), .int (nI tk), .int vv, .ref an, .ref va])), (to, .inl (y 0, 228, .inl (upd (upd (upd (upd ft 66 (nI an1)) 67 (nI an2)) 68 (nI an3)) 69 (nI an4))))] := hD
                refine lv_aload_n hx hb dX11_note_118 rfl (lv_at hl 1 rfl) ?_
                refine va_get (D := D) (ci := 11) (v := .ref to) (C := RX11) (T := TX11) (N := 18) hx hb hts iw11 hown hK hP 1 rfl rfl 0 (by decide) fw2 (fun _ h9 => h9) rfl dX11_note_119 ?_
                refine lv_iload hx hb dX11_note_122 (lv_at hl 0 rfl) ?_
                refine lv_iconst (v := 4) hx hb dX11_note_124 (by decide) ?_
                refine lv_iadd hx hb dX11_note_125 ?_
                rw [show (nI 66) + 4 = nI (70) from nI_add 66 4]
                refine lv_iload hx hb dX11_note_126 (lv_at hl 6 rfl) ?_
                refine va_iast hx hb hK hP hD hS 2 0 rfl rfl (vp_in_nI (by omega) (by decide)) dX11_note_128 (fun H locs hP hD hS => ?_)
                rw [nI_clamp (n := 70) (by omega)] at hP hD
                have hr207 : kr_t 228 (upd (upd (upd (upd (upd ft 66 (nI an1)) 67 (nI an2)) 68 (nI an3)) 69 (nI an4)) 70 (nI an5)) := kr_up hr201 (kr_free (by unfold kr_a; omega) (by unfold kr_s; omega))
                have hk208 : (upd (upd (upd (upd (upd ft 66 (nI an1)) 67 (nI an2)) 68 (nI an3)) 69 (nI an4)) 70 (nI an5)) 0 = (nI fi) := (pk_un (by decide)).trans hk202
                have hk209 : (upd (upd (upd (upd (upd ft 66 (nI an1)) 67 (nI an2)) 68 (nI an3)) 69 (nI an4)) 70 (nI an5)) 1 = (nI gl) := (pk_un (by decide)).trans hk203
                have hk210 : (upd (upd (upd (upd (upd ft 66 (nI an1)) 67 (nI an2)) 68 (nI an3)) 69 (nI an4)) 70 (nI an5)) 2 = (nI mi) := (pk_un (by decide)).trans hk204
                have hk211 : (upd (upd (upd (upd (upd ft 66 (nI an1)) 67 (nI an2)) 68 (nI an3)) 69 (nI an4)) 70 (nI an5)) 3 = (nI 4) := (pk_un (by decide)).trans hk205
                have hk212 : (upd (upd (upd (upd (upd ft 66 (nI an1)) 67 (nI an2)) 68 (nI an3)) 69 (nI an4)) 70 (nI an5)) 4 = (nI un) := (pk_un (by decide)).trans hk206
                have hP : va_P D vwCl [(mrf, .inl (y 0, 3, .inl frf)), (mo, .inr (11, [.ref to, .ref ke, .ref ik, .ref mrf, .long mab, .long mbl, .ref ha, .ref r0, .ref mbr, .ref mbp, .ref mby, .int (nI bl), .int (nI ta), .int (nI tl), .int (nI tk), .int vv, .ref an, .ref va])), (to, .inl (y 0, 228, .inl (upd (upd (upd (upd (upd ft 66 (nI an1)) 67 (nI an2)) 68 (nI an3)) 69 (nI an4)) 70 (nI an5))))] H := hP
                have hD : va_D A [(mrf, .inl (y 0, 3, .inl frf)), (mo, .inr (11, [.ref to, .ref ke, .ref ik, .ref mrf, .long mab, .long mbl, .ref ha, .ref r0, .ref mbr, .ref mbp, .ref mby, .int (nI bl), .int (nI ta), .int (nI tl), .int (nI tk), .int vv, .ref an, .ref va])), (to, .inl (y 0, 228, .inl (upd (upd (upd (upd (upd ft 66 (nI an1)) 67 (nI an2)) 68 (nI an3)) 69 (nI an4)) 70 (nI an5))))] := hD
                refine lv_aload_n hx hb dX11_note_129 rfl (lv_at hl 1 rfl) ?_
                refine va_get (D := D) (ci := 11) (v := .ref to) (C := RX11) (T := TX11) (N := 18) hx hb hts iw11 hown hK hP 1 rfl rfl 0 (by decide) fw2 (fun _ h9 => h9) rfl dX11_note_130 ?_
                refine lv_iconst (v := 3) hx hb dX11_note_133 (by decide) ?_
                refine lv_dup2_11 hx hb dX11_note_134 rfl rfl ?_
                refine va_iald hx hb hK hP 2 0 rfl rfl (by unfold vp_in; decide) dX11_note_135 ?_
                rw [show ((3 : Int32)).toNatClampNeg = 3 from rfl]
                rw [show ((upd (upd (upd (upd (upd ft 66 (nI an1)) 67 (nI an2)) 68 (nI an3)) 69 (nI an4)) 70 (nI an5)) 3) = (nI 4) from hk211]
                refine lv_iconst (v := 1) hx hb dX11_note_136 (by decide) ?_
                refine lv_iadd hx hb dX11_note_137 ?_
                rw [show (nI 4) + 1 = nI (5) from nI_add 4 1]
                refine va_iast hx hb hK hP hD hS 2 0 rfl rfl (by unfold vp_in; decide) dX11_note_138 (fun H locs hP hD hS => ?_)
                rw [show ((3 : Int32)).toNatClampNeg = 3 from rfl] at hP hD
                have hr213 : kr_t 228 (upd (upd (upd (upd (upd (upd ft 66 (nI an1)) 67 (nI an2)) 68 (nI an3)) 69 (nI an4)) 70 (nI an5)) 3 (nI 5)) := kr_up hr207 (kr_free (by unfold kr_a; omega) (by unfold kr_s; omega))
                have hk214 : (upd (upd (upd (upd (upd (upd ft 66 (nI an1)) 67 (nI an2)) 68 (nI an3)) 69 (nI an4)) 70 (nI an5)) 3 (nI 5)) 0 = (nI fi) := (pk_un (by decide)).trans hk208
                have hk215 : (upd (upd (upd (upd (upd (upd ft 66 (nI an1)) 67 (nI an2)) 68 (nI an3)) 69 (nI an4)) 70 (nI an5)) 3 (nI 5)) 1 = (nI gl) := (pk_un (by decide)).trans hk209
                have hk216 : (upd (upd (upd (upd (upd (upd ft 66 (nI an1)) 67 (nI an2)) 68 (nI an3)) 69 (nI an4)) 70 (nI an5)) 3 (nI 5)) 2 = (nI mi) := (pk_un (by decide)).trans hk210
                have hk217 : (upd (upd (upd (upd (upd (upd ft 66 (nI an1)) 67 (nI an2)) 68 (nI an3)) 69 (nI an4)) 70 (nI an5)) 3 (nI 5)) 4 = (nI un) := (pk_un (by decide)).trans hk212
                have hk218 : (upd (upd (upd (upd (upd (upd ft 66 (nI an1)) 67 (nI an2)) 68 (nI an3)) 69 (nI an4)) 70 (nI an5)) 3 (nI 5)) 3 = (nI 5) := pk_us
                have hP : va_P D vwCl [(mrf, .inl (y 0, 3, .inl frf)), (mo, .inr (11, [.ref to, .ref ke, .ref ik, .ref mrf, .long mab, .long mbl, .ref ha, .ref r0, .ref mbr, .ref mbp, .ref mby, .int (nI bl), .int (nI ta), .int (nI tl), .int (nI tk), .int vv, .ref an, .ref va])), (to, .inl (y 0, 228, .inl (upd (upd (upd (upd (upd (upd ft 66 (nI an1)) 67 (nI an2)) 68 (nI an3)) 69 (nI an4)) 70 (nI an5)) 3 (nI 5))))] H := hP
                have hD : va_D A [(mrf, .inl (y 0, 3, .inl frf)), (mo, .inr (11, [.ref to, .ref ke, .ref ik, .ref mrf, .long mab, .long mbl, .ref ha, .ref r0, .ref mbr, .ref mbp, .ref mby, .int (nI bl), .int (nI ta), .int (nI tl), .int (nI tk), .int vv, .ref an, .ref va])), (to, .inl (y 0, 228, .inl (upd (upd (upd (upd (upd (upd ft 66 (nI an1)) 67 (nI an2)) 68 (nI an3)) 69 (nI an4)) 70 (nI an5)) 3 (nI 5))))] := hD
                refine lv_aload_n hx hb dX11_note_139 rfl (lv_at hl 1 rfl) ?_
                refine va_get (D := D) (ci := 11) (v := .ref to) (C := RX11) (T := TX11) (N := 18) hx hb hts iw11 hown hK hP 1 rfl rfl 0 (by decide) fw2 (fun _ h9 => h9) rfl dX11_note_140 ?_
                refine lv_iconst (v := 3) hx hb dX11_note_143 (by decide) ?_
                refine va_iald hx hb hK hP 2 0 rfl rfl (by unfold vp_in; decide) dX11_note_144 ?_
                rw [show ((3 : Int32)).toNatClampNeg = 3 from rfl]
                rw [show ((upd (upd (upd (upd (upd (upd ft 66 (nI an1)) 67 (nI an2)) 68 (nI an3)) 69 (nI an4)) 70 (nI an5)) 3 (nI 5)) 3) = (nI 5) from hk218]
                exact W.iret (v := (nI 5)) hx hb hr (fun tZ ht hW => ⟨⟨(nI 5), ((upd (upd (upd (upd (upd (upd ft 66 (nI an1)) 67 (nI an2)) 68 (nI an3)) 69 (nI an4)) 70 (nI an5)) 3 (nI 5))), rfl, ⟨hr213, hk214, hk215, hk216, hk218, hk217, by first | omega | (dsimp only; omega), rfl⟩, by rw [ht]; exact hP.sub [1, 0, 2] rfl, hD.sub [1, 0, 2] (by decide) rfl⟩, hS.F ht⟩) hS.2.2 dX11_note_145
              · skip
                refine lv_bipush (v := 46) hx hb dX11_note_66 (by decide) ?_
                refine lv_iconst (v := 5) hx hb dX11_note_68 (by decide) ?_
                refine lv_aload_n hx hb dX11_note_69 rfl (lv_at hl 0 rfl) ?_
                refine va_get (D := D) (ci := 11) (v := .ref to) (C := RX11) (T := TX11) (N := 18) hx hb hts iw11 hown hK hP 1 rfl rfl 0 (by decide) fw2 (fun _ h9 => h9) rfl dX11_note_70 ?_
                refine lv_iconst (v := 3) hx hb dX11_note_73 (by decide) ?_
                refine va_iald hx hb hK hP 2 0 rfl rfl (by unfold vp_in; decide) dX11_note_74 ?_
                rw [show ((3 : Int32)).toNatClampNeg = 3 from rfl]
                rw [show (ft 3) = (nI 5) from hk3_]
                refine lv_imul hx hb dX11_note_75 ?_
                rw [show 5 * (nI 5) = nI (25) from pk_mul 5 5]
                refine lv_iadd hx hb dX11_note_76 ?_
                rw [show 46 + (nI 25) = nI (71) from nI_add 46 25]
                refine lv_istore (lv' := [(6, .int (nI 71)), (0, .ref mo), (1, .int (nI an1)), (2, .int (nI an2)), (3, .int (nI an3)), (4, .int (nI an4)), (5, .int (nI an5))]) hx hb dX11_note_77 hl (by decide) rfl (fun ls hl => ?_)
                refine lv_aload_n hx hb dX11_note_79 rfl (lv_at hl 1 rfl) ?_
                refine va_get (D := D) (ci := 11) (v := .ref to) (C := RX11) (T := TX11) (N := 18) hx hb hts iw11 hown hK hP 1 rfl rfl 0 (by decide) fw2 (fun _ h9 => h9) rfl dX11_note_80 ?_
                refine lv_iload hx hb dX11_note_83 (lv_at hl 0 rfl) ?_
                refine lv_iload_n hx hb dX11_note_85 rfl (lv_at hl 2 rfl) ?_
                refine va_iast hx hb hK hP hD hS 2 0 rfl rfl (vp_in_nI (by omega) (by decide)) dX11_note_86 (fun H locs hP hD hS => ?_)
                rw [nI_clamp (n := 71) (by omega)] at hP hD
                have hr219 : kr_t 228 (upd ft 71 (nI an1)) := kr_up hkt (kr_free (by unfold kr_a; omega) (by unfold kr_s; omega))
                have hk220 : (upd ft 71 (nI an1)) 0 = (nI fi) := (pk_un (by decide)).trans hk0_
                have hk221 : (upd ft 71 (nI an1)) 1 = (nI gl) := (pk_un (by decide)).trans hk1_
                have hk222 : (upd ft 71 (nI an1)) 2 = (nI mi) := (pk_un (by decide)).trans hk2_
                have hk223 : (upd ft 71 (nI an1)) 3 = (nI 5) := (pk_un (by decide)).trans hk3_
                have hk224 : (upd ft 71 (nI an1)) 4 = (nI un) := (pk_un (by decide)).trans hk4_
                have hP : va_P D vwCl [(mrf, .inl (y 0, 3, .inl frf)), (mo, .inr (11, [.ref to, .ref ke, .ref ik, .ref mrf, .long mab, .long mbl, .ref ha, .ref r0, .ref mbr, .ref mbp, .ref mby, .int (nI bl), .int (nI ta), .int (nI tl), .int (nI tk), .int vv, .ref an, .ref va])), (to, .inl (y 0, 228, .inl (upd ft 71 (nI an1))))] H := hP
                have hD : va_D A [(mrf, .inl (y 0, 3, .inl frf)), (mo, .inr (11, [.ref to, .ref ke, .ref ik, .ref mrf, .long mab, .long mbl, .ref ha, .ref r0, .ref mbr, .ref mbp, .ref mby, .int (nI bl), .int (nI ta), .int (nI tl), .int (nI tk), .int vv, .ref an, .ref va])), (to, .inl (y 0, 228, .inl (upd ft 71 (nI an1))))] := hD
                refine lv_aload_n hx hb dX11_note_87 rfl (lv_at hl 1 rfl) ?_
                refine va_get (D := D) (ci := 11) (v := .ref to) (C := RX11) (T := TX11) (N := 18) hx hb hts iw11 hown hK hP 1 rfl rfl 0 (by decide) fw2 (fun _ h9 => h9) rfl dX11_note_88 ?_
                refine lv_iload hx hb dX11_note_91 (lv_at hl 0 rfl) ?_
                refine lv_iconst (v := 1) hx hb dX11_note_93 (by decide) ?_
                refine lv_iadd hx hb dX11_note_94 ?_
                rw [show (nI 71) + 1 = nI (72) from nI_add 71 1]
                refine lv_iload_n hx hb dX11_note_95 rfl (lv_at hl 3 rfl) ?_
                refine va_iast hx hb hK hP hD hS 2 0 rfl rfl (vp_in_nI (by omega) (by decide)) dX11_note_96 (fun H locs hP hD hS => ?_)
                rw [nI_clamp (n := 72) (by omega)] at hP hD
                have hr225 : kr_t 228 (upd (upd ft 71 (nI an1)) 72 (nI an2)) := kr_up hr219 (kr_free (by unfold kr_a; omega) (by unfold kr_s; omega))
                have hk226 : (upd (upd ft 71 (nI an1)) 72 (nI an2)) 0 = (nI fi) := (pk_un (by decide)).trans hk220
                have hk227 : (upd (upd ft 71 (nI an1)) 72 (nI an2)) 1 = (nI gl) := (pk_un (by decide)).trans hk221
                have hk228 : (upd (upd ft 71 (nI an1)) 72 (nI an2)) 2 = (nI mi) := (pk_un (by decide)).trans hk222
                have hk229 : (upd (upd ft 71 (nI an1)) 72 (nI an2)) 3 = (nI 5) := (pk_un (by decide)).trans hk223
                have hk230 : (upd (upd ft 71 (nI an1)) 72 (nI an2)) 4 = (nI un) := (pk_un (by decide)).trans hk224
                have hP : va_P D vwCl [(mrf, .inl (y 0, 3, .inl frf)), (mo, .inr (11, [.ref to, .ref ke, .ref ik, .ref mrf, .long mab, .long mbl, .ref ha, .ref r0, .ref mbr, .ref mbp, .ref mby, .int (nI bl), .int (nI ta), .int (nI tl), .int (nI tk), .int vv, .ref an, .ref va])), (to, .inl (y 0, 228, .inl (upd (upd ft 71 (nI an1)) 72 (nI an2))))] H := hP
                have hD : va_D A [(mrf, .inl (y 0, 3, .inl frf)), (mo, .inr (11, [.ref to, .ref ke, .ref ik, .ref mrf, .long mab, .long mbl, .ref ha, .ref r0, .ref mbr, .ref mbp, .ref mby, .int (nI bl), .int (nI ta), .int (nI tl), .int (nI tk), .int vv, .ref an, .ref va])), (to, .inl (y 0, 228, .inl (upd (upd ft 71 (nI an1)) 72 (nI an2))))] := hD
                refine lv_aload_n hx hb dX11_note_97 rfl (lv_at hl 1 rfl) ?_
                refine va_get (D := D) (ci := 11) (v := .ref to) (C := RX11) (T := TX11) (N := 18) hx hb hts iw11 hown hK hP 1 rfl rfl 0 (by decide) fw2 (fun _ h9 => h9) rfl dX11_note_98 ?_
                refine lv_iload hx hb dX11_note_101 (lv_at hl 0 rfl) ?_
                refine lv_iconst (v := 2) hx hb dX11_note_103 (by decide) ?_
                refine lv_iadd hx hb dX11_note_104 ?_
                rw [show (nI 71) + 2 = nI (73) from nI_add 71 2]
                refine lv_iload_n hx hb dX11_note_105 rfl (lv_at hl 4 rfl) ?_
                refine va_iast hx hb hK hP hD hS 2 0 rfl rfl (vp_in_nI (by omega) (by decide)) dX11_note_106 (fun H locs hP hD hS => ?_)
                rw [nI_clamp (n := 73) (by omega)] at hP hD
                have hr231 : kr_t 228 (upd (upd (upd ft 71 (nI an1)) 72 (nI an2)) 73 (nI an3)) := kr_up hr225 (kr_free (by unfold kr_a; omega) (by unfold kr_s; omega))
                have hk232 : (upd (upd (upd ft 71 (nI an1)) 72 (nI an2)) 73 (nI an3)) 0 = (nI fi) := (pk_un (by decide)).trans hk226
                have hk233 : (upd (upd (upd ft 71 (nI an1)) 72 (nI an2)) 73 (nI an3)) 1 = (nI gl) := (pk_un (by decide)).trans hk227
                have hk234 : (upd (upd (upd ft 71 (nI an1)) 72 (nI an2)) 73 (nI an3)) 2 = (nI mi) := (pk_un (by decide)).trans hk228
                have hk235 : (upd (upd (upd ft 71 (nI an1)) 72 (nI an2)) 73 (nI an3)) 3 = (nI 5) := (pk_un (by decide)).trans hk229
                have hk236 : (upd (upd (upd ft 71 (nI an1)) 72 (nI an2)) 73 (nI an3)) 4 = (nI un) := (pk_un (by decide)).trans hk230
                have hP : va_P D vwCl [(mrf, .inl (y 0, 3, .inl frf)), (mo, .inr (11, [.ref to, .ref ke, .ref ik, .ref mrf, .long mab, .long mbl, .ref ha, .ref r0, .ref mbr, .ref mbp, .ref mby, .int (nI bl), .int (nI ta), .int (nI tl), .int (nI tk), .int vv, .ref an, .ref va])), (to, .inl (y 0, 228, .inl (upd (upd (upd ft 71 (nI an1)) 72 (nI an2)) 73 (nI an3))))] H := hP
                have hD : va_D A [(mrf, .inl (y 0, 3, .inl frf)), (mo, .inr (11, [.ref to, .ref ke, .ref ik, .ref mrf, .long mab, .long mbl, .ref ha, .ref r0, .ref mbr, .ref mbp, .ref mby, .int (nI bl), .int (nI ta), .int (nI tl), .int (nI tk), .int vv, .ref an, .ref va])), (to, .inl (y 0, 228, .inl (upd (upd (upd ft 71 (nI an1)) 72 (nI an2)) 73 (nI an3))))] := hD
                refine lv_aload_n hx hb dX11_note_107 rfl (lv_at hl 1 rfl) ?_
                refine va_get (D := D) (ci := 11) (v := .ref to) (C := RX11) (T := TX11) (N := 18) hx hb hts iw11 hown hK hP 1 rfl rfl 0 (by decide) fw2 (fun _ h9 => h9) rfl dX11_note_108 ?_
                refine lv_iload hx hb dX11_note_111 (lv_at hl 0 rfl) ?_
                refine lv_iconst (v := 3) hx hb dX11_note_113 (by decide) ?_
                refine lv_iadd hx hb dX11_note_114 ?_
                rw [show (nI 71) + 3 = nI (74) from nI_add 71 3]
                refine lv_iload hx hb dX11_note_115 (lv_at hl 5 rfl) ?_
                refine va_iast hx hb hK hP hD hS 2 0 rfl rfl (vp_in_nI (by omega) (by decide)) dX11_note_117 (fun H locs hP hD hS => ?_)
                rw [nI_clamp (n := 74) (by omega)] at hP hD
                have hr237 : kr_t 228 (upd (upd (upd (upd ft 71 (nI an1)) 72 (nI an2)) 73 (nI an3)) 74 (nI an4)) := kr_up hr231 (kr_free (by unfold kr_a; omega) (by unfold kr_s; omega))
                have hk238 : (upd (upd (upd (upd ft 71 (nI an1)) 72 (nI an2)) 73 (nI an3)) 74 (nI an4)) 0 = (nI fi) := (pk_un (by decide)).trans hk232
                have hk239 : (upd (upd (upd (upd ft 71 (nI an1)) 72 (nI an2)) 73 (nI an3)) 74 (nI an4)) 1 = (nI gl) := (pk_un (by decide)).trans hk233
                have hk240 : (upd (upd (upd (upd ft 71 (nI an1)) 72 (nI an2)) 73 (nI an3)) 74 (nI an4)) 2 = (nI mi) := (pk_un (by decide)).trans hk234
                have hk241 : (upd (upd (upd (upd ft 71 (nI an1)) 72 (nI an2)) 73 (nI an3)) 74 (nI an4)) 3 = (nI 5) := (pk_un (by decide)).trans hk235
                have hk242 : (upd (upd (upd (upd ft 71 (nI an1)) 72 (nI an2)) 73 (nI an3)) 74 (nI an4)) 4 = (nI un) := (pk_un (by decide)).trans hk236
                have hP : va_P D vwCl [(mrf, .inl (y 0, 3, .inl frf)), (mo, .inr (11, [.ref to, .ref ke, .ref ik, .ref mrf, .long mab, .long mbl, .ref ha, .ref r0, .ref mbr, .ref mbp, .ref mby, .int (nI bl), .int (nI ta), .int (nI tl), .int (nI tk), .int vv, .ref an, .ref va])), (to, .inl (y 0, 228, .inl (upd (upd (upd (upd ft 71 (nI an1)) 72 (nI an2)) 73 (nI an3)) 74 (nI an4))))] H := hP
                have hD : va_D A [(mrf, .inl (y 0, 3, .inl frf)), (mo, .inr (11, [.ref to, .ref ke, .ref ik, .ref mrf, .long mab, .long mbl, .ref ha, .ref r0, .ref mbr, .ref mbp, .ref mby, .int (nI bl), .int (nI ta), .int (nI tl), .int (nI tk), .int vv, .ref an, .ref va])), (to, .inl (y 0, 228, .inl (upd (upd (upd (upd ft 71 (nI an1)) 72 (nI an2)) 73 (nI an3)) 74 (nI an4))))] := hD
                refine lv_aload_n hx hb dX11_note_118 rfl (lv_at hl 1 rfl) ?_
                refine va_get (D := D) (ci := 11) (v := .ref to) (C := RX11) (T := TX11) (N := 18) hx hb hts iw11 hown hK hP 1 rfl rfl 0 (by decide) fw2 (fun _ h9 => h9) rfl dX11_note_119 ?_
                refine lv_iload hx hb dX11_note_122 (lv_at hl 0 rfl) ?_
                refine lv_iconst (v := 4) hx hb dX11_note_124 (by decide) ?_
                refine lv_iadd hx hb dX11_note_125 ?_
                rw [show (nI 71) + 4 = nI (75) from nI_add 71 4]
                refine lv_iload hx hb dX11_note_126 (lv_at hl 6 rfl) ?_
                refine va_iast hx hb hK hP hD hS 2 0 rfl rfl (vp_in_nI (by omega) (by decide)) dX11_note_128 (fun H locs hP hD hS => ?_)
                rw [nI_clamp (n := 75) (by omega)] at hP hD
                have hr243 : kr_t 228 (upd (upd (upd (upd (upd ft 71 (nI an1)) 72 (nI an2)) 73 (nI an3)) 74 (nI an4)) 75 (nI an5)) := kr_up hr237 (kr_free (by unfold kr_a; omega) (by unfold kr_s; omega))
                have hk244 : (upd (upd (upd (upd (upd ft 71 (nI an1)) 72 (nI an2)) 73 (nI an3)) 74 (nI an4)) 75 (nI an5)) 0 = (nI fi) := (pk_un (by decide)).trans hk238
                have hk245 : (upd (upd (upd (upd (upd ft 71 (nI an1)) 72 (nI an2)) 73 (nI an3)) 74 (nI an4)) 75 (nI an5)) 1 = (nI gl) := (pk_un (by decide)).trans hk239
                have hk246 : (upd (upd (upd (upd (upd ft 71 (nI an1)) 72 (nI an2)) 73 (nI an3)) 74 (nI an4)) 75 (nI an5)) 2 = (nI mi) := (pk_un (by decide)).trans hk240
                have hk247 : (upd (upd (upd (upd (upd ft 71 (nI an1)) 72 (nI an2)) 73 (nI an3)) 74 (nI an4)) 75 (nI an5)) 3 = (nI 5) := (pk_un (by decide)).trans hk241
                have hk248 : (upd (upd (upd (upd (upd ft 71 (nI an1)) 72 (nI an2)) 73 (nI an3)) 74 (nI an4)) 75 (nI an5)) 4 = (nI un) := (pk_un (by decide)).trans hk242
                have hP : va_P D vwCl [(mrf, .inl (y 0, 3, .inl frf)), (mo, .inr (11, [.ref to, .ref ke, .ref ik, .ref mrf, .long mab, .long mbl, .ref ha, .ref r0, .ref mbr, .ref mbp, .ref mby, .int (nI bl), .int (nI ta), .int (nI tl), .int (nI tk), .int vv, .ref an, .ref va])), (to, .inl (y 0, 228, .inl (upd (upd (upd (upd (upd ft 71 (nI an1)) 72 (nI an2)) 73 (nI an3)) 74 (nI an4)) 75 (nI an5))))] H := hP
                have hD : va_D A [(mrf, .inl (y 0, 3, .inl frf)), (mo, .inr (11, [.ref to, .ref ke, .ref ik, .ref mrf, .long mab, .long mbl, .ref ha, .ref r0, .ref mbr, .ref mbp, .ref mby, .int (nI bl), .int (nI ta), .int (nI tl), .int (nI tk), .int vv, .ref an, .ref va])), (to, .inl (y 0, 228, .inl (upd (upd (upd (upd (upd ft 71 (nI an1)) 72 (nI an2)) 73 (nI an3)) 74 (nI an4)) 75 (nI an5))))] := hD
                refine lv_aload_n hx hb dX11_note_129 rfl (lv_at hl 1 rfl) ?_
                refine va_get (D := D) (ci := 11) (v := .ref to) (C := RX11) (T := TX11) (N := 18) hx hb hts iw11 hown hK hP 1 rfl rfl 0 (by decide) fw2 (fun _ h9 => h9) rfl dX11_note_130 ?_
                refine lv_iconst (v := 3) hx hb dX11_note_133 (by decide) ?_
                refine lv_dup2_11 hx hb dX11_note_134 rfl rfl ?_
                refine va_iald hx hb hK hP 2 0 rfl rfl (by unfold vp_in; decide) dX11_note_135 ?_
                rw [show ((3 : Int32)).toNatClampNeg = 3 from rfl]
                rw [show ((upd (upd (upd (upd (upd ft 71 (nI an1)) 72 (nI an2)) 73 (nI an3)) 74 (nI an4)) 75 (nI an5)) 3) = (nI 5) from hk247]
                refine lv_iconst (v := 1) hx hb dX11_note_136 (by decide) ?_
                refine lv_iadd hx hb dX11_note_137 ?_
                rw [show (nI 5) + 1 = nI (6) from nI_add 5 1]
                refine va_iast hx hb hK hP hD hS 2 0 rfl rfl (by unfold vp_in; decide) dX11_note_138 (fun H locs hP hD hS => ?_)
                rw [show ((3 : Int32)).toNatClampNeg = 3 from rfl] at hP hD
                have hr249 : kr_t 228 (upd (upd (upd (upd (upd (upd ft 71 (nI an1)) 72 (nI an2)) 73 (nI an3)) 74 (nI an4)) 75 (nI an5)) 3 (nI 6)) := kr_up hr243 (kr_free (by unfold kr_a; omega) (by unfold kr_s; omega))
                have hk250 : (upd (upd (upd (upd (upd (upd ft 71 (nI an1)) 72 (nI an2)) 73 (nI an3)) 74 (nI an4)) 75 (nI an5)) 3 (nI 6)) 0 = (nI fi) := (pk_un (by decide)).trans hk244
                have hk251 : (upd (upd (upd (upd (upd (upd ft 71 (nI an1)) 72 (nI an2)) 73 (nI an3)) 74 (nI an4)) 75 (nI an5)) 3 (nI 6)) 1 = (nI gl) := (pk_un (by decide)).trans hk245
                have hk252 : (upd (upd (upd (upd (upd (upd ft 71 (nI an1)) 72 (nI an2)) 73 (nI an3)) 74 (nI an4)) 75 (nI an5)) 3 (nI 6)) 2 = (nI mi) := (pk_un (by decide)).trans hk246
                have hk253 : (upd (upd (upd (upd (upd (upd ft 71 (nI an1)) 72 (nI an2)) 73 (nI an3)) 74 (nI an4)) 75 (nI an5)) 3 (nI 6)) 4 = (nI un) := (pk_un (by decide)).trans hk248
                have hk254 : (upd (upd (upd (upd (upd (upd ft 71 (nI an1)) 72 (nI an2)) 73 (nI an3)) 74 (nI an4)) 75 (nI an5)) 3 (nI 6)) 3 = (nI 6) := pk_us
                have hP : va_P D vwCl [(mrf, .inl (y 0, 3, .inl frf)), (mo, .inr (11, [.ref to, .ref ke, .ref ik, .ref mrf, .long mab, .long mbl, .ref ha, .ref r0, .ref mbr, .ref mbp, .ref mby, .int (nI bl), .int (nI ta), .int (nI tl), .int (nI tk), .int vv, .ref an, .ref va])), (to, .inl (y 0, 228, .inl (upd (upd (upd (upd (upd (upd ft 71 (nI an1)) 72 (nI an2)) 73 (nI an3)) 74 (nI an4)) 75 (nI an5)) 3 (nI 6))))] H := hP
                have hD : va_D A [(mrf, .inl (y 0, 3, .inl frf)), (mo, .inr (11, [.ref to, .ref ke, .ref ik, .ref mrf, .long mab, .long mbl, .ref ha, .ref r0, .ref mbr, .ref mbp, .ref mby, .int (nI bl), .int (nI ta), .int (nI tl), .int (nI tk), .int vv, .ref an, .ref va])), (to, .inl (y 0, 228, .inl (upd (upd (upd (upd (upd (upd ft 71 (nI an1)) 72 (nI an2)) 73 (nI an3)) 74 (nI an4)) 75 (nI an5)) 3 (nI 6))))] := hD
                refine lv_aload_n hx hb dX11_note_139 rfl (lv_at hl 1 rfl) ?_
                refine va_get (D := D) (ci := 11) (v := .ref to) (C := RX11) (T := TX11) (N := 18) hx hb hts iw11 hown hK hP 1 rfl rfl 0 (by decide) fw2 (fun _ h9 => h9) rfl dX11_note_140 ?_
                refine lv_iconst (v := 3) hx hb dX11_note_143 (by decide) ?_
                refine va_iald hx hb hK hP 2 0 rfl rfl (by unfold vp_in; decide) dX11_note_144 ?_
                rw [show ((3 : Int32)).toNatClampNeg = 3 from rfl]
                rw [show ((upd (upd (upd (upd (upd (upd ft 71 (nI an1)) 72 (nI an2)) 73 (nI an3)) 74 (nI an4)) 75 (nI an5)) 3 (nI 6)) 3) = (nI 6) from hk254]
                exact W.iret (v := (nI 6)) hx hb hr (fun tZ ht hW => ⟨⟨(nI 6), ((upd (upd (upd (upd (upd (upd ft 71 (nI an1)) 72 (nI an2)) 73 (nI an3)) 74 (nI an4)) 75 (nI an5)) 3 (nI 6))), rfl, ⟨hr249, hk250, hk251, hk252, hk254, hk253, by first | omega | (dsimp only; omega), rfl⟩, by rw [ht]; exact hP.sub [1, 0, 2] rfl, hD.sub [1, 0, 2] (by decide) rfl⟩, hS.F ht⟩) hS.2.2 dX11_note_145
            · skip
              have h38 : no = 6 := (nI_eq (a := no) (b := 6) (by omega) (by omega)).mp h38
              exact absurd h38 (by omega)
          · skip
            exact absurd ⟨an5, by omega, by omega, rfl⟩ h36
        · skip
          exact absurd ⟨an4, by omega, by omega, rfl⟩ h28
      · skip
        exact absurd ⟨an3, by omega, by omega, rfl⟩ h21
    · skip
      exact absurd ⟨an2, by omega, by omega, rfl⟩ h14
  · skip
    exact absurd ⟨an1, by omega, rfl⟩ h7

set_option maxHeartbeats 4000000 in
set_option maxRecDepth 100000 in
theorem gx_rains_ok (l : Launch) (D : va_G) (y : Nat → ClassId) (g : Nat) (kk : Nat) (nw : Nat) (im : Nat) (kp : Nat) (tx : Nat) (tr : Nat) (be : Nat) (sh : Nat) (sd : Nat) (rf : Nat) (ab : Int32) (bl : Int32) (frf : Nat → Int32) (nk : Nat) (nd : Nat) (ne : Nat) (nm : Nat) (nn : Nat) (fi : Nat) (gl : Nat) (un : Nat) (mi : Nat) (no : Nat) (nd : Nat) (nl : Nat) (na : Nat) (ns : Nat) (nst : Int32) (ncl : Int32) (nnu : Int32) (nfl : Nat → Int32) (nfa : Nat → Int32) (nfs : Nat → Int32) (fk : Nat → Int32) (k0 : Nat) (k1 : Nat) (k2 : Nat) (k3 : Nat) (k4 : Nat) (k5 : Nat) (fq : Nat → Option Nat) (tl : Nat) (ta : Nat) (ts : Nat) (tst : Int32) (tcl : Int32) (tnu : Int32) (tfl : Nat → Int32) (tfa : Nat → Int32) (tfs : Nat → Int32) (an1 : Nat) (an2 : Nat) (hfi : fi ≤ 6) (hgl : gl ≤ 5) (hun : un ≤ 8) (hmi : mi ≤ 4) (hno : no ≤ 6) (hk : kw_bd 6 6 fk) (hq0 : fq 0 = some k0) (hq1 : fq 1 = some k1) (hq2 : fq 2 = some k2) (hq3 : fq 3 = some k3) (hq4 : fq 4 = some k4) (hq5 : fq 5 = some k5) (hna : kw_bd 6 5 nfa) (hta : kw_bd 6 5 tfa) (hB0_ : an1 < fi) (hB1_ : an2 ≤ 10) : kw_Mi l yX10_rains wsX10_rains ({ frames := 5, cells := 0, slots := 0, locals := 153 }) D y [.ref g, .int (nI an1), .int (nI an2)] [(g, .inr (10, [.ref kk, .ref nw, .ref im, .ref kp, .ref tx, .ref tr, .ref be, .ref sh, .ref sd, .ref rf, .int ab, .int bl])), (rf, .inl (y 0, 3, .inl frf)), (nw, .inr (4, [.ref kk, .ref nk, .ref nd, .ref ne, .ref nm, .ref nn, .int (nI fi), .int (nI gl), .int (nI un), .int (nI mi), .int (nI no)])), (nk, .inl (y 0, 6, .inl fk)), (nd, .inr (1, [.ref nl, .ref na, .ref ns, .int nst, .int ncl, .int nnu])), (nl, .inl (y 0, 6, .inl nfl)), (na, .inl (y 0, 5, .inl nfa)), (ns, .inl (y 0, 5, .inl nfs)), (tr, .inr (1, [.ref tl, .ref ta, .ref ts, .int tst, .int tcl, .int tnu])), (tl, .inl (y 0, 6, .inl tfl)), (ta, .inl (y 0, 5, .inl tfa)), (ts, .inl (y 0, 5, .inl tfs)), (kk, .inl (y 5, 6, .inr (.inr (.inr (.inr fq))))), (k0, .inr (5, [])), (k1, .inr (8, [])), (k2, .inr (9, [])), (k3, .inr (6, [])), (k4, .inr (2, [])), (k5, .inr (3, []))] (fun (r : Int32) (u : Int32 × Int32) => kw_bd 6 5 (va_cpy nfa tfa 0 0 5) ∧ r = 1) (fun u => [(g, .inr (10, [.ref kk, .ref nw, .ref im, .ref kp, .ref tx, .ref tr, .ref be, .ref sh, .ref sd, .ref rf, .int u.1, .int u.2])), (rf, .inl (y 0, 3, .inl frf)), (nw, .inr (4, [.ref kk, .ref nk, .ref nd, .ref ne, .ref nm, .ref nn, .int (nI fi), .int (nI gl), .int (nI un), .int (nI mi), .int (nI no)])), (nk, .inl (y 0, 6, .inl fk)), (nd, .inr (1, [.ref nl, .ref na, .ref ns, .int nst, .int ncl, .int nnu])), (nl, .inl (y 0, 6, .inl nfl)), (na, .inl (y 0, 5, .inl nfa)), (ns, .inl (y 0, 5, .inl nfs)), (tr, .inr (1, [.ref tl, .ref ta, .ref ts, .int nst, .int (if (ncl + 5) < 9 then (ncl + 5) else 9), .int nnu])), (tl, .inl (y 0, 6, .inl (va_cpy nfl tfl 0 0 6))), (ta, .inl (y 0, 5, .inl (va_cpy nfa tfa 0 0 5))), (ts, .inl (y 0, 5, .inl (va_cpy nfs tfs 0 0 5))), (kk, .inl (y 5, 6, .inr (.inr (.inr (.inr fq))))), (k0, .inr (5, [])), (k1, .inr (8, [])), (k2, .inr (9, [])), (k3, .inr (6, [])), (k4, .inr (2, [])), (k5, .inr (3, []))]) 0 0 := by
  refine kw_Mi.of (cc := cX10_rains) (maxL := 7) (ret := (some .int)) (by decide) rfl ?_
  intro pZ eZ s mZ beZ meZ cZ A hE
  obtain ⟨hx, hb, hr, hml, hts, hown, hlocks, hin, hA, hP, hD, hK, hN⟩ := hE
  have hS : va_S A s.heap s.heap [] := va_S.rf
  have hl := lv_entry ([.ref g, .int (nI an1), .int (nI an2)]) (n := 7) (Nat.le_of_ble_eq_true rfl)
  rw [lg_entry_eq]
  generalize (lg_sl ([.ref g, .int (nI an1), .int (nI an2)]) ++ List.replicate (7 - (lg_sl ([.ref g, .int (nI an1), .int (nI an2)])).length) Slot.unset).toArray = ls at hl ⊢
  have hl : lv_has ls 7 [(0, .ref g), (1, .int (nI an1)), (2, .int (nI an2))] := hl
  have fw1 := hts (.fieldLink RX10 36 "GleanDusk" "now" "LGleanDusk$Parish;") (List.mem_of_getElem? (i := 1) rfl)
  have fw2 := hts (.fieldLink RX10 140 "GleanDusk$Parish" "dusk" "LGleanDusk$Dusk;") (List.mem_of_getElem? (i := 2) rfl)
  have fw3 := hts (.fieldLink RX10 151 "GleanDusk$Dusk" "step" "I") (List.mem_of_getElem? (i := 3) rfl)
  have fw4 := hts (.fieldLink RX10 58 "GleanDusk" "trial" "LGleanDusk$Dusk;") (List.mem_of_getElem? (i := 4) rfl)
  have fw5 := hts (.fieldLink RX10 173 "GleanDusk$Dusk" "cloud" "I") (List.mem_of_getElem? (i := 5) rfl)
  have fw6 := hts (.methodLink RX10 204 Lib.Math.min.name) (List.mem_of_getElem? (i := 6) rfl)
  have fw7 := hts (.static Lib.Math.min.name) (List.mem_of_getElem? (i := 7) rfl)
  have fw8 := hts (.initialized "java/lang/Math") (List.mem_of_getElem? (i := 8) rfl)
  have fw9 := hts (.code Lib.Math.min.name Lib.Math.min.code 2 (some .int)) (List.mem_of_getElem? (i := 9) rfl)
  have fw10 := hts (.fieldLink RX10 79 "GleanDusk" "above" "I") (List.mem_of_getElem? (i := 10) rfl)
  have fw11 := hts (.fieldLink RX10 83 "GleanDusk" "below" "I") (List.mem_of_getElem? (i := 11) rfl)
  have iw10 : ∀ w ∈ wsX100, w ∈ wsX10_rains := fun _ h => List.mem_cons_of_mem _ (List.mem_append_left _ (List.mem_append_left _ (List.mem_append_right _ h)))
  have iw4 : ∀ w ∈ wsX40, w ∈ wsX10_rains := fun _ h => List.mem_cons_of_mem _ (List.mem_append_left _ (List.mem_append_right _ h))
  have iw1 : ∀ w ∈ wsX10, w ∈ wsX10_rains := fun _ h => List.mem_cons_of_mem _ (List.mem_append_right _ h)
  refine lv_aload_n hx hb dX10_rains_0 rfl (lv_at hl 0 rfl) ?_
  refine va_get (D := D) (ci := 10) (v := .ref nw) (C := RX10) (T := TX10) (N := 12) hx hb hts iw10 hown hK hP 0 rfl rfl 1 (by decide) fw1 (fun _ h9 => h9) rfl dX10_rains_1 ?_
  refine lv_iload_n hx hb dX10_rains_4 rfl (lv_at hl 1 rfl) ?_
  have hs1 : kw_Split [(g, .inr (10, [.ref kk, .ref nw, .ref im, .ref kp, .ref tx, .ref tr, .ref be, .ref sh, .ref sd, .ref rf, .int ab, .int bl])), (rf, .inl (y 0, 3, .inl frf)), (nw, .inr (4, [.ref kk, .ref nk, .ref nd, .ref ne, .ref nm, .ref nn, .int (nI fi), .int (nI gl), .int (nI un), .int (nI mi), .int (nI no)])), (nk, .inl (y 0, 6, .inl fk)), (nd, .inr (1, [.ref nl, .ref na, .ref ns, .int nst, .int ncl, .int nnu])), (nl, .inl (y 0, 6, .inl nfl)), (na, .inl (y 0, 5, .inl nfa)), (ns, .inl (y 0, 5, .inl nfs)), (tr, .inr (1, [.ref tl, .ref ta, .ref ts, .int tst, .int tcl, .int tnu])), (tl, .inl (y 0, 6, .inl tfl)), (ta, .inl (y 0, 5, .inl tfa)), (ts, .inl (y 0, 5, .inl tfs)), (kk, .inl (y 5, 6, .inr (.inr (.inr (.inr fq))))), (k0, .inr (5, [])), (k1, .inr (8, [])), (k2, .inr (9, [])), (k3, .inr (6, [])), (k4, .inr (2, [])), (k5, .inr (3, []))] [(nw, .inr (4, [.ref kk, .ref nk, .ref nd, .ref ne, .ref nm, .ref nn, .int (nI fi), .int (nI gl), .int (nI un), .int (nI mi), .int (nI no)]))] [(g, .inr (10, [.ref kk, .ref nw, .ref im, .ref kp, .ref tx, .ref tr, .ref be, .ref sh, .ref sd, .ref rf, .int ab, .int bl])), (rf, .inl (y 0, 3, .inl frf)), (nk, .inl (y 0, 6, .inl fk)), (nd, .inr (1, [.ref nl, .ref na, .ref ns, .int nst, .int ncl, .int nnu])), (nl, .inl (y 0, 6, .inl nfl)), (na, .inl (y 0, 5, .inl nfa)), (ns, .inl (y 0, 5, .inl nfs)), (tr, .inr (1, [.ref tl, .ref ta, .ref ts, .int tst, .int tcl, .int tnu])), (tl, .inl (y 0, 6, .inl tfl)), (ta, .inl (y 0, 5, .inl tfa)), (ts, .inl (y 0, 5, .inl tfs)), (kk, .inl (y 5, 6, .inr (.inr (.inr (.inr fq))))), (k0, .inr (5, [])), (k1, .inr (8, [])), (k2, .inr (9, [])), (k3, .inr (6, [])), (k4, .inr (2, [])), (k5, .inr (3, []))] [2] [0, 1, 3, 4, 5, 6, 7, 8, 9, 10, 11, 12, 13, 14, 15, 16, 17, 18] := ⟨rfl, rfl, rfl, rfl, rfl, by decide⟩
  refine kw_go_i hs1 hP hD hS hA (va_runV (As := [.int (nI an1)]) (rest := []) ⟨hx, hb, hml, hown, hts⟩ (gc_hasField l D y nw kk nk nd ne nm nn fi gl un mi no (nI an1) hfi hgl hun hmi hno _) (cwV 1 hts gX10_rains_X4_hasField rfl rfl rfl (by decide +kernel) ⟨Nat.le_of_ble_eq_true rfl, Nat.le_of_ble_eq_true rfl⟩) (kw_PreV (ci := 4) (q0 := 2) hs1 hP hD hK hN rfl rfl) rfl rfl hl.1 rfl (lv_room (Nat.le_of_ble_eq_true rfl)) dX10_rains_5 ⟨Nat.le_of_ble_eq_true rfl, Nat.le_of_ble_eq_true rfl⟩) (fun r2 u3 H locs hq hP hD hS => ?_)
  rcases hq with ⟨j4, h5, h6, rfl⟩ | ⟨h7, rfl⟩
  · skip
    have h6 : an1 = j4 := (nI_eq (a := an1) (b := j4) (by omega) (by omega)).mp h6
    have hP : va_P D vwCl [(g, .inr (10, [.ref kk, .ref nw, .ref im, .ref kp, .ref tx, .ref tr, .ref be, .ref sh, .ref sd, .ref rf, .int ab, .int bl])), (rf, .inl (y 0, 3, .inl frf)), (nk, .inl (y 0, 6, .inl fk)), (nd, .inr (1, [.ref nl, .ref na, .ref ns, .int nst, .int ncl, .int nnu])), (nl, .inl (y 0, 6, .inl nfl)), (na, .inl (y 0, 5, .inl nfa)), (ns, .inl (y 0, 5, .inl nfs)), (tr, .inr (1, [.ref tl, .ref ta, .ref ts, .int tst, .int tcl, .int tnu])), (tl, .inl (y 0, 6, .inl tfl)), (ta, .inl (y 0, 5, .inl tfa)), (ts, .inl (y 0, 5, .inl tfs)), (kk, .inl (y 5, 6, .inr (.inr (.inr (.inr fq))))), (k0, .inr (5, [])), (k1, .inr (8, [])), (k2, .inr (9, [])), (k3, .inr (6, [])), (k4, .inr (2, [])), (k5, .inr (3, [])), (nw, .inr (4, [.ref kk, .ref nk, .ref nd, .ref ne, .ref nm, .ref nn, .int (nI fi), .int (nI gl), .int (nI un), .int (nI mi), .int (nI no)]))] H := hP
    have hD : va_D A [(g, .inr (10, [.ref kk, .ref nw, .ref im, .ref kp, .ref tx, .ref tr, .ref be, .ref sh, .ref sd, .ref rf, .int ab, .int bl])), (rf, .inl (y 0, 3, .inl frf)), (nk, .inl (y 0, 6, .inl fk)), (nd, .inr (1, [.ref nl, .ref na, .ref ns, .int nst, .int ncl, .int nnu])), (nl, .inl (y 0, 6, .inl nfl)), (na, .inl (y 0, 5, .inl nfa)), (ns, .inl (y 0, 5, .inl nfs)), (tr, .inr (1, [.ref tl, .ref ta, .ref ts, .int tst, .int tcl, .int tnu])), (tl, .inl (y 0, 6, .inl tfl)), (ta, .inl (y 0, 5, .inl tfa)), (ts, .inl (y 0, 5, .inl tfs)), (kk, .inl (y 5, 6, .inr (.inr (.inr (.inr fq))))), (k0, .inr (5, [])), (k1, .inr (8, [])), (k2, .inr (9, [])), (k3, .inr (6, [])), (k4, .inr (2, [])), (k5, .inr (3, [])), (nw, .inr (4, [.ref kk, .ref nk, .ref nd, .ref ne, .ref nm, .ref nn, .int (nI fi), .int (nI gl), .int (nI un), .int (nI mi), .int (nI no)]))] := hD
    refine lv_if_eq (tgt := 21) hx hb dX10_rains_8 (by decide) (fun h9 => absurd h9 (by decide)) (fun _ => ?_)
    refine lv_iload_n hx hb dX10_rains_11 rfl (lv_at hl 2 rfl) ?_
    refine lv_iconst (v := 0) hx hb dX10_rains_12 (by decide) ?_
    refine lv_bipush (v := 10) hx hb dX10_rains_13 (by decide) ?_
    have hs8 : kw_Split [(g, .inr (10, [.ref kk, .ref nw, .ref im, .ref kp, .ref tx, .ref tr, .ref be, .ref sh, .ref sd, .ref rf, .int ab, .int bl])), (rf, .inl (y 0, 3, .inl frf)), (nk, .inl (y 0, 6, .inl fk)), (nd, .inr (1, [.ref nl, .ref na, .ref ns, .int nst, .int ncl, .int nnu])), (nl, .inl (y 0, 6, .inl nfl)), (na, .inl (y 0, 5, .inl nfa)), (ns, .inl (y 0, 5, .inl nfs)), (tr, .inr (1, [.ref tl, .ref ta, .ref ts, .int tst, .int tcl, .int tnu])), (tl, .inl (y 0, 6, .inl tfl)), (ta, .inl (y 0, 5, .inl tfa)), (ts, .inl (y 0, 5, .inl tfs)), (kk, .inl (y 5, 6, .inr (.inr (.inr (.inr fq))))), (k0, .inr (5, [])), (k1, .inr (8, [])), (k2, .inr (9, [])), (k3, .inr (6, [])), (k4, .inr (2, [])), (k5, .inr (3, [])), (nw, .inr (4, [.ref kk, .ref nk, .ref nd, .ref ne, .ref nm, .ref nn, .int (nI fi), .int (nI gl), .int (nI un), .int (nI mi), .int (nI no)]))] [] [(g, .inr (10, [.ref kk, .ref nw, .ref im, .ref kp, .ref tx, .ref tr, .ref be, .ref sh, .ref sd, .ref rf, .int ab, .int bl])), (rf, .inl (y 0, 3, .inl frf)), (nk, .inl (y 0, 6, .inl fk)), (nd, .inr (1, [.ref nl, .ref na, .ref ns, .int nst, .int ncl, .int nnu])), (nl, .inl (y 0, 6, .inl nfl)), (na, .inl (y 0, 5, .inl nfa)), (ns, .inl (y 0, 5, .inl nfs)), (tr, .inr (1, [.ref tl, .ref ta, .ref ts, .int tst, .int tcl, .int tnu])), (tl, .inl (y 0, 6, .inl tfl)), (ta, .inl (y 0, 5, .inl tfa)), (ts, .inl (y 0, 5, .inl tfs)), (kk, .inl (y 5, 6, .inr (.inr (.inr (.inr fq))))), (k0, .inr (5, [])), (k1, .inr (8, [])), (k2, .inr (9, [])), (k3, .inr (6, [])), (k4, .inr (2, [])), (k5, .inr (3, [])), (nw, .inr (4, [.ref kk, .ref nk, .ref nd, .ref ne, .ref nm, .ref nn, .int (nI fi), .int (nI gl), .int (nI un), .int (nI mi), .int (nI no)]))] [] [0, 1, 2, 3, 4, 5, 6, 7, 8, 9, 10, 11, 12, 13, 14, 15, 16, 17, 18] := ⟨rfl, rfl, rfl, rfl, rfl, by decide⟩
    refine kw_go_i hs8 hP hD hS hA (va_runS (As := [.int (nI an2), .int 0, .int 10]) (rest := []) ⟨hx, hb, hml, hown, hts⟩ (gc_isIn l D y (nI an2) 0 10 (by omega) (by omega) _) (va_cwS 3 hts gX10_rains_X10_isIn rfl rfl rfl (by decide +kernel) ⟨Nat.le_of_ble_eq_true rfl, Nat.le_of_ble_eq_true rfl⟩) (kw_PreS hs8 hP hD hK hN) rfl rfl hl.1 rfl (lv_room (Nat.le_of_ble_eq_true rfl)) dX10_rains_15 ⟨Nat.le_of_ble_eq_true rfl, Nat.le_of_ble_eq_true rfl⟩) (fun r9 u10 H locs hq hP hD hS => ?_)
    rcases hq with ⟨j11, h12, h13, h14, rfl⟩ | ⟨h15, rfl⟩
    · skip
      have h14 : an2 = j11 := (nI_eq (a := an2) (b := j11) (by omega) (by omega)).mp h14
      have hP : va_P D vwCl [(g, .inr (10, [.ref kk, .ref nw, .ref im, .ref kp, .ref tx, .ref tr, .ref be, .ref sh, .ref sd, .ref rf, .int ab, .int bl])), (rf, .inl (y 0, 3, .inl frf)), (nk, .inl (y 0, 6, .inl fk)), (nd, .inr (1, [.ref nl, .ref na, .ref ns, .int nst, .int ncl, .int nnu])), (nl, .inl (y 0, 6, .inl nfl)), (na, .inl (y 0, 5, .inl nfa)), (ns, .inl (y 0, 5, .inl nfs)), (tr, .inr (1, [.ref tl, .ref ta, .ref ts, .int tst, .int tcl, .int tnu])), (tl, .inl (y 0, 6, .inl tfl)), (ta, .inl (y 0, 5, .inl tfa)), (ts, .inl (y 0, 5, .inl tfs)), (kk, .inl (y 5, 6, .inr (.inr (.inr (.inr fq))))), (k0, .inr (5, [])), (k1, .inr (8, [])), (k2, .inr (9, [])), (k3, .inr (6, [])), (k4, .inr (2, [])), (k5, .inr (3, [])), (nw, .inr (4, [.ref kk, .ref nk, .ref nd, .ref ne, .ref nm, .ref nn, .int (nI fi), .int (nI gl), .int (nI un), .int (nI mi), .int (nI no)]))] H := hP
      have hD : va_D A [(g, .inr (10, [.ref kk, .ref nw, .ref im, .ref kp, .ref tx, .ref tr, .ref be, .ref sh, .ref sd, .ref rf, .int ab, .int bl])), (rf, .inl (y 0, 3, .inl frf)), (nk, .inl (y 0, 6, .inl fk)), (nd, .inr (1, [.ref nl, .ref na, .ref ns, .int nst, .int ncl, .int nnu])), (nl, .inl (y 0, 6, .inl nfl)), (na, .inl (y 0, 5, .inl nfa)), (ns, .inl (y 0, 5, .inl nfs)), (tr, .inr (1, [.ref tl, .ref ta, .ref ts, .int tst, .int tcl, .int tnu])), (tl, .inl (y 0, 6, .inl tfl)), (ta, .inl (y 0, 5, .inl tfa)), (ts, .inl (y 0, 5, .inl tfs)), (kk, .inl (y 5, 6, .inr (.inr (.inr (.inr fq))))), (k0, .inr (5, [])), (k1, .inr (8, [])), (k2, .inr (9, [])), (k3, .inr (6, [])), (k4, .inr (2, [])), (k5, .inr (3, [])), (nw, .inr (4, [.ref kk, .ref nk, .ref nd, .ref ne, .ref nm, .ref nn, .int (nI fi), .int (nI gl), .int (nI un), .int (nI mi), .int (nI no)]))] := hD
      refine lv_if_ne (tgt := 26) hx hb dX10_rains_18 (by decide) (fun _ => ?_) (fun h9 => absurd h9 (by decide))
      refine lv_aload_n hx hb dX10_rains_26 rfl (lv_at hl 0 rfl) ?_
      refine va_get (D := D) (ci := 10) (v := .ref nw) (C := RX10) (T := TX10) (N := 12) hx hb hts iw10 hown hK hP 0 rfl rfl 1 (by decide) fw1 (fun _ h9 => h9) rfl dX10_rains_27 ?_
      refine lv_aload_n hx hb dX10_rains_30 rfl (lv_at hl 0 rfl) ?_
      refine va_get (D := D) (ci := 10) (v := .ref nw) (C := RX10) (T := TX10) (N := 12) hx hb hts iw10 hown hK hP 0 rfl rfl 1 (by decide) fw1 (fun _ h9 => h9) rfl dX10_rains_31 ?_
      refine va_get (D := D) (ci := 4) (v := .ref nd) (C := RX4) (T := TX4) (N := 11) hx hb hts iw4 hown hK hP 18 rfl rfl 2 (by decide) fw2 (fun _ h9 => h9) rfl dX10_rains_34 ?_
      refine lv_iload_n hx hb dX10_rains_37 rfl (lv_at hl 1 rfl) ?_
      refine lv_aload_n hx hb dX10_rains_38 rfl (lv_at hl 0 rfl) ?_
      refine va_get (D := D) (ci := 10) (v := .ref nw) (C := RX10) (T := TX10) (N := 12) hx hb hts iw10 hown hK hP 0 rfl rfl 1 (by decide) fw1 (fun _ h9 => h9) rfl dX10_rains_39 ?_
      refine va_get (D := D) (ci := 4) (v := .ref nd) (C := RX4) (T := TX4) (N := 11) hx hb hts iw4 hown hK hP 18 rfl rfl 2 (by decide) fw2 (fun _ h9 => h9) rfl dX10_rains_42 ?_
      refine va_get (D := D) (ci := 1) (v := .int nst) (C := RX1) (T := TX1) (N := 6) hx hb hts iw1 hown hK hP 3 rfl rfl 3 (by decide) fw3 (fun _ h9 => h9) rfl dX10_rains_45 ?_
      have hs16 : kw_Split [(g, .inr (10, [.ref kk, .ref nw, .ref im, .ref kp, .ref tx, .ref tr, .ref be, .ref sh, .ref sd, .ref rf, .int ab, .int bl])), (rf, .inl (y 0, 3, .inl frf)), (nk, .inl (y 0, 6, .inl fk)), (nd, .inr (1, [.ref nl, .ref na, .ref ns, .int nst, .int ncl, .int nnu])), (nl, .inl (y 0, 6, .inl nfl)), (na, .inl (y 0, 5, .inl nfa)), (ns, .inl (y 0, 5, .inl nfs)), (tr, .inr (1, [.ref tl, .ref ta, .ref ts, .int tst, .int tcl, .int tnu])), (tl, .inl (y 0, 6, .inl tfl)), (ta, .inl (y 0, 5, .inl tfa)), (ts, .inl (y 0, 5, .inl tfs)), (kk, .inl (y 5, 6, .inr (.inr (.inr (.inr fq))))), (k0, .inr (5, [])), (k1, .inr (8, [])), (k2, .inr (9, [])), (k3, .inr (6, [])), (k4, .inr (2, [])), (k5, .inr (3, [])), (nw, .inr (4, [.ref kk, .ref nk, .ref nd, .ref ne, .ref nm, .ref nn, .int (nI fi), .int (nI gl), .int (nI un), .int (nI mi), .int (nI no)]))] [(nw, .inr (4, [.ref kk, .ref nk, .ref nd, .ref ne, .ref nm, .ref nn, .int (nI fi), .int (nI gl), .int (nI un), .int (nI mi), .int (nI no)])), (nk, .inl (y 0, 6, .inl fk)), (nd, .inr (1, [.ref nl, .ref na, .ref ns, .int nst, .int ncl, .int nnu])), (nl, .inl (y 0, 6, .inl nfl)), (kk, .inl (y 5, 6, .inr (.inr (.inr (.inr fq))))), (k0, .inr (5, [])), (k1, .inr (8, [])), (k2, .inr (9, [])), (k3, .inr (6, [])), (k4, .inr (2, [])), (k5, .inr (3, []))] [(g, .inr (10, [.ref kk, .ref nw, .ref im, .ref kp, .ref tx, .ref tr, .ref be, .ref sh, .ref sd, .ref rf, .int ab, .int bl])), (rf, .inl (y 0, 3, .inl frf)), (na, .inl (y 0, 5, .inl nfa)), (ns, .inl (y 0, 5, .inl nfs)), (tr, .inr (1, [.ref tl, .ref ta, .ref ts, .int tst, .int tcl, .int tnu])), (tl, .inl (y 0, 6, .inl tfl)), (ta, .inl (y 0, 5, .inl tfa)), (ts, .inl (y 0, 5, .inl tfs))] [18, 2, 3, 4, 11, 12, 13, 14, 15, 16, 17] [0, 1, 5, 6, 7, 8, 9, 10] := ⟨rfl, rfl, rfl, rfl, rfl, by decide⟩
      refine kw_go_i hs16 hP hD hS hA (va_runV (As := [.ref nd, .int (nI an1), .int nst]) (rest := []) ⟨hx, hb, hml, hown, hts⟩ (gc_shows l D y nw kk nk nd ne nm nn fi gl un mi no nd nl na ns nst ncl nnu nfl fk k0 k1 k2 k3 k4 k5 fq an1 nst hfi hgl hun hmi hno hk hq0 hq1 hq2 hq3 hq4 hq5 (by omega) _) (cwV 3 hts gX10_rains_X4_shows rfl rfl rfl (by decide +kernel) ⟨Nat.le_of_ble_eq_true rfl, Nat.le_of_ble_eq_true rfl⟩) (kw_PreV (ci := 4) (q0 := 18) hs16 hP hD hK hN rfl rfl) rfl rfl hl.1 rfl (lv_room (Nat.le_of_ble_eq_true rfl)) dX10_rains_48 ⟨Nat.le_of_ble_eq_true rfl, Nat.le_of_ble_eq_true rfl⟩) (fun r17 u18 H locs hq hP hD hS => ?_)
      have hP : va_P D vwCl [(g, .inr (10, [.ref kk, .ref nw, .ref im, .ref kp, .ref tx, .ref tr, .ref be, .ref sh, .ref sd, .ref rf, .int ab, .int bl])), (rf, .inl (y 0, 3, .inl frf)), (na, .inl (y 0, 5, .inl nfa)), (ns, .inl (y 0, 5, .inl nfs)), (tr, .inr (1, [.ref tl, .ref ta, .ref ts, .int tst, .int tcl, .int tnu])), (tl, .inl (y 0, 6, .inl tfl)), (ta, .inl (y 0, 5, .inl tfa)), (ts, .inl (y 0, 5, .inl tfs)), (nw, .inr (4, [.ref kk, .ref nk, .ref nd, .ref ne, .ref nm, .ref nn, .int (nI fi), .int (nI gl), .int (nI un), .int (nI mi), .int (nI no)])), (nk, .inl (y 0, 6, .inl fk)), (nd, .inr (1, [.ref nl, .ref na, .ref ns, .int nst, .int ncl, .int nnu])), (nl, .inl (y 0, 6, .inl nfl)), (kk, .inl (y 5, 6, .inr (.inr (.inr (.inr fq))))), (k0, .inr (5, [])), (k1, .inr (8, [])), (k2, .inr (9, [])), (k3, .inr (6, [])), (k4, .inr (2, [])), (k5, .inr (3, []))] H := hP
      have hD : va_D A [(g, .inr (10, [.ref kk, .ref nw, .ref im, .ref kp, .ref tx, .ref tr, .ref be, .ref sh, .ref sd, .ref rf, .int ab, .int bl])), (rf, .inl (y 0, 3, .inl frf)), (na, .inl (y 0, 5, .inl nfa)), (ns, .inl (y 0, 5, .inl nfs)), (tr, .inr (1, [.ref tl, .ref ta, .ref ts, .int tst, .int tcl, .int tnu])), (tl, .inl (y 0, 6, .inl tfl)), (ta, .inl (y 0, 5, .inl tfa)), (ts, .inl (y 0, 5, .inl tfs)), (nw, .inr (4, [.ref kk, .ref nk, .ref nd, .ref ne, .ref nm, .ref nn, .int (nI fi), .int (nI gl), .int (nI un), .int (nI mi), .int (nI no)])), (nk, .inl (y 0, 6, .inl fk)), (nd, .inr (1, [.ref nl, .ref na, .ref ns, .int nst, .int ncl, .int nnu])), (nl, .inl (y 0, 6, .inl nfl)), (kk, .inl (y 5, 6, .inr (.inr (.inr (.inr fq))))), (k0, .inr (5, [])), (k1, .inr (8, [])), (k2, .inr (9, [])), (k3, .inr (6, [])), (k4, .inr (2, [])), (k5, .inr (3, []))] := hD
      refine lv_istore_n (lv' := [(3, .int r17), (0, .ref g), (1, .int (nI an1)), (2, .int (nI an2))]) hx hb dX10_rains_51 rfl hl (by decide) rfl (fun ls hl => ?_)
      refine lv_aload_n hx hb dX10_rains_52 rfl (lv_at hl 1 rfl) ?_
      refine va_get (D := D) (ci := 10) (v := .ref tr) (C := RX10) (T := TX10) (N := 12) hx hb hts iw10 hown hK hP 0 rfl rfl 5 (by decide) fw4 (fun _ h9 => h9) rfl dX10_rains_53 ?_
      refine lv_aload_n hx hb dX10_rains_56 rfl (lv_at hl 1 rfl) ?_
      refine va_get (D := D) (ci := 10) (v := .ref nw) (C := RX10) (T := TX10) (N := 12) hx hb hts iw10 hown hK hP 0 rfl rfl 1 (by decide) fw1 (fun _ h9 => h9) rfl dX10_rains_57 ?_
      refine va_get (D := D) (ci := 4) (v := .ref nd) (C := RX4) (T := TX4) (N := 11) hx hb hts iw4 hown hK hP 8 rfl rfl 2 (by decide) fw2 (fun _ h9 => h9) rfl dX10_rains_60 ?_
      have hs19 : kw_Split [(g, .inr (10, [.ref kk, .ref nw, .ref im, .ref kp, .ref tx, .ref tr, .ref be, .ref sh, .ref sd, .ref rf, .int ab, .int bl])), (rf, .inl (y 0, 3, .inl frf)), (na, .inl (y 0, 5, .inl nfa)), (ns, .inl (y 0, 5, .inl nfs)), (tr, .inr (1, [.ref tl, .ref ta, .ref ts, .int tst, .int tcl, .int tnu])), (tl, .inl (y 0, 6, .inl tfl)), (ta, .inl (y 0, 5, .inl tfa)), (ts, .inl (y 0, 5, .inl tfs)), (nw, .inr (4, [.ref kk, .ref nk, .ref nd, .ref ne, .ref nm, .ref nn, .int (nI fi), .int (nI gl), .int (nI un), .int (nI mi), .int (nI no)])), (nk, .inl (y 0, 6, .inl fk)), (nd, .inr (1, [.ref nl, .ref na, .ref ns, .int nst, .int ncl, .int nnu])), (nl, .inl (y 0, 6, .inl nfl)), (kk, .inl (y 5, 6, .inr (.inr (.inr (.inr fq))))), (k0, .inr (5, [])), (k1, .inr (8, [])), (k2, .inr (9, [])), (k3, .inr (6, [])), (k4, .inr (2, [])), (k5, .inr (3, []))] [(tr, .inr (1, [.ref tl, .ref ta, .ref ts, .int tst, .int tcl, .int tnu])), (tl, .inl (y 0, 6, .inl tfl)), (ta, .inl (y 0, 5, .inl tfa)), (ts, .inl (y 0, 5, .inl tfs)), (nd, .inr (1, [.ref nl, .ref na, .ref ns, .int nst, .int ncl, .int nnu])), (nl, .inl (y 0, 6, .inl nfl)), (na, .inl (y 0, 5, .inl nfa)), (ns, .inl (y 0, 5, .inl nfs))] [(g, .inr (10, [.ref kk, .ref nw, .ref im, .ref kp, .ref tx, .ref tr, .ref be, .ref sh, .ref sd, .ref rf, .int ab, .int bl])), (rf, .inl (y 0, 3, .inl frf)), (nw, .inr (4, [.ref kk, .ref nk, .ref nd, .ref ne, .ref nm, .ref nn, .int (nI fi), .int (nI gl), .int (nI un), .int (nI mi), .int (nI no)])), (nk, .inl (y 0, 6, .inl fk)), (kk, .inl (y 5, 6, .inr (.inr (.inr (.inr fq))))), (k0, .inr (5, [])), (k1, .inr (8, [])), (k2, .inr (9, [])), (k3, .inr (6, [])), (k4, .inr (2, [])), (k5, .inr (3, []))] [4, 5, 6, 7, 10, 11, 2, 3] [0, 1, 8, 9, 12, 13, 14, 15, 16, 17, 18] := ⟨rfl, rfl, rfl, rfl, rfl, by decide⟩
      refine kw_go_v hs19 hP hD hS hA (va_runV (As := [.ref nd]) (rest := []) ⟨hx, hb, hml, hown, hts⟩ (gc_dbecome l D y tr tl ta ts tst tcl tnu tfl tfa tfs nd nl na ns nst ncl nnu nfl nfa nfs hta hna _) (cwV 1 hts gX10_rains_X1_become rfl rfl rfl (by decide +kernel) ⟨Nat.le_of_ble_eq_true rfl, Nat.le_of_ble_eq_true rfl⟩) (kw_PreV (ci := 1) (q0 := 4) hs19 hP hD hK hN rfl rfl) rfl rfl hl.1 rfl (lv_room (Nat.le_of_ble_eq_true rfl)) dX10_rains_63 ⟨Nat.le_of_ble_eq_true rfl, Nat.le_of_ble_eq_true rfl⟩) (fun u21 H locs hq hP hD hS => ?_)
      have h22 := hq
      have hP : va_P D vwCl [(g, .inr (10, [.ref kk, .ref nw, .ref im, .ref kp, .ref tx, .ref tr, .ref be, .ref sh, .ref sd, .ref rf, .int ab, .int bl])), (rf, .inl (y 0, 3, .inl frf)), (nw, .inr (4, [.ref kk, .ref nk, .ref nd, .ref ne, .ref nm, .ref nn, .int (nI fi), .int (nI gl), .int (nI un), .int (nI mi), .int (nI no)])), (nk, .inl (y 0, 6, .inl fk)), (kk, .inl (y 5, 6, .inr (.inr (.inr (.inr fq))))), (k0, .inr (5, [])), (k1, .inr (8, [])), (k2, .inr (9, [])), (k3, .inr (6, [])), (k4, .inr (2, [])), (k5, .inr (3, [])), (tr, .inr (1, [.ref tl, .ref ta, .ref ts, .int nst, .int ncl, .int nnu])), (tl, .inl (y 0, 6, .inl (va_cpy nfl tfl 0 0 6))), (ta, .inl (y 0, 5, .inl (va_cpy nfa tfa 0 0 5))), (ts, .inl (y 0, 5, .inl (va_cpy nfs tfs 0 0 5))), (nd, .inr (1, [.ref nl, .ref na, .ref ns, .int nst, .int ncl, .int nnu])), (nl, .inl (y 0, 6, .inl nfl)), (na, .inl (y 0, 5, .inl nfa)), (ns, .inl (y 0, 5, .inl nfs))] H := hP
      have hD : va_D A [(g, .inr (10, [.ref kk, .ref nw, .ref im, .ref kp, .ref tx, .ref tr, .ref be, .ref sh, .ref sd, .ref rf, .int ab, .int bl])), (rf, .inl (y 0, 3, .inl frf)), (nw, .inr (4, [.ref kk, .ref nk, .ref nd, .ref ne, .ref nm, .ref nn, .int (nI fi), .int (nI gl), .int (nI un), .int (nI mi), .int (nI no)])), (nk, .inl (y 0, 6, .inl fk)), (kk, .inl (y 5, 6, .inr (.inr (.inr (.inr fq))))), (k0, .inr (5, [])), (k1, .inr (8, [])), (k2, .inr (9, [])), (k3, .inr (6, [])), (k4, .inr (2, [])), (k5, .inr (3, [])), (tr, .inr (1, [.ref tl, .ref ta, .ref ts, .int nst, .int ncl, .int nnu])), (tl, .inl (y 0, 6, .inl (va_cpy nfl tfl 0 0 6))), (ta, .inl (y 0, 5, .inl (va_cpy nfa tfa 0 0 5))), (ts, .inl (y 0, 5, .inl (va_cpy nfs tfs 0 0 5))), (nd, .inr (1, [.ref nl, .ref na, .ref ns, .int nst, .int ncl, .int nnu])), (nl, .inl (y 0, 6, .inl nfl)), (na, .inl (y 0, 5, .inl nfa)), (ns, .inl (y 0, 5, .inl nfs))] := hD
      refine lv_aload_n hx hb dX10_rains_66 rfl (lv_at hl 1 rfl) ?_
      refine va_get (D := D) (ci := 10) (v := .ref tr) (C := RX10) (T := TX10) (N := 12) hx hb hts iw10 hown hK hP 0 rfl rfl 5 (by decide) fw4 (fun _ h9 => h9) rfl dX10_rains_67 ?_
      refine lv_bipush (v := 9) hx hb dX10_rains_70 (by decide) ?_
      refine lv_aload_n hx hb dX10_rains_72 rfl (lv_at hl 1 rfl) ?_
      refine va_get (D := D) (ci := 10) (v := .ref tr) (C := RX10) (T := TX10) (N := 12) hx hb hts iw10 hown hK hP 0 rfl rfl 5 (by decide) fw4 (fun _ h9 => h9) rfl dX10_rains_73 ?_
      refine va_get (D := D) (ci := 1) (v := .int ncl) (C := RX1) (T := TX1) (N := 6) hx hb hts iw1 hown hK hP 11 rfl rfl 4 (by decide) fw5 (fun _ h9 => h9) rfl dX10_rains_76 ?_
      refine lv_iconst (v := 5) hx hb dX10_rains_79 (by decide) ?_
      refine lv_iadd hx hb dX10_rains_80 ?_
      refine va_mmin hx hb (hml.trans hl.1.symm) hown fw6 fw7 fw8 fw9 (Nat.le_of_ble_eq_true rfl) (Nat.le_of_ble_eq_true rfl) (Nat.le_of_ble_eq_true rfl) (Nat.le_of_ble_eq_true rfl) dX10_rains_81 ?_
      refine va_put (D := D) (ci := 1) (v := .int (if (ncl + 5) < 9 then (ncl + 5) else 9)) (ty := .int) (C := RX1) (T := TX1) (N := 6) hx hb hts iw1 tyX1 tyX1_ok nmX1 hown hK hP hD hS 11 rfl rfl 4 (by decide) fw5 (fun _ h9 => h9) rfl (by decide +kernel) rfl rfl (Nat.le_of_ble_eq_true rfl) dX10_rains_84 (fun H locs hP hD hS => ?_)
      have hP : va_P D vwCl [(g, .inr (10, [.ref kk, .ref nw, .ref im, .ref kp, .ref tx, .ref tr, .ref be, .ref sh, .ref sd, .ref rf, .int ab, .int bl])), (rf, .inl (y 0, 3, .inl frf)), (nw, .inr (4, [.ref kk, .ref nk, .ref nd, .ref ne, .ref nm, .ref nn, .int (nI fi), .int (nI gl), .int (nI un), .int (nI mi), .int (nI no)])), (nk, .inl (y 0, 6, .inl fk)), (kk, .inl (y 5, 6, .inr (.inr (.inr (.inr fq))))), (k0, .inr (5, [])), (k1, .inr (8, [])), (k2, .inr (9, [])), (k3, .inr (6, [])), (k4, .inr (2, [])), (k5, .inr (3, [])), (tr, .inr (1, [.ref tl, .ref ta, .ref ts, .int nst, .int (if (ncl + 5) < 9 then (ncl + 5) else 9), .int nnu])), (tl, .inl (y 0, 6, .inl (va_cpy nfl tfl 0 0 6))), (ta, .inl (y 0, 5, .inl (va_cpy nfa tfa 0 0 5))), (ts, .inl (y 0, 5, .inl (va_cpy nfs tfs 0 0 5))), (nd, .inr (1, [.ref nl, .ref na, .ref ns, .int nst, .int ncl, .int nnu])), (nl, .inl (y 0, 6, .inl nfl)), (na, .inl (y 0, 5, .inl nfa)), (ns, .inl (y 0, 5, .inl nfs))] H := hP
      have hD : va_D A [(g, .inr (10, [.ref kk, .ref nw, .ref im, .ref kp, .ref tx, .ref tr, .ref be, .ref sh, .ref sd, .ref rf, .int ab, .int bl])), (rf, .inl (y 0, 3, .inl frf)), (nw, .inr (4, [.ref kk, .ref nk, .ref nd, .ref ne, .ref nm, .ref nn, .int (nI fi), .int (nI gl), .int (nI un), .int (nI mi), .int (nI no)])), (nk, .inl (y 0, 6, .inl fk)), (kk, .inl (y 5, 6, .inr (.inr (.inr (.inr fq))))), (k0, .inr (5, [])), (k1, .inr (8, [])), (k2, .inr (9, [])), (k3, .inr (6, [])), (k4, .inr (2, [])), (k5, .inr (3, [])), (tr, .inr (1, [.ref tl, .ref ta, .ref ts, .int nst, .int (if (ncl + 5) < 9 then (ncl + 5) else 9), .int nnu])), (tl, .inl (y 0, 6, .inl (va_cpy nfl tfl 0 0 6))), (ta, .inl (y 0, 5, .inl (va_cpy nfa tfa 0 0 5))), (ts, .inl (y 0, 5, .inl (va_cpy nfs tfs 0 0 5))), (nd, .inr (1, [.ref nl, .ref na, .ref ns, .int nst, .int ncl, .int nnu])), (nl, .inl (y 0, 6, .inl nfl)), (na, .inl (y 0, 5, .inl nfa)), (ns, .inl (y 0, 5, .inl nfs))] := hD
      refine lv_aload_n hx hb dX10_rains_87 rfl (lv_at hl 1 rfl) ?_
      refine va_get (D := D) (ci := 10) (v := .ref nw) (C := RX10) (T := TX10) (N := 12) hx hb hts iw10 hown hK hP 0 rfl rfl 1 (by decide) fw1 (fun _ h9 => h9) rfl dX10_rains_88 ?_
      refine lv_aload_n hx hb dX10_rains_91 rfl (lv_at hl 1 rfl) ?_
      refine va_get (D := D) (ci := 10) (v := .ref tr) (C := RX10) (T := TX10) (N := 12) hx hb hts iw10 hown hK hP 0 rfl rfl 5 (by decide) fw4 (fun _ h9 => h9) rfl dX10_rains_92 ?_
      refine lv_iload_n hx hb dX10_rains_95 rfl (lv_at hl 2 rfl) ?_
      refine lv_aload_n hx hb dX10_rains_96 rfl (lv_at hl 1 rfl) ?_
      refine va_get (D := D) (ci := 10) (v := .ref tr) (C := RX10) (T := TX10) (N := 12) hx hb hts iw10 hown hK hP 0 rfl rfl 5 (by decide) fw4 (fun _ h9 => h9) rfl dX10_rains_97 ?_
      refine va_get (D := D) (ci := 1) (v := .int nst) (C := RX1) (T := TX1) (N := 6) hx hb hts iw1 hown hK hP 11 rfl rfl 3 (by decide) fw3 (fun _ h9 => h9) rfl dX10_rains_100 ?_
      have hs23 : kw_Split [(g, .inr (10, [.ref kk, .ref nw, .ref im, .ref kp, .ref tx, .ref tr, .ref be, .ref sh, .ref sd, .ref rf, .int ab, .int bl])), (rf, .inl (y 0, 3, .inl frf)), (nw, .inr (4, [.ref kk, .ref nk, .ref nd, .ref ne, .ref nm, .ref nn, .int (nI fi), .int (nI gl), .int (nI un), .int (nI mi), .int (nI no)])), (nk, .inl (y 0, 6, .inl fk)), (kk, .inl (y 5, 6, .inr (.inr (.inr (.inr fq))))), (k0, .inr (5, [])), (k1, .inr (8, [])), (k2, .inr (9, [])), (k3, .inr (6, [])), (k4, .inr (2, [])), (k5, .inr (3, [])), (tr, .inr (1, [.ref tl, .ref ta, .ref ts, .int nst, .int (if (ncl + 5) < 9 then (ncl + 5) else 9), .int nnu])), (tl, .inl (y 0, 6, .inl (va_cpy nfl tfl 0 0 6))), (ta, .inl (y 0, 5, .inl (va_cpy nfa tfa 0 0 5))), (ts, .inl (y 0, 5, .inl (va_cpy nfs tfs 0 0 5))), (nd, .inr (1, [.ref nl, .ref na, .ref ns, .int nst, .int ncl, .int nnu])), (nl, .inl (y 0, 6, .inl nfl)), (na, .inl (y 0, 5, .inl nfa)), (ns, .inl (y 0, 5, .inl nfs))] [(nw, .inr (4, [.ref kk, .ref nk, .ref nd, .ref ne, .ref nm, .ref nn, .int (nI fi), .int (nI gl), .int (nI un), .int (nI mi), .int (nI no)])), (nk, .inl (y 0, 6, .inl fk)), (tr, .inr (1, [.ref tl, .ref ta, .ref ts, .int nst, .int (if (ncl + 5) < 9 then (ncl + 5) else 9), .int nnu])), (tl, .inl (y 0, 6, .inl (va_cpy nfl tfl 0 0 6))), (kk, .inl (y 5, 6, .inr (.inr (.inr (.inr fq))))), (k0, .inr (5, [])), (k1, .inr (8, [])), (k2, .inr (9, [])), (k3, .inr (6, [])), (k4, .inr (2, [])), (k5, .inr (3, []))] [(g, .inr (10, [.ref kk, .ref nw, .ref im, .ref kp, .ref tx, .ref tr, .ref be, .ref sh, .ref sd, .ref rf, .int ab, .int bl])), (rf, .inl (y 0, 3, .inl frf)), (ta, .inl (y 0, 5, .inl (va_cpy nfa tfa 0 0 5))), (ts, .inl (y 0, 5, .inl (va_cpy nfs tfs 0 0 5))), (nd, .inr (1, [.ref nl, .ref na, .ref ns, .int nst, .int ncl, .int nnu])), (nl, .inl (y 0, 6, .inl nfl)), (na, .inl (y 0, 5, .inl nfa)), (ns, .inl (y 0, 5, .inl nfs))] [2, 3, 11, 12, 4, 5, 6, 7, 8, 9, 10] [0, 1, 13, 14, 15, 16, 17, 18] := ⟨rfl, rfl, rfl, rfl, rfl, by decide⟩
      refine kw_go_i hs23 hP hD hS hA (va_runV (As := [.ref tr, .int (nI an1), .int nst]) (rest := []) ⟨hx, hb, hml, hown, hts⟩ (gc_shows l D y nw kk nk nd ne nm nn fi gl un mi no tr tl ta ts nst (if (ncl + 5) < 9 then (ncl + 5) else 9) nnu (va_cpy nfl tfl 0 0 6) fk k0 k1 k2 k3 k4 k5 fq an1 nst hfi hgl hun hmi hno hk hq0 hq1 hq2 hq3 hq4 hq5 (by omega) _) (cwV 3 hts gX10_rains_X4_shows rfl rfl rfl (by decide +kernel) ⟨Nat.le_of_ble_eq_true rfl, Nat.le_of_ble_eq_true rfl⟩) (kw_PreV (ci := 4) (q0 := 2) hs23 hP hD hK hN rfl rfl) rfl rfl hl.1 rfl (lv_room (Nat.le_of_ble_eq_true rfl)) dX10_rains_103 ⟨Nat.le_of_ble_eq_true rfl, Nat.le_of_ble_eq_true rfl⟩) (fun r24 u25 H locs hq hP hD hS => ?_)
      have hP : va_P D vwCl [(g, .inr (10, [.ref kk, .ref nw, .ref im, .ref kp, .ref tx, .ref tr, .ref be, .ref sh, .ref sd, .ref rf, .int ab, .int bl])), (rf, .inl (y 0, 3, .inl frf)), (ta, .inl (y 0, 5, .inl (va_cpy nfa tfa 0 0 5))), (ts, .inl (y 0, 5, .inl (va_cpy nfs tfs 0 0 5))), (nd, .inr (1, [.ref nl, .ref na, .ref ns, .int nst, .int ncl, .int nnu])), (nl, .inl (y 0, 6, .inl nfl)), (na, .inl (y 0, 5, .inl nfa)), (ns, .inl (y 0, 5, .inl nfs)), (nw, .inr (4, [.ref kk, .ref nk, .ref nd, .ref ne, .ref nm, .ref nn, .int (nI fi), .int (nI gl), .int (nI un), .int (nI mi), .int (nI no)])), (nk, .inl (y 0, 6, .inl fk)), (tr, .inr (1, [.ref tl, .ref ta, .ref ts, .int nst, .int (if (ncl + 5) < 9 then (ncl + 5) else 9), .int nnu])), (tl, .inl (y 0, 6, .inl (va_cpy nfl tfl 0 0 6))), (kk, .inl (y 5, 6, .inr (.inr (.inr (.inr fq))))), (k0, .inr (5, [])), (k1, .inr (8, [])), (k2, .inr (9, [])), (k3, .inr (6, [])), (k4, .inr (2, [])), (k5, .inr (3, []))] H := hP
      have hD : va_D A [(g, .inr (10, [.ref kk, .ref nw, .ref im, .ref kp, .ref tx, .ref tr, .ref be, .ref sh, .ref sd, .ref rf, .int ab, .int bl])), (rf, .inl (y 0, 3, .inl frf)), (ta, .inl (y 0, 5, .inl (va_cpy nfa tfa 0 0 5))), (ts, .inl (y 0, 5, .inl (va_cpy nfs tfs 0 0 5))), (nd, .inr (1, [.ref nl, .ref na, .ref ns, .int nst, .int ncl, .int nnu])), (nl, .inl (y 0, 6, .inl nfl)), (na, .inl (y 0, 5, .inl nfa)), (ns, .inl (y 0, 5, .inl nfs)), (nw, .inr (4, [.ref kk, .ref nk, .ref nd, .ref ne, .ref nm, .ref nn, .int (nI fi), .int (nI gl), .int (nI un), .int (nI mi), .int (nI no)])), (nk, .inl (y 0, 6, .inl fk)), (tr, .inr (1, [.ref tl, .ref ta, .ref ts, .int nst, .int (if (ncl + 5) < 9 then (ncl + 5) else 9), .int nnu])), (tl, .inl (y 0, 6, .inl (va_cpy nfl tfl 0 0 6))), (kk, .inl (y 5, 6, .inr (.inr (.inr (.inr fq))))), (k0, .inr (5, [])), (k1, .inr (8, [])), (k2, .inr (9, [])), (k3, .inr (6, [])), (k4, .inr (2, [])), (k5, .inr (3, []))] := hD
      refine lv_istore (lv' := [(4, .int r24), (3, .int r17), (0, .ref g), (1, .int (nI an1)), (2, .int (nI an2))]) hx hb dX10_rains_106 hl (by decide) rfl (fun ls hl => ?_)
      refine lv_iload_n hx hb dX10_rains_108 rfl (lv_at hl 4 rfl) ?_
      refine lv_iload hx hb dX10_rains_109 (lv_at hl 0 rfl) ?_
      refine lv_imul hx hb dX10_rains_111 ?_
      refine lv_bipush (v := 10) hx hb dX10_rains_112 (by decide) ?_
      refine lv_iload_n hx hb dX10_rains_114 rfl (lv_at hl 4 rfl) ?_
      refine lv_isub hx hb dX10_rains_115 ?_
      refine lv_iload_n hx hb dX10_rains_116 rfl (lv_at hl 1 rfl) ?_
      refine lv_imul hx hb dX10_rains_117 ?_
      refine lv_iadd hx hb dX10_rains_118 ?_
      refine lv_istore (lv' := [(5, .int (((nI an2) * r24) + ((10 - (nI an2)) * r17))), (4, .int r24), (3, .int r17), (0, .ref g), (1, .int (nI an1)), (2, .int (nI an2))]) hx hb dX10_rains_119 hl (by decide) rfl (fun ls hl => ?_)
      refine lv_iload hx hb dX10_rains_121 (lv_at hl 0 rfl) ?_
      refine lv_bipush (v := 10) hx hb dX10_rains_123 (by decide) ?_
      have hs26 : kw_Split [(g, .inr (10, [.ref kk, .ref nw, .ref im, .ref kp, .ref tx, .ref tr, .ref be, .ref sh, .ref sd, .ref rf, .int ab, .int bl])), (rf, .inl (y 0, 3, .inl frf)), (ta, .inl (y 0, 5, .inl (va_cpy nfa tfa 0 0 5))), (ts, .inl (y 0, 5, .inl (va_cpy nfs tfs 0 0 5))), (nd, .inr (1, [.ref nl, .ref na, .ref ns, .int nst, .int ncl, .int nnu])), (nl, .inl (y 0, 6, .inl nfl)), (na, .inl (y 0, 5, .inl nfa)), (ns, .inl (y 0, 5, .inl nfs)), (nw, .inr (4, [.ref kk, .ref nk, .ref nd, .ref ne, .ref nm, .ref nn, .int (nI fi), .int (nI gl), .int (nI un), .int (nI mi), .int (nI no)])), (nk, .inl (y 0, 6, .inl fk)), (tr, .inr (1, [.ref tl, .ref ta, .ref ts, .int nst, .int (if (ncl + 5) < 9 then (ncl + 5) else 9), .int nnu])), (tl, .inl (y 0, 6, .inl (va_cpy nfl tfl 0 0 6))), (kk, .inl (y 5, 6, .inr (.inr (.inr (.inr fq))))), (k0, .inr (5, [])), (k1, .inr (8, [])), (k2, .inr (9, [])), (k3, .inr (6, [])), (k4, .inr (2, [])), (k5, .inr (3, []))] [] [(g, .inr (10, [.ref kk, .ref nw, .ref im, .ref kp, .ref tx, .ref tr, .ref be, .ref sh, .ref sd, .ref rf, .int ab, .int bl])), (rf, .inl (y 0, 3, .inl frf)), (ta, .inl (y 0, 5, .inl (va_cpy nfa tfa 0 0 5))), (ts, .inl (y 0, 5, .inl (va_cpy nfs tfs 0 0 5))), (nd, .inr (1, [.ref nl, .ref na, .ref ns, .int nst, .int ncl, .int nnu])), (nl, .inl (y 0, 6, .inl nfl)), (na, .inl (y 0, 5, .inl nfa)), (ns, .inl (y 0, 5, .inl nfs)), (nw, .inr (4, [.ref kk, .ref nk, .ref nd, .ref ne, .ref nm, .ref nn, .int (nI fi), .int (nI gl), .int (nI un), .int (nI mi), .int (nI no)])), (nk, .inl (y 0, 6, .inl fk)), (tr, .inr (1, [.ref tl, .ref ta, .ref ts, .int nst, .int (if (ncl + 5) < 9 then (ncl + 5) else 9), .int nnu])), (tl, .inl (y 0, 6, .inl (va_cpy nfl tfl 0 0 6))), (kk, .inl (y 5, 6, .inr (.inr (.inr (.inr fq))))), (k0, .inr (5, [])), (k1, .inr (8, [])), (k2, .inr (9, [])), (k3, .inr (6, [])), (k4, .inr (2, [])), (k5, .inr (3, []))] [] [0, 1, 2, 3, 4, 5, 6, 7, 8, 9, 10, 11, 12, 13, 14, 15, 16, 17, 18] := ⟨rfl, rfl, rfl, rfl, rfl, by decide⟩
      refine kw_go_i hs26 hP hD hS hA (va_runS (As := [.int (((nI an2) * r24) + ((10 - (nI an2)) * r17)), .int 10]) (rest := []) ⟨hx, hb, hml, hown, hts⟩ (gc_commonDivisor l D y (((nI an2) * r24) + ((10 - (nI an2)) * r17)) 10  _) (va_cwS 2 hts gX10_rains_X10_commonDivisor rfl rfl rfl (by decide +kernel) ⟨Nat.le_of_ble_eq_true rfl, Nat.le_of_ble_eq_true rfl⟩) (kw_PreS hs26 hP hD hK hN) rfl rfl hl.1 rfl (lv_room (Nat.le_of_ble_eq_true rfl)) dX10_rains_125 ⟨Nat.le_of_ble_eq_true rfl, Nat.le_of_ble_eq_true rfl⟩) (fun r27 u28 H locs hq hP hD hS => ?_)
      have h29 := hq
      have hP : va_P D vwCl [(g, .inr (10, [.ref kk, .ref nw, .ref im, .ref kp, .ref tx, .ref tr, .ref be, .ref sh, .ref sd, .ref rf, .int ab, .int bl])), (rf, .inl (y 0, 3, .inl frf)), (ta, .inl (y 0, 5, .inl (va_cpy nfa tfa 0 0 5))), (ts, .inl (y 0, 5, .inl (va_cpy nfs tfs 0 0 5))), (nd, .inr (1, [.ref nl, .ref na, .ref ns, .int nst, .int ncl, .int nnu])), (nl, .inl (y 0, 6, .inl nfl)), (na, .inl (y 0, 5, .inl nfa)), (ns, .inl (y 0, 5, .inl nfs)), (nw, .inr (4, [.ref kk, .ref nk, .ref nd, .ref ne, .ref nm, .ref nn, .int (nI fi), .int (nI gl), .int (nI un), .int (nI mi), .int (nI no)])), (nk, .inl (y 0, 6, .inl fk)), (tr, .inr (1, [.ref tl, .ref ta, .ref ts, .int nst, .int (if (ncl + 5) < 9 then (ncl + 5) else 9), .int nnu])), (tl, .inl (y 0, 6, .inl (va_cpy nfl tfl 0 0 6))), (kk, .inl (y 5, 6, .inr (.inr (.inr (.inr fq))))), (k0, .inr (5, [])), (k1, .inr (8, [])), (k2, .inr (9, [])), (k3, .inr (6, [])), (k4, .inr (2, [])), (k5, .inr (3, []))] H := hP
      have hD : va_D A [(g, .inr (10, [.ref kk, .ref nw, .ref im, .ref kp, .ref tx, .ref tr, .ref be, .ref sh, .ref sd, .ref rf, .int ab, .int bl])), (rf, .inl (y 0, 3, .inl frf)), (ta, .inl (y 0, 5, .inl (va_cpy nfa tfa 0 0 5))), (ts, .inl (y 0, 5, .inl (va_cpy nfs tfs 0 0 5))), (nd, .inr (1, [.ref nl, .ref na, .ref ns, .int nst, .int ncl, .int nnu])), (nl, .inl (y 0, 6, .inl nfl)), (na, .inl (y 0, 5, .inl nfa)), (ns, .inl (y 0, 5, .inl nfs)), (nw, .inr (4, [.ref kk, .ref nk, .ref nd, .ref ne, .ref nm, .ref nn, .int (nI fi), .int (nI gl), .int (nI un), .int (nI mi), .int (nI no)])), (nk, .inl (y 0, 6, .inl fk)), (tr, .inr (1, [.ref tl, .ref ta, .ref ts, .int nst, .int (if (ncl + 5) < 9 then (ncl + 5) else 9), .int nnu])), (tl, .inl (y 0, 6, .inl (va_cpy nfl tfl 0 0 6))), (kk, .inl (y 5, 6, .inr (.inr (.inr (.inr fq))))), (k0, .inr (5, [])), (k1, .inr (8, [])), (k2, .inr (9, [])), (k3, .inr (6, [])), (k4, .inr (2, [])), (k5, .inr (3, []))] := hD
      refine lv_istore (lv' := [(6, .int r27), (5, .int (((nI an2) * r24) + ((10 - (nI an2)) * r17))), (4, .int r24), (3, .int r17), (0, .ref g), (1, .int (nI an1)), (2, .int (nI an2))]) hx hb dX10_rains_128 hl (by decide) rfl (fun ls hl => ?_)
      refine lv_aload_n hx hb dX10_rains_130 rfl (lv_at hl 4 rfl) ?_
      refine lv_iload hx hb dX10_rains_131 (lv_at hl 1 rfl) ?_
      refine lv_iload hx hb dX10_rains_133 (lv_at hl 0 rfl) ?_
      refine lv_idiv hx hb dX10_rains_135 (h29) ?_
      refine va_put (D := D) (ci := 10) (v := .int ((((nI an2) * r24) + ((10 - (nI an2)) * r17)) / r27)) (ty := .int) (C := RX10) (T := TX10) (N := 12) hx hb hts iw10 tyX10 tyX10_ok nmX10 hown hK hP hD hS 0 rfl rfl 10 (by decide) fw10 (fun _ h9 => h9) rfl (by decide +kernel) rfl rfl (Nat.le_of_ble_eq_true rfl) dX10_rains_136 (fun H locs hP hD hS => ?_)
      have hP : va_P D vwCl [(g, .inr (10, [.ref kk, .ref nw, .ref im, .ref kp, .ref tx, .ref tr, .ref be, .ref sh, .ref sd, .ref rf, .int ((((nI an2) * r24) + ((10 - (nI an2)) * r17)) / r27), .int bl])), (rf, .inl (y 0, 3, .inl frf)), (ta, .inl (y 0, 5, .inl (va_cpy nfa tfa 0 0 5))), (ts, .inl (y 0, 5, .inl (va_cpy nfs tfs 0 0 5))), (nd, .inr (1, [.ref nl, .ref na, .ref ns, .int nst, .int ncl, .int nnu])), (nl, .inl (y 0, 6, .inl nfl)), (na, .inl (y 0, 5, .inl nfa)), (ns, .inl (y 0, 5, .inl nfs)), (nw, .inr (4, [.ref kk, .ref nk, .ref nd, .ref ne, .ref nm, .ref nn, .int (nI fi), .int (nI gl), .int (nI un), .int (nI mi), .int (nI no)])), (nk, .inl (y 0, 6, .inl fk)), (tr, .inr (1, [.ref tl, .ref ta, .ref ts, .int nst, .int (if (ncl + 5) < 9 then (ncl + 5) else 9), .int nnu])), (tl, .inl (y 0, 6, .inl (va_cpy nfl tfl 0 0 6))), (kk, .inl (y 5, 6, .inr (.inr (.inr (.inr fq))))), (k0, .inr (5, [])), (k1, .inr (8, [])), (k2, .inr (9, [])), (k3, .inr (6, [])), (k4, .inr (2, [])), (k5, .inr (3, []))] H := hP
      have hD : va_D A [(g, .inr (10, [.ref kk, .ref nw, .ref im, .ref kp, .ref tx, .ref tr, .ref be, .ref sh, .ref sd, .ref rf, .int ((((nI an2) * r24) + ((10 - (nI an2)) * r17)) / r27), .int bl])), (rf, .inl (y 0, 3, .inl frf)), (ta, .inl (y 0, 5, .inl (va_cpy nfa tfa 0 0 5))), (ts, .inl (y 0, 5, .inl (va_cpy nfs tfs 0 0 5))), (nd, .inr (1, [.ref nl, .ref na, .ref ns, .int nst, .int ncl, .int nnu])), (nl, .inl (y 0, 6, .inl nfl)), (na, .inl (y 0, 5, .inl nfa)), (ns, .inl (y 0, 5, .inl nfs)), (nw, .inr (4, [.ref kk, .ref nk, .ref nd, .ref ne, .ref nm, .ref nn, .int (nI fi), .int (nI gl), .int (nI un), .int (nI mi), .int (nI no)])), (nk, .inl (y 0, 6, .inl fk)), (tr, .inr (1, [.ref tl, .ref ta, .ref ts, .int nst, .int (if (ncl + 5) < 9 then (ncl + 5) else 9), .int nnu])), (tl, .inl (y 0, 6, .inl (va_cpy nfl tfl 0 0 6))), (kk, .inl (y 5, 6, .inr (.inr (.inr (.inr fq))))), (k0, .inr (5, [])), (k1, .inr (8, [])), (k2, .inr (9, [])), (k3, .inr (6, [])), (k4, .inr (2, [])), (k5, .inr (3, []))] := hD
      refine lv_aload_n hx hb dX10_rains_139 rfl (lv_at hl 4 rfl) ?_
      refine lv_bipush (v := 10) hx hb dX10_rains_140 (by decide) ?_
      refine lv_iload hx hb dX10_rains_142 (lv_at hl 0 rfl) ?_
      refine lv_idiv hx hb dX10_rains_144 (h29) ?_
      refine va_put (D := D) (ci := 10) (v := .int (10 / r27)) (ty := .int) (C := RX10) (T := TX10) (N := 12) hx hb hts iw10 tyX10 tyX10_ok nmX10 hown hK hP hD hS 0 rfl rfl 11 (by decide) fw11 (fun _ h9 => h9) rfl (by decide +kernel) rfl rfl (Nat.le_of_ble_eq_true rfl) dX10_rains_145 (fun H locs hP hD hS => ?_)
      have hP : va_P D vwCl [(g, .inr (10, [.ref kk, .ref nw, .ref im, .ref kp, .ref tx, .ref tr, .ref be, .ref sh, .ref sd, .ref rf, .int ((((nI an2) * r24) + ((10 - (nI an2)) * r17)) / r27), .int (10 / r27)])), (rf, .inl (y 0, 3, .inl frf)), (ta, .inl (y 0, 5, .inl (va_cpy nfa tfa 0 0 5))), (ts, .inl (y 0, 5, .inl (va_cpy nfs tfs 0 0 5))), (nd, .inr (1, [.ref nl, .ref na, .ref ns, .int nst, .int ncl, .int nnu])), (nl, .inl (y 0, 6, .inl nfl)), (na, .inl (y 0, 5, .inl nfa)), (ns, .inl (y 0, 5, .inl nfs)), (nw, .inr (4, [.ref kk, .ref nk, .ref nd, .ref ne, .ref nm, .ref nn, .int (nI fi), .int (nI gl), .int (nI un), .int (nI mi), .int (nI no)])), (nk, .inl (y 0, 6, .inl fk)), (tr, .inr (1, [.ref tl, .ref ta, .ref ts, .int nst, .int (if (ncl + 5) < 9 then (ncl + 5) else 9), .int nnu])), (tl, .inl (y 0, 6, .inl (va_cpy nfl tfl 0 0 6))), (kk, .inl (y 5, 6, .inr (.inr (.inr (.inr fq))))), (k0, .inr (5, [])), (k1, .inr (8, [])), (k2, .inr (9, [])), (k3, .inr (6, [])), (k4, .inr (2, [])), (k5, .inr (3, []))] H := hP
      have hD : va_D A [(g, .inr (10, [.ref kk, .ref nw, .ref im, .ref kp, .ref tx, .ref tr, .ref be, .ref sh, .ref sd, .ref rf, .int ((((nI an2) * r24) + ((10 - (nI an2)) * r17)) / r27), .int (10 / r27)])), (rf, .inl (y 0, 3, .inl frf)), (ta, .inl (y 0, 5, .inl (va_cpy nfa tfa 0 0 5))), (ts, .inl (y 0, 5, .inl (va_cpy nfs tfs 0 0 5))), (nd, .inr (1, [.ref nl, .ref na, .ref ns, .int nst, .int ncl, .int nnu])), (nl, .inl (y 0, 6, .inl nfl)), (na, .inl (y 0, 5, .inl nfa)), (ns, .inl (y 0, 5, .inl nfs)), (nw, .inr (4, [.ref kk, .ref nk, .ref nd, .ref ne, .ref nm, .ref nn, .int (nI fi), .int (nI gl), .int (nI un), .int (nI mi), .int (nI no)])), (nk, .inl (y 0, 6, .inl fk)), (tr, .inr (1, [.ref tl, .ref ta, .ref ts, .int nst, .int (if (ncl + 5) < 9 then (ncl + 5) else 9), .int nnu])), (tl, .inl (y 0, 6, .inl (va_cpy nfl tfl 0 0 6))), (kk, .inl (y 5, 6, .inr (.inr (.inr (.inr fq))))), (k0, .inr (5, [])), (k1, .inr (8, [])), (k2, .inr (9, [])), (k3, .inr (6, [])), (k4, .inr (2, [])), (k5, .inr (3, []))] := hD
      refine lv_iconst (v := 1) hx hb dX10_rains_148 (by decide) ?_
      exact W.iret (v := 1) hx hb hr (fun tZ ht hW => ⟨⟨1, (((((nI an2) * r24) + ((10 - (nI an2)) * r17)) / r27), (10 / r27)), rfl, ⟨h22, rfl⟩, by rw [ht]; exact hP.sub [0, 1, 8, 9, 4, 5, 6, 7, 10, 11, 2, 3, 12, 13, 14, 15, 16, 17, 18] rfl, hD.sub [0, 1, 8, 9, 4, 5, 6, 7, 10, 11, 2, 3, 12, 13, 14, 15, 16, 17, 18] (by decide) rfl⟩, hS.F ht⟩) hS.2.2 dX10_rains_149
    · skip
      exact absurd ⟨an2, by omega, by omega, rfl⟩ h15
  · skip
    exact absurd ⟨an1, by omega, rfl⟩ h7

set_option maxHeartbeats 4000000 in
set_option maxRecDepth 100000 in
theorem gy_rains_ok (l : Launch) (D : va_G) (y : Nat → ClassId) (mo : Nat) (to : Nat) (ke : Nat) (ik : Nat) (mrf : Nat) (ha : Nat) (r0 : Nat) (mbr : Nat) (mbp : Nat) (mby : Nat) (an : Nat) (va : Nat) (mab : Int64) (mbl : Int64) (bl : Nat) (ta : Nat) (tl : Nat) (tk : Nat) (vv : Int32) (frf : Nat → Int32) (ft : Nat → Int32) (fi : Nat) (gl : Nat) (mi : Nat) (no : Nat) (un : Nat) (fh : Nat → Int32) (an1 : Nat) (an2 : Nat) (hk0_ : ft 0 = (nI fi)) (hk1_ : ft 1 = (nI gl)) (hk2_ : ft 2 = (nI mi)) (hk3_ : ft 3 = (nI no)) (hk4_ : ft 4 = (nI un)) (hkt : kr_t 228 ft) (hfi : fi ≤ 6) (hgl : gl ≤ 5) (hmi : mi ≤ 4) (hno : no ≤ 6) (hun : un ≤ 8) (hgf : (gl = 0 ∨ 0 < fi)) (hkh : kr_t 30 fh) (hB0_ : an1 < fi) (hB1_ : an2 ≤ 10) : kw_Mi l yX11_rains wsX11_rains ({ frames := 5, cells := 0, slots := 0, locals := 151 }) D y [.ref mo, .int (nI an1), .int (nI an2)] [(mo, .inr (11, [.ref to, .ref ke, .ref ik, .ref mrf, .long mab, .long mbl, .ref ha, .ref r0, .ref mbr, .ref mbp, .ref mby, .int (nI bl), .int (nI ta), .int (nI tl), .int (nI tk), .int vv, .ref an, .ref va])), (mrf, .inl (y 0, 3, .inl frf)), (to, .inl (y 0, 228, .inl ft)), (ha, .inl (y 0, 30, .inl fh))] (fun (r : Int32) (u : Int64 × Int64 × (Nat → Int32)) => kr_t 30 u.2.2 ∧ (gl = 0 ∨ 0 < fi) ∧ r = 1) (fun u => [(mo, .inr (11, [.ref to, .ref ke, .ref ik, .ref mrf, .long u.1, .long u.2.1, .ref ha, .ref r0, .ref mbr, .ref mbp, .ref mby, .int (nI bl), .int (nI ta), .int (nI tl), .int (nI tk), .int vv, .ref an, .ref va])), (mrf, .inl (y 0, 3, .inl frf)), (to, .inl (y 0, 228, .inl ft)), (ha, .inl (y 0, 30, .inl u.2.2))]) 0 0 := by
  refine kw_Mi.of (cc := cX11_rains) (maxL := 3) (ret := (some .int)) (by decide) rfl ?_
  intro pZ eZ s mZ beZ meZ cZ A hE
  obtain ⟨hx, hb, hr, hml, hts, hown, hlocks, hin, hA, hP, hD, hK, hN⟩ := hE
  have hS : va_S A s.heap s.heap [] := va_S.rf
  have hl := lv_entry ([.ref mo, .int (nI an1), .int (nI an2)]) (n := 3) (Nat.le_of_ble_eq_true rfl)
  rw [lg_entry_eq]
  generalize (lg_sl ([.ref mo, .int (nI an1), .int (nI an2)]) ++ List.replicate (3 - (lg_sl ([.ref mo, .int (nI an1), .int (nI an2)])).length) Slot.unset).toArray = ls at hl ⊢
  have hl : lv_has ls 3 [(0, .ref mo), (1, .int (nI an1)), (2, .int (nI an2))] := hl
  have fw1 := hts (.constantLong RX11 192 (10)) (List.mem_of_getElem? (i := 1) rfl)
  have fw2 := hts (.fieldLink RX11 27 "GleanDuskModel" "hand" "[I") (List.mem_of_getElem? (i := 2) rfl)
  have fw3 := hts (.fieldLink RX11 7 "GleanDuskModel" "told" "[I") (List.mem_of_getElem? (i := 3) rfl)
  have iw11 : ∀ w ∈ wsX110, w ∈ wsX11_rains := fun _ h => List.mem_cons_of_mem _ (List.mem_append_right _ h)
  refine lv_aload_n hx hb dX11_rains_0 rfl (lv_at hl 0 rfl) ?_
  refine lv_iload_n hx hb dX11_rains_1 rfl (lv_at hl 1 rfl) ?_
  have hs1 : kw_Split [(mo, .inr (11, [.ref to, .ref ke, .ref ik, .ref mrf, .long mab, .long mbl, .ref ha, .ref r0, .ref mbr, .ref mbp, .ref mby, .int (nI bl), .int (nI ta), .int (nI tl), .int (nI tk), .int vv, .ref an, .ref va])), (mrf, .inl (y 0, 3, .inl frf)), (to, .inl (y 0, 228, .inl ft)), (ha, .inl (y 0, 30, .inl fh))] [(mo, .inr (11, [.ref to, .ref ke, .ref ik, .ref mrf, .long mab, .long mbl, .ref ha, .ref r0, .ref mbr, .ref mbp, .ref mby, .int (nI bl), .int (nI ta), .int (nI tl), .int (nI tk), .int vv, .ref an, .ref va])), (to, .inl (y 0, 228, .inl ft))] [(mrf, .inl (y 0, 3, .inl frf)), (ha, .inl (y 0, 30, .inl fh))] [0, 2] [1, 3] := ⟨rfl, rfl, rfl, rfl, rfl, by decide⟩
  refine kw_go_i hs1 hP hD hS hA (va_runV (As := [.int (nI an1)]) (rest := []) ⟨hx, hb, hml, hown, hts⟩ (gr_isField l D y mo to ke ik mrf ha r0 mbr mbp mby an va mab mbl bl ta tl tk vv ft fi gl mi no un (nI an1) hk0_ hk1_ hk2_ hk3_ hk4_ hkt hfi hgl hmi hno hun _) (cwV 1 hts gX11_rains_X11_isField rfl rfl rfl (by decide +kernel) ⟨Nat.le_of_ble_eq_true rfl, Nat.le_of_ble_eq_true rfl⟩) (kw_PreV (ci := 11) (q0 := 0) hs1 hP hD hK hN rfl rfl) rfl rfl hl.1 rfl (lv_room (Nat.le_of_ble_eq_true rfl)) dX11_rains_2 ⟨Nat.le_of_ble_eq_true rfl, Nat.le_of_ble_eq_true rfl⟩) (fun r2 u3 H locs hq hP hD hS => ?_)
  rcases hq with ⟨j4, h5, h6, rfl⟩ | ⟨h7, rfl⟩
  · skip
    have h6 : an1 = j4 := (nI_eq (a := an1) (b := j4) (by omega) (by omega)).mp h6
    have hP : va_P D vwCl [(mrf, .inl (y 0, 3, .inl frf)), (ha, .inl (y 0, 30, .inl fh)), (mo, .inr (11, [.ref to, .ref ke, .ref ik, .ref mrf, .long mab, .long mbl, .ref ha, .ref r0, .ref mbr, .ref mbp, .ref mby, .int (nI bl), .int (nI ta), .int (nI tl), .int (nI tk), .int vv, .ref an, .ref va])), (to, .inl (y 0, 228, .inl ft))] H := hP
    have hD : va_D A [(mrf, .inl (y 0, 3, .inl frf)), (ha, .inl (y 0, 30, .inl fh)), (mo, .inr (11, [.ref to, .ref ke, .ref ik, .ref mrf, .long mab, .long mbl, .ref ha, .ref r0, .ref mbr, .ref mbp, .ref mby, .int (nI bl), .int (nI ta), .int (nI tl), .int (nI tk), .int vv, .ref an, .ref va])), (to, .inl (y 0, 228, .inl ft))] := hD
    refine lv_if_eq (tgt := 20) hx hb dX11_rains_5 (by decide) (fun h9 => absurd h9 (by decide)) (fun _ => ?_)
    refine lv_iload_n hx hb dX11_rains_8 rfl (lv_at hl 2 rfl) ?_
    refine lv_i2l (v := (nI an2).toInt64) hx hb dX11_rains_9 (rfl) ?_
    refine lv_lconst (v := 0) hx hb dX11_rains_10 (by decide) ?_
    refine lv_ldc2 (v := 10) hx hb hown fw1 dX11_rains_11 ?_
    have hs8 : kw_Split [(mrf, .inl (y 0, 3, .inl frf)), (ha, .inl (y 0, 30, .inl fh)), (mo, .inr (11, [.ref to, .ref ke, .ref ik, .ref mrf, .long mab, .long mbl, .ref ha, .ref r0, .ref mbr, .ref mbp, .ref mby, .int (nI bl), .int (nI ta), .int (nI tl), .int (nI tk), .int vv, .ref an, .ref va])), (to, .inl (y 0, 228, .inl ft))] [] [(mrf, .inl (y 0, 3, .inl frf)), (ha, .inl (y 0, 30, .inl fh)), (mo, .inr (11, [.ref to, .ref ke, .ref ik, .ref mrf, .long mab, .long mbl, .ref ha, .ref r0, .ref mbr, .ref mbp, .ref mby, .int (nI bl), .int (nI ta), .int (nI tl), .int (nI tk), .int vv, .ref an, .ref va])), (to, .inl (y 0, 228, .inl ft))] [] [0, 1, 2, 3] := ⟨rfl, rfl, rfl, rfl, rfl, by decide⟩
    refine kw_go_i hs8 hP hD hS hA (va_runS (As := [.long ((nI an2).toInt64), .long 0, .long 10]) (rest := []) ⟨hx, hb, hml, hown, hts⟩ (gr_in l D y (nI an2) 0 10 (by omega) (by omega) _) (va_cwS 3 hts gX11_rains_X11_in rfl rfl rfl (by decide +kernel) ⟨Nat.le_of_ble_eq_true rfl, Nat.le_of_ble_eq_true rfl⟩) (kw_PreS hs8 hP hD hK hN) rfl rfl hl.1 rfl (lv_room (Nat.le_of_ble_eq_true rfl)) dX11_rains_14 ⟨Nat.le_of_ble_eq_true rfl, Nat.le_of_ble_eq_true rfl⟩) (fun r9 u10 H locs hq hP hD hS => ?_)
    rcases hq with ⟨j11, h12, h13, h14, rfl⟩ | ⟨h15, rfl⟩
    · skip
      have h14 : an2 = j11 := (nI_eq (a := an2) (b := j11) (by omega) (by omega)).mp h14
      have hP : va_P D vwCl [(mrf, .inl (y 0, 3, .inl frf)), (ha, .inl (y 0, 30, .inl fh)), (mo, .inr (11, [.ref to, .ref ke, .ref ik, .ref mrf, .long mab, .long mbl, .ref ha, .ref r0, .ref mbr, .ref mbp, .ref mby, .int (nI bl), .int (nI ta), .int (nI tl), .int (nI tk), .int vv, .ref an, .ref va])), (to, .inl (y 0, 228, .inl ft))] H := hP
      have hD : va_D A [(mrf, .inl (y 0, 3, .inl frf)), (ha, .inl (y 0, 30, .inl fh)), (mo, .inr (11, [.ref to, .ref ke, .ref ik, .ref mrf, .long mab, .long mbl, .ref ha, .ref r0, .ref mbr, .ref mbp, .ref mby, .int (nI bl), .int (nI ta), .int (nI tl), .int (nI tk), .int vv, .ref an, .ref va])), (to, .inl (y 0, 228, .inl ft))] := hD
      refine lv_if_ne (tgt := 27) hx hb dX11_rains_17 (by decide) (fun _ => ?_) (fun h9 => absurd h9 (by decide))
      refine lv_aload_n hx hb dX11_rains_27 rfl (lv_at hl 0 rfl) ?_
      have hs16 : kw_Split [(mrf, .inl (y 0, 3, .inl frf)), (ha, .inl (y 0, 30, .inl fh)), (mo, .inr (11, [.ref to, .ref ke, .ref ik, .ref mrf, .long mab, .long mbl, .ref ha, .ref r0, .ref mbr, .ref mbp, .ref mby, .int (nI bl), .int (nI ta), .int (nI tl), .int (nI tk), .int vv, .ref an, .ref va])), (to, .inl (y 0, 228, .inl ft))] [(mo, .inr (11, [.ref to, .ref ke, .ref ik, .ref mrf, .long mab, .long mbl, .ref ha, .ref r0, .ref mbr, .ref mbp, .ref mby, .int (nI bl), .int (nI ta), .int (nI tl), .int (nI tk), .int vv, .ref an, .ref va])), (to, .inl (y 0, 228, .inl ft)), (ha, .inl (y 0, 30, .inl fh))] [(mrf, .inl (y 0, 3, .inl frf))] [2, 3, 1] [0] := ⟨rfl, rfl, rfl, rfl, rfl, by decide⟩
      refine kw_go_v hs16 hP hD hS hA (va_runV (As := []) (rest := []) ⟨hx, hb, hml, hown, hts⟩ (gr_layHand l D y mo to ke ik mrf ha r0 mbr mbp mby an va mab mbl bl ta tl tk vv ft fi gl mi no un fh hk0_ hk1_ hk2_ hk3_ hk4_ hkt hfi hgl hmi hno hun hkh _) (cwV 0 hts gX11_rains_X11_layHand rfl rfl rfl (by decide +kernel) ⟨Nat.le_of_ble_eq_true rfl, Nat.le_of_ble_eq_true rfl⟩) (kw_PreV (ci := 11) (q0 := 2) hs16 hP hD hK hN rfl rfl) rfl rfl hl.1 rfl (lv_room (Nat.le_of_ble_eq_true rfl)) dX11_rains_28 ⟨Nat.le_of_ble_eq_true rfl, Nat.le_of_ble_eq_true rfl⟩) (fun u18 H locs hq hP hD hS => ?_)
      have h19 := hq
      have hk20 : (kr_cp fh ft 30) 0 = (nI fi) := ((kr_cp_lt (by decide)).trans hk0_)
      have hk21 : (kr_cp fh ft 30) 1 = (nI gl) := ((kr_cp_lt (by decide)).trans hk1_)
      have hP : va_P D vwCl [(mrf, .inl (y 0, 3, .inl frf)), (mo, .inr (11, [.ref to, .ref ke, .ref ik, .ref mrf, .long mab, .long mbl, .ref ha, .ref r0, .ref mbr, .ref mbp, .ref mby, .int (nI bl), .int (nI ta), .int (nI tl), .int (nI tk), .int vv, .ref an, .ref va])), (to, .inl (y 0, 228, .inl ft)), (ha, .inl (y 0, 30, .inl (kr_cp fh ft 30)))] H := hP
      have hD : va_D A [(mrf, .inl (y 0, 3, .inl frf)), (mo, .inr (11, [.ref to, .ref ke, .ref ik, .ref mrf, .long mab, .long mbl, .ref ha, .ref r0, .ref mbr, .ref mbp, .ref mby, .int (nI bl), .int (nI ta), .int (nI tl), .int (nI tk), .int vv, .ref an, .ref va])), (to, .inl (y 0, 228, .inl ft)), (ha, .inl (y 0, 30, .inl (kr_cp fh ft 30)))] := hD
      refine lv_aload_n hx hb dX11_rains_31 rfl (lv_at hl 0 rfl) ?_
      refine va_get (D := D) (ci := 11) (v := .ref ha) (C := RX11) (T := TX11) (N := 18) hx hb hts iw11 hown hK hP 1 rfl rfl 6 (by decide) fw2 (fun _ h9 => h9) rfl dX11_rains_32 ?_
      refine lv_bipush (v := 22) hx hb dX11_rains_35 (by decide) ?_
      refine lv_aload_n hx hb dX11_rains_37 rfl (lv_at hl 0 rfl) ?_
      refine va_get (D := D) (ci := 11) (v := .ref ha) (C := RX11) (T := TX11) (N := 18) hx hb hts iw11 hown hK hP 1 rfl rfl 6 (by decide) fw2 (fun _ h9 => h9) rfl dX11_rains_38 ?_
      refine lv_bipush (v := 22) hx hb dX11_rains_41 (by decide) ?_
      refine va_iald hx hb hK hP 3 0 rfl rfl (by unfold vp_in; decide) dX11_rains_43 ?_
      rw [show ((22 : Int32)).toNatClampNeg = 22 from rfl]
      refine lv_iconst (v := 5) hx hb dX11_rains_44 (by decide) ?_
      refine lv_iadd hx hb dX11_rains_45 ?_
      refine lv_bipush (v := 9) hx hb dX11_rains_46 (by decide) ?_
      refine lv_icmp_le (tgt := 56) hx hb dX11_rains_48 (by decide) (fun h22 => ?_) (fun h23 => ?_)
      · skip
        refine lv_aload_n hx hb dX11_rains_56 rfl (lv_at hl 0 rfl) ?_
        refine va_get (D := D) (ci := 11) (v := .ref ha) (C := RX11) (T := TX11) (N := 18) hx hb hts iw11 hown hK hP 1 rfl rfl 6 (by decide) fw2 (fun _ h9 => h9) rfl dX11_rains_57 ?_
        refine lv_bipush (v := 22) hx hb dX11_rains_60 (by decide) ?_
        refine va_iald hx hb hK hP 3 0 rfl rfl (by unfold vp_in; decide) dX11_rains_62 ?_
        rw [show ((22 : Int32)).toNatClampNeg = 22 from rfl]
        refine lv_iconst (v := 5) hx hb dX11_rains_63 (by decide) ?_
        refine lv_iadd hx hb dX11_rains_64 ?_
        refine va_iast hx hb hK hP hD hS 3 0 rfl rfl (by unfold vp_in; decide) dX11_rains_65 (fun H locs hP hD hS => ?_)
        rw [show ((22 : Int32)).toNatClampNeg = 22 from rfl] at hP hD
        have hr24 : kr_t 30 (upd (kr_cp fh ft 30) 22 (((kr_cp fh ft 30) 22) + 5)) := kr_up h19 (kr_free (by unfold kr_a; omega) (by unfold kr_s; omega))
        have hk25 : (upd (kr_cp fh ft 30) 22 (((kr_cp fh ft 30) 22) + 5)) 0 = (nI fi) := (pk_un (by decide)).trans hk20
        have hk26 : (upd (kr_cp fh ft 30) 22 (((kr_cp fh ft 30) 22) + 5)) 1 = (nI gl) := (pk_un (by decide)).trans hk21
        have hP : va_P D vwCl [(mrf, .inl (y 0, 3, .inl frf)), (mo, .inr (11, [.ref to, .ref ke, .ref ik, .ref mrf, .long mab, .long mbl, .ref ha, .ref r0, .ref mbr, .ref mbp, .ref mby, .int (nI bl), .int (nI ta), .int (nI tl), .int (nI tk), .int vv, .ref an, .ref va])), (to, .inl (y 0, 228, .inl ft)), (ha, .inl (y 0, 30, .inl (upd (kr_cp fh ft 30) 22 (((kr_cp fh ft 30) 22) + 5))))] H := hP
        have hD : va_D A [(mrf, .inl (y 0, 3, .inl frf)), (mo, .inr (11, [.ref to, .ref ke, .ref ik, .ref mrf, .long mab, .long mbl, .ref ha, .ref r0, .ref mbr, .ref mbp, .ref mby, .int (nI bl), .int (nI ta), .int (nI tl), .int (nI tk), .int vv, .ref an, .ref va])), (to, .inl (y 0, 228, .inl ft)), (ha, .inl (y 0, 30, .inl (upd (kr_cp fh ft 30) 22 (((kr_cp fh ft 30) 22) + 5))))] := hD
        refine lv_aload_n hx hb dX11_rains_66 rfl (lv_at hl 0 rfl) ?_
        refine lv_bipush (v := 10) hx hb dX11_rains_67 (by decide) ?_
        refine lv_iload_n hx hb dX11_rains_69 rfl (lv_at hl 2 rfl) ?_
        refine lv_isub hx hb dX11_rains_70 ?_
        refine lv_aload_n hx hb dX11_rains_71 rfl (lv_at hl 0 rfl) ?_
        refine va_get (D := D) (ci := 11) (v := .ref to) (C := RX11) (T := TX11) (N := 18) hx hb hts iw11 hown hK hP 1 rfl rfl 0 (by decide) fw3 (fun _ h9 => h9) rfl dX11_rains_72 ?_
        refine lv_iload_n hx hb dX11_rains_75 rfl (lv_at hl 1 rfl) ?_
        refine lv_aload_n hx hb dX11_rains_76 rfl (lv_at hl 0 rfl) ?_
        refine va_get (D := D) (ci := 11) (v := .ref to) (C := RX11) (T := TX11) (N := 18) hx hb hts iw11 hown hK hP 1 rfl rfl 0 (by decide) fw3 (fun _ h9 => h9) rfl dX11_rains_77 ?_
        refine lv_bipush (v := 21) hx hb dX11_rains_80 (by decide) ?_
        refine va_iald hx hb hK hP 2 0 rfl rfl (by unfold vp_in; decide) dX11_rains_82 ?_
        rw [show ((21 : Int32)).toNatClampNeg = 21 from rfl]
        have hs27 : kw_Split [(mrf, .inl (y 0, 3, .inl frf)), (mo, .inr (11, [.ref to, .ref ke, .ref ik, .ref mrf, .long mab, .long mbl, .ref ha, .ref r0, .ref mbr, .ref mbp, .ref mby, .int (nI bl), .int (nI ta), .int (nI tl), .int (nI tk), .int vv, .ref an, .ref va])), (to, .inl (y 0, 228, .inl ft)), (ha, .inl (y 0, 30, .inl (upd (kr_cp fh ft 30) 22 (((kr_cp fh ft 30) 22) + 5))))] [(to, .inl (y 0, 228, .inl ft))] [(mrf, .inl (y 0, 3, .inl frf)), (mo, .inr (11, [.ref to, .ref ke, .ref ik, .ref mrf, .long mab, .long mbl, .ref ha, .ref r0, .ref mbr, .ref mbp, .ref mby, .int (nI bl), .int (nI ta), .int (nI tl), .int (nI tk), .int vv, .ref an, .ref va])), (ha, .inl (y 0, 30, .inl (upd (kr_cp fh ft 30) 22 (((kr_cp fh ft 30) 22) + 5))))] [2] [0, 1, 3] := ⟨rfl, rfl, rfl, rfl, rfl, by decide⟩
        refine kw_go_i hs27 hP hD hS hA (va_runS (As := [.ref to, .int (nI an1), .int (ft 21)]) (rest := [.int (10 - (nI an2)), .ref mo]) ⟨hx, hb, hml, hown, hts⟩ (gr_seenOn228 l D y to ft fi gl mi no un an1 (ft 21) hk0_ hk1_ hk2_ hk3_ hk4_ hkt hfi hgl hmi hno hun (by omega) _) (va_cwS 3 hts gX11_rains_X11_seenOn rfl rfl rfl (by decide +kernel) ⟨Nat.le_of_ble_eq_true rfl, Nat.le_of_ble_eq_true rfl⟩) (kw_PreS hs27 hP hD hK hN) rfl rfl hl.1 rfl (lv_room (Nat.le_of_ble_eq_true rfl)) dX11_rains_83 ⟨Nat.le_of_ble_eq_true rfl, Nat.le_of_ble_eq_true rfl⟩) (fun r28 u29 H locs hq hP hD hS => ?_)
        have hP : va_P D vwCl [(mrf, .inl (y 0, 3, .inl frf)), (mo, .inr (11, [.ref to, .ref ke, .ref ik, .ref mrf, .long mab, .long mbl, .ref ha, .ref r0, .ref mbr, .ref mbp, .ref mby, .int (nI bl), .int (nI ta), .int (nI tl), .int (nI tk), .int vv, .ref an, .ref va])), (ha, .inl (y 0, 30, .inl (upd (kr_cp fh ft 30) 22 (((kr_cp fh ft 30) 22) + 5)))), (to, .inl (y 0, 228, .inl ft))] H := hP
        have hD : va_D A [(mrf, .inl (y 0, 3, .inl frf)), (mo, .inr (11, [.ref to, .ref ke, .ref ik, .ref mrf, .long mab, .long mbl, .ref ha, .ref r0, .ref mbr, .ref mbp, .ref mby, .int (nI bl), .int (nI ta), .int (nI tl), .int (nI tk), .int vv, .ref an, .ref va])), (ha, .inl (y 0, 30, .inl (upd (kr_cp fh ft 30) 22 (((kr_cp fh ft 30) 22) + 5)))), (to, .inl (y 0, 228, .inl ft))] := hD
        refine lv_imul hx hb dX11_rains_86 ?_
        refine lv_iload_n hx hb dX11_rains_87 rfl (lv_at hl 2 rfl) ?_
        refine lv_aload_n hx hb dX11_rains_88 rfl (lv_at hl 0 rfl) ?_
        refine va_get (D := D) (ci := 11) (v := .ref ha) (C := RX11) (T := TX11) (N := 18) hx hb hts iw11 hown hK hP 1 rfl rfl 6 (by decide) fw2 (fun _ h9 => h9) rfl dX11_rains_89 ?_
        refine lv_iload_n hx hb dX11_rains_92 rfl (lv_at hl 1 rfl) ?_
        refine lv_aload_n hx hb dX11_rains_93 rfl (lv_at hl 0 rfl) ?_
        refine va_get (D := D) (ci := 11) (v := .ref to) (C := RX11) (T := TX11) (N := 18) hx hb hts iw11 hown hK hP 1 rfl rfl 0 (by decide) fw3 (fun _ h9 => h9) rfl dX11_rains_94 ?_
        refine lv_bipush (v := 21) hx hb dX11_rains_97 (by decide) ?_
        refine va_iald hx hb hK hP 3 0 rfl rfl (by unfold vp_in; decide) dX11_rains_99 ?_
        rw [show ((21 : Int32)).toNatClampNeg = 21 from rfl]
        have hs30 : kw_Split [(mrf, .inl (y 0, 3, .inl frf)), (mo, .inr (11, [.ref to, .ref ke, .ref ik, .ref mrf, .long mab, .long mbl, .ref ha, .ref r0, .ref mbr, .ref mbp, .ref mby, .int (nI bl), .int (nI ta), .int (nI tl), .int (nI tk), .int vv, .ref an, .ref va])), (ha, .inl (y 0, 30, .inl (upd (kr_cp fh ft 30) 22 (((kr_cp fh ft 30) 22) + 5)))), (to, .inl (y 0, 228, .inl ft))] [(ha, .inl (y 0, 30, .inl (upd (kr_cp fh ft 30) 22 (((kr_cp fh ft 30) 22) + 5))))] [(mrf, .inl (y 0, 3, .inl frf)), (mo, .inr (11, [.ref to, .ref ke, .ref ik, .ref mrf, .long mab, .long mbl, .ref ha, .ref r0, .ref mbr, .ref mbp, .ref mby, .int (nI bl), .int (nI ta), .int (nI tl), .int (nI tk), .int vv, .ref an, .ref va])), (to, .inl (y 0, 228, .inl ft))] [2] [0, 1, 3] := ⟨rfl, rfl, rfl, rfl, rfl, by decide⟩
        refine kw_go_i hs30 hP hD hS hA (va_runS (As := [.ref ha, .int (nI an1), .int (ft 21)]) (rest := [.int (nI an2), .int ((10 - (nI an2)) * r28), .ref mo]) ⟨hx, hb, hml, hown, hts⟩ (gr_seenOn30 l D y ha (upd (kr_cp fh ft 30) 22 (((kr_cp fh ft 30) 22) + 5)) fi gl an1 (ft 21) hk25 hk26 hr24 hfi hgl (by omega) _) (va_cwS 3 hts gX11_rains_X11_seenOn rfl rfl rfl (by decide +kernel) ⟨Nat.le_of_ble_eq_true rfl, Nat.le_of_ble_eq_true rfl⟩) (kw_PreS hs30 hP hD hK hN) rfl rfl hl.1 rfl (lv_room (Nat.le_of_ble_eq_true rfl)) dX11_rains_100 ⟨Nat.le_of_ble_eq_true rfl, Nat.le_of_ble_eq_true rfl⟩) (fun r31 u32 H locs hq hP hD hS => ?_)
        have hP : va_P D vwCl [(mrf, .inl (y 0, 3, .inl frf)), (mo, .inr (11, [.ref to, .ref ke, .ref ik, .ref mrf, .long mab, .long mbl, .ref ha, .ref r0, .ref mbr, .ref mbp, .ref mby, .int (nI bl), .int (nI ta), .int (nI tl), .int (nI tk), .int vv, .ref an, .ref va])), (to, .inl (y 0, 228, .inl ft)), (ha, .inl (y 0, 30, .inl (upd (kr_cp fh ft 30) 22 (((kr_cp fh ft 30) 22) + 5))))] H := hP
        have hD : va_D A [(mrf, .inl (y 0, 3, .inl frf)), (mo, .inr (11, [.ref to, .ref ke, .ref ik, .ref mrf, .long mab, .long mbl, .ref ha, .ref r0, .ref mbr, .ref mbp, .ref mby, .int (nI bl), .int (nI ta), .int (nI tl), .int (nI tk), .int vv, .ref an, .ref va])), (to, .inl (y 0, 228, .inl ft)), (ha, .inl (y 0, 30, .inl (upd (kr_cp fh ft 30) 22 (((kr_cp fh ft 30) 22) + 5))))] := hD
        refine lv_imul hx hb dX11_rains_103 ?_
        refine lv_iadd hx hb dX11_rains_104 ?_
        refine lv_i2l (v := (((10 - (nI an2)) * r28) + ((nI an2) * r31)).toInt64) hx hb dX11_rains_105 (rfl) ?_
        refine lv_ldc2 (v := 10) hx hb hown fw1 dX11_rains_106 ?_
        have hs33 : kw_Split [(mrf, .inl (y 0, 3, .inl frf)), (mo, .inr (11, [.ref to, .ref ke, .ref ik, .ref mrf, .long mab, .long mbl, .ref ha, .ref r0, .ref mbr, .ref mbp, .ref mby, .int (nI bl), .int (nI ta), .int (nI tl), .int (nI tk), .int vv, .ref an, .ref va])), (to, .inl (y 0, 228, .inl ft)), (ha, .inl (y 0, 30, .inl (upd (kr_cp fh ft 30) 22 (((kr_cp fh ft 30) 22) + 5))))] [(mo, .inr (11, [.ref to, .ref ke, .ref ik, .ref mrf, .long mab, .long mbl, .ref ha, .ref r0, .ref mbr, .ref mbp, .ref mby, .int (nI bl), .int (nI ta), .int (nI tl), .int (nI tk), .int vv, .ref an, .ref va]))] [(mrf, .inl (y 0, 3, .inl frf)), (to, .inl (y 0, 228, .inl ft)), (ha, .inl (y 0, 30, .inl (upd (kr_cp fh ft 30) 22 (((kr_cp fh ft 30) 22) + 5))))] [1] [0, 2, 3] := ⟨rfl, rfl, rfl, rfl, rfl, by decide⟩
        refine kw_go_v hs33 hP hD hS hA (va_runV (As := [.long ((((10 - (nI an2)) * r28) + ((nI an2) * r31)).toInt64), .long 10]) (rest := []) ⟨hx, hb, hml, hown, hts⟩ (gr_fraction l D y mo to ke ik mrf ha r0 mbr mbp mby an va mab mbl bl ta tl tk vv ((((10 - (nI an2)) * r28) + ((nI an2) * r31)).toInt64)  _) (cwV 2 hts gX11_rains_X11_fraction rfl rfl rfl (by decide +kernel) ⟨Nat.le_of_ble_eq_true rfl, Nat.le_of_ble_eq_true rfl⟩) (kw_PreV (ci := 11) (q0 := 1) hs33 hP hD hK hN rfl rfl) rfl rfl hl.1 rfl (lv_room (Nat.le_of_ble_eq_true rfl)) dX11_rains_109 ⟨Nat.le_of_ble_eq_true rfl, Nat.le_of_ble_eq_true rfl⟩) (fun u35 H locs hq hP hD hS => ?_)
        obtain ⟨v36, v37⟩ := u35
        have hP : va_P D vwCl [(mrf, .inl (y 0, 3, .inl frf)), (to, .inl (y 0, 228, .inl ft)), (ha, .inl (y 0, 30, .inl (upd (kr_cp fh ft 30) 22 (((kr_cp fh ft 30) 22) + 5)))), (mo, .inr (11, [.ref to, .ref ke, .ref ik, .ref mrf, .long v36, .long v37, .ref ha, .ref r0, .ref mbr, .ref mbp, .ref mby, .int (nI bl), .int (nI ta), .int (nI tl), .int (nI tk), .int vv, .ref an, .ref va]))] H := hP
        have hD : va_D A [(mrf, .inl (y 0, 3, .inl frf)), (to, .inl (y 0, 228, .inl ft)), (ha, .inl (y 0, 30, .inl (upd (kr_cp fh ft 30) 22 (((kr_cp fh ft 30) 22) + 5)))), (mo, .inr (11, [.ref to, .ref ke, .ref ik, .ref mrf, .long v36, .long v37, .ref ha, .ref r0, .ref mbr, .ref mbp, .ref mby, .int (nI bl), .int (nI ta), .int (nI tl), .int (nI tk), .int vv, .ref an, .ref va]))] := hD
        refine lv_iconst (v := 1) hx hb dX11_rains_112 (by decide) ?_
        exact W.iret (v := 1) hx hb hr (fun tZ ht hW => ⟨⟨1, (v36, v37, (upd (kr_cp fh ft 30) 22 (((kr_cp fh ft 30) 22) + 5))), rfl, ⟨hr24, by first | omega | (dsimp only; omega), rfl⟩, by rw [ht]; exact hP.sub [3, 0, 1, 2] rfl, hD.sub [3, 0, 1, 2] (by decide) rfl⟩, hS.F ht⟩) hS.2.2 dX11_rains_113
      · skip
        refine lv_bipush (v := 9) hx hb dX11_rains_51 (by decide) ?_
        refine lv_goto (tgt := 65) hx hb dX11_rains_53 (by decide) ?_
        refine va_iast hx hb hK hP hD hS 3 0 rfl rfl (by unfold vp_in; decide) dX11_rains_65 (fun H locs hP hD hS => ?_)
        rw [show ((22 : Int32)).toNatClampNeg = 22 from rfl] at hP hD
        have hr38 : kr_t 30 (upd (kr_cp fh ft 30) 22 9) := kr_up h19 (kr_free (by unfold kr_a; omega) (by unfold kr_s; omega))
        have hk39 : (upd (kr_cp fh ft 30) 22 9) 0 = (nI fi) := (pk_un (by decide)).trans hk20
        have hk40 : (upd (kr_cp fh ft 30) 22 9) 1 = (nI gl) := (pk_un (by decide)).trans hk21
        have hP : va_P D vwCl [(mrf, .inl (y 0, 3, .inl frf)), (mo, .inr (11, [.ref to, .ref ke, .ref ik, .ref mrf, .long mab, .long mbl, .ref ha, .ref r0, .ref mbr, .ref mbp, .ref mby, .int (nI bl), .int (nI ta), .int (nI tl), .int (nI tk), .int vv, .ref an, .ref va])), (to, .inl (y 0, 228, .inl ft)), (ha, .inl (y 0, 30, .inl (upd (kr_cp fh ft 30) 22 9)))] H := hP
        have hD : va_D A [(mrf, .inl (y 0, 3, .inl frf)), (mo, .inr (11, [.ref to, .ref ke, .ref ik, .ref mrf, .long mab, .long mbl, .ref ha, .ref r0, .ref mbr, .ref mbp, .ref mby, .int (nI bl), .int (nI ta), .int (nI tl), .int (nI tk), .int vv, .ref an, .ref va])), (to, .inl (y 0, 228, .inl ft)), (ha, .inl (y 0, 30, .inl (upd (kr_cp fh ft 30) 22 9)))] := hD
        refine lv_aload_n hx hb dX11_rains_66 rfl (lv_at hl 0 rfl) ?_
        refine lv_bipush (v := 10) hx hb dX11_rains_67 (by decide) ?_
        refine lv_iload_n hx hb dX11_rains_69 rfl (lv_at hl 2 rfl) ?_
        refine lv_isub hx hb dX11_rains_70 ?_
        refine lv_aload_n hx hb dX11_rains_71 rfl (lv_at hl 0 rfl) ?_
        refine va_get (D := D) (ci := 11) (v := .ref to) (C := RX11) (T := TX11) (N := 18) hx hb hts iw11 hown hK hP 1 rfl rfl 0 (by decide) fw3 (fun _ h9 => h9) rfl dX11_rains_72 ?_
        refine lv_iload_n hx hb dX11_rains_75 rfl (lv_at hl 1 rfl) ?_
        refine lv_aload_n hx hb dX11_rains_76 rfl (lv_at hl 0 rfl) ?_
        refine va_get (D := D) (ci := 11) (v := .ref to) (C := RX11) (T := TX11) (N := 18) hx hb hts iw11 hown hK hP 1 rfl rfl 0 (by decide) fw3 (fun _ h9 => h9) rfl dX11_rains_77 ?_
        refine lv_bipush (v := 21) hx hb dX11_rains_80 (by decide) ?_
        refine va_iald hx hb hK hP 2 0 rfl rfl (by unfold vp_in; decide) dX11_rains_82 ?_
        rw [show ((21 : Int32)).toNatClampNeg = 21 from rfl]
        have hs41 : kw_Split [(mrf, .inl (y 0, 3, .inl frf)), (mo, .inr (11, [.ref to, .ref ke, .ref ik, .ref mrf, .long mab, .long mbl, .ref ha, .ref r0, .ref mbr, .ref mbp, .ref mby, .int (nI bl), .int (nI ta), .int (nI tl), .int (nI tk), .int vv, .ref an, .ref va])), (to, .inl (y 0, 228, .inl ft)), (ha, .inl (y 0, 30, .inl (upd (kr_cp fh ft 30) 22 9)))] [(to, .inl (y 0, 228, .inl ft))] [(mrf, .inl (y 0, 3, .inl frf)), (mo, .inr (11, [.ref to, .ref ke, .ref ik, .ref mrf, .long mab, .long mbl, .ref ha, .ref r0, .ref mbr, .ref mbp, .ref mby, .int (nI bl), .int (nI ta), .int (nI tl), .int (nI tk), .int vv, .ref an, .ref va])), (ha, .inl (y 0, 30, .inl (upd (kr_cp fh ft 30) 22 9)))] [2] [0, 1, 3] := ⟨rfl, rfl, rfl, rfl, rfl, by decide⟩
        refine kw_go_i hs41 hP hD hS hA (va_runS (As := [.ref to, .int (nI an1), .int (ft 21)]) (rest := [.int (10 - (nI an2)), .ref mo]) ⟨hx, hb, hml, hown, hts⟩ (gr_seenOn228 l D y to ft fi gl mi no un an1 (ft 21) hk0_ hk1_ hk2_ hk3_ hk4_ hkt hfi hgl hmi hno hun (by omega) _) (va_cwS 3 hts gX11_rains_X11_seenOn rfl rfl rfl (by decide +kernel) ⟨Nat.le_of_ble_eq_true rfl, Nat.le_of_ble_eq_true rfl⟩) (kw_PreS hs41 hP hD hK hN) rfl rfl hl.1 rfl (lv_room (Nat.le_of_ble_eq_true rfl)) dX11_rains_83 ⟨Nat.le_of_ble_eq_true rfl, Nat.le_of_ble_eq_true rfl⟩) (fun r42 u43 H locs hq hP hD hS => ?_)
        have hP : va_P D vwCl [(mrf, .inl (y 0, 3, .inl frf)), (mo, .inr (11, [.ref to, .ref ke, .ref ik, .ref mrf, .long mab, .long mbl, .ref ha, .ref r0, .ref mbr, .ref mbp, .ref mby, .int (nI bl), .int (nI ta), .int (nI tl), .int (nI tk), .int vv, .ref an, .ref va])), (ha, .inl (y 0, 30, .inl (upd (kr_cp fh ft 30) 22 9))), (to, .inl (y 0, 228, .inl ft))] H := hP
        have hD : va_D A [(mrf, .inl (y 0, 3, .inl frf)), (mo, .inr (11, [.ref to, .ref ke, .ref ik, .ref mrf, .long mab, .long mbl, .ref ha, .ref r0, .ref mbr, .ref mbp, .ref mby, .int (nI bl), .int (nI ta), .int (nI tl), .int (nI tk), .int vv, .ref an, .ref va])), (ha, .inl (y 0, 30, .inl (upd (kr_cp fh ft 30) 22 9))), (to, .inl (y 0, 228, .inl ft))] := hD
        refine lv_imul hx hb dX11_rains_86 ?_
        refine lv_iload_n hx hb dX11_rains_87 rfl (lv_at hl 2 rfl) ?_
        refine lv_aload_n hx hb dX11_rains_88 rfl (lv_at hl 0 rfl) ?_
        refine va_get (D := D) (ci := 11) (v := .ref ha) (C := RX11) (T := TX11) (N := 18) hx hb hts iw11 hown hK hP 1 rfl rfl 6 (by decide) fw2 (fun _ h9 => h9) rfl dX11_rains_89 ?_
        refine lv_iload_n hx hb dX11_rains_92 rfl (lv_at hl 1 rfl) ?_
        refine lv_aload_n hx hb dX11_rains_93 rfl (lv_at hl 0 rfl) ?_
        refine va_get (D := D) (ci := 11) (v := .ref to) (C := RX11) (T := TX11) (N := 18) hx hb hts iw11 hown hK hP 1 rfl rfl 0 (by decide) fw3 (fun _ h9 => h9) rfl dX11_rains_94 ?_
        refine lv_bipush (v := 21) hx hb dX11_rains_97 (by decide) ?_
        refine va_iald hx hb hK hP 3 0 rfl rfl (by unfold vp_in; decide) dX11_rains_99 ?_
        rw [show ((21 : Int32)).toNatClampNeg = 21 from rfl]
        have hs44 : kw_Split [(mrf, .inl (y 0, 3, .inl frf)), (mo, .inr (11, [.ref to, .ref ke, .ref ik, .ref mrf, .long mab, .long mbl, .ref ha, .ref r0, .ref mbr, .ref mbp, .ref mby, .int (nI bl), .int (nI ta), .int (nI tl), .int (nI tk), .int vv, .ref an, .ref va])), (ha, .inl (y 0, 30, .inl (upd (kr_cp fh ft 30) 22 9))), (to, .inl (y 0, 228, .inl ft))] [(ha, .inl (y 0, 30, .inl (upd (kr_cp fh ft 30) 22 9)))] [(mrf, .inl (y 0, 3, .inl frf)), (mo, .inr (11, [.ref to, .ref ke, .ref ik, .ref mrf, .long mab, .long mbl, .ref ha, .ref r0, .ref mbr, .ref mbp, .ref mby, .int (nI bl), .int (nI ta), .int (nI tl), .int (nI tk), .int vv, .ref an, .ref va])), (to, .inl (y 0, 228, .inl ft))] [2] [0, 1, 3] := ⟨rfl, rfl, rfl, rfl, rfl, by decide⟩
        refine kw_go_i hs44 hP hD hS hA (va_runS (As := [.ref ha, .int (nI an1), .int (ft 21)]) (rest := [.int (nI an2), .int ((10 - (nI an2)) * r42), .ref mo]) ⟨hx, hb, hml, hown, hts⟩ (gr_seenOn30 l D y ha (upd (kr_cp fh ft 30) 22 9) fi gl an1 (ft 21) hk39 hk40 hr38 hfi hgl (by omega) _) (va_cwS 3 hts gX11_rains_X11_seenOn rfl rfl rfl (by decide +kernel) ⟨Nat.le_of_ble_eq_true rfl, Nat.le_of_ble_eq_true rfl⟩) (kw_PreS hs44 hP hD hK hN) rfl rfl hl.1 rfl (lv_room (Nat.le_of_ble_eq_true rfl)) dX11_rains_100 ⟨Nat.le_of_ble_eq_true rfl, Nat.le_of_ble_eq_true rfl⟩) (fun r45 u46 H locs hq hP hD hS => ?_)
        have hP : va_P D vwCl [(mrf, .inl (y 0, 3, .inl frf)), (mo, .inr (11, [.ref to, .ref ke, .ref ik, .ref mrf, .long mab, .long mbl, .ref ha, .ref r0, .ref mbr, .ref mbp, .ref mby, .int (nI bl), .int (nI ta), .int (nI tl), .int (nI tk), .int vv, .ref an, .ref va])), (to, .inl (y 0, 228, .inl ft)), (ha, .inl (y 0, 30, .inl (upd (kr_cp fh ft 30) 22 9)))] H := hP
        have hD : va_D A [(mrf, .inl (y 0, 3, .inl frf)), (mo, .inr (11, [.ref to, .ref ke, .ref ik, .ref mrf, .long mab, .long mbl, .ref ha, .ref r0, .ref mbr, .ref mbp, .ref mby, .int (nI bl), .int (nI ta), .int (nI tl), .int (nI tk), .int vv, .ref an, .ref va])), (to, .inl (y 0, 228, .inl ft)), (ha, .inl (y 0, 30, .inl (upd (kr_cp fh ft 30) 22 9)))] := hD
        refine lv_imul hx hb dX11_rains_103 ?_
        refine lv_iadd hx hb dX11_rains_104 ?_
        refine lv_i2l (v := (((10 - (nI an2)) * r42) + ((nI an2) * r45)).toInt64) hx hb dX11_rains_105 (rfl) ?_
        refine lv_ldc2 (v := 10) hx hb hown fw1 dX11_rains_106 ?_
        have hs47 : kw_Split [(mrf, .inl (y 0, 3, .inl frf)), (mo, .inr (11, [.ref to, .ref ke, .ref ik, .ref mrf, .long mab, .long mbl, .ref ha, .ref r0, .ref mbr, .ref mbp, .ref mby, .int (nI bl), .int (nI ta), .int (nI tl), .int (nI tk), .int vv, .ref an, .ref va])), (to, .inl (y 0, 228, .inl ft)), (ha, .inl (y 0, 30, .inl (upd (kr_cp fh ft 30) 22 9)))] [(mo, .inr (11, [.ref to, .ref ke, .ref ik, .ref mrf, .long mab, .long mbl, .ref ha, .ref r0, .ref mbr, .ref mbp, .ref mby, .int (nI bl), .int (nI ta), .int (nI tl), .int (nI tk), .int vv, .ref an, .ref va]))] [(mrf, .inl (y 0, 3, .inl frf)), (to, .inl (y 0, 228, .inl ft)), (ha, .inl (y 0, 30, .inl (upd (kr_cp fh ft 30) 22 9)))] [1] [0, 2, 3] := ⟨rfl, rfl, rfl, rfl, rfl, by decide⟩
        refine kw_go_v hs47 hP hD hS hA (va_runV (As := [.long ((((10 - (nI an2)) * r42) + ((nI an2) * r45)).toInt64), .long 10]) (rest := []) ⟨hx, hb, hml, hown, hts⟩ (gr_fraction l D y mo to ke ik mrf ha r0 mbr mbp mby an va mab mbl bl ta tl tk vv ((((10 - (nI an2)) * r42) + ((nI an2) * r45)).toInt64)  _) (cwV 2 hts gX11_rains_X11_fraction rfl rfl rfl (by decide +kernel) ⟨Nat.le_of_ble_eq_true rfl, Nat.le_of_ble_eq_true rfl⟩) (kw_PreV (ci := 11) (q0 := 1) hs47 hP hD hK hN rfl rfl) rfl rfl hl.1 rfl (lv_room (Nat.le_of_ble_eq_true rfl)) dX11_rains_109 ⟨Nat.le_of_ble_eq_true rfl, Nat.le_of_ble_eq_true rfl⟩) (fun u49 H locs hq hP hD hS => ?_)
        obtain ⟨v50, v51⟩ := u49
        have hP : va_P D vwCl [(mrf, .inl (y 0, 3, .inl frf)), (to, .inl (y 0, 228, .inl ft)), (ha, .inl (y 0, 30, .inl (upd (kr_cp fh ft 30) 22 9))), (mo, .inr (11, [.ref to, .ref ke, .ref ik, .ref mrf, .long v50, .long v51, .ref ha, .ref r0, .ref mbr, .ref mbp, .ref mby, .int (nI bl), .int (nI ta), .int (nI tl), .int (nI tk), .int vv, .ref an, .ref va]))] H := hP
        have hD : va_D A [(mrf, .inl (y 0, 3, .inl frf)), (to, .inl (y 0, 228, .inl ft)), (ha, .inl (y 0, 30, .inl (upd (kr_cp fh ft 30) 22 9))), (mo, .inr (11, [.ref to, .ref ke, .ref ik, .ref mrf, .long v50, .long v51, .ref ha, .ref r0, .ref mbr, .ref mbp, .ref mby, .int (nI bl), .int (nI ta), .int (nI tl), .int (nI tk), .int vv, .ref an, .ref va]))] := hD
        refine lv_iconst (v := 1) hx hb dX11_rains_112 (by decide) ?_
        exact W.iret (v := 1) hx hb hr (fun tZ ht hW => ⟨⟨1, (v50, v51, (upd (kr_cp fh ft 30) 22 9)), rfl, ⟨hr38, by first | omega | (dsimp only; omega), rfl⟩, by rw [ht]; exact hP.sub [3, 0, 1, 2] rfl, hD.sub [3, 0, 1, 2] (by decide) rfl⟩, hS.F ht⟩) hS.2.2 dX11_rains_113
    · skip
      exact absurd ⟨an2, by omega, by omega, rfl⟩ h15
  · skip
    exact absurd ⟨an1, by omega, rfl⟩ h7

set_option maxHeartbeats 4000000 in
set_option maxRecDepth 100000 in
theorem gx_forget0 (l : Launch) (D : va_G) (y : Nat → ClassId) (g : Nat) (kk : Nat) (nw : Nat) (im : Nat) (kp : Nat) (tx : Nat) (tr : Nat) (be : Nat) (sh : Nat) (sd : Nat) (rf : Nat) (ab : Int32) (bl : Int32) (frf : Nat → Int32) (nk : Nat) (nd : Nat) (ne : Nat) (nm : Nat) (nn : Nat) (fi : Nat) (gl : Nat) (un : Nat) (mi : Nat) (no : Nat) (hfi : fi ≤ 6) (hgl : gl ≤ 5) (hun : un ≤ 8) (hmi : mi ≤ 4) (hno : no ≤ 6) : kw_Mi l yX10_forget wsX10_forget ({ frames := 2, cells := 0, slots := 0, locals := 81 }) D y [.ref g, .int 0] [(g, .inr (10, [.ref kk, .ref nw, .ref im, .ref kp, .ref tx, .ref tr, .ref be, .ref sh, .ref sd, .ref rf, .int ab, .int bl])), (rf, .inl (y 0, 3, .inl frf)), (nw, .inr (4, [.ref kk, .ref nk, .ref nd, .ref ne, .ref nm, .ref nn, .int (nI fi), .int (nI gl), .int (nI un), .int (nI mi), .int (nI no)]))] (fun (r : Int32) (u : Unit) => r = (nI mi)) (fun _ => [(g, .inr (10, [.ref kk, .ref nw, .ref im, .ref kp, .ref tx, .ref tr, .ref be, .ref sh, .ref sd, .ref rf, .int ab, .int bl])), (rf, .inl (y 0, 3, .inl frf)), (nw, .inr (4, [.ref kk, .ref nk, .ref nd, .ref ne, .ref nm, .ref nn, .int (nI fi), .int (nI gl), .int (nI un), .int 0, .int (nI no)]))]) 0 0 := by
  refine kw_Mi.of (cc := cX10_forget) (maxL := 3) (ret := (some .int)) (by decide) rfl ?_
  intro pZ eZ s mZ beZ meZ cZ A hE
  obtain ⟨hx, hb, hr, hml, hts, hown, hlocks, hin, hA, hP, hD, hK, hN⟩ := hE
  have hS : va_S A s.heap s.heap [] := va_S.rf
  have hl := lv_entry ([.ref g, .int 0]) (n := 3) (Nat.le_of_ble_eq_true rfl)
  rw [lg_entry_eq]
  generalize (lg_sl ([.ref g, .int 0]) ++ List.replicate (3 - (lg_sl ([.ref g, .int 0])).length) Slot.unset).toArray = ls at hl ⊢
  have hl : lv_has ls 3 [(0, .ref g), (1, .int 0)] := hl
  have fw1 := hts (.fieldLink RX10 36 "GleanDusk" "now" "LGleanDusk$Parish;") (List.mem_of_getElem? (i := 1) rfl)
  have fw2 := hts (.fieldLink RX10 240 "GleanDusk$Parish" "missedCount" "I") (List.mem_of_getElem? (i := 2) rfl)
  have iw10 : ∀ w ∈ wsX100, w ∈ wsX10_forget := fun _ h => List.mem_cons_of_mem _ (List.mem_append_left _ (List.mem_append_right _ h))
  have iw4 : ∀ w ∈ wsX40, w ∈ wsX10_forget := fun _ h => List.mem_cons_of_mem _ (List.mem_append_right _ h)
  refine lv_iload_n hx hb dX10_forget_0 rfl (lv_at hl 1 rfl) ?_
  refine lv_iconst (v := 2) hx hb dX10_forget_1 (by decide) ?_
  have hs1 : kw_Split [(g, .inr (10, [.ref kk, .ref nw, .ref im, .ref kp, .ref tx, .ref tr, .ref be, .ref sh, .ref sd, .ref rf, .int ab, .int bl])), (rf, .inl (y 0, 3, .inl frf)), (nw, .inr (4, [.ref kk, .ref nk, .ref nd, .ref ne, .ref nm, .ref nn, .int (nI fi), .int (nI gl), .int (nI un), .int (nI mi), .int (nI no)]))] [] [(g, .inr (10, [.ref kk, .ref nw, .ref im, .ref kp, .ref tx, .ref tr, .ref be, .ref sh, .ref sd, .ref rf, .int ab, .int bl])), (rf, .inl (y 0, 3, .inl frf)), (nw, .inr (4, [.ref kk, .ref nk, .ref nd, .ref ne, .ref nm, .ref nn, .int (nI fi), .int (nI gl), .int (nI un), .int (nI mi), .int (nI no)]))] [] [0, 1, 2] := ⟨rfl, rfl, rfl, rfl, rfl, by decide⟩
  refine kw_go_i hs1 hP hD hS hA (va_runS (As := [.int 0, .int 2]) (rest := []) ⟨hx, hb, hml, hown, hts⟩ (gc_isBelow l D y 0 2 (by omega) _) (va_cwS 2 hts gX10_forget_X10_isBelow rfl rfl rfl (by decide +kernel) ⟨Nat.le_of_ble_eq_true rfl, Nat.le_of_ble_eq_true rfl⟩) (kw_PreS hs1 hP hD hK hN) rfl rfl hl.1 rfl (lv_room (Nat.le_of_ble_eq_true rfl)) dX10_forget_2 ⟨Nat.le_of_ble_eq_true rfl, Nat.le_of_ble_eq_true rfl⟩) (fun r2 u3 H locs hq hP hD hS => ?_)
  rcases hq with ⟨j4, h5, h6, rfl⟩ | ⟨h7, rfl⟩
  · skip
    have h6 : 0 = j4 := (nI_eq (a := 0) (b := j4) (by omega) (by omega)).mp h6
    have hP : va_P D vwCl [(g, .inr (10, [.ref kk, .ref nw, .ref im, .ref kp, .ref tx, .ref tr, .ref be, .ref sh, .ref sd, .ref rf, .int ab, .int bl])), (rf, .inl (y 0, 3, .inl frf)), (nw, .inr (4, [.ref kk, .ref nk, .ref nd, .ref ne, .ref nm, .ref nn, .int (nI fi), .int (nI gl), .int (nI un), .int (nI mi), .int (nI no)]))] H := hP
    have hD : va_D A [(g, .inr (10, [.ref kk, .ref nw, .ref im, .ref kp, .ref tx, .ref tr, .ref be, .ref sh, .ref sd, .ref rf, .int ab, .int bl])), (rf, .inl (y 0, 3, .inl frf)), (nw, .inr (4, [.ref kk, .ref nk, .ref nd, .ref ne, .ref nm, .ref nn, .int (nI fi), .int (nI gl), .int (nI un), .int (nI mi), .int (nI no)]))] := hD
    refine lv_if_ne (tgt := 13) hx hb dX10_forget_5 (by decide) (fun _ => ?_) (fun h9 => absurd h9 (by decide))
    refine lv_iload_n hx hb dX10_forget_13 rfl (lv_at hl 1 rfl) ?_
    refine lv_if_ne (tgt := 27) hx hb dX10_forget_14 (by decide) (fun h9 => absurd h9 (by decide)) (fun _ => ?_)
    refine lv_aload_n hx hb dX10_forget_17 rfl (lv_at hl 0 rfl) ?_
    refine va_get (D := D) (ci := 10) (v := .ref nw) (C := RX10) (T := TX10) (N := 12) hx hb hts iw10 hown hK hP 0 rfl rfl 1 (by decide) fw1 (fun _ h9 => h9) rfl dX10_forget_18 ?_
    refine va_get (D := D) (ci := 4) (v := .int (nI mi)) (C := RX4) (T := TX4) (N := 11) hx hb hts iw4 hown hK hP 2 rfl rfl 9 (by decide) fw2 (fun _ h9 => h9) rfl dX10_forget_21 ?_
    refine lv_goto (tgt := 34) hx hb dX10_forget_24 (by decide) ?_
    refine lv_istore_n (lv' := [(2, .int (nI mi)), (0, .ref g), (1, .int 0)]) hx hb dX10_forget_34 rfl hl (by decide) rfl (fun ls hl => ?_)
    refine lv_iload_n hx hb dX10_forget_35 rfl (lv_at hl 2 rfl) ?_
    refine lv_if_ne (tgt := 50) hx hb dX10_forget_36 (by decide) (fun h9 => absurd h9 (by decide)) (fun _ => ?_)
    refine lv_aload_n hx hb dX10_forget_39 rfl (lv_at hl 1 rfl) ?_
    refine va_get (D := D) (ci := 10) (v := .ref nw) (C := RX10) (T := TX10) (N := 12) hx hb hts iw10 hown hK hP 0 rfl rfl 1 (by decide) fw1 (fun _ h9 => h9) rfl dX10_forget_40 ?_
    refine lv_iconst (v := 0) hx hb dX10_forget_43 (by decide) ?_
    refine va_put (D := D) (ci := 4) (v := .int 0) (ty := .int) (C := RX4) (T := TX4) (N := 11) hx hb hts iw4 tyX4 tyX4_ok nmX4 hown hK hP hD hS 2 rfl rfl 9 (by decide) fw2 (fun _ h9 => h9) rfl (by decide +kernel) rfl rfl (Nat.le_of_ble_eq_true rfl) dX10_forget_44 (fun H locs hP hD hS => ?_)
    have hP : va_P D vwCl [(g, .inr (10, [.ref kk, .ref nw, .ref im, .ref kp, .ref tx, .ref tr, .ref be, .ref sh, .ref sd, .ref rf, .int ab, .int bl])), (rf, .inl (y 0, 3, .inl frf)), (nw, .inr (4, [.ref kk, .ref nk, .ref nd, .ref ne, .ref nm, .ref nn, .int (nI fi), .int (nI gl), .int (nI un), .int 0, .int (nI no)]))] H := hP
    have hD : va_D A [(g, .inr (10, [.ref kk, .ref nw, .ref im, .ref kp, .ref tx, .ref tr, .ref be, .ref sh, .ref sd, .ref rf, .int ab, .int bl])), (rf, .inl (y 0, 3, .inl frf)), (nw, .inr (4, [.ref kk, .ref nk, .ref nd, .ref ne, .ref nm, .ref nn, .int (nI fi), .int (nI gl), .int (nI un), .int 0, .int (nI no)]))] := hD
    refine lv_goto (tgt := 58) hx hb dX10_forget_47 (by decide) ?_
    refine lv_iload_n hx hb dX10_forget_58 rfl (lv_at hl 0 rfl) ?_
    exact W.iret (v := (nI mi)) hx hb hr (fun tZ ht hW => ⟨⟨(nI mi), (), rfl, rfl, by rw [ht]; exact hP.sub [0, 1, 2] rfl, hD.sub [0, 1, 2] (by decide) rfl⟩, hS.F ht⟩) hS.2.2 dX10_forget_59
  · skip
    exact absurd ⟨0, by decide, by decide⟩ h7

set_option maxHeartbeats 4000000 in
set_option maxRecDepth 100000 in
theorem gy_forget0 (l : Launch) (D : va_G) (y : Nat → ClassId) (mo : Nat) (to : Nat) (ke : Nat) (ik : Nat) (mrf : Nat) (ha : Nat) (r0 : Nat) (mbr : Nat) (mbp : Nat) (mby : Nat) (an : Nat) (va : Nat) (mab : Int64) (mbl : Int64) (bl : Nat) (ta : Nat) (tl : Nat) (tk : Nat) (vv : Int32) (frf : Nat → Int32) (ft : Nat → Int32) (fi : Nat) (gl : Nat) (mi : Nat) (no : Nat) (un : Nat) (hk0_ : ft 0 = (nI fi)) (hk1_ : ft 1 = (nI gl)) (hk2_ : ft 2 = (nI mi)) (hk3_ : ft 3 = (nI no)) (hk4_ : ft 4 = (nI un)) (hkt : kr_t 228 ft) (hfi : fi ≤ 6) (hgl : gl ≤ 5) (hmi : mi ≤ 4) (hno : no ≤ 6) (hun : un ≤ 8) (hgf : (gl = 0 ∨ 0 < fi)) : kw_Mi l yX11_forget wsX11_forget ({ frames := 2, cells := 0, slots := 0, locals := 85 }) D y [.ref mo, .int (nI 0)] [(mo, .inr (11, [.ref to, .ref ke, .ref ik, .ref mrf, .long mab, .long mbl, .ref ha, .ref r0, .ref mbr, .ref mbp, .ref mby, .int (nI bl), .int (nI ta), .int (nI tl), .int (nI tk), .int vv, .ref an, .ref va])), (mrf, .inl (y 0, 3, .inl frf)), (to, .inl (y 0, 228, .inl ft))] (fun (r : Int32) (u : Unit) => kr_t 228 (upd ft 2 0) ∧ (upd ft 2 0) 0 = (nI fi) ∧ (upd ft 2 0) 1 = (nI gl) ∧ (upd ft 2 0) 2 = 0 ∧ (upd ft 2 0) 3 = (nI no) ∧ (upd ft 2 0) 4 = (nI un) ∧ (gl = 0 ∨ 0 < fi) ∧ r = (nI mi)) (fun _ => [(mo, .inr (11, [.ref to, .ref ke, .ref ik, .ref mrf, .long mab, .long mbl, .ref ha, .ref r0, .ref mbr, .ref mbp, .ref mby, .int (nI bl), .int (nI ta), .int (nI tl), .int (nI tk), .int vv, .ref an, .ref va])), (mrf, .inl (y 0, 3, .inl frf)), (to, .inl (y 0, 228, .inl (upd ft 2 0)))]) 0 0 := by
  refine kw_Mi.of (cc := cX11_forget) (maxL := 3) (ret := (some .int)) (by decide) rfl ?_
  intro pZ eZ s mZ beZ meZ cZ A hE
  obtain ⟨hx, hb, hr, hml, hts, hown, hlocks, hin, hA, hP, hD, hK, hN⟩ := hE
  have hS : va_S A s.heap s.heap [] := va_S.rf
  have hl := lv_entry ([.ref mo, .int (nI 0)]) (n := 3) (Nat.le_of_ble_eq_true rfl)
  rw [lg_entry_eq]
  generalize (lg_sl ([.ref mo, .int (nI 0)]) ++ List.replicate (3 - (lg_sl ([.ref mo, .int (nI 0)])).length) Slot.unset).toArray = ls at hl ⊢
  have hl : lv_has ls 3 [(0, .ref mo), (1, .int (nI 0))] := hl
  have fw1 := hts (.fieldLink RX11 7 "GleanDuskModel" "told" "[I") (List.mem_of_getElem? (i := 1) rfl)
  have iw11 : ∀ w ∈ wsX110, w ∈ wsX11_forget := fun _ h => List.mem_cons_of_mem _ (List.mem_append_right _ h)
  refine lv_iload_n hx hb dX11_forget_0 rfl (lv_at hl 1 rfl) ?_
  refine lv_i2l (v := (nI 0).toInt64) hx hb dX11_forget_1 (rfl) ?_
  refine lv_lconst (v := 0) hx hb dX11_forget_2 (by decide) ?_
  refine lv_lconst (v := 1) hx hb dX11_forget_3 (by decide) ?_
  have hs1 : kw_Split [(mo, .inr (11, [.ref to, .ref ke, .ref ik, .ref mrf, .long mab, .long mbl, .ref ha, .ref r0, .ref mbr, .ref mbp, .ref mby, .int (nI bl), .int (nI ta), .int (nI tl), .int (nI tk), .int vv, .ref an, .ref va])), (mrf, .inl (y 0, 3, .inl frf)), (to, .inl (y 0, 228, .inl ft))] [] [(mo, .inr (11, [.ref to, .ref ke, .ref ik, .ref mrf, .long mab, .long mbl, .ref ha, .ref r0, .ref mbr, .ref mbp, .ref mby, .int (nI bl), .int (nI ta), .int (nI tl), .int (nI tk), .int vv, .ref an, .ref va])), (mrf, .inl (y 0, 3, .inl frf)), (to, .inl (y 0, 228, .inl ft))] [] [0, 1, 2] := ⟨rfl, rfl, rfl, rfl, rfl, by decide⟩
  refine kw_go_i hs1 hP hD hS hA (va_runS (As := [.long ((nI 0).toInt64), .long 0, .long 1]) (rest := []) ⟨hx, hb, hml, hown, hts⟩ (gr_in l D y (nI 0) 0 1 (by omega) (by omega) _) (va_cwS 3 hts gX11_forget_X11_in rfl rfl rfl (by decide +kernel) ⟨Nat.le_of_ble_eq_true rfl, Nat.le_of_ble_eq_true rfl⟩) (kw_PreS hs1 hP hD hK hN) rfl rfl hl.1 rfl (lv_room (Nat.le_of_ble_eq_true rfl)) dX11_forget_4 ⟨Nat.le_of_ble_eq_true rfl, Nat.le_of_ble_eq_true rfl⟩) (fun r2 u3 H locs hq hP hD hS => ?_)
  rcases hq with ⟨j4, h5, h6, h7, rfl⟩ | ⟨h8, rfl⟩
  · skip
    have h7 : 0 = j4 := (nI_eq (a := 0) (b := j4) (by omega) (by omega)).mp h7
    have hP : va_P D vwCl [(mo, .inr (11, [.ref to, .ref ke, .ref ik, .ref mrf, .long mab, .long mbl, .ref ha, .ref r0, .ref mbr, .ref mbp, .ref mby, .int (nI bl), .int (nI ta), .int (nI tl), .int (nI tk), .int vv, .ref an, .ref va])), (mrf, .inl (y 0, 3, .inl frf)), (to, .inl (y 0, 228, .inl ft))] H := hP
    have hD : va_D A [(mo, .inr (11, [.ref to, .ref ke, .ref ik, .ref mrf, .long mab, .long mbl, .ref ha, .ref r0, .ref mbr, .ref mbp, .ref mby, .int (nI bl), .int (nI ta), .int (nI tl), .int (nI tk), .int vv, .ref an, .ref va])), (mrf, .inl (y 0, 3, .inl frf)), (to, .inl (y 0, 228, .inl ft))] := hD
    refine lv_if_ne (tgt := 17) hx hb dX11_forget_7 (by decide) (fun _ => ?_) (fun h9 => absurd h9 (by decide))
    refine lv_aload_n hx hb dX11_forget_17 rfl (lv_at hl 0 rfl) ?_
    refine va_get (D := D) (ci := 11) (v := .ref to) (C := RX11) (T := TX11) (N := 18) hx hb hts iw11 hown hK hP 0 rfl rfl 0 (by decide) fw1 (fun _ h9 => h9) rfl dX11_forget_18 ?_
    refine lv_iconst (v := 2) hx hb dX11_forget_21 (by decide) ?_
    refine lv_iload_n hx hb dX11_forget_22 rfl (lv_at hl 1 rfl) ?_
    refine lv_iadd hx hb dX11_forget_23 ?_
    rw [show 2 + (nI 0) = nI (2) from nI_add 2 0]
    refine va_iald hx hb hK hP 2 0 rfl rfl (vp_in_nI (by omega) (by decide)) dX11_forget_24 ?_
    rw [nI_clamp (n := 2) (by omega)]
    rw [show (ft 2) = (nI mi) from hk2_]
    refine lv_istore_n (lv' := [(2, .int (nI mi)), (0, .ref mo), (1, .int (nI 0))]) hx hb dX11_forget_25 rfl hl (by decide) rfl (fun ls hl => ?_)
    refine lv_aload_n hx hb dX11_forget_26 rfl (lv_at hl 1 rfl) ?_
    refine va_get (D := D) (ci := 11) (v := .ref to) (C := RX11) (T := TX11) (N := 18) hx hb hts iw11 hown hK hP 0 rfl rfl 0 (by decide) fw1 (fun _ h9 => h9) rfl dX11_forget_27 ?_
    refine lv_iconst (v := 2) hx hb dX11_forget_30 (by decide) ?_
    refine lv_iload_n hx hb dX11_forget_31 rfl (lv_at hl 2 rfl) ?_
    refine lv_iadd hx hb dX11_forget_32 ?_
    rw [show 2 + (nI 0) = nI (2) from nI_add 2 0]
    refine lv_iconst (v := 0) hx hb dX11_forget_33 (by decide) ?_
    refine va_iast hx hb hK hP hD hS 2 0 rfl rfl (vp_in_nI (by omega) (by decide)) dX11_forget_34 (fun H locs hP hD hS => ?_)
    rw [nI_clamp (n := 2) (by omega)] at hP hD
    have hr9 : kr_t 228 (upd ft 2 0) := kr_up hkt (kr_ok0)
    have hk10 : (upd ft 2 0) 0 = (nI fi) := (pk_un (by decide)).trans hk0_
    have hk11 : (upd ft 2 0) 1 = (nI gl) := (pk_un (by decide)).trans hk1_
    have hk12 : (upd ft 2 0) 3 = (nI no) := (pk_un (by decide)).trans hk3_
    have hk13 : (upd ft 2 0) 4 = (nI un) := (pk_un (by decide)).trans hk4_
    have hk14 : (upd ft 2 0) 2 = 0 := pk_us
    have hP : va_P D vwCl [(mo, .inr (11, [.ref to, .ref ke, .ref ik, .ref mrf, .long mab, .long mbl, .ref ha, .ref r0, .ref mbr, .ref mbp, .ref mby, .int (nI bl), .int (nI ta), .int (nI tl), .int (nI tk), .int vv, .ref an, .ref va])), (mrf, .inl (y 0, 3, .inl frf)), (to, .inl (y 0, 228, .inl (upd ft 2 0)))] H := hP
    have hD : va_D A [(mo, .inr (11, [.ref to, .ref ke, .ref ik, .ref mrf, .long mab, .long mbl, .ref ha, .ref r0, .ref mbr, .ref mbp, .ref mby, .int (nI bl), .int (nI ta), .int (nI tl), .int (nI tk), .int vv, .ref an, .ref va])), (mrf, .inl (y 0, 3, .inl frf)), (to, .inl (y 0, 228, .inl (upd ft 2 0)))] := hD
    refine lv_iload_n hx hb dX11_forget_35 rfl (lv_at hl 0 rfl) ?_
    exact W.iret (v := (nI mi)) hx hb hr (fun tZ ht hW => ⟨⟨(nI mi), (), rfl, ⟨hr9, hk10, hk11, hk14, hk12, hk13, by first | omega | (dsimp only; omega), rfl⟩, by rw [ht]; exact hP.sub [0, 1, 2] rfl, hD.sub [0, 1, 2] (by decide) rfl⟩, hS.F ht⟩) hS.2.2 dX11_forget_36
  · skip
    exact absurd ⟨0, by omega, by omega, rfl⟩ h8

set_option maxHeartbeats 4000000 in
set_option maxRecDepth 100000 in
theorem gx_forget1 (l : Launch) (D : va_G) (y : Nat → ClassId) (g : Nat) (kk : Nat) (nw : Nat) (im : Nat) (kp : Nat) (tx : Nat) (tr : Nat) (be : Nat) (sh : Nat) (sd : Nat) (rf : Nat) (ab : Int32) (bl : Int32) (frf : Nat → Int32) (nk : Nat) (nd : Nat) (ne : Nat) (nm : Nat) (nn : Nat) (fi : Nat) (gl : Nat) (un : Nat) (mi : Nat) (no : Nat) (hfi : fi ≤ 6) (hgl : gl ≤ 5) (hun : un ≤ 8) (hmi : mi ≤ 4) (hno : no ≤ 6) : kw_Mi l yX10_forget wsX10_forget ({ frames := 2, cells := 0, slots := 0, locals := 81 }) D y [.ref g, .int 1] [(g, .inr (10, [.ref kk, .ref nw, .ref im, .ref kp, .ref tx, .ref tr, .ref be, .ref sh, .ref sd, .ref rf, .int ab, .int bl])), (rf, .inl (y 0, 3, .inl frf)), (nw, .inr (4, [.ref kk, .ref nk, .ref nd, .ref ne, .ref nm, .ref nn, .int (nI fi), .int (nI gl), .int (nI un), .int (nI mi), .int (nI no)]))] (fun (r : Int32) (u : Unit) => r = (nI no)) (fun _ => [(g, .inr (10, [.ref kk, .ref nw, .ref im, .ref kp, .ref tx, .ref tr, .ref be, .ref sh, .ref sd, .ref rf, .int ab, .int bl])), (rf, .inl (y 0, 3, .inl frf)), (nw, .inr (4, [.ref kk, .ref nk, .ref nd, .ref ne, .ref nm, .ref nn, .int (nI fi), .int (nI gl), .int (nI un), .int (nI mi), .int 0]))]) 0 0 := by
  refine kw_Mi.of (cc := cX10_forget) (maxL := 3) (ret := (some .int)) (by decide) rfl ?_
  intro pZ eZ s mZ beZ meZ cZ A hE
  obtain ⟨hx, hb, hr, hml, hts, hown, hlocks, hin, hA, hP, hD, hK, hN⟩ := hE
  have hS : va_S A s.heap s.heap [] := va_S.rf
  have hl := lv_entry ([.ref g, .int 1]) (n := 3) (Nat.le_of_ble_eq_true rfl)
  rw [lg_entry_eq]
  generalize (lg_sl ([.ref g, .int 1]) ++ List.replicate (3 - (lg_sl ([.ref g, .int 1])).length) Slot.unset).toArray = ls at hl ⊢
  have hl : lv_has ls 3 [(0, .ref g), (1, .int 1)] := hl
  have fw1 := hts (.fieldLink RX10 36 "GleanDusk" "now" "LGleanDusk$Parish;") (List.mem_of_getElem? (i := 1) rfl)
  have fw2 := hts (.fieldLink RX10 250 "GleanDusk$Parish" "noteCount" "I") (List.mem_of_getElem? (i := 3) rfl)
  have iw10 : ∀ w ∈ wsX100, w ∈ wsX10_forget := fun _ h => List.mem_cons_of_mem _ (List.mem_append_left _ (List.mem_append_right _ h))
  have iw4 : ∀ w ∈ wsX40, w ∈ wsX10_forget := fun _ h => List.mem_cons_of_mem _ (List.mem_append_right _ h)
  refine lv_iload_n hx hb dX10_forget_0 rfl (lv_at hl 1 rfl) ?_
  refine lv_iconst (v := 2) hx hb dX10_forget_1 (by decide) ?_
  have hs1 : kw_Split [(g, .inr (10, [.ref kk, .ref nw, .ref im, .ref kp, .ref tx, .ref tr, .ref be, .ref sh, .ref sd, .ref rf, .int ab, .int bl])), (rf, .inl (y 0, 3, .inl frf)), (nw, .inr (4, [.ref kk, .ref nk, .ref nd, .ref ne, .ref nm, .ref nn, .int (nI fi), .int (nI gl), .int (nI un), .int (nI mi), .int (nI no)]))] [] [(g, .inr (10, [.ref kk, .ref nw, .ref im, .ref kp, .ref tx, .ref tr, .ref be, .ref sh, .ref sd, .ref rf, .int ab, .int bl])), (rf, .inl (y 0, 3, .inl frf)), (nw, .inr (4, [.ref kk, .ref nk, .ref nd, .ref ne, .ref nm, .ref nn, .int (nI fi), .int (nI gl), .int (nI un), .int (nI mi), .int (nI no)]))] [] [0, 1, 2] := ⟨rfl, rfl, rfl, rfl, rfl, by decide⟩
  refine kw_go_i hs1 hP hD hS hA (va_runS (As := [.int 1, .int 2]) (rest := []) ⟨hx, hb, hml, hown, hts⟩ (gc_isBelow l D y 1 2 (by omega) _) (va_cwS 2 hts gX10_forget_X10_isBelow rfl rfl rfl (by decide +kernel) ⟨Nat.le_of_ble_eq_true rfl, Nat.le_of_ble_eq_true rfl⟩) (kw_PreS hs1 hP hD hK hN) rfl rfl hl.1 rfl (lv_room (Nat.le_of_ble_eq_true rfl)) dX10_forget_2 ⟨Nat.le_of_ble_eq_true rfl, Nat.le_of_ble_eq_true rfl⟩) (fun r2 u3 H locs hq hP hD hS => ?_)
  rcases hq with ⟨j4, h5, h6, rfl⟩ | ⟨h7, rfl⟩
  · skip
    have h6 : 1 = j4 := (nI_eq (a := 1) (b := j4) (by omega) (by omega)).mp h6
    have hP : va_P D vwCl [(g, .inr (10, [.ref kk, .ref nw, .ref im, .ref kp, .ref tx, .ref tr, .ref be, .ref sh, .ref sd, .ref rf, .int ab, .int bl])), (rf, .inl (y 0, 3, .inl frf)), (nw, .inr (4, [.ref kk, .ref nk, .ref nd, .ref ne, .ref nm, .ref nn, .int (nI fi), .int (nI gl), .int (nI un), .int (nI mi), .int (nI no)]))] H := hP
    have hD : va_D A [(g, .inr (10, [.ref kk, .ref nw, .ref im, .ref kp, .ref tx, .ref tr, .ref be, .ref sh, .ref sd, .ref rf, .int ab, .int bl])), (rf, .inl (y 0, 3, .inl frf)), (nw, .inr (4, [.ref kk, .ref nk, .ref nd, .ref ne, .ref nm, .ref nn, .int (nI fi), .int (nI gl), .int (nI un), .int (nI mi), .int (nI no)]))] := hD
    refine lv_if_ne (tgt := 13) hx hb dX10_forget_5 (by decide) (fun _ => ?_) (fun h9 => absurd h9 (by decide))
    refine lv_iload_n hx hb dX10_forget_13 rfl (lv_at hl 1 rfl) ?_
    refine lv_if_ne (tgt := 27) hx hb dX10_forget_14 (by decide) (fun _ => ?_) (fun h9 => absurd h9 (by decide))
    refine lv_aload_n hx hb dX10_forget_27 rfl (lv_at hl 0 rfl) ?_
    refine va_get (D := D) (ci := 10) (v := .ref nw) (C := RX10) (T := TX10) (N := 12) hx hb hts iw10 hown hK hP 0 rfl rfl 1 (by decide) fw1 (fun _ h9 => h9) rfl dX10_forget_28 ?_
    refine va_get (D := D) (ci := 4) (v := .int (nI no)) (C := RX4) (T := TX4) (N := 11) hx hb hts iw4 hown hK hP 2 rfl rfl 10 (by decide) fw2 (fun _ h9 => h9) rfl dX10_forget_31 ?_
    refine lv_istore_n (lv' := [(2, .int (nI no)), (0, .ref g), (1, .int 1)]) hx hb dX10_forget_34 rfl hl (by decide) rfl (fun ls hl => ?_)
    refine lv_iload_n hx hb dX10_forget_35 rfl (lv_at hl 2 rfl) ?_
    refine lv_if_ne (tgt := 50) hx hb dX10_forget_36 (by decide) (fun _ => ?_) (fun h9 => absurd h9 (by decide))
    refine lv_aload_n hx hb dX10_forget_50 rfl (lv_at hl 1 rfl) ?_
    refine va_get (D := D) (ci := 10) (v := .ref nw) (C := RX10) (T := TX10) (N := 12) hx hb hts iw10 hown hK hP 0 rfl rfl 1 (by decide) fw1 (fun _ h9 => h9) rfl dX10_forget_51 ?_
    refine lv_iconst (v := 0) hx hb dX10_forget_54 (by decide) ?_
    refine va_put (D := D) (ci := 4) (v := .int 0) (ty := .int) (C := RX4) (T := TX4) (N := 11) hx hb hts iw4 tyX4 tyX4_ok nmX4 hown hK hP hD hS 2 rfl rfl 10 (by decide) fw2 (fun _ h9 => h9) rfl (by decide +kernel) rfl rfl (Nat.le_of_ble_eq_true rfl) dX10_forget_55 (fun H locs hP hD hS => ?_)
    have hP : va_P D vwCl [(g, .inr (10, [.ref kk, .ref nw, .ref im, .ref kp, .ref tx, .ref tr, .ref be, .ref sh, .ref sd, .ref rf, .int ab, .int bl])), (rf, .inl (y 0, 3, .inl frf)), (nw, .inr (4, [.ref kk, .ref nk, .ref nd, .ref ne, .ref nm, .ref nn, .int (nI fi), .int (nI gl), .int (nI un), .int (nI mi), .int 0]))] H := hP
    have hD : va_D A [(g, .inr (10, [.ref kk, .ref nw, .ref im, .ref kp, .ref tx, .ref tr, .ref be, .ref sh, .ref sd, .ref rf, .int ab, .int bl])), (rf, .inl (y 0, 3, .inl frf)), (nw, .inr (4, [.ref kk, .ref nk, .ref nd, .ref ne, .ref nm, .ref nn, .int (nI fi), .int (nI gl), .int (nI un), .int (nI mi), .int 0]))] := hD
    refine lv_iload_n hx hb dX10_forget_58 rfl (lv_at hl 0 rfl) ?_
    exact W.iret (v := (nI no)) hx hb hr (fun tZ ht hW => ⟨⟨(nI no), (), rfl, rfl, by rw [ht]; exact hP.sub [0, 1, 2] rfl, hD.sub [0, 1, 2] (by decide) rfl⟩, hS.F ht⟩) hS.2.2 dX10_forget_59
  · skip
    exact absurd ⟨1, by decide, by decide⟩ h7

set_option maxHeartbeats 4000000 in
set_option maxRecDepth 100000 in
theorem gy_forget1 (l : Launch) (D : va_G) (y : Nat → ClassId) (mo : Nat) (to : Nat) (ke : Nat) (ik : Nat) (mrf : Nat) (ha : Nat) (r0 : Nat) (mbr : Nat) (mbp : Nat) (mby : Nat) (an : Nat) (va : Nat) (mab : Int64) (mbl : Int64) (bl : Nat) (ta : Nat) (tl : Nat) (tk : Nat) (vv : Int32) (frf : Nat → Int32) (ft : Nat → Int32) (fi : Nat) (gl : Nat) (mi : Nat) (no : Nat) (un : Nat) (hk0_ : ft 0 = (nI fi)) (hk1_ : ft 1 = (nI gl)) (hk2_ : ft 2 = (nI mi)) (hk3_ : ft 3 = (nI no)) (hk4_ : ft 4 = (nI un)) (hkt : kr_t 228 ft) (hfi : fi ≤ 6) (hgl : gl ≤ 5) (hmi : mi ≤ 4) (hno : no ≤ 6) (hun : un ≤ 8) (hgf : (gl = 0 ∨ 0 < fi)) : kw_Mi l yX11_forget wsX11_forget ({ frames := 2, cells := 0, slots := 0, locals := 85 }) D y [.ref mo, .int (nI 1)] [(mo, .inr (11, [.ref to, .ref ke, .ref ik, .ref mrf, .long mab, .long mbl, .ref ha, .ref r0, .ref mbr, .ref mbp, .ref mby, .int (nI bl), .int (nI ta), .int (nI tl), .int (nI tk), .int vv, .ref an, .ref va])), (mrf, .inl (y 0, 3, .inl frf)), (to, .inl (y 0, 228, .inl ft))] (fun (r : Int32) (u : Unit) => kr_t 228 (upd ft 3 0) ∧ (upd ft 3 0) 0 = (nI fi) ∧ (upd ft 3 0) 1 = (nI gl) ∧ (upd ft 3 0) 2 = (nI mi) ∧ (upd ft 3 0) 3 = 0 ∧ (upd ft 3 0) 4 = (nI un) ∧ (gl = 0 ∨ 0 < fi) ∧ r = (nI no)) (fun _ => [(mo, .inr (11, [.ref to, .ref ke, .ref ik, .ref mrf, .long mab, .long mbl, .ref ha, .ref r0, .ref mbr, .ref mbp, .ref mby, .int (nI bl), .int (nI ta), .int (nI tl), .int (nI tk), .int vv, .ref an, .ref va])), (mrf, .inl (y 0, 3, .inl frf)), (to, .inl (y 0, 228, .inl (upd ft 3 0)))]) 0 0 := by
  refine kw_Mi.of (cc := cX11_forget) (maxL := 3) (ret := (some .int)) (by decide) rfl ?_
  intro pZ eZ s mZ beZ meZ cZ A hE
  obtain ⟨hx, hb, hr, hml, hts, hown, hlocks, hin, hA, hP, hD, hK, hN⟩ := hE
  have hS : va_S A s.heap s.heap [] := va_S.rf
  have hl := lv_entry ([.ref mo, .int (nI 1)]) (n := 3) (Nat.le_of_ble_eq_true rfl)
  rw [lg_entry_eq]
  generalize (lg_sl ([.ref mo, .int (nI 1)]) ++ List.replicate (3 - (lg_sl ([.ref mo, .int (nI 1)])).length) Slot.unset).toArray = ls at hl ⊢
  have hl : lv_has ls 3 [(0, .ref mo), (1, .int (nI 1))] := hl
  have fw1 := hts (.fieldLink RX11 7 "GleanDuskModel" "told" "[I") (List.mem_of_getElem? (i := 1) rfl)
  have iw11 : ∀ w ∈ wsX110, w ∈ wsX11_forget := fun _ h => List.mem_cons_of_mem _ (List.mem_append_right _ h)
  refine lv_iload_n hx hb dX11_forget_0 rfl (lv_at hl 1 rfl) ?_
  refine lv_i2l (v := (nI 1).toInt64) hx hb dX11_forget_1 (rfl) ?_
  refine lv_lconst (v := 0) hx hb dX11_forget_2 (by decide) ?_
  refine lv_lconst (v := 1) hx hb dX11_forget_3 (by decide) ?_
  have hs1 : kw_Split [(mo, .inr (11, [.ref to, .ref ke, .ref ik, .ref mrf, .long mab, .long mbl, .ref ha, .ref r0, .ref mbr, .ref mbp, .ref mby, .int (nI bl), .int (nI ta), .int (nI tl), .int (nI tk), .int vv, .ref an, .ref va])), (mrf, .inl (y 0, 3, .inl frf)), (to, .inl (y 0, 228, .inl ft))] [] [(mo, .inr (11, [.ref to, .ref ke, .ref ik, .ref mrf, .long mab, .long mbl, .ref ha, .ref r0, .ref mbr, .ref mbp, .ref mby, .int (nI bl), .int (nI ta), .int (nI tl), .int (nI tk), .int vv, .ref an, .ref va])), (mrf, .inl (y 0, 3, .inl frf)), (to, .inl (y 0, 228, .inl ft))] [] [0, 1, 2] := ⟨rfl, rfl, rfl, rfl, rfl, by decide⟩
  refine kw_go_i hs1 hP hD hS hA (va_runS (As := [.long ((nI 1).toInt64), .long 0, .long 1]) (rest := []) ⟨hx, hb, hml, hown, hts⟩ (gr_in l D y (nI 1) 0 1 (by omega) (by omega) _) (va_cwS 3 hts gX11_forget_X11_in rfl rfl rfl (by decide +kernel) ⟨Nat.le_of_ble_eq_true rfl, Nat.le_of_ble_eq_true rfl⟩) (kw_PreS hs1 hP hD hK hN) rfl rfl hl.1 rfl (lv_room (Nat.le_of_ble_eq_true rfl)) dX11_forget_4 ⟨Nat.le_of_ble_eq_true rfl, Nat.le_of_ble_eq_true rfl⟩) (fun r2 u3 H locs hq hP hD hS => ?_)
  rcases hq with ⟨j4, h5, h6, h7, rfl⟩ | ⟨h8, rfl⟩
  · skip
    have h7 : 1 = j4 := (nI_eq (a := 1) (b := j4) (by omega) (by omega)).mp h7
    have hP : va_P D vwCl [(mo, .inr (11, [.ref to, .ref ke, .ref ik, .ref mrf, .long mab, .long mbl, .ref ha, .ref r0, .ref mbr, .ref mbp, .ref mby, .int (nI bl), .int (nI ta), .int (nI tl), .int (nI tk), .int vv, .ref an, .ref va])), (mrf, .inl (y 0, 3, .inl frf)), (to, .inl (y 0, 228, .inl ft))] H := hP
    have hD : va_D A [(mo, .inr (11, [.ref to, .ref ke, .ref ik, .ref mrf, .long mab, .long mbl, .ref ha, .ref r0, .ref mbr, .ref mbp, .ref mby, .int (nI bl), .int (nI ta), .int (nI tl), .int (nI tk), .int vv, .ref an, .ref va])), (mrf, .inl (y 0, 3, .inl frf)), (to, .inl (y 0, 228, .inl ft))] := hD
    refine lv_if_ne (tgt := 17) hx hb dX11_forget_7 (by decide) (fun _ => ?_) (fun h9 => absurd h9 (by decide))
    refine lv_aload_n hx hb dX11_forget_17 rfl (lv_at hl 0 rfl) ?_
    refine va_get (D := D) (ci := 11) (v := .ref to) (C := RX11) (T := TX11) (N := 18) hx hb hts iw11 hown hK hP 0 rfl rfl 0 (by decide) fw1 (fun _ h9 => h9) rfl dX11_forget_18 ?_
    refine lv_iconst (v := 2) hx hb dX11_forget_21 (by decide) ?_
    refine lv_iload_n hx hb dX11_forget_22 rfl (lv_at hl 1 rfl) ?_
    refine lv_iadd hx hb dX11_forget_23 ?_
    rw [show 2 + (nI 1) = nI (3) from nI_add 2 1]
    refine va_iald hx hb hK hP 2 0 rfl rfl (vp_in_nI (by omega) (by decide)) dX11_forget_24 ?_
    rw [nI_clamp (n := 3) (by omega)]
    rw [show (ft 3) = (nI no) from hk3_]
    refine lv_istore_n (lv' := [(2, .int (nI no)), (0, .ref mo), (1, .int (nI 1))]) hx hb dX11_forget_25 rfl hl (by decide) rfl (fun ls hl => ?_)
    refine lv_aload_n hx hb dX11_forget_26 rfl (lv_at hl 1 rfl) ?_
    refine va_get (D := D) (ci := 11) (v := .ref to) (C := RX11) (T := TX11) (N := 18) hx hb hts iw11 hown hK hP 0 rfl rfl 0 (by decide) fw1 (fun _ h9 => h9) rfl dX11_forget_27 ?_
    refine lv_iconst (v := 2) hx hb dX11_forget_30 (by decide) ?_
    refine lv_iload_n hx hb dX11_forget_31 rfl (lv_at hl 2 rfl) ?_
    refine lv_iadd hx hb dX11_forget_32 ?_
    rw [show 2 + (nI 1) = nI (3) from nI_add 2 1]
    refine lv_iconst (v := 0) hx hb dX11_forget_33 (by decide) ?_
    refine va_iast hx hb hK hP hD hS 2 0 rfl rfl (vp_in_nI (by omega) (by decide)) dX11_forget_34 (fun H locs hP hD hS => ?_)
    rw [nI_clamp (n := 3) (by omega)] at hP hD
    have hr9 : kr_t 228 (upd ft 3 0) := kr_up hkt (kr_ok0)
    have hk10 : (upd ft 3 0) 0 = (nI fi) := (pk_un (by decide)).trans hk0_
    have hk11 : (upd ft 3 0) 1 = (nI gl) := (pk_un (by decide)).trans hk1_
    have hk12 : (upd ft 3 0) 2 = (nI mi) := (pk_un (by decide)).trans hk2_
    have hk13 : (upd ft 3 0) 4 = (nI un) := (pk_un (by decide)).trans hk4_
    have hk14 : (upd ft 3 0) 3 = 0 := pk_us
    have hP : va_P D vwCl [(mo, .inr (11, [.ref to, .ref ke, .ref ik, .ref mrf, .long mab, .long mbl, .ref ha, .ref r0, .ref mbr, .ref mbp, .ref mby, .int (nI bl), .int (nI ta), .int (nI tl), .int (nI tk), .int vv, .ref an, .ref va])), (mrf, .inl (y 0, 3, .inl frf)), (to, .inl (y 0, 228, .inl (upd ft 3 0)))] H := hP
    have hD : va_D A [(mo, .inr (11, [.ref to, .ref ke, .ref ik, .ref mrf, .long mab, .long mbl, .ref ha, .ref r0, .ref mbr, .ref mbp, .ref mby, .int (nI bl), .int (nI ta), .int (nI tl), .int (nI tk), .int vv, .ref an, .ref va])), (mrf, .inl (y 0, 3, .inl frf)), (to, .inl (y 0, 228, .inl (upd ft 3 0)))] := hD
    refine lv_iload_n hx hb dX11_forget_35 rfl (lv_at hl 0 rfl) ?_
    exact W.iret (v := (nI no)) hx hb hr (fun tZ ht hW => ⟨⟨(nI no), (), rfl, ⟨hr9, hk10, hk11, hk12, hk14, hk13, by first | omega | (dsimp only; omega), rfl⟩, by rw [ht]; exact hP.sub [0, 1, 2] rfl, hD.sub [0, 1, 2] (by decide) rfl⟩, hS.F ht⟩) hS.2.2 dX11_forget_36
  · skip
    exact absurd ⟨1, by omega, by omega, rfl⟩ h8

set_option maxHeartbeats 4000000 in
set_option maxRecDepth 100000 in
theorem gs_append (l : Launch) (D : va_G) (y : Nat → ClassId) (tx : Nat) (bys : Nat) (wo : Nat) (fs : Nat) (sc : Nat) (ln : Nat) (sta : Nat) (en : Nat) (tok : Int32) (num : Int32) (tfi : Int32) (tgl : Int32) (tst : Int32) (fby : Nat → Int32) (k : Nat) (hln : ln ≤ 150) (hlt : ln < 150) (hA1 : k < 128) : kw_Mi l yX7_append wsX7_append ({ frames := 1, cells := 0, slots := 0, locals := 60 }) D y [.ref tx, .int (nI k)] [(tx, .inr (7, [.ref bys, .int (nI ln), .int tok, .int (nI sta), .int (nI en), .int num, .ref wo, .ref fs, .ref sc, .int tfi, .int tgl, .int tst])), (bys, .inl (y 1, 150, .inl fby))] (fun (r : Int32) (u : Unit) => r = (nI (ln + 1))) (fun _ => [(tx, .inr (7, [.ref bys, .int (nI (ln + 1)), .int tok, .int (nI sta), .int (nI en), .int num, .ref wo, .ref fs, .ref sc, .int tfi, .int tgl, .int tst])), (bys, .inl (y 1, 150, .inl (upd fby ln (nI k))))]) 0 0 := by
  refine kw_Mi.of (cc := cX7_append) (maxL := 2) (ret := (some .int)) (by decide) rfl ?_
  intro pZ eZ s mZ beZ meZ cZ A hE
  obtain ⟨hx, hb, hr, hml, hts, hown, hlocks, hin, hA, hP, hD, hK, hN⟩ := hE
  have hS : va_S A s.heap s.heap [] := va_S.rf
  have hl := lv_entry ([.ref tx, .int (nI k)]) (n := 2) (Nat.le_of_ble_eq_true rfl)
  rw [lg_entry_eq]
  generalize (lg_sl ([.ref tx, .int (nI k)]) ++ List.replicate (2 - (lg_sl ([.ref tx, .int (nI k)])).length) Slot.unset).toArray = ls at hl ⊢
  have hl : lv_has ls 2 [(0, .ref tx), (1, .int (nI k))] := hl
  have fw1 := hts (.fieldLink RX7 9 "GleanDusk$Text" "bytes" "[B") (List.mem_of_getElem? (i := 1) rfl)
  have fw2 := hts (.fieldLink RX7 25 "GleanDusk$Text" "length" "I") (List.mem_of_getElem? (i := 2) rfl)
  have iw7 : ∀ w ∈ wsX70, w ∈ wsX7_append := fun _ h => List.mem_cons_of_mem _ (List.mem_append_right _ h)
  refine lv_aload_n hx hb dX7_append_0 rfl (lv_at hl 0 rfl) ?_
  refine va_get (D := D) (ci := 7) (v := .ref bys) (C := RX7) (T := TX7) (N := 12) hx hb hts iw7 hown hK hP 0 rfl rfl 0 (by decide) fw1 (fun _ h9 => h9) rfl dX7_append_1 ?_
  refine lv_aload_n hx hb dX7_append_4 rfl (lv_at hl 0 rfl) ?_
  refine va_get (D := D) (ci := 7) (v := .int (nI ln)) (C := RX7) (T := TX7) (N := 12) hx hb hts iw7 hown hK hP 0 rfl rfl 1 (by decide) fw2 (fun _ h9 => h9) rfl dX7_append_5 ?_
  refine lv_iload_n hx hb dX7_append_8 rfl (lv_at hl 1 rfl) ?_
  refine lv_i2b (v := (nI k).toInt8.toInt32) hx hb dX7_append_9 (rfl) ?_
  refine va_bast hx hb hK hP hD hS 1 1 rfl rfl (vp_in_nI (by omega) (by decide)) dX7_append_10 (fun H locs hP hD hS => ?_)
  rw [nI_clamp (n := ln) (by omega)] at hP hD
  have hP : va_P D vwCl [(tx, .inr (7, [.ref bys, .int (nI ln), .int tok, .int (nI sta), .int (nI en), .int num, .ref wo, .ref fs, .ref sc, .int tfi, .int tgl, .int tst])), (bys, .inl (y 1, 150, .inl (upd fby ln (vp_nar .byte ((nI k).toInt8.toInt32)))))] H := hP
  have hD : va_D A [(tx, .inr (7, [.ref bys, .int (nI ln), .int tok, .int (nI sta), .int (nI en), .int num, .ref wo, .ref fs, .ref sc, .int tfi, .int tgl, .int tst])), (bys, .inl (y 1, 150, .inl (upd fby ln (vp_nar .byte ((nI k).toInt8.toInt32)))))] := hD
  rw [ks_nar hA1] at hP hD
  have hP : va_P D vwCl [(tx, .inr (7, [.ref bys, .int (nI ln), .int tok, .int (nI sta), .int (nI en), .int num, .ref wo, .ref fs, .ref sc, .int tfi, .int tgl, .int tst])), (bys, .inl (y 1, 150, .inl (upd fby ln (nI k))))] H := hP
  have hD : va_D A [(tx, .inr (7, [.ref bys, .int (nI ln), .int tok, .int (nI sta), .int (nI en), .int num, .ref wo, .ref fs, .ref sc, .int tfi, .int tgl, .int tst])), (bys, .inl (y 1, 150, .inl (upd fby ln (nI k))))] := hD
  refine lv_aload_n hx hb dX7_append_11 rfl (lv_at hl 0 rfl) ?_
  refine lv_dup hx hb dX7_append_12 rfl ?_
  refine va_get (D := D) (ci := 7) (v := .int (nI ln)) (C := RX7) (T := TX7) (N := 12) hx hb hts iw7 hown hK hP 0 rfl rfl 1 (by decide) fw2 (fun _ h9 => h9) rfl dX7_append_13 ?_
  refine lv_iconst (v := 1) hx hb dX7_append_16 (by decide) ?_
  refine lv_iadd hx hb dX7_append_17 ?_
  rw [show (nI ln) + 1 = nI (ln + 1) from nI_add ln 1]
  refine lv_dup_x1 hx hb dX7_append_18 rfl rfl ?_
  refine va_put (D := D) (ci := 7) (v := .int (nI (ln + 1))) (ty := .int) (C := RX7) (T := TX7) (N := 12) hx hb hts iw7 tyX7 tyX7_ok nmX7 hown hK hP hD hS 0 rfl rfl 1 (by decide) fw2 (fun _ h9 => h9) rfl (by decide +kernel) rfl rfl (Nat.le_of_ble_eq_true rfl) dX7_append_19 (fun H locs hP hD hS => ?_)
  have hP : va_P D vwCl [(tx, .inr (7, [.ref bys, .int (nI (ln + 1)), .int tok, .int (nI sta), .int (nI en), .int num, .ref wo, .ref fs, .ref sc, .int tfi, .int tgl, .int tst])), (bys, .inl (y 1, 150, .inl (upd fby ln (nI k))))] H := hP
  have hD : va_D A [(tx, .inr (7, [.ref bys, .int (nI (ln + 1)), .int tok, .int (nI sta), .int (nI en), .int num, .ref wo, .ref fs, .ref sc, .int tfi, .int tgl, .int tst])), (bys, .inl (y 1, 150, .inl (upd fby ln (nI k))))] := hD
  exact W.iret (v := (nI (ln + 1))) hx hb hr (fun tZ ht hW => ⟨⟨(nI (ln + 1)), (), rfl, rfl, by rw [ht]; exact hP.sub [0, 1] rfl, hD.sub [0, 1] (by decide) rfl⟩, hS.F ht⟩) hS.2.2 dX7_append_22

set_option maxHeartbeats 4000000 in
set_option maxRecDepth 100000 in
theorem gs_type_ok (l : Launch) (D : va_G) (y : Nat → ClassId) (g : Nat) (kk : Nat) (nw : Nat) (im : Nat) (kp : Nat) (tx : Nat) (tr : Nat) (be : Nat) (sh : Nat) (sd : Nat) (rf : Nat) (ab : Int32) (bl : Int32) (frf : Nat → Int32) (bys : Nat) (wo : Nat) (fs : Nat) (sc : Nat) (ln : Nat) (sta : Nat) (en : Nat) (tok : Int32) (num : Int32) (tfi : Int32) (tgl : Int32) (tst : Int32) (fby : Nat → Int32) (k : Nat) (hln : ln ≤ 150) (hTs : sta ≤ 150) (hTe : en ≤ 150) (hA1 : k < 128) (hA2 : ln < 150) : kw_Mi l yX10_type wsX10_type ({ frames := 2, cells := 0, slots := 0, locals := 81 }) D y [.ref g, .int (nI k)] [(g, .inr (10, [.ref kk, .ref nw, .ref im, .ref kp, .ref tx, .ref tr, .ref be, .ref sh, .ref sd, .ref rf, .int ab, .int bl])), (rf, .inl (y 0, 3, .inl frf)), (tx, .inr (7, [.ref bys, .int (nI ln), .int tok, .int (nI sta), .int (nI en), .int num, .ref wo, .ref fs, .ref sc, .int tfi, .int tgl, .int tst])), (bys, .inl (y 1, 150, .inl fby))] (fun (r : Int32) (u : Unit) => r = (nI (ln + 1))) (fun _ => [(g, .inr (10, [.ref kk, .ref nw, .ref im, .ref kp, .ref tx, .ref tr, .ref be, .ref sh, .ref sd, .ref rf, .int ab, .int bl])), (rf, .inl (y 0, 3, .inl frf)), (tx, .inr (7, [.ref bys, .int (nI (ln + 1)), .int tok, .int (nI sta), .int (nI en), .int num, .ref wo, .ref fs, .ref sc, .int tfi, .int tgl, .int tst])), (bys, .inl (y 1, 150, .inl (upd fby ln (nI k))))]) 0 0 := by
  refine kw_Mi.of (cc := cX10_type) (maxL := 2) (ret := (some .int)) (by decide) rfl ?_
  intro pZ eZ s mZ beZ meZ cZ A hE
  obtain ⟨hx, hb, hr, hml, hts, hown, hlocks, hin, hA, hP, hD, hK, hN⟩ := hE
  have hS : va_S A s.heap s.heap [] := va_S.rf
  have hl := lv_entry ([.ref g, .int (nI k)]) (n := 2) (Nat.le_of_ble_eq_true rfl)
  rw [lg_entry_eq]
  generalize (lg_sl ([.ref g, .int (nI k)]) ++ List.replicate (2 - (lg_sl ([.ref g, .int (nI k)])).length) Slot.unset).toArray = ls at hl ⊢
  have hl : lv_has ls 2 [(0, .ref g), (1, .int (nI k))] := hl
  have fw1 := hts (.fieldLink RX10 51 "GleanDusk" "text" "LGleanDusk$Text;") (List.mem_of_getElem? (i := 1) rfl)
  have fw2 := hts (.fieldLink RX10 122 "GleanDusk$Text" "length" "I") (List.mem_of_getElem? (i := 2) rfl)
  have iw10 : ∀ w ∈ wsX100, w ∈ wsX10_type := fun _ h => List.mem_cons_of_mem _ (List.mem_append_left _ (List.mem_append_right _ h))
  have iw7 : ∀ w ∈ wsX70, w ∈ wsX10_type := fun _ h => List.mem_cons_of_mem _ (List.mem_append_right _ h)
  refine lv_iload_n hx hb dX10_type_0 rfl (lv_at hl 1 rfl) ?_
  refine lv_sipush (v := 128) hx hb dX10_type_1 (by decide) ?_
  have hs1 : kw_Split [(g, .inr (10, [.ref kk, .ref nw, .ref im, .ref kp, .ref tx, .ref tr, .ref be, .ref sh, .ref sd, .ref rf, .int ab, .int bl])), (rf, .inl (y 0, 3, .inl frf)), (tx, .inr (7, [.ref bys, .int (nI ln), .int tok, .int (nI sta), .int (nI en), .int num, .ref wo, .ref fs, .ref sc, .int tfi, .int tgl, .int tst])), (bys, .inl (y 1, 150, .inl fby))] [] [(g, .inr (10, [.ref kk, .ref nw, .ref im, .ref kp, .ref tx, .ref tr, .ref be, .ref sh, .ref sd, .ref rf, .int ab, .int bl])), (rf, .inl (y 0, 3, .inl frf)), (tx, .inr (7, [.ref bys, .int (nI ln), .int tok, .int (nI sta), .int (nI en), .int num, .ref wo, .ref fs, .ref sc, .int tfi, .int tgl, .int tst])), (bys, .inl (y 1, 150, .inl fby))] [] [0, 1, 2, 3] := ⟨rfl, rfl, rfl, rfl, rfl, by decide⟩
  refine kw_go_i hs1 hP hD hS hA (va_runS (As := [.int (nI k), .int 128]) (rest := []) ⟨hx, hb, hml, hown, hts⟩ (gc_isBelow l D y (nI k) 128 (by omega) _) (va_cwS 2 hts gX10_type_X10_isBelow rfl rfl rfl (by decide +kernel) ⟨Nat.le_of_ble_eq_true rfl, Nat.le_of_ble_eq_true rfl⟩) (kw_PreS hs1 hP hD hK hN) rfl rfl hl.1 rfl (lv_room (Nat.le_of_ble_eq_true rfl)) dX10_type_4 ⟨Nat.le_of_ble_eq_true rfl, Nat.le_of_ble_eq_true rfl⟩) (fun r2 u3 H locs hq hP hD hS => ?_)
  rcases hq with ⟨j4, h5, h6, rfl⟩ | ⟨h7, rfl⟩
  · skip
    have h6 : k = j4 := (nI_eq (a := k) (b := j4) (by omega) (by omega)).mp h6
    have hP : va_P D vwCl [(g, .inr (10, [.ref kk, .ref nw, .ref im, .ref kp, .ref tx, .ref tr, .ref be, .ref sh, .ref sd, .ref rf, .int ab, .int bl])), (rf, .inl (y 0, 3, .inl frf)), (tx, .inr (7, [.ref bys, .int (nI ln), .int tok, .int (nI sta), .int (nI en), .int num, .ref wo, .ref fs, .ref sc, .int tfi, .int tgl, .int tst])), (bys, .inl (y 1, 150, .inl fby))] H := hP
    have hD : va_D A [(g, .inr (10, [.ref kk, .ref nw, .ref im, .ref kp, .ref tx, .ref tr, .ref be, .ref sh, .ref sd, .ref rf, .int ab, .int bl])), (rf, .inl (y 0, 3, .inl frf)), (tx, .inr (7, [.ref bys, .int (nI ln), .int tok, .int (nI sta), .int (nI en), .int num, .ref wo, .ref fs, .ref sc, .int tfi, .int tgl, .int tst])), (bys, .inl (y 1, 150, .inl fby))] := hD
    refine lv_if_ne (tgt := 15) hx hb dX10_type_7 (by decide) (fun _ => ?_) (fun h9 => absurd h9 (by decide))
    refine lv_aload_n hx hb dX10_type_15 rfl (lv_at hl 0 rfl) ?_
    refine va_get (D := D) (ci := 10) (v := .ref tx) (C := RX10) (T := TX10) (N := 12) hx hb hts iw10 hown hK hP 0 rfl rfl 4 (by decide) fw1 (fun _ h9 => h9) rfl dX10_type_16 ?_
    refine va_get (D := D) (ci := 7) (v := .int (nI ln)) (C := RX7) (T := TX7) (N := 12) hx hb hts iw7 hown hK hP 2 rfl rfl 1 (by decide) fw2 (fun _ h9 => h9) rfl dX10_type_19 ?_
    refine lv_sipush (v := 150) hx hb dX10_type_22 (by decide) ?_
    refine lv_icmp_lt (tgt := 33) hx hb dX10_type_25 (by decide) (fun h8 => ?_) (fun h9 => ?_)
    · skip
      have h8 : ln < 150 := (nI_ltI (a := ln) (b := 150) (by omega) (by omega)).mp h8
      refine lv_aload_n hx hb dX10_type_33 rfl (lv_at hl 0 rfl) ?_
      refine va_get (D := D) (ci := 10) (v := .ref tx) (C := RX10) (T := TX10) (N := 12) hx hb hts iw10 hown hK hP 0 rfl rfl 4 (by decide) fw1 (fun _ h9 => h9) rfl dX10_type_34 ?_
      refine lv_iload_n hx hb dX10_type_37 rfl (lv_at hl 1 rfl) ?_
      have hs10 : kw_Split [(g, .inr (10, [.ref kk, .ref nw, .ref im, .ref kp, .ref tx, .ref tr, .ref be, .ref sh, .ref sd, .ref rf, .int ab, .int bl])), (rf, .inl (y 0, 3, .inl frf)), (tx, .inr (7, [.ref bys, .int (nI ln), .int tok, .int (nI sta), .int (nI en), .int num, .ref wo, .ref fs, .ref sc, .int tfi, .int tgl, .int tst])), (bys, .inl (y 1, 150, .inl fby))] [(tx, .inr (7, [.ref bys, .int (nI ln), .int tok, .int (nI sta), .int (nI en), .int num, .ref wo, .ref fs, .ref sc, .int tfi, .int tgl, .int tst])), (bys, .inl (y 1, 150, .inl fby))] [(g, .inr (10, [.ref kk, .ref nw, .ref im, .ref kp, .ref tx, .ref tr, .ref be, .ref sh, .ref sd, .ref rf, .int ab, .int bl])), (rf, .inl (y 0, 3, .inl frf))] [2, 3] [0, 1] := ⟨rfl, rfl, rfl, rfl, rfl, by decide⟩
      refine kw_go_i hs10 hP hD hS hA (va_runV (As := [.int (nI k)]) (rest := []) ⟨hx, hb, hml, hown, hts⟩ (gs_append l D y tx bys wo fs sc ln sta en tok num tfi tgl tst fby k hln hA2 hA1 _) (cwV 1 hts gX10_type_X7_append rfl rfl rfl (by decide +kernel) ⟨Nat.le_of_ble_eq_true rfl, Nat.le_of_ble_eq_true rfl⟩) (kw_PreV (ci := 7) (q0 := 2) hs10 hP hD hK hN rfl rfl) rfl rfl hl.1 rfl (lv_room (Nat.le_of_ble_eq_true rfl)) dX10_type_38 ⟨Nat.le_of_ble_eq_true rfl, Nat.le_of_ble_eq_true rfl⟩) (fun r11 u12 H locs hq hP hD hS => ?_)
      obtain rfl := hq
      have hP : va_P D vwCl [(g, .inr (10, [.ref kk, .ref nw, .ref im, .ref kp, .ref tx, .ref tr, .ref be, .ref sh, .ref sd, .ref rf, .int ab, .int bl])), (rf, .inl (y 0, 3, .inl frf)), (tx, .inr (7, [.ref bys, .int (nI (ln + 1)), .int tok, .int (nI sta), .int (nI en), .int num, .ref wo, .ref fs, .ref sc, .int tfi, .int tgl, .int tst])), (bys, .inl (y 1, 150, .inl (upd fby ln (nI k))))] H := hP
      have hD : va_D A [(g, .inr (10, [.ref kk, .ref nw, .ref im, .ref kp, .ref tx, .ref tr, .ref be, .ref sh, .ref sd, .ref rf, .int ab, .int bl])), (rf, .inl (y 0, 3, .inl frf)), (tx, .inr (7, [.ref bys, .int (nI (ln + 1)), .int tok, .int (nI sta), .int (nI en), .int num, .ref wo, .ref fs, .ref sc, .int tfi, .int tgl, .int tst])), (bys, .inl (y 1, 150, .inl (upd fby ln (nI k))))] := hD
      exact W.iret (v := (nI (ln + 1))) hx hb hr (fun tZ ht hW => ⟨⟨(nI (ln + 1)), (), rfl, rfl, by rw [ht]; exact hP.sub [0, 1, 2, 3] rfl, hD.sub [0, 1, 2, 3] (by decide) rfl⟩, hS.F ht⟩) hS.2.2 dX10_type_41
    · skip
      have h9 : ¬ ln < 150 := fun q9 => h9 ((nI_ltI (a := ln) (b := 150) (by omega) (by omega)).mpr q9)
      exact absurd h9 (by omega)
  · skip
    exact absurd ⟨k, by omega, rfl⟩ h7
