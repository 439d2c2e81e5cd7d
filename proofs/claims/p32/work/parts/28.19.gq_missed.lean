set_option maxHeartbeats 4000000 in
set_option maxRecDepth 100000 in
theorem gq_missed (l : Launch) (D : va_G) (y : Nat → ClassId) (mo : Nat) (to : Nat) (ke : Nat) (ik : Nat) (mrf : Nat) (ha : Nat) (r0 : Nat) (mbr : Nat) (mbp : Nat) (mby : Nat) (an : Nat) (va : Nat) (mab : Int64) (mbl : Int64) (bl : Nat) (ta : Nat) (tl : Nat) (tk : Nat) (vv : Int32) (frf : Nat → Int32) (ft : Nat → Int32) (fi : Nat) (gl : Nat) (mi : Nat) (no : Nat) (un : Nat) (x : Int32) (x2 : Int32) (x3 : Int32) (x4 : Int32) (hk0_ : ft 0 = (nI fi)) (hk1_ : ft 1 = (nI gl)) (hk2_ : ft 2 = (nI mi)) (hk3_ : ft 3 = (nI no)) (hk4_ : ft 4 = (nI un)) (hkt : kr_t 228 ft) (hfi : fi ≤ 6) (hgl : gl ≤ 5) (hmi : mi ≤ 4) (hno : no ≤ 6) (hun : un ≤ 8) (hgf : (gl = 0 ∨ 0 < fi)) : kw_Mi l yX11_missed wsX11_missed ({ frames := 3, cells := 0, slots := 0, locals := 106 }) D y [.ref mo, .int x, .int x2, .int x3, .int x4] [(mo, .inr (11, [.ref to, .ref ke, .ref ik, .ref mrf, .long mab, .long mbl, .ref ha, .ref r0, .ref mbr, .ref mbp, .ref mby, .int (nI bl), .int (nI ta), .int (nI tl), .int (nI tk), .int vv, .ref an, .ref va])), (mrf, .inl (y 0, 3, .inl frf)), (to, .inl (y 0, 228, .inl ft))] (fun (r : Int32) (u : (Nat → Int32) × (Nat → Int32) × Nat) => kr_t 228 u.2.1 ∧ u.2.1 0 = (nI fi) ∧ u.2.1 1 = (nI gl) ∧ u.2.2 ≤ 4 ∧ u.2.1 2 = (nI u.2.2) ∧ u.2.1 3 = (nI no) ∧ u.2.1 4 = (nI un) ∧ (gl = 0 ∨ 0 < fi)) (fun u => [(mo, .inr (11, [.ref to, .ref ke, .ref ik, .ref mrf, .long mab, .long mbl, .ref ha, .ref r0, .ref mbr, .ref mbp, .ref mby, .int (nI bl), .int (nI ta), .int (nI tl), .int (nI tk), .int vv, .ref an, .ref va])), (mrf, .inl (y 0, 3, .inl u.1)), (to, .inl (y 0, 228, .inl u.2.1))]) 0 0 := by
  refine kw_Mi.of (cc := cX11_missed) (maxL := 6) (ret := (some .int)) (by decide) rfl ?_
  intro pZ eZ s mZ beZ meZ cZ A hE
  obtain ⟨hx, hb, hr, hml, hts, hown, hlocks, hin, hA, hP, hD, hK, hN⟩ := hE
  have hS : va_S A s.heap s.heap [] := va_S.rf
  have hl := lv_entry ([.ref mo, .int x, .int x2, .int x3, .int x4]) (n := 6) (Nat.le_of_ble_eq_true rfl)
  rw [lg_entry_eq]
  generalize (lg_sl ([.ref mo, .int x, .int x2, .int x3, .int x4]) ++ List.replicate (6 - (lg_sl ([.ref mo, .int x, .int x2, .int x3, .int x4])).length) Slot.unset).toArray = ls at hl ⊢
  have hl : lv_has ls 6 [(0, .ref mo), (1, .int x), (2, .int x2), (3, .int x3), (4, .int x4)] := hl
  have fw1 := hts (.fieldLink RX11 7 "GleanDuskModel" "told" "[I") (List.mem_of_getElem? (i := 1) rfl)
  have iw11 : ∀ w ∈ wsX110, w ∈ wsX11_missed := fun _ h => List.mem_cons_of_mem _ (List.mem_append_right _ h)
  refine lv_aload_n hx hb dX11_missed_0 rfl (lv_at hl 0 rfl) ?_
  refine lv_iload_n hx hb dX11_missed_1 rfl (lv_at hl 1 rfl) ?_
  have hs1 : kw_Split [(mo, .inr (11, [.ref to, .ref ke, .ref ik, .ref mrf, .long mab, .long mbl, .ref ha, .ref r0, .ref mbr, .ref mbp, .ref mby, .int (nI bl), .int (nI ta), .int (nI tl), .int (nI tk), .int vv, .ref an, .ref va])), (mrf, .inl (y 0, 3, .inl frf)), (to, .inl (y 0, 228, .inl ft))] [(mo, .inr (11, [.ref to, .ref ke, .ref ik, .ref mrf, .long mab, .long mbl, .ref ha, .ref r0, .ref mbr, .ref mbp, .ref mby, .int (nI bl), .int (nI ta), .int (nI tl), .int (nI tk), .int vv, .ref an, .ref va])), (to, .inl (y 0, 228, .inl ft))] [(mrf, .inl (y 0, 3, .inl frf))] [0, 2] [1] := ⟨rfl, rfl, rfl, rfl, rfl, by decide⟩
  refine kw_go_i hs1 hP hD hS hA (va_runV (As := [.int x]) (rest := []) ⟨hx, hb, hml, hown, hts⟩ (gr_isField l D y mo to ke ik mrf ha r0 mbr mbp mby an va mab mbl bl ta tl tk vv ft fi gl mi no un x hk0_ hk1_ hk2_ hk3_ hk4_ hkt hfi hgl hmi hno hun _) (cwV 1 hts gX11_missed_X11_isField rfl rfl rfl (by decide +kernel) ⟨Nat.le_of_ble_eq_true rfl, Nat.le_of_ble_eq_true rfl⟩) (kw_PreV (ci := 11) (q0 := 0) hs1 hP hD hK hN rfl rfl) rfl rfl hl.1 rfl (lv_room (Nat.le_of_ble_eq_true rfl)) dX11_missed_2 ⟨Nat.le_of_ble_eq_true rfl, Nat.le_of_ble_eq_true rfl⟩) (fun r2 u3 H locs hq hP hD hS => ?_)
  rcases hq with ⟨j4, h5, rfl, rfl⟩ | ⟨h6, rfl⟩
  · skip
    have hP : va_P D vwCl [(mrf, .inl (y 0, 3, .inl frf)), (mo, .inr (11, [.ref to, .ref ke, .ref ik, .ref mrf, .long mab, .long mbl, .ref ha, .ref r0, .ref mbr, .ref mbp, .ref mby, .int (nI bl), .int (nI ta), .int (nI tl), .int (nI tk), .int vv, .ref an, .ref va])), (to, .inl (y 0, 228, .inl ft))] H := hP
    have hD : va_D A [(mrf, .inl (y 0, 3, .inl frf)), (mo, .inr (11, [.ref to, .ref ke, .ref ik, .ref mrf, .long mab, .long mbl, .ref ha, .ref r0, .ref mbr, .ref mbp, .ref mby, .int (nI bl), .int (nI ta), .int (nI tl), .int (nI tk), .int vv, .ref an, .ref va])), (to, .inl (y 0, 228, .inl ft))] := hD
    refine lv_if_eq (tgt := 30) hx hb dX11_missed_5 (by decide) (fun h9 => absurd h9 (by decide)) (fun _ => ?_)
    refine lv_iload_n hx hb dX11_missed_8 rfl (lv_at hl 2 rfl) ?_
    have hs7 : kw_Split [(mrf, .inl (y 0, 3, .inl frf)), (mo, .inr (11, [.ref to, .ref ke, .ref ik, .ref mrf, .long mab, .long mbl, .ref ha, .ref r0, .ref mbr, .ref mbp, .ref mby, .int (nI bl), .int (nI ta), .int (nI tl), .int (nI tk), .int vv, .ref an, .ref va])), (to, .inl (y 0, 228, .inl ft))] [] [(mrf, .inl (y 0, 3, .inl frf)), (mo, .inr (11, [.ref to, .ref ke, .ref ik, .ref mrf, .long mab, .long mbl, .ref ha, .ref r0, .ref mbr, .ref mbp, .ref mby, .int (nI bl), .int (nI ta), .int (nI tl), .int (nI tk), .int vv, .ref an, .ref va])), (to, .inl (y 0, 228, .inl ft))] [] [0, 1, 2] := ⟨rfl, rfl, rfl, rfl, rfl, by decide⟩
    refine kw_go_i hs7 hP hD hS hA (va_runS (As := [.int x2]) (rest := []) ⟨hx, hb, hml, hown, hts⟩ (gr_isStep l D y x2  _) (va_cwS 1 hts gX11_missed_X11_isStep rfl rfl rfl (by decide +kernel) ⟨Nat.le_of_ble_eq_true rfl, Nat.le_of_ble_eq_true rfl⟩) (kw_PreS hs7 hP hD hK hN) rfl rfl hl.1 rfl (lv_room (Nat.le_of_ble_eq_true rfl)) dX11_missed_9 ⟨Nat.le_of_ble_eq_true rfl, Nat.le_of_ble_eq_true rfl⟩) (fun r8 u9 H locs hq hP hD hS => ?_)
    rcases hq with ⟨j10, h11, rfl, rfl⟩ | ⟨h12, rfl⟩
    · skip
      have hP : va_P D vwCl [(mrf, .inl (y 0, 3, .inl frf)), (mo, .inr (11, [.ref to, .ref ke, .ref ik, .ref mrf, .long mab, .long mbl, .ref ha, .ref r0, .ref mbr, .ref mbp, .ref mby, .int (nI bl), .int (nI ta), .int (nI tl), .int (nI tk), .int vv, .ref an, .ref va])), (to, .inl (y 0, 228, .inl ft))] H := hP
      have hD : va_D A [(mrf, .inl (y 0, 3, .inl frf)), (mo, .inr (11, [.ref to, .ref ke, .ref ik, .ref mrf, .long mab, .long mbl, .ref ha, .ref r0, .ref mbr, .ref mbp, .ref mby, .int (nI bl), .int (nI ta), .int (nI tl), .int (nI tk), .int vv, .ref an, .ref va])), (to, .inl (y 0, 228, .inl ft))] := hD
      refine lv_if_eq (tgt := 30) hx hb dX11_missed_12 (by decide) (fun h9 => absurd h9 (by decide)) (fun _ => ?_)
      refine lv_iload_n hx hb dX11_missed_15 rfl (lv_at hl 3 rfl) ?_
      have hs13 : kw_Split [(mrf, .inl (y 0, 3, .inl frf)), (mo, .inr (11, [.ref to, .ref ke, .ref ik, .ref mrf, .long mab, .long mbl, .ref ha, .ref r0, .ref mbr, .ref mbp, .ref mby, .int (nI bl), .int (nI ta), .int (nI tl), .int (nI tk), .int vv, .ref an, .ref va])), (to, .inl (y 0, 228, .inl ft))] [] [(mrf, .inl (y 0, 3, .inl frf)), (mo, .inr (11, [.ref to, .ref ke, .ref ik, .ref mrf, .long mab, .long mbl, .ref ha, .ref r0, .ref mbr, .ref mbp, .ref mby, .int (nI bl), .int (nI ta), .int (nI tl), .int (nI tk), .int vv, .ref an, .ref va])), (to, .inl (y 0, 228, .inl ft))] [] [0, 1, 2] := ⟨rfl, rfl, rfl, rfl, rfl, by decide⟩
      refine kw_go_i hs13 hP hD hS hA (va_runS (As := [.int x3]) (rest := []) ⟨hx, hb, hml, hown, hts⟩ (gr_isLight l D y x3  _) (va_cwS 1 hts gX11_missed_X11_isLight rfl rfl rfl (by decide +kernel) ⟨Nat.le_of_ble_eq_true rfl, Nat.le_of_ble_eq_true rfl⟩) (kw_PreS hs13 hP hD hK hN) rfl rfl hl.1 rfl (lv_room (Nat.le_of_ble_eq_true rfl)) dX11_missed_16 ⟨Nat.le_of_ble_eq_true rfl, Nat.le_of_ble_eq_true rfl⟩) (fun r14 u15 H locs hq hP hD hS => ?_)
      rcases hq with ⟨j16, h17, rfl, rfl⟩ | ⟨h18, rfl⟩
      · skip
        have hP : va_P D vwCl [(mrf, .inl (y 0, 3, .inl frf)), (mo, .inr (11, [.ref to, .ref ke, .ref ik, .ref mrf, .long mab, .long mbl, .ref ha, .ref r0, .ref mbr, .ref mbp, .ref mby, .int (nI bl), .int (nI ta), .int (nI tl), .int (nI tk), .int vv, .ref an, .ref va])), (to, .inl (y 0, 228, .inl ft))] H := hP
        have hD : va_D A [(mrf, .inl (y 0, 3, .inl frf)), (mo, .inr (11, [.ref to, .ref ke, .ref ik, .ref mrf, .long mab, .long mbl, .ref ha, .ref r0, .ref mbr, .ref mbp, .ref mby, .int (nI bl), .int (nI ta), .int (nI tl), .int (nI tk), .int vv, .ref an, .ref va])), (to, .inl (y 0, 228, .inl ft))] := hD
        refine lv_if_eq (tgt := 30) hx hb dX11_missed_19 (by decide) (fun h9 => absurd h9 (by decide)) (fun _ => ?_)
        refine lv_iload hx hb dX11_missed_22 (lv_at hl 4 rfl) ?_
        have hs19 : kw_Split [(mrf, .inl (y 0, 3, .inl frf)), (mo, .inr (11, [.ref to, .ref ke, .ref ik, .ref mrf, .long mab, .long mbl, .ref ha, .ref r0, .ref mbr, .ref mbp, .ref mby, .int (nI bl), .int (nI ta), .int (nI tl), .int (nI tk), .int vv, .ref an, .ref va])), (to, .inl (y 0, 228, .inl ft))] [] [(mrf, .inl (y 0, 3, .inl frf)), (mo, .inr (11, [.ref to, .ref ke, .ref ik, .ref mrf, .long mab, .long mbl, .ref ha, .ref r0, .ref mbr, .ref mbp, .ref mby, .int (nI bl), .int (nI ta), .int (nI tl), .int (nI tk), .int vv, .ref an, .ref va])), (to, .inl (y 0, 228, .inl ft))] [] [0, 1, 2] := ⟨rfl, rfl, rfl, rfl, rfl, by decide⟩
        refine kw_go_i hs19 hP hD hS hA (va_runS (As := [.int x4]) (rest := []) ⟨hx, hb, hml, hown, hts⟩ (gr_isLight l D y x4  _) (va_cwS 1 hts gX11_missed_X11_isLight rfl rfl rfl (by decide +kernel) ⟨Nat.le_of_ble_eq_true rfl, Nat.le_of_ble_eq_true rfl⟩) (kw_PreS hs19 hP hD hK hN) rfl rfl hl.1 rfl (lv_room (Nat.le_of_ble_eq_true rfl)) dX11_missed_24 ⟨Nat.le_of_ble_eq_true rfl, Nat.le_of_ble_eq_true rfl⟩) (fun r20 u21 H locs hq hP hD hS => ?_)
        rcases hq with ⟨j22, h23, rfl, rfl⟩ | ⟨h24, rfl⟩
        · skip
          have hP : va_P D vwCl [(mrf, .inl (y 0, 3, .inl frf)), (mo, .inr (11, [.ref to, .ref ke, .ref ik, .ref mrf, .long mab, .long mbl, .ref ha, .ref r0, .ref mbr, .ref mbp, .ref mby, .int (nI bl), .int (nI ta), .int (nI tl), .int (nI tk), .int vv, .ref an, .ref va])), (to, .inl (y 0, 228, .inl ft))] H := hP
          have hD : va_D A [(mrf, .inl (y 0, 3, .inl frf)), (mo, .inr (11, [.ref to, .ref ke, .ref ik, .ref mrf, .long mab, .long mbl, .ref ha, .ref r0, .ref mbr, .ref mbp, .ref mby, .int (nI bl), .int (nI ta), .int (nI tl), .int (nI tk), .int vv, .ref an, .ref va])), (to, .inl (y 0, 228, .inl ft))] := hD
          refine lv_if_ne (tgt := 37) hx hb dX11_missed_27 (by decide) (fun _ => ?_) (fun h9 => absurd h9 (by decide))
          refine lv_aload_n hx hb dX11_missed_37 rfl (lv_at hl 0 rfl) ?_
          refine va_get (D := D) (ci := 11) (v := .ref to) (C := RX11) (T := TX11) (N := 18) hx hb hts iw11 hown hK hP 1 rfl rfl 0 (by decide) fw1 (fun _ h9 => h9) rfl dX11_missed_38 ?_
          refine lv_iconst (v := 2) hx hb dX11_missed_41 (by decide) ?_
          refine va_iald hx hb hK hP 2 0 rfl rfl (by unfold vp_in; decide) dX11_missed_42 ?_
          rw [show ((2 : Int32)).toNatClampNeg = 2 from rfl]
          rw [show (ft 2) = (nI mi) from hk2_]
          refine lv_iconst (v := 4) hx hb dX11_missed_43 (by decide) ?_
          refine lv_icmp_ne (tgt := 52) hx hb dX11_missed_44 (by decide) (fun h25 => ?_) (fun h26 => ?_)
          · skip
            have h25 : ¬ mi = 4 := fun q9 => h25 ((nI_eq (a := mi) (b := 4) (by omega) (by omega)).mpr q9)
            rcases (show mi = 0 ∨ mi = 1 ∨ mi = 2 ∨ mi = 3 by omega) with rfl | rfl | rfl | rfl
            · skip
              refine lv_bipush (v := 30) hx hb dX11_missed_52 (by decide) ?_
              refine lv_iconst (v := 4) hx hb dX11_missed_54 (by decide) ?_
              refine lv_aload_n hx hb dX11_missed_55 rfl (lv_at hl 0 rfl) ?_
              refine va_get (D := D) (ci := 11) (v := .ref to) (C := RX11) (T := TX11) (N := 18) hx hb hts iw11 hown hK hP 1 rfl rfl 0 (by decide) fw1 (fun _ h9 => h9) rfl dX11_missed_56 ?_
              refine lv_iconst (v := 2) hx hb dX11_missed_59 (by decide) ?_
              refine va_iald hx hb hK hP 2 0 rfl rfl (by unfold vp_in; decide) dX11_missed_60 ?_
              rw [show ((2 : Int32)).toNatClampNeg = 2 from rfl]
              rw [show (ft 2) = (nI 0) from hk2_]
              refine lv_imul hx hb dX11_missed_61 ?_
              rw [show 4 * (nI 0) = nI (0) from pk_mul 4 0]
              refine lv_iadd hx hb dX11_missed_62 ?_
              rw [show 30 + (nI 0) = nI (30) from nI_add 30 0]
              refine lv_istore (lv' := [(5, .int (nI 30)), (0, .ref mo), (1, .int (nI j4)), (2, .int (nI j10)), (3, .int (nI j16)), (4, .int (nI j22))]) hx hb dX11_missed_63 hl (by decide) rfl (fun ls hl => ?_)
              refine lv_aload_n hx hb dX11_missed_65 rfl (lv_at hl 1 rfl) ?_
              refine va_get (D := D) (ci := 11) (v := .ref to) (C := RX11) (T := TX11) (N := 18) hx hb hts iw11 hown hK hP 1 rfl rfl 0 (by decide) fw1 (fun _ h9 => h9) rfl dX11_missed_66 ?_
              refine lv_iload hx hb dX11_missed_69 (lv_at hl 0 rfl) ?_
              refine lv_iload_n hx hb dX11_missed_71 rfl (lv_at hl 2 rfl) ?_
              refine va_iast hx hb hK hP hD hS 2 0 rfl rfl (vp_in_nI (by omega) (by decide)) dX11_missed_72 (fun H locs hP hD hS => ?_)
              rw [nI_clamp (n := 30) (by omega)] at hP hD
              have hr27 : kr_t 228 (upd ft 30 (nI j4)) := kr_up hkt (kr_oka (vp_in_nI (by omega) (by decide)) (by unfold kr_s; omega))
              have hk28 : (upd ft 30 (nI j4)) 0 = (nI fi) := (pk_un (by decide)).trans hk0_
              have hk29 : (upd ft 30 (nI j4)) 1 = (nI gl) := (pk_un (by decide)).trans hk1_
              have hk30 : (upd ft 30 (nI j4)) 2 = (nI 0) := (pk_un (by decide)).trans hk2_
              have hk31 : (upd ft 30 (nI j4)) 3 = (nI no) := (pk_un (by decide)).trans hk3_
              have hk32 : (upd ft 30 (nI j4)) 4 = (nI un) := (pk_un (by decide)).trans hk4_
              have hP : va_P D vwCl [(mrf, .inl (y 0, 3, .inl frf)), (mo, .inr (11, [.ref to, .ref ke, .ref ik, .ref mrf, .long mab, .long mbl, .ref ha, .ref r0, .ref mbr, .ref mbp, .ref mby, .int (nI bl), .int (nI ta), .int (nI tl), .int (nI tk), .int vv, .ref an, .ref va])), (to, .inl (y 0, 228, .inl (upd ft 30 (nI j4))))] H := hP
              have hD : va_D A [(mrf, .inl (y 0, 3, .inl frf)), (mo, .inr (11, [.ref to, .ref ke, .ref ik, .ref mrf, .long mab, .long mbl, .ref ha, .ref r0, .ref mbr, .ref mbp, .ref mby, .int (nI bl), .int (nI ta), .int (nI tl), .int (nI tk), .int vv, .ref an, .ref va])), (to, .inl (y 0, 228, .inl (upd ft 30 (nI j4))))] := hD
              refine lv_aload_n hx hb dX11_missed_73 rfl (lv_at hl 1 rfl) ?_
              refine va_get (D := D) (ci := 11) (v := .ref to) (C := RX11) (T := TX11) (N := 18) hx hb hts iw11 hown hK hP 1 rfl rfl 0 (by decide) fw1 (fun _ h9 => h9) rfl dX11_missed_74 ?_
              refine lv_iload hx hb dX11_missed_77 (lv_at hl 0 rfl) ?_
              refine lv_iconst (v := 1) hx hb dX11_missed_79 (by decide) ?_
              refine lv_iadd hx hb dX11_missed_80 ?_
              rw [show (nI 30) + 1 = nI (31) from nI_add 30 1]
              refine lv_iload_n hx hb dX11_missed_81 rfl (lv_at hl 3 rfl) ?_
              refine va_iast hx hb hK hP hD hS 2 0 rfl rfl (vp_in_nI (by omega) (by decide)) dX11_missed_82 (fun H locs hP hD hS => ?_)
              rw [nI_clamp (n := 31) (by omega)] at hP hD
              have hr33 : kr_t 228 (upd (upd ft 30 (nI j4)) 31 (nI j10)) := kr_up hr27 (kr_free (by unfold kr_a; omega) (by unfold kr_s; omega))
              have hk34 : (upd (upd ft 30 (nI j4)) 31 (nI j10)) 0 = (nI fi) := (pk_un (by decide)).trans hk28
              have hk35 : (upd (upd ft 30 (nI j4)) 31 (nI j10)) 1 = (nI gl) := (pk_un (by decide)).trans hk29
              have hk36 : (upd (upd ft 30 (nI j4)) 31 (nI j10)) 2 = (nI 0) := (pk_un (by decide)).trans hk30
              have hk37 : (upd (upd ft 30 (nI j4)) 31 (nI j10)) 3 = (nI no) := (pk_un (by decide)).trans hk31
              have hk38 : (upd (upd ft 30 (nI j4)) 31 (nI j10)) 4 = (nI un) := (pk_un (by decide)).trans hk32
              have hP : va_P D vwCl [(mrf, .inl (y 0, 3, .inl frf)), (mo, .inr (11, [.ref to, .ref ke, .ref ik, .ref mrf, .long mab, .long mbl, .ref ha, .ref r0, .ref mbr, .ref mbp, .ref mby, .int (nI bl), .int (nI ta), .int (nI tl), .int (nI tk), .int vv, .ref an, .ref va])), (to, .inl (y 0, 228, .inl (upd (upd ft 30 (nI j4)) 31 (nI j10))))] H := hP
              have hD : va_D A [(mrf, .inl (y 0, 3, .inl frf)), (mo, .inr (11, [.ref to, .ref ke, .ref ik, .ref mrf, .long mab, .long mbl, .ref ha, .ref r0, .ref mbr, .ref mbp, .ref mby, .int (nI bl), .int (nI ta), .int (nI tl), .int (nI tk), .int vv, .ref an, .ref va])), (to, .inl (y 0, 228, .inl (upd (upd ft 30 (nI j4)) 31 (nI j10))))] := hD
              refine lv_aload_n hx hb dX11_missed_83 rfl (lv_at hl 1 rfl) ?_
              refine va_get (D := D) (ci := 11) (v := .ref to) (C := RX11) (T := TX11) (N := 18) hx hb hts iw11 hown hK hP 1 rfl rfl 0 (by decide) fw1 (fun _ h9 => h9) rfl dX11_missed_84 ?_
              refine lv_iload hx hb dX11_missed_87 (lv_at hl 0 rfl) ?_
              refine lv_iconst (v := 2) hx hb dX11_missed_89 (by decide) ?_
              refine lv_iadd hx hb dX11_missed_90 ?_
              rw [show (nI 30) + 2 = nI (32) from nI_add 30 2]
              refine lv_iload_n hx hb dX11_missed_91 rfl (lv_at hl 4 rfl) ?_
              refine va_iast hx hb hK hP hD hS 2 0 rfl rfl (vp_in_nI (by omega) (by decide)) dX11_missed_92 (fun H locs hP hD hS => ?_)
              rw [nI_clamp (n := 32) (by omega)] at hP hD
              have hr39 : kr_t 228 (upd (upd (upd ft 30 (nI j4)) 31 (nI j10)) 32 (nI j16)) := kr_up hr33 (kr_free (by unfold kr_a; omega) (by unfold kr_s; omega))
              have hk40 : (upd (upd (upd ft 30 (nI j4)) 31 (nI j10)) 32 (nI j16)) 0 = (nI fi) := (pk_un (by decide)).trans hk34
              have hk41 : (upd (upd (upd ft 30 (nI j4)) 31 (nI j10)) 32 (nI j16)) 1 = (nI gl) := (pk_un (by decide)).trans hk35
              have hk42 : (upd (upd (upd ft 30 (nI j4)) 31 (nI j10)) 32 (nI j16)) 2 = (nI 0) := (pk_un (by decide)).trans hk36
              have hk43 : (upd (upd (upd ft 30 (nI j4)) 31 (nI j10)) 32 (nI j16)) 3 = (nI no) := (pk_un (by decide)).trans hk37
              have hk44 : (upd (upd (upd ft 30 (nI j4)) 31 (nI j10)) 32 (nI j16)) 4 = (nI un) := (pk_un (by decide)).trans hk38
              have hP : va_P D vwCl [(mrf, .inl (y 0, 3, .inl frf)), (mo, .inr (11, [.ref to, .ref ke, .ref ik, .ref mrf, .long mab, .long mbl, .ref ha, .ref r0, .ref mbr, .ref mbp, .ref mby, .int (nI bl), .int (nI ta), .int (nI tl), .int (nI tk), .int vv, .ref an, .ref va])), (to, .inl (y 0, 228, .inl (upd (upd (upd ft 30 (nI j4)) 31 (nI j10)) 32 (nI j16))))] H := hP
              have hD : va_D A [(mrf, .inl (y 0, 3, .inl frf)), (mo, .inr (11, [.ref to, .ref ke, .ref ik, .ref mrf, .long mab, .long mbl, .ref ha, .ref r0, .ref mbr, .ref mbp, .ref mby, .int (nI bl), .int (nI ta), .int (nI tl), .int (nI tk), .int vv, .ref an, .ref va])), (to, .inl (y 0, 228, .inl (upd (upd (upd ft 30 (nI j4)) 31 (nI j10)) 32 (nI j16))))] := hD
              refine lv_aload_n hx hb dX11_missed_93 rfl (lv_at hl 1 rfl) ?_
              refine va_get (D := D) (ci := 11) (v := .ref to) (C := RX11) (T := TX11) (N := 18) hx hb hts iw11 hown hK hP 1 rfl rfl 0 (by decide) fw1 (fun _ h9 => h9) rfl dX11_missed_94 ?_
              refine lv_iload hx hb dX11_missed_97 (lv_at hl 0 rfl) ?_
              refine lv_iconst (v := 3) hx hb dX11_missed_99 (by decide) ?_
              refine lv_iadd hx hb dX11_missed_100 ?_
              rw [show (nI 30) + 3 = nI (33) from nI_add 30 3]
              refine lv_iload hx hb dX11_missed_101 (lv_at hl 5 rfl) ?_
              refine va_iast hx hb hK hP hD hS 2 0 rfl rfl (vp_in_nI (by omega) (by decide)) dX11_missed_103 (fun H locs hP hD hS => ?_)
              rw [nI_clamp (n := 33) (by omega)] at hP hD
              have hr45 : kr_t 228 (upd (upd (upd (upd ft 30 (nI j4)) 31 (nI j10)) 32 (nI j16)) 33 (nI j22)) := kr_up hr39 (kr_free (by unfold kr_a; omega) (by unfold kr_s; omega))
              have hk46 : (upd (upd (upd (upd ft 30 (nI j4)) 31 (nI j10)) 32 (nI j16)) 33 (nI j22)) 0 = (nI fi) := (pk_un (by decide)).trans hk40
              have hk47 : (upd (upd (upd (upd ft 30 (nI j4)) 31 (nI j10)) 32 (nI j16)) 33 (nI j22)) 1 = (nI gl) := (pk_un (by decide)).trans hk41
              have hk48 : (upd (upd (upd (upd ft 30 (nI j4)) 31 (nI j10)) 32 (nI j16)) 33 (nI j22)) 2 = (nI 0) := (pk_un (by decide)).trans hk42
              have hk49 : (upd (upd (upd (upd ft 30 (nI j4)) 31 (nI j10)) 32 (nI j16)) 33 (nI j22)) 3 = (nI no) := (pk_un (by decide)).trans hk43
              have hk50 : (upd (upd (upd (upd ft 30 (nI j4)) 31 (nI j10)) 32 (nI j16)) 33 (nI j22)) 4 = (nI un) := (pk_un (by decide)).trans hk44
              have hP : va_P D vwCl [(mrf, .inl (y 0, 3, .inl frf)), (mo, .inr (11, [.ref to, .ref ke, .ref ik, .ref mrf, .long mab, .long mbl, .ref ha, .ref r0, .ref mbr, .ref mbp, .ref mby, .int (nI bl), .int (nI ta), .int (nI tl), .int (nI tk), .int vv, .ref an, .ref va])), (to, .inl (y 0, 228, .inl (upd (upd (upd (upd ft 30 (nI j4)) 31 (nI j10)) 32 (nI j16)) 33 (nI j22))))] H := hP
              have hD : va_D A [(mrf, .inl (y 0, 3, .inl frf)), (mo, .inr (11, [.ref to, .ref ke, .ref ik, .ref mrf, .long mab, .long mbl, .ref ha, .ref r0, .ref mbr, .ref mbp, .ref mby, .int (nI bl), .int (nI ta), .int (nI tl), .int (nI tk), .int vv, .ref an, .ref va])), (to, .inl (y 0, 228, .inl (upd (upd (upd (upd ft 30 (nI j4)) 31 (nI j10)) 32 (nI j16)) 33 (nI j22))))] := hD
              refine lv_aload_n hx hb dX11_missed_104 rfl (lv_at hl 1 rfl) ?_
              refine va_get (D := D) (ci := 11) (v := .ref to) (C := RX11) (T := TX11) (N := 18) hx hb hts iw11 hown hK hP 1 rfl rfl 0 (by decide) fw1 (fun _ h9 => h9) rfl dX11_missed_105 ?_
              refine lv_iconst (v := 2) hx hb dX11_missed_108 (by decide) ?_
              refine lv_dup2_11 hx hb dX11_missed_109 rfl rfl ?_
              refine va_iald hx hb hK hP 2 0 rfl rfl (by unfold vp_in; decide) dX11_missed_110 ?_
              rw [show ((2 : Int32)).toNatClampNeg = 2 from rfl]
              rw [show ((upd (upd (upd (upd ft 30 (nI j4)) 31 (nI j10)) 32 (nI j16)) 33 (nI j22)) 2) = (nI 0) from hk48]
              refine lv_iconst (v := 1) hx hb dX11_missed_111 (by decide) ?_
              refine lv_iadd hx hb dX11_missed_112 ?_
              rw [show (nI 0) + 1 = nI (1) from nI_add 0 1]
              refine va_iast hx hb hK hP hD hS 2 0 rfl rfl (by unfold vp_in; decide) dX11_missed_113 (fun H locs hP hD hS => ?_)
              rw [show ((2 : Int32)).toNatClampNeg = 2 from rfl] at hP hD
              have hr51 : kr_t 228 (upd (upd (upd (upd (upd ft 30 (nI j4)) 31 (nI j10)) 32 (nI j16)) 33 (nI j22)) 2 (nI 1)) := kr_up hr45 (kr_free (by unfold kr_a; omega) (by unfold kr_s; omega))
              have hk52 : (upd (upd (upd (upd (upd ft 30 (nI j4)) 31 (nI j10)) 32 (nI j16)) 33 (nI j22)) 2 (nI 1)) 0 = (nI fi) := (pk_un (by decide)).trans hk46
              have hk53 : (upd (upd (upd (upd (upd ft 30 (nI j4)) 31 (nI j10)) 32 (nI j16)) 33 (nI j22)) 2 (nI 1)) 1 = (nI gl) := (pk_un (by decide)).trans hk47
              have hk54 : (upd (upd (upd (upd (upd ft 30 (nI j4)) 31 (nI j10)) 32 (nI j16)) 33 (nI j22)) 2 (nI 1)) 3 = (nI no) := (pk_un (by decide)).trans hk49
              have hk55 : (upd (upd (upd (upd (upd ft 30 (nI j4)) 31 (nI j10)) 32 (nI j16)) 33 (nI j22)) 2 (nI 1)) 4 = (nI un) := (pk_un (by decide)).trans hk50
              have hk56 : (upd (upd (upd (upd (upd ft 30 (nI j4)) 31 (nI j10)) 32 (nI j16)) 33 (nI j22)) 2 (nI 1)) 2 = (nI 1) := pk_us
              have hP : va_P D vwCl [(mrf, .inl (y 0, 3, .inl frf)), (mo, .inr (11, [.ref to, .ref ke, .ref ik, .ref mrf, .long mab, .long mbl, .ref ha, .ref r0, .ref mbr, .ref mbp, .ref mby, .int (nI bl), .int (nI ta), .int (nI tl), .int (nI tk), .int vv, .ref an, .ref va])), (to, .inl (y 0, 228, .inl (upd (upd (upd (upd (upd ft 30 (nI j4)) 31 (nI j10)) 32 (nI j16)) 33 (nI j22)) 2 (nI 1))))] H := hP
              have hD : va_D A [(mrf, .inl (y 0, 3, .inl frf)), (mo, .inr (11, [.ref to, .ref ke, .ref ik, .ref mrf, .long mab, .long mbl, .ref ha, .ref r0, .ref mbr, .ref mbp, .ref mby, .int (nI bl), .int (nI ta), .int (nI tl), .int (nI tk), .int vv, .ref an, .ref va])), (to, .inl (y 0, 228, .inl (upd (upd (upd (upd (upd ft 30 (nI j4)) 31 (nI j10)) 32 (nI j16)) 33 (nI j22)) 2 (nI 1))))] := hD
              refine lv_aload_n hx hb dX11_missed_114 rfl (lv_at hl 1 rfl) ?_
              refine va_get (D := D) (ci := 11) (v := .ref to) (C := RX11) (T := TX11) (N := 18) hx hb hts iw11 hown hK hP 1 rfl rfl 0 (by decide) fw1 (fun _ h9 => h9) rfl dX11_missed_115 ?_
              refine lv_iconst (v := 2) hx hb dX11_missed_118 (by decide) ?_
              refine va_iald hx hb hK hP 2 0 rfl rfl (by unfold vp_in; decide) dX11_missed_119 ?_
              rw [show ((2 : Int32)).toNatClampNeg = 2 from rfl]
              rw [show ((upd (upd (upd (upd (upd ft 30 (nI j4)) 31 (nI j10)) 32 (nI j16)) 33 (nI j22)) 2 (nI 1)) 2) = (nI 1) from hk56]
              exact W.iret (v := (nI 1)) hx hb hr (fun tZ ht hW => ⟨⟨(nI 1), (frf, (upd (upd (upd (upd (upd ft 30 (nI j4)) 31 (nI j10)) 32 (nI j16)) 33 (nI j22)) 2 (nI 1)), 1), rfl, ⟨hr51, hk52, hk53, by first | omega | (dsimp only; omega), hk56, hk54, hk55, by first | omega | (dsimp only; omega)⟩, by rw [ht]; exact hP.sub [1, 0, 2] rfl, hD.sub [1, 0, 2] (by decide) rfl⟩, hS.F ht⟩) hS.2.2 dX11_missed_120
            · skip
              refine lv_bipush (v := 30) hx hb dX11_missed_52 (by decide) ?_
              refine lv_iconst (v := 4) hx hb dX11_missed_54 (by decide) ?_
              refine lv_aload_n hx hb dX11_missed_55 rfl (lv_at hl 0 rfl) ?_
              refine va_get (D := D) (ci := 11) (v := .ref to) (C := RX11) (T := TX11) (N := 18) hx hb hts iw11 hown hK hP 1 rfl rfl 0 (by decide) fw1 (fun _ h9 => h9) rfl dX11_missed_56 ?_
              refine lv_iconst (v := 2) hx hb dX11_missed_59 (by decide) ?_
              refine va_iald hx hb hK hP 2 0 rfl rfl (by unfold vp_in; decide) dX11_missed_60 ?_
              rw [show ((2 : Int32)).toNatClampNeg = 2 from rfl]
              rw [show (ft 2) = (nI 1) from hk2_]
              refine lv_imul hx hb dX11_missed_61 ?_
              rw [show 4 * (nI 1) = nI (4) from pk_mul 4 1]
              refine lv_iadd hx hb dX11_missed_62 ?_
              rw [show 30 + (nI 4) = nI (34) from nI_add 30 4]
              refine lv_istore (lv' := [(5, .int (nI 34)), (0, .ref mo), (1, .int (nI j4)), (2, .int (nI j10)), (3, .int (nI j16)), (4, .int (nI j22))]) hx hb dX11_missed_63 hl (by decide) rfl (fun ls hl => ?_)
              refine lv_aload_n hx hb dX11_missed_65 rfl (lv_at hl 1 rfl) ?_
              refine va_get (D := D) (ci := 11) (v := .ref to) (C := RX11) (T := TX11) (N := 18) hx hb hts iw11 hown hK hP 1 rfl rfl 0 (by decide) fw1 (fun _ h9 => h9) rfl dX11_missed_66 ?_
              refine lv_iload hx hb dX11_missed_69 (lv_at hl 0 rfl) ?_
              refine lv_iload_n hx hb dX11_missed_71 rfl (lv_at hl 2 rfl) ?_
              refine va_iast hx hb hK hP hD hS 2 0 rfl rfl (vp_in_nI (by omega) (by decide)) dX11_missed_72 (fun H locs hP hD hS => ?_)
              rw [nI_clamp (n := 34) (by omega)] at hP hD
              have hr57 : kr_t 228 (upd ft 34 (nI j4)) := kr_up hkt (kr_oka (vp_in_nI (by omega) (by decide)) (by unfold kr_s; omega))
              have hk58 : (upd ft 34 (nI j4)) 0 = (nI fi) := (pk_un (by decide)).trans hk0_
              have hk59 : (upd ft 34 (nI j4)) 1 = (nI gl) := (pk_un (by decide)).trans hk1_
              have hk60 : (upd ft 34 (nI j4)) 2 = (nI 1) := (pk_un (by decide)).trans hk2_
              have hk61 : (upd ft 34 (nI j4)) 3 = (nI no) := (pk_un (by decide)).trans hk3_
              have hk62 : (upd ft 34 (nI j4)) 4 = (nI un) := (pk_un (by decide)).trans hk4_
              have hP : va_P D vwCl [(mrf, .inl (y 0, 3, .inl frf)), (mo, .inr (11, [.ref to, .ref ke, .ref ik, .ref mrf, .long mab, .long mbl, .ref ha, .ref r0, .ref mbr, .ref mbp, .ref mby, .int (nI bl), .int (nI ta), .int (nI tl), .int (nI tk), .int vv, .ref an, .ref va])), (to, .inl (y 0, 228, .inl (upd ft 34 (nI j4))))] H := hP
              have hD : va_D A [(mrf, .inl (y 0, 3, .inl frf)), (mo, .inr (11, [.ref to, .ref ke, .ref ik, .ref mrf, .long mab, .long mbl, .ref ha, .ref r0, .ref mbr, .ref mbp, .ref mby, .int (nI bl), .int (nI ta), .int (nI tl), .int (nI tk), .int vv, .ref an, .ref va])), (to, .inl (y 0, 228, .inl (upd ft 34 (nI j4))))] := hD
              refine lv_aload_n hx hb dX11_missed_73 rfl (lv_at hl 1 rfl) ?_
              refine va_get (D := D) (ci := 11) (v := .ref to) (C := RX11) (T := TX11) (N := 18) hx hb hts iw11 hown hK hP 1 rfl rfl 0 (by decide) fw1 (fun _ h9 => h9) rfl dX11_missed_74 ?_
              refine lv_iload hx hb dX11_missed_77 (lv_at hl 0 rfl) ?_
              refine lv_iconst (v := 1) hx hb dX11_missed_79 (by decide) ?_
              refine lv_iadd hx hb dX11_missed_80 ?_
              rw [show (nI 34) + 1 = nI (35) from nI_add 34 1]
              refine lv_iload_n hx hb dX11_missed_81 rfl (lv_at hl 3 rfl) ?_
              refine va_iast hx hb hK hP hD hS 2 0 rfl rfl (vp_in_nI (by omega) (by decide)) dX11_missed_82 (fun H locs hP hD hS => ?_)
              rw [nI_clamp (n := 35) (by omega)] at hP hD
              have hr63 : kr_t 228 (upd (upd ft 34 (nI j4)) 35 (nI j10)) := kr_up hr57 (kr_free (by unfold kr_a; omega) (by unfold kr_s; omega))
              have hk64 : (upd (upd ft 34 (nI j4)) 35 (nI j10)) 0 = (nI fi) := (pk_un (by decide)).trans hk58
              have hk65 : (upd (upd ft 34 (nI j4)) 35 (nI j10)) 1 = (nI gl) := (pk_un (by decide)).trans hk59
              have hk66 : (upd (upd ft 34 (nI j4)) 35 (nI j10)) 2 = (nI 1) := (pk_un (by decide)).trans hk60
              have hk67 : (upd (upd ft 34 (nI j4)) 35 (nI j10)) 3 = (nI no) := (pk_un (by decide)).trans hk61
              have hk68 : (upd (upd ft 34 (nI j4)) 35 (nI j10)) 4 = (nI un) := (pk_un (by decide)).trans hk62
              have hP : va_P D vwCl [(mrf, .inl (y 0, 3, .inl frf)), (mo, .inr (11, [.ref to, .ref ke, .ref ik, .ref mrf, .long mab, .long mbl, .ref ha, .ref r0, .ref mbr, .ref mbp, .ref mby, .int (nI bl), .int (nI ta), .int (nI tl), .int (nI tk), .int vv, .ref an, .ref va])), (to, .inl (y 0, 228, .inl (upd (upd ft 34 (nI j4)) 35 (nI j10))))] H := hP
              have hD : va_D A [(mrf, .inl (y 0, 3, .inl frf)), (mo, .inr (11, [.ref to, .ref ke, .ref ik, .ref mrf, .long mab, .long mbl, .ref ha, .ref r0, .ref mbr, .ref mbp, .ref mby, .int (nI bl), .int (nI ta), .int (nI tl), .int (nI tk), .int vv, .ref an, .ref va])), (to, .inl (y 0, 228, .inl (upd (upd ft 34 (nI j4)) 35 (nI j10))))] := hD
              refine lv_aload_n hx hb dX11_missed_83 rfl (lv_at hl 1 rfl) ?_
              refine va_get (D := D) (ci := 11) (v := .ref to) (C := RX11) (T := TX11) (N := 18) hx hb hts iw11 hown hK hP 1 rfl rfl 0 (by decide) fw1 (fun _ h9 => h9) rfl dX11_missed_84 ?_
              refine lv_iload hx hb dX11_missed_87 (lv_at hl 0 rfl) ?_
              refine lv_iconst (v := 2) hx hb dX11_missed_89 (by decide) ?_
              refine lv_iadd hx hb dX11_missed_90 ?_
              rw [show (nI 34) + 2 = nI (36) from nI_add 34 2]
              refine lv_iload_n hx hb dX11_missed_91 rfl (lv_at hl 4 rfl) ?_
              refine va_iast hx hb hK hP hD hS 2 0 rfl rfl (vp_in_nI (by omega) (by decide)) dX11_missed_92 (fun H locs hP hD hS => ?_)
              rw [nI_clamp (n := 36) (by omega)] at hP hD
              have hr69 : kr_t 228 (upd (upd (upd ft 34 (nI j4)) 35 (nI j10)) 36 (nI j16)) := kr_up hr63 (kr_free (by unfold kr_a; omega) (by unfold kr_s; omega))
              have hk70 : (upd (upd (upd ft 34 (nI j4)) 35 (nI j10)) 36 (nI j16)) 0 = (nI fi) := (pk_un (by decide)).trans hk64
              have hk71 : (upd (upd (upd ft 34 (nI j4)) 35 (nI j10)) 36 (nI j16)) 1 = (nI gl) := (pk_un (by decide)).trans hk65
              have hk72 : (upd (upd (upd ft 34 (nI j4)) 35 (nI j10)) 36 (nI j16)) 2 = (nI 1) := (pk_un (by decide)).trans hk66
              have hk73 : (upd (upd (upd ft 34 (nI j4)) 35 (nI j10)) 36 (nI j16)) 3 = (nI no) := (pk_un (by decide)).trans hk67
              have hk74 : (upd (upd (upd ft 34 (nI j4)) 35 (nI j10)) 36 (nI j16)) 4 = (nI un) := (pk_un (by decide)).trans hk68
              have hP : va_P D vwCl [(mrf, .inl (y 0, 3, .inl frf)), (mo, .inr (11, [.ref to, .ref ke, .ref ik, .ref mrf, .long mab, .long mbl, .ref ha, .ref r0, .ref mbr, .ref mbp, .ref mby, .int (nI bl), .int (nI ta), .int (nI tl), .int (nI tk), .int vv, .ref an, .ref va])), (to, .inl (y 0, 228, .inl (upd (upd (upd ft 34 (nI j4)) 35 (nI j10)) 36 (nI j16))))] H := hP
              have hD : va_D A [(mrf, .inl (y 0, 3, .inl frf)), (mo, .inr (11, [.ref to, .ref ke, .ref ik, .ref mrf, .long mab, .long mbl, .ref ha, .ref r0, .ref mbr, .ref mbp, .ref mby, .int (nI bl), .int (nI ta), .int (nI tl), .int (nI tk), .int vv, .ref an, .ref va])), (to, .inl (y 0, 228, .inl (upd (upd (upd ft 34 (nI j4)) 35 (nI j10)) 36 (nI j16))))] := hD
              refine lv_aload_n hx hb dX11_missed_93 rfl (lv_at hl 1 rfl) ?_
              refine va_get (D := D) (ci := 11) (v := .ref to) (C := RX11) (T := TX11) (N := 18) hx hb hts iw11 hown hK hP 1 rfl rfl 0 (by decide) fw1 (fun _ h9 => h9) rfl dX11_missed_94 ?_
              refine lv_iload hx hb dX11_missed_97 (lv_at hl 0 rfl) ?_
              refine lv_iconst (v := 3) hx hb dX11_missed_99 (by decide) ?_
              refine lv_iadd hx hb dX11_missed_100 ?_
              rw [show (nI 34) + 3 = nI (37) from nI_add 34 3]
              refine lv_iload hx hb dX11_missed_101 (lv_at hl 5 rfl) ?_
              refine va_iast hx hb hK hP hD hS 2 0 rfl rfl (vp_in_nI (by omega) (by decide)) dX11_missed_103 (fun H locs hP hD hS => ?_)
              rw [nI_clamp (n := 37) (by omega)] at hP hD
              have hr75 : kr_t 228 (upd (upd (upd (upd ft 34 (nI j4)) 35 (nI j10)) 36 (nI j16)) 37 (nI j22)) := kr_up hr69 (kr_free (by unfold kr_a; omega) (by unfold kr_s; omega))
              have hk76 : (upd (upd (upd (upd ft 34 (nI j4)) 35 (nI j10)) 36 (nI j16)) 37 (nI j22)) 0 = (nI fi) := (pk_un (by decide)).trans hk70
              have hk77 : (upd (upd (upd (upd ft 34 (nI j4)) 35 (nI j10)) 36 (nI j16)) 37 (nI j22)) 1 = (nI gl) := (pk_un (by decide)).trans hk71
              have hk78 : (upd (upd (upd (upd ft 34 (nI j4)) 35 (nI j10)) 36 (nI j16)) 37 (nI j22)) 2 = (nI 1) := (pk_un (by decide)).trans hk72
              have hk79 : (upd (upd (upd (upd ft 34 (nI j4)) 35 (nI j10)) 36 (nI j16)) 37 (nI j22)) 3 = (nI no) := (pk_un (by decide)).trans hk73
              have hk80 : (upd (upd (upd (upd ft 34 (nI j4)) 35 (nI j10)) 36 (nI j16)) 37 (nI j22)) 4 = (nI un) := (pk_un (by decide)).trans hk74
              have hP : va_P D vwCl [(mrf, .inl (y 0, 3, .inl frf)), (mo, .inr (11, [.ref to, .ref ke, .ref ik, .ref mrf, .long mab, .long mbl, .ref ha, .ref r0, .ref mbr, .ref mbp, .ref mby, .int (nI bl), .int (nI ta), .int (nI tl), .int (nI tk), .int vv, .ref an, .ref va])), (to, .inl (y 0, 228, .inl (upd (upd (upd (upd ft 34 (nI j4)) 35 (nI j10)) 36 (nI j16)) 37 (nI j22))))] H := hP
              have hD : va_D A [(mrf, .inl (y 0, 3, .inl frf)), (mo, .inr (11, [.ref to, .ref ke, .ref ik, .ref mrf, .long mab, .long mbl, .ref ha, .ref r0, .ref mbr, .ref mbp, .ref mby, .int (nI bl), .int (nI ta), .int (nI tl), .int (nI tk), .int vv, .ref an, .ref va])), (to, .inl (y 0, 228, .inl (upd (upd (upd (upd ft 34 (nI j4)) 35 (nI j10)) 36 (nI j16)) 37 (nI j22))))] := hD
              refine lv_aload_n hx hb dX11_missed_104 rfl (lv_at hl 1 rfl) ?_
              refine va_get (D := D) (ci := 11) (v := .ref to) (C := RX11) (T := TX11) (N := 18) hx hb hts iw11 hown hK hP 1 rfl rfl 0 (by decide) fw1 (fun _ h9 => h9) rfl dX11_missed_105 ?_
              refine lv_iconst (v := 2) hx hb dX11_missed_108 (by decide) ?_
              refine lv_dup2_11 hx hb dX11_missed_109 rfl rfl ?_
              refine va_iald hx hb hK hP 2 0 rfl rfl (by unfold vp_in; decide) dX11_missed_110 ?_
              rw [show ((2 : Int32)).toNatClampNeg = 2 from rfl]
              rw [show ((upd (upd (upd (upd ft 34 (nI j4)) 35 (nI j10)) 36 (nI j16)) 37 (nI j22)) 2) = (nI 1) from hk78]
              refine lv_iconst (v := 1) hx hb dX11_missed_111 (by decide) ?_
              refine lv_iadd hx hb dX11_missed_112 ?_
              rw [show (nI 1) + 1 = nI (2) from nI_add 1 1]
              refine va_iast hx hb hK hP hD hS 2 0 rfl rfl (by unfold vp_in; decide) dX11_missed_113 (fun H locs hP hD hS => ?_)
              rw [show ((2 : Int32)).toNatClampNeg = 2 from rfl] at hP hD
              have hr81 : kr_t 228 (upd (upd (upd (upd (upd ft 34 (nI j4)) 35 (nI j10)) 36 (nI j16)) 37 (nI j22)) 2 (nI 2)) := kr_up hr75 (kr_free (by unfold kr_a; omega) (by unfold kr_s; omega))
              have hk82 : (upd (upd (upd (upd (upd ft 34 (nI j4)) 35 (nI j10)) 36 (nI j16)) 37 (nI j22)) 2 (nI 2)) 0 = (nI fi) := (pk_un (by decide)).trans hk76
              have hk83 : (upd (upd (upd (upd (upd ft 34 (nI j4)) 35 (nI j10)) 36 (nI j16)) 37 (nI j22)) 2 (nI 2)) 1 = (nI gl) := (pk_un (by decide)).trans hk77
              have hk84 : (upd (upd (upd (upd (upd ft 34 (nI j4)) 35 (nI j10)) 36 (nI j16)) 37 (nI j22)) 2 (nI 2)) 3 = (nI no) := (pk_un (by decide)).trans hk79
              have hk85 : (upd (upd (upd (upd (upd ft 34 (nI j4)) 35 (nI j10)) 36 (nI j16)) 37 (nI j22)) 2 (nI 2)) 4 = (nI un) := (pk_un (by decide)).trans hk80
              have hk86 : (upd (upd (upd (upd (upd ft 34 (nI j4)) 35 (nI j10)) 36 (nI j16)) 37 (nI j22)) 2 (nI 2)) 2 = (nI 2) := pk_us
              have hP : va_P D vwCl [(mrf, .inl (y 0, 3, .inl frf)), (mo, .inr (11, [.ref to, .ref ke, .ref ik, .ref mrf, .long mab, .long mbl, .ref ha, .ref r0, .ref mbr, .ref mbp, .ref mby, .int (nI bl), .int (nI ta), .int (nI tl), .int (nI tk), .int vv, .ref an, .ref va])), (to, .inl (y 0, 228, .inl (upd (upd (upd (upd (upd ft 34 (nI j4)) 35 (nI j10)) 36 (nI j16)) 37 (nI j22)) 2 (nI 2))))] H := hP
              have hD : va_D A [(mrf, .inl (y 0, 3, .inl frf)), (mo, .inr (11, [.ref to, .ref ke, .ref ik, .ref mrf, .long mab, .long mbl, .ref ha, .ref r0, .ref mbr, .ref mbp, .ref mby, .int (nI bl), .int (nI ta), .int (nI tl), .int (nI tk), .int vv, .ref an, .ref va])), (to, .inl (y 0, 228, .inl (upd (upd (upd (upd (upd ft 34 (nI j4)) 35 (nI j10)) 36 (nI j16)) 37 (nI j22)) 2 (nI 2))))] := hD
              refine lv_aload_n hx hb dX11_missed_114 rfl (lv_at hl 1 rfl) ?_
              refine va_get (D := D) (ci := 11) (v := .ref to) (C := RX11) (T := TX11) (N := 18) hx hb hts iw11 hown hK hP 1 rfl rfl 0 (by decide) fw1 (fun _ h9 => h9) rfl dX11_missed_115 ?_
              refine lv_iconst (v := 2) hx hb dX11_missed_118 (by decide) ?_
              refine va_iald hx hb hK hP 2 0 rfl rfl (by unfold vp_in; decide) dX11_missed_119 ?_
              rw [show ((2 : Int32)).toNatClampNeg = 2 from rfl]
              rw [show ((upd (upd (upd (upd (upd ft 34 (nI j4)) 35 (nI j10)) 36 (nI j16)) 37 (nI j22)) 2 (nI 2)) 2) = (nI 2) from hk86]
              exact W.iret (v := (nI 2)) hx hb hr (fun tZ ht hW => ⟨⟨(nI 2), (frf, (upd (upd (upd (upd (upd ft 34 (nI j4)) 35 (nI j10)) 36 (nI j16)) 37 (nI j22)) 2 (nI 2)), 2), rfl, ⟨hr81, hk82, hk83, by first | omega | (dsimp only; omega), hk86, hk84, hk85, by first | omega | (dsimp only; omega)⟩, by rw [ht]; exact hP.sub [1, 0, 2] rfl, hD.sub [1, 0, 2] (by decide) rfl⟩, hS.F ht⟩) hS.2.2 dX11_missed_120
            · skip
              refine lv_bipush (v := 30) hx hb dX11_missed_52 (by decide) ?_
              refine lv_iconst (v := 4) hx hb dX11_missed_54 (by decide) ?_
              refine lv_aload_n hx hb dX11_missed_55 rfl (lv_at hl 0 rfl) ?_
              refine va_get (D := D) (ci := 11) (v := .ref to) (C := RX11) (T := TX11) (N := 18) hx hb hts iw11 hown hK hP 1 rfl rfl 0 (by decide) fw1 (fun _ h9 => h9) rfl dX11_missed_56 ?_
              refine lv_iconst (v := 2) hx hb dX11_missed_59 (by decide) ?_
              refine va_iald hx hb hK hP 2 0 rfl rfl (by unfold vp_in; decide) dX11_missed_60 ?_
              rw [show ((2 : Int32)).toNatClampNeg = 2 from rfl]
              rw [show (ft 2) = (nI 2) from hk2_]
              refine lv_imul hx hb dX11_missed_61 ?_
              rw [show 4 * (nI 2) = nI (8) from pk_mul 4 2]
              refine lv_iadd hx hb dX11_missed_62 ?_
              rw [show 30 + (nI 8) = nI (38) from nI_add 30 8]
              refine lv_istore (lv' := [(5, .int (nI 38)), (0, .ref mo), (1, .int (nI j4)), (2, .int (nI j10)), (3, .int (nI j16)), (4, .int (nI j22))]) hx hb dX11_missed_63 hl (by decide) rfl (fun ls hl => ?_)
              refine lv_aload_n hx hb dX11_missed_65 rfl (lv_at hl 1 rfl) ?_
              refine va_get (D := D) (ci := 11) (v := .ref to) (C := RX11) (T := TX11) (N := 18) hx hb hts iw11 hown hK hP 1 rfl rfl 0 (by decide) fw1 (fun _ h9 => h9) rfl dX11_missed_66 ?_
              refine lv_iload hx hb dX11_missed_69 (lv_at hl 0 rfl) ?_
              refine lv_iload_n hx hb dX11_missed_71 rfl (lv_at hl 2 rfl) ?_
              refine va_iast hx hb hK hP hD hS 2 0 rfl rfl (vp_in_nI (by omega) (by decide)) dX11_missed_72 (fun H locs hP hD hS => ?_)
              rw [nI_clamp (n := 38) (by omega)] at hP hD
              have hr87 : kr_t 228 (upd ft 38 (nI j4)) := kr_up hkt (kr_oka (vp_in_nI (by omega) (by decide)) (by unfold kr_s; omega))
              have hk88 : (upd ft 38 (nI j4)) 0 = (nI fi) := (pk_un (by decide)).trans hk0_
              have hk89 : (upd ft 38 (nI j4)) 1 = (nI gl) := (pk_un (by decide)).trans hk1_
              have hk90 : (upd ft 38 (nI j4)) 2 = (nI 2) := (pk_un (by decide)).trans hk2_
              have hk91 : (upd ft 38 (nI j4)) 3 = (nI no) := (pk_un (by decide)).trans hk3_
              have hk92 : (upd ft 38 (nI j4)) 4 = (nI un) := (pk_un (by decide)).trans hk4_
              have hP : va_P D vwCl [(mrf, .inl (y 0, 3, .inl frf)), (mo, .inr (11, [.ref to, .ref ke, .ref ik, .ref mrf, .long mab, .long mbl, .ref ha, .ref r0, .ref mbr, .ref mbp, .ref mby, .int (nI bl), .int (nI ta), .int (nI tl), .int (nI tk), .int vv, .ref an, .ref va])), (to, .inl (y 0, 228, .inl (upd ft 38 (nI j4))))] H := hP
              have hD : va_D A [(mrf, .inl (y 0, 3, .inl frf)), (mo, .inr (11, [.ref to, .ref ke, .ref ik, .ref mrf, .long mab, .long mbl, .ref ha, .ref r0, .ref mbr, .ref mbp, .ref mby, .int (nI bl), .int (nI ta), .int (nI tl), .int (nI tk), .int vv, .ref an, .ref va])), (to, .inl (y 0, 228, .inl (upd ft 38 (nI j4))))] := hD
              refine lv_aload_n hx hb dX11_missed_73 rfl (lv_at hl 1 rfl) ?_
              refine va_get (D := D) (ci := 11) (v := .ref to) (C := RX11) (T := TX11) (N := 18) hx hb hts iw11 hown hK hP 1 rfl rfl 0 (by decide) fw1 (fun _ h9 => h9) rfl dX11_missed_74 ?_
              refine lv_iload hx hb dX11_missed_77 (lv_at hl 0 rfl) ?_
              refine lv_iconst (v := 1) hx hb dX11_missed_79 (by decide) ?_
              refine lv_iadd hx hb dX11_missed_80 ?_
              rw [show (nI 38) + 1 = nI (39) from nI_add 38 1]
              refine lv_iload_n hx hb dX11_missed_81 rfl (lv_at hl 3 rfl) ?_
              refine va_iast hx hb hK hP hD hS 2 0 rfl rfl (vp_in_nI (by omega) (by decide)) dX11_missed_82 (fun H locs hP hD hS => ?_)
              rw [nI_clamp (n := 39) (by omega)] at hP hD
              have hr93 : kr_t 228 (upd (upd ft 38 (nI j4)) 39 (nI j10)) := kr_up hr87 (kr_free (by unfold kr_a; omega) (by unfold kr_s; omega))
              have hk94 : (upd (upd ft 38 (nI j4)) 39 (nI j10)) 0 = (nI fi) := (pk_un (by decide)).trans hk88
              have hk95 : (upd (upd ft 38 (nI j4)) 39 (nI j10)) 1 = (nI gl) := (pk_un (by decide)).trans hk89
              have hk96 : (upd (upd ft 38 (nI j4)) 39 (nI j10)) 2 = (nI 2) := (pk_un (by decide)).trans hk90
              have hk97 : (upd (upd ft 38 (nI j4)) 39 (nI j10)) 3 = (nI no) := (pk_un (by decide)).trans hk91
              have hk98 : (upd (upd ft 38 (nI j4)) 39 (nI j10)) 4 = (nI un) := (pk_un (by decide)).trans hk92
              have hP : va_P D vwCl [(mrf, .inl (y 0, 3, .inl frf)), (mo, .inr (11, [.ref to, .ref ke, .ref ik, .ref mrf, .long mab, .long mbl, .ref ha, .ref r0, .ref mbr, .ref mbp, .ref mby, .int (nI bl), .int (nI ta), .int (nI tl), .int (nI tk), .int vv, .ref an, .ref va])), (to, .inl (y 0, 228, .inl (upd (upd ft 38 (nI j4)) 39 (nI j10))))] H := hP
              have hD : va_D A [(mrf, .inl (y 0, 3, .inl frf)), (mo, .inr (11, [.ref to, .ref ke, .ref ik, .ref mrf, .long mab, .long mbl, .ref ha, .ref r0, .ref mbr, .ref mbp, .ref mby, .int (nI bl), .int (nI ta), .int (nI tl), .int (nI tk), .int vv, .ref an, .ref va])), (to, .inl (y 0, 228, .inl (upd (upd ft 38 (nI j4)) 39 (nI j10))))] := hD
              refine lv_aload_n hx hb dX11_missed_83 rfl (lv_at hl 1 rfl) ?_
              refine va_get (D := D) (ci := 11) (v := .ref to) (C := RX11) (T := TX11) (N := 18) hx hb hts iw11 hown hK hP 1 rfl rfl 0 (by decide) fw1 (fun _ h9 => h9) rfl dX11_missed_84 ?_
              refine lv_iload hx hb dX11_missed_87 (lv_at hl 0 rfl) ?_
              refine lv_iconst (v := 2) hx hb dX11_missed_89 (by decide) ?_
              refine lv_iadd hx hb dX11_missed_90 ?_
              rw [show (nI 38) + 2 = nI (40) from nI_add 38 2]
              refine lv_iload_n hx hb dX11_missed_91 rfl (lv_at hl 4 rfl) ?_
              refine va_iast hx hb hK hP hD hS 2 0 rfl rfl (vp_in_nI (by omega) (by decide)) dX11_missed_92 (fun H locs hP hD hS => ?_)
              rw [nI_clamp (n := 40) (by omega)] at hP hD
              have hr99 : kr_t 228 (upd (upd (upd ft 38 (nI j4)) 39 (nI j10)) 40 (nI j16)) := kr_up hr93 (kr_free (by unfold kr_a; omega) (by unfold kr_s; omega))
              have hk100 : (upd (upd (upd ft 38 (nI j4)) 39 (nI j10)) 40 (nI j16)) 0 = (nI fi) := (pk_un (by decide)).trans hk94
              have hk101 : (upd (upd (upd ft 38 (nI j4)) 39 (nI j10)) 40 (nI j16)) 1 = (nI gl) := (pk_un (by decide)).trans hk95
              have hk102 : (upd (upd (upd ft 38 (nI j4)) 39 (nI j10)) 40 (nI j16)) 2 = (nI 2) := (pk_un (by decide)).trans hk96
              have hk103 : (upd (upd (upd ft 38 (nI j4)) 39 (nI j10)) 40 (nI j16)) 3 = (nI no) := (pk_un (by decide)).trans hk97
              have hk104 : (upd (upd (upd ft 38 (nI j4)) 39 (nI j10)) 40 (nI j16)) 4 = (nI un) := (pk_un (by decide)).trans hk98
              have hP : va_P D vwCl [(mrf, .inl (y 0, 3, .inl frf)), (mo, .inr (11, [.ref to, .ref ke, .ref ik, .ref mrf, .long mab, .long mbl, .ref ha, .ref r0, .ref mbr, .ref mbp, .ref mby, .int (nI bl), .int (nI ta), .int (nI tl), .int (nI tk), .int vv, .ref an, .ref va])), (to, .inl (y 0, 228, .inl (upd (upd (upd ft 38 (nI j4)) 39 (nI j10)) 40 (nI j16))))] H := hP
              have hD : va_D A [(mrf, .inl (y 0, 3, .inl frf)), (mo, .inr (11, [.ref to, .ref ke, .ref ik, .ref mrf, .long mab, .long mbl, .ref ha, .ref r0, .ref mbr, .ref mbp, .ref mby, .int (nI bl), .int (nI ta), .int (nI tl), .int (nI tk), .int vv, .ref an, .ref va])), (to, .inl (y 0, 228, .inl (upd (upd (upd ft 38 (nI j4)) 39 (nI j10)) 40 (nI j16))))] := hD
              refine lv_aload_n hx hb dX11_missed_93 rfl (lv_at hl 1 rfl) ?_
              refine va_get (D := D) (ci := 11) (v := .ref to) (C := RX11) (T := TX11) (N := 18) hx hb hts iw11 hown hK hP 1 rfl rfl 0 (by decide) fw1 (fun _ h9 => h9) rfl dX11_missed_94 ?_
              refine lv_iload hx hb dX11_missed_97 (lv_at hl 0 rfl) ?_
              refine lv_iconst (v := 3) hx hb dX11_missed_99 (by decide) ?_
              refine lv_iadd hx hb dX11_missed_100 ?_
              rw [show (nI 38) + 3 = nI (41) from nI_add 38 3]
              refine lv_iload hx hb dX11_missed_101 (lv_at hl 5 rfl) ?_
              refine va_iast hx hb hK hP hD hS 2 0 rfl rfl (vp_in_nI (by omega) (by decide)) dX11_missed_103 (fun H locs hP hD hS => ?_)
              rw [nI_clamp (n := 41) (by omega)] at hP hD
              have hr105 : kr_t 228 (upd (upd (upd (upd ft 38 (nI j4)) 39 (nI j10)) 40 (nI j16)) 41 (nI j22)) := kr_up hr99 (kr_free (by unfold kr_a; omega) (by unfold kr_s; omega))
              have hk106 : (upd (upd (upd (upd ft 38 (nI j4)) 39 (nI j10)) 40 (nI j16)) 41 (nI j22)) 0 = (nI fi) := (pk_un (by decide)).trans hk100
              have hk107 : (upd (upd (upd (upd ft 38 (nI j4)) 39 (nI j10)) 40 (nI j16)) 41 (nI j22)) 1 = (nI gl) := (pk_un (by decide)).trans hk101
              have hk108 : (upd (upd (upd (upd ft 38 (nI j4)) 39 (nI j10)) 40 (nI j16)) 41 (nI j22)) 2 = (nI 2) := (pk_un (by decide)).trans hk102
              have hk109 : (upd (upd (upd (upd ft 38 (nI j4)) 39 (nI j10)) 40 (nI j16)) 41 (nI j22)) 3 = (nI no) := (pk_un (by decide)).trans hk103
              have hk110 : (upd (upd (upd (upd ft 38 (nI j4)) 39 (nI j10)) 40 (nI j16)) 41 (nI j22)) 4 = (nI un) := (pk_un (by decide)).trans hk104
              have hP : va_P D vwCl [(mrf, .inl (y 0, 3, .inl frf)), (mo, .inr (11, [.ref to, .ref ke, .ref ik, .ref mrf, .long mab, .long mbl, .ref ha, .ref r0, .ref mbr, .ref mbp, .ref mby, .int (nI bl), .int (nI ta), .int (nI tl), .int (nI tk), .int vv, .ref an, .ref va])), (to, .inl (y 0, 228, .inl (upd (upd (upd (upd ft 38 (nI j4)) 39 (nI j10)) 40 (nI j16)) 41 (nI j22))))] H := hP
              have hD : va_D A [(mrf, .inl (y 0, 3, .inl frf)), (mo, .inr (11, [.ref to, .ref ke, .ref ik, .ref mrf, .long mab, .long mbl, .ref ha, .ref r0, .ref mbr, .ref mbp, .ref mby, .int (nI bl), .int (nI ta), .int (nI tl), .int (nI tk), .int vv, .ref an, .ref va])), (to, .inl (y 0, 228, .inl (upd (upd (upd (upd ft 38 (nI j4)) 39 (nI j10)) 40 (nI j16)) 41 (nI j22))))] := hD
              refine lv_aload_n hx hb dX11_missed_104 rfl (lv_at hl 1 rfl) ?_
              refine va_get (D := D) (ci := 11) (v := .ref to) (C := RX11) (T := TX11) (N := 18) hx hb hts iw11 hown hK hP 1 rfl rfl 0 (by decide) fw1 (fun _ h9 => h9) rfl dX11_missed_105 ?_
              refine lv_iconst (v := 2) hx hb dX11_missed_108 (by decide) ?_
              refine lv_dup2_11 hx hb dX11_missed_109 rfl rfl ?_
              refine va_iald hx hb hK hP 2 0 rfl rfl (by unfold vp_in; decide) dX11_missed_110 ?_
              rw [show ((2 : Int32)).toNatClampNeg = 2 from rfl]
              rw [show ((upd (upd (upd (upd ft 38 (nI j4)) 39 (nI j10)) 40 (nI j16)) 41 (nI j22)) 2) = (nI 2) from hk108]
              refine lv_iconst (v := 1) hx hb dX11_missed_111 (by decide) ?_
              refine lv_iadd hx hb dX11_missed_112 ?_
              rw [show (nI 2) + 1 = nI (3) from nI_add 2 1]
              refine va_iast hx hb hK hP hD hS 2 0 rfl rfl (by unfold vp_in; decide) dX11_missed_113 (fun H locs hP hD hS => ?_)
              rw [show ((2 : Int32)).toNatClampNeg = 2 from rfl] at hP hD
              have hr111 : kr_t 228 (upd (upd (upd (upd (upd ft 38 (nI j4)) 39 (nI j10)) 40 (nI j16)) 41 (nI j22)) 2 (nI 3)) := kr_up hr105 (kr_free (by unfold kr_a; omega) (by unfold kr_s; omega))
              have hk112 : (upd (upd (upd (upd (upd ft 38 (nI j4)) 39 (nI j10)) 40 (nI j16)) 41 (nI j22)) 2 (nI 3)) 0 = (nI fi) := (pk_un (by decide)).trans hk106
              have hk113 : (upd (upd (upd (upd (upd ft 38 (nI j4)) 39 (nI j10)) 40 (nI j16)) 41 (nI j22)) 2 (nI 3)) 1 = (nI gl) := (pk_un (by decide)).trans hk107
              have hk114 : (upd (upd (upd (upd (upd ft 38 (nI j4)) 39 (nI j10)) 40 (nI j16)) 41 (nI j22)) 2 (nI 3)) 3 = (nI no) := (pk_un (by decide)).trans hk109
              have hk115 : (upd (upd (upd (upd (upd ft 38 (nI j4)) 39 (nI j10)) 40 (nI j16)) 41 (nI j22)) 2 (nI 3)) 4 = (nI un) := (pk_un (by decide)).trans hk110
              have hk116 : (upd (upd (upd (upd (upd ft 38 (nI j4)) 39 (nI j10)) 40 (nI j16)) 41 (nI j22)) 2 (nI 3)) 2 = (nI 3) := pk_us
              have hP : va_P D vwCl [(mrf, .inl (y 0, 3, .inl frf)), (mo, .inr (11, [.ref to, .ref ke, .ref ik, .ref mrf, .long mab, .long mbl, .ref ha, .ref r0, .ref mbr, .ref mbp, .ref mby, .int (nI bl), .int (nI ta), .int (nI tl), .int (nI tk), .int vv, .ref an, .ref va])), (to, .inl (y 0, 228, .inl (upd (upd (upd (upd (upd ft 38 (nI j4)) 39 (nI j10)) 40 (nI j16)) 41 (nI j22)) 2 (nI 3))))] H := hP
              have hD : va_D A [(mrf, .inl (y 0, 3, .inl frf)), (mo, .inr (11, [.ref to, .ref ke, .ref ik, .ref mrf, .long mab, .long mbl, .ref ha, .ref r0, .ref mbr, .ref mbp, .ref mby, .int (nI bl), .int (nI ta), .int (nI tl), .int (nI tk), .int vv, .ref an, .ref va])), (to, .inl (y 0, 228, .inl (upd (upd (upd (upd (upd ft 38 (nI j4)) 39 (nI j10)) 40 (nI j16)) 41 (nI j22)) 2 (nI 3))))] := hD
              refine lv_aload_n hx hb dX11_missed_114 rfl (lv_at hl 1 rfl) ?_
              refine va_get (D := D) (ci := 11) (v := .ref to) (C := RX11) (T := TX11) (N := 18) hx hb hts iw11 hown hK hP 1 rfl rfl 0 (by decide) fw1 (fun _ h9 => h9) rfl dX11_missed_115 ?_
              refine lv_iconst (v := 2) hx hb dX11_missed_118 (by decide) ?_
              refine va_iald hx hb hK hP 2 0 rfl rfl (by unfold vp_in; decide) dX11_missed_119 ?_
              rw [show ((2 : Int32)).toNatClampNeg = 2 from rfl]
              rw [show ((upd (upd (upd (upd (upd ft 38 (nI j4)) 39 (nI j10)) 40 (nI j16)) 41 (nI j22)) 2 (nI 3)) 2) = (nI 3) from hk116]
              exact W.iret (v := (nI 3)) hx hb hr (fun tZ ht hW => ⟨⟨(nI 3), (frf, (upd (upd (upd (upd (upd ft 38 (nI j4)) 39 (nI j10)) 40 (nI j16)) 41 (nI j22)) 2 (nI 3)), 3), rfl, ⟨hr111, hk112, hk113, by first | omega | (dsimp only; omega), hk116, hk114, hk115, by first | omega | (dsimp only; omega)⟩, by rw [ht]; exact hP.sub [1, 0, 2] rfl, hD.sub [1, 0, 2] (by decide) rfl⟩, hS.F ht⟩) hS.2.2 dX11_missed_120
            · skip
              refine lv_bipush (v := 30) hx hb dX11_missed_52 (by decide) ?_
              refine lv_iconst (v := 4) hx hb dX11_missed_54 (by decide) ?_
              refine lv_aload_n hx hb dX11_missed_55 rfl (lv_at hl 0 rfl) ?_
              refine va_get (D := D) (ci := 11) (v := .ref to) (C := RX11) (T := TX11) (N := 18) hx hb hts iw11 hown hK hP 1 rfl rfl 0 (by decide) fw1 (fun _ h9 => h9) rfl dX11_missed_56 ?_
              refine lv_iconst (v := 2) hx hb dX11_missed_59 (by decide) ?_
              refine va_iald hx hb hK hP 2 0 rfl rfl (by unfold vp_in; decide) dX11_missed_60 ?_
              rw [show ((2 : Int32)).toNatClampNeg = 2 from rfl]
              rw [show (ft 2) = (nI 3) from hk2_]
              refine lv_imul hx hb dX11_missed_61 ?_
              rw [show 4 * (nI 3) = nI (12) from pk_mul 4 3]
              refine lv_iadd hx hb dX11_missed_62 ?_
              rw [show 30 + (nI 12) = nI (42) from nI_add 30 12]
              refine lv_istore (lv' := [(5, .int (nI 42)), (0, .ref mo), (1, .int (nI j4)), (2, .int (nI j10)), (3, .int (nI j16)), (4, .int (nI j22))]) hx hb dX11_missed_63 hl (by decide) rfl (fun ls hl => ?_)
              refine lv_aload_n hx hb dX11_missed_65 rfl (lv_at hl 1 rfl) ?_
              refine va_get (D := D) (ci := 11) (v := .ref to) (C := RX11) (T := TX11) (N := 18) hx hb hts iw11 hown hK hP 1 rfl rfl 0 (by decide) fw1 (fun _ h9 => h9) rfl dX11_missed_66 ?_
              refine lv_iload hx hb dX11_missed_69 (lv_at hl 0 rfl) ?_
              refine lv_iload_n hx hb dX11_missed_71 rfl (lv_at hl 2 rfl) ?_
              refine va_iast hx hb hK hP hD hS 2 0 rfl rfl (vp_in_nI (by omega) (by decide)) dX11_missed_72 (fun H locs hP hD hS => ?_)
              rw [nI_clamp (n := 42) (by omega)] at hP hD
              have hr117 : kr_t 228 (upd ft 42 (nI j4)) := kr_up hkt (kr_oka (vp_in_nI (by omega) (by decide)) (by unfold kr_s; omega))
              have hk118 : (upd ft 42 (nI j4)) 0 = (nI fi) := (pk_un (by decide)).trans hk0_
              have hk119 : (upd ft 42 (nI j4)) 1 = (nI gl) := (pk_un (by decide)).trans hk1_
              have hk120 : (upd ft 42 (nI j4)) 2 = (nI 3) := (pk_un (by decide)).trans hk2_
              have hk121 : (upd ft 42 (nI j4)) 3 = (nI no) := (pk_un (by decide)).trans hk3_
              have hk122 : (upd ft 42 (nI j4)) 4 = (nI un) := (pk_un (by decide)).trans hk4_
              have hP : va_P D vwCl [(mrf, .inl (y 0, 3, .inl frf)), (mo, .inr (11, [.ref to, .ref ke, .ref ik, .ref mrf, .long mab, .long mbl, .ref ha, .ref r0, .ref mbr, .ref mbp, .ref mby, .int (nI bl), .int (nI ta), .int (nI tl), .int (nI tk), .int vv, .ref an, .ref va])), (to, .inl (y 0, 228, .inl (upd ft 42 (nI j4))))] H := hP
              have hD : va_D A [(mrf, .inl (y 0, 3, .inl frf)), (mo, .inr (11, [.ref to, .ref ke, .ref ik, .ref mrf, .long mab, .long mbl, .ref ha, .ref r0, .ref mbr, .ref mbp, .ref mby, .int (nI bl), .int (nI ta), .int (nI tl), .int (nI tk), .int vv, .ref an, .ref va])), (to, .inl (y 0, 228, .inl (upd ft 42 (nI j4))))] := hD
              refine lv_aload_n hx hb dX11_missed_73 rfl (lv_at hl 1 rfl) ?_
              refine va_get (D := D) (ci := 11) (v := .ref to) (C := RX11) (T := TX11) (N := 18) hx hb hts iw11 hown hK hP 1 rfl rfl 0 (by decide) fw1 (fun _ h9 => h9) rfl dX11_missed_74 ?_
              refine lv_iload hx hb dX11_missed_77 (lv_at hl 0 rfl) ?_
              refine lv_iconst (v := 1) hx hb dX11_missed_79 (by decide) ?_
              refine lv_iadd hx hb dX11_missed_80 ?_
              rw [show (nI 42) + 1 = nI (43) from nI_add 42 1]
              refine lv_iload_n hx hb dX11_missed_81 rfl (lv_at hl 3 rfl) ?_
              refine va_iast hx hb hK hP hD hS 2 0 rfl rfl (vp_in_nI (by omega) (by decide)) dX11_missed_82 (fun H locs hP hD hS => ?_)
              rw [nI_clamp (n := 43) (by omega)] at hP hD
              have hr123 : kr_t 228 (upd (upd ft 42 (nI j4)) 43 (nI j10)) := kr_up hr117 (kr_free (by unfold kr_a; omega) (by unfold kr_s; omega))
              have hk124 : (upd (upd ft 42 (nI j4)) 43 (nI j10)) 0 = (nI fi) := (pk_un (by decide)).trans hk118
              have hk125 : (upd (upd ft 42 (nI j4)) 43 (nI j10)) 1 = (nI gl) := (pk_un (by decide)).trans hk119
              have hk126 : (upd (upd ft 42 (nI j4)) 43 (nI j10)) 2 = (nI 3) := (pk_un (by decide)).trans hk120
              have hk127 : (upd (upd ft 42 (nI j4)) 43 (nI j10)) 3 = (nI no) := (pk_un (by decide)).trans hk121
              have hk128 : (upd (upd ft 42 (nI j4)) 43 (nI j10)) 4 = (nI un) := (pk_un (by decide)).trans hk122
              have hP : va_P D vwCl [(mrf, .inl (y 0, 3, .inl frf)), (mo, .inr (11, [.ref to, .ref ke, .ref ik, .ref mrf, .long mab, .long mbl, .ref ha, .ref r0, .ref mbr, .ref mbp, .ref mby, .int (nI bl), .int (nI ta), .int (nI tl), .int (nI tk), .int vv, .ref an, .ref va])), (to, .inl (y 0, 228, .inl (upd (upd ft 42 (nI j4)) 43 (nI j10))))] H := hP
              have hD : va_D A [(mrf, .inl (y 0, 3, .inl frf)), (mo, .inr (11, [.ref to, .ref ke, .ref ik, .ref mrf, .long mab, .long mbl, .ref ha, .ref r0, .ref mbr, .ref mbp, .ref mby, .int (nI bl), .int (nI ta), .int (nI tl), .int (nI tk), .int vv, .ref an, .ref va])), (to, .inl (y 0, 228, .inl (upd (upd ft 42 (nI j4)) 43 (nI j10))))] := hD
              refine lv_aload_n hx hb dX11_missed_83 rfl (lv_at hl 1 rfl) ?_
              refine va_get (D := D) (ci := 11) (v := .ref to) (C := RX11) (T := TX11) (N := 18) hx hb hts iw11 hown hK hP 1 rfl rfl 0 (by decide) fw1 (fun _ h9 => h9) rfl dX11_missed_84 ?_
              refine lv_iload hx hb dX11_missed_87 (lv_at hl 0 rfl) ?_
              refine lv_iconst (v := 2) hx hb dX11_missed_89 (by decide) ?_
              refine lv_iadd hx hb dX11_missed_90 ?_
              rw [show (nI 42) + 2 = nI (44) from nI_add 42 2]
              refine lv_iload_n hx hb dX11_missed_91 rfl (lv_at hl 4 rfl) ?_
              refine va_iast hx hb hK hP hD hS 2 0 rfl rfl (vp_in_nI (by omega) (by decide)) dX11_missed_92 (fun H locs hP hD hS => ?_)
              rw [nI_clamp (n := 44) (by omega)] at hP hD
              have hr129 : kr_t 228 (upd (upd (upd ft 42 (nI j4)) 43 (nI j10)) 44 (nI j16)) := kr_up hr123 (kr_free (by unfold kr_a; omega) (by unfold kr_s; omega))
              have hk130 : (upd (upd (upd ft 42 (nI j4)) 43 (nI j10)) 44 (nI j16)) 0 = (nI fi) := (pk_un (by decide)).trans hk124
              have hk131 : (upd (upd (upd ft 42 (nI j4)) 43 (nI j10)) 44 (nI j16)) 1 = (nI gl) := (pk_un (by decide)).trans hk125
              have hk132 : (upd (upd (upd ft 42 (nI j4)) 43 (nI j10)) 44 (nI j16)) 2 = (nI 3) := (pk_un (by decide)).trans hk126
              have hk133 : (upd (upd (upd ft 42 (nI j4)) 43 (nI j10)) 44 (nI j16)) 3 = (nI no) := (pk_un (by decide)).trans hk127
              have hk134 : (upd (upd (upd ft 42 (nI j4)) 43 (nI j10)) 44 (nI j16)) 4 = (nI un) := (pk_un (by decide)).trans hk128
              have hP : va_P D vwCl [(mrf, .inl (y 0, 3, .inl frf)), (mo, .inr (11, [.ref to, .ref ke, .ref ik, .ref mrf, .long mab, .long mbl, .ref ha, .ref r0, .ref mbr, .ref mbp, .ref mby, .int (nI bl), .int (nI ta), .int (nI tl), .int (nI tk), .int vv, .ref an, .ref va])), (to, .inl (y 0, 228, .inl (upd (upd (upd ft 42 (nI j4)) 43 (nI j10)) 44 (nI j16))))] H := hP
              have hD : va_D A [(mrf, .inl (y 0, 3, .inl frf)), (mo, .inr (11, [.ref to, .ref ke, .ref ik, .ref mrf, .long mab, .long mbl, .ref ha, .ref r0, .ref mbr, .ref mbp, .ref mby, .int (nI bl), .int (nI ta), .int (nI tl), .int (nI tk), .int vv, .ref an, .ref va])), (to, .inl (y 0, 228, .inl (upd (upd (upd ft 42 (nI j4)) 43 (nI j10)) 44 (nI j16))))] := hD
              refine lv_aload_n hx hb dX11_missed_93 rfl (lv_at hl 1 rfl) ?_
              refine va_get (D := D) (ci := 11) (v := .ref to) (C := RX11) (T := TX11) (N := 18) hx hb hts iw11 hown hK hP 1 rfl rfl 0 (by decide) fw1 (fun _ h9 => h9) rfl dX11_missed_94 ?_
              refine lv_iload hx hb dX11_missed_97 (lv_at hl 0 rfl) ?_
              refine lv_iconst (v := 3) hx hb dX11_missed_99 (by decide) ?_
              refine lv_iadd hx hb dX11_missed_100 ?_
              rw [show (nI 42) + 3 = nI (45) from nI_add 42 3]
              refine lv_iload hx hb dX11_missed_101 (lv_at hl 5 rfl) ?_
              refine va_iast hx hb hK hP hD hS 2 0 rfl rfl (vp_in_nI (by omega) (by decide)) dX11_missed_103 (fun H locs hP hD hS => ?_)
              rw [nI_clamp (n := 45) (by omega)] at hP hD
              have hr135 : kr_t 228 (upd (upd (upd (upd ft 42 (nI j4)) 43 (nI j10)) 44 (nI j16)) 45 (nI j22)) := kr_up hr129 (kr_free (by unfold kr_a; omega) (by unfold kr_s; omega))
              have hk136 : (upd (upd (upd (upd ft 42 (nI j4)) 43 (nI j10)) 44 (nI j16)) 45 (nI j22)) 0 = (nI fi) := (pk_un (by decide)).trans hk130
              have hk137 : (upd (upd (upd (upd ft 42 (nI j4)) 43 (nI j10)) 44 (nI j16)) 45 (nI j22)) 1 = (nI gl) := (pk_un (by decide)).trans hk131
              have hk138 : (upd (upd (upd (upd ft 42 (nI j4)) 43 (nI j10)) 44 (nI j16)) 45 (nI j22)) 2 = (nI 3) := (pk_un (by decide)).trans hk132
              have hk139 : (upd (upd (upd (upd ft 42 (nI j4)) 43 (nI j10)) 44 (nI j16)) 45 (nI j22)) 3 = (nI no) := (pk_un (by decide)).trans hk133
              have hk140 : (upd (upd (upd (upd ft 42 (nI j4)) 43 (nI j10)) 44 (nI j16)) 45 (nI j22)) 4 = (nI un) := (pk_un (by decide)).trans hk134
              have hP : va_P D vwCl [(mrf, .inl (y 0, 3, .inl frf)), (mo, .inr (11, [.ref to, .ref ke, .ref ik, .ref mrf, .long mab, .long mbl, .ref ha, .ref r0, .ref mbr, .ref mbp, .ref mby, .int (nI bl), .int (nI ta), .int (nI tl), .int (nI tk), .int vv, .ref an, .ref va])), (to, .inl (y 0, 228, .inl (upd (upd (upd (upd ft 42 (nI j4)) 43 (nI j10)) 44 (nI j16)) 45 (nI j22))))] H := hP
              have hD : va_D A [(mrf, .inl (y 0, 3, .inl frf)), (mo, .inr (11, [.ref to, .ref ke, .ref ik, .ref mrf, .long mab, .long mbl, .ref ha, .ref r0, .ref mbr, .ref mbp, .ref mby, .int (nI bl), .int (nI ta), .int (nI tl), .int (nI tk), .int vv, .ref an, .ref va])), (to, .inl (y 0, 228, .inl (upd (upd (upd (upd ft 42 (nI j4)) 43 (nI j10)) 44 (nI j16)) 45 (nI j22))))] := hD
              refine lv_aload_n hx hb dX11_missed_104 rfl (lv_at hl 1 rfl) ?_
              refine va_get (D := D) (ci := 11) (v := .ref to) (C := RX11) (T := TX11) (N := 18) hx hb hts iw11 hown hK hP 1 rfl rfl 0 (by decide) fw1 (fun _ h9 => h9) rfl dX11_missed_105 ?_
              refine lv_iconst (v := 2) hx hb dX11_missed_108 (by decide) ?_
              refine lv_dup2_11 hx hb dX11_missed_109 rfl rfl ?_
              refine va_iald hx hb hK hP 2 0 rfl rfl (by unfold vp_in; decide) dX11_missed_110 ?_
              rw [show ((2 : Int32)).toNatClampNeg = 2 from rfl]
              rw [show ((upd (upd (upd (upd ft 42 (nI j4)) 43 (nI j10)) 44 (nI j16)) 45 (nI j22)) 2) = (nI 3) from hk138]
              refine lv_iconst (v := 1) hx hb dX11_missed_111 (by decide) ?_
              refine lv_iadd hx hb dX11_missed_112 ?_
              rw [show (nI 3) + 1 = nI (4) from nI_add 3 1]
              refine va_iast hx hb hK hP hD hS 2 0 rfl rfl (by unfold vp_in; decide) dX11_missed_113 (fun H locs hP hD hS => ?_)
              rw [show ((2 : Int32)).toNatClampNeg = 2 from rfl] at hP hD
              have hr141 : kr_t 228 (upd (upd (upd (upd (upd ft 42 (nI j4)) 43 (nI j10)) 44 (nI j16)) 45 (nI j22)) 2 (nI 4)) := kr_up hr135 (kr_free (by unfold kr_a; omega) (by unfold kr_s; omega))
              have hk142 : (upd (upd (upd (upd (upd ft 42 (nI j4)) 43 (nI j10)) 44 (nI j16)) 45 (nI j22)) 2 (nI 4)) 0 = (nI fi) := (pk_un (by decide)).trans hk136
              have hk143 : (upd (upd (upd (upd (upd ft 42 (nI j4)) 43 (nI j10)) 44 (nI j16)) 45 (nI j22)) 2 (nI 4)) 1 = (nI gl) := (pk_un (by decide)).trans hk137
              have hk144 : (upd (upd (upd (upd (upd ft 42 (nI j4)) 43 (nI j10)) 44 (nI j16)) 45 (nI j22)) 2 (nI 4)) 3 = (nI no) := (pk_un (by decide)).trans hk139
              have hk145 : (upd (upd (upd (upd (upd ft 42 (nI j4)) 43 (nI j10)) 44 (nI j16)) 45 (nI j22)) 2 (nI 4)) 4 = (nI un) := (pk_un (by decide)).trans hk140
              have hk146 : (upd (upd (upd (upd (upd ft 42 (nI j4)) 43 (nI j10)) 44 (nI j16)) 45 (nI j22)) 2 (nI 4)) 2 = (nI 4) := pk_us
              have hP : va_P D vwCl [(mrf, .inl (y 0, 3, .inl frf)), (mo, .inr (11, [.ref to, .ref ke, .ref ik, .ref mrf, .long mab, .long mbl, .ref ha, .ref r0, .ref mbr, .ref mbp, .ref mby, .int (nI bl), .int (nI ta), .int (nI tl), .int (nI tk), .int vv, .ref an, .ref va])), (to, .inl (y 0, 228, .inl (upd (upd (upd (upd (upd ft 42 (nI j4)) 43 (nI j10)) 44 (nI j16)) 45 (nI j22)) 2 (nI 4))))] H := hP
              have hD : va_D A [(mrf, .inl (y 0, 3, .inl frf)), (mo, .inr (11, [.ref to, .ref ke, .ref ik, .ref mrf, .long mab, .long mbl, .ref ha, .ref r0, .ref mbr, .ref mbp, .ref mby, .int (nI bl), .int (nI ta), .int (nI tl), .int (nI tk), .int vv, .ref an, .ref va])), (to, .inl (y 0, 228, .inl (upd (upd (upd (upd (upd ft 42 (nI j4)) 43 (nI j10)) 44 (nI j16)) 45 (nI j22)) 2 (nI 4))))] := hD
              refine lv_aload_n hx hb dX11_missed_114 rfl (lv_at hl 1 rfl) ?_
              refine va_get (D := D) (ci := 11) (v := .ref to) (C := RX11) (T := TX11) (N := 18) hx hb hts iw11 hown hK hP 1 rfl rfl 0 (by decide) fw1 (fun _ h9 => h9) rfl dX11_missed_115 ?_
              refine lv_iconst (v := 2) hx hb dX11_missed_118 (by decide) ?_
              refine va_iald hx hb hK hP 2 0 rfl rfl (by unfold vp_in; decide) dX11_missed_119 ?_
              rw [show ((2 : Int32)).toNatClampNeg = 2 from rfl]
              rw [show ((upd (upd (upd (upd (upd ft 42 (nI j4)) 43 (nI j10)) 44 (nI j16)) 45 (nI j22)) 2 (nI 4)) 2) = (nI 4) from hk146]
              exact W.iret (v := (nI 4)) hx hb hr (fun tZ ht hW => ⟨⟨(nI 4), (frf, (upd (upd (upd (upd (upd ft 42 (nI j4)) 43 (nI j10)) 44 (nI j16)) 45 (nI j22)) 2 (nI 4)), 4), rfl, ⟨hr141, hk142, hk143, by first | omega | (dsimp only; omega), hk146, hk144, hk145, by first | omega | (dsimp only; omega)⟩, by rw [ht]; exact hP.sub [1, 0, 2] rfl, hD.sub [1, 0, 2] (by decide) rfl⟩, hS.F ht⟩) hS.2.2 dX11_missed_120
          · skip
            have h26 : mi = 4 := (nI_eq (a := mi) (b := 4) (by omega) (by omega)).mp h26
            refine lv_aload_n hx hb dX11_missed_47 rfl (lv_at hl 0 rfl) ?_
            have hs147 : kw_Split [(mrf, .inl (y 0, 3, .inl frf)), (mo, .inr (11, [.ref to, .ref ke, .ref ik, .ref mrf, .long mab, .long mbl, .ref ha, .ref r0, .ref mbr, .ref mbp, .ref mby, .int (nI bl), .int (nI ta), .int (nI tl), .int (nI tk), .int vv, .ref an, .ref va])), (to, .inl (y 0, 228, .inl ft))] [(mo, .inr (11, [.ref to, .ref ke, .ref ik, .ref mrf, .long mab, .long mbl, .ref ha, .ref r0, .ref mbr, .ref mbp, .ref mby, .int (nI bl), .int (nI ta), .int (nI tl), .int (nI tk), .int vv, .ref an, .ref va])), (mrf, .inl (y 0, 3, .inl frf))] [(to, .inl (y 0, 228, .inl ft))] [1, 0] [2] := ⟨rfl, rfl, rfl, rfl, rfl, by decide⟩
            refine kw_go_i hs147 hP hD hS hA (va_runV (As := []) (rest := []) ⟨hx, hb, hml, hown, hts⟩ (gr_full l D y mo to ke ik mrf ha r0 mbr mbp mby an va mab mbl bl ta tl tk vv frf  _) (cwV 0 hts gX11_missed_X11_full rfl rfl rfl (by decide +kernel) ⟨Nat.le_of_ble_eq_true rfl, Nat.le_of_ble_eq_true rfl⟩) (kw_PreV (ci := 11) (q0 := 1) hs147 hP hD hK hN rfl rfl) rfl rfl hl.1 rfl (lv_room (Nat.le_of_ble_eq_true rfl)) dX11_missed_48 ⟨Nat.le_of_ble_eq_true rfl, Nat.le_of_ble_eq_true rfl⟩) (fun r148 u149 H locs hq hP hD hS => ?_)
            obtain rfl := hq
            have hP : va_P D vwCl [(to, .inl (y 0, 228, .inl ft)), (mo, .inr (11, [.ref to, .ref ke, .ref ik, .ref mrf, .long mab, .long mbl, .ref ha, .ref r0, .ref mbr, .ref mbp, .ref mby, .int (nI bl), .int (nI ta), .int (nI tl), .int (nI tk), .int vv, .ref an, .ref va])), (mrf, .inl (y 0, 3, .inl (upd frf 2 ((frf 2) + 1))))] H := hP
            have hD : va_D A [(to, .inl (y 0, 228, .inl ft)), (mo, .inr (11, [.ref to, .ref ke, .ref ik, .ref mrf, .long mab, .long mbl, .ref ha, .ref r0, .ref mbr, .ref mbp, .ref mby, .int (nI bl), .int (nI ta), .int (nI tl), .int (nI tk), .int vv, .ref an, .ref va])), (mrf, .inl (y 0, 3, .inl (upd frf 2 ((frf 2) + 1))))] := hD
            exact W.iret (v := (-4)) hx hb hr (fun tZ ht hW => ⟨⟨(-4), ((upd frf 2 ((frf 2) + 1)), ft, mi), rfl, ⟨hkt, hk0_, hk1_, by first | omega | (dsimp only; omega), hk2_, hk3_, hk4_, by first | omega | (dsimp only; omega)⟩, by rw [ht]; exact hP.sub [1, 2, 0] rfl, hD.sub [1, 2, 0] (by decide) rfl⟩, hS.F ht⟩) hS.2.2 dX11_missed_51
        · skip
          have hP : va_P D vwCl [(mrf, .inl (y 0, 3, .inl frf)), (mo, .inr (11, [.ref to, .ref ke, .ref ik, .ref mrf, .long mab, .long mbl, .ref ha, .ref r0, .ref mbr, .ref mbp, .ref mby, .int (nI bl), .int (nI ta), .int (nI tl), .int (nI tk), .int vv, .ref an, .ref va])), (to, .inl (y 0, 228, .inl ft))] H := hP
          have hD : va_D A [(mrf, .inl (y 0, 3, .inl frf)), (mo, .inr (11, [.ref to, .ref ke, .ref ik, .ref mrf, .long mab, .long mbl, .ref ha, .ref r0, .ref mbr, .ref mbp, .ref mby, .int (nI bl), .int (nI ta), .int (nI tl), .int (nI tk), .int vv, .ref an, .ref va])), (to, .inl (y 0, 228, .inl ft))] := hD
          refine lv_if_ne (tgt := 37) hx hb dX11_missed_27 (by decide) (fun h9 => absurd h9 (by decide)) (fun _ => ?_)
          refine lv_aload_n hx hb dX11_missed_30 rfl (lv_at hl 0 rfl) ?_
          refine lv_bipush (v := (-2)) hx hb dX11_missed_31 (by decide) ?_
          have hs150 : kw_Split [(mrf, .inl (y 0, 3, .inl frf)), (mo, .inr (11, [.ref to, .ref ke, .ref ik, .ref mrf, .long mab, .long mbl, .ref ha, .ref r0, .ref mbr, .ref mbp, .ref mby, .int (nI bl), .int (nI ta), .int (nI tl), .int (nI tk), .int vv, .ref an, .ref va])), (to, .inl (y 0, 228, .inl ft))] [(mo, .inr (11, [.ref to, .ref ke, .ref ik, .ref mrf, .long mab, .long mbl, .ref ha, .ref r0, .ref mbr, .ref mbp, .ref mby, .int (nI bl), .int (nI ta), .int (nI tl), .int (nI tk), .int vv, .ref an, .ref va])), (mrf, .inl (y 0, 3, .inl frf))] [(to, .inl (y 0, 228, .inl ft))] [1, 0] [2] := ⟨rfl, rfl, rfl, rfl, rfl, by decide⟩
          refine kw_go_i hs150 hP hD hS hA (va_runV (As := [.int (-2)]) (rest := []) ⟨hx, hb, hml, hown, hts⟩ (gr_bad l D y mo to ke ik mrf ha r0 mbr mbp mby an va mab mbl bl ta tl tk vv frf (-2)  _) (cwV 1 hts gX11_missed_X11_bad rfl rfl rfl (by decide +kernel) ⟨Nat.le_of_ble_eq_true rfl, Nat.le_of_ble_eq_true rfl⟩) (kw_PreV (ci := 11) (q0 := 1) hs150 hP hD hK hN rfl rfl) rfl rfl hl.1 rfl (lv_room (Nat.le_of_ble_eq_true rfl)) dX11_missed_33 ⟨Nat.le_of_ble_eq_true rfl, Nat.le_of_ble_eq_true rfl⟩) (fun r151 u152 H locs hq hP hD hS => ?_)
          obtain rfl := hq
          have hP : va_P D vwCl [(to, .inl (y 0, 228, .inl ft)), (mo, .inr (11, [.ref to, .ref ke, .ref ik, .ref mrf, .long mab, .long mbl, .ref ha, .ref r0, .ref mbr, .ref mbp, .ref mby, .int (nI bl), .int (nI ta), .int (nI tl), .int (nI tk), .int vv, .ref an, .ref va])), (mrf, .inl (y 0, 3, .inl (upd frf 0 ((frf 0) + 1))))] H := hP
          have hD : va_D A [(to, .inl (y 0, 228, .inl ft)), (mo, .inr (11, [.ref to, .ref ke, .ref ik, .ref mrf, .long mab, .long mbl, .ref ha, .ref r0, .ref mbr, .ref mbp, .ref mby, .int (nI bl), .int (nI ta), .int (nI tl), .int (nI tk), .int vv, .ref an, .ref va])), (mrf, .inl (y 0, 3, .inl (upd frf 0 ((frf 0) + 1))))] := hD
          exact W.iret (v := (-2)) hx hb hr (fun tZ ht hW => ⟨⟨(-2), ((upd frf 0 ((frf 0) + 1)), ft, mi), rfl, ⟨hkt, hk0_, hk1_, by first | omega | (dsimp only; omega), hk2_, hk3_, hk4_, by first | omega | (dsimp only; omega)⟩, by rw [ht]; exact hP.sub [1, 2, 0] rfl, hD.sub [1, 2, 0] (by decide) rfl⟩, hS.F ht⟩) hS.2.2 dX11_missed_36
      · skip
        have hP : va_P D vwCl [(mrf, .inl (y 0, 3, .inl frf)), (mo, .inr (11, [.ref to, .ref ke, .ref ik, .ref mrf, .long mab, .long mbl, .ref ha, .ref r0, .ref mbr, .ref mbp, .ref mby, .int (nI bl), .int (nI ta), .int (nI tl), .int (nI tk), .int vv, .ref an, .ref va])), (to, .inl (y 0, 228, .inl ft))] H := hP
        have hD : va_D A [(mrf, .inl (y 0, 3, .inl frf)), (mo, .inr (11, [.ref to, .ref ke, .ref ik, .ref mrf, .long mab, .long mbl, .ref ha, .ref r0, .ref mbr, .ref mbp, .ref mby, .int (nI bl), .int (nI ta), .int (nI tl), .int (nI tk), .int vv, .ref an, .ref va])), (to, .inl (y 0, 228, .inl ft))] := hD
        refine lv_if_eq (tgt := 30) hx hb dX11_missed_19 (by decide) (fun _ => ?_) (fun h9 => absurd h9 (by decide))
        refine lv_aload_n hx hb dX11_missed_30 rfl (lv_at hl 0 rfl) ?_
        refine lv_bipush (v := (-2)) hx hb dX11_missed_31 (by decide) ?_
        have hs153 : kw_Split [(mrf, .inl (y 0, 3, .inl frf)), (mo, .inr (11, [.ref to, .ref ke, .ref ik, .ref mrf, .long mab, .long mbl, .ref ha, .ref r0, .ref mbr, .ref mbp, .ref mby, .int (nI bl), .int (nI ta), .int (nI tl), .int (nI tk), .int vv, .ref an, .ref va])), (to, .inl (y 0, 228, .inl ft))] [(mo, .inr (11, [.ref to, .ref ke, .ref ik, .ref mrf, .long mab, .long mbl, .ref ha, .ref r0, .ref mbr, .ref mbp, .ref mby, .int (nI bl), .int (nI ta), .int (nI tl), .int (nI tk), .int vv, .ref an, .ref va])), (mrf, .inl (y 0, 3, .inl frf))] [(to, .inl (y 0, 228, .inl ft))] [1, 0] [2] := ⟨rfl, rfl, rfl, rfl, rfl, by decide⟩
        refine kw_go_i hs153 hP hD hS hA (va_runV (As := [.int (-2)]) (rest := []) ⟨hx, hb, hml, hown, hts⟩ (gr_bad l D y mo to ke ik mrf ha r0 mbr mbp mby an va mab mbl bl ta tl tk vv frf (-2)  _) (cwV 1 hts gX11_missed_X11_bad rfl rfl rfl (by decide +kernel) ⟨Nat.le_of_ble_eq_true rfl, Nat.le_of_ble_eq_true rfl⟩) (kw_PreV (ci := 11) (q0 := 1) hs153 hP hD hK hN rfl rfl) rfl rfl hl.1 rfl (lv_room (Nat.le_of_ble_eq_true rfl)) dX11_missed_33 ⟨Nat.le_of_ble_eq_true rfl, Nat.le_of_ble_eq_true rfl⟩) (fun r154 u155 H locs hq hP hD hS => ?_)
        obtain rfl := hq
        have hP : va_P D vwCl [(to, .inl (y 0, 228, .inl ft)), (mo, .inr (11, [.ref to, .ref ke, .ref ik, .ref mrf, .long mab, .long mbl, .ref ha, .ref r0, .ref mbr, .ref mbp, .ref mby, .int (nI bl), .int (nI ta), .int (nI tl), .int (nI tk), .int vv, .ref an, .ref va])), (mrf, .inl (y 0, 3, .inl (upd frf 0 ((frf 0) + 1))))] H := hP
        have hD : va_D A [(to, .inl (y 0, 228, .inl ft)), (mo, .inr (11, [.ref to, .ref ke, .ref ik, .ref mrf, .long mab, .long mbl, .ref ha, .ref r0, .ref mbr, .ref mbp, .ref mby, .int (nI bl), .int (nI ta), .int (nI tl), .int (nI tk), .int vv, .ref an, .ref va])), (mrf, .inl (y 0, 3, .inl (upd frf 0 ((frf 0) + 1))))] := hD
        exact W.iret (v := (-2)) hx hb hr (fun tZ ht hW => ⟨⟨(-2), ((upd frf 0 ((frf 0) + 1)), ft, mi), rfl, ⟨hkt, hk0_, hk1_, by first | omega | (dsimp only; omega), hk2_, hk3_, hk4_, by first | omega | (dsimp only; omega)⟩, by rw [ht]; exact hP.sub [1, 2, 0] rfl, hD.sub [1, 2, 0] (by decide) rfl⟩, hS.F ht⟩) hS.2.2 dX11_missed_36
    · skip
      have hP : va_P D vwCl [(mrf, .inl (y 0, 3, .inl frf)), (mo, .inr (11, [.ref to, .ref ke, .ref ik, .ref mrf, .long mab, .long mbl, .ref ha, .ref r0, .ref mbr, .ref mbp, .ref mby, .int (nI bl), .int (nI ta), .int (nI tl), .int (nI tk), .int vv, .ref an, .ref va])), (to, .inl (y 0, 228, .inl ft))] H := hP
      have hD : va_D A [(mrf, .inl (y 0, 3, .inl frf)), (mo, .inr (11, [.ref to, .ref ke, .ref ik, .ref mrf, .long mab, .long mbl, .ref ha, .ref r0, .ref mbr, .ref mbp, .ref mby, .int (nI bl), .int (nI ta), .int (nI tl), .int (nI tk), .int vv, .ref an, .ref va])), (to, .inl (y 0, 228, .inl ft))] := hD
      refine lv_if_eq (tgt := 30) hx hb dX11_missed_12 (by decide) (fun _ => ?_) (fun h9 => absurd h9 (by decide))
      refine lv_aload_n hx hb dX11_missed_30 rfl (lv_at hl 0 rfl) ?_
      refine lv_bipush (v := (-2)) hx hb dX11_missed_31 (by decide) ?_
      have hs156 : kw_Split [(mrf, .inl (y 0, 3, .inl frf)), (mo, .inr (11, [.ref to, .ref ke, .ref ik, .ref mrf, .long mab, .long mbl, .ref ha, .ref r0, .ref mbr, .ref mbp, .ref mby, .int (nI bl), .int (nI ta), .int (nI tl), .int (nI tk), .int vv, .ref an, .ref va])), (to, .inl (y 0, 228, .inl ft))] [(mo, .inr (11, [.ref to, .ref ke, .ref ik, .ref mrf, .long mab, .long mbl, .ref ha, .ref r0, .ref mbr, .ref mbp, .ref mby, .int (nI bl), .int (nI ta), .int (nI tl), .int (nI tk), .int vv, .ref an, .ref va])), (mrf, .inl (y 0, 3, .inl frf))] [(to, .inl (y 0, 228, .inl ft))] [1, 0] [2] := ⟨rfl, rfl, rfl, rfl, rfl, by decide⟩
      refine kw_go_i hs156 hP hD hS hA (va_runV (As := [.int (-2)]) (rest := []) ⟨hx, hb, hml, hown, hts⟩ (gr_bad l D y mo to ke ik mrf ha r0 mbr mbp mby an va mab mbl bl ta tl tk vv frf (-2)  _) (cwV 1 hts gX11_missed_X11_bad rfl rfl rfl (by decide +kernel) ⟨Nat.le_of_ble_eq_true rfl, Nat.le_of_ble_eq_true rfl⟩) (kw_PreV (ci := 11) (q0 := 1) hs156 hP hD hK hN rfl rfl) rfl rfl hl.1 rfl (lv_room (Nat.le_of_ble_eq_true rfl)) dX11_missed_33 ⟨Nat.le_of_ble_eq_true rfl, Nat.le_of_ble_eq_true rfl⟩) (fun r157 u158 H locs hq hP hD hS => ?_)
      obtain rfl := hq
      have hP : va_P D vwCl [(to, .inl (y 0, 228, .inl ft)), (mo, .inr (11, [.ref to, .ref ke, .ref ik, .ref mrf, .long mab, .long mbl, .ref ha, .ref r0, .ref mbr, .ref mbp, .ref mby, .int (nI bl), .int (nI ta), .int (nI tl), .int (nI tk), .int vv, .ref an, .ref va])), (mrf, .inl (y 0, 3, .inl (upd frf 0 ((frf 0) + 1))))] H := hP
      have hD : va_D A [(to, .inl (y 0, 228, .inl ft)), (mo, .inr (11, [.ref to, .ref ke, .ref ik, .ref mrf, .long mab, .long mbl, .ref ha, .ref r0, .ref mbr, .ref mbp, .ref mby, .int (nI bl), .int (nI ta), .int (nI tl), .int (nI tk), .int vv, .ref an, .ref va])), (mrf, .inl (y 0, 3, .inl (upd frf 0 ((frf 0) + 1))))] := hD
      exact W.iret (v := (-2)) hx hb hr (fun tZ ht hW => ⟨⟨(-2), ((upd frf 0 ((frf 0) + 1)), ft, mi), rfl, ⟨hkt, hk0_, hk1_, by first | omega | (dsimp only; omega), hk2_, hk3_, hk4_, by first | omega | (dsimp only; omega)⟩, by rw [ht]; exact hP.sub [1, 2, 0] rfl, hD.sub [1, 2, 0] (by decide) rfl⟩, hS.F ht⟩) hS.2.2 dX11_missed_36
  · skip
    have hP : va_P D vwCl [(mrf, .inl (y 0, 3, .inl frf)), (mo, .inr (11, [.ref to, .ref ke, .ref ik, .ref mrf, .long mab, .long mbl, .ref ha, .ref r0, .ref mbr, .ref mbp, .ref mby, .int (nI bl), .int (nI ta), .int (nI tl), .int (nI tk), .int vv, .ref an, .ref va])), (to, .inl (y 0, 228, .inl ft))] H := hP
    have hD : va_D A [(mrf, .inl (y 0, 3, .inl frf)), (mo, .inr (11, [.ref to, .ref ke, .ref ik, .ref mrf, .long mab, .long mbl, .ref ha, .ref r0, .ref mbr, .ref mbp, .ref mby, .int (nI bl), .int (nI ta), .int (nI tl), .int (nI tk), .int vv, .ref an, .ref va])), (to, .inl (y 0, 228, .inl ft))] := hD
    refine lv_if_eq (tgt := 30) hx hb dX11_missed_5 (by decide) (fun _ => ?_) (fun h9 => absurd h9 (by decide))
    refine lv_aload_n hx hb dX11_missed_30 rfl (lv_at hl 0 rfl) ?_
    refine lv_bipush (v := (-2)) hx hb dX11_missed_31 (by decide) ?_
    have hs159 : kw_Split [(mrf, .inl (y 0, 3, .inl frf)), (mo, .inr (11, [.ref to, .ref ke, .ref ik, .ref mrf, .long mab, .long mbl, .ref ha, .ref r0, .ref mbr, .ref mbp, .ref mby, .int (nI bl), .int (nI ta), .int (nI tl), .int (nI tk), .int vv, .ref an, .ref va])), (to, .inl (y 0, 228, .inl ft))] [(mo, .inr (11, [.ref to, .ref ke, .ref ik, .ref mrf, .long mab, .long mbl, .ref ha, .ref r0, .ref mbr, .ref mbp, .ref mby, .int (nI bl), .int (nI ta), .int (nI tl), .int (nI tk), .int vv, .ref an, .ref va])), (mrf, .inl (y 0, 3, .inl frf))] [(to, .inl (y 0, 228, .inl ft))] [1, 0] [2] := ⟨rfl, rfl, rfl, rfl, rfl, by decide⟩
    refine kw_go_i hs159 hP hD hS hA (va_runV (As := [.int (-2)]) (rest := []) ⟨hx, hb, hml, hown, hts⟩ (gr_bad l D y mo to ke ik mrf ha r0 mbr mbp mby an va mab mbl bl ta tl tk vv frf (-2)  _) (cwV 1 hts gX11_missed_X11_bad rfl rfl rfl (by decide +kernel) ⟨Nat.le_of_ble_eq_true rfl, Nat.le_of_ble_eq_true rfl⟩) (kw_PreV (ci := 11) (q0 := 1) hs159 hP hD hK hN rfl rfl) rfl rfl hl.1 rfl (lv_room (Nat.le_of_ble_eq_true rfl)) dX11_missed_33 ⟨Nat.le_of_ble_eq_true rfl, Nat.le_of_ble_eq_true rfl⟩) (fun r160 u161 H locs hq hP hD hS => ?_)
    obtain rfl := hq
    have hP : va_P D vwCl [(to, .inl (y 0, 228, .inl ft)), (mo, .inr (11, [.ref to, .ref ke, .ref ik, .ref mrf, .long mab, .long mbl, .ref ha, .ref r0, .ref mbr, .ref mbp, .ref mby, .int (nI bl), .int (nI ta), .int (nI tl), .int (nI tk), .int vv, .ref an, .ref va])), (mrf, .inl (y 0, 3, .inl (upd frf 0 ((frf 0) + 1))))] H := hP
    have hD : va_D A [(to, .inl (y 0, 228, .inl ft)), (mo, .inr (11, [.ref to, .ref ke, .ref ik, .ref mrf, .long mab, .long mbl, .ref ha, .ref r0, .ref mbr, .ref mbp, .ref mby, .int (nI bl), .int (nI ta), .int (nI tl), .int (nI tk), .int vv, .ref an, .ref va])), (mrf, .inl (y 0, 3, .inl (upd frf 0 ((frf 0) + 1))))] := hD
    exact W.iret (v := (-2)) hx hb hr (fun tZ ht hW => ⟨⟨(-2), ((upd frf 0 ((frf 0) + 1)), ft, mi), rfl, ⟨hkt, hk0_, hk1_, by first | omega | (dsimp only; omega), hk2_, hk3_, hk4_, by first | omega | (dsimp only; omega)⟩, by rw [ht]; exact hP.sub [1, 2, 0] rfl, hD.sub [1, 2, 0] (by decide) rfl⟩, hS.F ht⟩) hS.2.2 dX11_missed_36
