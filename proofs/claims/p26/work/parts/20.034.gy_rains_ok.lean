set_option maxHeartbeats 4000000 in
set_option maxRecDepth 100000 in
theorem gy_rains_ok (l : Launch) (D : va_G) (y : Nat → ClassId) (mo : Nat) (to : Nat) (ke : Nat) (ik : Nat) (mrf : Nat) (ha : Nat) (r0 : Nat) (mbr : Nat) (mbp : Nat) (mby : Nat) (an : Nat) (va : Nat) (mab : Int64) (mbl : Int64) (bl : Nat) (ta : Nat) (tl : Nat) (tk : Nat) (vv : Int32) (frf : Nat → Int32) (ft : Nat → Int32) (fi : Nat) (gl : Nat) (mi : Nat) (no : Nat) (un : Nat) (fh : Nat → Int32) (an1 : Nat) (an2 : Nat) (hk0_ : ft 0 = (nI fi)) (hk1_ : ft 1 = (nI gl)) (hk2_ : ft 2 = (nI mi)) (hk3_ : ft 3 = (nI no)) (hk4_ : ft 4 = (nI un)) (hkt : kr_t 228 ft) (hfi : fi ≤ 6) (hgl : gl ≤ 5) (hmi : mi ≤ 4) (hno : no ≤ 6) (hun : un ≤ 8) (hgf : (gl = 0 ∨ 0 < fi)) (hkh : kr_t 30 fh) (hB0_ : an1 < fi) (hB1_ : an2 ≤ 10) : kw_Mi l yX11_rains wsX11_rains ({ frames := 5, cells := 0, slots := 0, locals := 151 }) D y [.ref mo, .int (nI an1), .int (nI an2)] [(mo, .inr (11, [.ref to, .ref ke, .ref ik, .ref mrf, .long mab, .long mbl, .ref ha, .ref r0, .ref mbr, .ref mbp, .ref mby, .int (nI bl), .int (nI ta), .int (nI tl), .int (nI tk), .int vv, .ref an, .ref va])), (mrf, .inl (y 0, 3, .inl frf)), (to, .inl (y 0, 228, .inl ft)), (ha, .inl (y 0, 30, .inl fh))] (fun (r : Int32) (u : Int64 × Int64 × (Nat → Int32)) => kr_t 30 u.2.2 ∧ (gl = 0 ∨ 0 < fi) ∧ r = 1) (fun u => [(mo, .inr (11, [.ref to, .ref ke, .ref ik, .ref mrf, .long u.1, .long u.2.1, .ref ha, .ref r0, .ref mbr, .ref mbp, .ref mby, .int (nI bl), .int (nI ta), .int (nI tl), .int (nI tk), .int vv, .ref an, .ref va])), (mrf, .inl (y 0, 3, .inl frf)), (to, .inl (y 0, 228, .inl ft)), (ha, .inl (y 0, 30, .inl u.2.2))]) 0 0 := by
  refine kw_Mi.of (cc := cX11_rains) (maxL := 3) (ret := (some .int)) (by decide) rfl ?_
  intro pZ eZ s mZ beZ meZ cZ A hE
  obtain ⟨hx, hb, hr, hml, hts, hown, hlocks, hin, hA, hP, hD, hK, hN⟩ := hE
  have hS : va_S A s.heap s.heap [] := va_S.rf
  have hl := lv_entry ([.ref mo, .int (nI an1), .int (nI an2)]) (n := 3) (Nat.le_of_ble_eq_true rfl)
  rw [lg_entry_eq]
  generalize (lg_sl ([.ref mo, .int (nI an1), .int (nI an2)]) ++ List.replicate (3 - (lg_sl ([.ref mo, .int (nI an1), .int (nI an2)])).length) Slot.unset).toArray = ls at hl ⊢
  have hl : lv_has ls 3 [(0, .ref mo), (1, .int (nI an1)), (2, .int (nI an2))] := hl
  have fw1 := hts (.constantLong RX11 192 (10)) (List.mem_of_getElem? (i := 1) rfl)
  have fw2 := hts (.fieldLink RX11 27 "GleanDuskModel" "hand" "[I") (List.mem_of_getElem? (i := 2) rfl)
  have fw3 := hts (.fieldLink RX11 7 "GleanDuskModel" "told" "[I") (List.mem_of_getElem? (i := 3) rfl)
  have iw11 : ∀ w ∈ wsX110, w ∈ wsX11_rains := fun _ h => List.mem_cons_of_mem _ (List.mem_append_right _ h)
  refine lv_aload_n hx hb dX11_rains_0 rfl (lv_at hl 0 rfl) ?_
  refine lv_iload_n hx hb dX11_rains_1 rfl (lv_at hl 1 rfl) ?_
  have hs1 : kw_Split [(mo, .inr (11, [.ref to, .ref ke, .ref ik, .ref mrf, .long mab, .long mbl, .ref ha, .ref r0, .ref mbr, .ref mbp, .ref mby, .int (nI bl), .int (nI ta), .int (nI tl), .int (nI tk), .int vv, .ref an, .ref va])), (mrf, .inl (y 0, 3, .inl frf)), (to, .inl (y 0, 228, .inl ft)), (ha, .inl (y 0, 30, .inl fh))] [(mo, .inr (11, [.ref to, .ref ke, .ref ik, .ref mrf, .long mab, .long mbl, .ref ha, .ref r0, .ref mbr, .ref mbp, .ref mby, .int (nI bl), .int (nI ta), .int (nI tl), .int (nI tk), .int vv, .ref an, .ref va])), (to, .inl (y 0, 228, .inl ft))] [(mrf, .inl (y 0, 3, .inl frf)), (ha, .inl (y 0, 30, .inl fh))] [0, 2] [1, 3] := ⟨rfl, rfl, rfl, rfl, rfl, by decide⟩
  refine kw_go_i hs1 hP hD hS hA (va_runV (As := [.int (nI an1)]) (rest := []) ⟨hx, hb, hml, hown, hts⟩ (gr_isField l D y mo to ke ik mrf ha r0 mbr mbp mby an va mab mbl bl ta tl tk vv ft fi gl mi no un (nI an1) hk0_ hk1_ hk2_ hk3_ hk4_ hkt hfi hgl hmi hno hun _) (cwV 1 hts gX11_rains_X11_isField rfl rfl rfl (by decide +kernel) ⟨Nat.le_of_ble_eq_true rfl, Nat.le_of_ble_eq_true rfl⟩) (kw_PreV (ci := 11) (q0 := 0) hs1 hP hD hK hN rfl rfl) rfl rfl hl.1 rfl (lv_room (Nat.le_of_ble_eq_true rfl)) dX11_rains_2 ⟨Nat.le_of_ble_eq_true rfl, Nat.le_of_ble_eq_true rfl⟩) (fun r2 u3 H locs hq hP hD hS => ?_)
  rcases hq with ⟨j4, h5, h6, rfl⟩ | ⟨h7, rfl⟩
  · skip
    have h6 : an1 = j4 := (nI_eq (a := an1) (b := j4) (by omega) (by omega)).mp h6
    have hP : va_P D vwCl [(mrf, .inl (y 0, 3, .inl frf)), (ha, .inl (y 0, 30, .inl fh)), (mo, .inr (11, [.ref to, .ref ke, .ref ik, .ref mrf, .long mab, .long mbl, .ref ha, .ref r0, .ref mbr, .ref mbp, .ref mby, .int (nI bl), .int (nI ta), .int (nI tl), .int (nI tk), .int vv, .ref an, .ref va])), (to, .inl (y 0, 228, .inl ft))] H := hP
    have hD : va_D A [(mrf, .inl (y 0, 3, .inl frf)), (ha, .inl (y 0, 30, .inl fh)), (mo, .inr (11, [.ref to, .ref ke, .ref ik, .ref mrf, .long mab, .long mbl, .ref ha, .ref r0, .ref mbr, .ref mbp, .ref mby, .int (nI bl), .int (nI ta), .int (nI tl), .int (nI tk), .int vv, .ref an, .ref va])), (to, .inl (y 0, 228, .inl ft))] := hD
    refine lv_if_eq (tgt := 20) hx hb dX11_rains_5 (by decide) (fun h9 => absurd h9 (by decide)) (fun _ => ?_)
    refine lv_iload_n hx hb dX11_rains_8 rfl (lv_at hl 2 rfl) ?_
    refine lv_i2l (v := (nI an2).toInt64) hx hb dX11_rains_9 (rfl) ?_
    refine lv_lconst (v := 0) hx hb dX11_rains_10 (by decide) ?_
    refine lv_ldc2 (v := 10) hx hb hown fw1 dX11_rains_11 ?_
    have hs8 : kw_Split [(mrf, .inl (y 0, 3, .inl frf)), (ha, .inl (y 0, 30, .inl fh)), (mo, .inr (11, [.ref to, .ref ke, .ref ik, .ref mrf, .long mab, .long mbl, .ref ha, .ref r0, .ref mbr, .ref mbp, .ref mby, .int (nI bl), .int (nI ta), .int (nI tl), .int (nI tk), .int vv, .ref an, .ref va])), (to, .inl (y 0, 228, .inl ft))] [] [(mrf, .inl (y 0, 3, .inl frf)), (ha, .inl (y 0, 30, .inl fh)), (mo, .inr (11, [.ref to, .ref ke, .ref ik, .ref mrf, .long mab, .long mbl, .ref ha, .ref r0, .ref mbr, .ref mbp, .ref mby, .int (nI bl), .int (nI ta), .int (nI tl), .int (nI tk), .int vv, .ref an, .ref va])), (to, .inl (y 0, 228, .inl ft))] [] [0, 1, 2, 3] := ⟨rfl, rfl, rfl, rfl, rfl, by decide⟩
    refine kw_go_i hs8 hP hD hS hA (va_runS (As := [.long ((nI an2).toInt64), .long 0, .long 10]) (rest := []) ⟨hx, hb, hml, hown, hts⟩ (gr_in l D y (nI an2) 0 10 (by omega) (by omega) _) (va_cwS 3 hts gX11_rains_X11_in rfl rfl rfl (by decide +kernel) ⟨Nat.le_of_ble_eq_true rfl, Nat.le_of_ble_eq_true rfl⟩) (kw_PreS hs8 hP hD hK hN) rfl rfl hl.1 rfl (lv_room (Nat.le_of_ble_eq_true rfl)) dX11_rains_14 ⟨Nat.le_of_ble_eq_true rfl, Nat.le_of_ble_eq_true rfl⟩) (fun r9 u10 H locs hq hP hD hS => ?_)
    rcases hq with ⟨j11, h12, h13, h14, rfl⟩ | ⟨h15, rfl⟩
    · skip
      have h14 : an2 = j11 := (nI_eq (a := an2) (b := j11) (by omega) (by omega)).mp h14
      have hP : va_P D vwCl [(mrf, .inl (y 0, 3, .inl frf)), (ha, .inl (y 0, 30, .inl fh)), (mo, .inr (11, [.ref to, .ref ke, .ref ik, .ref mrf, .long mab, .long mbl, .ref ha, .ref r0, .ref mbr, .ref mbp, .ref mby, .int (nI bl), .int (nI ta), .int (nI tl), .int (nI tk), .int vv, .ref an, .ref va])), (to, .inl (y 0, 228, .inl ft))] H := hP
      have hD : va_D A [(mrf, .inl (y 0, 3, .inl frf)), (ha, .inl (y 0, 30, .inl fh)), (mo, .inr (11, [.ref to, .ref ke, .ref ik, .ref mrf, .long mab, .long mbl, .ref ha, .ref r0, .ref mbr, .ref mbp, .ref mby, .int (nI bl), .int (nI ta), .int (nI tl), .int (nI tk), .int vv, .ref an, .ref va])), (to, .inl (y 0, 228, .inl ft))] := hD
      refine lv_if_ne (tgt := 27) hx hb dX11_rains_17 (by decide) (fun _ => ?_) (fun h9 => absurd h9 (by decide))
      refine lv_aload_n hx hb dX11_rains_27 rfl (lv_at hl 0 rfl) ?_
      have hs16 : kw_Split [(mrf, .inl (y 0, 3, .inl frf)), (ha, .inl (y 0, 30, .inl fh)), (mo, .inr (11, [.ref to, .ref ke, .ref ik, .ref mrf, .long mab, .long mbl, .ref ha, .ref r0, .ref mbr, .ref mbp, .ref mby, .int (nI bl), .int (nI ta), .int (nI tl), .int (nI tk), .int vv, .ref an, .ref va])), (to, .inl (y 0, 228, .inl ft))] [(mo, .inr (11, [.ref to, .ref ke, .ref ik, .ref mrf, .long mab, .long mbl, .ref ha, .ref r0, .ref mbr, .ref mbp, .ref mby, .int (nI bl), .int (nI ta), .int (nI tl), .int (nI tk), .int vv, .ref an, .ref va])), (to, .inl (y 0, 228, .inl ft)), (ha, .inl (y 0, 30, .inl fh))] [(mrf, .inl (y 0, 3, .inl frf))] [2, 3, 1] [0] := ⟨rfl, rfl, rfl, rfl, rfl, by decide⟩
      refine kw_go_v hs16 hP hD hS hA (va_runV (As := []) (rest := []) ⟨hx, hb, hml, hown, hts⟩ (gr_layHand l D y mo to ke ik mrf ha r0 mbr mbp mby an va mab mbl bl ta tl tk vv ft fi gl mi no un fh hk0_ hk1_ hk2_ hk3_ hk4_ hkt hfi hgl hmi hno hun hkh _) (cwV 0 hts gX11_rains_X11_layHand rfl rfl rfl (by decide +kernel) ⟨Nat.le_of_ble_eq_true rfl, Nat.le_of_ble_eq_true rfl⟩) (kw_PreV (ci := 11) (q0 := 2) hs16 hP hD hK hN rfl rfl) rfl rfl hl.1 rfl (lv_room (Nat.le_of_ble_eq_true rfl)) dX11_rains_28 ⟨Nat.le_of_ble_eq_true rfl, Nat.le_of_ble_eq_true rfl⟩) (fun u18 H locs hq hP hD hS => ?_)
      have h19 := hq
      have hk20 : (kr_cp fh ft 30) 0 = (nI fi) := ((kr_cp_lt (by decide)).trans hk0_)
      have hk21 : (kr_cp fh ft 30) 1 = (nI gl) := ((kr_cp_lt (by decide)).trans hk1_)
      have hP : va_P D vwCl [(mrf, .inl (y 0, 3, .inl frf)), (mo, .inr (11, [.ref to, .ref ke, .ref ik, .ref mrf, .long mab, .long mbl, .ref ha, .ref r0, .ref mbr, .ref mbp, .ref mby, .int (nI bl), .int (nI ta), .int (nI tl), .int (nI tk), .int vv, .ref an, .ref va])), (to, .inl (y 0, 228, .inl ft)), (ha, .inl (y 0, 30, .inl (kr_cp fh ft 30)))] H := hP
      have hD : va_D A [(mrf, .inl (y 0, 3, .inl frf)), (mo, .inr (11, [.ref to, .ref ke, .ref ik, .ref mrf, .long mab, .long mbl, .ref ha, .ref r0, .ref mbr, .ref mbp, .ref mby, .int (nI bl), .int (nI ta), .int (nI tl), .int (nI tk), .int vv, .ref an, .ref va])), (to, .inl (y 0, 228, .inl ft)), (ha, .inl (y 0, 30, .inl (kr_cp fh ft 30)))] := hD
      refine lv_aload_n hx hb dX11_rains_31 rfl (lv_at hl 0 rfl) ?_
      refine va_get (D := D) (ci := 11) (v := .ref ha) (C := RX11) (T := TX11) (N := 18) hx hb hts iw11 hown hK hP 1 rfl rfl 6 (by decide) fw2 (fun _ h9 => h9) rfl dX11_rains_32 ?_
      refine lv_bipush (v := 22) hx hb dX11_rains_35 (by decide) ?_
      refine lv_aload_n hx hb dX11_rains_37 rfl (lv_at hl 0 rfl) ?_
      refine va_get (D := D) (ci := 11) (v := .ref ha) (C := RX11) (T := TX11) (N := 18) hx hb hts iw11 hown hK hP 1 rfl rfl 6 (by decide) fw2 (fun _ h9 => h9) rfl dX11_rains_38 ?_
      refine lv_bipush (v := 22) hx hb dX11_rains_41 (by decide) ?_
      refine va_iald hx hb hK hP 3 0 rfl rfl (by unfold vp_in; decide) dX11_rains_43 ?_
      rw [show ((22 : Int32)).toNatClampNeg = 22 from rfl]
      refine lv_iconst (v := 5) hx hb dX11_rains_44 (by decide) ?_
      refine lv_iadd hx hb dX11_rains_45 ?_
      refine lv_bipush (v := 9) hx hb dX11_rains_46 (by decide) ?_
      refine lv_icmp_le (tgt := 56) hx hb dX11_rains_48 (by decide) (fun h22 => ?_) (fun h23 => ?_)
      · skip
        refine lv_aload_n hx hb dX11_rains_56 rfl (lv_at hl 0 rfl) ?_
        refine va_get (D := D) (ci := 11) (v := .ref ha) (C := RX11) (T := TX11) (N := 18) hx hb hts iw11 hown hK hP 1 rfl rfl 6 (by decide) fw2 (fun _ h9 => h9) rfl dX11_rains_57 ?_
        refine lv_bipush (v := 22) hx hb dX11_rains_60 (by decide) ?_
        refine va_iald hx hb hK hP 3 0 rfl rfl (by unfold vp_in; decide) dX11_rains_62 ?_
        rw [show ((22 : Int32)).toNatClampNeg = 22 from rfl]
        refine lv_iconst (v := 5) hx hb dX11_rains_63 (by decide) ?_
        refine lv_iadd hx hb dX11_rains_64 ?_
        refine va_iast hx hb hK hP hD hS 3 0 rfl rfl (by unfold vp_in; decide) dX11_rains_65 (fun H locs hP hD hS => ?_)
        rw [show ((22 : Int32)).toNatClampNeg = 22 from rfl] at hP hD
        have hr24 : kr_t 30 (upd (kr_cp fh ft 30) 22 (((kr_cp fh ft 30) 22) + 5)) := kr_up h19 (kr_free (by unfold kr_a; omega) (by unfold kr_s; omega))
        have hk25 : (upd (kr_cp fh ft 30) 22 (((kr_cp fh ft 30) 22) + 5)) 0 = (nI fi) := (pk_un (by decide)).trans hk20
        have hk26 : (upd (kr_cp fh ft 30) 22 (((kr_cp fh ft 30) 22) + 5)) 1 = (nI gl) := (pk_un (by decide)).trans hk21
        have hP : va_P D vwCl [(mrf, .inl (y 0, 3, .inl frf)), (mo, .inr (11, [.ref to, .ref ke, .ref ik, .ref mrf, .long mab, .long mbl, .ref ha, .ref r0, .ref mbr, .ref mbp, .ref mby, .int (nI bl), .int (nI ta), .int (nI tl), .int (nI tk), .int vv, .ref an, .ref va])), (to, .inl (y 0, 228, .inl ft)), (ha, .inl (y 0, 30, .inl (upd (kr_cp fh ft 30) 22 (((kr_cp fh ft 30) 22) + 5))))] H := hP
        have hD : va_D A [(mrf, .inl (y 0, 3, .inl frf)), (mo, .inr (11, [.ref to, .ref ke, .ref ik, .ref mrf, .long mab, .long mbl, .ref ha, .ref r0, .ref mbr, .ref mbp, .ref mby, .int (nI bl), .int (nI ta), .int (nI tl), .int (nI tk), .int vv, .ref an, .ref va])), (to, .inl (y 0, 228, .inl ft)), (ha, .inl (y 0, 30, .inl (upd (kr_cp fh ft 30) 22 (((kr_cp fh ft 30) 22) + 5))))] := hD
        refine lv_aload_n hx hb dX11_rains_66 rfl (lv_at hl 0 rfl) ?_
        refine lv_bipush (v := 10) hx hb dX11_rains_67 (by decide) ?_
        refine lv_iload_n hx hb dX11_rains_69 rfl (lv_at hl 2 rfl) ?_
        refine lv_isub hx hb dX11_rains_70 ?_
        refine lv_aload_n hx hb dX11_rains_71 rfl (lv_at hl 0 rfl) ?_
        refine va_get (D := D) (ci := 11) (v := .ref to) (C := RX11) (T := TX11) (N := 18) hx hb hts iw11 hown hK hP 1 rfl rfl 0 (by decide) fw3 (fun _ h9 => h9) rfl dX11_rains_72 ?_
        refine lv_iload_n hx hb dX11_rains_75 rfl (lv_at hl 1 rfl) ?_
        refine lv_aload_n hx hb dX11_rains_76 rfl (lv_at hl 0 rfl) ?_
        refine va_get (D := D) (ci := 11) (v := .ref to) (C := RX11) (T := TX11) (N := 18) hx hb hts iw11 hown hK hP 1 rfl rfl 0 (by decide) fw3 (fun _ h9 => h9) rfl dX11_rains_77 ?_
        refine lv_bipush (v := 21) hx hb dX11_rains_80 (by decide) ?_
        refine va_iald hx hb hK hP 2 0 rfl rfl (by unfold vp_in; decide) dX11_rains_82 ?_
        rw [show ((21 : Int32)).toNatClampNeg = 21 from rfl]
        have hs27 : kw_Split [(mrf, .inl (y 0, 3, .inl frf)), (mo, .inr (11, [.ref to, .ref ke, .ref ik, .ref mrf, .long mab, .long mbl, .ref ha, .ref r0, .ref mbr, .ref mbp, .ref mby, .int (nI bl), .int (nI ta), .int (nI tl), .int (nI tk), .int vv, .ref an, .ref va])), (to, .inl (y 0, 228, .inl ft)), (ha, .inl (y 0, 30, .inl (upd (kr_cp fh ft 30) 22 (((kr_cp fh ft 30) 22) + 5))))] [(to, .inl (y 0, 228, .inl ft))] [(mrf, .inl (y 0, 3, .inl frf)), (mo, .inr (11, [.ref to, .ref ke, .ref ik, .ref mrf, .long mab, .long mbl, .ref ha, .ref r0, .ref mbr, .ref mbp, .ref mby, .int (nI bl), .int (nI ta), .int (nI tl), .int (nI tk), .int vv, .ref an, .ref va])), (ha, .inl (y 0, 30, .inl (upd (kr_cp fh ft 30) 22 (((kr_cp fh ft 30) 22) + 5))))] [2] [0, 1, 3] := ⟨rfl, rfl, rfl, rfl, rfl, by decide⟩
        refine kw_go_i hs27 hP hD hS hA (va_runS (As := [.ref to, .int (nI an1), .int (ft 21)]) (rest := [.int (10 - (nI an2)), .ref mo]) ⟨hx, hb, hml, hown, hts⟩ (gr_seenOn228 l D y to ft fi gl mi no un an1 (ft 21) hk0_ hk1_ hk2_ hk3_ hk4_ hkt hfi hgl hmi hno hun (by omega) _) (va_cwS 3 hts gX11_rains_X11_seenOn rfl rfl rfl (by decide +kernel) ⟨Nat.le_of_ble_eq_true rfl, Nat.le_of_ble_eq_true rfl⟩) (kw_PreS hs27 hP hD hK hN) rfl rfl hl.1 rfl (lv_room (Nat.le_of_ble_eq_true rfl)) dX11_rains_83 ⟨Nat.le_of_ble_eq_true rfl, Nat.le_of_ble_eq_true rfl⟩) (fun r28 u29 H locs hq hP hD hS => ?_)
        have hP : va_P D vwCl [(mrf, .inl (y 0, 3, .inl frf)), (mo, .inr (11, [.ref to, .ref ke, .ref ik, .ref mrf, .long mab, .long mbl, .ref ha, .ref r0, .ref mbr, .ref mbp, .ref mby, .int (nI bl), .int (nI ta), .int (nI tl), .int (nI tk), .int vv, .ref an, .ref va])), (ha, .inl (y 0, 30, .inl (upd (kr_cp fh ft 30) 22 (((kr_cp fh ft 30) 22) + 5)))), (to, .inl (y 0, 228, .inl ft))] H := hP
        have hD : va_D A [(mrf, .inl (y 0, 3, .inl frf)), (mo, .inr (11, [.ref to, .ref ke, .ref ik, .ref mrf, .long mab, .long mbl, .ref ha, .ref r0, .ref mbr, .ref mbp, .ref mby, .int (nI bl), .int (nI ta), .int (nI tl), .int (nI tk), .int vv, .ref an, .ref va])), (ha, .inl (y 0, 30, .inl (upd (kr_cp fh ft 30) 22 (((kr_cp fh ft 30) 22) + 5)))), (to, .inl (y 0, 228, .inl ft))] := hD
        refine lv_imul hx hb dX11_rains_86 ?_
        refine lv_iload_n hx hb dX11_rains_87 rfl (lv_at hl 2 rfl) ?_
        refine lv_aload_n hx hb dX11_rains_88 rfl (lv_at hl 0 rfl) ?_
        refine va_get (D := D) (ci := 11) (v := .ref ha) (C := RX11) (T := TX11) (N := 18) hx hb hts iw11 hown hK hP 1 rfl rfl 6 (by decide) fw2 (fun _ h9 => h9) rfl dX11_rains_89 ?_
        refine lv_iload_n hx hb dX11_rains_92 rfl (lv_at hl 1 rfl) ?_
        refine lv_aload_n hx hb dX11_rains_93 rfl (lv_at hl 0 rfl) ?_
        refine va_get (D := D) (ci := 11) (v := .ref to) (C := RX11) (T := TX11) (N := 18) hx hb hts iw11 hown hK hP 1 rfl rfl 0 (by decide) fw3 (fun _ h9 => h9) rfl dX11_rains_94 ?_
        refine lv_bipush (v := 21) hx hb dX11_rains_97 (by decide) ?_
        refine va_iald hx hb hK hP 3 0 rfl rfl (by unfold vp_in; decide) dX11_rains_99 ?_
        rw [show ((21 : Int32)).toNatClampNeg = 21 from rfl]
        have hs30 : kw_Split [(mrf, .inl (y 0, 3, .inl frf)), (mo, .inr (11, [.ref to, .ref ke, .ref ik, .ref mrf, .long mab, .long mbl, .ref ha, .ref r0, .ref mbr, .ref mbp, .ref mby, .int (nI bl), .int (nI ta), .int (nI tl), .int (nI tk), .int vv, .ref an, .ref va])), (ha, .inl (y 0, 30, .inl (upd (kr_cp fh ft 30) 22 (((kr_cp fh ft 30) 22) + 5)))), (to, .inl (y 0, 228, .inl ft))] [(ha, .inl (y 0, 30, .inl (upd (kr_cp fh ft 30) 22 (((kr_cp fh ft 30) 22) + 5))))] [(mrf, .inl (y 0, 3, .inl frf)), (mo, .inr (11, [.ref to, .ref ke, .ref ik, .ref mrf, .long mab, .long mbl, .ref ha, .ref r0, .ref mbr, .ref mbp, .ref mby, .int (nI bl), .int (nI ta), .int (nI tl), .int (nI tk), .int vv, .ref an, .ref va])), (to, .inl (y 0, 228, .inl ft))] [2] [0, 1, 3] := ⟨rfl, rfl, rfl, rfl, rfl, by decide⟩
        refine kw_go_i hs30 hP hD hS hA (va_runS (As := [.ref ha, .int (nI an1), .int (ft 21)]) (rest := [.int (nI an2), .int ((10 - (nI an2)) * r28), .ref mo]) ⟨hx, hb, hml, hown, hts⟩ (gr_seenOn30 l D y ha (upd (kr_cp fh ft 30) 22 (((kr_cp fh ft 30) 22) + 5)) fi gl an1 (ft 21) hk25 hk26 hr24 hfi hgl (by omega) _) (va_cwS 3 hts gX11_rains_X11_seenOn rfl rfl rfl (by decide +kernel) ⟨Nat.le_of_ble_eq_true rfl, Nat.le_of_ble_eq_true rfl⟩) (kw_PreS hs30 hP hD hK hN) rfl rfl hl.1 rfl (lv_room (Nat.le_of_ble_eq_true rfl)) dX11_rains_100 ⟨Nat.le_of_ble_eq_true rfl, Nat.le_of_ble_eq_true rfl⟩) (fun r31 u32 H locs hq hP hD hS => ?_)
        have hP : va_P D vwCl [(mrf, .inl (y 0, 3, .inl frf)), (mo, .inr (11, [.ref to, .ref ke, .ref ik, .ref mrf, .long mab, .long mbl, .ref ha, .ref r0, .ref mbr, .ref mbp, .ref mby, .int (nI bl), .int (nI ta), .int (nI tl), .int (nI tk), .int vv, .ref an, .ref va])), (to, .inl (y 0, 228, .inl ft)), (ha, .inl (y 0, 30, .inl (upd (kr_cp fh ft 30) 22 (((kr_cp fh ft 30) 22) + 5))))] H := hP
        have hD : va_D A [(mrf, .inl (y 0, 3, .inl frf)), (mo, .inr (11, [.ref to, .ref ke, .ref ik, .ref mrf, .long mab, .long mbl, .ref ha, .ref r0, .ref mbr, .ref mbp, .ref mby, .int (nI bl), .int (nI ta), .int (nI tl), .int (nI tk), .int vv, .ref an, .ref va])), (to, .inl (y 0, 228, .inl ft)), (ha, .inl (y 0, 30, .inl (upd (kr_cp fh ft 30) 22 (((kr_cp fh ft 30) 22) + 5))))] := hD
        refine lv_imul hx hb dX11_rains_103 ?_
        refine lv_iadd hx hb dX11_rains_104 ?_
        refine lv_i2l (v := (((10 - (nI an2)) * r28) + ((nI an2) * r31)).toInt64) hx hb dX11_rains_105 (rfl) ?_
        refine lv_ldc2 (v := 10) hx hb hown fw1 dX11_rains_106 ?_
        have hs33 : kw_Split [(mrf, .inl (y 0, 3, .inl frf)), (mo, .inr (11, [.ref to, .ref ke, .ref ik, .ref mrf, .long mab, .long mbl, .ref ha, .ref r0, .ref mbr, .ref mbp, .ref mby, .int (nI bl), .int (nI ta), .int (nI tl), .int (nI tk), .int vv, .ref an, .ref va])), (to, .inl (y 0, 228, .inl ft)), (ha, .inl (y 0, 30, .inl (upd (kr_cp fh ft 30) 22 (((kr_cp fh ft 30) 22) + 5))))] [(mo, .inr (11, [.ref to, .ref ke, .ref ik, .ref mrf, .long mab, .long mbl, .ref ha, .ref r0, .ref mbr, .ref mbp, .ref mby, .int (nI bl), .int (nI ta), .int (nI tl), .int (nI tk), .int vv, .ref an, .ref va]))] [(mrf, .inl (y 0, 3, .inl frf)), (to, .inl (y 0, 228, .inl ft)), (ha, .inl (y 0, 30, .inl (upd (kr_cp fh ft 30) 22 (((kr_cp fh ft 30) 22) + 5))))] [1] [0, 2, 3] := ⟨rfl, rfl, rfl, rfl, rfl, by decide⟩
        refine kw_go_v hs33 hP hD hS hA (va_runV (As := [.long ((((10 - (nI an2)) * r28) + ((nI an2) * r31)).toInt64), .long 10]) (rest := []) ⟨hx, hb, hml, hown, hts⟩ (gr_fraction l D y mo to ke ik mrf ha r0 mbr mbp mby an va mab mbl bl ta tl tk vv ((((10 - (nI an2)) * r28) + ((nI an2) * r31)).toInt64)  _) (cwV 2 hts gX11_rains_X11_fraction rfl rfl rfl (by decide +kernel) ⟨Nat.le_of_ble_eq_true rfl, Nat.le_of_ble_eq_true rfl⟩) (kw_PreV (ci := 11) (q0 := 1) hs33 hP hD hK hN rfl rfl) rfl rfl hl.1 rfl (lv_room (Nat.le_of_ble_eq_true rfl)) dX11_rains_109 ⟨Nat.le_of_ble_eq_true rfl, Nat.le_of_ble_eq_true rfl⟩) (fun u35 H locs hq hP hD hS => ?_)
        obtain ⟨v36, v37⟩ := u35
        have hP : va_P D vwCl [(mrf, .inl (y 0, 3, .inl frf)), (to, .inl (y 0, 228, .inl ft)), (ha, .inl (y 0, 30, .inl (upd (kr_cp fh ft 30) 22 (((kr_cp fh ft 30) 22) + 5)))), (mo, .inr (11, [.ref to, .ref ke, .ref ik, .ref mrf, .long v36, .long v37, .ref ha, .ref r0, .ref mbr, .ref mbp, .ref mby, .int (nI bl), .int (nI ta), .int (nI tl), .int (nI tk), .int vv, .ref an, .ref va]))] H := hP
        have hD : va_D A [(mrf, .inl (y 0, 3, .inl frf)), (to, .inl (y 0, 228, .inl ft)), (ha, .inl (y 0, 30, .inl (upd (kr_cp fh ft 30) 22 (((kr_cp fh ft 30) 22) + 5)))), (mo, .inr (11, [.ref to, .ref ke, .ref ik, .ref mrf, .long v36, .long v37, .ref ha, .ref r0, .ref mbr, .ref mbp, .ref mby, .int (nI bl), .int (nI ta), .int (nI tl), .int (nI tk), .int vv, .ref an, .ref va]))] := hD
        refine lv_iconst (v := 1) hx hb dX11_rains_112 (by decide) ?_
        exact W.iret (v := 1) hx hb hr (fun tZ ht hW => ⟨⟨1, (v36, v37, (upd (kr_cp fh ft 30) 22 (((kr_cp fh ft 30) 22) + 5))), rfl, ⟨hr24, by first | omega | (dsimp only; omega), rfl⟩, by rw [ht]; exact hP.sub [3, 0, 1, 2] rfl, hD.sub [3, 0, 1, 2] (by decide) rfl⟩, hS.F ht⟩) hS.2.2 dX11_rains_113
      · skip
        refine lv_bipush (v := 9) hx hb dX11_rains_51 (by decide) ?_
        refine lv_goto (tgt := 65) hx hb dX11_rains_53 (by decide) ?_
        refine va_iast hx hb hK hP hD hS 3 0 rfl rfl (by unfold vp_in; decide) dX11_rains_65 (fun H locs hP hD hS => ?_)
        rw [show ((22 : Int32)).toNatClampNeg = 22 from rfl] at hP hD
        have hr38 : kr_t 30 (upd (kr_cp fh ft 30) 22 9) := kr_up h19 (kr_free (by unfold kr_a; omega) (by unfold kr_s; omega))
        have hk39 : (upd (kr_cp fh ft 30) 22 9) 0 = (nI fi) := (pk_un (by decide)).trans hk20
        have hk40 : (upd (kr_cp fh ft 30) 22 9) 1 = (nI gl) := (pk_un (by decide)).trans hk21
        have hP : va_P D vwCl [(mrf, .inl (y 0, 3, .inl frf)), (mo, .inr (11, [.ref to, .ref ke, .ref ik, .ref mrf, .long mab, .long mbl, .ref ha, .ref r0, .ref mbr, .ref mbp, .ref mby, .int (nI bl), .int (nI ta), .int (nI tl), .int (nI tk), .int vv, .ref an, .ref va])), (to, .inl (y 0, 228, .inl ft)), (ha, .inl (y 0, 30, .inl (upd (kr_cp fh ft 30) 22 9)))] H := hP
        have hD : va_D A [(mrf, .inl (y 0, 3, .inl frf)), (mo, .inr (11, [.ref to, .ref ke, .ref ik, .ref mrf, .long mab, .long mbl, .ref ha, .ref r0, .ref mbr, .ref mbp, .ref mby, .int (nI bl), .int (nI ta), .int (nI tl), .int (nI tk), .int vv, .ref an, .ref va])), (to, .inl (y 0, 228, .inl ft)), (ha, .inl (y 0, 30, .inl (upd (kr_cp fh ft 30) 22 9)))] := hD
        refine lv_aload_n hx hb dX11_rains_66 rfl (lv_at hl 0 rfl) ?_
        refine lv_bipush (v := 10) hx hb dX11_rains_67 (by decide) ?_
        refine lv_iload_n hx hb dX11_rains_69 rfl (lv_at hl 2 rfl) ?_
        refine lv_isub hx hb dX11_rains_70 ?_
        refine lv_aload_n hx hb dX11_rains_71 rfl (lv_at hl 0 rfl) ?_
        refine va_get (D := D) (ci := 11) (v := .ref to) (C := RX11) (T := TX11) (N := 18) hx hb hts iw11 hown hK hP 1 rfl rfl 0 (by decide) fw3 (fun _ h9 => h9) rfl dX11_rains_72 ?_
        refine lv_iload_n hx hb dX11_rains_75 rfl (lv_at hl 1 rfl) ?_
        refine lv_aload_n hx hb dX11_rains_76 rfl (lv_at hl 0 rfl) ?_
        refine va_get (D := D) (ci := 11) (v := .ref to) (C := RX11) (T := TX11) (N := 18) hx hb hts iw11 hown hK hP 1 rfl rfl 0 (by decide) fw3 (fun _ h9 => h9) rfl dX11_rains_77 ?_
        refine lv_bipush (v := 21) hx hb dX11_rains_80 (by decide) ?_
        refine va_iald hx hb hK hP 2 0 rfl rfl (by unfold vp_in; decide) dX11_rains_82 ?_
        rw [show ((21 : Int32)).toNatClampNeg = 21 from rfl]
        have hs41 : kw_Split [(mrf, .inl (y 0, 3, .inl frf)), (mo, .inr (11, [.ref to, .ref ke, .ref ik, .ref mrf, .long mab, .long mbl, .ref ha, .ref r0, .ref mbr, .ref mbp, .ref mby, .int (nI bl), .int (nI ta), .int (nI tl), .int (nI tk), .int vv, .ref an, .ref va])), (to, .inl (y 0, 228, .inl ft)), (ha, .inl (y 0, 30, .inl (upd (kr_cp fh ft 30) 22 9)))] [(to, .inl (y 0, 228, .inl ft))] [(mrf, .inl (y 0, 3, .inl frf)), (mo, .inr (11, [.ref to, .ref ke, .ref ik, .ref mrf, .long mab, .long mbl, .ref ha, .ref r0, .ref mbr, .ref mbp, .ref mby, .int (nI bl), .int (nI ta), .int (nI tl), .int (nI tk), .int vv, .ref an, .ref va])), (ha, .inl (y 0, 30, .inl (upd (kr_cp fh ft 30) 22 9)))] [2] [0, 1, 3] := ⟨rfl, rfl, rfl, rfl, rfl, by decide⟩
        refine kw_go_i hs41 hP hD hS hA (va_runS (As := [.ref to, .int (nI an1), .int (ft 21)]) (rest := [.int (10 - (nI an2)), .ref mo]) ⟨hx, hb, hml, hown, hts⟩ (gr_seenOn228 l D y to ft fi gl mi no un an1 (ft 21) hk0_ hk1_ hk2_ hk3_ hk4_ hkt hfi hgl hmi hno hun (by omega) _) (va_cwS 3 hts gX11_rains_X11_seenOn rfl rfl rfl (by decide +kernel) ⟨Nat.le_of_ble_eq_true rfl, Nat.le_of_ble_eq_true rfl⟩) (kw_PreS hs41 hP hD hK hN) rfl rfl hl.1 rfl (lv_room (Nat.le_of_ble_eq_true rfl)) dX11_rains_83 ⟨Nat.le_of_ble_eq_true rfl, Nat.le_of_ble_eq_true rfl⟩) (fun r42 u43 H locs hq hP hD hS => ?_)
        have hP : va_P D vwCl [(mrf, .inl (y 0, 3, .inl frf)), (mo, .inr (11, [.ref to, .ref ke, .ref ik, .ref mrf, .long mab, .long mbl, .ref ha, .ref r0, .ref mbr, .ref mbp, .ref mby, .int (nI bl), .int (nI ta), .int (nI tl), .int (nI tk), .int vv, .ref an, .ref va])), (ha, .inl (y 0, 30, .inl (upd (kr_cp fh ft 30) 22 9))), (to, .inl (y 0, 228, .inl ft))] H := hP
        have hD : va_D A [(mrf, .inl (y 0, 3, .inl frf)), (mo, .inr (11, [.ref to, .ref ke, .ref ik, .ref mrf, .long mab, .long mbl, .ref ha, .ref r0, .ref mbr, .ref mbp, .ref mby, .int (nI bl), .int (nI ta), .int (nI tl), .int (nI tk), .int vv, .ref an, .ref va])), (ha, .inl (y 0, 30, .inl (upd (kr_cp fh ft 30) 22 9))), (to, .inl (y 0, 228, .inl ft))] := hD
        refine lv_imul hx hb dX11_rains_86 ?_
        refine lv_iload_n hx hb dX11_rains_87 rfl (lv_at hl 2 rfl) ?_
        refine lv_aload_n hx hb dX11_rains_88 rfl (lv_at hl 0 rfl) ?_
        refine va_get (D := D) (ci := 11) (v := .ref ha) (C := RX11) (T := TX11) (N := 18) hx hb hts iw11 hown hK hP 1 rfl rfl 6 (by decide) fw2 (fun _ h9 => h9) rfl dX11_rains_89 ?_
        refine lv_iload_n hx hb dX11_rains_92 rfl (lv_at hl 1 rfl) ?_
        refine lv_aload_n hx hb dX11_rains_93 rfl (lv_at hl 0 rfl) ?_
        refine va_get (D := D) (ci := 11) (v := .ref to) (C := RX11) (T := TX11) (N := 18) hx hb hts iw11 hown hK hP 1 rfl rfl 0 (by decide) fw3 (fun _ h9 => h9) rfl dX11_rains_94 ?_
        refine lv_bipush (v := 21) hx hb dX11_rains_97 (by decide) ?_
        refine va_iald hx hb hK hP 3 0 rfl rfl (by unfold vp_in; decide) dX11_rains_99 ?_
        rw [show ((21 : Int32)).toNatClampNeg = 21 from rfl]
        have hs44 : kw_Split [(mrf, .inl (y 0, 3, .inl frf)), (mo, .inr (11, [.ref to, .ref ke, .ref ik, .ref mrf, .long mab, .long mbl, .ref ha, .ref r0, .ref mbr, .ref mbp, .ref mby, .int (nI bl), .int (nI ta), .int (nI tl), .int (nI tk), .int vv, .ref an, .ref va])), (ha, .inl (y 0, 30, .inl (upd (kr_cp fh ft 30) 22 9))), (to, .inl (y 0, 228, .inl ft))] [(ha, .inl (y 0, 30, .inl (upd (kr_cp fh ft 30) 22 9)))] [(mrf, .inl (y 0, 3, .inl frf)), (mo, .inr (11, [.ref to, .ref ke, .ref ik, .ref mrf, .long mab, .long mbl, .ref ha, .ref r0, .ref mbr, .ref mbp, .ref mby, .int (nI bl), .int (nI ta), .int (nI tl), .int (nI tk), .int vv, .ref an, .ref va])), (to, .inl (y 0, 228, .inl ft))] [2] [0, 1, 3] := ⟨rfl, rfl, rfl, rfl, rfl, by decide⟩
        refine kw_go_i hs44 hP hD hS hA (va_runS (As := [.ref ha, .int (nI an1), .int (ft 21)]) (rest := [.int (nI an2), .int ((10 - (nI an2)) * r42), .ref mo]) ⟨hx, hb, hml, hown, hts⟩ (gr_seenOn30 l D y ha (upd (kr_cp fh ft 30) 22 9) fi gl an1 (ft 21) hk39 hk40 hr38 hfi hgl (by omega) _) (va_cwS 3 hts gX11_rains_X11_seenOn rfl rfl rfl (by decide +kernel) ⟨Nat.le_of_ble_eq_true rfl, Nat.le_of_ble_eq_true rfl⟩) (kw_PreS hs44 hP hD hK hN) rfl rfl hl.1 rfl (lv_room (Nat.le_of_ble_eq_true rfl)) dX11_rains_100 ⟨Nat.le_of_ble_eq_true rfl, Nat.le_of_ble_eq_true rfl⟩) (fun r45 u46 H locs hq hP hD hS => ?_)
        have hP : va_P D vwCl [(mrf, .inl (y 0, 3, .inl frf)), (mo, .inr (11, [.ref to, .ref ke, .ref ik, .ref mrf, .long mab, .long mbl, .ref ha, .ref r0, .ref mbr, .ref mbp, .ref mby, .int (nI bl), .int (nI ta), .int (nI tl), .int (nI tk), .int vv, .ref an, .ref va])), (to, .inl (y 0, 228, .inl ft)), (ha, .inl (y 0, 30, .inl (upd (kr_cp fh ft 30) 22 9)))] H := hP
        have hD : va_D A [(mrf, .inl (y 0, 3, .inl frf)), (mo, .inr (11, [.ref to, .ref ke, .ref ik, .ref mrf, .long mab, .long mbl, .ref ha, .ref r0, .ref mbr, .ref mbp, .ref mby, .int (nI bl), .int (nI ta), .int (nI tl), .int (nI tk), .int vv, .ref an, .ref va])), (to, .inl (y 0, 228, .inl ft)), (ha, .inl (y 0, 30, .inl (upd (kr_cp fh ft 30) 22 9)))] := hD
        refine lv_imul hx hb dX11_rains_103 ?_
        refine lv_iadd hx hb dX11_rains_104 ?_
        refine lv_i2l (v := (((10 - (nI an2)) * r42) + ((nI an2) * r45)).toInt64) hx hb dX11_rains_105 (rfl) ?_
        refine lv_ldc2 (v := 10) hx hb hown fw1 dX11_rains_106 ?_
        have hs47 : kw_Split [(mrf, .inl (y 0, 3, .inl frf)), (mo, .inr (11, [.ref to, .ref ke, .ref ik, .ref mrf, .long mab, .long mbl, .ref ha, .ref r0, .ref mbr, .ref mbp, .ref mby, .int (nI bl), .int (nI ta), .int (nI tl), .int (nI tk), .int vv, .ref an, .ref va])), (to, .inl (y 0, 228, .inl ft)), (ha, .inl (y 0, 30, .inl (upd (kr_cp fh ft 30) 22 9)))] [(mo, .inr (11, [.ref to, .ref ke, .ref ik, .ref mrf, .long mab, .long mbl, .ref ha, .ref r0, .ref mbr, .ref mbp, .ref mby, .int (nI bl), .int (nI ta), .int (nI tl), .int (nI tk), .int vv, .ref an, .ref va]))] [(mrf, .inl (y 0, 3, .inl frf)), (to, .inl (y 0, 228, .inl ft)), (ha, .inl (y 0, 30, .inl (upd (kr_cp fh ft 30) 22 9)))] [1] [0, 2, 3] := ⟨rfl, rfl, rfl, rfl, rfl, by decide⟩
        refine kw_go_v hs47 hP hD hS hA (va_runV (As := [.long ((((10 - (nI an2)) * r42) + ((nI an2) * r45)).toInt64), .long 10]) (rest := []) ⟨hx, hb, hml, hown, hts⟩ (gr_fraction l D y mo to ke ik mrf ha r0 mbr mbp mby an va mab mbl bl ta tl tk vv ((((10 - (nI an2)) * r42) + ((nI an2) * r45)).toInt64)  _) (cwV 2 hts gX11_rains_X11_fraction rfl rfl rfl (by decide +kernel) ⟨Nat.le_of_ble_eq_true rfl, Nat.le_of_ble_eq_true rfl⟩) (kw_PreV (ci := 11) (q0 := 1) hs47 hP hD hK hN rfl rfl) rfl rfl hl.1 rfl (lv_room (Nat.le_of_ble_eq_true rfl)) dX11_rains_109 ⟨Nat.le_of_ble_eq_true rfl, Nat.le_of_ble_eq_true rfl⟩) (fun u49 H locs hq hP hD hS => ?_)
        obtain ⟨v50, v51⟩ := u49
        have hP : va_P D vwCl [(mrf, .inl (y 0, 3, .inl frf)), (to, .inl (y 0, 228, .inl ft)), (ha, .inl (y 0, 30, .inl (upd (kr_cp fh ft 30) 22 9))), (mo, .inr (11, [.ref to, .ref ke, .ref ik, .ref mrf, .long v50, .long v51, .ref ha, .ref r0, .ref mbr, .ref mbp, .ref mby, .int (nI bl), .int (nI ta), .int (nI tl), .int (nI tk), .int vv, .ref an, .ref va]))] H := hP
        have hD : va_D A [(mrf, .inl (y 0, 3, .inl frf)), (to, .inl (y 0, 228, .inl ft)), (ha, .inl (y 0, 30, .inl (upd (kr_cp fh ft 30) 22 9))), (mo, .inr (11, [.ref to, .ref ke, .ref ik, .ref mrf, .long v50, .long v51, .ref ha, .ref r0, .ref mbr, .ref mbp, .ref mby, .int (nI bl), .int (nI ta), .int (nI tl), .int (nI tk), .int vv, .ref an, .ref va]))] := hD
        refine lv_iconst (v := 1) hx hb dX11_rains_112 (by decide) ?_
        exact W.iret (v := 1) hx hb hr (fun tZ ht hW => ⟨⟨1, (v50, v51, (upd (kr_cp fh ft 30) 22 9)), rfl, ⟨hr38, by first | omega | (dsimp only; omega), rfl⟩, by rw [ht]; exact hP.sub [3, 0, 1, 2] rfl, hD.sub [3, 0, 1, 2] (by decide) rfl⟩, hS.F ht⟩) hS.2.2 dX11_rains_113
    · skip
      exact absurd ⟨an2, by omega, by omega, rfl⟩ h15
  · skip
    exact absurd ⟨an1, by omega, rfl⟩ h7

set_option maxHeartbeats 4000000 in
set_option maxRecDepth 100000 in
theorem gx_forget0 (l : Launch) (D : va_G) (y : Nat → ClassId) (g : Nat) (kk : Nat) (nw : Nat) (im : Nat) (kp : Nat) (tx : Nat) (tr : Nat) (be : Nat) (sh : Nat) (sd : Nat) (rf : Nat) (ab : Int32) (bl : Int32) (frf : Nat → Int32) (nk : Nat) (nd : Nat) (ne : Nat) (nm : Nat) (nn : Nat) (fi : Nat) (gl : Nat) (un : Nat) (mi : Nat) (no : Nat) (hfi : fi ≤ 6) (hgl : gl ≤ 5) (hun : un ≤ 8) (hmi : mi ≤ 4) (hno : no ≤ 6) : kw_Mi l yX10_forget wsX10_forget ({ frames := 2, cells := 0, slots := 0, locals := 81 }) D y [.ref g, .int 0] [(g, .inr (10, [.ref kk, .ref nw, .ref im, .ref kp, .ref tx, .ref tr, .ref be, .ref sh, .ref sd, .ref rf, .int ab, .int bl])), (rf, .inl (y 0, 3, .inl frf)), (nw, .inr (4, [.ref kk, .ref nk, .ref nd, .ref ne, .ref nm, .ref nn, .int (nI fi), .int (nI gl), .int (nI un), .int (nI mi), .int (nI no)]))] (fun (r : Int32) (u : Unit) => r = (nI mi)) (fun _ => [(g, .inr (10, [.ref kk, .ref nw, .ref im, .ref kp, .ref tx, .ref tr, .ref be, .ref sh, .ref sd, .ref rf, .int ab, .int bl])), (rf, .inl (y 0, 3, .inl frf)), (nw, .inr (4, [.ref kk, .ref nk, .ref nd, .ref ne, .ref nm, .ref nn, .int (nI fi), .int (nI gl), .int (nI un), .int 0, .int (nI no)]))]) 0 0 := by
  refine kw_Mi.of (cc := cX10_forget) (maxL := 3) (ret := (some .int)) (by decide) rfl ?_
  intro pZ eZ s mZ beZ meZ cZ A hE
  obtain ⟨hx, hb, hr, hml, hts, hown, hlocks, hin, hA, hP, hD, hK, hN⟩ := hE
  have hS : va_S A s.heap s.heap [] := va_S.rf
  have hl := lv_entry ([.ref g, .int 0]) (n := 3) (Nat.le_of_ble_eq_true rfl)
  rw [lg_entry_eq]
  generalize (lg_sl ([.ref g, .int 0]) ++ List.replicate (3 - (lg_sl ([.ref g, .int 0])).length) Slot.unset).toArray = ls at hl ⊢
  have hl : lv_has ls 3 [(0, .ref g), (1, .int 0)] := hl
  have fw1 := hts (.fieldLink RX10 36 "GleanDusk" "now" "LGleanDusk$Parish;") (List.mem_of_getElem? (i := 1) rfl)
  have fw2 := hts (.fieldLink RX10 240 "GleanDusk$Parish" "missedCount" "I") (List.mem_of_getElem? (i := 2) rfl)
  have iw10 : ∀ w ∈ wsX100, w ∈ wsX10_forget := fun _ h => List.mem_cons_of_mem _ (List.mem_append_left _ (List.mem_append_right _ h))
  have iw4 : ∀ w ∈ wsX40, w ∈ wsX10_forget := fun _ h => List.mem_cons_of_mem _ (List.mem_append_right _ h)
  refine lv_iload_n hx hb dX10_forget_0 rfl (lv_at hl 1 rfl) ?_
  refine lv_iconst (v := 2) hx hb dX10_forget_1 (by decide) ?_
  have hs1 : kw_Split [(g, .inr (10, [.ref kk, .ref nw, .ref im, .ref kp, .ref tx, .ref tr, .ref be, .ref sh, .ref sd, .ref rf, .int ab, .int bl])), (rf, .inl (y 0, 3, .inl frf)), (nw, .inr (4, [.ref kk, .ref nk, .ref nd, .ref ne, .ref nm, .ref nn, .int (nI fi), .int (nI gl), .int (nI un), .int (nI mi), .int (nI no)]))] [] [(g, .inr (10, [.ref kk, .ref nw, .ref im, .ref kp, .ref tx, .ref tr, .ref be, .ref sh, .ref sd, .ref rf, .int ab, .int bl])), (rf, .inl (y 0, 3, .inl frf)), (nw, .inr (4, [.ref kk, .ref nk, .ref nd, .ref ne, .ref nm, .ref nn, .int (nI fi), .int (nI gl), .int (nI un), .int (nI mi), .int (nI no)]))] [] [0, 1, 2] := ⟨rfl, rfl, rfl, rfl, rfl, by decide⟩
  refine kw_go_i hs1 hP hD hS hA (va_runS (As := [.int 0, .int 2]) (rest := []) ⟨hx, hb, hml, hown, hts⟩ (gc_isBelow l D y 0 2 (by omega) _) (va_cwS 2 hts gX10_forget_X10_isBelow rfl rfl rfl (by decide +kernel) ⟨Nat.le_of_ble_eq_true rfl, Nat.le_of_ble_eq_true rfl⟩) (kw_PreS hs1 hP hD hK hN) rfl rfl hl.1 rfl (lv_room (Nat.le_of_ble_eq_true rfl)) dX10_forget_2 ⟨Nat.le_of_ble_eq_true rfl, Nat.le_of_ble_eq_true rfl⟩) (fun r2 u3 H locs hq hP hD hS => ?_)
  rcases hq with ⟨j4, h5, h6, rfl⟩ | ⟨h7, rfl⟩
  · skip
    have h6 : 0 = j4 := (nI_eq (a := 0) (b := j4) (by omega) (by omega)).mp h6
    have hP : va_P D vwCl [(g, .inr (10, [.ref kk, .ref nw, .ref im, .ref kp, .ref tx, .ref tr, .ref be, .ref sh, .ref sd, .ref rf, .int ab, .int bl])), (rf, .inl (y 0, 3, .inl frf)), (nw, .inr (4, [.ref kk, .ref nk, .ref nd, .ref ne, .ref nm, .ref nn, .int (nI fi), .int (nI gl), .int (nI un), .int (nI mi), .int (nI no)]))] H := hP
    have hD : va_D A [(g, .inr (10, [.ref kk, .ref nw, .ref im, .ref kp, .ref tx, .ref tr, .ref be, .ref sh, .ref sd, .ref rf, .int ab, .int bl])), (rf, .inl (y 0, 3, .inl frf)), (nw, .inr (4, [.ref kk, .ref nk, .ref nd, .ref ne, .ref nm, .ref nn, .int (nI fi), .int (nI gl), .int (nI un), .int (nI mi), .int (nI no)]))] := hD
    refine lv_if_ne (tgt := 13) hx hb dX10_forget_5 (by decide) (fun _ => ?_) (fun h9 => absurd h9 (by decide))
    refine lv_iload_n hx hb dX10_forget_13 rfl (lv_at hl 1 rfl) ?_
    refine lv_if_ne (tgt := 27) hx hb dX10_forget_14 (by decide) (fun h9 => absurd h9 (by decide)) (fun _ => ?_)
    refine lv_aload_n hx hb dX10_forget_17 rfl (lv_at hl 0 rfl) ?_
    refine va_get (D := D) (ci := 10) (v := .ref nw) (C := RX10) (T := TX10) (N := 12) hx hb hts iw10 hown hK hP 0 rfl rfl 1 (by decide) fw1 (fun _ h9 => h9) rfl dX10_forget_18 ?_
    refine va_get (D := D) (ci := 4) (v := .int (nI mi)) (C := RX4) (T := TX4) (N := 11) hx hb hts iw4 hown hK hP 2 rfl rfl 9 (by decide) fw2 (fun _ h9 => h9) rfl dX10_forget_21 ?_
    refine lv_goto (tgt := 34) hx hb dX10_forget_24 (by decide) ?_
    refine lv_istore_n (lv' := [(2, .int (nI mi)), (0, .ref g), (1, .int 0)]) hx hb dX10_forget_34 rfl hl (by decide) rfl (fun ls hl => ?_)
    refine lv_iload_n hx hb dX10_forget_35 rfl (lv_at hl 2 rfl) ?_
    refine lv_if_ne (tgt := 50) hx hb dX10_forget_36 (by decide) (fun h9 => absurd h9 (by decide)) (fun _ => ?_)
    refine lv_aload_n hx hb dX10_forget_39 rfl (lv_at hl 1 rfl) ?_
    refine va_get (D := D) (ci := 10) (v := .ref nw) (C := RX10) (T := TX10) (N := 12) hx hb hts iw10 hown hK hP 0 rfl rfl 1 (by decide) fw1 (fun _ h9 => h9) rfl dX10_forget_40 ?_
    refine lv_iconst (v := 0) hx hb dX10_forget_43 (by decide) ?_
    refine va_put (D := D) (ci := 4) (v := .int 0) (ty := .int) (C := RX4) (T := TX4) (N := 11) hx hb hts iw4 tyX4 tyX4_ok nmX4 hown hK hP hD hS 2 rfl rfl 9 (by decide) fw2 (fun _ h9 => h9) rfl (by decide +kernel) rfl rfl (Nat.le_of_ble_eq_true rfl) dX10_forget_44 (fun H locs hP hD hS => ?_)
    have hP : va_P D vwCl [(g, .inr (10, [.ref kk, .ref nw, .ref im, .ref kp, .ref tx, .ref tr, .ref be, .ref sh, .ref sd, .ref rf, .int ab, .int bl])), (rf, .inl (y 0, 3, .inl frf)), (nw, .inr (4, [.ref kk, .ref nk, .ref nd, .ref ne, .ref nm, .ref nn, .int (nI fi), .int (nI gl), .int (nI un), .int 0, .int (nI no)]))] H := hP
    have hD : va_D A [(g, .inr (10, [.ref kk, .ref nw, .ref im, .ref kp, .ref tx, .ref tr, .ref be, .ref sh, .ref sd, .ref rf, .int ab, .int bl])), (rf, .inl (y 0, 3, .inl frf)), (nw, .inr (4, [.ref kk, .ref nk, .ref nd, .ref ne, .ref nm, .ref nn, .int (nI fi), .int (nI gl), .int (nI un), .int 0, .int (nI no)]))] := hD
    refine lv_goto (tgt := 58) hx hb dX10_forget_47 (by decide) ?_
    refine lv_iload_n hx hb dX10_forget_58 rfl (lv_at hl 0 rfl) ?_
    exact W.iret (v := (nI mi)) hx hb hr (fun tZ ht hW => ⟨⟨(nI mi), (), rfl, rfl, by rw [ht]; exact hP.sub [0, 1, 2] rfl, hD.sub [0, 1, 2] (by decide) rfl⟩, hS.F ht⟩) hS.2.2 dX10_forget_59
  · skip
    exact absurd ⟨0, by decide, by decide⟩ h7

set_option maxHeartbeats 4000000 in
set_option maxRecDepth 100000 in
theorem gy_forget0 (l : Launch) (D : va_G) (y : Nat → ClassId) (mo : Nat) (to : Nat) (ke : Nat) (ik : Nat) (mrf : Nat) (ha : Nat) (r0 : Nat) (mbr : Nat) (mbp : Nat) (mby : Nat) (an : Nat) (va : Nat) (mab : Int64) (mbl : Int64) (bl : Nat) (ta : Nat) (tl : Nat) (tk : Nat) (vv : Int32) (frf : Nat → Int32) (ft : Nat → Int32) (fi : Nat) (gl : Nat) (mi : Nat) (no : Nat) (un : Nat) (hk0_ : ft 0 = (nI fi)) (hk1_ : ft 1 = (nI gl)) (hk2_ : ft 2 = (nI mi)) (hk3_ : ft 3 = (nI no)) (hk4_ : ft 4 = (nI un)) (hkt : kr_t 228 ft) (hfi : fi ≤ 6) (hgl : gl ≤ 5) (hmi : mi ≤ 4) (hno : no ≤ 6) (hun : un ≤ 8) (hgf : (gl = 0 ∨ 0 < fi)) : kw_Mi l yX11_forget wsX11_forget ({ frames := 2, cells := 0, slots := 0, locals := 85 }) D y [.ref mo, .int (nI 0)] [(mo, .inr (11, [.ref to, .ref ke, .ref ik, .ref mrf, .long mab, .long mbl, .ref ha, .ref r0, .ref mbr, .ref mbp, .ref mby, .int (nI bl), .int (nI ta), .int (nI tl), .int (nI tk), .int vv, .ref an, .ref va])), (mrf, .inl (y 0, 3, .inl frf)), (to, .inl (y 0, 228, .inl ft))] (fun (r : Int32) (u : Unit) => kr_t 228 (upd ft 2 0) ∧ (upd ft 2 0) 0 = (nI fi) ∧ (upd ft 2 0) 1 = (nI gl) ∧ (upd ft 2 0) 2 = 0 ∧ (upd ft 2 0) 3 = (nI no) ∧ (upd ft 2 0) 4 = (nI un) ∧ (gl = 0 ∨ 0 < fi) ∧ r = (nI mi)) (fun _ => [(mo, .inr (11, [.ref to, .ref ke, .ref ik, .ref mrf, .long mab, .long mbl, .ref ha, .ref r0, .ref mbr, .ref mbp, .ref mby, .int (nI bl), .int (nI ta), .int (nI tl), .int (nI tk), .int vv, .ref an, .ref va])), (mrf, .inl (y 0, 3, .inl frf)), (to, .inl (y 0, 228, .inl (upd ft 2 0)))]) 0 0 := by
  refine kw_Mi.of (cc := cX11_forget) (maxL := 3) (ret := (some .int)) (by decide) rfl ?_
  intro pZ eZ s mZ beZ meZ cZ A hE
  obtain ⟨hx, hb, hr, hml, hts, hown, hlocks, hin, hA, hP, hD, hK, hN⟩ := hE
  have hS : va_S A s.heap s.heap [] := va_S.rf
  have hl := lv_entry ([.ref mo, .int (nI 0)]) (n := 3) (Nat.le_of_ble_eq_true rfl)
  rw [lg_entry_eq]
  generalize (lg_sl ([.ref mo, .int (nI 0)]) ++ List.replicate (3 - (lg_sl ([.ref mo, .int (nI 0)])).length) Slot.unset).toArray = ls at hl ⊢
  have hl : lv_has ls 3 [(0, .ref mo), (1, .int (nI 0))] := hl
  have fw1 := hts (.fieldLink RX11 7 "GleanDuskModel" "told" "[I") (List.mem_of_getElem? (i := 1) rfl)
  have iw11 : ∀ w ∈ wsX110, w ∈ wsX11_forget := fun _ h => List.mem_cons_of_mem _ (List.mem_append_right _ h)
  refine lv_iload_n hx hb dX11_forget_0 rfl (lv_at hl 1 rfl) ?_
  refine lv_i2l (v := (nI 0).toInt64) hx hb dX11_forget_1 (rfl) ?_
  refine lv_lconst (v := 0) hx hb dX11_forget_2 (by decide) ?_
  refine lv_lconst (v := 1) hx hb dX11_forget_3 (by decide) ?_
  have hs1 : kw_Split [(mo, .inr (11, [.ref to, .ref ke, .ref ik, .ref mrf, .long mab, .long mbl, .ref ha, .ref r0, .ref mbr, .ref mbp, .ref mby, .int (nI bl), .int (nI ta), .int (nI tl), .int (nI tk), .int vv, .ref an, .ref va])), (mrf, .inl (y 0, 3, .inl frf)), (to, .inl (y 0, 228, .inl ft))] [] [(mo, .inr (11, [.ref to, .ref ke, .ref ik, .ref mrf, .long mab, .long mbl, .ref ha, .ref r0, .ref mbr, .ref mbp, .ref mby, .int (nI bl), .int (nI ta), .int (nI tl), .int (nI tk), .int vv, .ref an, .ref va])), (mrf, .inl (y 0, 3, .inl frf)), (to, .inl (y 0, 228, .inl ft))] [] [0, 1, 2] := ⟨rfl, rfl, rfl, rfl, rfl, by decide⟩
  refine kw_go_i hs1 hP hD hS hA (va_runS (As := [.long ((nI 0).toInt64), .long 0, .long 1]) (rest := []) ⟨hx, hb, hml, hown, hts⟩ (gr_in l D y (nI 0) 0 1 (by omega) (by omega) _) (va_cwS 3 hts gX11_forget_X11_in rfl rfl rfl (by decide +kernel) ⟨Nat.le_of_ble_eq_true rfl, Nat.le_of_ble_eq_true rfl⟩) (kw_PreS hs1 hP hD hK hN) rfl rfl hl.1 rfl (lv_room (Nat.le_of_ble_eq_true rfl)) dX11_forget_4 ⟨Nat.le_of_ble_eq_true rfl, Nat.le_of_ble_eq_true rfl⟩) (fun r2 u3 H locs hq hP hD hS => ?_)
  rcases hq with ⟨j4, h5, h6, h7, rfl⟩ | ⟨h8, rfl⟩
  · skip
    have h7 : 0 = j4 := (nI_eq (a := 0) (b := j4) (by omega) (by omega)).mp h7
    have hP : va_P D vwCl [(mo, .inr (11, [.ref to, .ref ke, .ref ik, .ref mrf, .long mab, .long mbl, .ref ha, .ref r0, .ref mbr, .ref mbp, .ref mby, .int (nI bl), .int (nI ta), .int (nI tl), .int (nI tk), .int vv, .ref an, .ref va])), (mrf, .inl (y 0, 3, .inl frf)), (to, .inl (y 0, 228, .inl ft))] H := hP
    have hD : va_D A [(mo, .inr (11, [.ref to, .ref ke, .ref ik, .ref mrf, .long mab, .long mbl, .ref ha, .ref r0, .ref mbr, .ref mbp, .ref mby, .int (nI bl), .int (nI ta), .int (nI tl), .int (nI tk), .int vv, .ref an, .ref va])), (mrf, .inl (y 0, 3, .inl frf)), (to, .inl (y 0, 228, .inl ft))] := hD
    refine lv_if_ne (tgt := 17) hx hb dX11_forget_7 (by decide) (fun _ => ?_) (fun h9 => absurd h9 (by decide))
    refine lv_aload_n hx hb dX11_forget_17 rfl (lv_at hl 0 rfl) ?_
    refine va_get (D := D) (ci := 11) (v := .ref to) (C := RX11) (T := TX11) (N := 18) hx hb hts iw11 hown hK hP 0 rfl rfl 0 (by decide) fw1 (fun _ h9 => h9) rfl dX11_forget_18 ?_
    refine lv_iconst (v := 2) hx hb dX11_forget_21 (by decide) ?_
    refine lv_iload_n hx hb dX11_forget_22 rfl (lv_at hl 1 rfl) ?_
    refine lv_iadd hx hb dX11_forget_23 ?_
    rw [show 2 + (nI 0) = nI (2) from nI_add 2 0]
    refine va_iald hx hb hK hP 2 0 rfl rfl (vp_in_nI (by omega) (by decide)) dX11_forget_24 ?_
    rw [nI_clamp (n := 2) (by omega)]
    rw [show (ft 2) = (nI mi) from hk2_]
    refine lv_istore_n (lv' := [(2, .int (nI mi)), (0, .ref mo), (1, .int (nI 0))]) hx hb dX11_forget_25 rfl hl (by decide) rfl (fun ls hl => ?_)
    refine lv_aload_n hx hb dX11_forget_26 rfl (lv_at hl 1 rfl) ?_
    refine va_get (D := D) (ci := 11) (v := .ref to) (C := RX11) (T := TX11) (N := 18) hx hb hts iw11 hown hK hP 0 rfl rfl 0 (by decide) fw1 (fun _ h9 => h9) rfl dX11_forget_27 ?_
    refine lv_iconst (v := 2) hx hb dX11_forget_30 (by decide) ?_
    refine lv_iload_n hx hb dX11_forget_31 rfl (lv_at hl 2 rfl) ?_
    refine lv_iadd hx hb dX11_forget_32 ?_
    rw [show 2 + (nI 0) = nI (2) from nI_add 2 0]
    refine lv_iconst (v := 0) hx hb dX11_forget_33 (by decide) ?_
    refine va_iast hx hb hK hP hD hS 2 0 rfl rfl (vp_in_nI (by omega) (by decide)) dX11_forget_34 (fun H locs hP hD hS => ?_)
    rw [nI_clamp (n := 2) (by omega)] at hP hD
    have hr9 : kr_t 228 (upd ft 2 0) := kr_up hkt (kr_ok0)
    have hk10 : (upd ft 2 0) 0 = (nI fi) := (pk_un (by decide)).trans hk0_
    have hk11 : (upd ft 2 0) 1 = (nI gl) := (pk_un (by decide)).trans hk1_
    have hk12 : (upd ft 2 0) 3 = (nI no) := (pk_un (by decide)).trans hk3_
    have hk13 : (upd ft 2 0) 4 = (nI un) := (pk_un (by decide)).trans hk4_
    have hk14 : (upd ft 2 0) 2 = 0 := pk_us
    have hP : va_P D vwCl [(mo, .inr (11, [.ref to, .ref ke, .ref ik, .ref mrf, .long mab, .long mbl, .ref ha, .ref r0, .ref mbr, .ref mbp, .ref mby, .int (nI bl), .int (nI ta), .int (nI tl), .int (nI tk), .int vv, .ref an, .ref va])), (mrf, .inl (y 0, 3, .inl frf)), (to, .inl (y 0, 228, .inl (upd ft 2 0)))] H := hP
    have hD : va_D A [(mo, .inr (11, [.ref to, .ref ke, .ref ik, .ref mrf, .long mab, .long mbl, .ref ha, .ref r0, .ref mbr, .ref mbp, .ref mby, .int (nI bl), .int (nI ta), .int (nI tl), .int (nI tk), .int vv, .ref an, .ref va])), (mrf, .inl (y 0, 3, .inl frf)), (to, .inl (y 0, 228, .inl (upd ft 2 0)))] := hD
    refine lv_iload_n hx hb dX11_forget_35 rfl (lv_at hl 0 rfl) ?_
    exact W.iret (v := (nI mi)) hx hb hr (fun tZ ht hW => ⟨⟨(nI mi), (), rfl, ⟨hr9, hk10, hk11, hk14, hk12, hk13, by first | omega | (dsimp only; omega), rfl⟩, by rw [ht]; exact hP.sub [0, 1, 2] rfl, hD.sub [0, 1, 2] (by decide) rfl⟩, hS.F ht⟩) hS.2.2 dX11_forget_36
  · skip
    exact absurd ⟨0, by omega, by omega, rfl⟩ h8

set_option maxHeartbeats 4000000 in
set_option maxRecDepth 100000 in
theorem gx_forget1 (l : Launch) (D : va_G) (y : Nat → ClassId) (g : Nat) (kk : Nat) (nw : Nat) (im : Nat) (kp : Nat) (tx : Nat) (tr : Nat) (be : Nat) (sh : Nat) (sd : Nat) (rf : Nat) (ab : Int32) (bl : Int32) (frf : Nat → Int32) (nk : Nat) (nd : Nat) (ne : Nat) (nm : Nat) (nn : Nat) (fi : Nat) (gl : Nat) (un : Nat) (mi : Nat) (no : Nat) (hfi : fi ≤ 6) (hgl : gl ≤ 5) (hun : un ≤ 8) (hmi : mi ≤ 4) (hno : no ≤ 6) : kw_Mi l yX10_forget wsX10_forget ({ frames := 2, cells := 0, slots := 0, locals := 81 }) D y [.ref g, .int 1] [(g, .inr (10, [.ref kk, .ref nw, .ref im, .ref kp, .ref tx, .ref tr, .ref be, .ref sh, .ref sd, .ref rf, .int ab, .int bl])), (rf, .inl (y 0, 3, .inl frf)), (nw, .inr (4, [.ref kk, .ref nk, .ref nd, .ref ne, .ref nm, .ref nn, .int (nI fi), .int (nI gl), .int (nI un), .int (nI mi), .int (nI no)]))] (fun (r : Int32) (u : Unit) => r = (nI no)) (fun _ => [(g, .inr (10, [.ref kk, .ref nw, .ref im, .ref kp, .ref tx, .ref tr, .ref be, .ref sh, .ref sd, .ref rf, .int ab, .int bl])), (rf, .inl (y 0, 3, .inl frf)), (nw, .inr (4, [.ref kk, .ref nk, .ref nd, .ref ne, .ref nm, .ref nn, .int (nI fi), .int (nI gl), .int (nI un), .int (nI mi), .int 0]))]) 0 0 := by
  refine kw_Mi.of (cc := cX10_forget) (maxL := 3) (ret := (some .int)) (by decide) rfl ?_
  intro pZ eZ s mZ beZ meZ cZ A hE
  obtain ⟨hx, hb, hr, hml, hts, hown, hlocks, hin, hA, hP, hD, hK, hN⟩ := hE
  have hS : va_S A s.heap s.heap [] := va_S.rf
  have hl := lv_entry ([.ref g, .int 1]) (n := 3) (Nat.le_of_ble_eq_true rfl)
  rw [lg_entry_eq]
  generalize (lg_sl ([.ref g, .int 1]) ++ List.replicate (3 - (lg_sl ([.ref g, .int 1])).length) Slot.unset).toArray = ls at hl ⊢
  have hl : lv_has ls 3 [(0, .ref g), (1, .int 1)] := hl
  have fw1 := hts (.fieldLink RX10 36 "GleanDusk" "now" "LGleanDusk$Parish;") (List.mem_of_getElem? (i := 1) rfl)
  have fw2 := hts (.fieldLink RX10 250 "GleanDusk$Parish" "noteCount" "I") (List.mem_of_getElem? (i := 3) rfl)
  have iw10 : ∀ w ∈ wsX100, w ∈ wsX10_forget := fun _ h => List.mem_cons_of_mem _ (List.mem_append_left _ (List.mem_append_right _ h))
  have iw4 : ∀ w ∈ wsX40, w ∈ wsX10_forget := fun _ h => List.mem_cons_of_mem _ (List.mem_append_right _ h)
  refine lv_iload_n hx hb dX10_forget_0 rfl (lv_at hl 1 rfl) ?_
  refine lv_iconst (v := 2) hx hb dX10_forget_1 (by decide) ?_
  have hs1 : kw_Split [(g, .inr (10, [.ref kk, .ref nw, .ref im, .ref kp, .ref tx, .ref tr, .ref be, .ref sh, .ref sd, .ref rf, .int ab, .int bl])), (rf, .inl (y 0, 3, .inl frf)), (nw, .inr (4, [.ref kk, .ref nk, .ref nd, .ref ne, .ref nm, .ref nn, .int (nI fi), .int (nI gl), .int (nI un), .int (nI mi), .int (nI no)]))] [] [(g, .inr (10, [.ref kk, .ref nw, .ref im, .ref kp, .ref tx, .ref tr, .ref be, .ref sh, .ref sd, .ref rf, .int ab, .int bl])), (rf, .inl (y 0, 3, .inl frf)), (nw, .inr (4, [.ref kk, .ref nk, .ref nd, .ref ne, .ref nm, .ref nn, .int (nI fi), .int (nI gl), .int (nI un), .int (nI mi), .int (nI no)]))] [] [0, 1, 2] := ⟨rfl, rfl, rfl, rfl, rfl, by decide⟩
  refine kw_go_i hs1 hP hD hS hA (va_runS (As := [.int 1, .int 2]) (rest := []) ⟨hx, hb, hml, hown, hts⟩ (gc_isBelow l D y 1 2 (by omega) _) (va_cwS 2 hts gX10_forget_X10_isBelow rfl rfl rfl (by decide +kernel) ⟨Nat.le_of_ble_eq_true rfl, Nat.le_of_ble_eq_true rfl⟩) (kw_PreS hs1 hP hD hK hN) rfl rfl hl.1 rfl (lv_room (Nat.le_of_ble_eq_true rfl)) dX10_forget_2 ⟨Nat.le_of_ble_eq_true rfl, Nat.le_of_ble_eq_true rfl⟩) (fun r2 u3 H locs hq hP hD hS => ?_)
  rcases hq with ⟨j4, h5, h6, rfl⟩ | ⟨h7, rfl⟩
  · skip
    have h6 : 1 = j4 := (nI_eq (a := 1) (b := j4) (by omega) (by omega)).mp h6
    have hP : va_P D vwCl [(g, .inr (10, [.ref kk, .ref nw, .ref im, .ref kp, .ref tx, .ref tr, .ref be, .ref sh, .ref sd, .ref rf, .int ab, .int bl])), (rf, .inl (y 0, 3, .inl frf)), (nw, .inr (4, [.ref kk, .ref nk, .ref nd, .ref ne, .ref nm, .ref nn, .int (nI fi), .int (nI gl), .int (nI un), .int (nI mi), .int (nI no)]))] H := hP
    have hD : va_D A [(g, .inr (10, [.ref kk, .ref nw, .ref im, .ref kp, .ref tx, .ref tr, .ref be, .ref sh, .ref sd, .ref rf, .int ab, .int bl])), (rf, .inl (y 0, 3, .inl frf)), (nw, .inr (4, [.ref kk, .ref nk, .ref nd, .ref ne, .ref nm, .ref nn, .int (nI fi), .int (nI gl), .int (nI un), .int (nI mi), .int (nI no)]))] := hD
    refine lv_if_ne (tgt := 13) hx hb dX10_forget_5 (by decide) (fun _ => ?_) (fun h9 => absurd h9 (by decide))
    refine lv_iload_n hx hb dX10_forget_13 rfl (lv_at hl 1 rfl) ?_
    refine lv_if_ne (tgt := 27) hx hb dX10_forget_14 (by decide) (fun _ => ?_) (fun h9 => absurd h9 (by decide))
    refine lv_aload_n hx hb dX10_forget_27 rfl (lv_at hl 0 rfl) ?_
    refine va_get (D := D) (ci := 10) (v := .ref nw) (C := RX10) (T := TX10) (N := 12) hx hb hts iw10 hown hK hP 0 rfl rfl 1 (by decide) fw1 (fun _ h9 => h9) rfl dX10_forget_28 ?_
    refine va_get (D := D) (ci := 4) (v := .int (nI no)) (C := RX4) (T := TX4) (N := 11) hx hb hts iw4 hown hK hP 2 rfl rfl 10 (by decide) fw2 (fun _ h9 => h9) rfl dX10_forget_31 ?_
    refine lv_istore_n (lv' := [(2, .int (nI no)), (0, .ref g), (1, .int 1)]) hx hb dX10_forget_34 rfl hl (by decide) rfl (fun ls hl => ?_)
    refine lv_iload_n hx hb dX10_forget_35 rfl (lv_at hl 2 rfl) ?_
    refine lv_if_ne (tgt := 50) hx hb dX10_forget_36 (by decide) (fun _ => ?_) (fun h9 => absurd h9 (by decide))
    refine lv_aload_n hx hb dX10_forget_50 rfl (lv_at hl 1 rfl) ?_
    refine va_get (D := D) (ci := 10) (v := .ref nw) (C := RX10) (T := TX10) (N := 12) hx hb hts iw10 hown hK hP 0 rfl rfl 1 (by decide) fw1 (fun _ h9 => h9) rfl dX10_forget_51 ?_
    refine lv_iconst (v := 0) hx hb dX10_forget_54 (by decide) ?_
    refine va_put (D := D) (ci := 4) (v := .int 0) (ty := .int) (C := RX4) (T := TX4) (N := 11) hx hb hts iw4 tyX4 tyX4_ok nmX4 hown hK hP hD hS 2 rfl rfl 10 (by decide) fw2 (fun _ h9 => h9) rfl (by decide +kernel) rfl rfl (Nat.le_of_ble_eq_true rfl) dX10_forget_55 (fun H locs hP hD hS => ?_)
    have hP : va_P D vwCl [(g, .inr (10, [.ref kk, .ref nw, .ref im, .ref kp, .ref tx, .ref tr, .ref be, .ref sh, .ref sd, .ref rf, .int ab, .int bl])), (rf, .inl (y 0, 3, .inl frf)), (nw, .inr (4, [.ref kk, .ref nk, .ref nd, .ref ne, .ref nm, .ref nn, .int (nI fi), .int (nI gl), .int (nI un), .int (nI mi), .int 0]))] H := hP
    have hD : va_D A [(g, .inr (10, [.ref kk, .ref nw, .ref im, .ref kp, .ref tx, .ref tr, .ref be, .ref sh, .ref sd, .ref rf, .int ab, .int bl])), (rf, .inl (y 0, 3, .inl frf)), (nw, .inr (4, [.ref kk, .ref nk, .ref nd, .ref ne, .ref nm, .ref nn, .int (nI fi), .int (nI gl), .int (nI un), .int (nI mi), .int 0]))] := hD
    refine lv_iload_n hx hb dX10_forget_58 rfl (lv_at hl 0 rfl) ?_
    exact W.iret (v := (nI no)) hx hb hr (fun tZ ht hW => ⟨⟨(nI no), (), rfl, rfl, by rw [ht]; exact hP.sub [0, 1, 2] rfl, hD.sub [0, 1, 2] (by decide) rfl⟩, hS.F ht⟩) hS.2.2 dX10_forget_59
  · skip
    exact absurd ⟨1, by decide, by decide⟩ h7

set_option maxHeartbeats 4000000 in
set_option maxRecDepth 100000 in
theorem gy_forget1 (l : Launch) (D : va_G) (y : Nat → ClassId) (mo : Nat) (to : Nat) (ke : Nat) (ik : Nat) (mrf : Nat) (ha : Nat) (r0 : Nat) (mbr : Nat) (mbp : Nat) (mby : Nat) (an : Nat) (va : Nat) (mab : Int64) (mbl : Int64) (bl : Nat) (ta : Nat) (tl : Nat) (tk : Nat) (vv : Int32) (frf : Nat → Int32) (ft : Nat → Int32) (fi : Nat) (gl : Nat) (mi : Nat) (no : Nat) (un : Nat) (hk0_ : ft 0 = (nI fi)) (hk1_ : ft 1 = (nI gl)) (hk2_ : ft 2 = (nI mi)) (hk3_ : ft 3 = (nI no)) (hk4_ : ft 4 = (nI un)) (hkt : kr_t 228 ft) (hfi : fi ≤ 6) (hgl : gl ≤ 5) (hmi : mi ≤ 4) (hno : no ≤ 6) (hun : un ≤ 8) (hgf : (gl = 0 ∨ 0 < fi)) : kw_Mi l yX11_forget wsX11_forget ({ frames := 2, cells := 0, slots := 0, locals := 85 }) D y [.ref mo, .int (nI 1)] [(mo, .inr (11, [.ref to, .ref ke, .ref ik, .ref mrf, .long mab, .long mbl, .ref ha, .ref r0, .ref mbr, .ref mbp, .ref mby, .int (nI bl), .int (nI ta), .int (nI tl), .int (nI tk), .int vv, .ref an, .ref va])), (mrf, .inl (y 0, 3, .inl frf)), (to, .inl (y 0, 228, .inl ft))] (fun (r : Int32) (u : Unit) => kr_t 228 (upd ft 3 0) ∧ (upd ft 3 0) 0 = (nI fi) ∧ (upd ft 3 0) 1 = (nI gl) ∧ (upd ft 3 0) 2 = (nI mi) ∧ (upd ft 3 0) 3 = 0 ∧ (upd ft 3 0) 4 = (nI un) ∧ (gl = 0 ∨ 0 < fi) ∧ r = (nI no)) (fun _ => [(mo, .inr (11, [.ref to, .ref ke, .ref ik, .ref mrf, .long mab, .long mbl, .ref ha, .ref r0, .ref mbr, .ref mbp, .ref mby, .int (nI bl), .int (nI ta), .int (nI tl), .int (nI tk), .int vv, .ref an, .ref va])), (mrf, .inl (y 0, 3, .inl frf)), (to, .inl (y 0, 228, .inl (upd ft 3 0)))]) 0 0 := by
  refine kw_Mi.of (cc := cX11_forget) (maxL := 3) (ret := (some .int)) (by decide) rfl ?_
  intro pZ eZ s mZ beZ meZ cZ A hE
  obtain ⟨hx, hb, hr, hml, hts, hown, hlocks, hin, hA, hP, hD, hK, hN⟩ := hE
  have hS : va_S A s.heap s.heap [] := va_S.rf
  have hl := lv_entry ([.ref mo, .int (nI 1)]) (n := 3) (Nat.le_of_ble_eq_true rfl)
  rw [lg_entry_eq]
  generalize (lg_sl ([.ref mo, .int (nI 1)]) ++ List.replicate (3 - (lg_sl ([.ref mo, .int (nI 1)])).length) Slot.unset).toArray = ls at hl ⊢
  have hl : lv_has ls 3 [(0, .ref mo), (1, .int (nI 1))] := hl
  have fw1 := hts (.fieldLink RX11 7 "GleanDuskModel" "told" "[I") (List.mem_of_getElem? (i := 1) rfl)
  have iw11 : ∀ w ∈ wsX110, w ∈ wsX11_forget := fun _ h => List.mem_cons_of_mem _ (List.mem_append_right _ h)
  refine lv_iload_n hx hb dX11_forget_0 rfl (lv_at hl 1 rfl) ?_
  refine lv_i2l (v := (nI 1).toInt64) hx hb dX11_forget_1 (rfl) ?_
  refine lv_lconst (v := 0) hx hb dX11_forget_2 (by decide) ?_
  refine lv_lconst (v := 1) hx hb dX11_forget_3 (by decide) ?_
  have hs1 : kw_Split [(mo, .inr (11, [.ref to, .ref ke, .ref ik, .ref mrf, .long mab, .long mbl, .ref ha, .ref r0, .ref mbr, .ref mbp, .ref mby, .int (nI bl), .int (nI ta), .int (nI tl), .int (nI tk), .int vv, .ref an, .ref va])), (mrf, .inl (y 0, 3, .inl frf)), (to, .inl (y 0, 228, .inl ft))] [] [(mo, .inr (11, [.ref to, .ref ke, .ref ik, .ref mrf, .long mab, .long mbl, .ref ha, .ref r0, .ref mbr, .ref mbp, .ref mby, .int (nI bl), .int (nI ta), .int (nI tl), .int (nI tk), .int vv, .ref an, .ref va])), (mrf, .inl (y 0, 3, .inl frf)), (to, .inl (y 0, 228, .inl ft))] [] [0, 1, 2] := ⟨rfl, rfl, rfl, rfl, rfl, by decide⟩
  refine kw_go_i hs1 hP hD hS hA (va_runS (As := [.long ((nI 1).toInt64), .long 0, .long 1]) (rest := []) ⟨hx, hb, hml, hown, hts⟩ (gr_in l D y (nI 1) 0 1 (by omega) (by omega) _) (va_cwS 3 hts gX11_forget_X11_in rfl rfl rfl (by decide +kernel) ⟨Nat.le_of_ble_eq_true rfl, Nat.le_of_ble_eq_true rfl⟩) (kw_PreS hs1 hP hD hK hN) rfl rfl hl.1 rfl (lv_room (Nat.le_of_ble_eq_true rfl)) dX11_forget_4 ⟨Nat.le_of_ble_eq_true rfl, Nat.le_of_ble_eq_true rfl⟩) (fun r2 u3 H locs hq hP hD hS => ?_)
  rcases hq with ⟨j4, h5, h6, h7, rfl⟩ | ⟨h8, rfl⟩
  · skip
    have h7 : 1 = j4 := (nI_eq (a := 1) (b := j4) (by omega) (by omega)).mp h7
    have hP : va_P D vwCl [(mo, .inr (11, [.ref to, .ref ke, .ref ik, .ref mrf, .long mab, .long mbl, .ref ha, .ref r0, .ref mbr, .ref mbp, .ref mby, .int (nI bl), .int (nI ta), .int (nI tl), .int (nI tk), .int vv, .ref an, .ref va])), (mrf, .inl (y 0, 3, .inl frf)), (to, .inl (y 0, 228, .inl ft))] H := hP
    have hD : va_D A [(mo, .inr (11, [.ref to, .ref ke, .ref ik, .ref mrf, .long mab, .long mbl, .ref ha, .ref r0, .ref mbr, .ref mbp, .ref mby, .int (nI bl), .int (nI ta), .int (nI tl), .int (nI tk), .int vv, .ref an, .ref va])), (mrf, .inl (y 0, 3, .inl frf)), (to, .inl (y 0, 228, .inl ft))] := hD
    refine lv_if_ne (tgt := 17) hx hb dX11_forget_7 (by decide) (fun _ => ?_) (fun h9 => absurd h9 (by decide))
    refine lv_aload_n hx hb dX11_forget_17 rfl (lv_at hl 0 rfl) ?_
    refine va_get (D := D) (ci := 11) (v := .ref to) (C := RX11) (T := TX11) (N := 18) hx hb hts iw11 hown hK hP 0 rfl rfl 0 (by decide) fw1 (fun _ h9 => h9) rfl dX11_forget_18 ?_
    refine lv_iconst (v := 2) hx hb dX11_forget_21 (by decide) ?_
    refine lv_iload_n hx hb dX11_forget_22 rfl (lv_at hl 1 rfl) ?_
    refine lv_iadd hx hb dX11_forget_23 ?_
    rw [show 2 + (nI 1) = nI (3) from nI_add 2 1]
    refine va_iald hx hb hK hP 2 0 rfl rfl (vp_in_nI (by omega) (by decide)) dX11_forget_24 ?_
    rw [nI_clamp (n := 3) (by omega)]
    rw [show (ft 3) = (nI no) from hk3_]
    refine lv_istore_n (lv' := [(2, .int (nI no)), (0, .ref mo), (1, .int (nI 1))]) hx hb dX11_forget_25 rfl hl (by decide) rfl (fun ls hl => ?_)
    refine lv_aload_n hx hb dX11_forget_26 rfl (lv_at hl 1 rfl) ?_
    refine va_get (D := D) (ci := 11) (v := .ref to) (C := RX11) (T := TX11) (N := 18) hx hb hts iw11 hown hK hP 0 rfl rfl 0 (by decide) fw1 (fun _ h9 => h9) rfl dX11_forget_27 ?_
    refine lv_iconst (v := 2) hx hb dX11_forget_30 (by decide) ?_
    refine lv_iload_n hx hb dX11_forget_31 rfl (lv_at hl 2 rfl) ?_
    refine lv_iadd hx hb dX11_forget_32 ?_
    rw [show 2 + (nI 1) = nI (3) from nI_add 2 1]
    refine lv_iconst (v := 0) hx hb dX11_forget_33 (by decide) ?_
    refine va_iast hx hb hK hP hD hS 2 0 rfl rfl (vp_in_nI (by omega) (by decide)) dX11_forget_34 (fun H locs hP hD hS => ?_)
    rw [nI_clamp (n := 3) (by omega)] at hP hD
    have hr9 : kr_t 228 (upd ft 3 0) := kr_up hkt (kr_ok0)
    have hk10 : (upd ft 3 0) 0 = (nI fi) := (pk_un (by decide)).trans hk0_
    have hk11 : (upd ft 3 0) 1 = (nI gl) := (pk_un (by decide)).trans hk1_
    have hk12 : (upd ft 3 0) 2 = (nI mi) := (pk_un (by decide)).trans hk2_
    have hk13 : (upd ft 3 0) 4 = (nI un) := (pk_un (by decide)).trans hk4_
    have hk14 : (upd ft 3 0) 3 = 0 := pk_us
    have hP : va_P D vwCl [(mo, .inr (11, [.ref to, .ref ke, .ref ik, .ref mrf, .long mab, .long mbl, .ref ha, .ref r0, .ref mbr, .ref mbp, .ref mby, .int (nI bl), .int (nI ta), .int (nI tl), .int (nI tk), .int vv, .ref an, .ref va])), (mrf, .inl (y 0, 3, .inl frf)), (to, .inl (y 0, 228, .inl (upd ft 3 0)))] H := hP
    have hD : va_D A [(mo, .inr (11, [.ref to, .ref ke, .ref ik, .ref mrf, .long mab, .long mbl, .ref ha, .ref r0, .ref mbr, .ref mbp, .ref mby, .int (nI bl), .int (nI ta), .int (nI tl), .int (nI tk), .int vv, .ref an, .ref va])), (mrf, .inl (y 0, 3, .inl frf)), (to, .inl (y 0, 228, .inl (upd ft 3 0)))] := hD
    refine lv_iload_n hx hb dX11_forget_35 rfl (lv_at hl 0 rfl) ?_
    exact W.iret (v := (nI no)) hx hb hr (fun tZ ht hW => ⟨⟨(nI no), (), rfl, ⟨hr9, hk10, hk11, hk12, hk14, hk13, by first | omega | (dsimp only; omega), rfl⟩, by rw [ht]; exact hP.sub [0, 1, 2] rfl, hD.sub [0, 1, 2] (by decide) rfl⟩, hS.F ht⟩) hS.2.2 dX11_forget_36
  · skip
    exact absurd ⟨1, by omega, by omega, rfl⟩ h8

set_option maxHeartbeats 4000000 in
set_option maxRecDepth 100000 in
theorem gs_append (l : Launch) (D : va_G) (y : Nat → ClassId) (tx : Nat) (bys : Nat) (wo : Nat) (fs : Nat) (sc : Nat) (ln : Nat) (sta : Nat) (en : Nat) (tok : Int32) (num : Int32) (tfi : Int32) (tgl : Int32) (tst : Int32) (fby : Nat → Int32) (k : Nat) (hln : ln ≤ 150) (hlt : ln < 150) (hA1 : k < 128) : kw_Mi l yX7_append wsX7_append ({ frames := 1, cells := 0, slots := 0, locals := 60 }) D y [.ref tx, .int (nI k)] [(tx, .inr (7, [.ref bys, .int (nI ln), .int tok, .int (nI sta), .int (nI en), .int num, .ref wo, .ref fs, .ref sc, .int tfi, .int tgl, .int tst])), (bys, .inl (y 1, 150, .inl fby))] (fun (r : Int32) (u : Unit) => r = (nI (ln + 1))) (fun _ => [(tx, .inr (7, [.ref bys, .int (nI (ln + 1)), .int tok, .int (nI sta), .int (nI en), .int num, .ref wo, .ref fs, .ref sc, .int tfi, .int tgl, .int tst])), (bys, .inl (y 1, 150, .inl (upd fby ln (nI k))))]) 0 0 := by
  refine kw_Mi.of (cc := cX7_append) (maxL := 2) (ret := (some .int)) (by decide) rfl ?_
  intro pZ eZ s mZ beZ meZ cZ A hE
  obtain ⟨hx, hb, hr, hml, hts, hown, hlocks, hin, hA, hP, hD, hK, hN⟩ := hE
  have hS : va_S A s.heap s.heap [] := va_S.rf
  have hl := lv_entry ([.ref tx, .int (nI k)]) (n := 2) (Nat.le_of_ble_eq_true rfl)
  rw [lg_entry_eq]
  generalize (lg_sl ([.ref tx, .int (nI k)]) ++ List.replicate (2 - (lg_sl ([.ref tx, .int (nI k)])).length) Slot.unset).toArray = ls at hl ⊢
  have hl : lv_has ls 2 [(0, .ref tx), (1, .int (nI k))] := hl
  have fw1 := hts (.fieldLink RX7 9 "GleanDusk$Text" "bytes" "[B") (List.mem_of_getElem? (i := 1) rfl)
  have fw2 := hts (.fieldLink RX7 25 "GleanDusk$Text" "length" "I") (List.mem_of_getElem? (i := 2) rfl)
  have iw7 : ∀ w ∈ wsX70, w ∈ wsX7_append := fun _ h => List.mem_cons_of_mem _ (List.mem_append_right _ h)
  refine lv_aload_n hx hb dX7_append_0 rfl (lv_at hl 0 rfl) ?_
  refine va_get (D := D) (ci := 7) (v := .ref bys) (C := RX7) (T := TX7) (N := 12) hx hb hts iw7 hown hK hP 0 rfl rfl 0 (by decide) fw1 (fun _ h9 => h9) rfl dX7_append_1 ?_
  refine lv_aload_n hx hb dX7_append_4 rfl (lv_at hl 0 rfl) ?_
  refine va_get (D := D) (ci := 7) (v := .int (nI ln)) (C := RX7) (T := TX7) (N := 12) hx hb hts iw7 hown hK hP 0 rfl rfl 1 (by decide) fw2 (fun _ h9 => h9) rfl dX7_append_5 ?_
  refine lv_iload_n hx hb dX7_append_8 rfl (lv_at hl 1 rfl) ?_
  refine lv_i2b (v := (nI k).toInt8.toInt32) hx hb dX7_append_9 (rfl) ?_
  refine va_bast hx hb hK hP hD hS 1 1 rfl rfl (vp_in_nI (by omega) (by decide)) dX7_append_10 (fun H locs hP hD hS => ?_)
  rw [nI_clamp (n := ln) (by omega)] at hP hD
  have hP : va_P D vwCl [(tx, .inr (7, [.ref bys, .int (nI ln), .int tok, .int (nI sta), .int (nI en), .int num, .ref wo, .ref fs, .ref sc, .int tfi, .int tgl, .int tst])), (bys, .inl (y 1, 150, .inl (upd fby ln (vp_nar .byte ((nI k).toInt8.toInt32)))))] H := hP
  have hD : va_D A [(tx, .inr (7, [.ref bys, .int (nI ln), .int tok, .int (nI sta), .int (nI en), .int num, .ref wo, .ref fs, .ref sc, .int tfi, .int tgl, .int tst])), (bys, .inl (y 1, 150, .inl (upd fby ln (vp_nar .byte ((nI k).toInt8.toInt32)))))] := hD
  rw [ks_nar hA1] at hP hD
  have hP : va_P D vwCl [(tx, .inr (7, [.ref bys, .int (nI ln), .int tok, .int (nI sta), .int (nI en), .int num, .ref wo, .ref fs, .ref sc, .int tfi, .int tgl, .int tst])), (bys, .inl (y 1, 150, .inl (upd fby ln (nI k))))] H := hP
  have hD : va_D A [(tx, .inr (7, [.ref bys, .int (nI ln), .int tok, .int (nI sta), .int (nI en), .int num, .ref wo, .ref fs, .ref sc, .int tfi, .int tgl, .int tst])), (bys, .inl (y 1, 150, .inl (upd fby ln (nI k))))] := hD
  refine lv_aload_n hx hb dX7_append_11 rfl (lv_at hl 0 rfl) ?_
  refine lv_dup hx hb dX7_append_12 rfl ?_
  refine va_get (D := D) (ci := 7) (v := .int (nI ln)) (C := RX7) (T := TX7) (N := 12) hx hb hts iw7 hown hK hP 0 rfl rfl 1 (by decide) fw2 (fun _ h9 => h9) rfl dX7_append_13 ?_
  refine lv_iconst (v := 1) hx hb dX7_append_16 (by decide) ?_
  refine lv_iadd hx hb dX7_append_17 ?_
  rw [show (nI ln) + 1 = nI (ln + 1) from nI_add ln 1]
  refine lv_dup_x1 hx hb dX7_append_18 rfl rfl ?_
  refine va_put (D := D) (ci := 7) (v := .int (nI (ln + 1))) (ty := .int) (C := RX7) (T := TX7) (N := 12) hx hb hts iw7 tyX7 tyX7_ok nmX7 hown hK hP hD hS 0 rfl rfl 1 (by decide) fw2 (fun _ h9 => h9) rfl (by decide +kernel) rfl rfl (Nat.le_of_ble_eq_true rfl) dX7_append_19 (fun H locs hP hD hS => ?_)
  have hP : va_P D vwCl [(tx, .inr (7, [.ref bys, .int (nI (ln + 1)), .int tok, .int (nI sta), .int (nI en), .int num, .ref wo, .ref fs, .ref sc, .int tfi, .int tgl, .int tst])), (bys, .inl (y 1, 150, .inl (upd fby ln (nI k))))] H := hP
  have hD : va_D A [(tx, .inr (7, [.ref bys, .int (nI (ln + 1)), .int tok, .int (nI sta), .int (nI en), .int num, .ref wo, .ref fs, .ref sc, .int tfi, .int tgl, .int tst])), (bys, .inl (y 1, 150, .inl (upd fby ln (nI k))))] := hD
  exact W.iret (v := (nI (ln + 1))) hx hb hr (fun tZ ht hW => ⟨⟨(nI (ln + 1)), (), rfl, rfl, by rw [ht]; exact hP.sub [0, 1] rfl, hD.sub [0, 1] (by decide) rfl⟩, hS.F ht⟩) hS.2.2 dX7_append_22

set_option maxHeartbeats 4000000 in
set_option maxRecDepth 100000 in
theorem gs_type_ok (l : Launch) (D : va_G) (y : Nat → ClassId) (g : Nat) (kk : Nat) (nw : Nat) (im : Nat) (kp : Nat) (tx : Nat) (tr : Nat) (be : Nat) (sh : Nat) (sd : Nat) (rf : Nat) (ab : Int32) (bl : Int32) (frf : Nat → Int32) (bys : Nat) (wo : Nat) (fs : Nat) (sc : Nat) (ln : Nat) (sta : Nat) (en : Nat) (tok : Int32) (num : Int32) (tfi : Int32) (tgl : Int32) (tst : Int32) (fby : Nat → Int32) (k : Nat) (hln : ln ≤ 150) (hTs : sta ≤ 150) (hTe : en ≤ 150) (hA1 : k < 128) (hA2 : ln < 150) : kw_Mi l yX10_type wsX10_type ({ frames := 2, cells := 0, slots := 0, locals := 81 }) D y [.ref g, .int (nI k)] [(g, .inr (10, [.ref kk, .ref nw, .ref im, .ref kp, .ref tx, .ref tr, .ref be, .ref sh, .ref sd, .ref rf, .int ab, .int bl])), (rf, .inl (y 0, 3, .inl frf)), (tx, .inr (7, [.ref bys, .int (nI ln), .int tok, .int (nI sta), .int (nI en), .int num, .ref wo, .ref fs, .ref sc, .int tfi, .int tgl, .int tst])), (bys, .inl (y 1, 150, .inl fby))] (fun (r : Int32) (u : Unit) => r = (nI (ln + 1))) (fun _ => [(g, .inr (10, [.ref kk, .ref nw, .ref im, .ref kp, .ref tx, .ref tr, .ref be, .ref sh, .ref sd, .ref rf, .int ab, .int bl])), (rf, .inl (y 0, 3, .inl frf)), (tx, .inr (7, [.ref bys, .int (nI (ln + 1)), .int tok, .int (nI sta), .int (nI en), .int num, .ref wo, .ref fs, .ref sc, .int tfi, .int tgl, .int tst])), (bys, .inl (y 1, 150, .inl (upd fby ln (nI k))))]) 0 0 := by
  refine kw_Mi.of (cc := cX10_type) (maxL := 2) (ret := (some .int)) (by decide) rfl ?_
  intro pZ eZ s mZ beZ meZ cZ A hE
  obtain ⟨hx, hb, hr, hml, hts, hown, hlocks, hin, hA, hP, hD, hK, hN⟩ := hE
  have hS : va_S A s.heap s.heap [] := va_S.rf
  have hl := lv_entry ([.ref g, .int (nI k)]) (n := 2) (Nat.le_of_ble_eq_true rfl)
  rw [lg_entry_eq]
  generalize (lg_sl ([.ref g, .int (nI k)]) ++ List.replicate (2 - (lg_sl ([.ref g, .int (nI k)])).length) Slot.unset).toArray = ls at hl ⊢
  have hl : lv_has ls 2 [(0, .ref g), (1, .int (nI k))] := hl
  have fw1 := hts (.fieldLink RX10 51 "GleanDusk" "text" "LGleanDusk$Text;") (List.mem_of_getElem? (i := 1) rfl)
  have fw2 := hts (.fieldLink RX10 122 "GleanDusk$Text" "length" "I") (List.mem_of_getElem? (i := 2) rfl)
  have iw10 : ∀ w ∈ wsX100, w ∈ wsX10_type := fun _ h => List.mem_cons_of_mem _ (List.mem_append_left _ (List.mem_append_right _ h))
  have iw7 : ∀ w ∈ wsX70, w ∈ wsX10_type := fun _ h => List.mem_cons_of_mem _ (List.mem_append_right _ h)
  refine lv_iload_n hx hb dX10_type_0 rfl (lv_at hl 1 rfl) ?_
  refine lv_sipush (v := 128) hx hb dX10_type_1 (by decide) ?_
  have hs1 : kw_Split [(g, .inr (10, [.ref kk, .ref nw, .ref im, .ref kp, .ref tx, .ref tr, .ref be, .ref sh, .ref sd, .ref rf, .int ab, .int bl])), (rf, .inl (y 0, 3, .inl frf)), (tx, .inr (7, [.ref bys, .int (nI ln), .int tok, .int (nI sta), .int (nI en), .int num, .ref wo, .ref fs, .ref sc, .int tfi, .int tgl, .int tst])), (bys, .inl (y 1, 150, .inl fby))] [] [(g, .inr (10, [.ref kk, .ref nw, .ref im, .ref kp, .ref tx, .ref tr, .ref be, .ref sh, .ref sd, .ref rf, .int ab, .int bl])), (rf, .inl (y 0, 3, .inl frf)), (tx, .inr (7, [.ref bys, .int (nI ln), .int tok, .int (nI sta), .int (nI en), .int num, .ref wo, .ref fs, .ref sc, .int tfi, .int tgl, .int tst])), (bys, .inl (y 1, 150, .inl fby))] [] [0, 1, 2, 3] := ⟨rfl, rfl, rfl, rfl, rfl, by decide⟩
  refine kw_go_i hs1 hP hD hS hA (va_runS (As := [.int (nI k), .int 128]) (rest := []) ⟨hx, hb, hml, hown, hts⟩ (gc_isBelow l D y (nI k) 128 (by omega) _) (va_cwS 2 hts gX10_type_X10_isBelow rfl rfl rfl (by decide +kernel) ⟨Nat.le_of_ble_eq_true rfl, Nat.le_of_ble_eq_true rfl⟩) (kw_PreS hs1 hP hD hK hN) rfl rfl hl.1 rfl (lv_room (Nat.le_of_ble_eq_true rfl)) dX10_type_4 ⟨Nat.le_of_ble_eq_true rfl, Nat.le_of_ble_eq_true rfl⟩) (fun r2 u3 H locs hq hP hD hS => ?_)
  rcases hq with ⟨j4, h5, h6, rfl⟩ | ⟨h7, rfl⟩
  · skip
    have h6 : k = j4 := (nI_eq (a := k) (b := j4) (by omega) (by omega)).mp h6
    have hP : va_P D vwCl [(g, .inr (10, [.ref kk, .ref nw, .ref im, .ref kp, .ref tx, .ref tr, .ref be, .ref sh, .ref sd, .ref rf, .int ab, .int bl])), (rf, .inl (y 0, 3, .inl frf)), (tx, .inr (7, [.ref bys, .int (nI ln), .int tok, .int (nI sta), .int (nI en), .int num, .ref wo, .ref fs, .ref sc, .int tfi, .int tgl, .int tst])), (bys, .inl (y 1, 150, .inl fby))] H := hP
    have hD : va_D A [(g, .inr (10, [.ref kk, .ref nw, .ref im, .ref kp, .ref tx, .ref tr, .ref be, .ref sh, .ref sd, .ref rf, .int ab, .int bl])), (rf, .inl (y 0, 3, .inl frf)), (tx, .inr (7, [.ref bys, .int (nI ln), .int tok, .int (nI sta), .int (nI en), .int num, .ref wo, .ref fs, .ref sc, .int tfi, .int tgl, .int tst])), (bys, .inl (y 1, 150, .inl fby))] := hD
    refine lv_if_ne (tgt := 15) hx hb dX10_type_7 (by decide) (fun _ => ?_) (fun h9 => absurd h9 (by decide))
    refine lv_aload_n hx hb dX10_type_15 rfl (lv_at hl 0 rfl) ?_
    refine va_get (D := D) (ci := 10) (v := .ref tx) (C := RX10) (T := TX10) (N := 12) hx hb hts iw10 hown hK hP 0 rfl rfl 4 (by decide) fw1 (fun _ h9 => h9) rfl dX10_type_16 ?_
    refine va_get (D := D) (ci := 7) (v := .int (nI ln)) (C := RX7) (T := TX7) (N := 12) hx hb hts iw7 hown hK hP 2 rfl rfl 1 (by decide) fw2 (fun _ h9 => h9) rfl dX10_type_19 ?_
    refine lv_sipush (v := 150) hx hb dX10_type_22 (by decide) ?_
    refine lv_icmp_lt (tgt := 33) hx hb dX10_type_25 (by decide) (fun h8 => ?_) (fun h9 => ?_)
    · skip
      have h8 : ln < 150 := (nI_ltI (a := ln) (b := 150) (by omega) (by omega)).mp h8
      refine lv_aload_n hx hb dX10_type_33 rfl (lv_at hl 0 rfl) ?_
      refine va_get (D := D) (ci := 10) (v := .ref tx) (C := RX10) (T := TX10) (N := 12) hx hb hts iw10 hown hK hP 0 rfl rfl 4 (by decide) fw1 (fun _ h9 => h9) rfl dX10_type_34 ?_
      refine lv_iload_n hx hb dX10_type_37 rfl (lv_at hl 1 rfl) ?_
      have hs10 : kw_Split [(g, .inr (10, [.ref kk, .ref nw, .ref im, .ref kp, .ref tx, .ref tr, .ref be, .ref sh, .ref sd, .ref rf, .int ab, .int bl])), (rf, .inl (y 0, 3, .inl frf)), (tx, .inr (7, [.ref bys, .int (nI ln), .int tok, .int (nI sta), .int (nI en), .int num, .ref wo, .ref fs, .ref sc, .int tfi, .int tgl, .int tst])), (bys, .inl (y 1, 150, .inl fby))] [(tx, .inr (7, [.ref bys, .int (nI ln), .int tok, .int (nI sta), .int (nI en), .int num, .ref wo, .ref fs, .ref sc, .int tfi, .int tgl, .int tst])), (bys, .inl (y 1, 150, .inl fby))] [(g, .inr (10, [.ref kk, .ref nw, .ref im, .ref kp, .ref tx, .ref tr, .ref be, .ref sh, .ref sd, .ref rf, .int ab, .int bl])), (rf, .inl (y 0, 3, .inl frf))] [2, 3] [0, 1] := ⟨rfl, rfl, rfl, rfl, rfl, by decide⟩
      refine kw_go_i hs10 hP hD hS hA (va_runV (As := [.int (nI k)]) (rest := []) ⟨hx, hb, hml, hown, hts⟩ (gs_append l D y tx bys wo fs sc ln sta en tok num tfi tgl tst fby k hln hA2 hA1 _) (cwV 1 hts gX10_type_X7_append rfl rfl rfl (by decide +kernel) ⟨Nat.le_of_ble_eq_true rfl, Nat.le_of_ble_eq_true rfl⟩) (kw_PreV (ci := 7) (q0 := 2) hs10 hP hD hK hN rfl rfl) rfl rfl hl.1 rfl (lv_room (Nat.le_of_ble_eq_true rfl)) dX10_type_38 ⟨Nat.le_of_ble_eq_true rfl, Nat.le_of_ble_eq_true rfl⟩) (fun r11 u12 H locs hq hP hD hS => ?_)
      obtain rfl := hq
      have hP : va_P D vwCl [(g, .inr (10, [.ref kk, .ref nw, .ref im, .ref kp, .ref tx, .ref tr, .ref be, .ref sh, .ref sd, .ref rf, .int ab, .int bl])), (rf, .inl (y 0, 3, .inl frf)), (tx, .inr (7, [.ref bys, .int (nI (ln + 1)), .int tok, .int (nI sta), .int (nI en), .int num, .ref wo, .ref fs, .ref sc, .int tfi, .int tgl, .int tst])), (bys, .inl (y 1, 150, .inl (upd fby ln (nI k))))] H := hP
      have hD : va_D A [(g, .inr (10, [.ref kk, .ref nw, .ref im, .ref kp, .ref tx, .ref tr, .ref be, .ref sh, .ref sd, .ref rf, .int ab, .int bl])), (rf, .inl (y 0, 3, .inl frf)), (tx, .inr (7, [.ref bys, .int (nI (ln + 1)), .int tok, .int (nI sta), .int (nI en), .int num, .ref wo, .ref fs, .ref sc, .int tfi, .int tgl, .int tst])), (bys, .inl (y 1, 150, .inl (upd fby ln (nI k))))] := hD
      exact W.iret (v := (nI (ln + 1))) hx hb hr (fun tZ ht hW => ⟨⟨(nI (ln + 1)), (), rfl, rfl, by rw [ht]; exact hP.sub [0, 1, 2, 3] rfl, hD.sub [0, 1, 2, 3] (by decide) rfl⟩, hS.F ht⟩) hS.2.2 dX10_type_41
    · skip
      have h9 : ¬ ln < 150 := fun q9 => h9 ((nI_ltI (a := ln) (b := 150) (by omega) (by omega)).mpr q9)
      exact absurd h9 (by omega)
  · skip
    exact absurd ⟨k, by omega, rfl⟩ h7

set_option maxHeartbeats 4000000 in
set_option maxRecDepth 100000 in
theorem gs_image0 (l : Launch) (D : va_G) (y : Nat → ClassId) (mo : Nat) (to : Nat) (ke : Nat) (ik : Nat) (mrf : Nat) (ha : Nat) (r0 : Nat) (mbr : Nat) (mbp : Nat) (mby : Nat) (an : Nat) (va : Nat) (mab : Int64) (mbl : Int64) (bl : Nat) (ta : Nat) (tl : Nat) (tk : Nat) (vv : Int32) (frf : Nat → Int32) (ft : Nat → Int32) (fi : Nat) (gl : Nat) (mi : Nat) (no : Nat) (un : Nat) (fke : Nat → Int32) (fik : Nat → Int32) (o1 : Nat) (o2 : Nat) (o3 : Nat) (o4 : Nat) (hk0_ : ft 0 = (nI fi)) (hk1_ : ft 1 = (nI gl)) (hk2_ : ft 2 = (nI mi)) (hk3_ : ft 3 = (nI no)) (hk4_ : ft 4 = (nI un)) (hkt : kr_t 228 ft) (hfi : fi ≤ 6) (hgl : gl ≤ 5) (hmi : mi ≤ 4) (hno : no ≤ 6) (hun : un ≤ 8) (hgf : (gl = 0 ∨ 0 < fi)) (hKo : kr_KK (fun p => fke (p + 228)) o1 o2 o3 o4) : kw_Mi l yX11_image wsX11_image ({ frames := 2, cells := 0, slots := 0, locals := 85 }) D y [.ref mo, .int (nI 0)] [(mo, .inr (11, [.ref to, .ref ke, .ref ik, .ref mrf, .long mab, .long mbl, .ref ha, .ref r0, .ref mbr, .ref mbp, .ref mby, .int (nI bl), .int (nI ta), .int (nI tl), .int (nI tk), .int vv, .ref an, .ref va])), (mrf, .inl (y 0, 3, .inl frf)), (to, .inl (y 0, 228, .inl ft)), (ke, .inl (y 0, 456, .inl fke)), (ik, .inl (y 2, 2, .inl fik))] (fun (r : Int32) (u : Unit) => kr_KK (kr_cp fke ft 228) fi gl mi no ∧ kr_KK (fun p => (kr_cp fke ft 228) (p + 228)) o1 o2 o3 o4 ∧ r = 1) (fun _ => [(mo, .inr (11, [.ref to, .ref ke, .ref ik, .ref mrf, .long mab, .long mbl, .ref ha, .ref r0, .ref mbr, .ref mbp, .ref mby, .int (nI bl), .int (nI ta), .int (nI tl), .int (nI tk), .int vv, .ref an, .ref va])), (mrf, .inl (y 0, 3, .inl frf)), (to, .inl (y 0, 228, .inl ft)), (ke, .inl (y 0, 456, .inl (kr_cp fke ft 228))), (ik, .inl (y 2, 2, .inl (upd fik 0 (vp_nar .boolean 1))))]) 0 0 := by
  refine kw_Mi.of (cc := cX11_image) (maxL := 3) (ret := (some .int)) (by decide) rfl ?_
  intro pZ eZ s mZ beZ meZ cZ A hE
  obtain ⟨hx, hb, hr, hml, hts, hown, hlocks, hin, hA, hP, hD, hK, hN⟩ := hE
  have hS : va_S A s.heap s.heap [] := va_S.rf
  have hl := lv_entry ([.ref mo, .int (nI 0)]) (n := 3) (Nat.le_of_ble_eq_true rfl)
  rw [lg_entry_eq]
  generalize (lg_sl ([.ref mo, .int (nI 0)]) ++ List.replicate (3 - (lg_sl ([.ref mo, .int (nI 0)])).length) Slot.unset).toArray = ls at hl ⊢
  have hl : lv_has ls 3 [(0, .ref mo), (1, .int (nI 0))] := hl
  have fw1 := hts (.fieldLink RX11 16 "GleanDuskModel" "isKept" "[Z") (List.mem_of_getElem? (i := 3) rfl)
  have fw2 := hts (.fieldLink RX11 13 "GleanDuskModel" "kept" "[I") (List.mem_of_getElem? (i := 1) rfl)
  have fw3 := hts (.fieldLink RX11 7 "GleanDuskModel" "told" "[I") (List.mem_of_getElem? (i := 2) rfl)
  have iw11 : ∀ w ∈ wsX110, w ∈ wsX11_image := fun _ h => List.mem_cons_of_mem _ (List.mem_append_right _ h)
  refine lv_iload_n hx hb dX11_image_0 rfl (lv_at hl 1 rfl) ?_
  refine lv_i2l (v := (nI 0).toInt64) hx hb dX11_image_1 (rfl) ?_
  refine lv_lconst (v := 0) hx hb dX11_image_2 (by decide) ?_
  refine lv_lconst (v := 1) hx hb dX11_image_3 (by decide) ?_
  have hs1 : kw_Split [(mo, .inr (11, [.ref to, .ref ke, .ref ik, .ref mrf, .long mab, .long mbl, .ref ha, .ref r0, .ref mbr, .ref mbp, .ref mby, .int (nI bl), .int (nI ta), .int (nI tl), .int (nI tk), .int vv, .ref an, .ref va])), (mrf, .inl (y 0, 3, .inl frf)), (to, .inl (y 0, 228, .inl ft)), (ke, .inl (y 0, 456, .inl fke)), (ik, .inl (y 2, 2, .inl fik))] [] [(mo, .inr (11, [.ref to, .ref ke, .ref ik, .ref mrf, .long mab, .long mbl, .ref ha, .ref r0, .ref mbr, .ref mbp, .ref mby, .int (nI bl), .int (nI ta), .int (nI tl), .int (nI tk), .int vv, .ref an, .ref va])), (mrf, .inl (y 0, 3, .inl frf)), (to, .inl (y 0, 228, .inl ft)), (ke, .inl (y 0, 456, .inl fke)), (ik, .inl (y 2, 2, .inl fik))] [] [0, 1, 2, 3, 4] := ⟨rfl, rfl, rfl, rfl, rfl, by decide⟩
  refine kw_go_i hs1 hP hD hS hA (va_runS (As := [.long ((nI 0).toInt64), .long 0, .long 1]) (rest := []) ⟨hx, hb, hml, hown, hts⟩ (gr_in l D y (nI 0) 0 1 (by omega) (by omega) _) (va_cwS 3 hts gX11_image_X11_in rfl rfl rfl (by decide +kernel) ⟨Nat.le_of_ble_eq_true rfl, Nat.le_of_ble_eq_true rfl⟩) (kw_PreS hs1 hP hD hK hN) rfl rfl hl.1 rfl (lv_room (Nat.le_of_ble_eq_true rfl)) dX11_image_4 ⟨Nat.le_of_ble_eq_true rfl, Nat.le_of_ble_eq_true rfl⟩) (fun r2 u3 H locs hq hP hD hS => ?_)
  rcases hq with ⟨j4, h5, h6, h7, rfl⟩ | ⟨h8, rfl⟩
  · skip
    have h7 : 0 = j4 := (nI_eq (a := 0) (b := j4) (by omega) (by omega)).mp h7
    have hP : va_P D vwCl [(mo, .inr (11, [.ref to, .ref ke, .ref ik, .ref mrf, .long mab, .long mbl, .ref ha, .ref r0, .ref mbr, .ref mbp, .ref mby, .int (nI bl), .int (nI ta), .int (nI tl), .int (nI tk), .int vv, .ref an, .ref va])), (mrf, .inl (y 0, 3, .inl frf)), (to, .inl (y 0, 228, .inl ft)), (ke, .inl (y 0, 456, .inl fke)), (ik, .inl (y 2, 2, .inl fik))] H := hP
    have hD : va_D A [(mo, .inr (11, [.ref to, .ref ke, .ref ik, .ref mrf, .long mab, .long mbl, .ref ha, .ref r0, .ref mbr, .ref mbp, .ref mby, .int (nI bl), .int (nI ta), .int (nI tl), .int (nI tk), .int vv, .ref an, .ref va])), (mrf, .inl (y 0, 3, .inl frf)), (to, .inl (y 0, 228, .inl ft)), (ke, .inl (y 0, 456, .inl fke)), (ik, .inl (y 2, 2, .inl fik))] := hD
    refine lv_if_ne (tgt := 17) hx hb dX11_image_7 (by decide) (fun _ => ?_) (fun h9 => absurd h9 (by decide))
    refine lv_iconst (v := 0) hx hb dX11_image_17 (by decide) ?_
    refine lv_istore_n (lv' := [(2, .int 0), (0, .ref mo), (1, .int (nI 0))]) hx hb dX11_image_18 rfl hl (by decide) rfl (fun ls hl => ?_)
    have lp14 : ∀ (fuj91 j91 : Nat) (x11 : Nat → Int32) (H : Heap) (locs : List Loc) (ls : Array Slot), j91 ≤ 228 → 228 - j91 < fuj91 → x11 = kr_cp fke ft j91 → va_P D vwCl [(mo, .inr (11, [.ref to, .ref ke, .ref ik, .ref mrf, .long mab, .long mbl, .ref ha, .ref r0, .ref mbr, .ref mbp, .ref mby, .int (nI bl), .int (nI ta), .int (nI tl), .int (nI tk), .int vv, .ref an, .ref va])), (mrf, .inl (y 0, 3, .inl frf)), (to, .inl (y 0, 228, .inl ft)), (ke, .inl (y 0, 456, .inl x11)), (ik, .inl (y 2, 2, .inl fik))] H → va_D A [(mo, .inr (11, [.ref to, .ref ke, .ref ik, .ref mrf, .long mab, .long mbl, .ref ha, .ref r0, .ref mbr, .ref mbp, .ref mby, .int (nI bl), .int (nI ta), .int (nI tl), .int (nI tk), .int vv, .ref an, .ref va])), (mrf, .inl (y 0, 3, .inl frf)), (to, .inl (y 0, 228, .inl ft)), (ke, .inl (y 0, 456, .inl x11)), (ik, .inl (y 2, 2, .inl fik))] → va_S A s.heap H locs → lv_has ls 3 [(2, .int (nI j91)), (0, .ref mo), (1, .int (nI 0))] → W pZ l eZ ({ frames := 2, cells := 0, slots := 0, locals := 85 }) s mZ [.ref mo, .int (nI 0)].toArray beZ meZ cZ H locs 0 0 (MQ beZ (va_Qi (fun (r : Int32) (u : Unit) => kr_KK (kr_cp fke ft 228) fi gl mi no ∧ kr_KK (fun p => (kr_cp fke ft 228) (p + 228)) o1 o2 o3 o4 ∧ r = 1) (kw_B D (fun _ => [(mo, .inr (11, [.ref to, .ref ke, .ref ik, .ref mrf, .long mab, .long mbl, .ref ha, .ref r0, .ref mbr, .ref mbp, .ref mby, .int (nI bl), .int (nI ta), .int (nI tl), .int (nI tk), .int vv, .ref an, .ref va])), (mrf, .inl (y 0, 3, .inl frf)), (to, .inl (y 0, 228, .inl ft)), (ke, .inl (y 0, 456, .inl (kr_cp fke ft 228))), (ik, .inl (y 2, 2, .inl (upd fik 0 (vp_nar .boolean 1))))]) A) A) [.ref mo, .int (nI 0)].toArray s 0 0 A) (F0 mZ 19 ls []) := by
      intro fuj91
      induction fuj91 with
      | zero => intro j91 x11 H locs ls hj9 hf9; exact absurd hf9 (Nat.not_lt_zero _)
      | succ fuj91 ihj91 =>
        intro j91 x11 H locs ls hj91 hfj91 hI0_j91 hP hD hS hl
        refine lv_iload_n hx hb dX11_image_19 rfl (lv_at hl 0 rfl) ?_
        refine lv_sipush (v := 228) hx hb dX11_image_20 (by decide) ?_
        refine lv_icmp_ge (tgt := 50) hx hb dX11_image_23 (by decide) (fun h15 => ?_) (fun h16 => ?_)
        · skip
          have h15 : 228 ≤ j91 := (nI_leI (a := 228) (b := j91) (by omega) (by omega)).mp h15
          obtain rfl : j91 = 228 := by omega
          subst hI0_j91
          have hP : va_P D vwCl [(mo, .inr (11, [.ref to, .ref ke, .ref ik, .ref mrf, .long mab, .long mbl, .ref ha, .ref r0, .ref mbr, .ref mbp, .ref mby, .int (nI bl), .int (nI ta), .int (nI tl), .int (nI tk), .int vv, .ref an, .ref va])), (mrf, .inl (y 0, 3, .inl frf)), (to, .inl (y 0, 228, .inl ft)), (ke, .inl (y 0, 456, .inl (kr_cp fke ft 228))), (ik, .inl (y 2, 2, .inl fik))] H := hP
          have hD : va_D A [(mo, .inr (11, [.ref to, .ref ke, .ref ik, .ref mrf, .long mab, .long mbl, .ref ha, .ref r0, .ref mbr, .ref mbp, .ref mby, .int (nI bl), .int (nI ta), .int (nI tl), .int (nI tk), .int vv, .ref an, .ref va])), (mrf, .inl (y 0, 3, .inl frf)), (to, .inl (y 0, 228, .inl ft)), (ke, .inl (y 0, 456, .inl (kr_cp fke ft 228))), (ik, .inl (y 2, 2, .inl fik))] := hD
          refine lv_aload_n hx hb dX11_image_50 rfl (lv_at hl 1 rfl) ?_
          refine va_get (D := D) (ci := 11) (v := .ref ik) (C := RX11) (T := TX11) (N := 18) hx hb hts iw11 hown hK hP 0 rfl rfl 2 (by decide) fw1 (fun _ h9 => h9) rfl dX11_image_51 ?_
          refine lv_iload_n hx hb dX11_image_54 rfl (lv_at hl 2 rfl) ?_
          refine lv_iconst (v := 1) hx hb dX11_image_55 (by decide) ?_
          refine va_zast hx hb hK hP hD hS 4 2 rfl rfl (vp_in_nI (by omega) (by decide)) dX11_image_56 (fun H locs hP hD hS => ?_)
          rw [nI_clamp (n := 0) (by omega)] at hP hD
          have hP : va_P D vwCl [(mo, .inr (11, [.ref to, .ref ke, .ref ik, .ref mrf, .long mab, .long mbl, .ref ha, .ref r0, .ref mbr, .ref mbp, .ref mby, .int (nI bl), .int (nI ta), .int (nI tl), .int (nI tk), .int vv, .ref an, .ref va])), (mrf, .inl (y 0, 3, .inl frf)), (to, .inl (y 0, 228, .inl ft)), (ke, .inl (y 0, 456, .inl (kr_cp fke ft 228))), (ik, .inl (y 2, 2, .inl (upd fik 0 (vp_nar .boolean 1))))] H := hP
          have hD : va_D A [(mo, .inr (11, [.ref to, .ref ke, .ref ik, .ref mrf, .long mab, .long mbl, .ref ha, .ref r0, .ref mbr, .ref mbp, .ref mby, .int (nI bl), .int (nI ta), .int (nI tl), .int (nI tk), .int vv, .ref an, .ref va])), (mrf, .inl (y 0, 3, .inl frf)), (to, .inl (y 0, 228, .inl ft)), (ke, .inl (y 0, 456, .inl (kr_cp fke ft 228))), (ik, .inl (y 2, 2, .inl (upd fik 0 (vp_nar .boolean 1))))] := hD
          refine lv_iconst (v := 1) hx hb dX11_image_57 (by decide) ?_
          exact W.iret (v := 1) hx hb hr (fun tZ ht hW => ⟨⟨1, (), rfl, ⟨(show kr_KK (kr_cp fke ft 228) fi gl mi no from (kr_KK.mk hk0_ hk1_ hk2_ hk3_ hk4_ hfi hgl hmi hno hun hgf hkt).congr (fun p hp => kr_cp_lt hp)), (show kr_KK (fun p => kr_cp fke ft 228 (p + 228)) o1 o2 o3 o4 from hKo.congr (fun p hp => kr_cp_ge (g := fke) (f := ft) (Nat.le_add_left 228 p))), rfl⟩, by rw [ht]; exact hP.sub [0, 1, 2, 3, 4] rfl, hD.sub [0, 1, 2, 3, 4] (by decide) rfl⟩, hS.F ht⟩) hS.2.2 dX11_image_58
        · skip
          have h16 : ¬ 228 ≤ j91 := fun q9 => h16 ((nI_leI (a := 228) (b := j91) (by omega) (by omega)).mpr q9)
          refine lv_aload_n hx hb dX11_image_26 rfl (lv_at hl 1 rfl) ?_
          refine va_get (D := D) (ci := 11) (v := .ref ke) (C := RX11) (T := TX11) (N := 18) hx hb hts iw11 hown hK hP 0 rfl rfl 1 (by decide) fw2 (fun _ h9 => h9) rfl dX11_image_27 ?_
          refine lv_sipush (v := 228) hx hb dX11_image_30 (by decide) ?_
          refine lv_iload_n hx hb dX11_image_33 rfl (lv_at hl 2 rfl) ?_
          refine lv_imul hx hb dX11_image_34 ?_
          rw [show 228 * (nI 0) = nI (0) from pk_mul 228 0]
          refine lv_iload_n hx hb dX11_image_35 rfl (lv_at hl 0 rfl) ?_
          refine lv_iadd hx hb dX11_image_36 ?_
          rw [show (nI 0) + (nI j91) = nI (j91) from (nI_add 0 j91).trans (congrArg nI (by omega))]
          refine lv_aload_n hx hb dX11_image_37 rfl (lv_at hl 1 rfl) ?_
          refine va_get (D := D) (ci := 11) (v := .ref to) (C := RX11) (T := TX11) (N := 18) hx hb hts iw11 hown hK hP 0 rfl rfl 0 (by decide) fw3 (fun _ h9 => h9) rfl dX11_image_38 ?_
          refine lv_iload_n hx hb dX11_image_41 rfl (lv_at hl 0 rfl) ?_
          refine va_iald hx hb hK hP 2 0 rfl rfl (vp_in_nI (by omega) (by decide)) dX11_image_42 ?_
          rw [nI_clamp (n := j91) (by omega)]
          refine va_iast hx hb hK hP hD hS 3 0 rfl rfl (vp_in_nI (by omega) (by decide)) dX11_image_43 (fun H locs hP hD hS => ?_)
          rw [nI_clamp (n := j91) (by omega)] at hP hD
          have hP : va_P D vwCl [(mo, .inr (11, [.ref to, .ref ke, .ref ik, .ref mrf, .long mab, .long mbl, .ref ha, .ref r0, .ref mbr, .ref mbp, .ref mby, .int (nI bl), .int (nI ta), .int (nI tl), .int (nI tk), .int vv, .ref an, .ref va])), (mrf, .inl (y 0, 3, .inl frf)), (to, .inl (y 0, 228, .inl ft)), (ke, .inl (y 0, 456, .inl (upd x11 j91 (ft j91)))), (ik, .inl (y 2, 2, .inl fik))] H := hP
          have hD : va_D A [(mo, .inr (11, [.ref to, .ref ke, .ref ik, .ref mrf, .long mab, .long mbl, .ref ha, .ref r0, .ref mbr, .ref mbp, .ref mby, .int (nI bl), .int (nI ta), .int (nI tl), .int (nI tk), .int vv, .ref an, .ref va])), (mrf, .inl (y 0, 3, .inl frf)), (to, .inl (y 0, 228, .inl ft)), (ke, .inl (y 0, 456, .inl (upd x11 j91 (ft j91)))), (ik, .inl (y 2, 2, .inl fik))] := hD
          refine lv_iinc (v := (nI (j91 + 1))) (lv' := [(2, .int (nI (j91 + 1))), (0, .ref mo), (1, .int (nI 0))]) hx hb dX11_image_44 hl (k := 0) rfl (nI_1 j91) (by decide) rfl (fun ls hl => ?_)
          refine lv_goto (tgt := 19) hx hb dX11_image_47 (by decide) ?_
          exact ihj91 (j91 + 1) (upd x11 j91 (ft j91)) H locs ls (by omega) (by omega) (by rw [hI0_j91]; exact kr_cpS) (hP.sub [0, 1, 2, 3, 4] rfl) (hD.sub [0, 1, 2, 3, 4] (by decide) rfl) hS (lv_sub hl [0, 1, 2] rfl)
    exact lp14 (228 + 1) 0 fke _ _ _ (by omega) (by omega) kr_cp0 hP hD hS (lv_sub hl [0, 1, 2] rfl)
  · skip
    exact absurd ⟨0, by omega, by omega, rfl⟩ h8

set_option maxHeartbeats 4000000 in
set_option maxRecDepth 100000 in
theorem gs_from0y (l : Launch) (D : va_G) (y : Nat → ClassId) (mo : Nat) (to : Nat) (ke : Nat) (ik : Nat) (mrf : Nat) (ha : Nat) (r0 : Nat) (mbr : Nat) (mbp : Nat) (mby : Nat) (an : Nat) (va : Nat) (mab : Int64) (mbl : Int64) (bl : Nat) (ta : Nat) (tl : Nat) (tk : Nat) (vv : Int32) (frf : Nat → Int32) (ft : Nat → Int32) (fi : Nat) (gl : Nat) (mi : Nat) (no : Nat) (un : Nat) (fke : Nat → Int32) (fik : Nat → Int32) (o1 : Nat) (o2 : Nat) (o3 : Nat) (o4 : Nat) (hk0_ : ft 0 = (nI fi)) (hk1_ : ft 1 = (nI gl)) (hk2_ : ft 2 = (nI mi)) (hk3_ : ft 3 = (nI no)) (hk4_ : ft 4 = (nI un)) (hkt : kr_t 228 ft) (hfi : fi ≤ 6) (hgl : gl ≤ 5) (hmi : mi ≤ 4) (hno : no ≤ 6) (hun : un ≤ 8) (hgf : (gl = 0 ∨ 0 < fi)) (hKs : kr_KK fke o1 o2 o3 o4) (hfl : ¬ (fik 0) = 0) : kw_Mi l yX11_from wsX11_from ({ frames := 2, cells := 0, slots := 0, locals := 85 }) D y [.ref mo, .int (nI 0)] [(mo, .inr (11, [.ref to, .ref ke, .ref ik, .ref mrf, .long mab, .long mbl, .ref ha, .ref r0, .ref mbr, .ref mbp, .ref mby, .int (nI bl), .int (nI ta), .int (nI tl), .int (nI tk), .int vv, .ref an, .ref va])), (mrf, .inl (y 0, 3, .inl frf)), (to, .inl (y 0, 228, .inl ft)), (ke, .inl (y 0, 456, .inl fke)), (ik, .inl (y 2, 2, .inl fik))] (fun (r : Int32) (u : Nat) => kr_t 228 (kr_cp ft fke 228) ∧ (kr_cp ft fke 228) 0 = (nI o1) ∧ (kr_cp ft fke 228) 1 = (nI o2) ∧ (kr_cp ft fke 228) 2 = (nI o3) ∧ (kr_cp ft fke 228) 3 = (nI o4) ∧ u ≤ 8 ∧ (kr_cp ft fke 228) 4 = (nI u) ∧ (o2 = 0 ∨ 0 < o1) ∧ r = 1) (fun u => [(mo, .inr (11, [.ref to, .ref ke, .ref ik, .ref mrf, .long mab, .long mbl, .ref ha, .ref r0, .ref mbr, .ref mbp, .ref mby, .int (nI bl), .int (nI ta), .int (nI tl), .int (nI tk), .int vv, .ref an, .ref va])), (mrf, .inl (y 0, 3, .inl frf)), (to, .inl (y 0, 228, .inl (kr_cp ft fke 228))), (ke, .inl (y 0, 456, .inl fke)), (ik, .inl (y 2, 2, .inl fik))]) 0 0 := by
  refine kw_Mi.of (cc := cX11_from) (maxL := 3) (ret := (some .int)) (by decide) rfl ?_
  intro pZ eZ s mZ beZ meZ cZ A hE
  obtain ⟨hx, hb, hr, hml, hts, hown, hlocks, hin, hA, hP, hD, hK, hN⟩ := hE
  have hS : va_S A s.heap s.heap [] := va_S.rf
  have hl := lv_entry ([.ref mo, .int (nI 0)]) (n := 3) (Nat.le_of_ble_eq_true rfl)
  rw [lg_entry_eq]
  generalize (lg_sl ([.ref mo, .int (nI 0)]) ++ List.replicate (3 - (lg_sl ([.ref mo, .int (nI 0)])).length) Slot.unset).toArray = ls at hl ⊢
  have hl : lv_has ls 3 [(0, .ref mo), (1, .int (nI 0))] := hl
  have fw1 := hts (.fieldLink RX11 16 "GleanDuskModel" "isKept" "[Z") (List.mem_of_getElem? (i := 1) rfl)
  have fw2 := hts (.fieldLink RX11 7 "GleanDuskModel" "told" "[I") (List.mem_of_getElem? (i := 2) rfl)
  have fw3 := hts (.fieldLink RX11 13 "GleanDuskModel" "kept" "[I") (List.mem_of_getElem? (i := 3) rfl)
  have iw11 : ∀ w ∈ wsX110, w ∈ wsX11_from := fun _ h => List.mem_cons_of_mem _ (List.mem_append_right _ h)
  refine lv_iload_n hx hb dX11_from_0 rfl (lv_at hl 1 rfl) ?_
  refine lv_i2l (v := (nI 0).toInt64) hx hb dX11_from_1 (rfl) ?_
  refine lv_lconst (v := 0) hx hb dX11_from_2 (by decide) ?_
  refine lv_lconst (v := 1) hx hb dX11_from_3 (by decide) ?_
  have hs1 : kw_Split [(mo, .inr (11, [.ref to, .ref ke, .ref ik, .ref mrf, .long mab, .long mbl, .ref ha, .ref r0, .ref mbr, .ref mbp, .ref mby, .int (nI bl), .int (nI ta), .int (nI tl), .int (nI tk), .int vv, .ref an, .ref va])), (mrf, .inl (y 0, 3, .inl frf)), (to, .inl (y 0, 228, .inl ft)), (ke, .inl (y 0, 456, .inl fke)), (ik, .inl (y 2, 2, .inl fik))] [] [(mo, .inr (11, [.ref to, .ref ke, .ref ik, .ref mrf, .long mab, .long mbl, .ref ha, .ref r0, .ref mbr, .ref mbp, .ref mby, .int (nI bl), .int (nI ta), .int (nI tl), .int (nI tk), .int vv, .ref an, .ref va])), (mrf, .inl (y 0, 3, .inl frf)), (to, .inl (y 0, 228, .inl ft)), (ke, .inl (y 0, 456, .inl fke)), (ik, .inl (y 2, 2, .inl fik))] [] [0, 1, 2, 3, 4] := ⟨rfl, rfl, rfl, rfl, rfl, by decide⟩
  refine kw_go_i hs1 hP hD hS hA (va_runS (As := [.long ((nI 0).toInt64), .long 0, .long 1]) (rest := []) ⟨hx, hb, hml, hown, hts⟩ (gr_in l D y (nI 0) 0 1 (by omega) (by omega) _) (va_cwS 3 hts gX11_from_X11_in rfl rfl rfl (by decide +kernel) ⟨Nat.le_of_ble_eq_true rfl, Nat.le_of_ble_eq_true rfl⟩) (kw_PreS hs1 hP hD hK hN) rfl rfl hl.1 rfl (lv_room (Nat.le_of_ble_eq_true rfl)) dX11_from_4 ⟨Nat.le_of_ble_eq_true rfl, Nat.le_of_ble_eq_true rfl⟩) (fun r2 u3 H locs hq hP hD hS => ?_)
  rcases hq with ⟨j4, h5, h6, h7, rfl⟩ | ⟨h8, rfl⟩
  · skip
    have h7 : 0 = j4 := (nI_eq (a := 0) (b := j4) (by omega) (by omega)).mp h7
    have hP : va_P D vwCl [(mo, .inr (11, [.ref to, .ref ke, .ref ik, .ref mrf, .long mab, .long mbl, .ref ha, .ref r0, .ref mbr, .ref mbp, .ref mby, .int (nI bl), .int (nI ta), .int (nI tl), .int (nI tk), .int vv, .ref an, .ref va])), (mrf, .inl (y 0, 3, .inl frf)), (to, .inl (y 0, 228, .inl ft)), (ke, .inl (y 0, 456, .inl fke)), (ik, .inl (y 2, 2, .inl fik))] H := hP
    have hD : va_D A [(mo, .inr (11, [.ref to, .ref ke, .ref ik, .ref mrf, .long mab, .long mbl, .ref ha, .ref r0, .ref mbr, .ref mbp, .ref mby, .int (nI bl), .int (nI ta), .int (nI tl), .int (nI tk), .int vv, .ref an, .ref va])), (mrf, .inl (y 0, 3, .inl frf)), (to, .inl (y 0, 228, .inl ft)), (ke, .inl (y 0, 456, .inl fke)), (ik, .inl (y 2, 2, .inl fik))] := hD
    refine lv_if_ne (tgt := 17) hx hb dX11_from_7 (by decide) (fun _ => ?_) (fun h9 => absurd h9 (by decide))
    refine lv_aload_n hx hb dX11_from_17 rfl (lv_at hl 0 rfl) ?_
    refine va_get (D := D) (ci := 11) (v := .ref ik) (C := RX11) (T := TX11) (N := 18) hx hb hts iw11 hown hK hP 0 rfl rfl 2 (by decide) fw1 (fun _ h9 => h9) rfl dX11_from_18 ?_
    refine lv_iload_n hx hb dX11_from_21 rfl (lv_at hl 1 rfl) ?_
    refine va_zald hx hb hK hP 4 2 rfl rfl (vp_in_nI (by omega) (by decide)) dX11_from_22 ?_
    rw [nI_clamp (n := 0) (by omega)]
    refine lv_if_ne (tgt := 31) hx hb dX11_from_23 (by decide) (fun h9 => ?_) (fun h10 => ?_)
    · skip
      refine lv_iconst (v := 0) hx hb dX11_from_31 (by decide) ?_
      refine lv_istore_n (lv' := [(2, .int 0), (0, .ref mo), (1, .int (nI 0))]) hx hb dX11_from_32 rfl hl (by decide) rfl (fun ls hl => ?_)
      have lp52 : ∀ (fuj91 j91 : Nat) (x31 : Nat → Int32) (H : Heap) (locs : List Loc) (ls : Array Slot), j91 ≤ 228 → 228 - j91 < fuj91 → x31 = kr_cp ft fke j91 → va_P D vwCl [(mo, .inr (11, [.ref to, .ref ke, .ref ik, .ref mrf, .long mab, .long mbl, .ref ha, .ref r0, .ref mbr, .ref mbp, .ref mby, .int (nI bl), .int (nI ta), .int (nI tl), .int (nI tk), .int vv, .ref an, .ref va])), (mrf, .inl (y 0, 3, .inl frf)), (to, .inl (y 0, 228, .inl x31)), (ke, .inl (y 0, 456, .inl fke)), (ik, .inl (y 2, 2, .inl fik))] H → va_D A [(mo, .inr (11, [.ref to, .ref ke, .ref ik, .ref mrf, .long mab, .long mbl, .ref ha, .ref r0, .ref mbr, .ref mbp, .ref mby, .int (nI bl), .int (nI ta), .int (nI tl), .int (nI tk), .int vv, .ref an, .ref va])), (mrf, .inl (y 0, 3, .inl frf)), (to, .inl (y 0, 228, .inl x31)), (ke, .inl (y 0, 456, .inl fke)), (ik, .inl (y 2, 2, .inl fik))] → va_S A s.heap H locs → lv_has ls 3 [(2, .int (nI j91)), (0, .ref mo), (1, .int (nI 0))] → W pZ l eZ ({ frames := 2, cells := 0, slots := 0, locals := 85 }) s mZ [.ref mo, .int (nI 0)].toArray beZ meZ cZ H locs 0 0 (MQ beZ (va_Qi (fun (r : Int32) (u : Nat) => kr_t 228 (kr_cp ft fke 228) ∧ (kr_cp ft fke 228) 0 = (nI o1) ∧ (kr_cp ft fke 228) 1 = (nI o2) ∧ (kr_cp ft fke 228) 2 = (nI o3) ∧ (kr_cp ft fke 228) 3 = (nI o4) ∧ u ≤ 8 ∧ (kr_cp ft fke 228) 4 = (nI u) ∧ (o2 = 0 ∨ 0 < o1) ∧ r = 1) (kw_B D (fun u => [(mo, .inr (11, [.ref to, .ref ke, .ref ik, .ref mrf, .long mab, .long mbl, .ref ha, .ref r0, .ref mbr, .ref mbp, .ref mby, .int (nI bl), .int (nI ta), .int (nI tl), .int (nI tk), .int vv, .ref an, .ref va])), (mrf, .inl (y 0, 3, .inl frf)), (to, .inl (y 0, 228, .inl (kr_cp ft fke 228))), (ke, .inl (y 0, 456, .inl fke)), (ik, .inl (y 2, 2, .inl fik))]) A) A) [.ref mo, .int (nI 0)].toArray s 0 0 A) (F0 mZ 33 ls []) := by
        intro fuj91
        induction fuj91 with
        | zero => intro j91 x31 H locs ls hj9 hf9; exact absurd hf9 (Nat.not_lt_zero _)
        | succ fuj91 ihj91 =>
          intro j91 x31 H locs ls hj91 hfj91 hI0_j91 hP hD hS hl
          refine lv_iload_n hx hb dX11_from_33 rfl (lv_at hl 0 rfl) ?_
          refine lv_sipush (v := 228) hx hb dX11_from_34 (by decide) ?_
          refine lv_icmp_ge (tgt := 64) hx hb dX11_from_37 (by decide) (fun h53 => ?_) (fun h54 => ?_)
          · skip
            have h53 : 228 ≤ j91 := (nI_leI (a := 228) (b := j91) (by omega) (by omega)).mp h53
            obtain rfl : j91 = 228 := by omega
            subst hI0_j91
            have hP : va_P D vwCl [(mo, .inr (11, [.ref to, .ref ke, .ref ik, .ref mrf, .long mab, .long mbl, .ref ha, .ref r0, .ref mbr, .ref mbp, .ref mby, .int (nI bl), .int (nI ta), .int (nI tl), .int (nI tk), .int vv, .ref an, .ref va])), (mrf, .inl (y 0, 3, .inl frf)), (to, .inl (y 0, 228, .inl (kr_cp ft fke 228))), (ke, .inl (y 0, 456, .inl fke)), (ik, .inl (y 2, 2, .inl fik))] H := hP
            have hD : va_D A [(mo, .inr (11, [.ref to, .ref ke, .ref ik, .ref mrf, .long mab, .long mbl, .ref ha, .ref r0, .ref mbr, .ref mbp, .ref mby, .int (nI bl), .int (nI ta), .int (nI tl), .int (nI tk), .int vv, .ref an, .ref va])), (mrf, .inl (y 0, 3, .inl frf)), (to, .inl (y 0, 228, .inl (kr_cp ft fke 228))), (ke, .inl (y 0, 456, .inl fke)), (ik, .inl (y 2, 2, .inl fik))] := hD
            obtain ⟨q9e, h55, h56, h57, h58, h59, h60, h61, h62, h63, h64, h65, h66⟩ := hKs
            have hr67 : kr_t 228 (kr_cp ft fke 228) := kr_cpt h66 hkt (by decide)
            have hk68 : (kr_cp ft fke 228) 0 = (nI o1) := (kr_cp_lt (by decide)).trans h55
            have hk69 : (kr_cp ft fke 228) 1 = (nI o2) := (kr_cp_lt (by decide)).trans h56
            have hk70 : (kr_cp ft fke 228) 2 = (nI o3) := (kr_cp_lt (by decide)).trans h57
            have hk71 : (kr_cp ft fke 228) 3 = (nI o4) := (kr_cp_lt (by decide)).trans h58
            have hk72 : (kr_cp ft fke 228) 4 = (nI q9e) := (kr_cp_lt (by decide)).trans h59
            refine lv_iconst (v := 1) hx hb dX11_from_64 (by decide) ?_
            exact W.iret (v := 1) hx hb hr (fun tZ ht hW => ⟨⟨1, (q9e), rfl, ⟨hr67, hk68, hk69, hk70, hk71, by first | omega | (dsimp only; omega), hk72, by first | omega | (dsimp only; omega), rfl⟩, by rw [ht]; exact hP.sub [0, 1, 2, 3, 4] rfl, hD.sub [0, 1, 2, 3, 4] (by decide) rfl⟩, hS.F ht⟩) hS.2.2 dX11_from_65
          · skip
            have h54 : ¬ 228 ≤ j91 := fun q9 => h54 ((nI_leI (a := 228) (b := j91) (by omega) (by omega)).mpr q9)
            refine lv_aload_n hx hb dX11_from_40 rfl (lv_at hl 1 rfl) ?_
            refine va_get (D := D) (ci := 11) (v := .ref to) (C := RX11) (T := TX11) (N := 18) hx hb hts iw11 hown hK hP 0 rfl rfl 0 (by decide) fw2 (fun _ h9 => h9) rfl dX11_from_41 ?_
            refine lv_iload_n hx hb dX11_from_44 rfl (lv_at hl 0 rfl) ?_
            refine lv_aload_n hx hb dX11_from_45 rfl (lv_at hl 1 rfl) ?_
            refine va_get (D := D) (ci := 11) (v := .ref ke) (C := RX11) (T := TX11) (N := 18) hx hb hts iw11 hown hK hP 0 rfl rfl 1 (by decide) fw3 (fun _ h9 => h9) rfl dX11_from_46 ?_
            refine lv_sipush (v := 228) hx hb dX11_from_49 (by decide) ?_
            refine lv_iload_n hx hb dX11_from_52 rfl (lv_at hl 2 rfl) ?_
            refine lv_imul hx hb dX11_from_53 ?_
            rw [show 228 * (nI 0) = nI (0) from pk_mul 228 0]
            refine lv_iload_n hx hb dX11_from_54 rfl (lv_at hl 0 rfl) ?_
            refine lv_iadd hx hb dX11_from_55 ?_
            rw [show (nI 0) + (nI j91) = nI (j91) from (nI_add 0 j91).trans (congrArg nI (by omega))]
            refine va_iald hx hb hK hP 3 0 rfl rfl (vp_in_nI (by omega) (by decide)) dX11_from_56 ?_
            rw [nI_clamp (n := j91) (by omega)]
            refine va_iast hx hb hK hP hD hS 2 0 rfl rfl (vp_in_nI (by omega) (by decide)) dX11_from_57 (fun H locs hP hD hS => ?_)
            rw [nI_clamp (n := j91) (by omega)] at hP hD
            have hP : va_P D vwCl [(mo, .inr (11, [.ref to, .ref ke, .ref ik, .ref mrf, .long mab, .long mbl, .ref ha, .ref r0, .ref mbr, .ref mbp, .ref mby, .int (nI bl), .int (nI ta), .int (nI tl), .int (nI tk), .int vv, .ref an, .ref va])), (mrf, .inl (y 0, 3, .inl frf)), (to, .inl (y 0, 228, .inl (upd x31 j91 (fke j91)))), (ke, .inl (y 0, 456, .inl fke)), (ik, .inl (y 2, 2, .inl fik))] H := hP
            have hD : va_D A [(mo, .inr (11, [.ref to, .ref ke, .ref ik, .ref mrf, .long mab, .long mbl, .ref ha, .ref r0, .ref mbr, .ref mbp, .ref mby, .int (nI bl), .int (nI ta), .int (nI tl), .int (nI tk), .int vv, .ref an, .ref va])), (mrf, .inl (y 0, 3, .inl frf)), (to, .inl (y 0, 228, .inl (upd x31 j91 (fke j91)))), (ke, .inl (y 0, 456, .inl fke)), (ik, .inl (y 2, 2, .inl fik))] := hD
            refine lv_iinc (v := (nI (j91 + 1))) (lv' := [(2, .int (nI (j91 + 1))), (0, .ref mo), (1, .int (nI 0))]) hx hb dX11_from_58 hl (k := 0) rfl (nI_1 j91) (by decide) rfl (fun ls hl => ?_)
            refine lv_goto (tgt := 33) hx hb dX11_from_61 (by decide) ?_
            exact ihj91 (j91 + 1) (upd x31 j91 (fke j91)) H locs ls (by omega) (by omega) (by rw [hI0_j91]; exact kr_cpS) (hP.sub [0, 1, 2, 3, 4] rfl) (hD.sub [0, 1, 2, 3, 4] (by decide) rfl) hS (lv_sub hl [0, 1, 2] rfl)
      exact lp52 (228 + 1) 0 ft _ _ _ (by omega) (by omega) kr_cp0 hP hD hS (lv_sub hl [0, 1, 2] rfl)
    · skip
      exact absurd h10 hfl
  · skip
    exact absurd ⟨0, by omega, by omega, rfl⟩ h8

set_option maxHeartbeats 4000000 in
set_option maxRecDepth 100000 in
theorem gs_image1 (l : Launch) (D : va_G) (y : Nat → ClassId) (mo : Nat) (to : Nat) (ke : Nat) (ik : Nat) (mrf : Nat) (ha : Nat) (r0 : Nat) (mbr : Nat) (mbp : Nat) (mby : Nat) (an : Nat) (va : Nat) (mab : Int64) (mbl : Int64) (bl : Nat) (ta : Nat) (tl : Nat) (tk : Nat) (vv : Int32) (frf : Nat → Int32) (ft : Nat → Int32) (fi : Nat) (gl : Nat) (mi : Nat) (no : Nat) (un : Nat) (fke : Nat → Int32) (fik : Nat → Int32) (o1 : Nat) (o2 : Nat) (o3 : Nat) (o4 : Nat) (hk0_ : ft 0 = (nI fi)) (hk1_ : ft 1 = (nI gl)) (hk2_ : ft 2 = (nI mi)) (hk3_ : ft 3 = (nI no)) (hk4_ : ft 4 = (nI un)) (hkt : kr_t 228 ft) (hfi : fi ≤ 6) (hgl : gl ≤ 5) (hmi : mi ≤ 4) (hno : no ≤ 6) (hun : un ≤ 8) (hgf : (gl = 0 ∨ 0 < fi)) (hKo : kr_KK fke o1 o2 o3 o4) : kw_Mi l yX11_image wsX11_image ({ frames := 2, cells := 0, slots := 0, locals := 85 }) D y [.ref mo, .int (nI 1)] [(mo, .inr (11, [.ref to, .ref ke, .ref ik, .ref mrf, .long mab, .long mbl, .ref ha, .ref r0, .ref mbr, .ref mbp, .ref mby, .int (nI bl), .int (nI ta), .int (nI tl), .int (nI tk), .int vv, .ref an, .ref va])), (mrf, .inl (y 0, 3, .inl frf)), (to, .inl (y 0, 228, .inl ft)), (ke, .inl (y 0, 456, .inl fke)), (ik, .inl (y 2, 2, .inl fik))] (fun (r : Int32) (u : Unit) => kr_KK (kr_co fke ft 228) o1 o2 o3 o4 ∧ kr_KK (fun p => (kr_co fke ft 228) (p + 228)) fi gl mi no ∧ r = 1) (fun _ => [(mo, .inr (11, [.ref to, .ref ke, .ref ik, .ref mrf, .long mab, .long mbl, .ref ha, .ref r0, .ref mbr, .ref mbp, .ref mby, .int (nI bl), .int (nI ta), .int (nI tl), .int (nI tk), .int vv, .ref an, .ref va])), (mrf, .inl (y 0, 3, .inl frf)), (to, .inl (y 0, 228, .inl ft)), (ke, .inl (y 0, 456, .inl (kr_co fke ft 228))), (ik, .inl (y 2, 2, .inl (upd fik 1 (vp_nar .boolean 1))))]) 0 0 := by
  refine kw_Mi.of (cc := cX11_image) (maxL := 3) (ret := (some .int)) (by decide) rfl ?_
  intro pZ eZ s mZ beZ meZ cZ A hE
  obtain ⟨hx, hb, hr, hml, hts, hown, hlocks, hin, hA, hP, hD, hK, hN⟩ := hE
  have hS : va_S A s.heap s.heap [] := va_S.rf
  have hl := lv_entry ([.ref mo, .int (nI 1)]) (n := 3) (Nat.le_of_ble_eq_true rfl)
  rw [lg_entry_eq]
  generalize (lg_sl ([.ref mo, .int (nI 1)]) ++ List.replicate (3 - (lg_sl ([.ref mo, .int (nI 1)])).length) Slot.unset).toArray = ls at hl ⊢
  have hl : lv_has ls 3 [(0, .ref mo), (1, .int (nI 1))] := hl
  have fw1 := hts (.fieldLink RX11 16 "GleanDuskModel" "isKept" "[Z") (List.mem_of_getElem? (i := 3) rfl)
  have fw2 := hts (.fieldLink RX11 13 "GleanDuskModel" "kept" "[I") (List.mem_of_getElem? (i := 1) rfl)
  have fw3 := hts (.fieldLink RX11 7 "GleanDuskModel" "told" "[I") (List.mem_of_getElem? (i := 2) rfl)
  have iw11 : ∀ w ∈ wsX110, w ∈ wsX11_image := fun _ h => List.mem_cons_of_mem _ (List.mem_append_right _ h)
  refine lv_iload_n hx hb dX11_image_0 rfl (lv_at hl 1 rfl) ?_
  refine lv_i2l (v := (nI 1).toInt64) hx hb dX11_image_1 (rfl) ?_
  refine lv_lconst (v := 0) hx hb dX11_image_2 (by decide) ?_
  refine lv_lconst (v := 1) hx hb dX11_image_3 (by decide) ?_
  have hs1 : kw_Split [(mo, .inr (11, [.ref to, .ref ke, .ref ik, .ref mrf, .long mab, .long mbl, .ref ha, .ref r0, .ref mbr, .ref mbp, .ref mby, .int (nI bl), .int (nI ta), .int (nI tl), .int (nI tk), .int vv, .ref an, .ref va])), (mrf, .inl (y 0, 3, .inl frf)), (to, .inl (y 0, 228, .inl ft)), (ke, .inl (y 0, 456, .inl fke)), (ik, .inl (y 2, 2, .inl fik))] [] [(mo, .inr (11, [.ref to, .ref ke, .ref ik, .ref mrf, .long mab, .long mbl, .ref ha, .ref r0, .ref mbr, .ref mbp, .ref mby, .int (nI bl), .int (nI ta), .int (nI tl), .int (nI tk), .int vv, .ref an, .ref va])), (mrf, .inl (y 0, 3, .inl frf)), (to, .inl (y 0, 228, .inl ft)), (ke, .inl (y 0, 456, .inl fke)), (ik, .inl (y 2, 2, .inl fik))] [] [0, 1, 2, 3, 4] := ⟨rfl, rfl, rfl, rfl, rfl, by decide⟩
  refine kw_go_i hs1 hP hD hS hA (va_runS (As := [.long ((nI 1).toInt64), .long 0, .long 1]) (rest := []) ⟨hx, hb, hml, hown, hts⟩ (gr_in l D y (nI 1) 0 1 (by omega) (by omega) _) (va_cwS 3 hts gX11_image_X11_in rfl rfl rfl (by decide +kernel) ⟨Nat.le_of_ble_eq_true rfl, Nat.le_of_ble_eq_true rfl⟩) (kw_PreS hs1 hP hD hK hN) rfl rfl hl.1 rfl (lv_room (Nat.le_of_ble_eq_true rfl)) dX11_image_4 ⟨Nat.le_of_ble_eq_true rfl, Nat.le_of_ble_eq_true rfl⟩) (fun r2 u3 H locs hq hP hD hS => ?_)
  rcases hq with ⟨j4, h5, h6, h7, rfl⟩ | ⟨h8, rfl⟩
  · skip
    have h7 : 1 = j4 := (nI_eq (a := 1) (b := j4) (by omega) (by omega)).mp h7
    have hP : va_P D vwCl [(mo, .inr (11, [.ref to, .ref ke, .ref ik, .ref mrf, .long mab, .long mbl, .ref ha, .ref r0, .ref mbr, .ref mbp, .ref mby, .int (nI bl), .int (nI ta), .int (nI tl), .int (nI tk), .int vv, .ref an, .ref va])), (mrf, .inl (y 0, 3, .inl frf)), (to, .inl (y 0, 228, .inl ft)), (ke, .inl (y 0, 456, .inl fke)), (ik, .inl (y 2, 2, .inl fik))] H := hP
    have hD : va_D A [(mo, .inr (11, [.ref to, .ref ke, .ref ik, .ref mrf, .long mab, .long mbl, .ref ha, .ref r0, .ref mbr, .ref mbp, .ref mby, .int (nI bl), .int (nI ta), .int (nI tl), .int (nI tk), .int vv, .ref an, .ref va])), (mrf, .inl (y 0, 3, .inl frf)), (to, .inl (y 0, 228, .inl ft)), (ke, .inl (y 0, 456, .inl fke)), (ik, .inl (y 2, 2, .inl fik))] := hD
    refine lv_if_ne (tgt := 17) hx hb dX11_image_7 (by decide) (fun _ => ?_) (fun h9 => absurd h9 (by decide))
    refine lv_iconst (v := 0) hx hb dX11_image_17 (by decide) ?_
    refine lv_istore_n (lv' := [(2, .int 0), (0, .ref mo), (1, .int (nI 1))]) hx hb dX11_image_18 rfl hl (by decide) rfl (fun ls hl => ?_)
    have lp14 : ∀ (fuj91 j91 : Nat) (x11 : Nat → Int32) (H : Heap) (locs : List Loc) (ls : Array Slot), j91 ≤ 228 → 228 - j91 < fuj91 → x11 = kr_co fke ft j91 → va_P D vwCl [(mo, .inr (11, [.ref to, .ref ke, .ref ik, .ref mrf, .long mab, .long mbl, .ref ha, .ref r0, .ref mbr, .ref mbp, .ref mby, .int (nI bl), .int (nI ta), .int (nI tl), .int (nI tk), .int vv, .ref an, .ref va])), (mrf, .inl (y 0, 3, .inl frf)), (to, .inl (y 0, 228, .inl ft)), (ke, .inl (y 0, 456, .inl x11)), (ik, .inl (y 2, 2, .inl fik))] H → va_D A [(mo, .inr (11, [.ref to, .ref ke, .ref ik, .ref mrf, .long mab, .long mbl, .ref ha, .ref r0, .ref mbr, .ref mbp, .ref mby, .int (nI bl), .int (nI ta), .int (nI tl), .int (nI tk), .int vv, .ref an, .ref va])), (mrf, .inl (y 0, 3, .inl frf)), (to, .inl (y 0, 228, .inl ft)), (ke, .inl (y 0, 456, .inl x11)), (ik, .inl (y 2, 2, .inl fik))] → va_S A s.heap H locs → lv_has ls 3 [(2, .int (nI j91)), (0, .ref mo), (1, .int (nI 1))] → W pZ l eZ ({ frames := 2, cells := 0, slots := 0, locals := 85 }) s mZ [.ref mo, .int (nI 1)].toArray beZ meZ cZ H locs 0 0 (MQ beZ (va_Qi (fun (r : Int32) (u : Unit) => kr_KK (kr_co fke ft 228) o1 o2 o3 o4 ∧ kr_KK (fun p => (kr_co fke ft 228) (p + 228)) fi gl mi no ∧ r = 1) (kw_B D (fun _ => [(mo, .inr (11, [.ref to, .ref ke, .ref ik, .ref mrf, .long mab, .long mbl, .ref ha, .ref r0, .ref mbr, .ref mbp, .ref mby, .int (nI bl), .int (nI ta), .int (nI tl), .int (nI tk), .int vv, .ref an, .ref va])), (mrf, .inl (y 0, 3, .inl frf)), (to, .inl (y 0, 228, .inl ft)), (ke, .inl (y 0, 456, .inl (kr_co fke ft 228))), (ik, .inl (y 2, 2, .inl (upd fik 1 (vp_nar .boolean 1))))]) A) A) [.ref mo, .int (nI 1)].toArray s 0 0 A) (F0 mZ 19 ls []) := by
      intro fuj91
      induction fuj91 with
      | zero => intro j91 x11 H locs ls hj9 hf9; exact absurd hf9 (Nat.not_lt_zero _)
      | succ fuj91 ihj91 =>
        intro j91 x11 H locs ls hj91 hfj91 hI0_j91 hP hD hS hl
        refine lv_iload_n hx hb dX11_image_19 rfl (lv_at hl 0 rfl) ?_
        refine lv_sipush (v := 228) hx hb dX11_image_20 (by decide) ?_
        refine lv_icmp_ge (tgt := 50) hx hb dX11_image_23 (by decide) (fun h15 => ?_) (fun h16 => ?_)
        · skip
          have h15 : 228 ≤ j91 := (nI_leI (a := 228) (b := j91) (by omega) (by omega)).mp h15
          obtain rfl : j91 = 228 := by omega
          subst hI0_j91
          have hP : va_P D vwCl [(mo, .inr (11, [.ref to, .ref ke, .ref ik, .ref mrf, .long mab, .long mbl, .ref ha, .ref r0, .ref mbr, .ref mbp, .ref mby, .int (nI bl), .int (nI ta), .int (nI tl), .int (nI tk), .int vv, .ref an, .ref va])), (mrf, .inl (y 0, 3, .inl frf)), (to, .inl (y 0, 228, .inl ft)), (ke, .inl (y 0, 456, .inl (kr_co fke ft 228))), (ik, .inl (y 2, 2, .inl fik))] H := hP
          have hD : va_D A [(mo, .inr (11, [.ref to, .ref ke, .ref ik, .ref mrf, .long mab, .long mbl, .ref ha, .ref r0, .ref mbr, .ref mbp, .ref mby, .int (nI bl), .int (nI ta), .int (nI tl), .int (nI tk), .int vv, .ref an, .ref va])), (mrf, .inl (y 0, 3, .inl frf)), (to, .inl (y 0, 228, .inl ft)), (ke, .inl (y 0, 456, .inl (kr_co fke ft 228))), (ik, .inl (y 2, 2, .inl fik))] := hD
          refine lv_aload_n hx hb dX11_image_50 rfl (lv_at hl 1 rfl) ?_
          refine va_get (D := D) (ci := 11) (v := .ref ik) (C := RX11) (T := TX11) (N := 18) hx hb hts iw11 hown hK hP 0 rfl rfl 2 (by decide) fw1 (fun _ h9 => h9) rfl dX11_image_51 ?_
          refine lv_iload_n hx hb dX11_image_54 rfl (lv_at hl 2 rfl) ?_
          refine lv_iconst (v := 1) hx hb dX11_image_55 (by decide) ?_
          refine va_zast hx hb hK hP hD hS 4 2 rfl rfl (vp_in_nI (by omega) (by decide)) dX11_image_56 (fun H locs hP hD hS => ?_)
          rw [nI_clamp (n := 1) (by omega)] at hP hD
          have hP : va_P D vwCl [(mo, .inr (11, [.ref to, .ref ke, .ref ik, .ref mrf, .long mab, .long mbl, .ref ha, .ref r0, .ref mbr, .ref mbp, .ref mby, .int (nI bl), .int (nI ta), .int (nI tl), .int (nI tk), .int vv, .ref an, .ref va])), (mrf, .inl (y 0, 3, .inl frf)), (to, .inl (y 0, 228, .inl ft)), (ke, .inl (y 0, 456, .inl (kr_co fke ft 228))), (ik, .inl (y 2, 2, .inl (upd fik 1 (vp_nar .boolean 1))))] H := hP
          have hD : va_D A [(mo, .inr (11, [.ref to, .ref ke, .ref ik, .ref mrf, .long mab, .long mbl, .ref ha, .ref r0, .ref mbr, .ref mbp, .ref mby, .int (nI bl), .int (nI ta), .int (nI tl), .int (nI tk), .int vv, .ref an, .ref va])), (mrf, .inl (y 0, 3, .inl frf)), (to, .inl (y 0, 228, .inl ft)), (ke, .inl (y 0, 456, .inl (kr_co fke ft 228))), (ik, .inl (y 2, 2, .inl (upd fik 1 (vp_nar .boolean 1))))] := hD
          refine lv_iconst (v := 1) hx hb dX11_image_57 (by decide) ?_
          exact W.iret (v := 1) hx hb hr (fun tZ ht hW => ⟨⟨1, (), rfl, ⟨(show kr_KK (kr_co fke ft 228) o1 o2 o3 o4 from hKo.congr (fun p hp => kr_co_lo hp)), (show kr_KK (fun p => kr_co fke ft 228 (p + 228)) fi gl mi no from (kr_KK.mk hk0_ hk1_ hk2_ hk3_ hk4_ hfi hgl hmi hno hun hgf hkt).congr (fun p hp => kr_co_hi (g := fke) (f := ft) hp)), rfl⟩, by rw [ht]; exact hP.sub [0, 1, 2, 3, 4] rfl, hD.sub [0, 1, 2, 3, 4] (by decide) rfl⟩, hS.F ht⟩) hS.2.2 dX11_image_58
        · skip
          have h16 : ¬ 228 ≤ j91 := fun q9 => h16 ((nI_leI (a := 228) (b := j91) (by omega) (by omega)).mpr q9)
          refine lv_aload_n hx hb dX11_image_26 rfl (lv_at hl 1 rfl) ?_
          refine va_get (D := D) (ci := 11) (v := .ref ke) (C := RX11) (T := TX11) (N := 18) hx hb hts iw11 hown hK hP 0 rfl rfl 1 (by decide) fw2 (fun _ h9 => h9) rfl dX11_image_27 ?_
          refine lv_sipush (v := 228) hx hb dX11_image_30 (by decide) ?_
          refine lv_iload_n hx hb dX11_image_33 rfl (lv_at hl 2 rfl) ?_
          refine lv_imul hx hb dX11_image_34 ?_
          rw [show 228 * (nI 1) = nI (228) from pk_mul 228 1]
          refine lv_iload_n hx hb dX11_image_35 rfl (lv_at hl 0 rfl) ?_
          refine lv_iadd hx hb dX11_image_36 ?_
          rw [show (nI 228) + (nI j91) = nI (j91 + 228) from (nI_add 228 j91).trans (congrArg nI (by omega))]
          refine lv_aload_n hx hb dX11_image_37 rfl (lv_at hl 1 rfl) ?_
          refine va_get (D := D) (ci := 11) (v := .ref to) (C := RX11) (T := TX11) (N := 18) hx hb hts iw11 hown hK hP 0 rfl rfl 0 (by decide) fw3 (fun _ h9 => h9) rfl dX11_image_38 ?_
          refine lv_iload_n hx hb dX11_image_41 rfl (lv_at hl 0 rfl) ?_
          refine va_iald hx hb hK hP 2 0 rfl rfl (vp_in_nI (by omega) (by decide)) dX11_image_42 ?_
          rw [nI_clamp (n := j91) (by omega)]
          refine va_iast hx hb hK hP hD hS 3 0 rfl rfl (vp_in_nI (by omega) (by decide)) dX11_image_43 (fun H locs hP hD hS => ?_)
          rw [nI_clamp (n := (j91 + 228)) (by omega)] at hP hD
          have hP : va_P D vwCl [(mo, .inr (11, [.ref to, .ref ke, .ref ik, .ref mrf, .long mab, .long mbl, .ref ha, .ref r0, .ref mbr, .ref mbp, .ref mby, .int (nI bl), .int (nI ta), .int (nI tl), .int (nI tk), .int vv, .ref an, .ref va])), (mrf, .inl (y 0, 3, .inl frf)), (to, .inl (y 0, 228, .inl ft)), (ke, .inl (y 0, 456, .inl (upd x11 (j91 + 228) (ft j91)))), (ik, .inl (y 2, 2, .inl fik))] H := hP
          have hD : va_D A [(mo, .inr (11, [.ref to, .ref ke, .ref ik, .ref mrf, .long mab, .long mbl, .ref ha, .ref r0, .ref mbr, .ref mbp, .ref mby, .int (nI bl), .int (nI ta), .int (nI tl), .int (nI tk), .int vv, .ref an, .ref va])), (mrf, .inl (y 0, 3, .inl frf)), (to, .inl (y 0, 228, .inl ft)), (ke, .inl (y 0, 456, .inl (upd x11 (j91 + 228) (ft j91)))), (ik, .inl (y 2, 2, .inl fik))] := hD
          refine lv_iinc (v := (nI (j91 + 1))) (lv' := [(2, .int (nI (j91 + 1))), (0, .ref mo), (1, .int (nI 1))]) hx hb dX11_image_44 hl (k := 0) rfl (nI_1 j91) (by decide) rfl (fun ls hl => ?_)
          refine lv_goto (tgt := 19) hx hb dX11_image_47 (by decide) ?_
          exact ihj91 (j91 + 1) (upd x11 (j91 + 228) (ft j91)) H locs ls (by omega) (by omega) (by rw [hI0_j91]; exact kr_coS) (hP.sub [0, 1, 2, 3, 4] rfl) (hD.sub [0, 1, 2, 3, 4] (by decide) rfl) hS (lv_sub hl [0, 1, 2] rfl)
    exact lp14 (228 + 1) 0 fke _ _ _ (by omega) (by omega) kr_co0 hP hD hS (lv_sub hl [0, 1, 2] rfl)
  · skip
    exact absurd ⟨1, by omega, by omega, rfl⟩ h8

set_option maxHeartbeats 4000000 in
set_option maxRecDepth 100000 in
theorem gs_from1y (l : Launch) (D : va_G) (y : Nat → ClassId) (mo : Nat) (to : Nat) (ke : Nat) (ik : Nat) (mrf : Nat) (ha : Nat) (r0 : Nat) (mbr : Nat) (mbp : Nat) (mby : Nat) (an : Nat) (va : Nat) (mab : Int64) (mbl : Int64) (bl : Nat) (ta : Nat) (tl : Nat) (tk : Nat) (vv : Int32) (frf : Nat → Int32) (ft : Nat → Int32) (fi : Nat) (gl : Nat) (mi : Nat) (no : Nat) (un : Nat) (fke : Nat → Int32) (fik : Nat → Int32) (o1 : Nat) (o2 : Nat) (o3 : Nat) (o4 : Nat) (hk0_ : ft 0 = (nI fi)) (hk1_ : ft 1 = (nI gl)) (hk2_ : ft 2 = (nI mi)) (hk3_ : ft 3 = (nI no)) (hk4_ : ft 4 = (nI un)) (hkt : kr_t 228 ft) (hfi : fi ≤ 6) (hgl : gl ≤ 5) (hmi : mi ≤ 4) (hno : no ≤ 6) (hun : un ≤ 8) (hgf : (gl = 0 ∨ 0 < fi)) (hKs : kr_KK (fun p => fke (p + 228)) o1 o2 o3 o4) (hfl : ¬ (fik 1) = 0) : kw_Mi l yX11_from wsX11_from ({ frames := 2, cells := 0, slots := 0, locals := 85 }) D y [.ref mo, .int (nI 1)] [(mo, .inr (11, [.ref to, .ref ke, .ref ik, .ref mrf, .long mab, .long mbl, .ref ha, .ref r0, .ref mbr, .ref mbp, .ref mby, .int (nI bl), .int (nI ta), .int (nI tl), .int (nI tk), .int vv, .ref an, .ref va])), (mrf, .inl (y 0, 3, .inl frf)), (to, .inl (y 0, 228, .inl ft)), (ke, .inl (y 0, 456, .inl fke)), (ik, .inl (y 2, 2, .inl fik))] (fun (r : Int32) (u : Nat) => kr_t 228 (kr_cp ft (fun p => fke (p + 228)) 228) ∧ (kr_cp ft (fun p => fke (p + 228)) 228) 0 = (nI o1) ∧ (kr_cp ft (fun p => fke (p + 228)) 228) 1 = (nI o2) ∧ (kr_cp ft (fun p => fke (p + 228)) 228) 2 = (nI o3) ∧ (kr_cp ft (fun p => fke (p + 228)) 228) 3 = (nI o4) ∧ u ≤ 8 ∧ (kr_cp ft (fun p => fke (p + 228)) 228) 4 = (nI u) ∧ (o2 = 0 ∨ 0 < o1) ∧ r = 1) (fun u => [(mo, .inr (11, [.ref to, .ref ke, .ref ik, .ref mrf, .long mab, .long mbl, .ref ha, .ref r0, .ref mbr, .ref mbp, .ref mby, .int (nI bl), .int (nI ta), .int (nI tl), .int (nI tk), .int vv, .ref an, .ref va])), (mrf, .inl (y 0, 3, .inl frf)), (to, .inl (y 0, 228, .inl (kr_cp ft (fun p => fke (p + 228)) 228))), (ke, .inl (y 0, 456, .inl fke)), (ik, .inl (y 2, 2, .inl fik))]) 0 0 := by
  refine kw_Mi.of (cc := cX11_from) (maxL := 3) (ret := (some .int)) (by decide) rfl ?_
  intro pZ eZ s mZ beZ meZ cZ A hE
  obtain ⟨hx, hb, hr, hml, hts, hown, hlocks, hin, hA, hP, hD, hK, hN⟩ := hE
  have hS : va_S A s.heap s.heap [] := va_S.rf
  have hl := lv_entry ([.ref mo, .int (nI 1)]) (n := 3) (Nat.le_of_ble_eq_true rfl)
  rw [lg_entry_eq]
  generalize (lg_sl ([.ref mo, .int (nI 1)]) ++ List.replicate (3 - (lg_sl ([.ref mo, .int (nI 1)])).length) Slot.unset).toArray = ls at hl ⊢
  have hl : lv_has ls 3 [(0, .ref mo), (1, .int (nI 1))] := hl
  have fw1 := hts (.fieldLink RX11 16 "GleanDuskModel" "isKept" "[Z") (List.mem_of_getElem? (i := 1) rfl)
  have fw2 := hts (.fieldLink RX11 7 "GleanDuskModel" "told" "[I") (List.mem_of_getElem? (i := 2) rfl)
  have fw3 := hts (.fieldLink RX11 13 "GleanDuskModel" "kept" "[I") (List.mem_of_getElem? (i := 3) rfl)
  have iw11 : ∀ w ∈ wsX110, w ∈ wsX11_from := fun _ h => List.mem_cons_of_mem _ (List.mem_append_right _ h)
  refine lv_iload_n hx hb dX11_from_0 rfl (lv_at hl 1 rfl) ?_
  refine lv_i2l (v := (nI 1).toInt64) hx hb dX11_from_1 (rfl) ?_
  refine lv_lconst (v := 0) hx hb dX11_from_2 (by decide) ?_
  refine lv_lconst (v := 1) hx hb dX11_from_3 (by decide) ?_
  have hs1 : kw_Split [(mo, .inr (11, [.ref to, .ref ke, .ref ik, .ref mrf, .long mab, .long mbl, .ref ha, .ref r0, .ref mbr, .ref mbp, .ref mby, .int (nI bl), .int (nI ta), .int (nI tl), .int (nI tk), .int vv, .ref an, .ref va])), (mrf, .inl (y 0, 3, .inl frf)), (to, .inl (y 0, 228, .inl ft)), (ke, .inl (y 0, 456, .inl fke)), (ik, .inl (y 2, 2, .inl fik))] [] [(mo, .inr (11, [.ref to, .ref ke, .ref ik, .ref mrf, .long mab, .long mbl, .ref ha, .ref r0, .ref mbr, .ref mbp, .ref mby, .int (nI bl), .int (nI ta), .int (nI tl), .int (nI tk), .int vv, .ref an, .ref va])), (mrf, .inl (y 0, 3, .inl frf)), (to, .inl (y 0, 228, .inl ft)), (ke, .inl (y 0, 456, .inl fke)), (ik, .inl (y 2, 2, .inl fik))] [] [0, 1, 2, 3, 4] := ⟨rfl, rfl, rfl, rfl, rfl, by decide⟩
  refine kw_go_i hs1 hP hD hS hA (va_runS (As := [.long ((nI 1).toInt64), .long 0, .long 1]) (rest := []) ⟨hx, hb, hml, hown, hts⟩ (gr_in l D y (nI 1) 0 1 (by omega) (by omega) _) (va_cwS 3 hts gX11_from_X11_in rfl rfl rfl (by decide +kernel) ⟨Nat.le_of_ble_eq_true rfl, Nat.le_of_ble_eq_true rfl⟩) (kw_PreS hs1 hP hD hK hN) rfl rfl hl.1 rfl (lv_room (Nat.le_of_ble_eq_true rfl)) dX11_from_4 ⟨Nat.le_of_ble_eq_true rfl, Nat.le_of_ble_eq_true rfl⟩) (fun r2 u3 H locs hq hP hD hS => ?_)
  rcases hq with ⟨j4, h5, h6, h7, rfl⟩ | ⟨h8, rfl⟩
  · skip
    have h7 : 1 = j4 := (nI_eq (a := 1) (b := j4) (by omega) (by omega)).mp h7
    have hP : va_P D vwCl [(mo, .inr (11, [.ref to, .ref ke, .ref ik, .ref mrf, .long mab, .long mbl, .ref ha, .ref r0, .ref mbr, .ref mbp, .ref mby, .int (nI bl), .int (nI ta), .int (nI tl), .int (nI tk), .int vv, .ref an, .ref va])), (mrf, .inl (y 0, 3, .inl frf)), (to, .inl (y 0, 228, .inl ft)), (ke, .inl (y 0, 456, .inl fke)), (ik, .inl (y 2, 2, .inl fik))] H := hP
    have hD : va_D A [(mo, .inr (11, [.ref to, .ref ke, .ref ik, .ref mrf, .long mab, .long mbl, .ref ha, .ref r0, .ref mbr, .ref mbp, .ref mby, .int (nI bl), .int (nI ta), .int (nI tl), .int (nI tk), .int vv, .ref an, .ref va])), (mrf, .inl (y 0, 3, .inl frf)), (to, .inl (y 0, 228, .inl ft)), (ke, .inl (y 0, 456, .inl fke)), (ik, .inl (y 2, 2, .inl fik))] := hD
    refine lv_if_ne (tgt := 17) hx hb dX11_from_7 (by decide) (fun _ => ?_) (fun h9 => absurd h9 (by decide))
    refine lv_aload_n hx hb dX11_from_17 rfl (lv_at hl 0 rfl) ?_
    refine va_get (D := D) (ci := 11) (v := .ref ik) (C := RX11) (T := TX11) (N := 18) hx hb hts iw11 hown hK hP 0 rfl rfl 2 (by decide) fw1 (fun _ h9 => h9) rfl dX11_from_18 ?_
    refine lv_iload_n hx hb dX11_from_21 rfl (lv_at hl 1 rfl) ?_
    refine va_zald hx hb hK hP 4 2 rfl rfl (vp_in_nI (by omega) (by decide)) dX11_from_22 ?_
    rw [nI_clamp (n := 1) (by omega)]
    refine lv_if_ne (tgt := 31) hx hb dX11_from_23 (by decide) (fun h9 => ?_) (fun h10 => ?_)
    · skip
      refine lv_iconst (v := 0) hx hb dX11_from_31 (by decide) ?_
      refine lv_istore_n (lv' := [(2, .int 0), (0, .ref mo), (1, .int (nI 1))]) hx hb dX11_from_32 rfl hl (by decide) rfl (fun ls hl => ?_)
      have lp52 : ∀ (fuj91 j91 : Nat) (x31 : Nat → Int32) (H : Heap) (locs : List Loc) (ls : Array Slot), j91 ≤ 228 → 228 - j91 < fuj91 → x31 = kr_cp ft (fun p => fke (p + 228)) j91 → va_P D vwCl [(mo, .inr (11, [.ref to, .ref ke, .ref ik, .ref mrf, .long mab, .long mbl, .ref ha, .ref r0, .ref mbr, .ref mbp, .ref mby, .int (nI bl), .int (nI ta), .int (nI tl), .int (nI tk), .int vv, .ref an, .ref va])), (mrf, .inl (y 0, 3, .inl frf)), (to, .inl (y 0, 228, .inl x31)), (ke, .inl (y 0, 456, .inl fke)), (ik, .inl (y 2, 2, .inl fik))] H → va_D A [(mo, .inr (11, [.ref to, .ref ke, .ref ik, .ref mrf, .long mab, .long mbl, .ref ha, .ref r0, .ref mbr, .ref mbp, .ref mby, .int (nI bl), .int (nI ta), .int (nI tl), .int (nI tk), .int vv, .ref an, .ref va])), (mrf, .inl (y 0, 3, .inl frf)), (to, .inl (y 0, 228, .inl x31)), (ke, .inl (y 0, 456, .inl fke)), (ik, .inl (y 2, 2, .inl fik))] → va_S A s.heap H locs → lv_has ls 3 [(2, .int (nI j91)), (0, .ref mo), (1, .int (nI 1))] → W pZ l eZ ({ frames := 2, cells := 0, slots := 0, locals := 85 }) s mZ [.ref mo, .int (nI 1)].toArray beZ meZ cZ H locs 0 0 (MQ beZ (va_Qi (fun (r : Int32) (u : Nat) => kr_t 228 (kr_cp ft (fun p => fke (p + 228)) 228) ∧ (kr_cp ft (fun p => fke (p + 228)) 228) 0 = (nI o1) ∧ (kr_cp ft (fun p => fke (p + 228)) 228) 1 = (nI o2) ∧ (kr_cp ft (fun p => fke (p + 228)) 228) 2 = (nI o3) ∧ (kr_cp ft (fun p => fke (p + 228)) 228) 3 = (nI o4) ∧ u ≤ 8 ∧ (kr_cp ft (fun p => fke (p + 228)) 228) 4 = (nI u) ∧ (o2 = 0 ∨ 0 < o1) ∧ r = 1) (kw_B D (fun u => [(mo, .inr (11, [.ref to, .ref ke, .ref ik, .ref mrf, .long mab, .long mbl, .ref ha, .ref r0, .ref mbr, .ref mbp, .ref mby, .int (nI bl), .int (nI ta), .int (nI tl), .int (nI tk), .int vv, .ref an, .ref va])), (mrf, .inl (y 0, 3, .inl frf)), (to, .inl (y 0, 228, .inl (kr_cp ft (fun p => fke (p + 228)) 228))), (ke, .inl (y 0, 456, .inl fke)), (ik, .inl (y 2, 2, .inl fik))]) A) A) [.ref mo, .int (nI 1)].toArray s 0 0 A) (F0 mZ 33 ls []) := by
        intro fuj91
        induction fuj91 with
        | zero => intro j91 x31 H locs ls hj9 hf9; exact absurd hf9 (Nat.not_lt_zero _)
        | succ fuj91 ihj91 =>
          intro j91 x31 H locs ls hj91 hfj91 hI0_j91 hP hD hS hl
          refine lv_iload_n hx hb dX11_from_33 rfl (lv_at hl 0 rfl) ?_
          refine lv_sipush (v := 228) hx hb dX11_from_34 (by decide) ?_
          refine lv_icmp_ge (tgt := 64) hx hb dX11_from_37 (by decide) (fun h53 => ?_) (fun h54 => ?_)
          · skip
            have h53 : 228 ≤ j91 := (nI_leI (a := 228) (b := j91) (by omega) (by omega)).mp h53
            obtain rfl : j91 = 228 := by omega
            subst hI0_j91
            have hP : va_P D vwCl [(mo, .inr (11, [.ref to, .ref ke, .ref ik, .ref mrf, .long mab, .long mbl, .ref ha, .ref r0, .ref mbr, .ref mbp, .ref mby, .int (nI bl), .int (nI ta), .int (nI tl), .int (nI tk), .int vv, .ref an, .ref va])), (mrf, .inl (y 0, 3, .inl frf)), (to, .inl (y 0, 228, .inl (kr_cp ft (fun p => fke (p + 228)) 228))), (ke, .inl (y 0, 456, .inl fke)), (ik, .inl (y 2, 2, .inl fik))] H := hP
            have hD : va_D A [(mo, .inr (11, [.ref to, .ref ke, .ref ik, .ref mrf, .long mab, .long mbl, .ref ha, .ref r0, .ref mbr, .ref mbp, .ref mby, .int (nI bl), .int (nI ta), .int (nI tl), .int (nI tk), .int vv, .ref an, .ref va])), (mrf, .inl (y 0, 3, .inl frf)), (to, .inl (y 0, 228, .inl (kr_cp ft (fun p => fke (p + 228)) 228))), (ke, .inl (y 0, 456, .inl fke)), (ik, .inl (y 2, 2, .inl fik))] := hD
            obtain ⟨q9e, h55, h56, h57, h58, h59, h60, h61, h62, h63, h64, h65, h66⟩ := hKs
            have hr67 : kr_t 228 (kr_cp ft (fun p => fke (p + 228)) 228) := kr_cpt h66 hkt (by decide)
            have hk68 : (kr_cp ft (fun p => fke (p + 228)) 228) 0 = (nI o1) := (kr_cp_lt (by decide)).trans h55
            have hk69 : (kr_cp ft (fun p => fke (p + 228)) 228) 1 = (nI o2) := (kr_cp_lt (by decide)).trans h56
            have hk70 : (kr_cp ft (fun p => fke (p + 228)) 228) 2 = (nI o3) := (kr_cp_lt (by decide)).trans h57
            have hk71 : (kr_cp ft (fun p => fke (p + 228)) 228) 3 = (nI o4) := (kr_cp_lt (by decide)).trans h58
            have hk72 : (kr_cp ft (fun p => fke (p + 228)) 228) 4 = (nI q9e) := (kr_cp_lt (by decide)).trans h59
            refine lv_iconst (v := 1) hx hb dX11_from_64 (by decide) ?_
            exact W.iret (v := 1) hx hb hr (fun tZ ht hW => ⟨⟨1, (q9e), rfl, ⟨hr67, hk68, hk69, hk70, hk71, by first | omega | (dsimp only; omega), hk72, by first | omega | (dsimp only; omega), rfl⟩, by rw [ht]; exact hP.sub [0, 1, 2, 3, 4] rfl, hD.sub [0, 1, 2, 3, 4] (by decide) rfl⟩, hS.F ht⟩) hS.2.2 dX11_from_65
          · skip
            have h54 : ¬ 228 ≤ j91 := fun q9 => h54 ((nI_leI (a := 228) (b := j91) (by omega) (by omega)).mpr q9)
            refine lv_aload_n hx hb dX11_from_40 rfl (lv_at hl 1 rfl) ?_
            refine va_get (D := D) (ci := 11) (v := .ref to) (C := RX11) (T := TX11) (N := 18) hx hb hts iw11 hown hK hP 0 rfl rfl 0 (by decide) fw2 (fun _ h9 => h9) rfl dX11_from_41 ?_
            refine lv_iload_n hx hb dX11_from_44 rfl (lv_at hl 0 rfl) ?_
            refine lv_aload_n hx hb dX11_from_45 rfl (lv_at hl 1 rfl) ?_
            refine va_get (D := D) (ci := 11) (v := .ref ke) (C := RX11) (T := TX11) (N := 18) hx hb hts iw11 hown hK hP 0 rfl rfl 1 (by decide) fw3 (fun _ h9 => h9) rfl dX11_from_46 ?_
            refine lv_sipush (v := 228) hx hb dX11_from_49 (by decide) ?_
            refine lv_iload_n hx hb dX11_from_52 rfl (lv_at hl 2 rfl) ?_
            refine lv_imul hx hb dX11_from_53 ?_
            rw [show 228 * (nI 1) = nI (228) from pk_mul 228 1]
            refine lv_iload_n hx hb dX11_from_54 rfl (lv_at hl 0 rfl) ?_
            refine lv_iadd hx hb dX11_from_55 ?_
            rw [show (nI 228) + (nI j91) = nI (j91 + 228) from (nI_add 228 j91).trans (congrArg nI (by omega))]
            refine va_iald hx hb hK hP 3 0 rfl rfl (vp_in_nI (by omega) (by decide)) dX11_from_56 ?_
            rw [nI_clamp (n := (j91 + 228)) (by omega)]
            refine va_iast hx hb hK hP hD hS 2 0 rfl rfl (vp_in_nI (by omega) (by decide)) dX11_from_57 (fun H locs hP hD hS => ?_)
            rw [nI_clamp (n := j91) (by omega)] at hP hD
            have hP : va_P D vwCl [(mo, .inr (11, [.ref to, .ref ke, .ref ik, .ref mrf, .long mab, .long mbl, .ref ha, .ref r0, .ref mbr, .ref mbp, .ref mby, .int (nI bl), .int (nI ta), .int (nI tl), .int (nI tk), .int vv, .ref an, .ref va])), (mrf, .inl (y 0, 3, .inl frf)), (to, .inl (y 0, 228, .inl (upd x31 j91 (fke (j91 + 228))))), (ke, .inl (y 0, 456, .inl fke)), (ik, .inl (y 2, 2, .inl fik))] H := hP
            have hD : va_D A [(mo, .inr (11, [.ref to, .ref ke, .ref ik, .ref mrf, .long mab, .long mbl, .ref ha, .ref r0, .ref mbr, .ref mbp, .ref mby, .int (nI bl), .int (nI ta), .int (nI tl), .int (nI tk), .int vv, .ref an, .ref va])), (mrf, .inl (y 0, 3, .inl frf)), (to, .inl (y 0, 228, .inl (upd x31 j91 (fke (j91 + 228))))), (ke, .inl (y 0, 456, .inl fke)), (ik, .inl (y 2, 2, .inl fik))] := hD
            refine lv_iinc (v := (nI (j91 + 1))) (lv' := [(2, .int (nI (j91 + 1))), (0, .ref mo), (1, .int (nI 1))]) hx hb dX11_from_58 hl (k := 0) rfl (nI_1 j91) (by decide) rfl (fun ls hl => ?_)
            refine lv_goto (tgt := 33) hx hb dX11_from_61 (by decide) ?_
            exact ihj91 (j91 + 1) (upd x31 j91 (fke (j91 + 228))) H locs ls (by omega) (by omega) (by rw [hI0_j91]; exact kr_cpS) (hP.sub [0, 1, 2, 3, 4] rfl) (hD.sub [0, 1, 2, 3, 4] (by decide) rfl) hS (lv_sub hl [0, 1, 2] rfl)
      exact lp52 (228 + 1) 0 ft _ _ _ (by omega) (by omega) kr_cp0 hP hD hS (lv_sub hl [0, 1, 2] rfl)
    · skip
      exact absurd h10 hfl
  · skip
    exact absurd ⟨1, by omega, by omega, rfl⟩ h8

set_option maxHeartbeats 4000000 in
set_option maxRecDepth 100000 in
theorem gb_Plain_on5 (l : Launch) (D : va_G) (y : Nat → ClassId) (o : Nat) (t : Int32) (l2 : Int32) (c2 : Int32)  : kw_Mi l yX5_sight wsX5_sight ({ frames := 1, cells := 0, slots := 0, locals := 60 }) D y [.ref o, .int t, .int l2, .int c2] [(o, .inr (5, []))] (fun (r : Int32) (u : Unit) => r = (sg_0 t l2 c2)) (fun _ => [(o, .inr (5, []))]) 0 0 := by
  refine kw_Mi.of (cc := cX5_sight) (maxL := 4) (ret := (some .int)) (by decide) rfl ?_
  intro pZ eZ s mZ beZ meZ cZ A hE
  obtain ⟨hx, hb, hr, hml, hts, hown, hlocks, hin, hA, hP, hD, hK, hN⟩ := hE
  have hS : va_S A s.heap s.heap [] := va_S.rf
  have hl := lv_entry ([.ref o, .int t, .int l2, .int c2]) (n := 4) (Nat.le_of_ble_eq_true rfl)
  rw [lg_entry_eq]
  generalize (lg_sl ([.ref o, .int t, .int l2, .int c2]) ++ List.replicate (4 - (lg_sl ([.ref o, .int t, .int l2, .int c2])).length) Slot.unset).toArray = ls at hl ⊢
  have hl : lv_has ls 4 [(0, .ref o), (1, .int t), (2, .int l2), (3, .int c2)] := hl
  have fw1 := hts (.methodLink RX5 7 Lib.Math.max.name) (List.mem_of_getElem? (i := 1) rfl)
  have fw2 := hts (.static Lib.Math.max.name) (List.mem_of_getElem? (i := 2) rfl)
  have fw3 := hts (.initialized "java/lang/Math") (List.mem_of_getElem? (i := 3) rfl)
  have fw4 := hts (.code Lib.Math.max.name Lib.Math.max.code 2 (some .int)) (List.mem_of_getElem? (i := 4) rfl)
  refine lv_iconst (v := 0) hx hb dX5_sight_0 (by decide) ?_
  refine lv_iload_n hx hb dX5_sight_1 rfl (lv_at hl 2 rfl) ?_
  refine lv_iconst (v := 2) hx hb dX5_sight_2 (by decide) ?_
  refine lv_iload_n hx hb dX5_sight_3 rfl (lv_at hl 1 rfl) ?_
  refine lv_imul hx hb dX5_sight_4 ?_
  refine lv_isub hx hb dX5_sight_5 ?_
  refine lv_iload_n hx hb dX5_sight_6 rfl (lv_at hl 3 rfl) ?_
  refine lv_isub hx hb dX5_sight_7 ?_
  refine va_mmax hx hb (hml.trans hl.1.symm) hown fw1 fw2 fw3 fw4 (Nat.le_of_ble_eq_true rfl) (Nat.le_of_ble_eq_true rfl) (Nat.le_of_ble_eq_true rfl) (Nat.le_of_ble_eq_true rfl) dX5_sight_8 ?_
  exact W.iret (v := (if 0 < ((l2 - (2 * t)) - c2) then ((l2 - (2 * t)) - c2) else 0)) hx hb hr (fun tZ ht hW => ⟨⟨(if 0 < ((l2 - (2 * t)) - c2) then ((l2 - (2 * t)) - c2) else 0), (), rfl, rfl, by rw [ht]; exact hP.sub [0] rfl, hD.sub [0] (by decide) rfl⟩, hS.F ht⟩) hS.2.2 dX5_sight_11

set_option maxHeartbeats 4000000 in
set_option maxRecDepth 100000 in
theorem gb_Plain_on8 (l : Launch) (D : va_G) (y : Nat → ClassId) (o : Nat) (t : Int32) (l2 : Int32) (c2 : Int32)  : kw_Mi l yX5_sight wsX5_sight ({ frames := 1, cells := 0, slots := 0, locals := 60 }) D y [.ref o, .int t, .int l2, .int c2] [(o, .inr (8, []))] (fun (r : Int32) (u : Unit) => r = (sg_0 t l2 c2)) (fun _ => [(o, .inr (8, []))]) 0 0 := by
  refine kw_Mi.of (cc := cX5_sight) (maxL := 4) (ret := (some .int)) (by decide) rfl ?_
  intro pZ eZ s mZ beZ meZ cZ A hE
  obtain ⟨hx, hb, hr, hml, hts, hown, hlocks, hin, hA, hP, hD, hK, hN⟩ := hE
  have hS : va_S A s.heap s.heap [] := va_S.rf
  have hl := lv_entry ([.ref o, .int t, .int l2, .int c2]) (n := 4) (Nat.le_of_ble_eq_true rfl)
  rw [lg_entry_eq]
  generalize (lg_sl ([.ref o, .int t, .int l2, .int c2]) ++ List.replicate (4 - (lg_sl ([.ref o, .int t, .int l2, .int c2])).length) Slot.unset).toArray = ls at hl ⊢
  have hl : lv_has ls 4 [(0, .ref o), (1, .int t), (2, .int l2), (3, .int c2)] := hl
  have fw1 := hts (.methodLink RX5 7 Lib.Math.max.name) (List.mem_of_getElem? (i := 1) rfl)
  have fw2 := hts (.static Lib.Math.max.name) (List.mem_of_getElem? (i := 2) rfl)
  have fw3 := hts (.initialized "java/lang/Math") (List.mem_of_getElem? (i := 3) rfl)
  have fw4 := hts (.code Lib.Math.max.name Lib.Math.max.code 2 (some .int)) (List.mem_of_getElem? (i := 4) rfl)
  refine lv_iconst (v := 0) hx hb dX5_sight_0 (by decide) ?_
  refine lv_iload_n hx hb dX5_sight_1 rfl (lv_at hl 2 rfl) ?_
  refine lv_iconst (v := 2) hx hb dX5_sight_2 (by decide) ?_
  refine lv_iload_n hx hb dX5_sight_3 rfl (lv_at hl 1 rfl) ?_
  refine lv_imul hx hb dX5_sight_4 ?_
  refine lv_isub hx hb dX5_sight_5 ?_
  refine lv_iload_n hx hb dX5_sight_6 rfl (lv_at hl 3 rfl) ?_
  refine lv_isub hx hb dX5_sight_7 ?_
  refine va_mmax hx hb (hml.trans hl.1.symm) hown fw1 fw2 fw3 fw4 (Nat.le_of_ble_eq_true rfl) (Nat.le_of_ble_eq_true rfl) (Nat.le_of_ble_eq_true rfl) (Nat.le_of_ble_eq_true rfl) dX5_sight_8 ?_
  exact W.iret (v := (if 0 < ((l2 - (2 * t)) - c2) then ((l2 - (2 * t)) - c2) else 0)) hx hb hr (fun tZ ht hW => ⟨⟨(if 0 < ((l2 - (2 * t)) - c2) then ((l2 - (2 * t)) - c2) else 0), (), rfl, rfl, by rw [ht]; exact hP.sub [0] rfl, hD.sub [0] (by decide) rfl⟩, hS.F ht⟩) hS.2.2 dX5_sight_11

set_option maxHeartbeats 4000000 in
set_option maxRecDepth 100000 in
theorem gb_Plain_on9 (l : Launch) (D : va_G) (y : Nat → ClassId) (o : Nat) (t : Int32) (l2 : Int32) (c2 : Int32)  : kw_Mi l yX5_sight wsX5_sight ({ frames := 1, cells := 0, slots := 0, locals := 60 }) D y [.ref o, .int t, .int l2, .int c2] [(o, .inr (9, []))] (fun (r : Int32) (u : Unit) => r = (sg_0 t l2 c2)) (fun _ => [(o, .inr (9, []))]) 0 0 := by
  refine kw_Mi.of (cc := cX5_sight) (maxL := 4) (ret := (some .int)) (by decide) rfl ?_
  intro pZ eZ s mZ beZ meZ cZ A hE
  obtain ⟨hx, hb, hr, hml, hts, hown, hlocks, hin, hA, hP, hD, hK, hN⟩ := hE
  have hS : va_S A s.heap s.heap [] := va_S.rf
  have hl := lv_entry ([.ref o, .int t, .int l2, .int c2]) (n := 4) (Nat.le_of_ble_eq_true rfl)
  rw [lg_entry_eq]
  generalize (lg_sl ([.ref o, .int t, .int l2, .int c2]) ++ List.replicate (4 - (lg_sl ([.ref o, .int t, .int l2, .int c2])).length) Slot.unset).toArray = ls at hl ⊢
  have hl : lv_has ls 4 [(0, .ref o), (1, .int t), (2, .int l2), (3, .int c2)] := hl
  have fw1 := hts (.methodLink RX5 7 Lib.Math.max.name) (List.mem_of_getElem? (i := 1) rfl)
  have fw2 := hts (.static Lib.Math.max.name) (List.mem_of_getElem? (i := 2) rfl)
  have fw3 := hts (.initialized "java/lang/Math") (List.mem_of_getElem? (i := 3) rfl)
  have fw4 := hts (.code Lib.Math.max.name Lib.Math.max.code 2 (some .int)) (List.mem_of_getElem? (i := 4) rfl)
  refine lv_iconst (v := 0) hx hb dX5_sight_0 (by decide) ?_
  refine lv_iload_n hx hb dX5_sight_1 rfl (lv_at hl 2 rfl) ?_
  refine lv_iconst (v := 2) hx hb dX5_sight_2 (by decide) ?_
  refine lv_iload_n hx hb dX5_sight_3 rfl (lv_at hl 1 rfl) ?_
  refine lv_imul hx hb dX5_sight_4 ?_
  refine lv_isub hx hb dX5_sight_5 ?_
  refine lv_iload_n hx hb dX5_sight_6 rfl (lv_at hl 3 rfl) ?_
  refine lv_isub hx hb dX5_sight_7 ?_
  refine va_mmax hx hb (hml.trans hl.1.symm) hown fw1 fw2 fw3 fw4 (Nat.le_of_ble_eq_true rfl) (Nat.le_of_ble_eq_true rfl) (Nat.le_of_ble_eq_true rfl) (Nat.le_of_ble_eq_true rfl) dX5_sight_8 ?_
  exact W.iret (v := (if 0 < ((l2 - (2 * t)) - c2) then ((l2 - (2 * t)) - c2) else 0)) hx hb hr (fun tZ ht hW => ⟨⟨(if 0 < ((l2 - (2 * t)) - c2) then ((l2 - (2 * t)) - c2) else 0), (), rfl, rfl, by rw [ht]; exact hP.sub [0] rfl, hD.sub [0] (by decide) rfl⟩, hS.F ht⟩) hS.2.2 dX5_sight_11

set_option maxHeartbeats 4000000 in
set_option maxRecDepth 100000 in
theorem gb_Plain_on6 (l : Launch) (D : va_G) (y : Nat → ClassId) (o : Nat) (t : Int32) (l2 : Int32) (c2 : Int32)  : kw_Mi l yX5_sight wsX5_sight ({ frames := 1, cells := 0, slots := 0, locals := 60 }) D y [.ref o, .int t, .int l2, .int c2] [(o, .inr (6, []))] (fun (r : Int32) (u : Unit) => r = (sg_0 t l2 c2)) (fun _ => [(o, .inr (6, []))]) 0 0 := by
  refine kw_Mi.of (cc := cX5_sight) (maxL := 4) (ret := (some .int)) (by decide) rfl ?_
  intro pZ eZ s mZ beZ meZ cZ A hE
  obtain ⟨hx, hb, hr, hml, hts, hown, hlocks, hin, hA, hP, hD, hK, hN⟩ := hE
  have hS : va_S A s.heap s.heap [] := va_S.rf
  have hl := lv_entry ([.ref o, .int t, .int l2, .int c2]) (n := 4) (Nat.le_of_ble_eq_true rfl)
  rw [lg_entry_eq]
  generalize (lg_sl ([.ref o, .int t, .int l2, .int c2]) ++ List.replicate (4 - (lg_sl ([.ref o, .int t, .int l2, .int c2])).length) Slot.unset).toArray = ls at hl ⊢
  have hl : lv_has ls 4 [(0, .ref o), (1, .int t), (2, .int l2), (3, .int c2)] := hl
  have fw1 := hts (.methodLink RX5 7 Lib.Math.max.name) (List.mem_of_getElem? (i := 1) rfl)
  have fw2 := hts (.static Lib.Math.max.name) (List.mem_of_getElem? (i := 2) rfl)
  have fw3 := hts (.initialized "java/lang/Math") (List.mem_of_getElem? (i := 3) rfl)
  have fw4 := hts (.code Lib.Math.max.name Lib.Math.max.code 2 (some .int)) (List.mem_of_getElem? (i := 4) rfl)
  refine lv_iconst (v := 0) hx hb dX5_sight_0 (by decide) ?_
  refine lv_iload_n hx hb dX5_sight_1 rfl (lv_at hl 2 rfl) ?_
  refine lv_iconst (v := 2) hx hb dX5_sight_2 (by decide) ?_
  refine lv_iload_n hx hb dX5_sight_3 rfl (lv_at hl 1 rfl) ?_
  refine lv_imul hx hb dX5_sight_4 ?_
  refine lv_isub hx hb dX5_sight_5 ?_
  refine lv_iload_n hx hb dX5_sight_6 rfl (lv_at hl 3 rfl) ?_
  refine lv_isub hx hb dX5_sight_7 ?_
  refine va_mmax hx hb (hml.trans hl.1.symm) hown fw1 fw2 fw3 fw4 (Nat.le_of_ble_eq_true rfl) (Nat.le_of_ble_eq_true rfl) (Nat.le_of_ble_eq_true rfl) (Nat.le_of_ble_eq_true rfl) dX5_sight_8 ?_
  exact W.iret (v := (if 0 < ((l2 - (2 * t)) - c2) then ((l2 - (2 * t)) - c2) else 0)) hx hb hr (fun tZ ht hW => ⟨⟨(if 0 < ((l2 - (2 * t)) - c2) then ((l2 - (2 * t)) - c2) else 0), (), rfl, rfl, by rw [ht]; exact hP.sub [0] rfl, hD.sub [0] (by decide) rfl⟩, hS.F ht⟩) hS.2.2 dX5_sight_11

set_option maxHeartbeats 4000000 in
set_option maxRecDepth 100000 in
theorem gb_Plain_on2 (l : Launch) (D : va_G) (y : Nat → ClassId) (o : Nat) (t : Int32) (l2 : Int32) (c2 : Int32)  : kw_Mi l yX5_sight wsX5_sight ({ frames := 1, cells := 0, slots := 0, locals := 60 }) D y [.ref o, .int t, .int l2, .int c2] [(o, .inr (2, []))] (fun (r : Int32) (u : Unit) => r = (sg_0 t l2 c2)) (fun _ => [(o, .inr (2, []))]) 0 0 := by
  refine kw_Mi.of (cc := cX5_sight) (maxL := 4) (ret := (some .int)) (by decide) rfl ?_
  intro pZ eZ s mZ beZ meZ cZ A hE
  obtain ⟨hx, hb, hr, hml, hts, hown, hlocks, hin, hA, hP, hD, hK, hN⟩ := hE
  have hS : va_S A s.heap s.heap [] := va_S.rf
  have hl := lv_entry ([.ref o, .int t, .int l2, .int c2]) (n := 4) (Nat.le_of_ble_eq_true rfl)
  rw [lg_entry_eq]
  generalize (lg_sl ([.ref o, .int t, .int l2, .int c2]) ++ List.replicate (4 - (lg_sl ([.ref o, .int t, .int l2, .int c2])).length) Slot.unset).toArray = ls at hl ⊢
  have hl : lv_has ls 4 [(0, .ref o), (1, .int t), (2, .int l2), (3, .int c2)] := hl
  have fw1 := hts (.methodLink RX5 7 Lib.Math.max.name) (List.mem_of_getElem? (i := 1) rfl)
  have fw2 := hts (.static Lib.Math.max.name) (List.mem_of_getElem? (i := 2) rfl)
  have fw3 := hts (.initialized "java/lang/Math") (List.mem_of_getElem? (i := 3) rfl)
  have fw4 := hts (.code Lib.Math.max.name Lib.Math.max.code 2 (some .int)) (List.mem_of_getElem? (i := 4) rfl)
  refine lv_iconst (v := 0) hx hb dX5_sight_0 (by decide) ?_
  refine lv_iload_n hx hb dX5_sight_1 rfl (lv_at hl 2 rfl) ?_
  refine lv_iconst (v := 2) hx hb dX5_sight_2 (by decide) ?_
  refine lv_iload_n hx hb dX5_sight_3 rfl (lv_at hl 1 rfl) ?_
  refine lv_imul hx hb dX5_sight_4 ?_
  refine lv_isub hx hb dX5_sight_5 ?_
  refine lv_iload_n hx hb dX5_sight_6 rfl (lv_at hl 3 rfl) ?_
  refine lv_isub hx hb dX5_sight_7 ?_
  refine va_mmax hx hb (hml.trans hl.1.symm) hown fw1 fw2 fw3 fw4 (Nat.le_of_ble_eq_true rfl) (Nat.le_of_ble_eq_true rfl) (Nat.le_of_ble_eq_true rfl) (Nat.le_of_ble_eq_true rfl) dX5_sight_8 ?_
  exact W.iret (v := (if 0 < ((l2 - (2 * t)) - c2) then ((l2 - (2 * t)) - c2) else 0)) hx hb hr (fun tZ ht hW => ⟨⟨(if 0 < ((l2 - (2 * t)) - c2) then ((l2 - (2 * t)) - c2) else 0), (), rfl, rfl, by rw [ht]; exact hP.sub [0] rfl, hD.sub [0] (by decide) rfl⟩, hS.F ht⟩) hS.2.2 dX5_sight_11

set_option maxHeartbeats 4000000 in
set_option maxRecDepth 100000 in
theorem gb_Plain_on3 (l : Launch) (D : va_G) (y : Nat → ClassId) (o : Nat) (t : Int32) (l2 : Int32) (c2 : Int32)  : kw_Mi l yX5_sight wsX5_sight ({ frames := 1, cells := 0, slots := 0, locals := 60 }) D y [.ref o, .int t, .int l2, .int c2] [(o, .inr (3, []))] (fun (r : Int32) (u : Unit) => r = (sg_0 t l2 c2)) (fun _ => [(o, .inr (3, []))]) 0 0 := by
  refine kw_Mi.of (cc := cX5_sight) (maxL := 4) (ret := (some .int)) (by decide) rfl ?_
  intro pZ eZ s mZ beZ meZ cZ A hE
  obtain ⟨hx, hb, hr, hml, hts, hown, hlocks, hin, hA, hP, hD, hK, hN⟩ := hE
  have hS : va_S A s.heap s.heap [] := va_S.rf
  have hl := lv_entry ([.ref o, .int t, .int l2, .int c2]) (n := 4) (Nat.le_of_ble_eq_true rfl)
  rw [lg_entry_eq]
  generalize (lg_sl ([.ref o, .int t, .int l2, .int c2]) ++ List.replicate (4 - (lg_sl ([.ref o, .int t, .int l2, .int c2])).length) Slot.unset).toArray = ls at hl ⊢
  have hl : lv_has ls 4 [(0, .ref o), (1, .int t), (2, .int l2), (3, .int c2)] := hl
  have fw1 := hts (.methodLink RX5 7 Lib.Math.max.name) (List.mem_of_getElem? (i := 1) rfl)
  have fw2 := hts (.static Lib.Math.max.name) (List.mem_of_getElem? (i := 2) rfl)
  have fw3 := hts (.initialized "java/lang/Math") (List.mem_of_getElem? (i := 3) rfl)
  have fw4 := hts (.code Lib.Math.max.name Lib.Math.max.code 2 (some .int)) (List.mem_of_getElem? (i := 4) rfl)
  refine lv_iconst (v := 0) hx hb dX5_sight_0 (by decide) ?_
  refine lv_iload_n hx hb dX5_sight_1 rfl (lv_at hl 2 rfl) ?_
  refine lv_iconst (v := 2) hx hb dX5_sight_2 (by decide) ?_
  refine lv_iload_n hx hb dX5_sight_3 rfl (lv_at hl 1 rfl) ?_
  refine lv_imul hx hb dX5_sight_4 ?_
  refine lv_isub hx hb dX5_sight_5 ?_
  refine lv_iload_n hx hb dX5_sight_6 rfl (lv_at hl 3 rfl) ?_
  refine lv_isub hx hb dX5_sight_7 ?_
  refine va_mmax hx hb (hml.trans hl.1.symm) hown fw1 fw2 fw3 fw4 (Nat.le_of_ble_eq_true rfl) (Nat.le_of_ble_eq_true rfl) (Nat.le_of_ble_eq_true rfl) (Nat.le_of_ble_eq_true rfl) dX5_sight_8 ?_
  exact W.iret (v := (if 0 < ((l2 - (2 * t)) - c2) then ((l2 - (2 * t)) - c2) else 0)) hx hb hr (fun tZ ht hW => ⟨⟨(if 0 < ((l2 - (2 * t)) - c2) then ((l2 - (2 * t)) - c2) else 0), (), rfl, rfl, by rw [ht]; exact hP.sub [0] rfl, hD.sub [0] (by decide) rfl⟩, hS.F ht⟩) hS.2.2 dX5_sight_11

set_option maxHeartbeats 4000000 in
set_option maxRecDepth 100000 in
theorem gb_West_on8 (l : Launch) (D : va_G) (y : Nat → ClassId) (o : Nat) (t : Int32) (l2 : Int32) (c2 : Int32)  : kw_Mi l yX8_sight wsX8_sight ({ frames := 2, cells := 0, slots := 0, locals := 83 }) D y [.ref o, .int t, .int l2, .int c2] [(o, .inr (8, []))] (fun (r : Int32) (u : Unit) => r = (sg_1 t l2 c2)) (fun _ => [(o, .inr (8, []))]) 0 0 := by
  refine kw_Mi.of (cc := cX8_sight) (maxL := 5) (ret := (some .int)) (by decide) rfl ?_
  intro pZ eZ s mZ beZ meZ cZ A hE
  obtain ⟨hx, hb, hr, hml, hts, hown, hlocks, hin, hA, hP, hD, hK, hN⟩ := hE
  have hS : va_S A s.heap s.heap [] := va_S.rf
  have hl := lv_entry ([.ref o, .int t, .int l2, .int c2]) (n := 5) (Nat.le_of_ble_eq_true rfl)
  rw [lg_entry_eq]
  generalize (lg_sl ([.ref o, .int t, .int l2, .int c2]) ++ List.replicate (5 - (lg_sl ([.ref o, .int t, .int l2, .int c2])).length) Slot.unset).toArray = ls at hl ⊢
  have hl : lv_has ls 5 [(0, .ref o), (1, .int t), (2, .int l2), (3, .int c2)] := hl
  refine lv_aload_n hx hb dX8_sight_0 rfl (lv_at hl 0 rfl) ?_
  refine lv_iload_n hx hb dX8_sight_1 rfl (lv_at hl 1 rfl) ?_
  refine lv_iload_n hx hb dX8_sight_2 rfl (lv_at hl 2 rfl) ?_
  refine lv_iload_n hx hb dX8_sight_3 rfl (lv_at hl 3 rfl) ?_
  have hs1 : kw_Split [(o, .inr (8, []))] [(o, .inr (8, []))] [] [0] [] := ⟨rfl, rfl, rfl, rfl, rfl, by decide⟩
  refine kw_go_i hs1 hP hD hS hA (va_runSU (As := [.int t, .int l2, .int c2]) (rest := []) (hK.1 8 _ rfl).2 ⟨hx, hb, hml, hown, hts⟩ (gb_Plain_on8 l D y o t l2 c2  _) (va_cwSU 3 hts gX8_sight_X5_sight_s7 rfl rfl rfl (by decide +kernel) ⟨Nat.le_of_ble_eq_true rfl, Nat.le_of_ble_eq_true rfl⟩) (kw_PreV (ci := 8) (q0 := 0) hs1 hP hD hK hN rfl rfl) rfl rfl hl.1 rfl (lv_room (Nat.le_of_ble_eq_true rfl)) dX8_sight_4 ⟨Nat.le_of_ble_eq_true rfl, Nat.le_of_ble_eq_true rfl⟩) (fun r2 u3 H locs hq hP hD hS => ?_)
  obtain rfl := hq
  have hP : va_P D vwCl [(o, .inr (8, []))] H := hP
  have hD : va_D A [(o, .inr (8, []))] := hD
  refine lv_istore (lv' := [(4, .int (sg_0 t l2 c2)), (0, .ref o), (1, .int t), (2, .int l2), (3, .int c2)]) hx hb dX8_sight_7 hl (by decide) rfl (fun ls hl => ?_)
  refine lv_iload_n hx hb dX8_sight_9 rfl (lv_at hl 2 rfl) ?_
  refine lv_bipush (v := 6) hx hb dX8_sight_10 (by decide) ?_
  refine lv_icmp_lt (tgt := 27) hx hb dX8_sight_12 (by decide) (fun h4 => ?_) (fun h5 => ?_)
  · skip
    refine lv_iload hx hb dX8_sight_27 (lv_at hl 0 rfl) ?_
    exact W.iret (v := (sg_0 t l2 c2)) hx hb hr (fun tZ ht hW => ⟨⟨(sg_0 t l2 c2), (), rfl, sg_1b h4, by rw [ht]; exact hP.sub [0] rfl, hD.sub [0] (by decide) rfl⟩, hS.F ht⟩) hS.2.2 dX8_sight_29
  · skip
    refine lv_iload_n hx hb dX8_sight_15 rfl (lv_at hl 3 rfl) ?_
    refine lv_iconst (v := 1) hx hb dX8_sight_16 (by decide) ?_
    refine lv_icmp_lt (tgt := 27) hx hb dX8_sight_17 (by decide) (fun h6 => ?_) (fun h7 => ?_)
    · skip
      refine lv_iload hx hb dX8_sight_27 (lv_at hl 0 rfl) ?_
      exact W.iret (v := (sg_0 t l2 c2)) hx hb hr (fun tZ ht hW => ⟨⟨(sg_0 t l2 c2), (), rfl, sg_1c h6, by rw [ht]; exact hP.sub [0] rfl, hD.sub [0] (by decide) rfl⟩, hS.F ht⟩) hS.2.2 dX8_sight_29
    · skip
      refine lv_iload hx hb dX8_sight_20 (lv_at hl 0 rfl) ?_
      refine lv_iload_n hx hb dX8_sight_22 rfl (lv_at hl 2 rfl) ?_
      refine lv_iadd hx hb dX8_sight_23 ?_
      refine lv_goto (tgt := 29) hx hb dX8_sight_24 (by decide) ?_
      exact W.iret (v := ((sg_0 t l2 c2) + t)) hx hb hr (fun tZ ht hW => ⟨⟨((sg_0 t l2 c2) + t), (), rfl, sg_1a h5 h7, by rw [ht]; exact hP.sub [0] rfl, hD.sub [0] (by decide) rfl⟩, hS.F ht⟩) hS.2.2 dX8_sight_29

set_option maxHeartbeats 4000000 in
set_option maxRecDepth 100000 in
theorem gb_West_on2 (l : Launch) (D : va_G) (y : Nat → ClassId) (o : Nat) (t : Int32) (l2 : Int32) (c2 : Int32)  : kw_Mi l yX8_sight wsX8_sight ({ frames := 2, cells := 0, slots := 0, locals := 83 }) D y [.ref o, .int t, .int l2, .int c2] [(o, .inr (2, []))] (fun (r : Int32) (u : Unit) => r = (sg_1 t l2 c2)) (fun _ => [(o, .inr (2, []))]) 0 0 := by
  refine kw_Mi.of (cc := cX8_sight) (maxL := 5) (ret := (some .int)) (by decide) rfl ?_
  intro pZ eZ s mZ beZ meZ cZ A hE
  obtain ⟨hx, hb, hr, hml, hts, hown, hlocks, hin, hA, hP, hD, hK, hN⟩ := hE
  have hS : va_S A s.heap s.heap [] := va_S.rf
  have hl := lv_entry ([.ref o, .int t, .int l2, .int c2]) (n := 5) (Nat.le_of_ble_eq_true rfl)
  rw [lg_entry_eq]
  generalize (lg_sl ([.ref o, .int t, .int l2, .int c2]) ++ List.replicate (5 - (lg_sl ([.ref o, .int t, .int l2, .int c2])).length) Slot.unset).toArray = ls at hl ⊢
  have hl : lv_has ls 5 [(0, .ref o), (1, .int t), (2, .int l2), (3, .int c2)] := hl
  refine lv_aload_n hx hb dX8_sight_0 rfl (lv_at hl 0 rfl) ?_
  refine lv_iload_n hx hb dX8_sight_1 rfl (lv_at hl 1 rfl) ?_
  refine lv_iload_n hx hb dX8_sight_2 rfl (lv_at hl 2 rfl) ?_
  refine lv_iload_n hx hb dX8_sight_3 rfl (lv_at hl 3 rfl) ?_
  have hs1 : kw_Split [(o, .inr (2, []))] [(o, .inr (2, []))] [] [0] [] := ⟨rfl, rfl, rfl, rfl, rfl, by decide⟩
  refine kw_go_i hs1 hP hD hS hA (va_runSU (As := [.int t, .int l2, .int c2]) (rest := []) (hK.1 2 _ rfl).2 ⟨hx, hb, hml, hown, hts⟩ (gb_Plain_on2 l D y o t l2 c2  _) (va_cwSU 3 hts gX8_sight_X5_sight_s7 rfl rfl rfl (by decide +kernel) ⟨Nat.le_of_ble_eq_true rfl, Nat.le_of_ble_eq_true rfl⟩) (kw_PreV (ci := 2) (q0 := 0) hs1 hP hD hK hN rfl rfl) rfl rfl hl.1 rfl (lv_room (Nat.le_of_ble_eq_true rfl)) dX8_sight_4 ⟨Nat.le_of_ble_eq_true rfl, Nat.le_of_ble_eq_true rfl⟩) (fun r2 u3 H locs hq hP hD hS => ?_)
  obtain rfl := hq
  have hP : va_P D vwCl [(o, .inr (2, []))] H := hP
  have hD : va_D A [(o, .inr (2, []))] := hD
  refine lv_istore (lv' := [(4, .int (sg_0 t l2 c2)), (0, .ref o), (1, .int t), (2, .int l2), (3, .int c2)]) hx hb dX8_sight_7 hl (by decide) rfl (fun ls hl => ?_)
  refine lv_iload_n hx hb dX8_sight_9 rfl (lv_at hl 2 rfl) ?_
  refine lv_bipush (v := 6) hx hb dX8_sight_10 (by decide) ?_
  refine lv_icmp_lt (tgt := 27) hx hb dX8_sight_12 (by decide) (fun h4 => ?_) (fun h5 => ?_)
  · skip
    refine lv_iload hx hb dX8_sight_27 (lv_at hl 0 rfl) ?_
    exact W.iret (v := (sg_0 t l2 c2)) hx hb hr (fun tZ ht hW => ⟨⟨(sg_0 t l2 c2), (), rfl, sg_1b h4, by rw [ht]; exact hP.sub [0] rfl, hD.sub [0] (by decide) rfl⟩, hS.F ht⟩) hS.2.2 dX8_sight_29
  · skip
    refine lv_iload_n hx hb dX8_sight_15 rfl (lv_at hl 3 rfl) ?_
    refine lv_iconst (v := 1) hx hb dX8_sight_16 (by decide) ?_
    refine lv_icmp_lt (tgt := 27) hx hb dX8_sight_17 (by decide) (fun h6 => ?_) (fun h7 => ?_)
    · skip
      refine lv_iload hx hb dX8_sight_27 (lv_at hl 0 rfl) ?_
      exact W.iret (v := (sg_0 t l2 c2)) hx hb hr (fun tZ ht hW => ⟨⟨(sg_0 t l2 c2), (), rfl, sg_1c h6, by rw [ht]; exact hP.sub [0] rfl, hD.sub [0] (by decide) rfl⟩, hS.F ht⟩) hS.2.2 dX8_sight_29
    · skip
      refine lv_iload hx hb dX8_sight_20 (lv_at hl 0 rfl) ?_
      refine lv_iload_n hx hb dX8_sight_22 rfl (lv_at hl 2 rfl) ?_
      refine lv_iadd hx hb dX8_sight_23 ?_
      refine lv_goto (tgt := 29) hx hb dX8_sight_24 (by decide) ?_
      exact W.iret (v := ((sg_0 t l2 c2) + t)) hx hb hr (fun tZ ht hW => ⟨⟨((sg_0 t l2 c2) + t), (), rfl, sg_1a h5 h7, by rw [ht]; exact hP.sub [0] rfl, hD.sub [0] (by decide) rfl⟩, hS.F ht⟩) hS.2.2 dX8_sight_29

set_option maxHeartbeats 4000000 in
set_option maxRecDepth 100000 in
theorem gb_Wood_on9 (l : Launch) (D : va_G) (y : Nat → ClassId) (o : Nat) (t : Int32) (l2 : Int32) (c2 : Int32)  : kw_Mi l yX9_sight wsX9_sight ({ frames := 2, cells := 0, slots := 0, locals := 83 }) D y [.ref o, .int t, .int l2, .int c2] [(o, .inr (9, []))] (fun (r : Int32) (u : Unit) => r = (sg_2 t l2 c2)) (fun _ => [(o, .inr (9, []))]) 0 0 := by
  refine kw_Mi.of (cc := cX9_sight) (maxL := 4) (ret := (some .int)) (by decide) rfl ?_
  intro pZ eZ s mZ beZ meZ cZ A hE
  obtain ⟨hx, hb, hr, hml, hts, hown, hlocks, hin, hA, hP, hD, hK, hN⟩ := hE
  have hS : va_S A s.heap s.heap [] := va_S.rf
  have hl := lv_entry ([.ref o, .int t, .int l2, .int c2]) (n := 4) (Nat.le_of_ble_eq_true rfl)
  rw [lg_entry_eq]
  generalize (lg_sl ([.ref o, .int t, .int l2, .int c2]) ++ List.replicate (4 - (lg_sl ([.ref o, .int t, .int l2, .int c2])).length) Slot.unset).toArray = ls at hl ⊢
  have hl : lv_has ls 4 [(0, .ref o), (1, .int t), (2, .int l2), (3, .int c2)] := hl
  refine lv_aload_n hx hb dX9_sight_0 rfl (lv_at hl 0 rfl) ?_
  refine lv_iload_n hx hb dX9_sight_1 rfl (lv_at hl 1 rfl) ?_
  refine lv_iload_n hx hb dX9_sight_2 rfl (lv_at hl 2 rfl) ?_
  refine lv_iload_n hx hb dX9_sight_3 rfl (lv_at hl 3 rfl) ?_
  have hs1 : kw_Split [(o, .inr (9, []))] [(o, .inr (9, []))] [] [0] [] := ⟨rfl, rfl, rfl, rfl, rfl, by decide⟩
  refine kw_go_i hs1 hP hD hS hA (va_runSU (As := [.int t, .int l2, .int c2]) (rest := []) (hK.1 9 _ rfl).2 ⟨hx, hb, hml, hown, hts⟩ (gb_Plain_on9 l D y o t l2 c2  _) (va_cwSU 3 hts gX9_sight_X5_sight_s7 rfl rfl rfl (by decide +kernel) ⟨Nat.le_of_ble_eq_true rfl, Nat.le_of_ble_eq_true rfl⟩) (kw_PreV (ci := 9) (q0 := 0) hs1 hP hD hK hN rfl rfl) rfl rfl hl.1 rfl (lv_room (Nat.le_of_ble_eq_true rfl)) dX9_sight_4 ⟨Nat.le_of_ble_eq_true rfl, Nat.le_of_ble_eq_true rfl⟩) (fun r2 u3 H locs hq hP hD hS => ?_)
  obtain rfl := hq
  have hP : va_P D vwCl [(o, .inr (9, []))] H := hP
  have hD : va_D A [(o, .inr (9, []))] := hD
  refine lv_iconst (v := 2) hx hb dX9_sight_7 (by decide) ?_
  refine lv_idiv hx hb dX9_sight_8 (by decide) ?_
  exact W.iret (v := ((sg_0 t l2 c2) / 2)) hx hb hr (fun tZ ht hW => ⟨⟨((sg_0 t l2 c2) / 2), (), rfl, rfl, by rw [ht]; exact hP.sub [0] rfl, hD.sub [0] (by decide) rfl⟩, hS.F ht⟩) hS.2.2 dX9_sight_9

set_option maxHeartbeats 4000000 in
set_option maxRecDepth 100000 in
theorem gb_Wood_on3 (l : Launch) (D : va_G) (y : Nat → ClassId) (o : Nat) (t : Int32) (l2 : Int32) (c2 : Int32)  : kw_Mi l yX9_sight wsX9_sight ({ frames := 2, cells := 0, slots := 0, locals := 83 }) D y [.ref o, .int t, .int l2, .int c2] [(o, .inr (3, []))] (fun (r : Int32) (u : Unit) => r = (sg_2 t l2 c2)) (fun _ => [(o, .inr (3, []))]) 0 0 := by
  refine kw_Mi.of (cc := cX9_sight) (maxL := 4) (ret := (some .int)) (by decide) rfl ?_
  intro pZ eZ s mZ beZ meZ cZ A hE
  obtain ⟨hx, hb, hr, hml, hts, hown, hlocks, hin, hA, hP, hD, hK, hN⟩ := hE
  have hS : va_S A s.heap s.heap [] := va_S.rf
  have hl := lv_entry ([.ref o, .int t, .int l2, .int c2]) (n := 4) (Nat.le_of_ble_eq_true rfl)
  rw [lg_entry_eq]
  generalize (lg_sl ([.ref o, .int t, .int l2, .int c2]) ++ List.replicate (4 - (lg_sl ([.ref o, .int t, .int l2, .int c2])).length) Slot.unset).toArray = ls at hl ⊢
  have hl : lv_has ls 4 [(0, .ref o), (1, .int t), (2, .int l2), (3, .int c2)] := hl
  refine lv_aload_n hx hb dX9_sight_0 rfl (lv_at hl 0 rfl) ?_
  refine lv_iload_n hx hb dX9_sight_1 rfl (lv_at hl 1 rfl) ?_
  refine lv_iload_n hx hb dX9_sight_2 rfl (lv_at hl 2 rfl) ?_
  refine lv_iload_n hx hb dX9_sight_3 rfl (lv_at hl 3 rfl) ?_
  have hs1 : kw_Split [(o, .inr (3, []))] [(o, .inr (3, []))] [] [0] [] := ⟨rfl, rfl, rfl, rfl, rfl, by decide⟩
  refine kw_go_i hs1 hP hD hS hA (va_runSU (As := [.int t, .int l2, .int c2]) (rest := []) (hK.1 3 _ rfl).2 ⟨hx, hb, hml, hown, hts⟩ (gb_Plain_on3 l D y o t l2 c2  _) (va_cwSU 3 hts gX9_sight_X5_sight_s7 rfl rfl rfl (by decide +kernel) ⟨Nat.le_of_ble_eq_true rfl, Nat.le_of_ble_eq_true rfl⟩) (kw_PreV (ci := 3) (q0 := 0) hs1 hP hD hK hN rfl rfl) rfl rfl hl.1 rfl (lv_room (Nat.le_of_ble_eq_true rfl)) dX9_sight_4 ⟨Nat.le_of_ble_eq_true rfl, Nat.le_of_ble_eq_true rfl⟩) (fun r2 u3 H locs hq hP hD hS => ?_)
  obtain rfl := hq
  have hP : va_P D vwCl [(o, .inr (3, []))] H := hP
  have hD : va_D A [(o, .inr (3, []))] := hD
  refine lv_iconst (v := 2) hx hb dX9_sight_7 (by decide) ?_
  refine lv_idiv hx hb dX9_sight_8 (by decide) ?_
  exact W.iret (v := ((sg_0 t l2 c2) / 2)) hx hb hr (fun tZ ht hW => ⟨⟨((sg_0 t l2 c2) / 2), (), rfl, rfl, by rw [ht]; exact hP.sub [0] rfl, hD.sub [0] (by decide) rfl⟩, hS.F ht⟩) hS.2.2 dX9_sight_9

set_option maxHeartbeats 4000000 in
set_option maxRecDepth 100000 in
theorem gb_Puddle_on6 (l : Launch) (D : va_G) (y : Nat → ClassId) (o : Nat) (t : Int32) (l2 : Int32) (c2 : Int32)  : kw_Mi l yX6_sight wsX6_sight ({ frames := 2, cells := 0, slots := 0, locals := 83 }) D y [.ref o, .int t, .int l2, .int c2] [(o, .inr (6, []))] (fun (r : Int32) (u : Unit) => r = (sg_3 t l2 c2)) (fun _ => [(o, .inr (6, []))]) 0 0 := by
  refine kw_Mi.of (cc := cX6_sight) (maxL := 4) (ret := (some .int)) (by decide) rfl ?_
  intro pZ eZ s mZ beZ meZ cZ A hE
  obtain ⟨hx, hb, hr, hml, hts, hown, hlocks, hin, hA, hP, hD, hK, hN⟩ := hE
  have hS : va_S A s.heap s.heap [] := va_S.rf
  have hl := lv_entry ([.ref o, .int t, .int l2, .int c2]) (n := 4) (Nat.le_of_ble_eq_true rfl)
  rw [lg_entry_eq]
  generalize (lg_sl ([.ref o, .int t, .int l2, .int c2]) ++ List.replicate (4 - (lg_sl ([.ref o, .int t, .int l2, .int c2])).length) Slot.unset).toArray = ls at hl ⊢
  have hl : lv_has ls 4 [(0, .ref o), (1, .int t), (2, .int l2), (3, .int c2)] := hl
  have fw1 := hts (.methodLink RX6 11 Lib.Math.min.name) (List.mem_of_getElem? (i := 1) rfl)
  have fw2 := hts (.static Lib.Math.min.name) (List.mem_of_getElem? (i := 2) rfl)
  have fw3 := hts (.initialized "java/lang/Math") (List.mem_of_getElem? (i := 3) rfl)
  have fw4 := hts (.code Lib.Math.min.name Lib.Math.min.code 2 (some .int)) (List.mem_of_getElem? (i := 4) rfl)
  refine lv_iload_n hx hb dX6_sight_0 rfl (lv_at hl 2 rfl) ?_
  refine lv_aload_n hx hb dX6_sight_1 rfl (lv_at hl 0 rfl) ?_
  refine lv_iload_n hx hb dX6_sight_2 rfl (lv_at hl 1 rfl) ?_
  refine lv_iload_n hx hb dX6_sight_3 rfl (lv_at hl 2 rfl) ?_
  refine lv_iload_n hx hb dX6_sight_4 rfl (lv_at hl 3 rfl) ?_
  have hs1 : kw_Split [(o, .inr (6, []))] [(o, .inr (6, []))] [] [0] [] := ⟨rfl, rfl, rfl, rfl, rfl, by decide⟩
  refine kw_go_i hs1 hP hD hS hA (va_runSU (As := [.int t, .int l2, .int c2]) (rest := [.int l2]) (hK.1 6 _ rfl).2 ⟨hx, hb, hml, hown, hts⟩ (gb_Plain_on6 l D y o t l2 c2  _) (va_cwSU 3 hts gX6_sight_X5_sight_s7 rfl rfl rfl (by decide +kernel) ⟨Nat.le_of_ble_eq_true rfl, Nat.le_of_ble_eq_true rfl⟩) (kw_PreV (ci := 6) (q0 := 0) hs1 hP hD hK hN rfl rfl) rfl rfl hl.1 rfl (lv_room (Nat.le_of_ble_eq_true rfl)) dX6_sight_5 ⟨Nat.le_of_ble_eq_true rfl, Nat.le_of_ble_eq_true rfl⟩) (fun r2 u3 H locs hq hP hD hS => ?_)
  obtain rfl := hq
  have hP : va_P D vwCl [(o, .inr (6, []))] H := hP
  have hD : va_D A [(o, .inr (6, []))] := hD
  refine lv_iload_n hx hb dX6_sight_8 rfl (lv_at hl 3 rfl) ?_
  refine lv_iadd hx hb dX6_sight_9 ?_
  refine va_mmin hx hb (hml.trans hl.1.symm) hown fw1 fw2 fw3 fw4 (Nat.le_of_ble_eq_true rfl) (Nat.le_of_ble_eq_true rfl) (Nat.le_of_ble_eq_true rfl) (Nat.le_of_ble_eq_true rfl) dX6_sight_10 ?_
  exact W.iret (v := (if ((sg_0 t l2 c2) + c2) < l2 then ((sg_0 t l2 c2) + c2) else l2)) hx hb hr (fun tZ ht hW => ⟨⟨(if ((sg_0 t l2 c2) + c2) < l2 then ((sg_0 t l2 c2) + c2) else l2), (), rfl, rfl, by rw [ht]; exact hP.sub [0] rfl, hD.sub [0] (by decide) rfl⟩, hS.F ht⟩) hS.2.2 dX6_sight_13

set_option maxHeartbeats 4000000 in
set_option maxRecDepth 100000 in
theorem gb_Hill_on2 (l : Launch) (D : va_G) (y : Nat → ClassId) (o : Nat) (t : Int32) (l2 : Int32) (c2 : Int32)  : kw_Mi l yX2_sight wsX2_sight ({ frames := 3, cells := 0, slots := 0, locals := 107 }) D y [.ref o, .int t, .int l2, .int c2] [(o, .inr (2, []))] (fun (r : Int32) (u : Unit) => r = (sg_4 t l2 c2)) (fun _ => [(o, .inr (2, []))]) 0 0 := by
  refine kw_Mi.of (cc := cX2_sight) (maxL := 4) (ret := (some .int)) (by decide) rfl ?_
  intro pZ eZ s mZ beZ meZ cZ A hE
  obtain ⟨hx, hb, hr, hml, hts, hown, hlocks, hin, hA, hP, hD, hK, hN⟩ := hE
  have hS : va_S A s.heap s.heap [] := va_S.rf
  have hl := lv_entry ([.ref o, .int t, .int l2, .int c2]) (n := 4) (Nat.le_of_ble_eq_true rfl)
  rw [lg_entry_eq]
  generalize (lg_sl ([.ref o, .int t, .int l2, .int c2]) ++ List.replicate (4 - (lg_sl ([.ref o, .int t, .int l2, .int c2])).length) Slot.unset).toArray = ls at hl ⊢
  have hl : lv_has ls 4 [(0, .ref o), (1, .int t), (2, .int l2), (3, .int c2)] := hl
  have fw1 := hts (.methodLink RX2 7 Lib.Math.max.name) (List.mem_of_getElem? (i := 1) rfl)
  have fw2 := hts (.static Lib.Math.max.name) (List.mem_of_getElem? (i := 2) rfl)
  have fw3 := hts (.initialized "java/lang/Math") (List.mem_of_getElem? (i := 3) rfl)
  have fw4 := hts (.code Lib.Math.max.name Lib.Math.max.code 2 (some .int)) (List.mem_of_getElem? (i := 4) rfl)
  refine lv_aload_n hx hb dX2_sight_0 rfl (lv_at hl 0 rfl) ?_
  refine lv_iload_n hx hb dX2_sight_1 rfl (lv_at hl 1 rfl) ?_
  refine lv_iload_n hx hb dX2_sight_2 rfl (lv_at hl 2 rfl) ?_
  refine lv_iconst (v := 0) hx hb dX2_sight_3 (by decide) ?_
  refine lv_iload_n hx hb dX2_sight_4 rfl (lv_at hl 3 rfl) ?_
  refine lv_iconst (v := 3) hx hb dX2_sight_5 (by decide) ?_
  refine lv_isub hx hb dX2_sight_6 ?_
  refine va_mmax hx hb (hml.trans hl.1.symm) hown fw1 fw2 fw3 fw4 (Nat.le_of_ble_eq_true rfl) (Nat.le_of_ble_eq_true rfl) (Nat.le_of_ble_eq_true rfl) (Nat.le_of_ble_eq_true rfl) dX2_sight_7 ?_
  have hs1 : kw_Split [(o, .inr (2, []))] [(o, .inr (2, []))] [] [0] [] := ⟨rfl, rfl, rfl, rfl, rfl, by decide⟩
  refine kw_go_i hs1 hP hD hS hA (va_runSU (As := [.int t, .int l2, .int (if 0 < (c2 - 3) then (c2 - 3) else 0)]) (rest := []) (hK.1 2 _ rfl).2 ⟨hx, hb, hml, hown, hts⟩ (gb_West_on2 l D y o t l2 (if 0 < (c2 - 3) then (c2 - 3) else 0)  _) (va_cwSU 3 hts gX2_sight_X8_sight_s13 rfl rfl rfl (by decide +kernel) ⟨Nat.le_of_ble_eq_true rfl, Nat.le_of_ble_eq_true rfl⟩) (kw_PreV (ci := 2) (q0 := 0) hs1 hP hD hK hN rfl rfl) rfl rfl hl.1 rfl (lv_room (Nat.le_of_ble_eq_true rfl)) dX2_sight_10 ⟨Nat.le_of_ble_eq_true rfl, Nat.le_of_ble_eq_true rfl⟩) (fun r2 u3 H locs hq hP hD hS => ?_)
  obtain rfl := hq
  have hP : va_P D vwCl [(o, .inr (2, []))] H := hP
  have hD : va_D A [(o, .inr (2, []))] := hD
  exact W.iret (v := (sg_1 t l2 (if 0 < (c2 - 3) then (c2 - 3) else 0))) hx hb hr (fun tZ ht hW => ⟨⟨(sg_1 t l2 (if 0 < (c2 - 3) then (c2 - 3) else 0)), (), rfl, rfl, by rw [ht]; exact hP.sub [0] rfl, hD.sub [0] (by decide) rfl⟩, hS.F ht⟩) hS.2.2 dX2_sight_13

set_option maxHeartbeats 4000000 in
set_option maxRecDepth 100000 in
theorem gb_Lane_on3 (l : Launch) (D : va_G) (y : Nat → ClassId) (o : Nat) (t : Int32) (l2 : Int32) (c2 : Int32)  : kw_Mi l yX3_sight wsX3_sight ({ frames := 3, cells := 0, slots := 0, locals := 106 }) D y [.ref o, .int t, .int l2, .int c2] [(o, .inr (3, []))] (fun (r : Int32) (u : Unit) => r = (sg_5 t l2 c2)) (fun _ => [(o, .inr (3, []))]) 0 0 := by
  refine kw_Mi.of (cc := cX3_sight) (maxL := 4) (ret := (some .int)) (by decide) rfl ?_
  intro pZ eZ s mZ beZ meZ cZ A hE
  obtain ⟨hx, hb, hr, hml, hts, hown, hlocks, hin, hA, hP, hD, hK, hN⟩ := hE
  have hS : va_S A s.heap s.heap [] := va_S.rf
  have hl := lv_entry ([.ref o, .int t, .int l2, .int c2]) (n := 4) (Nat.le_of_ble_eq_true rfl)
  rw [lg_entry_eq]
  generalize (lg_sl ([.ref o, .int t, .int l2, .int c2]) ++ List.replicate (4 - (lg_sl ([.ref o, .int t, .int l2, .int c2])).length) Slot.unset).toArray = ls at hl ⊢
  have hl : lv_has ls 4 [(0, .ref o), (1, .int t), (2, .int l2), (3, .int c2)] := hl
  refine lv_iload_n hx hb dX3_sight_0 rfl (lv_at hl 1 rfl) ?_
  refine lv_bipush (v := 8) hx hb dX3_sight_1 (by decide) ?_
  refine lv_icmp_lt (tgt := 10) hx hb dX3_sight_3 (by decide) (fun h1 => ?_) (fun h2 => ?_)
  · skip
    refine lv_aload_n hx hb dX3_sight_10 rfl (lv_at hl 0 rfl) ?_
    refine lv_iload_n hx hb dX3_sight_11 rfl (lv_at hl 1 rfl) ?_
    refine lv_iload_n hx hb dX3_sight_12 rfl (lv_at hl 2 rfl) ?_
    refine lv_iload_n hx hb dX3_sight_13 rfl (lv_at hl 3 rfl) ?_
    have hs3 : kw_Split [(o, .inr (3, []))] [(o, .inr (3, []))] [] [0] [] := ⟨rfl, rfl, rfl, rfl, rfl, by decide⟩
    refine kw_go_i hs3 hP hD hS hA (va_runSU (As := [.int t, .int l2, .int c2]) (rest := []) (hK.1 3 _ rfl).2 ⟨hx, hb, hml, hown, hts⟩ (gb_Wood_on3 l D y o t l2 c2  _) (va_cwSU 3 hts gX3_sight_X9_sight_s7 rfl rfl rfl (by decide +kernel) ⟨Nat.le_of_ble_eq_true rfl, Nat.le_of_ble_eq_true rfl⟩) (kw_PreV (ci := 3) (q0 := 0) hs3 hP hD hK hN rfl rfl) rfl rfl hl.1 rfl (lv_room (Nat.le_of_ble_eq_true rfl)) dX3_sight_14 ⟨Nat.le_of_ble_eq_true rfl, Nat.le_of_ble_eq_true rfl⟩) (fun r4 u5 H locs hq hP hD hS => ?_)
    obtain rfl := hq
    have hP : va_P D vwCl [(o, .inr (3, []))] H := hP
    have hD : va_D A [(o, .inr (3, []))] := hD
    exact W.iret (v := (sg_2 t l2 c2)) hx hb hr (fun tZ ht hW => ⟨⟨(sg_2 t l2 c2), (), rfl, sg_5b h1, by rw [ht]; exact hP.sub [0] rfl, hD.sub [0] (by decide) rfl⟩, hS.F ht⟩) hS.2.2 dX3_sight_17
  · skip
    refine lv_iconst (v := 0) hx hb dX3_sight_6 (by decide) ?_
    refine lv_goto (tgt := 17) hx hb dX3_sight_7 (by decide) ?_
    exact W.iret (v := 0) hx hb hr (fun tZ ht hW => ⟨⟨0, (), rfl, sg_5a h2, by rw [ht]; exact hP.sub [0] rfl, hD.sub [0] (by decide) rfl⟩, hS.F ht⟩) hS.2.2 dX3_sight_17
