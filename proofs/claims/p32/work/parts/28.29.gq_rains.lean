set_option maxHeartbeats 4000000 in
set_option maxRecDepth 100000 in
theorem gq_rains (l : Launch) (D : va_G) (y : Nat → ClassId) (mo : Nat) (to : Nat) (ke : Nat) (ik : Nat) (mrf : Nat) (ha : Nat) (r0 : Nat) (mbr : Nat) (mbp : Nat) (mby : Nat) (an : Nat) (va : Nat) (mab : Int64) (mbl : Int64) (bl : Nat) (ta : Nat) (tl : Nat) (tk : Nat) (vv : Int32) (frf : Nat → Int32) (ft : Nat → Int32) (fi : Nat) (gl : Nat) (mi : Nat) (no : Nat) (un : Nat) (fh : Nat → Int32) (x : Int32) (x2 : Int32) (hk0_ : ft 0 = (nI fi)) (hk1_ : ft 1 = (nI gl)) (hk2_ : ft 2 = (nI mi)) (hk3_ : ft 3 = (nI no)) (hk4_ : ft 4 = (nI un)) (hkt : kr_t 228 ft) (hfi : fi ≤ 6) (hgl : gl ≤ 5) (hmi : mi ≤ 4) (hno : no ≤ 6) (hun : un ≤ 8) (hgf : (gl = 0 ∨ 0 < fi)) (hkh : kr_t 30 fh) : kw_Mi l yX11_rains wsX11_rains ({ frames := 5, cells := 0, slots := 0, locals := 151 }) D y [.ref mo, .int x, .int x2] [(mo, .inr (11, [.ref to, .ref ke, .ref ik, .ref mrf, .long mab, .long mbl, .ref ha, .ref r0, .ref mbr, .ref mbp, .ref mby, .int (nI bl), .int (nI ta), .int (nI tl), .int (nI tk), .int vv, .ref an, .ref va])), (mrf, .inl (y 0, 3, .inl frf)), (to, .inl (y 0, 228, .inl ft)), (ha, .inl (y 0, 30, .inl fh))] (fun (r : Int32) (u : Int64 × Int64 × (Nat → Int32) × (Nat → Int32)) => kr_t 30 u.2.2.2 ∧ (gl = 0 ∨ 0 < fi)) (fun u => [(mo, .inr (11, [.ref to, .ref ke, .ref ik, .ref mrf, .long u.1, .long u.2.1, .ref ha, .ref r0, .ref mbr, .ref mbp, .ref mby, .int (nI bl), .int (nI ta), .int (nI tl), .int (nI tk), .int vv, .ref an, .ref va])), (mrf, .inl (y 0, 3, .inl u.2.2.1)), (to, .inl (y 0, 228, .inl ft)), (ha, .inl (y 0, 30, .inl u.2.2.2))]) 0 0 := by
  refine kw_Mi.of (cc := cX11_rains) (maxL := 3) (ret := (some .int)) (by decide) rfl ?_
  intro pZ eZ s mZ beZ meZ cZ A hE
  obtain ⟨hx, hb, hr, hml, hts, hown, hlocks, hin, hA, hP, hD, hK, hN⟩ := hE
  have hS : va_S A s.heap s.heap [] := va_S.rf
  have hl := lv_entry ([.ref mo, .int x, .int x2]) (n := 3) (Nat.le_of_ble_eq_true rfl)
  rw [lg_entry_eq]
  generalize (lg_sl ([.ref mo, .int x, .int x2]) ++ List.replicate (3 - (lg_sl ([.ref mo, .int x, .int x2])).length) Slot.unset).toArray = ls at hl ⊢
  have hl : lv_has ls 3 [(0, .ref mo), (1, .int x), (2, .int x2)] := hl
  have fw1 := hts (.constantLong RX11 192 (10)) (List.mem_of_getElem? (i := 1) rfl)
  have fw2 := hts (.fieldLink RX11 27 "GleanDuskModel" "hand" "[I") (List.mem_of_getElem? (i := 2) rfl)
  have fw3 := hts (.fieldLink RX11 7 "GleanDuskModel" "told" "[I") (List.mem_of_getElem? (i := 3) rfl)
  have iw11 : ∀ w ∈ wsX110, w ∈ wsX11_rains := fun _ h => List.mem_cons_of_mem _ (List.mem_append_right _ h)
  refine lv_aload_n hx hb dX11_rains_0 rfl (lv_at hl 0 rfl) ?_
  refine lv_iload_n hx hb dX11_rains_1 rfl (lv_at hl 1 rfl) ?_
  have hs1 : kw_Split [(mo, .inr (11, [.ref to, .ref ke, .ref ik, .ref mrf, .long mab, .long mbl, .ref ha, .ref r0, .ref mbr, .ref mbp, .ref mby, .int (nI bl), .int (nI ta), .int (nI tl), .int (nI tk), .int vv, .ref an, .ref va])), (mrf, .inl (y 0, 3, .inl frf)), (to, .inl (y 0, 228, .inl ft)), (ha, .inl (y 0, 30, .inl fh))] [(mo, .inr (11, [.ref to, .ref ke, .ref ik, .ref mrf, .long mab, .long mbl, .ref ha, .ref r0, .ref mbr, .ref mbp, .ref mby, .int (nI bl), .int (nI ta), .int (nI tl), .int (nI tk), .int vv, .ref an, .ref va])), (to, .inl (y 0, 228, .inl ft))] [(mrf, .inl (y 0, 3, .inl frf)), (ha, .inl (y 0, 30, .inl fh))] [0, 2] [1, 3] := ⟨rfl, rfl, rfl, rfl, rfl, by decide⟩
  refine kw_go_i hs1 hP hD hS hA (va_runV (As := [.int x]) (rest := []) ⟨hx, hb, hml, hown, hts⟩ (gr_isField l D y mo to ke ik mrf ha r0 mbr mbp mby an va mab mbl bl ta tl tk vv ft fi gl mi no un x hk0_ hk1_ hk2_ hk3_ hk4_ hkt hfi hgl hmi hno hun _) (cwV 1 hts gX11_rains_X11_isField rfl rfl rfl (by decide +kernel) ⟨Nat.le_of_ble_eq_true rfl, Nat.le_of_ble_eq_true rfl⟩) (kw_PreV (ci := 11) (q0 := 0) hs1 hP hD hK hN rfl rfl) rfl rfl hl.1 rfl (lv_room (Nat.le_of_ble_eq_true rfl)) dX11_rains_2 ⟨Nat.le_of_ble_eq_true rfl, Nat.le_of_ble_eq_true rfl⟩) (fun r2 u3 H locs hq hP hD hS => ?_)
  rcases hq with ⟨j4, h5, rfl, rfl⟩ | ⟨h6, rfl⟩
  · skip
    have hP : va_P D vwCl [(mrf, .inl (y 0, 3, .inl frf)), (ha, .inl (y 0, 30, .inl fh)), (mo, .inr (11, [.ref to, .ref ke, .ref ik, .ref mrf, .long mab, .long mbl, .ref ha, .ref r0, .ref mbr, .ref mbp, .ref mby, .int (nI bl), .int (nI ta), .int (nI tl), .int (nI tk), .int vv, .ref an, .ref va])), (to, .inl (y 0, 228, .inl ft))] H := hP
    have hD : va_D A [(mrf, .inl (y 0, 3, .inl frf)), (ha, .inl (y 0, 30, .inl fh)), (mo, .inr (11, [.ref to, .ref ke, .ref ik, .ref mrf, .long mab, .long mbl, .ref ha, .ref r0, .ref mbr, .ref mbp, .ref mby, .int (nI bl), .int (nI ta), .int (nI tl), .int (nI tk), .int vv, .ref an, .ref va])), (to, .inl (y 0, 228, .inl ft))] := hD
    refine lv_if_eq (tgt := 20) hx hb dX11_rains_5 (by decide) (fun h9 => absurd h9 (by decide)) (fun _ => ?_)
    refine lv_iload_n hx hb dX11_rains_8 rfl (lv_at hl 2 rfl) ?_
    refine lv_i2l (v := x2.toInt64) hx hb dX11_rains_9 (rfl) ?_
    refine lv_lconst (v := 0) hx hb dX11_rains_10 (by decide) ?_
    refine lv_ldc2 (v := 10) hx hb hown fw1 dX11_rains_11 ?_
    have hs7 : kw_Split [(mrf, .inl (y 0, 3, .inl frf)), (ha, .inl (y 0, 30, .inl fh)), (mo, .inr (11, [.ref to, .ref ke, .ref ik, .ref mrf, .long mab, .long mbl, .ref ha, .ref r0, .ref mbr, .ref mbp, .ref mby, .int (nI bl), .int (nI ta), .int (nI tl), .int (nI tk), .int vv, .ref an, .ref va])), (to, .inl (y 0, 228, .inl ft))] [] [(mrf, .inl (y 0, 3, .inl frf)), (ha, .inl (y 0, 30, .inl fh)), (mo, .inr (11, [.ref to, .ref ke, .ref ik, .ref mrf, .long mab, .long mbl, .ref ha, .ref r0, .ref mbr, .ref mbp, .ref mby, .int (nI bl), .int (nI ta), .int (nI tl), .int (nI tk), .int vv, .ref an, .ref va])), (to, .inl (y 0, 228, .inl ft))] [] [0, 1, 2, 3] := ⟨rfl, rfl, rfl, rfl, rfl, by decide⟩
    refine kw_go_i hs7 hP hD hS hA (va_runS (As := [.long x2.toInt64, .long 0, .long 10]) (rest := []) ⟨hx, hb, hml, hown, hts⟩ (gr_in l D y x2 0 10 (by omega) (by omega) _) (va_cwS 3 hts gX11_rains_X11_in rfl rfl rfl (by decide +kernel) ⟨Nat.le_of_ble_eq_true rfl, Nat.le_of_ble_eq_true rfl⟩) (kw_PreS hs7 hP hD hK hN) rfl rfl hl.1 rfl (lv_room (Nat.le_of_ble_eq_true rfl)) dX11_rains_14 ⟨Nat.le_of_ble_eq_true rfl, Nat.le_of_ble_eq_true rfl⟩) (fun r8 u9 H locs hq hP hD hS => ?_)
    rcases hq with ⟨j10, h11, h12, rfl, rfl⟩ | ⟨h13, rfl⟩
    · skip
      have hP : va_P D vwCl [(mrf, .inl (y 0, 3, .inl frf)), (ha, .inl (y 0, 30, .inl fh)), (mo, .inr (11, [.ref to, .ref ke, .ref ik, .ref mrf, .long mab, .long mbl, .ref ha, .ref r0, .ref mbr, .ref mbp, .ref mby, .int (nI bl), .int (nI ta), .int (nI tl), .int (nI tk), .int vv, .ref an, .ref va])), (to, .inl (y 0, 228, .inl ft))] H := hP
      have hD : va_D A [(mrf, .inl (y 0, 3, .inl frf)), (ha, .inl (y 0, 30, .inl fh)), (mo, .inr (11, [.ref to, .ref ke, .ref ik, .ref mrf, .long mab, .long mbl, .ref ha, .ref r0, .ref mbr, .ref mbp, .ref mby, .int (nI bl), .int (nI ta), .int (nI tl), .int (nI tk), .int vv, .ref an, .ref va])), (to, .inl (y 0, 228, .inl ft))] := hD
      refine lv_if_ne (tgt := 27) hx hb dX11_rains_17 (by decide) (fun _ => ?_) (fun h9 => absurd h9 (by decide))
      refine lv_aload_n hx hb dX11_rains_27 rfl (lv_at hl 0 rfl) ?_
      have hs14 : kw_Split [(mrf, .inl (y 0, 3, .inl frf)), (ha, .inl (y 0, 30, .inl fh)), (mo, .inr (11, [.ref to, .ref ke, .ref ik, .ref mrf, .long mab, .long mbl, .ref ha, .ref r0, .ref mbr, .ref mbp, .ref mby, .int (nI bl), .int (nI ta), .int (nI tl), .int (nI tk), .int vv, .ref an, .ref va])), (to, .inl (y 0, 228, .inl ft))] [(mo, .inr (11, [.ref to, .ref ke, .ref ik, .ref mrf, .long mab, .long mbl, .ref ha, .ref r0, .ref mbr, .ref mbp, .ref mby, .int (nI bl), .int (nI ta), .int (nI tl), .int (nI tk), .int vv, .ref an, .ref va])), (to, .inl (y 0, 228, .inl ft)), (ha, .inl (y 0, 30, .inl fh))] [(mrf, .inl (y 0, 3, .inl frf))] [2, 3, 1] [0] := ⟨rfl, rfl, rfl, rfl, rfl, by decide⟩
      refine kw_go_v hs14 hP hD hS hA (va_runV (As := []) (rest := []) ⟨hx, hb, hml, hown, hts⟩ (gr_layHand l D y mo to ke ik mrf ha r0 mbr mbp mby an va mab mbl bl ta tl tk vv ft fi gl mi no un fh hk0_ hk1_ hk2_ hk3_ hk4_ hkt hfi hgl hmi hno hun hkh _) (cwV 0 hts gX11_rains_X11_layHand rfl rfl rfl (by decide +kernel) ⟨Nat.le_of_ble_eq_true rfl, Nat.le_of_ble_eq_true rfl⟩) (kw_PreV (ci := 11) (q0 := 2) hs14 hP hD hK hN rfl rfl) rfl rfl hl.1 rfl (lv_room (Nat.le_of_ble_eq_true rfl)) dX11_rains_28 ⟨Nat.le_of_ble_eq_true rfl, Nat.le_of_ble_eq_true rfl⟩) (fun u16 H locs hq hP hD hS => ?_)
      have h17 := hq
      have hk18 : (kr_cp fh ft 30) 0 = (nI fi) := ((kr_cp_lt (by decide)).trans hk0_)
      have hk19 : (kr_cp fh ft 30) 1 = (nI gl) := ((kr_cp_lt (by decide)).trans hk1_)
      have hP : va_P D vwCl [(mrf, .inl (y 0, 3, .inl frf)), (mo, .inr (11, [.ref to, .ref ke, .ref ik, .ref mrf, .long mab, .long mbl, .ref ha, .ref r0, .ref mbr, .ref mbp, .ref mby, .int (nI bl), .int (nI ta), .int (nI tl), .int (nI tk), .int vv, .ref an, .ref va])), (to, .inl (y 0, 228, .inl ft)), (ha, .inl (y 0, 30, .inl (kr_cp fh ft 30)))] H := hP
      have hD : va_D A [(mrf, .inl (y 0, 3, .inl frf)), (mo, .inr (11, [.ref to, .ref ke, .ref ik, .ref mrf, .long mab, .long mbl, .ref ha, .ref r0, .ref mbr, .ref mbp, .ref mby, .int (nI bl), .int (nI ta), .int (nI tl), .int (nI tk), .int vv, .ref an, .ref va])), (to, .inl (y 0, 228, .inl ft)), (ha, .inl (y 0, 30, .inl (kr_cp fh ft 30)))] := hD
      refine lv_aload_n hx hb dX11_rains_31 rfl (lv_at hl 0 rfl) ?_
      refine va_get (D := D) (ci := 11) (v := .ref ha) (C := RX11) (T := TX11) (N := 18) hx hb hts iw11 hown hK hP 1 rfl rfl 6 (by decide) fw2 (fun _ h9 => h9) rfl dX11_rains_32 ?_
      refine lv_bipush (v := 22) hx hb dX11_rains_35 (by decide) ?_
      refine lv_aload_n hx hb dX11_rains_37 rfl (lv_at hl 0 rfl) ?_
      refine va_get (D := D) (ci := 11) (v := .ref ha) (C := RX11) (T := TX11) (N := 18) hx hb hts iw11 hown hK hP 1 rfl rfl 6 (by decide) fw2 (fun _ h9 => h9) rfl dX11_rains_38 ?_
      refine lv_bipush (v := 22) hx hb dX11_rains_41 (by decide) ?_
      refine va_iald hx hb hK hP 3 0 rfl rfl (by unfold vp_in; decide) dX11_rains_43 ?_
      rw [show ((22 : Int32)).toNatClampNeg = 22 from rfl]
      refine lv_iconst (v := 5) hx hb dX11_rains_44 (by decide) ?_
      refine lv_iadd hx hb dX11_rains_45 ?_
      refine lv_bipush (v := 9) hx hb dX11_rains_46 (by decide) ?_
      refine lv_icmp_le (tgt := 56) hx hb dX11_rains_48 (by decide) (fun h20 => ?_) (fun h21 => ?_)
      · skip
        refine lv_aload_n hx hb dX11_rains_56 rfl (lv_at hl 0 rfl) ?_
        refine va_get (D := D) (ci := 11) (v := .ref ha) (C := RX11) (T := TX11) (N := 18) hx hb hts iw11 hown hK hP 1 rfl rfl 6 (by decide) fw2 (fun _ h9 => h9) rfl dX11_rains_57 ?_
        refine lv_bipush (v := 22) hx hb dX11_rains_60 (by decide) ?_
        refine va_iald hx hb hK hP 3 0 rfl rfl (by unfold vp_in; decide) dX11_rains_62 ?_
        rw [show ((22 : Int32)).toNatClampNeg = 22 from rfl]
        refine lv_iconst (v := 5) hx hb dX11_rains_63 (by decide) ?_
        refine lv_iadd hx hb dX11_rains_64 ?_
        refine va_iast hx hb hK hP hD hS 3 0 rfl rfl (by unfold vp_in; decide) dX11_rains_65 (fun H locs hP hD hS => ?_)
        rw [show ((22 : Int32)).toNatClampNeg = 22 from rfl] at hP hD
        have hr22 : kr_t 30 (upd (kr_cp fh ft 30) 22 (((kr_cp fh ft 30) 22) + 5)) := kr_up h17 (kr_free (by unfold kr_a; omega) (by unfold kr_s; omega))
        have hk23 : (upd (kr_cp fh ft 30) 22 (((kr_cp fh ft 30) 22) + 5)) 0 = (nI fi) := (pk_un (by decide)).trans hk18
        have hk24 : (upd (kr_cp fh ft 30) 22 (((kr_cp fh ft 30) 22) + 5)) 1 = (nI gl) := (pk_un (by decide)).trans hk19
        have hP : va_P D vwCl [(mrf, .inl (y 0, 3, .inl frf)), (mo, .inr (11, [.ref to, .ref ke, .ref ik, .ref mrf, .long mab, .long mbl, .ref ha, .ref r0, .ref mbr, .ref mbp, .ref mby, .int (nI bl), .int (nI ta), .int (nI tl), .int (nI tk), .int vv, .ref an, .ref va])), (to, .inl (y 0, 228, .inl ft)), (ha, .inl (y 0, 30, .inl (upd (kr_cp fh ft 30) 22 (((kr_cp fh ft 30) 22) + 5))))] H := hP
        have hD : va_D A [(mrf, .inl (y 0, 3, .inl frf)), (mo, .inr (11, [.ref to, .ref ke, .ref ik, .ref mrf, .long mab, .long mbl, .ref ha, .ref r0, .ref mbr, .ref mbp, .ref mby, .int (nI bl), .int (nI ta), .int (nI tl), .int (nI tk), .int vv, .ref an, .ref va])), (to, .inl (y 0, 228, .inl ft)), (ha, .inl (y 0, 30, .inl (upd (kr_cp fh ft 30) 22 (((kr_cp fh ft 30) 22) + 5))))] := hD
        refine lv_aload_n hx hb dX11_rains_66 rfl (lv_at hl 0 rfl) ?_
        refine lv_bipush (v := 10) hx hb dX11_rains_67 (by decide) ?_
        refine lv_iload_n hx hb dX11_rains_69 rfl (lv_at hl 2 rfl) ?_
        refine lv_isub hx hb dX11_rains_70 ?_
        refine lv_aload_n hx hb dX11_rains_71 rfl (lv_at hl 0 rfl) ?_
        refine va_get (D := D) (ci := 11) (v := .ref to) (C := RX11) (T := TX11) (N := 18) hx hb hts iw11 hown hK hP 1 rfl rfl 0 (by decide) fw3 (fun _ h9 => h9) rfl dX11_rains_72 ?_
        refine lv_iload_n hx hb dX11_rains_75 rfl (lv_at hl 1 rfl) ?_
        refine lv_aload_n hx hb dX11_rains_76 rfl (lv_at hl 0 rfl) ?_
        refine va_get (D := D) (ci := 11) (v := .ref to) (C := RX11) (T := TX11) (N := 18) hx hb hts iw11 hown hK hP 1 rfl rfl 0 (by decide) fw3 (fun _ h9 => h9) rfl dX11_rains_77 ?_
        refine lv_bipush (v := 21) hx hb dX11_rains_80 (by decide) ?_
        refine va_iald hx hb hK hP 2 0 rfl rfl (by unfold vp_in; decide) dX11_rains_82 ?_
        rw [show ((21 : Int32)).toNatClampNeg = 21 from rfl]
        have hs25 : kw_Split [(mrf, .inl (y 0, 3, .inl frf)), (mo, .inr (11, [.ref to, .ref ke, .ref ik, .ref mrf, .long mab, .long mbl, .ref ha, .ref r0, .ref mbr, .ref mbp, .ref mby, .int (nI bl), .int (nI ta), .int (nI tl), .int (nI tk), .int vv, .ref an, .ref va])), (to, .inl (y 0, 228, .inl ft)), (ha, .inl (y 0, 30, .inl (upd (kr_cp fh ft 30) 22 (((kr_cp fh ft 30) 22) + 5))))] [(to, .inl (y 0, 228, .inl ft))] [(mrf, .inl (y 0, 3, .inl frf)), (mo, .inr (11, [.ref to, .ref ke, .ref ik, .ref mrf, .long mab, .long mbl, .ref ha, .ref r0, .ref mbr, .ref mbp, .ref mby, .int (nI bl), .int (nI ta), .int (nI tl), .int (nI tk), .int vv, .ref an, .ref va])), (ha, .inl (y 0, 30, .inl (upd (kr_cp fh ft 30) 22 (((kr_cp fh ft 30) 22) + 5))))] [2] [0, 1, 3] := ⟨rfl, rfl, rfl, rfl, rfl, by decide⟩
        refine kw_go_i hs25 hP hD hS hA (va_runS (As := [.ref to, .int (nI j4), .int (ft 21)]) (rest := [.int (10 - (nI j10)), .ref mo]) ⟨hx, hb, hml, hown, hts⟩ (gr_seenOn228 l D y to ft fi gl mi no un j4 (ft 21) hk0_ hk1_ hk2_ hk3_ hk4_ hkt hfi hgl hmi hno hun (by omega) _) (va_cwS 3 hts gX11_rains_X11_seenOn rfl rfl rfl (by decide +kernel) ⟨Nat.le_of_ble_eq_true rfl, Nat.le_of_ble_eq_true rfl⟩) (kw_PreS hs25 hP hD hK hN) rfl rfl hl.1 rfl (lv_room (Nat.le_of_ble_eq_true rfl)) dX11_rains_83 ⟨Nat.le_of_ble_eq_true rfl, Nat.le_of_ble_eq_true rfl⟩) (fun r26 u27 H locs hq hP hD hS => ?_)
        have hP : va_P D vwCl [(mrf, .inl (y 0, 3, .inl frf)), (mo, .inr (11, [.ref to, .ref ke, .ref ik, .ref mrf, .long mab, .long mbl, .ref ha, .ref r0, .ref mbr, .ref mbp, .ref mby, .int (nI bl), .int (nI ta), .int (nI tl), .int (nI tk), .int vv, .ref an, .ref va])), (ha, .inl (y 0, 30, .inl (upd (kr_cp fh ft 30) 22 (((kr_cp fh ft 30) 22) + 5)))), (to, .inl (y 0, 228, .inl ft))] H := hP
        have hD : va_D A [(mrf, .inl (y 0, 3, .inl frf)), (mo, .inr (11, [.ref to, .ref ke, .ref ik, .ref mrf, .long mab, .long mbl, .ref ha, .ref r0, .ref mbr, .ref mbp, .ref mby, .int (nI bl), .int (nI ta), .int (nI tl), .int (nI tk), .int vv, .ref an, .ref va])), (ha, .inl (y 0, 30, .inl (upd (kr_cp fh ft 30) 22 (((kr_cp fh ft 30) 22) + 5)))), (to, .inl (y 0, 228, .inl ft))] := hD
        refine lv_imul hx hb dX11_rains_86 ?_
        refine lv_iload_n hx hb dX11_rains_87 rfl (lv_at hl 2 rfl) ?_
        refine lv_aload_n hx hb dX11_rains_88 rfl (lv_at hl 0 rfl) ?_
        refine va_get (D := D) (ci := 11) (v := .ref ha) (C := RX11) (T := TX11) (N := 18) hx hb hts iw11 hown hK hP 1 rfl rfl 6 (by decide) fw2 (fun _ h9 => h9) rfl dX11_rains_89 ?_
        refine lv_iload_n hx hb dX11_rains_92 rfl (lv_at hl 1 rfl) ?_
        refine lv_aload_n hx hb dX11_rains_93 rfl (lv_at hl 0 rfl) ?_
        refine va_get (D := D) (ci := 11) (v := .ref to) (C := RX11) (T := TX11) (N := 18) hx hb hts iw11 hown hK hP 1 rfl rfl 0 (by decide) fw3 (fun _ h9 => h9) rfl dX11_rains_94 ?_
        refine lv_bipush (v := 21) hx hb dX11_rains_97 (by decide) ?_
        refine va_iald hx hb hK hP 3 0 rfl rfl (by unfold vp_in; decide) dX11_rains_99 ?_
        rw [show ((21 : Int32)).toNatClampNeg = 21 from rfl]
        have hs28 : kw_Split [(mrf, .inl (y 0, 3, .inl frf)), (mo, .inr (11, [.ref to, .ref ke, .ref ik, .ref mrf, .long mab, .long mbl, .ref ha, .ref r0, .ref mbr, .ref mbp, .ref mby, .int (nI bl), .int (nI ta), .int (nI tl), .int (nI tk), .int vv, .ref an, .ref va])), (ha, .inl (y 0, 30, .inl (upd (kr_cp fh ft 30) 22 (((kr_cp fh ft 30) 22) + 5)))), (to, .inl (y 0, 228, .inl ft))] [(ha, .inl (y 0, 30, .inl (upd (kr_cp fh ft 30) 22 (((kr_cp fh ft 30) 22) + 5))))] [(mrf, .inl (y 0, 3, .inl frf)), (mo, .inr (11, [.ref to, .ref ke, .ref ik, .ref mrf, .long mab, .long mbl, .ref ha, .ref r0, .ref mbr, .ref mbp, .ref mby, .int (nI bl), .int (nI ta), .int (nI tl), .int (nI tk), .int vv, .ref an, .ref va])), (to, .inl (y 0, 228, .inl ft))] [2] [0, 1, 3] := ⟨rfl, rfl, rfl, rfl, rfl, by decide⟩
        refine kw_go_i hs28 hP hD hS hA (va_runS (As := [.ref ha, .int (nI j4), .int (ft 21)]) (rest := [.int (nI j10), .int ((10 - (nI j10)) * r26), .ref mo]) ⟨hx, hb, hml, hown, hts⟩ (gr_seenOn30 l D y ha (upd (kr_cp fh ft 30) 22 (((kr_cp fh ft 30) 22) + 5)) fi gl j4 (ft 21) hk23 hk24 hr22 hfi hgl (by omega) _) (va_cwS 3 hts gX11_rains_X11_seenOn rfl rfl rfl (by decide +kernel) ⟨Nat.le_of_ble_eq_true rfl, Nat.le_of_ble_eq_true rfl⟩) (kw_PreS hs28 hP hD hK hN) rfl rfl hl.1 rfl (lv_room (Nat.le_of_ble_eq_true rfl)) dX11_rains_100 ⟨Nat.le_of_ble_eq_true rfl, Nat.le_of_ble_eq_true rfl⟩) (fun r29 u30 H locs hq hP hD hS => ?_)
        have hP : va_P D vwCl [(mrf, .inl (y 0, 3, .inl frf)), (mo, .inr (11, [.ref to, .ref ke, .ref ik, .ref mrf, .long mab, .long mbl, .ref ha, .ref r0, .ref mbr, .ref mbp, .ref mby, .int (nI bl), .int (nI ta), .int (nI tl), .int (nI tk), .int vv, .ref an, .ref va])), (to, .inl (y 0, 228, .inl ft)), (ha, .inl (y 0, 30, .inl (upd (kr_cp fh ft 30) 22 (((kr_cp fh ft 30) 22) + 5))))] H := hP
        have hD : va_D A [(mrf, .inl (y 0, 3, .inl frf)), (mo, .inr (11, [.ref to, .ref ke, .ref ik, .ref mrf, .long mab, .long mbl, .ref ha, .ref r0, .ref mbr, .ref mbp, .ref mby, .int (nI bl), .int (nI ta), .int (nI tl), .int (nI tk), .int vv, .ref an, .ref va])), (to, .inl (y 0, 228, .inl ft)), (ha, .inl (y 0, 30, .inl (upd (kr_cp fh ft 30) 22 (((kr_cp fh ft 30) 22) + 5))))] := hD
        refine lv_imul hx hb dX11_rains_103 ?_
        refine lv_iadd hx hb dX11_rains_104 ?_
        refine lv_i2l (v := (((10 - (nI j10)) * r26) + ((nI j10) * r29)).toInt64) hx hb dX11_rains_105 (rfl) ?_
        refine lv_ldc2 (v := 10) hx hb hown fw1 dX11_rains_106 ?_
        have hs31 : kw_Split [(mrf, .inl (y 0, 3, .inl frf)), (mo, .inr (11, [.ref to, .ref ke, .ref ik, .ref mrf, .long mab, .long mbl, .ref ha, .ref r0, .ref mbr, .ref mbp, .ref mby, .int (nI bl), .int (nI ta), .int (nI tl), .int (nI tk), .int vv, .ref an, .ref va])), (to, .inl (y 0, 228, .inl ft)), (ha, .inl (y 0, 30, .inl (upd (kr_cp fh ft 30) 22 (((kr_cp fh ft 30) 22) + 5))))] [(mo, .inr (11, [.ref to, .ref ke, .ref ik, .ref mrf, .long mab, .long mbl, .ref ha, .ref r0, .ref mbr, .ref mbp, .ref mby, .int (nI bl), .int (nI ta), .int (nI tl), .int (nI tk), .int vv, .ref an, .ref va]))] [(mrf, .inl (y 0, 3, .inl frf)), (to, .inl (y 0, 228, .inl ft)), (ha, .inl (y 0, 30, .inl (upd (kr_cp fh ft 30) 22 (((kr_cp fh ft 30) 22) + 5))))] [1] [0, 2, 3] := ⟨rfl, rfl, rfl, rfl, rfl, by decide⟩
        refine kw_go_v hs31 hP hD hS hA (va_runV (As := [.long ((((10 - (nI j10)) * r26) + ((nI j10) * r29)).toInt64), .long 10]) (rest := []) ⟨hx, hb, hml, hown, hts⟩ (gr_fraction l D y mo to ke ik mrf ha r0 mbr mbp mby an va mab mbl bl ta tl tk vv ((((10 - (nI j10)) * r26) + ((nI j10) * r29)).toInt64)  _) (cwV 2 hts gX11_rains_X11_fraction rfl rfl rfl (by decide +kernel) ⟨Nat.le_of_ble_eq_true rfl, Nat.le_of_ble_eq_true rfl⟩) (kw_PreV (ci := 11) (q0 := 1) hs31 hP hD hK hN rfl rfl) rfl rfl hl.1 rfl (lv_room (Nat.le_of_ble_eq_true rfl)) dX11_rains_109 ⟨Nat.le_of_ble_eq_true rfl, Nat.le_of_ble_eq_true rfl⟩) (fun u33 H locs hq hP hD hS => ?_)
        obtain ⟨v34, v35⟩ := u33
        have hP : va_P D vwCl [(mrf, .inl (y 0, 3, .inl frf)), (to, .inl (y 0, 228, .inl ft)), (ha, .inl (y 0, 30, .inl (upd (kr_cp fh ft 30) 22 (((kr_cp fh ft 30) 22) + 5)))), (mo, .inr (11, [.ref to, .ref ke, .ref ik, .ref mrf, .long v34, .long v35, .ref ha, .ref r0, .ref mbr, .ref mbp, .ref mby, .int (nI bl), .int (nI ta), .int (nI tl), .int (nI tk), .int vv, .ref an, .ref va]))] H := hP
        have hD : va_D A [(mrf, .inl (y 0, 3, .inl frf)), (to, .inl (y 0, 228, .inl ft)), (ha, .inl (y 0, 30, .inl (upd (kr_cp fh ft 30) 22 (((kr_cp fh ft 30) 22) + 5)))), (mo, .inr (11, [.ref to, .ref ke, .ref ik, .ref mrf, .long v34, .long v35, .ref ha, .ref r0, .ref mbr, .ref mbp, .ref mby, .int (nI bl), .int (nI ta), .int (nI tl), .int (nI tk), .int vv, .ref an, .ref va]))] := hD
        refine lv_iconst (v := 1) hx hb dX11_rains_112 (by decide) ?_
        exact W.iret (v := 1) hx hb hr (fun tZ ht hW => ⟨⟨1, (v34, v35, frf, (upd (kr_cp fh ft 30) 22 (((kr_cp fh ft 30) 22) + 5))), rfl, ⟨hr22, by first | omega | (dsimp only; omega)⟩, by rw [ht]; exact hP.sub [3, 0, 1, 2] rfl, hD.sub [3, 0, 1, 2] (by decide) rfl⟩, hS.F ht⟩) hS.2.2 dX11_rains_113
      · skip
        refine lv_bipush (v := 9) hx hb dX11_rains_51 (by decide) ?_
        refine lv_goto (tgt := 65) hx hb dX11_rains_53 (by decide) ?_
        refine va_iast hx hb hK hP hD hS 3 0 rfl rfl (by unfold vp_in; decide) dX11_rains_65 (fun H locs hP hD hS => ?_)
        rw [show ((22 : Int32)).toNatClampNeg = 22 from rfl] at hP hD
        have hr36 : kr_t 30 (upd (kr_cp fh ft 30) 22 9) := kr_up h17 (kr_free (by unfold kr_a; omega) (by unfold kr_s; omega))
        have hk37 : (upd (kr_cp fh ft 30) 22 9) 0 = (nI fi) := (pk_un (by decide)).trans hk18
        have hk38 : (upd (kr_cp fh ft 30) 22 9) 1 = (nI gl) := (pk_un (by decide)).trans hk19
        have hP : va_P D vwCl [(mrf, .inl (y 0, 3, .inl frf)), (mo, .inr (11, [.ref to, .ref ke, .ref ik, .ref mrf, .long mab, .long mbl, .ref ha, .ref r0, .ref mbr, .ref mbp, .ref mby, .int (nI bl), .int (nI ta), .int (nI tl), .int (nI tk), .int vv, .ref an, .ref va])), (to, .inl (y 0, 228, .inl ft)), (ha, .inl (y 0, 30, .inl (upd (kr_cp fh ft 30) 22 9)))] H := hP
        have hD : va_D A [(mrf, .inl (y 0, 3, .inl frf)), (mo, .inr (11, [.ref to, .ref ke, .ref ik, .ref mrf, .long mab, .long mbl, .ref ha, .ref r0, .ref mbr, .ref mbp, .ref mby, .int (nI bl), .int (nI ta), .int (nI tl), .int (nI tk), .int vv, .ref an, .ref va])), (to, .inl (y 0, 228, .inl ft)), (ha, .inl (y 0, 30, .inl (upd (kr_cp fh ft 30) 22 9)))] := hD
        refine lv_aload_n hx hb dX11_rains_66 rfl (lv_at hl 0 rfl) ?_
        refine lv_bipush (v := 10) hx hb dX11_rains_67 (by decide) ?_
        refine lv_iload_n hx hb dX11_rains_69 rfl (lv_at hl 2 rfl) ?_
        refine lv_isub hx hb dX11_rains_70 ?_
        refine lv_aload_n hx hb dX11_rains_71 rfl (lv_at hl 0 rfl) ?_
        refine va_get (D := D) (ci := 11) (v := .ref to) (C := RX11) (T := TX11) (N := 18) hx hb hts iw11 hown hK hP 1 rfl rfl 0 (by decide) fw3 (fun _ h9 => h9) rfl dX11_rains_72 ?_
        refine lv_iload_n hx hb dX11_rains_75 rfl (lv_at hl 1 rfl) ?_
        refine lv_aload_n hx hb dX11_rains_76 rfl (lv_at hl 0 rfl) ?_
        refine va_get (D := D) (ci := 11) (v := .ref to) (C := RX11) (T := TX11) (N := 18) hx hb hts iw11 hown hK hP 1 rfl rfl 0 (by decide) fw3 (fun _ h9 => h9) rfl dX11_rains_77 ?_
        refine lv_bipush (v := 21) hx hb dX11_rains_80 (by decide) ?_
        refine va_iald hx hb hK hP 2 0 rfl rfl (by unfold vp_in; decide) dX11_rains_82 ?_
        rw [show ((21 : Int32)).toNatClampNeg = 21 from rfl]
        have hs39 : kw_Split [(mrf, .inl (y 0, 3, .inl frf)), (mo, .inr (11, [.ref to, .ref ke, .ref ik, .ref mrf, .long mab, .long mbl, .ref ha, .ref r0, .ref mbr, .ref mbp, .ref mby, .int (nI bl), .int (nI ta), .int (nI tl), .int (nI tk), .int vv, .ref an, .ref va])), (to, .inl (y 0, 228, .inl ft)), (ha, .inl (y 0, 30, .inl (upd (kr_cp fh ft 30) 22 9)))] [(to, .inl (y 0, 228, .inl ft))] [(mrf, .inl (y 0, 3, .inl frf)), (mo, .inr (11, [.ref to, .ref ke, .ref ik, .ref mrf, .long mab, .long mbl, .ref ha, .ref r0, .ref mbr, .ref mbp, .ref mby, .int (nI bl), .int (nI ta), .int (nI tl), .int (nI tk), .int vv, .ref an, .ref va])), (ha, .inl (y 0, 30, .inl (upd (kr_cp fh ft 30) 22 9)))] [2] [0, 1, 3] := ⟨rfl, rfl, rfl, rfl, rfl, by decide⟩
        refine kw_go_i hs39 hP hD hS hA (va_runS (As := [.ref to, .int (nI j4), .int (ft 21)]) (rest := [.int (10 - (nI j10)), .ref mo]) ⟨hx, hb, hml, hown, hts⟩ (gr_seenOn228 l D y to ft fi gl mi no un j4 (ft 21) hk0_ hk1_ hk2_ hk3_ hk4_ hkt hfi hgl hmi hno hun (by omega) _) (va_cwS 3 hts gX11_rains_X11_seenOn rfl rfl rfl (by decide +kernel) ⟨Nat.le_of_ble_eq_true rfl, Nat.le_of_ble_eq_true rfl⟩) (kw_PreS hs39 hP hD hK hN) rfl rfl hl.1 rfl (lv_room (Nat.le_of_ble_eq_true rfl)) dX11_rains_83 ⟨Nat.le_of_ble_eq_true rfl, Nat.le_of_ble_eq_true rfl⟩) (fun r40 u41 H locs hq hP hD hS => ?_)
        have hP : va_P D vwCl [(mrf, .inl (y 0, 3, .inl frf)), (mo, .inr (11, [.ref to, .ref ke, .ref ik, .ref mrf, .long mab, .long mbl, .ref ha, .ref r0, .ref mbr, .ref mbp, .ref mby, .int (nI bl), .int (nI ta), .int (nI tl), .int (nI tk), .int vv, .ref an, .ref va])), (ha, .inl (y 0, 30, .inl (upd (kr_cp fh ft 30) 22 9))), (to, .inl (y 0, 228, .inl ft))] H := hP
        have hD : va_D A [(mrf, .inl (y 0, 3, .inl frf)), (mo, .inr (11, [.ref to, .ref ke, .ref ik, .ref mrf, .long mab, .long mbl, .ref ha, .ref r0, .ref mbr, .ref mbp, .ref mby, .int (nI bl), .int (nI ta), .int (nI tl), .int (nI tk), .int vv, .ref an, .ref va])), (ha, .inl (y 0, 30, .inl (upd (kr_cp fh ft 30) 22 9))), (to, .inl (y 0, 228, .inl ft))] := hD
        refine lv_imul hx hb dX11_rains_86 ?_
        refine lv_iload_n hx hb dX11_rains_87 rfl (lv_at hl 2 rfl) ?_
        refine lv_aload_n hx hb dX11_rains_88 rfl (lv_at hl 0 rfl) ?_
        refine va_get (D := D) (ci := 11) (v := .ref ha) (C := RX11) (T := TX11) (N := 18) hx hb hts iw11 hown hK hP 1 rfl rfl 6 (by decide) fw2 (fun _ h9 => h9) rfl dX11_rains_89 ?_
        refine lv_iload_n hx hb dX11_rains_92 rfl (lv_at hl 1 rfl) ?_
        refine lv_aload_n hx hb dX11_rains_93 rfl (lv_at hl 0 rfl) ?_
        refine va_get (D := D) (ci := 11) (v := .ref to) (C := RX11) (T := TX11) (N := 18) hx hb hts iw11 hown hK hP 1 rfl rfl 0 (by decide) fw3 (fun _ h9 => h9) rfl dX11_rains_94 ?_
        refine lv_bipush (v := 21) hx hb dX11_rains_97 (by decide) ?_
        refine va_iald hx hb hK hP 3 0 rfl rfl (by unfold vp_in; decide) dX11_rains_99 ?_
        rw [show ((21 : Int32)).toNatClampNeg = 21 from rfl]
        have hs42 : kw_Split [(mrf, .inl (y 0, 3, .inl frf)), (mo, .inr (11, [.ref to, .ref ke, .ref ik, .ref mrf, .long mab, .long mbl, .ref ha, .ref r0, .ref mbr, .ref mbp, .ref mby, .int (nI bl), .int (nI ta), .int (nI tl), .int (nI tk), .int vv, .ref an, .ref va])), (ha, .inl (y 0, 30, .inl (upd (kr_cp fh ft 30) 22 9))), (to, .inl (y 0, 228, .inl ft))] [(ha, .inl (y 0, 30, .inl (upd (kr_cp fh ft 30) 22 9)))] [(mrf, .inl (y 0, 3, .inl frf)), (mo, .inr (11, [.ref to, .ref ke, .ref ik, .ref mrf, .long mab, .long mbl, .ref ha, .ref r0, .ref mbr, .ref mbp, .ref mby, .int (nI bl), .int (nI ta), .int (nI tl), .int (nI tk), .int vv, .ref an, .ref va])), (to, .inl (y 0, 228, .inl ft))] [2] [0, 1, 3] := ⟨rfl, rfl, rfl, rfl, rfl, by decide⟩
        refine kw_go_i hs42 hP hD hS hA (va_runS (As := [.ref ha, .int (nI j4), .int (ft 21)]) (rest := [.int (nI j10), .int ((10 - (nI j10)) * r40), .ref mo]) ⟨hx, hb, hml, hown, hts⟩ (gr_seenOn30 l D y ha (upd (kr_cp fh ft 30) 22 9) fi gl j4 (ft 21) hk37 hk38 hr36 hfi hgl (by omega) _) (va_cwS 3 hts gX11_rains_X11_seenOn rfl rfl rfl (by decide +kernel) ⟨Nat.le_of_ble_eq_true rfl, Nat.le_of_ble_eq_true rfl⟩) (kw_PreS hs42 hP hD hK hN) rfl rfl hl.1 rfl (lv_room (Nat.le_of_ble_eq_true rfl)) dX11_rains_100 ⟨Nat.le_of_ble_eq_true rfl, Nat.le_of_ble_eq_true rfl⟩) (fun r43 u44 H locs hq hP hD hS => ?_)
        have hP : va_P D vwCl [(mrf, .inl (y 0, 3, .inl frf)), (mo, .inr (11, [.ref to, .ref ke, .ref ik, .ref mrf, .long mab, .long mbl, .ref ha, .ref r0, .ref mbr, .ref mbp, .ref mby, .int (nI bl), .int (nI ta), .int (nI tl), .int (nI tk), .int vv, .ref an, .ref va])), (to, .inl (y 0, 228, .inl ft)), (ha, .inl (y 0, 30, .inl (upd (kr_cp fh ft 30) 22 9)))] H := hP
        have hD : va_D A [(mrf, .inl (y 0, 3, .inl frf)), (mo, .inr (11, [.ref to, .ref ke, .ref ik, .ref mrf, .long mab, .long mbl, .ref ha, .ref r0, .ref mbr, .ref mbp, .ref mby, .int (nI bl), .int (nI ta), .int (nI tl), .int (nI tk), .int vv, .ref an, .ref va])), (to, .inl (y 0, 228, .inl ft)), (ha, .inl (y 0, 30, .inl (upd (kr_cp fh ft 30) 22 9)))] := hD
        refine lv_imul hx hb dX11_rains_103 ?_
        refine lv_iadd hx hb dX11_rains_104 ?_
        refine lv_i2l (v := (((10 - (nI j10)) * r40) + ((nI j10) * r43)).toInt64) hx hb dX11_rains_105 (rfl) ?_
        refine lv_ldc2 (v := 10) hx hb hown fw1 dX11_rains_106 ?_
        have hs45 : kw_Split [(mrf, .inl (y 0, 3, .inl frf)), (mo, .inr (11, [.ref to, .ref ke, .ref ik, .ref mrf, .long mab, .long mbl, .ref ha, .ref r0, .ref mbr, .ref mbp, .ref mby, .int (nI bl), .int (nI ta), .int (nI tl), .int (nI tk), .int vv, .ref an, .ref va])), (to, .inl (y 0, 228, .inl ft)), (ha, .inl (y 0, 30, .inl (upd (kr_cp fh ft 30) 22 9)))] [(mo, .inr (11, [.ref to, .ref ke, .ref ik, .ref mrf, .long mab, .long mbl, .ref ha, .ref r0, .ref mbr, .ref mbp, .ref mby, .int (nI bl), .int (nI ta), .int (nI tl), .int (nI tk), .int vv, .ref an, .ref va]))] [(mrf, .inl (y 0, 3, .inl frf)), (to, .inl (y 0, 228, .inl ft)), (ha, .inl (y 0, 30, .inl (upd (kr_cp fh ft 30) 22 9)))] [1] [0, 2, 3] := ⟨rfl, rfl, rfl, rfl, rfl, by decide⟩
        refine kw_go_v hs45 hP hD hS hA (va_runV (As := [.long ((((10 - (nI j10)) * r40) + ((nI j10) * r43)).toInt64), .long 10]) (rest := []) ⟨hx, hb, hml, hown, hts⟩ (gr_fraction l D y mo to ke ik mrf ha r0 mbr mbp mby an va mab mbl bl ta tl tk vv ((((10 - (nI j10)) * r40) + ((nI j10) * r43)).toInt64)  _) (cwV 2 hts gX11_rains_X11_fraction rfl rfl rfl (by decide +kernel) ⟨Nat.le_of_ble_eq_true rfl, Nat.le_of_ble_eq_true rfl⟩) (kw_PreV (ci := 11) (q0 := 1) hs45 hP hD hK hN rfl rfl) rfl rfl hl.1 rfl (lv_room (Nat.le_of_ble_eq_true rfl)) dX11_rains_109 ⟨Nat.le_of_ble_eq_true rfl, Nat.le_of_ble_eq_true rfl⟩) (fun u47 H locs hq hP hD hS => ?_)
        obtain ⟨v48, v49⟩ := u47
        have hP : va_P D vwCl [(mrf, .inl (y 0, 3, .inl frf)), (to, .inl (y 0, 228, .inl ft)), (ha, .inl (y 0, 30, .inl (upd (kr_cp fh ft 30) 22 9))), (mo, .inr (11, [.ref to, .ref ke, .ref ik, .ref mrf, .long v48, .long v49, .ref ha, .ref r0, .ref mbr, .ref mbp, .ref mby, .int (nI bl), .int (nI ta), .int (nI tl), .int (nI tk), .int vv, .ref an, .ref va]))] H := hP
        have hD : va_D A [(mrf, .inl (y 0, 3, .inl frf)), (to, .inl (y 0, 228, .inl ft)), (ha, .inl (y 0, 30, .inl (upd (kr_cp fh ft 30) 22 9))), (mo, .inr (11, [.ref to, .ref ke, .ref ik, .ref mrf, .long v48, .long v49, .ref ha, .ref r0, .ref mbr, .ref mbp, .ref mby, .int (nI bl), .int (nI ta), .int (nI tl), .int (nI tk), .int vv, .ref an, .ref va]))] := hD
        refine lv_iconst (v := 1) hx hb dX11_rains_112 (by decide) ?_
        exact W.iret (v := 1) hx hb hr (fun tZ ht hW => ⟨⟨1, (v48, v49, frf, (upd (kr_cp fh ft 30) 22 9)), rfl, ⟨hr36, by first | omega | (dsimp only; omega)⟩, by rw [ht]; exact hP.sub [3, 0, 1, 2] rfl, hD.sub [3, 0, 1, 2] (by decide) rfl⟩, hS.F ht⟩) hS.2.2 dX11_rains_113
    · skip
      have hP : va_P D vwCl [(mrf, .inl (y 0, 3, .inl frf)), (ha, .inl (y 0, 30, .inl fh)), (mo, .inr (11, [.ref to, .ref ke, .ref ik, .ref mrf, .long mab, .long mbl, .ref ha, .ref r0, .ref mbr, .ref mbp, .ref mby, .int (nI bl), .int (nI ta), .int (nI tl), .int (nI tk), .int vv, .ref an, .ref va])), (to, .inl (y 0, 228, .inl ft))] H := hP
      have hD : va_D A [(mrf, .inl (y 0, 3, .inl frf)), (ha, .inl (y 0, 30, .inl fh)), (mo, .inr (11, [.ref to, .ref ke, .ref ik, .ref mrf, .long mab, .long mbl, .ref ha, .ref r0, .ref mbr, .ref mbp, .ref mby, .int (nI bl), .int (nI ta), .int (nI tl), .int (nI tk), .int vv, .ref an, .ref va])), (to, .inl (y 0, 228, .inl ft))] := hD
      refine lv_if_ne (tgt := 27) hx hb dX11_rains_17 (by decide) (fun h9 => absurd h9 (by decide)) (fun _ => ?_)
      refine lv_aload_n hx hb dX11_rains_20 rfl (lv_at hl 0 rfl) ?_
      refine lv_bipush (v := (-2)) hx hb dX11_rains_21 (by decide) ?_
      have hs50 : kw_Split [(mrf, .inl (y 0, 3, .inl frf)), (ha, .inl (y 0, 30, .inl fh)), (mo, .inr (11, [.ref to, .ref ke, .ref ik, .ref mrf, .long mab, .long mbl, .ref ha, .ref r0, .ref mbr, .ref mbp, .ref mby, .int (nI bl), .int (nI ta), .int (nI tl), .int (nI tk), .int vv, .ref an, .ref va])), (to, .inl (y 0, 228, .inl ft))] [(mo, .inr (11, [.ref to, .ref ke, .ref ik, .ref mrf, .long mab, .long mbl, .ref ha, .ref r0, .ref mbr, .ref mbp, .ref mby, .int (nI bl), .int (nI ta), .int (nI tl), .int (nI tk), .int vv, .ref an, .ref va])), (mrf, .inl (y 0, 3, .inl frf))] [(ha, .inl (y 0, 30, .inl fh)), (to, .inl (y 0, 228, .inl ft))] [2, 0] [1, 3] := ⟨rfl, rfl, rfl, rfl, rfl, by decide⟩
      refine kw_go_i hs50 hP hD hS hA (va_runV (As := [.int (-2)]) (rest := []) ⟨hx, hb, hml, hown, hts⟩ (gr_bad l D y mo to ke ik mrf ha r0 mbr mbp mby an va mab mbl bl ta tl tk vv frf (-2)  _) (cwV 1 hts gX11_rains_X11_bad rfl rfl rfl (by decide +kernel) ⟨Nat.le_of_ble_eq_true rfl, Nat.le_of_ble_eq_true rfl⟩) (kw_PreV (ci := 11) (q0 := 2) hs50 hP hD hK hN rfl rfl) rfl rfl hl.1 rfl (lv_room (Nat.le_of_ble_eq_true rfl)) dX11_rains_23 ⟨Nat.le_of_ble_eq_true rfl, Nat.le_of_ble_eq_true rfl⟩) (fun r51 u52 H locs hq hP hD hS => ?_)
      obtain rfl := hq
      have hP : va_P D vwCl [(ha, .inl (y 0, 30, .inl fh)), (to, .inl (y 0, 228, .inl ft)), (mo, .inr (11, [.ref to, .ref ke, .ref ik, .ref mrf, .long mab, .long mbl, .ref ha, .ref r0, .ref mbr, .ref mbp, .ref mby, .int (nI bl), .int (nI ta), .int (nI tl), .int (nI tk), .int vv, .ref an, .ref va])), (mrf, .inl (y 0, 3, .inl (upd frf 0 ((frf 0) + 1))))] H := hP
      have hD : va_D A [(ha, .inl (y 0, 30, .inl fh)), (to, .inl (y 0, 228, .inl ft)), (mo, .inr (11, [.ref to, .ref ke, .ref ik, .ref mrf, .long mab, .long mbl, .ref ha, .ref r0, .ref mbr, .ref mbp, .ref mby, .int (nI bl), .int (nI ta), .int (nI tl), .int (nI tk), .int vv, .ref an, .ref va])), (mrf, .inl (y 0, 3, .inl (upd frf 0 ((frf 0) + 1))))] := hD
      exact W.iret (v := (-2)) hx hb hr (fun tZ ht hW => ⟨⟨(-2), (mab, mbl, (upd frf 0 ((frf 0) + 1)), fh), rfl, ⟨hkh, by first | omega | (dsimp only; omega)⟩, by rw [ht]; exact hP.sub [2, 3, 1, 0] rfl, hD.sub [2, 3, 1, 0] (by decide) rfl⟩, hS.F ht⟩) hS.2.2 dX11_rains_26
  · skip
    have hP : va_P D vwCl [(mrf, .inl (y 0, 3, .inl frf)), (ha, .inl (y 0, 30, .inl fh)), (mo, .inr (11, [.ref to, .ref ke, .ref ik, .ref mrf, .long mab, .long mbl, .ref ha, .ref r0, .ref mbr, .ref mbp, .ref mby, .int (nI bl), .int (nI ta), .int (nI tl), .int (nI tk), .int vv, .ref an, .ref va])), (to, .inl (y 0, 228, .inl ft))] H := hP
    have hD : va_D A [(mrf, .inl (y 0, 3, .inl frf)), (ha, .inl (y 0, 30, .inl fh)), (mo, .inr (11, [.ref to, .ref ke, .ref ik, .ref mrf, .long mab, .long mbl, .ref ha, .ref r0, .ref mbr, .ref mbp, .ref mby, .int (nI bl), .int (nI ta), .int (nI tl), .int (nI tk), .int vv, .ref an, .ref va])), (to, .inl (y 0, 228, .inl ft))] := hD
    refine lv_if_eq (tgt := 20) hx hb dX11_rains_5 (by decide) (fun _ => ?_) (fun h9 => absurd h9 (by decide))
    refine lv_aload_n hx hb dX11_rains_20 rfl (lv_at hl 0 rfl) ?_
    refine lv_bipush (v := (-2)) hx hb dX11_rains_21 (by decide) ?_
    have hs53 : kw_Split [(mrf, .inl (y 0, 3, .inl frf)), (ha, .inl (y 0, 30, .inl fh)), (mo, .inr (11, [.ref to, .ref ke, .ref ik, .ref mrf, .long mab, .long mbl, .ref ha, .ref r0, .ref mbr, .ref mbp, .ref mby, .int (nI bl), .int (nI ta), .int (nI tl), .int (nI tk), .int vv, .ref an, .ref va])), (to, .inl (y 0, 228, .inl ft))] [(mo, .inr (11, [.ref to, .ref ke, .ref ik, .ref mrf, .long mab, .long mbl, .ref ha, .ref r0, .ref mbr, .ref mbp, .ref mby, .int (nI bl), .int (nI ta), .int (nI tl), .int (nI tk), .int vv, .ref an, .ref va])), (mrf, .inl (y 0, 3, .inl frf))] [(ha, .inl (y 0, 30, .inl fh)), (to, .inl (y 0, 228, .inl ft))] [2, 0] [1, 3] := ⟨rfl, rfl, rfl, rfl, rfl, by decide⟩
    refine kw_go_i hs53 hP hD hS hA (va_runV (As := [.int (-2)]) (rest := []) ⟨hx, hb, hml, hown, hts⟩ (gr_bad l D y mo to ke ik mrf ha r0 mbr mbp mby an va mab mbl bl ta tl tk vv frf (-2)  _) (cwV 1 hts gX11_rains_X11_bad rfl rfl rfl (by decide +kernel) ⟨Nat.le_of_ble_eq_true rfl, Nat.le_of_ble_eq_true rfl⟩) (kw_PreV (ci := 11) (q0 := 2) hs53 hP hD hK hN rfl rfl) rfl rfl hl.1 rfl (lv_room (Nat.le_of_ble_eq_true rfl)) dX11_rains_23 ⟨Nat.le_of_ble_eq_true rfl, Nat.le_of_ble_eq_true rfl⟩) (fun r54 u55 H locs hq hP hD hS => ?_)
    obtain rfl := hq
    have hP : va_P D vwCl [(ha, .inl (y 0, 30, .inl fh)), (to, .inl (y 0, 228, .inl ft)), (mo, .inr (11, [.ref to, .ref ke, .ref ik, .ref mrf, .long mab, .long mbl, .ref ha, .ref r0, .ref mbr, .ref mbp, .ref mby, .int (nI bl), .int (nI ta), .int (nI tl), .int (nI tk), .int vv, .ref an, .ref va])), (mrf, .inl (y 0, 3, .inl (upd frf 0 ((frf 0) + 1))))] H := hP
    have hD : va_D A [(ha, .inl (y 0, 30, .inl fh)), (to, .inl (y 0, 228, .inl ft)), (mo, .inr (11, [.ref to, .ref ke, .ref ik, .ref mrf, .long mab, .long mbl, .ref ha, .ref r0, .ref mbr, .ref mbp, .ref mby, .int (nI bl), .int (nI ta), .int (nI tl), .int (nI tk), .int vv, .ref an, .ref va])), (mrf, .inl (y 0, 3, .inl (upd frf 0 ((frf 0) + 1))))] := hD
    exact W.iret (v := (-2)) hx hb hr (fun tZ ht hW => ⟨⟨(-2), (mab, mbl, (upd frf 0 ((frf 0) + 1)), fh), rfl, ⟨hkh, by first | omega | (dsimp only; omega)⟩, by rw [ht]; exact hP.sub [2, 3, 1, 0] rfl, hD.sub [2, 3, 1, 0] (by decide) rfl⟩, hS.F ht⟩) hS.2.2 dX11_rains_26

set_option maxHeartbeats 4000000 in
set_option maxRecDepth 100000 in
theorem gr_fadedN (l : Launch) (D : va_G) (y : Nat → ClassId) (k : Nat) (hA1 : k ≤ 999) : kw_Mi l yX11_fadedBy wsX11_fadedBy ({ frames := 1, cells := 0, slots := 0, locals := 60 }) D y [.int (nI k)] [] (fun (r : Int32) (u : Unit) => r = (nI (k - ((k + 3) / 4)))) (fun _ => []) 0 0 := by
  refine kw_Mi.of (cc := cX11_fadedBy) (maxL := 1) (ret := (some .int)) (by decide) rfl ?_
  intro pZ eZ s mZ beZ meZ cZ A hE
  obtain ⟨hx, hb, hr, hml, hts, hown, hlocks, hin, hA, hP, hD, hK, hN⟩ := hE
  have hS : va_S A s.heap s.heap [] := va_S.rf
  have hl := lv_entry ([.int (nI k)]) (n := 1) (Nat.le_of_ble_eq_true rfl)
  rw [lg_entry_eq]
  generalize (lg_sl ([.int (nI k)]) ++ List.replicate (1 - (lg_sl ([.int (nI k)])).length) Slot.unset).toArray = ls at hl ⊢
  have hl : lv_has ls 1 [(0, .int (nI k))] := hl
  refine lv_iload_n hx hb dX11_fadedBy_0 rfl (lv_at hl 0 rfl) ?_
  refine lv_iload_n hx hb dX11_fadedBy_1 rfl (lv_at hl 0 rfl) ?_
  refine lv_iconst (v := 3) hx hb dX11_fadedBy_2 (by decide) ?_
  refine lv_iadd hx hb dX11_fadedBy_3 ?_
  rw [show (nI k) + 3 = nI (k + 3) from nI_add k 3]
  refine lv_iconst (v := 4) hx hb dX11_fadedBy_4 (by decide) ?_
  refine lv_idiv hx hb dX11_fadedBy_5 (by decide) ?_
  rw [show (nI (k + 3)) / 4 = nI ((k + 3) / 4) from pk_div (a := (k + 3)) (d := 4) (by omega) (by omega) (by omega)]
  refine lv_isub hx hb dX11_fadedBy_6 ?_
  rw [show (nI k) - (nI ((k + 3) / 4)) = nI (k - ((k + 3) / 4)) from pk_sub (a := k) (b := ((k + 3) / 4)) (by omega)]
  exact W.iret (v := (nI (k - ((k + 3) / 4)))) hx hb hr (fun tZ ht hW => ⟨⟨(nI (k - ((k + 3) / 4))), (), rfl, rfl, by rw [ht]; exact hP.sub [] rfl, hD.sub [] (by decide) rfl⟩, hS.F ht⟩) hS.2.2 dX11_fadedBy_7
