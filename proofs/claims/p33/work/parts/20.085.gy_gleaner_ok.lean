set_option maxHeartbeats 4000000 in
set_option maxRecDepth 100000 in
theorem gy_gleaner_ok (l : Launch) (D : va_G) (y : Nat → ClassId) (mo : Nat) (to : Nat) (ke : Nat) (ik : Nat) (mrf : Nat) (ha : Nat) (r0 : Nat) (mbr : Nat) (mbp : Nat) (mby : Nat) (an : Nat) (va : Nat) (mab : Int64) (mbl : Int64) (bl : Nat) (ta : Nat) (tl : Nat) (tk : Nat) (vv : Int32) (frf : Nat → Int32) (ft : Nat → Int32) (fi : Nat) (gl : Nat) (mi : Nat) (no : Nat) (un : Nat) (an1 : Nat) (hk0_ : ft 0 = (nI fi)) (hk1_ : ft 1 = (nI gl)) (hk2_ : ft 2 = (nI mi)) (hk3_ : ft 3 = (nI no)) (hk4_ : ft 4 = (nI un)) (hkt : kr_t 228 ft) (hfi : fi ≤ 6) (hgl : gl ≤ 5) (hmi : mi ≤ 4) (hno : no ≤ 6) (hun : un ≤ 8) (hgf : (gl = 0 ∨ 0 < fi)) (hA2 : ¬ gl = 5) (hB0_ : an1 < fi) : kw_Mi l yX11_gleaner wsX11_gleaner ({ frames := 3, cells := 0, slots := 0, locals := 106 }) D y [.ref mo, .int (nI an1)] [(mo, .inr (11, [.ref to, .ref ke, .ref ik, .ref mrf, .long mab, .long mbl, .ref ha, .ref r0, .ref mbr, .ref mbp, .ref mby, .int (nI bl), .int (nI ta), .int (nI tl), .int (nI tk), .int vv, .ref an, .ref va])), (mrf, .inl (y 0, 3, .inl frf)), (to, .inl (y 0, 228, .inl ft))] (fun (r : Int32) (u : Unit) => kr_t 228 (upd (upd (upd (upd ft (gl + 11) (nI an1)) (gl + 16) 0) 1 (nI (gl + 1))) 4 0) ∧ (upd (upd (upd (upd ft (gl + 11) (nI an1)) (gl + 16) 0) 1 (nI (gl + 1))) 4 0) 0 = (nI fi) ∧ (upd (upd (upd (upd ft (gl + 11) (nI an1)) (gl + 16) 0) 1 (nI (gl + 1))) 4 0) 1 = (nI (gl + 1)) ∧ (upd (upd (upd (upd ft (gl + 11) (nI an1)) (gl + 16) 0) 1 (nI (gl + 1))) 4 0) 2 = (nI mi) ∧ (upd (upd (upd (upd ft (gl + 11) (nI an1)) (gl + 16) 0) 1 (nI (gl + 1))) 4 0) 3 = (nI no) ∧ (upd (upd (upd (upd ft (gl + 11) (nI an1)) (gl + 16) 0) 1 (nI (gl + 1))) 4 0) 4 = 0 ∧ ((gl + 1) = 0 ∨ 0 < fi) ∧ r = (nI gl)) (fun _ => [(mo, .inr (11, [.ref to, .ref ke, .ref ik, .ref mrf, .long mab, .long mbl, .ref ha, .ref r0, .ref mbr, .ref mbp, .ref mby, .int (nI bl), .int (nI ta), .int (nI tl), .int (nI tk), .int vv, .ref an, .ref va])), (mrf, .inl (y 0, 3, .inl frf)), (to, .inl (y 0, 228, .inl (upd (upd (upd (upd ft (gl + 11) (nI an1)) (gl + 16) 0) 1 (nI (gl + 1))) 4 0)))]) 0 0 := by
  refine kw_Mi.of (cc := cX11_gleaner) (maxL := 2) (ret := (some .int)) (by decide) rfl ?_
  intro pZ eZ s mZ beZ meZ cZ A hE
  obtain ⟨hx, hb, hr, hml, hts, hown, hlocks, hin, hA, hP, hD, hK, hN⟩ := hE
  have hS : va_S A s.heap s.heap [] := va_S.rf
  have hl := lv_entry ([.ref mo, .int (nI an1)]) (n := 2) (Nat.le_of_ble_eq_true rfl)
  rw [lg_entry_eq]
  generalize (lg_sl ([.ref mo, .int (nI an1)]) ++ List.replicate (2 - (lg_sl ([.ref mo, .int (nI an1)])).length) Slot.unset).toArray = ls at hl ⊢
  have hl : lv_has ls 2 [(0, .ref mo), (1, .int (nI an1))] := hl
  have fw1 := hts (.fieldLink RX11 7 "GleanDuskModel" "told" "[I") (List.mem_of_getElem? (i := 1) rfl)
  have iw11 : ∀ w ∈ wsX110, w ∈ wsX11_gleaner := fun _ h => List.mem_cons_of_mem _ (List.mem_append_right _ h)
  refine lv_aload_n hx hb dX11_gleaner_0 rfl (lv_at hl 0 rfl) ?_
  refine lv_iload_n hx hb dX11_gleaner_1 rfl (lv_at hl 1 rfl) ?_
  have hs1 : kw_Split [(mo, .inr (11, [.ref to, .ref ke, .ref ik, .ref mrf, .long mab, .long mbl, .ref ha, .ref r0, .ref mbr, .ref mbp, .ref mby, .int (nI bl), .int (nI ta), .int (nI tl), .int (nI tk), .int vv, .ref an, .ref va])), (mrf, .inl (y 0, 3, .inl frf)), (to, .inl (y 0, 228, .inl ft))] [(mo, .inr (11, [.ref to, .ref ke, .ref ik, .ref mrf, .long mab, .long mbl, .ref ha, .ref r0, .ref mbr, .ref mbp, .ref mby, .int (nI bl), .int (nI ta), .int (nI tl), .int (nI tk), .int vv, .ref an, .ref va])), (to, .inl (y 0, 228, .inl ft))] [(mrf, .inl (y 0, 3, .inl frf))] [0, 2] [1] := ⟨rfl, rfl, rfl, rfl, rfl, by decide⟩
  refine kw_go_i hs1 hP hD hS hA (va_runV (As := [.int (nI an1)]) (rest := []) ⟨hx, hb, hml, hown, hts⟩ (gr_isField l D y mo to ke ik mrf ha r0 mbr mbp mby an va mab mbl bl ta tl tk vv ft fi gl mi no un (nI an1) hk0_ hk1_ hk2_ hk3_ hk4_ hkt hfi hgl hmi hno hun _) (cwV 1 hts gX11_gleaner_X11_isField rfl rfl rfl (by decide +kernel) ⟨Nat.le_of_ble_eq_true rfl, Nat.le_of_ble_eq_true rfl⟩) (kw_PreV (ci := 11) (q0 := 0) hs1 hP hD hK hN rfl rfl) rfl rfl hl.1 rfl (lv_room (Nat.le_of_ble_eq_true rfl)) dX11_gleaner_2 ⟨Nat.le_of_ble_eq_true rfl, Nat.le_of_ble_eq_true rfl⟩) (fun r2 u3 H locs hq hP hD hS => ?_)
  rcases hq with ⟨j4, h5, h6, rfl⟩ | ⟨h7, rfl⟩
  · skip
    have h6 : an1 = j4 := (nI_eq (a := an1) (b := j4) (by omega) (by omega)).mp h6
    have hP : va_P D vwCl [(mrf, .inl (y 0, 3, .inl frf)), (mo, .inr (11, [.ref to, .ref ke, .ref ik, .ref mrf, .long mab, .long mbl, .ref ha, .ref r0, .ref mbr, .ref mbp, .ref mby, .int (nI bl), .int (nI ta), .int (nI tl), .int (nI tk), .int vv, .ref an, .ref va])), (to, .inl (y 0, 228, .inl ft))] H := hP
    have hD : va_D A [(mrf, .inl (y 0, 3, .inl frf)), (mo, .inr (11, [.ref to, .ref ke, .ref ik, .ref mrf, .long mab, .long mbl, .ref ha, .ref r0, .ref mbr, .ref mbp, .ref mby, .int (nI bl), .int (nI ta), .int (nI tl), .int (nI tk), .int vv, .ref an, .ref va])), (to, .inl (y 0, 228, .inl ft))] := hD
    refine lv_if_ne (tgt := 15) hx hb dX11_gleaner_5 (by decide) (fun _ => ?_) (fun h9 => absurd h9 (by decide))
    refine lv_aload_n hx hb dX11_gleaner_15 rfl (lv_at hl 0 rfl) ?_
    have hs8 : kw_Split [(mrf, .inl (y 0, 3, .inl frf)), (mo, .inr (11, [.ref to, .ref ke, .ref ik, .ref mrf, .long mab, .long mbl, .ref ha, .ref r0, .ref mbr, .ref mbp, .ref mby, .int (nI bl), .int (nI ta), .int (nI tl), .int (nI tk), .int vv, .ref an, .ref va])), (to, .inl (y 0, 228, .inl ft))] [(mo, .inr (11, [.ref to, .ref ke, .ref ik, .ref mrf, .long mab, .long mbl, .ref ha, .ref r0, .ref mbr, .ref mbp, .ref mby, .int (nI bl), .int (nI ta), .int (nI tl), .int (nI tk), .int vv, .ref an, .ref va])), (to, .inl (y 0, 228, .inl ft))] [(mrf, .inl (y 0, 3, .inl frf))] [1, 2] [0] := ⟨rfl, rfl, rfl, rfl, rfl, by decide⟩
    refine kw_go_i hs8 hP hD hS hA (va_runV (As := []) (rest := []) ⟨hx, hb, hml, hown, hts⟩ (gr_manyGleaners l D y mo to ke ik mrf ha r0 mbr mbp mby an va mab mbl bl ta tl tk vv ft fi gl mi no un hk0_ hk1_ hk2_ hk3_ hk4_ hkt hfi hgl hmi hno hun _) (cwV 0 hts gX11_gleaner_X11_manyGleaners rfl rfl rfl (by decide +kernel) ⟨Nat.le_of_ble_eq_true rfl, Nat.le_of_ble_eq_true rfl⟩) (kw_PreV (ci := 11) (q0 := 1) hs8 hP hD hK hN rfl rfl) rfl rfl hl.1 rfl (lv_room (Nat.le_of_ble_eq_true rfl)) dX11_gleaner_16 ⟨Nat.le_of_ble_eq_true rfl, Nat.le_of_ble_eq_true rfl⟩) (fun r9 u10 H locs hq hP hD hS => ?_)
    obtain rfl := hq
    have hP : va_P D vwCl [(mrf, .inl (y 0, 3, .inl frf)), (mo, .inr (11, [.ref to, .ref ke, .ref ik, .ref mrf, .long mab, .long mbl, .ref ha, .ref r0, .ref mbr, .ref mbp, .ref mby, .int (nI bl), .int (nI ta), .int (nI tl), .int (nI tk), .int vv, .ref an, .ref va])), (to, .inl (y 0, 228, .inl ft))] H := hP
    have hD : va_D A [(mrf, .inl (y 0, 3, .inl frf)), (mo, .inr (11, [.ref to, .ref ke, .ref ik, .ref mrf, .long mab, .long mbl, .ref ha, .ref r0, .ref mbr, .ref mbp, .ref mby, .int (nI bl), .int (nI ta), .int (nI tl), .int (nI tk), .int vv, .ref an, .ref va])), (to, .inl (y 0, 228, .inl ft))] := hD
    refine lv_iconst (v := 5) hx hb dX11_gleaner_19 (by decide) ?_
    refine lv_icmp_ne (tgt := 28) hx hb dX11_gleaner_20 (by decide) (fun h11 => ?_) (fun h12 => ?_)
    · skip
      have h11 : ¬ gl = 5 := fun q9 => h11 ((nI_eq (a := gl) (b := 5) (by omega) (by omega)).mpr q9)
      refine lv_aload_n hx hb dX11_gleaner_28 rfl (lv_at hl 0 rfl) ?_
      refine va_get (D := D) (ci := 11) (v := .ref to) (C := RX11) (T := TX11) (N := 18) hx hb hts iw11 hown hK hP 1 rfl rfl 0 (by decide) fw1 (fun _ h9 => h9) rfl dX11_gleaner_29 ?_
      refine lv_iload_n hx hb dX11_gleaner_32 rfl (lv_at hl 1 rfl) ?_
      have hs13 : kw_Split [(mrf, .inl (y 0, 3, .inl frf)), (mo, .inr (11, [.ref to, .ref ke, .ref ik, .ref mrf, .long mab, .long mbl, .ref ha, .ref r0, .ref mbr, .ref mbp, .ref mby, .int (nI bl), .int (nI ta), .int (nI tl), .int (nI tk), .int vv, .ref an, .ref va])), (to, .inl (y 0, 228, .inl ft))] [(to, .inl (y 0, 228, .inl ft))] [(mrf, .inl (y 0, 3, .inl frf)), (mo, .inr (11, [.ref to, .ref ke, .ref ik, .ref mrf, .long mab, .long mbl, .ref ha, .ref r0, .ref mbr, .ref mbp, .ref mby, .int (nI bl), .int (nI ta), .int (nI tl), .int (nI tk), .int vv, .ref an, .ref va]))] [2] [0, 1] := ⟨rfl, rfl, rfl, rfl, rfl, by decide⟩
      refine kw_go_v hs13 hP hD hS hA (va_runS (As := [.ref to, .int (nI an1)]) (rest := []) ⟨hx, hb, hml, hown, hts⟩ (gr_layGleaner228 l D y to ft fi gl mi no un an1 hk0_ hk1_ hk2_ hk3_ hk4_ hkt hfi hgl hmi hno hun (by omega) (by omega) _) (va_cwS 2 hts gX11_gleaner_X11_layGleaner rfl rfl rfl (by decide +kernel) ⟨Nat.le_of_ble_eq_true rfl, Nat.le_of_ble_eq_true rfl⟩) (kw_PreS hs13 hP hD hK hN) rfl rfl hl.1 rfl (lv_room (Nat.le_of_ble_eq_true rfl)) dX11_gleaner_33 ⟨Nat.le_of_ble_eq_true rfl, Nat.le_of_ble_eq_true rfl⟩) (fun u15 H locs hq hP hD hS => ?_)
      obtain ⟨h16, h17, h18, h19, h20, h21⟩ := hq
      have hP : va_P D vwCl [(mrf, .inl (y 0, 3, .inl frf)), (mo, .inr (11, [.ref to, .ref ke, .ref ik, .ref mrf, .long mab, .long mbl, .ref ha, .ref r0, .ref mbr, .ref mbp, .ref mby, .int (nI bl), .int (nI ta), .int (nI tl), .int (nI tk), .int vv, .ref an, .ref va])), (to, .inl (y 0, 228, .inl (upd (upd (upd ft (gl + 11) (nI an1)) (gl + 16) 0) 1 (nI (gl + 1)))))] H := hP
      have hD : va_D A [(mrf, .inl (y 0, 3, .inl frf)), (mo, .inr (11, [.ref to, .ref ke, .ref ik, .ref mrf, .long mab, .long mbl, .ref ha, .ref r0, .ref mbr, .ref mbp, .ref mby, .int (nI bl), .int (nI ta), .int (nI tl), .int (nI tk), .int vv, .ref an, .ref va])), (to, .inl (y 0, 228, .inl (upd (upd (upd ft (gl + 11) (nI an1)) (gl + 16) 0) 1 (nI (gl + 1)))))] := hD
      refine lv_aload_n hx hb dX11_gleaner_36 rfl (lv_at hl 0 rfl) ?_
      refine va_get (D := D) (ci := 11) (v := .ref to) (C := RX11) (T := TX11) (N := 18) hx hb hts iw11 hown hK hP 1 rfl rfl 0 (by decide) fw1 (fun _ h9 => h9) rfl dX11_gleaner_37 ?_
      refine lv_iconst (v := 4) hx hb dX11_gleaner_40 (by decide) ?_
      refine lv_iconst (v := 0) hx hb dX11_gleaner_41 (by decide) ?_
      refine va_iast hx hb hK hP hD hS 2 0 rfl rfl (by unfold vp_in; decide) dX11_gleaner_42 (fun H locs hP hD hS => ?_)
      rw [show ((4 : Int32)).toNatClampNeg = 4 from rfl] at hP hD
      have hr22 : kr_t 228 (upd (upd (upd (upd ft (gl + 11) (nI an1)) (gl + 16) 0) 1 (nI (gl + 1))) 4 0) := kr_up h16 (kr_ok0)
      have hk23 : (upd (upd (upd (upd ft (gl + 11) (nI an1)) (gl + 16) 0) 1 (nI (gl + 1))) 4 0) 0 = (nI fi) := (pk_un (by decide)).trans h17
      have hk24 : (upd (upd (upd (upd ft (gl + 11) (nI an1)) (gl + 16) 0) 1 (nI (gl + 1))) 4 0) 1 = (nI (gl + 1)) := (pk_un (by decide)).trans h18
      have hk25 : (upd (upd (upd (upd ft (gl + 11) (nI an1)) (gl + 16) 0) 1 (nI (gl + 1))) 4 0) 2 = (nI mi) := (pk_un (by decide)).trans h19
      have hk26 : (upd (upd (upd (upd ft (gl + 11) (nI an1)) (gl + 16) 0) 1 (nI (gl + 1))) 4 0) 3 = (nI no) := (pk_un (by decide)).trans h20
      have hk27 : (upd (upd (upd (upd ft (gl + 11) (nI an1)) (gl + 16) 0) 1 (nI (gl + 1))) 4 0) 4 = 0 := pk_us
      have hP : va_P D vwCl [(mrf, .inl (y 0, 3, .inl frf)), (mo, .inr (11, [.ref to, .ref ke, .ref ik, .ref mrf, .long mab, .long mbl, .ref ha, .ref r0, .ref mbr, .ref mbp, .ref mby, .int (nI bl), .int (nI ta), .int (nI tl), .int (nI tk), .int vv, .ref an, .ref va])), (to, .inl (y 0, 228, .inl (upd (upd (upd (upd ft (gl + 11) (nI an1)) (gl + 16) 0) 1 (nI (gl + 1))) 4 0)))] H := hP
      have hD : va_D A [(mrf, .inl (y 0, 3, .inl frf)), (mo, .inr (11, [.ref to, .ref ke, .ref ik, .ref mrf, .long mab, .long mbl, .ref ha, .ref r0, .ref mbr, .ref mbp, .ref mby, .int (nI bl), .int (nI ta), .int (nI tl), .int (nI tk), .int vv, .ref an, .ref va])), (to, .inl (y 0, 228, .inl (upd (upd (upd (upd ft (gl + 11) (nI an1)) (gl + 16) 0) 1 (nI (gl + 1))) 4 0)))] := hD
      refine lv_aload_n hx hb dX11_gleaner_43 rfl (lv_at hl 0 rfl) ?_
      have hs28 : kw_Split [(mrf, .inl (y 0, 3, .inl frf)), (mo, .inr (11, [.ref to, .ref ke, .ref ik, .ref mrf, .long mab, .long mbl, .ref ha, .ref r0, .ref mbr, .ref mbp, .ref mby, .int (nI bl), .int (nI ta), .int (nI tl), .int (nI tk), .int vv, .ref an, .ref va])), (to, .inl (y 0, 228, .inl (upd (upd (upd (upd ft (gl + 11) (nI an1)) (gl + 16) 0) 1 (nI (gl + 1))) 4 0)))] [(mo, .inr (11, [.ref to, .ref ke, .ref ik, .ref mrf, .long mab, .long mbl, .ref ha, .ref r0, .ref mbr, .ref mbp, .ref mby, .int (nI bl), .int (nI ta), .int (nI tl), .int (nI tk), .int vv, .ref an, .ref va])), (to, .inl (y 0, 228, .inl (upd (upd (upd (upd ft (gl + 11) (nI an1)) (gl + 16) 0) 1 (nI (gl + 1))) 4 0)))] [(mrf, .inl (y 0, 3, .inl frf))] [1, 2] [0] := ⟨rfl, rfl, rfl, rfl, rfl, by decide⟩
      refine kw_go_i hs28 hP hD hS hA (va_runV (As := []) (rest := []) ⟨hx, hb, hml, hown, hts⟩ (gr_manyGleaners l D y mo to ke ik mrf ha r0 mbr mbp mby an va mab mbl bl ta tl tk vv (upd (upd (upd (upd ft (gl + 11) (nI an1)) (gl + 16) 0) 1 (nI (gl + 1))) 4 0) fi (gl + 1) mi no 0 hk23 hk24 hk25 hk26 hk27 hr22 hfi (by omega) hmi hno (by omega) _) (cwV 0 hts gX11_gleaner_X11_manyGleaners rfl rfl rfl (by decide +kernel) ⟨Nat.le_of_ble_eq_true rfl, Nat.le_of_ble_eq_true rfl⟩) (kw_PreV (ci := 11) (q0 := 1) hs28 hP hD hK hN rfl rfl) rfl rfl hl.1 rfl (lv_room (Nat.le_of_ble_eq_true rfl)) dX11_gleaner_44 ⟨Nat.le_of_ble_eq_true rfl, Nat.le_of_ble_eq_true rfl⟩) (fun r29 u30 H locs hq hP hD hS => ?_)
      obtain rfl := hq
      have hP : va_P D vwCl [(mrf, .inl (y 0, 3, .inl frf)), (mo, .inr (11, [.ref to, .ref ke, .ref ik, .ref mrf, .long mab, .long mbl, .ref ha, .ref r0, .ref mbr, .ref mbp, .ref mby, .int (nI bl), .int (nI ta), .int (nI tl), .int (nI tk), .int vv, .ref an, .ref va])), (to, .inl (y 0, 228, .inl (upd (upd (upd (upd ft (gl + 11) (nI an1)) (gl + 16) 0) 1 (nI (gl + 1))) 4 0)))] H := hP
      have hD : va_D A [(mrf, .inl (y 0, 3, .inl frf)), (mo, .inr (11, [.ref to, .ref ke, .ref ik, .ref mrf, .long mab, .long mbl, .ref ha, .ref r0, .ref mbr, .ref mbp, .ref mby, .int (nI bl), .int (nI ta), .int (nI tl), .int (nI tk), .int vv, .ref an, .ref va])), (to, .inl (y 0, 228, .inl (upd (upd (upd (upd ft (gl + 11) (nI an1)) (gl + 16) 0) 1 (nI (gl + 1))) 4 0)))] := hD
      refine lv_iconst (v := 1) hx hb dX11_gleaner_47 (by decide) ?_
      refine lv_isub hx hb dX11_gleaner_48 ?_
      rw [show (nI (gl + 1)) - 1 = nI (gl) from pk_sub (a := (gl + 1)) (b := 1) (by omega)]
      exact W.iret (v := (nI gl)) hx hb hr (fun tZ ht hW => ⟨⟨(nI gl), (), rfl, ⟨hr22, hk23, hk24, hk25, hk26, hk27, by first | omega | (dsimp only; omega), rfl⟩, by rw [ht]; exact hP.sub [1, 0, 2] rfl, hD.sub [1, 0, 2] (by decide) rfl⟩, hS.F ht⟩) hS.2.2 dX11_gleaner_49
    · skip
      have h12 : gl = 5 := (nI_eq (a := gl) (b := 5) (by omega) (by omega)).mp h12
      exact absurd h12 (by omega)
  · skip
    exact absurd ⟨an1, by omega, rfl⟩ h7

set_option maxHeartbeats 4000000 in
set_option maxRecDepth 100000 in
theorem gs_addMissed (l : Launch) (D : va_G) (y : Nat → ClassId) (nw : Nat) (kk : Nat) (nk : Nat) (nd : Nat) (ne : Nat) (nm : Nat) (nn : Nat) (fi : Nat) (gl : Nat) (un : Nat) (mi : Nat) (no : Nat) (m0 : Nat) (m1 : Nat) (m2 : Nat) (m3 : Nat) (m0f : Nat → Int32) (m1f : Nat → Int32) (m2f : Nat → Int32) (m3f : Nat → Int32) (fm : Nat → Option Nat) (k : Nat) (x : Int32) (x2 : Int32) (x3 : Int32) (hfi : fi ≤ 6) (hgl : gl ≤ 5) (hun : un ≤ 8) (hmi : mi ≤ 4) (hno : no ≤ 6) (hm0 : fm 0 = some m0) (hm1 : fm 1 = some m1) (hm2 : fm 2 = some m2) (hm3 : fm 3 = some m3) (hm0f : vp_in (m0f 0) 6) (hm1f : vp_in (m1f 0) 6) (hm2f : vp_in (m2f 0) 6) (hm3f : vp_in (m3f 0) 6) (hkk : k < 6) (hlt : mi < 4) : kw_Mi l yX4_addMissed wsX4_addMissed ({ frames := 1, cells := 0, slots := 0, locals := 60 }) D y [.ref nw, .int (nI k), .int x, .int x2, .int x3] [(nw, .inr (4, [.ref kk, .ref nk, .ref nd, .ref ne, .ref nm, .ref nn, .int (nI fi), .int (nI gl), .int (nI un), .int (nI mi), .int (nI no)])), (nm, .inl (y 6, 4, .inr (.inr (.inr (.inr fm))))), (m0, .inl (y 0, 4, .inl m0f)), (m1, .inl (y 0, 4, .inl m1f)), (m2, .inl (y 0, 4, .inl m2f)), (m3, .inl (y 0, 4, .inl m3f))] (fun (r : Int32) (u : (Nat → Int32) × (Nat → Int32) × (Nat → Int32) × (Nat → Int32)) => vp_in (u.1 0) 6 ∧ vp_in (u.2.1 0) 6 ∧ vp_in (u.2.2.1 0) 6 ∧ vp_in (u.2.2.2 0) 6 ∧ r = (nI (mi + 1))) (fun u => [(nw, .inr (4, [.ref kk, .ref nk, .ref nd, .ref ne, .ref nm, .ref nn, .int (nI fi), .int (nI gl), .int (nI un), .int (nI (mi + 1)), .int (nI no)])), (nm, .inl (y 6, 4, .inr (.inr (.inr (.inr fm))))), (m0, .inl (y 0, 4, .inl u.1)), (m1, .inl (y 0, 4, .inl u.2.1)), (m2, .inl (y 0, 4, .inl u.2.2.1)), (m3, .inl (y 0, 4, .inl u.2.2.2))]) 0 0 := by
  refine kw_Mi.of (cc := cX4_addMissed) (maxL := 6) (ret := (some .int)) (by decide) rfl ?_
  intro pZ eZ s mZ beZ meZ cZ A hE
  obtain ⟨hx, hb, hr, hml, hts, hown, hlocks, hin, hA, hP, hD, hK, hN⟩ := hE
  have hS : va_S A s.heap s.heap [] := va_S.rf
  have hl := lv_entry ([.ref nw, .int (nI k), .int x, .int x2, .int x3]) (n := 6) (Nat.le_of_ble_eq_true rfl)
  rw [lg_entry_eq]
  generalize (lg_sl ([.ref nw, .int (nI k), .int x, .int x2, .int x3]) ++ List.replicate (6 - (lg_sl ([.ref nw, .int (nI k), .int x, .int x2, .int x3])).length) Slot.unset).toArray = ls at hl ⊢
  have hl : lv_has ls 6 [(0, .ref nw), (1, .int (nI k)), (2, .int x), (3, .int x2), (4, .int x3)] := hl
  have fw1 := hts (.fieldLink RX4 28 "GleanDusk$Parish" "missed" "[[I") (List.mem_of_getElem? (i := 1) rfl)
  have fw2 := hts (.fieldLink RX4 48 "GleanDusk$Parish" "missedCount" "I") (List.mem_of_getElem? (i := 2) rfl)
  have iw4 : ∀ w ∈ wsX40, w ∈ wsX4_addMissed := fun _ h => List.mem_cons_of_mem _ (List.mem_append_right _ h)
  refine lv_aload_n hx hb dX4_addMissed_0 rfl (lv_at hl 0 rfl) ?_
  refine va_get (D := D) (ci := 4) (v := .ref nm) (C := RX4) (T := TX4) (N := 11) hx hb hts iw4 hown hK hP 0 rfl rfl 4 (by decide) fw1 (fun _ h9 => h9) rfl dX4_addMissed_1 ?_
  refine lv_aload_n hx hb dX4_addMissed_4 rfl (lv_at hl 0 rfl) ?_
  refine va_get (D := D) (ci := 4) (v := .int (nI mi)) (C := RX4) (T := TX4) (N := 11) hx hb hts iw4 hown hK hP 0 rfl rfl 9 (by decide) fw2 (fun _ h9 => h9) rfl dX4_addMissed_5 ?_
  rcases (show mi = 0 ∨ mi = 1 ∨ mi = 2 ∨ mi = 3 by omega) with rfl | rfl | rfl | rfl
  · skip
    refine kw_aldQ hx hb hK hP 1 6 rfl rfl (vp_in_nI (by omega) (by decide)) dX4_addMissed_8 ?_
    rw [nI_clamp (n := 0) (by omega), show va_rf (fm 0) = .ref m0 from congrArg va_rf hm0]
    refine lv_astore (lv' := [(5, .ref m0), (0, .ref nw), (1, .int (nI k)), (2, .int x), (3, .int x2), (4, .int x3)]) hx hb dX4_addMissed_9 hl (by decide) rfl (fun ls hl => ?_)
    refine lv_aload hx hb dX4_addMissed_11 (lv_at hl 0 rfl) ?_
    refine lv_iconst (v := 0) hx hb dX4_addMissed_13 (by decide) ?_
    refine lv_iload_n hx hb dX4_addMissed_14 rfl (lv_at hl 2 rfl) ?_
    refine va_iast hx hb hK hP hD hS 2 0 rfl rfl (by unfold vp_in; decide) dX4_addMissed_15 (fun H locs hP hD hS => ?_)
    rw [show ((0 : Int32)).toNatClampNeg = 0 from rfl] at hP hD
    have hp1 : vp_in ((upd m0f 0 (nI k)) 0) 6 := by rw [pk_us]; exact (vp_in_nI (by omega) (by decide))
    have hP : va_P D vwCl [(nw, .inr (4, [.ref kk, .ref nk, .ref nd, .ref ne, .ref nm, .ref nn, .int (nI fi), .int (nI gl), .int (nI un), .int (nI 0), .int (nI no)])), (nm, .inl (y 6, 4, .inr (.inr (.inr (.inr fm))))), (m0, .inl (y 0, 4, .inl (upd m0f 0 (nI k)))), (m1, .inl (y 0, 4, .inl m1f)), (m2, .inl (y 0, 4, .inl m2f)), (m3, .inl (y 0, 4, .inl m3f))] H := hP
    have hD : va_D A [(nw, .inr (4, [.ref kk, .ref nk, .ref nd, .ref ne, .ref nm, .ref nn, .int (nI fi), .int (nI gl), .int (nI un), .int (nI 0), .int (nI no)])), (nm, .inl (y 6, 4, .inr (.inr (.inr (.inr fm))))), (m0, .inl (y 0, 4, .inl (upd m0f 0 (nI k)))), (m1, .inl (y 0, 4, .inl m1f)), (m2, .inl (y 0, 4, .inl m2f)), (m3, .inl (y 0, 4, .inl m3f))] := hD
    refine lv_aload hx hb dX4_addMissed_16 (lv_at hl 0 rfl) ?_
    refine lv_iconst (v := 1) hx hb dX4_addMissed_18 (by decide) ?_
    refine lv_iload_n hx hb dX4_addMissed_19 rfl (lv_at hl 3 rfl) ?_
    refine va_iast hx hb hK hP hD hS 2 0 rfl rfl (by unfold vp_in; decide) dX4_addMissed_20 (fun H locs hP hD hS => ?_)
    rw [show ((1 : Int32)).toNatClampNeg = 1 from rfl] at hP hD
    have hp2 : vp_in ((upd (upd m0f 0 (nI k)) 1 x) 0) 6 := by rw [pk_un (by decide)]; exact hp1
    have hP : va_P D vwCl [(nw, .inr (4, [.ref kk, .ref nk, .ref nd, .ref ne, .ref nm, .ref nn, .int (nI fi), .int (nI gl), .int (nI un), .int (nI 0), .int (nI no)])), (nm, .inl (y 6, 4, .inr (.inr (.inr (.inr fm))))), (m0, .inl (y 0, 4, .inl (upd (upd m0f 0 (nI k)) 1 x))), (m1, .inl (y 0, 4, .inl m1f)), (m2, .inl (y 0, 4, .inl m2f)), (m3, .inl (y 0, 4, .inl m3f))] H := hP
    have hD : va_D A [(nw, .inr (4, [.ref kk, .ref nk, .ref nd, .ref ne, .ref nm, .ref nn, .int (nI fi), .int (nI gl), .int (nI un), .int (nI 0), .int (nI no)])), (nm, .inl (y 6, 4, .inr (.inr (.inr (.inr fm))))), (m0, .inl (y 0, 4, .inl (upd (upd m0f 0 (nI k)) 1 x))), (m1, .inl (y 0, 4, .inl m1f)), (m2, .inl (y 0, 4, .inl m2f)), (m3, .inl (y 0, 4, .inl m3f))] := hD
    refine lv_aload hx hb dX4_addMissed_21 (lv_at hl 0 rfl) ?_
    refine lv_iconst (v := 2) hx hb dX4_addMissed_23 (by decide) ?_
    refine lv_iload_n hx hb dX4_addMissed_24 rfl (lv_at hl 4 rfl) ?_
    refine va_iast hx hb hK hP hD hS 2 0 rfl rfl (by unfold vp_in; decide) dX4_addMissed_25 (fun H locs hP hD hS => ?_)
    rw [show ((2 : Int32)).toNatClampNeg = 2 from rfl] at hP hD
    have hp3 : vp_in ((upd (upd (upd m0f 0 (nI k)) 1 x) 2 x2) 0) 6 := by rw [pk_un (by decide)]; exact hp2
    have hP : va_P D vwCl [(nw, .inr (4, [.ref kk, .ref nk, .ref nd, .ref ne, .ref nm, .ref nn, .int (nI fi), .int (nI gl), .int (nI un), .int (nI 0), .int (nI no)])), (nm, .inl (y 6, 4, .inr (.inr (.inr (.inr fm))))), (m0, .inl (y 0, 4, .inl (upd (upd (upd m0f 0 (nI k)) 1 x) 2 x2))), (m1, .inl (y 0, 4, .inl m1f)), (m2, .inl (y 0, 4, .inl m2f)), (m3, .inl (y 0, 4, .inl m3f))] H := hP
    have hD : va_D A [(nw, .inr (4, [.ref kk, .ref nk, .ref nd, .ref ne, .ref nm, .ref nn, .int (nI fi), .int (nI gl), .int (nI un), .int (nI 0), .int (nI no)])), (nm, .inl (y 6, 4, .inr (.inr (.inr (.inr fm))))), (m0, .inl (y 0, 4, .inl (upd (upd (upd m0f 0 (nI k)) 1 x) 2 x2))), (m1, .inl (y 0, 4, .inl m1f)), (m2, .inl (y 0, 4, .inl m2f)), (m3, .inl (y 0, 4, .inl m3f))] := hD
    refine lv_aload hx hb dX4_addMissed_26 (lv_at hl 0 rfl) ?_
    refine lv_iconst (v := 3) hx hb dX4_addMissed_28 (by decide) ?_
    refine lv_iload hx hb dX4_addMissed_29 (lv_at hl 5 rfl) ?_
    refine va_iast hx hb hK hP hD hS 2 0 rfl rfl (by unfold vp_in; decide) dX4_addMissed_31 (fun H locs hP hD hS => ?_)
    rw [show ((3 : Int32)).toNatClampNeg = 3 from rfl] at hP hD
    have hp4 : vp_in ((upd (upd (upd (upd m0f 0 (nI k)) 1 x) 2 x2) 3 x3) 0) 6 := by rw [pk_un (by decide)]; exact hp3
    have hP : va_P D vwCl [(nw, .inr (4, [.ref kk, .ref nk, .ref nd, .ref ne, .ref nm, .ref nn, .int (nI fi), .int (nI gl), .int (nI un), .int (nI 0), .int (nI no)])), (nm, .inl (y 6, 4, .inr (.inr (.inr (.inr fm))))), (m0, .inl (y 0, 4, .inl (upd (upd (upd (upd m0f 0 (nI k)) 1 x) 2 x2) 3 x3))), (m1, .inl (y 0, 4, .inl m1f)), (m2, .inl (y 0, 4, .inl m2f)), (m3, .inl (y 0, 4, .inl m3f))] H := hP
    have hD : va_D A [(nw, .inr (4, [.ref kk, .ref nk, .ref nd, .ref ne, .ref nm, .ref nn, .int (nI fi), .int (nI gl), .int (nI un), .int (nI 0), .int (nI no)])), (nm, .inl (y 6, 4, .inr (.inr (.inr (.inr fm))))), (m0, .inl (y 0, 4, .inl (upd (upd (upd (upd m0f 0 (nI k)) 1 x) 2 x2) 3 x3))), (m1, .inl (y 0, 4, .inl m1f)), (m2, .inl (y 0, 4, .inl m2f)), (m3, .inl (y 0, 4, .inl m3f))] := hD
    refine lv_aload_n hx hb dX4_addMissed_32 rfl (lv_at hl 1 rfl) ?_
    refine lv_dup hx hb dX4_addMissed_33 rfl ?_
    refine va_get (D := D) (ci := 4) (v := .int (nI 0)) (C := RX4) (T := TX4) (N := 11) hx hb hts iw4 hown hK hP 0 rfl rfl 9 (by decide) fw2 (fun _ h9 => h9) rfl dX4_addMissed_34 ?_
    refine lv_iconst (v := 1) hx hb dX4_addMissed_37 (by decide) ?_
    refine lv_iadd hx hb dX4_addMissed_38 ?_
    rw [show (nI 0) + 1 = nI (1) from nI_add 0 1]
    refine lv_dup_x1 hx hb dX4_addMissed_39 rfl rfl ?_
    refine va_put (D := D) (ci := 4) (v := .int (nI 1)) (ty := .int) (C := RX4) (T := TX4) (N := 11) hx hb hts iw4 tyX4 tyX4_ok nmX4 hown hK hP hD hS 0 rfl rfl 9 (by decide) fw2 (fun _ h9 => h9) rfl (by decide +kernel) rfl rfl (Nat.le_of_ble_eq_true rfl) dX4_addMissed_40 (fun H locs hP hD hS => ?_)
    have hP : va_P D vwCl [(nw, .inr (4, [.ref kk, .ref nk, .ref nd, .ref ne, .ref nm, .ref nn, .int (nI fi), .int (nI gl), .int (nI un), .int (nI 1), .int (nI no)])), (nm, .inl (y 6, 4, .inr (.inr (.inr (.inr fm))))), (m0, .inl (y 0, 4, .inl (upd (upd (upd (upd m0f 0 (nI k)) 1 x) 2 x2) 3 x3))), (m1, .inl (y 0, 4, .inl m1f)), (m2, .inl (y 0, 4, .inl m2f)), (m3, .inl (y 0, 4, .inl m3f))] H := hP
    have hD : va_D A [(nw, .inr (4, [.ref kk, .ref nk, .ref nd, .ref ne, .ref nm, .ref nn, .int (nI fi), .int (nI gl), .int (nI un), .int (nI 1), .int (nI no)])), (nm, .inl (y 6, 4, .inr (.inr (.inr (.inr fm))))), (m0, .inl (y 0, 4, .inl (upd (upd (upd (upd m0f 0 (nI k)) 1 x) 2 x2) 3 x3))), (m1, .inl (y 0, 4, .inl m1f)), (m2, .inl (y 0, 4, .inl m2f)), (m3, .inl (y 0, 4, .inl m3f))] := hD
    exact W.iret (v := (nI 1)) hx hb hr (fun tZ ht hW => ⟨⟨(nI 1), ((upd (upd (upd (upd m0f 0 (nI k)) 1 x) 2 x2) 3 x3), m1f, m2f, m3f), rfl, ⟨hp4, hm1f, hm2f, hm3f, rfl⟩, by rw [ht]; exact hP.sub [0, 1, 2, 3, 4, 5] rfl, hD.sub [0, 1, 2, 3, 4, 5] (by decide) rfl⟩, hS.F ht⟩) hS.2.2 dX4_addMissed_43
  · skip
    refine kw_aldQ hx hb hK hP 1 6 rfl rfl (vp_in_nI (by omega) (by decide)) dX4_addMissed_8 ?_
    rw [nI_clamp (n := 1) (by omega), show va_rf (fm 1) = .ref m1 from congrArg va_rf hm1]
    refine lv_astore (lv' := [(5, .ref m1), (0, .ref nw), (1, .int (nI k)), (2, .int x), (3, .int x2), (4, .int x3)]) hx hb dX4_addMissed_9 hl (by decide) rfl (fun ls hl => ?_)
    refine lv_aload hx hb dX4_addMissed_11 (lv_at hl 0 rfl) ?_
    refine lv_iconst (v := 0) hx hb dX4_addMissed_13 (by decide) ?_
    refine lv_iload_n hx hb dX4_addMissed_14 rfl (lv_at hl 2 rfl) ?_
    refine va_iast hx hb hK hP hD hS 3 0 rfl rfl (by unfold vp_in; decide) dX4_addMissed_15 (fun H locs hP hD hS => ?_)
    rw [show ((0 : Int32)).toNatClampNeg = 0 from rfl] at hP hD
    have hp5 : vp_in ((upd m1f 0 (nI k)) 0) 6 := by rw [pk_us]; exact (vp_in_nI (by omega) (by decide))
    have hP : va_P D vwCl [(nw, .inr (4, [.ref kk, .ref nk, .ref nd, .ref ne, .ref nm, .ref nn, .int (nI fi), .int (nI gl), .int (nI un), .int (nI 1), .int (nI no)])), (nm, .inl (y 6, 4, .inr (.inr (.inr (.inr fm))))), (m0, .inl (y 0, 4, .inl m0f)), (m1, .inl (y 0, 4, .inl (upd m1f 0 (nI k)))), (m2, .inl (y 0, 4, .inl m2f)), (m3, .inl (y 0, 4, .inl m3f))] H := hP
    have hD : va_D A [(nw, .inr (4, [.ref kk, .ref nk, .ref nd, .ref ne, .ref nm, .ref nn, .int (nI fi), .int (nI gl), .int (nI un), .int (nI 1), .int (nI no)])), (nm, .inl (y 6, 4, .inr (.inr (.inr (.inr fm))))), (m0, .inl (y 0, 4, .inl m0f)), (m1, .inl (y 0, 4, .inl (upd m1f 0 (nI k)))), (m2, .inl (y 0, 4, .inl m2f)), (m3, .inl (y 0, 4, .inl m3f))] := hD
    refine lv_aload hx hb dX4_addMissed_16 (lv_at hl 0 rfl) ?_
    refine lv_iconst (v := 1) hx hb dX4_addMissed_18 (by decide) ?_
    refine lv_iload_n hx hb dX4_addMissed_19 rfl (lv_at hl 3 rfl) ?_
    refine va_iast hx hb hK hP hD hS 3 0 rfl rfl (by unfold vp_in; decide) dX4_addMissed_20 (fun H locs hP hD hS => ?_)
    rw [show ((1 : Int32)).toNatClampNeg = 1 from rfl] at hP hD
    have hp6 : vp_in ((upd (upd m1f 0 (nI k)) 1 x) 0) 6 := by rw [pk_un (by decide)]; exact hp5
    have hP : va_P D vwCl [(nw, .inr (4, [.ref kk, .ref nk, .ref nd, .ref ne, .ref nm, .ref nn, .int (nI fi), .int (nI gl), .int (nI un), .int (nI 1), .int (nI no)])), (nm, .inl (y 6, 4, .inr (.inr (.inr (.inr fm))))), (m0, .inl (y 0, 4, .inl m0f)), (m1, .inl (y 0, 4, .inl (upd (upd m1f 0 (nI k)) 1 x))), (m2, .inl (y 0, 4, .inl m2f)), (m3, .inl (y 0, 4, .inl m3f))] H := hP
    have hD : va_D A [(nw, .inr (4, [.ref kk, .ref nk, .ref nd, .ref ne, .ref nm, .ref nn, .int (nI fi), .int (nI gl), .int (nI un), .int (nI 1), .int (nI no)])), (nm, .inl (y 6, 4, .inr (.inr (.inr (.inr fm))))), (m0, .inl (y 0, 4, .inl m0f)), (m1, .inl (y 0, 4, .inl (upd (upd m1f 0 (nI k)) 1 x))), (m2, .inl (y 0, 4, .inl m2f)), (m3, .inl (y 0, 4, .inl m3f))] := hD
    refine lv_aload hx hb dX4_addMissed_21 (lv_at hl 0 rfl) ?_
    refine lv_iconst (v := 2) hx hb dX4_addMissed_23 (by decide) ?_
    refine lv_iload_n hx hb dX4_addMissed_24 rfl (lv_at hl 4 rfl) ?_
    refine va_iast hx hb hK hP hD hS 3 0 rfl rfl (by unfold vp_in; decide) dX4_addMissed_25 (fun H locs hP hD hS => ?_)
    rw [show ((2 : Int32)).toNatClampNeg = 2 from rfl] at hP hD
    have hp7 : vp_in ((upd (upd (upd m1f 0 (nI k)) 1 x) 2 x2) 0) 6 := by rw [pk_un (by decide)]; exact hp6
    have hP : va_P D vwCl [(nw, .inr (4, [.ref kk, .ref nk, .ref nd, .ref ne, .ref nm, .ref nn, .int (nI fi), .int (nI gl), .int (nI un), .int (nI 1), .int (nI no)])), (nm, .inl (y 6, 4, .inr (.inr (.inr (.inr fm))))), (m0, .inl (y 0, 4, .inl m0f)), (m1, .inl (y 0, 4, .inl (upd (upd (upd m1f 0 (nI k)) 1 x) 2 x2))), (m2, .inl (y 0, 4, .inl m2f)), (m3, .inl (y 0, 4, .inl m3f))] H := hP
    have hD : va_D A [(nw, .inr (4, [.ref kk, .ref nk, .ref nd, .ref ne, .ref nm, .ref nn, .int (nI fi), .int (nI gl), .int (nI un), .int (nI 1), .int (nI no)])), (nm, .inl (y 6, 4, .inr (.inr (.inr (.inr fm))))), (m0, .inl (y 0, 4, .inl m0f)), (m1, .inl (y 0, 4, .inl (upd (upd (upd m1f 0 (nI k)) 1 x) 2 x2))), (m2, .inl (y 0, 4, .inl m2f)), (m3, .inl (y 0, 4, .inl m3f))] := hD
    refine lv_aload hx hb dX4_addMissed_26 (lv_at hl 0 rfl) ?_
    refine lv_iconst (v := 3) hx hb dX4_addMissed_28 (by decide) ?_
    refine lv_iload hx hb dX4_addMissed_29 (lv_at hl 5 rfl) ?_
    refine va_iast hx hb hK hP hD hS 3 0 rfl rfl (by unfold vp_in; decide) dX4_addMissed_31 (fun H locs hP hD hS => ?_)
    rw [show ((3 : Int32)).toNatClampNeg = 3 from rfl] at hP hD
    have hp8 : vp_in ((upd (upd (upd (upd m1f 0 (nI k)) 1 x) 2 x2) 3 x3) 0) 6 := by rw [pk_un (by decide)]; exact hp7
    have hP : va_P D vwCl [(nw, .inr (4, [.ref kk, .ref nk, .ref nd, .ref ne, .ref nm, .ref nn, .int (nI fi), .int (nI gl), .int (nI un), .int (nI 1), .int (nI no)])), (nm, .inl (y 6, 4, .inr (.inr (.inr (.inr fm))))), (m0, .inl (y 0, 4, .inl m0f)), (m1, .inl (y 0, 4, .inl (upd (upd (upd (upd m1f 0 (nI k)) 1 x) 2 x2) 3 x3))), (m2, .inl (y 0, 4, .inl m2f)), (m3, .inl (y 0, 4, .inl m3f))] H := hP
    have hD : va_D A [(nw, .inr (4, [.ref kk, .ref nk, .ref nd, .ref ne, .ref nm, .ref nn, .int (nI fi), .int (nI gl), .int (nI un), .int (nI 1), .int (nI no)])), (nm, .inl (y 6, 4, .inr (.inr (.inr (.inr fm))))), (m0, .inl (y 0, 4, .inl m0f)), (m1, .inl (y 0, 4, .inl (upd (upd (upd (upd m1f 0 (nI k)) 1 x) 2 x2) 3 x3))), (m2, .inl (y 0, 4, .inl m2f)), (m3, .inl (y 0, 4, .inl m3f))] := hD
    refine lv_aload_n hx hb dX4_addMissed_32 rfl (lv_at hl 1 rfl) ?_
    refine lv_dup hx hb dX4_addMissed_33 rfl ?_
    refine va_get (D := D) (ci := 4) (v := .int (nI 1)) (C := RX4) (T := TX4) (N := 11) hx hb hts iw4 hown hK hP 0 rfl rfl 9 (by decide) fw2 (fun _ h9 => h9) rfl dX4_addMissed_34 ?_
    refine lv_iconst (v := 1) hx hb dX4_addMissed_37 (by decide) ?_
    refine lv_iadd hx hb dX4_addMissed_38 ?_
    rw [show (nI 1) + 1 = nI (2) from nI_add 1 1]
    refine lv_dup_x1 hx hb dX4_addMissed_39 rfl rfl ?_
    refine va_put (D := D) (ci := 4) (v := .int (nI 2)) (ty := .int) (C := RX4) (T := TX4) (N := 11) hx hb hts iw4 tyX4 tyX4_ok nmX4 hown hK hP hD hS 0 rfl rfl 9 (by decide) fw2 (fun _ h9 => h9) rfl (by decide +kernel) rfl rfl (Nat.le_of_ble_eq_true rfl) dX4_addMissed_40 (fun H locs hP hD hS => ?_)
    have hP : va_P D vwCl [(nw, .inr (4, [.ref kk, .ref nk, .ref nd, .ref ne, .ref nm, .ref nn, .int (nI fi), .int (nI gl), .int (nI un), .int (nI 2), .int (nI no)])), (nm, .inl (y 6, 4, .inr (.inr (.inr (.inr fm))))), (m0, .inl (y 0, 4, .inl m0f)), (m1, .inl (y 0, 4, .inl (upd (upd (upd (upd m1f 0 (nI k)) 1 x) 2 x2) 3 x3))), (m2, .inl (y 0, 4, .inl m2f)), (m3, .inl (y 0, 4, .inl m3f))] H := hP
    have hD : va_D A [(nw, .inr (4, [.ref kk, .ref nk, .ref nd, .ref ne, .ref nm, .ref nn, .int (nI fi), .int (nI gl), .int (nI un), .int (nI 2), .int (nI no)])), (nm, .inl (y 6, 4, .inr (.inr (.inr (.inr fm))))), (m0, .inl (y 0, 4, .inl m0f)), (m1, .inl (y 0, 4, .inl (upd (upd (upd (upd m1f 0 (nI k)) 1 x) 2 x2) 3 x3))), (m2, .inl (y 0, 4, .inl m2f)), (m3, .inl (y 0, 4, .inl m3f))] := hD
    exact W.iret (v := (nI 2)) hx hb hr (fun tZ ht hW => ⟨⟨(nI 2), (m0f, (upd (upd (upd (upd m1f 0 (nI k)) 1 x) 2 x2) 3 x3), m2f, m3f), rfl, ⟨hm0f, hp8, hm2f, hm3f, rfl⟩, by rw [ht]; exact hP.sub [0, 1, 2, 3, 4, 5] rfl, hD.sub [0, 1, 2, 3, 4, 5] (by decide) rfl⟩, hS.F ht⟩) hS.2.2 dX4_addMissed_43
  · skip
    refine kw_aldQ hx hb hK hP 1 6 rfl rfl (vp_in_nI (by omega) (by decide)) dX4_addMissed_8 ?_
    rw [nI_clamp (n := 2) (by omega), show va_rf (fm 2) = .ref m2 from congrArg va_rf hm2]
    refine lv_astore (lv' := [(5, .ref m2), (0, .ref nw), (1, .int (nI k)), (2, .int x), (3, .int x2), (4, .int x3)]) hx hb dX4_addMissed_9 hl (by decide) rfl (fun ls hl => ?_)
    refine lv_aload hx hb dX4_addMissed_11 (lv_at hl 0 rfl) ?_
    refine lv_iconst (v := 0) hx hb dX4_addMissed_13 (by decide) ?_
    refine lv_iload_n hx hb dX4_addMissed_14 rfl (lv_at hl 2 rfl) ?_
    refine va_iast hx hb hK hP hD hS 4 0 rfl rfl (by unfold vp_in; decide) dX4_addMissed_15 (fun H locs hP hD hS => ?_)
    rw [show ((0 : Int32)).toNatClampNeg = 0 from rfl] at hP hD
    have hp9 : vp_in ((upd m2f 0 (nI k)) 0) 6 := by rw [pk_us]; exact (vp_in_nI (by omega) (by decide))
    have hP : va_P D vwCl [(nw, .inr (4, [.ref kk, .ref nk, .ref nd, .ref ne, .ref nm, .ref nn, .int (nI fi), .int (nI gl), .int (nI un), .int (nI 2), .int (nI no)])), (nm, .inl (y 6, 4, .inr (.inr (.inr (.inr fm))))), (m0, .inl (y 0, 4, .inl m0f)), (m1, .inl (y 0, 4, .inl m1f)), (m2, .inl (y 0, 4, .inl (upd m2f 0 (nI k)))), (m3, .inl (y 0, 4, .inl m3f))] H := hP
    have hD : va_D A [(nw, .inr (4, [.ref kk, .ref nk, .ref nd, .ref ne, .ref nm, .ref nn, .int (nI fi), .int (nI gl), .int (nI un), .int (nI 2), .int (nI no)])), (nm, .inl (y 6, 4, .inr (.inr (.inr (.inr fm))))), (m0, .inl (y 0, 4, .inl m0f)), (m1, .inl (y 0, 4, .inl m1f)), (m2, .inl (y 0, 4, .inl (upd m2f 0 (nI k)))), (m3, .inl (y 0, 4, .inl m3f))] := hD
    refine lv_aload hx hb dX4_addMissed_16 (lv_at hl 0 rfl) ?_
    refine lv_iconst (v := 1) hx hb dX4_addMissed_18 (by decide) ?_
    refine lv_iload_n hx hb dX4_addMissed_19 rfl (lv_at hl 3 rfl) ?_
    refine va_iast hx hb hK hP hD hS 4 0 rfl rfl (by unfold vp_in; decide) dX4_addMissed_20 (fun H locs hP hD hS => ?_)
    rw [show ((1 : Int32)).toNatClampNeg = 1 from rfl] at hP hD
    have hp10 : vp_in ((upd (upd m2f 0 (nI k)) 1 x) 0) 6 := by rw [pk_un (by decide)]; exact hp9
    have hP : va_P D vwCl [(nw, .inr (4, [.ref kk, .ref nk, .ref nd, .ref ne, .ref nm, .ref nn, .int (nI fi), .int (nI gl), .int (nI un), .int (nI 2), .int (nI no)])), (nm, .inl (y 6, 4, .inr (.inr (.inr (.inr fm))))), (m0, .inl (y 0, 4, .inl m0f)), (m1, .inl (y 0, 4, .inl m1f)), (m2, .inl (y 0, 4, .inl (upd (upd m2f 0 (nI k)) 1 x))), (m3, .inl (y 0, 4, .inl m3f))] H := hP
    have hD : va_D A [(nw, .inr (4, [.ref kk, .ref nk, .ref nd, .ref ne, .ref nm, .ref nn, .int (nI fi), .int (nI gl), .int (nI un), .int (nI 2), .int (nI no)])), (nm, .inl (y 6, 4, .inr (.inr (.inr (.inr fm))))), (m0, .inl (y 0, 4, .inl m0f)), (m1, .inl (y 0, 4, .inl m1f)), (m2, .inl (y 0, 4, .inl (upd (upd m2f 0 (nI k)) 1 x))), (m3, .inl (y 0, 4, .inl m3f))] := hD
    refine lv_aload hx hb dX4_addMissed_21 (lv_at hl 0 rfl) ?_
    refine lv_iconst (v := 2) hx hb dX4_addMissed_23 (by decide) ?_
    refine lv_iload_n hx hb dX4_addMissed_24 rfl (lv_at hl 4 rfl) ?_
    refine va_iast hx hb hK hP hD hS 4 0 rfl rfl (by unfold vp_in; decide) dX4_addMissed_25 (fun H locs hP hD hS => ?_)
    rw [show ((2 : Int32)).toNatClampNeg = 2 from rfl] at hP hD
    have hp11 : vp_in ((upd (upd (upd m2f 0 (nI k)) 1 x) 2 x2) 0) 6 := by rw [pk_un (by decide)]; exact hp10
    have hP : va_P D vwCl [(nw, .inr (4, [.ref kk, .ref nk, .ref nd, .ref ne, .ref nm, .ref nn, .int (nI fi), .int (nI gl), .int (nI un), .int (nI 2), .int (nI no)])), (nm, .inl (y 6, 4, .inr (.inr (.inr (.inr fm))))), (m0, .inl (y 0, 4, .inl m0f)), (m1, .inl (y 0, 4, .inl m1f)), (m2, .inl (y 0, 4, .inl (upd (upd (upd m2f 0 (nI k)) 1 x) 2 x2))), (m3, .inl (y 0, 4, .inl m3f))] H := hP
    have hD : va_D A [(nw, .inr (4, [.ref kk, .ref nk, .ref nd, .ref ne, .ref nm, .ref nn, .int (nI fi), .int (nI gl), .int (nI un), .int (nI 2), .int (nI no)])), (nm, .inl (y 6, 4, .inr (.inr (.inr (.inr fm))))), (m0, .inl (y 0, 4, .inl m0f)), (m1, .inl (y 0, 4, .inl m1f)), (m2, .inl (y 0, 4, .inl (upd (upd (upd m2f 0 (nI k)) 1 x) 2 x2))), (m3, .inl (y 0, 4, .inl m3f))] := hD
    refine lv_aload hx hb dX4_addMissed_26 (lv_at hl 0 rfl) ?_
    refine lv_iconst (v := 3) hx hb dX4_addMissed_28 (by decide) ?_
    refine lv_iload hx hb dX4_addMissed_29 (lv_at hl 5 rfl) ?_
    refine va_iast hx hb hK hP hD hS 4 0 rfl rfl (by unfold vp_in; decide) dX4_addMissed_31 (fun H locs hP hD hS => ?_)
    rw [show ((3 : Int32)).toNatClampNeg = 3 from rfl] at hP hD
    have hp12 : vp_in ((upd (upd (upd (upd m2f 0 (nI k)) 1 x) 2 x2) 3 x3) 0) 6 := by rw [pk_un (by decide)]; exact hp11
    have hP : va_P D vwCl [(nw, .inr (4, [.ref kk, .ref nk, .ref nd, .ref ne, .ref nm, .ref nn, .int (nI fi), .int (nI gl), .int (nI un), .int (nI 2), .int (nI no)])), (nm, .inl (y 6, 4, .inr (.inr (.inr (.inr fm))))), (m0, .inl (y 0, 4, .inl m0f)), (m1, .inl (y 0, 4, .inl m1f)), (m2, .inl (y 0, 4, .inl (upd (upd (upd (upd m2f 0 (nI k)) 1 x) 2 x2) 3 x3))), (m3, .inl (y 0, 4, .inl m3f))] H := hP
    have hD : va_D A [(nw, .inr (4, [.ref kk, .ref nk, .ref nd, .ref ne, .ref nm, .ref nn, .int (nI fi), .int (nI gl), .int (nI un), .int (nI 2), .int (nI no)])), (nm, .inl (y 6, 4, .inr (.inr (.inr (.inr fm))))), (m0, .inl (y 0, 4, .inl m0f)), (m1, .inl (y 0, 4, .inl m1f)), (m2, .inl (y 0, 4, .inl (upd (upd (upd (upd m2f 0 (nI k)) 1 x) 2 x2) 3 x3))), (m3, .inl (y 0, 4, .inl m3f))] := hD
    refine lv_aload_n hx hb dX4_addMissed_32 rfl (lv_at hl 1 rfl) ?_
    refine lv_dup hx hb dX4_addMissed_33 rfl ?_
    refine va_get (D := D) (ci := 4) (v := .int (nI 2)) (C := RX4) (T := TX4) (N := 11) hx hb hts iw4 hown hK hP 0 rfl rfl 9 (by decide) fw2 (fun _ h9 => h9) rfl dX4_addMissed_34 ?_
    refine lv_iconst (v := 1) hx hb dX4_addMissed_37 (by decide) ?_
    refine lv_iadd hx hb dX4_addMissed_38 ?_
    rw [show (nI 2) + 1 = nI (3) from nI_add 2 1]
    refine lv_dup_x1 hx hb dX4_addMissed_39 rfl rfl ?_
    refine va_put (D := D) (ci := 4) (v := .int (nI 3)) (ty := .int) (C := RX4) (T := TX4) (N := 11) hx hb hts iw4 tyX4 tyX4_ok nmX4 hown hK hP hD hS 0 rfl rfl 9 (by decide) fw2 (fun _ h9 => h9) rfl (by decide +kernel) rfl rfl (Nat.le_of_ble_eq_true rfl) dX4_addMissed_40 (fun H locs hP hD hS => ?_)
    have hP : va_P D vwCl [(nw, .inr (4, [.ref kk, .ref nk, .ref nd, .ref ne, .ref nm, .ref nn, .int (nI fi), .int (nI gl), .int (nI un), .int (nI 3), .int (nI no)])), (nm, .inl (y 6, 4, .inr (.inr (.inr (.inr fm))))), (m0, .inl (y 0, 4, .inl m0f)), (m1, .inl (y 0, 4, .inl m1f)), (m2, .inl (y 0, 4, .inl (upd (upd (upd (upd m2f 0 (nI k)) 1 x) 2 x2) 3 x3))), (m3, .inl (y 0, 4, .inl m3f))] H := hP
    have hD : va_D A [(nw, .inr (4, [.ref kk, .ref nk, .ref nd, .ref ne, .ref nm, .ref nn, .int (nI fi), .int (nI gl), .int (nI un), .int (nI 3), .int (nI no)])), (nm, .inl (y 6, 4, .inr (.inr (.inr (.inr fm))))), (m0, .inl (y 0, 4, .inl m0f)), (m1, .inl (y 0, 4, .inl m1f)), (m2, .inl (y 0, 4, .inl (upd (upd (upd (upd m2f 0 (nI k)) 1 x) 2 x2) 3 x3))), (m3, .inl (y 0, 4, .inl m3f))] := hD
    exact W.iret (v := (nI 3)) hx hb hr (fun tZ ht hW => ⟨⟨(nI 3), (m0f, m1f, (upd (upd (upd (upd m2f 0 (nI k)) 1 x) 2 x2) 3 x3), m3f), rfl, ⟨hm0f, hm1f, hp12, hm3f, rfl⟩, by rw [ht]; exact hP.sub [0, 1, 2, 3, 4, 5] rfl, hD.sub [0, 1, 2, 3, 4, 5] (by decide) rfl⟩, hS.F ht⟩) hS.2.2 dX4_addMissed_43
  · skip
    refine kw_aldQ hx hb hK hP 1 6 rfl rfl (vp_in_nI (by omega) (by decide)) dX4_addMissed_8 ?_
    rw [nI_clamp (n := 3) (by omega), show va_rf (fm 3) = .ref m3 from congrArg va_rf hm3]
    refine lv_astore (lv' := [(5, .ref m3), (0, .ref nw), (1, .int (nI k)), (2, .int x), (3, .int x2), (4, .int x3)]) hx hb dX4_addMissed_9 hl (by decide) rfl (fun ls hl => ?_)
    refine lv_aload hx hb dX4_addMissed_11 (lv_at hl 0 rfl) ?_
    refine lv_iconst (v := 0) hx hb dX4_addMissed_13 (by decide) ?_
    refine lv_iload_n hx hb dX4_addMissed_14 rfl (lv_at hl 2 rfl) ?_
    refine va_iast hx hb hK hP hD hS 5 0 rfl rfl (by unfold vp_in; decide) dX4_addMissed_15 (fun H locs hP hD hS => ?_)
    rw [show ((0 : Int32)).toNatClampNeg = 0 from rfl] at hP hD
    have hp13 : vp_in ((upd m3f 0 (nI k)) 0) 6 := by rw [pk_us]; exact (vp_in_nI (by omega) (by decide))
    have hP : va_P D vwCl [(nw, .inr (4, [.ref kk, .ref nk, .ref nd, .ref ne, .ref nm, .ref nn, .int (nI fi), .int (nI gl), .int (nI un), .int (nI 3), .int (nI no)])), (nm, .inl (y 6, 4, .inr (.inr (.inr (.inr fm))))), (m0, .inl (y 0, 4, .inl m0f)), (m1, .inl (y 0, 4, .inl m1f)), (m2, .inl (y 0, 4, .inl m2f)), (m3, .inl (y 0, 4, .inl (upd m3f 0 (nI k))))] H := hP
    have hD : va_D A [(nw, .inr (4, [.ref kk, .ref nk, .ref nd, .ref ne, .ref nm, .ref nn, .int (nI fi), .int (nI gl), .int (nI un), .int (nI 3), .int (nI no)])), (nm, .inl (y 6, 4, .inr (.inr (.inr (.inr fm))))), (m0, .inl (y 0, 4, .inl m0f)), (m1, .inl (y 0, 4, .inl m1f)), (m2, .inl (y 0, 4, .inl m2f)), (m3, .inl (y 0, 4, .inl (upd m3f 0 (nI k))))] := hD
    refine lv_aload hx hb dX4_addMissed_16 (lv_at hl 0 rfl) ?_
    refine lv_iconst (v := 1) hx hb dX4_addMissed_18 (by decide) ?_
    refine lv_iload_n hx hb dX4_addMissed_19 rfl (lv_at hl 3 rfl) ?_
    refine va_iast hx hb hK hP hD hS 5 0 rfl rfl (by unfold vp_in; decide) dX4_addMissed_20 (fun H locs hP hD hS => ?_)
    rw [show ((1 : Int32)).toNatClampNeg = 1 from rfl] at hP hD
    have hp14 : vp_in ((upd (upd m3f 0 (nI k)) 1 x) 0) 6 := by rw [pk_un (by decide)]; exact hp13
    have hP : va_P D vwCl [(nw, .inr (4, [.ref kk, .ref nk, .ref nd, .ref ne, .ref nm, .ref nn, .int (nI fi), .int (nI gl), .int (nI un), .int (nI 3), .int (nI no)])), (nm, .inl (y 6, 4, .inr (.inr (.inr (.inr fm))))), (m0, .inl (y 0, 4, .inl m0f)), (m1, .inl (y 0, 4, .inl m1f)), (m2, .inl (y 0, 4, .inl m2f)), (m3, .inl (y 0, 4, .inl (upd (upd m3f 0 (nI k)) 1 x)))] H := hP
    have hD : va_D A [(nw, .inr (4, [.ref kk, .ref nk, .ref nd, .ref ne, .ref nm, .ref nn, .int (nI fi), .int (nI gl), .int (nI un), .int (nI 3), .int (nI no)])), (nm, .inl (y 6, 4, .inr (.inr (.inr (.inr fm))))), (m0, .inl (y 0, 4, .inl m0f)), (m1, .inl (y 0, 4, .inl m1f)), (m2, .inl (y 0, 4, .inl m2f)), (m3, .inl (y 0, 4, .inl (upd (upd m3f 0 (nI k)) 1 x)))] := hD
    refine lv_aload hx hb dX4_addMissed_21 (lv_at hl 0 rfl) ?_
    refine lv_iconst (v := 2) hx hb dX4_addMissed_23 (by decide) ?_
    refine lv_iload_n hx hb dX4_addMissed_24 rfl (lv_at hl 4 rfl) ?_
    refine va_iast hx hb hK hP hD hS 5 0 rfl rfl (by unfold vp_in; decide) dX4_addMissed_25 (fun H locs hP hD hS => ?_)
    rw [show ((2 : Int32)).toNatClampNeg = 2 from rfl] at hP hD
    have hp15 : vp_in ((upd (upd (upd m3f 0 (nI k)) 1 x) 2 x2) 0) 6 := by rw [pk_un (by decide)]; exact hp14
    have hP : va_P D vwCl [(nw, .inr (4, [.ref kk, .ref nk, .ref nd, .ref ne, .ref nm, .ref nn, .int (nI fi), .int (nI gl), .int (nI un), .int (nI 3), .int (nI no)])), (nm, .inl (y 6, 4, .inr (.inr (.inr (.inr fm))))), (m0, .inl (y 0, 4, .inl m0f)), (m1, .inl (y 0, 4, .inl m1f)), (m2, .inl (y 0, 4, .inl m2f)), (m3, .inl (y 0, 4, .inl (upd (upd (upd m3f 0 (nI k)) 1 x) 2 x2)))] H := hP
    have hD : va_D A [(nw, .inr (4, [.ref kk, .ref nk, .ref nd, .ref ne, .ref nm, .ref nn, .int (nI fi), .int (nI gl), .int (nI un), .int (nI 3), .int (nI no)])), (nm, .inl (y 6, 4, .inr (.inr (.inr (.inr fm))))), (m0, .inl (y 0, 4, .inl m0f)), (m1, .inl (y 0, 4, .inl m1f)), (m2, .inl (y 0, 4, .inl m2f)), (m3, .inl (y 0, 4, .inl (upd (upd (upd m3f 0 (nI k)) 1 x) 2 x2)))] := hD
    refine lv_aload hx hb dX4_addMissed_26 (lv_at hl 0 rfl) ?_
    refine lv_iconst (v := 3) hx hb dX4_addMissed_28 (by decide) ?_
    refine lv_iload hx hb dX4_addMissed_29 (lv_at hl 5 rfl) ?_
    refine va_iast hx hb hK hP hD hS 5 0 rfl rfl (by unfold vp_in; decide) dX4_addMissed_31 (fun H locs hP hD hS => ?_)
    rw [show ((3 : Int32)).toNatClampNeg = 3 from rfl] at hP hD
    have hp16 : vp_in ((upd (upd (upd (upd m3f 0 (nI k)) 1 x) 2 x2) 3 x3) 0) 6 := by rw [pk_un (by decide)]; exact hp15
    have hP : va_P D vwCl [(nw, .inr (4, [.ref kk, .ref nk, .ref nd, .ref ne, .ref nm, .ref nn, .int (nI fi), .int (nI gl), .int (nI un), .int (nI 3), .int (nI no)])), (nm, .inl (y 6, 4, .inr (.inr (.inr (.inr fm))))), (m0, .inl (y 0, 4, .inl m0f)), (m1, .inl (y 0, 4, .inl m1f)), (m2, .inl (y 0, 4, .inl m2f)), (m3, .inl (y 0, 4, .inl (upd (upd (upd (upd m3f 0 (nI k)) 1 x) 2 x2) 3 x3)))] H := hP
    have hD : va_D A [(nw, .inr (4, [.ref kk, .ref nk, .ref nd, .ref ne, .ref nm, .ref nn, .int (nI fi), .int (nI gl), .int (nI un), .int (nI 3), .int (nI no)])), (nm, .inl (y 6, 4, .inr (.inr (.inr (.inr fm))))), (m0, .inl (y 0, 4, .inl m0f)), (m1, .inl (y 0, 4, .inl m1f)), (m2, .inl (y 0, 4, .inl m2f)), (m3, .inl (y 0, 4, .inl (upd (upd (upd (upd m3f 0 (nI k)) 1 x) 2 x2) 3 x3)))] := hD
    refine lv_aload_n hx hb dX4_addMissed_32 rfl (lv_at hl 1 rfl) ?_
    refine lv_dup hx hb dX4_addMissed_33 rfl ?_
    refine va_get (D := D) (ci := 4) (v := .int (nI 3)) (C := RX4) (T := TX4) (N := 11) hx hb hts iw4 hown hK hP 0 rfl rfl 9 (by decide) fw2 (fun _ h9 => h9) rfl dX4_addMissed_34 ?_
    refine lv_iconst (v := 1) hx hb dX4_addMissed_37 (by decide) ?_
    refine lv_iadd hx hb dX4_addMissed_38 ?_
    rw [show (nI 3) + 1 = nI (4) from nI_add 3 1]
    refine lv_dup_x1 hx hb dX4_addMissed_39 rfl rfl ?_
    refine va_put (D := D) (ci := 4) (v := .int (nI 4)) (ty := .int) (C := RX4) (T := TX4) (N := 11) hx hb hts iw4 tyX4 tyX4_ok nmX4 hown hK hP hD hS 0 rfl rfl 9 (by decide) fw2 (fun _ h9 => h9) rfl (by decide +kernel) rfl rfl (Nat.le_of_ble_eq_true rfl) dX4_addMissed_40 (fun H locs hP hD hS => ?_)
    have hP : va_P D vwCl [(nw, .inr (4, [.ref kk, .ref nk, .ref nd, .ref ne, .ref nm, .ref nn, .int (nI fi), .int (nI gl), .int (nI un), .int (nI 4), .int (nI no)])), (nm, .inl (y 6, 4, .inr (.inr (.inr (.inr fm))))), (m0, .inl (y 0, 4, .inl m0f)), (m1, .inl (y 0, 4, .inl m1f)), (m2, .inl (y 0, 4, .inl m2f)), (m3, .inl (y 0, 4, .inl (upd (upd (upd (upd m3f 0 (nI k)) 1 x) 2 x2) 3 x3)))] H := hP
    have hD : va_D A [(nw, .inr (4, [.ref kk, .ref nk, .ref nd, .ref ne, .ref nm, .ref nn, .int (nI fi), .int (nI gl), .int (nI un), .int (nI 4), .int (nI no)])), (nm, .inl (y 6, 4, .inr (.inr (.inr (.inr fm))))), (m0, .inl (y 0, 4, .inl m0f)), (m1, .inl (y 0, 4, .inl m1f)), (m2, .inl (y 0, 4, .inl m2f)), (m3, .inl (y 0, 4, .inl (upd (upd (upd (upd m3f 0 (nI k)) 1 x) 2 x2) 3 x3)))] := hD
    exact W.iret (v := (nI 4)) hx hb hr (fun tZ ht hW => ⟨⟨(nI 4), (m0f, m1f, m2f, (upd (upd (upd (upd m3f 0 (nI k)) 1 x) 2 x2) 3 x3)), rfl, ⟨hm0f, hm1f, hm2f, hp16, rfl⟩, by rw [ht]; exact hP.sub [0, 1, 2, 3, 4, 5] rfl, hD.sub [0, 1, 2, 3, 4, 5] (by decide) rfl⟩, hS.F ht⟩) hS.2.2 dX4_addMissed_43
