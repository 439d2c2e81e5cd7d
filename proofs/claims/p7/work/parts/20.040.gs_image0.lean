set_option maxHeartbeats 4000000 in
set_option maxRecDepth 100000 in
theorem gs_image0 (l : Launch) (D : va_G) (y : Nat → ClassId) (mo : Nat) (to : Nat) (ke : Nat) (ik : Nat) (mrf : Nat) (ha : Nat) (r0 : Nat) (mbr : Nat) (mbp : Nat) (mby : Nat) (an : Nat) (va : Nat) (mab : Int64) (mbl : Int64) (bl : Nat) (ta : Nat) (tl : Nat) (tk : Nat) (vv : Int32) (frf : Nat → Int32) (ft : Nat → Int32) (fi : Nat) (gl : Nat) (mi : Nat) (no : Nat) (un : Nat) (fke : Nat → Int32) (fik : Nat → Int32) (o1 : Nat) (o2 : Nat) (o3 : Nat) (o4 : Nat) (hk0_ : ft 0 = (nI fi)) (hk1_ : ft 1 = (nI gl)) (hk2_ : ft 2 = (nI mi)) (hk3_ : ft 3 = (nI no)) (hk4_ : ft 4 = (nI un)) (hkt : kr_t 228 ft) (hfi : fi ≤ 6) (hgl : gl ≤ 5) (hmi : mi ≤ 4) (hno : no ≤ 6) (hun : un ≤ 8) (hgf : (gl = 0 ∨ 0 < fi)) (hKo : kr_KK (fun p => fke (p + 228)) o1 o2 o3 o4) : kw_Mi l yX11_image wsX11_image ({ frames := 2, cells := 0, slots := 0, locals := 85 }) D y [.ref mo, .int (nI 0)] [(mo, .inr (11, [.ref to, .ref ke, .ref ik, .ref mrf, .long mab, .long mbl, .ref ha, .ref r0, .ref mbr, .ref mbp, .ref mby, .int (nI bl), .int (nI ta), .int (nI tl), .int (nI tk), .int vv, .ref an, .ref va])), (mrf, .inl (y 0, 3, .inl frf)), (to, .inl (y 0, 228, .inl ft)), (ke, .inl (y 0, 456, .inl fke)), (ik, .inl (y 2, 2, .inl fik))] (fun (r : Int32) (u : Unit) => kr_KK (kr_cp fke ft 228) fi gl mi no ∧ kr_KK (fun p => (kr_cp fke ft 228) (p + 228)) o1 o2 o3 o4 ∧ r = 1) (fun _ => [(mo, .inr (11, [.ref to, .ref ke, .ref ik, .ref mrf, .long mab, .long mbl, .ref ha, .ref r0, .ref mbr, .ref mbp, .ref mby, .int (nI bl), .int (nI ta), .int (nI tl), .int (nI tk), .int vv, .ref an, .ref va])), (mrf, .inl (y 0, 3, .inl frf)), (to, .inl (y 0, 228, .inl ft)), (ke, .inl (y 0, 456, .inl (kr_cp fke ft 228))), (ik, .inl (y 2, 2, .inl (upd fik 0 (vp_nar .boolean 1))))]) 0 0 := by
  refine kw_Mi.of (cc := cX11_image) (maxL := 3) (ret := (some .int)) (by decide) rfl ?_
  intro pZ eZ s mZ beZ meZ cZ A hE
  obtain ⟨hx, hb, hr, hml, hts, hown, hlocks, hin, hA, hP, hD, hK, hN⟩ := hE
  have hS : va_S A s.heap s.heap [] := va_S.rf
  have hl := lv_entry ([.ref mo, .int (nI 0)]) (n := 3) (Nat.le_of_ble_eq_true rfl)
  rw [lg_entry_eq]
  generalize (lg_sl ([.ref mo, .int (nI 0)]) ++ List.replicate (3 - (lg_sl ([.ref mo, .int (nI 0)])).length) Slot.unset).toArray = ls at hl ⊢
  have hl : lv_has ls 3 [(0, .ref mo), (1, .int (nI 0))] := hl
  have fw1 := hts (.fieldLink RX11 16 "GleanDuskModel" "isKept" "[Z") (List.mem_of_getElem? (i := 3) rfl)
  have fw2 := hts (.fieldLink RX11 13 "GleanDuskModel" "kept" "[I") (List.mem_of_getElem? (i := 1) rfl)
  have fw3 := hts (.fieldLink RX11 7 "GleanDuskModel" "told" "[I") (List.mem_of_getElem? (i := 2) rfl)
  have iw11 : ∀ w ∈ wsX110, w ∈ wsX11_image := fun _ h => List.mem_cons_of_mem _ (List.mem_append_right _ h)
  refine lv_iload_n hx hb dX11_image_0 rfl (lv_at hl 1 rfl) ?_
  refine lv_i2l (v := (nI 0).toInt64) hx hb dX11_image_1 (rfl) ?_
  refine lv_lconst (v := 0) hx hb dX11_image_2 (by decide) ?_
  refine lv_lconst (v := 1) hx hb dX11_image_3 (by decide) ?_
  have hs1 : kw_Split [(mo, .inr (11, [.ref to, .ref ke, .ref ik, .ref mrf, .long mab, .long mbl, .ref ha, .ref r0, .ref mbr, .ref mbp, .ref mby, .int (nI bl), .int (nI ta), .int (nI tl), .int (nI tk), .int vv, .ref an, .ref va])), (mrf, .inl (y 0, 3, .inl frf)), (to, .inl (y 0, 228, .inl ft)), (ke, .inl (y 0, 456, .inl fke)), (ik, .inl (y 2, 2, .inl fik))] [] [(mo, .inr (11, [.ref to, .ref ke, .ref ik, .ref mrf, .long mab, .long mbl, .ref ha, .ref r0, .ref mbr, .ref mbp, .ref mby, .int (nI bl), .int (nI ta), .int (nI tl), .int (nI tk), .int vv, .ref an, .ref va])), (mrf, .inl (y 0, 3, .inl frf)), (to, .inl (y 0, 228, .inl ft)), (ke, .inl (y 0, 456, .inl fke)), (ik, .inl (y 2, 2, .inl fik))] [] [0, 1, 2, 3, 4] := ⟨rfl, rfl, rfl, rfl, rfl, by decide⟩
  refine kw_go_i hs1 hP hD hS hA (va_runS (As := [.long ((nI 0).toInt64), .long 0, .long 1]) (rest := []) ⟨hx, hb, hml, hown, hts⟩ (gr_in l D y (nI 0) 0 1 (by omega) (by omega) _) (va_cwS 3 hts gX11_image_X11_in rfl rfl rfl (by decide +kernel) ⟨Nat.le_of_ble_eq_true rfl, Nat.le_of_ble_eq_true rfl⟩) (kw_PreS hs1 hP hD hK hN) rfl rfl hl.1 rfl (lv_room (Nat.le_of_ble_eq_true rfl)) dX11_image_4 ⟨Nat.le_of_ble_eq_true rfl, Nat.le_of_ble_eq_true rfl⟩) (fun r2 u3 H locs hq hP hD hS => ?_)
  rcases hq with ⟨j4, h5, h6, h7, rfl⟩ | ⟨h8, rfl⟩
  · skip
    have h7 : 0 = j4 := (nI_eq (a := 0) (b := j4) (by omega) (by omega)).mp h7
    have hP : va_P D vwCl [(mo, .inr (11, [.ref to, .ref ke, .ref ik, .ref mrf, .long mab, .long mbl, .ref ha, .ref r0, .ref mbr, .ref mbp, .ref mby, .int (nI bl), .int (nI ta), .int (nI tl), .int (nI tk), .int vv, .ref an, .ref va])), (mrf, .inl (y 0, 3, .inl frf)), (to, .inl (y 0, 228, .inl ft)), (ke, .inl (y 0, 456, .inl fke)), (ik, .inl (y 2, 2, .inl fik))] H := hP
    have hD : va_D A [(mo, .inr (11, [.ref to, .ref ke, .ref ik, .ref mrf, .long mab, .long mbl, .ref ha, .ref r0, .ref mbr, .ref mbp, .ref mby, .int (nI bl), .int (nI ta), .int (nI tl), .int (nI tk), .int vv, .ref an, .ref va])), (mrf, .inl (y 0, 3, .inl frf)), (to, .inl (y 0, 228, .inl ft)), (ke, .inl (y 0, 456, .inl fke)), (ik, .inl (y 2, 2, .inl fik))] := hD
    refine lv_if_ne (tgt := 17) hx hb dX11_image_7 (by decide) (fun _ => ?_) (fun h9 => absurd h9 (by decide))
    refine lv_iconst (v := 0) hx hb dX11_image_17 (by decide) ?_
    refine lv_istore_n (lv' := [(2, .int 0), (0, .ref mo), (1, .int (nI 0))]) hx hb dX11_image_18 rfl hl (by decide) rfl (fun ls hl => ?_)
    have lp14 : ∀ (fuj91 j91 : Nat) (x11 : Nat → Int32) (H : Heap) (locs : List Loc) (ls : Array Slot), j91 ≤ 228 → 228 - j91 < fuj91 → x11 = kr_cp fke ft j91 → va_P D vwCl [(mo, .inr (11, [.ref to, .ref ke, .ref ik, .ref mrf, .long mab, .long mbl, .ref ha, .ref r0, .ref mbr, .ref mbp, .ref mby, .int (nI bl), .int (nI ta), .int (nI tl), .int (nI tk), .int vv, .ref an, .ref va])), (mrf, .inl (y 0, 3, .inl frf)), (to, .inl (y 0, 228, .inl ft)), (ke, .inl (y 0, 456, .inl x11)), (ik, .inl (y 2, 2, .inl fik))] H → va_D A [(mo, .inr (11, [.ref to, .ref ke, .ref ik, .ref mrf, .long mab, .long mbl, .ref ha, .ref r0, .ref mbr, .ref mbp, .ref mby, .int (nI bl), .int (nI ta), .int (nI tl), .int (nI tk), .int vv, .ref an, .ref va])), (mrf, .inl (y 0, 3, .inl frf)), (to, .inl (y 0, 228, .inl ft)), (ke, .inl (y 0, 456, .inl x11)), (ik, .inl (y 2, 2, .inl fik))] → va_S A s.heap H locs → lv_has ls 3 [(2, .int (nI j91)), (0, .ref mo), (1, .int (nI 0))] → W pZ l eZ ({ frames := 2, cells := 0, slots := 0, locals := 85 }) s mZ [.ref mo, .int (nI 0)].toArray beZ meZ cZ H locs 0 0 (MQ beZ (va_Qi (fun (r : Int32) (u : Unit) => kr_KK (kr_cp fke ft 228) fi gl mi no ∧ kr_KK (fun p => (kr_cp fke ft 228) (p + 228)) o1 o2 o3 o4 ∧ r = 1) (kw_B D (fun _ => [(mo, .inr (11, [.ref to, .ref ke, .ref ik, .ref mrf, .long mab, .long mbl, .ref ha, .ref r0, .ref mbr, .ref mbp, .ref mby, .int (nI bl), .int (nI ta), .int (nI tl), .int (nI tk), .int vv, .ref an, .ref va])), (mrf, .inl (y 0, 3, .inl frf)), (to, .inl (y 0, 228, .inl ft)), (ke, .inl (y 0, 456, .inl (kr_cp fke ft 228))), (ik, .inl (y 2, 2, .inl (upd fik 0 (vp_nar .boolean 1))))]) A) A) [.ref mo, .int (nI 0)].toArray s 0 0 A) (F0 mZ 19 ls []) := by
      intro fuj91
      induction fuj91 with
      | zero => intro j91 x11 H locs ls hj9 hf9; exact absurd hf9 (Nat.not_lt_zero _)
      | succ fuj91 ihj91 =>
        intro j91 x11 H locs ls hj91 hfj91 hI0_j91 hP hD hS hl
        refine lv_iload_n hx hb dX11_image_19 rfl (lv_at hl 0 rfl) ?_
        refine lv_sipush (v := 228) hx hb dX11_image_20 (by decide) ?_
        refine lv_icmp_ge (tgt := 50) hx hb dX11_image_23 (by decide) (fun h15 => ?_) (fun h16 => ?_)
        · skip
          have h15 : 228 ≤ j91 := (nI_leI (a := 228) (b := j91) (by omega) (by omega)).mp h15
          obtain rfl : j91 = 228 := by omega
          subst hI0_j91
          have hP : va_P D vwCl [(mo, .inr (11, [.ref to, .ref ke, .ref ik, .ref mrf, .long mab, .long mbl, .ref ha, .ref r0, .ref mbr, .ref mbp, .ref mby, .int (nI bl), .int (nI ta), .int (nI tl), .int (nI tk), .int vv, .ref an, .ref va])), (mrf, .inl (y 0, 3, .inl frf)), (to, .inl (y 0, 228, .inl ft)), (ke, .inl (y 0, 456, .inl (kr_cp fke ft 228))), (ik, .inl (y 2, 2, .inl fik))] H := hP
          have hD : va_D A [(mo, .inr (11, [.ref to, .ref ke, .ref ik, .ref mrf, .long mab, .long mbl, .ref ha, .ref r0, .ref mbr, .ref mbp, .ref mby, .int (nI bl), .int (nI ta), .int (nI tl), .int (nI tk), .int vv, .ref an, .ref va])), (mrf, .inl (y 0, 3, .inl frf)), (to, .inl (y 0, 228, .inl ft)), (ke, .inl (y 0, 456, .inl (kr_cp fke ft 228))), (ik, .inl (y 2, 2, .inl fik))] := hD
          refine lv_aload_n hx hb dX11_image_50 rfl (lv_at hl 1 rfl) ?_
          refine va_get (D := D) (ci := 11) (v := .ref ik) (C := RX11) (T := TX11) (N := 18) hx hb hts iw11 hown hK hP 0 rfl rfl 2 (by decide) fw1 (fun _ h9 => h9) rfl dX11_image_51 ?_
          refine lv_iload_n hx hb dX11_image_54 rfl (lv_at hl 2 rfl) ?_
          refine lv_iconst (v := 1) hx hb dX11_image_55 (by decide) ?_
          refine va_zast hx hb hK hP hD hS 4 2 rfl rfl (vp_in_nI (by omega) (by decide)) dX11_image_56 (fun H locs hP hD hS => ?_)
          rw [nI_clamp (n := 0) (by omega)] at hP hD
          have hP : va_P D vwCl [(mo, .inr (11, [.ref to, .ref ke, .ref ik, .ref mrf, .long mab, .long mbl, .ref ha, .ref r0, .ref mbr, .ref mbp, .ref mby, .int (nI bl), .int (nI ta), .int (nI tl), .int (nI tk), .int vv, .ref an, .ref va])), (mrf, .inl (y 0, 3, .inl frf)), (to, .inl (y 0, 228, .inl ft)), (ke, .inl (y 0, 456, .inl (kr_cp fke ft 228))), (ik, .inl (y 2, 2, .inl (upd fik 0 (vp_nar .boolean 1))))] H := hP
          have hD : va_D A [(mo, .inr (11, [.ref to, .ref ke, .ref ik, .ref mrf, .long mab, .long mbl, .ref ha, .ref r0, .ref mbr, .ref mbp, .ref mby, .int (nI bl), .int (nI ta), .int (nI tl), .int (nI tk), .int vv, .ref an, .ref va])), (mrf, .inl (y 0, 3, .inl frf)), (to, .inl (y 0, 228, .inl ft)), (ke, .inl (y 0, 456, .inl (kr_cp fke ft 228))), (ik, .inl (y 2, 2, .inl (upd fik 0 (vp_nar .boolean 1))))] := hD
          refine lv_iconst (v := 1) hx hb dX11_image_57 (by decide) ?_
          exact W.iret (v := 1) hx hb hr (fun tZ ht hW => ⟨⟨1, (), rfl, ⟨(show kr_KK (kr_cp fke ft 228) fi gl mi no from (kr_KK.mk hk0_ hk1_ hk2_ hk3_ hk4_ hfi hgl hmi hno hun hgf hkt).congr (fun p hp => kr_cp_lt hp)), (show kr_KK (fun p => kr_cp fke ft 228 (p + 228)) o1 o2 o3 o4 from hKo.congr (fun p hp => kr_cp_ge (g := fke) (f := ft) (Nat.le_add_left 228 p))), rfl⟩, by rw [ht]; exact hP.sub [0, 1, 2, 3, 4] rfl, hD.sub [0, 1, 2, 3, 4] (by decide) rfl⟩, hS.F ht⟩) hS.2.2 dX11_image_58
        · skip
          have h16 : ¬ 228 ≤ j91 := fun q9 => h16 ((nI_leI (a := 228) (b := j91) (by omega) (by omega)).mpr q9)
          refine lv_aload_n hx hb dX11_image_26 rfl (lv_at hl 1 rfl) ?_
          refine va_get (D := D) (ci := 11) (v := .ref ke) (C := RX11) (T := TX11) (N := 18) hx hb hts iw11 hown hK hP 0 rfl rfl 1 (by decide) fw2 (fun _ h9 => h9) rfl dX11_image_27 ?_
          refine lv_sipush (v := 228) hx hb dX11_image_30 (by decide) ?_
          refine lv_iload_n hx hb dX11_image_33 rfl (lv_at hl 2 rfl) ?_
          refine lv_imul hx hb dX11_image_34 ?_
          rw [show 228 * (nI 0) = nI (0) from pk_mul 228 0]
          refine lv_iload_n hx hb dX11_image_35 rfl (lv_at hl 0 rfl) ?_
          refine lv_iadd hx hb dX11_image_36 ?_
          rw [show (nI 0) + (nI j91) = nI (j91) from (nI_add 0 j91).trans (congrArg nI (by omega))]
          refine lv_aload_n hx hb dX11_image_37 rfl (lv_at hl 1 rfl) ?_
          refine va_get (D := D) (ci := 11) (v := .ref to) (C := RX11) (T := TX11) (N := 18) hx hb hts iw11 hown hK hP 0 rfl rfl 0 (by decide) fw3 (fun _ h9 => h9) rfl dX11_image_38 ?_
          refine lv_iload_n hx hb dX11_image_41 rfl (lv_at hl 0 rfl) ?_
          refine va_iald hx hb hK hP 2 0 rfl rfl (vp_in_nI (by omega) (by decide)) dX11_image_42 ?_
          rw [nI_clamp (n := j91) (by omega)]
          refine va_iast hx hb hK hP hD hS 3 0 rfl rfl (vp_in_nI (by omega) (by decide)) dX11_image_43 (fun H locs hP hD hS => ?_)
          rw [nI_clamp (n := j91) (by omega)] at hP hD
          have hP : va_P D vwCl [(mo, .inr (11, [.ref to, .ref ke, .ref ik, .ref mrf, .long mab, .long mbl, .ref ha, .ref r0, .ref mbr, .ref mbp, .ref mby, .int (nI bl), .int (nI ta), .int (nI tl), .int (nI tk), .int vv, .ref an, .ref va])), (mrf, .inl (y 0, 3, .inl frf)), (to, .inl (y 0, 228, .inl ft)), (ke, .inl (y 0, 456, .inl (upd x11 j91 (ft j91)))), (ik, .inl (y 2, 2, .inl fik))] H := hP
          have hD : va_D A [(mo, .inr (11, [.ref to, .ref ke, .ref ik, .ref mrf, .long mab, .long mbl, .ref ha, .ref r0, .ref mbr, .ref mbp, .ref mby, .int (nI bl), .int (nI ta), .int (nI tl), .int (nI tk), .int vv, .ref an, .ref va])), (mrf, .inl (y 0, 3, .inl frf)), (to, .inl (y 0, 228, .inl ft)), (ke, .inl (y 0, 456, .inl (upd x11 j91 (ft j91)))), (ik, .inl (y 2, 2, .inl fik))] := hD
          refine lv_iinc (v := (nI (j91 + 1))) (lv' := [(2, .int (nI (j91 + 1))), (0, .ref mo), (1, .int (nI 0))]) hx hb dX11_image_44 hl (k := 0) rfl (nI_1 j91) (by decide) rfl (fun ls hl => ?_)
          refine lv_goto (tgt := 19) hx hb dX11_image_47 (by decide) ?_
          exact ihj91 (j91 + 1) (upd x11 j91 (ft j91)) H locs ls (by omega) (by omega) (by rw [hI0_j91]; exact kr_cpS) (hP.sub [0, 1, 2, 3, 4] rfl) (hD.sub [0, 1, 2, 3, 4] (by decide) rfl) hS (lv_sub hl [0, 1, 2] rfl)
    exact lp14 (228 + 1) 0 fke _ _ _ (by omega) (by omega) kr_cp0 hP hD hS (lv_sub hl [0, 1, 2] rfl)
  · skip
    exact absurd ⟨0, by omega, by omega, rfl⟩ h8

set_option maxHeartbeats 4000000 in
set_option maxRecDepth 100000 in
theorem gs_from0y (l : Launch) (D : va_G) (y : Nat → ClassId) (mo : Nat) (to : Nat) (ke : Nat) (ik : Nat) (mrf : Nat) (ha : Nat) (r0 : Nat) (mbr : Nat) (mbp : Nat) (mby : Nat) (an : Nat) (va : Nat) (mab : Int64) (mbl : Int64) (bl : Nat) (ta : Nat) (tl : Nat) (tk : Nat) (vv : Int32) (frf : Nat → Int32) (ft : Nat → Int32) (fi : Nat) (gl : Nat) (mi : Nat) (no : Nat) (un : Nat) (fke : Nat → Int32) (fik : Nat → Int32) (o1 : Nat) (o2 : Nat) (o3 : Nat) (o4 : Nat) (hk0_ : ft 0 = (nI fi)) (hk1_ : ft 1 = (nI gl)) (hk2_ : ft 2 = (nI mi)) (hk3_ : ft 3 = (nI no)) (hk4_ : ft 4 = (nI un)) (hkt : kr_t 228 ft) (hfi : fi ≤ 6) (hgl : gl ≤ 5) (hmi : mi ≤ 4) (hno : no ≤ 6) (hun : un ≤ 8) (hgf : (gl = 0 ∨ 0 < fi)) (hKs : kr_KK fke o1 o2 o3 o4) (hfl : ¬ (fik 0) = 0) : kw_Mi l yX11_from wsX11_from ({ frames := 2, cells := 0, slots := 0, locals := 85 }) D y [.ref mo, .int (nI 0)] [(mo, .inr (11, [.ref to, .ref ke, .ref ik, .ref mrf, .long mab, .long mbl, .ref ha, .ref r0, .ref mbr, .ref mbp, .ref mby, .int (nI bl), .int (nI ta), .int (nI tl), .int (nI tk), .int vv, .ref an, .ref va])), (mrf, .inl (y 0, 3, .inl frf)), (to, .inl (y 0, 228, .inl ft)), (ke, .inl (y 0, 456, .inl fke)), (ik, .inl (y 2, 2, .inl fik))] (fun (r : Int32) (u : Nat) => kr_t 228 (kr_cp ft fke 228) ∧ (kr_cp ft fke 228) 0 = (nI o1) ∧ (kr_cp ft fke 228) 1 = (nI o2) ∧ (kr_cp ft fke 228) 2 = (nI o3) ∧ (kr_cp ft fke 228) 3 = (nI o4) ∧ u ≤ 8 ∧ (kr_cp ft fke 228) 4 = (nI u) ∧ (o2 = 0 ∨ 0 < o1) ∧ r = 1) (fun u => [(mo, .inr (11, [.ref to, .ref ke, .ref ik, .ref mrf, .long mab, .long mbl, .ref ha, .ref r0, .ref mbr, .ref mbp, .ref mby, .int (nI bl), .int (nI ta), .int (nI tl), .int (nI tk), .int vv, .ref an, .ref va])), (mrf, .inl (y 0, 3, .inl frf)), (to, .inl (y 0, 228, .inl (kr_cp ft fke 228))), (ke, .inl (y 0, 456, .inl fke)), (ik, .inl (y 2, 2, .inl fik))]) 0 0 := by
  refine kw_Mi.of (cc := cX11_from) (maxL := 3) (ret := (some .int)) (by decide) rfl ?_
  intro pZ eZ s mZ beZ meZ cZ A hE
  obtain ⟨hx, hb, hr, hml, hts, hown, hlocks, hin, hA, hP, hD, hK, hN⟩ := hE
  have hS : va_S A s.heap s.heap [] := va_S.rf
  have hl := lv_entry ([.ref mo, .int (nI 0)]) (n := 3) (Nat.le_of_ble_eq_true rfl)
  rw [lg_entry_eq]
  generalize (lg_sl ([.ref mo, .int (nI 0)]) ++ List.replicate (3 - (lg_sl ([.ref mo, .int (nI 0)])).length) Slot.unset).toArray = ls at hl ⊢
  have hl : lv_has ls 3 [(0, .ref mo), (1, .int (nI 0))] := hl
  have fw1 := hts (.fieldLink RX11 16 "GleanDuskModel" "isKept" "[Z") (List.mem_of_getElem? (i := 1) rfl)
  have fw2 := hts (.fieldLink RX11 7 "GleanDuskModel" "told" "[I") (List.mem_of_getElem? (i := 2) rfl)
  have fw3 := hts (.fieldLink RX11 13 "GleanDuskModel" "kept" "[I") (List.mem_of_getElem? (i := 3) rfl)
  have iw11 : ∀ w ∈ wsX110, w ∈ wsX11_from := fun _ h => List.mem_cons_of_mem _ (List.mem_append_right _ h)
  refine lv_iload_n hx hb dX11_from_0 rfl (lv_at hl 1 rfl) ?_
  refine lv_i2l (v := (nI 0).toInt64) hx hb dX11_from_1 (rfl) ?_
  refine lv_lconst (v := 0) hx hb dX11_from_2 (by decide) ?_
  refine lv_lconst (v := 1) hx hb dX11_from_3 (by decide) ?_
  have hs1 : kw_Split [(mo, .inr (11, [.ref to, .ref ke, .ref ik, .ref mrf, .long mab, .long mbl, .ref ha, .ref r0, .ref mbr, .ref mbp, .ref mby, .int (nI bl), .int (nI ta), .int (nI tl), .int (nI tk), .int vv, .ref an, .ref va])), (mrf, .inl (y 0, 3, .inl frf)), (to, .inl (y 0, 228, .inl ft)), (ke, .inl (y 0, 456, .inl fke)), (ik, .inl (y 2, 2, .inl fik))] [] [(mo, .inr (11, [.ref to, .ref ke, .ref ik, .ref mrf, .long mab, .long mbl, .ref ha, .ref r0, .ref mbr, .ref mbp, .ref mby, .int (nI bl), .int (nI ta), .int (nI tl), .int (nI tk), .int vv, .ref an, .ref va])), (mrf, .inl (y 0, 3, .inl frf)), (to, .inl (y 0, 228, .inl ft)), (ke, .inl (y 0, 456, .inl fke)), (ik, .inl (y 2, 2, .inl fik))] [] [0, 1, 2, 3, 4] := ⟨rfl, rfl, rfl, rfl, rfl, by decide⟩
  refine kw_go_i hs1 hP hD hS hA (va_runS (As := [.long ((nI 0).toInt64), .long 0, .long 1]) (rest := []) ⟨hx, hb, hml, hown, hts⟩ (gr_in l D y (nI 0) 0 1 (by omega) (by omega) _) (va_cwS 3 hts gX11_from_X11_in rfl rfl rfl (by decide +kernel) ⟨Nat.le_of_ble_eq_true rfl, Nat.le_of_ble_eq_true rfl⟩) (kw_PreS hs1 hP hD hK hN) rfl rfl hl.1 rfl (lv_room (Nat.le_of_ble_eq_true rfl)) dX11_from_4 ⟨Nat.le_of_ble_eq_true rfl, Nat.le_of_ble_eq_true rfl⟩) (fun r2 u3 H locs hq hP hD hS => ?_)
  rcases hq with ⟨j4, h5, h6, h7, rfl⟩ | ⟨h8, rfl⟩
  · skip
    have h7 : 0 = j4 := (nI_eq (a := 0) (b := j4) (by omega) (by omega)).mp h7
    have hP : va_P D vwCl [(mo, .inr (11, [.ref to, .ref ke, .ref ik, .ref mrf, .long mab, .long mbl, .ref ha, .ref r0, .ref mbr, .ref mbp, .ref mby, .int (nI bl), .int (nI ta), .int (nI tl), .int (nI tk), .int vv, .ref an, .ref va])), (mrf, .inl (y 0, 3, .inl frf)), (to, .inl (y 0, 228, .inl ft)), (ke, .inl (y 0, 456, .inl fke)), (ik, .inl (y 2, 2, .inl fik))] H := hP
    have hD : va_D A [(mo, .inr (11, [.ref to, .ref ke, .ref ik, .ref mrf, .long mab, .long mbl, .ref ha, .ref r0, .ref mbr, .ref mbp, .ref mby, .int (nI bl), .int (nI ta), .int (nI tl), .int (nI tk), .int vv, .ref an, .ref va])), (mrf, .inl (y 0, 3, .inl frf)), (to, .inl (y 0, 228, .inl ft)), (ke, .inl (y 0, 456, .inl fke)), (ik, .inl (y 2, 2, .inl fik))] := hD
    refine lv_if_ne (tgt := 17) hx hb dX11_from_7 (by decide) (fun _ => ?_) (fun h9 => absurd h9 (by decide))
    refine lv_aload_n hx hb dX11_from_17 rfl (lv_at hl 0 rfl) ?_
    refine va_get (D := D) (ci := 11) (v := .ref ik) (C := RX11) (T := TX11) (N := 18) hx hb hts iw11 hown hK hP 0 rfl rfl 2 (by decide) fw1 (fun _ h9 => h9) rfl dX11_from_18 ?_
    refine lv_iload_n hx hb dX11_from_21 rfl (lv_at hl 1 rfl) ?_
    refine va_zald hx hb hK hP 4 2 rfl rfl (vp_in_nI (by omega) (by decide)) dX11_from_22 ?_
    rw [nI_clamp (n := 0) (by omega)]
    refine lv_if_ne (tgt := 31) hx hb dX11_from_23 (by decide) (fun h9 => ?_) (fun h10 => ?_)
    · skip
      refine lv_iconst (v := 0) hx hb dX11_from_31 (by decide) ?_
      refine lv_istore_n (lv' := [(2, .int 0), (0, .ref mo), (1, .int (nI 0))]) hx hb dX11_from_32 rfl hl (by decide) rfl (fun ls hl => ?_)
      have lp52 : ∀ (fuj91 j91 : Nat) (x31 : Nat → Int32) (H : Heap) (locs : List Loc) (ls : Array Slot), j91 ≤ 228 → 228 - j91 < fuj91 → x31 = kr_cp ft fke j91 → va_P D vwCl [(mo, .inr (11, [.ref to, .ref ke, .ref ik, .ref mrf, .long mab, .long mbl, .ref ha, .ref r0, .ref mbr, .ref mbp, .ref mby, .int (nI bl), .int (nI ta), .int (nI tl), .int (nI tk), .int vv, .ref an, .ref va])), (mrf, .inl (y 0, 3, .inl frf)), (to, .inl (y 0, 228, .inl x31)), (ke, .inl (y 0, 456, .inl fke)), (ik, .inl (y 2, 2, .inl fik))] H → va_D A [(mo, .inr (11, [.ref to, .ref ke, .ref ik, .ref mrf, .long mab, .long mbl, .ref ha, .ref r0, .ref mbr, .ref mbp, .ref mby, .int (nI bl), .int (nI ta), .int (nI tl), .int (nI tk), .int vv, .ref an, .ref va])), (mrf, .inl (y 0, 3, .inl frf)), (to, .inl (y 0, 228, .inl x31)), (ke, .inl (y 0, 456, .inl fke)), (ik, .inl (y 2, 2, .inl fik))] → va_S A s.heap H locs → lv_has ls 3 [(2, .int (nI j91)), (0, .ref mo), (1, .int (nI 0))] → W pZ l eZ ({ frames := 2, cells := 0, slots := 0, locals := 85 }) s mZ [.ref mo, .int (nI 0)].toArray beZ meZ cZ H locs 0 0 (MQ beZ (va_Qi (fun (r : Int32) (u : Nat) => kr_t 228 (kr_cp ft fke 228) ∧ (kr_cp ft fke 228) 0 = (nI o1) ∧ (kr_cp ft fke 228) 1 = (nI o2) ∧ (kr_cp ft fke 228) 2 = (nI o3) ∧ (kr_cp ft fke 228) 3 = (nI o4) ∧ u ≤ 8 ∧ (kr_cp ft fke 228) 4 = (nI u) ∧ (o2 = 0 ∨ 0 < o1) ∧ r = 1) (kw_B D (fun u => [(mo, .inr (11, [.ref to, .ref ke, .ref ik, .ref mrf, .long mab, .long mbl, .ref ha, .ref r0, .ref mbr, .ref mbp, .ref mby, .int (nI bl), .int (nI ta), .int (nI tl), .int (nI tk), .int vv, .ref an, .ref va])), (mrf, .inl (y 0, 3, .inl frf)), (to, .inl (y 0, 228, .inl (kr_cp ft fke 228))), (ke, .inl (y 0, 456, .inl fke)), (ik, .inl (y 2, 2, .inl fik))]) A) A) [.ref mo, .int (nI 0)].toArray s 0 0 A) (F0 mZ 33 ls []) := by
        intro fuj91
        induction fuj91 with
        | zero => intro j91 x31 H locs ls hj9 hf9; exact absurd hf9 (Nat.not_lt_zero _)
        | succ fuj91 ihj91 =>
          intro j91 x31 H locs ls hj91 hfj91 hI0_j91 hP hD hS hl
          refine lv_iload_n hx hb dX11_from_33 rfl (lv_at hl 0 rfl) ?_
          refine lv_sipush (v := 228) hx hb dX11_from_34 (by decide) ?_
          refine lv_icmp_ge (tgt := 64) hx hb dX11_from_37 (by decide) (fun h53 => ?_) (fun h54 => ?_)
          · skip
            have h53 : 228 ≤ j91 := (nI_leI (a := 228) (b := j91) (by omega) (by omega)).mp h53
            obtain rfl : j91 = 228 := by omega
            subst hI0_j91
            have hP : va_P D vwCl [(mo, .inr (11, [.ref to, .ref ke, .ref ik, .ref mrf, .long mab, .long mbl, .ref ha, .ref r0, .ref mbr, .ref mbp, .ref mby, .int (nI bl), .int (nI ta), .int (nI tl), .int (nI tk), .int vv, .ref an, .ref va])), (mrf, .inl (y 0, 3, .inl frf)), (to, .inl (y 0, 228, .inl (kr_cp ft fke 228))), (ke, .inl (y 0, 456, .inl fke)), (ik, .inl (y 2, 2, .inl fik))] H := hP
            have hD : va_D A [(mo, .inr (11, [.ref to, .ref ke, .ref ik, .ref mrf, .long mab, .long mbl, .ref ha, .ref r0, .ref mbr, .ref mbp, .ref mby, .int (nI bl), .int (nI ta), .int (nI tl), .int (nI tk), .int vv, .ref an, .ref va])), (mrf, .inl (y 0, 3, .inl frf)), (to, .inl (y 0, 228, .inl (kr_cp ft fke 228))), (ke, .inl (y 0, 456, .inl fke)), (ik, .inl (y 2, 2, .inl fik))] := hD
            obtain ⟨q9e, h55, h56, h57, h58, h59, h60, h61, h62, h63, h64, h65, h66⟩ := hKs
            have hr67 : kr_t 228 (kr_cp ft fke 228) := kr_cpt h66 hkt (by decide)
            have hk68 : (kr_cp ft fke 228) 0 = (nI o1) := (kr_cp_lt (by decide)).trans h55
            have hk69 : (kr_cp ft fke 228) 1 = (nI o2) := (kr_cp_lt (by decide)).trans h56
            have hk70 : (kr_cp ft fke 228) 2 = (nI o3) := (kr_cp_lt (by decide)).trans h57
            have hk71 : (kr_cp ft fke 228) 3 = (nI o4) := (kr_cp_lt (by decide)).trans h58
            have hk72 : (kr_cp ft fke 228) 4 = (nI q9e) := (kr_cp_lt (by decide)).trans h59
            refine lv_iconst (v := 1) hx hb dX11_from_64 (by decide) ?_
            exact W.iret (v := 1) hx hb hr (fun tZ ht hW => ⟨⟨1, (q9e), rfl, ⟨hr67, hk68, hk69, hk70, hk71, by first | omega | (dsimp only; omega), hk72, by first | omega | (dsimp only; omega), rfl⟩, by rw [ht]; exact hP.sub [0, 1, 2, 3, 4] rfl, hD.sub [0, 1, 2, 3, 4] (by decide) rfl⟩, hS.F ht⟩) hS.2.2 dX11_from_65
          · skip
            have h54 : ¬ 228 ≤ j91 := fun q9 => h54 ((nI_leI (a := 228) (b := j91) (by omega) (by omega)).mpr q9)
            refine lv_aload_n hx hb dX11_from_40 rfl (lv_at hl 1 rfl) ?_
            refine va_get (D := D) (ci := 11) (v := .ref to) (C := RX11) (T := TX11) (N := 18) hx hb hts iw11 hown hK hP 0 rfl rfl 0 (by decide) fw2 (fun _ h9 => h9) rfl dX11_from_41 ?_
            refine lv_iload_n hx hb dX11_from_44 rfl (lv_at hl 0 rfl) ?_
            refine lv_aload_n hx hb dX11_from_45 rfl (lv_at hl 1 rfl) ?_
            refine va_get (D := D) (ci := 11) (v := .ref ke) (C := RX11) (T := TX11) (N := 18) hx hb hts iw11 hown hK hP 0 rfl rfl 1 (by decide) fw3 (fun _ h9 => h9) rfl dX11_from_46 ?_
            refine lv_sipush (v := 228) hx hb dX11_from_49 (by decide) ?_
            refine lv_iload_n hx hb dX11_from_52 rfl (lv_at hl 2 rfl) ?_
            refine lv_imul hx hb dX11_from_53 ?_
            rw [show 228 * (nI 0) = nI (0) from pk_mul 228 0]
            refine lv_iload_n hx hb dX11_from_54 rfl (lv_at hl 0 rfl) ?_
            refine lv_iadd hx hb dX11_from_55 ?_
            rw [show (nI 0) + (nI j91) = nI (j91) from (nI_add 0 j91).trans (congrArg nI (by omega))]
            refine va_iald hx hb hK hP 3 0 rfl rfl (vp_in_nI (by omega) (by decide)) dX11_from_56 ?_
            rw [nI_clamp (n := j91) (by omega)]
            refine va_iast hx hb hK hP hD hS 2 0 rfl rfl (vp_in_nI (by omega) (by decide)) dX11_from_57 (fun H locs hP hD hS => ?_)
            rw [nI_clamp (n := j91) (by omega)] at hP hD
            have hP : va_P D vwCl [(mo, .inr (11, [.ref to, .ref ke, .ref ik, .ref mrf, .long mab, .long mbl, .ref ha, .ref r0, .ref mbr, .ref mbp, .ref mby, .int (nI bl), .int (nI ta), .int (nI tl), .int (nI tk), .int vv, .ref an, .ref va])), (mrf, .inl (y 0, 3, .inl frf)), (to, .inl (y 0, 228, .inl (upd x31 j91 (fke j91)))), (ke, .inl (y 0, 456, .inl fke)), (ik, .inl (y 2, 2, .inl fik))] H := hP
            have hD : va_D A [(mo, .inr (11, [.ref to, .ref ke, .ref ik, .ref mrf, .long mab, .long mbl, .ref ha, .ref r0, .ref mbr, .ref mbp, .ref mby, .int (nI bl), .int (nI ta), .int (nI tl), .int (nI tk), .int vv, .ref an, .ref va])), (mrf, .inl (y 0, 3, .inl frf)), (to, .inl (y 0, 228, .inl (upd x31 j91 (fke j91)))), (ke, .inl (y 0, 456, .inl fke)), (ik, .inl (y 2, 2, .inl fik))] := hD
            refine lv_iinc (v := (nI (j91 + 1))) (lv' := [(2, .int (nI (j91 + 1))), (0, .ref mo), (1, .int (nI 0))]) hx hb dX11_from_58 hl (k := 0) rfl (nI_1 j91) (by decide) rfl (fun ls hl => ?_)
            refine lv_goto (tgt := 33) hx hb dX11_from_61 (by decide) ?_
            exact ihj91 (j91 + 1) (upd x31 j91 (fke j91)) H locs ls (by omega) (by omega) (by rw [hI0_j91]; exact kr_cpS) (hP.sub [0, 1, 2, 3, 4] rfl) (hD.sub [0, 1, 2, 3, 4] (by decide) rfl) hS (lv_sub hl [0, 1, 2] rfl)
      exact lp52 (228 + 1) 0 ft _ _ _ (by omega) (by omega) kr_cp0 hP hD hS (lv_sub hl [0, 1, 2] rfl)
    · skip
      exact absurd h10 hfl
  · skip
    exact absurd ⟨0, by omega, by omega, rfl⟩ h8

set_option maxHeartbeats 4000000 in
set_option maxRecDepth 100000 in
theorem gs_image1 (l : Launch) (D : va_G) (y : Nat → ClassId) (mo : Nat) (to : Nat) (ke : Nat) (ik : Nat) (mrf : Nat) (ha : Nat) (r0 : Nat) (mbr : Nat) (mbp : Nat) (mby : Nat) (an : Nat) (va : Nat) (mab : Int64) (mbl : Int64) (bl : Nat) (ta : Nat) (tl : Nat) (tk : Nat) (vv : Int32) (frf : Nat → Int32) (ft : Nat → Int32) (fi : Nat) (gl : Nat) (mi : Nat) (no : Nat) (un : Nat) (fke : Nat → Int32) (fik : Nat → Int32) (o1 : Nat) (o2 : Nat) (o3 : Nat) (o4 : Nat) (hk0_ : ft 0 = (nI fi)) (hk1_ : ft 1 = (nI gl)) (hk2_ : ft 2 = (nI mi)) (hk3_ : ft 3 = (nI no)) (hk4_ : ft 4 = (nI un)) (hkt : kr_t 228 ft) (hfi : fi ≤ 6) (hgl : gl ≤ 5) (hmi : mi ≤ 4) (hno : no ≤ 6) (hun : un ≤ 8) (hgf : (gl = 0 ∨ 0 < fi)) (hKo : kr_KK fke o1 o2 o3 o4) : kw_Mi l yX11_image wsX11_image ({ frames := 2, cells := 0, slots := 0, locals := 85 }) D y [.ref mo, .int (nI 1)] [(mo, .inr (11, [.ref to, .ref ke, .ref ik, .ref mrf, .long mab, .long mbl, .ref ha, .ref r0, .ref mbr, .ref mbp, .ref mby, .int (nI bl), .int (nI ta), .int (nI tl), .int (nI tk), .int vv, .ref an, .ref va])), (mrf, .inl (y 0, 3, .inl frf)), (to, .inl (y 0, 228, .inl ft)), (ke, .inl (y 0, 456, .inl fke)), (ik, .inl (y 2, 2, .inl fik))] (fun (r : Int32) (u : Unit) => kr_KK (kr_co fke ft 228) o1 o2 o3 o4 ∧ kr_KK (fun p => (kr_co fke ft 228) (p + 228)) fi gl mi no ∧ r = 1) (fun _ => [(mo, .inr (11, [.ref to, .ref ke, .ref ik, .ref mrf, .long mab, .long mbl, .ref ha, .ref r0, .ref mbr, .ref mbp, .ref mby, .int (nI bl), .int (nI ta), .int (nI tl), .int (nI tk), .int vv, .ref an, .ref va])), (mrf, .inl (y 0, 3, .inl frf)), (to, .inl (y 0, 228, .inl ft)), (ke, .inl (y 0, 456, .inl (kr_co fke ft 228))), (ik, .inl (y 2, 2, .inl (upd fik 1 (vp_nar .boolean 1))))]) 0 0 := by
  refine kw_Mi.of (cc := cX11_image) (maxL := 3) (ret := (some .int)) (by decide) rfl ?_
  intro pZ eZ s mZ beZ meZ cZ A hE
  obtain ⟨hx, hb, hr, hml, hts, hown, hlocks, hin, hA, hP, hD, hK, hN⟩ := hE
  have hS : va_S A s.heap s.heap [] := va_S.rf
  have hl := lv_entry ([.ref mo, .int (nI 1)]) (n := 3) (Nat.le_of_ble_eq_true rfl)
  rw [lg_entry_eq]
  generalize (lg_sl ([.ref mo, .int (nI 1)]) ++ List.replicate (3 - (lg_sl ([.ref mo, .int (nI 1)])).length) Slot.unset).toArray = ls at hl ⊢
  have hl : lv_has ls 3 [(0, .ref mo), (1, .int (nI 1))] := hl
  have fw1 := hts (.fieldLink RX11 16 "GleanDuskModel" "isKept" "[Z") (List.mem_of_getElem? (i := 3) rfl)
  have fw2 := hts (.fieldLink RX11 13 "GleanDuskModel" "kept" "[I") (List.mem_of_getElem? (i := 1) rfl)
  have fw3 := hts (.fieldLink RX11 7 "GleanDuskModel" "told" "[I") (List.mem_of_getElem? (i := 2) rfl)
  have iw11 : ∀ w ∈ wsX110, w ∈ wsX11_image := fun _ h => List.mem_cons_of_mem _ (List.mem_append_right _ h)
  refine lv_iload_n hx hb dX11_image_0 rfl (lv_at hl 1 rfl) ?_
  refine lv_i2l (v := (nI 1).toInt64) hx hb dX11_image_1 (rfl) ?_
  refine lv_lconst (v := 0) hx hb dX11_image_2 (by decide) ?_
  refine lv_lconst (v := 1) hx hb dX11_image_3 (by decide) ?_
  have hs1 : kw_Split [(mo, .inr (11, [.ref to, .ref ke, .ref ik, .ref mrf, .long mab, .long mbl, .ref ha, .ref r0, .ref mbr, .ref mbp, .ref mby, .int (nI bl), .int (nI ta), .int (nI tl), .int (nI tk), .int vv, .ref an, .ref va])), (mrf, .inl (y 0, 3, .inl frf)), (to, .inl (y 0, 228, .inl ft)), (ke, .inl (y 0, 456, .inl fke)), (ik, .inl (y 2, 2, .inl fik))] [] [(mo, .inr (11, [.ref to, .ref ke, .ref ik, .ref mrf, .long mab, .long mbl, .ref ha, .ref r0, .ref mbr, .ref mbp, .ref mby, .int (nI bl), .int (nI ta), .int (nI tl), .int (nI tk), .int vv, .ref an, .ref va])), (mrf, .inl (y 0, 3, .inl frf)), (to, .inl (y 0, 228, .inl ft)), (ke, .inl (y 0, 456, .inl fke)), (ik, .inl (y 2, 2, .inl fik))] [] [0, 1, 2, 3, 4] := ⟨rfl, rfl, rfl, rfl, rfl, by decide⟩
  refine kw_go_i hs1 hP hD hS hA (va_runS (As := [.long ((nI 1).toInt64), .long 0, .long 1]) (rest := []) ⟨hx, hb, hml, hown, hts⟩ (gr_in l D y (nI 1) 0 1 (by omega) (by omega) _) (va_cwS 3 hts gX11_image_X11_in rfl rfl rfl (by decide +kernel) ⟨Nat.le_of_ble_eq_true rfl, Nat.le_of_ble_eq_true rfl⟩) (kw_PreS hs1 hP hD hK hN) rfl rfl hl.1 rfl (lv_room (Nat.le_of_ble_eq_true rfl)) dX11_image_4 ⟨Nat.le_of_ble_eq_true rfl, Nat.le_of_ble_eq_true rfl⟩) (fun r2 u3 H locs hq hP hD hS => ?_)
  rcases hq with ⟨j4, h5, h6, h7, rfl⟩ | ⟨h8, rfl⟩
  · skip
    have h7 : 1 = j4 := (nI_eq (a := 1) (b := j4) (by omega) (by omega)).mp h7
    have hP : va_P D vwCl [(mo, .inr (11, [.ref to, .ref ke, .ref ik, .ref mrf, .long mab, .long mbl, .ref ha, .ref r0, .ref mbr, .ref mbp, .ref mby, .int (nI bl), .int (nI ta), .int (nI tl), .int (nI tk), .int vv, .ref an, .ref va])), (mrf, .inl (y 0, 3, .inl frf)), (to, .inl (y 0, 228, .inl ft)), (ke, .inl (y 0, 456, .inl fke)), (ik, .inl (y 2, 2, .inl fik))] H := hP
    have hD : va_D A [(mo, .inr (11, [.ref to, .ref ke, .ref ik, .ref mrf, .long mab, .long mbl, .ref ha, .ref r0, .ref mbr, .ref mbp, .ref mby, .int (nI bl), .int (nI ta), .int (nI tl), .int (nI tk), .int vv, .ref an, .ref va])), (mrf, .inl (y 0, 3, .inl frf)), (to, .inl (y 0, 228, .inl ft)), (ke, .inl (y 0, 456, .inl fke)), (ik, .inl (y 2, 2, .inl fik))] := hD
    refine lv_if_ne (tgt := 17) hx hb dX11_image_7 (by decide) (fun _ => ?_) (fun h9 => absurd h9 (by decide))
    refine lv_iconst (v := 0) hx hb dX11_image_17 (by decide) ?_
    refine lv_istore_n (lv' := [(2, .int 0), (0, .ref mo), (1, .int (nI 1))]) hx hb dX11_image_18 rfl hl (by decide) rfl (fun ls hl => ?_)
    have lp14 : ∀ (fuj91 j91 : Nat) (x11 : Nat → Int32) (H : Heap) (locs : List Loc) (ls : Array Slot), j91 ≤ 228 → 228 - j91 < fuj91 → x11 = kr_co fke ft j91 → va_P D vwCl [(mo, .inr (11, [.ref to, .ref ke, .ref ik, .ref mrf, .long mab, .long mbl, .ref ha, .ref r0, .ref mbr, .ref mbp, .ref mby, .int (nI bl), .int (nI ta), .int (nI tl), .int (nI tk), .int vv, .ref an, .ref va])), (mrf, .inl (y 0, 3, .inl frf)), (to, .inl (y 0, 228, .inl ft)), (ke, .inl (y 0, 456, .inl x11)), (ik, .inl (y 2, 2, .inl fik))] H → va_D A [(mo, .inr (11, [.ref to, .ref ke, .ref ik, .ref mrf, .long mab, .long mbl, .ref ha, .ref r0, .ref mbr, .ref mbp, .ref mby, .int (nI bl), .int (nI ta), .int (nI tl), .int (nI tk), .int vv, .ref an, .ref va])), (mrf, .inl (y 0, 3, .inl frf)), (to, .inl (y 0, 228, .inl ft)), (ke, .inl (y 0, 456, .inl x11)), (ik, .inl (y 2, 2, .inl fik))] → va_S A s.heap H locs → lv_has ls 3 [(2, .int (nI j91)), (0, .ref mo), (1, .int (nI 1))] → W pZ l eZ ({ frames := 2, cells := 0, slots := 0, locals := 85 }) s mZ [.ref mo, .int (nI 1)].toArray beZ meZ cZ H locs 0 0 (MQ beZ (va_Qi (fun (r : Int32) (u : Unit) => kr_KK (kr_co fke ft 228) o1 o2 o3 o4 ∧ kr_KK (fun p => (kr_co fke ft 228) (p + 228)) fi gl mi no ∧ r = 1) (kw_B D (fun _ => [(mo, .inr (11, [.ref to, .ref ke, .ref ik, .ref mrf, .long mab, .long mbl, .ref ha, .ref r0, .ref mbr, .ref mbp, .ref mby, .int (nI bl), .int (nI ta), .int (nI tl), .int (nI tk), .int vv, .ref an, .ref va])), (mrf, .inl (y 0, 3, .inl frf)), (to, .inl (y 0, 228, .inl ft)), (ke, .inl (y 0, 456, .inl (kr_co fke ft 228))), (ik, .inl (y 2, 2, .inl (upd fik 1 (vp_nar .boolean 1))))]) A) A) [.ref mo, .int (nI 1)].toArray s 0 0 A) (F0 mZ 19 ls []) := by
      intro fuj91
      induction fuj91 with
      | zero => intro j91 x11 H locs ls hj9 hf9; exact absurd hf9 (Nat.not_lt_zero _)
      | succ fuj91 ihj91 =>
        intro j91 x11 H locs ls hj91 hfj91 hI0_j91 hP hD hS hl
        refine lv_iload_n hx hb dX11_image_19 rfl (lv_at hl 0 rfl) ?_
        refine lv_sipush (v := 228) hx hb dX11_image_20 (by decide) ?_
        refine lv_icmp_ge (tgt := 50) hx hb dX11_image_23 (by decide) (fun h15 => ?_) (fun h16 => ?_)
        · skip
          have h15 : 228 ≤ j91 := (nI_leI (a := 228) (b := j91) (by omega) (by omega)).mp h15
          obtain rfl : j91 = 228 := by omega
          subst hI0_j91
          have hP : va_P D vwCl [(mo, .inr (11, [.ref to, .ref ke, .ref ik, .ref mrf, .long mab, .long mbl, .ref ha, .ref r0, .ref mbr, .ref mbp, .ref mby, .int (nI bl), .int (nI ta), .int (nI tl), .int (nI tk), .int vv, .ref an, .ref va])), (mrf, .inl (y 0, 3, .inl frf)), (to, .inl (y 0, 228, .inl ft)), (ke, .inl (y 0, 456, .inl (kr_co fke ft 228))), (ik, .inl (y 2, 2, .inl fik))] H := hP
          have hD : va_D A [(mo, .inr (11, [.ref to, .ref ke, .ref ik, .ref mrf, .long mab, .long mbl, .ref ha, .ref r0, .ref mbr, .ref mbp, .ref mby, .int (nI bl), .int (nI ta), .int (nI tl), .int (nI tk), .int vv, .ref an, .ref va])), (mrf, .inl (y 0, 3, .inl frf)), (to, .inl (y 0, 228, .inl ft)), (ke, .inl (y 0, 456, .inl (kr_co fke ft 228))), (ik, .inl (y 2, 2, .inl fik))] := hD
          refine lv_aload_n hx hb dX11_image_50 rfl (lv_at hl 1 rfl) ?_
          refine va_get (D := D) (ci := 11) (v := .ref ik) (C := RX11) (T := TX11) (N := 18) hx hb hts iw11 hown hK hP 0 rfl rfl 2 (by decide) fw1 (fun _ h9 => h9) rfl dX11_image_51 ?_
          refine lv_iload_n hx hb dX11_image_54 rfl (lv_at hl 2 rfl) ?_
          refine lv_iconst (v := 1) hx hb dX11_image_55 (by decide) ?_
          refine va_zast hx hb hK hP hD hS 4 2 rfl rfl (vp_in_nI (by omega) (by decide)) dX11_image_56 (fun H locs hP hD hS => ?_)
          rw [nI_clamp (n := 1) (by omega)] at hP hD
          have hP : va_P D vwCl [(mo, .inr (11, [.ref to, .ref ke, .ref ik, .ref mrf, .long mab, .long mbl, .ref ha, .ref r0, .ref mbr, .ref mbp, .ref mby, .int (nI bl), .int (nI ta), .int (nI tl), .int (nI tk), .int vv, .ref an, .ref va])), (mrf, .inl (y 0, 3, .inl frf)), (to, .inl (y 0, 228, .inl ft)), (ke, .inl (y 0, 456, .inl (kr_co fke ft 228))), (ik, .inl (y 2, 2, .inl (upd fik 1 (vp_nar .boolean 1))))] H := hP
          have hD : va_D A [(mo, .inr (11, [.ref to, .ref ke, .ref ik, .ref mrf, .long mab, .long mbl, .ref ha, .ref r0, .ref mbr, .ref mbp, .ref mby, .int (nI bl), .int (nI ta), .int (nI tl), .int (nI tk), .int vv, .ref an, .ref va])), (mrf, .inl (y 0, 3, .inl frf)), (to, .inl (y 0, 228, .inl ft)), (ke, .inl (y 0, 456, .inl (kr_co fke ft 228))), (ik, .inl (y 2, 2, .inl (upd fik 1 (vp_nar .boolean 1))))] := hD
          refine lv_iconst (v := 1) hx hb dX11_image_57 (by decide) ?_
          exact W.iret (v := 1) hx hb hr (fun tZ ht hW => ⟨⟨1, (), rfl, ⟨(show kr_KK (kr_co fke ft 228) o1 o2 o3 o4 from hKo.congr (fun p hp => kr_co_lo hp)), (show kr_KK (fun p => kr_co fke ft 228 (p + 228)) fi gl mi no from (kr_KK.mk hk0_ hk1_ hk2_ hk3_ hk4_ hfi hgl hmi hno hun hgf hkt).congr (fun p hp => kr_co_hi (g := fke) (f := ft) hp)), rfl⟩, by rw [ht]; exact hP.sub [0, 1, 2, 3, 4] rfl, hD.sub [0, 1, 2, 3, 4] (by decide) rfl⟩, hS.F ht⟩) hS.2.2 dX11_image_58
        · skip
          have h16 : ¬ 228 ≤ j91 := fun q9 => h16 ((nI_leI (a := 228) (b := j91) (by omega) (by omega)).mpr q9)
          refine lv_aload_n hx hb dX11_image_26 rfl (lv_at hl 1 rfl) ?_
          refine va_get (D := D) (ci := 11) (v := .ref ke) (C := RX11) (T := TX11) (N := 18) hx hb hts iw11 hown hK hP 0 rfl rfl 1 (by decide) fw2 (fun _ h9 => h9) rfl dX11_image_27 ?_
          refine lv_sipush (v := 228) hx hb dX11_image_30 (by decide) ?_
          refine lv_iload_n hx hb dX11_image_33 rfl (lv_at hl 2 rfl) ?_
          refine lv_imul hx hb dX11_image_34 ?_
          rw [show 228 * (nI 1) = nI (228) from pk_mul 228 1]
          refine lv_iload_n hx hb dX11_image_35 rfl (lv_at hl 0 rfl) ?_
          refine lv_iadd hx hb dX11_image_36 ?_
          rw [show (nI 228) + (nI j91) = nI (j91 + 228) from (nI_add 228 j91).trans (congrArg nI (by omega))]
          refine lv_aload_n hx hb dX11_image_37 rfl (lv_at hl 1 rfl) ?_
          refine va_get (D := D) (ci := 11) (v := .ref to) (C := RX11) (T := TX11) (N := 18) hx hb hts iw11 hown hK hP 0 rfl rfl 0 (by decide) fw3 (fun _ h9 => h9) rfl dX11_image_38 ?_
          refine lv_iload_n hx hb dX11_image_41 rfl (lv_at hl 0 rfl) ?_
          refine va_iald hx hb hK hP 2 0 rfl rfl (vp_in_nI (by omega) (by decide)) dX11_image_42 ?_
          rw [nI_clamp (n := j91) (by omega)]
          refine va_iast hx hb hK hP hD hS 3 0 rfl rfl (vp_in_nI (by omega) (by decide)) dX11_image_43 (fun H locs hP hD hS => ?_)
          rw [nI_clamp (n := (j91 + 228)) (by omega)] at hP hD
          have hP : va_P D vwCl [(mo, .inr (11, [.ref to, .ref ke, .ref ik, .ref mrf, .long mab, .long mbl, .ref ha, .ref r0, .ref mbr, .ref mbp, .ref mby, .int (nI bl), .int (nI ta), .int (nI tl), .int (nI tk), .int vv, .ref an, .ref va])), (mrf, .inl (y 0, 3, .inl frf)), (to, .inl (y 0, 228, .inl ft)), (ke, .inl (y 0, 456, .inl (upd x11 (j91 + 228) (ft j91)))), (ik, .inl (y 2, 2, .inl fik))] H := hP
          have hD : va_D A [(mo, .inr (11, [.ref to, .ref ke, .ref ik, .ref mrf, .long mab, .long mbl, .ref ha, .ref r0, .ref mbr, .ref mbp, .ref mby, .int (nI bl), .int (nI ta), .int (nI tl), .int (nI tk), .int vv, .ref an, .ref va])), (mrf, .inl (y 0, 3, .inl frf)), (to, .inl (y 0, 228, .inl ft)), (ke, .inl (y 0, 456, .inl (upd x11 (j91 + 228) (ft j91)))), (ik, .inl (y 2, 2, .inl fik))] := hD
          refine lv_iinc (v := (nI (j91 + 1))) (lv' := [(2, .int (nI (j91 + 1))), (0, .ref mo), (1, .int (nI 1))]) hx hb dX11_image_44 hl (k := 0) rfl (nI_1 j91) (by decide) rfl (fun ls hl => ?_)
          refine lv_goto (tgt := 19) hx hb dX11_image_47 (by decide) ?_
          exact ihj91 (j91 + 1) (upd x11 (j91 + 228) (ft j91)) H locs ls (by omega) (by omega) (by rw [hI0_j91]; exact kr_coS) (hP.sub [0, 1, 2, 3, 4] rfl) (hD.sub [0, 1, 2, 3, 4] (by decide) rfl) hS (lv_sub hl [0, 1, 2] rfl)
    exact lp14 (228 + 1) 0 fke _ _ _ (by omega) (by omega) kr_co0 hP hD hS (lv_sub hl [0, 1, 2] rfl)
  · skip
    exact absurd ⟨1, by omega, by omega, rfl⟩ h8

set_option maxHeartbeats 4000000 in
set_option maxRecDepth 100000 in
theorem gs_from1y (l : Launch) (D : va_G) (y : Nat → ClassId) (mo : Nat) (to : Nat) (ke : Nat) (ik : Nat) (mrf : Nat) (ha : Nat) (r0 : Nat) (mbr : Nat) (mbp : Nat) (mby : Nat) (an : Nat) (va : Nat) (mab : Int64) (mbl : Int64) (bl : Nat) (ta : Nat) (tl : Nat) (tk : Nat) (vv : Int32) (frf : Nat → Int32) (ft : Nat → Int32) (fi : Nat) (gl : Nat) (mi : Nat) (no : Nat) (un : Nat) (fke : Nat → Int32) (fik : Nat → Int32) (o1 : Nat) (o2 : Nat) (o3 : Nat) (o4 : Nat) (hk0_ : ft 0 = (nI fi)) (hk1_ : ft 1 = (nI gl)) (hk2_ : ft 2 = (nI mi)) (hk3_ : ft 3 = (nI no)) (hk4_ : ft 4 = (nI un)) (hkt : kr_t 228 ft) (hfi : fi ≤ 6) (hgl : gl ≤ 5) (hmi : mi ≤ 4) (hno : no ≤ 6) (hun : un ≤ 8) (hgf : (gl = 0 ∨ 0 < fi)) (hKs : kr_KK (fun p => fke (p + 228)) o1 o2 o3 o4) (hfl : ¬ (fik 1) = 0) : kw_Mi l yX11_from wsX11_from ({ frames := 2, cells := 0, slots := 0, locals := 85 }) D y [.ref mo, .int (nI 1)] [(mo, .inr (11, [.ref to, .ref ke, .ref ik, .ref mrf, .long mab, .long mbl, .ref ha, .ref r0, .ref mbr, .ref mbp, .ref mby, .int (nI bl), .int (nI ta), .int (nI tl), .int (nI tk), .int vv, .ref an, .ref va])), (mrf, .inl (y 0, 3, .inl frf)), (to, .inl (y 0, 228, .inl ft)), (ke, .inl (y 0, 456, .inl fke)), (ik, .inl (y 2, 2, .inl fik))] (fun (r : Int32) (u : Nat) => kr_t 228 (kr_cp ft (fun p => fke (p + 228)) 228) ∧ (kr_cp ft (fun p => fke (p + 228)) 228) 0 = (nI o1) ∧ (kr_cp ft (fun p => fke (p + 228)) 228) 1 = (nI o2) ∧ (kr_cp ft (fun p => fke (p + 228)) 228) 2 = (nI o3) ∧ (kr_cp ft (fun p => fke (p + 228)) 228) 3 = (nI o4) ∧ u ≤ 8 ∧ (kr_cp ft (fun p => fke (p + 228)) 228) 4 = (nI u) ∧ (o2 = 0 ∨ 0 < o1) ∧ r = 1) (fun u => [(mo, .inr (11, [.ref to, .ref ke, .ref ik, .ref mrf, .long mab, .long mbl, .ref ha, .ref r0, .ref mbr, .ref mbp, .ref mby, .int (nI bl), .int (nI ta), .int (nI tl), .int (nI tk), .int vv, .ref an, .ref va])), (mrf, .inl (y 0, 3, .inl frf)), (to, .inl (y 0, 228, .inl (kr_cp ft (fun p => fke (p + 228)) 228))), (ke, .inl (y 0, 456, .inl fke)), (ik, .inl (y 2, 2, .inl fik))]) 0 0 := by
  refine kw_Mi.of (cc := cX11_from) (maxL := 3) (ret := (some .int)) (by decide) rfl ?_
  intro pZ eZ s mZ beZ meZ cZ A hE
  obtain ⟨hx, hb, hr, hml, hts, hown, hlocks, hin, hA, hP, hD, hK, hN⟩ := hE
  have hS : va_S A s.heap s.heap [] := va_S.rf
  have hl := lv_entry ([.ref mo, .int (nI 1)]) (n := 3) (Nat.le_of_ble_eq_true rfl)
  rw [lg_entry_eq]
  generalize (lg_sl ([.ref mo, .int (nI 1)]) ++ List.replicate (3 - (lg_sl ([.ref mo, .int (nI 1)])).length) Slot.unset).toArray = ls at hl ⊢
  have hl : lv_has ls 3 [(0, .ref mo), (1, .int (nI 1))] := hl
  have fw1 := hts (.fieldLink RX11 16 "GleanDuskModel" "isKept" "[Z") (List.mem_of_getElem? (i := 1) rfl)
  have fw2 := hts (.fieldLink RX11 7 "GleanDuskModel" "told" "[I") (List.mem_of_getElem? (i := 2) rfl)
  have fw3 := hts (.fieldLink RX11 13 "GleanDuskModel" "kept" "[I") (List.mem_of_getElem? (i := 3) rfl)
  have iw11 : ∀ w ∈ wsX110, w ∈ wsX11_from := fun _ h => List.mem_cons_of_mem _ (List.mem_append_right _ h)
  refine lv_iload_n hx hb dX11_from_0 rfl (lv_at hl 1 rfl) ?_
  refine lv_i2l (v := (nI 1).toInt64) hx hb dX11_from_1 (rfl) ?_
  refine lv_lconst (v := 0) hx hb dX11_from_2 (by decide) ?_
  refine lv_lconst (v := 1) hx hb dX11_from_3 (by decide) ?_
  have hs1 : kw_Split [(mo, .inr (11, [.ref to, .ref ke, .ref ik, .ref mrf, .long mab, .long mbl, .ref ha, .ref r0, .ref mbr, .ref mbp, .ref mby, .int (nI bl), .int (nI ta), .int (nI tl), .int (nI tk), .int vv, .ref an, .ref va])), (mrf, .inl (y 0, 3, .inl frf)), (to, .inl (y 0, 228, .inl ft)), (ke, .inl (y 0, 456, .inl fke)), (ik, .inl (y 2, 2, .inl fik))] [] [(mo, .inr (11, [.ref to, .ref ke, .ref ik, .ref mrf, .long mab, .long mbl, .ref ha, .ref r0, .ref mbr, .ref mbp, .ref mby, .int (nI bl), .int (nI ta), .int (nI tl), .int (nI tk), .int vv, .ref an, .ref va])), (mrf, .inl (y 0, 3, .inl frf)), (to, .inl (y 0, 228, .inl ft)), (ke, .inl (y 0, 456, .inl fke)), (ik, .inl (y 2, 2, .inl fik))] [] [0, 1, 2, 3, 4] := ⟨rfl, rfl, rfl, rfl, rfl, by decide⟩
  refine kw_go_i hs1 hP hD hS hA (va_runS (As := [.long ((nI 1).toInt64), .long 0, .long 1]) (rest := []) ⟨hx, hb, hml, hown, hts⟩ (gr_in l D y (nI 1) 0 1 (by omega) (by omega) _) (va_cwS 3 hts gX11_from_X11_in rfl rfl rfl (by decide +kernel) ⟨Nat.le_of_ble_eq_true rfl, Nat.le_of_ble_eq_true rfl⟩) (kw_PreS hs1 hP hD hK hN) rfl rfl hl.1 rfl (lv_room (Nat.le_of_ble_eq_true rfl)) dX11_from_4 ⟨Nat.le_of_ble_eq_true rfl, Nat.le_of_ble_eq_true rfl⟩) (fun r2 u3 H locs hq hP hD hS => ?_)
  rcases hq with ⟨j4, h5, h6, h7, rfl⟩ | ⟨h8, rfl⟩
  · skip
    have h7 : 1 = j4 := (nI_eq (a := 1) (b := j4) (by omega) (by omega)).mp h7
    have hP : va_P D vwCl [(mo, .inr (11, [.ref to, .ref ke, .ref ik, .ref mrf, .long mab, .long mbl, .ref ha, .ref r0, .ref mbr, .ref mbp, .ref mby, .int (nI bl), .int (nI ta), .int (nI tl), .int (nI tk), .int vv, .ref an, .ref va])), (mrf, .inl (y 0, 3, .inl frf)), (to, .inl (y 0, 228, .inl ft)), (ke, .inl (y 0, 456, .inl fke)), (ik, .inl (y 2, 2, .inl fik))] H := hP
    have hD : va_D A [(mo, .inr (11, [.ref to, .ref ke, .ref ik, .ref mrf, .long mab, .long mbl, .ref ha, .ref r0, .ref mbr, .ref mbp, .ref mby, .int (nI bl), .int (nI ta), .int (nI tl), .int (nI tk), .int vv, .ref an, .ref va])), (mrf, .inl (y 0, 3, .inl frf)), (to, .inl (y 0, 228, .inl ft)), (ke, .inl (y 0, 456, .inl fke)), (ik, .inl (y 2, 2, .inl fik))] := hD
    refine lv_if_ne (tgt := 17) hx hb dX11_from_7 (by decide) (fun _ => ?_) (fun h9 => absurd h9 (by decide))
    refine lv_aload_n hx hb dX11_from_17 rfl (lv_at hl 0 rfl) ?_
    refine va_get (D := D) (ci := 11) (v := .ref ik) (C := RX11) (T := TX11) (N := 18) hx hb hts iw11 hown hK hP 0 rfl rfl 2 (by decide) fw1 (fun _ h9 => h9) rfl dX11_from_18 ?_
    refine lv_iload_n hx hb dX11_from_21 rfl (lv_at hl 1 rfl) ?_
    refine va_zald hx hb hK hP 4 2 rfl rfl (vp_in_nI (by omega) (by decide)) dX11_from_22 ?_
    rw [nI_clamp (n := 1) (by omega)]
    refine lv_if_ne (tgt := 31) hx hb dX11_from_23 (by decide) (fun h9 => ?_) (fun h10 => ?_)
    · skip
      refine lv_iconst (v := 0) hx hb dX11_from_31 (by decide) ?_
      refine lv_istore_n (lv' := [(2, .int 0), (0, .ref mo), (1, .int (nI 1))]) hx hb dX11_from_32 rfl hl (by decide) rfl (fun ls hl => ?_)
      have lp52 : ∀ (fuj91 j91 : Nat) (x31 : Nat → Int32) (H : Heap) (locs : List Loc) (ls : Array Slot), j91 ≤ 228 → 228 - j91 < fuj91 → x31 = kr_cp ft (fun p => fke (p + 228)) j91 → va_P D vwCl [(mo, .inr (11, [.ref to, .ref ke, .ref ik, .ref mrf, .long mab, .long mbl, .ref ha, .ref r0, .ref mbr, .ref mbp, .ref mby, .int (nI bl), .int (nI ta), .int (nI tl), .int (nI tk), .int vv, .ref an, .ref va])), (mrf, .inl (y 0, 3, .inl frf)), (to, .inl (y 0, 228, .inl x31)), (ke, .inl (y 0, 456, .inl fke)), (ik, .inl (y 2, 2, .inl fik))] H → va_D A [(mo, .inr (11, [.ref to, .ref ke, .ref ik, .ref mrf, .long mab, .long mbl, .ref ha, .ref r0, .ref mbr, .ref mbp, .ref mby, .int (nI bl), .int (nI ta), .int (nI tl), .int (nI tk), .int vv, .ref an, .ref va])), (mrf, .inl (y 0, 3, .inl frf)), (to, .inl (y 0, 228, .inl x31)), (ke, .inl (y 0, 456, .inl fke)), (ik, .inl (y 2, 2, .inl fik))] → va_S A s.heap H locs → lv_has ls 3 [(2, .int (nI j91)), (0, .ref mo), (1, .int (nI 1))] → W pZ l eZ ({ frames := 2, cells := 0, slots := 0, locals := 85 }) s mZ [.ref mo, .int (nI 1)].toArray beZ meZ cZ H locs 0 0 (MQ beZ (va_Qi (fun (r : Int32) (u : Nat) => kr_t 228 (kr_cp ft (fun p => fke (p + 228)) 228) ∧ (kr_cp ft (fun p => fke (p + 228)) 228) 0 = (nI o1) ∧ (kr_cp ft (fun p => fke (p + 228)) 228) 1 = (nI o2) ∧ (kr_cp ft (fun p => fke (p + 228)) 228) 2 = (nI o3) ∧ (kr_cp ft (fun p => fke (p + 228)) 228) 3 = (nI o4) ∧ u ≤ 8 ∧ (kr_cp ft (fun p => fke (p + 228)) 228) 4 = (nI u) ∧ (o2 = 0 ∨ 0 < o1) ∧ r = 1) (kw_B D (fun u => [(mo, .inr (11, [.ref to, .ref ke, .ref ik, .ref mrf, .long mab, .long mbl, .ref ha, .ref r0, .ref mbr, .ref mbp, .ref mby, .int (nI bl), .int (nI ta), .int (nI tl), .int (nI tk), .int vv, .ref an, .ref va])), (mrf, .inl (y 0, 3, .inl frf)), (to, .inl (y 0, 228, .inl (kr_cp ft (fun p => fke (p + 228)) 228))), (ke, .inl (y 0, 456, .inl fke)), (ik, .inl (y 2, 2, .inl fik))]) A) A) [.ref mo, .int (nI 1)].toArray s 0 0 A) (F0 mZ 33 ls []) := by
        intro fuj91
        induction fuj91 with
        | zero => intro j91 x31 H locs ls hj9 hf9; exact absurd hf9 (Nat.not_lt_zero _)
        | succ fuj91 ihj91 =>
          intro j91 x31 H locs ls hj91 hfj91 hI0_j91 hP hD hS hl
          refine lv_iload_n hx hb dX11_from_33 rfl (lv_at hl 0 rfl) ?_
          refine lv_sipush (v := 228) hx hb dX11_from_34 (by decide) ?_
          refine lv_icmp_ge (tgt := 64) hx hb dX11_from_37 (by decide) (fun h53 => ?_) (fun h54 => ?_)
          · skip
            have h53 : 228 ≤ j91 := (nI_leI (a := 228) (b := j91) (by omega) (by omega)).mp h53
            obtain rfl : j91 = 228 := by omega
            subst hI0_j91
            have hP : va_P D vwCl [(mo, .inr (11, [.ref to, .ref ke, .ref ik, .ref mrf, .long mab, .long mbl, .ref ha, .ref r0, .ref mbr, .ref mbp, .ref mby, .int (nI bl), .int (nI ta), .int (nI tl), .int (nI tk), .int vv, .ref an, .ref va])), (mrf, .inl (y 0, 3, .inl frf)), (to, .inl (y 0, 228, .inl (kr_cp ft (fun p => fke (p + 228)) 228))), (ke, .inl (y 0, 456, .inl fke)), (ik, .inl (y 2, 2, .inl fik))] H := hP
            have hD : va_D A [(mo, .inr (11, [.ref to, .ref ke, .ref ik, .ref mrf, .long mab, .long mbl, .ref ha, .ref r0, .ref mbr, .ref mbp, .ref mby, .int (nI bl), .int (nI ta), .int (nI tl), .int (nI tk), .int vv, .ref an, .ref va])), (mrf, .inl (y 0, 3, .inl frf)), (to, .inl (y 0, 228, .inl (kr_cp ft (fun p => fke (p + 228)) 228))), (ke, .inl (y 0, 456, .inl fke)), (ik, .inl (y 2, 2, .inl fik))] := hD
            obtain ⟨q9e, h55, h56, h57, h58, h59, h60, h61, h62, h63, h64, h65, h66⟩ := hKs
            have hr67 : kr_t 228 (kr_cp ft (fun p => fke (p + 228)) 228) := kr_cpt h66 hkt (by decide)
            have hk68 : (kr_cp ft (fun p => fke (p + 228)) 228) 0 = (nI o1) := (kr_cp_lt (by decide)).trans h55
            have hk69 : (kr_cp ft (fun p => fke (p + 228)) 228) 1 = (nI o2) := (kr_cp_lt (by decide)).trans h56
            have hk70 : (kr_cp ft (fun p => fke (p + 228)) 228) 2 = (nI o3) := (kr_cp_lt (by decide)).trans h57
            have hk71 : (kr_cp ft (fun p => fke (p + 228)) 228) 3 = (nI o4) := (kr_cp_lt (by decide)).trans h58
            have hk72 : (kr_cp ft (fun p => fke (p + 228)) 228) 4 = (nI q9e) := (kr_cp_lt (by decide)).trans h59
            refine lv_iconst (v := 1) hx hb dX11_from_64 (by decide) ?_
            exact W.iret (v := 1) hx hb hr (fun tZ ht hW => ⟨⟨1, (q9e), rfl, ⟨hr67, hk68, hk69, hk70, hk71, by first | omega | (dsimp only; omega), hk72, by first | omega | (dsimp only; omega), rfl⟩, by rw [ht]; exact hP.sub [0, 1, 2, 3, 4] rfl, hD.sub [0, 1, 2, 3, 4] (by decide) rfl⟩, hS.F ht⟩) hS.2.2 dX11_from_65
          · skip
            have h54 : ¬ 228 ≤ j91 := fun q9 => h54 ((nI_leI (a := 228) (b := j91) (by omega) (by omega)).mpr q9)
            refine lv_aload_n hx hb dX11_from_40 rfl (lv_at hl 1 rfl) ?_
            refine va_get (D := D) (ci := 11) (v := .ref to) (C := RX11) (T := TX11) (N := 18) hx hb hts iw11 hown hK hP 0 rfl rfl 0 (by decide) fw2 (fun _ h9 => h9) rfl dX11_from_41 ?_
            refine lv_iload_n hx hb dX11_from_44 rfl (lv_at hl 0 rfl) ?_
            refine lv_aload_n hx hb dX11_from_45 rfl (lv_at hl 1 rfl) ?_
            refine va_get (D := D) (ci := 11) (v := .ref ke) (C := RX11) (T := TX11) (N := 18) hx hb hts iw11 hown hK hP 0 rfl rfl 1 (by decide) fw3 (fun _ h9 => h9) rfl dX11_from_46 ?_
            refine lv_sipush (v := 228) hx hb dX11_from_49 (by decide) ?_
            refine lv_iload_n hx hb dX11_from_52 rfl (lv_at hl 2 rfl) ?_
            refine lv_imul hx hb dX11_from_53 ?_
            rw [show 228 * (nI 1) = nI (228) from pk_mul 228 1]
            refine lv_iload_n hx hb dX11_from_54 rfl (lv_at hl 0 rfl) ?_
            refine lv_iadd hx hb dX11_from_55 ?_
            rw [show (nI 228) + (nI j91) = nI (j91 + 228) from (nI_add 228 j91).trans (congrArg nI (by omega))]
            refine va_iald hx hb hK hP 3 0 rfl rfl (vp_in_nI (by omega) (by decide)) dX11_from_56 ?_
            rw [nI_clamp (n := (j91 + 228)) (by omega)]
            refine va_iast hx hb hK hP hD hS 2 0 rfl rfl (vp_in_nI (by omega) (by decide)) dX11_from_57 (fun H locs hP hD hS => ?_)
            rw [nI_clamp (n := j91) (by omega)] at hP hD
            have hP : va_P D vwCl [(mo, .inr (11, [.ref to, .ref ke, .ref ik, .ref mrf, .long mab, .long mbl, .ref ha, .ref r0, .ref mbr, .ref mbp, .ref mby, .int (nI bl), .int (nI ta), .int (nI tl), .int (nI tk), .int vv, .ref an, .ref va])), (mrf, .inl (y 0, 3, .inl frf)), (to, .inl (y 0, 228, .inl (upd x31 j91 (fke (j91 + 228))))), (ke, .inl (y 0, 456, .inl fke)), (ik, .inl (y 2, 2, .inl fik))] H := hP
            have hD : va_D A [(mo, .inr (11, [.ref to, .ref ke, .ref ik, .ref mrf, .long mab, .long mbl, .ref ha, .ref r0, .ref mbr, .ref mbp, .ref mby, .int (nI bl), .int (nI ta), .int (nI tl), .int (nI tk), .int vv, .ref an, .ref va])), (mrf, .inl (y 0, 3, .inl frf)), (to, .inl (y 0, 228, .inl (upd x31 j91 (fke (j91 + 228))))), (ke, .inl (y 0, 456, .inl fke)), (ik, .inl (y 2, 2, .inl fik))] := hD
            refine lv_iinc (v := (nI (j91 + 1))) (lv' := [(2, .int (nI (j91 + 1))), (0, .ref mo), (1, .int (nI 1))]) hx hb dX11_from_58 hl (k := 0) rfl (nI_1 j91) (by decide) rfl (fun ls hl => ?_)
            refine lv_goto (tgt := 33) hx hb dX11_from_61 (by decide) ?_
            exact ihj91 (j91 + 1) (upd x31 j91 (fke (j91 + 228))) H locs ls (by omega) (by omega) (by rw [hI0_j91]; exact kr_cpS) (hP.sub [0, 1, 2, 3, 4] rfl) (hD.sub [0, 1, 2, 3, 4] (by decide) rfl) hS (lv_sub hl [0, 1, 2] rfl)
      exact lp52 (228 + 1) 0 ft _ _ _ (by omega) (by omega) kr_cp0 hP hD hS (lv_sub hl [0, 1, 2] rfl)
    · skip
      exact absurd h10 hfl
  · skip
    exact absurd ⟨1, by omega, by omega, rfl⟩ h8
