set_option maxHeartbeats 4000000 in
set_option maxRecDepth 100000 in
theorem gq_forget (l : Launch) (D : va_G) (y : Nat → ClassId) (mo : Nat) (to : Nat) (ke : Nat) (ik : Nat) (mrf : Nat) (ha : Nat) (r0 : Nat) (mbr : Nat) (mbp : Nat) (mby : Nat) (an : Nat) (va : Nat) (mab : Int64) (mbl : Int64) (bl : Nat) (ta : Nat) (tl : Nat) (tk : Nat) (vv : Int32) (frf : Nat → Int32) (ft : Nat → Int32) (fi : Nat) (gl : Nat) (mi : Nat) (no : Nat) (un : Nat) (x : Int32) (hk0_ : ft 0 = (nI fi)) (hk1_ : ft 1 = (nI gl)) (hk2_ : ft 2 = (nI mi)) (hk3_ : ft 3 = (nI no)) (hk4_ : ft 4 = (nI un)) (hkt : kr_t 228 ft) (hfi : fi ≤ 6) (hgl : gl ≤ 5) (hmi : mi ≤ 4) (hno : no ≤ 6) (hun : un ≤ 8) (hgf : (gl = 0 ∨ 0 < fi)) : kw_Mi l yX11_forget wsX11_forget ({ frames := 2, cells := 0, slots := 0, locals := 85 }) D y [.ref mo, .int x] [(mo, .inr (11, [.ref to, .ref ke, .ref ik, .ref mrf, .long mab, .long mbl, .ref ha, .ref r0, .ref mbr, .ref mbp, .ref mby, .int (nI bl), .int (nI ta), .int (nI tl), .int (nI tk), .int vv, .ref an, .ref va])), (mrf, .inl (y 0, 3, .inl frf)), (to, .inl (y 0, 228, .inl ft))] (fun (r : Int32) (u : (Nat → Int32) × (Nat → Int32) × Nat × Nat) => kr_t 228 u.2.1 ∧ u.2.1 0 = (nI fi) ∧ u.2.1 1 = (nI gl) ∧ u.2.2.1 ≤ 4 ∧ u.2.1 2 = (nI u.2.2.1) ∧ u.2.2.2 ≤ 6 ∧ u.2.1 3 = (nI u.2.2.2) ∧ u.2.1 4 = (nI un) ∧ (gl = 0 ∨ 0 < fi)) (fun u => [(mo, .inr (11, [.ref to, .ref ke, .ref ik, .ref mrf, .long mab, .long mbl, .ref ha, .ref r0, .ref mbr, .ref mbp, .ref mby, .int (nI bl), .int (nI ta), .int (nI tl), .int (nI tk), .int vv, .ref an, .ref va])), (mrf, .inl (y 0, 3, .inl u.1)), (to, .inl (y 0, 228, .inl u.2.1))]) 0 0 := by
  refine kw_Mi.of (cc := cX11_forget) (maxL := 3) (ret := (some .int)) (by decide) rfl ?_
  intro pZ eZ s mZ beZ meZ cZ A hE
  obtain ⟨hx, hb, hr, hml, hts, hown, hlocks, hin, hA, hP, hD, hK, hN⟩ := hE
  have hS : va_S A s.heap s.heap [] := va_S.rf
  have hl := lv_entry ([.ref mo, .int x]) (n := 3) (Nat.le_of_ble_eq_true rfl)
  rw [lg_entry_eq]
  generalize (lg_sl ([.ref mo, .int x]) ++ List.replicate (3 - (lg_sl ([.ref mo, .int x])).length) Slot.unset).toArray = ls at hl ⊢
  have hl : lv_has ls 3 [(0, .ref mo), (1, .int x)] := hl
  have fw1 := hts (.fieldLink RX11 7 "GleanDuskModel" "told" "[I") (List.mem_of_getElem? (i := 1) rfl)
  have iw11 : ∀ w ∈ wsX110, w ∈ wsX11_forget := fun _ h => List.mem_cons_of_mem _ (List.mem_append_right _ h)
  refine lv_iload_n hx hb dX11_forget_0 rfl (lv_at hl 1 rfl) ?_
  refine lv_i2l (v := x.toInt64) hx hb dX11_forget_1 (rfl) ?_
  refine lv_lconst (v := 0) hx hb dX11_forget_2 (by decide) ?_
  refine lv_lconst (v := 1) hx hb dX11_forget_3 (by decide) ?_
  have hs1 : kw_Split [(mo, .inr (11, [.ref to, .ref ke, .ref ik, .ref mrf, .long mab, .long mbl, .ref ha, .ref r0, .ref mbr, .ref mbp, .ref mby, .int (nI bl), .int (nI ta), .int (nI tl), .int (nI tk), .int vv, .ref an, .ref va])), (mrf, .inl (y 0, 3, .inl frf)), (to, .inl (y 0, 228, .inl ft))] [] [(mo, .inr (11, [.ref to, .ref ke, .ref ik, .ref mrf, .long mab, .long mbl, .ref ha, .ref r0, .ref mbr, .ref mbp, .ref mby, .int (nI bl), .int (nI ta), .int (nI tl), .int (nI tk), .int vv, .ref an, .ref va])), (mrf, .inl (y 0, 3, .inl frf)), (to, .inl (y 0, 228, .inl ft))] [] [0, 1, 2] := ⟨rfl, rfl, rfl, rfl, rfl, by decide⟩
  refine kw_go_i hs1 hP hD hS hA (va_runS (As := [.long x.toInt64, .long 0, .long 1]) (rest := []) ⟨hx, hb, hml, hown, hts⟩ (gr_in l D y x 0 1 (by omega) (by omega) _) (va_cwS 3 hts gX11_forget_X11_in rfl rfl rfl (by decide +kernel) ⟨Nat.le_of_ble_eq_true rfl, Nat.le_of_ble_eq_true rfl⟩) (kw_PreS hs1 hP hD hK hN) rfl rfl hl.1 rfl (lv_room (Nat.le_of_ble_eq_true rfl)) dX11_forget_4 ⟨Nat.le_of_ble_eq_true rfl, Nat.le_of_ble_eq_true rfl⟩) (fun r2 u3 H locs hq hP hD hS => ?_)
  rcases hq with ⟨j4, h5, h6, rfl, rfl⟩ | ⟨h7, rfl⟩
  · skip
    have hP : va_P D vwCl [(mo, .inr (11, [.ref to, .ref ke, .ref ik, .ref mrf, .long mab, .long mbl, .ref ha, .ref r0, .ref mbr, .ref mbp, .ref mby, .int (nI bl), .int (nI ta), .int (nI tl), .int (nI tk), .int vv, .ref an, .ref va])), (mrf, .inl (y 0, 3, .inl frf)), (to, .inl (y 0, 228, .inl ft))] H := hP
    have hD : va_D A [(mo, .inr (11, [.ref to, .ref ke, .ref ik, .ref mrf, .long mab, .long mbl, .ref ha, .ref r0, .ref mbr, .ref mbp, .ref mby, .int (nI bl), .int (nI ta), .int (nI tl), .int (nI tk), .int vv, .ref an, .ref va])), (mrf, .inl (y 0, 3, .inl frf)), (to, .inl (y 0, 228, .inl ft))] := hD
    refine lv_if_ne (tgt := 17) hx hb dX11_forget_7 (by decide) (fun _ => ?_) (fun h9 => absurd h9 (by decide))
    rcases (show j4 = 0 ∨ j4 = 1 by omega) with rfl | rfl
    · skip
      refine lv_aload_n hx hb dX11_forget_17 rfl (lv_at hl 0 rfl) ?_
      refine va_get (D := D) (ci := 11) (v := .ref to) (C := RX11) (T := TX11) (N := 18) hx hb hts iw11 hown hK hP 0 rfl rfl 0 (by decide) fw1 (fun _ h9 => h9) rfl dX11_forget_18 ?_
      refine lv_iconst (v := 2) hx hb dX11_forget_21 (by decide) ?_
      refine lv_iload_n hx hb dX11_forget_22 rfl (lv_at hl 1 rfl) ?_
      refine lv_iadd hx hb dX11_forget_23 ?_
      rw [show 2 + (nI 0) = nI (2) from nI_add 2 0]
      refine va_iald hx hb hK hP 2 0 rfl rfl (vp_in_nI (by omega) (by decide)) dX11_forget_24 ?_
      rw [nI_clamp (n := 2) (by omega)]
      rw [show (ft 2) = (nI mi) from hk2_]
      refine lv_istore_n (lv' := [(2, .int (nI mi)), (0, .ref mo), (1, .int (nI 0))]) hx hb dX11_forget_25 rfl hl (by decide) rfl (fun ls hl => ?_)
      refine lv_aload_n hx hb dX11_forget_26 rfl (lv_at hl 1 rfl) ?_
      refine va_get (D := D) (ci := 11) (v := .ref to) (C := RX11) (T := TX11) (N := 18) hx hb hts iw11 hown hK hP 0 rfl rfl 0 (by decide) fw1 (fun _ h9 => h9) rfl dX11_forget_27 ?_
      refine lv_iconst (v := 2) hx hb dX11_forget_30 (by decide) ?_
      refine lv_iload_n hx hb dX11_forget_31 rfl (lv_at hl 2 rfl) ?_
      refine lv_iadd hx hb dX11_forget_32 ?_
      rw [show 2 + (nI 0) = nI (2) from nI_add 2 0]
      refine lv_iconst (v := 0) hx hb dX11_forget_33 (by decide) ?_
      refine va_iast hx hb hK hP hD hS 2 0 rfl rfl (vp_in_nI (by omega) (by decide)) dX11_forget_34 (fun H locs hP hD hS => ?_)
      rw [nI_clamp (n := 2) (by omega)] at hP hD
      have hr8 : kr_t 228 (upd ft 2 0) := kr_up hkt (kr_ok0)
      have hk9 : (upd ft 2 0) 0 = (nI fi) := (pk_un (by decide)).trans hk0_
      have hk10 : (upd ft 2 0) 1 = (nI gl) := (pk_un (by decide)).trans hk1_
      have hk11 : (upd ft 2 0) 3 = (nI no) := (pk_un (by decide)).trans hk3_
      have hk12 : (upd ft 2 0) 4 = (nI un) := (pk_un (by decide)).trans hk4_
      have hk13 : (upd ft 2 0) 2 = 0 := pk_us
      have hP : va_P D vwCl [(mo, .inr (11, [.ref to, .ref ke, .ref ik, .ref mrf, .long mab, .long mbl, .ref ha, .ref r0, .ref mbr, .ref mbp, .ref mby, .int (nI bl), .int (nI ta), .int (nI tl), .int (nI tk), .int vv, .ref an, .ref va])), (mrf, .inl (y 0, 3, .inl frf)), (to, .inl (y 0, 228, .inl (upd ft 2 0)))] H := hP
      have hD : va_D A [(mo, .inr (11, [.ref to, .ref ke, .ref ik, .ref mrf, .long mab, .long mbl, .ref ha, .ref r0, .ref mbr, .ref mbp, .ref mby, .int (nI bl), .int (nI ta), .int (nI tl), .int (nI tk), .int vv, .ref an, .ref va])), (mrf, .inl (y 0, 3, .inl frf)), (to, .inl (y 0, 228, .inl (upd ft 2 0)))] := hD
      refine lv_iload_n hx hb dX11_forget_35 rfl (lv_at hl 0 rfl) ?_
      exact W.iret (v := (nI mi)) hx hb hr (fun tZ ht hW => ⟨⟨(nI mi), (frf, (upd ft 2 0), 0, no), rfl, ⟨hr8, hk9, hk10, by first | omega | (dsimp only; omega), hk13, by first | omega | (dsimp only; omega), hk11, hk12, by first | omega | (dsimp only; omega)⟩, by rw [ht]; exact hP.sub [0, 1, 2] rfl, hD.sub [0, 1, 2] (by decide) rfl⟩, hS.F ht⟩) hS.2.2 dX11_forget_36
    · skip
      refine lv_aload_n hx hb dX11_forget_17 rfl (lv_at hl 0 rfl) ?_
      refine va_get (D := D) (ci := 11) (v := .ref to) (C := RX11) (T := TX11) (N := 18) hx hb hts iw11 hown hK hP 0 rfl rfl 0 (by decide) fw1 (fun _ h9 => h9) rfl dX11_forget_18 ?_
      refine lv_iconst (v := 2) hx hb dX11_forget_21 (by decide) ?_
      refine lv_iload_n hx hb dX11_forget_22 rfl (lv_at hl 1 rfl) ?_
      refine lv_iadd hx hb dX11_forget_23 ?_
      rw [show 2 + (nI 1) = nI (3) from nI_add 2 1]
      refine va_iald hx hb hK hP 2 0 rfl rfl (vp_in_nI (by omega) (by decide)) dX11_forget_24 ?_
      rw [nI_clamp (n := 3) (by omega)]
      rw [show (ft 3) = (nI no) from hk3_]
      refine lv_istore_n (lv' := [(2, .int (nI no)), (0, .ref mo), (1, .int (nI 1))]) hx hb dX11_forget_25 rfl hl (by decide) rfl (fun ls hl => ?_)
      refine lv_aload_n hx hb dX11_forget_26 rfl (lv_at hl 1 rfl) ?_
      refine va_get (D := D) (ci := 11) (v := .ref to) (C := RX11) (T := TX11) (N := 18) hx hb hts iw11 hown hK hP 0 rfl rfl 0 (by decide) fw1 (fun _ h9 => h9) rfl dX11_forget_27 ?_
      refine lv_iconst (v := 2) hx hb dX11_forget_30 (by decide) ?_
      refine lv_iload_n hx hb dX11_forget_31 rfl (lv_at hl 2 rfl) ?_
      refine lv_iadd hx hb dX11_forget_32 ?_
      rw [show 2 + (nI 1) = nI (3) from nI_add 2 1]
      refine lv_iconst (v := 0) hx hb dX11_forget_33 (by decide) ?_
      refine va_iast hx hb hK hP hD hS 2 0 rfl rfl (vp_in_nI (by omega) (by decide)) dX11_forget_34 (fun H locs hP hD hS => ?_)
      rw [nI_clamp (n := 3) (by omega)] at hP hD
      have hr14 : kr_t 228 (upd ft 3 0) := kr_up hkt (kr_ok0)
      have hk15 : (upd ft 3 0) 0 = (nI fi) := (pk_un (by decide)).trans hk0_
      have hk16 : (upd ft 3 0) 1 = (nI gl) := (pk_un (by decide)).trans hk1_
      have hk17 : (upd ft 3 0) 2 = (nI mi) := (pk_un (by decide)).trans hk2_
      have hk18 : (upd ft 3 0) 4 = (nI un) := (pk_un (by decide)).trans hk4_
      have hk19 : (upd ft 3 0) 3 = 0 := pk_us
      have hP : va_P D vwCl [(mo, .inr (11, [.ref to, .ref ke, .ref ik, .ref mrf, .long mab, .long mbl, .ref ha, .ref r0, .ref mbr, .ref mbp, .ref mby, .int (nI bl), .int (nI ta), .int (nI tl), .int (nI tk), .int vv, .ref an, .ref va])), (mrf, .inl (y 0, 3, .inl frf)), (to, .inl (y 0, 228, .inl (upd ft 3 0)))] H := hP
      have hD : va_D A [(mo, .inr (11, [.ref to, .ref ke, .ref ik, .ref mrf, .long mab, .long mbl, .ref ha, .ref r0, .ref mbr, .ref mbp, .ref mby, .int (nI bl), .int (nI ta), .int (nI tl), .int (nI tk), .int vv, .ref an, .ref va])), (mrf, .inl (y 0, 3, .inl frf)), (to, .inl (y 0, 228, .inl (upd ft 3 0)))] := hD
      refine lv_iload_n hx hb dX11_forget_35 rfl (lv_at hl 0 rfl) ?_
      exact W.iret (v := (nI no)) hx hb hr (fun tZ ht hW => ⟨⟨(nI no), (frf, (upd ft 3 0), mi, 0), rfl, ⟨hr14, hk15, hk16, by first | omega | (dsimp only; omega), hk17, by first | omega | (dsimp only; omega), hk19, hk18, by first | omega | (dsimp only; omega)⟩, by rw [ht]; exact hP.sub [0, 1, 2] rfl, hD.sub [0, 1, 2] (by decide) rfl⟩, hS.F ht⟩) hS.2.2 dX11_forget_36
  · skip
    have hP : va_P D vwCl [(mo, .inr (11, [.ref to, .ref ke, .ref ik, .ref mrf, .long mab, .long mbl, .ref ha, .ref r0, .ref mbr, .ref mbp, .ref mby, .int (nI bl), .int (nI ta), .int (nI tl), .int (nI tk), .int vv, .ref an, .ref va])), (mrf, .inl (y 0, 3, .inl frf)), (to, .inl (y 0, 228, .inl ft))] H := hP
    have hD : va_D A [(mo, .inr (11, [.ref to, .ref ke, .ref ik, .ref mrf, .long mab, .long mbl, .ref ha, .ref r0, .ref mbr, .ref mbp, .ref mby, .int (nI bl), .int (nI ta), .int (nI tl), .int (nI tk), .int vv, .ref an, .ref va])), (mrf, .inl (y 0, 3, .inl frf)), (to, .inl (y 0, 228, .inl ft))] := hD
    refine lv_if_ne (tgt := 17) hx hb dX11_forget_7 (by decide) (fun h9 => absurd h9 (by decide)) (fun _ => ?_)
    refine lv_aload_n hx hb dX11_forget_10 rfl (lv_at hl 0 rfl) ?_
    refine lv_bipush (v := (-2)) hx hb dX11_forget_11 (by decide) ?_
    have hs20 : kw_Split [(mo, .inr (11, [.ref to, .ref ke, .ref ik, .ref mrf, .long mab, .long mbl, .ref ha, .ref r0, .ref mbr, .ref mbp, .ref mby, .int (nI bl), .int (nI ta), .int (nI tl), .int (nI tk), .int vv, .ref an, .ref va])), (mrf, .inl (y 0, 3, .inl frf)), (to, .inl (y 0, 228, .inl ft))] [(mo, .inr (11, [.ref to, .ref ke, .ref ik, .ref mrf, .long mab, .long mbl, .ref ha, .ref r0, .ref mbr, .ref mbp, .ref mby, .int (nI bl), .int (nI ta), .int (nI tl), .int (nI tk), .int vv, .ref an, .ref va])), (mrf, .inl (y 0, 3, .inl frf))] [(to, .inl (y 0, 228, .inl ft))] [0, 1] [2] := ⟨rfl, rfl, rfl, rfl, rfl, by decide⟩
    refine kw_go_i hs20 hP hD hS hA (va_runV (As := [.int (-2)]) (rest := []) ⟨hx, hb, hml, hown, hts⟩ (gr_bad l D y mo to ke ik mrf ha r0 mbr mbp mby an va mab mbl bl ta tl tk vv frf (-2)  _) (cwV 1 hts gX11_forget_X11_bad rfl rfl rfl (by decide +kernel) ⟨Nat.le_of_ble_eq_true rfl, Nat.le_of_ble_eq_true rfl⟩) (kw_PreV (ci := 11) (q0 := 0) hs20 hP hD hK hN rfl rfl) rfl rfl hl.1 rfl (lv_room (Nat.le_of_ble_eq_true rfl)) dX11_forget_13 ⟨Nat.le_of_ble_eq_true rfl, Nat.le_of_ble_eq_true rfl⟩) (fun r21 u22 H locs hq hP hD hS => ?_)
    obtain rfl := hq
    have hP : va_P D vwCl [(to, .inl (y 0, 228, .inl ft)), (mo, .inr (11, [.ref to, .ref ke, .ref ik, .ref mrf, .long mab, .long mbl, .ref ha, .ref r0, .ref mbr, .ref mbp, .ref mby, .int (nI bl), .int (nI ta), .int (nI tl), .int (nI tk), .int vv, .ref an, .ref va])), (mrf, .inl (y 0, 3, .inl (upd frf 0 ((frf 0) + 1))))] H := hP
    have hD : va_D A [(to, .inl (y 0, 228, .inl ft)), (mo, .inr (11, [.ref to, .ref ke, .ref ik, .ref mrf, .long mab, .long mbl, .ref ha, .ref r0, .ref mbr, .ref mbp, .ref mby, .int (nI bl), .int (nI ta), .int (nI tl), .int (nI tk), .int vv, .ref an, .ref va])), (mrf, .inl (y 0, 3, .inl (upd frf 0 ((frf 0) + 1))))] := hD
    exact W.iret (v := (-2)) hx hb hr (fun tZ ht hW => ⟨⟨(-2), ((upd frf 0 ((frf 0) + 1)), ft, mi, no), rfl, ⟨hkt, hk0_, hk1_, by first | omega | (dsimp only; omega), hk2_, by first | omega | (dsimp only; omega), hk3_, hk4_, by first | omega | (dsimp only; omega)⟩, by rw [ht]; exact hP.sub [1, 2, 0] rfl, hD.sub [1, 2, 0] (by decide) rfl⟩, hS.F ht⟩) hS.2.2 dX11_forget_16

set_option maxHeartbeats 4000000 in
set_option maxRecDepth 100000 in
theorem gr_hasBy (l : Launch) (D : va_G) (y : Nat → ClassId) (mo : Nat) (to : Nat) (ke : Nat) (ik : Nat) (mrf : Nat) (ha : Nat) (r0 : Nat) (mbr : Nat) (mbp : Nat) (mby : Nat) (an : Nat) (va : Nat) (mab : Int64) (mbl : Int64) (bl : Nat) (ta : Nat) (tl : Nat) (tk : Nat) (vv : Int32) (ft : Nat → Int32) (fi : Nat) (gl : Nat) (mi : Nat) (no : Nat) (un : Nat) (k : Nat) (k2 : Nat) (x : Int32) (hk0_ : ft 0 = (nI fi)) (hk1_ : ft 1 = (nI gl)) (hk2_ : ft 2 = (nI mi)) (hk3_ : ft 3 = (nI no)) (hk4_ : ft 4 = (nI un)) (hkt : kr_t 228 ft) (hfi : fi ≤ 6) (hgl : gl ≤ 5) (hmi : mi ≤ 4) (hno : no ≤ 6) (hun : un ≤ 8) (hA1 : k < gl) (hA2 : k2 < fi) : kw_Mi l yX11_hasBy wsX11_hasBy ({ frames := 5, cells := 0, slots := 0, locals := 151 }) D y [.ref mo, .int (nI k), .int (nI k2), .int x] [(mo, .inr (11, [.ref to, .ref ke, .ref ik, .ref mrf, .long mab, .long mbl, .ref ha, .ref r0, .ref mbr, .ref mbp, .ref mby, .int (nI bl), .int (nI ta), .int (nI tl), .int (nI tk), .int vv, .ref an, .ref va])), (to, .inl (y 0, 228, .inl ft))] (fun (r : Int32) (u : Unit) => True) (fun _ => [(mo, .inr (11, [.ref to, .ref ke, .ref ik, .ref mrf, .long mab, .long mbl, .ref ha, .ref r0, .ref mbr, .ref mbp, .ref mby, .int (nI bl), .int (nI ta), .int (nI tl), .int (nI tk), .int vv, .ref an, .ref va])), (to, .inl (y 0, 228, .inl ft))]) 0 0 := by
  refine kw_Mi.of (cc := cX11_hasBy) (maxL := 5) (ret := (some .int)) (by decide) rfl ?_
  intro pZ eZ s mZ beZ meZ cZ A hE
  obtain ⟨hx, hb, hr, hml, hts, hown, hlocks, hin, hA, hP, hD, hK, hN⟩ := hE
  have hS : va_S A s.heap s.heap [] := va_S.rf
  have hl := lv_entry ([.ref mo, .int (nI k), .int (nI k2), .int x]) (n := 5) (Nat.le_of_ble_eq_true rfl)
  rw [lg_entry_eq]
  generalize (lg_sl ([.ref mo, .int (nI k), .int (nI k2), .int x]) ++ List.replicate (5 - (lg_sl ([.ref mo, .int (nI k), .int (nI k2), .int x])).length) Slot.unset).toArray = ls at hl ⊢
  have hl : lv_has ls 5 [(0, .ref mo), (1, .int (nI k)), (2, .int (nI k2)), (3, .int x)] := hl
  have fw1 := hts (.fieldLink RX11 7 "GleanDuskModel" "told" "[I") (List.mem_of_getElem? (i := 1) rfl)
  have iw11 : ∀ w ∈ wsX110, w ∈ wsX11_hasBy := fun _ h => List.mem_cons_of_mem _ (List.mem_append_right _ h)
  refine lv_aload_n hx hb dX11_hasBy_0 rfl (lv_at hl 0 rfl) ?_
  refine va_get (D := D) (ci := 11) (v := .ref to) (C := RX11) (T := TX11) (N := 18) hx hb hts iw11 hown hK hP 0 rfl rfl 0 (by decide) fw1 (fun _ h9 => h9) rfl dX11_hasBy_1 ?_
  refine lv_iload_n hx hb dX11_hasBy_4 rfl (lv_at hl 2 rfl) ?_
  refine lv_aload_n hx hb dX11_hasBy_5 rfl (lv_at hl 0 rfl) ?_
  refine va_get (D := D) (ci := 11) (v := .ref to) (C := RX11) (T := TX11) (N := 18) hx hb hts iw11 hown hK hP 0 rfl rfl 0 (by decide) fw1 (fun _ h9 => h9) rfl dX11_hasBy_6 ?_
  refine lv_bipush (v := 21) hx hb dX11_hasBy_9 (by decide) ?_
  refine va_iald hx hb hK hP 1 0 rfl rfl (by unfold vp_in; decide) dX11_hasBy_11 ?_
  rw [show ((21 : Int32)).toNatClampNeg = 21 from rfl]
  have hs1 : kw_Split [(mo, .inr (11, [.ref to, .ref ke, .ref ik, .ref mrf, .long mab, .long mbl, .ref ha, .ref r0, .ref mbr, .ref mbp, .ref mby, .int (nI bl), .int (nI ta), .int (nI tl), .int (nI tk), .int vv, .ref an, .ref va])), (to, .inl (y 0, 228, .inl ft))] [(to, .inl (y 0, 228, .inl ft))] [(mo, .inr (11, [.ref to, .ref ke, .ref ik, .ref mrf, .long mab, .long mbl, .ref ha, .ref r0, .ref mbr, .ref mbp, .ref mby, .int (nI bl), .int (nI ta), .int (nI tl), .int (nI tk), .int vv, .ref an, .ref va]))] [1] [0] := ⟨rfl, rfl, rfl, rfl, rfl, by decide⟩
  refine kw_go_i hs1 hP hD hS hA (va_runS (As := [.ref to, .int (nI k2), .int (ft 21)]) (rest := []) ⟨hx, hb, hml, hown, hts⟩ (gr_seenOn228 l D y to ft fi gl mi no un k2 (ft 21) hk0_ hk1_ hk2_ hk3_ hk4_ hkt hfi hgl hmi hno hun (by omega) _) (va_cwS 3 hts gX11_hasBy_X11_seenOn rfl rfl rfl (by decide +kernel) ⟨Nat.le_of_ble_eq_true rfl, Nat.le_of_ble_eq_true rfl⟩) (kw_PreS hs1 hP hD hK hN) rfl rfl hl.1 rfl (lv_room (Nat.le_of_ble_eq_true rfl)) dX11_hasBy_12 ⟨Nat.le_of_ble_eq_true rfl, Nat.le_of_ble_eq_true rfl⟩) (fun r2 u3 H locs hq hP hD hS => ?_)
  have hP : va_P D vwCl [(mo, .inr (11, [.ref to, .ref ke, .ref ik, .ref mrf, .long mab, .long mbl, .ref ha, .ref r0, .ref mbr, .ref mbp, .ref mby, .int (nI bl), .int (nI ta), .int (nI tl), .int (nI tk), .int vv, .ref an, .ref va])), (to, .inl (y 0, 228, .inl ft))] H := hP
  have hD : va_D A [(mo, .inr (11, [.ref to, .ref ke, .ref ik, .ref mrf, .long mab, .long mbl, .ref ha, .ref r0, .ref mbr, .ref mbp, .ref mby, .int (nI bl), .int (nI ta), .int (nI tl), .int (nI tk), .int vv, .ref an, .ref va])), (to, .inl (y 0, 228, .inl ft))] := hD
  refine lv_istore (lv' := [(4, .int r2), (0, .ref mo), (1, .int (nI k)), (2, .int (nI k2)), (3, .int x)]) hx hb dX11_hasBy_15 hl (by decide) rfl (fun ls hl => ?_)
  refine lv_iload_n hx hb dX11_hasBy_17 rfl (lv_at hl 3 rfl) ?_
  refine lv_iload_n hx hb dX11_hasBy_18 rfl (lv_at hl 4 rfl) ?_
  refine lv_icmp_ne (tgt := 29) hx hb dX11_hasBy_19 (by decide) (fun h4 => ?_) (fun h5 => ?_)
  · skip
    refine lv_iload hx hb dX11_hasBy_29 (lv_at hl 0 rfl) ?_
    refine lv_iload_n hx hb dX11_hasBy_31 rfl (lv_at hl 3 rfl) ?_
    refine lv_aload_n hx hb dX11_hasBy_32 rfl (lv_at hl 1 rfl) ?_
    refine va_get (D := D) (ci := 11) (v := .ref to) (C := RX11) (T := TX11) (N := 18) hx hb hts iw11 hown hK hP 0 rfl rfl 0 (by decide) fw1 (fun _ h9 => h9) rfl dX11_hasBy_33 ?_
    refine lv_bipush (v := 11) hx hb dX11_hasBy_36 (by decide) ?_
    refine lv_iload_n hx hb dX11_hasBy_38 rfl (lv_at hl 2 rfl) ?_
    refine lv_iadd hx hb dX11_hasBy_39 ?_
    rw [show 11 + (nI k) = nI (k + 11) from (nI_add 11 k).trans (congrArg nI (by omega))]
    refine va_iald hx hb hK hP 1 0 rfl rfl (vp_in_nI (by omega) (by decide)) dX11_hasBy_40 ?_
    rw [nI_clamp (n := (k + 11)) (by omega)]
    obtain ⟨w6, h7, h8⟩ := kr_at hkt (p := (k + 11)) (by omega) (by unfold kr_a; omega)
    rw [h8]
    have hs9 : kw_Split [(mo, .inr (11, [.ref to, .ref ke, .ref ik, .ref mrf, .long mab, .long mbl, .ref ha, .ref r0, .ref mbr, .ref mbp, .ref mby, .int (nI bl), .int (nI ta), .int (nI tl), .int (nI tk), .int vv, .ref an, .ref va])), (to, .inl (y 0, 228, .inl ft))] [] [(mo, .inr (11, [.ref to, .ref ke, .ref ik, .ref mrf, .long mab, .long mbl, .ref ha, .ref r0, .ref mbr, .ref mbp, .ref mby, .int (nI bl), .int (nI ta), .int (nI tl), .int (nI tk), .int vv, .ref an, .ref va])), (to, .inl (y 0, 228, .inl ft))] [] [0, 1] := ⟨rfl, rfl, rfl, rfl, rfl, by decide⟩
    refine kw_go_i hs9 hP hD hS hA (va_runS (As := [.int (nI k2), .int (nI w6)]) (rest := [.int r2]) ⟨hx, hb, hml, hown, hts⟩ (gr_distance l D y (nI k2) (nI w6)  _) (va_cwS 2 hts gX11_hasBy_X11_distance rfl rfl rfl (by decide +kernel) ⟨Nat.le_of_ble_eq_true rfl, Nat.le_of_ble_eq_true rfl⟩) (kw_PreS hs9 hP hD hK hN) rfl rfl hl.1 rfl (lv_room (Nat.le_of_ble_eq_true rfl)) dX11_hasBy_41 ⟨Nat.le_of_ble_eq_true rfl, Nat.le_of_ble_eq_true rfl⟩) (fun r10 u11 H locs hq hP hD hS => ?_)
    have hP : va_P D vwCl [(mo, .inr (11, [.ref to, .ref ke, .ref ik, .ref mrf, .long mab, .long mbl, .ref ha, .ref r0, .ref mbr, .ref mbp, .ref mby, .int (nI bl), .int (nI ta), .int (nI tl), .int (nI tk), .int vv, .ref an, .ref va])), (to, .inl (y 0, 228, .inl ft))] H := hP
    have hD : va_D A [(mo, .inr (11, [.ref to, .ref ke, .ref ik, .ref mrf, .long mab, .long mbl, .ref ha, .ref r0, .ref mbr, .ref mbp, .ref mby, .int (nI bl), .int (nI ta), .int (nI tl), .int (nI tk), .int vv, .ref an, .ref va])), (to, .inl (y 0, 228, .inl ft))] := hD
    refine lv_isub hx hb dX11_hasBy_44 ?_
    exact W.iret (v := (r2 - r10)) hx hb hr (fun tZ ht hW => ⟨⟨(r2 - r10), (), rfl, trivial, by rw [ht]; exact hP.sub [0, 1] rfl, hD.sub [0, 1] (by decide) rfl⟩, hS.F ht⟩) hS.2.2 dX11_hasBy_45
  · skip
    refine lv_iload hx hb dX11_hasBy_22 (lv_at hl 0 rfl) ?_
    refine lv_iconst (v := 2) hx hb dX11_hasBy_24 (by decide) ?_
    refine lv_idiv hx hb dX11_hasBy_25 (by decide) ?_
    refine lv_goto (tgt := 31) hx hb dX11_hasBy_26 (by decide) ?_
    refine lv_iload_n hx hb dX11_hasBy_31 rfl (lv_at hl 3 rfl) ?_
    refine lv_aload_n hx hb dX11_hasBy_32 rfl (lv_at hl 1 rfl) ?_
    refine va_get (D := D) (ci := 11) (v := .ref to) (C := RX11) (T := TX11) (N := 18) hx hb hts iw11 hown hK hP 0 rfl rfl 0 (by decide) fw1 (fun _ h9 => h9) rfl dX11_hasBy_33 ?_
    refine lv_bipush (v := 11) hx hb dX11_hasBy_36 (by decide) ?_
    refine lv_iload_n hx hb dX11_hasBy_38 rfl (lv_at hl 2 rfl) ?_
    refine lv_iadd hx hb dX11_hasBy_39 ?_
    rw [show 11 + (nI k) = nI (k + 11) from (nI_add 11 k).trans (congrArg nI (by omega))]
    refine va_iald hx hb hK hP 1 0 rfl rfl (vp_in_nI (by omega) (by decide)) dX11_hasBy_40 ?_
    rw [nI_clamp (n := (k + 11)) (by omega)]
    obtain ⟨w12, h13, h14⟩ := kr_at hkt (p := (k + 11)) (by omega) (by unfold kr_a; omega)
    rw [h14]
    have hs15 : kw_Split [(mo, .inr (11, [.ref to, .ref ke, .ref ik, .ref mrf, .long mab, .long mbl, .ref ha, .ref r0, .ref mbr, .ref mbp, .ref mby, .int (nI bl), .int (nI ta), .int (nI tl), .int (nI tk), .int vv, .ref an, .ref va])), (to, .inl (y 0, 228, .inl ft))] [] [(mo, .inr (11, [.ref to, .ref ke, .ref ik, .ref mrf, .long mab, .long mbl, .ref ha, .ref r0, .ref mbr, .ref mbp, .ref mby, .int (nI bl), .int (nI ta), .int (nI tl), .int (nI tk), .int vv, .ref an, .ref va])), (to, .inl (y 0, 228, .inl ft))] [] [0, 1] := ⟨rfl, rfl, rfl, rfl, rfl, by decide⟩
    refine kw_go_i hs15 hP hD hS hA (va_runS (As := [.int (nI k2), .int (nI w12)]) (rest := [.int (r2 / 2)]) ⟨hx, hb, hml, hown, hts⟩ (gr_distance l D y (nI k2) (nI w12)  _) (va_cwS 2 hts gX11_hasBy_X11_distance rfl rfl rfl (by decide +kernel) ⟨Nat.le_of_ble_eq_true rfl, Nat.le_of_ble_eq_true rfl⟩) (kw_PreS hs15 hP hD hK hN) rfl rfl hl.1 rfl (lv_room (Nat.le_of_ble_eq_true rfl)) dX11_hasBy_41 ⟨Nat.le_of_ble_eq_true rfl, Nat.le_of_ble_eq_true rfl⟩) (fun r16 u17 H locs hq hP hD hS => ?_)
    have hP : va_P D vwCl [(mo, .inr (11, [.ref to, .ref ke, .ref ik, .ref mrf, .long mab, .long mbl, .ref ha, .ref r0, .ref mbr, .ref mbp, .ref mby, .int (nI bl), .int (nI ta), .int (nI tl), .int (nI tk), .int vv, .ref an, .ref va])), (to, .inl (y 0, 228, .inl ft))] H := hP
    have hD : va_D A [(mo, .inr (11, [.ref to, .ref ke, .ref ik, .ref mrf, .long mab, .long mbl, .ref ha, .ref r0, .ref mbr, .ref mbp, .ref mby, .int (nI bl), .int (nI ta), .int (nI tl), .int (nI tk), .int vv, .ref an, .ref va])), (to, .inl (y 0, 228, .inl ft))] := hD
    refine lv_isub hx hb dX11_hasBy_44 ?_
    exact W.iret (v := ((r2 / 2) - r16)) hx hb hr (fun tZ ht hW => ⟨⟨((r2 / 2) - r16), (), rfl, trivial, by rw [ht]; exact hP.sub [0, 1] rfl, hD.sub [0, 1] (by decide) rfl⟩, hS.F ht⟩) hS.2.2 dX11_hasBy_45
