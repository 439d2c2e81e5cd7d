set_option maxHeartbeats 4000000 in
set_option maxRecDepth 100000 in
theorem gq_d_undo (l : Launch) (D : va_G) (y : Nat → ClassId) (mo : Nat) (to : Nat) (ke : Nat) (ik : Nat) (mrf : Nat) (ha : Nat) (r0 : Nat) (mbr : Nat) (mbp : Nat) (mby : Nat) (an : Nat) (va : Nat) (mab : Int64) (mbl : Int64) (bl : Nat) (ta : Nat) (tl : Nat) (tk : Nat) (vv : Int32) (frf : Nat → Int32) (ft : Nat → Int32) (fi : Nat) (gl : Nat) (mi : Nat) (no : Nat) (un : Nat) (hk0_ : ft 0 = (nI fi)) (hk1_ : ft 1 = (nI gl)) (hk2_ : ft 2 = (nI mi)) (hk3_ : ft 3 = (nI no)) (hk4_ : ft 4 = (nI un)) (hkt : kr_t 228 ft) (hfi : fi ≤ 6) (hgl : gl ≤ 5) (hmi : mi ≤ 4) (hno : no ≤ 6) (hun : un ≤ 8) (hgf : (gl = 0 ∨ 0 < fi)) : kw_Mi l yX11_undo wsX11_undo ({ frames := 2, cells := 0, slots := 0, locals := 80 }) D y [.ref mo] [(mo, .inr (11, [.ref to, .ref ke, .ref ik, .ref mrf, .long mab, .long mbl, .ref ha, .ref r0, .ref mbr, .ref mbp, .ref mby, .int (nI bl), .int (nI ta), .int (nI tl), .int (nI tk), .int vv, .ref an, .ref va])), (mrf, .inl (y 0, 3, .inl frf)), (to, .inl (y 0, 228, .inl ft))] (fun (r : Int32) (u : (Nat → Int32) × (Nat → Int32) × Nat) => kr_t 228 u.2.1 ∧ u.2.1 0 = (nI fi) ∧ u.2.1 1 = (nI gl) ∧ u.2.1 2 = (nI mi) ∧ u.2.1 3 = (nI no) ∧ u.2.2 ≤ 8 ∧ u.2.1 4 = (nI u.2.2) ∧ kz_k2 ft u.2.1 ∧ (gl = 0 ∨ 0 < fi)) (fun u => [(mo, .inr (11, [.ref to, .ref ke, .ref ik, .ref mrf, .long mab, .long mbl, .ref ha, .ref r0, .ref mbr, .ref mbp, .ref mby, .int (nI bl), .int (nI ta), .int (nI tl), .int (nI tk), .int vv, .ref an, .ref va])), (mrf, .inl (y 0, 3, .inl u.1)), (to, .inl (y 0, 228, .inl u.2.1))]) 0 0 := by
  refine kw_Mi.of (cc := cX11_undo) (maxL := 2) (ret := (some .int)) (by decide) rfl ?_
  intro pZ eZ s mZ beZ meZ cZ A hE
  obtain ⟨hx, hb, hr, hml, hts, hown, hlocks, hin, hA, hP, hD, hK, hN⟩ := hE
  have hS : va_S A s.heap s.heap [] := va_S.rf
  have hl := lv_entry ([.ref mo]) (n := 2) (Nat.le_of_ble_eq_true rfl)
  rw [lg_entry_eq]
  generalize (lg_sl ([.ref mo]) ++ List.replicate (2 - (lg_sl ([.ref mo])).length) Slot.unset).toArray = ls at hl ⊢
  have hl : lv_has ls 2 [(0, .ref mo)] := hl
  have fw1 := hts (.fieldLink RX11 7 "GleanDuskModel" "told" "[I") (List.mem_of_getElem? (i := 1) rfl)
  have iw11 : ∀ w ∈ wsX110, w ∈ wsX11_undo := fun _ h => List.mem_cons_of_mem _ (List.mem_append_right _ h)
  refine lv_aload_n hx hb dX11_undo_0 rfl (lv_at hl 0 rfl) ?_
  refine va_get (D := D) (ci := 11) (v := .ref to) (C := RX11) (T := TX11) (N := 18) hx hb hts iw11 hown hK hP 0 rfl rfl 0 (by decide) fw1 (fun _ h9 => h9) rfl dX11_undo_1 ?_
  refine lv_iconst (v := 4) hx hb dX11_undo_4 (by decide) ?_
  refine va_iald hx hb hK hP 2 0 rfl rfl (by unfold vp_in; decide) dX11_undo_5 ?_
  rw [show ((4 : Int32)).toNatClampNeg = 4 from rfl]
  rw [show (ft 4) = (nI un) from hk4_]
  refine lv_if_ne (tgt := 14) hx hb dX11_undo_6 (by decide) (fun h1 => ?_) (fun h2 => ?_)
  · skip
    have h1 : ¬ un = 0 := fun q9 => h1 ((nI_eq (a := un) (b := 0) (by omega) (by omega)).mpr q9)
    obtain ⟨up, rfl⟩ : ∃ z, un = z + 1 := ⟨un - 1, by omega⟩
    refine lv_aload_n hx hb dX11_undo_14 rfl (lv_at hl 0 rfl) ?_
    refine va_get (D := D) (ci := 11) (v := .ref to) (C := RX11) (T := TX11) (N := 18) hx hb hts iw11 hown hK hP 0 rfl rfl 0 (by decide) fw1 (fun _ h9 => h9) rfl dX11_undo_15 ?_
    refine lv_iconst (v := 4) hx hb dX11_undo_18 (by decide) ?_
    refine lv_dup2_11 hx hb dX11_undo_19 rfl rfl ?_
    refine va_iald hx hb hK hP 2 0 rfl rfl (by unfold vp_in; decide) dX11_undo_20 ?_
    rw [show ((4 : Int32)).toNatClampNeg = 4 from rfl]
    rw [show (ft 4) = (nI (up + 1)) from hk4_]
    refine lv_iconst (v := 1) hx hb dX11_undo_21 (by decide) ?_
    refine lv_isub hx hb dX11_undo_22 ?_
    rw [show (nI (up + 1)) - 1 = nI (up) from pk_sub (a := (up + 1)) (b := 1) (by omega)]
    refine va_iast hx hb hK hP hD hS 2 0 rfl rfl (by unfold vp_in; decide) dX11_undo_23 (fun H locs hP hD hS => ?_)
    rw [show ((4 : Int32)).toNatClampNeg = 4 from rfl] at hP hD
    have hr3 : kr_t 228 (upd ft 4 (nI up)) := kr_up hkt (kr_free (by unfold kr_a; omega) (by unfold kr_s; omega))
    have hk4 : (upd ft 4 (nI up)) 0 = (nI fi) := (pk_un (by decide)).trans hk0_
    have hk5 : (upd ft 4 (nI up)) 1 = (nI gl) := (pk_un (by decide)).trans hk1_
    have hk6 : (upd ft 4 (nI up)) 2 = (nI mi) := (pk_un (by decide)).trans hk2_
    have hk7 : (upd ft 4 (nI up)) 3 = (nI no) := (pk_un (by decide)).trans hk3_
    have hk8 : (upd ft 4 (nI up)) 4 = (nI up) := pk_us
    have hP : va_P D vwCl [(mo, .inr (11, [.ref to, .ref ke, .ref ik, .ref mrf, .long mab, .long mbl, .ref ha, .ref r0, .ref mbr, .ref mbp, .ref mby, .int (nI bl), .int (nI ta), .int (nI tl), .int (nI tk), .int vv, .ref an, .ref va])), (mrf, .inl (y 0, 3, .inl frf)), (to, .inl (y 0, 228, .inl (upd ft 4 (nI up))))] H := hP
    have hD : va_D A [(mo, .inr (11, [.ref to, .ref ke, .ref ik, .ref mrf, .long mab, .long mbl, .ref ha, .ref r0, .ref mbr, .ref mbp, .ref mby, .int (nI bl), .int (nI ta), .int (nI tl), .int (nI tk), .int vv, .ref an, .ref va])), (mrf, .inl (y 0, 3, .inl frf)), (to, .inl (y 0, 228, .inl (upd ft 4 (nI up))))] := hD
    refine lv_iconst (v := 0) hx hb dX11_undo_24 (by decide) ?_
    refine lv_istore_n (lv' := [(1, .int 0), (0, .ref mo)]) hx hb dX11_undo_25 rfl hl (by decide) rfl (fun ls hl => ?_)
    have lp26 : ∀ (fuj91 j91 : Nat) (x17 : Nat → Int32) (H : Heap) (locs : List Loc) (ls : Array Slot), j91 ≤ 19 → 19 - j91 < fuj91 → kr_t 228 x17 → x17 0 = (nI fi) → x17 1 = (nI gl) → x17 2 = (nI mi) → x17 3 = (nI no) → x17 4 = (nI up) → kz_k2 ft x17 → va_P D vwCl [(mo, .inr (11, [.ref to, .ref ke, .ref ik, .ref mrf, .long mab, .long mbl, .ref ha, .ref r0, .ref mbr, .ref mbp, .ref mby, .int (nI bl), .int (nI ta), .int (nI tl), .int (nI tk), .int vv, .ref an, .ref va])), (mrf, .inl (y 0, 3, .inl frf)), (to, .inl (y 0, 228, .inl x17))] H → va_D A [(mo, .inr (11, [.ref to, .ref ke, .ref ik, .ref mrf, .long mab, .long mbl, .ref ha, .ref r0, .ref mbr, .ref mbp, .ref mby, .int (nI bl), .int (nI ta), .int (nI tl), .int (nI tk), .int vv, .ref an, .ref va])), (mrf, .inl (y 0, 3, .inl frf)), (to, .inl (y 0, 228, .inl x17))] → va_S A s.heap H locs → lv_has ls 2 [(1, .int (nI j91)), (0, .ref mo)] → W pZ l eZ ({ frames := 2, cells := 0, slots := 0, locals := 80 }) s mZ [.ref mo].toArray beZ meZ cZ H locs 0 0 (MQ beZ (va_Qi (fun (r : Int32) (u : (Nat → Int32) × (Nat → Int32) × Nat) => kr_t 228 u.2.1 ∧ u.2.1 0 = (nI fi) ∧ u.2.1 1 = (nI gl) ∧ u.2.1 2 = (nI mi) ∧ u.2.1 3 = (nI no) ∧ u.2.2 ≤ 8 ∧ u.2.1 4 = (nI u.2.2) ∧ kz_k2 ft u.2.1 ∧ (gl = 0 ∨ 0 < fi)) (kw_B D (fun u => [(mo, .inr (11, [.ref to, .ref ke, .ref ik, .ref mrf, .long mab, .long mbl, .ref ha, .ref r0, .ref mbr, .ref mbp, .ref mby, .int (nI bl), .int (nI ta), .int (nI tl), .int (nI tk), .int vv, .ref an, .ref va])), (mrf, .inl (y 0, 3, .inl u.1)), (to, .inl (y 0, 228, .inl u.2.1))]) A) A) [.ref mo].toArray s 0 0 A) (F0 mZ 26 ls []) := by
      intro fuj91
      induction fuj91 with
      | zero => intro j91 x17 H locs ls hj9 hf9; exact absurd hf9 (Nat.not_lt_zero _)
      | succ fuj91 ihj91 =>
        intro j91 x17 H locs ls hj91 hfj91 hr_x17 hk_x17_0 hk_x17_1 hk_x17_2 hk_x17_3 hk_x17_4 hI0_j91 hP hD hS hl
        refine lv_iload_n hx hb dX11_undo_26 rfl (lv_at hl 0 rfl) ?_
        refine lv_bipush (v := 19) hx hb dX11_undo_27 (by decide) ?_
        refine lv_icmp_ge (tgt := 65) hx hb dX11_undo_29 (by decide) (fun h27 => ?_) (fun h28 => ?_)
        · skip
          have h27 : 19 ≤ j91 := (nI_leI (a := 19) (b := j91) (by omega) (by omega)).mp h27
          refine lv_aload_n hx hb dX11_undo_65 rfl (lv_at hl 1 rfl) ?_
          refine va_get (D := D) (ci := 11) (v := .ref to) (C := RX11) (T := TX11) (N := 18) hx hb hts iw11 hown hK hP 0 rfl rfl 0 (by decide) fw1 (fun _ h9 => h9) rfl dX11_undo_66 ?_
          refine lv_bipush (v := 21) hx hb dX11_undo_69 (by decide) ?_
          refine va_iald hx hb hK hP 2 0 rfl rfl (by unfold vp_in; decide) dX11_undo_71 ?_
          rw [show ((21 : Int32)).toNatClampNeg = 21 from rfl]
          exact W.iret (v := (x17 21)) hx hb hr (fun tZ ht hW => ⟨⟨(x17 21), (frf, x17, up), rfl, ⟨hr_x17, hk_x17_0, hk_x17_1, hk_x17_2, hk_x17_3, by first | omega | (dsimp only; omega), hk_x17_4, hI0_j91, by first | omega | (dsimp only; omega)⟩, by rw [ht]; exact hP.sub [0, 1, 2] rfl, hD.sub [0, 1, 2] (by decide) rfl⟩, hS.F ht⟩) hS.2.2 dX11_undo_72
        · skip
          have h28 : ¬ 19 ≤ j91 := fun q9 => h28 ((nI_leI (a := 19) (b := j91) (by omega) (by omega)).mpr q9)
          refine lv_aload_n hx hb dX11_undo_32 rfl (lv_at hl 1 rfl) ?_
          refine va_get (D := D) (ci := 11) (v := .ref to) (C := RX11) (T := TX11) (N := 18) hx hb hts iw11 hown hK hP 0 rfl rfl 0 (by decide) fw1 (fun _ h9 => h9) rfl dX11_undo_33 ?_
          refine lv_iconst (v := 5) hx hb dX11_undo_36 (by decide) ?_
          refine lv_iload_n hx hb dX11_undo_37 rfl (lv_at hl 0 rfl) ?_
          refine lv_iadd hx hb dX11_undo_38 ?_
          rw [show 5 + (nI j91) = nI (j91 + 5) from (nI_add 5 j91).trans (congrArg nI (by omega))]
          refine lv_aload_n hx hb dX11_undo_39 rfl (lv_at hl 1 rfl) ?_
          refine va_get (D := D) (ci := 11) (v := .ref to) (C := RX11) (T := TX11) (N := 18) hx hb hts iw11 hown hK hP 0 rfl rfl 0 (by decide) fw1 (fun _ h9 => h9) rfl dX11_undo_40 ?_
          refine lv_bipush (v := 76) hx hb dX11_undo_43 (by decide) ?_
          refine lv_bipush (v := 19) hx hb dX11_undo_45 (by decide) ?_
          refine lv_aload_n hx hb dX11_undo_47 rfl (lv_at hl 1 rfl) ?_
          refine va_get (D := D) (ci := 11) (v := .ref to) (C := RX11) (T := TX11) (N := 18) hx hb hts iw11 hown hK hP 0 rfl rfl 0 (by decide) fw1 (fun _ h9 => h9) rfl dX11_undo_48 ?_
          refine lv_iconst (v := 4) hx hb dX11_undo_51 (by decide) ?_
          refine va_iald hx hb hK hP 2 0 rfl rfl (by unfold vp_in; decide) dX11_undo_52 ?_
          rw [show ((4 : Int32)).toNatClampNeg = 4 from rfl]
          rw [show (x17 4) = (nI up) from hk_x17_4]
          refine lv_imul hx hb dX11_undo_53 ?_
          rw [show 19 * (nI up) = nI (19 * up) from pk_mul 19 up]
          refine lv_iadd hx hb dX11_undo_54 ?_
          rw [show 76 + (nI (19 * up)) = nI (76 + (19 * up)) from nI_add 76 (19 * up)]
          refine lv_iload_n hx hb dX11_undo_55 rfl (lv_at hl 0 rfl) ?_
          refine lv_iadd hx hb dX11_undo_56 ?_
          rw [show (nI (76 + (19 * up))) + (nI j91) = nI ((76 + (19 * up)) + j91) from nI_add (76 + (19 * up)) j91]
          refine va_iald hx hb hK hP 2 0 rfl rfl (vp_in_nI (by omega) (by decide)) dX11_undo_57 ?_
          rw [nI_clamp (n := ((76 + (19 * up)) + j91)) (by omega)]
          refine va_iast hx hb hK hP hD hS 2 0 rfl rfl (vp_in_nI (by omega) (by decide)) dX11_undo_58 (fun H locs hP hD hS => ?_)
          rw [nI_clamp (n := (j91 + 5)) (by omega)] at hP hD
          have hr29 : kr_t 228 (upd x17 (j91 + 5) (x17 ((76 + (19 * up)) + j91))) := kr_up hr_x17 (kr_move (p := ((76 + (19 * up)) + j91)) (hr_x17 ((76 + (19 * up)) + j91) (by omega)) (by unfold kr_a; omega) (by unfold kr_s; omega))
          have hk30 : (upd x17 (j91 + 5) (x17 ((76 + (19 * up)) + j91))) 0 = (nI fi) := (pk_un (by omega)).trans hk_x17_0
          have hk31 : (upd x17 (j91 + 5) (x17 ((76 + (19 * up)) + j91))) 1 = (nI gl) := (pk_un (by omega)).trans hk_x17_1
          have hk32 : (upd x17 (j91 + 5) (x17 ((76 + (19 * up)) + j91))) 2 = (nI mi) := (pk_un (by omega)).trans hk_x17_2
          have hk33 : (upd x17 (j91 + 5) (x17 ((76 + (19 * up)) + j91))) 3 = (nI no) := (pk_un (by omega)).trans hk_x17_3
          have hk34 : (upd x17 (j91 + 5) (x17 ((76 + (19 * up)) + j91))) 4 = (nI up) := (pk_un (by omega)).trans hk_x17_4
          have hP : va_P D vwCl [(mo, .inr (11, [.ref to, .ref ke, .ref ik, .ref mrf, .long mab, .long mbl, .ref ha, .ref r0, .ref mbr, .ref mbp, .ref mby, .int (nI bl), .int (nI ta), .int (nI tl), .int (nI tk), .int vv, .ref an, .ref va])), (mrf, .inl (y 0, 3, .inl frf)), (to, .inl (y 0, 228, .inl (upd x17 (j91 + 5) (x17 ((76 + (19 * up)) + j91)))))] H := hP
          have hD : va_D A [(mo, .inr (11, [.ref to, .ref ke, .ref ik, .ref mrf, .long mab, .long mbl, .ref ha, .ref r0, .ref mbr, .ref mbp, .ref mby, .int (nI bl), .int (nI ta), .int (nI tl), .int (nI tk), .int vv, .ref an, .ref va])), (mrf, .inl (y 0, 3, .inl frf)), (to, .inl (y 0, 228, .inl (upd x17 (j91 + 5) (x17 ((76 + (19 * up)) + j91)))))] := hD
          refine lv_iinc (v := (nI (j91 + 1))) (lv' := [(1, .int (nI (j91 + 1))), (0, .ref mo)]) hx hb dX11_undo_59 hl (k := 0) rfl (nI_1 j91) (by decide) rfl (fun ls hl => ?_)
          refine lv_goto (tgt := 26) hx hb dX11_undo_62 (by decide) ?_
          exact ihj91 (j91 + 1) (upd x17 (j91 + 5) (x17 ((76 + (19 * up)) + j91))) H locs ls (by omega) (by omega) hr29 hk30 hk31 hk32 hk33 hk34 (kz_k2_u (hI0_j91) (by omega)) (hP.sub [0, 1, 2] rfl) (hD.sub [0, 1, 2] (by decide) rfl) hS (lv_sub hl [0, 1] rfl)
    exact lp26 (19 + 1) 0 (upd ft 4 (nI up)) _ _ _ (by omega) (by omega) hr3 hk4 hk5 hk6 hk7 hk8 (kz_k2_u (kz_k2_0) (by omega)) hP hD hS (lv_sub hl [0, 1] rfl)
  · skip
    have h2 : un = 0 := (nI_eq (a := un) (b := 0) (by omega) (by omega)).mp h2
    refine lv_aload_n hx hb dX11_undo_9 rfl (lv_at hl 0 rfl) ?_
    have hs35 : kw_Split [(mo, .inr (11, [.ref to, .ref ke, .ref ik, .ref mrf, .long mab, .long mbl, .ref ha, .ref r0, .ref mbr, .ref mbp, .ref mby, .int (nI bl), .int (nI ta), .int (nI tl), .int (nI tk), .int vv, .ref an, .ref va])), (mrf, .inl (y 0, 3, .inl frf)), (to, .inl (y 0, 228, .inl ft))] [(mo, .inr (11, [.ref to, .ref ke, .ref ik, .ref mrf, .long mab, .long mbl, .ref ha, .ref r0, .ref mbr, .ref mbp, .ref mby, .int (nI bl), .int (nI ta), .int (nI tl), .int (nI tk), .int vv, .ref an, .ref va])), (mrf, .inl (y 0, 3, .inl frf))] [(to, .inl (y 0, 228, .inl ft))] [0, 1] [2] := ⟨rfl, rfl, rfl, rfl, rfl, by decide⟩
    refine kw_go_i hs35 hP hD hS hA (va_runV (As := []) (rest := []) ⟨hx, hb, hml, hown, hts⟩ (gr_no l D y mo to ke ik mrf ha r0 mbr mbp mby an va mab mbl bl ta tl tk vv frf  _) (cwV 0 hts gX11_undo_X11_no rfl rfl rfl (by decide +kernel) ⟨Nat.le_of_ble_eq_true rfl, Nat.le_of_ble_eq_true rfl⟩) (kw_PreV (ci := 11) (q0 := 0) hs35 hP hD hK hN rfl rfl) rfl rfl hl.1 rfl (lv_room (Nat.le_of_ble_eq_true rfl)) dX11_undo_10 ⟨Nat.le_of_ble_eq_true rfl, Nat.le_of_ble_eq_true rfl⟩) (fun r36 u37 H locs hq hP hD hS => ?_)
    obtain rfl := hq
    have hP : va_P D vwCl [(to, .inl (y 0, 228, .inl ft)), (mo, .inr (11, [.ref to, .ref ke, .ref ik, .ref mrf, .long mab, .long mbl, .ref ha, .ref r0, .ref mbr, .ref mbp, .ref mby, .int (nI bl), .int (nI ta), .int (nI tl), .int (nI tk), .int vv, .ref an, .ref va])), (mrf, .inl (y 0, 3, .inl (upd frf 1 ((frf 1) + 1))))] H := hP
    have hD : va_D A [(to, .inl (y 0, 228, .inl ft)), (mo, .inr (11, [.ref to, .ref ke, .ref ik, .ref mrf, .long mab, .long mbl, .ref ha, .ref r0, .ref mbr, .ref mbp, .ref mby, .int (nI bl), .int (nI ta), .int (nI tl), .int (nI tk), .int vv, .ref an, .ref va])), (mrf, .inl (y 0, 3, .inl (upd frf 1 ((frf 1) + 1))))] := hD
    exact W.iret (v := (-3)) hx hb hr (fun tZ ht hW => ⟨⟨(-3), ((upd frf 1 ((frf 1) + 1)), ft, un), rfl, ⟨hkt, hk0_, hk1_, hk2_, hk3_, by first | omega | (dsimp only; omega), hk4_, kz_k2_0, by first | omega | (dsimp only; omega)⟩, by rw [ht]; exact hP.sub [1, 2, 0] rfl, hD.sub [1, 2, 0] (by decide) rfl⟩, hS.F ht⟩) hS.2.2 dX11_undo_13
