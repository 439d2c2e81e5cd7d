set_option maxHeartbeats 4000000 in
set_option maxRecDepth 100000 in
theorem gq_undo (l : Launch) (D : va_G) (y : Nat → ClassId) (mo : Nat) (to : Nat) (ke : Nat) (ik : Nat) (mrf : Nat) (ha : Nat) (r0 : Nat) (mbr : Nat) (mbp : Nat) (mby : Nat) (an : Nat) (va : Nat) (mab : Int64) (mbl : Int64) (bl : Nat) (ta : Nat) (tl : Nat) (tk : Nat) (vv : Int32) (frf : Nat → Int32) (ft : Nat → Int32) (fi : Nat) (gl : Nat) (mi : Nat) (no : Nat) (un : Nat) (hk0_ : ft 0 = (nI fi)) (hk1_ : ft 1 = (nI gl)) (hk2_ : ft 2 = (nI mi)) (hk3_ : ft 3 = (nI no)) (hk4_ : ft 4 = (nI un)) (hkt : kr_t 228 ft) (hfi : fi ≤ 6) (hgl : gl ≤ 5) (hmi : mi ≤ 4) (hno : no ≤ 6) (hun : un ≤ 8) (hgf : (gl = 0 ∨ 0 < fi)) : kw_Mi l yX11_undo wsX11_undo ({ frames := 2, cells := 0, slots := 0, locals := 80 }) D y [.ref mo] [(mo, .inr (11, [.ref to, .ref ke, .ref ik, .ref mrf, .long mab, .long mbl, .ref ha, .ref r0, .ref mbr, .ref mbp, .ref mby, .int (nI bl), .int (nI ta), .int (nI tl), .int (nI tk), .int vv, .ref an, .ref va])), (mrf, .inl (y 0, 3, .inl frf)), (to, .inl (y 0, 228, .inl ft))] (fun (r : Int32) (u : (Nat → Int32) × (Nat → Int32) × Nat) => kr_t 228 u.2.1 ∧ u.2.1 0 = (nI fi) ∧ u.2.1 1 = (nI gl) ∧ u.2.1 2 = (nI mi) ∧ u.2.1 3 = (nI no) ∧ u.2.2 ≤ 8 ∧ u.2.1 4 = (nI u.2.2) ∧ (gl = 0 ∨ 0 < fi)) (fun u => [(mo, .inr (11, [.ref to, .ref ke, .ref ik, .ref mrf, .long mab, .long mbl, .ref ha, .ref r0, .ref mbr, .ref mbp, .ref mby, .int (nI bl), .int (nI ta), .int (nI tl), .int (nI tk), .int vv, .ref an, .ref va])), (mrf, .inl (y 0, 3, .inl u.1)), (to, .inl (y 0, 228, .inl u.2.1))]) 0 0 := by
  refine kw_Mi.of (cc := cX11_undo) (maxL := 2) (ret := (some .int)) (by decide) rfl ?_
  intro pZ eZ s mZ beZ meZ cZ A hE
  obtain ⟨hx, hb, hr, hml, hts, hown, hlocks, hin, hA, hP, hD, hK, hN⟩ := hE
  have hS : va_S A s.heap s.heap [] := va_S.rf
  have hl := lv_entry ([.ref mo]) (n := 2) (Nat.le_of_ble_eq_true rfl)
  rw [lg_entry_eq]
  generalize (lg_sl ([.ref mo]) ++ List.replicate (2 - (lg_sl ([.ref mo])).length) Slot.unset).toArray = ls at hl ⊢
  have hl : lv_has ls 2 [(0, .ref mo)] := hl
  have fw1 := hts (.fieldLink RX11 7 "GleanDuskModel" "told" "[I") (List.mem_of_getElem? (i := 1) rfl)
  have iw11 : ∀ w ∈ wsX110, w ∈ wsX11_undo := fun _ h => List.mem_cons_of_mem _ (List.mem_append_right _ h)
  refine lv_aload_n hx hb dX11_undo_0 rfl (lv_at hl 0 rfl) ?_
  refine va_get (D := D) (ci := 11) (v := .ref to) (C := RX11) (T := TX11) (N := 18) hx hb hts iw11 hown hK hP 0 rfl rfl 0 (by decide) fw1 (fun _ h9 => h9) rfl dX11_undo_1 ?_
  refine lv_iconst (v := 4) hx hb dX11_undo_4 (by decide) ?_
  refine va_iald hx hb hK hP 2 0 rfl rfl (by unfold vp_in; decide) dX11_undo_5 ?_
  rw [show ((4 : Int32)).toNatClampNeg = 4 from rfl]
  rw [show (ft 4) = (nI un) from hk4_]
  refine lv_if_ne (tgt := 14) hx hb dX11_undo_6 (by decide) (fun h1 => ?_) (fun h2 => ?_)
  · skip
    have h1 : ¬ un = 0 := fun q9 => h1 ((nI_eq (a := un) (b := 0) (by omega) (by omega)).mpr q9)
    obtain ⟨up, rfl⟩ : ∃ z, un = z + 1 := ⟨un - 1, by omega⟩
    refine lv_aload_n hx hb dX11_undo_14 rfl (lv_at hl 0 rfl) ?_
    refine va_get (D := D) (ci := 11) (v := .ref to) (C := RX11) (T := TX11) (N := 18) hx hb hts iw11 hown hK hP 0 rfl rfl 0 (by decide) fw1 (fun _ h9 => h9) rfl dX11_undo_15 ?_
    refine lv_iconst (v := 4) hx hb dX11_undo_18 (by decide) ?_
    refine lv_dup2_11 hx hb dX11_undo_19 rfl rfl ?_
    refine va_iald hx hb hK hP 2 0 rfl rfl (by unfold vp_in; decide) dX11_undo_20 ?_
    rw [show ((4 : Int32)).toNatClampNeg = 4 from rfl]
    rw [show (ft 4) = (nI (up + 1)) from hk4_]
    refine lv_iconst (v := 1) hx hb dX11_undo_21 (by decide) ?_
    refine lv_isub hx hb dX11_undo_22 ?_
    rw [show (nI (up + 1)) - 1 = nI (up) from pk_sub (a := (up + 1)) (b := 1) (by omega)]
    refine va_iast hx hb hK hP hD hS 2 0 rfl rfl (by unfold vp_in; decide) dX11_undo_23 (fun H locs hP hD hS => ?_)
    rw [show ((4 : Int32)).toNatClampNeg = 4 from rfl] at hP hD
    have hr3 : kr_t 228 (upd ft 4 (nI up)) := kr_up hkt (kr_free (by unfold kr_a; omega) (by unfold kr_s; omega))
    have hk4 : (upd ft 4 (nI up)) 0 = (nI fi) := (pk_un (by decide)).trans hk0_
    have hk5 : (upd ft 4 (nI up)) 1 = (nI gl) := (pk_un (by decide)).trans hk1_
    have hk6 : (upd ft 4 (nI up)) 2 = (nI mi) := (pk_un (by decide)).trans hk2_
    have hk7 : (upd ft 4 (nI up)) 3 = (nI no) := (pk_un (by decide)).trans hk3_
    have hk8 : (upd ft 4 (nI up)) 4 = (nI up) := pk_us
    have hP : va_P D vwCl [(mo, .inr (11, [.ref to, .ref ke, .ref ik, .ref mrf, .long mab, .long mbl, .ref ha, .ref r0, .ref mbr, .ref mbp, .ref mby, .int (nI bl), .int (nI ta), .int (nI tl), .int (nI tk), .int vv, .ref an, .ref va])), (mrf, .inl (y 0, 3, .inl frf)), (to, .inl (y 0, 228, .inl (upd ft 4 (nI up))))] H := hP
    have hD : va_D A [(mo, .inr (11, [.ref to, .ref ke, .ref ik, .ref mrf, .long mab, .long mbl, .ref ha, .ref r0, .ref mbr, .ref mbp, .ref mby, .int (nI bl), .int (nI ta), .int (nI tl), .int (nI tk), .int vv, .ref an, .ref va])), (mrf, .inl (y 0, 3, .inl frf)), (to, .inl (y 0, 228, .inl (upd ft 4 (nI up))))] := hD
    refine lv_iconst (v := 0) hx hb dX11_undo_24 (by decide) ?_
    refine lv_istore_n (lv' := [(1, .int 0), (0, .ref mo)]) hx hb dX11_undo_25 rfl hl (by decide) rfl (fun ls hl => ?_)
    have lp26 : ∀ (fuj91 j91 : Nat) (x17 : Nat → Int32) (H : Heap) (locs : List Loc) (ls : Array Slot), j91 ≤ 19 → 19 - j91 < fuj91 → kr_t 228 x17 → x17 0 = (nI fi) → x17 1 = (nI gl) → x17 2 = (nI mi) → x17 3 = (nI no) → x17 4 = (nI up) → va_P D vwCl [(mo, .inr (11, [.ref to, .ref ke, .ref ik, .ref mrf, .long mab, .long mbl, .ref ha, .ref r0, .ref mbr, .ref mbp, .ref mby, .int (nI bl), .int (nI ta), .int (nI tl), .int (nI tk), .int vv, .ref an, .ref va])), (mrf, .inl (y 0, 3, .inl frf)), (to, .inl (y 0, 228, .inl x17))] H → va_D A [(mo, .inr (11, [.ref to, .ref ke, .ref ik, .ref mrf, .long mab, .long mbl, .ref ha, .ref r0, .ref mbr, .ref mbp, .ref mby, .int (nI bl), .int (nI ta), .int (nI tl), .int (nI tk), .int vv, .ref an, .ref va])), (mrf, .inl (y 0, 3, .inl frf)), (to, .inl (y 0, 228, .inl x17))] → va_S A s.heap H locs → lv_has ls 2 [(1, .int (nI j91)), (0, .ref mo)] → W pZ l eZ ({ frames := 2, cells := 0, slots := 0, locals := 80 }) s mZ [.ref mo].toArray beZ meZ cZ H locs 0 0 (MQ beZ (va_Qi (fun (r : Int32) (u : (Nat → Int32) × (Nat → Int32) × Nat) => kr_t 228 u.2.1 ∧ u.2.1 0 = (nI fi) ∧ u.2.1 1 = (nI gl) ∧ u.2.1 2 = (nI mi) ∧ u.2.1 3 = (nI no) ∧ u.2.2 ≤ 8 ∧ u.2.1 4 = (nI u.2.2) ∧ (gl = 0 ∨ 0 < fi)) (kw_B D (fun u => [(mo, .inr (11, [.ref to, .ref ke, .ref ik, .ref mrf, .long mab, .long mbl, .ref ha, .ref r0, .ref mbr, .ref mbp, .ref mby, .int (nI bl), .int (nI ta), .int (nI tl), .int (nI tk), .int vv, .ref an, .ref va])), (mrf, .inl (y 0, 3, .inl u.1)), (to, .inl (y 0, 228, .inl u.2.1))]) A) A) [.ref mo].toArray s 0 0 A) (F0 mZ 26 ls []) := by
      intro fuj91
      induction fuj91 with
      | zero => intro j91 x17 H locs ls hj9 hf9; exact absurd hf9 (Nat.not_lt_zero _)
      | succ fuj91 ihj91 =>
        intro j91 x17 H locs ls hj91 hfj91 hr_x17 hk_x17_0 hk_x17_1 hk_x17_2 hk_x17_3 hk_x17_4 hP hD hS hl
        refine lv_iload_n hx hb dX11_undo_26 rfl (lv_at hl 0 rfl) ?_
        refine lv_bipush (v := 19) hx hb dX11_undo_27 (by decide) ?_
        refine lv_icmp_ge (tgt := 65) hx hb dX11_undo_29 (by decide) (fun h27 => ?_) (fun h28 => ?_)
        · skip
          have h27 : 19 ≤ j91 := (nI_leI (a := 19) (b := j91) (by omega) (by omega)).mp h27
          refine lv_aload_n hx hb dX11_undo_65 rfl (lv_at hl 1 rfl) ?_
          refine va_get (D := D) (ci := 11) (v := .ref to) (C := RX11) (T := TX11) (N := 18) hx hb hts iw11 hown hK hP 0 rfl rfl 0 (by decide) fw1 (fun _ h9 => h9) rfl dX11_undo_66 ?_
          refine lv_bipush (v := 21) hx hb dX11_undo_69 (by decide) ?_
          refine va_iald hx hb hK hP 2 0 rfl rfl (by unfold vp_in; decide) dX11_undo_71 ?_
          rw [show ((21 : Int32)).toNatClampNeg = 21 from rfl]
          exact W.iret (v := (x17 21)) hx hb hr (fun tZ ht hW => ⟨⟨(x17 21), (frf, x17, up), rfl, ⟨hr_x17, hk_x17_0, hk_x17_1, hk_x17_2, hk_x17_3, by first | omega | (dsimp only; omega), hk_x17_4, by first | omega | (dsimp only; omega)⟩, by rw [ht]; exact hP.sub [0, 1, 2] rfl, hD.sub [0, 1, 2] (by decide) rfl⟩, hS.F ht⟩) hS.2.2 dX11_undo_72
        · skip
          have h28 : ¬ 19 ≤ j91 := fun q9 => h28 ((nI_leI (a := 19) (b := j91) (by omega) (by omega)).mpr q9)
          refine lv_aload_n hx hb dX11_undo_32 rfl (lv_at hl 1 rfl) ?_
          refine va_get (D := D) (ci := 11) (v := .ref to) (C := RX11) (T := TX11) (N := 18) hx hb hts iw11 hown hK hP 0 rfl rfl 0 (by decide) fw1 (fun _ h9 => h9) rfl dX11_undo_33 ?_
          refine lv_iconst (v := 5) hx hb dX11_undo_36 (by decide) ?_
          refine lv_iload_n hx hb dX11_undo_37 rfl (lv_at hl 0 rfl) ?_
          refine lv_iadd hx hb dX11_undo_38 ?_
          rw [show 5 + (nI j91) = nI (j91 + 5) from (nI_add 5 j91).trans (congrArg nI (by omega))]
          refine lv_aload_n hx hb dX11_undo_39 rfl (lv_at hl 1 rfl) ?_
          refine va_get (D := D) (ci := 11) (v := .ref to) (C := RX11) (T := TX11) (N := 18) hx hb hts iw11 hown hK hP 0 rfl rfl 0 (by decide) fw1 (fun _ h9 => h9) rfl dX11_undo_40 ?_
          refine lv_bipush (v := 76) hx hb dX11_undo_43 (by decide) ?_
          refine lv_bipush (v := 19) hx hb dX11_undo_45 (by decide) ?_
          refine lv_aload_n hx hb dX11_undo_47 rfl (lv_at hl 1 rfl) ?_
          refine va_get (D := D) (ci := 11) (v := .ref to) (C := RX11) (T := TX11) (N := 18) hx hb hts iw11 hown hK hP 0 rfl rfl 0 (by decide) fw1 (fun _ h9 => h9) rfl dX11_undo_48 ?_
          refine lv_iconst (v := 4) hx hb dX11_undo_51 (by decide) ?_
          refine va_iald hx hb hK hP 2 0 rfl rfl (by unfold vp_in; decide) dX11_undo_52 ?_
          rw [show ((4 : Int32)).toNatClampNeg = 4 from rfl]
          rw [show (x17 4) = (nI up) from hk_x17_4]
          refine lv_imul hx hb dX11_undo_53 ?_
          rw [show 19 * (nI up) = nI (19 * up) from pk_mul 19 up]
          refine lv_iadd hx hb dX11_undo_54 ?_
          rw [show 76 + (nI (19 * up)) = nI (76 + (19 * up)) from nI_add 76 (19 * up)]
          refine lv_iload_n hx hb dX11_undo_55 rfl (lv_at hl 0 rfl) ?_
          refine lv_iadd hx hb dX11_undo_56 ?_
          rw [show (nI (76 + (19 * up))) + (nI j91) = nI ((76 + (19 * up)) + j91) from nI_add (76 + (19 * up)) j91]
          refine va_iald hx hb hK hP 2 0 rfl rfl (vp_in_nI (by omega) (by decide)) dX11_undo_57 ?_
          rw [nI_clamp (n := ((76 + (19 * up)) + j91)) (by omega)]
          refine va_iast hx hb hK hP hD hS 2 0 rfl rfl (vp_in_nI (by omega) (by decide)) dX11_undo_58 (fun H locs hP hD hS => ?_)
          rw [nI_clamp (n := (j91 + 5)) (by omega)] at hP hD
          have hr29 : kr_t 228 (upd x17 (j91 + 5) (x17 ((76 + (19 * up)) + j91))) := kr_up hr_x17 (kr_move (p := ((76 + (19 * up)) + j91)) (hr_x17 ((76 + (19 * up)) + j91) (by omega)) (by unfold kr_a; omega) (by unfold kr_s; omega))
          have hk30 : (upd x17 (j91 + 5) (x17 ((76 + (19 * up)) + j91))) 0 = (nI fi) := (pk_un (by omega)).trans hk_x17_0
          have hk31 : (upd x17 (j91 + 5) (x17 ((76 + (19 * up)) + j91))) 1 = (nI gl) := (pk_un (by omega)).trans hk_x17_1
          have hk32 : (upd x17 (j91 + 5) (x17 ((76 + (19 * up)) + j91))) 2 = (nI mi) := (pk_un (by omega)).trans hk_x17_2
          have hk33 : (upd x17 (j91 + 5) (x17 ((76 + (19 * up)) + j91))) 3 = (nI no) := (pk_un (by omega)).trans hk_x17_3
          have hk34 : (upd x17 (j91 + 5) (x17 ((76 + (19 * up)) + j91))) 4 = (nI up) := (pk_un (by omega)).trans hk_x17_4
          have hP : va_P D vwCl [(mo, .inr (11, [.ref to, .ref ke, .ref ik, .ref mrf, .long mab, .long mbl, .ref ha, .ref r0, .ref mbr, .ref mbp, .ref mby, .int (nI bl), .int (nI ta), .int (nI tl), .int (nI tk), .int vv, .ref an, .ref va])), (mrf, .inl (y 0, 3, .inl frf)), (to, .inl (y 0, 228, .inl (upd x17 (j91 + 5) (x17 ((76 + (19 * up)) + j91)))))] H := hP
          have hD : va_D A [(mo, .inr (11, [.ref to, .ref ke, .ref ik, .ref mrf, .long mab, .long mbl, .ref ha, .ref r0, .ref mbr, .ref mbp, .ref mby, .int (nI bl), .int (nI ta), .int (nI tl), .int (nI tk), .int vv, .ref an, .ref va])), (mrf, .inl (y 0, 3, .inl frf)), (to, .inl (y 0, 228, .inl (upd x17 (j91 + 5) (x17 ((76 + (19 * up)) + j91)))))] := hD
          refine lv_iinc (v := (nI (j91 + 1))) (lv' := [(1, .int (nI (j91 + 1))), (0, .ref mo)]) hx hb dX11_undo_59 hl (k := 0) rfl (nI_1 j91) (by decide) rfl (fun ls hl => ?_)
          refine lv_goto (tgt := 26) hx hb dX11_undo_62 (by decide) ?_
          exact ihj91 (j91 + 1) (upd x17 (j91 + 5) (x17 ((76 + (19 * up)) + j91))) H locs ls (by omega) (by omega) hr29 hk30 hk31 hk32 hk33 hk34 (hP.sub [0, 1, 2] rfl) (hD.sub [0, 1, 2] (by decide) rfl) hS (lv_sub hl [0, 1] rfl)
    exact lp26 (19 + 1) 0 (upd ft 4 (nI up)) _ _ _ (by omega) (by omega) hr3 hk4 hk5 hk6 hk7 hk8 hP hD hS (lv_sub hl [0, 1] rfl)
  · skip
    have h2 : un = 0 := (nI_eq (a := un) (b := 0) (by omega) (by omega)).mp h2
    refine lv_aload_n hx hb dX11_undo_9 rfl (lv_at hl 0 rfl) ?_
    have hs35 : kw_Split [(mo, .inr (11, [.ref to, .ref ke, .ref ik, .ref mrf, .long mab, .long mbl, .ref ha, .ref r0, .ref mbr, .ref mbp, .ref mby, .int (nI bl), .int (nI ta), .int (nI tl), .int (nI tk), .int vv, .ref an, .ref va])), (mrf, .inl (y 0, 3, .inl frf)), (to, .inl (y 0, 228, .inl ft))] [(mo, .inr (11, [.ref to, .ref ke, .ref ik, .ref mrf, .long mab, .long mbl, .ref ha, .ref r0, .ref mbr, .ref mbp, .ref mby, .int (nI bl), .int (nI ta), .int (nI tl), .int (nI tk), .int vv, .ref an, .ref va])), (mrf, .inl (y 0, 3, .inl frf))] [(to, .inl (y 0, 228, .inl ft))] [0, 1] [2] := ⟨rfl, rfl, rfl, rfl, rfl, by decide⟩
    refine kw_go_i hs35 hP hD hS hA (va_runV (As := []) (rest := []) ⟨hx, hb, hml, hown, hts⟩ (gr_no l D y mo to ke ik mrf ha r0 mbr mbp mby an va mab mbl bl ta tl tk vv frf  _) (cwV 0 hts gX11_undo_X11_no rfl rfl rfl (by decide +kernel) ⟨Nat.le_of_ble_eq_true rfl, Nat.le_of_ble_eq_true rfl⟩) (kw_PreV (ci := 11) (q0 := 0) hs35 hP hD hK hN rfl rfl) rfl rfl hl.1 rfl (lv_room (Nat.le_of_ble_eq_true rfl)) dX11_undo_10 ⟨Nat.le_of_ble_eq_true rfl, Nat.le_of_ble_eq_true rfl⟩) (fun r36 u37 H locs hq hP hD hS => ?_)
    obtain rfl := hq
    have hP : va_P D vwCl [(to, .inl (y 0, 228, .inl ft)), (mo, .inr (11, [.ref to, .ref ke, .ref ik, .ref mrf, .long mab, .long mbl, .ref ha, .ref r0, .ref mbr, .ref mbp, .ref mby, .int (nI bl), .int (nI ta), .int (nI tl), .int (nI tk), .int vv, .ref an, .ref va])), (mrf, .inl (y 0, 3, .inl (upd frf 1 ((frf 1) + 1))))] H := hP
    have hD : va_D A [(to, .inl (y 0, 228, .inl ft)), (mo, .inr (11, [.ref to, .ref ke, .ref ik, .ref mrf, .long mab, .long mbl, .ref ha, .ref r0, .ref mbr, .ref mbp, .ref mby, .int (nI bl), .int (nI ta), .int (nI tl), .int (nI tk), .int vv, .ref an, .ref va])), (mrf, .inl (y 0, 3, .inl (upd frf 1 ((frf 1) + 1))))] := hD
    exact W.iret (v := (-3)) hx hb hr (fun tZ ht hW => ⟨⟨(-3), ((upd frf 1 ((frf 1) + 1)), ft, un), rfl, ⟨hkt, hk0_, hk1_, hk2_, hk3_, by first | omega | (dsimp only; omega), hk4_, by first | omega | (dsimp only; omega)⟩, by rw [ht]; exact hP.sub [1, 2, 0] rfl, hD.sub [1, 2, 0] (by decide) rfl⟩, hS.F ht⟩) hS.2.2 dX11_undo_13

set_option maxHeartbeats 4000000 in
set_option maxRecDepth 100000 in
theorem gr_whoIsOn (l : Launch) (D : va_G) (y : Nat → ClassId) (mo : Nat) (to : Nat) (ke : Nat) (ik : Nat) (mrf : Nat) (ha : Nat) (r0 : Nat) (mbr : Nat) (mbp : Nat) (mby : Nat) (an : Nat) (va : Nat) (mab : Int64) (mbl : Int64) (bl : Nat) (ta : Nat) (tl : Nat) (tk : Nat) (vv : Int32) (ft : Nat → Int32) (fi : Nat) (gl : Nat) (mi : Nat) (no : Nat) (un : Nat) (x : Int32) (hk0_ : ft 0 = (nI fi)) (hk1_ : ft 1 = (nI gl)) (hk2_ : ft 2 = (nI mi)) (hk3_ : ft 3 = (nI no)) (hk4_ : ft 4 = (nI un)) (hkt : kr_t 228 ft) (hfi : fi ≤ 6) (hgl : gl ≤ 5) (hmi : mi ≤ 4) (hno : no ≤ 6) (hun : un ≤ 8) : kw_Mi l yX11_whoIsOn wsX11_whoIsOn ({ frames := 2, cells := 0, slots := 0, locals := 80 }) D y [.ref mo, .int x] [(mo, .inr (11, [.ref to, .ref ke, .ref ik, .ref mrf, .long mab, .long mbl, .ref ha, .ref r0, .ref mbr, .ref mbp, .ref mby, .int (nI bl), .int (nI ta), .int (nI tl), .int (nI tk), .int vv, .ref an, .ref va])), (to, .inl (y 0, 228, .inl ft))] (fun (r : Int32) (u : Unit) => True) (fun _ => [(mo, .inr (11, [.ref to, .ref ke, .ref ik, .ref mrf, .long mab, .long mbl, .ref ha, .ref r0, .ref mbr, .ref mbp, .ref mby, .int (nI bl), .int (nI ta), .int (nI tl), .int (nI tk), .int vv, .ref an, .ref va])), (to, .inl (y 0, 228, .inl ft))]) 0 0 := by
  refine kw_Mi.of (cc := cX11_whoIsOn) (maxL := 4) (ret := (some .int)) (by decide) rfl ?_
  intro pZ eZ s mZ beZ meZ cZ A hE
  obtain ⟨hx, hb, hr, hml, hts, hown, hlocks, hin, hA, hP, hD, hK, hN⟩ := hE
  have hS : va_S A s.heap s.heap [] := va_S.rf
  have hl := lv_entry ([.ref mo, .int x]) (n := 4) (Nat.le_of_ble_eq_true rfl)
  rw [lg_entry_eq]
  generalize (lg_sl ([.ref mo, .int x]) ++ List.replicate (4 - (lg_sl ([.ref mo, .int x])).length) Slot.unset).toArray = ls at hl ⊢
  have hl : lv_has ls 4 [(0, .ref mo), (1, .int x)] := hl
  have fw1 := hts (.fieldLink RX11 7 "GleanDuskModel" "told" "[I") (List.mem_of_getElem? (i := 1) rfl)
  have iw11 : ∀ w ∈ wsX110, w ∈ wsX11_whoIsOn := fun _ h => List.mem_cons_of_mem _ (List.mem_append_right _ h)
  refine lv_iconst (v := 0) hx hb dX11_whoIsOn_0 (by decide) ?_
  refine lv_istore_n (lv' := [(2, .int 0), (0, .ref mo), (1, .int x)]) hx hb dX11_whoIsOn_1 rfl hl (by decide) rfl (fun ls hl => ?_)
  refine lv_iconst (v := 0) hx hb dX11_whoIsOn_2 (by decide) ?_
  refine lv_istore_n (lv' := [(3, .int 0), (2, .int 0), (0, .ref mo), (1, .int x)]) hx hb dX11_whoIsOn_3 rfl hl (by decide) rfl (fun ls hl => ?_)
  have lp23 : ∀ (fuj91 j91 : Nat) (x12 : Int32) (H : Heap) (locs : List Loc) (ls : Array Slot), j91 ≤ gl → gl - j91 < fuj91 → va_P D vwCl [(mo, .inr (11, [.ref to, .ref ke, .ref ik, .ref mrf, .long mab, .long mbl, .ref ha, .ref r0, .ref mbr, .ref mbp, .ref mby, .int (nI bl), .int (nI ta), .int (nI tl), .int (nI tk), .int vv, .ref an, .ref va])), (to, .inl (y 0, 228, .inl ft))] H → va_D A [(mo, .inr (11, [.ref to, .ref ke, .ref ik, .ref mrf, .long mab, .long mbl, .ref ha, .ref r0, .ref mbr, .ref mbp, .ref mby, .int (nI bl), .int (nI ta), .int (nI tl), .int (nI tk), .int vv, .ref an, .ref va])), (to, .inl (y 0, 228, .inl ft))] → va_S A s.heap H locs → lv_has ls 4 [(3, .int (nI j91)), (2, .int x12), (0, .ref mo), (1, .int x)] → W pZ l eZ ({ frames := 2, cells := 0, slots := 0, locals := 80 }) s mZ [.ref mo, .int x].toArray beZ meZ cZ H locs 0 0 (MQ beZ (va_Qi (fun (r : Int32) (u : Unit) => True) (kw_B D (fun _ => [(mo, .inr (11, [.ref to, .ref ke, .ref ik, .ref mrf, .long mab, .long mbl, .ref ha, .ref r0, .ref mbr, .ref mbp, .ref mby, .int (nI bl), .int (nI ta), .int (nI tl), .int (nI tk), .int vv, .ref an, .ref va])), (to, .inl (y 0, 228, .inl ft))]) A) A) [.ref mo, .int x].toArray s 0 0 A) (F0 mZ 4 ls []) := by
    intro fuj91
    induction fuj91 with
    | zero => intro j91 x12 H locs ls hj9 hf9; exact absurd hf9 (Nat.not_lt_zero _)
    | succ fuj91 ihj91 =>
      intro j91 x12 H locs ls hj91 hfj91  hP hD hS hl
      refine lv_iload_n hx hb dX11_whoIsOn_4 rfl (lv_at hl 0 rfl) ?_
      refine lv_aload_n hx hb dX11_whoIsOn_5 rfl (lv_at hl 2 rfl) ?_
      have hs24 : kw_Split [(mo, .inr (11, [.ref to, .ref ke, .ref ik, .ref mrf, .long mab, .long mbl, .ref ha, .ref r0, .ref mbr, .ref mbp, .ref mby, .int (nI bl), .int (nI ta), .int (nI tl), .int (nI tk), .int vv, .ref an, .ref va])), (to, .inl (y 0, 228, .inl ft))] [(mo, .inr (11, [.ref to, .ref ke, .ref ik, .ref mrf, .long mab, .long mbl, .ref ha, .ref r0, .ref mbr, .ref mbp, .ref mby, .int (nI bl), .int (nI ta), .int (nI tl), .int (nI tk), .int vv, .ref an, .ref va])), (to, .inl (y 0, 228, .inl ft))] [] [0, 1] [] := ⟨rfl, rfl, rfl, rfl, rfl, by decide⟩
      refine kw_go_i hs24 hP hD hS hA (va_runV (As := []) (rest := [.int (nI j91)]) ⟨hx, hb, hml, hown, hts⟩ (gr_manyGleaners l D y mo to ke ik mrf ha r0 mbr mbp mby an va mab mbl bl ta tl tk vv ft fi gl mi no un hk0_ hk1_ hk2_ hk3_ hk4_ hkt hfi hgl hmi hno hun _) (cwV 0 hts gX11_whoIsOn_X11_manyGleaners rfl rfl rfl (by decide +kernel) ⟨Nat.le_of_ble_eq_true rfl, Nat.le_of_ble_eq_true rfl⟩) (kw_PreV (ci := 11) (q0 := 0) hs24 hP hD hK hN rfl rfl) rfl rfl hl.1 rfl (lv_room (Nat.le_of_ble_eq_true rfl)) dX11_whoIsOn_6 ⟨Nat.le_of_ble_eq_true rfl, Nat.le_of_ble_eq_true rfl⟩) (fun r25 u26 H locs hq hP hD hS => ?_)
      obtain rfl := hq
      have hP : va_P D vwCl [(mo, .inr (11, [.ref to, .ref ke, .ref ik, .ref mrf, .long mab, .long mbl, .ref ha, .ref r0, .ref mbr, .ref mbp, .ref mby, .int (nI bl), .int (nI ta), .int (nI tl), .int (nI tk), .int vv, .ref an, .ref va])), (to, .inl (y 0, 228, .inl ft))] H := hP
      have hD : va_D A [(mo, .inr (11, [.ref to, .ref ke, .ref ik, .ref mrf, .long mab, .long mbl, .ref ha, .ref r0, .ref mbr, .ref mbp, .ref mby, .int (nI bl), .int (nI ta), .int (nI tl), .int (nI tk), .int vv, .ref an, .ref va])), (to, .inl (y 0, 228, .inl ft))] := hD
      refine lv_icmp_ge (tgt := 41) hx hb dX11_whoIsOn_9 (by decide) (fun h27 => ?_) (fun h28 => ?_)
      · skip
        have h27 : gl ≤ j91 := (nI_leI (a := gl) (b := j91) (by omega) (by omega)).mp h27
        refine lv_iload_n hx hb dX11_whoIsOn_41 rfl (lv_at hl 1 rfl) ?_
        exact W.iret (v := x12) hx hb hr (fun tZ ht hW => ⟨⟨x12, (), rfl, trivial, by rw [ht]; exact hP.sub [0, 1] rfl, hD.sub [0, 1] (by decide) rfl⟩, hS.F ht⟩) hS.2.2 dX11_whoIsOn_42
      · skip
        have h28 : ¬ gl ≤ j91 := fun q9 => h28 ((nI_leI (a := gl) (b := j91) (by omega) (by omega)).mpr q9)
        refine lv_iload_n hx hb dX11_whoIsOn_12 rfl (lv_at hl 1 rfl) ?_
        refine lv_aload_n hx hb dX11_whoIsOn_13 rfl (lv_at hl 2 rfl) ?_
        refine va_get (D := D) (ci := 11) (v := .ref to) (C := RX11) (T := TX11) (N := 18) hx hb hts iw11 hown hK hP 0 rfl rfl 0 (by decide) fw1 (fun _ h9 => h9) rfl dX11_whoIsOn_14 ?_
        refine lv_bipush (v := 11) hx hb dX11_whoIsOn_17 (by decide) ?_
        refine lv_iload_n hx hb dX11_whoIsOn_19 rfl (lv_at hl 0 rfl) ?_
        refine lv_iadd hx hb dX11_whoIsOn_20 ?_
        rw [show 11 + (nI j91) = nI (j91 + 11) from (nI_add 11 j91).trans (congrArg nI (by omega))]
        refine va_iald hx hb hK hP 1 0 rfl rfl (vp_in_nI (by omega) (by decide)) dX11_whoIsOn_21 ?_
        rw [nI_clamp (n := (j91 + 11)) (by omega)]
        obtain ⟨w29, h30, h31⟩ := kr_at hkt (p := (j91 + 11)) (by omega) (by unfold kr_a; omega)
        rw [h31]
        refine lv_iload_n hx hb dX11_whoIsOn_22 rfl (lv_at hl 3 rfl) ?_
        refine lv_icmp_ne (tgt := 32) hx hb dX11_whoIsOn_23 (by decide) (fun h32 => ?_) (fun h33 => ?_)
        · skip
          refine lv_iconst (v := 0) hx hb dX11_whoIsOn_32 (by decide) ?_
          refine lv_ior hx hb dX11_whoIsOn_33 ?_
          refine lv_istore_n (lv' := [(2, .int (x12 ||| 0)), (3, .int (nI j91)), (0, .ref mo), (1, .int x)]) hx hb dX11_whoIsOn_34 rfl hl (by decide) rfl (fun ls hl => ?_)
          refine lv_iinc (v := (nI (j91 + 1))) (lv' := [(3, .int (nI (j91 + 1))), (2, .int (x12 ||| 0)), (0, .ref mo), (1, .int x)]) hx hb dX11_whoIsOn_35 hl (k := 1) rfl (nI_1 j91) (by decide) rfl (fun ls hl => ?_)
          refine lv_goto (tgt := 4) hx hb dX11_whoIsOn_38 (by decide) ?_
          exact ihj91 (j91 + 1) (x12 ||| 0) H locs ls (by omega) (by omega)  (hP.sub [0, 1] rfl) (hD.sub [0, 1] (by decide) rfl) hS (lv_sub hl [0, 1, 2, 3] rfl)
        · skip
          refine lv_iconst (v := 1) hx hb dX11_whoIsOn_26 (by decide) ?_
          refine lv_iload_n hx hb dX11_whoIsOn_27 rfl (lv_at hl 0 rfl) ?_
          refine lv_ishl hx hb dX11_whoIsOn_28 ?_
          refine lv_goto (tgt := 33) hx hb dX11_whoIsOn_29 (by decide) ?_
          refine lv_ior hx hb dX11_whoIsOn_33 ?_
          refine lv_istore_n (lv' := [(2, .int (x12 ||| (1 <<< ((nI j91) &&& 31)))), (3, .int (nI j91)), (0, .ref mo), (1, .int x)]) hx hb dX11_whoIsOn_34 rfl hl (by decide) rfl (fun ls hl => ?_)
          refine lv_iinc (v := (nI (j91 + 1))) (lv' := [(3, .int (nI (j91 + 1))), (2, .int (x12 ||| (1 <<< ((nI j91) &&& 31)))), (0, .ref mo), (1, .int x)]) hx hb dX11_whoIsOn_35 hl (k := 1) rfl (nI_1 j91) (by decide) rfl (fun ls hl => ?_)
          refine lv_goto (tgt := 4) hx hb dX11_whoIsOn_38 (by decide) ?_
          exact ihj91 (j91 + 1) (x12 ||| (1 <<< ((nI j91) &&& 31))) H locs ls (by omega) (by omega)  (hP.sub [0, 1] rfl) (hD.sub [0, 1] (by decide) rfl) hS (lv_sub hl [0, 1, 2, 3] rfl)
  exact lp23 (gl + 1) 0 0 _ _ _ (by omega) (by omega)  hP hD hS (lv_sub hl [0, 1, 2, 3] rfl)

set_option maxHeartbeats 4000000 in
set_option maxRecDepth 100000 in
theorem gq_of (l : Launch) (D : va_G) (y : Nat → ClassId) (mo : Nat) (to : Nat) (ke : Nat) (ik : Nat) (mrf : Nat) (ha : Nat) (r0 : Nat) (mbr : Nat) (mbp : Nat) (mby : Nat) (an : Nat) (va : Nat) (mab : Int64) (mbl : Int64) (bl : Nat) (ta : Nat) (tl : Nat) (tk : Nat) (vv : Int32) (frf : Nat → Int32) (ft : Nat → Int32) (fi : Nat) (gl : Nat) (mi : Nat) (no : Nat) (un : Nat) (x : Int32) (x2 : Int32) (hk0_ : ft 0 = (nI fi)) (hk1_ : ft 1 = (nI gl)) (hk2_ : ft 2 = (nI mi)) (hk3_ : ft 3 = (nI no)) (hk4_ : ft 4 = (nI un)) (hkt : kr_t 228 ft) (hfi : fi ≤ 6) (hgl : gl ≤ 5) (hmi : mi ≤ 4) (hno : no ≤ 6) (hun : un ≤ 8) (hgf : (gl = 0 ∨ 0 < fi)) : kw_Mi l yX11_of wsX11_of ({ frames := 3, cells := 0, slots := 0, locals := 106 }) D y [.ref mo, .int x, .int x2] [(mo, .inr (11, [.ref to, .ref ke, .ref ik, .ref mrf, .long mab, .long mbl, .ref ha, .ref r0, .ref mbr, .ref mbp, .ref mby, .int (nI bl), .int (nI ta), .int (nI tl), .int (nI tk), .int vv, .ref an, .ref va])), (mrf, .inl (y 0, 3, .inl frf)), (to, .inl (y 0, 228, .inl ft))] (fun (r : Int32) (u : (Nat → Int32)) => (gl = 0 ∨ 0 < fi)) (fun u => [(mo, .inr (11, [.ref to, .ref ke, .ref ik, .ref mrf, .long mab, .long mbl, .ref ha, .ref r0, .ref mbr, .ref mbp, .ref mby, .int (nI bl), .int (nI ta), .int (nI tl), .int (nI tk), .int vv, .ref an, .ref va])), (mrf, .inl (y 0, 3, .inl u)), (to, .inl (y 0, 228, .inl ft))]) 0 0 := by
  refine kw_Mi.of (cc := cX11_of) (maxL := 3) (ret := (some .int)) (by decide) rfl ?_
  intro pZ eZ s mZ beZ meZ cZ A hE
  obtain ⟨hx, hb, hr, hml, hts, hown, hlocks, hin, hA, hP, hD, hK, hN⟩ := hE
  have hS : va_S A s.heap s.heap [] := va_S.rf
  have hl := lv_entry ([.ref mo, .int x, .int x2]) (n := 3) (Nat.le_of_ble_eq_true rfl)
  rw [lg_entry_eq]
  generalize (lg_sl ([.ref mo, .int x, .int x2]) ++ List.replicate (3 - (lg_sl ([.ref mo, .int x, .int x2])).length) Slot.unset).toArray = ls at hl ⊢
  have hl : lv_has ls 3 [(0, .ref mo), (1, .int x), (2, .int x2)] := hl
  have fw1 := hts (.constantLong RX11 136 (2)) (List.mem_of_getElem? (i := 1) rfl)
  have fw2 := hts (.fieldLink RX11 7 "GleanDuskModel" "told" "[I") (List.mem_of_getElem? (i := 2) rfl)
  have iw11 : ∀ w ∈ wsX110, w ∈ wsX11_of := fun _ h => List.mem_cons_of_mem _ (List.mem_append_right _ h)
  refine lv_aload_n hx hb dX11_of_0 rfl (lv_at hl 0 rfl) ?_
  refine lv_iload_n hx hb dX11_of_1 rfl (lv_at hl 1 rfl) ?_
  have hs1 : kw_Split [(mo, .inr (11, [.ref to, .ref ke, .ref ik, .ref mrf, .long mab, .long mbl, .ref ha, .ref r0, .ref mbr, .ref mbp, .ref mby, .int (nI bl), .int (nI ta), .int (nI tl), .int (nI tk), .int vv, .ref an, .ref va])), (mrf, .inl (y 0, 3, .inl frf)), (to, .inl (y 0, 228, .inl ft))] [(mo, .inr (11, [.ref to, .ref ke, .ref ik, .ref mrf, .long mab, .long mbl, .ref ha, .ref r0, .ref mbr, .ref mbp, .ref mby, .int (nI bl), .int (nI ta), .int (nI tl), .int (nI tk), .int vv, .ref an, .ref va])), (to, .inl (y 0, 228, .inl ft))] [(mrf, .inl (y 0, 3, .inl frf))] [0, 2] [1] := ⟨rfl, rfl, rfl, rfl, rfl, by decide⟩
  refine kw_go_i hs1 hP hD hS hA (va_runV (As := [.int x]) (rest := []) ⟨hx, hb, hml, hown, hts⟩ (gr_isField l D y mo to ke ik mrf ha r0 mbr mbp mby an va mab mbl bl ta tl tk vv ft fi gl mi no un x hk0_ hk1_ hk2_ hk3_ hk4_ hkt hfi hgl hmi hno hun _) (cwV 1 hts gX11_of_X11_isField rfl rfl rfl (by decide +kernel) ⟨Nat.le_of_ble_eq_true rfl, Nat.le_of_ble_eq_true rfl⟩) (kw_PreV (ci := 11) (q0 := 0) hs1 hP hD hK hN rfl rfl) rfl rfl hl.1 rfl (lv_room (Nat.le_of_ble_eq_true rfl)) dX11_of_2 ⟨Nat.le_of_ble_eq_true rfl, Nat.le_of_ble_eq_true rfl⟩) (fun r2 u3 H locs hq hP hD hS => ?_)
  rcases hq with ⟨j4, h5, rfl, rfl⟩ | ⟨h6, rfl⟩
  · skip
    have hP : va_P D vwCl [(mrf, .inl (y 0, 3, .inl frf)), (mo, .inr (11, [.ref to, .ref ke, .ref ik, .ref mrf, .long mab, .long mbl, .ref ha, .ref r0, .ref mbr, .ref mbp, .ref mby, .int (nI bl), .int (nI ta), .int (nI tl), .int (nI tk), .int vv, .ref an, .ref va])), (to, .inl (y 0, 228, .inl ft))] H := hP
    have hD : va_D A [(mrf, .inl (y 0, 3, .inl frf)), (mo, .inr (11, [.ref to, .ref ke, .ref ik, .ref mrf, .long mab, .long mbl, .ref ha, .ref r0, .ref mbr, .ref mbp, .ref mby, .int (nI bl), .int (nI ta), .int (nI tl), .int (nI tk), .int vv, .ref an, .ref va])), (to, .inl (y 0, 228, .inl ft))] := hD
    refine lv_if_eq (tgt := 20) hx hb dX11_of_5 (by decide) (fun h9 => absurd h9 (by decide)) (fun _ => ?_)
    refine lv_iload_n hx hb dX11_of_8 rfl (lv_at hl 2 rfl) ?_
    refine lv_i2l (v := x2.toInt64) hx hb dX11_of_9 (rfl) ?_
    refine lv_lconst (v := 0) hx hb dX11_of_10 (by decide) ?_
    refine lv_ldc2 (v := 2) hx hb hown fw1 dX11_of_11 ?_
    have hs7 : kw_Split [(mrf, .inl (y 0, 3, .inl frf)), (mo, .inr (11, [.ref to, .ref ke, .ref ik, .ref mrf, .long mab, .long mbl, .ref ha, .ref r0, .ref mbr, .ref mbp, .ref mby, .int (nI bl), .int (nI ta), .int (nI tl), .int (nI tk), .int vv, .ref an, .ref va])), (to, .inl (y 0, 228, .inl ft))] [] [(mrf, .inl (y 0, 3, .inl frf)), (mo, .inr (11, [.ref to, .ref ke, .ref ik, .ref mrf, .long mab, .long mbl, .ref ha, .ref r0, .ref mbr, .ref mbp, .ref mby, .int (nI bl), .int (nI ta), .int (nI tl), .int (nI tk), .int vv, .ref an, .ref va])), (to, .inl (y 0, 228, .inl ft))] [] [0, 1, 2] := ⟨rfl, rfl, rfl, rfl, rfl, by decide⟩
    refine kw_go_i hs7 hP hD hS hA (va_runS (As := [.long x2.toInt64, .long 0, .long 2]) (rest := []) ⟨hx, hb, hml, hown, hts⟩ (gr_in l D y x2 0 2 (by omega) (by omega) _) (va_cwS 3 hts gX11_of_X11_in rfl rfl rfl (by decide +kernel) ⟨Nat.le_of_ble_eq_true rfl, Nat.le_of_ble_eq_true rfl⟩) (kw_PreS hs7 hP hD hK hN) rfl rfl hl.1 rfl (lv_room (Nat.le_of_ble_eq_true rfl)) dX11_of_14 ⟨Nat.le_of_ble_eq_true rfl, Nat.le_of_ble_eq_true rfl⟩) (fun r8 u9 H locs hq hP hD hS => ?_)
    rcases hq with ⟨j10, h11, h12, rfl, rfl⟩ | ⟨h13, rfl⟩
    · skip
      have hP : va_P D vwCl [(mrf, .inl (y 0, 3, .inl frf)), (mo, .inr (11, [.ref to, .ref ke, .ref ik, .ref mrf, .long mab, .long mbl, .ref ha, .ref r0, .ref mbr, .ref mbp, .ref mby, .int (nI bl), .int (nI ta), .int (nI tl), .int (nI tk), .int vv, .ref an, .ref va])), (to, .inl (y 0, 228, .inl ft))] H := hP
      have hD : va_D A [(mrf, .inl (y 0, 3, .inl frf)), (mo, .inr (11, [.ref to, .ref ke, .ref ik, .ref mrf, .long mab, .long mbl, .ref ha, .ref r0, .ref mbr, .ref mbp, .ref mby, .int (nI bl), .int (nI ta), .int (nI tl), .int (nI tk), .int vv, .ref an, .ref va])), (to, .inl (y 0, 228, .inl ft))] := hD
      refine lv_if_ne (tgt := 27) hx hb dX11_of_17 (by decide) (fun _ => ?_) (fun h9 => absurd h9 (by decide))
      refine lv_iload_n hx hb dX11_of_27 rfl (lv_at hl 2 rfl) ?_
      refine lv_if_ne (tgt := 43) hx hb dX11_of_28 (by decide) (fun h14 => ?_) (fun h15 => ?_)
      · skip
        have h14 : ¬ j10 = 0 := fun q9 => h14 ((nI_eq (a := j10) (b := 0) (by omega) (by omega)).mpr q9)
        refine lv_iload_n hx hb dX11_of_43 rfl (lv_at hl 2 rfl) ?_
        refine lv_iconst (v := 1) hx hb dX11_of_44 (by decide) ?_
        refine lv_icmp_ne (tgt := 59) hx hb dX11_of_45 (by decide) (fun h16 => ?_) (fun h17 => ?_)
        · skip
          have h16 : ¬ j10 = 1 := fun q9 => h16 ((nI_eq (a := j10) (b := 1) (by omega) (by omega)).mpr q9)
          refine lv_aload_n hx hb dX11_of_59 rfl (lv_at hl 0 rfl) ?_
          refine lv_iload_n hx hb dX11_of_60 rfl (lv_at hl 1 rfl) ?_
          have hs18 : kw_Split [(mrf, .inl (y 0, 3, .inl frf)), (mo, .inr (11, [.ref to, .ref ke, .ref ik, .ref mrf, .long mab, .long mbl, .ref ha, .ref r0, .ref mbr, .ref mbp, .ref mby, .int (nI bl), .int (nI ta), .int (nI tl), .int (nI tk), .int vv, .ref an, .ref va])), (to, .inl (y 0, 228, .inl ft))] [(mo, .inr (11, [.ref to, .ref ke, .ref ik, .ref mrf, .long mab, .long mbl, .ref ha, .ref r0, .ref mbr, .ref mbp, .ref mby, .int (nI bl), .int (nI ta), .int (nI tl), .int (nI tk), .int vv, .ref an, .ref va])), (to, .inl (y 0, 228, .inl ft))] [(mrf, .inl (y 0, 3, .inl frf))] [1, 2] [0] := ⟨rfl, rfl, rfl, rfl, rfl, by decide⟩
          refine kw_go_i hs18 hP hD hS hA (va_runV (As := [.int (nI j4)]) (rest := []) ⟨hx, hb, hml, hown, hts⟩ (gr_whoIsOn l D y mo to ke ik mrf ha r0 mbr mbp mby an va mab mbl bl ta tl tk vv ft fi gl mi no un (nI j4) hk0_ hk1_ hk2_ hk3_ hk4_ hkt hfi hgl hmi hno hun _) (cwV 1 hts gX11_of_X11_whoIsOn rfl rfl rfl (by decide +kernel) ⟨Nat.le_of_ble_eq_true rfl, Nat.le_of_ble_eq_true rfl⟩) (kw_PreV (ci := 11) (q0 := 1) hs18 hP hD hK hN rfl rfl) rfl rfl hl.1 rfl (lv_room (Nat.le_of_ble_eq_true rfl)) dX11_of_61 ⟨Nat.le_of_ble_eq_true rfl, Nat.le_of_ble_eq_true rfl⟩) (fun r19 u20 H locs hq hP hD hS => ?_)
          have hP : va_P D vwCl [(mrf, .inl (y 0, 3, .inl frf)), (mo, .inr (11, [.ref to, .ref ke, .ref ik, .ref mrf, .long mab, .long mbl, .ref ha, .ref r0, .ref mbr, .ref mbp, .ref mby, .int (nI bl), .int (nI ta), .int (nI tl), .int (nI tk), .int vv, .ref an, .ref va])), (to, .inl (y 0, 228, .inl ft))] H := hP
          have hD : va_D A [(mrf, .inl (y 0, 3, .inl frf)), (mo, .inr (11, [.ref to, .ref ke, .ref ik, .ref mrf, .long mab, .long mbl, .ref ha, .ref r0, .ref mbr, .ref mbp, .ref mby, .int (nI bl), .int (nI ta), .int (nI tl), .int (nI tk), .int vv, .ref an, .ref va])), (to, .inl (y 0, 228, .inl ft))] := hD
          exact W.iret (v := r19) hx hb hr (fun tZ ht hW => ⟨⟨r19, (frf), rfl, by first | omega | (dsimp only; omega), by rw [ht]; exact hP.sub [1, 0, 2] rfl, hD.sub [1, 0, 2] (by decide) rfl⟩, hS.F ht⟩) hS.2.2 dX11_of_64
        · skip
          have h17 : j10 = 1 := (nI_eq (a := j10) (b := 1) (by omega) (by omega)).mp h17
          refine lv_aload_n hx hb dX11_of_48 rfl (lv_at hl 0 rfl) ?_
          refine va_get (D := D) (ci := 11) (v := .ref to) (C := RX11) (T := TX11) (N := 18) hx hb hts iw11 hown hK hP 1 rfl rfl 0 (by decide) fw2 (fun _ h9 => h9) rfl dX11_of_49 ?_
          refine lv_iconst (v := 5) hx hb dX11_of_52 (by decide) ?_
          refine lv_iload_n hx hb dX11_of_53 rfl (lv_at hl 1 rfl) ?_
          refine lv_iadd hx hb dX11_of_54 ?_
          rw [show 5 + (nI j4) = nI (j4 + 5) from (nI_add 5 j4).trans (congrArg nI (by omega))]
          refine va_iald hx hb hK hP 2 0 rfl rfl (vp_in_nI (by omega) (by decide)) dX11_of_55 ?_
          rw [nI_clamp (n := (j4 + 5)) (by omega)]
          refine lv_goto (tgt := 64) hx hb dX11_of_56 (by decide) ?_
          exact W.iret (v := (ft (j4 + 5))) hx hb hr (fun tZ ht hW => ⟨⟨(ft (j4 + 5)), (frf), rfl, by first | omega | (dsimp only; omega), by rw [ht]; exact hP.sub [1, 0, 2] rfl, hD.sub [1, 0, 2] (by decide) rfl⟩, hS.F ht⟩) hS.2.2 dX11_of_64
      · skip
        have h15 : j10 = 0 := (nI_eq (a := j10) (b := 0) (by omega) (by omega)).mp h15
        refine lv_aload_n hx hb dX11_of_31 rfl (lv_at hl 0 rfl) ?_
        refine va_get (D := D) (ci := 11) (v := .ref to) (C := RX11) (T := TX11) (N := 18) hx hb hts iw11 hown hK hP 1 rfl rfl 0 (by decide) fw2 (fun _ h9 => h9) rfl dX11_of_32 ?_
        refine lv_bipush (v := 24) hx hb dX11_of_35 (by decide) ?_
        refine lv_iload_n hx hb dX11_of_37 rfl (lv_at hl 1 rfl) ?_
        refine lv_iadd hx hb dX11_of_38 ?_
        rw [show 24 + (nI j4) = nI (j4 + 24) from (nI_add 24 j4).trans (congrArg nI (by omega))]
        refine va_iald hx hb hK hP 2 0 rfl rfl (vp_in_nI (by omega) (by decide)) dX11_of_39 ?_
        rw [nI_clamp (n := (j4 + 24)) (by omega)]
        refine lv_goto (tgt := 64) hx hb dX11_of_40 (by decide) ?_
        exact W.iret (v := (ft (j4 + 24))) hx hb hr (fun tZ ht hW => ⟨⟨(ft (j4 + 24)), (frf), rfl, by first | omega | (dsimp only; omega), by rw [ht]; exact hP.sub [1, 0, 2] rfl, hD.sub [1, 0, 2] (by decide) rfl⟩, hS.F ht⟩) hS.2.2 dX11_of_64
    · skip
      have hP : va_P D vwCl [(mrf, .inl (y 0, 3, .inl frf)), (mo, .inr (11, [.ref to, .ref ke, .ref ik, .ref mrf, .long mab, .long mbl, .ref ha, .ref r0, .ref mbr, .ref mbp, .ref mby, .int (nI bl), .int (nI ta), .int (nI tl), .int (nI tk), .int vv, .ref an, .ref va])), (to, .inl (y 0, 228, .inl ft))] H := hP
      have hD : va_D A [(mrf, .inl (y 0, 3, .inl frf)), (mo, .inr (11, [.ref to, .ref ke, .ref ik, .ref mrf, .long mab, .long mbl, .ref ha, .ref r0, .ref mbr, .ref mbp, .ref mby, .int (nI bl), .int (nI ta), .int (nI tl), .int (nI tk), .int vv, .ref an, .ref va])), (to, .inl (y 0, 228, .inl ft))] := hD
      refine lv_if_ne (tgt := 27) hx hb dX11_of_17 (by decide) (fun h9 => absurd h9 (by decide)) (fun _ => ?_)
      refine lv_aload_n hx hb dX11_of_20 rfl (lv_at hl 0 rfl) ?_
      refine lv_bipush (v := (-2)) hx hb dX11_of_21 (by decide) ?_
      have hs21 : kw_Split [(mrf, .inl (y 0, 3, .inl frf)), (mo, .inr (11, [.ref to, .ref ke, .ref ik, .ref mrf, .long mab, .long mbl, .ref ha, .ref r0, .ref mbr, .ref mbp, .ref mby, .int (nI bl), .int (nI ta), .int (nI tl), .int (nI tk), .int vv, .ref an, .ref va])), (to, .inl (y 0, 228, .inl ft))] [(mo, .inr (11, [.ref to, .ref ke, .ref ik, .ref mrf, .long mab, .long mbl, .ref ha, .ref r0, .ref mbr, .ref mbp, .ref mby, .int (nI bl), .int (nI ta), .int (nI tl), .int (nI tk), .int vv, .ref an, .ref va])), (mrf, .inl (y 0, 3, .inl frf))] [(to, .inl (y 0, 228, .inl ft))] [1, 0] [2] := ⟨rfl, rfl, rfl, rfl, rfl, by decide⟩
      refine kw_go_i hs21 hP hD hS hA (va_runV (As := [.int (-2)]) (rest := []) ⟨hx, hb, hml, hown, hts⟩ (gr_bad l D y mo to ke ik mrf ha r0 mbr mbp mby an va mab mbl bl ta tl tk vv frf (-2)  _) (cwV 1 hts gX11_of_X11_bad rfl rfl rfl (by decide +kernel) ⟨Nat.le_of_ble_eq_true rfl, Nat.le_of_ble_eq_true rfl⟩) (kw_PreV (ci := 11) (q0 := 1) hs21 hP hD hK hN rfl rfl) rfl rfl hl.1 rfl (lv_room (Nat.le_of_ble_eq_true rfl)) dX11_of_23 ⟨Nat.le_of_ble_eq_true rfl, Nat.le_of_ble_eq_true rfl⟩) (fun r22 u23 H locs hq hP hD hS => ?_)
      obtain rfl := hq
      have hP : va_P D vwCl [(to, .inl (y 0, 228, .inl ft)), (mo, .inr (11, [.ref to, .ref ke, .ref ik, .ref mrf, .long mab, .long mbl, .ref ha, .ref r0, .ref mbr, .ref mbp, .ref mby, .int (nI bl), .int (nI ta), .int (nI tl), .int (nI tk), .int vv, .ref an, .ref va])), (mrf, .inl (y 0, 3, .inl (upd frf 0 ((frf 0) + 1))))] H := hP
      have hD : va_D A [(to, .inl (y 0, 228, .inl ft)), (mo, .inr (11, [.ref to, .ref ke, .ref ik, .ref mrf, .long mab, .long mbl, .ref ha, .ref r0, .ref mbr, .ref mbp, .ref mby, .int (nI bl), .int (nI ta), .int (nI tl), .int (nI tk), .int vv, .ref an, .ref va])), (mrf, .inl (y 0, 3, .inl (upd frf 0 ((frf 0) + 1))))] := hD
      exact W.iret (v := (-2)) hx hb hr (fun tZ ht hW => ⟨⟨(-2), ((upd frf 0 ((frf 0) + 1))), rfl, by first | omega | (dsimp only; omega), by rw [ht]; exact hP.sub [1, 2, 0] rfl, hD.sub [1, 2, 0] (by decide) rfl⟩, hS.F ht⟩) hS.2.2 dX11_of_26
  · skip
    have hP : va_P D vwCl [(mrf, .inl (y 0, 3, .inl frf)), (mo, .inr (11, [.ref to, .ref ke, .ref ik, .ref mrf, .long mab, .long mbl, .ref ha, .ref r0, .ref mbr, .ref mbp, .ref mby, .int (nI bl), .int (nI ta), .int (nI tl), .int (nI tk), .int vv, .ref an, .ref va])), (to, .inl (y 0, 228, .inl ft))] H := hP
    have hD : va_D A [(mrf, .inl (y 0, 3, .inl frf)), (mo, .inr (11, [.ref to, .ref ke, .ref ik, .ref mrf, .long mab, .long mbl, .ref ha, .ref r0, .ref mbr, .ref mbp, .ref mby, .int (nI bl), .int (nI ta), .int (nI tl), .int (nI tk), .int vv, .ref an, .ref va])), (to, .inl (y 0, 228, .inl ft))] := hD
    refine lv_if_eq (tgt := 20) hx hb dX11_of_5 (by decide) (fun _ => ?_) (fun h9 => absurd h9 (by decide))
    refine lv_aload_n hx hb dX11_of_20 rfl (lv_at hl 0 rfl) ?_
    refine lv_bipush (v := (-2)) hx hb dX11_of_21 (by decide) ?_
    have hs24 : kw_Split [(mrf, .inl (y 0, 3, .inl frf)), (mo, .inr (11, [.ref to, .ref ke, .ref ik, .ref mrf, .long mab, .long mbl, .ref ha, .ref r0, .ref mbr, .ref mbp, .ref mby, .int (nI bl), .int (nI ta), .int (nI tl), .int (nI tk), .int vv, .ref an, .ref va])), (to, .inl (y 0, 228, .inl ft))] [(mo, .inr (11, [.ref to, .ref ke, .ref ik, .ref mrf, .long mab, .long mbl, .ref ha, .ref r0, .ref mbr, .ref mbp, .ref mby, .int (nI bl), .int (nI ta), .int (nI tl), .int (nI tk), .int vv, .ref an, .ref va])), (mrf, .inl (y 0, 3, .inl frf))] [(to, .inl (y 0, 228, .inl ft))] [1, 0] [2] := ⟨rfl, rfl, rfl, rfl, rfl, by decide⟩
    refine kw_go_i hs24 hP hD hS hA (va_runV (As := [.int (-2)]) (rest := []) ⟨hx, hb, hml, hown, hts⟩ (gr_bad l D y mo to ke ik mrf ha r0 mbr mbp mby an va mab mbl bl ta tl tk vv frf (-2)  _) (cwV 1 hts gX11_of_X11_bad rfl rfl rfl (by decide +kernel) ⟨Nat.le_of_ble_eq_true rfl, Nat.le_of_ble_eq_true rfl⟩) (kw_PreV (ci := 11) (q0 := 1) hs24 hP hD hK hN rfl rfl) rfl rfl hl.1 rfl (lv_room (Nat.le_of_ble_eq_true rfl)) dX11_of_23 ⟨Nat.le_of_ble_eq_true rfl, Nat.le_of_ble_eq_true rfl⟩) (fun r25 u26 H locs hq hP hD hS => ?_)
    obtain rfl := hq
    have hP : va_P D vwCl [(to, .inl (y 0, 228, .inl ft)), (mo, .inr (11, [.ref to, .ref ke, .ref ik, .ref mrf, .long mab, .long mbl, .ref ha, .ref r0, .ref mbr, .ref mbp, .ref mby, .int (nI bl), .int (nI ta), .int (nI tl), .int (nI tk), .int vv, .ref an, .ref va])), (mrf, .inl (y 0, 3, .inl (upd frf 0 ((frf 0) + 1))))] H := hP
    have hD : va_D A [(to, .inl (y 0, 228, .inl ft)), (mo, .inr (11, [.ref to, .ref ke, .ref ik, .ref mrf, .long mab, .long mbl, .ref ha, .ref r0, .ref mbr, .ref mbp, .ref mby, .int (nI bl), .int (nI ta), .int (nI tl), .int (nI tk), .int vv, .ref an, .ref va])), (mrf, .inl (y 0, 3, .inl (upd frf 0 ((frf 0) + 1))))] := hD
    exact W.iret (v := (-2)) hx hb hr (fun tZ ht hW => ⟨⟨(-2), ((upd frf 0 ((frf 0) + 1))), rfl, by first | omega | (dsimp only; omega), by rw [ht]; exact hP.sub [1, 2, 0] rfl, hD.sub [1, 2, 0] (by decide) rfl⟩, hS.F ht⟩) hS.2.2 dX11_of_26

set_option maxHeartbeats 4000000 in
set_option maxRecDepth 100000 in
theorem gr_manyOnG228 (l : Launch) (D : va_G) (y : Nat → ClassId) (to : Nat) (ft : Nat → Int32) (fi : Nat) (gl : Nat) (mi : Nat) (no : Nat) (un : Nat) (kw : Nat) (k : Nat) (hk0_ : ft 0 = (nI fi)) (hk1_ : ft 1 = (nI gl)) (hk2_ : ft 2 = (nI mi)) (hk3_ : ft 3 = (nI no)) (hk4_ : ft 4 = (nI un)) (hkt : kr_t 228 ft) (hfi : fi ≤ 6) (hgl : gl ≤ 5) (hmi : mi ≤ 4) (hno : no ≤ 6) (hun : un ≤ 8) (hA1 : kw < 6) (hA2 : k < gl) (hA3 : ft (k + 11) = nI kw) : kw_Mi l yX11_manyOn wsX11_manyOn ({ frames := 1, cells := 0, slots := 0, locals := 60 }) D y [.ref to, .int (nI kw)] [(to, .inl (y 0, 228, .inl ft))] (fun (r : Int32) (u : Unit) => kr_pos r) (fun _ => [(to, .inl (y 0, 228, .inl ft))]) 0 0 := by
  refine kw_Mi.of (cc := cX11_manyOn) (maxL := 4) (ret := (some .int)) (by decide) rfl ?_
  intro pZ eZ s mZ beZ meZ cZ A hE
  obtain ⟨hx, hb, hr, hml, hts, hown, hlocks, hin, hA, hP, hD, hK, hN⟩ := hE
  have hS : va_S A s.heap s.heap [] := va_S.rf
  have hl := lv_entry ([.ref to, .int (nI kw)]) (n := 4) (Nat.le_of_ble_eq_true rfl)
  rw [lg_entry_eq]
  generalize (lg_sl ([.ref to, .int (nI kw)]) ++ List.replicate (4 - (lg_sl ([.ref to, .int (nI kw)])).length) Slot.unset).toArray = ls at hl ⊢
  have hl : lv_has ls 4 [(0, .ref to), (1, .int (nI kw))] := hl
  refine lv_iconst (v := 0) hx hb dX11_manyOn_0 (by decide) ?_
  refine lv_istore_n (lv' := [(2, .int 0), (0, .ref to), (1, .int (nI kw))]) hx hb dX11_manyOn_1 rfl hl (by decide) rfl (fun ls hl => ?_)
  refine lv_iconst (v := 0) hx hb dX11_manyOn_2 (by decide) ?_
  refine lv_istore_n (lv' := [(3, .int 0), (2, .int 0), (0, .ref to), (1, .int (nI kw))]) hx hb dX11_manyOn_3 rfl hl (by decide) rfl (fun ls hl => ?_)
  have lp18 : ∀ (fuj91 j91 : Nat) (x10 : Nat) (H : Heap) (locs : List Loc) (ls : Array Slot), j91 ≤ gl → gl - j91 < fuj91 → x10 ≤ j91 → (k < j91 → 1 ≤ x10) → va_P D vwCl [(to, .inl (y 0, 228, .inl ft))] H → va_D A [(to, .inl (y 0, 228, .inl ft))] → va_S A s.heap H locs → lv_has ls 4 [(3, .int (nI j91)), (2, .int (nI x10)), (0, .ref to), (1, .int (nI kw))] → W pZ l eZ ({ frames := 1, cells := 0, slots := 0, locals := 60 }) s mZ [.ref to, .int (nI kw)].toArray beZ meZ cZ H locs 0 0 (MQ beZ (va_Qi (fun (r : Int32) (u : Unit) => kr_pos r) (kw_B D (fun _ => [(to, .inl (y 0, 228, .inl ft))]) A) A) [.ref to, .int (nI kw)].toArray s 0 0 A) (F0 mZ 4 ls []) := by
    intro fuj91
    induction fuj91 with
    | zero => intro j91 x10 H locs ls hj9 hf9; exact absurd hf9 (Nat.not_lt_zero _)
    | succ fuj91 ihj91 =>
      intro j91 x10 H locs ls hj91 hfj91 hn_x10 hI0_j91 hP hD hS hl
      refine lv_iload_n hx hb dX11_manyOn_4 rfl (lv_at hl 0 rfl) ?_
      refine lv_aload_n hx hb dX11_manyOn_5 rfl (lv_at hl 2 rfl) ?_
      refine lv_iconst (v := 1) hx hb dX11_manyOn_6 (by decide) ?_
      refine va_iald hx hb hK hP 0 0 rfl rfl (by unfold vp_in; decide) dX11_manyOn_7 ?_
      rw [show ((1 : Int32)).toNatClampNeg = 1 from rfl]
      rw [show (ft 1) = (nI gl) from hk1_]
      refine lv_icmp_ge (tgt := 35) hx hb dX11_manyOn_8 (by decide) (fun h19 => ?_) (fun h20 => ?_)
      · skip
        have h19 : gl ≤ j91 := (nI_leI (a := gl) (b := j91) (by omega) (by omega)).mp h19
        refine lv_iload_n hx hb dX11_manyOn_35 rfl (lv_at hl 1 rfl) ?_
        exact W.iret (v := (nI x10)) hx hb hr (fun tZ ht hW => ⟨⟨(nI x10), (), rfl, kr_pos_of (by first | omega | (dsimp only; omega)) (by first | omega | (dsimp only; omega)), by rw [ht]; exact hP.sub [0] rfl, hD.sub [0] (by decide) rfl⟩, hS.F ht⟩) hS.2.2 dX11_manyOn_36
      · skip
        have h20 : ¬ gl ≤ j91 := fun q9 => h20 ((nI_leI (a := gl) (b := j91) (by omega) (by omega)).mpr q9)
        refine lv_iload_n hx hb dX11_manyOn_11 rfl (lv_at hl 1 rfl) ?_
        refine lv_aload_n hx hb dX11_manyOn_12 rfl (lv_at hl 2 rfl) ?_
        refine lv_bipush (v := 11) hx hb dX11_manyOn_13 (by decide) ?_
        refine lv_iload_n hx hb dX11_manyOn_15 rfl (lv_at hl 0 rfl) ?_
        refine lv_iadd hx hb dX11_manyOn_16 ?_
        rw [show 11 + (nI j91) = nI (j91 + 11) from (nI_add 11 j91).trans (congrArg nI (by omega))]
        refine va_iald hx hb hK hP 0 0 rfl rfl (vp_in_nI (by omega) (by decide)) dX11_manyOn_17 ?_
        rw [nI_clamp (n := (j91 + 11)) (by omega)]
        obtain ⟨w21, h22, h23⟩ := kr_at hkt (p := (j91 + 11)) (by omega) (by unfold kr_a; omega)
        rw [h23]
        refine lv_iload_n hx hb dX11_manyOn_18 rfl (lv_at hl 3 rfl) ?_
        refine lv_icmp_ne (tgt := 26) hx hb dX11_manyOn_19 (by decide) (fun h24 => ?_) (fun h25 => ?_)
        · skip
          have h24 : ¬ w21 = kw := fun q9 => h24 ((nI_eq (a := w21) (b := kw) (by omega) (by omega)).mpr q9)
          refine lv_iconst (v := 0) hx hb dX11_manyOn_26 (by decide) ?_
          refine lv_iadd hx hb dX11_manyOn_27 ?_
          rw [show (nI x10) + 0 = nI (x10) from nI_add x10 0]
          refine lv_istore_n (lv' := [(2, .int (nI x10)), (3, .int (nI j91)), (0, .ref to), (1, .int (nI kw))]) hx hb dX11_manyOn_28 rfl hl (by decide) rfl (fun ls hl => ?_)
          refine lv_iinc (v := (nI (j91 + 1))) (lv' := [(3, .int (nI (j91 + 1))), (2, .int (nI x10)), (0, .ref to), (1, .int (nI kw))]) hx hb dX11_manyOn_29 hl (k := 1) rfl (nI_1 j91) (by decide) rfl (fun ls hl => ?_)
          refine lv_goto (tgt := 4) hx hb dX11_manyOn_32 (by decide) ?_
          exact ihj91 (j91 + 1) x10 H locs ls (by omega) (by omega) (by omega) (by have hz9 := kr_mo hA3 h23 (by omega) (by omega) h24; omega) (hP.sub [0] rfl) (hD.sub [0] (by decide) rfl) hS (lv_sub hl [0, 1, 2, 3] rfl)
        · skip
          have h25 : w21 = kw := (nI_eq (a := w21) (b := kw) (by omega) (by omega)).mp h25
          refine lv_iconst (v := 1) hx hb dX11_manyOn_22 (by decide) ?_
          refine lv_goto (tgt := 27) hx hb dX11_manyOn_23 (by decide) ?_
          refine lv_iadd hx hb dX11_manyOn_27 ?_
          rw [show (nI x10) + 1 = nI (x10 + 1) from nI_add x10 1]
          refine lv_istore_n (lv' := [(2, .int (nI (x10 + 1))), (3, .int (nI j91)), (0, .ref to), (1, .int (nI kw))]) hx hb dX11_manyOn_28 rfl hl (by decide) rfl (fun ls hl => ?_)
          refine lv_iinc (v := (nI (j91 + 1))) (lv' := [(3, .int (nI (j91 + 1))), (2, .int (nI (x10 + 1))), (0, .ref to), (1, .int (nI kw))]) hx hb dX11_manyOn_29 hl (k := 1) rfl (nI_1 j91) (by decide) rfl (fun ls hl => ?_)
          refine lv_goto (tgt := 4) hx hb dX11_manyOn_32 (by decide) ?_
          exact ihj91 (j91 + 1) (x10 + 1) H locs ls (by omega) (by omega) (by omega) (by omega) (hP.sub [0] rfl) (hD.sub [0] (by decide) rfl) hS (lv_sub hl [0, 1, 2, 3] rfl)
  exact lp18 (gl + 1) 0 0 _ _ _ (by omega) (by omega) (by omega) (by omega) hP hD hS (lv_sub hl [0, 1, 2, 3] rfl)

set_option maxHeartbeats 4000000 in
set_option maxRecDepth 100000 in
theorem gr_manyOnG30 (l : Launch) (D : va_G) (y : Nat → ClassId) (to : Nat) (ft : Nat → Int32) (fi : Nat) (gl : Nat) (kw : Nat) (k : Nat) (hk0_ : ft 0 = (nI fi)) (hk1_ : ft 1 = (nI gl)) (hkt : kr_t 30 ft) (hfi : fi ≤ 6) (hgl : gl ≤ 5) (hA1 : kw < 6) (hA2 : k < gl) (hA3 : ft (k + 11) = nI kw) : kw_Mi l yX11_manyOn wsX11_manyOn ({ frames := 1, cells := 0, slots := 0, locals := 60 }) D y [.ref to, .int (nI kw)] [(to, .inl (y 0, 30, .inl ft))] (fun (r : Int32) (u : Unit) => kr_pos r) (fun _ => [(to, .inl (y 0, 30, .inl ft))]) 0 0 := by
  refine kw_Mi.of (cc := cX11_manyOn) (maxL := 4) (ret := (some .int)) (by decide) rfl ?_
  intro pZ eZ s mZ beZ meZ cZ A hE
  obtain ⟨hx, hb, hr, hml, hts, hown, hlocks, hin, hA, hP, hD, hK, hN⟩ := hE
  have hS : va_S A s.heap s.heap [] := va_S.rf
  have hl := lv_entry ([.ref to, .int (nI kw)]) (n := 4) (Nat.le_of_ble_eq_true rfl)
  rw [lg_entry_eq]
  generalize (lg_sl ([.ref to, .int (nI kw)]) ++ List.replicate (4 - (lg_sl ([.ref to, .int (nI kw)])).length) Slot.unset).toArray = ls at hl ⊢
  have hl : lv_has ls 4 [(0, .ref to), (1, .int (nI kw))] := hl
  refine lv_iconst (v := 0) hx hb dX11_manyOn_0 (by decide) ?_
  refine lv_istore_n (lv' := [(2, .int 0), (0, .ref to), (1, .int (nI kw))]) hx hb dX11_manyOn_1 rfl hl (by decide) rfl (fun ls hl => ?_)
  refine lv_iconst (v := 0) hx hb dX11_manyOn_2 (by decide) ?_
  refine lv_istore_n (lv' := [(3, .int 0), (2, .int 0), (0, .ref to), (1, .int (nI kw))]) hx hb dX11_manyOn_3 rfl hl (by decide) rfl (fun ls hl => ?_)
  have lp18 : ∀ (fuj91 j91 : Nat) (x10 : Nat) (H : Heap) (locs : List Loc) (ls : Array Slot), j91 ≤ gl → gl - j91 < fuj91 → x10 ≤ j91 → (k < j91 → 1 ≤ x10) → va_P D vwCl [(to, .inl (y 0, 30, .inl ft))] H → va_D A [(to, .inl (y 0, 30, .inl ft))] → va_S A s.heap H locs → lv_has ls 4 [(3, .int (nI j91)), (2, .int (nI x10)), (0, .ref to), (1, .int (nI kw))] → W pZ l eZ ({ frames := 1, cells := 0, slots := 0, locals := 60 }) s mZ [.ref to, .int (nI kw)].toArray beZ meZ cZ H locs 0 0 (MQ beZ (va_Qi (fun (r : Int32) (u : Unit) => kr_pos r) (kw_B D (fun _ => [(to, .inl (y 0, 30, .inl ft))]) A) A) [.ref to, .int (nI kw)].toArray s 0 0 A) (F0 mZ 4 ls []) := by
    intro fuj91
    induction fuj91 with
    | zero => intro j91 x10 H locs ls hj9 hf9; exact absurd hf9 (Nat.not_lt_zero _)
    | succ fuj91 ihj91 =>
      intro j91 x10 H locs ls hj91 hfj91 hn_x10 hI0_j91 hP hD hS hl
      refine lv_iload_n hx hb dX11_manyOn_4 rfl (lv_at hl 0 rfl) ?_
      refine lv_aload_n hx hb dX11_manyOn_5 rfl (lv_at hl 2 rfl) ?_
      refine lv_iconst (v := 1) hx hb dX11_manyOn_6 (by decide) ?_
      refine va_iald hx hb hK hP 0 0 rfl rfl (by unfold vp_in; decide) dX11_manyOn_7 ?_
      rw [show ((1 : Int32)).toNatClampNeg = 1 from rfl]
      rw [show (ft 1) = (nI gl) from hk1_]
      refine lv_icmp_ge (tgt := 35) hx hb dX11_manyOn_8 (by decide) (fun h19 => ?_) (fun h20 => ?_)
      · skip
        have h19 : gl ≤ j91 := (nI_leI (a := gl) (b := j91) (by omega) (by omega)).mp h19
        refine lv_iload_n hx hb dX11_manyOn_35 rfl (lv_at hl 1 rfl) ?_
        exact W.iret (v := (nI x10)) hx hb hr (fun tZ ht hW => ⟨⟨(nI x10), (), rfl, kr_pos_of (by first | omega | (dsimp only; omega)) (by first | omega | (dsimp only; omega)), by rw [ht]; exact hP.sub [0] rfl, hD.sub [0] (by decide) rfl⟩, hS.F ht⟩) hS.2.2 dX11_manyOn_36
      · skip
        have h20 : ¬ gl ≤ j91 := fun q9 => h20 ((nI_leI (a := gl) (b := j91) (by omega) (by omega)).mpr q9)
        refine lv_iload_n hx hb dX11_manyOn_11 rfl (lv_at hl 1 rfl) ?_
        refine lv_aload_n hx hb dX11_manyOn_12 rfl (lv_at hl 2 rfl) ?_
        refine lv_bipush (v := 11) hx hb dX11_manyOn_13 (by decide) ?_
        refine lv_iload_n hx hb dX11_manyOn_15 rfl (lv_at hl 0 rfl) ?_
        refine lv_iadd hx hb dX11_manyOn_16 ?_
        rw [show 11 + (nI j91) = nI (j91 + 11) from (nI_add 11 j91).trans (congrArg nI (by omega))]
        refine va_iald hx hb hK hP 0 0 rfl rfl (vp_in_nI (by omega) (by decide)) dX11_manyOn_17 ?_
        rw [nI_clamp (n := (j91 + 11)) (by omega)]
        obtain ⟨w21, h22, h23⟩ := kr_at hkt (p := (j91 + 11)) (by omega) (by unfold kr_a; omega)
        rw [h23]
        refine lv_iload_n hx hb dX11_manyOn_18 rfl (lv_at hl 3 rfl) ?_
        refine lv_icmp_ne (tgt := 26) hx hb dX11_manyOn_19 (by decide) (fun h24 => ?_) (fun h25 => ?_)
        · skip
          have h24 : ¬ w21 = kw := fun q9 => h24 ((nI_eq (a := w21) (b := kw) (by omega) (by omega)).mpr q9)
          refine lv_iconst (v := 0) hx hb dX11_manyOn_26 (by decide) ?_
          refine lv_iadd hx hb dX11_manyOn_27 ?_
          rw [show (nI x10) + 0 = nI (x10) from nI_add x10 0]
          refine lv_istore_n (lv' := [(2, .int (nI x10)), (3, .int (nI j91)), (0, .ref to), (1, .int (nI kw))]) hx hb dX11_manyOn_28 rfl hl (by decide) rfl (fun ls hl => ?_)
          refine lv_iinc (v := (nI (j91 + 1))) (lv' := [(3, .int (nI (j91 + 1))), (2, .int (nI x10)), (0, .ref to), (1, .int (nI kw))]) hx hb dX11_manyOn_29 hl (k := 1) rfl (nI_1 j91) (by decide) rfl (fun ls hl => ?_)
          refine lv_goto (tgt := 4) hx hb dX11_manyOn_32 (by decide) ?_
          exact ihj91 (j91 + 1) x10 H locs ls (by omega) (by omega) (by omega) (by have hz9 := kr_mo hA3 h23 (by omega) (by omega) h24; omega) (hP.sub [0] rfl) (hD.sub [0] (by decide) rfl) hS (lv_sub hl [0, 1, 2, 3] rfl)
        · skip
          have h25 : w21 = kw := (nI_eq (a := w21) (b := kw) (by omega) (by omega)).mp h25
          refine lv_iconst (v := 1) hx hb dX11_manyOn_22 (by decide) ?_
          refine lv_goto (tgt := 27) hx hb dX11_manyOn_23 (by decide) ?_
          refine lv_iadd hx hb dX11_manyOn_27 ?_
          rw [show (nI x10) + 1 = nI (x10 + 1) from nI_add x10 1]
          refine lv_istore_n (lv' := [(2, .int (nI (x10 + 1))), (3, .int (nI j91)), (0, .ref to), (1, .int (nI kw))]) hx hb dX11_manyOn_28 rfl hl (by decide) rfl (fun ls hl => ?_)
          refine lv_iinc (v := (nI (j91 + 1))) (lv' := [(3, .int (nI (j91 + 1))), (2, .int (nI (x10 + 1))), (0, .ref to), (1, .int (nI kw))]) hx hb dX11_manyOn_29 hl (k := 1) rfl (nI_1 j91) (by decide) rfl (fun ls hl => ?_)
          refine lv_goto (tgt := 4) hx hb dX11_manyOn_32 (by decide) ?_
          exact ihj91 (j91 + 1) (x10 + 1) H locs ls (by omega) (by omega) (by omega) (by omega) (hP.sub [0] rfl) (hD.sub [0] (by decide) rfl) hS (lv_sub hl [0, 1, 2, 3] rfl)
  exact lp18 (gl + 1) 0 0 _ _ _ (by omega) (by omega) (by omega) (by omega) hP hD hS (lv_sub hl [0, 1, 2, 3] rfl)

set_option maxHeartbeats 4000000 in
set_option maxRecDepth 100000 in
theorem gr_getsOne228 (l : Launch) (D : va_G) (y : Nat → ClassId) (to : Nat) (ft : Nat → Int32) (fi : Nat) (gl : Nat) (mi : Nat) (no : Nat) (un : Nat) (k : Nat) (hk0_ : ft 0 = (nI fi)) (hk1_ : ft 1 = (nI gl)) (hk2_ : ft 2 = (nI mi)) (hk3_ : ft 3 = (nI no)) (hk4_ : ft 4 = (nI un)) (hkt : kr_t 228 ft) (hfi : fi ≤ 6) (hgl : gl ≤ 5) (hmi : mi ≤ 4) (hno : no ≤ 6) (hun : un ≤ 8) (hA1 : k < gl) : kw_Mi l yX11_getsOne wsX11_getsOne ({ frames := 5, cells := 0, slots := 0, locals := 151 }) D y [.ref to, .int (nI k)] [(to, .inl (y 0, 228, .inl ft))] (fun (r : Int32) (u : Unit) => True) (fun _ => [(to, .inl (y 0, 228, .inl ft))]) 0 0 := by
  refine kw_Mi.of (cc := cX11_getsOne) (maxL := 2) (ret := (some .int)) (by decide) rfl ?_
  intro pZ eZ s mZ beZ meZ cZ A hE
  obtain ⟨hx, hb, hr, hml, hts, hown, hlocks, hin, hA, hP, hD, hK, hN⟩ := hE
  have hS : va_S A s.heap s.heap [] := va_S.rf
  have hl := lv_entry ([.ref to, .int (nI k)]) (n := 2) (Nat.le_of_ble_eq_true rfl)
  rw [lg_entry_eq]
  generalize (lg_sl ([.ref to, .int (nI k)]) ++ List.replicate (2 - (lg_sl ([.ref to, .int (nI k)])).length) Slot.unset).toArray = ls at hl ⊢
  have hl : lv_has ls 2 [(0, .ref to), (1, .int (nI k))] := hl
  refine lv_aload_n hx hb dX11_getsOne_0 rfl (lv_at hl 0 rfl) ?_
  refine lv_aload_n hx hb dX11_getsOne_1 rfl (lv_at hl 0 rfl) ?_
  refine lv_bipush (v := 11) hx hb dX11_getsOne_2 (by decide) ?_
  refine lv_iload_n hx hb dX11_getsOne_4 rfl (lv_at hl 1 rfl) ?_
  refine lv_iadd hx hb dX11_getsOne_5 ?_
  rw [show 11 + (nI k) = nI (k + 11) from (nI_add 11 k).trans (congrArg nI (by omega))]
  refine va_iald hx hb hK hP 0 0 rfl rfl (vp_in_nI (by omega) (by decide)) dX11_getsOne_6 ?_
  rw [nI_clamp (n := (k + 11)) (by omega)]
  obtain ⟨w1, h2, h3⟩ := kr_at hkt (p := (k + 11)) (by omega) (by unfold kr_a; omega)
  rw [h3]
  refine lv_aload_n hx hb dX11_getsOne_7 rfl (lv_at hl 0 rfl) ?_
  refine lv_bipush (v := 21) hx hb dX11_getsOne_8 (by decide) ?_
  refine va_iald hx hb hK hP 0 0 rfl rfl (by unfold vp_in; decide) dX11_getsOne_10 ?_
  rw [show ((21 : Int32)).toNatClampNeg = 21 from rfl]
  have hs4 : kw_Split [(to, .inl (y 0, 228, .inl ft))] [(to, .inl (y 0, 228, .inl ft))] [] [0] [] := ⟨rfl, rfl, rfl, rfl, rfl, by decide⟩
  refine kw_go_i hs4 hP hD hS hA (va_runS (As := [.ref to, .int (nI w1), .int (ft 21)]) (rest := []) ⟨hx, hb, hml, hown, hts⟩ (gr_seenOn228 l D y to ft fi gl mi no un w1 (ft 21) hk0_ hk1_ hk2_ hk3_ hk4_ hkt hfi hgl hmi hno hun (by omega) _) (va_cwS 3 hts gX11_getsOne_X11_seenOn rfl rfl rfl (by decide +kernel) ⟨Nat.le_of_ble_eq_true rfl, Nat.le_of_ble_eq_true rfl⟩) (kw_PreS hs4 hP hD hK hN) rfl rfl hl.1 rfl (lv_room (Nat.le_of_ble_eq_true rfl)) dX11_getsOne_11 ⟨Nat.le_of_ble_eq_true rfl, Nat.le_of_ble_eq_true rfl⟩) (fun r5 u6 H locs hq hP hD hS => ?_)
  have hP : va_P D vwCl [(to, .inl (y 0, 228, .inl ft))] H := hP
  have hD : va_D A [(to, .inl (y 0, 228, .inl ft))] := hD
  refine lv_aload_n hx hb dX11_getsOne_14 rfl (lv_at hl 0 rfl) ?_
  refine lv_aload_n hx hb dX11_getsOne_15 rfl (lv_at hl 0 rfl) ?_
  refine lv_bipush (v := 11) hx hb dX11_getsOne_16 (by decide) ?_
  refine lv_iload_n hx hb dX11_getsOne_18 rfl (lv_at hl 1 rfl) ?_
  refine lv_iadd hx hb dX11_getsOne_19 ?_
  rw [show 11 + (nI k) = nI (k + 11) from (nI_add 11 k).trans (congrArg nI (by omega))]
  refine va_iald hx hb hK hP 0 0 rfl rfl (vp_in_nI (by omega) (by decide)) dX11_getsOne_20 ?_
  rw [nI_clamp (n := (k + 11)) (by omega)]
  rw [h3]
  have hs7 : kw_Split [(to, .inl (y 0, 228, .inl ft))] [(to, .inl (y 0, 228, .inl ft))] [] [0] [] := ⟨rfl, rfl, rfl, rfl, rfl, by decide⟩
  refine kw_go_i hs7 hP hD hS hA (va_runS (As := [.ref to, .int (nI w1)]) (rest := [.int r5]) ⟨hx, hb, hml, hown, hts⟩ (gr_manyOnG228 l D y to ft fi gl mi no un w1 k hk0_ hk1_ hk2_ hk3_ hk4_ hkt hfi hgl hmi hno hun (by omega) hA1 h3 _) (va_cwS 2 hts gX11_getsOne_X11_manyOn rfl rfl rfl (by decide +kernel) ⟨Nat.le_of_ble_eq_true rfl, Nat.le_of_ble_eq_true rfl⟩) (kw_PreS hs7 hP hD hK hN) rfl rfl hl.1 rfl (lv_room (Nat.le_of_ble_eq_true rfl)) dX11_getsOne_21 ⟨Nat.le_of_ble_eq_true rfl, Nat.le_of_ble_eq_true rfl⟩) (fun r8 u9 H locs hq hP hD hS => ?_)
  have h10 := hq
  have hP : va_P D vwCl [(to, .inl (y 0, 228, .inl ft))] H := hP
  have hD : va_D A [(to, .inl (y 0, 228, .inl ft))] := hD
  refine lv_idiv hx hb dX11_getsOne_24 (h10) ?_
  exact W.iret (v := (r5 / r8)) hx hb hr (fun tZ ht hW => ⟨⟨(r5 / r8), (), rfl, trivial, by rw [ht]; exact hP.sub [0] rfl, hD.sub [0] (by decide) rfl⟩, hS.F ht⟩) hS.2.2 dX11_getsOne_25

set_option maxHeartbeats 4000000 in
set_option maxRecDepth 100000 in
theorem gr_getsOne30 (l : Launch) (D : va_G) (y : Nat → ClassId) (to : Nat) (ft : Nat → Int32) (fi : Nat) (gl : Nat) (k : Nat) (hk0_ : ft 0 = (nI fi)) (hk1_ : ft 1 = (nI gl)) (hkt : kr_t 30 ft) (hfi : fi ≤ 6) (hgl : gl ≤ 5) (hA1 : k < gl) : kw_Mi l yX11_getsOne wsX11_getsOne ({ frames := 5, cells := 0, slots := 0, locals := 151 }) D y [.ref to, .int (nI k)] [(to, .inl (y 0, 30, .inl ft))] (fun (r : Int32) (u : Unit) => True) (fun _ => [(to, .inl (y 0, 30, .inl ft))]) 0 0 := by
  refine kw_Mi.of (cc := cX11_getsOne) (maxL := 2) (ret := (some .int)) (by decide) rfl ?_
  intro pZ eZ s mZ beZ meZ cZ A hE
  obtain ⟨hx, hb, hr, hml, hts, hown, hlocks, hin, hA, hP, hD, hK, hN⟩ := hE
  have hS : va_S A s.heap s.heap [] := va_S.rf
  have hl := lv_entry ([.ref to, .int (nI k)]) (n := 2) (Nat.le_of_ble_eq_true rfl)
  rw [lg_entry_eq]
  generalize (lg_sl ([.ref to, .int (nI k)]) ++ List.replicate (2 - (lg_sl ([.ref to, .int (nI k)])).length) Slot.unset).toArray = ls at hl ⊢
  have hl : lv_has ls 2 [(0, .ref to), (1, .int (nI k))] := hl
  refine lv_aload_n hx hb dX11_getsOne_0 rfl (lv_at hl 0 rfl) ?_
  refine lv_aload_n hx hb dX11_getsOne_1 rfl (lv_at hl 0 rfl) ?_
  refine lv_bipush (v := 11) hx hb dX11_getsOne_2 (by decide) ?_
  refine lv_iload_n hx hb dX11_getsOne_4 rfl (lv_at hl 1 rfl) ?_
  refine lv_iadd hx hb dX11_getsOne_5 ?_
  rw [show 11 + (nI k) = nI (k + 11) from (nI_add 11 k).trans (congrArg nI (by omega))]
  refine va_iald hx hb hK hP 0 0 rfl rfl (vp_in_nI (by omega) (by decide)) dX11_getsOne_6 ?_
  rw [nI_clamp (n := (k + 11)) (by omega)]
  obtain ⟨w1, h2, h3⟩ := kr_at hkt (p := (k + 11)) (by omega) (by unfold kr_a; omega)
  rw [h3]
  refine lv_aload_n hx hb dX11_getsOne_7 rfl (lv_at hl 0 rfl) ?_
  refine lv_bipush (v := 21) hx hb dX11_getsOne_8 (by decide) ?_
  refine va_iald hx hb hK hP 0 0 rfl rfl (by unfold vp_in; decide) dX11_getsOne_10 ?_
  rw [show ((21 : Int32)).toNatClampNeg = 21 from rfl]
  have hs4 : kw_Split [(to, .inl (y 0, 30, .inl ft))] [(to, .inl (y 0, 30, .inl ft))] [] [0] [] := ⟨rfl, rfl, rfl, rfl, rfl, by decide⟩
  refine kw_go_i hs4 hP hD hS hA (va_runS (As := [.ref to, .int (nI w1), .int (ft 21)]) (rest := []) ⟨hx, hb, hml, hown, hts⟩ (gr_seenOn30 l D y to ft fi gl w1 (ft 21) hk0_ hk1_ hkt hfi hgl (by omega) _) (va_cwS 3 hts gX11_getsOne_X11_seenOn rfl rfl rfl (by decide +kernel) ⟨Nat.le_of_ble_eq_true rfl, Nat.le_of_ble_eq_true rfl⟩) (kw_PreS hs4 hP hD hK hN) rfl rfl hl.1 rfl (lv_room (Nat.le_of_ble_eq_true rfl)) dX11_getsOne_11 ⟨Nat.le_of_ble_eq_true rfl, Nat.le_of_ble_eq_true rfl⟩) (fun r5 u6 H locs hq hP hD hS => ?_)
  have hP : va_P D vwCl [(to, .inl (y 0, 30, .inl ft))] H := hP
  have hD : va_D A [(to, .inl (y 0, 30, .inl ft))] := hD
  refine lv_aload_n hx hb dX11_getsOne_14 rfl (lv_at hl 0 rfl) ?_
  refine lv_aload_n hx hb dX11_getsOne_15 rfl (lv_at hl 0 rfl) ?_
  refine lv_bipush (v := 11) hx hb dX11_getsOne_16 (by decide) ?_
  refine lv_iload_n hx hb dX11_getsOne_18 rfl (lv_at hl 1 rfl) ?_
  refine lv_iadd hx hb dX11_getsOne_19 ?_
  rw [show 11 + (nI k) = nI (k + 11) from (nI_add 11 k).trans (congrArg nI (by omega))]
  refine va_iald hx hb hK hP 0 0 rfl rfl (vp_in_nI (by omega) (by decide)) dX11_getsOne_20 ?_
  rw [nI_clamp (n := (k + 11)) (by omega)]
  rw [h3]
  have hs7 : kw_Split [(to, .inl (y 0, 30, .inl ft))] [(to, .inl (y 0, 30, .inl ft))] [] [0] [] := ⟨rfl, rfl, rfl, rfl, rfl, by decide⟩
  refine kw_go_i hs7 hP hD hS hA (va_runS (As := [.ref to, .int (nI w1)]) (rest := [.int r5]) ⟨hx, hb, hml, hown, hts⟩ (gr_manyOnG30 l D y to ft fi gl w1 k hk0_ hk1_ hkt hfi hgl (by omega) hA1 h3 _) (va_cwS 2 hts gX11_getsOne_X11_manyOn rfl rfl rfl (by decide +kernel) ⟨Nat.le_of_ble_eq_true rfl, Nat.le_of_ble_eq_true rfl⟩) (kw_PreS hs7 hP hD hK hN) rfl rfl hl.1 rfl (lv_room (Nat.le_of_ble_eq_true rfl)) dX11_getsOne_21 ⟨Nat.le_of_ble_eq_true rfl, Nat.le_of_ble_eq_true rfl⟩) (fun r8 u9 H locs hq hP hD hS => ?_)
  have h10 := hq
  have hP : va_P D vwCl [(to, .inl (y 0, 30, .inl ft))] H := hP
  have hD : va_D A [(to, .inl (y 0, 30, .inl ft))] := hD
  refine lv_idiv hx hb dX11_getsOne_24 (h10) ?_
  exact W.iret (v := (r5 / r8)) hx hb hr (fun tZ ht hW => ⟨⟨(r5 / r8), (), rfl, trivial, by rw [ht]; exact hP.sub [0] rfl, hD.sub [0] (by decide) rfl⟩, hS.F ht⟩) hS.2.2 dX11_getsOne_25

set_option maxHeartbeats 4000000 in
set_option maxRecDepth 100000 in
theorem gq_about (l : Launch) (D : va_G) (y : Nat → ClassId) (mo : Nat) (to : Nat) (ke : Nat) (ik : Nat) (mrf : Nat) (ha : Nat) (r0 : Nat) (mbr : Nat) (mbp : Nat) (mby : Nat) (an : Nat) (va : Nat) (mab : Int64) (mbl : Int64) (bl : Nat) (ta : Nat) (tl : Nat) (tk : Nat) (vv : Int32) (frf : Nat → Int32) (ft : Nat → Int32) (fi : Nat) (gl : Nat) (mi : Nat) (no : Nat) (un : Nat) (x : Int32) (x2 : Int32) (hk0_ : ft 0 = (nI fi)) (hk1_ : ft 1 = (nI gl)) (hk2_ : ft 2 = (nI mi)) (hk3_ : ft 3 = (nI no)) (hk4_ : ft 4 = (nI un)) (hkt : kr_t 228 ft) (hfi : fi ≤ 6) (hgl : gl ≤ 5) (hmi : mi ≤ 4) (hno : no ≤ 6) (hun : un ≤ 8) (hgf : (gl = 0 ∨ 0 < fi)) : kw_Mi l yX11_about wsX11_about ({ frames := 6, cells := 0, slots := 0, locals := 172 }) D y [.ref mo, .int x, .int x2] [(mo, .inr (11, [.ref to, .ref ke, .ref ik, .ref mrf, .long mab, .long mbl, .ref ha, .ref r0, .ref mbr, .ref mbp, .ref mby, .int (nI bl), .int (nI ta), .int (nI tl), .int (nI tk), .int vv, .ref an, .ref va])), (mrf, .inl (y 0, 3, .inl frf)), (to, .inl (y 0, 228, .inl ft))] (fun (r : Int32) (u : (Nat → Int32)) => (gl = 0 ∨ 0 < fi)) (fun u => [(mo, .inr (11, [.ref to, .ref ke, .ref ik, .ref mrf, .long mab, .long mbl, .ref ha, .ref r0, .ref mbr, .ref mbp, .ref mby, .int (nI bl), .int (nI ta), .int (nI tl), .int (nI tk), .int vv, .ref an, .ref va])), (mrf, .inl (y 0, 3, .inl u)), (to, .inl (y 0, 228, .inl ft))]) 0 0 := by
  refine kw_Mi.of (cc := cX11_about) (maxL := 3) (ret := (some .int)) (by decide) rfl ?_
  intro pZ eZ s mZ beZ meZ cZ A hE
  obtain ⟨hx, hb, hr, hml, hts, hown, hlocks, hin, hA, hP, hD, hK, hN⟩ := hE
  have hS : va_S A s.heap s.heap [] := va_S.rf
  have hl := lv_entry ([.ref mo, .int x, .int x2]) (n := 3) (Nat.le_of_ble_eq_true rfl)
  rw [lg_entry_eq]
  generalize (lg_sl ([.ref mo, .int x, .int x2]) ++ List.replicate (3 - (lg_sl ([.ref mo, .int x, .int x2])).length) Slot.unset).toArray = ls at hl ⊢
  have hl : lv_has ls 3 [(0, .ref mo), (1, .int x), (2, .int x2)] := hl
  have fw1 := hts (.constantLong RX11 136 (2)) (List.mem_of_getElem? (i := 1) rfl)
  have fw2 := hts (.fieldLink RX11 7 "GleanDuskModel" "told" "[I") (List.mem_of_getElem? (i := 2) rfl)
  have iw11 : ∀ w ∈ wsX110, w ∈ wsX11_about := fun _ h => List.mem_cons_of_mem _ (List.mem_append_right _ h)
  refine lv_aload_n hx hb dX11_about_0 rfl (lv_at hl 0 rfl) ?_
  refine lv_iload_n hx hb dX11_about_1 rfl (lv_at hl 1 rfl) ?_
  have hs1 : kw_Split [(mo, .inr (11, [.ref to, .ref ke, .ref ik, .ref mrf, .long mab, .long mbl, .ref ha, .ref r0, .ref mbr, .ref mbp, .ref mby, .int (nI bl), .int (nI ta), .int (nI tl), .int (nI tk), .int vv, .ref an, .ref va])), (mrf, .inl (y 0, 3, .inl frf)), (to, .inl (y 0, 228, .inl ft))] [(mo, .inr (11, [.ref to, .ref ke, .ref ik, .ref mrf, .long mab, .long mbl, .ref ha, .ref r0, .ref mbr, .ref mbp, .ref mby, .int (nI bl), .int (nI ta), .int (nI tl), .int (nI tk), .int vv, .ref an, .ref va])), (to, .inl (y 0, 228, .inl ft))] [(mrf, .inl (y 0, 3, .inl frf))] [0, 2] [1] := ⟨rfl, rfl, rfl, rfl, rfl, by decide⟩
  refine kw_go_i hs1 hP hD hS hA (va_runV (As := [.int x]) (rest := []) ⟨hx, hb, hml, hown, hts⟩ (gr_isGleaner l D y mo to ke ik mrf ha r0 mbr mbp mby an va mab mbl bl ta tl tk vv ft fi gl mi no un x hk0_ hk1_ hk2_ hk3_ hk4_ hkt hfi hgl hmi hno hun _) (cwV 1 hts gX11_about_X11_isGleaner rfl rfl rfl (by decide +kernel) ⟨Nat.le_of_ble_eq_true rfl, Nat.le_of_ble_eq_true rfl⟩) (kw_PreV (ci := 11) (q0 := 0) hs1 hP hD hK hN rfl rfl) rfl rfl hl.1 rfl (lv_room (Nat.le_of_ble_eq_true rfl)) dX11_about_2 ⟨Nat.le_of_ble_eq_true rfl, Nat.le_of_ble_eq_true rfl⟩) (fun r2 u3 H locs hq hP hD hS => ?_)
  rcases hq with ⟨j4, h5, rfl, rfl⟩ | ⟨h6, rfl⟩
  · skip
    have hP : va_P D vwCl [(mrf, .inl (y 0, 3, .inl frf)), (mo, .inr (11, [.ref to, .ref ke, .ref ik, .ref mrf, .long mab, .long mbl, .ref ha, .ref r0, .ref mbr, .ref mbp, .ref mby, .int (nI bl), .int (nI ta), .int (nI tl), .int (nI tk), .int vv, .ref an, .ref va])), (to, .inl (y 0, 228, .inl ft))] H := hP
    have hD : va_D A [(mrf, .inl (y 0, 3, .inl frf)), (mo, .inr (11, [.ref to, .ref ke, .ref ik, .ref mrf, .long mab, .long mbl, .ref ha, .ref r0, .ref mbr, .ref mbp, .ref mby, .int (nI bl), .int (nI ta), .int (nI tl), .int (nI tk), .int vv, .ref an, .ref va])), (to, .inl (y 0, 228, .inl ft))] := hD
    refine lv_if_eq (tgt := 20) hx hb dX11_about_5 (by decide) (fun h9 => absurd h9 (by decide)) (fun _ => ?_)
    refine lv_iload_n hx hb dX11_about_8 rfl (lv_at hl 2 rfl) ?_
    refine lv_i2l (v := x2.toInt64) hx hb dX11_about_9 (rfl) ?_
    refine lv_lconst (v := 0) hx hb dX11_about_10 (by decide) ?_
    refine lv_ldc2 (v := 2) hx hb hown fw1 dX11_about_11 ?_
    have hs7 : kw_Split [(mrf, .inl (y 0, 3, .inl frf)), (mo, .inr (11, [.ref to, .ref ke, .ref ik, .ref mrf, .long mab, .long mbl, .ref ha, .ref r0, .ref mbr, .ref mbp, .ref mby, .int (nI bl), .int (nI ta), .int (nI tl), .int (nI tk), .int vv, .ref an, .ref va])), (to, .inl (y 0, 228, .inl ft))] [] [(mrf, .inl (y 0, 3, .inl frf)), (mo, .inr (11, [.ref to, .ref ke, .ref ik, .ref mrf, .long mab, .long mbl, .ref ha, .ref r0, .ref mbr, .ref mbp, .ref mby, .int (nI bl), .int (nI ta), .int (nI tl), .int (nI tk), .int vv, .ref an, .ref va])), (to, .inl (y 0, 228, .inl ft))] [] [0, 1, 2] := ⟨rfl, rfl, rfl, rfl, rfl, by decide⟩
    refine kw_go_i hs7 hP hD hS hA (va_runS (As := [.long x2.toInt64, .long 0, .long 2]) (rest := []) ⟨hx, hb, hml, hown, hts⟩ (gr_in l D y x2 0 2 (by omega) (by omega) _) (va_cwS 3 hts gX11_about_X11_in rfl rfl rfl (by decide +kernel) ⟨Nat.le_of_ble_eq_true rfl, Nat.le_of_ble_eq_true rfl⟩) (kw_PreS hs7 hP hD hK hN) rfl rfl hl.1 rfl (lv_room (Nat.le_of_ble_eq_true rfl)) dX11_about_14 ⟨Nat.le_of_ble_eq_true rfl, Nat.le_of_ble_eq_true rfl⟩) (fun r8 u9 H locs hq hP hD hS => ?_)
    rcases hq with ⟨j10, h11, h12, rfl, rfl⟩ | ⟨h13, rfl⟩
    · skip
      have hP : va_P D vwCl [(mrf, .inl (y 0, 3, .inl frf)), (mo, .inr (11, [.ref to, .ref ke, .ref ik, .ref mrf, .long mab, .long mbl, .ref ha, .ref r0, .ref mbr, .ref mbp, .ref mby, .int (nI bl), .int (nI ta), .int (nI tl), .int (nI tk), .int vv, .ref an, .ref va])), (to, .inl (y 0, 228, .inl ft))] H := hP
      have hD : va_D A [(mrf, .inl (y 0, 3, .inl frf)), (mo, .inr (11, [.ref to, .ref ke, .ref ik, .ref mrf, .long mab, .long mbl, .ref ha, .ref r0, .ref mbr, .ref mbp, .ref mby, .int (nI bl), .int (nI ta), .int (nI tl), .int (nI tk), .int vv, .ref an, .ref va])), (to, .inl (y 0, 228, .inl ft))] := hD
      refine lv_if_ne (tgt := 27) hx hb dX11_about_17 (by decide) (fun _ => ?_) (fun h9 => absurd h9 (by decide))
      refine lv_iload_n hx hb dX11_about_27 rfl (lv_at hl 2 rfl) ?_
      refine lv_if_ne (tgt := 43) hx hb dX11_about_28 (by decide) (fun h14 => ?_) (fun h15 => ?_)
      · skip
        have h14 : ¬ j10 = 0 := fun q9 => h14 ((nI_eq (a := j10) (b := 0) (by omega) (by omega)).mpr q9)
        refine lv_iload_n hx hb dX11_about_43 rfl (lv_at hl 2 rfl) ?_
        refine lv_iconst (v := 1) hx hb dX11_about_44 (by decide) ?_
        refine lv_icmp_ne (tgt := 60) hx hb dX11_about_45 (by decide) (fun h16 => ?_) (fun h17 => ?_)
        · skip
          have h16 : ¬ j10 = 1 := fun q9 => h16 ((nI_eq (a := j10) (b := 1) (by omega) (by omega)).mpr q9)
          refine lv_aload_n hx hb dX11_about_60 rfl (lv_at hl 0 rfl) ?_
          refine va_get (D := D) (ci := 11) (v := .ref to) (C := RX11) (T := TX11) (N := 18) hx hb hts iw11 hown hK hP 1 rfl rfl 0 (by decide) fw2 (fun _ h9 => h9) rfl dX11_about_61 ?_
          refine lv_iload_n hx hb dX11_about_64 rfl (lv_at hl 1 rfl) ?_
          have hs18 : kw_Split [(mrf, .inl (y 0, 3, .inl frf)), (mo, .inr (11, [.ref to, .ref ke, .ref ik, .ref mrf, .long mab, .long mbl, .ref ha, .ref r0, .ref mbr, .ref mbp, .ref mby, .int (nI bl), .int (nI ta), .int (nI tl), .int (nI tk), .int vv, .ref an, .ref va])), (to, .inl (y 0, 228, .inl ft))] [(to, .inl (y 0, 228, .inl ft))] [(mrf, .inl (y 0, 3, .inl frf)), (mo, .inr (11, [.ref to, .ref ke, .ref ik, .ref mrf, .long mab, .long mbl, .ref ha, .ref r0, .ref mbr, .ref mbp, .ref mby, .int (nI bl), .int (nI ta), .int (nI tl), .int (nI tk), .int vv, .ref an, .ref va]))] [2] [0, 1] := ⟨rfl, rfl, rfl, rfl, rfl, by decide⟩
          refine kw_go_i hs18 hP hD hS hA (va_runS (As := [.ref to, .int (nI j4)]) (rest := []) ⟨hx, hb, hml, hown, hts⟩ (gr_getsOne228 l D y to ft fi gl mi no un j4 hk0_ hk1_ hk2_ hk3_ hk4_ hkt hfi hgl hmi hno hun h5 _) (va_cwS 2 hts gX11_about_X11_getsOne rfl rfl rfl (by decide +kernel) ⟨Nat.le_of_ble_eq_true rfl, Nat.le_of_ble_eq_true rfl⟩) (kw_PreS hs18 hP hD hK hN) rfl rfl hl.1 rfl (lv_room (Nat.le_of_ble_eq_true rfl)) dX11_about_65 ⟨Nat.le_of_ble_eq_true rfl, Nat.le_of_ble_eq_true rfl⟩) (fun r19 u20 H locs hq hP hD hS => ?_)
          have hP : va_P D vwCl [(mrf, .inl (y 0, 3, .inl frf)), (mo, .inr (11, [.ref to, .ref ke, .ref ik, .ref mrf, .long mab, .long mbl, .ref ha, .ref r0, .ref mbr, .ref mbp, .ref mby, .int (nI bl), .int (nI ta), .int (nI tl), .int (nI tk), .int vv, .ref an, .ref va])), (to, .inl (y 0, 228, .inl ft))] H := hP
          have hD : va_D A [(mrf, .inl (y 0, 3, .inl frf)), (mo, .inr (11, [.ref to, .ref ke, .ref ik, .ref mrf, .long mab, .long mbl, .ref ha, .ref r0, .ref mbr, .ref mbp, .ref mby, .int (nI bl), .int (nI ta), .int (nI tl), .int (nI tk), .int vv, .ref an, .ref va])), (to, .inl (y 0, 228, .inl ft))] := hD
          exact W.iret (v := r19) hx hb hr (fun tZ ht hW => ⟨⟨r19, (frf), rfl, by first | omega | (dsimp only; omega), by rw [ht]; exact hP.sub [1, 0, 2] rfl, hD.sub [1, 0, 2] (by decide) rfl⟩, hS.F ht⟩) hS.2.2 dX11_about_68
        · skip
          have h17 : j10 = 1 := (nI_eq (a := j10) (b := 1) (by omega) (by omega)).mp h17
          refine lv_aload_n hx hb dX11_about_48 rfl (lv_at hl 0 rfl) ?_
          refine va_get (D := D) (ci := 11) (v := .ref to) (C := RX11) (T := TX11) (N := 18) hx hb hts iw11 hown hK hP 1 rfl rfl 0 (by decide) fw2 (fun _ h9 => h9) rfl dX11_about_49 ?_
          refine lv_bipush (v := 16) hx hb dX11_about_52 (by decide) ?_
          refine lv_iload_n hx hb dX11_about_54 rfl (lv_at hl 1 rfl) ?_
          refine lv_iadd hx hb dX11_about_55 ?_
          rw [show 16 + (nI j4) = nI (j4 + 16) from (nI_add 16 j4).trans (congrArg nI (by omega))]
          refine va_iald hx hb hK hP 2 0 rfl rfl (vp_in_nI (by omega) (by decide)) dX11_about_56 ?_
          rw [nI_clamp (n := (j4 + 16)) (by omega)]
          refine lv_goto (tgt := 68) hx hb dX11_about_57 (by decide) ?_
          exact W.iret (v := (ft (j4 + 16))) hx hb hr (fun tZ ht hW => ⟨⟨(ft (j4 + 16)), (frf), rfl, by first | omega | (dsimp only; omega), by rw [ht]; exact hP.sub [1, 0, 2] rfl, hD.sub [1, 0, 2] (by decide) rfl⟩, hS.F ht⟩) hS.2.2 dX11_about_68
      · skip
        have h15 : j10 = 0 := (nI_eq (a := j10) (b := 0) (by omega) (by omega)).mp h15
        refine lv_aload_n hx hb dX11_about_31 rfl (lv_at hl 0 rfl) ?_
        refine va_get (D := D) (ci := 11) (v := .ref to) (C := RX11) (T := TX11) (N := 18) hx hb hts iw11 hown hK hP 1 rfl rfl 0 (by decide) fw2 (fun _ h9 => h9) rfl dX11_about_32 ?_
        refine lv_bipush (v := 11) hx hb dX11_about_35 (by decide) ?_
        refine lv_iload_n hx hb dX11_about_37 rfl (lv_at hl 1 rfl) ?_
        refine lv_iadd hx hb dX11_about_38 ?_
        rw [show 11 + (nI j4) = nI (j4 + 11) from (nI_add 11 j4).trans (congrArg nI (by omega))]
        refine va_iald hx hb hK hP 2 0 rfl rfl (vp_in_nI (by omega) (by decide)) dX11_about_39 ?_
        rw [nI_clamp (n := (j4 + 11)) (by omega)]
        obtain ⟨w21, h22, h23⟩ := kr_at hkt (p := (j4 + 11)) (by omega) (by unfold kr_a; omega)
        rw [h23]
        refine lv_goto (tgt := 68) hx hb dX11_about_40 (by decide) ?_
        exact W.iret (v := (nI w21)) hx hb hr (fun tZ ht hW => ⟨⟨(nI w21), (frf), rfl, by first | omega | (dsimp only; omega), by rw [ht]; exact hP.sub [1, 0, 2] rfl, hD.sub [1, 0, 2] (by decide) rfl⟩, hS.F ht⟩) hS.2.2 dX11_about_68
    · skip
      have hP : va_P D vwCl [(mrf, .inl (y 0, 3, .inl frf)), (mo, .inr (11, [.ref to, .ref ke, .ref ik, .ref mrf, .long mab, .long mbl, .ref ha, .ref r0, .ref mbr, .ref mbp, .ref mby, .int (nI bl), .int (nI ta), .int (nI tl), .int (nI tk), .int vv, .ref an, .ref va])), (to, .inl (y 0, 228, .inl ft))] H := hP
      have hD : va_D A [(mrf, .inl (y 0, 3, .inl frf)), (mo, .inr (11, [.ref to, .ref ke, .ref ik, .ref mrf, .long mab, .long mbl, .ref ha, .ref r0, .ref mbr, .ref mbp, .ref mby, .int (nI bl), .int (nI ta), .int (nI tl), .int (nI tk), .int vv, .ref an, .ref va])), (to, .inl (y 0, 228, .inl ft))] := hD
      refine lv_if_ne (tgt := 27) hx hb dX11_about_17 (by decide) (fun h9 => absurd h9 (by decide)) (fun _ => ?_)
      refine lv_aload_n hx hb dX11_about_20 rfl (lv_at hl 0 rfl) ?_
      refine lv_bipush (v := (-2)) hx hb dX11_about_21 (by decide) ?_
      have hs24 : kw_Split [(mrf, .inl (y 0, 3, .inl frf)), (mo, .inr (11, [.ref to, .ref ke, .ref ik, .ref mrf, .long mab, .long mbl, .ref ha, .ref r0, .ref mbr, .ref mbp, .ref mby, .int (nI bl), .int (nI ta), .int (nI tl), .int (nI tk), .int vv, .ref an, .ref va])), (to, .inl (y 0, 228, .inl ft))] [(mo, .inr (11, [.ref to, .ref ke, .ref ik, .ref mrf, .long mab, .long mbl, .ref ha, .ref r0, .ref mbr, .ref mbp, .ref mby, .int (nI bl), .int (nI ta), .int (nI tl), .int (nI tk), .int vv, .ref an, .ref va])), (mrf, .inl (y 0, 3, .inl frf))] [(to, .inl (y 0, 228, .inl ft))] [1, 0] [2] := ⟨rfl, rfl, rfl, rfl, rfl, by decide⟩
      refine kw_go_i hs24 hP hD hS hA (va_runV (As := [.int (-2)]) (rest := []) ⟨hx, hb, hml, hown, hts⟩ (gr_bad l D y mo to ke ik mrf ha r0 mbr mbp mby an va mab mbl bl ta tl tk vv frf (-2)  _) (cwV 1 hts gX11_about_X11_bad rfl rfl rfl (by decide +kernel) ⟨Nat.le_of_ble_eq_true rfl, Nat.le_of_ble_eq_true rfl⟩) (kw_PreV (ci := 11) (q0 := 1) hs24 hP hD hK hN rfl rfl) rfl rfl hl.1 rfl (lv_room (Nat.le_of_ble_eq_true rfl)) dX11_about_23 ⟨Nat.le_of_ble_eq_true rfl, Nat.le_of_ble_eq_true rfl⟩) (fun r25 u26 H locs hq hP hD hS => ?_)
      obtain rfl := hq
      have hP : va_P D vwCl [(to, .inl (y 0, 228, .inl ft)), (mo, .inr (11, [.ref to, .ref ke, .ref ik, .ref mrf, .long mab, .long mbl, .ref ha, .ref r0, .ref mbr, .ref mbp, .ref mby, .int (nI bl), .int (nI ta), .int (nI tl), .int (nI tk), .int vv, .ref an, .ref va])), (mrf, .inl (y 0, 3, .inl (upd frf 0 ((frf 0) + 1))))] H := hP
      have hD : va_D A [(to, .inl (y 0, 228, .inl ft)), (mo, .inr (11, [.ref to, .ref ke, .ref ik, .ref mrf, .long mab, .long mbl, .ref ha, .ref r0, .ref mbr, .ref mbp, .ref mby, .int (nI bl), .int (nI ta), .int (nI tl), .int (nI tk), .int vv, .ref an, .ref va])), (mrf, .inl (y 0, 3, .inl (upd frf 0 ((frf 0) + 1))))] := hD
      exact W.iret (v := (-2)) hx hb hr (fun tZ ht hW => ⟨⟨(-2), ((upd frf 0 ((frf 0) + 1))), rfl, by first | omega | (dsimp only; omega), by rw [ht]; exact hP.sub [1, 2, 0] rfl, hD.sub [1, 2, 0] (by decide) rfl⟩, hS.F ht⟩) hS.2.2 dX11_about_26
  · skip
    have hP : va_P D vwCl [(mrf, .inl (y 0, 3, .inl frf)), (mo, .inr (11, [.ref to, .ref ke, .ref ik, .ref mrf, .long mab, .long mbl, .ref ha, .ref r0, .ref mbr, .ref mbp, .ref mby, .int (nI bl), .int (nI ta), .int (nI tl), .int (nI tk), .int vv, .ref an, .ref va])), (to, .inl (y 0, 228, .inl ft))] H := hP
    have hD : va_D A [(mrf, .inl (y 0, 3, .inl frf)), (mo, .inr (11, [.ref to, .ref ke, .ref ik, .ref mrf, .long mab, .long mbl, .ref ha, .ref r0, .ref mbr, .ref mbp, .ref mby, .int (nI bl), .int (nI ta), .int (nI tl), .int (nI tk), .int vv, .ref an, .ref va])), (to, .inl (y 0, 228, .inl ft))] := hD
    refine lv_if_eq (tgt := 20) hx hb dX11_about_5 (by decide) (fun _ => ?_) (fun h9 => absurd h9 (by decide))
    refine lv_aload_n hx hb dX11_about_20 rfl (lv_at hl 0 rfl) ?_
    refine lv_bipush (v := (-2)) hx hb dX11_about_21 (by decide) ?_
    have hs27 : kw_Split [(mrf, .inl (y 0, 3, .inl frf)), (mo, .inr (11, [.ref to, .ref ke, .ref ik, .ref mrf, .long mab, .long mbl, .ref ha, .ref r0, .ref mbr, .ref mbp, .ref mby, .int (nI bl), .int (nI ta), .int (nI tl), .int (nI tk), .int vv, .ref an, .ref va])), (to, .inl (y 0, 228, .inl ft))] [(mo, .inr (11, [.ref to, .ref ke, .ref ik, .ref mrf, .long mab, .long mbl, .ref ha, .ref r0, .ref mbr, .ref mbp, .ref mby, .int (nI bl), .int (nI ta), .int (nI tl), .int (nI tk), .int vv, .ref an, .ref va])), (mrf, .inl (y 0, 3, .inl frf))] [(to, .inl (y 0, 228, .inl ft))] [1, 0] [2] := ⟨rfl, rfl, rfl, rfl, rfl, by decide⟩
    refine kw_go_i hs27 hP hD hS hA (va_runV (As := [.int (-2)]) (rest := []) ⟨hx, hb, hml, hown, hts⟩ (gr_bad l D y mo to ke ik mrf ha r0 mbr mbp mby an va mab mbl bl ta tl tk vv frf (-2)  _) (cwV 1 hts gX11_about_X11_bad rfl rfl rfl (by decide +kernel) ⟨Nat.le_of_ble_eq_true rfl, Nat.le_of_ble_eq_true rfl⟩) (kw_PreV (ci := 11) (q0 := 1) hs27 hP hD hK hN rfl rfl) rfl rfl hl.1 rfl (lv_room (Nat.le_of_ble_eq_true rfl)) dX11_about_23 ⟨Nat.le_of_ble_eq_true rfl, Nat.le_of_ble_eq_true rfl⟩) (fun r28 u29 H locs hq hP hD hS => ?_)
    obtain rfl := hq
    have hP : va_P D vwCl [(to, .inl (y 0, 228, .inl ft)), (mo, .inr (11, [.ref to, .ref ke, .ref ik, .ref mrf, .long mab, .long mbl, .ref ha, .ref r0, .ref mbr, .ref mbp, .ref mby, .int (nI bl), .int (nI ta), .int (nI tl), .int (nI tk), .int vv, .ref an, .ref va])), (mrf, .inl (y 0, 3, .inl (upd frf 0 ((frf 0) + 1))))] H := hP
    have hD : va_D A [(to, .inl (y 0, 228, .inl ft)), (mo, .inr (11, [.ref to, .ref ke, .ref ik, .ref mrf, .long mab, .long mbl, .ref ha, .ref r0, .ref mbr, .ref mbp, .ref mby, .int (nI bl), .int (nI ta), .int (nI tl), .int (nI tk), .int vv, .ref an, .ref va])), (mrf, .inl (y 0, 3, .inl (upd frf 0 ((frf 0) + 1))))] := hD
    exact W.iret (v := (-2)) hx hb hr (fun tZ ht hW => ⟨⟨(-2), ((upd frf 0 ((frf 0) + 1))), rfl, by first | omega | (dsimp only; omega), by rw [ht]; exact hP.sub [1, 2, 0] rfl, hD.sub [1, 2, 0] (by decide) rfl⟩, hS.F ht⟩) hS.2.2 dX11_about_26
