set_option maxHeartbeats 4000000 in
set_option maxRecDepth 100000 in
theorem gr_keep (l : Launch) (D : va_G) (y : Nat → ClassId) (mo : Nat) (to : Nat) (ke : Nat) (ik : Nat) (mrf : Nat) (ha : Nat) (r0 : Nat) (mbr : Nat) (mbp : Nat) (mby : Nat) (an : Nat) (va : Nat) (mab : Int64) (mbl : Int64) (bl : Nat) (ta : Nat) (tl : Nat) (tk : Nat) (vv : Int32) (ft : Nat → Int32) (fi : Nat) (gl : Nat) (mi : Nat) (no : Nat) (un : Nat) (hk0_ : ft 0 = (nI fi)) (hk1_ : ft 1 = (nI gl)) (hk2_ : ft 2 = (nI mi)) (hk3_ : ft 3 = (nI no)) (hk4_ : ft 4 = (nI un)) (hkt : kr_t 228 ft) (hfi : fi ≤ 6) (hgl : gl ≤ 5) (hmi : mi ≤ 4) (hno : no ≤ 6) (hun : un ≤ 8) : kw_Mv l yX11_keep wsX11_keep ({ frames := 1, cells := 0, slots := 0, locals := 60 }) D y [.ref mo] [(mo, .inr (11, [.ref to, .ref ke, .ref ik, .ref mrf, .long mab, .long mbl, .ref ha, .ref r0, .ref mbr, .ref mbp, .ref mby, .int (nI bl), .int (nI ta), .int (nI tl), .int (nI tk), .int vv, .ref an, .ref va])), (to, .inl (y 0, 228, .inl ft))] (fun (u : (Nat → Int32) × Nat) => kr_t 228 u.1 ∧ u.1 0 = (nI fi) ∧ u.1 1 = (nI gl) ∧ u.1 2 = (nI mi) ∧ u.1 3 = (nI no) ∧ u.2 ≤ 8 ∧ u.1 4 = (nI u.2)) (fun u => [(mo, .inr (11, [.ref to, .ref ke, .ref ik, .ref mrf, .long mab, .long mbl, .ref ha, .ref r0, .ref mbr, .ref mbp, .ref mby, .int (nI bl), .int (nI ta), .int (nI tl), .int (nI tk), .int vv, .ref an, .ref va])), (to, .inl (y 0, 228, .inl u.1))]) 0 0 := by
  refine kw_Mv.of (cc := cX11_keep) (maxL := 2) (ret := none) (by decide) rfl ?_
  intro pZ eZ s mZ beZ meZ cZ A hE
  obtain ⟨hx, hb, hr, hml, hts, hown, hlocks, hin, hA, hP, hD, hK, hN⟩ := hE
  have hS : va_S A s.heap s.heap [] := va_S.rf
  have hl := lv_entry ([.ref mo]) (n := 2) (Nat.le_of_ble_eq_true rfl)
  rw [lg_entry_eq]
  generalize (lg_sl ([.ref mo]) ++ List.replicate (2 - (lg_sl ([.ref mo])).length) Slot.unset).toArray = ls at hl ⊢
  have hl : lv_has ls 2 [(0, .ref mo)] := hl
  have fw1 := hts (.fieldLink RX11 7 "GleanDuskModel" "told" "[I") (List.mem_of_getElem? (i := 1) rfl)
  have iw11 : ∀ w ∈ wsX110, w ∈ wsX11_keep := fun _ h => List.mem_cons_of_mem _ (List.mem_append_right _ h)
  refine lv_aload_n hx hb dX11_keep_0 rfl (lv_at hl 0 rfl) ?_
  refine va_get (D := D) (ci := 11) (v := .ref to) (C := RX11) (T := TX11) (N := 18) hx hb hts iw11 hown hK hP 0 rfl rfl 0 (by decide) fw1 (fun _ h9 => h9) rfl dX11_keep_1 ?_
  refine lv_iconst (v := 4) hx hb dX11_keep_4 (by decide) ?_
  refine va_iald hx hb hK hP 1 0 rfl rfl (by unfold vp_in; decide) dX11_keep_5 ?_
  rw [show ((4 : Int32)).toNatClampNeg = 4 from rfl]
  rw [show (ft 4) = (nI un) from hk4_]
  refine lv_bipush (v := 8) hx hb dX11_keep_6 (by decide) ?_
  refine lv_icmp_ne (tgt := 52) hx hb dX11_keep_8 (by decide) (fun h1 => ?_) (fun h2 => ?_)
  · skip
    have h1 : ¬ un = 8 := fun q9 => h1 ((nI_eq (a := un) (b := 8) (by omega) (by omega)).mpr q9)
    refine lv_iconst (v := 0) hx hb dX11_keep_52 (by decide) ?_
    refine lv_istore_n (lv' := [(1, .int 0), (0, .ref mo)]) hx hb dX11_keep_53 rfl hl (by decide) rfl (fun ls hl => ?_)
    have lp32 : ∀ (fuj91 j91 : Nat) (x17 : Nat → Int32) (H : Heap) (locs : List Loc) (ls : Array Slot), j91 ≤ 19 → 19 - j91 < fuj91 → kr_t 228 x17 → x17 0 = (nI fi) → x17 1 = (nI gl) → x17 2 = (nI mi) → x17 3 = (nI no) → x17 4 = (nI un) → va_P D vwCl [(mo, .inr (11, [.ref to, .ref ke, .ref ik, .ref mrf, .long mab, .long mbl, .ref ha, .ref r0, .ref mbr, .ref mbp, .ref mby, .int (nI bl), .int (nI ta), .int (nI tl), .int (nI tk), .int vv, .ref an, .ref va])), (to, .inl (y 0, 228, .inl x17))] H → va_D A [(mo, .inr (11, [.ref to, .ref ke, .ref ik, .ref mrf, .long mab, .long mbl, .ref ha, .ref r0, .ref mbr, .ref mbp, .ref mby, .int (nI bl), .int (nI ta), .int (nI tl), .int (nI tk), .int vv, .ref an, .ref va])), (to, .inl (y 0, 228, .inl x17))] → va_S A s.heap H locs → lv_has ls 2 [(1, .int (nI j91)), (0, .ref mo)] → W pZ l eZ ({ frames := 1, cells := 0, slots := 0, locals := 60 }) s mZ [.ref mo].toArray beZ meZ cZ H locs 0 0 (MQ beZ (va_Qv (fun (u : (Nat → Int32) × Nat) => kr_t 228 u.1 ∧ u.1 0 = (nI fi) ∧ u.1 1 = (nI gl) ∧ u.1 2 = (nI mi) ∧ u.1 3 = (nI no) ∧ u.2 ≤ 8 ∧ u.1 4 = (nI u.2)) (kw_B D (fun u => [(mo, .inr (11, [.ref to, .ref ke, .ref ik, .ref mrf, .long mab, .long mbl, .ref ha, .ref r0, .ref mbr, .ref mbp, .ref mby, .int (nI bl), .int (nI ta), .int (nI tl), .int (nI tk), .int vv, .ref an, .ref va])), (to, .inl (y 0, 228, .inl u.1))]) A) A) [.ref mo].toArray s 0 0 A) (F0 mZ 54 ls []) := by
      intro fuj91
      induction fuj91 with
      | zero => intro j91 x17 H locs ls hj9 hf9; exact absurd hf9 (Nat.not_lt_zero _)
      | succ fuj91 ihj91 =>
        intro j91 x17 H locs ls hj91 hfj91 hr_x17 hk_x17_0 hk_x17_1 hk_x17_2 hk_x17_3 hk_x17_4 hP hD hS hl
        refine lv_iload_n hx hb dX11_keep_54 rfl (lv_at hl 0 rfl) ?_
        refine lv_bipush (v := 19) hx hb dX11_keep_55 (by decide) ?_
        refine lv_icmp_ge (tgt := 93) hx hb dX11_keep_57 (by decide) (fun h33 => ?_) (fun h34 => ?_)
        · skip
          have h33 : 19 ≤ j91 := (nI_leI (a := 19) (b := j91) (by omega) (by omega)).mp h33
          refine lv_aload_n hx hb dX11_keep_93 rfl (lv_at hl 1 rfl) ?_
          refine va_get (D := D) (ci := 11) (v := .ref to) (C := RX11) (T := TX11) (N := 18) hx hb hts iw11 hown hK hP 0 rfl rfl 0 (by decide) fw1 (fun _ h9 => h9) rfl dX11_keep_94 ?_
          refine lv_iconst (v := 4) hx hb dX11_keep_97 (by decide) ?_
          refine lv_dup2_11 hx hb dX11_keep_98 rfl rfl ?_
          refine va_iald hx hb hK hP 1 0 rfl rfl (by unfold vp_in; decide) dX11_keep_99 ?_
          rw [show ((4 : Int32)).toNatClampNeg = 4 from rfl]
          rw [show (x17 4) = (nI un) from hk_x17_4]
          refine lv_iconst (v := 1) hx hb dX11_keep_100 (by decide) ?_
          refine lv_iadd hx hb dX11_keep_101 ?_
          rw [show (nI un) + 1 = nI (un + 1) from nI_add un 1]
          refine va_iast hx hb hK hP hD hS 1 0 rfl rfl (by unfold vp_in; decide) dX11_keep_102 (fun H locs hP hD hS => ?_)
          rw [show ((4 : Int32)).toNatClampNeg = 4 from rfl] at hP hD
          have hr35 : kr_t 228 (upd x17 4 (nI (un + 1))) := kr_up hr_x17 (kr_free (by unfold kr_a; omega) (by unfold kr_s; omega))
          have hk36 : (upd x17 4 (nI (un + 1))) 0 = (nI fi) := (pk_un (by decide)).trans hk_x17_0
          have hk37 : (upd x17 4 (nI (un + 1))) 1 = (nI gl) := (pk_un (by decide)).trans hk_x17_1
          have hk38 : (upd x17 4 (nI (un + 1))) 2 = (nI mi) := (pk_un (by decide)).trans hk_x17_2
          have hk39 : (upd x17 4 (nI (un + 1))) 3 = (nI no) := (pk_un (by decide)).trans hk_x17_3
          have hk40 : (upd x17 4 (nI (un + 1))) 4 = (nI (un + 1)) := pk_us
          have hP : va_P D vwCl [(mo, .inr (11, [.ref to, .ref ke, .ref ik, .ref mrf, .long mab, .long mbl, .ref ha, .ref r0, .ref mbr, .ref mbp, .ref mby, .int (nI bl), .int (nI ta), .int (nI tl), .int (nI tk), .int vv, .ref an, .ref va])), (to, .inl (y 0, 228, .inl (upd x17 4 (nI (un + 1)))))] H := hP
          have hD : va_D A [(mo, .inr (11, [.ref to, .ref ke, .ref ik, .ref mrf, .long mab, .long mbl, .ref ha, .ref r0, .ref mbr, .ref mbp, .ref mby, .int (nI bl), .int (nI ta), .int (nI tl), .int (nI tk), .int vv, .ref an, .ref va])), (to, .inl (y 0, 228, .inl (upd x17 4 (nI (un + 1)))))] := hD
          exact W.vret hx hb hr (fun tZ ht hW => ⟨⟨((upd x17 4 (nI (un + 1))), un + 1), rfl, ⟨hr35, hk36, hk37, hk38, hk39, by first | omega | (dsimp only; omega), hk40⟩, by rw [ht]; exact hP.sub [0, 1] rfl, hD.sub [0, 1] (by decide) rfl⟩, hS.F ht⟩) hS.2.2 dX11_keep_103
        · skip
          have h34 : ¬ 19 ≤ j91 := fun q9 => h34 ((nI_leI (a := 19) (b := j91) (by omega) (by omega)).mpr q9)
          refine lv_aload_n hx hb dX11_keep_60 rfl (lv_at hl 1 rfl) ?_
          refine va_get (D := D) (ci := 11) (v := .ref to) (C := RX11) (T := TX11) (N := 18) hx hb hts iw11 hown hK hP 0 rfl rfl 0 (by decide) fw1 (fun _ h9 => h9) rfl dX11_keep_61 ?_
          refine lv_bipush (v := 76) hx hb dX11_keep_64 (by decide) ?_
          refine lv_bipush (v := 19) hx hb dX11_keep_66 (by decide) ?_
          refine lv_aload_n hx hb dX11_keep_68 rfl (lv_at hl 1 rfl) ?_
          refine va_get (D := D) (ci := 11) (v := .ref to) (C := RX11) (T := TX11) (N := 18) hx hb hts iw11 hown hK hP 0 rfl rfl 0 (by decide) fw1 (fun _ h9 => h9) rfl dX11_keep_69 ?_
          refine lv_iconst (v := 4) hx hb dX11_keep_72 (by decide) ?_
          refine va_iald hx hb hK hP 1 0 rfl rfl (by unfold vp_in; decide) dX11_keep_73 ?_
          rw [show ((4 : Int32)).toNatClampNeg = 4 from rfl]
          rw [show (x17 4) = (nI un) from hk_x17_4]
          refine lv_imul hx hb dX11_keep_74 ?_
          rw [show 19 * (nI un) = nI (19 * un) from pk_mul 19 un]
          refine lv_iadd hx hb dX11_keep_75 ?_
          rw [show 76 + (nI (19 * un)) = nI (76 + (19 * un)) from nI_add 76 (19 * un)]
          refine lv_iload_n hx hb dX11_keep_76 rfl (lv_at hl 0 rfl) ?_
          refine lv_iadd hx hb dX11_keep_77 ?_
          rw [show (nI (76 + (19 * un))) + (nI j91) = nI ((76 + (19 * un)) + j91) from nI_add (76 + (19 * un)) j91]
          refine lv_aload_n hx hb dX11_keep_78 rfl (lv_at hl 1 rfl) ?_
          refine va_get (D := D) (ci := 11) (v := .ref to) (C := RX11) (T := TX11) (N := 18) hx hb hts iw11 hown hK hP 0 rfl rfl 0 (by decide) fw1 (fun _ h9 => h9) rfl dX11_keep_79 ?_
          refine lv_iconst (v := 5) hx hb dX11_keep_82 (by decide) ?_
          refine lv_iload_n hx hb dX11_keep_83 rfl (lv_at hl 0 rfl) ?_
          refine lv_iadd hx hb dX11_keep_84 ?_
          rw [show 5 + (nI j91) = nI (j91 + 5) from (nI_add 5 j91).trans (congrArg nI (by omega))]
          refine va_iald hx hb hK hP 1 0 rfl rfl (vp_in_nI (by omega) (by decide)) dX11_keep_85 ?_
          rw [nI_clamp (n := (j91 + 5)) (by omega)]
          refine va_iast hx hb hK hP hD hS 1 0 rfl rfl (vp_in_nI (by omega) (by decide)) dX11_keep_86 (fun H locs hP hD hS => ?_)
          rw [nI_clamp (n := ((76 + (19 * un)) + j91)) (by omega)] at hP hD
          have hr41 : kr_t 228 (upd x17 ((76 + (19 * un)) + j91) (x17 (j91 + 5))) := kr_up hr_x17 (kr_move (p := (j91 + 5)) (hr_x17 (j91 + 5) (by omega)) (by unfold kr_a; omega) (by unfold kr_s; omega))
          have hk42 : (upd x17 ((76 + (19 * un)) + j91) (x17 (j91 + 5))) 0 = (nI fi) := (pk_un (by omega)).trans hk_x17_0
          have hk43 : (upd x17 ((76 + (19 * un)) + j91) (x17 (j91 + 5))) 1 = (nI gl) := (pk_un (by omega)).trans hk_x17_1
          have hk44 : (upd x17 ((76 + (19 * un)) + j91) (x17 (j91 + 5))) 2 = (nI mi) := (pk_un (by omega)).trans hk_x17_2
          have hk45 : (upd x17 ((76 + (19 * un)) + j91) (x17 (j91 + 5))) 3 = (nI no) := (pk_un (by omega)).trans hk_x17_3
          have hk46 : (upd x17 ((76 + (19 * un)) + j91) (x17 (j91 + 5))) 4 = (nI un) := (pk_un (by omega)).trans hk_x17_4
          have hP : va_P D vwCl [(mo, .inr (11, [.ref to, .ref ke, .ref ik, .ref mrf, .long mab, .long mbl, .ref ha, .ref r0, .ref mbr, .ref mbp, .ref mby, .int (nI bl), .int (nI ta), .int (nI tl), .int (nI tk), .int vv, .ref an, .ref va])), (to, .inl (y 0, 228, .inl (upd x17 ((76 + (19 * un)) + j91) (x17 (j91 + 5)))))] H := hP
          have hD : va_D A [(mo, .inr (11, [.ref to, .ref ke, .ref ik, .ref mrf, .long mab, .long mbl, .ref ha, .ref r0, .ref mbr, .ref mbp, .ref mby, .int (nI bl), .int (nI ta), .int (nI tl), .int (nI tk), .int vv, .ref an, .ref va])), (to, .inl (y 0, 228, .inl (upd x17 ((76 + (19 * un)) + j91) (x17 (j91 + 5)))))] := hD
          refine lv_iinc (v := (nI (j91 + 1))) (lv' := [(1, .int (nI (j91 + 1))), (0, .ref mo)]) hx hb dX11_keep_87 hl (k := 0) rfl (nI_1 j91) (by decide) rfl (fun ls hl => ?_)
          refine lv_goto (tgt := 54) hx hb dX11_keep_90 (by decide) ?_
          exact ihj91 (j91 + 1) (upd x17 ((76 + (19 * un)) + j91) (x17 (j91 + 5))) H locs ls (by omega) (by omega) hr41 hk42 hk43 hk44 hk45 hk46 (hP.sub [0, 1] rfl) (hD.sub [0, 1] (by decide) rfl) hS (lv_sub hl [0, 1] rfl)
    exact lp32 (19 + 1) 0 ft _ _ _ (by omega) (by omega) hkt hk0_ hk1_ hk2_ hk3_ hk4_ hP hD hS (lv_sub hl [0, 1] rfl)
  · skip
    have h2 : un = 8 := (nI_eq (a := un) (b := 8) (by omega) (by omega)).mp h2
    refine lv_iconst (v := 0) hx hb dX11_keep_11 (by decide) ?_
    refine lv_istore_n (lv' := [(1, .int 0), (0, .ref mo)]) hx hb dX11_keep_12 rfl hl (by decide) rfl (fun ls hl => ?_)
    have lp182 : ∀ (fuj91 j91 : Nat) (x114 : Nat → Int32) (H : Heap) (locs : List Loc) (ls : Array Slot), j91 ≤ 133 → 133 - j91 < fuj91 → kr_t 228 x114 → x114 0 = (nI fi) → x114 1 = (nI gl) → x114 2 = (nI mi) → x114 3 = (nI no) → x114 4 = (nI un) → va_P D vwCl [(mo, .inr (11, [.ref to, .ref ke, .ref ik, .ref mrf, .long mab, .long mbl, .ref ha, .ref r0, .ref mbr, .ref mbp, .ref mby, .int (nI bl), .int (nI ta), .int (nI tl), .int (nI tk), .int vv, .ref an, .ref va])), (to, .inl (y 0, 228, .inl x114))] H → va_D A [(mo, .inr (11, [.ref to, .ref ke, .ref ik, .ref mrf, .long mab, .long mbl, .ref ha, .ref r0, .ref mbr, .ref mbp, .ref mby, .int (nI bl), .int (nI ta), .int (nI tl), .int (nI tk), .int vv, .ref an, .ref va])), (to, .inl (y 0, 228, .inl x114))] → va_S A s.heap H locs → lv_has ls 2 [(1, .int (nI j91)), (0, .ref mo)] → W pZ l eZ ({ frames := 1, cells := 0, slots := 0, locals := 60 }) s mZ [.ref mo].toArray beZ meZ cZ H locs 0 0 (MQ beZ (va_Qv (fun (u : (Nat → Int32) × Nat) => kr_t 228 u.1 ∧ u.1 0 = (nI fi) ∧ u.1 1 = (nI gl) ∧ u.1 2 = (nI mi) ∧ u.1 3 = (nI no) ∧ u.2 ≤ 8 ∧ u.1 4 = (nI u.2)) (kw_B D (fun u => [(mo, .inr (11, [.ref to, .ref ke, .ref ik, .ref mrf, .long mab, .long mbl, .ref ha, .ref r0, .ref mbr, .ref mbp, .ref mby, .int (nI bl), .int (nI ta), .int (nI tl), .int (nI tk), .int vv, .ref an, .ref va])), (to, .inl (y 0, 228, .inl u.1))]) A) A) [.ref mo].toArray s 0 0 A) (F0 mZ 13 ls []) := by
      intro fuj91
      induction fuj91 with
      | zero => intro j91 x114 H locs ls hj9 hf9; exact absurd hf9 (Nat.not_lt_zero _)
      | succ fuj91 ihj91 =>
        intro j91 x114 H locs ls hj91 hfj91 hr_x114 hk_x114_0 hk_x114_1 hk_x114_2 hk_x114_3 hk_x114_4 hP hD hS hl
        refine lv_iload_n hx hb dX11_keep_13 rfl (lv_at hl 0 rfl) ?_
        refine lv_sipush (v := 133) hx hb dX11_keep_14 (by decide) ?_
        refine lv_icmp_ge (tgt := 44) hx hb dX11_keep_17 (by decide) (fun h183 => ?_) (fun h184 => ?_)
        · skip
          have h183 : 133 ≤ j91 := (nI_leI (a := 133) (b := j91) (by omega) (by omega)).mp h183
          refine lv_aload_n hx hb dX11_keep_44 rfl (lv_at hl 1 rfl) ?_
          refine va_get (D := D) (ci := 11) (v := .ref to) (C := RX11) (T := TX11) (N := 18) hx hb hts iw11 hown hK hP 0 rfl rfl 0 (by decide) fw1 (fun _ h9 => h9) rfl dX11_keep_45 ?_
          refine lv_iconst (v := 4) hx hb dX11_keep_48 (by decide) ?_
          refine lv_bipush (v := 7) hx hb dX11_keep_49 (by decide) ?_
          refine va_iast hx hb hK hP hD hS 1 0 rfl rfl (by unfold vp_in; decide) dX11_keep_51 (fun H locs hP hD hS => ?_)
          rw [show ((4 : Int32)).toNatClampNeg = 4 from rfl] at hP hD
          have hr185 : kr_t 228 (upd x114 4 7) := kr_up hr_x114 (kr_free (by unfold kr_a; omega) (by unfold kr_s; omega))
          have hk186 : (upd x114 4 7) 0 = (nI fi) := (pk_un (by decide)).trans hk_x114_0
          have hk187 : (upd x114 4 7) 1 = (nI gl) := (pk_un (by decide)).trans hk_x114_1
          have hk188 : (upd x114 4 7) 2 = (nI mi) := (pk_un (by decide)).trans hk_x114_2
          have hk189 : (upd x114 4 7) 3 = (nI no) := (pk_un (by decide)).trans hk_x114_3
          have hk190 : (upd x114 4 7) 4 = 7 := pk_us
          have hP : va_P D vwCl [(mo, .inr (11, [.ref to, .ref ke, .ref ik, .ref mrf, .long mab, .long mbl, .ref ha, .ref r0, .ref mbr, .ref mbp, .ref mby, .int (nI bl), .int (nI ta), .int (nI tl), .int (nI tk), .int vv, .ref an, .ref va])), (to, .inl (y 0, 228, .inl (upd x114 4 7)))] H := hP
          have hD : va_D A [(mo, .inr (11, [.ref to, .ref ke, .ref ik, .ref mrf, .long mab, .long mbl, .ref ha, .ref r0, .ref mbr, .ref mbp, .ref mby, .int (nI bl), .int (nI ta), .int (nI tl), .int (nI tk), .int vv, .ref an, .ref va])), (to, .inl (y 0, 228, .inl (upd x114 4 7)))] := hD
          refine lv_iconst (v := 0) hx hb dX11_keep_52 (by decide) ?_
          refine lv_istore_n (lv' := [(1, .int 0), (0, .ref mo)]) hx hb dX11_keep_53 rfl hl (by decide) rfl (fun ls hl => ?_)
          have lp226 : ∀ (fuj92 j92 : Nat) (x208 : Nat → Int32) (H : Heap) (locs : List Loc) (ls : Array Slot), j92 ≤ 19 → 19 - j92 < fuj92 → kr_t 228 x208 → x208 0 = (nI fi) → x208 1 = (nI gl) → x208 2 = (nI mi) → x208 3 = (nI no) → x208 4 = 7 → va_P D vwCl [(mo, .inr (11, [.ref to, .ref ke, .ref ik, .ref mrf, .long mab, .long mbl, .ref ha, .ref r0, .ref mbr, .ref mbp, .ref mby, .int (nI bl), .int (nI ta), .int (nI tl), .int (nI tk), .int vv, .ref an, .ref va])), (to, .inl (y 0, 228, .inl x208))] H → va_D A [(mo, .inr (11, [.ref to, .ref ke, .ref ik, .ref mrf, .long mab, .long mbl, .ref ha, .ref r0, .ref mbr, .ref mbp, .ref mby, .int (nI bl), .int (nI ta), .int (nI tl), .int (nI tk), .int vv, .ref an, .ref va])), (to, .inl (y 0, 228, .inl x208))] → va_S A s.heap H locs → lv_has ls 2 [(1, .int (nI j92)), (0, .ref mo)] → W pZ l eZ ({ frames := 1, cells := 0, slots := 0, locals := 60 }) s mZ [.ref mo].toArray beZ meZ cZ H locs 0 0 (MQ beZ (va_Qv (fun (u : (Nat → Int32) × Nat) => kr_t 228 u.1 ∧ u.1 0 = (nI fi) ∧ u.1 1 = (nI gl) ∧ u.1 2 = (nI mi) ∧ u.1 3 = (nI no) ∧ u.2 ≤ 8 ∧ u.1 4 = (nI u.2)) (kw_B D (fun u => [(mo, .inr (11, [.ref to, .ref ke, .ref ik, .ref mrf, .long mab, .long mbl, .ref ha, .ref r0, .ref mbr, .ref mbp, .ref mby, .int (nI bl), .int (nI ta), .int (nI tl), .int (nI tk), .int vv, .ref an, .ref va])), (to, .inl (y 0, 228, .inl u.1))]) A) A) [.ref mo].toArray s 0 0 A) (F0 mZ 54 ls []) := by
            intro fuj92
            induction fuj92 with
            | zero => intro j92 x208 H locs ls hj9 hf9; exact absurd hf9 (Nat.not_lt_zero _)
            | succ fuj92 ihj92 =>
              intro j92 x208 H locs ls hj92 hfj92 hr_x208 hk_x208_0 hk_x208_1 hk_x208_2 hk_x208_3 hk_x208_4 hP hD hS hl
              refine lv_iload_n hx hb dX11_keep_54 rfl (lv_at hl 0 rfl) ?_
              refine lv_bipush (v := 19) hx hb dX11_keep_55 (by decide) ?_
              refine lv_icmp_ge (tgt := 93) hx hb dX11_keep_57 (by decide) (fun h227 => ?_) (fun h228 => ?_)
              · skip
                have h227 : 19 ≤ j92 := (nI_leI (a := 19) (b := j92) (by omega) (by omega)).mp h227
                refine lv_aload_n hx hb dX11_keep_93 rfl (lv_at hl 1 rfl) ?_
                refine va_get (D := D) (ci := 11) (v := .ref to) (C := RX11) (T := TX11) (N := 18) hx hb hts iw11 hown hK hP 0 rfl rfl 0 (by decide) fw1 (fun _ h9 => h9) rfl dX11_keep_94 ?_
                refine lv_iconst (v := 4) hx hb dX11_keep_97 (by decide) ?_
                refine lv_dup2_11 hx hb dX11_keep_98 rfl rfl ?_
                refine va_iald hx hb hK hP 1 0 rfl rfl (by unfold vp_in; decide) dX11_keep_99 ?_
                rw [show ((4 : Int32)).toNatClampNeg = 4 from rfl]
                rw [show (x208 4) = 7 from hk_x208_4]
                refine lv_iconst (v := 1) hx hb dX11_keep_100 (by decide) ?_
                refine lv_iadd hx hb dX11_keep_101 ?_
                refine lv_topi (fun z229 hz229 => ?_)
                obtain rfl : z229 = 8 := hz229.trans (by decide)
                refine va_iast hx hb hK hP hD hS 1 0 rfl rfl (by unfold vp_in; decide) dX11_keep_102 (fun H locs hP hD hS => ?_)
                rw [show ((4 : Int32)).toNatClampNeg = 4 from rfl] at hP hD
                have hr230 : kr_t 228 (upd x208 4 8) := kr_up hr_x208 (kr_free (by unfold kr_a; omega) (by unfold kr_s; omega))
                have hk231 : (upd x208 4 8) 0 = (nI fi) := (pk_un (by decide)).trans hk_x208_0
                have hk232 : (upd x208 4 8) 1 = (nI gl) := (pk_un (by decide)).trans hk_x208_1
                have hk233 : (upd x208 4 8) 2 = (nI mi) := (pk_un (by decide)).trans hk_x208_2
                have hk234 : (upd x208 4 8) 3 = (nI no) := (pk_un (by decide)).trans hk_x208_3
                have hk235 : (upd x208 4 8) 4 = 8 := pk_us
                have hP : va_P D vwCl [(mo, .inr (11, [.ref to, .ref ke, .ref ik, .ref mrf, .long mab, .long mbl, .ref ha, .ref r0, .ref mbr, .ref mbp, .ref mby, .int (nI bl), .int (nI ta), .int (nI tl), .int (nI tk), .int vv, .ref an, .ref va])), (to, .inl (y 0, 228, .inl (upd x208 4 8)))] H := hP
                have hD : va_D A [(mo, .inr (11, [.ref to, .ref ke, .ref ik, .ref mrf, .long mab, .long mbl, .ref ha, .ref r0, .ref mbr, .ref mbp, .ref mby, .int (nI bl), .int (nI ta), .int (nI tl), .int (nI tk), .int vv, .ref an, .ref va])), (to, .inl (y 0, 228, .inl (upd x208 4 8)))] := hD
                exact W.vret hx hb hr (fun tZ ht hW => ⟨⟨((upd x208 4 8), 8), rfl, ⟨hr230, hk231, hk232, hk233, hk234, by first | omega | (dsimp only; omega), hk235⟩, by rw [ht]; exact hP.sub [0, 1] rfl, hD.sub [0, 1] (by decide) rfl⟩, hS.F ht⟩) hS.2.2 dX11_keep_103
              · skip
                have h228 : ¬ 19 ≤ j92 := fun q9 => h228 ((nI_leI (a := 19) (b := j92) (by omega) (by omega)).mpr q9)
                refine lv_aload_n hx hb dX11_keep_60 rfl (lv_at hl 1 rfl) ?_
                refine va_get (D := D) (ci := 11) (v := .ref to) (C := RX11) (T := TX11) (N := 18) hx hb hts iw11 hown hK hP 0 rfl rfl 0 (by decide) fw1 (fun _ h9 => h9) rfl dX11_keep_61 ?_
                refine lv_bipush (v := 76) hx hb dX11_keep_64 (by decide) ?_
                refine lv_bipush (v := 19) hx hb dX11_keep_66 (by decide) ?_
                refine lv_aload_n hx hb dX11_keep_68 rfl (lv_at hl 1 rfl) ?_
                refine va_get (D := D) (ci := 11) (v := .ref to) (C := RX11) (T := TX11) (N := 18) hx hb hts iw11 hown hK hP 0 rfl rfl 0 (by decide) fw1 (fun _ h9 => h9) rfl dX11_keep_69 ?_
                refine lv_iconst (v := 4) hx hb dX11_keep_72 (by decide) ?_
                refine va_iald hx hb hK hP 1 0 rfl rfl (by unfold vp_in; decide) dX11_keep_73 ?_
                rw [show ((4 : Int32)).toNatClampNeg = 4 from rfl]
                rw [show (x208 4) = 7 from hk_x208_4]
                refine lv_imul hx hb dX11_keep_74 ?_
                refine lv_topi (fun z236 hz236 => ?_)
                obtain rfl : z236 = 133 := hz236.trans (by decide)
                refine lv_iadd hx hb dX11_keep_75 ?_
                refine lv_topi (fun z237 hz237 => ?_)
                obtain rfl : z237 = 209 := hz237.trans (by decide)
                refine lv_iload_n hx hb dX11_keep_76 rfl (lv_at hl 0 rfl) ?_
                refine lv_iadd hx hb dX11_keep_77 ?_
                rw [show 209 + (nI j92) = nI (j92 + 209) from (nI_add 209 j92).trans (congrArg nI (by omega))]
                refine lv_aload_n hx hb dX11_keep_78 rfl (lv_at hl 1 rfl) ?_
                refine va_get (D := D) (ci := 11) (v := .ref to) (C := RX11) (T := TX11) (N := 18) hx hb hts iw11 hown hK hP 0 rfl rfl 0 (by decide) fw1 (fun _ h9 => h9) rfl dX11_keep_79 ?_
                refine lv_iconst (v := 5) hx hb dX11_keep_82 (by decide) ?_
                refine lv_iload_n hx hb dX11_keep_83 rfl (lv_at hl 0 rfl) ?_
                refine lv_iadd hx hb dX11_keep_84 ?_
                rw [show 5 + (nI j92) = nI (j92 + 5) from (nI_add 5 j92).trans (congrArg nI (by omega))]
                refine va_iald hx hb hK hP 1 0 rfl rfl (vp_in_nI (by omega) (by decide)) dX11_keep_85 ?_
                rw [nI_clamp (n := (j92 + 5)) (by omega)]
                refine va_iast hx hb hK hP hD hS 1 0 rfl rfl (vp_in_nI (by omega) (by decide)) dX11_keep_86 (fun H locs hP hD hS => ?_)
                rw [nI_clamp (n := (j92 + 209)) (by omega)] at hP hD
                have hr238 : kr_t 228 (upd x208 (j92 + 209) (x208 (j92 + 5))) := kr_up hr_x208 (kr_move (p := (j92 + 5)) (hr_x208 (j92 + 5) (by omega)) (by unfold kr_a; omega) (by unfold kr_s; omega))
                have hk239 : (upd x208 (j92 + 209) (x208 (j92 + 5))) 0 = (nI fi) := (pk_un (by omega)).trans hk_x208_0
                have hk240 : (upd x208 (j92 + 209) (x208 (j92 + 5))) 1 = (nI gl) := (pk_un (by omega)).trans hk_x208_1
                have hk241 : (upd x208 (j92 + 209) (x208 (j92 + 5))) 2 = (nI mi) := (pk_un (by omega)).trans hk_x208_2
                have hk242 : (upd x208 (j92 + 209) (x208 (j92 + 5))) 3 = (nI no) := (pk_un (by omega)).trans hk_x208_3
                have hk243 : (upd x208 (j92 + 209) (x208 (j92 + 5))) 4 = 7 := (pk_un (by omega)).trans hk_x208_4
                have hP : va_P D vwCl [(mo, .inr (11, [.ref to, .ref ke, .ref ik, .ref mrf, .long mab, .long mbl, .ref ha, .ref r0, .ref mbr, .ref mbp, .ref mby, .int (nI bl), .int (nI ta), .int (nI tl), .int (nI tk), .int vv, .ref an, .ref va])), (to, .inl (y 0, 228, .inl (upd x208 (j92 + 209) (x208 (j92 + 5)))))] H := hP
                have hD : va_D A [(mo, .inr (11, [.ref to, .ref ke, .ref ik, .ref mrf, .long mab, .long mbl, .ref ha, .ref r0, .ref mbr, .ref mbp, .ref mby, .int (nI bl), .int (nI ta), .int (nI tl), .int (nI tk), .int vv, .ref an, .ref va])), (to, .inl (y 0, 228, .inl (upd x208 (j92 + 209) (x208 (j92 + 5)))))] := hD
                refine lv_iinc (v := (nI (j92 + 1))) (lv' := [(1, .int (nI (j92 + 1))), (0, .ref mo)]) hx hb dX11_keep_87 hl (k := 0) rfl (nI_1 j92) (by decide) rfl (fun ls hl => ?_)
                refine lv_goto (tgt := 54) hx hb dX11_keep_90 (by decide) ?_
                exact ihj92 (j92 + 1) (upd x208 (j92 + 209) (x208 (j92 + 5))) H locs ls (by omega) (by omega) hr238 hk239 hk240 hk241 hk242 hk243 (hP.sub [0, 1] rfl) (hD.sub [0, 1] (by decide) rfl) hS (lv_sub hl [0, 1] rfl)
          exact lp226 (19 + 1) 0 (upd x114 4 7) _ _ _ (by omega) (by omega) hr185 hk186 hk187 hk188 hk189 hk190 hP hD hS (lv_sub hl [0, 1] rfl)
        · skip
          have h184 : ¬ 133 ≤ j91 := fun q9 => h184 ((nI_leI (a := 133) (b := j91) (by omega) (by omega)).mpr q9)
          refine lv_aload_n hx hb dX11_keep_20 rfl (lv_at hl 1 rfl) ?_
          refine va_get (D := D) (ci := 11) (v := .ref to) (C := RX11) (T := TX11) (N := 18) hx hb hts iw11 hown hK hP 0 rfl rfl 0 (by decide) fw1 (fun _ h9 => h9) rfl dX11_keep_21 ?_
          refine lv_bipush (v := 76) hx hb dX11_keep_24 (by decide) ?_
          refine lv_iload_n hx hb dX11_keep_26 rfl (lv_at hl 0 rfl) ?_
          refine lv_iadd hx hb dX11_keep_27 ?_
          rw [show 76 + (nI j91) = nI (j91 + 76) from (nI_add 76 j91).trans (congrArg nI (by omega))]
          refine lv_aload_n hx hb dX11_keep_28 rfl (lv_at hl 1 rfl) ?_
          refine va_get (D := D) (ci := 11) (v := .ref to) (C := RX11) (T := TX11) (N := 18) hx hb hts iw11 hown hK hP 0 rfl rfl 0 (by decide) fw1 (fun _ h9 => h9) rfl dX11_keep_29 ?_
          refine lv_bipush (v := 95) hx hb dX11_keep_32 (by decide) ?_
          refine lv_iload_n hx hb dX11_keep_34 rfl (lv_at hl 0 rfl) ?_
          refine lv_iadd hx hb dX11_keep_35 ?_
          rw [show 95 + (nI j91) = nI (j91 + 95) from (nI_add 95 j91).trans (congrArg nI (by omega))]
          refine va_iald hx hb hK hP 1 0 rfl rfl (vp_in_nI (by omega) (by decide)) dX11_keep_36 ?_
          rw [nI_clamp (n := (j91 + 95)) (by omega)]
          refine va_iast hx hb hK hP hD hS 1 0 rfl rfl (vp_in_nI (by omega) (by decide)) dX11_keep_37 (fun H locs hP hD hS => ?_)
          rw [nI_clamp (n := (j91 + 76)) (by omega)] at hP hD
          have hr244 : kr_t 228 (upd x114 (j91 + 76) (x114 (j91 + 95))) := kr_up hr_x114 (kr_move (p := (j91 + 95)) (hr_x114 (j91 + 95) (by omega)) (by unfold kr_a; omega) (by unfold kr_s; omega))
          have hk245 : (upd x114 (j91 + 76) (x114 (j91 + 95))) 0 = (nI fi) := (pk_un (by omega)).trans hk_x114_0
          have hk246 : (upd x114 (j91 + 76) (x114 (j91 + 95))) 1 = (nI gl) := (pk_un (by omega)).trans hk_x114_1
          have hk247 : (upd x114 (j91 + 76) (x114 (j91 + 95))) 2 = (nI mi) := (pk_un (by omega)).trans hk_x114_2
          have hk248 : (upd x114 (j91 + 76) (x114 (j91 + 95))) 3 = (nI no) := (pk_un (by omega)).trans hk_x114_3
          have hk249 : (upd x114 (j91 + 76) (x114 (j91 + 95))) 4 = (nI un) := (pk_un (by omega)).trans hk_x114_4
          have hP : va_P D vwCl [(mo, .inr (11, [.ref to, .ref ke, .ref ik, .ref mrf, .long mab, .long mbl, .ref ha, .ref r0, .ref mbr, .ref mbp, .ref mby, .int (nI bl), .int (nI ta), .int (nI tl), .int (nI tk), .int vv, .ref an, .ref va])), (to, .inl (y 0, 228, .inl (upd x114 (j91 + 76) (x114 (j91 + 95)))))] H := hP
          have hD : va_D A [(mo, .inr (11, [.ref to, .ref ke, .ref ik, .ref mrf, .long mab, .long mbl, .ref ha, .ref r0, .ref mbr, .ref mbp, .ref mby, .int (nI bl), .int (nI ta), .int (nI tl), .int (nI tk), .int vv, .ref an, .ref va])), (to, .inl (y 0, 228, .inl (upd x114 (j91 + 76) (x114 (j91 + 95)))))] := hD
          refine lv_iinc (v := (nI (j91 + 1))) (lv' := [(1, .int (nI (j91 + 1))), (0, .ref mo)]) hx hb dX11_keep_38 hl (k := 0) rfl (nI_1 j91) (by decide) rfl (fun ls hl => ?_)
          refine lv_goto (tgt := 13) hx hb dX11_keep_41 (by decide) ?_
          exact ihj91 (j91 + 1) (upd x114 (j91 + 76) (x114 (j91 + 95))) H locs ls (by omega) (by omega) hr244 hk245 hk246 hk247 hk248 hk249 (hP.sub [0, 1] rfl) (hD.sub [0, 1] (by decide) rfl) hS (lv_sub hl [0, 1] rfl)
    exact lp182 (133 + 1) 0 ft _ _ _ (by omega) (by omega) hkt hk0_ hk1_ hk2_ hk3_ hk4_ hP hD hS (lv_sub hl [0, 1] rfl)
