set_option maxHeartbeats 4000000 in
set_option maxRecDepth 100000 in
theorem gr_keep (l : Launch) (D : va_G) (y : Nat → ClassId) (mo : Nat) (to : Nat) (ke : Nat) (ik : Nat) (mrf : Nat) (ha : Nat) (r0 : Nat) (mbr : Nat) (mbp : Nat) (mby : Nat) (an : Nat) (va : Nat) (mab : Int64) (mbl : Int64) (bl : Nat) (ta : Nat) (tl : Nat) (tk : Nat) (vv : Int32) (ft : Nat → Int32) (fi : Nat) (gl : Nat) (mi : Nat) (no : Nat) (un : Nat) (hk0_ : ft 0 = (nI fi)) (hk1_ : ft 1 = (nI gl)) (hk2_ : ft 2 = (nI mi)) (hk3_ : ft 3 = (nI no)) (hk4_ : ft 4 = (nI un)) (hkt : kr_t 228 ft) (hfi : fi ≤ 6) (hgl : gl ≤ 5) (hmi : mi ≤ 4) (hno : no ≤ 6) (hun : un ≤ 8) : kw_Mv l yX11_keep wsX11_keep ({ frames := 1, cells := 0, slots := 0, locals := 60 }) D y [.ref mo] [(mo, .inr (11, [.ref to, .ref ke, .ref ik, .ref mrf, .long mab, .long mbl, .ref ha, .ref r0, .ref mbr, .ref mbp, .ref mby, .int (nI bl), .int (nI ta), .int (nI tl), .int (nI tk), .int vv, .ref an, .ref va])), (to, .inl (y 0, 228, .inl ft))] (fun (u : (Nat → Int32) × Nat) => kr_t 228 u.1 ∧ u.1 0 = (nI fi) ∧ u.1 1 = (nI gl) ∧ u.1 2 = (nI mi) ∧ u.1 3 = (nI no) ∧ u.2 ≤ 8 ∧ u.1 4 = (nI u.2)) (fun u => [(mo, .inr (11, [.ref to, .ref ke, .ref ik, .ref mrf, .long mab, .long mbl, .ref ha, .ref r0, .ref mbr, .ref mbp, .ref mby, .int (nI bl), .int (nI ta), .int (nI tl), .int (nI tk), .int vv, .ref an, .ref va])), (to, .inl (y 0, 228, .inl u.1))]) 0 0 := by
  refine kw_Mv.of (cc := cX11_keep) (maxL := 2) (ret := none) (by decide) rfl ?_
  intro pZ eZ s mZ beZ meZ cZ A hE
  obtain ⟨hx, hb, hr, hml, hts, hown, hlocks, hin, hA, hP, hD, hK, hN⟩ := hE
  have hS : va_S A s.heap s.heap [] := va_S.rf
  have hl := lv_entry ([.ref mo]) (n := 2) (Nat.le_of_ble_eq_true rfl)
  rw [lg_entry_eq]
  generalize (lg_sl ([.ref mo]) ++ List.replicate (2 - (lg_sl ([.ref mo])).length) Slot.unset).toArray = ls at hl ⊢
  have hl : lv_has ls 2 [(0, .ref mo)] := hl
  have fw1 := hts (.fieldLink RX11 7 "GleanDuskModel" "told" "[I") (List.mem_of_getElem? (i := 1) rfl)
  have iw11 : ∀ w ∈ wsX110, w ∈ wsX11_keep := fun _ h => List.mem_cons_of_mem _ (List.mem_append_right _ h)
  refine lv_aload_n hx hb dX11_keep_0 rfl (lv_at hl 0 rfl) ?_
  refine va_get (D := D) (ci := 11) (v := .ref to) (C := RX11) (T := TX11) (N := 18) hx hb hts iw11 hown hK hP 0 rfl rfl 0 (by decide) fw1 (fun _ h9 => h9) rfl dX11_keep_1 ?_
  refine lv_iconst (v := 4) hx hb dX11_keep_4 (by decide) ?_
  refine va_iald hx hb hK hP 1 0 rfl rfl (by unfold vp_in; decide) dX11_keep_5 ?_
  rw [show ((4 : Int32)).toNatClampNeg = 4 from rfl]
  rw [show (ft 4) = (nI un) from hk4_]
  refine lv_bipush (v := 8) hx hb dX11_keep_6 (by decide) ?_
  refine lv_icmp_ne (tgt := 52) hx hb dX11_keep_8 (by decide) (fun h1 => ?_) (fun h2 => ?_)
  · skip
    have h1 : ¬ un = 8 := fun q9 => h1 ((nI_eq (a := un) (b := 8) (by omega) (by omega)).mpr q9)
    refine lv_iconst (v := 0) hx hb dX11_keep_52 (by decide) ?_
    refine lv_istore_n (lv' := [(1, .int 0), (0, .ref mo)]) hx hb dX11_keep_53 rfl hl (by decide) rfl (fun ls hl => ?_)
    have lp32 : ∀ (fuj91 j91 : Nat) (x17 : Nat → Int32) (H : Heap) (locs : List Loc) (ls : Array Slot), j91 ≤ 19 → 19 - j91 < fuj91 → kr_t 228 x17 → x17 0 = (nI fi) → x17 1 = (nI gl) → x17 2 = (nI mi) → x17 3 = (nI no) → x17 4 = (nI un) → va_P D vwCl [(mo, .inr (11, [.ref to, .ref ke, .ref ik, .ref mrf, .long mab, .long mbl, .ref ha, .ref r0, .ref mbr, .ref mbp, .ref mby, .int (nI bl), .int (nI ta), .int (nI tl), .int (nI tk), .int vv, .ref an, .ref va])), (to, .inl (y 0, 228, .inl x17))] H → va_D A [(mo, .inr (11, [.ref to, .ref ke, .ref ik, .ref mrf, .long mab, .long mbl, .ref ha, .ref r0, .ref mbr, .ref mbp, .ref mby, .int (nI bl), .int (nI ta), .int (nI tl), .int (nI tk), .int vv, .ref an, .ref va])), (to, .inl (y 0, 228, .inl x17))] → va_S A s.heap H locs → lv_has ls 2 [(1, .int (nI j91)), (0, .ref mo)] → W pZ l eZ ({ frames := 1, cells := 0, slots := 0, locals := 60 }) s mZ [.ref mo].toArray beZ meZ cZ H locs 0 0 (MQ beZ (va_Qv (fun (u : (Nat → Int32) × Nat) => kr_t 228 u.1 ∧ u.1 0 = (nI fi) ∧ u.1 1 = (nI gl) ∧ u.1 2 = (nI mi) ∧ u.1 3 = (nI no) ∧ u.2 ≤ 8 ∧ u.1 4 = (nI u.2)) (kw_B D (fun u => [(mo, .inr (11, [.ref to, .ref ke, .ref ik, .ref mrf, .long mab, .long mbl, .ref ha, .ref r0, .ref mbr, .ref mbp, .ref mby, .int (nI bl), .int (nI ta), .int (nI tl), .int (nI tk), .int vv, .ref an, .ref va])), (to, .inl (y 0, 228, .inl u.1))]) A) A) [.ref mo].toArray s 0 0 A) (F0 mZ 54 ls []) := by
      intro fuj91
      induction fuj91 with
      | zero => intro j91 x17 H locs ls hj9 hf9; exact absurd hf9 (Nat.not_lt_zero _)
      | succ fuj91 ihj91 =>
        intro j91 x17 H locs ls hj91 hfj91 hr_x17 hk_x17_0 hk_x17_1 hk_x17_2 hk_x17_3 hk_x17_4 hP hD hS hl
        refine lv_iload_n hx hb dX11_keep_54 rfl (lv_at hl 0 rfl) ?_
        refine lv_bipush (v := 19) hx hb dX11_keep_55 (by decide) ?_
        refine lv_icmp_ge (tgt := 93) hx hb dX11_keep_57 (by decide) (fun h33 => ?_) (fun h34 => ?_)
        · skip
          have h33 : 19 ≤ j91 := (nI_leI (a := 19) (b := j91) (by omega) (by omega)).mp h33
          refine lv_aload_n hx hb dX11_keep_93 rfl (lv_at hl 1 rfl) ?_
          refine va_get (D := D) (ci := 11) (v := .ref to) (C := RX11) (T := TX11) (N := 18) hx hb hts iw11 hown hK hP 0 rfl rfl 0 (by decide) fw1 (fun _ h9 => h9) rfl dX11_keep_94 ?_
          refine lv_iconst (v := 4) hx hb dX11_keep_97 (by decide) ?_
          refine lv_dup2_11 hx hb dX11_keep_98 rfl rfl ?_
          refine va_iald hx hb hK hP 1 0 rfl rfl (by unfold vp_in; decide) dX11_keep_99 ?_
          rw [show ((4 : Int32)).toNatClampNeg = 4 from rfl]
          rw [show (x17 4) = (nI un) from hk_x17_4]
          refine lv_iconst (v := 1) hx hb dX11_keep_100 (by decide) ?_
          refine lv_iadd hx hb dX11_keep_101 ?_
          rw [show (nI un) + 1 = nI (un + 1) from nI_add un 1]
          refine va_iast hx hb hK hP hD hS 1 0 rfl rfl (by unfold vp_in; decide) dX11_keep_102 (fun H locs hP hD hS => ?_)
          rw [show ((4 : Int32)).toNatClampNeg = 4 from rfl] at hP hD
          have hr35 : kr_t 228 (upd x17 4 (nI (un + 1))) := kr_up hr_x17 (kr_free (by unfold kr_a; omega) (by unfold kr_s; omega))
          have hk36 : (upd x17 4 (nI (un + 1))) 0 = (nI fi) := (pk_un (by decide)).trans hk_x17_0
          have hk37 : (upd x17 4 (nI (un + 1))) 1 = (nI gl) := (pk_un (by decide)).trans hk_x17_1
          have hk38 : (upd x17 4 (nI (un + 1))) 2 = (nI mi) := (pk_un (by decide)).trans hk_x17_2
          have hk39 : (upd x17 4 (nI (un + 1))) 3 = (nI no) := (pk_un (by decide)).trans hk_x17_3
          have hk40 : (upd x17 4 (nI (un + 1))) 4 = (nI (un + 1)) := pk_us
          have hP : va_P D vwCl [(mo, .inr (11, [.ref to, .ref ke, .ref ik, .ref mrf, .long mab, .long mbl, .ref ha, .ref r0, .ref mbr, .ref mbp, .ref mby, .int (nI bl), .int (nI ta), .int (nI tl), .int (nI tk), .int vv, .ref an, .ref va])), (to, .inl (y 0, 228, .inl (upd x17 4 (nI (un + 1)))))] H := hP
          have hD : va_D A [(mo, .inr (11, [.ref to, .ref ke, .ref ik, .ref mrf, .long mab, .long mbl, .ref ha, .ref r0, .ref mbr, .ref mbp, .ref mby, .int (nI bl), .int (nI ta), .int (nI tl), .int (nI tk), .int vv, .ref an, .ref va])), (to, .inl (y 0, 228, .inl (upd x17 4 (nI (un + 1)))))] := hD
          exact W.vret hx hb hr (fun tZ ht hW => ⟨⟨((upd x17 4 (nI (un + 1))), un + 1), rfl, ⟨hr35, hk36, hk37, hk38, hk39, by first | omega | (dsimp only; omega), hk40⟩, by rw [ht]; exact hP.sub [0, 1] rfl, hD.sub [0, 1] (by decide) rfl⟩, hS.F ht⟩) hS.2.2 dX11_keep_103
        · skip
          have h34 : ¬ 19 ≤ j91 := fun q9 => h34 ((nI_leI (a := 19) (b := j91) (by omega) (by omega)).mpr q9)
          refine lv_aload_n hx hb dX11_keep_60 rfl (lv_at hl 1 rfl) ?_
          refine va_get (D := D) (ci := 11) (v := .ref to) (C := RX11) (T := TX11) (N := 18) hx hb hts iw11 hown hK hP 0 rfl rfl 0 (by decide) fw1 (fun _ h9 => h9) rfl dX11_keep_61 ?_
          refine lv_bipush (v := 76) hx hb dX11_keep_64 (by decide) ?_
          refine lv_bipush (v := 19) hx hb dX11_keep_66 (by decide) ?_
          refine lv_aload_n hx hb dX11_keep_68 rfl (lv_at hl 1 rfl) ?_
          refine va_get (D := D) (ci := 11) (v := .ref to) (C := RX11) (T := TX11) (N := 18) hx hb hts iw11 hown hK hP 0 rfl rfl 0 (by decide) fw1 (fun _ h9 => h9) rfl dX11_keep_69 ?_
          refine lv_iconst (v := 4) hx hb dX11_keep_72 (by decide) ?_
          refine va_iald hx hb hK hP 1 0 rfl rfl (by unfold vp_in; decide) dX11_keep_73 ?_
          rw [show ((4 : Int32)).toNatClampNeg = 4 from rfl]
          rw [show (x17 4) = (nI un) from hk_x17_4]
          refine lv_imul hx hb dX11_keep_74 ?_
          rw [show 19 * (nI un) = nI (19 * un) from pk_mul 19 un]
          refine lv_iadd hx hb dX11_keep_75 ?_
          rw [show 76 + (nI (19 * un)) = nI (76 + (19 * un)) from nI_add 76 (19 * un)]
          refine lv_iload_n hx hb dX11_keep_76 rfl (lv_at hl 0 rfl) ?_
          refine lv_iadd hx hb dX11_keep_77 ?_
          rw [show (nI (76 + (19 * un))) + (nI j91) = nI ((76 + (19 * un)) + j91) from nI_add (76 + (19 * un)) j91]
          refine lv_aload_n hx hb dX11_keep_78 rfl (lv_at hl 1 rfl) ?_
          refine va_get (D := D) (ci := 11) (v := .ref to) (C := RX11) (T := TX11) (N := 18) hx hb hts iw11 hown hK hP 0 rfl rfl 0 (by decide) fw1 (fun _ h9 => h9) rfl dX11_keep_79 ?_
          refine lv_iconst (v := 5) hx hb dX11_keep_82 (by decide) ?_
          refine lv_iload_n hx hb dX11_keep_83 rfl (lv_at hl 0 rfl) ?_
          refine lv_iadd hx hb dX11_keep_84 ?_
          rw [show 5 + (nI j91) = nI (j91 + 5) from (nI_add 5 j91).trans (congrArg nI (by omega))]
          refine va_iald hx hb hK hP 1 0 rfl rfl (vp_in_nI (by omega) (by decide)) dX11_keep_85 ?_
          rw [nI_clamp (n := (j91 + 5)) (by omega)]
          refine va_iast hx hb hK hP hD hS 1 0 rfl rfl (vp_in_nI (by omega) (by decide)) dX11_keep_86 (fun H locs hP hD hS => ?_)
          rw [nI_clamp (n := ((76 + (19 * un)) + j91)) (by omega)] at hP hD
          have hr41 : kr_t 228 (upd x17 ((76 + (19 * un)) + j91) (x17 (j91 + 5))) := kr_up hr_x17 (kr_move (p := (j91 + 5)) (hr_x17 (j91 + 5) (by omega)) (by unfold kr_a; omega) (by unfold kr_s; omega))
          have hk42 : (upd x17 ((76 + (19 * un)) + j91) (x17 (j91 + 5))) 0 = (nI fi) := (pk_un (by omega)).trans hk_x17_0
          have hk43 : (upd x17 ((76 + (19 * un)) + j91) (x17 (j91 + 5))) 1 = (nI gl) := (pk_un (by omega)).trans hk_x17_1
          have hk44 : (upd x17 ((76 + (19 * un)) + j91) (x17 (j91 + 5))) 2 = (nI mi) := (pk_un (by omega)).trans hk_x17_2
          have hk45 : (upd x17 ((76 + (19 * un)) + j91) (x17 (j91 + 5))) 3 = (nI no) := (pk_un (by omega)).trans hk_x17_3
          have hk46 : (upd x17 ((76 + (19 * un)) + j91) (x17 (j91 + 5))) 4 = (nI un) := (pk_un (by omega)).trans hk_x17_4
          have hP : va_P D vwCl [(mo, .inr (11, [.ref to, .ref ke, .ref ik, .ref mrf, .long mab, .long mbl, .ref ha, .ref r0, .ref mbr, .ref mbp, .ref mby, .int (nI bl), .int (nI ta), .int (nI tl), .int (nI tk), .int vv, .ref an, .ref va])), (to, .inl (y 0, 228, .inl (upd x17 ((76 + (19 * un)) + j91) (x17 (j91 + 5)))))] H := hP
          have hD : va_D A [(mo, .inr (11, [.ref to, .ref ke, .ref ik, .ref mrf, .long mab, .long mbl, .ref ha, .ref r0, .ref mbr, .ref mbp, .ref mby, .int (nI bl), .int (nI ta), .int (nI tl), .int (nI tk), .int vv, .ref an, .ref va])), (to, .inl (y 0, 228, .inl (upd x17 ((76 + (19 * un)) + j91) (x17 (j91 + 5)))))] := hD
          refine lv_iinc (v := (nI (j91 + 1))) (lv' := [(1, .int (nI (j91 + 1))), (0, .ref mo)]) hx hb dX11_keep_87 hl (k := 0) rfl (nI_1 j91) (by decide) rfl (fun ls hl => ?_)
          refine lv_goto (tgt := 54) hx hb dX11_keep_90 (by decide) ?_
          exact ihj91 (j91 + 1) (upd x17 ((76 + (19 * un)) + j91) (x17 (j91 + 5))) H locs ls (by omega) (by omega) hr41 hk42 hk43 hk44 hk45 hk46 (hP.sub [0, 1] rfl) (hD.sub [0, 1] (by decide) rfl) hS (lv_sub hl [0, 1] rfl)
    exact lp32 (19 + 1) 0 ft _ _ _ (by omega) (by omega) hkt hk0_ hk1_ hk2_ hk3_ hk4_ hP hD hS (lv_sub hl [0, 1] rfl)
  · skip
    have h2 : un = 8 := (nI_eq (a := un) (b := 8) (by omega) (by omega)).mp h2
    refine lv_iconst (v := 0) hx hb dX11_keep_11 (by decide) ?_
    refine lv_istore_n (lv' := [(1, .int 0), (0, .ref mo)]) hx hb dX11_keep_12 rfl hl (by decide) rfl (fun ls hl => ?_)
    have lp182 : ∀ (fuj91 j91 : Nat) (x114 : Nat → Int32) (H : Heap) (locs : List Loc) (ls : Array Slot), j91 ≤ 133 → 133 - j91 < fuj91 → kr_t 228 x114 → x114 0 = (nI fi) → x114 1 = (nI gl) → x114 2 = (nI mi) → x114 3 = (nI no) → x114 4 = (nI un) → va_P D vwCl [(mo, .inr (11, [.ref to, .ref ke, .ref ik, .ref mrf, .long mab, .long mbl, .ref ha, .ref r0, .ref mbr, .ref mbp, .ref mby, .int (nI bl), .int (nI ta), .int (nI tl), .int (nI tk), .int vv, .ref an, .ref va])), (to, .inl (y 0, 228, .inl x114))] H → va_D A [(mo, .inr (11, [.ref to, .ref ke, .ref ik, .ref mrf, .long mab, .long mbl, .ref ha, .ref r0, .ref mbr, .ref mbp, .ref mby, .int (nI bl), .int (nI ta), .int (nI tl), .int (nI tk), .int vv, .ref an, .ref va])), (to, .inl (y 0, 228, .inl x114))] → va_S A s.heap H locs → lv_has ls 2 [(1, .int (nI j91)), (0, .ref mo)] → W pZ l eZ ({ frames := 1, cells := 0, slots := 0, locals := 60 }) s mZ [.ref mo].toArray beZ meZ cZ H locs 0 0 (MQ beZ (va_Qv (fun (u : (Nat → Int32) × Nat) => kr_t 228 u.1 ∧ u.1 0 = (nI fi) ∧ u.1 1 = (nI gl) ∧ u.1 2 = (nI mi) ∧ u.1 3 = (nI no) ∧ u.2 ≤ 8 ∧ u.1 4 = (nI u.2)) (kw_B D (fun u => [(mo, .inr (11, [.ref to, .ref ke, .ref ik, .ref mrf, .long mab, .long mbl, .ref ha, .ref r0, .ref mbr, .ref mbp, .ref mby, .int (nI bl), .int (nI ta), .int (nI tl), .int (nI tk), .int vv, .ref an, .ref va])), (to, .inl (y 0, 228, .inl u.1))]) A) A) [.ref mo].toArray s 0 0 A) (F0 mZ 13 ls []) := by
      intro fuj91
      induction fuj91 with
      | zero => intro j91 x114 H locs ls hj9 hf9; exact absurd hf9 (Nat.not_lt_zero _)
      | succ fuj91 ihj91 =>
        intro j91 x114 H locs ls hj91 hfj91 hr_x114 hk_x114_0 hk_x114_1 hk_x114_2 hk_x114_3 hk_x114_4 hP hD hS hl
        refine lv_iload_n hx hb dX11_keep_13 rfl (lv_at hl 0 rfl) ?_
        refine lv_sipush (v := 133) hx hb dX11_keep_14 (by decide) ?_
        refine lv_icmp_ge (tgt := 44) hx hb dX11_keep_17 (by decide) (fun h183 => ?_) (fun h184 => ?_)
        · skip
          have h183 : 133 ≤ j91 := (nI_leI (a := 133) (b := j91) (by omega) (by omega)).mp h183
          refine lv_aload_n hx hb dX11_keep_44 rfl (lv_at hl 1 rfl) ?_
          refine va_get (D := D) (ci := 11) (v := .ref to) (C := RX11) (T := TX11) (N := 18) hx hb hts iw11 hown hK hP 0 rfl rfl 0 (by decide) fw1 (fun _ h9 => h9) rfl dX11_keep_45 ?_
          refine lv_iconst (v := 4) hx hb dX11_keep_48 (by decide) ?_
          refine lv_bipush (v := 7) hx hb dX11_keep_49 (by decide) ?_
          refine va_iast hx hb hK hP hD hS 1 0 rfl rfl (by unfold vp_in; decide) dX11_keep_51 (fun H locs hP hD hS => ?_)
          rw [show ((4 : Int32)).toNatClampNeg = 4 from rfl] at hP hD
          have hr185 : kr_t 228 (upd x114 4 7) := kr_up hr_x114 (kr_free (by unfold kr_a; omega) (by unfold kr_s; omega))
          have hk186 : (upd x114 4 7) 0 = (nI fi) := (pk_un (by decide)).trans hk_x114_0
          have hk187 : (upd x114 4 7) 1 = (nI gl) := (pk_un (by decide)).trans hk_x114_1
          have hk188 : (upd x114 4 7) 2 = (nI mi) := (pk_un (by decide)).trans hk_x114_2
          have hk189 : (upd x114 4 7) 3 = (nI no) := (pk_un (by decide)).trans hk_x114_3
          have hk190 : (upd x114 4 7) 4 = 7 := pk_us
          have hP : va_P D vwCl [(mo, .inr (11, [.ref to, .ref ke, .ref ik, .ref mrf, .long mab, .long mbl, .ref ha, .ref r0, .ref mbr, .ref mbp, .ref mby, .int (nI bl), .int (nI ta), .int (nI tl), .int (nI tk), .int vv, .ref an, .ref va])), (to, .inl (y 0, 228, .inl (upd x114 4 7)))] H := hP
          have hD : va_D A [(mo, .inr (11, [.ref to, .ref ke, .ref ik, .ref mrf, .long mab, .long mbl, .ref ha, .ref r0, .ref mbr, .ref mbp, .ref mby, .int (nI bl), .int (nI ta), .int (nI tl), .int (nI tk), .int vv, .ref an, .ref va])), (to, .inl (y 0, 228, .inl (upd x114 4 7)))] := hD
          refine lv_iconst (v := 0) hx hb dX11_keep_52 (by decide) ?_
          refine lv_istore_n (lv' := [(1, .int 0), (0, .ref mo)]) hx hb dX11_keep_53 rfl hl (by decide) rfl (fun ls hl => ?_)
          have lp226 : ∀ (fuj92 j92 : Nat) (x208 : Nat → Int32) (H : Heap) (locs : List Loc) (ls : Array Slot), j92 ≤ 19 → 19 - j92 < fuj92 → kr_t 228 x208 → x208 0 = (nI fi) → x208 1 = (nI gl) → x208 2 = (nI mi) → x208 3 = (nI no) → x208 4 = 7 → va_P D vwCl [(mo, .inr (11, [.ref to, .ref ke, .ref ik, .ref mrf, .long mab, .long mbl, .ref ha, .ref r0, .ref mbr, .ref mbp, .ref mby, .int (nI bl), .int (nI ta), .int (nI tl), .int (nI tk), .int vv, .ref an, .ref va])), (to, .inl (y 0, 228, .inl x208))] H → va_D A [(mo, .inr (11, [.ref to, .ref ke, .ref ik, .ref mrf, .long mab, .long mbl, .ref ha, .ref r0, .ref mbr, .ref mbp, .ref mby, .int (nI bl), .int (nI ta), .int (nI tl), .int (nI tk), .int vv, .ref an, .ref va])), (to, .inl (y 0, 228, .inl x208))] → va_S A s.heap H locs → lv_has ls 2 [(1, .int (nI j92)), (0, .ref mo)] → W pZ l eZ ({ frames := 1, cells := 0, slots := 0, locals := 60 }) s mZ [.ref mo].toArray beZ meZ cZ H locs 0 0 (MQ beZ (va_Qv (fun (u : (Nat → Int32) × Nat) => kr_t 228 u.1 ∧ u.1 0 = (nI fi) ∧ u.1 1 = (nI gl) ∧ u.1 2 = (nI mi) ∧ u.1 3 = (nI no) ∧ u.2 ≤ 8 ∧ u.1 4 = (nI u.2)) (kw_B D (fun u => [(mo, .inr (11, [.ref to, .ref ke, .ref ik, .ref mrf, .long mab, .long mbl, .ref ha, .ref r0, .ref mbr, .ref mbp, .ref mby, .int (nI bl), .int (nI ta), .int (nI tl), .int (nI tk), .int vv, .ref an, .ref va])), (to, .inl (y 0, 228, .inl u.1))]) A) A) [.ref mo].toArray s 0 0 A) (F0 mZ 54 ls []) := by
            intro fuj92
            induction fuj92 with
            | zero => intro j92 x208 H locs ls hj9 hf9; exact absurd hf9 (Nat.not_lt_zero _)
            | succ fuj92 ihj92 =>
              intro j92 x208 H locs ls hj92 hfj92 hr_x208 hk_x208_0 hk_x208_1 hk_x208_2 hk_x208_3 hk_x208_4 hP hD hS hl
              refine lv_iload_n hx hb dX11_keep_54 rfl (lv_at hl 0 rfl) ?_
              refine lv_bipush (v := 19) hx hb dX11_keep_55 (by decide) ?_
              refine lv_icmp_ge (tgt := 93) hx hb dX11_keep_57 (by decide) (fun h227 => ?_) (fun h228 => ?_)
              · skip
                have h227 : 19 ≤ j92 := (nI_leI (a := 19) (b := j92) (by omega) (by omega)).mp h227
                refine lv_aload_n hx hb dX11_keep_93 rfl (lv_at hl 1 rfl) ?_
                refine va_get (D := D) (ci := 11) (v := .ref to) (C := RX11) (T := TX11) (N := 18) hx hb hts iw11 hown hK hP 0 rfl rfl 0 (by decide) fw1 (fun _ h9 => h9) rfl dX11_keep_94 ?_
                refine lv_iconst (v := 4) hx hb dX11_keep_97 (by decide) ?_
                refine lv_dup2_11 hx hb dX11_keep_98 rfl rfl ?_
                refine va_iald hx hb hK hP 1 0 rfl rfl (by unfold vp_in; decide) dX11_keep_99 ?_
                rw [show ((4 : Int32)).toNatClampNeg = 4 from rfl]
                rw [show (x208 4) = 7 from hk_x208_4]
                refine lv_iconst (v := 1) hx hb dX11_keep_100 (by decide) ?_
                refine lv_iadd hx hb dX11_keep_101 ?_
                refine lv_topi (fun z229 hz229 => ?_)
                obtain rfl : z229 = 8 := hz229.trans (by decide)
                refine va_iast hx hb hK hP hD hS 1 0 rfl rfl (by unfold vp_in; decide) dX11_keep_102 (fun H locs hP hD hS => ?_)
                rw [show ((4 : Int32)).toNatClampNeg = 4 from rfl] at hP hD
                have hr230 : kr_t 228 (upd x208 4 8) := kr_up hr_x208 (kr_free (by unfold kr_a; omega) (by unfold kr_s; omega))
                have hk231 : (upd x208 4 8) 0 = (nI fi) := (pk_un (by decide)).trans hk_x208_0
                have hk232 : (upd x208 4 8) 1 = (nI gl) := (pk_un (by decide)).trans hk_x208_1
                have hk233 : (upd x208 4 8) 2 = (nI mi) := (pk_un (by decide)).trans hk_x208_2
                have hk234 : (upd x208 4 8) 3 = (nI no) := (pk_un (by decide)).trans hk_x208_3
                have hk235 : (upd x208 4 8) 4 = 8 := pk_us
                have hP : va_P D vwCl [(mo, .inr (11, [.ref to, .ref ke, .ref ik, .ref mrf, .long mab, .long mbl, .ref ha, .ref r0, .ref mbr, .ref mbp, .ref mby, .int (nI bl), .int (nI ta), .int (nI tl), .int (nI tk), .int vv, .ref an, .ref va])), (to, .inl (y 0, 228, .inl (upd x208 4 8)))] H := hP
                have hD : va_D A [(mo, .inr (11, [.ref to, .ref ke, .ref ik, .ref mrf, .long mab, .long mbl, .ref ha, .ref r0, .ref mbr, .ref mbp, .ref mby, .int (nI bl), .int (nI ta), .int (nI tl), .int (nI tk), .int vv, .ref an, .ref va])), (to, .inl (y 0, 228, .inl (upd x208 4 8)))] := hD
                exact W.vret hx hb hr (fun tZ ht hW => ⟨⟨((upd x208 4 8), 8), rfl, ⟨hr230, hk231, hk232, hk233, hk234, by first | omega | (dsimp only; omega), hk235⟩, by rw [ht]; exact hP.sub [0, 1] rfl, hD.sub [0, 1] (by decide) rfl⟩, hS.F ht⟩) hS.2.2 dX11_keep_103
              · skip
                have h228 : ¬ 19 ≤ j92 := fun q9 => h228 ((nI_leI (a := 19) (b := j92) (by omega) (by omega)).mpr q9)
                refine lv_aload_n hx hb dX11_keep_60 rfl (lv_at hl 1 rfl) ?_
                refine va_get (D := D) (ci := 11) (v := .ref to) (C := RX11) (T := TX11) (N := 18) hx hb hts iw11 hown hK hP 0 rfl rfl 0 (by decide) fw1 (fun _ h9 => h9) rfl dX11_keep_61 ?_
                refine lv_bipush (v := 76) hx hb dX11_keep_64 (by decide) ?_
                refine lv_bipush (v := 19) hx hb dX11_keep_66 (by decide) ?_
                refine lv_aload_n hx hb dX11_keep_68 rfl (lv_at hl 1 rfl) ?_
                refine va_get (D := D) (ci := 11) (v := .ref to) (C := RX11) (T := TX11) (N := 18) hx hb hts iw11 hown hK hP 0 rfl rfl 0 (by decide) fw1 (fun _ h9 => h9) rfl dX11_keep_69 ?_
                refine lv_iconst (v := 4) hx hb dX11_keep_72 (by decide) ?_
                refine va_iald hx hb hK hP 1 0 rfl rfl (by unfold vp_in; decide) dX11_keep_73 ?_
                rw [show ((4 : Int32)).toNatClampNeg = 4 from rfl]
                rw [show (x208 4) = 7 from hk_x208_4]
                refine lv_imul hx hb dX11_keep_74 ?_
                refine lv_topi (fun z236 hz236 => ?_)
                obtain rfl : z236 = 133 := hz236.trans (by decide)
                refine lv_iadd hx hb dX11_keep_75 ?_
                refine lv_topi (fun z237 hz237 => ?_)
                obtain rfl : z237 = 209 := hz237.trans (by decide)
                refine lv_iload_n hx hb dX11_keep_76 rfl (lv_at hl 0 rfl) ?_
                refine lv_iadd hx hb dX11_keep_77 ?_
                rw [show 209 + (nI j92) = nI (j92 + 209) from (nI_add 209 j92).trans (congrArg nI (by omega))]
                refine lv_aload_n hx hb dX11_keep_78 rfl (lv_at hl 1 rfl) ?_
                refine va_get (D := D) (ci := 11) (v := .ref to) (C := RX11) (T := TX11) (N := 18) hx hb hts iw11 hown hK hP 0 rfl rfl 0 (by decide) fw1 (fun _ h9 => h9) rfl dX11_keep_79 ?_
                refine lv_iconst (v := 5) hx hb dX11_keep_82 (by decide) ?_
                refine lv_iload_n hx hb dX11_keep_83 rfl (lv_at hl 0 rfl) ?_
                refine lv_iadd hx hb dX11_keep_84 ?_
                rw [show 5 + (nI j92) = nI (j92 + 5) from (nI_add 5 j92).trans (congrArg nI (by omega))]
                refine va_iald hx hb hK hP 1 0 rfl rfl (vp_in_nI (by omega) (by decide)) dX11_keep_85 ?_
                rw [nI_clamp (n := (j92 + 5)) (by omega)]
                refine va_iast hx hb hK hP hD hS 1 0 rfl rfl (vp_in_nI (by omega) (by decide)) dX11_keep_86 (fun H locs hP hD hS => ?_)
                rw [nI_clamp (n := (j92 + 209)) (by omega)] at hP hD
                have hr238 : kr_t 228 (upd x208 (j92 + 209) (x208 (j92 + 5))) := kr_up hr_x208 (kr_move (p := (j92 + 5)) (hr_x208 (j92 + 5) (by omega)) (by unfold kr_a; omega) (by unfold kr_s; omega))
                have hk239 : (upd x208 (j92 + 209) (x208 (j92 + 5))) 0 = (nI fi) := (pk_un (by omega)).trans hk_x208_0
                have hk240 : (upd x208 (j92 + 209) (x208 (j92 + 5))) 1 = (nI gl) := (pk_un (by omega)).trans hk_x208_1
                have hk241 : (upd x208 (j92 + 209) (x208 (j92 + 5))) 2 = (nI mi) := (pk_un (by omega)).trans hk_x208_2
                have hk242 : (upd x208 (j92 + 209) (x208 (j92 + 5))) 3 = (nI no) := (pk_un (by omega)).trans hk_x208_3
                have hk243 : (upd x208 (j92 + 209) (x208 (j92 + 5))) 4 = 7 := (pk_un (by omega)).trans hk_x208_4
                have hP : va_P D vwCl [(mo, .inr (11, [.ref to, .ref ke, .ref ik, .ref mrf, .long mab, .long mbl, .ref ha, .ref r0, .ref mbr, .ref mbp, .ref mby, .int (nI bl), .int (nI ta), .int (nI tl), .int (nI tk), .int vv, .ref an, .ref va])), (to, .inl (y 0, 228, .inl (upd x208 (j92 + 209) (x208 (j92 + 5)))))] H := hP
                have hD : va_D A [(mo, .inr (11, [.ref to, .ref ke, .ref ik, .ref mrf, .long mab, .long mbl, .ref ha, .ref r0, .ref mbr, .ref mbp, .ref mby, .int (nI bl), .int (nI ta), .int (nI tl), .int (nI tk), .int vv, .ref an, .ref va])), (to, .inl (y 0, 228, .inl (upd x208 (j92 + 209) (x208 (j92 + 5)))))] := hD
                refine lv_iinc (v := (nI (j92 + 1))) (lv' := [(1, .int (nI (j92 + 1))), (0, .ref mo)]) hx hb dX11_keep_87 hl (k := 0) rfl (nI_1 j92) (by decide) rfl (fun ls hl => ?_)
                refine lv_goto (tgt := 54) hx hb dX11_keep_90 (by decide) ?_
                exact ihj92 (j92 + 1) (upd x208 (j92 + 209) (x208 (j92 + 5))) H locs ls (by omega) (by omega) hr238 hk239 hk240 hk241 hk242 hk243 (hP.sub [0, 1] rfl) (hD.sub [0, 1] (by decide) rfl) hS (lv_sub hl [0, 1] rfl)
          exact lp226 (19 + 1) 0 (upd x114 4 7) _ _ _ (by omega) (by omega) hr185 hk186 hk187 hk188 hk189 hk190 hP hD hS (lv_sub hl [0, 1] rfl)
        · skip
          have h184 : ¬ 133 ≤ j91 := fun q9 => h184 ((nI_leI (a := 133) (b := j91) (by omega) (by omega)).mpr q9)
          refine lv_aload_n hx hb dX11_keep_20 rfl (lv_at hl 1 rfl) ?_
          refine va_get (D := D) (ci := 11) (v := .ref to) (C := RX11) (T := TX11) (N := 18) hx hb hts iw11 hown hK hP 0 rfl rfl 0 (by decide) fw1 (fun _ h9 => h9) rfl dX11_keep_21 ?_
          refine lv_bipush (v := 76) hx hb dX11_keep_24 (by decide) ?_
          refine lv_iload_n hx hb dX11_keep_26 rfl (lv_at hl 0 rfl) ?_
          refine lv_iadd hx hb dX11_keep_27 ?_
          rw [show 76 + (nI j91) = nI (j91 + 76) from (nI_add 76 j91).trans (congrArg nI (by omega))]
          refine lv_aload_n hx hb dX11_keep_28 rfl (lv_at hl 1 rfl) ?_
          refine va_get (D := D) (ci := 11) (v := .ref to) (C := RX11) (T := TX11) (N := 18) hx hb hts iw11 hown hK hP 0 rfl rfl 0 (by decide) fw1 (fun _ h9 => h9) rfl dX11_keep_29 ?_
          refine lv_bipush (v := 95) hx hb dX11_keep_32 (by decide) ?_
          refine lv_iload_n hx hb dX11_keep_34 rfl (lv_at hl 0 rfl) ?_
          refine lv_iadd hx hb dX11_keep_35 ?_
          rw [show 95 + (nI j91) = nI (j91 + 95) from (nI_add 95 j91).trans (congrArg nI (by omega))]
          refine va_iald hx hb hK hP 1 0 rfl rfl (vp_in_nI (by omega) (by decide)) dX11_keep_36 ?_
          rw [nI_clamp (n := (j91 + 95)) (by omega)]
          refine va_iast hx hb hK hP hD hS 1 0 rfl rfl (vp_in_nI (by omega) (by decide)) dX11_keep_37 (fun H locs hP hD hS => ?_)
          rw [nI_clamp (n := (j91 + 76)) (by omega)] at hP hD
          have hr244 : kr_t 228 (upd x114 (j91 + 76) (x114 (j91 + 95))) := kr_up hr_x114 (kr_move (p := (j91 + 95)) (hr_x114 (j91 + 95) (by omega)) (by unfold kr_a; omega) (by unfold kr_s; omega))
          have hk245 : (upd x114 (j91 + 76) (x114 (j91 + 95))) 0 = (nI fi) := (pk_un (by omega)).trans hk_x114_0
          have hk246 : (upd x114 (j91 + 76) (x114 (j91 + 95))) 1 = (nI gl) := (pk_un (by omega)).trans hk_x114_1
          have hk247 : (upd x114 (j91 + 76) (x114 (j91 + 95))) 2 = (nI mi) := (pk_un (by omega)).trans hk_x114_2
          have hk248 : (upd x114 (j91 + 76) (x114 (j91 + 95))) 3 = (nI no) := (pk_un (by omega)).trans hk_x114_3
          have hk249 : (upd x114 (j91 + 76) (x114 (j91 + 95))) 4 = (nI un) := (pk_un (by omega)).trans hk_x114_4
          have hP : va_P D vwCl [(mo, .inr (11, [.ref to, .ref ke, .ref ik, .ref mrf, .long mab, .long mbl, .ref ha, .ref r0, .ref mbr, .ref mbp, .ref mby, .int (nI bl), .int (nI ta), .int (nI tl), .int (nI tk), .int vv, .ref an, .ref va])), (to, .inl (y 0, 228, .inl (upd x114 (j91 + 76) (x114 (j91 + 95)))))] H := hP
          have hD : va_D A [(mo, .inr (11, [.ref to, .ref ke, .ref ik, .ref mrf, .long mab, .long mbl, .ref ha, .ref r0, .ref mbr, .ref mbp, .ref mby, .int (nI bl), .int (nI ta), .int (nI tl), .int (nI tk), .int vv, .ref an, .ref va])), (to, .inl (y 0, 228, .inl (upd x114 (j91 + 76) (x114 (j91 + 95)))))] := hD
          refine lv_iinc (v := (nI (j91 + 1))) (lv' := [(1, .int (nI (j91 + 1))), (0, .ref mo)]) hx hb dX11_keep_38 hl (k := 0) rfl (nI_1 j91) (by decide) rfl (fun ls hl => ?_)
          refine lv_goto (tgt := 13) hx hb dX11_keep_41 (by decide) ?_
          exact ihj91 (j91 + 1) (upd x114 (j91 + 76) (x114 (j91 + 95))) H locs ls (by omega) (by omega) hr244 hk245 hk246 hk247 hk248 hk249 (hP.sub [0, 1] rfl) (hD.sub [0, 1] (by decide) rfl) hS (lv_sub hl [0, 1] rfl)
    exact lp182 (133 + 1) 0 ft _ _ _ (by omega) (by omega) hkt hk0_ hk1_ hk2_ hk3_ hk4_ hP hD hS (lv_sub hl [0, 1] rfl)

set_option maxHeartbeats 4000000 in
set_option maxRecDepth 100000 in
theorem gq_glean (l : Launch) (D : va_G) (y : Nat → ClassId) (mo : Nat) (to : Nat) (ke : Nat) (ik : Nat) (mrf : Nat) (ha : Nat) (r0 : Nat) (mbr : Nat) (mbp : Nat) (mby : Nat) (an : Nat) (va : Nat) (mab : Int64) (mbl : Int64) (bl : Nat) (ta : Nat) (tl : Nat) (tk : Nat) (vv : Int32) (frf : Nat → Int32) (ft : Nat → Int32) (fi : Nat) (gl : Nat) (mi : Nat) (no : Nat) (un : Nat) (x : Int32) (hk0_ : ft 0 = (nI fi)) (hk1_ : ft 1 = (nI gl)) (hk2_ : ft 2 = (nI mi)) (hk3_ : ft 3 = (nI no)) (hk4_ : ft 4 = (nI un)) (hkt : kr_t 228 ft) (hfi : fi ≤ 6) (hgl : gl ≤ 5) (hmi : mi ≤ 4) (hno : no ≤ 6) (hun : un ≤ 8) (hgf : (gl = 0 ∨ 0 < fi)) : kw_Mi l yX11_glean wsX11_glean ({ frames := 6, cells := 0, slots := 0, locals := 177 }) D y [.ref mo, .int x] [(mo, .inr (11, [.ref to, .ref ke, .ref ik, .ref mrf, .long mab, .long mbl, .ref ha, .ref r0, .ref mbr, .ref mbp, .ref mby, .int (nI bl), .int (nI ta), .int (nI tl), .int (nI tk), .int vv, .ref an, .ref va])), (mrf, .inl (y 0, 3, .inl frf)), (to, .inl (y 0, 228, .inl ft))] (fun (r : Int32) (u : (Nat → Int32) × (Nat → Int32) × Nat) => kr_t 228 u.2.1 ∧ u.2.1 0 = (nI fi) ∧ u.2.1 1 = (nI gl) ∧ u.2.1 2 = (nI mi) ∧ u.2.1 3 = (nI no) ∧ u.2.2 ≤ 8 ∧ u.2.1 4 = (nI u.2.2) ∧ (gl = 0 ∨ 0 < fi)) (fun u => [(mo, .inr (11, [.ref to, .ref ke, .ref ik, .ref mrf, .long mab, .long mbl, .ref ha, .ref r0, .ref mbr, .ref mbp, .ref mby, .int (nI bl), .int (nI ta), .int (nI tl), .int (nI tk), .int vv, .ref an, .ref va])), (mrf, .inl (y 0, 3, .inl u.1)), (to, .inl (y 0, 228, .inl u.2.1))]) 0 0 := by
  refine kw_Mi.of (cc := cX11_glean) (maxL := 4) (ret := (some .int)) (by decide) rfl ?_
  intro pZ eZ s mZ beZ meZ cZ A hE
  obtain ⟨hx, hb, hr, hml, hts, hown, hlocks, hin, hA, hP, hD, hK, hN⟩ := hE
  have hS : va_S A s.heap s.heap [] := va_S.rf
  have hl := lv_entry ([.ref mo, .int x]) (n := 4) (Nat.le_of_ble_eq_true rfl)
  rw [lg_entry_eq]
  generalize (lg_sl ([.ref mo, .int x]) ++ List.replicate (4 - (lg_sl ([.ref mo, .int x])).length) Slot.unset).toArray = ls at hl ⊢
  have hl : lv_has ls 4 [(0, .ref mo), (1, .int x)] := hl
  have fw1 := hts (.constantLong RX11 117 (12)) (List.mem_of_getElem? (i := 1) rfl)
  have fw2 := hts (.fieldLink RX11 7 "GleanDuskModel" "told" "[I") (List.mem_of_getElem? (i := 2) rfl)
  have iw11 : ∀ w ∈ wsX110, w ∈ wsX11_glean := fun _ h => List.mem_cons_of_mem _ (List.mem_append_right _ h)
  refine lv_iload_n hx hb dX11_glean_0 rfl (lv_at hl 1 rfl) ?_
  refine lv_i2l (v := x.toInt64) hx hb dX11_glean_1 (rfl) ?_
  refine lv_lconst (v := 1) hx hb dX11_glean_2 (by decide) ?_
  refine lv_ldc2 (v := 12) hx hb hown fw1 dX11_glean_3 ?_
  have hs1 : kw_Split [(mo, .inr (11, [.ref to, .ref ke, .ref ik, .ref mrf, .long mab, .long mbl, .ref ha, .ref r0, .ref mbr, .ref mbp, .ref mby, .int (nI bl), .int (nI ta), .int (nI tl), .int (nI tk), .int vv, .ref an, .ref va])), (mrf, .inl (y 0, 3, .inl frf)), (to, .inl (y 0, 228, .inl ft))] [] [(mo, .inr (11, [.ref to, .ref ke, .ref ik, .ref mrf, .long mab, .long mbl, .ref ha, .ref r0, .ref mbr, .ref mbp, .ref mby, .int (nI bl), .int (nI ta), .int (nI tl), .int (nI tk), .int vv, .ref an, .ref va])), (mrf, .inl (y 0, 3, .inl frf)), (to, .inl (y 0, 228, .inl ft))] [] [0, 1, 2] := ⟨rfl, rfl, rfl, rfl, rfl, by decide⟩
  refine kw_go_i hs1 hP hD hS hA (va_runS (As := [.long x.toInt64, .long 1, .long 12]) (rest := []) ⟨hx, hb, hml, hown, hts⟩ (gr_in l D y x 1 12 (by omega) (by omega) _) (va_cwS 3 hts gX11_glean_X11_in rfl rfl rfl (by decide +kernel) ⟨Nat.le_of_ble_eq_true rfl, Nat.le_of_ble_eq_true rfl⟩) (kw_PreS hs1 hP hD hK hN) rfl rfl hl.1 rfl (lv_room (Nat.le_of_ble_eq_true rfl)) dX11_glean_6 ⟨Nat.le_of_ble_eq_true rfl, Nat.le_of_ble_eq_true rfl⟩) (fun r2 u3 H locs hq hP hD hS => ?_)
  rcases hq with ⟨j4, h5, h6, rfl, rfl⟩ | ⟨h7, rfl⟩
  · skip
    have hP : va_P D vwCl [(mo, .inr (11, [.ref to, .ref ke, .ref ik, .ref mrf, .long mab, .long mbl, .ref ha, .ref r0, .ref mbr, .ref mbp, .ref mby, .int (nI bl), .int (nI ta), .int (nI tl), .int (nI tk), .int vv, .ref an, .ref va])), (mrf, .inl (y 0, 3, .inl frf)), (to, .inl (y 0, 228, .inl ft))] H := hP
    have hD : va_D A [(mo, .inr (11, [.ref to, .ref ke, .ref ik, .ref mrf, .long mab, .long mbl, .ref ha, .ref r0, .ref mbr, .ref mbp, .ref mby, .int (nI bl), .int (nI ta), .int (nI tl), .int (nI tk), .int vv, .ref an, .ref va])), (mrf, .inl (y 0, 3, .inl frf)), (to, .inl (y 0, 228, .inl ft))] := hD
    refine lv_if_ne (tgt := 19) hx hb dX11_glean_9 (by decide) (fun _ => ?_) (fun h9 => absurd h9 (by decide))
    refine lv_aload_n hx hb dX11_glean_19 rfl (lv_at hl 0 rfl) ?_
    refine va_get (D := D) (ci := 11) (v := .ref to) (C := RX11) (T := TX11) (N := 18) hx hb hts iw11 hown hK hP 0 rfl rfl 0 (by decide) fw2 (fun _ h9 => h9) rfl dX11_glean_20 ?_
    refine lv_bipush (v := 21) hx hb dX11_glean_23 (by decide) ?_
    refine va_iald hx hb hK hP 2 0 rfl rfl (by unfold vp_in; decide) dX11_glean_25 ?_
    rw [show ((21 : Int32)).toNatClampNeg = 21 from rfl]
    refine lv_iload_n hx hb dX11_glean_26 rfl (lv_at hl 1 rfl) ?_
    refine lv_iadd hx hb dX11_glean_27 ?_
    refine lv_bipush (v := 12) hx hb dX11_glean_28 (by decide) ?_
    refine lv_icmp_le (tgt := 38) hx hb dX11_glean_30 (by decide) (fun h8 => ?_) (fun h9 => ?_)
    · skip
      refine lv_iconst (v := 0) hx hb dX11_glean_38 (by decide) ?_
      refine lv_istore_n (lv' := [(2, .int 0), (0, .ref mo), (1, .int (nI j4))]) hx hb dX11_glean_39 rfl hl (by decide) rfl (fun ls hl => ?_)
      refine lv_aload_n hx hb dX11_glean_40 rfl (lv_at hl 1 rfl) ?_
      have hs10 : kw_Split [(mo, .inr (11, [.ref to, .ref ke, .ref ik, .ref mrf, .long mab, .long mbl, .ref ha, .ref r0, .ref mbr, .ref mbp, .ref mby, .int (nI bl), .int (nI ta), .int (nI tl), .int (nI tk), .int vv, .ref an, .ref va])), (mrf, .inl (y 0, 3, .inl frf)), (to, .inl (y 0, 228, .inl ft))] [(mo, .inr (11, [.ref to, .ref ke, .ref ik, .ref mrf, .long mab, .long mbl, .ref ha, .ref r0, .ref mbr, .ref mbp, .ref mby, .int (nI bl), .int (nI ta), .int (nI tl), .int (nI tk), .int vv, .ref an, .ref va])), (to, .inl (y 0, 228, .inl ft))] [(mrf, .inl (y 0, 3, .inl frf))] [0, 2] [1] := ⟨rfl, rfl, rfl, rfl, rfl, by decide⟩
      refine kw_go_v hs10 hP hD hS hA (va_runV (As := []) (rest := []) ⟨hx, hb, hml, hown, hts⟩ (gr_keep l D y mo to ke ik mrf ha r0 mbr mbp mby an va mab mbl bl ta tl tk vv ft fi gl mi no un hk0_ hk1_ hk2_ hk3_ hk4_ hkt hfi hgl hmi hno hun _) (cwV 0 hts gX11_glean_X11_keep rfl rfl rfl (by decide +kernel) ⟨Nat.le_of_ble_eq_true rfl, Nat.le_of_ble_eq_true rfl⟩) (kw_PreV (ci := 11) (q0 := 0) hs10 hP hD hK hN rfl rfl) rfl rfl hl.1 rfl (lv_room (Nat.le_of_ble_eq_true rfl)) dX11_glean_41 ⟨Nat.le_of_ble_eq_true rfl, Nat.le_of_ble_eq_true rfl⟩) (fun u12 H locs hq hP hD hS => ?_)
      obtain ⟨v13, v14⟩ := u12
      try dsimp only at hq
      obtain ⟨h15, h16, h17, h18, h19, h20, h21⟩ := hq
      have hP : va_P D vwCl [(mrf, .inl (y 0, 3, .inl frf)), (mo, .inr (11, [.ref to, .ref ke, .ref ik, .ref mrf, .long mab, .long mbl, .ref ha, .ref r0, .ref mbr, .ref mbp, .ref mby, .int (nI bl), .int (nI ta), .int (nI tl), .int (nI tk), .int vv, .ref an, .ref va])), (to, .inl (y 0, 228, .inl v13))] H := hP
      have hD : va_D A [(mrf, .inl (y 0, 3, .inl frf)), (mo, .inr (11, [.ref to, .ref ke, .ref ik, .ref mrf, .long mab, .long mbl, .ref ha, .ref r0, .ref mbr, .ref mbp, .ref mby, .int (nI bl), .int (nI ta), .int (nI tl), .int (nI tk), .int vv, .ref an, .ref va])), (to, .inl (y 0, 228, .inl v13))] := hD
      refine lv_iconst (v := 0) hx hb dX11_glean_44 (by decide) ?_
      refine lv_istore_n (lv' := [(3, .int 0), (2, .int 0), (0, .ref mo), (1, .int (nI j4))]) hx hb dX11_glean_45 rfl hl (by decide) rfl (fun ls hl => ?_)
      have lp48 : ∀ (fuj91 j91 : Nat) (x34 : Int32) (x35 : Nat → Int32) (H : Heap) (locs : List Loc) (ls : Array Slot), j91 ≤ j4 → j4 - j91 < fuj91 → kr_t 228 x35 → x35 0 = (nI fi) → x35 1 = (nI gl) → x35 2 = (nI mi) → x35 3 = (nI no) → x35 4 = (nI v14) → va_P D vwCl [(mrf, .inl (y 0, 3, .inl frf)), (mo, .inr (11, [.ref to, .ref ke, .ref ik, .ref mrf, .long mab, .long mbl, .ref ha, .ref r0, .ref mbr, .ref mbp, .ref mby, .int (nI bl), .int (nI ta), .int (nI tl), .int (nI tk), .int vv, .ref an, .ref va])), (to, .inl (y 0, 228, .inl x35))] H → va_D A [(mrf, .inl (y 0, 3, .inl frf)), (mo, .inr (11, [.ref to, .ref ke, .ref ik, .ref mrf, .long mab, .long mbl, .ref ha, .ref r0, .ref mbr, .ref mbp, .ref mby, .int (nI bl), .int (nI ta), .int (nI tl), .int (nI tk), .int vv, .ref an, .ref va])), (to, .inl (y 0, 228, .inl x35))] → va_S A s.heap H locs → lv_has ls 4 [(3, .int (nI j91)), (2, .int x34), (0, .ref mo), (1, .int (nI j4))] → W pZ l eZ ({ frames := 6, cells := 0, slots := 0, locals := 177 }) s mZ [.ref mo, .int (nI j4)].toArray beZ meZ cZ H locs 0 0 (MQ beZ (va_Qi (fun (r : Int32) (u : (Nat → Int32) × (Nat → Int32) × Nat) => kr_t 228 u.2.1 ∧ u.2.1 0 = (nI fi) ∧ u.2.1 1 = (nI gl) ∧ u.2.1 2 = (nI mi) ∧ u.2.1 3 = (nI no) ∧ u.2.2 ≤ 8 ∧ u.2.1 4 = (nI u.2.2) ∧ (gl = 0 ∨ 0 < fi)) (kw_B D (fun u => [(mo, .inr (11, [.ref to, .ref ke, .ref ik, .ref mrf, .long mab, .long mbl, .ref ha, .ref r0, .ref mbr, .ref mbp, .ref mby, .int (nI bl), .int (nI ta), .int (nI tl), .int (nI tk), .int vv, .ref an, .ref va])), (mrf, .inl (y 0, 3, .inl u.1)), (to, .inl (y 0, 228, .inl u.2.1))]) A) A) [.ref mo, .int (nI j4)].toArray s 0 0 A) (F0 mZ 46 ls []) := by
        intro fuj91
        induction fuj91 with
        | zero => intro j91 x34 x35 H locs ls hj9 hf9; exact absurd hf9 (Nat.not_lt_zero _)
        | succ fuj91 ihj91 =>
          intro j91 x34 x35 H locs ls hj91 hfj91 hr_x35 hk_x35_0 hk_x35_1 hk_x35_2 hk_x35_3 hk_x35_4 hP hD hS hl
          refine lv_iload_n hx hb dX11_glean_46 rfl (lv_at hl 0 rfl) ?_
          refine lv_iload_n hx hb dX11_glean_47 rfl (lv_at hl 3 rfl) ?_
          refine lv_icmp_ge (tgt := 67) hx hb dX11_glean_48 (by decide) (fun h49 => ?_) (fun h50 => ?_)
          · skip
            have h49 : j4 ≤ j91 := (nI_leI (a := j4) (b := j91) (by omega) (by omega)).mp h49
            refine lv_iload_n hx hb dX11_glean_67 rfl (lv_at hl 1 rfl) ?_
            exact W.iret (v := x34) hx hb hr (fun tZ ht hW => ⟨⟨x34, (frf, x35, v14), rfl, ⟨hr_x35, hk_x35_0, hk_x35_1, hk_x35_2, hk_x35_3, by first | omega | (dsimp only; omega), hk_x35_4, by first | omega | (dsimp only; omega)⟩, by rw [ht]; exact hP.sub [1, 0, 2] rfl, hD.sub [1, 0, 2] (by decide) rfl⟩, hS.F ht⟩) hS.2.2 dX11_glean_68
          · skip
            have h50 : ¬ j4 ≤ j91 := fun q9 => h50 ((nI_leI (a := j4) (b := j91) (by omega) (by omega)).mpr q9)
            refine lv_iload_n hx hb dX11_glean_51 rfl (lv_at hl 1 rfl) ?_
            refine lv_aload_n hx hb dX11_glean_52 rfl (lv_at hl 2 rfl) ?_
            refine va_get (D := D) (ci := 11) (v := .ref to) (C := RX11) (T := TX11) (N := 18) hx hb hts iw11 hown hK hP 1 rfl rfl 0 (by decide) fw2 (fun _ h9 => h9) rfl dX11_glean_53 ?_
            have hs51 : kw_Split [(mrf, .inl (y 0, 3, .inl frf)), (mo, .inr (11, [.ref to, .ref ke, .ref ik, .ref mrf, .long mab, .long mbl, .ref ha, .ref r0, .ref mbr, .ref mbp, .ref mby, .int (nI bl), .int (nI ta), .int (nI tl), .int (nI tk), .int vv, .ref an, .ref va])), (to, .inl (y 0, 228, .inl x35))] [(to, .inl (y 0, 228, .inl x35))] [(mrf, .inl (y 0, 3, .inl frf)), (mo, .inr (11, [.ref to, .ref ke, .ref ik, .ref mrf, .long mab, .long mbl, .ref ha, .ref r0, .ref mbr, .ref mbp, .ref mby, .int (nI bl), .int (nI ta), .int (nI tl), .int (nI tk), .int vv, .ref an, .ref va]))] [2] [0, 1] := ⟨rfl, rfl, rfl, rfl, rfl, by decide⟩
            refine kw_go_i hs51 hP hD hS hA (va_runS (As := [.ref to]) (rest := [.int x34]) ⟨hx, hb, hml, hown, hts⟩ (gr_goStep228 l D y to x35 fi gl mi no v14 hk_x35_0 hk_x35_1 hk_x35_2 hk_x35_3 hk_x35_4 hr_x35 hfi hgl hmi hno (by omega) _) (va_cwS 1 hts gX11_glean_X11_goStep rfl rfl rfl (by decide +kernel) ⟨Nat.le_of_ble_eq_true rfl, Nat.le_of_ble_eq_true rfl⟩) (kw_PreS hs51 hP hD hK hN) rfl rfl hl.1 rfl (lv_room (Nat.le_of_ble_eq_true rfl)) dX11_glean_56 ⟨Nat.le_of_ble_eq_true rfl, Nat.le_of_ble_eq_true rfl⟩) (fun r52 u53 H locs hq hP hD hS => ?_)
            obtain ⟨v54, rfl⟩ : ∃ z, z = u53 := ⟨_, rfl⟩
            try dsimp only at hq
            obtain ⟨h55, h56, h57, h58, h59, h60⟩ := hq
            have hP : va_P D vwCl [(mrf, .inl (y 0, 3, .inl frf)), (mo, .inr (11, [.ref to, .ref ke, .ref ik, .ref mrf, .long mab, .long mbl, .ref ha, .ref r0, .ref mbr, .ref mbp, .ref mby, .int (nI bl), .int (nI ta), .int (nI tl), .int (nI tk), .int vv, .ref an, .ref va])), (to, .inl (y 0, 228, .inl v54))] H := hP
            have hD : va_D A [(mrf, .inl (y 0, 3, .inl frf)), (mo, .inr (11, [.ref to, .ref ke, .ref ik, .ref mrf, .long mab, .long mbl, .ref ha, .ref r0, .ref mbr, .ref mbp, .ref mby, .int (nI bl), .int (nI ta), .int (nI tl), .int (nI tk), .int vv, .ref an, .ref va])), (to, .inl (y 0, 228, .inl v54))] := hD
            refine lv_iadd hx hb dX11_glean_59 ?_
            refine lv_istore_n (lv' := [(2, .int (x34 + r52)), (3, .int (nI j91)), (0, .ref mo), (1, .int (nI j4))]) hx hb dX11_glean_60 rfl hl (by decide) rfl (fun ls hl => ?_)
            refine lv_iinc (v := (nI (j91 + 1))) (lv' := [(3, .int (nI (j91 + 1))), (2, .int (x34 + r52)), (0, .ref mo), (1, .int (nI j4))]) hx hb dX11_glean_61 hl (k := 1) rfl (nI_1 j91) (by decide) rfl (fun ls hl => ?_)
            refine lv_goto (tgt := 46) hx hb dX11_glean_64 (by decide) ?_
            exact ihj91 (j91 + 1) (x34 + r52) v54 H locs ls (by omega) (by omega) h55 h56 h57 h58 h59 h60 (hP.sub [0, 1, 2] rfl) (hD.sub [0, 1, 2] (by decide) rfl) hS (lv_sub hl [0, 1, 2, 3] rfl)
      exact lp48 (j4 + 1) 0 0 v13 _ _ _ (by omega) (by omega) h15 h16 h17 h18 h19 h21 hP hD hS (lv_sub hl [0, 1, 2, 3] rfl)
    · skip
      refine lv_aload_n hx hb dX11_glean_33 rfl (lv_at hl 0 rfl) ?_
      have hs61 : kw_Split [(mo, .inr (11, [.ref to, .ref ke, .ref ik, .ref mrf, .long mab, .long mbl, .ref ha, .ref r0, .ref mbr, .ref mbp, .ref mby, .int (nI bl), .int (nI ta), .int (nI tl), .int (nI tk), .int vv, .ref an, .ref va])), (mrf, .inl (y 0, 3, .inl frf)), (to, .inl (y 0, 228, .inl ft))] [(mo, .inr (11, [.ref to, .ref ke, .ref ik, .ref mrf, .long mab, .long mbl, .ref ha, .ref r0, .ref mbr, .ref mbp, .ref mby, .int (nI bl), .int (nI ta), .int (nI tl), .int (nI tk), .int vv, .ref an, .ref va])), (mrf, .inl (y 0, 3, .inl frf))] [(to, .inl (y 0, 228, .inl ft))] [0, 1] [2] := ⟨rfl, rfl, rfl, rfl, rfl, by decide⟩
      refine kw_go_i hs61 hP hD hS hA (va_runV (As := []) (rest := []) ⟨hx, hb, hml, hown, hts⟩ (gr_no l D y mo to ke ik mrf ha r0 mbr mbp mby an va mab mbl bl ta tl tk vv frf  _) (cwV 0 hts gX11_glean_X11_no rfl rfl rfl (by decide +kernel) ⟨Nat.le_of_ble_eq_true rfl, Nat.le_of_ble_eq_true rfl⟩) (kw_PreV (ci := 11) (q0 := 0) hs61 hP hD hK hN rfl rfl) rfl rfl hl.1 rfl (lv_room (Nat.le_of_ble_eq_true rfl)) dX11_glean_34 ⟨Nat.le_of_ble_eq_true rfl, Nat.le_of_ble_eq_true rfl⟩) (fun r62 u63 H locs hq hP hD hS => ?_)
      obtain rfl := hq
      have hP : va_P D vwCl [(to, .inl (y 0, 228, .inl ft)), (mo, .inr (11, [.ref to, .ref ke, .ref ik, .ref mrf, .long mab, .long mbl, .ref ha, .ref r0, .ref mbr, .ref mbp, .ref mby, .int (nI bl), .int (nI ta), .int (nI tl), .int (nI tk), .int vv, .ref an, .ref va])), (mrf, .inl (y 0, 3, .inl (upd frf 1 ((frf 1) + 1))))] H := hP
      have hD : va_D A [(to, .inl (y 0, 228, .inl ft)), (mo, .inr (11, [.ref to, .ref ke, .ref ik, .ref mrf, .long mab, .long mbl, .ref ha, .ref r0, .ref mbr, .ref mbp, .ref mby, .int (nI bl), .int (nI ta), .int (nI tl), .int (nI tk), .int vv, .ref an, .ref va])), (mrf, .inl (y 0, 3, .inl (upd frf 1 ((frf 1) + 1))))] := hD
      exact W.iret (v := (-3)) hx hb hr (fun tZ ht hW => ⟨⟨(-3), ((upd frf 1 ((frf 1) + 1)), ft, un), rfl, ⟨hkt, hk0_, hk1_, hk2_, hk3_, by first | omega | (dsimp only; omega), hk4_, by first | omega | (dsimp only; omega)⟩, by rw [ht]; exact hP.sub [1, 2, 0] rfl, hD.sub [1, 2, 0] (by decide) rfl⟩, hS.F ht⟩) hS.2.2 dX11_glean_37
  · skip
    have hP : va_P D vwCl [(mo, .inr (11, [.ref to, .ref ke, .ref ik, .ref mrf, .long mab, .long mbl, .ref ha, .ref r0, .ref mbr, .ref mbp, .ref mby, .int (nI bl), .int (nI ta), .int (nI tl), .int (nI tk), .int vv, .ref an, .ref va])), (mrf, .inl (y 0, 3, .inl frf)), (to, .inl (y 0, 228, .inl ft))] H := hP
    have hD : va_D A [(mo, .inr (11, [.ref to, .ref ke, .ref ik, .ref mrf, .long mab, .long mbl, .ref ha, .ref r0, .ref mbr, .ref mbp, .ref mby, .int (nI bl), .int (nI ta), .int (nI tl), .int (nI tk), .int vv, .ref an, .ref va])), (mrf, .inl (y 0, 3, .inl frf)), (to, .inl (y 0, 228, .inl ft))] := hD
    refine lv_if_ne (tgt := 19) hx hb dX11_glean_9 (by decide) (fun h9 => absurd h9 (by decide)) (fun _ => ?_)
    refine lv_aload_n hx hb dX11_glean_12 rfl (lv_at hl 0 rfl) ?_
    refine lv_bipush (v := (-2)) hx hb dX11_glean_13 (by decide) ?_
    have hs64 : kw_Split [(mo, .inr (11, [.ref to, .ref ke, .ref ik, .ref mrf, .long mab, .long mbl, .ref ha, .ref r0, .ref mbr, .ref mbp, .ref mby, .int (nI bl), .int (nI ta), .int (nI tl), .int (nI tk), .int vv, .ref an, .ref va])), (mrf, .inl (y 0, 3, .inl frf)), (to, .inl (y 0, 228, .inl ft))] [(mo, .inr (11, [.ref to, .ref ke, .ref ik, .ref mrf, .long mab, .long mbl, .ref ha, .ref r0, .ref mbr, .ref mbp, .ref mby, .int (nI bl), .int (nI ta), .int (nI tl), .int (nI tk), .int vv, .ref an, .ref va])), (mrf, .inl (y 0, 3, .inl frf))] [(to, .inl (y 0, 228, .inl ft))] [0, 1] [2] := ⟨rfl, rfl, rfl, rfl, rfl, by decide⟩
    refine kw_go_i hs64 hP hD hS hA (va_runV (As := [.int (-2)]) (rest := []) ⟨hx, hb, hml, hown, hts⟩ (gr_bad l D y mo to ke ik mrf ha r0 mbr mbp mby an va mab mbl bl ta tl tk vv frf (-2)  _) (cwV 1 hts gX11_glean_X11_bad rfl rfl rfl (by decide +kernel) ⟨Nat.le_of_ble_eq_true rfl, Nat.le_of_ble_eq_true rfl⟩) (kw_PreV (ci := 11) (q0 := 0) hs64 hP hD hK hN rfl rfl) rfl rfl hl.1 rfl (lv_room (Nat.le_of_ble_eq_true rfl)) dX11_glean_15 ⟨Nat.le_of_ble_eq_true rfl, Nat.le_of_ble_eq_true rfl⟩) (fun r65 u66 H locs hq hP hD hS => ?_)
    obtain rfl := hq
    have hP : va_P D vwCl [(to, .inl (y 0, 228, .inl ft)), (mo, .inr (11, [.ref to, .ref ke, .ref ik, .ref mrf, .long mab, .long mbl, .ref ha, .ref r0, .ref mbr, .ref mbp, .ref mby, .int (nI bl), .int (nI ta), .int (nI tl), .int (nI tk), .int vv, .ref an, .ref va])), (mrf, .inl (y 0, 3, .inl (upd frf 0 ((frf 0) + 1))))] H := hP
    have hD : va_D A [(to, .inl (y 0, 228, .inl ft)), (mo, .inr (11, [.ref to, .ref ke, .ref ik, .ref mrf, .long mab, .long mbl, .ref ha, .ref r0, .ref mbr, .ref mbp, .ref mby, .int (nI bl), .int (nI ta), .int (nI tl), .int (nI tk), .int vv, .ref an, .ref va])), (mrf, .inl (y 0, 3, .inl (upd frf 0 ((frf 0) + 1))))] := hD
    exact W.iret (v := (-2)) hx hb hr (fun tZ ht hW => ⟨⟨(-2), ((upd frf 0 ((frf 0) + 1)), ft, un), rfl, ⟨hkt, hk0_, hk1_, hk2_, hk3_, by first | omega | (dsimp only; omega), hk4_, by first | omega | (dsimp only; omega)⟩, by rw [ht]; exact hP.sub [1, 2, 0] rfl, hD.sub [1, 2, 0] (by decide) rfl⟩, hS.F ht⟩) hS.2.2 dX11_glean_18

set_option maxHeartbeats 4000000 in
set_option maxRecDepth 100000 in
theorem gq_night (l : Launch) (D : va_G) (y : Nat → ClassId) (mo : Nat) (to : Nat) (ke : Nat) (ik : Nat) (mrf : Nat) (ha : Nat) (r0 : Nat) (mbr : Nat) (mbp : Nat) (mby : Nat) (an : Nat) (va : Nat) (mab : Int64) (mbl : Int64) (bl : Nat) (ta : Nat) (tl : Nat) (tk : Nat) (vv : Int32) (frf : Nat → Int32) (ft : Nat → Int32) (fi : Nat) (gl : Nat) (mi : Nat) (no : Nat) (un : Nat) (hk0_ : ft 0 = (nI fi)) (hk1_ : ft 1 = (nI gl)) (hk2_ : ft 2 = (nI mi)) (hk3_ : ft 3 = (nI no)) (hk4_ : ft 4 = (nI un)) (hkt : kr_t 228 ft) (hfi : fi ≤ 6) (hgl : gl ≤ 5) (hmi : mi ≤ 4) (hno : no ≤ 6) (hun : un ≤ 8) (hgf : (gl = 0 ∨ 0 < fi)) : kw_Mi l yX11_night wsX11_night ({ frames := 3, cells := 0, slots := 0, locals := 102 }) D y [.ref mo] [(mo, .inr (11, [.ref to, .ref ke, .ref ik, .ref mrf, .long mab, .long mbl, .ref ha, .ref r0, .ref mbr, .ref mbp, .ref mby, .int (nI bl), .int (nI ta), .int (nI tl), .int (nI tk), .int vv, .ref an, .ref va])), (mrf, .inl (y 0, 3, .inl frf)), (to, .inl (y 0, 228, .inl ft))] (fun (r : Int32) (u : (Nat → Int32) × Nat) => kr_t 228 u.1 ∧ u.1 0 = (nI fi) ∧ u.1 1 = (nI gl) ∧ u.1 2 = (nI mi) ∧ u.1 3 = (nI no) ∧ u.2 ≤ 8 ∧ u.1 4 = (nI u.2) ∧ (gl = 0 ∨ 0 < fi)) (fun u => [(mo, .inr (11, [.ref to, .ref ke, .ref ik, .ref mrf, .long mab, .long mbl, .ref ha, .ref r0, .ref mbr, .ref mbp, .ref mby, .int (nI bl), .int (nI ta), .int (nI tl), .int (nI tk), .int vv, .ref an, .ref va])), (mrf, .inl (y 0, 3, .inl frf)), (to, .inl (y 0, 228, .inl u.1))]) 0 0 := by
  refine kw_Mi.of (cc := cX11_night) (maxL := 1) (ret := (some .int)) (by decide) rfl ?_
  intro pZ eZ s mZ beZ meZ cZ A hE
  obtain ⟨hx, hb, hr, hml, hts, hown, hlocks, hin, hA, hP, hD, hK, hN⟩ := hE
  have hS : va_S A s.heap s.heap [] := va_S.rf
  have hl := lv_entry ([.ref mo]) (n := 1) (Nat.le_of_ble_eq_true rfl)
  rw [lg_entry_eq]
  generalize (lg_sl ([.ref mo]) ++ List.replicate (1 - (lg_sl ([.ref mo])).length) Slot.unset).toArray = ls at hl ⊢
  have hl : lv_has ls 1 [(0, .ref mo)] := hl
  have fw1 := hts (.fieldLink RX11 7 "GleanDuskModel" "told" "[I") (List.mem_of_getElem? (i := 1) rfl)
  have iw11 : ∀ w ∈ wsX110, w ∈ wsX11_night := fun _ h => List.mem_cons_of_mem _ (List.mem_append_right _ h)
  refine lv_aload_n hx hb dX11_night_0 rfl (lv_at hl 0 rfl) ?_
  have hs1 : kw_Split [(mo, .inr (11, [.ref to, .ref ke, .ref ik, .ref mrf, .long mab, .long mbl, .ref ha, .ref r0, .ref mbr, .ref mbp, .ref mby, .int (nI bl), .int (nI ta), .int (nI tl), .int (nI tk), .int vv, .ref an, .ref va])), (mrf, .inl (y 0, 3, .inl frf)), (to, .inl (y 0, 228, .inl ft))] [(mo, .inr (11, [.ref to, .ref ke, .ref ik, .ref mrf, .long mab, .long mbl, .ref ha, .ref r0, .ref mbr, .ref mbp, .ref mby, .int (nI bl), .int (nI ta), .int (nI tl), .int (nI tk), .int vv, .ref an, .ref va])), (to, .inl (y 0, 228, .inl ft))] [(mrf, .inl (y 0, 3, .inl frf))] [0, 2] [1] := ⟨rfl, rfl, rfl, rfl, rfl, by decide⟩
  refine kw_go_v hs1 hP hD hS hA (va_runV (As := []) (rest := []) ⟨hx, hb, hml, hown, hts⟩ (gr_keep l D y mo to ke ik mrf ha r0 mbr mbp mby an va mab mbl bl ta tl tk vv ft fi gl mi no un hk0_ hk1_ hk2_ hk3_ hk4_ hkt hfi hgl hmi hno hun _) (cwV 0 hts gX11_night_X11_keep rfl rfl rfl (by decide +kernel) ⟨Nat.le_of_ble_eq_true rfl, Nat.le_of_ble_eq_true rfl⟩) (kw_PreV (ci := 11) (q0 := 0) hs1 hP hD hK hN rfl rfl) rfl rfl hl.1 rfl (lv_room (Nat.le_of_ble_eq_true rfl)) dX11_night_1 ⟨Nat.le_of_ble_eq_true rfl, Nat.le_of_ble_eq_true rfl⟩) (fun u3 H locs hq hP hD hS => ?_)
  obtain ⟨v4, v5⟩ := u3
  try dsimp only at hq
  obtain ⟨h6, h7, h8, h9, h10, h11, h12⟩ := hq
  have hP : va_P D vwCl [(mrf, .inl (y 0, 3, .inl frf)), (mo, .inr (11, [.ref to, .ref ke, .ref ik, .ref mrf, .long mab, .long mbl, .ref ha, .ref r0, .ref mbr, .ref mbp, .ref mby, .int (nI bl), .int (nI ta), .int (nI tl), .int (nI tk), .int vv, .ref an, .ref va])), (to, .inl (y 0, 228, .inl v4))] H := hP
  have hD : va_D A [(mrf, .inl (y 0, 3, .inl frf)), (mo, .inr (11, [.ref to, .ref ke, .ref ik, .ref mrf, .long mab, .long mbl, .ref ha, .ref r0, .ref mbr, .ref mbp, .ref mby, .int (nI bl), .int (nI ta), .int (nI tl), .int (nI tk), .int vv, .ref an, .ref va])), (to, .inl (y 0, 228, .inl v4))] := hD
  refine lv_aload_n hx hb dX11_night_4 rfl (lv_at hl 0 rfl) ?_
  refine va_get (D := D) (ci := 11) (v := .ref to) (C := RX11) (T := TX11) (N := 18) hx hb hts iw11 hown hK hP 1 rfl rfl 0 (by decide) fw1 (fun _ h9 => h9) rfl dX11_night_5 ?_
  have hs13 : kw_Split [(mrf, .inl (y 0, 3, .inl frf)), (mo, .inr (11, [.ref to, .ref ke, .ref ik, .ref mrf, .long mab, .long mbl, .ref ha, .ref r0, .ref mbr, .ref mbp, .ref mby, .int (nI bl), .int (nI ta), .int (nI tl), .int (nI tk), .int vv, .ref an, .ref va])), (to, .inl (y 0, 228, .inl v4))] [(to, .inl (y 0, 228, .inl v4))] [(mrf, .inl (y 0, 3, .inl frf)), (mo, .inr (11, [.ref to, .ref ke, .ref ik, .ref mrf, .long mab, .long mbl, .ref ha, .ref r0, .ref mbr, .ref mbp, .ref mby, .int (nI bl), .int (nI ta), .int (nI tl), .int (nI tk), .int vv, .ref an, .ref va]))] [2] [0, 1] := ⟨rfl, rfl, rfl, rfl, rfl, by decide⟩
  refine kw_go_v hs13 hP hD hS hA (va_runS (As := [.ref to]) (rest := []) ⟨hx, hb, hml, hown, hts⟩ (gr_goNight228 l D y to v4 fi gl mi no v5 h7 h8 h9 h10 h12 h6 hfi hgl hmi hno (by omega) _) (va_cwS 1 hts gX11_night_X11_goNight rfl rfl rfl (by decide +kernel) ⟨Nat.le_of_ble_eq_true rfl, Nat.le_of_ble_eq_true rfl⟩) (kw_PreS hs13 hP hD hK hN) rfl rfl hl.1 rfl (lv_room (Nat.le_of_ble_eq_true rfl)) dX11_night_8 ⟨Nat.le_of_ble_eq_true rfl, Nat.le_of_ble_eq_true rfl⟩) (fun u15 H locs hq hP hD hS => ?_)
  obtain ⟨v16, rfl⟩ : ∃ z, z = u15 := ⟨_, rfl⟩
  try dsimp only at hq
  obtain ⟨h17, h18, h19, h20, h21, h22⟩ := hq
  have hP : va_P D vwCl [(mrf, .inl (y 0, 3, .inl frf)), (mo, .inr (11, [.ref to, .ref ke, .ref ik, .ref mrf, .long mab, .long mbl, .ref ha, .ref r0, .ref mbr, .ref mbp, .ref mby, .int (nI bl), .int (nI ta), .int (nI tl), .int (nI tk), .int vv, .ref an, .ref va])), (to, .inl (y 0, 228, .inl v16))] H := hP
  have hD : va_D A [(mrf, .inl (y 0, 3, .inl frf)), (mo, .inr (11, [.ref to, .ref ke, .ref ik, .ref mrf, .long mab, .long mbl, .ref ha, .ref r0, .ref mbr, .ref mbp, .ref mby, .int (nI bl), .int (nI ta), .int (nI tl), .int (nI tk), .int vv, .ref an, .ref va])), (to, .inl (y 0, 228, .inl v16))] := hD
  refine lv_aload_n hx hb dX11_night_11 rfl (lv_at hl 0 rfl) ?_
  refine va_get (D := D) (ci := 11) (v := .ref to) (C := RX11) (T := TX11) (N := 18) hx hb hts iw11 hown hK hP 1 rfl rfl 0 (by decide) fw1 (fun _ h9 => h9) rfl dX11_night_12 ?_
  refine lv_bipush (v := 23) hx hb dX11_night_15 (by decide) ?_
  refine va_iald hx hb hK hP 2 0 rfl rfl (by unfold vp_in; decide) dX11_night_17 ?_
  rw [show ((23 : Int32)).toNatClampNeg = 23 from rfl]
  exact W.iret (v := (v16 23)) hx hb hr (fun tZ ht hW => ⟨⟨(v16 23), (v16, v5), rfl, ⟨h17, h18, h19, h20, h21, by first | omega | (dsimp only; omega), h22, by first | omega | (dsimp only; omega)⟩, by rw [ht]; exact hP.sub [1, 0, 2] rfl, hD.sub [1, 0, 2] (by decide) rfl⟩, hS.F ht⟩) hS.2.2 dX11_night_18

set_option maxHeartbeats 4000000 in
set_option maxRecDepth 100000 in
theorem gq_goes (l : Launch) (D : va_G) (y : Nat → ClassId) (mo : Nat) (to : Nat) (ke : Nat) (ik : Nat) (mrf : Nat) (ha : Nat) (r0 : Nat) (mbr : Nat) (mbp : Nat) (mby : Nat) (an : Nat) (va : Nat) (mab : Int64) (mbl : Int64) (bl : Nat) (ta : Nat) (tl : Nat) (tk : Nat) (vv : Int32) (frf : Nat → Int32) (ft : Nat → Int32) (fi : Nat) (gl : Nat) (mi : Nat) (no : Nat) (un : Nat) (x : Int32) (x2 : Int32) (hk0_ : ft 0 = (nI fi)) (hk1_ : ft 1 = (nI gl)) (hk2_ : ft 2 = (nI mi)) (hk3_ : ft 3 = (nI no)) (hk4_ : ft 4 = (nI un)) (hkt : kr_t 228 ft) (hfi : fi ≤ 6) (hgl : gl ≤ 5) (hmi : mi ≤ 4) (hno : no ≤ 6) (hun : un ≤ 8) (hgf : (gl = 0 ∨ 0 < fi)) : kw_Mi l yX11_goes wsX11_goes ({ frames := 3, cells := 0, slots := 0, locals := 106 }) D y [.ref mo, .int x, .int x2] [(mo, .inr (11, [.ref to, .ref ke, .ref ik, .ref mrf, .long mab, .long mbl, .ref ha, .ref r0, .ref mbr, .ref mbp, .ref mby, .int (nI bl), .int (nI ta), .int (nI tl), .int (nI tk), .int vv, .ref an, .ref va])), (mrf, .inl (y 0, 3, .inl frf)), (to, .inl (y 0, 228, .inl ft))] (fun (r : Int32) (u : (Nat → Int32) × (Nat → Int32) × Nat) => kr_t 228 u.2.1 ∧ u.2.1 0 = (nI fi) ∧ u.2.1 1 = (nI gl) ∧ u.2.1 2 = (nI mi) ∧ u.2.1 3 = (nI no) ∧ u.2.2 ≤ 8 ∧ u.2.1 4 = (nI u.2.2) ∧ (gl = 0 ∨ 0 < fi)) (fun u => [(mo, .inr (11, [.ref to, .ref ke, .ref ik, .ref mrf, .long mab, .long mbl, .ref ha, .ref r0, .ref mbr, .ref mbp, .ref mby, .int (nI bl), .int (nI ta), .int (nI tl), .int (nI tk), .int vv, .ref an, .ref va])), (mrf, .inl (y 0, 3, .inl u.1)), (to, .inl (y 0, 228, .inl u.2.1))]) 0 0 := by
  refine kw_Mi.of (cc := cX11_goes) (maxL := 4) (ret := (some .int)) (by decide) rfl ?_
  intro pZ eZ s mZ beZ meZ cZ A hE
  obtain ⟨hx, hb, hr, hml, hts, hown, hlocks, hin, hA, hP, hD, hK, hN⟩ := hE
  have hS : va_S A s.heap s.heap [] := va_S.rf
  have hl := lv_entry ([.ref mo, .int x, .int x2]) (n := 4) (Nat.le_of_ble_eq_true rfl)
  rw [lg_entry_eq]
  generalize (lg_sl ([.ref mo, .int x, .int x2]) ++ List.replicate (4 - (lg_sl ([.ref mo, .int x, .int x2])).length) Slot.unset).toArray = ls at hl ⊢
  have hl : lv_has ls 4 [(0, .ref mo), (1, .int x), (2, .int x2)] := hl
  have fw1 := hts (.fieldLink RX11 7 "GleanDuskModel" "told" "[I") (List.mem_of_getElem? (i := 1) rfl)
  have iw11 : ∀ w ∈ wsX110, w ∈ wsX11_goes := fun _ h => List.mem_cons_of_mem _ (List.mem_append_right _ h)
  refine lv_aload_n hx hb dX11_goes_0 rfl (lv_at hl 0 rfl) ?_
  refine lv_iload_n hx hb dX11_goes_1 rfl (lv_at hl 1 rfl) ?_
  have hs1 : kw_Split [(mo, .inr (11, [.ref to, .ref ke, .ref ik, .ref mrf, .long mab, .long mbl, .ref ha, .ref r0, .ref mbr, .ref mbp, .ref mby, .int (nI bl), .int (nI ta), .int (nI tl), .int (nI tk), .int vv, .ref an, .ref va])), (mrf, .inl (y 0, 3, .inl frf)), (to, .inl (y 0, 228, .inl ft))] [(mo, .inr (11, [.ref to, .ref ke, .ref ik, .ref mrf, .long mab, .long mbl, .ref ha, .ref r0, .ref mbr, .ref mbp, .ref mby, .int (nI bl), .int (nI ta), .int (nI tl), .int (nI tk), .int vv, .ref an, .ref va])), (to, .inl (y 0, 228, .inl ft))] [(mrf, .inl (y 0, 3, .inl frf))] [0, 2] [1] := ⟨rfl, rfl, rfl, rfl, rfl, by decide⟩
  refine kw_go_i hs1 hP hD hS hA (va_runV (As := [.int x]) (rest := []) ⟨hx, hb, hml, hown, hts⟩ (gr_isGleaner l D y mo to ke ik mrf ha r0 mbr mbp mby an va mab mbl bl ta tl tk vv ft fi gl mi no un x hk0_ hk1_ hk2_ hk3_ hk4_ hkt hfi hgl hmi hno hun _) (cwV 1 hts gX11_goes_X11_isGleaner rfl rfl rfl (by decide +kernel) ⟨Nat.le_of_ble_eq_true rfl, Nat.le_of_ble_eq_true rfl⟩) (kw_PreV (ci := 11) (q0 := 0) hs1 hP hD hK hN rfl rfl) rfl rfl hl.1 rfl (lv_room (Nat.le_of_ble_eq_true rfl)) dX11_goes_2 ⟨Nat.le_of_ble_eq_true rfl, Nat.le_of_ble_eq_true rfl⟩) (fun r2 u3 H locs hq hP hD hS => ?_)
  rcases hq with ⟨j4, h5, rfl, rfl⟩ | ⟨h6, rfl⟩
  · skip
    have hP : va_P D vwCl [(mrf, .inl (y 0, 3, .inl frf)), (mo, .inr (11, [.ref to, .ref ke, .ref ik, .ref mrf, .long mab, .long mbl, .ref ha, .ref r0, .ref mbr, .ref mbp, .ref mby, .int (nI bl), .int (nI ta), .int (nI tl), .int (nI tk), .int vv, .ref an, .ref va])), (to, .inl (y 0, 228, .inl ft))] H := hP
    have hD : va_D A [(mrf, .inl (y 0, 3, .inl frf)), (mo, .inr (11, [.ref to, .ref ke, .ref ik, .ref mrf, .long mab, .long mbl, .ref ha, .ref r0, .ref mbr, .ref mbp, .ref mby, .int (nI bl), .int (nI ta), .int (nI tl), .int (nI tk), .int vv, .ref an, .ref va])), (to, .inl (y 0, 228, .inl ft))] := hD
    refine lv_if_eq (tgt := 16) hx hb dX11_goes_5 (by decide) (fun h9 => absurd h9 (by decide)) (fun _ => ?_)
    refine lv_aload_n hx hb dX11_goes_8 rfl (lv_at hl 0 rfl) ?_
    refine lv_iload_n hx hb dX11_goes_9 rfl (lv_at hl 2 rfl) ?_
    have hs7 : kw_Split [(mrf, .inl (y 0, 3, .inl frf)), (mo, .inr (11, [.ref to, .ref ke, .ref ik, .ref mrf, .long mab, .long mbl, .ref ha, .ref r0, .ref mbr, .ref mbp, .ref mby, .int (nI bl), .int (nI ta), .int (nI tl), .int (nI tk), .int vv, .ref an, .ref va])), (to, .inl (y 0, 228, .inl ft))] [(mo, .inr (11, [.ref to, .ref ke, .ref ik, .ref mrf, .long mab, .long mbl, .ref ha, .ref r0, .ref mbr, .ref mbp, .ref mby, .int (nI bl), .int (nI ta), .int (nI tl), .int (nI tk), .int vv, .ref an, .ref va])), (to, .inl (y 0, 228, .inl ft))] [(mrf, .inl (y 0, 3, .inl frf))] [1, 2] [0] := ⟨rfl, rfl, rfl, rfl, rfl, by decide⟩
    refine kw_go_i hs7 hP hD hS hA (va_runV (As := [.int x2]) (rest := []) ⟨hx, hb, hml, hown, hts⟩ (gr_isField l D y mo to ke ik mrf ha r0 mbr mbp mby an va mab mbl bl ta tl tk vv ft fi gl mi no un x2 hk0_ hk1_ hk2_ hk3_ hk4_ hkt hfi hgl hmi hno hun _) (cwV 1 hts gX11_goes_X11_isField rfl rfl rfl (by decide +kernel) ⟨Nat.le_of_ble_eq_true rfl, Nat.le_of_ble_eq_true rfl⟩) (kw_PreV (ci := 11) (q0 := 1) hs7 hP hD hK hN rfl rfl) rfl rfl hl.1 rfl (lv_room (Nat.le_of_ble_eq_true rfl)) dX11_goes_10 ⟨Nat.le_of_ble_eq_true rfl, Nat.le_of_ble_eq_true rfl⟩) (fun r8 u9 H locs hq hP hD hS => ?_)
    rcases hq with ⟨j10, h11, rfl, rfl⟩ | ⟨h12, rfl⟩
    · skip
      have hP : va_P D vwCl [(mrf, .inl (y 0, 3, .inl frf)), (mo, .inr (11, [.ref to, .ref ke, .ref ik, .ref mrf, .long mab, .long mbl, .ref ha, .ref r0, .ref mbr, .ref mbp, .ref mby, .int (nI bl), .int (nI ta), .int (nI tl), .int (nI tk), .int vv, .ref an, .ref va])), (to, .inl (y 0, 228, .inl ft))] H := hP
      have hD : va_D A [(mrf, .inl (y 0, 3, .inl frf)), (mo, .inr (11, [.ref to, .ref ke, .ref ik, .ref mrf, .long mab, .long mbl, .ref ha, .ref r0, .ref mbr, .ref mbp, .ref mby, .int (nI bl), .int (nI ta), .int (nI tl), .int (nI tk), .int vv, .ref an, .ref va])), (to, .inl (y 0, 228, .inl ft))] := hD
      refine lv_if_ne (tgt := 23) hx hb dX11_goes_13 (by decide) (fun _ => ?_) (fun h9 => absurd h9 (by decide))
      refine lv_aload_n hx hb dX11_goes_23 rfl (lv_at hl 0 rfl) ?_
      refine va_get (D := D) (ci := 11) (v := .ref to) (C := RX11) (T := TX11) (N := 18) hx hb hts iw11 hown hK hP 1 rfl rfl 0 (by decide) fw1 (fun _ h9 => h9) rfl dX11_goes_24 ?_
      refine lv_bipush (v := 11) hx hb dX11_goes_27 (by decide) ?_
      refine lv_iload_n hx hb dX11_goes_29 rfl (lv_at hl 1 rfl) ?_
      refine lv_iadd hx hb dX11_goes_30 ?_
      rw [show 11 + (nI j4) = nI (j4 + 11) from (nI_add 11 j4).trans (congrArg nI (by omega))]
      refine va_iald hx hb hK hP 2 0 rfl rfl (vp_in_nI (by omega) (by decide)) dX11_goes_31 ?_
      rw [nI_clamp (n := (j4 + 11)) (by omega)]
      obtain ⟨w13, h14, h15⟩ := kr_at hkt (p := (j4 + 11)) (by omega) (by unfold kr_a; omega)
      rw [h15]
      refine lv_istore_n (lv' := [(3, .int (nI w13)), (0, .ref mo), (1, .int (nI j4)), (2, .int (nI j10))]) hx hb dX11_goes_32 rfl hl (by decide) rfl (fun ls hl => ?_)
      refine lv_aload_n hx hb dX11_goes_33 rfl (lv_at hl 1 rfl) ?_
      have hs16 : kw_Split [(mrf, .inl (y 0, 3, .inl frf)), (mo, .inr (11, [.ref to, .ref ke, .ref ik, .ref mrf, .long mab, .long mbl, .ref ha, .ref r0, .ref mbr, .ref mbp, .ref mby, .int (nI bl), .int (nI ta), .int (nI tl), .int (nI tk), .int vv, .ref an, .ref va])), (to, .inl (y 0, 228, .inl ft))] [(mo, .inr (11, [.ref to, .ref ke, .ref ik, .ref mrf, .long mab, .long mbl, .ref ha, .ref r0, .ref mbr, .ref mbp, .ref mby, .int (nI bl), .int (nI ta), .int (nI tl), .int (nI tk), .int vv, .ref an, .ref va])), (to, .inl (y 0, 228, .inl ft))] [(mrf, .inl (y 0, 3, .inl frf))] [1, 2] [0] := ⟨rfl, rfl, rfl, rfl, rfl, by decide⟩
      refine kw_go_v hs16 hP hD hS hA (va_runV (As := []) (rest := []) ⟨hx, hb, hml, hown, hts⟩ (gr_keep l D y mo to ke ik mrf ha r0 mbr mbp mby an va mab mbl bl ta tl tk vv ft fi gl mi no un hk0_ hk1_ hk2_ hk3_ hk4_ hkt hfi hgl hmi hno hun _) (cwV 0 hts gX11_goes_X11_keep rfl rfl rfl (by decide +kernel) ⟨Nat.le_of_ble_eq_true rfl, Nat.le_of_ble_eq_true rfl⟩) (kw_PreV (ci := 11) (q0 := 1) hs16 hP hD hK hN rfl rfl) rfl rfl hl.1 rfl (lv_room (Nat.le_of_ble_eq_true rfl)) dX11_goes_34 ⟨Nat.le_of_ble_eq_true rfl, Nat.le_of_ble_eq_true rfl⟩) (fun u18 H locs hq hP hD hS => ?_)
      obtain ⟨v19, v20⟩ := u18
      try dsimp only at hq
      obtain ⟨h21, h22, h23, h24, h25, h26, h27⟩ := hq
      have hP : va_P D vwCl [(mrf, .inl (y 0, 3, .inl frf)), (mo, .inr (11, [.ref to, .ref ke, .ref ik, .ref mrf, .long mab, .long mbl, .ref ha, .ref r0, .ref mbr, .ref mbp, .ref mby, .int (nI bl), .int (nI ta), .int (nI tl), .int (nI tk), .int vv, .ref an, .ref va])), (to, .inl (y 0, 228, .inl v19))] H := hP
      have hD : va_D A [(mrf, .inl (y 0, 3, .inl frf)), (mo, .inr (11, [.ref to, .ref ke, .ref ik, .ref mrf, .long mab, .long mbl, .ref ha, .ref r0, .ref mbr, .ref mbp, .ref mby, .int (nI bl), .int (nI ta), .int (nI tl), .int (nI tk), .int vv, .ref an, .ref va])), (to, .inl (y 0, 228, .inl v19))] := hD
      refine lv_aload_n hx hb dX11_goes_37 rfl (lv_at hl 1 rfl) ?_
      refine va_get (D := D) (ci := 11) (v := .ref to) (C := RX11) (T := TX11) (N := 18) hx hb hts iw11 hown hK hP 1 rfl rfl 0 (by decide) fw1 (fun _ h9 => h9) rfl dX11_goes_38 ?_
      refine lv_bipush (v := 11) hx hb dX11_goes_41 (by decide) ?_
      refine lv_iload_n hx hb dX11_goes_43 rfl (lv_at hl 2 rfl) ?_
      refine lv_iadd hx hb dX11_goes_44 ?_
      rw [show 11 + (nI j4) = nI (j4 + 11) from (nI_add 11 j4).trans (congrArg nI (by omega))]
      refine lv_iload_n hx hb dX11_goes_45 rfl (lv_at hl 3 rfl) ?_
      refine va_iast hx hb hK hP hD hS 2 0 rfl rfl (vp_in_nI (by omega) (by decide)) dX11_goes_46 (fun H locs hP hD hS => ?_)
      rw [nI_clamp (n := (j4 + 11)) (by omega)] at hP hD
      have hr28 : kr_t 228 (upd v19 (j4 + 11) (nI j10)) := kr_up h21 (kr_oka (vp_in_nI (by omega) (by decide)) (by unfold kr_s; omega))
      have hk29 : (upd v19 (j4 + 11) (nI j10)) 0 = (nI fi) := (pk_un (by omega)).trans h22
      have hk30 : (upd v19 (j4 + 11) (nI j10)) 1 = (nI gl) := (pk_un (by omega)).trans h23
      have hk31 : (upd v19 (j4 + 11) (nI j10)) 2 = (nI mi) := (pk_un (by omega)).trans h24
      have hk32 : (upd v19 (j4 + 11) (nI j10)) 3 = (nI no) := (pk_un (by omega)).trans h25
      have hk33 : (upd v19 (j4 + 11) (nI j10)) 4 = (nI v20) := (pk_un (by omega)).trans h27
      have hP : va_P D vwCl [(mrf, .inl (y 0, 3, .inl frf)), (mo, .inr (11, [.ref to, .ref ke, .ref ik, .ref mrf, .long mab, .long mbl, .ref ha, .ref r0, .ref mbr, .ref mbp, .ref mby, .int (nI bl), .int (nI ta), .int (nI tl), .int (nI tk), .int vv, .ref an, .ref va])), (to, .inl (y 0, 228, .inl (upd v19 (j4 + 11) (nI j10))))] H := hP
      have hD : va_D A [(mrf, .inl (y 0, 3, .inl frf)), (mo, .inr (11, [.ref to, .ref ke, .ref ik, .ref mrf, .long mab, .long mbl, .ref ha, .ref r0, .ref mbr, .ref mbp, .ref mby, .int (nI bl), .int (nI ta), .int (nI tl), .int (nI tk), .int vv, .ref an, .ref va])), (to, .inl (y 0, 228, .inl (upd v19 (j4 + 11) (nI j10))))] := hD
      refine lv_iload_n hx hb dX11_goes_47 rfl (lv_at hl 0 rfl) ?_
      exact W.iret (v := (nI w13)) hx hb hr (fun tZ ht hW => ⟨⟨(nI w13), (frf, (upd v19 (j4 + 11) (nI j10)), v20), rfl, ⟨hr28, hk29, hk30, hk31, hk32, by first | omega | (dsimp only; omega), hk33, by first | omega | (dsimp only; omega)⟩, by rw [ht]; exact hP.sub [1, 0, 2] rfl, hD.sub [1, 0, 2] (by decide) rfl⟩, hS.F ht⟩) hS.2.2 dX11_goes_48
    · skip
      have hP : va_P D vwCl [(mrf, .inl (y 0, 3, .inl frf)), (mo, .inr (11, [.ref to, .ref ke, .ref ik, .ref mrf, .long mab, .long mbl, .ref ha, .ref r0, .ref mbr, .ref mbp, .ref mby, .int (nI bl), .int (nI ta), .int (nI tl), .int (nI tk), .int vv, .ref an, .ref va])), (to, .inl (y 0, 228, .inl ft))] H := hP
      have hD : va_D A [(mrf, .inl (y 0, 3, .inl frf)), (mo, .inr (11, [.ref to, .ref ke, .ref ik, .ref mrf, .long mab, .long mbl, .ref ha, .ref r0, .ref mbr, .ref mbp, .ref mby, .int (nI bl), .int (nI ta), .int (nI tl), .int (nI tk), .int vv, .ref an, .ref va])), (to, .inl (y 0, 228, .inl ft))] := hD
      refine lv_if_ne (tgt := 23) hx hb dX11_goes_13 (by decide) (fun h9 => absurd h9 (by decide)) (fun _ => ?_)
      refine lv_aload_n hx hb dX11_goes_16 rfl (lv_at hl 0 rfl) ?_
      refine lv_bipush (v := (-2)) hx hb dX11_goes_17 (by decide) ?_
      have hs34 : kw_Split [(mrf, .inl (y 0, 3, .inl frf)), (mo, .inr (11, [.ref to, .ref ke, .ref ik, .ref mrf, .long mab, .long mbl, .ref ha, .ref r0, .ref mbr, .ref mbp, .ref mby, .int (nI bl), .int (nI ta), .int (nI tl), .int (nI tk), .int vv, .ref an, .ref va])), (to, .inl (y 0, 228, .inl ft))] [(mo, .inr (11, [.ref to, .ref ke, .ref ik, .ref mrf, .long mab, .long mbl, .ref ha, .ref r0, .ref mbr, .ref mbp, .ref mby, .int (nI bl), .int (nI ta), .int (nI tl), .int (nI tk), .int vv, .ref an, .ref va])), (mrf, .inl (y 0, 3, .inl frf))] [(to, .inl (y 0, 228, .inl ft))] [1, 0] [2] := ⟨rfl, rfl, rfl, rfl, rfl, by decide⟩
      refine kw_go_i hs34 hP hD hS hA (va_runV (As := [.int (-2)]) (rest := []) ⟨hx, hb, hml, hown, hts⟩ (gr_bad l D y mo to ke ik mrf ha r0 mbr mbp mby an va mab mbl bl ta tl tk vv frf (-2)  _) (cwV 1 hts gX11_goes_X11_bad rfl rfl rfl (by decide +kernel) ⟨Nat.le_of_ble_eq_true rfl, Nat.le_of_ble_eq_true rfl⟩) (kw_PreV (ci := 11) (q0 := 1) hs34 hP hD hK hN rfl rfl) rfl rfl hl.1 rfl (lv_room (Nat.le_of_ble_eq_true rfl)) dX11_goes_19 ⟨Nat.le_of_ble_eq_true rfl, Nat.le_of_ble_eq_true rfl⟩) (fun r35 u36 H locs hq hP hD hS => ?_)
      obtain rfl := hq
      have hP : va_P D vwCl [(to, .inl (y 0, 228, .inl ft)), (mo, .inr (11, [.ref to, .ref ke, .ref ik, .ref mrf, .long mab, .long mbl, .ref ha, .ref r0, .ref mbr, .ref mbp, .ref mby, .int (nI bl), .int (nI ta), .int (nI tl), .int (nI tk), .int vv, .ref an, .ref va])), (mrf, .inl (y 0, 3, .inl (upd frf 0 ((frf 0) + 1))))] H := hP
      have hD : va_D A [(to, .inl (y 0, 228, .inl ft)), (mo, .inr (11, [.ref to, .ref ke, .ref ik, .ref mrf, .long mab, .long mbl, .ref ha, .ref r0, .ref mbr, .ref mbp, .ref mby, .int (nI bl), .int (nI ta), .int (nI tl), .int (nI tk), .int vv, .ref an, .ref va])), (mrf, .inl (y 0, 3, .inl (upd frf 0 ((frf 0) + 1))))] := hD
      exact W.iret (v := (-2)) hx hb hr (fun tZ ht hW => ⟨⟨(-2), ((upd frf 0 ((frf 0) + 1)), ft, un), rfl, ⟨hkt, hk0_, hk1_, hk2_, hk3_, by first | omega | (dsimp only; omega), hk4_, by first | omega | (dsimp only; omega)⟩, by rw [ht]; exact hP.sub [1, 2, 0] rfl, hD.sub [1, 2, 0] (by decide) rfl⟩, hS.F ht⟩) hS.2.2 dX11_goes_22
  · skip
    have hP : va_P D vwCl [(mrf, .inl (y 0, 3, .inl frf)), (mo, .inr (11, [.ref to, .ref ke, .ref ik, .ref mrf, .long mab, .long mbl, .ref ha, .ref r0, .ref mbr, .ref mbp, .ref mby, .int (nI bl), .int (nI ta), .int (nI tl), .int (nI tk), .int vv, .ref an, .ref va])), (to, .inl (y 0, 228, .inl ft))] H := hP
    have hD : va_D A [(mrf, .inl (y 0, 3, .inl frf)), (mo, .inr (11, [.ref to, .ref ke, .ref ik, .ref mrf, .long mab, .long mbl, .ref ha, .ref r0, .ref mbr, .ref mbp, .ref mby, .int (nI bl), .int (nI ta), .int (nI tl), .int (nI tk), .int vv, .ref an, .ref va])), (to, .inl (y 0, 228, .inl ft))] := hD
    refine lv_if_eq (tgt := 16) hx hb dX11_goes_5 (by decide) (fun _ => ?_) (fun h9 => absurd h9 (by decide))
    refine lv_aload_n hx hb dX11_goes_16 rfl (lv_at hl 0 rfl) ?_
    refine lv_bipush (v := (-2)) hx hb dX11_goes_17 (by decide) ?_
    have hs37 : kw_Split [(mrf, .inl (y 0, 3, .inl frf)), (mo, .inr (11, [.ref to, .ref ke, .ref ik, .ref mrf, .long mab, .long mbl, .ref ha, .ref r0, .ref mbr, .ref mbp, .ref mby, .int (nI bl), .int (nI ta), .int (nI tl), .int (nI tk), .int vv, .ref an, .ref va])), (to, .inl (y 0, 228, .inl ft))] [(mo, .inr (11, [.ref to, .ref ke, .ref ik, .ref mrf, .long mab, .long mbl, .ref ha, .ref r0, .ref mbr, .ref mbp, .ref mby, .int (nI bl), .int (nI ta), .int (nI tl), .int (nI tk), .int vv, .ref an, .ref va])), (mrf, .inl (y 0, 3, .inl frf))] [(to, .inl (y 0, 228, .inl ft))] [1, 0] [2] := ⟨rfl, rfl, rfl, rfl, rfl, by decide⟩
    refine kw_go_i hs37 hP hD hS hA (va_runV (As := [.int (-2)]) (rest := []) ⟨hx, hb, hml, hown, hts⟩ (gr_bad l D y mo to ke ik mrf ha r0 mbr mbp mby an va mab mbl bl ta tl tk vv frf (-2)  _) (cwV 1 hts gX11_goes_X11_bad rfl rfl rfl (by decide +kernel) ⟨Nat.le_of_ble_eq_true rfl, Nat.le_of_ble_eq_true rfl⟩) (kw_PreV (ci := 11) (q0 := 1) hs37 hP hD hK hN rfl rfl) rfl rfl hl.1 rfl (lv_room (Nat.le_of_ble_eq_true rfl)) dX11_goes_19 ⟨Nat.le_of_ble_eq_true rfl, Nat.le_of_ble_eq_true rfl⟩) (fun r38 u39 H locs hq hP hD hS => ?_)
    obtain rfl := hq
    have hP : va_P D vwCl [(to, .inl (y 0, 228, .inl ft)), (mo, .inr (11, [.ref to, .ref ke, .ref ik, .ref mrf, .long mab, .long mbl, .ref ha, .ref r0, .ref mbr, .ref mbp, .ref mby, .int (nI bl), .int (nI ta), .int (nI tl), .int (nI tk), .int vv, .ref an, .ref va])), (mrf, .inl (y 0, 3, .inl (upd frf 0 ((frf 0) + 1))))] H := hP
    have hD : va_D A [(to, .inl (y 0, 228, .inl ft)), (mo, .inr (11, [.ref to, .ref ke, .ref ik, .ref mrf, .long mab, .long mbl, .ref ha, .ref r0, .ref mbr, .ref mbp, .ref mby, .int (nI bl), .int (nI ta), .int (nI tl), .int (nI tk), .int vv, .ref an, .ref va])), (mrf, .inl (y 0, 3, .inl (upd frf 0 ((frf 0) + 1))))] := hD
    exact W.iret (v := (-2)) hx hb hr (fun tZ ht hW => ⟨⟨(-2), ((upd frf 0 ((frf 0) + 1)), ft, un), rfl, ⟨hkt, hk0_, hk1_, hk2_, hk3_, by first | omega | (dsimp only; omega), hk4_, by first | omega | (dsimp only; omega)⟩, by rw [ht]; exact hP.sub [1, 2, 0] rfl, hD.sub [1, 2, 0] (by decide) rfl⟩, hS.F ht⟩) hS.2.2 dX11_goes_22

set_option maxHeartbeats 4000000 in
set_option maxRecDepth 100000 in
theorem gq_cloud (l : Launch) (D : va_G) (y : Nat → ClassId) (mo : Nat) (to : Nat) (ke : Nat) (ik : Nat) (mrf : Nat) (ha : Nat) (r0 : Nat) (mbr : Nat) (mbp : Nat) (mby : Nat) (an : Nat) (va : Nat) (mab : Int64) (mbl : Int64) (bl : Nat) (ta : Nat) (tl : Nat) (tk : Nat) (vv : Int32) (frf : Nat → Int32) (ft : Nat → Int32) (fi : Nat) (gl : Nat) (mi : Nat) (no : Nat) (un : Nat) (x : Int32) (hk0_ : ft 0 = (nI fi)) (hk1_ : ft 1 = (nI gl)) (hk2_ : ft 2 = (nI mi)) (hk3_ : ft 3 = (nI no)) (hk4_ : ft 4 = (nI un)) (hkt : kr_t 228 ft) (hfi : fi ≤ 6) (hgl : gl ≤ 5) (hmi : mi ≤ 4) (hno : no ≤ 6) (hun : un ≤ 8) (hgf : (gl = 0 ∨ 0 < fi)) : kw_Mi l yX11_cloud wsX11_cloud ({ frames := 3, cells := 0, slots := 0, locals := 105 }) D y [.ref mo, .int x] [(mo, .inr (11, [.ref to, .ref ke, .ref ik, .ref mrf, .long mab, .long mbl, .ref ha, .ref r0, .ref mbr, .ref mbp, .ref mby, .int (nI bl), .int (nI ta), .int (nI tl), .int (nI tk), .int vv, .ref an, .ref va])), (mrf, .inl (y 0, 3, .inl frf)), (to, .inl (y 0, 228, .inl ft))] (fun (r : Int32) (u : (Nat → Int32) × (Nat → Int32) × Nat) => kr_t 228 u.2.1 ∧ u.2.1 0 = (nI fi) ∧ u.2.1 1 = (nI gl) ∧ u.2.1 2 = (nI mi) ∧ u.2.1 3 = (nI no) ∧ u.2.2 ≤ 8 ∧ u.2.1 4 = (nI u.2.2) ∧ (gl = 0 ∨ 0 < fi)) (fun u => [(mo, .inr (11, [.ref to, .ref ke, .ref ik, .ref mrf, .long mab, .long mbl, .ref ha, .ref r0, .ref mbr, .ref mbp, .ref mby, .int (nI bl), .int (nI ta), .int (nI tl), .int (nI tk), .int vv, .ref an, .ref va])), (mrf, .inl (y 0, 3, .inl u.1)), (to, .inl (y 0, 228, .inl u.2.1))]) 0 0 := by
  refine kw_Mi.of (cc := cX11_cloud) (maxL := 3) (ret := (some .int)) (by decide) rfl ?_
  intro pZ eZ s mZ beZ meZ cZ A hE
  obtain ⟨hx, hb, hr, hml, hts, hown, hlocks, hin, hA, hP, hD, hK, hN⟩ := hE
  have hS : va_S A s.heap s.heap [] := va_S.rf
  have hl := lv_entry ([.ref mo, .int x]) (n := 3) (Nat.le_of_ble_eq_true rfl)
  rw [lg_entry_eq]
  generalize (lg_sl ([.ref mo, .int x]) ++ List.replicate (3 - (lg_sl ([.ref mo, .int x])).length) Slot.unset).toArray = ls at hl ⊢
  have hl : lv_has ls 3 [(0, .ref mo), (1, .int x)] := hl
  have fw1 := hts (.fieldLink RX11 7 "GleanDuskModel" "told" "[I") (List.mem_of_getElem? (i := 1) rfl)
  have iw11 : ∀ w ∈ wsX110, w ∈ wsX11_cloud := fun _ h => List.mem_cons_of_mem _ (List.mem_append_right _ h)
  refine lv_iload_n hx hb dX11_cloud_0 rfl (lv_at hl 1 rfl) ?_
  have hs1 : kw_Split [(mo, .inr (11, [.ref to, .ref ke, .ref ik, .ref mrf, .long mab, .long mbl, .ref ha, .ref r0, .ref mbr, .ref mbp, .ref mby, .int (nI bl), .int (nI ta), .int (nI tl), .int (nI tk), .int vv, .ref an, .ref va])), (mrf, .inl (y 0, 3, .inl frf)), (to, .inl (y 0, 228, .inl ft))] [] [(mo, .inr (11, [.ref to, .ref ke, .ref ik, .ref mrf, .long mab, .long mbl, .ref ha, .ref r0, .ref mbr, .ref mbp, .ref mby, .int (nI bl), .int (nI ta), .int (nI tl), .int (nI tk), .int vv, .ref an, .ref va])), (mrf, .inl (y 0, 3, .inl frf)), (to, .inl (y 0, 228, .inl ft))] [] [0, 1, 2] := ⟨rfl, rfl, rfl, rfl, rfl, by decide⟩
  refine kw_go_i hs1 hP hD hS hA (va_runS (As := [.int x]) (rest := []) ⟨hx, hb, hml, hown, hts⟩ (gr_isCloud l D y x  _) (va_cwS 1 hts gX11_cloud_X11_isCloud rfl rfl rfl (by decide +kernel) ⟨Nat.le_of_ble_eq_true rfl, Nat.le_of_ble_eq_true rfl⟩) (kw_PreS hs1 hP hD hK hN) rfl rfl hl.1 rfl (lv_room (Nat.le_of_ble_eq_true rfl)) dX11_cloud_1 ⟨Nat.le_of_ble_eq_true rfl, Nat.le_of_ble_eq_true rfl⟩) (fun r2 u3 H locs hq hP hD hS => ?_)
  rcases hq with ⟨j4, h5, rfl, rfl⟩ | ⟨h6, rfl⟩
  · skip
    have hP : va_P D vwCl [(mo, .inr (11, [.ref to, .ref ke, .ref ik, .ref mrf, .long mab, .long mbl, .ref ha, .ref r0, .ref mbr, .ref mbp, .ref mby, .int (nI bl), .int (nI ta), .int (nI tl), .int (nI tk), .int vv, .ref an, .ref va])), (mrf, .inl (y 0, 3, .inl frf)), (to, .inl (y 0, 228, .inl ft))] H := hP
    have hD : va_D A [(mo, .inr (11, [.ref to, .ref ke, .ref ik, .ref mrf, .long mab, .long mbl, .ref ha, .ref r0, .ref mbr, .ref mbp, .ref mby, .int (nI bl), .int (nI ta), .int (nI tl), .int (nI tk), .int vv, .ref an, .ref va])), (mrf, .inl (y 0, 3, .inl frf)), (to, .inl (y 0, 228, .inl ft))] := hD
    refine lv_if_ne (tgt := 14) hx hb dX11_cloud_4 (by decide) (fun _ => ?_) (fun h9 => absurd h9 (by decide))
    refine lv_aload_n hx hb dX11_cloud_14 rfl (lv_at hl 0 rfl) ?_
    refine va_get (D := D) (ci := 11) (v := .ref to) (C := RX11) (T := TX11) (N := 18) hx hb hts iw11 hown hK hP 0 rfl rfl 0 (by decide) fw1 (fun _ h9 => h9) rfl dX11_cloud_15 ?_
    refine lv_bipush (v := 22) hx hb dX11_cloud_18 (by decide) ?_
    refine va_iald hx hb hK hP 2 0 rfl rfl (by unfold vp_in; decide) dX11_cloud_20 ?_
    rw [show ((22 : Int32)).toNatClampNeg = 22 from rfl]
    refine lv_istore_n (lv' := [(2, .int (ft 22)), (0, .ref mo), (1, .int (nI j4))]) hx hb dX11_cloud_21 rfl hl (by decide) rfl (fun ls hl => ?_)
    refine lv_aload_n hx hb dX11_cloud_22 rfl (lv_at hl 1 rfl) ?_
    have hs7 : kw_Split [(mo, .inr (11, [.ref to, .ref ke, .ref ik, .ref mrf, .long mab, .long mbl, .ref ha, .ref r0, .ref mbr, .ref mbp, .ref mby, .int (nI bl), .int (nI ta), .int (nI tl), .int (nI tk), .int vv, .ref an, .ref va])), (mrf, .inl (y 0, 3, .inl frf)), (to, .inl (y 0, 228, .inl ft))] [(mo, .inr (11, [.ref to, .ref ke, .ref ik, .ref mrf, .long mab, .long mbl, .ref ha, .ref r0, .ref mbr, .ref mbp, .ref mby, .int (nI bl), .int (nI ta), .int (nI tl), .int (nI tk), .int vv, .ref an, .ref va])), (to, .inl (y 0, 228, .inl ft))] [(mrf, .inl (y 0, 3, .inl frf))] [0, 2] [1] := ⟨rfl, rfl, rfl, rfl, rfl, by decide⟩
    refine kw_go_v hs7 hP hD hS hA (va_runV (As := []) (rest := []) ⟨hx, hb, hml, hown, hts⟩ (gr_keep l D y mo to ke ik mrf ha r0 mbr mbp mby an va mab mbl bl ta tl tk vv ft fi gl mi no un hk0_ hk1_ hk2_ hk3_ hk4_ hkt hfi hgl hmi hno hun _) (cwV 0 hts gX11_cloud_X11_keep rfl rfl rfl (by decide +kernel) ⟨Nat.le_of_ble_eq_true rfl, Nat.le_of_ble_eq_true rfl⟩) (kw_PreV (ci := 11) (q0 := 0) hs7 hP hD hK hN rfl rfl) rfl rfl hl.1 rfl (lv_room (Nat.le_of_ble_eq_true rfl)) dX11_cloud_23 ⟨Nat.le_of_ble_eq_true rfl, Nat.le_of_ble_eq_true rfl⟩) (fun u9 H locs hq hP hD hS => ?_)
    obtain ⟨v10, v11⟩ := u9
    try dsimp only at hq
    obtain ⟨h12, h13, h14, h15, h16, h17, h18⟩ := hq
    have hP : va_P D vwCl [(mrf, .inl (y 0, 3, .inl frf)), (mo, .inr (11, [.ref to, .ref ke, .ref ik, .ref mrf, .long mab, .long mbl, .ref ha, .ref r0, .ref mbr, .ref mbp, .ref mby, .int (nI bl), .int (nI ta), .int (nI tl), .int (nI tk), .int vv, .ref an, .ref va])), (to, .inl (y 0, 228, .inl v10))] H := hP
    have hD : va_D A [(mrf, .inl (y 0, 3, .inl frf)), (mo, .inr (11, [.ref to, .ref ke, .ref ik, .ref mrf, .long mab, .long mbl, .ref ha, .ref r0, .ref mbr, .ref mbp, .ref mby, .int (nI bl), .int (nI ta), .int (nI tl), .int (nI tk), .int vv, .ref an, .ref va])), (to, .inl (y 0, 228, .inl v10))] := hD
    refine lv_aload_n hx hb dX11_cloud_26 rfl (lv_at hl 1 rfl) ?_
    refine va_get (D := D) (ci := 11) (v := .ref to) (C := RX11) (T := TX11) (N := 18) hx hb hts iw11 hown hK hP 1 rfl rfl 0 (by decide) fw1 (fun _ h9 => h9) rfl dX11_cloud_27 ?_
    refine lv_bipush (v := 22) hx hb dX11_cloud_30 (by decide) ?_
    refine lv_iload_n hx hb dX11_cloud_32 rfl (lv_at hl 2 rfl) ?_
    refine va_iast hx hb hK hP hD hS 2 0 rfl rfl (by unfold vp_in; decide) dX11_cloud_33 (fun H locs hP hD hS => ?_)
    rw [show ((22 : Int32)).toNatClampNeg = 22 from rfl] at hP hD
    have hr19 : kr_t 228 (upd v10 22 (nI j4)) := kr_up h12 (kr_free (by unfold kr_a; omega) (by unfold kr_s; omega))
    have hk20 : (upd v10 22 (nI j4)) 0 = (nI fi) := (pk_un (by decide)).trans h13
    have hk21 : (upd v10 22 (nI j4)) 1 = (nI gl) := (pk_un (by decide)).trans h14
    have hk22 : (upd v10 22 (nI j4)) 2 = (nI mi) := (pk_un (by decide)).trans h15
    have hk23 : (upd v10 22 (nI j4)) 3 = (nI no) := (pk_un (by decide)).trans h16
    have hk24 : (upd v10 22 (nI j4)) 4 = (nI v11) := (pk_un (by decide)).trans h18
    have hP : va_P D vwCl [(mrf, .inl (y 0, 3, .inl frf)), (mo, .inr (11, [.ref to, .ref ke, .ref ik, .ref mrf, .long mab, .long mbl, .ref ha, .ref r0, .ref mbr, .ref mbp, .ref mby, .int (nI bl), .int (nI ta), .int (nI tl), .int (nI tk), .int vv, .ref an, .ref va])), (to, .inl (y 0, 228, .inl (upd v10 22 (nI j4))))] H := hP
    have hD : va_D A [(mrf, .inl (y 0, 3, .inl frf)), (mo, .inr (11, [.ref to, .ref ke, .ref ik, .ref mrf, .long mab, .long mbl, .ref ha, .ref r0, .ref mbr, .ref mbp, .ref mby, .int (nI bl), .int (nI ta), .int (nI tl), .int (nI tk), .int vv, .ref an, .ref va])), (to, .inl (y 0, 228, .inl (upd v10 22 (nI j4))))] := hD
    refine lv_iload_n hx hb dX11_cloud_34 rfl (lv_at hl 0 rfl) ?_
    exact W.iret (v := (ft 22)) hx hb hr (fun tZ ht hW => ⟨⟨(ft 22), (frf, (upd v10 22 (nI j4)), v11), rfl, ⟨hr19, hk20, hk21, hk22, hk23, by first | omega | (dsimp only; omega), hk24, by first | omega | (dsimp only; omega)⟩, by rw [ht]; exact hP.sub [1, 0, 2] rfl, hD.sub [1, 0, 2] (by decide) rfl⟩, hS.F ht⟩) hS.2.2 dX11_cloud_35
  · skip
    have hP : va_P D vwCl [(mo, .inr (11, [.ref to, .ref ke, .ref ik, .ref mrf, .long mab, .long mbl, .ref ha, .ref r0, .ref mbr, .ref mbp, .ref mby, .int (nI bl), .int (nI ta), .int (nI tl), .int (nI tk), .int vv, .ref an, .ref va])), (mrf, .inl (y 0, 3, .inl frf)), (to, .inl (y 0, 228, .inl ft))] H := hP
    have hD : va_D A [(mo, .inr (11, [.ref to, .ref ke, .ref ik, .ref mrf, .long mab, .long mbl, .ref ha, .ref r0, .ref mbr, .ref mbp, .ref mby, .int (nI bl), .int (nI ta), .int (nI tl), .int (nI tk), .int vv, .ref an, .ref va])), (mrf, .inl (y 0, 3, .inl frf)), (to, .inl (y 0, 228, .inl ft))] := hD
    refine lv_if_ne (tgt := 14) hx hb dX11_cloud_4 (by decide) (fun h9 => absurd h9 (by decide)) (fun _ => ?_)
    refine lv_aload_n hx hb dX11_cloud_7 rfl (lv_at hl 0 rfl) ?_
    refine lv_bipush (v := (-2)) hx hb dX11_cloud_8 (by decide) ?_
    have hs25 : kw_Split [(mo, .inr (11, [.ref to, .ref ke, .ref ik, .ref mrf, .long mab, .long mbl, .ref ha, .ref r0, .ref mbr, .ref mbp, .ref mby, .int (nI bl), .int (nI ta), .int (nI tl), .int (nI tk), .int vv, .ref an, .ref va])), (mrf, .inl (y 0, 3, .inl frf)), (to, .inl (y 0, 228, .inl ft))] [(mo, .inr (11, [.ref to, .ref ke, .ref ik, .ref mrf, .long mab, .long mbl, .ref ha, .ref r0, .ref mbr, .ref mbp, .ref mby, .int (nI bl), .int (nI ta), .int (nI tl), .int (nI tk), .int vv, .ref an, .ref va])), (mrf, .inl (y 0, 3, .inl frf))] [(to, .inl (y 0, 228, .inl ft))] [0, 1] [2] := ⟨rfl, rfl, rfl, rfl, rfl, by decide⟩
    refine kw_go_i hs25 hP hD hS hA (va_runV (As := [.int (-2)]) (rest := []) ⟨hx, hb, hml, hown, hts⟩ (gr_bad l D y mo to ke ik mrf ha r0 mbr mbp mby an va mab mbl bl ta tl tk vv frf (-2)  _) (cwV 1 hts gX11_cloud_X11_bad rfl rfl rfl (by decide +kernel) ⟨Nat.le_of_ble_eq_true rfl, Nat.le_of_ble_eq_true rfl⟩) (kw_PreV (ci := 11) (q0 := 0) hs25 hP hD hK hN rfl rfl) rfl rfl hl.1 rfl (lv_room (Nat.le_of_ble_eq_true rfl)) dX11_cloud_10 ⟨Nat.le_of_ble_eq_true rfl, Nat.le_of_ble_eq_true rfl⟩) (fun r26 u27 H locs hq hP hD hS => ?_)
    obtain rfl := hq
    have hP : va_P D vwCl [(to, .inl (y 0, 228, .inl ft)), (mo, .inr (11, [.ref to, .ref ke, .ref ik, .ref mrf, .long mab, .long mbl, .ref ha, .ref r0, .ref mbr, .ref mbp, .ref mby, .int (nI bl), .int (nI ta), .int (nI tl), .int (nI tk), .int vv, .ref an, .ref va])), (mrf, .inl (y 0, 3, .inl (upd frf 0 ((frf 0) + 1))))] H := hP
    have hD : va_D A [(to, .inl (y 0, 228, .inl ft)), (mo, .inr (11, [.ref to, .ref ke, .ref ik, .ref mrf, .long mab, .long mbl, .ref ha, .ref r0, .ref mbr, .ref mbp, .ref mby, .int (nI bl), .int (nI ta), .int (nI tl), .int (nI tk), .int vv, .ref an, .ref va])), (mrf, .inl (y 0, 3, .inl (upd frf 0 ((frf 0) + 1))))] := hD
    exact W.iret (v := (-2)) hx hb hr (fun tZ ht hW => ⟨⟨(-2), ((upd frf 0 ((frf 0) + 1)), ft, un), rfl, ⟨hkt, hk0_, hk1_, hk2_, hk3_, by first | omega | (dsimp only; omega), hk4_, by first | omega | (dsimp only; omega)⟩, by rw [ht]; exact hP.sub [1, 2, 0] rfl, hD.sub [1, 2, 0] (by decide) rfl⟩, hS.F ht⟩) hS.2.2 dX11_cloud_13
