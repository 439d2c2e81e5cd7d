set_option maxHeartbeats 4000000 in
set_option maxRecDepth 100000 in
theorem gq_clouds (l : Launch) (D : va_G) (y : Nat → ClassId) (mo : Nat) (to : Nat) (ke : Nat) (ik : Nat) (mrf : Nat) (ha : Nat) (r0 : Nat) (mbr : Nat) (mbp : Nat) (mby : Nat) (an : Nat) (va : Nat) (mab : Int64) (mbl : Int64) (bl : Nat) (ta : Nat) (tl : Nat) (tk : Nat) (vv : Int32) (ft : Nat → Int32) (fi : Nat) (gl : Nat) (mi : Nat) (no : Nat) (un : Nat) (hk0_ : ft 0 = (nI fi)) (hk1_ : ft 1 = (nI gl)) (hk2_ : ft 2 = (nI mi)) (hk3_ : ft 3 = (nI no)) (hk4_ : ft 4 = (nI un)) (hkt : kr_t 228 ft) (hfi : fi ≤ 6) (hgl : gl ≤ 5) (hmi : mi ≤ 4) (hno : no ≤ 6) (hun : un ≤ 8) (hgf : (gl = 0 ∨ 0 < fi)) : kw_Mi l yX11_clouds wsX11_clouds ({ frames := 4, cells := 0, slots := 0, locals := 129 }) D y [.ref mo] [(mo, .inr (11, [.ref to, .ref ke, .ref ik, .ref mrf, .long mab, .long mbl, .ref ha, .ref r0, .ref mbr, .ref mbp, .ref mby, .int (nI bl), .int (nI ta), .int (nI tl), .int (nI tk), .int vv, .ref an, .ref va])), (to, .inl (y 0, 228, .inl ft))] (fun (r : Int32) (u : Unit) => (gl = 0 ∨ 0 < fi)) (fun _ => [(mo, .inr (11, [.ref to, .ref ke, .ref ik, .ref mrf, .long mab, .long mbl, .ref ha, .ref r0, .ref mbr, .ref mbp, .ref mby, .int (nI bl), .int (nI ta), .int (nI tl), .int (nI tk), .int vv, .ref an, .ref va])), (to, .inl (y 0, 228, .inl ft))]) 0 0 := by
  refine kw_Mi.of (cc := cX11_clouds) (maxL := 6) (ret := (some .int)) (by decide) rfl ?_
  intro pZ eZ s mZ beZ meZ cZ A hE
  obtain ⟨hx, hb, hr, hml, hts, hown, hlocks, hin, hA, hP, hD, hK, hN⟩ := hE
  have hS : va_S A s.heap s.heap [] := va_S.rf
  have hl := lv_entry ([.ref mo]) (n := 6) (Nat.le_of_ble_eq_true rfl)
  rw [lg_entry_eq]
  generalize (lg_sl ([.ref mo]) ++ List.replicate (6 - (lg_sl ([.ref mo])).length) Slot.unset).toArray = ls at hl ⊢
  have hl : lv_has ls 6 [(0, .ref mo)] := hl
  have fw1 := hts (.fieldLink RX11 7 "GleanDuskModel" "told" "[I") (List.mem_of_getElem? (i := 1) rfl)
  have iw11 : ∀ w ∈ wsX110, w ∈ wsX11_clouds := fun _ h => List.mem_cons_of_mem _ (List.mem_append_right _ h)
  refine lv_iconst (v := 0) hx hb dX11_clouds_0 (by decide) ?_
  refine lv_istore_n (lv' := [(1, .int 0), (0, .ref mo)]) hx hb dX11_clouds_1 rfl hl (by decide) rfl (fun ls hl => ?_)
  refine lv_iconst (v := 0) hx hb dX11_clouds_2 (by decide) ?_
  refine lv_istore_n (lv' := [(2, .int 0), (1, .int 0), (0, .ref mo)]) hx hb dX11_clouds_3 rfl hl (by decide) rfl (fun ls hl => ?_)
  have lp88 : ∀ (fuj91 j91 : Nat) (x45 : Int32) (H : Heap) (locs : List Loc) (ls : Array Slot), j91 ≤ 10 → 10 - j91 < fuj91 → va_P D vwCl [(mo, .inr (11, [.ref to, .ref ke, .ref ik, .ref mrf, .long mab, .long mbl, .ref ha, .ref r0, .ref mbr, .ref mbp, .ref mby, .int (nI bl), .int (nI ta), .int (nI tl), .int (nI tk), .int vv, .ref an, .ref va])), (to, .inl (y 0, 228, .inl ft))] H → va_D A [(mo, .inr (11, [.ref to, .ref ke, .ref ik, .ref mrf, .long mab, .long mbl, .ref ha, .ref r0, .ref mbr, .ref mbp, .ref mby, .int (nI bl), .int (nI ta), .int (nI tl), .int (nI tk), .int vv, .ref an, .ref va])), (to, .inl (y 0, 228, .inl ft))] → va_S A s.heap H locs → lv_has ls 6 [(2, .int (nI j91)), (1, .int x45), (0, .ref mo)] → W pZ l eZ ({ frames := 4, cells := 0, slots := 0, locals := 129 }) s mZ [.ref mo].toArray beZ meZ cZ H locs 0 0 (MQ beZ (va_Qi (fun (r : Int32) (u : Unit) => (gl = 0 ∨ 0 < fi)) (kw_B D (fun _ => [(mo, .inr (11, [.ref to, .ref ke, .ref ik, .ref mrf, .long mab, .long mbl, .ref ha, .ref r0, .ref mbr, .ref mbp, .ref mby, .int (nI bl), .int (nI ta), .int (nI tl), .int (nI tk), .int vv, .ref an, .ref va])), (to, .inl (y 0, 228, .inl ft))]) A) A) [.ref mo].toArray s 0 0 A) (F0 mZ 4 ls []) := by
    intro fuj91
    induction fuj91 with
    | zero => intro j91 x45 H locs ls hj9 hf9; exact absurd hf9 (Nat.not_lt_zero _)
    | succ fuj91 ihj91 =>
      intro j91 x45 H locs ls hj91 hfj91  hP hD hS hl
      refine lv_iload_n hx hb dX11_clouds_4 rfl (lv_at hl 0 rfl) ?_
      refine lv_bipush (v := 10) hx hb dX11_clouds_5 (by decide) ?_
      refine lv_icmp_ge (tgt := 120) hx hb dX11_clouds_7 (by decide) (fun h89 => ?_) (fun h90 => ?_)
      · skip
        have h89 : 10 ≤ j91 := (nI_leI (a := 10) (b := j91) (by omega) (by omega)).mp h89
        refine lv_iload_n hx hb dX11_clouds_120 rfl (lv_at hl 1 rfl) ?_
        exact W.iret (v := x45) hx hb hr (fun tZ ht hW => ⟨⟨x45, (), rfl, by first | omega | (dsimp only; omega), by rw [ht]; exact hP.sub [0, 1] rfl, hD.sub [0, 1] (by decide) rfl⟩, hS.F ht⟩) hS.2.2 dX11_clouds_121
      · skip
        have h90 : ¬ 10 ≤ j91 := fun q9 => h90 ((nI_leI (a := 10) (b := j91) (by omega) (by omega)).mpr q9)
        refine lv_iconst (v := 1) hx hb dX11_clouds_10 (by decide) ?_
        refine lv_istore_n (lv' := [(3, .int 1), (2, .int (nI j91)), (1, .int x45), (0, .ref mo)]) hx hb dX11_clouds_11 rfl hl (by decide) rfl (fun ls hl => ?_)
        refine lv_iconst (v := 0) hx hb dX11_clouds_12 (by decide) ?_
        refine lv_istore (lv' := [(4, .int 0), (3, .int 1), (2, .int (nI j91)), (1, .int x45), (0, .ref mo)]) hx hb dX11_clouds_13 hl (by decide) rfl (fun ls hl => ?_)
        have lp116 : ∀ (fuj92 j92 : Nat) (x101 : Int32) (H : Heap) (locs : List Loc) (ls : Array Slot), j92 ≤ mi → mi - j92 < fuj92 → va_P D vwCl [(mo, .inr (11, [.ref to, .ref ke, .ref ik, .ref mrf, .long mab, .long mbl, .ref ha, .ref r0, .ref mbr, .ref mbp, .ref mby, .int (nI bl), .int (nI ta), .int (nI tl), .int (nI tk), .int vv, .ref an, .ref va])), (to, .inl (y 0, 228, .inl ft))] H → va_D A [(mo, .inr (11, [.ref to, .ref ke, .ref ik, .ref mrf, .long mab, .long mbl, .ref ha, .ref r0, .ref mbr, .ref mbp, .ref mby, .int (nI bl), .int (nI ta), .int (nI tl), .int (nI tk), .int vv, .ref an, .ref va])), (to, .inl (y 0, 228, .inl ft))] → va_S A s.heap H locs → lv_has ls 6 [(4, .int (nI j92)), (3, .int x101), (2, .int (nI j91)), (1, .int x45), (0, .ref mo)] → W pZ l eZ ({ frames := 4, cells := 0, slots := 0, locals := 129 }) s mZ [.ref mo].toArray beZ meZ cZ H locs 0 0 (MQ beZ (va_Qi (fun (r : Int32) (u : Unit) => (gl = 0 ∨ 0 < fi)) (kw_B D (fun _ => [(mo, .inr (11, [.ref to, .ref ke, .ref ik, .ref mrf, .long mab, .long mbl, .ref ha, .ref r0, .ref mbr, .ref mbp, .ref mby, .int (nI bl), .int (nI ta), .int (nI tl), .int (nI tk), .int vv, .ref an, .ref va])), (to, .inl (y 0, 228, .inl ft))]) A) A) [.ref mo].toArray s 0 0 A) (F0 mZ 15 ls []) := by
          intro fuj92
          induction fuj92 with
          | zero => intro j92 x101 H locs ls hj9 hf9; exact absurd hf9 (Nat.not_lt_zero _)
          | succ fuj92 ihj92 =>
            intro j92 x101 H locs ls hj92 hfj92  hP hD hS hl
            refine lv_iload hx hb dX11_clouds_15 (lv_at hl 0 rfl) ?_
            refine lv_aload_n hx hb dX11_clouds_17 rfl (lv_at hl 4 rfl) ?_
            refine va_get (D := D) (ci := 11) (v := .ref to) (C := RX11) (T := TX11) (N := 18) hx hb hts iw11 hown hK hP 0 rfl rfl 0 (by decide) fw1 (fun _ h9 => h9) rfl dX11_clouds_18 ?_
            refine lv_iconst (v := 2) hx hb dX11_clouds_21 (by decide) ?_
            refine va_iald hx hb hK hP 1 0 rfl rfl (by unfold vp_in; decide) dX11_clouds_22 ?_
            rw [show ((2 : Int32)).toNatClampNeg = 2 from rfl]
            rw [show (ft 2) = (nI mi) from hk2_]
            refine lv_icmp_ge (tgt := 100) hx hb dX11_clouds_23 (by decide) (fun h117 => ?_) (fun h118 => ?_)
            · skip
              have h117 : mi ≤ j92 := (nI_leI (a := mi) (b := j92) (by omega) (by omega)).mp h117
              refine lv_iload_n hx hb dX11_clouds_100 rfl (lv_at hl 3 rfl) ?_
              refine lv_iload_n hx hb dX11_clouds_101 rfl (lv_at hl 1 rfl) ?_
              refine lv_if_eq (tgt := 111) hx hb dX11_clouds_102 (by decide) (fun h119 => ?_) (fun h120 => ?_)
              · skip
                refine lv_iconst (v := 0) hx hb dX11_clouds_111 (by decide) ?_
                refine lv_ior hx hb dX11_clouds_112 ?_
                refine lv_istore_n (lv' := [(1, .int (x45 ||| 0)), (4, .int (nI j92)), (3, .int x101), (2, .int (nI j91)), (0, .ref mo)]) hx hb dX11_clouds_113 rfl hl (by decide) rfl (fun ls hl => ?_)
                refine lv_iinc (v := (nI (j91 + 1))) (lv' := [(2, .int (nI (j91 + 1))), (1, .int (x45 ||| 0)), (4, .int (nI j92)), (3, .int x101), (0, .ref mo)]) hx hb dX11_clouds_114 hl (k := 3) rfl (nI_1 j91) (by decide) rfl (fun ls hl => ?_)
                refine lv_goto (tgt := 4) hx hb dX11_clouds_117 (by decide) ?_
                exact ihj91 (j91 + 1) (x45 ||| 0) H locs ls (by omega) (by omega)  (hP.sub [0, 1] rfl) (hD.sub [0, 1] (by decide) rfl) hS (lv_sub hl [0, 1, 4] rfl)
              · skip
                refine lv_iconst (v := 1) hx hb dX11_clouds_105 (by decide) ?_
                refine lv_iload_n hx hb dX11_clouds_106 rfl (lv_at hl 2 rfl) ?_
                refine lv_ishl hx hb dX11_clouds_107 ?_
                refine lv_goto (tgt := 112) hx hb dX11_clouds_108 (by decide) ?_
                refine lv_ior hx hb dX11_clouds_112 ?_
                refine lv_istore_n (lv' := [(1, .int (x45 ||| (1 <<< ((nI j91) &&& 31)))), (4, .int (nI j92)), (3, .int x101), (2, .int (nI j91)), (0, .ref mo)]) hx hb dX11_clouds_113 rfl hl (by decide) rfl (fun ls hl => ?_)
                refine lv_iinc (v := (nI (j91 + 1))) (lv' := [(2, .int (nI (j91 + 1))), (1, .int (x45 ||| (1 <<< ((nI j91) &&& 31)))), (4, .int (nI j92)), (3, .int x101), (0, .ref mo)]) hx hb dX11_clouds_114 hl (k := 3) rfl (nI_1 j91) (by decide) rfl (fun ls hl => ?_)
                refine lv_goto (tgt := 4) hx hb dX11_clouds_117 (by decide) ?_
                exact ihj91 (j91 + 1) (x45 ||| (1 <<< ((nI j91) &&& 31))) H locs ls (by omega) (by omega)  (hP.sub [0, 1] rfl) (hD.sub [0, 1] (by decide) rfl) hS (lv_sub hl [0, 1, 4] rfl)
            · skip
              have h118 : ¬ mi ≤ j92 := fun q9 => h118 ((nI_leI (a := mi) (b := j92) (by omega) (by omega)).mpr q9)
              refine lv_bipush (v := 30) hx hb dX11_clouds_26 (by decide) ?_
              refine lv_iconst (v := 4) hx hb dX11_clouds_28 (by decide) ?_
              refine lv_iload hx hb dX11_clouds_29 (lv_at hl 0 rfl) ?_
              refine lv_imul hx hb dX11_clouds_31 ?_
              rw [show 4 * (nI j92) = nI (4 * j92) from pk_mul 4 j92]
              refine lv_iadd hx hb dX11_clouds_32 ?_
              rw [show 30 + (nI (4 * j92)) = nI (30 + (4 * j92)) from nI_add 30 (4 * j92)]
              refine lv_istore (lv' := [(5, .int (nI (30 + (4 * j92)))), (4, .int (nI j92)), (3, .int x101), (2, .int (nI j91)), (1, .int x45), (0, .ref mo)]) hx hb dX11_clouds_33 hl (by decide) rfl (fun ls hl => ?_)
              refine lv_iload_n hx hb dX11_clouds_35 rfl (lv_at hl 2 rfl) ?_
              refine lv_if_eq (tgt := 92) hx hb dX11_clouds_36 (by decide) (fun h121 => ?_) (fun h122 => ?_)
              · skip
                refine lv_iconst (v := 0) hx hb dX11_clouds_92 (by decide) ?_
                refine lv_istore_n (lv' := [(3, .int 0), (5, .int (nI (30 + (4 * j92)))), (4, .int (nI j92)), (2, .int (nI j91)), (1, .int x45), (0, .ref mo)]) hx hb dX11_clouds_93 rfl hl (by decide) rfl (fun ls hl => ?_)
                refine lv_iinc (v := (nI (j92 + 1))) (lv' := [(4, .int (nI (j92 + 1))), (3, .int 0), (5, .int (nI (30 + (4 * j92)))), (2, .int (nI j91)), (1, .int x45), (0, .ref mo)]) hx hb dX11_clouds_94 hl (k := 2) rfl (nI_1 j92) (by decide) rfl (fun ls hl => ?_)
                refine lv_goto (tgt := 15) hx hb dX11_clouds_97 (by decide) ?_
                exact ihj92 (j92 + 1) 0 H locs ls (by omega) (by omega)  (hP.sub [0, 1] rfl) (hD.sub [0, 1] (by decide) rfl) hS (lv_sub hl [0, 1, 3, 4, 5] rfl)
              · skip
                refine lv_aload_n hx hb dX11_clouds_39 rfl (lv_at hl 5 rfl) ?_
                refine va_get (D := D) (ci := 11) (v := .ref to) (C := RX11) (T := TX11) (N := 18) hx hb hts iw11 hown hK hP 0 rfl rfl 0 (by decide) fw1 (fun _ h9 => h9) rfl dX11_clouds_40 ?_
                refine lv_bipush (v := 24) hx hb dX11_clouds_43 (by decide) ?_
                refine lv_aload_n hx hb dX11_clouds_45 rfl (lv_at hl 5 rfl) ?_
                refine va_get (D := D) (ci := 11) (v := .ref to) (C := RX11) (T := TX11) (N := 18) hx hb hts iw11 hown hK hP 0 rfl rfl 0 (by decide) fw1 (fun _ h9 => h9) rfl dX11_clouds_46 ?_
                refine lv_iload hx hb dX11_clouds_49 (lv_at hl 0 rfl) ?_
                refine va_iald hx hb hK hP 1 0 rfl rfl (vp_in_nI (by omega) (by decide)) dX11_clouds_51 ?_
                rw [nI_clamp (n := (30 + (4 * j92))) (by omega)]
                obtain ⟨w123, h124, h125⟩ := kr_at hkt (p := (30 + (4 * j92))) (by omega) (by unfold kr_a; omega)
                rw [h125]
                refine lv_iadd hx hb dX11_clouds_52 ?_
                rw [show 24 + (nI w123) = nI (w123 + 24) from (nI_add 24 w123).trans (congrArg nI (by omega))]
                refine va_iald hx hb hK hP 1 0 rfl rfl (vp_in_nI (by omega) (by decide)) dX11_clouds_53 ?_
                rw [nI_clamp (n := (w123 + 24)) (by omega)]
                refine lv_aload_n hx hb dX11_clouds_54 rfl (lv_at hl 5 rfl) ?_
                refine va_get (D := D) (ci := 11) (v := .ref to) (C := RX11) (T := TX11) (N := 18) hx hb hts iw11 hown hK hP 0 rfl rfl 0 (by decide) fw1 (fun _ h9 => h9) rfl dX11_clouds_55 ?_
                refine lv_iload hx hb dX11_clouds_58 (lv_at hl 0 rfl) ?_
                refine lv_iconst (v := 2) hx hb dX11_clouds_60 (by decide) ?_
                refine lv_iadd hx hb dX11_clouds_61 ?_
                rw [show (nI (30 + (4 * j92))) + 2 = nI ((30 + (4 * j92)) + 2) from nI_add (30 + (4 * j92)) 2]
                refine va_iald hx hb hK hP 1 0 rfl rfl (vp_in_nI (by omega) (by decide)) dX11_clouds_62 ?_
                rw [nI_clamp (n := ((30 + (4 * j92)) + 2)) (by omega)]
                refine lv_aload_n hx hb dX11_clouds_63 rfl (lv_at hl 5 rfl) ?_
                refine va_get (D := D) (ci := 11) (v := .ref to) (C := RX11) (T := TX11) (N := 18) hx hb hts iw11 hown hK hP 0 rfl rfl 0 (by decide) fw1 (fun _ h9 => h9) rfl dX11_clouds_64 ?_
                refine lv_iload hx hb dX11_clouds_67 (lv_at hl 0 rfl) ?_
                refine lv_iconst (v := 1) hx hb dX11_clouds_69 (by decide) ?_
                refine lv_iadd hx hb dX11_clouds_70 ?_
                rw [show (nI (30 + (4 * j92))) + 1 = nI ((30 + (4 * j92)) + 1) from nI_add (30 + (4 * j92)) 1]
                refine va_iald hx hb hK hP 1 0 rfl rfl (vp_in_nI (by omega) (by decide)) dX11_clouds_71 ?_
                rw [nI_clamp (n := ((30 + (4 * j92)) + 1)) (by omega)]
                refine lv_iload_n hx hb dX11_clouds_72 rfl (lv_at hl 3 rfl) ?_
                have hs126 : kw_Split [(mo, .inr (11, [.ref to, .ref ke, .ref ik, .ref mrf, .long mab, .long mbl, .ref ha, .ref r0, .ref mbr, .ref mbp, .ref mby, .int (nI bl), .int (nI ta), .int (nI tl), .int (nI tk), .int vv, .ref an, .ref va])), (to, .inl (y 0, 228, .inl ft))] [] [(mo, .inr (11, [.ref to, .ref ke, .ref ik, .ref mrf, .long mab, .long mbl, .ref ha, .ref r0, .ref mbr, .ref mbp, .ref mby, .int (nI bl), .int (nI ta), .int (nI tl), .int (nI tk), .int vv, .ref an, .ref va])), (to, .inl (y 0, 228, .inl ft))] [] [0, 1] := ⟨rfl, rfl, rfl, rfl, rfl, by decide⟩
                refine kw_go_i hs126 hP hD hS hA (va_runS (As := [.int (ft (w123 + 24)), .int (ft ((30 + (4 * j92)) + 2)), .int (ft ((30 + (4 * j92)) + 1)), .int (nI j91)]) (rest := []) ⟨hx, hb, hml, hown, hts⟩ (gr_seenAs l D y (ft (w123 + 24)) (ft ((30 + (4 * j92)) + 2)) (ft ((30 + (4 * j92)) + 1)) (nI j91)  _) (va_cwS 4 hts gX11_clouds_X11_seenAs rfl rfl rfl (by decide +kernel) ⟨Nat.le_of_ble_eq_true rfl, Nat.le_of_ble_eq_true rfl⟩) (kw_PreS hs126 hP hD hK hN) rfl rfl hl.1 rfl (lv_room (Nat.le_of_ble_eq_true rfl)) dX11_clouds_73 ⟨Nat.le_of_ble_eq_true rfl, Nat.le_of_ble_eq_true rfl⟩) (fun r127 u128 H locs hq hP hD hS => ?_)
                have hP : va_P D vwCl [(mo, .inr (11, [.ref to, .ref ke, .ref ik, .ref mrf, .long mab, .long mbl, .ref ha, .ref r0, .ref mbr, .ref mbp, .ref mby, .int (nI bl), .int (nI ta), .int (nI tl), .int (nI tk), .int vv, .ref an, .ref va])), (to, .inl (y 0, 228, .inl ft))] H := hP
                have hD : va_D A [(mo, .inr (11, [.ref to, .ref ke, .ref ik, .ref mrf, .long mab, .long mbl, .ref ha, .ref r0, .ref mbr, .ref mbp, .ref mby, .int (nI bl), .int (nI ta), .int (nI tl), .int (nI tk), .int vv, .ref an, .ref va])), (to, .inl (y 0, 228, .inl ft))] := hD
                refine lv_aload_n hx hb dX11_clouds_76 rfl (lv_at hl 5 rfl) ?_
                refine va_get (D := D) (ci := 11) (v := .ref to) (C := RX11) (T := TX11) (N := 18) hx hb hts iw11 hown hK hP 0 rfl rfl 0 (by decide) fw1 (fun _ h9 => h9) rfl dX11_clouds_77 ?_
                refine lv_iload hx hb dX11_clouds_80 (lv_at hl 0 rfl) ?_
                refine lv_iconst (v := 3) hx hb dX11_clouds_82 (by decide) ?_
                refine lv_iadd hx hb dX11_clouds_83 ?_
                rw [show (nI (30 + (4 * j92))) + 3 = nI ((30 + (4 * j92)) + 3) from nI_add (30 + (4 * j92)) 3]
                refine va_iald hx hb hK hP 1 0 rfl rfl (vp_in_nI (by omega) (by decide)) dX11_clouds_84 ?_
                rw [nI_clamp (n := ((30 + (4 * j92)) + 3)) (by omega)]
                refine lv_icmp_ne (tgt := 92) hx hb dX11_clouds_85 (by decide) (fun h129 => ?_) (fun h130 => ?_)
                · skip
                  refine lv_iconst (v := 0) hx hb dX11_clouds_92 (by decide) ?_
                  refine lv_istore_n (lv' := [(3, .int 0), (5, .int (nI (30 + (4 * j92)))), (4, .int (nI j92)), (2, .int (nI j91)), (1, .int x45), (0, .ref mo)]) hx hb dX11_clouds_93 rfl hl (by decide) rfl (fun ls hl => ?_)
                  refine lv_iinc (v := (nI (j92 + 1))) (lv' := [(4, .int (nI (j92 + 1))), (3, .int 0), (5, .int (nI (30 + (4 * j92)))), (2, .int (nI j91)), (1, .int x45), (0, .ref mo)]) hx hb dX11_clouds_94 hl (k := 2) rfl (nI_1 j92) (by decide) rfl (fun ls hl => ?_)
                  refine lv_goto (tgt := 15) hx hb dX11_clouds_97 (by decide) ?_
                  exact ihj92 (j92 + 1) 0 H locs ls (by omega) (by omega)  (hP.sub [0, 1] rfl) (hD.sub [0, 1] (by decide) rfl) hS (lv_sub hl [0, 1, 3, 4, 5] rfl)
                · skip
                  refine lv_iconst (v := 1) hx hb dX11_clouds_88 (by decide) ?_
                  refine lv_goto (tgt := 93) hx hb dX11_clouds_89 (by decide) ?_
                  refine lv_istore_n (lv' := [(3, .int 1), (5, .int (nI (30 + (4 * j92)))), (4, .int (nI j92)), (2, .int (nI j91)), (1, .int x45), (0, .ref mo)]) hx hb dX11_clouds_93 rfl hl (by decide) rfl (fun ls hl => ?_)
                  refine lv_iinc (v := (nI (j92 + 1))) (lv' := [(4, .int (nI (j92 + 1))), (3, .int 1), (5, .int (nI (30 + (4 * j92)))), (2, .int (nI j91)), (1, .int x45), (0, .ref mo)]) hx hb dX11_clouds_94 hl (k := 2) rfl (nI_1 j92) (by decide) rfl (fun ls hl => ?_)
                  refine lv_goto (tgt := 15) hx hb dX11_clouds_97 (by decide) ?_
                  exact ihj92 (j92 + 1) 1 H locs ls (by omega) (by omega)  (hP.sub [0, 1] rfl) (hD.sub [0, 1] (by decide) rfl) hS (lv_sub hl [0, 1, 3, 4, 5] rfl)
        exact lp116 (mi + 1) 0 1 _ _ _ (by omega) (by omega)  hP hD hS (lv_sub hl [0, 1, 2, 3, 4] rfl)
  exact lp88 (10 + 1) 0 0 _ _ _ (by omega) (by omega)  hP hD hS (lv_sub hl [0, 1, 2] rfl)
