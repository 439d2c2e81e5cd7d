set_option maxHeartbeats 4000000 in
set_option maxRecDepth 100000 in
theorem gr_lookAt (l : Launch) (D : va_G) (y : Nat → ClassId) (mo : Nat) (to : Nat) (ke : Nat) (ik : Nat) (mrf : Nat) (ha : Nat) (r0 : Nat) (mbr : Nat) (mbp : Nat) (mby : Nat) (an : Nat) (va : Nat) (mab : Int64) (mbl : Int64) (bl : Nat) (ta : Nat) (tl : Nat) (tk : Nat) (vv : Int32) (fmb : Nat → Int32) (k : Nat) (hbl : bl ≤ 150) (hA1 : k ≤ bl) : kw_Mv l yX11_lookAt wsX11_lookAt ({ frames := 3, cells := 0, slots := 0, locals := 105 }) D y [.ref mo, .int (nI k)] [(mo, .inr (11, [.ref to, .ref ke, .ref ik, .ref mrf, .long mab, .long mbl, .ref ha, .ref r0, .ref mbr, .ref mbp, .ref mby, .int (nI bl), .int (nI ta), .int (nI tl), .int (nI tk), .int vv, .ref an, .ref va])), (mby, .inl (y 0, 150, .inl fmb))] (fun (u : Nat × Nat × Nat × Int32) => u.1 ≤ bl ∧ u.2.1 ≤ 150 ∧ u.2.2.1 ≤ 4 ∧ k ≤ u.1 ∧ u.1 + u.2.1 ≤ bl ∧ (u.2.2.1 = 0 ∨ 1 ≤ u.2.1)) (fun u => [(mo, .inr (11, [.ref to, .ref ke, .ref ik, .ref mrf, .long mab, .long mbl, .ref ha, .ref r0, .ref mbr, .ref mbp, .ref mby, .int (nI bl), .int (nI u.1), .int (nI u.2.1), .int (nI u.2.2.1), .int u.2.2.2, .ref an, .ref va])), (mby, .inl (y 0, 150, .inl fmb))]) 0 0 := by
  refine kw_Mv.of (cc := cX11_lookAt) (maxL := 5) (ret := none) (by decide) rfl ?_
  intro pZ eZ s mZ beZ meZ cZ A hE
  obtain ⟨hx, hb, hr, hml, hts, hown, hlocks, hin, hA, hP, hD, hK, hN⟩ := hE
  have hS : va_S A s.heap s.heap [] := va_S.rf
  have hl := lv_entry ([.ref mo, .int (nI k)]) (n := 5) (Nat.le_of_ble_eq_true rfl)
  rw [lg_entry_eq]
  generalize (lg_sl ([.ref mo, .int (nI k)]) ++ List.replicate (5 - (lg_sl ([.ref mo, .int (nI k)])).length) Slot.unset).toArray = ls at hl ⊢
  have hl : lv_has ls 5 [(0, .ref mo), (1, .int (nI k))] := hl
  have fw1 := hts (.fieldLink RX11 222 "GleanDuskModel" "tokenAt" "I") (List.mem_of_getElem? (i := 1) rfl)
  have fw2 := hts (.fieldLink RX11 210 "GleanDuskModel" "bytesLong" "I") (List.mem_of_getElem? (i := 2) rfl)
  have fw3 := hts (.fieldLink RX11 225 "GleanDuskModel" "tokenLong" "I") (List.mem_of_getElem? (i := 4) rfl)
  have fw4 := hts (.fieldLink RX11 228 "GleanDuskModel" "token" "I") (List.mem_of_getElem? (i := 5) rfl)
  have fw5 := hts (.fieldLink RX11 231 "GleanDuskModel" "value" "I") (List.mem_of_getElem? (i := 6) rfl)
  have fw6 := hts (.fieldLink RX11 39 "GleanDuskModel" "bytes" "[I") (List.mem_of_getElem? (i := 3) rfl)
  have iw11 : ∀ w ∈ wsX110, w ∈ wsX11_lookAt := fun _ h => List.mem_cons_of_mem _ (List.mem_append_right _ h)
  refine lv_aload_n hx hb dX11_lookAt_0 rfl (lv_at hl 0 rfl) ?_
  refine lv_iload_n hx hb dX11_lookAt_1 rfl (lv_at hl 1 rfl) ?_
  refine va_put (D := D) (ci := 11) (v := .int (nI k)) (ty := .int) (C := RX11) (T := TX11) (N := 18) hx hb hts iw11 tyX11 tyX11_ok nmX11 hown hK hP hD hS 0 rfl rfl 12 (by decide) fw1 (fun _ h9 => h9) rfl (by decide +kernel) rfl rfl (Nat.le_of_ble_eq_true rfl) dX11_lookAt_2 (fun H locs hP hD hS => ?_)
  have hP : va_P D vwCl [(mo, .inr (11, [.ref to, .ref ke, .ref ik, .ref mrf, .long mab, .long mbl, .ref ha, .ref r0, .ref mbr, .ref mbp, .ref mby, .int (nI bl), .int (nI k), .int (nI tl), .int (nI tk), .int vv, .ref an, .ref va])), (mby, .inl (y 0, 150, .inl fmb))] H := hP
  have hD : va_D A [(mo, .inr (11, [.ref to, .ref ke, .ref ik, .ref mrf, .long mab, .long mbl, .ref ha, .ref r0, .ref mbr, .ref mbp, .ref mby, .int (nI bl), .int (nI k), .int (nI tl), .int (nI tk), .int vv, .ref an, .ref va])), (mby, .inl (y 0, 150, .inl fmb))] := hD
  have lp533 : ∀ (fuj91 j91 : Nat)  (H : Heap) (locs : List Loc) (ls : Array Slot), j91 ≤ bl → bl - j91 < fuj91 → k ≤ j91 → va_P D vwCl [(mo, .inr (11, [.ref to, .ref ke, .ref ik, .ref mrf, .long mab, .long mbl, .ref ha, .ref r0, .ref mbr, .ref mbp, .ref mby, .int (nI bl), .int (nI j91), .int (nI tl), .int (nI tk), .int vv, .ref an, .ref va])), (mby, .inl (y 0, 150, .inl fmb))] H → va_D A [(mo, .inr (11, [.ref to, .ref ke, .ref ik, .ref mrf, .long mab, .long mbl, .ref ha, .ref r0, .ref mbr, .ref mbp, .ref mby, .int (nI bl), .int (nI j91), .int (nI tl), .int (nI tk), .int vv, .ref an, .ref va])), (mby, .inl (y 0, 150, .inl fmb))] → va_S A s.heap H locs → lv_has ls 5 [(0, .ref mo), (1, .int (nI k))] → W pZ l eZ ({ frames := 3, cells := 0, slots := 0, locals := 105 }) s mZ [.ref mo, .int (nI k)].toArray beZ meZ cZ H locs 0 0 (MQ beZ (va_Qv (fun (u : Nat × Nat × Nat × Int32) => u.1 ≤ bl ∧ u.2.1 ≤ 150 ∧ u.2.2.1 ≤ 4 ∧ k ≤ u.1 ∧ u.1 + u.2.1 ≤ bl ∧ (u.2.2.1 = 0 ∨ 1 ≤ u.2.1)) (kw_B D (fun u => [(mo, .inr (11, [.ref to, .ref ke, .ref ik, .ref mrf, .long mab, .long mbl, .ref ha, .ref r0, .ref mbr, .ref mbp, .ref mby, .int (nI bl), .int (nI u.1), .int (nI u.2.1), .int (nI u.2.2.1), .int u.2.2.2, .ref an, .ref va])), (mby, .inl (y 0, 150, .inl fmb))]) A) A) [.ref mo, .int (nI k)].toArray s 0 0 A) (F0 mZ 5 ls []) := by
    intro fuj91
    induction fuj91 with
    | zero => intro j91  H locs ls hj9 hf9; exact absurd hf9 (Nat.not_lt_zero _)
    | succ fuj91 ihj91 =>
      intro j91  H locs ls hj91 hfj91 hlo_j91 hP hD hS hl
      refine lv_aload_n hx hb dX11_lookAt_5 rfl (lv_at hl 0 rfl) ?_
      refine va_get (D := D) (ci := 11) (v := .int (nI j91)) (C := RX11) (T := TX11) (N := 18) hx hb hts iw11 hown hK hP 0 rfl rfl 12 (by decide) fw1 (fun _ h9 => h9) rfl dX11_lookAt_6 ?_
      refine lv_aload_n hx hb dX11_lookAt_9 rfl (lv_at hl 0 rfl) ?_
      refine va_get (D := D) (ci := 11) (v := .int (nI bl)) (C := RX11) (T := TX11) (N := 18) hx hb hts iw11 hown hK hP 0 rfl rfl 11 (by decide) fw2 (fun _ h9 => h9) rfl dX11_lookAt_10 ?_
      refine lv_icmp_ge (tgt := 43) hx hb dX11_lookAt_13 (by decide) (fun h534 => ?_) (fun h535 => ?_)
      · skip
        have h534 : bl ≤ j91 := (nI_leI (a := bl) (b := j91) (by omega) (by omega)).mp h534
        refine lv_aload_n hx hb dX11_lookAt_43 rfl (lv_at hl 0 rfl) ?_
        refine lv_iconst (v := 0) hx hb dX11_lookAt_44 (by decide) ?_
        refine va_put (D := D) (ci := 11) (v := .int 0) (ty := .int) (C := RX11) (T := TX11) (N := 18) hx hb hts iw11 tyX11 tyX11_ok nmX11 hown hK hP hD hS 0 rfl rfl 13 (by decide) fw3 (fun _ h9 => h9) rfl (by decide +kernel) rfl rfl (Nat.le_of_ble_eq_true rfl) dX11_lookAt_45 (fun H locs hP hD hS => ?_)
        have hP : va_P D vwCl [(mo, .inr (11, [.ref to, .ref ke, .ref ik, .ref mrf, .long mab, .long mbl, .ref ha, .ref r0, .ref mbr, .ref mbp, .ref mby, .int (nI bl), .int (nI j91), .int 0, .int (nI tk), .int vv, .ref an, .ref va])), (mby, .inl (y 0, 150, .inl fmb))] H := hP
        have hD : va_D A [(mo, .inr (11, [.ref to, .ref ke, .ref ik, .ref mrf, .long mab, .long mbl, .ref ha, .ref r0, .ref mbr, .ref mbp, .ref mby, .int (nI bl), .int (nI j91), .int 0, .int (nI tk), .int vv, .ref an, .ref va])), (mby, .inl (y 0, 150, .inl fmb))] := hD
        refine lv_aload_n hx hb dX11_lookAt_48 rfl (lv_at hl 0 rfl) ?_
        refine lv_iconst (v := 0) hx hb dX11_lookAt_49 (by decide) ?_
        refine va_put (D := D) (ci := 11) (v := .int 0) (ty := .int) (C := RX11) (T := TX11) (N := 18) hx hb hts iw11 tyX11 tyX11_ok nmX11 hown hK hP hD hS 0 rfl rfl 14 (by decide) fw4 (fun _ h9 => h9) rfl (by decide +kernel) rfl rfl (Nat.le_of_ble_eq_true rfl) dX11_lookAt_50 (fun H locs hP hD hS => ?_)
        have hP : va_P D vwCl [(mo, .inr (11, [.ref to, .ref ke, .ref ik, .ref mrf, .long mab, .long mbl, .ref ha, .ref r0, .ref mbr, .ref mbp, .ref mby, .int (nI bl), .int (nI j91), .int 0, .int 0, .int vv, .ref an, .ref va])), (mby, .inl (y 0, 150, .inl fmb))] H := hP
        have hD : va_D A [(mo, .inr (11, [.ref to, .ref ke, .ref ik, .ref mrf, .long mab, .long mbl, .ref ha, .ref r0, .ref mbr, .ref mbp, .ref mby, .int (nI bl), .int (nI j91), .int 0, .int 0, .int vv, .ref an, .ref va])), (mby, .inl (y 0, 150, .inl fmb))] := hD
        refine lv_aload_n hx hb dX11_lookAt_53 rfl (lv_at hl 0 rfl) ?_
        refine lv_iconst (v := 0) hx hb dX11_lookAt_54 (by decide) ?_
        refine va_put (D := D) (ci := 11) (v := .int 0) (ty := .int) (C := RX11) (T := TX11) (N := 18) hx hb hts iw11 tyX11 tyX11_ok nmX11 hown hK hP hD hS 0 rfl rfl 15 (by decide) fw5 (fun _ h9 => h9) rfl (by decide +kernel) rfl rfl (Nat.le_of_ble_eq_true rfl) dX11_lookAt_55 (fun H locs hP hD hS => ?_)
        have hP : va_P D vwCl [(mo, .inr (11, [.ref to, .ref ke, .ref ik, .ref mrf, .long mab, .long mbl, .ref ha, .ref r0, .ref mbr, .ref mbp, .ref mby, .int (nI bl), .int (nI j91), .int 0, .int 0, .int 0, .ref an, .ref va])), (mby, .inl (y 0, 150, .inl fmb))] H := hP
        have hD : va_D A [(mo, .inr (11, [.ref to, .ref ke, .ref ik, .ref mrf, .long mab, .long mbl, .ref ha, .ref r0, .ref mbr, .ref mbp, .ref mby, .int (nI bl), .int (nI j91), .int 0, .int 0, .int 0, .ref an, .ref va])), (mby, .inl (y 0, 150, .inl fmb))] := hD
        refine lv_aload_n hx hb dX11_lookAt_58 rfl (lv_at hl 0 rfl) ?_
        refine va_get (D := D) (ci := 11) (v := .int (nI j91)) (C := RX11) (T := TX11) (N := 18) hx hb hts iw11 hown hK hP 0 rfl rfl 12 (by decide) fw1 (fun _ h9 => h9) rfl dX11_lookAt_59 ?_
        refine lv_aload_n hx hb dX11_lookAt_62 rfl (lv_at hl 0 rfl) ?_
        refine va_get (D := D) (ci := 11) (v := .int (nI bl)) (C := RX11) (T := TX11) (N := 18) hx hb hts iw11 hown hK hP 0 rfl rfl 11 (by decide) fw2 (fun _ h9 => h9) rfl dX11_lookAt_63 ?_
        refine lv_icmp_ne (tgt := 70) hx hb dX11_lookAt_66 (by decide) (fun h536 => ?_) (fun h537 => ?_)
        · skip
          have h536 : ¬ j91 = bl := fun q9 => h536 ((nI_eq (a := j91) (b := bl) (by omega) (by omega)).mpr q9)
          refine lv_aload_n hx hb dX11_lookAt_70 rfl (lv_at hl 0 rfl) ?_
          refine va_get (D := D) (ci := 11) (v := .ref mby) (C := RX11) (T := TX11) (N := 18) hx hb hts iw11 hown hK hP 0 rfl rfl 10 (by decide) fw6 (fun _ h9 => h9) rfl dX11_lookAt_71 ?_
          refine lv_aload_n hx hb dX11_lookAt_74 rfl (lv_at hl 0 rfl) ?_
          refine va_get (D := D) (ci := 11) (v := .int (nI j91)) (C := RX11) (T := TX11) (N := 18) hx hb hts iw11 hown hK hP 0 rfl rfl 12 (by decide) fw1 (fun _ h9 => h9) rfl dX11_lookAt_75 ?_
          refine va_iald hx hb hK hP 1 0 rfl rfl (vp_in_nI (by omega) (by decide)) dX11_lookAt_78 ?_
          rw [nI_clamp (n := j91) (by omega)]
          refine lv_istore_n (lv' := [(2, .int (fmb j91)), (0, .ref mo), (1, .int (nI k))]) hx hb dX11_lookAt_79 rfl hl (by decide) rfl (fun ls hl => ?_)
          refine lv_aload_n hx hb dX11_lookAt_80 rfl (lv_at hl 1 rfl) ?_
          refine lv_iload_n hx hb dX11_lookAt_81 rfl (lv_at hl 0 rfl) ?_
          have hs538 : kw_Split [(mo, .inr (11, [.ref to, .ref ke, .ref ik, .ref mrf, .long mab, .long mbl, .ref ha, .ref r0, .ref mbr, .ref mbp, .ref mby, .int (nI bl), .int (nI j91), .int 0, .int 0, .int 0, .ref an, .ref va])), (mby, .inl (y 0, 150, .inl fmb))] [] [(mo, .inr (11, [.ref to, .ref ke, .ref ik, .ref mrf, .long mab, .long mbl, .ref ha, .ref r0, .ref mbr, .ref mbp, .ref mby, .int (nI bl), .int (nI j91), .int 0, .int 0, .int 0, .ref an, .ref va])), (mby, .inl (y 0, 150, .inl fmb))] [] [0, 1] := ⟨rfl, rfl, rfl, rfl, rfl, by decide⟩
          refine kw_go_i hs538 hP hD hS hA (va_runS (As := [.int (fmb j91)]) (rest := [.ref mo]) ⟨hx, hb, hml, hown, hts⟩ (gr_isSmall l D y (fmb j91)  _) (va_cwS 1 hts gX11_lookAt_X11_isSmall rfl rfl rfl (by decide +kernel) ⟨Nat.le_of_ble_eq_true rfl, Nat.le_of_ble_eq_true rfl⟩) (kw_PreS hs538 hP hD hK hN) rfl rfl hl.1 rfl (lv_room (Nat.le_of_ble_eq_true rfl)) dX11_lookAt_82 ⟨Nat.le_of_ble_eq_true rfl, Nat.le_of_ble_eq_true rfl⟩) (fun r539 u540 H locs hq hP hD hS => ?_)
          obtain (rfl | rfl) := hq
          · skip
            have hP : va_P D vwCl [(mo, .inr (11, [.ref to, .ref ke, .ref ik, .ref mrf, .long mab, .long mbl, .ref ha, .ref r0, .ref mbr, .ref mbp, .ref mby, .int (nI bl), .int (nI j91), .int 0, .int 0, .int 0, .ref an, .ref va])), (mby, .inl (y 0, 150, .inl fmb))] H := hP
            have hD : va_D A [(mo, .inr (11, [.ref to, .ref ke, .ref ik, .ref mrf, .long mab, .long mbl, .ref ha, .ref r0, .ref mbr, .ref mbp, .ref mby, .int (nI bl), .int (nI j91), .int 0, .int 0, .int 0, .ref an, .ref va])), (mby, .inl (y 0, 150, .inl fmb))] := hD
            refine lv_if_eq (tgt := 92) hx hb dX11_lookAt_85 (by decide) (fun _ => ?_) (fun h9 => absurd h9 (by decide))
            refine lv_iload_n hx hb dX11_lookAt_92 rfl (lv_at hl 0 rfl) ?_
            have hs541 : kw_Split [(mo, .inr (11, [.ref to, .ref ke, .ref ik, .ref mrf, .long mab, .long mbl, .ref ha, .ref r0, .ref mbr, .ref mbp, .ref mby, .int (nI bl), .int (nI j91), .int 0, .int 0, .int 0, .ref an, .ref va])), (mby, .inl (y 0, 150, .inl fmb))] [] [(mo, .inr (11, [.ref to, .ref ke, .ref ik, .ref mrf, .long mab, .long mbl, .ref ha, .ref r0, .ref mbr, .ref mbp, .ref mby, .int (nI bl), .int (nI j91), .int 0, .int 0, .int 0, .ref an, .ref va])), (mby, .inl (y 0, 150, .inl fmb))] [] [0, 1] := ⟨rfl, rfl, rfl, rfl, rfl, by decide⟩
            refine kw_go_i hs541 hP hD hS hA (va_runS (As := [.int (fmb j91)]) (rest := [.ref mo]) ⟨hx, hb, hml, hown, hts⟩ (gr_isFigure l D y (fmb j91)  _) (va_cwS 1 hts gX11_lookAt_X11_isFigure rfl rfl rfl (by decide +kernel) ⟨Nat.le_of_ble_eq_true rfl, Nat.le_of_ble_eq_true rfl⟩) (kw_PreS hs541 hP hD hK hN) rfl rfl hl.1 rfl (lv_room (Nat.le_of_ble_eq_true rfl)) dX11_lookAt_93 ⟨Nat.le_of_ble_eq_true rfl, Nat.le_of_ble_eq_true rfl⟩) (fun r542 u543 H locs hq hP hD hS => ?_)
            obtain (rfl | rfl) := hq
            · skip
              have hP : va_P D vwCl [(mo, .inr (11, [.ref to, .ref ke, .ref ik, .ref mrf, .long mab, .long mbl, .ref ha, .ref r0, .ref mbr, .ref mbp, .ref mby, .int (nI bl), .int (nI j91), .int 0, .int 0, .int 0, .ref an, .ref va])), (mby, .inl (y 0, 150, .inl fmb))] H := hP
              have hD : va_D A [(mo, .inr (11, [.ref to, .ref ke, .ref ik, .ref mrf, .long mab, .long mbl, .ref ha, .ref r0, .ref mbr, .ref mbp, .ref mby, .int (nI bl), .int (nI j91), .int 0, .int 0, .int 0, .ref an, .ref va])), (mby, .inl (y 0, 150, .inl fmb))] := hD
              refine lv_if_eq (tgt := 103) hx hb dX11_lookAt_96 (by decide) (fun _ => ?_) (fun h9 => absurd h9 (by decide))
              refine lv_iload_n hx hb dX11_lookAt_103 rfl (lv_at hl 0 rfl) ?_
              refine lv_bipush (v := 59) hx hb dX11_lookAt_104 (by decide) ?_
              refine lv_icmp_ne (tgt := 113) hx hb dX11_lookAt_106 (by decide) (fun h544 => ?_) (fun h545 => ?_)
              · skip
                refine lv_iconst (v := 4) hx hb dX11_lookAt_113 (by decide) ?_
                refine va_put (D := D) (ci := 11) (v := .int 4) (ty := .int) (C := RX11) (T := TX11) (N := 18) hx hb hts iw11 tyX11 tyX11_ok nmX11 hown hK hP hD hS 0 rfl rfl 14 (by decide) fw4 (fun _ h9 => h9) rfl (by decide +kernel) rfl rfl (Nat.le_of_ble_eq_true rfl) dX11_lookAt_114 (fun H locs hP hD hS => ?_)
                have hP : va_P D vwCl [(mo, .inr (11, [.ref to, .ref ke, .ref ik, .ref mrf, .long mab, .long mbl, .ref ha, .ref r0, .ref mbr, .ref mbp, .ref mby, .int (nI bl), .int (nI j91), .int 0, .int 4, .int 0, .ref an, .ref va])), (mby, .inl (y 0, 150, .inl fmb))] H := hP
                have hD : va_D A [(mo, .inr (11, [.ref to, .ref ke, .ref ik, .ref mrf, .long mab, .long mbl, .ref ha, .ref r0, .ref mbr, .ref mbp, .ref mby, .int (nI bl), .int (nI j91), .int 0, .int 4, .int 0, .ref an, .ref va])), (mby, .inl (y 0, 150, .inl fmb))] := hD
                refine lv_aload_n hx hb dX11_lookAt_117 rfl (lv_at hl 1 rfl) ?_
                refine lv_iconst (v := 1) hx hb dX11_lookAt_118 (by decide) ?_
                refine va_put (D := D) (ci := 11) (v := .int 1) (ty := .int) (C := RX11) (T := TX11) (N := 18) hx hb hts iw11 tyX11 tyX11_ok nmX11 hown hK hP hD hS 0 rfl rfl 13 (by decide) fw3 (fun _ h9 => h9) rfl (by decide +kernel) rfl rfl (Nat.le_of_ble_eq_true rfl) dX11_lookAt_119 (fun H locs hP hD hS => ?_)
                have hP : va_P D vwCl [(mo, .inr (11, [.ref to, .ref ke, .ref ik, .ref mrf, .long mab, .long mbl, .ref ha, .ref r0, .ref mbr, .ref mbp, .ref mby, .int (nI bl), .int (nI j91), .int 1, .int 4, .int 0, .ref an, .ref va])), (mby, .inl (y 0, 150, .inl fmb))] H := hP
                have hD : va_D A [(mo, .inr (11, [.ref to, .ref ke, .ref ik, .ref mrf, .long mab, .long mbl, .ref ha, .ref r0, .ref mbr, .ref mbp, .ref mby, .int (nI bl), .int (nI j91), .int 1, .int 4, .int 0, .ref an, .ref va])), (mby, .inl (y 0, 150, .inl fmb))] := hD
                refine lv_aload_n hx hb dX11_lookAt_122 rfl (lv_at hl 1 rfl) ?_
                refine va_get (D := D) (ci := 11) (v := .int 4) (C := RX11) (T := TX11) (N := 18) hx hb hts iw11 hown hK hP 0 rfl rfl 14 (by decide) fw4 (fun _ h9 => h9) rfl dX11_lookAt_123 ?_
                refine lv_iconst (v := 3) hx hb dX11_lookAt_126 (by decide) ?_
                refine lv_icmp_ge (tgt := 134) hx hb dX11_lookAt_127 (by decide) (fun _ => ?_) (fun h9 => absurd h9 (by decide))
                refine lv_iconst (v := 0) hx hb dX11_lookAt_134 (by decide) ?_
                refine lv_istore_n (lv' := [(3, .int 0), (2, .int (fmb j91)), (0, .ref mo), (1, .int (nI k))]) hx hb dX11_lookAt_135 rfl hl (by decide) rfl (fun ls hl => ?_)
                have lp555 : ∀ (fu92 : Nat)  (H : Heap) (locs : List Loc) (ls : Array Slot), (bl - j91 - 1) + 0 < fu92 → j91 + 1 ≤ bl → 1 ≤ 1 → va_P D vwCl [(mo, .inr (11, [.ref to, .ref ke, .ref ik, .ref mrf, .long mab, .long mbl, .ref ha, .ref r0, .ref mbr, .ref mbp, .ref mby, .int (nI bl), .int (nI j91), .int 1, .int 4, .int 0, .ref an, .ref va])), (mby, .inl (y 0, 150, .inl fmb))] H → va_D A [(mo, .inr (11, [.ref to, .ref ke, .ref ik, .ref mrf, .long mab, .long mbl, .ref ha, .ref r0, .ref mbr, .ref mbp, .ref mby, .int (nI bl), .int (nI j91), .int 1, .int 4, .int 0, .ref an, .ref va])), (mby, .inl (y 0, 150, .inl fmb))] → va_S A s.heap H locs → lv_has ls 5 [(3, .int 0), (2, .int (fmb j91)), (0, .ref mo), (1, .int (nI k))] → W pZ l eZ ({ frames := 3, cells := 0, slots := 0, locals := 105 }) s mZ [.ref mo, .int (nI k)].toArray beZ meZ cZ H locs 0 0 (MQ beZ (va_Qv (fun (u : Nat × Nat × Nat × Int32) => u.1 ≤ bl ∧ u.2.1 ≤ 150 ∧ u.2.2.1 ≤ 4 ∧ k ≤ u.1 ∧ u.1 + u.2.1 ≤ bl ∧ (u.2.2.1 = 0 ∨ 1 ≤ u.2.1)) (kw_B D (fun u => [(mo, .inr (11, [.ref to, .ref ke, .ref ik, .ref mrf, .long mab, .long mbl, .ref ha, .ref r0, .ref mbr, .ref mbp, .ref mby, .int (nI bl), .int (nI u.1), .int (nI u.2.1), .int (nI u.2.2.1), .int u.2.2.2, .ref an, .ref va])), (mby, .inl (y 0, 150, .inl fmb))]) A) A) [.ref mo, .int (nI k)].toArray s 0 0 A) (F0 mZ 136 ls []) := by
                  intro fu92
                  induction fu92 with
                  | zero => intro  H locs ls hf9; exact absurd hf9 (Nat.not_lt_zero _)
                  | succ fu92 ihfu92 =>
                    intro  H locs ls hffu92 hJ0_fu92 hJ1_fu92 hP hD hS hl
                    refine lv_iload_n hx hb dX11_lookAt_136 rfl (lv_at hl 0 rfl) ?_
                    refine lv_if_eq (tgt := 215) hx hb dX11_lookAt_137 (by decide) (fun _ => ?_) (fun h9 => absurd h9 (by decide))
                    refine lv_iconst (v := 0) hx hb dX11_lookAt_215 (by decide) ?_
                    refine lv_istore (lv' := [(4, .int 0), (3, .int 0), (2, .int (fmb j91)), (0, .ref mo), (1, .int (nI k))]) hx hb dX11_lookAt_216 hl (by decide) rfl (fun ls hl => ?_)
                    have lp560 : ∀ (fuj93 j93 : Nat)  (H : Heap) (locs : List Loc) (ls : Array Slot), j93 ≤ 1 → 1 - j93 < fuj93 → va_P D vwCl [(mo, .inr (11, [.ref to, .ref ke, .ref ik, .ref mrf, .long mab, .long mbl, .ref ha, .ref r0, .ref mbr, .ref mbp, .ref mby, .int (nI bl), .int (nI j91), .int 1, .int 4, .int 0, .ref an, .ref va])), (mby, .inl (y 0, 150, .inl fmb))] H → va_D A [(mo, .inr (11, [.ref to, .ref ke, .ref ik, .ref mrf, .long mab, .long mbl, .ref ha, .ref r0, .ref mbr, .ref mbp, .ref mby, .int (nI bl), .int (nI j91), .int 1, .int 4, .int 0, .ref an, .ref va])), (mby, .inl (y 0, 150, .inl fmb))] → va_S A s.heap H locs → lv_has ls 5 [(4, .int (nI j93)), (3, .int 0), (2, .int (fmb j91)), (0, .ref mo), (1, .int (nI k))] → W pZ l eZ ({ frames := 3, cells := 0, slots := 0, locals := 105 }) s mZ [.ref mo, .int (nI k)].toArray beZ meZ cZ H locs 0 0 (MQ beZ (va_Qv (fun (u : Nat × Nat × Nat × Int32) => u.1 ≤ bl ∧ u.2.1 ≤ 150 ∧ u.2.2.1 ≤ 4 ∧ k ≤ u.1 ∧ u.1 + u.2.1 ≤ bl ∧ (u.2.2.1 = 0 ∨ 1 ≤ u.2.1)) (kw_B D (fun u => [(mo, .inr (11, [.ref to, .ref ke, .ref ik, .ref mrf, .long mab, .long mbl, .ref ha, .ref r0, .ref mbr, .ref mbp, .ref mby, .int (nI bl), .int (nI u.1), .int (nI u.2.1), .int (nI u.2.2.1), .int u.2.2.2, .ref an, .ref va])), (mby, .inl (y 0, 150, .inl fmb))]) A) A) [.ref mo, .int (nI k)].toArray s 0 0 A) (F0 mZ 218 ls []) := by
                      intro fuj93
                      induction fuj93 with
                      | zero => intro j93  H locs ls hj9 hf9; exact absurd hf9 (Nat.not_lt_zero _)
                      | succ fuj93 ihj93 =>
                        intro j93  H locs ls hj93 hfj93  hP hD hS hl
                        refine lv_iload hx hb dX11_lookAt_218 (lv_at hl 0 rfl) ?_
                        refine lv_aload_n hx hb dX11_lookAt_220 rfl (lv_at hl 3 rfl) ?_
                        refine va_get (D := D) (ci := 11) (v := .int 1) (C := RX11) (T := TX11) (N := 18) hx hb hts iw11 hown hK hP 0 rfl rfl 13 (by decide) fw3 (fun _ h9 => h9) rfl dX11_lookAt_221 ?_
                        refine lv_icmp_ge (tgt := 274) hx hb dX11_lookAt_224 (by decide) (fun h561 => ?_) (fun h562 => ?_)
                        · skip
                          have h561 : 1 ≤ j93 := (nI_leI (a := 1) (b := j93) (by omega) (by omega)).mp h561
                          refine lv_aload_n hx hb dX11_lookAt_274 rfl (lv_at hl 3 rfl) ?_
                          refine lv_aload_n hx hb dX11_lookAt_275 rfl (lv_at hl 3 rfl) ?_
                          refine va_get (D := D) (ci := 11) (v := .int 4) (C := RX11) (T := TX11) (N := 18) hx hb hts iw11 hown hK hP 0 rfl rfl 14 (by decide) fw4 (fun _ h9 => h9) rfl dX11_lookAt_276 ?_
                          refine lv_iconst (v := 2) hx hb dX11_lookAt_279 (by decide) ?_
                          refine lv_icmp_ne (tgt := 295) hx hb dX11_lookAt_280 (by decide) (fun _ => ?_) (fun h9 => absurd h9 (by decide))
                          refine lv_aload_n hx hb dX11_lookAt_295 rfl (lv_at hl 3 rfl) ?_
                          refine va_get (D := D) (ci := 11) (v := .int 4) (C := RX11) (T := TX11) (N := 18) hx hb hts iw11 hown hK hP 0 rfl rfl 14 (by decide) fw4 (fun _ h9 => h9) rfl dX11_lookAt_296 ?_
                          refine va_put (D := D) (ci := 11) (v := .int 4) (ty := .int) (C := RX11) (T := TX11) (N := 18) hx hb hts iw11 tyX11 tyX11_ok nmX11 hown hK hP hD hS 0 rfl rfl 14 (by decide) fw4 (fun _ h9 => h9) rfl (by decide +kernel) rfl rfl (Nat.le_of_ble_eq_true rfl) dX11_lookAt_299 (fun H locs hP hD hS => ?_)
                          have hP : va_P D vwCl [(mo, .inr (11, [.ref to, .ref ke, .ref ik, .ref mrf, .long mab, .long mbl, .ref ha, .ref r0, .ref mbr, .ref mbp, .ref mby, .int (nI bl), .int (nI j91), .int 1, .int 4, .int 0, .ref an, .ref va])), (mby, .inl (y 0, 150, .inl fmb))] H := hP
                          have hD : va_D A [(mo, .inr (11, [.ref to, .ref ke, .ref ik, .ref mrf, .long mab, .long mbl, .ref ha, .ref r0, .ref mbr, .ref mbp, .ref mby, .int (nI bl), .int (nI j91), .int 1, .int 4, .int 0, .ref an, .ref va])), (mby, .inl (y 0, 150, .inl fmb))] := hD
                          exact W.vret hx hb hr (fun tZ ht hW => ⟨⟨(j91, 1, 4, 0), rfl, ⟨by first | omega | (dsimp only; omega), by first | omega | (dsimp only; omega), by first | omega | (dsimp only; omega), by first | omega | (dsimp only; omega), by first | omega | (dsimp only; omega), by first | omega | (dsimp only; omega)⟩, by rw [ht]; exact hP.sub [0, 1] rfl, hD.sub [0, 1] (by decide) rfl⟩, hS.F ht⟩) hS.2.2 dX11_lookAt_302
                        · skip
                          have h562 : ¬ 1 ≤ j93 := fun q9 => h562 ((nI_leI (a := 1) (b := j93) (by omega) (by omega)).mpr q9)
                          refine lv_iload hx hb dX11_lookAt_227 (lv_at hl 0 rfl) ?_
                          refine lv_iconst (v := 2) hx hb dX11_lookAt_229 (by decide) ?_
                          refine lv_icmp_ge (tgt := 274) hx hb dX11_lookAt_230 (by decide) (fun h563 => ?_) (fun h564 => ?_)
                          · skip
                            have h563 : 2 ≤ j93 := (nI_leI (a := 2) (b := j93) (by omega) (by omega)).mp h563
                            refine lv_aload_n hx hb dX11_lookAt_274 rfl (lv_at hl 3 rfl) ?_
                            refine lv_aload_n hx hb dX11_lookAt_275 rfl (lv_at hl 3 rfl) ?_
                            refine va_get (D := D) (ci := 11) (v := .int 4) (C := RX11) (T := TX11) (N := 18) hx hb hts iw11 hown hK hP 0 rfl rfl 14 (by decide) fw4 (fun _ h9 => h9) rfl dX11_lookAt_276 ?_
                            refine lv_iconst (v := 2) hx hb dX11_lookAt_279 (by decide) ?_
                            refine lv_icmp_ne (tgt := 295) hx hb dX11_lookAt_280 (by decide) (fun _ => ?_) (fun h9 => absurd h9 (by decide))
                            refine lv_aload_n hx hb dX11_lookAt_295 rfl (lv_at hl 3 rfl) ?_
                            refine va_get (D := D) (ci := 11) (v := .int 4) (C := RX11) (T := TX11) (N := 18) hx hb hts iw11 hown hK hP 0 rfl rfl 14 (by decide) fw4 (fun _ h9 => h9) rfl dX11_lookAt_296 ?_
                            refine va_put (D := D) (ci := 11) (v := .int 4) (ty := .int) (C := RX11) (T := TX11) (N := 18) hx hb hts iw11 tyX11 tyX11_ok nmX11 hown hK hP hD hS 0 rfl rfl 14 (by decide) fw4 (fun _ h9 => h9) rfl (by decide +kernel) rfl rfl (Nat.le_of_ble_eq_true rfl) dX11_lookAt_299 (fun H locs hP hD hS => ?_)
                            have hP : va_P D vwCl [(mo, .inr (11, [.ref to, .ref ke, .ref ik, .ref mrf, .long mab, .long mbl, .ref ha, .ref r0, .ref mbr, .ref mbp, .ref mby, .int (nI bl), .int (nI j91), .int 1, .int 4, .int 0, .ref an, .ref va])), (mby, .inl (y 0, 150, .inl fmb))] H := hP
                            have hD : va_D A [(mo, .inr (11, [.ref to, .ref ke, .ref ik, .ref mrf, .long mab, .long mbl, .ref ha, .ref r0, .ref mbr, .ref mbp, .ref mby, .int (nI bl), .int (nI j91), .int 1, .int 4, .int 0, .ref an, .ref va])), (mby, .inl (y 0, 150, .inl fmb))] := hD
                            exact W.vret hx hb hr (fun tZ ht hW => ⟨⟨(j91, 1, 4, 0), rfl, ⟨by first | omega | (dsimp only; omega), by first | omega | (dsimp only; omega), by first | omega | (dsimp only; omega), by first | omega | (dsimp only; omega), by first | omega | (dsimp only; omega), by first | omega | (dsimp only; omega)⟩, by rw [ht]; exact hP.sub [0, 1] rfl, hD.sub [0, 1] (by decide) rfl⟩, hS.F ht⟩) hS.2.2 dX11_lookAt_302
                          · skip
                            have h564 : ¬ 2 ≤ j93 := fun q9 => h564 ((nI_leI (a := 2) (b := j93) (by omega) (by omega)).mpr q9)
                            refine lv_aload_n hx hb dX11_lookAt_233 rfl (lv_at hl 3 rfl) ?_
                            refine va_get (D := D) (ci := 11) (v := .int 4) (C := RX11) (T := TX11) (N := 18) hx hb hts iw11 hown hK hP 0 rfl rfl 14 (by decide) fw4 (fun _ h9 => h9) rfl dX11_lookAt_234 ?_
                            refine lv_iconst (v := 2) hx hb dX11_lookAt_237 (by decide) ?_
                            refine lv_icmp_ne (tgt := 274) hx hb dX11_lookAt_238 (by decide) (fun _ => ?_) (fun h9 => absurd h9 (by decide))
                            refine lv_aload_n hx hb dX11_lookAt_274 rfl (lv_at hl 3 rfl) ?_
                            refine lv_aload_n hx hb dX11_lookAt_275 rfl (lv_at hl 3 rfl) ?_
                            refine va_get (D := D) (ci := 11) (v := .int 4) (C := RX11) (T := TX11) (N := 18) hx hb hts iw11 hown hK hP 0 rfl rfl 14 (by decide) fw4 (fun _ h9 => h9) rfl dX11_lookAt_276 ?_
                            refine lv_iconst (v := 2) hx hb dX11_lookAt_279 (by decide) ?_
                            refine lv_icmp_ne (tgt := 295) hx hb dX11_lookAt_280 (by decide) (fun _ => ?_) (fun h9 => absurd h9 (by decide))
                            refine lv_aload_n hx hb dX11_lookAt_295 rfl (lv_at hl 3 rfl) ?_
                            refine va_get (D := D) (ci := 11) (v := .int 4) (C := RX11) (T := TX11) (N := 18) hx hb hts iw11 hown hK hP 0 rfl rfl 14 (by decide) fw4 (fun _ h9 => h9) rfl dX11_lookAt_296 ?_
                            refine va_put (D := D) (ci := 11) (v := .int 4) (ty := .int) (C := RX11) (T := TX11) (N := 18) hx hb hts iw11 tyX11 tyX11_ok nmX11 hown hK hP hD hS 0 rfl rfl 14 (by decide) fw4 (fun _ h9 => h9) rfl (by decide +kernel) rfl rfl (Nat.le_of_ble_eq_true rfl) dX11_lookAt_299 (fun H locs hP hD hS => ?_)
                            have hP : va_P D vwCl [(mo, .inr (11, [.ref to, .ref ke, .ref ik, .ref mrf, .long mab, .long mbl, .ref ha, .ref r0, .ref mbr, .ref mbp, .ref mby, .int (nI bl), .int (nI j91), .int 1, .int 4, .int 0, .ref an, .ref va])), (mby, .inl (y 0, 150, .inl fmb))] H := hP
                            have hD : va_D A [(mo, .inr (11, [.ref to, .ref ke, .ref ik, .ref mrf, .long mab, .long mbl, .ref ha, .ref r0, .ref mbr, .ref mbp, .ref mby, .int (nI bl), .int (nI j91), .int 1, .int 4, .int 0, .ref an, .ref va])), (mby, .inl (y 0, 150, .inl fmb))] := hD
                            exact W.vret hx hb hr (fun tZ ht hW => ⟨⟨(j91, 1, 4, 0), rfl, ⟨by first | omega | (dsimp only; omega), by first | omega | (dsimp only; omega), by first | omega | (dsimp only; omega), by first | omega | (dsimp only; omega), by first | omega | (dsimp only; omega), by first | omega | (dsimp only; omega)⟩, by rw [ht]; exact hP.sub [0, 1] rfl, hD.sub [0, 1] (by decide) rfl⟩, hS.F ht⟩) hS.2.2 dX11_lookAt_302
                    exact lp560 (1 + 1) 0  _ _ _ (by omega) (by omega)  hP hD hS (lv_sub hl [0, 1, 2, 3, 4] rfl)
                exact lp555 _  _ _ _ (Nat.lt_succ_self _) (by omega) (by omega) hP hD hS (lv_sub hl [0, 1, 2, 3] rfl)
              · skip
                refine lv_iconst (v := 3) hx hb dX11_lookAt_109 (by decide) ?_
                refine lv_goto (tgt := 114) hx hb dX11_lookAt_110 (by decide) ?_
                refine va_put (D := D) (ci := 11) (v := .int 3) (ty := .int) (C := RX11) (T := TX11) (N := 18) hx hb hts iw11 tyX11 tyX11_ok nmX11 hown hK hP hD hS 0 rfl rfl 14 (by decide) fw4 (fun _ h9 => h9) rfl (by decide +kernel) rfl rfl (Nat.le_of_ble_eq_true rfl) dX11_lookAt_114 (fun H locs hP hD hS => ?_)
                have hP : va_P D vwCl [(mo, .inr (11, [.ref to, .ref ke, .ref ik, .ref mrf, .long mab, .long mbl, .ref ha, .ref r0, .ref mbr, .ref mbp, .ref mby, .int (nI bl), .int (nI j91), .int 0, .int 3, .int 0, .ref an, .ref va])), (mby, .inl (y 0, 150, .inl fmb))] H := hP
                have hD : va_D A [(mo, .inr (11, [.ref to, .ref ke, .ref ik, .ref mrf, .long mab, .long mbl, .ref ha, .ref r0, .ref mbr, .ref mbp, .ref mby, .int (nI bl), .int (nI j91), .int 0, .int 3, .int 0, .ref an, .ref va])), (mby, .inl (y 0, 150, .inl fmb))] := hD
                refine lv_aload_n hx hb dX11_lookAt_117 rfl (lv_at hl 1 rfl) ?_
                refine lv_iconst (v := 1) hx hb dX11_lookAt_118 (by decide) ?_
                refine va_put (D := D) (ci := 11) (v := .int 1) (ty := .int) (C := RX11) (T := TX11) (N := 18) hx hb hts iw11 tyX11 tyX11_ok nmX11 hown hK hP hD hS 0 rfl rfl 13 (by decide) fw3 (fun _ h9 => h9) rfl (by decide +kernel) rfl rfl (Nat.le_of_ble_eq_true rfl) dX11_lookAt_119 (fun H locs hP hD hS => ?_)
                have hP : va_P D vwCl [(mo, .inr (11, [.ref to, .ref ke, .ref ik, .ref mrf, .long mab, .long mbl, .ref ha, .ref r0, .ref mbr, .ref mbp, .ref mby, .int (nI bl), .int (nI j91), .int 1, .int 3, .int 0, .ref an, .ref va])), (mby, .inl (y 0, 150, .inl fmb))] H := hP
                have hD : va_D A [(mo, .inr (11, [.ref to, .ref ke, .ref ik, .ref mrf, .long mab, .long mbl, .ref ha, .ref r0, .ref mbr, .ref mbp, .ref mby, .int (nI bl), .int (nI j91), .int 1, .int 3, .int 0, .ref an, .ref va])), (mby, .inl (y 0, 150, .inl fmb))] := hD
                refine lv_aload_n hx hb dX11_lookAt_122 rfl (lv_at hl 1 rfl) ?_
                refine va_get (D := D) (ci := 11) (v := .int 3) (C := RX11) (T := TX11) (N := 18) hx hb hts iw11 hown hK hP 0 rfl rfl 14 (by decide) fw4 (fun _ h9 => h9) rfl dX11_lookAt_123 ?_
                refine lv_iconst (v := 3) hx hb dX11_lookAt_126 (by decide) ?_
                refine lv_icmp_ge (tgt := 134) hx hb dX11_lookAt_127 (by decide) (fun _ => ?_) (fun h9 => absurd h9 (by decide))
                refine lv_iconst (v := 0) hx hb dX11_lookAt_134 (by decide) ?_
                refine lv_istore_n (lv' := [(3, .int 0), (2, .int (fmb j91)), (0, .ref mo), (1, .int (nI k))]) hx hb dX11_lookAt_135 rfl hl (by decide) rfl (fun ls hl => ?_)
                have lp574 : ∀ (fu92 : Nat)  (H : Heap) (locs : List Loc) (ls : Array Slot), (bl - j91 - 1) + 0 < fu92 → j91 + 1 ≤ bl → 1 ≤ 1 → va_P D vwCl [(mo, .inr (11, [.ref to, .ref ke, .ref ik, .ref mrf, .long mab, .long mbl, .ref ha, .ref r0, .ref mbr, .ref mbp, .ref mby, .int (nI bl), .int (nI j91), .int 1, .int 3, .int 0, .ref an, .ref va])), (mby, .inl (y 0, 150, .inl fmb))] H → va_D A [(mo, .inr (11, [.ref to, .ref ke, .ref ik, .ref mrf, .long mab, .long mbl, .ref ha, .ref r0, .ref mbr, .ref mbp, .ref mby, .int (nI bl), .int (nI j91), .int 1, .int 3, .int 0, .ref an, .ref va])), (mby, .inl (y 0, 150, .inl fmb))] → va_S A s.heap H locs → lv_has ls 5 [(3, .int 0), (2, .int (fmb j91)), (0, .ref mo), (1, .int (nI k))] → W pZ l eZ ({ frames := 3, cells := 0, slots := 0, locals := 105 }) s mZ [.ref mo, .int (nI k)].toArray beZ meZ cZ H locs 0 0 (MQ beZ (va_Qv (fun (u : Nat × Nat × Nat × Int32) => u.1 ≤ bl ∧ u.2.1 ≤ 150 ∧ u.2.2.1 ≤ 4 ∧ k ≤ u.1 ∧ u.1 + u.2.1 ≤ bl ∧ (u.2.2.1 = 0 ∨ 1 ≤ u.2.1)) (kw_B D (fun u => [(mo, .inr (11, [.ref to, .ref ke, .ref ik, .ref mrf, .long mab, .long mbl, .ref ha, .ref r0, .ref mbr, .ref mbp, .ref mby, .int (nI bl), .int (nI u.1), .int (nI u.2.1), .int (nI u.2.2.1), .int u.2.2.2, .ref an, .ref va])), (mby, .inl (y 0, 150, .inl fmb))]) A) A) [.ref mo, .int (nI k)].toArray s 0 0 A) (F0 mZ 136 ls []) := by
                  intro fu92
                  induction fu92 with
                  | zero => intro  H locs ls hf9; exact absurd hf9 (Nat.not_lt_zero _)
                  | succ fu92 ihfu92 =>
                    intro  H locs ls hffu92 hJ0_fu92 hJ1_fu92 hP hD hS hl
                    refine lv_iload_n hx hb dX11_lookAt_136 rfl (lv_at hl 0 rfl) ?_
                    refine lv_if_eq (tgt := 215) hx hb dX11_lookAt_137 (by decide) (fun _ => ?_) (fun h9 => absurd h9 (by decide))
                    refine lv_iconst (v := 0) hx hb dX11_lookAt_215 (by decide) ?_
                    refine lv_istore (lv' := [(4, .int 0), (3, .int 0), (2, .int (fmb j91)), (0, .ref mo), (1, .int (nI k))]) hx hb dX11_lookAt_216 hl (by decide) rfl (fun ls hl => ?_)
                    have lp579 : ∀ (fuj93 j93 : Nat)  (H : Heap) (locs : List Loc) (ls : Array Slot), j93 ≤ 1 → 1 - j93 < fuj93 → va_P D vwCl [(mo, .inr (11, [.ref to, .ref ke, .ref ik, .ref mrf, .long mab, .long mbl, .ref ha, .ref r0, .ref mbr, .ref mbp, .ref mby, .int (nI bl), .int (nI j91), .int 1, .int 3, .int 0, .ref an, .ref va])), (mby, .inl (y 0, 150, .inl fmb))] H → va_D A [(mo, .inr (11, [.ref to, .ref ke, .ref ik, .ref mrf, .long mab, .long mbl, .ref ha, .ref r0, .ref mbr, .ref mbp, .ref mby, .int (nI bl), .int (nI j91), .int 1, .int 3, .int 0, .ref an, .ref va])), (mby, .inl (y 0, 150, .inl fmb))] → va_S A s.heap H locs → lv_has ls 5 [(4, .int (nI j93)), (3, .int 0), (2, .int (fmb j91)), (0, .ref mo), (1, .int (nI k))] → W pZ l eZ ({ frames := 3, cells := 0, slots := 0, locals := 105 }) s mZ [.ref mo, .int (nI k)].toArray beZ meZ cZ H locs 0 0 (MQ beZ (va_Qv (fun (u : Nat × Nat × Nat × Int32) => u.1 ≤ bl ∧ u.2.1 ≤ 150 ∧ u.2.2.1 ≤ 4 ∧ k ≤ u.1 ∧ u.1 + u.2.1 ≤ bl ∧ (u.2.2.1 = 0 ∨ 1 ≤ u.2.1)) (kw_B D (fun u => [(mo, .inr (11, [.ref to, .ref ke, .ref ik, .ref mrf, .long mab, .long mbl, .ref ha, .ref r0, .ref mbr, .ref mbp, .ref mby, .int (nI bl), .int (nI u.1), .int (nI u.2.1), .int (nI u.2.2.1), .int u.2.2.2, .ref an, .ref va])), (mby, .inl (y 0, 150, .inl fmb))]) A) A) [.ref mo, .int (nI k)].toArray s 0 0 A) (F0 mZ 218 ls []) := by
                      intro fuj93
                      induction fuj93 with
                      | zero => intro j93  H locs ls hj9 hf9; exact absurd hf9 (Nat.not_lt_zero _)
                      | succ fuj93 ihj93 =>
                        intro j93  H locs ls hj93 hfj93  hP hD hS hl
                        refine lv_iload hx hb dX11_lookAt_218 (lv_at hl 0 rfl) ?_
                        refine lv_aload_n hx hb dX11_lookAt_220 rfl (lv_at hl 3 rfl) ?_
                        refine va_get (D := D) (ci := 11) (v := .int 1) (C := RX11) (T := TX11) (N := 18) hx hb hts iw11 hown hK hP 0 rfl rfl 13 (by decide) fw3 (fun _ h9 => h9) rfl dX11_lookAt_221 ?_
                        refine lv_icmp_ge (tgt := 274) hx hb dX11_lookAt_224 (by decide) (fun h580 => ?_) (fun h581 => ?_)
                        · skip
                          have h580 : 1 ≤ j93 := (nI_leI (a := 1) (b := j93) (by omega) (by omega)).mp h580
                          refine lv_aload_n hx hb dX11_lookAt_274 rfl (lv_at hl 3 rfl) ?_
                          refine lv_aload_n hx hb dX11_lookAt_275 rfl (lv_at hl 3 rfl) ?_
                          refine va_get (D := D) (ci := 11) (v := .int 3) (C := RX11) (T := TX11) (N := 18) hx hb hts iw11 hown hK hP 0 rfl rfl 14 (by decide) fw4 (fun _ h9 => h9) rfl dX11_lookAt_276 ?_
                          refine lv_iconst (v := 2) hx hb dX11_lookAt_279 (by decide) ?_
                          refine lv_icmp_ne (tgt := 295) hx hb dX11_lookAt_280 (by decide) (fun _ => ?_) (fun h9 => absurd h9 (by decide))
                          refine lv_aload_n hx hb dX11_lookAt_295 rfl (lv_at hl 3 rfl) ?_
                          refine va_get (D := D) (ci := 11) (v := .int 3) (C := RX11) (T := TX11) (N := 18) hx hb hts iw11 hown hK hP 0 rfl rfl 14 (by decide) fw4 (fun _ h9 => h9) rfl dX11_lookAt_296 ?_
                          refine va_put (D := D) (ci := 11) (v := .int 3) (ty := .int) (C := RX11) (T := TX11) (N := 18) hx hb hts iw11 tyX11 tyX11_ok nmX11 hown hK hP hD hS 0 rfl rfl 14 (by decide) fw4 (fun _ h9 => h9) rfl (by decide +kernel) rfl rfl (Nat.le_of_ble_eq_true rfl) dX11_lookAt_299 (fun H locs hP hD hS => ?_)
                          have hP : va_P D vwCl [(mo, .inr (11, [.ref to, .ref ke, .ref ik, .ref mrf, .long mab, .long mbl, .ref ha, .ref r0, .ref mbr, .ref mbp, .ref mby, .int (nI bl), .int (nI j91), .int 1, .int 3, .int 0, .ref an, .ref va])), (mby, .inl (y 0, 150, .inl fmb))] H := hP
                          have hD : va_D A [(mo, .inr (11, [.ref to, .ref ke, .ref ik, .ref mrf, .long mab, .long mbl, .ref ha, .ref r0, .ref mbr, .ref mbp, .ref mby, .int (nI bl), .int (nI j91), .int 1, .int 3, .int 0, .ref an, .ref va])), (mby, .inl (y 0, 150, .inl fmb))] := hD
                          exact W.vret hx hb hr (fun tZ ht hW => ⟨⟨(j91, 1, 3, 0), rfl, ⟨by first | omega | (dsimp only; omega), by first | omega | (dsimp only; omega), by first | omega | (dsimp only; omega), by first | omega | (dsimp only; omega), by first | omega | (dsimp only; omega), by first | omega | (dsimp only; omega)⟩, by rw [ht]; exact hP.sub [0, 1] rfl, hD.sub [0, 1] (by decide) rfl⟩, hS.F ht⟩) hS.2.2 dX11_lookAt_302
                        · skip
                          have h581 : ¬ 1 ≤ j93 := fun q9 => h581 ((nI_leI (a := 1) (b := j93) (by omega) (by omega)).mpr q9)
                          refine lv_iload hx hb dX11_lookAt_227 (lv_at hl 0 rfl) ?_
                          refine lv_iconst (v := 2) hx hb dX11_lookAt_229 (by decide) ?_
                          refine lv_icmp_ge (tgt := 274) hx hb dX11_lookAt_230 (by decide) (fun h582 => ?_) (fun h583 => ?_)
                          · skip
                            have h582 : 2 ≤ j93 := (nI_leI (a := 2) (b := j93) (by omega) (by omega)).mp h582
                            refine lv_aload_n hx hb dX11_lookAt_274 rfl (lv_at hl 3 rfl) ?_
                            refine lv_aload_n hx hb dX11_lookAt_275 rfl (lv_at hl 3 rfl) ?_
                            refine va_get (D := D) (ci := 11) (v := .int 3) (C := RX11) (T := TX11) (N := 18) hx hb hts iw11 hown hK hP 0 rfl rfl 14 (by decide) fw4 (fun _ h9 => h9) rfl dX11_lookAt_276 ?_
                            refine lv_iconst (v := 2) hx hb dX11_lookAt_279 (by decide) ?_
                            refine lv_icmp_ne (tgt := 295) hx hb dX11_lookAt_280 (by decide) (fun _ => ?_) (fun h9 => absurd h9 (by decide))
                            refine lv_aload_n hx hb dX11_lookAt_295 rfl (lv_at hl 3 rfl) ?_
                            refine va_get (D := D) (ci := 11) (v := .int 3) (C := RX11) (T := TX11) (N := 18) hx hb hts iw11 hown hK hP 0 rfl rfl 14 (by decide) fw4 (fun _ h9 => h9) rfl dX11_lookAt_296 ?_
                            refine va_put (D := D) (ci := 11) (v := .int 3) (ty := .int) (C := RX11) (T := TX11) (N := 18) hx hb hts iw11 tyX11 tyX11_ok nmX11 hown hK hP hD hS 0 rfl rfl 14 (by decide) fw4 (fun _ h9 => h9) rfl (by decide +kernel) rfl rfl (Nat.le_of_ble_eq_true rfl) dX11_lookAt_299 (fun H locs hP hD hS => ?_)
                            have hP : va_P D vwCl [(mo, .inr (11, [.ref to, .ref ke, .ref ik, .ref mrf, .long mab, .long mbl, .ref ha, .ref r0, .ref mbr, .ref mbp, .ref mby, .int (nI bl), .int (nI j91), .int 1, .int 3, .int 0, .ref an, .ref va])), (mby, .inl (y 0, 150, .inl fmb))] H := hP
                            have hD : va_D A [(mo, .inr (11, [.ref to, .ref ke, .ref ik, .ref mrf, .long mab, .long mbl, .ref ha, .ref r0, .ref mbr, .ref mbp, .ref mby, .int (nI bl), .int (nI j91), .int 1, .int 3, .int 0, .ref an, .ref va])), (mby, .inl (y 0, 150, .inl fmb))] := hD
                            exact W.vret hx hb hr (fun tZ ht hW => ⟨⟨(j91, 1, 3, 0), rfl, ⟨by first | omega | (dsimp only; omega), by first | omega | (dsimp only; omega), by first | omega | (dsimp only; omega), by first | omega | (dsimp only; omega), by first | omega | (dsimp only; omega), by first | omega | (dsimp only; omega)⟩, by rw [ht]; exact hP.sub [0, 1] rfl, hD.sub [0, 1] (by decide) rfl⟩, hS.F ht⟩) hS.2.2 dX11_lookAt_302
                          · skip
                            have h583 : ¬ 2 ≤ j93 := fun q9 => h583 ((nI_leI (a := 2) (b := j93) (by omega) (by omega)).mpr q9)
                            refine lv_aload_n hx hb dX11_lookAt_233 rfl (lv_at hl 3 rfl) ?_
                            refine va_get (D := D) (ci := 11) (v := .int 3) (C := RX11) (T := TX11) (N := 18) hx hb hts iw11 hown hK hP 0 rfl rfl 14 (by decide) fw4 (fun _ h9 => h9) rfl dX11_lookAt_234 ?_
                            refine lv_iconst (v := 2) hx hb dX11_lookAt_237 (by decide) ?_
                            refine lv_icmp_ne (tgt := 274) hx hb dX11_lookAt_238 (by decide) (fun _ => ?_) (fun h9 => absurd h9 (by decide))
                            refine lv_aload_n hx hb dX11_lookAt_274 rfl (lv_at hl 3 rfl) ?_
                            refine lv_aload_n hx hb dX11_lookAt_275 rfl (lv_at hl 3 rfl) ?_
                            refine va_get (D := D) (ci := 11) (v := .int 3) (C := RX11) (T := TX11) (N := 18) hx hb hts iw11 hown hK hP 0 rfl rfl 14 (by decide) fw4 (fun _ h9 => h9) rfl dX11_lookAt_276 ?_
                            refine lv_iconst (v := 2) hx hb dX11_lookAt_279 (by decide) ?_
                            refine lv_icmp_ne (tgt := 295) hx hb dX11_lookAt_280 (by decide) (fun _ => ?_) (fun h9 => absurd h9 (by decide))
                            refine lv_aload_n hx hb dX11_lookAt_295 rfl (lv_at hl 3 rfl) ?_
                            refine va_get (D := D) (ci := 11) (v := .int 3) (C := RX11) (T := TX11) (N := 18) hx hb hts iw11 hown hK hP 0 rfl rfl 14 (by decide) fw4 (fun _ h9 => h9) rfl dX11_lookAt_296 ?_
                            refine va_put (D := D) (ci := 11) (v := .int 3) (ty := .int) (C := RX11) (T := TX11) (N := 18) hx hb hts iw11 tyX11 tyX11_ok nmX11 hown hK hP hD hS 0 rfl rfl 14 (by decide) fw4 (fun _ h9 => h9) rfl (by decide +kernel) rfl rfl (Nat.le_of_ble_eq_true rfl) dX11_lookAt_299 (fun H locs hP hD hS => ?_)
                            have hP : va_P D vwCl [(mo, .inr (11, [.ref to, .ref ke, .ref ik, .ref mrf, .long mab, .long mbl, .ref ha, .ref r0, .ref mbr, .ref mbp, .ref mby, .int (nI bl), .int (nI j91), .int 1, .int 3, .int 0, .ref an, .ref va])), (mby, .inl (y 0, 150, .inl fmb))] H := hP
                            have hD : va_D A [(mo, .inr (11, [.ref to, .ref ke, .ref ik, .ref mrf, .long mab, .long mbl, .ref ha, .ref r0, .ref mbr, .ref mbp, .ref mby, .int (nI bl), .int (nI j91), .int 1, .int 3, .int 0, .ref an, .ref va])), (mby, .inl (y 0, 150, .inl fmb))] := hD
                            exact W.vret hx hb hr (fun tZ ht hW => ⟨⟨(j91, 1, 3, 0), rfl, ⟨by first | omega | (dsimp only; omega), by first | omega | (dsimp only; omega), by first | omega | (dsimp only; omega), by first | omega | (dsimp only; omega), by first | omega | (dsimp only; omega), by first | omega | (dsimp only; omega)⟩, by rw [ht]; exact hP.sub [0, 1] rfl, hD.sub [0, 1] (by decide) rfl⟩, hS.F ht⟩) hS.2.2 dX11_lookAt_302
                    exact lp579 (1 + 1) 0  _ _ _ (by omega) (by omega)  hP hD hS (lv_sub hl [0, 1, 2, 3, 4] rfl)
                exact lp574 _  _ _ _ (Nat.lt_succ_self _) (by omega) (by omega) hP hD hS (lv_sub hl [0, 1, 2, 3] rfl)
            · skip
              have hP : va_P D vwCl [(mo, .inr (11, [.ref to, .ref ke, .ref ik, .ref mrf, .long mab, .long mbl, .ref ha, .ref r0, .ref mbr, .ref mbp, .ref mby, .int (nI bl), .int (nI j91), .int 0, .int 0, .int 0, .ref an, .ref va])), (mby, .inl (y 0, 150, .inl fmb))] H := hP
              have hD : va_D A [(mo, .inr (11, [.ref to, .ref ke, .ref ik, .ref mrf, .long mab, .long mbl, .ref ha, .ref r0, .ref mbr, .ref mbp, .ref mby, .int (nI bl), .int (nI j91), .int 0, .int 0, .int 0, .ref an, .ref va])), (mby, .inl (y 0, 150, .inl fmb))] := hD
              refine lv_if_eq (tgt := 103) hx hb dX11_lookAt_96 (by decide) (fun h9 => absurd h9 (by decide)) (fun _ => ?_)
              refine lv_iconst (v := 2) hx hb dX11_lookAt_99 (by decide) ?_
              refine lv_goto (tgt := 114) hx hb dX11_lookAt_100 (by decide) ?_
              refine va_put (D := D) (ci := 11) (v := .int 2) (ty := .int) (C := RX11) (T := TX11) (N := 18) hx hb hts iw11 tyX11 tyX11_ok nmX11 hown hK hP hD hS 0 rfl rfl 14 (by decide) fw4 (fun _ h9 => h9) rfl (by decide +kernel) rfl rfl (Nat.le_of_ble_eq_true rfl) dX11_lookAt_114 (fun H locs hP hD hS => ?_)
              have hP : va_P D vwCl [(mo, .inr (11, [.ref to, .ref ke, .ref ik, .ref mrf, .long mab, .long mbl, .ref ha, .ref r0, .ref mbr, .ref mbp, .ref mby, .int (nI bl), .int (nI j91), .int 0, .int 2, .int 0, .ref an, .ref va])), (mby, .inl (y 0, 150, .inl fmb))] H := hP
              have hD : va_D A [(mo, .inr (11, [.ref to, .ref ke, .ref ik, .ref mrf, .long mab, .long mbl, .ref ha, .ref r0, .ref mbr, .ref mbp, .ref mby, .int (nI bl), .int (nI j91), .int 0, .int 2, .int 0, .ref an, .ref va])), (mby, .inl (y 0, 150, .inl fmb))] := hD
              refine lv_aload_n hx hb dX11_lookAt_117 rfl (lv_at hl 1 rfl) ?_
              refine lv_iconst (v := 1) hx hb dX11_lookAt_118 (by decide) ?_
              refine va_put (D := D) (ci := 11) (v := .int 1) (ty := .int) (C := RX11) (T := TX11) (N := 18) hx hb hts iw11 tyX11 tyX11_ok nmX11 hown hK hP hD hS 0 rfl rfl 13 (by decide) fw3 (fun _ h9 => h9) rfl (by decide +kernel) rfl rfl (Nat.le_of_ble_eq_true rfl) dX11_lookAt_119 (fun H locs hP hD hS => ?_)
              have hP : va_P D vwCl [(mo, .inr (11, [.ref to, .ref ke, .ref ik, .ref mrf, .long mab, .long mbl, .ref ha, .ref r0, .ref mbr, .ref mbp, .ref mby, .int (nI bl), .int (nI j91), .int 1, .int 2, .int 0, .ref an, .ref va])), (mby, .inl (y 0, 150, .inl fmb))] H := hP
              have hD : va_D A [(mo, .inr (11, [.ref to, .ref ke, .ref ik, .ref mrf, .long mab, .long mbl, .ref ha, .ref r0, .ref mbr, .ref mbp, .ref mby, .int (nI bl), .int (nI j91), .int 1, .int 2, .int 0, .ref an, .ref va])), (mby, .inl (y 0, 150, .inl fmb))] := hD
              refine lv_aload_n hx hb dX11_lookAt_122 rfl (lv_at hl 1 rfl) ?_
              refine va_get (D := D) (ci := 11) (v := .int 2) (C := RX11) (T := TX11) (N := 18) hx hb hts iw11 hown hK hP 0 rfl rfl 14 (by decide) fw4 (fun _ h9 => h9) rfl dX11_lookAt_123 ?_
              refine lv_iconst (v := 3) hx hb dX11_lookAt_126 (by decide) ?_
              refine lv_icmp_ge (tgt := 134) hx hb dX11_lookAt_127 (by decide) (fun h9 => absurd h9 (by decide)) (fun _ => ?_)
              refine lv_iconst (v := 1) hx hb dX11_lookAt_130 (by decide) ?_
              refine lv_goto (tgt := 135) hx hb dX11_lookAt_131 (by decide) ?_
              refine lv_istore_n (lv' := [(3, .int 1), (2, .int (fmb j91)), (0, .ref mo), (1, .int (nI k))]) hx hb dX11_lookAt_135 rfl hl (by decide) rfl (fun ls hl => ?_)
              have lp669 : ∀ (fu92 : Nat) (x606 : Nat) (x607 : Nat) (H : Heap) (locs : List Loc) (ls : Array Slot), (bl - j91 - x607) + x606 < fu92 → x606 ≤ 1 → x607 ≤ 150 → j91 + x607 ≤ bl → 1 ≤ x607 → va_P D vwCl [(mo, .inr (11, [.ref to, .ref ke, .ref ik, .ref mrf, .long mab, .long mbl, .ref ha, .ref r0, .ref mbr, .ref mbp, .ref mby, .int (nI bl), .int (nI j91), .int (nI x607), .int 2, .int 0, .ref an, .ref va])), (mby, .inl (y 0, 150, .inl fmb))] H → va_D A [(mo, .inr (11, [.ref to, .ref ke, .ref ik, .ref mrf, .long mab, .long mbl, .ref ha, .ref r0, .ref mbr, .ref mbp, .ref mby, .int (nI bl), .int (nI j91), .int (nI x607), .int 2, .int 0, .ref an, .ref va])), (mby, .inl (y 0, 150, .inl fmb))] → va_S A s.heap H locs → lv_has ls 5 [(3, .int (nI x606)), (2, .int (fmb j91)), (0, .ref mo), (1, .int (nI k))] → W pZ l eZ ({ frames := 3, cells := 0, slots := 0, locals := 105 }) s mZ [.ref mo, .int (nI k)].toArray beZ meZ cZ H locs 0 0 (MQ beZ (va_Qv (fun (u : Nat × Nat × Nat × Int32) => u.1 ≤ bl ∧ u.2.1 ≤ 150 ∧ u.2.2.1 ≤ 4 ∧ k ≤ u.1 ∧ u.1 + u.2.1 ≤ bl ∧ (u.2.2.1 = 0 ∨ 1 ≤ u.2.1)) (kw_B D (fun u => [(mo, .inr (11, [.ref to, .ref ke, .ref ik, .ref mrf, .long mab, .long mbl, .ref ha, .ref r0, .ref mbr, .ref mbp, .ref mby, .int (nI bl), .int (nI u.1), .int (nI u.2.1), .int (nI u.2.2.1), .int u.2.2.2, .ref an, .ref va])), (mby, .inl (y 0, 150, .inl fmb))]) A) A) [.ref mo, .int (nI k)].toArray s 0 0 A) (F0 mZ 136 ls []) := by
                intro fu92
                induction fu92 with
                | zero => intro x606 x607 H locs ls hf9; exact absurd hf9 (Nat.not_lt_zero _)
                | succ fu92 ihfu92 =>
                  intro x606 x607 H locs ls hffu92 hn_x606 hn_x607 hJ0_fu92 hJ1_fu92 hP hD hS hl
                  refine lv_iload_n hx hb dX11_lookAt_136 rfl (lv_at hl 0 rfl) ?_
                  refine lv_if_eq (tgt := 215) hx hb dX11_lookAt_137 (by decide) (fun h670 => ?_) (fun h671 => ?_)
                  · skip
                    have h670 : x606 = 0 := (nI_eq (a := x606) (b := 0) (by omega) (by omega)).mp h670
                    refine lv_iconst (v := 0) hx hb dX11_lookAt_215 (by decide) ?_
                    refine lv_istore (lv' := [(4, .int 0), (3, .int (nI x606)), (2, .int (fmb j91)), (0, .ref mo), (1, .int (nI k))]) hx hb dX11_lookAt_216 hl (by decide) rfl (fun ls hl => ?_)
                    have lp690 : ∀ (fuj93 j93 : Nat) (x681 : Int32) (H : Heap) (locs : List Loc) (ls : Array Slot), j93 ≤ x607 → x607 - j93 < fuj93 → va_P D vwCl [(mo, .inr (11, [.ref to, .ref ke, .ref ik, .ref mrf, .long mab, .long mbl, .ref ha, .ref r0, .ref mbr, .ref mbp, .ref mby, .int (nI bl), .int (nI j91), .int (nI x607), .int 2, .int x681, .ref an, .ref va])), (mby, .inl (y 0, 150, .inl fmb))] H → va_D A [(mo, .inr (11, [.ref to, .ref ke, .ref ik, .ref mrf, .long mab, .long mbl, .ref ha, .ref r0, .ref mbr, .ref mbp, .ref mby, .int (nI bl), .int (nI j91), .int (nI x607), .int 2, .int x681, .ref an, .ref va])), (mby, .inl (y 0, 150, .inl fmb))] → va_S A s.heap H locs → lv_has ls 5 [(4, .int (nI j93)), (3, .int (nI x606)), (2, .int (fmb j91)), (0, .ref mo), (1, .int (nI k))] → W pZ l eZ ({ frames := 3, cells := 0, slots := 0, locals := 105 }) s mZ [.ref mo, .int (nI k)].toArray beZ meZ cZ H locs 0 0 (MQ beZ (va_Qv (fun (u : Nat × Nat × Nat × Int32) => u.1 ≤ bl ∧ u.2.1 ≤ 150 ∧ u.2.2.1 ≤ 4 ∧ k ≤ u.1 ∧ u.1 + u.2.1 ≤ bl ∧ (u.2.2.1 = 0 ∨ 1 ≤ u.2.1)) (kw_B D (fun u => [(mo, .inr (11, [.ref to, .ref ke, .ref ik, .ref mrf, .long mab, .long mbl, .ref ha, .ref r0, .ref mbr, .ref mbp, .ref mby, .int (nI bl), .int (nI u.1), .int (nI u.2.1), .int (nI u.2.2.1), .int u.2.2.2, .ref an, .ref va])), (mby, .inl (y 0, 150, .inl fmb))]) A) A) [.ref mo, .int (nI k)].toArray s 0 0 A) (F0 mZ 218 ls []) := by
                      intro fuj93
                      induction fuj93 with
                      | zero => intro j93 x681 H locs ls hj9 hf9; exact absurd hf9 (Nat.not_lt_zero _)
                      | succ fuj93 ihj93 =>
                        intro j93 x681 H locs ls hj93 hfj93  hP hD hS hl
                        refine lv_iload hx hb dX11_lookAt_218 (lv_at hl 0 rfl) ?_
                        refine lv_aload_n hx hb dX11_lookAt_220 rfl (lv_at hl 3 rfl) ?_
                        refine va_get (D := D) (ci := 11) (v := .int (nI x607)) (C := RX11) (T := TX11) (N := 18) hx hb hts iw11 hown hK hP 0 rfl rfl 13 (by decide) fw3 (fun _ h9 => h9) rfl dX11_lookAt_221 ?_
                        refine lv_icmp_ge (tgt := 274) hx hb dX11_lookAt_224 (by decide) (fun h691 => ?_) (fun h692 => ?_)
                        · skip
                          have h691 : x607 ≤ j93 := (nI_leI (a := x607) (b := j93) (by omega) (by omega)).mp h691
                          refine lv_aload_n hx hb dX11_lookAt_274 rfl (lv_at hl 3 rfl) ?_
                          refine lv_aload_n hx hb dX11_lookAt_275 rfl (lv_at hl 3 rfl) ?_
                          refine va_get (D := D) (ci := 11) (v := .int 2) (C := RX11) (T := TX11) (N := 18) hx hb hts iw11 hown hK hP 0 rfl rfl 14 (by decide) fw4 (fun _ h9 => h9) rfl dX11_lookAt_276 ?_
                          refine lv_iconst (v := 2) hx hb dX11_lookAt_279 (by decide) ?_
                          refine lv_icmp_ne (tgt := 295) hx hb dX11_lookAt_280 (by decide) (fun h9 => absurd h9 (by decide)) (fun _ => ?_)
                          refine lv_aload_n hx hb dX11_lookAt_283 rfl (lv_at hl 3 rfl) ?_
                          refine va_get (D := D) (ci := 11) (v := .int (nI x607)) (C := RX11) (T := TX11) (N := 18) hx hb hts iw11 hown hK hP 0 rfl rfl 13 (by decide) fw3 (fun _ h9 => h9) rfl dX11_lookAt_284 ?_
                          refine lv_iconst (v := 2) hx hb dX11_lookAt_287 (by decide) ?_
                          refine lv_icmp_le (tgt := 295) hx hb dX11_lookAt_288 (by decide) (fun h693 => ?_) (fun h694 => ?_)
                          · skip
                            have h693 : x607 ≤ 2 := (nI_leI (a := x607) (b := 2) (by omega) (by omega)).mp h693
                            refine lv_aload_n hx hb dX11_lookAt_295 rfl (lv_at hl 3 rfl) ?_
                            refine va_get (D := D) (ci := 11) (v := .int 2) (C := RX11) (T := TX11) (N := 18) hx hb hts iw11 hown hK hP 0 rfl rfl 14 (by decide) fw4 (fun _ h9 => h9) rfl dX11_lookAt_296 ?_
                            refine va_put (D := D) (ci := 11) (v := .int 2) (ty := .int) (C := RX11) (T := TX11) (N := 18) hx hb hts iw11 tyX11 tyX11_ok nmX11 hown hK hP hD hS 0 rfl rfl 14 (by decide) fw4 (fun _ h9 => h9) rfl (by decide +kernel) rfl rfl (Nat.le_of_ble_eq_true rfl) dX11_lookAt_299 (fun H locs hP hD hS => ?_)
                            have hP : va_P D vwCl [(mo, .inr (11, [.ref to, .ref ke, .ref ik, .ref mrf, .long mab, .long mbl, .ref ha, .ref r0, .ref mbr, .ref mbp, .ref mby, .int (nI bl), .int (nI j91), .int (nI x607), .int 2, .int x681, .ref an, .ref va])), (mby, .inl (y 0, 150, .inl fmb))] H := hP
                            have hD : va_D A [(mo, .inr (11, [.ref to, .ref ke, .ref ik, .ref mrf, .long mab, .long mbl, .ref ha, .ref r0, .ref mbr, .ref mbp, .ref mby, .int (nI bl), .int (nI j91), .int (nI x607), .int 2, .int x681, .ref an, .ref va])), (mby, .inl (y 0, 150, .inl fmb))] := hD
                            exact W.vret hx hb hr (fun tZ ht hW => ⟨⟨(j91, x607, 2, x681), rfl, ⟨by first | omega | (dsimp only; omega), by first | omega | (dsimp only; omega), by first | omega | (dsimp only; omega), by first | omega | (dsimp only; omega), by first | omega | (dsimp only; omega), by first | omega | (dsimp only; omega)⟩, by rw [ht]; exact hP.sub [0, 1] rfl, hD.sub [0, 1] (by decide) rfl⟩, hS.F ht⟩) hS.2.2 dX11_lookAt_302
                          · skip
                            have h694 : ¬ x607 ≤ 2 := fun q9 => h694 ((nI_leI (a := x607) (b := 2) (by omega) (by omega)).mpr q9)
                            refine lv_iconst (v := 4) hx hb dX11_lookAt_291 (by decide) ?_
                            refine lv_goto (tgt := 299) hx hb dX11_lookAt_292 (by decide) ?_
                            refine va_put (D := D) (ci := 11) (v := .int 4) (ty := .int) (C := RX11) (T := TX11) (N := 18) hx hb hts iw11 tyX11 tyX11_ok nmX11 hown hK hP hD hS 0 rfl rfl 14 (by decide) fw4 (fun _ h9 => h9) rfl (by decide +kernel) rfl rfl (Nat.le_of_ble_eq_true rfl) dX11_lookAt_299 (fun H locs hP hD hS => ?_)
                            have hP : va_P D vwCl [(mo, .inr (11, [.ref to, .ref ke, .ref ik, .ref mrf, .long mab, .long mbl, .ref ha, .ref r0, .ref mbr, .ref mbp, .ref mby, .int (nI bl), .int (nI j91), .int (nI x607), .int 4, .int x681, .ref an, .ref va])), (mby, .inl (y 0, 150, .inl fmb))] H := hP
                            have hD : va_D A [(mo, .inr (11, [.ref to, .ref ke, .ref ik, .ref mrf, .long mab, .long mbl, .ref ha, .ref r0, .ref mbr, .ref mbp, .ref mby, .int (nI bl), .int (nI j91), .int (nI x607), .int 4, .int x681, .ref an, .ref va])), (mby, .inl (y 0, 150, .inl fmb))] := hD
                            exact W.vret hx hb hr (fun tZ ht hW => ⟨⟨(j91, x607, 4, x681), rfl, ⟨by first | omega | (dsimp only; omega), by first | omega | (dsimp only; omega), by first | omega | (dsimp only; omega), by first | omega | (dsimp only; omega), by first | omega | (dsimp only; omega), by first | omega | (dsimp only; omega)⟩, by rw [ht]; exact hP.sub [0, 1] rfl, hD.sub [0, 1] (by decide) rfl⟩, hS.F ht⟩) hS.2.2 dX11_lookAt_302
                        · skip
                          have h692 : ¬ x607 ≤ j93 := fun q9 => h692 ((nI_leI (a := x607) (b := j93) (by omega) (by omega)).mpr q9)
                          refine lv_iload hx hb dX11_lookAt_227 (lv_at hl 0 rfl) ?_
                          refine lv_iconst (v := 2) hx hb dX11_lookAt_229 (by decide) ?_
                          refine lv_icmp_ge (tgt := 274) hx hb dX11_lookAt_230 (by decide) (fun h695 => ?_) (fun h696 => ?_)
                          · skip
                            have h695 : 2 ≤ j93 := (nI_leI (a := 2) (b := j93) (by omega) (by omega)).mp h695
                            refine lv_aload_n hx hb dX11_lookAt_274 rfl (lv_at hl 3 rfl) ?_
                            refine lv_aload_n hx hb dX11_lookAt_275 rfl (lv_at hl 3 rfl) ?_
                            refine va_get (D := D) (ci := 11) (v := .int 2) (C := RX11) (T := TX11) (N := 18) hx hb hts iw11 hown hK hP 0 rfl rfl 14 (by decide) fw4 (fun _ h9 => h9) rfl dX11_lookAt_276 ?_
                            refine lv_iconst (v := 2) hx hb dX11_lookAt_279 (by decide) ?_
                            refine lv_icmp_ne (tgt := 295) hx hb dX11_lookAt_280 (by decide) (fun h9 => absurd h9 (by decide)) (fun _ => ?_)
                            refine lv_aload_n hx hb dX11_lookAt_283 rfl (lv_at hl 3 rfl) ?_
                            refine va_get (D := D) (ci := 11) (v := .int (nI x607)) (C := RX11) (T := TX11) (N := 18) hx hb hts iw11 hown hK hP 0 rfl rfl 13 (by decide) fw3 (fun _ h9 => h9) rfl dX11_lookAt_284 ?_
                            refine lv_iconst (v := 2) hx hb dX11_lookAt_287 (by decide) ?_
                            refine lv_icmp_le (tgt := 295) hx hb dX11_lookAt_288 (by decide) (fun h697 => ?_) (fun h698 => ?_)
                            · skip
                              have h697 : x607 ≤ 2 := (nI_leI (a := x607) (b := 2) (by omega) (by omega)).mp h697
                              refine lv_aload_n hx hb dX11_lookAt_295 rfl (lv_at hl 3 rfl) ?_
                              refine va_get (D := D) (ci := 11) (v := .int 2) (C := RX11) (T := TX11) (N := 18) hx hb hts iw11 hown hK hP 0 rfl rfl 14 (by decide) fw4 (fun _ h9 => h9) rfl dX11_lookAt_296 ?_
                              refine va_put (D := D) (ci := 11) (v := .int 2) (ty := .int) (C := RX11) (T := TX11) (N := 18) hx hb hts iw11 tyX11 tyX11_ok nmX11 hown hK hP hD hS 0 rfl rfl 14 (by decide) fw4 (fun _ h9 => h9) rfl (by decide +kernel) rfl rfl (Nat.le_of_ble_eq_true rfl) dX11_lookAt_299 (fun H locs hP hD hS => ?_)
                              have hP : va_P D vwCl [(mo, .inr (11, [.ref to, .ref ke, .ref ik, .ref mrf, .long mab, .long mbl, .ref ha, .ref r0, .ref mbr, .ref mbp, .ref mby, .int (nI bl), .int (nI j91), .int (nI x607), .int 2, .int x681, .ref an, .ref va])), (mby, .inl (y 0, 150, .inl fmb))] H := hP
                              have hD : va_D A [(mo, .inr (11, [.ref to, .ref ke, .ref ik, .ref mrf, .long mab, .long mbl, .ref ha, .ref r0, .ref mbr, .ref mbp, .ref mby, .int (nI bl), .int (nI j91), .int (nI x607), .int 2, .int x681, .ref an, .ref va])), (mby, .inl (y 0, 150, .inl fmb))] := hD
                              exact W.vret hx hb hr (fun tZ ht hW => ⟨⟨(j91, x607, 2, x681), rfl, ⟨by first | omega | (dsimp only; omega), by first | omega | (dsimp only; omega), by first | omega | (dsimp only; omega), by first | omega | (dsimp only; omega), by first | omega | (dsimp only; omega), by first | omega | (dsimp only; omega)⟩, by rw [ht]; exact hP.sub [0, 1] rfl, hD.sub [0, 1] (by decide) rfl⟩, hS.F ht⟩) hS.2.2 dX11_lookAt_302
                            · skip
                              have h698 : ¬ x607 ≤ 2 := fun q9 => h698 ((nI_leI (a := x607) (b := 2) (by omega) (by omega)).mpr q9)
                              refine lv_iconst (v := 4) hx hb dX11_lookAt_291 (by decide) ?_
                              refine lv_goto (tgt := 299) hx hb dX11_lookAt_292 (by decide) ?_
                              refine va_put (D := D) (ci := 11) (v := .int 4) (ty := .int) (C := RX11) (T := TX11) (N := 18) hx hb hts iw11 tyX11 tyX11_ok nmX11 hown hK hP hD hS 0 rfl rfl 14 (by decide) fw4 (fun _ h9 => h9) rfl (by decide +kernel) rfl rfl (Nat.le_of_ble_eq_true rfl) dX11_lookAt_299 (fun H locs hP hD hS => ?_)
                              have hP : va_P D vwCl [(mo, .inr (11, [.ref to, .ref ke, .ref ik, .ref mrf, .long mab, .long mbl, .ref ha, .ref r0, .ref mbr, .ref mbp, .ref mby, .int (nI bl), .int (nI j91), .int (nI x607), .int 4, .int x681, .ref an, .ref va])), (mby, .inl (y 0, 150, .inl fmb))] H := hP
                              have hD : va_D A [(mo, .inr (11, [.ref to, .ref ke, .ref ik, .ref mrf, .long mab, .long mbl, .ref ha, .ref r0, .ref mbr, .ref mbp, .ref mby, .int (nI bl), .int (nI j91), .int (nI x607), .int 4, .int x681, .ref an, .ref va])), (mby, .inl (y 0, 150, .inl fmb))] := hD
                              exact W.vret hx hb hr (fun tZ ht hW => ⟨⟨(j91, x607, 4, x681), rfl, ⟨by first | omega | (dsimp only; omega), by first | omega | (dsimp only; omega), by first | omega | (dsimp only; omega), by first | omega | (dsimp only; omega), by first | omega | (dsimp only; omega), by first | omega | (dsimp only; omega)⟩, by rw [ht]; exact hP.sub [0, 1] rfl, hD.sub [0, 1] (by decide) rfl⟩, hS.F ht⟩) hS.2.2 dX11_lookAt_302
                          · skip
                            have h696 : ¬ 2 ≤ j93 := fun q9 => h696 ((nI_leI (a := 2) (b := j93) (by omega) (by omega)).mpr q9)
                            refine lv_aload_n hx hb dX11_lookAt_233 rfl (lv_at hl 3 rfl) ?_
                            refine va_get (D := D) (ci := 11) (v := .int 2) (C := RX11) (T := TX11) (N := 18) hx hb hts iw11 hown hK hP 0 rfl rfl 14 (by decide) fw4 (fun _ h9 => h9) rfl dX11_lookAt_234 ?_
                            refine lv_iconst (v := 2) hx hb dX11_lookAt_237 (by decide) ?_
                            refine lv_icmp_ne (tgt := 274) hx hb dX11_lookAt_238 (by decide) (fun h9 => absurd h9 (by decide)) (fun _ => ?_)
                            refine lv_aload_n hx hb dX11_lookAt_241 rfl (lv_at hl 3 rfl) ?_
                            refine lv_bipush (v := 10) hx hb dX11_lookAt_242 (by decide) ?_
                            refine lv_aload_n hx hb dX11_lookAt_244 rfl (lv_at hl 3 rfl) ?_
                            refine va_get (D := D) (ci := 11) (v := .int x681) (C := RX11) (T := TX11) (N := 18) hx hb hts iw11 hown hK hP 0 rfl rfl 15 (by decide) fw5 (fun _ h9 => h9) rfl dX11_lookAt_245 ?_
                            refine lv_imul hx hb dX11_lookAt_248 ?_
                            refine lv_aload_n hx hb dX11_lookAt_249 rfl (lv_at hl 3 rfl) ?_
                            refine va_get (D := D) (ci := 11) (v := .ref mby) (C := RX11) (T := TX11) (N := 18) hx hb hts iw11 hown hK hP 0 rfl rfl 10 (by decide) fw6 (fun _ h9 => h9) rfl dX11_lookAt_250 ?_
                            refine lv_aload_n hx hb dX11_lookAt_253 rfl (lv_at hl 3 rfl) ?_
                            refine va_get (D := D) (ci := 11) (v := .int (nI j91)) (C := RX11) (T := TX11) (N := 18) hx hb hts iw11 hown hK hP 0 rfl rfl 12 (by decide) fw1 (fun _ h9 => h9) rfl dX11_lookAt_254 ?_
                            refine lv_iload hx hb dX11_lookAt_257 (lv_at hl 0 rfl) ?_
                            refine lv_iadd hx hb dX11_lookAt_259 ?_
                            rw [show (nI j91) + (nI j93) = nI (j91 + j93) from nI_add j91 j93]
                            refine va_iald hx hb hK hP 1 0 rfl rfl (vp_in_nI (by omega) (by decide)) dX11_lookAt_260 ?_
                            rw [nI_clamp (n := (j91 + j93)) (by omega)]
                            refine lv_iadd hx hb dX11_lookAt_261 ?_
                            refine lv_bipush (v := 48) hx hb dX11_lookAt_262 (by decide) ?_
                            refine lv_isub hx hb dX11_lookAt_264 ?_
                            refine va_put (D := D) (ci := 11) (v := .int (((10 * x681) + (fmb (j91 + j93))) - 48)) (ty := .int) (C := RX11) (T := TX11) (N := 18) hx hb hts iw11 tyX11 tyX11_ok nmX11 hown hK hP hD hS 0 rfl rfl 15 (by decide) fw5 (fun _ h9 => h9) rfl (by decide +kernel) rfl rfl (Nat.le_of_ble_eq_true rfl) dX11_lookAt_265 (fun H locs hP hD hS => ?_)
                            have hP : va_P D vwCl [(mo, .inr (11, [.ref to, .ref ke, .ref ik, .ref mrf, .long mab, .long mbl, .ref ha, .ref r0, .ref mbr, .ref mbp, .ref mby, .int (nI bl), .int (nI j91), .int (nI x607), .int 2, .int (((10 * x681) + (fmb (j91 + j93))) - 48), .ref an, .ref va])), (mby, .inl (y 0, 150, .inl fmb))] H := hP
                            have hD : va_D A [(mo, .inr (11, [.ref to, .ref ke, .ref ik, .ref mrf, .long mab, .long mbl, .ref ha, .ref r0, .ref mbr, .ref mbp, .ref mby, .int (nI bl), .int (nI j91), .int (nI x607), .int 2, .int (((10 * x681) + (fmb (j91 + j93))) - 48), .ref an, .ref va])), (mby, .inl (y 0, 150, .inl fmb))] := hD
                            refine lv_iinc (v := (nI (j93 + 1))) (lv' := [(4, .int (nI (j93 + 1))), (3, .int (nI x606)), (2, .int (fmb j91)), (0, .ref mo), (1, .int (nI k))]) hx hb dX11_lookAt_268 hl (k := 0) rfl (nI_1 j93) (by decide) rfl (fun ls hl => ?_)
                            refine lv_goto (tgt := 218) hx hb dX11_lookAt_271 (by decide) ?_
                            exact ihj93 (j93 + 1) (((10 * x681) + (fmb (j91 + j93))) - 48) H locs ls (by omega) (by omega)  (hP.sub [0, 1] rfl) (hD.sub [0, 1] (by decide) rfl) hS (lv_sub hl [0, 1, 2, 3, 4] rfl)
                    exact lp690 (x607 + 1) 0 0 _ _ _ (by omega) (by omega)  hP hD hS (lv_sub hl [0, 1, 2, 3, 4] rfl)
                  · skip
                    have h671 : ¬ x606 = 0 := fun q9 => h671 ((nI_eq (a := x606) (b := 0) (by omega) (by omega)).mpr q9)
                    refine lv_aload_n hx hb dX11_lookAt_140 rfl (lv_at hl 2 rfl) ?_
                    refine va_get (D := D) (ci := 11) (v := .int (nI j91)) (C := RX11) (T := TX11) (N := 18) hx hb hts iw11 hown hK hP 0 rfl rfl 12 (by decide) fw1 (fun _ h9 => h9) rfl dX11_lookAt_141 ?_
                    refine lv_aload_n hx hb dX11_lookAt_144 rfl (lv_at hl 2 rfl) ?_
                    refine va_get (D := D) (ci := 11) (v := .int (nI x607)) (C := RX11) (T := TX11) (N := 18) hx hb hts iw11 hown hK hP 0 rfl rfl 13 (by decide) fw3 (fun _ h9 => h9) rfl dX11_lookAt_145 ?_
                    refine lv_iadd hx hb dX11_lookAt_148 ?_
                    rw [show (nI j91) + (nI x607) = nI (j91 + x607) from nI_add j91 x607]
                    refine lv_aload_n hx hb dX11_lookAt_149 rfl (lv_at hl 2 rfl) ?_
                    refine va_get (D := D) (ci := 11) (v := .int (nI bl)) (C := RX11) (T := TX11) (N := 18) hx hb hts iw11 hown hK hP 0 rfl rfl 11 (by decide) fw2 (fun _ h9 => h9) rfl dX11_lookAt_150 ?_
                    refine lv_icmp_ge (tgt := 215) hx hb dX11_lookAt_153 (by decide) (fun h699 => ?_) (fun h700 => ?_)
                    · skip
                      have h699 : bl ≤ (j91 + x607) := (nI_leI (a := bl) (b := (j91 + x607)) (by omega) (by omega)).mp h699
                      refine lv_iconst (v := 0) hx hb dX11_lookAt_215 (by decide) ?_
                      refine lv_istore (lv' := [(4, .int 0), (3, .int (nI x606)), (2, .int (fmb j91)), (0, .ref mo), (1, .int (nI k))]) hx hb dX11_lookAt_216 hl (by decide) rfl (fun ls hl => ?_)
                      have lp719 : ∀ (fuj93 j93 : Nat) (x710 : Int32) (H : Heap) (locs : List Loc) (ls : Array Slot), j93 ≤ x607 → x607 - j93 < fuj93 → va_P D vwCl [(mo, .inr (11, [.ref to, .ref ke, .ref ik, .ref mrf, .long mab, .long mbl, .ref ha, .ref r0, .ref mbr, .ref mbp, .ref mby, .int (nI bl), .int (nI j91), .int (nI x607), .int 2, .int x710, .ref an, .ref va])), (mby, .inl (y 0, 150, .inl fmb))] H → va_D A [(mo, .inr (11, [.ref to, .ref ke, .ref ik, .ref mrf, .long mab, .long mbl, .ref ha, .ref r0, .ref mbr, .ref mbp, .ref mby, .int (nI bl), .int (nI j91), .int (nI x607), .int 2, .int x710, .ref an, .ref va])), (mby, .inl (y 0, 150, .inl fmb))] → va_S A s.heap H locs → lv_has ls 5 [(4, .int (nI j93)), (3, .int (nI x606)), (2, .int (fmb j91)), (0, .ref mo), (1, .int (nI k))] → W pZ l eZ ({ frames := 3, cells := 0, slots := 0, locals := 105 }) s mZ [.ref mo, .int (nI k)].toArray beZ meZ cZ H locs 0 0 (MQ beZ (va_Qv (fun (u : Nat × Nat × Nat × Int32) => u.1 ≤ bl ∧ u.2.1 ≤ 150 ∧ u.2.2.1 ≤ 4 ∧ k ≤ u.1 ∧ u.1 + u.2.1 ≤ bl ∧ (u.2.2.1 = 0 ∨ 1 ≤ u.2.1)) (kw_B D (fun u => [(mo, .inr (11, [.ref to, .ref ke, .ref ik, .ref mrf, .long mab, .long mbl, .ref ha, .ref r0, .ref mbr, .ref mbp, .ref mby, .int (nI bl), .int (nI u.1), .int (nI u.2.1), .int (nI u.2.2.1), .int u.2.2.2, .ref an, .ref va])), (mby, .inl (y 0, 150, .inl fmb))]) A) A) [.ref mo, .int (nI k)].toArray s 0 0 A) (F0 mZ 218 ls []) := by
                        intro fuj93
                        induction fuj93 with
                        | zero => intro j93 x710 H locs ls hj9 hf9; exact absurd hf9 (Nat.not_lt_zero _)
                        | succ fuj93 ihj93 =>
                          intro j93 x710 H locs ls hj93 hfj93  hP hD hS hl
                          refine lv_iload hx hb dX11_lookAt_218 (lv_at hl 0 rfl) ?_
                          refine lv_aload_n hx hb dX11_lookAt_220 rfl (lv_at hl 3 rfl) ?_
                          refine va_get (D := D) (ci := 11) (v := .int (nI x607)) (C := RX11) (T := TX11) (N := 18) hx hb hts iw11 hown hK hP 0 rfl rfl 13 (by decide) fw3 (fun _ h9 => h9) rfl dX11_lookAt_221 ?_
                          refine lv_icmp_ge (tgt := 274) hx hb dX11_lookAt_224 (by decide) (fun h720 => ?_) (fun h721 => ?_)
                          · skip
                            have h720 : x607 ≤ j93 := (nI_leI (a := x607) (b := j93) (by omega) (by omega)).mp h720
                            refine lv_aload_n hx hb dX11_lookAt_274 rfl (lv_at hl 3 rfl) ?_
                            refine lv_aload_n hx hb dX11_lookAt_275 rfl (lv_at hl 3 rfl) ?_
                            refine va_get (D := D) (ci := 11) (v := .int 2) (C := RX11) (T := TX11) (N := 18) hx hb hts iw11 hown hK hP 0 rfl rfl 14 (by decide) fw4 (fun _ h9 => h9) rfl dX11_lookAt_276 ?_
                            refine lv_iconst (v := 2) hx hb dX11_lookAt_279 (by decide) ?_
                            refine lv_icmp_ne (tgt := 295) hx hb dX11_lookAt_280 (by decide) (fun h9 => absurd h9 (by decide)) (fun _ => ?_)
                            refine lv_aload_n hx hb dX11_lookAt_283 rfl (lv_at hl 3 rfl) ?_
                            refine va_get (D := D) (ci := 11) (v := .int (nI x607)) (C := RX11) (T := TX11) (N := 18) hx hb hts iw11 hown hK hP 0 rfl rfl 13 (by decide) fw3 (fun _ h9 => h9) rfl dX11_lookAt_284 ?_
                            refine lv_iconst (v := 2) hx hb dX11_lookAt_287 (by decide) ?_
                            refine lv_icmp_le (tgt := 295) hx hb dX11_lookAt_288 (by decide) (fun h722 => ?_) (fun h723 => ?_)
                            · skip
                              have h722 : x607 ≤ 2 := (nI_leI (a := x607) (b := 2) (by omega) (by omega)).mp h722
                              refine lv_aload_n hx hb dX11_lookAt_295 rfl (lv_at hl 3 rfl) ?_
                              refine va_get (D := D) (ci := 11) (v := .int 2) (C := RX11) (T := TX11) (N := 18) hx hb hts iw11 hown hK hP 0 rfl rfl 14 (by decide) fw4 (fun _ h9 => h9) rfl dX11_lookAt_296 ?_
                              refine va_put (D := D) (ci := 11) (v := .int 2) (ty := .int) (C := RX11) (T := TX11) (N := 18) hx hb hts iw11 tyX11 tyX11_ok nmX11 hown hK hP hD hS 0 rfl rfl 14 (by decide) fw4 (fun _ h9 => h9) rfl (by decide +kernel) rfl rfl (Nat.le_of_ble_eq_true rfl) dX11_lookAt_299 (fun H locs hP hD hS => ?_)
                              have hP : va_P D vwCl [(mo, .inr (11, [.ref to, .ref ke, .ref ik, .ref mrf, .long mab, .long mbl, .ref ha, .ref r0, .ref mbr, .ref mbp, .ref mby, .int (nI bl), .int (nI j91), .int (nI x607), .int 2, .int x710, .ref an, .ref va])), (mby, .inl (y 0, 150, .inl fmb))] H := hP
                              have hD : va_D A [(mo, .inr (11, [.ref to, .ref ke, .ref ik, .ref mrf, .long mab, .long mbl, .ref ha, .ref r0, .ref mbr, .ref mbp, .ref mby, .int (nI bl), .int (nI j91), .int (nI x607), .int 2, .int x710, .ref an, .ref va])), (mby, .inl (y 0, 150, .inl fmb))] := hD
                              exact W.vret hx hb hr (fun tZ ht hW => ⟨⟨(j91, x607, 2, x710), rfl, ⟨by first | omega | (dsimp only; omega), by first | omega | (dsimp only; omega), by first | omega | (dsimp only; omega), by first | omega | (dsimp only; omega), by first | omega | (dsimp only; omega), by first | omega | (dsimp only; omega)⟩, by rw [ht]; exact hP.sub [0, 1] rfl, hD.sub [0, 1] (by decide) rfl⟩, hS.F ht⟩) hS.2.2 dX11_lookAt_302
                            · skip
                              have h723 : ¬ x607 ≤ 2 := fun q9 => h723 ((nI_leI (a := x607) (b := 2) (by omega) (by omega)).mpr q9)
                              refine lv_iconst (v := 4) hx hb dX11_lookAt_291 (by decide) ?_
                              refine lv_goto (tgt := 299) hx hb dX11_lookAt_292 (by decide) ?_
                              refine va_put (D := D) (ci := 11) (v := .int 4) (ty := .int) (C := RX11) (T := TX11) (N := 18) hx hb hts iw11 tyX11 tyX11_ok nmX11 hown hK hP hD hS 0 rfl rfl 14 (by decide) fw4 (fun _ h9 => h9) rfl (by decide +kernel) rfl rfl (Nat.le_of_ble_eq_true rfl) dX11_lookAt_299 (fun H locs hP hD hS => ?_)
                              have hP : va_P D vwCl [(mo, .inr (11, [.ref to, .ref ke, .ref ik, .ref mrf, .long mab, .long mbl, .ref ha, .ref r0, .ref mbr, .ref mbp, .ref mby, .int (nI bl), .int (nI j91), .int (nI x607), .int 4, .int x710, .ref an, .ref va])), (mby, .inl (y 0, 150, .inl fmb))] H := hP
                              have hD : va_D A [(mo, .inr (11, [.ref to, .ref ke, .ref ik, .ref mrf, .long mab, .long mbl, .ref ha, .ref r0, .ref mbr, .ref mbp, .ref mby, .int (nI bl), .int (nI j91), .int (nI x607), .int 4, .int x710, .ref an, .ref va])), (mby, .inl (y 0, 150, .inl fmb))] := hD
                              exact W.vret hx hb hr (fun tZ ht hW => ⟨⟨(j91, x607, 4, x710), rfl, ⟨by first | omega | (dsimp only; omega), by first | omega | (dsimp only; omega), by first | omega | (dsimp only; omega), by first | omega | (dsimp only; omega), by first | omega | (dsimp only; omega), by first | omega | (dsimp only; omega)⟩, by rw [ht]; exact hP.sub [0, 1] rfl, hD.sub [0, 1] (by decide) rfl⟩, hS.F ht⟩) hS.2.2 dX11_lookAt_302
                          · skip
                            have h721 : ¬ x607 ≤ j93 := fun q9 => h721 ((nI_leI (a := x607) (b := j93) (by omega) (by omega)).mpr q9)
                            refine lv_iload hx hb dX11_lookAt_227 (lv_at hl 0 rfl) ?_
                            refine lv_iconst (v := 2) hx hb dX11_lookAt_229 (by decide) ?_
                            refine lv_icmp_ge (tgt := 274) hx hb dX11_lookAt_230 (by decide) (fun h724 => ?_) (fun h725 => ?_)
                            · skip
                              have h724 : 2 ≤ j93 := (nI_leI (a := 2) (b := j93) (by omega) (by omega)).mp h724
                              refine lv_aload_n hx hb dX11_lookAt_274 rfl (lv_at hl 3 rfl) ?_
                              refine lv_aload_n hx hb dX11_lookAt_275 rfl (lv_at hl 3 rfl) ?_
                              refine va_get (D := D) (ci := 11) (v := .int 2) (C := RX11) (T := TX11) (N := 18) hx hb hts iw11 hown hK hP 0 rfl rfl 14 (by decide) fw4 (fun _ h9 => h9) rfl dX11_lookAt_276 ?_
                              refine lv_iconst (v := 2) hx hb dX11_lookAt_279 (by decide) ?_
                              refine lv_icmp_ne (tgt := 295) hx hb dX11_lookAt_280 (by decide) (fun h9 => absurd h9 (by decide)) (fun _ => ?_)
                              refine lv_aload_n hx hb dX11_lookAt_283 rfl (lv_at hl 3 rfl) ?_
                              refine va_get (D := D) (ci := 11) (v := .int (nI x607)) (C := RX11) (T := TX11) (N := 18) hx hb hts iw11 hown hK hP 0 rfl rfl 13 (by decide) fw3 (fun _ h9 => h9) rfl dX11_lookAt_284 ?_
                              refine lv_iconst (v := 2) hx hb dX11_lookAt_287 (by decide) ?_
                              refine lv_icmp_le (tgt := 295) hx hb dX11_lookAt_288 (by decide) (fun h726 => ?_) (fun h727 => ?_)
                              · skip
                                have h726 : x607 ≤ 2 := (nI_leI (a := x607) (b := 2) (by omega) (by omega)).mp h726
                                refine lv_aload_n hx hb dX11_lookAt_295 rfl (lv_at hl 3 rfl) ?_
                                refine va_get (D := D) (ci := 11) (v := .int 2) (C := RX11) (T := TX11) (N := 18) hx hb hts iw11 hown hK hP 0 rfl rfl 14 (by decide) fw4 (fun _ h9 => h9) rfl dX11_lookAt_296 ?_
                                refine va_put (D := D) (ci := 11) (v := .int 2) (ty := .int) (C := RX11) (T := TX11) (N := 18) hx hb hts iw11 tyX11 tyX11_ok nmX11 hown hK hP hD hS 0 rfl rfl 14 (by decide) fw4 (fun _ h9 => h9) rfl (by decide +kernel) rfl rfl (Nat.le_of_ble_eq_true rfl) dX11_lookAt_299 (fun H locs hP hD hS => ?_)
                                have hP : va_P D vwCl [(mo, .inr (11, [.ref to, .ref ke, .ref ik, .ref mrf, .long mab, .long mbl, .ref ha, .ref r0, .ref mbr, .ref mbp, .ref mby, .int (nI bl), .int (nI j91), .int (nI x607), .int 2, .int x710, .ref an, .ref va])), (mby, .inl (y 0, 150, .inl fmb))] H := hP
                                have hD : va_D A [(mo, .inr (11, [.ref to, .ref ke, .ref ik, .ref mrf, .long mab, .long mbl, .ref ha, .ref r0, .ref mbr, .ref mbp, .ref mby, .int (nI bl), .int (nI j91), .int (nI x607), .int 2, .int x710, .ref an, .ref va])), (mby, .inl (y 0, 150, .inl fmb))] := hD
                                exact W.vret hx hb hr (fun tZ ht hW => ⟨⟨(j91, x607, 2, x710), rfl, ⟨by first | omega | (dsimp only; omega), by first | omega | (dsimp only; omega), by first | omega | (dsimp only; omega), by first | omega | (dsimp only; omega), by first | omega | (dsimp only; omega), by first | omega | (dsimp only; omega)⟩, by rw [ht]; exact hP.sub [0, 1] rfl, hD.sub [0, 1] (by decide) rfl⟩, hS.F ht⟩) hS.2.2 dX11_lookAt_302
                              · skip
                                have h727 : ¬ x607 ≤ 2 := fun q9 => h727 ((nI_leI (a := x607) (b := 2) (by omega) (by omega)).mpr q9)
                                refine lv_iconst (v := 4) hx hb dX11_lookAt_291 (by decide) ?_
                                refine lv_goto (tgt := 299) hx hb dX11_lookAt_292 (by decide) ?_
                                refine va_put (D := D) (ci := 11) (v := .int 4) (ty := .int) (C := RX11) (T := TX11) (N := 18) hx hb hts iw11 tyX11 tyX11_ok nmX11 hown hK hP hD hS 0 rfl rfl 14 (by decide) fw4 (fun _ h9 => h9) rfl (by decide +kernel) rfl rfl (Nat.le_of_ble_eq_true rfl) dX11_lookAt_299 (fun H locs hP hD hS => ?_)
                                have hP : va_P D vwCl [(mo, .inr (11, [.ref to, .ref ke, .ref ik, .ref mrf, .long mab, .long mbl, .ref ha, .ref r0, .ref mbr, .ref mbp, .ref mby, .int (nI bl), .int (nI j91), .int (nI x607), .int 4, .int x710, .ref an, .ref va])), (mby, .inl (y 0, 150, .inl fmb))] H := hP
                                have hD : va_D A [(mo, .inr (11, [.ref to, .ref ke, .ref ik, .ref mrf, .long mab, .long mbl, .ref ha, .ref r0, .ref mbr, .ref mbp, .ref mby, .int (nI bl), .int (nI j91), .int (nI x607), .int 4, .int x710, .ref an, .ref va])), (mby, .inl (y 0, 150, .inl fmb))] := hD
                                exact W.vret hx hb hr (fun tZ ht hW => ⟨⟨(j91, x607, 4, x710), rfl, ⟨by first | omega | (dsimp only; omega), by first | omega | (dsimp only; omega), by first | omega | (dsimp only; omega), by first | omega | (dsimp only; omega), by first | omega | (dsimp only; omega), by first | omega | (dsimp only; omega)⟩, by rw [ht]; exact hP.sub [0, 1] rfl, hD.sub [0, 1] (by decide) rfl⟩, hS.F ht⟩) hS.2.2 dX11_lookAt_302
                            · skip
                              have h725 : ¬ 2 ≤ j93 := fun q9 => h725 ((nI_leI (a := 2) (b := j93) (by omega) (by omega)).mpr q9)
                              refine lv_aload_n hx hb dX11_lookAt_233 rfl (lv_at hl 3 rfl) ?_
                              refine va_get (D := D) (ci := 11) (v := .int 2) (C := RX11) (T := TX11) (N := 18) hx hb hts iw11 hown hK hP 0 rfl rfl 14 (by decide) fw4 (fun _ h9 => h9) rfl dX11_lookAt_234 ?_
                              refine lv_iconst (v := 2) hx hb dX11_lookAt_237 (by decide) ?_
                              refine lv_icmp_ne (tgt := 274) hx hb dX11_lookAt_238 (by decide) (fun h9 => absurd h9 (by decide)) (fun _ => ?_)
                              refine lv_aload_n hx hb dX11_lookAt_241 rfl (lv_at hl 3 rfl) ?_
                              refine lv_bipush (v := 10) hx hb dX11_lookAt_242 (by decide) ?_
                              refine lv_aload_n hx hb dX11_lookAt_244 rfl (lv_at hl 3 rfl) ?_
                              refine va_get (D := D) (ci := 11) (v := .int x710) (C := RX11) (T := TX11) (N := 18) hx hb hts iw11 hown hK hP 0 rfl rfl 15 (by decide) fw5 (fun _ h9 => h9) rfl dX11_lookAt_245 ?_
                              refine lv_imul hx hb dX11_lookAt_248 ?_
                              refine lv_aload_n hx hb dX11_lookAt_249 rfl (lv_at hl 3 rfl) ?_
                              refine va_get (D := D) (ci := 11) (v := .ref mby) (C := RX11) (T := TX11) (N := 18) hx hb hts iw11 hown hK hP 0 rfl rfl 10 (by decide) fw6 (fun _ h9 => h9) rfl dX11_lookAt_250 ?_
                              refine lv_aload_n hx hb dX11_lookAt_253 rfl (lv_at hl 3 rfl) ?_
                              refine va_get (D := D) (ci := 11) (v := .int (nI j91)) (C := RX11) (T := TX11) (N := 18) hx hb hts iw11 hown hK hP 0 rfl rfl 12 (by decide) fw1 (fun _ h9 => h9) rfl dX11_lookAt_254 ?_
                              refine lv_iload hx hb dX11_lookAt_257 (lv_at hl 0 rfl) ?_
                              refine lv_iadd hx hb dX11_lookAt_259 ?_
                              rw [show (nI j91) + (nI j93) = nI (j91 + j93) from nI_add j91 j93]
                              refine va_iald hx hb hK hP 1 0 rfl rfl (vp_in_nI (by omega) (by decide)) dX11_lookAt_260 ?_
                              rw [nI_clamp (n := (j91 + j93)) (by omega)]
                              refine lv_iadd hx hb dX11_lookAt_261 ?_
                              refine lv_bipush (v := 48) hx hb dX11_lookAt_262 (by decide) ?_
                              refine lv_isub hx hb dX11_lookAt_264 ?_
                              refine va_put (D := D) (ci := 11) (v := .int (((10 * x710) + (fmb (j91 + j93))) - 48)) (ty := .int) (C := RX11) (T := TX11) (N := 18) hx hb hts iw11 tyX11 tyX11_ok nmX11 hown hK hP hD hS 0 rfl rfl 15 (by decide) fw5 (fun _ h9 => h9) rfl (by decide +kernel) rfl rfl (Nat.le_of_ble_eq_true rfl) dX11_lookAt_265 (fun H locs hP hD hS => ?_)
                              have hP : va_P D vwCl [(mo, .inr (11, [.ref to, .ref ke, .ref ik, .ref mrf, .long mab, .long mbl, .ref ha, .ref r0, .ref mbr, .ref mbp, .ref mby, .int (nI bl), .int (nI j91), .int (nI x607), .int 2, .int (((10 * x710) + (fmb (j91 + j93))) - 48), .ref an, .ref va])), (mby, .inl (y 0, 150, .inl fmb))] H := hP
                              have hD : va_D A [(mo, .inr (11, [.ref to, .ref ke, .ref ik, .ref mrf, .long mab, .long mbl, .ref ha, .ref r0, .ref mbr, .ref mbp, .ref mby, .int (nI bl), .int (nI j91), .int (nI x607), .int 2, .int (((10 * x710) + (fmb (j91 + j93))) - 48), .ref an, .ref va])), (mby, .inl (y 0, 150, .inl fmb))] := hD
                              refine lv_iinc (v := (nI (j93 + 1))) (lv' := [(4, .int (nI (j93 + 1))), (3, .int (nI x606)), (2, .int (fmb j91)), (0, .ref mo), (1, .int (nI k))]) hx hb dX11_lookAt_268 hl (k := 0) rfl (nI_1 j93) (by decide) rfl (fun ls hl => ?_)
                              refine lv_goto (tgt := 218) hx hb dX11_lookAt_271 (by decide) ?_
                              exact ihj93 (j93 + 1) (((10 * x710) + (fmb (j91 + j93))) - 48) H locs ls (by omega) (by omega)  (hP.sub [0, 1] rfl) (hD.sub [0, 1] (by decide) rfl) hS (lv_sub hl [0, 1, 2, 3, 4] rfl)
                      exact lp719 (x607 + 1) 0 0 _ _ _ (by omega) (by omega)  hP hD hS (lv_sub hl [0, 1, 2, 3, 4] rfl)
                    · skip
                      have h700 : ¬ bl ≤ (j91 + x607) := fun q9 => h700 ((nI_leI (a := bl) (b := (j91 + x607)) (by omega) (by omega)).mpr q9)
                      refine lv_aload_n hx hb dX11_lookAt_156 rfl (lv_at hl 2 rfl) ?_
                      refine va_get (D := D) (ci := 11) (v := .ref mby) (C := RX11) (T := TX11) (N := 18) hx hb hts iw11 hown hK hP 0 rfl rfl 10 (by decide) fw6 (fun _ h9 => h9) rfl dX11_lookAt_157 ?_
                      refine lv_aload_n hx hb dX11_lookAt_160 rfl (lv_at hl 2 rfl) ?_
                      refine va_get (D := D) (ci := 11) (v := .int (nI j91)) (C := RX11) (T := TX11) (N := 18) hx hb hts iw11 hown hK hP 0 rfl rfl 12 (by decide) fw1 (fun _ h9 => h9) rfl dX11_lookAt_161 ?_
                      refine lv_aload_n hx hb dX11_lookAt_164 rfl (lv_at hl 2 rfl) ?_
                      refine va_get (D := D) (ci := 11) (v := .int (nI x607)) (C := RX11) (T := TX11) (N := 18) hx hb hts iw11 hown hK hP 0 rfl rfl 13 (by decide) fw3 (fun _ h9 => h9) rfl dX11_lookAt_165 ?_
                      refine lv_iadd hx hb dX11_lookAt_168 ?_
                      rw [show (nI j91) + (nI x607) = nI (j91 + x607) from nI_add j91 x607]
                      refine va_iald hx hb hK hP 1 0 rfl rfl (vp_in_nI (by omega) (by decide)) dX11_lookAt_169 ?_
                      rw [nI_clamp (n := (j91 + x607)) (by omega)]
                      refine lv_istore (lv' := [(4, .int (fmb (j91 + x607))), (3, .int (nI x606)), (2, .int (fmb j91)), (0, .ref mo), (1, .int (nI k))]) hx hb dX11_lookAt_170 hl (by decide) rfl (fun ls hl => ?_)
                      refine lv_aload_n hx hb dX11_lookAt_172 rfl (lv_at hl 3 rfl) ?_
                      refine va_get (D := D) (ci := 11) (v := .int 2) (C := RX11) (T := TX11) (N := 18) hx hb hts iw11 hown hK hP 0 rfl rfl 14 (by decide) fw4 (fun _ h9 => h9) rfl dX11_lookAt_173 ?_
                      refine lv_iconst (v := 1) hx hb dX11_lookAt_176 (by decide) ?_
                      refine lv_icmp_ne (tgt := 188) hx hb dX11_lookAt_177 (by decide) (fun _ => ?_) (fun h9 => absurd h9 (by decide))
                      refine lv_iload hx hb dX11_lookAt_188 (lv_at hl 0 rfl) ?_
                      have hs728 : kw_Split [(mo, .inr (11, [.ref to, .ref ke, .ref ik, .ref mrf, .long mab, .long mbl, .ref ha, .ref r0, .ref mbr, .ref mbp, .ref mby, .int (nI bl), .int (nI j91), .int (nI x607), .int 2, .int 0, .ref an, .ref va])), (mby, .inl (y 0, 150, .inl fmb))] [] [(mo, .inr (11, [.ref to, .ref ke, .ref ik, .ref mrf, .long mab, .long mbl, .ref ha, .ref r0, .ref mbr, .ref mbp, .ref mby, .int (nI bl), .int (nI j91), .int (nI x607), .int 2, .int 0, .ref an, .ref va])), (mby, .inl (y 0, 150, .inl fmb))] [] [0, 1] := ⟨rfl, rfl, rfl, rfl, rfl, by decide⟩
                      refine kw_go_i hs728 hP hD hS hA (va_runS (As := [.int (fmb (j91 + x607))]) (rest := []) ⟨hx, hb, hml, hown, hts⟩ (gr_isFigure l D y (fmb (j91 + x607))  _) (va_cwS 1 hts gX11_lookAt_X11_isFigure rfl rfl rfl (by decide +kernel) ⟨Nat.le_of_ble_eq_true rfl, Nat.le_of_ble_eq_true rfl⟩) (kw_PreS hs728 hP hD hK hN) rfl rfl hl.1 rfl (lv_room (Nat.le_of_ble_eq_true rfl)) dX11_lookAt_190 ⟨Nat.le_of_ble_eq_true rfl, Nat.le_of_ble_eq_true rfl⟩) (fun r729 u730 H locs hq hP hD hS => ?_)
                      obtain (rfl | rfl) := hq
                      · skip
                        have hP : va_P D vwCl [(mo, .inr (11, [.ref to, .ref ke, .ref ik, .ref mrf, .long mab, .long mbl, .ref ha, .ref r0, .ref mbr, .ref mbp, .ref mby, .int (nI bl), .int (nI j91), .int (nI x607), .int 2, .int 0, .ref an, .ref va])), (mby, .inl (y 0, 150, .inl fmb))] H := hP
                        have hD : va_D A [(mo, .inr (11, [.ref to, .ref ke, .ref ik, .ref mrf, .long mab, .long mbl, .ref ha, .ref r0, .ref mbr, .ref mbp, .ref mby, .int (nI bl), .int (nI j91), .int (nI x607), .int 2, .int 0, .ref an, .ref va])), (mby, .inl (y 0, 150, .inl fmb))] := hD
                        refine lv_istore_n (lv' := [(3, .int 0), (4, .int (fmb (j91 + x607))), (2, .int (fmb j91)), (0, .ref mo), (1, .int (nI k))]) hx hb dX11_lookAt_193 rfl hl (by decide) rfl (fun ls hl => ?_)
                        refine lv_aload_n hx hb dX11_lookAt_194 rfl (lv_at hl 3 rfl) ?_
                        refine lv_dup hx hb dX11_lookAt_195 rfl ?_
                        refine va_get (D := D) (ci := 11) (v := .int (nI x607)) (C := RX11) (T := TX11) (N := 18) hx hb hts iw11 hown hK hP 0 rfl rfl 13 (by decide) fw3 (fun _ h9 => h9) rfl dX11_lookAt_196 ?_
                        refine lv_iload_n hx hb dX11_lookAt_199 rfl (lv_at hl 0 rfl) ?_
                        refine lv_if_eq (tgt := 207) hx hb dX11_lookAt_200 (by decide) (fun _ => ?_) (fun h9 => absurd h9 (by decide))
                        refine lv_iconst (v := 0) hx hb dX11_lookAt_207 (by decide) ?_
                        refine lv_iadd hx hb dX11_lookAt_208 ?_
                        rw [show (nI x607) + 0 = nI (x607) from nI_add x607 0]
                        refine va_put (D := D) (ci := 11) (v := .int (nI x607)) (ty := .int) (C := RX11) (T := TX11) (N := 18) hx hb hts iw11 tyX11 tyX11_ok nmX11 hown hK hP hD hS 0 rfl rfl 13 (by decide) fw3 (fun _ h9 => h9) rfl (by decide +kernel) rfl rfl (Nat.le_of_ble_eq_true rfl) dX11_lookAt_209 (fun H locs hP hD hS => ?_)
                        have hP : va_P D vwCl [(mo, .inr (11, [.ref to, .ref ke, .ref ik, .ref mrf, .long mab, .long mbl, .ref ha, .ref r0, .ref mbr, .ref mbp, .ref mby, .int (nI bl), .int (nI j91), .int (nI x607), .int 2, .int 0, .ref an, .ref va])), (mby, .inl (y 0, 150, .inl fmb))] H := hP
                        have hD : va_D A [(mo, .inr (11, [.ref to, .ref ke, .ref ik, .ref mrf, .long mab, .long mbl, .ref ha, .ref r0, .ref mbr, .ref mbp, .ref mby, .int (nI bl), .int (nI j91), .int (nI x607), .int 2, .int 0, .ref an, .ref va])), (mby, .inl (y 0, 150, .inl fmb))] := hD
                        refine lv_goto (tgt := 136) hx hb dX11_lookAt_212 (by decide) ?_
                        exact ihfu92 0 x607 H locs ls (by omega) (by omega) (by omega) (by omega) (by omega) (hP.sub [0, 1] rfl) (hD.sub [0, 1] (by decide) rfl) hS (lv_sub hl [0, 2, 3, 4] rfl)
                      · skip
                        have hP : va_P D vwCl [(mo, .inr (11, [.ref to, .ref ke, .ref ik, .ref mrf, .long mab, .long mbl, .ref ha, .ref r0, .ref mbr, .ref mbp, .ref mby, .int (nI bl), .int (nI j91), .int (nI x607), .int 2, .int 0, .ref an, .ref va])), (mby, .inl (y 0, 150, .inl fmb))] H := hP
                        have hD : va_D A [(mo, .inr (11, [.ref to, .ref ke, .ref ik, .ref mrf, .long mab, .long mbl, .ref ha, .ref r0, .ref mbr, .ref mbp, .ref mby, .int (nI bl), .int (nI j91), .int (nI x607), .int 2, .int 0, .ref an, .ref va])), (mby, .inl (y 0, 150, .inl fmb))] := hD
                        refine lv_istore_n (lv' := [(3, .int 1), (4, .int (fmb (j91 + x607))), (2, .int (fmb j91)), (0, .ref mo), (1, .int (nI k))]) hx hb dX11_lookAt_193 rfl hl (by decide) rfl (fun ls hl => ?_)
                        refine lv_aload_n hx hb dX11_lookAt_194 rfl (lv_at hl 3 rfl) ?_
                        refine lv_dup hx hb dX11_lookAt_195 rfl ?_
                        refine va_get (D := D) (ci := 11) (v := .int (nI x607)) (C := RX11) (T := TX11) (N := 18) hx hb hts iw11 hown hK hP 0 rfl rfl 13 (by decide) fw3 (fun _ h9 => h9) rfl dX11_lookAt_196 ?_
                        refine lv_iload_n hx hb dX11_lookAt_199 rfl (lv_at hl 0 rfl) ?_
                        refine lv_if_eq (tgt := 207) hx hb dX11_lookAt_200 (by decide) (fun h9 => absurd h9 (by decide)) (fun _ => ?_)
                        refine lv_iconst (v := 1) hx hb dX11_lookAt_203 (by decide) ?_
                        refine lv_goto (tgt := 208) hx hb dX11_lookAt_204 (by decide) ?_
                        refine lv_iadd hx hb dX11_lookAt_208 ?_
                        rw [show (nI x607) + 1 = nI (x607 + 1) from nI_add x607 1]
                        refine va_put (D := D) (ci := 11) (v := .int (nI (x607 + 1))) (ty := .int) (C := RX11) (T := TX11) (N := 18) hx hb hts iw11 tyX11 tyX11_ok nmX11 hown hK hP hD hS 0 rfl rfl 13 (by decide) fw3 (fun _ h9 => h9) rfl (by decide +kernel) rfl rfl (Nat.le_of_ble_eq_true rfl) dX11_lookAt_209 (fun H locs hP hD hS => ?_)
                        have hP : va_P D vwCl [(mo, .inr (11, [.ref to, .ref ke, .ref ik, .ref mrf, .long mab, .long mbl, .ref ha, .ref r0, .ref mbr, .ref mbp, .ref mby, .int (nI bl), .int (nI j91), .int (nI (x607 + 1)), .int 2, .int 0, .ref an, .ref va])), (mby, .inl (y 0, 150, .inl fmb))] H := hP
                        have hD : va_D A [(mo, .inr (11, [.ref to, .ref ke, .ref ik, .ref mrf, .long mab, .long mbl, .ref ha, .ref r0, .ref mbr, .ref mbp, .ref mby, .int (nI bl), .int (nI j91), .int (nI (x607 + 1)), .int 2, .int 0, .ref an, .ref va])), (mby, .inl (y 0, 150, .inl fmb))] := hD
                        refine lv_goto (tgt := 136) hx hb dX11_lookAt_212 (by decide) ?_
                        exact ihfu92 1 (x607 + 1) H locs ls (by omega) (by omega) (by omega) (by omega) (by omega) (hP.sub [0, 1] rfl) (hD.sub [0, 1] (by decide) rfl) hS (lv_sub hl [0, 2, 3, 4] rfl)
              exact lp669 _ 1 1 _ _ _ (Nat.lt_succ_self _) (by omega) (by omega) (by omega) (by omega) hP hD hS (lv_sub hl [0, 1, 2, 3] rfl)
          · skip
            have hP : va_P D vwCl [(mo, .inr (11, [.ref to, .ref ke, .ref ik, .ref mrf, .long mab, .long mbl, .ref ha, .ref r0, .ref mbr, .ref mbp, .ref mby, .int (nI bl), .int (nI j91), .int 0, .int 0, .int 0, .ref an, .ref va])), (mby, .inl (y 0, 150, .inl fmb))] H := hP
            have hD : va_D A [(mo, .inr (11, [.ref to, .ref ke, .ref ik, .ref mrf, .long mab, .long mbl, .ref ha, .ref r0, .ref mbr, .ref mbp, .ref mby, .int (nI bl), .int (nI j91), .int 0, .int 0, .int 0, .ref an, .ref va])), (mby, .inl (y 0, 150, .inl fmb))] := hD
            refine lv_if_eq (tgt := 92) hx hb dX11_lookAt_85 (by decide) (fun h9 => absurd h9 (by decide)) (fun _ => ?_)
            refine lv_iconst (v := 1) hx hb dX11_lookAt_88 (by decide) ?_
            refine lv_goto (tgt := 114) hx hb dX11_lookAt_89 (by decide) ?_
            refine va_put (D := D) (ci := 11) (v := .int 1) (ty := .int) (C := RX11) (T := TX11) (N := 18) hx hb hts iw11 tyX11 tyX11_ok nmX11 hown hK hP hD hS 0 rfl rfl 14 (by decide) fw4 (fun _ h9 => h9) rfl (by decide +kernel) rfl rfl (Nat.le_of_ble_eq_true rfl) dX11_lookAt_114 (fun H locs hP hD hS => ?_)
            have hP : va_P D vwCl [(mo, .inr (11, [.ref to, .ref ke, .ref ik, .ref mrf, .long mab, .long mbl, .ref ha, .ref r0, .ref mbr, .ref mbp, .ref mby, .int (nI bl), .int (nI j91), .int 0, .int 1, .int 0, .ref an, .ref va])), (mby, .inl (y 0, 150, .inl fmb))] H := hP
            have hD : va_D A [(mo, .inr (11, [.ref to, .ref ke, .ref ik, .ref mrf, .long mab, .long mbl, .ref ha, .ref r0, .ref mbr, .ref mbp, .ref mby, .int (nI bl), .int (nI j91), .int 0, .int 1, .int 0, .ref an, .ref va])), (mby, .inl (y 0, 150, .inl fmb))] := hD
            refine lv_aload_n hx hb dX11_lookAt_117 rfl (lv_at hl 1 rfl) ?_
            refine lv_iconst (v := 1) hx hb dX11_lookAt_118 (by decide) ?_
            refine va_put (D := D) (ci := 11) (v := .int 1) (ty := .int) (C := RX11) (T := TX11) (N := 18) hx hb hts iw11 tyX11 tyX11_ok nmX11 hown hK hP hD hS 0 rfl rfl 13 (by decide) fw3 (fun _ h9 => h9) rfl (by decide +kernel) rfl rfl (Nat.le_of_ble_eq_true rfl) dX11_lookAt_119 (fun H locs hP hD hS => ?_)
            have hP : va_P D vwCl [(mo, .inr (11, [.ref to, .ref ke, .ref ik, .ref mrf, .long mab, .long mbl, .ref ha, .ref r0, .ref mbr, .ref mbp, .ref mby, .int (nI bl), .int (nI j91), .int 1, .int 1, .int 0, .ref an, .ref va])), (mby, .inl (y 0, 150, .inl fmb))] H := hP
            have hD : va_D A [(mo, .inr (11, [.ref to, .ref ke, .ref ik, .ref mrf, .long mab, .long mbl, .ref ha, .ref r0, .ref mbr, .ref mbp, .ref mby, .int (nI bl), .int (nI j91), .int 1, .int 1, .int 0, .ref an, .ref va])), (mby, .inl (y 0, 150, .inl fmb))] := hD
            refine lv_aload_n hx hb dX11_lookAt_122 rfl (lv_at hl 1 rfl) ?_
            refine va_get (D := D) (ci := 11) (v := .int 1) (C := RX11) (T := TX11) (N := 18) hx hb hts iw11 hown hK hP 0 rfl rfl 14 (by decide) fw4 (fun _ h9 => h9) rfl dX11_lookAt_123 ?_
            refine lv_iconst (v := 3) hx hb dX11_lookAt_126 (by decide) ?_
            refine lv_icmp_ge (tgt := 134) hx hb dX11_lookAt_127 (by decide) (fun h9 => absurd h9 (by decide)) (fun _ => ?_)
            refine lv_iconst (v := 1) hx hb dX11_lookAt_130 (by decide) ?_
            refine lv_goto (tgt := 135) hx hb dX11_lookAt_131 (by decide) ?_
            refine lv_istore_n (lv' := [(3, .int 1), (2, .int (fmb j91)), (0, .ref mo), (1, .int (nI k))]) hx hb dX11_lookAt_135 rfl hl (by decide) rfl (fun ls hl => ?_)
            have lp774 : ∀ (fu92 : Nat) (x747 : Nat) (x748 : Nat) (H : Heap) (locs : List Loc) (ls : Array Slot), (bl - j91 - x748) + x747 < fu92 → x747 ≤ 1 → x748 ≤ 150 → j91 + x748 ≤ bl → 1 ≤ x748 → va_P D vwCl [(mo, .inr (11, [.ref to, .ref ke, .ref ik, .ref mrf, .long mab, .long mbl, .ref ha, .ref r0, .ref mbr, .ref mbp, .ref mby, .int (nI bl), .int (nI j91), .int (nI x748), .int 1, .int 0, .ref an, .ref va])), (mby, .inl (y 0, 150, .inl fmb))] H → va_D A [(mo, .inr (11, [.ref to, .ref ke, .ref ik, .ref mrf, .long mab, .long mbl, .ref ha, .ref r0, .ref mbr, .ref mbp, .ref mby, .int (nI bl), .int (nI j91), .int (nI x748), .int 1, .int 0, .ref an, .ref va])), (mby, .inl (y 0, 150, .inl fmb))] → va_S A s.heap H locs → lv_has ls 5 [(3, .int (nI x747)), (2, .int (fmb j91)), (0, .ref mo), (1, .int (nI k))] → W pZ l eZ ({ frames := 3, cells := 0, slots := 0, locals := 105 }) s mZ [.ref mo, .int (nI k)].toArray beZ meZ cZ H locs 0 0 (MQ beZ (va_Qv (fun (u : Nat × Nat × Nat × Int32) => u.1 ≤ bl ∧ u.2.1 ≤ 150 ∧ u.2.2.1 ≤ 4 ∧ k ≤ u.1 ∧ u.1 + u.2.1 ≤ bl ∧ (u.2.2.1 = 0 ∨ 1 ≤ u.2.1)) (kw_B D (fun u => [(mo, .inr (11, [.ref to, .ref ke, .ref ik, .ref mrf, .long mab, .long mbl, .ref ha, .ref r0, .ref mbr, .ref mbp, .ref mby, .int (nI bl), .int (nI u.1), .int (nI u.2.1), .int (nI u.2.2.1), .int u.2.2.2, .ref an, .ref va])), (mby, .inl (y 0, 150, .inl fmb))]) A) A) [.ref mo, .int (nI k)].toArray s 0 0 A) (F0 mZ 136 ls []) := by
              intro fu92
              induction fu92 with
              | zero => intro x747 x748 H locs ls hf9; exact absurd hf9 (Nat.not_lt_zero _)
              | succ fu92 ihfu92 =>
                intro x747 x748 H locs ls hffu92 hn_x747 hn_x748 hJ0_fu92 hJ1_fu92 hP hD hS hl
                refine lv_iload_n hx hb dX11_lookAt_136 rfl (lv_at hl 0 rfl) ?_
                refine lv_if_eq (tgt := 215) hx hb dX11_lookAt_137 (by decide) (fun h775 => ?_) (fun h776 => ?_)
                · skip
                  have h775 : x747 = 0 := (nI_eq (a := x747) (b := 0) (by omega) (by omega)).mp h775
                  refine lv_iconst (v := 0) hx hb dX11_lookAt_215 (by decide) ?_
                  refine lv_istore (lv' := [(4, .int 0), (3, .int (nI x747)), (2, .int (fmb j91)), (0, .ref mo), (1, .int (nI k))]) hx hb dX11_lookAt_216 hl (by decide) rfl (fun ls hl => ?_)
                  have lp781 : ∀ (fuj93 j93 : Nat)  (H : Heap) (locs : List Loc) (ls : Array Slot), j93 ≤ x748 → x748 - j93 < fuj93 → va_P D vwCl [(mo, .inr (11, [.ref to, .ref ke, .ref ik, .ref mrf, .long mab, .long mbl, .ref ha, .ref r0, .ref mbr, .ref mbp, .ref mby, .int (nI bl), .int (nI j91), .int (nI x748), .int 1, .int 0, .ref an, .ref va])), (mby, .inl (y 0, 150, .inl fmb))] H → va_D A [(mo, .inr (11, [.ref to, .ref ke, .ref ik, .ref mrf, .long mab, .long mbl, .ref ha, .ref r0, .ref mbr, .ref mbp, .ref mby, .int (nI bl), .int (nI j91), .int (nI x748), .int 1, .int 0, .ref an, .ref va])), (mby, .inl (y 0, 150, .inl fmb))] → va_S A s.heap H locs → lv_has ls 5 [(4, .int (nI j93)), (3, .int (nI x747)), (2, .int (fmb j91)), (0, .ref mo), (1, .int (nI k))] → W pZ l eZ ({ frames := 3, cells := 0, slots := 0, locals := 105 }) s mZ [.ref mo, .int (nI k)].toArray beZ meZ cZ H locs 0 0 (MQ beZ (va_Qv (fun (u : Nat × Nat × Nat × Int32) => u.1 ≤ bl ∧ u.2.1 ≤ 150 ∧ u.2.2.1 ≤ 4 ∧ k ≤ u.1 ∧ u.1 + u.2.1 ≤ bl ∧ (u.2.2.1 = 0 ∨ 1 ≤ u.2.1)) (kw_B D (fun u => [(mo, .inr (11, [.ref to, .ref ke, .ref ik, .ref mrf, .long mab, .long mbl, .ref ha, .ref r0, .ref mbr, .ref mbp, .ref mby, .int (nI bl), .int (nI u.1), .int (nI u.2.1), .int (nI u.2.2.1), .int u.2.2.2, .ref an, .ref va])), (mby, .inl (y 0, 150, .inl fmb))]) A) A) [.ref mo, .int (nI k)].toArray s 0 0 A) (F0 mZ 218 ls []) := by
                    intro fuj93
                    induction fuj93 with
                    | zero => intro j93  H locs ls hj9 hf9; exact absurd hf9 (Nat.not_lt_zero _)
                    | succ fuj93 ihj93 =>
                      intro j93  H locs ls hj93 hfj93  hP hD hS hl
                      refine lv_iload hx hb dX11_lookAt_218 (lv_at hl 0 rfl) ?_
                      refine lv_aload_n hx hb dX11_lookAt_220 rfl (lv_at hl 3 rfl) ?_
                      refine va_get (D := D) (ci := 11) (v := .int (nI x748)) (C := RX11) (T := TX11) (N := 18) hx hb hts iw11 hown hK hP 0 rfl rfl 13 (by decide) fw3 (fun _ h9 => h9) rfl dX11_lookAt_221 ?_
                      refine lv_icmp_ge (tgt := 274) hx hb dX11_lookAt_224 (by decide) (fun h782 => ?_) (fun h783 => ?_)
                      · skip
                        have h782 : x748 ≤ j93 := (nI_leI (a := x748) (b := j93) (by omega) (by omega)).mp h782
                        refine lv_aload_n hx hb dX11_lookAt_274 rfl (lv_at hl 3 rfl) ?_
                        refine lv_aload_n hx hb dX11_lookAt_275 rfl (lv_at hl 3 rfl) ?_
                        refine va_get (D := D) (ci := 11) (v := .int 1) (C := RX11) (T := TX11) (N := 18) hx hb hts iw11 hown hK hP 0 rfl rfl 14 (by decide) fw4 (fun _ h9 => h9) rfl dX11_lookAt_276 ?_
                        refine lv_iconst (v := 2) hx hb dX11_lookAt_279 (by decide) ?_
                        refine lv_icmp_ne (tgt := 295) hx hb dX11_lookAt_280 (by decide) (fun _ => ?_) (fun h9 => absurd h9 (by decide))
                        refine lv_aload_n hx hb dX11_lookAt_295 rfl (lv_at hl 3 rfl) ?_
                        refine va_get (D := D) (ci := 11) (v := .int 1) (C := RX11) (T := TX11) (N := 18) hx hb hts iw11 hown hK hP 0 rfl rfl 14 (by decide) fw4 (fun _ h9 => h9) rfl dX11_lookAt_296 ?_
                        refine va_put (D := D) (ci := 11) (v := .int 1) (ty := .int) (C := RX11) (T := TX11) (N := 18) hx hb hts iw11 tyX11 tyX11_ok nmX11 hown hK hP hD hS 0 rfl rfl 14 (by decide) fw4 (fun _ h9 => h9) rfl (by decide +kernel) rfl rfl (Nat.le_of_ble_eq_true rfl) dX11_lookAt_299 (fun H locs hP hD hS => ?_)
                        have hP : va_P D vwCl [(mo, .inr (11, [.ref to, .ref ke, .ref ik, .ref mrf, .long mab, .long mbl, .ref ha, .ref r0, .ref mbr, .ref mbp, .ref mby, .int (nI bl), .int (nI j91), .int (nI x748), .int 1, .int 0, .ref an, .ref va])), (mby, .inl (y 0, 150, .inl fmb))] H := hP
                        have hD : va_D A [(mo, .inr (11, [.ref to, .ref ke, .ref ik, .ref mrf, .long mab, .long mbl, .ref ha, .ref r0, .ref mbr, .ref mbp, .ref mby, .int (nI bl), .int (nI j91), .int (nI x748), .int 1, .int 0, .ref an, .ref va])), (mby, .inl (y 0, 150, .inl fmb))] := hD
                        exact W.vret hx hb hr (fun tZ ht hW => ⟨⟨(j91, x748, 1, 0), rfl, ⟨by first | omega | (dsimp only; omega), by first | omega | (dsimp only; omega), by first | omega | (dsimp only; omega), by first | omega | (dsimp only; omega), by first | omega | (dsimp only; omega), by first | omega | (dsimp only; omega)⟩, by rw [ht]; exact hP.sub [0, 1] rfl, hD.sub [0, 1] (by decide) rfl⟩, hS.F ht⟩) hS.2.2 dX11_lookAt_302
                      · skip
                        have h783 : ¬ x748 ≤ j93 := fun q9 => h783 ((nI_leI (a := x748) (b := j93) (by omega) (by omega)).mpr q9)
                        refine lv_iload hx hb dX11_lookAt_227 (lv_at hl 0 rfl) ?_
                        refine lv_iconst (v := 2) hx hb dX11_lookAt_229 (by decide) ?_
                        refine lv_icmp_ge (tgt := 274) hx hb dX11_lookAt_230 (by decide) (fun h784 => ?_) (fun h785 => ?_)
                        · skip
                          have h784 : 2 ≤ j93 := (nI_leI (a := 2) (b := j93) (by omega) (by omega)).mp h784
                          refine lv_aload_n hx hb dX11_lookAt_274 rfl (lv_at hl 3 rfl) ?_
                          refine lv_aload_n hx hb dX11_lookAt_275 rfl (lv_at hl 3 rfl) ?_
                          refine va_get (D := D) (ci := 11) (v := .int 1) (C := RX11) (T := TX11) (N := 18) hx hb hts iw11 hown hK hP 0 rfl rfl 14 (by decide) fw4 (fun _ h9 => h9) rfl dX11_lookAt_276 ?_
                          refine lv_iconst (v := 2) hx hb dX11_lookAt_279 (by decide) ?_
                          refine lv_icmp_ne (tgt := 295) hx hb dX11_lookAt_280 (by decide) (fun _ => ?_) (fun h9 => absurd h9 (by decide))
                          refine lv_aload_n hx hb dX11_lookAt_295 rfl (lv_at hl 3 rfl) ?_
                          refine va_get (D := D) (ci := 11) (v := .int 1) (C := RX11) (T := TX11) (N := 18) hx hb hts iw11 hown hK hP 0 rfl rfl 14 (by decide) fw4 (fun _ h9 => h9) rfl dX11_lookAt_296 ?_
                          refine va_put (D := D) (ci := 11) (v := .int 1) (ty := .int) (C := RX11) (T := TX11) (N := 18) hx hb hts iw11 tyX11 tyX11_ok nmX11 hown hK hP hD hS 0 rfl rfl 14 (by decide) fw4 (fun _ h9 => h9) rfl (by decide +kernel) rfl rfl (Nat.le_of_ble_eq_true rfl) dX11_lookAt_299 (fun H locs hP hD hS => ?_)
                          have hP : va_P D vwCl [(mo, .inr (11, [.ref to, .ref ke, .ref ik, .ref mrf, .long mab, .long mbl, .ref ha, .ref r0, .ref mbr, .ref mbp, .ref mby, .int (nI bl), .int (nI j91), .int (nI x748), .int 1, .int 0, .ref an, .ref va])), (mby, .inl (y 0, 150, .inl fmb))] H := hP
                          have hD : va_D A [(mo, .inr (11, [.ref to, .ref ke, .ref ik, .ref mrf, .long mab, .long mbl, .ref ha, .ref r0, .ref mbr, .ref mbp, .ref mby, .int (nI bl), .int (nI j91), .int (nI x748), .int 1, .int 0, .ref an, .ref va])), (mby, .inl (y 0, 150, .inl fmb))] := hD
                          exact W.vret hx hb hr (fun tZ ht hW => ⟨⟨(j91, x748, 1, 0), rfl, ⟨by first | omega | (dsimp only; omega), by first | omega | (dsimp only; omega), by first | omega | (dsimp only; omega), by first | omega | (dsimp only; omega), by first | omega | (dsimp only; omega), by first | omega | (dsimp only; omega)⟩, by rw [ht]; exact hP.sub [0, 1] rfl, hD.sub [0, 1] (by decide) rfl⟩, hS.F ht⟩) hS.2.2 dX11_lookAt_302
                        · skip
                          have h785 : ¬ 2 ≤ j93 := fun q9 => h785 ((nI_leI (a := 2) (b := j93) (by omega) (by omega)).mpr q9)
                          refine lv_aload_n hx hb dX11_lookAt_233 rfl (lv_at hl 3 rfl) ?_
                          refine va_get (D := D) (ci := 11) (v := .int 1) (C := RX11) (T := TX11) (N := 18) hx hb hts iw11 hown hK hP 0 rfl rfl 14 (by decide) fw4 (fun _ h9 => h9) rfl dX11_lookAt_234 ?_
                          refine lv_iconst (v := 2) hx hb dX11_lookAt_237 (by decide) ?_
                          refine lv_icmp_ne (tgt := 274) hx hb dX11_lookAt_238 (by decide) (fun _ => ?_) (fun h9 => absurd h9 (by decide))
                          refine lv_aload_n hx hb dX11_lookAt_274 rfl (lv_at hl 3 rfl) ?_
                          refine lv_aload_n hx hb dX11_lookAt_275 rfl (lv_at hl 3 rfl) ?_
                          refine va_get (D := D) (ci := 11) (v := .int 1) (C := RX11) (T := TX11) (N := 18) hx hb hts iw11 hown hK hP 0 rfl rfl 14 (by decide) fw4 (fun _ h9 => h9) rfl dX11_lookAt_276 ?_
                          refine lv_iconst (v := 2) hx hb dX11_lookAt_279 (by decide) ?_
                          refine lv_icmp_ne (tgt := 295) hx hb dX11_lookAt_280 (by decide) (fun _ => ?_) (fun h9 => absurd h9 (by decide))
                          refine lv_aload_n hx hb dX11_lookAt_295 rfl (lv_at hl 3 rfl) ?_
                          refine va_get (D := D) (ci := 11) (v := .int 1) (C := RX11) (T := TX11) (N := 18) hx hb hts iw11 hown hK hP 0 rfl rfl 14 (by decide) fw4 (fun _ h9 => h9) rfl dX11_lookAt_296 ?_
                          refine va_put (D := D) (ci := 11) (v := .int 1) (ty := .int) (C := RX11) (T := TX11) (N := 18) hx hb hts iw11 tyX11 tyX11_ok nmX11 hown hK hP hD hS 0 rfl rfl 14 (by decide) fw4 (fun _ h9 => h9) rfl (by decide +kernel) rfl rfl (Nat.le_of_ble_eq_true rfl) dX11_lookAt_299 (fun H locs hP hD hS => ?_)
                          have hP : va_P D vwCl [(mo, .inr (11, [.ref to, .ref ke, .ref ik, .ref mrf, .long mab, .long mbl, .ref ha, .ref r0, .ref mbr, .ref mbp, .ref mby, .int (nI bl), .int (nI j91), .int (nI x748), .int 1, .int 0, .ref an, .ref va])), (mby, .inl (y 0, 150, .inl fmb))] H := hP
                          have hD : va_D A [(mo, .inr (11, [.ref to, .ref ke, .ref ik, .ref mrf, .long mab, .long mbl, .ref ha, .ref r0, .ref mbr, .ref mbp, .ref mby, .int (nI bl), .int (nI j91), .int (nI x748), .int 1, .int 0, .ref an, .ref va])), (mby, .inl (y 0, 150, .inl fmb))] := hD
                          exact W.vret hx hb hr (fun tZ ht hW => ⟨⟨(j91, x748, 1, 0), rfl, ⟨by first | omega | (dsimp only; omega), by first | omega | (dsimp only; omega), by first | omega | (dsimp only; omega), by first | omega | (dsimp only; omega), by first | omega | (dsimp only; omega), by first | omega | (dsimp only; omega)⟩, by rw [ht]; exact hP.sub [0, 1] rfl, hD.sub [0, 1] (by decide) rfl⟩, hS.F ht⟩) hS.2.2 dX11_lookAt_302
                  exact lp781 (x748 + 1) 0  _ _ _ (by omega) (by omega)  hP hD hS (lv_sub hl [0, 1, 2, 3, 4] rfl)
                · skip
                  have h776 : ¬ x747 = 0 := fun q9 => h776 ((nI_eq (a := x747) (b := 0) (by omega) (by omega)).mpr q9)
                  refine lv_aload_n hx hb dX11_lookAt_140 rfl (lv_at hl 2 rfl) ?_
                  refine va_get (D := D) (ci := 11) (v := .int (nI j91)) (C := RX11) (T := TX11) (N := 18) hx hb hts iw11 hown hK hP 0 rfl rfl 12 (by decide) fw1 (fun _ h9 => h9) rfl dX11_lookAt_141 ?_
                  refine lv_aload_n hx hb dX11_lookAt_144 rfl (lv_at hl 2 rfl) ?_
                  refine va_get (D := D) (ci := 11) (v := .int (nI x748)) (C := RX11) (T := TX11) (N := 18) hx hb hts iw11 hown hK hP 0 rfl rfl 13 (by decide) fw3 (fun _ h9 => h9) rfl dX11_lookAt_145 ?_
                  refine lv_iadd hx hb dX11_lookAt_148 ?_
                  rw [show (nI j91) + (nI x748) = nI (j91 + x748) from nI_add j91 x748]
                  refine lv_aload_n hx hb dX11_lookAt_149 rfl (lv_at hl 2 rfl) ?_
                  refine va_get (D := D) (ci := 11) (v := .int (nI bl)) (C := RX11) (T := TX11) (N := 18) hx hb hts iw11 hown hK hP 0 rfl rfl 11 (by decide) fw2 (fun _ h9 => h9) rfl dX11_lookAt_150 ?_
                  refine lv_icmp_ge (tgt := 215) hx hb dX11_lookAt_153 (by decide) (fun h786 => ?_) (fun h787 => ?_)
                  · skip
                    have h786 : bl ≤ (j91 + x748) := (nI_leI (a := bl) (b := (j91 + x748)) (by omega) (by omega)).mp h786
                    refine lv_iconst (v := 0) hx hb dX11_lookAt_215 (by decide) ?_
                    refine lv_istore (lv' := [(4, .int 0), (3, .int (nI x747)), (2, .int (fmb j91)), (0, .ref mo), (1, .int (nI k))]) hx hb dX11_lookAt_216 hl (by decide) rfl (fun ls hl => ?_)
                    have lp792 : ∀ (fuj93 j93 : Nat)  (H : Heap) (locs : List Loc) (ls : Array Slot), j93 ≤ x748 → x748 - j93 < fuj93 → va_P D vwCl [(mo, .inr (11, [.ref to, .ref ke, .ref ik, .ref mrf, .long mab, .long mbl, .ref ha, .ref r0, .ref mbr, .ref mbp, .ref mby, .int (nI bl), .int (nI j91), .int (nI x748), .int 1, .int 0, .ref an, .ref va])), (mby, .inl (y 0, 150, .inl fmb))] H → va_D A [(mo, .inr (11, [.ref to, .ref ke, .ref ik, .ref mrf, .long mab, .long mbl, .ref ha, .ref r0, .ref mbr, .ref mbp, .ref mby, .int (nI bl), .int (nI j91), .int (nI x748), .int 1, .int 0, .ref an, .ref va])), (mby, .inl (y 0, 150, .inl fmb))] → va_S A s.heap H locs → lv_has ls 5 [(4, .int (nI j93)), (3, .int (nI x747)), (2, .int (fmb j91)), (0, .ref mo), (1, .int (nI k))] → W pZ l eZ ({ frames := 3, cells := 0, slots := 0, locals := 105 }) s mZ [.ref mo, .int (nI k)].toArray beZ meZ cZ H locs 0 0 (MQ beZ (va_Qv (fun (u : Nat × Nat × Nat × Int32) => u.1 ≤ bl ∧ u.2.1 ≤ 150 ∧ u.2.2.1 ≤ 4 ∧ k ≤ u.1 ∧ u.1 + u.2.1 ≤ bl ∧ (u.2.2.1 = 0 ∨ 1 ≤ u.2.1)) (kw_B D (fun u => [(mo, .inr (11, [.ref to, .ref ke, .ref ik, .ref mrf, .long mab, .long mbl, .ref ha, .ref r0, .ref mbr, .ref mbp, .ref mby, .int (nI bl), .int (nI u.1), .int (nI u.2.1), .int (nI u.2.2.1), .int u.2.2.2, .ref an, .ref va])), (mby, .inl (y 0, 150, .inl fmb))]) A) A) [.ref mo, .int (nI k)].toArray s 0 0 A) (F0 mZ 218 ls []) := by
                      intro fuj93
                      induction fuj93 with
                      | zero => intro j93  H locs ls hj9 hf9; exact absurd hf9 (Nat.not_lt_zero _)
                      | succ fuj93 ihj93 =>
                        intro j93  H locs ls hj93 hfj93  hP hD hS hl
                        refine lv_iload hx hb dX11_lookAt_218 (lv_at hl 0 rfl) ?_
                        refine lv_aload_n hx hb dX11_lookAt_220 rfl (lv_at hl 3 rfl) ?_
                        refine va_get (D := D) (ci := 11) (v := .int (nI x748)) (C := RX11) (T := TX11) (N := 18) hx hb hts iw11 hown hK hP 0 rfl rfl 13 (by decide) fw3 (fun _ h9 => h9) rfl dX11_lookAt_221 ?_
                        refine lv_icmp_ge (tgt := 274) hx hb dX11_lookAt_224 (by decide) (fun h793 => ?_) (fun h794 => ?_)
                        · skip
                          have h793 : x748 ≤ j93 := (nI_leI (a := x748) (b := j93) (by omega) (by omega)).mp h793
                          refine lv_aload_n hx hb dX11_lookAt_274 rfl (lv_at hl 3 rfl) ?_
                          refine lv_aload_n hx hb dX11_lookAt_275 rfl (lv_at hl 3 rfl) ?_
                          refine va_get (D := D) (ci := 11) (v := .int 1) (C := RX11) (T := TX11) (N := 18) hx hb hts iw11 hown hK hP 0 rfl rfl 14 (by decide) fw4 (fun _ h9 => h9) rfl dX11_lookAt_276 ?_
                          refine lv_iconst (v := 2) hx hb dX11_lookAt_279 (by decide) ?_
                          refine lv_icmp_ne (tgt := 295) hx hb dX11_lookAt_280 (by decide) (fun _ => ?_) (fun h9 => absurd h9 (by decide))
                          refine lv_aload_n hx hb dX11_lookAt_295 rfl (lv_at hl 3 rfl) ?_
                          refine va_get (D := D) (ci := 11) (v := .int 1) (C := RX11) (T := TX11) (N := 18) hx hb hts iw11 hown hK hP 0 rfl rfl 14 (by decide) fw4 (fun _ h9 => h9) rfl dX11_lookAt_296 ?_
                          refine va_put (D := D) (ci := 11) (v := .int 1) (ty := .int) (C := RX11) (T := TX11) (N := 18) hx hb hts iw11 tyX11 tyX11_ok nmX11 hown hK hP hD hS 0 rfl rfl 14 (by decide) fw4 (fun _ h9 => h9) rfl (by decide +kernel) rfl rfl (Nat.le_of_ble_eq_true rfl) dX11_lookAt_299 (fun H locs hP hD hS => ?_)
                          have hP : va_P D vwCl [(mo, .inr (11, [.ref to, .ref ke, .ref ik, .ref mrf, .long mab, .long mbl, .ref ha, .ref r0, .ref mbr, .ref mbp, .ref mby, .int (nI bl), .int (nI j91), .int (nI x748), .int 1, .int 0, .ref an, .ref va])), (mby, .inl (y 0, 150, .inl fmb))] H := hP
                          have hD : va_D A [(mo, .inr (11, [.ref to, .ref ke, .ref ik, .ref mrf, .long mab, .long mbl, .ref ha, .ref r0, .ref mbr, .ref mbp, .ref mby, .int (nI bl), .int (nI j91), .int (nI x748), .int 1, .int 0, .ref an, .ref va])), (mby, .inl (y 0, 150, .inl fmb))] := hD
                          exact W.vret hx hb hr (fun tZ ht hW => ⟨⟨(j91, x748, 1, 0), rfl, ⟨by first | omega | (dsimp only; omega), by first | omega | (dsimp only; omega), by first | omega | (dsimp only; omega), by first | omega | (dsimp only; omega), by first | omega | (dsimp only; omega), by first | omega | (dsimp only; omega)⟩, by rw [ht]; exact hP.sub [0, 1] rfl, hD.sub [0, 1] (by decide) rfl⟩, hS.F ht⟩) hS.2.2 dX11_lookAt_302
                        · skip
                          have h794 : ¬ x748 ≤ j93 := fun q9 => h794 ((nI_leI (a := x748) (b := j93) (by omega) (by omega)).mpr q9)
                          refine lv_iload hx hb dX11_lookAt_227 (lv_at hl 0 rfl) ?_
                          refine lv_iconst (v := 2) hx hb dX11_lookAt_229 (by decide) ?_
                          refine lv_icmp_ge (tgt := 274) hx hb dX11_lookAt_230 (by decide) (fun h795 => ?_) (fun h796 => ?_)
                          · skip
                            have h795 : 2 ≤ j93 := (nI_leI (a := 2) (b := j93) (by omega) (by omega)).mp h795
                            refine lv_aload_n hx hb dX11_lookAt_274 rfl (lv_at hl 3 rfl) ?_
                            refine lv_aload_n hx hb dX11_lookAt_275 rfl (lv_at hl 3 rfl) ?_
                            refine va_get (D := D) (ci := 11) (v := .int 1) (C := RX11) (T := TX11) (N := 18) hx hb hts iw11 hown hK hP 0 rfl rfl 14 (by decide) fw4 (fun _ h9 => h9) rfl dX11_lookAt_276 ?_
                            refine lv_iconst (v := 2) hx hb dX11_lookAt_279 (by decide) ?_
                            refine lv_icmp_ne (tgt := 295) hx hb dX11_lookAt_280 (by decide) (fun _ => ?_) (fun h9 => absurd h9 (by decide))
                            refine lv_aload_n hx hb dX11_lookAt_295 rfl (lv_at hl 3 rfl) ?_
                            refine va_get (D := D) (ci := 11) (v := .int 1) (C := RX11) (T := TX11) (N := 18) hx hb hts iw11 hown hK hP 0 rfl rfl 14 (by decide) fw4 (fun _ h9 => h9) rfl dX11_lookAt_296 ?_
                            refine va_put (D := D) (ci := 11) (v := .int 1) (ty := .int) (C := RX11) (T := TX11) (N := 18) hx hb hts iw11 tyX11 tyX11_ok nmX11 hown hK hP hD hS 0 rfl rfl 14 (by decide) fw4 (fun _ h9 => h9) rfl (by decide +kernel) rfl rfl (Nat.le_of_ble_eq_true rfl) dX11_lookAt_299 (fun H locs hP hD hS => ?_)
                            have hP : va_P D vwCl [(mo, .inr (11, [.ref to, .ref ke, .ref ik, .ref mrf, .long mab, .long mbl, .ref ha, .ref r0, .ref mbr, .ref mbp, .ref mby, .int (nI bl), .int (nI j91), .int (nI x748), .int 1, .int 0, .ref an, .ref va])), (mby, .inl (y 0, 150, .inl fmb))] H := hP
                            have hD : va_D A [(mo, .inr (11, [.ref to, .ref ke, .ref ik, .ref mrf, .long mab, .long mbl, .ref ha, .ref r0, .ref mbr, .ref mbp, .ref mby, .int (nI bl), .int (nI j91), .int (nI x748), .int 1, .int 0, .ref an, .ref va])), (mby, .inl (y 0, 150, .inl fmb))] := hD
                            exact W.vret hx hb hr (fun tZ ht hW => ⟨⟨(j91, x748, 1, 0), rfl, ⟨by first | omega | (dsimp only; omega), by first | omega | (dsimp only; omega), by first | omega | (dsimp only; omega), by first | omega | (dsimp only; omega), by first | omega | (dsimp only; omega), by first | omega | (dsimp only; omega)⟩, by rw [ht]; exact hP.sub [0, 1] rfl, hD.sub [0, 1] (by decide) rfl⟩, hS.F ht⟩) hS.2.2 dX11_lookAt_302
                          · skip
                            have h796 : ¬ 2 ≤ j93 := fun q9 => h796 ((nI_leI (a := 2) (b := j93) (by omega) (by omega)).mpr q9)
                            refine lv_aload_n hx hb dX11_lookAt_233 rfl (lv_at hl 3 rfl) ?_
                            refine va_get (D := D) (ci := 11) (v := .int 1) (C := RX11) (T := TX11) (N := 18) hx hb hts iw11 hown hK hP 0 rfl rfl 14 (by decide) fw4 (fun _ h9 => h9) rfl dX11_lookAt_234 ?_
                            refine lv_iconst (v := 2) hx hb dX11_lookAt_237 (by decide) ?_
                            refine lv_icmp_ne (tgt := 274) hx hb dX11_lookAt_238 (by decide) (fun _ => ?_) (fun h9 => absurd h9 (by decide))
                            refine lv_aload_n hx hb dX11_lookAt_274 rfl (lv_at hl 3 rfl) ?_
                            refine lv_aload_n hx hb dX11_lookAt_275 rfl (lv_at hl 3 rfl) ?_
                            refine va_get (D := D) (ci := 11) (v := .int 1) (C := RX11) (T := TX11) (N := 18) hx hb hts iw11 hown hK hP 0 rfl rfl 14 (by decide) fw4 (fun _ h9 => h9) rfl dX11_lookAt_276 ?_
                            refine lv_iconst (v := 2) hx hb dX11_lookAt_279 (by decide) ?_
                            refine lv_icmp_ne (tgt := 295) hx hb dX11_lookAt_280 (by decide) (fun _ => ?_) (fun h9 => absurd h9 (by decide))
                            refine lv_aload_n hx hb dX11_lookAt_295 rfl (lv_at hl 3 rfl) ?_
                            refine va_get (D := D) (ci := 11) (v := .int 1) (C := RX11) (T := TX11) (N := 18) hx hb hts iw11 hown hK hP 0 rfl rfl 14 (by decide) fw4 (fun _ h9 => h9) rfl dX11_lookAt_296 ?_
                            refine va_put (D := D) (ci := 11) (v := .int 1) (ty := .int) (C := RX11) (T := TX11) (N := 18) hx hb hts iw11 tyX11 tyX11_ok nmX11 hown hK hP hD hS 0 rfl rfl 14 (by decide) fw4 (fun _ h9 => h9) rfl (by decide +kernel) rfl rfl (Nat.le_of_ble_eq_true rfl) dX11_lookAt_299 (fun H locs hP hD hS => ?_)
                            have hP : va_P D vwCl [(mo, .inr (11, [.ref to, .ref ke, .ref ik, .ref mrf, .long mab, .long mbl, .ref ha, .ref r0, .ref mbr, .ref mbp, .ref mby, .int (nI bl), .int (nI j91), .int (nI x748), .int 1, .int 0, .ref an, .ref va])), (mby, .inl (y 0, 150, .inl fmb))] H := hP
                            have hD : va_D A [(mo, .inr (11, [.ref to, .ref ke, .ref ik, .ref mrf, .long mab, .long mbl, .ref ha, .ref r0, .ref mbr, .ref mbp, .ref mby, .int (nI bl), .int (nI j91), .int (nI x748), .int 1, .int 0, .ref an, .ref va])), (mby, .inl (y 0, 150, .inl fmb))] := hD
                            exact W.vret hx hb hr (fun tZ ht hW => ⟨⟨(j91, x748, 1, 0), rfl, ⟨by first | omega | (dsimp only; omega), by first | omega | (dsimp only; omega), by first | omega | (dsimp only; omega), by first | omega | (dsimp only; omega), by first | omega | (dsimp only; omega), by first | omega | (dsimp only; omega)⟩, by rw [ht]; exact hP.sub [0, 1] rfl, hD.sub [0, 1] (by decide) rfl⟩, hS.F ht⟩) hS.2.2 dX11_lookAt_302
                    exact lp792 (x748 + 1) 0  _ _ _ (by omega) (by omega)  hP hD hS (lv_sub hl [0, 1, 2, 3, 4] rfl)
                  · skip
                    have h787 : ¬ bl ≤ (j91 + x748) := fun q9 => h787 ((nI_leI (a := bl) (b := (j91 + x748)) (by omega) (by omega)).mpr q9)
                    refine lv_aload_n hx hb dX11_lookAt_156 rfl (lv_at hl 2 rfl) ?_
                    refine va_get (D := D) (ci := 11) (v := .ref mby) (C := RX11) (T := TX11) (N := 18) hx hb hts iw11 hown hK hP 0 rfl rfl 10 (by decide) fw6 (fun _ h9 => h9) rfl dX11_lookAt_157 ?_
                    refine lv_aload_n hx hb dX11_lookAt_160 rfl (lv_at hl 2 rfl) ?_
                    refine va_get (D := D) (ci := 11) (v := .int (nI j91)) (C := RX11) (T := TX11) (N := 18) hx hb hts iw11 hown hK hP 0 rfl rfl 12 (by decide) fw1 (fun _ h9 => h9) rfl dX11_lookAt_161 ?_
                    refine lv_aload_n hx hb dX11_lookAt_164 rfl (lv_at hl 2 rfl) ?_
                    refine va_get (D := D) (ci := 11) (v := .int (nI x748)) (C := RX11) (T := TX11) (N := 18) hx hb hts iw11 hown hK hP 0 rfl rfl 13 (by decide) fw3 (fun _ h9 => h9) rfl dX11_lookAt_165 ?_
                    refine lv_iadd hx hb dX11_lookAt_168 ?_
                    rw [show (nI j91) + (nI x748) = nI (j91 + x748) from nI_add j91 x748]
                    refine va_iald hx hb hK hP 1 0 rfl rfl (vp_in_nI (by omega) (by decide)) dX11_lookAt_169 ?_
                    rw [nI_clamp (n := (j91 + x748)) (by omega)]
                    refine lv_istore (lv' := [(4, .int (fmb (j91 + x748))), (3, .int (nI x747)), (2, .int (fmb j91)), (0, .ref mo), (1, .int (nI k))]) hx hb dX11_lookAt_170 hl (by decide) rfl (fun ls hl => ?_)
                    refine lv_aload_n hx hb dX11_lookAt_172 rfl (lv_at hl 3 rfl) ?_
                    refine va_get (D := D) (ci := 11) (v := .int 1) (C := RX11) (T := TX11) (N := 18) hx hb hts iw11 hown hK hP 0 rfl rfl 14 (by decide) fw4 (fun _ h9 => h9) rfl dX11_lookAt_173 ?_
                    refine lv_iconst (v := 1) hx hb dX11_lookAt_176 (by decide) ?_
                    refine lv_icmp_ne (tgt := 188) hx hb dX11_lookAt_177 (by decide) (fun h9 => absurd h9 (by decide)) (fun _ => ?_)
                    refine lv_iload hx hb dX11_lookAt_180 (lv_at hl 0 rfl) ?_
                    have hs797 : kw_Split [(mo, .inr (11, [.ref to, .ref ke, .ref ik, .ref mrf, .long mab, .long mbl, .ref ha, .ref r0, .ref mbr, .ref mbp, .ref mby, .int (nI bl), .int (nI j91), .int (nI x748), .int 1, .int 0, .ref an, .ref va])), (mby, .inl (y 0, 150, .inl fmb))] [] [(mo, .inr (11, [.ref to, .ref ke, .ref ik, .ref mrf, .long mab, .long mbl, .ref ha, .ref r0, .ref mbr, .ref mbp, .ref mby, .int (nI bl), .int (nI j91), .int (nI x748), .int 1, .int 0, .ref an, .ref va])), (mby, .inl (y 0, 150, .inl fmb))] [] [0, 1] := ⟨rfl, rfl, rfl, rfl, rfl, by decide⟩
                    refine kw_go_i hs797 hP hD hS hA (va_runS (As := [.int (fmb (j91 + x748))]) (rest := []) ⟨hx, hb, hml, hown, hts⟩ (gr_isSmall l D y (fmb (j91 + x748))  _) (va_cwS 1 hts gX11_lookAt_X11_isSmall rfl rfl rfl (by decide +kernel) ⟨Nat.le_of_ble_eq_true rfl, Nat.le_of_ble_eq_true rfl⟩) (kw_PreS hs797 hP hD hK hN) rfl rfl hl.1 rfl (lv_room (Nat.le_of_ble_eq_true rfl)) dX11_lookAt_182 ⟨Nat.le_of_ble_eq_true rfl, Nat.le_of_ble_eq_true rfl⟩) (fun r798 u799 H locs hq hP hD hS => ?_)
                    obtain (rfl | rfl) := hq
                    · skip
                      have hP : va_P D vwCl [(mo, .inr (11, [.ref to, .ref ke, .ref ik, .ref mrf, .long mab, .long mbl, .ref ha, .ref r0, .ref mbr, .ref mbp, .ref mby, .int (nI bl), .int (nI j91), .int (nI x748), .int 1, .int 0, .ref an, .ref va])), (mby, .inl (y 0, 150, .inl fmb))] H := hP
                      have hD : va_D A [(mo, .inr (11, [.ref to, .ref ke, .ref ik, .ref mrf, .long mab, .long mbl, .ref ha, .ref r0, .ref mbr, .ref mbp, .ref mby, .int (nI bl), .int (nI j91), .int (nI x748), .int 1, .int 0, .ref an, .ref va])), (mby, .inl (y 0, 150, .inl fmb))] := hD
                      refine lv_goto (tgt := 193) hx hb dX11_lookAt_185 (by decide) ?_
                      refine lv_istore_n (lv' := [(3, .int 0), (4, .int (fmb (j91 + x748))), (2, .int (fmb j91)), (0, .ref mo), (1, .int (nI k))]) hx hb dX11_lookAt_193 rfl hl (by decide) rfl (fun ls hl => ?_)
                      refine lv_aload_n hx hb dX11_lookAt_194 rfl (lv_at hl 3 rfl) ?_
                      refine lv_dup hx hb dX11_lookAt_195 rfl ?_
                      refine va_get (D := D) (ci := 11) (v := .int (nI x748)) (C := RX11) (T := TX11) (N := 18) hx hb hts iw11 hown hK hP 0 rfl rfl 13 (by decide) fw3 (fun _ h9 => h9) rfl dX11_lookAt_196 ?_
                      refine lv_iload_n hx hb dX11_lookAt_199 rfl (lv_at hl 0 rfl) ?_
                      refine lv_if_eq (tgt := 207) hx hb dX11_lookAt_200 (by decide) (fun _ => ?_) (fun h9 => absurd h9 (by decide))
                      refine lv_iconst (v := 0) hx hb dX11_lookAt_207 (by decide) ?_
                      refine lv_iadd hx hb dX11_lookAt_208 ?_
                      rw [show (nI x748) + 0 = nI (x748) from nI_add x748 0]
                      refine va_put (D := D) (ci := 11) (v := .int (nI x748)) (ty := .int) (C := RX11) (T := TX11) (N := 18) hx hb hts iw11 tyX11 tyX11_ok nmX11 hown hK hP hD hS 0 rfl rfl 13 (by decide) fw3 (fun _ h9 => h9) rfl (by decide +kernel) rfl rfl (Nat.le_of_ble_eq_true rfl) dX11_lookAt_209 (fun H locs hP hD hS => ?_)
                      have hP : va_P D vwCl [(mo, .inr (11, [.ref to, .ref ke, .ref ik, .ref mrf, .long mab, .long mbl, .ref ha, .ref r0, .ref mbr, .ref mbp, .ref mby, .int (nI bl), .int (nI j91), .int (nI x748), .int 1, .int 0, .ref an, .ref va])), (mby, .inl (y 0, 150, .inl fmb))] H := hP
                      have hD : va_D A [(mo, .inr (11, [.ref to, .ref ke, .ref ik, .ref mrf, .long mab, .long mbl, .ref ha, .ref r0, .ref mbr, .ref mbp, .ref mby, .int (nI bl), .int (nI j91), .int (nI x748), .int 1, .int 0, .ref an, .ref va])), (mby, .inl (y 0, 150, .inl fmb))] := hD
                      refine lv_goto (tgt := 136) hx hb dX11_lookAt_212 (by decide) ?_
                      exact ihfu92 0 x748 H locs ls (by omega) (by omega) (by omega) (by omega) (by omega) (hP.sub [0, 1] rfl) (hD.sub [0, 1] (by decide) rfl) hS (lv_sub hl [0, 2, 3, 4] rfl)
                    · skip
                      have hP : va_P D vwCl [(mo, .inr (11, [.ref to, .ref ke, .ref ik, .ref mrf, .long mab, .long mbl, .ref ha, .ref r0, .ref mbr, .ref mbp, .ref mby, .int (nI bl), .int (nI j91), .int (nI x748), .int 1, .int 0, .ref an, .ref va])), (mby, .inl (y 0, 150, .inl fmb))] H := hP
                      have hD : va_D A [(mo, .inr (11, [.ref to, .ref ke, .ref ik, .ref mrf, .long mab, .long mbl, .ref ha, .ref r0, .ref mbr, .ref mbp, .ref mby, .int (nI bl), .int (nI j91), .int (nI x748), .int 1, .int 0, .ref an, .ref va])), (mby, .inl (y 0, 150, .inl fmb))] := hD
                      refine lv_goto (tgt := 193) hx hb dX11_lookAt_185 (by decide) ?_
                      refine lv_istore_n (lv' := [(3, .int 1), (4, .int (fmb (j91 + x748))), (2, .int (fmb j91)), (0, .ref mo), (1, .int (nI k))]) hx hb dX11_lookAt_193 rfl hl (by decide) rfl (fun ls hl => ?_)
                      refine lv_aload_n hx hb dX11_lookAt_194 rfl (lv_at hl 3 rfl) ?_
                      refine lv_dup hx hb dX11_lookAt_195 rfl ?_
                      refine va_get (D := D) (ci := 11) (v := .int (nI x748)) (C := RX11) (T := TX11) (N := 18) hx hb hts iw11 hown hK hP 0 rfl rfl 13 (by decide) fw3 (fun _ h9 => h9) rfl dX11_lookAt_196 ?_
                      refine lv_iload_n hx hb dX11_lookAt_199 rfl (lv_at hl 0 rfl) ?_
                      refine lv_if_eq (tgt := 207) hx hb dX11_lookAt_200 (by decide) (fun h9 => absurd h9 (by decide)) (fun _ => ?_)
                      refine lv_iconst (v := 1) hx hb dX11_lookAt_203 (by decide) ?_
                      refine lv_goto (tgt := 208) hx hb dX11_lookAt_204 (by decide) ?_
                      refine lv_iadd hx hb dX11_lookAt_208 ?_
                      rw [show (nI x748) + 1 = nI (x748 + 1) from nI_add x748 1]
                      refine va_put (D := D) (ci := 11) (v := .int (nI (x748 + 1))) (ty := .int) (C := RX11) (T := TX11) (N := 18) hx hb hts iw11 tyX11 tyX11_ok nmX11 hown hK hP hD hS 0 rfl rfl 13 (by decide) fw3 (fun _ h9 => h9) rfl (by decide +kernel) rfl rfl (Nat.le_of_ble_eq_true rfl) dX11_lookAt_209 (fun H locs hP hD hS => ?_)
                      have hP : va_P D vwCl [(mo, .inr (11, [.ref to, .ref ke, .ref ik, .ref mrf, .long mab, .long mbl, .ref ha, .ref r0, .ref mbr, .ref mbp, .ref mby, .int (nI bl), .int (nI j91), .int (nI (x748 + 1)), .int 1, .int 0, .ref an, .ref va])), (mby, .inl (y 0, 150, .inl fmb))] H := hP
                      have hD : va_D A [(mo, .inr (11, [.ref to, .ref ke, .ref ik, .ref mrf, .long mab, .long mbl, .ref ha, .ref r0, .ref mbr, .ref mbp, .ref mby, .int (nI bl), .int (nI j91), .int (nI (x748 + 1)), .int 1, .int 0, .ref an, .ref va])), (mby, .inl (y 0, 150, .inl fmb))] := hD
                      refine lv_goto (tgt := 136) hx hb dX11_lookAt_212 (by decide) ?_
                      exact ihfu92 1 (x748 + 1) H locs ls (by omega) (by omega) (by omega) (by omega) (by omega) (hP.sub [0, 1] rfl) (hD.sub [0, 1] (by decide) rfl) hS (lv_sub hl [0, 2, 3, 4] rfl)
            exact lp774 _ 1 1 _ _ _ (Nat.lt_succ_self _) (by omega) (by omega) (by omega) (by omega) hP hD hS (lv_sub hl [0, 1, 2, 3] rfl)
        · skip
          have h537 : j91 = bl := (nI_eq (a := j91) (b := bl) (by omega) (by omega)).mp h537
          exact W.vret hx hb hr (fun tZ ht hW => ⟨⟨(j91, 0, 0, 0), rfl, ⟨by first | omega | (dsimp only; omega), by first | omega | (dsimp only; omega), by first | omega | (dsimp only; omega), by first | omega | (dsimp only; omega), by first | omega | (dsimp only; omega), by first | omega | (dsimp only; omega)⟩, by rw [ht]; exact hP.sub [0, 1] rfl, hD.sub [0, 1] (by decide) rfl⟩, hS.F ht⟩) hS.2.2 dX11_lookAt_69
      · skip
        have h535 : ¬ bl ≤ j91 := fun q9 => h535 ((nI_leI (a := bl) (b := j91) (by omega) (by omega)).mpr q9)
        refine lv_aload_n hx hb dX11_lookAt_16 rfl (lv_at hl 0 rfl) ?_
        refine va_get (D := D) (ci := 11) (v := .ref mby) (C := RX11) (T := TX11) (N := 18) hx hb hts iw11 hown hK hP 0 rfl rfl 10 (by decide) fw6 (fun _ h9 => h9) rfl dX11_lookAt_17 ?_
        refine lv_aload_n hx hb dX11_lookAt_20 rfl (lv_at hl 0 rfl) ?_
        refine va_get (D := D) (ci := 11) (v := .int (nI j91)) (C := RX11) (T := TX11) (N := 18) hx hb hts iw11 hown hK hP 0 rfl rfl 12 (by decide) fw1 (fun _ h9 => h9) rfl dX11_lookAt_21 ?_
        refine va_iald hx hb hK hP 1 0 rfl rfl (vp_in_nI (by omega) (by decide)) dX11_lookAt_24 ?_
        rw [nI_clamp (n := j91) (by omega)]
        refine lv_bipush (v := 32) hx hb dX11_lookAt_25 (by decide) ?_
        refine lv_icmp_ne (tgt := 43) hx hb dX11_lookAt_27 (by decide) (fun h800 => ?_) (fun h801 => ?_)
        · skip
          refine lv_aload_n hx hb dX11_lookAt_43 rfl (lv_at hl 0 rfl) ?_
          refine lv_iconst (v := 0) hx hb dX11_lookAt_44 (by decide) ?_
          refine va_put (D := D) (ci := 11) (v := .int 0) (ty := .int) (C := RX11) (T := TX11) (N := 18) hx hb hts iw11 tyX11 tyX11_ok nmX11 hown hK hP hD hS 0 rfl rfl 13 (by decide) fw3 (fun _ h9 => h9) rfl (by decide +kernel) rfl rfl (Nat.le_of_ble_eq_true rfl) dX11_lookAt_45 (fun H locs hP hD hS => ?_)
          have hP : va_P D vwCl [(mo, .inr (11, [.ref to, .ref ke, .ref ik, .ref mrf, .long mab, .long mbl, .ref ha, .ref r0, .ref mbr, .ref mbp, .ref mby, .int (nI bl), .int (nI j91), .int 0, .int (nI tk), .int vv, .ref an, .ref va])), (mby, .inl (y 0, 150, .inl fmb))] H := hP
          have hD : va_D A [(mo, .inr (11, [.ref to, .ref ke, .ref ik, .ref mrf, .long mab, .long mbl, .ref ha, .ref r0, .ref mbr, .ref mbp, .ref mby, .int (nI bl), .int (nI j91), .int 0, .int (nI tk), .int vv, .ref an, .ref va])), (mby, .inl (y 0, 150, .inl fmb))] := hD
          refine lv_aload_n hx hb dX11_lookAt_48 rfl (lv_at hl 0 rfl) ?_
          refine lv_iconst (v := 0) hx hb dX11_lookAt_49 (by decide) ?_
          refine va_put (D := D) (ci := 11) (v := .int 0) (ty := .int) (C := RX11) (T := TX11) (N := 18) hx hb hts iw11 tyX11 tyX11_ok nmX11 hown hK hP hD hS 0 rfl rfl 14 (by decide) fw4 (fun _ h9 => h9) rfl (by decide +kernel) rfl rfl (Nat.le_of_ble_eq_true rfl) dX11_lookAt_50 (fun H locs hP hD hS => ?_)
          have hP : va_P D vwCl [(mo, .inr (11, [.ref to, .ref ke, .ref ik, .ref mrf, .long mab, .long mbl, .ref ha, .ref r0, .ref mbr, .ref mbp, .ref mby, .int (nI bl), .int (nI j91), .int 0, .int 0, .int vv, .ref an, .ref va])), (mby, .inl (y 0, 150, .inl fmb))] H := hP
          have hD : va_D A [(mo, .inr (11, [.ref to, .ref ke, .ref ik, .ref mrf, .long mab, .long mbl, .ref ha, .ref r0, .ref mbr, .ref mbp, .ref mby, .int (nI bl), .int (nI j91), .int 0, .int 0, .int vv, .ref an, .ref va])), (mby, .inl (y 0, 150, .inl fmb))] := hD
          refine lv_aload_n hx hb dX11_lookAt_53 rfl (lv_at hl 0 rfl) ?_
          refine lv_iconst (v := 0) hx hb dX11_lookAt_54 (by decide) ?_
          refine va_put (D := D) (ci := 11) (v := .int 0) (ty := .int) (C := RX11) (T := TX11) (N := 18) hx hb hts iw11 tyX11 tyX11_ok nmX11 hown hK hP hD hS 0 rfl rfl 15 (by decide) fw5 (fun _ h9 => h9) rfl (by decide +kernel) rfl rfl (Nat.le_of_ble_eq_true rfl) dX11_lookAt_55 (fun H locs hP hD hS => ?_)
          have hP : va_P D vwCl [(mo, .inr (11, [.ref to, .ref ke, .ref ik, .ref mrf, .long mab, .long mbl, .ref ha, .ref r0, .ref mbr, .ref mbp, .ref mby, .int (nI bl), .int (nI j91), .int 0, .int 0, .int 0, .ref an, .ref va])), (mby, .inl (y 0, 150, .inl fmb))] H := hP
          have hD : va_D A [(mo, .inr (11, [.ref to, .ref ke, .ref ik, .ref mrf, .long mab, .long mbl, .ref ha, .ref r0, .ref mbr, .ref mbp, .ref mby, .int (nI bl), .int (nI j91), .int 0, .int 0, .int 0, .ref an, .ref va])), (mby, .inl (y 0, 150, .inl fmb))] := hD
          refine lv_aload_n hx hb dX11_lookAt_58 rfl (lv_at hl 0 rfl) ?_
          refine va_get (D := D) (ci := 11) (v := .int (nI j91)) (C := RX11) (T := TX11) (N := 18) hx hb hts iw11 hown hK hP 0 rfl rfl 12 (by decide) fw1 (fun _ h9 => h9) rfl dX11_lookAt_59 ?_
          refine lv_aload_n hx hb dX11_lookAt_62 rfl (lv_at hl 0 rfl) ?_
          refine va_get (D := D) (ci := 11) (v := .int (nI bl)) (C := RX11) (T := TX11) (N := 18) hx hb hts iw11 hown hK hP 0 rfl rfl 11 (by decide) fw2 (fun _ h9 => h9) rfl dX11_lookAt_63 ?_
          refine lv_icmp_ne (tgt := 70) hx hb dX11_lookAt_66 (by decide) (fun h802 => ?_) (fun h803 => ?_)
          · skip
            have h802 : ¬ j91 = bl := fun q9 => h802 ((nI_eq (a := j91) (b := bl) (by omega) (by omega)).mpr q9)
            refine lv_aload_n hx hb dX11_lookAt_70 rfl (lv_at hl 0 rfl) ?_
            refine va_get (D := D) (ci := 11) (v := .ref mby) (C := RX11) (T := TX11) (N := 18) hx hb hts iw11 hown hK hP 0 rfl rfl 10 (by decide) fw6 (fun _ h9 => h9) rfl dX11_lookAt_71 ?_
            refine lv_aload_n hx hb dX11_lookAt_74 rfl (lv_at hl 0 rfl) ?_
            refine va_get (D := D) (ci := 11) (v := .int (nI j91)) (C := RX11) (T := TX11) (N := 18) hx hb hts iw11 hown hK hP 0 rfl rfl 12 (by decide) fw1 (fun _ h9 => h9) rfl dX11_lookAt_75 ?_
            refine va_iald hx hb hK hP 1 0 rfl rfl (vp_in_nI (by omega) (by decide)) dX11_lookAt_78 ?_
            rw [nI_clamp (n := j91) (by omega)]
            refine lv_istore_n (lv' := [(2, .int (fmb j91)), (0, .ref mo), (1, .int (nI k))]) hx hb dX11_lookAt_79 rfl hl (by decide) rfl (fun ls hl => ?_)
            refine lv_aload_n hx hb dX11_lookAt_80 rfl (lv_at hl 1 rfl) ?_
            refine lv_iload_n hx hb dX11_lookAt_81 rfl (lv_at hl 0 rfl) ?_
            have hs804 : kw_Split [(mo, .inr (11, [.ref to, .ref ke, .ref ik, .ref mrf, .long mab, .long mbl, .ref ha, .ref r0, .ref mbr, .ref mbp, .ref mby, .int (nI bl), .int (nI j91), .int 0, .int 0, .int 0, .ref an, .ref va])), (mby, .inl (y 0, 150, .inl fmb))] [] [(mo, .inr (11, [.ref to, .ref ke, .ref ik, .ref mrf, .long mab, .long mbl, .ref ha, .ref r0, .ref mbr, .ref mbp, .ref mby, .int (nI bl), .int (nI j91), .int 0, .int 0, .int 0, .ref an, .ref va])), (mby, .inl (y 0, 150, .inl fmb))] [] [0, 1] := ⟨rfl, rfl, rfl, rfl, rfl, by decide⟩
            refine kw_go_i hs804 hP hD hS hA (va_runS (As := [.int (fmb j91)]) (rest := [.ref mo]) ⟨hx, hb, hml, hown, hts⟩ (gr_isSmall l D y (fmb j91)  _) (va_cwS 1 hts gX11_lookAt_X11_isSmall rfl rfl rfl (by decide +kernel) ⟨Nat.le_of_ble_eq_true rfl, Nat.le_of_ble_eq_true rfl⟩) (kw_PreS hs804 hP hD hK hN) rfl rfl hl.1 rfl (lv_room (Nat.le_of_ble_eq_true rfl)) dX11_lookAt_82 ⟨Nat.le_of_ble_eq_true rfl, Nat.le_of_ble_eq_true rfl⟩) (fun r805 u806 H locs hq hP hD hS => ?_)
            obtain (rfl | rfl) := hq
            · skip
              have hP : va_P D vwCl [(mo, .inr (11, [.ref to, .ref ke, .ref ik, .ref mrf, .long mab, .long mbl, .ref ha, .ref r0, .ref mbr, .ref mbp, .ref mby, .int (nI bl), .int (nI j91), .int 0, .int 0, .int 0, .ref an, .ref va])), (mby, .inl (y 0, 150, .inl fmb))] H := hP
              have hD : va_D A [(mo, .inr (11, [.ref to, .ref ke, .ref ik, .ref mrf, .long mab, .long mbl, .ref ha, .ref r0, .ref mbr, .ref mbp, .ref mby, .int (nI bl), .int (nI j91), .int 0, .int 0, .int 0, .ref an, .ref va])), (mby, .inl (y 0, 150, .inl fmb))] := hD
              refine lv_if_eq (tgt := 92) hx hb dX11_lookAt_85 (by decide) (fun _ => ?_) (fun h9 => absurd h9 (by decide))
              refine lv_iload_n hx hb dX11_lookAt_92 rfl (lv_at hl 0 rfl) ?_
              have hs807 : kw_Split [(mo, .inr (11, [.ref to, .ref ke, .ref ik, .ref mrf, .long mab, .long mbl, .ref ha, .ref r0, .ref mbr, .ref mbp, .ref mby, .int (nI bl), .int (nI j91), .int 0, .int 0, .int 0, .ref an, .ref va])), (mby, .inl (y 0, 150, .inl fmb))] [] [(mo, .inr (11, [.ref to, .ref ke, .ref ik, .ref mrf, .long mab, .long mbl, .ref ha, .ref r0, .ref mbr, .ref mbp, .ref mby, .int (nI bl), .int (nI j91), .int 0, .int 0, .int 0, .ref an, .ref va])), (mby, .inl (y 0, 150, .inl fmb))] [] [0, 1] := ⟨rfl, rfl, rfl, rfl, rfl, by decide⟩
              refine kw_go_i hs807 hP hD hS hA (va_runS (As := [.int (fmb j91)]) (rest := [.ref mo]) ⟨hx, hb, hml, hown, hts⟩ (gr_isFigure l D y (fmb j91)  _) (va_cwS 1 hts gX11_lookAt_X11_isFigure rfl rfl rfl (by decide +kernel) ⟨Nat.le_of_ble_eq_true rfl, Nat.le_of_ble_eq_true rfl⟩) (kw_PreS hs807 hP hD hK hN) rfl rfl hl.1 rfl (lv_room (Nat.le_of_ble_eq_true rfl)) dX11_lookAt_93 ⟨Nat.le_of_ble_eq_true rfl, Nat.le_of_ble_eq_true rfl⟩) (fun r808 u809 H locs hq hP hD hS => ?_)
              obtain (rfl | rfl) := hq
              · skip
                have hP : va_P D vwCl [(mo, .inr (11, [.ref to, .ref ke, .ref ik, .ref mrf, .long mab, .long mbl, .ref ha, .ref r0, .ref mbr, .ref mbp, .ref mby, .int (nI bl), .int (nI j91), .int 0, .int 0, .int 0, .ref an, .ref va])), (mby, .inl (y 0, 150, .inl fmb))] H := hP
                have hD : va_D A [(mo, .inr (11, [.ref to, .ref ke, .ref ik, .ref mrf, .long mab, .long mbl, .ref ha, .ref r0, .ref mbr, .ref mbp, .ref mby, .int (nI bl), .int (nI j91), .int 0, .int 0, .int 0, .ref an, .ref va])), (mby, .inl (y 0, 150, .inl fmb))] := hD
                refine lv_if_eq (tgt := 103) hx hb dX11_lookAt_96 (by decide) (fun _ => ?_) (fun h9 => absurd h9 (by decide))
                refine lv_iload_n hx hb dX11_lookAt_103 rfl (lv_at hl 0 rfl) ?_
                refine lv_bipush (v := 59) hx hb dX11_lookAt_104 (by decide) ?_
                refine lv_icmp_ne (tgt := 113) hx hb dX11_lookAt_106 (by decide) (fun h810 => ?_) (fun h811 => ?_)
                · skip
                  refine lv_iconst (v := 4) hx hb dX11_lookAt_113 (by decide) ?_
                  refine va_put (D := D) (ci := 11) (v := .int 4) (ty := .int) (C := RX11) (T := TX11) (N := 18) hx hb hts iw11 tyX11 tyX11_ok nmX11 hown hK hP hD hS 0 rfl rfl 14 (by decide) fw4 (fun _ h9 => h9) rfl (by decide +kernel) rfl rfl (Nat.le_of_ble_eq_true rfl) dX11_lookAt_114 (fun H locs hP hD hS => ?_)
                  have hP : va_P D vwCl [(mo, .inr (11, [.ref to, .ref ke, .ref ik, .ref mrf, .long mab, .long mbl, .ref ha, .ref r0, .ref mbr, .ref mbp, .ref mby, .int (nI bl), .int (nI j91), .int 0, .int 4, .int 0, .ref an, .ref va])), (mby, .inl (y 0, 150, .inl fmb))] H := hP
                  have hD : va_D A [(mo, .inr (11, [.ref to, .ref ke, .ref ik, .ref mrf, .long mab, .long mbl, .ref ha, .ref r0, .ref mbr, .ref mbp, .ref mby, .int (nI bl), .int (nI j91), .int 0, .int 4, .int 0, .ref an, .ref va])), (mby, .inl (y 0, 150, .inl fmb))] := hD
                  refine lv_aload_n hx hb dX11_lookAt_117 rfl (lv_at hl 1 rfl) ?_
                  refine lv_iconst (v := 1) hx hb dX11_lookAt_118 (by decide) ?_
                  refine va_put (D := D) (ci := 11) (v := .int 1) (ty := .int) (C := RX11) (T := TX11) (N := 18) hx hb hts iw11 tyX11 tyX11_ok nmX11 hown hK hP hD hS 0 rfl rfl 13 (by decide) fw3 (fun _ h9 => h9) rfl (by decide +kernel) rfl rfl (Nat.le_of_ble_eq_true rfl) dX11_lookAt_119 (fun H locs hP hD hS => ?_)
                  have hP : va_P D vwCl [(mo, .inr (11, [.ref to, .ref ke, .ref ik, .ref mrf, .long mab, .long mbl, .ref ha, .ref r0, .ref mbr, .ref mbp, .ref mby, .int (nI bl), .int (nI j91), .int 1, .int 4, .int 0, .ref an, .ref va])), (mby, .inl (y 0, 150, .inl fmb))] H := hP
                  have hD : va_D A [(mo, .inr (11, [.ref to, .ref ke, .ref ik, .ref mrf, .long mab, .long mbl, .ref ha, .ref r0, .ref mbr, .ref mbp, .ref mby, .int (nI bl), .int (nI j91), .int 1, .int 4, .int 0, .ref an, .ref va])), (mby, .inl (y 0, 150, .inl fmb))] := hD
                  refine lv_aload_n hx hb dX11_lookAt_122 rfl (lv_at hl 1 rfl) ?_
                  refine va_get (D := D) (ci := 11) (v := .int 4) (C := RX11) (T := TX11) (N := 18) hx hb hts iw11 hown hK hP 0 rfl rfl 14 (by decide) fw4 (fun _ h9 => h9) rfl dX11_lookAt_123 ?_
                  refine lv_iconst (v := 3) hx hb dX11_lookAt_126 (by decide) ?_
                  refine lv_icmp_ge (tgt := 134) hx hb dX11_lookAt_127 (by decide) (fun _ => ?_) (fun h9 => absurd h9 (by decide))
                  refine lv_iconst (v := 0) hx hb dX11_lookAt_134 (by decide) ?_
                  refine lv_istore_n (lv' := [(3, .int 0), (2, .int (fmb j91)), (0, .ref mo), (1, .int (nI k))]) hx hb dX11_lookAt_135 rfl hl (by decide) rfl (fun ls hl => ?_)
                  have lp821 : ∀ (fu92 : Nat)  (H : Heap) (locs : List Loc) (ls : Array Slot), (bl - j91 - 1) + 0 < fu92 → j91 + 1 ≤ bl → 1 ≤ 1 → va_P D vwCl [(mo, .inr (11, [.ref to, .ref ke, .ref ik, .ref mrf, .long mab, .long mbl, .ref ha, .ref r0, .ref mbr, .ref mbp, .ref mby, .int (nI bl), .int (nI j91), .int 1, .int 4, .int 0, .ref an, .ref va])), (mby, .inl (y 0, 150, .inl fmb))] H → va_D A [(mo, .inr (11, [.ref to, .ref ke, .ref ik, .ref mrf, .long mab, .long mbl, .ref ha, .ref r0, .ref mbr, .ref mbp, .ref mby, .int (nI bl), .int (nI j91), .int 1, .int 4, .int 0, .ref an, .ref va])), (mby, .inl (y 0, 150, .inl fmb))] → va_S A s.heap H locs → lv_has ls 5 [(3, .int 0), (2, .int (fmb j91)), (0, .ref mo), (1, .int (nI k))] → W pZ l eZ ({ frames := 3, cells := 0, slots := 0, locals := 105 }) s mZ [.ref mo, .int (nI k)].toArray beZ meZ cZ H locs 0 0 (MQ beZ (va_Qv (fun (u : Nat × Nat × Nat × Int32) => u.1 ≤ bl ∧ u.2.1 ≤ 150 ∧ u.2.2.1 ≤ 4 ∧ k ≤ u.1 ∧ u.1 + u.2.1 ≤ bl ∧ (u.2.2.1 = 0 ∨ 1 ≤ u.2.1)) (kw_B D (fun u => [(mo, .inr (11, [.ref to, .ref ke, .ref ik, .ref mrf, .long mab, .long mbl, .ref ha, .ref r0, .ref mbr, .ref mbp, .ref mby, .int (nI bl), .int (nI u.1), .int (nI u.2.1), .int (nI u.2.2.1), .int u.2.2.2, .ref an, .ref va])), (mby, .inl (y 0, 150, .inl fmb))]) A) A) [.ref mo, .int (nI k)].toArray s 0 0 A) (F0 mZ 136 ls []) := by
                    intro fu92
                    induction fu92 with
                    | zero => intro  H locs ls hf9; exact absurd hf9 (Nat.not_lt_zero _)
                    | succ fu92 ihfu92 =>
                      intro  H locs ls hffu92 hJ0_fu92 hJ1_fu92 hP hD hS hl
                      refine lv_iload_n hx hb dX11_lookAt_136 rfl (lv_at hl 0 rfl) ?_
                      refine lv_if_eq (tgt := 215) hx hb dX11_lookAt_137 (by decide) (fun _ => ?_) (fun h9 => absurd h9 (by decide))
                      refine lv_iconst (v := 0) hx hb dX11_lookAt_215 (by decide) ?_
                      refine lv_istore (lv' := [(4, .int 0), (3, .int 0), (2, .int (fmb j91)), (0, .ref mo), (1, .int (nI k))]) hx hb dX11_lookAt_216 hl (by decide) rfl (fun ls hl => ?_)
                      have lp826 : ∀ (fuj93 j93 : Nat)  (H : Heap) (locs : List Loc) (ls : Array Slot), j93 ≤ 1 → 1 - j93 < fuj93 → va_P D vwCl [(mo, .inr (11, [.ref to, .ref ke, .ref ik, .ref mrf, .long mab, .long mbl, .ref ha, .ref r0, .ref mbr, .ref mbp, .ref mby, .int (nI bl), .int (nI j91), .int 1, .int 4, .int 0, .ref an, .ref va])), (mby, .inl (y 0, 150, .inl fmb))] H → va_D A [(mo, .inr (11, [.ref to, .ref ke, .ref ik, .ref mrf, .long mab, .long mbl, .ref ha, .ref r0, .ref mbr, .ref mbp, .ref mby, .int (nI bl), .int (nI j91), .int 1, .int 4, .int 0, .ref an, .ref va])), (mby, .inl (y 0, 150, .inl fmb))] → va_S A s.heap H locs → lv_has ls 5 [(4, .int (nI j93)), (3, .int 0), (2, .int (fmb j91)), (0, .ref mo), (1, .int (nI k))] → W pZ l eZ ({ frames := 3, cells := 0, slots := 0, locals := 105 }) s mZ [.ref mo, .int (nI k)].toArray beZ meZ cZ H locs 0 0 (MQ beZ (va_Qv (fun (u : Nat × Nat × Nat × Int32) => u.1 ≤ bl ∧ u.2.1 ≤ 150 ∧ u.2.2.1 ≤ 4 ∧ k ≤ u.1 ∧ u.1 + u.2.1 ≤ bl ∧ (u.2.2.1 = 0 ∨ 1 ≤ u.2.1)) (kw_B D (fun u => [(mo, .inr (11, [.ref to, .ref ke, .ref ik, .ref mrf, .long mab, .long mbl, .ref ha, .ref r0, .ref mbr, .ref mbp, .ref mby, .int (nI bl), .int (nI u.1), .int (nI u.2.1), .int (nI u.2.2.1), .int u.2.2.2, .ref an, .ref va])), (mby, .inl (y 0, 150, .inl fmb))]) A) A) [.ref mo, .int (nI k)].toArray s 0 0 A) (F0 mZ 218 ls []) := by
                        intro fuj93
                        induction fuj93 with
                        | zero => intro j93  H locs ls hj9 hf9; exact absurd hf9 (Nat.not_lt_zero _)
                        | succ fuj93 ihj93 =>
                          intro j93  H locs ls hj93 hfj93  hP hD hS hl
                          refine lv_iload hx hb dX11_lookAt_218 (lv_at hl 0 rfl) ?_
                          refine lv_aload_n hx hb dX11_lookAt_220 rfl (lv_at hl 3 rfl) ?_
                          refine va_get (D := D) (ci := 11) (v := .int 1) (C := RX11) (T := TX11) (N := 18) hx hb hts iw11 hown hK hP 0 rfl rfl 13 (by decide) fw3 (fun _ h9 => h9) rfl dX11_lookAt_221 ?_
                          refine lv_icmp_ge (tgt := 274) hx hb dX11_lookAt_224 (by decide) (fun h827 => ?_) (fun h828 => ?_)
                          · skip
                            have h827 : 1 ≤ j93 := (nI_leI (a := 1) (b := j93) (by omega) (by omega)).mp h827
                            refine lv_aload_n hx hb dX11_lookAt_274 rfl (lv_at hl 3 rfl) ?_
                            refine lv_aload_n hx hb dX11_lookAt_275 rfl (lv_at hl 3 rfl) ?_
                            refine va_get (D := D) (ci := 11) (v := .int 4) (C := RX11) (T := TX11) (N := 18) hx hb hts iw11 hown hK hP 0 rfl rfl 14 (by decide) fw4 (fun _ h9 => h9) rfl dX11_lookAt_276 ?_
                            refine lv_iconst (v := 2) hx hb dX11_lookAt_279 (by decide) ?_
                            refine lv_icmp_ne (tgt := 295) hx hb dX11_lookAt_280 (by decide) (fun _ => ?_) (fun h9 => absurd h9 (by decide))
                            refine lv_aload_n hx hb dX11_lookAt_295 rfl (lv_at hl 3 rfl) ?_
                            refine va_get (D := D) (ci := 11) (v := .int 4) (C := RX11) (T := TX11) (N := 18) hx hb hts iw11 hown hK hP 0 rfl rfl 14 (by decide) fw4 (fun _ h9 => h9) rfl dX11_lookAt_296 ?_
                            refine va_put (D := D) (ci := 11) (v := .int 4) (ty := .int) (C := RX11) (T := TX11) (N := 18) hx hb hts iw11 tyX11 tyX11_ok nmX11 hown hK hP hD hS 0 rfl rfl 14 (by decide) fw4 (fun _ h9 => h9) rfl (by decide +kernel) rfl rfl (Nat.le_of_ble_eq_true rfl) dX11_lookAt_299 (fun H locs hP hD hS => ?_)
                            have hP : va_P D vwCl [(mo, .inr (11, [.ref to, .ref ke, .ref ik, .ref mrf, .long mab, .long mbl, .ref ha, .ref r0, .ref mbr, .ref mbp, .ref mby, .int (nI bl), .int (nI j91), .int 1, .int 4, .int 0, .ref an, .ref va])), (mby, .inl (y 0, 150, .inl fmb))] H := hP
                            have hD : va_D A [(mo, .inr (11, [.ref to, .ref ke, .ref ik, .ref mrf, .long mab, .long mbl, .ref ha, .ref r0, .ref mbr, .ref mbp, .ref mby, .int (nI bl), .int (nI j91), .int 1, .int 4, .int 0, .ref an, .ref va])), (mby, .inl (y 0, 150, .inl fmb))] := hD
                            exact W.vret hx hb hr (fun tZ ht hW => ⟨⟨(j91, 1, 4, 0), rfl, ⟨by first | omega | (dsimp only; omega), by first | omega | (dsimp only; omega), by first | omega | (dsimp only; omega), by first | omega | (dsimp only; omega), by first | omega | (dsimp only; omega), by first | omega | (dsimp only; omega)⟩, by rw [ht]; exact hP.sub [0, 1] rfl, hD.sub [0, 1] (by decide) rfl⟩, hS.F ht⟩) hS.2.2 dX11_lookAt_302
                          · skip
                            have h828 : ¬ 1 ≤ j93 := fun q9 => h828 ((nI_leI (a := 1) (b := j93) (by omega) (by omega)).mpr q9)
                            refine lv_iload hx hb dX11_lookAt_227 (lv_at hl 0 rfl) ?_
                            refine lv_iconst (v := 2) hx hb dX11_lookAt_229 (by decide) ?_
                            refine lv_icmp_ge (tgt := 274) hx hb dX11_lookAt_230 (by decide) (fun h829 => ?_) (fun h830 => ?_)
                            · skip
                              have h829 : 2 ≤ j93 := (nI_leI (a := 2) (b := j93) (by omega) (by omega)).mp h829
                              refine lv_aload_n hx hb dX11_lookAt_274 rfl (lv_at hl 3 rfl) ?_
                              refine lv_aload_n hx hb dX11_lookAt_275 rfl (lv_at hl 3 rfl) ?_
                              refine va_get (D := D) (ci := 11) (v := .int 4) (C := RX11) (T := TX11) (N := 18) hx hb hts iw11 hown hK hP 0 rfl rfl 14 (by decide) fw4 (fun _ h9 => h9) rfl dX11_lookAt_276 ?_
                              refine lv_iconst (v := 2) hx hb dX11_lookAt_279 (by decide) ?_
                              refine lv_icmp_ne (tgt := 295) hx hb dX11_lookAt_280 (by decide) (fun _ => ?_) (fun h9 => absurd h9 (by decide))
                              refine lv_aload_n hx hb dX11_lookAt_295 rfl (lv_at hl 3 rfl) ?_
                              refine va_get (D := D) (ci := 11) (v := .int 4) (C := RX11) (T := TX11) (N := 18) hx hb hts iw11 hown hK hP 0 rfl rfl 14 (by decide) fw4 (fun _ h9 => h9) rfl dX11_lookAt_296 ?_
                              refine va_put (D := D) (ci := 11) (v := .int 4) (ty := .int) (C := RX11) (T := TX11) (N := 18) hx hb hts iw11 tyX11 tyX11_ok nmX11 hown hK hP hD hS 0 rfl rfl 14 (by decide) fw4 (fun _ h9 => h9) rfl (by decide +kernel) rfl rfl (Nat.le_of_ble_eq_true rfl) dX11_lookAt_299 (fun H locs hP hD hS => ?_)
                              have hP : va_P D vwCl [(mo, .inr (11, [.ref to, .ref ke, .ref ik, .ref mrf, .long mab, .long mbl, .ref ha, .ref r0, .ref mbr, .ref mbp, .ref mby, .int (nI bl), .int (nI j91), .int 1, .int 4, .int 0, .ref an, .ref va])), (mby, .inl (y 0, 150, .inl fmb))] H := hP
                              have hD : va_D A [(mo, .inr (11, [.ref to, .ref ke, .ref ik, .ref mrf, .long mab, .long mbl, .ref ha, .ref r0, .ref mbr, .ref mbp, .ref mby, .int (nI bl), .int (nI j91), .int 1, .int 4, .int 0, .ref an, .ref va])), (mby, .inl (y 0, 150, .inl fmb))] := hD
                              exact W.vret hx hb hr (fun tZ ht hW => ⟨⟨(j91, 1, 4, 0), rfl, ⟨by first | omega | (dsimp only; omega), by first | omega | (dsimp only; omega), by first | omega | (dsimp only; omega), by first | omega | (dsimp only; omega), by first | omega | (dsimp only; omega), by first | omega | (dsimp only; omega)⟩, by rw [ht]; exact hP.sub [0, 1] rfl, hD.sub [0, 1] (by decide) rfl⟩, hS.F ht⟩) hS.2.2 dX11_lookAt_302
                            · skip
                              have h830 : ¬ 2 ≤ j93 := fun q9 => h830 ((nI_leI (a := 2) (b := j93) (by omega) (by omega)).mpr q9)
                              refine lv_aload_n hx hb dX11_lookAt_233 rfl (lv_at hl 3 rfl) ?_
                              refine va_get (D := D) (ci := 11) (v := .int 4) (C := RX11) (T := TX11) (N := 18) hx hb hts iw11 hown hK hP 0 rfl rfl 14 (by decide) fw4 (fun _ h9 => h9) rfl dX11_lookAt_234 ?_
                              refine lv_iconst (v := 2) hx hb dX11_lookAt_237 (by decide) ?_
                              refine lv_icmp_ne (tgt := 274) hx hb dX11_lookAt_238 (by decide) (fun _ => ?_) (fun h9 => absurd h9 (by decide))
                              refine lv_aload_n hx hb dX11_lookAt_274 rfl (lv_at hl 3 rfl) ?_
                              refine lv_aload_n hx hb dX11_lookAt_275 rfl (lv_at hl 3 rfl) ?_
                              refine va_get (D := D) (ci := 11) (v := .int 4) (C := RX11) (T := TX11) (N := 18) hx hb hts iw11 hown hK hP 0 rfl rfl 14 (by decide) fw4 (fun _ h9 => h9) rfl dX11_lookAt_276 ?_
                              refine lv_iconst (v := 2) hx hb dX11_lookAt_279 (by decide) ?_
                              refine lv_icmp_ne (tgt := 295) hx hb dX11_lookAt_280 (by decide) (fun _ => ?_) (fun h9 => absurd h9 (by decide))
                              refine lv_aload_n hx hb dX11_lookAt_295 rfl (lv_at hl 3 rfl) ?_
                              refine va_get (D := D) (ci := 11) (v := .int 4) (C := RX11) (T := TX11) (N := 18) hx hb hts iw11 hown hK hP 0 rfl rfl 14 (by decide) fw4 (fun _ h9 => h9) rfl dX11_lookAt_296 ?_
                              refine va_put (D := D) (ci := 11) (v := .int 4) (ty := .int) (C := RX11) (T := TX11) (N := 18) hx hb hts iw11 tyX11 tyX11_ok nmX11 hown hK hP hD hS 0 rfl rfl 14 (by decide) fw4 (fun _ h9 => h9) rfl (by decide +kernel) rfl rfl (Nat.le_of_ble_eq_true rfl) dX11_lookAt_299 (fun H locs hP hD hS => ?_)
                              have hP : va_P D vwCl [(mo, .inr (11, [.ref to, .ref ke, .ref ik, .ref mrf, .long mab, .long mbl, .ref ha, .ref r0, .ref mbr, .ref mbp, .ref mby, .int (nI bl), .int (nI j91), .int 1, .int 4, .int 0, .ref an, .ref va])), (mby, .inl (y 0, 150, .inl fmb))] H := hP
                              have hD : va_D A [(mo, .inr (11, [.ref to, .ref ke, .ref ik, .ref mrf, .long mab, .long mbl, .ref ha, .ref r0, .ref mbr, .ref mbp, .ref mby, .int (nI bl), .int (nI j91), .int 1, .int 4, .int 0, .ref an, .ref va])), (mby, .inl (y 0, 150, .inl fmb))] := hD
                              exact W.vret hx hb hr (fun tZ ht hW => ⟨⟨(j91, 1, 4, 0), rfl, ⟨by first | omega | (dsimp only; omega), by first | omega | (dsimp only; omega), by first | omega | (dsimp only; omega), by first | omega | (dsimp only; omega), by first | omega | (dsimp only; omega), by first | omega | (dsimp only; omega)⟩, by rw [ht]; exact hP.sub [0, 1] rfl, hD.sub [0, 1] (by decide) rfl⟩, hS.F ht⟩) hS.2.2 dX11_lookAt_302
                      exact lp826 (1 + 1) 0  _ _ _ (by omega) (by omega)  hP hD hS (lv_sub hl [0, 1, 2, 3, 4] rfl)
                  exact lp821 _  _ _ _ (Nat.lt_succ_self _) (by omega) (by omega) hP hD hS (lv_sub hl [0, 1, 2, 3] rfl)
                · skip
                  refine lv_iconst (v := 3) hx hb dX11_lookAt_109 (by decide) ?_
                  refine lv_goto (tgt := 114) hx hb dX11_lookAt_110 (by decide) ?_
                  refine va_put (D := D) (ci := 11) (v := .int 3) (ty := .int) (C := RX11) (T := TX11) (N := 18) hx hb hts iw11 tyX11 tyX11_ok nmX11 hown hK hP hD hS 0 rfl rfl 14 (by decide) fw4 (fun _ h9 => h9) rfl (by decide +kernel) rfl rfl (Nat.le_of_ble_eq_true rfl) dX11_lookAt_114 (fun H locs hP hD hS => ?_)
                  have hP : va_P D vwCl [(mo, .inr (11, [.ref to, .ref ke, .ref ik, .ref mrf, .long mab, .long mbl, .ref ha, .ref r0, .ref mbr, .ref mbp, .ref mby, .int (nI bl), .int (nI j91), .int 0, .int 3, .int 0, .ref an, .ref va])), (mby, .inl (y 0, 150, .inl fmb))] H := hP
                  have hD : va_D A [(mo, .inr (11, [.ref to, .ref ke, .ref ik, .ref mrf, .long mab, .long mbl, .ref ha, .ref r0, .ref mbr, .ref mbp, .ref mby, .int (nI bl), .int (nI j91), .int 0, .int 3, .int 0, .ref an, .ref va])), (mby, .inl (y 0, 150, .inl fmb))] := hD
                  refine lv_aload_n hx hb dX11_lookAt_117 rfl (lv_at hl 1 rfl) ?_
                  refine lv_iconst (v := 1) hx hb dX11_lookAt_118 (by decide) ?_
                  refine va_put (D := D) (ci := 11) (v := .int 1) (ty := .int) (C := RX11) (T := TX11) (N := 18) hx hb hts iw11 tyX11 tyX11_ok nmX11 hown hK hP hD hS 0 rfl rfl 13 (by decide) fw3 (fun _ h9 => h9) rfl (by decide +kernel) rfl rfl (Nat.le_of_ble_eq_true rfl) dX11_lookAt_119 (fun H locs hP hD hS => ?_)
                  have hP : va_P D vwCl [(mo, .inr (11, [.ref to, .ref ke, .ref ik, .ref mrf, .long mab, .long mbl, .ref ha, .ref r0, .ref mbr, .ref mbp, .ref mby, .int (nI bl), .int (nI j91), .int 1, .int 3, .int 0, .ref an, .ref va])), (mby, .inl (y 0, 150, .inl fmb))] H := hP
                  have hD : va_D A [(mo, .inr (11, [.ref to, .ref ke, .ref ik, .ref mrf, .long mab, .long mbl, .ref ha, .ref r0, .ref mbr, .ref mbp, .ref mby, .int (nI bl), .int (nI j91), .int 1, .int 3, .int 0, .ref an, .ref va])), (mby, .inl (y 0, 150, .inl fmb))] := hD
                  refine lv_aload_n hx hb dX11_lookAt_122 rfl (lv_at hl 1 rfl) ?_
                  refine va_get (D := D) (ci := 11) (v := .int 3) (C := RX11) (T := TX11) (N := 18) hx hb hts iw11 hown hK hP 0 rfl rfl 14 (by decide) fw4 (fun _ h9 => h9) rfl dX11_lookAt_123 ?_
                  refine lv_iconst (v := 3) hx hb dX11_lookAt_126 (by decide) ?_
                  refine lv_icmp_ge (tgt := 134) hx hb dX11_lookAt_127 (by decide) (fun _ => ?_) (fun h9 => absurd h9 (by decide))
                  refine lv_iconst (v := 0) hx hb dX11_lookAt_134 (by decide) ?_
                  refine lv_istore_n (lv' := [(3, .int 0), (2, .int (fmb j91)), (0, .ref mo), (1, .int (nI k))]) hx hb dX11_lookAt_135 rfl hl (by decide) rfl (fun ls hl => ?_)
                  have lp840 : ∀ (fu92 : Nat)  (H : Heap) (locs : List Loc) (ls : Array Slot), (bl - j91 - 1) + 0 < fu92 → j91 + 1 ≤ bl → 1 ≤ 1 → va_P D vwCl [(mo, .inr (11, [.ref to, .ref ke, .ref ik, .ref mrf, .long mab, .long mbl, .ref ha, .ref r0, .ref mbr, .ref mbp, .ref mby, .int (nI bl), .int (nI j91), .int 1, .int 3, .int 0, .ref an, .ref va])), (mby, .inl (y 0, 150, .inl fmb))] H → va_D A [(mo, .inr (11, [.ref to, .ref ke, .ref ik, .ref mrf, .long mab, .long mbl, .ref ha, .ref r0, .ref mbr, .ref mbp, .ref mby, .int (nI bl), .int (nI j91), .int 1, .int 3, .int 0, .ref an, .ref va])), (mby, .inl (y 0, 150, .inl fmb))] → va_S A s.heap H locs → lv_has ls 5 [(3, .int 0), (2, .int (fmb j91)), (0, .ref mo), (1, .int (nI k))] → W pZ l eZ ({ frames := 3, cells := 0, slots := 0, locals := 105 }) s mZ [.ref mo, .int (nI k)].toArray beZ meZ cZ H locs 0 0 (MQ beZ (va_Qv (fun (u : Nat × Nat × Nat × Int32) => u.1 ≤ bl ∧ u.2.1 ≤ 150 ∧ u.2.2.1 ≤ 4 ∧ k ≤ u.1 ∧ u.1 + u.2.1 ≤ bl ∧ (u.2.2.1 = 0 ∨ 1 ≤ u.2.1)) (kw_B D (fun u => [(mo, .inr (11, [.ref to, .ref ke, .ref ik, .ref mrf, .long mab, .long mbl, .ref ha, .ref r0, .ref mbr, .ref mbp, .ref mby, .int (nI bl), .int (nI u.1), .int (nI u.2.1), .int (nI u.2.2.1), .int u.2.2.2, .ref an, .ref va])), (mby, .inl (y 0, 150, .inl fmb))]) A) A) [.ref mo, .int (nI k)].toArray s 0 0 A) (F0 mZ 136 ls []) := by
                    intro fu92
                    induction fu92 with
                    | zero => intro  H locs ls hf9; exact absurd hf9 (Nat.not_lt_zero _)
                    | succ fu92 ihfu92 =>
                      intro  H locs ls hffu92 hJ0_fu92 hJ1_fu92 hP hD hS hl
                      refine lv_iload_n hx hb dX11_lookAt_136 rfl (lv_at hl 0 rfl) ?_
                      refine lv_if_eq (tgt := 215) hx hb dX11_lookAt_137 (by decide) (fun _ => ?_) (fun h9 => absurd h9 (by decide))
                      refine lv_iconst (v := 0) hx hb dX11_lookAt_215 (by decide) ?_
                      refine lv_istore (lv' := [(4, .int 0), (3, .int 0), (2, .int (fmb j91)), (0, .ref mo), (1, .int (nI k))]) hx hb dX11_lookAt_216 hl (by decide) rfl (fun ls hl => ?_)
                      have lp845 : ∀ (fuj93 j93 : Nat)  (H : Heap) (locs : List Loc) (ls : Array Slot), j93 ≤ 1 → 1 - j93 < fuj93 → va_P D vwCl [(mo, .inr (11, [.ref to, .ref ke, .ref ik, .ref mrf, .long mab, .long mbl, .ref ha, .ref r0, .ref mbr, .ref mbp, .ref mby, .int (nI bl), .int (nI j91), .int 1, .int 3, .int 0, .ref an, .ref va])), (mby, .inl (y 0, 150, .inl fmb))] H → va_D A [(mo, .inr (11, [.ref to, .ref ke, .ref ik, .ref mrf, .long mab, .long mbl, .ref ha, .ref r0, .ref mbr, .ref mbp, .ref mby, .int (nI bl), .int (nI j91), .int 1, .int 3, .int 0, .ref an, .ref va])), (mby, .inl (y 0, 150, .inl fmb))] → va_S A s.heap H locs → lv_has ls 5 [(4, .int (nI j93)), (3, .int 0), (2, .int (fmb j91)), (0, .ref mo), (1, .int (nI k))] → W pZ l eZ ({ frames := 3, cells := 0, slots := 0, locals := 105 }) s mZ [.ref mo, .int (nI k)].toArray beZ meZ cZ H locs 0 0 (MQ beZ (va_Qv (fun (u : Nat × Nat × Nat × Int32) => u.1 ≤ bl ∧ u.2.1 ≤ 150 ∧ u.2.2.1 ≤ 4 ∧ k ≤ u.1 ∧ u.1 + u.2.1 ≤ bl ∧ (u.2.2.1 = 0 ∨ 1 ≤ u.2.1)) (kw_B D (fun u => [(mo, .inr (11, [.ref to, .ref ke, .ref ik, .ref mrf, .long mab, .long mbl, .ref ha, .ref r0, .ref mbr, .ref mbp, .ref mby, .int (nI bl), .int (nI u.1), .int (nI u.2.1), .int (nI u.2.2.1), .int u.2.2.2, .ref an, .ref va])), (mby, .inl (y 0, 150, .inl fmb))]) A) A) [.ref mo, .int (nI k)].toArray s 0 0 A) (F0 mZ 218 ls []) := by
                        intro fuj93
                        induction fuj93 with
                        | zero => intro j93  H locs ls hj9 hf9; exact absurd hf9 (Nat.not_lt_zero _)
                        | succ fuj93 ihj93 =>
                          intro j93  H locs ls hj93 hfj93  hP hD hS hl
                          refine lv_iload hx hb dX11_lookAt_218 (lv_at hl 0 rfl) ?_
                          refine lv_aload_n hx hb dX11_lookAt_220 rfl (lv_at hl 3 rfl) ?_
                          refine va_get (D := D) (ci := 11) (v := .int 1) (C := RX11) (T := TX11) (N := 18) hx hb hts iw11 hown hK hP 0 rfl rfl 13 (by decide) fw3 (fun _ h9 => h9) rfl dX11_lookAt_221 ?_
                          refine lv_icmp_ge (tgt := 274) hx hb dX11_lookAt_224 (by decide) (fun h846 => ?_) (fun h847 => ?_)
                          · skip
                            have h846 : 1 ≤ j93 := (nI_leI (a := 1) (b := j93) (by omega) (by omega)).mp h846
                            refine lv_aload_n hx hb dX11_lookAt_274 rfl (lv_at hl 3 rfl) ?_
                            refine lv_aload_n hx hb dX11_lookAt_275 rfl (lv_at hl 3 rfl) ?_
                            refine va_get (D := D) (ci := 11) (v := .int 3) (C := RX11) (T := TX11) (N := 18) hx hb hts iw11 hown hK hP 0 rfl rfl 14 (by decide) fw4 (fun _ h9 => h9) rfl dX11_lookAt_276 ?_
                            refine lv_iconst (v := 2) hx hb dX11_lookAt_279 (by decide) ?_
                            refine lv_icmp_ne (tgt := 295) hx hb dX11_lookAt_280 (by decide) (fun _ => ?_) (fun h9 => absurd h9 (by decide))
                            refine lv_aload_n hx hb dX11_lookAt_295 rfl (lv_at hl 3 rfl) ?_
                            refine va_get (D := D) (ci := 11) (v := .int 3) (C := RX11) (T := TX11) (N := 18) hx hb hts iw11 hown hK hP 0 rfl rfl 14 (by decide) fw4 (fun _ h9 => h9) rfl dX11_lookAt_296 ?_
                            refine va_put (D := D) (ci := 11) (v := .int 3) (ty := .int) (C := RX11) (T := TX11) (N := 18) hx hb hts iw11 tyX11 tyX11_ok nmX11 hown hK hP hD hS 0 rfl rfl 14 (by decide) fw4 (fun _ h9 => h9) rfl (by decide +kernel) rfl rfl (Nat.le_of_ble_eq_true rfl) dX11_lookAt_299 (fun H locs hP hD hS => ?_)
                            have hP : va_P D vwCl [(mo, .inr (11, [.ref to, .ref ke, .ref ik, .ref mrf, .long mab, .long mbl, .ref ha, .ref r0, .ref mbr, .ref mbp, .ref mby, .int (nI bl), .int (nI j91), .int 1, .int 3, .int 0, .ref an, .ref va])), (mby, .inl (y 0, 150, .inl fmb))] H := hP
                            have hD : va_D A [(mo, .inr (11, [.ref to, .ref ke, .ref ik, .ref mrf, .long mab, .long mbl, .ref ha, .ref r0, .ref mbr, .ref mbp, .ref mby, .int (nI bl), .int (nI j91), .int 1, .int 3, .int 0, .ref an, .ref va])), (mby, .inl (y 0, 150, .inl fmb))] := hD
                            exact W.vret hx hb hr (fun tZ ht hW => ⟨⟨(j91, 1, 3, 0), rfl, ⟨by first | omega | (dsimp only; omega), by first | omega | (dsimp only; omega), by first | omega | (dsimp only; omega), by first | omega | (dsimp only; omega), by first | omega | (dsimp only; omega), by first | omega | (dsimp only; omega)⟩, by rw [ht]; exact hP.sub [0, 1] rfl, hD.sub [0, 1] (by decide) rfl⟩, hS.F ht⟩) hS.2.2 dX11_lookAt_302
                          · skip
                            have h847 : ¬ 1 ≤ j93 := fun q9 => h847 ((nI_leI (a := 1) (b := j93) (by omega) (by omega)).mpr q9)
                            refine lv_iload hx hb dX11_lookAt_227 (lv_at hl 0 rfl) ?_
                            refine lv_iconst (v := 2) hx hb dX11_lookAt_229 (by decide) ?_
                            refine lv_icmp_ge (tgt := 274) hx hb dX11_lookAt_230 (by decide) (fun h848 => ?_) (fun h849 => ?_)
                            · skip
                              have h848 : 2 ≤ j93 := (nI_leI (a := 2) (b := j93) (by omega) (by omega)).mp h848
                              refine lv_aload_n hx hb dX11_lookAt_274 rfl (lv_at hl 3 rfl) ?_
                              refine lv_aload_n hx hb dX11_lookAt_275 rfl (lv_at hl 3 rfl) ?_
                              refine va_get (D := D) (ci := 11) (v := .int 3) (C := RX11) (T := TX11) (N := 18) hx hb hts iw11 hown hK hP 0 rfl rfl 14 (by decide) fw4 (fun _ h9 => h9) rfl dX11_lookAt_276 ?_
                              refine lv_iconst (v := 2) hx hb dX11_lookAt_279 (by decide) ?_
                              refine lv_icmp_ne (tgt := 295) hx hb dX11_lookAt_280 (by decide) (fun _ => ?_) (fun h9 => absurd h9 (by decide))
                              refine lv_aload_n hx hb dX11_lookAt_295 rfl (lv_at hl 3 rfl) ?_
                              refine va_get (D := D) (ci := 11) (v := .int 3) (C := RX11) (T := TX11) (N := 18) hx hb hts iw11 hown hK hP 0 rfl rfl 14 (by decide) fw4 (fun _ h9 => h9) rfl dX11_lookAt_296 ?_
                              refine va_put (D := D) (ci := 11) (v := .int 3) (ty := .int) (C := RX11) (T := TX11) (N := 18) hx hb hts iw11 tyX11 tyX11_ok nmX11 hown hK hP hD hS 0 rfl rfl 14 (by decide) fw4 (fun _ h9 => h9) rfl (by decide +kernel) rfl rfl (Nat.le_of_ble_eq_true rfl) dX11_lookAt_299 (fun H locs hP hD hS => ?_)
                              have hP : va_P D vwCl [(mo, .inr (11, [.ref to, .ref ke, .ref ik, .ref mrf, .long mab, .long mbl, .ref ha, .ref r0, .ref mbr, .ref mbp, .ref mby, .int (nI bl), .int (nI j91), .int 1, .int 3, .int 0, .ref an, .ref va])), (mby, .inl (y 0, 150, .inl fmb))] H := hP
                              have hD : va_D A [(mo, .inr (11, [.ref to, .ref ke, .ref ik, .ref mrf, .long mab, .long mbl, .ref ha, .ref r0, .ref mbr, .ref mbp, .ref mby, .int (nI bl), .int (nI j91), .int 1, .int 3, .int 0, .ref an, .ref va])), (mby, .inl (y 0, 150, .inl fmb))] := hD
                              exact W.vret hx hb hr (fun tZ ht hW => ⟨⟨(j91, 1, 3, 0), rfl, ⟨by first | omega | (dsimp only; omega), by first | omega | (dsimp only; omega), by first | omega | (dsimp only; omega), by first | omega | (dsimp only; omega), by first | omega | (dsimp only; omega), by first | omega | (dsimp only; omega)⟩, by rw [ht]; exact hP.sub [0, 1] rfl, hD.sub [0, 1] (by decide) rfl⟩, hS.F ht⟩) hS.2.2 dX11_lookAt_302
                            · skip
                              have h849 : ¬ 2 ≤ j93 := fun q9 => h849 ((nI_leI (a := 2) (b := j93) (by omega) (by omega)).mpr q9)
                              refine lv_aload_n hx hb dX11_lookAt_233 rfl (lv_at hl 3 rfl) ?_
                              refine va_get (D := D) (ci := 11) (v := .int 3) (C := RX11) (T := TX11) (N := 18) hx hb hts iw11 hown hK hP 0 rfl rfl 14 (by decide) fw4 (fun _ h9 => h9) rfl dX11_lookAt_234 ?_
                              refine lv_iconst (v := 2) hx hb dX11_lookAt_237 (by decide) ?_
                              refine lv_icmp_ne (tgt := 274) hx hb dX11_lookAt_238 (by decide) (fun _ => ?_) (fun h9 => absurd h9 (by decide))
                              refine lv_aload_n hx hb dX11_lookAt_274 rfl (lv_at hl 3 rfl) ?_
                              refine lv_aload_n hx hb dX11_lookAt_275 rfl (lv_at hl 3 rfl) ?_
                              refine va_get (D := D) (ci := 11) (v := .int 3) (C := RX11) (T := TX11) (N := 18) hx hb hts iw11 hown hK hP 0 rfl rfl 14 (by decide) fw4 (fun _ h9 => h9) rfl dX11_lookAt_276 ?_
                              refine lv_iconst (v := 2) hx hb dX11_lookAt_279 (by decide) ?_
                              refine lv_icmp_ne (tgt := 295) hx hb dX11_lookAt_280 (by decide) (fun _ => ?_) (fun h9 => absurd h9 (by decide))
                              refine lv_aload_n hx hb dX11_lookAt_295 rfl (lv_at hl 3 rfl) ?_
                              refine va_get (D := D) (ci := 11) (v := .int 3) (C := RX11) (T := TX11) (N := 18) hx hb hts iw11 hown hK hP 0 rfl rfl 14 (by decide) fw4 (fun _ h9 => h9) rfl dX11_lookAt_296 ?_
                              refine va_put (D := D) (ci := 11) (v := .int 3) (ty := .int) (C := RX11) (T := TX11) (N := 18) hx hb hts iw11 tyX11 tyX11_ok nmX11 hown hK hP hD hS 0 rfl rfl 14 (by decide) fw4 (fun _ h9 => h9) rfl (by decide +kernel) rfl rfl (Nat.le_of_ble_eq_true rfl) dX11_lookAt_299 (fun H locs hP hD hS => ?_)
                              have hP : va_P D vwCl [(mo, .inr (11, [.ref to, .ref ke, .ref ik, .ref mrf, .long mab, .long mbl, .ref ha, .ref r0, .ref mbr, .ref mbp, .ref mby, .int (nI bl), .int (nI j91), .int 1, .int 3, .int 0, .ref an, .ref va])), (mby, .inl (y 0, 150, .inl fmb))] H := hP
                              have hD : va_D A [(mo, .inr (11, [.ref to, .ref ke, .ref ik, .ref mrf, .long mab, .long mbl, .ref ha, .ref r0, .ref mbr, .ref mbp, .ref mby, .int (nI bl), .int (nI j91), .int 1, .int 3, .int 0, .ref an, .ref va])), (mby, .inl (y 0, 150, .inl fmb))] := hD
                              exact W.vret hx hb hr (fun tZ ht hW => ⟨⟨(j91, 1, 3, 0), rfl, ⟨by first | omega | (dsimp only; omega), by first | omega | (dsimp only; omega), by first | omega | (dsimp only; omega), by first | omega | (dsimp only; omega), by first | omega | (dsimp only; omega), by first | omega | (dsimp only; omega)⟩, by rw [ht]; exact hP.sub [0, 1] rfl, hD.sub [0, 1] (by decide) rfl⟩, hS.F ht⟩) hS.2.2 dX11_lookAt_302
                      exact lp845 (1 + 1) 0  _ _ _ (by omega) (by omega)  hP hD hS (lv_sub hl [0, 1, 2, 3, 4] rfl)
                  exact lp840 _  _ _ _ (Nat.lt_succ_self _) (by omega) (by omega) hP hD hS (lv_sub hl [0, 1, 2, 3] rfl)
              · skip
                have hP : va_P D vwCl [(mo, .inr (11, [.ref to, .ref ke, .ref ik, .ref mrf, .long mab, .long mbl, .ref ha, .ref r0, .ref mbr, .ref mbp, .ref mby, .int (nI bl), .int (nI j91), .int 0, .int 0, .int 0, .ref an, .ref va])), (mby, .inl (y 0, 150, .inl fmb))] H := hP
                have hD : va_D A [(mo, .inr (11, [.ref to, .ref ke, .ref ik, .ref mrf, .long mab, .long mbl, .ref ha, .ref r0, .ref mbr, .ref mbp, .ref mby, .int (nI bl), .int (nI j91), .int 0, .int 0, .int 0, .ref an, .ref va])), (mby, .inl (y 0, 150, .inl fmb))] := hD
                refine lv_if_eq (tgt := 103) hx hb dX11_lookAt_96 (by decide) (fun h9 => absurd h9 (by decide)) (fun _ => ?_)
                refine lv_iconst (v := 2) hx hb dX11_lookAt_99 (by decide) ?_
                refine lv_goto (tgt := 114) hx hb dX11_lookAt_100 (by decide) ?_
                refine va_put (D := D) (ci := 11) (v := .int 2) (ty := .int) (C := RX11) (T := TX11) (N := 18) hx hb hts iw11 tyX11 tyX11_ok nmX11 hown hK hP hD hS 0 rfl rfl 14 (by decide) fw4 (fun _ h9 => h9) rfl (by decide +kernel) rfl rfl (Nat.le_of_ble_eq_true rfl) dX11_lookAt_114 (fun H locs hP hD hS => ?_)
                have hP : va_P D vwCl [(mo, .inr (11, [.ref to, .ref ke, .ref ik, .ref mrf, .long mab, .long mbl, .ref ha, .ref r0, .ref mbr, .ref mbp, .ref mby, .int (nI bl), .int (nI j91), .int 0, .int 2, .int 0, .ref an, .ref va])), (mby, .inl (y 0, 150, .inl fmb))] H := hP
                have hD : va_D A [(mo, .inr (11, [.ref to, .ref ke, .ref ik, .ref mrf, .long mab, .long mbl, .ref ha, .ref r0, .ref mbr, .ref mbp, .ref mby, .int (nI bl), .int (nI j91), .int 0, .int 2, .int 0, .ref an, .ref va])), (mby, .inl (y 0, 150, .inl fmb))] := hD
                refine lv_aload_n hx hb dX11_lookAt_117 rfl (lv_at hl 1 rfl) ?_
                refine lv_iconst (v := 1) hx hb dX11_lookAt_118 (by decide) ?_
                refine va_put (D := D) (ci := 11) (v := .int 1) (ty := .int) (C := RX11) (T := TX11) (N := 18) hx hb hts iw11 tyX11 tyX11_ok nmX11 hown hK hP hD hS 0 rfl rfl 13 (by decide) fw3 (fun _ h9 => h9) rfl (by decide +kernel) rfl rfl (Nat.le_of_ble_eq_true rfl) dX11_lookAt_119 (fun H locs hP hD hS => ?_)
                have hP : va_P D vwCl [(mo, .inr (11, [.ref to, .ref ke, .ref ik, .ref mrf, .long mab, .long mbl, .ref ha, .ref r0, .ref mbr, .ref mbp, .ref mby, .int (nI bl), .int (nI j91), .int 1, .int 2, .int 0, .ref an, .ref va])), (mby, .inl (y 0, 150, .inl fmb))] H := hP
                have hD : va_D A [(mo, .inr (11, [.ref to, .ref ke, .ref ik, .ref mrf, .long mab, .long mbl, .ref ha, .ref r0, .ref mbr, .ref mbp, .ref mby, .int (nI bl), .int (nI j91), .int 1, .int 2, .int 0, .ref an, .ref va])), (mby, .inl (y 0, 150, .inl fmb))] := hD
                refine lv_aload_n hx hb dX11_lookAt_122 rfl (lv_at hl 1 rfl) ?_
                refine va_get (D := D) (ci := 11) (v := .int 2) (C := RX11) (T := TX11) (N := 18) hx hb hts iw11 hown hK hP 0 rfl rfl 14 (by decide) fw4 (fun _ h9 => h9) rfl dX11_lookAt_123 ?_
                refine lv_iconst (v := 3) hx hb dX11_lookAt_126 (by decide) ?_
                refine lv_icmp_ge (tgt := 134) hx hb dX11_lookAt_127 (by decide) (fun h9 => absurd h9 (by decide)) (fun _ => ?_)
                refine lv_iconst (v := 1) hx hb dX11_lookAt_130 (by decide) ?_
                refine lv_goto (tgt := 135) hx hb dX11_lookAt_131 (by decide) ?_
                refine lv_istore_n (lv' := [(3, .int 1), (2, .int (fmb j91)), (0, .ref mo), (1, .int (nI k))]) hx hb dX11_lookAt_135 rfl hl (by decide) rfl (fun ls hl => ?_)
                have lp935 : ∀ (fu92 : Nat) (x872 : Nat) (x873 : Nat) (H : Heap) (locs : List Loc) (ls : Array Slot), (bl - j91 - x873) + x872 < fu92 → x872 ≤ 1 → x873 ≤ 150 → j91 + x873 ≤ bl → 1 ≤ x873 → va_P D vwCl [(mo, .inr (11, [.ref to, .ref ke, .ref ik, .ref mrf, .long mab, .long mbl, .ref ha, .ref r0, .ref mbr, .ref mbp, .ref mby, .int (nI bl), .int (nI j91), .int (nI x873), .int 2, .int 0, .ref an, .ref va])), (mby, .inl (y 0, 150, .inl fmb))] H → va_D A [(mo, .inr (11, [.ref to, .ref ke, .ref ik, .ref mrf, .long mab, .long mbl, .ref ha, .ref r0, .ref mbr, .ref mbp, .ref mby, .int (nI bl), .int (nI j91), .int (nI x873), .int 2, .int 0, .ref an, .ref va])), (mby, .inl (y 0, 150, .inl fmb))] → va_S A s.heap H locs → lv_has ls 5 [(3, .int (nI x872)), (2, .int (fmb j91)), (0, .ref mo), (1, .int (nI k))] → W pZ l eZ ({ frames := 3, cells := 0, slots := 0, locals := 105 }) s mZ [.ref mo, .int (nI k)].toArray beZ meZ cZ H locs 0 0 (MQ beZ (va_Qv (fun (u : Nat × Nat × Nat × Int32) => u.1 ≤ bl ∧ u.2.1 ≤ 150 ∧ u.2.2.1 ≤ 4 ∧ k ≤ u.1 ∧ u.1 + u.2.1 ≤ bl ∧ (u.2.2.1 = 0 ∨ 1 ≤ u.2.1)) (kw_B D (fun u => [(mo, .inr (11, [.ref to, .ref ke, .ref ik, .ref mrf, .long mab, .long mbl, .ref ha, .ref r0, .ref mbr, .ref mbp, .ref mby, .int (nI bl), .int (nI u.1), .int (nI u.2.1), .int (nI u.2.2.1), .int u.2.2.2, .ref an, .ref va])), (mby, .inl (y 0, 150, .inl fmb))]) A) A) [.ref mo, .int (nI k)].toArray s 0 0 A) (F0 mZ 136 ls []) := by
                  intro fu92
                  induction fu92 with
                  | zero => intro x872 x873 H locs ls hf9; exact absurd hf9 (Nat.not_lt_zero _)
                  | succ fu92 ihfu92 =>
                    intro x872 x873 H locs ls hffu92 hn_x872 hn_x873 hJ0_fu92 hJ1_fu92 hP hD hS hl
                    refine lv_iload_n hx hb dX11_lookAt_136 rfl (lv_at hl 0 rfl) ?_
                    refine lv_if_eq (tgt := 215) hx hb dX11_lookAt_137 (by decide) (fun h936 => ?_) (fun h937 => ?_)
                    · skip
                      have h936 : x872 = 0 := (nI_eq (a := x872) (b := 0) (by omega) (by omega)).mp h936
                      refine lv_iconst (v := 0) hx hb dX11_lookAt_215 (by decide) ?_
                      refine lv_istore (lv' := [(4, .int 0), (3, .int (nI x872)), (2, .int (fmb j91)), (0, .ref mo), (1, .int (nI k))]) hx hb dX11_lookAt_216 hl (by decide) rfl (fun ls hl => ?_)
                      have lp956 : ∀ (fuj93 j93 : Nat) (x947 : Int32) (H : Heap) (locs : List Loc) (ls : Array Slot), j93 ≤ x873 → x873 - j93 < fuj93 → va_P D vwCl [(mo, .inr (11, [.ref to, .ref ke, .ref ik, .ref mrf, .long mab, .long mbl, .ref ha, .ref r0, .ref mbr, .ref mbp, .ref mby, .int (nI bl), .int (nI j91), .int (nI x873), .int 2, .int x947, .ref an, .ref va])), (mby, .inl (y 0, 150, .inl fmb))] H → va_D A [(mo, .inr (11, [.ref to, .ref ke, .ref ik, .ref mrf, .long mab, .long mbl, .ref ha, .ref r0, .ref mbr, .ref mbp, .ref mby, .int (nI bl), .int (nI j91), .int (nI x873), .int 2, .int x947, .ref an, .ref va])), (mby, .inl (y 0, 150, .inl fmb))] → va_S A s.heap H locs → lv_has ls 5 [(4, .int (nI j93)), (3, .int (nI x872)), (2, .int (fmb j91)), (0, .ref mo), (1, .int (nI k))] → W pZ l eZ ({ frames := 3, cells := 0, slots := 0, locals := 105 }) s mZ [.ref mo, .int (nI k)].toArray beZ meZ cZ H locs 0 0 (MQ beZ (va_Qv (fun (u : Nat × Nat × Nat × Int32) => u.1 ≤ bl ∧ u.2.1 ≤ 150 ∧ u.2.2.1 ≤ 4 ∧ k ≤ u.1 ∧ u.1 + u.2.1 ≤ bl ∧ (u.2.2.1 = 0 ∨ 1 ≤ u.2.1)) (kw_B D (fun u => [(mo, .inr (11, [.ref to, .ref ke, .ref ik, .ref mrf, .long mab, .long mbl, .ref ha, .ref r0, .ref mbr, .ref mbp, .ref mby, .int (nI bl), .int (nI u.1), .int (nI u.2.1), .int (nI u.2.2.1), .int u.2.2.2, .ref an, .ref va])), (mby, .inl (y 0, 150, .inl fmb))]) A) A) [.ref mo, .int (nI k)].toArray s 0 0 A) (F0 mZ 218 ls []) := by
                        intro fuj93
                        induction fuj93 with
                        | zero => intro j93 x947 H locs ls hj9 hf9; exact absurd hf9 (Nat.not_lt_zero _)
                        | succ fuj93 ihj93 =>
                          intro j93 x947 H locs ls hj93 hfj93  hP hD hS hl
                          refine lv_iload hx hb dX11_lookAt_218 (lv_at hl 0 rfl) ?_
                          refine lv_aload_n hx hb dX11_lookAt_220 rfl (lv_at hl 3 rfl) ?_
                          refine va_get (D := D) (ci := 11) (v := .int (nI x873)) (C := RX11) (T := TX11) (N := 18) hx hb hts iw11 hown hK hP 0 rfl rfl 13 (by decide) fw3 (fun _ h9 => h9) rfl dX11_lookAt_221 ?_
                          refine lv_icmp_ge (tgt := 274) hx hb dX11_lookAt_224 (by decide) (fun h957 => ?_) (fun h958 => ?_)
                          · skip
                            have h957 : x873 ≤ j93 := (nI_leI (a := x873) (b := j93) (by omega) (by omega)).mp h957
                            refine lv_aload_n hx hb dX11_lookAt_274 rfl (lv_at hl 3 rfl) ?_
                            refine lv_aload_n hx hb dX11_lookAt_275 rfl (lv_at hl 3 rfl) ?_
                            refine va_get (D := D) (ci := 11) (v := .int 2) (C := RX11) (T := TX11) (N := 18) hx hb hts iw11 hown hK hP 0 rfl rfl 14 (by decide) fw4 (fun _ h9 => h9) rfl dX11_lookAt_276 ?_
                            refine lv_iconst (v := 2) hx hb dX11_lookAt_279 (by decide) ?_
                            refine lv_icmp_ne (tgt := 295) hx hb dX11_lookAt_280 (by decide) (fun h9 => absurd h9 (by decide)) (fun _ => ?_)
                            refine lv_aload_n hx hb dX11_lookAt_283 rfl (lv_at hl 3 rfl) ?_
                            refine va_get (D := D) (ci := 11) (v := .int (nI x873)) (C := RX11) (T := TX11) (N := 18) hx hb hts iw11 hown hK hP 0 rfl rfl 13 (by decide) fw3 (fun _ h9 => h9) rfl dX11_lookAt_284 ?_
                            refine lv_iconst (v := 2) hx hb dX11_lookAt_287 (by decide) ?_
                            refine lv_icmp_le (tgt := 295) hx hb dX11_lookAt_288 (by decide) (fun h959 => ?_) (fun h960 => ?_)
                            · skip
                              have h959 : x873 ≤ 2 := (nI_leI (a := x873) (b := 2) (by omega) (by omega)).mp h959
                              refine lv_aload_n hx hb dX11_lookAt_295 rfl (lv_at hl 3 rfl) ?_
                              refine va_get (D := D) (ci := 11) (v := .int 2) (C := RX11) (T := TX11) (N := 18) hx hb hts iw11 hown hK hP 0 rfl rfl 14 (by decide) fw4 (fun _ h9 => h9) rfl dX11_lookAt_296 ?_
                              refine va_put (D := D) (ci := 11) (v := .int 2) (ty := .int) (C := RX11) (T := TX11) (N := 18) hx hb hts iw11 tyX11 tyX11_ok nmX11 hown hK hP hD hS 0 rfl rfl 14 (by decide) fw4 (fun _ h9 => h9) rfl (by decide +kernel) rfl rfl (Nat.le_of_ble_eq_true rfl) dX11_lookAt_299 (fun H locs hP hD hS => ?_)
                              have hP : va_P D vwCl [(mo, .inr (11, [.ref to, .ref ke, .ref ik, .ref mrf, .long mab, .long mbl, .ref ha, .ref r0, .ref mbr, .ref mbp, .ref mby, .int (nI bl), .int (nI j91), .int (nI x873), .int 2, .int x947, .ref an, .ref va])), (mby, .inl (y 0, 150, .inl fmb))] H := hP
                              have hD : va_D A [(mo, .inr (11, [.ref to, .ref ke, .ref ik, .ref mrf, .long mab, .long mbl, .ref ha, .ref r0, .ref mbr, .ref mbp, .ref mby, .int (nI bl), .int (nI j91), .int (nI x873), .int 2, .int x947, .ref an, .ref va])), (mby, .inl (y 0, 150, .inl fmb))] := hD
                              exact W.vret hx hb hr (fun tZ ht hW => ⟨⟨(j91, x873, 2, x947), rfl, ⟨by first | omega | (dsimp only; omega), by first | omega | (dsimp only; omega), by first | omega | (dsimp only; omega), by first | omega | (dsimp only; omega), by first | omega | (dsimp only; omega), by first | omega | (dsimp only; omega)⟩, by rw [ht]; exact hP.sub [0, 1] rfl, hD.sub [0, 1] (by decide) rfl⟩, hS.F ht⟩) hS.2.2 dX11_lookAt_302
                            · skip
                              have h960 : ¬ x873 ≤ 2 := fun q9 => h960 ((nI_leI (a := x873) (b := 2) (by omega) (by omega)).mpr q9)
                              refine lv_iconst (v := 4) hx hb dX11_lookAt_291 (by decide) ?_
                              refine lv_goto (tgt := 299) hx hb dX11_lookAt_292 (by decide) ?_
                              refine va_put (D := D) (ci := 11) (v := .int 4) (ty := .int) (C := RX11) (T := TX11) (N := 18) hx hb hts iw11 tyX11 tyX11_ok nmX11 hown hK hP hD hS 0 rfl rfl 14 (by decide) fw4 (fun _ h9 => h9) rfl (by decide +kernel) rfl rfl (Nat.le_of_ble_eq_true rfl) dX11_lookAt_299 (fun H locs hP hD hS => ?_)
                              have hP : va_P D vwCl [(mo, .inr (11, [.ref to, .ref ke, .ref ik, .ref mrf, .long mab, .long mbl, .ref ha, .ref r0, .ref mbr, .ref mbp, .ref mby, .int (nI bl), .int (nI j91), .int (nI x873), .int 4, .int x947, .ref an, .ref va])), (mby, .inl (y 0, 150, .inl fmb))] H := hP
                              have hD : va_D A [(mo, .inr (11, [.ref to, .ref ke, .ref ik, .ref mrf, .long mab, .long mbl, .ref ha, .ref r0, .ref mbr, .ref mbp, .ref mby, .int (nI bl), .int (nI j91), .int (nI x873), .int 4, .int x947, .ref an, .ref va])), (mby, .inl (y 0, 150, .inl fmb))] := hD
                              exact W.vret hx hb hr (fun tZ ht hW => ⟨⟨(j91, x873, 4, x947), rfl, ⟨by first | omega | (dsimp only; omega), by first | omega | (dsimp only; omega), by first | omega | (dsimp only; omega), by first | omega | (dsimp only; omega), by first | omega | (dsimp only; omega), by first | omega | (dsimp only; omega)⟩, by rw [ht]; exact hP.sub [0, 1] rfl, hD.sub [0, 1] (by decide) rfl⟩, hS.F ht⟩) hS.2.2 dX11_lookAt_302
                          · skip
                            have h958 : ¬ x873 ≤ j93 := fun q9 => h958 ((nI_leI (a := x873) (b := j93) (by omega) (by omega)).mpr q9)
                            refine lv_iload hx hb dX11_lookAt_227 (lv_at hl 0 rfl) ?_
                            refine lv_iconst (v := 2) hx hb dX11_lookAt_229 (by decide) ?_
                            refine lv_icmp_ge (tgt := 274) hx hb dX11_lookAt_230 (by decide) (fun h961 => ?_) (fun h962 => ?_)
                            · skip
                              have h961 : 2 ≤ j93 := (nI_leI (a := 2) (b := j93) (by omega) (by omega)).mp h961
                              refine lv_aload_n hx hb dX11_lookAt_274 rfl (lv_at hl 3 rfl) ?_
                              refine lv_aload_n hx hb dX11_lookAt_275 rfl (lv_at hl 3 rfl) ?_
                              refine va_get (D := D) (ci := 11) (v := .int 2) (C := RX11) (T := TX11) (N := 18) hx hb hts iw11 hown hK hP 0 rfl rfl 14 (by decide) fw4 (fun _ h9 => h9) rfl dX11_lookAt_276 ?_
                              refine lv_iconst (v := 2) hx hb dX11_lookAt_279 (by decide) ?_
                              refine lv_icmp_ne (tgt := 295) hx hb dX11_lookAt_280 (by decide) (fun h9 => absurd h9 (by decide)) (fun _ => ?_)
                              refine lv_aload_n hx hb dX11_lookAt_283 rfl (lv_at hl 3 rfl) ?_
                              refine va_get (D := D) (ci := 11) (v := .int (nI x873)) (C := RX11) (T := TX11) (N := 18) hx hb hts iw11 hown hK hP 0 rfl rfl 13 (by decide) fw3 (fun _ h9 => h9) rfl dX11_lookAt_284 ?_
                              refine lv_iconst (v := 2) hx hb dX11_lookAt_287 (by decide) ?_
                              refine lv_icmp_le (tgt := 295) hx hb dX11_lookAt_288 (by decide) (fun h963 => ?_) (fun h964 => ?_)
                              · skip
                                have h963 : x873 ≤ 2 := (nI_leI (a := x873) (b := 2) (by omega) (by omega)).mp h963
                                refine lv_aload_n hx hb dX11_lookAt_295 rfl (lv_at hl 3 rfl) ?_
                                refine va_get (D := D) (ci := 11) (v := .int 2) (C := RX11) (T := TX11) (N := 18) hx hb hts iw11 hown hK hP 0 rfl rfl 14 (by decide) fw4 (fun _ h9 => h9) rfl dX11_lookAt_296 ?_
                                refine va_put (D := D) (ci := 11) (v := .int 2) (ty := .int) (C := RX11) (T := TX11) (N := 18) hx hb hts iw11 tyX11 tyX11_ok nmX11 hown hK hP hD hS 0 rfl rfl 14 (by decide) fw4 (fun _ h9 => h9) rfl (by decide +kernel) rfl rfl (Nat.le_of_ble_eq_true rfl) dX11_lookAt_299 (fun H locs hP hD hS => ?_)
                                have hP : va_P D vwCl [(mo, .inr (11, [.ref to, .ref ke, .ref ik, .ref mrf, .long mab, .long mbl, .ref ha, .ref r0, .ref mbr, .ref mbp, .ref mby, .int (nI bl), .int (nI j91), .int (nI x873), .int 2, .int x947, .ref an, .ref va])), (mby, .inl (y 0, 150, .inl fmb))] H := hP
                                have hD : va_D A [(mo, .inr (11, [.ref to, .ref ke, .ref ik, .ref mrf, .long mab, .long mbl, .ref ha, .ref r0, .ref mbr, .ref mbp, .ref mby, .int (nI bl), .int (nI j91), .int (nI x873), .int 2, .int x947, .ref an, .ref va])), (mby, .inl (y 0, 150, .inl fmb))] := hD
                                exact W.vret hx hb hr (fun tZ ht hW => ⟨⟨(j91, x873, 2, x947), rfl, ⟨by first | omega | (dsimp only; omega), by first | omega | (dsimp only; omega), by first | omega | (dsimp only; omega), by first | omega | (dsimp only; omega), by first | omega | (dsimp only; omega), by first | omega | (dsimp only; omega)⟩, by rw [ht]; exact hP.sub [0, 1] rfl, hD.sub [0, 1] (by decide) rfl⟩, hS.F ht⟩) hS.2.2 dX11_lookAt_302
                              · skip
                                have h964 : ¬ x873 ≤ 2 := fun q9 => h964 ((nI_leI (a := x873) (b := 2) (by omega) (by omega)).mpr q9)
                                refine lv_iconst (v := 4) hx hb dX11_lookAt_291 (by decide) ?_
                                refine lv_goto (tgt := 299) hx hb dX11_lookAt_292 (by decide) ?_
                                refine va_put (D := D) (ci := 11) (v := .int 4) (ty := .int) (C := RX11) (T := TX11) (N := 18) hx hb hts iw11 tyX11 tyX11_ok nmX11 hown hK hP hD hS 0 rfl rfl 14 (by decide) fw4 (fun _ h9 => h9) rfl (by decide +kernel) rfl rfl (Nat.le_of_ble_eq_true rfl) dX11_lookAt_299 (fun H locs hP hD hS => ?_)
                                have hP : va_P D vwCl [(mo, .inr (11, [.ref to, .ref ke, .ref ik, .ref mrf, .long mab, .long mbl, .ref ha, .ref r0, .ref mbr, .ref mbp, .ref mby, .int (nI bl), .int (nI j91), .int (nI x873), .int 4, .int x947, .ref an, .ref va])), (mby, .inl (y 0, 150, .inl fmb))] H := hP
                                have hD : va_D A [(mo, .inr (11, [.ref to, .ref ke, .ref ik, .ref mrf, .long mab, .long mbl, .ref ha, .ref r0, .ref mbr, .ref mbp, .ref mby, .int (nI bl), .int (nI j91), .int (nI x873), .int 4, .int x947, .ref an, .ref va])), (mby, .inl (y 0, 150, .inl fmb))] := hD
                                exact W.vret hx hb hr (fun tZ ht hW => ⟨⟨(j91, x873, 4, x947), rfl, ⟨by first | omega | (dsimp only; omega), by first | omega | (dsimp only; omega), by first | omega | (dsimp only; omega), by first | omega | (dsimp only; omega), by first | omega | (dsimp only; omega), by first | omega | (dsimp only; omega)⟩, by rw [ht]; exact hP.sub [0, 1] rfl, hD.sub [0, 1] (by decide) rfl⟩, hS.F ht⟩) hS.2.2 dX11_lookAt_302
                            · skip
                              have h962 : ¬ 2 ≤ j93 := fun q9 => h962 ((nI_leI (a := 2) (b := j93) (by omega) (by omega)).mpr q9)
                              refine lv_aload_n hx hb dX11_lookAt_233 rfl (lv_at hl 3 rfl) ?_
                              refine va_get (D := D) (ci := 11) (v := .int 2) (C := RX11) (T := TX11) (N := 18) hx hb hts iw11 hown hK hP 0 rfl rfl 14 (by decide) fw4 (fun _ h9 => h9) rfl dX11_lookAt_234 ?_
                              refine lv_iconst (v := 2) hx hb dX11_lookAt_237 (by decide) ?_
                              refine lv_icmp_ne (tgt := 274) hx hb dX11_lookAt_238 (by decide) (fun h9 => absurd h9 (by decide)) (fun _ => ?_)
                              refine lv_aload_n hx hb dX11_lookAt_241 rfl (lv_at hl 3 rfl) ?_
                              refine lv_bipush (v := 10) hx hb dX11_lookAt_242 (by decide) ?_
                              refine lv_aload_n hx hb dX11_lookAt_244 rfl (lv_at hl 3 rfl) ?_
                              refine va_get (D := D) (ci := 11) (v := .int x947) (C := RX11) (T := TX11) (N := 18) hx hb hts iw11 hown hK hP 0 rfl rfl 15 (by decide) fw5 (fun _ h9 => h9) rfl dX11_lookAt_245 ?_
                              refine lv_imul hx hb dX11_lookAt_248 ?_
                              refine lv_aload_n hx hb dX11_lookAt_249 rfl (lv_at hl 3 rfl) ?_
                              refine va_get (D := D) (ci := 11) (v := .ref mby) (C := RX11) (T := TX11) (N := 18) hx hb hts iw11 hown hK hP 0 rfl rfl 10 (by decide) fw6 (fun _ h9 => h9) rfl dX11_lookAt_250 ?_
                              refine lv_aload_n hx hb dX11_lookAt_253 rfl (lv_at hl 3 rfl) ?_
                              refine va_get (D := D) (ci := 11) (v := .int (nI j91)) (C := RX11) (T := TX11) (N := 18) hx hb hts iw11 hown hK hP 0 rfl rfl 12 (by decide) fw1 (fun _ h9 => h9) rfl dX11_lookAt_254 ?_
                              refine lv_iload hx hb dX11_lookAt_257 (lv_at hl 0 rfl) ?_
                              refine lv_iadd hx hb dX11_lookAt_259 ?_
                              rw [show (nI j91) + (nI j93) = nI (j91 + j93) from nI_add j91 j93]
                              refine va_iald hx hb hK hP 1 0 rfl rfl (vp_in_nI (by omega) (by decide)) dX11_lookAt_260 ?_
                              rw [nI_clamp (n := (j91 + j93)) (by omega)]
                              refine lv_iadd hx hb dX11_lookAt_261 ?_
                              refine lv_bipush (v := 48) hx hb dX11_lookAt_262 (by decide) ?_
                              refine lv_isub hx hb dX11_lookAt_264 ?_
                              refine va_put (D := D) (ci := 11) (v := .int (((10 * x947) + (fmb (j91 + j93))) - 48)) (ty := .int) (C := RX11) (T := TX11) (N := 18) hx hb hts iw11 tyX11 tyX11_ok nmX11 hown hK hP hD hS 0 rfl rfl 15 (by decide) fw5 (fun _ h9 => h9) rfl (by decide +kernel) rfl rfl (Nat.le_of_ble_eq_true rfl) dX11_lookAt_265 (fun H locs hP hD hS => ?_)
                              have hP : va_P D vwCl [(mo, .inr (11, [.ref to, .ref ke, .ref ik, .ref mrf, .long mab, .long mbl, .ref ha, .ref r0, .ref mbr, .ref mbp, .ref mby, .int (nI bl), .int (nI j91), .int (nI x873), .int 2, .int (((10 * x947) + (fmb (j91 + j93))) - 48), .ref an, .ref va])), (mby, .inl (y 0, 150, .inl fmb))] H := hP
                              have hD : va_D A [(mo, .inr (11, [.ref to, .ref ke, .ref ik, .ref mrf, .long mab, .long mbl, .ref ha, .ref r0, .ref mbr, .ref mbp, .ref mby, .int (nI bl), .int (nI j91), .int (nI x873), .int 2, .int (((10 * x947) + (fmb (j91 + j93))) - 48), .ref an, .ref va])), (mby, .inl (y 0, 150, .inl fmb))] := hD
                              refine lv_iinc (v := (nI (j93 + 1))) (lv' := [(4, .int (nI (j93 + 1))), (3, .int (nI x872)), (2, .int (fmb j91)), (0, .ref mo), (1, .int (nI k))]) hx hb dX11_lookAt_268 hl (k := 0) rfl (nI_1 j93) (by decide) rfl (fun ls hl => ?_)
                              refine lv_goto (tgt := 218) hx hb dX11_lookAt_271 (by decide) ?_
                              exact ihj93 (j93 + 1) (((10 * x947) + (fmb (j91 + j93))) - 48) H locs ls (by omega) (by omega)  (hP.sub [0, 1] rfl) (hD.sub [0, 1] (by decide) rfl) hS (lv_sub hl [0, 1, 2, 3, 4] rfl)
                      exact lp956 (x873 + 1) 0 0 _ _ _ (by omega) (by omega)  hP hD hS (lv_sub hl [0, 1, 2, 3, 4] rfl)
                    · skip
                      have h937 : ¬ x872 = 0 := fun q9 => h937 ((nI_eq (a := x872) (b := 0) (by omega) (by omega)).mpr q9)
                      refine lv_aload_n hx hb dX11_lookAt_140 rfl (lv_at hl 2 rfl) ?_
                      refine va_get (D := D) (ci := 11) (v := .int (nI j91)) (C := RX11) (T := TX11) (N := 18) hx hb hts iw11 hown hK hP 0 rfl rfl 12 (by decide) fw1 (fun _ h9 => h9) rfl dX11_lookAt_141 ?_
                      refine lv_aload_n hx hb dX11_lookAt_144 rfl (lv_at hl 2 rfl) ?_
                      refine va_get (D := D) (ci := 11) (v := .int (nI x873)) (C := RX11) (T := TX11) (N := 18) hx hb hts iw11 hown hK hP 0 rfl rfl 13 (by decide) fw3 (fun _ h9 => h9) rfl dX11_lookAt_145 ?_
                      refine lv_iadd hx hb dX11_lookAt_148 ?_
                      rw [show (nI j91) + (nI x873) = nI (j91 + x873) from nI_add j91 x873]
                      refine lv_aload_n hx hb dX11_lookAt_149 rfl (lv_at hl 2 rfl) ?_
                      refine va_get (D := D) (ci := 11) (v := .int (nI bl)) (C := RX11) (T := TX11) (N := 18) hx hb hts iw11 hown hK hP 0 rfl rfl 11 (by decide) fw2 (fun _ h9 => h9) rfl dX11_lookAt_150 ?_
                      refine lv_icmp_ge (tgt := 215) hx hb dX11_lookAt_153 (by decide) (fun h965 => ?_) (fun h966 => ?_)
                      · skip
                        have h965 : bl ≤ (j91 + x873) := (nI_leI (a := bl) (b := (j91 + x873)) (by omega) (by omega)).mp h965
                        refine lv_iconst (v := 0) hx hb dX11_lookAt_215 (by decide) ?_
                        refine lv_istore (lv' := [(4, .int 0), (3, .int (nI x872)), (2, .int (fmb j91)), (0, .ref mo), (1, .int (nI k))]) hx hb dX11_lookAt_216 hl (by decide) rfl (fun ls hl => ?_)
                        have lp985 : ∀ (fuj93 j93 : Nat) (x976 : Int32) (H : Heap) (locs : List Loc) (ls : Array Slot), j93 ≤ x873 → x873 - j93 < fuj93 → va_P D vwCl [(mo, .inr (11, [.ref to, .ref ke, .ref ik, .ref mrf, .long mab, .long mbl, .ref ha, .ref r0, .ref mbr, .ref mbp, .ref mby, .int (nI bl), .int (nI j91), .int (nI x873), .int 2, .int x976, .ref an, .ref va])), (mby, .inl (y 0, 150, .inl fmb))] H → va_D A [(mo, .inr (11, [.ref to, .ref ke, .ref ik, .ref mrf, .long mab, .long mbl, .ref ha, .ref r0, .ref mbr, .ref mbp, .ref mby, .int (nI bl), .int (nI j91), .int (nI x873), .int 2, .int x976, .ref an, .ref va])), (mby, .inl (y 0, 150, .inl fmb))] → va_S A s.heap H locs → lv_has ls 5 [(4, .int (nI j93)), (3, .int (nI x872)), (2, .int (fmb j91)), (0, .ref mo), (1, .int (nI k))] → W pZ l eZ ({ frames := 3, cells := 0, slots := 0, locals := 105 }) s mZ [.ref mo, .int (nI k)].toArray beZ meZ cZ H locs 0 0 (MQ beZ (va_Qv (fun (u : Nat × Nat × Nat × Int32) => u.1 ≤ bl ∧ u.2.1 ≤ 150 ∧ u.2.2.1 ≤ 4 ∧ k ≤ u.1 ∧ u.1 + u.2.1 ≤ bl ∧ (u.2.2.1 = 0 ∨ 1 ≤ u.2.1)) (kw_B D (fun u => [(mo, .inr (11, [.ref to, .ref ke, .ref ik, .ref mrf, .long mab, .long mbl, .ref ha, .ref r0, .ref mbr, .ref mbp, .ref mby, .int (nI bl), .int (nI u.1), .int (nI u.2.1), .int (nI u.2.2.1), .int u.2.2.2, .ref an, .ref va])), (mby, .inl (y 0, 150, .inl fmb))]) A) A) [.ref mo, .int (nI k)].toArray s 0 0 A) (F0 mZ 218 ls []) := by
                          intro fuj93
                          induction fuj93 with
                          | zero => intro j93 x976 H locs ls hj9 hf9; exact absurd hf9 (Nat.not_lt_zero _)
                          | succ fuj93 ihj93 =>
                            intro j93 x976 H locs ls hj93 hfj93  hP hD hS hl
                            refine lv_iload hx hb dX11_lookAt_218 (lv_at hl 0 rfl) ?_
                            refine lv_aload_n hx hb dX11_lookAt_220 rfl (lv_at hl 3 rfl) ?_
                            refine va_get (D := D) (ci := 11) (v := .int (nI x873)) (C := RX11) (T := TX11) (N := 18) hx hb hts iw11 hown hK hP 0 rfl rfl 13 (by decide) fw3 (fun _ h9 => h9) rfl dX11_lookAt_221 ?_
                            refine lv_icmp_ge (tgt := 274) hx hb dX11_lookAt_224 (by decide) (fun h986 => ?_) (fun h987 => ?_)
                            · skip
                              have h986 : x873 ≤ j93 := (nI_leI (a := x873) (b := j93) (by omega) (by omega)).mp h986
                              refine lv_aload_n hx hb dX11_lookAt_274 rfl (lv_at hl 3 rfl) ?_
                              refine lv_aload_n hx hb dX11_lookAt_275 rfl (lv_at hl 3 rfl) ?_
                              refine va_get (D := D) (ci := 11) (v := .int 2) (C := RX11) (T := TX11) (N := 18) hx hb hts iw11 hown hK hP 0 rfl rfl 14 (by decide) fw4 (fun _ h9 => h9) rfl dX11_lookAt_276 ?_
                              refine lv_iconst (v := 2) hx hb dX11_lookAt_279 (by decide) ?_
                              refine lv_icmp_ne (tgt := 295) hx hb dX11_lookAt_280 (by decide) (fun h9 => absurd h9 (by decide)) (fun _ => ?_)
                              refine lv_aload_n hx hb dX11_lookAt_283 rfl (lv_at hl 3 rfl) ?_
                              refine va_get (D := D) (ci := 11) (v := .int (nI x873)) (C := RX11) (T := TX11) (N := 18) hx hb hts iw11 hown hK hP 0 rfl rfl 13 (by decide) fw3 (fun _ h9 => h9) rfl dX11_lookAt_284 ?_
                              refine lv_iconst (v := 2) hx hb dX11_lookAt_287 (by decide) ?_
                              refine lv_icmp_le (tgt := 295) hx hb dX11_lookAt_288 (by decide) (fun h988 => ?_) (fun h989 => ?_)
                              · skip
                                have h988 : x873 ≤ 2 := (nI_leI (a := x873) (b := 2) (by omega) (by omega)).mp h988
                                refine lv_aload_n hx hb dX11_lookAt_295 rfl (lv_at hl 3 rfl) ?_
                                refine va_get (D := D) (ci := 11) (v := .int 2) (C := RX11) (T := TX11) (N := 18) hx hb hts iw11 hown hK hP 0 rfl rfl 14 (by decide) fw4 (fun _ h9 => h9) rfl dX11_lookAt_296 ?_
                                refine va_put (D := D) (ci := 11) (v := .int 2) (ty := .int) (C := RX11) (T := TX11) (N := 18) hx hb hts iw11 tyX11 tyX11_ok nmX11 hown hK hP hD hS 0 rfl rfl 14 (by decide) fw4 (fun _ h9 => h9) rfl (by decide +kernel) rfl rfl (Nat.le_of_ble_eq_true rfl) dX11_lookAt_299 (fun H locs hP hD hS => ?_)
                                have hP : va_P D vwCl [(mo, .inr (11, [.ref to, .ref ke, .ref ik, .ref mrf, .long mab, .long mbl, .ref ha, .ref r0, .ref mbr, .ref mbp, .ref mby, .int (nI bl), .int (nI j91), .int (nI x873), .int 2, .int x976, .ref an, .ref va])), (mby, .inl (y 0, 150, .inl fmb))] H := hP
                                have hD : va_D A [(mo, .inr (11, [.ref to, .ref ke, .ref ik, .ref mrf, .long mab, .long mbl, .ref ha, .ref r0, .ref mbr, .ref mbp, .ref mby, .int (nI bl), .int (nI j91), .int (nI x873), .int 2, .int x976, .ref an, .ref va])), (mby, .inl (y 0, 150, .inl fmb))] := hD
                                exact W.vret hx hb hr (fun tZ ht hW => ⟨⟨(j91, x873, 2, x976), rfl, ⟨by first | omega | (dsimp only; omega), by first | omega | (dsimp only; omega), by first | omega | (dsimp only; omega), by first | omega | (dsimp only; omega), by first | omega | (dsimp only; omega), by first | omega | (dsimp only; omega)⟩, by rw [ht]; exact hP.sub [0, 1] rfl, hD.sub [0, 1] (by decide) rfl⟩, hS.F ht⟩) hS.2.2 dX11_lookAt_302
                              · skip
                                have h989 : ¬ x873 ≤ 2 := fun q9 => h989 ((nI_leI (a := x873) (b := 2) (by omega) (by omega)).mpr q9)
                                refine lv_iconst (v := 4) hx hb dX11_lookAt_291 (by decide) ?_
                                refine lv_goto (tgt := 299) hx hb dX11_lookAt_292 (by decide) ?_
                                refine va_put (D := D) (ci := 11) (v := .int 4) (ty := .int) (C := RX11) (T := TX11) (N := 18) hx hb hts iw11 tyX11 tyX11_ok nmX11 hown hK hP hD hS 0 rfl rfl 14 (by decide) fw4 (fun _ h9 => h9) rfl (by decide +kernel) rfl rfl (Nat.le_of_ble_eq_true rfl) dX11_lookAt_299 (fun H locs hP hD hS => ?_)
                                have hP : va_P D vwCl [(mo, .inr (11, [.ref to, .ref ke, .ref ik, .ref mrf, .long mab, .long mbl, .ref ha, .ref r0, .ref mbr, .ref mbp, .ref mby, .int (nI bl), .int (nI j91), .int (nI x873), .int 4, .int x976, .ref an, .ref va])), (mby, .inl (y 0, 150, .inl fmb))] H := hP
                                have hD : va_D A [(mo, .inr (11, [.ref to, .ref ke, .ref ik, .ref mrf, .long mab, .long mbl, .ref ha, .ref r0, .ref mbr, .ref mbp, .ref mby, .int (nI bl), .int (nI j91), .int (nI x873), .int 4, .int x976, .ref an, .ref va])), (mby, .inl (y 0, 150, .inl fmb))] := hD
                                exact W.vret hx hb hr (fun tZ ht hW => ⟨⟨(j91, x873, 4, x976), rfl, ⟨by first | omega | (dsimp only; omega), by first | omega | (dsimp only; omega), by first | omega | (dsimp only; omega), by first | omega | (dsimp only; omega), by first | omega | (dsimp only; omega), by first | omega | (dsimp only; omega)⟩, by rw [ht]; exact hP.sub [0, 1] rfl, hD.sub [0, 1] (by decide) rfl⟩, hS.F ht⟩) hS.2.2 dX11_lookAt_302
                            · skip
                              have h987 : ¬ x873 ≤ j93 := fun q9 => h987 ((nI_leI (a := x873) (b := j93) (by omega) (by omega)).mpr q9)
                              refine lv_iload hx hb dX11_lookAt_227 (lv_at hl 0 rfl) ?_
                              refine lv_iconst (v := 2) hx hb dX11_lookAt_229 (by decide) ?_
                              refine lv_icmp_ge (tgt := 274) hx hb dX11_lookAt_230 (by decide) (fun h990 => ?_) (fun h991 => ?_)
                              · skip
                                have h990 : 2 ≤ j93 := (nI_leI (a := 2) (b := j93) (by omega) (by omega)).mp h990
                                refine lv_aload_n hx hb dX11_lookAt_274 rfl (lv_at hl 3 rfl) ?_
                                refine lv_aload_n hx hb dX11_lookAt_275 rfl (lv_at hl 3 rfl) ?_
                                refine va_get (D := D) (ci := 11) (v := .int 2) (C := RX11) (T := TX11) (N := 18) hx hb hts iw11 hown hK hP 0 rfl rfl 14 (by decide) fw4 (fun _ h9 => h9) rfl dX11_lookAt_276 ?_
                                refine lv_iconst (v := 2) hx hb dX11_lookAt_279 (by decide) ?_
                                refine lv_icmp_ne (tgt := 295) hx hb dX11_lookAt_280 (by decide) (fun h9 => absurd h9 (by decide)) (fun _ => ?_)
                                refine lv_aload_n hx hb dX11_lookAt_283 rfl (lv_at hl 3 rfl) ?_
                                refine va_get (D := D) (ci := 11) (v := .int (nI x873)) (C := RX11) (T := TX11) (N := 18) hx hb hts iw11 hown hK hP 0 rfl rfl 13 (by decide) fw3 (fun _ h9 => h9) rfl dX11_lookAt_284 ?_
                                refine lv_iconst (v := 2) hx hb dX11_lookAt_287 (by decide) ?_
                                refine lv_icmp_le (tgt := 295) hx hb dX11_lookAt_288 (by decide) (fun h992 => ?_) (fun h993 => ?_)
                                · skip
                                  have h992 : x873 ≤ 2 := (nI_leI (a := x873) (b := 2) (by omega) (by omega)).mp h992
                                  refine lv_aload_n hx hb dX11_lookAt_295 rfl (lv_at hl 3 rfl) ?_
                                  refine va_get (D := D) (ci := 11) (v := .int 2) (C := RX11) (T := TX11) (N := 18) hx hb hts iw11 hown hK hP 0 rfl rfl 14 (by decide) fw4 (fun _ h9 => h9) rfl dX11_lookAt_296 ?_
                                  refine va_put (D := D) (ci := 11) (v := .int 2) (ty := .int) (C := RX11) (T := TX11) (N := 18) hx hb hts iw11 tyX11 tyX11_ok nmX11 hown hK hP hD hS 0 rfl rfl 14 (by decide) fw4 (fun _ h9 => h9) rfl (by decide +kernel) rfl rfl (Nat.le_of_ble_eq_true rfl) dX11_lookAt_299 (fun H locs hP hD hS => ?_)
                                  have hP : va_P D vwCl [(mo, .inr (11, [.ref to, .ref ke, .ref ik, .ref mrf, .long mab, .long mbl, .ref ha, .ref r0, .ref mbr, .ref mbp, .ref mby, .int (nI bl), .int (nI j91), .int (nI x873), .int 2, .int x976, .ref an, .ref va])), (mby, .inl (y 0, 150, .inl fmb))] H := hP
                                  have hD : va_D A [(mo, .inr (11, [.ref to, .ref ke, .ref ik, .ref mrf, .long mab, .long mbl, .ref ha, .ref r0, .ref mbr, .ref mbp, .ref mby, .int (nI bl), .int (nI j91), .int (nI x873), .int 2, .int x976, .ref an, .ref va])), (mby, .inl (y 0, 150, .inl fmb))] := hD
                                  exact W.vret hx hb hr (fun tZ ht hW => ⟨⟨(j91, x873, 2, x976), rfl, ⟨by first | omega | (dsimp only; omega), by first | omega | (dsimp only; omega), by first | omega | (dsimp only; omega), by first | omega | (dsimp only; omega), by first | omega | (dsimp only; omega), by first | omega | (dsimp only; omega)⟩, by rw [ht]; exact hP.sub [0, 1] rfl, hD.sub [0, 1] (by decide) rfl⟩, hS.F ht⟩) hS.2.2 dX11_lookAt_302
                                · skip
                                  have h993 : ¬ x873 ≤ 2 := fun q9 => h993 ((nI_leI (a := x873) (b := 2) (by omega) (by omega)).mpr q9)
                                  refine lv_iconst (v := 4) hx hb dX11_lookAt_291 (by decide) ?_
                                  refine lv_goto (tgt := 299) hx hb dX11_lookAt_292 (by decide) ?_
                                  refine va_put (D := D) (ci := 11) (v := .int 4) (ty := .int) (C := RX11) (T := TX11) (N := 18) hx hb hts iw11 tyX11 tyX11_ok nmX11 hown hK hP hD hS 0 rfl rfl 14 (by decide) fw4 (fun _ h9 => h9) rfl (by decide +kernel) rfl rfl (Nat.le_of_ble_eq_true rfl) dX11_lookAt_299 (fun H locs hP hD hS => ?_)
                                  have hP : va_P D vwCl [(mo, .inr (11, [.ref to, .ref ke, .ref ik, .ref mrf, .long mab, .long mbl, .ref ha, .ref r0, .ref mbr, .ref mbp, .ref mby, .int (nI bl), .int (nI j91), .int (nI x873), .int 4, .int x976, .ref an, .ref va])), (mby, .inl (y 0, 150, .inl fmb))] H := hP
                                  have hD : va_D A [(mo, .inr (11, [.ref to, .ref ke, .ref ik, .ref mrf, .long mab, .long mbl, .ref ha, .ref r0, .ref mbr, .ref mbp, .ref mby, .int (nI bl), .int (nI j91), .int (nI x873), .int 4, .int x976, .ref an, .ref va])), (mby, .inl (y 0, 150, .inl fmb))] := hD
                                  exact W.vret hx hb hr (fun tZ ht hW => ⟨⟨(j91, x873, 4, x976), rfl, ⟨by first | omega | (dsimp only; omega), by first | omega | (dsimp only; omega), by first | omega | (dsimp only; omega), by first | omega | (dsimp only; omega), by first | omega | (dsimp only; omega), by first | omega | (dsimp only; omega)⟩, by rw [ht]; exact hP.sub [0, 1] rfl, hD.sub [0, 1] (by decide) rfl⟩, hS.F ht⟩) hS.2.2 dX11_lookAt_302
                              · skip
                                have h991 : ¬ 2 ≤ j93 := fun q9 => h991 ((nI_leI (a := 2) (b := j93) (by omega) (by omega)).mpr q9)
                                refine lv_aload_n hx hb dX11_lookAt_233 rfl (lv_at hl 3 rfl) ?_
                                refine va_get (D := D) (ci := 11) (v := .int 2) (C := RX11) (T := TX11) (N := 18) hx hb hts iw11 hown hK hP 0 rfl rfl 14 (by decide) fw4 (fun _ h9 => h9) rfl dX11_lookAt_234 ?_
                                refine lv_iconst (v := 2) hx hb dX11_lookAt_237 (by decide) ?_
                                refine lv_icmp_ne (tgt := 274) hx hb dX11_lookAt_238 (by decide) (fun h9 => absurd h9 (by decide)) (fun _ => ?_)
                                refine lv_aload_n hx hb dX11_lookAt_241 rfl (lv_at hl 3 rfl) ?_
                                refine lv_bipush (v := 10) hx hb dX11_lookAt_242 (by decide) ?_
                                refine lv_aload_n hx hb dX11_lookAt_244 rfl (lv_at hl 3 rfl) ?_
                                refine va_get (D := D) (ci := 11) (v := .int x976) (C := RX11) (T := TX11) (N := 18) hx hb hts iw11 hown hK hP 0 rfl rfl 15 (by decide) fw5 (fun _ h9 => h9) rfl dX11_lookAt_245 ?_
                                refine lv_imul hx hb dX11_lookAt_248 ?_
                                refine lv_aload_n hx hb dX11_lookAt_249 rfl (lv_at hl 3 rfl) ?_
                                refine va_get (D := D) (ci := 11) (v := .ref mby) (C := RX11) (T := TX11) (N := 18) hx hb hts iw11 hown hK hP 0 rfl rfl 10 (by decide) fw6 (fun _ h9 => h9) rfl dX11_lookAt_250 ?_
                                refine lv_aload_n hx hb dX11_lookAt_253 rfl (lv_at hl 3 rfl) ?_
                                refine va_get (D := D) (ci := 11) (v := .int (nI j91)) (C := RX11) (T := TX11) (N := 18) hx hb hts iw11 hown hK hP 0 rfl rfl 12 (by decide) fw1 (fun _ h9 => h9) rfl dX11_lookAt_254 ?_
                                refine lv_iload hx hb dX11_lookAt_257 (lv_at hl 0 rfl) ?_
                                refine lv_iadd hx hb dX11_lookAt_259 ?_
                                rw [show (nI j91) + (nI j93) = nI (j91 + j93) from nI_add j91 j93]
                                refine va_iald hx hb hK hP 1 0 rfl rfl (vp_in_nI (by omega) (by decide)) dX11_lookAt_260 ?_
                                rw [nI_clamp (n := (j91 + j93)) (by omega)]
                                refine lv_iadd hx hb dX11_lookAt_261 ?_
                                refine lv_bipush (v := 48) hx hb dX11_lookAt_262 (by decide) ?_
                                refine lv_isub hx hb dX11_lookAt_264 ?_
                                refine va_put (D := D) (ci := 11) (v := .int (((10 * x976) + (fmb (j91 + j93))) - 48)) (ty := .int) (C := RX11) (T := TX11) (N := 18) hx hb hts iw11 tyX11 tyX11_ok nmX11 hown hK hP hD hS 0 rfl rfl 15 (by decide) fw5 (fun _ h9 => h9) rfl (by decide +kernel) rfl rfl (Nat.le_of_ble_eq_true rfl) dX11_lookAt_265 (fun H locs hP hD hS => ?_)
                                have hP : va_P D vwCl [(mo, .inr (11, [.ref to, .ref ke, .ref ik, .ref mrf, .long mab, .long mbl, .ref ha, .ref r0, .ref mbr, .ref mbp, .ref mby, .int (nI bl), .int (nI j91), .int (nI x873), .int 2, .int (((10 * x976) + (fmb (j91 + j93))) - 48), .ref an, .ref va])), (mby, .inl (y 0, 150, .inl fmb))] H := hP
                                have hD : va_D A [(mo, .inr (11, [.ref to, .ref ke, .ref ik, .ref mrf, .long mab, .long mbl, .ref ha, .ref r0, .ref mbr, .ref mbp, .ref mby, .int (nI bl), .int (nI j91), .int (nI x873), .int 2, .int (((10 * x976) + (fmb (j91 + j93))) - 48), .ref an, .ref va])), (mby, .inl (y 0, 150, .inl fmb))] := hD
                                refine lv_iinc (v := (nI (j93 + 1))) (lv' := [(4, .int (nI (j93 + 1))), (3, .int (nI x872)), (2, .int (fmb j91)), (0, .ref mo), (1, .int (nI k))]) hx hb dX11_lookAt_268 hl (k := 0) rfl (nI_1 j93) (by decide) rfl (fun ls hl => ?_)
                                refine lv_goto (tgt := 218) hx hb dX11_lookAt_271 (by decide) ?_
                                exact ihj93 (j93 + 1) (((10 * x976) + (fmb (j91 + j93))) - 48) H locs ls (by omega) (by omega)  (hP.sub [0, 1] rfl) (hD.sub [0, 1] (by decide) rfl) hS (lv_sub hl [0, 1, 2, 3, 4] rfl)
                        exact lp985 (x873 + 1) 0 0 _ _ _ (by omega) (by omega)  hP hD hS (lv_sub hl [0, 1, 2, 3, 4] rfl)
                      · skip
                        have h966 : ¬ bl ≤ (j91 + x873) := fun q9 => h966 ((nI_leI (a := bl) (b := (j91 + x873)) (by omega) (by omega)).mpr q9)
                        refine lv_aload_n hx hb dX11_lookAt_156 rfl (lv_at hl 2 rfl) ?_
                        refine va_get (D := D) (ci := 11) (v := .ref mby) (C := RX11) (T := TX11) (N := 18) hx hb hts iw11 hown hK hP 0 rfl rfl 10 (by decide) fw6 (fun _ h9 => h9) rfl dX11_lookAt_157 ?_
                        refine lv_aload_n hx hb dX11_lookAt_160 rfl (lv_at hl 2 rfl) ?_
                        refine va_get (D := D) (ci := 11) (v := .int (nI j91)) (C := RX11) (T := TX11) (N := 18) hx hb hts iw11 hown hK hP 0 rfl rfl 12 (by decide) fw1 (fun _ h9 => h9) rfl dX11_lookAt_161 ?_
                        refine lv_aload_n hx hb dX11_lookAt_164 rfl (lv_at hl 2 rfl) ?_
                        refine va_get (D := D) (ci := 11) (v := .int (nI x873)) (C := RX11) (T := TX11) (N := 18) hx hb hts iw11 hown hK hP 0 rfl rfl 13 (by decide) fw3 (fun _ h9 => h9) rfl dX11_lookAt_165 ?_
                        refine lv_iadd hx hb dX11_lookAt_168 ?_
                        rw [show (nI j91) + (nI x873) = nI (j91 + x873) from nI_add j91 x873]
                        refine va_iald hx hb hK hP 1 0 rfl rfl (vp_in_nI (by omega) (by decide)) dX11_lookAt_169 ?_
                        rw [nI_clamp (n := (j91 + x873)) (by omega)]
                        refine lv_istore (lv' := [(4, .int (fmb (j91 + x873))), (3, .int (nI x872)), (2, .int (fmb j91)), (0, .ref mo), (1, .int (nI k))]) hx hb dX11_lookAt_170 hl (by decide) rfl (fun ls hl => ?_)
                        refine lv_aload_n hx hb dX11_lookAt_172 rfl (lv_at hl 3 rfl) ?_
                        refine va_get (D := D) (ci := 11) (v := .int 2) (C := RX11) (T := TX11) (N := 18) hx hb hts iw11 hown hK hP 0 rfl rfl 14 (by decide) fw4 (fun _ h9 => h9) rfl dX11_lookAt_173 ?_
                        refine lv_iconst (v := 1) hx hb dX11_lookAt_176 (by decide) ?_
                        refine lv_icmp_ne (tgt := 188) hx hb dX11_lookAt_177 (by decide) (fun _ => ?_) (fun h9 => absurd h9 (by decide))
                        refine lv_iload hx hb dX11_lookAt_188 (lv_at hl 0 rfl) ?_
                        have hs994 : kw_Split [(mo, .inr (11, [.ref to, .ref ke, .ref ik, .ref mrf, .long mab, .long mbl, .ref ha, .ref r0, .ref mbr, .ref mbp, .ref mby, .int (nI bl), .int (nI j91), .int (nI x873), .int 2, .int 0, .ref an, .ref va])), (mby, .inl (y 0, 150, .inl fmb))] [] [(mo, .inr (11, [.ref to, .ref ke, .ref ik, .ref mrf, .long mab, .long mbl, .ref ha, .ref r0, .ref mbr, .ref mbp, .ref mby, .int (nI bl), .int (nI j91), .int (nI x873), .int 2, .int 0, .ref an, .ref va])), (mby, .inl (y 0, 150, .inl fmb))] [] [0, 1] := ⟨rfl, rfl, rfl, rfl, rfl, by decide⟩
                        refine kw_go_i hs994 hP hD hS hA (va_runS (As := [.int (fmb (j91 + x873))]) (rest := []) ⟨hx, hb, hml, hown, hts⟩ (gr_isFigure l D y (fmb (j91 + x873))  _) (va_cwS 1 hts gX11_lookAt_X11_isFigure rfl rfl rfl (by decide +kernel) ⟨Nat.le_of_ble_eq_true rfl, Nat.le_of_ble_eq_true rfl⟩) (kw_PreS hs994 hP hD hK hN) rfl rfl hl.1 rfl (lv_room (Nat.le_of_ble_eq_true rfl)) dX11_lookAt_190 ⟨Nat.le_of_ble_eq_true rfl, Nat.le_of_ble_eq_true rfl⟩) (fun r995 u996 H locs hq hP hD hS => ?_)
                        obtain (rfl | rfl) := hq
                        · skip
                          have hP : va_P D vwCl [(mo, .inr (11, [.ref to, .ref ke, .ref ik, .ref mrf, .long mab, .long mbl, .ref ha, .ref r0, .ref mbr, .ref mbp, .ref mby, .int (nI bl), .int (nI j91), .int (nI x873), .int 2, .int 0, .ref an, .ref va])), (mby, .inl (y 0, 150, .inl fmb))] H := hP
                          have hD : va_D A [(mo, .inr (11, [.ref to, .ref ke, .ref ik, .ref mrf, .long mab, .long mbl, .ref ha, .ref r0, .ref mbr, .ref mbp, .ref mby, .int (nI bl), .int (nI j91), .int (nI x873), .int 2, .int 0, .ref an, .ref va])), (mby, .inl (y 0, 150, .inl fmb))] := hD
                          refine lv_istore_n (lv' := [(3, .int 0), (4, .int (fmb (j91 + x873))), (2, .int (fmb j91)), (0, .ref mo), (1, .int (nI k))]) hx hb dX11_lookAt_193 rfl hl (by decide) rfl (fun ls hl => ?_)
                          refine lv_aload_n hx hb dX11_lookAt_194 rfl (lv_at hl 3 rfl) ?_
                          refine lv_dup hx hb dX11_lookAt_195 rfl ?_
                          refine va_get (D := D) (ci := 11) (v := .int (nI x873)) (C := RX11) (T := TX11) (N := 18) hx hb hts iw11 hown hK hP 0 rfl rfl 13 (by decide) fw3 (fun _ h9 => h9) rfl dX11_lookAt_196 ?_
                          refine lv_iload_n hx hb dX11_lookAt_199 rfl (lv_at hl 0 rfl) ?_
                          refine lv_if_eq (tgt := 207) hx hb dX11_lookAt_200 (by decide) (fun _ => ?_) (fun h9 => absurd h9 (by decide))
                          refine lv_iconst (v := 0) hx hb dX11_lookAt_207 (by decide) ?_
                          refine lv_iadd hx hb dX11_lookAt_208 ?_
                          rw [show (nI x873) + 0 = nI (x873) from nI_add x873 0]
                          refine va_put (D := D) (ci := 11) (v := .int (nI x873)) (ty := .int) (C := RX11) (T := TX11) (N := 18) hx hb hts iw11 tyX11 tyX11_ok nmX11 hown hK hP hD hS 0 rfl rfl 13 (by decide) fw3 (fun _ h9 => h9) rfl (by decide +kernel) rfl rfl (Nat.le_of_ble_eq_true rfl) dX11_lookAt_209 (fun H locs hP hD hS => ?_)
                          have hP : va_P D vwCl [(mo, .inr (11, [.ref to, .ref ke, .ref ik, .ref mrf, .long mab, .long mbl, .ref ha, .ref r0, .ref mbr, .ref mbp, .ref mby, .int (nI bl), .int (nI j91), .int (nI x873), .int 2, .int 0, .ref an, .ref va])), (mby, .inl (y 0, 150, .inl fmb))] H := hP
                          have hD : va_D A [(mo, .inr (11, [.ref to, .ref ke, .ref ik, .ref mrf, .long mab, .long mbl, .ref ha, .ref r0, .ref mbr, .ref mbp, .ref mby, .int (nI bl), .int (nI j91), .int (nI x873), .int 2, .int 0, .ref an, .ref va])), (mby, .inl (y 0, 150, .inl fmb))] := hD
                          refine lv_goto (tgt := 136) hx hb dX11_lookAt_212 (by decide) ?_
                          exact ihfu92 0 x873 H locs ls (by omega) (by omega) (by omega) (by omega) (by omega) (hP.sub [0, 1] rfl) (hD.sub [0, 1] (by decide) rfl) hS (lv_sub hl [0, 2, 3, 4] rfl)
                        · skip
                          have hP : va_P D vwCl [(mo, .inr (11, [.ref to, .ref ke, .ref ik, .ref mrf, .long mab, .long mbl, .ref ha, .ref r0, .ref mbr, .ref mbp, .ref mby, .int (nI bl), .int (nI j91), .int (nI x873), .int 2, .int 0, .ref an, .ref va])), (mby, .inl (y 0, 150, .inl fmb))] H := hP
                          have hD : va_D A [(mo, .inr (11, [.ref to, .ref ke, .ref ik, .ref mrf, .long mab, .long mbl, .ref ha, .ref r0, .ref mbr, .ref mbp, .ref mby, .int (nI bl), .int (nI j91), .int (nI x873), .int 2, .int 0, .ref an, .ref va])), (mby, .inl (y 0, 150, .inl fmb))] := hD
                          refine lv_istore_n (lv' := [(3, .int 1), (4, .int (fmb (j91 + x873))), (2, .int (fmb j91)), (0, .ref mo), (1, .int (nI k))]) hx hb dX11_lookAt_193 rfl hl (by decide) rfl (fun ls hl => ?_)
                          refine lv_aload_n hx hb dX11_lookAt_194 rfl (lv_at hl 3 rfl) ?_
                          refine lv_dup hx hb dX11_lookAt_195 rfl ?_
                          refine va_get (D := D) (ci := 11) (v := .int (nI x873)) (C := RX11) (T := TX11) (N := 18) hx hb hts iw11 hown hK hP 0 rfl rfl 13 (by decide) fw3 (fun _ h9 => h9) rfl dX11_lookAt_196 ?_
                          refine lv_iload_n hx hb dX11_lookAt_199 rfl (lv_at hl 0 rfl) ?_
                          refine lv_if_eq (tgt := 207) hx hb dX11_lookAt_200 (by decide) (fun h9 => absurd h9 (by decide)) (fun _ => ?_)
                          refine lv_iconst (v := 1) hx hb dX11_lookAt_203 (by decide) ?_
                          refine lv_goto (tgt := 208) hx hb dX11_lookAt_204 (by decide) ?_
                          refine lv_iadd hx hb dX11_lookAt_208 ?_
                          rw [show (nI x873) + 1 = nI (x873 + 1) from nI_add x873 1]
                          refine va_put (D := D) (ci := 11) (v := .int (nI (x873 + 1))) (ty := .int) (C := RX11) (T := TX11) (N := 18) hx hb hts iw11 tyX11 tyX11_ok nmX11 hown hK hP hD hS 0 rfl rfl 13 (by decide) fw3 (fun _ h9 => h9) rfl (by decide +kernel) rfl rfl (Nat.le_of_ble_eq_true rfl) dX11_lookAt_209 (fun H locs hP hD hS => ?_)
                          have hP : va_P D vwCl [(mo, .inr (11, [.ref to, .ref ke, .ref ik, .ref mrf, .long mab, .long mbl, .ref ha, .ref r0, .ref mbr, .ref mbp, .ref mby, .int (nI bl), .int (nI j91), .int (nI (x873 + 1)), .int 2, .int 0, .ref an, .ref va])), (mby, .inl (y 0, 150, .inl fmb))] H := hP
                          have hD : va_D A [(mo, .inr (11, [.ref to, .ref ke, .ref ik, .ref mrf, .long mab, .long mbl, .ref ha, .ref r0, .ref mbr, .ref mbp, .ref mby, .int (nI bl), .int (nI j91), .int (nI (x873 + 1)), .int 2, .int 0, .ref an, .ref va])), (mby, .inl (y 0, 150, .inl fmb))] := hD
                          refine lv_goto (tgt := 136) hx hb dX11_lookAt_212 (by decide) ?_
                          exact ihfu92 1 (x873 + 1) H locs ls (by omega) (by omega) (by omega) (by omega) (by omega) (hP.sub [0, 1] rfl) (hD.sub [0, 1] (by decide) rfl) hS (lv_sub hl [0, 2, 3, 4] rfl)
                exact lp935 _ 1 1 _ _ _ (Nat.lt_succ_self _) (by omega) (by omega) (by omega) (by omega) hP hD hS (lv_sub hl [0, 1, 2, 3] rfl)
            · skip
              have hP : va_P D vwCl [(mo, .inr (11, [.ref to, .ref ke, .ref ik, .ref mrf, .long mab, .long mbl, .ref ha, .ref r0, .ref mbr, .ref mbp, .ref mby, .int (nI bl), .int (nI j91), .int 0, .int 0, .int 0, .ref an, .ref va])), (mby, .inl (y 0, 150, .inl fmb))] H := hP
              have hD : va_D A [(mo, .inr (11, [.ref to, .ref ke, .ref ik, .ref mrf, .long mab, .long mbl, .ref ha, .ref r0, .ref mbr, .ref mbp, .ref mby, .int (nI bl), .int (nI j91), .int 0, .int 0, .int 0, .ref an, .ref va])), (mby, .inl (y 0, 150, .inl fmb))] := hD
              refine lv_if_eq (tgt := 92) hx hb dX11_lookAt_85 (by decide) (fun h9 => absurd h9 (by decide)) (fun _ => ?_)
              refine lv_iconst (v := 1) hx hb dX11_lookAt_88 (by decide) ?_
              refine lv_goto (tgt := 114) hx hb dX11_lookAt_89 (by decide) ?_
              refine va_put (D := D) (ci := 11) (v := .int 1) (ty := .int) (C := RX11) (T := TX11) (N := 18) hx hb hts iw11 tyX11 tyX11_ok nmX11 hown hK hP hD hS 0 rfl rfl 14 (by decide) fw4 (fun _ h9 => h9) rfl (by decide +kernel) rfl rfl (Nat.le_of_ble_eq_true rfl) dX11_lookAt_114 (fun H locs hP hD hS => ?_)
              have hP : va_P D vwCl [(mo, .inr (11, [.ref to, .ref ke, .ref ik, .ref mrf, .long mab, .long mbl, .ref ha, .ref r0, .ref mbr, .ref mbp, .ref mby, .int (nI bl), .int (nI j91), .int 0, .int 1, .int 0, .ref an, .ref va])), (mby, .inl (y 0, 150, .inl fmb))] H := hP
              have hD : va_D A [(mo, .inr (11, [.ref to, .ref ke, .ref ik, .ref mrf, .long mab, .long mbl, .ref ha, .ref r0, .ref mbr, .ref mbp, .ref mby, .int (nI bl), .int (nI j91), .int 0, .int 1, .int 0, .ref an, .ref va])), (mby, .inl (y 0, 150, .inl fmb))] := hD
              refine lv_aload_n hx hb dX11_lookAt_117 rfl (lv_at hl 1 rfl) ?_
              refine lv_iconst (v := 1) hx hb dX11_lookAt_118 (by decide) ?_
              refine va_put (D := D) (ci := 11) (v := .int 1) (ty := .int) (C := RX11) (T := TX11) (N := 18) hx hb hts iw11 tyX11 tyX11_ok nmX11 hown hK hP hD hS 0 rfl rfl 13 (by decide) fw3 (fun _ h9 => h9) rfl (by decide +kernel) rfl rfl (Nat.le_of_ble_eq_true rfl) dX11_lookAt_119 (fun H locs hP hD hS => ?_)
              have hP : va_P D vwCl [(mo, .inr (11, [.ref to, .ref ke, .ref ik, .ref mrf, .long mab, .long mbl, .ref ha, .ref r0, .ref mbr, .ref mbp, .ref mby, .int (nI bl), .int (nI j91), .int 1, .int 1, .int 0, .ref an, .ref va])), (mby, .inl (y 0, 150, .inl fmb))] H := hP
              have hD : va_D A [(mo, .inr (11, [.ref to, .ref ke, .ref ik, .ref mrf, .long mab, .long mbl, .ref ha, .ref r0, .ref mbr, .ref mbp, .ref mby, .int (nI bl), .int (nI j91), .int 1, .int 1, .int 0, .ref an, .ref va])), (mby, .inl (y 0, 150, .inl fmb))] := hD
              refine lv_aload_n hx hb dX11_lookAt_122 rfl (lv_at hl 1 rfl) ?_
              refine va_get (D := D) (ci := 11) (v := .int 1) (C := RX11) (T := TX11) (N := 18) hx hb hts iw11 hown hK hP 0 rfl rfl 14 (by decide) fw4 (fun _ h9 => h9) rfl dX11_lookAt_123 ?_
              refine lv_iconst (v := 3) hx hb dX11_lookAt_126 (by decide) ?_
              refine lv_icmp_ge (tgt := 134) hx hb dX11_lookAt_127 (by decide) (fun h9 => absurd h9 (by decide)) (fun _ => ?_)
              refine lv_iconst (v := 1) hx hb dX11_lookAt_130 (by decide) ?_
              refine lv_goto (tgt := 135) hx hb dX11_lookAt_131 (by decide) ?_
              refine lv_istore_n (lv' := [(3, .int 1), (2, .int (fmb j91)), (0, .ref mo), (1, .int (nI k))]) hx hb dX11_lookAt_135 rfl hl (by decide) rfl (fun ls hl => ?_)
              have lp1040 : ∀ (fu92 : Nat) (x1013 : Nat) (x1014 : Nat) (H : Heap) (locs : List Loc) (ls : Array Slot), (bl - j91 - x1014) + x1013 < fu92 → x1013 ≤ 1 → x1014 ≤ 150 → j91 + x1014 ≤ bl → 1 ≤ x1014 → va_P D vwCl [(mo, .inr (11, [.ref to, .ref ke, .ref ik, .ref mrf, .long mab, .long mbl, .ref ha, .ref r0, .ref mbr, .ref mbp, .ref mby, .int (nI bl), .int (nI j91), .int (nI x1014), .int 1, .int 0, .ref an, .ref va])), (mby, .inl (y 0, 150, .inl fmb))] H → va_D A [(mo, .inr (11, [.ref to, .ref ke, .ref ik, .ref mrf, .long mab, .long mbl, .ref ha, .ref r0, .ref mbr, .ref mbp, .ref mby, .int (nI bl), .int (nI j91), .int (nI x1014), .int 1, .int 0, .ref an, .ref va])), (mby, .inl (y 0, 150, .inl fmb))] → va_S A s.heap H locs → lv_has ls 5 [(3, .int (nI x1013)), (2, .int (fmb j91)), (0, .ref mo), (1, .int (nI k))] → W pZ l eZ ({ frames := 3, cells := 0, slots := 0, locals := 105 }) s mZ [.ref mo, .int (nI k)].toArray beZ meZ cZ H locs 0 0 (MQ beZ (va_Qv (fun (u : Nat × Nat × Nat × Int32) => u.1 ≤ bl ∧ u.2.1 ≤ 150 ∧ u.2.2.1 ≤ 4 ∧ k ≤ u.1 ∧ u.1 + u.2.1 ≤ bl ∧ (u.2.2.1 = 0 ∨ 1 ≤ u.2.1)) (kw_B D (fun u => [(mo, .inr (11, [.ref to, .ref ke, .ref ik, .ref mrf, .long mab, .long mbl, .ref ha, .ref r0, .ref mbr, .ref mbp, .ref mby, .int (nI bl), .int (nI u.1), .int (nI u.2.1), .int (nI u.2.2.1), .int u.2.2.2, .ref an, .ref va])), (mby, .inl (y 0, 150, .inl fmb))]) A) A) [.ref mo, .int (nI k)].toArray s 0 0 A) (F0 mZ 136 ls []) := by
                intro fu92
                induction fu92 with
                | zero => intro x1013 x1014 H locs ls hf9; exact absurd hf9 (Nat.not_lt_zero _)
                | succ fu92 ihfu92 =>
                  intro x1013 x1014 H locs ls hffu92 hn_x1013 hn_x1014 hJ0_fu92 hJ1_fu92 hP hD hS hl
                  refine lv_iload_n hx hb dX11_lookAt_136 rfl (lv_at hl 0 rfl) ?_
                  refine lv_if_eq (tgt := 215) hx hb dX11_lookAt_137 (by decide) (fun h1041 => ?_) (fun h1042 => ?_)
                  · skip
                    have h1041 : x1013 = 0 := (nI_eq (a := x1013) (b := 0) (by omega) (by omega)).mp h1041
                    refine lv_iconst (v := 0) hx hb dX11_lookAt_215 (by decide) ?_
                    refine lv_istore (lv' := [(4, .int 0), (3, .int (nI x1013)), (2, .int (fmb j91)), (0, .ref mo), (1, .int (nI k))]) hx hb dX11_lookAt_216 hl (by decide) rfl (fun ls hl => ?_)
                    have lp1047 : ∀ (fuj93 j93 : Nat)  (H : Heap) (locs : List Loc) (ls : Array Slot), j93 ≤ x1014 → x1014 - j93 < fuj93 → va_P D vwCl [(mo, .inr (11, [.ref to, .ref ke, .ref ik, .ref mrf, .long mab, .long mbl, .ref ha, .ref r0, .ref mbr, .ref mbp, .ref mby, .int (nI bl), .int (nI j91), .int (nI x1014), .int 1, .int 0, .ref an, .ref va])), (mby, .inl (y 0, 150, .inl fmb))] H → va_D A [(mo, .inr (11, [.ref to, .ref ke, .ref ik, .ref mrf, .long mab, .long mbl, .ref ha, .ref r0, .ref mbr, .ref mbp, .ref mby, .int (nI bl), .int (nI j91), .int (nI x1014), .int 1, .int 0, .ref an, .ref va])), (mby, .inl (y 0, 150, .inl fmb))] → va_S A s.heap H locs → lv_has ls 5 [(4, .int (nI j93)), (3, .int (nI x1013)), (2, .int (fmb j91)), (0, .ref mo), (1, .int (nI k))] → W pZ l eZ ({ frames := 3, cells := 0, slots := 0, locals := 105 }) s mZ [.ref mo, .int (nI k)].toArray beZ meZ cZ H locs 0 0 (MQ beZ (va_Qv (fun (u : Nat × Nat × Nat × Int32) => u.1 ≤ bl ∧ u.2.1 ≤ 150 ∧ u.2.2.1 ≤ 4 ∧ k ≤ u.1 ∧ u.1 + u.2.1 ≤ bl ∧ (u.2.2.1 = 0 ∨ 1 ≤ u.2.1)) (kw_B D (fun u => [(mo, .inr (11, [.ref to, .ref ke, .ref ik, .ref mrf, .long mab, .long mbl, .ref ha, .ref r0, .ref mbr, .ref mbp, .ref mby, .int (nI bl), .int (nI u.1), .int (nI u.2.1), .int (nI u.2.2.1), .int u.2.2.2, .ref an, .ref va])), (mby, .inl (y 0, 150, .inl fmb))]) A) A) [.ref mo, .int (nI k)].toArray s 0 0 A) (F0 mZ 218 ls []) := by
                      intro fuj93
                      induction fuj93 with
                      | zero => intro j93  H locs ls hj9 hf9; exact absurd hf9 (Nat.not_lt_zero _)
                      | succ fuj93 ihj93 =>
                        intro j93  H locs ls hj93 hfj93  hP hD hS hl
                        refine lv_iload hx hb dX11_lookAt_218 (lv_at hl 0 rfl) ?_
                        refine lv_aload_n hx hb dX11_lookAt_220 rfl (lv_at hl 3 rfl) ?_
                        refine va_get (D := D) (ci := 11) (v := .int (nI x1014)) (C := RX11) (T := TX11) (N := 18) hx hb hts iw11 hown hK hP 0 rfl rfl 13 (by decide) fw3 (fun _ h9 => h9) rfl dX11_lookAt_221 ?_
                        refine lv_icmp_ge (tgt := 274) hx hb dX11_lookAt_224 (by decide) (fun h1048 => ?_) (fun h1049 => ?_)
                        · skip
                          have h1048 : x1014 ≤ j93 := (nI_leI (a := x1014) (b := j93) (by omega) (by omega)).mp h1048
                          refine lv_aload_n hx hb dX11_lookAt_274 rfl (lv_at hl 3 rfl) ?_
                          refine lv_aload_n hx hb dX11_lookAt_275 rfl (lv_at hl 3 rfl) ?_
                          refine va_get (D := D) (ci := 11) (v := .int 1) (C := RX11) (T := TX11) (N := 18) hx hb hts iw11 hown hK hP 0 rfl rfl 14 (by decide) fw4 (fun _ h9 => h9) rfl dX11_lookAt_276 ?_
                          refine lv_iconst (v := 2) hx hb dX11_lookAt_279 (by decide) ?_
                          refine lv_icmp_ne (tgt := 295) hx hb dX11_lookAt_280 (by decide) (fun _ => ?_) (fun h9 => absurd h9 (by decide))
                          refine lv_aload_n hx hb dX11_lookAt_295 rfl (lv_at hl 3 rfl) ?_
                          refine va_get (D := D) (ci := 11) (v := .int 1) (C := RX11) (T := TX11) (N := 18) hx hb hts iw11 hown hK hP 0 rfl rfl 14 (by decide) fw4 (fun _ h9 => h9) rfl dX11_lookAt_296 ?_
                          refine va_put (D := D) (ci := 11) (v := .int 1) (ty := .int) (C := RX11) (T := TX11) (N := 18) hx hb hts iw11 tyX11 tyX11_ok nmX11 hown hK hP hD hS 0 rfl rfl 14 (by decide) fw4 (fun _ h9 => h9) rfl (by decide +kernel) rfl rfl (Nat.le_of_ble_eq_true rfl) dX11_lookAt_299 (fun H locs hP hD hS => ?_)
                          have hP : va_P D vwCl [(mo, .inr (11, [.ref to, .ref ke, .ref ik, .ref mrf, .long mab, .long mbl, .ref ha, .ref r0, .ref mbr, .ref mbp, .ref mby, .int (nI bl), .int (nI j91), .int (nI x1014), .int 1, .int 0, .ref an, .ref va])), (mby, .inl (y 0, 150, .inl fmb))] H := hP
                          have hD : va_D A [(mo, .inr (11, [.ref to, .ref ke, .ref ik, .ref mrf, .long mab, .long mbl, .ref ha, .ref r0, .ref mbr, .ref mbp, .ref mby, .int (nI bl), .int (nI j91), .int (nI x1014), .int 1, .int 0, .ref an, .ref va])), (mby, .inl (y 0, 150, .inl fmb))] := hD
                          exact W.vret hx hb hr (fun tZ ht hW => ⟨⟨(j91, x1014, 1, 0), rfl, ⟨by first | omega | (dsimp only; omega), by first | omega | (dsimp only; omega), by first | omega | (dsimp only; omega), by first | omega | (dsimp only; omega), by first | omega | (dsimp only; omega), by first | omega | (dsimp only; omega)⟩, by rw [ht]; exact hP.sub [0, 1] rfl, hD.sub [0, 1] (by decide) rfl⟩, hS.F ht⟩) hS.2.2 dX11_lookAt_302
                        · skip
                          have h1049 : ¬ x1014 ≤ j93 := fun q9 => h1049 ((nI_leI (a := x1014) (b := j93) (by omega) (by omega)).mpr q9)
                          refine lv_iload hx hb dX11_lookAt_227 (lv_at hl 0 rfl) ?_
                          refine lv_iconst (v := 2) hx hb dX11_lookAt_229 (by decide) ?_
                          refine lv_icmp_ge (tgt := 274) hx hb dX11_lookAt_230 (by decide) (fun h1050 => ?_) (fun h1051 => ?_)
                          · skip
                            have h1050 : 2 ≤ j93 := (nI_leI (a := 2) (b := j93) (by omega) (by omega)).mp h1050
                            refine lv_aload_n hx hb dX11_lookAt_274 rfl (lv_at hl 3 rfl) ?_
                            refine lv_aload_n hx hb dX11_lookAt_275 rfl (lv_at hl 3 rfl) ?_
                            refine va_get (D := D) (ci := 11) (v := .int 1) (C := RX11) (T := TX11) (N := 18) hx hb hts iw11 hown hK hP 0 rfl rfl 14 (by decide) fw4 (fun _ h9 => h9) rfl dX11_lookAt_276 ?_
                            refine lv_iconst (v := 2) hx hb dX11_lookAt_279 (by decide) ?_
                            refine lv_icmp_ne (tgt := 295) hx hb dX11_lookAt_280 (by decide) (fun _ => ?_) (fun h9 => absurd h9 (by decide))
                            refine lv_aload_n hx hb dX11_lookAt_295 rfl (lv_at hl 3 rfl) ?_
                            refine va_get (D := D) (ci := 11) (v := .int 1) (C := RX11) (T := TX11) (N := 18) hx hb hts iw11 hown hK hP 0 rfl rfl 14 (by decide) fw4 (fun _ h9 => h9) rfl dX11_lookAt_296 ?_
                            refine va_put (D := D) (ci := 11) (v := .int 1) (ty := .int) (C := RX11) (T := TX11) (N := 18) hx hb hts iw11 tyX11 tyX11_ok nmX11 hown hK hP hD hS 0 rfl rfl 14 (by decide) fw4 (fun _ h9 => h9) rfl (by decide +kernel) rfl rfl (Nat.le_of_ble_eq_true rfl) dX11_lookAt_299 (fun H locs hP hD hS => ?_)
                            have hP : va_P D vwCl [(mo, .inr (11, [.ref to, .ref ke, .ref ik, .ref mrf, .long mab, .long mbl, .ref ha, .ref r0, .ref mbr, .ref mbp, .ref mby, .int (nI bl), .int (nI j91), .int (nI x1014), .int 1, .int 0, .ref an, .ref va])), (mby, .inl (y 0, 150, .inl fmb))] H := hP
                            have hD : va_D A [(mo, .inr (11, [.ref to, .ref ke, .ref ik, .ref mrf, .long mab, .long mbl, .ref ha, .ref r0, .ref mbr, .ref mbp, .ref mby, .int (nI bl), .int (nI j91), .int (nI x1014), .int 1, .int 0, .ref an, .ref va])), (mby, .inl (y 0, 150, .inl fmb))] := hD
                            exact W.vret hx hb hr (fun tZ ht hW => ⟨⟨(j91, x1014, 1, 0), rfl, ⟨by first | omega | (dsimp only; omega), by first | omega | (dsimp only; omega), by first | omega | (dsimp only; omega), by first | omega | (dsimp only; omega), by first | omega | (dsimp only; omega), by first | omega | (dsimp only; omega)⟩, by rw [ht]; exact hP.sub [0, 1] rfl, hD.sub [0, 1] (by decide) rfl⟩, hS.F ht⟩) hS.2.2 dX11_lookAt_302
                          · skip
                            have h1051 : ¬ 2 ≤ j93 := fun q9 => h1051 ((nI_leI (a := 2) (b := j93) (by omega) (by omega)).mpr q9)
                            refine lv_aload_n hx hb dX11_lookAt_233 rfl (lv_at hl 3 rfl) ?_
                            refine va_get (D := D) (ci := 11) (v := .int 1) (C := RX11) (T := TX11) (N := 18) hx hb hts iw11 hown hK hP 0 rfl rfl 14 (by decide) fw4 (fun _ h9 => h9) rfl dX11_lookAt_234 ?_
                            refine lv_iconst (v := 2) hx hb dX11_lookAt_237 (by decide) ?_
                            refine lv_icmp_ne (tgt := 274) hx hb dX11_lookAt_238 (by decide) (fun _ => ?_) (fun h9 => absurd h9 (by decide))
                            refine lv_aload_n hx hb dX11_lookAt_274 rfl (lv_at hl 3 rfl) ?_
                            refine lv_aload_n hx hb dX11_lookAt_275 rfl (lv_at hl 3 rfl) ?_
                            refine va_get (D := D) (ci := 11) (v := .int 1) (C := RX11) (T := TX11) (N := 18) hx hb hts iw11 hown hK hP 0 rfl rfl 14 (by decide) fw4 (fun _ h9 => h9) rfl dX11_lookAt_276 ?_
                            refine lv_iconst (v := 2) hx hb dX11_lookAt_279 (by decide) ?_
                            refine lv_icmp_ne (tgt := 295) hx hb dX11_lookAt_280 (by decide) (fun _ => ?_) (fun h9 => absurd h9 (by decide))
                            refine lv_aload_n hx hb dX11_lookAt_295 rfl (lv_at hl 3 rfl) ?_
                            refine va_get (D := D) (ci := 11) (v := .int 1) (C := RX11) (T := TX11) (N := 18) hx hb hts iw11 hown hK hP 0 rfl rfl 14 (by decide) fw4 (fun _ h9 => h9) rfl dX11_lookAt_296 ?_
                            refine va_put (D := D) (ci := 11) (v := .int 1) (ty := .int) (C := RX11) (T := TX11) (N := 18) hx hb hts iw11 tyX11 tyX11_ok nmX11 hown hK hP hD hS 0 rfl rfl 14 (by decide) fw4 (fun _ h9 => h9) rfl (by decide +kernel) rfl rfl (Nat.le_of_ble_eq_true rfl) dX11_lookAt_299 (fun H locs hP hD hS => ?_)
                            have hP : va_P D vwCl [(mo, .inr (11, [.ref to, .ref ke, .ref ik, .ref mrf, .long mab, .long mbl, .ref ha, .ref r0, .ref mbr, .ref mbp, .ref mby, .int (nI bl), .int (nI j91), .int (nI x1014), .int 1, .int 0, .ref an, .ref va])), (mby, .inl (y 0, 150, .inl fmb))] H := hP
                            have hD : va_D A [(mo, .inr (11, [.ref to, .ref ke, .ref ik, .ref mrf, .long mab, .long mbl, .ref ha, .ref r0, .ref mbr, .ref mbp, .ref mby, .int (nI bl), .int (nI j91), .int (nI x1014), .int 1, .int 0, .ref an, .ref va])), (mby, .inl (y 0, 150, .inl fmb))] := hD
                            exact W.vret hx hb hr (fun tZ ht hW => ⟨⟨(j91, x1014, 1, 0), rfl, ⟨by first | omega | (dsimp only; omega), by first | omega | (dsimp only; omega), by first | omega | (dsimp only; omega), by first | omega | (dsimp only; omega), by first | omega | (dsimp only; omega), by first | omega | (dsimp only; omega)⟩, by rw [ht]; exact hP.sub [0, 1] rfl, hD.sub [0, 1] (by decide) rfl⟩, hS.F ht⟩) hS.2.2 dX11_lookAt_302
                    exact lp1047 (x1014 + 1) 0  _ _ _ (by omega) (by omega)  hP hD hS (lv_sub hl [0, 1, 2, 3, 4] rfl)
                  · skip
                    have h1042 : ¬ x1013 = 0 := fun q9 => h1042 ((nI_eq (a := x1013) (b := 0) (by omega) (by omega)).mpr q9)
                    refine lv_aload_n hx hb dX11_lookAt_140 rfl (lv_at hl 2 rfl) ?_
                    refine va_get (D := D) (ci := 11) (v := .int (nI j91)) (C := RX11) (T := TX11) (N := 18) hx hb hts iw11 hown hK hP 0 rfl rfl 12 (by decide) fw1 (fun _ h9 => h9) rfl dX11_lookAt_141 ?_
                    refine lv_aload_n hx hb dX11_lookAt_144 rfl (lv_at hl 2 rfl) ?_
                    refine va_get (D := D) (ci := 11) (v := .int (nI x1014)) (C := RX11) (T := TX11) (N := 18) hx hb hts iw11 hown hK hP 0 rfl rfl 13 (by decide) fw3 (fun _ h9 => h9) rfl dX11_lookAt_145 ?_
                    refine lv_iadd hx hb dX11_lookAt_148 ?_
                    rw [show (nI j91) + (nI x1014) = nI (j91 + x1014) from nI_add j91 x1014]
                    refine lv_aload_n hx hb dX11_lookAt_149 rfl (lv_at hl 2 rfl) ?_
                    refine va_get (D := D) (ci := 11) (v := .int (nI bl)) (C := RX11) (T := TX11) (N := 18) hx hb hts iw11 hown hK hP 0 rfl rfl 11 (by decide) fw2 (fun _ h9 => h9) rfl dX11_lookAt_150 ?_
                    refine lv_icmp_ge (tgt := 215) hx hb dX11_lookAt_153 (by decide) (fun h1052 => ?_) (fun h1053 => ?_)
                    · skip
                      have h1052 : bl ≤ (j91 + x1014) := (nI_leI (a := bl) (b := (j91 + x1014)) (by omega) (by omega)).mp h1052
                      refine lv_iconst (v := 0) hx hb dX11_lookAt_215 (by decide) ?_
                      refine lv_istore (lv' := [(4, .int 0), (3, .int (nI x1013)), (2, .int (fmb j91)), (0, .ref mo), (1, .int (nI k))]) hx hb dX11_lookAt_216 hl (by decide) rfl (fun ls hl => ?_)
                      have lp1058 : ∀ (fuj93 j93 : Nat)  (H : Heap) (locs : List Loc) (ls : Array Slot), j93 ≤ x1014 → x1014 - j93 < fuj93 → va_P D vwCl [(mo, .inr (11, [.ref to, .ref ke, .ref ik, .ref mrf, .long mab, .long mbl, .ref ha, .ref r0, .ref mbr, .ref mbp, .ref mby, .int (nI bl), .int (nI j91), .int (nI x1014), .int 1, .int 0, .ref an, .ref va])), (mby, .inl (y 0, 150, .inl fmb))] H → va_D A [(mo, .inr (11, [.ref to, .ref ke, .ref ik, .ref mrf, .long mab, .long mbl, .ref ha, .ref r0, .ref mbr, .ref mbp, .ref mby, .int (nI bl), .int (nI j91), .int (nI x1014), .int 1, .int 0, .ref an, .ref va])), (mby, .inl (y 0, 150, .inl fmb))] → va_S A s.heap H locs → lv_has ls 5 [(4, .int (nI j93)), (3, .int (nI x1013)), (2, .int (fmb j91)), (0, .ref mo), (1, .int (nI k))] → W pZ l eZ ({ frames := 3, cells := 0, slots := 0, locals := 105 }) s mZ [.ref mo, .int (nI k)].toArray beZ meZ cZ H locs 0 0 (MQ beZ (va_Qv (fun (u : Nat × Nat × Nat × Int32) => u.1 ≤ bl ∧ u.2.1 ≤ 150 ∧ u.2.2.1 ≤ 4 ∧ k ≤ u.1 ∧ u.1 + u.2.1 ≤ bl ∧ (u.2.2.1 = 0 ∨ 1 ≤ u.2.1)) (kw_B D (fun u => [(mo, .inr (11, [.ref to, .ref ke, .ref ik, .ref mrf, .long mab, .long mbl, .ref ha, .ref r0, .ref mbr, .ref mbp, .ref mby, .int (nI bl), .int (nI u.1), .int (nI u.2.1), .int (nI u.2.2.1), .int u.2.2.2, .ref an, .ref va])), (mby, .inl (y 0, 150, .inl fmb))]) A) A) [.ref mo, .int (nI k)].toArray s 0 0 A) (F0 mZ 218 ls []) := by
                        intro fuj93
                        induction fuj93 with
                        | zero => intro j93  H locs ls hj9 hf9; exact absurd hf9 (Nat.not_lt_zero _)
                        | succ fuj93 ihj93 =>
                          intro j93  H locs ls hj93 hfj93  hP hD hS hl
                          refine lv_iload hx hb dX11_lookAt_218 (lv_at hl 0 rfl) ?_
                          refine lv_aload_n hx hb dX11_lookAt_220 rfl (lv_at hl 3 rfl) ?_
                          refine va_get (D := D) (ci := 11) (v := .int (nI x1014)) (C := RX11) (T := TX11) (N := 18) hx hb hts iw11 hown hK hP 0 rfl rfl 13 (by decide) fw3 (fun _ h9 => h9) rfl dX11_lookAt_221 ?_
                          refine lv_icmp_ge (tgt := 274) hx hb dX11_lookAt_224 (by decide) (fun h1059 => ?_) (fun h1060 => ?_)
                          · skip
                            have h1059 : x1014 ≤ j93 := (nI_leI (a := x1014) (b := j93) (by omega) (by omega)).mp h1059
                            refine lv_aload_n hx hb dX11_lookAt_274 rfl (lv_at hl 3 rfl) ?_
                            refine lv_aload_n hx hb dX11_lookAt_275 rfl (lv_at hl 3 rfl) ?_
                            refine va_get (D := D) (ci := 11) (v := .int 1) (C := RX11) (T := TX11) (N := 18) hx hb hts iw11 hown hK hP 0 rfl rfl 14 (by decide) fw4 (fun _ h9 => h9) rfl dX11_lookAt_276 ?_
                            refine lv_iconst (v := 2) hx hb dX11_lookAt_279 (by decide) ?_
                            refine lv_icmp_ne (tgt := 295) hx hb dX11_lookAt_280 (by decide) (fun _ => ?_) (fun h9 => absurd h9 (by decide))
                            refine lv_aload_n hx hb dX11_lookAt_295 rfl (lv_at hl 3 rfl) ?_
                            refine va_get (D := D) (ci := 11) (v := .int 1) (C := RX11) (T := TX11) (N := 18) hx hb hts iw11 hown hK hP 0 rfl rfl 14 (by decide) fw4 (fun _ h9 => h9) rfl dX11_lookAt_296 ?_
                            refine va_put (D := D) (ci := 11) (v := .int 1) (ty := .int) (C := RX11) (T := TX11) (N := 18) hx hb hts iw11 tyX11 tyX11_ok nmX11 hown hK hP hD hS 0 rfl rfl 14 (by decide) fw4 (fun _ h9 => h9) rfl (by decide +kernel) rfl rfl (Nat.le_of_ble_eq_true rfl) dX11_lookAt_299 (fun H locs hP hD hS => ?_)
                            have hP : va_P D vwCl [(mo, .inr (11, [.ref to, .ref ke, .ref ik, .ref mrf, .long mab, .long mbl, .ref ha, .ref r0, .ref mbr, .ref mbp, .ref mby, .int (nI bl), .int (nI j91), .int (nI x1014), .int 1, .int 0, .ref an, .ref va])), (mby, .inl (y 0, 150, .inl fmb))] H := hP
                            have hD : va_D A [(mo, .inr (11, [.ref to, .ref ke, .ref ik, .ref mrf, .long mab, .long mbl, .ref ha, .ref r0, .ref mbr, .ref mbp, .ref mby, .int (nI bl), .int (nI j91), .int (nI x1014), .int 1, .int 0, .ref an, .ref va])), (mby, .inl (y 0, 150, .inl fmb))] := hD
                            exact W.vret hx hb hr (fun tZ ht hW => ⟨⟨(j91, x1014, 1, 0), rfl, ⟨by first | omega | (dsimp only; omega), by first | omega | (dsimp only; omega), by first | omega | (dsimp only; omega), by first | omega | (dsimp only; omega), by first | omega | (dsimp only; omega), by first | omega | (dsimp only; omega)⟩, by rw [ht]; exact hP.sub [0, 1] rfl, hD.sub [0, 1] (by decide) rfl⟩, hS.F ht⟩) hS.2.2 dX11_lookAt_302
                          · skip
                            have h1060 : ¬ x1014 ≤ j93 := fun q9 => h1060 ((nI_leI (a := x1014) (b := j93) (by omega) (by omega)).mpr q9)
                            refine lv_iload hx hb dX11_lookAt_227 (lv_at hl 0 rfl) ?_
                            refine lv_iconst (v := 2) hx hb dX11_lookAt_229 (by decide) ?_
                            refine lv_icmp_ge (tgt := 274) hx hb dX11_lookAt_230 (by decide) (fun h1061 => ?_) (fun h1062 => ?_)
                            · skip
                              have h1061 : 2 ≤ j93 := (nI_leI (a := 2) (b := j93) (by omega) (by omega)).mp h1061
                              refine lv_aload_n hx hb dX11_lookAt_274 rfl (lv_at hl 3 rfl) ?_
                              refine lv_aload_n hx hb dX11_lookAt_275 rfl (lv_at hl 3 rfl) ?_
                              refine va_get (D := D) (ci := 11) (v := .int 1) (C := RX11) (T := TX11) (N := 18) hx hb hts iw11 hown hK hP 0 rfl rfl 14 (by decide) fw4 (fun _ h9 => h9) rfl dX11_lookAt_276 ?_
                              refine lv_iconst (v := 2) hx hb dX11_lookAt_279 (by decide) ?_
                              refine lv_icmp_ne (tgt := 295) hx hb dX11_lookAt_280 (by decide) (fun _ => ?_) (fun h9 => absurd h9 (by decide))
                              refine lv_aload_n hx hb dX11_lookAt_295 rfl (lv_at hl 3 rfl) ?_
                              refine va_get (D := D) (ci := 11) (v := .int 1) (C := RX11) (T := TX11) (N := 18) hx hb hts iw11 hown hK hP 0 rfl rfl 14 (by decide) fw4 (fun _ h9 => h9) rfl dX11_lookAt_296 ?_
                              refine va_put (D := D) (ci := 11) (v := .int 1) (ty := .int) (C := RX11) (T := TX11) (N := 18) hx hb hts iw11 tyX11 tyX11_ok nmX11 hown hK hP hD hS 0 rfl rfl 14 (by decide) fw4 (fun _ h9 => h9) rfl (by decide +kernel) rfl rfl (Nat.le_of_ble_eq_true rfl) dX11_lookAt_299 (fun H locs hP hD hS => ?_)
                              have hP : va_P D vwCl [(mo, .inr (11, [.ref to, .ref ke, .ref ik, .ref mrf, .long mab, .long mbl, .ref ha, .ref r0, .ref mbr, .ref mbp, .ref mby, .int (nI bl), .int (nI j91), .int (nI x1014), .int 1, .int 0, .ref an, .ref va])), (mby, .inl (y 0, 150, .inl fmb))] H := hP
                              have hD : va_D A [(mo, .inr (11, [.ref to, .ref ke, .ref ik, .ref mrf, .long mab, .long mbl, .ref ha, .ref r0, .ref mbr, .ref mbp, .ref mby, .int (nI bl), .int (nI j91), .int (nI x1014), .int 1, .int 0, .ref an, .ref va])), (mby, .inl (y 0, 150, .inl fmb))] := hD
                              exact W.vret hx hb hr (fun tZ ht hW => ⟨⟨(j91, x1014, 1, 0), rfl, ⟨by first | omega | (dsimp only; omega), by first | omega | (dsimp only; omega), by first | omega | (dsimp only; omega), by first | omega | (dsimp only; omega), by first | omega | (dsimp only; omega), by first | omega | (dsimp only; omega)⟩, by rw [ht]; exact hP.sub [0, 1] rfl, hD.sub [0, 1] (by decide) rfl⟩, hS.F ht⟩) hS.2.2 dX11_lookAt_302
                            · skip
                              have h1062 : ¬ 2 ≤ j93 := fun q9 => h1062 ((nI_leI (a := 2) (b := j93) (by omega) (by omega)).mpr q9)
                              refine lv_aload_n hx hb dX11_lookAt_233 rfl (lv_at hl 3 rfl) ?_
                              refine va_get (D := D) (ci := 11) (v := .int 1) (C := RX11) (T := TX11) (N := 18) hx hb hts iw11 hown hK hP 0 rfl rfl 14 (by decide) fw4 (fun _ h9 => h9) rfl dX11_lookAt_234 ?_
                              refine lv_iconst (v := 2) hx hb dX11_lookAt_237 (by decide) ?_
                              refine lv_icmp_ne (tgt := 274) hx hb dX11_lookAt_238 (by decide) (fun _ => ?_) (fun h9 => absurd h9 (by decide))
                              refine lv_aload_n hx hb dX11_lookAt_274 rfl (lv_at hl 3 rfl) ?_
                              refine lv_aload_n hx hb dX11_lookAt_275 rfl (lv_at hl 3 rfl) ?_
                              refine va_get (D := D) (ci := 11) (v := .int 1) (C := RX11) (T := TX11) (N := 18) hx hb hts iw11 hown hK hP 0 rfl rfl 14 (by decide) fw4 (fun _ h9 => h9) rfl dX11_lookAt_276 ?_
                              refine lv_iconst (v := 2) hx hb dX11_lookAt_279 (by decide) ?_
                              refine lv_icmp_ne (tgt := 295) hx hb dX11_lookAt_280 (by decide) (fun _ => ?_) (fun h9 => absurd h9 (by decide))
                              refine lv_aload_n hx hb dX11_lookAt_295 rfl (lv_at hl 3 rfl) ?_
                              refine va_get (D := D) (ci := 11) (v := .int 1) (C := RX11) (T := TX11) (N := 18) hx hb hts iw11 hown hK hP 0 rfl rfl 14 (by decide) fw4 (fun _ h9 => h9) rfl dX11_lookAt_296 ?_
                              refine va_put (D := D) (ci := 11) (v := .int 1) (ty := .int) (C := RX11) (T := TX11) (N := 18) hx hb hts iw11 tyX11 tyX11_ok nmX11 hown hK hP hD hS 0 rfl rfl 14 (by decide) fw4 (fun _ h9 => h9) rfl (by decide +kernel) rfl rfl (Nat.le_of_ble_eq_true rfl) dX11_lookAt_299 (fun H locs hP hD hS => ?_)
                              have hP : va_P D vwCl [(mo, .inr (11, [.ref to, .ref ke, .ref ik, .ref mrf, .long mab, .long mbl, .ref ha, .ref r0, .ref mbr, .ref mbp, .ref mby, .int (nI bl), .int (nI j91), .int (nI x1014), .int 1, .int 0, .ref an, .ref va])), (mby, .inl (y 0, 150, .inl fmb))] H := hP
                              have hD : va_D A [(mo, .inr (11, [.ref to, .ref ke, .ref ik, .ref mrf, .long mab, .long mbl, .ref ha, .ref r0, .ref mbr, .ref mbp, .ref mby, .int (nI bl), .int (nI j91), .int (nI x1014), .int 1, .int 0, .ref an, .ref va])), (mby, .inl (y 0, 150, .inl fmb))] := hD
                              exact W.vret hx hb hr (fun tZ ht hW => ⟨⟨(j91, x1014, 1, 0), rfl, ⟨by first | omega | (dsimp only; omega), by first | omega | (dsimp only; omega), by first | omega | (dsimp only; omega), by first | omega | (dsimp only; omega), by first | omega | (dsimp only; omega), by first | omega | (dsimp only; omega)⟩, by rw [ht]; exact hP.sub [0, 1] rfl, hD.sub [0, 1] (by decide) rfl⟩, hS.F ht⟩) hS.2.2 dX11_lookAt_302
                      exact lp1058 (x1014 + 1) 0  _ _ _ (by omega) (by omega)  hP hD hS (lv_sub hl [0, 1, 2, 3, 4] rfl)
                    · skip
                      have h1053 : ¬ bl ≤ (j91 + x1014) := fun q9 => h1053 ((nI_leI (a := bl) (b := (j91 + x1014)) (by omega) (by omega)).mpr q9)
                      refine lv_aload_n hx hb dX11_lookAt_156 rfl (lv_at hl 2 rfl) ?_
                      refine va_get (D := D) (ci := 11) (v := .ref mby) (C := RX11) (T := TX11) (N := 18) hx hb hts iw11 hown hK hP 0 rfl rfl 10 (by decide) fw6 (fun _ h9 => h9) rfl dX11_lookAt_157 ?_
                      refine lv_aload_n hx hb dX11_lookAt_160 rfl (lv_at hl 2 rfl) ?_
                      refine va_get (D := D) (ci := 11) (v := .int (nI j91)) (C := RX11) (T := TX11) (N := 18) hx hb hts iw11 hown hK hP 0 rfl rfl 12 (by decide) fw1 (fun _ h9 => h9) rfl dX11_lookAt_161 ?_
                      refine lv_aload_n hx hb dX11_lookAt_164 rfl (lv_at hl 2 rfl) ?_
                      refine va_get (D := D) (ci := 11) (v := .int (nI x1014)) (C := RX11) (T := TX11) (N := 18) hx hb hts iw11 hown hK hP 0 rfl rfl 13 (by decide) fw3 (fun _ h9 => h9) rfl dX11_lookAt_165 ?_
                      refine lv_iadd hx hb dX11_lookAt_168 ?_
                      rw [show (nI j91) + (nI x1014) = nI (j91 + x1014) from nI_add j91 x1014]
                      refine va_iald hx hb hK hP 1 0 rfl rfl (vp_in_nI (by omega) (by decide)) dX11_lookAt_169 ?_
                      rw [nI_clamp (n := (j91 + x1014)) (by omega)]
                      refine lv_istore (lv' := [(4, .int (fmb (j91 + x1014))), (3, .int (nI x1013)), (2, .int (fmb j91)), (0, .ref mo), (1, .int (nI k))]) hx hb dX11_lookAt_170 hl (by decide) rfl (fun ls hl => ?_)
                      refine lv_aload_n hx hb dX11_lookAt_172 rfl (lv_at hl 3 rfl) ?_
                      refine va_get (D := D) (ci := 11) (v := .int 1) (C := RX11) (T := TX11) (N := 18) hx hb hts iw11 hown hK hP 0 rfl rfl 14 (by decide) fw4 (fun _ h9 => h9) rfl dX11_lookAt_173 ?_
                      refine lv_iconst (v := 1) hx hb dX11_lookAt_176 (by decide) ?_
                      refine lv_icmp_ne (tgt := 188) hx hb dX11_lookAt_177 (by decide) (fun h9 => absurd h9 (by decide)) (fun _ => ?_)
                      refine lv_iload hx hb dX11_lookAt_180 (lv_at hl 0 rfl) ?_
                      have hs1063 : kw_Split [(mo, .inr (11, [.ref to, .ref ke, .ref ik, .ref mrf, .long mab, .long mbl, .ref ha, .ref r0, .ref mbr, .ref mbp, .ref mby, .int (nI bl), .int (nI j91), .int (nI x1014), .int 1, .int 0, .ref an, .ref va])), (mby, .inl (y 0, 150, .inl fmb))] [] [(mo, .inr (11, [.ref to, .ref ke, .ref ik, .ref mrf, .long mab, .long mbl, .ref ha, .ref r0, .ref mbr, .ref mbp, .ref mby, .int (nI bl), .int (nI j91), .int (nI x1014), .int 1, .int 0, .ref an, .ref va])), (mby, .inl (y 0, 150, .inl fmb))] [] [0, 1] := ⟨rfl, rfl, rfl, rfl, rfl, by decide⟩
                      refine kw_go_i hs1063 hP hD hS hA (va_runS (As := [.int (fmb (j91 + x1014))]) (rest := []) ⟨hx, hb, hml, hown, hts⟩ (gr_isSmall l D y (fmb (j91 + x1014))  _) (va_cwS 1 hts gX11_lookAt_X11_isSmall rfl rfl rfl (by decide +kernel) ⟨Nat.le_of_ble_eq_true rfl, Nat.le_of_ble_eq_true rfl⟩) (kw_PreS hs1063 hP hD hK hN) rfl rfl hl.1 rfl (lv_room (Nat.le_of_ble_eq_true rfl)) dX11_lookAt_182 ⟨Nat.le_of_ble_eq_true rfl, Nat.le_of_ble_eq_true rfl⟩) (fun r1064 u1065 H locs hq hP hD hS => ?_)
                      obtain (rfl | rfl) := hq
                      · skip
                        have hP : va_P D vwCl [(mo, .inr (11, [.ref to, .ref ke, .ref ik, .ref mrf, .long mab, .long mbl, .ref ha, .ref r0, .ref mbr, .ref mbp, .ref mby, .int (nI bl), .int (nI j91), .int (nI x1014), .int 1, .int 0, .ref an, .ref va])), (mby, .inl (y 0, 150, .inl fmb))] H := hP
                        have hD : va_D A [(mo, .inr (11, [.ref to, .ref ke, .ref ik, .ref mrf, .long mab, .long mbl, .ref ha, .ref r0, .ref mbr, .ref mbp, .ref mby, .int (nI bl), .int (nI j91), .int (nI x1014), .int 1, .int 0, .ref an, .ref va])), (mby, .inl (y 0, 150, .inl fmb))] := hD
                        refine lv_goto (tgt := 193) hx hb dX11_lookAt_185 (by decide) ?_
                        refine lv_istore_n (lv' := [(3, .int 0), (4, .int (fmb (j91 + x1014))), (2, .int (fmb j91)), (0, .ref mo), (1, .int (nI k))]) hx hb dX11_lookAt_193 rfl hl (by decide) rfl (fun ls hl => ?_)
                        refine lv_aload_n hx hb dX11_lookAt_194 rfl (lv_at hl 3 rfl) ?_
                        refine lv_dup hx hb dX11_lookAt_195 rfl ?_
                        refine va_get (D := D) (ci := 11) (v := .int (nI x1014)) (C := RX11) (T := TX11) (N := 18) hx hb hts iw11 hown hK hP 0 rfl rfl 13 (by decide) fw3 (fun _ h9 => h9) rfl dX11_lookAt_196 ?_
                        refine lv_iload_n hx hb dX11_lookAt_199 rfl (lv_at hl 0 rfl) ?_
                        refine lv_if_eq (tgt := 207) hx hb dX11_lookAt_200 (by decide) (fun _ => ?_) (fun h9 => absurd h9 (by decide))
                        refine lv_iconst (v := 0) hx hb dX11_lookAt_207 (by decide) ?_
                        refine lv_iadd hx hb dX11_lookAt_208 ?_
                        rw [show (nI x1014) + 0 = nI (x1014) from nI_add x1014 0]
                        refine va_put (D := D) (ci := 11) (v := .int (nI x1014)) (ty := .int) (C := RX11) (T := TX11) (N := 18) hx hb hts iw11 tyX11 tyX11_ok nmX11 hown hK hP hD hS 0 rfl rfl 13 (by decide) fw3 (fun _ h9 => h9) rfl (by decide +kernel) rfl rfl (Nat.le_of_ble_eq_true rfl) dX11_lookAt_209 (fun H locs hP hD hS => ?_)
                        have hP : va_P D vwCl [(mo, .inr (11, [.ref to, .ref ke, .ref ik, .ref mrf, .long mab, .long mbl, .ref ha, .ref r0, .ref mbr, .ref mbp, .ref mby, .int (nI bl), .int (nI j91), .int (nI x1014), .int 1, .int 0, .ref an, .ref va])), (mby, .inl (y 0, 150, .inl fmb))] H := hP
                        have hD : va_D A [(mo, .inr (11, [.ref to, .ref ke, .ref ik, .ref mrf, .long mab, .long mbl, .ref ha, .ref r0, .ref mbr, .ref mbp, .ref mby, .int (nI bl), .int (nI j91), .int (nI x1014), .int 1, .int 0, .ref an, .ref va])), (mby, .inl (y 0, 150, .inl fmb))] := hD
                        refine lv_goto (tgt := 136) hx hb dX11_lookAt_212 (by decide) ?_
                        exact ihfu92 0 x1014 H locs ls (by omega) (by omega) (by omega) (by omega) (by omega) (hP.sub [0, 1] rfl) (hD.sub [0, 1] (by decide) rfl) hS (lv_sub hl [0, 2, 3, 4] rfl)
                      · skip
                        have hP : va_P D vwCl [(mo, .inr (11, [.ref to, .ref ke, .ref ik, .ref mrf, .long mab, .long mbl, .ref ha, .ref r0, .ref mbr, .ref mbp, .ref mby, .int (nI bl), .int (nI j91), .int (nI x1014), .int 1, .int 0, .ref an, .ref va])), (mby, .inl (y 0, 150, .inl fmb))] H := hP
                        have hD : va_D A [(mo, .inr (11, [.ref to, .ref ke, .ref ik, .ref mrf, .long mab, .long mbl, .ref ha, .ref r0, .ref mbr, .ref mbp, .ref mby, .int (nI bl), .int (nI j91), .int (nI x1014), .int 1, .int 0, .ref an, .ref va])), (mby, .inl (y 0, 150, .inl fmb))] := hD
                        refine lv_goto (tgt := 193) hx hb dX11_lookAt_185 (by decide) ?_
                        refine lv_istore_n (lv' := [(3, .int 1), (4, .int (fmb (j91 + x1014))), (2, .int (fmb j91)), (0, .ref mo), (1, .int (nI k))]) hx hb dX11_lookAt_193 rfl hl (by decide) rfl (fun ls hl => ?_)
                        refine lv_aload_n hx hb dX11_lookAt_194 rfl (lv_at hl 3 rfl) ?_
                        refine lv_dup hx hb dX11_lookAt_195 rfl ?_
                        refine va_get (D := D) (ci := 11) (v := .int (nI x1014)) (C := RX11) (T := TX11) (N := 18) hx hb hts iw11 hown hK hP 0 rfl rfl 13 (by decide) fw3 (fun _ h9 => h9) rfl dX11_lookAt_196 ?_
                        refine lv_iload_n hx hb dX11_lookAt_199 rfl (lv_at hl 0 rfl) ?_
                        refine lv_if_eq (tgt := 207) hx hb dX11_lookAt_200 (by decide) (fun h9 => absurd h9 (by decide)) (fun _ => ?_)
                        refine lv_iconst (v := 1) hx hb dX11_lookAt_203 (by decide) ?_
                        refine lv_goto (tgt := 208) hx hb dX11_lookAt_204 (by decide) ?_
                        refine lv_iadd hx hb dX11_lookAt_208 ?_
                        rw [show (nI x1014) + 1 = nI (x1014 + 1) from nI_add x1014 1]
                        refine va_put (D := D) (ci := 11) (v := .int (nI (x1014 + 1))) (ty := .int) (C := RX11) (T := TX11) (N := 18) hx hb hts iw11 tyX11 tyX11_ok nmX11 hown hK hP hD hS 0 rfl rfl 13 (by decide) fw3 (fun _ h9 => h9) rfl (by decide +kernel) rfl rfl (Nat.le_of_ble_eq_true rfl) dX11_lookAt_209 (fun H locs hP hD hS => ?_)
                        have hP : va_P D vwCl [(mo, .inr (11, [.ref to, .ref ke, .ref ik, .ref mrf, .long mab, .long mbl, .ref ha, .ref r0, .ref mbr, .ref mbp, .ref mby, .int (nI bl), .int (nI j91), .int (nI (x1014 + 1)), .int 1, .int 0, .ref an, .ref va])), (mby, .inl (y 0, 150, .inl fmb))] H := hP
                        have hD : va_D A [(mo, .inr (11, [.ref to, .ref ke, .ref ik, .ref mrf, .long mab, .long mbl, .ref ha, .ref r0, .ref mbr, .ref mbp, .ref mby, .int (nI bl), .int (nI j91), .int (nI (x1014 + 1)), .int 1, .int 0, .ref an, .ref va])), (mby, .inl (y 0, 150, .inl fmb))] := hD
                        refine lv_goto (tgt := 136) hx hb dX11_lookAt_212 (by decide) ?_
                        exact ihfu92 1 (x1014 + 1) H locs ls (by omega) (by omega) (by omega) (by omega) (by omega) (hP.sub [0, 1] rfl) (hD.sub [0, 1] (by decide) rfl) hS (lv_sub hl [0, 2, 3, 4] rfl)
              exact lp1040 _ 1 1 _ _ _ (Nat.lt_succ_self _) (by omega) (by omega) (by omega) (by omega) hP hD hS (lv_sub hl [0, 1, 2, 3] rfl)
          · skip
            have h803 : j91 = bl := (nI_eq (a := j91) (b := bl) (by omega) (by omega)).mp h803
            exact W.vret hx hb hr (fun tZ ht hW => ⟨⟨(j91, 0, 0, 0), rfl, ⟨by first | omega | (dsimp only; omega), by first | omega | (dsimp only; omega), by first | omega | (dsimp only; omega), by first | omega | (dsimp only; omega), by first | omega | (dsimp only; omega), by first | omega | (dsimp only; omega)⟩, by rw [ht]; exact hP.sub [0, 1] rfl, hD.sub [0, 1] (by decide) rfl⟩, hS.F ht⟩) hS.2.2 dX11_lookAt_69
        · skip
          refine lv_aload_n hx hb dX11_lookAt_30 rfl (lv_at hl 0 rfl) ?_
          refine lv_dup hx hb dX11_lookAt_31 rfl ?_
          refine va_get (D := D) (ci := 11) (v := .int (nI j91)) (C := RX11) (T := TX11) (N := 18) hx hb hts iw11 hown hK hP 0 rfl rfl 12 (by decide) fw1 (fun _ h9 => h9) rfl dX11_lookAt_32 ?_
          refine lv_iconst (v := 1) hx hb dX11_lookAt_35 (by decide) ?_
          refine lv_iadd hx hb dX11_lookAt_36 ?_
          rw [show (nI j91) + 1 = nI (j91 + 1) from nI_add j91 1]
          refine va_put (D := D) (ci := 11) (v := .int (nI (j91 + 1))) (ty := .int) (C := RX11) (T := TX11) (N := 18) hx hb hts iw11 tyX11 tyX11_ok nmX11 hown hK hP hD hS 0 rfl rfl 12 (by decide) fw1 (fun _ h9 => h9) rfl (by decide +kernel) rfl rfl (Nat.le_of_ble_eq_true rfl) dX11_lookAt_37 (fun H locs hP hD hS => ?_)
          have hP : va_P D vwCl [(mo, .inr (11, [.ref to, .ref ke, .ref ik, .ref mrf, .long mab, .long mbl, .ref ha, .ref r0, .ref mbr, .ref mbp, .ref mby, .int (nI bl), .int (nI (j91 + 1)), .int (nI tl), .int (nI tk), .int vv, .ref an, .ref va])), (mby, .inl (y 0, 150, .inl fmb))] H := hP
          have hD : va_D A [(mo, .inr (11, [.ref to, .ref ke, .ref ik, .ref mrf, .long mab, .long mbl, .ref ha, .ref r0, .ref mbr, .ref mbp, .ref mby, .int (nI bl), .int (nI (j91 + 1)), .int (nI tl), .int (nI tk), .int vv, .ref an, .ref va])), (mby, .inl (y 0, 150, .inl fmb))] := hD
          refine lv_goto (tgt := 5) hx hb dX11_lookAt_40 (by decide) ?_
          exact ihj91 (j91 + 1)  H locs ls (by omega) (by omega) (by omega) (hP.sub [0, 1] rfl) (hD.sub [0, 1] (by decide) rfl) hS (lv_sub hl [0, 1] rfl)
  exact lp533 (bl + 1) k  _ _ _ (by omega) (by omega) (by omega) hP hD hS (lv_sub hl [0, 1] rfl)
