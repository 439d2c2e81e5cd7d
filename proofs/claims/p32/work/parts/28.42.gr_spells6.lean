set_option maxHeartbeats 4000000 in
set_option maxRecDepth 100000 in
theorem gr_spells6 (l : Launch) (D : va_G) (y : Nat → ClassId) (mo : Nat) (to : Nat) (ke : Nat) (ik : Nat) (mrf : Nat) (ha : Nat) (r0 : Nat) (mbr : Nat) (mbp : Nat) (mby : Nat) (an : Nat) (va : Nat) (mab : Int64) (mbl : Int64) (bl : Nat) (ta : Nat) (tl : Nat) (tk : Nat) (vv : Int32) (fmb : Nat → Int32) (x : Int32) (x2 : Int32) (x3 : Int32) (x4 : Int32) (x5 : Int32) (x6 : Int32) (hbl : bl ≤ 150) (hT1 : ta + tl ≤ bl) (hT2 : (tk = 0 ∨ 1 ≤ tl)) (hT3 : tk ≤ 4) : kw_Mi l yX11_spells wsX11_spells ({ frames := 1, cells := 0, slots := 0, locals := 60 }) D y [.ref mo, .int 6, .int x, .int x2, .int x3, .int x4, .int x5, .int x6] [(mo, .inr (11, [.ref to, .ref ke, .ref ik, .ref mrf, .long mab, .long mbl, .ref ha, .ref r0, .ref mbr, .ref mbp, .ref mby, .int (nI bl), .int (nI ta), .int (nI tl), .int (nI tk), .int vv, .ref an, .ref va])), (mby, .inl (y 0, 150, .inl fmb))] (fun (r : Int32) (u : Unit) => (r = 0 ∨ r = 1)) (fun _ => [(mo, .inr (11, [.ref to, .ref ke, .ref ik, .ref mrf, .long mab, .long mbl, .ref ha, .ref r0, .ref mbr, .ref mbp, .ref mby, .int (nI bl), .int (nI ta), .int (nI tl), .int (nI tk), .int vv, .ref an, .ref va])), (mby, .inl (y 0, 150, .inl fmb))]) 0 0 := by
  refine kw_Mi.of (cc := cX11_spells) (maxL := 10) (ret := (some .boolean)) (by decide) rfl ?_
  intro pZ eZ s mZ beZ meZ cZ A hE
  obtain ⟨hx, hb, hr, hml, hts, hown, hlocks, hin, hA, hP, hD, hK, hN⟩ := hE
  have hS : va_S A s.heap s.heap [] := va_S.rf
  have hl := lv_entry ([.ref mo, .int 6, .int x, .int x2, .int x3, .int x4, .int x5, .int x6]) (n := 10) (Nat.le_of_ble_eq_true rfl)
  rw [lg_entry_eq]
  generalize (lg_sl ([.ref mo, .int 6, .int x, .int x2, .int x3, .int x4, .int x5, .int x6]) ++ List.replicate (10 - (lg_sl ([.ref mo, .int 6, .int x, .int x2, .int x3, .int x4, .int x5, .int x6])).length) Slot.unset).toArray = ls at hl ⊢
  have hl : lv_has ls 10 [(0, .ref mo), (1, .int 6), (2, .int x), (3, .int x2), (4, .int x3), (5, .int x4), (6, .int x5), (7, .int x6)] := hl
  have fw1 := hts (.fieldLink RX11 228 "GleanDuskModel" "token" "I") (List.mem_of_getElem? (i := 1) rfl)
  have fw2 := hts (.fieldLink RX11 225 "GleanDuskModel" "tokenLong" "I") (List.mem_of_getElem? (i := 2) rfl)
  have fw3 := hts (.fieldLink RX11 39 "GleanDuskModel" "bytes" "[I") (List.mem_of_getElem? (i := 3) rfl)
  have fw4 := hts (.fieldLink RX11 222 "GleanDuskModel" "tokenAt" "I") (List.mem_of_getElem? (i := 4) rfl)
  have iw11 : ∀ w ∈ wsX110, w ∈ wsX11_spells := fun _ h => List.mem_cons_of_mem _ (List.mem_append_right _ h)
  refine lv_aload_n hx hb dX11_spells_0 rfl (lv_at hl 0 rfl) ?_
  refine va_get (D := D) (ci := 11) (v := .int (nI tk)) (C := RX11) (T := TX11) (N := 18) hx hb hts iw11 hown hK hP 0 rfl rfl 14 (by decide) fw1 (fun _ h9 => h9) rfl dX11_spells_1 ?_
  refine lv_iconst (v := 1) hx hb dX11_spells_4 (by decide) ?_
  refine lv_icmp_ne (tgt := 20) hx hb dX11_spells_5 (by decide) (fun h1 => ?_) (fun h2 => ?_)
  · skip
    have h1 : ¬ tk = 1 := fun q9 => h1 ((nI_eq (a := tk) (b := 1) (by omega) (by omega)).mpr q9)
    refine lv_iconst (v := 0) hx hb dX11_spells_20 (by decide) ?_
    refine lv_istore (lv' := [(8, .int 0), (0, .ref mo), (1, .int 6), (2, .int x), (3, .int x2), (4, .int x3), (5, .int x4), (6, .int x5), (7, .int x6)]) hx hb dX11_spells_21 hl (by decide) rfl (fun ls hl => ?_)
    refine lv_iconst (v := 0) hx hb dX11_spells_23 (by decide) ?_
    refine lv_istore (lv' := [(9, .int 0), (8, .int 0), (0, .ref mo), (1, .int 6), (2, .int x), (3, .int x2), (4, .int x3), (5, .int x4), (6, .int x5), (7, .int x6)]) hx hb dX11_spells_24 hl (by decide) rfl (fun ls hl => ?_)
    refine lv_iload hx hb dX11_spells_26 (lv_at hl 0 rfl) ?_
    refine lv_iload_n hx hb dX11_spells_28 rfl (lv_at hl 3 rfl) ?_
    refine lv_icmp_ge (tgt := 119) hx hb dX11_spells_29 (by decide) (fun h9 => absurd h9 (by decide)) (fun _ => ?_)
    refine lv_iload hx hb dX11_spells_32 (lv_at hl 1 rfl) ?_
    refine lv_if_eq (tgt := 119) hx hb dX11_spells_34 (by decide) (fun _ => ?_) (fun h9 => absurd h9 (by decide))
    refine lv_iload hx hb dX11_spells_119 (lv_at hl 1 rfl) ?_
    exact W.zret (v := 0) hx hb hr (by decide) (fun tZ ht hW => ⟨⟨0, (), rfl, Or.inl rfl, by rw [ht]; exact hP.sub [0, 1] rfl, hD.sub [0, 1] (by decide) rfl⟩, hS.F ht⟩) hS.2.2 dX11_spells_121
  · skip
    have h2 : tk = 1 := (nI_eq (a := tk) (b := 1) (by omega) (by omega)).mp h2
    refine lv_aload_n hx hb dX11_spells_8 rfl (lv_at hl 0 rfl) ?_
    refine va_get (D := D) (ci := 11) (v := .int (nI tl)) (C := RX11) (T := TX11) (N := 18) hx hb hts iw11 hown hK hP 0 rfl rfl 13 (by decide) fw2 (fun _ h9 => h9) rfl dX11_spells_9 ?_
    refine lv_iload_n hx hb dX11_spells_12 rfl (lv_at hl 1 rfl) ?_
    refine lv_icmp_ne (tgt := 20) hx hb dX11_spells_13 (by decide) (fun h3 => ?_) (fun h4 => ?_)
    · skip
      have h3 : ¬ tl = 6 := fun q9 => h3 ((nI_eq (a := tl) (b := 6) (by omega) (by omega)).mpr q9)
      refine lv_iconst (v := 0) hx hb dX11_spells_20 (by decide) ?_
      refine lv_istore (lv' := [(8, .int 0), (0, .ref mo), (1, .int 6), (2, .int x), (3, .int x2), (4, .int x3), (5, .int x4), (6, .int x5), (7, .int x6)]) hx hb dX11_spells_21 hl (by decide) rfl (fun ls hl => ?_)
      refine lv_iconst (v := 0) hx hb dX11_spells_23 (by decide) ?_
      refine lv_istore (lv' := [(9, .int 0), (8, .int 0), (0, .ref mo), (1, .int 6), (2, .int x), (3, .int x2), (4, .int x3), (5, .int x4), (6, .int x5), (7, .int x6)]) hx hb dX11_spells_24 hl (by decide) rfl (fun ls hl => ?_)
      refine lv_iload hx hb dX11_spells_26 (lv_at hl 0 rfl) ?_
      refine lv_iload_n hx hb dX11_spells_28 rfl (lv_at hl 3 rfl) ?_
      refine lv_icmp_ge (tgt := 119) hx hb dX11_spells_29 (by decide) (fun h9 => absurd h9 (by decide)) (fun _ => ?_)
      refine lv_iload hx hb dX11_spells_32 (lv_at hl 1 rfl) ?_
      refine lv_if_eq (tgt := 119) hx hb dX11_spells_34 (by decide) (fun _ => ?_) (fun h9 => absurd h9 (by decide))
      refine lv_iload hx hb dX11_spells_119 (lv_at hl 1 rfl) ?_
      exact W.zret (v := 0) hx hb hr (by decide) (fun tZ ht hW => ⟨⟨0, (), rfl, Or.inl rfl, by rw [ht]; exact hP.sub [0, 1] rfl, hD.sub [0, 1] (by decide) rfl⟩, hS.F ht⟩) hS.2.2 dX11_spells_121
    · skip
      have h4 : tl = 6 := (nI_eq (a := tl) (b := 6) (by omega) (by omega)).mp h4
      refine lv_iconst (v := 1) hx hb dX11_spells_16 (by decide) ?_
      refine lv_goto (tgt := 21) hx hb dX11_spells_17 (by decide) ?_
      refine lv_istore (lv' := [(8, .int 1), (0, .ref mo), (1, .int 6), (2, .int x), (3, .int x2), (4, .int x3), (5, .int x4), (6, .int x5), (7, .int x6)]) hx hb dX11_spells_21 hl (by decide) rfl (fun ls hl => ?_)
      refine lv_iconst (v := 0) hx hb dX11_spells_23 (by decide) ?_
      refine lv_istore (lv' := [(9, .int 0), (8, .int 1), (0, .ref mo), (1, .int 6), (2, .int x), (3, .int x2), (4, .int x3), (5, .int x4), (6, .int x5), (7, .int x6)]) hx hb dX11_spells_24 hl (by decide) rfl (fun ls hl => ?_)
      have lp56 : ∀ (fuj91 j91 : Nat) (x29 : Nat) (H : Heap) (locs : List Loc) (ls : Array Slot), j91 ≤ 6 → 6 - j91 < fuj91 → x29 ≤ 1 → va_P D vwCl [(mo, .inr (11, [.ref to, .ref ke, .ref ik, .ref mrf, .long mab, .long mbl, .ref ha, .ref r0, .ref mbr, .ref mbp, .ref mby, .int (nI bl), .int (nI ta), .int (nI tl), .int (nI tk), .int vv, .ref an, .ref va])), (mby, .inl (y 0, 150, .inl fmb))] H → va_D A [(mo, .inr (11, [.ref to, .ref ke, .ref ik, .ref mrf, .long mab, .long mbl, .ref ha, .ref r0, .ref mbr, .ref mbp, .ref mby, .int (nI bl), .int (nI ta), .int (nI tl), .int (nI tk), .int vv, .ref an, .ref va])), (mby, .inl (y 0, 150, .inl fmb))] → va_S A s.heap H locs → lv_has ls 10 [(9, .int (nI j91)), (8, .int (nI x29)), (0, .ref mo), (1, .int 6), (2, .int x), (3, .int x2), (4, .int x3), (5, .int x4), (6, .int x5), (7, .int x6)] → W pZ l eZ ({ frames := 1, cells := 0, slots := 0, locals := 60 }) s mZ [.ref mo, .int 6, .int x, .int x2, .int x3, .int x4, .int x5, .int x6].toArray beZ meZ cZ H locs 0 0 (MQ beZ (va_Qi (fun (r : Int32) (u : Unit) => (r = 0 ∨ r = 1)) (kw_B D (fun _ => [(mo, .inr (11, [.ref to, .ref ke, .ref ik, .ref mrf, .long mab, .long mbl, .ref ha, .ref r0, .ref mbr, .ref mbp, .ref mby, .int (nI bl), .int (nI ta), .int (nI tl), .int (nI tk), .int vv, .ref an, .ref va])), (mby, .inl (y 0, 150, .inl fmb))]) A) A) [.ref mo, .int 6, .int x, .int x2, .int x3, .int x4, .int x5, .int x6].toArray s 0 0 A) (F0 mZ 26 ls []) := by
        intro fuj91
        induction fuj91 with
        | zero => intro j91 x29 H locs ls hj9 hf9; exact absurd hf9 (Nat.not_lt_zero _)
        | succ fuj91 ihj91 =>
          intro j91 x29 H locs ls hj91 hfj91 hn_x29 hP hD hS hl
          refine lv_iload hx hb dX11_spells_26 (lv_at hl 0 rfl) ?_
          refine lv_iload_n hx hb dX11_spells_28 rfl (lv_at hl 3 rfl) ?_
          refine lv_icmp_ge (tgt := 119) hx hb dX11_spells_29 (by decide) (fun h57 => ?_) (fun h58 => ?_)
          · skip
            have h57 : 6 ≤ j91 := (nI_leI (a := 6) (b := j91) (by omega) (by omega)).mp h57
            refine lv_iload hx hb dX11_spells_119 (lv_at hl 1 rfl) ?_
            rcases (show x29 = 0 ∨ x29 = 1 by omega) with rfl | rfl
            · skip
              exact W.zret (v := 0) hx hb hr (by decide) (fun tZ ht hW => ⟨⟨0, (), rfl, Or.inl rfl, by rw [ht]; exact hP.sub [0, 1] rfl, hD.sub [0, 1] (by decide) rfl⟩, hS.F ht⟩) hS.2.2 dX11_spells_121
            · skip
              exact W.zret (v := 1) hx hb hr (by decide) (fun tZ ht hW => ⟨⟨1, (), rfl, Or.inr rfl, by rw [ht]; exact hP.sub [0, 1] rfl, hD.sub [0, 1] (by decide) rfl⟩, hS.F ht⟩) hS.2.2 dX11_spells_121
          · skip
            have h58 : ¬ 6 ≤ j91 := fun q9 => h58 ((nI_leI (a := 6) (b := j91) (by omega) (by omega)).mpr q9)
            refine lv_iload hx hb dX11_spells_32 (lv_at hl 1 rfl) ?_
            refine lv_if_eq (tgt := 119) hx hb dX11_spells_34 (by decide) (fun h59 => ?_) (fun h60 => ?_)
            · skip
              have h59 : x29 = 0 := (nI_eq (a := x29) (b := 0) (by omega) (by omega)).mp h59
              refine lv_iload hx hb dX11_spells_119 (lv_at hl 1 rfl) ?_
              rcases (show x29 = 0 ∨ x29 = 1 by omega) with rfl | rfl
              · skip
                exact W.zret (v := 0) hx hb hr (by decide) (fun tZ ht hW => ⟨⟨0, (), rfl, Or.inl rfl, by rw [ht]; exact hP.sub [0, 1] rfl, hD.sub [0, 1] (by decide) rfl⟩, hS.F ht⟩) hS.2.2 dX11_spells_121
              · skip
                exact W.zret (v := 1) hx hb hr (by decide) (fun tZ ht hW => ⟨⟨1, (), rfl, Or.inr rfl, by rw [ht]; exact hP.sub [0, 1] rfl, hD.sub [0, 1] (by decide) rfl⟩, hS.F ht⟩) hS.2.2 dX11_spells_121
            · skip
              have h60 : ¬ x29 = 0 := fun q9 => h60 ((nI_eq (a := x29) (b := 0) (by omega) (by omega)).mpr q9)
              refine lv_aload_n hx hb dX11_spells_37 rfl (lv_at hl 2 rfl) ?_
              refine va_get (D := D) (ci := 11) (v := .ref mby) (C := RX11) (T := TX11) (N := 18) hx hb hts iw11 hown hK hP 0 rfl rfl 10 (by decide) fw3 (fun _ h9 => h9) rfl dX11_spells_38 ?_
              refine lv_aload_n hx hb dX11_spells_41 rfl (lv_at hl 2 rfl) ?_
              refine va_get (D := D) (ci := 11) (v := .int (nI ta)) (C := RX11) (T := TX11) (N := 18) hx hb hts iw11 hown hK hP 0 rfl rfl 12 (by decide) fw4 (fun _ h9 => h9) rfl dX11_spells_42 ?_
              refine lv_iload hx hb dX11_spells_45 (lv_at hl 0 rfl) ?_
              refine lv_iadd hx hb dX11_spells_47 ?_
              rw [show (nI ta) + (nI j91) = nI (ta + j91) from nI_add ta j91]
              refine va_iald hx hb hK hP 1 0 rfl rfl (vp_in_nI (by omega) (by decide)) dX11_spells_48 ?_
              rw [nI_clamp (n := (ta + j91)) (by omega)]
              refine lv_iload hx hb dX11_spells_49 (lv_at hl 0 rfl) ?_
              refine lv_if_ne (tgt := 58) hx hb dX11_spells_51 (by decide) (fun h61 => ?_) (fun h62 => ?_)
              · skip
                have h61 : ¬ j91 = 0 := fun q9 => h61 ((nI_eq (a := j91) (b := 0) (by omega) (by omega)).mpr q9)
                refine lv_iload hx hb dX11_spells_58 (lv_at hl 0 rfl) ?_
                refine lv_iconst (v := 1) hx hb dX11_spells_60 (by decide) ?_
                refine lv_icmp_ne (tgt := 68) hx hb dX11_spells_61 (by decide) (fun h63 => ?_) (fun h64 => ?_)
                · skip
                  have h63 : ¬ j91 = 1 := fun q9 => h63 ((nI_eq (a := j91) (b := 1) (by omega) (by omega)).mpr q9)
                  refine lv_iload hx hb dX11_spells_68 (lv_at hl 0 rfl) ?_
                  refine lv_iconst (v := 2) hx hb dX11_spells_70 (by decide) ?_
                  refine lv_icmp_ne (tgt := 79) hx hb dX11_spells_71 (by decide) (fun h65 => ?_) (fun h66 => ?_)
                  · skip
                    have h65 : ¬ j91 = 2 := fun q9 => h65 ((nI_eq (a := j91) (b := 2) (by omega) (by omega)).mpr q9)
                    refine lv_iload hx hb dX11_spells_79 (lv_at hl 0 rfl) ?_
                    refine lv_iconst (v := 3) hx hb dX11_spells_81 (by decide) ?_
                    refine lv_icmp_ne (tgt := 90) hx hb dX11_spells_82 (by decide) (fun h67 => ?_) (fun h68 => ?_)
                    · skip
                      have h67 : ¬ j91 = 3 := fun q9 => h67 ((nI_eq (a := j91) (b := 3) (by omega) (by omega)).mpr q9)
                      refine lv_iload hx hb dX11_spells_90 (lv_at hl 0 rfl) ?_
                      refine lv_iconst (v := 4) hx hb dX11_spells_92 (by decide) ?_
                      refine lv_icmp_ne (tgt := 101) hx hb dX11_spells_93 (by decide) (fun h69 => ?_) (fun h70 => ?_)
                      · skip
                        have h69 : ¬ j91 = 4 := fun q9 => h69 ((nI_eq (a := j91) (b := 4) (by omega) (by omega)).mpr q9)
                        refine lv_iload hx hb dX11_spells_101 (lv_at hl 9 rfl) ?_
                        refine lv_icmp_ne (tgt := 110) hx hb dX11_spells_103 (by decide) (fun h71 => ?_) (fun h72 => ?_)
                        · skip
                          refine lv_iconst (v := 0) hx hb dX11_spells_110 (by decide) ?_
                          refine lv_istore (lv' := [(8, .int 0), (9, .int (nI j91)), (0, .ref mo), (1, .int 6), (2, .int x), (3, .int x2), (4, .int x3), (5, .int x4), (6, .int x5), (7, .int x6)]) hx hb dX11_spells_111 hl (by decide) rfl (fun ls hl => ?_)
                          refine lv_iinc (v := (nI (j91 + 1))) (lv' := [(9, .int (nI (j91 + 1))), (8, .int 0), (0, .ref mo), (1, .int 6), (2, .int x), (3, .int x2), (4, .int x3), (5, .int x4), (6, .int x5), (7, .int x6)]) hx hb dX11_spells_113 hl (k := 1) rfl (nI_1 j91) (by decide) rfl (fun ls hl => ?_)
                          refine lv_goto (tgt := 26) hx hb dX11_spells_116 (by decide) ?_
                          exact ihj91 (j91 + 1) 0 H locs ls (by omega) (by omega) (by omega) (hP.sub [0, 1] rfl) (hD.sub [0, 1] (by decide) rfl) hS (lv_sub hl [0, 1, 2, 3, 4, 5, 6, 7, 8, 9] rfl)
                        · skip
                          refine lv_iconst (v := 1) hx hb dX11_spells_106 (by decide) ?_
                          refine lv_goto (tgt := 111) hx hb dX11_spells_107 (by decide) ?_
                          refine lv_istore (lv' := [(8, .int 1), (9, .int (nI j91)), (0, .ref mo), (1, .int 6), (2, .int x), (3, .int x2), (4, .int x3), (5, .int x4), (6, .int x5), (7, .int x6)]) hx hb dX11_spells_111 hl (by decide) rfl (fun ls hl => ?_)
                          refine lv_iinc (v := (nI (j91 + 1))) (lv' := [(9, .int (nI (j91 + 1))), (8, .int 1), (0, .ref mo), (1, .int 6), (2, .int x), (3, .int x2), (4, .int x3), (5, .int x4), (6, .int x5), (7, .int x6)]) hx hb dX11_spells_113 hl (k := 1) rfl (nI_1 j91) (by decide) rfl (fun ls hl => ?_)
                          refine lv_goto (tgt := 26) hx hb dX11_spells_116 (by decide) ?_
                          exact ihj91 (j91 + 1) 1 H locs ls (by omega) (by omega) (by omega) (hP.sub [0, 1] rfl) (hD.sub [0, 1] (by decide) rfl) hS (lv_sub hl [0, 1, 2, 3, 4, 5, 6, 7, 8, 9] rfl)
                      · skip
                        have h70 : j91 = 4 := (nI_eq (a := j91) (b := 4) (by omega) (by omega)).mp h70
                        refine lv_iload hx hb dX11_spells_96 (lv_at hl 8 rfl) ?_
                        refine lv_goto (tgt := 103) hx hb dX11_spells_98 (by decide) ?_
                        refine lv_icmp_ne (tgt := 110) hx hb dX11_spells_103 (by decide) (fun h73 => ?_) (fun h74 => ?_)
                        · skip
                          refine lv_iconst (v := 0) hx hb dX11_spells_110 (by decide) ?_
                          refine lv_istore (lv' := [(8, .int 0), (9, .int (nI j91)), (0, .ref mo), (1, .int 6), (2, .int x), (3, .int x2), (4, .int x3), (5, .int x4), (6, .int x5), (7, .int x6)]) hx hb dX11_spells_111 hl (by decide) rfl (fun ls hl => ?_)
                          refine lv_iinc (v := (nI (j91 + 1))) (lv' := [(9, .int (nI (j91 + 1))), (8, .int 0), (0, .ref mo), (1, .int 6), (2, .int x), (3, .int x2), (4, .int x3), (5, .int x4), (6, .int x5), (7, .int x6)]) hx hb dX11_spells_113 hl (k := 1) rfl (nI_1 j91) (by decide) rfl (fun ls hl => ?_)
                          refine lv_goto (tgt := 26) hx hb dX11_spells_116 (by decide) ?_
                          exact ihj91 (j91 + 1) 0 H locs ls (by omega) (by omega) (by omega) (hP.sub [0, 1] rfl) (hD.sub [0, 1] (by decide) rfl) hS (lv_sub hl [0, 1, 2, 3, 4, 5, 6, 7, 8, 9] rfl)
                        · skip
                          refine lv_iconst (v := 1) hx hb dX11_spells_106 (by decide) ?_
                          refine lv_goto (tgt := 111) hx hb dX11_spells_107 (by decide) ?_
                          refine lv_istore (lv' := [(8, .int 1), (9, .int (nI j91)), (0, .ref mo), (1, .int 6), (2, .int x), (3, .int x2), (4, .int x3), (5, .int x4), (6, .int x5), (7, .int x6)]) hx hb dX11_spells_111 hl (by decide) rfl (fun ls hl => ?_)
                          refine lv_iinc (v := (nI (j91 + 1))) (lv' := [(9, .int (nI (j91 + 1))), (8, .int 1), (0, .ref mo), (1, .int 6), (2, .int x), (3, .int x2), (4, .int x3), (5, .int x4), (6, .int x5), (7, .int x6)]) hx hb dX11_spells_113 hl (k := 1) rfl (nI_1 j91) (by decide) rfl (fun ls hl => ?_)
                          refine lv_goto (tgt := 26) hx hb dX11_spells_116 (by decide) ?_
                          exact ihj91 (j91 + 1) 1 H locs ls (by omega) (by omega) (by omega) (hP.sub [0, 1] rfl) (hD.sub [0, 1] (by decide) rfl) hS (lv_sub hl [0, 1, 2, 3, 4, 5, 6, 7, 8, 9] rfl)
                    · skip
                      have h68 : j91 = 3 := (nI_eq (a := j91) (b := 3) (by omega) (by omega)).mp h68
                      refine lv_iload hx hb dX11_spells_85 (lv_at hl 7 rfl) ?_
                      refine lv_goto (tgt := 103) hx hb dX11_spells_87 (by decide) ?_
                      refine lv_icmp_ne (tgt := 110) hx hb dX11_spells_103 (by decide) (fun h75 => ?_) (fun h76 => ?_)
                      · skip
                        refine lv_iconst (v := 0) hx hb dX11_spells_110 (by decide) ?_
                        refine lv_istore (lv' := [(8, .int 0), (9, .int (nI j91)), (0, .ref mo), (1, .int 6), (2, .int x), (3, .int x2), (4, .int x3), (5, .int x4), (6, .int x5), (7, .int x6)]) hx hb dX11_spells_111 hl (by decide) rfl (fun ls hl => ?_)
                        refine lv_iinc (v := (nI (j91 + 1))) (lv' := [(9, .int (nI (j91 + 1))), (8, .int 0), (0, .ref mo), (1, .int 6), (2, .int x), (3, .int x2), (4, .int x3), (5, .int x4), (6, .int x5), (7, .int x6)]) hx hb dX11_spells_113 hl (k := 1) rfl (nI_1 j91) (by decide) rfl (fun ls hl => ?_)
                        refine lv_goto (tgt := 26) hx hb dX11_spells_116 (by decide) ?_
                        exact ihj91 (j91 + 1) 0 H locs ls (by omega) (by omega) (by omega) (hP.sub [0, 1] rfl) (hD.sub [0, 1] (by decide) rfl) hS (lv_sub hl [0, 1, 2, 3, 4, 5, 6, 7, 8, 9] rfl)
                      · skip
                        refine lv_iconst (v := 1) hx hb dX11_spells_106 (by decide) ?_
                        refine lv_goto (tgt := 111) hx hb dX11_spells_107 (by decide) ?_
                        refine lv_istore (lv' := [(8, .int 1), (9, .int (nI j91)), (0, .ref mo), (1, .int 6), (2, .int x), (3, .int x2), (4, .int x3), (5, .int x4), (6, .int x5), (7, .int x6)]) hx hb dX11_spells_111 hl (by decide) rfl (fun ls hl => ?_)
                        refine lv_iinc (v := (nI (j91 + 1))) (lv' := [(9, .int (nI (j91 + 1))), (8, .int 1), (0, .ref mo), (1, .int 6), (2, .int x), (3, .int x2), (4, .int x3), (5, .int x4), (6, .int x5), (7, .int x6)]) hx hb dX11_spells_113 hl (k := 1) rfl (nI_1 j91) (by decide) rfl (fun ls hl => ?_)
                        refine lv_goto (tgt := 26) hx hb dX11_spells_116 (by decide) ?_
                        exact ihj91 (j91 + 1) 1 H locs ls (by omega) (by omega) (by omega) (hP.sub [0, 1] rfl) (hD.sub [0, 1] (by decide) rfl) hS (lv_sub hl [0, 1, 2, 3, 4, 5, 6, 7, 8, 9] rfl)
                  · skip
                    have h66 : j91 = 2 := (nI_eq (a := j91) (b := 2) (by omega) (by omega)).mp h66
                    refine lv_iload hx hb dX11_spells_74 (lv_at hl 6 rfl) ?_
                    refine lv_goto (tgt := 103) hx hb dX11_spells_76 (by decide) ?_
                    refine lv_icmp_ne (tgt := 110) hx hb dX11_spells_103 (by decide) (fun h77 => ?_) (fun h78 => ?_)
                    · skip
                      refine lv_iconst (v := 0) hx hb dX11_spells_110 (by decide) ?_
                      refine lv_istore (lv' := [(8, .int 0), (9, .int (nI j91)), (0, .ref mo), (1, .int 6), (2, .int x), (3, .int x2), (4, .int x3), (5, .int x4), (6, .int x5), (7, .int x6)]) hx hb dX11_spells_111 hl (by decide) rfl (fun ls hl => ?_)
                      refine lv_iinc (v := (nI (j91 + 1))) (lv' := [(9, .int (nI (j91 + 1))), (8, .int 0), (0, .ref mo), (1, .int 6), (2, .int x), (3, .int x2), (4, .int x3), (5, .int x4), (6, .int x5), (7, .int x6)]) hx hb dX11_spells_113 hl (k := 1) rfl (nI_1 j91) (by decide) rfl (fun ls hl => ?_)
                      refine lv_goto (tgt := 26) hx hb dX11_spells_116 (by decide) ?_
                      exact ihj91 (j91 + 1) 0 H locs ls (by omega) (by omega) (by omega) (hP.sub [0, 1] rfl) (hD.sub [0, 1] (by decide) rfl) hS (lv_sub hl [0, 1, 2, 3, 4, 5, 6, 7, 8, 9] rfl)
                    · skip
                      refine lv_iconst (v := 1) hx hb dX11_spells_106 (by decide) ?_
                      refine lv_goto (tgt := 111) hx hb dX11_spells_107 (by decide) ?_
                      refine lv_istore (lv' := [(8, .int 1), (9, .int (nI j91)), (0, .ref mo), (1, .int 6), (2, .int x), (3, .int x2), (4, .int x3), (5, .int x4), (6, .int x5), (7, .int x6)]) hx hb dX11_spells_111 hl (by decide) rfl (fun ls hl => ?_)
                      refine lv_iinc (v := (nI (j91 + 1))) (lv' := [(9, .int (nI (j91 + 1))), (8, .int 1), (0, .ref mo), (1, .int 6), (2, .int x), (3, .int x2), (4, .int x3), (5, .int x4), (6, .int x5), (7, .int x6)]) hx hb dX11_spells_113 hl (k := 1) rfl (nI_1 j91) (by decide) rfl (fun ls hl => ?_)
                      refine lv_goto (tgt := 26) hx hb dX11_spells_116 (by decide) ?_
                      exact ihj91 (j91 + 1) 1 H locs ls (by omega) (by omega) (by omega) (hP.sub [0, 1] rfl) (hD.sub [0, 1] (by decide) rfl) hS (lv_sub hl [0, 1, 2, 3, 4, 5, 6, 7, 8, 9] rfl)
                · skip
                  have h64 : j91 = 1 := (nI_eq (a := j91) (b := 1) (by omega) (by omega)).mp h64
                  refine lv_iload_n hx hb dX11_spells_64 rfl (lv_at hl 5 rfl) ?_
                  refine lv_goto (tgt := 103) hx hb dX11_spells_65 (by decide) ?_
                  refine lv_icmp_ne (tgt := 110) hx hb dX11_spells_103 (by decide) (fun h79 => ?_) (fun h80 => ?_)
                  · skip
                    refine lv_iconst (v := 0) hx hb dX11_spells_110 (by decide) ?_
                    refine lv_istore (lv' := [(8, .int 0), (9, .int (nI j91)), (0, .ref mo), (1, .int 6), (2, .int x), (3, .int x2), (4, .int x3), (5, .int x4), (6, .int x5), (7, .int x6)]) hx hb dX11_spells_111 hl (by decide) rfl (fun ls hl => ?_)
                    refine lv_iinc (v := (nI (j91 + 1))) (lv' := [(9, .int (nI (j91 + 1))), (8, .int 0), (0, .ref mo), (1, .int 6), (2, .int x), (3, .int x2), (4, .int x3), (5, .int x4), (6, .int x5), (7, .int x6)]) hx hb dX11_spells_113 hl (k := 1) rfl (nI_1 j91) (by decide) rfl (fun ls hl => ?_)
                    refine lv_goto (tgt := 26) hx hb dX11_spells_116 (by decide) ?_
                    exact ihj91 (j91 + 1) 0 H locs ls (by omega) (by omega) (by omega) (hP.sub [0, 1] rfl) (hD.sub [0, 1] (by decide) rfl) hS (lv_sub hl [0, 1, 2, 3, 4, 5, 6, 7, 8, 9] rfl)
                  · skip
                    refine lv_iconst (v := 1) hx hb dX11_spells_106 (by decide) ?_
                    refine lv_goto (tgt := 111) hx hb dX11_spells_107 (by decide) ?_
                    refine lv_istore (lv' := [(8, .int 1), (9, .int (nI j91)), (0, .ref mo), (1, .int 6), (2, .int x), (3, .int x2), (4, .int x3), (5, .int x4), (6, .int x5), (7, .int x6)]) hx hb dX11_spells_111 hl (by decide) rfl (fun ls hl => ?_)
                    refine lv_iinc (v := (nI (j91 + 1))) (lv' := [(9, .int (nI (j91 + 1))), (8, .int 1), (0, .ref mo), (1, .int 6), (2, .int x), (3, .int x2), (4, .int x3), (5, .int x4), (6, .int x5), (7, .int x6)]) hx hb dX11_spells_113 hl (k := 1) rfl (nI_1 j91) (by decide) rfl (fun ls hl => ?_)
                    refine lv_goto (tgt := 26) hx hb dX11_spells_116 (by decide) ?_
                    exact ihj91 (j91 + 1) 1 H locs ls (by omega) (by omega) (by omega) (hP.sub [0, 1] rfl) (hD.sub [0, 1] (by decide) rfl) hS (lv_sub hl [0, 1, 2, 3, 4, 5, 6, 7, 8, 9] rfl)
              · skip
                have h62 : j91 = 0 := (nI_eq (a := j91) (b := 0) (by omega) (by omega)).mp h62
                refine lv_iload_n hx hb dX11_spells_54 rfl (lv_at hl 4 rfl) ?_
                refine lv_goto (tgt := 103) hx hb dX11_spells_55 (by decide) ?_
                refine lv_icmp_ne (tgt := 110) hx hb dX11_spells_103 (by decide) (fun h81 => ?_) (fun h82 => ?_)
                · skip
                  refine lv_iconst (v := 0) hx hb dX11_spells_110 (by decide) ?_
                  refine lv_istore (lv' := [(8, .int 0), (9, .int (nI j91)), (0, .ref mo), (1, .int 6), (2, .int x), (3, .int x2), (4, .int x3), (5, .int x4), (6, .int x5), (7, .int x6)]) hx hb dX11_spells_111 hl (by decide) rfl (fun ls hl => ?_)
                  refine lv_iinc (v := (nI (j91 + 1))) (lv' := [(9, .int (nI (j91 + 1))), (8, .int 0), (0, .ref mo), (1, .int 6), (2, .int x), (3, .int x2), (4, .int x3), (5, .int x4), (6, .int x5), (7, .int x6)]) hx hb dX11_spells_113 hl (k := 1) rfl (nI_1 j91) (by decide) rfl (fun ls hl => ?_)
                  refine lv_goto (tgt := 26) hx hb dX11_spells_116 (by decide) ?_
                  exact ihj91 (j91 + 1) 0 H locs ls (by omega) (by omega) (by omega) (hP.sub [0, 1] rfl) (hD.sub [0, 1] (by decide) rfl) hS (lv_sub hl [0, 1, 2, 3, 4, 5, 6, 7, 8, 9] rfl)
                · skip
                  refine lv_iconst (v := 1) hx hb dX11_spells_106 (by decide) ?_
                  refine lv_goto (tgt := 111) hx hb dX11_spells_107 (by decide) ?_
                  refine lv_istore (lv' := [(8, .int 1), (9, .int (nI j91)), (0, .ref mo), (1, .int 6), (2, .int x), (3, .int x2), (4, .int x3), (5, .int x4), (6, .int x5), (7, .int x6)]) hx hb dX11_spells_111 hl (by decide) rfl (fun ls hl => ?_)
                  refine lv_iinc (v := (nI (j91 + 1))) (lv' := [(9, .int (nI (j91 + 1))), (8, .int 1), (0, .ref mo), (1, .int 6), (2, .int x), (3, .int x2), (4, .int x3), (5, .int x4), (6, .int x5), (7, .int x6)]) hx hb dX11_spells_113 hl (k := 1) rfl (nI_1 j91) (by decide) rfl (fun ls hl => ?_)
                  refine lv_goto (tgt := 26) hx hb dX11_spells_116 (by decide) ?_
                  exact ihj91 (j91 + 1) 1 H locs ls (by omega) (by omega) (by omega) (hP.sub [0, 1] rfl) (hD.sub [0, 1] (by decide) rfl) hS (lv_sub hl [0, 1, 2, 3, 4, 5, 6, 7, 8, 9] rfl)
      exact lp56 (6 + 1) 0 1 _ _ _ (by omega) (by omega) (by omega) hP hD hS (lv_sub hl [0, 1, 2, 3, 4, 5, 6, 7, 8, 9] rfl)
