set_option maxHeartbeats 4000000 in
set_option maxRecDepth 100000 in
theorem gr_Msp3 (l : Launch) (D : va_G) (y : Nat → ClassId) (mo : Nat) (to : Nat) (ke : Nat) (ik : Nat) (mrf : Nat) (ha : Nat) (r0 : Nat) (mbr : Nat) (mbp : Nat) (mby : Nat) (an : Nat) (va : Nat) (mab : Int64) (mbl : Int64) (bl : Nat) (ta : Nat) (tl : Nat) (tk : Nat) (vv : Int32) (fmb : Nat → Int32) (e : Nat) (hbl : bl ≤ 150) (he : ta + tl = e) (heb : e ≤ bl) (htk : tk ≤ 4) : kw_Mi l yX11_spells wsX11_spells ({ frames := 1, cells := 0, slots := 0, locals := 60 }) D y [.ref mo, .int 5, .int 103, .int 108, .int 101, .int 97, .int 110, .int 0] [(mo, .inr (11, [.ref to, .ref ke, .ref ik, .ref mrf, .long mab, .long mbl, .ref ha, .ref r0, .ref mbr, .ref mbp, .ref mby, .int (nI bl), .int (nI ta), .int (nI tl), .int (nI tk), .int vv, .ref an, .ref va])), (mby, .inl (y 0, 150, .inl fmb))] (fun (r : Int32) (u : Unit) => (ks_w3 fmb tk ta e = true ∧ r = 1) ∨ (¬ ks_w3 fmb tk ta e = true ∧ r = 0)) (fun _ => [(mo, .inr (11, [.ref to, .ref ke, .ref ik, .ref mrf, .long mab, .long mbl, .ref ha, .ref r0, .ref mbr, .ref mbp, .ref mby, .int (nI bl), .int (nI ta), .int (nI tl), .int (nI tk), .int vv, .ref an, .ref va])), (mby, .inl (y 0, 150, .inl fmb))]) 0 0 := by
  refine kw_Mi.of (cc := cX11_spells) (maxL := 10) (ret := (some .boolean)) (by decide) rfl ?_
  intro pZ eZ s mZ beZ meZ cZ A hE
  obtain ⟨hx, hb, hr, hml, hts, hown, hlocks, hin, hA, hP, hD, hK, hN⟩ := hE
  have hS : va_S A s.heap s.heap [] := va_S.rf
  have hl := lv_entry ([.ref mo, .int 5, .int 103, .int 108, .int 101, .int 97, .int 110, .int 0]) (n := 10) (Nat.le_of_ble_eq_true rfl)
  rw [lg_entry_eq]
  generalize (lg_sl ([.ref mo, .int 5, .int 103, .int 108, .int 101, .int 97, .int 110, .int 0]) ++ List.replicate (10 - (lg_sl ([.ref mo, .int 5, .int 103, .int 108, .int 101, .int 97, .int 110, .int 0])).length) Slot.unset).toArray = ls at hl ⊢
  have hl : lv_has ls 10 [(0, .ref mo), (1, .int 5), (2, .int 103), (3, .int 108), (4, .int 101), (5, .int 97), (6, .int 110), (7, .int 0)] := hl
  have fw1 := hts (.fieldLink RX11 228 "GleanDuskModel" "token" "I") (List.mem_of_getElem? (i := 1) rfl)
  have fw2 := hts (.fieldLink RX11 225 "GleanDuskModel" "tokenLong" "I") (List.mem_of_getElem? (i := 2) rfl)
  have fw3 := hts (.fieldLink RX11 39 "GleanDuskModel" "bytes" "[I") (List.mem_of_getElem? (i := 3) rfl)
  have fw4 := hts (.fieldLink RX11 222 "GleanDuskModel" "tokenAt" "I") (List.mem_of_getElem? (i := 4) rfl)
  have iw11 : ∀ w ∈ wsX110, w ∈ wsX11_spells := fun _ h => List.mem_cons_of_mem _ (List.mem_append_right _ h)
  refine lv_aload_n hx hb dX11_spells_0 rfl (lv_at hl 0 rfl) ?_
  refine va_get (D := D) (ci := 11) (v := .int (nI tk)) (C := RX11) (T := TX11) (N := 18) hx hb hts iw11 hown hK hP 0 rfl rfl 14 (by decide) fw1 (fun _ h9 => h9) rfl dX11_spells_1 ?_
  refine lv_iconst (v := 1) hx hb dX11_spells_4 (by decide) ?_
  refine lv_icmp_ne (tgt := 20) hx hb dX11_spells_5 (by decide) (fun h1 => ?_) (fun h2 => ?_)
  · skip
    have h1 : ¬ tk = 1 := fun q9 => h1 ((nI_eq (a := tk) (b := 1) (by omega) (by omega)).mpr q9)
    refine lv_iconst (v := 0) hx hb dX11_spells_20 (by decide) ?_
    refine lv_istore (lv' := [(8, .int 0), (0, .ref mo), (1, .int 5), (2, .int 103), (3, .int 108), (4, .int 101), (5, .int 97), (6, .int 110), (7, .int 0)]) hx hb dX11_spells_21 hl (by decide) rfl (fun ls hl => ?_)
    refine lv_iconst (v := 0) hx hb dX11_spells_23 (by decide) ?_
    refine lv_istore (lv' := [(9, .int 0), (8, .int 0), (0, .ref mo), (1, .int 5), (2, .int 103), (3, .int 108), (4, .int 101), (5, .int 97), (6, .int 110), (7, .int 0)]) hx hb dX11_spells_24 hl (by decide) rfl (fun ls hl => ?_)
    refine lv_iload hx hb dX11_spells_26 (lv_at hl 0 rfl) ?_
    refine lv_iload_n hx hb dX11_spells_28 rfl (lv_at hl 3 rfl) ?_
    refine lv_icmp_ge (tgt := 119) hx hb dX11_spells_29 (by decide) (fun h9 => absurd h9 (by decide)) (fun _ => ?_)
    refine lv_iload hx hb dX11_spells_32 (lv_at hl 1 rfl) ?_
    refine lv_if_eq (tgt := 119) hx hb dX11_spells_34 (by decide) (fun _ => ?_) (fun h9 => absurd h9 (by decide))
    refine lv_iload hx hb dX11_spells_119 (lv_at hl 1 rfl) ?_
    exact W.zret (v := 0) hx hb hr (by decide) (fun tZ ht hW => ⟨⟨0, (), rfl, Or.inr (⟨ks_no h1, rfl⟩), by rw [ht]; exact hP.sub [0, 1] rfl, hD.sub [0, 1] (by decide) rfl⟩, hS.F ht⟩) hS.2.2 dX11_spells_121
  · skip
    have h2 : tk = 1 := (nI_eq (a := tk) (b := 1) (by omega) (by omega)).mp h2
    refine lv_aload_n hx hb dX11_spells_8 rfl (lv_at hl 0 rfl) ?_
    refine va_get (D := D) (ci := 11) (v := .int (nI tl)) (C := RX11) (T := TX11) (N := 18) hx hb hts iw11 hown hK hP 0 rfl rfl 13 (by decide) fw2 (fun _ h9 => h9) rfl dX11_spells_9 ?_
    refine lv_iload_n hx hb dX11_spells_12 rfl (lv_at hl 1 rfl) ?_
    refine lv_icmp_ne (tgt := 20) hx hb dX11_spells_13 (by decide) (fun h3 => ?_) (fun h4 => ?_)
    · skip
      have h3 : ¬ tl = 5 := fun q9 => h3 ((nI_eq (a := tl) (b := 5) (by omega) (by omega)).mpr q9)
      refine lv_iconst (v := 0) hx hb dX11_spells_20 (by decide) ?_
      refine lv_istore (lv' := [(8, .int 0), (0, .ref mo), (1, .int 5), (2, .int 103), (3, .int 108), (4, .int 101), (5, .int 97), (6, .int 110), (7, .int 0)]) hx hb dX11_spells_21 hl (by decide) rfl (fun ls hl => ?_)
      refine lv_iconst (v := 0) hx hb dX11_spells_23 (by decide) ?_
      refine lv_istore (lv' := [(9, .int 0), (8, .int 0), (0, .ref mo), (1, .int 5), (2, .int 103), (3, .int 108), (4, .int 101), (5, .int 97), (6, .int 110), (7, .int 0)]) hx hb dX11_spells_24 hl (by decide) rfl (fun ls hl => ?_)
      refine lv_iload hx hb dX11_spells_26 (lv_at hl 0 rfl) ?_
      refine lv_iload_n hx hb dX11_spells_28 rfl (lv_at hl 3 rfl) ?_
      refine lv_icmp_ge (tgt := 119) hx hb dX11_spells_29 (by decide) (fun h9 => absurd h9 (by decide)) (fun _ => ?_)
      refine lv_iload hx hb dX11_spells_32 (lv_at hl 1 rfl) ?_
      refine lv_if_eq (tgt := 119) hx hb dX11_spells_34 (by decide) (fun _ => ?_) (fun h9 => absurd h9 (by decide))
      refine lv_iload hx hb dX11_spells_119 (lv_at hl 1 rfl) ?_
      exact W.zret (v := 0) hx hb hr (by decide) (fun tZ ht hW => ⟨⟨0, (), rfl, Or.inr (⟨ks_no2 (fun q9 => absurd (of_decide_eq_true q9).1 (by omega)), rfl⟩), by rw [ht]; exact hP.sub [0, 1] rfl, hD.sub [0, 1] (by decide) rfl⟩, hS.F ht⟩) hS.2.2 dX11_spells_121
    · skip
      have h4 : tl = 5 := (nI_eq (a := tl) (b := 5) (by omega) (by omega)).mp h4
      refine lv_iconst (v := 1) hx hb dX11_spells_16 (by decide) ?_
      refine lv_goto (tgt := 21) hx hb dX11_spells_17 (by decide) ?_
      refine lv_istore (lv' := [(8, .int 1), (0, .ref mo), (1, .int 5), (2, .int 103), (3, .int 108), (4, .int 101), (5, .int 97), (6, .int 110), (7, .int 0)]) hx hb dX11_spells_21 hl (by decide) rfl (fun ls hl => ?_)
      refine lv_iconst (v := 0) hx hb dX11_spells_23 (by decide) ?_
      refine lv_istore (lv' := [(9, .int 0), (8, .int 1), (0, .ref mo), (1, .int 5), (2, .int 103), (3, .int 108), (4, .int 101), (5, .int 97), (6, .int 110), (7, .int 0)]) hx hb dX11_spells_24 hl (by decide) rfl (fun ls hl => ?_)
      refine lv_iload hx hb dX11_spells_26 (lv_at hl 0 rfl) ?_
      refine lv_iload_n hx hb dX11_spells_28 rfl (lv_at hl 3 rfl) ?_
      refine lv_icmp_ge (tgt := 119) hx hb dX11_spells_29 (by decide) (fun h9 => absurd h9 (by decide)) (fun _ => ?_)
      refine lv_iload hx hb dX11_spells_32 (lv_at hl 1 rfl) ?_
      refine lv_if_eq (tgt := 119) hx hb dX11_spells_34 (by decide) (fun h9 => absurd h9 (by decide)) (fun _ => ?_)
      refine lv_aload_n hx hb dX11_spells_37 rfl (lv_at hl 2 rfl) ?_
      refine va_get (D := D) (ci := 11) (v := .ref mby) (C := RX11) (T := TX11) (N := 18) hx hb hts iw11 hown hK hP 0 rfl rfl 10 (by decide) fw3 (fun _ h9 => h9) rfl dX11_spells_38 ?_
      refine lv_aload_n hx hb dX11_spells_41 rfl (lv_at hl 2 rfl) ?_
      refine va_get (D := D) (ci := 11) (v := .int (nI ta)) (C := RX11) (T := TX11) (N := 18) hx hb hts iw11 hown hK hP 0 rfl rfl 12 (by decide) fw4 (fun _ h9 => h9) rfl dX11_spells_42 ?_
      refine lv_iload hx hb dX11_spells_45 (lv_at hl 0 rfl) ?_
      refine lv_iadd hx hb dX11_spells_47 ?_
      rw [show (nI ta) + 0 = nI (ta) from nI_add ta 0]
      refine va_iald hx hb hK hP 1 0 rfl rfl (vp_in_nI (by omega) (by decide)) dX11_spells_48 ?_
      rw [nI_clamp (n := ta) (by omega)]
      refine lv_iload hx hb dX11_spells_49 (lv_at hl 0 rfl) ?_
      refine lv_if_ne (tgt := 58) hx hb dX11_spells_51 (by decide) (fun h9 => absurd h9 (by decide)) (fun _ => ?_)
      refine lv_iload_n hx hb dX11_spells_54 rfl (lv_at hl 4 rfl) ?_
      refine lv_goto (tgt := 103) hx hb dX11_spells_55 (by decide) ?_
      refine lv_icmp_ne (tgt := 110) hx hb dX11_spells_103 (by decide) (fun h5 => ?_) (fun h6 => ?_)
      · skip
        refine lv_iconst (v := 0) hx hb dX11_spells_110 (by decide) ?_
        refine lv_istore (lv' := [(8, .int 0), (9, .int 0), (0, .ref mo), (1, .int 5), (2, .int 103), (3, .int 108), (4, .int 101), (5, .int 97), (6, .int 110), (7, .int 0)]) hx hb dX11_spells_111 hl (by decide) rfl (fun ls hl => ?_)
        refine lv_iinc (v := 1) (lv' := [(9, .int 1), (8, .int 0), (0, .ref mo), (1, .int 5), (2, .int 103), (3, .int 108), (4, .int 101), (5, .int 97), (6, .int 110), (7, .int 0)]) hx hb dX11_spells_113 hl (k := 1) rfl (by decide) (by decide) rfl (fun ls hl => ?_)
        refine lv_goto (tgt := 26) hx hb dX11_spells_116 (by decide) ?_
        refine lv_iload hx hb dX11_spells_26 (lv_at hl 0 rfl) ?_
        refine lv_iload_n hx hb dX11_spells_28 rfl (lv_at hl 3 rfl) ?_
        refine lv_icmp_ge (tgt := 119) hx hb dX11_spells_29 (by decide) (fun h9 => absurd h9 (by decide)) (fun _ => ?_)
        refine lv_iload hx hb dX11_spells_32 (lv_at hl 1 rfl) ?_
        refine lv_if_eq (tgt := 119) hx hb dX11_spells_34 (by decide) (fun _ => ?_) (fun h9 => absurd h9 (by decide))
        refine lv_iload hx hb dX11_spells_119 (lv_at hl 1 rfl) ?_
        exact W.zret (v := 0) hx hb hr (by decide) (fun tZ ht hW => ⟨⟨0, (), rfl, Or.inr (⟨ks_no2 (fun q9 => absurd (of_decide_eq_true q9).2.1 h5), rfl⟩), by rw [ht]; exact hP.sub [0, 1] rfl, hD.sub [0, 1] (by decide) rfl⟩, hS.F ht⟩) hS.2.2 dX11_spells_121
      · skip
        refine lv_iconst (v := 1) hx hb dX11_spells_106 (by decide) ?_
        refine lv_goto (tgt := 111) hx hb dX11_spells_107 (by decide) ?_
        refine lv_istore (lv' := [(8, .int 1), (9, .int 0), (0, .ref mo), (1, .int 5), (2, .int 103), (3, .int 108), (4, .int 101), (5, .int 97), (6, .int 110), (7, .int 0)]) hx hb dX11_spells_111 hl (by decide) rfl (fun ls hl => ?_)
        refine lv_iinc (v := 1) (lv' := [(9, .int 1), (8, .int 1), (0, .ref mo), (1, .int 5), (2, .int 103), (3, .int 108), (4, .int 101), (5, .int 97), (6, .int 110), (7, .int 0)]) hx hb dX11_spells_113 hl (k := 1) rfl (by decide) (by decide) rfl (fun ls hl => ?_)
        refine lv_goto (tgt := 26) hx hb dX11_spells_116 (by decide) ?_
        refine lv_iload hx hb dX11_spells_26 (lv_at hl 0 rfl) ?_
        refine lv_iload_n hx hb dX11_spells_28 rfl (lv_at hl 3 rfl) ?_
        refine lv_icmp_ge (tgt := 119) hx hb dX11_spells_29 (by decide) (fun h9 => absurd h9 (by decide)) (fun _ => ?_)
        refine lv_iload hx hb dX11_spells_32 (lv_at hl 1 rfl) ?_
        refine lv_if_eq (tgt := 119) hx hb dX11_spells_34 (by decide) (fun h9 => absurd h9 (by decide)) (fun _ => ?_)
        refine lv_aload_n hx hb dX11_spells_37 rfl (lv_at hl 2 rfl) ?_
        refine va_get (D := D) (ci := 11) (v := .ref mby) (C := RX11) (T := TX11) (N := 18) hx hb hts iw11 hown hK hP 0 rfl rfl 10 (by decide) fw3 (fun _ h9 => h9) rfl dX11_spells_38 ?_
        refine lv_aload_n hx hb dX11_spells_41 rfl (lv_at hl 2 rfl) ?_
        refine va_get (D := D) (ci := 11) (v := .int (nI ta)) (C := RX11) (T := TX11) (N := 18) hx hb hts iw11 hown hK hP 0 rfl rfl 12 (by decide) fw4 (fun _ h9 => h9) rfl dX11_spells_42 ?_
        refine lv_iload hx hb dX11_spells_45 (lv_at hl 0 rfl) ?_
        refine lv_iadd hx hb dX11_spells_47 ?_
        rw [show (nI ta) + 1 = nI (ta + 1) from nI_add ta 1]
        refine va_iald hx hb hK hP 1 0 rfl rfl (vp_in_nI (by omega) (by decide)) dX11_spells_48 ?_
        rw [nI_clamp (n := (ta + 1)) (by omega)]
        refine lv_iload hx hb dX11_spells_49 (lv_at hl 0 rfl) ?_
        refine lv_if_ne (tgt := 58) hx hb dX11_spells_51 (by decide) (fun _ => ?_) (fun h9 => absurd h9 (by decide))
        refine lv_iload hx hb dX11_spells_58 (lv_at hl 0 rfl) ?_
        refine lv_iconst (v := 1) hx hb dX11_spells_60 (by decide) ?_
        refine lv_icmp_ne (tgt := 68) hx hb dX11_spells_61 (by decide) (fun h9 => absurd h9 (by decide)) (fun _ => ?_)
        refine lv_iload_n hx hb dX11_spells_64 rfl (lv_at hl 5 rfl) ?_
        refine lv_goto (tgt := 103) hx hb dX11_spells_65 (by decide) ?_
        refine lv_icmp_ne (tgt := 110) hx hb dX11_spells_103 (by decide) (fun h7 => ?_) (fun h8 => ?_)
        · skip
          refine lv_iconst (v := 0) hx hb dX11_spells_110 (by decide) ?_
          refine lv_istore (lv' := [(8, .int 0), (9, .int 1), (0, .ref mo), (1, .int 5), (2, .int 103), (3, .int 108), (4, .int 101), (5, .int 97), (6, .int 110), (7, .int 0)]) hx hb dX11_spells_111 hl (by decide) rfl (fun ls hl => ?_)
          refine lv_iinc (v := 2) (lv' := [(9, .int 2), (8, .int 0), (0, .ref mo), (1, .int 5), (2, .int 103), (3, .int 108), (4, .int 101), (5, .int 97), (6, .int 110), (7, .int 0)]) hx hb dX11_spells_113 hl (k := 1) rfl (by decide) (by decide) rfl (fun ls hl => ?_)
          refine lv_goto (tgt := 26) hx hb dX11_spells_116 (by decide) ?_
          refine lv_iload hx hb dX11_spells_26 (lv_at hl 0 rfl) ?_
          refine lv_iload_n hx hb dX11_spells_28 rfl (lv_at hl 3 rfl) ?_
          refine lv_icmp_ge (tgt := 119) hx hb dX11_spells_29 (by decide) (fun h9 => absurd h9 (by decide)) (fun _ => ?_)
          refine lv_iload hx hb dX11_spells_32 (lv_at hl 1 rfl) ?_
          refine lv_if_eq (tgt := 119) hx hb dX11_spells_34 (by decide) (fun _ => ?_) (fun h9 => absurd h9 (by decide))
          refine lv_iload hx hb dX11_spells_119 (lv_at hl 1 rfl) ?_
          exact W.zret (v := 0) hx hb hr (by decide) (fun tZ ht hW => ⟨⟨0, (), rfl, Or.inr (⟨ks_no2 (fun q9 => absurd (of_decide_eq_true q9).2.2.1 h7), rfl⟩), by rw [ht]; exact hP.sub [0, 1] rfl, hD.sub [0, 1] (by decide) rfl⟩, hS.F ht⟩) hS.2.2 dX11_spells_121
        · skip
          refine lv_iconst (v := 1) hx hb dX11_spells_106 (by decide) ?_
          refine lv_goto (tgt := 111) hx hb dX11_spells_107 (by decide) ?_
          refine lv_istore (lv' := [(8, .int 1), (9, .int 1), (0, .ref mo), (1, .int 5), (2, .int 103), (3, .int 108), (4, .int 101), (5, .int 97), (6, .int 110), (7, .int 0)]) hx hb dX11_spells_111 hl (by decide) rfl (fun ls hl => ?_)
          refine lv_iinc (v := 2) (lv' := [(9, .int 2), (8, .int 1), (0, .ref mo), (1, .int 5), (2, .int 103), (3, .int 108), (4, .int 101), (5, .int 97), (6, .int 110), (7, .int 0)]) hx hb dX11_spells_113 hl (k := 1) rfl (by decide) (by decide) rfl (fun ls hl => ?_)
          refine lv_goto (tgt := 26) hx hb dX11_spells_116 (by decide) ?_
          refine lv_iload hx hb dX11_spells_26 (lv_at hl 0 rfl) ?_
          refine lv_iload_n hx hb dX11_spells_28 rfl (lv_at hl 3 rfl) ?_
          refine lv_icmp_ge (tgt := 119) hx hb dX11_spells_29 (by decide) (fun h9 => absurd h9 (by decide)) (fun _ => ?_)
          refine lv_iload hx hb dX11_spells_32 (lv_at hl 1 rfl) ?_
          refine lv_if_eq (tgt := 119) hx hb dX11_spells_34 (by decide) (fun h9 => absurd h9 (by decide)) (fun _ => ?_)
          refine lv_aload_n hx hb dX11_spells_37 rfl (lv_at hl 2 rfl) ?_
          refine va_get (D := D) (ci := 11) (v := .ref mby) (C := RX11) (T := TX11) (N := 18) hx hb hts iw11 hown hK hP 0 rfl rfl 10 (by decide) fw3 (fun _ h9 => h9) rfl dX11_spells_38 ?_
          refine lv_aload_n hx hb dX11_spells_41 rfl (lv_at hl 2 rfl) ?_
          refine va_get (D := D) (ci := 11) (v := .int (nI ta)) (C := RX11) (T := TX11) (N := 18) hx hb hts iw11 hown hK hP 0 rfl rfl 12 (by decide) fw4 (fun _ h9 => h9) rfl dX11_spells_42 ?_
          refine lv_iload hx hb dX11_spells_45 (lv_at hl 0 rfl) ?_
          refine lv_iadd hx hb dX11_spells_47 ?_
          rw [show (nI ta) + 2 = nI (ta + 2) from nI_add ta 2]
          refine va_iald hx hb hK hP 1 0 rfl rfl (vp_in_nI (by omega) (by decide)) dX11_spells_48 ?_
          rw [nI_clamp (n := (ta + 2)) (by omega)]
          refine lv_iload hx hb dX11_spells_49 (lv_at hl 0 rfl) ?_
          refine lv_if_ne (tgt := 58) hx hb dX11_spells_51 (by decide) (fun _ => ?_) (fun h9 => absurd h9 (by decide))
          refine lv_iload hx hb dX11_spells_58 (lv_at hl 0 rfl) ?_
          refine lv_iconst (v := 1) hx hb dX11_spells_60 (by decide) ?_
          refine lv_icmp_ne (tgt := 68) hx hb dX11_spells_61 (by decide) (fun _ => ?_) (fun h9 => absurd h9 (by decide))
          refine lv_iload hx hb dX11_spells_68 (lv_at hl 0 rfl) ?_
          refine lv_iconst (v := 2) hx hb dX11_spells_70 (by decide) ?_
          refine lv_icmp_ne (tgt := 79) hx hb dX11_spells_71 (by decide) (fun h9 => absurd h9 (by decide)) (fun _ => ?_)
          refine lv_iload hx hb dX11_spells_74 (lv_at hl 6 rfl) ?_
          refine lv_goto (tgt := 103) hx hb dX11_spells_76 (by decide) ?_
          refine lv_icmp_ne (tgt := 110) hx hb dX11_spells_103 (by decide) (fun h9 => ?_) (fun h10 => ?_)
          · skip
            refine lv_iconst (v := 0) hx hb dX11_spells_110 (by decide) ?_
            refine lv_istore (lv' := [(8, .int 0), (9, .int 2), (0, .ref mo), (1, .int 5), (2, .int 103), (3, .int 108), (4, .int 101), (5, .int 97), (6, .int 110), (7, .int 0)]) hx hb dX11_spells_111 hl (by decide) rfl (fun ls hl => ?_)
            refine lv_iinc (v := 3) (lv' := [(9, .int 3), (8, .int 0), (0, .ref mo), (1, .int 5), (2, .int 103), (3, .int 108), (4, .int 101), (5, .int 97), (6, .int 110), (7, .int 0)]) hx hb dX11_spells_113 hl (k := 1) rfl (by decide) (by decide) rfl (fun ls hl => ?_)
            refine lv_goto (tgt := 26) hx hb dX11_spells_116 (by decide) ?_
            refine lv_iload hx hb dX11_spells_26 (lv_at hl 0 rfl) ?_
            refine lv_iload_n hx hb dX11_spells_28 rfl (lv_at hl 3 rfl) ?_
            refine lv_icmp_ge (tgt := 119) hx hb dX11_spells_29 (by decide) (fun h9 => absurd h9 (by decide)) (fun _ => ?_)
            refine lv_iload hx hb dX11_spells_32 (lv_at hl 1 rfl) ?_
            refine lv_if_eq (tgt := 119) hx hb dX11_spells_34 (by decide) (fun _ => ?_) (fun h9 => absurd h9 (by decide))
            refine lv_iload hx hb dX11_spells_119 (lv_at hl 1 rfl) ?_
            exact W.zret (v := 0) hx hb hr (by decide) (fun tZ ht hW => ⟨⟨0, (), rfl, Or.inr (⟨ks_no2 (fun q9 => absurd (of_decide_eq_true q9).2.2.2.1 h9), rfl⟩), by rw [ht]; exact hP.sub [0, 1] rfl, hD.sub [0, 1] (by decide) rfl⟩, hS.F ht⟩) hS.2.2 dX11_spells_121
          · skip
            refine lv_iconst (v := 1) hx hb dX11_spells_106 (by decide) ?_
            refine lv_goto (tgt := 111) hx hb dX11_spells_107 (by decide) ?_
            refine lv_istore (lv' := [(8, .int 1), (9, .int 2), (0, .ref mo), (1, .int 5), (2, .int 103), (3, .int 108), (4, .int 101), (5, .int 97), (6, .int 110), (7, .int 0)]) hx hb dX11_spells_111 hl (by decide) rfl (fun ls hl => ?_)
            refine lv_iinc (v := 3) (lv' := [(9, .int 3), (8, .int 1), (0, .ref mo), (1, .int 5), (2, .int 103), (3, .int 108), (4, .int 101), (5, .int 97), (6, .int 110), (7, .int 0)]) hx hb dX11_spells_113 hl (k := 1) rfl (by decide) (by decide) rfl (fun ls hl => ?_)
            refine lv_goto (tgt := 26) hx hb dX11_spells_116 (by decide) ?_
            refine lv_iload hx hb dX11_spells_26 (lv_at hl 0 rfl) ?_
            refine lv_iload_n hx hb dX11_spells_28 rfl (lv_at hl 3 rfl) ?_
            refine lv_icmp_ge (tgt := 119) hx hb dX11_spells_29 (by decide) (fun h9 => absurd h9 (by decide)) (fun _ => ?_)
            refine lv_iload hx hb dX11_spells_32 (lv_at hl 1 rfl) ?_
            refine lv_if_eq (tgt := 119) hx hb dX11_spells_34 (by decide) (fun h9 => absurd h9 (by decide)) (fun _ => ?_)
            refine lv_aload_n hx hb dX11_spells_37 rfl (lv_at hl 2 rfl) ?_
            refine va_get (D := D) (ci := 11) (v := .ref mby) (C := RX11) (T := TX11) (N := 18) hx hb hts iw11 hown hK hP 0 rfl rfl 10 (by decide) fw3 (fun _ h9 => h9) rfl dX11_spells_38 ?_
            refine lv_aload_n hx hb dX11_spells_41 rfl (lv_at hl 2 rfl) ?_
            refine va_get (D := D) (ci := 11) (v := .int (nI ta)) (C := RX11) (T := TX11) (N := 18) hx hb hts iw11 hown hK hP 0 rfl rfl 12 (by decide) fw4 (fun _ h9 => h9) rfl dX11_spells_42 ?_
            refine lv_iload hx hb dX11_spells_45 (lv_at hl 0 rfl) ?_
            refine lv_iadd hx hb dX11_spells_47 ?_
            rw [show (nI ta) + 3 = nI (ta + 3) from nI_add ta 3]
            refine va_iald hx hb hK hP 1 0 rfl rfl (vp_in_nI (by omega) (by decide)) dX11_spells_48 ?_
            rw [nI_clamp (n := (ta + 3)) (by omega)]
            refine lv_iload hx hb dX11_spells_49 (lv_at hl 0 rfl) ?_
            refine lv_if_ne (tgt := 58) hx hb dX11_spells_51 (by decide) (fun _ => ?_) (fun h9 => absurd h9 (by decide))
            refine lv_iload hx hb dX11_spells_58 (lv_at hl 0 rfl) ?_
            refine lv_iconst (v := 1) hx hb dX11_spells_60 (by decide) ?_
            refine lv_icmp_ne (tgt := 68) hx hb dX11_spells_61 (by decide) (fun _ => ?_) (fun h9 => absurd h9 (by decide))
            refine lv_iload hx hb dX11_spells_68 (lv_at hl 0 rfl) ?_
            refine lv_iconst (v := 2) hx hb dX11_spells_70 (by decide) ?_
            refine lv_icmp_ne (tgt := 79) hx hb dX11_spells_71 (by decide) (fun _ => ?_) (fun h9 => absurd h9 (by decide))
            refine lv_iload hx hb dX11_spells_79 (lv_at hl 0 rfl) ?_
            refine lv_iconst (v := 3) hx hb dX11_spells_81 (by decide) ?_
            refine lv_icmp_ne (tgt := 90) hx hb dX11_spells_82 (by decide) (fun h9 => absurd h9 (by decide)) (fun _ => ?_)
            refine lv_iload hx hb dX11_spells_85 (lv_at hl 7 rfl) ?_
            refine lv_goto (tgt := 103) hx hb dX11_spells_87 (by decide) ?_
            refine lv_icmp_ne (tgt := 110) hx hb dX11_spells_103 (by decide) (fun h11 => ?_) (fun h12 => ?_)
            · skip
              refine lv_iconst (v := 0) hx hb dX11_spells_110 (by decide) ?_
              refine lv_istore (lv' := [(8, .int 0), (9, .int 3), (0, .ref mo), (1, .int 5), (2, .int 103), (3, .int 108), (4, .int 101), (5, .int 97), (6, .int 110), (7, .int 0)]) hx hb dX11_spells_111 hl (by decide) rfl (fun ls hl => ?_)
              refine lv_iinc (v := 4) (lv' := [(9, .int 4), (8, .int 0), (0, .ref mo), (1, .int 5), (2, .int 103), (3, .int 108), (4, .int 101), (5, .int 97), (6, .int 110), (7, .int 0)]) hx hb dX11_spells_113 hl (k := 1) rfl (by decide) (by decide) rfl (fun ls hl => ?_)
              refine lv_goto (tgt := 26) hx hb dX11_spells_116 (by decide) ?_
              refine lv_iload hx hb dX11_spells_26 (lv_at hl 0 rfl) ?_
              refine lv_iload_n hx hb dX11_spells_28 rfl (lv_at hl 3 rfl) ?_
              refine lv_icmp_ge (tgt := 119) hx hb dX11_spells_29 (by decide) (fun h9 => absurd h9 (by decide)) (fun _ => ?_)
              refine lv_iload hx hb dX11_spells_32 (lv_at hl 1 rfl) ?_
              refine lv_if_eq (tgt := 119) hx hb dX11_spells_34 (by decide) (fun _ => ?_) (fun h9 => absurd h9 (by decide))
              refine lv_iload hx hb dX11_spells_119 (lv_at hl 1 rfl) ?_
              exact W.zret (v := 0) hx hb hr (by decide) (fun tZ ht hW => ⟨⟨0, (), rfl, Or.inr (⟨ks_no2 (fun q9 => absurd (of_decide_eq_true q9).2.2.2.2.1 h11), rfl⟩), by rw [ht]; exact hP.sub [0, 1] rfl, hD.sub [0, 1] (by decide) rfl⟩, hS.F ht⟩) hS.2.2 dX11_spells_121
            · skip
              refine lv_iconst (v := 1) hx hb dX11_spells_106 (by decide) ?_
              refine lv_goto (tgt := 111) hx hb dX11_spells_107 (by decide) ?_
              refine lv_istore (lv' := [(8, .int 1), (9, .int 3), (0, .ref mo), (1, .int 5), (2, .int 103), (3, .int 108), (4, .int 101), (5, .int 97), (6, .int 110), (7, .int 0)]) hx hb dX11_spells_111 hl (by decide) rfl (fun ls hl => ?_)
              refine lv_iinc (v := 4) (lv' := [(9, .int 4), (8, .int 1), (0, .ref mo), (1, .int 5), (2, .int 103), (3, .int 108), (4, .int 101), (5, .int 97), (6, .int 110), (7, .int 0)]) hx hb dX11_spells_113 hl (k := 1) rfl (by decide) (by decide) rfl (fun ls hl => ?_)
              refine lv_goto (tgt := 26) hx hb dX11_spells_116 (by decide) ?_
              refine lv_iload hx hb dX11_spells_26 (lv_at hl 0 rfl) ?_
              refine lv_iload_n hx hb dX11_spells_28 rfl (lv_at hl 3 rfl) ?_
              refine lv_icmp_ge (tgt := 119) hx hb dX11_spells_29 (by decide) (fun h9 => absurd h9 (by decide)) (fun _ => ?_)
              refine lv_iload hx hb dX11_spells_32 (lv_at hl 1 rfl) ?_
              refine lv_if_eq (tgt := 119) hx hb dX11_spells_34 (by decide) (fun h9 => absurd h9 (by decide)) (fun _ => ?_)
              refine lv_aload_n hx hb dX11_spells_37 rfl (lv_at hl 2 rfl) ?_
              refine va_get (D := D) (ci := 11) (v := .ref mby) (C := RX11) (T := TX11) (N := 18) hx hb hts iw11 hown hK hP 0 rfl rfl 10 (by decide) fw3 (fun _ h9 => h9) rfl dX11_spells_38 ?_
              refine lv_aload_n hx hb dX11_spells_41 rfl (lv_at hl 2 rfl) ?_
              refine va_get (D := D) (ci := 11) (v := .int (nI ta)) (C := RX11) (T := TX11) (N := 18) hx hb hts iw11 hown hK hP 0 rfl rfl 12 (by decide) fw4 (fun _ h9 => h9) rfl dX11_spells_42 ?_
              refine lv_iload hx hb dX11_spells_45 (lv_at hl 0 rfl) ?_
              refine lv_iadd hx hb dX11_spells_47 ?_
              rw [show (nI ta) + 4 = nI (ta + 4) from nI_add ta 4]
              refine va_iald hx hb hK hP 1 0 rfl rfl (vp_in_nI (by omega) (by decide)) dX11_spells_48 ?_
              rw [nI_clamp (n := (ta + 4)) (by omega)]
              refine lv_iload hx hb dX11_spells_49 (lv_at hl 0 rfl) ?_
              refine lv_if_ne (tgt := 58) hx hb dX11_spells_51 (by decide) (fun _ => ?_) (fun h9 => absurd h9 (by decide))
              refine lv_iload hx hb dX11_spells_58 (lv_at hl 0 rfl) ?_
              refine lv_iconst (v := 1) hx hb dX11_spells_60 (by decide) ?_
              refine lv_icmp_ne (tgt := 68) hx hb dX11_spells_61 (by decide) (fun _ => ?_) (fun h9 => absurd h9 (by decide))
              refine lv_iload hx hb dX11_spells_68 (lv_at hl 0 rfl) ?_
              refine lv_iconst (v := 2) hx hb dX11_spells_70 (by decide) ?_
              refine lv_icmp_ne (tgt := 79) hx hb dX11_spells_71 (by decide) (fun _ => ?_) (fun h9 => absurd h9 (by decide))
              refine lv_iload hx hb dX11_spells_79 (lv_at hl 0 rfl) ?_
              refine lv_iconst (v := 3) hx hb dX11_spells_81 (by decide) ?_
              refine lv_icmp_ne (tgt := 90) hx hb dX11_spells_82 (by decide) (fun _ => ?_) (fun h9 => absurd h9 (by decide))
              refine lv_iload hx hb dX11_spells_90 (lv_at hl 0 rfl) ?_
              refine lv_iconst (v := 4) hx hb dX11_spells_92 (by decide) ?_
              refine lv_icmp_ne (tgt := 101) hx hb dX11_spells_93 (by decide) (fun h9 => absurd h9 (by decide)) (fun _ => ?_)
              refine lv_iload hx hb dX11_spells_96 (lv_at hl 8 rfl) ?_
              refine lv_goto (tgt := 103) hx hb dX11_spells_98 (by decide) ?_
              refine lv_icmp_ne (tgt := 110) hx hb dX11_spells_103 (by decide) (fun h13 => ?_) (fun h14 => ?_)
              · skip
                refine lv_iconst (v := 0) hx hb dX11_spells_110 (by decide) ?_
                refine lv_istore (lv' := [(8, .int 0), (9, .int 4), (0, .ref mo), (1, .int 5), (2, .int 103), (3, .int 108), (4, .int 101), (5, .int 97), (6, .int 110), (7, .int 0)]) hx hb dX11_spells_111 hl (by decide) rfl (fun ls hl => ?_)
                refine lv_iinc (v := 5) (lv' := [(9, .int 5), (8, .int 0), (0, .ref mo), (1, .int 5), (2, .int 103), (3, .int 108), (4, .int 101), (5, .int 97), (6, .int 110), (7, .int 0)]) hx hb dX11_spells_113 hl (k := 1) rfl (by decide) (by decide) rfl (fun ls hl => ?_)
                refine lv_goto (tgt := 26) hx hb dX11_spells_116 (by decide) ?_
                refine lv_iload hx hb dX11_spells_26 (lv_at hl 0 rfl) ?_
                refine lv_iload_n hx hb dX11_spells_28 rfl (lv_at hl 3 rfl) ?_
                refine lv_icmp_ge (tgt := 119) hx hb dX11_spells_29 (by decide) (fun _ => ?_) (fun h9 => absurd h9 (by decide))
                refine lv_iload hx hb dX11_spells_119 (lv_at hl 1 rfl) ?_
                exact W.zret (v := 0) hx hb hr (by decide) (fun tZ ht hW => ⟨⟨0, (), rfl, Or.inr (⟨ks_no2 (fun q9 => absurd (of_decide_eq_true q9).2.2.2.2.2 h13), rfl⟩), by rw [ht]; exact hP.sub [0, 1] rfl, hD.sub [0, 1] (by decide) rfl⟩, hS.F ht⟩) hS.2.2 dX11_spells_121
              · skip
                refine lv_iconst (v := 1) hx hb dX11_spells_106 (by decide) ?_
                refine lv_goto (tgt := 111) hx hb dX11_spells_107 (by decide) ?_
                refine lv_istore (lv' := [(8, .int 1), (9, .int 4), (0, .ref mo), (1, .int 5), (2, .int 103), (3, .int 108), (4, .int 101), (5, .int 97), (6, .int 110), (7, .int 0)]) hx hb dX11_spells_111 hl (by decide) rfl (fun ls hl => ?_)
                refine lv_iinc (v := 5) (lv' := [(9, .int 5), (8, .int 1), (0, .ref mo), (1, .int 5), (2, .int 103), (3, .int 108), (4, .int 101), (5, .int 97), (6, .int 110), (7, .int 0)]) hx hb dX11_spells_113 hl (k := 1) rfl (by decide) (by decide) rfl (fun ls hl => ?_)
                refine lv_goto (tgt := 26) hx hb dX11_spells_116 (by decide) ?_
                refine lv_iload hx hb dX11_spells_26 (lv_at hl 0 rfl) ?_
                refine lv_iload_n hx hb dX11_spells_28 rfl (lv_at hl 3 rfl) ?_
                refine lv_icmp_ge (tgt := 119) hx hb dX11_spells_29 (by decide) (fun _ => ?_) (fun h9 => absurd h9 (by decide))
                refine lv_iload hx hb dX11_spells_119 (lv_at hl 1 rfl) ?_
                exact W.zret (v := 1) hx hb hr (by decide) (fun tZ ht hW => ⟨⟨1, (), rfl, Or.inl ⟨ks_and h2 (decide_eq_true ⟨by omega, h6, h8, h10, h12, h14⟩), rfl⟩, by rw [ht]; exact hP.sub [0, 1] rfl, hD.sub [0, 1] (by decide) rfl⟩, hS.F ht⟩) hS.2.2 dX11_spells_121

set_option maxHeartbeats 4000000 in
set_option maxRecDepth 100000 in
theorem gr_Msp4 (l : Launch) (D : va_G) (y : Nat → ClassId) (mo : Nat) (to : Nat) (ke : Nat) (ik : Nat) (mrf : Nat) (ha : Nat) (r0 : Nat) (mbr : Nat) (mbp : Nat) (mby : Nat) (an : Nat) (va : Nat) (mab : Int64) (mbl : Int64) (bl : Nat) (ta : Nat) (tl : Nat) (tk : Nat) (vv : Int32) (fmb : Nat → Int32) (e : Nat) (hbl : bl ≤ 150) (he : ta + tl = e) (heb : e ≤ bl) (htk : tk ≤ 4) : kw_Mi l yX11_spells wsX11_spells ({ frames := 1, cells := 0, slots := 0, locals := 60 }) D y [.ref mo, .int 6, .int 103, .int 108, .int 101, .int 97, .int 110, .int 101] [(mo, .inr (11, [.ref to, .ref ke, .ref ik, .ref mrf, .long mab, .long mbl, .ref ha, .ref r0, .ref mbr, .ref mbp, .ref mby, .int (nI bl), .int (nI ta), .int (nI tl), .int (nI tk), .int vv, .ref an, .ref va])), (mby, .inl (y 0, 150, .inl fmb))] (fun (r : Int32) (u : Unit) => (ks_w4 fmb tk ta e = true ∧ r = 1) ∨ (¬ ks_w4 fmb tk ta e = true ∧ r = 0)) (fun _ => [(mo, .inr (11, [.ref to, .ref ke, .ref ik, .ref mrf, .long mab, .long mbl, .ref ha, .ref r0, .ref mbr, .ref mbp, .ref mby, .int (nI bl), .int (nI ta), .int (nI tl), .int (nI tk), .int vv, .ref an, .ref va])), (mby, .inl (y 0, 150, .inl fmb))]) 0 0 := by
  refine kw_Mi.of (cc := cX11_spells) (maxL := 10) (ret := (some .boolean)) (by decide) rfl ?_
  intro pZ eZ s mZ beZ meZ cZ A hE
  obtain ⟨hx, hb, hr, hml, hts, hown, hlocks, hin, hA, hP, hD, hK, hN⟩ := hE
  have hS : va_S A s.heap s.heap [] := va_S.rf
  have hl := lv_entry ([.ref mo, .int 6, .int 103, .int 108, .int 101, .int 97, .int 110, .int 101]) (n := 10) (Nat.le_of_ble_eq_true rfl)
  rw [lg_entry_eq]
  generalize (lg_sl ([.ref mo, .int 6, .int 103, .int 108, .int 101, .int 97, .int 110, .int 101]) ++ List.replicate (10 - (lg_sl ([.ref mo, .int 6, .int 103, .int 108, .int 101, .int 97, .int 110, .int 101])).length) Slot.unset).toArray = ls at hl ⊢
  have hl : lv_has ls 10 [(0, .ref mo), (1, .int 6), (2, .int 103), (3, .int 108), (4, .int 101), (5, .int 97), (6, .int 110), (7, .int 101)] := hl
  have fw1 := hts (.fieldLink RX11 228 "GleanDuskModel" "token" "I") (List.mem_of_getElem? (i := 1) rfl)
  have fw2 := hts (.fieldLink RX11 225 "GleanDuskModel" "tokenLong" "I") (List.mem_of_getElem? (i := 2) rfl)
  have fw3 := hts (.fieldLink RX11 39 "GleanDuskModel" "bytes" "[I") (List.mem_of_getElem? (i := 3) rfl)
  have fw4 := hts (.fieldLink RX11 222 "GleanDuskModel" "tokenAt" "I") (List.mem_of_getElem? (i := 4) rfl)
  have iw11 : ∀ w ∈ wsX110, w ∈ wsX11_spells := fun _ h => List.mem_cons_of_mem _ (List.mem_append_right _ h)
  refine lv_aload_n hx hb dX11_spells_0 rfl (lv_at hl 0 rfl) ?_
  refine va_get (D := D) (ci := 11) (v := .int (nI tk)) (C := RX11) (T := TX11) (N := 18) hx hb hts iw11 hown hK hP 0 rfl rfl 14 (by decide) fw1 (fun _ h9 => h9) rfl dX11_spells_1 ?_
  refine lv_iconst (v := 1) hx hb dX11_spells_4 (by decide) ?_
  refine lv_icmp_ne (tgt := 20) hx hb dX11_spells_5 (by decide) (fun h1 => ?_) (fun h2 => ?_)
  · skip
    have h1 : ¬ tk = 1 := fun q9 => h1 ((nI_eq (a := tk) (b := 1) (by omega) (by omega)).mpr q9)
    refine lv_iconst (v := 0) hx hb dX11_spells_20 (by decide) ?_
    refine lv_istore (lv' := [(8, .int 0), (0, .ref mo), (1, .int 6), (2, .int 103), (3, .int 108), (4, .int 101), (5, .int 97), (6, .int 110), (7, .int 101)]) hx hb dX11_spells_21 hl (by decide) rfl (fun ls hl => ?_)
    refine lv_iconst (v := 0) hx hb dX11_spells_23 (by decide) ?_
    refine lv_istore (lv' := [(9, .int 0), (8, .int 0), (0, .ref mo), (1, .int 6), (2, .int 103), (3, .int 108), (4, .int 101), (5, .int 97), (6, .int 110), (7, .int 101)]) hx hb dX11_spells_24 hl (by decide) rfl (fun ls hl => ?_)
    refine lv_iload hx hb dX11_spells_26 (lv_at hl 0 rfl) ?_
    refine lv_iload_n hx hb dX11_spells_28 rfl (lv_at hl 3 rfl) ?_
    refine lv_icmp_ge (tgt := 119) hx hb dX11_spells_29 (by decide) (fun h9 => absurd h9 (by decide)) (fun _ => ?_)
    refine lv_iload hx hb dX11_spells_32 (lv_at hl 1 rfl) ?_
    refine lv_if_eq (tgt := 119) hx hb dX11_spells_34 (by decide) (fun _ => ?_) (fun h9 => absurd h9 (by decide))
    refine lv_iload hx hb dX11_spells_119 (lv_at hl 1 rfl) ?_
    exact W.zret (v := 0) hx hb hr (by decide) (fun tZ ht hW => ⟨⟨0, (), rfl, Or.inr (⟨ks_no h1, rfl⟩), by rw [ht]; exact hP.sub [0, 1] rfl, hD.sub [0, 1] (by decide) rfl⟩, hS.F ht⟩) hS.2.2 dX11_spells_121
  · skip
    have h2 : tk = 1 := (nI_eq (a := tk) (b := 1) (by omega) (by omega)).mp h2
    refine lv_aload_n hx hb dX11_spells_8 rfl (lv_at hl 0 rfl) ?_
    refine va_get (D := D) (ci := 11) (v := .int (nI tl)) (C := RX11) (T := TX11) (N := 18) hx hb hts iw11 hown hK hP 0 rfl rfl 13 (by decide) fw2 (fun _ h9 => h9) rfl dX11_spells_9 ?_
    refine lv_iload_n hx hb dX11_spells_12 rfl (lv_at hl 1 rfl) ?_
    refine lv_icmp_ne (tgt := 20) hx hb dX11_spells_13 (by decide) (fun h3 => ?_) (fun h4 => ?_)
    · skip
      have h3 : ¬ tl = 6 := fun q9 => h3 ((nI_eq (a := tl) (b := 6) (by omega) (by omega)).mpr q9)
      refine lv_iconst (v := 0) hx hb dX11_spells_20 (by decide) ?_
      refine lv_istore (lv' := [(8, .int 0), (0, .ref mo), (1, .int 6), (2, .int 103), (3, .int 108), (4, .int 101), (5, .int 97), (6, .int 110), (7, .int 101)]) hx hb dX11_spells_21 hl (by decide) rfl (fun ls hl => ?_)
      refine lv_iconst (v := 0) hx hb dX11_spells_23 (by decide) ?_
      refine lv_istore (lv' := [(9, .int 0), (8, .int 0), (0, .ref mo), (1, .int 6), (2, .int 103), (3, .int 108), (4, .int 101), (5, .int 97), (6, .int 110), (7, .int 101)]) hx hb dX11_spells_24 hl (by decide) rfl (fun ls hl => ?_)
      refine lv_iload hx hb dX11_spells_26 (lv_at hl 0 rfl) ?_
      refine lv_iload_n hx hb dX11_spells_28 rfl (lv_at hl 3 rfl) ?_
      refine lv_icmp_ge (tgt := 119) hx hb dX11_spells_29 (by decide) (fun h9 => absurd h9 (by decide)) (fun _ => ?_)
      refine lv_iload hx hb dX11_spells_32 (lv_at hl 1 rfl) ?_
      refine lv_if_eq (tgt := 119) hx hb dX11_spells_34 (by decide) (fun _ => ?_) (fun h9 => absurd h9 (by decide))
      refine lv_iload hx hb dX11_spells_119 (lv_at hl 1 rfl) ?_
      exact W.zret (v := 0) hx hb hr (by decide) (fun tZ ht hW => ⟨⟨0, (), rfl, Or.inr (⟨ks_no2 (fun q9 => absurd (of_decide_eq_true q9).1 (by omega)), rfl⟩), by rw [ht]; exact hP.sub [0, 1] rfl, hD.sub [0, 1] (by decide) rfl⟩, hS.F ht⟩) hS.2.2 dX11_spells_121
    · skip
      have h4 : tl = 6 := (nI_eq (a := tl) (b := 6) (by omega) (by omega)).mp h4
      refine lv_iconst (v := 1) hx hb dX11_spells_16 (by decide) ?_
      refine lv_goto (tgt := 21) hx hb dX11_spells_17 (by decide) ?_
      refine lv_istore (lv' := [(8, .int 1), (0, .ref mo), (1, .int 6), (2, .int 103), (3, .int 108), (4, .int 101), (5, .int 97), (6, .int 110), (7, .int 101)]) hx hb dX11_spells_21 hl (by decide) rfl (fun ls hl => ?_)
      refine lv_iconst (v := 0) hx hb dX11_spells_23 (by decide) ?_
      refine lv_istore (lv' := [(9, .int 0), (8, .int 1), (0, .ref mo), (1, .int 6), (2, .int 103), (3, .int 108), (4, .int 101), (5, .int 97), (6, .int 110), (7, .int 101)]) hx hb dX11_spells_24 hl (by decide) rfl (fun ls hl => ?_)
      refine lv_iload hx hb dX11_spells_26 (lv_at hl 0 rfl) ?_
      refine lv_iload_n hx hb dX11_spells_28 rfl (lv_at hl 3 rfl) ?_
      refine lv_icmp_ge (tgt := 119) hx hb dX11_spells_29 (by decide) (fun h9 => absurd h9 (by decide)) (fun _ => ?_)
      refine lv_iload hx hb dX11_spells_32 (lv_at hl 1 rfl) ?_
      refine lv_if_eq (tgt := 119) hx hb dX11_spells_34 (by decide) (fun h9 => absurd h9 (by decide)) (fun _ => ?_)
      refine lv_aload_n hx hb dX11_spells_37 rfl (lv_at hl 2 rfl) ?_
      refine va_get (D := D) (ci := 11) (v := .ref mby) (C := RX11) (T := TX11) (N := 18) hx hb hts iw11 hown hK hP 0 rfl rfl 10 (by decide) fw3 (fun _ h9 => h9) rfl dX11_spells_38 ?_
      refine lv_aload_n hx hb dX11_spells_41 rfl (lv_at hl 2 rfl) ?_
      refine va_get (D := D) (ci := 11) (v := .int (nI ta)) (C := RX11) (T := TX11) (N := 18) hx hb hts iw11 hown hK hP 0 rfl rfl 12 (by decide) fw4 (fun _ h9 => h9) rfl dX11_spells_42 ?_
      refine lv_iload hx hb dX11_spells_45 (lv_at hl 0 rfl) ?_
      refine lv_iadd hx hb dX11_spells_47 ?_
      rw [show (nI ta) + 0 = nI (ta) from nI_add ta 0]
      refine va_iald hx hb hK hP 1 0 rfl rfl (vp_in_nI (by omega) (by decide)) dX11_spells_48 ?_
      rw [nI_clamp (n := ta) (by omega)]
      refine lv_iload hx hb dX11_spells_49 (lv_at hl 0 rfl) ?_
      refine lv_if_ne (tgt := 58) hx hb dX11_spells_51 (by decide) (fun h9 => absurd h9 (by decide)) (fun _ => ?_)
      refine lv_iload_n hx hb dX11_spells_54 rfl (lv_at hl 4 rfl) ?_
      refine lv_goto (tgt := 103) hx hb dX11_spells_55 (by decide) ?_
      refine lv_icmp_ne (tgt := 110) hx hb dX11_spells_103 (by decide) (fun h5 => ?_) (fun h6 => ?_)
      · skip
        refine lv_iconst (v := 0) hx hb dX11_spells_110 (by decide) ?_
        refine lv_istore (lv' := [(8, .int 0), (9, .int 0), (0, .ref mo), (1, .int 6), (2, .int 103), (3, .int 108), (4, .int 101), (5, .int 97), (6, .int 110), (7, .int 101)]) hx hb dX11_spells_111 hl (by decide) rfl (fun ls hl => ?_)
        refine lv_iinc (v := 1) (lv' := [(9, .int 1), (8, .int 0), (0, .ref mo), (1, .int 6), (2, .int 103), (3, .int 108), (4, .int 101), (5, .int 97), (6, .int 110), (7, .int 101)]) hx hb dX11_spells_113 hl (k := 1) rfl (by decide) (by decide) rfl (fun ls hl => ?_)
        refine lv_goto (tgt := 26) hx hb dX11_spells_116 (by decide) ?_
        refine lv_iload hx hb dX11_spells_26 (lv_at hl 0 rfl) ?_
        refine lv_iload_n hx hb dX11_spells_28 rfl (lv_at hl 3 rfl) ?_
        refine lv_icmp_ge (tgt := 119) hx hb dX11_spells_29 (by decide) (fun h9 => absurd h9 (by decide)) (fun _ => ?_)
        refine lv_iload hx hb dX11_spells_32 (lv_at hl 1 rfl) ?_
        refine lv_if_eq (tgt := 119) hx hb dX11_spells_34 (by decide) (fun _ => ?_) (fun h9 => absurd h9 (by decide))
        refine lv_iload hx hb dX11_spells_119 (lv_at hl 1 rfl) ?_
        exact W.zret (v := 0) hx hb hr (by decide) (fun tZ ht hW => ⟨⟨0, (), rfl, Or.inr (⟨ks_no2 (fun q9 => absurd (of_decide_eq_true q9).2.1 h5), rfl⟩), by rw [ht]; exact hP.sub [0, 1] rfl, hD.sub [0, 1] (by decide) rfl⟩, hS.F ht⟩) hS.2.2 dX11_spells_121
      · skip
        refine lv_iconst (v := 1) hx hb dX11_spells_106 (by decide) ?_
        refine lv_goto (tgt := 111) hx hb dX11_spells_107 (by decide) ?_
        refine lv_istore (lv' := [(8, .int 1), (9, .int 0), (0, .ref mo), (1, .int 6), (2, .int 103), (3, .int 108), (4, .int 101), (5, .int 97), (6, .int 110), (7, .int 101)]) hx hb dX11_spells_111 hl (by decide) rfl (fun ls hl => ?_)
        refine lv_iinc (v := 1) (lv' := [(9, .int 1), (8, .int 1), (0, .ref mo), (1, .int 6), (2, .int 103), (3, .int 108), (4, .int 101), (5, .int 97), (6, .int 110), (7, .int 101)]) hx hb dX11_spells_113 hl (k := 1) rfl (by decide) (by decide) rfl (fun ls hl => ?_)
        refine lv_goto (tgt := 26) hx hb dX11_spells_116 (by decide) ?_
        refine lv_iload hx hb dX11_spells_26 (lv_at hl 0 rfl) ?_
        refine lv_iload_n hx hb dX11_spells_28 rfl (lv_at hl 3 rfl) ?_
        refine lv_icmp_ge (tgt := 119) hx hb dX11_spells_29 (by decide) (fun h9 => absurd h9 (by decide)) (fun _ => ?_)
        refine lv_iload hx hb dX11_spells_32 (lv_at hl 1 rfl) ?_
        refine lv_if_eq (tgt := 119) hx hb dX11_spells_34 (by decide) (fun h9 => absurd h9 (by decide)) (fun _ => ?_)
        refine lv_aload_n hx hb dX11_spells_37 rfl (lv_at hl 2 rfl) ?_
        refine va_get (D := D) (ci := 11) (v := .ref mby) (C := RX11) (T := TX11) (N := 18) hx hb hts iw11 hown hK hP 0 rfl rfl 10 (by decide) fw3 (fun _ h9 => h9) rfl dX11_spells_38 ?_
        refine lv_aload_n hx hb dX11_spells_41 rfl (lv_at hl 2 rfl) ?_
        refine va_get (D := D) (ci := 11) (v := .int (nI ta)) (C := RX11) (T := TX11) (N := 18) hx hb hts iw11 hown hK hP 0 rfl rfl 12 (by decide) fw4 (fun _ h9 => h9) rfl dX11_spells_42 ?_
        refine lv_iload hx hb dX11_spells_45 (lv_at hl 0 rfl) ?_
        refine lv_iadd hx hb dX11_spells_47 ?_
        rw [show (nI ta) + 1 = nI (ta + 1) from nI_add ta 1]
        refine va_iald hx hb hK hP 1 0 rfl rfl (vp_in_nI (by omega) (by decide)) dX11_spells_48 ?_
        rw [nI_clamp (n := (ta + 1)) (by omega)]
        refine lv_iload hx hb dX11_spells_49 (lv_at hl 0 rfl) ?_
        refine lv_if_ne (tgt := 58) hx hb dX11_spells_51 (by decide) (fun _ => ?_) (fun h9 => absurd h9 (by decide))
        refine lv_iload hx hb dX11_spells_58 (lv_at hl 0 rfl) ?_
        refine lv_iconst (v := 1) hx hb dX11_spells_60 (by decide) ?_
        refine lv_icmp_ne (tgt := 68) hx hb dX11_spells_61 (by decide) (fun h9 => absurd h9 (by decide)) (fun _ => ?_)
        refine lv_iload_n hx hb dX11_spells_64 rfl (lv_at hl 5 rfl) ?_
        refine lv_goto (tgt := 103) hx hb dX11_spells_65 (by decide) ?_
        refine lv_icmp_ne (tgt := 110) hx hb dX11_spells_103 (by decide) (fun h7 => ?_) (fun h8 => ?_)
        · skip
          refine lv_iconst (v := 0) hx hb dX11_spells_110 (by decide) ?_
          refine lv_istore (lv' := [(8, .int 0), (9, .int 1), (0, .ref mo), (1, .int 6), (2, .int 103), (3, .int 108), (4, .int 101), (5, .int 97), (6, .int 110), (7, .int 101)]) hx hb dX11_spells_111 hl (by decide) rfl (fun ls hl => ?_)
          refine lv_iinc (v := 2) (lv' := [(9, .int 2), (8, .int 0), (0, .ref mo), (1, .int 6), (2, .int 103), (3, .int 108), (4, .int 101), (5, .int 97), (6, .int 110), (7, .int 101)]) hx hb dX11_spells_113 hl (k := 1) rfl (by decide) (by decide) rfl (fun ls hl => ?_)
          refine lv_goto (tgt := 26) hx hb dX11_spells_116 (by decide) ?_
          refine lv_iload hx hb dX11_spells_26 (lv_at hl 0 rfl) ?_
          refine lv_iload_n hx hb dX11_spells_28 rfl (lv_at hl 3 rfl) ?_
          refine lv_icmp_ge (tgt := 119) hx hb dX11_spells_29 (by decide) (fun h9 => absurd h9 (by decide)) (fun _ => ?_)
          refine lv_iload hx hb dX11_spells_32 (lv_at hl 1 rfl) ?_
          refine lv_if_eq (tgt := 119) hx hb dX11_spells_34 (by decide) (fun _ => ?_) (fun h9 => absurd h9 (by decide))
          refine lv_iload hx hb dX11_spells_119 (lv_at hl 1 rfl) ?_
          exact W.zret (v := 0) hx hb hr (by decide) (fun tZ ht hW => ⟨⟨0, (), rfl, Or.inr (⟨ks_no2 (fun q9 => absurd (of_decide_eq_true q9).2.2.1 h7), rfl⟩), by rw [ht]; exact hP.sub [0, 1] rfl, hD.sub [0, 1] (by decide) rfl⟩, hS.F ht⟩) hS.2.2 dX11_spells_121
        · skip
          refine lv_iconst (v := 1) hx hb dX11_spells_106 (by decide) ?_
          refine lv_goto (tgt := 111) hx hb dX11_spells_107 (by decide) ?_
          refine lv_istore (lv' := [(8, .int 1), (9, .int 1), (0, .ref mo), (1, .int 6), (2, .int 103), (3, .int 108), (4, .int 101), (5, .int 97), (6, .int 110), (7, .int 101)]) hx hb dX11_spells_111 hl (by decide) rfl (fun ls hl => ?_)
          refine lv_iinc (v := 2) (lv' := [(9, .int 2), (8, .int 1), (0, .ref mo), (1, .int 6), (2, .int 103), (3, .int 108), (4, .int 101), (5, .int 97), (6, .int 110), (7, .int 101)]) hx hb dX11_spells_113 hl (k := 1) rfl (by decide) (by decide) rfl (fun ls hl => ?_)
          refine lv_goto (tgt := 26) hx hb dX11_spells_116 (by decide) ?_
          refine lv_iload hx hb dX11_spells_26 (lv_at hl 0 rfl) ?_
          refine lv_iload_n hx hb dX11_spells_28 rfl (lv_at hl 3 rfl) ?_
          refine lv_icmp_ge (tgt := 119) hx hb dX11_spells_29 (by decide) (fun h9 => absurd h9 (by decide)) (fun _ => ?_)
          refine lv_iload hx hb dX11_spells_32 (lv_at hl 1 rfl) ?_
          refine lv_if_eq (tgt := 119) hx hb dX11_spells_34 (by decide) (fun h9 => absurd h9 (by decide)) (fun _ => ?_)
          refine lv_aload_n hx hb dX11_spells_37 rfl (lv_at hl 2 rfl) ?_
          refine va_get (D := D) (ci := 11) (v := .ref mby) (C := RX11) (T := TX11) (N := 18) hx hb hts iw11 hown hK hP 0 rfl rfl 10 (by decide) fw3 (fun _ h9 => h9) rfl dX11_spells_38 ?_
          refine lv_aload_n hx hb dX11_spells_41 rfl (lv_at hl 2 rfl) ?_
          refine va_get (D := D) (ci := 11) (v := .int (nI ta)) (C := RX11) (T := TX11) (N := 18) hx hb hts iw11 hown hK hP 0 rfl rfl 12 (by decide) fw4 (fun _ h9 => h9) rfl dX11_spells_42 ?_
          refine lv_iload hx hb dX11_spells_45 (lv_at hl 0 rfl) ?_
          refine lv_iadd hx hb dX11_spells_47 ?_
          rw [show (nI ta) + 2 = nI (ta + 2) from nI_add ta 2]
          refine va_iald hx hb hK hP 1 0 rfl rfl (vp_in_nI (by omega) (by decide)) dX11_spells_48 ?_
          rw [nI_clamp (n := (ta + 2)) (by omega)]
          refine lv_iload hx hb dX11_spells_49 (lv_at hl 0 rfl) ?_
          refine lv_if_ne (tgt := 58) hx hb dX11_spells_51 (by decide) (fun _ => ?_) (fun h9 => absurd h9 (by decide))
          refine lv_iload hx hb dX11_spells_58 (lv_at hl 0 rfl) ?_
          refine lv_iconst (v := 1) hx hb dX11_spells_60 (by decide) ?_
          refine lv_icmp_ne (tgt := 68) hx hb dX11_spells_61 (by decide) (fun _ => ?_) (fun h9 => absurd h9 (by decide))
          refine lv_iload hx hb dX11_spells_68 (lv_at hl 0 rfl) ?_
          refine lv_iconst (v := 2) hx hb dX11_spells_70 (by decide) ?_
          refine lv_icmp_ne (tgt := 79) hx hb dX11_spells_71 (by decide) (fun h9 => absurd h9 (by decide)) (fun _ => ?_)
          refine lv_iload hx hb dX11_spells_74 (lv_at hl 6 rfl) ?_
          refine lv_goto (tgt := 103) hx hb dX11_spells_76 (by decide) ?_
          refine lv_icmp_ne (tgt := 110) hx hb dX11_spells_103 (by decide) (fun h9 => ?_) (fun h10 => ?_)
          · skip
            refine lv_iconst (v := 0) hx hb dX11_spells_110 (by decide) ?_
            refine lv_istore (lv' := [(8, .int 0), (9, .int 2), (0, .ref mo), (1, .int 6), (2, .int 103), (3, .int 108), (4, .int 101), (5, .int 97), (6, .int 110), (7, .int 101)]) hx hb dX11_spells_111 hl (by decide) rfl (fun ls hl => ?_)
            refine lv_iinc (v := 3) (lv' := [(9, .int 3), (8, .int 0), (0, .ref mo), (1, .int 6), (2, .int 103), (3, .int 108), (4, .int 101), (5, .int 97), (6, .int 110), (7, .int 101)]) hx hb dX11_spells_113 hl (k := 1) rfl (by decide) (by decide) rfl (fun ls hl => ?_)
            refine lv_goto (tgt := 26) hx hb dX11_spells_116 (by decide) ?_
            refine lv_iload hx hb dX11_spells_26 (lv_at hl 0 rfl) ?_
            refine lv_iload_n hx hb dX11_spells_28 rfl (lv_at hl 3 rfl) ?_
            refine lv_icmp_ge (tgt := 119) hx hb dX11_spells_29 (by decide) (fun h9 => absurd h9 (by decide)) (fun _ => ?_)
            refine lv_iload hx hb dX11_spells_32 (lv_at hl 1 rfl) ?_
            refine lv_if_eq (tgt := 119) hx hb dX11_spells_34 (by decide) (fun _ => ?_) (fun h9 => absurd h9 (by decide))
            refine lv_iload hx hb dX11_spells_119 (lv_at hl 1 rfl) ?_
            exact W.zret (v := 0) hx hb hr (by decide) (fun tZ ht hW => ⟨⟨0, (), rfl, Or.inr (⟨ks_no2 (fun q9 => absurd (of_decide_eq_true q9).2.2.2.1 h9), rfl⟩), by rw [ht]; exact hP.sub [0, 1] rfl, hD.sub [0, 1] (by decide) rfl⟩, hS.F ht⟩) hS.2.2 dX11_spells_121
          · skip
            refine lv_iconst (v := 1) hx hb dX11_spells_106 (by decide) ?_
            refine lv_goto (tgt := 111) hx hb dX11_spells_107 (by decide) ?_
            refine lv_istore (lv' := [(8, .int 1), (9, .int 2), (0, .ref mo), (1, .int 6), (2, .int 103), (3, .int 108), (4, .int 101), (5, .int 97), (6, .int 110), (7, .int 101)]) hx hb dX11_spells_111 hl (by decide) rfl (fun ls hl => ?_)
            refine lv_iinc (v := 3) (lv' := [(9, .int 3), (8, .int 1), (0, .ref mo), (1, .int 6), (2, .int 103), (3, .int 108), (4, .int 101), (5, .int 97), (6, .int 110), (7, .int 101)]) hx hb dX11_spells_113 hl (k := 1) rfl (by decide) (by decide) rfl (fun ls hl => ?_)
            refine lv_goto (tgt := 26) hx hb dX11_spells_116 (by decide) ?_
            refine lv_iload hx hb dX11_spells_26 (lv_at hl 0 rfl) ?_
            refine lv_iload_n hx hb dX11_spells_28 rfl (lv_at hl 3 rfl) ?_
            refine lv_icmp_ge (tgt := 119) hx hb dX11_spells_29 (by decide) (fun h9 => absurd h9 (by decide)) (fun _ => ?_)
            refine lv_iload hx hb dX11_spells_32 (lv_at hl 1 rfl) ?_
            refine lv_if_eq (tgt := 119) hx hb dX11_spells_34 (by decide) (fun h9 => absurd h9 (by decide)) (fun _ => ?_)
            refine lv_aload_n hx hb dX11_spells_37 rfl (lv_at hl 2 rfl) ?_
            refine va_get (D := D) (ci := 11) (v := .ref mby) (C := RX11) (T := TX11) (N := 18) hx hb hts iw11 hown hK hP 0 rfl rfl 10 (by decide) fw3 (fun _ h9 => h9) rfl dX11_spells_38 ?_
            refine lv_aload_n hx hb dX11_spells_41 rfl (lv_at hl 2 rfl) ?_
            refine va_get (D := D) (ci := 11) (v := .int (nI ta)) (C := RX11) (T := TX11) (N := 18) hx hb hts iw11 hown hK hP 0 rfl rfl 12 (by decide) fw4 (fun _ h9 => h9) rfl dX11_spells_42 ?_
            refine lv_iload hx hb dX11_spells_45 (lv_at hl 0 rfl) ?_
            refine lv_iadd hx hb dX11_spells_47 ?_
            rw [show (nI ta) + 3 = nI (ta + 3) from nI_add ta 3]
            refine va_iald hx hb hK hP 1 0 rfl rfl (vp_in_nI (by omega) (by decide)) dX11_spells_48 ?_
            rw [nI_clamp (n := (ta + 3)) (by omega)]
            refine lv_iload hx hb dX11_spells_49 (lv_at hl 0 rfl) ?_
            refine lv_if_ne (tgt := 58) hx hb dX11_spells_51 (by decide) (fun _ => ?_) (fun h9 => absurd h9 (by decide))
            refine lv_iload hx hb dX11_spells_58 (lv_at hl 0 rfl) ?_
            refine lv_iconst (v := 1) hx hb dX11_spells_60 (by decide) ?_
            refine lv_icmp_ne (tgt := 68) hx hb dX11_spells_61 (by decide) (fun _ => ?_) (fun h9 => absurd h9 (by decide))
            refine lv_iload hx hb dX11_spells_68 (lv_at hl 0 rfl) ?_
            refine lv_iconst (v := 2) hx hb dX11_spells_70 (by decide) ?_
            refine lv_icmp_ne (tgt := 79) hx hb dX11_spells_71 (by decide) (fun _ => ?_) (fun h9 => absurd h9 (by decide))
            refine lv_iload hx hb dX11_spells_79 (lv_at hl 0 rfl) ?_
            refine lv_iconst (v := 3) hx hb dX11_spells_81 (by decide) ?_
            refine lv_icmp_ne (tgt := 90) hx hb dX11_spells_82 (by decide) (fun h9 => absurd h9 (by decide)) (fun _ => ?_)
            refine lv_iload hx hb dX11_spells_85 (lv_at hl 7 rfl) ?_
            refine lv_goto (tgt := 103) hx hb dX11_spells_87 (by decide) ?_
            refine lv_icmp_ne (tgt := 110) hx hb dX11_spells_103 (by decide) (fun h11 => ?_) (fun h12 => ?_)
            · skip
              refine lv_iconst (v := 0) hx hb dX11_spells_110 (by decide) ?_
              refine lv_istore (lv' := [(8, .int 0), (9, .int 3), (0, .ref mo), (1, .int 6), (2, .int 103), (3, .int 108), (4, .int 101), (5, .int 97), (6, .int 110), (7, .int 101)]) hx hb dX11_spells_111 hl (by decide) rfl (fun ls hl => ?_)
              refine lv_iinc (v := 4) (lv' := [(9, .int 4), (8, .int 0), (0, .ref mo), (1, .int 6), (2, .int 103), (3, .int 108), (4, .int 101), (5, .int 97), (6, .int 110), (7, .int 101)]) hx hb dX11_spells_113 hl (k := 1) rfl (by decide) (by decide) rfl (fun ls hl => ?_)
              refine lv_goto (tgt := 26) hx hb dX11_spells_116 (by decide) ?_
              refine lv_iload hx hb dX11_spells_26 (lv_at hl 0 rfl) ?_
              refine lv_iload_n hx hb dX11_spells_28 rfl (lv_at hl 3 rfl) ?_
              refine lv_icmp_ge (tgt := 119) hx hb dX11_spells_29 (by decide) (fun h9 => absurd h9 (by decide)) (fun _ => ?_)
              refine lv_iload hx hb dX11_spells_32 (lv_at hl 1 rfl) ?_
              refine lv_if_eq (tgt := 119) hx hb dX11_spells_34 (by decide) (fun _ => ?_) (fun h9 => absurd h9 (by decide))
              refine lv_iload hx hb dX11_spells_119 (lv_at hl 1 rfl) ?_
              exact W.zret (v := 0) hx hb hr (by decide) (fun tZ ht hW => ⟨⟨0, (), rfl, Or.inr (⟨ks_no2 (fun q9 => absurd (of_decide_eq_true q9).2.2.2.2.1 h11), rfl⟩), by rw [ht]; exact hP.sub [0, 1] rfl, hD.sub [0, 1] (by decide) rfl⟩, hS.F ht⟩) hS.2.2 dX11_spells_121
            · skip
              refine lv_iconst (v := 1) hx hb dX11_spells_106 (by decide) ?_
              refine lv_goto (tgt := 111) hx hb dX11_spells_107 (by decide) ?_
              refine lv_istore (lv' := [(8, .int 1), (9, .int 3), (0, .ref mo), (1, .int 6), (2, .int 103), (3, .int 108), (4, .int 101), (5, .int 97), (6, .int 110), (7, .int 101)]) hx hb dX11_spells_111 hl (by decide) rfl (fun ls hl => ?_)
              refine lv_iinc (v := 4) (lv' := [(9, .int 4), (8, .int 1), (0, .ref mo), (1, .int 6), (2, .int 103), (3, .int 108), (4, .int 101), (5, .int 97), (6, .int 110), (7, .int 101)]) hx hb dX11_spells_113 hl (k := 1) rfl (by decide) (by decide) rfl (fun ls hl => ?_)
              refine lv_goto (tgt := 26) hx hb dX11_spells_116 (by decide) ?_
              refine lv_iload hx hb dX11_spells_26 (lv_at hl 0 rfl) ?_
              refine lv_iload_n hx hb dX11_spells_28 rfl (lv_at hl 3 rfl) ?_
              refine lv_icmp_ge (tgt := 119) hx hb dX11_spells_29 (by decide) (fun h9 => absurd h9 (by decide)) (fun _ => ?_)
              refine lv_iload hx hb dX11_spells_32 (lv_at hl 1 rfl) ?_
              refine lv_if_eq (tgt := 119) hx hb dX11_spells_34 (by decide) (fun h9 => absurd h9 (by decide)) (fun _ => ?_)
              refine lv_aload_n hx hb dX11_spells_37 rfl (lv_at hl 2 rfl) ?_
              refine va_get (D := D) (ci := 11) (v := .ref mby) (C := RX11) (T := TX11) (N := 18) hx hb hts iw11 hown hK hP 0 rfl rfl 10 (by decide) fw3 (fun _ h9 => h9) rfl dX11_spells_38 ?_
              refine lv_aload_n hx hb dX11_spells_41 rfl (lv_at hl 2 rfl) ?_
              refine va_get (D := D) (ci := 11) (v := .int (nI ta)) (C := RX11) (T := TX11) (N := 18) hx hb hts iw11 hown hK hP 0 rfl rfl 12 (by decide) fw4 (fun _ h9 => h9) rfl dX11_spells_42 ?_
              refine lv_iload hx hb dX11_spells_45 (lv_at hl 0 rfl) ?_
              refine lv_iadd hx hb dX11_spells_47 ?_
              rw [show (nI ta) + 4 = nI (ta + 4) from nI_add ta 4]
              refine va_iald hx hb hK hP 1 0 rfl rfl (vp_in_nI (by omega) (by decide)) dX11_spells_48 ?_
              rw [nI_clamp (n := (ta + 4)) (by omega)]
              refine lv_iload hx hb dX11_spells_49 (lv_at hl 0 rfl) ?_
              refine lv_if_ne (tgt := 58) hx hb dX11_spells_51 (by decide) (fun _ => ?_) (fun h9 => absurd h9 (by decide))
              refine lv_iload hx hb dX11_spells_58 (lv_at hl 0 rfl) ?_
              refine lv_iconst (v := 1) hx hb dX11_spells_60 (by decide) ?_
              refine lv_icmp_ne (tgt := 68) hx hb dX11_spells_61 (by decide) (fun _ => ?_) (fun h9 => absurd h9 (by decide))
              refine lv_iload hx hb dX11_spells_68 (lv_at hl 0 rfl) ?_
              refine lv_iconst (v := 2) hx hb dX11_spells_70 (by decide) ?_
              refine lv_icmp_ne (tgt := 79) hx hb dX11_spells_71 (by decide) (fun _ => ?_) (fun h9 => absurd h9 (by decide))
              refine lv_iload hx hb dX11_spells_79 (lv_at hl 0 rfl) ?_
              refine lv_iconst (v := 3) hx hb dX11_spells_81 (by decide) ?_
              refine lv_icmp_ne (tgt := 90) hx hb dX11_spells_82 (by decide) (fun _ => ?_) (fun h9 => absurd h9 (by decide))
              refine lv_iload hx hb dX11_spells_90 (lv_at hl 0 rfl) ?_
              refine lv_iconst (v := 4) hx hb dX11_spells_92 (by decide) ?_
              refine lv_icmp_ne (tgt := 101) hx hb dX11_spells_93 (by decide) (fun h9 => absurd h9 (by decide)) (fun _ => ?_)
              refine lv_iload hx hb dX11_spells_96 (lv_at hl 8 rfl) ?_
              refine lv_goto (tgt := 103) hx hb dX11_spells_98 (by decide) ?_
              refine lv_icmp_ne (tgt := 110) hx hb dX11_spells_103 (by decide) (fun h13 => ?_) (fun h14 => ?_)
              · skip
                refine lv_iconst (v := 0) hx hb dX11_spells_110 (by decide) ?_
                refine lv_istore (lv' := [(8, .int 0), (9, .int 4), (0, .ref mo), (1, .int 6), (2, .int 103), (3, .int 108), (4, .int 101), (5, .int 97), (6, .int 110), (7, .int 101)]) hx hb dX11_spells_111 hl (by decide) rfl (fun ls hl => ?_)
                refine lv_iinc (v := 5) (lv' := [(9, .int 5), (8, .int 0), (0, .ref mo), (1, .int 6), (2, .int 103), (3, .int 108), (4, .int 101), (5, .int 97), (6, .int 110), (7, .int 101)]) hx hb dX11_spells_113 hl (k := 1) rfl (by decide) (by decide) rfl (fun ls hl => ?_)
                refine lv_goto (tgt := 26) hx hb dX11_spells_116 (by decide) ?_
                refine lv_iload hx hb dX11_spells_26 (lv_at hl 0 rfl) ?_
                refine lv_iload_n hx hb dX11_spells_28 rfl (lv_at hl 3 rfl) ?_
                refine lv_icmp_ge (tgt := 119) hx hb dX11_spells_29 (by decide) (fun h9 => absurd h9 (by decide)) (fun _ => ?_)
                refine lv_iload hx hb dX11_spells_32 (lv_at hl 1 rfl) ?_
                refine lv_if_eq (tgt := 119) hx hb dX11_spells_34 (by decide) (fun _ => ?_) (fun h9 => absurd h9 (by decide))
                refine lv_iload hx hb dX11_spells_119 (lv_at hl 1 rfl) ?_
                exact W.zret (v := 0) hx hb hr (by decide) (fun tZ ht hW => ⟨⟨0, (), rfl, Or.inr (⟨ks_no2 (fun q9 => absurd (of_decide_eq_true q9).2.2.2.2.2.1 h13), rfl⟩), by rw [ht]; exact hP.sub [0, 1] rfl, hD.sub [0, 1] (by decide) rfl⟩, hS.F ht⟩) hS.2.2 dX11_spells_121
              · skip
                refine lv_iconst (v := 1) hx hb dX11_spells_106 (by decide) ?_
                refine lv_goto (tgt := 111) hx hb dX11_spells_107 (by decide) ?_
                refine lv_istore (lv' := [(8, .int 1), (9, .int 4), (0, .ref mo), (1, .int 6), (2, .int 103), (3, .int 108), (4, .int 101), (5, .int 97), (6, .int 110), (7, .int 101)]) hx hb dX11_spells_111 hl (by decide) rfl (fun ls hl => ?_)
                refine lv_iinc (v := 5) (lv' := [(9, .int 5), (8, .int 1), (0, .ref mo), (1, .int 6), (2, .int 103), (3, .int 108), (4, .int 101), (5, .int 97), (6, .int 110), (7, .int 101)]) hx hb dX11_spells_113 hl (k := 1) rfl (by decide) (by decide) rfl (fun ls hl => ?_)
                refine lv_goto (tgt := 26) hx hb dX11_spells_116 (by decide) ?_
                refine lv_iload hx hb dX11_spells_26 (lv_at hl 0 rfl) ?_
                refine lv_iload_n hx hb dX11_spells_28 rfl (lv_at hl 3 rfl) ?_
                refine lv_icmp_ge (tgt := 119) hx hb dX11_spells_29 (by decide) (fun h9 => absurd h9 (by decide)) (fun _ => ?_)
                refine lv_iload hx hb dX11_spells_32 (lv_at hl 1 rfl) ?_
                refine lv_if_eq (tgt := 119) hx hb dX11_spells_34 (by decide) (fun h9 => absurd h9 (by decide)) (fun _ => ?_)
                refine lv_aload_n hx hb dX11_spells_37 rfl (lv_at hl 2 rfl) ?_
                refine va_get (D := D) (ci := 11) (v := .ref mby) (C := RX11) (T := TX11) (N := 18) hx hb hts iw11 hown hK hP 0 rfl rfl 10 (by decide) fw3 (fun _ h9 => h9) rfl dX11_spells_38 ?_
                refine lv_aload_n hx hb dX11_spells_41 rfl (lv_at hl 2 rfl) ?_
                refine va_get (D := D) (ci := 11) (v := .int (nI ta)) (C := RX11) (T := TX11) (N := 18) hx hb hts iw11 hown hK hP 0 rfl rfl 12 (by decide) fw4 (fun _ h9 => h9) rfl dX11_spells_42 ?_
                refine lv_iload hx hb dX11_spells_45 (lv_at hl 0 rfl) ?_
                refine lv_iadd hx hb dX11_spells_47 ?_
                rw [show (nI ta) + 5 = nI (ta + 5) from nI_add ta 5]
                refine va_iald hx hb hK hP 1 0 rfl rfl (vp_in_nI (by omega) (by decide)) dX11_spells_48 ?_
                rw [nI_clamp (n := (ta + 5)) (by omega)]
                refine lv_iload hx hb dX11_spells_49 (lv_at hl 0 rfl) ?_
                refine lv_if_ne (tgt := 58) hx hb dX11_spells_51 (by decide) (fun _ => ?_) (fun h9 => absurd h9 (by decide))
                refine lv_iload hx hb dX11_spells_58 (lv_at hl 0 rfl) ?_
                refine lv_iconst (v := 1) hx hb dX11_spells_60 (by decide) ?_
                refine lv_icmp_ne (tgt := 68) hx hb dX11_spells_61 (by decide) (fun _ => ?_) (fun h9 => absurd h9 (by decide))
                refine lv_iload hx hb dX11_spells_68 (lv_at hl 0 rfl) ?_
                refine lv_iconst (v := 2) hx hb dX11_spells_70 (by decide) ?_
                refine lv_icmp_ne (tgt := 79) hx hb dX11_spells_71 (by decide) (fun _ => ?_) (fun h9 => absurd h9 (by decide))
                refine lv_iload hx hb dX11_spells_79 (lv_at hl 0 rfl) ?_
                refine lv_iconst (v := 3) hx hb dX11_spells_81 (by decide) ?_
                refine lv_icmp_ne (tgt := 90) hx hb dX11_spells_82 (by decide) (fun _ => ?_) (fun h9 => absurd h9 (by decide))
                refine lv_iload hx hb dX11_spells_90 (lv_at hl 0 rfl) ?_
                refine lv_iconst (v := 4) hx hb dX11_spells_92 (by decide) ?_
                refine lv_icmp_ne (tgt := 101) hx hb dX11_spells_93 (by decide) (fun _ => ?_) (fun h9 => absurd h9 (by decide))
                refine lv_iload hx hb dX11_spells_101 (lv_at hl 9 rfl) ?_
                refine lv_icmp_ne (tgt := 110) hx hb dX11_spells_103 (by decide) (fun h15 => ?_) (fun h16 => ?_)
                · skip
                  refine lv_iconst (v := 0) hx hb dX11_spells_110 (by decide) ?_
                  refine lv_istore (lv' := [(8, .int 0), (9, .int 5), (0, .ref mo), (1, .int 6), (2, .int 103), (3, .int 108), (4, .int 101), (5, .int 97), (6, .int 110), (7, .int 101)]) hx hb dX11_spells_111 hl (by decide) rfl (fun ls hl => ?_)
                  refine lv_iinc (v := 6) (lv' := [(9, .int 6), (8, .int 0), (0, .ref mo), (1, .int 6), (2, .int 103), (3, .int 108), (4, .int 101), (5, .int 97), (6, .int 110), (7, .int 101)]) hx hb dX11_spells_113 hl (k := 1) rfl (by decide) (by decide) rfl (fun ls hl => ?_)
                  refine lv_goto (tgt := 26) hx hb dX11_spells_116 (by decide) ?_
                  refine lv_iload hx hb dX11_spells_26 (lv_at hl 0 rfl) ?_
                  refine lv_iload_n hx hb dX11_spells_28 rfl (lv_at hl 3 rfl) ?_
                  refine lv_icmp_ge (tgt := 119) hx hb dX11_spells_29 (by decide) (fun _ => ?_) (fun h9 => absurd h9 (by decide))
                  refine lv_iload hx hb dX11_spells_119 (lv_at hl 1 rfl) ?_
                  exact W.zret (v := 0) hx hb hr (by decide) (fun tZ ht hW => ⟨⟨0, (), rfl, Or.inr (⟨ks_no2 (fun q9 => absurd (of_decide_eq_true q9).2.2.2.2.2.2 h15), rfl⟩), by rw [ht]; exact hP.sub [0, 1] rfl, hD.sub [0, 1] (by decide) rfl⟩, hS.F ht⟩) hS.2.2 dX11_spells_121
                · skip
                  refine lv_iconst (v := 1) hx hb dX11_spells_106 (by decide) ?_
                  refine lv_goto (tgt := 111) hx hb dX11_spells_107 (by decide) ?_
                  refine lv_istore (lv' := [(8, .int 1), (9, .int 5), (0, .ref mo), (1, .int 6), (2, .int 103), (3, .int 108), (4, .int 101), (5, .int 97), (6, .int 110), (7, .int 101)]) hx hb dX11_spells_111 hl (by decide) rfl (fun ls hl => ?_)
                  refine lv_iinc (v := 6) (lv' := [(9, .int 6), (8, .int 1), (0, .ref mo), (1, .int 6), (2, .int 103), (3, .int 108), (4, .int 101), (5, .int 97), (6, .int 110), (7, .int 101)]) hx hb dX11_spells_113 hl (k := 1) rfl (by decide) (by decide) rfl (fun ls hl => ?_)
                  refine lv_goto (tgt := 26) hx hb dX11_spells_116 (by decide) ?_
                  refine lv_iload hx hb dX11_spells_26 (lv_at hl 0 rfl) ?_
                  refine lv_iload_n hx hb dX11_spells_28 rfl (lv_at hl 3 rfl) ?_
                  refine lv_icmp_ge (tgt := 119) hx hb dX11_spells_29 (by decide) (fun _ => ?_) (fun h9 => absurd h9 (by decide))
                  refine lv_iload hx hb dX11_spells_119 (lv_at hl 1 rfl) ?_
                  exact W.zret (v := 1) hx hb hr (by decide) (fun tZ ht hW => ⟨⟨1, (), rfl, Or.inl ⟨ks_and h2 (decide_eq_true ⟨by omega, h6, h8, h10, h12, h14, h16⟩), rfl⟩, by rw [ht]; exact hP.sub [0, 1] rfl, hD.sub [0, 1] (by decide) rfl⟩, hS.F ht⟩) hS.2.2 dX11_spells_121
