set_option maxHeartbeats 4000000 in
set_option maxRecDepth 100000 in
theorem gr_Msp3 (l : Launch) (D : va_G) (y : Nat → ClassId) (mo : Nat) (to : Nat) (ke : Nat) (ik : Nat) (mrf : Nat) (ha : Nat) (r0 : Nat) (mbr : Nat) (mbp : Nat) (mby : Nat) (an : Nat) (va : Nat) (mab : Int64) (mbl : Int64) (bl : Nat) (ta : Nat) (tl : Nat) (tk : Nat) (vv : Int32) (fmb : Nat → Int32) (e : Nat) (hbl : bl ≤ 150) (he : ta + tl = e) (heb : e ≤ bl) (htk : tk ≤ 4) : kw_Mi l yX11_spells wsX11_spells ({ frames := 1, cells := 0, slots := 0, locals := 60 }) D y [.ref mo, .int 5, .int 103, .int 108, .int 101, .int 97, .int 110, .int 0] [(mo, .inr (11, [.ref to, .ref ke, .ref ik, .ref mrf, .long mab, .long mbl, .ref ha, .ref r0, .ref mbr, .ref mbp, .ref mby, .int (nI bl), .int (nI ta), .int (nI tl), .int (nI tk), .int vv, .ref an, .ref va])), (mby, .inl (y 0, 150, .inl fmb))] (fun (r : Int32) (u : Unit) => (ks_w3 fmb tk ta e = true ∧ r = 1) ∨ (¬ ks_w3 fmb tk ta e = true ∧ r = 0)) (fun _ => [(mo, .inr (11, [.ref to, .ref ke, .ref ik, .ref mrf, .long mab, .long mbl, .ref ha, .ref r0, .ref mbr, .ref mbp, .ref mby, .int (nI bl), .int (nI ta), .int (nI tl), .int (nI tk), .int vv, .ref an, .ref va])), (mby, .inl (y 0, 150, .inl fmb))]) 0 0 := by
  refine kw_Mi.of (cc := cX11_spells) (maxL := 10) (ret := (some .boolean)) (by decide) rfl ?_
  intro pZ eZ s mZ beZ meZ cZ A hE
  obtain ⟨hx, hb, hr, hml, hts, hown, hlocks, hin, hA, hP, hD, hK, hN⟩ := hE
  have hS : va_S A s.heap s.heap [] := va_S.rf
  have hl := lv_entry ([.ref mo, .int 5, .int 103, .int 108, .int 101, .int 97, .int 110, .int 0]) (n := 10) (Nat.le_of_ble_eq_true rfl)
  rw [lg_entry_eq]
  generalize (lg_sl ([.ref mo, .int 5, .int 103, .int 108, .int 101, .int 97, .int 110, .int 0]) ++ List.replicate (10 - (lg_sl ([.ref mo, .int 5, .int 103, .int 108, .int 101, .int 97, .int 110, .int 0])).length) Slot.unset).toArray = ls at hl ⊢
  have hl : lv_has ls 10 [(0, .ref mo), (1, .int 5), (2, .int 103), (3, .int 108), (4, .int 101), (5, .int 97), (6, .int 110), (7, .int 0)] := hl
  have fw1 := hts (.fieldLink RX11 228 "GleanDuskModel" "token" "I") (List.mem_of_getElem? (i := 1) rfl)
  have fw2 := hts (.fieldLink RX11 225 "GleanDuskModel" "tokenLong" "I") (List.mem_of_getElem? (i := 2) rfl)
  have fw3 := hts (.fieldLink RX11 39 "GleanDuskModel" "bytes" "[I") (List.mem_of_getElem? (i := 3) rfl)
  have fw4 := hts (.fieldLink RX11 222 "GleanDuskModel" "tokenAt" "I") (List.mem_of_getElem? (i := 4) rfl)
  have iw11 : ∀ w ∈ wsX110, w ∈ wsX11_spells := fun _ h => List.mem_cons_of_mem _ (List.mem_append_right _ h)
  refine lv_aload_n hx hb dX11_spells_0 rfl (lv_at hl 0 rfl) ?_
  refine va_get (D := D) (ci := 11) (v := .int (nI tk)) (C := RX11) (T := TX11) (N := 18) hx hb hts iw11 hown hK hP 0 rfl rfl 14 (by decide) fw1 (fun _ h9 => h9) rfl dX11_spells_1 ?_
  refine lv_iconst (v := 1) hx hb dX11_spells_4 (by decide) ?_
  refine lv_icmp_ne (tgt := 20) hx hb dX11_spells_5 (by decide) (fun h1 => ?_) (fun h2 => ?_)
  · skip
    have h1 : ¬ tk = 1 := fun q9 => h1 ((nI_eq (a := tk) (b := 1) (by omega) (by omega)).mpr q9)
    refine lv_iconst (v := 0) hx hb dX11_spells_20 (by decide) ?_
    refine lv_istore (lv' := [(8, .int 0), (0, .ref mo), (1, .int 5), (2, .int 103), (3, .int 108), (4, .int 101), (5, .int 97), (6, .int 110), (7, .int 0)]) hx hb dX11_spells_21 hl (by decide) rfl (fun ls hl => ?_)
    refine lv_iconst (v := 0) hx hb dX11_spells_23 (by decide) ?_
    refine lv_istore (lv' := [(9, .int 0), (8, .int 0), (0, .ref mo), (1, .int 5), (2, .int 103), (3, .int 108), (4, .int 101), (5, .int 97), (6, .int 110), (7, .int 0)]) hx hb dX11_spells_24 hl (by decide) rfl (fun ls hl => ?_)
    refine lv_iload hx hb dX11_spells_26 (lv_at hl 0 rfl) ?_
    refine lv_iload_n hx hb dX11_spells_28 rfl (lv_at hl 3 rfl) ?_
    refine lv_icmp_ge (tgt := 119) hx hb dX11_spells_29 (by decide) (fun h9 => absurd h9 (by decide)) (fun _ => ?_)
    refine lv_iload hx hb dX11_spells_32 (lv_at hl 1 rfl) ?_
    refine lv_if_eq (tgt := 119) hx hb dX11_spells_34 (by decide) (fun _ => ?_) (fun h9 => absurd h9 (by decide))
    refine lv_iload hx hb dX11_spells_119 (lv_at hl 1 rfl) ?_
    exact W.zret (v := 0) hx hb hr (by decide) (fun tZ ht hW => ⟨⟨0, (), rfl, Or.inr (⟨ks_no h1, rfl⟩), by rw [ht]; exact hP.sub [0, 1] rfl, hD.sub [0, 1] (by decide) rfl⟩, hS.F ht⟩) hS.2.2 dX11_spells_121
  · skip
    have h2 : tk = 1 := (nI_eq (a := tk) (b := 1) (by omega) (by omega)).mp h2
    refine lv_aload_n hx hb dX11_spells_8 rfl (lv_at hl 0 rfl) ?_
    refine va_get (D := D) (ci := 11) (v := .int (nI tl)) (C := RX11) (T := TX11) (N := 18) hx hb hts iw11 hown hK hP 0 rfl rfl 13 (by decide) fw2 (fun _ h9 => h9) rfl dX11_spells_9 ?_
    refine lv_iload_n hx hb dX11_spells_12 rfl (lv_at hl 1 rfl) ?_
    refine lv_icmp_ne (tgt := 20) hx hb dX11_spells_13 (by decide) (fun h3 => ?_) (fun h4 => ?_)
    · skip
      have h3 : ¬ tl = 5 := fun q9 => h3 ((nI_eq (a := tl) (b := 5) (by omega) (by omega)).mpr q9)
      refine lv_iconst (v := 0) hx hb dX11_spells_20 (by decide) ?_
      refine lv_istore (lv' := [(8, .int 0), (0, .ref mo), (1, .int 5), (2, .int 103), (3, .int 108), (4, .int 101), (5, .int 97), (6, .int 110), (7, .int 0)]) hx hb dX11_spells_21 hl (by decide) rfl (fun ls hl => ?_)
      refine lv_iconst (v := 0) hx hb dX11_spells_23 (by decide) ?_
      refine lv_istore (lv' := [(9, .int 0), (8, .int 0), (0, .ref mo), (1, .int 5), (2, .int 103), (3, .int 108), (4, .int 101), (5, .int 97), (6, .int 110), (7, .int 0)]) hx hb dX11_spells_24 hl (by decide) rfl (fun ls hl => ?_)
      refine lv_iload hx hb dX11_spells_26 (lv_at hl 0 rfl) ?_
      refine lv_iload_n hx hb dX11_spells_28 rfl (lv_at hl 3 rfl) ?_
      refine lv_icmp_ge (tgt := 119) hx hb dX11_spells_29 (by decide) (fun h9 => absurd h9 (by decide)) (fun _ => ?_)
      refine lv_iload hx hb dX11_spells_32 (lv_at hl 1 rfl) ?_
      refine lv_if_eq (tgt := 119) hx hb dX11_spells_34 (by decide) (fun _ => ?_) (fun h9 => absurd h9 (by decide))
      refine lv_iload hx hb dX11_spells_119 (lv_at hl 1 rfl) ?_
      exact W.zret (v := 0) hx hb hr (by decide) (fun tZ ht hW => ⟨⟨0, (), rfl, Or.inr (⟨ks_no2 (fun q9 => absurd (of_decide_eq_true q9).1 (by omega)), rfl⟩), by rw [ht]; exact hP.sub [0, 1] rfl, hD.sub [0, 1] (by decide) rfl⟩, hS.F ht⟩) hS.2.2 dX11_spells_121
    · skip
      have h4 : tl = 5 := (nI_eq (a := tl) (b := 5) (by omega) (by omega)).mp h4
      refine lv_iconst (v := 1) hx hb dX11_spells_16 (by decide) ?_
      refine lv_goto (tgt := 21) hx hb dX11_spells_17 (by decide) ?_
      refine lv_istore (lv' := [(8, .int 1), (0, .ref mo), (1, .int 5), (2, .int 103), (3, .int 108), (4, .int 101), (5, .int 97), (6, .int 110), (7, .int 0)]) hx hb dX11_spells_21 hl (by decide) rfl (fun ls hl => ?_)
      refine lv_iconst (v := 0) hx hb dX11_spells_23 (by decide) ?_
      refine lv_istore (lv' := [(9, .int 0), (8, .int 1), (0, .ref mo), (1, .int 5), (2, .int 103), (3, .int 108), (4, .int 101), (5, .int 97), (6, .int 110), (7, .int 0)]) hx hb dX11_spells_24 hl (by decide) rfl (fun ls hl => ?_)
      refine lv_iload hx hb dX11_spells_26 (lv_at hl 0 rfl) ?_
      refine lv_iload_n hx hb dX11_spells_28 rfl (lv_at hl 3 rfl) ?_
      refine lv_icmp_ge (tgt := 119) hx hb dX11_spells_29 (by decide) (fun h9 => absurd h9 (by decide)) (fun _ => ?_)
      refine lv_iload hx hb dX11_spells_32 (lv_at hl 1 rfl) ?_
      refine lv_if_eq (tgt := 119) hx hb dX11_spells_34 (by decide) (fun h9 => absurd h9 (by decide)) (fun _ => ?_)
      refine lv_aload_n hx hb dX11_spells_37 rfl (lv_at hl 2 rfl) ?_
      refine va_get (D := D) (ci := 11) (v := .ref mby) (C := RX11) (T := TX11) (N := 18) hx hb hts iw11 hown hK hP 0 rfl rfl 10 (by decide) fw3 (fun _ h9 => h9) rfl dX11_spells_38 ?_
      refine lv_aload_n hx hb dX11_spells_41 rfl (lv_at hl 2 rfl) ?_
      refine va_get (D := D) (ci := 11) (v := .int (nI ta)) (C := RX11) (T := TX11) (N := 18) hx hb hts iw11 hown hK hP 0 rfl rfl 12 (by decide) fw4 (fun _ h9 => h9) rfl dX11_spells_42 ?_
      refine lv_iload hx hb dX11_spells_45 (lv_at hl 0 rfl) ?_
      refine lv_iadd hx hb dX11_spells_47 ?_
      rw [show (nI ta) + 0 = nI (ta) from nI_add ta 0]
      refine va_iald hx hb hK hP 1 0 rfl rfl (vp_in_nI (by omega) (by decide)) dX11_spells_48 ?_
      rw [nI_clamp (n := ta) (by omega)]
      refine lv_iload hx hb dX11_spells_49 (lv_at hl 0 rfl) ?_
      refine lv_if_ne (tgt := 58) hx hb dX11_spells_51 (by decide) (fun h9 => absurd h9 (by decide)) (fun _ => ?_)
      refine lv_iload_n hx hb dX11_spells_54 rfl (lv_at hl 4 rfl) ?_
      refine lv_goto (tgt := 103) hx hb dX11_spells_55 (by decide) ?_
      refine lv_icmp_ne (tgt := 110) hx hb dX11_spells_103 (by decide) (fun h5 => ?_) (fun h6 => ?_)
      · skip
        refine lv_iconst (v := 0) hx hb dX11_spells_110 (by decide) ?_
        refine lv_istore (lv' := [(8, .int 0), (9, .int 0), (0, .ref mo), (1, .int 5), (2, .int 103), (3, .int 108), (4, .int 101), (5, .int 97), (6, .int 110), (7, .int 0)]) hx hb dX11_spells_111 hl (by decide) rfl (fun ls hl => ?_)
        refine lv_iinc (v := 1) (lv' := [(9, .int 1), (8, .int 0), (0, .ref mo), (1, .int 5), (2, .int 103), (3, .int 108), (4, .int 101), (5, .int 97), (6, .int 110), (7, .int 0)]) hx hb dX11_spells_113 hl (k := 1) rfl (by decide) (by decide) rfl (fun ls hl => ?_)
        refine lv_goto (tgt := 26) hx hb dX11_spells_116 (by decide) ?_
        refine lv_iload hx hb dX11_spells_26 (lv_at hl 0 rfl) ?_
        refine lv_iload_n hx hb dX11_spells_28 rfl (lv_at hl 3 rfl) ?_
        refine lv_icmp_ge (tgt := 119) hx hb dX11_spells_29 (by decide) (fun h9 => absurd h9 (by decide)) (fun _ => ?_)
        refine lv_iload hx hb dX11_spells_32 (lv_at hl 1 rfl) ?_
        refine lv_if_eq (tgt := 119) hx hb dX11_spells_34 (by decide) (fun _ => ?_) (fun h9 => absurd h9 (by decide))
        refine lv_iload hx hb dX11_spells_119 (lv_at hl 1 rfl) ?_
        exact W.zret (v := 0) hx hb hr (by decide) (fun tZ ht hW => ⟨⟨0, (), rfl, Or.inr (⟨ks_no2 (fun q9 => absurd (of_decide_eq_true q9).2.1 h5), rfl⟩), by rw [ht]; exact hP.sub [0, 1] rfl, hD.sub [0, 1] (by decide) rfl⟩, hS.F ht⟩) hS.2.2 dX11_spells_121
      · skip
        refine lv_iconst (v := 1) hx hb dX11_spells_106 (by decide) ?_
        refine lv_goto (tgt := 111) hx hb dX11_spells_107 (by decide) ?_
        refine lv_istore (lv' := [(8, .int 1), (9, .int 0), (0, .ref mo), (1, .int 5), (2, .int 103), (3, .int 108), (4, .int 101), (5, .int 97), (6, .int 110), (7, .int 0)]) hx hb dX11_spells_111 hl (by decide) rfl (fun ls hl => ?_)
        refine lv_iinc (v := 1) (lv' := [(9, .int 1), (8, .int 1), (0, .ref mo), (1, .int 5), (2, .int 103), (3, .int 108), (4, .int 101), (5, .int 97), (6, .int 110), (7, .int 0)]) hx hb dX11_spells_113 hl (k := 1) rfl (by decide) (by decide) rfl (fun ls hl => ?_)
        refine lv_goto (tgt := 26) hx hb dX11_spells_116 (by decide) ?_
        refine lv_iload hx hb dX11_spells_26 (lv_at hl 0 rfl) ?_
        refine lv_iload_n hx hb dX11_spells_28 rfl (lv_at hl 3 rfl) ?_
        refine lv_icmp_ge (tgt := 119) hx hb dX11_spells_29 (by decide) (fun h9 => absurd h9 (by decide)) (fun _ => ?_)
        refine lv_iload hx hb dX11_spells_32 (lv_at hl 1 rfl) ?_
        refine lv_if_eq (tgt := 119) hx hb dX11_spells_34 (by decide) (fun h9 => absurd h9 (by decide)) (fun _ => ?_)
        refine lv_aload_n hx hb dX11_spells_37 rfl (lv_at hl 2 rfl) ?_
        refine va_get (D := D) (ci := 11) (v := .ref mby) (C := RX11) (T := TX11) (N := 18) hx hb hts iw11 hown hK hP 0 rfl rfl 10 (by decide) fw3 (fun _ h9 => h9) rfl dX11_spells_38 ?_
        refine lv_aload_n hx hb dX11_spells_41 rfl (lv_at hl 2 rfl) ?_
        refine va_get (D := D) (ci := 11) (v := .int (nI ta)) (C := RX11) (T := TX11) (N := 18) hx hb hts iw11 hown hK hP 0 rfl rfl 12 (by decide) fw4 (fun _ h9 => h9) rfl dX11_spells_42 ?_
        refine lv_iload hx hb dX11_spells_45 (lv_at hl 0 rfl) ?_
        refine lv_iadd hx hb dX11_spells_47 ?_
        rw [show (nI ta) + 1 = nI (ta + 1) from nI_add ta 1]
        refine va_iald hx hb hK hP 1 0 rfl rfl (vp_in_nI (by omega) (by decide)) dX11_spells_48 ?_
        rw [nI_clamp (n := (ta + 1)) (by omega)]
        refine lv_iload hx hb dX11_spells_49 (lv_at hl 0 rfl) ?_
        refine lv_if_ne (tgt := 58) hx hb dX11_spells_51 (by decide) (fun _ => ?_) (fun h9 => absurd h9 (by decide))
        refine lv_iload hx hb dX11_spells_58 (lv_at hl 0 rfl) ?_
        refine lv_iconst (v := 1) hx hb dX11_spells_60 (by decide) ?_
        refine lv_icmp_ne (tgt := 68) hx hb dX11_spells_61 (by decide) (fun h9 => absurd h9 (by decide)) (fun _ => ?_)
        refine lv_iload_n hx hb dX11_spells_64 rfl (lv_at hl 5 rfl) ?_
        refine lv_goto (tgt := 103) hx hb dX11_spells_65 (by decide) ?_
        refine lv_icmp_ne (tgt := 110) hx hb dX11_spells_103 (by decide) (fun h7 => ?_) (fun h8 => ?_)
        · skip
          refine lv_iconst (v := 0) hx hb dX11_spells_110 (by decide) ?_
          refine lv_istore (lv' := [(8, .int 0), (9, .int 1), (0, .ref mo), (1, .int 5), (2, .int 103), (3, .int 108), (4, .int 101), (5, .int 97), (6, .int 110), (7, .int 0)]) hx hb dX11_spells_111 hl (by decide) rfl (fun ls hl => ?_)
          refine lv_iinc (v := 2) (lv' := [(9, .int 2), (8, .int 0), (0, .ref mo), (1, .int 5), (2, .int 103), (3, .int 108), (4, .int 101), (5, .int 97), (6, .int 110), (7, .int 0)]) hx hb dX11_spells_113 hl (k := 1) rfl (by decide) (by decide) rfl (fun ls hl => ?_)
          refine lv_goto (tgt := 26) hx hb dX11_spells_116 (by decide) ?_
          refine lv_iload hx hb dX11_spells_26 (lv_at hl 0 rfl) ?_
          refine lv_iload_n hx hb dX11_spells_28 rfl (lv_at hl 3 rfl) ?_
          refine lv_icmp_ge (tgt := 119) hx hb dX11_spells_29 (by decide) (fun h9 => absurd h9 (by decide)) (fun _ => ?_)
          refine lv_iload hx hb dX11_spells_32 (lv_at hl 1 rfl) ?_
          refine lv_if_eq (tgt := 119) hx hb dX11_spells_34 (by decide) (fun _ => ?_) (fun h9 => absurd h9 (by decide))
          refine lv_iload hx hb dX11_spells_119 (lv_at hl 1 rfl) ?_
          exact W.zret (v := 0) hx hb hr (by decide) (fun tZ ht hW => ⟨⟨0, (), rfl, Or.inr (⟨ks_no2 (fun q9 => absurd (of_decide_eq_true q9).2.2.1 h7), rfl⟩), by rw [ht]; exact hP.sub [0, 1] rfl, hD.sub [0, 1] (by decide) rfl⟩, hS.F ht⟩) hS.2.2 dX11_spells_121
        · skip
          refine lv_iconst (v := 1) hx hb dX11_spells_106 (by decide) ?_
          refine lv_goto (tgt := 111) hx hb dX11_spells_107 (by decide) ?_
          refine lv_istore (lv' := [(8, .int 1), (9, .int 1), (0, .ref mo), (1, .int 5), (2, .int 103), (3, .int 108), (4, .int 101), (5, .int 97), (6, .int 110), (7, .int 0)]) hx hb dX11_spells_111 hl (by decide) rfl (fun ls hl => ?_)
          refine lv_iinc (v := 2) (lv' := [(9, .int 2), (8, .int 1), (0, .ref mo), (1, .int 5), (2, .int 103), (3, .int 108), (4, .int 101), (5, .int 97), (6, .int 110), (7, .int 0)]) hx hb dX11_spells_113 hl (k := 1) rfl (by decide) (by decide) rfl (fun ls hl => ?_)
          refine lv_goto (tgt := 26) hx hb dX11_spells_116 (by decide) ?_
          refine lv_iload hx hb dX11_spells_26 (lv_at hl 0 rfl) ?_
          refine lv_iload_n hx hb dX11_spells_28 rfl (lv_at hl 3 rfl) ?_
          refine lv_icmp_ge (tgt := 119) hx hb dX11_spells_29 (by decide) (fun h9 => absurd h9 (by decide)) (fun _ => ?_)
          refine lv_iload hx hb dX11_spells_32 (lv_at hl 1 rfl) ?_
          refine lv_if_eq (tgt := 119) hx hb dX11_spells_34 (by decide) (fun h9 => absurd h9 (by decide)) (fun _ => ?_)
          refine lv_aload_n hx hb dX11_spells_37 rfl (lv_at hl 2 rfl) ?_
          refine va_get (D := D) (ci := 11) (v := .ref mby) (C := RX11) (T := TX11) (N := 18) hx hb hts iw11 hown hK hP 0 rfl rfl 10 (by decide) fw3 (fun _ h9 => h9) rfl dX11_spells_38 ?_
          refine lv_aload_n hx hb dX11_spells_41 rfl (lv_at hl 2 rfl) ?_
          refine va_get (D := D) (ci := 11) (v := .int (nI ta)) (C := RX11) (T := TX11) (N := 18) hx hb hts iw11 hown hK hP 0 rfl rfl 12 (by decide) fw4 (fun _ h9 => h9) rfl dX11_spells_42 ?_
          refine lv_iload hx hb dX11_spells_45 (lv_at hl 0 rfl) ?_
          refine lv_iadd hx hb dX11_spells_47 ?_
          rw [show (nI ta) + 2 = nI (ta + 2) from nI_add ta 2]
          refine va_iald hx hb hK hP 1 0 rfl rfl (vp_in_nI (by omega) (by decide)) dX11_spells_48 ?_
          rw [nI_clamp (n := (ta + 2)) (by omega)]
          refine lv_iload hx hb dX11_spells_49 (lv_at hl 0 rfl) ?_
          refine lv_if_ne (tgt := 58) hx hb dX11_spells_51 (by decide) (fun _ => ?_) (fun h9 => absurd h9 (by decide))
          refine lv_iload hx hb dX11_spells_58 (lv_at hl 0 rfl) ?_
          refine lv_iconst (v := 1) hx hb dX11_spells_60 (by decide) ?_
          refine lv_icmp_ne (tgt := 68) hx hb dX11_spells_61 (by decide) (fun _ => ?_) (fun h9 => absurd h9 (by decide))
          refine lv_iload hx hb dX11_spells_68 (lv_at hl 0 rfl) ?_
          refine lv_iconst (v := 2) hx hb dX11_spells_70 (by decide) ?_
          refine lv_icmp_ne (tgt := 79) hx hb dX11_spells_71 (by decide) (fun h9 => absurd h9 (by decide)) (fun _ => ?_)
          refine lv_iload hx hb dX11_spells_74 (lv_at hl 6 rfl) ?_
          refine lv_goto (tgt := 103) hx hb dX11_spells_76 (by decide) ?_
          refine lv_icmp_ne (tgt := 110) hx hb dX11_spells_103 (by decide) (fun h9 => ?_) (fun h10 => ?_)
          · skip
            refine lv_iconst (v := 0) hx hb dX11_spells_110 (by decide) ?_
            refine lv_istore (lv' := [(8, .int 0), (9, .int 2), (0, .ref mo), (1, .int 5), (2, .int 103), (3, .int 108), (4, .int 101), (5, .int 97), (6, .int 110), (7, .int 0)]) hx hb dX11_spells_111 hl (by decide) rfl (fun ls hl => ?_)
            refine lv_iinc (v := 3) (lv' := [(9, .int 3), (8, .int 0), (0, .ref mo), (1, .int 5), (2, .int 103), (3, .int 108), (4, .int 101), (5, .int 97), (6, .int 110), (7, .int 0)]) hx hb dX11_spells_113 hl (k := 1) rfl (by decide) (by decide) rfl (fun ls hl => ?_)
            refine lv_goto (tgt := 26) hx hb dX11_spells_116 (by decide) ?_
            refine lv_iload hx hb dX11_spells_26 (lv_at hl 0 rfl) ?_
            refine lv_iload_n hx hb dX11_spells_28 rfl (lv_at hl 3 rfl) ?_
            refine lv_icmp_ge (tgt := 119) hx hb dX11_spells_29 (by decide) (fun h9 => absurd h9 (by decide)) (fun _ => ?_)
            refine lv_iload hx hb dX11_spells_32 (lv_at hl 1 rfl) ?_
            refine lv_if_eq (tgt := 119) hx hb dX11_spells_34 (by decide) (fun _ => ?_) (fun h9 => absurd h9 (by decide))
            refine lv_iload hx hb dX11_spells_119 (lv_at hl 1 rfl) ?_
            exact W.zret (v := 0) hx hb hr (by decide) (fun tZ ht hW => ⟨⟨0, (), rfl, Or.inr (⟨ks_no2 (fun q9 => absurd (of_decide_eq_true q9).2.2.2.1 h9), rfl⟩), by rw [ht]; exact hP.sub [0, 1] rfl, hD.sub [0, 1] (by decide) rfl⟩, hS.F ht⟩) hS.2.2 dX11_spells_121
          · skip
            refine lv_iconst (v := 1) hx hb dX11_spells_106 (by decide) ?_
            refine lv_goto (tgt := 111) hx hb dX11_spells_107 (by decide) ?_
            refine lv_istore (lv' := [(8, .int 1), (9, .int 2), (0, .ref mo), (1, .int 5), (2, .int 103), (3, .int 108), (4, .int 101), (5, .int 97), (6, .int 110), (7, .int 0)]) hx hb dX11_spells_111 hl (by decide) rfl (fun ls hl => ?_)
            refine lv_iinc (v := 3) (lv' := [(9, .int 3), (8, .int 1), (0, .ref mo), (1, .int 5), (2, .int 103), (3, .int 108), (4, .int 101), (5, .int 97), (6, .int 110), (7, .int 0)]) hx hb dX11_spells_113 hl (k := 1) rfl (by decide) (by decide) rfl (fun ls hl => ?_)
            refine lv_goto (tgt := 26) hx hb dX11_spells_116 (by decide) ?_
            refine lv_iload hx hb dX11_spells_26 (lv_at hl 0 rfl) ?_
            refine lv_iload_n hx hb dX11_spells_28 rfl (lv_at hl 3 rfl) ?_
            refine lv_icmp_ge (tgt := 119) hx hb dX11_spells_29 (by decide) (fun h9 => absurd h9 (by decide)) (fun _ => ?_)
            refine lv_iload hx hb dX11_spells_32 (lv_at hl 1 rfl) ?_
            refine lv_if_eq (tgt := 119) hx hb dX11_spells_34 (by decide) (fun h9 => absurd h9 (by decide)) (fun _ => ?_)
            refine lv_aload_n hx hb dX11_spells_37 rfl (lv_at hl 2 rfl) ?_
            refine va_get (D := D) (ci := 11) (v := .ref mby) (C := RX11) (T := TX11) (N := 18) hx hb hts iw11 hown hK hP 0 rfl rfl 10 (by decide) fw3 (fun _ h9 => h9) rfl dX11_spells_38 ?_
            refine lv_aload_n hx hb dX11_spells_41 rfl (lv_at hl 2 rfl) ?_
            refine va_get (D := D) (ci := 11) (v := .int (nI ta)) (C := RX11) (T := TX11) (N := 18) hx hb hts iw11 hown hK hP 0 rfl rfl 12 (by decide) fw4 (fun _ h9 => h9) rfl dX11_spells_42 ?_
            refine lv_iload hx hb dX11_spells_45 (lv_at hl 0 rfl) ?_
            refine lv_iadd hx hb dX11_spells_47 ?_
            rw [show (nI ta) + 3 = nI (ta + 3) from nI_add ta 3]
            refine va_iald hx hb hK hP 1 0 rfl rfl (vp_in_nI (by omega) (by decide)) dX11_spells_48 ?_
            rw [nI_clamp (n := (ta + 3)) (by omega)]
            refine lv_iload hx hb dX11_spells_49 (lv_at hl 0 rfl) ?_
            refine lv_if_ne (tgt := 58) hx hb dX11_spells_51 (by decide) (fun _ => ?_) (fun h9 => absurd h9 (by decide))
            refine lv_iload hx hb dX11_spells_58 (lv_at hl 0 rfl) ?_
            refine lv_iconst (v := 1) hx hb dX11_spells_60 (by decide) ?_
            refine lv_icmp_ne (tgt := 68) hx hb dX11_spells_61 (by decide) (fun _ => ?_) (fun h9 => absurd h9 (by decide))
            refine lv_iload hx hb dX11_spells_68 (lv_at hl 0 rfl) ?_
            refine lv_iconst (v := 2) hx hb dX11_spells_70 (by decide) ?_
            refine lv_icmp_ne (tgt := 79) hx hb dX11_spells_71 (by decide) (fun _ => ?_) (fun h9 => absurd h9 (by decide))
            refine lv_iload hx hb dX11_spells_79 (lv_at hl 0 rfl) ?_
            refine lv_iconst (v := 3) hx hb dX11_spells_81 (by decide) ?_
            refine lv_icmp_ne (tgt := 90) hx hb dX11_spells_82 (by decide) (fun h9 => absurd h9 (by decide)) (fun _ => ?_)
            refine lv_iload hx hb dX11_spells_85 (lv_at hl 7 rfl) ?_
            refine lv_goto (tgt := 103) hx hb dX11_spells_87 (by decide) ?_
            refine lv_icmp_ne (tgt := 110) hx hb dX11_spells_103 (by decide) (fun h11 => ?_) (fun h12 => ?_)
            · skip
              refine lv_iconst (v := 0) hx hb dX11_spells_110 (by decide) ?_
              refine lv_istore (lv' := [(8, .int 0), (9, .int 3), (0, .ref mo), (1, .int 5), (2, .int 103), (3, .int 108), (4, .int 101), (5, .int 97), (6, .int 110), (7, .int 0)]) hx hb dX11_spells_111 hl (by decide) rfl (fun ls hl => ?_)
              refine lv_iinc (v := 4) (lv' := [(9, .int 4), (8, .int 0), (0, .ref mo), (1, .int 5), (2, .int 103), (3, .int 108), (4, .int 101), (5, .int 97), (6, .int 110), (7, .int 0)]) hx hb dX11_spells_113 hl (k := 1) rfl (by decide) (by decide) rfl (fun ls hl => ?_)
              refine lv_goto (tgt := 26) hx hb dX11_spells_116 (by decide) ?_
              refine lv_iload hx hb dX11_spells_26 (lv_at hl 0 rfl) ?_
              refine lv_iload_n hx hb dX11_spells_28 rfl (lv_at hl 3 rfl) ?_
              refine lv_icmp_ge (tgt := 119) hx hb dX11_spells_29 (by decide) (fun h9 => absurd h9 (by decide)) (fun _ => ?_)
              refine lv_iload hx hb dX11_spells_32 (lv_at hl 1 rfl) ?_
              refine lv_if_eq (tgt := 119) hx hb dX11_spells_34 (by decide) (fun _ => ?_) (fun h9 => absurd h9 (by decide))
              refine lv_iload hx hb dX11_spells_119 (lv_at hl 1 rfl) ?_
              exact W.zret (v := 0) hx hb hr (by decide) (fun tZ ht hW => ⟨⟨0, (), rfl, Or.inr (⟨ks_no2 (fun q9 => absurd (of_decide_eq_true q9).2.2.2.2.1 h11), rfl⟩), by rw [ht]; exact hP.sub [0, 1] rfl, hD.sub [0, 1] (by decide) rfl⟩, hS.F ht⟩) hS.2.2 dX11_spells_121
            · skip
              refine lv_iconst (v := 1) hx hb dX11_spells_106 (by decide) ?_
              refine lv_goto (tgt := 111) hx hb dX11_spells_107 (by decide) ?_
              refine lv_istore (lv' := [(8, .int 1), (9, .int 3), (0, .ref mo), (1, .int 5), (2, .int 103), (3, .int 108), (4, .int 101), (5, .int 97), (6, .int 110), (7, .int 0)]) hx hb dX11_spells_111 hl (by decide) rfl (fun ls hl => ?_)
              refine lv_iinc (v := 4) (lv' := [(9, .int 4), (8, .int 1), (0, .ref mo), (1, .int 5), (2, .int 103), (3, .int 108), (4, .int 101), (5, .int 97), (6, .int 110), (7, .int 0)]) hx hb dX11_spells_113 hl (k := 1) rfl (by decide) (by decide) rfl (fun ls hl => ?_)
              refine lv_goto (tgt := 26) hx hb dX11_spells_116 (by decide) ?_
              refine lv_iload hx hb dX11_spells_26 (lv_at hl 0 rfl) ?_
              refine lv_iload_n hx hb dX11_spells_28 rfl (lv_at hl 3 rfl) ?_
              refine lv_icmp_ge (tgt := 119) hx hb dX11_spells_29 (by decide) (fun h9 => absurd h9 (by decide)) (fun _ => ?_)
              refine lv_iload hx hb dX11_spells_32 (lv_at hl 1 rfl) ?_
              refine lv_if_eq (tgt := 119) hx hb dX11_spells_34 (by decide) (fun h9 => absurd h9 (by decide)) (fun _ => ?_)
              refine lv_aload_n hx hb dX11_spells_37 rfl (lv_at hl 2 rfl) ?_
              refine va_get (D := D) (ci := 11) (v := .ref mby) (C := RX11) (T := TX11) (N := 18) hx hb hts iw11 hown hK hP 0 rfl rfl 10 (by decide) fw3 (fun _ h9 => h9) rfl dX11_spells_38 ?_
              refine lv_aload_n hx hb dX11_spells_41 rfl (lv_at hl 2 rfl) ?_
              refine va_get (D := D) (ci := 11) (v := .int (nI ta)) (C := RX11) (T := TX11) (N := 18) hx hb hts iw11 hown hK hP 0 rfl rfl 12 (by decide) fw4 (fun _ h9 => h9) rfl dX11_spells_42 ?_
              refine lv_iload hx hb dX11_spells_45 (lv_at hl 0 rfl) ?_
              refine lv_iadd hx hb dX11_spells_47 ?_
              rw [show (nI ta) + 4 = nI (ta + 4) from nI_add ta 4]
              refine va_iald hx hb hK hP 1 0 rfl rfl (vp_in_nI (by omega) (by decide)) dX11_spells_48 ?_
              rw [nI_clamp (n := (ta + 4)) (by omega)]
              refine lv_iload hx hb dX11_spells_49 (lv_at hl 0 rfl) ?_
              refine lv_if_ne (tgt := 58) hx hb dX11_spells_51 (by decide) (fun _ => ?_) (fun h9 => absurd h9 (by decide))
              refine lv_iload hx hb dX11_spells_58 (lv_at hl 0 rfl) ?_
              refine lv_iconst (v := 1) hx hb dX11_spells_60 (by decide) ?_
              refine lv_icmp_ne (tgt := 68) hx hb dX11_spells_61 (by decide) (fun _ => ?_) (fun h9 => absurd h9 (by decide))
              refine lv_iload hx hb dX11_spells_68 (lv_at hl 0 rfl) ?_
              refine lv_iconst (v := 2) hx hb dX11_spells_70 (by decide) ?_
              refine lv_icmp_ne (tgt := 79) hx hb dX11_spells_71 (by decide) (fun _ => ?_) (fun h9 => absurd h9 (by decide))
              refine lv_iload hx hb dX11_spells_79 (lv_at hl 0 rfl) ?_
              refine lv_iconst (v := 3) hx hb dX11_spells_81 (by decide) ?_
              refine lv_icmp_ne (tgt := 90) hx hb dX11_spells_82 (by decide) (fun _ => ?_) (fun h9 => absurd h9 (by decide))
              refine lv_iload hx hb dX11_spells_90 (lv_at hl 0 rfl) ?_
              refine lv_iconst (v := 4) hx hb dX11_spells_92 (by decide) ?_
              refine lv_icmp_ne (tgt := 101) hx hb dX11_spells_93 (by decide) (fun h9 => absurd h9 (by decide)) (fun _ => ?_)
              refine lv_iload hx hb dX11_spells_96 (lv_at hl 8 rfl) ?_
              refine lv_goto (tgt := 103) hx hb dX11_spells_98 (by decide) ?_
              refine lv_icmp_ne (tgt := 110) hx hb dX11_spells_103 (by decide) (fun h13 => ?_) (fun h14 => ?_)
              · skip
                refine lv_iconst (v := 0) hx hb dX11_spells_110 (by decide) ?_
                refine lv_istore (lv' := [(8, .int 0), (9, .int 4), (0, .ref mo), (1, .int 5), (2, .int 103), (3, .int 108), (4, .int 101), (5, .int 97), (6, .int 110), (7, .int 0)]) hx hb dX11_spells_111 hl (by decide) rfl (fun ls hl => ?_)
                refine lv_iinc (v := 5) (lv' := [(9, .int 5), (8, .int 0), (0, .ref mo), (1, .int 5), (2, .int 103), (3, .int 108), (4, .int 101), (5, .int 97), (6, .int 110), (7, .int 0)]) hx hb dX11_spells_113 hl (k := 1) rfl (by decide) (by decide) rfl (fun ls hl => ?_)
                refine lv_goto (tgt := 26) hx hb dX11_spells_116 (by decide) ?_
                refine lv_iload hx hb dX11_spells_26 (lv_at hl 0 rfl) ?_
                refine lv_iload_n hx hb dX11_spells_28 rfl (lv_at hl 3 rfl) ?_
                refine lv_icmp_ge (tgt := 119) hx hb dX11_spells_29 (by decide) (fun _ => ?_) (fun h9 => absurd h9 (by decide))
                refine lv_iload hx hb dX11_spells_119 (lv_at hl 1 rfl) ?_
                exact W.zret (v := 0) hx hb hr (by decide) (fun tZ ht hW => ⟨⟨0, (), rfl, Or.inr (⟨ks_no2 (fun q9 => absurd (of_decide_eq_true q9).2.2.2.2.2 h13), rfl⟩), by rw [ht]; exact hP.sub [0, 1] rfl, hD.sub [0, 1] (by decide) rfl⟩, hS.F ht⟩) hS.2.2 dX11_spells_121
              · skip
                refine lv_iconst (v := 1) hx hb dX11_spells_106 (by decide) ?_
                refine lv_goto (tgt := 111) hx hb dX11_spells_107 (by decide) ?_
                refine lv_istore (lv' := [(8, .int 1), (9, .int 4), (0, .ref mo), (1, .int 5), (2, .int 103), (3, .int 108), (4, .int 101), (5, .int 97), (6, .int 110), (7, .int 0)]) hx hb dX11_spells_111 hl (by decide) rfl (fun ls hl => ?_)
                refine lv_iinc (v := 5) (lv' := [(9, .int 5), (8, .int 1), (0, .ref mo), (1, .int 5), (2, .int 103), (3, .int 108), (4, .int 101), (5, .int 97), (6, .int 110), (7, .int 0)]) hx hb dX11_spells_113 hl (k := 1) rfl (by decide) (by decide) rfl (fun ls hl => ?_)
                refine lv_goto (tgt := 26) hx hb dX11_spells_116 (by decide) ?_
                refine lv_iload hx hb dX11_spells_26 (lv_at hl 0 rfl) ?_
                refine lv_iload_n hx hb dX11_spells_28 rfl (lv_at hl 3 rfl) ?_
                refine lv_icmp_ge (tgt := 119) hx hb dX11_spells_29 (by decide) (fun _ => ?_) (fun h9 => absurd h9 (by decide))
                refine lv_iload hx hb dX11_spells_119 (lv_at hl 1 rfl) ?_
                exact W.zret (v := 1) hx hb hr (by decide) (fun tZ ht hW => ⟨⟨1, (), rfl, Or.inl ⟨ks_and h2 (decide_eq_true ⟨by omega, h6, h8, h10, h12, h14⟩), rfl⟩, by rw [ht]; exact hP.sub [0, 1] rfl, hD.sub [0, 1] (by decide) rfl⟩, hS.F ht⟩) hS.2.2 dX11_spells_121

set_option maxHeartbeats 4000000 in
set_option maxRecDepth 100000 in
theorem gr_Msp4 (l : Launch) (D : va_G) (y : Nat → ClassId) (mo : Nat) (to : Nat) (ke : Nat) (ik : Nat) (mrf : Nat) (ha : Nat) (r0 : Nat) (mbr : Nat) (mbp : Nat) (mby : Nat) (an : Nat) (va : Nat) (mab : Int64) (mbl : Int64) (bl : Nat) (ta : Nat) (tl : Nat) (tk : Nat) (vv : Int32) (fmb : Nat → Int32) (e : Nat) (hbl : bl ≤ 150) (he : ta + tl = e) (heb : e ≤ bl) (htk : tk ≤ 4) : kw_Mi l yX11_spells wsX11_spells ({ frames := 1, cells := 0, slots := 0, locals := 60 }) D y [.ref mo, .int 6, .int 103, .int 108, .int 101, .int 97, .int 110, .int 101] [(mo, .inr (11, [.ref to, .ref ke, .ref ik, .ref mrf, .long mab, .long mbl, .ref ha, .ref r0, .ref mbr, .ref mbp, .ref mby, .int (nI bl), .int (nI ta), .int (nI tl), .int (nI tk), .int vv, .ref an, .ref va])), (mby, .inl (y 0, 150, .inl fmb))] (fun (r : Int32) (u : Unit) => (ks_w4 fmb tk ta e = true ∧ r = 1) ∨ (¬ ks_w4 fmb tk ta e = true ∧ r = 0)) (fun _ => [(mo, .inr (11, [.ref to, .ref ke, .ref ik, .ref mrf, .long mab, .long mbl, .ref ha, .ref r0, .ref mbr, .ref mbp, .ref mby, .int (nI bl), .int (nI ta), .int (nI tl), .int (nI tk), .int vv, .ref an, .ref va])), (mby, .inl (y 0, 150, .inl fmb))]) 0 0 := by
  refine kw_Mi.of (cc := cX11_spells) (maxL := 10) (ret := (some .boolean)) (by decide) rfl ?_
  intro pZ eZ s mZ beZ meZ cZ A hE
  obtain ⟨hx, hb, hr, hml, hts, hown, hlocks, hin, hA, hP, hD, hK, hN⟩ := hE
  have hS : va_S A s.heap s.heap [] := va_S.rf
  have hl := lv_entry ([.ref mo, .int 6, .int 103, .int 108, .int 101, .int 97, .int 110, .int 101]) (n := 10) (Nat.le_of_ble_eq_true rfl)
  rw [lg_entry_eq]
  generalize (lg_sl ([.ref mo, .int 6, .int 103, .int 108, .int 101, .int 97, .int 110, .int 101]) ++ List.replicate (10 - (lg_sl ([.ref mo, .int 6, .int 103, .int 108, .int 101, .int 97, .int 110, .int 101])).length) Slot.unset).toArray = ls at hl ⊢
  have hl : lv_has ls 10 [(0, .ref mo), (1, .int 6), (2, .int 103), (3, .int 108), (4, .int 101), (5, .int 97), (6, .int 110), (7, .int 101)] := hl
  have fw1 := hts (.fieldLink RX11 228 "GleanDuskModel" "token" "I") (List.mem_of_getElem? (i := 1) rfl)
  have fw2 := hts (.fieldLink RX11 225 "GleanDuskModel" "tokenLong" "I") (List.mem_of_getElem? (i := 2) rfl)
  have fw3 := hts (.fieldLink RX11 39 "GleanDuskModel" "bytes" "[I") (List.mem_of_getElem? (i := 3) rfl)
  have fw4 := hts (.fieldLink RX11 222 "GleanDuskModel" "tokenAt" "I") (List.mem_of_getElem? (i := 4) rfl)
  have iw11 : ∀ w ∈ wsX110, w ∈ wsX11_spells := fun _ h => List.mem_cons_of_mem _ (List.mem_append_right _ h)
  refine lv_aload_n hx hb dX11_spells_0 rfl (lv_at hl 0 rfl) ?_
  refine va_get (D := D) (ci := 11) (v := .int (nI tk)) (C := RX11) (T := TX11) (N := 18) hx hb hts iw11 hown hK hP 0 rfl rfl 14 (by decide) fw1 (fun _ h9 => h9) rfl dX11_spells_1 ?_
  refine lv_iconst (v := 1) hx hb dX11_spells_4 (by decide) ?_
  refine lv_icmp_ne (tgt := 20) hx hb dX11_spells_5 (by decide) (fun h1 => ?_) (fun h2 => ?_)
  · skip
    have h1 : ¬ tk = 1 := fun q9 => h1 ((nI_eq (a := tk) (b := 1) (by omega) (by omega)).mpr q9)
    refine lv_iconst (v := 0) hx hb dX11_spells_20 (by decide) ?_
    refine lv_istore (lv' := [(8, .int 0), (0, .ref mo), (1, .int 6), (2, .int 103), (3, .int 108), (4, .int 101), (5, .int 97), (6, .int 110), (7, .int 101)]) hx hb dX11_spells_21 hl (by decide) rfl (fun ls hl => ?_)
    refine lv_iconst (v := 0) hx hb dX11_spells_23 (by decide) ?_
    refine lv_istore (lv' := [(9, .int 0), (8, .int 0), (0, .ref mo), (1, .int 6), (2, .int 103), (3, .int 108), (4, .int 101), (5, .int 97), (6, .int 110), (7, .int 101)]) hx hb dX11_spells_24 hl (by decide) rfl (fun ls hl => ?_)
    refine lv_iload hx hb dX11_spells_26 (lv_at hl 0 rfl) ?_
    refine lv_iload_n hx hb dX11_spells_28 rfl (lv_at hl 3 rfl) ?_
    refine lv_icmp_ge (tgt := 119) hx hb dX11_spells_29 (by decide) (fun h9 => absurd h9 (by decide)) (fun _ => ?_)
    refine lv_iload hx hb dX11_spells_32 (lv_at hl 1 rfl) ?_
    refine lv_if_eq (tgt := 119) hx hb dX11_spells_34 (by decide) (fun _ => ?_) (fun h9 => absurd h9 (by decide))
    refine lv_iload hx hb dX11_spells_119 (lv_at hl 1 rfl) ?_
    exact W.zret (v := 0) hx hb hr (by decide) (fun tZ ht hW => ⟨⟨0, (), rfl, Or.inr (⟨ks_no h1, rfl⟩), by rw [ht]; exact hP.sub [0, 1] rfl, hD.sub [0, 1] (by decide) rfl⟩, hS.F ht⟩) hS.2.2 dX11_spells_121
  · skip
    have h2 : tk = 1 := (nI_eq (a := tk) (b := 1) (by omega) (by omega)).mp h2
    refine lv_aload_n hx hb dX11_spells_8 rfl (lv_at hl 0 rfl) ?_
    refine va_get (D := D) (ci := 11) (v := .int (nI tl)) (C := RX11) (T := TX11) (N := 18) hx hb hts iw11 hown hK hP 0 rfl rfl 13 (by decide) fw2 (fun _ h9 => h9) rfl dX11_spells_9 ?_
    refine lv_iload_n hx hb dX11_spells_12 rfl (lv_at hl 1 rfl) ?_
    refine lv_icmp_ne (tgt := 20) hx hb dX11_spells_13 (by decide) (fun h3 => ?_) (fun h4 => ?_)
    · skip
      have h3 : ¬ tl = 6 := fun q9 => h3 ((nI_eq (a := tl) (b := 6) (by omega) (by omega)).mpr q9)
      refine lv_iconst (v := 0) hx hb dX11_spells_20 (by decide) ?_
      refine lv_istore (lv' := [(8, .int 0), (0, .ref mo), (1, .int 6), (2, .int 103), (3, .int 108), (4, .int 101), (5, .int 97), (6, .int 110), (7, .int 101)]) hx hb dX11_spells_21 hl (by decide) rfl (fun ls hl => ?_)
      refine lv_iconst (v := 0) hx hb dX11_spells_23 (by decide) ?_
      refine lv_istore (lv' := [(9, .int 0), (8, .int 0), (0, .ref mo), (1, .int 6), (2, .int 103), (3, .int 108), (4, .int 101), (5, .int 97), (6, .int 110), (7, .int 101)]) hx hb dX11_spells_24 hl (by decide) rfl (fun ls hl => ?_)
      refine lv_iload hx hb dX11_spells_26 (lv_at hl 0 rfl) ?_
      refine lv_iload_n hx hb dX11_spells_28 rfl (lv_at hl 3 rfl) ?_
      refine lv_icmp_ge (tgt := 119) hx hb dX11_spells_29 (by decide) (fun h9 => absurd h9 (by decide)) (fun _ => ?_)
      refine lv_iload hx hb dX11_spells_32 (lv_at hl 1 rfl) ?_
      refine lv_if_eq (tgt := 119) hx hb dX11_spells_34 (by decide) (fun _ => ?_) (fun h9 => absurd h9 (by decide))
      refine lv_iload hx hb dX11_spells_119 (lv_at hl 1 rfl) ?_
      exact W.zret (v := 0) hx hb hr (by decide) (fun tZ ht hW => ⟨⟨0, (), rfl, Or.inr (⟨ks_no2 (fun q9 => absurd (of_decide_eq_true q9).1 (by omega)), rfl⟩), by rw [ht]; exact hP.sub [0, 1] rfl, hD.sub [0, 1] (by decide) rfl⟩, hS.F ht⟩) hS.2.2 dX11_spells_121
    · skip
      have h4 : tl = 6 := (nI_eq (a := tl) (b := 6) (by omega) (by omega)).mp h4
      refine lv_iconst (v := 1) hx hb dX11_spells_16 (by decide) ?_
      refine lv_goto (tgt := 21) hx hb dX11_spells_17 (by decide) ?_
      refine lv_istore (lv' := [(8, .int 1), (0, .ref mo), (1, .int 6), (2, .int 103), (3, .int 108), (4, .int 101), (5, .int 97), (6, .int 110), (7, .int 101)]) hx hb dX11_spells_21 hl (by decide) rfl (fun ls hl => ?_)
      refine lv_iconst (v := 0) hx hb dX11_spells_23 (by decide) ?_
      refine lv_istore (lv' := [(9, .int 0), (8, .int 1), (0, .ref mo), (1, .int 6), (2, .int 103), (3, .int 108), (4, .int 101), (5, .int 97), (6, .int 110), (7, .int 101)]) hx hb dX11_spells_24 hl (by decide) rfl (fun ls hl => ?_)
      refine lv_iload hx hb dX11_spells_26 (lv_at hl 0 rfl) ?_
      refine lv_iload_n hx hb dX11_spells_28 rfl (lv_at hl 3 rfl) ?_
      refine lv_icmp_ge (tgt := 119) hx hb dX11_spells_29 (by decide) (fun h9 => absurd h9 (by decide)) (fun _ => ?_)
      refine lv_iload hx hb dX11_spells_32 (lv_at hl 1 rfl) ?_
      refine lv_if_eq (tgt := 119) hx hb dX11_spells_34 (by decide) (fun h9 => absurd h9 (by decide)) (fun _ => ?_)
      refine lv_aload_n hx hb dX11_spells_37 rfl (lv_at hl 2 rfl) ?_
      refine va_get (D := D) (ci := 11) (v := .ref mby) (C := RX11) (T := TX11) (N := 18) hx hb hts iw11 hown hK hP 0 rfl rfl 10 (by decide) fw3 (fun _ h9 => h9) rfl dX11_spells_38 ?_
      refine lv_aload_n hx hb dX11_spells_41 rfl (lv_at hl 2 rfl) ?_
      refine va_get (D := D) (ci := 11) (v := .int (nI ta)) (C := RX11) (T := TX11) (N := 18) hx hb hts iw11 hown hK hP 0 rfl rfl 12 (by decide) fw4 (fun _ h9 => h9) rfl dX11_spells_42 ?_
      refine lv_iload hx hb dX11_spells_45 (lv_at hl 0 rfl) ?_
      refine lv_iadd hx hb dX11_spells_47 ?_
      rw [show (nI ta) + 0 = nI (ta) from nI_add ta 0]
      refine va_iald hx hb hK hP 1 0 rfl rfl (vp_in_nI (by omega) (by decide)) dX11_spells_48 ?_
      rw [nI_clamp (n := ta) (by omega)]
      refine lv_iload hx hb dX11_spells_49 (lv_at hl 0 rfl) ?_
      refine lv_if_ne (tgt := 58) hx hb dX11_spells_51 (by decide) (fun h9 => absurd h9 (by decide)) (fun _ => ?_)
      refine lv_iload_n hx hb dX11_spells_54 rfl (lv_at hl 4 rfl) ?_
      refine lv_goto (tgt := 103) hx hb dX11_spells_55 (by decide) ?_
      refine lv_icmp_ne (tgt := 110) hx hb dX11_spells_103 (by decide) (fun h5 => ?_) (fun h6 => ?_)
      · skip
        refine lv_iconst (v := 0) hx hb dX11_spells_110 (by decide) ?_
        refine lv_istore (lv' := [(8, .int 0), (9, .int 0), (0, .ref mo), (1, .int 6), (2, .int 103), (3, .int 108), (4, .int 101), (5, .int 97), (6, .int 110), (7, .int 101)]) hx hb dX11_spells_111 hl (by decide) rfl (fun ls hl => ?_)
        refine lv_iinc (v := 1) (lv' := [(9, .int 1), (8, .int 0), (0, .ref mo), (1, .int 6), (2, .int 103), (3, .int 108), (4, .int 101), (5, .int 97), (6, .int 110), (7, .int 101)]) hx hb dX11_spells_113 hl (k := 1) rfl (by decide) (by decide) rfl (fun ls hl => ?_)
        refine lv_goto (tgt := 26) hx hb dX11_spells_116 (by decide) ?_
        refine lv_iload hx hb dX11_spells_26 (lv_at hl 0 rfl) ?_
        refine lv_iload_n hx hb dX11_spells_28 rfl (lv_at hl 3 rfl) ?_
        refine lv_icmp_ge (tgt := 119) hx hb dX11_spells_29 (by decide) (fun h9 => absurd h9 (by decide)) (fun _ => ?_)
        refine lv_iload hx hb dX11_spells_32 (lv_at hl 1 rfl) ?_
        refine lv_if_eq (tgt := 119) hx hb dX11_spells_34 (by decide) (fun _ => ?_) (fun h9 => absurd h9 (by decide))
        refine lv_iload hx hb dX11_spells_119 (lv_at hl 1 rfl) ?_
        exact W.zret (v := 0) hx hb hr (by decide) (fun tZ ht hW => ⟨⟨0, (), rfl, Or.inr (⟨ks_no2 (fun q9 => absurd (of_decide_eq_true q9).2.1 h5), rfl⟩), by rw [ht]; exact hP.sub [0, 1] rfl, hD.sub [0, 1] (by decide) rfl⟩, hS.F ht⟩) hS.2.2 dX11_spells_121
      · skip
        refine lv_iconst (v := 1) hx hb dX11_spells_106 (by decide) ?_
        refine lv_goto (tgt := 111) hx hb dX11_spells_107 (by decide) ?_
        refine lv_istore (lv' := [(8, .int 1), (9, .int 0), (0, .ref mo), (1, .int 6), (2, .int 103), (3, .int 108), (4, .int 101), (5, .int 97), (6, .int 110), (7, .int 101)]) hx hb dX11_spells_111 hl (by decide) rfl (fun ls hl => ?_)
        refine lv_iinc (v := 1) (lv' := [(9, .int 1), (8, .int 1), (0, .ref mo), (1, .int 6), (2, .int 103), (3, .int 108), (4, .int 101), (5, .int 97), (6, .int 110), (7, .int 101)]) hx hb dX11_spells_113 hl (k := 1) rfl (by decide) (by decide) rfl (fun ls hl => ?_)
        refine lv_goto (tgt := 26) hx hb dX11_spells_116 (by decide) ?_
        refine lv_iload hx hb dX11_spells_26 (lv_at hl 0 rfl) ?_
        refine lv_iload_n hx hb dX11_spells_28 rfl (lv_at hl 3 rfl) ?_
        refine lv_icmp_ge (tgt := 119) hx hb dX11_spells_29 (by decide) (fun h9 => absurd h9 (by decide)) (fun _ => ?_)
        refine lv_iload hx hb dX11_spells_32 (lv_at hl 1 rfl) ?_
        refine lv_if_eq (tgt := 119) hx hb dX11_spells_34 (by decide) (fun h9 => absurd h9 (by decide)) (fun _ => ?_)
        refine lv_aload_n hx hb dX11_spells_37 rfl (lv_at hl 2 rfl) ?_
        refine va_get (D := D) (ci := 11) (v := .ref mby) (C := RX11) (T := TX11) (N := 18) hx hb hts iw11 hown hK hP 0 rfl rfl 10 (by decide) fw3 (fun _ h9 => h9) rfl dX11_spells_38 ?_
        refine lv_aload_n hx hb dX11_spells_41 rfl (lv_at hl 2 rfl) ?_
        refine va_get (D := D) (ci := 11) (v := .int (nI ta)) (C := RX11) (T := TX11) (N := 18) hx hb hts iw11 hown hK hP 0 rfl rfl 12 (by decide) fw4 (fun _ h9 => h9) rfl dX11_spells_42 ?_
        refine lv_iload hx hb dX11_spells_45 (lv_at hl 0 rfl) ?_
        refine lv_iadd hx hb dX11_spells_47 ?_
        rw [show (nI ta) + 1 = nI (ta + 1) from nI_add ta 1]
        refine va_iald hx hb hK hP 1 0 rfl rfl (vp_in_nI (by omega) (by decide)) dX11_spells_48 ?_
        rw [nI_clamp (n := (ta + 1)) (by omega)]
        refine lv_iload hx hb dX11_spells_49 (lv_at hl 0 rfl) ?_
        refine lv_if_ne (tgt := 58) hx hb dX11_spells_51 (by decide) (fun _ => ?_) (fun h9 => absurd h9 (by decide))
        refine lv_iload hx hb dX11_spells_58 (lv_at hl 0 rfl) ?_
        refine lv_iconst (v := 1) hx hb dX11_spells_60 (by decide) ?_
        refine lv_icmp_ne (tgt := 68) hx hb dX11_spells_61 (by decide) (fun h9 => absurd h9 (by decide)) (fun _ => ?_)
        refine lv_iload_n hx hb dX11_spells_64 rfl (lv_at hl 5 rfl) ?_
        refine lv_goto (tgt := 103) hx hb dX11_spells_65 (by decide) ?_
        refine lv_icmp_ne (tgt := 110) hx hb dX11_spells_103 (by decide) (fun h7 => ?_) (fun h8 => ?_)
        · skip
          refine lv_iconst (v := 0) hx hb dX11_spells_110 (by decide) ?_
          refine lv_istore (lv' := [(8, .int 0), (9, .int 1), (0, .ref mo), (1, .int 6), (2, .int 103), (3, .int 108), (4, .int 101), (5, .int 97), (6, .int 110), (7, .int 101)]) hx hb dX11_spells_111 hl (by decide) rfl (fun ls hl => ?_)
          refine lv_iinc (v := 2) (lv' := [(9, .int 2), (8, .int 0), (0, .ref mo), (1, .int 6), (2, .int 103), (3, .int 108), (4, .int 101), (5, .int 97), (6, .int 110), (7, .int 101)]) hx hb dX11_spells_113 hl (k := 1) rfl (by decide) (by decide) rfl (fun ls hl => ?_)
          refine lv_goto (tgt := 26) hx hb dX11_spells_116 (by decide) ?_
          refine lv_iload hx hb dX11_spells_26 (lv_at hl 0 rfl) ?_
          refine lv_iload_n hx hb dX11_spells_28 rfl (lv_at hl 3 rfl) ?_
          refine lv_icmp_ge (tgt := 119) hx hb dX11_spells_29 (by decide) (fun h9 => absurd h9 (by decide)) (fun _ => ?_)
          refine lv_iload hx hb dX11_spells_32 (lv_at hl 1 rfl) ?_
          refine lv_if_eq (tgt := 119) hx hb dX11_spells_34 (by decide) (fun _ => ?_) (fun h9 => absurd h9 (by decide))
          refine lv_iload hx hb dX11_spells_119 (lv_at hl 1 rfl) ?_
          exact W.zret (v := 0) hx hb hr (by decide) (fun tZ ht hW => ⟨⟨0, (), rfl, Or.inr (⟨ks_no2 (fun q9 => absurd (of_decide_eq_true q9).2.2.1 h7), rfl⟩), by rw [ht]; exact hP.sub [0, 1] rfl, hD.sub [0, 1] (by decide) rfl⟩, hS.F ht⟩) hS.2.2 dX11_spells_121
        · skip
          refine lv_iconst (v := 1) hx hb dX11_spells_106 (by decide) ?_
          refine lv_goto (tgt := 111) hx hb dX11_spells_107 (by decide) ?_
          refine lv_istore (lv' := [(8, .int 1), (9, .int 1), (0, .ref mo), (1, .int 6), (2, .int 103), (3, .int 108), (4, .int 101), (5, .int 97), (6, .int 110), (7, .int 101)]) hx hb dX11_spells_111 hl (by decide) rfl (fun ls hl => ?_)
          refine lv_iinc (v := 2) (lv' := [(9, .int 2), (8, .int 1), (0, .ref mo), (1, .int 6), (2, .int 103), (3, .int 108), (4, .int 101), (5, .int 97), (6, .int 110), (7, .int 101)]) hx hb dX11_spells_113 hl (k := 1) rfl (by decide) (by decide) rfl (fun ls hl => ?_)
          refine lv_goto (tgt := 26) hx hb dX11_spells_116 (by decide) ?_
          refine lv_iload hx hb dX11_spells_26 (lv_at hl 0 rfl) ?_
          refine lv_iload_n hx hb dX11_spells_28 rfl (lv_at hl 3 rfl) ?_
          refine lv_icmp_ge (tgt := 119) hx hb dX11_spells_29 (by decide) (fun h9 => absurd h9 (by decide)) (fun _ => ?_)
          refine lv_iload hx hb dX11_spells_32 (lv_at hl 1 rfl) ?_
          refine lv_if_eq (tgt := 119) hx hb dX11_spells_34 (by decide) (fun h9 => absurd h9 (by decide)) (fun _ => ?_)
          refine lv_aload_n hx hb dX11_spells_37 rfl (lv_at hl 2 rfl) ?_
          refine va_get (D := D) (ci := 11) (v := .ref mby) (C := RX11) (T := TX11) (N := 18) hx hb hts iw11 hown hK hP 0 rfl rfl 10 (by decide) fw3 (fun _ h9 => h9) rfl dX11_spells_38 ?_
          refine lv_aload_n hx hb dX11_spells_41 rfl (lv_at hl 2 rfl) ?_
          refine va_get (D := D) (ci := 11) (v := .int (nI ta)) (C := RX11) (T := TX11) (N := 18) hx hb hts iw11 hown hK hP 0 rfl rfl 12 (by decide) fw4 (fun _ h9 => h9) rfl dX11_spells_42 ?_
          refine lv_iload hx hb dX11_spells_45 (lv_at hl 0 rfl) ?_
          refine lv_iadd hx hb dX11_spells_47 ?_
          rw [show (nI ta) + 2 = nI (ta + 2) from nI_add ta 2]
          refine va_iald hx hb hK hP 1 0 rfl rfl (vp_in_nI (by omega) (by decide)) dX11_spells_48 ?_
          rw [nI_clamp (n := (ta + 2)) (by omega)]
          refine lv_iload hx hb dX11_spells_49 (lv_at hl 0 rfl) ?_
          refine lv_if_ne (tgt := 58) hx hb dX11_spells_51 (by decide) (fun _ => ?_) (fun h9 => absurd h9 (by decide))
          refine lv_iload hx hb dX11_spells_58 (lv_at hl 0 rfl) ?_
          refine lv_iconst (v := 1) hx hb dX11_spells_60 (by decide) ?_
          refine lv_icmp_ne (tgt := 68) hx hb dX11_spells_61 (by decide) (fun _ => ?_) (fun h9 => absurd h9 (by decide))
          refine lv_iload hx hb dX11_spells_68 (lv_at hl 0 rfl) ?_
          refine lv_iconst (v := 2) hx hb dX11_spells_70 (by decide) ?_
          refine lv_icmp_ne (tgt := 79) hx hb dX11_spells_71 (by decide) (fun h9 => absurd h9 (by decide)) (fun _ => ?_)
          refine lv_iload hx hb dX11_spells_74 (lv_at hl 6 rfl) ?_
          refine lv_goto (tgt := 103) hx hb dX11_spells_76 (by decide) ?_
          refine lv_icmp_ne (tgt := 110) hx hb dX11_spells_103 (by decide) (fun h9 => ?_) (fun h10 => ?_)
          · skip
            refine lv_iconst (v := 0) hx hb dX11_spells_110 (by decide) ?_
            refine lv_istore (lv' := [(8, .int 0), (9, .int 2), (0, .ref mo), (1, .int 6), (2, .int 103), (3, .int 108), (4, .int 101), (5, .int 97), (6, .int 110), (7, .int 101)]) hx hb dX11_spells_111 hl (by decide) rfl (fun ls hl => ?_)
            refine lv_iinc (v := 3) (lv' := [(9, .int 3), (8, .int 0), (0, .ref mo), (1, .int 6), (2, .int 103), (3, .int 108), (4, .int 101), (5, .int 97), (6, .int 110), (7, .int 101)]) hx hb dX11_spells_113 hl (k := 1) rfl (by decide) (by decide) rfl (fun ls hl => ?_)
            refine lv_goto (tgt := 26) hx hb dX11_spells_116 (by decide) ?_
            refine lv_iload hx hb dX11_spells_26 (lv_at hl 0 rfl) ?_
            refine lv_iload_n hx hb dX11_spells_28 rfl (lv_at hl 3 rfl) ?_
            refine lv_icmp_ge (tgt := 119) hx hb dX11_spells_29 (by decide) (fun h9 => absurd h9 (by decide)) (fun _ => ?_)
            refine lv_iload hx hb dX11_spells_32 (lv_at hl 1 rfl) ?_
            refine lv_if_eq (tgt := 119) hx hb dX11_spells_34 (by decide) (fun _ => ?_) (fun h9 => absurd h9 (by decide))
            refine lv_iload hx hb dX11_spells_119 (lv_at hl 1 rfl) ?_
            exact W.zret (v := 0) hx hb hr (by decide) (fun tZ ht hW => ⟨⟨0, (), rfl, Or.inr (⟨ks_no2 (fun q9 => absurd (of_decide_eq_true q9).2.2.2.1 h9), rfl⟩), by rw [ht]; exact hP.sub [0, 1] rfl, hD.sub [0, 1] (by decide) rfl⟩, hS.F ht⟩) hS.2.2 dX11_spells_121
          · skip
            refine lv_iconst (v := 1) hx hb dX11_spells_106 (by decide) ?_
            refine lv_goto (tgt := 111) hx hb dX11_spells_107 (by decide) ?_
            refine lv_istore (lv' := [(8, .int 1), (9, .int 2), (0, .ref mo), (1, .int 6), (2, .int 103), (3, .int 108), (4, .int 101), (5, .int 97), (6, .int 110), (7, .int 101)]) hx hb dX11_spells_111 hl (by decide) rfl (fun ls hl => ?_)
            refine lv_iinc (v := 3) (lv' := [(9, .int 3), (8, .int 1), (0, .ref mo), (1, .int 6), (2, .int 103), (3, .int 108), (4, .int 101), (5, .int 97), (6, .int 110), (7, .int 101)]) hx hb dX11_spells_113 hl (k := 1) rfl (by decide) (by decide) rfl (fun ls hl => ?_)
            refine lv_goto (tgt := 26) hx hb dX11_spells_116 (by decide) ?_
            refine lv_iload hx hb dX11_spells_26 (lv_at hl 0 rfl) ?_
            refine lv_iload_n hx hb dX11_spells_28 rfl (lv_at hl 3 rfl) ?_
            refine lv_icmp_ge (tgt := 119) hx hb dX11_spells_29 (by decide) (fun h9 => absurd h9 (by decide)) (fun _ => ?_)
            refine lv_iload hx hb dX11_spells_32 (lv_at hl 1 rfl) ?_
            refine lv_if_eq (tgt := 119) hx hb dX11_spells_34 (by decide) (fun h9 => absurd h9 (by decide)) (fun _ => ?_)
            refine lv_aload_n hx hb dX11_spells_37 rfl (lv_at hl 2 rfl) ?_
            refine va_get (D := D) (ci := 11) (v := .ref mby) (C := RX11) (T := TX11) (N := 18) hx hb hts iw11 hown hK hP 0 rfl rfl 10 (by decide) fw3 (fun _ h9 => h9) rfl dX11_spells_38 ?_
            refine lv_aload_n hx hb dX11_spells_41 rfl (lv_at hl 2 rfl) ?_
            refine va_get (D := D) (ci := 11) (v := .int (nI ta)) (C := RX11) (T := TX11) (N := 18) hx hb hts iw11 hown hK hP 0 rfl rfl 12 (by decide) fw4 (fun _ h9 => h9) rfl dX11_spells_42 ?_
            refine lv_iload hx hb dX11_spells_45 (lv_at hl 0 rfl) ?_
            refine lv_iadd hx hb dX11_spells_47 ?_
            rw [show (nI ta) + 3 = nI (ta + 3) from nI_add ta 3]
            refine va_iald hx hb hK hP 1 0 rfl rfl (vp_in_nI (by omega) (by decide)) dX11_spells_48 ?_
            rw [nI_clamp (n := (ta + 3)) (by omega)]
            refine lv_iload hx hb dX11_spells_49 (lv_at hl 0 rfl) ?_
            refine lv_if_ne (tgt := 58) hx hb dX11_spells_51 (by decide) (fun _ => ?_) (fun h9 => absurd h9 (by decide))
            refine lv_iload hx hb dX11_spells_58 (lv_at hl 0 rfl) ?_
            refine lv_iconst (v := 1) hx hb dX11_spells_60 (by decide) ?_
            refine lv_icmp_ne (tgt := 68) hx hb dX11_spells_61 (by decide) (fun _ => ?_) (fun h9 => absurd h9 (by decide))
            refine lv_iload hx hb dX11_spells_68 (lv_at hl 0 rfl) ?_
            refine lv_iconst (v := 2) hx hb dX11_spells_70 (by decide) ?_
            refine lv_icmp_ne (tgt := 79) hx hb dX11_spells_71 (by decide) (fun _ => ?_) (fun h9 => absurd h9 (by decide))
            refine lv_iload hx hb dX11_spells_79 (lv_at hl 0 rfl) ?_
            refine lv_iconst (v := 3) hx hb dX11_spells_81 (by decide) ?_
            refine lv_icmp_ne (tgt := 90) hx hb dX11_spells_82 (by decide) (fun h9 => absurd h9 (by decide)) (fun _ => ?_)
            refine lv_iload hx hb dX11_spells_85 (lv_at hl 7 rfl) ?_
            refine lv_goto (tgt := 103) hx hb dX11_spells_87 (by decide) ?_
            refine lv_icmp_ne (tgt := 110) hx hb dX11_spells_103 (by decide) (fun h11 => ?_) (fun h12 => ?_)
            · skip
              refine lv_iconst (v := 0) hx hb dX11_spells_110 (by decide) ?_
              refine lv_istore (lv' := [(8, .int 0), (9, .int 3), (0, .ref mo), (1, .int 6), (2, .int 103), (3, .int 108), (4, .int 101), (5, .int 97), (6, .int 110), (7, .int 101)]) hx hb dX11_spells_111 hl (by decide) rfl (fun ls hl => ?_)
              refine lv_iinc (v := 4) (lv' := [(9, .int 4), (8, .int 0), (0, .ref mo), (1, .int 6), (2, .int 103), (3, .int 108), (4, .int 101), (5, .int 97), (6, .int 110), (7, .int 101)]) hx hb dX11_spells_113 hl (k := 1) rfl (by decide) (by decide) rfl (fun ls hl => ?_)
              refine lv_goto (tgt := 26) hx hb dX11_spells_116 (by decide) ?_
              refine lv_iload hx hb dX11_spells_26 (lv_at hl 0 rfl) ?_
              refine lv_iload_n hx hb dX11_spells_28 rfl (lv_at hl 3 rfl) ?_
              refine lv_icmp_ge (tgt := 119) hx hb dX11_spells_29 (by decide) (fun h9 => absurd h9 (by decide)) (fun _ => ?_)
              refine lv_iload hx hb dX11_spells_32 (lv_at hl 1 rfl) ?_
              refine lv_if_eq (tgt := 119) hx hb dX11_spells_34 (by decide) (fun _ => ?_) (fun h9 => absurd h9 (by decide))
              refine lv_iload hx hb dX11_spells_119 (lv_at hl 1 rfl) ?_
              exact W.zret (v := 0) hx hb hr (by decide) (fun tZ ht hW => ⟨⟨0, (), rfl, Or.inr (⟨ks_no2 (fun q9 => absurd (of_decide_eq_true q9).2.2.2.2.1 h11), rfl⟩), by rw [ht]; exact hP.sub [0, 1] rfl, hD.sub [0, 1] (by decide) rfl⟩, hS.F ht⟩) hS.2.2 dX11_spells_121
            · skip
              refine lv_iconst (v := 1) hx hb dX11_spells_106 (by decide) ?_
              refine lv_goto (tgt := 111) hx hb dX11_spells_107 (by decide) ?_
              refine lv_istore (lv' := [(8, .int 1), (9, .int 3), (0, .ref mo), (1, .int 6), (2, .int 103), (3, .int 108), (4, .int 101), (5, .int 97), (6, .int 110), (7, .int 101)]) hx hb dX11_spells_111 hl (by decide) rfl (fun ls hl => ?_)
              refine lv_iinc (v := 4) (lv' := [(9, .int 4), (8, .int 1), (0, .ref mo), (1, .int 6), (2, .int 103), (3, .int 108), (4, .int 101), (5, .int 97), (6, .int 110), (7, .int 101)]) hx hb dX11_spells_113 hl (k := 1) rfl (by decide) (by decide) rfl (fun ls hl => ?_)
              refine lv_goto (tgt := 26) hx hb dX11_spells_116 (by decide) ?_
              refine lv_iload hx hb dX11_spells_26 (lv_at hl 0 rfl) ?_
              refine lv_iload_n hx hb dX11_spells_28 rfl (lv_at hl 3 rfl) ?_
              refine lv_icmp_ge (tgt := 119) hx hb dX11_spells_29 (by decide) (fun h9 => absurd h9 (by decide)) (fun _ => ?_)
              refine lv_iload hx hb dX11_spells_32 (lv_at hl 1 rfl) ?_
              refine lv_if_eq (tgt := 119) hx hb dX11_spells_34 (by decide) (fun h9 => absurd h9 (by decide)) (fun _ => ?_)
              refine lv_aload_n hx hb dX11_spells_37 rfl (lv_at hl 2 rfl) ?_
              refine va_get (D := D) (ci := 11) (v := .ref mby) (C := RX11) (T := TX11) (N := 18) hx hb hts iw11 hown hK hP 0 rfl rfl 10 (by decide) fw3 (fun _ h9 => h9) rfl dX11_spells_38 ?_
              refine lv_aload_n hx hb dX11_spells_41 rfl (lv_at hl 2 rfl) ?_
              refine va_get (D := D) (ci := 11) (v := .int (nI ta)) (C := RX11) (T := TX11) (N := 18) hx hb hts iw11 hown hK hP 0 rfl rfl 12 (by decide) fw4 (fun _ h9 => h9) rfl dX11_spells_42 ?_
              refine lv_iload hx hb dX11_spells_45 (lv_at hl 0 rfl) ?_
              refine lv_iadd hx hb dX11_spells_47 ?_
              rw [show (nI ta) + 4 = nI (ta + 4) from nI_add ta 4]
              refine va_iald hx hb hK hP 1 0 rfl rfl (vp_in_nI (by omega) (by decide)) dX11_spells_48 ?_
              rw [nI_clamp (n := (ta + 4)) (by omega)]
              refine lv_iload hx hb dX11_spells_49 (lv_at hl 0 rfl) ?_
              refine lv_if_ne (tgt := 58) hx hb dX11_spells_51 (by decide) (fun _ => ?_) (fun h9 => absurd h9 (by decide))
              refine lv_iload hx hb dX11_spells_58 (lv_at hl 0 rfl) ?_
              refine lv_iconst (v := 1) hx hb dX11_spells_60 (by decide) ?_
              refine lv_icmp_ne (tgt := 68) hx hb dX11_spells_61 (by decide) (fun _ => ?_) (fun h9 => absurd h9 (by decide))
              refine lv_iload hx hb dX11_spells_68 (lv_at hl 0 rfl) ?_
              refine lv_iconst (v := 2) hx hb dX11_spells_70 (by decide) ?_
              refine lv_icmp_ne (tgt := 79) hx hb dX11_spells_71 (by decide) (fun _ => ?_) (fun h9 => absurd h9 (by decide))
              refine lv_iload hx hb dX11_spells_79 (lv_at hl 0 rfl) ?_
              refine lv_iconst (v := 3) hx hb dX11_spells_81 (by decide) ?_
              refine lv_icmp_ne (tgt := 90) hx hb dX11_spells_82 (by decide) (fun _ => ?_) (fun h9 => absurd h9 (by decide))
              refine lv_iload hx hb dX11_spells_90 (lv_at hl 0 rfl) ?_
              refine lv_iconst (v := 4) hx hb dX11_spells_92 (by decide) ?_
              refine lv_icmp_ne (tgt := 101) hx hb dX11_spells_93 (by decide) (fun h9 => absurd h9 (by decide)) (fun _ => ?_)
              refine lv_iload hx hb dX11_spells_96 (lv_at hl 8 rfl) ?_
              refine lv_goto (tgt := 103) hx hb dX11_spells_98 (by decide) ?_
              refine lv_icmp_ne (tgt := 110) hx hb dX11_spells_103 (by decide) (fun h13 => ?_) (fun h14 => ?_)
              · skip
                refine lv_iconst (v := 0) hx hb dX11_spells_110 (by decide) ?_
                refine lv_istore (lv' := [(8, .int 0), (9, .int 4), (0, .ref mo), (1, .int 6), (2, .int 103), (3, .int 108), (4, .int 101), (5, .int 97), (6, .int 110), (7, .int 101)]) hx hb dX11_spells_111 hl (by decide) rfl (fun ls hl => ?_)
                refine lv_iinc (v := 5) (lv' := [(9, .int 5), (8, .int 0), (0, .ref mo), (1, .int 6), (2, .int 103), (3, .int 108), (4, .int 101), (5, .int 97), (6, .int 110), (7, .int 101)]) hx hb dX11_spells_113 hl (k := 1) rfl (by decide) (by decide) rfl (fun ls hl => ?_)
                refine lv_goto (tgt := 26) hx hb dX11_spells_116 (by decide) ?_
                refine lv_iload hx hb dX11_spells_26 (lv_at hl 0 rfl) ?_
                refine lv_iload_n hx hb dX11_spells_28 rfl (lv_at hl 3 rfl) ?_
                refine lv_icmp_ge (tgt := 119) hx hb dX11_spells_29 (by decide) (fun h9 => absurd h9 (by decide)) (fun _ => ?_)
                refine lv_iload hx hb dX11_spells_32 (lv_at hl 1 rfl) ?_
                refine lv_if_eq (tgt := 119) hx hb dX11_spells_34 (by decide) (fun _ => ?_) (fun h9 => absurd h9 (by decide))
                refine lv_iload hx hb dX11_spells_119 (lv_at hl 1 rfl) ?_
                exact W.zret (v := 0) hx hb hr (by decide) (fun tZ ht hW => ⟨⟨0, (), rfl, Or.inr (⟨ks_no2 (fun q9 => absurd (of_decide_eq_true q9).2.2.2.2.2.1 h13), rfl⟩), by rw [ht]; exact hP.sub [0, 1] rfl, hD.sub [0, 1] (by decide) rfl⟩, hS.F ht⟩) hS.2.2 dX11_spells_121
              · skip
                refine lv_iconst (v := 1) hx hb dX11_spells_106 (by decide) ?_
                refine lv_goto (tgt := 111) hx hb dX11_spells_107 (by decide) ?_
                refine lv_istore (lv' := [(8, .int 1), (9, .int 4), (0, .ref mo), (1, .int 6), (2, .int 103), (3, .int 108), (4, .int 101), (5, .int 97), (6, .int 110), (7, .int 101)]) hx hb dX11_spells_111 hl (by decide) rfl (fun ls hl => ?_)
                refine lv_iinc (v := 5) (lv' := [(9, .int 5), (8, .int 1), (0, .ref mo), (1, .int 6), (2, .int 103), (3, .int 108), (4, .int 101), (5, .int 97), (6, .int 110), (7, .int 101)]) hx hb dX11_spells_113 hl (k := 1) rfl (by decide) (by decide) rfl (fun ls hl => ?_)
                refine lv_goto (tgt := 26) hx hb dX11_spells_116 (by decide) ?_
                refine lv_iload hx hb dX11_spells_26 (lv_at hl 0 rfl) ?_
                refine lv_iload_n hx hb dX11_spells_28 rfl (lv_at hl 3 rfl) ?_
                refine lv_icmp_ge (tgt := 119) hx hb dX11_spells_29 (by decide) (fun h9 => absurd h9 (by decide)) (fun _ => ?_)
                refine lv_iload hx hb dX11_spells_32 (lv_at hl 1 rfl) ?_
                refine lv_if_eq (tgt := 119) hx hb dX11_spells_34 (by decide) (fun h9 => absurd h9 (by decide)) (fun _ => ?_)
                refine lv_aload_n hx hb dX11_spells_37 rfl (lv_at hl 2 rfl) ?_
                refine va_get (D := D) (ci := 11) (v := .ref mby) (C := RX11) (T := TX11) (N := 18) hx hb hts iw11 hown hK hP 0 rfl rfl 10 (by decide) fw3 (fun _ h9 => h9) rfl dX11_spells_38 ?_
                refine lv_aload_n hx hb dX11_spells_41 rfl (lv_at hl 2 rfl) ?_
                refine va_get (D := D) (ci := 11) (v := .int (nI ta)) (C := RX11) (T := TX11) (N := 18) hx hb hts iw11 hown hK hP 0 rfl rfl 12 (by decide) fw4 (fun _ h9 => h9) rfl dX11_spells_42 ?_
                refine lv_iload hx hb dX11_spells_45 (lv_at hl 0 rfl) ?_
                refine lv_iadd hx hb dX11_spells_47 ?_
                rw [show (nI ta) + 5 = nI (ta + 5) from nI_add ta 5]
                refine va_iald hx hb hK hP 1 0 rfl rfl (vp_in_nI (by omega) (by decide)) dX11_spells_48 ?_
                rw [nI_clamp (n := (ta + 5)) (by omega)]
                refine lv_iload hx hb dX11_spells_49 (lv_at hl 0 rfl) ?_
                refine lv_if_ne (tgt := 58) hx hb dX11_spells_51 (by decide) (fun _ => ?_) (fun h9 => absurd h9 (by decide))
                refine lv_iload hx hb dX11_spells_58 (lv_at hl 0 rfl) ?_
                refine lv_iconst (v := 1) hx hb dX11_spells_60 (by decide) ?_
                refine lv_icmp_ne (tgt := 68) hx hb dX11_spells_61 (by decide) (fun _ => ?_) (fun h9 => absurd h9 (by decide))
                refine lv_iload hx hb dX11_spells_68 (lv_at hl 0 rfl) ?_
                refine lv_iconst (v := 2) hx hb dX11_spells_70 (by decide) ?_
                refine lv_icmp_ne (tgt := 79) hx hb dX11_spells_71 (by decide) (fun _ => ?_) (fun h9 => absurd h9 (by decide))
                refine lv_iload hx hb dX11_spells_79 (lv_at hl 0 rfl) ?_
                refine lv_iconst (v := 3) hx hb dX11_spells_81 (by decide) ?_
                refine lv_icmp_ne (tgt := 90) hx hb dX11_spells_82 (by decide) (fun _ => ?_) (fun h9 => absurd h9 (by decide))
                refine lv_iload hx hb dX11_spells_90 (lv_at hl 0 rfl) ?_
                refine lv_iconst (v := 4) hx hb dX11_spells_92 (by decide) ?_
                refine lv_icmp_ne (tgt := 101) hx hb dX11_spells_93 (by decide) (fun _ => ?_) (fun h9 => absurd h9 (by decide))
                refine lv_iload hx hb dX11_spells_101 (lv_at hl 9 rfl) ?_
                refine lv_icmp_ne (tgt := 110) hx hb dX11_spells_103 (by decide) (fun h15 => ?_) (fun h16 => ?_)
                · skip
                  refine lv_iconst (v := 0) hx hb dX11_spells_110 (by decide) ?_
                  refine lv_istore (lv' := [(8, .int 0), (9, .int 5), (0, .ref mo), (1, .int 6), (2, .int 103), (3, .int 108), (4, .int 101), (5, .int 97), (6, .int 110), (7, .int 101)]) hx hb dX11_spells_111 hl (by decide) rfl (fun ls hl => ?_)
                  refine lv_iinc (v := 6) (lv' := [(9, .int 6), (8, .int 0), (0, .ref mo), (1, .int 6), (2, .int 103), (3, .int 108), (4, .int 101), (5, .int 97), (6, .int 110), (7, .int 101)]) hx hb dX11_spells_113 hl (k := 1) rfl (by decide) (by decide) rfl (fun ls hl => ?_)
                  refine lv_goto (tgt := 26) hx hb dX11_spells_116 (by decide) ?_
                  refine lv_iload hx hb dX11_spells_26 (lv_at hl 0 rfl) ?_
                  refine lv_iload_n hx hb dX11_spells_28 rfl (lv_at hl 3 rfl) ?_
                  refine lv_icmp_ge (tgt := 119) hx hb dX11_spells_29 (by decide) (fun _ => ?_) (fun h9 => absurd h9 (by decide))
                  refine lv_iload hx hb dX11_spells_119 (lv_at hl 1 rfl) ?_
                  exact W.zret (v := 0) hx hb hr (by decide) (fun tZ ht hW => ⟨⟨0, (), rfl, Or.inr (⟨ks_no2 (fun q9 => absurd (of_decide_eq_true q9).2.2.2.2.2.2 h15), rfl⟩), by rw [ht]; exact hP.sub [0, 1] rfl, hD.sub [0, 1] (by decide) rfl⟩, hS.F ht⟩) hS.2.2 dX11_spells_121
                · skip
                  refine lv_iconst (v := 1) hx hb dX11_spells_106 (by decide) ?_
                  refine lv_goto (tgt := 111) hx hb dX11_spells_107 (by decide) ?_
                  refine lv_istore (lv' := [(8, .int 1), (9, .int 5), (0, .ref mo), (1, .int 6), (2, .int 103), (3, .int 108), (4, .int 101), (5, .int 97), (6, .int 110), (7, .int 101)]) hx hb dX11_spells_111 hl (by decide) rfl (fun ls hl => ?_)
                  refine lv_iinc (v := 6) (lv' := [(9, .int 6), (8, .int 1), (0, .ref mo), (1, .int 6), (2, .int 103), (3, .int 108), (4, .int 101), (5, .int 97), (6, .int 110), (7, .int 101)]) hx hb dX11_spells_113 hl (k := 1) rfl (by decide) (by decide) rfl (fun ls hl => ?_)
                  refine lv_goto (tgt := 26) hx hb dX11_spells_116 (by decide) ?_
                  refine lv_iload hx hb dX11_spells_26 (lv_at hl 0 rfl) ?_
                  refine lv_iload_n hx hb dX11_spells_28 rfl (lv_at hl 3 rfl) ?_
                  refine lv_icmp_ge (tgt := 119) hx hb dX11_spells_29 (by decide) (fun _ => ?_) (fun h9 => absurd h9 (by decide))
                  refine lv_iload hx hb dX11_spells_119 (lv_at hl 1 rfl) ?_
                  exact W.zret (v := 1) hx hb hr (by decide) (fun tZ ht hW => ⟨⟨1, (), rfl, Or.inl ⟨ks_and h2 (decide_eq_true ⟨by omega, h6, h8, h10, h12, h14, h16⟩), rfl⟩, by rw [ht]; exact hP.sub [0, 1] rfl, hD.sub [0, 1] (by decide) rfl⟩, hS.F ht⟩) hS.2.2 dX11_spells_121

set_option maxHeartbeats 4000000 in
set_option maxRecDepth 100000 in
theorem gr_Mgw (l : Launch) (D : va_G) (y : Nat → ClassId) (mo : Nat) (to : Nat) (ke : Nat) (ik : Nat) (mrf : Nat) (ha : Nat) (r0 : Nat) (mbr : Nat) (mbp : Nat) (mby : Nat) (an : Nat) (va : Nat) (mab : Int64) (mbl : Int64) (bl : Nat) (ta : Nat) (tl : Nat) (tk : Nat) (vv : Int32) (fmb : Nat → Int32) (e : Nat) (hbl : bl ≤ 150) (he : ta + tl = e) (heb : e ≤ bl) (htk : tk ≤ 4) : kw_Mi l yX11_isGleanerWord wsX11_isGleanerWord ({ frames := 2, cells := 0, slots := 0, locals := 89 }) D y [.ref mo] [(mo, .inr (11, [.ref to, .ref ke, .ref ik, .ref mrf, .long mab, .long mbl, .ref ha, .ref r0, .ref mbr, .ref mbp, .ref mby, .int (nI bl), .int (nI ta), .int (nI tl), .int (nI tk), .int vv, .ref an, .ref va])), (mby, .inl (y 0, 150, .inl fmb))] (fun (r : Int32) (u : Unit) => (ks_w2 fmb tk ta e = true ∧ r = 1) ∨ (¬ ks_w2 fmb tk ta e = true ∧ r = 0)) (fun _ => [(mo, .inr (11, [.ref to, .ref ke, .ref ik, .ref mrf, .long mab, .long mbl, .ref ha, .ref r0, .ref mbr, .ref mbp, .ref mby, .int (nI bl), .int (nI ta), .int (nI tl), .int (nI tk), .int vv, .ref an, .ref va])), (mby, .inl (y 0, 150, .inl fmb))]) 0 0 := by
  refine kw_Mi.of (cc := cX11_isGleanerWord) (maxL := 3) (ret := (some .boolean)) (by decide) rfl ?_
  intro pZ eZ s mZ beZ meZ cZ A hE
  obtain ⟨hx, hb, hr, hml, hts, hown, hlocks, hin, hA, hP, hD, hK, hN⟩ := hE
  have hS : va_S A s.heap s.heap [] := va_S.rf
  have hl := lv_entry ([.ref mo]) (n := 3) (Nat.le_of_ble_eq_true rfl)
  rw [lg_entry_eq]
  generalize (lg_sl ([.ref mo]) ++ List.replicate (3 - (lg_sl ([.ref mo])).length) Slot.unset).toArray = ls at hl ⊢
  have hl : lv_has ls 3 [(0, .ref mo)] := hl
  have fw1 := hts (.fieldLink RX11 228 "GleanDuskModel" "token" "I") (List.mem_of_getElem? (i := 1) rfl)
  have fw2 := hts (.fieldLink RX11 225 "GleanDuskModel" "tokenLong" "I") (List.mem_of_getElem? (i := 2) rfl)
  have fw3 := hts (.fieldLink RX11 39 "GleanDuskModel" "bytes" "[I") (List.mem_of_getElem? (i := 3) rfl)
  have fw4 := hts (.fieldLink RX11 222 "GleanDuskModel" "tokenAt" "I") (List.mem_of_getElem? (i := 4) rfl)
  have iw11 : ∀ w ∈ wsX110, w ∈ wsX11_isGleanerWord := fun _ h => List.mem_cons_of_mem _ (List.mem_append_right _ h)
  refine lv_aload_n hx hb dX11_isGleanerWord_0 rfl (lv_at hl 0 rfl) ?_
  refine va_get (D := D) (ci := 11) (v := .int (nI tk)) (C := RX11) (T := TX11) (N := 18) hx hb hts iw11 hown hK hP 0 rfl rfl 14 (by decide) fw1 (fun _ h9 => h9) rfl dX11_isGleanerWord_1 ?_
  refine lv_iconst (v := 1) hx hb dX11_isGleanerWord_4 (by decide) ?_
  refine lv_icmp_ne (tgt := 21) hx hb dX11_isGleanerWord_5 (by decide) (fun h1 => ?_) (fun h2 => ?_)
  · skip
    have h1 : ¬ tk = 1 := fun q9 => h1 ((nI_eq (a := tk) (b := 1) (by omega) (by omega)).mpr q9)
    refine lv_iconst (v := 0) hx hb dX11_isGleanerWord_21 (by decide) ?_
    refine lv_istore_n (lv' := [(1, .int 0), (0, .ref mo)]) hx hb dX11_isGleanerWord_22 rfl hl (by decide) rfl (fun ls hl => ?_)
    refine lv_aload_n hx hb dX11_isGleanerWord_23 rfl (lv_at hl 1 rfl) ?_
    refine lv_iload_n hx hb dX11_isGleanerWord_24 rfl (lv_at hl 0 rfl) ?_
    refine lv_if_eq (tgt := 33) hx hb dX11_isGleanerWord_25 (by decide) (fun _ => ?_) (fun h9 => absurd h9 (by decide))
    refine lv_aload_n hx hb dX11_isGleanerWord_33 rfl (lv_at hl 1 rfl) ?_
    refine va_get (D := D) (ci := 11) (v := .int (nI tl)) (C := RX11) (T := TX11) (N := 18) hx hb hts iw11 hown hK hP 0 rfl rfl 13 (by decide) fw2 (fun _ h9 => h9) rfl dX11_isGleanerWord_34 ?_
    refine va_put (D := D) (ci := 11) (v := .int (nI tl)) (ty := .int) (C := RX11) (T := TX11) (N := 18) hx hb hts iw11 tyX11 tyX11_ok nmX11 hown hK hP hD hS 0 rfl rfl 13 (by decide) fw2 (fun _ h9 => h9) rfl (by decide +kernel) rfl rfl (Nat.le_of_ble_eq_true rfl) dX11_isGleanerWord_37 (fun H locs hP hD hS => ?_)
    have hP : va_P D vwCl [(mo, .inr (11, [.ref to, .ref ke, .ref ik, .ref mrf, .long mab, .long mbl, .ref ha, .ref r0, .ref mbr, .ref mbp, .ref mby, .int (nI bl), .int (nI ta), .int (nI tl), .int (nI tk), .int vv, .ref an, .ref va])), (mby, .inl (y 0, 150, .inl fmb))] H := hP
    have hD : va_D A [(mo, .inr (11, [.ref to, .ref ke, .ref ik, .ref mrf, .long mab, .long mbl, .ref ha, .ref r0, .ref mbr, .ref mbp, .ref mby, .int (nI bl), .int (nI ta), .int (nI tl), .int (nI tk), .int vv, .ref an, .ref va])), (mby, .inl (y 0, 150, .inl fmb))] := hD
    refine lv_aload_n hx hb dX11_isGleanerWord_40 rfl (lv_at hl 1 rfl) ?_
    refine lv_bipush (v := 6) hx hb dX11_isGleanerWord_41 (by decide) ?_
    refine lv_bipush (v := 103) hx hb dX11_isGleanerWord_43 (by decide) ?_
    refine lv_bipush (v := 108) hx hb dX11_isGleanerWord_45 (by decide) ?_
    refine lv_bipush (v := 101) hx hb dX11_isGleanerWord_47 (by decide) ?_
    refine lv_bipush (v := 97) hx hb dX11_isGleanerWord_49 (by decide) ?_
    refine lv_bipush (v := 110) hx hb dX11_isGleanerWord_51 (by decide) ?_
    refine lv_bipush (v := 101) hx hb dX11_isGleanerWord_53 (by decide) ?_
    have hs3 : kw_Split [(mo, .inr (11, [.ref to, .ref ke, .ref ik, .ref mrf, .long mab, .long mbl, .ref ha, .ref r0, .ref mbr, .ref mbp, .ref mby, .int (nI bl), .int (nI ta), .int (nI tl), .int (nI tk), .int vv, .ref an, .ref va])), (mby, .inl (y 0, 150, .inl fmb))] [(mo, .inr (11, [.ref to, .ref ke, .ref ik, .ref mrf, .long mab, .long mbl, .ref ha, .ref r0, .ref mbr, .ref mbp, .ref mby, .int (nI bl), .int (nI ta), .int (nI tl), .int (nI tk), .int vv, .ref an, .ref va])), (mby, .inl (y 0, 150, .inl fmb))] [] [0, 1] [] := ⟨rfl, rfl, rfl, rfl, rfl, by decide⟩
    refine kw_go_i hs3 hP hD hS hA (va_runV (As := [.int 6, .int 103, .int 108, .int 101, .int 97, .int 110, .int 101]) (rest := []) ⟨hx, hb, hml, hown, hts⟩ (gr_Msp4 l D y mo to ke ik mrf ha r0 mbr mbp mby an va mab mbl bl ta tl tk vv fmb e hbl he heb htk _) (cwV 7 hts gX11_isGleanerWord_X11_spells rfl rfl rfl (by decide +kernel) ⟨Nat.le_of_ble_eq_true rfl, Nat.le_of_ble_eq_true rfl⟩) (kw_PreV (ci := 11) (q0 := 0) hs3 hP hD hK hN rfl rfl) rfl rfl hl.1 rfl (lv_room (Nat.le_of_ble_eq_true rfl)) dX11_isGleanerWord_55 ⟨Nat.le_of_ble_eq_true rfl, Nat.le_of_ble_eq_true rfl⟩) (fun r4 u5 H locs hq hP hD hS => ?_)
    rcases hq with ⟨h6, rfl⟩ | ⟨h7, rfl⟩
    · skip
      have hP : va_P D vwCl [(mo, .inr (11, [.ref to, .ref ke, .ref ik, .ref mrf, .long mab, .long mbl, .ref ha, .ref r0, .ref mbr, .ref mbp, .ref mby, .int (nI bl), .int (nI ta), .int (nI tl), .int (nI tk), .int vv, .ref an, .ref va])), (mby, .inl (y 0, 150, .inl fmb))] H := hP
      have hD : va_D A [(mo, .inr (11, [.ref to, .ref ke, .ref ik, .ref mrf, .long mab, .long mbl, .ref ha, .ref r0, .ref mbr, .ref mbp, .ref mby, .int (nI bl), .int (nI ta), .int (nI tl), .int (nI tk), .int vv, .ref an, .ref va])), (mby, .inl (y 0, 150, .inl fmb))] := hD
      refine lv_istore_n (lv' := [(2, .int 1), (1, .int 0), (0, .ref mo)]) hx hb dX11_isGleanerWord_58 rfl hl (by decide) rfl (fun ls hl => ?_)
      refine lv_aload_n hx hb dX11_isGleanerWord_59 rfl (lv_at hl 2 rfl) ?_
      refine lv_iload_n hx hb dX11_isGleanerWord_60 rfl (lv_at hl 1 rfl) ?_
      refine lv_if_eq (tgt := 69) hx hb dX11_isGleanerWord_61 (by decide) (fun _ => ?_) (fun h9 => absurd h9 (by decide))
      refine lv_aload_n hx hb dX11_isGleanerWord_69 rfl (lv_at hl 2 rfl) ?_
      refine va_get (D := D) (ci := 11) (v := .int (nI tl)) (C := RX11) (T := TX11) (N := 18) hx hb hts iw11 hown hK hP 0 rfl rfl 13 (by decide) fw2 (fun _ h9 => h9) rfl dX11_isGleanerWord_70 ?_
      refine va_put (D := D) (ci := 11) (v := .int (nI tl)) (ty := .int) (C := RX11) (T := TX11) (N := 18) hx hb hts iw11 tyX11 tyX11_ok nmX11 hown hK hP hD hS 0 rfl rfl 13 (by decide) fw2 (fun _ h9 => h9) rfl (by decide +kernel) rfl rfl (Nat.le_of_ble_eq_true rfl) dX11_isGleanerWord_73 (fun H locs hP hD hS => ?_)
      have hP : va_P D vwCl [(mo, .inr (11, [.ref to, .ref ke, .ref ik, .ref mrf, .long mab, .long mbl, .ref ha, .ref r0, .ref mbr, .ref mbp, .ref mby, .int (nI bl), .int (nI ta), .int (nI tl), .int (nI tk), .int vv, .ref an, .ref va])), (mby, .inl (y 0, 150, .inl fmb))] H := hP
      have hD : va_D A [(mo, .inr (11, [.ref to, .ref ke, .ref ik, .ref mrf, .long mab, .long mbl, .ref ha, .ref r0, .ref mbr, .ref mbp, .ref mby, .int (nI bl), .int (nI ta), .int (nI tl), .int (nI tk), .int vv, .ref an, .ref va])), (mby, .inl (y 0, 150, .inl fmb))] := hD
      refine lv_iload_n hx hb dX11_isGleanerWord_76 rfl (lv_at hl 1 rfl) ?_
      refine lv_if_eq (tgt := 105) hx hb dX11_isGleanerWord_77 (by decide) (fun _ => ?_) (fun h9 => absurd h9 (by decide))
      refine lv_iconst (v := 0) hx hb dX11_isGleanerWord_105 (by decide) ?_
      exact W.zret (v := 0) hx hb hr (by decide) (fun tZ ht hW => ⟨⟨0, (), rfl, Or.inr (⟨ks_no h1, rfl⟩), by rw [ht]; exact hP.sub [0, 1] rfl, hD.sub [0, 1] (by decide) rfl⟩, hS.F ht⟩) hS.2.2 dX11_isGleanerWord_106
    · skip
      have hP : va_P D vwCl [(mo, .inr (11, [.ref to, .ref ke, .ref ik, .ref mrf, .long mab, .long mbl, .ref ha, .ref r0, .ref mbr, .ref mbp, .ref mby, .int (nI bl), .int (nI ta), .int (nI tl), .int (nI tk), .int vv, .ref an, .ref va])), (mby, .inl (y 0, 150, .inl fmb))] H := hP
      have hD : va_D A [(mo, .inr (11, [.ref to, .ref ke, .ref ik, .ref mrf, .long mab, .long mbl, .ref ha, .ref r0, .ref mbr, .ref mbp, .ref mby, .int (nI bl), .int (nI ta), .int (nI tl), .int (nI tk), .int vv, .ref an, .ref va])), (mby, .inl (y 0, 150, .inl fmb))] := hD
      refine lv_istore_n (lv' := [(2, .int 0), (1, .int 0), (0, .ref mo)]) hx hb dX11_isGleanerWord_58 rfl hl (by decide) rfl (fun ls hl => ?_)
      refine lv_aload_n hx hb dX11_isGleanerWord_59 rfl (lv_at hl 2 rfl) ?_
      refine lv_iload_n hx hb dX11_isGleanerWord_60 rfl (lv_at hl 1 rfl) ?_
      refine lv_if_eq (tgt := 69) hx hb dX11_isGleanerWord_61 (by decide) (fun _ => ?_) (fun h9 => absurd h9 (by decide))
      refine lv_aload_n hx hb dX11_isGleanerWord_69 rfl (lv_at hl 2 rfl) ?_
      refine va_get (D := D) (ci := 11) (v := .int (nI tl)) (C := RX11) (T := TX11) (N := 18) hx hb hts iw11 hown hK hP 0 rfl rfl 13 (by decide) fw2 (fun _ h9 => h9) rfl dX11_isGleanerWord_70 ?_
      refine va_put (D := D) (ci := 11) (v := .int (nI tl)) (ty := .int) (C := RX11) (T := TX11) (N := 18) hx hb hts iw11 tyX11 tyX11_ok nmX11 hown hK hP hD hS 0 rfl rfl 13 (by decide) fw2 (fun _ h9 => h9) rfl (by decide +kernel) rfl rfl (Nat.le_of_ble_eq_true rfl) dX11_isGleanerWord_73 (fun H locs hP hD hS => ?_)
      have hP : va_P D vwCl [(mo, .inr (11, [.ref to, .ref ke, .ref ik, .ref mrf, .long mab, .long mbl, .ref ha, .ref r0, .ref mbr, .ref mbp, .ref mby, .int (nI bl), .int (nI ta), .int (nI tl), .int (nI tk), .int vv, .ref an, .ref va])), (mby, .inl (y 0, 150, .inl fmb))] H := hP
      have hD : va_D A [(mo, .inr (11, [.ref to, .ref ke, .ref ik, .ref mrf, .long mab, .long mbl, .ref ha, .ref r0, .ref mbr, .ref mbp, .ref mby, .int (nI bl), .int (nI ta), .int (nI tl), .int (nI tk), .int vv, .ref an, .ref va])), (mby, .inl (y 0, 150, .inl fmb))] := hD
      refine lv_iload_n hx hb dX11_isGleanerWord_76 rfl (lv_at hl 1 rfl) ?_
      refine lv_if_eq (tgt := 105) hx hb dX11_isGleanerWord_77 (by decide) (fun _ => ?_) (fun h9 => absurd h9 (by decide))
      refine lv_iconst (v := 0) hx hb dX11_isGleanerWord_105 (by decide) ?_
      exact W.zret (v := 0) hx hb hr (by decide) (fun tZ ht hW => ⟨⟨0, (), rfl, Or.inr (⟨ks_no h1, rfl⟩), by rw [ht]; exact hP.sub [0, 1] rfl, hD.sub [0, 1] (by decide) rfl⟩, hS.F ht⟩) hS.2.2 dX11_isGleanerWord_106
  · skip
    have h2 : tk = 1 := (nI_eq (a := tk) (b := 1) (by omega) (by omega)).mp h2
    refine lv_aload_n hx hb dX11_isGleanerWord_8 rfl (lv_at hl 0 rfl) ?_
    refine va_get (D := D) (ci := 11) (v := .int (nI tl)) (C := RX11) (T := TX11) (N := 18) hx hb hts iw11 hown hK hP 0 rfl rfl 13 (by decide) fw2 (fun _ h9 => h9) rfl dX11_isGleanerWord_9 ?_
    refine lv_bipush (v := 7) hx hb dX11_isGleanerWord_12 (by decide) ?_
    refine lv_icmp_ne (tgt := 21) hx hb dX11_isGleanerWord_14 (by decide) (fun h8 => ?_) (fun h9 => ?_)
    · skip
      have h8 : ¬ tl = 7 := fun q9 => h8 ((nI_eq (a := tl) (b := 7) (by omega) (by omega)).mpr q9)
      refine lv_iconst (v := 0) hx hb dX11_isGleanerWord_21 (by decide) ?_
      refine lv_istore_n (lv' := [(1, .int 0), (0, .ref mo)]) hx hb dX11_isGleanerWord_22 rfl hl (by decide) rfl (fun ls hl => ?_)
      refine lv_aload_n hx hb dX11_isGleanerWord_23 rfl (lv_at hl 1 rfl) ?_
      refine lv_iload_n hx hb dX11_isGleanerWord_24 rfl (lv_at hl 0 rfl) ?_
      refine lv_if_eq (tgt := 33) hx hb dX11_isGleanerWord_25 (by decide) (fun _ => ?_) (fun h9 => absurd h9 (by decide))
      refine lv_aload_n hx hb dX11_isGleanerWord_33 rfl (lv_at hl 1 rfl) ?_
      refine va_get (D := D) (ci := 11) (v := .int (nI tl)) (C := RX11) (T := TX11) (N := 18) hx hb hts iw11 hown hK hP 0 rfl rfl 13 (by decide) fw2 (fun _ h9 => h9) rfl dX11_isGleanerWord_34 ?_
      refine va_put (D := D) (ci := 11) (v := .int (nI tl)) (ty := .int) (C := RX11) (T := TX11) (N := 18) hx hb hts iw11 tyX11 tyX11_ok nmX11 hown hK hP hD hS 0 rfl rfl 13 (by decide) fw2 (fun _ h9 => h9) rfl (by decide +kernel) rfl rfl (Nat.le_of_ble_eq_true rfl) dX11_isGleanerWord_37 (fun H locs hP hD hS => ?_)
      have hP : va_P D vwCl [(mo, .inr (11, [.ref to, .ref ke, .ref ik, .ref mrf, .long mab, .long mbl, .ref ha, .ref r0, .ref mbr, .ref mbp, .ref mby, .int (nI bl), .int (nI ta), .int (nI tl), .int (nI tk), .int vv, .ref an, .ref va])), (mby, .inl (y 0, 150, .inl fmb))] H := hP
      have hD : va_D A [(mo, .inr (11, [.ref to, .ref ke, .ref ik, .ref mrf, .long mab, .long mbl, .ref ha, .ref r0, .ref mbr, .ref mbp, .ref mby, .int (nI bl), .int (nI ta), .int (nI tl), .int (nI tk), .int vv, .ref an, .ref va])), (mby, .inl (y 0, 150, .inl fmb))] := hD
      refine lv_aload_n hx hb dX11_isGleanerWord_40 rfl (lv_at hl 1 rfl) ?_
      refine lv_bipush (v := 6) hx hb dX11_isGleanerWord_41 (by decide) ?_
      refine lv_bipush (v := 103) hx hb dX11_isGleanerWord_43 (by decide) ?_
      refine lv_bipush (v := 108) hx hb dX11_isGleanerWord_45 (by decide) ?_
      refine lv_bipush (v := 101) hx hb dX11_isGleanerWord_47 (by decide) ?_
      refine lv_bipush (v := 97) hx hb dX11_isGleanerWord_49 (by decide) ?_
      refine lv_bipush (v := 110) hx hb dX11_isGleanerWord_51 (by decide) ?_
      refine lv_bipush (v := 101) hx hb dX11_isGleanerWord_53 (by decide) ?_
      have hs10 : kw_Split [(mo, .inr (11, [.ref to, .ref ke, .ref ik, .ref mrf, .long mab, .long mbl, .ref ha, .ref r0, .ref mbr, .ref mbp, .ref mby, .int (nI bl), .int (nI ta), .int (nI tl), .int (nI tk), .int vv, .ref an, .ref va])), (mby, .inl (y 0, 150, .inl fmb))] [(mo, .inr (11, [.ref to, .ref ke, .ref ik, .ref mrf, .long mab, .long mbl, .ref ha, .ref r0, .ref mbr, .ref mbp, .ref mby, .int (nI bl), .int (nI ta), .int (nI tl), .int (nI tk), .int vv, .ref an, .ref va])), (mby, .inl (y 0, 150, .inl fmb))] [] [0, 1] [] := ⟨rfl, rfl, rfl, rfl, rfl, by decide⟩
      refine kw_go_i hs10 hP hD hS hA (va_runV (As := [.int 6, .int 103, .int 108, .int 101, .int 97, .int 110, .int 101]) (rest := []) ⟨hx, hb, hml, hown, hts⟩ (gr_Msp4 l D y mo to ke ik mrf ha r0 mbr mbp mby an va mab mbl bl ta tl tk vv fmb e hbl he heb htk _) (cwV 7 hts gX11_isGleanerWord_X11_spells rfl rfl rfl (by decide +kernel) ⟨Nat.le_of_ble_eq_true rfl, Nat.le_of_ble_eq_true rfl⟩) (kw_PreV (ci := 11) (q0 := 0) hs10 hP hD hK hN rfl rfl) rfl rfl hl.1 rfl (lv_room (Nat.le_of_ble_eq_true rfl)) dX11_isGleanerWord_55 ⟨Nat.le_of_ble_eq_true rfl, Nat.le_of_ble_eq_true rfl⟩) (fun r11 u12 H locs hq hP hD hS => ?_)
      rcases hq with ⟨h13, rfl⟩ | ⟨h14, rfl⟩
      · skip
        have hP : va_P D vwCl [(mo, .inr (11, [.ref to, .ref ke, .ref ik, .ref mrf, .long mab, .long mbl, .ref ha, .ref r0, .ref mbr, .ref mbp, .ref mby, .int (nI bl), .int (nI ta), .int (nI tl), .int (nI tk), .int vv, .ref an, .ref va])), (mby, .inl (y 0, 150, .inl fmb))] H := hP
        have hD : va_D A [(mo, .inr (11, [.ref to, .ref ke, .ref ik, .ref mrf, .long mab, .long mbl, .ref ha, .ref r0, .ref mbr, .ref mbp, .ref mby, .int (nI bl), .int (nI ta), .int (nI tl), .int (nI tk), .int vv, .ref an, .ref va])), (mby, .inl (y 0, 150, .inl fmb))] := hD
        refine lv_istore_n (lv' := [(2, .int 1), (1, .int 0), (0, .ref mo)]) hx hb dX11_isGleanerWord_58 rfl hl (by decide) rfl (fun ls hl => ?_)
        refine lv_aload_n hx hb dX11_isGleanerWord_59 rfl (lv_at hl 2 rfl) ?_
        refine lv_iload_n hx hb dX11_isGleanerWord_60 rfl (lv_at hl 1 rfl) ?_
        refine lv_if_eq (tgt := 69) hx hb dX11_isGleanerWord_61 (by decide) (fun _ => ?_) (fun h9 => absurd h9 (by decide))
        refine lv_aload_n hx hb dX11_isGleanerWord_69 rfl (lv_at hl 2 rfl) ?_
        refine va_get (D := D) (ci := 11) (v := .int (nI tl)) (C := RX11) (T := TX11) (N := 18) hx hb hts iw11 hown hK hP 0 rfl rfl 13 (by decide) fw2 (fun _ h9 => h9) rfl dX11_isGleanerWord_70 ?_
        refine va_put (D := D) (ci := 11) (v := .int (nI tl)) (ty := .int) (C := RX11) (T := TX11) (N := 18) hx hb hts iw11 tyX11 tyX11_ok nmX11 hown hK hP hD hS 0 rfl rfl 13 (by decide) fw2 (fun _ h9 => h9) rfl (by decide +kernel) rfl rfl (Nat.le_of_ble_eq_true rfl) dX11_isGleanerWord_73 (fun H locs hP hD hS => ?_)
        have hP : va_P D vwCl [(mo, .inr (11, [.ref to, .ref ke, .ref ik, .ref mrf, .long mab, .long mbl, .ref ha, .ref r0, .ref mbr, .ref mbp, .ref mby, .int (nI bl), .int (nI ta), .int (nI tl), .int (nI tk), .int vv, .ref an, .ref va])), (mby, .inl (y 0, 150, .inl fmb))] H := hP
        have hD : va_D A [(mo, .inr (11, [.ref to, .ref ke, .ref ik, .ref mrf, .long mab, .long mbl, .ref ha, .ref r0, .ref mbr, .ref mbp, .ref mby, .int (nI bl), .int (nI ta), .int (nI tl), .int (nI tk), .int vv, .ref an, .ref va])), (mby, .inl (y 0, 150, .inl fmb))] := hD
        refine lv_iload_n hx hb dX11_isGleanerWord_76 rfl (lv_at hl 1 rfl) ?_
        refine lv_if_eq (tgt := 105) hx hb dX11_isGleanerWord_77 (by decide) (fun _ => ?_) (fun h9 => absurd h9 (by decide))
        refine lv_iconst (v := 0) hx hb dX11_isGleanerWord_105 (by decide) ?_
        exact W.zret (v := 0) hx hb hr (by decide) (fun tZ ht hW => ⟨⟨0, (), rfl, Or.inr (⟨ks_g2l (by omega), rfl⟩), by rw [ht]; exact hP.sub [0, 1] rfl, hD.sub [0, 1] (by decide) rfl⟩, hS.F ht⟩) hS.2.2 dX11_isGleanerWord_106
      · skip
        have hP : va_P D vwCl [(mo, .inr (11, [.ref to, .ref ke, .ref ik, .ref mrf, .long mab, .long mbl, .ref ha, .ref r0, .ref mbr, .ref mbp, .ref mby, .int (nI bl), .int (nI ta), .int (nI tl), .int (nI tk), .int vv, .ref an, .ref va])), (mby, .inl (y 0, 150, .inl fmb))] H := hP
        have hD : va_D A [(mo, .inr (11, [.ref to, .ref ke, .ref ik, .ref mrf, .long mab, .long mbl, .ref ha, .ref r0, .ref mbr, .ref mbp, .ref mby, .int (nI bl), .int (nI ta), .int (nI tl), .int (nI tk), .int vv, .ref an, .ref va])), (mby, .inl (y 0, 150, .inl fmb))] := hD
        refine lv_istore_n (lv' := [(2, .int 0), (1, .int 0), (0, .ref mo)]) hx hb dX11_isGleanerWord_58 rfl hl (by decide) rfl (fun ls hl => ?_)
        refine lv_aload_n hx hb dX11_isGleanerWord_59 rfl (lv_at hl 2 rfl) ?_
        refine lv_iload_n hx hb dX11_isGleanerWord_60 rfl (lv_at hl 1 rfl) ?_
        refine lv_if_eq (tgt := 69) hx hb dX11_isGleanerWord_61 (by decide) (fun _ => ?_) (fun h9 => absurd h9 (by decide))
        refine lv_aload_n hx hb dX11_isGleanerWord_69 rfl (lv_at hl 2 rfl) ?_
        refine va_get (D := D) (ci := 11) (v := .int (nI tl)) (C := RX11) (T := TX11) (N := 18) hx hb hts iw11 hown hK hP 0 rfl rfl 13 (by decide) fw2 (fun _ h9 => h9) rfl dX11_isGleanerWord_70 ?_
        refine va_put (D := D) (ci := 11) (v := .int (nI tl)) (ty := .int) (C := RX11) (T := TX11) (N := 18) hx hb hts iw11 tyX11 tyX11_ok nmX11 hown hK hP hD hS 0 rfl rfl 13 (by decide) fw2 (fun _ h9 => h9) rfl (by decide +kernel) rfl rfl (Nat.le_of_ble_eq_true rfl) dX11_isGleanerWord_73 (fun H locs hP hD hS => ?_)
        have hP : va_P D vwCl [(mo, .inr (11, [.ref to, .ref ke, .ref ik, .ref mrf, .long mab, .long mbl, .ref ha, .ref r0, .ref mbr, .ref mbp, .ref mby, .int (nI bl), .int (nI ta), .int (nI tl), .int (nI tk), .int vv, .ref an, .ref va])), (mby, .inl (y 0, 150, .inl fmb))] H := hP
        have hD : va_D A [(mo, .inr (11, [.ref to, .ref ke, .ref ik, .ref mrf, .long mab, .long mbl, .ref ha, .ref r0, .ref mbr, .ref mbp, .ref mby, .int (nI bl), .int (nI ta), .int (nI tl), .int (nI tk), .int vv, .ref an, .ref va])), (mby, .inl (y 0, 150, .inl fmb))] := hD
        refine lv_iload_n hx hb dX11_isGleanerWord_76 rfl (lv_at hl 1 rfl) ?_
        refine lv_if_eq (tgt := 105) hx hb dX11_isGleanerWord_77 (by decide) (fun _ => ?_) (fun h9 => absurd h9 (by decide))
        refine lv_iconst (v := 0) hx hb dX11_isGleanerWord_105 (by decide) ?_
        exact W.zret (v := 0) hx hb hr (by decide) (fun tZ ht hW => ⟨⟨0, (), rfl, Or.inr (⟨ks_g2l (by omega), rfl⟩), by rw [ht]; exact hP.sub [0, 1] rfl, hD.sub [0, 1] (by decide) rfl⟩, hS.F ht⟩) hS.2.2 dX11_isGleanerWord_106
    · skip
      have h9 : tl = 7 := (nI_eq (a := tl) (b := 7) (by omega) (by omega)).mp h9
      obtain rfl : tl = 7 := by omega
      have hP : va_P D vwCl [(mo, .inr (11, [.ref to, .ref ke, .ref ik, .ref mrf, .long mab, .long mbl, .ref ha, .ref r0, .ref mbr, .ref mbp, .ref mby, .int (nI bl), .int (nI ta), .int (nI 7), .int (nI tk), .int vv, .ref an, .ref va])), (mby, .inl (y 0, 150, .inl fmb))] s.heap := hP
      have hD : va_D A [(mo, .inr (11, [.ref to, .ref ke, .ref ik, .ref mrf, .long mab, .long mbl, .ref ha, .ref r0, .ref mbr, .ref mbp, .ref mby, .int (nI bl), .int (nI ta), .int (nI 7), .int (nI tk), .int vv, .ref an, .ref va])), (mby, .inl (y 0, 150, .inl fmb))] := hD
      refine lv_iconst (v := 1) hx hb dX11_isGleanerWord_17 (by decide) ?_
      refine lv_goto (tgt := 22) hx hb dX11_isGleanerWord_18 (by decide) ?_
      refine lv_istore_n (lv' := [(1, .int 1), (0, .ref mo)]) hx hb dX11_isGleanerWord_22 rfl hl (by decide) rfl (fun ls hl => ?_)
      refine lv_aload_n hx hb dX11_isGleanerWord_23 rfl (lv_at hl 1 rfl) ?_
      refine lv_iload_n hx hb dX11_isGleanerWord_24 rfl (lv_at hl 0 rfl) ?_
      refine lv_if_eq (tgt := 33) hx hb dX11_isGleanerWord_25 (by decide) (fun h9 => absurd h9 (by decide)) (fun _ => ?_)
      refine lv_bipush (v := 6) hx hb dX11_isGleanerWord_28 (by decide) ?_
      refine lv_goto (tgt := 37) hx hb dX11_isGleanerWord_30 (by decide) ?_
      refine va_put (D := D) (ci := 11) (v := .int 6) (ty := .int) (C := RX11) (T := TX11) (N := 18) hx hb hts iw11 tyX11 tyX11_ok nmX11 hown hK hP hD hS 0 rfl rfl 13 (by decide) fw2 (fun _ h9 => h9) rfl (by decide +kernel) rfl rfl (Nat.le_of_ble_eq_true rfl) dX11_isGleanerWord_37 (fun H locs hP hD hS => ?_)
      have hP : va_P D vwCl [(mo, .inr (11, [.ref to, .ref ke, .ref ik, .ref mrf, .long mab, .long mbl, .ref ha, .ref r0, .ref mbr, .ref mbp, .ref mby, .int (nI bl), .int (nI ta), .int 6, .int (nI tk), .int vv, .ref an, .ref va])), (mby, .inl (y 0, 150, .inl fmb))] H := hP
      have hD : va_D A [(mo, .inr (11, [.ref to, .ref ke, .ref ik, .ref mrf, .long mab, .long mbl, .ref ha, .ref r0, .ref mbr, .ref mbp, .ref mby, .int (nI bl), .int (nI ta), .int 6, .int (nI tk), .int vv, .ref an, .ref va])), (mby, .inl (y 0, 150, .inl fmb))] := hD
      refine lv_aload_n hx hb dX11_isGleanerWord_40 rfl (lv_at hl 1 rfl) ?_
      refine lv_bipush (v := 6) hx hb dX11_isGleanerWord_41 (by decide) ?_
      refine lv_bipush (v := 103) hx hb dX11_isGleanerWord_43 (by decide) ?_
      refine lv_bipush (v := 108) hx hb dX11_isGleanerWord_45 (by decide) ?_
      refine lv_bipush (v := 101) hx hb dX11_isGleanerWord_47 (by decide) ?_
      refine lv_bipush (v := 97) hx hb dX11_isGleanerWord_49 (by decide) ?_
      refine lv_bipush (v := 110) hx hb dX11_isGleanerWord_51 (by decide) ?_
      refine lv_bipush (v := 101) hx hb dX11_isGleanerWord_53 (by decide) ?_
      have hs15 : kw_Split [(mo, .inr (11, [.ref to, .ref ke, .ref ik, .ref mrf, .long mab, .long mbl, .ref ha, .ref r0, .ref mbr, .ref mbp, .ref mby, .int (nI bl), .int (nI ta), .int 6, .int (nI tk), .int vv, .ref an, .ref va])), (mby, .inl (y 0, 150, .inl fmb))] [(mo, .inr (11, [.ref to, .ref ke, .ref ik, .ref mrf, .long mab, .long mbl, .ref ha, .ref r0, .ref mbr, .ref mbp, .ref mby, .int (nI bl), .int (nI ta), .int 6, .int (nI tk), .int vv, .ref an, .ref va])), (mby, .inl (y 0, 150, .inl fmb))] [] [0, 1] [] := ⟨rfl, rfl, rfl, rfl, rfl, by decide⟩
      refine kw_go_i hs15 hP hD hS hA (va_runV (As := [.int 6, .int 103, .int 108, .int 101, .int 97, .int 110, .int 101]) (rest := []) ⟨hx, hb, hml, hown, hts⟩ (gr_Msp4 l D y mo to ke ik mrf ha r0 mbr mbp mby an va mab mbl bl ta 6 tk vv fmb (ta + 6) hbl (by omega) (by omega) htk _) (cwV 7 hts gX11_isGleanerWord_X11_spells rfl rfl rfl (by decide +kernel) ⟨Nat.le_of_ble_eq_true rfl, Nat.le_of_ble_eq_true rfl⟩) (kw_PreV (ci := 11) (q0 := 0) hs15 hP hD hK hN rfl rfl) rfl rfl hl.1 rfl (lv_room (Nat.le_of_ble_eq_true rfl)) dX11_isGleanerWord_55 ⟨Nat.le_of_ble_eq_true rfl, Nat.le_of_ble_eq_true rfl⟩) (fun r16 u17 H locs hq hP hD hS => ?_)
      rcases hq with ⟨h18, rfl⟩ | ⟨h19, rfl⟩
      · skip
        have hP : va_P D vwCl [(mo, .inr (11, [.ref to, .ref ke, .ref ik, .ref mrf, .long mab, .long mbl, .ref ha, .ref r0, .ref mbr, .ref mbp, .ref mby, .int (nI bl), .int (nI ta), .int (nI 6), .int (nI tk), .int vv, .ref an, .ref va])), (mby, .inl (y 0, 150, .inl fmb))] H := hP
        have hD : va_D A [(mo, .inr (11, [.ref to, .ref ke, .ref ik, .ref mrf, .long mab, .long mbl, .ref ha, .ref r0, .ref mbr, .ref mbp, .ref mby, .int (nI bl), .int (nI ta), .int (nI 6), .int (nI tk), .int vv, .ref an, .ref va])), (mby, .inl (y 0, 150, .inl fmb))] := hD
        refine lv_istore_n (lv' := [(2, .int 1), (1, .int 1), (0, .ref mo)]) hx hb dX11_isGleanerWord_58 rfl hl (by decide) rfl (fun ls hl => ?_)
        refine lv_aload_n hx hb dX11_isGleanerWord_59 rfl (lv_at hl 2 rfl) ?_
        refine lv_iload_n hx hb dX11_isGleanerWord_60 rfl (lv_at hl 1 rfl) ?_
        refine lv_if_eq (tgt := 69) hx hb dX11_isGleanerWord_61 (by decide) (fun h9 => absurd h9 (by decide)) (fun _ => ?_)
        refine lv_bipush (v := 7) hx hb dX11_isGleanerWord_64 (by decide) ?_
        refine lv_goto (tgt := 73) hx hb dX11_isGleanerWord_66 (by decide) ?_
        refine va_put (D := D) (ci := 11) (v := .int 7) (ty := .int) (C := RX11) (T := TX11) (N := 18) hx hb hts iw11 tyX11 tyX11_ok nmX11 hown hK hP hD hS 0 rfl rfl 13 (by decide) fw2 (fun _ h9 => h9) rfl (by decide +kernel) rfl rfl (Nat.le_of_ble_eq_true rfl) dX11_isGleanerWord_73 (fun H locs hP hD hS => ?_)
        have hP : va_P D vwCl [(mo, .inr (11, [.ref to, .ref ke, .ref ik, .ref mrf, .long mab, .long mbl, .ref ha, .ref r0, .ref mbr, .ref mbp, .ref mby, .int (nI bl), .int (nI ta), .int 7, .int (nI tk), .int vv, .ref an, .ref va])), (mby, .inl (y 0, 150, .inl fmb))] H := hP
        have hD : va_D A [(mo, .inr (11, [.ref to, .ref ke, .ref ik, .ref mrf, .long mab, .long mbl, .ref ha, .ref r0, .ref mbr, .ref mbp, .ref mby, .int (nI bl), .int (nI ta), .int 7, .int (nI tk), .int vv, .ref an, .ref va])), (mby, .inl (y 0, 150, .inl fmb))] := hD
        refine lv_iload_n hx hb dX11_isGleanerWord_76 rfl (lv_at hl 1 rfl) ?_
        refine lv_if_eq (tgt := 105) hx hb dX11_isGleanerWord_77 (by decide) (fun h9 => absurd h9 (by decide)) (fun _ => ?_)
        refine lv_iload_n hx hb dX11_isGleanerWord_80 rfl (lv_at hl 0 rfl) ?_
        refine lv_if_eq (tgt := 105) hx hb dX11_isGleanerWord_81 (by decide) (fun h9 => absurd h9 (by decide)) (fun _ => ?_)
        refine lv_aload_n hx hb dX11_isGleanerWord_84 rfl (lv_at hl 2 rfl) ?_
        refine va_get (D := D) (ci := 11) (v := .ref mby) (C := RX11) (T := TX11) (N := 18) hx hb hts iw11 hown hK hP 0 rfl rfl 10 (by decide) fw3 (fun _ h9 => h9) rfl dX11_isGleanerWord_85 ?_
        refine lv_aload_n hx hb dX11_isGleanerWord_88 rfl (lv_at hl 2 rfl) ?_
        refine va_get (D := D) (ci := 11) (v := .int (nI ta)) (C := RX11) (T := TX11) (N := 18) hx hb hts iw11 hown hK hP 0 rfl rfl 12 (by decide) fw4 (fun _ h9 => h9) rfl dX11_isGleanerWord_89 ?_
        refine lv_bipush (v := 6) hx hb dX11_isGleanerWord_92 (by decide) ?_
        refine lv_iadd hx hb dX11_isGleanerWord_94 ?_
        rw [show (nI ta) + 6 = nI (ta + 6) from nI_add ta 6]
        refine va_iald hx hb hK hP 1 0 rfl rfl (vp_in_nI (by omega) (by decide)) dX11_isGleanerWord_95 ?_
        rw [nI_clamp (n := (ta + 6)) (by omega)]
        refine lv_bipush (v := 114) hx hb dX11_isGleanerWord_96 (by decide) ?_
        refine lv_icmp_ne (tgt := 105) hx hb dX11_isGleanerWord_98 (by decide) (fun h20 => ?_) (fun h21 => ?_)
        · skip
          refine lv_iconst (v := 0) hx hb dX11_isGleanerWord_105 (by decide) ?_
          exact W.zret (v := 0) hx hb hr (by decide) (fun tZ ht hW => ⟨⟨0, (), rfl, Or.inr (⟨by rw [← he]; exact ks_g2m h20, rfl⟩), by rw [ht]; exact hP.sub [0, 1] rfl, hD.sub [0, 1] (by decide) rfl⟩, hS.F ht⟩) hS.2.2 dX11_isGleanerWord_106
        · skip
          refine lv_iconst (v := 1) hx hb dX11_isGleanerWord_101 (by decide) ?_
          refine lv_goto (tgt := 106) hx hb dX11_isGleanerWord_102 (by decide) ?_
          exact W.zret (v := 1) hx hb hr (by decide) (fun tZ ht hW => ⟨⟨1, (), rfl, Or.inl ⟨by rw [← he]; exact ks_g2 h18 h21, rfl⟩, by rw [ht]; exact hP.sub [0, 1] rfl, hD.sub [0, 1] (by decide) rfl⟩, hS.F ht⟩) hS.2.2 dX11_isGleanerWord_106
      · skip
        have hP : va_P D vwCl [(mo, .inr (11, [.ref to, .ref ke, .ref ik, .ref mrf, .long mab, .long mbl, .ref ha, .ref r0, .ref mbr, .ref mbp, .ref mby, .int (nI bl), .int (nI ta), .int (nI 6), .int (nI tk), .int vv, .ref an, .ref va])), (mby, .inl (y 0, 150, .inl fmb))] H := hP
        have hD : va_D A [(mo, .inr (11, [.ref to, .ref ke, .ref ik, .ref mrf, .long mab, .long mbl, .ref ha, .ref r0, .ref mbr, .ref mbp, .ref mby, .int (nI bl), .int (nI ta), .int (nI 6), .int (nI tk), .int vv, .ref an, .ref va])), (mby, .inl (y 0, 150, .inl fmb))] := hD
        refine lv_istore_n (lv' := [(2, .int 0), (1, .int 1), (0, .ref mo)]) hx hb dX11_isGleanerWord_58 rfl hl (by decide) rfl (fun ls hl => ?_)
        refine lv_aload_n hx hb dX11_isGleanerWord_59 rfl (lv_at hl 2 rfl) ?_
        refine lv_iload_n hx hb dX11_isGleanerWord_60 rfl (lv_at hl 1 rfl) ?_
        refine lv_if_eq (tgt := 69) hx hb dX11_isGleanerWord_61 (by decide) (fun h9 => absurd h9 (by decide)) (fun _ => ?_)
        refine lv_bipush (v := 7) hx hb dX11_isGleanerWord_64 (by decide) ?_
        refine lv_goto (tgt := 73) hx hb dX11_isGleanerWord_66 (by decide) ?_
        refine va_put (D := D) (ci := 11) (v := .int 7) (ty := .int) (C := RX11) (T := TX11) (N := 18) hx hb hts iw11 tyX11 tyX11_ok nmX11 hown hK hP hD hS 0 rfl rfl 13 (by decide) fw2 (fun _ h9 => h9) rfl (by decide +kernel) rfl rfl (Nat.le_of_ble_eq_true rfl) dX11_isGleanerWord_73 (fun H locs hP hD hS => ?_)
        have hP : va_P D vwCl [(mo, .inr (11, [.ref to, .ref ke, .ref ik, .ref mrf, .long mab, .long mbl, .ref ha, .ref r0, .ref mbr, .ref mbp, .ref mby, .int (nI bl), .int (nI ta), .int 7, .int (nI tk), .int vv, .ref an, .ref va])), (mby, .inl (y 0, 150, .inl fmb))] H := hP
        have hD : va_D A [(mo, .inr (11, [.ref to, .ref ke, .ref ik, .ref mrf, .long mab, .long mbl, .ref ha, .ref r0, .ref mbr, .ref mbp, .ref mby, .int (nI bl), .int (nI ta), .int 7, .int (nI tk), .int vv, .ref an, .ref va])), (mby, .inl (y 0, 150, .inl fmb))] := hD
        refine lv_iload_n hx hb dX11_isGleanerWord_76 rfl (lv_at hl 1 rfl) ?_
        refine lv_if_eq (tgt := 105) hx hb dX11_isGleanerWord_77 (by decide) (fun h9 => absurd h9 (by decide)) (fun _ => ?_)
        refine lv_iload_n hx hb dX11_isGleanerWord_80 rfl (lv_at hl 0 rfl) ?_
        refine lv_if_eq (tgt := 105) hx hb dX11_isGleanerWord_81 (by decide) (fun _ => ?_) (fun h9 => absurd h9 (by decide))
        refine lv_iconst (v := 0) hx hb dX11_isGleanerWord_105 (by decide) ?_
        exact W.zret (v := 0) hx hb hr (by decide) (fun tZ ht hW => ⟨⟨0, (), rfl, Or.inr (⟨by rw [← he]; exact ks_g2n h19, rfl⟩), by rw [ht]; exact hP.sub [0, 1] rfl, hD.sub [0, 1] (by decide) rfl⟩, hS.F ht⟩) hS.2.2 dX11_isGleanerWord_106

set_option maxHeartbeats 4000000 in
set_option maxRecDepth 100000 in
theorem gr_MinW (l : Launch) (D : va_G) (y : Nat → ClassId) (x : Int32) (a : Nat) (b : Nat) (hA1 : a < 2147483648) (hA2 : b < 2147483648) : kw_Mi l yX11_in wsX11_in ({ frames := 1, cells := 0, slots := 0, locals := 60 }) D y [.long x.toInt64, .long (Int64.ofNat a), .long ((nI b).toInt64)] [] (fun (r : Int32) (u : Unit) => (∃ j : Nat, a ≤ j ∧ j ≤ b ∧ x = nI j ∧ r = 1) ∨ ((¬ ∃ j : Nat, a ≤ j ∧ j ≤ b ∧ x = nI j) ∧ r = 0)) (fun _ => []) 0 0 := by
  refine kw_Mi.of (cc := cX11_in) (maxL := 6) (ret := (some .boolean)) (by decide) rfl ?_
  intro pZ eZ s mZ beZ meZ cZ A hE
  obtain ⟨hx, hb, hr, hml, hts, hown, hlocks, hin, hA, hP, hD, hK, hN⟩ := hE
  have hS : va_S A s.heap s.heap [] := va_S.rf
  have hl := lv_entry ([.long x.toInt64, .long (Int64.ofNat a), .long ((nI b).toInt64)]) (n := 6) (Nat.le_of_ble_eq_true rfl)
  rw [lg_entry_eq]
  generalize (lg_sl ([.long x.toInt64, .long (Int64.ofNat a), .long ((nI b).toInt64)]) ++ List.replicate (6 - (lg_sl ([.long x.toInt64, .long (Int64.ofNat a), .long ((nI b).toInt64)])).length) Slot.unset).toArray = ls at hl ⊢
  have hl : lv_has ls 6 [(0, .long x.toInt64), (2, .long (Int64.ofNat a)), (4, .long ((nI b).toInt64))] := hl
  refine lv_lload_n hx hb dX11_in_0 rfl (lv_at hl 0 rfl) ?_
  refine lv_lload_n hx hb dX11_in_1 rfl (lv_at hl 1 rfl) ?_
  refine W.lcmp hx hb dX11_in_2 ?_
  refine lv_if_lt (tgt := 17) hx hb dX11_in_3 (by decide) (fun h1 => ?_) (fun h2 => ?_)
  · skip
    have h1 : x.toInt64 < (Int64.ofNat a) := kw_clt_t h1
    refine lv_iconst (v := 0) hx hb dX11_in_17 (by decide) ?_
    exact W.zret (v := 0) hx hb hr (by decide) (fun tZ ht hW => ⟨⟨0, (), rfl, Or.inr (⟨kr_nex3 h1 hA1 hA2, rfl⟩), by rw [ht]; exact hP.sub [] rfl, hD.sub [] (by decide) rfl⟩, hS.F ht⟩) hS.2.2 dX11_in_18
  · skip
    have h2 : ¬ x.toInt64 < (Int64.ofNat a) := kw_clt_f h2
    refine lv_lload_n hx hb dX11_in_6 rfl (lv_at hl 0 rfl) ?_
    refine lv_lload hx hb dX11_in_7 (lv_at hl 2 rfl) ?_
    refine W.lcmp hx hb dX11_in_9 ?_
    refine lv_if_gt (tgt := 17) hx hb dX11_in_10 (by decide) (fun h3 => ?_) (fun h4 => ?_)
    · skip
      have h3 : ((nI b).toInt64) < x.toInt64 := kw_cgt_t h3
      refine lv_iconst (v := 0) hx hb dX11_in_17 (by decide) ?_
      exact W.zret (v := 0) hx hb hr (by decide) (fun tZ ht hW => ⟨⟨0, (), rfl, Or.inr (⟨kr_nex4 (by rw [← kr_nI64 hA2]; exact h3) hA1 hA2, rfl⟩), by rw [ht]; exact hP.sub [] rfl, hD.sub [] (by decide) rfl⟩, hS.F ht⟩) hS.2.2 dX11_in_18
    · skip
      have h4 : ¬ ((nI b).toInt64) < x.toInt64 := kw_cgt_f h4
      refine lv_iconst (v := 1) hx hb dX11_in_13 (by decide) ?_
      refine lv_goto (tgt := 18) hx hb dX11_in_14 (by decide) ?_
      exact W.zret (v := 1) hx hb hr (by decide) (fun tZ ht hW => ⟨⟨1, (), rfl, Or.inl (by obtain ⟨j, h, h2, e⟩ := kr_ex2 h2 (by rw [← kr_nI64 hA2]; exact h4) hA1 hA2; exact ⟨j, h, h2, e, rfl⟩), by rw [ht]; exact hP.sub [] rfl, hD.sub [] (by decide) rfl⟩, hS.F ht⟩) hS.2.2 dX11_in_18

set_option maxHeartbeats 4000000 in
set_option maxRecDepth 100000 in
theorem gr_Mt09 (l : Launch) (D : va_G) (y : Nat → ClassId) (mo : Nat) (to : Nat) (ke : Nat) (ik : Nat) (mrf : Nat) (ha : Nat) (r0 : Nat) (mbr : Nat) (mbp : Nat) (mby : Nat) (an : Nat) (va : Nat) (mab : Int64) (mbl : Int64) (bl : Nat) (ta : Nat) (tl : Nat) (tk : Nat) (vv : Int32) (fmb : Nat → Int32) (fva : Nat → Int32) (e : Nat) (V : Nat) (hbl : bl ≤ 150) (he : ta + tl = e) (heb : e ≤ bl) (htk : tk ≤ 4) (hv : kz_V tk vv V) : kw_Mi l yX11_takes wsX11_takes ({ frames := 5, cells := 0, slots := 0, locals := 149 }) D y [.ref mo, .int 0, .int 0, .int 9] [(mo, .inr (11, [.ref to, .ref ke, .ref ik, .ref mrf, .long mab, .long mbl, .ref ha, .ref r0, .ref mbr, .ref mbp, .ref mby, .int (nI bl), .int (nI ta), .int (nI tl), .int (nI tk), .int vv, .ref an, .ref va])), (mby, .inl (y 0, 150, .inl fmb)), (va, .inl (y 0, 2, .inl fva))] (fun (r : Int32) (u : Nat × Nat × Nat × Int32 × (Nat → Int32)) => u.1 ≤ bl ∧ u.2.1 ≤ 150 ∧ u.2.2.1 ≤ 4 ∧ (r = 0 ∨ r = 1) ∧ (r = 1 → tk = 2 ∧ 0 ≤ V ∧ V ≤ 9 ∧ u.2.2.2.2 = upd fva 0 (nI V) ∧ u.1 = ks_S fmb bl e ∧ u.2.1 = ks_L fmb bl e ∧ u.2.2.1 = ks_K fmb bl e ∧ kz_N fmb bl e u.2.2.2.1) ∧ (r = 0 → kz_no tk 0 9 V ∧ u.2.2.2.2 = fva ∧ u.1 = ta ∧ u.2.1 = tl ∧ u.2.2.1 = tk ∧ u.2.2.2.1 = vv) ∧ (u.1 + u.2.1 ≤ bl)) (fun u => [(mo, .inr (11, [.ref to, .ref ke, .ref ik, .ref mrf, .long mab, .long mbl, .ref ha, .ref r0, .ref mbr, .ref mbp, .ref mby, .int (nI bl), .int (nI u.1), .int (nI u.2.1), .int (nI u.2.2.1), .int u.2.2.2.1, .ref an, .ref va])), (mby, .inl (y 0, 150, .inl fmb)), (va, .inl (y 0, 2, .inl u.2.2.2.2))]) 0 0 := by
  refine kw_Mi.of (cc := cX11_takes) (maxL := 4) (ret := (some .boolean)) (by decide) rfl ?_
  intro pZ eZ s mZ beZ meZ cZ A hE
  obtain ⟨hx, hb, hr, hml, hts, hown, hlocks, hin, hA, hP, hD, hK, hN⟩ := hE
  have hS : va_S A s.heap s.heap [] := va_S.rf
  have hl := lv_entry ([.ref mo, .int 0, .int 0, .int 9]) (n := 4) (Nat.le_of_ble_eq_true rfl)
  rw [lg_entry_eq]
  generalize (lg_sl ([.ref mo, .int 0, .int 0, .int 9]) ++ List.replicate (4 - (lg_sl ([.ref mo, .int 0, .int 0, .int 9])).length) Slot.unset).toArray = ls at hl ⊢
  have hl : lv_has ls 4 [(0, .ref mo), (1, .int 0), (2, .int 0), (3, .int 9)] := hl
  have fw1 := hts (.fieldLink RX11 228 "GleanDuskModel" "token" "I") (List.mem_of_getElem? (i := 1) rfl)
  have fw2 := hts (.fieldLink RX11 231 "GleanDuskModel" "value" "I") (List.mem_of_getElem? (i := 2) rfl)
  have fw3 := hts (.fieldLink RX11 45 "GleanDuskModel" "values" "[I") (List.mem_of_getElem? (i := 3) rfl)
  have iw11 : ∀ w ∈ wsX110, w ∈ wsX11_takes := fun _ h => List.mem_cons_of_mem _ (List.mem_append_right _ h)
  refine lv_aload_n hx hb dX11_takes_0 rfl (lv_at hl 0 rfl) ?_
  refine va_get (D := D) (ci := 11) (v := .int (nI tk)) (C := RX11) (T := TX11) (N := 18) hx hb hts iw11 hown hK hP 0 rfl rfl 14 (by decide) fw1 (fun _ h9 => h9) rfl dX11_takes_1 ?_
  refine lv_iconst (v := 2) hx hb dX11_takes_4 (by decide) ?_
  refine lv_icmp_ne (tgt := 23) hx hb dX11_takes_5 (by decide) (fun h1 => ?_) (fun h2 => ?_)
  · skip
    have h1 : ¬ tk = 2 := fun q9 => h1 ((nI_eq (a := tk) (b := 2) (by omega) (by omega)).mpr q9)
    refine lv_iconst (v := 0) hx hb dX11_takes_23 (by decide) ?_
    exact W.zret (v := 0) hx hb hr (by decide) (fun tZ ht hW => ⟨⟨0, (ta, tl, tk, vv, fva), rfl, ⟨by first | omega | (dsimp only; omega), by first | omega | (dsimp only; omega), by first | omega | (dsimp only; omega), Or.inl rfl, (fun h9 => absurd h9 (by decide)), (fun _ => ⟨kz_no_1 h1, rfl, rfl, rfl, rfl, rfl⟩), by first | omega | (dsimp only; omega)⟩, by rw [ht]; exact hP.sub [0, 1, 2] rfl, hD.sub [0, 1, 2] (by decide) rfl⟩, hS.F ht⟩) hS.2.2 dX11_takes_24
  · skip
    have h2 : tk = 2 := (nI_eq (a := tk) (b := 2) (by omega) (by omega)).mp h2
    obtain ⟨rfl, h3⟩ := hv h2
    have hP : va_P D vwCl [(mo, .inr (11, [.ref to, .ref ke, .ref ik, .ref mrf, .long mab, .long mbl, .ref ha, .ref r0, .ref mbr, .ref mbp, .ref mby, .int (nI bl), .int (nI ta), .int (nI tl), .int (nI tk), .int (nI V), .ref an, .ref va])), (mby, .inl (y 0, 150, .inl fmb)), (va, .inl (y 0, 2, .inl fva))] s.heap := hP
    have hD : va_D A [(mo, .inr (11, [.ref to, .ref ke, .ref ik, .ref mrf, .long mab, .long mbl, .ref ha, .ref r0, .ref mbr, .ref mbp, .ref mby, .int (nI bl), .int (nI ta), .int (nI tl), .int (nI tk), .int (nI V), .ref an, .ref va])), (mby, .inl (y 0, 150, .inl fmb)), (va, .inl (y 0, 2, .inl fva))] := hD
    refine lv_aload_n hx hb dX11_takes_8 rfl (lv_at hl 0 rfl) ?_
    refine va_get (D := D) (ci := 11) (v := .int (nI V)) (C := RX11) (T := TX11) (N := 18) hx hb hts iw11 hown hK hP 0 rfl rfl 15 (by decide) fw2 (fun _ h9 => h9) rfl dX11_takes_9 ?_
    refine lv_i2l (v := (nI V).toInt64) hx hb dX11_takes_12 (rfl) ?_
    refine lv_iload_n hx hb dX11_takes_13 rfl (lv_at hl 2 rfl) ?_
    refine lv_i2l (v := 0) hx hb dX11_takes_14 (by decide) ?_
    refine lv_iload_n hx hb dX11_takes_15 rfl (lv_at hl 3 rfl) ?_
    refine lv_i2l (v := 9) hx hb dX11_takes_16 (by decide) ?_
    have hs4 : kw_Split [(mo, .inr (11, [.ref to, .ref ke, .ref ik, .ref mrf, .long mab, .long mbl, .ref ha, .ref r0, .ref mbr, .ref mbp, .ref mby, .int (nI bl), .int (nI ta), .int (nI tl), .int (nI tk), .int (nI V), .ref an, .ref va])), (mby, .inl (y 0, 150, .inl fmb)), (va, .inl (y 0, 2, .inl fva))] [] [(mo, .inr (11, [.ref to, .ref ke, .ref ik, .ref mrf, .long mab, .long mbl, .ref ha, .ref r0, .ref mbr, .ref mbp, .ref mby, .int (nI bl), .int (nI ta), .int (nI tl), .int (nI tk), .int (nI V), .ref an, .ref va])), (mby, .inl (y 0, 150, .inl fmb)), (va, .inl (y 0, 2, .inl fva))] [] [0, 1, 2] := ⟨rfl, rfl, rfl, rfl, rfl, by decide⟩
    refine kw_go_i hs4 hP hD hS hA (va_runS (As := [.long ((nI V).toInt64), .long 0, .long 9]) (rest := []) ⟨hx, hb, hml, hown, hts⟩ (gr_in l D y (nI V) 0 9 (by omega) (by omega) _) (va_cwS 3 hts gX11_takes_X11_in rfl rfl rfl (by decide +kernel) ⟨Nat.le_of_ble_eq_true rfl, Nat.le_of_ble_eq_true rfl⟩) (kw_PreS hs4 hP hD hK hN) rfl rfl hl.1 rfl (lv_room (Nat.le_of_ble_eq_true rfl)) dX11_takes_17 ⟨Nat.le_of_ble_eq_true rfl, Nat.le_of_ble_eq_true rfl⟩) (fun r5 u6 H locs hq hP hD hS => ?_)
    rcases hq with ⟨j7, h8, h9, h10, rfl⟩ | ⟨h11, rfl⟩
    · skip
      have h10 : V = j7 := (nI_eq (a := V) (b := j7) (by omega) (by omega)).mp h10
      have hP : va_P D vwCl [(mo, .inr (11, [.ref to, .ref ke, .ref ik, .ref mrf, .long mab, .long mbl, .ref ha, .ref r0, .ref mbr, .ref mbp, .ref mby, .int (nI bl), .int (nI ta), .int (nI tl), .int (nI tk), .int (nI V), .ref an, .ref va])), (mby, .inl (y 0, 150, .inl fmb)), (va, .inl (y 0, 2, .inl fva))] H := hP
      have hD : va_D A [(mo, .inr (11, [.ref to, .ref ke, .ref ik, .ref mrf, .long mab, .long mbl, .ref ha, .ref r0, .ref mbr, .ref mbp, .ref mby, .int (nI bl), .int (nI ta), .int (nI tl), .int (nI tk), .int (nI V), .ref an, .ref va])), (mby, .inl (y 0, 150, .inl fmb)), (va, .inl (y 0, 2, .inl fva))] := hD
      refine lv_if_ne (tgt := 25) hx hb dX11_takes_20 (by decide) (fun _ => ?_) (fun h9 => absurd h9 (by decide))
      refine lv_aload_n hx hb dX11_takes_25 rfl (lv_at hl 0 rfl) ?_
      refine va_get (D := D) (ci := 11) (v := .ref va) (C := RX11) (T := TX11) (N := 18) hx hb hts iw11 hown hK hP 0 rfl rfl 17 (by decide) fw3 (fun _ h9 => h9) rfl dX11_takes_26 ?_
      refine lv_iload_n hx hb dX11_takes_29 rfl (lv_at hl 1 rfl) ?_
      refine lv_aload_n hx hb dX11_takes_30 rfl (lv_at hl 0 rfl) ?_
      refine va_get (D := D) (ci := 11) (v := .int (nI V)) (C := RX11) (T := TX11) (N := 18) hx hb hts iw11 hown hK hP 0 rfl rfl 15 (by decide) fw2 (fun _ h9 => h9) rfl dX11_takes_31 ?_
      refine va_iast hx hb hK hP hD hS 2 0 rfl rfl (by unfold vp_in; decide) dX11_takes_34 (fun H locs hP hD hS => ?_)
      rw [show ((0 : Int32)).toNatClampNeg = 0 from rfl] at hP hD
      have hP : va_P D vwCl [(mo, .inr (11, [.ref to, .ref ke, .ref ik, .ref mrf, .long mab, .long mbl, .ref ha, .ref r0, .ref mbr, .ref mbp, .ref mby, .int (nI bl), .int (nI ta), .int (nI tl), .int (nI tk), .int (nI V), .ref an, .ref va])), (mby, .inl (y 0, 150, .inl fmb)), (va, .inl (y 0, 2, .inl (upd fva 0 (nI V))))] H := hP
      have hD : va_D A [(mo, .inr (11, [.ref to, .ref ke, .ref ik, .ref mrf, .long mab, .long mbl, .ref ha, .ref r0, .ref mbr, .ref mbp, .ref mby, .int (nI bl), .int (nI ta), .int (nI tl), .int (nI tk), .int (nI V), .ref an, .ref va])), (mby, .inl (y 0, 150, .inl fmb)), (va, .inl (y 0, 2, .inl (upd fva 0 (nI V))))] := hD
      refine lv_aload_n hx hb dX11_takes_35 rfl (lv_at hl 0 rfl) ?_
      have hs12 : kw_Split [(mo, .inr (11, [.ref to, .ref ke, .ref ik, .ref mrf, .long mab, .long mbl, .ref ha, .ref r0, .ref mbr, .ref mbp, .ref mby, .int (nI bl), .int (nI ta), .int (nI tl), .int (nI tk), .int (nI V), .ref an, .ref va])), (mby, .inl (y 0, 150, .inl fmb)), (va, .inl (y 0, 2, .inl (upd fva 0 (nI V))))] [(mo, .inr (11, [.ref to, .ref ke, .ref ik, .ref mrf, .long mab, .long mbl, .ref ha, .ref r0, .ref mbr, .ref mbp, .ref mby, .int (nI bl), .int (nI ta), .int (nI tl), .int (nI tk), .int (nI V), .ref an, .ref va])), (mby, .inl (y 0, 150, .inl fmb))] [(va, .inl (y 0, 2, .inl (upd fva 0 (nI V))))] [0, 1] [2] := ⟨rfl, rfl, rfl, rfl, rfl, by decide⟩
      refine kw_go_v hs12 hP hD hS hA (va_runV (As := []) (rest := []) ⟨hx, hb, hml, hown, hts⟩ (gr_Mgo l D y mo to ke ik mrf ha r0 mbr mbp mby an va mab mbl bl ta tl tk (nI V) fmb e hbl he heb htk _) (cwV 0 hts gX11_takes_X11_goBehind rfl rfl rfl (by decide +kernel) ⟨Nat.le_of_ble_eq_true rfl, Nat.le_of_ble_eq_true rfl⟩) (kw_PreV (ci := 11) (q0 := 0) hs12 hP hD hK hN rfl rfl) rfl rfl hl.1 rfl (lv_room (Nat.le_of_ble_eq_true rfl)) dX11_takes_36 ⟨Nat.le_of_ble_eq_true rfl, Nat.le_of_ble_eq_true rfl⟩) (fun u14 H locs hq hP hD hS => ?_)
      obtain ⟨v15, rfl⟩ : ∃ z, z = u14 := ⟨_, rfl⟩
      try dsimp only at hq
      obtain ⟨h16, h17, h18, h19, h20⟩ := hq
      have hP : va_P D vwCl [(va, .inl (y 0, 2, .inl (upd fva 0 (nI V)))), (mo, .inr (11, [.ref to, .ref ke, .ref ik, .ref mrf, .long mab, .long mbl, .ref ha, .ref r0, .ref mbr, .ref mbp, .ref mby, .int (nI bl), .int (nI (ks_S fmb bl e)), .int (nI (ks_L fmb bl e)), .int (nI (ks_K fmb bl e)), .int v15, .ref an, .ref va])), (mby, .inl (y 0, 150, .inl fmb))] H := hP
      have hD : va_D A [(va, .inl (y 0, 2, .inl (upd fva 0 (nI V)))), (mo, .inr (11, [.ref to, .ref ke, .ref ik, .ref mrf, .long mab, .long mbl, .ref ha, .ref r0, .ref mbr, .ref mbp, .ref mby, .int (nI bl), .int (nI (ks_S fmb bl e)), .int (nI (ks_L fmb bl e)), .int (nI (ks_K fmb bl e)), .int v15, .ref an, .ref va])), (mby, .inl (y 0, 150, .inl fmb))] := hD
      refine lv_iconst (v := 1) hx hb dX11_takes_39 (by decide) ?_
      exact W.zret (v := 1) hx hb hr (by decide) (fun tZ ht hW => ⟨⟨1, (ks_S fmb bl e, ks_L fmb bl e, ks_K fmb bl e, v15, (upd fva 0 (nI V))), rfl, ⟨by first | omega | (dsimp only; omega), by first | omega | (dsimp only; omega), by first | omega | (dsimp only; omega), Or.inr rfl, (fun _ => ⟨h2, (by first | omega | (dsimp only; omega)), (by first | omega | (dsimp only; omega)), rfl, rfl, rfl, rfl, h20⟩), (fun h9 => absurd h9 (by decide)), by first | omega | (dsimp only; omega)⟩, by rw [ht]; exact hP.sub [1, 2, 0] rfl, hD.sub [1, 2, 0] (by decide) rfl⟩, hS.F ht⟩) hS.2.2 dX11_takes_40
    · skip
      have hP : va_P D vwCl [(mo, .inr (11, [.ref to, .ref ke, .ref ik, .ref mrf, .long mab, .long mbl, .ref ha, .ref r0, .ref mbr, .ref mbp, .ref mby, .int (nI bl), .int (nI ta), .int (nI tl), .int (nI tk), .int (nI V), .ref an, .ref va])), (mby, .inl (y 0, 150, .inl fmb)), (va, .inl (y 0, 2, .inl fva))] H := hP
      have hD : va_D A [(mo, .inr (11, [.ref to, .ref ke, .ref ik, .ref mrf, .long mab, .long mbl, .ref ha, .ref r0, .ref mbr, .ref mbp, .ref mby, .int (nI bl), .int (nI ta), .int (nI tl), .int (nI tk), .int (nI V), .ref an, .ref va])), (mby, .inl (y 0, 150, .inl fmb)), (va, .inl (y 0, 2, .inl fva))] := hD
      refine lv_if_ne (tgt := 25) hx hb dX11_takes_20 (by decide) (fun h9 => absurd h9 (by decide)) (fun _ => ?_)
      refine lv_iconst (v := 0) hx hb dX11_takes_23 (by decide) ?_
      exact W.zret (v := 0) hx hb hr (by decide) (fun tZ ht hW => ⟨⟨0, (ta, tl, tk, (nI V), fva), rfl, ⟨by first | omega | (dsimp only; omega), by first | omega | (dsimp only; omega), by first | omega | (dsimp only; omega), Or.inl rfl, (fun h9 => absurd h9 (by decide)), (fun _ => ⟨kz_no_2 h11, rfl, rfl, rfl, rfl, rfl⟩), by first | omega | (dsimp only; omega)⟩, by rw [ht]; exact hP.sub [0, 1, 2] rfl, hD.sub [0, 1, 2] (by decide) rfl⟩, hS.F ht⟩) hS.2.2 dX11_takes_24

set_option maxHeartbeats 4000000 in
set_option maxRecDepth 100000 in
theorem gr_Mt05 (l : Launch) (D : va_G) (y : Nat → ClassId) (mo : Nat) (to : Nat) (ke : Nat) (ik : Nat) (mrf : Nat) (ha : Nat) (r0 : Nat) (mbr : Nat) (mbp : Nat) (mby : Nat) (an : Nat) (va : Nat) (mab : Int64) (mbl : Int64) (bl : Nat) (ta : Nat) (tl : Nat) (tk : Nat) (vv : Int32) (fmb : Nat → Int32) (fva : Nat → Int32) (e : Nat) (V : Nat) (hbl : bl ≤ 150) (he : ta + tl = e) (heb : e ≤ bl) (htk : tk ≤ 4) (hv : kz_V tk vv V) : kw_Mi l yX11_takes wsX11_takes ({ frames := 5, cells := 0, slots := 0, locals := 149 }) D y [.ref mo, .int 0, .int 0, .int 5] [(mo, .inr (11, [.ref to, .ref ke, .ref ik, .ref mrf, .long mab, .long mbl, .ref ha, .ref r0, .ref mbr, .ref mbp, .ref mby, .int (nI bl), .int (nI ta), .int (nI tl), .int (nI tk), .int vv, .ref an, .ref va])), (mby, .inl (y 0, 150, .inl fmb)), (va, .inl (y 0, 2, .inl fva))] (fun (r : Int32) (u : Nat × Nat × Nat × Int32 × (Nat → Int32)) => u.1 ≤ bl ∧ u.2.1 ≤ 150 ∧ u.2.2.1 ≤ 4 ∧ (r = 0 ∨ r = 1) ∧ (r = 1 → tk = 2 ∧ 0 ≤ V ∧ V ≤ 5 ∧ u.2.2.2.2 = upd fva 0 (nI V) ∧ u.1 = ks_S fmb bl e ∧ u.2.1 = ks_L fmb bl e ∧ u.2.2.1 = ks_K fmb bl e ∧ kz_N fmb bl e u.2.2.2.1) ∧ (r = 0 → kz_no tk 0 5 V ∧ u.2.2.2.2 = fva ∧ u.1 = ta ∧ u.2.1 = tl ∧ u.2.2.1 = tk ∧ u.2.2.2.1 = vv) ∧ (u.1 + u.2.1 ≤ bl)) (fun u => [(mo, .inr (11, [.ref to, .ref ke, .ref ik, .ref mrf, .long mab, .long mbl, .ref ha, .ref r0, .ref mbr, .ref mbp, .ref mby, .int (nI bl), .int (nI u.1), .int (nI u.2.1), .int (nI u.2.2.1), .int u.2.2.2.1, .ref an, .ref va])), (mby, .inl (y 0, 150, .inl fmb)), (va, .inl (y 0, 2, .inl u.2.2.2.2))]) 0 0 := by
  refine kw_Mi.of (cc := cX11_takes) (maxL := 4) (ret := (some .boolean)) (by decide) rfl ?_
  intro pZ eZ s mZ beZ meZ cZ A hE
  obtain ⟨hx, hb, hr, hml, hts, hown, hlocks, hin, hA, hP, hD, hK, hN⟩ := hE
  have hS : va_S A s.heap s.heap [] := va_S.rf
  have hl := lv_entry ([.ref mo, .int 0, .int 0, .int 5]) (n := 4) (Nat.le_of_ble_eq_true rfl)
  rw [lg_entry_eq]
  generalize (lg_sl ([.ref mo, .int 0, .int 0, .int 5]) ++ List.replicate (4 - (lg_sl ([.ref mo, .int 0, .int 0, .int 5])).length) Slot.unset).toArray = ls at hl ⊢
  have hl : lv_has ls 4 [(0, .ref mo), (1, .int 0), (2, .int 0), (3, .int 5)] := hl
  have fw1 := hts (.fieldLink RX11 228 "GleanDuskModel" "token" "I") (List.mem_of_getElem? (i := 1) rfl)
  have fw2 := hts (.fieldLink RX11 231 "GleanDuskModel" "value" "I") (List.mem_of_getElem? (i := 2) rfl)
  have fw3 := hts (.fieldLink RX11 45 "GleanDuskModel" "values" "[I") (List.mem_of_getElem? (i := 3) rfl)
  have iw11 : ∀ w ∈ wsX110, w ∈ wsX11_takes := fun _ h => List.mem_cons_of_mem _ (List.mem_append_right _ h)
  refine lv_aload_n hx hb dX11_takes_0 rfl (lv_at hl 0 rfl) ?_
  refine va_get (D := D) (ci := 11) (v := .int (nI tk)) (C := RX11) (T := TX11) (N := 18) hx hb hts iw11 hown hK hP 0 rfl rfl 14 (by decide) fw1 (fun _ h9 => h9) rfl dX11_takes_1 ?_
  refine lv_iconst (v := 2) hx hb dX11_takes_4 (by decide) ?_
  refine lv_icmp_ne (tgt := 23) hx hb dX11_takes_5 (by decide) (fun h1 => ?_) (fun h2 => ?_)
  · skip
    have h1 : ¬ tk = 2 := fun q9 => h1 ((nI_eq (a := tk) (b := 2) (by omega) (by omega)).mpr q9)
    refine lv_iconst (v := 0) hx hb dX11_takes_23 (by decide) ?_
    exact W.zret (v := 0) hx hb hr (by decide) (fun tZ ht hW => ⟨⟨0, (ta, tl, tk, vv, fva), rfl, ⟨by first | omega | (dsimp only; omega), by first | omega | (dsimp only; omega), by first | omega | (dsimp only; omega), Or.inl rfl, (fun h9 => absurd h9 (by decide)), (fun _ => ⟨kz_no_1 h1, rfl, rfl, rfl, rfl, rfl⟩), by first | omega | (dsimp only; omega)⟩, by rw [ht]; exact hP.sub [0, 1, 2] rfl, hD.sub [0, 1, 2] (by decide) rfl⟩, hS.F ht⟩) hS.2.2 dX11_takes_24
  · skip
    have h2 : tk = 2 := (nI_eq (a := tk) (b := 2) (by omega) (by omega)).mp h2
    obtain ⟨rfl, h3⟩ := hv h2
    have hP : va_P D vwCl [(mo, .inr (11, [.ref to, .ref ke, .ref ik, .ref mrf, .long mab, .long mbl, .ref ha, .ref r0, .ref mbr, .ref mbp, .ref mby, .int (nI bl), .int (nI ta), .int (nI tl), .int (nI tk), .int (nI V), .ref an, .ref va])), (mby, .inl (y 0, 150, .inl fmb)), (va, .inl (y 0, 2, .inl fva))] s.heap := hP
    have hD : va_D A [(mo, .inr (11, [.ref to, .ref ke, .ref ik, .ref mrf, .long mab, .long mbl, .ref ha, .ref r0, .ref mbr, .ref mbp, .ref mby, .int (nI bl), .int (nI ta), .int (nI tl), .int (nI tk), .int (nI V), .ref an, .ref va])), (mby, .inl (y 0, 150, .inl fmb)), (va, .inl (y 0, 2, .inl fva))] := hD
    refine lv_aload_n hx hb dX11_takes_8 rfl (lv_at hl 0 rfl) ?_
    refine va_get (D := D) (ci := 11) (v := .int (nI V)) (C := RX11) (T := TX11) (N := 18) hx hb hts iw11 hown hK hP 0 rfl rfl 15 (by decide) fw2 (fun _ h9 => h9) rfl dX11_takes_9 ?_
    refine lv_i2l (v := (nI V).toInt64) hx hb dX11_takes_12 (rfl) ?_
    refine lv_iload_n hx hb dX11_takes_13 rfl (lv_at hl 2 rfl) ?_
    refine lv_i2l (v := 0) hx hb dX11_takes_14 (by decide) ?_
    refine lv_iload_n hx hb dX11_takes_15 rfl (lv_at hl 3 rfl) ?_
    refine lv_i2l (v := 5) hx hb dX11_takes_16 (by decide) ?_
    have hs4 : kw_Split [(mo, .inr (11, [.ref to, .ref ke, .ref ik, .ref mrf, .long mab, .long mbl, .ref ha, .ref r0, .ref mbr, .ref mbp, .ref mby, .int (nI bl), .int (nI ta), .int (nI tl), .int (nI tk), .int (nI V), .ref an, .ref va])), (mby, .inl (y 0, 150, .inl fmb)), (va, .inl (y 0, 2, .inl fva))] [] [(mo, .inr (11, [.ref to, .ref ke, .ref ik, .ref mrf, .long mab, .long mbl, .ref ha, .ref r0, .ref mbr, .ref mbp, .ref mby, .int (nI bl), .int (nI ta), .int (nI tl), .int (nI tk), .int (nI V), .ref an, .ref va])), (mby, .inl (y 0, 150, .inl fmb)), (va, .inl (y 0, 2, .inl fva))] [] [0, 1, 2] := ⟨rfl, rfl, rfl, rfl, rfl, by decide⟩
    refine kw_go_i hs4 hP hD hS hA (va_runS (As := [.long ((nI V).toInt64), .long 0, .long 5]) (rest := []) ⟨hx, hb, hml, hown, hts⟩ (gr_in l D y (nI V) 0 5 (by omega) (by omega) _) (va_cwS 3 hts gX11_takes_X11_in rfl rfl rfl (by decide +kernel) ⟨Nat.le_of_ble_eq_true rfl, Nat.le_of_ble_eq_true rfl⟩) (kw_PreS hs4 hP hD hK hN) rfl rfl hl.1 rfl (lv_room (Nat.le_of_ble_eq_true rfl)) dX11_takes_17 ⟨Nat.le_of_ble_eq_true rfl, Nat.le_of_ble_eq_true rfl⟩) (fun r5 u6 H locs hq hP hD hS => ?_)
    rcases hq with ⟨j7, h8, h9, h10, rfl⟩ | ⟨h11, rfl⟩
    · skip
      have h10 : V = j7 := (nI_eq (a := V) (b := j7) (by omega) (by omega)).mp h10
      have hP : va_P D vwCl [(mo, .inr (11, [.ref to, .ref ke, .ref ik, .ref mrf, .long mab, .long mbl, .ref ha, .ref r0, .ref mbr, .ref mbp, .ref mby, .int (nI bl), .int (nI ta), .int (nI tl), .int (nI tk), .int (nI V), .ref an, .ref va])), (mby, .inl (y 0, 150, .inl fmb)), (va, .inl (y 0, 2, .inl fva))] H := hP
      have hD : va_D A [(mo, .inr (11, [.ref to, .ref ke, .ref ik, .ref mrf, .long mab, .long mbl, .ref ha, .ref r0, .ref mbr, .ref mbp, .ref mby, .int (nI bl), .int (nI ta), .int (nI tl), .int (nI tk), .int (nI V), .ref an, .ref va])), (mby, .inl (y 0, 150, .inl fmb)), (va, .inl (y 0, 2, .inl fva))] := hD
      refine lv_if_ne (tgt := 25) hx hb dX11_takes_20 (by decide) (fun _ => ?_) (fun h9 => absurd h9 (by decide))
      refine lv_aload_n hx hb dX11_takes_25 rfl (lv_at hl 0 rfl) ?_
      refine va_get (D := D) (ci := 11) (v := .ref va) (C := RX11) (T := TX11) (N := 18) hx hb hts iw11 hown hK hP 0 rfl rfl 17 (by decide) fw3 (fun _ h9 => h9) rfl dX11_takes_26 ?_
      refine lv_iload_n hx hb dX11_takes_29 rfl (lv_at hl 1 rfl) ?_
      refine lv_aload_n hx hb dX11_takes_30 rfl (lv_at hl 0 rfl) ?_
      refine va_get (D := D) (ci := 11) (v := .int (nI V)) (C := RX11) (T := TX11) (N := 18) hx hb hts iw11 hown hK hP 0 rfl rfl 15 (by decide) fw2 (fun _ h9 => h9) rfl dX11_takes_31 ?_
      refine va_iast hx hb hK hP hD hS 2 0 rfl rfl (by unfold vp_in; decide) dX11_takes_34 (fun H locs hP hD hS => ?_)
      rw [show ((0 : Int32)).toNatClampNeg = 0 from rfl] at hP hD
      have hP : va_P D vwCl [(mo, .inr (11, [.ref to, .ref ke, .ref ik, .ref mrf, .long mab, .long mbl, .ref ha, .ref r0, .ref mbr, .ref mbp, .ref mby, .int (nI bl), .int (nI ta), .int (nI tl), .int (nI tk), .int (nI V), .ref an, .ref va])), (mby, .inl (y 0, 150, .inl fmb)), (va, .inl (y 0, 2, .inl (upd fva 0 (nI V))))] H := hP
      have hD : va_D A [(mo, .inr (11, [.ref to, .ref ke, .ref ik, .ref mrf, .long mab, .long mbl, .ref ha, .ref r0, .ref mbr, .ref mbp, .ref mby, .int (nI bl), .int (nI ta), .int (nI tl), .int (nI tk), .int (nI V), .ref an, .ref va])), (mby, .inl (y 0, 150, .inl fmb)), (va, .inl (y 0, 2, .inl (upd fva 0 (nI V))))] := hD
      refine lv_aload_n hx hb dX11_takes_35 rfl (lv_at hl 0 rfl) ?_
      have hs12 : kw_Split [(mo, .inr (11, [.ref to, .ref ke, .ref ik, .ref mrf, .long mab, .long mbl, .ref ha, .ref r0, .ref mbr, .ref mbp, .ref mby, .int (nI bl), .int (nI ta), .int (nI tl), .int (nI tk), .int (nI V), .ref an, .ref va])), (mby, .inl (y 0, 150, .inl fmb)), (va, .inl (y 0, 2, .inl (upd fva 0 (nI V))))] [(mo, .inr (11, [.ref to, .ref ke, .ref ik, .ref mrf, .long mab, .long mbl, .ref ha, .ref r0, .ref mbr, .ref mbp, .ref mby, .int (nI bl), .int (nI ta), .int (nI tl), .int (nI tk), .int (nI V), .ref an, .ref va])), (mby, .inl (y 0, 150, .inl fmb))] [(va, .inl (y 0, 2, .inl (upd fva 0 (nI V))))] [0, 1] [2] := ⟨rfl, rfl, rfl, rfl, rfl, by decide⟩
      refine kw_go_v hs12 hP hD hS hA (va_runV (As := []) (rest := []) ⟨hx, hb, hml, hown, hts⟩ (gr_Mgo l D y mo to ke ik mrf ha r0 mbr mbp mby an va mab mbl bl ta tl tk (nI V) fmb e hbl he heb htk _) (cwV 0 hts gX11_takes_X11_goBehind rfl rfl rfl (by decide +kernel) ⟨Nat.le_of_ble_eq_true rfl, Nat.le_of_ble_eq_true rfl⟩) (kw_PreV (ci := 11) (q0 := 0) hs12 hP hD hK hN rfl rfl) rfl rfl hl.1 rfl (lv_room (Nat.le_of_ble_eq_true rfl)) dX11_takes_36 ⟨Nat.le_of_ble_eq_true rfl, Nat.le_of_ble_eq_true rfl⟩) (fun u14 H locs hq hP hD hS => ?_)
      obtain ⟨v15, rfl⟩ : ∃ z, z = u14 := ⟨_, rfl⟩
      try dsimp only at hq
      obtain ⟨h16, h17, h18, h19, h20⟩ := hq
      have hP : va_P D vwCl [(va, .inl (y 0, 2, .inl (upd fva 0 (nI V)))), (mo, .inr (11, [.ref to, .ref ke, .ref ik, .ref mrf, .long mab, .long mbl, .ref ha, .ref r0, .ref mbr, .ref mbp, .ref mby, .int (nI bl), .int (nI (ks_S fmb bl e)), .int (nI (ks_L fmb bl e)), .int (nI (ks_K fmb bl e)), .int v15, .ref an, .ref va])), (mby, .inl (y 0, 150, .inl fmb))] H := hP
      have hD : va_D A [(va, .inl (y 0, 2, .inl (upd fva 0 (nI V)))), (mo, .inr (11, [.ref to, .ref ke, .ref ik, .ref mrf, .long mab, .long mbl, .ref ha, .ref r0, .ref mbr, .ref mbp, .ref mby, .int (nI bl), .int (nI (ks_S fmb bl e)), .int (nI (ks_L fmb bl e)), .int (nI (ks_K fmb bl e)), .int v15, .ref an, .ref va])), (mby, .inl (y 0, 150, .inl fmb))] := hD
      refine lv_iconst (v := 1) hx hb dX11_takes_39 (by decide) ?_
      exact W.zret (v := 1) hx hb hr (by decide) (fun tZ ht hW => ⟨⟨1, (ks_S fmb bl e, ks_L fmb bl e, ks_K fmb bl e, v15, (upd fva 0 (nI V))), rfl, ⟨by first | omega | (dsimp only; omega), by first | omega | (dsimp only; omega), by first | omega | (dsimp only; omega), Or.inr rfl, (fun _ => ⟨h2, (by first | omega | (dsimp only; omega)), (by first | omega | (dsimp only; omega)), rfl, rfl, rfl, rfl, h20⟩), (fun h9 => absurd h9 (by decide)), by first | omega | (dsimp only; omega)⟩, by rw [ht]; exact hP.sub [1, 2, 0] rfl, hD.sub [1, 2, 0] (by decide) rfl⟩, hS.F ht⟩) hS.2.2 dX11_takes_40
    · skip
      have hP : va_P D vwCl [(mo, .inr (11, [.ref to, .ref ke, .ref ik, .ref mrf, .long mab, .long mbl, .ref ha, .ref r0, .ref mbr, .ref mbp, .ref mby, .int (nI bl), .int (nI ta), .int (nI tl), .int (nI tk), .int (nI V), .ref an, .ref va])), (mby, .inl (y 0, 150, .inl fmb)), (va, .inl (y 0, 2, .inl fva))] H := hP
      have hD : va_D A [(mo, .inr (11, [.ref to, .ref ke, .ref ik, .ref mrf, .long mab, .long mbl, .ref ha, .ref r0, .ref mbr, .ref mbp, .ref mby, .int (nI bl), .int (nI ta), .int (nI tl), .int (nI tk), .int (nI V), .ref an, .ref va])), (mby, .inl (y 0, 150, .inl fmb)), (va, .inl (y 0, 2, .inl fva))] := hD
      refine lv_if_ne (tgt := 25) hx hb dX11_takes_20 (by decide) (fun h9 => absurd h9 (by decide)) (fun _ => ?_)
      refine lv_iconst (v := 0) hx hb dX11_takes_23 (by decide) ?_
      exact W.zret (v := 0) hx hb hr (by decide) (fun tZ ht hW => ⟨⟨0, (ta, tl, tk, (nI V), fva), rfl, ⟨by first | omega | (dsimp only; omega), by first | omega | (dsimp only; omega), by first | omega | (dsimp only; omega), Or.inl rfl, (fun h9 => absurd h9 (by decide)), (fun _ => ⟨kz_no_2 h11, rfl, rfl, rfl, rfl, rfl⟩), by first | omega | (dsimp only; omega)⟩, by rw [ht]; exact hP.sub [0, 1, 2] rfl, hD.sub [0, 1, 2] (by decide) rfl⟩, hS.F ht⟩) hS.2.2 dX11_takes_24

set_option maxHeartbeats 4000000 in
set_option maxRecDepth 100000 in
theorem gr_Mt60 (l : Launch) (D : va_G) (y : Nat → ClassId) (mo : Nat) (to : Nat) (ke : Nat) (ik : Nat) (mrf : Nat) (ha : Nat) (r0 : Nat) (mbr : Nat) (mbp : Nat) (mby : Nat) (an : Nat) (va : Nat) (mab : Int64) (mbl : Int64) (bl : Nat) (ta : Nat) (tl : Nat) (tk : Nat) (vv : Int32) (fmb : Nat → Int32) (fva : Nat → Int32) (e : Nat) (V : Nat) (hbl : bl ≤ 150) (he : ta + tl = e) (heb : e ≤ bl) (htk : tk ≤ 4) (hv : kz_V tk vv V) : kw_Mi l yX11_takes wsX11_takes ({ frames := 5, cells := 0, slots := 0, locals := 149 }) D y [.ref mo, .int 1, .int 0, .int 60] [(mo, .inr (11, [.ref to, .ref ke, .ref ik, .ref mrf, .long mab, .long mbl, .ref ha, .ref r0, .ref mbr, .ref mbp, .ref mby, .int (nI bl), .int (nI ta), .int (nI tl), .int (nI tk), .int vv, .ref an, .ref va])), (mby, .inl (y 0, 150, .inl fmb)), (va, .inl (y 0, 2, .inl fva))] (fun (r : Int32) (u : Nat × Nat × Nat × Int32 × (Nat → Int32)) => u.1 ≤ bl ∧ u.2.1 ≤ 150 ∧ u.2.2.1 ≤ 4 ∧ (r = 0 ∨ r = 1) ∧ (r = 1 → tk = 2 ∧ 0 ≤ V ∧ V ≤ 60 ∧ u.2.2.2.2 = upd fva 1 (nI V) ∧ u.1 = ks_S fmb bl e ∧ u.2.1 = ks_L fmb bl e ∧ u.2.2.1 = ks_K fmb bl e ∧ kz_N fmb bl e u.2.2.2.1) ∧ (r = 0 → kz_no tk 0 60 V ∧ u.2.2.2.2 = fva ∧ u.1 = ta ∧ u.2.1 = tl ∧ u.2.2.1 = tk ∧ u.2.2.2.1 = vv) ∧ (u.1 + u.2.1 ≤ bl)) (fun u => [(mo, .inr (11, [.ref to, .ref ke, .ref ik, .ref mrf, .long mab, .long mbl, .ref ha, .ref r0, .ref mbr, .ref mbp, .ref mby, .int (nI bl), .int (nI u.1), .int (nI u.2.1), .int (nI u.2.2.1), .int u.2.2.2.1, .ref an, .ref va])), (mby, .inl (y 0, 150, .inl fmb)), (va, .inl (y 0, 2, .inl u.2.2.2.2))]) 0 0 := by
  refine kw_Mi.of (cc := cX11_takes) (maxL := 4) (ret := (some .boolean)) (by decide) rfl ?_
  intro pZ eZ s mZ beZ meZ cZ A hE
  obtain ⟨hx, hb, hr, hml, hts, hown, hlocks, hin, hA, hP, hD, hK, hN⟩ := hE
  have hS : va_S A s.heap s.heap [] := va_S.rf
  have hl := lv_entry ([.ref mo, .int 1, .int 0, .int 60]) (n := 4) (Nat.le_of_ble_eq_true rfl)
  rw [lg_entry_eq]
  generalize (lg_sl ([.ref mo, .int 1, .int 0, .int 60]) ++ List.replicate (4 - (lg_sl ([.ref mo, .int 1, .int 0, .int 60])).length) Slot.unset).toArray = ls at hl ⊢
  have hl : lv_has ls 4 [(0, .ref mo), (1, .int 1), (2, .int 0), (3, .int 60)] := hl
  have fw1 := hts (.fieldLink RX11 228 "GleanDuskModel" "token" "I") (List.mem_of_getElem? (i := 1) rfl)
  have fw2 := hts (.fieldLink RX11 231 "GleanDuskModel" "value" "I") (List.mem_of_getElem? (i := 2) rfl)
  have fw3 := hts (.fieldLink RX11 45 "GleanDuskModel" "values" "[I") (List.mem_of_getElem? (i := 3) rfl)
  have iw11 : ∀ w ∈ wsX110, w ∈ wsX11_takes := fun _ h => List.mem_cons_of_mem _ (List.mem_append_right _ h)
  refine lv_aload_n hx hb dX11_takes_0 rfl (lv_at hl 0 rfl) ?_
  refine va_get (D := D) (ci := 11) (v := .int (nI tk)) (C := RX11) (T := TX11) (N := 18) hx hb hts iw11 hown hK hP 0 rfl rfl 14 (by decide) fw1 (fun _ h9 => h9) rfl dX11_takes_1 ?_
  refine lv_iconst (v := 2) hx hb dX11_takes_4 (by decide) ?_
  refine lv_icmp_ne (tgt := 23) hx hb dX11_takes_5 (by decide) (fun h1 => ?_) (fun h2 => ?_)
  · skip
    have h1 : ¬ tk = 2 := fun q9 => h1 ((nI_eq (a := tk) (b := 2) (by omega) (by omega)).mpr q9)
    refine lv_iconst (v := 0) hx hb dX11_takes_23 (by decide) ?_
    exact W.zret (v := 0) hx hb hr (by decide) (fun tZ ht hW => ⟨⟨0, (ta, tl, tk, vv, fva), rfl, ⟨by first | omega | (dsimp only; omega), by first | omega | (dsimp only; omega), by first | omega | (dsimp only; omega), Or.inl rfl, (fun h9 => absurd h9 (by decide)), (fun _ => ⟨kz_no_1 h1, rfl, rfl, rfl, rfl, rfl⟩), by first | omega | (dsimp only; omega)⟩, by rw [ht]; exact hP.sub [0, 1, 2] rfl, hD.sub [0, 1, 2] (by decide) rfl⟩, hS.F ht⟩) hS.2.2 dX11_takes_24
  · skip
    have h2 : tk = 2 := (nI_eq (a := tk) (b := 2) (by omega) (by omega)).mp h2
    obtain ⟨rfl, h3⟩ := hv h2
    have hP : va_P D vwCl [(mo, .inr (11, [.ref to, .ref ke, .ref ik, .ref mrf, .long mab, .long mbl, .ref ha, .ref r0, .ref mbr, .ref mbp, .ref mby, .int (nI bl), .int (nI ta), .int (nI tl), .int (nI tk), .int (nI V), .ref an, .ref va])), (mby, .inl (y 0, 150, .inl fmb)), (va, .inl (y 0, 2, .inl fva))] s.heap := hP
    have hD : va_D A [(mo, .inr (11, [.ref to, .ref ke, .ref ik, .ref mrf, .long mab, .long mbl, .ref ha, .ref r0, .ref mbr, .ref mbp, .ref mby, .int (nI bl), .int (nI ta), .int (nI tl), .int (nI tk), .int (nI V), .ref an, .ref va])), (mby, .inl (y 0, 150, .inl fmb)), (va, .inl (y 0, 2, .inl fva))] := hD
    refine lv_aload_n hx hb dX11_takes_8 rfl (lv_at hl 0 rfl) ?_
    refine va_get (D := D) (ci := 11) (v := .int (nI V)) (C := RX11) (T := TX11) (N := 18) hx hb hts iw11 hown hK hP 0 rfl rfl 15 (by decide) fw2 (fun _ h9 => h9) rfl dX11_takes_9 ?_
    refine lv_i2l (v := (nI V).toInt64) hx hb dX11_takes_12 (rfl) ?_
    refine lv_iload_n hx hb dX11_takes_13 rfl (lv_at hl 2 rfl) ?_
    refine lv_i2l (v := 0) hx hb dX11_takes_14 (by decide) ?_
    refine lv_iload_n hx hb dX11_takes_15 rfl (lv_at hl 3 rfl) ?_
    refine lv_i2l (v := 60) hx hb dX11_takes_16 (by decide) ?_
    have hs4 : kw_Split [(mo, .inr (11, [.ref to, .ref ke, .ref ik, .ref mrf, .long mab, .long mbl, .ref ha, .ref r0, .ref mbr, .ref mbp, .ref mby, .int (nI bl), .int (nI ta), .int (nI tl), .int (nI tk), .int (nI V), .ref an, .ref va])), (mby, .inl (y 0, 150, .inl fmb)), (va, .inl (y 0, 2, .inl fva))] [] [(mo, .inr (11, [.ref to, .ref ke, .ref ik, .ref mrf, .long mab, .long mbl, .ref ha, .ref r0, .ref mbr, .ref mbp, .ref mby, .int (nI bl), .int (nI ta), .int (nI tl), .int (nI tk), .int (nI V), .ref an, .ref va])), (mby, .inl (y 0, 150, .inl fmb)), (va, .inl (y 0, 2, .inl fva))] [] [0, 1, 2] := ⟨rfl, rfl, rfl, rfl, rfl, by decide⟩
    refine kw_go_i hs4 hP hD hS hA (va_runS (As := [.long ((nI V).toInt64), .long 0, .long 60]) (rest := []) ⟨hx, hb, hml, hown, hts⟩ (gr_in l D y (nI V) 0 60 (by omega) (by omega) _) (va_cwS 3 hts gX11_takes_X11_in rfl rfl rfl (by decide +kernel) ⟨Nat.le_of_ble_eq_true rfl, Nat.le_of_ble_eq_true rfl⟩) (kw_PreS hs4 hP hD hK hN) rfl rfl hl.1 rfl (lv_room (Nat.le_of_ble_eq_true rfl)) dX11_takes_17 ⟨Nat.le_of_ble_eq_true rfl, Nat.le_of_ble_eq_true rfl⟩) (fun r5 u6 H locs hq hP hD hS => ?_)
    rcases hq with ⟨j7, h8, h9, h10, rfl⟩ | ⟨h11, rfl⟩
    · skip
      have h10 : V = j7 := (nI_eq (a := V) (b := j7) (by omega) (by omega)).mp h10
      have hP : va_P D vwCl [(mo, .inr (11, [.ref to, .ref ke, .ref ik, .ref mrf, .long mab, .long mbl, .ref ha, .ref r0, .ref mbr, .ref mbp, .ref mby, .int (nI bl), .int (nI ta), .int (nI tl), .int (nI tk), .int (nI V), .ref an, .ref va])), (mby, .inl (y 0, 150, .inl fmb)), (va, .inl (y 0, 2, .inl fva))] H := hP
      have hD : va_D A [(mo, .inr (11, [.ref to, .ref ke, .ref ik, .ref mrf, .long mab, .long mbl, .ref ha, .ref r0, .ref mbr, .ref mbp, .ref mby, .int (nI bl), .int (nI ta), .int (nI tl), .int (nI tk), .int (nI V), .ref an, .ref va])), (mby, .inl (y 0, 150, .inl fmb)), (va, .inl (y 0, 2, .inl fva))] := hD
      refine lv_if_ne (tgt := 25) hx hb dX11_takes_20 (by decide) (fun _ => ?_) (fun h9 => absurd h9 (by decide))
      refine lv_aload_n hx hb dX11_takes_25 rfl (lv_at hl 0 rfl) ?_
      refine va_get (D := D) (ci := 11) (v := .ref va) (C := RX11) (T := TX11) (N := 18) hx hb hts iw11 hown hK hP 0 rfl rfl 17 (by decide) fw3 (fun _ h9 => h9) rfl dX11_takes_26 ?_
      refine lv_iload_n hx hb dX11_takes_29 rfl (lv_at hl 1 rfl) ?_
      refine lv_aload_n hx hb dX11_takes_30 rfl (lv_at hl 0 rfl) ?_
      refine va_get (D := D) (ci := 11) (v := .int (nI V)) (C := RX11) (T := TX11) (N := 18) hx hb hts iw11 hown hK hP 0 rfl rfl 15 (by decide) fw2 (fun _ h9 => h9) rfl dX11_takes_31 ?_
      refine va_iast hx hb hK hP hD hS 2 0 rfl rfl (by unfold vp_in; decide) dX11_takes_34 (fun H locs hP hD hS => ?_)
      rw [show ((1 : Int32)).toNatClampNeg = 1 from rfl] at hP hD
      have hP : va_P D vwCl [(mo, .inr (11, [.ref to, .ref ke, .ref ik, .ref mrf, .long mab, .long mbl, .ref ha, .ref r0, .ref mbr, .ref mbp, .ref mby, .int (nI bl), .int (nI ta), .int (nI tl), .int (nI tk), .int (nI V), .ref an, .ref va])), (mby, .inl (y 0, 150, .inl fmb)), (va, .inl (y 0, 2, .inl (upd fva 1 (nI V))))] H := hP
      have hD : va_D A [(mo, .inr (11, [.ref to, .ref ke, .ref ik, .ref mrf, .long mab, .long mbl, .ref ha, .ref r0, .ref mbr, .ref mbp, .ref mby, .int (nI bl), .int (nI ta), .int (nI tl), .int (nI tk), .int (nI V), .ref an, .ref va])), (mby, .inl (y 0, 150, .inl fmb)), (va, .inl (y 0, 2, .inl (upd fva 1 (nI V))))] := hD
      refine lv_aload_n hx hb dX11_takes_35 rfl (lv_at hl 0 rfl) ?_
      have hs12 : kw_Split [(mo, .inr (11, [.ref to, .ref ke, .ref ik, .ref mrf, .long mab, .long mbl, .ref ha, .ref r0, .ref mbr, .ref mbp, .ref mby, .int (nI bl), .int (nI ta), .int (nI tl), .int (nI tk), .int (nI V), .ref an, .ref va])), (mby, .inl (y 0, 150, .inl fmb)), (va, .inl (y 0, 2, .inl (upd fva 1 (nI V))))] [(mo, .inr (11, [.ref to, .ref ke, .ref ik, .ref mrf, .long mab, .long mbl, .ref ha, .ref r0, .ref mbr, .ref mbp, .ref mby, .int (nI bl), .int (nI ta), .int (nI tl), .int (nI tk), .int (nI V), .ref an, .ref va])), (mby, .inl (y 0, 150, .inl fmb))] [(va, .inl (y 0, 2, .inl (upd fva 1 (nI V))))] [0, 1] [2] := ⟨rfl, rfl, rfl, rfl, rfl, by decide⟩
      refine kw_go_v hs12 hP hD hS hA (va_runV (As := []) (rest := []) ⟨hx, hb, hml, hown, hts⟩ (gr_Mgo l D y mo to ke ik mrf ha r0 mbr mbp mby an va mab mbl bl ta tl tk (nI V) fmb e hbl he heb htk _) (cwV 0 hts gX11_takes_X11_goBehind rfl rfl rfl (by decide +kernel) ⟨Nat.le_of_ble_eq_true rfl, Nat.le_of_ble_eq_true rfl⟩) (kw_PreV (ci := 11) (q0 := 0) hs12 hP hD hK hN rfl rfl) rfl rfl hl.1 rfl (lv_room (Nat.le_of_ble_eq_true rfl)) dX11_takes_36 ⟨Nat.le_of_ble_eq_true rfl, Nat.le_of_ble_eq_true rfl⟩) (fun u14 H locs hq hP hD hS => ?_)
      obtain ⟨v15, rfl⟩ : ∃ z, z = u14 := ⟨_, rfl⟩
      try dsimp only at hq
      obtain ⟨h16, h17, h18, h19, h20⟩ := hq
      have hP : va_P D vwCl [(va, .inl (y 0, 2, .inl (upd fva 1 (nI V)))), (mo, .inr (11, [.ref to, .ref ke, .ref ik, .ref mrf, .long mab, .long mbl, .ref ha, .ref r0, .ref mbr, .ref mbp, .ref mby, .int (nI bl), .int (nI (ks_S fmb bl e)), .int (nI (ks_L fmb bl e)), .int (nI (ks_K fmb bl e)), .int v15, .ref an, .ref va])), (mby, .inl (y 0, 150, .inl fmb))] H := hP
      have hD : va_D A [(va, .inl (y 0, 2, .inl (upd fva 1 (nI V)))), (mo, .inr (11, [.ref to, .ref ke, .ref ik, .ref mrf, .long mab, .long mbl, .ref ha, .ref r0, .ref mbr, .ref mbp, .ref mby, .int (nI bl), .int (nI (ks_S fmb bl e)), .int (nI (ks_L fmb bl e)), .int (nI (ks_K fmb bl e)), .int v15, .ref an, .ref va])), (mby, .inl (y 0, 150, .inl fmb))] := hD
      refine lv_iconst (v := 1) hx hb dX11_takes_39 (by decide) ?_
      exact W.zret (v := 1) hx hb hr (by decide) (fun tZ ht hW => ⟨⟨1, (ks_S fmb bl e, ks_L fmb bl e, ks_K fmb bl e, v15, (upd fva 1 (nI V))), rfl, ⟨by first | omega | (dsimp only; omega), by first | omega | (dsimp only; omega), by first | omega | (dsimp only; omega), Or.inr rfl, (fun _ => ⟨h2, (by first | omega | (dsimp only; omega)), (by first | omega | (dsimp only; omega)), rfl, rfl, rfl, rfl, h20⟩), (fun h9 => absurd h9 (by decide)), by first | omega | (dsimp only; omega)⟩, by rw [ht]; exact hP.sub [1, 2, 0] rfl, hD.sub [1, 2, 0] (by decide) rfl⟩, hS.F ht⟩) hS.2.2 dX11_takes_40
    · skip
      have hP : va_P D vwCl [(mo, .inr (11, [.ref to, .ref ke, .ref ik, .ref mrf, .long mab, .long mbl, .ref ha, .ref r0, .ref mbr, .ref mbp, .ref mby, .int (nI bl), .int (nI ta), .int (nI tl), .int (nI tk), .int (nI V), .ref an, .ref va])), (mby, .inl (y 0, 150, .inl fmb)), (va, .inl (y 0, 2, .inl fva))] H := hP
      have hD : va_D A [(mo, .inr (11, [.ref to, .ref ke, .ref ik, .ref mrf, .long mab, .long mbl, .ref ha, .ref r0, .ref mbr, .ref mbp, .ref mby, .int (nI bl), .int (nI ta), .int (nI tl), .int (nI tk), .int (nI V), .ref an, .ref va])), (mby, .inl (y 0, 150, .inl fmb)), (va, .inl (y 0, 2, .inl fva))] := hD
      refine lv_if_ne (tgt := 25) hx hb dX11_takes_20 (by decide) (fun h9 => absurd h9 (by decide)) (fun _ => ?_)
      refine lv_iconst (v := 0) hx hb dX11_takes_23 (by decide) ?_
      exact W.zret (v := 0) hx hb hr (by decide) (fun tZ ht hW => ⟨⟨0, (ta, tl, tk, (nI V), fva), rfl, ⟨by first | omega | (dsimp only; omega), by first | omega | (dsimp only; omega), by first | omega | (dsimp only; omega), Or.inl rfl, (fun h9 => absurd h9 (by decide)), (fun _ => ⟨kz_no_2 h11, rfl, rfl, rfl, rfl, rfl⟩), by first | omega | (dsimp only; omega)⟩, by rw [ht]; exact hP.sub [0, 1, 2] rfl, hD.sub [0, 1, 2] (by decide) rfl⟩, hS.F ht⟩) hS.2.2 dX11_takes_24

set_option maxHeartbeats 4000000 in
set_option maxRecDepth 100000 in
theorem gr_MtW (l : Launch) (D : va_G) (y : Nat → ClassId) (mo : Nat) (to : Nat) (ke : Nat) (ik : Nat) (mrf : Nat) (ha : Nat) (r0 : Nat) (mbr : Nat) (mbp : Nat) (mby : Nat) (an : Nat) (va : Nat) (mab : Int64) (mbl : Int64) (bl : Nat) (ta : Nat) (tl : Nat) (tk : Nat) (vv : Int32) (fmb : Nat → Int32) (fva : Nat → Int32) (e : Nat) (V : Nat) (b : Nat) (hbl : bl ≤ 150) (he : ta + tl = e) (heb : e ≤ bl) (htk : tk ≤ 4) (hv : kz_V tk vv V) (hbb : b < 100) : kw_Mi l yX11_takes wsX11_takes ({ frames := 5, cells := 0, slots := 0, locals := 149 }) D y [.ref mo, .int 0, .int 1, .int (nI b)] [(mo, .inr (11, [.ref to, .ref ke, .ref ik, .ref mrf, .long mab, .long mbl, .ref ha, .ref r0, .ref mbr, .ref mbp, .ref mby, .int (nI bl), .int (nI ta), .int (nI tl), .int (nI tk), .int vv, .ref an, .ref va])), (mby, .inl (y 0, 150, .inl fmb)), (va, .inl (y 0, 2, .inl fva))] (fun (r : Int32) (u : Nat × Nat × Nat × Int32 × (Nat → Int32)) => u.1 ≤ bl ∧ u.2.1 ≤ 150 ∧ u.2.2.1 ≤ 4 ∧ (r = 0 ∨ r = 1) ∧ (r = 1 → tk = 2 ∧ 1 ≤ V ∧ V ≤ b ∧ u.2.2.2.2 = upd fva 0 (nI V) ∧ u.1 = ks_S fmb bl e ∧ u.2.1 = ks_L fmb bl e ∧ u.2.2.1 = ks_K fmb bl e ∧ kz_N fmb bl e u.2.2.2.1) ∧ (r = 0 → kz_no tk 1 b V ∧ u.2.2.2.2 = fva ∧ u.1 = ta ∧ u.2.1 = tl ∧ u.2.2.1 = tk ∧ u.2.2.2.1 = vv) ∧ (u.1 + u.2.1 ≤ bl)) (fun u => [(mo, .inr (11, [.ref to, .ref ke, .ref ik, .ref mrf, .long mab, .long mbl, .ref ha, .ref r0, .ref mbr, .ref mbp, .ref mby, .int (nI bl), .int (nI u.1), .int (nI u.2.1), .int (nI u.2.2.1), .int u.2.2.2.1, .ref an, .ref va])), (mby, .inl (y 0, 150, .inl fmb)), (va, .inl (y 0, 2, .inl u.2.2.2.2))]) 0 0 := by
  refine kw_Mi.of (cc := cX11_takes) (maxL := 4) (ret := (some .boolean)) (by decide) rfl ?_
  intro pZ eZ s mZ beZ meZ cZ A hE
  obtain ⟨hx, hb, hr, hml, hts, hown, hlocks, hin, hA, hP, hD, hK, hN⟩ := hE
  have hS : va_S A s.heap s.heap [] := va_S.rf
  have hl := lv_entry ([.ref mo, .int 0, .int 1, .int (nI b)]) (n := 4) (Nat.le_of_ble_eq_true rfl)
  rw [lg_entry_eq]
  generalize (lg_sl ([.ref mo, .int 0, .int 1, .int (nI b)]) ++ List.replicate (4 - (lg_sl ([.ref mo, .int 0, .int 1, .int (nI b)])).length) Slot.unset).toArray = ls at hl ⊢
  have hl : lv_has ls 4 [(0, .ref mo), (1, .int 0), (2, .int 1), (3, .int (nI b))] := hl
  have fw1 := hts (.fieldLink RX11 228 "GleanDuskModel" "token" "I") (List.mem_of_getElem? (i := 1) rfl)
  have fw2 := hts (.fieldLink RX11 231 "GleanDuskModel" "value" "I") (List.mem_of_getElem? (i := 2) rfl)
  have fw3 := hts (.fieldLink RX11 45 "GleanDuskModel" "values" "[I") (List.mem_of_getElem? (i := 3) rfl)
  have iw11 : ∀ w ∈ wsX110, w ∈ wsX11_takes := fun _ h => List.mem_cons_of_mem _ (List.mem_append_right _ h)
  refine lv_aload_n hx hb dX11_takes_0 rfl (lv_at hl 0 rfl) ?_
  refine va_get (D := D) (ci := 11) (v := .int (nI tk)) (C := RX11) (T := TX11) (N := 18) hx hb hts iw11 hown hK hP 0 rfl rfl 14 (by decide) fw1 (fun _ h9 => h9) rfl dX11_takes_1 ?_
  refine lv_iconst (v := 2) hx hb dX11_takes_4 (by decide) ?_
  refine lv_icmp_ne (tgt := 23) hx hb dX11_takes_5 (by decide) (fun h1 => ?_) (fun h2 => ?_)
  · skip
    have h1 : ¬ tk = 2 := fun q9 => h1 ((nI_eq (a := tk) (b := 2) (by omega) (by omega)).mpr q9)
    refine lv_iconst (v := 0) hx hb dX11_takes_23 (by decide) ?_
    exact W.zret (v := 0) hx hb hr (by decide) (fun tZ ht hW => ⟨⟨0, (ta, tl, tk, vv, fva), rfl, ⟨by first | omega | (dsimp only; omega), by first | omega | (dsimp only; omega), by first | omega | (dsimp only; omega), Or.inl rfl, (fun h9 => absurd h9 (by decide)), (fun _ => ⟨kz_no_1 h1, rfl, rfl, rfl, rfl, rfl⟩), by first | omega | (dsimp only; omega)⟩, by rw [ht]; exact hP.sub [0, 1, 2] rfl, hD.sub [0, 1, 2] (by decide) rfl⟩, hS.F ht⟩) hS.2.2 dX11_takes_24
  · skip
    have h2 : tk = 2 := (nI_eq (a := tk) (b := 2) (by omega) (by omega)).mp h2
    obtain ⟨rfl, h3⟩ := hv h2
    have hP : va_P D vwCl [(mo, .inr (11, [.ref to, .ref ke, .ref ik, .ref mrf, .long mab, .long mbl, .ref ha, .ref r0, .ref mbr, .ref mbp, .ref mby, .int (nI bl), .int (nI ta), .int (nI tl), .int (nI tk), .int (nI V), .ref an, .ref va])), (mby, .inl (y 0, 150, .inl fmb)), (va, .inl (y 0, 2, .inl fva))] s.heap := hP
    have hD : va_D A [(mo, .inr (11, [.ref to, .ref ke, .ref ik, .ref mrf, .long mab, .long mbl, .ref ha, .ref r0, .ref mbr, .ref mbp, .ref mby, .int (nI bl), .int (nI ta), .int (nI tl), .int (nI tk), .int (nI V), .ref an, .ref va])), (mby, .inl (y 0, 150, .inl fmb)), (va, .inl (y 0, 2, .inl fva))] := hD
    refine lv_aload_n hx hb dX11_takes_8 rfl (lv_at hl 0 rfl) ?_
    refine va_get (D := D) (ci := 11) (v := .int (nI V)) (C := RX11) (T := TX11) (N := 18) hx hb hts iw11 hown hK hP 0 rfl rfl 15 (by decide) fw2 (fun _ h9 => h9) rfl dX11_takes_9 ?_
    refine lv_i2l (v := (nI V).toInt64) hx hb dX11_takes_12 (rfl) ?_
    refine lv_iload_n hx hb dX11_takes_13 rfl (lv_at hl 2 rfl) ?_
    refine lv_i2l (v := 1) hx hb dX11_takes_14 (by decide) ?_
    refine lv_iload_n hx hb dX11_takes_15 rfl (lv_at hl 3 rfl) ?_
    refine lv_i2l (v := (nI b).toInt64) hx hb dX11_takes_16 (rfl) ?_
    have hs4 : kw_Split [(mo, .inr (11, [.ref to, .ref ke, .ref ik, .ref mrf, .long mab, .long mbl, .ref ha, .ref r0, .ref mbr, .ref mbp, .ref mby, .int (nI bl), .int (nI ta), .int (nI tl), .int (nI tk), .int (nI V), .ref an, .ref va])), (mby, .inl (y 0, 150, .inl fmb)), (va, .inl (y 0, 2, .inl fva))] [] [(mo, .inr (11, [.ref to, .ref ke, .ref ik, .ref mrf, .long mab, .long mbl, .ref ha, .ref r0, .ref mbr, .ref mbp, .ref mby, .int (nI bl), .int (nI ta), .int (nI tl), .int (nI tk), .int (nI V), .ref an, .ref va])), (mby, .inl (y 0, 150, .inl fmb)), (va, .inl (y 0, 2, .inl fva))] [] [0, 1, 2] := ⟨rfl, rfl, rfl, rfl, rfl, by decide⟩
    refine kw_go_i hs4 hP hD hS hA (va_runS (As := [.long ((nI V).toInt64), .long 1, .long ((nI b).toInt64)]) (rest := []) ⟨hx, hb, hml, hown, hts⟩ (gr_MinW l D y (nI V) 1 b (by omega) (by omega) _) (va_cwS 3 hts gX11_takes_X11_in rfl rfl rfl (by decide +kernel) ⟨Nat.le_of_ble_eq_true rfl, Nat.le_of_ble_eq_true rfl⟩) (kw_PreS hs4 hP hD hK hN) rfl rfl hl.1 rfl (lv_room (Nat.le_of_ble_eq_true rfl)) dX11_takes_17 ⟨Nat.le_of_ble_eq_true rfl, Nat.le_of_ble_eq_true rfl⟩) (fun r5 u6 H locs hq hP hD hS => ?_)
    rcases hq with ⟨j7, h8, h9, h10, rfl⟩ | ⟨h11, rfl⟩
    · skip
      have h10 : V = j7 := (nI_eq (a := V) (b := j7) (by omega) (by omega)).mp h10
      have hP : va_P D vwCl [(mo, .inr (11, [.ref to, .ref ke, .ref ik, .ref mrf, .long mab, .long mbl, .ref ha, .ref r0, .ref mbr, .ref mbp, .ref mby, .int (nI bl), .int (nI ta), .int (nI tl), .int (nI tk), .int (nI V), .ref an, .ref va])), (mby, .inl (y 0, 150, .inl fmb)), (va, .inl (y 0, 2, .inl fva))] H := hP
      have hD : va_D A [(mo, .inr (11, [.ref to, .ref ke, .ref ik, .ref mrf, .long mab, .long mbl, .ref ha, .ref r0, .ref mbr, .ref mbp, .ref mby, .int (nI bl), .int (nI ta), .int (nI tl), .int (nI tk), .int (nI V), .ref an, .ref va])), (mby, .inl (y 0, 150, .inl fmb)), (va, .inl (y 0, 2, .inl fva))] := hD
      refine lv_if_ne (tgt := 25) hx hb dX11_takes_20 (by decide) (fun _ => ?_) (fun h9 => absurd h9 (by decide))
      refine lv_aload_n hx hb dX11_takes_25 rfl (lv_at hl 0 rfl) ?_
      refine va_get (D := D) (ci := 11) (v := .ref va) (C := RX11) (T := TX11) (N := 18) hx hb hts iw11 hown hK hP 0 rfl rfl 17 (by decide) fw3 (fun _ h9 => h9) rfl dX11_takes_26 ?_
      refine lv_iload_n hx hb dX11_takes_29 rfl (lv_at hl 1 rfl) ?_
      refine lv_aload_n hx hb dX11_takes_30 rfl (lv_at hl 0 rfl) ?_
      refine va_get (D := D) (ci := 11) (v := .int (nI V)) (C := RX11) (T := TX11) (N := 18) hx hb hts iw11 hown hK hP 0 rfl rfl 15 (by decide) fw2 (fun _ h9 => h9) rfl dX11_takes_31 ?_
      refine va_iast hx hb hK hP hD hS 2 0 rfl rfl (by unfold vp_in; decide) dX11_takes_34 (fun H locs hP hD hS => ?_)
      rw [show ((0 : Int32)).toNatClampNeg = 0 from rfl] at hP hD
      have hP : va_P D vwCl [(mo, .inr (11, [.ref to, .ref ke, .ref ik, .ref mrf, .long mab, .long mbl, .ref ha, .ref r0, .ref mbr, .ref mbp, .ref mby, .int (nI bl), .int (nI ta), .int (nI tl), .int (nI tk), .int (nI V), .ref an, .ref va])), (mby, .inl (y 0, 150, .inl fmb)), (va, .inl (y 0, 2, .inl (upd fva 0 (nI V))))] H := hP
      have hD : va_D A [(mo, .inr (11, [.ref to, .ref ke, .ref ik, .ref mrf, .long mab, .long mbl, .ref ha, .ref r0, .ref mbr, .ref mbp, .ref mby, .int (nI bl), .int (nI ta), .int (nI tl), .int (nI tk), .int (nI V), .ref an, .ref va])), (mby, .inl (y 0, 150, .inl fmb)), (va, .inl (y 0, 2, .inl (upd fva 0 (nI V))))] := hD
      refine lv_aload_n hx hb dX11_takes_35 rfl (lv_at hl 0 rfl) ?_
      have hs12 : kw_Split [(mo, .inr (11, [.ref to, .ref ke, .ref ik, .ref mrf, .long mab, .long mbl, .ref ha, .ref r0, .ref mbr, .ref mbp, .ref mby, .int (nI bl), .int (nI ta), .int (nI tl), .int (nI tk), .int (nI V), .ref an, .ref va])), (mby, .inl (y 0, 150, .inl fmb)), (va, .inl (y 0, 2, .inl (upd fva 0 (nI V))))] [(mo, .inr (11, [.ref to, .ref ke, .ref ik, .ref mrf, .long mab, .long mbl, .ref ha, .ref r0, .ref mbr, .ref mbp, .ref mby, .int (nI bl), .int (nI ta), .int (nI tl), .int (nI tk), .int (nI V), .ref an, .ref va])), (mby, .inl (y 0, 150, .inl fmb))] [(va, .inl (y 0, 2, .inl (upd fva 0 (nI V))))] [0, 1] [2] := ⟨rfl, rfl, rfl, rfl, rfl, by decide⟩
      refine kw_go_v hs12 hP hD hS hA (va_runV (As := []) (rest := []) ⟨hx, hb, hml, hown, hts⟩ (gr_Mgo l D y mo to ke ik mrf ha r0 mbr mbp mby an va mab mbl bl ta tl tk (nI V) fmb e hbl he heb htk _) (cwV 0 hts gX11_takes_X11_goBehind rfl rfl rfl (by decide +kernel) ⟨Nat.le_of_ble_eq_true rfl, Nat.le_of_ble_eq_true rfl⟩) (kw_PreV (ci := 11) (q0 := 0) hs12 hP hD hK hN rfl rfl) rfl rfl hl.1 rfl (lv_room (Nat.le_of_ble_eq_true rfl)) dX11_takes_36 ⟨Nat.le_of_ble_eq_true rfl, Nat.le_of_ble_eq_true rfl⟩) (fun u14 H locs hq hP hD hS => ?_)
      obtain ⟨v15, rfl⟩ : ∃ z, z = u14 := ⟨_, rfl⟩
      try dsimp only at hq
      obtain ⟨h16, h17, h18, h19, h20⟩ := hq
      have hP : va_P D vwCl [(va, .inl (y 0, 2, .inl (upd fva 0 (nI V)))), (mo, .inr (11, [.ref to, .ref ke, .ref ik, .ref mrf, .long mab, .long mbl, .ref ha, .ref r0, .ref mbr, .ref mbp, .ref mby, .int (nI bl), .int (nI (ks_S fmb bl e)), .int (nI (ks_L fmb bl e)), .int (nI (ks_K fmb bl e)), .int v15, .ref an, .ref va])), (mby, .inl (y 0, 150, .inl fmb))] H := hP
      have hD : va_D A [(va, .inl (y 0, 2, .inl (upd fva 0 (nI V)))), (mo, .inr (11, [.ref to, .ref ke, .ref ik, .ref mrf, .long mab, .long mbl, .ref ha, .ref r0, .ref mbr, .ref mbp, .ref mby, .int (nI bl), .int (nI (ks_S fmb bl e)), .int (nI (ks_L fmb bl e)), .int (nI (ks_K fmb bl e)), .int v15, .ref an, .ref va])), (mby, .inl (y 0, 150, .inl fmb))] := hD
      refine lv_iconst (v := 1) hx hb dX11_takes_39 (by decide) ?_
      exact W.zret (v := 1) hx hb hr (by decide) (fun tZ ht hW => ⟨⟨1, (ks_S fmb bl e, ks_L fmb bl e, ks_K fmb bl e, v15, (upd fva 0 (nI V))), rfl, ⟨by first | omega | (dsimp only; omega), by first | omega | (dsimp only; omega), by first | omega | (dsimp only; omega), Or.inr rfl, (fun _ => ⟨h2, (by first | omega | (dsimp only; omega)), (by first | omega | (dsimp only; omega)), rfl, rfl, rfl, rfl, h20⟩), (fun h9 => absurd h9 (by decide)), by first | omega | (dsimp only; omega)⟩, by rw [ht]; exact hP.sub [1, 2, 0] rfl, hD.sub [1, 2, 0] (by decide) rfl⟩, hS.F ht⟩) hS.2.2 dX11_takes_40
    · skip
      have hP : va_P D vwCl [(mo, .inr (11, [.ref to, .ref ke, .ref ik, .ref mrf, .long mab, .long mbl, .ref ha, .ref r0, .ref mbr, .ref mbp, .ref mby, .int (nI bl), .int (nI ta), .int (nI tl), .int (nI tk), .int (nI V), .ref an, .ref va])), (mby, .inl (y 0, 150, .inl fmb)), (va, .inl (y 0, 2, .inl fva))] H := hP
      have hD : va_D A [(mo, .inr (11, [.ref to, .ref ke, .ref ik, .ref mrf, .long mab, .long mbl, .ref ha, .ref r0, .ref mbr, .ref mbp, .ref mby, .int (nI bl), .int (nI ta), .int (nI tl), .int (nI tk), .int (nI V), .ref an, .ref va])), (mby, .inl (y 0, 150, .inl fmb)), (va, .inl (y 0, 2, .inl fva))] := hD
      refine lv_if_ne (tgt := 25) hx hb dX11_takes_20 (by decide) (fun h9 => absurd h9 (by decide)) (fun _ => ?_)
      refine lv_iconst (v := 0) hx hb dX11_takes_23 (by decide) ?_
      exact W.zret (v := 0) hx hb hr (by decide) (fun tZ ht hW => ⟨⟨0, (ta, tl, tk, (nI V), fva), rfl, ⟨by first | omega | (dsimp only; omega), by first | omega | (dsimp only; omega), by first | omega | (dsimp only; omega), Or.inl rfl, (fun h9 => absurd h9 (by decide)), (fun _ => ⟨kz_no_2 h11, rfl, rfl, rfl, rfl, rfl⟩), by first | omega | (dsimp only; omega)⟩, by rw [ht]; exact hP.sub [0, 1, 2] rfl, hD.sub [0, 1, 2] (by decide) rfl⟩, hS.F ht⟩) hS.2.2 dX11_takes_24

set_option maxHeartbeats 4000000 in
set_option maxRecDepth 100000 in
theorem gr_MtF (l : Launch) (D : va_G) (y : Nat → ClassId) (mo : Nat) (to : Nat) (ke : Nat) (ik : Nat) (mrf : Nat) (ha : Nat) (r0 : Nat) (mbr : Nat) (mbp : Nat) (mby : Nat) (an : Nat) (va : Nat) (mab : Int64) (mbl : Int64) (bl : Nat) (ta : Nat) (tl : Nat) (tk : Nat) (vv : Int32) (fmb : Nat → Int32) (fva : Nat → Int32) (e : Nat) (V : Nat) (n : Nat) (hbl : bl ≤ 150) (he : ta + tl = e) (heb : e ≤ bl) (htk : tk ≤ 4) (hv : kz_V tk vv V) (hnn : n < 1000) : kw_Mi l yX11_takes wsX11_takes ({ frames := 5, cells := 0, slots := 0, locals := 149 }) D y [.ref mo, .int 0, .int 0, .int ((nI n) - 1)] [(mo, .inr (11, [.ref to, .ref ke, .ref ik, .ref mrf, .long mab, .long mbl, .ref ha, .ref r0, .ref mbr, .ref mbp, .ref mby, .int (nI bl), .int (nI ta), .int (nI tl), .int (nI tk), .int vv, .ref an, .ref va])), (mby, .inl (y 0, 150, .inl fmb)), (va, .inl (y 0, 2, .inl fva))] (fun (r : Int32) (u : Nat × Nat × Nat × Int32 × (Nat → Int32)) => u.1 ≤ bl ∧ u.2.1 ≤ 150 ∧ u.2.2.1 ≤ 4 ∧ (r = 0 ∨ r = 1) ∧ (r = 1 → tk = 2 ∧ V < n ∧ u.2.2.2.2 = upd fva 0 (nI V) ∧ u.1 = ks_S fmb bl e ∧ u.2.1 = ks_L fmb bl e ∧ u.2.2.1 = ks_K fmb bl e ∧ kz_N fmb bl e u.2.2.2.1) ∧ (r = 0 → kz_nF tk n V ∧ u.2.2.2.2 = fva ∧ u.1 = ta ∧ u.2.1 = tl ∧ u.2.2.1 = tk ∧ u.2.2.2.1 = vv) ∧ (u.1 + u.2.1 ≤ bl)) (fun u => [(mo, .inr (11, [.ref to, .ref ke, .ref ik, .ref mrf, .long mab, .long mbl, .ref ha, .ref r0, .ref mbr, .ref mbp, .ref mby, .int (nI bl), .int (nI u.1), .int (nI u.2.1), .int (nI u.2.2.1), .int u.2.2.2.1, .ref an, .ref va])), (mby, .inl (y 0, 150, .inl fmb)), (va, .inl (y 0, 2, .inl u.2.2.2.2))]) 0 0 := by
  refine kw_Mi.of (cc := cX11_takes) (maxL := 4) (ret := (some .boolean)) (by decide) rfl ?_
  intro pZ eZ s mZ beZ meZ cZ A hE
  obtain ⟨hx, hb, hr, hml, hts, hown, hlocks, hin, hA, hP, hD, hK, hN⟩ := hE
  have hS : va_S A s.heap s.heap [] := va_S.rf
  have hl := lv_entry ([.ref mo, .int 0, .int 0, .int ((nI n) - 1)]) (n := 4) (Nat.le_of_ble_eq_true rfl)
  rw [lg_entry_eq]
  generalize (lg_sl ([.ref mo, .int 0, .int 0, .int ((nI n) - 1)]) ++ List.replicate (4 - (lg_sl ([.ref mo, .int 0, .int 0, .int ((nI n) - 1)])).length) Slot.unset).toArray = ls at hl ⊢
  have hl : lv_has ls 4 [(0, .ref mo), (1, .int 0), (2, .int 0), (3, .int ((nI n) - 1))] := hl
  have fw1 := hts (.fieldLink RX11 228 "GleanDuskModel" "token" "I") (List.mem_of_getElem? (i := 1) rfl)
  have fw2 := hts (.fieldLink RX11 231 "GleanDuskModel" "value" "I") (List.mem_of_getElem? (i := 2) rfl)
  have fw3 := hts (.fieldLink RX11 45 "GleanDuskModel" "values" "[I") (List.mem_of_getElem? (i := 3) rfl)
  have iw11 : ∀ w ∈ wsX110, w ∈ wsX11_takes := fun _ h => List.mem_cons_of_mem _ (List.mem_append_right _ h)
  refine lv_aload_n hx hb dX11_takes_0 rfl (lv_at hl 0 rfl) ?_
  refine va_get (D := D) (ci := 11) (v := .int (nI tk)) (C := RX11) (T := TX11) (N := 18) hx hb hts iw11 hown hK hP 0 rfl rfl 14 (by decide) fw1 (fun _ h9 => h9) rfl dX11_takes_1 ?_
  refine lv_iconst (v := 2) hx hb dX11_takes_4 (by decide) ?_
  refine lv_icmp_ne (tgt := 23) hx hb dX11_takes_5 (by decide) (fun h1 => ?_) (fun h2 => ?_)
  · skip
    have h1 : ¬ tk = 2 := fun q9 => h1 ((nI_eq (a := tk) (b := 2) (by omega) (by omega)).mpr q9)
    refine lv_iconst (v := 0) hx hb dX11_takes_23 (by decide) ?_
    exact W.zret (v := 0) hx hb hr (by decide) (fun tZ ht hW => ⟨⟨0, (ta, tl, tk, vv, fva), rfl, ⟨by first | omega | (dsimp only; omega), by first | omega | (dsimp only; omega), by first | omega | (dsimp only; omega), Or.inl rfl, (fun h9 => absurd h9 (by decide)), (fun _ => ⟨kz_nF_1 h1, rfl, rfl, rfl, rfl, rfl⟩), by first | omega | (dsimp only; omega)⟩, by rw [ht]; exact hP.sub [0, 1, 2] rfl, hD.sub [0, 1, 2] (by decide) rfl⟩, hS.F ht⟩) hS.2.2 dX11_takes_24
  · skip
    have h2 : tk = 2 := (nI_eq (a := tk) (b := 2) (by omega) (by omega)).mp h2
    obtain ⟨rfl, h3⟩ := hv h2
    have hP : va_P D vwCl [(mo, .inr (11, [.ref to, .ref ke, .ref ik, .ref mrf, .long mab, .long mbl, .ref ha, .ref r0, .ref mbr, .ref mbp, .ref mby, .int (nI bl), .int (nI ta), .int (nI tl), .int (nI tk), .int (nI V), .ref an, .ref va])), (mby, .inl (y 0, 150, .inl fmb)), (va, .inl (y 0, 2, .inl fva))] s.heap := hP
    have hD : va_D A [(mo, .inr (11, [.ref to, .ref ke, .ref ik, .ref mrf, .long mab, .long mbl, .ref ha, .ref r0, .ref mbr, .ref mbp, .ref mby, .int (nI bl), .int (nI ta), .int (nI tl), .int (nI tk), .int (nI V), .ref an, .ref va])), (mby, .inl (y 0, 150, .inl fmb)), (va, .inl (y 0, 2, .inl fva))] := hD
    refine lv_aload_n hx hb dX11_takes_8 rfl (lv_at hl 0 rfl) ?_
    refine va_get (D := D) (ci := 11) (v := .int (nI V)) (C := RX11) (T := TX11) (N := 18) hx hb hts iw11 hown hK hP 0 rfl rfl 15 (by decide) fw2 (fun _ h9 => h9) rfl dX11_takes_9 ?_
    refine lv_i2l (v := (nI V).toInt64) hx hb dX11_takes_12 (rfl) ?_
    refine lv_iload_n hx hb dX11_takes_13 rfl (lv_at hl 2 rfl) ?_
    refine lv_i2l (v := 0) hx hb dX11_takes_14 (by decide) ?_
    refine lv_iload_n hx hb dX11_takes_15 rfl (lv_at hl 3 rfl) ?_
    refine lv_i2l (v := ((nI n) - 1).toInt64) hx hb dX11_takes_16 (rfl) ?_
    have hs4 : kw_Split [(mo, .inr (11, [.ref to, .ref ke, .ref ik, .ref mrf, .long mab, .long mbl, .ref ha, .ref r0, .ref mbr, .ref mbp, .ref mby, .int (nI bl), .int (nI ta), .int (nI tl), .int (nI tk), .int (nI V), .ref an, .ref va])), (mby, .inl (y 0, 150, .inl fmb)), (va, .inl (y 0, 2, .inl fva))] [] [(mo, .inr (11, [.ref to, .ref ke, .ref ik, .ref mrf, .long mab, .long mbl, .ref ha, .ref r0, .ref mbr, .ref mbp, .ref mby, .int (nI bl), .int (nI ta), .int (nI tl), .int (nI tk), .int (nI V), .ref an, .ref va])), (mby, .inl (y 0, 150, .inl fmb)), (va, .inl (y 0, 2, .inl fva))] [] [0, 1, 2] := ⟨rfl, rfl, rfl, rfl, rfl, by decide⟩
    refine kw_go_i hs4 hP hD hS hA (va_runS (As := [.long ((nI V).toInt64), .long 0, .long (((nI n) - 1).toInt64)]) (rest := []) ⟨hx, hb, hml, hown, hts⟩ (gr_inF l D y (nI V) n hnn _) (va_cwS 3 hts gX11_takes_X11_in rfl rfl rfl (by decide +kernel) ⟨Nat.le_of_ble_eq_true rfl, Nat.le_of_ble_eq_true rfl⟩) (kw_PreS hs4 hP hD hK hN) rfl rfl hl.1 rfl (lv_room (Nat.le_of_ble_eq_true rfl)) dX11_takes_17 ⟨Nat.le_of_ble_eq_true rfl, Nat.le_of_ble_eq_true rfl⟩) (fun r5 u6 H locs hq hP hD hS => ?_)
    rcases hq with ⟨j7, h8, h9, rfl⟩ | ⟨h10, rfl⟩
    · skip
      have h9 : V = j7 := (nI_eq (a := V) (b := j7) (by omega) (by omega)).mp h9
      have hP : va_P D vwCl [(mo, .inr (11, [.ref to, .ref ke, .ref ik, .ref mrf, .long mab, .long mbl, .ref ha, .ref r0, .ref mbr, .ref mbp, .ref mby, .int (nI bl), .int (nI ta), .int (nI tl), .int (nI tk), .int (nI V), .ref an, .ref va])), (mby, .inl (y 0, 150, .inl fmb)), (va, .inl (y 0, 2, .inl fva))] H := hP
      have hD : va_D A [(mo, .inr (11, [.ref to, .ref ke, .ref ik, .ref mrf, .long mab, .long mbl, .ref ha, .ref r0, .ref mbr, .ref mbp, .ref mby, .int (nI bl), .int (nI ta), .int (nI tl), .int (nI tk), .int (nI V), .ref an, .ref va])), (mby, .inl (y 0, 150, .inl fmb)), (va, .inl (y 0, 2, .inl fva))] := hD
      refine lv_if_ne (tgt := 25) hx hb dX11_takes_20 (by decide) (fun _ => ?_) (fun h9 => absurd h9 (by decide))
      refine lv_aload_n hx hb dX11_takes_25 rfl (lv_at hl 0 rfl) ?_
      refine va_get (D := D) (ci := 11) (v := .ref va) (C := RX11) (T := TX11) (N := 18) hx hb hts iw11 hown hK hP 0 rfl rfl 17 (by decide) fw3 (fun _ h9 => h9) rfl dX11_takes_26 ?_
      refine lv_iload_n hx hb dX11_takes_29 rfl (lv_at hl 1 rfl) ?_
      refine lv_aload_n hx hb dX11_takes_30 rfl (lv_at hl 0 rfl) ?_
      refine va_get (D := D) (ci := 11) (v := .int (nI V)) (C := RX11) (T := TX11) (N := 18) hx hb hts iw11 hown hK hP 0 rfl rfl 15 (by decide) fw2 (fun _ h9 => h9) rfl dX11_takes_31 ?_
      refine va_iast hx hb hK hP hD hS 2 0 rfl rfl (by unfold vp_in; decide) dX11_takes_34 (fun H locs hP hD hS => ?_)
      rw [show ((0 : Int32)).toNatClampNeg = 0 from rfl] at hP hD
      have hP : va_P D vwCl [(mo, .inr (11, [.ref to, .ref ke, .ref ik, .ref mrf, .long mab, .long mbl, .ref ha, .ref r0, .ref mbr, .ref mbp, .ref mby, .int (nI bl), .int (nI ta), .int (nI tl), .int (nI tk), .int (nI V), .ref an, .ref va])), (mby, .inl (y 0, 150, .inl fmb)), (va, .inl (y 0, 2, .inl (upd fva 0 (nI V))))] H := hP
      have hD : va_D A [(mo, .inr (11, [.ref to, .ref ke, .ref ik, .ref mrf, .long mab, .long mbl, .ref ha, .ref r0, .ref mbr, .ref mbp, .ref mby, .int (nI bl), .int (nI ta), .int (nI tl), .int (nI tk), .int (nI V), .ref an, .ref va])), (mby, .inl (y 0, 150, .inl fmb)), (va, .inl (y 0, 2, .inl (upd fva 0 (nI V))))] := hD
      refine lv_aload_n hx hb dX11_takes_35 rfl (lv_at hl 0 rfl) ?_
      have hs11 : kw_Split [(mo, .inr (11, [.ref to, .ref ke, .ref ik, .ref mrf, .long mab, .long mbl, .ref ha, .ref r0, .ref mbr, .ref mbp, .ref mby, .int (nI bl), .int (nI ta), .int (nI tl), .int (nI tk), .int (nI V), .ref an, .ref va])), (mby, .inl (y 0, 150, .inl fmb)), (va, .inl (y 0, 2, .inl (upd fva 0 (nI V))))] [(mo, .inr (11, [.ref to, .ref ke, .ref ik, .ref mrf, .long mab, .long mbl, .ref ha, .ref r0, .ref mbr, .ref mbp, .ref mby, .int (nI bl), .int (nI ta), .int (nI tl), .int (nI tk), .int (nI V), .ref an, .ref va])), (mby, .inl (y 0, 150, .inl fmb))] [(va, .inl (y 0, 2, .inl (upd fva 0 (nI V))))] [0, 1] [2] := ⟨rfl, rfl, rfl, rfl, rfl, by decide⟩
      refine kw_go_v hs11 hP hD hS hA (va_runV (As := []) (rest := []) ⟨hx, hb, hml, hown, hts⟩ (gr_Mgo l D y mo to ke ik mrf ha r0 mbr mbp mby an va mab mbl bl ta tl tk (nI V) fmb e hbl he heb htk _) (cwV 0 hts gX11_takes_X11_goBehind rfl rfl rfl (by decide +kernel) ⟨Nat.le_of_ble_eq_true rfl, Nat.le_of_ble_eq_true rfl⟩) (kw_PreV (ci := 11) (q0 := 0) hs11 hP hD hK hN rfl rfl) rfl rfl hl.1 rfl (lv_room (Nat.le_of_ble_eq_true rfl)) dX11_takes_36 ⟨Nat.le_of_ble_eq_true rfl, Nat.le_of_ble_eq_true rfl⟩) (fun u13 H locs hq hP hD hS => ?_)
      obtain ⟨v14, rfl⟩ : ∃ z, z = u13 := ⟨_, rfl⟩
      try dsimp only at hq
      obtain ⟨h15, h16, h17, h18, h19⟩ := hq
      have hP : va_P D vwCl [(va, .inl (y 0, 2, .inl (upd fva 0 (nI V)))), (mo, .inr (11, [.ref to, .ref ke, .ref ik, .ref mrf, .long mab, .long mbl, .ref ha, .ref r0, .ref mbr, .ref mbp, .ref mby, .int (nI bl), .int (nI (ks_S fmb bl e)), .int (nI (ks_L fmb bl e)), .int (nI (ks_K fmb bl e)), .int v14, .ref an, .ref va])), (mby, .inl (y 0, 150, .inl fmb))] H := hP
      have hD : va_D A [(va, .inl (y 0, 2, .inl (upd fva 0 (nI V)))), (mo, .inr (11, [.ref to, .ref ke, .ref ik, .ref mrf, .long mab, .long mbl, .ref ha, .ref r0, .ref mbr, .ref mbp, .ref mby, .int (nI bl), .int (nI (ks_S fmb bl e)), .int (nI (ks_L fmb bl e)), .int (nI (ks_K fmb bl e)), .int v14, .ref an, .ref va])), (mby, .inl (y 0, 150, .inl fmb))] := hD
      refine lv_iconst (v := 1) hx hb dX11_takes_39 (by decide) ?_
      exact W.zret (v := 1) hx hb hr (by decide) (fun tZ ht hW => ⟨⟨1, (ks_S fmb bl e, ks_L fmb bl e, ks_K fmb bl e, v14, (upd fva 0 (nI V))), rfl, ⟨by first | omega | (dsimp only; omega), by first | omega | (dsimp only; omega), by first | omega | (dsimp only; omega), Or.inr rfl, (fun _ => ⟨h2, (by first | omega | (dsimp only; omega)), rfl, rfl, rfl, rfl, h19⟩), (fun h9 => absurd h9 (by decide)), by first | omega | (dsimp only; omega)⟩, by rw [ht]; exact hP.sub [1, 2, 0] rfl, hD.sub [1, 2, 0] (by decide) rfl⟩, hS.F ht⟩) hS.2.2 dX11_takes_40
    · skip
      have hP : va_P D vwCl [(mo, .inr (11, [.ref to, .ref ke, .ref ik, .ref mrf, .long mab, .long mbl, .ref ha, .ref r0, .ref mbr, .ref mbp, .ref mby, .int (nI bl), .int (nI ta), .int (nI tl), .int (nI tk), .int (nI V), .ref an, .ref va])), (mby, .inl (y 0, 150, .inl fmb)), (va, .inl (y 0, 2, .inl fva))] H := hP
      have hD : va_D A [(mo, .inr (11, [.ref to, .ref ke, .ref ik, .ref mrf, .long mab, .long mbl, .ref ha, .ref r0, .ref mbr, .ref mbp, .ref mby, .int (nI bl), .int (nI ta), .int (nI tl), .int (nI tk), .int (nI V), .ref an, .ref va])), (mby, .inl (y 0, 150, .inl fmb)), (va, .inl (y 0, 2, .inl fva))] := hD
      refine lv_if_ne (tgt := 25) hx hb dX11_takes_20 (by decide) (fun h9 => absurd h9 (by decide)) (fun _ => ?_)
      refine lv_iconst (v := 0) hx hb dX11_takes_23 (by decide) ?_
      exact W.zret (v := 0) hx hb hr (by decide) (fun tZ ht hW => ⟨⟨0, (ta, tl, tk, (nI V), fva), rfl, ⟨by first | omega | (dsimp only; omega), by first | omega | (dsimp only; omega), by first | omega | (dsimp only; omega), Or.inl rfl, (fun h9 => absurd h9 (by decide)), (fun _ => ⟨kz_nF_2 h10, rfl, rfl, rfl, rfl, rfl⟩), by first | omega | (dsimp only; omega)⟩, by rw [ht]; exact hP.sub [0, 1, 2] rfl, hD.sub [0, 1, 2] (by decide) rfl⟩, hS.F ht⟩) hS.2.2 dX11_takes_24

set_option maxHeartbeats 4000000 in
set_option maxRecDepth 100000 in
theorem gr_Mbegin (l : Launch) (D : va_G) (y : Nat → ClassId) (to : Nat) (ft : Nat → Int32) (x : Int32) (hkt : kr_t 76 ft) : kw_Mv l yX11_begin wsX11_begin ({ frames := 1, cells := 0, slots := 0, locals := 60 }) D y [.ref to, .int x] [(to, .inl (y 0, 76, .inl ft))] (fun (u : Unit) => kr_t 76 (upd (kr_bg ft 76) 22 x)) (fun _ => [(to, .inl (y 0, 76, .inl (upd (kr_bg ft 76) 22 x)))]) 0 0 := by
  refine kw_Mv.of (cc := cX11_begin) (maxL := 3) (ret := none) (by decide) rfl ?_
  intro pZ eZ s mZ beZ meZ cZ A hE
  obtain ⟨hx, hb, hr, hml, hts, hown, hlocks, hin, hA, hP, hD, hK, hN⟩ := hE
  have hS : va_S A s.heap s.heap [] := va_S.rf
  have hl := lv_entry ([.ref to, .int x]) (n := 3) (Nat.le_of_ble_eq_true rfl)
  rw [lg_entry_eq]
  generalize (lg_sl ([.ref to, .int x]) ++ List.replicate (3 - (lg_sl ([.ref to, .int x])).length) Slot.unset).toArray = ls at hl ⊢
  have hl : lv_has ls 3 [(0, .ref to), (1, .int x)] := hl
  refine lv_iconst (v := 0) hx hb dX11_begin_0 (by decide) ?_
  refine lv_istore_n (lv' := [(2, .int 0), (0, .ref to), (1, .int x)]) hx hb dX11_begin_1 rfl hl (by decide) rfl (fun ls hl => ?_)
  have lp10 : ∀ (fuj91 j91 : Nat) (x5 : Nat → Int32) (H : Heap) (locs : List Loc) (ls : Array Slot), j91 ≤ 76 → 76 - j91 < fuj91 → kr_t 76 x5 → x5 = kr_bg ft j91 → va_P D vwCl [(to, .inl (y 0, 76, .inl x5))] H → va_D A [(to, .inl (y 0, 76, .inl x5))] → va_S A s.heap H locs → lv_has ls 3 [(2, .int (nI j91)), (0, .ref to), (1, .int x)] → W pZ l eZ ({ frames := 1, cells := 0, slots := 0, locals := 60 }) s mZ [.ref to, .int x].toArray beZ meZ cZ H locs 0 0 (MQ beZ (va_Qv (fun (u : Unit) => kr_t 76 (upd (kr_bg ft 76) 22 x)) (kw_B D (fun _ => [(to, .inl (y 0, 76, .inl (upd (kr_bg ft 76) 22 x)))]) A) A) [.ref to, .int x].toArray s 0 0 A) (F0 mZ 2 ls []) := by
    intro fuj91
    induction fuj91 with
    | zero => intro j91 x5 H locs ls hj9 hf9; exact absurd hf9 (Nat.not_lt_zero _)
    | succ fuj91 ihj91 =>
      intro j91 x5 H locs ls hj91 hfj91 hr_x5 hI0_j91 hP hD hS hl
      refine lv_iload_n hx hb dX11_begin_2 rfl (lv_at hl 0 rfl) ?_
      refine lv_bipush (v := 76) hx hb dX11_begin_3 (by decide) ?_
      refine lv_icmp_ge (tgt := 18) hx hb dX11_begin_5 (by decide) (fun h11 => ?_) (fun h12 => ?_)
      · skip
        have h11 : 76 ≤ j91 := (nI_leI (a := 76) (b := j91) (by omega) (by omega)).mp h11
        obtain rfl : j91 = 76 := by omega
        subst hI0_j91
        have hP : va_P D vwCl [(to, .inl (y 0, 76, .inl (kr_bg ft 76)))] H := hP
        have hD : va_D A [(to, .inl (y 0, 76, .inl (kr_bg ft 76)))] := hD
        refine lv_aload_n hx hb dX11_begin_18 rfl (lv_at hl 1 rfl) ?_
        refine lv_bipush (v := 22) hx hb dX11_begin_19 (by decide) ?_
        refine lv_iload_n hx hb dX11_begin_21 rfl (lv_at hl 2 rfl) ?_
        refine va_iast hx hb hK hP hD hS 0 0 rfl rfl (by unfold vp_in; decide) dX11_begin_22 (fun H locs hP hD hS => ?_)
        rw [show ((22 : Int32)).toNatClampNeg = 22 from rfl] at hP hD
        have hr13 : kr_t 76 (upd (kr_bg ft 76) 22 x) := kr_up hr_x5 (kr_free (by unfold kr_a; omega) (by unfold kr_s; omega))
        have hP : va_P D vwCl [(to, .inl (y 0, 76, .inl (upd (kr_bg ft 76) 22 x)))] H := hP
        have hD : va_D A [(to, .inl (y 0, 76, .inl (upd (kr_bg ft 76) 22 x)))] := hD
        exact W.vret hx hb hr (fun tZ ht hW => ⟨⟨(), rfl, hr13, by rw [ht]; exact hP.sub [0] rfl, hD.sub [0] (by decide) rfl⟩, hS.F ht⟩) hS.2.2 dX11_begin_23
      · skip
        have h12 : ¬ 76 ≤ j91 := fun q9 => h12 ((nI_leI (a := 76) (b := j91) (by omega) (by omega)).mpr q9)
        refine lv_aload_n hx hb dX11_begin_8 rfl (lv_at hl 1 rfl) ?_
        refine lv_iload_n hx hb dX11_begin_9 rfl (lv_at hl 0 rfl) ?_
        refine lv_iconst (v := 0) hx hb dX11_begin_10 (by decide) ?_
        refine va_iast hx hb hK hP hD hS 0 0 rfl rfl (vp_in_nI (by omega) (by decide)) dX11_begin_11 (fun H locs hP hD hS => ?_)
        rw [nI_clamp (n := j91) (by omega)] at hP hD
        have hr14 : kr_t 76 (upd x5 j91 0) := kr_up hr_x5 (kr_ok0)
        have hP : va_P D vwCl [(to, .inl (y 0, 76, .inl (upd x5 j91 0)))] H := hP
        have hD : va_D A [(to, .inl (y 0, 76, .inl (upd x5 j91 0)))] := hD
        refine lv_iinc (v := (nI (j91 + 1))) (lv' := [(2, .int (nI (j91 + 1))), (0, .ref to), (1, .int x)]) hx hb dX11_begin_12 hl (k := 0) rfl (nI_1 j91) (by decide) rfl (fun ls hl => ?_)
        refine lv_goto (tgt := 2) hx hb dX11_begin_15 (by decide) ?_
        exact ihj91 (j91 + 1) (upd x5 j91 0) H locs ls (by omega) (by omega) hr14 (by rw [hI0_j91]; exact kr_bgS) (hP.sub [0] rfl) (hD.sub [0] (by decide) rfl) hS (lv_sub hl [0, 1, 2] rfl)
  exact lp10 (76 + 1) 0 ft _ _ _ (by omega) (by omega) hkt kr_bg0 hP hD hS (lv_sub hl [0, 1, 2] rfl)

set_option maxHeartbeats 4000000 in
set_option maxRecDepth 100000 in
theorem gr_MlayField (l : Launch) (D : va_G) (y : Nat → ClassId) (to : Nat) (ft : Nat → Int32) (fi : Nat) (gl : Nat) (mi : Nat) (no : Nat) (un : Nat) (sp : Nat) (x : Int32) (x2 : Int32) (hk0_ : ft 0 = (nI fi)) (hk1_ : ft 1 = (nI gl)) (hk2_ : ft 2 = (nI mi)) (hk3_ : ft 3 = (nI no)) (hk4_ : ft 4 = (nI un)) (hk21_ : ft 21 = (nI sp)) (hkt : kr_t 76 ft) (hfi : fi ≤ 6) (hgl : gl ≤ 5) (hmi : mi ≤ 4) (hno : no ≤ 6) (hun : un ≤ 8) (hsp : sp ≤ 12) (hA1 : fi < 6) : kw_Mv l yX11_layField wsX11_layField ({ frames := 1, cells := 0, slots := 0, locals := 60 }) D y [.ref to, .int x, .int x2] [(to, .inl (y 0, 76, .inl ft))] (fun (u : Unit) => kr_t 76 (upd (upd (upd ft (fi + 24) x) (fi + 5) x2) 0 (nI (fi + 1))) ∧ (upd (upd (upd ft (fi + 24) x) (fi + 5) x2) 0 (nI (fi + 1))) 0 = (nI (fi + 1)) ∧ (upd (upd (upd ft (fi + 24) x) (fi + 5) x2) 0 (nI (fi + 1))) 1 = (nI gl) ∧ (upd (upd (upd ft (fi + 24) x) (fi + 5) x2) 0 (nI (fi + 1))) 2 = (nI mi) ∧ (upd (upd (upd ft (fi + 24) x) (fi + 5) x2) 0 (nI (fi + 1))) 3 = (nI no) ∧ (upd (upd (upd ft (fi + 24) x) (fi + 5) x2) 0 (nI (fi + 1))) 4 = (nI un) ∧ (upd (upd (upd ft (fi + 24) x) (fi + 5) x2) 0 (nI (fi + 1))) 21 = (nI sp)) (fun _ => [(to, .inl (y 0, 76, .inl (upd (upd (upd ft (fi + 24) x) (fi + 5) x2) 0 (nI (fi + 1)))))]) 0 0 := by
  refine kw_Mv.of (cc := cX11_layField) (maxL := 3) (ret := none) (by decide) rfl ?_
  intro pZ eZ s mZ beZ meZ cZ A hE
  obtain ⟨hx, hb, hr, hml, hts, hown, hlocks, hin, hA, hP, hD, hK, hN⟩ := hE
  have hS : va_S A s.heap s.heap [] := va_S.rf
  have hl := lv_entry ([.ref to, .int x, .int x2]) (n := 3) (Nat.le_of_ble_eq_true rfl)
  rw [lg_entry_eq]
  generalize (lg_sl ([.ref to, .int x, .int x2]) ++ List.replicate (3 - (lg_sl ([.ref to, .int x, .int x2])).length) Slot.unset).toArray = ls at hl ⊢
  have hl : lv_has ls 3 [(0, .ref to), (1, .int x), (2, .int x2)] := hl
  refine lv_aload_n hx hb dX11_layField_0 rfl (lv_at hl 0 rfl) ?_
  refine lv_bipush (v := 24) hx hb dX11_layField_1 (by decide) ?_
  refine lv_aload_n hx hb dX11_layField_3 rfl (lv_at hl 0 rfl) ?_
  refine lv_iconst (v := 0) hx hb dX11_layField_4 (by decide) ?_
  refine va_iald hx hb hK hP 0 0 rfl rfl (by unfold vp_in; decide) dX11_layField_5 ?_
  rw [show ((0 : Int32)).toNatClampNeg = 0 from rfl]
  rw [show (ft 0) = (nI fi) from hk0_]
  refine lv_iadd hx hb dX11_layField_6 ?_
  rw [show 24 + (nI fi) = nI (fi + 24) from (nI_add 24 fi).trans (congrArg nI (by omega))]
  refine lv_iload_n hx hb dX11_layField_7 rfl (lv_at hl 1 rfl) ?_
  refine va_iast hx hb hK hP hD hS 0 0 rfl rfl (vp_in_nI (by omega) (by decide)) dX11_layField_8 (fun H locs hP hD hS => ?_)
  rw [nI_clamp (n := (fi + 24)) (by omega)] at hP hD
  have hr1 : kr_t 76 (upd ft (fi + 24) x) := kr_up hkt (kr_free (by unfold kr_a; omega) (by unfold kr_s; omega))
  have hk2 : (upd ft (fi + 24) x) 0 = (nI fi) := (pk_un (by omega)).trans hk0_
  have hk3 : (upd ft (fi + 24) x) 1 = (nI gl) := (pk_un (by omega)).trans hk1_
  have hk4 : (upd ft (fi + 24) x) 2 = (nI mi) := (pk_un (by omega)).trans hk2_
  have hk5 : (upd ft (fi + 24) x) 3 = (nI no) := (pk_un (by omega)).trans hk3_
  have hk6 : (upd ft (fi + 24) x) 4 = (nI un) := (pk_un (by omega)).trans hk4_
  have hk7 : (upd ft (fi + 24) x) 21 = (nI sp) := (pk_un (by omega)).trans hk21_
  have hP : va_P D vwCl [(to, .inl (y 0, 76, .inl (upd ft (fi + 24) x)))] H := hP
  have hD : va_D A [(to, .inl (y 0, 76, .inl (upd ft (fi + 24) x)))] := hD
  refine lv_aload_n hx hb dX11_layField_9 rfl (lv_at hl 0 rfl) ?_
  refine lv_iconst (v := 5) hx hb dX11_layField_10 (by decide) ?_
  refine lv_aload_n hx hb dX11_layField_11 rfl (lv_at hl 0 rfl) ?_
  refine lv_iconst (v := 0) hx hb dX11_layField_12 (by decide) ?_
  refine va_iald hx hb hK hP 0 0 rfl rfl (by unfold vp_in; decide) dX11_layField_13 ?_
  rw [show ((0 : Int32)).toNatClampNeg = 0 from rfl]
  rw [show ((upd ft (fi + 24) x) 0) = (nI fi) from hk2]
  refine lv_iadd hx hb dX11_layField_14 ?_
  rw [show 5 + (nI fi) = nI (fi + 5) from (nI_add 5 fi).trans (congrArg nI (by omega))]
  refine lv_iload_n hx hb dX11_layField_15 rfl (lv_at hl 2 rfl) ?_
  refine va_iast hx hb hK hP hD hS 0 0 rfl rfl (vp_in_nI (by omega) (by decide)) dX11_layField_16 (fun H locs hP hD hS => ?_)
  rw [nI_clamp (n := (fi + 5)) (by omega)] at hP hD
  have hr8 : kr_t 76 (upd (upd ft (fi + 24) x) (fi + 5) x2) := kr_up hr1 (kr_free (by unfold kr_a; omega) (by unfold kr_s; omega))
  have hk9 : (upd (upd ft (fi + 24) x) (fi + 5) x2) 0 = (nI fi) := (pk_un (by omega)).trans hk2
  have hk10 : (upd (upd ft (fi + 24) x) (fi + 5) x2) 1 = (nI gl) := (pk_un (by omega)).trans hk3
  have hk11 : (upd (upd ft (fi + 24) x) (fi + 5) x2) 2 = (nI mi) := (pk_un (by omega)).trans hk4
  have hk12 : (upd (upd ft (fi + 24) x) (fi + 5) x2) 3 = (nI no) := (pk_un (by omega)).trans hk5
  have hk13 : (upd (upd ft (fi + 24) x) (fi + 5) x2) 4 = (nI un) := (pk_un (by omega)).trans hk6
  have hk14 : (upd (upd ft (fi + 24) x) (fi + 5) x2) 21 = (nI sp) := (pk_un (by omega)).trans hk7
  have hP : va_P D vwCl [(to, .inl (y 0, 76, .inl (upd (upd ft (fi + 24) x) (fi + 5) x2)))] H := hP
  have hD : va_D A [(to, .inl (y 0, 76, .inl (upd (upd ft (fi + 24) x) (fi + 5) x2)))] := hD
  refine lv_aload_n hx hb dX11_layField_17 rfl (lv_at hl 0 rfl) ?_
  refine lv_iconst (v := 0) hx hb dX11_layField_18 (by decide) ?_
  refine lv_dup2_11 hx hb dX11_layField_19 rfl rfl ?_
  refine va_iald hx hb hK hP 0 0 rfl rfl (by unfold vp_in; decide) dX11_layField_20 ?_
  rw [show ((0 : Int32)).toNatClampNeg = 0 from rfl]
  rw [show ((upd (upd ft (fi + 24) x) (fi + 5) x2) 0) = (nI fi) from hk9]
  refine lv_iconst (v := 1) hx hb dX11_layField_21 (by decide) ?_
  refine lv_iadd hx hb dX11_layField_22 ?_
  rw [show (nI fi) + 1 = nI (fi + 1) from nI_add fi 1]
  refine va_iast hx hb hK hP hD hS 0 0 rfl rfl (by unfold vp_in; decide) dX11_layField_23 (fun H locs hP hD hS => ?_)
  rw [show ((0 : Int32)).toNatClampNeg = 0 from rfl] at hP hD
  have hr15 : kr_t 76 (upd (upd (upd ft (fi + 24) x) (fi + 5) x2) 0 (nI (fi + 1))) := kr_up hr8 (kr_free (by unfold kr_a; omega) (by unfold kr_s; omega))
  have hk16 : (upd (upd (upd ft (fi + 24) x) (fi + 5) x2) 0 (nI (fi + 1))) 1 = (nI gl) := (pk_un (by decide)).trans hk10
  have hk17 : (upd (upd (upd ft (fi + 24) x) (fi + 5) x2) 0 (nI (fi + 1))) 2 = (nI mi) := (pk_un (by decide)).trans hk11
  have hk18 : (upd (upd (upd ft (fi + 24) x) (fi + 5) x2) 0 (nI (fi + 1))) 3 = (nI no) := (pk_un (by decide)).trans hk12
  have hk19 : (upd (upd (upd ft (fi + 24) x) (fi + 5) x2) 0 (nI (fi + 1))) 4 = (nI un) := (pk_un (by decide)).trans hk13
  have hk20 : (upd (upd (upd ft (fi + 24) x) (fi + 5) x2) 0 (nI (fi + 1))) 21 = (nI sp) := (pk_un (by decide)).trans hk14
  have hk21 : (upd (upd (upd ft (fi + 24) x) (fi + 5) x2) 0 (nI (fi + 1))) 0 = (nI (fi + 1)) := pk_us
  have hP : va_P D vwCl [(to, .inl (y 0, 76, .inl (upd (upd (upd ft (fi + 24) x) (fi + 5) x2) 0 (nI (fi + 1)))))] H := hP
  have hD : va_D A [(to, .inl (y 0, 76, .inl (upd (upd (upd ft (fi + 24) x) (fi + 5) x2) 0 (nI (fi + 1)))))] := hD
  exact W.vret hx hb hr (fun tZ ht hW => ⟨⟨(), rfl, ⟨hr15, hk21, hk16, hk17, hk18, hk19, hk20⟩, by rw [ht]; exact hP.sub [0] rfl, hD.sub [0] (by decide) rfl⟩, hS.F ht⟩) hS.2.2 dX11_layField_24

set_option maxHeartbeats 4000000 in
set_option maxRecDepth 100000 in
theorem gr_MlayGleaner (l : Launch) (D : va_G) (y : Nat → ClassId) (to : Nat) (ft : Nat → Int32) (fi : Nat) (gl : Nat) (mi : Nat) (no : Nat) (un : Nat) (sp : Nat) (k : Nat) (hk0_ : ft 0 = (nI fi)) (hk1_ : ft 1 = (nI gl)) (hk2_ : ft 2 = (nI mi)) (hk3_ : ft 3 = (nI no)) (hk4_ : ft 4 = (nI un)) (hk21_ : ft 21 = (nI sp)) (hkt : kr_t 76 ft) (hfi : fi ≤ 6) (hgl : gl ≤ 5) (hmi : mi ≤ 4) (hno : no ≤ 6) (hun : un ≤ 8) (hsp : sp ≤ 12) (hA1 : gl < 5) (hA2 : k < 6) : kw_Mv l yX11_layGleaner wsX11_layGleaner ({ frames := 1, cells := 0, slots := 0, locals := 60 }) D y [.ref to, .int (nI k)] [(to, .inl (y 0, 76, .inl ft))] (fun (u : Unit) => kr_t 76 (upd (upd (upd ft (gl + 11) (nI k)) (gl + 16) 0) 1 (nI (gl + 1))) ∧ (upd (upd (upd ft (gl + 11) (nI k)) (gl + 16) 0) 1 (nI (gl + 1))) 0 = (nI fi) ∧ (upd (upd (upd ft (gl + 11) (nI k)) (gl + 16) 0) 1 (nI (gl + 1))) 1 = (nI (gl + 1)) ∧ (upd (upd (upd ft (gl + 11) (nI k)) (gl + 16) 0) 1 (nI (gl + 1))) 2 = (nI mi) ∧ (upd (upd (upd ft (gl + 11) (nI k)) (gl + 16) 0) 1 (nI (gl + 1))) 3 = (nI no) ∧ (upd (upd (upd ft (gl + 11) (nI k)) (gl + 16) 0) 1 (nI (gl + 1))) 4 = (nI un) ∧ (upd (upd (upd ft (gl + 11) (nI k)) (gl + 16) 0) 1 (nI (gl + 1))) 21 = (nI sp)) (fun _ => [(to, .inl (y 0, 76, .inl (upd (upd (upd ft (gl + 11) (nI k)) (gl + 16) 0) 1 (nI (gl + 1)))))]) 0 0 := by
  refine kw_Mv.of (cc := cX11_layGleaner) (maxL := 2) (ret := none) (by decide) rfl ?_
  intro pZ eZ s mZ beZ meZ cZ A hE
  obtain ⟨hx, hb, hr, hml, hts, hown, hlocks, hin, hA, hP, hD, hK, hN⟩ := hE
  have hS : va_S A s.heap s.heap [] := va_S.rf
  have hl := lv_entry ([.ref to, .int (nI k)]) (n := 2) (Nat.le_of_ble_eq_true rfl)
  rw [lg_entry_eq]
  generalize (lg_sl ([.ref to, .int (nI k)]) ++ List.replicate (2 - (lg_sl ([.ref to, .int (nI k)])).length) Slot.unset).toArray = ls at hl ⊢
  have hl : lv_has ls 2 [(0, .ref to), (1, .int (nI k))] := hl
  refine lv_aload_n hx hb dX11_layGleaner_0 rfl (lv_at hl 0 rfl) ?_
  refine lv_bipush (v := 11) hx hb dX11_layGleaner_1 (by decide) ?_
  refine lv_aload_n hx hb dX11_layGleaner_3 rfl (lv_at hl 0 rfl) ?_
  refine lv_iconst (v := 1) hx hb dX11_layGleaner_4 (by decide) ?_
  refine va_iald hx hb hK hP 0 0 rfl rfl (by unfold vp_in; decide) dX11_layGleaner_5 ?_
  rw [show ((1 : Int32)).toNatClampNeg = 1 from rfl]
  rw [show (ft 1) = (nI gl) from hk1_]
  refine lv_iadd hx hb dX11_layGleaner_6 ?_
  rw [show 11 + (nI gl) = nI (gl + 11) from (nI_add 11 gl).trans (congrArg nI (by omega))]
  refine lv_iload_n hx hb dX11_layGleaner_7 rfl (lv_at hl 1 rfl) ?_
  refine va_iast hx hb hK hP hD hS 0 0 rfl rfl (vp_in_nI (by omega) (by decide)) dX11_layGleaner_8 (fun H locs hP hD hS => ?_)
  rw [nI_clamp (n := (gl + 11)) (by omega)] at hP hD
  have hr1 : kr_t 76 (upd ft (gl + 11) (nI k)) := kr_up hkt (kr_oka (vp_in_nI (by omega) (by decide)) (by unfold kr_s; omega))
  have hk2 : (upd ft (gl + 11) (nI k)) 0 = (nI fi) := (pk_un (by omega)).trans hk0_
  have hk3 : (upd ft (gl + 11) (nI k)) 1 = (nI gl) := (pk_un (by omega)).trans hk1_
  have hk4 : (upd ft (gl + 11) (nI k)) 2 = (nI mi) := (pk_un (by omega)).trans hk2_
  have hk5 : (upd ft (gl + 11) (nI k)) 3 = (nI no) := (pk_un (by omega)).trans hk3_
  have hk6 : (upd ft (gl + 11) (nI k)) 4 = (nI un) := (pk_un (by omega)).trans hk4_
  have hk7 : (upd ft (gl + 11) (nI k)) 21 = (nI sp) := (pk_un (by omega)).trans hk21_
  have hP : va_P D vwCl [(to, .inl (y 0, 76, .inl (upd ft (gl + 11) (nI k))))] H := hP
  have hD : va_D A [(to, .inl (y 0, 76, .inl (upd ft (gl + 11) (nI k))))] := hD
  refine lv_aload_n hx hb dX11_layGleaner_9 rfl (lv_at hl 0 rfl) ?_
  refine lv_bipush (v := 16) hx hb dX11_layGleaner_10 (by decide) ?_
  refine lv_aload_n hx hb dX11_layGleaner_12 rfl (lv_at hl 0 rfl) ?_
  refine lv_iconst (v := 1) hx hb dX11_layGleaner_13 (by decide) ?_
  refine va_iald hx hb hK hP 0 0 rfl rfl (by unfold vp_in; decide) dX11_layGleaner_14 ?_
  rw [show ((1 : Int32)).toNatClampNeg = 1 from rfl]
  rw [show ((upd ft (gl + 11) (nI k)) 1) = (nI gl) from hk3]
  refine lv_iadd hx hb dX11_layGleaner_15 ?_
  rw [show 16 + (nI gl) = nI (gl + 16) from (nI_add 16 gl).trans (congrArg nI (by omega))]
  refine lv_iconst (v := 0) hx hb dX11_layGleaner_16 (by decide) ?_
  refine va_iast hx hb hK hP hD hS 0 0 rfl rfl (vp_in_nI (by omega) (by decide)) dX11_layGleaner_17 (fun H locs hP hD hS => ?_)
  rw [nI_clamp (n := (gl + 16)) (by omega)] at hP hD
  have hr8 : kr_t 76 (upd (upd ft (gl + 11) (nI k)) (gl + 16) 0) := kr_up hr1 (kr_ok0)
  have hk9 : (upd (upd ft (gl + 11) (nI k)) (gl + 16) 0) 0 = (nI fi) := (pk_un (by omega)).trans hk2
  have hk10 : (upd (upd ft (gl + 11) (nI k)) (gl + 16) 0) 1 = (nI gl) := (pk_un (by omega)).trans hk3
  have hk11 : (upd (upd ft (gl + 11) (nI k)) (gl + 16) 0) 2 = (nI mi) := (pk_un (by omega)).trans hk4
  have hk12 : (upd (upd ft (gl + 11) (nI k)) (gl + 16) 0) 3 = (nI no) := (pk_un (by omega)).trans hk5
  have hk13 : (upd (upd ft (gl + 11) (nI k)) (gl + 16) 0) 4 = (nI un) := (pk_un (by omega)).trans hk6
  have hk14 : (upd (upd ft (gl + 11) (nI k)) (gl + 16) 0) 21 = (nI sp) := (pk_un (by omega)).trans hk7
  have hP : va_P D vwCl [(to, .inl (y 0, 76, .inl (upd (upd ft (gl + 11) (nI k)) (gl + 16) 0)))] H := hP
  have hD : va_D A [(to, .inl (y 0, 76, .inl (upd (upd ft (gl + 11) (nI k)) (gl + 16) 0)))] := hD
  refine lv_aload_n hx hb dX11_layGleaner_18 rfl (lv_at hl 0 rfl) ?_
  refine lv_iconst (v := 1) hx hb dX11_layGleaner_19 (by decide) ?_
  refine lv_dup2_11 hx hb dX11_layGleaner_20 rfl rfl ?_
  refine va_iald hx hb hK hP 0 0 rfl rfl (by unfold vp_in; decide) dX11_layGleaner_21 ?_
  rw [show ((1 : Int32)).toNatClampNeg = 1 from rfl]
  rw [show ((upd (upd ft (gl + 11) (nI k)) (gl + 16) 0) 1) = (nI gl) from hk10]
  refine lv_iconst (v := 1) hx hb dX11_layGleaner_22 (by decide) ?_
  refine lv_iadd hx hb dX11_layGleaner_23 ?_
  rw [show (nI gl) + 1 = nI (gl + 1) from nI_add gl 1]
  refine va_iast hx hb hK hP hD hS 0 0 rfl rfl (by unfold vp_in; decide) dX11_layGleaner_24 (fun H locs hP hD hS => ?_)
  rw [show ((1 : Int32)).toNatClampNeg = 1 from rfl] at hP hD
  have hr15 : kr_t 76 (upd (upd (upd ft (gl + 11) (nI k)) (gl + 16) 0) 1 (nI (gl + 1))) := kr_up hr8 (kr_free (by unfold kr_a; omega) (by unfold kr_s; omega))
  have hk16 : (upd (upd (upd ft (gl + 11) (nI k)) (gl + 16) 0) 1 (nI (gl + 1))) 0 = (nI fi) := (pk_un (by decide)).trans hk9
  have hk17 : (upd (upd (upd ft (gl + 11) (nI k)) (gl + 16) 0) 1 (nI (gl + 1))) 2 = (nI mi) := (pk_un (by decide)).trans hk11
  have hk18 : (upd (upd (upd ft (gl + 11) (nI k)) (gl + 16) 0) 1 (nI (gl + 1))) 3 = (nI no) := (pk_un (by decide)).trans hk12
  have hk19 : (upd (upd (upd ft (gl + 11) (nI k)) (gl + 16) 0) 1 (nI (gl + 1))) 4 = (nI un) := (pk_un (by decide)).trans hk13
  have hk20 : (upd (upd (upd ft (gl + 11) (nI k)) (gl + 16) 0) 1 (nI (gl + 1))) 21 = (nI sp) := (pk_un (by decide)).trans hk14
  have hk21 : (upd (upd (upd ft (gl + 11) (nI k)) (gl + 16) 0) 1 (nI (gl + 1))) 1 = (nI (gl + 1)) := pk_us
  have hP : va_P D vwCl [(to, .inl (y 0, 76, .inl (upd (upd (upd ft (gl + 11) (nI k)) (gl + 16) 0) 1 (nI (gl + 1)))))] H := hP
  have hD : va_D A [(to, .inl (y 0, 76, .inl (upd (upd (upd ft (gl + 11) (nI k)) (gl + 16) 0) 1 (nI (gl + 1)))))] := hD
  exact W.vret hx hb hr (fun tZ ht hW => ⟨⟨(), rfl, ⟨hr15, hk16, hk21, hk17, hk18, hk19, hk20⟩, by rw [ht]; exact hP.sub [0] rfl, hD.sub [0] (by decide) rfl⟩, hS.F ht⟩) hS.2.2 dX11_layGleaner_25

set_option maxHeartbeats 4000000 in
set_option maxRecDepth 100000 in
theorem gr_MgoStep (l : Launch) (D : va_G) (y : Nat → ClassId) (to : Nat) (ft : Nat → Int32) (fi : Nat) (gl : Nat) (mi : Nat) (no : Nat) (un : Nat) (sp : Nat) (hk0_ : ft 0 = (nI fi)) (hk1_ : ft 1 = (nI gl)) (hk2_ : ft 2 = (nI mi)) (hk3_ : ft 3 = (nI no)) (hk4_ : ft 4 = (nI un)) (hk21_ : ft 21 = (nI sp)) (hkt : kr_t 76 ft) (hfi : fi ≤ 6) (hgl : gl ≤ 5) (hmi : mi ≤ 4) (hno : no ≤ 6) (hun : un ≤ 8) (hsp : sp ≤ 12) (hA1 : sp < 12) : kw_Mi l yX11_goStep wsX11_goStep ({ frames := 5, cells := 0, slots := 0, locals := 151 }) D y [.ref to] [(to, .inl (y 0, 76, .inl ft))] (fun (r : Int32) (u : (Nat → Int32)) => kr_t 76 u ∧ u 0 = (nI fi) ∧ u 1 = (nI gl) ∧ u 2 = (nI mi) ∧ u 3 = (nI no) ∧ u 4 = (nI un) ∧ u 21 = (nI (sp + 1)) ∧ kz_kk ft u) (fun u => [(to, .inl (y 0, 76, .inl u))]) 0 0 := by
  refine kw_Mi.of (cc := cX11_goStep) (maxL := 7) (ret := (some .int)) (by decide) rfl ?_
  intro pZ eZ s mZ beZ meZ cZ A hE
  obtain ⟨hx, hb, hr, hml, hts, hown, hlocks, hin, hA, hP, hD, hK, hN⟩ := hE
  have hS : va_S A s.heap s.heap [] := va_S.rf
  have hl := lv_entry ([.ref to]) (n := 7) (Nat.le_of_ble_eq_true rfl)
  rw [lg_entry_eq]
  generalize (lg_sl ([.ref to]) ++ List.replicate (7 - (lg_sl ([.ref to])).length) Slot.unset).toArray = ls at hl ⊢
  have hl : lv_has ls 7 [(0, .ref to)] := hl
  refine lv_iconst (v := 0) hx hb dX11_goStep_0 (by decide) ?_
  refine lv_istore_n (lv' := [(1, .int 0), (0, .ref to)]) hx hb dX11_goStep_1 rfl hl (by decide) rfl (fun ls hl => ?_)
  refine lv_iconst (v := 0) hx hb dX11_goStep_2 (by decide) ?_
  refine lv_istore_n (lv' := [(2, .int 0), (1, .int 0), (0, .ref to)]) hx hb dX11_goStep_3 rfl hl (by decide) rfl (fun ls hl => ?_)
  have lp621 : ∀ (fuj91 j91 : Nat) (x310 : Int32) (x311 : Nat → Int32) (H : Heap) (locs : List Loc) (ls : Array Slot), j91 ≤ fi → fi - j91 < fuj91 → kr_t 76 x311 → x311 0 = (nI fi) → x311 1 = (nI gl) → x311 2 = (nI mi) → x311 3 = (nI no) → x311 4 = (nI un) → x311 21 = (nI sp) → kz_kk ft x311 → va_P D vwCl [(to, .inl (y 0, 76, .inl x311))] H → va_D A [(to, .inl (y 0, 76, .inl x311))] → va_S A s.heap H locs → lv_has ls 7 [(2, .int (nI j91)), (1, .int x310), (0, .ref to)] → W pZ l eZ ({ frames := 5, cells := 0, slots := 0, locals := 151 }) s mZ [.ref to].toArray beZ meZ cZ H locs 0 0 (MQ beZ (va_Qi (fun (r : Int32) (u : (Nat → Int32)) => kr_t 76 u ∧ u 0 = (nI fi) ∧ u 1 = (nI gl) ∧ u 2 = (nI mi) ∧ u 3 = (nI no) ∧ u 4 = (nI un) ∧ u 21 = (nI (sp + 1)) ∧ kz_kk ft u) (kw_B D (fun u => [(to, .inl (y 0, 76, .inl u))]) A) A) [.ref to].toArray s 0 0 A) (F0 mZ 4 ls []) := by
    intro fuj91
    induction fuj91 with
    | zero => intro j91 x310 x311 H locs ls hj9 hf9; exact absurd hf9 (Nat.not_lt_zero _)
    | succ fuj91 ihj91 =>
      intro j91 x310 x311 H locs ls hj91 hfj91 hr_x311 hk_x311_0 hk_x311_1 hk_x311_2 hk_x311_3 hk_x311_4 hk_x311_21 hI0_j91 hP hD hS hl
      refine lv_iload_n hx hb dX11_goStep_4 rfl (lv_at hl 0 rfl) ?_
      refine lv_aload_n hx hb dX11_goStep_5 rfl (lv_at hl 2 rfl) ?_
      refine lv_iconst (v := 0) hx hb dX11_goStep_6 (by decide) ?_
      refine va_iald hx hb hK hP 0 0 rfl rfl (by unfold vp_in; decide) dX11_goStep_7 ?_
      rw [show ((0 : Int32)).toNatClampNeg = 0 from rfl]
      rw [show (x311 0) = (nI fi) from hk_x311_0]
      refine lv_icmp_ge (tgt := 152) hx hb dX11_goStep_8 (by decide) (fun h622 => ?_) (fun h623 => ?_)
      · skip
        have h622 : fi ≤ j91 := (nI_leI (a := fi) (b := j91) (by omega) (by omega)).mp h622
        refine lv_aload_n hx hb dX11_goStep_152 rfl (lv_at hl 2 rfl) ?_
        refine lv_bipush (v := 21) hx hb dX11_goStep_153 (by decide) ?_
        refine lv_dup2_11 hx hb dX11_goStep_155 rfl rfl ?_
        refine va_iald hx hb hK hP 0 0 rfl rfl (by unfold vp_in; decide) dX11_goStep_156 ?_
        rw [show ((21 : Int32)).toNatClampNeg = 21 from rfl]
        rw [show (x311 21) = (nI sp) from hk_x311_21]
        refine lv_iconst (v := 1) hx hb dX11_goStep_157 (by decide) ?_
        refine lv_iadd hx hb dX11_goStep_158 ?_
        rw [show (nI sp) + 1 = nI (sp + 1) from nI_add sp 1]
        refine va_iast hx hb hK hP hD hS 0 0 rfl rfl (by unfold vp_in; decide) dX11_goStep_159 (fun H locs hP hD hS => ?_)
        rw [show ((21 : Int32)).toNatClampNeg = 21 from rfl] at hP hD
        have hr624 : kr_t 76 (upd x311 21 (nI (sp + 1))) := kr_up hr_x311 (kr_free (by unfold kr_a; omega) (by unfold kr_s; omega))
        have hk625 : (upd x311 21 (nI (sp + 1))) 0 = (nI fi) := (pk_un (by decide)).trans hk_x311_0
        have hk626 : (upd x311 21 (nI (sp + 1))) 1 = (nI gl) := (pk_un (by decide)).trans hk_x311_1
        have hk627 : (upd x311 21 (nI (sp + 1))) 2 = (nI mi) := (pk_un (by decide)).trans hk_x311_2
        have hk628 : (upd x311 21 (nI (sp + 1))) 3 = (nI no) := (pk_un (by decide)).trans hk_x311_3
        have hk629 : (upd x311 21 (nI (sp + 1))) 4 = (nI un) := (pk_un (by decide)).trans hk_x311_4
        have hk630 : (upd x311 21 (nI (sp + 1))) 21 = (nI (sp + 1)) := pk_us
        have hP : va_P D vwCl [(to, .inl (y 0, 76, .inl (upd x311 21 (nI (sp + 1)))))] H := hP
        have hD : va_D A [(to, .inl (y 0, 76, .inl (upd x311 21 (nI (sp + 1)))))] := hD
        refine lv_iload_n hx hb dX11_goStep_160 rfl (lv_at hl 1 rfl) ?_
        exact W.iret (v := x310) hx hb hr (fun tZ ht hW => ⟨⟨x310, ((upd x311 21 (nI (sp + 1)))), rfl, ⟨hr624, hk625, hk626, hk627, hk628, hk629, hk630, kz_kk_u (hI0_j91) (by first | omega | (dsimp only; omega))⟩, by rw [ht]; exact hP.sub [0] rfl, hD.sub [0] (by decide) rfl⟩, hS.F ht⟩) hS.2.2 dX11_goStep_161
      · skip
        have h623 : ¬ fi ≤ j91 := fun q9 => h623 ((nI_leI (a := fi) (b := j91) (by omega) (by omega)).mpr q9)
        refine lv_aload_n hx hb dX11_goStep_11 rfl (lv_at hl 2 rfl) ?_
        refine lv_iload_n hx hb dX11_goStep_12 rfl (lv_at hl 0 rfl) ?_
        have hs631 : kw_Split [(to, .inl (y 0, 76, .inl x311))] [(to, .inl (y 0, 76, .inl x311))] [] [0] [] := ⟨rfl, rfl, rfl, rfl, rfl, by decide⟩
        refine kw_go_i hs631 hP hD hS hA (va_runS (As := [.ref to, .int (nI j91)]) (rest := []) ⟨hx, hb, hml, hown, hts⟩ (gr_manyOn76 l D y to x311 fi gl mi no un (nI j91) hk_x311_0 hk_x311_1 hk_x311_2 hk_x311_3 hk_x311_4 hr_x311 hfi hgl hmi hno hun _) (va_cwS 2 hts gX11_goStep_X11_manyOn rfl rfl rfl (by decide +kernel) ⟨Nat.le_of_ble_eq_true rfl, Nat.le_of_ble_eq_true rfl⟩) (kw_PreS hs631 hP hD hK hN) rfl rfl hl.1 rfl (lv_room (Nat.le_of_ble_eq_true rfl)) dX11_goStep_13 ⟨Nat.le_of_ble_eq_true rfl, Nat.le_of_ble_eq_true rfl⟩) (fun r632 u633 H locs hq hP hD hS => ?_)
        have hP : va_P D vwCl [(to, .inl (y 0, 76, .inl x311))] H := hP
        have hD : va_D A [(to, .inl (y 0, 76, .inl x311))] := hD
        refine lv_istore_n (lv' := [(3, .int r632), (2, .int (nI j91)), (1, .int x310), (0, .ref to)]) hx hb dX11_goStep_16 rfl hl (by decide) rfl (fun ls hl => ?_)
        refine lv_iload_n hx hb dX11_goStep_17 rfl (lv_at hl 0 rfl) ?_
        refine lv_if_ne (tgt := 25) hx hb dX11_goStep_18 (by decide) (fun h634 => ?_) (fun h635 => ?_)
        · skip
          refine lv_aload_n hx hb dX11_goStep_25 rfl (lv_at hl 3 rfl) ?_
          refine lv_iload_n hx hb dX11_goStep_26 rfl (lv_at hl 1 rfl) ?_
          refine lv_aload_n hx hb dX11_goStep_27 rfl (lv_at hl 3 rfl) ?_
          refine lv_bipush (v := 21) hx hb dX11_goStep_28 (by decide) ?_
          refine va_iald hx hb hK hP 0 0 rfl rfl (by unfold vp_in; decide) dX11_goStep_30 ?_
          rw [show ((21 : Int32)).toNatClampNeg = 21 from rfl]
          rw [show (x311 21) = (nI sp) from hk_x311_21]
          have hs636 : kw_Split [(to, .inl (y 0, 76, .inl x311))] [(to, .inl (y 0, 76, .inl x311))] [] [0] [] := ⟨rfl, rfl, rfl, rfl, rfl, by decide⟩
          refine kw_go_i hs636 hP hD hS hA (va_runS (As := [.ref to, .int (nI j91), .int (nI sp)]) (rest := []) ⟨hx, hb, hml, hown, hts⟩ (gr_seenOn76 l D y to x311 fi gl mi no un j91 (nI sp) hk_x311_0 hk_x311_1 hk_x311_2 hk_x311_3 hk_x311_4 hr_x311 hfi hgl hmi hno hun (by omega) _) (va_cwS 3 hts gX11_goStep_X11_seenOn rfl rfl rfl (by decide +kernel) ⟨Nat.le_of_ble_eq_true rfl, Nat.le_of_ble_eq_true rfl⟩) (kw_PreS hs636 hP hD hK hN) rfl rfl hl.1 rfl (lv_room (Nat.le_of_ble_eq_true rfl)) dX11_goStep_31 ⟨Nat.le_of_ble_eq_true rfl, Nat.le_of_ble_eq_true rfl⟩) (fun r637 u638 H locs hq hP hD hS => ?_)
          have hP : va_P D vwCl [(to, .inl (y 0, 76, .inl x311))] H := hP
          have hD : va_D A [(to, .inl (y 0, 76, .inl x311))] := hD
          refine lv_iload_n hx hb dX11_goStep_34 rfl (lv_at hl 0 rfl) ?_
          refine lv_idiv hx hb dX11_goStep_35 (h634) ?_
          refine lv_istore (lv' := [(4, .int (r637 / r632)), (3, .int r632), (2, .int (nI j91)), (1, .int x310), (0, .ref to)]) hx hb dX11_goStep_36 hl (by decide) rfl (fun ls hl => ?_)
          refine lv_iconst (v := 0) hx hb dX11_goStep_38 (by decide) ?_
          refine lv_istore (lv' := [(5, .int 0), (4, .int (r637 / r632)), (3, .int r632), (2, .int (nI j91)), (1, .int x310), (0, .ref to)]) hx hb dX11_goStep_39 hl (by decide) rfl (fun ls hl => ?_)
          have lp736 : ∀ (fuj92 j92 : Nat) (x687 : Nat → Int32) (H : Heap) (locs : List Loc) (ls : Array Slot), j92 ≤ gl → gl - j92 < fuj92 → kr_t 76 x687 → x687 0 = (nI fi) → x687 1 = (nI gl) → x687 2 = (nI mi) → x687 3 = (nI no) → x687 4 = (nI un) → x687 21 = (nI sp) → kz_kk ft x687 → va_P D vwCl [(to, .inl (y 0, 76, .inl x687))] H → va_D A [(to, .inl (y 0, 76, .inl x687))] → va_S A s.heap H locs → lv_has ls 7 [(5, .int (nI j92)), (4, .int (r637 / r632)), (3, .int r632), (2, .int (nI j91)), (1, .int x310), (0, .ref to)] → W pZ l eZ ({ frames := 5, cells := 0, slots := 0, locals := 151 }) s mZ [.ref to].toArray beZ meZ cZ H locs 0 0 (MQ beZ (va_Qi (fun (r : Int32) (u : (Nat → Int32)) => kr_t 76 u ∧ u 0 = (nI fi) ∧ u 1 = (nI gl) ∧ u 2 = (nI mi) ∧ u 3 = (nI no) ∧ u 4 = (nI un) ∧ u 21 = (nI (sp + 1)) ∧ kz_kk ft u) (kw_B D (fun u => [(to, .inl (y 0, 76, .inl u))]) A) A) [.ref to].toArray s 0 0 A) (F0 mZ 41 ls []) := by
            intro fuj92
            induction fuj92 with
            | zero => intro j92 x687 H locs ls hj9 hf9; exact absurd hf9 (Nat.not_lt_zero _)
            | succ fuj92 ihj92 =>
              intro j92 x687 H locs ls hj92 hfj92 hr_x687 hk_x687_0 hk_x687_1 hk_x687_2 hk_x687_3 hk_x687_4 hk_x687_21 hI0_j92 hP hD hS hl
              refine lv_iload hx hb dX11_goStep_41 (lv_at hl 0 rfl) ?_
              refine lv_aload_n hx hb dX11_goStep_43 rfl (lv_at hl 5 rfl) ?_
              refine lv_iconst (v := 1) hx hb dX11_goStep_44 (by decide) ?_
              refine va_iald hx hb hK hP 0 0 rfl rfl (by unfold vp_in; decide) dX11_goStep_45 ?_
              rw [show ((1 : Int32)).toNatClampNeg = 1 from rfl]
              rw [show (x687 1) = (nI gl) from hk_x687_1]
              refine lv_icmp_ge (tgt := 111) hx hb dX11_goStep_46 (by decide) (fun h737 => ?_) (fun h738 => ?_)
              · skip
                have h737 : gl ≤ j92 := (nI_leI (a := gl) (b := j92) (by omega) (by omega)).mp h737
                refine lv_aload_n hx hb dX11_goStep_111 rfl (lv_at hl 5 rfl) ?_
                refine lv_iconst (v := 5) hx hb dX11_goStep_112 (by decide) ?_
                refine lv_iload_n hx hb dX11_goStep_113 rfl (lv_at hl 3 rfl) ?_
                refine lv_iadd hx hb dX11_goStep_114 ?_
                rw [show 5 + (nI j91) = nI (j91 + 5) from (nI_add 5 j91).trans (congrArg nI (by omega))]
                refine va_iald hx hb hK hP 0 0 rfl rfl (vp_in_nI (by omega) (by decide)) dX11_goStep_115 ?_
                rw [nI_clamp (n := (j91 + 5)) (by omega)]
                refine lv_iload hx hb dX11_goStep_116 (lv_at hl 1 rfl) ?_
                refine lv_iload_n hx hb dX11_goStep_118 rfl (lv_at hl 2 rfl) ?_
                refine lv_imul hx hb dX11_goStep_119 ?_
                refine lv_isub hx hb dX11_goStep_120 ?_
                refine lv_istore (lv' := [(5, .int ((x687 (j91 + 5)) - ((r637 / r632) * r632))), (4, .int (r637 / r632)), (3, .int r632), (2, .int (nI j91)), (1, .int x310), (0, .ref to)]) hx hb dX11_goStep_121 hl (by decide) rfl (fun ls hl => ?_)
                refine lv_aload_n hx hb dX11_goStep_123 rfl (lv_at hl 5 rfl) ?_
                refine lv_iconst (v := 5) hx hb dX11_goStep_124 (by decide) ?_
                refine lv_iload_n hx hb dX11_goStep_125 rfl (lv_at hl 3 rfl) ?_
                refine lv_iadd hx hb dX11_goStep_126 ?_
                rw [show 5 + (nI j91) = nI (j91 + 5) from (nI_add 5 j91).trans (congrArg nI (by omega))]
                refine lv_iload hx hb dX11_goStep_127 (lv_at hl 0 rfl) ?_
                refine lv_if_ge (tgt := 136) hx hb dX11_goStep_129 (by decide) (fun h739 => ?_) (fun h740 => ?_)
                · skip
                  refine lv_iload hx hb dX11_goStep_136 (lv_at hl 0 rfl) ?_
                  refine va_iast hx hb hK hP hD hS 0 0 rfl rfl (vp_in_nI (by omega) (by decide)) dX11_goStep_138 (fun H locs hP hD hS => ?_)
                  rw [nI_clamp (n := (j91 + 5)) (by omega)] at hP hD
                  have hr741 : kr_t 76 (upd x687 (j91 + 5) ((x687 (j91 + 5)) - ((r637 / r632) * r632))) := kr_up hr_x687 (kr_free (by unfold kr_a; omega) (by unfold kr_s; omega))
                  have hk742 : (upd x687 (j91 + 5) ((x687 (j91 + 5)) - ((r637 / r632) * r632))) 0 = (nI fi) := (pk_un (by omega)).trans hk_x687_0
                  have hk743 : (upd x687 (j91 + 5) ((x687 (j91 + 5)) - ((r637 / r632) * r632))) 1 = (nI gl) := (pk_un (by omega)).trans hk_x687_1
                  have hk744 : (upd x687 (j91 + 5) ((x687 (j91 + 5)) - ((r637 / r632) * r632))) 2 = (nI mi) := (pk_un (by omega)).trans hk_x687_2
                  have hk745 : (upd x687 (j91 + 5) ((x687 (j91 + 5)) - ((r637 / r632) * r632))) 3 = (nI no) := (pk_un (by omega)).trans hk_x687_3
                  have hk746 : (upd x687 (j91 + 5) ((x687 (j91 + 5)) - ((r637 / r632) * r632))) 4 = (nI un) := (pk_un (by omega)).trans hk_x687_4
                  have hk747 : (upd x687 (j91 + 5) ((x687 (j91 + 5)) - ((r637 / r632) * r632))) 21 = (nI sp) := (pk_un (by omega)).trans hk_x687_21
                  have hP : va_P D vwCl [(to, .inl (y 0, 76, .inl (upd x687 (j91 + 5) ((x687 (j91 + 5)) - ((r637 / r632) * r632)))))] H := hP
                  have hD : va_D A [(to, .inl (y 0, 76, .inl (upd x687 (j91 + 5) ((x687 (j91 + 5)) - ((r637 / r632) * r632)))))] := hD
                  refine lv_iload_n hx hb dX11_goStep_139 rfl (lv_at hl 4 rfl) ?_
                  refine lv_iload hx hb dX11_goStep_140 (lv_at hl 1 rfl) ?_
                  refine lv_iload_n hx hb dX11_goStep_142 rfl (lv_at hl 2 rfl) ?_
                  refine lv_imul hx hb dX11_goStep_143 ?_
                  refine lv_iadd hx hb dX11_goStep_144 ?_
                  refine lv_istore_n (lv' := [(1, .int (x310 + ((r637 / r632) * r632))), (5, .int ((x687 (j91 + 5)) - ((r637 / r632) * r632))), (4, .int (r637 / r632)), (3, .int r632), (2, .int (nI j91)), (0, .ref to)]) hx hb dX11_goStep_145 rfl hl (by decide) rfl (fun ls hl => ?_)
                  refine lv_iinc (v := (nI (j91 + 1))) (lv' := [(2, .int (nI (j91 + 1))), (1, .int (x310 + ((r637 / r632) * r632))), (5, .int ((x687 (j91 + 5)) - ((r637 / r632) * r632))), (4, .int (r637 / r632)), (3, .int r632), (0, .ref to)]) hx hb dX11_goStep_146 hl (k := 4) rfl (nI_1 j91) (by decide) rfl (fun ls hl => ?_)
                  refine lv_goto (tgt := 4) hx hb dX11_goStep_149 (by decide) ?_
                  exact ihj91 (j91 + 1) (x310 + ((r637 / r632) * r632)) (upd x687 (j91 + 5) ((x687 (j91 + 5)) - ((r637 / r632) * r632))) H locs ls (by omega) (by omega) hr741 hk742 hk743 hk744 hk745 hk746 hk747 (kz_kk_u (hI0_j92) (by omega)) (hP.sub [0] rfl) (hD.sub [0] (by decide) rfl) hS (lv_sub hl [0, 1, 5] rfl)
                · skip
                  refine lv_iconst (v := 0) hx hb dX11_goStep_132 (by decide) ?_
                  refine lv_goto (tgt := 138) hx hb dX11_goStep_133 (by decide) ?_
                  refine va_iast hx hb hK hP hD hS 0 0 rfl rfl (vp_in_nI (by omega) (by decide)) dX11_goStep_138 (fun H locs hP hD hS => ?_)
                  rw [nI_clamp (n := (j91 + 5)) (by omega)] at hP hD
                  have hr748 : kr_t 76 (upd x687 (j91 + 5) 0) := kr_up hr_x687 (kr_ok0)
                  have hk749 : (upd x687 (j91 + 5) 0) 0 = (nI fi) := (pk_un (by omega)).trans hk_x687_0
                  have hk750 : (upd x687 (j91 + 5) 0) 1 = (nI gl) := (pk_un (by omega)).trans hk_x687_1
                  have hk751 : (upd x687 (j91 + 5) 0) 2 = (nI mi) := (pk_un (by omega)).trans hk_x687_2
                  have hk752 : (upd x687 (j91 + 5) 0) 3 = (nI no) := (pk_un (by omega)).trans hk_x687_3
                  have hk753 : (upd x687 (j91 + 5) 0) 4 = (nI un) := (pk_un (by omega)).trans hk_x687_4
                  have hk754 : (upd x687 (j91 + 5) 0) 21 = (nI sp) := (pk_un (by omega)).trans hk_x687_21
                  have hP : va_P D vwCl [(to, .inl (y 0, 76, .inl (upd x687 (j91 + 5) 0)))] H := hP
                  have hD : va_D A [(to, .inl (y 0, 76, .inl (upd x687 (j91 + 5) 0)))] := hD
                  refine lv_iload_n hx hb dX11_goStep_139 rfl (lv_at hl 4 rfl) ?_
                  refine lv_iload hx hb dX11_goStep_140 (lv_at hl 1 rfl) ?_
                  refine lv_iload_n hx hb dX11_goStep_142 rfl (lv_at hl 2 rfl) ?_
                  refine lv_imul hx hb dX11_goStep_143 ?_
                  refine lv_iadd hx hb dX11_goStep_144 ?_
                  refine lv_istore_n (lv' := [(1, .int (x310 + ((r637 / r632) * r632))), (5, .int ((x687 (j91 + 5)) - ((r637 / r632) * r632))), (4, .int (r637 / r632)), (3, .int r632), (2, .int (nI j91)), (0, .ref to)]) hx hb dX11_goStep_145 rfl hl (by decide) rfl (fun ls hl => ?_)
                  refine lv_iinc (v := (nI (j91 + 1))) (lv' := [(2, .int (nI (j91 + 1))), (1, .int (x310 + ((r637 / r632) * r632))), (5, .int ((x687 (j91 + 5)) - ((r637 / r632) * r632))), (4, .int (r637 / r632)), (3, .int r632), (0, .ref to)]) hx hb dX11_goStep_146 hl (k := 4) rfl (nI_1 j91) (by decide) rfl (fun ls hl => ?_)
                  refine lv_goto (tgt := 4) hx hb dX11_goStep_149 (by decide) ?_
                  exact ihj91 (j91 + 1) (x310 + ((r637 / r632) * r632)) (upd x687 (j91 + 5) 0) H locs ls (by omega) (by omega) hr748 hk749 hk750 hk751 hk752 hk753 hk754 (kz_kk_u (hI0_j92) (by omega)) (hP.sub [0] rfl) (hD.sub [0] (by decide) rfl) hS (lv_sub hl [0, 1, 5] rfl)
              · skip
                have h738 : ¬ gl ≤ j92 := fun q9 => h738 ((nI_leI (a := gl) (b := j92) (by omega) (by omega)).mpr q9)
                refine lv_aload_n hx hb dX11_goStep_49 rfl (lv_at hl 5 rfl) ?_
                refine lv_bipush (v := 11) hx hb dX11_goStep_50 (by decide) ?_
                refine lv_iload hx hb dX11_goStep_52 (lv_at hl 0 rfl) ?_
                refine lv_iadd hx hb dX11_goStep_54 ?_
                rw [show 11 + (nI j92) = nI (j92 + 11) from (nI_add 11 j92).trans (congrArg nI (by omega))]
                refine va_iald hx hb hK hP 0 0 rfl rfl (vp_in_nI (by omega) (by decide)) dX11_goStep_55 ?_
                rw [nI_clamp (n := (j92 + 11)) (by omega)]
                obtain ⟨w755, h756, h757⟩ := kr_at hr_x687 (p := (j92 + 11)) (by omega) (by unfold kr_a; omega)
                rw [h757]
                refine lv_iload_n hx hb dX11_goStep_56 rfl (lv_at hl 3 rfl) ?_
                refine lv_icmp_ne (tgt := 73) hx hb dX11_goStep_57 (by decide) (fun h758 => ?_) (fun h759 => ?_)
                · skip
                  have h758 : ¬ w755 = j91 := fun q9 => h758 ((nI_eq (a := w755) (b := j91) (by omega) (by omega)).mpr q9)
                  refine lv_aload_n hx hb dX11_goStep_73 rfl (lv_at hl 5 rfl) ?_
                  refine lv_bipush (v := 16) hx hb dX11_goStep_74 (by decide) ?_
                  refine lv_iload hx hb dX11_goStep_76 (lv_at hl 0 rfl) ?_
                  refine lv_iadd hx hb dX11_goStep_78 ?_
                  rw [show 16 + (nI j92) = nI (j92 + 16) from (nI_add 16 j92).trans (congrArg nI (by omega))]
                  refine va_iald hx hb hK hP 0 0 rfl rfl (vp_in_nI (by omega) (by decide)) dX11_goStep_79 ?_
                  rw [nI_clamp (n := (j92 + 16)) (by omega)]
                  refine lv_istore (lv' := [(6, .int (x687 (j92 + 16))), (5, .int (nI j92)), (4, .int (r637 / r632)), (3, .int r632), (2, .int (nI j91)), (1, .int x310), (0, .ref to)]) hx hb dX11_goStep_80 hl (by decide) rfl (fun ls hl => ?_)
                  refine lv_aload_n hx hb dX11_goStep_82 rfl (lv_at hl 6 rfl) ?_
                  refine lv_bipush (v := 16) hx hb dX11_goStep_83 (by decide) ?_
                  refine lv_iload hx hb dX11_goStep_85 (lv_at hl 1 rfl) ?_
                  refine lv_iadd hx hb dX11_goStep_87 ?_
                  rw [show 16 + (nI j92) = nI (j92 + 16) from (nI_add 16 j92).trans (congrArg nI (by omega))]
                  refine lv_iload hx hb dX11_goStep_88 (lv_at hl 0 rfl) ?_
                  refine lv_sipush (v := 999) hx hb dX11_goStep_90 (by decide) ?_
                  refine lv_icmp_le (tgt := 102) hx hb dX11_goStep_93 (by decide) (fun h760 => ?_) (fun h761 => ?_)
                  · skip
                    refine lv_iload hx hb dX11_goStep_102 (lv_at hl 0 rfl) ?_
                    refine va_iast hx hb hK hP hD hS 0 0 rfl rfl (vp_in_nI (by omega) (by decide)) dX11_goStep_104 (fun H locs hP hD hS => ?_)
                    rw [nI_clamp (n := (j92 + 16)) (by omega)] at hP hD
                    have hr762 : kr_t 76 (upd x687 (j92 + 16) (x687 (j92 + 16))) := kr_up hr_x687 (kr_move (p := (j92 + 16)) (hr_x687 (j92 + 16) (by omega)) (by unfold kr_a; omega) (by unfold kr_s; omega))
                    have hk763 : (upd x687 (j92 + 16) (x687 (j92 + 16))) 0 = (nI fi) := (pk_un (by omega)).trans hk_x687_0
                    have hk764 : (upd x687 (j92 + 16) (x687 (j92 + 16))) 1 = (nI gl) := (pk_un (by omega)).trans hk_x687_1
                    have hk765 : (upd x687 (j92 + 16) (x687 (j92 + 16))) 2 = (nI mi) := (pk_un (by omega)).trans hk_x687_2
                    have hk766 : (upd x687 (j92 + 16) (x687 (j92 + 16))) 3 = (nI no) := (pk_un (by omega)).trans hk_x687_3
                    have hk767 : (upd x687 (j92 + 16) (x687 (j92 + 16))) 4 = (nI un) := (pk_un (by omega)).trans hk_x687_4
                    have hk768 : (upd x687 (j92 + 16) (x687 (j92 + 16))) 21 = (nI sp) := (pk_un (by omega)).trans hk_x687_21
                    have hP : va_P D vwCl [(to, .inl (y 0, 76, .inl (upd x687 (j92 + 16) (x687 (j92 + 16)))))] H := hP
                    have hD : va_D A [(to, .inl (y 0, 76, .inl (upd x687 (j92 + 16) (x687 (j92 + 16)))))] := hD
                    refine lv_iinc (v := (nI (j92 + 1))) (lv' := [(5, .int (nI (j92 + 1))), (6, .int (x687 (j92 + 16))), (4, .int (r637 / r632)), (3, .int r632), (2, .int (nI j91)), (1, .int x310), (0, .ref to)]) hx hb dX11_goStep_105 hl (k := 1) rfl (nI_1 j92) (by decide) rfl (fun ls hl => ?_)
                    refine lv_goto (tgt := 41) hx hb dX11_goStep_108 (by decide) ?_
                    exact ihj92 (j92 + 1) (upd x687 (j92 + 16) (x687 (j92 + 16))) H locs ls (by omega) (by omega) hr762 hk763 hk764 hk765 hk766 hk767 hk768 (kz_kk_u (hI0_j92) (by omega)) (hP.sub [0] rfl) (hD.sub [0] (by decide) rfl) hS (lv_sub hl [0, 2, 3, 4, 5, 6] rfl)
                  · skip
                    exact absurd ((hr_x687 (j92 + 16) (by omega)).2 (by unfold kr_s; omega)) h761
                · skip
                  have h759 : w755 = j91 := (nI_eq (a := w755) (b := j91) (by omega) (by omega)).mp h759
                  refine lv_aload_n hx hb dX11_goStep_60 rfl (lv_at hl 5 rfl) ?_
                  refine lv_bipush (v := 16) hx hb dX11_goStep_61 (by decide) ?_
                  refine lv_iload hx hb dX11_goStep_63 (lv_at hl 0 rfl) ?_
                  refine lv_iadd hx hb dX11_goStep_65 ?_
                  rw [show 16 + (nI j92) = nI (j92 + 16) from (nI_add 16 j92).trans (congrArg nI (by omega))]
                  refine va_iald hx hb hK hP 0 0 rfl rfl (vp_in_nI (by omega) (by decide)) dX11_goStep_66 ?_
                  rw [nI_clamp (n := (j92 + 16)) (by omega)]
                  refine lv_iload hx hb dX11_goStep_67 (lv_at hl 1 rfl) ?_
                  refine lv_iadd hx hb dX11_goStep_69 ?_
                  refine lv_goto (tgt := 80) hx hb dX11_goStep_70 (by decide) ?_
                  refine lv_istore (lv' := [(6, .int ((x687 (j92 + 16)) + (r637 / r632))), (5, .int (nI j92)), (4, .int (r637 / r632)), (3, .int r632), (2, .int (nI j91)), (1, .int x310), (0, .ref to)]) hx hb dX11_goStep_80 hl (by decide) rfl (fun ls hl => ?_)
                  refine lv_aload_n hx hb dX11_goStep_82 rfl (lv_at hl 6 rfl) ?_
                  refine lv_bipush (v := 16) hx hb dX11_goStep_83 (by decide) ?_
                  refine lv_iload hx hb dX11_goStep_85 (lv_at hl 1 rfl) ?_
                  refine lv_iadd hx hb dX11_goStep_87 ?_
                  rw [show 16 + (nI j92) = nI (j92 + 16) from (nI_add 16 j92).trans (congrArg nI (by omega))]
                  refine lv_iload hx hb dX11_goStep_88 (lv_at hl 0 rfl) ?_
                  refine lv_sipush (v := 999) hx hb dX11_goStep_90 (by decide) ?_
                  refine lv_icmp_le (tgt := 102) hx hb dX11_goStep_93 (by decide) (fun h769 => ?_) (fun h770 => ?_)
                  · skip
                    refine lv_iload hx hb dX11_goStep_102 (lv_at hl 0 rfl) ?_
                    refine va_iast hx hb hK hP hD hS 0 0 rfl rfl (vp_in_nI (by omega) (by decide)) dX11_goStep_104 (fun H locs hP hD hS => ?_)
                    rw [nI_clamp (n := (j92 + 16)) (by omega)] at hP hD
                    have hr771 : kr_t 76 (upd x687 (j92 + 16) ((x687 (j92 + 16)) + (r637 / r632))) := kr_up hr_x687 (kr_oks (by unfold kr_a; omega) (h769))
                    have hk772 : (upd x687 (j92 + 16) ((x687 (j92 + 16)) + (r637 / r632))) 0 = (nI fi) := (pk_un (by omega)).trans hk_x687_0
                    have hk773 : (upd x687 (j92 + 16) ((x687 (j92 + 16)) + (r637 / r632))) 1 = (nI gl) := (pk_un (by omega)).trans hk_x687_1
                    have hk774 : (upd x687 (j92 + 16) ((x687 (j92 + 16)) + (r637 / r632))) 2 = (nI mi) := (pk_un (by omega)).trans hk_x687_2
                    have hk775 : (upd x687 (j92 + 16) ((x687 (j92 + 16)) + (r637 / r632))) 3 = (nI no) := (pk_un (by omega)).trans hk_x687_3
                    have hk776 : (upd x687 (j92 + 16) ((x687 (j92 + 16)) + (r637 / r632))) 4 = (nI un) := (pk_un (by omega)).trans hk_x687_4
                    have hk777 : (upd x687 (j92 + 16) ((x687 (j92 + 16)) + (r637 / r632))) 21 = (nI sp) := (pk_un (by omega)).trans hk_x687_21
                    have hP : va_P D vwCl [(to, .inl (y 0, 76, .inl (upd x687 (j92 + 16) ((x687 (j92 + 16)) + (r637 / r632)))))] H := hP
                    have hD : va_D A [(to, .inl (y 0, 76, .inl (upd x687 (j92 + 16) ((x687 (j92 + 16)) + (r637 / r632)))))] := hD
                    refine lv_iinc (v := (nI (j92 + 1))) (lv' := [(5, .int (nI (j92 + 1))), (6, .int ((x687 (j92 + 16)) + (r637 / r632))), (4, .int (r637 / r632)), (3, .int r632), (2, .int (nI j91)), (1, .int x310), (0, .ref to)]) hx hb dX11_goStep_105 hl (k := 1) rfl (nI_1 j92) (by decide) rfl (fun ls hl => ?_)
                    refine lv_goto (tgt := 41) hx hb dX11_goStep_108 (by decide) ?_
                    exact ihj92 (j92 + 1) (upd x687 (j92 + 16) ((x687 (j92 + 16)) + (r637 / r632))) H locs ls (by omega) (by omega) hr771 hk772 hk773 hk774 hk775 hk776 hk777 (kz_kk_u (hI0_j92) (by omega)) (hP.sub [0] rfl) (hD.sub [0] (by decide) rfl) hS (lv_sub hl [0, 2, 3, 4, 5, 6] rfl)
                  · skip
                    refine lv_sipush (v := 999) hx hb dX11_goStep_96 (by decide) ?_
                    refine lv_goto (tgt := 104) hx hb dX11_goStep_99 (by decide) ?_
                    refine va_iast hx hb hK hP hD hS 0 0 rfl rfl (vp_in_nI (by omega) (by decide)) dX11_goStep_104 (fun H locs hP hD hS => ?_)
                    rw [nI_clamp (n := (j92 + 16)) (by omega)] at hP hD
                    have hr778 : kr_t 76 (upd x687 (j92 + 16) 999) := kr_up hr_x687 (kr_oks (by unfold kr_a; omega) (by decide))
                    have hk779 : (upd x687 (j92 + 16) 999) 0 = (nI fi) := (pk_un (by omega)).trans hk_x687_0
                    have hk780 : (upd x687 (j92 + 16) 999) 1 = (nI gl) := (pk_un (by omega)).trans hk_x687_1
                    have hk781 : (upd x687 (j92 + 16) 999) 2 = (nI mi) := (pk_un (by omega)).trans hk_x687_2
                    have hk782 : (upd x687 (j92 + 16) 999) 3 = (nI no) := (pk_un (by omega)).trans hk_x687_3
                    have hk783 : (upd x687 (j92 + 16) 999) 4 = (nI un) := (pk_un (by omega)).trans hk_x687_4
                    have hk784 : (upd x687 (j92 + 16) 999) 21 = (nI sp) := (pk_un (by omega)).trans hk_x687_21
                    have hP : va_P D vwCl [(to, .inl (y 0, 76, .inl (upd x687 (j92 + 16) 999)))] H := hP
                    have hD : va_D A [(to, .inl (y 0, 76, .inl (upd x687 (j92 + 16) 999)))] := hD
                    refine lv_iinc (v := (nI (j92 + 1))) (lv' := [(5, .int (nI (j92 + 1))), (6, .int ((x687 (j92 + 16)) + (r637 / r632))), (4, .int (r637 / r632)), (3, .int r632), (2, .int (nI j91)), (1, .int x310), (0, .ref to)]) hx hb dX11_goStep_105 hl (k := 1) rfl (nI_1 j92) (by decide) rfl (fun ls hl => ?_)
                    refine lv_goto (tgt := 41) hx hb dX11_goStep_108 (by decide) ?_
                    exact ihj92 (j92 + 1) (upd x687 (j92 + 16) 999) H locs ls (by omega) (by omega) hr778 hk779 hk780 hk781 hk782 hk783 hk784 (kz_kk_u (hI0_j92) (by omega)) (hP.sub [0] rfl) (hD.sub [0] (by decide) rfl) hS (lv_sub hl [0, 2, 3, 4, 5, 6] rfl)
          exact lp736 (gl + 1) 0 x311 _ _ _ (by omega) (by omega) hr_x311 hk_x311_0 hk_x311_1 hk_x311_2 hk_x311_3 hk_x311_4 hk_x311_21 hI0_j91 hP hD hS (lv_sub hl [0, 1, 2, 3, 4, 5] rfl)
        · skip
          refine lv_iconst (v := 0) hx hb dX11_goStep_21 (by decide) ?_
          refine lv_goto (tgt := 36) hx hb dX11_goStep_22 (by decide) ?_
          refine lv_istore (lv' := [(4, .int 0), (3, .int r632), (2, .int (nI j91)), (1, .int x310), (0, .ref to)]) hx hb dX11_goStep_36 hl (by decide) rfl (fun ls hl => ?_)
          refine lv_iconst (v := 0) hx hb dX11_goStep_38 (by decide) ?_
          refine lv_istore (lv' := [(5, .int 0), (4, .int 0), (3, .int r632), (2, .int (nI j91)), (1, .int x310), (0, .ref to)]) hx hb dX11_goStep_39 hl (by decide) rfl (fun ls hl => ?_)
          have lp882 : ∀ (fuj92 j92 : Nat) (x833 : Nat → Int32) (H : Heap) (locs : List Loc) (ls : Array Slot), j92 ≤ gl → gl - j92 < fuj92 → kr_t 76 x833 → x833 0 = (nI fi) → x833 1 = (nI gl) → x833 2 = (nI mi) → x833 3 = (nI no) → x833 4 = (nI un) → x833 21 = (nI sp) → kz_kk ft x833 → va_P D vwCl [(to, .inl (y 0, 76, .inl x833))] H → va_D A [(to, .inl (y 0, 76, .inl x833))] → va_S A s.heap H locs → lv_has ls 7 [(5, .int (nI j92)), (4, .int 0), (3, .int r632), (2, .int (nI j91)), (1, .int x310), (0, .ref to)] → W pZ l eZ ({ frames := 5, cells := 0, slots := 0, locals := 151 }) s mZ [.ref to].toArray beZ meZ cZ H locs 0 0 (MQ beZ (va_Qi (fun (r : Int32) (u : (Nat → Int32)) => kr_t 76 u ∧ u 0 = (nI fi) ∧ u 1 = (nI gl) ∧ u 2 = (nI mi) ∧ u 3 = (nI no) ∧ u 4 = (nI un) ∧ u 21 = (nI (sp + 1)) ∧ kz_kk ft u) (kw_B D (fun u => [(to, .inl (y 0, 76, .inl u))]) A) A) [.ref to].toArray s 0 0 A) (F0 mZ 41 ls []) := by
            intro fuj92
            induction fuj92 with
            | zero => intro j92 x833 H locs ls hj9 hf9; exact absurd hf9 (Nat.not_lt_zero _)
            | succ fuj92 ihj92 =>
              intro j92 x833 H locs ls hj92 hfj92 hr_x833 hk_x833_0 hk_x833_1 hk_x833_2 hk_x833_3 hk_x833_4 hk_x833_21 hI0_j92 hP hD hS hl
              refine lv_iload hx hb dX11_goStep_41 (lv_at hl 0 rfl) ?_
              refine lv_aload_n hx hb dX11_goStep_43 rfl (lv_at hl 5 rfl) ?_
              refine lv_iconst (v := 1) hx hb dX11_goStep_44 (by decide) ?_
              refine va_iald hx hb hK hP 0 0 rfl rfl (by unfold vp_in; decide) dX11_goStep_45 ?_
              rw [show ((1 : Int32)).toNatClampNeg = 1 from rfl]
              rw [show (x833 1) = (nI gl) from hk_x833_1]
              refine lv_icmp_ge (tgt := 111) hx hb dX11_goStep_46 (by decide) (fun h883 => ?_) (fun h884 => ?_)
              · skip
                have h883 : gl ≤ j92 := (nI_leI (a := gl) (b := j92) (by omega) (by omega)).mp h883
                refine lv_aload_n hx hb dX11_goStep_111 rfl (lv_at hl 5 rfl) ?_
                refine lv_iconst (v := 5) hx hb dX11_goStep_112 (by decide) ?_
                refine lv_iload_n hx hb dX11_goStep_113 rfl (lv_at hl 3 rfl) ?_
                refine lv_iadd hx hb dX11_goStep_114 ?_
                rw [show 5 + (nI j91) = nI (j91 + 5) from (nI_add 5 j91).trans (congrArg nI (by omega))]
                refine va_iald hx hb hK hP 0 0 rfl rfl (vp_in_nI (by omega) (by decide)) dX11_goStep_115 ?_
                rw [nI_clamp (n := (j91 + 5)) (by omega)]
                refine lv_iload hx hb dX11_goStep_116 (lv_at hl 1 rfl) ?_
                refine lv_iload_n hx hb dX11_goStep_118 rfl (lv_at hl 2 rfl) ?_
                refine lv_imul hx hb dX11_goStep_119 ?_
                refine lv_isub hx hb dX11_goStep_120 ?_
                refine lv_istore (lv' := [(5, .int ((x833 (j91 + 5)) - (0 * r632))), (4, .int 0), (3, .int r632), (2, .int (nI j91)), (1, .int x310), (0, .ref to)]) hx hb dX11_goStep_121 hl (by decide) rfl (fun ls hl => ?_)
                refine lv_aload_n hx hb dX11_goStep_123 rfl (lv_at hl 5 rfl) ?_
                refine lv_iconst (v := 5) hx hb dX11_goStep_124 (by decide) ?_
                refine lv_iload_n hx hb dX11_goStep_125 rfl (lv_at hl 3 rfl) ?_
                refine lv_iadd hx hb dX11_goStep_126 ?_
                rw [show 5 + (nI j91) = nI (j91 + 5) from (nI_add 5 j91).trans (congrArg nI (by omega))]
                refine lv_iload hx hb dX11_goStep_127 (lv_at hl 0 rfl) ?_
                refine lv_if_ge (tgt := 136) hx hb dX11_goStep_129 (by decide) (fun h885 => ?_) (fun h886 => ?_)
                · skip
                  refine lv_iload hx hb dX11_goStep_136 (lv_at hl 0 rfl) ?_
                  refine va_iast hx hb hK hP hD hS 0 0 rfl rfl (vp_in_nI (by omega) (by decide)) dX11_goStep_138 (fun H locs hP hD hS => ?_)
                  rw [nI_clamp (n := (j91 + 5)) (by omega)] at hP hD
                  have hr887 : kr_t 76 (upd x833 (j91 + 5) ((x833 (j91 + 5)) - (0 * r632))) := kr_up hr_x833 (kr_free (by unfold kr_a; omega) (by unfold kr_s; omega))
                  have hk888 : (upd x833 (j91 + 5) ((x833 (j91 + 5)) - (0 * r632))) 0 = (nI fi) := (pk_un (by omega)).trans hk_x833_0
                  have hk889 : (upd x833 (j91 + 5) ((x833 (j91 + 5)) - (0 * r632))) 1 = (nI gl) := (pk_un (by omega)).trans hk_x833_1
                  have hk890 : (upd x833 (j91 + 5) ((x833 (j91 + 5)) - (0 * r632))) 2 = (nI mi) := (pk_un (by omega)).trans hk_x833_2
                  have hk891 : (upd x833 (j91 + 5) ((x833 (j91 + 5)) - (0 * r632))) 3 = (nI no) := (pk_un (by omega)).trans hk_x833_3
                  have hk892 : (upd x833 (j91 + 5) ((x833 (j91 + 5)) - (0 * r632))) 4 = (nI un) := (pk_un (by omega)).trans hk_x833_4
                  have hk893 : (upd x833 (j91 + 5) ((x833 (j91 + 5)) - (0 * r632))) 21 = (nI sp) := (pk_un (by omega)).trans hk_x833_21
                  have hP : va_P D vwCl [(to, .inl (y 0, 76, .inl (upd x833 (j91 + 5) ((x833 (j91 + 5)) - (0 * r632)))))] H := hP
                  have hD : va_D A [(to, .inl (y 0, 76, .inl (upd x833 (j91 + 5) ((x833 (j91 + 5)) - (0 * r632)))))] := hD
                  refine lv_iload_n hx hb dX11_goStep_139 rfl (lv_at hl 4 rfl) ?_
                  refine lv_iload hx hb dX11_goStep_140 (lv_at hl 1 rfl) ?_
                  refine lv_iload_n hx hb dX11_goStep_142 rfl (lv_at hl 2 rfl) ?_
                  refine lv_imul hx hb dX11_goStep_143 ?_
                  refine lv_iadd hx hb dX11_goStep_144 ?_
                  refine lv_istore_n (lv' := [(1, .int (x310 + (0 * r632))), (5, .int ((x833 (j91 + 5)) - (0 * r632))), (4, .int 0), (3, .int r632), (2, .int (nI j91)), (0, .ref to)]) hx hb dX11_goStep_145 rfl hl (by decide) rfl (fun ls hl => ?_)
                  refine lv_iinc (v := (nI (j91 + 1))) (lv' := [(2, .int (nI (j91 + 1))), (1, .int (x310 + (0 * r632))), (5, .int ((x833 (j91 + 5)) - (0 * r632))), (4, .int 0), (3, .int r632), (0, .ref to)]) hx hb dX11_goStep_146 hl (k := 4) rfl (nI_1 j91) (by decide) rfl (fun ls hl => ?_)
                  refine lv_goto (tgt := 4) hx hb dX11_goStep_149 (by decide) ?_
                  exact ihj91 (j91 + 1) (x310 + (0 * r632)) (upd x833 (j91 + 5) ((x833 (j91 + 5)) - (0 * r632))) H locs ls (by omega) (by omega) hr887 hk888 hk889 hk890 hk891 hk892 hk893 (kz_kk_u (hI0_j92) (by omega)) (hP.sub [0] rfl) (hD.sub [0] (by decide) rfl) hS (lv_sub hl [0, 1, 5] rfl)
                · skip
                  refine lv_iconst (v := 0) hx hb dX11_goStep_132 (by decide) ?_
                  refine lv_goto (tgt := 138) hx hb dX11_goStep_133 (by decide) ?_
                  refine va_iast hx hb hK hP hD hS 0 0 rfl rfl (vp_in_nI (by omega) (by decide)) dX11_goStep_138 (fun H locs hP hD hS => ?_)
                  rw [nI_clamp (n := (j91 + 5)) (by omega)] at hP hD
                  have hr894 : kr_t 76 (upd x833 (j91 + 5) 0) := kr_up hr_x833 (kr_ok0)
                  have hk895 : (upd x833 (j91 + 5) 0) 0 = (nI fi) := (pk_un (by omega)).trans hk_x833_0
                  have hk896 : (upd x833 (j91 + 5) 0) 1 = (nI gl) := (pk_un (by omega)).trans hk_x833_1
                  have hk897 : (upd x833 (j91 + 5) 0) 2 = (nI mi) := (pk_un (by omega)).trans hk_x833_2
                  have hk898 : (upd x833 (j91 + 5) 0) 3 = (nI no) := (pk_un (by omega)).trans hk_x833_3
                  have hk899 : (upd x833 (j91 + 5) 0) 4 = (nI un) := (pk_un (by omega)).trans hk_x833_4
                  have hk900 : (upd x833 (j91 + 5) 0) 21 = (nI sp) := (pk_un (by omega)).trans hk_x833_21
                  have hP : va_P D vwCl [(to, .inl (y 0, 76, .inl (upd x833 (j91 + 5) 0)))] H := hP
                  have hD : va_D A [(to, .inl (y 0, 76, .inl (upd x833 (j91 + 5) 0)))] := hD
                  refine lv_iload_n hx hb dX11_goStep_139 rfl (lv_at hl 4 rfl) ?_
                  refine lv_iload hx hb dX11_goStep_140 (lv_at hl 1 rfl) ?_
                  refine lv_iload_n hx hb dX11_goStep_142 rfl (lv_at hl 2 rfl) ?_
                  refine lv_imul hx hb dX11_goStep_143 ?_
                  refine lv_iadd hx hb dX11_goStep_144 ?_
                  refine lv_istore_n (lv' := [(1, .int (x310 + (0 * r632))), (5, .int ((x833 (j91 + 5)) - (0 * r632))), (4, .int 0), (3, .int r632), (2, .int (nI j91)), (0, .ref to)]) hx hb dX11_goStep_145 rfl hl (by decide) rfl (fun ls hl => ?_)
                  refine lv_iinc (v := (nI (j91 + 1))) (lv' := [(2, .int (nI (j91 + 1))), (1, .int (x310 + (0 * r632))), (5, .int ((x833 (j91 + 5)) - (0 * r632))), (4, .int 0), (3, .int r632), (0, .ref to)]) hx hb dX11_goStep_146 hl (k := 4) rfl (nI_1 j91) (by decide) rfl (fun ls hl => ?_)
                  refine lv_goto (tgt := 4) hx hb dX11_goStep_149 (by decide) ?_
                  exact ihj91 (j91 + 1) (x310 + (0 * r632)) (upd x833 (j91 + 5) 0) H locs ls (by omega) (by omega) hr894 hk895 hk896 hk897 hk898 hk899 hk900 (kz_kk_u (hI0_j92) (by omega)) (hP.sub [0] rfl) (hD.sub [0] (by decide) rfl) hS (lv_sub hl [0, 1, 5] rfl)
              · skip
                have h884 : ¬ gl ≤ j92 := fun q9 => h884 ((nI_leI (a := gl) (b := j92) (by omega) (by omega)).mpr q9)
                refine lv_aload_n hx hb dX11_goStep_49 rfl (lv_at hl 5 rfl) ?_
                refine lv_bipush (v := 11) hx hb dX11_goStep_50 (by decide) ?_
                refine lv_iload hx hb dX11_goStep_52 (lv_at hl 0 rfl) ?_
                refine lv_iadd hx hb dX11_goStep_54 ?_
                rw [show 11 + (nI j92) = nI (j92 + 11) from (nI_add 11 j92).trans (congrArg nI (by omega))]
                refine va_iald hx hb hK hP 0 0 rfl rfl (vp_in_nI (by omega) (by decide)) dX11_goStep_55 ?_
                rw [nI_clamp (n := (j92 + 11)) (by omega)]
                obtain ⟨w901, h902, h903⟩ := kr_at hr_x833 (p := (j92 + 11)) (by omega) (by unfold kr_a; omega)
                rw [h903]
                refine lv_iload_n hx hb dX11_goStep_56 rfl (lv_at hl 3 rfl) ?_
                refine lv_icmp_ne (tgt := 73) hx hb dX11_goStep_57 (by decide) (fun h904 => ?_) (fun h905 => ?_)
                · skip
                  have h904 : ¬ w901 = j91 := fun q9 => h904 ((nI_eq (a := w901) (b := j91) (by omega) (by omega)).mpr q9)
                  refine lv_aload_n hx hb dX11_goStep_73 rfl (lv_at hl 5 rfl) ?_
                  refine lv_bipush (v := 16) hx hb dX11_goStep_74 (by decide) ?_
                  refine lv_iload hx hb dX11_goStep_76 (lv_at hl 0 rfl) ?_
                  refine lv_iadd hx hb dX11_goStep_78 ?_
                  rw [show 16 + (nI j92) = nI (j92 + 16) from (nI_add 16 j92).trans (congrArg nI (by omega))]
                  refine va_iald hx hb hK hP 0 0 rfl rfl (vp_in_nI (by omega) (by decide)) dX11_goStep_79 ?_
                  rw [nI_clamp (n := (j92 + 16)) (by omega)]
                  refine lv_istore (lv' := [(6, .int (x833 (j92 + 16))), (5, .int (nI j92)), (4, .int 0), (3, .int r632), (2, .int (nI j91)), (1, .int x310), (0, .ref to)]) hx hb dX11_goStep_80 hl (by decide) rfl (fun ls hl => ?_)
                  refine lv_aload_n hx hb dX11_goStep_82 rfl (lv_at hl 6 rfl) ?_
                  refine lv_bipush (v := 16) hx hb dX11_goStep_83 (by decide) ?_
                  refine lv_iload hx hb dX11_goStep_85 (lv_at hl 1 rfl) ?_
                  refine lv_iadd hx hb dX11_goStep_87 ?_
                  rw [show 16 + (nI j92) = nI (j92 + 16) from (nI_add 16 j92).trans (congrArg nI (by omega))]
                  refine lv_iload hx hb dX11_goStep_88 (lv_at hl 0 rfl) ?_
                  refine lv_sipush (v := 999) hx hb dX11_goStep_90 (by decide) ?_
                  refine lv_icmp_le (tgt := 102) hx hb dX11_goStep_93 (by decide) (fun h906 => ?_) (fun h907 => ?_)
                  · skip
                    refine lv_iload hx hb dX11_goStep_102 (lv_at hl 0 rfl) ?_
                    refine va_iast hx hb hK hP hD hS 0 0 rfl rfl (vp_in_nI (by omega) (by decide)) dX11_goStep_104 (fun H locs hP hD hS => ?_)
                    rw [nI_clamp (n := (j92 + 16)) (by omega)] at hP hD
                    have hr908 : kr_t 76 (upd x833 (j92 + 16) (x833 (j92 + 16))) := kr_up hr_x833 (kr_move (p := (j92 + 16)) (hr_x833 (j92 + 16) (by omega)) (by unfold kr_a; omega) (by unfold kr_s; omega))
                    have hk909 : (upd x833 (j92 + 16) (x833 (j92 + 16))) 0 = (nI fi) := (pk_un (by omega)).trans hk_x833_0
                    have hk910 : (upd x833 (j92 + 16) (x833 (j92 + 16))) 1 = (nI gl) := (pk_un (by omega)).trans hk_x833_1
                    have hk911 : (upd x833 (j92 + 16) (x833 (j92 + 16))) 2 = (nI mi) := (pk_un (by omega)).trans hk_x833_2
                    have hk912 : (upd x833 (j92 + 16) (x833 (j92 + 16))) 3 = (nI no) := (pk_un (by omega)).trans hk_x833_3
                    have hk913 : (upd x833 (j92 + 16) (x833 (j92 + 16))) 4 = (nI un) := (pk_un (by omega)).trans hk_x833_4
                    have hk914 : (upd x833 (j92 + 16) (x833 (j92 + 16))) 21 = (nI sp) := (pk_un (by omega)).trans hk_x833_21
                    have hP : va_P D vwCl [(to, .inl (y 0, 76, .inl (upd x833 (j92 + 16) (x833 (j92 + 16)))))] H := hP
                    have hD : va_D A [(to, .inl (y 0, 76, .inl (upd x833 (j92 + 16) (x833 (j92 + 16)))))] := hD
                    refine lv_iinc (v := (nI (j92 + 1))) (lv' := [(5, .int (nI (j92 + 1))), (6, .int (x833 (j92 + 16))), (4, .int 0), (3, .int r632), (2, .int (nI j91)), (1, .int x310), (0, .ref to)]) hx hb dX11_goStep_105 hl (k := 1) rfl (nI_1 j92) (by decide) rfl (fun ls hl => ?_)
                    refine lv_goto (tgt := 41) hx hb dX11_goStep_108 (by decide) ?_
                    exact ihj92 (j92 + 1) (upd x833 (j92 + 16) (x833 (j92 + 16))) H locs ls (by omega) (by omega) hr908 hk909 hk910 hk911 hk912 hk913 hk914 (kz_kk_u (hI0_j92) (by omega)) (hP.sub [0] rfl) (hD.sub [0] (by decide) rfl) hS (lv_sub hl [0, 2, 3, 4, 5, 6] rfl)
                  · skip
                    exact absurd ((hr_x833 (j92 + 16) (by omega)).2 (by unfold kr_s; omega)) h907
                · skip
                  have h905 : w901 = j91 := (nI_eq (a := w901) (b := j91) (by omega) (by omega)).mp h905
                  refine lv_aload_n hx hb dX11_goStep_60 rfl (lv_at hl 5 rfl) ?_
                  refine lv_bipush (v := 16) hx hb dX11_goStep_61 (by decide) ?_
                  refine lv_iload hx hb dX11_goStep_63 (lv_at hl 0 rfl) ?_
                  refine lv_iadd hx hb dX11_goStep_65 ?_
                  rw [show 16 + (nI j92) = nI (j92 + 16) from (nI_add 16 j92).trans (congrArg nI (by omega))]
                  refine va_iald hx hb hK hP 0 0 rfl rfl (vp_in_nI (by omega) (by decide)) dX11_goStep_66 ?_
                  rw [nI_clamp (n := (j92 + 16)) (by omega)]
                  refine lv_iload hx hb dX11_goStep_67 (lv_at hl 1 rfl) ?_
                  refine lv_iadd hx hb dX11_goStep_69 ?_
                  refine lv_goto (tgt := 80) hx hb dX11_goStep_70 (by decide) ?_
                  refine lv_istore (lv' := [(6, .int ((x833 (j92 + 16)) + 0)), (5, .int (nI j92)), (4, .int 0), (3, .int r632), (2, .int (nI j91)), (1, .int x310), (0, .ref to)]) hx hb dX11_goStep_80 hl (by decide) rfl (fun ls hl => ?_)
                  refine lv_aload_n hx hb dX11_goStep_82 rfl (lv_at hl 6 rfl) ?_
                  refine lv_bipush (v := 16) hx hb dX11_goStep_83 (by decide) ?_
                  refine lv_iload hx hb dX11_goStep_85 (lv_at hl 1 rfl) ?_
                  refine lv_iadd hx hb dX11_goStep_87 ?_
                  rw [show 16 + (nI j92) = nI (j92 + 16) from (nI_add 16 j92).trans (congrArg nI (by omega))]
                  refine lv_iload hx hb dX11_goStep_88 (lv_at hl 0 rfl) ?_
                  refine lv_sipush (v := 999) hx hb dX11_goStep_90 (by decide) ?_
                  refine lv_icmp_le (tgt := 102) hx hb dX11_goStep_93 (by decide) (fun h915 => ?_) (fun h916 => ?_)
                  · skip
                    refine lv_iload hx hb dX11_goStep_102 (lv_at hl 0 rfl) ?_
                    refine va_iast hx hb hK hP hD hS 0 0 rfl rfl (vp_in_nI (by omega) (by decide)) dX11_goStep_104 (fun H locs hP hD hS => ?_)
                    rw [nI_clamp (n := (j92 + 16)) (by omega)] at hP hD
                    have hr917 : kr_t 76 (upd x833 (j92 + 16) ((x833 (j92 + 16)) + 0)) := kr_up hr_x833 (kr_oks (by unfold kr_a; omega) (h915))
                    have hk918 : (upd x833 (j92 + 16) ((x833 (j92 + 16)) + 0)) 0 = (nI fi) := (pk_un (by omega)).trans hk_x833_0
                    have hk919 : (upd x833 (j92 + 16) ((x833 (j92 + 16)) + 0)) 1 = (nI gl) := (pk_un (by omega)).trans hk_x833_1
                    have hk920 : (upd x833 (j92 + 16) ((x833 (j92 + 16)) + 0)) 2 = (nI mi) := (pk_un (by omega)).trans hk_x833_2
                    have hk921 : (upd x833 (j92 + 16) ((x833 (j92 + 16)) + 0)) 3 = (nI no) := (pk_un (by omega)).trans hk_x833_3
                    have hk922 : (upd x833 (j92 + 16) ((x833 (j92 + 16)) + 0)) 4 = (nI un) := (pk_un (by omega)).trans hk_x833_4
                    have hk923 : (upd x833 (j92 + 16) ((x833 (j92 + 16)) + 0)) 21 = (nI sp) := (pk_un (by omega)).trans hk_x833_21
                    have hP : va_P D vwCl [(to, .inl (y 0, 76, .inl (upd x833 (j92 + 16) ((x833 (j92 + 16)) + 0))))] H := hP
                    have hD : va_D A [(to, .inl (y 0, 76, .inl (upd x833 (j92 + 16) ((x833 (j92 + 16)) + 0))))] := hD
                    refine lv_iinc (v := (nI (j92 + 1))) (lv' := [(5, .int (nI (j92 + 1))), (6, .int ((x833 (j92 + 16)) + 0)), (4, .int 0), (3, .int r632), (2, .int (nI j91)), (1, .int x310), (0, .ref to)]) hx hb dX11_goStep_105 hl (k := 1) rfl (nI_1 j92) (by decide) rfl (fun ls hl => ?_)
                    refine lv_goto (tgt := 41) hx hb dX11_goStep_108 (by decide) ?_
                    exact ihj92 (j92 + 1) (upd x833 (j92 + 16) ((x833 (j92 + 16)) + 0)) H locs ls (by omega) (by omega) hr917 hk918 hk919 hk920 hk921 hk922 hk923 (kz_kk_u (hI0_j92) (by omega)) (hP.sub [0] rfl) (hD.sub [0] (by decide) rfl) hS (lv_sub hl [0, 2, 3, 4, 5, 6] rfl)
                  · skip
                    refine lv_sipush (v := 999) hx hb dX11_goStep_96 (by decide) ?_
                    refine lv_goto (tgt := 104) hx hb dX11_goStep_99 (by decide) ?_
                    refine va_iast hx hb hK hP hD hS 0 0 rfl rfl (vp_in_nI (by omega) (by decide)) dX11_goStep_104 (fun H locs hP hD hS => ?_)
                    rw [nI_clamp (n := (j92 + 16)) (by omega)] at hP hD
                    have hr924 : kr_t 76 (upd x833 (j92 + 16) 999) := kr_up hr_x833 (kr_oks (by unfold kr_a; omega) (by decide))
                    have hk925 : (upd x833 (j92 + 16) 999) 0 = (nI fi) := (pk_un (by omega)).trans hk_x833_0
                    have hk926 : (upd x833 (j92 + 16) 999) 1 = (nI gl) := (pk_un (by omega)).trans hk_x833_1
                    have hk927 : (upd x833 (j92 + 16) 999) 2 = (nI mi) := (pk_un (by omega)).trans hk_x833_2
                    have hk928 : (upd x833 (j92 + 16) 999) 3 = (nI no) := (pk_un (by omega)).trans hk_x833_3
                    have hk929 : (upd x833 (j92 + 16) 999) 4 = (nI un) := (pk_un (by omega)).trans hk_x833_4
                    have hk930 : (upd x833 (j92 + 16) 999) 21 = (nI sp) := (pk_un (by omega)).trans hk_x833_21
                    have hP : va_P D vwCl [(to, .inl (y 0, 76, .inl (upd x833 (j92 + 16) 999)))] H := hP
                    have hD : va_D A [(to, .inl (y 0, 76, .inl (upd x833 (j92 + 16) 999)))] := hD
                    refine lv_iinc (v := (nI (j92 + 1))) (lv' := [(5, .int (nI (j92 + 1))), (6, .int ((x833 (j92 + 16)) + 0)), (4, .int 0), (3, .int r632), (2, .int (nI j91)), (1, .int x310), (0, .ref to)]) hx hb dX11_goStep_105 hl (k := 1) rfl (nI_1 j92) (by decide) rfl (fun ls hl => ?_)
                    refine lv_goto (tgt := 41) hx hb dX11_goStep_108 (by decide) ?_
                    exact ihj92 (j92 + 1) (upd x833 (j92 + 16) 999) H locs ls (by omega) (by omega) hr924 hk925 hk926 hk927 hk928 hk929 hk930 (kz_kk_u (hI0_j92) (by omega)) (hP.sub [0] rfl) (hD.sub [0] (by decide) rfl) hS (lv_sub hl [0, 2, 3, 4, 5, 6] rfl)
          exact lp882 (gl + 1) 0 x311 _ _ _ (by omega) (by omega) hr_x311 hk_x311_0 hk_x311_1 hk_x311_2 hk_x311_3 hk_x311_4 hk_x311_21 hI0_j91 hP hD hS (lv_sub hl [0, 1, 2, 3, 4, 5] rfl)
  exact lp621 (fi + 1) 0 0 ft _ _ _ (by omega) (by omega) hkt hk0_ hk1_ hk2_ hk3_ hk4_ hk21_ kz_kk_0 hP hD hS (lv_sub hl [0, 1, 2] rfl)
