set_option maxHeartbeats 4000000 in
set_option maxRecDepth 100000 in
theorem gr_isGleanerWord (l : Launch) (D : va_G) (y : Nat → ClassId) (mo : Nat) (to : Nat) (ke : Nat) (ik : Nat) (mrf : Nat) (ha : Nat) (r0 : Nat) (mbr : Nat) (mbp : Nat) (mby : Nat) (an : Nat) (va : Nat) (mab : Int64) (mbl : Int64) (bl : Nat) (ta : Nat) (tl : Nat) (tk : Nat) (vv : Int32) (fmb : Nat → Int32) (hbl : bl ≤ 150) (hT1 : ta + tl ≤ bl) (hT2 : (tk = 0 ∨ 1 ≤ tl)) (hT3 : tk ≤ 4) : kw_Mi l yX11_isGleanerWord wsX11_isGleanerWord ({ frames := 2, cells := 0, slots := 0, locals := 89 }) D y [.ref mo] [(mo, .inr (11, [.ref to, .ref ke, .ref ik, .ref mrf, .long mab, .long mbl, .ref ha, .ref r0, .ref mbr, .ref mbp, .ref mby, .int (nI bl), .int (nI ta), .int (nI tl), .int (nI tk), .int vv, .ref an, .ref va])), (mby, .inl (y 0, 150, .inl fmb))] (fun (r : Int32) (u : Nat) => u ≤ 150 ∧ (r = 0 ∨ r = 1) ∧ u = tl) (fun u => [(mo, .inr (11, [.ref to, .ref ke, .ref ik, .ref mrf, .long mab, .long mbl, .ref ha, .ref r0, .ref mbr, .ref mbp, .ref mby, .int (nI bl), .int (nI ta), .int (nI u), .int (nI tk), .int vv, .ref an, .ref va])), (mby, .inl (y 0, 150, .inl fmb))]) 0 0 := by
  refine kw_Mi.of (cc := cX11_isGleanerWord) (maxL := 3) (ret := (some .boolean)) (by decide) rfl ?_
  intro pZ eZ s mZ beZ meZ cZ A hE
  obtain ⟨hx, hb, hr, hml, hts, hown, hlocks, hin, hA, hP, hD, hK, hN⟩ := hE
  have hS : va_S A s.heap s.heap [] := va_S.rf
  have hl := lv_entry ([.ref mo]) (n := 3) (Nat.le_of_ble_eq_true rfl)
  rw [lg_entry_eq]
  generalize (lg_sl ([.ref mo]) ++ List.replicate (3 - (lg_sl ([.ref mo])).length) Slot.unset).toArray = ls at hl ⊢
  have hl : lv_has ls 3 [(0, .ref mo)] := hl
  have fw1 := hts (.fieldLink RX11 228 "GleanDuskModel" "token" "I") (List.mem_of_getElem? (i := 1) rfl)
  have fw2 := hts (.fieldLink RX11 225 "GleanDuskModel" "tokenLong" "I") (List.mem_of_getElem? (i := 2) rfl)
  have fw3 := hts (.fieldLink RX11 39 "GleanDuskModel" "bytes" "[I") (List.mem_of_getElem? (i := 3) rfl)
  have fw4 := hts (.fieldLink RX11 222 "GleanDuskModel" "tokenAt" "I") (List.mem_of_getElem? (i := 4) rfl)
  have iw11 : ∀ w ∈ wsX110, w ∈ wsX11_isGleanerWord := fun _ h => List.mem_cons_of_mem _ (List.mem_append_right _ h)
  refine lv_aload_n hx hb dX11_isGleanerWord_0 rfl (lv_at hl 0 rfl) ?_
  refine va_get (D := D) (ci := 11) (v := .int (nI tk)) (C := RX11) (T := TX11) (N := 18) hx hb hts iw11 hown hK hP 0 rfl rfl 14 (by decide) fw1 (fun _ h9 => h9) rfl dX11_isGleanerWord_1 ?_
  refine lv_iconst (v := 1) hx hb dX11_isGleanerWord_4 (by decide) ?_
  refine lv_icmp_ne (tgt := 21) hx hb dX11_isGleanerWord_5 (by decide) (fun h1 => ?_) (fun h2 => ?_)
  · skip
    have h1 : ¬ tk = 1 := fun q9 => h1 ((nI_eq (a := tk) (b := 1) (by omega) (by omega)).mpr q9)
    refine lv_iconst (v := 0) hx hb dX11_isGleanerWord_21 (by decide) ?_
    refine lv_istore_n (lv' := [(1, .int 0), (0, .ref mo)]) hx hb dX11_isGleanerWord_22 rfl hl (by decide) rfl (fun ls hl => ?_)
    refine lv_aload_n hx hb dX11_isGleanerWord_23 rfl (lv_at hl 1 rfl) ?_
    refine lv_iload_n hx hb dX11_isGleanerWord_24 rfl (lv_at hl 0 rfl) ?_
    refine lv_if_eq (tgt := 33) hx hb dX11_isGleanerWord_25 (by decide) (fun _ => ?_) (fun h9 => absurd h9 (by decide))
    refine lv_aload_n hx hb dX11_isGleanerWord_33 rfl (lv_at hl 1 rfl) ?_
    refine va_get (D := D) (ci := 11) (v := .int (nI tl)) (C := RX11) (T := TX11) (N := 18) hx hb hts iw11 hown hK hP 0 rfl rfl 13 (by decide) fw2 (fun _ h9 => h9) rfl dX11_isGleanerWord_34 ?_
    refine va_put (D := D) (ci := 11) (v := .int (nI tl)) (ty := .int) (C := RX11) (T := TX11) (N := 18) hx hb hts iw11 tyX11 tyX11_ok nmX11 hown hK hP hD hS 0 rfl rfl 13 (by decide) fw2 (fun _ h9 => h9) rfl (by decide +kernel) rfl rfl (Nat.le_of_ble_eq_true rfl) dX11_isGleanerWord_37 (fun H locs hP hD hS => ?_)
    have hP : va_P D vwCl [(mo, .inr (11, [.ref to, .ref ke, .ref ik, .ref mrf, .long mab, .long mbl, .ref ha, .ref r0, .ref mbr, .ref mbp, .ref mby, .int (nI bl), .int (nI ta), .int (nI tl), .int (nI tk), .int vv, .ref an, .ref va])), (mby, .inl (y 0, 150, .inl fmb))] H := hP
    have hD : va_D A [(mo, .inr (11, [.ref to, .ref ke, .ref ik, .ref mrf, .long mab, .long mbl, .ref ha, .ref r0, .ref mbr, .ref mbp, .ref mby, .int (nI bl), .int (nI ta), .int (nI tl), .int (nI tk), .int vv, .ref an, .ref va])), (mby, .inl (y 0, 150, .inl fmb))] := hD
    refine lv_aload_n hx hb dX11_isGleanerWord_40 rfl (lv_at hl 1 rfl) ?_
    refine lv_bipush (v := 6) hx hb dX11_isGleanerWord_41 (by decide) ?_
    refine lv_bipush (v := 103) hx hb dX11_isGleanerWord_43 (by decide) ?_
    refine lv_bipush (v := 108) hx hb dX11_isGleanerWord_45 (by decide) ?_
    refine lv_bipush (v := 101) hx hb dX11_isGleanerWord_47 (by decide) ?_
    refine lv_bipush (v := 97) hx hb dX11_isGleanerWord_49 (by decide) ?_
    refine lv_bipush (v := 110) hx hb dX11_isGleanerWord_51 (by decide) ?_
    refine lv_bipush (v := 101) hx hb dX11_isGleanerWord_53 (by decide) ?_
    have hs3 : kw_Split [(mo, .inr (11, [.ref to, .ref ke, .ref ik, .ref mrf, .long mab, .long mbl, .ref ha, .ref r0, .ref mbr, .ref mbp, .ref mby, .int (nI bl), .int (nI ta), .int (nI tl), .int (nI tk), .int vv, .ref an, .ref va])), (mby, .inl (y 0, 150, .inl fmb))] [(mo, .inr (11, [.ref to, .ref ke, .ref ik, .ref mrf, .long mab, .long mbl, .ref ha, .ref r0, .ref mbr, .ref mbp, .ref mby, .int (nI bl), .int (nI ta), .int (nI tl), .int (nI tk), .int vv, .ref an, .ref va])), (mby, .inl (y 0, 150, .inl fmb))] [] [0, 1] [] := ⟨rfl, rfl, rfl, rfl, rfl, by decide⟩
    refine kw_go_i hs3 hP hD hS hA (va_runV (As := [.int 6, .int 103, .int 108, .int 101, .int 97, .int 110, .int 101]) (rest := []) ⟨hx, hb, hml, hown, hts⟩ (gr_spells6 l D y mo to ke ik mrf ha r0 mbr mbp mby an va mab mbl bl ta tl tk vv fmb 103 108 101 97 110 101 hbl hT1 hT2 hT3 _) (cwV 7 hts gX11_isGleanerWord_X11_spells rfl rfl rfl (by decide +kernel) ⟨Nat.le_of_ble_eq_true rfl, Nat.le_of_ble_eq_true rfl⟩) (kw_PreV (ci := 11) (q0 := 0) hs3 hP hD hK hN rfl rfl) rfl rfl hl.1 rfl (lv_room (Nat.le_of_ble_eq_true rfl)) dX11_isGleanerWord_55 ⟨Nat.le_of_ble_eq_true rfl, Nat.le_of_ble_eq_true rfl⟩) (fun r4 u5 H locs hq hP hD hS => ?_)
    obtain (rfl | rfl) := hq
    · skip
      have hP : va_P D vwCl [(mo, .inr (11, [.ref to, .ref ke, .ref ik, .ref mrf, .long mab, .long mbl, .ref ha, .ref r0, .ref mbr, .ref mbp, .ref mby, .int (nI bl), .int (nI ta), .int (nI tl), .int (nI tk), .int vv, .ref an, .ref va])), (mby, .inl (y 0, 150, .inl fmb))] H := hP
      have hD : va_D A [(mo, .inr (11, [.ref to, .ref ke, .ref ik, .ref mrf, .long mab, .long mbl, .ref ha, .ref r0, .ref mbr, .ref mbp, .ref mby, .int (nI bl), .int (nI ta), .int (nI tl), .int (nI tk), .int vv, .ref an, .ref va])), (mby, .inl (y 0, 150, .inl fmb))] := hD
      refine lv_istore_n (lv' := [(2, .int 0), (1, .int 0), (0, .ref mo)]) hx hb dX11_isGleanerWord_58 rfl hl (by decide) rfl (fun ls hl => ?_)
      refine lv_aload_n hx hb dX11_isGleanerWord_59 rfl (lv_at hl 2 rfl) ?_
      refine lv_iload_n hx hb dX11_isGleanerWord_60 rfl (lv_at hl 1 rfl) ?_
      refine lv_if_eq (tgt := 69) hx hb dX11_isGleanerWord_61 (by decide) (fun _ => ?_) (fun h9 => absurd h9 (by decide))
      refine lv_aload_n hx hb dX11_isGleanerWord_69 rfl (lv_at hl 2 rfl) ?_
      refine va_get (D := D) (ci := 11) (v := .int (nI tl)) (C := RX11) (T := TX11) (N := 18) hx hb hts iw11 hown hK hP 0 rfl rfl 13 (by decide) fw2 (fun _ h9 => h9) rfl dX11_isGleanerWord_70 ?_
      refine va_put (D := D) (ci := 11) (v := .int (nI tl)) (ty := .int) (C := RX11) (T := TX11) (N := 18) hx hb hts iw11 tyX11 tyX11_ok nmX11 hown hK hP hD hS 0 rfl rfl 13 (by decide) fw2 (fun _ h9 => h9) rfl (by decide +kernel) rfl rfl (Nat.le_of_ble_eq_true rfl) dX11_isGleanerWord_73 (fun H locs hP hD hS => ?_)
      have hP : va_P D vwCl [(mo, .inr (11, [.ref to, .ref ke, .ref ik, .ref mrf, .long mab, .long mbl, .ref ha, .ref r0, .ref mbr, .ref mbp, .ref mby, .int (nI bl), .int (nI ta), .int (nI tl), .int (nI tk), .int vv, .ref an, .ref va])), (mby, .inl (y 0, 150, .inl fmb))] H := hP
      have hD : va_D A [(mo, .inr (11, [.ref to, .ref ke, .ref ik, .ref mrf, .long mab, .long mbl, .ref ha, .ref r0, .ref mbr, .ref mbp, .ref mby, .int (nI bl), .int (nI ta), .int (nI tl), .int (nI tk), .int vv, .ref an, .ref va])), (mby, .inl (y 0, 150, .inl fmb))] := hD
      refine lv_iload_n hx hb dX11_isGleanerWord_76 rfl (lv_at hl 1 rfl) ?_
      refine lv_if_eq (tgt := 105) hx hb dX11_isGleanerWord_77 (by decide) (fun _ => ?_) (fun h9 => absurd h9 (by decide))
      refine lv_iconst (v := 0) hx hb dX11_isGleanerWord_105 (by decide) ?_
      exact W.zret (v := 0) hx hb hr (by decide) (fun tZ ht hW => ⟨⟨0, (tl), rfl, ⟨by first | omega | (dsimp only; omega), Or.inl rfl, by first | omega | (dsimp only; omega)⟩, by rw [ht]; exact hP.sub [0, 1] rfl, hD.sub [0, 1] (by decide) rfl⟩, hS.F ht⟩) hS.2.2 dX11_isGleanerWord_106
    · skip
      have hP : va_P D vwCl [(mo, .inr (11, [.ref to, .ref ke, .ref ik, .ref mrf, .long mab, .long mbl, .ref ha, .ref r0, .ref mbr, .ref mbp, .ref mby, .int (nI bl), .int (nI ta), .int (nI tl), .int (nI tk), .int vv, .ref an, .ref va])), (mby, .inl (y 0, 150, .inl fmb))] H := hP
      have hD : va_D A [(mo, .inr (11, [.ref to, .ref ke, .ref ik, .ref mrf, .long mab, .long mbl, .ref ha, .ref r0, .ref mbr, .ref mbp, .ref mby, .int (nI bl), .int (nI ta), .int (nI tl), .int (nI tk), .int vv, .ref an, .ref va])), (mby, .inl (y 0, 150, .inl fmb))] := hD
      refine lv_istore_n (lv' := [(2, .int 1), (1, .int 0), (0, .ref mo)]) hx hb dX11_isGleanerWord_58 rfl hl (by decide) rfl (fun ls hl => ?_)
      refine lv_aload_n hx hb dX11_isGleanerWord_59 rfl (lv_at hl 2 rfl) ?_
      refine lv_iload_n hx hb dX11_isGleanerWord_60 rfl (lv_at hl 1 rfl) ?_
      refine lv_if_eq (tgt := 69) hx hb dX11_isGleanerWord_61 (by decide) (fun _ => ?_) (fun h9 => absurd h9 (by decide))
      refine lv_aload_n hx hb dX11_isGleanerWord_69 rfl (lv_at hl 2 rfl) ?_
      refine va_get (D := D) (ci := 11) (v := .int (nI tl)) (C := RX11) (T := TX11) (N := 18) hx hb hts iw11 hown hK hP 0 rfl rfl 13 (by decide) fw2 (fun _ h9 => h9) rfl dX11_isGleanerWord_70 ?_
      refine va_put (D := D) (ci := 11) (v := .int (nI tl)) (ty := .int) (C := RX11) (T := TX11) (N := 18) hx hb hts iw11 tyX11 tyX11_ok nmX11 hown hK hP hD hS 0 rfl rfl 13 (by decide) fw2 (fun _ h9 => h9) rfl (by decide +kernel) rfl rfl (Nat.le_of_ble_eq_true rfl) dX11_isGleanerWord_73 (fun H locs hP hD hS => ?_)
      have hP : va_P D vwCl [(mo, .inr (11, [.ref to, .ref ke, .ref ik, .ref mrf, .long mab, .long mbl, .ref ha, .ref r0, .ref mbr, .ref mbp, .ref mby, .int (nI bl), .int (nI ta), .int (nI tl), .int (nI tk), .int vv, .ref an, .ref va])), (mby, .inl (y 0, 150, .inl fmb))] H := hP
      have hD : va_D A [(mo, .inr (11, [.ref to, .ref ke, .ref ik, .ref mrf, .long mab, .long mbl, .ref ha, .ref r0, .ref mbr, .ref mbp, .ref mby, .int (nI bl), .int (nI ta), .int (nI tl), .int (nI tk), .int vv, .ref an, .ref va])), (mby, .inl (y 0, 150, .inl fmb))] := hD
      refine lv_iload_n hx hb dX11_isGleanerWord_76 rfl (lv_at hl 1 rfl) ?_
      refine lv_if_eq (tgt := 105) hx hb dX11_isGleanerWord_77 (by decide) (fun _ => ?_) (fun h9 => absurd h9 (by decide))
      refine lv_iconst (v := 0) hx hb dX11_isGleanerWord_105 (by decide) ?_
      exact W.zret (v := 0) hx hb hr (by decide) (fun tZ ht hW => ⟨⟨0, (tl), rfl, ⟨by first | omega | (dsimp only; omega), Or.inl rfl, by first | omega | (dsimp only; omega)⟩, by rw [ht]; exact hP.sub [0, 1] rfl, hD.sub [0, 1] (by decide) rfl⟩, hS.F ht⟩) hS.2.2 dX11_isGleanerWord_106
  · skip
    have h2 : tk = 1 := (nI_eq (a := tk) (b := 1) (by omega) (by omega)).mp h2
    refine lv_aload_n hx hb dX11_isGleanerWord_8 rfl (lv_at hl 0 rfl) ?_
    refine va_get (D := D) (ci := 11) (v := .int (nI tl)) (C := RX11) (T := TX11) (N := 18) hx hb hts iw11 hown hK hP 0 rfl rfl 13 (by decide) fw2 (fun _ h9 => h9) rfl dX11_isGleanerWord_9 ?_
    refine lv_bipush (v := 7) hx hb dX11_isGleanerWord_12 (by decide) ?_
    refine lv_icmp_ne (tgt := 21) hx hb dX11_isGleanerWord_14 (by decide) (fun h6 => ?_) (fun h7 => ?_)
    · skip
      have h6 : ¬ tl = 7 := fun q9 => h6 ((nI_eq (a := tl) (b := 7) (by omega) (by omega)).mpr q9)
      refine lv_iconst (v := 0) hx hb dX11_isGleanerWord_21 (by decide) ?_
      refine lv_istore_n (lv' := [(1, .int 0), (0, .ref mo)]) hx hb dX11_isGleanerWord_22 rfl hl (by decide) rfl (fun ls hl => ?_)
      refine lv_aload_n hx hb dX11_isGleanerWord_23 rfl (lv_at hl 1 rfl) ?_
      refine lv_iload_n hx hb dX11_isGleanerWord_24 rfl (lv_at hl 0 rfl) ?_
      refine lv_if_eq (tgt := 33) hx hb dX11_isGleanerWord_25 (by decide) (fun _ => ?_) (fun h9 => absurd h9 (by decide))
      refine lv_aload_n hx hb dX11_isGleanerWord_33 rfl (lv_at hl 1 rfl) ?_
      refine va_get (D := D) (ci := 11) (v := .int (nI tl)) (C := RX11) (T := TX11) (N := 18) hx hb hts iw11 hown hK hP 0 rfl rfl 13 (by decide) fw2 (fun _ h9 => h9) rfl dX11_isGleanerWord_34 ?_
      refine va_put (D := D) (ci := 11) (v := .int (nI tl)) (ty := .int) (C := RX11) (T := TX11) (N := 18) hx hb hts iw11 tyX11 tyX11_ok nmX11 hown hK hP hD hS 0 rfl rfl 13 (by decide) fw2 (fun _ h9 => h9) rfl (by decide +kernel) rfl rfl (Nat.le_of_ble_eq_true rfl) dX11_isGleanerWord_37 (fun H locs hP hD hS => ?_)
      have hP : va_P D vwCl [(mo, .inr (11, [.ref to, .ref ke, .ref ik, .ref mrf, .long mab, .long mbl, .ref ha, .ref r0, .ref mbr, .ref mbp, .ref mby, .int (nI bl), .int (nI ta), .int (nI tl), .int (nI tk), .int vv, .ref an, .ref va])), (mby, .inl (y 0, 150, .inl fmb))] H := hP
      have hD : va_D A [(mo, .inr (11, [.ref to, .ref ke, .ref ik, .ref mrf, .long mab, .long mbl, .ref ha, .ref r0, .ref mbr, .ref mbp, .ref mby, .int (nI bl), .int (nI ta), .int (nI tl), .int (nI tk), .int vv, .ref an, .ref va])), (mby, .inl (y 0, 150, .inl fmb))] := hD
      refine lv_aload_n hx hb dX11_isGleanerWord_40 rfl (lv_at hl 1 rfl) ?_
      refine lv_bipush (v := 6) hx hb dX11_isGleanerWord_41 (by decide) ?_
      refine lv_bipush (v := 103) hx hb dX11_isGleanerWord_43 (by decide) ?_
      refine lv_bipush (v := 108) hx hb dX11_isGleanerWord_45 (by decide) ?_
      refine lv_bipush (v := 101) hx hb dX11_isGleanerWord_47 (by decide) ?_
      refine lv_bipush (v := 97) hx hb dX11_isGleanerWord_49 (by decide) ?_
      refine lv_bipush (v := 110) hx hb dX11_isGleanerWord_51 (by decide) ?_
      refine lv_bipush (v := 101) hx hb dX11_isGleanerWord_53 (by decide) ?_
      have hs8 : kw_Split [(mo, .inr (11, [.ref to, .ref ke, .ref ik, .ref mrf, .long mab, .long mbl, .ref ha, .ref r0, .ref mbr, .ref mbp, .ref mby, .int (nI bl), .int (nI ta), .int (nI tl), .int (nI tk), .int vv, .ref an, .ref va])), (mby, .inl (y 0, 150, .inl fmb))] [(mo, .inr (11, [.ref to, .ref ke, .ref ik, .ref mrf, .long mab, .long mbl, .ref ha, .ref r0, .ref mbr, .ref mbp, .ref mby, .int (nI bl), .int (nI ta), .int (nI tl), .int (nI tk), .int vv, .ref an, .ref va])), (mby, .inl (y 0, 150, .inl fmb))] [] [0, 1] [] := ⟨rfl, rfl, rfl, rfl, rfl, by decide⟩
      refine kw_go_i hs8 hP hD hS hA (va_runV (As := [.int 6, .int 103, .int 108, .int 101, .int 97, .int 110, .int 101]) (rest := []) ⟨hx, hb, hml, hown, hts⟩ (gr_spells6 l D y mo to ke ik mrf ha r0 mbr mbp mby an va mab mbl bl ta tl tk vv fmb 103 108 101 97 110 101 hbl hT1 hT2 hT3 _) (cwV 7 hts gX11_isGleanerWord_X11_spells rfl rfl rfl (by decide +kernel) ⟨Nat.le_of_ble_eq_true rfl, Nat.le_of_ble_eq_true rfl⟩) (kw_PreV (ci := 11) (q0 := 0) hs8 hP hD hK hN rfl rfl) rfl rfl hl.1 rfl (lv_room (Nat.le_of_ble_eq_true rfl)) dX11_isGleanerWord_55 ⟨Nat.le_of_ble_eq_true rfl, Nat.le_of_ble_eq_true rfl⟩) (fun r9 u10 H locs hq hP hD hS => ?_)
      obtain (rfl | rfl) := hq
      · skip
        have hP : va_P D vwCl [(mo, .inr (11, [.ref to, .ref ke, .ref ik, .ref mrf, .long mab, .long mbl, .ref ha, .ref r0, .ref mbr, .ref mbp, .ref mby, .int (nI bl), .int (nI ta), .int (nI tl), .int (nI tk), .int vv, .ref an, .ref va])), (mby, .inl (y 0, 150, .inl fmb))] H := hP
        have hD : va_D A [(mo, .inr (11, [.ref to, .ref ke, .ref ik, .ref mrf, .long mab, .long mbl, .ref ha, .ref r0, .ref mbr, .ref mbp, .ref mby, .int (nI bl), .int (nI ta), .int (nI tl), .int (nI tk), .int vv, .ref an, .ref va])), (mby, .inl (y 0, 150, .inl fmb))] := hD
        refine lv_istore_n (lv' := [(2, .int 0), (1, .int 0), (0, .ref mo)]) hx hb dX11_isGleanerWord_58 rfl hl (by decide) rfl (fun ls hl => ?_)
        refine lv_aload_n hx hb dX11_isGleanerWord_59 rfl (lv_at hl 2 rfl) ?_
        refine lv_iload_n hx hb dX11_isGleanerWord_60 rfl (lv_at hl 1 rfl) ?_
        refine lv_if_eq (tgt := 69) hx hb dX11_isGleanerWord_61 (by decide) (fun _ => ?_) (fun h9 => absurd h9 (by decide))
        refine lv_aload_n hx hb dX11_isGleanerWord_69 rfl (lv_at hl 2 rfl) ?_
        refine va_get (D := D) (ci := 11) (v := .int (nI tl)) (C := RX11) (T := TX11) (N := 18) hx hb hts iw11 hown hK hP 0 rfl rfl 13 (by decide) fw2 (fun _ h9 => h9) rfl dX11_isGleanerWord_70 ?_
        refine va_put (D := D) (ci := 11) (v := .int (nI tl)) (ty := .int) (C := RX11) (T := TX11) (N := 18) hx hb hts iw11 tyX11 tyX11_ok nmX11 hown hK hP hD hS 0 rfl rfl 13 (by decide) fw2 (fun _ h9 => h9) rfl (by decide +kernel) rfl rfl (Nat.le_of_ble_eq_true rfl) dX11_isGleanerWord_73 (fun H locs hP hD hS => ?_)
        have hP : va_P D vwCl [(mo, .inr (11, [.ref to, .ref ke, .ref ik, .ref mrf, .long mab, .long mbl, .ref ha, .ref r0, .ref mbr, .ref mbp, .ref mby, .int (nI bl), .int (nI ta), .int (nI tl), .int (nI tk), .int vv, .ref an, .ref va])), (mby, .inl (y 0, 150, .inl fmb))] H := hP
        have hD : va_D A [(mo, .inr (11, [.ref to, .ref ke, .ref ik, .ref mrf, .long mab, .long mbl, .ref ha, .ref r0, .ref mbr, .ref mbp, .ref mby, .int (nI bl), .int (nI ta), .int (nI tl), .int (nI tk), .int vv, .ref an, .ref va])), (mby, .inl (y 0, 150, .inl fmb))] := hD
        refine lv_iload_n hx hb dX11_isGleanerWord_76 rfl (lv_at hl 1 rfl) ?_
        refine lv_if_eq (tgt := 105) hx hb dX11_isGleanerWord_77 (by decide) (fun _ => ?_) (fun h9 => absurd h9 (by decide))
        refine lv_iconst (v := 0) hx hb dX11_isGleanerWord_105 (by decide) ?_
        exact W.zret (v := 0) hx hb hr (by decide) (fun tZ ht hW => ⟨⟨0, (tl), rfl, ⟨by first | omega | (dsimp only; omega), Or.inl rfl, by first | omega | (dsimp only; omega)⟩, by rw [ht]; exact hP.sub [0, 1] rfl, hD.sub [0, 1] (by decide) rfl⟩, hS.F ht⟩) hS.2.2 dX11_isGleanerWord_106
      · skip
        have hP : va_P D vwCl [(mo, .inr (11, [.ref to, .ref ke, .ref ik, .ref mrf, .long mab, .long mbl, .ref ha, .ref r0, .ref mbr, .ref mbp, .ref mby, .int (nI bl), .int (nI ta), .int (nI tl), .int (nI tk), .int vv, .ref an, .ref va])), (mby, .inl (y 0, 150, .inl fmb))] H := hP
        have hD : va_D A [(mo, .inr (11, [.ref to, .ref ke, .ref ik, .ref mrf, .long mab, .long mbl, .ref ha, .ref r0, .ref mbr, .ref mbp, .ref mby, .int (nI bl), .int (nI ta), .int (nI tl), .int (nI tk), .int vv, .ref an, .ref va])), (mby, .inl (y 0, 150, .inl fmb))] := hD
        refine lv_istore_n (lv' := [(2, .int 1), (1, .int 0), (0, .ref mo)]) hx hb dX11_isGleanerWord_58 rfl hl (by decide) rfl (fun ls hl => ?_)
        refine lv_aload_n hx hb dX11_isGleanerWord_59 rfl (lv_at hl 2 rfl) ?_
        refine lv_iload_n hx hb dX11_isGleanerWord_60 rfl (lv_at hl 1 rfl) ?_
        refine lv_if_eq (tgt := 69) hx hb dX11_isGleanerWord_61 (by decide) (fun _ => ?_) (fun h9 => absurd h9 (by decide))
        refine lv_aload_n hx hb dX11_isGleanerWord_69 rfl (lv_at hl 2 rfl) ?_
        refine va_get (D := D) (ci := 11) (v := .int (nI tl)) (C := RX11) (T := TX11) (N := 18) hx hb hts iw11 hown hK hP 0 rfl rfl 13 (by decide) fw2 (fun _ h9 => h9) rfl dX11_isGleanerWord_70 ?_
        refine va_put (D := D) (ci := 11) (v := .int (nI tl)) (ty := .int) (C := RX11) (T := TX11) (N := 18) hx hb hts iw11 tyX11 tyX11_ok nmX11 hown hK hP hD hS 0 rfl rfl 13 (by decide) fw2 (fun _ h9 => h9) rfl (by decide +kernel) rfl rfl (Nat.le_of_ble_eq_true rfl) dX11_isGleanerWord_73 (fun H locs hP hD hS => ?_)
        have hP : va_P D vwCl [(mo, .inr (11, [.ref to, .ref ke, .ref ik, .ref mrf, .long mab, .long mbl, .ref ha, .ref r0, .ref mbr, .ref mbp, .ref mby, .int (nI bl), .int (nI ta), .int (nI tl), .int (nI tk), .int vv, .ref an, .ref va])), (mby, .inl (y 0, 150, .inl fmb))] H := hP
        have hD : va_D A [(mo, .inr (11, [.ref to, .ref ke, .ref ik, .ref mrf, .long mab, .long mbl, .ref ha, .ref r0, .ref mbr, .ref mbp, .ref mby, .int (nI bl), .int (nI ta), .int (nI tl), .int (nI tk), .int vv, .ref an, .ref va])), (mby, .inl (y 0, 150, .inl fmb))] := hD
        refine lv_iload_n hx hb dX11_isGleanerWord_76 rfl (lv_at hl 1 rfl) ?_
        refine lv_if_eq (tgt := 105) hx hb dX11_isGleanerWord_77 (by decide) (fun _ => ?_) (fun h9 => absurd h9 (by decide))
        refine lv_iconst (v := 0) hx hb dX11_isGleanerWord_105 (by decide) ?_
        exact W.zret (v := 0) hx hb hr (by decide) (fun tZ ht hW => ⟨⟨0, (tl), rfl, ⟨by first | omega | (dsimp only; omega), Or.inl rfl, by first | omega | (dsimp only; omega)⟩, by rw [ht]; exact hP.sub [0, 1] rfl, hD.sub [0, 1] (by decide) rfl⟩, hS.F ht⟩) hS.2.2 dX11_isGleanerWord_106
    · skip
      have h7 : tl = 7 := (nI_eq (a := tl) (b := 7) (by omega) (by omega)).mp h7
      refine lv_iconst (v := 1) hx hb dX11_isGleanerWord_17 (by decide) ?_
      refine lv_goto (tgt := 22) hx hb dX11_isGleanerWord_18 (by decide) ?_
      refine lv_istore_n (lv' := [(1, .int 1), (0, .ref mo)]) hx hb dX11_isGleanerWord_22 rfl hl (by decide) rfl (fun ls hl => ?_)
      refine lv_aload_n hx hb dX11_isGleanerWord_23 rfl (lv_at hl 1 rfl) ?_
      refine lv_iload_n hx hb dX11_isGleanerWord_24 rfl (lv_at hl 0 rfl) ?_
      refine lv_if_eq (tgt := 33) hx hb dX11_isGleanerWord_25 (by decide) (fun h9 => absurd h9 (by decide)) (fun _ => ?_)
      refine lv_bipush (v := 6) hx hb dX11_isGleanerWord_28 (by decide) ?_
      refine lv_goto (tgt := 37) hx hb dX11_isGleanerWord_30 (by decide) ?_
      refine va_put (D := D) (ci := 11) (v := .int 6) (ty := .int) (C := RX11) (T := TX11) (N := 18) hx hb hts iw11 tyX11 tyX11_ok nmX11 hown hK hP hD hS 0 rfl rfl 13 (by decide) fw2 (fun _ h9 => h9) rfl (by decide +kernel) rfl rfl (Nat.le_of_ble_eq_true rfl) dX11_isGleanerWord_37 (fun H locs hP hD hS => ?_)
      have hP : va_P D vwCl [(mo, .inr (11, [.ref to, .ref ke, .ref ik, .ref mrf, .long mab, .long mbl, .ref ha, .ref r0, .ref mbr, .ref mbp, .ref mby, .int (nI bl), .int (nI ta), .int 6, .int (nI tk), .int vv, .ref an, .ref va])), (mby, .inl (y 0, 150, .inl fmb))] H := hP
      have hD : va_D A [(mo, .inr (11, [.ref to, .ref ke, .ref ik, .ref mrf, .long mab, .long mbl, .ref ha, .ref r0, .ref mbr, .ref mbp, .ref mby, .int (nI bl), .int (nI ta), .int 6, .int (nI tk), .int vv, .ref an, .ref va])), (mby, .inl (y 0, 150, .inl fmb))] := hD
      refine lv_aload_n hx hb dX11_isGleanerWord_40 rfl (lv_at hl 1 rfl) ?_
      refine lv_bipush (v := 6) hx hb dX11_isGleanerWord_41 (by decide) ?_
      refine lv_bipush (v := 103) hx hb dX11_isGleanerWord_43 (by decide) ?_
      refine lv_bipush (v := 108) hx hb dX11_isGleanerWord_45 (by decide) ?_
      refine lv_bipush (v := 101) hx hb dX11_isGleanerWord_47 (by decide) ?_
      refine lv_bipush (v := 97) hx hb dX11_isGleanerWord_49 (by decide) ?_
      refine lv_bipush (v := 110) hx hb dX11_isGleanerWord_51 (by decide) ?_
      refine lv_bipush (v := 101) hx hb dX11_isGleanerWord_53 (by decide) ?_
      have hs11 : kw_Split [(mo, .inr (11, [.ref to, .ref ke, .ref ik, .ref mrf, .long mab, .long mbl, .ref ha, .ref r0, .ref mbr, .ref mbp, .ref mby, .int (nI bl), .int (nI ta), .int 6, .int (nI tk), .int vv, .ref an, .ref va])), (mby, .inl (y 0, 150, .inl fmb))] [(mo, .inr (11, [.ref to, .ref ke, .ref ik, .ref mrf, .long mab, .long mbl, .ref ha, .ref r0, .ref mbr, .ref mbp, .ref mby, .int (nI bl), .int (nI ta), .int 6, .int (nI tk), .int vv, .ref an, .ref va])), (mby, .inl (y 0, 150, .inl fmb))] [] [0, 1] [] := ⟨rfl, rfl, rfl, rfl, rfl, by decide⟩
      refine kw_go_i hs11 hP hD hS hA (va_runV (As := [.int 6, .int 103, .int 108, .int 101, .int 97, .int 110, .int 101]) (rest := []) ⟨hx, hb, hml, hown, hts⟩ (gr_spells6 l D y mo to ke ik mrf ha r0 mbr mbp mby an va mab mbl bl ta 6 tk vv fmb 103 108 101 97 110 101 hbl (by omega) (by omega) hT3 _) (cwV 7 hts gX11_isGleanerWord_X11_spells rfl rfl rfl (by decide +kernel) ⟨Nat.le_of_ble_eq_true rfl, Nat.le_of_ble_eq_true rfl⟩) (kw_PreV (ci := 11) (q0 := 0) hs11 hP hD hK hN rfl rfl) rfl rfl hl.1 rfl (lv_room (Nat.le_of_ble_eq_true rfl)) dX11_isGleanerWord_55 ⟨Nat.le_of_ble_eq_true rfl, Nat.le_of_ble_eq_true rfl⟩) (fun r12 u13 H locs hq hP hD hS => ?_)
      obtain (rfl | rfl) := hq
      · skip
        have hP : va_P D vwCl [(mo, .inr (11, [.ref to, .ref ke, .ref ik, .ref mrf, .long mab, .long mbl, .ref ha, .ref r0, .ref mbr, .ref mbp, .ref mby, .int (nI bl), .int (nI ta), .int (nI 6), .int (nI tk), .int vv, .ref an, .ref va])), (mby, .inl (y 0, 150, .inl fmb))] H := hP
        have hD : va_D A [(mo, .inr (11, [.ref to, .ref ke, .ref ik, .ref mrf, .long mab, .long mbl, .ref ha, .ref r0, .ref mbr, .ref mbp, .ref mby, .int (nI bl), .int (nI ta), .int (nI 6), .int (nI tk), .int vv, .ref an, .ref va])), (mby, .inl (y 0, 150, .inl fmb))] := hD
        refine lv_istore_n (lv' := [(2, .int 0), (1, .int 1), (0, .ref mo)]) hx hb dX11_isGleanerWord_58 rfl hl (by decide) rfl (fun ls hl => ?_)
        refine lv_aload_n hx hb dX11_isGleanerWord_59 rfl (lv_at hl 2 rfl) ?_
        refine lv_iload_n hx hb dX11_isGleanerWord_60 rfl (lv_at hl 1 rfl) ?_
        refine lv_if_eq (tgt := 69) hx hb dX11_isGleanerWord_61 (by decide) (fun h9 => absurd h9 (by decide)) (fun _ => ?_)
        refine lv_bipush (v := 7) hx hb dX11_isGleanerWord_64 (by decide) ?_
        refine lv_goto (tgt := 73) hx hb dX11_isGleanerWord_66 (by decide) ?_
        refine va_put (D := D) (ci := 11) (v := .int 7) (ty := .int) (C := RX11) (T := TX11) (N := 18) hx hb hts iw11 tyX11 tyX11_ok nmX11 hown hK hP hD hS 0 rfl rfl 13 (by decide) fw2 (fun _ h9 => h9) rfl (by decide +kernel) rfl rfl (Nat.le_of_ble_eq_true rfl) dX11_isGleanerWord_73 (fun H locs hP hD hS => ?_)
        have hP : va_P D vwCl [(mo, .inr (11, [.ref to, .ref ke, .ref ik, .ref mrf, .long mab, .long mbl, .ref ha, .ref r0, .ref mbr, .ref mbp, .ref mby, .int (nI bl), .int (nI ta), .int 7, .int (nI tk), .int vv, .ref an, .ref va])), (mby, .inl (y 0, 150, .inl fmb))] H := hP
        have hD : va_D A [(mo, .inr (11, [.ref to, .ref ke, .ref ik, .ref mrf, .long mab, .long mbl, .ref ha, .ref r0, .ref mbr, .ref mbp, .ref mby, .int (nI bl), .int (nI ta), .int 7, .int (nI tk), .int vv, .ref an, .ref va])), (mby, .inl (y 0, 150, .inl fmb))] := hD
        refine lv_iload_n hx hb dX11_isGleanerWord_76 rfl (lv_at hl 1 rfl) ?_
        refine lv_if_eq (tgt := 105) hx hb dX11_isGleanerWord_77 (by decide) (fun h9 => absurd h9 (by decide)) (fun _ => ?_)
        refine lv_iload_n hx hb dX11_isGleanerWord_80 rfl (lv_at hl 0 rfl) ?_
        refine lv_if_eq (tgt := 105) hx hb dX11_isGleanerWord_81 (by decide) (fun _ => ?_) (fun h9 => absurd h9 (by decide))
        refine lv_iconst (v := 0) hx hb dX11_isGleanerWord_105 (by decide) ?_
        exact W.zret (v := 0) hx hb hr (by decide) (fun tZ ht hW => ⟨⟨0, (7), rfl, ⟨by first | omega | (dsimp only; omega), Or.inl rfl, by first | omega | (dsimp only; omega)⟩, by rw [ht]; exact hP.sub [0, 1] rfl, hD.sub [0, 1] (by decide) rfl⟩, hS.F ht⟩) hS.2.2 dX11_isGleanerWord_106
      · skip
        have hP : va_P D vwCl [(mo, .inr (11, [.ref to, .ref ke, .ref ik, .ref mrf, .long mab, .long mbl, .ref ha, .ref r0, .ref mbr, .ref mbp, .ref mby, .int (nI bl), .int (nI ta), .int (nI 6), .int (nI tk), .int vv, .ref an, .ref va])), (mby, .inl (y 0, 150, .inl fmb))] H := hP
        have hD : va_D A [(mo, .inr (11, [.ref to, .ref ke, .ref ik, .ref mrf, .long mab, .long mbl, .ref ha, .ref r0, .ref mbr, .ref mbp, .ref mby, .int (nI bl), .int (nI ta), .int (nI 6), .int (nI tk), .int vv, .ref an, .ref va])), (mby, .inl (y 0, 150, .inl fmb))] := hD
        refine lv_istore_n (lv' := [(2, .int 1), (1, .int 1), (0, .ref mo)]) hx hb dX11_isGleanerWord_58 rfl hl (by decide) rfl (fun ls hl => ?_)
        refine lv_aload_n hx hb dX11_isGleanerWord_59 rfl (lv_at hl 2 rfl) ?_
        refine lv_iload_n hx hb dX11_isGleanerWord_60 rfl (lv_at hl 1 rfl) ?_
        refine lv_if_eq (tgt := 69) hx hb dX11_isGleanerWord_61 (by decide) (fun h9 => absurd h9 (by decide)) (fun _ => ?_)
        refine lv_bipush (v := 7) hx hb dX11_isGleanerWord_64 (by decide) ?_
        refine lv_goto (tgt := 73) hx hb dX11_isGleanerWord_66 (by decide) ?_
        refine va_put (D := D) (ci := 11) (v := .int 7) (ty := .int) (C := RX11) (T := TX11) (N := 18) hx hb hts iw11 tyX11 tyX11_ok nmX11 hown hK hP hD hS 0 rfl rfl 13 (by decide) fw2 (fun _ h9 => h9) rfl (by decide +kernel) rfl rfl (Nat.le_of_ble_eq_true rfl) dX11_isGleanerWord_73 (fun H locs hP hD hS => ?_)
        have hP : va_P D vwCl [(mo, .inr (11, [.ref to, .ref ke, .ref ik, .ref mrf, .long mab, .long mbl, .ref ha, .ref r0, .ref mbr, .ref mbp, .ref mby, .int (nI bl), .int (nI ta), .int 7, .int (nI tk), .int vv, .ref an, .ref va])), (mby, .inl (y 0, 150, .inl fmb))] H := hP
        have hD : va_D A [(mo, .inr (11, [.ref to, .ref ke, .ref ik, .ref mrf, .long mab, .long mbl, .ref ha, .ref r0, .ref mbr, .ref mbp, .ref mby, .int (nI bl), .int (nI ta), .int 7, .int (nI tk), .int vv, .ref an, .ref va])), (mby, .inl (y 0, 150, .inl fmb))] := hD
        refine lv_iload_n hx hb dX11_isGleanerWord_76 rfl (lv_at hl 1 rfl) ?_
        refine lv_if_eq (tgt := 105) hx hb dX11_isGleanerWord_77 (by decide) (fun h9 => absurd h9 (by decide)) (fun _ => ?_)
        refine lv_iload_n hx hb dX11_isGleanerWord_80 rfl (lv_at hl 0 rfl) ?_
        refine lv_if_eq (tgt := 105) hx hb dX11_isGleanerWord_81 (by decide) (fun h9 => absurd h9 (by decide)) (fun _ => ?_)
        refine lv_aload_n hx hb dX11_isGleanerWord_84 rfl (lv_at hl 2 rfl) ?_
        refine va_get (D := D) (ci := 11) (v := .ref mby) (C := RX11) (T := TX11) (N := 18) hx hb hts iw11 hown hK hP 0 rfl rfl 10 (by decide) fw3 (fun _ h9 => h9) rfl dX11_isGleanerWord_85 ?_
        refine lv_aload_n hx hb dX11_isGleanerWord_88 rfl (lv_at hl 2 rfl) ?_
        refine va_get (D := D) (ci := 11) (v := .int (nI ta)) (C := RX11) (T := TX11) (N := 18) hx hb hts iw11 hown hK hP 0 rfl rfl 12 (by decide) fw4 (fun _ h9 => h9) rfl dX11_isGleanerWord_89 ?_
        refine lv_bipush (v := 6) hx hb dX11_isGleanerWord_92 (by decide) ?_
        refine lv_iadd hx hb dX11_isGleanerWord_94 ?_
        rw [show (nI ta) + 6 = nI (ta + 6) from nI_add ta 6]
        refine va_iald hx hb hK hP 1 0 rfl rfl (vp_in_nI (by omega) (by decide)) dX11_isGleanerWord_95 ?_
        rw [nI_clamp (n := (ta + 6)) (by omega)]
        refine lv_bipush (v := 114) hx hb dX11_isGleanerWord_96 (by decide) ?_
        refine lv_icmp_ne (tgt := 105) hx hb dX11_isGleanerWord_98 (by decide) (fun h14 => ?_) (fun h15 => ?_)
        · skip
          refine lv_iconst (v := 0) hx hb dX11_isGleanerWord_105 (by decide) ?_
          exact W.zret (v := 0) hx hb hr (by decide) (fun tZ ht hW => ⟨⟨0, (7), rfl, ⟨by first | omega | (dsimp only; omega), Or.inl rfl, by first | omega | (dsimp only; omega)⟩, by rw [ht]; exact hP.sub [0, 1] rfl, hD.sub [0, 1] (by decide) rfl⟩, hS.F ht⟩) hS.2.2 dX11_isGleanerWord_106
        · skip
          refine lv_iconst (v := 1) hx hb dX11_isGleanerWord_101 (by decide) ?_
          refine lv_goto (tgt := 106) hx hb dX11_isGleanerWord_102 (by decide) ?_
          exact W.zret (v := 1) hx hb hr (by decide) (fun tZ ht hW => ⟨⟨1, (7), rfl, ⟨by first | omega | (dsimp only; omega), Or.inr rfl, by first | omega | (dsimp only; omega)⟩, by rw [ht]; exact hP.sub [0, 1] rfl, hD.sub [0, 1] (by decide) rfl⟩, hS.F ht⟩) hS.2.2 dX11_isGleanerWord_106

set_option maxHeartbeats 4000000 in
set_option maxRecDepth 100000 in
theorem gr_inW (l : Launch) (D : va_G) (y : Nat → ClassId) (x : Int64) (x2 : Int64) (x3 : Int64)  : kw_Mi l yX11_in wsX11_in ({ frames := 1, cells := 0, slots := 0, locals := 60 }) D y [.long x, .long x2, .long x3] [] (fun (r : Int32) (u : Unit) => (r = 1) ∨ (r = 0)) (fun _ => []) 0 0 := by
  refine kw_Mi.of (cc := cX11_in) (maxL := 6) (ret := (some .boolean)) (by decide) rfl ?_
  intro pZ eZ s mZ beZ meZ cZ A hE
  obtain ⟨hx, hb, hr, hml, hts, hown, hlocks, hin, hA, hP, hD, hK, hN⟩ := hE
  have hS : va_S A s.heap s.heap [] := va_S.rf
  have hl := lv_entry ([.long x, .long x2, .long x3]) (n := 6) (Nat.le_of_ble_eq_true rfl)
  rw [lg_entry_eq]
  generalize (lg_sl ([.long x, .long x2, .long x3]) ++ List.replicate (6 - (lg_sl ([.long x, .long x2, .long x3])).length) Slot.unset).toArray = ls at hl ⊢
  have hl : lv_has ls 6 [(0, .long x), (2, .long x2), (4, .long x3)] := hl
  refine lv_lload_n hx hb dX11_in_0 rfl (lv_at hl 0 rfl) ?_
  refine lv_lload_n hx hb dX11_in_1 rfl (lv_at hl 1 rfl) ?_
  refine W.lcmp hx hb dX11_in_2 ?_
  refine lv_if_lt (tgt := 17) hx hb dX11_in_3 (by decide) (fun h1 => ?_) (fun h2 => ?_)
  · skip
    have h1 : x < x2 := kw_clt_t h1
    refine lv_iconst (v := 0) hx hb dX11_in_17 (by decide) ?_
    exact W.zret (v := 0) hx hb hr (by decide) (fun tZ ht hW => ⟨⟨0, (), rfl, Or.inr (rfl), by rw [ht]; exact hP.sub [] rfl, hD.sub [] (by decide) rfl⟩, hS.F ht⟩) hS.2.2 dX11_in_18
  · skip
    have h2 : ¬ x < x2 := kw_clt_f h2
    refine lv_lload_n hx hb dX11_in_6 rfl (lv_at hl 0 rfl) ?_
    refine lv_lload hx hb dX11_in_7 (lv_at hl 2 rfl) ?_
    refine W.lcmp hx hb dX11_in_9 ?_
    refine lv_if_gt (tgt := 17) hx hb dX11_in_10 (by decide) (fun h3 => ?_) (fun h4 => ?_)
    · skip
      have h3 : x3 < x := kw_cgt_t h3
      refine lv_iconst (v := 0) hx hb dX11_in_17 (by decide) ?_
      exact W.zret (v := 0) hx hb hr (by decide) (fun tZ ht hW => ⟨⟨0, (), rfl, Or.inr (rfl), by rw [ht]; exact hP.sub [] rfl, hD.sub [] (by decide) rfl⟩, hS.F ht⟩) hS.2.2 dX11_in_18
    · skip
      have h4 : ¬ x3 < x := kw_cgt_f h4
      refine lv_iconst (v := 1) hx hb dX11_in_13 (by decide) ?_
      refine lv_goto (tgt := 18) hx hb dX11_in_14 (by decide) ?_
      exact W.zret (v := 1) hx hb hr (by decide) (fun tZ ht hW => ⟨⟨1, (), rfl, Or.inl rfl, by rw [ht]; exact hP.sub [] rfl, hD.sub [] (by decide) rfl⟩, hS.F ht⟩) hS.2.2 dX11_in_18
