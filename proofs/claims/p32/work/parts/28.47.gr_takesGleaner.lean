set_option maxHeartbeats 4000000 in
set_option maxRecDepth 100000 in
theorem gr_takesGleaner (l : Launch) (D : va_G) (y : Nat → ClassId) (mo : Nat) (to : Nat) (ke : Nat) (ik : Nat) (mrf : Nat) (ha : Nat) (r0 : Nat) (mbr : Nat) (mbp : Nat) (mby : Nat) (an : Nat) (va : Nat) (mab : Int64) (mbl : Int64) (bl : Nat) (ta : Nat) (tl : Nat) (tk : Nat) (vv : Int32) (fmb : Nat → Int32) (fva : Nat → Int32) (fan : Nat → Int32) (afi : Nat) (agl : Nat) (ami : Nat) (ano : Nat) (aun : Nat) (hbl : bl ≤ 150) (hT1 : ta + tl ≤ bl) (hT2 : (tk = 0 ∨ 1 ≤ tl)) (hT3 : tk ≤ 4) (ha0_ : fan 0 = (nI afi)) (ha1_ : fan 1 = (nI agl)) (ha2_ : fan 2 = (nI ami)) (ha3_ : fan 3 = (nI ano)) (ha4_ : fan 4 = (nI aun)) (hkan : kr_t 76 fan) (hB0 : afi ≤ 6) (hB1 : agl ≤ 5) (hB2 : ami ≤ 4) (hB3 : ano ≤ 6) (hB4 : aun ≤ 8) (hagf : (agl = 0 ∨ 0 < afi)) : kw_Mi l yX11_takesGleaner wsX11_takesGleaner ({ frames := 6, cells := 0, slots := 0, locals := 172 }) D y [.ref mo] [(mo, .inr (11, [.ref to, .ref ke, .ref ik, .ref mrf, .long mab, .long mbl, .ref ha, .ref r0, .ref mbr, .ref mbp, .ref mby, .int (nI bl), .int (nI ta), .int (nI tl), .int (nI tk), .int vv, .ref an, .ref va])), (mby, .inl (y 0, 150, .inl fmb)), (va, .inl (y 0, 2, .inl fva)), (an, .inl (y 0, 76, .inl fan))] (fun (r : Int32) (u : Nat × Nat × Nat × Int32 × (Nat → Int32) × (Nat → Int32) × Nat) => u.1 ≤ bl ∧ u.2.1 ≤ 150 ∧ u.2.2.1 ≤ 4 ∧ kr_t 76 u.2.2.2.2.2.1 ∧ u.2.2.2.2.2.1 0 = (nI afi) ∧ u.2.2.2.2.2.2 ≤ 5 ∧ u.2.2.2.2.2.1 1 = (nI u.2.2.2.2.2.2) ∧ u.2.2.2.2.2.1 2 = (nI ami) ∧ u.2.2.2.2.2.1 3 = (nI ano) ∧ u.2.2.2.2.2.1 4 = (nI aun) ∧ (r = 0 ∨ r = 1) ∧ ta ≤ u.1 ∧ u.1 + u.2.1 ≤ bl ∧ (u.2.2.1 = 0 ∨ 1 ≤ u.2.1) ∧ (u.2.2.2.2.2.2 = 0 ∨ 0 < afi)) (fun u => [(mo, .inr (11, [.ref to, .ref ke, .ref ik, .ref mrf, .long mab, .long mbl, .ref ha, .ref r0, .ref mbr, .ref mbp, .ref mby, .int (nI bl), .int (nI u.1), .int (nI u.2.1), .int (nI u.2.2.1), .int u.2.2.2.1, .ref an, .ref va])), (mby, .inl (y 0, 150, .inl fmb)), (va, .inl (y 0, 2, .inl u.2.2.2.2.1)), (an, .inl (y 0, 76, .inl u.2.2.2.2.2.1))]) 0 0 := by
  refine kw_Mi.of (cc := cX11_takesGleaner) (maxL := 1) (ret := (some .boolean)) (by decide) rfl ?_
  intro pZ eZ s mZ beZ meZ cZ A hE
  obtain ⟨hx, hb, hr, hml, hts, hown, hlocks, hin, hA, hP, hD, hK, hN⟩ := hE
  have hS : va_S A s.heap s.heap [] := va_S.rf
  have hl := lv_entry ([.ref mo]) (n := 1) (Nat.le_of_ble_eq_true rfl)
  rw [lg_entry_eq]
  generalize (lg_sl ([.ref mo]) ++ List.replicate (1 - (lg_sl ([.ref mo])).length) Slot.unset).toArray = ls at hl ⊢
  have hl : lv_has ls 1 [(0, .ref mo)] := hl
  have fw1 := hts (.fieldLink RX11 42 "GleanDuskModel" "anew" "[I") (List.mem_of_getElem? (i := 1) rfl)
  have fw2 := hts (.fieldLink RX11 45 "GleanDuskModel" "values" "[I") (List.mem_of_getElem? (i := 2) rfl)
  have iw11 : ∀ w ∈ wsX110, w ∈ wsX11_takesGleaner := fun _ h => List.mem_cons_of_mem _ (List.mem_append_right _ h)
  refine lv_aload_n hx hb dX11_takesGleaner_0 rfl (lv_at hl 0 rfl) ?_
  refine va_get (D := D) (ci := 11) (v := .ref an) (C := RX11) (T := TX11) (N := 18) hx hb hts iw11 hown hK hP 0 rfl rfl 16 (by decide) fw1 (fun _ h9 => h9) rfl dX11_takesGleaner_1 ?_
  refine lv_iconst (v := 1) hx hb dX11_takesGleaner_4 (by decide) ?_
  refine va_iald hx hb hK hP 3 0 rfl rfl (by unfold vp_in; decide) dX11_takesGleaner_5 ?_
  rw [show ((1 : Int32)).toNatClampNeg = 1 from rfl]
  rw [show (fan 1) = (nI agl) from ha1_]
  refine lv_iconst (v := 5) hx hb dX11_takesGleaner_6 (by decide) ?_
  refine lv_icmp_ne (tgt := 12) hx hb dX11_takesGleaner_7 (by decide) (fun h1 => ?_) (fun h2 => ?_)
  · skip
    have h1 : ¬ agl = 5 := fun q9 => h1 ((nI_eq (a := agl) (b := 5) (by omega) (by omega)).mpr q9)
    refine lv_aload_n hx hb dX11_takesGleaner_12 rfl (lv_at hl 0 rfl) ?_
    have hs3 : kw_Split [(mo, .inr (11, [.ref to, .ref ke, .ref ik, .ref mrf, .long mab, .long mbl, .ref ha, .ref r0, .ref mbr, .ref mbp, .ref mby, .int (nI bl), .int (nI ta), .int (nI tl), .int (nI tk), .int vv, .ref an, .ref va])), (mby, .inl (y 0, 150, .inl fmb)), (va, .inl (y 0, 2, .inl fva)), (an, .inl (y 0, 76, .inl fan))] [(mo, .inr (11, [.ref to, .ref ke, .ref ik, .ref mrf, .long mab, .long mbl, .ref ha, .ref r0, .ref mbr, .ref mbp, .ref mby, .int (nI bl), .int (nI ta), .int (nI tl), .int (nI tk), .int vv, .ref an, .ref va])), (mby, .inl (y 0, 150, .inl fmb))] [(va, .inl (y 0, 2, .inl fva)), (an, .inl (y 0, 76, .inl fan))] [0, 1] [2, 3] := ⟨rfl, rfl, rfl, rfl, rfl, by decide⟩
    refine kw_go_v hs3 hP hD hS hA (va_runV (As := []) (rest := []) ⟨hx, hb, hml, hown, hts⟩ (gr_goBehind l D y mo to ke ik mrf ha r0 mbr mbp mby an va mab mbl bl ta tl tk vv fmb hbl hT1 hT2 hT3 _) (cwV 0 hts gX11_takesGleaner_X11_goBehind rfl rfl rfl (by decide +kernel) ⟨Nat.le_of_ble_eq_true rfl, Nat.le_of_ble_eq_true rfl⟩) (kw_PreV (ci := 11) (q0 := 0) hs3 hP hD hK hN rfl rfl) rfl rfl hl.1 rfl (lv_room (Nat.le_of_ble_eq_true rfl)) dX11_takesGleaner_13 ⟨Nat.le_of_ble_eq_true rfl, Nat.le_of_ble_eq_true rfl⟩) (fun u5 H locs hq hP hD hS => ?_)
    obtain ⟨v6, v7, v8, v9⟩ := u5
    try dsimp only at hq
    obtain ⟨h10, h11, h12, h13, h14, h15⟩ := hq
    have hP : va_P D vwCl [(va, .inl (y 0, 2, .inl fva)), (an, .inl (y 0, 76, .inl fan)), (mo, .inr (11, [.ref to, .ref ke, .ref ik, .ref mrf, .long mab, .long mbl, .ref ha, .ref r0, .ref mbr, .ref mbp, .ref mby, .int (nI bl), .int (nI v6), .int (nI v7), .int (nI v8), .int v9, .ref an, .ref va])), (mby, .inl (y 0, 150, .inl fmb))] H := hP
    have hD : va_D A [(va, .inl (y 0, 2, .inl fva)), (an, .inl (y 0, 76, .inl fan)), (mo, .inr (11, [.ref to, .ref ke, .ref ik, .ref mrf, .long mab, .long mbl, .ref ha, .ref r0, .ref mbr, .ref mbp, .ref mby, .int (nI bl), .int (nI v6), .int (nI v7), .int (nI v8), .int v9, .ref an, .ref va])), (mby, .inl (y 0, 150, .inl fmb))] := hD
    refine lv_aload_n hx hb dX11_takesGleaner_16 rfl (lv_at hl 0 rfl) ?_
    refine lv_iconst (v := 0) hx hb dX11_takesGleaner_17 (by decide) ?_
    refine lv_iconst (v := 0) hx hb dX11_takesGleaner_18 (by decide) ?_
    refine lv_aload_n hx hb dX11_takesGleaner_19 rfl (lv_at hl 0 rfl) ?_
    refine va_get (D := D) (ci := 11) (v := .ref an) (C := RX11) (T := TX11) (N := 18) hx hb hts iw11 hown hK hP 2 rfl rfl 16 (by decide) fw1 (fun _ h9 => h9) rfl dX11_takesGleaner_20 ?_
    refine lv_iconst (v := 0) hx hb dX11_takesGleaner_23 (by decide) ?_
    refine va_iald hx hb hK hP 1 0 rfl rfl (by unfold vp_in; decide) dX11_takesGleaner_24 ?_
    rw [show ((0 : Int32)).toNatClampNeg = 0 from rfl]
    rw [show (fan 0) = (nI afi) from ha0_]
    refine lv_iconst (v := 1) hx hb dX11_takesGleaner_25 (by decide) ?_
    refine lv_isub hx hb dX11_takesGleaner_26 ?_
    have hs16 : kw_Split [(va, .inl (y 0, 2, .inl fva)), (an, .inl (y 0, 76, .inl fan)), (mo, .inr (11, [.ref to, .ref ke, .ref ik, .ref mrf, .long mab, .long mbl, .ref ha, .ref r0, .ref mbr, .ref mbp, .ref mby, .int (nI bl), .int (nI v6), .int (nI v7), .int (nI v8), .int v9, .ref an, .ref va])), (mby, .inl (y 0, 150, .inl fmb))] [(mo, .inr (11, [.ref to, .ref ke, .ref ik, .ref mrf, .long mab, .long mbl, .ref ha, .ref r0, .ref mbr, .ref mbp, .ref mby, .int (nI bl), .int (nI v6), .int (nI v7), .int (nI v8), .int v9, .ref an, .ref va])), (mby, .inl (y 0, 150, .inl fmb)), (va, .inl (y 0, 2, .inl fva))] [(an, .inl (y 0, 76, .inl fan))] [2, 3, 0] [1] := ⟨rfl, rfl, rfl, rfl, rfl, by decide⟩
    refine kw_go_i hs16 hP hD hS hA (va_runV (As := [.int 0, .int 0, .int ((nI afi) - 1)]) (rest := []) ⟨hx, hb, hml, hown, hts⟩ (gr_takesF l D y mo to ke ik mrf ha r0 mbr mbp mby an va mab mbl bl v6 v7 v8 v9 fmb fva afi hbl (by omega) (by omega) (by omega) (by omega) _) (cwV 3 hts gX11_takesGleaner_X11_takes rfl rfl rfl (by decide +kernel) ⟨Nat.le_of_ble_eq_true rfl, Nat.le_of_ble_eq_true rfl⟩) (kw_PreV (ci := 11) (q0 := 2) hs16 hP hD hK hN rfl rfl) rfl rfl hl.1 rfl (lv_room (Nat.le_of_ble_eq_true rfl)) dX11_takesGleaner_27 ⟨Nat.le_of_ble_eq_true rfl, Nat.le_of_ble_eq_true rfl⟩) (fun r17 u18 H locs hq hP hD hS => ?_)
    obtain ⟨v19, v20, v21, v22, v23⟩ := u18
    try dsimp only at hq
    obtain ⟨h24, h25, h26, (rfl | rfl), h27, h28, h29, h30⟩ := hq
    · skip
      have hP : va_P D vwCl [(an, .inl (y 0, 76, .inl fan)), (mo, .inr (11, [.ref to, .ref ke, .ref ik, .ref mrf, .long mab, .long mbl, .ref ha, .ref r0, .ref mbr, .ref mbp, .ref mby, .int (nI bl), .int (nI v19), .int (nI v20), .int (nI v21), .int v22, .ref an, .ref va])), (mby, .inl (y 0, 150, .inl fmb)), (va, .inl (y 0, 2, .inl v23))] H := hP
      have hD : va_D A [(an, .inl (y 0, 76, .inl fan)), (mo, .inr (11, [.ref to, .ref ke, .ref ik, .ref mrf, .long mab, .long mbl, .ref ha, .ref r0, .ref mbr, .ref mbp, .ref mby, .int (nI bl), .int (nI v19), .int (nI v20), .int (nI v21), .int v22, .ref an, .ref va])), (mby, .inl (y 0, 150, .inl fmb)), (va, .inl (y 0, 2, .inl v23))] := hD
      refine lv_if_ne (tgt := 35) hx hb dX11_takesGleaner_30 (by decide) (fun h9 => absurd h9 (by decide)) (fun _ => ?_)
      refine lv_iconst (v := 0) hx hb dX11_takesGleaner_33 (by decide) ?_
      exact W.zret (v := 0) hx hb hr (by decide) (fun tZ ht hW => ⟨⟨0, (v19, v20, v21, v22, v23, fan, agl), rfl, ⟨by first | omega | (dsimp only; omega), by first | omega | (dsimp only; omega), by first | omega | (dsimp only; omega), hkan, ha0_, by first | omega | (dsimp only; omega), ha1_, ha2_, ha3_, ha4_, Or.inl rfl, by first | omega | (dsimp only; omega), by first | omega | (dsimp only; omega), by first | omega | (dsimp only; omega), by first | omega | (dsimp only; omega)⟩, by rw [ht]; exact hP.sub [1, 2, 3, 0] rfl, hD.sub [1, 2, 3, 0] (by decide) rfl⟩, hS.F ht⟩) hS.2.2 dX11_takesGleaner_34
    · skip
      have hP : va_P D vwCl [(an, .inl (y 0, 76, .inl fan)), (mo, .inr (11, [.ref to, .ref ke, .ref ik, .ref mrf, .long mab, .long mbl, .ref ha, .ref r0, .ref mbr, .ref mbp, .ref mby, .int (nI bl), .int (nI v19), .int (nI v20), .int (nI v21), .int v22, .ref an, .ref va])), (mby, .inl (y 0, 150, .inl fmb)), (va, .inl (y 0, 2, .inl v23))] H := hP
      have hD : va_D A [(an, .inl (y 0, 76, .inl fan)), (mo, .inr (11, [.ref to, .ref ke, .ref ik, .ref mrf, .long mab, .long mbl, .ref ha, .ref r0, .ref mbr, .ref mbp, .ref mby, .int (nI bl), .int (nI v19), .int (nI v20), .int (nI v21), .int v22, .ref an, .ref va])), (mby, .inl (y 0, 150, .inl fmb)), (va, .inl (y 0, 2, .inl v23))] := hD
      have h30 : kr_vz v23 afi := h30 rfl
      refine lv_if_ne (tgt := 35) hx hb dX11_takesGleaner_30 (by decide) (fun _ => ?_) (fun h9 => absurd h9 (by decide))
      refine lv_aload_n hx hb dX11_takesGleaner_35 rfl (lv_at hl 0 rfl) ?_
      refine va_get (D := D) (ci := 11) (v := .ref an) (C := RX11) (T := TX11) (N := 18) hx hb hts iw11 hown hK hP 1 rfl rfl 16 (by decide) fw1 (fun _ h9 => h9) rfl dX11_takesGleaner_36 ?_
      refine lv_aload_n hx hb dX11_takesGleaner_39 rfl (lv_at hl 0 rfl) ?_
      refine va_get (D := D) (ci := 11) (v := .ref va) (C := RX11) (T := TX11) (N := 18) hx hb hts iw11 hown hK hP 1 rfl rfl 17 (by decide) fw2 (fun _ h9 => h9) rfl dX11_takesGleaner_40 ?_
      refine lv_iconst (v := 0) hx hb dX11_takesGleaner_43 (by decide) ?_
      refine va_iald hx hb hK hP 3 0 rfl rfl (by unfold vp_in; decide) dX11_takesGleaner_44 ?_
      rw [show ((0 : Int32)).toNatClampNeg = 0 from rfl]
      obtain ⟨z31, hz33, e32⟩ := h30
      rw [e32]
      have hs34 : kw_Split [(an, .inl (y 0, 76, .inl fan)), (mo, .inr (11, [.ref to, .ref ke, .ref ik, .ref mrf, .long mab, .long mbl, .ref ha, .ref r0, .ref mbr, .ref mbp, .ref mby, .int (nI bl), .int (nI v19), .int (nI v20), .int (nI v21), .int v22, .ref an, .ref va])), (mby, .inl (y 0, 150, .inl fmb)), (va, .inl (y 0, 2, .inl v23))] [(an, .inl (y 0, 76, .inl fan))] [(mo, .inr (11, [.ref to, .ref ke, .ref ik, .ref mrf, .long mab, .long mbl, .ref ha, .ref r0, .ref mbr, .ref mbp, .ref mby, .int (nI bl), .int (nI v19), .int (nI v20), .int (nI v21), .int v22, .ref an, .ref va])), (mby, .inl (y 0, 150, .inl fmb)), (va, .inl (y 0, 2, .inl v23))] [0] [1, 2, 3] := ⟨rfl, rfl, rfl, rfl, rfl, by decide⟩
      refine kw_go_v hs34 hP hD hS hA (va_runS (As := [.ref an, .int (nI z31)]) (rest := []) ⟨hx, hb, hml, hown, hts⟩ (gr_layGleaner76 l D y an fan afi agl ami ano aun z31 ha0_ ha1_ ha2_ ha3_ ha4_ hkan hB0 hB1 hB2 hB3 hB4 (by omega) (by omega) _) (va_cwS 2 hts gX11_takesGleaner_X11_layGleaner rfl rfl rfl (by decide +kernel) ⟨Nat.le_of_ble_eq_true rfl, Nat.le_of_ble_eq_true rfl⟩) (kw_PreS hs34 hP hD hK hN) rfl rfl hl.1 rfl (lv_room (Nat.le_of_ble_eq_true rfl)) dX11_takesGleaner_45 ⟨Nat.le_of_ble_eq_true rfl, Nat.le_of_ble_eq_true rfl⟩) (fun u36 H locs hq hP hD hS => ?_)
      obtain ⟨h37, h38, h39, h40, h41, h42⟩ := hq
      have hP : va_P D vwCl [(mo, .inr (11, [.ref to, .ref ke, .ref ik, .ref mrf, .long mab, .long mbl, .ref ha, .ref r0, .ref mbr, .ref mbp, .ref mby, .int (nI bl), .int (nI v19), .int (nI v20), .int (nI v21), .int v22, .ref an, .ref va])), (mby, .inl (y 0, 150, .inl fmb)), (va, .inl (y 0, 2, .inl v23)), (an, .inl (y 0, 76, .inl (upd (upd (upd fan (agl + 11) (nI z31)) (agl + 16) 0) 1 (nI (agl + 1)))))] H := hP
      have hD : va_D A [(mo, .inr (11, [.ref to, .ref ke, .ref ik, .ref mrf, .long mab, .long mbl, .ref ha, .ref r0, .ref mbr, .ref mbp, .ref mby, .int (nI bl), .int (nI v19), .int (nI v20), .int (nI v21), .int v22, .ref an, .ref va])), (mby, .inl (y 0, 150, .inl fmb)), (va, .inl (y 0, 2, .inl v23)), (an, .inl (y 0, 76, .inl (upd (upd (upd fan (agl + 11) (nI z31)) (agl + 16) 0) 1 (nI (agl + 1)))))] := hD
      refine lv_iconst (v := 1) hx hb dX11_takesGleaner_48 (by decide) ?_
      exact W.zret (v := 1) hx hb hr (by decide) (fun tZ ht hW => ⟨⟨1, (v19, v20, v21, v22, v23, (upd (upd (upd fan (agl + 11) (nI z31)) (agl + 16) 0) 1 (nI (agl + 1))), agl + 1), rfl, ⟨by first | omega | (dsimp only; omega), by first | omega | (dsimp only; omega), by first | omega | (dsimp only; omega), h37, h38, by first | omega | (dsimp only; omega), h39, h40, h41, h42, Or.inr rfl, by first | omega | (dsimp only; omega), by first | omega | (dsimp only; omega), by first | omega | (dsimp only; omega), by first | omega | (dsimp only; omega)⟩, by rw [ht]; exact hP.sub [0, 1, 2, 3] rfl, hD.sub [0, 1, 2, 3] (by decide) rfl⟩, hS.F ht⟩) hS.2.2 dX11_takesGleaner_49
  · skip
    have h2 : agl = 5 := (nI_eq (a := agl) (b := 5) (by omega) (by omega)).mp h2
    refine lv_iconst (v := 0) hx hb dX11_takesGleaner_10 (by decide) ?_
    exact W.zret (v := 0) hx hb hr (by decide) (fun tZ ht hW => ⟨⟨0, (ta, tl, tk, vv, fva, fan, agl), rfl, ⟨by first | omega | (dsimp only; omega), by first | omega | (dsimp only; omega), by first | omega | (dsimp only; omega), hkan, ha0_, by first | omega | (dsimp only; omega), ha1_, ha2_, ha3_, ha4_, Or.inl rfl, by first | omega | (dsimp only; omega), by first | omega | (dsimp only; omega), by first | omega | (dsimp only; omega), by first | omega | (dsimp only; omega)⟩, by rw [ht]; exact hP.sub [0, 1, 2, 3] rfl, hD.sub [0, 1, 2, 3] (by decide) rfl⟩, hS.F ht⟩) hS.2.2 dX11_takesGleaner_11

set_option maxHeartbeats 4000000 in
set_option maxRecDepth 100000 in
theorem gr_takesGlean (l : Launch) (D : va_G) (y : Nat → ClassId) (mo : Nat) (to : Nat) (ke : Nat) (ik : Nat) (mrf : Nat) (ha : Nat) (r0 : Nat) (mbr : Nat) (mbp : Nat) (mby : Nat) (an : Nat) (va : Nat) (mab : Int64) (mbl : Int64) (bl : Nat) (ta : Nat) (tl : Nat) (tk : Nat) (vv : Int32) (fmb : Nat → Int32) (fva : Nat → Int32) (fan : Nat → Int32) (afi : Nat) (agl : Nat) (ami : Nat) (ano : Nat) (aun : Nat) (hbl : bl ≤ 150) (hT1 : ta + tl ≤ bl) (hT2 : (tk = 0 ∨ 1 ≤ tl)) (hT3 : tk ≤ 4) (ha0_ : fan 0 = (nI afi)) (ha1_ : fan 1 = (nI agl)) (ha2_ : fan 2 = (nI ami)) (ha3_ : fan 3 = (nI ano)) (ha4_ : fan 4 = (nI aun)) (hkan : kr_t 76 fan) (hB0 : afi ≤ 6) (hB1 : agl ≤ 5) (hB2 : ami ≤ 4) (hB3 : ano ≤ 6) (hB4 : aun ≤ 8) (hagf : (agl = 0 ∨ 0 < afi)) : kw_Mi l yX11_takesGlean wsX11_takesGlean ({ frames := 6, cells := 0, slots := 0, locals := 177 }) D y [.ref mo] [(mo, .inr (11, [.ref to, .ref ke, .ref ik, .ref mrf, .long mab, .long mbl, .ref ha, .ref r0, .ref mbr, .ref mbp, .ref mby, .int (nI bl), .int (nI ta), .int (nI tl), .int (nI tk), .int vv, .ref an, .ref va])), (mby, .inl (y 0, 150, .inl fmb)), (va, .inl (y 0, 2, .inl fva)), (an, .inl (y 0, 76, .inl fan))] (fun (r : Int32) (u : Nat × Nat × Nat × Int32 × (Nat → Int32) × (Nat → Int32)) => u.1 ≤ bl ∧ u.2.1 ≤ 150 ∧ u.2.2.1 ≤ 4 ∧ kr_t 76 u.2.2.2.2.2 ∧ u.2.2.2.2.2 0 = (nI afi) ∧ u.2.2.2.2.2 1 = (nI agl) ∧ u.2.2.2.2.2 2 = (nI ami) ∧ u.2.2.2.2.2 3 = (nI ano) ∧ u.2.2.2.2.2 4 = (nI aun) ∧ (r = 0 ∨ r = 1) ∧ ta ≤ u.1 ∧ u.1 + u.2.1 ≤ bl ∧ (u.2.2.1 = 0 ∨ 1 ≤ u.2.1) ∧ (agl = 0 ∨ 0 < afi)) (fun u => [(mo, .inr (11, [.ref to, .ref ke, .ref ik, .ref mrf, .long mab, .long mbl, .ref ha, .ref r0, .ref mbr, .ref mbp, .ref mby, .int (nI bl), .int (nI u.1), .int (nI u.2.1), .int (nI u.2.2.1), .int u.2.2.2.1, .ref an, .ref va])), (mby, .inl (y 0, 150, .inl fmb)), (va, .inl (y 0, 2, .inl u.2.2.2.2.1)), (an, .inl (y 0, 76, .inl u.2.2.2.2.2))]) 0 0 := by
  refine kw_Mi.of (cc := cX11_takesGlean) (maxL := 3) (ret := (some .boolean)) (by decide) rfl ?_
  intro pZ eZ s mZ beZ meZ cZ A hE
  obtain ⟨hx, hb, hr, hml, hts, hown, hlocks, hin, hA, hP, hD, hK, hN⟩ := hE
  have hS : va_S A s.heap s.heap [] := va_S.rf
  have hl := lv_entry ([.ref mo]) (n := 3) (Nat.le_of_ble_eq_true rfl)
  rw [lg_entry_eq]
  generalize (lg_sl ([.ref mo]) ++ List.replicate (3 - (lg_sl ([.ref mo])).length) Slot.unset).toArray = ls at hl ⊢
  have hl : lv_has ls 3 [(0, .ref mo)] := hl
  have fw1 := hts (.fieldLink RX11 42 "GleanDuskModel" "anew" "[I") (List.mem_of_getElem? (i := 1) rfl)
  have fw2 := hts (.fieldLink RX11 45 "GleanDuskModel" "values" "[I") (List.mem_of_getElem? (i := 2) rfl)
  have iw11 : ∀ w ∈ wsX110, w ∈ wsX11_takesGlean := fun _ h => List.mem_cons_of_mem _ (List.mem_append_right _ h)
  refine lv_aload_n hx hb dX11_takesGlean_0 rfl (lv_at hl 0 rfl) ?_
  have hs1 : kw_Split [(mo, .inr (11, [.ref to, .ref ke, .ref ik, .ref mrf, .long mab, .long mbl, .ref ha, .ref r0, .ref mbr, .ref mbp, .ref mby, .int (nI bl), .int (nI ta), .int (nI tl), .int (nI tk), .int vv, .ref an, .ref va])), (mby, .inl (y 0, 150, .inl fmb)), (va, .inl (y 0, 2, .inl fva)), (an, .inl (y 0, 76, .inl fan))] [(mo, .inr (11, [.ref to, .ref ke, .ref ik, .ref mrf, .long mab, .long mbl, .ref ha, .ref r0, .ref mbr, .ref mbp, .ref mby, .int (nI bl), .int (nI ta), .int (nI tl), .int (nI tk), .int vv, .ref an, .ref va])), (mby, .inl (y 0, 150, .inl fmb))] [(va, .inl (y 0, 2, .inl fva)), (an, .inl (y 0, 76, .inl fan))] [0, 1] [2, 3] := ⟨rfl, rfl, rfl, rfl, rfl, by decide⟩
  refine kw_go_v hs1 hP hD hS hA (va_runV (As := []) (rest := []) ⟨hx, hb, hml, hown, hts⟩ (gr_goBehind l D y mo to ke ik mrf ha r0 mbr mbp mby an va mab mbl bl ta tl tk vv fmb hbl hT1 hT2 hT3 _) (cwV 0 hts gX11_takesGlean_X11_goBehind rfl rfl rfl (by decide +kernel) ⟨Nat.le_of_ble_eq_true rfl, Nat.le_of_ble_eq_true rfl⟩) (kw_PreV (ci := 11) (q0 := 0) hs1 hP hD hK hN rfl rfl) rfl rfl hl.1 rfl (lv_room (Nat.le_of_ble_eq_true rfl)) dX11_takesGlean_1 ⟨Nat.le_of_ble_eq_true rfl, Nat.le_of_ble_eq_true rfl⟩) (fun u3 H locs hq hP hD hS => ?_)
  obtain ⟨v4, v5, v6, v7⟩ := u3
  try dsimp only at hq
  obtain ⟨h8, h9, h10, h11, h12, h13⟩ := hq
  have hP : va_P D vwCl [(va, .inl (y 0, 2, .inl fva)), (an, .inl (y 0, 76, .inl fan)), (mo, .inr (11, [.ref to, .ref ke, .ref ik, .ref mrf, .long mab, .long mbl, .ref ha, .ref r0, .ref mbr, .ref mbp, .ref mby, .int (nI bl), .int (nI v4), .int (nI v5), .int (nI v6), .int v7, .ref an, .ref va])), (mby, .inl (y 0, 150, .inl fmb))] H := hP
  have hD : va_D A [(va, .inl (y 0, 2, .inl fva)), (an, .inl (y 0, 76, .inl fan)), (mo, .inr (11, [.ref to, .ref ke, .ref ik, .ref mrf, .long mab, .long mbl, .ref ha, .ref r0, .ref mbr, .ref mbp, .ref mby, .int (nI bl), .int (nI v4), .int (nI v5), .int (nI v6), .int v7, .ref an, .ref va])), (mby, .inl (y 0, 150, .inl fmb))] := hD
  refine lv_aload_n hx hb dX11_takesGlean_4 rfl (lv_at hl 0 rfl) ?_
  refine lv_iconst (v := 0) hx hb dX11_takesGlean_5 (by decide) ?_
  refine lv_iconst (v := 1) hx hb dX11_takesGlean_6 (by decide) ?_
  refine lv_bipush (v := 12) hx hb dX11_takesGlean_7 (by decide) ?_
  refine lv_aload_n hx hb dX11_takesGlean_9 rfl (lv_at hl 0 rfl) ?_
  refine va_get (D := D) (ci := 11) (v := .ref an) (C := RX11) (T := TX11) (N := 18) hx hb hts iw11 hown hK hP 2 rfl rfl 16 (by decide) fw1 (fun _ h9 => h9) rfl dX11_takesGlean_10 ?_
  refine lv_bipush (v := 21) hx hb dX11_takesGlean_13 (by decide) ?_
  refine va_iald hx hb hK hP 1 0 rfl rfl (by unfold vp_in; decide) dX11_takesGlean_15 ?_
  rw [show ((21 : Int32)).toNatClampNeg = 21 from rfl]
  refine lv_isub hx hb dX11_takesGlean_16 ?_
  have hs14 : kw_Split [(va, .inl (y 0, 2, .inl fva)), (an, .inl (y 0, 76, .inl fan)), (mo, .inr (11, [.ref to, .ref ke, .ref ik, .ref mrf, .long mab, .long mbl, .ref ha, .ref r0, .ref mbr, .ref mbp, .ref mby, .int (nI bl), .int (nI v4), .int (nI v5), .int (nI v6), .int v7, .ref an, .ref va])), (mby, .inl (y 0, 150, .inl fmb))] [(mo, .inr (11, [.ref to, .ref ke, .ref ik, .ref mrf, .long mab, .long mbl, .ref ha, .ref r0, .ref mbr, .ref mbp, .ref mby, .int (nI bl), .int (nI v4), .int (nI v5), .int (nI v6), .int v7, .ref an, .ref va])), (mby, .inl (y 0, 150, .inl fmb)), (va, .inl (y 0, 2, .inl fva))] [(an, .inl (y 0, 76, .inl fan))] [2, 3, 0] [1] := ⟨rfl, rfl, rfl, rfl, rfl, by decide⟩
  refine kw_go_i hs14 hP hD hS hA (va_runV (As := [.int 0, .int 1, .int (12 - (fan 21))]) (rest := []) ⟨hx, hb, hml, hown, hts⟩ (gr_takesW l D y mo to ke ik mrf ha r0 mbr mbp mby an va mab mbl bl v4 v5 v6 v7 fmb fva (12 - (fan 21)) hbl (by omega) (by omega) (by omega) _) (cwV 3 hts gX11_takesGlean_X11_takes rfl rfl rfl (by decide +kernel) ⟨Nat.le_of_ble_eq_true rfl, Nat.le_of_ble_eq_true rfl⟩) (kw_PreV (ci := 11) (q0 := 2) hs14 hP hD hK hN rfl rfl) rfl rfl hl.1 rfl (lv_room (Nat.le_of_ble_eq_true rfl)) dX11_takesGlean_17 ⟨Nat.le_of_ble_eq_true rfl, Nat.le_of_ble_eq_true rfl⟩) (fun r15 u16 H locs hq hP hD hS => ?_)
  obtain ⟨v17, v18, v19, v20, v21⟩ := u16
  try dsimp only at hq
  obtain ⟨h22, h23, h24, (rfl | rfl), h25, h26, h27⟩ := hq
  · skip
    have hP : va_P D vwCl [(an, .inl (y 0, 76, .inl fan)), (mo, .inr (11, [.ref to, .ref ke, .ref ik, .ref mrf, .long mab, .long mbl, .ref ha, .ref r0, .ref mbr, .ref mbp, .ref mby, .int (nI bl), .int (nI v17), .int (nI v18), .int (nI v19), .int v20, .ref an, .ref va])), (mby, .inl (y 0, 150, .inl fmb)), (va, .inl (y 0, 2, .inl v21))] H := hP
    have hD : va_D A [(an, .inl (y 0, 76, .inl fan)), (mo, .inr (11, [.ref to, .ref ke, .ref ik, .ref mrf, .long mab, .long mbl, .ref ha, .ref r0, .ref mbr, .ref mbp, .ref mby, .int (nI bl), .int (nI v17), .int (nI v18), .int (nI v19), .int v20, .ref an, .ref va])), (mby, .inl (y 0, 150, .inl fmb)), (va, .inl (y 0, 2, .inl v21))] := hD
    refine lv_if_ne (tgt := 25) hx hb dX11_takesGlean_20 (by decide) (fun h9 => absurd h9 (by decide)) (fun _ => ?_)
    refine lv_iconst (v := 0) hx hb dX11_takesGlean_23 (by decide) ?_
    exact W.zret (v := 0) hx hb hr (by decide) (fun tZ ht hW => ⟨⟨0, (v17, v18, v19, v20, v21, fan), rfl, ⟨by first | omega | (dsimp only; omega), by first | omega | (dsimp only; omega), by first | omega | (dsimp only; omega), hkan, ha0_, ha1_, ha2_, ha3_, ha4_, Or.inl rfl, by first | omega | (dsimp only; omega), by first | omega | (dsimp only; omega), by first | omega | (dsimp only; omega), by first | omega | (dsimp only; omega)⟩, by rw [ht]; exact hP.sub [1, 2, 3, 0] rfl, hD.sub [1, 2, 3, 0] (by decide) rfl⟩, hS.F ht⟩) hS.2.2 dX11_takesGlean_24
  · skip
    have hP : va_P D vwCl [(an, .inl (y 0, 76, .inl fan)), (mo, .inr (11, [.ref to, .ref ke, .ref ik, .ref mrf, .long mab, .long mbl, .ref ha, .ref r0, .ref mbr, .ref mbp, .ref mby, .int (nI bl), .int (nI v17), .int (nI v18), .int (nI v19), .int v20, .ref an, .ref va])), (mby, .inl (y 0, 150, .inl fmb)), (va, .inl (y 0, 2, .inl v21))] H := hP
    have hD : va_D A [(an, .inl (y 0, 76, .inl fan)), (mo, .inr (11, [.ref to, .ref ke, .ref ik, .ref mrf, .long mab, .long mbl, .ref ha, .ref r0, .ref mbr, .ref mbp, .ref mby, .int (nI bl), .int (nI v17), .int (nI v18), .int (nI v19), .int v20, .ref an, .ref va])), (mby, .inl (y 0, 150, .inl fmb)), (va, .inl (y 0, 2, .inl v21))] := hD
    refine lv_if_ne (tgt := 25) hx hb dX11_takesGlean_20 (by decide) (fun _ => ?_) (fun h9 => absurd h9 (by decide))
    rcases kw_nn (v21 0) with h28 | ⟨NN, hNN, e29⟩
    · skip
      have h30 : (v21 0) ≤ 0 := Int32.le_of_lt h28
      refine lv_iconst (v := 0) hx hb dX11_takesGlean_25 (by decide) ?_
      refine lv_istore_n (lv' := [(1, .int 0), (0, .ref mo)]) hx hb dX11_takesGlean_26 rfl hl (by decide) rfl (fun ls hl => ?_)
      refine lv_iload_n hx hb dX11_takesGlean_27 rfl (lv_at hl 0 rfl) ?_
      refine lv_aload_n hx hb dX11_takesGlean_28 rfl (lv_at hl 1 rfl) ?_
      refine va_get (D := D) (ci := 11) (v := .ref va) (C := RX11) (T := TX11) (N := 18) hx hb hts iw11 hown hK hP 1 rfl rfl 17 (by decide) fw2 (fun _ h9 => h9) rfl dX11_takesGlean_29 ?_
      refine lv_iconst (v := 0) hx hb dX11_takesGlean_32 (by decide) ?_
      refine va_iald hx hb hK hP 3 0 rfl rfl (by unfold vp_in; decide) dX11_takesGlean_33 ?_
      rw [show ((0 : Int32)).toNatClampNeg = 0 from rfl]
      refine lv_icmp_ge (tgt := 51) hx hb dX11_takesGlean_34 (by decide) (fun h31 => ?_) (fun h32 => ?_)
      · skip
        refine lv_iconst (v := 1) hx hb dX11_takesGlean_51 (by decide) ?_
        exact W.zret (v := 1) hx hb hr (by decide) (fun tZ ht hW => ⟨⟨1, (v17, v18, v19, v20, v21, fan), rfl, ⟨by first | omega | (dsimp only; omega), by first | omega | (dsimp only; omega), by first | omega | (dsimp only; omega), hkan, ha0_, ha1_, ha2_, ha3_, ha4_, Or.inr rfl, by first | omega | (dsimp only; omega), by first | omega | (dsimp only; omega), by first | omega | (dsimp only; omega), by first | omega | (dsimp only; omega)⟩, by rw [ht]; exact hP.sub [1, 2, 3, 0] rfl, hD.sub [1, 2, 3, 0] (by decide) rfl⟩, hS.F ht⟩) hS.2.2 dX11_takesGlean_52
      · skip
        exact absurd h30 h32
    · skip
      refine lv_iconst (v := 0) hx hb dX11_takesGlean_25 (by decide) ?_
      refine lv_istore_n (lv' := [(1, .int 0), (0, .ref mo)]) hx hb dX11_takesGlean_26 rfl hl (by decide) rfl (fun ls hl => ?_)
      have lp58 : ∀ (fuj91 j91 : Nat) (x45 : Nat → Int32) (H : Heap) (locs : List Loc) (ls : Array Slot), j91 ≤ NN → NN - j91 < fuj91 → kr_t 76 x45 → x45 0 = (nI afi) → x45 1 = (nI agl) → x45 2 = (nI ami) → x45 3 = (nI ano) → x45 4 = (nI aun) → va_P D vwCl [(an, .inl (y 0, 76, .inl x45)), (mo, .inr (11, [.ref to, .ref ke, .ref ik, .ref mrf, .long mab, .long mbl, .ref ha, .ref r0, .ref mbr, .ref mbp, .ref mby, .int (nI bl), .int (nI v17), .int (nI v18), .int (nI v19), .int v20, .ref an, .ref va])), (mby, .inl (y 0, 150, .inl fmb)), (va, .inl (y 0, 2, .inl v21))] H → va_D A [(an, .inl (y 0, 76, .inl x45)), (mo, .inr (11, [.ref to, .ref ke, .ref ik, .ref mrf, .long mab, .long mbl, .ref ha, .ref r0, .ref mbr, .ref mbp, .ref mby, .int (nI bl), .int (nI v17), .int (nI v18), .int (nI v19), .int v20, .ref an, .ref va])), (mby, .inl (y 0, 150, .inl fmb)), (va, .inl (y 0, 2, .inl v21))] → va_S A s.heap H locs → lv_has ls 3 [(1, .int (nI j91)), (0, .ref mo)] → W pZ l eZ ({ frames := 6, cells := 0, slots := 0, locals := 177 }) s mZ [.ref mo].toArray beZ meZ cZ H locs 0 0 (MQ beZ (va_Qi (fun (r : Int32) (u : Nat × Nat × Nat × Int32 × (Nat → Int32) × (Nat → Int32)) => u.1 ≤ bl ∧ u.2.1 ≤ 150 ∧ u.2.2.1 ≤ 4 ∧ kr_t 76 u.2.2.2.2.2 ∧ u.2.2.2.2.2 0 = (nI afi) ∧ u.2.2.2.2.2 1 = (nI agl) ∧ u.2.2.2.2.2 2 = (nI ami) ∧ u.2.2.2.2.2 3 = (nI ano) ∧ u.2.2.2.2.2 4 = (nI aun) ∧ (r = 0 ∨ r = 1) ∧ ta ≤ u.1 ∧ u.1 + u.2.1 ≤ bl ∧ (u.2.2.1 = 0 ∨ 1 ≤ u.2.1) ∧ (agl = 0 ∨ 0 < afi)) (kw_B D (fun u => [(mo, .inr (11, [.ref to, .ref ke, .ref ik, .ref mrf, .long mab, .long mbl, .ref ha, .ref r0, .ref mbr, .ref mbp, .ref mby, .int (nI bl), .int (nI u.1), .int (nI u.2.1), .int (nI u.2.2.1), .int u.2.2.2.1, .ref an, .ref va])), (mby, .inl (y 0, 150, .inl fmb)), (va, .inl (y 0, 2, .inl u.2.2.2.2.1)), (an, .inl (y 0, 76, .inl u.2.2.2.2.2))]) A) A) [.ref mo].toArray s 0 0 A) (F0 mZ 27 ls []) := by
        intro fuj91
        induction fuj91 with
        | zero => intro j91 x45 H locs ls hj9 hf9; exact absurd hf9 (Nat.not_lt_zero _)
        | succ fuj91 ihj91 =>
          intro j91 x45 H locs ls hj91 hfj91 hr_x45 hk_x45_0 hk_x45_1 hk_x45_2 hk_x45_3 hk_x45_4 hP hD hS hl
          refine lv_iload_n hx hb dX11_takesGlean_27 rfl (lv_at hl 0 rfl) ?_
          refine lv_aload_n hx hb dX11_takesGlean_28 rfl (lv_at hl 1 rfl) ?_
          refine va_get (D := D) (ci := 11) (v := .ref va) (C := RX11) (T := TX11) (N := 18) hx hb hts iw11 hown hK hP 1 rfl rfl 17 (by decide) fw2 (fun _ h9 => h9) rfl dX11_takesGlean_29 ?_
          refine lv_iconst (v := 0) hx hb dX11_takesGlean_32 (by decide) ?_
          refine va_iald hx hb hK hP 3 0 rfl rfl (by unfold vp_in; decide) dX11_takesGlean_33 ?_
          rw [show ((0 : Int32)).toNatClampNeg = 0 from rfl]
          rw [show (v21 0) = (nI NN) from e29]
          refine lv_icmp_ge (tgt := 51) hx hb dX11_takesGlean_34 (by decide) (fun h59 => ?_) (fun h60 => ?_)
          · skip
            have h59 : NN ≤ j91 := (nI_leI (a := NN) (b := j91) (by omega) (by omega)).mp h59
            refine lv_iconst (v := 1) hx hb dX11_takesGlean_51 (by decide) ?_
            exact W.zret (v := 1) hx hb hr (by decide) (fun tZ ht hW => ⟨⟨1, (v17, v18, v19, v20, v21, x45), rfl, ⟨by first | omega | (dsimp only; omega), by first | omega | (dsimp only; omega), by first | omega | (dsimp only; omega), hr_x45, hk_x45_0, hk_x45_1, hk_x45_2, hk_x45_3, hk_x45_4, Or.inr rfl, by first | omega | (dsimp only; omega), by first | omega | (dsimp only; omega), by first | omega | (dsimp only; omega), by first | omega | (dsimp only; omega)⟩, by rw [ht]; exact hP.sub [1, 2, 3, 0] rfl, hD.sub [1, 2, 3, 0] (by decide) rfl⟩, hS.F ht⟩) hS.2.2 dX11_takesGlean_52
          · skip
            have h60 : ¬ NN ≤ j91 := fun q9 => h60 ((nI_leI (a := NN) (b := j91) (by omega) (by omega)).mpr q9)
            refine lv_aload_n hx hb dX11_takesGlean_37 rfl (lv_at hl 1 rfl) ?_
            refine va_get (D := D) (ci := 11) (v := .ref an) (C := RX11) (T := TX11) (N := 18) hx hb hts iw11 hown hK hP 1 rfl rfl 16 (by decide) fw1 (fun _ h9 => h9) rfl dX11_takesGlean_38 ?_
            have hs61 : kw_Split [(an, .inl (y 0, 76, .inl x45)), (mo, .inr (11, [.ref to, .ref ke, .ref ik, .ref mrf, .long mab, .long mbl, .ref ha, .ref r0, .ref mbr, .ref mbp, .ref mby, .int (nI bl), .int (nI v17), .int (nI v18), .int (nI v19), .int v20, .ref an, .ref va])), (mby, .inl (y 0, 150, .inl fmb)), (va, .inl (y 0, 2, .inl v21))] [(an, .inl (y 0, 76, .inl x45))] [(mo, .inr (11, [.ref to, .ref ke, .ref ik, .ref mrf, .long mab, .long mbl, .ref ha, .ref r0, .ref mbr, .ref mbp, .ref mby, .int (nI bl), .int (nI v17), .int (nI v18), .int (nI v19), .int v20, .ref an, .ref va])), (mby, .inl (y 0, 150, .inl fmb)), (va, .inl (y 0, 2, .inl v21))] [0] [1, 2, 3] := ⟨rfl, rfl, rfl, rfl, rfl, by decide⟩
            refine kw_go_i hs61 hP hD hS hA (va_runS (As := [.ref an]) (rest := []) ⟨hx, hb, hml, hown, hts⟩ (gr_goStep76 l D y an x45 afi agl ami ano aun hk_x45_0 hk_x45_1 hk_x45_2 hk_x45_3 hk_x45_4 hr_x45 hB0 hB1 hB2 hB3 hB4 _) (va_cwS 1 hts gX11_takesGlean_X11_goStep rfl rfl rfl (by decide +kernel) ⟨Nat.le_of_ble_eq_true rfl, Nat.le_of_ble_eq_true rfl⟩) (kw_PreS hs61 hP hD hK hN) rfl rfl hl.1 rfl (lv_room (Nat.le_of_ble_eq_true rfl)) dX11_takesGlean_41 ⟨Nat.le_of_ble_eq_true rfl, Nat.le_of_ble_eq_true rfl⟩) (fun r62 u63 H locs hq hP hD hS => ?_)
            obtain ⟨v64, rfl⟩ : ∃ z, z = u63 := ⟨_, rfl⟩
            try dsimp only at hq
            obtain ⟨h65, h66, h67, h68, h69, h70⟩ := hq
            have hP : va_P D vwCl [(mo, .inr (11, [.ref to, .ref ke, .ref ik, .ref mrf, .long mab, .long mbl, .ref ha, .ref r0, .ref mbr, .ref mbp, .ref mby, .int (nI bl), .int (nI v17), .int (nI v18), .int (nI v19), .int v20, .ref an, .ref va])), (mby, .inl (y 0, 150, .inl fmb)), (va, .inl (y 0, 2, .inl v21)), (an, .inl (y 0, 76, .inl v64))] H := hP
            have hD : va_D A [(mo, .inr (11, [.ref to, .ref ke, .ref ik, .ref mrf, .long mab, .long mbl, .ref ha, .ref r0, .ref mbr, .ref mbp, .ref mby, .int (nI bl), .int (nI v17), .int (nI v18), .int (nI v19), .int v20, .ref an, .ref va])), (mby, .inl (y 0, 150, .inl fmb)), (va, .inl (y 0, 2, .inl v21)), (an, .inl (y 0, 76, .inl v64))] := hD
            refine lv_istore_n (lv' := [(2, .int r62), (1, .int (nI j91)), (0, .ref mo)]) hx hb dX11_takesGlean_44 rfl hl (by decide) rfl (fun ls hl => ?_)
            refine lv_iinc (v := (nI (j91 + 1))) (lv' := [(1, .int (nI (j91 + 1))), (2, .int r62), (0, .ref mo)]) hx hb dX11_takesGlean_45 hl (k := 1) rfl (nI_1 j91) (by decide) rfl (fun ls hl => ?_)
            refine lv_goto (tgt := 27) hx hb dX11_takesGlean_48 (by decide) ?_
            exact ihj91 (j91 + 1) v64 H locs ls (by omega) (by omega) h65 h66 h67 h68 h69 h70 (hP.sub [3, 0, 1, 2] rfl) (hD.sub [3, 0, 1, 2] (by decide) rfl) hS (lv_sub hl [0, 2] rfl)
      exact lp58 (NN + 1) 0 fan _ _ _ (by omega) (by omega) hkan ha0_ ha1_ ha2_ ha3_ ha4_ hP hD hS (lv_sub hl [0, 1] rfl)
