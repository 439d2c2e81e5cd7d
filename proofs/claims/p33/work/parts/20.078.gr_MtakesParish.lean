set_option maxHeartbeats 4000000 in
set_option maxRecDepth 100000 in
theorem gr_MtakesParish (l : Launch) (D : va_G) (y : Nat → ClassId) (mo : Nat) (to : Nat) (ke : Nat) (ik : Nat) (mrf : Nat) (ha : Nat) (r0 : Nat) (mbr : Nat) (mbp : Nat) (mby : Nat) (an : Nat) (va : Nat) (mab : Int64) (mbl : Int64) (bl : Nat) (ta : Nat) (tl : Nat) (tk : Nat) (vv : Int32) (fmb : Nat → Int32) (fva : Nat → Int32) (fan : Nat → Int32) (afi : Nat) (agl : Nat) (ami : Nat) (ano : Nat) (aun : Nat) (asp : Nat) (e : Nat) (hbl : bl ≤ 150) (he : ta + tl = e) (heb : e ≤ bl) (htk : tk ≤ 4) (ha0_ : fan 0 = (nI afi)) (ha1_ : fan 1 = (nI agl)) (ha2_ : fan 2 = (nI ami)) (ha3_ : fan 3 = (nI ano)) (ha4_ : fan 4 = (nI aun)) (ha21_ : fan 21 = (nI asp)) (hkan : kr_t 76 fan) (hB0 : afi ≤ 6) (hB1 : agl ≤ 5) (hB2 : ami ≤ 4) (hB3 : ano ≤ 6) (hB4 : aun ≤ 8) (hB5 : asp ≤ 12) (hagf : (agl = 0 ∨ 0 < afi)) : kw_Mi l yX11_takesParish wsX11_takesParish ({ frames := 6, cells := 0, slots := 0, locals := 172 }) D y [.ref mo] [(mo, .inr (11, [.ref to, .ref ke, .ref ik, .ref mrf, .long mab, .long mbl, .ref ha, .ref r0, .ref mbr, .ref mbp, .ref mby, .int (nI bl), .int (nI ta), .int (nI tl), .int (nI tk), .int vv, .ref an, .ref va])), (mby, .inl (y 0, 150, .inl fmb)), (va, .inl (y 0, 2, .inl fva)), (an, .inl (y 0, 76, .inl fan))] (fun (r : Int32) (u : Nat × Nat × Nat × Int32 × (Nat → Int32) × (Nat → Int32) × Nat × Nat × Nat × Nat × Nat × Nat) => u.1 ≤ bl ∧ u.2.1 ≤ 150 ∧ u.2.2.1 ≤ 4 ∧ kr_t 76 u.2.2.2.2.2.1 ∧ u.2.2.2.2.2.2.1 ≤ 6 ∧ u.2.2.2.2.2.1 0 = (nI u.2.2.2.2.2.2.1) ∧ u.2.2.2.2.2.2.2.1 ≤ 5 ∧ u.2.2.2.2.2.1 1 = (nI u.2.2.2.2.2.2.2.1) ∧ u.2.2.2.2.2.2.2.2.1 ≤ 4 ∧ u.2.2.2.2.2.1 2 = (nI u.2.2.2.2.2.2.2.2.1) ∧ u.2.2.2.2.2.2.2.2.2.1 ≤ 6 ∧ u.2.2.2.2.2.1 3 = (nI u.2.2.2.2.2.2.2.2.2.1) ∧ u.2.2.2.2.2.2.2.2.2.2.1 ≤ 8 ∧ u.2.2.2.2.2.1 4 = (nI u.2.2.2.2.2.2.2.2.2.2.1) ∧ u.2.2.2.2.2.2.2.2.2.2.2 ≤ 12 ∧ u.2.2.2.2.2.1 21 = (nI u.2.2.2.2.2.2.2.2.2.2.2) ∧ (r = 0 ∨ r = 1) ∧ u.1 + u.2.1 ≤ bl ∧ (u.2.2.2.2.2.2.2.1 = 0 ∨ 0 < u.2.2.2.2.2.2.1) ∧ (r = 0 → ks_pa fmb bl tk ta e = ks_flt u.1) ∧ (r = 1 → ks_pa fmb bl tk ta e = ks_ok (ks_E fmb bl e) 0 0 12 (fun _ => 0) ∧ ks_K fmb bl (ks_E fmb bl e) = 3 ∧ u.1 = ks_S fmb bl (ks_E fmb bl e) ∧ u.2.1 = ks_L fmb bl (ks_E fmb bl e) ∧ u.2.2.1 = ks_K fmb bl (ks_E fmb bl e) ∧ u.2.2.2.2.2.2.1 = 0 ∧ u.2.2.2.2.2.2.2.1 = 0 ∧ u.2.2.2.2.2.2.2.2.1 = 0 ∧ u.2.2.2.2.2.2.2.2.2.1 = 0 ∧ u.2.2.2.2.2.2.2.2.2.2.1 = 0 ∧ u.2.2.2.2.2.2.2.2.2.2.2 = 0 ∧ kz_N fmb bl (ks_E fmb bl e) u.2.2.2.1)) (fun u => [(mo, .inr (11, [.ref to, .ref ke, .ref ik, .ref mrf, .long mab, .long mbl, .ref ha, .ref r0, .ref mbr, .ref mbp, .ref mby, .int (nI bl), .int (nI u.1), .int (nI u.2.1), .int (nI u.2.2.1), .int u.2.2.2.1, .ref an, .ref va])), (mby, .inl (y 0, 150, .inl fmb)), (va, .inl (y 0, 2, .inl u.2.2.2.2.1)), (an, .inl (y 0, 76, .inl u.2.2.2.2.2.1))]) 0 0 := by
  refine kw_Mi.of (cc := cX11_takesParish) (maxL := 1) (ret := (some .boolean)) (by decide) rfl ?_
  intro pZ eZ s mZ beZ meZ cZ A hE
  obtain ⟨hx, hb, hr, hml, hts, hown, hlocks, hin, hA, hP, hD, hK, hN⟩ := hE
  have hS : va_S A s.heap s.heap [] := va_S.rf
  have hl := lv_entry ([.ref mo]) (n := 1) (Nat.le_of_ble_eq_true rfl)
  rw [lg_entry_eq]
  generalize (lg_sl ([.ref mo]) ++ List.replicate (1 - (lg_sl ([.ref mo])).length) Slot.unset).toArray = ls at hl ⊢
  have hl : lv_has ls 1 [(0, .ref mo)] := hl
  have fw1 := hts (.fieldLink RX11 42 "GleanDuskModel" "anew" "[I") (List.mem_of_getElem? (i := 1) rfl)
  have fw2 := hts (.fieldLink RX11 45 "GleanDuskModel" "values" "[I") (List.mem_of_getElem? (i := 2) rfl)
  have fw3 := hts (.fieldLink RX11 228 "GleanDuskModel" "token" "I") (List.mem_of_getElem? (i := 3) rfl)
  have iw11 : ∀ w ∈ wsX110, w ∈ wsX11_takesParish := fun _ h => List.mem_cons_of_mem _ (List.mem_append_right _ h)
  refine lv_aload_n hx hb dX11_takesParish_0 rfl (lv_at hl 0 rfl) ?_
  refine lv_bipush (v := 6) hx hb dX11_takesParish_1 (by decide) ?_
  refine lv_bipush (v := 112) hx hb dX11_takesParish_3 (by decide) ?_
  refine lv_bipush (v := 97) hx hb dX11_takesParish_5 (by decide) ?_
  refine lv_bipush (v := 114) hx hb dX11_takesParish_7 (by decide) ?_
  refine lv_bipush (v := 105) hx hb dX11_takesParish_9 (by decide) ?_
  refine lv_bipush (v := 115) hx hb dX11_takesParish_11 (by decide) ?_
  refine lv_bipush (v := 104) hx hb dX11_takesParish_13 (by decide) ?_
  have hs1 : kw_Split [(mo, .inr (11, [.ref to, .ref ke, .ref ik, .ref mrf, .long mab, .long mbl, .ref ha, .ref r0, .ref mbr, .ref mbp, .ref mby, .int (nI bl), .int (nI ta), .int (nI tl), .int (nI tk), .int vv, .ref an, .ref va])), (mby, .inl (y 0, 150, .inl fmb)), (va, .inl (y 0, 2, .inl fva)), (an, .inl (y 0, 76, .inl fan))] [(mo, .inr (11, [.ref to, .ref ke, .ref ik, .ref mrf, .long mab, .long mbl, .ref ha, .ref r0, .ref mbr, .ref mbp, .ref mby, .int (nI bl), .int (nI ta), .int (nI tl), .int (nI tk), .int vv, .ref an, .ref va])), (mby, .inl (y 0, 150, .inl fmb))] [(va, .inl (y 0, 2, .inl fva)), (an, .inl (y 0, 76, .inl fan))] [0, 1] [2, 3] := ⟨rfl, rfl, rfl, rfl, rfl, by decide⟩
  refine kw_go_i hs1 hP hD hS hA (va_runV (As := [.int 6, .int 112, .int 97, .int 114, .int 105, .int 115, .int 104]) (rest := []) ⟨hx, hb, hml, hown, hts⟩ (gr_Msp0 l D y mo to ke ik mrf ha r0 mbr mbp mby an va mab mbl bl ta tl tk vv fmb e hbl he heb htk _) (cwV 7 hts gX11_takesParish_X11_spells rfl rfl rfl (by decide +kernel) ⟨Nat.le_of_ble_eq_true rfl, Nat.le_of_ble_eq_true rfl⟩) (kw_PreV (ci := 11) (q0 := 0) hs1 hP hD hK hN rfl rfl) rfl rfl hl.1 rfl (lv_room (Nat.le_of_ble_eq_true rfl)) dX11_takesParish_15 ⟨Nat.le_of_ble_eq_true rfl, Nat.le_of_ble_eq_true rfl⟩) (fun r2 u3 H locs hq hP hD hS => ?_)
  rcases hq with ⟨h4, rfl⟩ | ⟨h5, rfl⟩
  · skip
    have hP : va_P D vwCl [(va, .inl (y 0, 2, .inl fva)), (an, .inl (y 0, 76, .inl fan)), (mo, .inr (11, [.ref to, .ref ke, .ref ik, .ref mrf, .long mab, .long mbl, .ref ha, .ref r0, .ref mbr, .ref mbp, .ref mby, .int (nI bl), .int (nI ta), .int (nI tl), .int (nI tk), .int vv, .ref an, .ref va])), (mby, .inl (y 0, 150, .inl fmb))] H := hP
    have hD : va_D A [(va, .inl (y 0, 2, .inl fva)), (an, .inl (y 0, 76, .inl fan)), (mo, .inr (11, [.ref to, .ref ke, .ref ik, .ref mrf, .long mab, .long mbl, .ref ha, .ref r0, .ref mbr, .ref mbp, .ref mby, .int (nI bl), .int (nI ta), .int (nI tl), .int (nI tk), .int vv, .ref an, .ref va])), (mby, .inl (y 0, 150, .inl fmb))] := hD
    refine lv_if_ne (tgt := 23) hx hb dX11_takesParish_18 (by decide) (fun _ => ?_) (fun h9 => absurd h9 (by decide))
    refine lv_aload_n hx hb dX11_takesParish_23 rfl (lv_at hl 0 rfl) ?_
    have hs6 : kw_Split [(va, .inl (y 0, 2, .inl fva)), (an, .inl (y 0, 76, .inl fan)), (mo, .inr (11, [.ref to, .ref ke, .ref ik, .ref mrf, .long mab, .long mbl, .ref ha, .ref r0, .ref mbr, .ref mbp, .ref mby, .int (nI bl), .int (nI ta), .int (nI tl), .int (nI tk), .int vv, .ref an, .ref va])), (mby, .inl (y 0, 150, .inl fmb))] [(mo, .inr (11, [.ref to, .ref ke, .ref ik, .ref mrf, .long mab, .long mbl, .ref ha, .ref r0, .ref mbr, .ref mbp, .ref mby, .int (nI bl), .int (nI ta), .int (nI tl), .int (nI tk), .int vv, .ref an, .ref va])), (mby, .inl (y 0, 150, .inl fmb))] [(va, .inl (y 0, 2, .inl fva)), (an, .inl (y 0, 76, .inl fan))] [2, 3] [0, 1] := ⟨rfl, rfl, rfl, rfl, rfl, by decide⟩
    refine kw_go_v hs6 hP hD hS hA (va_runV (As := []) (rest := []) ⟨hx, hb, hml, hown, hts⟩ (gr_Mgo l D y mo to ke ik mrf ha r0 mbr mbp mby an va mab mbl bl ta tl tk vv fmb e hbl he heb htk _) (cwV 0 hts gX11_takesParish_X11_goBehind rfl rfl rfl (by decide +kernel) ⟨Nat.le_of_ble_eq_true rfl, Nat.le_of_ble_eq_true rfl⟩) (kw_PreV (ci := 11) (q0 := 2) hs6 hP hD hK hN rfl rfl) rfl rfl hl.1 rfl (lv_room (Nat.le_of_ble_eq_true rfl)) dX11_takesParish_24 ⟨Nat.le_of_ble_eq_true rfl, Nat.le_of_ble_eq_true rfl⟩) (fun u8 H locs hq hP hD hS => ?_)
    obtain ⟨v9, rfl⟩ : ∃ z, z = u8 := ⟨_, rfl⟩
    try dsimp only at hq
    obtain ⟨h10, h11, h12, h13, h14⟩ := hq
    have hP : va_P D vwCl [(va, .inl (y 0, 2, .inl fva)), (an, .inl (y 0, 76, .inl fan)), (mo, .inr (11, [.ref to, .ref ke, .ref ik, .ref mrf, .long mab, .long mbl, .ref ha, .ref r0, .ref mbr, .ref mbp, .ref mby, .int (nI bl), .int (nI (ks_S fmb bl e)), .int (nI (ks_L fmb bl e)), .int (nI (ks_K fmb bl e)), .int v9, .ref an, .ref va])), (mby, .inl (y 0, 150, .inl fmb))] H := hP
    have hD : va_D A [(va, .inl (y 0, 2, .inl fva)), (an, .inl (y 0, 76, .inl fan)), (mo, .inr (11, [.ref to, .ref ke, .ref ik, .ref mrf, .long mab, .long mbl, .ref ha, .ref r0, .ref mbr, .ref mbp, .ref mby, .int (nI bl), .int (nI (ks_S fmb bl e)), .int (nI (ks_L fmb bl e)), .int (nI (ks_K fmb bl e)), .int v9, .ref an, .ref va])), (mby, .inl (y 0, 150, .inl fmb))] := hD
    refine lv_aload_n hx hb dX11_takesParish_27 rfl (lv_at hl 0 rfl) ?_
    refine lv_iconst (v := 0) hx hb dX11_takesParish_28 (by decide) ?_
    refine lv_iconst (v := 0) hx hb dX11_takesParish_29 (by decide) ?_
    refine lv_bipush (v := 9) hx hb dX11_takesParish_30 (by decide) ?_
    have hs15 : kw_Split [(va, .inl (y 0, 2, .inl fva)), (an, .inl (y 0, 76, .inl fan)), (mo, .inr (11, [.ref to, .ref ke, .ref ik, .ref mrf, .long mab, .long mbl, .ref ha, .ref r0, .ref mbr, .ref mbp, .ref mby, .int (nI bl), .int (nI (ks_S fmb bl e)), .int (nI (ks_L fmb bl e)), .int (nI (ks_K fmb bl e)), .int v9, .ref an, .ref va])), (mby, .inl (y 0, 150, .inl fmb))] [(mo, .inr (11, [.ref to, .ref ke, .ref ik, .ref mrf, .long mab, .long mbl, .ref ha, .ref r0, .ref mbr, .ref mbp, .ref mby, .int (nI bl), .int (nI (ks_S fmb bl e)), .int (nI (ks_L fmb bl e)), .int (nI (ks_K fmb bl e)), .int v9, .ref an, .ref va])), (mby, .inl (y 0, 150, .inl fmb)), (va, .inl (y 0, 2, .inl fva))] [(an, .inl (y 0, 76, .inl fan))] [2, 3, 0] [1] := ⟨rfl, rfl, rfl, rfl, rfl, by decide⟩
    refine kw_go_i hs15 hP hD hS hA (va_runV (As := [.int 0, .int 0, .int 9]) (rest := []) ⟨hx, hb, hml, hown, hts⟩ (gr_Mt09 l D y mo to ke ik mrf ha r0 mbr mbp mby an va mab mbl bl (ks_S fmb bl e) (ks_L fmb bl e) (ks_K fmb bl e) v9 fmb fva (ks_E fmb bl e) (ks_V fmb bl e) hbl (by omega) (by omega) (by omega) h14 _) (cwV 3 hts gX11_takesParish_X11_takes rfl rfl rfl (by decide +kernel) ⟨Nat.le_of_ble_eq_true rfl, Nat.le_of_ble_eq_true rfl⟩) (kw_PreV (ci := 11) (q0 := 2) hs15 hP hD hK hN rfl rfl) rfl rfl hl.1 rfl (lv_room (Nat.le_of_ble_eq_true rfl)) dX11_takesParish_32 ⟨Nat.le_of_ble_eq_true rfl, Nat.le_of_ble_eq_true rfl⟩) (fun r16 u17 H locs hq hP hD hS => ?_)
    obtain ⟨v18, v19, v20, v21, v22⟩ := u17
    try dsimp only at hq
    obtain ⟨h23, h24, h25, (rfl | rfl), h26, h27, h28⟩ := hq
    · skip
      have hP : va_P D vwCl [(an, .inl (y 0, 76, .inl fan)), (mo, .inr (11, [.ref to, .ref ke, .ref ik, .ref mrf, .long mab, .long mbl, .ref ha, .ref r0, .ref mbr, .ref mbp, .ref mby, .int (nI bl), .int (nI v18), .int (nI v19), .int (nI v20), .int v21, .ref an, .ref va])), (mby, .inl (y 0, 150, .inl fmb)), (va, .inl (y 0, 2, .inl v22))] H := hP
      have hD : va_D A [(an, .inl (y 0, 76, .inl fan)), (mo, .inr (11, [.ref to, .ref ke, .ref ik, .ref mrf, .long mab, .long mbl, .ref ha, .ref r0, .ref mbr, .ref mbp, .ref mby, .int (nI bl), .int (nI v18), .int (nI v19), .int (nI v20), .int v21, .ref an, .ref va])), (mby, .inl (y 0, 150, .inl fmb)), (va, .inl (y 0, 2, .inl v22))] := hD
      have h27 : kz_no (ks_K fmb bl e) 0 9 (ks_V fmb bl e) ∧ v22 = fva ∧ v18 = (ks_S fmb bl e) ∧ v19 = (ks_L fmb bl e) ∧ v20 = (ks_K fmb bl e) ∧ v21 = v9 := h27 rfl
      obtain ⟨h29, h30, h31, h32, h33, h34⟩ := h27
      have h30 := h30.symm
      subst h30
      have h31 := h31.symm
      subst h31
      have h32 := h32.symm
      subst h32
      have h33 := h33.symm
      subst h33
      have h34 := h34.symm
      subst h34
      have hP : va_P D vwCl [(an, .inl (y 0, 76, .inl fan)), (mo, .inr (11, [.ref to, .ref ke, .ref ik, .ref mrf, .long mab, .long mbl, .ref ha, .ref r0, .ref mbr, .ref mbp, .ref mby, .int (nI bl), .int (nI (ks_S fmb bl e)), .int (nI (ks_L fmb bl e)), .int (nI (ks_K fmb bl e)), .int v9, .ref an, .ref va])), (mby, .inl (y 0, 150, .inl fmb)), (va, .inl (y 0, 2, .inl (fva)))] H := hP
      have hD : va_D A [(an, .inl (y 0, 76, .inl fan)), (mo, .inr (11, [.ref to, .ref ke, .ref ik, .ref mrf, .long mab, .long mbl, .ref ha, .ref r0, .ref mbr, .ref mbp, .ref mby, .int (nI bl), .int (nI (ks_S fmb bl e)), .int (nI (ks_L fmb bl e)), .int (nI (ks_K fmb bl e)), .int v9, .ref an, .ref va])), (mby, .inl (y 0, 150, .inl fmb)), (va, .inl (y 0, 2, .inl (fva)))] := hD
      refine lv_if_ne (tgt := 40) hx hb dX11_takesParish_35 (by decide) (fun h9 => absurd h9 (by decide)) (fun _ => ?_)
      refine lv_iconst (v := 0) hx hb dX11_takesParish_38 (by decide) ?_
      exact W.zret (v := 0) hx hb hr (by decide) (fun tZ ht hW => ⟨⟨0, (ks_S fmb bl e, ks_L fmb bl e, ks_K fmb bl e, v9, (fva), fan, afi, agl, ami, ano, aun, asp), rfl, ⟨by first | omega | (dsimp only; omega), by first | omega | (dsimp only; omega), by first | omega | (dsimp only; omega), hkan, by first | omega | (dsimp only; omega), ha0_, by first | omega | (dsimp only; omega), ha1_, by first | omega | (dsimp only; omega), ha2_, by first | omega | (dsimp only; omega), ha3_, by first | omega | (dsimp only; omega), ha4_, by first | omega | (dsimp only; omega), ha21_, Or.inl rfl, by first | omega | (dsimp only; omega), by first | omega | (dsimp only; omega), (fun _ => ks_paF (ks_it0B h4 (kz_no_nm h29))), (fun h9 => absurd h9 (by decide))⟩, by rw [ht]; exact hP.sub [1, 2, 3, 0] rfl, hD.sub [1, 2, 3, 0] (by decide) rfl⟩, hS.F ht⟩) hS.2.2 dX11_takesParish_39
    · skip
      have hP : va_P D vwCl [(an, .inl (y 0, 76, .inl fan)), (mo, .inr (11, [.ref to, .ref ke, .ref ik, .ref mrf, .long mab, .long mbl, .ref ha, .ref r0, .ref mbr, .ref mbp, .ref mby, .int (nI bl), .int (nI v18), .int (nI v19), .int (nI v20), .int v21, .ref an, .ref va])), (mby, .inl (y 0, 150, .inl fmb)), (va, .inl (y 0, 2, .inl v22))] H := hP
      have hD : va_D A [(an, .inl (y 0, 76, .inl fan)), (mo, .inr (11, [.ref to, .ref ke, .ref ik, .ref mrf, .long mab, .long mbl, .ref ha, .ref r0, .ref mbr, .ref mbp, .ref mby, .int (nI bl), .int (nI v18), .int (nI v19), .int (nI v20), .int v21, .ref an, .ref va])), (mby, .inl (y 0, 150, .inl fmb)), (va, .inl (y 0, 2, .inl v22))] := hD
      have h26 : (ks_K fmb bl e) = 2 ∧ 0 ≤ (ks_V fmb bl e) ∧ (ks_V fmb bl e) ≤ 9 ∧ v22 = upd fva 0 (nI (ks_V fmb bl e)) ∧ v18 = ks_S fmb bl (ks_E fmb bl e) ∧ v19 = ks_L fmb bl (ks_E fmb bl e) ∧ v20 = ks_K fmb bl (ks_E fmb bl e) ∧ kz_N fmb bl (ks_E fmb bl e) v21 := h26 rfl
      obtain ⟨h35, h36, h37, h38, h39, h40, h41, h42⟩ := h26
      have h38 := h38.symm
      subst h38
      have h39 := h39.symm
      subst h39
      have h40 := h40.symm
      subst h40
      have h41 := h41.symm
      subst h41
      have hk43 := ks_SL (f := fmb) (n := bl) (p := ks_E fmb bl e) (by omega)
      have hk44 := ks_K4 fmb bl (ks_E fmb bl e)
      have hk45 := ks_S_le (f := fmb) (n := bl) (p := ks_E fmb bl e) (by omega)
      have hk46 : (upd fva 0 (nI (ks_V fmb bl e))) 0 = (nI (ks_V fmb bl e)) := pk_us
      have hP : va_P D vwCl [(an, .inl (y 0, 76, .inl fan)), (mo, .inr (11, [.ref to, .ref ke, .ref ik, .ref mrf, .long mab, .long mbl, .ref ha, .ref r0, .ref mbr, .ref mbp, .ref mby, .int (nI bl), .int (nI (ks_S fmb bl (ks_E fmb bl e))), .int (nI (ks_L fmb bl (ks_E fmb bl e))), .int (nI (ks_K fmb bl (ks_E fmb bl e))), .int v21, .ref an, .ref va])), (mby, .inl (y 0, 150, .inl fmb)), (va, .inl (y 0, 2, .inl (upd fva 0 (nI (ks_V fmb bl e)))))] H := hP
      have hD : va_D A [(an, .inl (y 0, 76, .inl fan)), (mo, .inr (11, [.ref to, .ref ke, .ref ik, .ref mrf, .long mab, .long mbl, .ref ha, .ref r0, .ref mbr, .ref mbp, .ref mby, .int (nI bl), .int (nI (ks_S fmb bl (ks_E fmb bl e))), .int (nI (ks_L fmb bl (ks_E fmb bl e))), .int (nI (ks_K fmb bl (ks_E fmb bl e))), .int v21, .ref an, .ref va])), (mby, .inl (y 0, 150, .inl fmb)), (va, .inl (y 0, 2, .inl (upd fva 0 (nI (ks_V fmb bl e)))))] := hD
      refine lv_if_ne (tgt := 40) hx hb dX11_takesParish_35 (by decide) (fun _ => ?_) (fun h9 => absurd h9 (by decide))
      refine lv_aload_n hx hb dX11_takesParish_40 rfl (lv_at hl 0 rfl) ?_
      refine va_get (D := D) (ci := 11) (v := .ref an) (C := RX11) (T := TX11) (N := 18) hx hb hts iw11 hown hK hP 1 rfl rfl 16 (by decide) fw1 (fun _ h9 => h9) rfl dX11_takesParish_41 ?_
      refine lv_aload_n hx hb dX11_takesParish_44 rfl (lv_at hl 0 rfl) ?_
      refine va_get (D := D) (ci := 11) (v := .ref va) (C := RX11) (T := TX11) (N := 18) hx hb hts iw11 hown hK hP 1 rfl rfl 17 (by decide) fw2 (fun _ h9 => h9) rfl dX11_takesParish_45 ?_
      refine lv_iconst (v := 0) hx hb dX11_takesParish_48 (by decide) ?_
      refine va_iald hx hb hK hP 3 0 rfl rfl (by unfold vp_in; decide) dX11_takesParish_49 ?_
      rw [show ((0 : Int32)).toNatClampNeg = 0 from rfl]
      rw [show ((upd fva 0 (nI (ks_V fmb bl e))) 0) = (nI (ks_V fmb bl e)) from hk46]
      have hs47 : kw_Split [(an, .inl (y 0, 76, .inl fan)), (mo, .inr (11, [.ref to, .ref ke, .ref ik, .ref mrf, .long mab, .long mbl, .ref ha, .ref r0, .ref mbr, .ref mbp, .ref mby, .int (nI bl), .int (nI (ks_S fmb bl (ks_E fmb bl e))), .int (nI (ks_L fmb bl (ks_E fmb bl e))), .int (nI (ks_K fmb bl (ks_E fmb bl e))), .int v21, .ref an, .ref va])), (mby, .inl (y 0, 150, .inl fmb)), (va, .inl (y 0, 2, .inl (upd fva 0 (nI (ks_V fmb bl e)))))] [(an, .inl (y 0, 76, .inl fan))] [(mo, .inr (11, [.ref to, .ref ke, .ref ik, .ref mrf, .long mab, .long mbl, .ref ha, .ref r0, .ref mbr, .ref mbp, .ref mby, .int (nI bl), .int (nI (ks_S fmb bl (ks_E fmb bl e))), .int (nI (ks_L fmb bl (ks_E fmb bl e))), .int (nI (ks_K fmb bl (ks_E fmb bl e))), .int v21, .ref an, .ref va])), (mby, .inl (y 0, 150, .inl fmb)), (va, .inl (y 0, 2, .inl (upd fva 0 (nI (ks_V fmb bl e)))))] [0] [1, 2, 3] := ⟨rfl, rfl, rfl, rfl, rfl, by decide⟩
      refine kw_go_v hs47 hP hD hS hA (va_runS (As := [.ref an, .int (nI (ks_V fmb bl e))]) (rest := []) ⟨hx, hb, hml, hown, hts⟩ (gr_Mbegin l D y an fan (nI (ks_V fmb bl e)) hkan _) (va_cwS 2 hts gX11_takesParish_X11_begin rfl rfl rfl (by decide +kernel) ⟨Nat.le_of_ble_eq_true rfl, Nat.le_of_ble_eq_true rfl⟩) (kw_PreS hs47 hP hD hK hN) rfl rfl hl.1 rfl (lv_room (Nat.le_of_ble_eq_true rfl)) dX11_takesParish_50 ⟨Nat.le_of_ble_eq_true rfl, Nat.le_of_ble_eq_true rfl⟩) (fun u49 H locs hq hP hD hS => ?_)
      have h50 := hq
      have hk51 : (upd (kr_bg fan 76) 22 (nI (ks_V fmb bl e))) 0 = 0 := ((pk_un (by decide)).trans (kr_bg_lt (by decide)))
      have hk52 : (upd (kr_bg fan 76) 22 (nI (ks_V fmb bl e))) 1 = 0 := ((pk_un (by decide)).trans (kr_bg_lt (by decide)))
      have hk53 : (upd (kr_bg fan 76) 22 (nI (ks_V fmb bl e))) 2 = 0 := ((pk_un (by decide)).trans (kr_bg_lt (by decide)))
      have hk54 : (upd (kr_bg fan 76) 22 (nI (ks_V fmb bl e))) 3 = 0 := ((pk_un (by decide)).trans (kr_bg_lt (by decide)))
      have hk55 : (upd (kr_bg fan 76) 22 (nI (ks_V fmb bl e))) 4 = 0 := ((pk_un (by decide)).trans (kr_bg_lt (by decide)))
      have hk56 : (upd (kr_bg fan 76) 22 (nI (ks_V fmb bl e))) 21 = 0 := ((pk_un (by decide)).trans (kr_bg_lt (by decide)))
      have hP : va_P D vwCl [(mo, .inr (11, [.ref to, .ref ke, .ref ik, .ref mrf, .long mab, .long mbl, .ref ha, .ref r0, .ref mbr, .ref mbp, .ref mby, .int (nI bl), .int (nI (ks_S fmb bl (ks_E fmb bl e))), .int (nI (ks_L fmb bl (ks_E fmb bl e))), .int (nI (ks_K fmb bl (ks_E fmb bl e))), .int v21, .ref an, .ref va])), (mby, .inl (y 0, 150, .inl fmb)), (va, .inl (y 0, 2, .inl (upd fva 0 (nI (ks_V fmb bl e))))), (an, .inl (y 0, 76, .inl (upd (kr_bg fan 76) 22 (nI (ks_V fmb bl e)))))] H := hP
      have hD : va_D A [(mo, .inr (11, [.ref to, .ref ke, .ref ik, .ref mrf, .long mab, .long mbl, .ref ha, .ref r0, .ref mbr, .ref mbp, .ref mby, .int (nI bl), .int (nI (ks_S fmb bl (ks_E fmb bl e))), .int (nI (ks_L fmb bl (ks_E fmb bl e))), .int (nI (ks_K fmb bl (ks_E fmb bl e))), .int v21, .ref an, .ref va])), (mby, .inl (y 0, 150, .inl fmb)), (va, .inl (y 0, 2, .inl (upd fva 0 (nI (ks_V fmb bl e))))), (an, .inl (y 0, 76, .inl (upd (kr_bg fan 76) 22 (nI (ks_V fmb bl e)))))] := hD
      refine lv_aload_n hx hb dX11_takesParish_53 rfl (lv_at hl 0 rfl) ?_
      refine va_get (D := D) (ci := 11) (v := .int (nI (ks_K fmb bl (ks_E fmb bl e)))) (C := RX11) (T := TX11) (N := 18) hx hb hts iw11 hown hK hP 0 rfl rfl 14 (by decide) fw3 (fun _ h9 => h9) rfl dX11_takesParish_54 ?_
      refine lv_iconst (v := 3) hx hb dX11_takesParish_57 (by decide) ?_
      refine lv_icmp_ne (tgt := 65) hx hb dX11_takesParish_58 (by decide) (fun h57 => ?_) (fun h58 => ?_)
      · skip
        have h57 : ¬ (ks_K fmb bl (ks_E fmb bl e)) = 3 := fun q9 => h57 ((nI_eq (a := (ks_K fmb bl (ks_E fmb bl e))) (b := 3) (by omega) (by omega)).mpr q9)
        refine lv_iconst (v := 0) hx hb dX11_takesParish_65 (by decide) ?_
        exact W.zret (v := 0) hx hb hr (by decide) (fun tZ ht hW => ⟨⟨0, (ks_S fmb bl (ks_E fmb bl e), ks_L fmb bl (ks_E fmb bl e), ks_K fmb bl (ks_E fmb bl e), v21, (upd fva 0 (nI (ks_V fmb bl e))), (upd (kr_bg fan 76) 22 (nI (ks_V fmb bl e))), 0, 0, 0, 0, 0, 0), rfl, ⟨by first | omega | (dsimp only; omega), by first | omega | (dsimp only; omega), by first | omega | (dsimp only; omega), h50, by first | omega | (dsimp only; omega), hk51, by first | omega | (dsimp only; omega), hk52, by first | omega | (dsimp only; omega), hk53, by first | omega | (dsimp only; omega), hk54, by first | omega | (dsimp only; omega), hk55, by first | omega | (dsimp only; omega), hk56, Or.inl rfl, by first | omega | (dsimp only; omega), by first | omega | (dsimp only; omega), (fun _ => ks_paS (ks_it0C h4 (ks_nm_mk h35 (by first | omega | (dsimp only; omega)) (by first | omega | (dsimp only; omega)))) h57), (fun h9 => absurd h9 (by decide))⟩, by rw [ht]; exact hP.sub [0, 1, 2, 3] rfl, hD.sub [0, 1, 2, 3] (by decide) rfl⟩, hS.F ht⟩) hS.2.2 dX11_takesParish_66
      · skip
        have h58 : (ks_K fmb bl (ks_E fmb bl e)) = 3 := (nI_eq (a := (ks_K fmb bl (ks_E fmb bl e))) (b := 3) (by omega) (by omega)).mp h58
        refine lv_iconst (v := 1) hx hb dX11_takesParish_61 (by decide) ?_
        refine lv_goto (tgt := 66) hx hb dX11_takesParish_62 (by decide) ?_
        exact W.zret (v := 1) hx hb hr (by decide) (fun tZ ht hW => ⟨⟨1, (ks_S fmb bl (ks_E fmb bl e), ks_L fmb bl (ks_E fmb bl e), ks_K fmb bl (ks_E fmb bl e), v21, (upd fva 0 (nI (ks_V fmb bl e))), (upd (kr_bg fan 76) 22 (nI (ks_V fmb bl e))), 0, 0, 0, 0, 0, 0), rfl, ⟨by first | omega | (dsimp only; omega), by first | omega | (dsimp only; omega), by first | omega | (dsimp only; omega), h50, by first | omega | (dsimp only; omega), hk51, by first | omega | (dsimp only; omega), hk52, by first | omega | (dsimp only; omega), hk53, by first | omega | (dsimp only; omega), hk54, by first | omega | (dsimp only; omega), hk55, by first | omega | (dsimp only; omega), hk56, Or.inr rfl, by first | omega | (dsimp only; omega), by first | omega | (dsimp only; omega), (fun h9 => absurd h9 (by decide)), (fun _ => ⟨ks_paN (ks_it0C h4 (ks_nm_mk h35 (by first | omega | (dsimp only; omega)) (by first | omega | (dsimp only; omega)))) h58, h58, rfl, rfl, rfl, rfl, rfl, rfl, rfl, rfl, rfl, h42⟩)⟩, by rw [ht]; exact hP.sub [0, 1, 2, 3] rfl, hD.sub [0, 1, 2, 3] (by decide) rfl⟩, hS.F ht⟩) hS.2.2 dX11_takesParish_66
  · skip
    have hP : va_P D vwCl [(va, .inl (y 0, 2, .inl fva)), (an, .inl (y 0, 76, .inl fan)), (mo, .inr (11, [.ref to, .ref ke, .ref ik, .ref mrf, .long mab, .long mbl, .ref ha, .ref r0, .ref mbr, .ref mbp, .ref mby, .int (nI bl), .int (nI ta), .int (nI tl), .int (nI tk), .int vv, .ref an, .ref va])), (mby, .inl (y 0, 150, .inl fmb))] H := hP
    have hD : va_D A [(va, .inl (y 0, 2, .inl fva)), (an, .inl (y 0, 76, .inl fan)), (mo, .inr (11, [.ref to, .ref ke, .ref ik, .ref mrf, .long mab, .long mbl, .ref ha, .ref r0, .ref mbr, .ref mbp, .ref mby, .int (nI bl), .int (nI ta), .int (nI tl), .int (nI tk), .int vv, .ref an, .ref va])), (mby, .inl (y 0, 150, .inl fmb))] := hD
    refine lv_if_ne (tgt := 23) hx hb dX11_takesParish_18 (by decide) (fun h9 => absurd h9 (by decide)) (fun _ => ?_)
    refine lv_iconst (v := 0) hx hb dX11_takesParish_21 (by decide) ?_
    exact W.zret (v := 0) hx hb hr (by decide) (fun tZ ht hW => ⟨⟨0, (ta, tl, tk, vv, fva, fan, afi, agl, ami, ano, aun, asp), rfl, ⟨by first | omega | (dsimp only; omega), by first | omega | (dsimp only; omega), by first | omega | (dsimp only; omega), hkan, by first | omega | (dsimp only; omega), ha0_, by first | omega | (dsimp only; omega), ha1_, by first | omega | (dsimp only; omega), ha2_, by first | omega | (dsimp only; omega), ha3_, by first | omega | (dsimp only; omega), ha4_, by first | omega | (dsimp only; omega), ha21_, Or.inl rfl, by first | omega | (dsimp only; omega), by first | omega | (dsimp only; omega), (fun _ => ks_paF (ks_it0A h5)), (fun h9 => absurd h9 (by decide))⟩, by rw [ht]; exact hP.sub [2, 3, 0, 1] rfl, hD.sub [2, 3, 0, 1] (by decide) rfl⟩, hS.F ht⟩) hS.2.2 dX11_takesParish_22

set_option maxHeartbeats 4000000 in
set_option maxRecDepth 100000 in
theorem gr_MtakesField (l : Launch) (D : va_G) (y : Nat → ClassId) (mo : Nat) (to : Nat) (ke : Nat) (ik : Nat) (mrf : Nat) (ha : Nat) (r0 : Nat) (mbr : Nat) (mbp : Nat) (mby : Nat) (an : Nat) (va : Nat) (mab : Int64) (mbl : Int64) (bl : Nat) (ta : Nat) (tl : Nat) (tk : Nat) (vv : Int32) (fmb : Nat → Int32) (fva : Nat → Int32) (fan : Nat → Int32) (afi : Nat) (agl : Nat) (ami : Nat) (ano : Nat) (aun : Nat) (asp : Nat) (e : Nat) (kd : Nat → Int32) (hbl : bl ≤ 150) (he : ta + tl = e) (heb : e ≤ bl) (htk : tk ≤ 4) (ha0_ : fan 0 = (nI afi)) (ha1_ : fan 1 = (nI agl)) (ha2_ : fan 2 = (nI ami)) (ha3_ : fan 3 = (nI ano)) (ha4_ : fan 4 = (nI aun)) (ha21_ : fan 21 = (nI asp)) (hkan : kr_t 76 fan) (hB0 : afi ≤ 6) (hB1 : agl ≤ 5) (hB2 : ami ≤ 4) (hB3 : ano ≤ 6) (hB4 : aun ≤ 8) (hB5 : asp ≤ 12) (hagf : (agl = 0 ∨ 0 < afi)) (hkd : kz_ka fan afi kd) : kw_Mi l yX11_takesField wsX11_takesField ({ frames := 6, cells := 0, slots := 0, locals := 172 }) D y [.ref mo] [(mo, .inr (11, [.ref to, .ref ke, .ref ik, .ref mrf, .long mab, .long mbl, .ref ha, .ref r0, .ref mbr, .ref mbp, .ref mby, .int (nI bl), .int (nI ta), .int (nI tl), .int (nI tk), .int vv, .ref an, .ref va])), (mby, .inl (y 0, 150, .inl fmb)), (va, .inl (y 0, 2, .inl fva)), (an, .inl (y 0, 76, .inl fan))] (fun (r : Int32) (u : Nat × Nat × Nat × Int32 × (Nat → Int32) × (Nat → Int32) × Nat) => u.1 ≤ bl ∧ u.2.1 ≤ 150 ∧ u.2.2.1 ≤ 4 ∧ kr_t 76 u.2.2.2.2.2.1 ∧ u.2.2.2.2.2.2 ≤ 6 ∧ u.2.2.2.2.2.1 0 = (nI u.2.2.2.2.2.2) ∧ u.2.2.2.2.2.1 1 = (nI agl) ∧ u.2.2.2.2.2.1 2 = (nI ami) ∧ u.2.2.2.2.2.1 3 = (nI ano) ∧ u.2.2.2.2.2.1 4 = (nI aun) ∧ u.2.2.2.2.2.1 21 = (nI asp) ∧ (r = 0 ∨ r = 1) ∧ u.1 + u.2.1 ≤ bl ∧ (agl = 0 ∨ 0 < u.2.2.2.2.2.2) ∧ (r = 0 → ks_fld fmb bl ta e afi agl (12 - asp) kd = ks_flt u.1) ∧ (r = 1 → kz_go fmb bl e (ks_fld fmb bl ta e afi agl (12 - asp) kd) u.1 u.2.1 u.2.2.1 u.2.2.2.1 u.2.2.2.2.2.2 agl (12 - asp) u.2.2.2.2.2.1)) (fun u => [(mo, .inr (11, [.ref to, .ref ke, .ref ik, .ref mrf, .long mab, .long mbl, .ref ha, .ref r0, .ref mbr, .ref mbp, .ref mby, .int (nI bl), .int (nI u.1), .int (nI u.2.1), .int (nI u.2.2.1), .int u.2.2.2.1, .ref an, .ref va])), (mby, .inl (y 0, 150, .inl fmb)), (va, .inl (y 0, 2, .inl u.2.2.2.2.1)), (an, .inl (y 0, 76, .inl u.2.2.2.2.2.1))]) 0 0 := by
  refine kw_Mi.of (cc := cX11_takesField) (maxL := 1) (ret := (some .boolean)) (by decide) rfl ?_
  intro pZ eZ s mZ beZ meZ cZ A hE
  obtain ⟨hx, hb, hr, hml, hts, hown, hlocks, hin, hA, hP, hD, hK, hN⟩ := hE
  have hS : va_S A s.heap s.heap [] := va_S.rf
  have hl := lv_entry ([.ref mo]) (n := 1) (Nat.le_of_ble_eq_true rfl)
  rw [lg_entry_eq]
  generalize (lg_sl ([.ref mo]) ++ List.replicate (1 - (lg_sl ([.ref mo])).length) Slot.unset).toArray = ls at hl ⊢
  have hl : lv_has ls 1 [(0, .ref mo)] := hl
  have fw1 := hts (.fieldLink RX11 42 "GleanDuskModel" "anew" "[I") (List.mem_of_getElem? (i := 1) rfl)
  have fw2 := hts (.fieldLink RX11 45 "GleanDuskModel" "values" "[I") (List.mem_of_getElem? (i := 2) rfl)
  have iw11 : ∀ w ∈ wsX110, w ∈ wsX11_takesField := fun _ h => List.mem_cons_of_mem _ (List.mem_append_right _ h)
  refine lv_aload_n hx hb dX11_takesField_0 rfl (lv_at hl 0 rfl) ?_
  refine va_get (D := D) (ci := 11) (v := .ref an) (C := RX11) (T := TX11) (N := 18) hx hb hts iw11 hown hK hP 0 rfl rfl 16 (by decide) fw1 (fun _ h9 => h9) rfl dX11_takesField_1 ?_
  refine lv_iconst (v := 0) hx hb dX11_takesField_4 (by decide) ?_
  refine va_iald hx hb hK hP 3 0 rfl rfl (by unfold vp_in; decide) dX11_takesField_5 ?_
  rw [show ((0 : Int32)).toNatClampNeg = 0 from rfl]
  rw [show (fan 0) = (nI afi) from ha0_]
  refine lv_bipush (v := 6) hx hb dX11_takesField_6 (by decide) ?_
  refine lv_icmp_ne (tgt := 13) hx hb dX11_takesField_8 (by decide) (fun h1 => ?_) (fun h2 => ?_)
  · skip
    have h1 : ¬ afi = 6 := fun q9 => h1 ((nI_eq (a := afi) (b := 6) (by omega) (by omega)).mpr q9)
    refine lv_aload_n hx hb dX11_takesField_13 rfl (lv_at hl 0 rfl) ?_
    have hs3 : kw_Split [(mo, .inr (11, [.ref to, .ref ke, .ref ik, .ref mrf, .long mab, .long mbl, .ref ha, .ref r0, .ref mbr, .ref mbp, .ref mby, .int (nI bl), .int (nI ta), .int (nI tl), .int (nI tk), .int vv, .ref an, .ref va])), (mby, .inl (y 0, 150, .inl fmb)), (va, .inl (y 0, 2, .inl fva)), (an, .inl (y 0, 76, .inl fan))] [(mo, .inr (11, [.ref to, .ref ke, .ref ik, .ref mrf, .long mab, .long mbl, .ref ha, .ref r0, .ref mbr, .ref mbp, .ref mby, .int (nI bl), .int (nI ta), .int (nI tl), .int (nI tk), .int vv, .ref an, .ref va])), (mby, .inl (y 0, 150, .inl fmb))] [(va, .inl (y 0, 2, .inl fva)), (an, .inl (y 0, 76, .inl fan))] [0, 1] [2, 3] := ⟨rfl, rfl, rfl, rfl, rfl, by decide⟩
    refine kw_go_v hs3 hP hD hS hA (va_runV (As := []) (rest := []) ⟨hx, hb, hml, hown, hts⟩ (gr_Mgo l D y mo to ke ik mrf ha r0 mbr mbp mby an va mab mbl bl ta tl tk vv fmb e hbl he heb htk _) (cwV 0 hts gX11_takesField_X11_goBehind rfl rfl rfl (by decide +kernel) ⟨Nat.le_of_ble_eq_true rfl, Nat.le_of_ble_eq_true rfl⟩) (kw_PreV (ci := 11) (q0 := 0) hs3 hP hD hK hN rfl rfl) rfl rfl hl.1 rfl (lv_room (Nat.le_of_ble_eq_true rfl)) dX11_takesField_14 ⟨Nat.le_of_ble_eq_true rfl, Nat.le_of_ble_eq_true rfl⟩) (fun u5 H locs hq hP hD hS => ?_)
    obtain ⟨v6, rfl⟩ : ∃ z, z = u5 := ⟨_, rfl⟩
    try dsimp only at hq
    obtain ⟨h7, h8, h9, h10, h11⟩ := hq
    have hP : va_P D vwCl [(va, .inl (y 0, 2, .inl fva)), (an, .inl (y 0, 76, .inl fan)), (mo, .inr (11, [.ref to, .ref ke, .ref ik, .ref mrf, .long mab, .long mbl, .ref ha, .ref r0, .ref mbr, .ref mbp, .ref mby, .int (nI bl), .int (nI (ks_S fmb bl e)), .int (nI (ks_L fmb bl e)), .int (nI (ks_K fmb bl e)), .int v6, .ref an, .ref va])), (mby, .inl (y 0, 150, .inl fmb))] H := hP
    have hD : va_D A [(va, .inl (y 0, 2, .inl fva)), (an, .inl (y 0, 76, .inl fan)), (mo, .inr (11, [.ref to, .ref ke, .ref ik, .ref mrf, .long mab, .long mbl, .ref ha, .ref r0, .ref mbr, .ref mbp, .ref mby, .int (nI bl), .int (nI (ks_S fmb bl e)), .int (nI (ks_L fmb bl e)), .int (nI (ks_K fmb bl e)), .int v6, .ref an, .ref va])), (mby, .inl (y 0, 150, .inl fmb))] := hD
    refine lv_aload_n hx hb dX11_takesField_17 rfl (lv_at hl 0 rfl) ?_
    refine lv_iconst (v := 0) hx hb dX11_takesField_18 (by decide) ?_
    refine lv_iconst (v := 0) hx hb dX11_takesField_19 (by decide) ?_
    refine lv_iconst (v := 5) hx hb dX11_takesField_20 (by decide) ?_
    have hs12 : kw_Split [(va, .inl (y 0, 2, .inl fva)), (an, .inl (y 0, 76, .inl fan)), (mo, .inr (11, [.ref to, .ref ke, .ref ik, .ref mrf, .long mab, .long mbl, .ref ha, .ref r0, .ref mbr, .ref mbp, .ref mby, .int (nI bl), .int (nI (ks_S fmb bl e)), .int (nI (ks_L fmb bl e)), .int (nI (ks_K fmb bl e)), .int v6, .ref an, .ref va])), (mby, .inl (y 0, 150, .inl fmb))] [(mo, .inr (11, [.ref to, .ref ke, .ref ik, .ref mrf, .long mab, .long mbl, .ref ha, .ref r0, .ref mbr, .ref mbp, .ref mby, .int (nI bl), .int (nI (ks_S fmb bl e)), .int (nI (ks_L fmb bl e)), .int (nI (ks_K fmb bl e)), .int v6, .ref an, .ref va])), (mby, .inl (y 0, 150, .inl fmb)), (va, .inl (y 0, 2, .inl fva))] [(an, .inl (y 0, 76, .inl fan))] [2, 3, 0] [1] := ⟨rfl, rfl, rfl, rfl, rfl, by decide⟩
    refine kw_go_i hs12 hP hD hS hA (va_runV (As := [.int 0, .int 0, .int 5]) (rest := []) ⟨hx, hb, hml, hown, hts⟩ (gr_Mt05 l D y mo to ke ik mrf ha r0 mbr mbp mby an va mab mbl bl (ks_S fmb bl e) (ks_L fmb bl e) (ks_K fmb bl e) v6 fmb fva (ks_E fmb bl e) (ks_V fmb bl e) hbl (by omega) (by omega) (by omega) h11 _) (cwV 3 hts gX11_takesField_X11_takes rfl rfl rfl (by decide +kernel) ⟨Nat.le_of_ble_eq_true rfl, Nat.le_of_ble_eq_true rfl⟩) (kw_PreV (ci := 11) (q0 := 2) hs12 hP hD hK hN rfl rfl) rfl rfl hl.1 rfl (lv_room (Nat.le_of_ble_eq_true rfl)) dX11_takesField_21 ⟨Nat.le_of_ble_eq_true rfl, Nat.le_of_ble_eq_true rfl⟩) (fun r13 u14 H locs hq hP hD hS => ?_)
    obtain ⟨v15, v16, v17, v18, v19⟩ := u14
    try dsimp only at hq
    obtain ⟨h20, h21, h22, (rfl | rfl), h23, h24, h25⟩ := hq
    · skip
      have hP : va_P D vwCl [(an, .inl (y 0, 76, .inl fan)), (mo, .inr (11, [.ref to, .ref ke, .ref ik, .ref mrf, .long mab, .long mbl, .ref ha, .ref r0, .ref mbr, .ref mbp, .ref mby, .int (nI bl), .int (nI v15), .int (nI v16), .int (nI v17), .int v18, .ref an, .ref va])), (mby, .inl (y 0, 150, .inl fmb)), (va, .inl (y 0, 2, .inl v19))] H := hP
      have hD : va_D A [(an, .inl (y 0, 76, .inl fan)), (mo, .inr (11, [.ref to, .ref ke, .ref ik, .ref mrf, .long mab, .long mbl, .ref ha, .ref r0, .ref mbr, .ref mbp, .ref mby, .int (nI bl), .int (nI v15), .int (nI v16), .int (nI v17), .int v18, .ref an, .ref va])), (mby, .inl (y 0, 150, .inl fmb)), (va, .inl (y 0, 2, .inl v19))] := hD
      have h24 : kz_no (ks_K fmb bl e) 0 5 (ks_V fmb bl e) ∧ v19 = fva ∧ v15 = (ks_S fmb bl e) ∧ v16 = (ks_L fmb bl e) ∧ v17 = (ks_K fmb bl e) ∧ v18 = v6 := h24 rfl
      obtain ⟨h26, h27, h28, h29, h30, h31⟩ := h24
      have h27 := h27.symm
      subst h27
      have h28 := h28.symm
      subst h28
      have h29 := h29.symm
      subst h29
      have h30 := h30.symm
      subst h30
      have h31 := h31.symm
      subst h31
      have hP : va_P D vwCl [(an, .inl (y 0, 76, .inl fan)), (mo, .inr (11, [.ref to, .ref ke, .ref ik, .ref mrf, .long mab, .long mbl, .ref ha, .ref r0, .ref mbr, .ref mbp, .ref mby, .int (nI bl), .int (nI (ks_S fmb bl e)), .int (nI (ks_L fmb bl e)), .int (nI (ks_K fmb bl e)), .int v6, .ref an, .ref va])), (mby, .inl (y 0, 150, .inl fmb)), (va, .inl (y 0, 2, .inl (fva)))] H := hP
      have hD : va_D A [(an, .inl (y 0, 76, .inl fan)), (mo, .inr (11, [.ref to, .ref ke, .ref ik, .ref mrf, .long mab, .long mbl, .ref ha, .ref r0, .ref mbr, .ref mbp, .ref mby, .int (nI bl), .int (nI (ks_S fmb bl e)), .int (nI (ks_L fmb bl e)), .int (nI (ks_K fmb bl e)), .int v6, .ref an, .ref va])), (mby, .inl (y 0, 150, .inl fmb)), (va, .inl (y 0, 2, .inl (fva)))] := hD
      refine lv_if_eq (tgt := 38) hx hb dX11_takesField_24 (by decide) (fun _ => ?_) (fun h9 => absurd h9 (by decide))
      refine lv_iconst (v := 0) hx hb dX11_takesField_38 (by decide) ?_
      exact W.zret (v := 0) hx hb hr (by decide) (fun tZ ht hW => ⟨⟨0, (ks_S fmb bl e, ks_L fmb bl e, ks_K fmb bl e, v6, (fva), fan, afi), rfl, ⟨by first | omega | (dsimp only; omega), by first | omega | (dsimp only; omega), by first | omega | (dsimp only; omega), hkan, by first | omega | (dsimp only; omega), ha0_, ha1_, ha2_, ha3_, ha4_, ha21_, Or.inl rfl, by first | omega | (dsimp only; omega), by first | omega | (dsimp only; omega), (fun _ => ks_fldA (by first | omega | (dsimp only; omega)) (kz_no_nm h26)), (fun h9 => absurd h9 (by decide))⟩, by rw [ht]; exact hP.sub [1, 2, 3, 0] rfl, hD.sub [1, 2, 3, 0] (by decide) rfl⟩, hS.F ht⟩) hS.2.2 dX11_takesField_39
    · skip
      have hP : va_P D vwCl [(an, .inl (y 0, 76, .inl fan)), (mo, .inr (11, [.ref to, .ref ke, .ref ik, .ref mrf, .long mab, .long mbl, .ref ha, .ref r0, .ref mbr, .ref mbp, .ref mby, .int (nI bl), .int (nI v15), .int (nI v16), .int (nI v17), .int v18, .ref an, .ref va])), (mby, .inl (y 0, 150, .inl fmb)), (va, .inl (y 0, 2, .inl v19))] H := hP
      have hD : va_D A [(an, .inl (y 0, 76, .inl fan)), (mo, .inr (11, [.ref to, .ref ke, .ref ik, .ref mrf, .long mab, .long mbl, .ref ha, .ref r0, .ref mbr, .ref mbp, .ref mby, .int (nI bl), .int (nI v15), .int (nI v16), .int (nI v17), .int v18, .ref an, .ref va])), (mby, .inl (y 0, 150, .inl fmb)), (va, .inl (y 0, 2, .inl v19))] := hD
      have h23 : (ks_K fmb bl e) = 2 ∧ 0 ≤ (ks_V fmb bl e) ∧ (ks_V fmb bl e) ≤ 5 ∧ v19 = upd fva 0 (nI (ks_V fmb bl e)) ∧ v15 = ks_S fmb bl (ks_E fmb bl e) ∧ v16 = ks_L fmb bl (ks_E fmb bl e) ∧ v17 = ks_K fmb bl (ks_E fmb bl e) ∧ kz_N fmb bl (ks_E fmb bl e) v18 := h23 rfl
      obtain ⟨h32, h33, h34, h35, h36, h37, h38, h39⟩ := h23
      have h35 := h35.symm
      subst h35
      have h36 := h36.symm
      subst h36
      have h37 := h37.symm
      subst h37
      have h38 := h38.symm
      subst h38
      have hk40 := ks_SL (f := fmb) (n := bl) (p := ks_E fmb bl e) (by omega)
      have hk41 := ks_K4 fmb bl (ks_E fmb bl e)
      have hk42 := ks_S_le (f := fmb) (n := bl) (p := ks_E fmb bl e) (by omega)
      have hk43 : (upd fva 0 (nI (ks_V fmb bl e))) 0 = (nI (ks_V fmb bl e)) := pk_us
      have hP : va_P D vwCl [(an, .inl (y 0, 76, .inl fan)), (mo, .inr (11, [.ref to, .ref ke, .ref ik, .ref mrf, .long mab, .long mbl, .ref ha, .ref r0, .ref mbr, .ref mbp, .ref mby, .int (nI bl), .int (nI (ks_S fmb bl (ks_E fmb bl e))), .int (nI (ks_L fmb bl (ks_E fmb bl e))), .int (nI (ks_K fmb bl (ks_E fmb bl e))), .int v18, .ref an, .ref va])), (mby, .inl (y 0, 150, .inl fmb)), (va, .inl (y 0, 2, .inl (upd fva 0 (nI (ks_V fmb bl e)))))] H := hP
      have hD : va_D A [(an, .inl (y 0, 76, .inl fan)), (mo, .inr (11, [.ref to, .ref ke, .ref ik, .ref mrf, .long mab, .long mbl, .ref ha, .ref r0, .ref mbr, .ref mbp, .ref mby, .int (nI bl), .int (nI (ks_S fmb bl (ks_E fmb bl e))), .int (nI (ks_L fmb bl (ks_E fmb bl e))), .int (nI (ks_K fmb bl (ks_E fmb bl e))), .int v18, .ref an, .ref va])), (mby, .inl (y 0, 150, .inl fmb)), (va, .inl (y 0, 2, .inl (upd fva 0 (nI (ks_V fmb bl e)))))] := hD
      refine lv_if_eq (tgt := 38) hx hb dX11_takesField_24 (by decide) (fun h9 => absurd h9 (by decide)) (fun _ => ?_)
      refine lv_aload_n hx hb dX11_takesField_27 rfl (lv_at hl 0 rfl) ?_
      refine lv_iconst (v := 1) hx hb dX11_takesField_28 (by decide) ?_
      refine lv_iconst (v := 0) hx hb dX11_takesField_29 (by decide) ?_
      refine lv_bipush (v := 60) hx hb dX11_takesField_30 (by decide) ?_
      have hs44 : kw_Split [(an, .inl (y 0, 76, .inl fan)), (mo, .inr (11, [.ref to, .ref ke, .ref ik, .ref mrf, .long mab, .long mbl, .ref ha, .ref r0, .ref mbr, .ref mbp, .ref mby, .int (nI bl), .int (nI (ks_S fmb bl (ks_E fmb bl e))), .int (nI (ks_L fmb bl (ks_E fmb bl e))), .int (nI (ks_K fmb bl (ks_E fmb bl e))), .int v18, .ref an, .ref va])), (mby, .inl (y 0, 150, .inl fmb)), (va, .inl (y 0, 2, .inl (upd fva 0 (nI (ks_V fmb bl e)))))] [(mo, .inr (11, [.ref to, .ref ke, .ref ik, .ref mrf, .long mab, .long mbl, .ref ha, .ref r0, .ref mbr, .ref mbp, .ref mby, .int (nI bl), .int (nI (ks_S fmb bl (ks_E fmb bl e))), .int (nI (ks_L fmb bl (ks_E fmb bl e))), .int (nI (ks_K fmb bl (ks_E fmb bl e))), .int v18, .ref an, .ref va])), (mby, .inl (y 0, 150, .inl fmb)), (va, .inl (y 0, 2, .inl (upd fva 0 (nI (ks_V fmb bl e)))))] [(an, .inl (y 0, 76, .inl fan))] [1, 2, 3] [0] := ⟨rfl, rfl, rfl, rfl, rfl, by decide⟩
      refine kw_go_i hs44 hP hD hS hA (va_runV (As := [.int 1, .int 0, .int 60]) (rest := []) ⟨hx, hb, hml, hown, hts⟩ (gr_Mt60 l D y mo to ke ik mrf ha r0 mbr mbp mby an va mab mbl bl (ks_S fmb bl (ks_E fmb bl e)) (ks_L fmb bl (ks_E fmb bl e)) (ks_K fmb bl (ks_E fmb bl e)) v18 fmb (upd fva 0 (nI (ks_V fmb bl e))) (ks_E fmb bl (ks_E fmb bl e)) (ks_V fmb bl (ks_E fmb bl e)) hbl (by omega) (by omega) (by omega) h39 _) (cwV 3 hts gX11_takesField_X11_takes rfl rfl rfl (by decide +kernel) ⟨Nat.le_of_ble_eq_true rfl, Nat.le_of_ble_eq_true rfl⟩) (kw_PreV (ci := 11) (q0 := 1) hs44 hP hD hK hN rfl rfl) rfl rfl hl.1 rfl (lv_room (Nat.le_of_ble_eq_true rfl)) dX11_takesField_32 ⟨Nat.le_of_ble_eq_true rfl, Nat.le_of_ble_eq_true rfl⟩) (fun r45 u46 H locs hq hP hD hS => ?_)
      obtain ⟨v47, v48, v49, v50, v51⟩ := u46
      try dsimp only at hq
      obtain ⟨h52, h53, h54, (rfl | rfl), h55, h56, h57⟩ := hq
      · skip
        have hP : va_P D vwCl [(an, .inl (y 0, 76, .inl fan)), (mo, .inr (11, [.ref to, .ref ke, .ref ik, .ref mrf, .long mab, .long mbl, .ref ha, .ref r0, .ref mbr, .ref mbp, .ref mby, .int (nI bl), .int (nI v47), .int (nI v48), .int (nI v49), .int v50, .ref an, .ref va])), (mby, .inl (y 0, 150, .inl fmb)), (va, .inl (y 0, 2, .inl v51))] H := hP
        have hD : va_D A [(an, .inl (y 0, 76, .inl fan)), (mo, .inr (11, [.ref to, .ref ke, .ref ik, .ref mrf, .long mab, .long mbl, .ref ha, .ref r0, .ref mbr, .ref mbp, .ref mby, .int (nI bl), .int (nI v47), .int (nI v48), .int (nI v49), .int v50, .ref an, .ref va])), (mby, .inl (y 0, 150, .inl fmb)), (va, .inl (y 0, 2, .inl v51))] := hD
        have h56 : kz_no (ks_K fmb bl (ks_E fmb bl e)) 0 60 (ks_V fmb bl (ks_E fmb bl e)) ∧ v51 = (upd fva 0 (nI (ks_V fmb bl e))) ∧ v47 = (ks_S fmb bl (ks_E fmb bl e)) ∧ v48 = (ks_L fmb bl (ks_E fmb bl e)) ∧ v49 = (ks_K fmb bl (ks_E fmb bl e)) ∧ v50 = v18 := h56 rfl
        obtain ⟨h58, h59, h60, h61, h62, h63⟩ := h56
        have h59 := h59.symm
        subst h59
        have h60 := h60.symm
        subst h60
        have h61 := h61.symm
        subst h61
        have h62 := h62.symm
        subst h62
        have h63 := h63.symm
        subst h63
        have hP : va_P D vwCl [(an, .inl (y 0, 76, .inl fan)), (mo, .inr (11, [.ref to, .ref ke, .ref ik, .ref mrf, .long mab, .long mbl, .ref ha, .ref r0, .ref mbr, .ref mbp, .ref mby, .int (nI bl), .int (nI (ks_S fmb bl (ks_E fmb bl e))), .int (nI (ks_L fmb bl (ks_E fmb bl e))), .int (nI (ks_K fmb bl (ks_E fmb bl e))), .int v18, .ref an, .ref va])), (mby, .inl (y 0, 150, .inl fmb)), (va, .inl (y 0, 2, .inl (upd fva 0 (nI (ks_V fmb bl e)))))] H := hP
        have hD : va_D A [(an, .inl (y 0, 76, .inl fan)), (mo, .inr (11, [.ref to, .ref ke, .ref ik, .ref mrf, .long mab, .long mbl, .ref ha, .ref r0, .ref mbr, .ref mbp, .ref mby, .int (nI bl), .int (nI (ks_S fmb bl (ks_E fmb bl e))), .int (nI (ks_L fmb bl (ks_E fmb bl e))), .int (nI (ks_K fmb bl (ks_E fmb bl e))), .int v18, .ref an, .ref va])), (mby, .inl (y 0, 150, .inl fmb)), (va, .inl (y 0, 2, .inl (upd fva 0 (nI (ks_V fmb bl e)))))] := hD
        refine lv_if_ne (tgt := 40) hx hb dX11_takesField_35 (by decide) (fun h9 => absurd h9 (by decide)) (fun _ => ?_)
        refine lv_iconst (v := 0) hx hb dX11_takesField_38 (by decide) ?_
        exact W.zret (v := 0) hx hb hr (by decide) (fun tZ ht hW => ⟨⟨0, (ks_S fmb bl (ks_E fmb bl e), ks_L fmb bl (ks_E fmb bl e), ks_K fmb bl (ks_E fmb bl e), v18, (upd fva 0 (nI (ks_V fmb bl e))), fan, afi), rfl, ⟨by first | omega | (dsimp only; omega), by first | omega | (dsimp only; omega), by first | omega | (dsimp only; omega), hkan, by first | omega | (dsimp only; omega), ha0_, ha1_, ha2_, ha3_, ha4_, ha21_, Or.inl rfl, by first | omega | (dsimp only; omega), by first | omega | (dsimp only; omega), (fun _ => ks_fldB (by first | omega | (dsimp only; omega)) (ks_nm_mk h32 (by first | omega | (dsimp only; omega)) (by first | omega | (dsimp only; omega))) (kz_no_nm h58)), (fun h9 => absurd h9 (by decide))⟩, by rw [ht]; exact hP.sub [1, 2, 3, 0] rfl, hD.sub [1, 2, 3, 0] (by decide) rfl⟩, hS.F ht⟩) hS.2.2 dX11_takesField_39
      · skip
        have hP : va_P D vwCl [(an, .inl (y 0, 76, .inl fan)), (mo, .inr (11, [.ref to, .ref ke, .ref ik, .ref mrf, .long mab, .long mbl, .ref ha, .ref r0, .ref mbr, .ref mbp, .ref mby, .int (nI bl), .int (nI v47), .int (nI v48), .int (nI v49), .int v50, .ref an, .ref va])), (mby, .inl (y 0, 150, .inl fmb)), (va, .inl (y 0, 2, .inl v51))] H := hP
        have hD : va_D A [(an, .inl (y 0, 76, .inl fan)), (mo, .inr (11, [.ref to, .ref ke, .ref ik, .ref mrf, .long mab, .long mbl, .ref ha, .ref r0, .ref mbr, .ref mbp, .ref mby, .int (nI bl), .int (nI v47), .int (nI v48), .int (nI v49), .int v50, .ref an, .ref va])), (mby, .inl (y 0, 150, .inl fmb)), (va, .inl (y 0, 2, .inl v51))] := hD
        have h55 : (ks_K fmb bl (ks_E fmb bl e)) = 2 ∧ 0 ≤ (ks_V fmb bl (ks_E fmb bl e)) ∧ (ks_V fmb bl (ks_E fmb bl e)) ≤ 60 ∧ v51 = upd (upd fva 0 (nI (ks_V fmb bl e))) 1 (nI (ks_V fmb bl (ks_E fmb bl e))) ∧ v47 = ks_S fmb bl (ks_E fmb bl (ks_E fmb bl e)) ∧ v48 = ks_L fmb bl (ks_E fmb bl (ks_E fmb bl e)) ∧ v49 = ks_K fmb bl (ks_E fmb bl (ks_E fmb bl e)) ∧ kz_N fmb bl (ks_E fmb bl (ks_E fmb bl e)) v50 := h55 rfl
        obtain ⟨h64, h65, h66, h67, h68, h69, h70, h71⟩ := h55
        have h67 := h67.symm
        subst h67
        have h68 := h68.symm
        subst h68
        have h69 := h69.symm
        subst h69
        have h70 := h70.symm
        subst h70
        have hk72 := ks_SL (f := fmb) (n := bl) (p := ks_E fmb bl (ks_E fmb bl e)) (by omega)
        have hk73 := ks_K4 fmb bl (ks_E fmb bl (ks_E fmb bl e))
        have hk74 := ks_S_le (f := fmb) (n := bl) (p := ks_E fmb bl (ks_E fmb bl e)) (by omega)
        have hk75 : (upd (upd fva 0 (nI (ks_V fmb bl e))) 1 (nI (ks_V fmb bl (ks_E fmb bl e)))) 1 = (nI (ks_V fmb bl (ks_E fmb bl e))) := pk_us
        have hk76 : (upd (upd fva 0 (nI (ks_V fmb bl e))) 1 (nI (ks_V fmb bl (ks_E fmb bl e)))) 0 = (nI (ks_V fmb bl e)) := (pk_un (by decide)).trans pk_us
        have hP : va_P D vwCl [(an, .inl (y 0, 76, .inl fan)), (mo, .inr (11, [.ref to, .ref ke, .ref ik, .ref mrf, .long mab, .long mbl, .ref ha, .ref r0, .ref mbr, .ref mbp, .ref mby, .int (nI bl), .int (nI (ks_S fmb bl (ks_E fmb bl (ks_E fmb bl e)))), .int (nI (ks_L fmb bl (ks_E fmb bl (ks_E fmb bl e)))), .int (nI (ks_K fmb bl (ks_E fmb bl (ks_E fmb bl e)))), .int v50, .ref an, .ref va])), (mby, .inl (y 0, 150, .inl fmb)), (va, .inl (y 0, 2, .inl (upd (upd fva 0 (nI (ks_V fmb bl e))) 1 (nI (ks_V fmb bl (ks_E fmb bl e))))))] H := hP
        have hD : va_D A [(an, .inl (y 0, 76, .inl fan)), (mo, .inr (11, [.ref to, .ref ke, .ref ik, .ref mrf, .long mab, .long mbl, .ref ha, .ref r0, .ref mbr, .ref mbp, .ref mby, .int (nI bl), .int (nI (ks_S fmb bl (ks_E fmb bl (ks_E fmb bl e)))), .int (nI (ks_L fmb bl (ks_E fmb bl (ks_E fmb bl e)))), .int (nI (ks_K fmb bl (ks_E fmb bl (ks_E fmb bl e)))), .int v50, .ref an, .ref va])), (mby, .inl (y 0, 150, .inl fmb)), (va, .inl (y 0, 2, .inl (upd (upd fva 0 (nI (ks_V fmb bl e))) 1 (nI (ks_V fmb bl (ks_E fmb bl e))))))] := hD
        refine lv_if_ne (tgt := 40) hx hb dX11_takesField_35 (by decide) (fun _ => ?_) (fun h9 => absurd h9 (by decide))
        refine lv_aload_n hx hb dX11_takesField_40 rfl (lv_at hl 0 rfl) ?_
        refine va_get (D := D) (ci := 11) (v := .ref an) (C := RX11) (T := TX11) (N := 18) hx hb hts iw11 hown hK hP 1 rfl rfl 16 (by decide) fw1 (fun _ h9 => h9) rfl dX11_takesField_41 ?_
        refine lv_aload_n hx hb dX11_takesField_44 rfl (lv_at hl 0 rfl) ?_
        refine va_get (D := D) (ci := 11) (v := .ref va) (C := RX11) (T := TX11) (N := 18) hx hb hts iw11 hown hK hP 1 rfl rfl 17 (by decide) fw2 (fun _ h9 => h9) rfl dX11_takesField_45 ?_
        refine lv_iconst (v := 0) hx hb dX11_takesField_48 (by decide) ?_
        refine va_iald hx hb hK hP 3 0 rfl rfl (by unfold vp_in; decide) dX11_takesField_49 ?_
        rw [show ((0 : Int32)).toNatClampNeg = 0 from rfl]
        rw [show ((upd (upd fva 0 (nI (ks_V fmb bl e))) 1 (nI (ks_V fmb bl (ks_E fmb bl e)))) 0) = (nI (ks_V fmb bl e)) from hk76]
        refine lv_aload_n hx hb dX11_takesField_50 rfl (lv_at hl 0 rfl) ?_
        refine va_get (D := D) (ci := 11) (v := .ref va) (C := RX11) (T := TX11) (N := 18) hx hb hts iw11 hown hK hP 1 rfl rfl 17 (by decide) fw2 (fun _ h9 => h9) rfl dX11_takesField_51 ?_
        refine lv_iconst (v := 1) hx hb dX11_takesField_54 (by decide) ?_
        refine va_iald hx hb hK hP 3 0 rfl rfl (by unfold vp_in; decide) dX11_takesField_55 ?_
        rw [show ((1 : Int32)).toNatClampNeg = 1 from rfl]
        rw [show ((upd (upd fva 0 (nI (ks_V fmb bl e))) 1 (nI (ks_V fmb bl (ks_E fmb bl e)))) 1) = (nI (ks_V fmb bl (ks_E fmb bl e))) from hk75]
        have hs77 : kw_Split [(an, .inl (y 0, 76, .inl fan)), (mo, .inr (11, [.ref to, .ref ke, .ref ik, .ref mrf, .long mab, .long mbl, .ref ha, .ref r0, .ref mbr, .ref mbp, .ref mby, .int (nI bl), .int (nI (ks_S fmb bl (ks_E fmb bl (ks_E fmb bl e)))), .int (nI (ks_L fmb bl (ks_E fmb bl (ks_E fmb bl e)))), .int (nI (ks_K fmb bl (ks_E fmb bl (ks_E fmb bl e)))), .int v50, .ref an, .ref va])), (mby, .inl (y 0, 150, .inl fmb)), (va, .inl (y 0, 2, .inl (upd (upd fva 0 (nI (ks_V fmb bl e))) 1 (nI (ks_V fmb bl (ks_E fmb bl e))))))] [(an, .inl (y 0, 76, .inl fan))] [(mo, .inr (11, [.ref to, .ref ke, .ref ik, .ref mrf, .long mab, .long mbl, .ref ha, .ref r0, .ref mbr, .ref mbp, .ref mby, .int (nI bl), .int (nI (ks_S fmb bl (ks_E fmb bl (ks_E fmb bl e)))), .int (nI (ks_L fmb bl (ks_E fmb bl (ks_E fmb bl e)))), .int (nI (ks_K fmb bl (ks_E fmb bl (ks_E fmb bl e)))), .int v50, .ref an, .ref va])), (mby, .inl (y 0, 150, .inl fmb)), (va, .inl (y 0, 2, .inl (upd (upd fva 0 (nI (ks_V fmb bl e))) 1 (nI (ks_V fmb bl (ks_E fmb bl e))))))] [0] [1, 2, 3] := ⟨rfl, rfl, rfl, rfl, rfl, by decide⟩
        refine kw_go_v hs77 hP hD hS hA (va_runS (As := [.ref an, .int (nI (ks_V fmb bl e)), .int (nI (ks_V fmb bl (ks_E fmb bl e)))]) (rest := []) ⟨hx, hb, hml, hown, hts⟩ (gr_MlayField l D y an fan afi agl ami ano aun asp (nI (ks_V fmb bl e)) (nI (ks_V fmb bl (ks_E fmb bl e))) ha0_ ha1_ ha2_ ha3_ ha4_ ha21_ hkan hB0 hB1 hB2 hB3 hB4 hB5 (by omega) _) (va_cwS 3 hts gX11_takesField_X11_layField rfl rfl rfl (by decide +kernel) ⟨Nat.le_of_ble_eq_true rfl, Nat.le_of_ble_eq_true rfl⟩) (kw_PreS hs77 hP hD hK hN) rfl rfl hl.1 rfl (lv_room (Nat.le_of_ble_eq_true rfl)) dX11_takesField_56 ⟨Nat.le_of_ble_eq_true rfl, Nat.le_of_ble_eq_true rfl⟩) (fun u79 H locs hq hP hD hS => ?_)
        obtain ⟨h80, h81, h82, h83, h84, h85, h86⟩ := hq
        have hP : va_P D vwCl [(mo, .inr (11, [.ref to, .ref ke, .ref ik, .ref mrf, .long mab, .long mbl, .ref ha, .ref r0, .ref mbr, .ref mbp, .ref mby, .int (nI bl), .int (nI (ks_S fmb bl (ks_E fmb bl (ks_E fmb bl e)))), .int (nI (ks_L fmb bl (ks_E fmb bl (ks_E fmb bl e)))), .int (nI (ks_K fmb bl (ks_E fmb bl (ks_E fmb bl e)))), .int v50, .ref an, .ref va])), (mby, .inl (y 0, 150, .inl fmb)), (va, .inl (y 0, 2, .inl (upd (upd fva 0 (nI (ks_V fmb bl e))) 1 (nI (ks_V fmb bl (ks_E fmb bl e)))))), (an, .inl (y 0, 76, .inl (upd (upd (upd fan (afi + 24) (nI (ks_V fmb bl e))) (afi + 5) (nI (ks_V fmb bl (ks_E fmb bl e)))) 0 (nI (afi + 1)))))] H := hP
        have hD : va_D A [(mo, .inr (11, [.ref to, .ref ke, .ref ik, .ref mrf, .long mab, .long mbl, .ref ha, .ref r0, .ref mbr, .ref mbp, .ref mby, .int (nI bl), .int (nI (ks_S fmb bl (ks_E fmb bl (ks_E fmb bl e)))), .int (nI (ks_L fmb bl (ks_E fmb bl (ks_E fmb bl e)))), .int (nI (ks_K fmb bl (ks_E fmb bl (ks_E fmb bl e)))), .int v50, .ref an, .ref va])), (mby, .inl (y 0, 150, .inl fmb)), (va, .inl (y 0, 2, .inl (upd (upd fva 0 (nI (ks_V fmb bl e))) 1 (nI (ks_V fmb bl (ks_E fmb bl e)))))), (an, .inl (y 0, 76, .inl (upd (upd (upd fan (afi + 24) (nI (ks_V fmb bl e))) (afi + 5) (nI (ks_V fmb bl (ks_E fmb bl e)))) 0 (nI (afi + 1)))))] := hD
        refine lv_iconst (v := 1) hx hb dX11_takesField_59 (by decide) ?_
        exact W.zret (v := 1) hx hb hr (by decide) (fun tZ ht hW => ⟨⟨1, (ks_S fmb bl (ks_E fmb bl (ks_E fmb bl e)), ks_L fmb bl (ks_E fmb bl (ks_E fmb bl e)), ks_K fmb bl (ks_E fmb bl (ks_E fmb bl e)), v50, (upd (upd fva 0 (nI (ks_V fmb bl e))) 1 (nI (ks_V fmb bl (ks_E fmb bl e)))), (upd (upd (upd fan (afi + 24) (nI (ks_V fmb bl e))) (afi + 5) (nI (ks_V fmb bl (ks_E fmb bl e)))) 0 (nI (afi + 1))), afi + 1), rfl, ⟨by first | omega | (dsimp only; omega), by first | omega | (dsimp only; omega), by first | omega | (dsimp only; omega), h80, by first | omega | (dsimp only; omega), h81, h82, h83, h84, h85, h86, Or.inr rfl, by first | omega | (dsimp only; omega), by first | omega | (dsimp only; omega), (fun h9 => absurd h9 (by decide)), (fun _ => kz_go.mk (ks_fldC (by first | omega | (dsimp only; omega)) (ks_nm_mk h32 (by first | omega | (dsimp only; omega)) (by first | omega | (dsimp only; omega))) (ks_nm_mk h64 (by first | omega | (dsimp only; omega)) (by first | omega | (dsimp only; omega)))) (by first | omega | (dsimp only; omega)) (by first | omega | (dsimp only; omega)) h71 (kz_ka_f hkd (by first | omega | (dsimp only; omega))))⟩, by rw [ht]; exact hP.sub [0, 1, 2, 3] rfl, hD.sub [0, 1, 2, 3] (by decide) rfl⟩, hS.F ht⟩) hS.2.2 dX11_takesField_60
  · skip
    have h2 : afi = 6 := (nI_eq (a := afi) (b := 6) (by omega) (by omega)).mp h2
    refine lv_iconst (v := 0) hx hb dX11_takesField_11 (by decide) ?_
    exact W.zret (v := 0) hx hb hr (by decide) (fun tZ ht hW => ⟨⟨0, (ta, tl, tk, vv, fva, fan, afi), rfl, ⟨by first | omega | (dsimp only; omega), by first | omega | (dsimp only; omega), by first | omega | (dsimp only; omega), hkan, by first | omega | (dsimp only; omega), ha0_, ha1_, ha2_, ha3_, ha4_, ha21_, Or.inl rfl, by first | omega | (dsimp only; omega), by first | omega | (dsimp only; omega), (fun _ => ks_fld6 (by first | omega | (dsimp only; omega))), (fun h9 => absurd h9 (by decide))⟩, by rw [ht]; exact hP.sub [0, 1, 2, 3] rfl, hD.sub [0, 1, 2, 3] (by decide) rfl⟩, hS.F ht⟩) hS.2.2 dX11_takesField_12

set_option maxHeartbeats 4000000 in
set_option maxRecDepth 100000 in
theorem gr_MtakesGleaner (l : Launch) (D : va_G) (y : Nat → ClassId) (mo : Nat) (to : Nat) (ke : Nat) (ik : Nat) (mrf : Nat) (ha : Nat) (r0 : Nat) (mbr : Nat) (mbp : Nat) (mby : Nat) (an : Nat) (va : Nat) (mab : Int64) (mbl : Int64) (bl : Nat) (ta : Nat) (tl : Nat) (tk : Nat) (vv : Int32) (fmb : Nat → Int32) (fva : Nat → Int32) (fan : Nat → Int32) (afi : Nat) (agl : Nat) (ami : Nat) (ano : Nat) (aun : Nat) (asp : Nat) (e : Nat) (kd : Nat → Int32) (hbl : bl ≤ 150) (he : ta + tl = e) (heb : e ≤ bl) (htk : tk ≤ 4) (ha0_ : fan 0 = (nI afi)) (ha1_ : fan 1 = (nI agl)) (ha2_ : fan 2 = (nI ami)) (ha3_ : fan 3 = (nI ano)) (ha4_ : fan 4 = (nI aun)) (ha21_ : fan 21 = (nI asp)) (hkan : kr_t 76 fan) (hB0 : afi ≤ 6) (hB1 : agl ≤ 5) (hB2 : ami ≤ 4) (hB3 : ano ≤ 6) (hB4 : aun ≤ 8) (hB5 : asp ≤ 12) (hagf : (agl = 0 ∨ 0 < afi)) (hkd : kz_ka fan afi kd) : kw_Mi l yX11_takesGleaner wsX11_takesGleaner ({ frames := 6, cells := 0, slots := 0, locals := 172 }) D y [.ref mo] [(mo, .inr (11, [.ref to, .ref ke, .ref ik, .ref mrf, .long mab, .long mbl, .ref ha, .ref r0, .ref mbr, .ref mbp, .ref mby, .int (nI bl), .int (nI ta), .int (nI tl), .int (nI tk), .int vv, .ref an, .ref va])), (mby, .inl (y 0, 150, .inl fmb)), (va, .inl (y 0, 2, .inl fva)), (an, .inl (y 0, 76, .inl fan))] (fun (r : Int32) (u : Nat × Nat × Nat × Int32 × (Nat → Int32) × (Nat → Int32) × Nat) => u.1 ≤ bl ∧ u.2.1 ≤ 150 ∧ u.2.2.1 ≤ 4 ∧ kr_t 76 u.2.2.2.2.2.1 ∧ u.2.2.2.2.2.1 0 = (nI afi) ∧ u.2.2.2.2.2.2 ≤ 5 ∧ u.2.2.2.2.2.1 1 = (nI u.2.2.2.2.2.2) ∧ u.2.2.2.2.2.1 2 = (nI ami) ∧ u.2.2.2.2.2.1 3 = (nI ano) ∧ u.2.2.2.2.2.1 4 = (nI aun) ∧ u.2.2.2.2.2.1 21 = (nI asp) ∧ (r = 0 ∨ r = 1) ∧ u.1 + u.2.1 ≤ bl ∧ (u.2.2.2.2.2.2 = 0 ∨ 0 < afi) ∧ (r = 0 → ks_glr fmb bl ta e afi agl (12 - asp) kd = ks_flt u.1) ∧ (r = 1 → kz_go fmb bl e (ks_glr fmb bl ta e afi agl (12 - asp) kd) u.1 u.2.1 u.2.2.1 u.2.2.2.1 afi u.2.2.2.2.2.2 (12 - asp) u.2.2.2.2.2.1)) (fun u => [(mo, .inr (11, [.ref to, .ref ke, .ref ik, .ref mrf, .long mab, .long mbl, .ref ha, .ref r0, .ref mbr, .ref mbp, .ref mby, .int (nI bl), .int (nI u.1), .int (nI u.2.1), .int (nI u.2.2.1), .int u.2.2.2.1, .ref an, .ref va])), (mby, .inl (y 0, 150, .inl fmb)), (va, .inl (y 0, 2, .inl u.2.2.2.2.1)), (an, .inl (y 0, 76, .inl u.2.2.2.2.2.1))]) 0 0 := by
  refine kw_Mi.of (cc := cX11_takesGleaner) (maxL := 1) (ret := (some .boolean)) (by decide) rfl ?_
  intro pZ eZ s mZ beZ meZ cZ A hE
  obtain ⟨hx, hb, hr, hml, hts, hown, hlocks, hin, hA, hP, hD, hK, hN⟩ := hE
  have hS : va_S A s.heap s.heap [] := va_S.rf
  have hl := lv_entry ([.ref mo]) (n := 1) (Nat.le_of_ble_eq_true rfl)
  rw [lg_entry_eq]
  generalize (lg_sl ([.ref mo]) ++ List.replicate (1 - (lg_sl ([.ref mo])).length) Slot.unset).toArray = ls at hl ⊢
  have hl : lv_has ls 1 [(0, .ref mo)] := hl
  have fw1 := hts (.fieldLink RX11 42 "GleanDuskModel" "anew" "[I") (List.mem_of_getElem? (i := 1) rfl)
  have fw2 := hts (.fieldLink RX11 45 "GleanDuskModel" "values" "[I") (List.mem_of_getElem? (i := 2) rfl)
  have iw11 : ∀ w ∈ wsX110, w ∈ wsX11_takesGleaner := fun _ h => List.mem_cons_of_mem _ (List.mem_append_right _ h)
  refine lv_aload_n hx hb dX11_takesGleaner_0 rfl (lv_at hl 0 rfl) ?_
  refine va_get (D := D) (ci := 11) (v := .ref an) (C := RX11) (T := TX11) (N := 18) hx hb hts iw11 hown hK hP 0 rfl rfl 16 (by decide) fw1 (fun _ h9 => h9) rfl dX11_takesGleaner_1 ?_
  refine lv_iconst (v := 1) hx hb dX11_takesGleaner_4 (by decide) ?_
  refine va_iald hx hb hK hP 3 0 rfl rfl (by unfold vp_in; decide) dX11_takesGleaner_5 ?_
  rw [show ((1 : Int32)).toNatClampNeg = 1 from rfl]
  rw [show (fan 1) = (nI agl) from ha1_]
  refine lv_iconst (v := 5) hx hb dX11_takesGleaner_6 (by decide) ?_
  refine lv_icmp_ne (tgt := 12) hx hb dX11_takesGleaner_7 (by decide) (fun h1 => ?_) (fun h2 => ?_)
  · skip
    have h1 : ¬ agl = 5 := fun q9 => h1 ((nI_eq (a := agl) (b := 5) (by omega) (by omega)).mpr q9)
    refine lv_aload_n hx hb dX11_takesGleaner_12 rfl (lv_at hl 0 rfl) ?_
    have hs3 : kw_Split [(mo, .inr (11, [.ref to, .ref ke, .ref ik, .ref mrf, .long mab, .long mbl, .ref ha, .ref r0, .ref mbr, .ref mbp, .ref mby, .int (nI bl), .int (nI ta), .int (nI tl), .int (nI tk), .int vv, .ref an, .ref va])), (mby, .inl (y 0, 150, .inl fmb)), (va, .inl (y 0, 2, .inl fva)), (an, .inl (y 0, 76, .inl fan))] [(mo, .inr (11, [.ref to, .ref ke, .ref ik, .ref mrf, .long mab, .long mbl, .ref ha, .ref r0, .ref mbr, .ref mbp, .ref mby, .int (nI bl), .int (nI ta), .int (nI tl), .int (nI tk), .int vv, .ref an, .ref va])), (mby, .inl (y 0, 150, .inl fmb))] [(va, .inl (y 0, 2, .inl fva)), (an, .inl (y 0, 76, .inl fan))] [0, 1] [2, 3] := ⟨rfl, rfl, rfl, rfl, rfl, by decide⟩
    refine kw_go_v hs3 hP hD hS hA (va_runV (As := []) (rest := []) ⟨hx, hb, hml, hown, hts⟩ (gr_Mgo l D y mo to ke ik mrf ha r0 mbr mbp mby an va mab mbl bl ta tl tk vv fmb e hbl he heb htk _) (cwV 0 hts gX11_takesGleaner_X11_goBehind rfl rfl rfl (by decide +kernel) ⟨Nat.le_of_ble_eq_true rfl, Nat.le_of_ble_eq_true rfl⟩) (kw_PreV (ci := 11) (q0 := 0) hs3 hP hD hK hN rfl rfl) rfl rfl hl.1 rfl (lv_room (Nat.le_of_ble_eq_true rfl)) dX11_takesGleaner_13 ⟨Nat.le_of_ble_eq_true rfl, Nat.le_of_ble_eq_true rfl⟩) (fun u5 H locs hq hP hD hS => ?_)
    obtain ⟨v6, rfl⟩ : ∃ z, z = u5 := ⟨_, rfl⟩
    try dsimp only at hq
    obtain ⟨h7, h8, h9, h10, h11⟩ := hq
    have hP : va_P D vwCl [(va, .inl (y 0, 2, .inl fva)), (an, .inl (y 0, 76, .inl fan)), (mo, .inr (11, [.ref to, .ref ke, .ref ik, .ref mrf, .long mab, .long mbl, .ref ha, .ref r0, .ref mbr, .ref mbp, .ref mby, .int (nI bl), .int (nI (ks_S fmb bl e)), .int (nI (ks_L fmb bl e)), .int (nI (ks_K fmb bl e)), .int v6, .ref an, .ref va])), (mby, .inl (y 0, 150, .inl fmb))] H := hP
    have hD : va_D A [(va, .inl (y 0, 2, .inl fva)), (an, .inl (y 0, 76, .inl fan)), (mo, .inr (11, [.ref to, .ref ke, .ref ik, .ref mrf, .long mab, .long mbl, .ref ha, .ref r0, .ref mbr, .ref mbp, .ref mby, .int (nI bl), .int (nI (ks_S fmb bl e)), .int (nI (ks_L fmb bl e)), .int (nI (ks_K fmb bl e)), .int v6, .ref an, .ref va])), (mby, .inl (y 0, 150, .inl fmb))] := hD
    refine lv_aload_n hx hb dX11_takesGleaner_16 rfl (lv_at hl 0 rfl) ?_
    refine lv_iconst (v := 0) hx hb dX11_takesGleaner_17 (by decide) ?_
    refine lv_iconst (v := 0) hx hb dX11_takesGleaner_18 (by decide) ?_
    refine lv_aload_n hx hb dX11_takesGleaner_19 rfl (lv_at hl 0 rfl) ?_
    refine va_get (D := D) (ci := 11) (v := .ref an) (C := RX11) (T := TX11) (N := 18) hx hb hts iw11 hown hK hP 2 rfl rfl 16 (by decide) fw1 (fun _ h9 => h9) rfl dX11_takesGleaner_20 ?_
    refine lv_iconst (v := 0) hx hb dX11_takesGleaner_23 (by decide) ?_
    refine va_iald hx hb hK hP 1 0 rfl rfl (by unfold vp_in; decide) dX11_takesGleaner_24 ?_
    rw [show ((0 : Int32)).toNatClampNeg = 0 from rfl]
    rw [show (fan 0) = (nI afi) from ha0_]
    refine lv_iconst (v := 1) hx hb dX11_takesGleaner_25 (by decide) ?_
    refine lv_isub hx hb dX11_takesGleaner_26 ?_
    have hs12 : kw_Split [(va, .inl (y 0, 2, .inl fva)), (an, .inl (y 0, 76, .inl fan)), (mo, .inr (11, [.ref to, .ref ke, .ref ik, .ref mrf, .long mab, .long mbl, .ref ha, .ref r0, .ref mbr, .ref mbp, .ref mby, .int (nI bl), .int (nI (ks_S fmb bl e)), .int (nI (ks_L fmb bl e)), .int (nI (ks_K fmb bl e)), .int v6, .ref an, .ref va])), (mby, .inl (y 0, 150, .inl fmb))] [(mo, .inr (11, [.ref to, .ref ke, .ref ik, .ref mrf, .long mab, .long mbl, .ref ha, .ref r0, .ref mbr, .ref mbp, .ref mby, .int (nI bl), .int (nI (ks_S fmb bl e)), .int (nI (ks_L fmb bl e)), .int (nI (ks_K fmb bl e)), .int v6, .ref an, .ref va])), (mby, .inl (y 0, 150, .inl fmb)), (va, .inl (y 0, 2, .inl fva))] [(an, .inl (y 0, 76, .inl fan))] [2, 3, 0] [1] := ⟨rfl, rfl, rfl, rfl, rfl, by decide⟩
    refine kw_go_i hs12 hP hD hS hA (va_runV (As := [.int 0, .int 0, .int ((nI afi) - 1)]) (rest := []) ⟨hx, hb, hml, hown, hts⟩ (gr_MtF l D y mo to ke ik mrf ha r0 mbr mbp mby an va mab mbl bl (ks_S fmb bl e) (ks_L fmb bl e) (ks_K fmb bl e) v6 fmb fva (ks_E fmb bl e) (ks_V fmb bl e) afi hbl (by omega) (by omega) (by omega) h11 (by omega) _) (cwV 3 hts gX11_takesGleaner_X11_takes rfl rfl rfl (by decide +kernel) ⟨Nat.le_of_ble_eq_true rfl, Nat.le_of_ble_eq_true rfl⟩) (kw_PreV (ci := 11) (q0 := 2) hs12 hP hD hK hN rfl rfl) rfl rfl hl.1 rfl (lv_room (Nat.le_of_ble_eq_true rfl)) dX11_takesGleaner_27 ⟨Nat.le_of_ble_eq_true rfl, Nat.le_of_ble_eq_true rfl⟩) (fun r13 u14 H locs hq hP hD hS => ?_)
    obtain ⟨v15, v16, v17, v18, v19⟩ := u14
    try dsimp only at hq
    obtain ⟨h20, h21, h22, (rfl | rfl), h23, h24, h25⟩ := hq
    · skip
      have hP : va_P D vwCl [(an, .inl (y 0, 76, .inl fan)), (mo, .inr (11, [.ref to, .ref ke, .ref ik, .ref mrf, .long mab, .long mbl, .ref ha, .ref r0, .ref mbr, .ref mbp, .ref mby, .int (nI bl), .int (nI v15), .int (nI v16), .int (nI v17), .int v18, .ref an, .ref va])), (mby, .inl (y 0, 150, .inl fmb)), (va, .inl (y 0, 2, .inl v19))] H := hP
      have hD : va_D A [(an, .inl (y 0, 76, .inl fan)), (mo, .inr (11, [.ref to, .ref ke, .ref ik, .ref mrf, .long mab, .long mbl, .ref ha, .ref r0, .ref mbr, .ref mbp, .ref mby, .int (nI bl), .int (nI v15), .int (nI v16), .int (nI v17), .int v18, .ref an, .ref va])), (mby, .inl (y 0, 150, .inl fmb)), (va, .inl (y 0, 2, .inl v19))] := hD
      have h24 : kz_nF (ks_K fmb bl e) afi (ks_V fmb bl e) ∧ v19 = fva ∧ v15 = (ks_S fmb bl e) ∧ v16 = (ks_L fmb bl e) ∧ v17 = (ks_K fmb bl e) ∧ v18 = v6 := h24 rfl
      obtain ⟨h26, h27, h28, h29, h30, h31⟩ := h24
      have h27 := h27.symm
      subst h27
      have h28 := h28.symm
      subst h28
      have h29 := h29.symm
      subst h29
      have h30 := h30.symm
      subst h30
      have h31 := h31.symm
      subst h31
      have hP : va_P D vwCl [(an, .inl (y 0, 76, .inl fan)), (mo, .inr (11, [.ref to, .ref ke, .ref ik, .ref mrf, .long mab, .long mbl, .ref ha, .ref r0, .ref mbr, .ref mbp, .ref mby, .int (nI bl), .int (nI (ks_S fmb bl e)), .int (nI (ks_L fmb bl e)), .int (nI (ks_K fmb bl e)), .int v6, .ref an, .ref va])), (mby, .inl (y 0, 150, .inl fmb)), (va, .inl (y 0, 2, .inl (fva)))] H := hP
      have hD : va_D A [(an, .inl (y 0, 76, .inl fan)), (mo, .inr (11, [.ref to, .ref ke, .ref ik, .ref mrf, .long mab, .long mbl, .ref ha, .ref r0, .ref mbr, .ref mbp, .ref mby, .int (nI bl), .int (nI (ks_S fmb bl e)), .int (nI (ks_L fmb bl e)), .int (nI (ks_K fmb bl e)), .int v6, .ref an, .ref va])), (mby, .inl (y 0, 150, .inl fmb)), (va, .inl (y 0, 2, .inl (fva)))] := hD
      refine lv_if_ne (tgt := 35) hx hb dX11_takesGleaner_30 (by decide) (fun h9 => absurd h9 (by decide)) (fun _ => ?_)
      refine lv_iconst (v := 0) hx hb dX11_takesGleaner_33 (by decide) ?_
      exact W.zret (v := 0) hx hb hr (by decide) (fun tZ ht hW => ⟨⟨0, (ks_S fmb bl e, ks_L fmb bl e, ks_K fmb bl e, v6, (fva), fan, agl), rfl, ⟨by first | omega | (dsimp only; omega), by first | omega | (dsimp only; omega), by first | omega | (dsimp only; omega), hkan, ha0_, by first | omega | (dsimp only; omega), ha1_, ha2_, ha3_, ha4_, ha21_, Or.inl rfl, by first | omega | (dsimp only; omega), by first | omega | (dsimp only; omega), (fun _ => by rcases (show afi = 0 ∨ 0 < afi by omega) with h8 | h8; exact ks_glrZ (by first | omega | (dsimp only; omega)) h8; exact ks_glrA (by first | omega | (dsimp only; omega)) (fun z => h26 ⟨(ks_nm_v z).1, by have := (ks_nm_v z).2.2; omega⟩)), (fun h9 => absurd h9 (by decide))⟩, by rw [ht]; exact hP.sub [1, 2, 3, 0] rfl, hD.sub [1, 2, 3, 0] (by decide) rfl⟩, hS.F ht⟩) hS.2.2 dX11_takesGleaner_34
    · skip
      have hP : va_P D vwCl [(an, .inl (y 0, 76, .inl fan)), (mo, .inr (11, [.ref to, .ref ke, .ref ik, .ref mrf, .long mab, .long mbl, .ref ha, .ref r0, .ref mbr, .ref mbp, .ref mby, .int (nI bl), .int (nI v15), .int (nI v16), .int (nI v17), .int v18, .ref an, .ref va])), (mby, .inl (y 0, 150, .inl fmb)), (va, .inl (y 0, 2, .inl v19))] H := hP
      have hD : va_D A [(an, .inl (y 0, 76, .inl fan)), (mo, .inr (11, [.ref to, .ref ke, .ref ik, .ref mrf, .long mab, .long mbl, .ref ha, .ref r0, .ref mbr, .ref mbp, .ref mby, .int (nI bl), .int (nI v15), .int (nI v16), .int (nI v17), .int v18, .ref an, .ref va])), (mby, .inl (y 0, 150, .inl fmb)), (va, .inl (y 0, 2, .inl v19))] := hD
      have h23 : (ks_K fmb bl e) = 2 ∧ (ks_V fmb bl e) < afi ∧ v19 = upd fva 0 (nI (ks_V fmb bl e)) ∧ v15 = ks_S fmb bl (ks_E fmb bl e) ∧ v16 = ks_L fmb bl (ks_E fmb bl e) ∧ v17 = ks_K fmb bl (ks_E fmb bl e) ∧ kz_N fmb bl (ks_E fmb bl e) v18 := h23 rfl
      obtain ⟨h32, h33, h34, h35, h36, h37, h38⟩ := h23
      have h34 := h34.symm
      subst h34
      have h35 := h35.symm
      subst h35
      have h36 := h36.symm
      subst h36
      have h37 := h37.symm
      subst h37
      have hk39 := ks_SL (f := fmb) (n := bl) (p := ks_E fmb bl e) (by omega)
      have hk40 := ks_K4 fmb bl (ks_E fmb bl e)
      have hk41 := ks_S_le (f := fmb) (n := bl) (p := ks_E fmb bl e) (by omega)
      have hk42 : (upd fva 0 (nI (ks_V fmb bl e))) 0 = (nI (ks_V fmb bl e)) := pk_us
      have hP : va_P D vwCl [(an, .inl (y 0, 76, .inl fan)), (mo, .inr (11, [.ref to, .ref ke, .ref ik, .ref mrf, .long mab, .long mbl, .ref ha, .ref r0, .ref mbr, .ref mbp, .ref mby, .int (nI bl), .int (nI (ks_S fmb bl (ks_E fmb bl e))), .int (nI (ks_L fmb bl (ks_E fmb bl e))), .int (nI (ks_K fmb bl (ks_E fmb bl e))), .int v18, .ref an, .ref va])), (mby, .inl (y 0, 150, .inl fmb)), (va, .inl (y 0, 2, .inl (upd fva 0 (nI (ks_V fmb bl e)))))] H := hP
      have hD : va_D A [(an, .inl (y 0, 76, .inl fan)), (mo, .inr (11, [.ref to, .ref ke, .ref ik, .ref mrf, .long mab, .long mbl, .ref ha, .ref r0, .ref mbr, .ref mbp, .ref mby, .int (nI bl), .int (nI (ks_S fmb bl (ks_E fmb bl e))), .int (nI (ks_L fmb bl (ks_E fmb bl e))), .int (nI (ks_K fmb bl (ks_E fmb bl e))), .int v18, .ref an, .ref va])), (mby, .inl (y 0, 150, .inl fmb)), (va, .inl (y 0, 2, .inl (upd fva 0 (nI (ks_V fmb bl e)))))] := hD
      refine lv_if_ne (tgt := 35) hx hb dX11_takesGleaner_30 (by decide) (fun _ => ?_) (fun h9 => absurd h9 (by decide))
      refine lv_aload_n hx hb dX11_takesGleaner_35 rfl (lv_at hl 0 rfl) ?_
      refine va_get (D := D) (ci := 11) (v := .ref an) (C := RX11) (T := TX11) (N := 18) hx hb hts iw11 hown hK hP 1 rfl rfl 16 (by decide) fw1 (fun _ h9 => h9) rfl dX11_takesGleaner_36 ?_
      refine lv_aload_n hx hb dX11_takesGleaner_39 rfl (lv_at hl 0 rfl) ?_
      refine va_get (D := D) (ci := 11) (v := .ref va) (C := RX11) (T := TX11) (N := 18) hx hb hts iw11 hown hK hP 1 rfl rfl 17 (by decide) fw2 (fun _ h9 => h9) rfl dX11_takesGleaner_40 ?_
      refine lv_iconst (v := 0) hx hb dX11_takesGleaner_43 (by decide) ?_
      refine va_iald hx hb hK hP 3 0 rfl rfl (by unfold vp_in; decide) dX11_takesGleaner_44 ?_
      rw [show ((0 : Int32)).toNatClampNeg = 0 from rfl]
      rw [show ((upd fva 0 (nI (ks_V fmb bl e))) 0) = (nI (ks_V fmb bl e)) from hk42]
      have hs43 : kw_Split [(an, .inl (y 0, 76, .inl fan)), (mo, .inr (11, [.ref to, .ref ke, .ref ik, .ref mrf, .long mab, .long mbl, .ref ha, .ref r0, .ref mbr, .ref mbp, .ref mby, .int (nI bl), .int (nI (ks_S fmb bl (ks_E fmb bl e))), .int (nI (ks_L fmb bl (ks_E fmb bl e))), .int (nI (ks_K fmb bl (ks_E fmb bl e))), .int v18, .ref an, .ref va])), (mby, .inl (y 0, 150, .inl fmb)), (va, .inl (y 0, 2, .inl (upd fva 0 (nI (ks_V fmb bl e)))))] [(an, .inl (y 0, 76, .inl fan))] [(mo, .inr (11, [.ref to, .ref ke, .ref ik, .ref mrf, .long mab, .long mbl, .ref ha, .ref r0, .ref mbr, .ref mbp, .ref mby, .int (nI bl), .int (nI (ks_S fmb bl (ks_E fmb bl e))), .int (nI (ks_L fmb bl (ks_E fmb bl e))), .int (nI (ks_K fmb bl (ks_E fmb bl e))), .int v18, .ref an, .ref va])), (mby, .inl (y 0, 150, .inl fmb)), (va, .inl (y 0, 2, .inl (upd fva 0 (nI (ks_V fmb bl e)))))] [0] [1, 2, 3] := ⟨rfl, rfl, rfl, rfl, rfl, by decide⟩
      refine kw_go_v hs43 hP hD hS hA (va_runS (As := [.ref an, .int (nI (ks_V fmb bl e))]) (rest := []) ⟨hx, hb, hml, hown, hts⟩ (gr_MlayGleaner l D y an fan afi agl ami ano aun asp (ks_V fmb bl e) ha0_ ha1_ ha2_ ha3_ ha4_ ha21_ hkan hB0 hB1 hB2 hB3 hB4 hB5 (by omega) (by omega) _) (va_cwS 2 hts gX11_takesGleaner_X11_layGleaner rfl rfl rfl (by decide +kernel) ⟨Nat.le_of_ble_eq_true rfl, Nat.le_of_ble_eq_true rfl⟩) (kw_PreS hs43 hP hD hK hN) rfl rfl hl.1 rfl (lv_room (Nat.le_of_ble_eq_true rfl)) dX11_takesGleaner_45 ⟨Nat.le_of_ble_eq_true rfl, Nat.le_of_ble_eq_true rfl⟩) (fun u45 H locs hq hP hD hS => ?_)
      obtain ⟨h46, h47, h48, h49, h50, h51, h52⟩ := hq
      have hP : va_P D vwCl [(mo, .inr (11, [.ref to, .ref ke, .ref ik, .ref mrf, .long mab, .long mbl, .ref ha, .ref r0, .ref mbr, .ref mbp, .ref mby, .int (nI bl), .int (nI (ks_S fmb bl (ks_E fmb bl e))), .int (nI (ks_L fmb bl (ks_E fmb bl e))), .int (nI (ks_K fmb bl (ks_E fmb bl e))), .int v18, .ref an, .ref va])), (mby, .inl (y 0, 150, .inl fmb)), (va, .inl (y 0, 2, .inl (upd fva 0 (nI (ks_V fmb bl e))))), (an, .inl (y 0, 76, .inl (upd (upd (upd fan (agl + 11) (nI (ks_V fmb bl e))) (agl + 16) 0) 1 (nI (agl + 1)))))] H := hP
      have hD : va_D A [(mo, .inr (11, [.ref to, .ref ke, .ref ik, .ref mrf, .long mab, .long mbl, .ref ha, .ref r0, .ref mbr, .ref mbp, .ref mby, .int (nI bl), .int (nI (ks_S fmb bl (ks_E fmb bl e))), .int (nI (ks_L fmb bl (ks_E fmb bl e))), .int (nI (ks_K fmb bl (ks_E fmb bl e))), .int v18, .ref an, .ref va])), (mby, .inl (y 0, 150, .inl fmb)), (va, .inl (y 0, 2, .inl (upd fva 0 (nI (ks_V fmb bl e))))), (an, .inl (y 0, 76, .inl (upd (upd (upd fan (agl + 11) (nI (ks_V fmb bl e))) (agl + 16) 0) 1 (nI (agl + 1)))))] := hD
      refine lv_iconst (v := 1) hx hb dX11_takesGleaner_48 (by decide) ?_
      exact W.zret (v := 1) hx hb hr (by decide) (fun tZ ht hW => ⟨⟨1, (ks_S fmb bl (ks_E fmb bl e), ks_L fmb bl (ks_E fmb bl e), ks_K fmb bl (ks_E fmb bl e), v18, (upd fva 0 (nI (ks_V fmb bl e))), (upd (upd (upd fan (agl + 11) (nI (ks_V fmb bl e))) (agl + 16) 0) 1 (nI (agl + 1))), agl + 1), rfl, ⟨by first | omega | (dsimp only; omega), by first | omega | (dsimp only; omega), by first | omega | (dsimp only; omega), h46, h47, by first | omega | (dsimp only; omega), h48, h49, h50, h51, h52, Or.inr rfl, by first | omega | (dsimp only; omega), by first | omega | (dsimp only; omega), (fun h9 => absurd h9 (by decide)), (fun _ => kz_go.mk (ks_glrB (by first | omega | (dsimp only; omega)) (by first | omega | (dsimp only; omega)) (ks_nm_mk h32 (by first | omega | (dsimp only; omega)) (by first | omega | (dsimp only; omega)))) (by first | omega | (dsimp only; omega)) (by first | omega | (dsimp only; omega)) h38 (kz_ka_u (kz_ka_u (kz_ka_u hkd (by first | omega | (dsimp only; omega))) (by first | omega | (dsimp only; omega))) (by first | omega | (dsimp only; omega))))⟩, by rw [ht]; exact hP.sub [0, 1, 2, 3] rfl, hD.sub [0, 1, 2, 3] (by decide) rfl⟩, hS.F ht⟩) hS.2.2 dX11_takesGleaner_49
  · skip
    have h2 : agl = 5 := (nI_eq (a := agl) (b := 5) (by omega) (by omega)).mp h2
    refine lv_iconst (v := 0) hx hb dX11_takesGleaner_10 (by decide) ?_
    exact W.zret (v := 0) hx hb hr (by decide) (fun tZ ht hW => ⟨⟨0, (ta, tl, tk, vv, fva, fan, agl), rfl, ⟨by first | omega | (dsimp only; omega), by first | omega | (dsimp only; omega), by first | omega | (dsimp only; omega), hkan, ha0_, by first | omega | (dsimp only; omega), ha1_, ha2_, ha3_, ha4_, ha21_, Or.inl rfl, by first | omega | (dsimp only; omega), by first | omega | (dsimp only; omega), (fun _ => ks_glr5 (by first | omega | (dsimp only; omega))), (fun h9 => absurd h9 (by decide))⟩, by rw [ht]; exact hP.sub [0, 1, 2, 3] rfl, hD.sub [0, 1, 2, 3] (by decide) rfl⟩, hS.F ht⟩) hS.2.2 dX11_takesGleaner_11
