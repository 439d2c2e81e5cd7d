set_option maxHeartbeats 4000000 in
set_option maxRecDepth 100000 in
theorem gr_MtakesParish (l : Launch) (D : va_G) (y : Nat → ClassId) (mo : Nat) (to : Nat) (ke : Nat) (ik : Nat) (mrf : Nat) (ha : Nat) (r0 : Nat) (mbr : Nat) (mbp : Nat) (mby : Nat) (an : Nat) (va : Nat) (mab : Int64) (mbl : Int64) (bl : Nat) (ta : Nat) (tl : Nat) (tk : Nat) (vv : Int32) (fmb : Nat → Int32) (fva : Nat → Int32) (fan : Nat → Int32) (afi : Nat) (agl : Nat) (ami : Nat) (ano : Nat) (aun : Nat) (asp : Nat) (e : Nat) (hbl : bl ≤ 150) (he : ta + tl = e) (heb : e ≤ bl) (htk : tk ≤ 4) (ha0_ : fan 0 = (nI afi)) (ha1_ : fan 1 = (nI agl)) (ha2_ : fan 2 = (nI ami)) (ha3_ : fan 3 = (nI ano)) (ha4_ : fan 4 = (nI aun)) (ha21_ : fan 21 = (nI asp)) (hkan : kr_t 76 fan) (hB0 : afi ≤ 6) (hB1 : agl ≤ 5) (hB2 : ami ≤ 4) (hB3 : ano ≤ 6) (hB4 : aun ≤ 8) (hB5 : asp ≤ 12) (hagf : (agl = 0 ∨ 0 < afi)) : kw_Mi l yX11_takesParish wsX11_takesParish ({ frames := 6, cells := 0, slots := 0, locals := 172 }) D y [.ref mo] [(mo, .inr (11, [.ref to, .ref ke, .ref ik, .ref mrf, .long mab, .long mbl, .ref ha, .ref r0, .ref mbr, .ref mbp, .ref mby, .int (nI bl), .int (nI ta), .int (nI tl), .int (nI tk), .int vv, .ref an, .ref va])), (mby, .inl (y 0, 150, .inl fmb)), (va, .inl (y 0, 2, .inl fva)), (an, .inl (y 0, 76, .inl fan))] (fun (r : Int32) (u : Nat × Nat × Nat × Int32 × (Nat → Int32) × (Nat → Int32) × Nat × Nat × Nat × Nat × Nat × Nat) => u.1 ≤ bl ∧ u.2.1 ≤ 150 ∧ u.2.2.1 ≤ 4 ∧ kr_t 76 u.2.2.2.2.2.1 ∧ u.2.2.2.2.2.2.1 ≤ 6 ∧ u.2.2.2.2.2.1 0 = (nI u.2.2.2.2.2.2.1) ∧ u.2.2.2.2.2.2.2.1 ≤ 5 ∧ u.2.2.2.2.2.1 1 = (nI u.2.2.2.2.2.2.2.1) ∧ u.2.2.2.2.2.2.2.2.1 ≤ 4 ∧ u.2.2.2.2.2.1 2 = (nI u.2.2.2.2.2.2.2.2.1) ∧ u.2.2.2.2.2.2.2.2.2.1 ≤ 6 ∧ u.2.2.2.2.2.1 3 = (nI u.2.2.2.2.2.2.2.2.2.1) ∧ u.2.2.2.2.2.2.2.2.2.2.1 ≤ 8 ∧ u.2.2.2.2.2.1 4 = (nI u.2.2.2.2.2.2.2.2.2.2.1) ∧ u.2.2.2.2.2.2.2.2.2.2.2 ≤ 12 ∧ u.2.2.2.2.2.1 21 = (nI u.2.2.2.2.2.2.2.2.2.2.2) ∧ (r = 0 ∨ r = 1) ∧ u.1 + u.2.1 ≤ bl ∧ (u.2.2.2.2.2.2.2.1 = 0 ∨ 0 < u.2.2.2.2.2.2.1) ∧ (r = 0 → ks_pa fmb bl tk ta e = ks_flt u.1) ∧ (r = 1 → ks_pa fmb bl tk ta e = ks_ok (ks_E fmb bl e) 0 0 12 (fun _ => 0) ∧ ks_K fmb bl (ks_E fmb bl e) = 3 ∧ u.1 = ks_S fmb bl (ks_E fmb bl e) ∧ u.2.1 = ks_L fmb bl (ks_E fmb bl e) ∧ u.2.2.1 = ks_K fmb bl (ks_E fmb bl e) ∧ u.2.2.2.2.2.2.1 = 0 ∧ u.2.2.2.2.2.2.2.1 = 0 ∧ u.2.2.2.2.2.2.2.2.1 = 0 ∧ u.2.2.2.2.2.2.2.2.2.1 = 0 ∧ u.2.2.2.2.2.2.2.2.2.2.1 = 0 ∧ u.2.2.2.2.2.2.2.2.2.2.2 = 0 ∧ kz_N fmb bl (ks_E fmb bl e) u.2.2.2.1)) (fun u => [(mo, .inr (11, [.ref to, .ref ke, .ref ik, .ref mrf, .long mab, .long mbl, .ref ha, .ref r0, .ref mbr, .ref mbp, .ref mby, .int (nI bl), .int (nI u.1), .int (nI u.2.1), .int (nI u.2.2.1), .int u.2.2.2.1, .ref an, .ref va])), (mby, .inl (y 0, 150, .inl fmb)), (va, .inl (y 0, 2, .inl u.2.2.2.2.1)), (an, .inl (y 0, 76, .inl u.2.2.2.2.2.1))]) 0 0 := by
  refine kw_Mi.of (cc := cX11_takesParish) (maxL := 1) (ret := (some .boolean)) (by decide) rfl ?_
  intro pZ eZ s mZ beZ meZ cZ A hE
  obtain ⟨hx, hb, hr, hml, hts, hown, hlocks, hin, hA, hP, hD, hK, hN⟩ := hE
  have hS : va_S A s.heap s.heap [] := va_S.rf
  have hl := lv_entry ([.ref mo]) (n := 1) (Nat.le_of_ble_eq_true rfl)
  rw [lg_entry_eq]
  generalize (lg_sl ([.ref mo]) ++ List.replicate (1 - (lg_sl ([.ref mo])).length) Slot.unset).toArray = ls at hl ⊢
  have hl : lv_has ls 1 [(0, .ref mo)] := hl
  have fw1 := hts (.fieldLink RX11 42 "GleanDuskModel" "anew" "[I") (List.mem_of_getElem? (i := 1) rfl)
  have fw2 := hts (.fieldLink RX11 45 "GleanDuskModel" "values" "[I") (List.mem_of_getElem? (i := 2) rfl)
  have fw3 := hts (.fieldLink RX11 228 "GleanDuskModel" "token" "I") (List.mem_of_getElem? (i := 3) rfl)
  have iw11 : ∀ w ∈ wsX110, w ∈ wsX11_takesParish := fun _ h => List.mem_cons_of_mem _ (List.mem_append_right _ h)
  refine lv_aload_n hx hb dX11_takesParish_0 rfl (lv_at hl 0 rfl) ?_
  refine lv_bipush (v := 6) hx hb dX11_takesParish_1 (by decide) ?_
  refine lv_bipush (v := 112) hx hb dX11_takesParish_3 (by decide) ?_
  refine lv_bipush (v := 97) hx hb dX11_takesParish_5 (by decide) ?_
  refine lv_bipush (v := 114) hx hb dX11_takesParish_7 (by decide) ?_
  refine lv_bipush (v := 105) hx hb dX11_takesParish_9 (by decide) ?_
  refine lv_bipush (v := 115) hx hb dX11_takesParish_11 (by decide) ?_
  refine lv_bipush (v := 104) hx hb dX11_takesParish_13 (by decide) ?_
  have hs1 : kw_Split [(mo, .inr (11, [.ref to, .ref ke, .ref ik, .ref mrf, .long mab, .long mbl, .ref ha, .ref r0, .ref mbr, .ref mbp, .ref mby, .int (nI bl), .int (nI ta), .int (nI tl), .int (nI tk), .int vv, .ref an, .ref va])), (mby, .inl (y 0, 150, .inl fmb)), (va, .inl (y 0, 2, .inl fva)), (an, .inl (y 0, 76, .inl fan))] [(mo, .inr (11, [.ref to, .ref ke, .ref ik, .ref mrf, .long mab, .long mbl, .ref ha, .ref r0, .ref mbr, .ref mbp, .ref mby, .int (nI bl), .int (nI ta), .int (nI tl), .int (nI tk), .int vv, .ref an, .ref va])), (mby, .inl (y 0, 150, .inl fmb))] [(va, .inl (y 0, 2, .inl fva)), (an, .inl (y 0, 76, .inl fan))] [0, 1] [2, 3] := ⟨rfl, rfl, rfl, rfl, rfl, by decide⟩
  refine kw_go_i hs1 hP hD hS hA (va_runV (As := [.int 6, .int 112, .int 97, .int 114, .int 105, .int 115, .int 104]) (rest := []) ⟨hx, hb, hml, hown, hts⟩ (gr_Msp0 l D y mo to ke ik mrf ha r0 mbr mbp mby an va mab mbl bl ta tl tk vv fmb e hbl he heb htk _) (cwV 7 hts gX11_takesParish_X11_spells rfl rfl rfl (by decide +kernel) ⟨Nat.le_of_ble_eq_true rfl, Nat.le_of_ble_eq_true rfl⟩) (kw_PreV (ci := 11) (q0 := 0) hs1 hP hD hK hN rfl rfl) rfl rfl hl.1 rfl (lv_room (Nat.le_of_ble_eq_true rfl)) dX11_takesParish_15 ⟨Nat.le_of_ble_eq_true rfl, Nat.le_of_ble_eq_true rfl⟩) (fun r2 u3 H locs hq hP hD hS => ?_)
  rcases hq with ⟨h4, rfl⟩ | ⟨h5, rfl⟩
  · skip
    have hP : va_P D vwCl [(va, .inl (y 0, 2, .inl fva)), (an, .inl (y 0, 76, .inl fan)), (mo, .inr (11, [.ref to, .ref ke, .ref ik, .ref mrf, .long mab, .long mbl, .ref ha, .ref r0, .ref mbr, .ref mbp, .ref mby, .int (nI bl), .int (nI ta), .int (nI tl), .int (nI tk), .int vv, .ref an, .ref va])), (mby, .inl (y 0, 150, .inl fmb))] H := hP
    have hD : va_D A [(va, .inl (y 0, 2, .inl fva)), (an, .inl (y 0, 76, .inl fan)), (mo, .inr (11, [.ref to, .ref ke, .ref ik, .ref mrf, .long mab, .long mbl, .ref ha, .ref r0, .ref mbr, .ref mbp, .ref mby, .int (nI bl), .int (nI ta), .int (nI tl), .int (nI tk), .int vv, .ref an, .ref va])), (mby, .inl (y 0, 150, .inl fmb))] := hD
    refine lv_if_ne (tgt := 23) hx hb dX11_takesParish_18 (by decide) (fun _ => ?_) (fun h9 => absurd h9 (by decide))
    refine lv_aload_n hx hb dX11_takesParish_23 rfl (lv_at hl 0 rfl) ?_
    have hs6 : kw_Split [(va, .inl (y 0, 2, .inl fva)), (an, .inl (y 0, 76, .inl fan)), (mo, .inr (11, [.ref to, .ref ke, .ref ik, .ref mrf, .long mab, .long mbl, .ref ha, .ref r0, .ref mbr, .ref mbp, .ref mby, .int (nI bl), .int (nI ta), .int (nI tl), .int (nI tk), .int vv, .ref an, .ref va])), (mby, .inl (y 0, 150, .inl fmb))] [(mo, .inr (11, [.ref to, .ref ke, .ref ik, .ref mrf, .long mab, .long mbl, .ref ha, .ref r0, .ref mbr, .ref mbp, .ref mby, .int (nI bl), .int (nI ta), .int (nI tl), .int (nI tk), .int vv, .ref an, .ref va])), (mby, .inl (y 0, 150, .inl fmb))] [(va, .inl (y 0, 2, .inl fva)), (an, .inl (y 0, 76, .inl fan))] [2, 3] [0, 1] := ⟨rfl, rfl, rfl, rfl, rfl, by decide⟩
    refine kw_go_v hs6 hP hD hS hA (va_runV (As := []) (rest := []) ⟨hx, hb, hml, hown, hts⟩ (gr_Mgo l D y mo to ke ik mrf ha r0 mbr mbp mby an va mab mbl bl ta tl tk vv fmb e hbl he heb htk _) (cwV 0 hts gX11_takesParish_X11_goBehind rfl rfl rfl (by decide +kernel) ⟨Nat.le_of_ble_eq_true rfl, Nat.le_of_ble_eq_true rfl⟩) (kw_PreV (ci := 11) (q0 := 2) hs6 hP hD hK hN rfl rfl) rfl rfl hl.1 rfl (lv_room (Nat.le_of_ble_eq_true rfl)) dX11_takesParish_24 ⟨Nat.le_of_ble_eq_true rfl, Nat.le_of_ble_eq_true rfl⟩) (fun u8 H locs hq hP hD hS => ?_)
    obtain ⟨v9, rfl⟩ : ∃ z, z = u8 := ⟨_, rfl⟩
    try dsimp only at hq
    obtain ⟨h10, h11, h12, h13, h14⟩ := hq
    have hP : va_P D vwCl [(va, .inl (y 0, 2, .inl fva)), (an, .inl (y 0, 76, .inl fan)), (mo, .inr (11, [.ref to, .ref ke, .ref ik, .ref mrf, .long mab, .long mbl, .ref ha, .ref r0, .ref mbr, .ref mbp, .ref mby, .int (nI bl), .int (nI (ks_S fmb bl e)), .int (nI (ks_L fmb bl e)), .int (nI (ks_K fmb bl e)), .int v9, .ref an, .ref va])), (mby, .inl (y 0, 150, .inl fmb))] H := hP
    have hD : va_D A [(va, .inl (y 0, 2, .inl fva)), (an, .inl (y 0, 76, .inl fan)), (mo, .inr (11, [.ref to, .ref ke, .ref ik, .ref mrf, .long mab, .long mbl, .ref ha, .ref r0, .ref mbr, .ref mbp, .ref mby, .int (nI bl), .int (nI (ks_S fmb bl e)), .int (nI (ks_L fmb bl e)), .int (nI (ks_K fmb bl e)), .int v9, .ref an, .ref va])), (mby, .inl (y 0, 150, .inl fmb))] := hD
    refine lv_aload_n hx hb dX11_takesParish_27 rfl (lv_at hl 0 rfl) ?_
    refine lv_iconst (v := 0) hx hb dX11_takesParish_28 (by decide) ?_
    refine lv_iconst (v := 0) hx hb dX11_takesParish_29 (by decide) ?_
    refine lv_bipush (v := 9) hx hb dX11_takesParish_30 (by decide) ?_
    have hs15 : kw_Split [(va, .inl (y 0, 2, .inl fva)), (an, .inl (y 0, 76, .inl fan)), (mo, .inr (11, [.ref to, .ref ke, .ref ik, .ref mrf, .long mab, .long mbl, .ref ha, .ref r0, .ref mbr, .ref mbp, .ref mby, .int (nI bl), .int (nI (ks_S fmb bl e)), .int (nI (ks_L fmb bl e)), .int (nI (ks_K fmb bl e)), .int v9, .ref an, .ref va])), (mby, .inl (y 0, 150, .inl fmb))] [(mo, .inr (11, [.ref to, .ref ke, .ref ik, .ref mrf, .long mab, .long mbl, .ref ha, .ref r0, .ref mbr, .ref mbp, .ref mby, .int (nI bl), .int (nI (ks_S fmb bl e)), .int (nI (ks_L fmb bl e)), .int (nI (ks_K fmb bl e)), .int v9, .ref an, .ref va])), (mby, .inl (y 0, 150, .inl fmb)), (va, .inl (y 0, 2, .inl fva))] [(an, .inl (y 0, 76, .inl fan))] [2, 3, 0] [1] := ⟨rfl, rfl, rfl, rfl, rfl, by decide⟩
    refine kw_go_i hs15 hP hD hS hA (va_runV (As := [.int 0, .int 0, .int 9]) (rest := []) ⟨hx, hb, hml, hown, hts⟩ (gr_Mt09 l D y mo to ke ik mrf ha r0 mbr mbp mby an va mab mbl bl (ks_S fmb bl e) (ks_L fmb bl e) (ks_K fmb bl e) v9 fmb fva (ks_E fmb bl e) (ks_V fmb bl e) hbl (by omega) (by omega) (by omega) h14 _) (cwV 3 hts gX11_takesParish_X11_takes rfl rfl rfl (by decide +kernel) ⟨Nat.le_of_ble_eq_true rfl, Nat.le_of_ble_eq_true rfl⟩) (kw_PreV (ci := 11) (q0 := 2) hs15 hP hD hK hN rfl rfl) rfl rfl hl.1 rfl (lv_room (Nat.le_of_ble_eq_true rfl)) dX11_takesParish_32 ⟨Nat.le_of_ble_eq_true rfl, Nat.le_of_ble_eq_true rfl⟩) (fun r16 u17 H locs hq hP hD hS => ?_)
    obtain ⟨v18, v19, v20, v21, v22⟩ := u17
    try dsimp only at hq
    obtain ⟨h23, h24, h25, (rfl | rfl), h26, h27, h28⟩ := hq
    · skip
      have hP : va_P D vwCl [(an, .inl (y 0, 76, .inl fan)), (mo, .inr (11, [.ref to, .ref ke, .ref ik, .ref mrf, .long mab, .long mbl, .ref ha, .ref r0, .ref mbr, .ref mbp, .ref mby, .int (nI bl), .int (nI v18), .int (nI v19), .int (nI v20), .int v21, .ref an, .ref va])), (mby, .inl (y 0, 150, .inl fmb)), (va, .inl (y 0, 2, .inl v22))] H := hP
      have hD : va_D A [(an, .inl (y 0, 76, .inl fan)), (mo, .inr (11, [.ref to, .ref ke, .ref ik, .ref mrf, .long mab, .long mbl, .ref ha, .ref r0, .ref mbr, .ref mbp, .ref mby, .int (nI bl), .int (nI v18), .int (nI v19), .int (nI v20), .int v21, .ref an, .ref va])), (mby, .inl (y 0, 150, .inl fmb)), (va, .inl (y 0, 2, .inl v22))] := hD
      have h27 : kz_no (ks_K fmb bl e) 0 9 (ks_V fmb bl e) ∧ v22 = fva ∧ v18 = (ks_S fmb bl e) ∧ v19 = (ks_L fmb bl e) ∧ v20 = (ks_K fmb bl e) ∧ v21 = v9 := h27 rfl
      obtain ⟨h29, h30, h31, h32, h33, h34⟩ := h27
      have h30 := h30.symm
      subst h30
      have h31 := h31.symm
      subst h31
      have h32 := h32.symm
      subst h32
      have h33 := h33.symm
      subst h33
      have h34 := h34.symm
      subst h34
      have hP : va_P D vwCl [(an, .inl (y 0, 76, .inl fan)), (mo, .inr (11, [.ref to, .ref ke, .ref ik, .ref mrf, .long mab, .long mbl, .ref ha, .ref r0, .ref mbr, .ref mbp, .ref mby, .int (nI bl), .int (nI (ks_S fmb bl e)), .int (nI (ks_L fmb bl e)), .int (nI (ks_K fmb bl e)), .int v9, .ref an, .ref va])), (mby, .inl (y 0, 150, .inl fmb)), (va, .inl (y 0, 2, .inl (fva)))] H := hP
      have hD : va_D A [(an, .inl (y 0, 76, .inl fan)), (mo, .inr (11, [.ref to, .ref ke, .ref ik, .ref mrf, .long mab, .long mbl, .ref ha, .ref r0, .ref mbr, .ref mbp, .ref mby, .int (nI bl), .int (nI (ks_S fmb bl e)), .int (nI (ks_L fmb bl e)), .int (nI (ks_K fmb bl e)), .int v9, .ref an, .ref va])), (mby, .inl (y 0, 150, .inl fmb)), (va, .inl (y 0, 2, .inl (fva)))] := hD
      refine lv_if_ne (tgt := 40) hx hb dX11_takesParish_35 (by decide) (fun h9 => absurd h9 (by decide)) (fun _ => ?_)
      refine lv_iconst (v := 0) hx hb dX11_takesParish_38 (by decide) ?_
      exact W.zret (v := 0) hx hb hr (by decide) (fun tZ ht hW => ⟨⟨0, (ks_S fmb bl e, ks_L fmb bl e, ks_K fmb bl e, v9, (fva), fan, afi, agl, ami, ano, aun, asp), rfl, ⟨by first | omega | (dsimp only; omega), by first | omega | (dsimp only; omega), by first | omega | (dsimp only; omega), hkan, by first | omega | (dsimp only; omega), ha0_, by first | omega | (dsimp only; omega), ha1_, by first | omega | (dsimp only; omega), ha2_, by first | omega | (dsimp only; omega), ha3_, by first | omega | (dsimp only; omega), ha4_, by first | omega | (dsimp only; omega), ha21_, Or.inl rfl, by first | omega | (dsimp only; omega), by first | omega | (dsimp only; omega), (fun _ => ks_paF (ks_it0B h4 (kz_no_nm h29))), (fun h9 => absurd h9 (by decide))⟩, by rw [ht]; exact hP.sub [1, 2, 3, 0] rfl, hD.sub [1, 2, 3, 0] (by decide) rfl⟩, hS.F ht⟩) hS.2.2 dX11_takesParish_39
    · skip
      have hP : va_P D vwCl [(an, .inl (y 0, 76, .inl fan)), (mo, .inr (11, [.ref to, .ref ke, .ref ik, .ref mrf, .long mab, .long mbl, .ref ha, .ref r0, .ref mbr, .ref mbp, .ref mby, .int (nI bl), .int (nI v18), .int (nI v19), .int (nI v20), .int v21, .ref an, .ref va])), (mby, .inl (y 0, 150, .inl fmb)), (va, .inl (y 0, 2, .inl v22))] H := hP
      have hD : va_D A [(an, .inl (y 0, 76, .inl fan)), (mo, .inr (11, [.ref to, .ref ke, .ref ik, .ref mrf, .long mab, .long mbl, .ref ha, .ref r0, .ref mbr, .ref mbp, .ref mby, .int (nI bl), .int (nI v18), .int (nI v19), .int (nI v20), .int v21, .ref an, .ref va])), (mby, .inl (y 0, 150, .inl fmb)), (va, .inl (y 0, 2, .inl v22))] := hD
      have h26 : (ks_K fmb bl e) = 2 ∧ 0 ≤ (ks_V fmb bl e) ∧ (ks_V fmb bl e) ≤ 9 ∧ v22 = upd fva 0 (nI (ks_V fmb bl e)) ∧ v18 = ks_S fmb bl (ks_E fmb bl e) ∧ v19 = ks_L fmb bl (ks_E fmb bl e) ∧ v20 = ks_K fmb bl (ks_E fmb bl e) ∧ kz_N fmb bl (ks_E fmb bl e) v21 := h26 rfl
      obtain ⟨h35, h36, h37, h38, h39, h40, h41, h42⟩ := h26
      have h38 := h38.symm
      subst h38
      have h39 := h39.symm
      subst h39
      have h40 := h40.symm
      subst h40
      have h41 := h41.symm
      subst h41
      have hk43 := ks_SL (f := fmb) (n := bl) (p := ks_E fmb bl e) (by omega)
      have hk44 := ks_K4 fmb bl (ks_E fmb bl e)
      have hk45 := ks_S_le (f := fmb) (n := bl) (p := ks_E fmb bl e) (by omega)
      have hk46 : (upd fva 0 (nI (ks_V fmb bl e))) 0 = (nI (ks_V fmb bl e)) := pk_us
      have hP : va_P D vwCl [(an, .inl (y 0, 76, .inl fan)), (mo, .inr (11, [.ref to, .ref ke, .ref ik, .ref mrf, .long mab, .long mbl, .ref ha, .ref r0, .ref mbr, .ref mbp, .ref mby, .int (nI bl), .int (nI (ks_S fmb bl (ks_E fmb bl e))), .int (nI (ks_L fmb bl (ks_E fmb bl e))), .int (nI (ks_K fmb bl (ks_E fmb bl e))), .int v21, .ref an, .ref va])), (mby, .inl (y 0, 150, .inl fmb)), (va, .inl (y 0, 2, .inl (upd fva 0 (nI (ks_V fmb bl e)))))] H := hP
      have hD : va_D A [(an, .inl (y 0, 76, .inl fan)), (mo, .inr (11, [.ref to, .ref ke, .ref ik, .ref mrf, .long mab, .long mbl, .ref ha, .ref r0, .ref mbr, .ref mbp, .ref mby, .int (nI bl), .int (nI (ks_S fmb bl (ks_E fmb bl e))), .int (nI (ks_L fmb bl (ks_E fmb bl e))), .int (nI (ks_K fmb bl (ks_E fmb bl e))), .int v21, .ref an, .ref va])), (mby, .inl (y 0, 150, .inl fmb)), (va, .inl (y 0, 2, .inl (upd fva 0 (nI (ks_V fmb bl e)))))] := hD
      refine lv_if_ne (tgt := 40) hx hb dX11_takesParish_35 (by decide) (fun _ => ?_) (fun h9 => absurd h9 (by decide))
      refine lv_aload_n hx hb dX11_takesParish_40 rfl (lv_at hl 0 rfl) ?_
      refine va_get (D := D) (ci := 11) (v := .ref an) (C := RX11) (T := TX11) (N := 18) hx hb hts iw11 hown hK hP 1 rfl rfl 16 (by decide) fw1 (fun _ h9 => h9) rfl dX11_takesParish_41 ?_
      refine lv_aload_n hx hb dX11_takesParish_44 rfl (lv_at hl 0 rfl) ?_
      refine va_get (D := D) (ci := 11) (v := .ref va) (C := RX11) (T := TX11) (N := 18) hx hb hts iw11 hown hK hP 1 rfl rfl 17 (by decide) fw2 (fun _ h9 => h9) rfl dX11_takesParish_45 ?_
      refine lv_iconst (v := 0) hx hb dX11_takesParish_48 (by decide) ?_
      refine va_iald hx hb hK hP 3 0 rfl rfl (by unfold vp_in; decide) dX11_takesParish_49 ?_
      rw [show ((0 : Int32)).toNatClampNeg = 0 from rfl]
      rw [show ((upd fva 0 (nI (ks_V fmb bl e))) 0) = (nI (ks_V fmb bl e)) from hk46]
      have hs47 : kw_Split [(an, .inl (y 0, 76, .inl fan)), (mo, .inr (11, [.ref to, .ref ke, .ref ik, .ref mrf, .long mab, .long mbl, .ref ha, .ref r0, .ref mbr, .ref mbp, .ref mby, .int (nI bl), .int (nI (ks_S fmb bl (ks_E fmb bl e))), .int (nI (ks_L fmb bl (ks_E fmb bl e))), .int (nI (ks_K fmb bl (ks_E fmb bl e))), .int v21, .ref an, .ref va])), (mby, .inl (y 0, 150, .inl fmb)), (va, .inl (y 0, 2, .inl (upd fva 0 (nI (ks_V fmb bl e)))))] [(an, .inl (y 0, 76, .inl fan))] [(mo, .inr (11, [.ref to, .ref ke, .ref ik, .ref mrf, .long mab, .long mbl, .ref ha, .ref r0, .ref mbr, .ref mbp, .ref mby, .int (nI bl), .int (nI (ks_S fmb bl (ks_E fmb bl e))), .int (nI (ks_L fmb bl (ks_E fmb bl e))), .int (nI (ks_K fmb bl (ks_E fmb bl e))), .int v21, .ref an, .ref va])), (mby, .inl (y 0, 150, .inl fmb)), (va, .inl (y 0, 2, .inl (upd fva 0 (nI (ks_V fmb bl e)))))] [0] [1, 2, 3] := ⟨rfl, rfl, rfl, rfl, rfl, by decide⟩
      refine kw_go_v hs47 hP hD hS hA (va_runS (As := [.ref an, .int (nI (ks_V fmb bl e))]) (rest := []) ⟨hx, hb, hml, hown, hts⟩ (gr_Mbegin l D y an fan (nI (ks_V fmb bl e)) hkan _) (va_cwS 2 hts gX11_takesParish_X11_begin rfl rfl rfl (by decide +kernel) ⟨Nat.le_of_ble_eq_true rfl, Nat.le_of_ble_eq_true rfl⟩) (kw_PreS hs47 hP hD hK hN) rfl rfl hl.1 rfl (lv_room (Nat.le_of_ble_eq_true rfl)) dX11_takesParish_50 ⟨Nat.le_of_ble_eq_true rfl, Nat.le_of_ble_eq_true rfl⟩) (fun u49 H locs hq hP hD hS => ?_)
      have h50 := hq
      have hk51 : (upd (kr_bg fan 76) 22 (nI (ks_V fmb bl e))) 0 = 0 := ((pk_un (by decide)).trans (kr_bg_lt (by decide)))
      have hk52 : (upd (kr_bg fan 76) 22 (nI (ks_V fmb bl e))) 1 = 0 := ((pk_un (by decide)).trans (kr_bg_lt (by decide)))
      have hk53 : (upd (kr_bg fan 76) 22 (nI (ks_V fmb bl e))) 2 = 0 := ((pk_un (by decide)).trans (kr_bg_lt (by decide)))
      have hk54 : (upd (kr_bg fan 76) 22 (nI (ks_V fmb bl e))) 3 = 0 := ((pk_un (by decide)).trans (kr_bg_lt (by decide)))
      have hk55 : (upd (kr_bg fan 76) 22 (nI (ks_V fmb bl e))) 4 = 0 := ((pk_un (by decide)).trans (kr_bg_lt (by decide)))
      have hk56 : (upd (kr_bg fan 76) 22 (nI (ks_V fmb bl e))) 21 = 0 := ((pk_un (by decide)).trans (kr_bg_lt (by decide)))
      have hP : va_P D vwCl [(mo, .inr (11, [.ref to, .ref ke, .ref ik, .ref mrf, .long mab, .long mbl, .ref ha, .ref r0, .ref mbr, .ref mbp, .ref mby, .int (nI bl), .int (nI (ks_S fmb bl (ks_E fmb bl e))), .int (nI (ks_L fmb bl (ks_E fmb bl e))), .int (nI (ks_K fmb bl (ks_E fmb bl e))), .int v21, .ref an, .ref va])), (mby, .inl (y 0, 150, .inl fmb)), (va, .inl (y 0, 2, .inl (upd fva 0 (nI (ks_V fmb bl e))))), (an, .inl (y 0, 76, .inl (upd (kr_bg fan 76) 22 (nI (ks_V fmb bl e)))))] H := hP
      have hD : va_D A [(mo, .inr (11, [.ref to, .ref ke, .ref ik, .ref mrf, .long mab, .long mbl, .ref ha, .ref r0, .ref mbr, .ref mbp, .ref mby, .int (nI bl), .int (nI (ks_S fmb bl (ks_E fmb bl e))), .int (nI (ks_L fmb bl (ks_E fmb bl e))), .int (nI (ks_K fmb bl (ks_E fmb bl e))), .int v21, .ref an, .ref va])), (mby, .inl (y 0, 150, .inl fmb)), (va, .inl (y 0, 2, .inl (upd fva 0 (nI (ks_V fmb bl e))))), (an, .inl (y 0, 76, .inl (upd (kr_bg fan 76) 22 (nI (ks_V fmb bl e)))))] := hD
      refine lv_aload_n hx hb dX11_takesParish_53 rfl (lv_at hl 0 rfl) ?_
      refine va_get (D := D) (ci := 11) (v := .int (nI (ks_K fmb bl (ks_E fmb bl e)))) (C := RX11) (T := TX11) (N := 18) hx hb hts iw11 hown hK hP 0 rfl rfl 14 (by decide) fw3 (fun _ h9 => h9) rfl dX11_takesParish_54 ?_
      refine lv_iconst (v := 3) hx hb dX11_takesParish_57 (by decide) ?_
      refine lv_icmp_ne (tgt := 65) hx hb dX11_takesParish_58 (by decide) (fun h57 => ?_) (fun h58 => ?_)
      · skip
        have h57 : ¬ (ks_K fmb bl (ks_E fmb bl e)) = 3 := fun q9 => h57 ((nI_eq (a := (ks_K fmb bl (ks_E fmb bl e))) (b := 3) (by omega) (by omega)).mpr q9)
        refine lv_iconst (v := 0) hx hb dX11_takesParish_65 (by decide) ?_
        exact W.zret (v := 0) hx hb hr (by decide) (fun tZ ht hW => ⟨⟨0, (ks_S fmb bl (ks_E fmb bl e), ks_L fmb bl (ks_E fmb bl e), ks_K fmb bl (ks_E fmb bl e), v21, (upd fva 0 (nI (ks_V fmb bl e))), (upd (kr_bg fan 76) 22 (nI (ks_V fmb bl e))), 0, 0, 0, 0, 0, 0), rfl, ⟨by first | omega | (dsimp only; omega), by first | omega | (dsimp only; omega), by first | omega | (dsimp only; omega), h50, by first | omega | (dsimp only; omega), hk51, by first | omega | (dsimp only; omega), hk52, by first | omega | (dsimp only; omega), hk53, by first | omega | (dsimp only; omega), hk54, by first | omega | (dsimp only; omega), hk55, by first | omega | (dsimp only; omega), hk56, Or.inl rfl, by first | omega | (dsimp only; omega), by first | omega | (dsimp only; omega), (fun _ => ks_paS (ks_it0C h4 (ks_nm_mk h35 (by first | omega | (dsimp only; omega)) (by first | omega | (dsimp only; omega)))) h57), (fun h9 => absurd h9 (by decide))⟩, by rw [ht]; exact hP.sub [0, 1, 2, 3] rfl, hD.sub [0, 1, 2, 3] (by decide) rfl⟩, hS.F ht⟩) hS.2.2 dX11_takesParish_66
      · skip
        have h58 : (ks_K fmb bl (ks_E fmb bl e)) = 3 := (nI_eq (a := (ks_K fmb bl (ks_E fmb bl e))) (b := 3) (by omega) (by omega)).mp h58
        refine lv_iconst (v := 1) hx hb dX11_takesParish_61 (by decide) ?_
        refine lv_goto (tgt := 66) hx hb dX11_takesParish_62 (by decide) ?_
        exact W.zret (v := 1) hx hb hr (by decide) (fun tZ ht hW => ⟨⟨1, (ks_S fmb bl (ks_E fmb bl e), ks_L fmb bl (ks_E fmb bl e), ks_K fmb bl (ks_E fmb bl e), v21, (upd fva 0 (nI (ks_V fmb bl e))), (upd (kr_bg fan 76) 22 (nI (ks_V fmb bl e))), 0, 0, 0, 0, 0, 0), rfl, ⟨by first | omega | (dsimp only; omega), by first | omega | (dsimp only; omega), by first | omega | (dsimp only; omega), h50, by first | omega | (dsimp only; omega), hk51, by first | omega | (dsimp only; omega), hk52, by first | omega | (dsimp only; omega), hk53, by first | omega | (dsimp only; omega), hk54, by first | omega | (dsimp only; omega), hk55, by first | omega | (dsimp only; omega), hk56, Or.inr rfl, by first | omega | (dsimp only; omega), by first | omega | (dsimp only; omega), (fun h9 => absurd h9 (by decide)), (fun _ => ⟨ks_paN (ks_it0C h4 (ks_nm_mk h35 (by first | omega | (dsimp only; omega)) (by first | omega | (dsimp only; omega)))) h58, h58, rfl, rfl, rfl, rfl, rfl, rfl, rfl, rfl, rfl, h42⟩)⟩, by rw [ht]; exact hP.sub [0, 1, 2, 3] rfl, hD.sub [0, 1, 2, 3] (by decide) rfl⟩, hS.F ht⟩) hS.2.2 dX11_takesParish_66
  · skip
    have hP : va_P D vwCl [(va, .inl (y 0, 2, .inl fva)), (an, .inl (y 0, 76, .inl fan)), (mo, .inr (11, [.ref to, .ref ke, .ref ik, .ref mrf, .long mab, .long mbl, .ref ha, .ref r0, .ref mbr, .ref mbp, .ref mby, .int (nI bl), .int (nI ta), .int (nI tl), .int (nI tk), .int vv, .ref an, .ref va])), (mby, .inl (y 0, 150, .inl fmb))] H := hP
    have hD : va_D A [(va, .inl (y 0, 2, .inl fva)), (an, .inl (y 0, 76, .inl fan)), (mo, .inr (11, [.ref to, .ref ke, .ref ik, .ref mrf, .long mab, .long mbl, .ref ha, .ref r0, .ref mbr, .ref mbp, .ref mby, .int (nI bl), .int (nI ta), .int (nI tl), .int (nI tk), .int vv, .ref an, .ref va])), (mby, .inl (y 0, 150, .inl fmb))] := hD
    refine lv_if_ne (tgt := 23) hx hb dX11_takesParish_18 (by decide) (fun h9 => absurd h9 (by decide)) (fun _ => ?_)
    refine lv_iconst (v := 0) hx hb dX11_takesParish_21 (by decide) ?_
    exact W.zret (v := 0) hx hb hr (by decide) (fun tZ ht hW => ⟨⟨0, (ta, tl, tk, vv, fva, fan, afi, agl, ami, ano, aun, asp), rfl, ⟨by first | omega | (dsimp only; omega), by first | omega | (dsimp only; omega), by first | omega | (dsimp only; omega), hkan, by first | omega | (dsimp only; omega), ha0_, by first | omega | (dsimp only; omega), ha1_, by first | omega | (dsimp only; omega), ha2_, by first | omega | (dsimp only; omega), ha3_, by first | omega | (dsimp only; omega), ha4_, by first | omega | (dsimp only; omega), ha21_, Or.inl rfl, by first | omega | (dsimp only; omega), by first | omega | (dsimp only; omega), (fun _ => ks_paF (ks_it0A h5)), (fun h9 => absurd h9 (by decide))⟩, by rw [ht]; exact hP.sub [2, 3, 0, 1] rfl, hD.sub [2, 3, 0, 1] (by decide) rfl⟩, hS.F ht⟩) hS.2.2 dX11_takesParish_22

set_option maxHeartbeats 4000000 in
set_option maxRecDepth 100000 in
theorem gr_MtakesField (l : Launch) (D : va_G) (y : Nat → ClassId) (mo : Nat) (to : Nat) (ke : Nat) (ik : Nat) (mrf : Nat) (ha : Nat) (r0 : Nat) (mbr : Nat) (mbp : Nat) (mby : Nat) (an : Nat) (va : Nat) (mab : Int64) (mbl : Int64) (bl : Nat) (ta : Nat) (tl : Nat) (tk : Nat) (vv : Int32) (fmb : Nat → Int32) (fva : Nat → Int32) (fan : Nat → Int32) (afi : Nat) (agl : Nat) (ami : Nat) (ano : Nat) (aun : Nat) (asp : Nat) (e : Nat) (kd : Nat → Int32) (hbl : bl ≤ 150) (he : ta + tl = e) (heb : e ≤ bl) (htk : tk ≤ 4) (ha0_ : fan 0 = (nI afi)) (ha1_ : fan 1 = (nI agl)) (ha2_ : fan 2 = (nI ami)) (ha3_ : fan 3 = (nI ano)) (ha4_ : fan 4 = (nI aun)) (ha21_ : fan 21 = (nI asp)) (hkan : kr_t 76 fan) (hB0 : afi ≤ 6) (hB1 : agl ≤ 5) (hB2 : ami ≤ 4) (hB3 : ano ≤ 6) (hB4 : aun ≤ 8) (hB5 : asp ≤ 12) (hagf : (agl = 0 ∨ 0 < afi)) (hkd : kz_ka fan afi kd) : kw_Mi l yX11_takesField wsX11_takesField ({ frames := 6, cells := 0, slots := 0, locals := 172 }) D y [.ref mo] [(mo, .inr (11, [.ref to, .ref ke, .ref ik, .ref mrf, .long mab, .long mbl, .ref ha, .ref r0, .ref mbr, .ref mbp, .ref mby, .int (nI bl), .int (nI ta), .int (nI tl), .int (nI tk), .int vv, .ref an, .ref va])), (mby, .inl (y 0, 150, .inl fmb)), (va, .inl (y 0, 2, .inl fva)), (an, .inl (y 0, 76, .inl fan))] (fun (r : Int32) (u : Nat × Nat × Nat × Int32 × (Nat → Int32) × (Nat → Int32) × Nat) => u.1 ≤ bl ∧ u.2.1 ≤ 150 ∧ u.2.2.1 ≤ 4 ∧ kr_t 76 u.2.2.2.2.2.1 ∧ u.2.2.2.2.2.2 ≤ 6 ∧ u.2.2.2.2.2.1 0 = (nI u.2.2.2.2.2.2) ∧ u.2.2.2.2.2.1 1 = (nI agl) ∧ u.2.2.2.2.2.1 2 = (nI ami) ∧ u.2.2.2.2.2.1 3 = (nI ano) ∧ u.2.2.2.2.2.1 4 = (nI aun) ∧ u.2.2.2.2.2.1 21 = (nI asp) ∧ (r = 0 ∨ r = 1) ∧ u.1 + u.2.1 ≤ bl ∧ (agl = 0 ∨ 0 < u.2.2.2.2.2.2) ∧ (r = 0 → ks_fld fmb bl ta e afi agl (12 - asp) kd = ks_flt u.1) ∧ (r = 1 → kz_go fmb bl e (ks_fld fmb bl ta e afi agl (12 - asp) kd) u.1 u.2.1 u.2.2.1 u.2.2.2.1 u.2.2.2.2.2.2 agl (12 - asp) u.2.2.2.2.2.1)) (fun u => [(mo, .inr (11, [.ref to, .ref ke, .ref ik, .ref mrf, .long mab, .long mbl, .ref ha, .ref r0, .ref mbr, .ref mbp, .ref mby, .int (nI bl), .int (nI u.1), .int (nI u.2.1), .int (nI u.2.2.1), .int u.2.2.2.1, .ref an, .ref va])), (mby, .inl (y 0, 150, .inl fmb)), (va, .inl (y 0, 2, .inl u.2.2.2.2.1)), (an, .inl (y 0, 76, .inl u.2.2.2.2.2.1))]) 0 0 := by
  refine kw_Mi.of (cc := cX11_takesField) (maxL := 1) (ret := (some .boolean)) (by decide) rfl ?_
  intro pZ eZ s mZ beZ meZ cZ A hE
  obtain ⟨hx, hb, hr, hml, hts, hown, hlocks, hin, hA, hP, hD, hK, hN⟩ := hE
  have hS : va_S A s.heap s.heap [] := va_S.rf
  have hl := lv_entry ([.ref mo]) (n := 1) (Nat.le_of_ble_eq_true rfl)
  rw [lg_entry_eq]
  generalize (lg_sl ([.ref mo]) ++ List.replicate (1 - (lg_sl ([.ref mo])).length) Slot.unset).toArray = ls at hl ⊢
  have hl : lv_has ls 1 [(0, .ref mo)] := hl
  have fw1 := hts (.fieldLink RX11 42 "GleanDuskModel" "anew" "[I") (List.mem_of_getElem? (i := 1) rfl)
  have fw2 := hts (.fieldLink RX11 45 "GleanDuskModel" "values" "[I") (List.mem_of_getElem? (i := 2) rfl)
  have iw11 : ∀ w ∈ wsX110, w ∈ wsX11_takesField := fun _ h => List.mem_cons_of_mem _ (List.mem_append_right _ h)
  refine lv_aload_n hx hb dX11_takesField_0 rfl (lv_at hl 0 rfl) ?_
  refine va_get (D := D) (ci := 11) (v := .ref an) (C := RX11) (T := TX11) (N := 18) hx hb hts iw11 hown hK hP 0 rfl rfl 16 (by decide) fw1 (fun _ h9 => h9) rfl dX11_takesField_1 ?_
  refine lv_iconst (v := 0) hx hb dX11_takesField_4 (by decide) ?_
  refine va_iald hx hb hK hP 3 0 rfl rfl (by unfold vp_in; decide) dX11_takesField_5 ?_
  rw [show ((0 : Int32)).toNatClampNeg = 0 from rfl]
  rw [show (fan 0) = (nI afi) from ha0_]
  refine lv_bipush (v := 6) hx hb dX11_takesField_6 (by decide) ?_
  refine lv_icmp_ne (tgt := 13) hx hb dX11_takesField_8 (by decide) (fun h1 => ?_) (fun h2 => ?_)
  · skip
    have h1 : ¬ afi = 6 := fun q9 => h1 ((nI_eq (a := afi) (b := 6) (by omega) (by omega)).mpr q9)
    refine lv_aload_n hx hb dX11_takesField_13 rfl (lv_at hl 0 rfl) ?_
    have hs3 : kw_Split [(mo, .inr (11, [.ref to, .ref ke, .ref ik, .ref mrf, .long mab, .long mbl, .ref ha, .ref r0, .ref mbr, .ref mbp, .ref mby, .int (nI bl), .int (nI ta), .int (nI tl), .int (nI tk), .int vv, .ref an, .ref va])), (mby, .inl (y 0, 150, .inl fmb)), (va, .inl (y 0, 2, .inl fva)), (an, .inl (y 0, 76, .inl fan))] [(mo, .inr (11, [.ref to, .ref ke, .ref ik, .ref mrf, .long mab, .long mbl, .ref ha, .ref r0, .ref mbr, .ref mbp, .ref mby, .int (nI bl), .int (nI ta), .int (nI tl), .int (nI tk), .int vv, .ref an, .ref va])), (mby, .inl (y 0, 150, .inl fmb))] [(va, .inl (y 0, 2, .inl fva)), (an, .inl (y 0, 76, .inl fan))] [0, 1] [2, 3] := ⟨rfl, rfl, rfl, rfl, rfl, by decide⟩
    refine kw_go_v hs3 hP hD hS hA (va_runV (As := []) (rest := []) ⟨hx, hb, hml, hown, hts⟩ (gr_Mgo l D y mo to ke ik mrf ha r0 mbr mbp mby an va mab mbl bl ta tl tk vv fmb e hbl he heb htk _) (cwV 0 hts gX11_takesField_X11_goBehind rfl rfl rfl (by decide +kernel) ⟨Nat.le_of_ble_eq_true rfl, Nat.le_of_ble_eq_true rfl⟩) (kw_PreV (ci := 11) (q0 := 0) hs3 hP hD hK hN rfl rfl) rfl rfl hl.1 rfl (lv_room (Nat.le_of_ble_eq_true rfl)) dX11_takesField_14 ⟨Nat.le_of_ble_eq_true rfl, Nat.le_of_ble_eq_true rfl⟩) (fun u5 H locs hq hP hD hS => ?_)
    obtain ⟨v6, rfl⟩ : ∃ z, z = u5 := ⟨_, rfl⟩
    try dsimp only at hq
    obtain ⟨h7, h8, h9, h10, h11⟩ := hq
    have hP : va_P D vwCl [(va, .inl (y 0, 2, .inl fva)), (an, .inl (y 0, 76, .inl fan)), (mo, .inr (11, [.ref to, .ref ke, .ref ik, .ref mrf, .long mab, .long mbl, .ref ha, .ref r0, .ref mbr, .ref mbp, .ref mby, .int (nI bl), .int (nI (ks_S fmb bl e)), .int (nI (ks_L fmb bl e)), .int (nI (ks_K fmb bl e)), .int v6, .ref an, .ref va])), (mby, .inl (y 0, 150, .inl fmb))] H := hP
    have hD : va_D A [(va, .inl (y 0, 2, .inl fva)), (an, .inl (y 0, 76, .inl fan)), (mo, .inr (11, [.ref to, .ref ke, .ref ik, .ref mrf, .long mab, .long mbl, .ref ha, .ref r0, .ref mbr, .ref mbp, .ref mby, .int (nI bl), .int (nI (ks_S fmb bl e)), .int (nI (ks_L fmb bl e)), .int (nI (ks_K fmb bl e)), .int v6, .ref an, .ref va])), (mby, .inl (y 0, 150, .inl fmb))] := hD
    refine lv_aload_n hx hb dX11_takesField_17 rfl (lv_at hl 0 rfl) ?_
    refine lv_iconst (v := 0) hx hb dX11_takesField_18 (by decide) ?_
    refine lv_iconst (v := 0) hx hb dX11_takesField_19 (by decide) ?_
    refine lv_iconst (v := 5) hx hb dX11_takesField_20 (by decide) ?_
    have hs12 : kw_Split [(va, .inl (y 0, 2, .inl fva)), (an, .inl (y 0, 76, .inl fan)), (mo, .inr (11, [.ref to, .ref ke, .ref ik, .ref mrf, .long mab, .long mbl, .ref ha, .ref r0, .ref mbr, .ref mbp, .ref mby, .int (nI bl), .int (nI (ks_S fmb bl e)), .int (nI (ks_L fmb bl e)), .int (nI (ks_K fmb bl e)), .int v6, .ref an, .ref va])), (mby, .inl (y 0, 150, .inl fmb))] [(mo, .inr (11, [.ref to, .ref ke, .ref ik, .ref mrf, .long mab, .long mbl, .ref ha, .ref r0, .ref mbr, .ref mbp, .ref mby, .int (nI bl), .int (nI (ks_S fmb bl e)), .int (nI (ks_L fmb bl e)), .int (nI (ks_K fmb bl e)), .int v6, .ref an, .ref va])), (mby, .inl (y 0, 150, .inl fmb)), (va, .inl (y 0, 2, .inl fva))] [(an, .inl (y 0, 76, .inl fan))] [2, 3, 0] [1] := ⟨rfl, rfl, rfl, rfl, rfl, by decide⟩
    refine kw_go_i hs12 hP hD hS hA (va_runV (As := [.int 0, .int 0, .int 5]) (rest := []) ⟨hx, hb, hml, hown, hts⟩ (gr_Mt05 l D y mo to ke ik mrf ha r0 mbr mbp mby an va mab mbl bl (ks_S fmb bl e) (ks_L fmb bl e) (ks_K fmb bl e) v6 fmb fva (ks_E fmb bl e) (ks_V fmb bl e) hbl (by omega) (by omega) (by omega) h11 _) (cwV 3 hts gX11_takesField_X11_takes rfl rfl rfl (by decide +kernel) ⟨Nat.le_of_ble_eq_true rfl, Nat.le_of_ble_eq_true rfl⟩) (kw_PreV (ci := 11) (q0 := 2) hs12 hP hD hK hN rfl rfl) rfl rfl hl.1 rfl (lv_room (Nat.le_of_ble_eq_true rfl)) dX11_takesField_21 ⟨Nat.le_of_ble_eq_true rfl, Nat.le_of_ble_eq_true rfl⟩) (fun r13 u14 H locs hq hP hD hS => ?_)
    obtain ⟨v15, v16, v17, v18, v19⟩ := u14
    try dsimp only at hq
    obtain ⟨h20, h21, h22, (rfl | rfl), h23, h24, h25⟩ := hq
    · skip
      have hP : va_P D vwCl [(an, .inl (y 0, 76, .inl fan)), (mo, .inr (11, [.ref to, .ref ke, .ref ik, .ref mrf, .long mab, .long mbl, .ref ha, .ref r0, .ref mbr, .ref mbp, .ref mby, .int (nI bl), .int (nI v15), .int (nI v16), .int (nI v17), .int v18, .ref an, .ref va])), (mby, .inl (y 0, 150, .inl fmb)), (va, .inl (y 0, 2, .inl v19))] H := hP
      have hD : va_D A [(an, .inl (y 0, 76, .inl fan)), (mo, .inr (11, [.ref to, .ref ke, .ref ik, .ref mrf, .long mab, .long mbl, .ref ha, .ref r0, .ref mbr, .ref mbp, .ref mby, .int (nI bl), .int (nI v15), .int (nI v16), .int (nI v17), .int v18, .ref an, .ref va])), (mby, .inl (y 0, 150, .inl fmb)), (va, .inl (y 0, 2, .inl v19))] := hD
      have h24 : kz_no (ks_K fmb bl e) 0 5 (ks_V fmb bl e) ∧ v19 = fva ∧ v15 = (ks_S fmb bl e) ∧ v16 = (ks_L fmb bl e) ∧ v17 = (ks_K fmb bl e) ∧ v18 = v6 := h24 rfl
      obtain ⟨h26, h27, h28, h29, h30, h31⟩ := h24
      have h27 := h27.symm
      subst h27
      have h28 := h28.symm
      subst h28
      have h29 := h29.symm
      subst h29
      have h30 := h30.symm
      subst h30
      have h31 := h31.symm
      subst h31
      have hP : va_P D vwCl [(an, .inl (y 0, 76, .inl fan)), (mo, .inr (11, [.ref to, .ref ke, .ref ik, .ref mrf, .long mab, .long mbl, .ref ha, .ref r0, .ref mbr, .ref mbp, .ref mby, .int (nI bl), .int (nI (ks_S fmb bl e)), .int (nI (ks_L fmb bl e)), .int (nI (ks_K fmb bl e)), .int v6, .ref an, .ref va])), (mby, .inl (y 0, 150, .inl fmb)), (va, .inl (y 0, 2, .inl (fva)))] H := hP
      have hD : va_D A [(an, .inl (y 0, 76, .inl fan)), (mo, .inr (11, [.ref to, .ref ke, .ref ik, .ref mrf, .long mab, .long mbl, .ref ha, .ref r0, .ref mbr, .ref mbp, .ref mby, .int (nI bl), .int (nI (ks_S fmb bl e)), .int (nI (ks_L fmb bl e)), .int (nI (ks_K fmb bl e)), .int v6, .ref an, .ref va])), (mby, .inl (y 0, 150, .inl fmb)), (va, .inl (y 0, 2, .inl (fva)))] := hD
      refine lv_if_eq (tgt := 38) hx hb dX11_takesField_24 (by decide) (fun _ => ?_) (fun h9 => absurd h9 (by decide))
      refine lv_iconst (v := 0) hx hb dX11_takesField_38 (by decide) ?_
      exact W.zret (v := 0) hx hb hr (by decide) (fun tZ ht hW => ⟨⟨0, (ks_S fmb bl e, ks_L fmb bl e, ks_K fmb bl e, v6, (fva), fan, afi), rfl, ⟨by first | omega | (dsimp only; omega), by first | omega | (dsimp only; omega), by first | omega | (dsimp only; omega), hkan, by first | omega | (dsimp only; omega), ha0_, ha1_, ha2_, ha3_, ha4_, ha21_, Or.inl rfl, by first | omega | (dsimp only; omega), by first | omega | (dsimp only; omega), (fun _ => ks_fldA (by first | omega | (dsimp only; omega)) (kz_no_nm h26)), (fun h9 => absurd h9 (by decide))⟩, by rw [ht]; exact hP.sub [1, 2, 3, 0] rfl, hD.sub [1, 2, 3, 0] (by decide) rfl⟩, hS.F ht⟩) hS.2.2 dX11_takesField_39
    · skip
      have hP : va_P D vwCl [(an, .inl (y 0, 76, .inl fan)), (mo, .inr (11, [.ref to, .ref ke, .ref ik, .ref mrf, .long mab, .long mbl, .ref ha, .ref r0, .ref mbr, .ref mbp, .ref mby, .int (nI bl), .int (nI v15), .int (nI v16), .int (nI v17), .int v18, .ref an, .ref va])), (mby, .inl (y 0, 150, .inl fmb)), (va, .inl (y 0, 2, .inl v19))] H := hP
      have hD : va_D A [(an, .inl (y 0, 76, .inl fan)), (mo, .inr (11, [.ref to, .ref ke, .ref ik, .ref mrf, .long mab, .long mbl, .ref ha, .ref r0, .ref mbr, .ref mbp, .ref mby, .int (nI bl), .int (nI v15), .int (nI v16), .int (nI v17), .int v18, .ref an, .ref va])), (mby, .inl (y 0, 150, .inl fmb)), (va, .inl (y 0, 2, .inl v19))] := hD
      have h23 : (ks_K fmb bl e) = 2 ∧ 0 ≤ (ks_V fmb bl e) ∧ (ks_V fmb bl e) ≤ 5 ∧ v19 = upd fva 0 (nI (ks_V fmb bl e)) ∧ v15 = ks_S fmb bl (ks_E fmb bl e) ∧ v16 = ks_L fmb bl (ks_E fmb bl e) ∧ v17 = ks_K fmb bl (ks_E fmb bl e) ∧ kz_N fmb bl (ks_E fmb bl e) v18 := h23 rfl
      obtain ⟨h32, h33, h34, h35, h36, h37, h38, h39⟩ := h23
      have h35 := h35.symm
      subst h35
      have h36 := h36.symm
      subst h36
      have h37 := h37.symm
      subst h37
      have h38 := h38.symm
      subst h38
      have hk40 := ks_SL (f := fmb) (n := bl) (p := ks_E fmb bl e) (by omega)
      have hk41 := ks_K4 fmb bl (ks_E fmb bl e)
      have hk42 := ks_S_le (f := fmb) (n := bl) (p := ks_E fmb bl e) (by omega)
      have hk43 : (upd fva 0 (nI (ks_V fmb bl e))) 0 = (nI (ks_V fmb bl e)) := pk_us
      have hP : va_P D vwCl [(an, .inl (y 0, 76, .inl fan)), (mo, .inr (11, [.ref to, .ref ke, .ref ik, .ref mrf, .long mab, .long mbl, .ref ha, .ref r0, .ref mbr, .ref mbp, .ref mby, .int (nI bl), .int (nI (ks_S fmb bl (ks_E fmb bl e))), .int (nI (ks_L fmb bl (ks_E fmb bl e))), .int (nI (ks_K fmb bl (ks_E fmb bl e))), .int v18, .ref an, .ref va])), (mby, .inl (y 0, 150, .inl fmb)), (va, .inl (y 0, 2, .inl (upd fva 0 (nI (ks_V fmb bl e)))))] H := hP
      have hD : va_D A [(an, .inl (y 0, 76, .inl fan)), (mo, .inr (11, [.ref to, .ref ke, .ref ik, .ref mrf, .long mab, .long mbl, .ref ha, .ref r0, .ref mbr, .ref mbp, .ref mby, .int (nI bl), .int (nI (ks_S fmb bl (ks_E fmb bl e))), .int (nI (ks_L fmb bl (ks_E fmb bl e))), .int (nI (ks_K fmb bl (ks_E fmb bl e))), .int v18, .ref an, .ref va])), (mby, .inl (y 0, 150, .inl fmb)), (va, .inl (y 0, 2, .inl (upd fva 0 (nI (ks_V fmb bl e)))))] := hD
      refine lv_if_eq (tgt := 38) hx hb dX11_takesField_24 (by decide) (fun h9 => absurd h9 (by decide)) (fun _ => ?_)
      refine lv_aload_n hx hb dX11_takesField_27 rfl (lv_at hl 0 rfl) ?_
      refine lv_iconst (v := 1) hx hb dX11_takesField_28 (by decide) ?_
      refine lv_iconst (v := 0) hx hb dX11_takesField_29 (by decide) ?_
      refine lv_bipush (v := 60) hx hb dX11_takesField_30 (by decide) ?_
      have hs44 : kw_Split [(an, .inl (y 0, 76, .inl fan)), (mo, .inr (11, [.ref to, .ref ke, .ref ik, .ref mrf, .long mab, .long mbl, .ref ha, .ref r0, .ref mbr, .ref mbp, .ref mby, .int (nI bl), .int (nI (ks_S fmb bl (ks_E fmb bl e))), .int (nI (ks_L fmb bl (ks_E fmb bl e))), .int (nI (ks_K fmb bl (ks_E fmb bl e))), .int v18, .ref an, .ref va])), (mby, .inl (y 0, 150, .inl fmb)), (va, .inl (y 0, 2, .inl (upd fva 0 (nI (ks_V fmb bl e)))))] [(mo, .inr (11, [.ref to, .ref ke, .ref ik, .ref mrf, .long mab, .long mbl, .ref ha, .ref r0, .ref mbr, .ref mbp, .ref mby, .int (nI bl), .int (nI (ks_S fmb bl (ks_E fmb bl e))), .int (nI (ks_L fmb bl (ks_E fmb bl e))), .int (nI (ks_K fmb bl (ks_E fmb bl e))), .int v18, .ref an, .ref va])), (mby, .inl (y 0, 150, .inl fmb)), (va, .inl (y 0, 2, .inl (upd fva 0 (nI (ks_V fmb bl e)))))] [(an, .inl (y 0, 76, .inl fan))] [1, 2, 3] [0] := ⟨rfl, rfl, rfl, rfl, rfl, by decide⟩
      refine kw_go_i hs44 hP hD hS hA (va_runV (As := [.int 1, .int 0, .int 60]) (rest := []) ⟨hx, hb, hml, hown, hts⟩ (gr_Mt60 l D y mo to ke ik mrf ha r0 mbr mbp mby an va mab mbl bl (ks_S fmb bl (ks_E fmb bl e)) (ks_L fmb bl (ks_E fmb bl e)) (ks_K fmb bl (ks_E fmb bl e)) v18 fmb (upd fva 0 (nI (ks_V fmb bl e))) (ks_E fmb bl (ks_E fmb bl e)) (ks_V fmb bl (ks_E fmb bl e)) hbl (by omega) (by omega) (by omega) h39 _) (cwV 3 hts gX11_takesField_X11_takes rfl rfl rfl (by decide +kernel) ⟨Nat.le_of_ble_eq_true rfl, Nat.le_of_ble_eq_true rfl⟩) (kw_PreV (ci := 11) (q0 := 1) hs44 hP hD hK hN rfl rfl) rfl rfl hl.1 rfl (lv_room (Nat.le_of_ble_eq_true rfl)) dX11_takesField_32 ⟨Nat.le_of_ble_eq_true rfl, Nat.le_of_ble_eq_true rfl⟩) (fun r45 u46 H locs hq hP hD hS => ?_)
      obtain ⟨v47, v48, v49, v50, v51⟩ := u46
      try dsimp only at hq
      obtain ⟨h52, h53, h54, (rfl | rfl), h55, h56, h57⟩ := hq
      · skip
        have hP : va_P D vwCl [(an, .inl (y 0, 76, .inl fan)), (mo, .inr (11, [.ref to, .ref ke, .ref ik, .ref mrf, .long mab, .long mbl, .ref ha, .ref r0, .ref mbr, .ref mbp, .ref mby, .int (nI bl), .int (nI v47), .int (nI v48), .int (nI v49), .int v50, .ref an, .ref va])), (mby, .inl (y 0, 150, .inl fmb)), (va, .inl (y 0, 2, .inl v51))] H := hP
        have hD : va_D A [(an, .inl (y 0, 76, .inl fan)), (mo, .inr (11, [.ref to, .ref ke, .ref ik, .ref mrf, .long mab, .long mbl, .ref ha, .ref r0, .ref mbr, .ref mbp, .ref mby, .int (nI bl), .int (nI v47), .int (nI v48), .int (nI v49), .int v50, .ref an, .ref va])), (mby, .inl (y 0, 150, .inl fmb)), (va, .inl (y 0, 2, .inl v51))] := hD
        have h56 : kz_no (ks_K fmb bl (ks_E fmb bl e)) 0 60 (ks_V fmb bl (ks_E fmb bl e)) ∧ v51 = (upd fva 0 (nI (ks_V fmb bl e))) ∧ v47 = (ks_S fmb bl (ks_E fmb bl e)) ∧ v48 = (ks_L fmb bl (ks_E fmb bl e)) ∧ v49 = (ks_K fmb bl (ks_E fmb bl e)) ∧ v50 = v18 := h56 rfl
        obtain ⟨h58, h59, h60, h61, h62, h63⟩ := h56
        have h59 := h59.symm
        subst h59
        have h60 := h60.symm
        subst h60
        have h61 := h61.symm
        subst h61
        have h62 := h62.symm
        subst h62
        have h63 := h63.symm
        subst h63
        have hP : va_P D vwCl [(an, .inl (y 0, 76, .inl fan)), (mo, .inr (11, [.ref to, .ref ke, .ref ik, .ref mrf, .long mab, .long mbl, .ref ha, .ref r0, .ref mbr, .ref mbp, .ref mby, .int (nI bl), .int (nI (ks_S fmb bl (ks_E fmb bl e))), .int (nI (ks_L fmb bl (ks_E fmb bl e))), .int (nI (ks_K fmb bl (ks_E fmb bl e))), .int v18, .ref an, .ref va])), (mby, .inl (y 0, 150, .inl fmb)), (va, .inl (y 0, 2, .inl (upd fva 0 (nI (ks_V fmb bl e)))))] H := hP
        have hD : va_D A [(an, .inl (y 0, 76, .inl fan)), (mo, .inr (11, [.ref to, .ref ke, .ref ik, .ref mrf, .long mab, .long mbl, .ref ha, .ref r0, .ref mbr, .ref mbp, .ref mby, .int (nI bl), .int (nI (ks_S fmb bl (ks_E fmb bl e))), .int (nI (ks_L fmb bl (ks_E fmb bl e))), .int (nI (ks_K fmb bl (ks_E fmb bl e))), .int v18, .ref an, .ref va])), (mby, .inl (y 0, 150, .inl fmb)), (va, .inl (y 0, 2, .inl (upd fva 0 (nI (ks_V fmb bl e)))))] := hD
        refine lv_if_ne (tgt := 40) hx hb dX11_takesField_35 (by decide) (fun h9 => absurd h9 (by decide)) (fun _ => ?_)
        refine lv_iconst (v := 0) hx hb dX11_takesField_38 (by decide) ?_
        exact W.zret (v := 0) hx hb hr (by decide) (fun tZ ht hW => ⟨⟨0, (ks_S fmb bl (ks_E fmb bl e), ks_L fmb bl (ks_E fmb bl e), ks_K fmb bl (ks_E fmb bl e), v18, (upd fva 0 (nI (ks_V fmb bl e))), fan, afi), rfl, ⟨by first | omega | (dsimp only; omega), by first | omega | (dsimp only; omega), by first | omega | (dsimp only; omega), hkan, by first | omega | (dsimp only; omega), ha0_, ha1_, ha2_, ha3_, ha4_, ha21_, Or.inl rfl, by first | omega | (dsimp only; omega), by first | omega | (dsimp only; omega), (fun _ => ks_fldB (by first | omega | (dsimp only; omega)) (ks_nm_mk h32 (by first | omega | (dsimp only; omega)) (by first | omega | (dsimp only; omega))) (kz_no_nm h58)), (fun h9 => absurd h9 (by decide))⟩, by rw [ht]; exact hP.sub [1, 2, 3, 0] rfl, hD.sub [1, 2, 3, 0] (by decide) rfl⟩, hS.F ht⟩) hS.2.2 dX11_takesField_39
      · skip
        have hP : va_P D vwCl [(an, .inl (y 0, 76, .inl fan)), (mo, .inr (11, [.ref to, .ref ke, .ref ik, .ref mrf, .long mab, .long mbl, .ref ha, .ref r0, .ref mbr, .ref mbp, .ref mby, .int (nI bl), .int (nI v47), .int (nI v48), .int (nI v49), .int v50, .ref an, .ref va])), (mby, .inl (y 0, 150, .inl fmb)), (va, .inl (y 0, 2, .inl v51))] H := hP
        have hD : va_D A [(an, .inl (y 0, 76, .inl fan)), (mo, .inr (11, [.ref to, .ref ke, .ref ik, .ref mrf, .long mab, .long mbl, .ref ha, .ref r0, .ref mbr, .ref mbp, .ref mby, .int (nI bl), .int (nI v47), .int (nI v48), .int (nI v49), .int v50, .ref an, .ref va])), (mby, .inl (y 0, 150, .inl fmb)), (va, .inl (y 0, 2, .inl v51))] := hD
        have h55 : (ks_K fmb bl (ks_E fmb bl e)) = 2 ∧ 0 ≤ (ks_V fmb bl (ks_E fmb bl e)) ∧ (ks_V fmb bl (ks_E fmb bl e)) ≤ 60 ∧ v51 = upd (upd fva 0 (nI (ks_V fmb bl e))) 1 (nI (ks_V fmb bl (ks_E fmb bl e))) ∧ v47 = ks_S fmb bl (ks_E fmb bl (ks_E fmb bl e)) ∧ v48 = ks_L fmb bl (ks_E fmb bl (ks_E fmb bl e)) ∧ v49 = ks_K fmb bl (ks_E fmb bl (ks_E fmb bl e)) ∧ kz_N fmb bl (ks_E fmb bl (ks_E fmb bl e)) v50 := h55 rfl
        obtain ⟨h64, h65, h66, h67, h68, h69, h70, h71⟩ := h55
        have h67 := h67.symm
        subst h67
        have h68 := h68.symm
        subst h68
        have h69 := h69.symm
        subst h69
        have h70 := h70.symm
        subst h70
        have hk72 := ks_SL (f := fmb) (n := bl) (p := ks_E fmb bl (ks_E fmb bl e)) (by omega)
        have hk73 := ks_K4 fmb bl (ks_E fmb bl (ks_E fmb bl e))
        have hk74 := ks_S_le (f := fmb) (n := bl) (p := ks_E fmb bl (ks_E fmb bl e)) (by omega)
        have hk75 : (upd (upd fva 0 (nI (ks_V fmb bl e))) 1 (nI (ks_V fmb bl (ks_E fmb bl e)))) 1 = (nI (ks_V fmb bl (ks_E fmb bl e))) := pk_us
        have hk76 : (upd (upd fva 0 (nI (ks_V fmb bl e))) 1 (nI (ks_V fmb bl (ks_E fmb bl e)))) 0 = (nI (ks_V fmb bl e)) := (pk_un (by decide)).trans pk_us
        have hP : va_P D vwCl [(an, .inl (y 0, 76, .inl fan)), (mo, .inr (11, [.ref to, .ref ke, .ref ik, .ref mrf, .long mab, .long mbl, .ref ha, .ref r0, .ref mbr, .ref mbp, .ref mby, .int (nI bl), .int (nI (ks_S fmb bl (ks_E fmb bl (ks_E fmb bl e)))), .int (nI (ks_L fmb bl (ks_E fmb bl (ks_E fmb bl e)))), .int (nI (ks_K fmb bl (ks_E fmb bl (ks_E fmb bl e)))), .int v50, .ref an, .ref va])), (mby, .inl (y 0, 150, .inl fmb)), (va, .inl (y 0, 2, .inl (upd (upd fva 0 (nI (ks_V fmb bl e))) 1 (nI (ks_V fmb bl (ks_E fmb bl e))))))] H := hP
        have hD : va_D A [(an, .inl (y 0, 76, .inl fan)), (mo, .inr (11, [.ref to, .ref ke, .ref ik, .ref mrf, .long mab, .long mbl, .ref ha, .ref r0, .ref mbr, .ref mbp, .ref mby, .int (nI bl), .int (nI (ks_S fmb bl (ks_E fmb bl (ks_E fmb bl e)))), .int (nI (ks_L fmb bl (ks_E fmb bl (ks_E fmb bl e)))), .int (nI (ks_K fmb bl (ks_E fmb bl (ks_E fmb bl e)))), .int v50, .ref an, .ref va])), (mby, .inl (y 0, 150, .inl fmb)), (va, .inl (y 0, 2, .inl (upd (upd fva 0 (nI (ks_V fmb bl e))) 1 (nI (ks_V fmb bl (ks_E fmb bl e))))))] := hD
        refine lv_if_ne (tgt := 40) hx hb dX11_takesField_35 (by decide) (fun _ => ?_) (fun h9 => absurd h9 (by decide))
        refine lv_aload_n hx hb dX11_takesField_40 rfl (lv_at hl 0 rfl) ?_
        refine va_get (D := D) (ci := 11) (v := .ref an) (C := RX11) (T := TX11) (N := 18) hx hb hts iw11 hown hK hP 1 rfl rfl 16 (by decide) fw1 (fun _ h9 => h9) rfl dX11_takesField_41 ?_
        refine lv_aload_n hx hb dX11_takesField_44 rfl (lv_at hl 0 rfl) ?_
        refine va_get (D := D) (ci := 11) (v := .ref va) (C := RX11) (T := TX11) (N := 18) hx hb hts iw11 hown hK hP 1 rfl rfl 17 (by decide) fw2 (fun _ h9 => h9) rfl dX11_takesField_45 ?_
        refine lv_iconst (v := 0) hx hb dX11_takesField_48 (by decide) ?_
        refine va_iald hx hb hK hP 3 0 rfl rfl (by unfold vp_in; decide) dX11_takesField_49 ?_
        rw [show ((0 : Int32)).toNatClampNeg = 0 from rfl]
        rw [show ((upd (upd fva 0 (nI (ks_V fmb bl e))) 1 (nI (ks_V fmb bl (ks_E fmb bl e)))) 0) = (nI (ks_V fmb bl e)) from hk76]
        refine lv_aload_n hx hb dX11_takesField_50 rfl (lv_at hl 0 rfl) ?_
        refine va_get (D := D) (ci := 11) (v := .ref va) (C := RX11) (T := TX11) (N := 18) hx hb hts iw11 hown hK hP 1 rfl rfl 17 (by decide) fw2 (fun _ h9 => h9) rfl dX11_takesField_51 ?_
        refine lv_iconst (v := 1) hx hb dX11_takesField_54 (by decide) ?_
        refine va_iald hx hb hK hP 3 0 rfl rfl (by unfold vp_in; decide) dX11_takesField_55 ?_
        rw [show ((1 : Int32)).toNatClampNeg = 1 from rfl]
        rw [show ((upd (upd fva 0 (nI (ks_V fmb bl e))) 1 (nI (ks_V fmb bl (ks_E fmb bl e)))) 1) = (nI (ks_V fmb bl (ks_E fmb bl e))) from hk75]
        have hs77 : kw_Split [(an, .inl (y 0, 76, .inl fan)), (mo, .inr (11, [.ref to, .ref ke, .ref ik, .ref mrf, .long mab, .long mbl, .ref ha, .ref r0, .ref mbr, .ref mbp, .ref mby, .int (nI bl), .int (nI (ks_S fmb bl (ks_E fmb bl (ks_E fmb bl e)))), .int (nI (ks_L fmb bl (ks_E fmb bl (ks_E fmb bl e)))), .int (nI (ks_K fmb bl (ks_E fmb bl (ks_E fmb bl e)))), .int v50, .ref an, .ref va])), (mby, .inl (y 0, 150, .inl fmb)), (va, .inl (y 0, 2, .inl (upd (upd fva 0 (nI (ks_V fmb bl e))) 1 (nI (ks_V fmb bl (ks_E fmb bl e))))))] [(an, .inl (y 0, 76, .inl fan))] [(mo, .inr (11, [.ref to, .ref ke, .ref ik, .ref mrf, .long mab, .long mbl, .ref ha, .ref r0, .ref mbr, .ref mbp, .ref mby, .int (nI bl), .int (nI (ks_S fmb bl (ks_E fmb bl (ks_E fmb bl e)))), .int (nI (ks_L fmb bl (ks_E fmb bl (ks_E fmb bl e)))), .int (nI (ks_K fmb bl (ks_E fmb bl (ks_E fmb bl e)))), .int v50, .ref an, .ref va])), (mby, .inl (y 0, 150, .inl fmb)), (va, .inl (y 0, 2, .inl (upd (upd fva 0 (nI (ks_V fmb bl e))) 1 (nI (ks_V fmb bl (ks_E fmb bl e))))))] [0] [1, 2, 3] := ⟨rfl, rfl, rfl, rfl, rfl, by decide⟩
        refine kw_go_v hs77 hP hD hS hA (va_runS (As := [.ref an, .int (nI (ks_V fmb bl e)), .int (nI (ks_V fmb bl (ks_E fmb bl e)))]) (rest := []) ⟨hx, hb, hml, hown, hts⟩ (gr_MlayField l D y an fan afi agl ami ano aun asp (nI (ks_V fmb bl e)) (nI (ks_V fmb bl (ks_E fmb bl e))) ha0_ ha1_ ha2_ ha3_ ha4_ ha21_ hkan hB0 hB1 hB2 hB3 hB4 hB5 (by omega) _) (va_cwS 3 hts gX11_takesField_X11_layField rfl rfl rfl (by decide +kernel) ⟨Nat.le_of_ble_eq_true rfl, Nat.le_of_ble_eq_true rfl⟩) (kw_PreS hs77 hP hD hK hN) rfl rfl hl.1 rfl (lv_room (Nat.le_of_ble_eq_true rfl)) dX11_takesField_56 ⟨Nat.le_of_ble_eq_true rfl, Nat.le_of_ble_eq_true rfl⟩) (fun u79 H locs hq hP hD hS => ?_)
        obtain ⟨h80, h81, h82, h83, h84, h85, h86⟩ := hq
        have hP : va_P D vwCl [(mo, .inr (11, [.ref to, .ref ke, .ref ik, .ref mrf, .long mab, .long mbl, .ref ha, .ref r0, .ref mbr, .ref mbp, .ref mby, .int (nI bl), .int (nI (ks_S fmb bl (ks_E fmb bl (ks_E fmb bl e)))), .int (nI (ks_L fmb bl (ks_E fmb bl (ks_E fmb bl e)))), .int (nI (ks_K fmb bl (ks_E fmb bl (ks_E fmb bl e)))), .int v50, .ref an, .ref va])), (mby, .inl (y 0, 150, .inl fmb)), (va, .inl (y 0, 2, .inl (upd (upd fva 0 (nI (ks_V fmb bl e))) 1 (nI (ks_V fmb bl (ks_E fmb bl e)))))), (an, .inl (y 0, 76, .inl (upd (upd (upd fan (afi + 24) (nI (ks_V fmb bl e))) (afi + 5) (nI (ks_V fmb bl (ks_E fmb bl e)))) 0 (nI (afi + 1)))))] H := hP
        have hD : va_D A [(mo, .inr (11, [.ref to, .ref ke, .ref ik, .ref mrf, .long mab, .long mbl, .ref ha, .ref r0, .ref mbr, .ref mbp, .ref mby, .int (nI bl), .int (nI (ks_S fmb bl (ks_E fmb bl (ks_E fmb bl e)))), .int (nI (ks_L fmb bl (ks_E fmb bl (ks_E fmb bl e)))), .int (nI (ks_K fmb bl (ks_E fmb bl (ks_E fmb bl e)))), .int v50, .ref an, .ref va])), (mby, .inl (y 0, 150, .inl fmb)), (va, .inl (y 0, 2, .inl (upd (upd fva 0 (nI (ks_V fmb bl e))) 1 (nI (ks_V fmb bl (ks_E fmb bl e)))))), (an, .inl (y 0, 76, .inl (upd (upd (upd fan (afi + 24) (nI (ks_V fmb bl e))) (afi + 5) (nI (ks_V fmb bl (ks_E fmb bl e)))) 0 (nI (afi + 1)))))] := hD
        refine lv_iconst (v := 1) hx hb dX11_takesField_59 (by decide) ?_
        exact W.zret (v := 1) hx hb hr (by decide) (fun tZ ht hW => ⟨⟨1, (ks_S fmb bl (ks_E fmb bl (ks_E fmb bl e)), ks_L fmb bl (ks_E fmb bl (ks_E fmb bl e)), ks_K fmb bl (ks_E fmb bl (ks_E fmb bl e)), v50, (upd (upd fva 0 (nI (ks_V fmb bl e))) 1 (nI (ks_V fmb bl (ks_E fmb bl e)))), (upd (upd (upd fan (afi + 24) (nI (ks_V fmb bl e))) (afi + 5) (nI (ks_V fmb bl (ks_E fmb bl e)))) 0 (nI (afi + 1))), afi + 1), rfl, ⟨by first | omega | (dsimp only; omega), by first | omega | (dsimp only; omega), by first | omega | (dsimp only; omega), h80, by first | omega | (dsimp only; omega), h81, h82, h83, h84, h85, h86, Or.inr rfl, by first | omega | (dsimp only; omega), by first | omega | (dsimp only; omega), (fun h9 => absurd h9 (by decide)), (fun _ => kz_go.mk (ks_fldC (by first | omega | (dsimp only; omega)) (ks_nm_mk h32 (by first | omega | (dsimp only; omega)) (by first | omega | (dsimp only; omega))) (ks_nm_mk h64 (by first | omega | (dsimp only; omega)) (by first | omega | (dsimp only; omega)))) (by first | omega | (dsimp only; omega)) (by first | omega | (dsimp only; omega)) h71 (kz_ka_f hkd (by first | omega | (dsimp only; omega))))⟩, by rw [ht]; exact hP.sub [0, 1, 2, 3] rfl, hD.sub [0, 1, 2, 3] (by decide) rfl⟩, hS.F ht⟩) hS.2.2 dX11_takesField_60
  · skip
    have h2 : afi = 6 := (nI_eq (a := afi) (b := 6) (by omega) (by omega)).mp h2
    refine lv_iconst (v := 0) hx hb dX11_takesField_11 (by decide) ?_
    exact W.zret (v := 0) hx hb hr (by decide) (fun tZ ht hW => ⟨⟨0, (ta, tl, tk, vv, fva, fan, afi), rfl, ⟨by first | omega | (dsimp only; omega), by first | omega | (dsimp only; omega), by first | omega | (dsimp only; omega), hkan, by first | omega | (dsimp only; omega), ha0_, ha1_, ha2_, ha3_, ha4_, ha21_, Or.inl rfl, by first | omega | (dsimp only; omega), by first | omega | (dsimp only; omega), (fun _ => ks_fld6 (by first | omega | (dsimp only; omega))), (fun h9 => absurd h9 (by decide))⟩, by rw [ht]; exact hP.sub [0, 1, 2, 3] rfl, hD.sub [0, 1, 2, 3] (by decide) rfl⟩, hS.F ht⟩) hS.2.2 dX11_takesField_12

set_option maxHeartbeats 4000000 in
set_option maxRecDepth 100000 in
theorem gr_MtakesGleaner (l : Launch) (D : va_G) (y : Nat → ClassId) (mo : Nat) (to : Nat) (ke : Nat) (ik : Nat) (mrf : Nat) (ha : Nat) (r0 : Nat) (mbr : Nat) (mbp : Nat) (mby : Nat) (an : Nat) (va : Nat) (mab : Int64) (mbl : Int64) (bl : Nat) (ta : Nat) (tl : Nat) (tk : Nat) (vv : Int32) (fmb : Nat → Int32) (fva : Nat → Int32) (fan : Nat → Int32) (afi : Nat) (agl : Nat) (ami : Nat) (ano : Nat) (aun : Nat) (asp : Nat) (e : Nat) (kd : Nat → Int32) (hbl : bl ≤ 150) (he : ta + tl = e) (heb : e ≤ bl) (htk : tk ≤ 4) (ha0_ : fan 0 = (nI afi)) (ha1_ : fan 1 = (nI agl)) (ha2_ : fan 2 = (nI ami)) (ha3_ : fan 3 = (nI ano)) (ha4_ : fan 4 = (nI aun)) (ha21_ : fan 21 = (nI asp)) (hkan : kr_t 76 fan) (hB0 : afi ≤ 6) (hB1 : agl ≤ 5) (hB2 : ami ≤ 4) (hB3 : ano ≤ 6) (hB4 : aun ≤ 8) (hB5 : asp ≤ 12) (hagf : (agl = 0 ∨ 0 < afi)) (hkd : kz_ka fan afi kd) : kw_Mi l yX11_takesGleaner wsX11_takesGleaner ({ frames := 6, cells := 0, slots := 0, locals := 172 }) D y [.ref mo] [(mo, .inr (11, [.ref to, .ref ke, .ref ik, .ref mrf, .long mab, .long mbl, .ref ha, .ref r0, .ref mbr, .ref mbp, .ref mby, .int (nI bl), .int (nI ta), .int (nI tl), .int (nI tk), .int vv, .ref an, .ref va])), (mby, .inl (y 0, 150, .inl fmb)), (va, .inl (y 0, 2, .inl fva)), (an, .inl (y 0, 76, .inl fan))] (fun (r : Int32) (u : Nat × Nat × Nat × Int32 × (Nat → Int32) × (Nat → Int32) × Nat) => u.1 ≤ bl ∧ u.2.1 ≤ 150 ∧ u.2.2.1 ≤ 4 ∧ kr_t 76 u.2.2.2.2.2.1 ∧ u.2.2.2.2.2.1 0 = (nI afi) ∧ u.2.2.2.2.2.2 ≤ 5 ∧ u.2.2.2.2.2.1 1 = (nI u.2.2.2.2.2.2) ∧ u.2.2.2.2.2.1 2 = (nI ami) ∧ u.2.2.2.2.2.1 3 = (nI ano) ∧ u.2.2.2.2.2.1 4 = (nI aun) ∧ u.2.2.2.2.2.1 21 = (nI asp) ∧ (r = 0 ∨ r = 1) ∧ u.1 + u.2.1 ≤ bl ∧ (u.2.2.2.2.2.2 = 0 ∨ 0 < afi) ∧ (r = 0 → ks_glr fmb bl ta e afi agl (12 - asp) kd = ks_flt u.1) ∧ (r = 1 → kz_go fmb bl e (ks_glr fmb bl ta e afi agl (12 - asp) kd) u.1 u.2.1 u.2.2.1 u.2.2.2.1 afi u.2.2.2.2.2.2 (12 - asp) u.2.2.2.2.2.1)) (fun u => [(mo, .inr (11, [.ref to, .ref ke, .ref ik, .ref mrf, .long mab, .long mbl, .ref ha, .ref r0, .ref mbr, .ref mbp, .ref mby, .int (nI bl), .int (nI u.1), .int (nI u.2.1), .int (nI u.2.2.1), .int u.2.2.2.1, .ref an, .ref va])), (mby, .inl (y 0, 150, .inl fmb)), (va, .inl (y 0, 2, .inl u.2.2.2.2.1)), (an, .inl (y 0, 76, .inl u.2.2.2.2.2.1))]) 0 0 := by
  refine kw_Mi.of (cc := cX11_takesGleaner) (maxL := 1) (ret := (some .boolean)) (by decide) rfl ?_
  intro pZ eZ s mZ beZ meZ cZ A hE
  obtain ⟨hx, hb, hr, hml, hts, hown, hlocks, hin, hA, hP, hD, hK, hN⟩ := hE
  have hS : va_S A s.heap s.heap [] := va_S.rf
  have hl := lv_entry ([.ref mo]) (n := 1) (Nat.le_of_ble_eq_true rfl)
  rw [lg_entry_eq]
  generalize (lg_sl ([.ref mo]) ++ List.replicate (1 - (lg_sl ([.ref mo])).length) Slot.unset).toArray = ls at hl ⊢
  have hl : lv_has ls 1 [(0, .ref mo)] := hl
  have fw1 := hts (.fieldLink RX11 42 "GleanDuskModel" "anew" "[I") (List.mem_of_getElem? (i := 1) rfl)
  have fw2 := hts (.fieldLink RX11 45 "GleanDuskModel" "values" "[I") (List.mem_of_getElem? (i := 2) rfl)
  have iw11 : ∀ w ∈ wsX110, w ∈ wsX11_takesGleaner := fun _ h => List.mem_cons_of_mem _ (List.mem_append_right _ h)
  refine lv_aload_n hx hb dX11_takesGleaner_0 rfl (lv_at hl 0 rfl) ?_
  refine va_get (D := D) (ci := 11) (v := .ref an) (C := RX11) (T := TX11) (N := 18) hx hb hts iw11 hown hK hP 0 rfl rfl 16 (by decide) fw1 (fun _ h9 => h9) rfl dX11_takesGleaner_1 ?_
  refine lv_iconst (v := 1) hx hb dX11_takesGleaner_4 (by decide) ?_
  refine va_iald hx hb hK hP 3 0 rfl rfl (by unfold vp_in; decide) dX11_takesGleaner_5 ?_
  rw [show ((1 : Int32)).toNatClampNeg = 1 from rfl]
  rw [show (fan 1) = (nI agl) from ha1_]
  refine lv_iconst (v := 5) hx hb dX11_takesGleaner_6 (by decide) ?_
  refine lv_icmp_ne (tgt := 12) hx hb dX11_takesGleaner_7 (by decide) (fun h1 => ?_) (fun h2 => ?_)
  · skip
    have h1 : ¬ agl = 5 := fun q9 => h1 ((nI_eq (a := agl) (b := 5) (by omega) (by omega)).mpr q9)
    refine lv_aload_n hx hb dX11_takesGleaner_12 rfl (lv_at hl 0 rfl) ?_
    have hs3 : kw_Split [(mo, .inr (11, [.ref to, .ref ke, .ref ik, .ref mrf, .long mab, .long mbl, .ref ha, .ref r0, .ref mbr, .ref mbp, .ref mby, .int (nI bl), .int (nI ta), .int (nI tl), .int (nI tk), .int vv, .ref an, .ref va])), (mby, .inl (y 0, 150, .inl fmb)), (va, .inl (y 0, 2, .inl fva)), (an, .inl (y 0, 76, .inl fan))] [(mo, .inr (11, [.ref to, .ref ke, .ref ik, .ref mrf, .long mab, .long mbl, .ref ha, .ref r0, .ref mbr, .ref mbp, .ref mby, .int (nI bl), .int (nI ta), .int (nI tl), .int (nI tk), .int vv, .ref an, .ref va])), (mby, .inl (y 0, 150, .inl fmb))] [(va, .inl (y 0, 2, .inl fva)), (an, .inl (y 0, 76, .inl fan))] [0, 1] [2, 3] := ⟨rfl, rfl, rfl, rfl, rfl, by decide⟩
    refine kw_go_v hs3 hP hD hS hA (va_runV (As := []) (rest := []) ⟨hx, hb, hml, hown, hts⟩ (gr_Mgo l D y mo to ke ik mrf ha r0 mbr mbp mby an va mab mbl bl ta tl tk vv fmb e hbl he heb htk _) (cwV 0 hts gX11_takesGleaner_X11_goBehind rfl rfl rfl (by decide +kernel) ⟨Nat.le_of_ble_eq_true rfl, Nat.le_of_ble_eq_true rfl⟩) (kw_PreV (ci := 11) (q0 := 0) hs3 hP hD hK hN rfl rfl) rfl rfl hl.1 rfl (lv_room (Nat.le_of_ble_eq_true rfl)) dX11_takesGleaner_13 ⟨Nat.le_of_ble_eq_true rfl, Nat.le_of_ble_eq_true rfl⟩) (fun u5 H locs hq hP hD hS => ?_)
    obtain ⟨v6, rfl⟩ : ∃ z, z = u5 := ⟨_, rfl⟩
    try dsimp only at hq
    obtain ⟨h7, h8, h9, h10, h11⟩ := hq
    have hP : va_P D vwCl [(va, .inl (y 0, 2, .inl fva)), (an, .inl (y 0, 76, .inl fan)), (mo, .inr (11, [.ref to, .ref ke, .ref ik, .ref mrf, .long mab, .long mbl, .ref ha, .ref r0, .ref mbr, .ref mbp, .ref mby, .int (nI bl), .int (nI (ks_S fmb bl e)), .int (nI (ks_L fmb bl e)), .int (nI (ks_K fmb bl e)), .int v6, .ref an, .ref va])), (mby, .inl (y 0, 150, .inl fmb))] H := hP
    have hD : va_D A [(va, .inl (y 0, 2, .inl fva)), (an, .inl (y 0, 76, .inl fan)), (mo, .inr (11, [.ref to, .ref ke, .ref ik, .ref mrf, .long mab, .long mbl, .ref ha, .ref r0, .ref mbr, .ref mbp, .ref mby, .int (nI bl), .int (nI (ks_S fmb bl e)), .int (nI (ks_L fmb bl e)), .int (nI (ks_K fmb bl e)), .int v6, .ref an, .ref va])), (mby, .inl (y 0, 150, .inl fmb))] := hD
    refine lv_aload_n hx hb dX11_takesGleaner_16 rfl (lv_at hl 0 rfl) ?_
    refine lv_iconst (v := 0) hx hb dX11_takesGleaner_17 (by decide) ?_
    refine lv_iconst (v := 0) hx hb dX11_takesGleaner_18 (by decide) ?_
    refine lv_aload_n hx hb dX11_takesGleaner_19 rfl (lv_at hl 0 rfl) ?_
    refine va_get (D := D) (ci := 11) (v := .ref an) (C := RX11) (T := TX11) (N := 18) hx hb hts iw11 hown hK hP 2 rfl rfl 16 (by decide) fw1 (fun _ h9 => h9) rfl dX11_takesGleaner_20 ?_
    refine lv_iconst (v := 0) hx hb dX11_takesGleaner_23 (by decide) ?_
    refine va_iald hx hb hK hP 1 0 rfl rfl (by unfold vp_in; decide) dX11_takesGleaner_24 ?_
    rw [show ((0 : Int32)).toNatClampNeg = 0 from rfl]
    rw [show (fan 0) = (nI afi) from ha0_]
    refine lv_iconst (v := 1) hx hb dX11_takesGleaner_25 (by decide) ?_
    refine lv_isub hx hb dX11_takesGleaner_26 ?_
    have hs12 : kw_Split [(va, .inl (y 0, 2, .inl fva)), (an, .inl (y 0, 76, .inl fan)), (mo, .inr (11, [.ref to, .ref ke, .ref ik, .ref mrf, .long mab, .long mbl, .ref ha, .ref r0, .ref mbr, .ref mbp, .ref mby, .int (nI bl), .int (nI (ks_S fmb bl e)), .int (nI (ks_L fmb bl e)), .int (nI (ks_K fmb bl e)), .int v6, .ref an, .ref va])), (mby, .inl (y 0, 150, .inl fmb))] [(mo, .inr (11, [.ref to, .ref ke, .ref ik, .ref mrf, .long mab, .long mbl, .ref ha, .ref r0, .ref mbr, .ref mbp, .ref mby, .int (nI bl), .int (nI (ks_S fmb bl e)), .int (nI (ks_L fmb bl e)), .int (nI (ks_K fmb bl e)), .int v6, .ref an, .ref va])), (mby, .inl (y 0, 150, .inl fmb)), (va, .inl (y 0, 2, .inl fva))] [(an, .inl (y 0, 76, .inl fan))] [2, 3, 0] [1] := ⟨rfl, rfl, rfl, rfl, rfl, by decide⟩
    refine kw_go_i hs12 hP hD hS hA (va_runV (As := [.int 0, .int 0, .int ((nI afi) - 1)]) (rest := []) ⟨hx, hb, hml, hown, hts⟩ (gr_MtF l D y mo to ke ik mrf ha r0 mbr mbp mby an va mab mbl bl (ks_S fmb bl e) (ks_L fmb bl e) (ks_K fmb bl e) v6 fmb fva (ks_E fmb bl e) (ks_V fmb bl e) afi hbl (by omega) (by omega) (by omega) h11 (by omega) _) (cwV 3 hts gX11_takesGleaner_X11_takes rfl rfl rfl (by decide +kernel) ⟨Nat.le_of_ble_eq_true rfl, Nat.le_of_ble_eq_true rfl⟩) (kw_PreV (ci := 11) (q0 := 2) hs12 hP hD hK hN rfl rfl) rfl rfl hl.1 rfl (lv_room (Nat.le_of_ble_eq_true rfl)) dX11_takesGleaner_27 ⟨Nat.le_of_ble_eq_true rfl, Nat.le_of_ble_eq_true rfl⟩) (fun r13 u14 H locs hq hP hD hS => ?_)
    obtain ⟨v15, v16, v17, v18, v19⟩ := u14
    try dsimp only at hq
    obtain ⟨h20, h21, h22, (rfl | rfl), h23, h24, h25⟩ := hq
    · skip
      have hP : va_P D vwCl [(an, .inl (y 0, 76, .inl fan)), (mo, .inr (11, [.ref to, .ref ke, .ref ik, .ref mrf, .long mab, .long mbl, .ref ha, .ref r0, .ref mbr, .ref mbp, .ref mby, .int (nI bl), .int (nI v15), .int (nI v16), .int (nI v17), .int v18, .ref an, .ref va])), (mby, .inl (y 0, 150, .inl fmb)), (va, .inl (y 0, 2, .inl v19))] H := hP
      have hD : va_D A [(an, .inl (y 0, 76, .inl fan)), (mo, .inr (11, [.ref to, .ref ke, .ref ik, .ref mrf, .long mab, .long mbl, .ref ha, .ref r0, .ref mbr, .ref mbp, .ref mby, .int (nI bl), .int (nI v15), .int (nI v16), .int (nI v17), .int v18, .ref an, .ref va])), (mby, .inl (y 0, 150, .inl fmb)), (va, .inl (y 0, 2, .inl v19))] := hD
      have h24 : kz_nF (ks_K fmb bl e) afi (ks_V fmb bl e) ∧ v19 = fva ∧ v15 = (ks_S fmb bl e) ∧ v16 = (ks_L fmb bl e) ∧ v17 = (ks_K fmb bl e) ∧ v18 = v6 := h24 rfl
      obtain ⟨h26, h27, h28, h29, h30, h31⟩ := h24
      have h27 := h27.symm
      subst h27
      have h28 := h28.symm
      subst h28
      have h29 := h29.symm
      subst h29
      have h30 := h30.symm
      subst h30
      have h31 := h31.symm
      subst h31
      have hP : va_P D vwCl [(an, .inl (y 0, 76, .inl fan)), (mo, .inr (11, [.ref to, .ref ke, .ref ik, .ref mrf, .long mab, .long mbl, .ref ha, .ref r0, .ref mbr, .ref mbp, .ref mby, .int (nI bl), .int (nI (ks_S fmb bl e)), .int (nI (ks_L fmb bl e)), .int (nI (ks_K fmb bl e)), .int v6, .ref an, .ref va])), (mby, .inl (y 0, 150, .inl fmb)), (va, .inl (y 0, 2, .inl (fva)))] H := hP
      have hD : va_D A [(an, .inl (y 0, 76, .inl fan)), (mo, .inr (11, [.ref to, .ref ke, .ref ik, .ref mrf, .long mab, .long mbl, .ref ha, .ref r0, .ref mbr, .ref mbp, .ref mby, .int (nI bl), .int (nI (ks_S fmb bl e)), .int (nI (ks_L fmb bl e)), .int (nI (ks_K fmb bl e)), .int v6, .ref an, .ref va])), (mby, .inl (y 0, 150, .inl fmb)), (va, .inl (y 0, 2, .inl (fva)))] := hD
      refine lv_if_ne (tgt := 35) hx hb dX11_takesGleaner_30 (by decide) (fun h9 => absurd h9 (by decide)) (fun _ => ?_)
      refine lv_iconst (v := 0) hx hb dX11_takesGleaner_33 (by decide) ?_
      exact W.zret (v := 0) hx hb hr (by decide) (fun tZ ht hW => ⟨⟨0, (ks_S fmb bl e, ks_L fmb bl e, ks_K fmb bl e, v6, (fva), fan, agl), rfl, ⟨by first | omega | (dsimp only; omega), by first | omega | (dsimp only; omega), by first | omega | (dsimp only; omega), hkan, ha0_, by first | omega | (dsimp only; omega), ha1_, ha2_, ha3_, ha4_, ha21_, Or.inl rfl, by first | omega | (dsimp only; omega), by first | omega | (dsimp only; omega), (fun _ => by rcases (show afi = 0 ∨ 0 < afi by omega) with h8 | h8; exact ks_glrZ (by first | omega | (dsimp only; omega)) h8; exact ks_glrA (by first | omega | (dsimp only; omega)) (fun z => h26 ⟨(ks_nm_v z).1, by have := (ks_nm_v z).2.2; omega⟩)), (fun h9 => absurd h9 (by decide))⟩, by rw [ht]; exact hP.sub [1, 2, 3, 0] rfl, hD.sub [1, 2, 3, 0] (by decide) rfl⟩, hS.F ht⟩) hS.2.2 dX11_takesGleaner_34
    · skip
      have hP : va_P D vwCl [(an, .inl (y 0, 76, .inl fan)), (mo, .inr (11, [.ref to, .ref ke, .ref ik, .ref mrf, .long mab, .long mbl, .ref ha, .ref r0, .ref mbr, .ref mbp, .ref mby, .int (nI bl), .int (nI v15), .int (nI v16), .int (nI v17), .int v18, .ref an, .ref va])), (mby, .inl (y 0, 150, .inl fmb)), (va, .inl (y 0, 2, .inl v19))] H := hP
      have hD : va_D A [(an, .inl (y 0, 76, .inl fan)), (mo, .inr (11, [.ref to, .ref ke, .ref ik, .ref mrf, .long mab, .long mbl, .ref ha, .ref r0, .ref mbr, .ref mbp, .ref mby, .int (nI bl), .int (nI v15), .int (nI v16), .int (nI v17), .int v18, .ref an, .ref va])), (mby, .inl (y 0, 150, .inl fmb)), (va, .inl (y 0, 2, .inl v19))] := hD
      have h23 : (ks_K fmb bl e) = 2 ∧ (ks_V fmb bl e) < afi ∧ v19 = upd fva 0 (nI (ks_V fmb bl e)) ∧ v15 = ks_S fmb bl (ks_E fmb bl e) ∧ v16 = ks_L fmb bl (ks_E fmb bl e) ∧ v17 = ks_K fmb bl (ks_E fmb bl e) ∧ kz_N fmb bl (ks_E fmb bl e) v18 := h23 rfl
      obtain ⟨h32, h33, h34, h35, h36, h37, h38⟩ := h23
      have h34 := h34.symm
      subst h34
      have h35 := h35.symm
      subst h35
      have h36 := h36.symm
      subst h36
      have h37 := h37.symm
      subst h37
      have hk39 := ks_SL (f := fmb) (n := bl) (p := ks_E fmb bl e) (by omega)
      have hk40 := ks_K4 fmb bl (ks_E fmb bl e)
      have hk41 := ks_S_le (f := fmb) (n := bl) (p := ks_E fmb bl e) (by omega)
      have hk42 : (upd fva 0 (nI (ks_V fmb bl e))) 0 = (nI (ks_V fmb bl e)) := pk_us
      have hP : va_P D vwCl [(an, .inl (y 0, 76, .inl fan)), (mo, .inr (11, [.ref to, .ref ke, .ref ik, .ref mrf, .long mab, .long mbl, .ref ha, .ref r0, .ref mbr, .ref mbp, .ref mby, .int (nI bl), .int (nI (ks_S fmb bl (ks_E fmb bl e))), .int (nI (ks_L fmb bl (ks_E fmb bl e))), .int (nI (ks_K fmb bl (ks_E fmb bl e))), .int v18, .ref an, .ref va])), (mby, .inl (y 0, 150, .inl fmb)), (va, .inl (y 0, 2, .inl (upd fva 0 (nI (ks_V fmb bl e)))))] H := hP
      have hD : va_D A [(an, .inl (y 0, 76, .inl fan)), (mo, .inr (11, [.ref to, .ref ke, .ref ik, .ref mrf, .long mab, .long mbl, .ref ha, .ref r0, .ref mbr, .ref mbp, .ref mby, .int (nI bl), .int (nI (ks_S fmb bl (ks_E fmb bl e))), .int (nI (ks_L fmb bl (ks_E fmb bl e))), .int (nI (ks_K fmb bl (ks_E fmb bl e))), .int v18, .ref an, .ref va])), (mby, .inl (y 0, 150, .inl fmb)), (va, .inl (y 0, 2, .inl (upd fva 0 (nI (ks_V fmb bl e)))))] := hD
      refine lv_if_ne (tgt := 35) hx hb dX11_takesGleaner_30 (by decide) (fun _ => ?_) (fun h9 => absurd h9 (by decide))
      refine lv_aload_n hx hb dX11_takesGleaner_35 rfl (lv_at hl 0 rfl) ?_
      refine va_get (D := D) (ci := 11) (v := .ref an) (C := RX11) (T := TX11) (N := 18) hx hb hts iw11 hown hK hP 1 rfl rfl 16 (by decide) fw1 (fun _ h9 => h9) rfl dX11_takesGleaner_36 ?_
      refine lv_aload_n hx hb dX11_takesGleaner_39 rfl (lv_at hl 0 rfl) ?_
      refine va_get (D := D) (ci := 11) (v := .ref va) (C := RX11) (T := TX11) (N := 18) hx hb hts iw11 hown hK hP 1 rfl rfl 17 (by decide) fw2 (fun _ h9 => h9) rfl dX11_takesGleaner_40 ?_
      refine lv_iconst (v := 0) hx hb dX11_takesGleaner_43 (by decide) ?_
      refine va_iald hx hb hK hP 3 0 rfl rfl (by unfold vp_in; decide) dX11_takesGleaner_44 ?_
      rw [show ((0 : Int32)).toNatClampNeg = 0 from rfl]
      rw [show ((upd fva 0 (nI (ks_V fmb bl e))) 0) = (nI (ks_V fmb bl e)) from hk42]
      have hs43 : kw_Split [(an, .inl (y 0, 76, .inl fan)), (mo, .inr (11, [.ref to, .ref ke, .ref ik, .ref mrf, .long mab, .long mbl, .ref ha, .ref r0, .ref mbr, .ref mbp, .ref mby, .int (nI bl), .int (nI (ks_S fmb bl (ks_E fmb bl e))), .int (nI (ks_L fmb bl (ks_E fmb bl e))), .int (nI (ks_K fmb bl (ks_E fmb bl e))), .int v18, .ref an, .ref va])), (mby, .inl (y 0, 150, .inl fmb)), (va, .inl (y 0, 2, .inl (upd fva 0 (nI (ks_V fmb bl e)))))] [(an, .inl (y 0, 76, .inl fan))] [(mo, .inr (11, [.ref to, .ref ke, .ref ik, .ref mrf, .long mab, .long mbl, .ref ha, .ref r0, .ref mbr, .ref mbp, .ref mby, .int (nI bl), .int (nI (ks_S fmb bl (ks_E fmb bl e))), .int (nI (ks_L fmb bl (ks_E fmb bl e))), .int (nI (ks_K fmb bl (ks_E fmb bl e))), .int v18, .ref an, .ref va])), (mby, .inl (y 0, 150, .inl fmb)), (va, .inl (y 0, 2, .inl (upd fva 0 (nI (ks_V fmb bl e)))))] [0] [1, 2, 3] := ⟨rfl, rfl, rfl, rfl, rfl, by decide⟩
      refine kw_go_v hs43 hP hD hS hA (va_runS (As := [.ref an, .int (nI (ks_V fmb bl e))]) (rest := []) ⟨hx, hb, hml, hown, hts⟩ (gr_MlayGleaner l D y an fan afi agl ami ano aun asp (ks_V fmb bl e) ha0_ ha1_ ha2_ ha3_ ha4_ ha21_ hkan hB0 hB1 hB2 hB3 hB4 hB5 (by omega) (by omega) _) (va_cwS 2 hts gX11_takesGleaner_X11_layGleaner rfl rfl rfl (by decide +kernel) ⟨Nat.le_of_ble_eq_true rfl, Nat.le_of_ble_eq_true rfl⟩) (kw_PreS hs43 hP hD hK hN) rfl rfl hl.1 rfl (lv_room (Nat.le_of_ble_eq_true rfl)) dX11_takesGleaner_45 ⟨Nat.le_of_ble_eq_true rfl, Nat.le_of_ble_eq_true rfl⟩) (fun u45 H locs hq hP hD hS => ?_)
      obtain ⟨h46, h47, h48, h49, h50, h51, h52⟩ := hq
      have hP : va_P D vwCl [(mo, .inr (11, [.ref to, .ref ke, .ref ik, .ref mrf, .long mab, .long mbl, .ref ha, .ref r0, .ref mbr, .ref mbp, .ref mby, .int (nI bl), .int (nI (ks_S fmb bl (ks_E fmb bl e))), .int (nI (ks_L fmb bl (ks_E fmb bl e))), .int (nI (ks_K fmb bl (ks_E fmb bl e))), .int v18, .ref an, .ref va])), (mby, .inl (y 0, 150, .inl fmb)), (va, .inl (y 0, 2, .inl (upd fva 0 (nI (ks_V fmb bl e))))), (an, .inl (y 0, 76, .inl (upd (upd (upd fan (agl + 11) (nI (ks_V fmb bl e))) (agl + 16) 0) 1 (nI (agl + 1)))))] H := hP
      have hD : va_D A [(mo, .inr (11, [.ref to, .ref ke, .ref ik, .ref mrf, .long mab, .long mbl, .ref ha, .ref r0, .ref mbr, .ref mbp, .ref mby, .int (nI bl), .int (nI (ks_S fmb bl (ks_E fmb bl e))), .int (nI (ks_L fmb bl (ks_E fmb bl e))), .int (nI (ks_K fmb bl (ks_E fmb bl e))), .int v18, .ref an, .ref va])), (mby, .inl (y 0, 150, .inl fmb)), (va, .inl (y 0, 2, .inl (upd fva 0 (nI (ks_V fmb bl e))))), (an, .inl (y 0, 76, .inl (upd (upd (upd fan (agl + 11) (nI (ks_V fmb bl e))) (agl + 16) 0) 1 (nI (agl + 1)))))] := hD
      refine lv_iconst (v := 1) hx hb dX11_takesGleaner_48 (by decide) ?_
      exact W.zret (v := 1) hx hb hr (by decide) (fun tZ ht hW => ⟨⟨1, (ks_S fmb bl (ks_E fmb bl e), ks_L fmb bl (ks_E fmb bl e), ks_K fmb bl (ks_E fmb bl e), v18, (upd fva 0 (nI (ks_V fmb bl e))), (upd (upd (upd fan (agl + 11) (nI (ks_V fmb bl e))) (agl + 16) 0) 1 (nI (agl + 1))), agl + 1), rfl, ⟨by first | omega | (dsimp only; omega), by first | omega | (dsimp only; omega), by first | omega | (dsimp only; omega), h46, h47, by first | omega | (dsimp only; omega), h48, h49, h50, h51, h52, Or.inr rfl, by first | omega | (dsimp only; omega), by first | omega | (dsimp only; omega), (fun h9 => absurd h9 (by decide)), (fun _ => kz_go.mk (ks_glrB (by first | omega | (dsimp only; omega)) (by first | omega | (dsimp only; omega)) (ks_nm_mk h32 (by first | omega | (dsimp only; omega)) (by first | omega | (dsimp only; omega)))) (by first | omega | (dsimp only; omega)) (by first | omega | (dsimp only; omega)) h38 (kz_ka_u (kz_ka_u (kz_ka_u hkd (by first | omega | (dsimp only; omega))) (by first | omega | (dsimp only; omega))) (by first | omega | (dsimp only; omega))))⟩, by rw [ht]; exact hP.sub [0, 1, 2, 3] rfl, hD.sub [0, 1, 2, 3] (by decide) rfl⟩, hS.F ht⟩) hS.2.2 dX11_takesGleaner_49
  · skip
    have h2 : agl = 5 := (nI_eq (a := agl) (b := 5) (by omega) (by omega)).mp h2
    refine lv_iconst (v := 0) hx hb dX11_takesGleaner_10 (by decide) ?_
    exact W.zret (v := 0) hx hb hr (by decide) (fun tZ ht hW => ⟨⟨0, (ta, tl, tk, vv, fva, fan, agl), rfl, ⟨by first | omega | (dsimp only; omega), by first | omega | (dsimp only; omega), by first | omega | (dsimp only; omega), hkan, ha0_, by first | omega | (dsimp only; omega), ha1_, ha2_, ha3_, ha4_, ha21_, Or.inl rfl, by first | omega | (dsimp only; omega), by first | omega | (dsimp only; omega), (fun _ => ks_glr5 (by first | omega | (dsimp only; omega))), (fun h9 => absurd h9 (by decide))⟩, by rw [ht]; exact hP.sub [0, 1, 2, 3] rfl, hD.sub [0, 1, 2, 3] (by decide) rfl⟩, hS.F ht⟩) hS.2.2 dX11_takesGleaner_11

set_option maxHeartbeats 4000000 in
set_option maxRecDepth 100000 in
theorem gr_MtakesGlean (l : Launch) (D : va_G) (y : Nat → ClassId) (mo : Nat) (to : Nat) (ke : Nat) (ik : Nat) (mrf : Nat) (ha : Nat) (r0 : Nat) (mbr : Nat) (mbp : Nat) (mby : Nat) (an : Nat) (va : Nat) (mab : Int64) (mbl : Int64) (bl : Nat) (ta : Nat) (tl : Nat) (tk : Nat) (vv : Int32) (fmb : Nat → Int32) (fva : Nat → Int32) (fan : Nat → Int32) (afi : Nat) (agl : Nat) (ami : Nat) (ano : Nat) (aun : Nat) (asp : Nat) (e : Nat) (kd : Nat → Int32) (hbl : bl ≤ 150) (he : ta + tl = e) (heb : e ≤ bl) (htk : tk ≤ 4) (ha0_ : fan 0 = (nI afi)) (ha1_ : fan 1 = (nI agl)) (ha2_ : fan 2 = (nI ami)) (ha3_ : fan 3 = (nI ano)) (ha4_ : fan 4 = (nI aun)) (ha21_ : fan 21 = (nI asp)) (hkan : kr_t 76 fan) (hB0 : afi ≤ 6) (hB1 : agl ≤ 5) (hB2 : ami ≤ 4) (hB3 : ano ≤ 6) (hB4 : aun ≤ 8) (hB5 : asp ≤ 12) (hagf : (agl = 0 ∨ 0 < afi)) (hkd : kz_ka fan afi kd) : kw_Mi l yX11_takesGlean wsX11_takesGlean ({ frames := 6, cells := 0, slots := 0, locals := 177 }) D y [.ref mo] [(mo, .inr (11, [.ref to, .ref ke, .ref ik, .ref mrf, .long mab, .long mbl, .ref ha, .ref r0, .ref mbr, .ref mbp, .ref mby, .int (nI bl), .int (nI ta), .int (nI tl), .int (nI tk), .int vv, .ref an, .ref va])), (mby, .inl (y 0, 150, .inl fmb)), (va, .inl (y 0, 2, .inl fva)), (an, .inl (y 0, 76, .inl fan))] (fun (r : Int32) (u : Nat × Nat × Nat × Int32 × (Nat → Int32) × (Nat → Int32) × Nat) => u.1 ≤ bl ∧ u.2.1 ≤ 150 ∧ u.2.2.1 ≤ 4 ∧ kr_t 76 u.2.2.2.2.2.1 ∧ u.2.2.2.2.2.1 0 = (nI afi) ∧ u.2.2.2.2.2.1 1 = (nI agl) ∧ u.2.2.2.2.2.1 2 = (nI ami) ∧ u.2.2.2.2.2.1 3 = (nI ano) ∧ u.2.2.2.2.2.1 4 = (nI aun) ∧ u.2.2.2.2.2.2 ≤ 12 ∧ u.2.2.2.2.2.1 21 = (nI u.2.2.2.2.2.2) ∧ (r = 0 ∨ r = 1) ∧ u.1 + u.2.1 ≤ bl ∧ (agl = 0 ∨ 0 < afi) ∧ (r = 0 → ks_gln fmb bl e afi agl (12 - asp) kd = ks_flt u.1) ∧ (r = 1 → kz_go fmb bl e (ks_gln fmb bl e afi agl (12 - asp) kd) u.1 u.2.1 u.2.2.1 u.2.2.2.1 afi agl (12 - u.2.2.2.2.2.2) u.2.2.2.2.2.1)) (fun u => [(mo, .inr (11, [.ref to, .ref ke, .ref ik, .ref mrf, .long mab, .long mbl, .ref ha, .ref r0, .ref mbr, .ref mbp, .ref mby, .int (nI bl), .int (nI u.1), .int (nI u.2.1), .int (nI u.2.2.1), .int u.2.2.2.1, .ref an, .ref va])), (mby, .inl (y 0, 150, .inl fmb)), (va, .inl (y 0, 2, .inl u.2.2.2.2.1)), (an, .inl (y 0, 76, .inl u.2.2.2.2.2.1))]) 0 0 := by
  refine kw_Mi.of (cc := cX11_takesGlean) (maxL := 3) (ret := (some .boolean)) (by decide) rfl ?_
  intro pZ eZ s mZ beZ meZ cZ A hE
  obtain ⟨hx, hb, hr, hml, hts, hown, hlocks, hin, hA, hP, hD, hK, hN⟩ := hE
  have hS : va_S A s.heap s.heap [] := va_S.rf
  have hl := lv_entry ([.ref mo]) (n := 3) (Nat.le_of_ble_eq_true rfl)
  rw [lg_entry_eq]
  generalize (lg_sl ([.ref mo]) ++ List.replicate (3 - (lg_sl ([.ref mo])).length) Slot.unset).toArray = ls at hl ⊢
  have hl : lv_has ls 3 [(0, .ref mo)] := hl
  have fw1 := hts (.fieldLink RX11 42 "GleanDuskModel" "anew" "[I") (List.mem_of_getElem? (i := 1) rfl)
  have fw2 := hts (.fieldLink RX11 45 "GleanDuskModel" "values" "[I") (List.mem_of_getElem? (i := 2) rfl)
  have iw11 : ∀ w ∈ wsX110, w ∈ wsX11_takesGlean := fun _ h => List.mem_cons_of_mem _ (List.mem_append_right _ h)
  refine lv_aload_n hx hb dX11_takesGlean_0 rfl (lv_at hl 0 rfl) ?_
  have hs1 : kw_Split [(mo, .inr (11, [.ref to, .ref ke, .ref ik, .ref mrf, .long mab, .long mbl, .ref ha, .ref r0, .ref mbr, .ref mbp, .ref mby, .int (nI bl), .int (nI ta), .int (nI tl), .int (nI tk), .int vv, .ref an, .ref va])), (mby, .inl (y 0, 150, .inl fmb)), (va, .inl (y 0, 2, .inl fva)), (an, .inl (y 0, 76, .inl fan))] [(mo, .inr (11, [.ref to, .ref ke, .ref ik, .ref mrf, .long mab, .long mbl, .ref ha, .ref r0, .ref mbr, .ref mbp, .ref mby, .int (nI bl), .int (nI ta), .int (nI tl), .int (nI tk), .int vv, .ref an, .ref va])), (mby, .inl (y 0, 150, .inl fmb))] [(va, .inl (y 0, 2, .inl fva)), (an, .inl (y 0, 76, .inl fan))] [0, 1] [2, 3] := ⟨rfl, rfl, rfl, rfl, rfl, by decide⟩
  refine kw_go_v hs1 hP hD hS hA (va_runV (As := []) (rest := []) ⟨hx, hb, hml, hown, hts⟩ (gr_Mgo l D y mo to ke ik mrf ha r0 mbr mbp mby an va mab mbl bl ta tl tk vv fmb e hbl he heb htk _) (cwV 0 hts gX11_takesGlean_X11_goBehind rfl rfl rfl (by decide +kernel) ⟨Nat.le_of_ble_eq_true rfl, Nat.le_of_ble_eq_true rfl⟩) (kw_PreV (ci := 11) (q0 := 0) hs1 hP hD hK hN rfl rfl) rfl rfl hl.1 rfl (lv_room (Nat.le_of_ble_eq_true rfl)) dX11_takesGlean_1 ⟨Nat.le_of_ble_eq_true rfl, Nat.le_of_ble_eq_true rfl⟩) (fun u3 H locs hq hP hD hS => ?_)
  obtain ⟨v4, rfl⟩ : ∃ z, z = u3 := ⟨_, rfl⟩
  try dsimp only at hq
  obtain ⟨h5, h6, h7, h8, h9⟩ := hq
  have hP : va_P D vwCl [(va, .inl (y 0, 2, .inl fva)), (an, .inl (y 0, 76, .inl fan)), (mo, .inr (11, [.ref to, .ref ke, .ref ik, .ref mrf, .long mab, .long mbl, .ref ha, .ref r0, .ref mbr, .ref mbp, .ref mby, .int (nI bl), .int (nI (ks_S fmb bl e)), .int (nI (ks_L fmb bl e)), .int (nI (ks_K fmb bl e)), .int v4, .ref an, .ref va])), (mby, .inl (y 0, 150, .inl fmb))] H := hP
  have hD : va_D A [(va, .inl (y 0, 2, .inl fva)), (an, .inl (y 0, 76, .inl fan)), (mo, .inr (11, [.ref to, .ref ke, .ref ik, .ref mrf, .long mab, .long mbl, .ref ha, .ref r0, .ref mbr, .ref mbp, .ref mby, .int (nI bl), .int (nI (ks_S fmb bl e)), .int (nI (ks_L fmb bl e)), .int (nI (ks_K fmb bl e)), .int v4, .ref an, .ref va])), (mby, .inl (y 0, 150, .inl fmb))] := hD
  refine lv_aload_n hx hb dX11_takesGlean_4 rfl (lv_at hl 0 rfl) ?_
  refine lv_iconst (v := 0) hx hb dX11_takesGlean_5 (by decide) ?_
  refine lv_iconst (v := 1) hx hb dX11_takesGlean_6 (by decide) ?_
  refine lv_bipush (v := 12) hx hb dX11_takesGlean_7 (by decide) ?_
  refine lv_aload_n hx hb dX11_takesGlean_9 rfl (lv_at hl 0 rfl) ?_
  refine va_get (D := D) (ci := 11) (v := .ref an) (C := RX11) (T := TX11) (N := 18) hx hb hts iw11 hown hK hP 2 rfl rfl 16 (by decide) fw1 (fun _ h9 => h9) rfl dX11_takesGlean_10 ?_
  refine lv_bipush (v := 21) hx hb dX11_takesGlean_13 (by decide) ?_
  refine va_iald hx hb hK hP 1 0 rfl rfl (by unfold vp_in; decide) dX11_takesGlean_15 ?_
  rw [show ((21 : Int32)).toNatClampNeg = 21 from rfl]
  rw [show (fan 21) = (nI asp) from ha21_]
  refine lv_isub hx hb dX11_takesGlean_16 ?_
  rw [show 12 - (nI asp) = nI (12 - asp) from pk_sub (a := 12) (b := asp) (by omega)]
  have hs10 : kw_Split [(va, .inl (y 0, 2, .inl fva)), (an, .inl (y 0, 76, .inl fan)), (mo, .inr (11, [.ref to, .ref ke, .ref ik, .ref mrf, .long mab, .long mbl, .ref ha, .ref r0, .ref mbr, .ref mbp, .ref mby, .int (nI bl), .int (nI (ks_S fmb bl e)), .int (nI (ks_L fmb bl e)), .int (nI (ks_K fmb bl e)), .int v4, .ref an, .ref va])), (mby, .inl (y 0, 150, .inl fmb))] [(mo, .inr (11, [.ref to, .ref ke, .ref ik, .ref mrf, .long mab, .long mbl, .ref ha, .ref r0, .ref mbr, .ref mbp, .ref mby, .int (nI bl), .int (nI (ks_S fmb bl e)), .int (nI (ks_L fmb bl e)), .int (nI (ks_K fmb bl e)), .int v4, .ref an, .ref va])), (mby, .inl (y 0, 150, .inl fmb)), (va, .inl (y 0, 2, .inl fva))] [(an, .inl (y 0, 76, .inl fan))] [2, 3, 0] [1] := ⟨rfl, rfl, rfl, rfl, rfl, by decide⟩
  refine kw_go_i hs10 hP hD hS hA (va_runV (As := [.int 0, .int 1, .int (nI (12 - asp))]) (rest := []) ⟨hx, hb, hml, hown, hts⟩ (gr_MtW l D y mo to ke ik mrf ha r0 mbr mbp mby an va mab mbl bl (ks_S fmb bl e) (ks_L fmb bl e) (ks_K fmb bl e) v4 fmb fva (ks_E fmb bl e) (ks_V fmb bl e) (12 - asp) hbl (by omega) (by omega) (by omega) h9 (by omega) _) (cwV 3 hts gX11_takesGlean_X11_takes rfl rfl rfl (by decide +kernel) ⟨Nat.le_of_ble_eq_true rfl, Nat.le_of_ble_eq_true rfl⟩) (kw_PreV (ci := 11) (q0 := 2) hs10 hP hD hK hN rfl rfl) rfl rfl hl.1 rfl (lv_room (Nat.le_of_ble_eq_true rfl)) dX11_takesGlean_17 ⟨Nat.le_of_ble_eq_true rfl, Nat.le_of_ble_eq_true rfl⟩) (fun r11 u12 H locs hq hP hD hS => ?_)
  obtain ⟨v13, v14, v15, v16, v17⟩ := u12
  try dsimp only at hq
  obtain ⟨h18, h19, h20, (rfl | rfl), h21, h22, h23⟩ := hq
  · skip
    have hP : va_P D vwCl [(an, .inl (y 0, 76, .inl fan)), (mo, .inr (11, [.ref to, .ref ke, .ref ik, .ref mrf, .long mab, .long mbl, .ref ha, .ref r0, .ref mbr, .ref mbp, .ref mby, .int (nI bl), .int (nI v13), .int (nI v14), .int (nI v15), .int v16, .ref an, .ref va])), (mby, .inl (y 0, 150, .inl fmb)), (va, .inl (y 0, 2, .inl v17))] H := hP
    have hD : va_D A [(an, .inl (y 0, 76, .inl fan)), (mo, .inr (11, [.ref to, .ref ke, .ref ik, .ref mrf, .long mab, .long mbl, .ref ha, .ref r0, .ref mbr, .ref mbp, .ref mby, .int (nI bl), .int (nI v13), .int (nI v14), .int (nI v15), .int v16, .ref an, .ref va])), (mby, .inl (y 0, 150, .inl fmb)), (va, .inl (y 0, 2, .inl v17))] := hD
    have h22 : kz_no (ks_K fmb bl e) 1 (12 - asp) (ks_V fmb bl e) ∧ v17 = fva ∧ v13 = (ks_S fmb bl e) ∧ v14 = (ks_L fmb bl e) ∧ v15 = (ks_K fmb bl e) ∧ v16 = v4 := h22 rfl
    obtain ⟨h24, h25, h26, h27, h28, h29⟩ := h22
    have h25 := h25.symm
    subst h25
    have h26 := h26.symm
    subst h26
    have h27 := h27.symm
    subst h27
    have h28 := h28.symm
    subst h28
    have h29 := h29.symm
    subst h29
    have hP : va_P D vwCl [(an, .inl (y 0, 76, .inl fan)), (mo, .inr (11, [.ref to, .ref ke, .ref ik, .ref mrf, .long mab, .long mbl, .ref ha, .ref r0, .ref mbr, .ref mbp, .ref mby, .int (nI bl), .int (nI (ks_S fmb bl e)), .int (nI (ks_L fmb bl e)), .int (nI (ks_K fmb bl e)), .int v4, .ref an, .ref va])), (mby, .inl (y 0, 150, .inl fmb)), (va, .inl (y 0, 2, .inl (fva)))] H := hP
    have hD : va_D A [(an, .inl (y 0, 76, .inl fan)), (mo, .inr (11, [.ref to, .ref ke, .ref ik, .ref mrf, .long mab, .long mbl, .ref ha, .ref r0, .ref mbr, .ref mbp, .ref mby, .int (nI bl), .int (nI (ks_S fmb bl e)), .int (nI (ks_L fmb bl e)), .int (nI (ks_K fmb bl e)), .int v4, .ref an, .ref va])), (mby, .inl (y 0, 150, .inl fmb)), (va, .inl (y 0, 2, .inl (fva)))] := hD
    refine lv_if_ne (tgt := 25) hx hb dX11_takesGlean_20 (by decide) (fun h9 => absurd h9 (by decide)) (fun _ => ?_)
    refine lv_iconst (v := 0) hx hb dX11_takesGlean_23 (by decide) ?_
    exact W.zret (v := 0) hx hb hr (by decide) (fun tZ ht hW => ⟨⟨0, (ks_S fmb bl e, ks_L fmb bl e, ks_K fmb bl e, v4, (fva), fan, asp), rfl, ⟨by first | omega | (dsimp only; omega), by first | omega | (dsimp only; omega), by first | omega | (dsimp only; omega), hkan, ha0_, ha1_, ha2_, ha3_, ha4_, by first | omega | (dsimp only; omega), ha21_, Or.inl rfl, by first | omega | (dsimp only; omega), by first | omega | (dsimp only; omega), (fun _ => ks_glnA (kz_no_nm h24)), (fun h9 => absurd h9 (by decide))⟩, by rw [ht]; exact hP.sub [1, 2, 3, 0] rfl, hD.sub [1, 2, 3, 0] (by decide) rfl⟩, hS.F ht⟩) hS.2.2 dX11_takesGlean_24
  · skip
    have hP : va_P D vwCl [(an, .inl (y 0, 76, .inl fan)), (mo, .inr (11, [.ref to, .ref ke, .ref ik, .ref mrf, .long mab, .long mbl, .ref ha, .ref r0, .ref mbr, .ref mbp, .ref mby, .int (nI bl), .int (nI v13), .int (nI v14), .int (nI v15), .int v16, .ref an, .ref va])), (mby, .inl (y 0, 150, .inl fmb)), (va, .inl (y 0, 2, .inl v17))] H := hP
    have hD : va_D A [(an, .inl (y 0, 76, .inl fan)), (mo, .inr (11, [.ref to, .ref ke, .ref ik, .ref mrf, .long mab, .long mbl, .ref ha, .ref r0, .ref mbr, .ref mbp, .ref mby, .int (nI bl), .int (nI v13), .int (nI v14), .int (nI v15), .int v16, .ref an, .ref va])), (mby, .inl (y 0, 150, .inl fmb)), (va, .inl (y 0, 2, .inl v17))] := hD
    have h21 : (ks_K fmb bl e) = 2 ∧ 1 ≤ (ks_V fmb bl e) ∧ (ks_V fmb bl e) ≤ (12 - asp) ∧ v17 = upd fva 0 (nI (ks_V fmb bl e)) ∧ v13 = ks_S fmb bl (ks_E fmb bl e) ∧ v14 = ks_L fmb bl (ks_E fmb bl e) ∧ v15 = ks_K fmb bl (ks_E fmb bl e) ∧ kz_N fmb bl (ks_E fmb bl e) v16 := h21 rfl
    obtain ⟨h30, h31, h32, h33, h34, h35, h36, h37⟩ := h21
    have h33 := h33.symm
    subst h33
    have h34 := h34.symm
    subst h34
    have h35 := h35.symm
    subst h35
    have h36 := h36.symm
    subst h36
    have hk38 := ks_SL (f := fmb) (n := bl) (p := ks_E fmb bl e) (by omega)
    have hk39 := ks_K4 fmb bl (ks_E fmb bl e)
    have hk40 := ks_S_le (f := fmb) (n := bl) (p := ks_E fmb bl e) (by omega)
    have hk41 : (upd fva 0 (nI (ks_V fmb bl e))) 0 = (nI (ks_V fmb bl e)) := pk_us
    have hP : va_P D vwCl [(an, .inl (y 0, 76, .inl fan)), (mo, .inr (11, [.ref to, .ref ke, .ref ik, .ref mrf, .long mab, .long mbl, .ref ha, .ref r0, .ref mbr, .ref mbp, .ref mby, .int (nI bl), .int (nI (ks_S fmb bl (ks_E fmb bl e))), .int (nI (ks_L fmb bl (ks_E fmb bl e))), .int (nI (ks_K fmb bl (ks_E fmb bl e))), .int v16, .ref an, .ref va])), (mby, .inl (y 0, 150, .inl fmb)), (va, .inl (y 0, 2, .inl (upd fva 0 (nI (ks_V fmb bl e)))))] H := hP
    have hD : va_D A [(an, .inl (y 0, 76, .inl fan)), (mo, .inr (11, [.ref to, .ref ke, .ref ik, .ref mrf, .long mab, .long mbl, .ref ha, .ref r0, .ref mbr, .ref mbp, .ref mby, .int (nI bl), .int (nI (ks_S fmb bl (ks_E fmb bl e))), .int (nI (ks_L fmb bl (ks_E fmb bl e))), .int (nI (ks_K fmb bl (ks_E fmb bl e))), .int v16, .ref an, .ref va])), (mby, .inl (y 0, 150, .inl fmb)), (va, .inl (y 0, 2, .inl (upd fva 0 (nI (ks_V fmb bl e)))))] := hD
    refine lv_if_ne (tgt := 25) hx hb dX11_takesGlean_20 (by decide) (fun _ => ?_) (fun h9 => absurd h9 (by decide))
    refine lv_iconst (v := 0) hx hb dX11_takesGlean_25 (by decide) ?_
    refine lv_istore_n (lv' := [(1, .int 0), (0, .ref mo)]) hx hb dX11_takesGlean_26 rfl hl (by decide) rfl (fun ls hl => ?_)
    have lp86 : ∀ (fuj91 j91 : Nat) (x56 : Nat → Int32) (x71 : Nat) (H : Heap) (locs : List Loc) (ls : Array Slot), j91 ≤ (ks_V fmb bl e) → (ks_V fmb bl e) - j91 < fuj91 → kr_t 76 x56 → x56 0 = (nI afi) → x56 1 = (nI agl) → x56 2 = (nI ami) → x56 3 = (nI ano) → x56 4 = (nI aun) → x56 21 = (nI x71) → x71 ≤ 12 → kz_kk fan x56 → x71 = asp + j91 → va_P D vwCl [(an, .inl (y 0, 76, .inl x56)), (mo, .inr (11, [.ref to, .ref ke, .ref ik, .ref mrf, .long mab, .long mbl, .ref ha, .ref r0, .ref mbr, .ref mbp, .ref mby, .int (nI bl), .int (nI (ks_S fmb bl (ks_E fmb bl e))), .int (nI (ks_L fmb bl (ks_E fmb bl e))), .int (nI (ks_K fmb bl (ks_E fmb bl e))), .int v16, .ref an, .ref va])), (mby, .inl (y 0, 150, .inl fmb)), (va, .inl (y 0, 2, .inl (upd fva 0 (nI (ks_V fmb bl e)))))] H → va_D A [(an, .inl (y 0, 76, .inl x56)), (mo, .inr (11, [.ref to, .ref ke, .ref ik, .ref mrf, .long mab, .long mbl, .ref ha, .ref r0, .ref mbr, .ref mbp, .ref mby, .int (nI bl), .int (nI (ks_S fmb bl (ks_E fmb bl e))), .int (nI (ks_L fmb bl (ks_E fmb bl e))), .int (nI (ks_K fmb bl (ks_E fmb bl e))), .int v16, .ref an, .ref va])), (mby, .inl (y 0, 150, .inl fmb)), (va, .inl (y 0, 2, .inl (upd fva 0 (nI (ks_V fmb bl e)))))] → va_S A s.heap H locs → lv_has ls 3 [(1, .int (nI j91)), (0, .ref mo)] → W pZ l eZ ({ frames := 6, cells := 0, slots := 0, locals := 177 }) s mZ [.ref mo].toArray beZ meZ cZ H locs 0 0 (MQ beZ (va_Qi (fun (r : Int32) (u : Nat × Nat × Nat × Int32 × (Nat → Int32) × (Nat → Int32) × Nat) => u.1 ≤ bl ∧ u.2.1 ≤ 150 ∧ u.2.2.1 ≤ 4 ∧ kr_t 76 u.2.2.2.2.2.1 ∧ u.2.2.2.2.2.1 0 = (nI afi) ∧ u.2.2.2.2.2.1 1 = (nI agl) ∧ u.2.2.2.2.2.1 2 = (nI ami) ∧ u.2.2.2.2.2.1 3 = (nI ano) ∧ u.2.2.2.2.2.1 4 = (nI aun) ∧ u.2.2.2.2.2.2 ≤ 12 ∧ u.2.2.2.2.2.1 21 = (nI u.2.2.2.2.2.2) ∧ (r = 0 ∨ r = 1) ∧ u.1 + u.2.1 ≤ bl ∧ (agl = 0 ∨ 0 < afi) ∧ (r = 0 → ks_gln fmb bl e afi agl (12 - asp) kd = ks_flt u.1) ∧ (r = 1 → kz_go fmb bl e (ks_gln fmb bl e afi agl (12 - asp) kd) u.1 u.2.1 u.2.2.1 u.2.2.2.1 afi agl (12 - u.2.2.2.2.2.2) u.2.2.2.2.2.1)) (kw_B D (fun u => [(mo, .inr (11, [.ref to, .ref ke, .ref ik, .ref mrf, .long mab, .long mbl, .ref ha, .ref r0, .ref mbr, .ref mbp, .ref mby, .int (nI bl), .int (nI u.1), .int (nI u.2.1), .int (nI u.2.2.1), .int u.2.2.2.1, .ref an, .ref va])), (mby, .inl (y 0, 150, .inl fmb)), (va, .inl (y 0, 2, .inl u.2.2.2.2.1)), (an, .inl (y 0, 76, .inl u.2.2.2.2.2.1))]) A) A) [.ref mo].toArray s 0 0 A) (F0 mZ 27 ls []) := by
      intro fuj91
      induction fuj91 with
      | zero => intro j91 x56 x71 H locs ls hj9 hf9; exact absurd hf9 (Nat.not_lt_zero _)
      | succ fuj91 ihj91 =>
        intro j91 x56 x71 H locs ls hj91 hfj91 hr_x56 hk_x56_0 hk_x56_1 hk_x56_2 hk_x56_3 hk_x56_4 hk_x56_21 hn_x71 hI0_j91 hI1_j91 hP hD hS hl
        refine lv_iload_n hx hb dX11_takesGlean_27 rfl (lv_at hl 0 rfl) ?_
        refine lv_aload_n hx hb dX11_takesGlean_28 rfl (lv_at hl 1 rfl) ?_
        refine va_get (D := D) (ci := 11) (v := .ref va) (C := RX11) (T := TX11) (N := 18) hx hb hts iw11 hown hK hP 1 rfl rfl 17 (by decide) fw2 (fun _ h9 => h9) rfl dX11_takesGlean_29 ?_
        refine lv_iconst (v := 0) hx hb dX11_takesGlean_32 (by decide) ?_
        refine va_iald hx hb hK hP 3 0 rfl rfl (by unfold vp_in; decide) dX11_takesGlean_33 ?_
        rw [show ((0 : Int32)).toNatClampNeg = 0 from rfl]
        rw [show ((upd fva 0 (nI (ks_V fmb bl e))) 0) = (nI (ks_V fmb bl e)) from hk41]
        refine lv_icmp_ge (tgt := 51) hx hb dX11_takesGlean_34 (by decide) (fun h87 => ?_) (fun h88 => ?_)
        · skip
          have h87 : (ks_V fmb bl e) ≤ j91 := (nI_leI (a := (ks_V fmb bl e)) (b := j91) (by omega) (by omega)).mp h87
          refine lv_iconst (v := 1) hx hb dX11_takesGlean_51 (by decide) ?_
          exact W.zret (v := 1) hx hb hr (by decide) (fun tZ ht hW => ⟨⟨1, (ks_S fmb bl (ks_E fmb bl e), ks_L fmb bl (ks_E fmb bl e), ks_K fmb bl (ks_E fmb bl e), v16, (upd fva 0 (nI (ks_V fmb bl e))), x56, x71), rfl, ⟨by first | omega | (dsimp only; omega), by first | omega | (dsimp only; omega), by first | omega | (dsimp only; omega), hr_x56, hk_x56_0, hk_x56_1, hk_x56_2, hk_x56_3, hk_x56_4, by first | omega | (dsimp only; omega), hk_x56_21, Or.inr rfl, by first | omega | (dsimp only; omega), by first | omega | (dsimp only; omega), (fun h9 => absurd h9 (by decide)), (fun _ => kz_go.mk ((ks_glnB (ks_nm_mk h30 (by first | omega | (dsimp only; omega)) (by first | omega | (dsimp only; omega)))).trans (by rw [show 12 - asp - ks_V fmb bl e = 12 - x71 from by omega])) (by first | omega | (dsimp only; omega)) (by first | omega | (dsimp only; omega)) h37 (kz_ka_k hkd hI0_j91 (by first | omega | (dsimp only; omega))))⟩, by rw [ht]; exact hP.sub [1, 2, 3, 0] rfl, hD.sub [1, 2, 3, 0] (by decide) rfl⟩, hS.F ht⟩) hS.2.2 dX11_takesGlean_52
        · skip
          have h88 : ¬ (ks_V fmb bl e) ≤ j91 := fun q9 => h88 ((nI_leI (a := (ks_V fmb bl e)) (b := j91) (by omega) (by omega)).mpr q9)
          refine lv_aload_n hx hb dX11_takesGlean_37 rfl (lv_at hl 1 rfl) ?_
          refine va_get (D := D) (ci := 11) (v := .ref an) (C := RX11) (T := TX11) (N := 18) hx hb hts iw11 hown hK hP 1 rfl rfl 16 (by decide) fw1 (fun _ h9 => h9) rfl dX11_takesGlean_38 ?_
          have hs89 : kw_Split [(an, .inl (y 0, 76, .inl x56)), (mo, .inr (11, [.ref to, .ref ke, .ref ik, .ref mrf, .long mab, .long mbl, .ref ha, .ref r0, .ref mbr, .ref mbp, .ref mby, .int (nI bl), .int (nI (ks_S fmb bl (ks_E fmb bl e))), .int (nI (ks_L fmb bl (ks_E fmb bl e))), .int (nI (ks_K fmb bl (ks_E fmb bl e))), .int v16, .ref an, .ref va])), (mby, .inl (y 0, 150, .inl fmb)), (va, .inl (y 0, 2, .inl (upd fva 0 (nI (ks_V fmb bl e)))))] [(an, .inl (y 0, 76, .inl x56))] [(mo, .inr (11, [.ref to, .ref ke, .ref ik, .ref mrf, .long mab, .long mbl, .ref ha, .ref r0, .ref mbr, .ref mbp, .ref mby, .int (nI bl), .int (nI (ks_S fmb bl (ks_E fmb bl e))), .int (nI (ks_L fmb bl (ks_E fmb bl e))), .int (nI (ks_K fmb bl (ks_E fmb bl e))), .int v16, .ref an, .ref va])), (mby, .inl (y 0, 150, .inl fmb)), (va, .inl (y 0, 2, .inl (upd fva 0 (nI (ks_V fmb bl e)))))] [0] [1, 2, 3] := ⟨rfl, rfl, rfl, rfl, rfl, by decide⟩
          refine kw_go_i hs89 hP hD hS hA (va_runS (As := [.ref an]) (rest := []) ⟨hx, hb, hml, hown, hts⟩ (gr_MgoStep l D y an x56 afi agl ami ano aun x71 hk_x56_0 hk_x56_1 hk_x56_2 hk_x56_3 hk_x56_4 hk_x56_21 hr_x56 hB0 hB1 hB2 hB3 hB4 (by omega) (by omega) _) (va_cwS 1 hts gX11_takesGlean_X11_goStep rfl rfl rfl (by decide +kernel) ⟨Nat.le_of_ble_eq_true rfl, Nat.le_of_ble_eq_true rfl⟩) (kw_PreS hs89 hP hD hK hN) rfl rfl hl.1 rfl (lv_room (Nat.le_of_ble_eq_true rfl)) dX11_takesGlean_41 ⟨Nat.le_of_ble_eq_true rfl, Nat.le_of_ble_eq_true rfl⟩) (fun r90 u91 H locs hq hP hD hS => ?_)
          obtain ⟨v92, rfl⟩ : ∃ z, z = u91 := ⟨_, rfl⟩
          try dsimp only at hq
          obtain ⟨h93, h94, h95, h96, h97, h98, h99, h100⟩ := hq
          have hP : va_P D vwCl [(mo, .inr (11, [.ref to, .ref ke, .ref ik, .ref mrf, .long mab, .long mbl, .ref ha, .ref r0, .ref mbr, .ref mbp, .ref mby, .int (nI bl), .int (nI (ks_S fmb bl (ks_E fmb bl e))), .int (nI (ks_L fmb bl (ks_E fmb bl e))), .int (nI (ks_K fmb bl (ks_E fmb bl e))), .int v16, .ref an, .ref va])), (mby, .inl (y 0, 150, .inl fmb)), (va, .inl (y 0, 2, .inl (upd fva 0 (nI (ks_V fmb bl e))))), (an, .inl (y 0, 76, .inl v92))] H := hP
          have hD : va_D A [(mo, .inr (11, [.ref to, .ref ke, .ref ik, .ref mrf, .long mab, .long mbl, .ref ha, .ref r0, .ref mbr, .ref mbp, .ref mby, .int (nI bl), .int (nI (ks_S fmb bl (ks_E fmb bl e))), .int (nI (ks_L fmb bl (ks_E fmb bl e))), .int (nI (ks_K fmb bl (ks_E fmb bl e))), .int v16, .ref an, .ref va])), (mby, .inl (y 0, 150, .inl fmb)), (va, .inl (y 0, 2, .inl (upd fva 0 (nI (ks_V fmb bl e))))), (an, .inl (y 0, 76, .inl v92))] := hD
          refine lv_istore_n (lv' := [(2, .int r90), (1, .int (nI j91)), (0, .ref mo)]) hx hb dX11_takesGlean_44 rfl hl (by decide) rfl (fun ls hl => ?_)
          refine lv_iinc (v := (nI (j91 + 1))) (lv' := [(1, .int (nI (j91 + 1))), (2, .int r90), (0, .ref mo)]) hx hb dX11_takesGlean_45 hl (k := 1) rfl (nI_1 j91) (by decide) rfl (fun ls hl => ?_)
          refine lv_goto (tgt := 27) hx hb dX11_takesGlean_48 (by decide) ?_
          exact ihj91 (j91 + 1) v92 (x71 + 1) H locs ls (by omega) (by omega) h93 h94 h95 h96 h97 h98 h99 (by omega) (kz_kk_t hI0_j91 h100) (by omega) (hP.sub [3, 0, 1, 2] rfl) (hD.sub [3, 0, 1, 2] (by decide) rfl) hS (lv_sub hl [0, 2] rfl)
    exact lp86 ((ks_V fmb bl e) + 1) 0 fan asp _ _ _ (by omega) (by omega) hkan ha0_ ha1_ ha2_ ha3_ ha4_ ha21_ (by omega) kz_kk_0 (by omega) hP hD hS (lv_sub hl [0, 1] rfl)

set_option maxHeartbeats 4000000 in
set_option maxRecDepth 100000 in
theorem gr_MtakesItem (l : Launch) (D : va_G) (y : Nat → ClassId) (mo : Nat) (to : Nat) (ke : Nat) (ik : Nat) (mrf : Nat) (ha : Nat) (r0 : Nat) (mbr : Nat) (mbp : Nat) (mby : Nat) (an : Nat) (va : Nat) (mab : Int64) (mbl : Int64) (bl : Nat) (ta : Nat) (tl : Nat) (tk : Nat) (vv : Int32) (fmb : Nat → Int32) (fva : Nat → Int32) (fan : Nat → Int32) (afi : Nat) (agl : Nat) (ami : Nat) (ano : Nat) (aun : Nat) (asp : Nat) (e : Nat) (kd : Nat → Int32) (hbl : bl ≤ 150) (he : ta + tl = e) (heb : e ≤ bl) (htk : tk ≤ 4) (ha0_ : fan 0 = (nI afi)) (ha1_ : fan 1 = (nI agl)) (ha2_ : fan 2 = (nI ami)) (ha3_ : fan 3 = (nI ano)) (ha4_ : fan 4 = (nI aun)) (ha21_ : fan 21 = (nI asp)) (hkan : kr_t 76 fan) (hB0 : afi ≤ 6) (hB1 : agl ≤ 5) (hB2 : ami ≤ 4) (hB3 : ano ≤ 6) (hB4 : aun ≤ 8) (hB5 : asp ≤ 12) (hagf : (agl = 0 ∨ 0 < afi)) (hkd : kz_ka fan afi kd) : kw_Mi l yX11_takesItem wsX11_takesItem ({ frames := 7, cells := 0, slots := 0, locals := 199 }) D y [.ref mo] [(mo, .inr (11, [.ref to, .ref ke, .ref ik, .ref mrf, .long mab, .long mbl, .ref ha, .ref r0, .ref mbr, .ref mbp, .ref mby, .int (nI bl), .int (nI ta), .int (nI tl), .int (nI tk), .int vv, .ref an, .ref va])), (mby, .inl (y 0, 150, .inl fmb)), (va, .inl (y 0, 2, .inl fva)), (an, .inl (y 0, 76, .inl fan))] (fun (r : Int32) (u : Nat × Nat × Nat × Int32 × (Nat → Int32) × (Nat → Int32) × Nat × Nat × Nat) => u.1 ≤ bl ∧ u.2.1 ≤ 150 ∧ u.2.2.1 ≤ 4 ∧ kr_t 76 u.2.2.2.2.2.1 ∧ u.2.2.2.2.2.2.1 ≤ 6 ∧ u.2.2.2.2.2.1 0 = (nI u.2.2.2.2.2.2.1) ∧ u.2.2.2.2.2.2.2.1 ≤ 5 ∧ u.2.2.2.2.2.1 1 = (nI u.2.2.2.2.2.2.2.1) ∧ u.2.2.2.2.2.1 2 = (nI ami) ∧ u.2.2.2.2.2.1 3 = (nI ano) ∧ u.2.2.2.2.2.1 4 = (nI aun) ∧ u.2.2.2.2.2.2.2.2 ≤ 12 ∧ u.2.2.2.2.2.1 21 = (nI u.2.2.2.2.2.2.2.2) ∧ (r = 0 ∨ r = 1) ∧ u.1 + u.2.1 ≤ bl ∧ (u.2.2.2.2.2.2.2.1 = 0 ∨ 0 < u.2.2.2.2.2.2.1) ∧ (r = 0 → ks_it fmb bl tk ta e afi agl (12 - asp) kd = ks_flt u.1) ∧ (r = 1 → kz_go fmb bl e (ks_it fmb bl tk ta e afi agl (12 - asp) kd) u.1 u.2.1 u.2.2.1 u.2.2.2.1 u.2.2.2.2.2.2.1 u.2.2.2.2.2.2.2.1 (12 - u.2.2.2.2.2.2.2.2) u.2.2.2.2.2.1)) (fun u => [(mo, .inr (11, [.ref to, .ref ke, .ref ik, .ref mrf, .long mab, .long mbl, .ref ha, .ref r0, .ref mbr, .ref mbp, .ref mby, .int (nI bl), .int (nI u.1), .int (nI u.2.1), .int (nI u.2.2.1), .int u.2.2.2.1, .ref an, .ref va])), (mby, .inl (y 0, 150, .inl fmb)), (va, .inl (y 0, 2, .inl u.2.2.2.2.1)), (an, .inl (y 0, 76, .inl u.2.2.2.2.2.1))]) 0 0 := by
  refine kw_Mi.of (cc := cX11_takesItem) (maxL := 1) (ret := (some .boolean)) (by decide) rfl ?_
  intro pZ eZ s mZ beZ meZ cZ A hE
  obtain ⟨hx, hb, hr, hml, hts, hown, hlocks, hin, hA, hP, hD, hK, hN⟩ := hE
  have hS : va_S A s.heap s.heap [] := va_S.rf
  have hl := lv_entry ([.ref mo]) (n := 1) (Nat.le_of_ble_eq_true rfl)
  rw [lg_entry_eq]
  generalize (lg_sl ([.ref mo]) ++ List.replicate (1 - (lg_sl ([.ref mo])).length) Slot.unset).toArray = ls at hl ⊢
  have hl : lv_has ls 1 [(0, .ref mo)] := hl
  refine lv_aload_n hx hb dX11_takesItem_0 rfl (lv_at hl 0 rfl) ?_
  refine lv_iconst (v := 5) hx hb dX11_takesItem_1 (by decide) ?_
  refine lv_bipush (v := 102) hx hb dX11_takesItem_2 (by decide) ?_
  refine lv_bipush (v := 105) hx hb dX11_takesItem_4 (by decide) ?_
  refine lv_bipush (v := 101) hx hb dX11_takesItem_6 (by decide) ?_
  refine lv_bipush (v := 108) hx hb dX11_takesItem_8 (by decide) ?_
  refine lv_bipush (v := 100) hx hb dX11_takesItem_10 (by decide) ?_
  refine lv_iconst (v := 0) hx hb dX11_takesItem_12 (by decide) ?_
  have hs1 : kw_Split [(mo, .inr (11, [.ref to, .ref ke, .ref ik, .ref mrf, .long mab, .long mbl, .ref ha, .ref r0, .ref mbr, .ref mbp, .ref mby, .int (nI bl), .int (nI ta), .int (nI tl), .int (nI tk), .int vv, .ref an, .ref va])), (mby, .inl (y 0, 150, .inl fmb)), (va, .inl (y 0, 2, .inl fva)), (an, .inl (y 0, 76, .inl fan))] [(mo, .inr (11, [.ref to, .ref ke, .ref ik, .ref mrf, .long mab, .long mbl, .ref ha, .ref r0, .ref mbr, .ref mbp, .ref mby, .int (nI bl), .int (nI ta), .int (nI tl), .int (nI tk), .int vv, .ref an, .ref va])), (mby, .inl (y 0, 150, .inl fmb))] [(va, .inl (y 0, 2, .inl fva)), (an, .inl (y 0, 76, .inl fan))] [0, 1] [2, 3] := ⟨rfl, rfl, rfl, rfl, rfl, by decide⟩
  refine kw_go_i hs1 hP hD hS hA (va_runV (As := [.int 5, .int 102, .int 105, .int 101, .int 108, .int 100, .int 0]) (rest := []) ⟨hx, hb, hml, hown, hts⟩ (gr_Msp1 l D y mo to ke ik mrf ha r0 mbr mbp mby an va mab mbl bl ta tl tk vv fmb e hbl he heb htk _) (cwV 7 hts gX11_takesItem_X11_spells rfl rfl rfl (by decide +kernel) ⟨Nat.le_of_ble_eq_true rfl, Nat.le_of_ble_eq_true rfl⟩) (kw_PreV (ci := 11) (q0 := 0) hs1 hP hD hK hN rfl rfl) rfl rfl hl.1 rfl (lv_room (Nat.le_of_ble_eq_true rfl)) dX11_takesItem_13 ⟨Nat.le_of_ble_eq_true rfl, Nat.le_of_ble_eq_true rfl⟩) (fun r2 u3 H locs hq hP hD hS => ?_)
  rcases hq with ⟨h4, rfl⟩ | ⟨h5, rfl⟩
  · skip
    have hP : va_P D vwCl [(va, .inl (y 0, 2, .inl fva)), (an, .inl (y 0, 76, .inl fan)), (mo, .inr (11, [.ref to, .ref ke, .ref ik, .ref mrf, .long mab, .long mbl, .ref ha, .ref r0, .ref mbr, .ref mbp, .ref mby, .int (nI bl), .int (nI ta), .int (nI tl), .int (nI tk), .int vv, .ref an, .ref va])), (mby, .inl (y 0, 150, .inl fmb))] H := hP
    have hD : va_D A [(va, .inl (y 0, 2, .inl fva)), (an, .inl (y 0, 76, .inl fan)), (mo, .inr (11, [.ref to, .ref ke, .ref ik, .ref mrf, .long mab, .long mbl, .ref ha, .ref r0, .ref mbr, .ref mbp, .ref mby, .int (nI bl), .int (nI ta), .int (nI tl), .int (nI tk), .int vv, .ref an, .ref va])), (mby, .inl (y 0, 150, .inl fmb))] := hD
    refine lv_if_eq (tgt := 24) hx hb dX11_takesItem_16 (by decide) (fun h9 => absurd h9 (by decide)) (fun _ => ?_)
    refine lv_aload_n hx hb dX11_takesItem_19 rfl (lv_at hl 0 rfl) ?_
    have hs6 : kw_Split [(va, .inl (y 0, 2, .inl fva)), (an, .inl (y 0, 76, .inl fan)), (mo, .inr (11, [.ref to, .ref ke, .ref ik, .ref mrf, .long mab, .long mbl, .ref ha, .ref r0, .ref mbr, .ref mbp, .ref mby, .int (nI bl), .int (nI ta), .int (nI tl), .int (nI tk), .int vv, .ref an, .ref va])), (mby, .inl (y 0, 150, .inl fmb))] [(mo, .inr (11, [.ref to, .ref ke, .ref ik, .ref mrf, .long mab, .long mbl, .ref ha, .ref r0, .ref mbr, .ref mbp, .ref mby, .int (nI bl), .int (nI ta), .int (nI tl), .int (nI tk), .int vv, .ref an, .ref va])), (mby, .inl (y 0, 150, .inl fmb)), (va, .inl (y 0, 2, .inl fva)), (an, .inl (y 0, 76, .inl fan))] [] [2, 3, 0, 1] [] := ⟨rfl, rfl, rfl, rfl, rfl, by decide⟩
    refine kw_go_i hs6 hP hD hS hA (va_runV (As := []) (rest := []) ⟨hx, hb, hml, hown, hts⟩ (gr_MtakesField l D y mo to ke ik mrf ha r0 mbr mbp mby an va mab mbl bl ta tl tk vv fmb fva fan afi agl ami ano aun asp e kd hbl he heb htk ha0_ ha1_ ha2_ ha3_ ha4_ ha21_ hkan hB0 hB1 hB2 hB3 hB4 hB5 hagf hkd _) (cwV 0 hts gX11_takesItem_X11_takesField rfl rfl rfl (by decide +kernel) ⟨Nat.le_of_ble_eq_true rfl, Nat.le_of_ble_eq_true rfl⟩) (kw_PreV (ci := 11) (q0 := 2) hs6 hP hD hK hN rfl rfl) rfl rfl hl.1 rfl (lv_room (Nat.le_of_ble_eq_true rfl)) dX11_takesItem_20 ⟨Nat.le_of_ble_eq_true rfl, Nat.le_of_ble_eq_true rfl⟩) (fun r7 u8 H locs hq hP hD hS => ?_)
    obtain ⟨v9, v10, v11, v12, v13, v14, v15⟩ := u8
    try dsimp only at hq
    obtain ⟨h16, h17, h18, h19, h20, h21, h22, h23, h24, h25, h26, (rfl | rfl), h27, h28, h29, h30⟩ := hq
    · skip
      have hP : va_P D vwCl [(mo, .inr (11, [.ref to, .ref ke, .ref ik, .ref mrf, .long mab, .long mbl, .ref ha, .ref r0, .ref mbr, .ref mbp, .ref mby, .int (nI bl), .int (nI v9), .int (nI v10), .int (nI v11), .int v12, .ref an, .ref va])), (mby, .inl (y 0, 150, .inl fmb)), (va, .inl (y 0, 2, .inl v13)), (an, .inl (y 0, 76, .inl v14))] H := hP
      have hD : va_D A [(mo, .inr (11, [.ref to, .ref ke, .ref ik, .ref mrf, .long mab, .long mbl, .ref ha, .ref r0, .ref mbr, .ref mbp, .ref mby, .int (nI bl), .int (nI v9), .int (nI v10), .int (nI v11), .int v12, .ref an, .ref va])), (mby, .inl (y 0, 150, .inl fmb)), (va, .inl (y 0, 2, .inl v13)), (an, .inl (y 0, 76, .inl v14))] := hD
      have h29 : ks_fld fmb bl ta e afi agl (12 - asp) kd = ks_flt v9 := h29 rfl
      exact W.zret (v := 0) hx hb hr (by decide) (fun tZ ht hW => ⟨⟨0, (v9, v10, v11, v12, v13, v14, v15, agl, asp), rfl, ⟨by first | omega | (dsimp only; omega), by first | omega | (dsimp only; omega), by first | omega | (dsimp only; omega), h19, by first | omega | (dsimp only; omega), h21, by first | omega | (dsimp only; omega), h22, h23, h24, h25, by first | omega | (dsimp only; omega), h26, Or.inl rfl, by first | omega | (dsimp only; omega), by first | omega | (dsimp only; omega), (fun _ => (ks_it1 h4).trans h29), (fun h9 => absurd h9 (by decide))⟩, by rw [ht]; exact hP.sub [0, 1, 2, 3] rfl, hD.sub [0, 1, 2, 3] (by decide) rfl⟩, hS.F ht⟩) hS.2.2 dX11_takesItem_23
    · skip
      have hP : va_P D vwCl [(mo, .inr (11, [.ref to, .ref ke, .ref ik, .ref mrf, .long mab, .long mbl, .ref ha, .ref r0, .ref mbr, .ref mbp, .ref mby, .int (nI bl), .int (nI v9), .int (nI v10), .int (nI v11), .int v12, .ref an, .ref va])), (mby, .inl (y 0, 150, .inl fmb)), (va, .inl (y 0, 2, .inl v13)), (an, .inl (y 0, 76, .inl v14))] H := hP
      have hD : va_D A [(mo, .inr (11, [.ref to, .ref ke, .ref ik, .ref mrf, .long mab, .long mbl, .ref ha, .ref r0, .ref mbr, .ref mbp, .ref mby, .int (nI bl), .int (nI v9), .int (nI v10), .int (nI v11), .int v12, .ref an, .ref va])), (mby, .inl (y 0, 150, .inl fmb)), (va, .inl (y 0, 2, .inl v13)), (an, .inl (y 0, 76, .inl v14))] := hD
      have h30 : kz_go fmb bl e (ks_fld fmb bl ta e afi agl (12 - asp) kd) v9 v10 v11 v12 v15 agl (12 - asp) v14 := h30 rfl
      exact W.zret (v := 1) hx hb hr (by decide) (fun tZ ht hW => ⟨⟨1, (v9, v10, v11, v12, v13, v14, v15, agl, asp), rfl, ⟨by first | omega | (dsimp only; omega), by first | omega | (dsimp only; omega), by first | omega | (dsimp only; omega), h19, by first | omega | (dsimp only; omega), h21, by first | omega | (dsimp only; omega), h22, h23, h24, h25, by first | omega | (dsimp only; omega), h26, Or.inr rfl, by first | omega | (dsimp only; omega), by first | omega | (dsimp only; omega), (fun h9 => absurd h9 (by decide)), (fun _ => kz_go.as h30 (ks_it1 h4))⟩, by rw [ht]; exact hP.sub [0, 1, 2, 3] rfl, hD.sub [0, 1, 2, 3] (by decide) rfl⟩, hS.F ht⟩) hS.2.2 dX11_takesItem_23
  · skip
    have hP : va_P D vwCl [(va, .inl (y 0, 2, .inl fva)), (an, .inl (y 0, 76, .inl fan)), (mo, .inr (11, [.ref to, .ref ke, .ref ik, .ref mrf, .long mab, .long mbl, .ref ha, .ref r0, .ref mbr, .ref mbp, .ref mby, .int (nI bl), .int (nI ta), .int (nI tl), .int (nI tk), .int vv, .ref an, .ref va])), (mby, .inl (y 0, 150, .inl fmb))] H := hP
    have hD : va_D A [(va, .inl (y 0, 2, .inl fva)), (an, .inl (y 0, 76, .inl fan)), (mo, .inr (11, [.ref to, .ref ke, .ref ik, .ref mrf, .long mab, .long mbl, .ref ha, .ref r0, .ref mbr, .ref mbp, .ref mby, .int (nI bl), .int (nI ta), .int (nI tl), .int (nI tk), .int vv, .ref an, .ref va])), (mby, .inl (y 0, 150, .inl fmb))] := hD
    refine lv_if_eq (tgt := 24) hx hb dX11_takesItem_16 (by decide) (fun _ => ?_) (fun h9 => absurd h9 (by decide))
    refine lv_aload_n hx hb dX11_takesItem_24 rfl (lv_at hl 0 rfl) ?_
    refine lv_iconst (v := 5) hx hb dX11_takesItem_25 (by decide) ?_
    refine lv_bipush (v := 103) hx hb dX11_takesItem_26 (by decide) ?_
    refine lv_bipush (v := 108) hx hb dX11_takesItem_28 (by decide) ?_
    refine lv_bipush (v := 101) hx hb dX11_takesItem_30 (by decide) ?_
    refine lv_bipush (v := 97) hx hb dX11_takesItem_32 (by decide) ?_
    refine lv_bipush (v := 110) hx hb dX11_takesItem_34 (by decide) ?_
    refine lv_iconst (v := 0) hx hb dX11_takesItem_36 (by decide) ?_
    have hs31 : kw_Split [(va, .inl (y 0, 2, .inl fva)), (an, .inl (y 0, 76, .inl fan)), (mo, .inr (11, [.ref to, .ref ke, .ref ik, .ref mrf, .long mab, .long mbl, .ref ha, .ref r0, .ref mbr, .ref mbp, .ref mby, .int (nI bl), .int (nI ta), .int (nI tl), .int (nI tk), .int vv, .ref an, .ref va])), (mby, .inl (y 0, 150, .inl fmb))] [(mo, .inr (11, [.ref to, .ref ke, .ref ik, .ref mrf, .long mab, .long mbl, .ref ha, .ref r0, .ref mbr, .ref mbp, .ref mby, .int (nI bl), .int (nI ta), .int (nI tl), .int (nI tk), .int vv, .ref an, .ref va])), (mby, .inl (y 0, 150, .inl fmb))] [(va, .inl (y 0, 2, .inl fva)), (an, .inl (y 0, 76, .inl fan))] [2, 3] [0, 1] := ⟨rfl, rfl, rfl, rfl, rfl, by decide⟩
    refine kw_go_i hs31 hP hD hS hA (va_runV (As := [.int 5, .int 103, .int 108, .int 101, .int 97, .int 110, .int 0]) (rest := []) ⟨hx, hb, hml, hown, hts⟩ (gr_Msp3 l D y mo to ke ik mrf ha r0 mbr mbp mby an va mab mbl bl ta tl tk vv fmb e hbl he heb htk _) (cwV 7 hts gX11_takesItem_X11_spells rfl rfl rfl (by decide +kernel) ⟨Nat.le_of_ble_eq_true rfl, Nat.le_of_ble_eq_true rfl⟩) (kw_PreV (ci := 11) (q0 := 2) hs31 hP hD hK hN rfl rfl) rfl rfl hl.1 rfl (lv_room (Nat.le_of_ble_eq_true rfl)) dX11_takesItem_37 ⟨Nat.le_of_ble_eq_true rfl, Nat.le_of_ble_eq_true rfl⟩) (fun r32 u33 H locs hq hP hD hS => ?_)
    rcases hq with ⟨h34, rfl⟩ | ⟨h35, rfl⟩
    · skip
      have hP : va_P D vwCl [(va, .inl (y 0, 2, .inl fva)), (an, .inl (y 0, 76, .inl fan)), (mo, .inr (11, [.ref to, .ref ke, .ref ik, .ref mrf, .long mab, .long mbl, .ref ha, .ref r0, .ref mbr, .ref mbp, .ref mby, .int (nI bl), .int (nI ta), .int (nI tl), .int (nI tk), .int vv, .ref an, .ref va])), (mby, .inl (y 0, 150, .inl fmb))] H := hP
      have hD : va_D A [(va, .inl (y 0, 2, .inl fva)), (an, .inl (y 0, 76, .inl fan)), (mo, .inr (11, [.ref to, .ref ke, .ref ik, .ref mrf, .long mab, .long mbl, .ref ha, .ref r0, .ref mbr, .ref mbp, .ref mby, .int (nI bl), .int (nI ta), .int (nI tl), .int (nI tk), .int vv, .ref an, .ref va])), (mby, .inl (y 0, 150, .inl fmb))] := hD
      refine lv_if_eq (tgt := 48) hx hb dX11_takesItem_40 (by decide) (fun h9 => absurd h9 (by decide)) (fun _ => ?_)
      refine lv_aload_n hx hb dX11_takesItem_43 rfl (lv_at hl 0 rfl) ?_
      have hs36 : kw_Split [(va, .inl (y 0, 2, .inl fva)), (an, .inl (y 0, 76, .inl fan)), (mo, .inr (11, [.ref to, .ref ke, .ref ik, .ref mrf, .long mab, .long mbl, .ref ha, .ref r0, .ref mbr, .ref mbp, .ref mby, .int (nI bl), .int (nI ta), .int (nI tl), .int (nI tk), .int vv, .ref an, .ref va])), (mby, .inl (y 0, 150, .inl fmb))] [(mo, .inr (11, [.ref to, .ref ke, .ref ik, .ref mrf, .long mab, .long mbl, .ref ha, .ref r0, .ref mbr, .ref mbp, .ref mby, .int (nI bl), .int (nI ta), .int (nI tl), .int (nI tk), .int vv, .ref an, .ref va])), (mby, .inl (y 0, 150, .inl fmb)), (va, .inl (y 0, 2, .inl fva)), (an, .inl (y 0, 76, .inl fan))] [] [2, 3, 0, 1] [] := ⟨rfl, rfl, rfl, rfl, rfl, by decide⟩
      refine kw_go_i hs36 hP hD hS hA (va_runV (As := []) (rest := []) ⟨hx, hb, hml, hown, hts⟩ (gr_MtakesGlean l D y mo to ke ik mrf ha r0 mbr mbp mby an va mab mbl bl ta tl tk vv fmb fva fan afi agl ami ano aun asp e kd hbl he heb htk ha0_ ha1_ ha2_ ha3_ ha4_ ha21_ hkan hB0 hB1 hB2 hB3 hB4 hB5 hagf hkd _) (cwV 0 hts gX11_takesItem_X11_takesGlean rfl rfl rfl (by decide +kernel) ⟨Nat.le_of_ble_eq_true rfl, Nat.le_of_ble_eq_true rfl⟩) (kw_PreV (ci := 11) (q0 := 2) hs36 hP hD hK hN rfl rfl) rfl rfl hl.1 rfl (lv_room (Nat.le_of_ble_eq_true rfl)) dX11_takesItem_44 ⟨Nat.le_of_ble_eq_true rfl, Nat.le_of_ble_eq_true rfl⟩) (fun r37 u38 H locs hq hP hD hS => ?_)
      obtain ⟨v39, v40, v41, v42, v43, v44, v45⟩ := u38
      try dsimp only at hq
      obtain ⟨h46, h47, h48, h49, h50, h51, h52, h53, h54, h55, h56, (rfl | rfl), h57, h58, h59, h60⟩ := hq
      · skip
        have hP : va_P D vwCl [(mo, .inr (11, [.ref to, .ref ke, .ref ik, .ref mrf, .long mab, .long mbl, .ref ha, .ref r0, .ref mbr, .ref mbp, .ref mby, .int (nI bl), .int (nI v39), .int (nI v40), .int (nI v41), .int v42, .ref an, .ref va])), (mby, .inl (y 0, 150, .inl fmb)), (va, .inl (y 0, 2, .inl v43)), (an, .inl (y 0, 76, .inl v44))] H := hP
        have hD : va_D A [(mo, .inr (11, [.ref to, .ref ke, .ref ik, .ref mrf, .long mab, .long mbl, .ref ha, .ref r0, .ref mbr, .ref mbp, .ref mby, .int (nI bl), .int (nI v39), .int (nI v40), .int (nI v41), .int v42, .ref an, .ref va])), (mby, .inl (y 0, 150, .inl fmb)), (va, .inl (y 0, 2, .inl v43)), (an, .inl (y 0, 76, .inl v44))] := hD
        have h59 : ks_gln fmb bl e afi agl (12 - asp) kd = ks_flt v39 := h59 rfl
        exact W.zret (v := 0) hx hb hr (by decide) (fun tZ ht hW => ⟨⟨0, (v39, v40, v41, v42, v43, v44, afi, agl, v45), rfl, ⟨by first | omega | (dsimp only; omega), by first | omega | (dsimp only; omega), by first | omega | (dsimp only; omega), h49, by first | omega | (dsimp only; omega), h50, by first | omega | (dsimp only; omega), h51, h52, h53, h54, by first | omega | (dsimp only; omega), h56, Or.inl rfl, by first | omega | (dsimp only; omega), by first | omega | (dsimp only; omega), (fun _ => (ks_it3 h5 (ks_n32 h34) h34).trans h59), (fun h9 => absurd h9 (by decide))⟩, by rw [ht]; exact hP.sub [0, 1, 2, 3] rfl, hD.sub [0, 1, 2, 3] (by decide) rfl⟩, hS.F ht⟩) hS.2.2 dX11_takesItem_47
      · skip
        have hP : va_P D vwCl [(mo, .inr (11, [.ref to, .ref ke, .ref ik, .ref mrf, .long mab, .long mbl, .ref ha, .ref r0, .ref mbr, .ref mbp, .ref mby, .int (nI bl), .int (nI v39), .int (nI v40), .int (nI v41), .int v42, .ref an, .ref va])), (mby, .inl (y 0, 150, .inl fmb)), (va, .inl (y 0, 2, .inl v43)), (an, .inl (y 0, 76, .inl v44))] H := hP
        have hD : va_D A [(mo, .inr (11, [.ref to, .ref ke, .ref ik, .ref mrf, .long mab, .long mbl, .ref ha, .ref r0, .ref mbr, .ref mbp, .ref mby, .int (nI bl), .int (nI v39), .int (nI v40), .int (nI v41), .int v42, .ref an, .ref va])), (mby, .inl (y 0, 150, .inl fmb)), (va, .inl (y 0, 2, .inl v43)), (an, .inl (y 0, 76, .inl v44))] := hD
        have h60 : kz_go fmb bl e (ks_gln fmb bl e afi agl (12 - asp) kd) v39 v40 v41 v42 afi agl (12 - v45) v44 := h60 rfl
        exact W.zret (v := 1) hx hb hr (by decide) (fun tZ ht hW => ⟨⟨1, (v39, v40, v41, v42, v43, v44, afi, agl, v45), rfl, ⟨by first | omega | (dsimp only; omega), by first | omega | (dsimp only; omega), by first | omega | (dsimp only; omega), h49, by first | omega | (dsimp only; omega), h50, by first | omega | (dsimp only; omega), h51, h52, h53, h54, by first | omega | (dsimp only; omega), h56, Or.inr rfl, by first | omega | (dsimp only; omega), by first | omega | (dsimp only; omega), (fun h9 => absurd h9 (by decide)), (fun _ => kz_go.as h60 (ks_it3 h5 (ks_n32 h34) h34))⟩, by rw [ht]; exact hP.sub [0, 1, 2, 3] rfl, hD.sub [0, 1, 2, 3] (by decide) rfl⟩, hS.F ht⟩) hS.2.2 dX11_takesItem_47
    · skip
      have hP : va_P D vwCl [(va, .inl (y 0, 2, .inl fva)), (an, .inl (y 0, 76, .inl fan)), (mo, .inr (11, [.ref to, .ref ke, .ref ik, .ref mrf, .long mab, .long mbl, .ref ha, .ref r0, .ref mbr, .ref mbp, .ref mby, .int (nI bl), .int (nI ta), .int (nI tl), .int (nI tk), .int vv, .ref an, .ref va])), (mby, .inl (y 0, 150, .inl fmb))] H := hP
      have hD : va_D A [(va, .inl (y 0, 2, .inl fva)), (an, .inl (y 0, 76, .inl fan)), (mo, .inr (11, [.ref to, .ref ke, .ref ik, .ref mrf, .long mab, .long mbl, .ref ha, .ref r0, .ref mbr, .ref mbp, .ref mby, .int (nI bl), .int (nI ta), .int (nI tl), .int (nI tk), .int vv, .ref an, .ref va])), (mby, .inl (y 0, 150, .inl fmb))] := hD
      refine lv_if_eq (tgt := 48) hx hb dX11_takesItem_40 (by decide) (fun _ => ?_) (fun h9 => absurd h9 (by decide))
      refine lv_aload_n hx hb dX11_takesItem_48 rfl (lv_at hl 0 rfl) ?_
      have hs61 : kw_Split [(va, .inl (y 0, 2, .inl fva)), (an, .inl (y 0, 76, .inl fan)), (mo, .inr (11, [.ref to, .ref ke, .ref ik, .ref mrf, .long mab, .long mbl, .ref ha, .ref r0, .ref mbr, .ref mbp, .ref mby, .int (nI bl), .int (nI ta), .int (nI tl), .int (nI tk), .int vv, .ref an, .ref va])), (mby, .inl (y 0, 150, .inl fmb))] [(mo, .inr (11, [.ref to, .ref ke, .ref ik, .ref mrf, .long mab, .long mbl, .ref ha, .ref r0, .ref mbr, .ref mbp, .ref mby, .int (nI bl), .int (nI ta), .int (nI tl), .int (nI tk), .int vv, .ref an, .ref va])), (mby, .inl (y 0, 150, .inl fmb))] [(va, .inl (y 0, 2, .inl fva)), (an, .inl (y 0, 76, .inl fan))] [2, 3] [0, 1] := ⟨rfl, rfl, rfl, rfl, rfl, by decide⟩
      refine kw_go_i hs61 hP hD hS hA (va_runV (As := []) (rest := []) ⟨hx, hb, hml, hown, hts⟩ (gr_Mgw l D y mo to ke ik mrf ha r0 mbr mbp mby an va mab mbl bl ta tl tk vv fmb e hbl he heb htk _) (cwV 0 hts gX11_takesItem_X11_isGleanerWord rfl rfl rfl (by decide +kernel) ⟨Nat.le_of_ble_eq_true rfl, Nat.le_of_ble_eq_true rfl⟩) (kw_PreV (ci := 11) (q0 := 2) hs61 hP hD hK hN rfl rfl) rfl rfl hl.1 rfl (lv_room (Nat.le_of_ble_eq_true rfl)) dX11_takesItem_49 ⟨Nat.le_of_ble_eq_true rfl, Nat.le_of_ble_eq_true rfl⟩) (fun r62 u63 H locs hq hP hD hS => ?_)
      rcases hq with ⟨h64, rfl⟩ | ⟨h65, rfl⟩
      · skip
        have hP : va_P D vwCl [(va, .inl (y 0, 2, .inl fva)), (an, .inl (y 0, 76, .inl fan)), (mo, .inr (11, [.ref to, .ref ke, .ref ik, .ref mrf, .long mab, .long mbl, .ref ha, .ref r0, .ref mbr, .ref mbp, .ref mby, .int (nI bl), .int (nI ta), .int (nI tl), .int (nI tk), .int vv, .ref an, .ref va])), (mby, .inl (y 0, 150, .inl fmb))] H := hP
        have hD : va_D A [(va, .inl (y 0, 2, .inl fva)), (an, .inl (y 0, 76, .inl fan)), (mo, .inr (11, [.ref to, .ref ke, .ref ik, .ref mrf, .long mab, .long mbl, .ref ha, .ref r0, .ref mbr, .ref mbp, .ref mby, .int (nI bl), .int (nI ta), .int (nI tl), .int (nI tk), .int vv, .ref an, .ref va])), (mby, .inl (y 0, 150, .inl fmb))] := hD
        refine lv_if_eq (tgt := 66) hx hb dX11_takesItem_52 (by decide) (fun h9 => absurd h9 (by decide)) (fun _ => ?_)
        refine lv_aload_n hx hb dX11_takesItem_55 rfl (lv_at hl 0 rfl) ?_
        have hs66 : kw_Split [(va, .inl (y 0, 2, .inl fva)), (an, .inl (y 0, 76, .inl fan)), (mo, .inr (11, [.ref to, .ref ke, .ref ik, .ref mrf, .long mab, .long mbl, .ref ha, .ref r0, .ref mbr, .ref mbp, .ref mby, .int (nI bl), .int (nI ta), .int (nI tl), .int (nI tk), .int vv, .ref an, .ref va])), (mby, .inl (y 0, 150, .inl fmb))] [(mo, .inr (11, [.ref to, .ref ke, .ref ik, .ref mrf, .long mab, .long mbl, .ref ha, .ref r0, .ref mbr, .ref mbp, .ref mby, .int (nI bl), .int (nI ta), .int (nI tl), .int (nI tk), .int vv, .ref an, .ref va])), (mby, .inl (y 0, 150, .inl fmb)), (va, .inl (y 0, 2, .inl fva)), (an, .inl (y 0, 76, .inl fan))] [] [2, 3, 0, 1] [] := ⟨rfl, rfl, rfl, rfl, rfl, by decide⟩
        refine kw_go_i hs66 hP hD hS hA (va_runV (As := []) (rest := []) ⟨hx, hb, hml, hown, hts⟩ (gr_MtakesGleaner l D y mo to ke ik mrf ha r0 mbr mbp mby an va mab mbl bl ta tl tk vv fmb fva fan afi agl ami ano aun asp e kd hbl he heb htk ha0_ ha1_ ha2_ ha3_ ha4_ ha21_ hkan hB0 hB1 hB2 hB3 hB4 hB5 hagf hkd _) (cwV 0 hts gX11_takesItem_X11_takesGleaner rfl rfl rfl (by decide +kernel) ⟨Nat.le_of_ble_eq_true rfl, Nat.le_of_ble_eq_true rfl⟩) (kw_PreV (ci := 11) (q0 := 2) hs66 hP hD hK hN rfl rfl) rfl rfl hl.1 rfl (lv_room (Nat.le_of_ble_eq_true rfl)) dX11_takesItem_56 ⟨Nat.le_of_ble_eq_true rfl, Nat.le_of_ble_eq_true rfl⟩) (fun r67 u68 H locs hq hP hD hS => ?_)
        obtain ⟨v69, v70, v71, v72, v73, v74, v75⟩ := u68
        try dsimp only at hq
        obtain ⟨h76, h77, h78, h79, h80, h81, h82, h83, h84, h85, h86, (rfl | rfl), h87, h88, h89, h90⟩ := hq
        · skip
          have hP : va_P D vwCl [(mo, .inr (11, [.ref to, .ref ke, .ref ik, .ref mrf, .long mab, .long mbl, .ref ha, .ref r0, .ref mbr, .ref mbp, .ref mby, .int (nI bl), .int (nI v69), .int (nI v70), .int (nI v71), .int v72, .ref an, .ref va])), (mby, .inl (y 0, 150, .inl fmb)), (va, .inl (y 0, 2, .inl v73)), (an, .inl (y 0, 76, .inl v74))] H := hP
          have hD : va_D A [(mo, .inr (11, [.ref to, .ref ke, .ref ik, .ref mrf, .long mab, .long mbl, .ref ha, .ref r0, .ref mbr, .ref mbp, .ref mby, .int (nI bl), .int (nI v69), .int (nI v70), .int (nI v71), .int v72, .ref an, .ref va])), (mby, .inl (y 0, 150, .inl fmb)), (va, .inl (y 0, 2, .inl v73)), (an, .inl (y 0, 76, .inl v74))] := hD
          have h89 : ks_glr fmb bl ta e afi agl (12 - asp) kd = ks_flt v69 := h89 rfl
          refine lv_if_eq (tgt := 66) hx hb dX11_takesItem_59 (by decide) (fun _ => ?_) (fun h9 => absurd h9 (by decide))
          refine lv_iconst (v := 0) hx hb dX11_takesItem_66 (by decide) ?_
          exact W.zret (v := 0) hx hb hr (by decide) (fun tZ ht hW => ⟨⟨0, (v69, v70, v71, v72, v73, v74, afi, v75, asp), rfl, ⟨by first | omega | (dsimp only; omega), by first | omega | (dsimp only; omega), by first | omega | (dsimp only; omega), h79, by first | omega | (dsimp only; omega), h80, by first | omega | (dsimp only; omega), h82, h83, h84, h85, by first | omega | (dsimp only; omega), h86, Or.inl rfl, by first | omega | (dsimp only; omega), by first | omega | (dsimp only; omega), (fun _ => (ks_it2 h5 h64).trans h89), (fun h9 => absurd h9 (by decide))⟩, by rw [ht]; exact hP.sub [0, 1, 2, 3] rfl, hD.sub [0, 1, 2, 3] (by decide) rfl⟩, hS.F ht⟩) hS.2.2 dX11_takesItem_67
        · skip
          have hP : va_P D vwCl [(mo, .inr (11, [.ref to, .ref ke, .ref ik, .ref mrf, .long mab, .long mbl, .ref ha, .ref r0, .ref mbr, .ref mbp, .ref mby, .int (nI bl), .int (nI v69), .int (nI v70), .int (nI v71), .int v72, .ref an, .ref va])), (mby, .inl (y 0, 150, .inl fmb)), (va, .inl (y 0, 2, .inl v73)), (an, .inl (y 0, 76, .inl v74))] H := hP
          have hD : va_D A [(mo, .inr (11, [.ref to, .ref ke, .ref ik, .ref mrf, .long mab, .long mbl, .ref ha, .ref r0, .ref mbr, .ref mbp, .ref mby, .int (nI bl), .int (nI v69), .int (nI v70), .int (nI v71), .int v72, .ref an, .ref va])), (mby, .inl (y 0, 150, .inl fmb)), (va, .inl (y 0, 2, .inl v73)), (an, .inl (y 0, 76, .inl v74))] := hD
          have h90 : kz_go fmb bl e (ks_glr fmb bl ta e afi agl (12 - asp) kd) v69 v70 v71 v72 afi v75 (12 - asp) v74 := h90 rfl
          refine lv_if_eq (tgt := 66) hx hb dX11_takesItem_59 (by decide) (fun h9 => absurd h9 (by decide)) (fun _ => ?_)
          refine lv_iconst (v := 1) hx hb dX11_takesItem_62 (by decide) ?_
          refine lv_goto (tgt := 67) hx hb dX11_takesItem_63 (by decide) ?_
          exact W.zret (v := 1) hx hb hr (by decide) (fun tZ ht hW => ⟨⟨1, (v69, v70, v71, v72, v73, v74, afi, v75, asp), rfl, ⟨by first | omega | (dsimp only; omega), by first | omega | (dsimp only; omega), by first | omega | (dsimp only; omega), h79, by first | omega | (dsimp only; omega), h80, by first | omega | (dsimp only; omega), h82, h83, h84, h85, by first | omega | (dsimp only; omega), h86, Or.inr rfl, by first | omega | (dsimp only; omega), by first | omega | (dsimp only; omega), (fun h9 => absurd h9 (by decide)), (fun _ => kz_go.as h90 (ks_it2 h5 h64))⟩, by rw [ht]; exact hP.sub [0, 1, 2, 3] rfl, hD.sub [0, 1, 2, 3] (by decide) rfl⟩, hS.F ht⟩) hS.2.2 dX11_takesItem_67
      · skip
        have hP : va_P D vwCl [(va, .inl (y 0, 2, .inl fva)), (an, .inl (y 0, 76, .inl fan)), (mo, .inr (11, [.ref to, .ref ke, .ref ik, .ref mrf, .long mab, .long mbl, .ref ha, .ref r0, .ref mbr, .ref mbp, .ref mby, .int (nI bl), .int (nI ta), .int (nI tl), .int (nI tk), .int vv, .ref an, .ref va])), (mby, .inl (y 0, 150, .inl fmb))] H := hP
        have hD : va_D A [(va, .inl (y 0, 2, .inl fva)), (an, .inl (y 0, 76, .inl fan)), (mo, .inr (11, [.ref to, .ref ke, .ref ik, .ref mrf, .long mab, .long mbl, .ref ha, .ref r0, .ref mbr, .ref mbp, .ref mby, .int (nI bl), .int (nI ta), .int (nI tl), .int (nI tk), .int vv, .ref an, .ref va])), (mby, .inl (y 0, 150, .inl fmb))] := hD
        refine lv_if_eq (tgt := 66) hx hb dX11_takesItem_52 (by decide) (fun _ => ?_) (fun h9 => absurd h9 (by decide))
        refine lv_iconst (v := 0) hx hb dX11_takesItem_66 (by decide) ?_
        exact W.zret (v := 0) hx hb hr (by decide) (fun tZ ht hW => ⟨⟨0, (ta, tl, tk, vv, fva, fan, afi, agl, asp), rfl, ⟨by first | omega | (dsimp only; omega), by first | omega | (dsimp only; omega), by first | omega | (dsimp only; omega), hkan, by first | omega | (dsimp only; omega), ha0_, by first | omega | (dsimp only; omega), ha1_, ha2_, ha3_, ha4_, by first | omega | (dsimp only; omega), ha21_, Or.inl rfl, by first | omega | (dsimp only; omega), by first | omega | (dsimp only; omega), (fun _ => ks_itN h5 h65 h35), (fun h9 => absurd h9 (by decide))⟩, by rw [ht]; exact hP.sub [2, 3, 0, 1] rfl, hD.sub [2, 3, 0, 1] (by decide) rfl⟩, hS.F ht⟩) hS.2.2 dX11_takesItem_67

set_option maxHeartbeats 4000000 in
set_option maxRecDepth 100000 in
theorem gq_sread_bad (l : Launch) (D : va_G) (y : Nat → ClassId) (mo : Nat) (to : Nat) (ke : Nat) (ik : Nat) (mrf : Nat) (ha : Nat) (r0 : Nat) (mbr : Nat) (mbp : Nat) (mby : Nat) (an : Nat) (va : Nat) (mab : Int64) (mbl : Int64) (bl : Nat) (ta : Nat) (tl : Nat) (tk : Nat) (vv : Int32) (ft : Nat → Int32) (fi : Nat) (gl : Nat) (mi : Nat) (no : Nat) (un : Nat) (fmb : Nat → Int32) (fva : Nat → Int32) (fan : Nat → Int32) (afi : Nat) (agl : Nat) (ami : Nat) (ano : Nat) (aun : Nat) (asp : Nat) (q : Nat) (hk0_ : ft 0 = (nI fi)) (hk1_ : ft 1 = (nI gl)) (hk2_ : ft 2 = (nI mi)) (hk3_ : ft 3 = (nI no)) (hk4_ : ft 4 = (nI un)) (hkt : kr_t 228 ft) (hfi : fi ≤ 6) (hgl : gl ≤ 5) (hmi : mi ≤ 4) (hno : no ≤ 6) (hun : un ≤ 8) (hgf : (gl = 0 ∨ 0 < fi)) (hbl : bl ≤ 150) (ha0_ : fan 0 = (nI afi)) (ha1_ : fan 1 = (nI agl)) (ha2_ : fan 2 = (nI ami)) (ha3_ : fan 3 = (nI ano)) (ha4_ : fan 4 = (nI aun)) (ha21_ : fan 21 = (nI asp)) (hkan : kr_t 76 fan) (hB0 : afi ≤ 6) (hB1 : agl ≤ 5) (hB2 : ami ≤ 4) (hB3 : ano ≤ 6) (hB4 : aun ≤ 8) (hB5 : asp ≤ 12) (hagf : (agl = 0 ∨ 0 < afi)) (hA1 : ks_read fmb bl = ks_flt q) : kw_Mi l yX11_read wsX11_read ({ frames := 8, cells := 0, slots := 0, locals := 219 }) D y [.ref mo] [(mo, .inr (11, [.ref to, .ref ke, .ref ik, .ref mrf, .long mab, .long mbl, .ref ha, .ref r0, .ref mbr, .ref mbp, .ref mby, .int (nI bl), .int (nI ta), .int (nI tl), .int (nI tk), .int vv, .ref an, .ref va])), (mby, .inl (y 0, 150, .inl fmb)), (va, .inl (y 0, 2, .inl fva)), (an, .inl (y 0, 76, .inl fan)), (to, .inl (y 0, 228, .inl ft))] (fun (r : Int32) (u : Nat × Nat × Nat × Int32 × (Nat → Int32) × (Nat → Int32) × Nat × Nat × Nat × Nat × Nat × Nat) => u.1 ≤ 150 ∧ u.2.1 ≤ 150 ∧ u.2.2.1 ≤ 4 ∧ kr_t 76 u.2.2.2.2.2.1 ∧ u.2.2.2.2.2.2.1 ≤ 6 ∧ u.2.2.2.2.2.1 0 = (nI u.2.2.2.2.2.2.1) ∧ u.2.2.2.2.2.2.2.1 ≤ 5 ∧ u.2.2.2.2.2.1 1 = (nI u.2.2.2.2.2.2.2.1) ∧ u.2.2.2.2.2.2.2.2.1 ≤ 4 ∧ u.2.2.2.2.2.1 2 = (nI u.2.2.2.2.2.2.2.2.1) ∧ u.2.2.2.2.2.2.2.2.2.1 ≤ 6 ∧ u.2.2.2.2.2.1 3 = (nI u.2.2.2.2.2.2.2.2.2.1) ∧ u.2.2.2.2.2.2.2.2.2.2.1 ≤ 8 ∧ u.2.2.2.2.2.1 4 = (nI u.2.2.2.2.2.2.2.2.2.2.1) ∧ u.2.2.2.2.2.2.2.2.2.2.2 ≤ 12 ∧ u.2.2.2.2.2.1 21 = (nI u.2.2.2.2.2.2.2.2.2.2.2) ∧ (u.2.2.2.2.2.2.2.1 = 0 ∨ 0 < u.2.2.2.2.2.2.1) ∧ (gl = 0 ∨ 0 < fi) ∧ r = ((-10) - (nI q))) (fun u => [(mo, .inr (11, [.ref to, .ref ke, .ref ik, .ref mrf, .long mab, .long mbl, .ref ha, .ref r0, .ref mbr, .ref mbp, .ref mby, .int (nI bl), .int (nI u.1), .int (nI u.2.1), .int (nI u.2.2.1), .int u.2.2.2.1, .ref an, .ref va])), (mby, .inl (y 0, 150, .inl fmb)), (va, .inl (y 0, 2, .inl u.2.2.2.2.1)), (an, .inl (y 0, 76, .inl u.2.2.2.2.2.1)), (to, .inl (y 0, 228, .inl ft))]) 0 0 := by
  refine kw_Mi.of (cc := cX11_read) (maxL := 3) (ret := (some .int)) (by decide) rfl ?_
  intro pZ eZ s mZ beZ meZ cZ A hE
  obtain ⟨hx, hb, hr, hml, hts, hown, hlocks, hin, hA, hP, hD, hK, hN⟩ := hE
  have hS : va_S A s.heap s.heap [] := va_S.rf
  have hl := lv_entry ([.ref mo]) (n := 3) (Nat.le_of_ble_eq_true rfl)
  rw [lg_entry_eq]
  generalize (lg_sl ([.ref mo]) ++ List.replicate (3 - (lg_sl ([.ref mo])).length) Slot.unset).toArray = ls at hl ⊢
  have hl : lv_has ls 3 [(0, .ref mo)] := hl
  have fw1 := hts (.fieldLink RX11 222 "GleanDuskModel" "tokenAt" "I") (List.mem_of_getElem? (i := 1) rfl)
  have fw2 := hts (.fieldLink RX11 228 "GleanDuskModel" "token" "I") (List.mem_of_getElem? (i := 2) rfl)
  have iw11 : ∀ w ∈ wsX110, w ∈ wsX11_read := fun _ h => List.mem_cons_of_mem _ (List.mem_append_right _ h)
  refine lv_aload_n hx hb dX11_read_0 rfl (lv_at hl 0 rfl) ?_
  refine lv_iconst (v := 0) hx hb dX11_read_1 (by decide) ?_
  have hs1 : kw_Split [(mo, .inr (11, [.ref to, .ref ke, .ref ik, .ref mrf, .long mab, .long mbl, .ref ha, .ref r0, .ref mbr, .ref mbp, .ref mby, .int (nI bl), .int (nI ta), .int (nI tl), .int (nI tk), .int vv, .ref an, .ref va])), (mby, .inl (y 0, 150, .inl fmb)), (va, .inl (y 0, 2, .inl fva)), (an, .inl (y 0, 76, .inl fan)), (to, .inl (y 0, 228, .inl ft))] [(mo, .inr (11, [.ref to, .ref ke, .ref ik, .ref mrf, .long mab, .long mbl, .ref ha, .ref r0, .ref mbr, .ref mbp, .ref mby, .int (nI bl), .int (nI ta), .int (nI tl), .int (nI tk), .int vv, .ref an, .ref va])), (mby, .inl (y 0, 150, .inl fmb))] [(va, .inl (y 0, 2, .inl fva)), (an, .inl (y 0, 76, .inl fan)), (to, .inl (y 0, 228, .inl ft))] [0, 1] [2, 3, 4] := ⟨rfl, rfl, rfl, rfl, rfl, by decide⟩
  refine kw_go_v hs1 hP hD hS hA (va_runV (As := [.int 0]) (rest := []) ⟨hx, hb, hml, hown, hts⟩ (gr_Mlook l D y mo to ke ik mrf ha r0 mbr mbp mby an va mab mbl bl ta tl tk vv fmb 0 hbl (by omega) _) (cwV 1 hts gX11_read_X11_lookAt rfl rfl rfl (by decide +kernel) ⟨Nat.le_of_ble_eq_true rfl, Nat.le_of_ble_eq_true rfl⟩) (kw_PreV (ci := 11) (q0 := 0) hs1 hP hD hK hN rfl rfl) rfl rfl hl.1 rfl (lv_room (Nat.le_of_ble_eq_true rfl)) dX11_read_2 ⟨Nat.le_of_ble_eq_true rfl, Nat.le_of_ble_eq_true rfl⟩) (fun u3 H locs hq hP hD hS => ?_)
  obtain ⟨v4, v5, v6, v7⟩ := u3
  try dsimp only at hq
  obtain ⟨h8, h9, h10, h11, h12, h13⟩ := hq
  have hP : va_P D vwCl [(va, .inl (y 0, 2, .inl fva)), (an, .inl (y 0, 76, .inl fan)), (to, .inl (y 0, 228, .inl ft)), (mo, .inr (11, [.ref to, .ref ke, .ref ik, .ref mrf, .long mab, .long mbl, .ref ha, .ref r0, .ref mbr, .ref mbp, .ref mby, .int (nI bl), .int (nI v4), .int (nI v5), .int (nI v6), .int v7, .ref an, .ref va])), (mby, .inl (y 0, 150, .inl fmb))] H := hP
  have hD : va_D A [(va, .inl (y 0, 2, .inl fva)), (an, .inl (y 0, 76, .inl fan)), (to, .inl (y 0, 228, .inl ft)), (mo, .inr (11, [.ref to, .ref ke, .ref ik, .ref mrf, .long mab, .long mbl, .ref ha, .ref r0, .ref mbr, .ref mbp, .ref mby, .int (nI bl), .int (nI v4), .int (nI v5), .int (nI v6), .int v7, .ref an, .ref va])), (mby, .inl (y 0, 150, .inl fmb))] := hD
  obtain ⟨rfl, rfl, rfl, hn14⟩ := h13
  have hk15 := ks_K4 fmb bl 0
  have hk16 := ks_SL (f := fmb) (n := bl) (p := 0) (by omega)
  have hP : va_P D vwCl [(va, .inl (y 0, 2, .inl fva)), (an, .inl (y 0, 76, .inl fan)), (to, .inl (y 0, 228, .inl ft)), (mo, .inr (11, [.ref to, .ref ke, .ref ik, .ref mrf, .long mab, .long mbl, .ref ha, .ref r0, .ref mbr, .ref mbp, .ref mby, .int (nI bl), .int (nI (ks_S fmb bl 0)), .int (nI (ks_L fmb bl 0)), .int (nI (ks_K fmb bl 0)), .int v7, .ref an, .ref va])), (mby, .inl (y 0, 150, .inl fmb))] H := hP
  have hD : va_D A [(va, .inl (y 0, 2, .inl fva)), (an, .inl (y 0, 76, .inl fan)), (to, .inl (y 0, 228, .inl ft)), (mo, .inr (11, [.ref to, .ref ke, .ref ik, .ref mrf, .long mab, .long mbl, .ref ha, .ref r0, .ref mbr, .ref mbp, .ref mby, .int (nI bl), .int (nI (ks_S fmb bl 0)), .int (nI (ks_L fmb bl 0)), .int (nI (ks_K fmb bl 0)), .int v7, .ref an, .ref va])), (mby, .inl (y 0, 150, .inl fmb))] := hD
  refine lv_aload_n hx hb dX11_read_5 rfl (lv_at hl 0 rfl) ?_
  have hs17 : kw_Split [(va, .inl (y 0, 2, .inl fva)), (an, .inl (y 0, 76, .inl fan)), (to, .inl (y 0, 228, .inl ft)), (mo, .inr (11, [.ref to, .ref ke, .ref ik, .ref mrf, .long mab, .long mbl, .ref ha, .ref r0, .ref mbr, .ref mbp, .ref mby, .int (nI bl), .int (nI (ks_S fmb bl 0)), .int (nI (ks_L fmb bl 0)), .int (nI (ks_K fmb bl 0)), .int v7, .ref an, .ref va])), (mby, .inl (y 0, 150, .inl fmb))] [(mo, .inr (11, [.ref to, .ref ke, .ref ik, .ref mrf, .long mab, .long mbl, .ref ha, .ref r0, .ref mbr, .ref mbp, .ref mby, .int (nI bl), .int (nI (ks_S fmb bl 0)), .int (nI (ks_L fmb bl 0)), .int (nI (ks_K fmb bl 0)), .int v7, .ref an, .ref va])), (mby, .inl (y 0, 150, .inl fmb)), (va, .inl (y 0, 2, .inl fva)), (an, .inl (y 0, 76, .inl fan))] [(to, .inl (y 0, 228, .inl ft))] [3, 4, 0, 1] [2] := ⟨rfl, rfl, rfl, rfl, rfl, by decide⟩
  refine kw_go_i hs17 hP hD hS hA (va_runV (As := []) (rest := []) ⟨hx, hb, hml, hown, hts⟩ (gr_MtakesParish l D y mo to ke ik mrf ha r0 mbr mbp mby an va mab mbl bl (ks_S fmb bl 0) (ks_L fmb bl 0) (ks_K fmb bl 0) v7 fmb fva fan afi agl ami ano aun asp (ks_E fmb bl 0) hbl (by omega) (by omega) (by omega) ha0_ ha1_ ha2_ ha3_ ha4_ ha21_ hkan hB0 hB1 hB2 hB3 hB4 hB5 hagf _) (cwV 0 hts gX11_read_X11_takesParish rfl rfl rfl (by decide +kernel) ⟨Nat.le_of_ble_eq_true rfl, Nat.le_of_ble_eq_true rfl⟩) (kw_PreV (ci := 11) (q0 := 3) hs17 hP hD hK hN rfl rfl) rfl rfl hl.1 rfl (lv_room (Nat.le_of_ble_eq_true rfl)) dX11_read_6 ⟨Nat.le_of_ble_eq_true rfl, Nat.le_of_ble_eq_true rfl⟩) (fun r18 u19 H locs hq hP hD hS => ?_)
  obtain ⟨v20, v21, v22, v23, v24, v25, v26, v27, v28, v29, v30, v31⟩ := u19
  try dsimp only at hq
  obtain ⟨h32, h33, h34, h35, h36, h37, h38, h39, h40, h41, h42, h43, h44, h45, h46, h47, (rfl | rfl), h48, h49, h50, h51⟩ := hq
  · skip
    have hP : va_P D vwCl [(to, .inl (y 0, 228, .inl ft)), (mo, .inr (11, [.ref to, .ref ke, .ref ik, .ref mrf, .long mab, .long mbl, .ref ha, .ref r0, .ref mbr, .ref mbp, .ref mby, .int (nI bl), .int (nI v20), .int (nI v21), .int (nI v22), .int v23, .ref an, .ref va])), (mby, .inl (y 0, 150, .inl fmb)), (va, .inl (y 0, 2, .inl v24)), (an, .inl (y 0, 76, .inl v25))] H := hP
    have hD : va_D A [(to, .inl (y 0, 228, .inl ft)), (mo, .inr (11, [.ref to, .ref ke, .ref ik, .ref mrf, .long mab, .long mbl, .ref ha, .ref r0, .ref mbr, .ref mbp, .ref mby, .int (nI bl), .int (nI v20), .int (nI v21), .int (nI v22), .int v23, .ref an, .ref va])), (mby, .inl (y 0, 150, .inl fmb)), (va, .inl (y 0, 2, .inl v24)), (an, .inl (y 0, 76, .inl v25))] := hD
    have h50 : ks_pa fmb bl (ks_K fmb bl 0) (ks_S fmb bl 0) (ks_E fmb bl 0) = ks_flt v20 := h50 rfl
    have hP : va_P D vwCl [(to, .inl (y 0, 228, .inl ft)), (mo, .inr (11, [.ref to, .ref ke, .ref ik, .ref mrf, .long mab, .long mbl, .ref ha, .ref r0, .ref mbr, .ref mbp, .ref mby, .int (nI bl), .int (nI v20), .int (nI v21), .int (nI v22), .int v23, .ref an, .ref va])), (mby, .inl (y 0, 150, .inl fmb)), (va, .inl (y 0, 2, .inl v24)), (an, .inl (y 0, 76, .inl v25))] H := hP
    have hD : va_D A [(to, .inl (y 0, 228, .inl ft)), (mo, .inr (11, [.ref to, .ref ke, .ref ik, .ref mrf, .long mab, .long mbl, .ref ha, .ref r0, .ref mbr, .ref mbp, .ref mby, .int (nI bl), .int (nI v20), .int (nI v21), .int (nI v22), .int v23, .ref an, .ref va])), (mby, .inl (y 0, 150, .inl fmb)), (va, .inl (y 0, 2, .inl v24)), (an, .inl (y 0, 76, .inl v25))] := hD
    refine lv_if_ne (tgt := 20) hx hb dX11_read_9 (by decide) (fun h9 => absurd h9 (by decide)) (fun _ => ?_)
    have hF9 : ks_read fmb bl = ks_flt v20 := ks_read_paF h50
    have hq8 : q = v20 := ks_flt_inj (hA1.symm.trans hF9)
    subst hq8
    have hP : va_P D vwCl [(to, .inl (y 0, 228, .inl ft)), (mo, .inr (11, [.ref to, .ref ke, .ref ik, .ref mrf, .long mab, .long mbl, .ref ha, .ref r0, .ref mbr, .ref mbp, .ref mby, .int (nI bl), .int (nI q), .int (nI v21), .int (nI v22), .int v23, .ref an, .ref va])), (mby, .inl (y 0, 150, .inl fmb)), (va, .inl (y 0, 2, .inl v24)), (an, .inl (y 0, 76, .inl v25))] H := hP
    have hD : va_D A [(to, .inl (y 0, 228, .inl ft)), (mo, .inr (11, [.ref to, .ref ke, .ref ik, .ref mrf, .long mab, .long mbl, .ref ha, .ref r0, .ref mbr, .ref mbp, .ref mby, .int (nI bl), .int (nI q), .int (nI v21), .int (nI v22), .int v23, .ref an, .ref va])), (mby, .inl (y 0, 150, .inl fmb)), (va, .inl (y 0, 2, .inl v24)), (an, .inl (y 0, 76, .inl v25))] := hD
    refine lv_bipush (v := (-10)) hx hb dX11_read_12 (by decide) ?_
    refine lv_aload_n hx hb dX11_read_14 rfl (lv_at hl 0 rfl) ?_
    refine va_get (D := D) (ci := 11) (v := .int (nI q)) (C := RX11) (T := TX11) (N := 18) hx hb hts iw11 hown hK hP 1 rfl rfl 12 (by decide) fw1 (fun _ h9 => h9) rfl dX11_read_15 ?_
    refine lv_isub hx hb dX11_read_18 ?_
    exact W.iret (v := ((-10) - (nI q))) hx hb hr (fun tZ ht hW => ⟨⟨((-10) - (nI q)), (q, v21, v22, v23, v24, v25, v26, v27, v28, v29, v30, v31), rfl, ⟨by first | omega | (dsimp only; omega), by first | omega | (dsimp only; omega), by first | omega | (dsimp only; omega), h35, by first | omega | (dsimp only; omega), h37, by first | omega | (dsimp only; omega), h39, by first | omega | (dsimp only; omega), h41, by first | omega | (dsimp only; omega), h43, by first | omega | (dsimp only; omega), h45, by first | omega | (dsimp only; omega), h47, by first | omega | (dsimp only; omega), by first | omega | (dsimp only; omega), rfl⟩, by rw [ht]; exact hP.sub [1, 2, 3, 4, 0] rfl, hD.sub [1, 2, 3, 4, 0] (by decide) rfl⟩, hS.F ht⟩) hS.2.2 dX11_read_19
  · skip
    have hP : va_P D vwCl [(to, .inl (y 0, 228, .inl ft)), (mo, .inr (11, [.ref to, .ref ke, .ref ik, .ref mrf, .long mab, .long mbl, .ref ha, .ref r0, .ref mbr, .ref mbp, .ref mby, .int (nI bl), .int (nI v20), .int (nI v21), .int (nI v22), .int v23, .ref an, .ref va])), (mby, .inl (y 0, 150, .inl fmb)), (va, .inl (y 0, 2, .inl v24)), (an, .inl (y 0, 76, .inl v25))] H := hP
    have hD : va_D A [(to, .inl (y 0, 228, .inl ft)), (mo, .inr (11, [.ref to, .ref ke, .ref ik, .ref mrf, .long mab, .long mbl, .ref ha, .ref r0, .ref mbr, .ref mbp, .ref mby, .int (nI bl), .int (nI v20), .int (nI v21), .int (nI v22), .int v23, .ref an, .ref va])), (mby, .inl (y 0, 150, .inl fmb)), (va, .inl (y 0, 2, .inl v24)), (an, .inl (y 0, 76, .inl v25))] := hD
    have h51 : ks_pa fmb bl (ks_K fmb bl 0) (ks_S fmb bl 0) (ks_E fmb bl 0) = ks_ok (ks_E fmb bl (ks_E fmb bl 0)) 0 0 12 (fun _ => 0) ∧ ks_K fmb bl (ks_E fmb bl (ks_E fmb bl 0)) = 3 ∧ v20 = ks_S fmb bl (ks_E fmb bl (ks_E fmb bl 0)) ∧ v21 = ks_L fmb bl (ks_E fmb bl (ks_E fmb bl 0)) ∧ v22 = ks_K fmb bl (ks_E fmb bl (ks_E fmb bl 0)) ∧ v26 = 0 ∧ v27 = 0 ∧ v28 = 0 ∧ v29 = 0 ∧ v30 = 0 ∧ v31 = 0 ∧ kz_N fmb bl (ks_E fmb bl (ks_E fmb bl 0)) v23 := h51 rfl
    obtain ⟨h52, h53, h54, h55, h56, h57, h58, h59, h60, h61, h62, h63⟩ := h51
    have h54 := h54.symm
    subst h54
    have h55 := h55.symm
    subst h55
    have h56 := h56.symm
    subst h56
    have h57 := h57.symm
    subst h57
    have h58 := h58.symm
    subst h58
    have h59 := h59.symm
    subst h59
    have h60 := h60.symm
    subst h60
    have h61 := h61.symm
    subst h61
    have h62 := h62.symm
    subst h62
    have hP : va_P D vwCl [(to, .inl (y 0, 228, .inl ft)), (mo, .inr (11, [.ref to, .ref ke, .ref ik, .ref mrf, .long mab, .long mbl, .ref ha, .ref r0, .ref mbr, .ref mbp, .ref mby, .int (nI bl), .int (nI (ks_S fmb bl (ks_E fmb bl (ks_E fmb bl 0)))), .int (nI (ks_L fmb bl (ks_E fmb bl (ks_E fmb bl 0)))), .int (nI (ks_K fmb bl (ks_E fmb bl (ks_E fmb bl 0)))), .int v23, .ref an, .ref va])), (mby, .inl (y 0, 150, .inl fmb)), (va, .inl (y 0, 2, .inl v24)), (an, .inl (y 0, 76, .inl v25))] H := hP
    have hD : va_D A [(to, .inl (y 0, 228, .inl ft)), (mo, .inr (11, [.ref to, .ref ke, .ref ik, .ref mrf, .long mab, .long mbl, .ref ha, .ref r0, .ref mbr, .ref mbp, .ref mby, .int (nI bl), .int (nI (ks_S fmb bl (ks_E fmb bl (ks_E fmb bl 0)))), .int (nI (ks_L fmb bl (ks_E fmb bl (ks_E fmb bl 0)))), .int (nI (ks_K fmb bl (ks_E fmb bl (ks_E fmb bl 0)))), .int v23, .ref an, .ref va])), (mby, .inl (y 0, 150, .inl fmb)), (va, .inl (y 0, 2, .inl v24)), (an, .inl (y 0, 76, .inl v25))] := hD
    have hk64 := ks_E_le (f := fmb) (n := bl) (p := ks_E fmb bl 0) (by omega)
    have hk65 := ks_SL (f := fmb) (n := bl) (p := (ks_E fmb bl (ks_E fmb bl 0))) hk64.2
    have hk66 := ks_S_le (f := fmb) (n := bl) (p := (ks_E fmb bl (ks_E fmb bl 0))) hk64.2
    have hk67 := ks_K4 fmb bl (ks_E fmb bl (ks_E fmb bl 0))
    refine lv_if_ne (tgt := 20) hx hb dX11_read_9 (by decide) (fun _ => ?_) (fun h9 => absurd h9 (by decide))
    refine lv_aload_n hx hb dX11_read_20 rfl (lv_at hl 0 rfl) ?_
    have hs68 : kw_Split [(to, .inl (y 0, 228, .inl ft)), (mo, .inr (11, [.ref to, .ref ke, .ref ik, .ref mrf, .long mab, .long mbl, .ref ha, .ref r0, .ref mbr, .ref mbp, .ref mby, .int (nI bl), .int (nI (ks_S fmb bl (ks_E fmb bl (ks_E fmb bl 0)))), .int (nI (ks_L fmb bl (ks_E fmb bl (ks_E fmb bl 0)))), .int (nI (ks_K fmb bl (ks_E fmb bl (ks_E fmb bl 0)))), .int v23, .ref an, .ref va])), (mby, .inl (y 0, 150, .inl fmb)), (va, .inl (y 0, 2, .inl v24)), (an, .inl (y 0, 76, .inl v25))] [(mo, .inr (11, [.ref to, .ref ke, .ref ik, .ref mrf, .long mab, .long mbl, .ref ha, .ref r0, .ref mbr, .ref mbp, .ref mby, .int (nI bl), .int (nI (ks_S fmb bl (ks_E fmb bl (ks_E fmb bl 0)))), .int (nI (ks_L fmb bl (ks_E fmb bl (ks_E fmb bl 0)))), .int (nI (ks_K fmb bl (ks_E fmb bl (ks_E fmb bl 0)))), .int v23, .ref an, .ref va])), (mby, .inl (y 0, 150, .inl fmb))] [(to, .inl (y 0, 228, .inl ft)), (va, .inl (y 0, 2, .inl v24)), (an, .inl (y 0, 76, .inl v25))] [1, 2] [0, 3, 4] := ⟨rfl, rfl, rfl, rfl, rfl, by decide⟩
    refine kw_go_v hs68 hP hD hS hA (va_runV (As := []) (rest := []) ⟨hx, hb, hml, hown, hts⟩ (gr_Mgo l D y mo to ke ik mrf ha r0 mbr mbp mby an va mab mbl bl (ks_S fmb bl (ks_E fmb bl (ks_E fmb bl 0))) (ks_L fmb bl (ks_E fmb bl (ks_E fmb bl 0))) (ks_K fmb bl (ks_E fmb bl (ks_E fmb bl 0))) v23 fmb (ks_E fmb bl (ks_E fmb bl (ks_E fmb bl 0))) hbl (by omega) (by omega) (by omega) _) (cwV 0 hts gX11_read_X11_goBehind rfl rfl rfl (by decide +kernel) ⟨Nat.le_of_ble_eq_true rfl, Nat.le_of_ble_eq_true rfl⟩) (kw_PreV (ci := 11) (q0 := 1) hs68 hP hD hK hN rfl rfl) rfl rfl hl.1 rfl (lv_room (Nat.le_of_ble_eq_true rfl)) dX11_read_21 ⟨Nat.le_of_ble_eq_true rfl, Nat.le_of_ble_eq_true rfl⟩) (fun u70 H locs hq hP hD hS => ?_)
    obtain ⟨v71, rfl⟩ : ∃ z, z = u70 := ⟨_, rfl⟩
    try dsimp only at hq
    obtain ⟨h72, h73, h74, h75, h76⟩ := hq
    have hP : va_P D vwCl [(to, .inl (y 0, 228, .inl ft)), (va, .inl (y 0, 2, .inl v24)), (an, .inl (y 0, 76, .inl v25)), (mo, .inr (11, [.ref to, .ref ke, .ref ik, .ref mrf, .long mab, .long mbl, .ref ha, .ref r0, .ref mbr, .ref mbp, .ref mby, .int (nI bl), .int (nI (ks_S fmb bl (ks_E fmb bl (ks_E fmb bl (ks_E fmb bl 0))))), .int (nI (ks_L fmb bl (ks_E fmb bl (ks_E fmb bl (ks_E fmb bl 0))))), .int (nI (ks_K fmb bl (ks_E fmb bl (ks_E fmb bl (ks_E fmb bl 0))))), .int v71, .ref an, .ref va])), (mby, .inl (y 0, 150, .inl fmb))] H := hP
    have hD : va_D A [(to, .inl (y 0, 228, .inl ft)), (va, .inl (y 0, 2, .inl v24)), (an, .inl (y 0, 76, .inl v25)), (mo, .inr (11, [.ref to, .ref ke, .ref ik, .ref mrf, .long mab, .long mbl, .ref ha, .ref r0, .ref mbr, .ref mbp, .ref mby, .int (nI bl), .int (nI (ks_S fmb bl (ks_E fmb bl (ks_E fmb bl (ks_E fmb bl 0))))), .int (nI (ks_L fmb bl (ks_E fmb bl (ks_E fmb bl (ks_E fmb bl 0))))), .int (nI (ks_K fmb bl (ks_E fmb bl (ks_E fmb bl (ks_E fmb bl 0))))), .int v71, .ref an, .ref va])), (mby, .inl (y 0, 150, .inl fmb))] := hD
    refine lv_iconst (v := 1) hx hb dX11_read_24 (by decide) ?_
    refine lv_istore_n (lv' := [(1, .int 1), (0, .ref mo)]) hx hb dX11_read_25 rfl hl (by decide) rfl (fun ls hl => ?_)
    have lp234 : ∀ (fu91 : Nat) (x126 : Nat) (x127 : Nat → Int32) (x128 : Nat → Int32) (x129 : Nat) (x130 : Nat) (x131 : Nat) (x132 : Int32) (x182 : Nat) (x183 : Nat) (x184 : Nat) (H : Heap) (locs : List Loc) (ls : Array Slot), bl - x129 < fu91 → kr_t 76 x128 → x128 0 = (nI x182) → x128 1 = (nI x183) → x128 2 = (nI 0) → x128 3 = (nI 0) → x128 4 = (nI 0) → x128 21 = (nI x184) → x126 ≤ bl + 1 → x129 ≤ bl → x130 ≤ 150 → x131 ≤ 4 → x182 ≤ 6 → x183 ≤ 5 → x184 ≤ 12 → kz_RI fmb bl x129 x130 x131 x132 x126 x182 x183 x184 x128 → x129 + x130 ≤ bl → x126 ≤ x129 + 1 → (x183 = 0 ∨ 0 < x182) → va_P D vwCl [(to, .inl (y 0, 228, .inl ft)), (va, .inl (y 0, 2, .inl x127)), (an, .inl (y 0, 76, .inl x128)), (mo, .inr (11, [.ref to, .ref ke, .ref ik, .ref mrf, .long mab, .long mbl, .ref ha, .ref r0, .ref mbr, .ref mbp, .ref mby, .int (nI bl), .int (nI x129), .int (nI x130), .int (nI x131), .int x132, .ref an, .ref va])), (mby, .inl (y 0, 150, .inl fmb))] H → va_D A [(to, .inl (y 0, 228, .inl ft)), (va, .inl (y 0, 2, .inl x127)), (an, .inl (y 0, 76, .inl x128)), (mo, .inr (11, [.ref to, .ref ke, .ref ik, .ref mrf, .long mab, .long mbl, .ref ha, .ref r0, .ref mbr, .ref mbp, .ref mby, .int (nI bl), .int (nI x129), .int (nI x130), .int (nI x131), .int x132, .ref an, .ref va])), (mby, .inl (y 0, 150, .inl fmb))] → va_S A s.heap H locs → lv_has ls 3 [(1, .int (nI x126)), (0, .ref mo)] → W pZ l eZ ({ frames := 8, cells := 0, slots := 0, locals := 219 }) s mZ [.ref mo].toArray beZ meZ cZ H locs 0 0 (MQ beZ (va_Qi (fun (r : Int32) (u : Nat × Nat × Nat × Int32 × (Nat → Int32) × (Nat → Int32) × Nat × Nat × Nat × Nat × Nat × Nat) => u.1 ≤ 150 ∧ u.2.1 ≤ 150 ∧ u.2.2.1 ≤ 4 ∧ kr_t 76 u.2.2.2.2.2.1 ∧ u.2.2.2.2.2.2.1 ≤ 6 ∧ u.2.2.2.2.2.1 0 = (nI u.2.2.2.2.2.2.1) ∧ u.2.2.2.2.2.2.2.1 ≤ 5 ∧ u.2.2.2.2.2.1 1 = (nI u.2.2.2.2.2.2.2.1) ∧ u.2.2.2.2.2.2.2.2.1 ≤ 4 ∧ u.2.2.2.2.2.1 2 = (nI u.2.2.2.2.2.2.2.2.1) ∧ u.2.2.2.2.2.2.2.2.2.1 ≤ 6 ∧ u.2.2.2.2.2.1 3 = (nI u.2.2.2.2.2.2.2.2.2.1) ∧ u.2.2.2.2.2.2.2.2.2.2.1 ≤ 8 ∧ u.2.2.2.2.2.1 4 = (nI u.2.2.2.2.2.2.2.2.2.2.1) ∧ u.2.2.2.2.2.2.2.2.2.2.2 ≤ 12 ∧ u.2.2.2.2.2.1 21 = (nI u.2.2.2.2.2.2.2.2.2.2.2) ∧ (u.2.2.2.2.2.2.2.1 = 0 ∨ 0 < u.2.2.2.2.2.2.1) ∧ (gl = 0 ∨ 0 < fi) ∧ r = ((-10) - (nI q))) (kw_B D (fun u => [(mo, .inr (11, [.ref to, .ref ke, .ref ik, .ref mrf, .long mab, .long mbl, .ref ha, .ref r0, .ref mbr, .ref mbp, .ref mby, .int (nI bl), .int (nI u.1), .int (nI u.2.1), .int (nI u.2.2.1), .int u.2.2.2.1, .ref an, .ref va])), (mby, .inl (y 0, 150, .inl fmb)), (va, .inl (y 0, 2, .inl u.2.2.2.2.1)), (an, .inl (y 0, 76, .inl u.2.2.2.2.2.1)), (to, .inl (y 0, 228, .inl ft))]) A) A) [.ref mo].toArray s 0 0 A) (F0 mZ 26 ls []) := by
      intro fu91
      induction fu91 with
      | zero => intro x126 x127 x128 x129 x130 x131 x132 x182 x183 x184 H locs ls hf9; exact absurd hf9 (Nat.not_lt_zero _)
      | succ fu91 ihfu91 =>
        intro x126 x127 x128 x129 x130 x131 x132 x182 x183 x184 H locs ls hffu91 hr_x128 hk_x128_0 hk_x128_1 hk_x128_2 hk_x128_3 hk_x128_4 hk_x128_21 hn_x126 hn_x129 hn_x130 hn_x131 hn_x182 hn_x183 hn_x184 hJ0_fu91 hJ1_fu91 hJ2_fu91 hJ3_fu91 hP hD hS hl
        obtain ⟨p9, kd9, ⟨rfl, rfl, rfl, hn9⟩, hp9, hL9, hk9⟩ := hJ0_fu91
        have hk235 := ks_K4 fmb bl p9
        have hk236 := ks_SL (f := fmb) (n := bl) (p := p9) hp9
        have hk237 := ks_S_le (f := fmb) hp9
        have hP : va_P D vwCl [(to, .inl (y 0, 228, .inl ft)), (va, .inl (y 0, 2, .inl x127)), (an, .inl (y 0, 76, .inl x128)), (mo, .inr (11, [.ref to, .ref ke, .ref ik, .ref mrf, .long mab, .long mbl, .ref ha, .ref r0, .ref mbr, .ref mbp, .ref mby, .int (nI bl), .int (nI (ks_S fmb bl p9)), .int (nI (ks_L fmb bl p9)), .int (nI (ks_K fmb bl p9)), .int x132, .ref an, .ref va])), (mby, .inl (y 0, 150, .inl fmb))] H := hP
        have hD : va_D A [(to, .inl (y 0, 228, .inl ft)), (va, .inl (y 0, 2, .inl x127)), (an, .inl (y 0, 76, .inl x128)), (mo, .inr (11, [.ref to, .ref ke, .ref ik, .ref mrf, .long mab, .long mbl, .ref ha, .ref r0, .ref mbr, .ref mbp, .ref mby, .int (nI bl), .int (nI (ks_S fmb bl p9)), .int (nI (ks_L fmb bl p9)), .int (nI (ks_K fmb bl p9)), .int x132, .ref an, .ref va])), (mby, .inl (y 0, 150, .inl fmb))] := hD
        refine lv_aload_n hx hb dX11_read_26 rfl (lv_at hl 1 rfl) ?_
        refine va_get (D := D) (ci := 11) (v := .int (nI (ks_K fmb bl p9))) (C := RX11) (T := TX11) (N := 18) hx hb hts iw11 hown hK hP 3 rfl rfl 14 (by decide) fw2 (fun _ h9 => h9) rfl dX11_read_27 ?_
        refine lv_if_eq (tgt := 66) hx hb dX11_read_30 (by decide) (fun h238 => ?_) (fun h239 => ?_)
        · skip
          have h238 : (ks_K fmb bl p9) = 0 := (nI_eq (a := (ks_K fmb bl p9)) (b := 0) (by omega) (by omega)).mp h238
          exact (ks_ne (hA1.symm.trans (hL9.trans (ks_loop0 h238)))).elim
        · skip
          have h239 : ¬ (ks_K fmb bl p9) = 0 := fun q9 => h239 ((nI_eq (a := (ks_K fmb bl p9)) (b := 0) (by omega) (by omega)).mpr q9)
          refine lv_aload_n hx hb dX11_read_33 rfl (lv_at hl 1 rfl) ?_
          have hs240 : kw_Split [(to, .inl (y 0, 228, .inl ft)), (va, .inl (y 0, 2, .inl x127)), (an, .inl (y 0, 76, .inl x128)), (mo, .inr (11, [.ref to, .ref ke, .ref ik, .ref mrf, .long mab, .long mbl, .ref ha, .ref r0, .ref mbr, .ref mbp, .ref mby, .int (nI bl), .int (nI (ks_S fmb bl p9)), .int (nI (ks_L fmb bl p9)), .int (nI (ks_K fmb bl p9)), .int x132, .ref an, .ref va])), (mby, .inl (y 0, 150, .inl fmb))] [(mo, .inr (11, [.ref to, .ref ke, .ref ik, .ref mrf, .long mab, .long mbl, .ref ha, .ref r0, .ref mbr, .ref mbp, .ref mby, .int (nI bl), .int (nI (ks_S fmb bl p9)), .int (nI (ks_L fmb bl p9)), .int (nI (ks_K fmb bl p9)), .int x132, .ref an, .ref va])), (mby, .inl (y 0, 150, .inl fmb)), (va, .inl (y 0, 2, .inl x127)), (an, .inl (y 0, 76, .inl x128))] [(to, .inl (y 0, 228, .inl ft))] [3, 4, 1, 2] [0] := ⟨rfl, rfl, rfl, rfl, rfl, by decide⟩
          refine kw_go_i hs240 hP hD hS hA (va_runV (As := []) (rest := []) ⟨hx, hb, hml, hown, hts⟩ (gr_MtakesItem l D y mo to ke ik mrf ha r0 mbr mbp mby an va mab mbl bl (ks_S fmb bl p9) (ks_L fmb bl p9) (ks_K fmb bl p9) x132 fmb x127 x128 x182 x183 0 0 0 x184 (ks_E fmb bl p9) kd9 hbl (by omega) (by omega) (by omega) hk_x128_0 hk_x128_1 hk_x128_2 hk_x128_3 hk_x128_4 hk_x128_21 hr_x128 (by omega) (by omega) (by omega) (by omega) (by omega) (by omega) hJ3_fu91 hk9 _) (cwV 0 hts gX11_read_X11_takesItem rfl rfl rfl (by decide +kernel) ⟨Nat.le_of_ble_eq_true rfl, Nat.le_of_ble_eq_true rfl⟩) (kw_PreV (ci := 11) (q0 := 3) hs240 hP hD hK hN rfl rfl) rfl rfl hl.1 rfl (lv_room (Nat.le_of_ble_eq_true rfl)) dX11_read_34 ⟨Nat.le_of_ble_eq_true rfl, Nat.le_of_ble_eq_true rfl⟩) (fun r241 u242 H locs hq hP hD hS => ?_)
          obtain ⟨v243, v244, v245, v246, v247, v248, v249, v250, v251⟩ := u242
          try dsimp only at hq
          obtain ⟨h252, h253, h254, h255, h256, h257, h258, h259, h260, h261, h262, h263, h264, (rfl | rfl), h265, h266, h267, h268⟩ := hq
          · skip
            have hP : va_P D vwCl [(to, .inl (y 0, 228, .inl ft)), (mo, .inr (11, [.ref to, .ref ke, .ref ik, .ref mrf, .long mab, .long mbl, .ref ha, .ref r0, .ref mbr, .ref mbp, .ref mby, .int (nI bl), .int (nI v243), .int (nI v244), .int (nI v245), .int v246, .ref an, .ref va])), (mby, .inl (y 0, 150, .inl fmb)), (va, .inl (y 0, 2, .inl v247)), (an, .inl (y 0, 76, .inl v248))] H := hP
            have hD : va_D A [(to, .inl (y 0, 228, .inl ft)), (mo, .inr (11, [.ref to, .ref ke, .ref ik, .ref mrf, .long mab, .long mbl, .ref ha, .ref r0, .ref mbr, .ref mbp, .ref mby, .int (nI bl), .int (nI v243), .int (nI v244), .int (nI v245), .int v246, .ref an, .ref va])), (mby, .inl (y 0, 150, .inl fmb)), (va, .inl (y 0, 2, .inl v247)), (an, .inl (y 0, 76, .inl v248))] := hD
            have h267 : ks_it fmb bl (ks_K fmb bl p9) (ks_S fmb bl p9) (ks_E fmb bl p9) x182 x183 (12 - x184) kd9 = ks_flt v243 := h267 rfl
            refine lv_if_eq (tgt := 48) hx hb dX11_read_37 (by decide) (fun _ => ?_) (fun h9 => absurd h9 (by decide))
            have hF9 : ks_read fmb bl = ks_flt v243 := hL9.trans (ks_loopF h239 h267)
            have hq8 : q = v243 := ks_flt_inj (hA1.symm.trans hF9)
            subst hq8
            have hP : va_P D vwCl [(to, .inl (y 0, 228, .inl ft)), (mo, .inr (11, [.ref to, .ref ke, .ref ik, .ref mrf, .long mab, .long mbl, .ref ha, .ref r0, .ref mbr, .ref mbp, .ref mby, .int (nI bl), .int (nI q), .int (nI v244), .int (nI v245), .int v246, .ref an, .ref va])), (mby, .inl (y 0, 150, .inl fmb)), (va, .inl (y 0, 2, .inl v247)), (an, .inl (y 0, 76, .inl v248))] H := hP
            have hD : va_D A [(to, .inl (y 0, 228, .inl ft)), (mo, .inr (11, [.ref to, .ref ke, .ref ik, .ref mrf, .long mab, .long mbl, .ref ha, .ref r0, .ref mbr, .ref mbp, .ref mby, .int (nI bl), .int (nI q), .int (nI v244), .int (nI v245), .int v246, .ref an, .ref va])), (mby, .inl (y 0, 150, .inl fmb)), (va, .inl (y 0, 2, .inl v247)), (an, .inl (y 0, 76, .inl v248))] := hD
            refine lv_bipush (v := (-10)) hx hb dX11_read_48 (by decide) ?_
            refine lv_aload_n hx hb dX11_read_50 rfl (lv_at hl 1 rfl) ?_
            refine va_get (D := D) (ci := 11) (v := .int (nI q)) (C := RX11) (T := TX11) (N := 18) hx hb hts iw11 hown hK hP 1 rfl rfl 12 (by decide) fw1 (fun _ h9 => h9) rfl dX11_read_51 ?_
            refine lv_isub hx hb dX11_read_54 ?_
            exact W.iret (v := ((-10) - (nI q))) hx hb hr (fun tZ ht hW => ⟨⟨((-10) - (nI q)), (q, v244, v245, v246, v247, v248, v249, v250, 0, 0, 0, v251), rfl, ⟨by first | omega | (dsimp only; omega), by first | omega | (dsimp only; omega), by first | omega | (dsimp only; omega), h255, by first | omega | (dsimp only; omega), h257, by first | omega | (dsimp only; omega), h259, by first | omega | (dsimp only; omega), h260, by first | omega | (dsimp only; omega), h261, by first | omega | (dsimp only; omega), h262, by first | omega | (dsimp only; omega), h264, by first | omega | (dsimp only; omega), by first | omega | (dsimp only; omega), rfl⟩, by rw [ht]; exact hP.sub [1, 2, 3, 4, 0] rfl, hD.sub [1, 2, 3, 4, 0] (by decide) rfl⟩, hS.F ht⟩) hS.2.2 dX11_read_55
          · skip
            have hP : va_P D vwCl [(to, .inl (y 0, 228, .inl ft)), (mo, .inr (11, [.ref to, .ref ke, .ref ik, .ref mrf, .long mab, .long mbl, .ref ha, .ref r0, .ref mbr, .ref mbp, .ref mby, .int (nI bl), .int (nI v243), .int (nI v244), .int (nI v245), .int v246, .ref an, .ref va])), (mby, .inl (y 0, 150, .inl fmb)), (va, .inl (y 0, 2, .inl v247)), (an, .inl (y 0, 76, .inl v248))] H := hP
            have hD : va_D A [(to, .inl (y 0, 228, .inl ft)), (mo, .inr (11, [.ref to, .ref ke, .ref ik, .ref mrf, .long mab, .long mbl, .ref ha, .ref r0, .ref mbr, .ref mbp, .ref mby, .int (nI bl), .int (nI v243), .int (nI v244), .int (nI v245), .int v246, .ref an, .ref va])), (mby, .inl (y 0, 150, .inl fmb)), (va, .inl (y 0, 2, .inl v247)), (an, .inl (y 0, 76, .inl v248))] := hD
            have h268 : kz_go fmb bl (ks_E fmb bl p9) (ks_it fmb bl (ks_K fmb bl p9) (ks_S fmb bl p9) (ks_E fmb bl p9) x182 x183 (12 - x184) kd9) v243 v244 v245 v246 v249 v250 (12 - v251) v248 := h268 rfl
            obtain ⟨qe9, ke9, hX9, hq9, he9, ⟨rfl, rfl, rfl, hm9⟩, hj9⟩ := h268
            have hk269 := ks_K4 fmb bl qe9
            have hk270 := ks_SL (f := fmb) (n := bl) (p := qe9) hq9
            have hk271 := ks_S_le (f := fmb) hq9
            have hk272 := ks_Kpos h239
            have hP : va_P D vwCl [(to, .inl (y 0, 228, .inl ft)), (mo, .inr (11, [.ref to, .ref ke, .ref ik, .ref mrf, .long mab, .long mbl, .ref ha, .ref r0, .ref mbr, .ref mbp, .ref mby, .int (nI bl), .int (nI (ks_S fmb bl qe9)), .int (nI (ks_L fmb bl qe9)), .int (nI (ks_K fmb bl qe9)), .int v246, .ref an, .ref va])), (mby, .inl (y 0, 150, .inl fmb)), (va, .inl (y 0, 2, .inl v247)), (an, .inl (y 0, 76, .inl v248))] H := hP
            have hD : va_D A [(to, .inl (y 0, 228, .inl ft)), (mo, .inr (11, [.ref to, .ref ke, .ref ik, .ref mrf, .long mab, .long mbl, .ref ha, .ref r0, .ref mbr, .ref mbp, .ref mby, .int (nI bl), .int (nI (ks_S fmb bl qe9)), .int (nI (ks_L fmb bl qe9)), .int (nI (ks_K fmb bl qe9)), .int v246, .ref an, .ref va])), (mby, .inl (y 0, 150, .inl fmb)), (va, .inl (y 0, 2, .inl v247)), (an, .inl (y 0, 76, .inl v248))] := hD
            refine lv_if_eq (tgt := 48) hx hb dX11_read_37 (by decide) (fun h9 => absurd h9 (by decide)) (fun _ => ?_)
            refine lv_aload_n hx hb dX11_read_40 rfl (lv_at hl 1 rfl) ?_
            refine va_get (D := D) (ci := 11) (v := .int (nI (ks_K fmb bl qe9))) (C := RX11) (T := TX11) (N := 18) hx hb hts iw11 hown hK hP 1 rfl rfl 14 (by decide) fw2 (fun _ h9 => h9) rfl dX11_read_41 ?_
            refine lv_iconst (v := 3) hx hb dX11_read_44 (by decide) ?_
            refine lv_icmp_eq (tgt := 56) hx hb dX11_read_45 (by decide) (fun h273 => ?_) (fun h274 => ?_)
            · skip
              have h273 : (ks_K fmb bl qe9) = 3 := (nI_eq (a := (ks_K fmb bl qe9)) (b := 3) (by omega) (by omega)).mp h273
              refine lv_aload_n hx hb dX11_read_56 rfl (lv_at hl 1 rfl) ?_
              have hs275 : kw_Split [(to, .inl (y 0, 228, .inl ft)), (mo, .inr (11, [.ref to, .ref ke, .ref ik, .ref mrf, .long mab, .long mbl, .ref ha, .ref r0, .ref mbr, .ref mbp, .ref mby, .int (nI bl), .int (nI (ks_S fmb bl qe9)), .int (nI (ks_L fmb bl qe9)), .int (nI (ks_K fmb bl qe9)), .int v246, .ref an, .ref va])), (mby, .inl (y 0, 150, .inl fmb)), (va, .inl (y 0, 2, .inl v247)), (an, .inl (y 0, 76, .inl v248))] [(mo, .inr (11, [.ref to, .ref ke, .ref ik, .ref mrf, .long mab, .long mbl, .ref ha, .ref r0, .ref mbr, .ref mbp, .ref mby, .int (nI bl), .int (nI (ks_S fmb bl qe9)), .int (nI (ks_L fmb bl qe9)), .int (nI (ks_K fmb bl qe9)), .int v246, .ref an, .ref va])), (mby, .inl (y 0, 150, .inl fmb))] [(to, .inl (y 0, 228, .inl ft)), (va, .inl (y 0, 2, .inl v247)), (an, .inl (y 0, 76, .inl v248))] [1, 2] [0, 3, 4] := ⟨rfl, rfl, rfl, rfl, rfl, by decide⟩
              refine kw_go_v hs275 hP hD hS hA (va_runV (As := []) (rest := []) ⟨hx, hb, hml, hown, hts⟩ (gr_Mgo l D y mo to ke ik mrf ha r0 mbr mbp mby an va mab mbl bl (ks_S fmb bl qe9) (ks_L fmb bl qe9) (ks_K fmb bl qe9) v246 fmb (ks_E fmb bl qe9) hbl (by omega) (by omega) (by omega) _) (cwV 0 hts gX11_read_X11_goBehind rfl rfl rfl (by decide +kernel) ⟨Nat.le_of_ble_eq_true rfl, Nat.le_of_ble_eq_true rfl⟩) (kw_PreV (ci := 11) (q0 := 1) hs275 hP hD hK hN rfl rfl) rfl rfl hl.1 rfl (lv_room (Nat.le_of_ble_eq_true rfl)) dX11_read_57 ⟨Nat.le_of_ble_eq_true rfl, Nat.le_of_ble_eq_true rfl⟩) (fun u277 H locs hq hP hD hS => ?_)
              obtain ⟨v278, rfl⟩ : ∃ z, z = u277 := ⟨_, rfl⟩
              try dsimp only at hq
              obtain ⟨h279, h280, h281, h282, h283⟩ := hq
              have hP : va_P D vwCl [(to, .inl (y 0, 228, .inl ft)), (va, .inl (y 0, 2, .inl v247)), (an, .inl (y 0, 76, .inl v248)), (mo, .inr (11, [.ref to, .ref ke, .ref ik, .ref mrf, .long mab, .long mbl, .ref ha, .ref r0, .ref mbr, .ref mbp, .ref mby, .int (nI bl), .int (nI (ks_S fmb bl (ks_E fmb bl qe9))), .int (nI (ks_L fmb bl (ks_E fmb bl qe9))), .int (nI (ks_K fmb bl (ks_E fmb bl qe9))), .int v278, .ref an, .ref va])), (mby, .inl (y 0, 150, .inl fmb))] H := hP
              have hD : va_D A [(to, .inl (y 0, 228, .inl ft)), (va, .inl (y 0, 2, .inl v247)), (an, .inl (y 0, 76, .inl v248)), (mo, .inr (11, [.ref to, .ref ke, .ref ik, .ref mrf, .long mab, .long mbl, .ref ha, .ref r0, .ref mbr, .ref mbp, .ref mby, .int (nI bl), .int (nI (ks_S fmb bl (ks_E fmb bl qe9))), .int (nI (ks_L fmb bl (ks_E fmb bl qe9))), .int (nI (ks_K fmb bl (ks_E fmb bl qe9))), .int v278, .ref an, .ref va])), (mby, .inl (y 0, 150, .inl fmb))] := hD
              refine lv_iinc (v := (nI (x126 + 1))) (lv' := [(1, .int (nI (x126 + 1))), (0, .ref mo)]) hx hb dX11_read_60 hl (k := 0) rfl (nI_1 x126) (by decide) rfl (fun ls hl => ?_)
              refine lv_goto (tgt := 26) hx hb dX11_read_63 (by decide) ?_
              exact ihfu91 (x126 + 1) v247 v248 (ks_S fmb bl (ks_E fmb bl qe9)) (ks_L fmb bl (ks_E fmb bl qe9)) (ks_K fmb bl (ks_E fmb bl qe9)) v278 v249 v250 v251 H locs ls (by omega) h255 h257 h259 h260 h261 h262 h264 (by omega) (by omega) (by omega) (by omega) (by omega) (by omega) (by omega) (kz_RI.mk h283 (by omega) (ks_next hL9 hp9 h239 hX9 hq9 he9 h273) hj9) (by omega) (by omega) (by omega) (hP.sub [0, 1, 2, 3, 4] rfl) (hD.sub [0, 1, 2, 3, 4] (by decide) rfl) hS (lv_sub hl [0, 1] rfl)
            · skip
              have h274 : ¬ (ks_K fmb bl qe9) = 3 := fun q9 => h274 ((nI_eq (a := (ks_K fmb bl qe9)) (b := 3) (by omega) (by omega)).mpr q9)
              have hF9 : ks_read fmb bl = ks_flt (ks_S fmb bl qe9) := hL9.trans (ks_loopS h239 hX9 h274)
              have hq8 : q = (ks_S fmb bl qe9) := ks_flt_inj (hA1.symm.trans hF9)
              subst hq8
              have hP : va_P D vwCl [(to, .inl (y 0, 228, .inl ft)), (mo, .inr (11, [.ref to, .ref ke, .ref ik, .ref mrf, .long mab, .long mbl, .ref ha, .ref r0, .ref mbr, .ref mbp, .ref mby, .int (nI bl), .int (nI (ks_S fmb bl qe9)), .int (nI (ks_L fmb bl qe9)), .int (nI (ks_K fmb bl qe9)), .int v246, .ref an, .ref va])), (mby, .inl (y 0, 150, .inl fmb)), (va, .inl (y 0, 2, .inl v247)), (an, .inl (y 0, 76, .inl v248))] H := hP
              have hD : va_D A [(to, .inl (y 0, 228, .inl ft)), (mo, .inr (11, [.ref to, .ref ke, .ref ik, .ref mrf, .long mab, .long mbl, .ref ha, .ref r0, .ref mbr, .ref mbp, .ref mby, .int (nI bl), .int (nI (ks_S fmb bl qe9)), .int (nI (ks_L fmb bl qe9)), .int (nI (ks_K fmb bl qe9)), .int v246, .ref an, .ref va])), (mby, .inl (y 0, 150, .inl fmb)), (va, .inl (y 0, 2, .inl v247)), (an, .inl (y 0, 76, .inl v248))] := hD
              refine lv_bipush (v := (-10)) hx hb dX11_read_48 (by decide) ?_
              refine lv_aload_n hx hb dX11_read_50 rfl (lv_at hl 1 rfl) ?_
              refine va_get (D := D) (ci := 11) (v := .int (nI (ks_S fmb bl qe9))) (C := RX11) (T := TX11) (N := 18) hx hb hts iw11 hown hK hP 1 rfl rfl 12 (by decide) fw1 (fun _ h9 => h9) rfl dX11_read_51 ?_
              refine lv_isub hx hb dX11_read_54 ?_
              exact W.iret (v := ((-10) - (nI (ks_S fmb bl qe9)))) hx hb hr (fun tZ ht hW => ⟨⟨((-10) - (nI (ks_S fmb bl qe9))), (ks_S fmb bl qe9, ks_L fmb bl qe9, ks_K fmb bl qe9, v246, v247, v248, v249, v250, 0, 0, 0, v251), rfl, ⟨by first | omega | (dsimp only; omega), by first | omega | (dsimp only; omega), by first | omega | (dsimp only; omega), h255, by first | omega | (dsimp only; omega), h257, by first | omega | (dsimp only; omega), h259, by first | omega | (dsimp only; omega), h260, by first | omega | (dsimp only; omega), h261, by first | omega | (dsimp only; omega), h262, by first | omega | (dsimp only; omega), h264, by first | omega | (dsimp only; omega), by first | omega | (dsimp only; omega), rfl⟩, by rw [ht]; exact hP.sub [1, 2, 3, 4, 0] rfl, hD.sub [1, 2, 3, 4, 0] (by decide) rfl⟩, hS.F ht⟩) hS.2.2 dX11_read_55
    exact lp234 _ 1 v24 v25 (ks_S fmb bl (ks_E fmb bl (ks_E fmb bl (ks_E fmb bl 0)))) (ks_L fmb bl (ks_E fmb bl (ks_E fmb bl (ks_E fmb bl 0)))) (ks_K fmb bl (ks_E fmb bl (ks_E fmb bl (ks_E fmb bl 0)))) v71 0 0 0 _ _ _ (Nat.lt_succ_self _) h35 h37 h39 h41 h43 h45 h47 (by omega) (by omega) (by omega) (by omega) (by omega) (by omega) (by omega) (kz_RI.mk h76 (by omega) (ks_read_paN h52) kz_ka_0) (by omega) (by omega) (by omega) hP hD hS (lv_sub hl [0, 1] rfl)

set_option maxHeartbeats 4000000 in
set_option maxRecDepth 100000 in
theorem gq_sread_ok (l : Launch) (D : va_G) (y : Nat → ClassId) (mo : Nat) (to : Nat) (ke : Nat) (ik : Nat) (mrf : Nat) (ha : Nat) (r0 : Nat) (mbr : Nat) (mbp : Nat) (mby : Nat) (an : Nat) (va : Nat) (mab : Int64) (mbl : Int64) (bl : Nat) (ta : Nat) (tl : Nat) (tk : Nat) (vv : Int32) (ft : Nat → Int32) (fi : Nat) (gl : Nat) (mi : Nat) (no : Nat) (un : Nat) (fmb : Nat → Int32) (fva : Nat → Int32) (fan : Nat → Int32) (afi : Nat) (agl : Nat) (ami : Nat) (ano : Nat) (aun : Nat) (asp : Nat) (m : Nat) (a : Nat) (b : Nat) (t : Nat) (kd : Nat → Int32) (hk0_ : ft 0 = (nI fi)) (hk1_ : ft 1 = (nI gl)) (hk2_ : ft 2 = (nI mi)) (hk3_ : ft 3 = (nI no)) (hk4_ : ft 4 = (nI un)) (hkt : kr_t 228 ft) (hfi : fi ≤ 6) (hgl : gl ≤ 5) (hmi : mi ≤ 4) (hno : no ≤ 6) (hun : un ≤ 8) (hgf : (gl = 0 ∨ 0 < fi)) (hbl : bl ≤ 150) (ha0_ : fan 0 = (nI afi)) (ha1_ : fan 1 = (nI agl)) (ha2_ : fan 2 = (nI ami)) (ha3_ : fan 3 = (nI ano)) (ha4_ : fan 4 = (nI aun)) (ha21_ : fan 21 = (nI asp)) (hkan : kr_t 76 fan) (hB0 : afi ≤ 6) (hB1 : agl ≤ 5) (hB2 : ami ≤ 4) (hB3 : ano ≤ 6) (hB4 : aun ≤ 8) (hB5 : asp ≤ 12) (hagf : (agl = 0 ∨ 0 < afi)) (hA1 : ks_read fmb bl = ks_ok m a b t kd) : kw_Mi l yX11_read wsX11_read ({ frames := 8, cells := 0, slots := 0, locals := 219 }) D y [.ref mo] [(mo, .inr (11, [.ref to, .ref ke, .ref ik, .ref mrf, .long mab, .long mbl, .ref ha, .ref r0, .ref mbr, .ref mbp, .ref mby, .int (nI bl), .int (nI ta), .int (nI tl), .int (nI tk), .int vv, .ref an, .ref va])), (mby, .inl (y 0, 150, .inl fmb)), (va, .inl (y 0, 2, .inl fva)), (an, .inl (y 0, 76, .inl fan)), (to, .inl (y 0, 228, .inl ft))] (fun (r : Int32) (u : Nat × Nat × Nat × Int32 × (Nat → Int32) × (Nat → Int32) × Nat × (Nat → Int32)) => u.1 ≤ 150 ∧ u.2.1 ≤ 150 ∧ u.2.2.1 ≤ 4 ∧ kr_t 76 u.2.2.2.2.2.1 ∧ u.2.2.2.2.2.1 0 = (nI a) ∧ u.2.2.2.2.2.1 1 = (nI b) ∧ u.2.2.2.2.2.1 2 = (nI 0) ∧ u.2.2.2.2.2.1 3 = (nI 0) ∧ u.2.2.2.2.2.1 4 = (nI 0) ∧ u.2.2.2.2.2.2.1 ≤ 12 ∧ u.2.2.2.2.2.1 21 = (nI u.2.2.2.2.2.2.1) ∧ kr_t 228 u.2.2.2.2.2.2.2 ∧ u.2.2.2.2.2.2.2 0 = (nI a) ∧ u.2.2.2.2.2.2.2 1 = (nI b) ∧ u.2.2.2.2.2.2.2 2 = (nI 0) ∧ u.2.2.2.2.2.2.2 3 = (nI 0) ∧ u.2.2.2.2.2.2.2 4 = (nI 0) ∧ kz_ka u.2.2.2.2.2.2.2 a kd ∧ (b = 0 ∨ 0 < a) ∧ (b = 0 ∨ 0 < a) ∧ r = (nI m)) (fun u => [(mo, .inr (11, [.ref to, .ref ke, .ref ik, .ref mrf, .long mab, .long mbl, .ref ha, .ref r0, .ref mbr, .ref mbp, .ref mby, .int (nI bl), .int (nI u.1), .int (nI u.2.1), .int (nI u.2.2.1), .int u.2.2.2.1, .ref an, .ref va])), (mby, .inl (y 0, 150, .inl fmb)), (va, .inl (y 0, 2, .inl u.2.2.2.2.1)), (an, .inl (y 0, 76, .inl u.2.2.2.2.2.1)), (to, .inl (y 0, 228, .inl u.2.2.2.2.2.2.2))]) 0 0 := by
  refine kw_Mi.of (cc := cX11_read) (maxL := 3) (ret := (some .int)) (by decide) rfl ?_
  intro pZ eZ s mZ beZ meZ cZ A hE
  obtain ⟨hx, hb, hr, hml, hts, hown, hlocks, hin, hA, hP, hD, hK, hN⟩ := hE
  have hS : va_S A s.heap s.heap [] := va_S.rf
  have hl := lv_entry ([.ref mo]) (n := 3) (Nat.le_of_ble_eq_true rfl)
  rw [lg_entry_eq]
  generalize (lg_sl ([.ref mo]) ++ List.replicate (3 - (lg_sl ([.ref mo])).length) Slot.unset).toArray = ls at hl ⊢
  have hl : lv_has ls 3 [(0, .ref mo)] := hl
  have fw1 := hts (.fieldLink RX11 228 "GleanDuskModel" "token" "I") (List.mem_of_getElem? (i := 2) rfl)
  have fw2 := hts (.fieldLink RX11 7 "GleanDuskModel" "told" "[I") (List.mem_of_getElem? (i := 3) rfl)
  have fw3 := hts (.fieldLink RX11 42 "GleanDuskModel" "anew" "[I") (List.mem_of_getElem? (i := 4) rfl)
  have iw11 : ∀ w ∈ wsX110, w ∈ wsX11_read := fun _ h => List.mem_cons_of_mem _ (List.mem_append_right _ h)
  refine lv_aload_n hx hb dX11_read_0 rfl (lv_at hl 0 rfl) ?_
  refine lv_iconst (v := 0) hx hb dX11_read_1 (by decide) ?_
  have hs1 : kw_Split [(mo, .inr (11, [.ref to, .ref ke, .ref ik, .ref mrf, .long mab, .long mbl, .ref ha, .ref r0, .ref mbr, .ref mbp, .ref mby, .int (nI bl), .int (nI ta), .int (nI tl), .int (nI tk), .int vv, .ref an, .ref va])), (mby, .inl (y 0, 150, .inl fmb)), (va, .inl (y 0, 2, .inl fva)), (an, .inl (y 0, 76, .inl fan)), (to, .inl (y 0, 228, .inl ft))] [(mo, .inr (11, [.ref to, .ref ke, .ref ik, .ref mrf, .long mab, .long mbl, .ref ha, .ref r0, .ref mbr, .ref mbp, .ref mby, .int (nI bl), .int (nI ta), .int (nI tl), .int (nI tk), .int vv, .ref an, .ref va])), (mby, .inl (y 0, 150, .inl fmb))] [(va, .inl (y 0, 2, .inl fva)), (an, .inl (y 0, 76, .inl fan)), (to, .inl (y 0, 228, .inl ft))] [0, 1] [2, 3, 4] := ⟨rfl, rfl, rfl, rfl, rfl, by decide⟩
  refine kw_go_v hs1 hP hD hS hA (va_runV (As := [.int 0]) (rest := []) ⟨hx, hb, hml, hown, hts⟩ (gr_Mlook l D y mo to ke ik mrf ha r0 mbr mbp mby an va mab mbl bl ta tl tk vv fmb 0 hbl (by omega) _) (cwV 1 hts gX11_read_X11_lookAt rfl rfl rfl (by decide +kernel) ⟨Nat.le_of_ble_eq_true rfl, Nat.le_of_ble_eq_true rfl⟩) (kw_PreV (ci := 11) (q0 := 0) hs1 hP hD hK hN rfl rfl) rfl rfl hl.1 rfl (lv_room (Nat.le_of_ble_eq_true rfl)) dX11_read_2 ⟨Nat.le_of_ble_eq_true rfl, Nat.le_of_ble_eq_true rfl⟩) (fun u3 H locs hq hP hD hS => ?_)
  obtain ⟨v4, v5, v6, v7⟩ := u3
  try dsimp only at hq
  obtain ⟨h8, h9, h10, h11, h12, h13⟩ := hq
  have hP : va_P D vwCl [(va, .inl (y 0, 2, .inl fva)), (an, .inl (y 0, 76, .inl fan)), (to, .inl (y 0, 228, .inl ft)), (mo, .inr (11, [.ref to, .ref ke, .ref ik, .ref mrf, .long mab, .long mbl, .ref ha, .ref r0, .ref mbr, .ref mbp, .ref mby, .int (nI bl), .int (nI v4), .int (nI v5), .int (nI v6), .int v7, .ref an, .ref va])), (mby, .inl (y 0, 150, .inl fmb))] H := hP
  have hD : va_D A [(va, .inl (y 0, 2, .inl fva)), (an, .inl (y 0, 76, .inl fan)), (to, .inl (y 0, 228, .inl ft)), (mo, .inr (11, [.ref to, .ref ke, .ref ik, .ref mrf, .long mab, .long mbl, .ref ha, .ref r0, .ref mbr, .ref mbp, .ref mby, .int (nI bl), .int (nI v4), .int (nI v5), .int (nI v6), .int v7, .ref an, .ref va])), (mby, .inl (y 0, 150, .inl fmb))] := hD
  obtain ⟨rfl, rfl, rfl, hn14⟩ := h13
  have hk15 := ks_K4 fmb bl 0
  have hk16 := ks_SL (f := fmb) (n := bl) (p := 0) (by omega)
  have hP : va_P D vwCl [(va, .inl (y 0, 2, .inl fva)), (an, .inl (y 0, 76, .inl fan)), (to, .inl (y 0, 228, .inl ft)), (mo, .inr (11, [.ref to, .ref ke, .ref ik, .ref mrf, .long mab, .long mbl, .ref ha, .ref r0, .ref mbr, .ref mbp, .ref mby, .int (nI bl), .int (nI (ks_S fmb bl 0)), .int (nI (ks_L fmb bl 0)), .int (nI (ks_K fmb bl 0)), .int v7, .ref an, .ref va])), (mby, .inl (y 0, 150, .inl fmb))] H := hP
  have hD : va_D A [(va, .inl (y 0, 2, .inl fva)), (an, .inl (y 0, 76, .inl fan)), (to, .inl (y 0, 228, .inl ft)), (mo, .inr (11, [.ref to, .ref ke, .ref ik, .ref mrf, .long mab, .long mbl, .ref ha, .ref r0, .ref mbr, .ref mbp, .ref mby, .int (nI bl), .int (nI (ks_S fmb bl 0)), .int (nI (ks_L fmb bl 0)), .int (nI (ks_K fmb bl 0)), .int v7, .ref an, .ref va])), (mby, .inl (y 0, 150, .inl fmb))] := hD
  refine lv_aload_n hx hb dX11_read_5 rfl (lv_at hl 0 rfl) ?_
  have hs17 : kw_Split [(va, .inl (y 0, 2, .inl fva)), (an, .inl (y 0, 76, .inl fan)), (to, .inl (y 0, 228, .inl ft)), (mo, .inr (11, [.ref to, .ref ke, .ref ik, .ref mrf, .long mab, .long mbl, .ref ha, .ref r0, .ref mbr, .ref mbp, .ref mby, .int (nI bl), .int (nI (ks_S fmb bl 0)), .int (nI (ks_L fmb bl 0)), .int (nI (ks_K fmb bl 0)), .int v7, .ref an, .ref va])), (mby, .inl (y 0, 150, .inl fmb))] [(mo, .inr (11, [.ref to, .ref ke, .ref ik, .ref mrf, .long mab, .long mbl, .ref ha, .ref r0, .ref mbr, .ref mbp, .ref mby, .int (nI bl), .int (nI (ks_S fmb bl 0)), .int (nI (ks_L fmb bl 0)), .int (nI (ks_K fmb bl 0)), .int v7, .ref an, .ref va])), (mby, .inl (y 0, 150, .inl fmb)), (va, .inl (y 0, 2, .inl fva)), (an, .inl (y 0, 76, .inl fan))] [(to, .inl (y 0, 228, .inl ft))] [3, 4, 0, 1] [2] := ⟨rfl, rfl, rfl, rfl, rfl, by decide⟩
  refine kw_go_i hs17 hP hD hS hA (va_runV (As := []) (rest := []) ⟨hx, hb, hml, hown, hts⟩ (gr_MtakesParish l D y mo to ke ik mrf ha r0 mbr mbp mby an va mab mbl bl (ks_S fmb bl 0) (ks_L fmb bl 0) (ks_K fmb bl 0) v7 fmb fva fan afi agl ami ano aun asp (ks_E fmb bl 0) hbl (by omega) (by omega) (by omega) ha0_ ha1_ ha2_ ha3_ ha4_ ha21_ hkan hB0 hB1 hB2 hB3 hB4 hB5 hagf _) (cwV 0 hts gX11_read_X11_takesParish rfl rfl rfl (by decide +kernel) ⟨Nat.le_of_ble_eq_true rfl, Nat.le_of_ble_eq_true rfl⟩) (kw_PreV (ci := 11) (q0 := 3) hs17 hP hD hK hN rfl rfl) rfl rfl hl.1 rfl (lv_room (Nat.le_of_ble_eq_true rfl)) dX11_read_6 ⟨Nat.le_of_ble_eq_true rfl, Nat.le_of_ble_eq_true rfl⟩) (fun r18 u19 H locs hq hP hD hS => ?_)
  obtain ⟨v20, v21, v22, v23, v24, v25, v26, v27, v28, v29, v30, v31⟩ := u19
  try dsimp only at hq
  obtain ⟨h32, h33, h34, h35, h36, h37, h38, h39, h40, h41, h42, h43, h44, h45, h46, h47, (rfl | rfl), h48, h49, h50, h51⟩ := hq
  · skip
    have hP : va_P D vwCl [(to, .inl (y 0, 228, .inl ft)), (mo, .inr (11, [.ref to, .ref ke, .ref ik, .ref mrf, .long mab, .long mbl, .ref ha, .ref r0, .ref mbr, .ref mbp, .ref mby, .int (nI bl), .int (nI v20), .int (nI v21), .int (nI v22), .int v23, .ref an, .ref va])), (mby, .inl (y 0, 150, .inl fmb)), (va, .inl (y 0, 2, .inl v24)), (an, .inl (y 0, 76, .inl v25))] H := hP
    have hD : va_D A [(to, .inl (y 0, 228, .inl ft)), (mo, .inr (11, [.ref to, .ref ke, .ref ik, .ref mrf, .long mab, .long mbl, .ref ha, .ref r0, .ref mbr, .ref mbp, .ref mby, .int (nI bl), .int (nI v20), .int (nI v21), .int (nI v22), .int v23, .ref an, .ref va])), (mby, .inl (y 0, 150, .inl fmb)), (va, .inl (y 0, 2, .inl v24)), (an, .inl (y 0, 76, .inl v25))] := hD
    have h50 : ks_pa fmb bl (ks_K fmb bl 0) (ks_S fmb bl 0) (ks_E fmb bl 0) = ks_flt v20 := h50 rfl
    have hP : va_P D vwCl [(to, .inl (y 0, 228, .inl ft)), (mo, .inr (11, [.ref to, .ref ke, .ref ik, .ref mrf, .long mab, .long mbl, .ref ha, .ref r0, .ref mbr, .ref mbp, .ref mby, .int (nI bl), .int (nI v20), .int (nI v21), .int (nI v22), .int v23, .ref an, .ref va])), (mby, .inl (y 0, 150, .inl fmb)), (va, .inl (y 0, 2, .inl v24)), (an, .inl (y 0, 76, .inl v25))] H := hP
    have hD : va_D A [(to, .inl (y 0, 228, .inl ft)), (mo, .inr (11, [.ref to, .ref ke, .ref ik, .ref mrf, .long mab, .long mbl, .ref ha, .ref r0, .ref mbr, .ref mbp, .ref mby, .int (nI bl), .int (nI v20), .int (nI v21), .int (nI v22), .int v23, .ref an, .ref va])), (mby, .inl (y 0, 150, .inl fmb)), (va, .inl (y 0, 2, .inl v24)), (an, .inl (y 0, 76, .inl v25))] := hD
    refine lv_if_ne (tgt := 20) hx hb dX11_read_9 (by decide) (fun h9 => absurd h9 (by decide)) (fun _ => ?_)
    have hF9 : ks_read fmb bl = ks_flt v20 := ks_read_paF h50
    exact (ks_ne (hF9.symm.trans hA1)).elim
  · skip
    have hP : va_P D vwCl [(to, .inl (y 0, 228, .inl ft)), (mo, .inr (11, [.ref to, .ref ke, .ref ik, .ref mrf, .long mab, .long mbl, .ref ha, .ref r0, .ref mbr, .ref mbp, .ref mby, .int (nI bl), .int (nI v20), .int (nI v21), .int (nI v22), .int v23, .ref an, .ref va])), (mby, .inl (y 0, 150, .inl fmb)), (va, .inl (y 0, 2, .inl v24)), (an, .inl (y 0, 76, .inl v25))] H := hP
    have hD : va_D A [(to, .inl (y 0, 228, .inl ft)), (mo, .inr (11, [.ref to, .ref ke, .ref ik, .ref mrf, .long mab, .long mbl, .ref ha, .ref r0, .ref mbr, .ref mbp, .ref mby, .int (nI bl), .int (nI v20), .int (nI v21), .int (nI v22), .int v23, .ref an, .ref va])), (mby, .inl (y 0, 150, .inl fmb)), (va, .inl (y 0, 2, .inl v24)), (an, .inl (y 0, 76, .inl v25))] := hD
    have h51 : ks_pa fmb bl (ks_K fmb bl 0) (ks_S fmb bl 0) (ks_E fmb bl 0) = ks_ok (ks_E fmb bl (ks_E fmb bl 0)) 0 0 12 (fun _ => 0) ∧ ks_K fmb bl (ks_E fmb bl (ks_E fmb bl 0)) = 3 ∧ v20 = ks_S fmb bl (ks_E fmb bl (ks_E fmb bl 0)) ∧ v21 = ks_L fmb bl (ks_E fmb bl (ks_E fmb bl 0)) ∧ v22 = ks_K fmb bl (ks_E fmb bl (ks_E fmb bl 0)) ∧ v26 = 0 ∧ v27 = 0 ∧ v28 = 0 ∧ v29 = 0 ∧ v30 = 0 ∧ v31 = 0 ∧ kz_N fmb bl (ks_E fmb bl (ks_E fmb bl 0)) v23 := h51 rfl
    obtain ⟨h52, h53, h54, h55, h56, h57, h58, h59, h60, h61, h62, h63⟩ := h51
    have h54 := h54.symm
    subst h54
    have h55 := h55.symm
    subst h55
    have h56 := h56.symm
    subst h56
    have h57 := h57.symm
    subst h57
    have h58 := h58.symm
    subst h58
    have h59 := h59.symm
    subst h59
    have h60 := h60.symm
    subst h60
    have h61 := h61.symm
    subst h61
    have h62 := h62.symm
    subst h62
    have hP : va_P D vwCl [(to, .inl (y 0, 228, .inl ft)), (mo, .inr (11, [.ref to, .ref ke, .ref ik, .ref mrf, .long mab, .long mbl, .ref ha, .ref r0, .ref mbr, .ref mbp, .ref mby, .int (nI bl), .int (nI (ks_S fmb bl (ks_E fmb bl (ks_E fmb bl 0)))), .int (nI (ks_L fmb bl (ks_E fmb bl (ks_E fmb bl 0)))), .int (nI (ks_K fmb bl (ks_E fmb bl (ks_E fmb bl 0)))), .int v23, .ref an, .ref va])), (mby, .inl (y 0, 150, .inl fmb)), (va, .inl (y 0, 2, .inl v24)), (an, .inl (y 0, 76, .inl v25))] H := hP
    have hD : va_D A [(to, .inl (y 0, 228, .inl ft)), (mo, .inr (11, [.ref to, .ref ke, .ref ik, .ref mrf, .long mab, .long mbl, .ref ha, .ref r0, .ref mbr, .ref mbp, .ref mby, .int (nI bl), .int (nI (ks_S fmb bl (ks_E fmb bl (ks_E fmb bl 0)))), .int (nI (ks_L fmb bl (ks_E fmb bl (ks_E fmb bl 0)))), .int (nI (ks_K fmb bl (ks_E fmb bl (ks_E fmb bl 0)))), .int v23, .ref an, .ref va])), (mby, .inl (y 0, 150, .inl fmb)), (va, .inl (y 0, 2, .inl v24)), (an, .inl (y 0, 76, .inl v25))] := hD
    have hk64 := ks_E_le (f := fmb) (n := bl) (p := ks_E fmb bl 0) (by omega)
    have hk65 := ks_SL (f := fmb) (n := bl) (p := (ks_E fmb bl (ks_E fmb bl 0))) hk64.2
    have hk66 := ks_S_le (f := fmb) (n := bl) (p := (ks_E fmb bl (ks_E fmb bl 0))) hk64.2
    have hk67 := ks_K4 fmb bl (ks_E fmb bl (ks_E fmb bl 0))
    refine lv_if_ne (tgt := 20) hx hb dX11_read_9 (by decide) (fun _ => ?_) (fun h9 => absurd h9 (by decide))
    refine lv_aload_n hx hb dX11_read_20 rfl (lv_at hl 0 rfl) ?_
    have hs68 : kw_Split [(to, .inl (y 0, 228, .inl ft)), (mo, .inr (11, [.ref to, .ref ke, .ref ik, .ref mrf, .long mab, .long mbl, .ref ha, .ref r0, .ref mbr, .ref mbp, .ref mby, .int (nI bl), .int (nI (ks_S fmb bl (ks_E fmb bl (ks_E fmb bl 0)))), .int (nI (ks_L fmb bl (ks_E fmb bl (ks_E fmb bl 0)))), .int (nI (ks_K fmb bl (ks_E fmb bl (ks_E fmb bl 0)))), .int v23, .ref an, .ref va])), (mby, .inl (y 0, 150, .inl fmb)), (va, .inl (y 0, 2, .inl v24)), (an, .inl (y 0, 76, .inl v25))] [(mo, .inr (11, [.ref to, .ref ke, .ref ik, .ref mrf, .long mab, .long mbl, .ref ha, .ref r0, .ref mbr, .ref mbp, .ref mby, .int (nI bl), .int (nI (ks_S fmb bl (ks_E fmb bl (ks_E fmb bl 0)))), .int (nI (ks_L fmb bl (ks_E fmb bl (ks_E fmb bl 0)))), .int (nI (ks_K fmb bl (ks_E fmb bl (ks_E fmb bl 0)))), .int v23, .ref an, .ref va])), (mby, .inl (y 0, 150, .inl fmb))] [(to, .inl (y 0, 228, .inl ft)), (va, .inl (y 0, 2, .inl v24)), (an, .inl (y 0, 76, .inl v25))] [1, 2] [0, 3, 4] := ⟨rfl, rfl, rfl, rfl, rfl, by decide⟩
    refine kw_go_v hs68 hP hD hS hA (va_runV (As := []) (rest := []) ⟨hx, hb, hml, hown, hts⟩ (gr_Mgo l D y mo to ke ik mrf ha r0 mbr mbp mby an va mab mbl bl (ks_S fmb bl (ks_E fmb bl (ks_E fmb bl 0))) (ks_L fmb bl (ks_E fmb bl (ks_E fmb bl 0))) (ks_K fmb bl (ks_E fmb bl (ks_E fmb bl 0))) v23 fmb (ks_E fmb bl (ks_E fmb bl (ks_E fmb bl 0))) hbl (by omega) (by omega) (by omega) _) (cwV 0 hts gX11_read_X11_goBehind rfl rfl rfl (by decide +kernel) ⟨Nat.le_of_ble_eq_true rfl, Nat.le_of_ble_eq_true rfl⟩) (kw_PreV (ci := 11) (q0 := 1) hs68 hP hD hK hN rfl rfl) rfl rfl hl.1 rfl (lv_room (Nat.le_of_ble_eq_true rfl)) dX11_read_21 ⟨Nat.le_of_ble_eq_true rfl, Nat.le_of_ble_eq_true rfl⟩) (fun u70 H locs hq hP hD hS => ?_)
    obtain ⟨v71, rfl⟩ : ∃ z, z = u70 := ⟨_, rfl⟩
    try dsimp only at hq
    obtain ⟨h72, h73, h74, h75, h76⟩ := hq
    have hP : va_P D vwCl [(to, .inl (y 0, 228, .inl ft)), (va, .inl (y 0, 2, .inl v24)), (an, .inl (y 0, 76, .inl v25)), (mo, .inr (11, [.ref to, .ref ke, .ref ik, .ref mrf, .long mab, .long mbl, .ref ha, .ref r0, .ref mbr, .ref mbp, .ref mby, .int (nI bl), .int (nI (ks_S fmb bl (ks_E fmb bl (ks_E fmb bl (ks_E fmb bl 0))))), .int (nI (ks_L fmb bl (ks_E fmb bl (ks_E fmb bl (ks_E fmb bl 0))))), .int (nI (ks_K fmb bl (ks_E fmb bl (ks_E fmb bl (ks_E fmb bl 0))))), .int v71, .ref an, .ref va])), (mby, .inl (y 0, 150, .inl fmb))] H := hP
    have hD : va_D A [(to, .inl (y 0, 228, .inl ft)), (va, .inl (y 0, 2, .inl v24)), (an, .inl (y 0, 76, .inl v25)), (mo, .inr (11, [.ref to, .ref ke, .ref ik, .ref mrf, .long mab, .long mbl, .ref ha, .ref r0, .ref mbr, .ref mbp, .ref mby, .int (nI bl), .int (nI (ks_S fmb bl (ks_E fmb bl (ks_E fmb bl (ks_E fmb bl 0))))), .int (nI (ks_L fmb bl (ks_E fmb bl (ks_E fmb bl (ks_E fmb bl 0))))), .int (nI (ks_K fmb bl (ks_E fmb bl (ks_E fmb bl (ks_E fmb bl 0))))), .int v71, .ref an, .ref va])), (mby, .inl (y 0, 150, .inl fmb))] := hD
    refine lv_iconst (v := 1) hx hb dX11_read_24 (by decide) ?_
    refine lv_istore_n (lv' := [(1, .int 1), (0, .ref mo)]) hx hb dX11_read_25 rfl hl (by decide) rfl (fun ls hl => ?_)
    have lp312 : ∀ (fu91 : Nat) (x152 : Nat) (x153 : Nat → Int32) (x154 : Nat → Int32) (x155 : Nat) (x156 : Nat) (x157 : Nat) (x158 : Int32) (x234 : Nat) (x235 : Nat) (x236 : Nat) (H : Heap) (locs : List Loc) (ls : Array Slot), bl - x155 < fu91 → kr_t 76 x154 → x154 0 = (nI x234) → x154 1 = (nI x235) → x154 2 = (nI 0) → x154 3 = (nI 0) → x154 4 = (nI 0) → x154 21 = (nI x236) → x152 ≤ bl + 1 → x155 ≤ bl → x156 ≤ 150 → x157 ≤ 4 → x234 ≤ 6 → x235 ≤ 5 → x236 ≤ 12 → kz_RI fmb bl x155 x156 x157 x158 x152 x234 x235 x236 x154 → x155 + x156 ≤ bl → x152 ≤ x155 + 1 → (x235 = 0 ∨ 0 < x234) → va_P D vwCl [(to, .inl (y 0, 228, .inl ft)), (va, .inl (y 0, 2, .inl x153)), (an, .inl (y 0, 76, .inl x154)), (mo, .inr (11, [.ref to, .ref ke, .ref ik, .ref mrf, .long mab, .long mbl, .ref ha, .ref r0, .ref mbr, .ref mbp, .ref mby, .int (nI bl), .int (nI x155), .int (nI x156), .int (nI x157), .int x158, .ref an, .ref va])), (mby, .inl (y 0, 150, .inl fmb))] H → va_D A [(to, .inl (y 0, 228, .inl ft)), (va, .inl (y 0, 2, .inl x153)), (an, .inl (y 0, 76, .inl x154)), (mo, .inr (11, [.ref to, .ref ke, .ref ik, .ref mrf, .long mab, .long mbl, .ref ha, .ref r0, .ref mbr, .ref mbp, .ref mby, .int (nI bl), .int (nI x155), .int (nI x156), .int (nI x157), .int x158, .ref an, .ref va])), (mby, .inl (y 0, 150, .inl fmb))] → va_S A s.heap H locs → lv_has ls 3 [(1, .int (nI x152)), (0, .ref mo)] → W pZ l eZ ({ frames := 8, cells := 0, slots := 0, locals := 219 }) s mZ [.ref mo].toArray beZ meZ cZ H locs 0 0 (MQ beZ (va_Qi (fun (r : Int32) (u : Nat × Nat × Nat × Int32 × (Nat → Int32) × (Nat → Int32) × Nat × (Nat → Int32)) => u.1 ≤ 150 ∧ u.2.1 ≤ 150 ∧ u.2.2.1 ≤ 4 ∧ kr_t 76 u.2.2.2.2.2.1 ∧ u.2.2.2.2.2.1 0 = (nI a) ∧ u.2.2.2.2.2.1 1 = (nI b) ∧ u.2.2.2.2.2.1 2 = (nI 0) ∧ u.2.2.2.2.2.1 3 = (nI 0) ∧ u.2.2.2.2.2.1 4 = (nI 0) ∧ u.2.2.2.2.2.2.1 ≤ 12 ∧ u.2.2.2.2.2.1 21 = (nI u.2.2.2.2.2.2.1) ∧ kr_t 228 u.2.2.2.2.2.2.2 ∧ u.2.2.2.2.2.2.2 0 = (nI a) ∧ u.2.2.2.2.2.2.2 1 = (nI b) ∧ u.2.2.2.2.2.2.2 2 = (nI 0) ∧ u.2.2.2.2.2.2.2 3 = (nI 0) ∧ u.2.2.2.2.2.2.2 4 = (nI 0) ∧ kz_ka u.2.2.2.2.2.2.2 a kd ∧ (b = 0 ∨ 0 < a) ∧ (b = 0 ∨ 0 < a) ∧ r = (nI m)) (kw_B D (fun u => [(mo, .inr (11, [.ref to, .ref ke, .ref ik, .ref mrf, .long mab, .long mbl, .ref ha, .ref r0, .ref mbr, .ref mbp, .ref mby, .int (nI bl), .int (nI u.1), .int (nI u.2.1), .int (nI u.2.2.1), .int u.2.2.2.1, .ref an, .ref va])), (mby, .inl (y 0, 150, .inl fmb)), (va, .inl (y 0, 2, .inl u.2.2.2.2.1)), (an, .inl (y 0, 76, .inl u.2.2.2.2.2.1)), (to, .inl (y 0, 228, .inl u.2.2.2.2.2.2.2))]) A) A) [.ref mo].toArray s 0 0 A) (F0 mZ 26 ls []) := by
      intro fu91
      induction fu91 with
      | zero => intro x152 x153 x154 x155 x156 x157 x158 x234 x235 x236 H locs ls hf9; exact absurd hf9 (Nat.not_lt_zero _)
      | succ fu91 ihfu91 =>
        intro x152 x153 x154 x155 x156 x157 x158 x234 x235 x236 H locs ls hffu91 hr_x154 hk_x154_0 hk_x154_1 hk_x154_2 hk_x154_3 hk_x154_4 hk_x154_21 hn_x152 hn_x155 hn_x156 hn_x157 hn_x234 hn_x235 hn_x236 hJ0_fu91 hJ1_fu91 hJ2_fu91 hJ3_fu91 hP hD hS hl
        obtain ⟨p9, kd9, ⟨rfl, rfl, rfl, hn9⟩, hp9, hL9, hk9⟩ := hJ0_fu91
        have hk313 := ks_K4 fmb bl p9
        have hk314 := ks_SL (f := fmb) (n := bl) (p := p9) hp9
        have hk315 := ks_S_le (f := fmb) hp9
        have hP : va_P D vwCl [(to, .inl (y 0, 228, .inl ft)), (va, .inl (y 0, 2, .inl x153)), (an, .inl (y 0, 76, .inl x154)), (mo, .inr (11, [.ref to, .ref ke, .ref ik, .ref mrf, .long mab, .long mbl, .ref ha, .ref r0, .ref mbr, .ref mbp, .ref mby, .int (nI bl), .int (nI (ks_S fmb bl p9)), .int (nI (ks_L fmb bl p9)), .int (nI (ks_K fmb bl p9)), .int x158, .ref an, .ref va])), (mby, .inl (y 0, 150, .inl fmb))] H := hP
        have hD : va_D A [(to, .inl (y 0, 228, .inl ft)), (va, .inl (y 0, 2, .inl x153)), (an, .inl (y 0, 76, .inl x154)), (mo, .inr (11, [.ref to, .ref ke, .ref ik, .ref mrf, .long mab, .long mbl, .ref ha, .ref r0, .ref mbr, .ref mbp, .ref mby, .int (nI bl), .int (nI (ks_S fmb bl p9)), .int (nI (ks_L fmb bl p9)), .int (nI (ks_K fmb bl p9)), .int x158, .ref an, .ref va])), (mby, .inl (y 0, 150, .inl fmb))] := hD
        refine lv_aload_n hx hb dX11_read_26 rfl (lv_at hl 1 rfl) ?_
        refine va_get (D := D) (ci := 11) (v := .int (nI (ks_K fmb bl p9))) (C := RX11) (T := TX11) (N := 18) hx hb hts iw11 hown hK hP 3 rfl rfl 14 (by decide) fw1 (fun _ h9 => h9) rfl dX11_read_27 ?_
        refine lv_if_eq (tgt := 66) hx hb dX11_read_30 (by decide) (fun h316 => ?_) (fun h317 => ?_)
        · skip
          have h316 : (ks_K fmb bl p9) = 0 := (nI_eq (a := (ks_K fmb bl p9)) (b := 0) (by omega) (by omega)).mp h316
          obtain ⟨e1, e2, e3, e4, e5⟩ := ks_ok_inj (hA1.symm.trans (hL9.trans (ks_loop0 h316)))
          subst e1
          subst e2
          subst e3
          subst e5
          have hP : va_P D vwCl [(to, .inl (y 0, 228, .inl ft)), (va, .inl (y 0, 2, .inl x153)), (an, .inl (y 0, 76, .inl x154)), (mo, .inr (11, [.ref to, .ref ke, .ref ik, .ref mrf, .long mab, .long mbl, .ref ha, .ref r0, .ref mbr, .ref mbp, .ref mby, .int (nI bl), .int (nI (ks_S fmb bl p9)), .int (nI (ks_L fmb bl p9)), .int (nI (ks_K fmb bl p9)), .int x158, .ref an, .ref va])), (mby, .inl (y 0, 150, .inl fmb))] H := hP
          have hD : va_D A [(to, .inl (y 0, 228, .inl ft)), (va, .inl (y 0, 2, .inl x153)), (an, .inl (y 0, 76, .inl x154)), (mo, .inr (11, [.ref to, .ref ke, .ref ik, .ref mrf, .long mab, .long mbl, .ref ha, .ref r0, .ref mbr, .ref mbp, .ref mby, .int (nI bl), .int (nI (ks_S fmb bl p9)), .int (nI (ks_L fmb bl p9)), .int (nI (ks_K fmb bl p9)), .int x158, .ref an, .ref va])), (mby, .inl (y 0, 150, .inl fmb))] := hD
          refine lv_iconst (v := 0) hx hb dX11_read_66 (by decide) ?_
          refine lv_istore_n (lv' := [(2, .int 0), (1, .int (nI m)), (0, .ref mo)]) hx hb dX11_read_67 rfl hl (by decide) rfl (fun ls hl => ?_)
          have lp335 : ∀ (fuj92 j92 : Nat) (x326 : Nat → Int32) (H : Heap) (locs : List Loc) (ls : Array Slot), j92 ≤ 76 → 76 - j92 < fuj92 → x326 = kr_cp ft x154 j92 → va_P D vwCl [(to, .inl (y 0, 228, .inl x326)), (va, .inl (y 0, 2, .inl x153)), (an, .inl (y 0, 76, .inl x154)), (mo, .inr (11, [.ref to, .ref ke, .ref ik, .ref mrf, .long mab, .long mbl, .ref ha, .ref r0, .ref mbr, .ref mbp, .ref mby, .int (nI bl), .int (nI (ks_S fmb bl p9)), .int (nI (ks_L fmb bl p9)), .int (nI (ks_K fmb bl p9)), .int x158, .ref an, .ref va])), (mby, .inl (y 0, 150, .inl fmb))] H → va_D A [(to, .inl (y 0, 228, .inl x326)), (va, .inl (y 0, 2, .inl x153)), (an, .inl (y 0, 76, .inl x154)), (mo, .inr (11, [.ref to, .ref ke, .ref ik, .ref mrf, .long mab, .long mbl, .ref ha, .ref r0, .ref mbr, .ref mbp, .ref mby, .int (nI bl), .int (nI (ks_S fmb bl p9)), .int (nI (ks_L fmb bl p9)), .int (nI (ks_K fmb bl p9)), .int x158, .ref an, .ref va])), (mby, .inl (y 0, 150, .inl fmb))] → va_S A s.heap H locs → lv_has ls 3 [(2, .int (nI j92)), (1, .int (nI m)), (0, .ref mo)] → W pZ l eZ ({ frames := 8, cells := 0, slots := 0, locals := 219 }) s mZ [.ref mo].toArray beZ meZ cZ H locs 0 0 (MQ beZ (va_Qi (fun (r : Int32) (u : Nat × Nat × Nat × Int32 × (Nat → Int32) × (Nat → Int32) × Nat × (Nat → Int32)) => u.1 ≤ 150 ∧ u.2.1 ≤ 150 ∧ u.2.2.1 ≤ 4 ∧ kr_t 76 u.2.2.2.2.2.1 ∧ u.2.2.2.2.2.1 0 = (nI a) ∧ u.2.2.2.2.2.1 1 = (nI b) ∧ u.2.2.2.2.2.1 2 = (nI 0) ∧ u.2.2.2.2.2.1 3 = (nI 0) ∧ u.2.2.2.2.2.1 4 = (nI 0) ∧ u.2.2.2.2.2.2.1 ≤ 12 ∧ u.2.2.2.2.2.1 21 = (nI u.2.2.2.2.2.2.1) ∧ kr_t 228 u.2.2.2.2.2.2.2 ∧ u.2.2.2.2.2.2.2 0 = (nI a) ∧ u.2.2.2.2.2.2.2 1 = (nI b) ∧ u.2.2.2.2.2.2.2 2 = (nI 0) ∧ u.2.2.2.2.2.2.2 3 = (nI 0) ∧ u.2.2.2.2.2.2.2 4 = (nI 0) ∧ kz_ka u.2.2.2.2.2.2.2 a kd ∧ (b = 0 ∨ 0 < a) ∧ (b = 0 ∨ 0 < a) ∧ r = (nI m)) (kw_B D (fun u => [(mo, .inr (11, [.ref to, .ref ke, .ref ik, .ref mrf, .long mab, .long mbl, .ref ha, .ref r0, .ref mbr, .ref mbp, .ref mby, .int (nI bl), .int (nI u.1), .int (nI u.2.1), .int (nI u.2.2.1), .int u.2.2.2.1, .ref an, .ref va])), (mby, .inl (y 0, 150, .inl fmb)), (va, .inl (y 0, 2, .inl u.2.2.2.2.1)), (an, .inl (y 0, 76, .inl u.2.2.2.2.2.1)), (to, .inl (y 0, 228, .inl u.2.2.2.2.2.2.2))]) A) A) [.ref mo].toArray s 0 0 A) (F0 mZ 68 ls []) := by
            intro fuj92
            induction fuj92 with
            | zero => intro j92 x326 H locs ls hj9 hf9; exact absurd hf9 (Nat.not_lt_zero _)
            | succ fuj92 ihj92 =>
              intro j92 x326 H locs ls hj92 hfj92 hI0_j92 hP hD hS hl
              refine lv_iload_n hx hb dX11_read_68 rfl (lv_at hl 0 rfl) ?_
              refine lv_bipush (v := 76) hx hb dX11_read_69 (by decide) ?_
              refine lv_icmp_ge (tgt := 92) hx hb dX11_read_71 (by decide) (fun h336 => ?_) (fun h337 => ?_)
              · skip
                have h336 : 76 ≤ j92 := (nI_leI (a := 76) (b := j92) (by omega) (by omega)).mp h336
                obtain rfl : j92 = 76 := by omega
                subst hI0_j92
                have hP : va_P D vwCl [(to, .inl (y 0, 228, .inl (kr_cp ft x154 76))), (va, .inl (y 0, 2, .inl x153)), (an, .inl (y 0, 76, .inl x154)), (mo, .inr (11, [.ref to, .ref ke, .ref ik, .ref mrf, .long mab, .long mbl, .ref ha, .ref r0, .ref mbr, .ref mbp, .ref mby, .int (nI bl), .int (nI (ks_S fmb bl p9)), .int (nI (ks_L fmb bl p9)), .int (nI (ks_K fmb bl p9)), .int x158, .ref an, .ref va])), (mby, .inl (y 0, 150, .inl fmb))] H := hP
                have hD : va_D A [(to, .inl (y 0, 228, .inl (kr_cp ft x154 76))), (va, .inl (y 0, 2, .inl x153)), (an, .inl (y 0, 76, .inl x154)), (mo, .inr (11, [.ref to, .ref ke, .ref ik, .ref mrf, .long mab, .long mbl, .ref ha, .ref r0, .ref mbr, .ref mbp, .ref mby, .int (nI bl), .int (nI (ks_S fmb bl p9)), .int (nI (ks_L fmb bl p9)), .int (nI (ks_K fmb bl p9)), .int x158, .ref an, .ref va])), (mby, .inl (y 0, 150, .inl fmb))] := hD
                have hr338 : kr_t 228 (kr_cp ft x154 76) := kr_cpt hr_x154 hkt (by decide)
                have hk339 : (kr_cp ft x154 76) 0 = (nI a) := (kr_cp_lt (by decide)).trans hk_x154_0
                have hk340 : (kr_cp ft x154 76) 1 = (nI b) := (kr_cp_lt (by decide)).trans hk_x154_1
                have hk341 : (kr_cp ft x154 76) 2 = (nI 0) := (kr_cp_lt (by decide)).trans hk_x154_2
                have hk342 : (kr_cp ft x154 76) 3 = (nI 0) := (kr_cp_lt (by decide)).trans hk_x154_3
                have hk343 : (kr_cp ft x154 76) 4 = (nI 0) := (kr_cp_lt (by decide)).trans hk_x154_4
                refine lv_iload_n hx hb dX11_read_92 rfl (lv_at hl 1 rfl) ?_
                exact W.iret (v := (nI m)) hx hb hr (fun tZ ht hW => ⟨⟨(nI m), (ks_S fmb bl p9, ks_L fmb bl p9, ks_K fmb bl p9, x158, x153, x154, x236, (kr_cp ft x154 76)), rfl, ⟨by first | omega | (dsimp only; omega), by first | omega | (dsimp only; omega), by first | omega | (dsimp only; omega), hr_x154, hk_x154_0, hk_x154_1, hk_x154_2, hk_x154_3, hk_x154_4, by first | omega | (dsimp only; omega), hk_x154_21, hr338, hk339, hk340, hk341, hk342, hk343, kz_ka_cp hk9 (by first | omega | (dsimp only; omega)), by first | omega | (dsimp only; omega), by first | omega | (dsimp only; omega), rfl⟩, by rw [ht]; exact hP.sub [3, 4, 1, 2, 0] rfl, hD.sub [3, 4, 1, 2, 0] (by decide) rfl⟩, hS.F ht⟩) hS.2.2 dX11_read_93
              · skip
                have h337 : ¬ 76 ≤ j92 := fun q9 => h337 ((nI_leI (a := 76) (b := j92) (by omega) (by omega)).mpr q9)
                refine lv_aload_n hx hb dX11_read_74 rfl (lv_at hl 2 rfl) ?_
                refine va_get (D := D) (ci := 11) (v := .ref to) (C := RX11) (T := TX11) (N := 18) hx hb hts iw11 hown hK hP 3 rfl rfl 0 (by decide) fw2 (fun _ h9 => h9) rfl dX11_read_75 ?_
                refine lv_iload_n hx hb dX11_read_78 rfl (lv_at hl 0 rfl) ?_
                refine lv_aload_n hx hb dX11_read_79 rfl (lv_at hl 2 rfl) ?_
                refine va_get (D := D) (ci := 11) (v := .ref an) (C := RX11) (T := TX11) (N := 18) hx hb hts iw11 hown hK hP 3 rfl rfl 16 (by decide) fw3 (fun _ h9 => h9) rfl dX11_read_80 ?_
                refine lv_iload_n hx hb dX11_read_83 rfl (lv_at hl 0 rfl) ?_
                refine va_iald hx hb hK hP 2 0 rfl rfl (vp_in_nI (by omega) (by decide)) dX11_read_84 ?_
                rw [nI_clamp (n := j92) (by omega)]
                refine va_iast hx hb hK hP hD hS 0 0 rfl rfl (vp_in_nI (by omega) (by decide)) dX11_read_85 (fun H locs hP hD hS => ?_)
                rw [nI_clamp (n := j92) (by omega)] at hP hD
                have hP : va_P D vwCl [(to, .inl (y 0, 228, .inl (upd x326 j92 (x154 j92)))), (va, .inl (y 0, 2, .inl x153)), (an, .inl (y 0, 76, .inl x154)), (mo, .inr (11, [.ref to, .ref ke, .ref ik, .ref mrf, .long mab, .long mbl, .ref ha, .ref r0, .ref mbr, .ref mbp, .ref mby, .int (nI bl), .int (nI (ks_S fmb bl p9)), .int (nI (ks_L fmb bl p9)), .int (nI (ks_K fmb bl p9)), .int x158, .ref an, .ref va])), (mby, .inl (y 0, 150, .inl fmb))] H := hP
                have hD : va_D A [(to, .inl (y 0, 228, .inl (upd x326 j92 (x154 j92)))), (va, .inl (y 0, 2, .inl x153)), (an, .inl (y 0, 76, .inl x154)), (mo, .inr (11, [.ref to, .ref ke, .ref ik, .ref mrf, .long mab, .long mbl, .ref ha, .ref r0, .ref mbr, .ref mbp, .ref mby, .int (nI bl), .int (nI (ks_S fmb bl p9)), .int (nI (ks_L fmb bl p9)), .int (nI (ks_K fmb bl p9)), .int x158, .ref an, .ref va])), (mby, .inl (y 0, 150, .inl fmb))] := hD
                refine lv_iinc (v := (nI (j92 + 1))) (lv' := [(2, .int (nI (j92 + 1))), (1, .int (nI m)), (0, .ref mo)]) hx hb dX11_read_86 hl (k := 0) rfl (nI_1 j92) (by decide) rfl (fun ls hl => ?_)
                refine lv_goto (tgt := 68) hx hb dX11_read_89 (by decide) ?_
                exact ihj92 (j92 + 1) (upd x326 j92 (x154 j92)) H locs ls (by omega) (by omega) (by rw [hI0_j92]; exact kr_cpS) (hP.sub [0, 1, 2, 3, 4] rfl) (hD.sub [0, 1, 2, 3, 4] (by decide) rfl) hS (lv_sub hl [0, 1, 2] rfl)
          exact lp335 (76 + 1) 0 ft _ _ _ (by omega) (by omega) kr_cp0 hP hD hS (lv_sub hl [0, 1, 2] rfl)
        · skip
          have h317 : ¬ (ks_K fmb bl p9) = 0 := fun q9 => h317 ((nI_eq (a := (ks_K fmb bl p9)) (b := 0) (by omega) (by omega)).mpr q9)
          refine lv_aload_n hx hb dX11_read_33 rfl (lv_at hl 1 rfl) ?_
          have hs344 : kw_Split [(to, .inl (y 0, 228, .inl ft)), (va, .inl (y 0, 2, .inl x153)), (an, .inl (y 0, 76, .inl x154)), (mo, .inr (11, [.ref to, .ref ke, .ref ik, .ref mrf, .long mab, .long mbl, .ref ha, .ref r0, .ref mbr, .ref mbp, .ref mby, .int (nI bl), .int (nI (ks_S fmb bl p9)), .int (nI (ks_L fmb bl p9)), .int (nI (ks_K fmb bl p9)), .int x158, .ref an, .ref va])), (mby, .inl (y 0, 150, .inl fmb))] [(mo, .inr (11, [.ref to, .ref ke, .ref ik, .ref mrf, .long mab, .long mbl, .ref ha, .ref r0, .ref mbr, .ref mbp, .ref mby, .int (nI bl), .int (nI (ks_S fmb bl p9)), .int (nI (ks_L fmb bl p9)), .int (nI (ks_K fmb bl p9)), .int x158, .ref an, .ref va])), (mby, .inl (y 0, 150, .inl fmb)), (va, .inl (y 0, 2, .inl x153)), (an, .inl (y 0, 76, .inl x154))] [(to, .inl (y 0, 228, .inl ft))] [3, 4, 1, 2] [0] := ⟨rfl, rfl, rfl, rfl, rfl, by decide⟩
          refine kw_go_i hs344 hP hD hS hA (va_runV (As := []) (rest := []) ⟨hx, hb, hml, hown, hts⟩ (gr_MtakesItem l D y mo to ke ik mrf ha r0 mbr mbp mby an va mab mbl bl (ks_S fmb bl p9) (ks_L fmb bl p9) (ks_K fmb bl p9) x158 fmb x153 x154 x234 x235 0 0 0 x236 (ks_E fmb bl p9) kd9 hbl (by omega) (by omega) (by omega) hk_x154_0 hk_x154_1 hk_x154_2 hk_x154_3 hk_x154_4 hk_x154_21 hr_x154 (by omega) (by omega) (by omega) (by omega) (by omega) (by omega) hJ3_fu91 hk9 _) (cwV 0 hts gX11_read_X11_takesItem rfl rfl rfl (by decide +kernel) ⟨Nat.le_of_ble_eq_true rfl, Nat.le_of_ble_eq_true rfl⟩) (kw_PreV (ci := 11) (q0 := 3) hs344 hP hD hK hN rfl rfl) rfl rfl hl.1 rfl (lv_room (Nat.le_of_ble_eq_true rfl)) dX11_read_34 ⟨Nat.le_of_ble_eq_true rfl, Nat.le_of_ble_eq_true rfl⟩) (fun r345 u346 H locs hq hP hD hS => ?_)
          obtain ⟨v347, v348, v349, v350, v351, v352, v353, v354, v355⟩ := u346
          try dsimp only at hq
          obtain ⟨h356, h357, h358, h359, h360, h361, h362, h363, h364, h365, h366, h367, h368, (rfl | rfl), h369, h370, h371, h372⟩ := hq
          · skip
            have hP : va_P D vwCl [(to, .inl (y 0, 228, .inl ft)), (mo, .inr (11, [.ref to, .ref ke, .ref ik, .ref mrf, .long mab, .long mbl, .ref ha, .ref r0, .ref mbr, .ref mbp, .ref mby, .int (nI bl), .int (nI v347), .int (nI v348), .int (nI v349), .int v350, .ref an, .ref va])), (mby, .inl (y 0, 150, .inl fmb)), (va, .inl (y 0, 2, .inl v351)), (an, .inl (y 0, 76, .inl v352))] H := hP
            have hD : va_D A [(to, .inl (y 0, 228, .inl ft)), (mo, .inr (11, [.ref to, .ref ke, .ref ik, .ref mrf, .long mab, .long mbl, .ref ha, .ref r0, .ref mbr, .ref mbp, .ref mby, .int (nI bl), .int (nI v347), .int (nI v348), .int (nI v349), .int v350, .ref an, .ref va])), (mby, .inl (y 0, 150, .inl fmb)), (va, .inl (y 0, 2, .inl v351)), (an, .inl (y 0, 76, .inl v352))] := hD
            have h371 : ks_it fmb bl (ks_K fmb bl p9) (ks_S fmb bl p9) (ks_E fmb bl p9) x234 x235 (12 - x236) kd9 = ks_flt v347 := h371 rfl
            refine lv_if_eq (tgt := 48) hx hb dX11_read_37 (by decide) (fun _ => ?_) (fun h9 => absurd h9 (by decide))
            have hF9 : ks_read fmb bl = ks_flt v347 := hL9.trans (ks_loopF h317 h371)
            exact (ks_ne (hF9.symm.trans hA1)).elim
          · skip
            have hP : va_P D vwCl [(to, .inl (y 0, 228, .inl ft)), (mo, .inr (11, [.ref to, .ref ke, .ref ik, .ref mrf, .long mab, .long mbl, .ref ha, .ref r0, .ref mbr, .ref mbp, .ref mby, .int (nI bl), .int (nI v347), .int (nI v348), .int (nI v349), .int v350, .ref an, .ref va])), (mby, .inl (y 0, 150, .inl fmb)), (va, .inl (y 0, 2, .inl v351)), (an, .inl (y 0, 76, .inl v352))] H := hP
            have hD : va_D A [(to, .inl (y 0, 228, .inl ft)), (mo, .inr (11, [.ref to, .ref ke, .ref ik, .ref mrf, .long mab, .long mbl, .ref ha, .ref r0, .ref mbr, .ref mbp, .ref mby, .int (nI bl), .int (nI v347), .int (nI v348), .int (nI v349), .int v350, .ref an, .ref va])), (mby, .inl (y 0, 150, .inl fmb)), (va, .inl (y 0, 2, .inl v351)), (an, .inl (y 0, 76, .inl v352))] := hD
            have h372 : kz_go fmb bl (ks_E fmb bl p9) (ks_it fmb bl (ks_K fmb bl p9) (ks_S fmb bl p9) (ks_E fmb bl p9) x234 x235 (12 - x236) kd9) v347 v348 v349 v350 v353 v354 (12 - v355) v352 := h372 rfl
            obtain ⟨qe9, ke9, hX9, hq9, he9, ⟨rfl, rfl, rfl, hm9⟩, hj9⟩ := h372
            have hk373 := ks_K4 fmb bl qe9
            have hk374 := ks_SL (f := fmb) (n := bl) (p := qe9) hq9
            have hk375 := ks_S_le (f := fmb) hq9
            have hk376 := ks_Kpos h317
            have hP : va_P D vwCl [(to, .inl (y 0, 228, .inl ft)), (mo, .inr (11, [.ref to, .ref ke, .ref ik, .ref mrf, .long mab, .long mbl, .ref ha, .ref r0, .ref mbr, .ref mbp, .ref mby, .int (nI bl), .int (nI (ks_S fmb bl qe9)), .int (nI (ks_L fmb bl qe9)), .int (nI (ks_K fmb bl qe9)), .int v350, .ref an, .ref va])), (mby, .inl (y 0, 150, .inl fmb)), (va, .inl (y 0, 2, .inl v351)), (an, .inl (y 0, 76, .inl v352))] H := hP
            have hD : va_D A [(to, .inl (y 0, 228, .inl ft)), (mo, .inr (11, [.ref to, .ref ke, .ref ik, .ref mrf, .long mab, .long mbl, .ref ha, .ref r0, .ref mbr, .ref mbp, .ref mby, .int (nI bl), .int (nI (ks_S fmb bl qe9)), .int (nI (ks_L fmb bl qe9)), .int (nI (ks_K fmb bl qe9)), .int v350, .ref an, .ref va])), (mby, .inl (y 0, 150, .inl fmb)), (va, .inl (y 0, 2, .inl v351)), (an, .inl (y 0, 76, .inl v352))] := hD
            refine lv_if_eq (tgt := 48) hx hb dX11_read_37 (by decide) (fun h9 => absurd h9 (by decide)) (fun _ => ?_)
            refine lv_aload_n hx hb dX11_read_40 rfl (lv_at hl 1 rfl) ?_
            refine va_get (D := D) (ci := 11) (v := .int (nI (ks_K fmb bl qe9))) (C := RX11) (T := TX11) (N := 18) hx hb hts iw11 hown hK hP 1 rfl rfl 14 (by decide) fw1 (fun _ h9 => h9) rfl dX11_read_41 ?_
            refine lv_iconst (v := 3) hx hb dX11_read_44 (by decide) ?_
            refine lv_icmp_eq (tgt := 56) hx hb dX11_read_45 (by decide) (fun h377 => ?_) (fun h378 => ?_)
            · skip
              have h377 : (ks_K fmb bl qe9) = 3 := (nI_eq (a := (ks_K fmb bl qe9)) (b := 3) (by omega) (by omega)).mp h377
              refine lv_aload_n hx hb dX11_read_56 rfl (lv_at hl 1 rfl) ?_
              have hs379 : kw_Split [(to, .inl (y 0, 228, .inl ft)), (mo, .inr (11, [.ref to, .ref ke, .ref ik, .ref mrf, .long mab, .long mbl, .ref ha, .ref r0, .ref mbr, .ref mbp, .ref mby, .int (nI bl), .int (nI (ks_S fmb bl qe9)), .int (nI (ks_L fmb bl qe9)), .int (nI (ks_K fmb bl qe9)), .int v350, .ref an, .ref va])), (mby, .inl (y 0, 150, .inl fmb)), (va, .inl (y 0, 2, .inl v351)), (an, .inl (y 0, 76, .inl v352))] [(mo, .inr (11, [.ref to, .ref ke, .ref ik, .ref mrf, .long mab, .long mbl, .ref ha, .ref r0, .ref mbr, .ref mbp, .ref mby, .int (nI bl), .int (nI (ks_S fmb bl qe9)), .int (nI (ks_L fmb bl qe9)), .int (nI (ks_K fmb bl qe9)), .int v350, .ref an, .ref va])), (mby, .inl (y 0, 150, .inl fmb))] [(to, .inl (y 0, 228, .inl ft)), (va, .inl (y 0, 2, .inl v351)), (an, .inl (y 0, 76, .inl v352))] [1, 2] [0, 3, 4] := ⟨rfl, rfl, rfl, rfl, rfl, by decide⟩
              refine kw_go_v hs379 hP hD hS hA (va_runV (As := []) (rest := []) ⟨hx, hb, hml, hown, hts⟩ (gr_Mgo l D y mo to ke ik mrf ha r0 mbr mbp mby an va mab mbl bl (ks_S fmb bl qe9) (ks_L fmb bl qe9) (ks_K fmb bl qe9) v350 fmb (ks_E fmb bl qe9) hbl (by omega) (by omega) (by omega) _) (cwV 0 hts gX11_read_X11_goBehind rfl rfl rfl (by decide +kernel) ⟨Nat.le_of_ble_eq_true rfl, Nat.le_of_ble_eq_true rfl⟩) (kw_PreV (ci := 11) (q0 := 1) hs379 hP hD hK hN rfl rfl) rfl rfl hl.1 rfl (lv_room (Nat.le_of_ble_eq_true rfl)) dX11_read_57 ⟨Nat.le_of_ble_eq_true rfl, Nat.le_of_ble_eq_true rfl⟩) (fun u381 H locs hq hP hD hS => ?_)
              obtain ⟨v382, rfl⟩ : ∃ z, z = u381 := ⟨_, rfl⟩
              try dsimp only at hq
              obtain ⟨h383, h384, h385, h386, h387⟩ := hq
              have hP : va_P D vwCl [(to, .inl (y 0, 228, .inl ft)), (va, .inl (y 0, 2, .inl v351)), (an, .inl (y 0, 76, .inl v352)), (mo, .inr (11, [.ref to, .ref ke, .ref ik, .ref mrf, .long mab, .long mbl, .ref ha, .ref r0, .ref mbr, .ref mbp, .ref mby, .int (nI bl), .int (nI (ks_S fmb bl (ks_E fmb bl qe9))), .int (nI (ks_L fmb bl (ks_E fmb bl qe9))), .int (nI (ks_K fmb bl (ks_E fmb bl qe9))), .int v382, .ref an, .ref va])), (mby, .inl (y 0, 150, .inl fmb))] H := hP
              have hD : va_D A [(to, .inl (y 0, 228, .inl ft)), (va, .inl (y 0, 2, .inl v351)), (an, .inl (y 0, 76, .inl v352)), (mo, .inr (11, [.ref to, .ref ke, .ref ik, .ref mrf, .long mab, .long mbl, .ref ha, .ref r0, .ref mbr, .ref mbp, .ref mby, .int (nI bl), .int (nI (ks_S fmb bl (ks_E fmb bl qe9))), .int (nI (ks_L fmb bl (ks_E fmb bl qe9))), .int (nI (ks_K fmb bl (ks_E fmb bl qe9))), .int v382, .ref an, .ref va])), (mby, .inl (y 0, 150, .inl fmb))] := hD
              refine lv_iinc (v := (nI (x152 + 1))) (lv' := [(1, .int (nI (x152 + 1))), (0, .ref mo)]) hx hb dX11_read_60 hl (k := 0) rfl (nI_1 x152) (by decide) rfl (fun ls hl => ?_)
              refine lv_goto (tgt := 26) hx hb dX11_read_63 (by decide) ?_
              exact ihfu91 (x152 + 1) v351 v352 (ks_S fmb bl (ks_E fmb bl qe9)) (ks_L fmb bl (ks_E fmb bl qe9)) (ks_K fmb bl (ks_E fmb bl qe9)) v382 v353 v354 v355 H locs ls (by omega) h359 h361 h363 h364 h365 h366 h368 (by omega) (by omega) (by omega) (by omega) (by omega) (by omega) (by omega) (kz_RI.mk h387 (by omega) (ks_next hL9 hp9 h317 hX9 hq9 he9 h377) hj9) (by omega) (by omega) (by omega) (hP.sub [0, 1, 2, 3, 4] rfl) (hD.sub [0, 1, 2, 3, 4] (by decide) rfl) hS (lv_sub hl [0, 1] rfl)
            · skip
              have h378 : ¬ (ks_K fmb bl qe9) = 3 := fun q9 => h378 ((nI_eq (a := (ks_K fmb bl qe9)) (b := 3) (by omega) (by omega)).mpr q9)
              have hF9 : ks_read fmb bl = ks_flt (ks_S fmb bl qe9) := hL9.trans (ks_loopS h317 hX9 h378)
              exact (ks_ne (hF9.symm.trans hA1)).elim
    exact lp312 _ 1 v24 v25 (ks_S fmb bl (ks_E fmb bl (ks_E fmb bl (ks_E fmb bl 0)))) (ks_L fmb bl (ks_E fmb bl (ks_E fmb bl (ks_E fmb bl 0)))) (ks_K fmb bl (ks_E fmb bl (ks_E fmb bl (ks_E fmb bl 0)))) v71 0 0 0 _ _ _ (Nat.lt_succ_self _) h35 h37 h39 h41 h43 h45 h47 (by omega) (by omega) (by omega) (by omega) (by omega) (by omega) (by omega) (kz_RI.mk h76 (by omega) (ks_read_paN h52) kz_ka_0) (by omega) (by omega) (by omega) hP hD hS (lv_sub hl [0, 1] rfl)

set_option maxHeartbeats 4000000 in
set_option maxRecDepth 100000 in
theorem gx_parish_b0 (l : Launch) (D : va_G) (y : Nat → ClassId) (g : Nat) (kk : Nat) (nw : Nat) (im : Nat) (kp : Nat) (tx : Nat) (tr : Nat) (be : Nat) (sh : Nat) (sd : Nat) (rf : Nat) (ab : Int32) (bl : Int32) (frf : Nat → Int32) (ax1 : Int32) (hnx : (¬ ∃ j : Nat, j < 10 ∧ ax1 = nI j)) : kw_Mi l yX10_parish wsX10_parish ({ frames := 2, cells := 0, slots := 0, locals := 81 }) D y [.ref g, .int ax1] [(g, .inr (10, [.ref kk, .ref nw, .ref im, .ref kp, .ref tx, .ref tr, .ref be, .ref sh, .ref sd, .ref rf, .int ab, .int bl])), (rf, .inl (y 0, 3, .inl frf))] (fun (r : Int32) (u : Unit) => r = (-2)) (fun _ => [(g, .inr (10, [.ref kk, .ref nw, .ref im, .ref kp, .ref tx, .ref tr, .ref be, .ref sh, .ref sd, .ref rf, .int ab, .int bl])), (rf, .inl (y 0, 3, .inl (upd frf 0 ((frf 0) + 1))))]) 0 0 := by
  refine kw_Mi.of (cc := cX10_parish) (maxL := 3) (ret := (some .int)) (by decide) rfl ?_
  intro pZ eZ s mZ beZ meZ cZ A hE
  obtain ⟨hx, hb, hr, hml, hts, hown, hlocks, hin, hA, hP, hD, hK, hN⟩ := hE
  have hS : va_S A s.heap s.heap [] := va_S.rf
  have hl := lv_entry ([.ref g, .int ax1]) (n := 3) (Nat.le_of_ble_eq_true rfl)
  rw [lg_entry_eq]
  generalize (lg_sl ([.ref g, .int ax1]) ++ List.replicate (3 - (lg_sl ([.ref g, .int ax1])).length) Slot.unset).toArray = ls at hl ⊢
  have hl : lv_has ls 3 [(0, .ref g), (1, .int ax1)] := hl
  refine lv_iload_n hx hb dX10_parish_0 rfl (lv_at hl 1 rfl) ?_
  refine lv_bipush (v := 10) hx hb dX10_parish_1 (by decide) ?_
  have hs1 : kw_Split [(g, .inr (10, [.ref kk, .ref nw, .ref im, .ref kp, .ref tx, .ref tr, .ref be, .ref sh, .ref sd, .ref rf, .int ab, .int bl])), (rf, .inl (y 0, 3, .inl frf))] [] [(g, .inr (10, [.ref kk, .ref nw, .ref im, .ref kp, .ref tx, .ref tr, .ref be, .ref sh, .ref sd, .ref rf, .int ab, .int bl])), (rf, .inl (y 0, 3, .inl frf))] [] [0, 1] := ⟨rfl, rfl, rfl, rfl, rfl, by decide⟩
  refine kw_go_i hs1 hP hD hS hA (va_runS (As := [.int ax1, .int 10]) (rest := []) ⟨hx, hb, hml, hown, hts⟩ (gc_isBelow l D y ax1 10 (by omega) _) (va_cwS 2 hts gX10_parish_X10_isBelow rfl rfl rfl (by decide +kernel) ⟨Nat.le_of_ble_eq_true rfl, Nat.le_of_ble_eq_true rfl⟩) (kw_PreS hs1 hP hD hK hN) rfl rfl hl.1 rfl (lv_room (Nat.le_of_ble_eq_true rfl)) dX10_parish_3 ⟨Nat.le_of_ble_eq_true rfl, Nat.le_of_ble_eq_true rfl⟩) (fun r2 u3 H locs hq hP hD hS => ?_)
  rcases hq with ⟨j4, h5, rfl, rfl⟩ | ⟨h6, rfl⟩
  · skip
    exact absurd ⟨j4, by omega, rfl⟩ hnx
  · skip
    have hP : va_P D vwCl [(g, .inr (10, [.ref kk, .ref nw, .ref im, .ref kp, .ref tx, .ref tr, .ref be, .ref sh, .ref sd, .ref rf, .int ab, .int bl])), (rf, .inl (y 0, 3, .inl frf))] H := hP
    have hD : va_D A [(g, .inr (10, [.ref kk, .ref nw, .ref im, .ref kp, .ref tx, .ref tr, .ref be, .ref sh, .ref sd, .ref rf, .int ab, .int bl])), (rf, .inl (y 0, 3, .inl frf))] := hD
    refine lv_if_ne (tgt := 14) hx hb dX10_parish_6 (by decide) (fun h9 => absurd h9 (by decide)) (fun _ => ?_)
    refine lv_aload_n hx hb dX10_parish_9 rfl (lv_at hl 0 rfl) ?_
    have hs7 : kw_Split [(g, .inr (10, [.ref kk, .ref nw, .ref im, .ref kp, .ref tx, .ref tr, .ref be, .ref sh, .ref sd, .ref rf, .int ab, .int bl])), (rf, .inl (y 0, 3, .inl frf))] [(g, .inr (10, [.ref kk, .ref nw, .ref im, .ref kp, .ref tx, .ref tr, .ref be, .ref sh, .ref sd, .ref rf, .int ab, .int bl])), (rf, .inl (y 0, 3, .inl frf))] [] [0, 1] [] := ⟨rfl, rfl, rfl, rfl, rfl, by decide⟩
    refine kw_go_i hs7 hP hD hS hA (va_runV (As := []) (rest := []) ⟨hx, hb, hml, hown, hts⟩ (gc_refuseBad l D y g kk nw im kp tx tr be sh sd rf ab bl frf  _) (cwV 0 hts gX10_parish_X10_refuseBad rfl rfl rfl (by decide +kernel) ⟨Nat.le_of_ble_eq_true rfl, Nat.le_of_ble_eq_true rfl⟩) (kw_PreV (ci := 10) (q0 := 0) hs7 hP hD hK hN rfl rfl) rfl rfl hl.1 rfl (lv_room (Nat.le_of_ble_eq_true rfl)) dX10_parish_10 ⟨Nat.le_of_ble_eq_true rfl, Nat.le_of_ble_eq_true rfl⟩) (fun r8 u9 H locs hq hP hD hS => ?_)
    obtain rfl := hq
    have hP : va_P D vwCl [(g, .inr (10, [.ref kk, .ref nw, .ref im, .ref kp, .ref tx, .ref tr, .ref be, .ref sh, .ref sd, .ref rf, .int ab, .int bl])), (rf, .inl (y 0, 3, .inl (upd frf 0 ((frf 0) + 1))))] H := hP
    have hD : va_D A [(g, .inr (10, [.ref kk, .ref nw, .ref im, .ref kp, .ref tx, .ref tr, .ref be, .ref sh, .ref sd, .ref rf, .int ab, .int bl])), (rf, .inl (y 0, 3, .inl (upd frf 0 ((frf 0) + 1))))] := hD
    exact W.iret (v := (-2)) hx hb hr (fun tZ ht hW => ⟨⟨(-2), (), rfl, rfl, by rw [ht]; exact hP.sub [0, 1] rfl, hD.sub [0, 1] (by decide) rfl⟩, hS.F ht⟩) hS.2.2 dX10_parish_13

set_option maxHeartbeats 4000000 in
set_option maxRecDepth 100000 in
theorem gy_parish_b0 (l : Launch) (D : va_G) (y : Nat → ClassId) (mo : Nat) (to : Nat) (ke : Nat) (ik : Nat) (mrf : Nat) (ha : Nat) (r0 : Nat) (mbr : Nat) (mbp : Nat) (mby : Nat) (an : Nat) (va : Nat) (mab : Int64) (mbl : Int64) (bl : Nat) (ta : Nat) (tl : Nat) (tk : Nat) (vv : Int32) (frf : Nat → Int32) (ax1 : Int32) (hnx : (¬ ∃ j : Nat, 0 ≤ j ∧ j ≤ 9 ∧ ax1 = nI j)) : kw_Mi l yX11_parish wsX11_parish ({ frames := 3, cells := 0, slots := 0, locals := 105 }) D y [.ref mo, .int ax1] [(mo, .inr (11, [.ref to, .ref ke, .ref ik, .ref mrf, .long mab, .long mbl, .ref ha, .ref r0, .ref mbr, .ref mbp, .ref mby, .int (nI bl), .int (nI ta), .int (nI tl), .int (nI tk), .int vv, .ref an, .ref va])), (mrf, .inl (y 0, 3, .inl frf))] (fun (r : Int32) (u : Unit) => r = (-2)) (fun _ => [(mo, .inr (11, [.ref to, .ref ke, .ref ik, .ref mrf, .long mab, .long mbl, .ref ha, .ref r0, .ref mbr, .ref mbp, .ref mby, .int (nI bl), .int (nI ta), .int (nI tl), .int (nI tk), .int vv, .ref an, .ref va])), (mrf, .inl (y 0, 3, .inl (upd frf 0 ((frf 0) + 1))))]) 0 0 := by
  refine kw_Mi.of (cc := cX11_parish) (maxL := 3) (ret := (some .int)) (by decide) rfl ?_
  intro pZ eZ s mZ beZ meZ cZ A hE
  obtain ⟨hx, hb, hr, hml, hts, hown, hlocks, hin, hA, hP, hD, hK, hN⟩ := hE
  have hS : va_S A s.heap s.heap [] := va_S.rf
  have hl := lv_entry ([.ref mo, .int ax1]) (n := 3) (Nat.le_of_ble_eq_true rfl)
  rw [lg_entry_eq]
  generalize (lg_sl ([.ref mo, .int ax1]) ++ List.replicate (3 - (lg_sl ([.ref mo, .int ax1])).length) Slot.unset).toArray = ls at hl ⊢
  have hl : lv_has ls 3 [(0, .ref mo), (1, .int ax1)] := hl
  refine lv_iload_n hx hb dX11_parish_0 rfl (lv_at hl 1 rfl) ?_
  have hs1 : kw_Split [(mo, .inr (11, [.ref to, .ref ke, .ref ik, .ref mrf, .long mab, .long mbl, .ref ha, .ref r0, .ref mbr, .ref mbp, .ref mby, .int (nI bl), .int (nI ta), .int (nI tl), .int (nI tk), .int vv, .ref an, .ref va])), (mrf, .inl (y 0, 3, .inl frf))] [] [(mo, .inr (11, [.ref to, .ref ke, .ref ik, .ref mrf, .long mab, .long mbl, .ref ha, .ref r0, .ref mbr, .ref mbp, .ref mby, .int (nI bl), .int (nI ta), .int (nI tl), .int (nI tk), .int vv, .ref an, .ref va])), (mrf, .inl (y 0, 3, .inl frf))] [] [0, 1] := ⟨rfl, rfl, rfl, rfl, rfl, by decide⟩
  refine kw_go_i hs1 hP hD hS hA (va_runS (As := [.int ax1]) (rest := []) ⟨hx, hb, hml, hown, hts⟩ (gr_isCloud l D y ax1  _) (va_cwS 1 hts gX11_parish_X11_isCloud rfl rfl rfl (by decide +kernel) ⟨Nat.le_of_ble_eq_true rfl, Nat.le_of_ble_eq_true rfl⟩) (kw_PreS hs1 hP hD hK hN) rfl rfl hl.1 rfl (lv_room (Nat.le_of_ble_eq_true rfl)) dX11_parish_1 ⟨Nat.le_of_ble_eq_true rfl, Nat.le_of_ble_eq_true rfl⟩) (fun r2 u3 H locs hq hP hD hS => ?_)
  rcases hq with ⟨j4, h5, rfl, rfl⟩ | ⟨h6, rfl⟩
  · skip
    exact absurd ⟨j4, by omega, by omega, rfl⟩ hnx
  · skip
    have hP : va_P D vwCl [(mo, .inr (11, [.ref to, .ref ke, .ref ik, .ref mrf, .long mab, .long mbl, .ref ha, .ref r0, .ref mbr, .ref mbp, .ref mby, .int (nI bl), .int (nI ta), .int (nI tl), .int (nI tk), .int vv, .ref an, .ref va])), (mrf, .inl (y 0, 3, .inl frf))] H := hP
    have hD : va_D A [(mo, .inr (11, [.ref to, .ref ke, .ref ik, .ref mrf, .long mab, .long mbl, .ref ha, .ref r0, .ref mbr, .ref mbp, .ref mby, .int (nI bl), .int (nI ta), .int (nI tl), .int (nI tk), .int vv, .ref an, .ref va])), (mrf, .inl (y 0, 3, .inl frf))] := hD
    refine lv_if_ne (tgt := 14) hx hb dX11_parish_4 (by decide) (fun h9 => absurd h9 (by decide)) (fun _ => ?_)
    refine lv_aload_n hx hb dX11_parish_7 rfl (lv_at hl 0 rfl) ?_
    refine lv_bipush (v := (-2)) hx hb dX11_parish_8 (by decide) ?_
    have hs7 : kw_Split [(mo, .inr (11, [.ref to, .ref ke, .ref ik, .ref mrf, .long mab, .long mbl, .ref ha, .ref r0, .ref mbr, .ref mbp, .ref mby, .int (nI bl), .int (nI ta), .int (nI tl), .int (nI tk), .int vv, .ref an, .ref va])), (mrf, .inl (y 0, 3, .inl frf))] [(mo, .inr (11, [.ref to, .ref ke, .ref ik, .ref mrf, .long mab, .long mbl, .ref ha, .ref r0, .ref mbr, .ref mbp, .ref mby, .int (nI bl), .int (nI ta), .int (nI tl), .int (nI tk), .int vv, .ref an, .ref va])), (mrf, .inl (y 0, 3, .inl frf))] [] [0, 1] [] := ⟨rfl, rfl, rfl, rfl, rfl, by decide⟩
    refine kw_go_i hs7 hP hD hS hA (va_runV (As := [.int (-2)]) (rest := []) ⟨hx, hb, hml, hown, hts⟩ (gr_bad l D y mo to ke ik mrf ha r0 mbr mbp mby an va mab mbl bl ta tl tk vv frf (-2)  _) (cwV 1 hts gX11_parish_X11_bad rfl rfl rfl (by decide +kernel) ⟨Nat.le_of_ble_eq_true rfl, Nat.le_of_ble_eq_true rfl⟩) (kw_PreV (ci := 11) (q0 := 0) hs7 hP hD hK hN rfl rfl) rfl rfl hl.1 rfl (lv_room (Nat.le_of_ble_eq_true rfl)) dX11_parish_10 ⟨Nat.le_of_ble_eq_true rfl, Nat.le_of_ble_eq_true rfl⟩) (fun r8 u9 H locs hq hP hD hS => ?_)
    obtain rfl := hq
    have hP : va_P D vwCl [(mo, .inr (11, [.ref to, .ref ke, .ref ik, .ref mrf, .long mab, .long mbl, .ref ha, .ref r0, .ref mbr, .ref mbp, .ref mby, .int (nI bl), .int (nI ta), .int (nI tl), .int (nI tk), .int vv, .ref an, .ref va])), (mrf, .inl (y 0, 3, .inl (upd frf 0 ((frf 0) + 1))))] H := hP
    have hD : va_D A [(mo, .inr (11, [.ref to, .ref ke, .ref ik, .ref mrf, .long mab, .long mbl, .ref ha, .ref r0, .ref mbr, .ref mbp, .ref mby, .int (nI bl), .int (nI ta), .int (nI tl), .int (nI tk), .int vv, .ref an, .ref va])), (mrf, .inl (y 0, 3, .inl (upd frf 0 ((frf 0) + 1))))] := hD
    exact W.iret (v := (-2)) hx hb hr (fun tZ ht hW => ⟨⟨(-2), (), rfl, rfl, by rw [ht]; exact hP.sub [0, 1] rfl, hD.sub [0, 1] (by decide) rfl⟩, hS.F ht⟩) hS.2.2 dX11_parish_13

set_option maxHeartbeats 4000000 in
set_option maxRecDepth 100000 in
theorem gx_field_b0 (l : Launch) (D : va_G) (y : Nat → ClassId) (g : Nat) (kk : Nat) (nw : Nat) (im : Nat) (kp : Nat) (tx : Nat) (tr : Nat) (be : Nat) (sh : Nat) (sd : Nat) (rf : Nat) (ab : Int32) (bl : Int32) (frf : Nat → Int32) (ax1 : Int32) (ax2 : Int32) (hnx : (¬ ∃ j : Nat, j < 6 ∧ ax1 = nI j)) : kw_Mi l yX10_field wsX10_field ({ frames := 2, cells := 0, slots := 0, locals := 81 }) D y [.ref g, .int ax1, .int ax2] [(g, .inr (10, [.ref kk, .ref nw, .ref im, .ref kp, .ref tx, .ref tr, .ref be, .ref sh, .ref sd, .ref rf, .int ab, .int bl])), (rf, .inl (y 0, 3, .inl frf))] (fun (r : Int32) (u : Unit) => r = (-2)) (fun _ => [(g, .inr (10, [.ref kk, .ref nw, .ref im, .ref kp, .ref tx, .ref tr, .ref be, .ref sh, .ref sd, .ref rf, .int ab, .int bl])), (rf, .inl (y 0, 3, .inl (upd frf 0 ((frf 0) + 1))))]) 0 0 := by
  refine kw_Mi.of (cc := cX10_field) (maxL := 3) (ret := (some .int)) (by decide) rfl ?_
  intro pZ eZ s mZ beZ meZ cZ A hE
  obtain ⟨hx, hb, hr, hml, hts, hown, hlocks, hin, hA, hP, hD, hK, hN⟩ := hE
  have hS : va_S A s.heap s.heap [] := va_S.rf
  have hl := lv_entry ([.ref g, .int ax1, .int ax2]) (n := 3) (Nat.le_of_ble_eq_true rfl)
  rw [lg_entry_eq]
  generalize (lg_sl ([.ref g, .int ax1, .int ax2]) ++ List.replicate (3 - (lg_sl ([.ref g, .int ax1, .int ax2])).length) Slot.unset).toArray = ls at hl ⊢
  have hl : lv_has ls 3 [(0, .ref g), (1, .int ax1), (2, .int ax2)] := hl
  refine lv_iload_n hx hb dX10_field_0 rfl (lv_at hl 1 rfl) ?_
  refine lv_bipush (v := 6) hx hb dX10_field_1 (by decide) ?_
  have hs1 : kw_Split [(g, .inr (10, [.ref kk, .ref nw, .ref im, .ref kp, .ref tx, .ref tr, .ref be, .ref sh, .ref sd, .ref rf, .int ab, .int bl])), (rf, .inl (y 0, 3, .inl frf))] [] [(g, .inr (10, [.ref kk, .ref nw, .ref im, .ref kp, .ref tx, .ref tr, .ref be, .ref sh, .ref sd, .ref rf, .int ab, .int bl])), (rf, .inl (y 0, 3, .inl frf))] [] [0, 1] := ⟨rfl, rfl, rfl, rfl, rfl, by decide⟩
  refine kw_go_i hs1 hP hD hS hA (va_runS (As := [.int ax1, .int 6]) (rest := []) ⟨hx, hb, hml, hown, hts⟩ (gc_isBelow l D y ax1 6 (by omega) _) (va_cwS 2 hts gX10_field_X10_isBelow rfl rfl rfl (by decide +kernel) ⟨Nat.le_of_ble_eq_true rfl, Nat.le_of_ble_eq_true rfl⟩) (kw_PreS hs1 hP hD hK hN) rfl rfl hl.1 rfl (lv_room (Nat.le_of_ble_eq_true rfl)) dX10_field_3 ⟨Nat.le_of_ble_eq_true rfl, Nat.le_of_ble_eq_true rfl⟩) (fun r2 u3 H locs hq hP hD hS => ?_)
  rcases hq with ⟨j4, h5, rfl, rfl⟩ | ⟨h6, rfl⟩
  · skip
    exact absurd ⟨j4, by omega, rfl⟩ hnx
  · skip
    have hP : va_P D vwCl [(g, .inr (10, [.ref kk, .ref nw, .ref im, .ref kp, .ref tx, .ref tr, .ref be, .ref sh, .ref sd, .ref rf, .int ab, .int bl])), (rf, .inl (y 0, 3, .inl frf))] H := hP
    have hD : va_D A [(g, .inr (10, [.ref kk, .ref nw, .ref im, .ref kp, .ref tx, .ref tr, .ref be, .ref sh, .ref sd, .ref rf, .int ab, .int bl])), (rf, .inl (y 0, 3, .inl frf))] := hD
    refine lv_if_eq (tgt := 16) hx hb dX10_field_6 (by decide) (fun _ => ?_) (fun h9 => absurd h9 (by decide))
    refine lv_aload_n hx hb dX10_field_16 rfl (lv_at hl 0 rfl) ?_
    have hs7 : kw_Split [(g, .inr (10, [.ref kk, .ref nw, .ref im, .ref kp, .ref tx, .ref tr, .ref be, .ref sh, .ref sd, .ref rf, .int ab, .int bl])), (rf, .inl (y 0, 3, .inl frf))] [(g, .inr (10, [.ref kk, .ref nw, .ref im, .ref kp, .ref tx, .ref tr, .ref be, .ref sh, .ref sd, .ref rf, .int ab, .int bl])), (rf, .inl (y 0, 3, .inl frf))] [] [0, 1] [] := ⟨rfl, rfl, rfl, rfl, rfl, by decide⟩
    refine kw_go_i hs7 hP hD hS hA (va_runV (As := []) (rest := []) ⟨hx, hb, hml, hown, hts⟩ (gc_refuseBad l D y g kk nw im kp tx tr be sh sd rf ab bl frf  _) (cwV 0 hts gX10_field_X10_refuseBad rfl rfl rfl (by decide +kernel) ⟨Nat.le_of_ble_eq_true rfl, Nat.le_of_ble_eq_true rfl⟩) (kw_PreV (ci := 10) (q0 := 0) hs7 hP hD hK hN rfl rfl) rfl rfl hl.1 rfl (lv_room (Nat.le_of_ble_eq_true rfl)) dX10_field_17 ⟨Nat.le_of_ble_eq_true rfl, Nat.le_of_ble_eq_true rfl⟩) (fun r8 u9 H locs hq hP hD hS => ?_)
    obtain rfl := hq
    have hP : va_P D vwCl [(g, .inr (10, [.ref kk, .ref nw, .ref im, .ref kp, .ref tx, .ref tr, .ref be, .ref sh, .ref sd, .ref rf, .int ab, .int bl])), (rf, .inl (y 0, 3, .inl (upd frf 0 ((frf 0) + 1))))] H := hP
    have hD : va_D A [(g, .inr (10, [.ref kk, .ref nw, .ref im, .ref kp, .ref tx, .ref tr, .ref be, .ref sh, .ref sd, .ref rf, .int ab, .int bl])), (rf, .inl (y 0, 3, .inl (upd frf 0 ((frf 0) + 1))))] := hD
    exact W.iret (v := (-2)) hx hb hr (fun tZ ht hW => ⟨⟨(-2), (), rfl, rfl, by rw [ht]; exact hP.sub [0, 1] rfl, hD.sub [0, 1] (by decide) rfl⟩, hS.F ht⟩) hS.2.2 dX10_field_20

set_option maxHeartbeats 4000000 in
set_option maxRecDepth 100000 in
theorem gy_field_b0 (l : Launch) (D : va_G) (y : Nat → ClassId) (mo : Nat) (to : Nat) (ke : Nat) (ik : Nat) (mrf : Nat) (ha : Nat) (r0 : Nat) (mbr : Nat) (mbp : Nat) (mby : Nat) (an : Nat) (va : Nat) (mab : Int64) (mbl : Int64) (bl : Nat) (ta : Nat) (tl : Nat) (tk : Nat) (vv : Int32) (frf : Nat → Int32) (ax1 : Int32) (ax2 : Int32) (hnx : (¬ ∃ j : Nat, 0 ≤ j ∧ j ≤ 5 ∧ ax1 = nI j)) : kw_Mi l yX11_field wsX11_field ({ frames := 2, cells := 0, slots := 0, locals := 85 }) D y [.ref mo, .int ax1, .int ax2] [(mo, .inr (11, [.ref to, .ref ke, .ref ik, .ref mrf, .long mab, .long mbl, .ref ha, .ref r0, .ref mbr, .ref mbp, .ref mby, .int (nI bl), .int (nI ta), .int (nI tl), .int (nI tk), .int vv, .ref an, .ref va])), (mrf, .inl (y 0, 3, .inl frf))] (fun (r : Int32) (u : Unit) => r = (-2)) (fun _ => [(mo, .inr (11, [.ref to, .ref ke, .ref ik, .ref mrf, .long mab, .long mbl, .ref ha, .ref r0, .ref mbr, .ref mbp, .ref mby, .int (nI bl), .int (nI ta), .int (nI tl), .int (nI tk), .int vv, .ref an, .ref va])), (mrf, .inl (y 0, 3, .inl (upd frf 0 ((frf 0) + 1))))]) 0 0 := by
  refine kw_Mi.of (cc := cX11_field) (maxL := 3) (ret := (some .int)) (by decide) rfl ?_
  intro pZ eZ s mZ beZ meZ cZ A hE
  obtain ⟨hx, hb, hr, hml, hts, hown, hlocks, hin, hA, hP, hD, hK, hN⟩ := hE
  have hS : va_S A s.heap s.heap [] := va_S.rf
  have hl := lv_entry ([.ref mo, .int ax1, .int ax2]) (n := 3) (Nat.le_of_ble_eq_true rfl)
  rw [lg_entry_eq]
  generalize (lg_sl ([.ref mo, .int ax1, .int ax2]) ++ List.replicate (3 - (lg_sl ([.ref mo, .int ax1, .int ax2])).length) Slot.unset).toArray = ls at hl ⊢
  have hl : lv_has ls 3 [(0, .ref mo), (1, .int ax1), (2, .int ax2)] := hl
  have fw1 := hts (.constantLong RX11 77 (5)) (List.mem_of_getElem? (i := 1) rfl)
  refine lv_iload_n hx hb dX11_field_0 rfl (lv_at hl 1 rfl) ?_
  refine lv_i2l (v := ax1.toInt64) hx hb dX11_field_1 (rfl) ?_
  refine lv_lconst (v := 0) hx hb dX11_field_2 (by decide) ?_
  refine lv_ldc2 (v := 5) hx hb hown fw1 dX11_field_3 ?_
  have hs1 : kw_Split [(mo, .inr (11, [.ref to, .ref ke, .ref ik, .ref mrf, .long mab, .long mbl, .ref ha, .ref r0, .ref mbr, .ref mbp, .ref mby, .int (nI bl), .int (nI ta), .int (nI tl), .int (nI tk), .int vv, .ref an, .ref va])), (mrf, .inl (y 0, 3, .inl frf))] [] [(mo, .inr (11, [.ref to, .ref ke, .ref ik, .ref mrf, .long mab, .long mbl, .ref ha, .ref r0, .ref mbr, .ref mbp, .ref mby, .int (nI bl), .int (nI ta), .int (nI tl), .int (nI tk), .int vv, .ref an, .ref va])), (mrf, .inl (y 0, 3, .inl frf))] [] [0, 1] := ⟨rfl, rfl, rfl, rfl, rfl, by decide⟩
  refine kw_go_i hs1 hP hD hS hA (va_runS (As := [.long ax1.toInt64, .long 0, .long 5]) (rest := []) ⟨hx, hb, hml, hown, hts⟩ (gr_in l D y ax1 0 5 (by omega) (by omega) _) (va_cwS 3 hts gX11_field_X11_in rfl rfl rfl (by decide +kernel) ⟨Nat.le_of_ble_eq_true rfl, Nat.le_of_ble_eq_true rfl⟩) (kw_PreS hs1 hP hD hK hN) rfl rfl hl.1 rfl (lv_room (Nat.le_of_ble_eq_true rfl)) dX11_field_6 ⟨Nat.le_of_ble_eq_true rfl, Nat.le_of_ble_eq_true rfl⟩) (fun r2 u3 H locs hq hP hD hS => ?_)
  rcases hq with ⟨j4, h5, h6, rfl, rfl⟩ | ⟨h7, rfl⟩
  · skip
    exact absurd ⟨j4, by omega, by omega, rfl⟩ hnx
  · skip
    have hP : va_P D vwCl [(mo, .inr (11, [.ref to, .ref ke, .ref ik, .ref mrf, .long mab, .long mbl, .ref ha, .ref r0, .ref mbr, .ref mbp, .ref mby, .int (nI bl), .int (nI ta), .int (nI tl), .int (nI tk), .int vv, .ref an, .ref va])), (mrf, .inl (y 0, 3, .inl frf))] H := hP
    have hD : va_D A [(mo, .inr (11, [.ref to, .ref ke, .ref ik, .ref mrf, .long mab, .long mbl, .ref ha, .ref r0, .ref mbr, .ref mbp, .ref mby, .int (nI bl), .int (nI ta), .int (nI tl), .int (nI tk), .int vv, .ref an, .ref va])), (mrf, .inl (y 0, 3, .inl frf))] := hD
    refine lv_if_eq (tgt := 19) hx hb dX11_field_9 (by decide) (fun _ => ?_) (fun h9 => absurd h9 (by decide))
    refine lv_aload_n hx hb dX11_field_19 rfl (lv_at hl 0 rfl) ?_
    refine lv_bipush (v := (-2)) hx hb dX11_field_20 (by decide) ?_
    have hs8 : kw_Split [(mo, .inr (11, [.ref to, .ref ke, .ref ik, .ref mrf, .long mab, .long mbl, .ref ha, .ref r0, .ref mbr, .ref mbp, .ref mby, .int (nI bl), .int (nI ta), .int (nI tl), .int (nI tk), .int vv, .ref an, .ref va])), (mrf, .inl (y 0, 3, .inl frf))] [(mo, .inr (11, [.ref to, .ref ke, .ref ik, .ref mrf, .long mab, .long mbl, .ref ha, .ref r0, .ref mbr, .ref mbp, .ref mby, .int (nI bl), .int (nI ta), .int (nI tl), .int (nI tk), .int vv, .ref an, .ref va])), (mrf, .inl (y 0, 3, .inl frf))] [] [0, 1] [] := ⟨rfl, rfl, rfl, rfl, rfl, by decide⟩
    refine kw_go_i hs8 hP hD hS hA (va_runV (As := [.int (-2)]) (rest := []) ⟨hx, hb, hml, hown, hts⟩ (gr_bad l D y mo to ke ik mrf ha r0 mbr mbp mby an va mab mbl bl ta tl tk vv frf (-2)  _) (cwV 1 hts gX11_field_X11_bad rfl rfl rfl (by decide +kernel) ⟨Nat.le_of_ble_eq_true rfl, Nat.le_of_ble_eq_true rfl⟩) (kw_PreV (ci := 11) (q0 := 0) hs8 hP hD hK hN rfl rfl) rfl rfl hl.1 rfl (lv_room (Nat.le_of_ble_eq_true rfl)) dX11_field_22 ⟨Nat.le_of_ble_eq_true rfl, Nat.le_of_ble_eq_true rfl⟩) (fun r9 u10 H locs hq hP hD hS => ?_)
    obtain rfl := hq
    have hP : va_P D vwCl [(mo, .inr (11, [.ref to, .ref ke, .ref ik, .ref mrf, .long mab, .long mbl, .ref ha, .ref r0, .ref mbr, .ref mbp, .ref mby, .int (nI bl), .int (nI ta), .int (nI tl), .int (nI tk), .int vv, .ref an, .ref va])), (mrf, .inl (y 0, 3, .inl (upd frf 0 ((frf 0) + 1))))] H := hP
    have hD : va_D A [(mo, .inr (11, [.ref to, .ref ke, .ref ik, .ref mrf, .long mab, .long mbl, .ref ha, .ref r0, .ref mbr, .ref mbp, .ref mby, .int (nI bl), .int (nI ta), .int (nI tl), .int (nI tk), .int vv, .ref an, .ref va])), (mrf, .inl (y 0, 3, .inl (upd frf 0 ((frf 0) + 1))))] := hD
    exact W.iret (v := (-2)) hx hb hr (fun tZ ht hW => ⟨⟨(-2), (), rfl, rfl, by rw [ht]; exact hP.sub [0, 1] rfl, hD.sub [0, 1] (by decide) rfl⟩, hS.F ht⟩) hS.2.2 dX11_field_25

set_option maxHeartbeats 4000000 in
set_option maxRecDepth 100000 in
theorem gx_field_b1 (l : Launch) (D : va_G) (y : Nat → ClassId) (g : Nat) (kk : Nat) (nw : Nat) (im : Nat) (kp : Nat) (tx : Nat) (tr : Nat) (be : Nat) (sh : Nat) (sd : Nat) (rf : Nat) (ab : Int32) (bl : Int32) (frf : Nat → Int32) (an1 : Nat) (ax2 : Int32) (hB0_ : an1 < 6) (hnx : (¬ ∃ j : Nat, 0 ≤ j ∧ j ≤ 60 ∧ ax2 = nI j)) : kw_Mi l yX10_field wsX10_field ({ frames := 3, cells := 0, slots := 0, locals := 102 }) D y [.ref g, .int (nI an1), .int ax2] [(g, .inr (10, [.ref kk, .ref nw, .ref im, .ref kp, .ref tx, .ref tr, .ref be, .ref sh, .ref sd, .ref rf, .int ab, .int bl])), (rf, .inl (y 0, 3, .inl frf))] (fun (r : Int32) (u : Unit) => r = (-2)) (fun _ => [(g, .inr (10, [.ref kk, .ref nw, .ref im, .ref kp, .ref tx, .ref tr, .ref be, .ref sh, .ref sd, .ref rf, .int ab, .int bl])), (rf, .inl (y 0, 3, .inl (upd frf 0 ((frf 0) + 1))))]) 0 0 := by
  refine kw_Mi.of (cc := cX10_field) (maxL := 3) (ret := (some .int)) (by decide) rfl ?_
  intro pZ eZ s mZ beZ meZ cZ A hE
  obtain ⟨hx, hb, hr, hml, hts, hown, hlocks, hin, hA, hP, hD, hK, hN⟩ := hE
  have hS : va_S A s.heap s.heap [] := va_S.rf
  have hl := lv_entry ([.ref g, .int (nI an1), .int ax2]) (n := 3) (Nat.le_of_ble_eq_true rfl)
  rw [lg_entry_eq]
  generalize (lg_sl ([.ref g, .int (nI an1), .int ax2]) ++ List.replicate (3 - (lg_sl ([.ref g, .int (nI an1), .int ax2])).length) Slot.unset).toArray = ls at hl ⊢
  have hl : lv_has ls 3 [(0, .ref g), (1, .int (nI an1)), (2, .int ax2)] := hl
  refine lv_iload_n hx hb dX10_field_0 rfl (lv_at hl 1 rfl) ?_
  refine lv_bipush (v := 6) hx hb dX10_field_1 (by decide) ?_
  have hs1 : kw_Split [(g, .inr (10, [.ref kk, .ref nw, .ref im, .ref kp, .ref tx, .ref tr, .ref be, .ref sh, .ref sd, .ref rf, .int ab, .int bl])), (rf, .inl (y 0, 3, .inl frf))] [] [(g, .inr (10, [.ref kk, .ref nw, .ref im, .ref kp, .ref tx, .ref tr, .ref be, .ref sh, .ref sd, .ref rf, .int ab, .int bl])), (rf, .inl (y 0, 3, .inl frf))] [] [0, 1] := ⟨rfl, rfl, rfl, rfl, rfl, by decide⟩
  refine kw_go_i hs1 hP hD hS hA (va_runS (As := [.int (nI an1), .int 6]) (rest := []) ⟨hx, hb, hml, hown, hts⟩ (gc_isBelow l D y (nI an1) 6 (by omega) _) (va_cwS 2 hts gX10_field_X10_isBelow rfl rfl rfl (by decide +kernel) ⟨Nat.le_of_ble_eq_true rfl, Nat.le_of_ble_eq_true rfl⟩) (kw_PreS hs1 hP hD hK hN) rfl rfl hl.1 rfl (lv_room (Nat.le_of_ble_eq_true rfl)) dX10_field_3 ⟨Nat.le_of_ble_eq_true rfl, Nat.le_of_ble_eq_true rfl⟩) (fun r2 u3 H locs hq hP hD hS => ?_)
  rcases hq with ⟨j4, h5, h6, rfl⟩ | ⟨h7, rfl⟩
  · skip
    have h6 : an1 = j4 := (nI_eq (a := an1) (b := j4) (by omega) (by omega)).mp h6
    have hP : va_P D vwCl [(g, .inr (10, [.ref kk, .ref nw, .ref im, .ref kp, .ref tx, .ref tr, .ref be, .ref sh, .ref sd, .ref rf, .int ab, .int bl])), (rf, .inl (y 0, 3, .inl frf))] H := hP
    have hD : va_D A [(g, .inr (10, [.ref kk, .ref nw, .ref im, .ref kp, .ref tx, .ref tr, .ref be, .ref sh, .ref sd, .ref rf, .int ab, .int bl])), (rf, .inl (y 0, 3, .inl frf))] := hD
    refine lv_if_eq (tgt := 16) hx hb dX10_field_6 (by decide) (fun h9 => absurd h9 (by decide)) (fun _ => ?_)
    refine lv_iload_n hx hb dX10_field_9 rfl (lv_at hl 2 rfl) ?_
    have hs8 : kw_Split [(g, .inr (10, [.ref kk, .ref nw, .ref im, .ref kp, .ref tx, .ref tr, .ref be, .ref sh, .ref sd, .ref rf, .int ab, .int bl])), (rf, .inl (y 0, 3, .inl frf))] [] [(g, .inr (10, [.ref kk, .ref nw, .ref im, .ref kp, .ref tx, .ref tr, .ref be, .ref sh, .ref sd, .ref rf, .int ab, .int bl])), (rf, .inl (y 0, 3, .inl frf))] [] [0, 1] := ⟨rfl, rfl, rfl, rfl, rfl, by decide⟩
    refine kw_go_i hs8 hP hD hS hA (va_runS (As := [.int ax2]) (rest := []) ⟨hx, hb, hml, hown, hts⟩ (gc_isLight l D y ax2  _) (va_cwS 1 hts gX10_field_X10_isLight rfl rfl rfl (by decide +kernel) ⟨Nat.le_of_ble_eq_true rfl, Nat.le_of_ble_eq_true rfl⟩) (kw_PreS hs8 hP hD hK hN) rfl rfl hl.1 rfl (lv_room (Nat.le_of_ble_eq_true rfl)) dX10_field_10 ⟨Nat.le_of_ble_eq_true rfl, Nat.le_of_ble_eq_true rfl⟩) (fun r9 u10 H locs hq hP hD hS => ?_)
    rcases hq with ⟨j11, h12, rfl, rfl⟩ | ⟨h13, rfl⟩
    · skip
      exact absurd ⟨j11, by omega, by omega, rfl⟩ hnx
    · skip
      have hP : va_P D vwCl [(g, .inr (10, [.ref kk, .ref nw, .ref im, .ref kp, .ref tx, .ref tr, .ref be, .ref sh, .ref sd, .ref rf, .int ab, .int bl])), (rf, .inl (y 0, 3, .inl frf))] H := hP
      have hD : va_D A [(g, .inr (10, [.ref kk, .ref nw, .ref im, .ref kp, .ref tx, .ref tr, .ref be, .ref sh, .ref sd, .ref rf, .int ab, .int bl])), (rf, .inl (y 0, 3, .inl frf))] := hD
      refine lv_if_ne (tgt := 21) hx hb dX10_field_13 (by decide) (fun h9 => absurd h9 (by decide)) (fun _ => ?_)
      refine lv_aload_n hx hb dX10_field_16 rfl (lv_at hl 0 rfl) ?_
      have hs14 : kw_Split [(g, .inr (10, [.ref kk, .ref nw, .ref im, .ref kp, .ref tx, .ref tr, .ref be, .ref sh, .ref sd, .ref rf, .int ab, .int bl])), (rf, .inl (y 0, 3, .inl frf))] [(g, .inr (10, [.ref kk, .ref nw, .ref im, .ref kp, .ref tx, .ref tr, .ref be, .ref sh, .ref sd, .ref rf, .int ab, .int bl])), (rf, .inl (y 0, 3, .inl frf))] [] [0, 1] [] := ⟨rfl, rfl, rfl, rfl, rfl, by decide⟩
      refine kw_go_i hs14 hP hD hS hA (va_runV (As := []) (rest := []) ⟨hx, hb, hml, hown, hts⟩ (gc_refuseBad l D y g kk nw im kp tx tr be sh sd rf ab bl frf  _) (cwV 0 hts gX10_field_X10_refuseBad rfl rfl rfl (by decide +kernel) ⟨Nat.le_of_ble_eq_true rfl, Nat.le_of_ble_eq_true rfl⟩) (kw_PreV (ci := 10) (q0 := 0) hs14 hP hD hK hN rfl rfl) rfl rfl hl.1 rfl (lv_room (Nat.le_of_ble_eq_true rfl)) dX10_field_17 ⟨Nat.le_of_ble_eq_true rfl, Nat.le_of_ble_eq_true rfl⟩) (fun r15 u16 H locs hq hP hD hS => ?_)
      obtain rfl := hq
      have hP : va_P D vwCl [(g, .inr (10, [.ref kk, .ref nw, .ref im, .ref kp, .ref tx, .ref tr, .ref be, .ref sh, .ref sd, .ref rf, .int ab, .int bl])), (rf, .inl (y 0, 3, .inl (upd frf 0 ((frf 0) + 1))))] H := hP
      have hD : va_D A [(g, .inr (10, [.ref kk, .ref nw, .ref im, .ref kp, .ref tx, .ref tr, .ref be, .ref sh, .ref sd, .ref rf, .int ab, .int bl])), (rf, .inl (y 0, 3, .inl (upd frf 0 ((frf 0) + 1))))] := hD
      exact W.iret (v := (-2)) hx hb hr (fun tZ ht hW => ⟨⟨(-2), (), rfl, rfl, by rw [ht]; exact hP.sub [0, 1] rfl, hD.sub [0, 1] (by decide) rfl⟩, hS.F ht⟩) hS.2.2 dX10_field_20
  · skip
    exact absurd ⟨an1, by omega, rfl⟩ h7

set_option maxHeartbeats 4000000 in
set_option maxRecDepth 100000 in
theorem gy_field_b1 (l : Launch) (D : va_G) (y : Nat → ClassId) (mo : Nat) (to : Nat) (ke : Nat) (ik : Nat) (mrf : Nat) (ha : Nat) (r0 : Nat) (mbr : Nat) (mbp : Nat) (mby : Nat) (an : Nat) (va : Nat) (mab : Int64) (mbl : Int64) (bl : Nat) (ta : Nat) (tl : Nat) (tk : Nat) (vv : Int32) (frf : Nat → Int32) (an1 : Nat) (ax2 : Int32) (hB0_ : an1 < 6) (hnx : (¬ ∃ j : Nat, 0 ≤ j ∧ j ≤ 60 ∧ ax2 = nI j)) : kw_Mi l yX11_field wsX11_field ({ frames := 3, cells := 0, slots := 0, locals := 105 }) D y [.ref mo, .int (nI an1), .int ax2] [(mo, .inr (11, [.ref to, .ref ke, .ref ik, .ref mrf, .long mab, .long mbl, .ref ha, .ref r0, .ref mbr, .ref mbp, .ref mby, .int (nI bl), .int (nI ta), .int (nI tl), .int (nI tk), .int vv, .ref an, .ref va])), (mrf, .inl (y 0, 3, .inl frf))] (fun (r : Int32) (u : Unit) => r = (-2)) (fun _ => [(mo, .inr (11, [.ref to, .ref ke, .ref ik, .ref mrf, .long mab, .long mbl, .ref ha, .ref r0, .ref mbr, .ref mbp, .ref mby, .int (nI bl), .int (nI ta), .int (nI tl), .int (nI tk), .int vv, .ref an, .ref va])), (mrf, .inl (y 0, 3, .inl (upd frf 0 ((frf 0) + 1))))]) 0 0 := by
  refine kw_Mi.of (cc := cX11_field) (maxL := 3) (ret := (some .int)) (by decide) rfl ?_
  intro pZ eZ s mZ beZ meZ cZ A hE
  obtain ⟨hx, hb, hr, hml, hts, hown, hlocks, hin, hA, hP, hD, hK, hN⟩ := hE
  have hS : va_S A s.heap s.heap [] := va_S.rf
  have hl := lv_entry ([.ref mo, .int (nI an1), .int ax2]) (n := 3) (Nat.le_of_ble_eq_true rfl)
  rw [lg_entry_eq]
  generalize (lg_sl ([.ref mo, .int (nI an1), .int ax2]) ++ List.replicate (3 - (lg_sl ([.ref mo, .int (nI an1), .int ax2])).length) Slot.unset).toArray = ls at hl ⊢
  have hl : lv_has ls 3 [(0, .ref mo), (1, .int (nI an1)), (2, .int ax2)] := hl
  have fw1 := hts (.constantLong RX11 77 (5)) (List.mem_of_getElem? (i := 1) rfl)
  refine lv_iload_n hx hb dX11_field_0 rfl (lv_at hl 1 rfl) ?_
  refine lv_i2l (v := (nI an1).toInt64) hx hb dX11_field_1 (rfl) ?_
  refine lv_lconst (v := 0) hx hb dX11_field_2 (by decide) ?_
  refine lv_ldc2 (v := 5) hx hb hown fw1 dX11_field_3 ?_
  have hs1 : kw_Split [(mo, .inr (11, [.ref to, .ref ke, .ref ik, .ref mrf, .long mab, .long mbl, .ref ha, .ref r0, .ref mbr, .ref mbp, .ref mby, .int (nI bl), .int (nI ta), .int (nI tl), .int (nI tk), .int vv, .ref an, .ref va])), (mrf, .inl (y 0, 3, .inl frf))] [] [(mo, .inr (11, [.ref to, .ref ke, .ref ik, .ref mrf, .long mab, .long mbl, .ref ha, .ref r0, .ref mbr, .ref mbp, .ref mby, .int (nI bl), .int (nI ta), .int (nI tl), .int (nI tk), .int vv, .ref an, .ref va])), (mrf, .inl (y 0, 3, .inl frf))] [] [0, 1] := ⟨rfl, rfl, rfl, rfl, rfl, by decide⟩
  refine kw_go_i hs1 hP hD hS hA (va_runS (As := [.long ((nI an1).toInt64), .long 0, .long 5]) (rest := []) ⟨hx, hb, hml, hown, hts⟩ (gr_in l D y (nI an1) 0 5 (by omega) (by omega) _) (va_cwS 3 hts gX11_field_X11_in rfl rfl rfl (by decide +kernel) ⟨Nat.le_of_ble_eq_true rfl, Nat.le_of_ble_eq_true rfl⟩) (kw_PreS hs1 hP hD hK hN) rfl rfl hl.1 rfl (lv_room (Nat.le_of_ble_eq_true rfl)) dX11_field_6 ⟨Nat.le_of_ble_eq_true rfl, Nat.le_of_ble_eq_true rfl⟩) (fun r2 u3 H locs hq hP hD hS => ?_)
  rcases hq with ⟨j4, h5, h6, h7, rfl⟩ | ⟨h8, rfl⟩
  · skip
    have h7 : an1 = j4 := (nI_eq (a := an1) (b := j4) (by omega) (by omega)).mp h7
    have hP : va_P D vwCl [(mo, .inr (11, [.ref to, .ref ke, .ref ik, .ref mrf, .long mab, .long mbl, .ref ha, .ref r0, .ref mbr, .ref mbp, .ref mby, .int (nI bl), .int (nI ta), .int (nI tl), .int (nI tk), .int vv, .ref an, .ref va])), (mrf, .inl (y 0, 3, .inl frf))] H := hP
    have hD : va_D A [(mo, .inr (11, [.ref to, .ref ke, .ref ik, .ref mrf, .long mab, .long mbl, .ref ha, .ref r0, .ref mbr, .ref mbp, .ref mby, .int (nI bl), .int (nI ta), .int (nI tl), .int (nI tk), .int vv, .ref an, .ref va])), (mrf, .inl (y 0, 3, .inl frf))] := hD
    refine lv_if_eq (tgt := 19) hx hb dX11_field_9 (by decide) (fun h9 => absurd h9 (by decide)) (fun _ => ?_)
    refine lv_iload_n hx hb dX11_field_12 rfl (lv_at hl 2 rfl) ?_
    have hs9 : kw_Split [(mo, .inr (11, [.ref to, .ref ke, .ref ik, .ref mrf, .long mab, .long mbl, .ref ha, .ref r0, .ref mbr, .ref mbp, .ref mby, .int (nI bl), .int (nI ta), .int (nI tl), .int (nI tk), .int vv, .ref an, .ref va])), (mrf, .inl (y 0, 3, .inl frf))] [] [(mo, .inr (11, [.ref to, .ref ke, .ref ik, .ref mrf, .long mab, .long mbl, .ref ha, .ref r0, .ref mbr, .ref mbp, .ref mby, .int (nI bl), .int (nI ta), .int (nI tl), .int (nI tk), .int vv, .ref an, .ref va])), (mrf, .inl (y 0, 3, .inl frf))] [] [0, 1] := ⟨rfl, rfl, rfl, rfl, rfl, by decide⟩
    refine kw_go_i hs9 hP hD hS hA (va_runS (As := [.int ax2]) (rest := []) ⟨hx, hb, hml, hown, hts⟩ (gr_isLight l D y ax2  _) (va_cwS 1 hts gX11_field_X11_isLight rfl rfl rfl (by decide +kernel) ⟨Nat.le_of_ble_eq_true rfl, Nat.le_of_ble_eq_true rfl⟩) (kw_PreS hs9 hP hD hK hN) rfl rfl hl.1 rfl (lv_room (Nat.le_of_ble_eq_true rfl)) dX11_field_13 ⟨Nat.le_of_ble_eq_true rfl, Nat.le_of_ble_eq_true rfl⟩) (fun r10 u11 H locs hq hP hD hS => ?_)
    rcases hq with ⟨j12, h13, rfl, rfl⟩ | ⟨h14, rfl⟩
    · skip
      exact absurd ⟨j12, by omega, by omega, rfl⟩ hnx
    · skip
      have hP : va_P D vwCl [(mo, .inr (11, [.ref to, .ref ke, .ref ik, .ref mrf, .long mab, .long mbl, .ref ha, .ref r0, .ref mbr, .ref mbp, .ref mby, .int (nI bl), .int (nI ta), .int (nI tl), .int (nI tk), .int vv, .ref an, .ref va])), (mrf, .inl (y 0, 3, .inl frf))] H := hP
      have hD : va_D A [(mo, .inr (11, [.ref to, .ref ke, .ref ik, .ref mrf, .long mab, .long mbl, .ref ha, .ref r0, .ref mbr, .ref mbp, .ref mby, .int (nI bl), .int (nI ta), .int (nI tl), .int (nI tk), .int vv, .ref an, .ref va])), (mrf, .inl (y 0, 3, .inl frf))] := hD
      refine lv_if_ne (tgt := 26) hx hb dX11_field_16 (by decide) (fun h9 => absurd h9 (by decide)) (fun _ => ?_)
      refine lv_aload_n hx hb dX11_field_19 rfl (lv_at hl 0 rfl) ?_
      refine lv_bipush (v := (-2)) hx hb dX11_field_20 (by decide) ?_
      have hs15 : kw_Split [(mo, .inr (11, [.ref to, .ref ke, .ref ik, .ref mrf, .long mab, .long mbl, .ref ha, .ref r0, .ref mbr, .ref mbp, .ref mby, .int (nI bl), .int (nI ta), .int (nI tl), .int (nI tk), .int vv, .ref an, .ref va])), (mrf, .inl (y 0, 3, .inl frf))] [(mo, .inr (11, [.ref to, .ref ke, .ref ik, .ref mrf, .long mab, .long mbl, .ref ha, .ref r0, .ref mbr, .ref mbp, .ref mby, .int (nI bl), .int (nI ta), .int (nI tl), .int (nI tk), .int vv, .ref an, .ref va])), (mrf, .inl (y 0, 3, .inl frf))] [] [0, 1] [] := ⟨rfl, rfl, rfl, rfl, rfl, by decide⟩
      refine kw_go_i hs15 hP hD hS hA (va_runV (As := [.int (-2)]) (rest := []) ⟨hx, hb, hml, hown, hts⟩ (gr_bad l D y mo to ke ik mrf ha r0 mbr mbp mby an va mab mbl bl ta tl tk vv frf (-2)  _) (cwV 1 hts gX11_field_X11_bad rfl rfl rfl (by decide +kernel) ⟨Nat.le_of_ble_eq_true rfl, Nat.le_of_ble_eq_true rfl⟩) (kw_PreV (ci := 11) (q0 := 0) hs15 hP hD hK hN rfl rfl) rfl rfl hl.1 rfl (lv_room (Nat.le_of_ble_eq_true rfl)) dX11_field_22 ⟨Nat.le_of_ble_eq_true rfl, Nat.le_of_ble_eq_true rfl⟩) (fun r16 u17 H locs hq hP hD hS => ?_)
      obtain rfl := hq
      have hP : va_P D vwCl [(mo, .inr (11, [.ref to, .ref ke, .ref ik, .ref mrf, .long mab, .long mbl, .ref ha, .ref r0, .ref mbr, .ref mbp, .ref mby, .int (nI bl), .int (nI ta), .int (nI tl), .int (nI tk), .int vv, .ref an, .ref va])), (mrf, .inl (y 0, 3, .inl (upd frf 0 ((frf 0) + 1))))] H := hP
      have hD : va_D A [(mo, .inr (11, [.ref to, .ref ke, .ref ik, .ref mrf, .long mab, .long mbl, .ref ha, .ref r0, .ref mbr, .ref mbp, .ref mby, .int (nI bl), .int (nI ta), .int (nI tl), .int (nI tk), .int vv, .ref an, .ref va])), (mrf, .inl (y 0, 3, .inl (upd frf 0 ((frf 0) + 1))))] := hD
      exact W.iret (v := (-2)) hx hb hr (fun tZ ht hW => ⟨⟨(-2), (), rfl, rfl, by rw [ht]; exact hP.sub [0, 1] rfl, hD.sub [0, 1] (by decide) rfl⟩, hS.F ht⟩) hS.2.2 dX11_field_25
  · skip
    exact absurd ⟨an1, by omega, by omega, rfl⟩ h8

set_option maxHeartbeats 4000000 in
set_option maxRecDepth 100000 in
theorem gx_gleaner_b0 (l : Launch) (D : va_G) (y : Nat → ClassId) (g : Nat) (kk : Nat) (nw : Nat) (im : Nat) (kp : Nat) (tx : Nat) (tr : Nat) (be : Nat) (sh : Nat) (sd : Nat) (rf : Nat) (ab : Int32) (bl : Int32) (frf : Nat → Int32) (nk : Nat) (nd : Nat) (ne : Nat) (nm : Nat) (nn : Nat) (fi : Nat) (gl : Nat) (un : Nat) (mi : Nat) (no : Nat) (ax1 : Int32) (hfi : fi ≤ 6) (hgl : gl ≤ 5) (hun : un ≤ 8) (hmi : mi ≤ 4) (hno : no ≤ 6) (hnx : (¬ ∃ j : Nat, j < fi ∧ ax1 = nI j)) : kw_Mi l yX10_gleaner wsX10_gleaner ({ frames := 3, cells := 0, slots := 0, locals := 102 }) D y [.ref g, .int ax1] [(g, .inr (10, [.ref kk, .ref nw, .ref im, .ref kp, .ref tx, .ref tr, .ref be, .ref sh, .ref sd, .ref rf, .int ab, .int bl])), (rf, .inl (y 0, 3, .inl frf)), (nw, .inr (4, [.ref kk, .ref nk, .ref nd, .ref ne, .ref nm, .ref nn, .int (nI fi), .int (nI gl), .int (nI un), .int (nI mi), .int (nI no)]))] (fun (r : Int32) (u : Unit) => r = (-2)) (fun _ => [(g, .inr (10, [.ref kk, .ref nw, .ref im, .ref kp, .ref tx, .ref tr, .ref be, .ref sh, .ref sd, .ref rf, .int ab, .int bl])), (rf, .inl (y 0, 3, .inl (upd frf 0 ((frf 0) + 1)))), (nw, .inr (4, [.ref kk, .ref nk, .ref nd, .ref ne, .ref nm, .ref nn, .int (nI fi), .int (nI gl), .int (nI un), .int (nI mi), .int (nI no)]))]) 0 0 := by
  refine kw_Mi.of (cc := cX10_gleaner) (maxL := 2) (ret := (some .int)) (by decide) rfl ?_
  intro pZ eZ s mZ beZ meZ cZ A hE
  obtain ⟨hx, hb, hr, hml, hts, hown, hlocks, hin, hA, hP, hD, hK, hN⟩ := hE
  have hS : va_S A s.heap s.heap [] := va_S.rf
  have hl := lv_entry ([.ref g, .int ax1]) (n := 2) (Nat.le_of_ble_eq_true rfl)
  rw [lg_entry_eq]
  generalize (lg_sl ([.ref g, .int ax1]) ++ List.replicate (2 - (lg_sl ([.ref g, .int ax1])).length) Slot.unset).toArray = ls at hl ⊢
  have hl : lv_has ls 2 [(0, .ref g), (1, .int ax1)] := hl
  have fw1 := hts (.fieldLink RX10 36 "GleanDusk" "now" "LGleanDusk$Parish;") (List.mem_of_getElem? (i := 1) rfl)
  have iw10 : ∀ w ∈ wsX100, w ∈ wsX10_gleaner := fun _ h => List.mem_cons_of_mem _ (List.mem_append_left _ (List.mem_append_left _ (List.mem_append_right _ h)))
  refine lv_aload_n hx hb dX10_gleaner_0 rfl (lv_at hl 0 rfl) ?_
  refine va_get (D := D) (ci := 10) (v := .ref nw) (C := RX10) (T := TX10) (N := 12) hx hb hts iw10 hown hK hP 0 rfl rfl 1 (by decide) fw1 (fun _ h9 => h9) rfl dX10_gleaner_1 ?_
  refine lv_iload_n hx hb dX10_gleaner_4 rfl (lv_at hl 1 rfl) ?_
  have hs1 : kw_Split [(g, .inr (10, [.ref kk, .ref nw, .ref im, .ref kp, .ref tx, .ref tr, .ref be, .ref sh, .ref sd, .ref rf, .int ab, .int bl])), (rf, .inl (y 0, 3, .inl frf)), (nw, .inr (4, [.ref kk, .ref nk, .ref nd, .ref ne, .ref nm, .ref nn, .int (nI fi), .int (nI gl), .int (nI un), .int (nI mi), .int (nI no)]))] [(nw, .inr (4, [.ref kk, .ref nk, .ref nd, .ref ne, .ref nm, .ref nn, .int (nI fi), .int (nI gl), .int (nI un), .int (nI mi), .int (nI no)]))] [(g, .inr (10, [.ref kk, .ref nw, .ref im, .ref kp, .ref tx, .ref tr, .ref be, .ref sh, .ref sd, .ref rf, .int ab, .int bl])), (rf, .inl (y 0, 3, .inl frf))] [2] [0, 1] := ⟨rfl, rfl, rfl, rfl, rfl, by decide⟩
  refine kw_go_i hs1 hP hD hS hA (va_runV (As := [.int ax1]) (rest := []) ⟨hx, hb, hml, hown, hts⟩ (gc_hasField l D y nw kk nk nd ne nm nn fi gl un mi no ax1 hfi hgl hun hmi hno _) (cwV 1 hts gX10_gleaner_X4_hasField rfl rfl rfl (by decide +kernel) ⟨Nat.le_of_ble_eq_true rfl, Nat.le_of_ble_eq_true rfl⟩) (kw_PreV (ci := 4) (q0 := 2) hs1 hP hD hK hN rfl rfl) rfl rfl hl.1 rfl (lv_room (Nat.le_of_ble_eq_true rfl)) dX10_gleaner_5 ⟨Nat.le_of_ble_eq_true rfl, Nat.le_of_ble_eq_true rfl⟩) (fun r2 u3 H locs hq hP hD hS => ?_)
  rcases hq with ⟨j4, h5, rfl, rfl⟩ | ⟨h6, rfl⟩
  · skip
    exact absurd ⟨j4, by omega, rfl⟩ hnx
  · skip
    have hP : va_P D vwCl [(g, .inr (10, [.ref kk, .ref nw, .ref im, .ref kp, .ref tx, .ref tr, .ref be, .ref sh, .ref sd, .ref rf, .int ab, .int bl])), (rf, .inl (y 0, 3, .inl frf)), (nw, .inr (4, [.ref kk, .ref nk, .ref nd, .ref ne, .ref nm, .ref nn, .int (nI fi), .int (nI gl), .int (nI un), .int (nI mi), .int (nI no)]))] H := hP
    have hD : va_D A [(g, .inr (10, [.ref kk, .ref nw, .ref im, .ref kp, .ref tx, .ref tr, .ref be, .ref sh, .ref sd, .ref rf, .int ab, .int bl])), (rf, .inl (y 0, 3, .inl frf)), (nw, .inr (4, [.ref kk, .ref nk, .ref nd, .ref ne, .ref nm, .ref nn, .int (nI fi), .int (nI gl), .int (nI un), .int (nI mi), .int (nI no)]))] := hD
    refine lv_if_ne (tgt := 16) hx hb dX10_gleaner_8 (by decide) (fun h9 => absurd h9 (by decide)) (fun _ => ?_)
    refine lv_aload_n hx hb dX10_gleaner_11 rfl (lv_at hl 0 rfl) ?_
    have hs7 : kw_Split [(g, .inr (10, [.ref kk, .ref nw, .ref im, .ref kp, .ref tx, .ref tr, .ref be, .ref sh, .ref sd, .ref rf, .int ab, .int bl])), (rf, .inl (y 0, 3, .inl frf)), (nw, .inr (4, [.ref kk, .ref nk, .ref nd, .ref ne, .ref nm, .ref nn, .int (nI fi), .int (nI gl), .int (nI un), .int (nI mi), .int (nI no)]))] [(g, .inr (10, [.ref kk, .ref nw, .ref im, .ref kp, .ref tx, .ref tr, .ref be, .ref sh, .ref sd, .ref rf, .int ab, .int bl])), (rf, .inl (y 0, 3, .inl frf))] [(nw, .inr (4, [.ref kk, .ref nk, .ref nd, .ref ne, .ref nm, .ref nn, .int (nI fi), .int (nI gl), .int (nI un), .int (nI mi), .int (nI no)]))] [0, 1] [2] := ⟨rfl, rfl, rfl, rfl, rfl, by decide⟩
    refine kw_go_i hs7 hP hD hS hA (va_runV (As := []) (rest := []) ⟨hx, hb, hml, hown, hts⟩ (gc_refuseBad l D y g kk nw im kp tx tr be sh sd rf ab bl frf  _) (cwV 0 hts gX10_gleaner_X10_refuseBad rfl rfl rfl (by decide +kernel) ⟨Nat.le_of_ble_eq_true rfl, Nat.le_of_ble_eq_true rfl⟩) (kw_PreV (ci := 10) (q0 := 0) hs7 hP hD hK hN rfl rfl) rfl rfl hl.1 rfl (lv_room (Nat.le_of_ble_eq_true rfl)) dX10_gleaner_12 ⟨Nat.le_of_ble_eq_true rfl, Nat.le_of_ble_eq_true rfl⟩) (fun r8 u9 H locs hq hP hD hS => ?_)
    obtain rfl := hq
    have hP : va_P D vwCl [(nw, .inr (4, [.ref kk, .ref nk, .ref nd, .ref ne, .ref nm, .ref nn, .int (nI fi), .int (nI gl), .int (nI un), .int (nI mi), .int (nI no)])), (g, .inr (10, [.ref kk, .ref nw, .ref im, .ref kp, .ref tx, .ref tr, .ref be, .ref sh, .ref sd, .ref rf, .int ab, .int bl])), (rf, .inl (y 0, 3, .inl (upd frf 0 ((frf 0) + 1))))] H := hP
    have hD : va_D A [(nw, .inr (4, [.ref kk, .ref nk, .ref nd, .ref ne, .ref nm, .ref nn, .int (nI fi), .int (nI gl), .int (nI un), .int (nI mi), .int (nI no)])), (g, .inr (10, [.ref kk, .ref nw, .ref im, .ref kp, .ref tx, .ref tr, .ref be, .ref sh, .ref sd, .ref rf, .int ab, .int bl])), (rf, .inl (y 0, 3, .inl (upd frf 0 ((frf 0) + 1))))] := hD
    exact W.iret (v := (-2)) hx hb hr (fun tZ ht hW => ⟨⟨(-2), (), rfl, rfl, by rw [ht]; exact hP.sub [1, 2, 0] rfl, hD.sub [1, 2, 0] (by decide) rfl⟩, hS.F ht⟩) hS.2.2 dX10_gleaner_15
