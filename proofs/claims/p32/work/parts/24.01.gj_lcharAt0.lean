set_option maxHeartbeats 4000000 in
set_option maxRecDepth 100000 in
theorem gj_lcharAt0 (l : Launch) (D : va_G) (y : Nat → ClassId) (aK : Nat → Nat) (aV : Nat → Nat) (k : Nat) (hA1 : k < 6) : kz_Mi l yJ1_charAt_3b067 wsJ1_charAt_3b067 ({ frames := 3, cells := 0, slots := 0, locals := 103 }) D y [.ref (aV 0), .int (nI k)] [] aK aV (fun (r : Int32) (u : Unit) => kz_ch r) (fun _ => []) 0 0 := by
  refine kz_Mi.of (cc := cJ1_charAt_3b067) (maxL := 2) (ret := (some .char)) (by decide) rfl ?_
  intro pZ eZ s mZ beZ meZ cZ A hE
  obtain ⟨hx, hb, hr, hml, hts, hown, hlocks, hin, hA, hP, hD, hK, hN, hZ⟩ := hE
  have hS : va_S A s.heap s.heap [] := va_S.rf
  have hl := lv_entry ([.ref (aV 0), .int (nI k)]) (n := 2) (Nat.le_of_ble_eq_true rfl)
  rw [lg_entry_eq]
  generalize (lg_sl ([.ref (aV 0), .int (nI k)]) ++ List.replicate (2 - (lg_sl ([.ref (aV 0), .int (nI k)])).length) Slot.unset).toArray = ls at hl ⊢
  have hl : lv_has ls 2 [(0, .ref (aV 0)), (1, .int (nI k))] := hl
  rcases (show k = 0 ∨ k = 1 ∨ k = 2 ∨ k = 3 ∨ k = 4 ∨ k = 5 by omega) with rfl | rfl | rfl | rfl | rfl | rfl
  · skip
    refine lv_iload_n hx hb dJ1_charAt_3b067_0 rfl (lv_at hl 1 rfl) ?_
    refine lv_aload_n hx hb dJ1_charAt_3b067_1 rfl (lv_at hl 0 rfl) ?_
    refine va_tlen hx hb (hZ.1.1 0 (by decide)).2.2.2 hS (v := 6) (by decide) dJ1_charAt_3b067_2 ?_
    have hs1 : kw_Split [] [] [] [] [] := ⟨rfl, rfl, rfl, rfl, rfl, by decide⟩
    refine kw_go_v hs1 hP hD hS hA (va_runS (As := [.int (nI 0), .int 6]) (rest := []) ⟨hx, hb, hml, hown, hts⟩ (gj_checkIndex l D y aK aV 0 6 hA1 (by omega) _) (va_cwS 2 hts gJ1_charAt_3b067_J0_checkIndex_df160 rfl rfl rfl (by decide +kernel) ⟨Nat.le_of_ble_eq_true rfl, Nat.le_of_ble_eq_true rfl⟩) (kz_PreS hs1 hP hD hK hN hZ hS hA) rfl rfl hl.1 rfl (lv_room (Nat.le_of_ble_eq_true rfl)) dJ1_charAt_3b067_3 ⟨Nat.le_of_ble_eq_true rfl, Nat.le_of_ble_eq_true rfl⟩) (fun u3 H locs hq hP hD hS => ?_)
    have hP : va_P D vwCl [] H := hP
    have hD : va_D A [] := hD
    refine lv_aload_n hx hb dJ1_charAt_3b067_6 rfl (lv_at hl 0 rfl) ?_
    refine lv_iload_n hx hb dJ1_charAt_3b067_7 rfl (lv_at hl 1 rfl) ?_
    refine va_tb hx hb (hZ.1.1 0 (by decide)).2.2.2 hS (i := (nI 0)) (by unfold vp_in; decide) (v := .int 112) rfl dJ1_charAt_3b067_8 ?_
    refine lv_sipush (v := 255) hx hb dJ1_charAt_3b067_9 (by decide) ?_
    refine lv_iand hx hb dJ1_charAt_3b067_12 ?_
    refine lv_topi (fun z4 hz4 => ?_)
    obtain rfl : z4 = 112 := hz4.trans (by decide)
    refine lv_i2c (v := 112) hx hb dJ1_charAt_3b067_13 (by decide) ?_
    exact W.zret (v := 112) hx hb hr (by decide) (fun tZ ht hW => ⟨⟨112, (), rfl, (show narrow .char (.int 112) = .int 112 from by decide), by rw [ht]; exact hP.sub [] rfl, hD.sub [] (by decide) rfl⟩, hS.F ht⟩) hS.2.2 dJ1_charAt_3b067_14
  · skip
    refine lv_iload_n hx hb dJ1_charAt_3b067_0 rfl (lv_at hl 1 rfl) ?_
    refine lv_aload_n hx hb dJ1_charAt_3b067_1 rfl (lv_at hl 0 rfl) ?_
    refine va_tlen hx hb (hZ.1.1 0 (by decide)).2.2.2 hS (v := 6) (by decide) dJ1_charAt_3b067_2 ?_
    have hs5 : kw_Split [] [] [] [] [] := ⟨rfl, rfl, rfl, rfl, rfl, by decide⟩
    refine kw_go_v hs5 hP hD hS hA (va_runS (As := [.int (nI 1), .int 6]) (rest := []) ⟨hx, hb, hml, hown, hts⟩ (gj_checkIndex l D y aK aV 1 6 hA1 (by omega) _) (va_cwS 2 hts gJ1_charAt_3b067_J0_checkIndex_df160 rfl rfl rfl (by decide +kernel) ⟨Nat.le_of_ble_eq_true rfl, Nat.le_of_ble_eq_true rfl⟩) (kz_PreS hs5 hP hD hK hN hZ hS hA) rfl rfl hl.1 rfl (lv_room (Nat.le_of_ble_eq_true rfl)) dJ1_charAt_3b067_3 ⟨Nat.le_of_ble_eq_true rfl, Nat.le_of_ble_eq_true rfl⟩) (fun u7 H locs hq hP hD hS => ?_)
    have hP : va_P D vwCl [] H := hP
    have hD : va_D A [] := hD
    refine lv_aload_n hx hb dJ1_charAt_3b067_6 rfl (lv_at hl 0 rfl) ?_
    refine lv_iload_n hx hb dJ1_charAt_3b067_7 rfl (lv_at hl 1 rfl) ?_
    refine va_tb hx hb (hZ.1.1 0 (by decide)).2.2.2 hS (i := (nI 1)) (by unfold vp_in; decide) (v := .int 97) rfl dJ1_charAt_3b067_8 ?_
    refine lv_sipush (v := 255) hx hb dJ1_charAt_3b067_9 (by decide) ?_
    refine lv_iand hx hb dJ1_charAt_3b067_12 ?_
    refine lv_topi (fun z8 hz8 => ?_)
    obtain rfl : z8 = 97 := hz8.trans (by decide)
    refine lv_i2c (v := 97) hx hb dJ1_charAt_3b067_13 (by decide) ?_
    exact W.zret (v := 97) hx hb hr (by decide) (fun tZ ht hW => ⟨⟨97, (), rfl, (show narrow .char (.int 97) = .int 97 from by decide), by rw [ht]; exact hP.sub [] rfl, hD.sub [] (by decide) rfl⟩, hS.F ht⟩) hS.2.2 dJ1_charAt_3b067_14
  · skip
    refine lv_iload_n hx hb dJ1_charAt_3b067_0 rfl (lv_at hl 1 rfl) ?_
    refine lv_aload_n hx hb dJ1_charAt_3b067_1 rfl (lv_at hl 0 rfl) ?_
    refine va_tlen hx hb (hZ.1.1 0 (by decide)).2.2.2 hS (v := 6) (by decide) dJ1_charAt_3b067_2 ?_
    have hs9 : kw_Split [] [] [] [] [] := ⟨rfl, rfl, rfl, rfl, rfl, by decide⟩
    refine kw_go_v hs9 hP hD hS hA (va_runS (As := [.int (nI 2), .int 6]) (rest := []) ⟨hx, hb, hml, hown, hts⟩ (gj_checkIndex l D y aK aV 2 6 hA1 (by omega) _) (va_cwS 2 hts gJ1_charAt_3b067_J0_checkIndex_df160 rfl rfl rfl (by decide +kernel) ⟨Nat.le_of_ble_eq_true rfl, Nat.le_of_ble_eq_true rfl⟩) (kz_PreS hs9 hP hD hK hN hZ hS hA) rfl rfl hl.1 rfl (lv_room (Nat.le_of_ble_eq_true rfl)) dJ1_charAt_3b067_3 ⟨Nat.le_of_ble_eq_true rfl, Nat.le_of_ble_eq_true rfl⟩) (fun u11 H locs hq hP hD hS => ?_)
    have hP : va_P D vwCl [] H := hP
    have hD : va_D A [] := hD
    refine lv_aload_n hx hb dJ1_charAt_3b067_6 rfl (lv_at hl 0 rfl) ?_
    refine lv_iload_n hx hb dJ1_charAt_3b067_7 rfl (lv_at hl 1 rfl) ?_
    refine va_tb hx hb (hZ.1.1 0 (by decide)).2.2.2 hS (i := (nI 2)) (by unfold vp_in; decide) (v := .int 114) rfl dJ1_charAt_3b067_8 ?_
    refine lv_sipush (v := 255) hx hb dJ1_charAt_3b067_9 (by decide) ?_
    refine lv_iand hx hb dJ1_charAt_3b067_12 ?_
    refine lv_topi (fun z12 hz12 => ?_)
    obtain rfl : z12 = 114 := hz12.trans (by decide)
    refine lv_i2c (v := 114) hx hb dJ1_charAt_3b067_13 (by decide) ?_
    exact W.zret (v := 114) hx hb hr (by decide) (fun tZ ht hW => ⟨⟨114, (), rfl, (show narrow .char (.int 114) = .int 114 from by decide), by rw [ht]; exact hP.sub [] rfl, hD.sub [] (by decide) rfl⟩, hS.F ht⟩) hS.2.2 dJ1_charAt_3b067_14
  · skip
    refine lv_iload_n hx hb dJ1_charAt_3b067_0 rfl (lv_at hl 1 rfl) ?_
    refine lv_aload_n hx hb dJ1_charAt_3b067_1 rfl (lv_at hl 0 rfl) ?_
    refine va_tlen hx hb (hZ.1.1 0 (by decide)).2.2.2 hS (v := 6) (by decide) dJ1_charAt_3b067_2 ?_
    have hs13 : kw_Split [] [] [] [] [] := ⟨rfl, rfl, rfl, rfl, rfl, by decide⟩
    refine kw_go_v hs13 hP hD hS hA (va_runS (As := [.int (nI 3), .int 6]) (rest := []) ⟨hx, hb, hml, hown, hts⟩ (gj_checkIndex l D y aK aV 3 6 hA1 (by omega) _) (va_cwS 2 hts gJ1_charAt_3b067_J0_checkIndex_df160 rfl rfl rfl (by decide +kernel) ⟨Nat.le_of_ble_eq_true rfl, Nat.le_of_ble_eq_true rfl⟩) (kz_PreS hs13 hP hD hK hN hZ hS hA) rfl rfl hl.1 rfl (lv_room (Nat.le_of_ble_eq_true rfl)) dJ1_charAt_3b067_3 ⟨Nat.le_of_ble_eq_true rfl, Nat.le_of_ble_eq_true rfl⟩) (fun u15 H locs hq hP hD hS => ?_)
    have hP : va_P D vwCl [] H := hP
    have hD : va_D A [] := hD
    refine lv_aload_n hx hb dJ1_charAt_3b067_6 rfl (lv_at hl 0 rfl) ?_
    refine lv_iload_n hx hb dJ1_charAt_3b067_7 rfl (lv_at hl 1 rfl) ?_
    refine va_tb hx hb (hZ.1.1 0 (by decide)).2.2.2 hS (i := (nI 3)) (by unfold vp_in; decide) (v := .int 105) rfl dJ1_charAt_3b067_8 ?_
    refine lv_sipush (v := 255) hx hb dJ1_charAt_3b067_9 (by decide) ?_
    refine lv_iand hx hb dJ1_charAt_3b067_12 ?_
    refine lv_topi (fun z16 hz16 => ?_)
    obtain rfl : z16 = 105 := hz16.trans (by decide)
    refine lv_i2c (v := 105) hx hb dJ1_charAt_3b067_13 (by decide) ?_
    exact W.zret (v := 105) hx hb hr (by decide) (fun tZ ht hW => ⟨⟨105, (), rfl, (show narrow .char (.int 105) = .int 105 from by decide), by rw [ht]; exact hP.sub [] rfl, hD.sub [] (by decide) rfl⟩, hS.F ht⟩) hS.2.2 dJ1_charAt_3b067_14
  · skip
    refine lv_iload_n hx hb dJ1_charAt_3b067_0 rfl (lv_at hl 1 rfl) ?_
    refine lv_aload_n hx hb dJ1_charAt_3b067_1 rfl (lv_at hl 0 rfl) ?_
    refine va_tlen hx hb (hZ.1.1 0 (by decide)).2.2.2 hS (v := 6) (by decide) dJ1_charAt_3b067_2 ?_
    have hs17 : kw_Split [] [] [] [] [] := ⟨rfl, rfl, rfl, rfl, rfl, by decide⟩
    refine kw_go_v hs17 hP hD hS hA (va_runS (As := [.int (nI 4), .int 6]) (rest := []) ⟨hx, hb, hml, hown, hts⟩ (gj_checkIndex l D y aK aV 4 6 hA1 (by omega) _) (va_cwS 2 hts gJ1_charAt_3b067_J0_checkIndex_df160 rfl rfl rfl (by decide +kernel) ⟨Nat.le_of_ble_eq_true rfl, Nat.le_of_ble_eq_true rfl⟩) (kz_PreS hs17 hP hD hK hN hZ hS hA) rfl rfl hl.1 rfl (lv_room (Nat.le_of_ble_eq_true rfl)) dJ1_charAt_3b067_3 ⟨Nat.le_of_ble_eq_true rfl, Nat.le_of_ble_eq_true rfl⟩) (fun u19 H locs hq hP hD hS => ?_)
    have hP : va_P D vwCl [] H := hP
    have hD : va_D A [] := hD
    refine lv_aload_n hx hb dJ1_charAt_3b067_6 rfl (lv_at hl 0 rfl) ?_
    refine lv_iload_n hx hb dJ1_charAt_3b067_7 rfl (lv_at hl 1 rfl) ?_
    refine va_tb hx hb (hZ.1.1 0 (by decide)).2.2.2 hS (i := (nI 4)) (by unfold vp_in; decide) (v := .int 115) rfl dJ1_charAt_3b067_8 ?_
    refine lv_sipush (v := 255) hx hb dJ1_charAt_3b067_9 (by decide) ?_
    refine lv_iand hx hb dJ1_charAt_3b067_12 ?_
    refine lv_topi (fun z20 hz20 => ?_)
    obtain rfl : z20 = 115 := hz20.trans (by decide)
    refine lv_i2c (v := 115) hx hb dJ1_charAt_3b067_13 (by decide) ?_
    exact W.zret (v := 115) hx hb hr (by decide) (fun tZ ht hW => ⟨⟨115, (), rfl, (show narrow .char (.int 115) = .int 115 from by decide), by rw [ht]; exact hP.sub [] rfl, hD.sub [] (by decide) rfl⟩, hS.F ht⟩) hS.2.2 dJ1_charAt_3b067_14
  · skip
    refine lv_iload_n hx hb dJ1_charAt_3b067_0 rfl (lv_at hl 1 rfl) ?_
    refine lv_aload_n hx hb dJ1_charAt_3b067_1 rfl (lv_at hl 0 rfl) ?_
    refine va_tlen hx hb (hZ.1.1 0 (by decide)).2.2.2 hS (v := 6) (by decide) dJ1_charAt_3b067_2 ?_
    have hs21 : kw_Split [] [] [] [] [] := ⟨rfl, rfl, rfl, rfl, rfl, by decide⟩
    refine kw_go_v hs21 hP hD hS hA (va_runS (As := [.int (nI 5), .int 6]) (rest := []) ⟨hx, hb, hml, hown, hts⟩ (gj_checkIndex l D y aK aV 5 6 hA1 (by omega) _) (va_cwS 2 hts gJ1_charAt_3b067_J0_checkIndex_df160 rfl rfl rfl (by decide +kernel) ⟨Nat.le_of_ble_eq_true rfl, Nat.le_of_ble_eq_true rfl⟩) (kz_PreS hs21 hP hD hK hN hZ hS hA) rfl rfl hl.1 rfl (lv_room (Nat.le_of_ble_eq_true rfl)) dJ1_charAt_3b067_3 ⟨Nat.le_of_ble_eq_true rfl, Nat.le_of_ble_eq_true rfl⟩) (fun u23 H locs hq hP hD hS => ?_)
    have hP : va_P D vwCl [] H := hP
    have hD : va_D A [] := hD
    refine lv_aload_n hx hb dJ1_charAt_3b067_6 rfl (lv_at hl 0 rfl) ?_
    refine lv_iload_n hx hb dJ1_charAt_3b067_7 rfl (lv_at hl 1 rfl) ?_
    refine va_tb hx hb (hZ.1.1 0 (by decide)).2.2.2 hS (i := (nI 5)) (by unfold vp_in; decide) (v := .int 104) rfl dJ1_charAt_3b067_8 ?_
    refine lv_sipush (v := 255) hx hb dJ1_charAt_3b067_9 (by decide) ?_
    refine lv_iand hx hb dJ1_charAt_3b067_12 ?_
    refine lv_topi (fun z24 hz24 => ?_)
    obtain rfl : z24 = 104 := hz24.trans (by decide)
    refine lv_i2c (v := 104) hx hb dJ1_charAt_3b067_13 (by decide) ?_
    exact W.zret (v := 104) hx hb hr (by decide) (fun tZ ht hW => ⟨⟨104, (), rfl, (show narrow .char (.int 104) = .int 104 from by decide), by rw [ht]; exact hP.sub [] rfl, hD.sub [] (by decide) rfl⟩, hS.F ht⟩) hS.2.2 dJ1_charAt_3b067_14

set_option maxHeartbeats 4000000 in
set_option maxRecDepth 100000 in
theorem gj_charAt0 (l : Launch) (D : va_G) (y : Nat → ClassId) (aK : Nat → Nat) (aV : Nat → Nat) (k : Nat) (hA1 : k < 6) : kz_Mi l yJ0_charAt_5068e wsJ0_charAt_5068e ({ frames := 4, cells := 0, slots := 0, locals := 124 }) D y [.ref (aK 0), .int (nI k)] [] aK aV (fun (r : Int32) (u : Unit) => True) (fun _ => []) 0 0 := by
  refine kz_Mi.of (cc := cJ0_charAt_5068e) (maxL := 2) (ret := (some .char)) (by decide) rfl ?_
  intro pZ eZ s mZ beZ meZ cZ A hE
  obtain ⟨hx, hb, hr, hml, hts, hown, hlocks, hin, hA, hP, hD, hK, hN, hZ⟩ := hE
  have hS : va_S A s.heap s.heap [] := va_S.rf
  have hl := lv_entry ([.ref (aK 0), .int (nI k)]) (n := 2) (Nat.le_of_ble_eq_true rfl)
  rw [lg_entry_eq]
  generalize (lg_sl ([.ref (aK 0), .int (nI k)]) ++ List.replicate (2 - (lg_sl ([.ref (aK 0), .int (nI k)])).length) Slot.unset).toArray = ls at hl ⊢
  have hl : lv_has ls 2 [(0, .ref (aK 0)), (1, .int (nI k))] := hl
  have fw1 := hts (.fieldLink RJ0 9 "java/lang/String" "value" "[B") (List.mem_of_getElem? (i := 1) rfl)
  refine lv_aload_n hx hb dJ0_charAt_5068e_0 rfl (lv_at hl 0 rfl) ?_
  have hs1 : kw_Split [] [] [] [] [] := ⟨rfl, rfl, rfl, rfl, rfl, by decide⟩
  refine kw_go_i hs1 hP hD hS hA (va_runV (As := []) (rest := []) ⟨hx, hb, hml, hown, hts⟩ (gj_isLatin10 l D y aK aV  _) (cwV 0 hts gJ0_charAt_5068e_J0_isLatin1_aae02 rfl rfl rfl (by decide +kernel) ⟨Nat.le_of_ble_eq_true rfl, Nat.le_of_ble_eq_true rfl⟩) (kz_PreK (i := 0) hs1 hP hD hK hN (by decide) hZ hS hA) rfl rfl hl.1 rfl (lv_room (Nat.le_of_ble_eq_true rfl)) dJ0_charAt_5068e_1 ⟨Nat.le_of_ble_eq_true rfl, Nat.le_of_ble_eq_true rfl⟩) (fun r2 u3 H locs hq hP hD hS => ?_)
  obtain rfl := hq
  have hP : va_P D vwCl [] H := hP
  have hD : va_D A [] := hD
  refine lv_if_eq (tgt := 16) hx hb dJ0_charAt_5068e_4 (by decide) (fun h9 => absurd h9 (by decide)) (fun _ => ?_)
  refine lv_aload_n hx hb dJ0_charAt_5068e_7 rfl (lv_at hl 0 rfl) ?_
  refine vk_getf hx hb (hZ.1.1 0 (by decide)).2.2.1 hS hown fw1 (fun _ h9 => h9) dJ0_charAt_5068e_8 ?_
  refine lv_iload_n hx hb dJ0_charAt_5068e_11 rfl (lv_at hl 1 rfl) ?_
  have hs4 : kw_Split [] [] [] [] [] := ⟨rfl, rfl, rfl, rfl, rfl, by decide⟩
  refine kw_go_i hs4 hP hD hS hA (va_runS (As := [.ref (aV 0), .int (nI k)]) (rest := []) ⟨hx, hb, hml, hown, hts⟩ (gj_lcharAt0 l D y aK aV k hA1 _) (va_cwS 2 hts gJ0_charAt_5068e_J1_charAt_3b067 rfl rfl rfl (by decide +kernel) ⟨Nat.le_of_ble_eq_true rfl, Nat.le_of_ble_eq_true rfl⟩) (kz_PreS hs4 hP hD hK hN hZ hS hA) rfl rfl hl.1 rfl (lv_room (Nat.le_of_ble_eq_true rfl)) dJ0_charAt_5068e_12 ⟨Nat.le_of_ble_eq_true rfl, Nat.le_of_ble_eq_true rfl⟩) (fun r5 u6 H locs hq hP hD hS => ?_)
  have h7 := hq
  have hP : va_P D vwCl [] H := hP
  have hD : va_D A [] := hD
  exact W.zret (v := r5) hx hb hr h7 (fun tZ ht hW => ⟨⟨r5, (), rfl, trivial, by rw [ht]; exact hP.sub [] rfl, hD.sub [] (by decide) rfl⟩, hS.F ht⟩) hS.2.2 dJ0_charAt_5068e_15

set_option maxHeartbeats 4000000 in
set_option maxRecDepth 100000 in
theorem gj_lcharAt1 (l : Launch) (D : va_G) (y : Nat → ClassId) (aK : Nat → Nat) (aV : Nat → Nat) (k : Nat) (hA1 : k < 5) : kz_Mi l yJ1_charAt_3b067 wsJ1_charAt_3b067 ({ frames := 3, cells := 0, slots := 0, locals := 103 }) D y [.ref (aV 1), .int (nI k)] [] aK aV (fun (r : Int32) (u : Unit) => kz_ch r) (fun _ => []) 0 0 := by
  refine kz_Mi.of (cc := cJ1_charAt_3b067) (maxL := 2) (ret := (some .char)) (by decide) rfl ?_
  intro pZ eZ s mZ beZ meZ cZ A hE
  obtain ⟨hx, hb, hr, hml, hts, hown, hlocks, hin, hA, hP, hD, hK, hN, hZ⟩ := hE
  have hS : va_S A s.heap s.heap [] := va_S.rf
  have hl := lv_entry ([.ref (aV 1), .int (nI k)]) (n := 2) (Nat.le_of_ble_eq_true rfl)
  rw [lg_entry_eq]
  generalize (lg_sl ([.ref (aV 1), .int (nI k)]) ++ List.replicate (2 - (lg_sl ([.ref (aV 1), .int (nI k)])).length) Slot.unset).toArray = ls at hl ⊢
  have hl : lv_has ls 2 [(0, .ref (aV 1)), (1, .int (nI k))] := hl
  rcases (show k = 0 ∨ k = 1 ∨ k = 2 ∨ k = 3 ∨ k = 4 by omega) with rfl | rfl | rfl | rfl | rfl
  · skip
    refine lv_iload_n hx hb dJ1_charAt_3b067_0 rfl (lv_at hl 1 rfl) ?_
    refine lv_aload_n hx hb dJ1_charAt_3b067_1 rfl (lv_at hl 0 rfl) ?_
    refine va_tlen hx hb (hZ.1.1 1 (by decide)).2.2.2 hS (v := 5) (by decide) dJ1_charAt_3b067_2 ?_
    have hs1 : kw_Split [] [] [] [] [] := ⟨rfl, rfl, rfl, rfl, rfl, by decide⟩
    refine kw_go_v hs1 hP hD hS hA (va_runS (As := [.int (nI 0), .int 5]) (rest := []) ⟨hx, hb, hml, hown, hts⟩ (gj_checkIndex l D y aK aV 0 5 hA1 (by omega) _) (va_cwS 2 hts gJ1_charAt_3b067_J0_checkIndex_df160 rfl rfl rfl (by decide +kernel) ⟨Nat.le_of_ble_eq_true rfl, Nat.le_of_ble_eq_true rfl⟩) (kz_PreS hs1 hP hD hK hN hZ hS hA) rfl rfl hl.1 rfl (lv_room (Nat.le_of_ble_eq_true rfl)) dJ1_charAt_3b067_3 ⟨Nat.le_of_ble_eq_true rfl, Nat.le_of_ble_eq_true rfl⟩) (fun u3 H locs hq hP hD hS => ?_)
    have hP : va_P D vwCl [] H := hP
    have hD : va_D A [] := hD
    refine lv_aload_n hx hb dJ1_charAt_3b067_6 rfl (lv_at hl 0 rfl) ?_
    refine lv_iload_n hx hb dJ1_charAt_3b067_7 rfl (lv_at hl 1 rfl) ?_
    refine va_tb hx hb (hZ.1.1 1 (by decide)).2.2.2 hS (i := (nI 0)) (by unfold vp_in; decide) (v := .int 102) rfl dJ1_charAt_3b067_8 ?_
    refine lv_sipush (v := 255) hx hb dJ1_charAt_3b067_9 (by decide) ?_
    refine lv_iand hx hb dJ1_charAt_3b067_12 ?_
    refine lv_topi (fun z4 hz4 => ?_)
    obtain rfl : z4 = 102 := hz4.trans (by decide)
    refine lv_i2c (v := 102) hx hb dJ1_charAt_3b067_13 (by decide) ?_
    exact W.zret (v := 102) hx hb hr (by decide) (fun tZ ht hW => ⟨⟨102, (), rfl, (show narrow .char (.int 102) = .int 102 from by decide), by rw [ht]; exact hP.sub [] rfl, hD.sub [] (by decide) rfl⟩, hS.F ht⟩) hS.2.2 dJ1_charAt_3b067_14
  · skip
    refine lv_iload_n hx hb dJ1_charAt_3b067_0 rfl (lv_at hl 1 rfl) ?_
    refine lv_aload_n hx hb dJ1_charAt_3b067_1 rfl (lv_at hl 0 rfl) ?_
    refine va_tlen hx hb (hZ.1.1 1 (by decide)).2.2.2 hS (v := 5) (by decide) dJ1_charAt_3b067_2 ?_
    have hs5 : kw_Split [] [] [] [] [] := ⟨rfl, rfl, rfl, rfl, rfl, by decide⟩
    refine kw_go_v hs5 hP hD hS hA (va_runS (As := [.int (nI 1), .int 5]) (rest := []) ⟨hx, hb, hml, hown, hts⟩ (gj_checkIndex l D y aK aV 1 5 hA1 (by omega) _) (va_cwS 2 hts gJ1_charAt_3b067_J0_checkIndex_df160 rfl rfl rfl (by decide +kernel) ⟨Nat.le_of_ble_eq_true rfl, Nat.le_of_ble_eq_true rfl⟩) (kz_PreS hs5 hP hD hK hN hZ hS hA) rfl rfl hl.1 rfl (lv_room (Nat.le_of_ble_eq_true rfl)) dJ1_charAt_3b067_3 ⟨Nat.le_of_ble_eq_true rfl, Nat.le_of_ble_eq_true rfl⟩) (fun u7 H locs hq hP hD hS => ?_)
    have hP : va_P D vwCl [] H := hP
    have hD : va_D A [] := hD
    refine lv_aload_n hx hb dJ1_charAt_3b067_6 rfl (lv_at hl 0 rfl) ?_
    refine lv_iload_n hx hb dJ1_charAt_3b067_7 rfl (lv_at hl 1 rfl) ?_
    refine va_tb hx hb (hZ.1.1 1 (by decide)).2.2.2 hS (i := (nI 1)) (by unfold vp_in; decide) (v := .int 105) rfl dJ1_charAt_3b067_8 ?_
    refine lv_sipush (v := 255) hx hb dJ1_charAt_3b067_9 (by decide) ?_
    refine lv_iand hx hb dJ1_charAt_3b067_12 ?_
    refine lv_topi (fun z8 hz8 => ?_)
    obtain rfl : z8 = 105 := hz8.trans (by decide)
    refine lv_i2c (v := 105) hx hb dJ1_charAt_3b067_13 (by decide) ?_
    exact W.zret (v := 105) hx hb hr (by decide) (fun tZ ht hW => ⟨⟨105, (), rfl, (show narrow .char (.int 105) = .int 105 from by decide), by rw [ht]; exact hP.sub [] rfl, hD.sub [] (by decide) rfl⟩, hS.F ht⟩) hS.2.2 dJ1_charAt_3b067_14
  · skip
    refine lv_iload_n hx hb dJ1_charAt_3b067_0 rfl (lv_at hl 1 rfl) ?_
    refine lv_aload_n hx hb dJ1_charAt_3b067_1 rfl (lv_at hl 0 rfl) ?_
    refine va_tlen hx hb (hZ.1.1 1 (by decide)).2.2.2 hS (v := 5) (by decide) dJ1_charAt_3b067_2 ?_
    have hs9 : kw_Split [] [] [] [] [] := ⟨rfl, rfl, rfl, rfl, rfl, by decide⟩
    refine kw_go_v hs9 hP hD hS hA (va_runS (As := [.int (nI 2), .int 5]) (rest := []) ⟨hx, hb, hml, hown, hts⟩ (gj_checkIndex l D y aK aV 2 5 hA1 (by omega) _) (va_cwS 2 hts gJ1_charAt_3b067_J0_checkIndex_df160 rfl rfl rfl (by decide +kernel) ⟨Nat.le_of_ble_eq_true rfl, Nat.le_of_ble_eq_true rfl⟩) (kz_PreS hs9 hP hD hK hN hZ hS hA) rfl rfl hl.1 rfl (lv_room (Nat.le_of_ble_eq_true rfl)) dJ1_charAt_3b067_3 ⟨Nat.le_of_ble_eq_true rfl, Nat.le_of_ble_eq_true rfl⟩) (fun u11 H locs hq hP hD hS => ?_)
    have hP : va_P D vwCl [] H := hP
    have hD : va_D A [] := hD
    refine lv_aload_n hx hb dJ1_charAt_3b067_6 rfl (lv_at hl 0 rfl) ?_
    refine lv_iload_n hx hb dJ1_charAt_3b067_7 rfl (lv_at hl 1 rfl) ?_
    refine va_tb hx hb (hZ.1.1 1 (by decide)).2.2.2 hS (i := (nI 2)) (by unfold vp_in; decide) (v := .int 101) rfl dJ1_charAt_3b067_8 ?_
    refine lv_sipush (v := 255) hx hb dJ1_charAt_3b067_9 (by decide) ?_
    refine lv_iand hx hb dJ1_charAt_3b067_12 ?_
    refine lv_topi (fun z12 hz12 => ?_)
    obtain rfl : z12 = 101 := hz12.trans (by decide)
    refine lv_i2c (v := 101) hx hb dJ1_charAt_3b067_13 (by decide) ?_
    exact W.zret (v := 101) hx hb hr (by decide) (fun tZ ht hW => ⟨⟨101, (), rfl, (show narrow .char (.int 101) = .int 101 from by decide), by rw [ht]; exact hP.sub [] rfl, hD.sub [] (by decide) rfl⟩, hS.F ht⟩) hS.2.2 dJ1_charAt_3b067_14
  · skip
    refine lv_iload_n hx hb dJ1_charAt_3b067_0 rfl (lv_at hl 1 rfl) ?_
    refine lv_aload_n hx hb dJ1_charAt_3b067_1 rfl (lv_at hl 0 rfl) ?_
    refine va_tlen hx hb (hZ.1.1 1 (by decide)).2.2.2 hS (v := 5) (by decide) dJ1_charAt_3b067_2 ?_
    have hs13 : kw_Split [] [] [] [] [] := ⟨rfl, rfl, rfl, rfl, rfl, by decide⟩
    refine kw_go_v hs13 hP hD hS hA (va_runS (As := [.int (nI 3), .int 5]) (rest := []) ⟨hx, hb, hml, hown, hts⟩ (gj_checkIndex l D y aK aV 3 5 hA1 (by omega) _) (va_cwS 2 hts gJ1_charAt_3b067_J0_checkIndex_df160 rfl rfl rfl (by decide +kernel) ⟨Nat.le_of_ble_eq_true rfl, Nat.le_of_ble_eq_true rfl⟩) (kz_PreS hs13 hP hD hK hN hZ hS hA) rfl rfl hl.1 rfl (lv_room (Nat.le_of_ble_eq_true rfl)) dJ1_charAt_3b067_3 ⟨Nat.le_of_ble_eq_true rfl, Nat.le_of_ble_eq_true rfl⟩) (fun u15 H locs hq hP hD hS => ?_)
    have hP : va_P D vwCl [] H := hP
    have hD : va_D A [] := hD
    refine lv_aload_n hx hb dJ1_charAt_3b067_6 rfl (lv_at hl 0 rfl) ?_
    refine lv_iload_n hx hb dJ1_charAt_3b067_7 rfl (lv_at hl 1 rfl) ?_
    refine va_tb hx hb (hZ.1.1 1 (by decide)).2.2.2 hS (i := (nI 3)) (by unfold vp_in; decide) (v := .int 108) rfl dJ1_charAt_3b067_8 ?_
    refine lv_sipush (v := 255) hx hb dJ1_charAt_3b067_9 (by decide) ?_
    refine lv_iand hx hb dJ1_charAt_3b067_12 ?_
    refine lv_topi (fun z16 hz16 => ?_)
    obtain rfl : z16 = 108 := hz16.trans (by decide)
    refine lv_i2c (v := 108) hx hb dJ1_charAt_3b067_13 (by decide) ?_
    exact W.zret (v := 108) hx hb hr (by decide) (fun tZ ht hW => ⟨⟨108, (), rfl, (show narrow .char (.int 108) = .int 108 from by decide), by rw [ht]; exact hP.sub [] rfl, hD.sub [] (by decide) rfl⟩, hS.F ht⟩) hS.2.2 dJ1_charAt_3b067_14
  · skip
    refine lv_iload_n hx hb dJ1_charAt_3b067_0 rfl (lv_at hl 1 rfl) ?_
    refine lv_aload_n hx hb dJ1_charAt_3b067_1 rfl (lv_at hl 0 rfl) ?_
    refine va_tlen hx hb (hZ.1.1 1 (by decide)).2.2.2 hS (v := 5) (by decide) dJ1_charAt_3b067_2 ?_
    have hs17 : kw_Split [] [] [] [] [] := ⟨rfl, rfl, rfl, rfl, rfl, by decide⟩
    refine kw_go_v hs17 hP hD hS hA (va_runS (As := [.int (nI 4), .int 5]) (rest := []) ⟨hx, hb, hml, hown, hts⟩ (gj_checkIndex l D y aK aV 4 5 hA1 (by omega) _) (va_cwS 2 hts gJ1_charAt_3b067_J0_checkIndex_df160 rfl rfl rfl (by decide +kernel) ⟨Nat.le_of_ble_eq_true rfl, Nat.le_of_ble_eq_true rfl⟩) (kz_PreS hs17 hP hD hK hN hZ hS hA) rfl rfl hl.1 rfl (lv_room (Nat.le_of_ble_eq_true rfl)) dJ1_charAt_3b067_3 ⟨Nat.le_of_ble_eq_true rfl, Nat.le_of_ble_eq_true rfl⟩) (fun u19 H locs hq hP hD hS => ?_)
    have hP : va_P D vwCl [] H := hP
    have hD : va_D A [] := hD
    refine lv_aload_n hx hb dJ1_charAt_3b067_6 rfl (lv_at hl 0 rfl) ?_
    refine lv_iload_n hx hb dJ1_charAt_3b067_7 rfl (lv_at hl 1 rfl) ?_
    refine va_tb hx hb (hZ.1.1 1 (by decide)).2.2.2 hS (i := (nI 4)) (by unfold vp_in; decide) (v := .int 100) rfl dJ1_charAt_3b067_8 ?_
    refine lv_sipush (v := 255) hx hb dJ1_charAt_3b067_9 (by decide) ?_
    refine lv_iand hx hb dJ1_charAt_3b067_12 ?_
    refine lv_topi (fun z20 hz20 => ?_)
    obtain rfl : z20 = 100 := hz20.trans (by decide)
    refine lv_i2c (v := 100) hx hb dJ1_charAt_3b067_13 (by decide) ?_
    exact W.zret (v := 100) hx hb hr (by decide) (fun tZ ht hW => ⟨⟨100, (), rfl, (show narrow .char (.int 100) = .int 100 from by decide), by rw [ht]; exact hP.sub [] rfl, hD.sub [] (by decide) rfl⟩, hS.F ht⟩) hS.2.2 dJ1_charAt_3b067_14

set_option maxHeartbeats 4000000 in
set_option maxRecDepth 100000 in
theorem gj_charAt1 (l : Launch) (D : va_G) (y : Nat → ClassId) (aK : Nat → Nat) (aV : Nat → Nat) (k : Nat) (hA1 : k < 5) : kz_Mi l yJ0_charAt_5068e wsJ0_charAt_5068e ({ frames := 4, cells := 0, slots := 0, locals := 124 }) D y [.ref (aK 1), .int (nI k)] [] aK aV (fun (r : Int32) (u : Unit) => True) (fun _ => []) 0 0 := by
  refine kz_Mi.of (cc := cJ0_charAt_5068e) (maxL := 2) (ret := (some .char)) (by decide) rfl ?_
  intro pZ eZ s mZ beZ meZ cZ A hE
  obtain ⟨hx, hb, hr, hml, hts, hown, hlocks, hin, hA, hP, hD, hK, hN, hZ⟩ := hE
  have hS : va_S A s.heap s.heap [] := va_S.rf
  have hl := lv_entry ([.ref (aK 1), .int (nI k)]) (n := 2) (Nat.le_of_ble_eq_true rfl)
  rw [lg_entry_eq]
  generalize (lg_sl ([.ref (aK 1), .int (nI k)]) ++ List.replicate (2 - (lg_sl ([.ref (aK 1), .int (nI k)])).length) Slot.unset).toArray = ls at hl ⊢
  have hl : lv_has ls 2 [(0, .ref (aK 1)), (1, .int (nI k))] := hl
  have fw1 := hts (.fieldLink RJ0 9 "java/lang/String" "value" "[B") (List.mem_of_getElem? (i := 1) rfl)
  refine lv_aload_n hx hb dJ0_charAt_5068e_0 rfl (lv_at hl 0 rfl) ?_
  have hs1 : kw_Split [] [] [] [] [] := ⟨rfl, rfl, rfl, rfl, rfl, by decide⟩
  refine kw_go_i hs1 hP hD hS hA (va_runV (As := []) (rest := []) ⟨hx, hb, hml, hown, hts⟩ (gj_isLatin11 l D y aK aV  _) (cwV 0 hts gJ0_charAt_5068e_J0_isLatin1_aae02 rfl rfl rfl (by decide +kernel) ⟨Nat.le_of_ble_eq_true rfl, Nat.le_of_ble_eq_true rfl⟩) (kz_PreK (i := 1) hs1 hP hD hK hN (by decide) hZ hS hA) rfl rfl hl.1 rfl (lv_room (Nat.le_of_ble_eq_true rfl)) dJ0_charAt_5068e_1 ⟨Nat.le_of_ble_eq_true rfl, Nat.le_of_ble_eq_true rfl⟩) (fun r2 u3 H locs hq hP hD hS => ?_)
  obtain rfl := hq
  have hP : va_P D vwCl [] H := hP
  have hD : va_D A [] := hD
  refine lv_if_eq (tgt := 16) hx hb dJ0_charAt_5068e_4 (by decide) (fun h9 => absurd h9 (by decide)) (fun _ => ?_)
  refine lv_aload_n hx hb dJ0_charAt_5068e_7 rfl (lv_at hl 0 rfl) ?_
  refine vk_getf hx hb (hZ.1.1 1 (by decide)).2.2.1 hS hown fw1 (fun _ h9 => h9) dJ0_charAt_5068e_8 ?_
  refine lv_iload_n hx hb dJ0_charAt_5068e_11 rfl (lv_at hl 1 rfl) ?_
  have hs4 : kw_Split [] [] [] [] [] := ⟨rfl, rfl, rfl, rfl, rfl, by decide⟩
  refine kw_go_i hs4 hP hD hS hA (va_runS (As := [.ref (aV 1), .int (nI k)]) (rest := []) ⟨hx, hb, hml, hown, hts⟩ (gj_lcharAt1 l D y aK aV k hA1 _) (va_cwS 2 hts gJ0_charAt_5068e_J1_charAt_3b067 rfl rfl rfl (by decide +kernel) ⟨Nat.le_of_ble_eq_true rfl, Nat.le_of_ble_eq_true rfl⟩) (kz_PreS hs4 hP hD hK hN hZ hS hA) rfl rfl hl.1 rfl (lv_room (Nat.le_of_ble_eq_true rfl)) dJ0_charAt_5068e_12 ⟨Nat.le_of_ble_eq_true rfl, Nat.le_of_ble_eq_true rfl⟩) (fun r5 u6 H locs hq hP hD hS => ?_)
  have h7 := hq
  have hP : va_P D vwCl [] H := hP
  have hD : va_D A [] := hD
  exact W.zret (v := r5) hx hb hr h7 (fun tZ ht hW => ⟨⟨r5, (), rfl, trivial, by rw [ht]; exact hP.sub [] rfl, hD.sub [] (by decide) rfl⟩, hS.F ht⟩) hS.2.2 dJ0_charAt_5068e_15

set_option maxHeartbeats 4000000 in
set_option maxRecDepth 100000 in
theorem gj_lcharAt2 (l : Launch) (D : va_G) (y : Nat → ClassId) (aK : Nat → Nat) (aV : Nat → Nat) (k : Nat) (hA1 : k < 7) : kz_Mi l yJ1_charAt_3b067 wsJ1_charAt_3b067 ({ frames := 3, cells := 0, slots := 0, locals := 103 }) D y [.ref (aV 2), .int (nI k)] [] aK aV (fun (r : Int32) (u : Unit) => kz_ch r) (fun _ => []) 0 0 := by
  refine kz_Mi.of (cc := cJ1_charAt_3b067) (maxL := 2) (ret := (some .char)) (by decide) rfl ?_
  intro pZ eZ s mZ beZ meZ cZ A hE
  obtain ⟨hx, hb, hr, hml, hts, hown, hlocks, hin, hA, hP, hD, hK, hN, hZ⟩ := hE
  have hS : va_S A s.heap s.heap [] := va_S.rf
  have hl := lv_entry ([.ref (aV 2), .int (nI k)]) (n := 2) (Nat.le_of_ble_eq_true rfl)
  rw [lg_entry_eq]
  generalize (lg_sl ([.ref (aV 2), .int (nI k)]) ++ List.replicate (2 - (lg_sl ([.ref (aV 2), .int (nI k)])).length) Slot.unset).toArray = ls at hl ⊢
  have hl : lv_has ls 2 [(0, .ref (aV 2)), (1, .int (nI k))] := hl
  rcases (show k = 0 ∨ k = 1 ∨ k = 2 ∨ k = 3 ∨ k = 4 ∨ k = 5 ∨ k = 6 by omega) with rfl | rfl | rfl | rfl | rfl | rfl | rfl
  · skip
    refine lv_iload_n hx hb dJ1_charAt_3b067_0 rfl (lv_at hl 1 rfl) ?_
    refine lv_aload_n hx hb dJ1_charAt_3b067_1 rfl (lv_at hl 0 rfl) ?_
    refine va_tlen hx hb (hZ.1.1 2 (by decide)).2.2.2 hS (v := 7) (by decide) dJ1_charAt_3b067_2 ?_
    have hs1 : kw_Split [] [] [] [] [] := ⟨rfl, rfl, rfl, rfl, rfl, by decide⟩
    refine kw_go_v hs1 hP hD hS hA (va_runS (As := [.int (nI 0), .int 7]) (rest := []) ⟨hx, hb, hml, hown, hts⟩ (gj_checkIndex l D y aK aV 0 7 hA1 (by omega) _) (va_cwS 2 hts gJ1_charAt_3b067_J0_checkIndex_df160 rfl rfl rfl (by decide +kernel) ⟨Nat.le_of_ble_eq_true rfl, Nat.le_of_ble_eq_true rfl⟩) (kz_PreS hs1 hP hD hK hN hZ hS hA) rfl rfl hl.1 rfl (lv_room (Nat.le_of_ble_eq_true rfl)) dJ1_charAt_3b067_3 ⟨Nat.le_of_ble_eq_true rfl, Nat.le_of_ble_eq_true rfl⟩) (fun u3 H locs hq hP hD hS => ?_)
    have hP : va_P D vwCl [] H := hP
    have hD : va_D A [] := hD
    refine lv_aload_n hx hb dJ1_charAt_3b067_6 rfl (lv_at hl 0 rfl) ?_
    refine lv_iload_n hx hb dJ1_charAt_3b067_7 rfl (lv_at hl 1 rfl) ?_
    refine va_tb hx hb (hZ.1.1 2 (by decide)).2.2.2 hS (i := (nI 0)) (by unfold vp_in; decide) (v := .int 103) rfl dJ1_charAt_3b067_8 ?_
    refine lv_sipush (v := 255) hx hb dJ1_charAt_3b067_9 (by decide) ?_
    refine lv_iand hx hb dJ1_charAt_3b067_12 ?_
    refine lv_topi (fun z4 hz4 => ?_)
    obtain rfl : z4 = 103 := hz4.trans (by decide)
    refine lv_i2c (v := 103) hx hb dJ1_charAt_3b067_13 (by decide) ?_
    exact W.zret (v := 103) hx hb hr (by decide) (fun tZ ht hW => ⟨⟨103, (), rfl, (show narrow .char (.int 103) = .int 103 from by decide), by rw [ht]; exact hP.sub [] rfl, hD.sub [] (by decide) rfl⟩, hS.F ht⟩) hS.2.2 dJ1_charAt_3b067_14
  · skip
    refine lv_iload_n hx hb dJ1_charAt_3b067_0 rfl (lv_at hl 1 rfl) ?_
    refine lv_aload_n hx hb dJ1_charAt_3b067_1 rfl (lv_at hl 0 rfl) ?_
    refine va_tlen hx hb (hZ.1.1 2 (by decide)).2.2.2 hS (v := 7) (by decide) dJ1_charAt_3b067_2 ?_
    have hs5 : kw_Split [] [] [] [] [] := ⟨rfl, rfl, rfl, rfl, rfl, by decide⟩
    refine kw_go_v hs5 hP hD hS hA (va_runS (As := [.int (nI 1), .int 7]) (rest := []) ⟨hx, hb, hml, hown, hts⟩ (gj_checkIndex l D y aK aV 1 7 hA1 (by omega) _) (va_cwS 2 hts gJ1_charAt_3b067_J0_checkIndex_df160 rfl rfl rfl (by decide +kernel) ⟨Nat.le_of_ble_eq_true rfl, Nat.le_of_ble_eq_true rfl⟩) (kz_PreS hs5 hP hD hK hN hZ hS hA) rfl rfl hl.1 rfl (lv_room (Nat.le_of_ble_eq_true rfl)) dJ1_charAt_3b067_3 ⟨Nat.le_of_ble_eq_true rfl, Nat.le_of_ble_eq_true rfl⟩) (fun u7 H locs hq hP hD hS => ?_)
    have hP : va_P D vwCl [] H := hP
    have hD : va_D A [] := hD
    refine lv_aload_n hx hb dJ1_charAt_3b067_6 rfl (lv_at hl 0 rfl) ?_
    refine lv_iload_n hx hb dJ1_charAt_3b067_7 rfl (lv_at hl 1 rfl) ?_
    refine va_tb hx hb (hZ.1.1 2 (by decide)).2.2.2 hS (i := (nI 1)) (by unfold vp_in; decide) (v := .int 108) rfl dJ1_charAt_3b067_8 ?_
    refine lv_sipush (v := 255) hx hb dJ1_charAt_3b067_9 (by decide) ?_
    refine lv_iand hx hb dJ1_charAt_3b067_12 ?_
    refine lv_topi (fun z8 hz8 => ?_)
    obtain rfl : z8 = 108 := hz8.trans (by decide)
    refine lv_i2c (v := 108) hx hb dJ1_charAt_3b067_13 (by decide) ?_
    exact W.zret (v := 108) hx hb hr (by decide) (fun tZ ht hW => ⟨⟨108, (), rfl, (show narrow .char (.int 108) = .int 108 from by decide), by rw [ht]; exact hP.sub [] rfl, hD.sub [] (by decide) rfl⟩, hS.F ht⟩) hS.2.2 dJ1_charAt_3b067_14
  · skip
    refine lv_iload_n hx hb dJ1_charAt_3b067_0 rfl (lv_at hl 1 rfl) ?_
    refine lv_aload_n hx hb dJ1_charAt_3b067_1 rfl (lv_at hl 0 rfl) ?_
    refine va_tlen hx hb (hZ.1.1 2 (by decide)).2.2.2 hS (v := 7) (by decide) dJ1_charAt_3b067_2 ?_
    have hs9 : kw_Split [] [] [] [] [] := ⟨rfl, rfl, rfl, rfl, rfl, by decide⟩
    refine kw_go_v hs9 hP hD hS hA (va_runS (As := [.int (nI 2), .int 7]) (rest := []) ⟨hx, hb, hml, hown, hts⟩ (gj_checkIndex l D y aK aV 2 7 hA1 (by omega) _) (va_cwS 2 hts gJ1_charAt_3b067_J0_checkIndex_df160 rfl rfl rfl (by decide +kernel) ⟨Nat.le_of_ble_eq_true rfl, Nat.le_of_ble_eq_true rfl⟩) (kz_PreS hs9 hP hD hK hN hZ hS hA) rfl rfl hl.1 rfl (lv_room (Nat.le_of_ble_eq_true rfl)) dJ1_charAt_3b067_3 ⟨Nat.le_of_ble_eq_true rfl, Nat.le_of_ble_eq_true rfl⟩) (fun u11 H locs hq hP hD hS => ?_)
    have hP : va_P D vwCl [] H := hP
    have hD : va_D A [] := hD
    refine lv_aload_n hx hb dJ1_charAt_3b067_6 rfl (lv_at hl 0 rfl) ?_
    refine lv_iload_n hx hb dJ1_charAt_3b067_7 rfl (lv_at hl 1 rfl) ?_
    refine va_tb hx hb (hZ.1.1 2 (by decide)).2.2.2 hS (i := (nI 2)) (by unfold vp_in; decide) (v := .int 101) rfl dJ1_charAt_3b067_8 ?_
    refine lv_sipush (v := 255) hx hb dJ1_charAt_3b067_9 (by decide) ?_
    refine lv_iand hx hb dJ1_charAt_3b067_12 ?_
    refine lv_topi (fun z12 hz12 => ?_)
    obtain rfl : z12 = 101 := hz12.trans (by decide)
    refine lv_i2c (v := 101) hx hb dJ1_charAt_3b067_13 (by decide) ?_
    exact W.zret (v := 101) hx hb hr (by decide) (fun tZ ht hW => ⟨⟨101, (), rfl, (show narrow .char (.int 101) = .int 101 from by decide), by rw [ht]; exact hP.sub [] rfl, hD.sub [] (by decide) rfl⟩, hS.F ht⟩) hS.2.2 dJ1_charAt_3b067_14
  · skip
    refine lv_iload_n hx hb dJ1_charAt_3b067_0 rfl (lv_at hl 1 rfl) ?_
    refine lv_aload_n hx hb dJ1_charAt_3b067_1 rfl (lv_at hl 0 rfl) ?_
    refine va_tlen hx hb (hZ.1.1 2 (by decide)).2.2.2 hS (v := 7) (by decide) dJ1_charAt_3b067_2 ?_
    have hs13 : kw_Split [] [] [] [] [] := ⟨rfl, rfl, rfl, rfl, rfl, by decide⟩
    refine kw_go_v hs13 hP hD hS hA (va_runS (As := [.int (nI 3), .int 7]) (rest := []) ⟨hx, hb, hml, hown, hts⟩ (gj_checkIndex l D y aK aV 3 7 hA1 (by omega) _) (va_cwS 2 hts gJ1_charAt_3b067_J0_checkIndex_df160 rfl rfl rfl (by decide +kernel) ⟨Nat.le_of_ble_eq_true rfl, Nat.le_of_ble_eq_true rfl⟩) (kz_PreS hs13 hP hD hK hN hZ hS hA) rfl rfl hl.1 rfl (lv_room (Nat.le_of_ble_eq_true rfl)) dJ1_charAt_3b067_3 ⟨Nat.le_of_ble_eq_true rfl, Nat.le_of_ble_eq_true rfl⟩) (fun u15 H locs hq hP hD hS => ?_)
    have hP : va_P D vwCl [] H := hP
    have hD : va_D A [] := hD
    refine lv_aload_n hx hb dJ1_charAt_3b067_6 rfl (lv_at hl 0 rfl) ?_
    refine lv_iload_n hx hb dJ1_charAt_3b067_7 rfl (lv_at hl 1 rfl) ?_
    refine va_tb hx hb (hZ.1.1 2 (by decide)).2.2.2 hS (i := (nI 3)) (by unfold vp_in; decide) (v := .int 97) rfl dJ1_charAt_3b067_8 ?_
    refine lv_sipush (v := 255) hx hb dJ1_charAt_3b067_9 (by decide) ?_
    refine lv_iand hx hb dJ1_charAt_3b067_12 ?_
    refine lv_topi (fun z16 hz16 => ?_)
    obtain rfl : z16 = 97 := hz16.trans (by decide)
    refine lv_i2c (v := 97) hx hb dJ1_charAt_3b067_13 (by decide) ?_
    exact W.zret (v := 97) hx hb hr (by decide) (fun tZ ht hW => ⟨⟨97, (), rfl, (show narrow .char (.int 97) = .int 97 from by decide), by rw [ht]; exact hP.sub [] rfl, hD.sub [] (by decide) rfl⟩, hS.F ht⟩) hS.2.2 dJ1_charAt_3b067_14
  · skip
    refine lv_iload_n hx hb dJ1_charAt_3b067_0 rfl (lv_at hl 1 rfl) ?_
    refine lv_aload_n hx hb dJ1_charAt_3b067_1 rfl (lv_at hl 0 rfl) ?_
    refine va_tlen hx hb (hZ.1.1 2 (by decide)).2.2.2 hS (v := 7) (by decide) dJ1_charAt_3b067_2 ?_
    have hs17 : kw_Split [] [] [] [] [] := ⟨rfl, rfl, rfl, rfl, rfl, by decide⟩
    refine kw_go_v hs17 hP hD hS hA (va_runS (As := [.int (nI 4), .int 7]) (rest := []) ⟨hx, hb, hml, hown, hts⟩ (gj_checkIndex l D y aK aV 4 7 hA1 (by omega) _) (va_cwS 2 hts gJ1_charAt_3b067_J0_checkIndex_df160 rfl rfl rfl (by decide +kernel) ⟨Nat.le_of_ble_eq_true rfl, Nat.le_of_ble_eq_true rfl⟩) (kz_PreS hs17 hP hD hK hN hZ hS hA) rfl rfl hl.1 rfl (lv_room (Nat.le_of_ble_eq_true rfl)) dJ1_charAt_3b067_3 ⟨Nat.le_of_ble_eq_true rfl, Nat.le_of_ble_eq_true rfl⟩) (fun u19 H locs hq hP hD hS => ?_)
    have hP : va_P D vwCl [] H := hP
    have hD : va_D A [] := hD
    refine lv_aload_n hx hb dJ1_charAt_3b067_6 rfl (lv_at hl 0 rfl) ?_
    refine lv_iload_n hx hb dJ1_charAt_3b067_7 rfl (lv_at hl 1 rfl) ?_
    refine va_tb hx hb (hZ.1.1 2 (by decide)).2.2.2 hS (i := (nI 4)) (by unfold vp_in; decide) (v := .int 110) rfl dJ1_charAt_3b067_8 ?_
    refine lv_sipush (v := 255) hx hb dJ1_charAt_3b067_9 (by decide) ?_
    refine lv_iand hx hb dJ1_charAt_3b067_12 ?_
    refine lv_topi (fun z20 hz20 => ?_)
    obtain rfl : z20 = 110 := hz20.trans (by decide)
    refine lv_i2c (v := 110) hx hb dJ1_charAt_3b067_13 (by decide) ?_
    exact W.zret (v := 110) hx hb hr (by decide) (fun tZ ht hW => ⟨⟨110, (), rfl, (show narrow .char (.int 110) = .int 110 from by decide), by rw [ht]; exact hP.sub [] rfl, hD.sub [] (by decide) rfl⟩, hS.F ht⟩) hS.2.2 dJ1_charAt_3b067_14
  · skip
    refine lv_iload_n hx hb dJ1_charAt_3b067_0 rfl (lv_at hl 1 rfl) ?_
    refine lv_aload_n hx hb dJ1_charAt_3b067_1 rfl (lv_at hl 0 rfl) ?_
    refine va_tlen hx hb (hZ.1.1 2 (by decide)).2.2.2 hS (v := 7) (by decide) dJ1_charAt_3b067_2 ?_
    have hs21 : kw_Split [] [] [] [] [] := ⟨rfl, rfl, rfl, rfl, rfl, by decide⟩
    refine kw_go_v hs21 hP hD hS hA (va_runS (As := [.int (nI 5), .int 7]) (rest := []) ⟨hx, hb, hml, hown, hts⟩ (gj_checkIndex l D y aK aV 5 7 hA1 (by omega) _) (va_cwS 2 hts gJ1_charAt_3b067_J0_checkIndex_df160 rfl rfl rfl (by decide +kernel) ⟨Nat.le_of_ble_eq_true rfl, Nat.le_of_ble_eq_true rfl⟩) (kz_PreS hs21 hP hD hK hN hZ hS hA) rfl rfl hl.1 rfl (lv_room (Nat.le_of_ble_eq_true rfl)) dJ1_charAt_3b067_3 ⟨Nat.le_of_ble_eq_true rfl, Nat.le_of_ble_eq_true rfl⟩) (fun u23 H locs hq hP hD hS => ?_)
    have hP : va_P D vwCl [] H := hP
    have hD : va_D A [] := hD
    refine lv_aload_n hx hb dJ1_charAt_3b067_6 rfl (lv_at hl 0 rfl) ?_
    refine lv_iload_n hx hb dJ1_charAt_3b067_7 rfl (lv_at hl 1 rfl) ?_
    refine va_tb hx hb (hZ.1.1 2 (by decide)).2.2.2 hS (i := (nI 5)) (by unfold vp_in; decide) (v := .int 101) rfl dJ1_charAt_3b067_8 ?_
    refine lv_sipush (v := 255) hx hb dJ1_charAt_3b067_9 (by decide) ?_
    refine lv_iand hx hb dJ1_charAt_3b067_12 ?_
    refine lv_topi (fun z24 hz24 => ?_)
    obtain rfl : z24 = 101 := hz24.trans (by decide)
    refine lv_i2c (v := 101) hx hb dJ1_charAt_3b067_13 (by decide) ?_
    exact W.zret (v := 101) hx hb hr (by decide) (fun tZ ht hW => ⟨⟨101, (), rfl, (show narrow .char (.int 101) = .int 101 from by decide), by rw [ht]; exact hP.sub [] rfl, hD.sub [] (by decide) rfl⟩, hS.F ht⟩) hS.2.2 dJ1_charAt_3b067_14
  · skip
    refine lv_iload_n hx hb dJ1_charAt_3b067_0 rfl (lv_at hl 1 rfl) ?_
    refine lv_aload_n hx hb dJ1_charAt_3b067_1 rfl (lv_at hl 0 rfl) ?_
    refine va_tlen hx hb (hZ.1.1 2 (by decide)).2.2.2 hS (v := 7) (by decide) dJ1_charAt_3b067_2 ?_
    have hs25 : kw_Split [] [] [] [] [] := ⟨rfl, rfl, rfl, rfl, rfl, by decide⟩
    refine kw_go_v hs25 hP hD hS hA (va_runS (As := [.int (nI 6), .int 7]) (rest := []) ⟨hx, hb, hml, hown, hts⟩ (gj_checkIndex l D y aK aV 6 7 hA1 (by omega) _) (va_cwS 2 hts gJ1_charAt_3b067_J0_checkIndex_df160 rfl rfl rfl (by decide +kernel) ⟨Nat.le_of_ble_eq_true rfl, Nat.le_of_ble_eq_true rfl⟩) (kz_PreS hs25 hP hD hK hN hZ hS hA) rfl rfl hl.1 rfl (lv_room (Nat.le_of_ble_eq_true rfl)) dJ1_charAt_3b067_3 ⟨Nat.le_of_ble_eq_true rfl, Nat.le_of_ble_eq_true rfl⟩) (fun u27 H locs hq hP hD hS => ?_)
    have hP : va_P D vwCl [] H := hP
    have hD : va_D A [] := hD
    refine lv_aload_n hx hb dJ1_charAt_3b067_6 rfl (lv_at hl 0 rfl) ?_
    refine lv_iload_n hx hb dJ1_charAt_3b067_7 rfl (lv_at hl 1 rfl) ?_
    refine va_tb hx hb (hZ.1.1 2 (by decide)).2.2.2 hS (i := (nI 6)) (by unfold vp_in; decide) (v := .int 114) rfl dJ1_charAt_3b067_8 ?_
    refine lv_sipush (v := 255) hx hb dJ1_charAt_3b067_9 (by decide) ?_
    refine lv_iand hx hb dJ1_charAt_3b067_12 ?_
    refine lv_topi (fun z28 hz28 => ?_)
    obtain rfl : z28 = 114 := hz28.trans (by decide)
    refine lv_i2c (v := 114) hx hb dJ1_charAt_3b067_13 (by decide) ?_
    exact W.zret (v := 114) hx hb hr (by decide) (fun tZ ht hW => ⟨⟨114, (), rfl, (show narrow .char (.int 114) = .int 114 from by decide), by rw [ht]; exact hP.sub [] rfl, hD.sub [] (by decide) rfl⟩, hS.F ht⟩) hS.2.2 dJ1_charAt_3b067_14
