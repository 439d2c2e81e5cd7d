set_option maxHeartbeats 4000000 in
set_option maxRecDepth 100000 in
theorem gs_charAt2 (l : Launch) (D : va_G) (y : Nat → ClassId) (aK : Nat → Nat) (aV : Nat → Nat) (k : Nat) (hA1 : k < 7) : kz_Mi l yJ0_charAt_5068e wsJ0_charAt_5068e ({ frames := 4, cells := 0, slots := 0, locals := 124 }) D y [.ref (aK 2), .int (nI k)] [] aK aV (fun (r : Int32) (u : Unit) => r = (kz_w 2 k)) (fun _ => []) 0 0 := by
  refine kz_Mi.of (cc := cJ0_charAt_5068e) (maxL := 2) (ret := (some .char)) (by decide) rfl ?_
  intro pZ eZ s mZ beZ meZ cZ A hE
  obtain ⟨hx, hb, hr, hml, hts, hown, hlocks, hin, hA, hP, hD, hK, hN, hZ⟩ := hE
  have hS : va_S A s.heap s.heap [] := va_S.rf
  have hl := lv_entry ([.ref (aK 2), .int (nI k)]) (n := 2) (Nat.le_of_ble_eq_true rfl)
  rw [lg_entry_eq]
  generalize (lg_sl ([.ref (aK 2), .int (nI k)]) ++ List.replicate (2 - (lg_sl ([.ref (aK 2), .int (nI k)])).length) Slot.unset).toArray = ls at hl ⊢
  have hl : lv_has ls 2 [(0, .ref (aK 2)), (1, .int (nI k))] := hl
  have fw1 := hts (.fieldLink RJ0 9 "java/lang/String" "value" "[B") (List.mem_of_getElem? (i := 1) rfl)
  refine lv_aload_n hx hb dJ0_charAt_5068e_0 rfl (lv_at hl 0 rfl) ?_
  have hs1 : kw_Split [] [] [] [] [] := ⟨rfl, rfl, rfl, rfl, rfl, by decide⟩
  refine kw_go_i hs1 hP hD hS hA (va_runV (As := []) (rest := []) ⟨hx, hb, hml, hown, hts⟩ (gj_isLatin12 l D y aK aV  _) (cwV 0 hts gJ0_charAt_5068e_J0_isLatin1_aae02 rfl rfl rfl (by decide +kernel) ⟨Nat.le_of_ble_eq_true rfl, Nat.le_of_ble_eq_true rfl⟩) (kz_PreK (i := 2) hs1 hP hD hK hN (by decide) hZ hS hA) rfl rfl hl.1 rfl (lv_room (Nat.le_of_ble_eq_true rfl)) dJ0_charAt_5068e_1 ⟨Nat.le_of_ble_eq_true rfl, Nat.le_of_ble_eq_true rfl⟩) (fun r2 u3 H locs hq hP hD hS => ?_)
  obtain rfl := hq
  have hP : va_P D vwCl [] H := hP
  have hD : va_D A [] := hD
  refine lv_if_eq (tgt := 16) hx hb dJ0_charAt_5068e_4 (by decide) (fun h9 => absurd h9 (by decide)) (fun _ => ?_)
  refine lv_aload_n hx hb dJ0_charAt_5068e_7 rfl (lv_at hl 0 rfl) ?_
  refine vk_getf hx hb (hZ.1.1 2 (by decide)).2.2.1 hS hown fw1 (fun _ h9 => h9) dJ0_charAt_5068e_8 ?_
  refine lv_iload_n hx hb dJ0_charAt_5068e_11 rfl (lv_at hl 1 rfl) ?_
  have hs4 : kw_Split [] [] [] [] [] := ⟨rfl, rfl, rfl, rfl, rfl, by decide⟩
  refine kw_go_i hs4 hP hD hS hA (va_runS (As := [.ref (aV 2), .int (nI k)]) (rest := []) ⟨hx, hb, hml, hown, hts⟩ (gs_lcharAt2 l D y aK aV k hA1 _) (va_cwS 2 hts gJ0_charAt_5068e_J1_charAt_3b067 rfl rfl rfl (by decide +kernel) ⟨Nat.le_of_ble_eq_true rfl, Nat.le_of_ble_eq_true rfl⟩) (kz_PreS hs4 hP hD hK hN hZ hS hA) rfl rfl hl.1 rfl (lv_room (Nat.le_of_ble_eq_true rfl)) dJ0_charAt_5068e_12 ⟨Nat.le_of_ble_eq_true rfl, Nat.le_of_ble_eq_true rfl⟩) (fun r5 u6 H locs hq hP hD hS => ?_)
  obtain ⟨h7, rfl⟩ := hq
  have hP : va_P D vwCl [] H := hP
  have hD : va_D A [] := hD
  exact W.zret (v := (kz_w 2 k)) hx hb hr h7 (fun tZ ht hW => ⟨⟨(kz_w 2 k), (), rfl, rfl, by rw [ht]; exact hP.sub [] rfl, hD.sub [] (by decide) rfl⟩, hS.F ht⟩) hS.2.2 dJ0_charAt_5068e_15

set_option maxHeartbeats 4000000 in
set_option maxRecDepth 100000 in
theorem gs_lcharAt3 (l : Launch) (D : va_G) (y : Nat → ClassId) (aK : Nat → Nat) (aV : Nat → Nat) (k : Nat) (hA1 : k < 5) : kz_Mi l yJ1_charAt_3b067 wsJ1_charAt_3b067 ({ frames := 3, cells := 0, slots := 0, locals := 103 }) D y [.ref (aV 3), .int (nI k)] [] aK aV (fun (r : Int32) (u : Unit) => kz_ch r ∧ r = (kz_w 3 k)) (fun _ => []) 0 0 := by
  refine kz_Mi.of (cc := cJ1_charAt_3b067) (maxL := 2) (ret := (some .char)) (by decide) rfl ?_
  intro pZ eZ s mZ beZ meZ cZ A hE
  obtain ⟨hx, hb, hr, hml, hts, hown, hlocks, hin, hA, hP, hD, hK, hN, hZ⟩ := hE
  have hS : va_S A s.heap s.heap [] := va_S.rf
  have hl := lv_entry ([.ref (aV 3), .int (nI k)]) (n := 2) (Nat.le_of_ble_eq_true rfl)
  rw [lg_entry_eq]
  generalize (lg_sl ([.ref (aV 3), .int (nI k)]) ++ List.replicate (2 - (lg_sl ([.ref (aV 3), .int (nI k)])).length) Slot.unset).toArray = ls at hl ⊢
  have hl : lv_has ls 2 [(0, .ref (aV 3)), (1, .int (nI k))] := hl
  rcases (show k = 0 ∨ k = 1 ∨ k = 2 ∨ k = 3 ∨ k = 4 by omega) with rfl | rfl | rfl | rfl | rfl
  · skip
    refine lv_iload_n hx hb dJ1_charAt_3b067_0 rfl (lv_at hl 1 rfl) ?_
    refine lv_aload_n hx hb dJ1_charAt_3b067_1 rfl (lv_at hl 0 rfl) ?_
    refine va_tlen hx hb (hZ.1.1 3 (by decide)).2.2.2 hS (v := 5) (by decide) dJ1_charAt_3b067_2 ?_
    have hs1 : kw_Split [] [] [] [] [] := ⟨rfl, rfl, rfl, rfl, rfl, by decide⟩
    refine kw_go_v hs1 hP hD hS hA (va_runS (As := [.int (nI 0), .int 5]) (rest := []) ⟨hx, hb, hml, hown, hts⟩ (gj_checkIndex l D y aK aV 0 5 hA1 (by omega) _) (va_cwS 2 hts gJ1_charAt_3b067_J0_checkIndex_df160 rfl rfl rfl (by decide +kernel) ⟨Nat.le_of_ble_eq_true rfl, Nat.le_of_ble_eq_true rfl⟩) (kz_PreS hs1 hP hD hK hN hZ hS hA) rfl rfl hl.1 rfl (lv_room (Nat.le_of_ble_eq_true rfl)) dJ1_charAt_3b067_3 ⟨Nat.le_of_ble_eq_true rfl, Nat.le_of_ble_eq_true rfl⟩) (fun u3 H locs hq hP hD hS => ?_)
    have hP : va_P D vwCl [] H := hP
    have hD : va_D A [] := hD
    refine lv_aload_n hx hb dJ1_charAt_3b067_6 rfl (lv_at hl 0 rfl) ?_
    refine lv_iload_n hx hb dJ1_charAt_3b067_7 rfl (lv_at hl 1 rfl) ?_
    refine va_tb hx hb (hZ.1.1 3 (by decide)).2.2.2 hS (i := (nI 0)) (by unfold vp_in; decide) (v := .int 103) rfl dJ1_charAt_3b067_8 ?_
    refine lv_sipush (v := 255) hx hb dJ1_charAt_3b067_9 (by decide) ?_
    refine lv_iand hx hb dJ1_charAt_3b067_12 ?_
    refine lv_topi (fun z4 hz4 => ?_)
    obtain rfl : z4 = 103 := hz4.trans (by decide)
    refine lv_i2c (v := 103) hx hb dJ1_charAt_3b067_13 (by decide) ?_
    exact W.zret (v := 103) hx hb hr (by decide) (fun tZ ht hW => ⟨⟨103, (), rfl, ⟨(show narrow .char (.int 103) = .int 103 from by decide), rfl⟩, by rw [ht]; exact hP.sub [] rfl, hD.sub [] (by decide) rfl⟩, hS.F ht⟩) hS.2.2 dJ1_charAt_3b067_14
  · skip
    refine lv_iload_n hx hb dJ1_charAt_3b067_0 rfl (lv_at hl 1 rfl) ?_
    refine lv_aload_n hx hb dJ1_charAt_3b067_1 rfl (lv_at hl 0 rfl) ?_
    refine va_tlen hx hb (hZ.1.1 3 (by decide)).2.2.2 hS (v := 5) (by decide) dJ1_charAt_3b067_2 ?_
    have hs5 : kw_Split [] [] [] [] [] := ⟨rfl, rfl, rfl, rfl, rfl, by decide⟩
    refine kw_go_v hs5 hP hD hS hA (va_runS (As := [.int (nI 1), .int 5]) (rest := []) ⟨hx, hb, hml, hown, hts⟩ (gj_checkIndex l D y aK aV 1 5 hA1 (by omega) _) (va_cwS 2 hts gJ1_charAt_3b067_J0_checkIndex_df160 rfl rfl rfl (by decide +kernel) ⟨Nat.le_of_ble_eq_true rfl, Nat.le_of_ble_eq_true rfl⟩) (kz_PreS hs5 hP hD hK hN hZ hS hA) rfl rfl hl.1 rfl (lv_room (Nat.le_of_ble_eq_true rfl)) dJ1_charAt_3b067_3 ⟨Nat.le_of_ble_eq_true rfl, Nat.le_of_ble_eq_true rfl⟩) (fun u7 H locs hq hP hD hS => ?_)
    have hP : va_P D vwCl [] H := hP
    have hD : va_D A [] := hD
    refine lv_aload_n hx hb dJ1_charAt_3b067_6 rfl (lv_at hl 0 rfl) ?_
    refine lv_iload_n hx hb dJ1_charAt_3b067_7 rfl (lv_at hl 1 rfl) ?_
    refine va_tb hx hb (hZ.1.1 3 (by decide)).2.2.2 hS (i := (nI 1)) (by unfold vp_in; decide) (v := .int 108) rfl dJ1_charAt_3b067_8 ?_
    refine lv_sipush (v := 255) hx hb dJ1_charAt_3b067_9 (by decide) ?_
    refine lv_iand hx hb dJ1_charAt_3b067_12 ?_
    refine lv_topi (fun z8 hz8 => ?_)
    obtain rfl : z8 = 108 := hz8.trans (by decide)
    refine lv_i2c (v := 108) hx hb dJ1_charAt_3b067_13 (by decide) ?_
    exact W.zret (v := 108) hx hb hr (by decide) (fun tZ ht hW => ⟨⟨108, (), rfl, ⟨(show narrow .char (.int 108) = .int 108 from by decide), rfl⟩, by rw [ht]; exact hP.sub [] rfl, hD.sub [] (by decide) rfl⟩, hS.F ht⟩) hS.2.2 dJ1_charAt_3b067_14
  · skip
    refine lv_iload_n hx hb dJ1_charAt_3b067_0 rfl (lv_at hl 1 rfl) ?_
    refine lv_aload_n hx hb dJ1_charAt_3b067_1 rfl (lv_at hl 0 rfl) ?_
    refine va_tlen hx hb (hZ.1.1 3 (by decide)).2.2.2 hS (v := 5) (by decide) dJ1_charAt_3b067_2 ?_
    have hs9 : kw_Split [] [] [] [] [] := ⟨rfl, rfl, rfl, rfl, rfl, by decide⟩
    refine kw_go_v hs9 hP hD hS hA (va_runS (As := [.int (nI 2), .int 5]) (rest := []) ⟨hx, hb, hml, hown, hts⟩ (gj_checkIndex l D y aK aV 2 5 hA1 (by omega) _) (va_cwS 2 hts gJ1_charAt_3b067_J0_checkIndex_df160 rfl rfl rfl (by decide +kernel) ⟨Nat.le_of_ble_eq_true rfl, Nat.le_of_ble_eq_true rfl⟩) (kz_PreS hs9 hP hD hK hN hZ hS hA) rfl rfl hl.1 rfl (lv_room (Nat.le_of_ble_eq_true rfl)) dJ1_charAt_3b067_3 ⟨Nat.le_of_ble_eq_true rfl, Nat.le_of_ble_eq_true rfl⟩) (fun u11 H locs hq hP hD hS => ?_)
    have hP : va_P D vwCl [] H := hP
    have hD : va_D A [] := hD
    refine lv_aload_n hx hb dJ1_charAt_3b067_6 rfl (lv_at hl 0 rfl) ?_
    refine lv_iload_n hx hb dJ1_charAt_3b067_7 rfl (lv_at hl 1 rfl) ?_
    refine va_tb hx hb (hZ.1.1 3 (by decide)).2.2.2 hS (i := (nI 2)) (by unfold vp_in; decide) (v := .int 101) rfl dJ1_charAt_3b067_8 ?_
    refine lv_sipush (v := 255) hx hb dJ1_charAt_3b067_9 (by decide) ?_
    refine lv_iand hx hb dJ1_charAt_3b067_12 ?_
    refine lv_topi (fun z12 hz12 => ?_)
    obtain rfl : z12 = 101 := hz12.trans (by decide)
    refine lv_i2c (v := 101) hx hb dJ1_charAt_3b067_13 (by decide) ?_
    exact W.zret (v := 101) hx hb hr (by decide) (fun tZ ht hW => ⟨⟨101, (), rfl, ⟨(show narrow .char (.int 101) = .int 101 from by decide), rfl⟩, by rw [ht]; exact hP.sub [] rfl, hD.sub [] (by decide) rfl⟩, hS.F ht⟩) hS.2.2 dJ1_charAt_3b067_14
  · skip
    refine lv_iload_n hx hb dJ1_charAt_3b067_0 rfl (lv_at hl 1 rfl) ?_
    refine lv_aload_n hx hb dJ1_charAt_3b067_1 rfl (lv_at hl 0 rfl) ?_
    refine va_tlen hx hb (hZ.1.1 3 (by decide)).2.2.2 hS (v := 5) (by decide) dJ1_charAt_3b067_2 ?_
    have hs13 : kw_Split [] [] [] [] [] := ⟨rfl, rfl, rfl, rfl, rfl, by decide⟩
    refine kw_go_v hs13 hP hD hS hA (va_runS (As := [.int (nI 3), .int 5]) (rest := []) ⟨hx, hb, hml, hown, hts⟩ (gj_checkIndex l D y aK aV 3 5 hA1 (by omega) _) (va_cwS 2 hts gJ1_charAt_3b067_J0_checkIndex_df160 rfl rfl rfl (by decide +kernel) ⟨Nat.le_of_ble_eq_true rfl, Nat.le_of_ble_eq_true rfl⟩) (kz_PreS hs13 hP hD hK hN hZ hS hA) rfl rfl hl.1 rfl (lv_room (Nat.le_of_ble_eq_true rfl)) dJ1_charAt_3b067_3 ⟨Nat.le_of_ble_eq_true rfl, Nat.le_of_ble_eq_true rfl⟩) (fun u15 H locs hq hP hD hS => ?_)
    have hP : va_P D vwCl [] H := hP
    have hD : va_D A [] := hD
    refine lv_aload_n hx hb dJ1_charAt_3b067_6 rfl (lv_at hl 0 rfl) ?_
    refine lv_iload_n hx hb dJ1_charAt_3b067_7 rfl (lv_at hl 1 rfl) ?_
    refine va_tb hx hb (hZ.1.1 3 (by decide)).2.2.2 hS (i := (nI 3)) (by unfold vp_in; decide) (v := .int 97) rfl dJ1_charAt_3b067_8 ?_
    refine lv_sipush (v := 255) hx hb dJ1_charAt_3b067_9 (by decide) ?_
    refine lv_iand hx hb dJ1_charAt_3b067_12 ?_
    refine lv_topi (fun z16 hz16 => ?_)
    obtain rfl : z16 = 97 := hz16.trans (by decide)
    refine lv_i2c (v := 97) hx hb dJ1_charAt_3b067_13 (by decide) ?_
    exact W.zret (v := 97) hx hb hr (by decide) (fun tZ ht hW => ⟨⟨97, (), rfl, ⟨(show narrow .char (.int 97) = .int 97 from by decide), rfl⟩, by rw [ht]; exact hP.sub [] rfl, hD.sub [] (by decide) rfl⟩, hS.F ht⟩) hS.2.2 dJ1_charAt_3b067_14
  · skip
    refine lv_iload_n hx hb dJ1_charAt_3b067_0 rfl (lv_at hl 1 rfl) ?_
    refine lv_aload_n hx hb dJ1_charAt_3b067_1 rfl (lv_at hl 0 rfl) ?_
    refine va_tlen hx hb (hZ.1.1 3 (by decide)).2.2.2 hS (v := 5) (by decide) dJ1_charAt_3b067_2 ?_
    have hs17 : kw_Split [] [] [] [] [] := ⟨rfl, rfl, rfl, rfl, rfl, by decide⟩
    refine kw_go_v hs17 hP hD hS hA (va_runS (As := [.int (nI 4), .int 5]) (rest := []) ⟨hx, hb, hml, hown, hts⟩ (gj_checkIndex l D y aK aV 4 5 hA1 (by omega) _) (va_cwS 2 hts gJ1_charAt_3b067_J0_checkIndex_df160 rfl rfl rfl (by decide +kernel) ⟨Nat.le_of_ble_eq_true rfl, Nat.le_of_ble_eq_true rfl⟩) (kz_PreS hs17 hP hD hK hN hZ hS hA) rfl rfl hl.1 rfl (lv_room (Nat.le_of_ble_eq_true rfl)) dJ1_charAt_3b067_3 ⟨Nat.le_of_ble_eq_true rfl, Nat.le_of_ble_eq_true rfl⟩) (fun u19 H locs hq hP hD hS => ?_)
    have hP : va_P D vwCl [] H := hP
    have hD : va_D A [] := hD
    refine lv_aload_n hx hb dJ1_charAt_3b067_6 rfl (lv_at hl 0 rfl) ?_
    refine lv_iload_n hx hb dJ1_charAt_3b067_7 rfl (lv_at hl 1 rfl) ?_
    refine va_tb hx hb (hZ.1.1 3 (by decide)).2.2.2 hS (i := (nI 4)) (by unfold vp_in; decide) (v := .int 110) rfl dJ1_charAt_3b067_8 ?_
    refine lv_sipush (v := 255) hx hb dJ1_charAt_3b067_9 (by decide) ?_
    refine lv_iand hx hb dJ1_charAt_3b067_12 ?_
    refine lv_topi (fun z20 hz20 => ?_)
    obtain rfl : z20 = 110 := hz20.trans (by decide)
    refine lv_i2c (v := 110) hx hb dJ1_charAt_3b067_13 (by decide) ?_
    exact W.zret (v := 110) hx hb hr (by decide) (fun tZ ht hW => ⟨⟨110, (), rfl, ⟨(show narrow .char (.int 110) = .int 110 from by decide), rfl⟩, by rw [ht]; exact hP.sub [] rfl, hD.sub [] (by decide) rfl⟩, hS.F ht⟩) hS.2.2 dJ1_charAt_3b067_14

set_option maxHeartbeats 4000000 in
set_option maxRecDepth 100000 in
theorem gs_charAt3 (l : Launch) (D : va_G) (y : Nat → ClassId) (aK : Nat → Nat) (aV : Nat → Nat) (k : Nat) (hA1 : k < 5) : kz_Mi l yJ0_charAt_5068e wsJ0_charAt_5068e ({ frames := 4, cells := 0, slots := 0, locals := 124 }) D y [.ref (aK 3), .int (nI k)] [] aK aV (fun (r : Int32) (u : Unit) => r = (kz_w 3 k)) (fun _ => []) 0 0 := by
  refine kz_Mi.of (cc := cJ0_charAt_5068e) (maxL := 2) (ret := (some .char)) (by decide) rfl ?_
  intro pZ eZ s mZ beZ meZ cZ A hE
  obtain ⟨hx, hb, hr, hml, hts, hown, hlocks, hin, hA, hP, hD, hK, hN, hZ⟩ := hE
  have hS : va_S A s.heap s.heap [] := va_S.rf
  have hl := lv_entry ([.ref (aK 3), .int (nI k)]) (n := 2) (Nat.le_of_ble_eq_true rfl)
  rw [lg_entry_eq]
  generalize (lg_sl ([.ref (aK 3), .int (nI k)]) ++ List.replicate (2 - (lg_sl ([.ref (aK 3), .int (nI k)])).length) Slot.unset).toArray = ls at hl ⊢
  have hl : lv_has ls 2 [(0, .ref (aK 3)), (1, .int (nI k))] := hl
  have fw1 := hts (.fieldLink RJ0 9 "java/lang/String" "value" "[B") (List.mem_of_getElem? (i := 1) rfl)
  refine lv_aload_n hx hb dJ0_charAt_5068e_0 rfl (lv_at hl 0 rfl) ?_
  have hs1 : kw_Split [] [] [] [] [] := ⟨rfl, rfl, rfl, rfl, rfl, by decide⟩
  refine kw_go_i hs1 hP hD hS hA (va_runV (As := []) (rest := []) ⟨hx, hb, hml, hown, hts⟩ (gj_isLatin13 l D y aK aV  _) (cwV 0 hts gJ0_charAt_5068e_J0_isLatin1_aae02 rfl rfl rfl (by decide +kernel) ⟨Nat.le_of_ble_eq_true rfl, Nat.le_of_ble_eq_true rfl⟩) (kz_PreK (i := 3) hs1 hP hD hK hN (by decide) hZ hS hA) rfl rfl hl.1 rfl (lv_room (Nat.le_of_ble_eq_true rfl)) dJ0_charAt_5068e_1 ⟨Nat.le_of_ble_eq_true rfl, Nat.le_of_ble_eq_true rfl⟩) (fun r2 u3 H locs hq hP hD hS => ?_)
  obtain rfl := hq
  have hP : va_P D vwCl [] H := hP
  have hD : va_D A [] := hD
  refine lv_if_eq (tgt := 16) hx hb dJ0_charAt_5068e_4 (by decide) (fun h9 => absurd h9 (by decide)) (fun _ => ?_)
  refine lv_aload_n hx hb dJ0_charAt_5068e_7 rfl (lv_at hl 0 rfl) ?_
  refine vk_getf hx hb (hZ.1.1 3 (by decide)).2.2.1 hS hown fw1 (fun _ h9 => h9) dJ0_charAt_5068e_8 ?_
  refine lv_iload_n hx hb dJ0_charAt_5068e_11 rfl (lv_at hl 1 rfl) ?_
  have hs4 : kw_Split [] [] [] [] [] := ⟨rfl, rfl, rfl, rfl, rfl, by decide⟩
  refine kw_go_i hs4 hP hD hS hA (va_runS (As := [.ref (aV 3), .int (nI k)]) (rest := []) ⟨hx, hb, hml, hown, hts⟩ (gs_lcharAt3 l D y aK aV k hA1 _) (va_cwS 2 hts gJ0_charAt_5068e_J1_charAt_3b067 rfl rfl rfl (by decide +kernel) ⟨Nat.le_of_ble_eq_true rfl, Nat.le_of_ble_eq_true rfl⟩) (kz_PreS hs4 hP hD hK hN hZ hS hA) rfl rfl hl.1 rfl (lv_room (Nat.le_of_ble_eq_true rfl)) dJ0_charAt_5068e_12 ⟨Nat.le_of_ble_eq_true rfl, Nat.le_of_ble_eq_true rfl⟩) (fun r5 u6 H locs hq hP hD hS => ?_)
  obtain ⟨h7, rfl⟩ := hq
  have hP : va_P D vwCl [] H := hP
  have hD : va_D A [] := hD
  exact W.zret (v := (kz_w 3 k)) hx hb hr h7 (fun tZ ht hW => ⟨⟨(kz_w 3 k), (), rfl, rfl, by rw [ht]; exact hP.sub [] rfl, hD.sub [] (by decide) rfl⟩, hS.F ht⟩) hS.2.2 dJ0_charAt_5068e_15

set_option maxHeartbeats 4000000 in
set_option maxRecDepth 100000 in
theorem gs_isWord0 (l : Launch) (D : va_G) (y : Nat → ClassId) (aK : Nat → Nat) (aV : Nat → Nat) (tx : Nat) (bys : Nat) (wo : Nat) (fs : Nat) (sc : Nat) (ln : Nat) (sta : Nat) (en : Nat) (tok : Int32) (num : Int32) (tfi : Int32) (tgl : Int32) (tst : Int32) (fby : Nat → Int32) (hln : ln ≤ 150) (hen : en ≤ ln) (hse : sta ≤ en) : kz_Mi l yX7_isWord wsX7_isWord ({ frames := 5, cells := 0, slots := 0, locals := 145 }) D y [.ref tx, .ref (aK 0)] [(tx, .inr (7, [.ref bys, .int (nI ln), .int tok, .int (nI sta), .int (nI en), .int num, .ref wo, .ref fs, .ref sc, .int tfi, .int tgl, .int tst])), (bys, .inl (y 1, 150, .inl fby))] aK aV (fun (r : Int32) (u : Unit) => (ks_e0 fby sta en = true ∧ r = 1) ∨ (¬ ks_e0 fby sta en = true ∧ r = 0)) (fun _ => [(tx, .inr (7, [.ref bys, .int (nI ln), .int tok, .int (nI sta), .int (nI en), .int num, .ref wo, .ref fs, .ref sc, .int tfi, .int tgl, .int tst])), (bys, .inl (y 1, 150, .inl fby))]) 0 0 := by
  refine kz_Mi.of (cc := cX7_isWord) (maxL := 3) (ret := (some .boolean)) (by decide) rfl ?_
  intro pZ eZ s mZ beZ meZ cZ A hE
  obtain ⟨hx, hb, hr, hml, hts, hown, hlocks, hin, hA, hP, hD, hK, hN, hZ⟩ := hE
  have hS : va_S A s.heap s.heap [] := va_S.rf
  have hl := lv_entry ([.ref tx, .ref (aK 0)]) (n := 3) (Nat.le_of_ble_eq_true rfl)
  rw [lg_entry_eq]
  generalize (lg_sl ([.ref tx, .ref (aK 0)]) ++ List.replicate (3 - (lg_sl ([.ref tx, .ref (aK 0)])).length) Slot.unset).toArray = ls at hl ⊢
  have hl : lv_has ls 3 [(0, .ref tx), (1, .ref (aK 0))] := hl
  have fw1 := hts (.fieldLink RX7 29 "GleanDusk$Text" "end" "I") (List.mem_of_getElem? (i := 1) rfl)
  have fw2 := hts (.fieldLink RX7 51 "GleanDusk$Text" "start" "I") (List.mem_of_getElem? (i := 2) rfl)
  have fw3 := hts (.fieldLink RX7 9 "GleanDusk$Text" "bytes" "[B") (List.mem_of_getElem? (i := 3) rfl)
  have iw7 : ∀ w ∈ wsX70, w ∈ wsX7_isWord := fun _ h => List.mem_cons_of_mem _ (List.mem_append_right _ h)
  refine lv_aload_n hx hb dX7_isWord_0 rfl (lv_at hl 0 rfl) ?_
  refine va_get (D := D) (ci := 7) (v := .int (nI en)) (C := RX7) (T := TX7) (N := 12) hx hb hts iw7 hown hK hP 0 rfl rfl 4 (by decide) fw1 (fun _ h9 => h9) rfl dX7_isWord_1 ?_
  refine lv_aload_n hx hb dX7_isWord_4 rfl (lv_at hl 0 rfl) ?_
  refine va_get (D := D) (ci := 7) (v := .int (nI sta)) (C := RX7) (T := TX7) (N := 12) hx hb hts iw7 hown hK hP 0 rfl rfl 3 (by decide) fw2 (fun _ h9 => h9) rfl dX7_isWord_5 ?_
  refine lv_isub hx hb dX7_isWord_8 ?_
  rw [show (nI en) - (nI sta) = nI (en - sta) from pk_sub (a := en) (b := sta) (by omega)]
  refine lv_aload_n hx hb dX7_isWord_9 rfl (lv_at hl 1 rfl) ?_
  have hs1 : kw_Split [(tx, .inr (7, [.ref bys, .int (nI ln), .int tok, .int (nI sta), .int (nI en), .int num, .ref wo, .ref fs, .ref sc, .int tfi, .int tgl, .int tst])), (bys, .inl (y 1, 150, .inl fby))] [] [(tx, .inr (7, [.ref bys, .int (nI ln), .int tok, .int (nI sta), .int (nI en), .int num, .ref wo, .ref fs, .ref sc, .int tfi, .int tgl, .int tst])), (bys, .inl (y 1, 150, .inl fby))] [] [0, 1] := ⟨rfl, rfl, rfl, rfl, rfl, by decide⟩
  refine kw_go_i hs1 hP hD hS hA (va_runV (As := []) (rest := [.int (nI (en - sta))]) ⟨hx, hb, hml, hown, hts⟩ (gj_length0 l D y aK aV  _) (cwV 0 hts gX7_isWord_J0_length_8abf5 rfl rfl rfl (by decide +kernel) ⟨Nat.le_of_ble_eq_true rfl, Nat.le_of_ble_eq_true rfl⟩) (kz_PreK (i := 0) hs1 hP hD hK hN (by decide) hZ hS hA) rfl rfl hl.1 rfl (lv_room (Nat.le_of_ble_eq_true rfl)) dX7_isWord_10 ⟨Nat.le_of_ble_eq_true rfl, Nat.le_of_ble_eq_true rfl⟩) (fun r2 u3 H locs hq hP hD hS => ?_)
  obtain rfl := hq
  have hP : va_P D vwCl [(tx, .inr (7, [.ref bys, .int (nI ln), .int tok, .int (nI sta), .int (nI en), .int num, .ref wo, .ref fs, .ref sc, .int tfi, .int tgl, .int tst])), (bys, .inl (y 1, 150, .inl fby))] H := hP
  have hD : va_D A [(tx, .inr (7, [.ref bys, .int (nI ln), .int tok, .int (nI sta), .int (nI en), .int num, .ref wo, .ref fs, .ref sc, .int tfi, .int tgl, .int tst])), (bys, .inl (y 1, 150, .inl fby))] := hD
  refine lv_icmp_eq (tgt := 18) hx hb dX7_isWord_13 (by decide) (fun h4 => ?_) (fun h5 => ?_)
  · skip
    have h4 : (en - sta) = 6 := (nI_eq (a := (en - sta)) (b := 6) (by omega) (by omega)).mp h4
    refine lv_iconst (v := 0) hx hb dX7_isWord_18 (by decide) ?_
    refine lv_istore_n (lv' := [(2, .int 0), (0, .ref tx), (1, .ref (aK 0))]) hx hb dX7_isWord_19 rfl hl (by decide) rfl (fun ls hl => ?_)
    refine lv_iload_n hx hb dX7_isWord_20 rfl (lv_at hl 0 rfl) ?_
    refine lv_aload_n hx hb dX7_isWord_21 rfl (lv_at hl 2 rfl) ?_
    have hs6 : kw_Split [(tx, .inr (7, [.ref bys, .int (nI ln), .int tok, .int (nI sta), .int (nI en), .int num, .ref wo, .ref fs, .ref sc, .int tfi, .int tgl, .int tst])), (bys, .inl (y 1, 150, .inl fby))] [] [(tx, .inr (7, [.ref bys, .int (nI ln), .int tok, .int (nI sta), .int (nI en), .int num, .ref wo, .ref fs, .ref sc, .int tfi, .int tgl, .int tst])), (bys, .inl (y 1, 150, .inl fby))] [] [0, 1] := ⟨rfl, rfl, rfl, rfl, rfl, by decide⟩
    refine kw_go_i hs6 hP hD hS hA (va_runV (As := []) (rest := [.int 0]) ⟨hx, hb, hml, hown, hts⟩ (gj_length0 l D y aK aV  _) (cwV 0 hts gX7_isWord_J0_length_8abf5 rfl rfl rfl (by decide +kernel) ⟨Nat.le_of_ble_eq_true rfl, Nat.le_of_ble_eq_true rfl⟩) (kz_PreK (i := 0) hs6 hP hD hK hN (by decide) hZ hS hA) rfl rfl hl.1 rfl (lv_room (Nat.le_of_ble_eq_true rfl)) dX7_isWord_22 ⟨Nat.le_of_ble_eq_true rfl, Nat.le_of_ble_eq_true rfl⟩) (fun r7 u8 H locs hq hP hD hS => ?_)
    obtain rfl := hq
    have hP : va_P D vwCl [(tx, .inr (7, [.ref bys, .int (nI ln), .int tok, .int (nI sta), .int (nI en), .int num, .ref wo, .ref fs, .ref sc, .int tfi, .int tgl, .int tst])), (bys, .inl (y 1, 150, .inl fby))] H := hP
    have hD : va_D A [(tx, .inr (7, [.ref bys, .int (nI ln), .int tok, .int (nI sta), .int (nI en), .int num, .ref wo, .ref fs, .ref sc, .int tfi, .int tgl, .int tst])), (bys, .inl (y 1, 150, .inl fby))] := hD
    refine lv_icmp_ge (tgt := 55) hx hb dX7_isWord_25 (by decide) (fun h9 => absurd h9 (by decide)) (fun _ => ?_)
    refine lv_aload_n hx hb dX7_isWord_28 rfl (lv_at hl 1 rfl) ?_
    refine va_get (D := D) (ci := 7) (v := .ref bys) (C := RX7) (T := TX7) (N := 12) hx hb hts iw7 hown hK hP 0 rfl rfl 0 (by decide) fw3 (fun _ h9 => h9) rfl dX7_isWord_29 ?_
    refine lv_aload_n hx hb dX7_isWord_32 rfl (lv_at hl 1 rfl) ?_
    refine va_get (D := D) (ci := 7) (v := .int (nI sta)) (C := RX7) (T := TX7) (N := 12) hx hb hts iw7 hown hK hP 0 rfl rfl 3 (by decide) fw2 (fun _ h9 => h9) rfl dX7_isWord_33 ?_
    refine lv_iload_n hx hb dX7_isWord_36 rfl (lv_at hl 0 rfl) ?_
    refine lv_iadd hx hb dX7_isWord_37 ?_
    rw [show (nI sta) + 0 = nI (sta) from nI_add sta 0]
    refine va_bald hx hb hK hP 1 1 rfl rfl (vp_in_nI (by omega) (by decide)) dX7_isWord_38 ?_
    rw [nI_clamp (n := sta) (by omega)]
    refine lv_aload_n hx hb dX7_isWord_39 rfl (lv_at hl 2 rfl) ?_
    refine lv_iload_n hx hb dX7_isWord_40 rfl (lv_at hl 0 rfl) ?_
    have hs9 : kw_Split [(tx, .inr (7, [.ref bys, .int (nI ln), .int tok, .int (nI sta), .int (nI en), .int num, .ref wo, .ref fs, .ref sc, .int tfi, .int tgl, .int tst])), (bys, .inl (y 1, 150, .inl fby))] [] [(tx, .inr (7, [.ref bys, .int (nI ln), .int tok, .int (nI sta), .int (nI en), .int num, .ref wo, .ref fs, .ref sc, .int tfi, .int tgl, .int tst])), (bys, .inl (y 1, 150, .inl fby))] [] [0, 1] := ⟨rfl, rfl, rfl, rfl, rfl, by decide⟩
    refine kw_go_i hs9 hP hD hS hA (va_runV (As := [.int 0]) (rest := [.int (fby sta)]) ⟨hx, hb, hml, hown, hts⟩ (gs_charAt0 l D y aK aV 0 (by omega) _) (cwV 1 hts gX7_isWord_J0_charAt_5068e rfl rfl rfl (by decide +kernel) ⟨Nat.le_of_ble_eq_true rfl, Nat.le_of_ble_eq_true rfl⟩) (kz_PreK (i := 0) hs9 hP hD hK hN (by decide) hZ hS hA) rfl rfl hl.1 rfl (lv_room (Nat.le_of_ble_eq_true rfl)) dX7_isWord_41 ⟨Nat.le_of_ble_eq_true rfl, Nat.le_of_ble_eq_true rfl⟩) (fun r10 u11 H locs hq hP hD hS => ?_)
    obtain rfl := hq
    rw [show kz_w 0 0 = 112 from rfl]
    have hP : va_P D vwCl [(tx, .inr (7, [.ref bys, .int (nI ln), .int tok, .int (nI sta), .int (nI en), .int num, .ref wo, .ref fs, .ref sc, .int tfi, .int tgl, .int tst])), (bys, .inl (y 1, 150, .inl fby))] H := hP
    have hD : va_D A [(tx, .inr (7, [.ref bys, .int (nI ln), .int tok, .int (nI sta), .int (nI en), .int num, .ref wo, .ref fs, .ref sc, .int tfi, .int tgl, .int tst])), (bys, .inl (y 1, 150, .inl fby))] := hD
    refine lv_icmp_eq (tgt := 49) hx hb dX7_isWord_44 (by decide) (fun h12 => ?_) (fun h13 => ?_)
    · skip
      refine lv_iinc (v := 1) (lv' := [(2, .int 1), (0, .ref tx), (1, .ref (aK 0))]) hx hb dX7_isWord_49 hl (k := 0) rfl (by decide) (by decide) rfl (fun ls hl => ?_)
      refine lv_goto (tgt := 20) hx hb dX7_isWord_52 (by decide) ?_
      refine lv_iload_n hx hb dX7_isWord_20 rfl (lv_at hl 0 rfl) ?_
      refine lv_aload_n hx hb dX7_isWord_21 rfl (lv_at hl 2 rfl) ?_
      have hs14 : kw_Split [(tx, .inr (7, [.ref bys, .int (nI ln), .int tok, .int (nI sta), .int (nI en), .int num, .ref wo, .ref fs, .ref sc, .int tfi, .int tgl, .int tst])), (bys, .inl (y 1, 150, .inl fby))] [] [(tx, .inr (7, [.ref bys, .int (nI ln), .int tok, .int (nI sta), .int (nI en), .int num, .ref wo, .ref fs, .ref sc, .int tfi, .int tgl, .int tst])), (bys, .inl (y 1, 150, .inl fby))] [] [0, 1] := ⟨rfl, rfl, rfl, rfl, rfl, by decide⟩
      refine kw_go_i hs14 hP hD hS hA (va_runV (As := []) (rest := [.int 1]) ⟨hx, hb, hml, hown, hts⟩ (gj_length0 l D y aK aV  _) (cwV 0 hts gX7_isWord_J0_length_8abf5 rfl rfl rfl (by decide +kernel) ⟨Nat.le_of_ble_eq_true rfl, Nat.le_of_ble_eq_true rfl⟩) (kz_PreK (i := 0) hs14 hP hD hK hN (by decide) hZ hS hA) rfl rfl hl.1 rfl (lv_room (Nat.le_of_ble_eq_true rfl)) dX7_isWord_22 ⟨Nat.le_of_ble_eq_true rfl, Nat.le_of_ble_eq_true rfl⟩) (fun r15 u16 H locs hq hP hD hS => ?_)
      obtain rfl := hq
      have hP : va_P D vwCl [(tx, .inr (7, [.ref bys, .int (nI ln), .int tok, .int (nI sta), .int (nI en), .int num, .ref wo, .ref fs, .ref sc, .int tfi, .int tgl, .int tst])), (bys, .inl (y 1, 150, .inl fby))] H := hP
      have hD : va_D A [(tx, .inr (7, [.ref bys, .int (nI ln), .int tok, .int (nI sta), .int (nI en), .int num, .ref wo, .ref fs, .ref sc, .int tfi, .int tgl, .int tst])), (bys, .inl (y 1, 150, .inl fby))] := hD
      refine lv_icmp_ge (tgt := 55) hx hb dX7_isWord_25 (by decide) (fun h9 => absurd h9 (by decide)) (fun _ => ?_)
      refine lv_aload_n hx hb dX7_isWord_28 rfl (lv_at hl 1 rfl) ?_
      refine va_get (D := D) (ci := 7) (v := .ref bys) (C := RX7) (T := TX7) (N := 12) hx hb hts iw7 hown hK hP 0 rfl rfl 0 (by decide) fw3 (fun _ h9 => h9) rfl dX7_isWord_29 ?_
      refine lv_aload_n hx hb dX7_isWord_32 rfl (lv_at hl 1 rfl) ?_
      refine va_get (D := D) (ci := 7) (v := .int (nI sta)) (C := RX7) (T := TX7) (N := 12) hx hb hts iw7 hown hK hP 0 rfl rfl 3 (by decide) fw2 (fun _ h9 => h9) rfl dX7_isWord_33 ?_
      refine lv_iload_n hx hb dX7_isWord_36 rfl (lv_at hl 0 rfl) ?_
      refine lv_iadd hx hb dX7_isWord_37 ?_
      rw [show (nI sta) + 1 = nI (sta + 1) from nI_add sta 1]
      refine va_bald hx hb hK hP 1 1 rfl rfl (vp_in_nI (by omega) (by decide)) dX7_isWord_38 ?_
      rw [nI_clamp (n := (sta + 1)) (by omega)]
      refine lv_aload_n hx hb dX7_isWord_39 rfl (lv_at hl 2 rfl) ?_
      refine lv_iload_n hx hb dX7_isWord_40 rfl (lv_at hl 0 rfl) ?_
      have hs17 : kw_Split [(tx, .inr (7, [.ref bys, .int (nI ln), .int tok, .int (nI sta), .int (nI en), .int num, .ref wo, .ref fs, .ref sc, .int tfi, .int tgl, .int tst])), (bys, .inl (y 1, 150, .inl fby))] [] [(tx, .inr (7, [.ref bys, .int (nI ln), .int tok, .int (nI sta), .int (nI en), .int num, .ref wo, .ref fs, .ref sc, .int tfi, .int tgl, .int tst])), (bys, .inl (y 1, 150, .inl fby))] [] [0, 1] := ⟨rfl, rfl, rfl, rfl, rfl, by decide⟩
      refine kw_go_i hs17 hP hD hS hA (va_runV (As := [.int 1]) (rest := [.int (fby (sta + 1))]) ⟨hx, hb, hml, hown, hts⟩ (gs_charAt0 l D y aK aV 1 (by omega) _) (cwV 1 hts gX7_isWord_J0_charAt_5068e rfl rfl rfl (by decide +kernel) ⟨Nat.le_of_ble_eq_true rfl, Nat.le_of_ble_eq_true rfl⟩) (kz_PreK (i := 0) hs17 hP hD hK hN (by decide) hZ hS hA) rfl rfl hl.1 rfl (lv_room (Nat.le_of_ble_eq_true rfl)) dX7_isWord_41 ⟨Nat.le_of_ble_eq_true rfl, Nat.le_of_ble_eq_true rfl⟩) (fun r18 u19 H locs hq hP hD hS => ?_)
      obtain rfl := hq
      rw [show kz_w 0 1 = 97 from rfl]
      have hP : va_P D vwCl [(tx, .inr (7, [.ref bys, .int (nI ln), .int tok, .int (nI sta), .int (nI en), .int num, .ref wo, .ref fs, .ref sc, .int tfi, .int tgl, .int tst])), (bys, .inl (y 1, 150, .inl fby))] H := hP
      have hD : va_D A [(tx, .inr (7, [.ref bys, .int (nI ln), .int tok, .int (nI sta), .int (nI en), .int num, .ref wo, .ref fs, .ref sc, .int tfi, .int tgl, .int tst])), (bys, .inl (y 1, 150, .inl fby))] := hD
      refine lv_icmp_eq (tgt := 49) hx hb dX7_isWord_44 (by decide) (fun h20 => ?_) (fun h21 => ?_)
      · skip
        refine lv_iinc (v := 2) (lv' := [(2, .int 2), (0, .ref tx), (1, .ref (aK 0))]) hx hb dX7_isWord_49 hl (k := 0) rfl (by decide) (by decide) rfl (fun ls hl => ?_)
        refine lv_goto (tgt := 20) hx hb dX7_isWord_52 (by decide) ?_
        refine lv_iload_n hx hb dX7_isWord_20 rfl (lv_at hl 0 rfl) ?_
        refine lv_aload_n hx hb dX7_isWord_21 rfl (lv_at hl 2 rfl) ?_
        have hs22 : kw_Split [(tx, .inr (7, [.ref bys, .int (nI ln), .int tok, .int (nI sta), .int (nI en), .int num, .ref wo, .ref fs, .ref sc, .int tfi, .int tgl, .int tst])), (bys, .inl (y 1, 150, .inl fby))] [] [(tx, .inr (7, [.ref bys, .int (nI ln), .int tok, .int (nI sta), .int (nI en), .int num, .ref wo, .ref fs, .ref sc, .int tfi, .int tgl, .int tst])), (bys, .inl (y 1, 150, .inl fby))] [] [0, 1] := ⟨rfl, rfl, rfl, rfl, rfl, by decide⟩
        refine kw_go_i hs22 hP hD hS hA (va_runV (As := []) (rest := [.int 2]) ⟨hx, hb, hml, hown, hts⟩ (gj_length0 l D y aK aV  _) (cwV 0 hts gX7_isWord_J0_length_8abf5 rfl rfl rfl (by decide +kernel) ⟨Nat.le_of_ble_eq_true rfl, Nat.le_of_ble_eq_true rfl⟩) (kz_PreK (i := 0) hs22 hP hD hK hN (by decide) hZ hS hA) rfl rfl hl.1 rfl (lv_room (Nat.le_of_ble_eq_true rfl)) dX7_isWord_22 ⟨Nat.le_of_ble_eq_true rfl, Nat.le_of_ble_eq_true rfl⟩) (fun r23 u24 H locs hq hP hD hS => ?_)
        obtain rfl := hq
        have hP : va_P D vwCl [(tx, .inr (7, [.ref bys, .int (nI ln), .int tok, .int (nI sta), .int (nI en), .int num, .ref wo, .ref fs, .ref sc, .int tfi, .int tgl, .int tst])), (bys, .inl (y 1, 150, .inl fby))] H := hP
        have hD : va_D A [(tx, .inr (7, [.ref bys, .int (nI ln), .int tok, .int (nI sta), .int (nI en), .int num, .ref wo, .ref fs, .ref sc, .int tfi, .int tgl, .int tst])), (bys, .inl (y 1, 150, .inl fby))] := hD
        refine lv_icmp_ge (tgt := 55) hx hb dX7_isWord_25 (by decide) (fun h9 => absurd h9 (by decide)) (fun _ => ?_)
        refine lv_aload_n hx hb dX7_isWord_28 rfl (lv_at hl 1 rfl) ?_
        refine va_get (D := D) (ci := 7) (v := .ref bys) (C := RX7) (T := TX7) (N := 12) hx hb hts iw7 hown hK hP 0 rfl rfl 0 (by decide) fw3 (fun _ h9 => h9) rfl dX7_isWord_29 ?_
        refine lv_aload_n hx hb dX7_isWord_32 rfl (lv_at hl 1 rfl) ?_
        refine va_get (D := D) (ci := 7) (v := .int (nI sta)) (C := RX7) (T := TX7) (N := 12) hx hb hts iw7 hown hK hP 0 rfl rfl 3 (by decide) fw2 (fun _ h9 => h9) rfl dX7_isWord_33 ?_
        refine lv_iload_n hx hb dX7_isWord_36 rfl (lv_at hl 0 rfl) ?_
        refine lv_iadd hx hb dX7_isWord_37 ?_
        rw [show (nI sta) + 2 = nI (sta + 2) from nI_add sta 2]
        refine va_bald hx hb hK hP 1 1 rfl rfl (vp_in_nI (by omega) (by decide)) dX7_isWord_38 ?_
        rw [nI_clamp (n := (sta + 2)) (by omega)]
        refine lv_aload_n hx hb dX7_isWord_39 rfl (lv_at hl 2 rfl) ?_
        refine lv_iload_n hx hb dX7_isWord_40 rfl (lv_at hl 0 rfl) ?_
        have hs25 : kw_Split [(tx, .inr (7, [.ref bys, .int (nI ln), .int tok, .int (nI sta), .int (nI en), .int num, .ref wo, .ref fs, .ref sc, .int tfi, .int tgl, .int tst])), (bys, .inl (y 1, 150, .inl fby))] [] [(tx, .inr (7, [.ref bys, .int (nI ln), .int tok, .int (nI sta), .int (nI en), .int num, .ref wo, .ref fs, .ref sc, .int tfi, .int tgl, .int tst])), (bys, .inl (y 1, 150, .inl fby))] [] [0, 1] := ⟨rfl, rfl, rfl, rfl, rfl, by decide⟩
        refine kw_go_i hs25 hP hD hS hA (va_runV (As := [.int 2]) (rest := [.int (fby (sta + 2))]) ⟨hx, hb, hml, hown, hts⟩ (gs_charAt0 l D y aK aV 2 (by omega) _) (cwV 1 hts gX7_isWord_J0_charAt_5068e rfl rfl rfl (by decide +kernel) ⟨Nat.le_of_ble_eq_true rfl, Nat.le_of_ble_eq_true rfl⟩) (kz_PreK (i := 0) hs25 hP hD hK hN (by decide) hZ hS hA) rfl rfl hl.1 rfl (lv_room (Nat.le_of_ble_eq_true rfl)) dX7_isWord_41 ⟨Nat.le_of_ble_eq_true rfl, Nat.le_of_ble_eq_true rfl⟩) (fun r26 u27 H locs hq hP hD hS => ?_)
        obtain rfl := hq
        rw [show kz_w 0 2 = 114 from rfl]
        have hP : va_P D vwCl [(tx, .inr (7, [.ref bys, .int (nI ln), .int tok, .int (nI sta), .int (nI en), .int num, .ref wo, .ref fs, .ref sc, .int tfi, .int tgl, .int tst])), (bys, .inl (y 1, 150, .inl fby))] H := hP
        have hD : va_D A [(tx, .inr (7, [.ref bys, .int (nI ln), .int tok, .int (nI sta), .int (nI en), .int num, .ref wo, .ref fs, .ref sc, .int tfi, .int tgl, .int tst])), (bys, .inl (y 1, 150, .inl fby))] := hD
        refine lv_icmp_eq (tgt := 49) hx hb dX7_isWord_44 (by decide) (fun h28 => ?_) (fun h29 => ?_)
        · skip
          refine lv_iinc (v := 3) (lv' := [(2, .int 3), (0, .ref tx), (1, .ref (aK 0))]) hx hb dX7_isWord_49 hl (k := 0) rfl (by decide) (by decide) rfl (fun ls hl => ?_)
          refine lv_goto (tgt := 20) hx hb dX7_isWord_52 (by decide) ?_
          refine lv_iload_n hx hb dX7_isWord_20 rfl (lv_at hl 0 rfl) ?_
          refine lv_aload_n hx hb dX7_isWord_21 rfl (lv_at hl 2 rfl) ?_
          have hs30 : kw_Split [(tx, .inr (7, [.ref bys, .int (nI ln), .int tok, .int (nI sta), .int (nI en), .int num, .ref wo, .ref fs, .ref sc, .int tfi, .int tgl, .int tst])), (bys, .inl (y 1, 150, .inl fby))] [] [(tx, .inr (7, [.ref bys, .int (nI ln), .int tok, .int (nI sta), .int (nI en), .int num, .ref wo, .ref fs, .ref sc, .int tfi, .int tgl, .int tst])), (bys, .inl (y 1, 150, .inl fby))] [] [0, 1] := ⟨rfl, rfl, rfl, rfl, rfl, by decide⟩
          refine kw_go_i hs30 hP hD hS hA (va_runV (As := []) (rest := [.int 3]) ⟨hx, hb, hml, hown, hts⟩ (gj_length0 l D y aK aV  _) (cwV 0 hts gX7_isWord_J0_length_8abf5 rfl rfl rfl (by decide +kernel) ⟨Nat.le_of_ble_eq_true rfl, Nat.le_of_ble_eq_true rfl⟩) (kz_PreK (i := 0) hs30 hP hD hK hN (by decide) hZ hS hA) rfl rfl hl.1 rfl (lv_room (Nat.le_of_ble_eq_true rfl)) dX7_isWord_22 ⟨Nat.le_of_ble_eq_true rfl, Nat.le_of_ble_eq_true rfl⟩) (fun r31 u32 H locs hq hP hD hS => ?_)
          obtain rfl := hq
          have hP : va_P D vwCl [(tx, .inr (7, [.ref bys, .int (nI ln), .int tok, .int (nI sta), .int (nI en), .int num, .ref wo, .ref fs, .ref sc, .int tfi, .int tgl, .int tst])), (bys, .inl (y 1, 150, .inl fby))] H := hP
          have hD : va_D A [(tx, .inr (7, [.ref bys, .int (nI ln), .int tok, .int (nI sta), .int (nI en), .int num, .ref wo, .ref fs, .ref sc, .int tfi, .int tgl, .int tst])), (bys, .inl (y 1, 150, .inl fby))] := hD
          refine lv_icmp_ge (tgt := 55) hx hb dX7_isWord_25 (by decide) (fun h9 => absurd h9 (by decide)) (fun _ => ?_)
          refine lv_aload_n hx hb dX7_isWord_28 rfl (lv_at hl 1 rfl) ?_
          refine va_get (D := D) (ci := 7) (v := .ref bys) (C := RX7) (T := TX7) (N := 12) hx hb hts iw7 hown hK hP 0 rfl rfl 0 (by decide) fw3 (fun _ h9 => h9) rfl dX7_isWord_29 ?_
          refine lv_aload_n hx hb dX7_isWord_32 rfl (lv_at hl 1 rfl) ?_
          refine va_get (D := D) (ci := 7) (v := .int (nI sta)) (C := RX7) (T := TX7) (N := 12) hx hb hts iw7 hown hK hP 0 rfl rfl 3 (by decide) fw2 (fun _ h9 => h9) rfl dX7_isWord_33 ?_
          refine lv_iload_n hx hb dX7_isWord_36 rfl (lv_at hl 0 rfl) ?_
          refine lv_iadd hx hb dX7_isWord_37 ?_
          rw [show (nI sta) + 3 = nI (sta + 3) from nI_add sta 3]
          refine va_bald hx hb hK hP 1 1 rfl rfl (vp_in_nI (by omega) (by decide)) dX7_isWord_38 ?_
          rw [nI_clamp (n := (sta + 3)) (by omega)]
          refine lv_aload_n hx hb dX7_isWord_39 rfl (lv_at hl 2 rfl) ?_
          refine lv_iload_n hx hb dX7_isWord_40 rfl (lv_at hl 0 rfl) ?_
          have hs33 : kw_Split [(tx, .inr (7, [.ref bys, .int (nI ln), .int tok, .int (nI sta), .int (nI en), .int num, .ref wo, .ref fs, .ref sc, .int tfi, .int tgl, .int tst])), (bys, .inl (y 1, 150, .inl fby))] [] [(tx, .inr (7, [.ref bys, .int (nI ln), .int tok, .int (nI sta), .int (nI en), .int num, .ref wo, .ref fs, .ref sc, .int tfi, .int tgl, .int tst])), (bys, .inl (y 1, 150, .inl fby))] [] [0, 1] := ⟨rfl, rfl, rfl, rfl, rfl, by decide⟩
          refine kw_go_i hs33 hP hD hS hA (va_runV (As := [.int 3]) (rest := [.int (fby (sta + 3))]) ⟨hx, hb, hml, hown, hts⟩ (gs_charAt0 l D y aK aV 3 (by omega) _) (cwV 1 hts gX7_isWord_J0_charAt_5068e rfl rfl rfl (by decide +kernel) ⟨Nat.le_of_ble_eq_true rfl, Nat.le_of_ble_eq_true rfl⟩) (kz_PreK (i := 0) hs33 hP hD hK hN (by decide) hZ hS hA) rfl rfl hl.1 rfl (lv_room (Nat.le_of_ble_eq_true rfl)) dX7_isWord_41 ⟨Nat.le_of_ble_eq_true rfl, Nat.le_of_ble_eq_true rfl⟩) (fun r34 u35 H locs hq hP hD hS => ?_)
          obtain rfl := hq
          rw [show kz_w 0 3 = 105 from rfl]
          have hP : va_P D vwCl [(tx, .inr (7, [.ref bys, .int (nI ln), .int tok, .int (nI sta), .int (nI en), .int num, .ref wo, .ref fs, .ref sc, .int tfi, .int tgl, .int tst])), (bys, .inl (y 1, 150, .inl fby))] H := hP
          have hD : va_D A [(tx, .inr (7, [.ref bys, .int (nI ln), .int tok, .int (nI sta), .int (nI en), .int num, .ref wo, .ref fs, .ref sc, .int tfi, .int tgl, .int tst])), (bys, .inl (y 1, 150, .inl fby))] := hD
          refine lv_icmp_eq (tgt := 49) hx hb dX7_isWord_44 (by decide) (fun h36 => ?_) (fun h37 => ?_)
          · skip
            refine lv_iinc (v := 4) (lv' := [(2, .int 4), (0, .ref tx), (1, .ref (aK 0))]) hx hb dX7_isWord_49 hl (k := 0) rfl (by decide) (by decide) rfl (fun ls hl => ?_)
            refine lv_goto (tgt := 20) hx hb dX7_isWord_52 (by decide) ?_
            refine lv_iload_n hx hb dX7_isWord_20 rfl (lv_at hl 0 rfl) ?_
            refine lv_aload_n hx hb dX7_isWord_21 rfl (lv_at hl 2 rfl) ?_
            have hs38 : kw_Split [(tx, .inr (7, [.ref bys, .int (nI ln), .int tok, .int (nI sta), .int (nI en), .int num, .ref wo, .ref fs, .ref sc, .int tfi, .int tgl, .int tst])), (bys, .inl (y 1, 150, .inl fby))] [] [(tx, .inr (7, [.ref bys, .int (nI ln), .int tok, .int (nI sta), .int (nI en), .int num, .ref wo, .ref fs, .ref sc, .int tfi, .int tgl, .int tst])), (bys, .inl (y 1, 150, .inl fby))] [] [0, 1] := ⟨rfl, rfl, rfl, rfl, rfl, by decide⟩
            refine kw_go_i hs38 hP hD hS hA (va_runV (As := []) (rest := [.int 4]) ⟨hx, hb, hml, hown, hts⟩ (gj_length0 l D y aK aV  _) (cwV 0 hts gX7_isWord_J0_length_8abf5 rfl rfl rfl (by decide +kernel) ⟨Nat.le_of_ble_eq_true rfl, Nat.le_of_ble_eq_true rfl⟩) (kz_PreK (i := 0) hs38 hP hD hK hN (by decide) hZ hS hA) rfl rfl hl.1 rfl (lv_room (Nat.le_of_ble_eq_true rfl)) dX7_isWord_22 ⟨Nat.le_of_ble_eq_true rfl, Nat.le_of_ble_eq_true rfl⟩) (fun r39 u40 H locs hq hP hD hS => ?_)
            obtain rfl := hq
            have hP : va_P D vwCl [(tx, .inr (7, [.ref bys, .int (nI ln), .int tok, .int (nI sta), .int (nI en), .int num, .ref wo, .ref fs, .ref sc, .int tfi, .int tgl, .int tst])), (bys, .inl (y 1, 150, .inl fby))] H := hP
            have hD : va_D A [(tx, .inr (7, [.ref bys, .int (nI ln), .int tok, .int (nI sta), .int (nI en), .int num, .ref wo, .ref fs, .ref sc, .int tfi, .int tgl, .int tst])), (bys, .inl (y 1, 150, .inl fby))] := hD
            refine lv_icmp_ge (tgt := 55) hx hb dX7_isWord_25 (by decide) (fun h9 => absurd h9 (by decide)) (fun _ => ?_)
            refine lv_aload_n hx hb dX7_isWord_28 rfl (lv_at hl 1 rfl) ?_
            refine va_get (D := D) (ci := 7) (v := .ref bys) (C := RX7) (T := TX7) (N := 12) hx hb hts iw7 hown hK hP 0 rfl rfl 0 (by decide) fw3 (fun _ h9 => h9) rfl dX7_isWord_29 ?_
            refine lv_aload_n hx hb dX7_isWord_32 rfl (lv_at hl 1 rfl) ?_
            refine va_get (D := D) (ci := 7) (v := .int (nI sta)) (C := RX7) (T := TX7) (N := 12) hx hb hts iw7 hown hK hP 0 rfl rfl 3 (by decide) fw2 (fun _ h9 => h9) rfl dX7_isWord_33 ?_
            refine lv_iload_n hx hb dX7_isWord_36 rfl (lv_at hl 0 rfl) ?_
            refine lv_iadd hx hb dX7_isWord_37 ?_
            rw [show (nI sta) + 4 = nI (sta + 4) from nI_add sta 4]
            refine va_bald hx hb hK hP 1 1 rfl rfl (vp_in_nI (by omega) (by decide)) dX7_isWord_38 ?_
            rw [nI_clamp (n := (sta + 4)) (by omega)]
            refine lv_aload_n hx hb dX7_isWord_39 rfl (lv_at hl 2 rfl) ?_
            refine lv_iload_n hx hb dX7_isWord_40 rfl (lv_at hl 0 rfl) ?_
            have hs41 : kw_Split [(tx, .inr (7, [.ref bys, .int (nI ln), .int tok, .int (nI sta), .int (nI en), .int num, .ref wo, .ref fs, .ref sc, .int tfi, .int tgl, .int tst])), (bys, .inl (y 1, 150, .inl fby))] [] [(tx, .inr (7, [.ref bys, .int (nI ln), .int tok, .int (nI sta), .int (nI en), .int num, .ref wo, .ref fs, .ref sc, .int tfi, .int tgl, .int tst])), (bys, .inl (y 1, 150, .inl fby))] [] [0, 1] := ⟨rfl, rfl, rfl, rfl, rfl, by decide⟩
            refine kw_go_i hs41 hP hD hS hA (va_runV (As := [.int 4]) (rest := [.int (fby (sta + 4))]) ⟨hx, hb, hml, hown, hts⟩ (gs_charAt0 l D y aK aV 4 (by omega) _) (cwV 1 hts gX7_isWord_J0_charAt_5068e rfl rfl rfl (by decide +kernel) ⟨Nat.le_of_ble_eq_true rfl, Nat.le_of_ble_eq_true rfl⟩) (kz_PreK (i := 0) hs41 hP hD hK hN (by decide) hZ hS hA) rfl rfl hl.1 rfl (lv_room (Nat.le_of_ble_eq_true rfl)) dX7_isWord_41 ⟨Nat.le_of_ble_eq_true rfl, Nat.le_of_ble_eq_true rfl⟩) (fun r42 u43 H locs hq hP hD hS => ?_)
            obtain rfl := hq
            rw [show kz_w 0 4 = 115 from rfl]
            have hP : va_P D vwCl [(tx, .inr (7, [.ref bys, .int (nI ln), .int tok, .int (nI sta), .int (nI en), .int num, .ref wo, .ref fs, .ref sc, .int tfi, .int tgl, .int tst])), (bys, .inl (y 1, 150, .inl fby))] H := hP
            have hD : va_D A [(tx, .inr (7, [.ref bys, .int (nI ln), .int tok, .int (nI sta), .int (nI en), .int num, .ref wo, .ref fs, .ref sc, .int tfi, .int tgl, .int tst])), (bys, .inl (y 1, 150, .inl fby))] := hD
            refine lv_icmp_eq (tgt := 49) hx hb dX7_isWord_44 (by decide) (fun h44 => ?_) (fun h45 => ?_)
            · skip
              refine lv_iinc (v := 5) (lv' := [(2, .int 5), (0, .ref tx), (1, .ref (aK 0))]) hx hb dX7_isWord_49 hl (k := 0) rfl (by decide) (by decide) rfl (fun ls hl => ?_)
              refine lv_goto (tgt := 20) hx hb dX7_isWord_52 (by decide) ?_
              refine lv_iload_n hx hb dX7_isWord_20 rfl (lv_at hl 0 rfl) ?_
              refine lv_aload_n hx hb dX7_isWord_21 rfl (lv_at hl 2 rfl) ?_
              have hs46 : kw_Split [(tx, .inr (7, [.ref bys, .int (nI ln), .int tok, .int (nI sta), .int (nI en), .int num, .ref wo, .ref fs, .ref sc, .int tfi, .int tgl, .int tst])), (bys, .inl (y 1, 150, .inl fby))] [] [(tx, .inr (7, [.ref bys, .int (nI ln), .int tok, .int (nI sta), .int (nI en), .int num, .ref wo, .ref fs, .ref sc, .int tfi, .int tgl, .int tst])), (bys, .inl (y 1, 150, .inl fby))] [] [0, 1] := ⟨rfl, rfl, rfl, rfl, rfl, by decide⟩
              refine kw_go_i hs46 hP hD hS hA (va_runV (As := []) (rest := [.int 5]) ⟨hx, hb, hml, hown, hts⟩ (gj_length0 l D y aK aV  _) (cwV 0 hts gX7_isWord_J0_length_8abf5 rfl rfl rfl (by decide +kernel) ⟨Nat.le_of_ble_eq_true rfl, Nat.le_of_ble_eq_true rfl⟩) (kz_PreK (i := 0) hs46 hP hD hK hN (by decide) hZ hS hA) rfl rfl hl.1 rfl (lv_room (Nat.le_of_ble_eq_true rfl)) dX7_isWord_22 ⟨Nat.le_of_ble_eq_true rfl, Nat.le_of_ble_eq_true rfl⟩) (fun r47 u48 H locs hq hP hD hS => ?_)
              obtain rfl := hq
              have hP : va_P D vwCl [(tx, .inr (7, [.ref bys, .int (nI ln), .int tok, .int (nI sta), .int (nI en), .int num, .ref wo, .ref fs, .ref sc, .int tfi, .int tgl, .int tst])), (bys, .inl (y 1, 150, .inl fby))] H := hP
              have hD : va_D A [(tx, .inr (7, [.ref bys, .int (nI ln), .int tok, .int (nI sta), .int (nI en), .int num, .ref wo, .ref fs, .ref sc, .int tfi, .int tgl, .int tst])), (bys, .inl (y 1, 150, .inl fby))] := hD
              refine lv_icmp_ge (tgt := 55) hx hb dX7_isWord_25 (by decide) (fun h9 => absurd h9 (by decide)) (fun _ => ?_)
              refine lv_aload_n hx hb dX7_isWord_28 rfl (lv_at hl 1 rfl) ?_
              refine va_get (D := D) (ci := 7) (v := .ref bys) (C := RX7) (T := TX7) (N := 12) hx hb hts iw7 hown hK hP 0 rfl rfl 0 (by decide) fw3 (fun _ h9 => h9) rfl dX7_isWord_29 ?_
              refine lv_aload_n hx hb dX7_isWord_32 rfl (lv_at hl 1 rfl) ?_
              refine va_get (D := D) (ci := 7) (v := .int (nI sta)) (C := RX7) (T := TX7) (N := 12) hx hb hts iw7 hown hK hP 0 rfl rfl 3 (by decide) fw2 (fun _ h9 => h9) rfl dX7_isWord_33 ?_
              refine lv_iload_n hx hb dX7_isWord_36 rfl (lv_at hl 0 rfl) ?_
              refine lv_iadd hx hb dX7_isWord_37 ?_
              rw [show (nI sta) + 5 = nI (sta + 5) from nI_add sta 5]
              refine va_bald hx hb hK hP 1 1 rfl rfl (vp_in_nI (by omega) (by decide)) dX7_isWord_38 ?_
              rw [nI_clamp (n := (sta + 5)) (by omega)]
              refine lv_aload_n hx hb dX7_isWord_39 rfl (lv_at hl 2 rfl) ?_
              refine lv_iload_n hx hb dX7_isWord_40 rfl (lv_at hl 0 rfl) ?_
              have hs49 : kw_Split [(tx, .inr (7, [.ref bys, .int (nI ln), .int tok, .int (nI sta), .int (nI en), .int num, .ref wo, .ref fs, .ref sc, .int tfi, .int tgl, .int tst])), (bys, .inl (y 1, 150, .inl fby))] [] [(tx, .inr (7, [.ref bys, .int (nI ln), .int tok, .int (nI sta), .int (nI en), .int num, .ref wo, .ref fs, .ref sc, .int tfi, .int tgl, .int tst])), (bys, .inl (y 1, 150, .inl fby))] [] [0, 1] := ⟨rfl, rfl, rfl, rfl, rfl, by decide⟩
              refine kw_go_i hs49 hP hD hS hA (va_runV (As := [.int 5]) (rest := [.int (fby (sta + 5))]) ⟨hx, hb, hml, hown, hts⟩ (gs_charAt0 l D y aK aV 5 (by omega) _) (cwV 1 hts gX7_isWord_J0_charAt_5068e rfl rfl rfl (by decide +kernel) ⟨Nat.le_of_ble_eq_true rfl, Nat.le_of_ble_eq_true rfl⟩) (kz_PreK (i := 0) hs49 hP hD hK hN (by decide) hZ hS hA) rfl rfl hl.1 rfl (lv_room (Nat.le_of_ble_eq_true rfl)) dX7_isWord_41 ⟨Nat.le_of_ble_eq_true rfl, Nat.le_of_ble_eq_true rfl⟩) (fun r50 u51 H locs hq hP hD hS => ?_)
              obtain rfl := hq
              rw [show kz_w 0 5 = 104 from rfl]
              have hP : va_P D vwCl [(tx, .inr (7, [.ref bys, .int (nI ln), .int tok, .int (nI sta), .int (nI en), .int num, .ref wo, .ref fs, .ref sc, .int tfi, .int tgl, .int tst])), (bys, .inl (y 1, 150, .inl fby))] H := hP
              have hD : va_D A [(tx, .inr (7, [.ref bys, .int (nI ln), .int tok, .int (nI sta), .int (nI en), .int num, .ref wo, .ref fs, .ref sc, .int tfi, .int tgl, .int tst])), (bys, .inl (y 1, 150, .inl fby))] := hD
              refine lv_icmp_eq (tgt := 49) hx hb dX7_isWord_44 (by decide) (fun h52 => ?_) (fun h53 => ?_)
              · skip
                refine lv_iinc (v := 6) (lv' := [(2, .int 6), (0, .ref tx), (1, .ref (aK 0))]) hx hb dX7_isWord_49 hl (k := 0) rfl (by decide) (by decide) rfl (fun ls hl => ?_)
                refine lv_goto (tgt := 20) hx hb dX7_isWord_52 (by decide) ?_
                refine lv_iload_n hx hb dX7_isWord_20 rfl (lv_at hl 0 rfl) ?_
                refine lv_aload_n hx hb dX7_isWord_21 rfl (lv_at hl 2 rfl) ?_
                have hs54 : kw_Split [(tx, .inr (7, [.ref bys, .int (nI ln), .int tok, .int (nI sta), .int (nI en), .int num, .ref wo, .ref fs, .ref sc, .int tfi, .int tgl, .int tst])), (bys, .inl (y 1, 150, .inl fby))] [] [(tx, .inr (7, [.ref bys, .int (nI ln), .int tok, .int (nI sta), .int (nI en), .int num, .ref wo, .ref fs, .ref sc, .int tfi, .int tgl, .int tst])), (bys, .inl (y 1, 150, .inl fby))] [] [0, 1] := ⟨rfl, rfl, rfl, rfl, rfl, by decide⟩
                refine kw_go_i hs54 hP hD hS hA (va_runV (As := []) (rest := [.int 6]) ⟨hx, hb, hml, hown, hts⟩ (gj_length0 l D y aK aV  _) (cwV 0 hts gX7_isWord_J0_length_8abf5 rfl rfl rfl (by decide +kernel) ⟨Nat.le_of_ble_eq_true rfl, Nat.le_of_ble_eq_true rfl⟩) (kz_PreK (i := 0) hs54 hP hD hK hN (by decide) hZ hS hA) rfl rfl hl.1 rfl (lv_room (Nat.le_of_ble_eq_true rfl)) dX7_isWord_22 ⟨Nat.le_of_ble_eq_true rfl, Nat.le_of_ble_eq_true rfl⟩) (fun r55 u56 H locs hq hP hD hS => ?_)
                obtain rfl := hq
                have hP : va_P D vwCl [(tx, .inr (7, [.ref bys, .int (nI ln), .int tok, .int (nI sta), .int (nI en), .int num, .ref wo, .ref fs, .ref sc, .int tfi, .int tgl, .int tst])), (bys, .inl (y 1, 150, .inl fby))] H := hP
                have hD : va_D A [(tx, .inr (7, [.ref bys, .int (nI ln), .int tok, .int (nI sta), .int (nI en), .int num, .ref wo, .ref fs, .ref sc, .int tfi, .int tgl, .int tst])), (bys, .inl (y 1, 150, .inl fby))] := hD
                refine lv_icmp_ge (tgt := 55) hx hb dX7_isWord_25 (by decide) (fun _ => ?_) (fun h9 => absurd h9 (by decide))
                refine lv_iconst (v := 1) hx hb dX7_isWord_55 (by decide) ?_
                exact W.zret (v := 1) hx hb hr (by decide) (fun tZ ht hW => ⟨⟨1, (), rfl, Or.inl ⟨decide_eq_true ⟨by omega, h12, h20, h28, h36, h44, h52⟩, rfl⟩, by rw [ht]; exact hP.sub [0, 1] rfl, hD.sub [0, 1] (by decide) rfl⟩, hS.F ht⟩) hS.2.2 dX7_isWord_56
              · skip
                refine lv_iconst (v := 0) hx hb dX7_isWord_47 (by decide) ?_
                exact W.zret (v := 0) hx hb hr (by decide) (fun tZ ht hW => ⟨⟨0, (), rfl, Or.inr (⟨fun q9 => absurd (of_decide_eq_true q9).2.2.2.2.2.2 h53, rfl⟩), by rw [ht]; exact hP.sub [0, 1] rfl, hD.sub [0, 1] (by decide) rfl⟩, hS.F ht⟩) hS.2.2 dX7_isWord_48
            · skip
              refine lv_iconst (v := 0) hx hb dX7_isWord_47 (by decide) ?_
              exact W.zret (v := 0) hx hb hr (by decide) (fun tZ ht hW => ⟨⟨0, (), rfl, Or.inr (⟨fun q9 => absurd (of_decide_eq_true q9).2.2.2.2.2.1 h45, rfl⟩), by rw [ht]; exact hP.sub [0, 1] rfl, hD.sub [0, 1] (by decide) rfl⟩, hS.F ht⟩) hS.2.2 dX7_isWord_48
          · skip
            refine lv_iconst (v := 0) hx hb dX7_isWord_47 (by decide) ?_
            exact W.zret (v := 0) hx hb hr (by decide) (fun tZ ht hW => ⟨⟨0, (), rfl, Or.inr (⟨fun q9 => absurd (of_decide_eq_true q9).2.2.2.2.1 h37, rfl⟩), by rw [ht]; exact hP.sub [0, 1] rfl, hD.sub [0, 1] (by decide) rfl⟩, hS.F ht⟩) hS.2.2 dX7_isWord_48
        · skip
          refine lv_iconst (v := 0) hx hb dX7_isWord_47 (by decide) ?_
          exact W.zret (v := 0) hx hb hr (by decide) (fun tZ ht hW => ⟨⟨0, (), rfl, Or.inr (⟨fun q9 => absurd (of_decide_eq_true q9).2.2.2.1 h29, rfl⟩), by rw [ht]; exact hP.sub [0, 1] rfl, hD.sub [0, 1] (by decide) rfl⟩, hS.F ht⟩) hS.2.2 dX7_isWord_48
      · skip
        refine lv_iconst (v := 0) hx hb dX7_isWord_47 (by decide) ?_
        exact W.zret (v := 0) hx hb hr (by decide) (fun tZ ht hW => ⟨⟨0, (), rfl, Or.inr (⟨fun q9 => absurd (of_decide_eq_true q9).2.2.1 h21, rfl⟩), by rw [ht]; exact hP.sub [0, 1] rfl, hD.sub [0, 1] (by decide) rfl⟩, hS.F ht⟩) hS.2.2 dX7_isWord_48
    · skip
      refine lv_iconst (v := 0) hx hb dX7_isWord_47 (by decide) ?_
      exact W.zret (v := 0) hx hb hr (by decide) (fun tZ ht hW => ⟨⟨0, (), rfl, Or.inr (⟨fun q9 => absurd (of_decide_eq_true q9).2.1 h13, rfl⟩), by rw [ht]; exact hP.sub [0, 1] rfl, hD.sub [0, 1] (by decide) rfl⟩, hS.F ht⟩) hS.2.2 dX7_isWord_48
  · skip
    have h5 : ¬ (en - sta) = 6 := fun q9 => h5 ((nI_eq (a := (en - sta)) (b := 6) (by omega) (by omega)).mpr q9)
    refine lv_iconst (v := 0) hx hb dX7_isWord_16 (by decide) ?_
    exact W.zret (v := 0) hx hb hr (by decide) (fun tZ ht hW => ⟨⟨0, (), rfl, Or.inr (⟨fun q9 => absurd (of_decide_eq_true q9).1 (by omega), rfl⟩), by rw [ht]; exact hP.sub [0, 1] rfl, hD.sub [0, 1] (by decide) rfl⟩, hS.F ht⟩) hS.2.2 dX7_isWord_17

set_option maxHeartbeats 4000000 in
set_option maxRecDepth 100000 in
theorem gs_isWord1 (l : Launch) (D : va_G) (y : Nat → ClassId) (aK : Nat → Nat) (aV : Nat → Nat) (tx : Nat) (bys : Nat) (wo : Nat) (fs : Nat) (sc : Nat) (ln : Nat) (sta : Nat) (en : Nat) (tok : Int32) (num : Int32) (tfi : Int32) (tgl : Int32) (tst : Int32) (fby : Nat → Int32) (hln : ln ≤ 150) (hen : en ≤ ln) (hse : sta ≤ en) : kz_Mi l yX7_isWord wsX7_isWord ({ frames := 5, cells := 0, slots := 0, locals := 145 }) D y [.ref tx, .ref (aK 1)] [(tx, .inr (7, [.ref bys, .int (nI ln), .int tok, .int (nI sta), .int (nI en), .int num, .ref wo, .ref fs, .ref sc, .int tfi, .int tgl, .int tst])), (bys, .inl (y 1, 150, .inl fby))] aK aV (fun (r : Int32) (u : Unit) => (ks_e1 fby sta en = true ∧ r = 1) ∨ (¬ ks_e1 fby sta en = true ∧ r = 0)) (fun _ => [(tx, .inr (7, [.ref bys, .int (nI ln), .int tok, .int (nI sta), .int (nI en), .int num, .ref wo, .ref fs, .ref sc, .int tfi, .int tgl, .int tst])), (bys, .inl (y 1, 150, .inl fby))]) 0 0 := by
  refine kz_Mi.of (cc := cX7_isWord) (maxL := 3) (ret := (some .boolean)) (by decide) rfl ?_
  intro pZ eZ s mZ beZ meZ cZ A hE
  obtain ⟨hx, hb, hr, hml, hts, hown, hlocks, hin, hA, hP, hD, hK, hN, hZ⟩ := hE
  have hS : va_S A s.heap s.heap [] := va_S.rf
  have hl := lv_entry ([.ref tx, .ref (aK 1)]) (n := 3) (Nat.le_of_ble_eq_true rfl)
  rw [lg_entry_eq]
  generalize (lg_sl ([.ref tx, .ref (aK 1)]) ++ List.replicate (3 - (lg_sl ([.ref tx, .ref (aK 1)])).length) Slot.unset).toArray = ls at hl ⊢
  have hl : lv_has ls 3 [(0, .ref tx), (1, .ref (aK 1))] := hl
  have fw1 := hts (.fieldLink RX7 29 "GleanDusk$Text" "end" "I") (List.mem_of_getElem? (i := 1) rfl)
  have fw2 := hts (.fieldLink RX7 51 "GleanDusk$Text" "start" "I") (List.mem_of_getElem? (i := 2) rfl)
  have fw3 := hts (.fieldLink RX7 9 "GleanDusk$Text" "bytes" "[B") (List.mem_of_getElem? (i := 3) rfl)
  have iw7 : ∀ w ∈ wsX70, w ∈ wsX7_isWord := fun _ h => List.mem_cons_of_mem _ (List.mem_append_right _ h)
  refine lv_aload_n hx hb dX7_isWord_0 rfl (lv_at hl 0 rfl) ?_
  refine va_get (D := D) (ci := 7) (v := .int (nI en)) (C := RX7) (T := TX7) (N := 12) hx hb hts iw7 hown hK hP 0 rfl rfl 4 (by decide) fw1 (fun _ h9 => h9) rfl dX7_isWord_1 ?_
  refine lv_aload_n hx hb dX7_isWord_4 rfl (lv_at hl 0 rfl) ?_
  refine va_get (D := D) (ci := 7) (v := .int (nI sta)) (C := RX7) (T := TX7) (N := 12) hx hb hts iw7 hown hK hP 0 rfl rfl 3 (by decide) fw2 (fun _ h9 => h9) rfl dX7_isWord_5 ?_
  refine lv_isub hx hb dX7_isWord_8 ?_
  rw [show (nI en) - (nI sta) = nI (en - sta) from pk_sub (a := en) (b := sta) (by omega)]
  refine lv_aload_n hx hb dX7_isWord_9 rfl (lv_at hl 1 rfl) ?_
  have hs1 : kw_Split [(tx, .inr (7, [.ref bys, .int (nI ln), .int tok, .int (nI sta), .int (nI en), .int num, .ref wo, .ref fs, .ref sc, .int tfi, .int tgl, .int tst])), (bys, .inl (y 1, 150, .inl fby))] [] [(tx, .inr (7, [.ref bys, .int (nI ln), .int tok, .int (nI sta), .int (nI en), .int num, .ref wo, .ref fs, .ref sc, .int tfi, .int tgl, .int tst])), (bys, .inl (y 1, 150, .inl fby))] [] [0, 1] := ⟨rfl, rfl, rfl, rfl, rfl, by decide⟩
  refine kw_go_i hs1 hP hD hS hA (va_runV (As := []) (rest := [.int (nI (en - sta))]) ⟨hx, hb, hml, hown, hts⟩ (gj_length1 l D y aK aV  _) (cwV 0 hts gX7_isWord_J0_length_8abf5 rfl rfl rfl (by decide +kernel) ⟨Nat.le_of_ble_eq_true rfl, Nat.le_of_ble_eq_true rfl⟩) (kz_PreK (i := 1) hs1 hP hD hK hN (by decide) hZ hS hA) rfl rfl hl.1 rfl (lv_room (Nat.le_of_ble_eq_true rfl)) dX7_isWord_10 ⟨Nat.le_of_ble_eq_true rfl, Nat.le_of_ble_eq_true rfl⟩) (fun r2 u3 H locs hq hP hD hS => ?_)
  obtain rfl := hq
  have hP : va_P D vwCl [(tx, .inr (7, [.ref bys, .int (nI ln), .int tok, .int (nI sta), .int (nI en), .int num, .ref wo, .ref fs, .ref sc, .int tfi, .int tgl, .int tst])), (bys, .inl (y 1, 150, .inl fby))] H := hP
  have hD : va_D A [(tx, .inr (7, [.ref bys, .int (nI ln), .int tok, .int (nI sta), .int (nI en), .int num, .ref wo, .ref fs, .ref sc, .int tfi, .int tgl, .int tst])), (bys, .inl (y 1, 150, .inl fby))] := hD
  refine lv_icmp_eq (tgt := 18) hx hb dX7_isWord_13 (by decide) (fun h4 => ?_) (fun h5 => ?_)
  · skip
    have h4 : (en - sta) = 5 := (nI_eq (a := (en - sta)) (b := 5) (by omega) (by omega)).mp h4
    refine lv_iconst (v := 0) hx hb dX7_isWord_18 (by decide) ?_
    refine lv_istore_n (lv' := [(2, .int 0), (0, .ref tx), (1, .ref (aK 1))]) hx hb dX7_isWord_19 rfl hl (by decide) rfl (fun ls hl => ?_)
    refine lv_iload_n hx hb dX7_isWord_20 rfl (lv_at hl 0 rfl) ?_
    refine lv_aload_n hx hb dX7_isWord_21 rfl (lv_at hl 2 rfl) ?_
    have hs6 : kw_Split [(tx, .inr (7, [.ref bys, .int (nI ln), .int tok, .int (nI sta), .int (nI en), .int num, .ref wo, .ref fs, .ref sc, .int tfi, .int tgl, .int tst])), (bys, .inl (y 1, 150, .inl fby))] [] [(tx, .inr (7, [.ref bys, .int (nI ln), .int tok, .int (nI sta), .int (nI en), .int num, .ref wo, .ref fs, .ref sc, .int tfi, .int tgl, .int tst])), (bys, .inl (y 1, 150, .inl fby))] [] [0, 1] := ⟨rfl, rfl, rfl, rfl, rfl, by decide⟩
    refine kw_go_i hs6 hP hD hS hA (va_runV (As := []) (rest := [.int 0]) ⟨hx, hb, hml, hown, hts⟩ (gj_length1 l D y aK aV  _) (cwV 0 hts gX7_isWord_J0_length_8abf5 rfl rfl rfl (by decide +kernel) ⟨Nat.le_of_ble_eq_true rfl, Nat.le_of_ble_eq_true rfl⟩) (kz_PreK (i := 1) hs6 hP hD hK hN (by decide) hZ hS hA) rfl rfl hl.1 rfl (lv_room (Nat.le_of_ble_eq_true rfl)) dX7_isWord_22 ⟨Nat.le_of_ble_eq_true rfl, Nat.le_of_ble_eq_true rfl⟩) (fun r7 u8 H locs hq hP hD hS => ?_)
    obtain rfl := hq
    have hP : va_P D vwCl [(tx, .inr (7, [.ref bys, .int (nI ln), .int tok, .int (nI sta), .int (nI en), .int num, .ref wo, .ref fs, .ref sc, .int tfi, .int tgl, .int tst])), (bys, .inl (y 1, 150, .inl fby))] H := hP
    have hD : va_D A [(tx, .inr (7, [.ref bys, .int (nI ln), .int tok, .int (nI sta), .int (nI en), .int num, .ref wo, .ref fs, .ref sc, .int tfi, .int tgl, .int tst])), (bys, .inl (y 1, 150, .inl fby))] := hD
    refine lv_icmp_ge (tgt := 55) hx hb dX7_isWord_25 (by decide) (fun h9 => absurd h9 (by decide)) (fun _ => ?_)
    refine lv_aload_n hx hb dX7_isWord_28 rfl (lv_at hl 1 rfl) ?_
    refine va_get (D := D) (ci := 7) (v := .ref bys) (C := RX7) (T := TX7) (N := 12) hx hb hts iw7 hown hK hP 0 rfl rfl 0 (by decide) fw3 (fun _ h9 => h9) rfl dX7_isWord_29 ?_
    refine lv_aload_n hx hb dX7_isWord_32 rfl (lv_at hl 1 rfl) ?_
    refine va_get (D := D) (ci := 7) (v := .int (nI sta)) (C := RX7) (T := TX7) (N := 12) hx hb hts iw7 hown hK hP 0 rfl rfl 3 (by decide) fw2 (fun _ h9 => h9) rfl dX7_isWord_33 ?_
    refine lv_iload_n hx hb dX7_isWord_36 rfl (lv_at hl 0 rfl) ?_
    refine lv_iadd hx hb dX7_isWord_37 ?_
    rw [show (nI sta) + 0 = nI (sta) from nI_add sta 0]
    refine va_bald hx hb hK hP 1 1 rfl rfl (vp_in_nI (by omega) (by decide)) dX7_isWord_38 ?_
    rw [nI_clamp (n := sta) (by omega)]
    refine lv_aload_n hx hb dX7_isWord_39 rfl (lv_at hl 2 rfl) ?_
    refine lv_iload_n hx hb dX7_isWord_40 rfl (lv_at hl 0 rfl) ?_
    have hs9 : kw_Split [(tx, .inr (7, [.ref bys, .int (nI ln), .int tok, .int (nI sta), .int (nI en), .int num, .ref wo, .ref fs, .ref sc, .int tfi, .int tgl, .int tst])), (bys, .inl (y 1, 150, .inl fby))] [] [(tx, .inr (7, [.ref bys, .int (nI ln), .int tok, .int (nI sta), .int (nI en), .int num, .ref wo, .ref fs, .ref sc, .int tfi, .int tgl, .int tst])), (bys, .inl (y 1, 150, .inl fby))] [] [0, 1] := ⟨rfl, rfl, rfl, rfl, rfl, by decide⟩
    refine kw_go_i hs9 hP hD hS hA (va_runV (As := [.int 0]) (rest := [.int (fby sta)]) ⟨hx, hb, hml, hown, hts⟩ (gs_charAt1 l D y aK aV 0 (by omega) _) (cwV 1 hts gX7_isWord_J0_charAt_5068e rfl rfl rfl (by decide +kernel) ⟨Nat.le_of_ble_eq_true rfl, Nat.le_of_ble_eq_true rfl⟩) (kz_PreK (i := 1) hs9 hP hD hK hN (by decide) hZ hS hA) rfl rfl hl.1 rfl (lv_room (Nat.le_of_ble_eq_true rfl)) dX7_isWord_41 ⟨Nat.le_of_ble_eq_true rfl, Nat.le_of_ble_eq_true rfl⟩) (fun r10 u11 H locs hq hP hD hS => ?_)
    obtain rfl := hq
    rw [show kz_w 1 0 = 102 from rfl]
    have hP : va_P D vwCl [(tx, .inr (7, [.ref bys, .int (nI ln), .int tok, .int (nI sta), .int (nI en), .int num, .ref wo, .ref fs, .ref sc, .int tfi, .int tgl, .int tst])), (bys, .inl (y 1, 150, .inl fby))] H := hP
    have hD : va_D A [(tx, .inr (7, [.ref bys, .int (nI ln), .int tok, .int (nI sta), .int (nI en), .int num, .ref wo, .ref fs, .ref sc, .int tfi, .int tgl, .int tst])), (bys, .inl (y 1, 150, .inl fby))] := hD
    refine lv_icmp_eq (tgt := 49) hx hb dX7_isWord_44 (by decide) (fun h12 => ?_) (fun h13 => ?_)
    · skip
      refine lv_iinc (v := 1) (lv' := [(2, .int 1), (0, .ref tx), (1, .ref (aK 1))]) hx hb dX7_isWord_49 hl (k := 0) rfl (by decide) (by decide) rfl (fun ls hl => ?_)
      refine lv_goto (tgt := 20) hx hb dX7_isWord_52 (by decide) ?_
      refine lv_iload_n hx hb dX7_isWord_20 rfl (lv_at hl 0 rfl) ?_
      refine lv_aload_n hx hb dX7_isWord_21 rfl (lv_at hl 2 rfl) ?_
      have hs14 : kw_Split [(tx, .inr (7, [.ref bys, .int (nI ln), .int tok, .int (nI sta), .int (nI en), .int num, .ref wo, .ref fs, .ref sc, .int tfi, .int tgl, .int tst])), (bys, .inl (y 1, 150, .inl fby))] [] [(tx, .inr (7, [.ref bys, .int (nI ln), .int tok, .int (nI sta), .int (nI en), .int num, .ref wo, .ref fs, .ref sc, .int tfi, .int tgl, .int tst])), (bys, .inl (y 1, 150, .inl fby))] [] [0, 1] := ⟨rfl, rfl, rfl, rfl, rfl, by decide⟩
      refine kw_go_i hs14 hP hD hS hA (va_runV (As := []) (rest := [.int 1]) ⟨hx, hb, hml, hown, hts⟩ (gj_length1 l D y aK aV  _) (cwV 0 hts gX7_isWord_J0_length_8abf5 rfl rfl rfl (by decide +kernel) ⟨Nat.le_of_ble_eq_true rfl, Nat.le_of_ble_eq_true rfl⟩) (kz_PreK (i := 1) hs14 hP hD hK hN (by decide) hZ hS hA) rfl rfl hl.1 rfl (lv_room (Nat.le_of_ble_eq_true rfl)) dX7_isWord_22 ⟨Nat.le_of_ble_eq_true rfl, Nat.le_of_ble_eq_true rfl⟩) (fun r15 u16 H locs hq hP hD hS => ?_)
      obtain rfl := hq
      have hP : va_P D vwCl [(tx, .inr (7, [.ref bys, .int (nI ln), .int tok, .int (nI sta), .int (nI en), .int num, .ref wo, .ref fs, .ref sc, .int tfi, .int tgl, .int tst])), (bys, .inl (y 1, 150, .inl fby))] H := hP
      have hD : va_D A [(tx, .inr (7, [.ref bys, .int (nI ln), .int tok, .int (nI sta), .int (nI en), .int num, .ref wo, .ref fs, .ref sc, .int tfi, .int tgl, .int tst])), (bys, .inl (y 1, 150, .inl fby))] := hD
      refine lv_icmp_ge (tgt := 55) hx hb dX7_isWord_25 (by decide) (fun h9 => absurd h9 (by decide)) (fun _ => ?_)
      refine lv_aload_n hx hb dX7_isWord_28 rfl (lv_at hl 1 rfl) ?_
      refine va_get (D := D) (ci := 7) (v := .ref bys) (C := RX7) (T := TX7) (N := 12) hx hb hts iw7 hown hK hP 0 rfl rfl 0 (by decide) fw3 (fun _ h9 => h9) rfl dX7_isWord_29 ?_
      refine lv_aload_n hx hb dX7_isWord_32 rfl (lv_at hl 1 rfl) ?_
      refine va_get (D := D) (ci := 7) (v := .int (nI sta)) (C := RX7) (T := TX7) (N := 12) hx hb hts iw7 hown hK hP 0 rfl rfl 3 (by decide) fw2 (fun _ h9 => h9) rfl dX7_isWord_33 ?_
      refine lv_iload_n hx hb dX7_isWord_36 rfl (lv_at hl 0 rfl) ?_
      refine lv_iadd hx hb dX7_isWord_37 ?_
      rw [show (nI sta) + 1 = nI (sta + 1) from nI_add sta 1]
      refine va_bald hx hb hK hP 1 1 rfl rfl (vp_in_nI (by omega) (by decide)) dX7_isWord_38 ?_
      rw [nI_clamp (n := (sta + 1)) (by omega)]
      refine lv_aload_n hx hb dX7_isWord_39 rfl (lv_at hl 2 rfl) ?_
      refine lv_iload_n hx hb dX7_isWord_40 rfl (lv_at hl 0 rfl) ?_
      have hs17 : kw_Split [(tx, .inr (7, [.ref bys, .int (nI ln), .int tok, .int (nI sta), .int (nI en), .int num, .ref wo, .ref fs, .ref sc, .int tfi, .int tgl, .int tst])), (bys, .inl (y 1, 150, .inl fby))] [] [(tx, .inr (7, [.ref bys, .int (nI ln), .int tok, .int (nI sta), .int (nI en), .int num, .ref wo, .ref fs, .ref sc, .int tfi, .int tgl, .int tst])), (bys, .inl (y 1, 150, .inl fby))] [] [0, 1] := ⟨rfl, rfl, rfl, rfl, rfl, by decide⟩
      refine kw_go_i hs17 hP hD hS hA (va_runV (As := [.int 1]) (rest := [.int (fby (sta + 1))]) ⟨hx, hb, hml, hown, hts⟩ (gs_charAt1 l D y aK aV 1 (by omega) _) (cwV 1 hts gX7_isWord_J0_charAt_5068e rfl rfl rfl (by decide +kernel) ⟨Nat.le_of_ble_eq_true rfl, Nat.le_of_ble_eq_true rfl⟩) (kz_PreK (i := 1) hs17 hP hD hK hN (by decide) hZ hS hA) rfl rfl hl.1 rfl (lv_room (Nat.le_of_ble_eq_true rfl)) dX7_isWord_41 ⟨Nat.le_of_ble_eq_true rfl, Nat.le_of_ble_eq_true rfl⟩) (fun r18 u19 H locs hq hP hD hS => ?_)
      obtain rfl := hq
      rw [show kz_w 1 1 = 105 from rfl]
      have hP : va_P D vwCl [(tx, .inr (7, [.ref bys, .int (nI ln), .int tok, .int (nI sta), .int (nI en), .int num, .ref wo, .ref fs, .ref sc, .int tfi, .int tgl, .int tst])), (bys, .inl (y 1, 150, .inl fby))] H := hP
      have hD : va_D A [(tx, .inr (7, [.ref bys, .int (nI ln), .int tok, .int (nI sta), .int (nI en), .int num, .ref wo, .ref fs, .ref sc, .int tfi, .int tgl, .int tst])), (bys, .inl (y 1, 150, .inl fby))] := hD
      refine lv_icmp_eq (tgt := 49) hx hb dX7_isWord_44 (by decide) (fun h20 => ?_) (fun h21 => ?_)
      · skip
        refine lv_iinc (v := 2) (lv' := [(2, .int 2), (0, .ref tx), (1, .ref (aK 1))]) hx hb dX7_isWord_49 hl (k := 0) rfl (by decide) (by decide) rfl (fun ls hl => ?_)
        refine lv_goto (tgt := 20) hx hb dX7_isWord_52 (by decide) ?_
        refine lv_iload_n hx hb dX7_isWord_20 rfl (lv_at hl 0 rfl) ?_
        refine lv_aload_n hx hb dX7_isWord_21 rfl (lv_at hl 2 rfl) ?_
        have hs22 : kw_Split [(tx, .inr (7, [.ref bys, .int (nI ln), .int tok, .int (nI sta), .int (nI en), .int num, .ref wo, .ref fs, .ref sc, .int tfi, .int tgl, .int tst])), (bys, .inl (y 1, 150, .inl fby))] [] [(tx, .inr (7, [.ref bys, .int (nI ln), .int tok, .int (nI sta), .int (nI en), .int num, .ref wo, .ref fs, .ref sc, .int tfi, .int tgl, .int tst])), (bys, .inl (y 1, 150, .inl fby))] [] [0, 1] := ⟨rfl, rfl, rfl, rfl, rfl, by decide⟩
        refine kw_go_i hs22 hP hD hS hA (va_runV (As := []) (rest := [.int 2]) ⟨hx, hb, hml, hown, hts⟩ (gj_length1 l D y aK aV  _) (cwV 0 hts gX7_isWord_J0_length_8abf5 rfl rfl rfl (by decide +kernel) ⟨Nat.le_of_ble_eq_true rfl, Nat.le_of_ble_eq_true rfl⟩) (kz_PreK (i := 1) hs22 hP hD hK hN (by decide) hZ hS hA) rfl rfl hl.1 rfl (lv_room (Nat.le_of_ble_eq_true rfl)) dX7_isWord_22 ⟨Nat.le_of_ble_eq_true rfl, Nat.le_of_ble_eq_true rfl⟩) (fun r23 u24 H locs hq hP hD hS => ?_)
        obtain rfl := hq
        have hP : va_P D vwCl [(tx, .inr (7, [.ref bys, .int (nI ln), .int tok, .int (nI sta), .int (nI en), .int num, .ref wo, .ref fs, .ref sc, .int tfi, .int tgl, .int tst])), (bys, .inl (y 1, 150, .inl fby))] H := hP
        have hD : va_D A [(tx, .inr (7, [.ref bys, .int (nI ln), .int tok, .int (nI sta), .int (nI en), .int num, .ref wo, .ref fs, .ref sc, .int tfi, .int tgl, .int tst])), (bys, .inl (y 1, 150, .inl fby))] := hD
        refine lv_icmp_ge (tgt := 55) hx hb dX7_isWord_25 (by decide) (fun h9 => absurd h9 (by decide)) (fun _ => ?_)
        refine lv_aload_n hx hb dX7_isWord_28 rfl (lv_at hl 1 rfl) ?_
        refine va_get (D := D) (ci := 7) (v := .ref bys) (C := RX7) (T := TX7) (N := 12) hx hb hts iw7 hown hK hP 0 rfl rfl 0 (by decide) fw3 (fun _ h9 => h9) rfl dX7_isWord_29 ?_
        refine lv_aload_n hx hb dX7_isWord_32 rfl (lv_at hl 1 rfl) ?_
        refine va_get (D := D) (ci := 7) (v := .int (nI sta)) (C := RX7) (T := TX7) (N := 12) hx hb hts iw7 hown hK hP 0 rfl rfl 3 (by decide) fw2 (fun _ h9 => h9) rfl dX7_isWord_33 ?_
        refine lv_iload_n hx hb dX7_isWord_36 rfl (lv_at hl 0 rfl) ?_
        refine lv_iadd hx hb dX7_isWord_37 ?_
        rw [show (nI sta) + 2 = nI (sta + 2) from nI_add sta 2]
        refine va_bald hx hb hK hP 1 1 rfl rfl (vp_in_nI (by omega) (by decide)) dX7_isWord_38 ?_
        rw [nI_clamp (n := (sta + 2)) (by omega)]
        refine lv_aload_n hx hb dX7_isWord_39 rfl (lv_at hl 2 rfl) ?_
        refine lv_iload_n hx hb dX7_isWord_40 rfl (lv_at hl 0 rfl) ?_
        have hs25 : kw_Split [(tx, .inr (7, [.ref bys, .int (nI ln), .int tok, .int (nI sta), .int (nI en), .int num, .ref wo, .ref fs, .ref sc, .int tfi, .int tgl, .int tst])), (bys, .inl (y 1, 150, .inl fby))] [] [(tx, .inr (7, [.ref bys, .int (nI ln), .int tok, .int (nI sta), .int (nI en), .int num, .ref wo, .ref fs, .ref sc, .int tfi, .int tgl, .int tst])), (bys, .inl (y 1, 150, .inl fby))] [] [0, 1] := ⟨rfl, rfl, rfl, rfl, rfl, by decide⟩
        refine kw_go_i hs25 hP hD hS hA (va_runV (As := [.int 2]) (rest := [.int (fby (sta + 2))]) ⟨hx, hb, hml, hown, hts⟩ (gs_charAt1 l D y aK aV 2 (by omega) _) (cwV 1 hts gX7_isWord_J0_charAt_5068e rfl rfl rfl (by decide +kernel) ⟨Nat.le_of_ble_eq_true rfl, Nat.le_of_ble_eq_true rfl⟩) (kz_PreK (i := 1) hs25 hP hD hK hN (by decide) hZ hS hA) rfl rfl hl.1 rfl (lv_room (Nat.le_of_ble_eq_true rfl)) dX7_isWord_41 ⟨Nat.le_of_ble_eq_true rfl, Nat.le_of_ble_eq_true rfl⟩) (fun r26 u27 H locs hq hP hD hS => ?_)
        obtain rfl := hq
        rw [show kz_w 1 2 = 101 from rfl]
        have hP : va_P D vwCl [(tx, .inr (7, [.ref bys, .int (nI ln), .int tok, .int (nI sta), .int (nI en), .int num, .ref wo, .ref fs, .ref sc, .int tfi, .int tgl, .int tst])), (bys, .inl (y 1, 150, .inl fby))] H := hP
        have hD : va_D A [(tx, .inr (7, [.ref bys, .int (nI ln), .int tok, .int (nI sta), .int (nI en), .int num, .ref wo, .ref fs, .ref sc, .int tfi, .int tgl, .int tst])), (bys, .inl (y 1, 150, .inl fby))] := hD
        refine lv_icmp_eq (tgt := 49) hx hb dX7_isWord_44 (by decide) (fun h28 => ?_) (fun h29 => ?_)
        · skip
          refine lv_iinc (v := 3) (lv' := [(2, .int 3), (0, .ref tx), (1, .ref (aK 1))]) hx hb dX7_isWord_49 hl (k := 0) rfl (by decide) (by decide) rfl (fun ls hl => ?_)
          refine lv_goto (tgt := 20) hx hb dX7_isWord_52 (by decide) ?_
          refine lv_iload_n hx hb dX7_isWord_20 rfl (lv_at hl 0 rfl) ?_
          refine lv_aload_n hx hb dX7_isWord_21 rfl (lv_at hl 2 rfl) ?_
          have hs30 : kw_Split [(tx, .inr (7, [.ref bys, .int (nI ln), .int tok, .int (nI sta), .int (nI en), .int num, .ref wo, .ref fs, .ref sc, .int tfi, .int tgl, .int tst])), (bys, .inl (y 1, 150, .inl fby))] [] [(tx, .inr (7, [.ref bys, .int (nI ln), .int tok, .int (nI sta), .int (nI en), .int num, .ref wo, .ref fs, .ref sc, .int tfi, .int tgl, .int tst])), (bys, .inl (y 1, 150, .inl fby))] [] [0, 1] := ⟨rfl, rfl, rfl, rfl, rfl, by decide⟩
          refine kw_go_i hs30 hP hD hS hA (va_runV (As := []) (rest := [.int 3]) ⟨hx, hb, hml, hown, hts⟩ (gj_length1 l D y aK aV  _) (cwV 0 hts gX7_isWord_J0_length_8abf5 rfl rfl rfl (by decide +kernel) ⟨Nat.le_of_ble_eq_true rfl, Nat.le_of_ble_eq_true rfl⟩) (kz_PreK (i := 1) hs30 hP hD hK hN (by decide) hZ hS hA) rfl rfl hl.1 rfl (lv_room (Nat.le_of_ble_eq_true rfl)) dX7_isWord_22 ⟨Nat.le_of_ble_eq_true rfl, Nat.le_of_ble_eq_true rfl⟩) (fun r31 u32 H locs hq hP hD hS => ?_)
          obtain rfl := hq
          have hP : va_P D vwCl [(tx, .inr (7, [.ref bys, .int (nI ln), .int tok, .int (nI sta), .int (nI en), .int num, .ref wo, .ref fs, .ref sc, .int tfi, .int tgl, .int tst])), (bys, .inl (y 1, 150, .inl fby))] H := hP
          have hD : va_D A [(tx, .inr (7, [.ref bys, .int (nI ln), .int tok, .int (nI sta), .int (nI en), .int num, .ref wo, .ref fs, .ref sc, .int tfi, .int tgl, .int tst])), (bys, .inl (y 1, 150, .inl fby))] := hD
          refine lv_icmp_ge (tgt := 55) hx hb dX7_isWord_25 (by decide) (fun h9 => absurd h9 (by decide)) (fun _ => ?_)
          refine lv_aload_n hx hb dX7_isWord_28 rfl (lv_at hl 1 rfl) ?_
          refine va_get (D := D) (ci := 7) (v := .ref bys) (C := RX7) (T := TX7) (N := 12) hx hb hts iw7 hown hK hP 0 rfl rfl 0 (by decide) fw3 (fun _ h9 => h9) rfl dX7_isWord_29 ?_
          refine lv_aload_n hx hb dX7_isWord_32 rfl (lv_at hl 1 rfl) ?_
          refine va_get (D := D) (ci := 7) (v := .int (nI sta)) (C := RX7) (T := TX7) (N := 12) hx hb hts iw7 hown hK hP 0 rfl rfl 3 (by decide) fw2 (fun _ h9 => h9) rfl dX7_isWord_33 ?_
          refine lv_iload_n hx hb dX7_isWord_36 rfl (lv_at hl 0 rfl) ?_
          refine lv_iadd hx hb dX7_isWord_37 ?_
          rw [show (nI sta) + 3 = nI (sta + 3) from nI_add sta 3]
          refine va_bald hx hb hK hP 1 1 rfl rfl (vp_in_nI (by omega) (by decide)) dX7_isWord_38 ?_
          rw [nI_clamp (n := (sta + 3)) (by omega)]
          refine lv_aload_n hx hb dX7_isWord_39 rfl (lv_at hl 2 rfl) ?_
          refine lv_iload_n hx hb dX7_isWord_40 rfl (lv_at hl 0 rfl) ?_
          have hs33 : kw_Split [(tx, .inr (7, [.ref bys, .int (nI ln), .int tok, .int (nI sta), .int (nI en), .int num, .ref wo, .ref fs, .ref sc, .int tfi, .int tgl, .int tst])), (bys, .inl (y 1, 150, .inl fby))] [] [(tx, .inr (7, [.ref bys, .int (nI ln), .int tok, .int (nI sta), .int (nI en), .int num, .ref wo, .ref fs, .ref sc, .int tfi, .int tgl, .int tst])), (bys, .inl (y 1, 150, .inl fby))] [] [0, 1] := ⟨rfl, rfl, rfl, rfl, rfl, by decide⟩
          refine kw_go_i hs33 hP hD hS hA (va_runV (As := [.int 3]) (rest := [.int (fby (sta + 3))]) ⟨hx, hb, hml, hown, hts⟩ (gs_charAt1 l D y aK aV 3 (by omega) _) (cwV 1 hts gX7_isWord_J0_charAt_5068e rfl rfl rfl (by decide +kernel) ⟨Nat.le_of_ble_eq_true rfl, Nat.le_of_ble_eq_true rfl⟩) (kz_PreK (i := 1) hs33 hP hD hK hN (by decide) hZ hS hA) rfl rfl hl.1 rfl (lv_room (Nat.le_of_ble_eq_true rfl)) dX7_isWord_41 ⟨Nat.le_of_ble_eq_true rfl, Nat.le_of_ble_eq_true rfl⟩) (fun r34 u35 H locs hq hP hD hS => ?_)
          obtain rfl := hq
          rw [show kz_w 1 3 = 108 from rfl]
          have hP : va_P D vwCl [(tx, .inr (7, [.ref bys, .int (nI ln), .int tok, .int (nI sta), .int (nI en), .int num, .ref wo, .ref fs, .ref sc, .int tfi, .int tgl, .int tst])), (bys, .inl (y 1, 150, .inl fby))] H := hP
          have hD : va_D A [(tx, .inr (7, [.ref bys, .int (nI ln), .int tok, .int (nI sta), .int (nI en), .int num, .ref wo, .ref fs, .ref sc, .int tfi, .int tgl, .int tst])), (bys, .inl (y 1, 150, .inl fby))] := hD
          refine lv_icmp_eq (tgt := 49) hx hb dX7_isWord_44 (by decide) (fun h36 => ?_) (fun h37 => ?_)
          · skip
            refine lv_iinc (v := 4) (lv' := [(2, .int 4), (0, .ref tx), (1, .ref (aK 1))]) hx hb dX7_isWord_49 hl (k := 0) rfl (by decide) (by decide) rfl (fun ls hl => ?_)
            refine lv_goto (tgt := 20) hx hb dX7_isWord_52 (by decide) ?_
            refine lv_iload_n hx hb dX7_isWord_20 rfl (lv_at hl 0 rfl) ?_
            refine lv_aload_n hx hb dX7_isWord_21 rfl (lv_at hl 2 rfl) ?_
            have hs38 : kw_Split [(tx, .inr (7, [.ref bys, .int (nI ln), .int tok, .int (nI sta), .int (nI en), .int num, .ref wo, .ref fs, .ref sc, .int tfi, .int tgl, .int tst])), (bys, .inl (y 1, 150, .inl fby))] [] [(tx, .inr (7, [.ref bys, .int (nI ln), .int tok, .int (nI sta), .int (nI en), .int num, .ref wo, .ref fs, .ref sc, .int tfi, .int tgl, .int tst])), (bys, .inl (y 1, 150, .inl fby))] [] [0, 1] := ⟨rfl, rfl, rfl, rfl, rfl, by decide⟩
            refine kw_go_i hs38 hP hD hS hA (va_runV (As := []) (rest := [.int 4]) ⟨hx, hb, hml, hown, hts⟩ (gj_length1 l D y aK aV  _) (cwV 0 hts gX7_isWord_J0_length_8abf5 rfl rfl rfl (by decide +kernel) ⟨Nat.le_of_ble_eq_true rfl, Nat.le_of_ble_eq_true rfl⟩) (kz_PreK (i := 1) hs38 hP hD hK hN (by decide) hZ hS hA) rfl rfl hl.1 rfl (lv_room (Nat.le_of_ble_eq_true rfl)) dX7_isWord_22 ⟨Nat.le_of_ble_eq_true rfl, Nat.le_of_ble_eq_true rfl⟩) (fun r39 u40 H locs hq hP hD hS => ?_)
            obtain rfl := hq
            have hP : va_P D vwCl [(tx, .inr (7, [.ref bys, .int (nI ln), .int tok, .int (nI sta), .int (nI en), .int num, .ref wo, .ref fs, .ref sc, .int tfi, .int tgl, .int tst])), (bys, .inl (y 1, 150, .inl fby))] H := hP
            have hD : va_D A [(tx, .inr (7, [.ref bys, .int (nI ln), .int tok, .int (nI sta), .int (nI en), .int num, .ref wo, .ref fs, .ref sc, .int tfi, .int tgl, .int tst])), (bys, .inl (y 1, 150, .inl fby))] := hD
            refine lv_icmp_ge (tgt := 55) hx hb dX7_isWord_25 (by decide) (fun h9 => absurd h9 (by decide)) (fun _ => ?_)
            refine lv_aload_n hx hb dX7_isWord_28 rfl (lv_at hl 1 rfl) ?_
            refine va_get (D := D) (ci := 7) (v := .ref bys) (C := RX7) (T := TX7) (N := 12) hx hb hts iw7 hown hK hP 0 rfl rfl 0 (by decide) fw3 (fun _ h9 => h9) rfl dX7_isWord_29 ?_
            refine lv_aload_n hx hb dX7_isWord_32 rfl (lv_at hl 1 rfl) ?_
            refine va_get (D := D) (ci := 7) (v := .int (nI sta)) (C := RX7) (T := TX7) (N := 12) hx hb hts iw7 hown hK hP 0 rfl rfl 3 (by decide) fw2 (fun _ h9 => h9) rfl dX7_isWord_33 ?_
            refine lv_iload_n hx hb dX7_isWord_36 rfl (lv_at hl 0 rfl) ?_
            refine lv_iadd hx hb dX7_isWord_37 ?_
            rw [show (nI sta) + 4 = nI (sta + 4) from nI_add sta 4]
            refine va_bald hx hb hK hP 1 1 rfl rfl (vp_in_nI (by omega) (by decide)) dX7_isWord_38 ?_
            rw [nI_clamp (n := (sta + 4)) (by omega)]
            refine lv_aload_n hx hb dX7_isWord_39 rfl (lv_at hl 2 rfl) ?_
            refine lv_iload_n hx hb dX7_isWord_40 rfl (lv_at hl 0 rfl) ?_
            have hs41 : kw_Split [(tx, .inr (7, [.ref bys, .int (nI ln), .int tok, .int (nI sta), .int (nI en), .int num, .ref wo, .ref fs, .ref sc, .int tfi, .int tgl, .int tst])), (bys, .inl (y 1, 150, .inl fby))] [] [(tx, .inr (7, [.ref bys, .int (nI ln), .int tok, .int (nI sta), .int (nI en), .int num, .ref wo, .ref fs, .ref sc, .int tfi, .int tgl, .int tst])), (bys, .inl (y 1, 150, .inl fby))] [] [0, 1] := ⟨rfl, rfl, rfl, rfl, rfl, by decide⟩
            refine kw_go_i hs41 hP hD hS hA (va_runV (As := [.int 4]) (rest := [.int (fby (sta + 4))]) ⟨hx, hb, hml, hown, hts⟩ (gs_charAt1 l D y aK aV 4 (by omega) _) (cwV 1 hts gX7_isWord_J0_charAt_5068e rfl rfl rfl (by decide +kernel) ⟨Nat.le_of_ble_eq_true rfl, Nat.le_of_ble_eq_true rfl⟩) (kz_PreK (i := 1) hs41 hP hD hK hN (by decide) hZ hS hA) rfl rfl hl.1 rfl (lv_room (Nat.le_of_ble_eq_true rfl)) dX7_isWord_41 ⟨Nat.le_of_ble_eq_true rfl, Nat.le_of_ble_eq_true rfl⟩) (fun r42 u43 H locs hq hP hD hS => ?_)
            obtain rfl := hq
            rw [show kz_w 1 4 = 100 from rfl]
            have hP : va_P D vwCl [(tx, .inr (7, [.ref bys, .int (nI ln), .int tok, .int (nI sta), .int (nI en), .int num, .ref wo, .ref fs, .ref sc, .int tfi, .int tgl, .int tst])), (bys, .inl (y 1, 150, .inl fby))] H := hP
            have hD : va_D A [(tx, .inr (7, [.ref bys, .int (nI ln), .int tok, .int (nI sta), .int (nI en), .int num, .ref wo, .ref fs, .ref sc, .int tfi, .int tgl, .int tst])), (bys, .inl (y 1, 150, .inl fby))] := hD
            refine lv_icmp_eq (tgt := 49) hx hb dX7_isWord_44 (by decide) (fun h44 => ?_) (fun h45 => ?_)
            · skip
              refine lv_iinc (v := 5) (lv' := [(2, .int 5), (0, .ref tx), (1, .ref (aK 1))]) hx hb dX7_isWord_49 hl (k := 0) rfl (by decide) (by decide) rfl (fun ls hl => ?_)
              refine lv_goto (tgt := 20) hx hb dX7_isWord_52 (by decide) ?_
              refine lv_iload_n hx hb dX7_isWord_20 rfl (lv_at hl 0 rfl) ?_
              refine lv_aload_n hx hb dX7_isWord_21 rfl (lv_at hl 2 rfl) ?_
              have hs46 : kw_Split [(tx, .inr (7, [.ref bys, .int (nI ln), .int tok, .int (nI sta), .int (nI en), .int num, .ref wo, .ref fs, .ref sc, .int tfi, .int tgl, .int tst])), (bys, .inl (y 1, 150, .inl fby))] [] [(tx, .inr (7, [.ref bys, .int (nI ln), .int tok, .int (nI sta), .int (nI en), .int num, .ref wo, .ref fs, .ref sc, .int tfi, .int tgl, .int tst])), (bys, .inl (y 1, 150, .inl fby))] [] [0, 1] := ⟨rfl, rfl, rfl, rfl, rfl, by decide⟩
              refine kw_go_i hs46 hP hD hS hA (va_runV (As := []) (rest := [.int 5]) ⟨hx, hb, hml, hown, hts⟩ (gj_length1 l D y aK aV  _) (cwV 0 hts gX7_isWord_J0_length_8abf5 rfl rfl rfl (by decide +kernel) ⟨Nat.le_of_ble_eq_true rfl, Nat.le_of_ble_eq_true rfl⟩) (kz_PreK (i := 1) hs46 hP hD hK hN (by decide) hZ hS hA) rfl rfl hl.1 rfl (lv_room (Nat.le_of_ble_eq_true rfl)) dX7_isWord_22 ⟨Nat.le_of_ble_eq_true rfl, Nat.le_of_ble_eq_true rfl⟩) (fun r47 u48 H locs hq hP hD hS => ?_)
              obtain rfl := hq
              have hP : va_P D vwCl [(tx, .inr (7, [.ref bys, .int (nI ln), .int tok, .int (nI sta), .int (nI en), .int num, .ref wo, .ref fs, .ref sc, .int tfi, .int tgl, .int tst])), (bys, .inl (y 1, 150, .inl fby))] H := hP
              have hD : va_D A [(tx, .inr (7, [.ref bys, .int (nI ln), .int tok, .int (nI sta), .int (nI en), .int num, .ref wo, .ref fs, .ref sc, .int tfi, .int tgl, .int tst])), (bys, .inl (y 1, 150, .inl fby))] := hD
              refine lv_icmp_ge (tgt := 55) hx hb dX7_isWord_25 (by decide) (fun _ => ?_) (fun h9 => absurd h9 (by decide))
              refine lv_iconst (v := 1) hx hb dX7_isWord_55 (by decide) ?_
              exact W.zret (v := 1) hx hb hr (by decide) (fun tZ ht hW => ⟨⟨1, (), rfl, Or.inl ⟨decide_eq_true ⟨by omega, h12, h20, h28, h36, h44⟩, rfl⟩, by rw [ht]; exact hP.sub [0, 1] rfl, hD.sub [0, 1] (by decide) rfl⟩, hS.F ht⟩) hS.2.2 dX7_isWord_56
            · skip
              refine lv_iconst (v := 0) hx hb dX7_isWord_47 (by decide) ?_
              exact W.zret (v := 0) hx hb hr (by decide) (fun tZ ht hW => ⟨⟨0, (), rfl, Or.inr (⟨fun q9 => absurd (of_decide_eq_true q9).2.2.2.2.2 h45, rfl⟩), by rw [ht]; exact hP.sub [0, 1] rfl, hD.sub [0, 1] (by decide) rfl⟩, hS.F ht⟩) hS.2.2 dX7_isWord_48
          · skip
            refine lv_iconst (v := 0) hx hb dX7_isWord_47 (by decide) ?_
            exact W.zret (v := 0) hx hb hr (by decide) (fun tZ ht hW => ⟨⟨0, (), rfl, Or.inr (⟨fun q9 => absurd (of_decide_eq_true q9).2.2.2.2.1 h37, rfl⟩), by rw [ht]; exact hP.sub [0, 1] rfl, hD.sub [0, 1] (by decide) rfl⟩, hS.F ht⟩) hS.2.2 dX7_isWord_48
        · skip
          refine lv_iconst (v := 0) hx hb dX7_isWord_47 (by decide) ?_
          exact W.zret (v := 0) hx hb hr (by decide) (fun tZ ht hW => ⟨⟨0, (), rfl, Or.inr (⟨fun q9 => absurd (of_decide_eq_true q9).2.2.2.1 h29, rfl⟩), by rw [ht]; exact hP.sub [0, 1] rfl, hD.sub [0, 1] (by decide) rfl⟩, hS.F ht⟩) hS.2.2 dX7_isWord_48
      · skip
        refine lv_iconst (v := 0) hx hb dX7_isWord_47 (by decide) ?_
        exact W.zret (v := 0) hx hb hr (by decide) (fun tZ ht hW => ⟨⟨0, (), rfl, Or.inr (⟨fun q9 => absurd (of_decide_eq_true q9).2.2.1 h21, rfl⟩), by rw [ht]; exact hP.sub [0, 1] rfl, hD.sub [0, 1] (by decide) rfl⟩, hS.F ht⟩) hS.2.2 dX7_isWord_48
    · skip
      refine lv_iconst (v := 0) hx hb dX7_isWord_47 (by decide) ?_
      exact W.zret (v := 0) hx hb hr (by decide) (fun tZ ht hW => ⟨⟨0, (), rfl, Or.inr (⟨fun q9 => absurd (of_decide_eq_true q9).2.1 h13, rfl⟩), by rw [ht]; exact hP.sub [0, 1] rfl, hD.sub [0, 1] (by decide) rfl⟩, hS.F ht⟩) hS.2.2 dX7_isWord_48
  · skip
    have h5 : ¬ (en - sta) = 5 := fun q9 => h5 ((nI_eq (a := (en - sta)) (b := 5) (by omega) (by omega)).mpr q9)
    refine lv_iconst (v := 0) hx hb dX7_isWord_16 (by decide) ?_
    exact W.zret (v := 0) hx hb hr (by decide) (fun tZ ht hW => ⟨⟨0, (), rfl, Or.inr (⟨fun q9 => absurd (of_decide_eq_true q9).1 (by omega), rfl⟩), by rw [ht]; exact hP.sub [0, 1] rfl, hD.sub [0, 1] (by decide) rfl⟩, hS.F ht⟩) hS.2.2 dX7_isWord_17
