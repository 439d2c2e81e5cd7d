set_option maxHeartbeats 4000000 in
set_option maxRecDepth 100000 in
theorem gs_MisSmall (l : Launch) (D : va_G) (y : Nat → ClassId) (x : Int32)  : kw_Mi l yX11_isSmall wsX11_isSmall ({ frames := 2, cells := 0, slots := 0, locals := 85 }) D y [.int x] [] (fun (r : Int32) (u : Unit) => (ks_l x = true ∧ r = 1) ∨ (¬ ks_l x = true ∧ r = 0)) (fun _ => []) 0 0 := by
  refine kw_Mi.of (cc := cX11_isSmall) (maxL := 1) (ret := (some .boolean)) (by decide) rfl ?_
  intro pZ eZ s mZ beZ meZ cZ A hE
  obtain ⟨hx, hb, hr, hml, hts, hown, hlocks, hin, hA, hP, hD, hK, hN⟩ := hE
  have hS : va_S A s.heap s.heap [] := va_S.rf
  have hl := lv_entry ([.int x]) (n := 1) (Nat.le_of_ble_eq_true rfl)
  rw [lg_entry_eq]
  generalize (lg_sl ([.int x]) ++ List.replicate (1 - (lg_sl ([.int x])).length) Slot.unset).toArray = ls at hl ⊢
  have hl : lv_has ls 1 [(0, .int x)] := hl
  have fw1 := hts (.constantLong RX11 214 (97)) (List.mem_of_getElem? (i := 1) rfl)
  have fw2 := hts (.constantLong RX11 216 (122)) (List.mem_of_getElem? (i := 2) rfl)
  refine lv_iload_n hx hb dX11_isSmall_0 rfl (lv_at hl 0 rfl) ?_
  refine lv_i2l (v := x.toInt64) hx hb dX11_isSmall_1 (rfl) ?_
  refine lv_ldc2 (v := 97) hx hb hown fw1 dX11_isSmall_2 ?_
  refine lv_ldc2 (v := 122) hx hb hown fw2 dX11_isSmall_5 ?_
  have hs1 : kw_Split [] [] [] [] [] := ⟨rfl, rfl, rfl, rfl, rfl, by decide⟩
  refine kw_go_i hs1 hP hD hS hA (va_runS (As := [.long x.toInt64, .long 97, .long 122]) (rest := []) ⟨hx, hb, hml, hown, hts⟩ (gr_in l D y x 97 122 (by omega) (by omega) _) (va_cwS 3 hts gX11_isSmall_X11_in rfl rfl rfl (by decide +kernel) ⟨Nat.le_of_ble_eq_true rfl, Nat.le_of_ble_eq_true rfl⟩) (kw_PreS hs1 hP hD hK hN) rfl rfl hl.1 rfl (lv_room (Nat.le_of_ble_eq_true rfl)) dX11_isSmall_8 ⟨Nat.le_of_ble_eq_true rfl, Nat.le_of_ble_eq_true rfl⟩) (fun r2 u3 H locs hq hP hD hS => ?_)
  rcases hq with ⟨j4, h5, h6, rfl, rfl⟩ | ⟨h7, rfl⟩
  · skip
    have hP : va_P D vwCl [] H := hP
    have hD : va_D A [] := hD
    exact W.zret (v := 1) hx hb hr (by decide) (fun tZ ht hW => ⟨⟨1, (), rfl, Or.inl ⟨ks_lj h5 h6, rfl⟩, by rw [ht]; exact hP.sub [] rfl, hD.sub [] (by decide) rfl⟩, hS.F ht⟩) hS.2.2 dX11_isSmall_11
  · skip
    have hP : va_P D vwCl [] H := hP
    have hD : va_D A [] := hD
    exact W.zret (v := 0) hx hb hr (by decide) (fun tZ ht hW => ⟨⟨0, (), rfl, Or.inr (⟨ks_lo h7, rfl⟩), by rw [ht]; exact hP.sub [] rfl, hD.sub [] (by decide) rfl⟩, hS.F ht⟩) hS.2.2 dX11_isSmall_11

set_option maxHeartbeats 4000000 in
set_option maxRecDepth 100000 in
theorem gs_MisFigure (l : Launch) (D : va_G) (y : Nat → ClassId) (x : Int32)  : kw_Mi l yX11_isFigure wsX11_isFigure ({ frames := 2, cells := 0, slots := 0, locals := 85 }) D y [.int x] [] (fun (r : Int32) (u : Unit) => (ks_f x = true ∧ r = 1) ∨ (¬ ks_f x = true ∧ r = 0)) (fun _ => []) 0 0 := by
  refine kw_Mi.of (cc := cX11_isFigure) (maxL := 1) (ret := (some .boolean)) (by decide) rfl ?_
  intro pZ eZ s mZ beZ meZ cZ A hE
  obtain ⟨hx, hb, hr, hml, hts, hown, hlocks, hin, hA, hP, hD, hK, hN⟩ := hE
  have hS : va_S A s.heap s.heap [] := va_S.rf
  have hl := lv_entry ([.int x]) (n := 1) (Nat.le_of_ble_eq_true rfl)
  rw [lg_entry_eq]
  generalize (lg_sl ([.int x]) ++ List.replicate (1 - (lg_sl ([.int x])).length) Slot.unset).toArray = ls at hl ⊢
  have hl : lv_has ls 1 [(0, .int x)] := hl
  have fw1 := hts (.constantLong RX11 218 (48)) (List.mem_of_getElem? (i := 1) rfl)
  have fw2 := hts (.constantLong RX11 220 (57)) (List.mem_of_getElem? (i := 2) rfl)
  refine lv_iload_n hx hb dX11_isFigure_0 rfl (lv_at hl 0 rfl) ?_
  refine lv_i2l (v := x.toInt64) hx hb dX11_isFigure_1 (rfl) ?_
  refine lv_ldc2 (v := 48) hx hb hown fw1 dX11_isFigure_2 ?_
  refine lv_ldc2 (v := 57) hx hb hown fw2 dX11_isFigure_5 ?_
  have hs1 : kw_Split [] [] [] [] [] := ⟨rfl, rfl, rfl, rfl, rfl, by decide⟩
  refine kw_go_i hs1 hP hD hS hA (va_runS (As := [.long x.toInt64, .long 48, .long 57]) (rest := []) ⟨hx, hb, hml, hown, hts⟩ (gr_in l D y x 48 57 (by omega) (by omega) _) (va_cwS 3 hts gX11_isFigure_X11_in rfl rfl rfl (by decide +kernel) ⟨Nat.le_of_ble_eq_true rfl, Nat.le_of_ble_eq_true rfl⟩) (kw_PreS hs1 hP hD hK hN) rfl rfl hl.1 rfl (lv_room (Nat.le_of_ble_eq_true rfl)) dX11_isFigure_8 ⟨Nat.le_of_ble_eq_true rfl, Nat.le_of_ble_eq_true rfl⟩) (fun r2 u3 H locs hq hP hD hS => ?_)
  rcases hq with ⟨j4, h5, h6, rfl, rfl⟩ | ⟨h7, rfl⟩
  · skip
    have hP : va_P D vwCl [] H := hP
    have hD : va_D A [] := hD
    exact W.zret (v := 1) hx hb hr (by decide) (fun tZ ht hW => ⟨⟨1, (), rfl, Or.inl ⟨ks_fk h5 h6, rfl⟩, by rw [ht]; exact hP.sub [] rfl, hD.sub [] (by decide) rfl⟩, hS.F ht⟩) hS.2.2 dX11_isFigure_11
  · skip
    have hP : va_P D vwCl [] H := hP
    have hD : va_D A [] := hD
    exact W.zret (v := 0) hx hb hr (by decide) (fun tZ ht hW => ⟨⟨0, (), rfl, Or.inr (⟨ks_fo h7, rfl⟩), by rw [ht]; exact hP.sub [] rfl, hD.sub [] (by decide) rfl⟩, hS.F ht⟩) hS.2.2 dX11_isFigure_11

set_option maxHeartbeats 4000000 in
set_option maxRecDepth 100000 in
theorem gr_Mlook (l : Launch) (D : va_G) (y : Nat → ClassId) (mo : Nat) (to : Nat) (ke : Nat) (ik : Nat) (mrf : Nat) (ha : Nat) (r0 : Nat) (mbr : Nat) (mbp : Nat) (mby : Nat) (an : Nat) (va : Nat) (mab : Int64) (mbl : Int64) (bl : Nat) (ta : Nat) (tl : Nat) (tk : Nat) (vv : Int32) (fmb : Nat → Int32) (k : Nat) (hbl : bl ≤ 150) (hA1 : k ≤ bl) : kw_Mv l yX11_lookAt wsX11_lookAt ({ frames := 3, cells := 0, slots := 0, locals := 105 }) D y [.ref mo, .int (nI k)] [(mo, .inr (11, [.ref to, .ref ke, .ref ik, .ref mrf, .long mab, .long mbl, .ref ha, .ref r0, .ref mbr, .ref mbp, .ref mby, .int (nI bl), .int (nI ta), .int (nI tl), .int (nI tk), .int vv, .ref an, .ref va])), (mby, .inl (y 0, 150, .inl fmb))] (fun (u : Nat × Nat × Nat × Int32) => u.1 ≤ bl ∧ u.2.1 ≤ 150 ∧ u.2.2.1 ≤ 4 ∧ k ≤ u.1 ∧ u.1 + u.2.1 ≤ bl ∧ kz_R fmb bl k u.1 u.2.1 u.2.2.1 u.2.2.2) (fun u => [(mo, .inr (11, [.ref to, .ref ke, .ref ik, .ref mrf, .long mab, .long mbl, .ref ha, .ref r0, .ref mbr, .ref mbp, .ref mby, .int (nI bl), .int (nI u.1), .int (nI u.2.1), .int (nI u.2.2.1), .int u.2.2.2, .ref an, .ref va])), (mby, .inl (y 0, 150, .inl fmb))]) 0 0 := by
  refine kw_Mv.of (cc := cX11_lookAt) (maxL := 5) (ret := none) (by decide) rfl ?_
  intro pZ eZ s mZ beZ meZ cZ A hE
  obtain ⟨hx, hb, hr, hml, hts, hown, hlocks, hin, hA, hP, hD, hK, hN⟩ := hE
  have hS : va_S A s.heap s.heap [] := va_S.rf
  have hl := lv_entry ([.ref mo, .int (nI k)]) (n := 5) (Nat.le_of_ble_eq_true rfl)
  rw [lg_entry_eq]
  generalize (lg_sl ([.ref mo, .int (nI k)]) ++ List.replicate (5 - (lg_sl ([.ref mo, .int (nI k)])).length) Slot.unset).toArray = ls at hl ⊢
  have hl : lv_has ls 5 [(0, .ref mo), (1, .int (nI k))] := hl
  have fw1 := hts (.fieldLink RX11 222 "GleanDuskModel" "tokenAt" "I") (List.mem_of_getElem? (i := 1) rfl)
  have fw2 := hts (.fieldLink RX11 210 "GleanDuskModel" "bytesLong" "I") (List.mem_of_getElem? (i := 2) rfl)
  have fw3 := hts (.fieldLink RX11 225 "GleanDuskModel" "tokenLong" "I") (List.mem_of_getElem? (i := 4) rfl)
  have fw4 := hts (.fieldLink RX11 228 "GleanDuskModel" "token" "I") (List.mem_of_getElem? (i := 5) rfl)
  have fw5 := hts (.fieldLink RX11 231 "GleanDuskModel" "value" "I") (List.mem_of_getElem? (i := 6) rfl)
  have fw6 := hts (.fieldLink RX11 39 "GleanDuskModel" "bytes" "[I") (List.mem_of_getElem? (i := 3) rfl)
  have iw11 : ∀ w ∈ wsX110, w ∈ wsX11_lookAt := fun _ h => List.mem_cons_of_mem _ (List.mem_append_right _ h)
  refine lv_aload_n hx hb dX11_lookAt_0 rfl (lv_at hl 0 rfl) ?_
  refine lv_iload_n hx hb dX11_lookAt_1 rfl (lv_at hl 1 rfl) ?_
  refine va_put (D := D) (ci := 11) (v := .int (nI k)) (ty := .int) (C := RX11) (T := TX11) (N := 18) hx hb hts iw11 tyX11 tyX11_ok nmX11 hown hK hP hD hS 0 rfl rfl 12 (by decide) fw1 (fun _ h9 => h9) rfl (by decide +kernel) rfl rfl (Nat.le_of_ble_eq_true rfl) dX11_lookAt_2 (fun H locs hP hD hS => ?_)
  have hP : va_P D vwCl [(mo, .inr (11, [.ref to, .ref ke, .ref ik, .ref mrf, .long mab, .long mbl, .ref ha, .ref r0, .ref mbr, .ref mbp, .ref mby, .int (nI bl), .int (nI k), .int (nI tl), .int (nI tk), .int vv, .ref an, .ref va])), (mby, .inl (y 0, 150, .inl fmb))] H := hP
  have hD : va_D A [(mo, .inr (11, [.ref to, .ref ke, .ref ik, .ref mrf, .long mab, .long mbl, .ref ha, .ref r0, .ref mbr, .ref mbp, .ref mby, .int (nI bl), .int (nI k), .int (nI tl), .int (nI tk), .int vv, .ref an, .ref va])), (mby, .inl (y 0, 150, .inl fmb))] := hD
  have lp292 : ∀ (fuj91 j91 : Nat)  (H : Heap) (locs : List Loc) (ls : Array Slot), j91 ≤ bl → bl - j91 < fuj91 → k ≤ j91 → ks_to ks_b fmb bl k = ks_to ks_b fmb bl j91 → va_P D vwCl [(mo, .inr (11, [.ref to, .ref ke, .ref ik, .ref mrf, .long mab, .long mbl, .ref ha, .ref r0, .ref mbr, .ref mbp, .ref mby, .int (nI bl), .int (nI j91), .int (nI tl), .int (nI tk), .int vv, .ref an, .ref va])), (mby, .inl (y 0, 150, .inl fmb))] H → va_D A [(mo, .inr (11, [.ref to, .ref ke, .ref ik, .ref mrf, .long mab, .long mbl, .ref ha, .ref r0, .ref mbr, .ref mbp, .ref mby, .int (nI bl), .int (nI j91), .int (nI tl), .int (nI tk), .int vv, .ref an, .ref va])), (mby, .inl (y 0, 150, .inl fmb))] → va_S A s.heap H locs → lv_has ls 5 [(0, .ref mo), (1, .int (nI k))] → W pZ l eZ ({ frames := 3, cells := 0, slots := 0, locals := 105 }) s mZ [.ref mo, .int (nI k)].toArray beZ meZ cZ H locs 0 0 (MQ beZ (va_Qv (fun (u : Nat × Nat × Nat × Int32) => u.1 ≤ bl ∧ u.2.1 ≤ 150 ∧ u.2.2.1 ≤ 4 ∧ k ≤ u.1 ∧ u.1 + u.2.1 ≤ bl ∧ kz_R fmb bl k u.1 u.2.1 u.2.2.1 u.2.2.2) (kw_B D (fun u => [(mo, .inr (11, [.ref to, .ref ke, .ref ik, .ref mrf, .long mab, .long mbl, .ref ha, .ref r0, .ref mbr, .ref mbp, .ref mby, .int (nI bl), .int (nI u.1), .int (nI u.2.1), .int (nI u.2.2.1), .int u.2.2.2, .ref an, .ref va])), (mby, .inl (y 0, 150, .inl fmb))]) A) A) [.ref mo, .int (nI k)].toArray s 0 0 A) (F0 mZ 5 ls []) := by
    intro fuj91
    induction fuj91 with
    | zero => intro j91  H locs ls hj9 hf9; exact absurd hf9 (Nat.not_lt_zero _)
    | succ fuj91 ihj91 =>
      intro j91  H locs ls hj91 hfj91 hlo_j91 hI0_j91 hP hD hS hl
      refine lv_aload_n hx hb dX11_lookAt_5 rfl (lv_at hl 0 rfl) ?_
      refine va_get (D := D) (ci := 11) (v := .int (nI j91)) (C := RX11) (T := TX11) (N := 18) hx hb hts iw11 hown hK hP 0 rfl rfl 12 (by decide) fw1 (fun _ h9 => h9) rfl dX11_lookAt_6 ?_
      refine lv_aload_n hx hb dX11_lookAt_9 rfl (lv_at hl 0 rfl) ?_
      refine va_get (D := D) (ci := 11) (v := .int (nI bl)) (C := RX11) (T := TX11) (N := 18) hx hb hts iw11 hown hK hP 0 rfl rfl 11 (by decide) fw2 (fun _ h9 => h9) rfl dX11_lookAt_10 ?_
      refine lv_icmp_ge (tgt := 43) hx hb dX11_lookAt_13 (by decide) (fun h293 => ?_) (fun h294 => ?_)
      · skip
        have h293 : bl ≤ j91 := (nI_leI (a := bl) (b := j91) (by omega) (by omega)).mp h293
        refine lv_aload_n hx hb dX11_lookAt_43 rfl (lv_at hl 0 rfl) ?_
        refine lv_iconst (v := 0) hx hb dX11_lookAt_44 (by decide) ?_
        refine va_put (D := D) (ci := 11) (v := .int 0) (ty := .int) (C := RX11) (T := TX11) (N := 18) hx hb hts iw11 tyX11 tyX11_ok nmX11 hown hK hP hD hS 0 rfl rfl 13 (by decide) fw3 (fun _ h9 => h9) rfl (by decide +kernel) rfl rfl (Nat.le_of_ble_eq_true rfl) dX11_lookAt_45 (fun H locs hP hD hS => ?_)
        have hP : va_P D vwCl [(mo, .inr (11, [.ref to, .ref ke, .ref ik, .ref mrf, .long mab, .long mbl, .ref ha, .ref r0, .ref mbr, .ref mbp, .ref mby, .int (nI bl), .int (nI j91), .int 0, .int (nI tk), .int vv, .ref an, .ref va])), (mby, .inl (y 0, 150, .inl fmb))] H := hP
        have hD : va_D A [(mo, .inr (11, [.ref to, .ref ke, .ref ik, .ref mrf, .long mab, .long mbl, .ref ha, .ref r0, .ref mbr, .ref mbp, .ref mby, .int (nI bl), .int (nI j91), .int 0, .int (nI tk), .int vv, .ref an, .ref va])), (mby, .inl (y 0, 150, .inl fmb))] := hD
        refine lv_aload_n hx hb dX11_lookAt_48 rfl (lv_at hl 0 rfl) ?_
        refine lv_iconst (v := 0) hx hb dX11_lookAt_49 (by decide) ?_
        refine va_put (D := D) (ci := 11) (v := .int 0) (ty := .int) (C := RX11) (T := TX11) (N := 18) hx hb hts iw11 tyX11 tyX11_ok nmX11 hown hK hP hD hS 0 rfl rfl 14 (by decide) fw4 (fun _ h9 => h9) rfl (by decide +kernel) rfl rfl (Nat.le_of_ble_eq_true rfl) dX11_lookAt_50 (fun H locs hP hD hS => ?_)
        have hP : va_P D vwCl [(mo, .inr (11, [.ref to, .ref ke, .ref ik, .ref mrf, .long mab, .long mbl, .ref ha, .ref r0, .ref mbr, .ref mbp, .ref mby, .int (nI bl), .int (nI j91), .int 0, .int 0, .int vv, .ref an, .ref va])), (mby, .inl (y 0, 150, .inl fmb))] H := hP
        have hD : va_D A [(mo, .inr (11, [.ref to, .ref ke, .ref ik, .ref mrf, .long mab, .long mbl, .ref ha, .ref r0, .ref mbr, .ref mbp, .ref mby, .int (nI bl), .int (nI j91), .int 0, .int 0, .int vv, .ref an, .ref va])), (mby, .inl (y 0, 150, .inl fmb))] := hD
        refine lv_aload_n hx hb dX11_lookAt_53 rfl (lv_at hl 0 rfl) ?_
        refine lv_iconst (v := 0) hx hb dX11_lookAt_54 (by decide) ?_
        refine va_put (D := D) (ci := 11) (v := .int 0) (ty := .int) (C := RX11) (T := TX11) (N := 18) hx hb hts iw11 tyX11 tyX11_ok nmX11 hown hK hP hD hS 0 rfl rfl 15 (by decide) fw5 (fun _ h9 => h9) rfl (by decide +kernel) rfl rfl (Nat.le_of_ble_eq_true rfl) dX11_lookAt_55 (fun H locs hP hD hS => ?_)
        have hP : va_P D vwCl [(mo, .inr (11, [.ref to, .ref ke, .ref ik, .ref mrf, .long mab, .long mbl, .ref ha, .ref r0, .ref mbr, .ref mbp, .ref mby, .int (nI bl), .int (nI j91), .int 0, .int 0, .int 0, .ref an, .ref va])), (mby, .inl (y 0, 150, .inl fmb))] H := hP
        have hD : va_D A [(mo, .inr (11, [.ref to, .ref ke, .ref ik, .ref mrf, .long mab, .long mbl, .ref ha, .ref r0, .ref mbr, .ref mbp, .ref mby, .int (nI bl), .int (nI j91), .int 0, .int 0, .int 0, .ref an, .ref va])), (mby, .inl (y 0, 150, .inl fmb))] := hD
        refine lv_aload_n hx hb dX11_lookAt_58 rfl (lv_at hl 0 rfl) ?_
        refine va_get (D := D) (ci := 11) (v := .int (nI j91)) (C := RX11) (T := TX11) (N := 18) hx hb hts iw11 hown hK hP 0 rfl rfl 12 (by decide) fw1 (fun _ h9 => h9) rfl dX11_lookAt_59 ?_
        refine lv_aload_n hx hb dX11_lookAt_62 rfl (lv_at hl 0 rfl) ?_
        refine va_get (D := D) (ci := 11) (v := .int (nI bl)) (C := RX11) (T := TX11) (N := 18) hx hb hts iw11 hown hK hP 0 rfl rfl 11 (by decide) fw2 (fun _ h9 => h9) rfl dX11_lookAt_63 ?_
        refine lv_icmp_ne (tgt := 70) hx hb dX11_lookAt_66 (by decide) (fun h295 => ?_) (fun h296 => ?_)
        · skip
          have h295 : ¬ j91 = bl := fun q9 => h295 ((nI_eq (a := j91) (b := bl) (by omega) (by omega)).mpr q9)
          exact absurd (show j91 = bl by omega) h295
        · skip
          have h296 : j91 = bl := (nI_eq (a := j91) (b := bl) (by omega) (by omega)).mp h296
          exact W.vret hx hb hr (fun tZ ht hW => ⟨⟨(j91, 0, 0, 0), rfl, ⟨by first | omega | (dsimp only; omega), by first | omega | (dsimp only; omega), by first | omega | (dsimp only; omega), by first | omega | (dsimp only; omega), by first | omega | (dsimp only; omega), kz_R.mk (ks_s3 hI0_j91 (by first | omega | (dsimp only; omega))) (kz_Tn_e (by first | omega | (dsimp only; omega)))⟩, by rw [ht]; exact hP.sub [0, 1] rfl, hD.sub [0, 1] (by decide) rfl⟩, hS.F ht⟩) hS.2.2 dX11_lookAt_69
      · skip
        have h294 : ¬ bl ≤ j91 := fun q9 => h294 ((nI_leI (a := bl) (b := j91) (by omega) (by omega)).mpr q9)
        refine lv_aload_n hx hb dX11_lookAt_16 rfl (lv_at hl 0 rfl) ?_
        refine va_get (D := D) (ci := 11) (v := .ref mby) (C := RX11) (T := TX11) (N := 18) hx hb hts iw11 hown hK hP 0 rfl rfl 10 (by decide) fw6 (fun _ h9 => h9) rfl dX11_lookAt_17 ?_
        refine lv_aload_n hx hb dX11_lookAt_20 rfl (lv_at hl 0 rfl) ?_
        refine va_get (D := D) (ci := 11) (v := .int (nI j91)) (C := RX11) (T := TX11) (N := 18) hx hb hts iw11 hown hK hP 0 rfl rfl 12 (by decide) fw1 (fun _ h9 => h9) rfl dX11_lookAt_21 ?_
        refine va_iald hx hb hK hP 1 0 rfl rfl (vp_in_nI (by omega) (by decide)) dX11_lookAt_24 ?_
        rw [nI_clamp (n := j91) (by omega)]
        refine lv_bipush (v := 32) hx hb dX11_lookAt_25 (by decide) ?_
        refine lv_icmp_ne (tgt := 43) hx hb dX11_lookAt_27 (by decide) (fun h297 => ?_) (fun h298 => ?_)
        · skip
          refine lv_aload_n hx hb dX11_lookAt_43 rfl (lv_at hl 0 rfl) ?_
          refine lv_iconst (v := 0) hx hb dX11_lookAt_44 (by decide) ?_
          refine va_put (D := D) (ci := 11) (v := .int 0) (ty := .int) (C := RX11) (T := TX11) (N := 18) hx hb hts iw11 tyX11 tyX11_ok nmX11 hown hK hP hD hS 0 rfl rfl 13 (by decide) fw3 (fun _ h9 => h9) rfl (by decide +kernel) rfl rfl (Nat.le_of_ble_eq_true rfl) dX11_lookAt_45 (fun H locs hP hD hS => ?_)
          have hP : va_P D vwCl [(mo, .inr (11, [.ref to, .ref ke, .ref ik, .ref mrf, .long mab, .long mbl, .ref ha, .ref r0, .ref mbr, .ref mbp, .ref mby, .int (nI bl), .int (nI j91), .int 0, .int (nI tk), .int vv, .ref an, .ref va])), (mby, .inl (y 0, 150, .inl fmb))] H := hP
          have hD : va_D A [(mo, .inr (11, [.ref to, .ref ke, .ref ik, .ref mrf, .long mab, .long mbl, .ref ha, .ref r0, .ref mbr, .ref mbp, .ref mby, .int (nI bl), .int (nI j91), .int 0, .int (nI tk), .int vv, .ref an, .ref va])), (mby, .inl (y 0, 150, .inl fmb))] := hD
          refine lv_aload_n hx hb dX11_lookAt_48 rfl (lv_at hl 0 rfl) ?_
          refine lv_iconst (v := 0) hx hb dX11_lookAt_49 (by decide) ?_
          refine va_put (D := D) (ci := 11) (v := .int 0) (ty := .int) (C := RX11) (T := TX11) (N := 18) hx hb hts iw11 tyX11 tyX11_ok nmX11 hown hK hP hD hS 0 rfl rfl 14 (by decide) fw4 (fun _ h9 => h9) rfl (by decide +kernel) rfl rfl (Nat.le_of_ble_eq_true rfl) dX11_lookAt_50 (fun H locs hP hD hS => ?_)
          have hP : va_P D vwCl [(mo, .inr (11, [.ref to, .ref ke, .ref ik, .ref mrf, .long mab, .long mbl, .ref ha, .ref r0, .ref mbr, .ref mbp, .ref mby, .int (nI bl), .int (nI j91), .int 0, .int 0, .int vv, .ref an, .ref va])), (mby, .inl (y 0, 150, .inl fmb))] H := hP
          have hD : va_D A [(mo, .inr (11, [.ref to, .ref ke, .ref ik, .ref mrf, .long mab, .long mbl, .ref ha, .ref r0, .ref mbr, .ref mbp, .ref mby, .int (nI bl), .int (nI j91), .int 0, .int 0, .int vv, .ref an, .ref va])), (mby, .inl (y 0, 150, .inl fmb))] := hD
          refine lv_aload_n hx hb dX11_lookAt_53 rfl (lv_at hl 0 rfl) ?_
          refine lv_iconst (v := 0) hx hb dX11_lookAt_54 (by decide) ?_
          refine va_put (D := D) (ci := 11) (v := .int 0) (ty := .int) (C := RX11) (T := TX11) (N := 18) hx hb hts iw11 tyX11 tyX11_ok nmX11 hown hK hP hD hS 0 rfl rfl 15 (by decide) fw5 (fun _ h9 => h9) rfl (by decide +kernel) rfl rfl (Nat.le_of_ble_eq_true rfl) dX11_lookAt_55 (fun H locs hP hD hS => ?_)
          have hP : va_P D vwCl [(mo, .inr (11, [.ref to, .ref ke, .ref ik, .ref mrf, .long mab, .long mbl, .ref ha, .ref r0, .ref mbr, .ref mbp, .ref mby, .int (nI bl), .int (nI j91), .int 0, .int 0, .int 0, .ref an, .ref va])), (mby, .inl (y 0, 150, .inl fmb))] H := hP
          have hD : va_D A [(mo, .inr (11, [.ref to, .ref ke, .ref ik, .ref mrf, .long mab, .long mbl, .ref ha, .ref r0, .ref mbr, .ref mbp, .ref mby, .int (nI bl), .int (nI j91), .int 0, .int 0, .int 0, .ref an, .ref va])), (mby, .inl (y 0, 150, .inl fmb))] := hD
          refine lv_aload_n hx hb dX11_lookAt_58 rfl (lv_at hl 0 rfl) ?_
          refine va_get (D := D) (ci := 11) (v := .int (nI j91)) (C := RX11) (T := TX11) (N := 18) hx hb hts iw11 hown hK hP 0 rfl rfl 12 (by decide) fw1 (fun _ h9 => h9) rfl dX11_lookAt_59 ?_
          refine lv_aload_n hx hb dX11_lookAt_62 rfl (lv_at hl 0 rfl) ?_
          refine va_get (D := D) (ci := 11) (v := .int (nI bl)) (C := RX11) (T := TX11) (N := 18) hx hb hts iw11 hown hK hP 0 rfl rfl 11 (by decide) fw2 (fun _ h9 => h9) rfl dX11_lookAt_63 ?_
          refine lv_icmp_ne (tgt := 70) hx hb dX11_lookAt_66 (by decide) (fun h299 => ?_) (fun h300 => ?_)
          · skip
            have h299 : ¬ j91 = bl := fun q9 => h299 ((nI_eq (a := j91) (b := bl) (by omega) (by omega)).mpr q9)
            refine lv_aload_n hx hb dX11_lookAt_70 rfl (lv_at hl 0 rfl) ?_
            refine va_get (D := D) (ci := 11) (v := .ref mby) (C := RX11) (T := TX11) (N := 18) hx hb hts iw11 hown hK hP 0 rfl rfl 10 (by decide) fw6 (fun _ h9 => h9) rfl dX11_lookAt_71 ?_
            refine lv_aload_n hx hb dX11_lookAt_74 rfl (lv_at hl 0 rfl) ?_
            refine va_get (D := D) (ci := 11) (v := .int (nI j91)) (C := RX11) (T := TX11) (N := 18) hx hb hts iw11 hown hK hP 0 rfl rfl 12 (by decide) fw1 (fun _ h9 => h9) rfl dX11_lookAt_75 ?_
            refine va_iald hx hb hK hP 1 0 rfl rfl (vp_in_nI (by omega) (by decide)) dX11_lookAt_78 ?_
            rw [nI_clamp (n := j91) (by omega)]
            refine lv_istore_n (lv' := [(2, .int (fmb j91)), (0, .ref mo), (1, .int (nI k))]) hx hb dX11_lookAt_79 rfl hl (by decide) rfl (fun ls hl => ?_)
            refine lv_aload_n hx hb dX11_lookAt_80 rfl (lv_at hl 1 rfl) ?_
            refine lv_iload_n hx hb dX11_lookAt_81 rfl (lv_at hl 0 rfl) ?_
            have hs301 : kw_Split [(mo, .inr (11, [.ref to, .ref ke, .ref ik, .ref mrf, .long mab, .long mbl, .ref ha, .ref r0, .ref mbr, .ref mbp, .ref mby, .int (nI bl), .int (nI j91), .int 0, .int 0, .int 0, .ref an, .ref va])), (mby, .inl (y 0, 150, .inl fmb))] [] [(mo, .inr (11, [.ref to, .ref ke, .ref ik, .ref mrf, .long mab, .long mbl, .ref ha, .ref r0, .ref mbr, .ref mbp, .ref mby, .int (nI bl), .int (nI j91), .int 0, .int 0, .int 0, .ref an, .ref va])), (mby, .inl (y 0, 150, .inl fmb))] [] [0, 1] := ⟨rfl, rfl, rfl, rfl, rfl, by decide⟩
            refine kw_go_i hs301 hP hD hS hA (va_runS (As := [.int (fmb j91)]) (rest := [.ref mo]) ⟨hx, hb, hml, hown, hts⟩ (gs_MisSmall l D y (fmb j91)  _) (va_cwS 1 hts gX11_lookAt_X11_isSmall rfl rfl rfl (by decide +kernel) ⟨Nat.le_of_ble_eq_true rfl, Nat.le_of_ble_eq_true rfl⟩) (kw_PreS hs301 hP hD hK hN) rfl rfl hl.1 rfl (lv_room (Nat.le_of_ble_eq_true rfl)) dX11_lookAt_82 ⟨Nat.le_of_ble_eq_true rfl, Nat.le_of_ble_eq_true rfl⟩) (fun r302 u303 H locs hq hP hD hS => ?_)
            rcases hq with ⟨h304, rfl⟩ | ⟨h305, rfl⟩
            · skip
              have hP : va_P D vwCl [(mo, .inr (11, [.ref to, .ref ke, .ref ik, .ref mrf, .long mab, .long mbl, .ref ha, .ref r0, .ref mbr, .ref mbp, .ref mby, .int (nI bl), .int (nI j91), .int 0, .int 0, .int 0, .ref an, .ref va])), (mby, .inl (y 0, 150, .inl fmb))] H := hP
              have hD : va_D A [(mo, .inr (11, [.ref to, .ref ke, .ref ik, .ref mrf, .long mab, .long mbl, .ref ha, .ref r0, .ref mbr, .ref mbp, .ref mby, .int (nI bl), .int (nI j91), .int 0, .int 0, .int 0, .ref an, .ref va])), (mby, .inl (y 0, 150, .inl fmb))] := hD
              refine lv_if_eq (tgt := 92) hx hb dX11_lookAt_85 (by decide) (fun h9 => absurd h9 (by decide)) (fun _ => ?_)
              refine lv_iconst (v := 1) hx hb dX11_lookAt_88 (by decide) ?_
              refine lv_goto (tgt := 114) hx hb dX11_lookAt_89 (by decide) ?_
              refine va_put (D := D) (ci := 11) (v := .int 1) (ty := .int) (C := RX11) (T := TX11) (N := 18) hx hb hts iw11 tyX11 tyX11_ok nmX11 hown hK hP hD hS 0 rfl rfl 14 (by decide) fw4 (fun _ h9 => h9) rfl (by decide +kernel) rfl rfl (Nat.le_of_ble_eq_true rfl) dX11_lookAt_114 (fun H locs hP hD hS => ?_)
              have hP : va_P D vwCl [(mo, .inr (11, [.ref to, .ref ke, .ref ik, .ref mrf, .long mab, .long mbl, .ref ha, .ref r0, .ref mbr, .ref mbp, .ref mby, .int (nI bl), .int (nI j91), .int 0, .int 1, .int 0, .ref an, .ref va])), (mby, .inl (y 0, 150, .inl fmb))] H := hP
              have hD : va_D A [(mo, .inr (11, [.ref to, .ref ke, .ref ik, .ref mrf, .long mab, .long mbl, .ref ha, .ref r0, .ref mbr, .ref mbp, .ref mby, .int (nI bl), .int (nI j91), .int 0, .int 1, .int 0, .ref an, .ref va])), (mby, .inl (y 0, 150, .inl fmb))] := hD
              refine lv_aload_n hx hb dX11_lookAt_117 rfl (lv_at hl 1 rfl) ?_
              refine lv_iconst (v := 1) hx hb dX11_lookAt_118 (by decide) ?_
              refine va_put (D := D) (ci := 11) (v := .int 1) (ty := .int) (C := RX11) (T := TX11) (N := 18) hx hb hts iw11 tyX11 tyX11_ok nmX11 hown hK hP hD hS 0 rfl rfl 13 (by decide) fw3 (fun _ h9 => h9) rfl (by decide +kernel) rfl rfl (Nat.le_of_ble_eq_true rfl) dX11_lookAt_119 (fun H locs hP hD hS => ?_)
              have hP : va_P D vwCl [(mo, .inr (11, [.ref to, .ref ke, .ref ik, .ref mrf, .long mab, .long mbl, .ref ha, .ref r0, .ref mbr, .ref mbp, .ref mby, .int (nI bl), .int (nI j91), .int 1, .int 1, .int 0, .ref an, .ref va])), (mby, .inl (y 0, 150, .inl fmb))] H := hP
              have hD : va_D A [(mo, .inr (11, [.ref to, .ref ke, .ref ik, .ref mrf, .long mab, .long mbl, .ref ha, .ref r0, .ref mbr, .ref mbp, .ref mby, .int (nI bl), .int (nI j91), .int 1, .int 1, .int 0, .ref an, .ref va])), (mby, .inl (y 0, 150, .inl fmb))] := hD
              refine lv_aload_n hx hb dX11_lookAt_122 rfl (lv_at hl 1 rfl) ?_
              refine va_get (D := D) (ci := 11) (v := .int 1) (C := RX11) (T := TX11) (N := 18) hx hb hts iw11 hown hK hP 0 rfl rfl 14 (by decide) fw4 (fun _ h9 => h9) rfl dX11_lookAt_123 ?_
              refine lv_iconst (v := 3) hx hb dX11_lookAt_126 (by decide) ?_
              refine lv_icmp_ge (tgt := 134) hx hb dX11_lookAt_127 (by decide) (fun h9 => absurd h9 (by decide)) (fun _ => ?_)
              refine lv_iconst (v := 1) hx hb dX11_lookAt_130 (by decide) ?_
              refine lv_goto (tgt := 135) hx hb dX11_lookAt_131 (by decide) ?_
              refine lv_istore_n (lv' := [(3, .int 1), (2, .int (fmb j91)), (0, .ref mo), (1, .int (nI k))]) hx hb dX11_lookAt_135 rfl hl (by decide) rfl (fun ls hl => ?_)
              have lp330 : ∀ (fu92 : Nat) (x315 : Nat) (x316 : Nat) (H : Heap) (locs : List Loc) (ls : Array Slot), (bl - j91 - x315) + x316 < fu92 → x315 ≤ 150 → x316 ≤ 1 → ks_to ks_l fmb bl j91 = ks_to ks_l fmb bl (j91 + x315) → (x316 = 0 → ¬ ks_l (fmb (j91 + x315)) = true) → j91 + x315 ≤ bl → 1 ≤ x315 → va_P D vwCl [(mo, .inr (11, [.ref to, .ref ke, .ref ik, .ref mrf, .long mab, .long mbl, .ref ha, .ref r0, .ref mbr, .ref mbp, .ref mby, .int (nI bl), .int (nI j91), .int (nI x315), .int 1, .int 0, .ref an, .ref va])), (mby, .inl (y 0, 150, .inl fmb))] H → va_D A [(mo, .inr (11, [.ref to, .ref ke, .ref ik, .ref mrf, .long mab, .long mbl, .ref ha, .ref r0, .ref mbr, .ref mbp, .ref mby, .int (nI bl), .int (nI j91), .int (nI x315), .int 1, .int 0, .ref an, .ref va])), (mby, .inl (y 0, 150, .inl fmb))] → va_S A s.heap H locs → lv_has ls 5 [(3, .int (nI x316)), (2, .int (fmb j91)), (0, .ref mo), (1, .int (nI k))] → W pZ l eZ ({ frames := 3, cells := 0, slots := 0, locals := 105 }) s mZ [.ref mo, .int (nI k)].toArray beZ meZ cZ H locs 0 0 (MQ beZ (va_Qv (fun (u : Nat × Nat × Nat × Int32) => u.1 ≤ bl ∧ u.2.1 ≤ 150 ∧ u.2.2.1 ≤ 4 ∧ k ≤ u.1 ∧ u.1 + u.2.1 ≤ bl ∧ kz_R fmb bl k u.1 u.2.1 u.2.2.1 u.2.2.2) (kw_B D (fun u => [(mo, .inr (11, [.ref to, .ref ke, .ref ik, .ref mrf, .long mab, .long mbl, .ref ha, .ref r0, .ref mbr, .ref mbp, .ref mby, .int (nI bl), .int (nI u.1), .int (nI u.2.1), .int (nI u.2.2.1), .int u.2.2.2, .ref an, .ref va])), (mby, .inl (y 0, 150, .inl fmb))]) A) A) [.ref mo, .int (nI k)].toArray s 0 0 A) (F0 mZ 136 ls []) := by
                intro fu92
                induction fu92 with
                | zero => intro x315 x316 H locs ls hf9; exact absurd hf9 (Nat.not_lt_zero _)
                | succ fu92 ihfu92 =>
                  intro x315 x316 H locs ls hffu92 hn_x315 hn_x316 hJ0_fu92 hJ1_fu92 hJ2_fu92 hJ3_fu92 hP hD hS hl
                  refine lv_iload_n hx hb dX11_lookAt_136 rfl (lv_at hl 0 rfl) ?_
                  refine lv_if_eq (tgt := 215) hx hb dX11_lookAt_137 (by decide) (fun h331 => ?_) (fun h332 => ?_)
                  · skip
                    have h331 : x316 = 0 := (nI_eq (a := x316) (b := 0) (by omega) (by omega)).mp h331
                    have hE9 : ks_to ks_l fmb bl j91 = j91 + x315 := ks_s2 hJ0_fu92 (hJ1_fu92 h331)
                    refine lv_iconst (v := 0) hx hb dX11_lookAt_215 (by decide) ?_
                    refine lv_istore (lv' := [(4, .int 0), (3, .int (nI x316)), (2, .int (fmb j91)), (0, .ref mo), (1, .int (nI k))]) hx hb dX11_lookAt_216 hl (by decide) rfl (fun ls hl => ?_)
                    refine lv_iload hx hb dX11_lookAt_218 (lv_at hl 0 rfl) ?_
                    refine lv_aload_n hx hb dX11_lookAt_220 rfl (lv_at hl 3 rfl) ?_
                    refine va_get (D := D) (ci := 11) (v := .int (nI x315)) (C := RX11) (T := TX11) (N := 18) hx hb hts iw11 hown hK hP 0 rfl rfl 13 (by decide) fw3 (fun _ h9 => h9) rfl dX11_lookAt_221 ?_
                    refine lv_icmp_ge (tgt := 274) hx hb dX11_lookAt_224 (by decide) (fun h333 => ?_) (fun h334 => ?_)
                    · skip
                      have h333 : x315 ≤ 0 := (nI_leI (a := x315) (b := 0) (by omega) (by omega)).mp h333
                      refine lv_aload_n hx hb dX11_lookAt_274 rfl (lv_at hl 3 rfl) ?_
                      refine lv_aload_n hx hb dX11_lookAt_275 rfl (lv_at hl 3 rfl) ?_
                      refine va_get (D := D) (ci := 11) (v := .int 1) (C := RX11) (T := TX11) (N := 18) hx hb hts iw11 hown hK hP 0 rfl rfl 14 (by decide) fw4 (fun _ h9 => h9) rfl dX11_lookAt_276 ?_
                      refine lv_iconst (v := 2) hx hb dX11_lookAt_279 (by decide) ?_
                      refine lv_icmp_ne (tgt := 295) hx hb dX11_lookAt_280 (by decide) (fun _ => ?_) (fun h9 => absurd h9 (by decide))
                      refine lv_aload_n hx hb dX11_lookAt_295 rfl (lv_at hl 3 rfl) ?_
                      refine va_get (D := D) (ci := 11) (v := .int 1) (C := RX11) (T := TX11) (N := 18) hx hb hts iw11 hown hK hP 0 rfl rfl 14 (by decide) fw4 (fun _ h9 => h9) rfl dX11_lookAt_296 ?_
                      refine va_put (D := D) (ci := 11) (v := .int 1) (ty := .int) (C := RX11) (T := TX11) (N := 18) hx hb hts iw11 tyX11 tyX11_ok nmX11 hown hK hP hD hS 0 rfl rfl 14 (by decide) fw4 (fun _ h9 => h9) rfl (by decide +kernel) rfl rfl (Nat.le_of_ble_eq_true rfl) dX11_lookAt_299 (fun H locs hP hD hS => ?_)
                      have hP : va_P D vwCl [(mo, .inr (11, [.ref to, .ref ke, .ref ik, .ref mrf, .long mab, .long mbl, .ref ha, .ref r0, .ref mbr, .ref mbp, .ref mby, .int (nI bl), .int (nI j91), .int (nI x315), .int 1, .int 0, .ref an, .ref va])), (mby, .inl (y 0, 150, .inl fmb))] H := hP
                      have hD : va_D A [(mo, .inr (11, [.ref to, .ref ke, .ref ik, .ref mrf, .long mab, .long mbl, .ref ha, .ref r0, .ref mbr, .ref mbp, .ref mby, .int (nI bl), .int (nI j91), .int (nI x315), .int 1, .int 0, .ref an, .ref va])), (mby, .inl (y 0, 150, .inl fmb))] := hD
                      exact W.vret hx hb hr (fun tZ ht hW => ⟨⟨(j91, x315, 1, 0), rfl, ⟨by first | omega | (dsimp only; omega), by first | omega | (dsimp only; omega), by first | omega | (dsimp only; omega), by first | omega | (dsimp only; omega), by first | omega | (dsimp only; omega), kz_R.mk (ks_s2 hI0_j91 (ks_b_n h297)) (kz_Tn_l (by first | omega | (dsimp only; omega)) h304 hE9)⟩, by rw [ht]; exact hP.sub [0, 1] rfl, hD.sub [0, 1] (by decide) rfl⟩, hS.F ht⟩) hS.2.2 dX11_lookAt_302
                    · skip
                      have h334 : ¬ x315 ≤ 0 := fun q9 => h334 ((nI_leI (a := x315) (b := 0) (by omega) (by omega)).mpr q9)
                      refine lv_iload hx hb dX11_lookAt_227 (lv_at hl 0 rfl) ?_
                      refine lv_iconst (v := 2) hx hb dX11_lookAt_229 (by decide) ?_
                      refine lv_icmp_ge (tgt := 274) hx hb dX11_lookAt_230 (by decide) (fun h9 => absurd h9 (by decide)) (fun _ => ?_)
                      refine lv_aload_n hx hb dX11_lookAt_233 rfl (lv_at hl 3 rfl) ?_
                      refine va_get (D := D) (ci := 11) (v := .int 1) (C := RX11) (T := TX11) (N := 18) hx hb hts iw11 hown hK hP 0 rfl rfl 14 (by decide) fw4 (fun _ h9 => h9) rfl dX11_lookAt_234 ?_
                      refine lv_iconst (v := 2) hx hb dX11_lookAt_237 (by decide) ?_
                      refine lv_icmp_ne (tgt := 274) hx hb dX11_lookAt_238 (by decide) (fun _ => ?_) (fun h9 => absurd h9 (by decide))
                      refine lv_aload_n hx hb dX11_lookAt_274 rfl (lv_at hl 3 rfl) ?_
                      refine lv_aload_n hx hb dX11_lookAt_275 rfl (lv_at hl 3 rfl) ?_
                      refine va_get (D := D) (ci := 11) (v := .int 1) (C := RX11) (T := TX11) (N := 18) hx hb hts iw11 hown hK hP 0 rfl rfl 14 (by decide) fw4 (fun _ h9 => h9) rfl dX11_lookAt_276 ?_
                      refine lv_iconst (v := 2) hx hb dX11_lookAt_279 (by decide) ?_
                      refine lv_icmp_ne (tgt := 295) hx hb dX11_lookAt_280 (by decide) (fun _ => ?_) (fun h9 => absurd h9 (by decide))
                      refine lv_aload_n hx hb dX11_lookAt_295 rfl (lv_at hl 3 rfl) ?_
                      refine va_get (D := D) (ci := 11) (v := .int 1) (C := RX11) (T := TX11) (N := 18) hx hb hts iw11 hown hK hP 0 rfl rfl 14 (by decide) fw4 (fun _ h9 => h9) rfl dX11_lookAt_296 ?_
                      refine va_put (D := D) (ci := 11) (v := .int 1) (ty := .int) (C := RX11) (T := TX11) (N := 18) hx hb hts iw11 tyX11 tyX11_ok nmX11 hown hK hP hD hS 0 rfl rfl 14 (by decide) fw4 (fun _ h9 => h9) rfl (by decide +kernel) rfl rfl (Nat.le_of_ble_eq_true rfl) dX11_lookAt_299 (fun H locs hP hD hS => ?_)
                      have hP : va_P D vwCl [(mo, .inr (11, [.ref to, .ref ke, .ref ik, .ref mrf, .long mab, .long mbl, .ref ha, .ref r0, .ref mbr, .ref mbp, .ref mby, .int (nI bl), .int (nI j91), .int (nI x315), .int 1, .int 0, .ref an, .ref va])), (mby, .inl (y 0, 150, .inl fmb))] H := hP
                      have hD : va_D A [(mo, .inr (11, [.ref to, .ref ke, .ref ik, .ref mrf, .long mab, .long mbl, .ref ha, .ref r0, .ref mbr, .ref mbp, .ref mby, .int (nI bl), .int (nI j91), .int (nI x315), .int 1, .int 0, .ref an, .ref va])), (mby, .inl (y 0, 150, .inl fmb))] := hD
                      exact W.vret hx hb hr (fun tZ ht hW => ⟨⟨(j91, x315, 1, 0), rfl, ⟨by first | omega | (dsimp only; omega), by first | omega | (dsimp only; omega), by first | omega | (dsimp only; omega), by first | omega | (dsimp only; omega), by first | omega | (dsimp only; omega), kz_R.mk (ks_s2 hI0_j91 (ks_b_n h297)) (kz_Tn_l (by first | omega | (dsimp only; omega)) h304 hE9)⟩, by rw [ht]; exact hP.sub [0, 1] rfl, hD.sub [0, 1] (by decide) rfl⟩, hS.F ht⟩) hS.2.2 dX11_lookAt_302
                  · skip
                    have h332 : ¬ x316 = 0 := fun q9 => h332 ((nI_eq (a := x316) (b := 0) (by omega) (by omega)).mpr q9)
                    refine lv_aload_n hx hb dX11_lookAt_140 rfl (lv_at hl 2 rfl) ?_
                    refine va_get (D := D) (ci := 11) (v := .int (nI j91)) (C := RX11) (T := TX11) (N := 18) hx hb hts iw11 hown hK hP 0 rfl rfl 12 (by decide) fw1 (fun _ h9 => h9) rfl dX11_lookAt_141 ?_
                    refine lv_aload_n hx hb dX11_lookAt_144 rfl (lv_at hl 2 rfl) ?_
                    refine va_get (D := D) (ci := 11) (v := .int (nI x315)) (C := RX11) (T := TX11) (N := 18) hx hb hts iw11 hown hK hP 0 rfl rfl 13 (by decide) fw3 (fun _ h9 => h9) rfl dX11_lookAt_145 ?_
                    refine lv_iadd hx hb dX11_lookAt_148 ?_
                    rw [show (nI j91) + (nI x315) = nI (j91 + x315) from nI_add j91 x315]
                    refine lv_aload_n hx hb dX11_lookAt_149 rfl (lv_at hl 2 rfl) ?_
                    refine va_get (D := D) (ci := 11) (v := .int (nI bl)) (C := RX11) (T := TX11) (N := 18) hx hb hts iw11 hown hK hP 0 rfl rfl 11 (by decide) fw2 (fun _ h9 => h9) rfl dX11_lookAt_150 ?_
                    refine lv_icmp_ge (tgt := 215) hx hb dX11_lookAt_153 (by decide) (fun h335 => ?_) (fun h336 => ?_)
                    · skip
                      have h335 : bl ≤ (j91 + x315) := (nI_leI (a := bl) (b := (j91 + x315)) (by omega) (by omega)).mp h335
                      have hE9 : ks_to ks_l fmb bl j91 = j91 + x315 := ks_s3 hJ0_fu92 (by omega)
                      refine lv_iconst (v := 0) hx hb dX11_lookAt_215 (by decide) ?_
                      refine lv_istore (lv' := [(4, .int 0), (3, .int (nI x316)), (2, .int (fmb j91)), (0, .ref mo), (1, .int (nI k))]) hx hb dX11_lookAt_216 hl (by decide) rfl (fun ls hl => ?_)
                      refine lv_iload hx hb dX11_lookAt_218 (lv_at hl 0 rfl) ?_
                      refine lv_aload_n hx hb dX11_lookAt_220 rfl (lv_at hl 3 rfl) ?_
                      refine va_get (D := D) (ci := 11) (v := .int (nI x315)) (C := RX11) (T := TX11) (N := 18) hx hb hts iw11 hown hK hP 0 rfl rfl 13 (by decide) fw3 (fun _ h9 => h9) rfl dX11_lookAt_221 ?_
                      refine lv_icmp_ge (tgt := 274) hx hb dX11_lookAt_224 (by decide) (fun h337 => ?_) (fun h338 => ?_)
                      · skip
                        have h337 : x315 ≤ 0 := (nI_leI (a := x315) (b := 0) (by omega) (by omega)).mp h337
                        refine lv_aload_n hx hb dX11_lookAt_274 rfl (lv_at hl 3 rfl) ?_
                        refine lv_aload_n hx hb dX11_lookAt_275 rfl (lv_at hl 3 rfl) ?_
                        refine va_get (D := D) (ci := 11) (v := .int 1) (C := RX11) (T := TX11) (N := 18) hx hb hts iw11 hown hK hP 0 rfl rfl 14 (by decide) fw4 (fun _ h9 => h9) rfl dX11_lookAt_276 ?_
                        refine lv_iconst (v := 2) hx hb dX11_lookAt_279 (by decide) ?_
                        refine lv_icmp_ne (tgt := 295) hx hb dX11_lookAt_280 (by decide) (fun _ => ?_) (fun h9 => absurd h9 (by decide))
                        refine lv_aload_n hx hb dX11_lookAt_295 rfl (lv_at hl 3 rfl) ?_
                        refine va_get (D := D) (ci := 11) (v := .int 1) (C := RX11) (T := TX11) (N := 18) hx hb hts iw11 hown hK hP 0 rfl rfl 14 (by decide) fw4 (fun _ h9 => h9) rfl dX11_lookAt_296 ?_
                        refine va_put (D := D) (ci := 11) (v := .int 1) (ty := .int) (C := RX11) (T := TX11) (N := 18) hx hb hts iw11 tyX11 tyX11_ok nmX11 hown hK hP hD hS 0 rfl rfl 14 (by decide) fw4 (fun _ h9 => h9) rfl (by decide +kernel) rfl rfl (Nat.le_of_ble_eq_true rfl) dX11_lookAt_299 (fun H locs hP hD hS => ?_)
                        have hP : va_P D vwCl [(mo, .inr (11, [.ref to, .ref ke, .ref ik, .ref mrf, .long mab, .long mbl, .ref ha, .ref r0, .ref mbr, .ref mbp, .ref mby, .int (nI bl), .int (nI j91), .int (nI x315), .int 1, .int 0, .ref an, .ref va])), (mby, .inl (y 0, 150, .inl fmb))] H := hP
                        have hD : va_D A [(mo, .inr (11, [.ref to, .ref ke, .ref ik, .ref mrf, .long mab, .long mbl, .ref ha, .ref r0, .ref mbr, .ref mbp, .ref mby, .int (nI bl), .int (nI j91), .int (nI x315), .int 1, .int 0, .ref an, .ref va])), (mby, .inl (y 0, 150, .inl fmb))] := hD
                        exact W.vret hx hb hr (fun tZ ht hW => ⟨⟨(j91, x315, 1, 0), rfl, ⟨by first | omega | (dsimp only; omega), by first | omega | (dsimp only; omega), by first | omega | (dsimp only; omega), by first | omega | (dsimp only; omega), by first | omega | (dsimp only; omega), kz_R.mk (ks_s2 hI0_j91 (ks_b_n h297)) (kz_Tn_l (by first | omega | (dsimp only; omega)) h304 hE9)⟩, by rw [ht]; exact hP.sub [0, 1] rfl, hD.sub [0, 1] (by decide) rfl⟩, hS.F ht⟩) hS.2.2 dX11_lookAt_302
                      · skip
                        have h338 : ¬ x315 ≤ 0 := fun q9 => h338 ((nI_leI (a := x315) (b := 0) (by omega) (by omega)).mpr q9)
                        refine lv_iload hx hb dX11_lookAt_227 (lv_at hl 0 rfl) ?_
                        refine lv_iconst (v := 2) hx hb dX11_lookAt_229 (by decide) ?_
                        refine lv_icmp_ge (tgt := 274) hx hb dX11_lookAt_230 (by decide) (fun h9 => absurd h9 (by decide)) (fun _ => ?_)
                        refine lv_aload_n hx hb dX11_lookAt_233 rfl (lv_at hl 3 rfl) ?_
                        refine va_get (D := D) (ci := 11) (v := .int 1) (C := RX11) (T := TX11) (N := 18) hx hb hts iw11 hown hK hP 0 rfl rfl 14 (by decide) fw4 (fun _ h9 => h9) rfl dX11_lookAt_234 ?_
                        refine lv_iconst (v := 2) hx hb dX11_lookAt_237 (by decide) ?_
                        refine lv_icmp_ne (tgt := 274) hx hb dX11_lookAt_238 (by decide) (fun _ => ?_) (fun h9 => absurd h9 (by decide))
                        refine lv_aload_n hx hb dX11_lookAt_274 rfl (lv_at hl 3 rfl) ?_
                        refine lv_aload_n hx hb dX11_lookAt_275 rfl (lv_at hl 3 rfl) ?_
                        refine va_get (D := D) (ci := 11) (v := .int 1) (C := RX11) (T := TX11) (N := 18) hx hb hts iw11 hown hK hP 0 rfl rfl 14 (by decide) fw4 (fun _ h9 => h9) rfl dX11_lookAt_276 ?_
                        refine lv_iconst (v := 2) hx hb dX11_lookAt_279 (by decide) ?_
                        refine lv_icmp_ne (tgt := 295) hx hb dX11_lookAt_280 (by decide) (fun _ => ?_) (fun h9 => absurd h9 (by decide))
                        refine lv_aload_n hx hb dX11_lookAt_295 rfl (lv_at hl 3 rfl) ?_
                        refine va_get (D := D) (ci := 11) (v := .int 1) (C := RX11) (T := TX11) (N := 18) hx hb hts iw11 hown hK hP 0 rfl rfl 14 (by decide) fw4 (fun _ h9 => h9) rfl dX11_lookAt_296 ?_
                        refine va_put (D := D) (ci := 11) (v := .int 1) (ty := .int) (C := RX11) (T := TX11) (N := 18) hx hb hts iw11 tyX11 tyX11_ok nmX11 hown hK hP hD hS 0 rfl rfl 14 (by decide) fw4 (fun _ h9 => h9) rfl (by decide +kernel) rfl rfl (Nat.le_of_ble_eq_true rfl) dX11_lookAt_299 (fun H locs hP hD hS => ?_)
                        have hP : va_P D vwCl [(mo, .inr (11, [.ref to, .ref ke, .ref ik, .ref mrf, .long mab, .long mbl, .ref ha, .ref r0, .ref mbr, .ref mbp, .ref mby, .int (nI bl), .int (nI j91), .int (nI x315), .int 1, .int 0, .ref an, .ref va])), (mby, .inl (y 0, 150, .inl fmb))] H := hP
                        have hD : va_D A [(mo, .inr (11, [.ref to, .ref ke, .ref ik, .ref mrf, .long mab, .long mbl, .ref ha, .ref r0, .ref mbr, .ref mbp, .ref mby, .int (nI bl), .int (nI j91), .int (nI x315), .int 1, .int 0, .ref an, .ref va])), (mby, .inl (y 0, 150, .inl fmb))] := hD
                        exact W.vret hx hb hr (fun tZ ht hW => ⟨⟨(j91, x315, 1, 0), rfl, ⟨by first | omega | (dsimp only; omega), by first | omega | (dsimp only; omega), by first | omega | (dsimp only; omega), by first | omega | (dsimp only; omega), by first | omega | (dsimp only; omega), kz_R.mk (ks_s2 hI0_j91 (ks_b_n h297)) (kz_Tn_l (by first | omega | (dsimp only; omega)) h304 hE9)⟩, by rw [ht]; exact hP.sub [0, 1] rfl, hD.sub [0, 1] (by decide) rfl⟩, hS.F ht⟩) hS.2.2 dX11_lookAt_302
                    · skip
                      have h336 : ¬ bl ≤ (j91 + x315) := fun q9 => h336 ((nI_leI (a := bl) (b := (j91 + x315)) (by omega) (by omega)).mpr q9)
                      refine lv_aload_n hx hb dX11_lookAt_156 rfl (lv_at hl 2 rfl) ?_
                      refine va_get (D := D) (ci := 11) (v := .ref mby) (C := RX11) (T := TX11) (N := 18) hx hb hts iw11 hown hK hP 0 rfl rfl 10 (by decide) fw6 (fun _ h9 => h9) rfl dX11_lookAt_157 ?_
                      refine lv_aload_n hx hb dX11_lookAt_160 rfl (lv_at hl 2 rfl) ?_
                      refine va_get (D := D) (ci := 11) (v := .int (nI j91)) (C := RX11) (T := TX11) (N := 18) hx hb hts iw11 hown hK hP 0 rfl rfl 12 (by decide) fw1 (fun _ h9 => h9) rfl dX11_lookAt_161 ?_
                      refine lv_aload_n hx hb dX11_lookAt_164 rfl (lv_at hl 2 rfl) ?_
                      refine va_get (D := D) (ci := 11) (v := .int (nI x315)) (C := RX11) (T := TX11) (N := 18) hx hb hts iw11 hown hK hP 0 rfl rfl 13 (by decide) fw3 (fun _ h9 => h9) rfl dX11_lookAt_165 ?_
                      refine lv_iadd hx hb dX11_lookAt_168 ?_
                      rw [show (nI j91) + (nI x315) = nI (j91 + x315) from nI_add j91 x315]
                      refine va_iald hx hb hK hP 1 0 rfl rfl (vp_in_nI (by omega) (by decide)) dX11_lookAt_169 ?_
                      rw [nI_clamp (n := (j91 + x315)) (by omega)]
                      refine lv_istore (lv' := [(4, .int (fmb (j91 + x315))), (3, .int (nI x316)), (2, .int (fmb j91)), (0, .ref mo), (1, .int (nI k))]) hx hb dX11_lookAt_170 hl (by decide) rfl (fun ls hl => ?_)
                      refine lv_aload_n hx hb dX11_lookAt_172 rfl (lv_at hl 3 rfl) ?_
                      refine va_get (D := D) (ci := 11) (v := .int 1) (C := RX11) (T := TX11) (N := 18) hx hb hts iw11 hown hK hP 0 rfl rfl 14 (by decide) fw4 (fun _ h9 => h9) rfl dX11_lookAt_173 ?_
                      refine lv_iconst (v := 1) hx hb dX11_lookAt_176 (by decide) ?_
                      refine lv_icmp_ne (tgt := 188) hx hb dX11_lookAt_177 (by decide) (fun h9 => absurd h9 (by decide)) (fun _ => ?_)
                      refine lv_iload hx hb dX11_lookAt_180 (lv_at hl 0 rfl) ?_
                      have hs339 : kw_Split [(mo, .inr (11, [.ref to, .ref ke, .ref ik, .ref mrf, .long mab, .long mbl, .ref ha, .ref r0, .ref mbr, .ref mbp, .ref mby, .int (nI bl), .int (nI j91), .int (nI x315), .int 1, .int 0, .ref an, .ref va])), (mby, .inl (y 0, 150, .inl fmb))] [] [(mo, .inr (11, [.ref to, .ref ke, .ref ik, .ref mrf, .long mab, .long mbl, .ref ha, .ref r0, .ref mbr, .ref mbp, .ref mby, .int (nI bl), .int (nI j91), .int (nI x315), .int 1, .int 0, .ref an, .ref va])), (mby, .inl (y 0, 150, .inl fmb))] [] [0, 1] := ⟨rfl, rfl, rfl, rfl, rfl, by decide⟩
                      refine kw_go_i hs339 hP hD hS hA (va_runS (As := [.int (fmb (j91 + x315))]) (rest := []) ⟨hx, hb, hml, hown, hts⟩ (gs_MisSmall l D y (fmb (j91 + x315))  _) (va_cwS 1 hts gX11_lookAt_X11_isSmall rfl rfl rfl (by decide +kernel) ⟨Nat.le_of_ble_eq_true rfl, Nat.le_of_ble_eq_true rfl⟩) (kw_PreS hs339 hP hD hK hN) rfl rfl hl.1 rfl (lv_room (Nat.le_of_ble_eq_true rfl)) dX11_lookAt_182 ⟨Nat.le_of_ble_eq_true rfl, Nat.le_of_ble_eq_true rfl⟩) (fun r340 u341 H locs hq hP hD hS => ?_)
                      rcases hq with ⟨h342, rfl⟩ | ⟨h343, rfl⟩
                      · skip
                        have hP : va_P D vwCl [(mo, .inr (11, [.ref to, .ref ke, .ref ik, .ref mrf, .long mab, .long mbl, .ref ha, .ref r0, .ref mbr, .ref mbp, .ref mby, .int (nI bl), .int (nI j91), .int (nI x315), .int 1, .int 0, .ref an, .ref va])), (mby, .inl (y 0, 150, .inl fmb))] H := hP
                        have hD : va_D A [(mo, .inr (11, [.ref to, .ref ke, .ref ik, .ref mrf, .long mab, .long mbl, .ref ha, .ref r0, .ref mbr, .ref mbp, .ref mby, .int (nI bl), .int (nI j91), .int (nI x315), .int 1, .int 0, .ref an, .ref va])), (mby, .inl (y 0, 150, .inl fmb))] := hD
                        refine lv_goto (tgt := 193) hx hb dX11_lookAt_185 (by decide) ?_
                        refine lv_istore_n (lv' := [(3, .int 1), (4, .int (fmb (j91 + x315))), (2, .int (fmb j91)), (0, .ref mo), (1, .int (nI k))]) hx hb dX11_lookAt_193 rfl hl (by decide) rfl (fun ls hl => ?_)
                        refine lv_aload_n hx hb dX11_lookAt_194 rfl (lv_at hl 3 rfl) ?_
                        refine lv_dup hx hb dX11_lookAt_195 rfl ?_
                        refine va_get (D := D) (ci := 11) (v := .int (nI x315)) (C := RX11) (T := TX11) (N := 18) hx hb hts iw11 hown hK hP 0 rfl rfl 13 (by decide) fw3 (fun _ h9 => h9) rfl dX11_lookAt_196 ?_
                        refine lv_iload_n hx hb dX11_lookAt_199 rfl (lv_at hl 0 rfl) ?_
                        refine lv_if_eq (tgt := 207) hx hb dX11_lookAt_200 (by decide) (fun h9 => absurd h9 (by decide)) (fun _ => ?_)
                        refine lv_iconst (v := 1) hx hb dX11_lookAt_203 (by decide) ?_
                        refine lv_goto (tgt := 208) hx hb dX11_lookAt_204 (by decide) ?_
                        refine lv_iadd hx hb dX11_lookAt_208 ?_
                        rw [show (nI x315) + 1 = nI (x315 + 1) from nI_add x315 1]
                        refine va_put (D := D) (ci := 11) (v := .int (nI (x315 + 1))) (ty := .int) (C := RX11) (T := TX11) (N := 18) hx hb hts iw11 tyX11 tyX11_ok nmX11 hown hK hP hD hS 0 rfl rfl 13 (by decide) fw3 (fun _ h9 => h9) rfl (by decide +kernel) rfl rfl (Nat.le_of_ble_eq_true rfl) dX11_lookAt_209 (fun H locs hP hD hS => ?_)
                        have hP : va_P D vwCl [(mo, .inr (11, [.ref to, .ref ke, .ref ik, .ref mrf, .long mab, .long mbl, .ref ha, .ref r0, .ref mbr, .ref mbp, .ref mby, .int (nI bl), .int (nI j91), .int (nI (x315 + 1)), .int 1, .int 0, .ref an, .ref va])), (mby, .inl (y 0, 150, .inl fmb))] H := hP
                        have hD : va_D A [(mo, .inr (11, [.ref to, .ref ke, .ref ik, .ref mrf, .long mab, .long mbl, .ref ha, .ref r0, .ref mbr, .ref mbp, .ref mby, .int (nI bl), .int (nI j91), .int (nI (x315 + 1)), .int 1, .int 0, .ref an, .ref va])), (mby, .inl (y 0, 150, .inl fmb))] := hD
                        refine lv_goto (tgt := 136) hx hb dX11_lookAt_212 (by decide) ?_
                        exact ihfu92 (x315 + 1) 1 H locs ls (by omega) (by omega) (by omega) (hJ0_fu92.trans (ks_to_step (by omega) h342)) (fun q9 => absurd q9 (by decide)) (by omega) (by omega) (hP.sub [0, 1] rfl) (hD.sub [0, 1] (by decide) rfl) hS (lv_sub hl [0, 2, 3, 4] rfl)
                      · skip
                        have hP : va_P D vwCl [(mo, .inr (11, [.ref to, .ref ke, .ref ik, .ref mrf, .long mab, .long mbl, .ref ha, .ref r0, .ref mbr, .ref mbp, .ref mby, .int (nI bl), .int (nI j91), .int (nI x315), .int 1, .int 0, .ref an, .ref va])), (mby, .inl (y 0, 150, .inl fmb))] H := hP
                        have hD : va_D A [(mo, .inr (11, [.ref to, .ref ke, .ref ik, .ref mrf, .long mab, .long mbl, .ref ha, .ref r0, .ref mbr, .ref mbp, .ref mby, .int (nI bl), .int (nI j91), .int (nI x315), .int 1, .int 0, .ref an, .ref va])), (mby, .inl (y 0, 150, .inl fmb))] := hD
                        refine lv_goto (tgt := 193) hx hb dX11_lookAt_185 (by decide) ?_
                        refine lv_istore_n (lv' := [(3, .int 0), (4, .int (fmb (j91 + x315))), (2, .int (fmb j91)), (0, .ref mo), (1, .int (nI k))]) hx hb dX11_lookAt_193 rfl hl (by decide) rfl (fun ls hl => ?_)
                        refine lv_aload_n hx hb dX11_lookAt_194 rfl (lv_at hl 3 rfl) ?_
                        refine lv_dup hx hb dX11_lookAt_195 rfl ?_
                        refine va_get (D := D) (ci := 11) (v := .int (nI x315)) (C := RX11) (T := TX11) (N := 18) hx hb hts iw11 hown hK hP 0 rfl rfl 13 (by decide) fw3 (fun _ h9 => h9) rfl dX11_lookAt_196 ?_
                        refine lv_iload_n hx hb dX11_lookAt_199 rfl (lv_at hl 0 rfl) ?_
                        refine lv_if_eq (tgt := 207) hx hb dX11_lookAt_200 (by decide) (fun _ => ?_) (fun h9 => absurd h9 (by decide))
                        refine lv_iconst (v := 0) hx hb dX11_lookAt_207 (by decide) ?_
                        refine lv_iadd hx hb dX11_lookAt_208 ?_
                        rw [show (nI x315) + 0 = nI (x315) from nI_add x315 0]
                        refine va_put (D := D) (ci := 11) (v := .int (nI x315)) (ty := .int) (C := RX11) (T := TX11) (N := 18) hx hb hts iw11 tyX11 tyX11_ok nmX11 hown hK hP hD hS 0 rfl rfl 13 (by decide) fw3 (fun _ h9 => h9) rfl (by decide +kernel) rfl rfl (Nat.le_of_ble_eq_true rfl) dX11_lookAt_209 (fun H locs hP hD hS => ?_)
                        have hP : va_P D vwCl [(mo, .inr (11, [.ref to, .ref ke, .ref ik, .ref mrf, .long mab, .long mbl, .ref ha, .ref r0, .ref mbr, .ref mbp, .ref mby, .int (nI bl), .int (nI j91), .int (nI x315), .int 1, .int 0, .ref an, .ref va])), (mby, .inl (y 0, 150, .inl fmb))] H := hP
                        have hD : va_D A [(mo, .inr (11, [.ref to, .ref ke, .ref ik, .ref mrf, .long mab, .long mbl, .ref ha, .ref r0, .ref mbr, .ref mbp, .ref mby, .int (nI bl), .int (nI j91), .int (nI x315), .int 1, .int 0, .ref an, .ref va])), (mby, .inl (y 0, 150, .inl fmb))] := hD
                        refine lv_goto (tgt := 136) hx hb dX11_lookAt_212 (by decide) ?_
                        exact ihfu92 x315 0 H locs ls (by omega) (by omega) (by omega) hJ0_fu92 (fun _ => h343) (by omega) (by omega) (hP.sub [0, 1] rfl) (hD.sub [0, 1] (by decide) rfl) hS (lv_sub hl [0, 2, 3, 4] rfl)
              exact lp330 _ 1 1 _ _ _ (Nat.lt_succ_self _) (by omega) (by omega) (ks_to_step (by omega) h304) (fun q9 => absurd q9 (by decide)) (by omega) (by omega) hP hD hS (lv_sub hl [0, 1, 2, 3] rfl)
            · skip
              have hP : va_P D vwCl [(mo, .inr (11, [.ref to, .ref ke, .ref ik, .ref mrf, .long mab, .long mbl, .ref ha, .ref r0, .ref mbr, .ref mbp, .ref mby, .int (nI bl), .int (nI j91), .int 0, .int 0, .int 0, .ref an, .ref va])), (mby, .inl (y 0, 150, .inl fmb))] H := hP
              have hD : va_D A [(mo, .inr (11, [.ref to, .ref ke, .ref ik, .ref mrf, .long mab, .long mbl, .ref ha, .ref r0, .ref mbr, .ref mbp, .ref mby, .int (nI bl), .int (nI j91), .int 0, .int 0, .int 0, .ref an, .ref va])), (mby, .inl (y 0, 150, .inl fmb))] := hD
              refine lv_if_eq (tgt := 92) hx hb dX11_lookAt_85 (by decide) (fun _ => ?_) (fun h9 => absurd h9 (by decide))
              refine lv_iload_n hx hb dX11_lookAt_92 rfl (lv_at hl 0 rfl) ?_
              have hs344 : kw_Split [(mo, .inr (11, [.ref to, .ref ke, .ref ik, .ref mrf, .long mab, .long mbl, .ref ha, .ref r0, .ref mbr, .ref mbp, .ref mby, .int (nI bl), .int (nI j91), .int 0, .int 0, .int 0, .ref an, .ref va])), (mby, .inl (y 0, 150, .inl fmb))] [] [(mo, .inr (11, [.ref to, .ref ke, .ref ik, .ref mrf, .long mab, .long mbl, .ref ha, .ref r0, .ref mbr, .ref mbp, .ref mby, .int (nI bl), .int (nI j91), .int 0, .int 0, .int 0, .ref an, .ref va])), (mby, .inl (y 0, 150, .inl fmb))] [] [0, 1] := ⟨rfl, rfl, rfl, rfl, rfl, by decide⟩
              refine kw_go_i hs344 hP hD hS hA (va_runS (As := [.int (fmb j91)]) (rest := [.ref mo]) ⟨hx, hb, hml, hown, hts⟩ (gs_MisFigure l D y (fmb j91)  _) (va_cwS 1 hts gX11_lookAt_X11_isFigure rfl rfl rfl (by decide +kernel) ⟨Nat.le_of_ble_eq_true rfl, Nat.le_of_ble_eq_true rfl⟩) (kw_PreS hs344 hP hD hK hN) rfl rfl hl.1 rfl (lv_room (Nat.le_of_ble_eq_true rfl)) dX11_lookAt_93 ⟨Nat.le_of_ble_eq_true rfl, Nat.le_of_ble_eq_true rfl⟩) (fun r345 u346 H locs hq hP hD hS => ?_)
              rcases hq with ⟨h347, rfl⟩ | ⟨h348, rfl⟩
              · skip
                have hP : va_P D vwCl [(mo, .inr (11, [.ref to, .ref ke, .ref ik, .ref mrf, .long mab, .long mbl, .ref ha, .ref r0, .ref mbr, .ref mbp, .ref mby, .int (nI bl), .int (nI j91), .int 0, .int 0, .int 0, .ref an, .ref va])), (mby, .inl (y 0, 150, .inl fmb))] H := hP
                have hD : va_D A [(mo, .inr (11, [.ref to, .ref ke, .ref ik, .ref mrf, .long mab, .long mbl, .ref ha, .ref r0, .ref mbr, .ref mbp, .ref mby, .int (nI bl), .int (nI j91), .int 0, .int 0, .int 0, .ref an, .ref va])), (mby, .inl (y 0, 150, .inl fmb))] := hD
                refine lv_if_eq (tgt := 103) hx hb dX11_lookAt_96 (by decide) (fun h9 => absurd h9 (by decide)) (fun _ => ?_)
                refine lv_iconst (v := 2) hx hb dX11_lookAt_99 (by decide) ?_
                refine lv_goto (tgt := 114) hx hb dX11_lookAt_100 (by decide) ?_
                refine va_put (D := D) (ci := 11) (v := .int 2) (ty := .int) (C := RX11) (T := TX11) (N := 18) hx hb hts iw11 tyX11 tyX11_ok nmX11 hown hK hP hD hS 0 rfl rfl 14 (by decide) fw4 (fun _ h9 => h9) rfl (by decide +kernel) rfl rfl (Nat.le_of_ble_eq_true rfl) dX11_lookAt_114 (fun H locs hP hD hS => ?_)
                have hP : va_P D vwCl [(mo, .inr (11, [.ref to, .ref ke, .ref ik, .ref mrf, .long mab, .long mbl, .ref ha, .ref r0, .ref mbr, .ref mbp, .ref mby, .int (nI bl), .int (nI j91), .int 0, .int 2, .int 0, .ref an, .ref va])), (mby, .inl (y 0, 150, .inl fmb))] H := hP
                have hD : va_D A [(mo, .inr (11, [.ref to, .ref ke, .ref ik, .ref mrf, .long mab, .long mbl, .ref ha, .ref r0, .ref mbr, .ref mbp, .ref mby, .int (nI bl), .int (nI j91), .int 0, .int 2, .int 0, .ref an, .ref va])), (mby, .inl (y 0, 150, .inl fmb))] := hD
                refine lv_aload_n hx hb dX11_lookAt_117 rfl (lv_at hl 1 rfl) ?_
                refine lv_iconst (v := 1) hx hb dX11_lookAt_118 (by decide) ?_
                refine va_put (D := D) (ci := 11) (v := .int 1) (ty := .int) (C := RX11) (T := TX11) (N := 18) hx hb hts iw11 tyX11 tyX11_ok nmX11 hown hK hP hD hS 0 rfl rfl 13 (by decide) fw3 (fun _ h9 => h9) rfl (by decide +kernel) rfl rfl (Nat.le_of_ble_eq_true rfl) dX11_lookAt_119 (fun H locs hP hD hS => ?_)
                have hP : va_P D vwCl [(mo, .inr (11, [.ref to, .ref ke, .ref ik, .ref mrf, .long mab, .long mbl, .ref ha, .ref r0, .ref mbr, .ref mbp, .ref mby, .int (nI bl), .int (nI j91), .int 1, .int 2, .int 0, .ref an, .ref va])), (mby, .inl (y 0, 150, .inl fmb))] H := hP
                have hD : va_D A [(mo, .inr (11, [.ref to, .ref ke, .ref ik, .ref mrf, .long mab, .long mbl, .ref ha, .ref r0, .ref mbr, .ref mbp, .ref mby, .int (nI bl), .int (nI j91), .int 1, .int 2, .int 0, .ref an, .ref va])), (mby, .inl (y 0, 150, .inl fmb))] := hD
                refine lv_aload_n hx hb dX11_lookAt_122 rfl (lv_at hl 1 rfl) ?_
                refine va_get (D := D) (ci := 11) (v := .int 2) (C := RX11) (T := TX11) (N := 18) hx hb hts iw11 hown hK hP 0 rfl rfl 14 (by decide) fw4 (fun _ h9 => h9) rfl dX11_lookAt_123 ?_
                refine lv_iconst (v := 3) hx hb dX11_lookAt_126 (by decide) ?_
                refine lv_icmp_ge (tgt := 134) hx hb dX11_lookAt_127 (by decide) (fun h9 => absurd h9 (by decide)) (fun _ => ?_)
                refine lv_iconst (v := 1) hx hb dX11_lookAt_130 (by decide) ?_
                refine lv_goto (tgt := 135) hx hb dX11_lookAt_131 (by decide) ?_
                refine lv_istore_n (lv' := [(3, .int 1), (2, .int (fmb j91)), (0, .ref mo), (1, .int (nI k))]) hx hb dX11_lookAt_135 rfl hl (by decide) rfl (fun ls hl => ?_)
                have lp478 : ∀ (fu92 : Nat) (x373 : Nat) (x374 : Nat) (H : Heap) (locs : List Loc) (ls : Array Slot), (bl - j91 - x373) + x374 < fu92 → x373 ≤ 150 → x374 ≤ 1 → ks_to ks_f fmb bl j91 = ks_to ks_f fmb bl (j91 + x373) → (x374 = 0 → ¬ ks_f (fmb (j91 + x373)) = true) → j91 + x373 ≤ bl → 1 ≤ x373 → va_P D vwCl [(mo, .inr (11, [.ref to, .ref ke, .ref ik, .ref mrf, .long mab, .long mbl, .ref ha, .ref r0, .ref mbr, .ref mbp, .ref mby, .int (nI bl), .int (nI j91), .int (nI x373), .int 2, .int 0, .ref an, .ref va])), (mby, .inl (y 0, 150, .inl fmb))] H → va_D A [(mo, .inr (11, [.ref to, .ref ke, .ref ik, .ref mrf, .long mab, .long mbl, .ref ha, .ref r0, .ref mbr, .ref mbp, .ref mby, .int (nI bl), .int (nI j91), .int (nI x373), .int 2, .int 0, .ref an, .ref va])), (mby, .inl (y 0, 150, .inl fmb))] → va_S A s.heap H locs → lv_has ls 5 [(3, .int (nI x374)), (2, .int (fmb j91)), (0, .ref mo), (1, .int (nI k))] → W pZ l eZ ({ frames := 3, cells := 0, slots := 0, locals := 105 }) s mZ [.ref mo, .int (nI k)].toArray beZ meZ cZ H locs 0 0 (MQ beZ (va_Qv (fun (u : Nat × Nat × Nat × Int32) => u.1 ≤ bl ∧ u.2.1 ≤ 150 ∧ u.2.2.1 ≤ 4 ∧ k ≤ u.1 ∧ u.1 + u.2.1 ≤ bl ∧ kz_R fmb bl k u.1 u.2.1 u.2.2.1 u.2.2.2) (kw_B D (fun u => [(mo, .inr (11, [.ref to, .ref ke, .ref ik, .ref mrf, .long mab, .long mbl, .ref ha, .ref r0, .ref mbr, .ref mbp, .ref mby, .int (nI bl), .int (nI u.1), .int (nI u.2.1), .int (nI u.2.2.1), .int u.2.2.2, .ref an, .ref va])), (mby, .inl (y 0, 150, .inl fmb))]) A) A) [.ref mo, .int (nI k)].toArray s 0 0 A) (F0 mZ 136 ls []) := by
                  intro fu92
                  induction fu92 with
                  | zero => intro x373 x374 H locs ls hf9; exact absurd hf9 (Nat.not_lt_zero _)
                  | succ fu92 ihfu92 =>
                    intro x373 x374 H locs ls hffu92 hn_x373 hn_x374 hJ0_fu92 hJ1_fu92 hJ2_fu92 hJ3_fu92 hP hD hS hl
                    refine lv_iload_n hx hb dX11_lookAt_136 rfl (lv_at hl 0 rfl) ?_
                    refine lv_if_eq (tgt := 215) hx hb dX11_lookAt_137 (by decide) (fun h479 => ?_) (fun h480 => ?_)
                    · skip
                      have h479 : x374 = 0 := (nI_eq (a := x374) (b := 0) (by omega) (by omega)).mp h479
                      have hE9 : ks_to ks_f fmb bl j91 = j91 + x373 := ks_s2 hJ0_fu92 (hJ1_fu92 h479)
                      refine lv_iconst (v := 0) hx hb dX11_lookAt_215 (by decide) ?_
                      refine lv_istore (lv' := [(4, .int 0), (3, .int (nI x374)), (2, .int (fmb j91)), (0, .ref mo), (1, .int (nI k))]) hx hb dX11_lookAt_216 hl (by decide) rfl (fun ls hl => ?_)
                      rcases (show x373 = 1 ∨ x373 = 2 ∨ 3 ≤ x373 by omega) with rfl | rfl | h39
                      · skip
                        refine lv_iload hx hb dX11_lookAt_218 (lv_at hl 0 rfl) ?_
                        refine lv_aload_n hx hb dX11_lookAt_220 rfl (lv_at hl 3 rfl) ?_
                        refine va_get (D := D) (ci := 11) (v := .int (nI 1)) (C := RX11) (T := TX11) (N := 18) hx hb hts iw11 hown hK hP 0 rfl rfl 13 (by decide) fw3 (fun _ h9 => h9) rfl dX11_lookAt_221 ?_
                        refine lv_icmp_ge (tgt := 274) hx hb dX11_lookAt_224 (by decide) (fun h481 => ?_) (fun h482 => ?_)
                        · skip
                          have h481 : 1 ≤ 0 := (nI_leI (a := 1) (b := 0) (by omega) (by omega)).mp h481
                          exact absurd h481 (by omega)
                        · skip
                          have h482 : ¬ 1 ≤ 0 := fun q9 => h482 ((nI_leI (a := 1) (b := 0) (by omega) (by omega)).mpr q9)
                          refine lv_iload hx hb dX11_lookAt_227 (lv_at hl 0 rfl) ?_
                          refine lv_iconst (v := 2) hx hb dX11_lookAt_229 (by decide) ?_
                          refine lv_icmp_ge (tgt := 274) hx hb dX11_lookAt_230 (by decide) (fun h9 => absurd h9 (by decide)) (fun _ => ?_)
                          refine lv_aload_n hx hb dX11_lookAt_233 rfl (lv_at hl 3 rfl) ?_
                          refine va_get (D := D) (ci := 11) (v := .int 2) (C := RX11) (T := TX11) (N := 18) hx hb hts iw11 hown hK hP 0 rfl rfl 14 (by decide) fw4 (fun _ h9 => h9) rfl dX11_lookAt_234 ?_
                          refine lv_iconst (v := 2) hx hb dX11_lookAt_237 (by decide) ?_
                          refine lv_icmp_ne (tgt := 274) hx hb dX11_lookAt_238 (by decide) (fun h9 => absurd h9 (by decide)) (fun _ => ?_)
                          refine lv_aload_n hx hb dX11_lookAt_241 rfl (lv_at hl 3 rfl) ?_
                          refine lv_bipush (v := 10) hx hb dX11_lookAt_242 (by decide) ?_
                          refine lv_aload_n hx hb dX11_lookAt_244 rfl (lv_at hl 3 rfl) ?_
                          refine va_get (D := D) (ci := 11) (v := .int 0) (C := RX11) (T := TX11) (N := 18) hx hb hts iw11 hown hK hP 0 rfl rfl 15 (by decide) fw5 (fun _ h9 => h9) rfl dX11_lookAt_245 ?_
                          refine lv_imul hx hb dX11_lookAt_248 ?_
                          refine lv_topi (fun z483 hz483 => ?_)
                          obtain rfl : z483 = 0 := hz483.trans (by decide)
                          refine lv_aload_n hx hb dX11_lookAt_249 rfl (lv_at hl 3 rfl) ?_
                          refine va_get (D := D) (ci := 11) (v := .ref mby) (C := RX11) (T := TX11) (N := 18) hx hb hts iw11 hown hK hP 0 rfl rfl 10 (by decide) fw6 (fun _ h9 => h9) rfl dX11_lookAt_250 ?_
                          refine lv_aload_n hx hb dX11_lookAt_253 rfl (lv_at hl 3 rfl) ?_
                          refine va_get (D := D) (ci := 11) (v := .int (nI j91)) (C := RX11) (T := TX11) (N := 18) hx hb hts iw11 hown hK hP 0 rfl rfl 12 (by decide) fw1 (fun _ h9 => h9) rfl dX11_lookAt_254 ?_
                          refine lv_iload hx hb dX11_lookAt_257 (lv_at hl 0 rfl) ?_
                          refine lv_iadd hx hb dX11_lookAt_259 ?_
                          rw [show (nI j91) + 0 = nI (j91) from nI_add j91 0]
                          refine va_iald hx hb hK hP 1 0 rfl rfl (vp_in_nI (by omega) (by decide)) dX11_lookAt_260 ?_
                          rw [nI_clamp (n := j91) (by omega)]
                          obtain ⟨w484, h485, h486, h487⟩ := ks_fj h347
                          rw [h487]
                          refine lv_iadd hx hb dX11_lookAt_261 ?_
                          rw [show 0 + (nI w484) = nI (w484) from (nI_add 0 w484).trans (congrArg nI (by omega))]
                          refine lv_bipush (v := 48) hx hb dX11_lookAt_262 (by decide) ?_
                          refine lv_isub hx hb dX11_lookAt_264 ?_
                          rw [show (nI w484) - 48 = nI (w484 - 48) from pk_sub (a := w484) (b := 48) (by omega)]
                          refine va_put (D := D) (ci := 11) (v := .int (nI (w484 - 48))) (ty := .int) (C := RX11) (T := TX11) (N := 18) hx hb hts iw11 tyX11 tyX11_ok nmX11 hown hK hP hD hS 0 rfl rfl 15 (by decide) fw5 (fun _ h9 => h9) rfl (by decide +kernel) rfl rfl (Nat.le_of_ble_eq_true rfl) dX11_lookAt_265 (fun H locs hP hD hS => ?_)
                          have hP : va_P D vwCl [(mo, .inr (11, [.ref to, .ref ke, .ref ik, .ref mrf, .long mab, .long mbl, .ref ha, .ref r0, .ref mbr, .ref mbp, .ref mby, .int (nI bl), .int (nI j91), .int (nI 1), .int 2, .int (nI (w484 - 48)), .ref an, .ref va])), (mby, .inl (y 0, 150, .inl fmb))] H := hP
                          have hD : va_D A [(mo, .inr (11, [.ref to, .ref ke, .ref ik, .ref mrf, .long mab, .long mbl, .ref ha, .ref r0, .ref mbr, .ref mbp, .ref mby, .int (nI bl), .int (nI j91), .int (nI 1), .int 2, .int (nI (w484 - 48)), .ref an, .ref va])), (mby, .inl (y 0, 150, .inl fmb))] := hD
                          refine lv_iinc (v := 1) (lv' := [(4, .int 1), (3, .int (nI x374)), (2, .int (fmb j91)), (0, .ref mo), (1, .int (nI k))]) hx hb dX11_lookAt_268 hl (k := 0) rfl (by decide) (by decide) rfl (fun ls hl => ?_)
                          refine lv_goto (tgt := 218) hx hb dX11_lookAt_271 (by decide) ?_
                          refine lv_iload hx hb dX11_lookAt_218 (lv_at hl 0 rfl) ?_
                          refine lv_aload_n hx hb dX11_lookAt_220 rfl (lv_at hl 3 rfl) ?_
                          refine va_get (D := D) (ci := 11) (v := .int (nI 1)) (C := RX11) (T := TX11) (N := 18) hx hb hts iw11 hown hK hP 0 rfl rfl 13 (by decide) fw3 (fun _ h9 => h9) rfl dX11_lookAt_221 ?_
                          refine lv_icmp_ge (tgt := 274) hx hb dX11_lookAt_224 (by decide) (fun h488 => ?_) (fun h489 => ?_)
                          · skip
                            have h488 : 1 ≤ 1 := (nI_leI (a := 1) (b := 1) (by omega) (by omega)).mp h488
                            refine lv_aload_n hx hb dX11_lookAt_274 rfl (lv_at hl 3 rfl) ?_
                            refine lv_aload_n hx hb dX11_lookAt_275 rfl (lv_at hl 3 rfl) ?_
                            refine va_get (D := D) (ci := 11) (v := .int 2) (C := RX11) (T := TX11) (N := 18) hx hb hts iw11 hown hK hP 0 rfl rfl 14 (by decide) fw4 (fun _ h9 => h9) rfl dX11_lookAt_276 ?_
                            refine lv_iconst (v := 2) hx hb dX11_lookAt_279 (by decide) ?_
                            refine lv_icmp_ne (tgt := 295) hx hb dX11_lookAt_280 (by decide) (fun h9 => absurd h9 (by decide)) (fun _ => ?_)
                            refine lv_aload_n hx hb dX11_lookAt_283 rfl (lv_at hl 3 rfl) ?_
                            refine va_get (D := D) (ci := 11) (v := .int (nI 1)) (C := RX11) (T := TX11) (N := 18) hx hb hts iw11 hown hK hP 0 rfl rfl 13 (by decide) fw3 (fun _ h9 => h9) rfl dX11_lookAt_284 ?_
                            refine lv_iconst (v := 2) hx hb dX11_lookAt_287 (by decide) ?_
                            refine lv_icmp_le (tgt := 295) hx hb dX11_lookAt_288 (by decide) (fun h490 => ?_) (fun h491 => ?_)
                            · skip
                              have h490 : 1 ≤ 2 := (nI_leI (a := 1) (b := 2) (by omega) (by omega)).mp h490
                              refine lv_aload_n hx hb dX11_lookAt_295 rfl (lv_at hl 3 rfl) ?_
                              refine va_get (D := D) (ci := 11) (v := .int 2) (C := RX11) (T := TX11) (N := 18) hx hb hts iw11 hown hK hP 0 rfl rfl 14 (by decide) fw4 (fun _ h9 => h9) rfl dX11_lookAt_296 ?_
                              refine va_put (D := D) (ci := 11) (v := .int 2) (ty := .int) (C := RX11) (T := TX11) (N := 18) hx hb hts iw11 tyX11 tyX11_ok nmX11 hown hK hP hD hS 0 rfl rfl 14 (by decide) fw4 (fun _ h9 => h9) rfl (by decide +kernel) rfl rfl (Nat.le_of_ble_eq_true rfl) dX11_lookAt_299 (fun H locs hP hD hS => ?_)
                              have hP : va_P D vwCl [(mo, .inr (11, [.ref to, .ref ke, .ref ik, .ref mrf, .long mab, .long mbl, .ref ha, .ref r0, .ref mbr, .ref mbp, .ref mby, .int (nI bl), .int (nI j91), .int (nI 1), .int 2, .int (nI (w484 - 48)), .ref an, .ref va])), (mby, .inl (y 0, 150, .inl fmb))] H := hP
                              have hD : va_D A [(mo, .inr (11, [.ref to, .ref ke, .ref ik, .ref mrf, .long mab, .long mbl, .ref ha, .ref r0, .ref mbr, .ref mbp, .ref mby, .int (nI bl), .int (nI j91), .int (nI 1), .int 2, .int (nI (w484 - 48)), .ref an, .ref va])), (mby, .inl (y 0, 150, .inl fmb))] := hD
                              exact W.vret hx hb hr (fun tZ ht hW => ⟨⟨(j91, 1, 2, (nI (w484 - 48))), rfl, ⟨by first | omega | (dsimp only; omega), by first | omega | (dsimp only; omega), by first | omega | (dsimp only; omega), by first | omega | (dsimp only; omega), by first | omega | (dsimp only; omega), kz_R.mk (ks_s2 hI0_j91 (ks_b_n h297)) (kz_Tn_f2 (by first | omega | (dsimp only; omega)) h347 hE9 (ks_val1 h487 h486) (by first | omega | (dsimp only; omega)) (by first | omega | (dsimp only; omega)))⟩, by rw [ht]; exact hP.sub [0, 1] rfl, hD.sub [0, 1] (by decide) rfl⟩, hS.F ht⟩) hS.2.2 dX11_lookAt_302
                            · skip
                              have h491 : ¬ 1 ≤ 2 := fun q9 => h491 ((nI_leI (a := 1) (b := 2) (by omega) (by omega)).mpr q9)
                              exact absurd h491 (by omega)
                          · skip
                            have h489 : ¬ 1 ≤ 1 := fun q9 => h489 ((nI_leI (a := 1) (b := 1) (by omega) (by omega)).mpr q9)
                            exact absurd h489 (by omega)
                      · skip
                        refine lv_iload hx hb dX11_lookAt_218 (lv_at hl 0 rfl) ?_
                        refine lv_aload_n hx hb dX11_lookAt_220 rfl (lv_at hl 3 rfl) ?_
                        refine va_get (D := D) (ci := 11) (v := .int (nI 2)) (C := RX11) (T := TX11) (N := 18) hx hb hts iw11 hown hK hP 0 rfl rfl 13 (by decide) fw3 (fun _ h9 => h9) rfl dX11_lookAt_221 ?_
                        refine lv_icmp_ge (tgt := 274) hx hb dX11_lookAt_224 (by decide) (fun h492 => ?_) (fun h493 => ?_)
                        · skip
                          have h492 : 2 ≤ 0 := (nI_leI (a := 2) (b := 0) (by omega) (by omega)).mp h492
                          exact absurd h492 (by omega)
                        · skip
                          have h493 : ¬ 2 ≤ 0 := fun q9 => h493 ((nI_leI (a := 2) (b := 0) (by omega) (by omega)).mpr q9)
                          refine lv_iload hx hb dX11_lookAt_227 (lv_at hl 0 rfl) ?_
                          refine lv_iconst (v := 2) hx hb dX11_lookAt_229 (by decide) ?_
                          refine lv_icmp_ge (tgt := 274) hx hb dX11_lookAt_230 (by decide) (fun h9 => absurd h9 (by decide)) (fun _ => ?_)
                          refine lv_aload_n hx hb dX11_lookAt_233 rfl (lv_at hl 3 rfl) ?_
                          refine va_get (D := D) (ci := 11) (v := .int 2) (C := RX11) (T := TX11) (N := 18) hx hb hts iw11 hown hK hP 0 rfl rfl 14 (by decide) fw4 (fun _ h9 => h9) rfl dX11_lookAt_234 ?_
                          refine lv_iconst (v := 2) hx hb dX11_lookAt_237 (by decide) ?_
                          refine lv_icmp_ne (tgt := 274) hx hb dX11_lookAt_238 (by decide) (fun h9 => absurd h9 (by decide)) (fun _ => ?_)
                          refine lv_aload_n hx hb dX11_lookAt_241 rfl (lv_at hl 3 rfl) ?_
                          refine lv_bipush (v := 10) hx hb dX11_lookAt_242 (by decide) ?_
                          refine lv_aload_n hx hb dX11_lookAt_244 rfl (lv_at hl 3 rfl) ?_
                          refine va_get (D := D) (ci := 11) (v := .int 0) (C := RX11) (T := TX11) (N := 18) hx hb hts iw11 hown hK hP 0 rfl rfl 15 (by decide) fw5 (fun _ h9 => h9) rfl dX11_lookAt_245 ?_
                          refine lv_imul hx hb dX11_lookAt_248 ?_
                          refine lv_topi (fun z494 hz494 => ?_)
                          obtain rfl : z494 = 0 := hz494.trans (by decide)
                          refine lv_aload_n hx hb dX11_lookAt_249 rfl (lv_at hl 3 rfl) ?_
                          refine va_get (D := D) (ci := 11) (v := .ref mby) (C := RX11) (T := TX11) (N := 18) hx hb hts iw11 hown hK hP 0 rfl rfl 10 (by decide) fw6 (fun _ h9 => h9) rfl dX11_lookAt_250 ?_
                          refine lv_aload_n hx hb dX11_lookAt_253 rfl (lv_at hl 3 rfl) ?_
                          refine va_get (D := D) (ci := 11) (v := .int (nI j91)) (C := RX11) (T := TX11) (N := 18) hx hb hts iw11 hown hK hP 0 rfl rfl 12 (by decide) fw1 (fun _ h9 => h9) rfl dX11_lookAt_254 ?_
                          refine lv_iload hx hb dX11_lookAt_257 (lv_at hl 0 rfl) ?_
                          refine lv_iadd hx hb dX11_lookAt_259 ?_
                          rw [show (nI j91) + 0 = nI (j91) from nI_add j91 0]
                          refine va_iald hx hb hK hP 1 0 rfl rfl (vp_in_nI (by omega) (by decide)) dX11_lookAt_260 ?_
                          rw [nI_clamp (n := j91) (by omega)]
                          obtain ⟨w495, h496, h497, h498⟩ := ks_fj h347
                          rw [h498]
                          refine lv_iadd hx hb dX11_lookAt_261 ?_
                          rw [show 0 + (nI w495) = nI (w495) from (nI_add 0 w495).trans (congrArg nI (by omega))]
                          refine lv_bipush (v := 48) hx hb dX11_lookAt_262 (by decide) ?_
                          refine lv_isub hx hb dX11_lookAt_264 ?_
                          rw [show (nI w495) - 48 = nI (w495 - 48) from pk_sub (a := w495) (b := 48) (by omega)]
                          refine va_put (D := D) (ci := 11) (v := .int (nI (w495 - 48))) (ty := .int) (C := RX11) (T := TX11) (N := 18) hx hb hts iw11 tyX11 tyX11_ok nmX11 hown hK hP hD hS 0 rfl rfl 15 (by decide) fw5 (fun _ h9 => h9) rfl (by decide +kernel) rfl rfl (Nat.le_of_ble_eq_true rfl) dX11_lookAt_265 (fun H locs hP hD hS => ?_)
                          have hP : va_P D vwCl [(mo, .inr (11, [.ref to, .ref ke, .ref ik, .ref mrf, .long mab, .long mbl, .ref ha, .ref r0, .ref mbr, .ref mbp, .ref mby, .int (nI bl), .int (nI j91), .int (nI 2), .int 2, .int (nI (w495 - 48)), .ref an, .ref va])), (mby, .inl (y 0, 150, .inl fmb))] H := hP
                          have hD : va_D A [(mo, .inr (11, [.ref to, .ref ke, .ref ik, .ref mrf, .long mab, .long mbl, .ref ha, .ref r0, .ref mbr, .ref mbp, .ref mby, .int (nI bl), .int (nI j91), .int (nI 2), .int 2, .int (nI (w495 - 48)), .ref an, .ref va])), (mby, .inl (y 0, 150, .inl fmb))] := hD
                          refine lv_iinc (v := 1) (lv' := [(4, .int 1), (3, .int (nI x374)), (2, .int (fmb j91)), (0, .ref mo), (1, .int (nI k))]) hx hb dX11_lookAt_268 hl (k := 0) rfl (by decide) (by decide) rfl (fun ls hl => ?_)
                          refine lv_goto (tgt := 218) hx hb dX11_lookAt_271 (by decide) ?_
                          refine lv_iload hx hb dX11_lookAt_218 (lv_at hl 0 rfl) ?_
                          refine lv_aload_n hx hb dX11_lookAt_220 rfl (lv_at hl 3 rfl) ?_
                          refine va_get (D := D) (ci := 11) (v := .int (nI 2)) (C := RX11) (T := TX11) (N := 18) hx hb hts iw11 hown hK hP 0 rfl rfl 13 (by decide) fw3 (fun _ h9 => h9) rfl dX11_lookAt_221 ?_
                          refine lv_icmp_ge (tgt := 274) hx hb dX11_lookAt_224 (by decide) (fun h499 => ?_) (fun h500 => ?_)
                          · skip
                            have h499 : 2 ≤ 1 := (nI_leI (a := 2) (b := 1) (by omega) (by omega)).mp h499
                            exact absurd h499 (by omega)
                          · skip
                            have h500 : ¬ 2 ≤ 1 := fun q9 => h500 ((nI_leI (a := 2) (b := 1) (by omega) (by omega)).mpr q9)
                            refine lv_iload hx hb dX11_lookAt_227 (lv_at hl 0 rfl) ?_
                            refine lv_iconst (v := 2) hx hb dX11_lookAt_229 (by decide) ?_
                            refine lv_icmp_ge (tgt := 274) hx hb dX11_lookAt_230 (by decide) (fun h9 => absurd h9 (by decide)) (fun _ => ?_)
                            refine lv_aload_n hx hb dX11_lookAt_233 rfl (lv_at hl 3 rfl) ?_
                            refine va_get (D := D) (ci := 11) (v := .int 2) (C := RX11) (T := TX11) (N := 18) hx hb hts iw11 hown hK hP 0 rfl rfl 14 (by decide) fw4 (fun _ h9 => h9) rfl dX11_lookAt_234 ?_
                            refine lv_iconst (v := 2) hx hb dX11_lookAt_237 (by decide) ?_
                            refine lv_icmp_ne (tgt := 274) hx hb dX11_lookAt_238 (by decide) (fun h9 => absurd h9 (by decide)) (fun _ => ?_)
                            refine lv_aload_n hx hb dX11_lookAt_241 rfl (lv_at hl 3 rfl) ?_
                            refine lv_bipush (v := 10) hx hb dX11_lookAt_242 (by decide) ?_
                            refine lv_aload_n hx hb dX11_lookAt_244 rfl (lv_at hl 3 rfl) ?_
                            refine va_get (D := D) (ci := 11) (v := .int (nI (w495 - 48))) (C := RX11) (T := TX11) (N := 18) hx hb hts iw11 hown hK hP 0 rfl rfl 15 (by decide) fw5 (fun _ h9 => h9) rfl dX11_lookAt_245 ?_
                            refine lv_imul hx hb dX11_lookAt_248 ?_
                            rw [show 10 * (nI (w495 - 48)) = nI (10 * (w495 - 48)) from pk_mul 10 (w495 - 48)]
                            refine lv_aload_n hx hb dX11_lookAt_249 rfl (lv_at hl 3 rfl) ?_
                            refine va_get (D := D) (ci := 11) (v := .ref mby) (C := RX11) (T := TX11) (N := 18) hx hb hts iw11 hown hK hP 0 rfl rfl 10 (by decide) fw6 (fun _ h9 => h9) rfl dX11_lookAt_250 ?_
                            refine lv_aload_n hx hb dX11_lookAt_253 rfl (lv_at hl 3 rfl) ?_
                            refine va_get (D := D) (ci := 11) (v := .int (nI j91)) (C := RX11) (T := TX11) (N := 18) hx hb hts iw11 hown hK hP 0 rfl rfl 12 (by decide) fw1 (fun _ h9 => h9) rfl dX11_lookAt_254 ?_
                            refine lv_iload hx hb dX11_lookAt_257 (lv_at hl 0 rfl) ?_
                            refine lv_iadd hx hb dX11_lookAt_259 ?_
                            rw [show (nI j91) + 1 = nI (j91 + 1) from nI_add j91 1]
                            refine va_iald hx hb hK hP 1 0 rfl rfl (vp_in_nI (by omega) (by decide)) dX11_lookAt_260 ?_
                            rw [nI_clamp (n := (j91 + 1)) (by omega)]
                            have h501 : ks_f (fmb (j91 + 1)) = true := ks_to_in hE9 (by omega) (by omega)
                            obtain ⟨w502, h503, h504, h505⟩ := ks_fj h501
                            rw [h505]
                            refine lv_iadd hx hb dX11_lookAt_261 ?_
                            rw [show (nI (10 * (w495 - 48))) + (nI w502) = nI ((10 * (w495 - 48)) + w502) from nI_add (10 * (w495 - 48)) w502]
                            refine lv_bipush (v := 48) hx hb dX11_lookAt_262 (by decide) ?_
                            refine lv_isub hx hb dX11_lookAt_264 ?_
                            rw [show (nI ((10 * (w495 - 48)) + w502)) - 48 = nI (((10 * (w495 - 48)) + w502) - 48) from pk_sub (a := ((10 * (w495 - 48)) + w502)) (b := 48) (by omega)]
                            refine va_put (D := D) (ci := 11) (v := .int (nI (((10 * (w495 - 48)) + w502) - 48))) (ty := .int) (C := RX11) (T := TX11) (N := 18) hx hb hts iw11 tyX11 tyX11_ok nmX11 hown hK hP hD hS 0 rfl rfl 15 (by decide) fw5 (fun _ h9 => h9) rfl (by decide +kernel) rfl rfl (Nat.le_of_ble_eq_true rfl) dX11_lookAt_265 (fun H locs hP hD hS => ?_)
                            have hP : va_P D vwCl [(mo, .inr (11, [.ref to, .ref ke, .ref ik, .ref mrf, .long mab, .long mbl, .ref ha, .ref r0, .ref mbr, .ref mbp, .ref mby, .int (nI bl), .int (nI j91), .int (nI 2), .int 2, .int (nI (((10 * (w495 - 48)) + w502) - 48)), .ref an, .ref va])), (mby, .inl (y 0, 150, .inl fmb))] H := hP
                            have hD : va_D A [(mo, .inr (11, [.ref to, .ref ke, .ref ik, .ref mrf, .long mab, .long mbl, .ref ha, .ref r0, .ref mbr, .ref mbp, .ref mby, .int (nI bl), .int (nI j91), .int (nI 2), .int 2, .int (nI (((10 * (w495 - 48)) + w502) - 48)), .ref an, .ref va])), (mby, .inl (y 0, 150, .inl fmb))] := hD
                            refine lv_iinc (v := 2) (lv' := [(4, .int 2), (3, .int (nI x374)), (2, .int (fmb j91)), (0, .ref mo), (1, .int (nI k))]) hx hb dX11_lookAt_268 hl (k := 0) rfl (by decide) (by decide) rfl (fun ls hl => ?_)
                            refine lv_goto (tgt := 218) hx hb dX11_lookAt_271 (by decide) ?_
                            refine lv_iload hx hb dX11_lookAt_218 (lv_at hl 0 rfl) ?_
                            refine lv_aload_n hx hb dX11_lookAt_220 rfl (lv_at hl 3 rfl) ?_
                            refine va_get (D := D) (ci := 11) (v := .int (nI 2)) (C := RX11) (T := TX11) (N := 18) hx hb hts iw11 hown hK hP 0 rfl rfl 13 (by decide) fw3 (fun _ h9 => h9) rfl dX11_lookAt_221 ?_
                            refine lv_icmp_ge (tgt := 274) hx hb dX11_lookAt_224 (by decide) (fun h506 => ?_) (fun h507 => ?_)
                            · skip
                              have h506 : 2 ≤ 2 := (nI_leI (a := 2) (b := 2) (by omega) (by omega)).mp h506
                              refine lv_aload_n hx hb dX11_lookAt_274 rfl (lv_at hl 3 rfl) ?_
                              refine lv_aload_n hx hb dX11_lookAt_275 rfl (lv_at hl 3 rfl) ?_
                              refine va_get (D := D) (ci := 11) (v := .int 2) (C := RX11) (T := TX11) (N := 18) hx hb hts iw11 hown hK hP 0 rfl rfl 14 (by decide) fw4 (fun _ h9 => h9) rfl dX11_lookAt_276 ?_
                              refine lv_iconst (v := 2) hx hb dX11_lookAt_279 (by decide) ?_
                              refine lv_icmp_ne (tgt := 295) hx hb dX11_lookAt_280 (by decide) (fun h9 => absurd h9 (by decide)) (fun _ => ?_)
                              refine lv_aload_n hx hb dX11_lookAt_283 rfl (lv_at hl 3 rfl) ?_
                              refine va_get (D := D) (ci := 11) (v := .int (nI 2)) (C := RX11) (T := TX11) (N := 18) hx hb hts iw11 hown hK hP 0 rfl rfl 13 (by decide) fw3 (fun _ h9 => h9) rfl dX11_lookAt_284 ?_
                              refine lv_iconst (v := 2) hx hb dX11_lookAt_287 (by decide) ?_
                              refine lv_icmp_le (tgt := 295) hx hb dX11_lookAt_288 (by decide) (fun h508 => ?_) (fun h509 => ?_)
                              · skip
                                have h508 : 2 ≤ 2 := (nI_leI (a := 2) (b := 2) (by omega) (by omega)).mp h508
                                refine lv_aload_n hx hb dX11_lookAt_295 rfl (lv_at hl 3 rfl) ?_
                                refine va_get (D := D) (ci := 11) (v := .int 2) (C := RX11) (T := TX11) (N := 18) hx hb hts iw11 hown hK hP 0 rfl rfl 14 (by decide) fw4 (fun _ h9 => h9) rfl dX11_lookAt_296 ?_
                                refine va_put (D := D) (ci := 11) (v := .int 2) (ty := .int) (C := RX11) (T := TX11) (N := 18) hx hb hts iw11 tyX11 tyX11_ok nmX11 hown hK hP hD hS 0 rfl rfl 14 (by decide) fw4 (fun _ h9 => h9) rfl (by decide +kernel) rfl rfl (Nat.le_of_ble_eq_true rfl) dX11_lookAt_299 (fun H locs hP hD hS => ?_)
                                have hP : va_P D vwCl [(mo, .inr (11, [.ref to, .ref ke, .ref ik, .ref mrf, .long mab, .long mbl, .ref ha, .ref r0, .ref mbr, .ref mbp, .ref mby, .int (nI bl), .int (nI j91), .int (nI 2), .int 2, .int (nI (((10 * (w495 - 48)) + w502) - 48)), .ref an, .ref va])), (mby, .inl (y 0, 150, .inl fmb))] H := hP
                                have hD : va_D A [(mo, .inr (11, [.ref to, .ref ke, .ref ik, .ref mrf, .long mab, .long mbl, .ref ha, .ref r0, .ref mbr, .ref mbp, .ref mby, .int (nI bl), .int (nI j91), .int (nI 2), .int 2, .int (nI (((10 * (w495 - 48)) + w502) - 48)), .ref an, .ref va])), (mby, .inl (y 0, 150, .inl fmb))] := hD
                                exact W.vret hx hb hr (fun tZ ht hW => ⟨⟨(j91, 2, 2, (nI (((10 * (w495 - 48)) + w502) - 48))), rfl, ⟨by first | omega | (dsimp only; omega), by first | omega | (dsimp only; omega), by first | omega | (dsimp only; omega), by first | omega | (dsimp only; omega), by first | omega | (dsimp only; omega), kz_R.mk (ks_s2 hI0_j91 (ks_b_n h297)) (kz_Tn_f2 (by first | omega | (dsimp only; omega)) h347 hE9 (ks_val2 h498 h497 h505 h504 h503) (by first | omega | (dsimp only; omega)) (by first | omega | (dsimp only; omega)))⟩, by rw [ht]; exact hP.sub [0, 1] rfl, hD.sub [0, 1] (by decide) rfl⟩, hS.F ht⟩) hS.2.2 dX11_lookAt_302
                              · skip
                                have h509 : ¬ 2 ≤ 2 := fun q9 => h509 ((nI_leI (a := 2) (b := 2) (by omega) (by omega)).mpr q9)
                                exact absurd h509 (by omega)
                            · skip
                              have h507 : ¬ 2 ≤ 2 := fun q9 => h507 ((nI_leI (a := 2) (b := 2) (by omega) (by omega)).mpr q9)
                              exact absurd h507 (by omega)
                      · skip
                        obtain ⟨z9, rfl⟩ : ∃ z, x373 = z + 3 := ⟨x373 - 3, by omega⟩
                        refine lv_iload hx hb dX11_lookAt_218 (lv_at hl 0 rfl) ?_
                        refine lv_aload_n hx hb dX11_lookAt_220 rfl (lv_at hl 3 rfl) ?_
                        refine va_get (D := D) (ci := 11) (v := .int (nI (z9 + 3))) (C := RX11) (T := TX11) (N := 18) hx hb hts iw11 hown hK hP 0 rfl rfl 13 (by decide) fw3 (fun _ h9 => h9) rfl dX11_lookAt_221 ?_
                        refine lv_icmp_ge (tgt := 274) hx hb dX11_lookAt_224 (by decide) (fun h510 => ?_) (fun h511 => ?_)
                        · skip
                          have h510 : (z9 + 3) ≤ 0 := (nI_leI (a := (z9 + 3)) (b := 0) (by omega) (by omega)).mp h510
                          exact absurd h510 (by omega)
                        · skip
                          have h511 : ¬ (z9 + 3) ≤ 0 := fun q9 => h511 ((nI_leI (a := (z9 + 3)) (b := 0) (by omega) (by omega)).mpr q9)
                          refine lv_iload hx hb dX11_lookAt_227 (lv_at hl 0 rfl) ?_
                          refine lv_iconst (v := 2) hx hb dX11_lookAt_229 (by decide) ?_
                          refine lv_icmp_ge (tgt := 274) hx hb dX11_lookAt_230 (by decide) (fun h9 => absurd h9 (by decide)) (fun _ => ?_)
                          refine lv_aload_n hx hb dX11_lookAt_233 rfl (lv_at hl 3 rfl) ?_
                          refine va_get (D := D) (ci := 11) (v := .int 2) (C := RX11) (T := TX11) (N := 18) hx hb hts iw11 hown hK hP 0 rfl rfl 14 (by decide) fw4 (fun _ h9 => h9) rfl dX11_lookAt_234 ?_
                          refine lv_iconst (v := 2) hx hb dX11_lookAt_237 (by decide) ?_
                          refine lv_icmp_ne (tgt := 274) hx hb dX11_lookAt_238 (by decide) (fun h9 => absurd h9 (by decide)) (fun _ => ?_)
                          refine lv_aload_n hx hb dX11_lookAt_241 rfl (lv_at hl 3 rfl) ?_
                          refine lv_bipush (v := 10) hx hb dX11_lookAt_242 (by decide) ?_
                          refine lv_aload_n hx hb dX11_lookAt_244 rfl (lv_at hl 3 rfl) ?_
                          refine va_get (D := D) (ci := 11) (v := .int 0) (C := RX11) (T := TX11) (N := 18) hx hb hts iw11 hown hK hP 0 rfl rfl 15 (by decide) fw5 (fun _ h9 => h9) rfl dX11_lookAt_245 ?_
                          refine lv_imul hx hb dX11_lookAt_248 ?_
                          refine lv_topi (fun z512 hz512 => ?_)
                          obtain rfl : z512 = 0 := hz512.trans (by decide)
                          refine lv_aload_n hx hb dX11_lookAt_249 rfl (lv_at hl 3 rfl) ?_
                          refine va_get (D := D) (ci := 11) (v := .ref mby) (C := RX11) (T := TX11) (N := 18) hx hb hts iw11 hown hK hP 0 rfl rfl 10 (by decide) fw6 (fun _ h9 => h9) rfl dX11_lookAt_250 ?_
                          refine lv_aload_n hx hb dX11_lookAt_253 rfl (lv_at hl 3 rfl) ?_
                          refine va_get (D := D) (ci := 11) (v := .int (nI j91)) (C := RX11) (T := TX11) (N := 18) hx hb hts iw11 hown hK hP 0 rfl rfl 12 (by decide) fw1 (fun _ h9 => h9) rfl dX11_lookAt_254 ?_
                          refine lv_iload hx hb dX11_lookAt_257 (lv_at hl 0 rfl) ?_
                          refine lv_iadd hx hb dX11_lookAt_259 ?_
                          rw [show (nI j91) + 0 = nI (j91) from nI_add j91 0]
                          refine va_iald hx hb hK hP 1 0 rfl rfl (vp_in_nI (by omega) (by decide)) dX11_lookAt_260 ?_
                          rw [nI_clamp (n := j91) (by omega)]
                          obtain ⟨w513, h514, h515, h516⟩ := ks_fj h347
                          rw [h516]
                          refine lv_iadd hx hb dX11_lookAt_261 ?_
                          rw [show 0 + (nI w513) = nI (w513) from (nI_add 0 w513).trans (congrArg nI (by omega))]
                          refine lv_bipush (v := 48) hx hb dX11_lookAt_262 (by decide) ?_
                          refine lv_isub hx hb dX11_lookAt_264 ?_
                          rw [show (nI w513) - 48 = nI (w513 - 48) from pk_sub (a := w513) (b := 48) (by omega)]
                          refine va_put (D := D) (ci := 11) (v := .int (nI (w513 - 48))) (ty := .int) (C := RX11) (T := TX11) (N := 18) hx hb hts iw11 tyX11 tyX11_ok nmX11 hown hK hP hD hS 0 rfl rfl 15 (by decide) fw5 (fun _ h9 => h9) rfl (by decide +kernel) rfl rfl (Nat.le_of_ble_eq_true rfl) dX11_lookAt_265 (fun H locs hP hD hS => ?_)
                          have hP : va_P D vwCl [(mo, .inr (11, [.ref to, .ref ke, .ref ik, .ref mrf, .long mab, .long mbl, .ref ha, .ref r0, .ref mbr, .ref mbp, .ref mby, .int (nI bl), .int (nI j91), .int (nI (z9 + 3)), .int 2, .int (nI (w513 - 48)), .ref an, .ref va])), (mby, .inl (y 0, 150, .inl fmb))] H := hP
                          have hD : va_D A [(mo, .inr (11, [.ref to, .ref ke, .ref ik, .ref mrf, .long mab, .long mbl, .ref ha, .ref r0, .ref mbr, .ref mbp, .ref mby, .int (nI bl), .int (nI j91), .int (nI (z9 + 3)), .int 2, .int (nI (w513 - 48)), .ref an, .ref va])), (mby, .inl (y 0, 150, .inl fmb))] := hD
                          refine lv_iinc (v := 1) (lv' := [(4, .int 1), (3, .int (nI x374)), (2, .int (fmb j91)), (0, .ref mo), (1, .int (nI k))]) hx hb dX11_lookAt_268 hl (k := 0) rfl (by decide) (by decide) rfl (fun ls hl => ?_)
                          refine lv_goto (tgt := 218) hx hb dX11_lookAt_271 (by decide) ?_
                          refine lv_iload hx hb dX11_lookAt_218 (lv_at hl 0 rfl) ?_
                          refine lv_aload_n hx hb dX11_lookAt_220 rfl (lv_at hl 3 rfl) ?_
                          refine va_get (D := D) (ci := 11) (v := .int (nI (z9 + 3))) (C := RX11) (T := TX11) (N := 18) hx hb hts iw11 hown hK hP 0 rfl rfl 13 (by decide) fw3 (fun _ h9 => h9) rfl dX11_lookAt_221 ?_
                          refine lv_icmp_ge (tgt := 274) hx hb dX11_lookAt_224 (by decide) (fun h517 => ?_) (fun h518 => ?_)
                          · skip
                            have h517 : (z9 + 3) ≤ 1 := (nI_leI (a := (z9 + 3)) (b := 1) (by omega) (by omega)).mp h517
                            exact absurd h517 (by omega)
                          · skip
                            have h518 : ¬ (z9 + 3) ≤ 1 := fun q9 => h518 ((nI_leI (a := (z9 + 3)) (b := 1) (by omega) (by omega)).mpr q9)
                            refine lv_iload hx hb dX11_lookAt_227 (lv_at hl 0 rfl) ?_
                            refine lv_iconst (v := 2) hx hb dX11_lookAt_229 (by decide) ?_
                            refine lv_icmp_ge (tgt := 274) hx hb dX11_lookAt_230 (by decide) (fun h9 => absurd h9 (by decide)) (fun _ => ?_)
                            refine lv_aload_n hx hb dX11_lookAt_233 rfl (lv_at hl 3 rfl) ?_
                            refine va_get (D := D) (ci := 11) (v := .int 2) (C := RX11) (T := TX11) (N := 18) hx hb hts iw11 hown hK hP 0 rfl rfl 14 (by decide) fw4 (fun _ h9 => h9) rfl dX11_lookAt_234 ?_
                            refine lv_iconst (v := 2) hx hb dX11_lookAt_237 (by decide) ?_
                            refine lv_icmp_ne (tgt := 274) hx hb dX11_lookAt_238 (by decide) (fun h9 => absurd h9 (by decide)) (fun _ => ?_)
                            refine lv_aload_n hx hb dX11_lookAt_241 rfl (lv_at hl 3 rfl) ?_
                            refine lv_bipush (v := 10) hx hb dX11_lookAt_242 (by decide) ?_
                            refine lv_aload_n hx hb dX11_lookAt_244 rfl (lv_at hl 3 rfl) ?_
                            refine va_get (D := D) (ci := 11) (v := .int (nI (w513 - 48))) (C := RX11) (T := TX11) (N := 18) hx hb hts iw11 hown hK hP 0 rfl rfl 15 (by decide) fw5 (fun _ h9 => h9) rfl dX11_lookAt_245 ?_
                            refine lv_imul hx hb dX11_lookAt_248 ?_
                            rw [show 10 * (nI (w513 - 48)) = nI (10 * (w513 - 48)) from pk_mul 10 (w513 - 48)]
                            refine lv_aload_n hx hb dX11_lookAt_249 rfl (lv_at hl 3 rfl) ?_
                            refine va_get (D := D) (ci := 11) (v := .ref mby) (C := RX11) (T := TX11) (N := 18) hx hb hts iw11 hown hK hP 0 rfl rfl 10 (by decide) fw6 (fun _ h9 => h9) rfl dX11_lookAt_250 ?_
                            refine lv_aload_n hx hb dX11_lookAt_253 rfl (lv_at hl 3 rfl) ?_
                            refine va_get (D := D) (ci := 11) (v := .int (nI j91)) (C := RX11) (T := TX11) (N := 18) hx hb hts iw11 hown hK hP 0 rfl rfl 12 (by decide) fw1 (fun _ h9 => h9) rfl dX11_lookAt_254 ?_
                            refine lv_iload hx hb dX11_lookAt_257 (lv_at hl 0 rfl) ?_
                            refine lv_iadd hx hb dX11_lookAt_259 ?_
                            rw [show (nI j91) + 1 = nI (j91 + 1) from nI_add j91 1]
                            refine va_iald hx hb hK hP 1 0 rfl rfl (vp_in_nI (by omega) (by decide)) dX11_lookAt_260 ?_
                            rw [nI_clamp (n := (j91 + 1)) (by omega)]
                            have h519 : ks_f (fmb (j91 + 1)) = true := ks_to_in hE9 (by omega) (by omega)
                            obtain ⟨w520, h521, h522, h523⟩ := ks_fj h519
                            rw [h523]
                            refine lv_iadd hx hb dX11_lookAt_261 ?_
                            rw [show (nI (10 * (w513 - 48))) + (nI w520) = nI ((10 * (w513 - 48)) + w520) from nI_add (10 * (w513 - 48)) w520]
                            refine lv_bipush (v := 48) hx hb dX11_lookAt_262 (by decide) ?_
                            refine lv_isub hx hb dX11_lookAt_264 ?_
                            rw [show (nI ((10 * (w513 - 48)) + w520)) - 48 = nI (((10 * (w513 - 48)) + w520) - 48) from pk_sub (a := ((10 * (w513 - 48)) + w520)) (b := 48) (by omega)]
                            refine va_put (D := D) (ci := 11) (v := .int (nI (((10 * (w513 - 48)) + w520) - 48))) (ty := .int) (C := RX11) (T := TX11) (N := 18) hx hb hts iw11 tyX11 tyX11_ok nmX11 hown hK hP hD hS 0 rfl rfl 15 (by decide) fw5 (fun _ h9 => h9) rfl (by decide +kernel) rfl rfl (Nat.le_of_ble_eq_true rfl) dX11_lookAt_265 (fun H locs hP hD hS => ?_)
                            have hP : va_P D vwCl [(mo, .inr (11, [.ref to, .ref ke, .ref ik, .ref mrf, .long mab, .long mbl, .ref ha, .ref r0, .ref mbr, .ref mbp, .ref mby, .int (nI bl), .int (nI j91), .int (nI (z9 + 3)), .int 2, .int (nI (((10 * (w513 - 48)) + w520) - 48)), .ref an, .ref va])), (mby, .inl (y 0, 150, .inl fmb))] H := hP
                            have hD : va_D A [(mo, .inr (11, [.ref to, .ref ke, .ref ik, .ref mrf, .long mab, .long mbl, .ref ha, .ref r0, .ref mbr, .ref mbp, .ref mby, .int (nI bl), .int (nI j91), .int (nI (z9 + 3)), .int 2, .int (nI (((10 * (w513 - 48)) + w520) - 48)), .ref an, .ref va])), (mby, .inl (y 0, 150, .inl fmb))] := hD
                            refine lv_iinc (v := 2) (lv' := [(4, .int 2), (3, .int (nI x374)), (2, .int (fmb j91)), (0, .ref mo), (1, .int (nI k))]) hx hb dX11_lookAt_268 hl (k := 0) rfl (by decide) (by decide) rfl (fun ls hl => ?_)
                            refine lv_goto (tgt := 218) hx hb dX11_lookAt_271 (by decide) ?_
                            refine lv_iload hx hb dX11_lookAt_218 (lv_at hl 0 rfl) ?_
                            refine lv_aload_n hx hb dX11_lookAt_220 rfl (lv_at hl 3 rfl) ?_
                            refine va_get (D := D) (ci := 11) (v := .int (nI (z9 + 3))) (C := RX11) (T := TX11) (N := 18) hx hb hts iw11 hown hK hP 0 rfl rfl 13 (by decide) fw3 (fun _ h9 => h9) rfl dX11_lookAt_221 ?_
                            refine lv_icmp_ge (tgt := 274) hx hb dX11_lookAt_224 (by decide) (fun h524 => ?_) (fun h525 => ?_)
                            · skip
                              have h524 : (z9 + 3) ≤ 2 := (nI_leI (a := (z9 + 3)) (b := 2) (by omega) (by omega)).mp h524
                              exact absurd h524 (by omega)
                            · skip
                              have h525 : ¬ (z9 + 3) ≤ 2 := fun q9 => h525 ((nI_leI (a := (z9 + 3)) (b := 2) (by omega) (by omega)).mpr q9)
                              refine lv_iload hx hb dX11_lookAt_227 (lv_at hl 0 rfl) ?_
                              refine lv_iconst (v := 2) hx hb dX11_lookAt_229 (by decide) ?_
                              refine lv_icmp_ge (tgt := 274) hx hb dX11_lookAt_230 (by decide) (fun _ => ?_) (fun h9 => absurd h9 (by decide))
                              refine lv_aload_n hx hb dX11_lookAt_274 rfl (lv_at hl 3 rfl) ?_
                              refine lv_aload_n hx hb dX11_lookAt_275 rfl (lv_at hl 3 rfl) ?_
                              refine va_get (D := D) (ci := 11) (v := .int 2) (C := RX11) (T := TX11) (N := 18) hx hb hts iw11 hown hK hP 0 rfl rfl 14 (by decide) fw4 (fun _ h9 => h9) rfl dX11_lookAt_276 ?_
                              refine lv_iconst (v := 2) hx hb dX11_lookAt_279 (by decide) ?_
                              refine lv_icmp_ne (tgt := 295) hx hb dX11_lookAt_280 (by decide) (fun h9 => absurd h9 (by decide)) (fun _ => ?_)
                              refine lv_aload_n hx hb dX11_lookAt_283 rfl (lv_at hl 3 rfl) ?_
                              refine va_get (D := D) (ci := 11) (v := .int (nI (z9 + 3))) (C := RX11) (T := TX11) (N := 18) hx hb hts iw11 hown hK hP 0 rfl rfl 13 (by decide) fw3 (fun _ h9 => h9) rfl dX11_lookAt_284 ?_
                              refine lv_iconst (v := 2) hx hb dX11_lookAt_287 (by decide) ?_
                              refine lv_icmp_le (tgt := 295) hx hb dX11_lookAt_288 (by decide) (fun h526 => ?_) (fun h527 => ?_)
                              · skip
                                have h526 : (z9 + 3) ≤ 2 := (nI_leI (a := (z9 + 3)) (b := 2) (by omega) (by omega)).mp h526
                                exact absurd h526 (by omega)
                              · skip
                                have h527 : ¬ (z9 + 3) ≤ 2 := fun q9 => h527 ((nI_leI (a := (z9 + 3)) (b := 2) (by omega) (by omega)).mpr q9)
                                refine lv_iconst (v := 4) hx hb dX11_lookAt_291 (by decide) ?_
                                refine lv_goto (tgt := 299) hx hb dX11_lookAt_292 (by decide) ?_
                                refine va_put (D := D) (ci := 11) (v := .int 4) (ty := .int) (C := RX11) (T := TX11) (N := 18) hx hb hts iw11 tyX11 tyX11_ok nmX11 hown hK hP hD hS 0 rfl rfl 14 (by decide) fw4 (fun _ h9 => h9) rfl (by decide +kernel) rfl rfl (Nat.le_of_ble_eq_true rfl) dX11_lookAt_299 (fun H locs hP hD hS => ?_)
                                have hP : va_P D vwCl [(mo, .inr (11, [.ref to, .ref ke, .ref ik, .ref mrf, .long mab, .long mbl, .ref ha, .ref r0, .ref mbr, .ref mbp, .ref mby, .int (nI bl), .int (nI j91), .int (nI (z9 + 3)), .int 4, .int (nI (((10 * (w513 - 48)) + w520) - 48)), .ref an, .ref va])), (mby, .inl (y 0, 150, .inl fmb))] H := hP
                                have hD : va_D A [(mo, .inr (11, [.ref to, .ref ke, .ref ik, .ref mrf, .long mab, .long mbl, .ref ha, .ref r0, .ref mbr, .ref mbp, .ref mby, .int (nI bl), .int (nI j91), .int (nI (z9 + 3)), .int 4, .int (nI (((10 * (w513 - 48)) + w520) - 48)), .ref an, .ref va])), (mby, .inl (y 0, 150, .inl fmb))] := hD
                                exact W.vret hx hb hr (fun tZ ht hW => ⟨⟨(j91, z9 + 3, 4, (nI (((10 * (w513 - 48)) + w520) - 48))), rfl, ⟨by first | omega | (dsimp only; omega), by first | omega | (dsimp only; omega), by first | omega | (dsimp only; omega), by first | omega | (dsimp only; omega), by first | omega | (dsimp only; omega), kz_R.mk (ks_s2 hI0_j91 (ks_b_n h297)) (kz_Tn_f4 (by first | omega | (dsimp only; omega)) h347 hE9 (by first | omega | (dsimp only; omega)))⟩, by rw [ht]; exact hP.sub [0, 1] rfl, hD.sub [0, 1] (by decide) rfl⟩, hS.F ht⟩) hS.2.2 dX11_lookAt_302
                    · skip
                      have h480 : ¬ x374 = 0 := fun q9 => h480 ((nI_eq (a := x374) (b := 0) (by omega) (by omega)).mpr q9)
                      refine lv_aload_n hx hb dX11_lookAt_140 rfl (lv_at hl 2 rfl) ?_
                      refine va_get (D := D) (ci := 11) (v := .int (nI j91)) (C := RX11) (T := TX11) (N := 18) hx hb hts iw11 hown hK hP 0 rfl rfl 12 (by decide) fw1 (fun _ h9 => h9) rfl dX11_lookAt_141 ?_
                      refine lv_aload_n hx hb dX11_lookAt_144 rfl (lv_at hl 2 rfl) ?_
                      refine va_get (D := D) (ci := 11) (v := .int (nI x373)) (C := RX11) (T := TX11) (N := 18) hx hb hts iw11 hown hK hP 0 rfl rfl 13 (by decide) fw3 (fun _ h9 => h9) rfl dX11_lookAt_145 ?_
                      refine lv_iadd hx hb dX11_lookAt_148 ?_
                      rw [show (nI j91) + (nI x373) = nI (j91 + x373) from nI_add j91 x373]
                      refine lv_aload_n hx hb dX11_lookAt_149 rfl (lv_at hl 2 rfl) ?_
                      refine va_get (D := D) (ci := 11) (v := .int (nI bl)) (C := RX11) (T := TX11) (N := 18) hx hb hts iw11 hown hK hP 0 rfl rfl 11 (by decide) fw2 (fun _ h9 => h9) rfl dX11_lookAt_150 ?_
                      refine lv_icmp_ge (tgt := 215) hx hb dX11_lookAt_153 (by decide) (fun h528 => ?_) (fun h529 => ?_)
                      · skip
                        have h528 : bl ≤ (j91 + x373) := (nI_leI (a := bl) (b := (j91 + x373)) (by omega) (by omega)).mp h528
                        have hE9 : ks_to ks_f fmb bl j91 = j91 + x373 := ks_s3 hJ0_fu92 (by omega)
                        refine lv_iconst (v := 0) hx hb dX11_lookAt_215 (by decide) ?_
                        refine lv_istore (lv' := [(4, .int 0), (3, .int (nI x374)), (2, .int (fmb j91)), (0, .ref mo), (1, .int (nI k))]) hx hb dX11_lookAt_216 hl (by decide) rfl (fun ls hl => ?_)
                        rcases (show x373 = 1 ∨ x373 = 2 ∨ 3 ≤ x373 by omega) with rfl | rfl | h39
                        · skip
                          refine lv_iload hx hb dX11_lookAt_218 (lv_at hl 0 rfl) ?_
                          refine lv_aload_n hx hb dX11_lookAt_220 rfl (lv_at hl 3 rfl) ?_
                          refine va_get (D := D) (ci := 11) (v := .int (nI 1)) (C := RX11) (T := TX11) (N := 18) hx hb hts iw11 hown hK hP 0 rfl rfl 13 (by decide) fw3 (fun _ h9 => h9) rfl dX11_lookAt_221 ?_
                          refine lv_icmp_ge (tgt := 274) hx hb dX11_lookAt_224 (by decide) (fun h530 => ?_) (fun h531 => ?_)
                          · skip
                            have h530 : 1 ≤ 0 := (nI_leI (a := 1) (b := 0) (by omega) (by omega)).mp h530
                            exact absurd h530 (by omega)
                          · skip
                            have h531 : ¬ 1 ≤ 0 := fun q9 => h531 ((nI_leI (a := 1) (b := 0) (by omega) (by omega)).mpr q9)
                            refine lv_iload hx hb dX11_lookAt_227 (lv_at hl 0 rfl) ?_
                            refine lv_iconst (v := 2) hx hb dX11_lookAt_229 (by decide) ?_
                            refine lv_icmp_ge (tgt := 274) hx hb dX11_lookAt_230 (by decide) (fun h9 => absurd h9 (by decide)) (fun _ => ?_)
                            refine lv_aload_n hx hb dX11_lookAt_233 rfl (lv_at hl 3 rfl) ?_
                            refine va_get (D := D) (ci := 11) (v := .int 2) (C := RX11) (T := TX11) (N := 18) hx hb hts iw11 hown hK hP 0 rfl rfl 14 (by decide) fw4 (fun _ h9 => h9) rfl dX11_lookAt_234 ?_
                            refine lv_iconst (v := 2) hx hb dX11_lookAt_237 (by decide) ?_
                            refine lv_icmp_ne (tgt := 274) hx hb dX11_lookAt_238 (by decide) (fun h9 => absurd h9 (by decide)) (fun _ => ?_)
                            refine lv_aload_n hx hb dX11_lookAt_241 rfl (lv_at hl 3 rfl) ?_
                            refine lv_bipush (v := 10) hx hb dX11_lookAt_242 (by decide) ?_
                            refine lv_aload_n hx hb dX11_lookAt_244 rfl (lv_at hl 3 rfl) ?_
                            refine va_get (D := D) (ci := 11) (v := .int 0) (C := RX11) (T := TX11) (N := 18) hx hb hts iw11 hown hK hP 0 rfl rfl 15 (by decide) fw5 (fun _ h9 => h9) rfl dX11_lookAt_245 ?_
                            refine lv_imul hx hb dX11_lookAt_248 ?_
                            refine lv_topi (fun z532 hz532 => ?_)
                            obtain rfl : z532 = 0 := hz532.trans (by decide)
                            refine lv_aload_n hx hb dX11_lookAt_249 rfl (lv_at hl 3 rfl) ?_
                            refine va_get (D := D) (ci := 11) (v := .ref mby) (C := RX11) (T := TX11) (N := 18) hx hb hts iw11 hown hK hP 0 rfl rfl 10 (by decide) fw6 (fun _ h9 => h9) rfl dX11_lookAt_250 ?_
                            refine lv_aload_n hx hb dX11_lookAt_253 rfl (lv_at hl 3 rfl) ?_
                            refine va_get (D := D) (ci := 11) (v := .int (nI j91)) (C := RX11) (T := TX11) (N := 18) hx hb hts iw11 hown hK hP 0 rfl rfl 12 (by decide) fw1 (fun _ h9 => h9) rfl dX11_lookAt_254 ?_
                            refine lv_iload hx hb dX11_lookAt_257 (lv_at hl 0 rfl) ?_
                            refine lv_iadd hx hb dX11_lookAt_259 ?_
                            rw [show (nI j91) + 0 = nI (j91) from nI_add j91 0]
                            refine va_iald hx hb hK hP 1 0 rfl rfl (vp_in_nI (by omega) (by decide)) dX11_lookAt_260 ?_
                            rw [nI_clamp (n := j91) (by omega)]
                            obtain ⟨w533, h534, h535, h536⟩ := ks_fj h347
                            rw [h536]
                            refine lv_iadd hx hb dX11_lookAt_261 ?_
                            rw [show 0 + (nI w533) = nI (w533) from (nI_add 0 w533).trans (congrArg nI (by omega))]
                            refine lv_bipush (v := 48) hx hb dX11_lookAt_262 (by decide) ?_
                            refine lv_isub hx hb dX11_lookAt_264 ?_
                            rw [show (nI w533) - 48 = nI (w533 - 48) from pk_sub (a := w533) (b := 48) (by omega)]
                            refine va_put (D := D) (ci := 11) (v := .int (nI (w533 - 48))) (ty := .int) (C := RX11) (T := TX11) (N := 18) hx hb hts iw11 tyX11 tyX11_ok nmX11 hown hK hP hD hS 0 rfl rfl 15 (by decide) fw5 (fun _ h9 => h9) rfl (by decide +kernel) rfl rfl (Nat.le_of_ble_eq_true rfl) dX11_lookAt_265 (fun H locs hP hD hS => ?_)
                            have hP : va_P D vwCl [(mo, .inr (11, [.ref to, .ref ke, .ref ik, .ref mrf, .long mab, .long mbl, .ref ha, .ref r0, .ref mbr, .ref mbp, .ref mby, .int (nI bl), .int (nI j91), .int (nI 1), .int 2, .int (nI (w533 - 48)), .ref an, .ref va])), (mby, .inl (y 0, 150, .inl fmb))] H := hP
                            have hD : va_D A [(mo, .inr (11, [.ref to, .ref ke, .ref ik, .ref mrf, .long mab, .long mbl, .ref ha, .ref r0, .ref mbr, .ref mbp, .ref mby, .int (nI bl), .int (nI j91), .int (nI 1), .int 2, .int (nI (w533 - 48)), .ref an, .ref va])), (mby, .inl (y 0, 150, .inl fmb))] := hD
                            refine lv_iinc (v := 1) (lv' := [(4, .int 1), (3, .int (nI x374)), (2, .int (fmb j91)), (0, .ref mo), (1, .int (nI k))]) hx hb dX11_lookAt_268 hl (k := 0) rfl (by decide) (by decide) rfl (fun ls hl => ?_)
                            refine lv_goto (tgt := 218) hx hb dX11_lookAt_271 (by decide) ?_
                            refine lv_iload hx hb dX11_lookAt_218 (lv_at hl 0 rfl) ?_
                            refine lv_aload_n hx hb dX11_lookAt_220 rfl (lv_at hl 3 rfl) ?_
                            refine va_get (D := D) (ci := 11) (v := .int (nI 1)) (C := RX11) (T := TX11) (N := 18) hx hb hts iw11 hown hK hP 0 rfl rfl 13 (by decide) fw3 (fun _ h9 => h9) rfl dX11_lookAt_221 ?_
                            refine lv_icmp_ge (tgt := 274) hx hb dX11_lookAt_224 (by decide) (fun h537 => ?_) (fun h538 => ?_)
                            · skip
                              have h537 : 1 ≤ 1 := (nI_leI (a := 1) (b := 1) (by omega) (by omega)).mp h537
                              refine lv_aload_n hx hb dX11_lookAt_274 rfl (lv_at hl 3 rfl) ?_
                              refine lv_aload_n hx hb dX11_lookAt_275 rfl (lv_at hl 3 rfl) ?_
                              refine va_get (D := D) (ci := 11) (v := .int 2) (C := RX11) (T := TX11) (N := 18) hx hb hts iw11 hown hK hP 0 rfl rfl 14 (by decide) fw4 (fun _ h9 => h9) rfl dX11_lookAt_276 ?_
                              refine lv_iconst (v := 2) hx hb dX11_lookAt_279 (by decide) ?_
                              refine lv_icmp_ne (tgt := 295) hx hb dX11_lookAt_280 (by decide) (fun h9 => absurd h9 (by decide)) (fun _ => ?_)
                              refine lv_aload_n hx hb dX11_lookAt_283 rfl (lv_at hl 3 rfl) ?_
                              refine va_get (D := D) (ci := 11) (v := .int (nI 1)) (C := RX11) (T := TX11) (N := 18) hx hb hts iw11 hown hK hP 0 rfl rfl 13 (by decide) fw3 (fun _ h9 => h9) rfl dX11_lookAt_284 ?_
                              refine lv_iconst (v := 2) hx hb dX11_lookAt_287 (by decide) ?_
                              refine lv_icmp_le (tgt := 295) hx hb dX11_lookAt_288 (by decide) (fun h539 => ?_) (fun h540 => ?_)
                              · skip
                                have h539 : 1 ≤ 2 := (nI_leI (a := 1) (b := 2) (by omega) (by omega)).mp h539
                                refine lv_aload_n hx hb dX11_lookAt_295 rfl (lv_at hl 3 rfl) ?_
                                refine va_get (D := D) (ci := 11) (v := .int 2) (C := RX11) (T := TX11) (N := 18) hx hb hts iw11 hown hK hP 0 rfl rfl 14 (by decide) fw4 (fun _ h9 => h9) rfl dX11_lookAt_296 ?_
                                refine va_put (D := D) (ci := 11) (v := .int 2) (ty := .int) (C := RX11) (T := TX11) (N := 18) hx hb hts iw11 tyX11 tyX11_ok nmX11 hown hK hP hD hS 0 rfl rfl 14 (by decide) fw4 (fun _ h9 => h9) rfl (by decide +kernel) rfl rfl (Nat.le_of_ble_eq_true rfl) dX11_lookAt_299 (fun H locs hP hD hS => ?_)
                                have hP : va_P D vwCl [(mo, .inr (11, [.ref to, .ref ke, .ref ik, .ref mrf, .long mab, .long mbl, .ref ha, .ref r0, .ref mbr, .ref mbp, .ref mby, .int (nI bl), .int (nI j91), .int (nI 1), .int 2, .int (nI (w533 - 48)), .ref an, .ref va])), (mby, .inl (y 0, 150, .inl fmb))] H := hP
                                have hD : va_D A [(mo, .inr (11, [.ref to, .ref ke, .ref ik, .ref mrf, .long mab, .long mbl, .ref ha, .ref r0, .ref mbr, .ref mbp, .ref mby, .int (nI bl), .int (nI j91), .int (nI 1), .int 2, .int (nI (w533 - 48)), .ref an, .ref va])), (mby, .inl (y 0, 150, .inl fmb))] := hD
                                exact W.vret hx hb hr (fun tZ ht hW => ⟨⟨(j91, 1, 2, (nI (w533 - 48))), rfl, ⟨by first | omega | (dsimp only; omega), by first | omega | (dsimp only; omega), by first | omega | (dsimp only; omega), by first | omega | (dsimp only; omega), by first | omega | (dsimp only; omega), kz_R.mk (ks_s2 hI0_j91 (ks_b_n h297)) (kz_Tn_f2 (by first | omega | (dsimp only; omega)) h347 hE9 (ks_val1 h536 h535) (by first | omega | (dsimp only; omega)) (by first | omega | (dsimp only; omega)))⟩, by rw [ht]; exact hP.sub [0, 1] rfl, hD.sub [0, 1] (by decide) rfl⟩, hS.F ht⟩) hS.2.2 dX11_lookAt_302
                              · skip
                                have h540 : ¬ 1 ≤ 2 := fun q9 => h540 ((nI_leI (a := 1) (b := 2) (by omega) (by omega)).mpr q9)
                                exact absurd h540 (by omega)
                            · skip
                              have h538 : ¬ 1 ≤ 1 := fun q9 => h538 ((nI_leI (a := 1) (b := 1) (by omega) (by omega)).mpr q9)
                              exact absurd h538 (by omega)
                        · skip
                          refine lv_iload hx hb dX11_lookAt_218 (lv_at hl 0 rfl) ?_
                          refine lv_aload_n hx hb dX11_lookAt_220 rfl (lv_at hl 3 rfl) ?_
                          refine va_get (D := D) (ci := 11) (v := .int (nI 2)) (C := RX11) (T := TX11) (N := 18) hx hb hts iw11 hown hK hP 0 rfl rfl 13 (by decide) fw3 (fun _ h9 => h9) rfl dX11_lookAt_221 ?_
                          refine lv_icmp_ge (tgt := 274) hx hb dX11_lookAt_224 (by decide) (fun h541 => ?_) (fun h542 => ?_)
                          · skip
                            have h541 : 2 ≤ 0 := (nI_leI (a := 2) (b := 0) (by omega) (by omega)).mp h541
                            exact absurd h541 (by omega)
                          · skip
                            have h542 : ¬ 2 ≤ 0 := fun q9 => h542 ((nI_leI (a := 2) (b := 0) (by omega) (by omega)).mpr q9)
                            refine lv_iload hx hb dX11_lookAt_227 (lv_at hl 0 rfl) ?_
                            refine lv_iconst (v := 2) hx hb dX11_lookAt_229 (by decide) ?_
                            refine lv_icmp_ge (tgt := 274) hx hb dX11_lookAt_230 (by decide) (fun h9 => absurd h9 (by decide)) (fun _ => ?_)
                            refine lv_aload_n hx hb dX11_lookAt_233 rfl (lv_at hl 3 rfl) ?_
                            refine va_get (D := D) (ci := 11) (v := .int 2) (C := RX11) (T := TX11) (N := 18) hx hb hts iw11 hown hK hP 0 rfl rfl 14 (by decide) fw4 (fun _ h9 => h9) rfl dX11_lookAt_234 ?_
                            refine lv_iconst (v := 2) hx hb dX11_lookAt_237 (by decide) ?_
                            refine lv_icmp_ne (tgt := 274) hx hb dX11_lookAt_238 (by decide) (fun h9 => absurd h9 (by decide)) (fun _ => ?_)
                            refine lv_aload_n hx hb dX11_lookAt_241 rfl (lv_at hl 3 rfl) ?_
                            refine lv_bipush (v := 10) hx hb dX11_lookAt_242 (by decide) ?_
                            refine lv_aload_n hx hb dX11_lookAt_244 rfl (lv_at hl 3 rfl) ?_
                            refine va_get (D := D) (ci := 11) (v := .int 0) (C := RX11) (T := TX11) (N := 18) hx hb hts iw11 hown hK hP 0 rfl rfl 15 (by decide) fw5 (fun _ h9 => h9) rfl dX11_lookAt_245 ?_
                            refine lv_imul hx hb dX11_lookAt_248 ?_
                            refine lv_topi (fun z543 hz543 => ?_)
                            obtain rfl : z543 = 0 := hz543.trans (by decide)
                            refine lv_aload_n hx hb dX11_lookAt_249 rfl (lv_at hl 3 rfl) ?_
                            refine va_get (D := D) (ci := 11) (v := .ref mby) (C := RX11) (T := TX11) (N := 18) hx hb hts iw11 hown hK hP 0 rfl rfl 10 (by decide) fw6 (fun _ h9 => h9) rfl dX11_lookAt_250 ?_
                            refine lv_aload_n hx hb dX11_lookAt_253 rfl (lv_at hl 3 rfl) ?_
                            refine va_get (D := D) (ci := 11) (v := .int (nI j91)) (C := RX11) (T := TX11) (N := 18) hx hb hts iw11 hown hK hP 0 rfl rfl 12 (by decide) fw1 (fun _ h9 => h9) rfl dX11_lookAt_254 ?_
                            refine lv_iload hx hb dX11_lookAt_257 (lv_at hl 0 rfl) ?_
                            refine lv_iadd hx hb dX11_lookAt_259 ?_
                            rw [show (nI j91) + 0 = nI (j91) from nI_add j91 0]
                            refine va_iald hx hb hK hP 1 0 rfl rfl (vp_in_nI (by omega) (by decide)) dX11_lookAt_260 ?_
                            rw [nI_clamp (n := j91) (by omega)]
                            obtain ⟨w544, h545, h546, h547⟩ := ks_fj h347
                            rw [h547]
                            refine lv_iadd hx hb dX11_lookAt_261 ?_
                            rw [show 0 + (nI w544) = nI (w544) from (nI_add 0 w544).trans (congrArg nI (by omega))]
                            refine lv_bipush (v := 48) hx hb dX11_lookAt_262 (by decide) ?_
                            refine lv_isub hx hb dX11_lookAt_264 ?_
                            rw [show (nI w544) - 48 = nI (w544 - 48) from pk_sub (a := w544) (b := 48) (by omega)]
                            refine va_put (D := D) (ci := 11) (v := .int (nI (w544 - 48))) (ty := .int) (C := RX11) (T := TX11) (N := 18) hx hb hts iw11 tyX11 tyX11_ok nmX11 hown hK hP hD hS 0 rfl rfl 15 (by decide) fw5 (fun _ h9 => h9) rfl (by decide +kernel) rfl rfl (Nat.le_of_ble_eq_true rfl) dX11_lookAt_265 (fun H locs hP hD hS => ?_)
                            have hP : va_P D vwCl [(mo, .inr (11, [.ref to, .ref ke, .ref ik, .ref mrf, .long mab, .long mbl, .ref ha, .ref r0, .ref mbr, .ref mbp, .ref mby, .int (nI bl), .int (nI j91), .int (nI 2), .int 2, .int (nI (w544 - 48)), .ref an, .ref va])), (mby, .inl (y 0, 150, .inl fmb))] H := hP
                            have hD : va_D A [(mo, .inr (11, [.ref to, .ref ke, .ref ik, .ref mrf, .long mab, .long mbl, .ref ha, .ref r0, .ref mbr, .ref mbp, .ref mby, .int (nI bl), .int (nI j91), .int (nI 2), .int 2, .int (nI (w544 - 48)), .ref an, .ref va])), (mby, .inl (y 0, 150, .inl fmb))] := hD
                            refine lv_iinc (v := 1) (lv' := [(4, .int 1), (3, .int (nI x374)), (2, .int (fmb j91)), (0, .ref mo), (1, .int (nI k))]) hx hb dX11_lookAt_268 hl (k := 0) rfl (by decide) (by decide) rfl (fun ls hl => ?_)
                            refine lv_goto (tgt := 218) hx hb dX11_lookAt_271 (by decide) ?_
                            refine lv_iload hx hb dX11_lookAt_218 (lv_at hl 0 rfl) ?_
                            refine lv_aload_n hx hb dX11_lookAt_220 rfl (lv_at hl 3 rfl) ?_
                            refine va_get (D := D) (ci := 11) (v := .int (nI 2)) (C := RX11) (T := TX11) (N := 18) hx hb hts iw11 hown hK hP 0 rfl rfl 13 (by decide) fw3 (fun _ h9 => h9) rfl dX11_lookAt_221 ?_
                            refine lv_icmp_ge (tgt := 274) hx hb dX11_lookAt_224 (by decide) (fun h548 => ?_) (fun h549 => ?_)
                            · skip
                              have h548 : 2 ≤ 1 := (nI_leI (a := 2) (b := 1) (by omega) (by omega)).mp h548
                              exact absurd h548 (by omega)
                            · skip
                              have h549 : ¬ 2 ≤ 1 := fun q9 => h549 ((nI_leI (a := 2) (b := 1) (by omega) (by omega)).mpr q9)
                              refine lv_iload hx hb dX11_lookAt_227 (lv_at hl 0 rfl) ?_
                              refine lv_iconst (v := 2) hx hb dX11_lookAt_229 (by decide) ?_
                              refine lv_icmp_ge (tgt := 274) hx hb dX11_lookAt_230 (by decide) (fun h9 => absurd h9 (by decide)) (fun _ => ?_)
                              refine lv_aload_n hx hb dX11_lookAt_233 rfl (lv_at hl 3 rfl) ?_
                              refine va_get (D := D) (ci := 11) (v := .int 2) (C := RX11) (T := TX11) (N := 18) hx hb hts iw11 hown hK hP 0 rfl rfl 14 (by decide) fw4 (fun _ h9 => h9) rfl dX11_lookAt_234 ?_
                              refine lv_iconst (v := 2) hx hb dX11_lookAt_237 (by decide) ?_
                              refine lv_icmp_ne (tgt := 274) hx hb dX11_lookAt_238 (by decide) (fun h9 => absurd h9 (by decide)) (fun _ => ?_)
                              refine lv_aload_n hx hb dX11_lookAt_241 rfl (lv_at hl 3 rfl) ?_
                              refine lv_bipush (v := 10) hx hb dX11_lookAt_242 (by decide) ?_
                              refine lv_aload_n hx hb dX11_lookAt_244 rfl (lv_at hl 3 rfl) ?_
                              refine va_get (D := D) (ci := 11) (v := .int (nI (w544 - 48))) (C := RX11) (T := TX11) (N := 18) hx hb hts iw11 hown hK hP 0 rfl rfl 15 (by decide) fw5 (fun _ h9 => h9) rfl dX11_lookAt_245 ?_
                              refine lv_imul hx hb dX11_lookAt_248 ?_
                              rw [show 10 * (nI (w544 - 48)) = nI (10 * (w544 - 48)) from pk_mul 10 (w544 - 48)]
                              refine lv_aload_n hx hb dX11_lookAt_249 rfl (lv_at hl 3 rfl) ?_
                              refine va_get (D := D) (ci := 11) (v := .ref mby) (C := RX11) (T := TX11) (N := 18) hx hb hts iw11 hown hK hP 0 rfl rfl 10 (by decide) fw6 (fun _ h9 => h9) rfl dX11_lookAt_250 ?_
                              refine lv_aload_n hx hb dX11_lookAt_253 rfl (lv_at hl 3 rfl) ?_
                              refine va_get (D := D) (ci := 11) (v := .int (nI j91)) (C := RX11) (T := TX11) (N := 18) hx hb hts iw11 hown hK hP 0 rfl rfl 12 (by decide) fw1 (fun _ h9 => h9) rfl dX11_lookAt_254 ?_
                              refine lv_iload hx hb dX11_lookAt_257 (lv_at hl 0 rfl) ?_
                              refine lv_iadd hx hb dX11_lookAt_259 ?_
                              rw [show (nI j91) + 1 = nI (j91 + 1) from nI_add j91 1]
                              refine va_iald hx hb hK hP 1 0 rfl rfl (vp_in_nI (by omega) (by decide)) dX11_lookAt_260 ?_
                              rw [nI_clamp (n := (j91 + 1)) (by omega)]
                              have h550 : ks_f (fmb (j91 + 1)) = true := ks_to_in hE9 (by omega) (by omega)
                              obtain ⟨w551, h552, h553, h554⟩ := ks_fj h550
                              rw [h554]
                              refine lv_iadd hx hb dX11_lookAt_261 ?_
                              rw [show (nI (10 * (w544 - 48))) + (nI w551) = nI ((10 * (w544 - 48)) + w551) from nI_add (10 * (w544 - 48)) w551]
                              refine lv_bipush (v := 48) hx hb dX11_lookAt_262 (by decide) ?_
                              refine lv_isub hx hb dX11_lookAt_264 ?_
                              rw [show (nI ((10 * (w544 - 48)) + w551)) - 48 = nI (((10 * (w544 - 48)) + w551) - 48) from pk_sub (a := ((10 * (w544 - 48)) + w551)) (b := 48) (by omega)]
                              refine va_put (D := D) (ci := 11) (v := .int (nI (((10 * (w544 - 48)) + w551) - 48))) (ty := .int) (C := RX11) (T := TX11) (N := 18) hx hb hts iw11 tyX11 tyX11_ok nmX11 hown hK hP hD hS 0 rfl rfl 15 (by decide) fw5 (fun _ h9 => h9) rfl (by decide +kernel) rfl rfl (Nat.le_of_ble_eq_true rfl) dX11_lookAt_265 (fun H locs hP hD hS => ?_)
                              have hP : va_P D vwCl [(mo, .inr (11, [.ref to, .ref ke, .ref ik, .ref mrf, .long mab, .long mbl, .ref ha, .ref r0, .ref mbr, .ref mbp, .ref mby, .int (nI bl), .int (nI j91), .int (nI 2), .int 2, .int (nI (((10 * (w544 - 48)) + w551) - 48)), .ref an, .ref va])), (mby, .inl (y 0, 150, .inl fmb))] H := hP
                              have hD : va_D A [(mo, .inr (11, [.ref to, .ref ke, .ref ik, .ref mrf, .long mab, .long mbl, .ref ha, .ref r0, .ref mbr, .ref mbp, .ref mby, .int (nI bl), .int (nI j91), .int (nI 2), .int 2, .int (nI (((10 * (w544 - 48)) + w551) - 48)), .ref an, .ref va])), (mby, .inl (y 0, 150, .inl fmb))] := hD
                              refine lv_iinc (v := 2) (lv' := [(4, .int 2), (3, .int (nI x374)), (2, .int (fmb j91)), (0, .ref mo), (1, .int (nI k))]) hx hb dX11_lookAt_268 hl (k := 0) rfl (by decide) (by decide) rfl (fun ls hl => ?_)
                              refine lv_goto (tgt := 218) hx hb dX11_lookAt_271 (by decide) ?_
                              refine lv_iload hx hb dX11_lookAt_218 (lv_at hl 0 rfl) ?_
                              refine lv_aload_n hx hb dX11_lookAt_220 rfl (lv_at hl 3 rfl) ?_
                              refine va_get (D := D) (ci := 11) (v := .int (nI 2)) (C := RX11) (T := TX11) (N := 18) hx hb hts iw11 hown hK hP 0 rfl rfl 13 (by decide) fw3 (fun _ h9 => h9) rfl dX11_lookAt_221 ?_
                              refine lv_icmp_ge (tgt := 274) hx hb dX11_lookAt_224 (by decide) (fun h555 => ?_) (fun h556 => ?_)
                              · skip
                                have h555 : 2 ≤ 2 := (nI_leI (a := 2) (b := 2) (by omega) (by omega)).mp h555
                                refine lv_aload_n hx hb dX11_lookAt_274 rfl (lv_at hl 3 rfl) ?_
                                refine lv_aload_n hx hb dX11_lookAt_275 rfl (lv_at hl 3 rfl) ?_
                                refine va_get (D := D) (ci := 11) (v := .int 2) (C := RX11) (T := TX11) (N := 18) hx hb hts iw11 hown hK hP 0 rfl rfl 14 (by decide) fw4 (fun _ h9 => h9) rfl dX11_lookAt_276 ?_
                                refine lv_iconst (v := 2) hx hb dX11_lookAt_279 (by decide) ?_
                                refine lv_icmp_ne (tgt := 295) hx hb dX11_lookAt_280 (by decide) (fun h9 => absurd h9 (by decide)) (fun _ => ?_)
                                refine lv_aload_n hx hb dX11_lookAt_283 rfl (lv_at hl 3 rfl) ?_
                                refine va_get (D := D) (ci := 11) (v := .int (nI 2)) (C := RX11) (T := TX11) (N := 18) hx hb hts iw11 hown hK hP 0 rfl rfl 13 (by decide) fw3 (fun _ h9 => h9) rfl dX11_lookAt_284 ?_
                                refine lv_iconst (v := 2) hx hb dX11_lookAt_287 (by decide) ?_
                                refine lv_icmp_le (tgt := 295) hx hb dX11_lookAt_288 (by decide) (fun h557 => ?_) (fun h558 => ?_)
                                · skip
                                  have h557 : 2 ≤ 2 := (nI_leI (a := 2) (b := 2) (by omega) (by omega)).mp h557
                                  refine lv_aload_n hx hb dX11_lookAt_295 rfl (lv_at hl 3 rfl) ?_
                                  refine va_get (D := D) (ci := 11) (v := .int 2) (C := RX11) (T := TX11) (N := 18) hx hb hts iw11 hown hK hP 0 rfl rfl 14 (by decide) fw4 (fun _ h9 => h9) rfl dX11_lookAt_296 ?_
                                  refine va_put (D := D) (ci := 11) (v := .int 2) (ty := .int) (C := RX11) (T := TX11) (N := 18) hx hb hts iw11 tyX11 tyX11_ok nmX11 hown hK hP hD hS 0 rfl rfl 14 (by decide) fw4 (fun _ h9 => h9) rfl (by decide +kernel) rfl rfl (Nat.le_of_ble_eq_true rfl) dX11_lookAt_299 (fun H locs hP hD hS => ?_)
                                  have hP : va_P D vwCl [(mo, .inr (11, [.ref to, .ref ke, .ref ik, .ref mrf, .long mab, .long mbl, .ref ha, .ref r0, .ref mbr, .ref mbp, .ref mby, .int (nI bl), .int (nI j91), .int (nI 2), .int 2, .int (nI (((10 * (w544 - 48)) + w551) - 48)), .ref an, .ref va])), (mby, .inl (y 0, 150, .inl fmb))] H := hP
                                  have hD : va_D A [(mo, .inr (11, [.ref to, .ref ke, .ref ik, .ref mrf, .long mab, .long mbl, .ref ha, .ref r0, .ref mbr, .ref mbp, .ref mby, .int (nI bl), .int (nI j91), .int (nI 2), .int 2, .int (nI (((10 * (w544 - 48)) + w551) - 48)), .ref an, .ref va])), (mby, .inl (y 0, 150, .inl fmb))] := hD
                                  exact W.vret hx hb hr (fun tZ ht hW => ⟨⟨(j91, 2, 2, (nI (((10 * (w544 - 48)) + w551) - 48))), rfl, ⟨by first | omega | (dsimp only; omega), by first | omega | (dsimp only; omega), by first | omega | (dsimp only; omega), by first | omega | (dsimp only; omega), by first | omega | (dsimp only; omega), kz_R.mk (ks_s2 hI0_j91 (ks_b_n h297)) (kz_Tn_f2 (by first | omega | (dsimp only; omega)) h347 hE9 (ks_val2 h547 h546 h554 h553 h552) (by first | omega | (dsimp only; omega)) (by first | omega | (dsimp only; omega)))⟩, by rw [ht]; exact hP.sub [0, 1] rfl, hD.sub [0, 1] (by decide) rfl⟩, hS.F ht⟩) hS.2.2 dX11_lookAt_302
                                · skip
                                  have h558 : ¬ 2 ≤ 2 := fun q9 => h558 ((nI_leI (a := 2) (b := 2) (by omega) (by omega)).mpr q9)
                                  exact absurd h558 (by omega)
                              · skip
                                have h556 : ¬ 2 ≤ 2 := fun q9 => h556 ((nI_leI (a := 2) (b := 2) (by omega) (by omega)).mpr q9)
                                exact absurd h556 (by omega)
                        · skip
                          obtain ⟨z9, rfl⟩ : ∃ z, x373 = z + 3 := ⟨x373 - 3, by omega⟩
                          refine lv_iload hx hb dX11_lookAt_218 (lv_at hl 0 rfl) ?_
                          refine lv_aload_n hx hb dX11_lookAt_220 rfl (lv_at hl 3 rfl) ?_
                          refine va_get (D := D) (ci := 11) (v := .int (nI (z9 + 3))) (C := RX11) (T := TX11) (N := 18) hx hb hts iw11 hown hK hP 0 rfl rfl 13 (by decide) fw3 (fun _ h9 => h9) rfl dX11_lookAt_221 ?_
                          refine lv_icmp_ge (tgt := 274) hx hb dX11_lookAt_224 (by decide) (fun h559 => ?_) (fun h560 => ?_)
                          · skip
                            have h559 : (z9 + 3) ≤ 0 := (nI_leI (a := (z9 + 3)) (b := 0) (by omega) (by omega)).mp h559
                            exact absurd h559 (by omega)
                          · skip
                            have h560 : ¬ (z9 + 3) ≤ 0 := fun q9 => h560 ((nI_leI (a := (z9 + 3)) (b := 0) (by omega) (by omega)).mpr q9)
                            refine lv_iload hx hb dX11_lookAt_227 (lv_at hl 0 rfl) ?_
                            refine lv_iconst (v := 2) hx hb dX11_lookAt_229 (by decide) ?_
                            refine lv_icmp_ge (tgt := 274) hx hb dX11_lookAt_230 (by decide) (fun h9 => absurd h9 (by decide)) (fun _ => ?_)
                            refine lv_aload_n hx hb dX11_lookAt_233 rfl (lv_at hl 3 rfl) ?_
                            refine va_get (D := D) (ci := 11) (v := .int 2) (C := RX11) (T := TX11) (N := 18) hx hb hts iw11 hown hK hP 0 rfl rfl 14 (by decide) fw4 (fun _ h9 => h9) rfl dX11_lookAt_234 ?_
                            refine lv_iconst (v := 2) hx hb dX11_lookAt_237 (by decide) ?_
                            refine lv_icmp_ne (tgt := 274) hx hb dX11_lookAt_238 (by decide) (fun h9 => absurd h9 (by decide)) (fun _ => ?_)
                            refine lv_aload_n hx hb dX11_lookAt_241 rfl (lv_at hl 3 rfl) ?_
                            refine lv_bipush (v := 10) hx hb dX11_lookAt_242 (by decide) ?_
                            refine lv_aload_n hx hb dX11_lookAt_244 rfl (lv_at hl 3 rfl) ?_
                            refine va_get (D := D) (ci := 11) (v := .int 0) (C := RX11) (T := TX11) (N := 18) hx hb hts iw11 hown hK hP 0 rfl rfl 15 (by decide) fw5 (fun _ h9 => h9) rfl dX11_lookAt_245 ?_
                            refine lv_imul hx hb dX11_lookAt_248 ?_
                            refine lv_topi (fun z561 hz561 => ?_)
                            obtain rfl : z561 = 0 := hz561.trans (by decide)
                            refine lv_aload_n hx hb dX11_lookAt_249 rfl (lv_at hl 3 rfl) ?_
                            refine va_get (D := D) (ci := 11) (v := .ref mby) (C := RX11) (T := TX11) (N := 18) hx hb hts iw11 hown hK hP 0 rfl rfl 10 (by decide) fw6 (fun _ h9 => h9) rfl dX11_lookAt_250 ?_
                            refine lv_aload_n hx hb dX11_lookAt_253 rfl (lv_at hl 3 rfl) ?_
                            refine va_get (D := D) (ci := 11) (v := .int (nI j91)) (C := RX11) (T := TX11) (N := 18) hx hb hts iw11 hown hK hP 0 rfl rfl 12 (by decide) fw1 (fun _ h9 => h9) rfl dX11_lookAt_254 ?_
                            refine lv_iload hx hb dX11_lookAt_257 (lv_at hl 0 rfl) ?_
                            refine lv_iadd hx hb dX11_lookAt_259 ?_
                            rw [show (nI j91) + 0 = nI (j91) from nI_add j91 0]
                            refine va_iald hx hb hK hP 1 0 rfl rfl (vp_in_nI (by omega) (by decide)) dX11_lookAt_260 ?_
                            rw [nI_clamp (n := j91) (by omega)]
                            obtain ⟨w562, h563, h564, h565⟩ := ks_fj h347
                            rw [h565]
                            refine lv_iadd hx hb dX11_lookAt_261 ?_
                            rw [show 0 + (nI w562) = nI (w562) from (nI_add 0 w562).trans (congrArg nI (by omega))]
                            refine lv_bipush (v := 48) hx hb dX11_lookAt_262 (by decide) ?_
                            refine lv_isub hx hb dX11_lookAt_264 ?_
                            rw [show (nI w562) - 48 = nI (w562 - 48) from pk_sub (a := w562) (b := 48) (by omega)]
                            refine va_put (D := D) (ci := 11) (v := .int (nI (w562 - 48))) (ty := .int) (C := RX11) (T := TX11) (N := 18) hx hb hts iw11 tyX11 tyX11_ok nmX11 hown hK hP hD hS 0 rfl rfl 15 (by decide) fw5 (fun _ h9 => h9) rfl (by decide +kernel) rfl rfl (Nat.le_of_ble_eq_true rfl) dX11_lookAt_265 (fun H locs hP hD hS => ?_)
                            have hP : va_P D vwCl [(mo, .inr (11, [.ref to, .ref ke, .ref ik, .ref mrf, .long mab, .long mbl, .ref ha, .ref r0, .ref mbr, .ref mbp, .ref mby, .int (nI bl), .int (nI j91), .int (nI (z9 + 3)), .int 2, .int (nI (w562 - 48)), .ref an, .ref va])), (mby, .inl (y 0, 150, .inl fmb))] H := hP
                            have hD : va_D A [(mo, .inr (11, [.ref to, .ref ke, .ref ik, .ref mrf, .long mab, .long mbl, .ref ha, .ref r0, .ref mbr, .ref mbp, .ref mby, .int (nI bl), .int (nI j91), .int (nI (z9 + 3)), .int 2, .int (nI (w562 - 48)), .ref an, .ref va])), (mby, .inl (y 0, 150, .inl fmb))] := hD
                            refine lv_iinc (v := 1) (lv' := [(4, .int 1), (3, .int (nI x374)), (2, .int (fmb j91)), (0, .ref mo), (1, .int (nI k))]) hx hb dX11_lookAt_268 hl (k := 0) rfl (by decide) (by decide) rfl (fun ls hl => ?_)
                            refine lv_goto (tgt := 218) hx hb dX11_lookAt_271 (by decide) ?_
                            refine lv_iload hx hb dX11_lookAt_218 (lv_at hl 0 rfl) ?_
                            refine lv_aload_n hx hb dX11_lookAt_220 rfl (lv_at hl 3 rfl) ?_
                            refine va_get (D := D) (ci := 11) (v := .int (nI (z9 + 3))) (C := RX11) (T := TX11) (N := 18) hx hb hts iw11 hown hK hP 0 rfl rfl 13 (by decide) fw3 (fun _ h9 => h9) rfl dX11_lookAt_221 ?_
                            refine lv_icmp_ge (tgt := 274) hx hb dX11_lookAt_224 (by decide) (fun h566 => ?_) (fun h567 => ?_)
                            · skip
                              have h566 : (z9 + 3) ≤ 1 := (nI_leI (a := (z9 + 3)) (b := 1) (by omega) (by omega)).mp h566
                              exact absurd h566 (by omega)
                            · skip
                              have h567 : ¬ (z9 + 3) ≤ 1 := fun q9 => h567 ((nI_leI (a := (z9 + 3)) (b := 1) (by omega) (by omega)).mpr q9)
                              refine lv_iload hx hb dX11_lookAt_227 (lv_at hl 0 rfl) ?_
                              refine lv_iconst (v := 2) hx hb dX11_lookAt_229 (by decide) ?_
                              refine lv_icmp_ge (tgt := 274) hx hb dX11_lookAt_230 (by decide) (fun h9 => absurd h9 (by decide)) (fun _ => ?_)
                              refine lv_aload_n hx hb dX11_lookAt_233 rfl (lv_at hl 3 rfl) ?_
                              refine va_get (D := D) (ci := 11) (v := .int 2) (C := RX11) (T := TX11) (N := 18) hx hb hts iw11 hown hK hP 0 rfl rfl 14 (by decide) fw4 (fun _ h9 => h9) rfl dX11_lookAt_234 ?_
                              refine lv_iconst (v := 2) hx hb dX11_lookAt_237 (by decide) ?_
                              refine lv_icmp_ne (tgt := 274) hx hb dX11_lookAt_238 (by decide) (fun h9 => absurd h9 (by decide)) (fun _ => ?_)
                              refine lv_aload_n hx hb dX11_lookAt_241 rfl (lv_at hl 3 rfl) ?_
                              refine lv_bipush (v := 10) hx hb dX11_lookAt_242 (by decide) ?_
                              refine lv_aload_n hx hb dX11_lookAt_244 rfl (lv_at hl 3 rfl) ?_
                              refine va_get (D := D) (ci := 11) (v := .int (nI (w562 - 48))) (C := RX11) (T := TX11) (N := 18) hx hb hts iw11 hown hK hP 0 rfl rfl 15 (by decide) fw5 (fun _ h9 => h9) rfl dX11_lookAt_245 ?_
                              refine lv_imul hx hb dX11_lookAt_248 ?_
                              rw [show 10 * (nI (w562 - 48)) = nI (10 * (w562 - 48)) from pk_mul 10 (w562 - 48)]
                              refine lv_aload_n hx hb dX11_lookAt_249 rfl (lv_at hl 3 rfl) ?_
                              refine va_get (D := D) (ci := 11) (v := .ref mby) (C := RX11) (T := TX11) (N := 18) hx hb hts iw11 hown hK hP 0 rfl rfl 10 (by decide) fw6 (fun _ h9 => h9) rfl dX11_lookAt_250 ?_
                              refine lv_aload_n hx hb dX11_lookAt_253 rfl (lv_at hl 3 rfl) ?_
                              refine va_get (D := D) (ci := 11) (v := .int (nI j91)) (C := RX11) (T := TX11) (N := 18) hx hb hts iw11 hown hK hP 0 rfl rfl 12 (by decide) fw1 (fun _ h9 => h9) rfl dX11_lookAt_254 ?_
                              refine lv_iload hx hb dX11_lookAt_257 (lv_at hl 0 rfl) ?_
                              refine lv_iadd hx hb dX11_lookAt_259 ?_
                              rw [show (nI j91) + 1 = nI (j91 + 1) from nI_add j91 1]
                              refine va_iald hx hb hK hP 1 0 rfl rfl (vp_in_nI (by omega) (by decide)) dX11_lookAt_260 ?_
                              rw [nI_clamp (n := (j91 + 1)) (by omega)]
                              have h568 : ks_f (fmb (j91 + 1)) = true := ks_to_in hE9 (by omega) (by omega)
                              obtain ⟨w569, h570, h571, h572⟩ := ks_fj h568
                              rw [h572]
                              refine lv_iadd hx hb dX11_lookAt_261 ?_
                              rw [show (nI (10 * (w562 - 48))) + (nI w569) = nI ((10 * (w562 - 48)) + w569) from nI_add (10 * (w562 - 48)) w569]
                              refine lv_bipush (v := 48) hx hb dX11_lookAt_262 (by decide) ?_
                              refine lv_isub hx hb dX11_lookAt_264 ?_
                              rw [show (nI ((10 * (w562 - 48)) + w569)) - 48 = nI (((10 * (w562 - 48)) + w569) - 48) from pk_sub (a := ((10 * (w562 - 48)) + w569)) (b := 48) (by omega)]
                              refine va_put (D := D) (ci := 11) (v := .int (nI (((10 * (w562 - 48)) + w569) - 48))) (ty := .int) (C := RX11) (T := TX11) (N := 18) hx hb hts iw11 tyX11 tyX11_ok nmX11 hown hK hP hD hS 0 rfl rfl 15 (by decide) fw5 (fun _ h9 => h9) rfl (by decide +kernel) rfl rfl (Nat.le_of_ble_eq_true rfl) dX11_lookAt_265 (fun H locs hP hD hS => ?_)
                              have hP : va_P D vwCl [(mo, .inr (11, [.ref to, .ref ke, .ref ik, .ref mrf, .long mab, .long mbl, .ref ha, .ref r0, .ref mbr, .ref mbp, .ref mby, .int (nI bl), .int (nI j91), .int (nI (z9 + 3)), .int 2, .int (nI (((10 * (w562 - 48)) + w569) - 48)), .ref an, .ref va])), (mby, .inl (y 0, 150, .inl fmb))] H := hP
                              have hD : va_D A [(mo, .inr (11, [.ref to, .ref ke, .ref ik, .ref mrf, .long mab, .long mbl, .ref ha, .ref r0, .ref mbr, .ref mbp, .ref mby, .int (nI bl), .int (nI j91), .int (nI (z9 + 3)), .int 2, .int (nI (((10 * (w562 - 48)) + w569) - 48)), .ref an, .ref va])), (mby, .inl (y 0, 150, .inl fmb))] := hD
                              refine lv_iinc (v := 2) (lv' := [(4, .int 2), (3, .int (nI x374)), (2, .int (fmb j91)), (0, .ref mo), (1, .int (nI k))]) hx hb dX11_lookAt_268 hl (k := 0) rfl (by decide) (by decide) rfl (fun ls hl => ?_)
                              refine lv_goto (tgt := 218) hx hb dX11_lookAt_271 (by decide) ?_
                              refine lv_iload hx hb dX11_lookAt_218 (lv_at hl 0 rfl) ?_
                              refine lv_aload_n hx hb dX11_lookAt_220 rfl (lv_at hl 3 rfl) ?_
                              refine va_get (D := D) (ci := 11) (v := .int (nI (z9 + 3))) (C := RX11) (T := TX11) (N := 18) hx hb hts iw11 hown hK hP 0 rfl rfl 13 (by decide) fw3 (fun _ h9 => h9) rfl dX11_lookAt_221 ?_
                              refine lv_icmp_ge (tgt := 274) hx hb dX11_lookAt_224 (by decide) (fun h573 => ?_) (fun h574 => ?_)
                              · skip
                                have h573 : (z9 + 3) ≤ 2 := (nI_leI (a := (z9 + 3)) (b := 2) (by omega) (by omega)).mp h573
                                exact absurd h573 (by omega)
                              · skip
                                have h574 : ¬ (z9 + 3) ≤ 2 := fun q9 => h574 ((nI_leI (a := (z9 + 3)) (b := 2) (by omega) (by omega)).mpr q9)
                                refine lv_iload hx hb dX11_lookAt_227 (lv_at hl 0 rfl) ?_
                                refine lv_iconst (v := 2) hx hb dX11_lookAt_229 (by decide) ?_
                                refine lv_icmp_ge (tgt := 274) hx hb dX11_lookAt_230 (by decide) (fun _ => ?_) (fun h9 => absurd h9 (by decide))
                                refine lv_aload_n hx hb dX11_lookAt_274 rfl (lv_at hl 3 rfl) ?_
                                refine lv_aload_n hx hb dX11_lookAt_275 rfl (lv_at hl 3 rfl) ?_
                                refine va_get (D := D) (ci := 11) (v := .int 2) (C := RX11) (T := TX11) (N := 18) hx hb hts iw11 hown hK hP 0 rfl rfl 14 (by decide) fw4 (fun _ h9 => h9) rfl dX11_lookAt_276 ?_
                                refine lv_iconst (v := 2) hx hb dX11_lookAt_279 (by decide) ?_
                                refine lv_icmp_ne (tgt := 295) hx hb dX11_lookAt_280 (by decide) (fun h9 => absurd h9 (by decide)) (fun _ => ?_)
                                refine lv_aload_n hx hb dX11_lookAt_283 rfl (lv_at hl 3 rfl) ?_
                                refine va_get (D := D) (ci := 11) (v := .int (nI (z9 + 3))) (C := RX11) (T := TX11) (N := 18) hx hb hts iw11 hown hK hP 0 rfl rfl 13 (by decide) fw3 (fun _ h9 => h9) rfl dX11_lookAt_284 ?_
                                refine lv_iconst (v := 2) hx hb dX11_lookAt_287 (by decide) ?_
                                refine lv_icmp_le (tgt := 295) hx hb dX11_lookAt_288 (by decide) (fun h575 => ?_) (fun h576 => ?_)
                                · skip
                                  have h575 : (z9 + 3) ≤ 2 := (nI_leI (a := (z9 + 3)) (b := 2) (by omega) (by omega)).mp h575
                                  exact absurd h575 (by omega)
                                · skip
                                  have h576 : ¬ (z9 + 3) ≤ 2 := fun q9 => h576 ((nI_leI (a := (z9 + 3)) (b := 2) (by omega) (by omega)).mpr q9)
                                  refine lv_iconst (v := 4) hx hb dX11_lookAt_291 (by decide) ?_
                                  refine lv_goto (tgt := 299) hx hb dX11_lookAt_292 (by decide) ?_
                                  refine va_put (D := D) (ci := 11) (v := .int 4) (ty := .int) (C := RX11) (T := TX11) (N := 18) hx hb hts iw11 tyX11 tyX11_ok nmX11 hown hK hP hD hS 0 rfl rfl 14 (by decide) fw4 (fun _ h9 => h9) rfl (by decide +kernel) rfl rfl (Nat.le_of_ble_eq_true rfl) dX11_lookAt_299 (fun H locs hP hD hS => ?_)
                                  have hP : va_P D vwCl [(mo, .inr (11, [.ref to, .ref ke, .ref ik, .ref mrf, .long mab, .long mbl, .ref ha, .ref r0, .ref mbr, .ref mbp, .ref mby, .int (nI bl), .int (nI j91), .int (nI (z9 + 3)), .int 4, .int (nI (((10 * (w562 - 48)) + w569) - 48)), .ref an, .ref va])), (mby, .inl (y 0, 150, .inl fmb))] H := hP
                                  have hD : va_D A [(mo, .inr (11, [.ref to, .ref ke, .ref ik, .ref mrf, .long mab, .long mbl, .ref ha, .ref r0, .ref mbr, .ref mbp, .ref mby, .int (nI bl), .int (nI j91), .int (nI (z9 + 3)), .int 4, .int (nI (((10 * (w562 - 48)) + w569) - 48)), .ref an, .ref va])), (mby, .inl (y 0, 150, .inl fmb))] := hD
                                  exact W.vret hx hb hr (fun tZ ht hW => ⟨⟨(j91, z9 + 3, 4, (nI (((10 * (w562 - 48)) + w569) - 48))), rfl, ⟨by first | omega | (dsimp only; omega), by first | omega | (dsimp only; omega), by first | omega | (dsimp only; omega), by first | omega | (dsimp only; omega), by first | omega | (dsimp only; omega), kz_R.mk (ks_s2 hI0_j91 (ks_b_n h297)) (kz_Tn_f4 (by first | omega | (dsimp only; omega)) h347 hE9 (by first | omega | (dsimp only; omega)))⟩, by rw [ht]; exact hP.sub [0, 1] rfl, hD.sub [0, 1] (by decide) rfl⟩, hS.F ht⟩) hS.2.2 dX11_lookAt_302
                      · skip
                        have h529 : ¬ bl ≤ (j91 + x373) := fun q9 => h529 ((nI_leI (a := bl) (b := (j91 + x373)) (by omega) (by omega)).mpr q9)
                        refine lv_aload_n hx hb dX11_lookAt_156 rfl (lv_at hl 2 rfl) ?_
                        refine va_get (D := D) (ci := 11) (v := .ref mby) (C := RX11) (T := TX11) (N := 18) hx hb hts iw11 hown hK hP 0 rfl rfl 10 (by decide) fw6 (fun _ h9 => h9) rfl dX11_lookAt_157 ?_
                        refine lv_aload_n hx hb dX11_lookAt_160 rfl (lv_at hl 2 rfl) ?_
                        refine va_get (D := D) (ci := 11) (v := .int (nI j91)) (C := RX11) (T := TX11) (N := 18) hx hb hts iw11 hown hK hP 0 rfl rfl 12 (by decide) fw1 (fun _ h9 => h9) rfl dX11_lookAt_161 ?_
                        refine lv_aload_n hx hb dX11_lookAt_164 rfl (lv_at hl 2 rfl) ?_
                        refine va_get (D := D) (ci := 11) (v := .int (nI x373)) (C := RX11) (T := TX11) (N := 18) hx hb hts iw11 hown hK hP 0 rfl rfl 13 (by decide) fw3 (fun _ h9 => h9) rfl dX11_lookAt_165 ?_
                        refine lv_iadd hx hb dX11_lookAt_168 ?_
                        rw [show (nI j91) + (nI x373) = nI (j91 + x373) from nI_add j91 x373]
                        refine va_iald hx hb hK hP 1 0 rfl rfl (vp_in_nI (by omega) (by decide)) dX11_lookAt_169 ?_
                        rw [nI_clamp (n := (j91 + x373)) (by omega)]
                        refine lv_istore (lv' := [(4, .int (fmb (j91 + x373))), (3, .int (nI x374)), (2, .int (fmb j91)), (0, .ref mo), (1, .int (nI k))]) hx hb dX11_lookAt_170 hl (by decide) rfl (fun ls hl => ?_)
                        refine lv_aload_n hx hb dX11_lookAt_172 rfl (lv_at hl 3 rfl) ?_
                        refine va_get (D := D) (ci := 11) (v := .int 2) (C := RX11) (T := TX11) (N := 18) hx hb hts iw11 hown hK hP 0 rfl rfl 14 (by decide) fw4 (fun _ h9 => h9) rfl dX11_lookAt_173 ?_
                        refine lv_iconst (v := 1) hx hb dX11_lookAt_176 (by decide) ?_
                        refine lv_icmp_ne (tgt := 188) hx hb dX11_lookAt_177 (by decide) (fun _ => ?_) (fun h9 => absurd h9 (by decide))
                        refine lv_iload hx hb dX11_lookAt_188 (lv_at hl 0 rfl) ?_
                        have hs577 : kw_Split [(mo, .inr (11, [.ref to, .ref ke, .ref ik, .ref mrf, .long mab, .long mbl, .ref ha, .ref r0, .ref mbr, .ref mbp, .ref mby, .int (nI bl), .int (nI j91), .int (nI x373), .int 2, .int 0, .ref an, .ref va])), (mby, .inl (y 0, 150, .inl fmb))] [] [(mo, .inr (11, [.ref to, .ref ke, .ref ik, .ref mrf, .long mab, .long mbl, .ref ha, .ref r0, .ref mbr, .ref mbp, .ref mby, .int (nI bl), .int (nI j91), .int (nI x373), .int 2, .int 0, .ref an, .ref va])), (mby, .inl (y 0, 150, .inl fmb))] [] [0, 1] := ⟨rfl, rfl, rfl, rfl, rfl, by decide⟩
                        refine kw_go_i hs577 hP hD hS hA (va_runS (As := [.int (fmb (j91 + x373))]) (rest := []) ⟨hx, hb, hml, hown, hts⟩ (gs_MisFigure l D y (fmb (j91 + x373))  _) (va_cwS 1 hts gX11_lookAt_X11_isFigure rfl rfl rfl (by decide +kernel) ⟨Nat.le_of_ble_eq_true rfl, Nat.le_of_ble_eq_true rfl⟩) (kw_PreS hs577 hP hD hK hN) rfl rfl hl.1 rfl (lv_room (Nat.le_of_ble_eq_true rfl)) dX11_lookAt_190 ⟨Nat.le_of_ble_eq_true rfl, Nat.le_of_ble_eq_true rfl⟩) (fun r578 u579 H locs hq hP hD hS => ?_)
                        rcases hq with ⟨h580, rfl⟩ | ⟨h581, rfl⟩
                        · skip
                          have hP : va_P D vwCl [(mo, .inr (11, [.ref to, .ref ke, .ref ik, .ref mrf, .long mab, .long mbl, .ref ha, .ref r0, .ref mbr, .ref mbp, .ref mby, .int (nI bl), .int (nI j91), .int (nI x373), .int 2, .int 0, .ref an, .ref va])), (mby, .inl (y 0, 150, .inl fmb))] H := hP
                          have hD : va_D A [(mo, .inr (11, [.ref to, .ref ke, .ref ik, .ref mrf, .long mab, .long mbl, .ref ha, .ref r0, .ref mbr, .ref mbp, .ref mby, .int (nI bl), .int (nI j91), .int (nI x373), .int 2, .int 0, .ref an, .ref va])), (mby, .inl (y 0, 150, .inl fmb))] := hD
                          refine lv_istore_n (lv' := [(3, .int 1), (4, .int (fmb (j91 + x373))), (2, .int (fmb j91)), (0, .ref mo), (1, .int (nI k))]) hx hb dX11_lookAt_193 rfl hl (by decide) rfl (fun ls hl => ?_)
                          refine lv_aload_n hx hb dX11_lookAt_194 rfl (lv_at hl 3 rfl) ?_
                          refine lv_dup hx hb dX11_lookAt_195 rfl ?_
                          refine va_get (D := D) (ci := 11) (v := .int (nI x373)) (C := RX11) (T := TX11) (N := 18) hx hb hts iw11 hown hK hP 0 rfl rfl 13 (by decide) fw3 (fun _ h9 => h9) rfl dX11_lookAt_196 ?_
                          refine lv_iload_n hx hb dX11_lookAt_199 rfl (lv_at hl 0 rfl) ?_
                          refine lv_if_eq (tgt := 207) hx hb dX11_lookAt_200 (by decide) (fun h9 => absurd h9 (by decide)) (fun _ => ?_)
                          refine lv_iconst (v := 1) hx hb dX11_lookAt_203 (by decide) ?_
                          refine lv_goto (tgt := 208) hx hb dX11_lookAt_204 (by decide) ?_
                          refine lv_iadd hx hb dX11_lookAt_208 ?_
                          rw [show (nI x373) + 1 = nI (x373 + 1) from nI_add x373 1]
                          refine va_put (D := D) (ci := 11) (v := .int (nI (x373 + 1))) (ty := .int) (C := RX11) (T := TX11) (N := 18) hx hb hts iw11 tyX11 tyX11_ok nmX11 hown hK hP hD hS 0 rfl rfl 13 (by decide) fw3 (fun _ h9 => h9) rfl (by decide +kernel) rfl rfl (Nat.le_of_ble_eq_true rfl) dX11_lookAt_209 (fun H locs hP hD hS => ?_)
                          have hP : va_P D vwCl [(mo, .inr (11, [.ref to, .ref ke, .ref ik, .ref mrf, .long mab, .long mbl, .ref ha, .ref r0, .ref mbr, .ref mbp, .ref mby, .int (nI bl), .int (nI j91), .int (nI (x373 + 1)), .int 2, .int 0, .ref an, .ref va])), (mby, .inl (y 0, 150, .inl fmb))] H := hP
                          have hD : va_D A [(mo, .inr (11, [.ref to, .ref ke, .ref ik, .ref mrf, .long mab, .long mbl, .ref ha, .ref r0, .ref mbr, .ref mbp, .ref mby, .int (nI bl), .int (nI j91), .int (nI (x373 + 1)), .int 2, .int 0, .ref an, .ref va])), (mby, .inl (y 0, 150, .inl fmb))] := hD
                          refine lv_goto (tgt := 136) hx hb dX11_lookAt_212 (by decide) ?_
                          exact ihfu92 (x373 + 1) 1 H locs ls (by omega) (by omega) (by omega) (hJ0_fu92.trans (ks_to_step (by omega) h580)) (fun q9 => absurd q9 (by decide)) (by omega) (by omega) (hP.sub [0, 1] rfl) (hD.sub [0, 1] (by decide) rfl) hS (lv_sub hl [0, 2, 3, 4] rfl)
                        · skip
                          have hP : va_P D vwCl [(mo, .inr (11, [.ref to, .ref ke, .ref ik, .ref mrf, .long mab, .long mbl, .ref ha, .ref r0, .ref mbr, .ref mbp, .ref mby, .int (nI bl), .int (nI j91), .int (nI x373), .int 2, .int 0, .ref an, .ref va])), (mby, .inl (y 0, 150, .inl fmb))] H := hP
                          have hD : va_D A [(mo, .inr (11, [.ref to, .ref ke, .ref ik, .ref mrf, .long mab, .long mbl, .ref ha, .ref r0, .ref mbr, .ref mbp, .ref mby, .int (nI bl), .int (nI j91), .int (nI x373), .int 2, .int 0, .ref an, .ref va])), (mby, .inl (y 0, 150, .inl fmb))] := hD
                          refine lv_istore_n (lv' := [(3, .int 0), (4, .int (fmb (j91 + x373))), (2, .int (fmb j91)), (0, .ref mo), (1, .int (nI k))]) hx hb dX11_lookAt_193 rfl hl (by decide) rfl (fun ls hl => ?_)
                          refine lv_aload_n hx hb dX11_lookAt_194 rfl (lv_at hl 3 rfl) ?_
                          refine lv_dup hx hb dX11_lookAt_195 rfl ?_
                          refine va_get (D := D) (ci := 11) (v := .int (nI x373)) (C := RX11) (T := TX11) (N := 18) hx hb hts iw11 hown hK hP 0 rfl rfl 13 (by decide) fw3 (fun _ h9 => h9) rfl dX11_lookAt_196 ?_
                          refine lv_iload_n hx hb dX11_lookAt_199 rfl (lv_at hl 0 rfl) ?_
                          refine lv_if_eq (tgt := 207) hx hb dX11_lookAt_200 (by decide) (fun _ => ?_) (fun h9 => absurd h9 (by decide))
                          refine lv_iconst (v := 0) hx hb dX11_lookAt_207 (by decide) ?_
                          refine lv_iadd hx hb dX11_lookAt_208 ?_
                          rw [show (nI x373) + 0 = nI (x373) from nI_add x373 0]
                          refine va_put (D := D) (ci := 11) (v := .int (nI x373)) (ty := .int) (C := RX11) (T := TX11) (N := 18) hx hb hts iw11 tyX11 tyX11_ok nmX11 hown hK hP hD hS 0 rfl rfl 13 (by decide) fw3 (fun _ h9 => h9) rfl (by decide +kernel) rfl rfl (Nat.le_of_ble_eq_true rfl) dX11_lookAt_209 (fun H locs hP hD hS => ?_)
                          have hP : va_P D vwCl [(mo, .inr (11, [.ref to, .ref ke, .ref ik, .ref mrf, .long mab, .long mbl, .ref ha, .ref r0, .ref mbr, .ref mbp, .ref mby, .int (nI bl), .int (nI j91), .int (nI x373), .int 2, .int 0, .ref an, .ref va])), (mby, .inl (y 0, 150, .inl fmb))] H := hP
                          have hD : va_D A [(mo, .inr (11, [.ref to, .ref ke, .ref ik, .ref mrf, .long mab, .long mbl, .ref ha, .ref r0, .ref mbr, .ref mbp, .ref mby, .int (nI bl), .int (nI j91), .int (nI x373), .int 2, .int 0, .ref an, .ref va])), (mby, .inl (y 0, 150, .inl fmb))] := hD
                          refine lv_goto (tgt := 136) hx hb dX11_lookAt_212 (by decide) ?_
                          exact ihfu92 x373 0 H locs ls (by omega) (by omega) (by omega) hJ0_fu92 (fun _ => h581) (by omega) (by omega) (hP.sub [0, 1] rfl) (hD.sub [0, 1] (by decide) rfl) hS (lv_sub hl [0, 2, 3, 4] rfl)
                exact lp478 _ 1 1 _ _ _ (Nat.lt_succ_self _) (by omega) (by omega) (ks_to_step (by omega) h347) (fun q9 => absurd q9 (by decide)) (by omega) (by omega) hP hD hS (lv_sub hl [0, 1, 2, 3] rfl)
              · skip
                have hP : va_P D vwCl [(mo, .inr (11, [.ref to, .ref ke, .ref ik, .ref mrf, .long mab, .long mbl, .ref ha, .ref r0, .ref mbr, .ref mbp, .ref mby, .int (nI bl), .int (nI j91), .int 0, .int 0, .int 0, .ref an, .ref va])), (mby, .inl (y 0, 150, .inl fmb))] H := hP
                have hD : va_D A [(mo, .inr (11, [.ref to, .ref ke, .ref ik, .ref mrf, .long mab, .long mbl, .ref ha, .ref r0, .ref mbr, .ref mbp, .ref mby, .int (nI bl), .int (nI j91), .int 0, .int 0, .int 0, .ref an, .ref va])), (mby, .inl (y 0, 150, .inl fmb))] := hD
                refine lv_if_eq (tgt := 103) hx hb dX11_lookAt_96 (by decide) (fun _ => ?_) (fun h9 => absurd h9 (by decide))
                refine lv_iload_n hx hb dX11_lookAt_103 rfl (lv_at hl 0 rfl) ?_
                refine lv_bipush (v := 59) hx hb dX11_lookAt_104 (by decide) ?_
                refine lv_icmp_ne (tgt := 113) hx hb dX11_lookAt_106 (by decide) (fun h582 => ?_) (fun h583 => ?_)
                · skip
                  refine lv_iconst (v := 4) hx hb dX11_lookAt_113 (by decide) ?_
                  refine va_put (D := D) (ci := 11) (v := .int 4) (ty := .int) (C := RX11) (T := TX11) (N := 18) hx hb hts iw11 tyX11 tyX11_ok nmX11 hown hK hP hD hS 0 rfl rfl 14 (by decide) fw4 (fun _ h9 => h9) rfl (by decide +kernel) rfl rfl (Nat.le_of_ble_eq_true rfl) dX11_lookAt_114 (fun H locs hP hD hS => ?_)
                  have hP : va_P D vwCl [(mo, .inr (11, [.ref to, .ref ke, .ref ik, .ref mrf, .long mab, .long mbl, .ref ha, .ref r0, .ref mbr, .ref mbp, .ref mby, .int (nI bl), .int (nI j91), .int 0, .int 4, .int 0, .ref an, .ref va])), (mby, .inl (y 0, 150, .inl fmb))] H := hP
                  have hD : va_D A [(mo, .inr (11, [.ref to, .ref ke, .ref ik, .ref mrf, .long mab, .long mbl, .ref ha, .ref r0, .ref mbr, .ref mbp, .ref mby, .int (nI bl), .int (nI j91), .int 0, .int 4, .int 0, .ref an, .ref va])), (mby, .inl (y 0, 150, .inl fmb))] := hD
                  refine lv_aload_n hx hb dX11_lookAt_117 rfl (lv_at hl 1 rfl) ?_
                  refine lv_iconst (v := 1) hx hb dX11_lookAt_118 (by decide) ?_
                  refine va_put (D := D) (ci := 11) (v := .int 1) (ty := .int) (C := RX11) (T := TX11) (N := 18) hx hb hts iw11 tyX11 tyX11_ok nmX11 hown hK hP hD hS 0 rfl rfl 13 (by decide) fw3 (fun _ h9 => h9) rfl (by decide +kernel) rfl rfl (Nat.le_of_ble_eq_true rfl) dX11_lookAt_119 (fun H locs hP hD hS => ?_)
                  have hP : va_P D vwCl [(mo, .inr (11, [.ref to, .ref ke, .ref ik, .ref mrf, .long mab, .long mbl, .ref ha, .ref r0, .ref mbr, .ref mbp, .ref mby, .int (nI bl), .int (nI j91), .int 1, .int 4, .int 0, .ref an, .ref va])), (mby, .inl (y 0, 150, .inl fmb))] H := hP
                  have hD : va_D A [(mo, .inr (11, [.ref to, .ref ke, .ref ik, .ref mrf, .long mab, .long mbl, .ref ha, .ref r0, .ref mbr, .ref mbp, .ref mby, .int (nI bl), .int (nI j91), .int 1, .int 4, .int 0, .ref an, .ref va])), (mby, .inl (y 0, 150, .inl fmb))] := hD
                  refine lv_aload_n hx hb dX11_lookAt_122 rfl (lv_at hl 1 rfl) ?_
                  refine va_get (D := D) (ci := 11) (v := .int 4) (C := RX11) (T := TX11) (N := 18) hx hb hts iw11 hown hK hP 0 rfl rfl 14 (by decide) fw4 (fun _ h9 => h9) rfl dX11_lookAt_123 ?_
                  refine lv_iconst (v := 3) hx hb dX11_lookAt_126 (by decide) ?_
                  refine lv_icmp_ge (tgt := 134) hx hb dX11_lookAt_127 (by decide) (fun _ => ?_) (fun h9 => absurd h9 (by decide))
                  refine lv_iconst (v := 0) hx hb dX11_lookAt_134 (by decide) ?_
                  refine lv_istore_n (lv' := [(3, .int 0), (2, .int (fmb j91)), (0, .ref mo), (1, .int (nI k))]) hx hb dX11_lookAt_135 rfl hl (by decide) rfl (fun ls hl => ?_)
                  refine lv_iload_n hx hb dX11_lookAt_136 rfl (lv_at hl 0 rfl) ?_
                  refine lv_if_eq (tgt := 215) hx hb dX11_lookAt_137 (by decide) (fun _ => ?_) (fun h9 => absurd h9 (by decide))
                  refine lv_iconst (v := 0) hx hb dX11_lookAt_215 (by decide) ?_
                  refine lv_istore (lv' := [(4, .int 0), (3, .int 0), (2, .int (fmb j91)), (0, .ref mo), (1, .int (nI k))]) hx hb dX11_lookAt_216 hl (by decide) rfl (fun ls hl => ?_)
                  refine lv_iload hx hb dX11_lookAt_218 (lv_at hl 0 rfl) ?_
                  refine lv_aload_n hx hb dX11_lookAt_220 rfl (lv_at hl 3 rfl) ?_
                  refine va_get (D := D) (ci := 11) (v := .int 1) (C := RX11) (T := TX11) (N := 18) hx hb hts iw11 hown hK hP 0 rfl rfl 13 (by decide) fw3 (fun _ h9 => h9) rfl dX11_lookAt_221 ?_
                  refine lv_icmp_ge (tgt := 274) hx hb dX11_lookAt_224 (by decide) (fun h9 => absurd h9 (by decide)) (fun _ => ?_)
                  refine lv_iload hx hb dX11_lookAt_227 (lv_at hl 0 rfl) ?_
                  refine lv_iconst (v := 2) hx hb dX11_lookAt_229 (by decide) ?_
                  refine lv_icmp_ge (tgt := 274) hx hb dX11_lookAt_230 (by decide) (fun h9 => absurd h9 (by decide)) (fun _ => ?_)
                  refine lv_aload_n hx hb dX11_lookAt_233 rfl (lv_at hl 3 rfl) ?_
                  refine va_get (D := D) (ci := 11) (v := .int 4) (C := RX11) (T := TX11) (N := 18) hx hb hts iw11 hown hK hP 0 rfl rfl 14 (by decide) fw4 (fun _ h9 => h9) rfl dX11_lookAt_234 ?_
                  refine lv_iconst (v := 2) hx hb dX11_lookAt_237 (by decide) ?_
                  refine lv_icmp_ne (tgt := 274) hx hb dX11_lookAt_238 (by decide) (fun _ => ?_) (fun h9 => absurd h9 (by decide))
                  refine lv_aload_n hx hb dX11_lookAt_274 rfl (lv_at hl 3 rfl) ?_
                  refine lv_aload_n hx hb dX11_lookAt_275 rfl (lv_at hl 3 rfl) ?_
                  refine va_get (D := D) (ci := 11) (v := .int 4) (C := RX11) (T := TX11) (N := 18) hx hb hts iw11 hown hK hP 0 rfl rfl 14 (by decide) fw4 (fun _ h9 => h9) rfl dX11_lookAt_276 ?_
                  refine lv_iconst (v := 2) hx hb dX11_lookAt_279 (by decide) ?_
                  refine lv_icmp_ne (tgt := 295) hx hb dX11_lookAt_280 (by decide) (fun _ => ?_) (fun h9 => absurd h9 (by decide))
                  refine lv_aload_n hx hb dX11_lookAt_295 rfl (lv_at hl 3 rfl) ?_
                  refine va_get (D := D) (ci := 11) (v := .int 4) (C := RX11) (T := TX11) (N := 18) hx hb hts iw11 hown hK hP 0 rfl rfl 14 (by decide) fw4 (fun _ h9 => h9) rfl dX11_lookAt_296 ?_
                  refine va_put (D := D) (ci := 11) (v := .int 4) (ty := .int) (C := RX11) (T := TX11) (N := 18) hx hb hts iw11 tyX11 tyX11_ok nmX11 hown hK hP hD hS 0 rfl rfl 14 (by decide) fw4 (fun _ h9 => h9) rfl (by decide +kernel) rfl rfl (Nat.le_of_ble_eq_true rfl) dX11_lookAt_299 (fun H locs hP hD hS => ?_)
                  have hP : va_P D vwCl [(mo, .inr (11, [.ref to, .ref ke, .ref ik, .ref mrf, .long mab, .long mbl, .ref ha, .ref r0, .ref mbr, .ref mbp, .ref mby, .int (nI bl), .int (nI j91), .int 1, .int 4, .int 0, .ref an, .ref va])), (mby, .inl (y 0, 150, .inl fmb))] H := hP
                  have hD : va_D A [(mo, .inr (11, [.ref to, .ref ke, .ref ik, .ref mrf, .long mab, .long mbl, .ref ha, .ref r0, .ref mbr, .ref mbp, .ref mby, .int (nI bl), .int (nI j91), .int 1, .int 4, .int 0, .ref an, .ref va])), (mby, .inl (y 0, 150, .inl fmb))] := hD
                  exact W.vret hx hb hr (fun tZ ht hW => ⟨⟨(j91, 1, 4, 0), rfl, ⟨by first | omega | (dsimp only; omega), by first | omega | (dsimp only; omega), by first | omega | (dsimp only; omega), by first | omega | (dsimp only; omega), by first | omega | (dsimp only; omega), kz_R.mk (ks_s2 hI0_j91 (ks_b_n h297)) (kz_Tn_s (by first | omega | (dsimp only; omega)) h305 h348 (by rw [if_neg h582]))⟩, by rw [ht]; exact hP.sub [0, 1] rfl, hD.sub [0, 1] (by decide) rfl⟩, hS.F ht⟩) hS.2.2 dX11_lookAt_302
                · skip
                  refine lv_iconst (v := 3) hx hb dX11_lookAt_109 (by decide) ?_
                  refine lv_goto (tgt := 114) hx hb dX11_lookAt_110 (by decide) ?_
                  refine va_put (D := D) (ci := 11) (v := .int 3) (ty := .int) (C := RX11) (T := TX11) (N := 18) hx hb hts iw11 tyX11 tyX11_ok nmX11 hown hK hP hD hS 0 rfl rfl 14 (by decide) fw4 (fun _ h9 => h9) rfl (by decide +kernel) rfl rfl (Nat.le_of_ble_eq_true rfl) dX11_lookAt_114 (fun H locs hP hD hS => ?_)
                  have hP : va_P D vwCl [(mo, .inr (11, [.ref to, .ref ke, .ref ik, .ref mrf, .long mab, .long mbl, .ref ha, .ref r0, .ref mbr, .ref mbp, .ref mby, .int (nI bl), .int (nI j91), .int 0, .int 3, .int 0, .ref an, .ref va])), (mby, .inl (y 0, 150, .inl fmb))] H := hP
                  have hD : va_D A [(mo, .inr (11, [.ref to, .ref ke, .ref ik, .ref mrf, .long mab, .long mbl, .ref ha, .ref r0, .ref mbr, .ref mbp, .ref mby, .int (nI bl), .int (nI j91), .int 0, .int 3, .int 0, .ref an, .ref va])), (mby, .inl (y 0, 150, .inl fmb))] := hD
                  refine lv_aload_n hx hb dX11_lookAt_117 rfl (lv_at hl 1 rfl) ?_
                  refine lv_iconst (v := 1) hx hb dX11_lookAt_118 (by decide) ?_
                  refine va_put (D := D) (ci := 11) (v := .int 1) (ty := .int) (C := RX11) (T := TX11) (N := 18) hx hb hts iw11 tyX11 tyX11_ok nmX11 hown hK hP hD hS 0 rfl rfl 13 (by decide) fw3 (fun _ h9 => h9) rfl (by decide +kernel) rfl rfl (Nat.le_of_ble_eq_true rfl) dX11_lookAt_119 (fun H locs hP hD hS => ?_)
                  have hP : va_P D vwCl [(mo, .inr (11, [.ref to, .ref ke, .ref ik, .ref mrf, .long mab, .long mbl, .ref ha, .ref r0, .ref mbr, .ref mbp, .ref mby, .int (nI bl), .int (nI j91), .int 1, .int 3, .int 0, .ref an, .ref va])), (mby, .inl (y 0, 150, .inl fmb))] H := hP
                  have hD : va_D A [(mo, .inr (11, [.ref to, .ref ke, .ref ik, .ref mrf, .long mab, .long mbl, .ref ha, .ref r0, .ref mbr, .ref mbp, .ref mby, .int (nI bl), .int (nI j91), .int 1, .int 3, .int 0, .ref an, .ref va])), (mby, .inl (y 0, 150, .inl fmb))] := hD
                  refine lv_aload_n hx hb dX11_lookAt_122 rfl (lv_at hl 1 rfl) ?_
                  refine va_get (D := D) (ci := 11) (v := .int 3) (C := RX11) (T := TX11) (N := 18) hx hb hts iw11 hown hK hP 0 rfl rfl 14 (by decide) fw4 (fun _ h9 => h9) rfl dX11_lookAt_123 ?_
                  refine lv_iconst (v := 3) hx hb dX11_lookAt_126 (by decide) ?_
                  refine lv_icmp_ge (tgt := 134) hx hb dX11_lookAt_127 (by decide) (fun _ => ?_) (fun h9 => absurd h9 (by decide))
                  refine lv_iconst (v := 0) hx hb dX11_lookAt_134 (by decide) ?_
                  refine lv_istore_n (lv' := [(3, .int 0), (2, .int (fmb j91)), (0, .ref mo), (1, .int (nI k))]) hx hb dX11_lookAt_135 rfl hl (by decide) rfl (fun ls hl => ?_)
                  refine lv_iload_n hx hb dX11_lookAt_136 rfl (lv_at hl 0 rfl) ?_
                  refine lv_if_eq (tgt := 215) hx hb dX11_lookAt_137 (by decide) (fun _ => ?_) (fun h9 => absurd h9 (by decide))
                  refine lv_iconst (v := 0) hx hb dX11_lookAt_215 (by decide) ?_
                  refine lv_istore (lv' := [(4, .int 0), (3, .int 0), (2, .int (fmb j91)), (0, .ref mo), (1, .int (nI k))]) hx hb dX11_lookAt_216 hl (by decide) rfl (fun ls hl => ?_)
                  refine lv_iload hx hb dX11_lookAt_218 (lv_at hl 0 rfl) ?_
                  refine lv_aload_n hx hb dX11_lookAt_220 rfl (lv_at hl 3 rfl) ?_
                  refine va_get (D := D) (ci := 11) (v := .int 1) (C := RX11) (T := TX11) (N := 18) hx hb hts iw11 hown hK hP 0 rfl rfl 13 (by decide) fw3 (fun _ h9 => h9) rfl dX11_lookAt_221 ?_
                  refine lv_icmp_ge (tgt := 274) hx hb dX11_lookAt_224 (by decide) (fun h9 => absurd h9 (by decide)) (fun _ => ?_)
                  refine lv_iload hx hb dX11_lookAt_227 (lv_at hl 0 rfl) ?_
                  refine lv_iconst (v := 2) hx hb dX11_lookAt_229 (by decide) ?_
                  refine lv_icmp_ge (tgt := 274) hx hb dX11_lookAt_230 (by decide) (fun h9 => absurd h9 (by decide)) (fun _ => ?_)
                  refine lv_aload_n hx hb dX11_lookAt_233 rfl (lv_at hl 3 rfl) ?_
                  refine va_get (D := D) (ci := 11) (v := .int 3) (C := RX11) (T := TX11) (N := 18) hx hb hts iw11 hown hK hP 0 rfl rfl 14 (by decide) fw4 (fun _ h9 => h9) rfl dX11_lookAt_234 ?_
                  refine lv_iconst (v := 2) hx hb dX11_lookAt_237 (by decide) ?_
                  refine lv_icmp_ne (tgt := 274) hx hb dX11_lookAt_238 (by decide) (fun _ => ?_) (fun h9 => absurd h9 (by decide))
                  refine lv_aload_n hx hb dX11_lookAt_274 rfl (lv_at hl 3 rfl) ?_
                  refine lv_aload_n hx hb dX11_lookAt_275 rfl (lv_at hl 3 rfl) ?_
                  refine va_get (D := D) (ci := 11) (v := .int 3) (C := RX11) (T := TX11) (N := 18) hx hb hts iw11 hown hK hP 0 rfl rfl 14 (by decide) fw4 (fun _ h9 => h9) rfl dX11_lookAt_276 ?_
                  refine lv_iconst (v := 2) hx hb dX11_lookAt_279 (by decide) ?_
                  refine lv_icmp_ne (tgt := 295) hx hb dX11_lookAt_280 (by decide) (fun _ => ?_) (fun h9 => absurd h9 (by decide))
                  refine lv_aload_n hx hb dX11_lookAt_295 rfl (lv_at hl 3 rfl) ?_
                  refine va_get (D := D) (ci := 11) (v := .int 3) (C := RX11) (T := TX11) (N := 18) hx hb hts iw11 hown hK hP 0 rfl rfl 14 (by decide) fw4 (fun _ h9 => h9) rfl dX11_lookAt_296 ?_
                  refine va_put (D := D) (ci := 11) (v := .int 3) (ty := .int) (C := RX11) (T := TX11) (N := 18) hx hb hts iw11 tyX11 tyX11_ok nmX11 hown hK hP hD hS 0 rfl rfl 14 (by decide) fw4 (fun _ h9 => h9) rfl (by decide +kernel) rfl rfl (Nat.le_of_ble_eq_true rfl) dX11_lookAt_299 (fun H locs hP hD hS => ?_)
                  have hP : va_P D vwCl [(mo, .inr (11, [.ref to, .ref ke, .ref ik, .ref mrf, .long mab, .long mbl, .ref ha, .ref r0, .ref mbr, .ref mbp, .ref mby, .int (nI bl), .int (nI j91), .int 1, .int 3, .int 0, .ref an, .ref va])), (mby, .inl (y 0, 150, .inl fmb))] H := hP
                  have hD : va_D A [(mo, .inr (11, [.ref to, .ref ke, .ref ik, .ref mrf, .long mab, .long mbl, .ref ha, .ref r0, .ref mbr, .ref mbp, .ref mby, .int (nI bl), .int (nI j91), .int 1, .int 3, .int 0, .ref an, .ref va])), (mby, .inl (y 0, 150, .inl fmb))] := hD
                  exact W.vret hx hb hr (fun tZ ht hW => ⟨⟨(j91, 1, 3, 0), rfl, ⟨by first | omega | (dsimp only; omega), by first | omega | (dsimp only; omega), by first | omega | (dsimp only; omega), by first | omega | (dsimp only; omega), by first | omega | (dsimp only; omega), kz_R.mk (ks_s2 hI0_j91 (ks_b_n h297)) (kz_Tn_s (by first | omega | (dsimp only; omega)) h305 h348 (by rw [if_pos h583]))⟩, by rw [ht]; exact hP.sub [0, 1] rfl, hD.sub [0, 1] (by decide) rfl⟩, hS.F ht⟩) hS.2.2 dX11_lookAt_302
          · skip
            have h300 : j91 = bl := (nI_eq (a := j91) (b := bl) (by omega) (by omega)).mp h300
            exact W.vret hx hb hr (fun tZ ht hW => ⟨⟨(j91, 0, 0, 0), rfl, ⟨by first | omega | (dsimp only; omega), by first | omega | (dsimp only; omega), by first | omega | (dsimp only; omega), by first | omega | (dsimp only; omega), by first | omega | (dsimp only; omega), kz_R.mk (ks_s2 hI0_j91 (ks_b_n h297)) (kz_Tn_e (by first | omega | (dsimp only; omega)))⟩, by rw [ht]; exact hP.sub [0, 1] rfl, hD.sub [0, 1] (by decide) rfl⟩, hS.F ht⟩) hS.2.2 dX11_lookAt_69
        · skip
          refine lv_aload_n hx hb dX11_lookAt_30 rfl (lv_at hl 0 rfl) ?_
          refine lv_dup hx hb dX11_lookAt_31 rfl ?_
          refine va_get (D := D) (ci := 11) (v := .int (nI j91)) (C := RX11) (T := TX11) (N := 18) hx hb hts iw11 hown hK hP 0 rfl rfl 12 (by decide) fw1 (fun _ h9 => h9) rfl dX11_lookAt_32 ?_
          refine lv_iconst (v := 1) hx hb dX11_lookAt_35 (by decide) ?_
          refine lv_iadd hx hb dX11_lookAt_36 ?_
          rw [show (nI j91) + 1 = nI (j91 + 1) from nI_add j91 1]
          refine va_put (D := D) (ci := 11) (v := .int (nI (j91 + 1))) (ty := .int) (C := RX11) (T := TX11) (N := 18) hx hb hts iw11 tyX11 tyX11_ok nmX11 hown hK hP hD hS 0 rfl rfl 12 (by decide) fw1 (fun _ h9 => h9) rfl (by decide +kernel) rfl rfl (Nat.le_of_ble_eq_true rfl) dX11_lookAt_37 (fun H locs hP hD hS => ?_)
          have hP : va_P D vwCl [(mo, .inr (11, [.ref to, .ref ke, .ref ik, .ref mrf, .long mab, .long mbl, .ref ha, .ref r0, .ref mbr, .ref mbp, .ref mby, .int (nI bl), .int (nI (j91 + 1)), .int (nI tl), .int (nI tk), .int vv, .ref an, .ref va])), (mby, .inl (y 0, 150, .inl fmb))] H := hP
          have hD : va_D A [(mo, .inr (11, [.ref to, .ref ke, .ref ik, .ref mrf, .long mab, .long mbl, .ref ha, .ref r0, .ref mbr, .ref mbp, .ref mby, .int (nI bl), .int (nI (j91 + 1)), .int (nI tl), .int (nI tk), .int vv, .ref an, .ref va])), (mby, .inl (y 0, 150, .inl fmb))] := hD
          refine lv_goto (tgt := 5) hx hb dX11_lookAt_40 (by decide) ?_
          exact ihj91 (j91 + 1)  H locs ls (by omega) (by omega) (by omega) (hI0_j91.trans (ks_to_step (by omega) (ks_b_mk h298))) (hP.sub [0, 1] rfl) (hD.sub [0, 1] (by decide) rfl) hS (lv_sub hl [0, 1] rfl)
  exact lp292 (bl + 1) k  _ _ _ (by omega) (by omega) (by omega) rfl hP hD hS (lv_sub hl [0, 1] rfl)

set_option maxHeartbeats 4000000 in
set_option maxRecDepth 100000 in
theorem gr_Mgo (l : Launch) (D : va_G) (y : Nat → ClassId) (mo : Nat) (to : Nat) (ke : Nat) (ik : Nat) (mrf : Nat) (ha : Nat) (r0 : Nat) (mbr : Nat) (mbp : Nat) (mby : Nat) (an : Nat) (va : Nat) (mab : Int64) (mbl : Int64) (bl : Nat) (ta : Nat) (tl : Nat) (tk : Nat) (vv : Int32) (fmb : Nat → Int32) (e : Nat) (hbl : bl ≤ 150) (he : ta + tl = e) (heb : e ≤ bl) (htk : tk ≤ 4) : kw_Mv l yX11_goBehind wsX11_goBehind ({ frames := 4, cells := 0, slots := 0, locals := 129 }) D y [.ref mo] [(mo, .inr (11, [.ref to, .ref ke, .ref ik, .ref mrf, .long mab, .long mbl, .ref ha, .ref r0, .ref mbr, .ref mbp, .ref mby, .int (nI bl), .int (nI ta), .int (nI tl), .int (nI tk), .int vv, .ref an, .ref va])), (mby, .inl (y 0, 150, .inl fmb))] (fun (u : Int32) => e ≤ ks_S fmb bl e ∧ ks_S fmb bl e + ks_L fmb bl e ≤ bl ∧ ks_S fmb bl e + ks_L fmb bl e = ks_E fmb bl e ∧ ks_K fmb bl e ≤ 4 ∧ kz_N fmb bl e u) (fun u => [(mo, .inr (11, [.ref to, .ref ke, .ref ik, .ref mrf, .long mab, .long mbl, .ref ha, .ref r0, .ref mbr, .ref mbp, .ref mby, .int (nI bl), .int (nI (ks_S fmb bl e)), .int (nI (ks_L fmb bl e)), .int (nI (ks_K fmb bl e)), .int u, .ref an, .ref va])), (mby, .inl (y 0, 150, .inl fmb))]) 0 0 := by
  refine kw_Mv.of (cc := cX11_goBehind) (maxL := 1) (ret := none) (by decide) rfl ?_
  intro pZ eZ s mZ beZ meZ cZ A hE
  obtain ⟨hx, hb, hr, hml, hts, hown, hlocks, hin, hA, hP, hD, hK, hN⟩ := hE
  have hS : va_S A s.heap s.heap [] := va_S.rf
  have hl := lv_entry ([.ref mo]) (n := 1) (Nat.le_of_ble_eq_true rfl)
  rw [lg_entry_eq]
  generalize (lg_sl ([.ref mo]) ++ List.replicate (1 - (lg_sl ([.ref mo])).length) Slot.unset).toArray = ls at hl ⊢
  have hl : lv_has ls 1 [(0, .ref mo)] := hl
  have fw1 := hts (.fieldLink RX11 222 "GleanDuskModel" "tokenAt" "I") (List.mem_of_getElem? (i := 1) rfl)
  have fw2 := hts (.fieldLink RX11 225 "GleanDuskModel" "tokenLong" "I") (List.mem_of_getElem? (i := 2) rfl)
  have iw11 : ∀ w ∈ wsX110, w ∈ wsX11_goBehind := fun _ h => List.mem_cons_of_mem _ (List.mem_append_right _ h)
  refine lv_aload_n hx hb dX11_goBehind_0 rfl (lv_at hl 0 rfl) ?_
  refine lv_aload_n hx hb dX11_goBehind_1 rfl (lv_at hl 0 rfl) ?_
  refine va_get (D := D) (ci := 11) (v := .int (nI ta)) (C := RX11) (T := TX11) (N := 18) hx hb hts iw11 hown hK hP 0 rfl rfl 12 (by decide) fw1 (fun _ h9 => h9) rfl dX11_goBehind_2 ?_
  refine lv_aload_n hx hb dX11_goBehind_5 rfl (lv_at hl 0 rfl) ?_
  refine va_get (D := D) (ci := 11) (v := .int (nI tl)) (C := RX11) (T := TX11) (N := 18) hx hb hts iw11 hown hK hP 0 rfl rfl 13 (by decide) fw2 (fun _ h9 => h9) rfl dX11_goBehind_6 ?_
  refine lv_iadd hx hb dX11_goBehind_9 ?_
  rw [show (nI ta) + (nI tl) = nI (ta + tl) from nI_add ta tl]
  rw [he]
  have hs1 : kw_Split [(mo, .inr (11, [.ref to, .ref ke, .ref ik, .ref mrf, .long mab, .long mbl, .ref ha, .ref r0, .ref mbr, .ref mbp, .ref mby, .int (nI bl), .int (nI ta), .int (nI tl), .int (nI tk), .int vv, .ref an, .ref va])), (mby, .inl (y 0, 150, .inl fmb))] [(mo, .inr (11, [.ref to, .ref ke, .ref ik, .ref mrf, .long mab, .long mbl, .ref ha, .ref r0, .ref mbr, .ref mbp, .ref mby, .int (nI bl), .int (nI ta), .int (nI tl), .int (nI tk), .int vv, .ref an, .ref va])), (mby, .inl (y 0, 150, .inl fmb))] [] [0, 1] [] := ⟨rfl, rfl, rfl, rfl, rfl, by decide⟩
  refine kw_go_v hs1 hP hD hS hA (va_runV (As := [.int (nI e)]) (rest := []) ⟨hx, hb, hml, hown, hts⟩ (gr_Mlook l D y mo to ke ik mrf ha r0 mbr mbp mby an va mab mbl bl ta tl tk vv fmb e hbl heb _) (cwV 1 hts gX11_goBehind_X11_lookAt rfl rfl rfl (by decide +kernel) ⟨Nat.le_of_ble_eq_true rfl, Nat.le_of_ble_eq_true rfl⟩) (kw_PreV (ci := 11) (q0 := 0) hs1 hP hD hK hN rfl rfl) rfl rfl hl.1 rfl (lv_room (Nat.le_of_ble_eq_true rfl)) dX11_goBehind_10 ⟨Nat.le_of_ble_eq_true rfl, Nat.le_of_ble_eq_true rfl⟩) (fun u3 H locs hq hP hD hS => ?_)
  obtain ⟨v4, v5, v6, v7⟩ := u3
  try dsimp only at hq
  obtain ⟨h8, h9, h10, h11, h12, h13⟩ := hq
  have hP : va_P D vwCl [(mo, .inr (11, [.ref to, .ref ke, .ref ik, .ref mrf, .long mab, .long mbl, .ref ha, .ref r0, .ref mbr, .ref mbp, .ref mby, .int (nI bl), .int (nI v4), .int (nI v5), .int (nI v6), .int v7, .ref an, .ref va])), (mby, .inl (y 0, 150, .inl fmb))] H := hP
  have hD : va_D A [(mo, .inr (11, [.ref to, .ref ke, .ref ik, .ref mrf, .long mab, .long mbl, .ref ha, .ref r0, .ref mbr, .ref mbp, .ref mby, .int (nI bl), .int (nI v4), .int (nI v5), .int (nI v6), .int v7, .ref an, .ref va])), (mby, .inl (y 0, 150, .inl fmb))] := hD
  obtain ⟨rfl, rfl, rfl, hn14⟩ := h13
  have hk15 := ks_K4 fmb bl e
  have hk16 := ks_SL (f := fmb) (n := bl) (p := e) (by omega)
  have hP : va_P D vwCl [(mo, .inr (11, [.ref to, .ref ke, .ref ik, .ref mrf, .long mab, .long mbl, .ref ha, .ref r0, .ref mbr, .ref mbp, .ref mby, .int (nI bl), .int (nI (ks_S fmb bl e)), .int (nI (ks_L fmb bl e)), .int (nI (ks_K fmb bl e)), .int v7, .ref an, .ref va])), (mby, .inl (y 0, 150, .inl fmb))] H := hP
  have hD : va_D A [(mo, .inr (11, [.ref to, .ref ke, .ref ik, .ref mrf, .long mab, .long mbl, .ref ha, .ref r0, .ref mbr, .ref mbp, .ref mby, .int (nI bl), .int (nI (ks_S fmb bl e)), .int (nI (ks_L fmb bl e)), .int (nI (ks_K fmb bl e)), .int v7, .ref an, .ref va])), (mby, .inl (y 0, 150, .inl fmb))] := hD
  exact W.vret hx hb hr (fun tZ ht hW => ⟨⟨(v7), rfl, ⟨by first | omega | (dsimp only; omega), by first | omega | (dsimp only; omega), by first | omega | (dsimp only; omega), by first | omega | (dsimp only; omega), hn14⟩, by rw [ht]; exact hP.sub [0, 1] rfl, hD.sub [0, 1] (by decide) rfl⟩, hS.F ht⟩) hS.2.2 dX11_goBehind_13

set_option maxHeartbeats 4000000 in
set_option maxRecDepth 100000 in
theorem gr_Msp0 (l : Launch) (D : va_G) (y : Nat → ClassId) (mo : Nat) (to : Nat) (ke : Nat) (ik : Nat) (mrf : Nat) (ha : Nat) (r0 : Nat) (mbr : Nat) (mbp : Nat) (mby : Nat) (an : Nat) (va : Nat) (mab : Int64) (mbl : Int64) (bl : Nat) (ta : Nat) (tl : Nat) (tk : Nat) (vv : Int32) (fmb : Nat → Int32) (e : Nat) (hbl : bl ≤ 150) (he : ta + tl = e) (heb : e ≤ bl) (htk : tk ≤ 4) : kw_Mi l yX11_spells wsX11_spells ({ frames := 1, cells := 0, slots := 0, locals := 60 }) D y [.ref mo, .int 6, .int 112, .int 97, .int 114, .int 105, .int 115, .int 104] [(mo, .inr (11, [.ref to, .ref ke, .ref ik, .ref mrf, .long mab, .long mbl, .ref ha, .ref r0, .ref mbr, .ref mbp, .ref mby, .int (nI bl), .int (nI ta), .int (nI tl), .int (nI tk), .int vv, .ref an, .ref va])), (mby, .inl (y 0, 150, .inl fmb))] (fun (r : Int32) (u : Unit) => (ks_w0 fmb tk ta e = true ∧ r = 1) ∨ (¬ ks_w0 fmb tk ta e = true ∧ r = 0)) (fun _ => [(mo, .inr (11, [.ref to, .ref ke, .ref ik, .ref mrf, .long mab, .long mbl, .ref ha, .ref r0, .ref mbr, .ref mbp, .ref mby, .int (nI bl), .int (nI ta), .int (nI tl), .int (nI tk), .int vv, .ref an, .ref va])), (mby, .inl (y 0, 150, .inl fmb))]) 0 0 := by
  refine kw_Mi.of (cc := cX11_spells) (maxL := 10) (ret := (some .boolean)) (by decide) rfl ?_
  intro pZ eZ s mZ beZ meZ cZ A hE
  obtain ⟨hx, hb, hr, hml, hts, hown, hlocks, hin, hA, hP, hD, hK, hN⟩ := hE
  have hS : va_S A s.heap s.heap [] := va_S.rf
  have hl := lv_entry ([.ref mo, .int 6, .int 112, .int 97, .int 114, .int 105, .int 115, .int 104]) (n := 10) (Nat.le_of_ble_eq_true rfl)
  rw [lg_entry_eq]
  generalize (lg_sl ([.ref mo, .int 6, .int 112, .int 97, .int 114, .int 105, .int 115, .int 104]) ++ List.replicate (10 - (lg_sl ([.ref mo, .int 6, .int 112, .int 97, .int 114, .int 105, .int 115, .int 104])).length) Slot.unset).toArray = ls at hl ⊢
  have hl : lv_has ls 10 [(0, .ref mo), (1, .int 6), (2, .int 112), (3, .int 97), (4, .int 114), (5, .int 105), (6, .int 115), (7, .int 104)] := hl
  have fw1 := hts (.fieldLink RX11 228 "GleanDuskModel" "token" "I") (List.mem_of_getElem? (i := 1) rfl)
  have fw2 := hts (.fieldLink RX11 225 "GleanDuskModel" "tokenLong" "I") (List.mem_of_getElem? (i := 2) rfl)
  have fw3 := hts (.fieldLink RX11 39 "GleanDuskModel" "bytes" "[I") (List.mem_of_getElem? (i := 3) rfl)
  have fw4 := hts (.fieldLink RX11 222 "GleanDuskModel" "tokenAt" "I") (List.mem_of_getElem? (i := 4) rfl)
  have iw11 : ∀ w ∈ wsX110, w ∈ wsX11_spells := fun _ h => List.mem_cons_of_mem _ (List.mem_append_right _ h)
  refine lv_aload_n hx hb dX11_spells_0 rfl (lv_at hl 0 rfl) ?_
  refine va_get (D := D) (ci := 11) (v := .int (nI tk)) (C := RX11) (T := TX11) (N := 18) hx hb hts iw11 hown hK hP 0 rfl rfl 14 (by decide) fw1 (fun _ h9 => h9) rfl dX11_spells_1 ?_
  refine lv_iconst (v := 1) hx hb dX11_spells_4 (by decide) ?_
  refine lv_icmp_ne (tgt := 20) hx hb dX11_spells_5 (by decide) (fun h1 => ?_) (fun h2 => ?_)
  · skip
    have h1 : ¬ tk = 1 := fun q9 => h1 ((nI_eq (a := tk) (b := 1) (by omega) (by omega)).mpr q9)
    refine lv_iconst (v := 0) hx hb dX11_spells_20 (by decide) ?_
    refine lv_istore (lv' := [(8, .int 0), (0, .ref mo), (1, .int 6), (2, .int 112), (3, .int 97), (4, .int 114), (5, .int 105), (6, .int 115), (7, .int 104)]) hx hb dX11_spells_21 hl (by decide) rfl (fun ls hl => ?_)
    refine lv_iconst (v := 0) hx hb dX11_spells_23 (by decide) ?_
    refine lv_istore (lv' := [(9, .int 0), (8, .int 0), (0, .ref mo), (1, .int 6), (2, .int 112), (3, .int 97), (4, .int 114), (5, .int 105), (6, .int 115), (7, .int 104)]) hx hb dX11_spells_24 hl (by decide) rfl (fun ls hl => ?_)
    refine lv_iload hx hb dX11_spells_26 (lv_at hl 0 rfl) ?_
    refine lv_iload_n hx hb dX11_spells_28 rfl (lv_at hl 3 rfl) ?_
    refine lv_icmp_ge (tgt := 119) hx hb dX11_spells_29 (by decide) (fun h9 => absurd h9 (by decide)) (fun _ => ?_)
    refine lv_iload hx hb dX11_spells_32 (lv_at hl 1 rfl) ?_
    refine lv_if_eq (tgt := 119) hx hb dX11_spells_34 (by decide) (fun _ => ?_) (fun h9 => absurd h9 (by decide))
    refine lv_iload hx hb dX11_spells_119 (lv_at hl 1 rfl) ?_
    exact W.zret (v := 0) hx hb hr (by decide) (fun tZ ht hW => ⟨⟨0, (), rfl, Or.inr (⟨ks_no h1, rfl⟩), by rw [ht]; exact hP.sub [0, 1] rfl, hD.sub [0, 1] (by decide) rfl⟩, hS.F ht⟩) hS.2.2 dX11_spells_121
  · skip
    have h2 : tk = 1 := (nI_eq (a := tk) (b := 1) (by omega) (by omega)).mp h2
    refine lv_aload_n hx hb dX11_spells_8 rfl (lv_at hl 0 rfl) ?_
    refine va_get (D := D) (ci := 11) (v := .int (nI tl)) (C := RX11) (T := TX11) (N := 18) hx hb hts iw11 hown hK hP 0 rfl rfl 13 (by decide) fw2 (fun _ h9 => h9) rfl dX11_spells_9 ?_
    refine lv_iload_n hx hb dX11_spells_12 rfl (lv_at hl 1 rfl) ?_
    refine lv_icmp_ne (tgt := 20) hx hb dX11_spells_13 (by decide) (fun h3 => ?_) (fun h4 => ?_)
    · skip
      have h3 : ¬ tl = 6 := fun q9 => h3 ((nI_eq (a := tl) (b := 6) (by omega) (by omega)).mpr q9)
      refine lv_iconst (v := 0) hx hb dX11_spells_20 (by decide) ?_
      refine lv_istore (lv' := [(8, .int 0), (0, .ref mo), (1, .int 6), (2, .int 112), (3, .int 97), (4, .int 114), (5, .int 105), (6, .int 115), (7, .int 104)]) hx hb dX11_spells_21 hl (by decide) rfl (fun ls hl => ?_)
      refine lv_iconst (v := 0) hx hb dX11_spells_23 (by decide) ?_
      refine lv_istore (lv' := [(9, .int 0), (8, .int 0), (0, .ref mo), (1, .int 6), (2, .int 112), (3, .int 97), (4, .int 114), (5, .int 105), (6, .int 115), (7, .int 104)]) hx hb dX11_spells_24 hl (by decide) rfl (fun ls hl => ?_)
      refine lv_iload hx hb dX11_spells_26 (lv_at hl 0 rfl) ?_
      refine lv_iload_n hx hb dX11_spells_28 rfl (lv_at hl 3 rfl) ?_
      refine lv_icmp_ge (tgt := 119) hx hb dX11_spells_29 (by decide) (fun h9 => absurd h9 (by decide)) (fun _ => ?_)
      refine lv_iload hx hb dX11_spells_32 (lv_at hl 1 rfl) ?_
      refine lv_if_eq (tgt := 119) hx hb dX11_spells_34 (by decide) (fun _ => ?_) (fun h9 => absurd h9 (by decide))
      refine lv_iload hx hb dX11_spells_119 (lv_at hl 1 rfl) ?_
      exact W.zret (v := 0) hx hb hr (by decide) (fun tZ ht hW => ⟨⟨0, (), rfl, Or.inr (⟨ks_no2 (fun q9 => absurd (of_decide_eq_true q9).1 (by omega)), rfl⟩), by rw [ht]; exact hP.sub [0, 1] rfl, hD.sub [0, 1] (by decide) rfl⟩, hS.F ht⟩) hS.2.2 dX11_spells_121
    · skip
      have h4 : tl = 6 := (nI_eq (a := tl) (b := 6) (by omega) (by omega)).mp h4
      refine lv_iconst (v := 1) hx hb dX11_spells_16 (by decide) ?_
      refine lv_goto (tgt := 21) hx hb dX11_spells_17 (by decide) ?_
      refine lv_istore (lv' := [(8, .int 1), (0, .ref mo), (1, .int 6), (2, .int 112), (3, .int 97), (4, .int 114), (5, .int 105), (6, .int 115), (7, .int 104)]) hx hb dX11_spells_21 hl (by decide) rfl (fun ls hl => ?_)
      refine lv_iconst (v := 0) hx hb dX11_spells_23 (by decide) ?_
      refine lv_istore (lv' := [(9, .int 0), (8, .int 1), (0, .ref mo), (1, .int 6), (2, .int 112), (3, .int 97), (4, .int 114), (5, .int 105), (6, .int 115), (7, .int 104)]) hx hb dX11_spells_24 hl (by decide) rfl (fun ls hl => ?_)
      refine lv_iload hx hb dX11_spells_26 (lv_at hl 0 rfl) ?_
      refine lv_iload_n hx hb dX11_spells_28 rfl (lv_at hl 3 rfl) ?_
      refine lv_icmp_ge (tgt := 119) hx hb dX11_spells_29 (by decide) (fun h9 => absurd h9 (by decide)) (fun _ => ?_)
      refine lv_iload hx hb dX11_spells_32 (lv_at hl 1 rfl) ?_
      refine lv_if_eq (tgt := 119) hx hb dX11_spells_34 (by decide) (fun h9 => absurd h9 (by decide)) (fun _ => ?_)
      refine lv_aload_n hx hb dX11_spells_37 rfl (lv_at hl 2 rfl) ?_
      refine va_get (D := D) (ci := 11) (v := .ref mby) (C := RX11) (T := TX11) (N := 18) hx hb hts iw11 hown hK hP 0 rfl rfl 10 (by decide) fw3 (fun _ h9 => h9) rfl dX11_spells_38 ?_
      refine lv_aload_n hx hb dX11_spells_41 rfl (lv_at hl 2 rfl) ?_
      refine va_get (D := D) (ci := 11) (v := .int (nI ta)) (C := RX11) (T := TX11) (N := 18) hx hb hts iw11 hown hK hP 0 rfl rfl 12 (by decide) fw4 (fun _ h9 => h9) rfl dX11_spells_42 ?_
      refine lv_iload hx hb dX11_spells_45 (lv_at hl 0 rfl) ?_
      refine lv_iadd hx hb dX11_spells_47 ?_
      rw [show (nI ta) + 0 = nI (ta) from nI_add ta 0]
      refine va_iald hx hb hK hP 1 0 rfl rfl (vp_in_nI (by omega) (by decide)) dX11_spells_48 ?_
      rw [nI_clamp (n := ta) (by omega)]
      refine lv_iload hx hb dX11_spells_49 (lv_at hl 0 rfl) ?_
      refine lv_if_ne (tgt := 58) hx hb dX11_spells_51 (by decide) (fun h9 => absurd h9 (by decide)) (fun _ => ?_)
      refine lv_iload_n hx hb dX11_spells_54 rfl (lv_at hl 4 rfl) ?_
      refine lv_goto (tgt := 103) hx hb dX11_spells_55 (by decide) ?_
      refine lv_icmp_ne (tgt := 110) hx hb dX11_spells_103 (by decide) (fun h5 => ?_) (fun h6 => ?_)
      · skip
        refine lv_iconst (v := 0) hx hb dX11_spells_110 (by decide) ?_
        refine lv_istore (lv' := [(8, .int 0), (9, .int 0), (0, .ref mo), (1, .int 6), (2, .int 112), (3, .int 97), (4, .int 114), (5, .int 105), (6, .int 115), (7, .int 104)]) hx hb dX11_spells_111 hl (by decide) rfl (fun ls hl => ?_)
        refine lv_iinc (v := 1) (lv' := [(9, .int 1), (8, .int 0), (0, .ref mo), (1, .int 6), (2, .int 112), (3, .int 97), (4, .int 114), (5, .int 105), (6, .int 115), (7, .int 104)]) hx hb dX11_spells_113 hl (k := 1) rfl (by decide) (by decide) rfl (fun ls hl => ?_)
        refine lv_goto (tgt := 26) hx hb dX11_spells_116 (by decide) ?_
        refine lv_iload hx hb dX11_spells_26 (lv_at hl 0 rfl) ?_
        refine lv_iload_n hx hb dX11_spells_28 rfl (lv_at hl 3 rfl) ?_
        refine lv_icmp_ge (tgt := 119) hx hb dX11_spells_29 (by decide) (fun h9 => absurd h9 (by decide)) (fun _ => ?_)
        refine lv_iload hx hb dX11_spells_32 (lv_at hl 1 rfl) ?_
        refine lv_if_eq (tgt := 119) hx hb dX11_spells_34 (by decide) (fun _ => ?_) (fun h9 => absurd h9 (by decide))
        refine lv_iload hx hb dX11_spells_119 (lv_at hl 1 rfl) ?_
        exact W.zret (v := 0) hx hb hr (by decide) (fun tZ ht hW => ⟨⟨0, (), rfl, Or.inr (⟨ks_no2 (fun q9 => absurd (of_decide_eq_true q9).2.1 h5), rfl⟩), by rw [ht]; exact hP.sub [0, 1] rfl, hD.sub [0, 1] (by decide) rfl⟩, hS.F ht⟩) hS.2.2 dX11_spells_121
      · skip
        refine lv_iconst (v := 1) hx hb dX11_spells_106 (by decide) ?_
        refine lv_goto (tgt := 111) hx hb dX11_spells_107 (by decide) ?_
        refine lv_istore (lv' := [(8, .int 1), (9, .int 0), (0, .ref mo), (1, .int 6), (2, .int 112), (3, .int 97), (4, .int 114), (5, .int 105), (6, .int 115), (7, .int 104)]) hx hb dX11_spells_111 hl (by decide) rfl (fun ls hl => ?_)
        refine lv_iinc (v := 1) (lv' := [(9, .int 1), (8, .int 1), (0, .ref mo), (1, .int 6), (2, .int 112), (3, .int 97), (4, .int 114), (5, .int 105), (6, .int 115), (7, .int 104)]) hx hb dX11_spells_113 hl (k := 1) rfl (by decide) (by decide) rfl (fun ls hl => ?_)
        refine lv_goto (tgt := 26) hx hb dX11_spells_116 (by decide) ?_
        refine lv_iload hx hb dX11_spells_26 (lv_at hl 0 rfl) ?_
        refine lv_iload_n hx hb dX11_spells_28 rfl (lv_at hl 3 rfl) ?_
        refine lv_icmp_ge (tgt := 119) hx hb dX11_spells_29 (by decide) (fun h9 => absurd h9 (by decide)) (fun _ => ?_)
        refine lv_iload hx hb dX11_spells_32 (lv_at hl 1 rfl) ?_
        refine lv_if_eq (tgt := 119) hx hb dX11_spells_34 (by decide) (fun h9 => absurd h9 (by decide)) (fun _ => ?_)
        refine lv_aload_n hx hb dX11_spells_37 rfl (lv_at hl 2 rfl) ?_
        refine va_get (D := D) (ci := 11) (v := .ref mby) (C := RX11) (T := TX11) (N := 18) hx hb hts iw11 hown hK hP 0 rfl rfl 10 (by decide) fw3 (fun _ h9 => h9) rfl dX11_spells_38 ?_
        refine lv_aload_n hx hb dX11_spells_41 rfl (lv_at hl 2 rfl) ?_
        refine va_get (D := D) (ci := 11) (v := .int (nI ta)) (C := RX11) (T := TX11) (N := 18) hx hb hts iw11 hown hK hP 0 rfl rfl 12 (by decide) fw4 (fun _ h9 => h9) rfl dX11_spells_42 ?_
        refine lv_iload hx hb dX11_spells_45 (lv_at hl 0 rfl) ?_
        refine lv_iadd hx hb dX11_spells_47 ?_
        rw [show (nI ta) + 1 = nI (ta + 1) from nI_add ta 1]
        refine va_iald hx hb hK hP 1 0 rfl rfl (vp_in_nI (by omega) (by decide)) dX11_spells_48 ?_
        rw [nI_clamp (n := (ta + 1)) (by omega)]
        refine lv_iload hx hb dX11_spells_49 (lv_at hl 0 rfl) ?_
        refine lv_if_ne (tgt := 58) hx hb dX11_spells_51 (by decide) (fun _ => ?_) (fun h9 => absurd h9 (by decide))
        refine lv_iload hx hb dX11_spells_58 (lv_at hl 0 rfl) ?_
        refine lv_iconst (v := 1) hx hb dX11_spells_60 (by decide) ?_
        refine lv_icmp_ne (tgt := 68) hx hb dX11_spells_61 (by decide) (fun h9 => absurd h9 (by decide)) (fun _ => ?_)
        refine lv_iload_n hx hb dX11_spells_64 rfl (lv_at hl 5 rfl) ?_
        refine lv_goto (tgt := 103) hx hb dX11_spells_65 (by decide) ?_
        refine lv_icmp_ne (tgt := 110) hx hb dX11_spells_103 (by decide) (fun h7 => ?_) (fun h8 => ?_)
        · skip
          refine lv_iconst (v := 0) hx hb dX11_spells_110 (by decide) ?_
          refine lv_istore (lv' := [(8, .int 0), (9, .int 1), (0, .ref mo), (1, .int 6), (2, .int 112), (3, .int 97), (4, .int 114), (5, .int 105), (6, .int 115), (7, .int 104)]) hx hb dX11_spells_111 hl (by decide) rfl (fun ls hl => ?_)
          refine lv_iinc (v := 2) (lv' := [(9, .int 2), (8, .int 0), (0, .ref mo), (1, .int 6), (2, .int 112), (3, .int 97), (4, .int 114), (5, .int 105), (6, .int 115), (7, .int 104)]) hx hb dX11_spells_113 hl (k := 1) rfl (by decide) (by decide) rfl (fun ls hl => ?_)
          refine lv_goto (tgt := 26) hx hb dX11_spells_116 (by decide) ?_
          refine lv_iload hx hb dX11_spells_26 (lv_at hl 0 rfl) ?_
          refine lv_iload_n hx hb dX11_spells_28 rfl (lv_at hl 3 rfl) ?_
          refine lv_icmp_ge (tgt := 119) hx hb dX11_spells_29 (by decide) (fun h9 => absurd h9 (by decide)) (fun _ => ?_)
          refine lv_iload hx hb dX11_spells_32 (lv_at hl 1 rfl) ?_
          refine lv_if_eq (tgt := 119) hx hb dX11_spells_34 (by decide) (fun _ => ?_) (fun h9 => absurd h9 (by decide))
          refine lv_iload hx hb dX11_spells_119 (lv_at hl 1 rfl) ?_
          exact W.zret (v := 0) hx hb hr (by decide) (fun tZ ht hW => ⟨⟨0, (), rfl, Or.inr (⟨ks_no2 (fun q9 => absurd (of_decide_eq_true q9).2.2.1 h7), rfl⟩), by rw [ht]; exact hP.sub [0, 1] rfl, hD.sub [0, 1] (by decide) rfl⟩, hS.F ht⟩) hS.2.2 dX11_spells_121
        · skip
          refine lv_iconst (v := 1) hx hb dX11_spells_106 (by decide) ?_
          refine lv_goto (tgt := 111) hx hb dX11_spells_107 (by decide) ?_
          refine lv_istore (lv' := [(8, .int 1), (9, .int 1), (0, .ref mo), (1, .int 6), (2, .int 112), (3, .int 97), (4, .int 114), (5, .int 105), (6, .int 115), (7, .int 104)]) hx hb dX11_spells_111 hl (by decide) rfl (fun ls hl => ?_)
          refine lv_iinc (v := 2) (lv' := [(9, .int 2), (8, .int 1), (0, .ref mo), (1, .int 6), (2, .int 112), (3, .int 97), (4, .int 114), (5, .int 105), (6, .int 115), (7, .int 104)]) hx hb dX11_spells_113 hl (k := 1) rfl (by decide) (by decide) rfl (fun ls hl => ?_)
          refine lv_goto (tgt := 26) hx hb dX11_spells_116 (by decide) ?_
          refine lv_iload hx hb dX11_spells_26 (lv_at hl 0 rfl) ?_
          refine lv_iload_n hx hb dX11_spells_28 rfl (lv_at hl 3 rfl) ?_
          refine lv_icmp_ge (tgt := 119) hx hb dX11_spells_29 (by decide) (fun h9 => absurd h9 (by decide)) (fun _ => ?_)
          refine lv_iload hx hb dX11_spells_32 (lv_at hl 1 rfl) ?_
          refine lv_if_eq (tgt := 119) hx hb dX11_spells_34 (by decide) (fun h9 => absurd h9 (by decide)) (fun _ => ?_)
          refine lv_aload_n hx hb dX11_spells_37 rfl (lv_at hl 2 rfl) ?_
          refine va_get (D := D) (ci := 11) (v := .ref mby) (C := RX11) (T := TX11) (N := 18) hx hb hts iw11 hown hK hP 0 rfl rfl 10 (by decide) fw3 (fun _ h9 => h9) rfl dX11_spells_38 ?_
          refine lv_aload_n hx hb dX11_spells_41 rfl (lv_at hl 2 rfl) ?_
          refine va_get (D := D) (ci := 11) (v := .int (nI ta)) (C := RX11) (T := TX11) (N := 18) hx hb hts iw11 hown hK hP 0 rfl rfl 12 (by decide) fw4 (fun _ h9 => h9) rfl dX11_spells_42 ?_
          refine lv_iload hx hb dX11_spells_45 (lv_at hl 0 rfl) ?_
          refine lv_iadd hx hb dX11_spells_47 ?_
          rw [show (nI ta) + 2 = nI (ta + 2) from nI_add ta 2]
          refine va_iald hx hb hK hP 1 0 rfl rfl (vp_in_nI (by omega) (by decide)) dX11_spells_48 ?_
          rw [nI_clamp (n := (ta + 2)) (by omega)]
          refine lv_iload hx hb dX11_spells_49 (lv_at hl 0 rfl) ?_
          refine lv_if_ne (tgt := 58) hx hb dX11_spells_51 (by decide) (fun _ => ?_) (fun h9 => absurd h9 (by decide))
          refine lv_iload hx hb dX11_spells_58 (lv_at hl 0 rfl) ?_
          refine lv_iconst (v := 1) hx hb dX11_spells_60 (by decide) ?_
          refine lv_icmp_ne (tgt := 68) hx hb dX11_spells_61 (by decide) (fun _ => ?_) (fun h9 => absurd h9 (by decide))
          refine lv_iload hx hb dX11_spells_68 (lv_at hl 0 rfl) ?_
          refine lv_iconst (v := 2) hx hb dX11_spells_70 (by decide) ?_
          refine lv_icmp_ne (tgt := 79) hx hb dX11_spells_71 (by decide) (fun h9 => absurd h9 (by decide)) (fun _ => ?_)
          refine lv_iload hx hb dX11_spells_74 (lv_at hl 6 rfl) ?_
          refine lv_goto (tgt := 103) hx hb dX11_spells_76 (by decide) ?_
          refine lv_icmp_ne (tgt := 110) hx hb dX11_spells_103 (by decide) (fun h9 => ?_) (fun h10 => ?_)
          · skip
            refine lv_iconst (v := 0) hx hb dX11_spells_110 (by decide) ?_
            refine lv_istore (lv' := [(8, .int 0), (9, .int 2), (0, .ref mo), (1, .int 6), (2, .int 112), (3, .int 97), (4, .int 114), (5, .int 105), (6, .int 115), (7, .int 104)]) hx hb dX11_spells_111 hl (by decide) rfl (fun ls hl => ?_)
            refine lv_iinc (v := 3) (lv' := [(9, .int 3), (8, .int 0), (0, .ref mo), (1, .int 6), (2, .int 112), (3, .int 97), (4, .int 114), (5, .int 105), (6, .int 115), (7, .int 104)]) hx hb dX11_spells_113 hl (k := 1) rfl (by decide) (by decide) rfl (fun ls hl => ?_)
            refine lv_goto (tgt := 26) hx hb dX11_spells_116 (by decide) ?_
            refine lv_iload hx hb dX11_spells_26 (lv_at hl 0 rfl) ?_
            refine lv_iload_n hx hb dX11_spells_28 rfl (lv_at hl 3 rfl) ?_
            refine lv_icmp_ge (tgt := 119) hx hb dX11_spells_29 (by decide) (fun h9 => absurd h9 (by decide)) (fun _ => ?_)
            refine lv_iload hx hb dX11_spells_32 (lv_at hl 1 rfl) ?_
            refine lv_if_eq (tgt := 119) hx hb dX11_spells_34 (by decide) (fun _ => ?_) (fun h9 => absurd h9 (by decide))
            refine lv_iload hx hb dX11_spells_119 (lv_at hl 1 rfl) ?_
            exact W.zret (v := 0) hx hb hr (by decide) (fun tZ ht hW => ⟨⟨0, (), rfl, Or.inr (⟨ks_no2 (fun q9 => absurd (of_decide_eq_true q9).2.2.2.1 h9), rfl⟩), by rw [ht]; exact hP.sub [0, 1] rfl, hD.sub [0, 1] (by decide) rfl⟩, hS.F ht⟩) hS.2.2 dX11_spells_121
          · skip
            refine lv_iconst (v := 1) hx hb dX11_spells_106 (by decide) ?_
            refine lv_goto (tgt := 111) hx hb dX11_spells_107 (by decide) ?_
            refine lv_istore (lv' := [(8, .int 1), (9, .int 2), (0, .ref mo), (1, .int 6), (2, .int 112), (3, .int 97), (4, .int 114), (5, .int 105), (6, .int 115), (7, .int 104)]) hx hb dX11_spells_111 hl (by decide) rfl (fun ls hl => ?_)
            refine lv_iinc (v := 3) (lv' := [(9, .int 3), (8, .int 1), (0, .ref mo), (1, .int 6), (2, .int 112), (3, .int 97), (4, .int 114), (5, .int 105), (6, .int 115), (7, .int 104)]) hx hb dX11_spells_113 hl (k := 1) rfl (by decide) (by decide) rfl (fun ls hl => ?_)
            refine lv_goto (tgt := 26) hx hb dX11_spells_116 (by decide) ?_
            refine lv_iload hx hb dX11_spells_26 (lv_at hl 0 rfl) ?_
            refine lv_iload_n hx hb dX11_spells_28 rfl (lv_at hl 3 rfl) ?_
            refine lv_icmp_ge (tgt := 119) hx hb dX11_spells_29 (by decide) (fun h9 => absurd h9 (by decide)) (fun _ => ?_)
            refine lv_iload hx hb dX11_spells_32 (lv_at hl 1 rfl) ?_
            refine lv_if_eq (tgt := 119) hx hb dX11_spells_34 (by decide) (fun h9 => absurd h9 (by decide)) (fun _ => ?_)
            refine lv_aload_n hx hb dX11_spells_37 rfl (lv_at hl 2 rfl) ?_
            refine va_get (D := D) (ci := 11) (v := .ref mby) (C := RX11) (T := TX11) (N := 18) hx hb hts iw11 hown hK hP 0 rfl rfl 10 (by decide) fw3 (fun _ h9 => h9) rfl dX11_spells_38 ?_
            refine lv_aload_n hx hb dX11_spells_41 rfl (lv_at hl 2 rfl) ?_
            refine va_get (D := D) (ci := 11) (v := .int (nI ta)) (C := RX11) (T := TX11) (N := 18) hx hb hts iw11 hown hK hP 0 rfl rfl 12 (by decide) fw4 (fun _ h9 => h9) rfl dX11_spells_42 ?_
            refine lv_iload hx hb dX11_spells_45 (lv_at hl 0 rfl) ?_
            refine lv_iadd hx hb dX11_spells_47 ?_
            rw [show (nI ta) + 3 = nI (ta + 3) from nI_add ta 3]
            refine va_iald hx hb hK hP 1 0 rfl rfl (vp_in_nI (by omega) (by decide)) dX11_spells_48 ?_
            rw [nI_clamp (n := (ta + 3)) (by omega)]
            refine lv_iload hx hb dX11_spells_49 (lv_at hl 0 rfl) ?_
            refine lv_if_ne (tgt := 58) hx hb dX11_spells_51 (by decide) (fun _ => ?_) (fun h9 => absurd h9 (by decide))
            refine lv_iload hx hb dX11_spells_58 (lv_at hl 0 rfl) ?_
            refine lv_iconst (v := 1) hx hb dX11_spells_60 (by decide) ?_
            refine lv_icmp_ne (tgt := 68) hx hb dX11_spells_61 (by decide) (fun _ => ?_) (fun h9 => absurd h9 (by decide))
            refine lv_iload hx hb dX11_spells_68 (lv_at hl 0 rfl) ?_
            refine lv_iconst (v := 2) hx hb dX11_spells_70 (by decide) ?_
            refine lv_icmp_ne (tgt := 79) hx hb dX11_spells_71 (by decide) (fun _ => ?_) (fun h9 => absurd h9 (by decide))
            refine lv_iload hx hb dX11_spells_79 (lv_at hl 0 rfl) ?_
            refine lv_iconst (v := 3) hx hb dX11_spells_81 (by decide) ?_
            refine lv_icmp_ne (tgt := 90) hx hb dX11_spells_82 (by decide) (fun h9 => absurd h9 (by decide)) (fun _ => ?_)
            refine lv_iload hx hb dX11_spells_85 (lv_at hl 7 rfl) ?_
            refine lv_goto (tgt := 103) hx hb dX11_spells_87 (by decide) ?_
            refine lv_icmp_ne (tgt := 110) hx hb dX11_spells_103 (by decide) (fun h11 => ?_) (fun h12 => ?_)
            · skip
              refine lv_iconst (v := 0) hx hb dX11_spells_110 (by decide) ?_
              refine lv_istore (lv' := [(8, .int 0), (9, .int 3), (0, .ref mo), (1, .int 6), (2, .int 112), (3, .int 97), (4, .int 114), (5, .int 105), (6, .int 115), (7, .int 104)]) hx hb dX11_spells_111 hl (by decide) rfl (fun ls hl => ?_)
              refine lv_iinc (v := 4) (lv' := [(9, .int 4), (8, .int 0), (0, .ref mo), (1, .int 6), (2, .int 112), (3, .int 97), (4, .int 114), (5, .int 105), (6, .int 115), (7, .int 104)]) hx hb dX11_spells_113 hl (k := 1) rfl (by decide) (by decide) rfl (fun ls hl => ?_)
              refine lv_goto (tgt := 26) hx hb dX11_spells_116 (by decide) ?_
              refine lv_iload hx hb dX11_spells_26 (lv_at hl 0 rfl) ?_
              refine lv_iload_n hx hb dX11_spells_28 rfl (lv_at hl 3 rfl) ?_
              refine lv_icmp_ge (tgt := 119) hx hb dX11_spells_29 (by decide) (fun h9 => absurd h9 (by decide)) (fun _ => ?_)
              refine lv_iload hx hb dX11_spells_32 (lv_at hl 1 rfl) ?_
              refine lv_if_eq (tgt := 119) hx hb dX11_spells_34 (by decide) (fun _ => ?_) (fun h9 => absurd h9 (by decide))
              refine lv_iload hx hb dX11_spells_119 (lv_at hl 1 rfl) ?_
              exact W.zret (v := 0) hx hb hr (by decide) (fun tZ ht hW => ⟨⟨0, (), rfl, Or.inr (⟨ks_no2 (fun q9 => absurd (of_decide_eq_true q9).2.2.2.2.1 h11), rfl⟩), by rw [ht]; exact hP.sub [0, 1] rfl, hD.sub [0, 1] (by decide) rfl⟩, hS.F ht⟩) hS.2.2 dX11_spells_121
            · skip
              refine lv_iconst (v := 1) hx hb dX11_spells_106 (by decide) ?_
              refine lv_goto (tgt := 111) hx hb dX11_spells_107 (by decide) ?_
              refine lv_istore (lv' := [(8, .int 1), (9, .int 3), (0, .ref mo), (1, .int 6), (2, .int 112), (3, .int 97), (4, .int 114), (5, .int 105), (6, .int 115), (7, .int 104)]) hx hb dX11_spells_111 hl (by decide) rfl (fun ls hl => ?_)
              refine lv_iinc (v := 4) (lv' := [(9, .int 4), (8, .int 1), (0, .ref mo), (1, .int 6), (2, .int 112), (3, .int 97), (4, .int 114), (5, .int 105), (6, .int 115), (7, .int 104)]) hx hb dX11_spells_113 hl (k := 1) rfl (by decide) (by decide) rfl (fun ls hl => ?_)
              refine lv_goto (tgt := 26) hx hb dX11_spells_116 (by decide) ?_
              refine lv_iload hx hb dX11_spells_26 (lv_at hl 0 rfl) ?_
              refine lv_iload_n hx hb dX11_spells_28 rfl (lv_at hl 3 rfl) ?_
              refine lv_icmp_ge (tgt := 119) hx hb dX11_spells_29 (by decide) (fun h9 => absurd h9 (by decide)) (fun _ => ?_)
              refine lv_iload hx hb dX11_spells_32 (lv_at hl 1 rfl) ?_
              refine lv_if_eq (tgt := 119) hx hb dX11_spells_34 (by decide) (fun h9 => absurd h9 (by decide)) (fun _ => ?_)
              refine lv_aload_n hx hb dX11_spells_37 rfl (lv_at hl 2 rfl) ?_
              refine va_get (D := D) (ci := 11) (v := .ref mby) (C := RX11) (T := TX11) (N := 18) hx hb hts iw11 hown hK hP 0 rfl rfl 10 (by decide) fw3 (fun _ h9 => h9) rfl dX11_spells_38 ?_
              refine lv_aload_n hx hb dX11_spells_41 rfl (lv_at hl 2 rfl) ?_
              refine va_get (D := D) (ci := 11) (v := .int (nI ta)) (C := RX11) (T := TX11) (N := 18) hx hb hts iw11 hown hK hP 0 rfl rfl 12 (by decide) fw4 (fun _ h9 => h9) rfl dX11_spells_42 ?_
              refine lv_iload hx hb dX11_spells_45 (lv_at hl 0 rfl) ?_
              refine lv_iadd hx hb dX11_spells_47 ?_
              rw [show (nI ta) + 4 = nI (ta + 4) from nI_add ta 4]
              refine va_iald hx hb hK hP 1 0 rfl rfl (vp_in_nI (by omega) (by decide)) dX11_spells_48 ?_
              rw [nI_clamp (n := (ta + 4)) (by omega)]
              refine lv_iload hx hb dX11_spells_49 (lv_at hl 0 rfl) ?_
              refine lv_if_ne (tgt := 58) hx hb dX11_spells_51 (by decide) (fun _ => ?_) (fun h9 => absurd h9 (by decide))
              refine lv_iload hx hb dX11_spells_58 (lv_at hl 0 rfl) ?_
              refine lv_iconst (v := 1) hx hb dX11_spells_60 (by decide) ?_
              refine lv_icmp_ne (tgt := 68) hx hb dX11_spells_61 (by decide) (fun _ => ?_) (fun h9 => absurd h9 (by decide))
              refine lv_iload hx hb dX11_spells_68 (lv_at hl 0 rfl) ?_
              refine lv_iconst (v := 2) hx hb dX11_spells_70 (by decide) ?_
              refine lv_icmp_ne (tgt := 79) hx hb dX11_spells_71 (by decide) (fun _ => ?_) (fun h9 => absurd h9 (by decide))
              refine lv_iload hx hb dX11_spells_79 (lv_at hl 0 rfl) ?_
              refine lv_iconst (v := 3) hx hb dX11_spells_81 (by decide) ?_
              refine lv_icmp_ne (tgt := 90) hx hb dX11_spells_82 (by decide) (fun _ => ?_) (fun h9 => absurd h9 (by decide))
              refine lv_iload hx hb dX11_spells_90 (lv_at hl 0 rfl) ?_
              refine lv_iconst (v := 4) hx hb dX11_spells_92 (by decide) ?_
              refine lv_icmp_ne (tgt := 101) hx hb dX11_spells_93 (by decide) (fun h9 => absurd h9 (by decide)) (fun _ => ?_)
              refine lv_iload hx hb dX11_spells_96 (lv_at hl 8 rfl) ?_
              refine lv_goto (tgt := 103) hx hb dX11_spells_98 (by decide) ?_
              refine lv_icmp_ne (tgt := 110) hx hb dX11_spells_103 (by decide) (fun h13 => ?_) (fun h14 => ?_)
              · skip
                refine lv_iconst (v := 0) hx hb dX11_spells_110 (by decide) ?_
                refine lv_istore (lv' := [(8, .int 0), (9, .int 4), (0, .ref mo), (1, .int 6), (2, .int 112), (3, .int 97), (4, .int 114), (5, .int 105), (6, .int 115), (7, .int 104)]) hx hb dX11_spells_111 hl (by decide) rfl (fun ls hl => ?_)
                refine lv_iinc (v := 5) (lv' := [(9, .int 5), (8, .int 0), (0, .ref mo), (1, .int 6), (2, .int 112), (3, .int 97), (4, .int 114), (5, .int 105), (6, .int 115), (7, .int 104)]) hx hb dX11_spells_113 hl (k := 1) rfl (by decide) (by decide) rfl (fun ls hl => ?_)
                refine lv_goto (tgt := 26) hx hb dX11_spells_116 (by decide) ?_
                refine lv_iload hx hb dX11_spells_26 (lv_at hl 0 rfl) ?_
                refine lv_iload_n hx hb dX11_spells_28 rfl (lv_at hl 3 rfl) ?_
                refine lv_icmp_ge (tgt := 119) hx hb dX11_spells_29 (by decide) (fun h9 => absurd h9 (by decide)) (fun _ => ?_)
                refine lv_iload hx hb dX11_spells_32 (lv_at hl 1 rfl) ?_
                refine lv_if_eq (tgt := 119) hx hb dX11_spells_34 (by decide) (fun _ => ?_) (fun h9 => absurd h9 (by decide))
                refine lv_iload hx hb dX11_spells_119 (lv_at hl 1 rfl) ?_
                exact W.zret (v := 0) hx hb hr (by decide) (fun tZ ht hW => ⟨⟨0, (), rfl, Or.inr (⟨ks_no2 (fun q9 => absurd (of_decide_eq_true q9).2.2.2.2.2.1 h13), rfl⟩), by rw [ht]; exact hP.sub [0, 1] rfl, hD.sub [0, 1] (by decide) rfl⟩, hS.F ht⟩) hS.2.2 dX11_spells_121
              · skip
                refine lv_iconst (v := 1) hx hb dX11_spells_106 (by decide) ?_
                refine lv_goto (tgt := 111) hx hb dX11_spells_107 (by decide) ?_
                refine lv_istore (lv' := [(8, .int 1), (9, .int 4), (0, .ref mo), (1, .int 6), (2, .int 112), (3, .int 97), (4, .int 114), (5, .int 105), (6, .int 115), (7, .int 104)]) hx hb dX11_spells_111 hl (by decide) rfl (fun ls hl => ?_)
                refine lv_iinc (v := 5) (lv' := [(9, .int 5), (8, .int 1), (0, .ref mo), (1, .int 6), (2, .int 112), (3, .int 97), (4, .int 114), (5, .int 105), (6, .int 115), (7, .int 104)]) hx hb dX11_spells_113 hl (k := 1) rfl (by decide) (by decide) rfl (fun ls hl => ?_)
                refine lv_goto (tgt := 26) hx hb dX11_spells_116 (by decide) ?_
                refine lv_iload hx hb dX11_spells_26 (lv_at hl 0 rfl) ?_
                refine lv_iload_n hx hb dX11_spells_28 rfl (lv_at hl 3 rfl) ?_
                refine lv_icmp_ge (tgt := 119) hx hb dX11_spells_29 (by decide) (fun h9 => absurd h9 (by decide)) (fun _ => ?_)
                refine lv_iload hx hb dX11_spells_32 (lv_at hl 1 rfl) ?_
                refine lv_if_eq (tgt := 119) hx hb dX11_spells_34 (by decide) (fun h9 => absurd h9 (by decide)) (fun _ => ?_)
                refine lv_aload_n hx hb dX11_spells_37 rfl (lv_at hl 2 rfl) ?_
                refine va_get (D := D) (ci := 11) (v := .ref mby) (C := RX11) (T := TX11) (N := 18) hx hb hts iw11 hown hK hP 0 rfl rfl 10 (by decide) fw3 (fun _ h9 => h9) rfl dX11_spells_38 ?_
                refine lv_aload_n hx hb dX11_spells_41 rfl (lv_at hl 2 rfl) ?_
                refine va_get (D := D) (ci := 11) (v := .int (nI ta)) (C := RX11) (T := TX11) (N := 18) hx hb hts iw11 hown hK hP 0 rfl rfl 12 (by decide) fw4 (fun _ h9 => h9) rfl dX11_spells_42 ?_
                refine lv_iload hx hb dX11_spells_45 (lv_at hl 0 rfl) ?_
                refine lv_iadd hx hb dX11_spells_47 ?_
                rw [show (nI ta) + 5 = nI (ta + 5) from nI_add ta 5]
                refine va_iald hx hb hK hP 1 0 rfl rfl (vp_in_nI (by omega) (by decide)) dX11_spells_48 ?_
                rw [nI_clamp (n := (ta + 5)) (by omega)]
                refine lv_iload hx hb dX11_spells_49 (lv_at hl 0 rfl) ?_
                refine lv_if_ne (tgt := 58) hx hb dX11_spells_51 (by decide) (fun _ => ?_) (fun h9 => absurd h9 (by decide))
                refine lv_iload hx hb dX11_spells_58 (lv_at hl 0 rfl) ?_
                refine lv_iconst (v := 1) hx hb dX11_spells_60 (by decide) ?_
                refine lv_icmp_ne (tgt := 68) hx hb dX11_spells_61 (by decide) (fun _ => ?_) (fun h9 => absurd h9 (by decide))
                refine lv_iload hx hb dX11_spells_68 (lv_at hl 0 rfl) ?_
                refine lv_iconst (v := 2) hx hb dX11_spells_70 (by decide) ?_
                refine lv_icmp_ne (tgt := 79) hx hb dX11_spells_71 (by decide) (fun _ => ?_) (fun h9 => absurd h9 (by decide))
                refine lv_iload hx hb dX11_spells_79 (lv_at hl 0 rfl) ?_
                refine lv_iconst (v := 3) hx hb dX11_spells_81 (by decide) ?_
                refine lv_icmp_ne (tgt := 90) hx hb dX11_spells_82 (by decide) (fun _ => ?_) (fun h9 => absurd h9 (by decide))
                refine lv_iload hx hb dX11_spells_90 (lv_at hl 0 rfl) ?_
                refine lv_iconst (v := 4) hx hb dX11_spells_92 (by decide) ?_
                refine lv_icmp_ne (tgt := 101) hx hb dX11_spells_93 (by decide) (fun _ => ?_) (fun h9 => absurd h9 (by decide))
                refine lv_iload hx hb dX11_spells_101 (lv_at hl 9 rfl) ?_
                refine lv_icmp_ne (tgt := 110) hx hb dX11_spells_103 (by decide) (fun h15 => ?_) (fun h16 => ?_)
                · skip
                  refine lv_iconst (v := 0) hx hb dX11_spells_110 (by decide) ?_
                  refine lv_istore (lv' := [(8, .int 0), (9, .int 5), (0, .ref mo), (1, .int 6), (2, .int 112), (3, .int 97), (4, .int 114), (5, .int 105), (6, .int 115), (7, .int 104)]) hx hb dX11_spells_111 hl (by decide) rfl (fun ls hl => ?_)
                  refine lv_iinc (v := 6) (lv' := [(9, .int 6), (8, .int 0), (0, .ref mo), (1, .int 6), (2, .int 112), (3, .int 97), (4, .int 114), (5, .int 105), (6, .int 115), (7, .int 104)]) hx hb dX11_spells_113 hl (k := 1) rfl (by decide) (by decide) rfl (fun ls hl => ?_)
                  refine lv_goto (tgt := 26) hx hb dX11_spells_116 (by decide) ?_
                  refine lv_iload hx hb dX11_spells_26 (lv_at hl 0 rfl) ?_
                  refine lv_iload_n hx hb dX11_spells_28 rfl (lv_at hl 3 rfl) ?_
                  refine lv_icmp_ge (tgt := 119) hx hb dX11_spells_29 (by decide) (fun _ => ?_) (fun h9 => absurd h9 (by decide))
                  refine lv_iload hx hb dX11_spells_119 (lv_at hl 1 rfl) ?_
                  exact W.zret (v := 0) hx hb hr (by decide) (fun tZ ht hW => ⟨⟨0, (), rfl, Or.inr (⟨ks_no2 (fun q9 => absurd (of_decide_eq_true q9).2.2.2.2.2.2 h15), rfl⟩), by rw [ht]; exact hP.sub [0, 1] rfl, hD.sub [0, 1] (by decide) rfl⟩, hS.F ht⟩) hS.2.2 dX11_spells_121
                · skip
                  refine lv_iconst (v := 1) hx hb dX11_spells_106 (by decide) ?_
                  refine lv_goto (tgt := 111) hx hb dX11_spells_107 (by decide) ?_
                  refine lv_istore (lv' := [(8, .int 1), (9, .int 5), (0, .ref mo), (1, .int 6), (2, .int 112), (3, .int 97), (4, .int 114), (5, .int 105), (6, .int 115), (7, .int 104)]) hx hb dX11_spells_111 hl (by decide) rfl (fun ls hl => ?_)
                  refine lv_iinc (v := 6) (lv' := [(9, .int 6), (8, .int 1), (0, .ref mo), (1, .int 6), (2, .int 112), (3, .int 97), (4, .int 114), (5, .int 105), (6, .int 115), (7, .int 104)]) hx hb dX11_spells_113 hl (k := 1) rfl (by decide) (by decide) rfl (fun ls hl => ?_)
                  refine lv_goto (tgt := 26) hx hb dX11_spells_116 (by decide) ?_
                  refine lv_iload hx hb dX11_spells_26 (lv_at hl 0 rfl) ?_
                  refine lv_iload_n hx hb dX11_spells_28 rfl (lv_at hl 3 rfl) ?_
                  refine lv_icmp_ge (tgt := 119) hx hb dX11_spells_29 (by decide) (fun _ => ?_) (fun h9 => absurd h9 (by decide))
                  refine lv_iload hx hb dX11_spells_119 (lv_at hl 1 rfl) ?_
                  exact W.zret (v := 1) hx hb hr (by decide) (fun tZ ht hW => ⟨⟨1, (), rfl, Or.inl ⟨ks_and h2 (decide_eq_true ⟨by omega, h6, h8, h10, h12, h14, h16⟩), rfl⟩, by rw [ht]; exact hP.sub [0, 1] rfl, hD.sub [0, 1] (by decide) rfl⟩, hS.F ht⟩) hS.2.2 dX11_spells_121

set_option maxHeartbeats 4000000 in
set_option maxRecDepth 100000 in
theorem gr_Msp1 (l : Launch) (D : va_G) (y : Nat → ClassId) (mo : Nat) (to : Nat) (ke : Nat) (ik : Nat) (mrf : Nat) (ha : Nat) (r0 : Nat) (mbr : Nat) (mbp : Nat) (mby : Nat) (an : Nat) (va : Nat) (mab : Int64) (mbl : Int64) (bl : Nat) (ta : Nat) (tl : Nat) (tk : Nat) (vv : Int32) (fmb : Nat → Int32) (e : Nat) (hbl : bl ≤ 150) (he : ta + tl = e) (heb : e ≤ bl) (htk : tk ≤ 4) : kw_Mi l yX11_spells wsX11_spells ({ frames := 1, cells := 0, slots := 0, locals := 60 }) D y [.ref mo, .int 5, .int 102, .int 105, .int 101, .int 108, .int 100, .int 0] [(mo, .inr (11, [.ref to, .ref ke, .ref ik, .ref mrf, .long mab, .long mbl, .ref ha, .ref r0, .ref mbr, .ref mbp, .ref mby, .int (nI bl), .int (nI ta), .int (nI tl), .int (nI tk), .int vv, .ref an, .ref va])), (mby, .inl (y 0, 150, .inl fmb))] (fun (r : Int32) (u : Unit) => (ks_w1 fmb tk ta e = true ∧ r = 1) ∨ (¬ ks_w1 fmb tk ta e = true ∧ r = 0)) (fun _ => [(mo, .inr (11, [.ref to, .ref ke, .ref ik, .ref mrf, .long mab, .long mbl, .ref ha, .ref r0, .ref mbr, .ref mbp, .ref mby, .int (nI bl), .int (nI ta), .int (nI tl), .int (nI tk), .int vv, .ref an, .ref va])), (mby, .inl (y 0, 150, .inl fmb))]) 0 0 := by
  refine kw_Mi.of (cc := cX11_spells) (maxL := 10) (ret := (some .boolean)) (by decide) rfl ?_
  intro pZ eZ s mZ beZ meZ cZ A hE
  obtain ⟨hx, hb, hr, hml, hts, hown, hlocks, hin, hA, hP, hD, hK, hN⟩ := hE
  have hS : va_S A s.heap s.heap [] := va_S.rf
  have hl := lv_entry ([.ref mo, .int 5, .int 102, .int 105, .int 101, .int 108, .int 100, .int 0]) (n := 10) (Nat.le_of_ble_eq_true rfl)
  rw [lg_entry_eq]
  generalize (lg_sl ([.ref mo, .int 5, .int 102, .int 105, .int 101, .int 108, .int 100, .int 0]) ++ List.replicate (10 - (lg_sl ([.ref mo, .int 5, .int 102, .int 105, .int 101, .int 108, .int 100, .int 0])).length) Slot.unset).toArray = ls at hl ⊢
  have hl : lv_has ls 10 [(0, .ref mo), (1, .int 5), (2, .int 102), (3, .int 105), (4, .int 101), (5, .int 108), (6, .int 100), (7, .int 0)] := hl
  have fw1 := hts (.fieldLink RX11 228 "GleanDuskModel" "token" "I") (List.mem_of_getElem? (i := 1) rfl)
  have fw2 := hts (.fieldLink RX11 225 "GleanDuskModel" "tokenLong" "I") (List.mem_of_getElem? (i := 2) rfl)
  have fw3 := hts (.fieldLink RX11 39 "GleanDuskModel" "bytes" "[I") (List.mem_of_getElem? (i := 3) rfl)
  have fw4 := hts (.fieldLink RX11 222 "GleanDuskModel" "tokenAt" "I") (List.mem_of_getElem? (i := 4) rfl)
  have iw11 : ∀ w ∈ wsX110, w ∈ wsX11_spells := fun _ h => List.mem_cons_of_mem _ (List.mem_append_right _ h)
  refine lv_aload_n hx hb dX11_spells_0 rfl (lv_at hl 0 rfl) ?_
  refine va_get (D := D) (ci := 11) (v := .int (nI tk)) (C := RX11) (T := TX11) (N := 18) hx hb hts iw11 hown hK hP 0 rfl rfl 14 (by decide) fw1 (fun _ h9 => h9) rfl dX11_spells_1 ?_
  refine lv_iconst (v := 1) hx hb dX11_spells_4 (by decide) ?_
  refine lv_icmp_ne (tgt := 20) hx hb dX11_spells_5 (by decide) (fun h1 => ?_) (fun h2 => ?_)
  · skip
    have h1 : ¬ tk = 1 := fun q9 => h1 ((nI_eq (a := tk) (b := 1) (by omega) (by omega)).mpr q9)
    refine lv_iconst (v := 0) hx hb dX11_spells_20 (by decide) ?_
    refine lv_istore (lv' := [(8, .int 0), (0, .ref mo), (1, .int 5), (2, .int 102), (3, .int 105), (4, .int 101), (5, .int 108), (6, .int 100), (7, .int 0)]) hx hb dX11_spells_21 hl (by decide) rfl (fun ls hl => ?_)
    refine lv_iconst (v := 0) hx hb dX11_spells_23 (by decide) ?_
    refine lv_istore (lv' := [(9, .int 0), (8, .int 0), (0, .ref mo), (1, .int 5), (2, .int 102), (3, .int 105), (4, .int 101), (5, .int 108), (6, .int 100), (7, .int 0)]) hx hb dX11_spells_24 hl (by decide) rfl (fun ls hl => ?_)
    refine lv_iload hx hb dX11_spells_26 (lv_at hl 0 rfl) ?_
    refine lv_iload_n hx hb dX11_spells_28 rfl (lv_at hl 3 rfl) ?_
    refine lv_icmp_ge (tgt := 119) hx hb dX11_spells_29 (by decide) (fun h9 => absurd h9 (by decide)) (fun _ => ?_)
    refine lv_iload hx hb dX11_spells_32 (lv_at hl 1 rfl) ?_
    refine lv_if_eq (tgt := 119) hx hb dX11_spells_34 (by decide) (fun _ => ?_) (fun h9 => absurd h9 (by decide))
    refine lv_iload hx hb dX11_spells_119 (lv_at hl 1 rfl) ?_
    exact W.zret (v := 0) hx hb hr (by decide) (fun tZ ht hW => ⟨⟨0, (), rfl, Or.inr (⟨ks_no h1, rfl⟩), by rw [ht]; exact hP.sub [0, 1] rfl, hD.sub [0, 1] (by decide) rfl⟩, hS.F ht⟩) hS.2.2 dX11_spells_121
  · skip
    have h2 : tk = 1 := (nI_eq (a := tk) (b := 1) (by omega) (by omega)).mp h2
    refine lv_aload_n hx hb dX11_spells_8 rfl (lv_at hl 0 rfl) ?_
    refine va_get (D := D) (ci := 11) (v := .int (nI tl)) (C := RX11) (T := TX11) (N := 18) hx hb hts iw11 hown hK hP 0 rfl rfl 13 (by decide) fw2 (fun _ h9 => h9) rfl dX11_spells_9 ?_
    refine lv_iload_n hx hb dX11_spells_12 rfl (lv_at hl 1 rfl) ?_
    refine lv_icmp_ne (tgt := 20) hx hb dX11_spells_13 (by decide) (fun h3 => ?_) (fun h4 => ?_)
    · skip
      have h3 : ¬ tl = 5 := fun q9 => h3 ((nI_eq (a := tl) (b := 5) (by omega) (by omega)).mpr q9)
      refine lv_iconst (v := 0) hx hb dX11_spells_20 (by decide) ?_
      refine lv_istore (lv' := [(8, .int 0), (0, .ref mo), (1, .int 5), (2, .int 102), (3, .int 105), (4, .int 101), (5, .int 108), (6, .int 100), (7, .int 0)]) hx hb dX11_spells_21 hl (by decide) rfl (fun ls hl => ?_)
      refine lv_iconst (v := 0) hx hb dX11_spells_23 (by decide) ?_
      refine lv_istore (lv' := [(9, .int 0), (8, .int 0), (0, .ref mo), (1, .int 5), (2, .int 102), (3, .int 105), (4, .int 101), (5, .int 108), (6, .int 100), (7, .int 0)]) hx hb dX11_spells_24 hl (by decide) rfl (fun ls hl => ?_)
      refine lv_iload hx hb dX11_spells_26 (lv_at hl 0 rfl) ?_
      refine lv_iload_n hx hb dX11_spells_28 rfl (lv_at hl 3 rfl) ?_
      refine lv_icmp_ge (tgt := 119) hx hb dX11_spells_29 (by decide) (fun h9 => absurd h9 (by decide)) (fun _ => ?_)
      refine lv_iload hx hb dX11_spells_32 (lv_at hl 1 rfl) ?_
      refine lv_if_eq (tgt := 119) hx hb dX11_spells_34 (by decide) (fun _ => ?_) (fun h9 => absurd h9 (by decide))
      refine lv_iload hx hb dX11_spells_119 (lv_at hl 1 rfl) ?_
      exact W.zret (v := 0) hx hb hr (by decide) (fun tZ ht hW => ⟨⟨0, (), rfl, Or.inr (⟨ks_no2 (fun q9 => absurd (of_decide_eq_true q9).1 (by omega)), rfl⟩), by rw [ht]; exact hP.sub [0, 1] rfl, hD.sub [0, 1] (by decide) rfl⟩, hS.F ht⟩) hS.2.2 dX11_spells_121
    · skip
      have h4 : tl = 5 := (nI_eq (a := tl) (b := 5) (by omega) (by omega)).mp h4
      refine lv_iconst (v := 1) hx hb dX11_spells_16 (by decide) ?_
      refine lv_goto (tgt := 21) hx hb dX11_spells_17 (by decide) ?_
      refine lv_istore (lv' := [(8, .int 1), (0, .ref mo), (1, .int 5), (2, .int 102), (3, .int 105), (4, .int 101), (5, .int 108), (6, .int 100), (7, .int 0)]) hx hb dX11_spells_21 hl (by decide) rfl (fun ls hl => ?_)
      refine lv_iconst (v := 0) hx hb dX11_spells_23 (by decide) ?_
      refine lv_istore (lv' := [(9, .int 0), (8, .int 1), (0, .ref mo), (1, .int 5), (2, .int 102), (3, .int 105), (4, .int 101), (5, .int 108), (6, .int 100), (7, .int 0)]) hx hb dX11_spells_24 hl (by decide) rfl (fun ls hl => ?_)
      refine lv_iload hx hb dX11_spells_26 (lv_at hl 0 rfl) ?_
      refine lv_iload_n hx hb dX11_spells_28 rfl (lv_at hl 3 rfl) ?_
      refine lv_icmp_ge (tgt := 119) hx hb dX11_spells_29 (by decide) (fun h9 => absurd h9 (by decide)) (fun _ => ?_)
      refine lv_iload hx hb dX11_spells_32 (lv_at hl 1 rfl) ?_
      refine lv_if_eq (tgt := 119) hx hb dX11_spells_34 (by decide) (fun h9 => absurd h9 (by decide)) (fun _ => ?_)
      refine lv_aload_n hx hb dX11_spells_37 rfl (lv_at hl 2 rfl) ?_
      refine va_get (D := D) (ci := 11) (v := .ref mby) (C := RX11) (T := TX11) (N := 18) hx hb hts iw11 hown hK hP 0 rfl rfl 10 (by decide) fw3 (fun _ h9 => h9) rfl dX11_spells_38 ?_
      refine lv_aload_n hx hb dX11_spells_41 rfl (lv_at hl 2 rfl) ?_
      refine va_get (D := D) (ci := 11) (v := .int (nI ta)) (C := RX11) (T := TX11) (N := 18) hx hb hts iw11 hown hK hP 0 rfl rfl 12 (by decide) fw4 (fun _ h9 => h9) rfl dX11_spells_42 ?_
      refine lv_iload hx hb dX11_spells_45 (lv_at hl 0 rfl) ?_
      refine lv_iadd hx hb dX11_spells_47 ?_
      rw [show (nI ta) + 0 = nI (ta) from nI_add ta 0]
      refine va_iald hx hb hK hP 1 0 rfl rfl (vp_in_nI (by omega) (by decide)) dX11_spells_48 ?_
      rw [nI_clamp (n := ta) (by omega)]
      refine lv_iload hx hb dX11_spells_49 (lv_at hl 0 rfl) ?_
      refine lv_if_ne (tgt := 58) hx hb dX11_spells_51 (by decide) (fun h9 => absurd h9 (by decide)) (fun _ => ?_)
      refine lv_iload_n hx hb dX11_spells_54 rfl (lv_at hl 4 rfl) ?_
      refine lv_goto (tgt := 103) hx hb dX11_spells_55 (by decide) ?_
      refine lv_icmp_ne (tgt := 110) hx hb dX11_spells_103 (by decide) (fun h5 => ?_) (fun h6 => ?_)
      · skip
        refine lv_iconst (v := 0) hx hb dX11_spells_110 (by decide) ?_
        refine lv_istore (lv' := [(8, .int 0), (9, .int 0), (0, .ref mo), (1, .int 5), (2, .int 102), (3, .int 105), (4, .int 101), (5, .int 108), (6, .int 100), (7, .int 0)]) hx hb dX11_spells_111 hl (by decide) rfl (fun ls hl => ?_)
        refine lv_iinc (v := 1) (lv' := [(9, .int 1), (8, .int 0), (0, .ref mo), (1, .int 5), (2, .int 102), (3, .int 105), (4, .int 101), (5, .int 108), (6, .int 100), (7, .int 0)]) hx hb dX11_spells_113 hl (k := 1) rfl (by decide) (by decide) rfl (fun ls hl => ?_)
        refine lv_goto (tgt := 26) hx hb dX11_spells_116 (by decide) ?_
        refine lv_iload hx hb dX11_spells_26 (lv_at hl 0 rfl) ?_
        refine lv_iload_n hx hb dX11_spells_28 rfl (lv_at hl 3 rfl) ?_
        refine lv_icmp_ge (tgt := 119) hx hb dX11_spells_29 (by decide) (fun h9 => absurd h9 (by decide)) (fun _ => ?_)
        refine lv_iload hx hb dX11_spells_32 (lv_at hl 1 rfl) ?_
        refine lv_if_eq (tgt := 119) hx hb dX11_spells_34 (by decide) (fun _ => ?_) (fun h9 => absurd h9 (by decide))
        refine lv_iload hx hb dX11_spells_119 (lv_at hl 1 rfl) ?_
        exact W.zret (v := 0) hx hb hr (by decide) (fun tZ ht hW => ⟨⟨0, (), rfl, Or.inr (⟨ks_no2 (fun q9 => absurd (of_decide_eq_true q9).2.1 h5), rfl⟩), by rw [ht]; exact hP.sub [0, 1] rfl, hD.sub [0, 1] (by decide) rfl⟩, hS.F ht⟩) hS.2.2 dX11_spells_121
      · skip
        refine lv_iconst (v := 1) hx hb dX11_spells_106 (by decide) ?_
        refine lv_goto (tgt := 111) hx hb dX11_spells_107 (by decide) ?_
        refine lv_istore (lv' := [(8, .int 1), (9, .int 0), (0, .ref mo), (1, .int 5), (2, .int 102), (3, .int 105), (4, .int 101), (5, .int 108), (6, .int 100), (7, .int 0)]) hx hb dX11_spells_111 hl (by decide) rfl (fun ls hl => ?_)
        refine lv_iinc (v := 1) (lv' := [(9, .int 1), (8, .int 1), (0, .ref mo), (1, .int 5), (2, .int 102), (3, .int 105), (4, .int 101), (5, .int 108), (6, .int 100), (7, .int 0)]) hx hb dX11_spells_113 hl (k := 1) rfl (by decide) (by decide) rfl (fun ls hl => ?_)
        refine lv_goto (tgt := 26) hx hb dX11_spells_116 (by decide) ?_
        refine lv_iload hx hb dX11_spells_26 (lv_at hl 0 rfl) ?_
        refine lv_iload_n hx hb dX11_spells_28 rfl (lv_at hl 3 rfl) ?_
        refine lv_icmp_ge (tgt := 119) hx hb dX11_spells_29 (by decide) (fun h9 => absurd h9 (by decide)) (fun _ => ?_)
        refine lv_iload hx hb dX11_spells_32 (lv_at hl 1 rfl) ?_
        refine lv_if_eq (tgt := 119) hx hb dX11_spells_34 (by decide) (fun h9 => absurd h9 (by decide)) (fun _ => ?_)
        refine lv_aload_n hx hb dX11_spells_37 rfl (lv_at hl 2 rfl) ?_
        refine va_get (D := D) (ci := 11) (v := .ref mby) (C := RX11) (T := TX11) (N := 18) hx hb hts iw11 hown hK hP 0 rfl rfl 10 (by decide) fw3 (fun _ h9 => h9) rfl dX11_spells_38 ?_
        refine lv_aload_n hx hb dX11_spells_41 rfl (lv_at hl 2 rfl) ?_
        refine va_get (D := D) (ci := 11) (v := .int (nI ta)) (C := RX11) (T := TX11) (N := 18) hx hb hts iw11 hown hK hP 0 rfl rfl 12 (by decide) fw4 (fun _ h9 => h9) rfl dX11_spells_42 ?_
        refine lv_iload hx hb dX11_spells_45 (lv_at hl 0 rfl) ?_
        refine lv_iadd hx hb dX11_spells_47 ?_
        rw [show (nI ta) + 1 = nI (ta + 1) from nI_add ta 1]
        refine va_iald hx hb hK hP 1 0 rfl rfl (vp_in_nI (by omega) (by decide)) dX11_spells_48 ?_
        rw [nI_clamp (n := (ta + 1)) (by omega)]
        refine lv_iload hx hb dX11_spells_49 (lv_at hl 0 rfl) ?_
        refine lv_if_ne (tgt := 58) hx hb dX11_spells_51 (by decide) (fun _ => ?_) (fun h9 => absurd h9 (by decide))
        refine lv_iload hx hb dX11_spells_58 (lv_at hl 0 rfl) ?_
        refine lv_iconst (v := 1) hx hb dX11_spells_60 (by decide) ?_
        refine lv_icmp_ne (tgt := 68) hx hb dX11_spells_61 (by decide) (fun h9 => absurd h9 (by decide)) (fun _ => ?_)
        refine lv_iload_n hx hb dX11_spells_64 rfl (lv_at hl 5 rfl) ?_
        refine lv_goto (tgt := 103) hx hb dX11_spells_65 (by decide) ?_
        refine lv_icmp_ne (tgt := 110) hx hb dX11_spells_103 (by decide) (fun h7 => ?_) (fun h8 => ?_)
        · skip
          refine lv_iconst (v := 0) hx hb dX11_spells_110 (by decide) ?_
          refine lv_istore (lv' := [(8, .int 0), (9, .int 1), (0, .ref mo), (1, .int 5), (2, .int 102), (3, .int 105), (4, .int 101), (5, .int 108), (6, .int 100), (7, .int 0)]) hx hb dX11_spells_111 hl (by decide) rfl (fun ls hl => ?_)
          refine lv_iinc (v := 2) (lv' := [(9, .int 2), (8, .int 0), (0, .ref mo), (1, .int 5), (2, .int 102), (3, .int 105), (4, .int 101), (5, .int 108), (6, .int 100), (7, .int 0)]) hx hb dX11_spells_113 hl (k := 1) rfl (by decide) (by decide) rfl (fun ls hl => ?_)
          refine lv_goto (tgt := 26) hx hb dX11_spells_116 (by decide) ?_
          refine lv_iload hx hb dX11_spells_26 (lv_at hl 0 rfl) ?_
          refine lv_iload_n hx hb dX11_spells_28 rfl (lv_at hl 3 rfl) ?_
          refine lv_icmp_ge (tgt := 119) hx hb dX11_spells_29 (by decide) (fun h9 => absurd h9 (by decide)) (fun _ => ?_)
          refine lv_iload hx hb dX11_spells_32 (lv_at hl 1 rfl) ?_
          refine lv_if_eq (tgt := 119) hx hb dX11_spells_34 (by decide) (fun _ => ?_) (fun h9 => absurd h9 (by decide))
          refine lv_iload hx hb dX11_spells_119 (lv_at hl 1 rfl) ?_
          exact W.zret (v := 0) hx hb hr (by decide) (fun tZ ht hW => ⟨⟨0, (), rfl, Or.inr (⟨ks_no2 (fun q9 => absurd (of_decide_eq_true q9).2.2.1 h7), rfl⟩), by rw [ht]; exact hP.sub [0, 1] rfl, hD.sub [0, 1] (by decide) rfl⟩, hS.F ht⟩) hS.2.2 dX11_spells_121
        · skip
          refine lv_iconst (v := 1) hx hb dX11_spells_106 (by decide) ?_
          refine lv_goto (tgt := 111) hx hb dX11_spells_107 (by decide) ?_
          refine lv_istore (lv' := [(8, .int 1), (9, .int 1), (0, .ref mo), (1, .int 5), (2, .int 102), (3, .int 105), (4, .int 101), (5, .int 108), (6, .int 100), (7, .int 0)]) hx hb dX11_spells_111 hl (by decide) rfl (fun ls hl => ?_)
          refine lv_iinc (v := 2) (lv' := [(9, .int 2), (8, .int 1), (0, .ref mo), (1, .int 5), (2, .int 102), (3, .int 105), (4, .int 101), (5, .int 108), (6, .int 100), (7, .int 0)]) hx hb dX11_spells_113 hl (k := 1) rfl (by decide) (by decide) rfl (fun ls hl => ?_)
          refine lv_goto (tgt := 26) hx hb dX11_spells_116 (by decide) ?_
          refine lv_iload hx hb dX11_spells_26 (lv_at hl 0 rfl) ?_
          refine lv_iload_n hx hb dX11_spells_28 rfl (lv_at hl 3 rfl) ?_
          refine lv_icmp_ge (tgt := 119) hx hb dX11_spells_29 (by decide) (fun h9 => absurd h9 (by decide)) (fun _ => ?_)
          refine lv_iload hx hb dX11_spells_32 (lv_at hl 1 rfl) ?_
          refine lv_if_eq (tgt := 119) hx hb dX11_spells_34 (by decide) (fun h9 => absurd h9 (by decide)) (fun _ => ?_)
          refine lv_aload_n hx hb dX11_spells_37 rfl (lv_at hl 2 rfl) ?_
          refine va_get (D := D) (ci := 11) (v := .ref mby) (C := RX11) (T := TX11) (N := 18) hx hb hts iw11 hown hK hP 0 rfl rfl 10 (by decide) fw3 (fun _ h9 => h9) rfl dX11_spells_38 ?_
          refine lv_aload_n hx hb dX11_spells_41 rfl (lv_at hl 2 rfl) ?_
          refine va_get (D := D) (ci := 11) (v := .int (nI ta)) (C := RX11) (T := TX11) (N := 18) hx hb hts iw11 hown hK hP 0 rfl rfl 12 (by decide) fw4 (fun _ h9 => h9) rfl dX11_spells_42 ?_
          refine lv_iload hx hb dX11_spells_45 (lv_at hl 0 rfl) ?_
          refine lv_iadd hx hb dX11_spells_47 ?_
          rw [show (nI ta) + 2 = nI (ta + 2) from nI_add ta 2]
          refine va_iald hx hb hK hP 1 0 rfl rfl (vp_in_nI (by omega) (by decide)) dX11_spells_48 ?_
          rw [nI_clamp (n := (ta + 2)) (by omega)]
          refine lv_iload hx hb dX11_spells_49 (lv_at hl 0 rfl) ?_
          refine lv_if_ne (tgt := 58) hx hb dX11_spells_51 (by decide) (fun _ => ?_) (fun h9 => absurd h9 (by decide))
          refine lv_iload hx hb dX11_spells_58 (lv_at hl 0 rfl) ?_
          refine lv_iconst (v := 1) hx hb dX11_spells_60 (by decide) ?_
          refine lv_icmp_ne (tgt := 68) hx hb dX11_spells_61 (by decide) (fun _ => ?_) (fun h9 => absurd h9 (by decide))
          refine lv_iload hx hb dX11_spells_68 (lv_at hl 0 rfl) ?_
          refine lv_iconst (v := 2) hx hb dX11_spells_70 (by decide) ?_
          refine lv_icmp_ne (tgt := 79) hx hb dX11_spells_71 (by decide) (fun h9 => absurd h9 (by decide)) (fun _ => ?_)
          refine lv_iload hx hb dX11_spells_74 (lv_at hl 6 rfl) ?_
          refine lv_goto (tgt := 103) hx hb dX11_spells_76 (by decide) ?_
          refine lv_icmp_ne (tgt := 110) hx hb dX11_spells_103 (by decide) (fun h9 => ?_) (fun h10 => ?_)
          · skip
            refine lv_iconst (v := 0) hx hb dX11_spells_110 (by decide) ?_
            refine lv_istore (lv' := [(8, .int 0), (9, .int 2), (0, .ref mo), (1, .int 5), (2, .int 102), (3, .int 105), (4, .int 101), (5, .int 108), (6, .int 100), (7, .int 0)]) hx hb dX11_spells_111 hl (by decide) rfl (fun ls hl => ?_)
            refine lv_iinc (v := 3) (lv' := [(9, .int 3), (8, .int 0), (0, .ref mo), (1, .int 5), (2, .int 102), (3, .int 105), (4, .int 101), (5, .int 108), (6, .int 100), (7, .int 0)]) hx hb dX11_spells_113 hl (k := 1) rfl (by decide) (by decide) rfl (fun ls hl => ?_)
            refine lv_goto (tgt := 26) hx hb dX11_spells_116 (by decide) ?_
            refine lv_iload hx hb dX11_spells_26 (lv_at hl 0 rfl) ?_
            refine lv_iload_n hx hb dX11_spells_28 rfl (lv_at hl 3 rfl) ?_
            refine lv_icmp_ge (tgt := 119) hx hb dX11_spells_29 (by decide) (fun h9 => absurd h9 (by decide)) (fun _ => ?_)
            refine lv_iload hx hb dX11_spells_32 (lv_at hl 1 rfl) ?_
            refine lv_if_eq (tgt := 119) hx hb dX11_spells_34 (by decide) (fun _ => ?_) (fun h9 => absurd h9 (by decide))
            refine lv_iload hx hb dX11_spells_119 (lv_at hl 1 rfl) ?_
            exact W.zret (v := 0) hx hb hr (by decide) (fun tZ ht hW => ⟨⟨0, (), rfl, Or.inr (⟨ks_no2 (fun q9 => absurd (of_decide_eq_true q9).2.2.2.1 h9), rfl⟩), by rw [ht]; exact hP.sub [0, 1] rfl, hD.sub [0, 1] (by decide) rfl⟩, hS.F ht⟩) hS.2.2 dX11_spells_121
          · skip
            refine lv_iconst (v := 1) hx hb dX11_spells_106 (by decide) ?_
            refine lv_goto (tgt := 111) hx hb dX11_spells_107 (by decide) ?_
            refine lv_istore (lv' := [(8, .int 1), (9, .int 2), (0, .ref mo), (1, .int 5), (2, .int 102), (3, .int 105), (4, .int 101), (5, .int 108), (6, .int 100), (7, .int 0)]) hx hb dX11_spells_111 hl (by decide) rfl (fun ls hl => ?_)
            refine lv_iinc (v := 3) (lv' := [(9, .int 3), (8, .int 1), (0, .ref mo), (1, .int 5), (2, .int 102), (3, .int 105), (4, .int 101), (5, .int 108), (6, .int 100), (7, .int 0)]) hx hb dX11_spells_113 hl (k := 1) rfl (by decide) (by decide) rfl (fun ls hl => ?_)
            refine lv_goto (tgt := 26) hx hb dX11_spells_116 (by decide) ?_
            refine lv_iload hx hb dX11_spells_26 (lv_at hl 0 rfl) ?_
            refine lv_iload_n hx hb dX11_spells_28 rfl (lv_at hl 3 rfl) ?_
            refine lv_icmp_ge (tgt := 119) hx hb dX11_spells_29 (by decide) (fun h9 => absurd h9 (by decide)) (fun _ => ?_)
            refine lv_iload hx hb dX11_spells_32 (lv_at hl 1 rfl) ?_
            refine lv_if_eq (tgt := 119) hx hb dX11_spells_34 (by decide) (fun h9 => absurd h9 (by decide)) (fun _ => ?_)
            refine lv_aload_n hx hb dX11_spells_37 rfl (lv_at hl 2 rfl) ?_
            refine va_get (D := D) (ci := 11) (v := .ref mby) (C := RX11) (T := TX11) (N := 18) hx hb hts iw11 hown hK hP 0 rfl rfl 10 (by decide) fw3 (fun _ h9 => h9) rfl dX11_spells_38 ?_
            refine lv_aload_n hx hb dX11_spells_41 rfl (lv_at hl 2 rfl) ?_
            refine va_get (D := D) (ci := 11) (v := .int (nI ta)) (C := RX11) (T := TX11) (N := 18) hx hb hts iw11 hown hK hP 0 rfl rfl 12 (by decide) fw4 (fun _ h9 => h9) rfl dX11_spells_42 ?_
            refine lv_iload hx hb dX11_spells_45 (lv_at hl 0 rfl) ?_
            refine lv_iadd hx hb dX11_spells_47 ?_
            rw [show (nI ta) + 3 = nI (ta + 3) from nI_add ta 3]
            refine va_iald hx hb hK hP 1 0 rfl rfl (vp_in_nI (by omega) (by decide)) dX11_spells_48 ?_
            rw [nI_clamp (n := (ta + 3)) (by omega)]
            refine lv_iload hx hb dX11_spells_49 (lv_at hl 0 rfl) ?_
            refine lv_if_ne (tgt := 58) hx hb dX11_spells_51 (by decide) (fun _ => ?_) (fun h9 => absurd h9 (by decide))
            refine lv_iload hx hb dX11_spells_58 (lv_at hl 0 rfl) ?_
            refine lv_iconst (v := 1) hx hb dX11_spells_60 (by decide) ?_
            refine lv_icmp_ne (tgt := 68) hx hb dX11_spells_61 (by decide) (fun _ => ?_) (fun h9 => absurd h9 (by decide))
            refine lv_iload hx hb dX11_spells_68 (lv_at hl 0 rfl) ?_
            refine lv_iconst (v := 2) hx hb dX11_spells_70 (by decide) ?_
            refine lv_icmp_ne (tgt := 79) hx hb dX11_spells_71 (by decide) (fun _ => ?_) (fun h9 => absurd h9 (by decide))
            refine lv_iload hx hb dX11_spells_79 (lv_at hl 0 rfl) ?_
            refine lv_iconst (v := 3) hx hb dX11_spells_81 (by decide) ?_
            refine lv_icmp_ne (tgt := 90) hx hb dX11_spells_82 (by decide) (fun h9 => absurd h9 (by decide)) (fun _ => ?_)
            refine lv_iload hx hb dX11_spells_85 (lv_at hl 7 rfl) ?_
            refine lv_goto (tgt := 103) hx hb dX11_spells_87 (by decide) ?_
            refine lv_icmp_ne (tgt := 110) hx hb dX11_spells_103 (by decide) (fun h11 => ?_) (fun h12 => ?_)
            · skip
              refine lv_iconst (v := 0) hx hb dX11_spells_110 (by decide) ?_
              refine lv_istore (lv' := [(8, .int 0), (9, .int 3), (0, .ref mo), (1, .int 5), (2, .int 102), (3, .int 105), (4, .int 101), (5, .int 108), (6, .int 100), (7, .int 0)]) hx hb dX11_spells_111 hl (by decide) rfl (fun ls hl => ?_)
              refine lv_iinc (v := 4) (lv' := [(9, .int 4), (8, .int 0), (0, .ref mo), (1, .int 5), (2, .int 102), (3, .int 105), (4, .int 101), (5, .int 108), (6, .int 100), (7, .int 0)]) hx hb dX11_spells_113 hl (k := 1) rfl (by decide) (by decide) rfl (fun ls hl => ?_)
              refine lv_goto (tgt := 26) hx hb dX11_spells_116 (by decide) ?_
              refine lv_iload hx hb dX11_spells_26 (lv_at hl 0 rfl) ?_
              refine lv_iload_n hx hb dX11_spells_28 rfl (lv_at hl 3 rfl) ?_
              refine lv_icmp_ge (tgt := 119) hx hb dX11_spells_29 (by decide) (fun h9 => absurd h9 (by decide)) (fun _ => ?_)
              refine lv_iload hx hb dX11_spells_32 (lv_at hl 1 rfl) ?_
              refine lv_if_eq (tgt := 119) hx hb dX11_spells_34 (by decide) (fun _ => ?_) (fun h9 => absurd h9 (by decide))
              refine lv_iload hx hb dX11_spells_119 (lv_at hl 1 rfl) ?_
              exact W.zret (v := 0) hx hb hr (by decide) (fun tZ ht hW => ⟨⟨0, (), rfl, Or.inr (⟨ks_no2 (fun q9 => absurd (of_decide_eq_true q9).2.2.2.2.1 h11), rfl⟩), by rw [ht]; exact hP.sub [0, 1] rfl, hD.sub [0, 1] (by decide) rfl⟩, hS.F ht⟩) hS.2.2 dX11_spells_121
            · skip
              refine lv_iconst (v := 1) hx hb dX11_spells_106 (by decide) ?_
              refine lv_goto (tgt := 111) hx hb dX11_spells_107 (by decide) ?_
              refine lv_istore (lv' := [(8, .int 1), (9, .int 3), (0, .ref mo), (1, .int 5), (2, .int 102), (3, .int 105), (4, .int 101), (5, .int 108), (6, .int 100), (7, .int 0)]) hx hb dX11_spells_111 hl (by decide) rfl (fun ls hl => ?_)
              refine lv_iinc (v := 4) (lv' := [(9, .int 4), (8, .int 1), (0, .ref mo), (1, .int 5), (2, .int 102), (3, .int 105), (4, .int 101), (5, .int 108), (6, .int 100), (7, .int 0)]) hx hb dX11_spells_113 hl (k := 1) rfl (by decide) (by decide) rfl (fun ls hl => ?_)
              refine lv_goto (tgt := 26) hx hb dX11_spells_116 (by decide) ?_
              refine lv_iload hx hb dX11_spells_26 (lv_at hl 0 rfl) ?_
              refine lv_iload_n hx hb dX11_spells_28 rfl (lv_at hl 3 rfl) ?_
              refine lv_icmp_ge (tgt := 119) hx hb dX11_spells_29 (by decide) (fun h9 => absurd h9 (by decide)) (fun _ => ?_)
              refine lv_iload hx hb dX11_spells_32 (lv_at hl 1 rfl) ?_
              refine lv_if_eq (tgt := 119) hx hb dX11_spells_34 (by decide) (fun h9 => absurd h9 (by decide)) (fun _ => ?_)
              refine lv_aload_n hx hb dX11_spells_37 rfl (lv_at hl 2 rfl) ?_
              refine va_get (D := D) (ci := 11) (v := .ref mby) (C := RX11) (T := TX11) (N := 18) hx hb hts iw11 hown hK hP 0 rfl rfl 10 (by decide) fw3 (fun _ h9 => h9) rfl dX11_spells_38 ?_
              refine lv_aload_n hx hb dX11_spells_41 rfl (lv_at hl 2 rfl) ?_
              refine va_get (D := D) (ci := 11) (v := .int (nI ta)) (C := RX11) (T := TX11) (N := 18) hx hb hts iw11 hown hK hP 0 rfl rfl 12 (by decide) fw4 (fun _ h9 => h9) rfl dX11_spells_42 ?_
              refine lv_iload hx hb dX11_spells_45 (lv_at hl 0 rfl) ?_
              refine lv_iadd hx hb dX11_spells_47 ?_
              rw [show (nI ta) + 4 = nI (ta + 4) from nI_add ta 4]
              refine va_iald hx hb hK hP 1 0 rfl rfl (vp_in_nI (by omega) (by decide)) dX11_spells_48 ?_
              rw [nI_clamp (n := (ta + 4)) (by omega)]
              refine lv_iload hx hb dX11_spells_49 (lv_at hl 0 rfl) ?_
              refine lv_if_ne (tgt := 58) hx hb dX11_spells_51 (by decide) (fun _ => ?_) (fun h9 => absurd h9 (by decide))
              refine lv_iload hx hb dX11_spells_58 (lv_at hl 0 rfl) ?_
              refine lv_iconst (v := 1) hx hb dX11_spells_60 (by decide) ?_
              refine lv_icmp_ne (tgt := 68) hx hb dX11_spells_61 (by decide) (fun _ => ?_) (fun h9 => absurd h9 (by decide))
              refine lv_iload hx hb dX11_spells_68 (lv_at hl 0 rfl) ?_
              refine lv_iconst (v := 2) hx hb dX11_spells_70 (by decide) ?_
              refine lv_icmp_ne (tgt := 79) hx hb dX11_spells_71 (by decide) (fun _ => ?_) (fun h9 => absurd h9 (by decide))
              refine lv_iload hx hb dX11_spells_79 (lv_at hl 0 rfl) ?_
              refine lv_iconst (v := 3) hx hb dX11_spells_81 (by decide) ?_
              refine lv_icmp_ne (tgt := 90) hx hb dX11_spells_82 (by decide) (fun _ => ?_) (fun h9 => absurd h9 (by decide))
              refine lv_iload hx hb dX11_spells_90 (lv_at hl 0 rfl) ?_
              refine lv_iconst (v := 4) hx hb dX11_spells_92 (by decide) ?_
              refine lv_icmp_ne (tgt := 101) hx hb dX11_spells_93 (by decide) (fun h9 => absurd h9 (by decide)) (fun _ => ?_)
              refine lv_iload hx hb dX11_spells_96 (lv_at hl 8 rfl) ?_
              refine lv_goto (tgt := 103) hx hb dX11_spells_98 (by decide) ?_
              refine lv_icmp_ne (tgt := 110) hx hb dX11_spells_103 (by decide) (fun h13 => ?_) (fun h14 => ?_)
              · skip
                refine lv_iconst (v := 0) hx hb dX11_spells_110 (by decide) ?_
                refine lv_istore (lv' := [(8, .int 0), (9, .int 4), (0, .ref mo), (1, .int 5), (2, .int 102), (3, .int 105), (4, .int 101), (5, .int 108), (6, .int 100), (7, .int 0)]) hx hb dX11_spells_111 hl (by decide) rfl (fun ls hl => ?_)
                refine lv_iinc (v := 5) (lv' := [(9, .int 5), (8, .int 0), (0, .ref mo), (1, .int 5), (2, .int 102), (3, .int 105), (4, .int 101), (5, .int 108), (6, .int 100), (7, .int 0)]) hx hb dX11_spells_113 hl (k := 1) rfl (by decide) (by decide) rfl (fun ls hl => ?_)
                refine lv_goto (tgt := 26) hx hb dX11_spells_116 (by decide) ?_
                refine lv_iload hx hb dX11_spells_26 (lv_at hl 0 rfl) ?_
                refine lv_iload_n hx hb dX11_spells_28 rfl (lv_at hl 3 rfl) ?_
                refine lv_icmp_ge (tgt := 119) hx hb dX11_spells_29 (by decide) (fun _ => ?_) (fun h9 => absurd h9 (by decide))
                refine lv_iload hx hb dX11_spells_119 (lv_at hl 1 rfl) ?_
                exact W.zret (v := 0) hx hb hr (by decide) (fun tZ ht hW => ⟨⟨0, (), rfl, Or.inr (⟨ks_no2 (fun q9 => absurd (of_decide_eq_true q9).2.2.2.2.2 h13), rfl⟩), by rw [ht]; exact hP.sub [0, 1] rfl, hD.sub [0, 1] (by decide) rfl⟩, hS.F ht⟩) hS.2.2 dX11_spells_121
              · skip
                refine lv_iconst (v := 1) hx hb dX11_spells_106 (by decide) ?_
                refine lv_goto (tgt := 111) hx hb dX11_spells_107 (by decide) ?_
                refine lv_istore (lv' := [(8, .int 1), (9, .int 4), (0, .ref mo), (1, .int 5), (2, .int 102), (3, .int 105), (4, .int 101), (5, .int 108), (6, .int 100), (7, .int 0)]) hx hb dX11_spells_111 hl (by decide) rfl (fun ls hl => ?_)
                refine lv_iinc (v := 5) (lv' := [(9, .int 5), (8, .int 1), (0, .ref mo), (1, .int 5), (2, .int 102), (3, .int 105), (4, .int 101), (5, .int 108), (6, .int 100), (7, .int 0)]) hx hb dX11_spells_113 hl (k := 1) rfl (by decide) (by decide) rfl (fun ls hl => ?_)
                refine lv_goto (tgt := 26) hx hb dX11_spells_116 (by decide) ?_
                refine lv_iload hx hb dX11_spells_26 (lv_at hl 0 rfl) ?_
                refine lv_iload_n hx hb dX11_spells_28 rfl (lv_at hl 3 rfl) ?_
                refine lv_icmp_ge (tgt := 119) hx hb dX11_spells_29 (by decide) (fun _ => ?_) (fun h9 => absurd h9 (by decide))
                refine lv_iload hx hb dX11_spells_119 (lv_at hl 1 rfl) ?_
                exact W.zret (v := 1) hx hb hr (by decide) (fun tZ ht hW => ⟨⟨1, (), rfl, Or.inl ⟨ks_and h2 (decide_eq_true ⟨by omega, h6, h8, h10, h12, h14⟩), rfl⟩, by rw [ht]; exact hP.sub [0, 1] rfl, hD.sub [0, 1] (by decide) rfl⟩, hS.F ht⟩) hS.2.2 dX11_spells_121
