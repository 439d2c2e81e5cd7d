set_option maxHeartbeats 4000000 in
set_option maxRecDepth 100000 in
theorem gr_takesW (l : Launch) (D : va_G) (y : Nat → ClassId) (mo : Nat) (to : Nat) (ke : Nat) (ik : Nat) (mrf : Nat) (ha : Nat) (r0 : Nat) (mbr : Nat) (mbp : Nat) (mby : Nat) (an : Nat) (va : Nat) (mab : Int64) (mbl : Int64) (bl : Nat) (ta : Nat) (tl : Nat) (tk : Nat) (vv : Int32) (fmb : Nat → Int32) (fva : Nat → Int32) (x : Int32) (hbl : bl ≤ 150) (hT1 : ta + tl ≤ bl) (hT2 : (tk = 0 ∨ 1 ≤ tl)) (hT3 : tk ≤ 4) : kw_Mi l yX11_takes wsX11_takes ({ frames := 5, cells := 0, slots := 0, locals := 149 }) D y [.ref mo, .int 0, .int 1, .int x] [(mo, .inr (11, [.ref to, .ref ke, .ref ik, .ref mrf, .long mab, .long mbl, .ref ha, .ref r0, .ref mbr, .ref mbp, .ref mby, .int (nI bl), .int (nI ta), .int (nI tl), .int (nI tk), .int vv, .ref an, .ref va])), (mby, .inl (y 0, 150, .inl fmb)), (va, .inl (y 0, 2, .inl fva))] (fun (r : Int32) (u : Nat × Nat × Nat × Int32 × (Nat → Int32)) => u.1 ≤ bl ∧ u.2.1 ≤ 150 ∧ u.2.2.1 ≤ 4 ∧ (r = 0 ∨ r = 1) ∧ ta ≤ u.1 ∧ u.1 + u.2.1 ≤ bl ∧ (u.2.2.1 = 0 ∨ 1 ≤ u.2.1)) (fun u => [(mo, .inr (11, [.ref to, .ref ke, .ref ik, .ref mrf, .long mab, .long mbl, .ref ha, .ref r0, .ref mbr, .ref mbp, .ref mby, .int (nI bl), .int (nI u.1), .int (nI u.2.1), .int (nI u.2.2.1), .int u.2.2.2.1, .ref an, .ref va])), (mby, .inl (y 0, 150, .inl fmb)), (va, .inl (y 0, 2, .inl u.2.2.2.2))]) 0 0 := by
  refine kw_Mi.of (cc := cX11_takes) (maxL := 4) (ret := (some .boolean)) (by decide) rfl ?_
  intro pZ eZ s mZ beZ meZ cZ A hE
  obtain ⟨hx, hb, hr, hml, hts, hown, hlocks, hin, hA, hP, hD, hK, hN⟩ := hE
  have hS : va_S A s.heap s.heap [] := va_S.rf
  have hl := lv_entry ([.ref mo, .int 0, .int 1, .int x]) (n := 4) (Nat.le_of_ble_eq_true rfl)
  rw [lg_entry_eq]
  generalize (lg_sl ([.ref mo, .int 0, .int 1, .int x]) ++ List.replicate (4 - (lg_sl ([.ref mo, .int 0, .int 1, .int x])).length) Slot.unset).toArray = ls at hl ⊢
  have hl : lv_has ls 4 [(0, .ref mo), (1, .int 0), (2, .int 1), (3, .int x)] := hl
  have fw1 := hts (.fieldLink RX11 228 "GleanDuskModel" "token" "I") (List.mem_of_getElem? (i := 1) rfl)
  have fw2 := hts (.fieldLink RX11 231 "GleanDuskModel" "value" "I") (List.mem_of_getElem? (i := 2) rfl)
  have fw3 := hts (.fieldLink RX11 45 "GleanDuskModel" "values" "[I") (List.mem_of_getElem? (i := 3) rfl)
  have iw11 : ∀ w ∈ wsX110, w ∈ wsX11_takes := fun _ h => List.mem_cons_of_mem _ (List.mem_append_right _ h)
  refine lv_aload_n hx hb dX11_takes_0 rfl (lv_at hl 0 rfl) ?_
  refine va_get (D := D) (ci := 11) (v := .int (nI tk)) (C := RX11) (T := TX11) (N := 18) hx hb hts iw11 hown hK hP 0 rfl rfl 14 (by decide) fw1 (fun _ h9 => h9) rfl dX11_takes_1 ?_
  refine lv_iconst (v := 2) hx hb dX11_takes_4 (by decide) ?_
  refine lv_icmp_ne (tgt := 23) hx hb dX11_takes_5 (by decide) (fun h1 => ?_) (fun h2 => ?_)
  · skip
    have h1 : ¬ tk = 2 := fun q9 => h1 ((nI_eq (a := tk) (b := 2) (by omega) (by omega)).mpr q9)
    refine lv_iconst (v := 0) hx hb dX11_takes_23 (by decide) ?_
    exact W.zret (v := 0) hx hb hr (by decide) (fun tZ ht hW => ⟨⟨0, (ta, tl, tk, vv, fva), rfl, ⟨by first | omega | (dsimp only; omega), by first | omega | (dsimp only; omega), by first | omega | (dsimp only; omega), Or.inl rfl, by first | omega | (dsimp only; omega), by first | omega | (dsimp only; omega), by first | omega | (dsimp only; omega)⟩, by rw [ht]; exact hP.sub [0, 1, 2] rfl, hD.sub [0, 1, 2] (by decide) rfl⟩, hS.F ht⟩) hS.2.2 dX11_takes_24
  · skip
    have h2 : tk = 2 := (nI_eq (a := tk) (b := 2) (by omega) (by omega)).mp h2
    refine lv_aload_n hx hb dX11_takes_8 rfl (lv_at hl 0 rfl) ?_
    refine va_get (D := D) (ci := 11) (v := .int vv) (C := RX11) (T := TX11) (N := 18) hx hb hts iw11 hown hK hP 0 rfl rfl 15 (by decide) fw2 (fun _ h9 => h9) rfl dX11_takes_9 ?_
    refine lv_i2l (v := vv.toInt64) hx hb dX11_takes_12 (rfl) ?_
    refine lv_iload_n hx hb dX11_takes_13 rfl (lv_at hl 2 rfl) ?_
    refine lv_i2l (v := 1) hx hb dX11_takes_14 (by decide) ?_
    refine lv_iload_n hx hb dX11_takes_15 rfl (lv_at hl 3 rfl) ?_
    refine lv_i2l (v := x.toInt64) hx hb dX11_takes_16 (rfl) ?_
    have hs3 : kw_Split [(mo, .inr (11, [.ref to, .ref ke, .ref ik, .ref mrf, .long mab, .long mbl, .ref ha, .ref r0, .ref mbr, .ref mbp, .ref mby, .int (nI bl), .int (nI ta), .int (nI tl), .int (nI tk), .int vv, .ref an, .ref va])), (mby, .inl (y 0, 150, .inl fmb)), (va, .inl (y 0, 2, .inl fva))] [] [(mo, .inr (11, [.ref to, .ref ke, .ref ik, .ref mrf, .long mab, .long mbl, .ref ha, .ref r0, .ref mbr, .ref mbp, .ref mby, .int (nI bl), .int (nI ta), .int (nI tl), .int (nI tk), .int vv, .ref an, .ref va])), (mby, .inl (y 0, 150, .inl fmb)), (va, .inl (y 0, 2, .inl fva))] [] [0, 1, 2] := ⟨rfl, rfl, rfl, rfl, rfl, by decide⟩
    refine kw_go_i hs3 hP hD hS hA (va_runS (As := [.long vv.toInt64, .long 1, .long x.toInt64]) (rest := []) ⟨hx, hb, hml, hown, hts⟩ (gr_inW l D y vv.toInt64 1 x.toInt64  _) (va_cwS 3 hts gX11_takes_X11_in rfl rfl rfl (by decide +kernel) ⟨Nat.le_of_ble_eq_true rfl, Nat.le_of_ble_eq_true rfl⟩) (kw_PreS hs3 hP hD hK hN) rfl rfl hl.1 rfl (lv_room (Nat.le_of_ble_eq_true rfl)) dX11_takes_17 ⟨Nat.le_of_ble_eq_true rfl, Nat.le_of_ble_eq_true rfl⟩) (fun r4 u5 H locs hq hP hD hS => ?_)
    rcases hq with rfl | rfl
    · skip
      have hP : va_P D vwCl [(mo, .inr (11, [.ref to, .ref ke, .ref ik, .ref mrf, .long mab, .long mbl, .ref ha, .ref r0, .ref mbr, .ref mbp, .ref mby, .int (nI bl), .int (nI ta), .int (nI tl), .int (nI tk), .int vv, .ref an, .ref va])), (mby, .inl (y 0, 150, .inl fmb)), (va, .inl (y 0, 2, .inl fva))] H := hP
      have hD : va_D A [(mo, .inr (11, [.ref to, .ref ke, .ref ik, .ref mrf, .long mab, .long mbl, .ref ha, .ref r0, .ref mbr, .ref mbp, .ref mby, .int (nI bl), .int (nI ta), .int (nI tl), .int (nI tk), .int vv, .ref an, .ref va])), (mby, .inl (y 0, 150, .inl fmb)), (va, .inl (y 0, 2, .inl fva))] := hD
      refine lv_if_ne (tgt := 25) hx hb dX11_takes_20 (by decide) (fun _ => ?_) (fun h9 => absurd h9 (by decide))
      refine lv_aload_n hx hb dX11_takes_25 rfl (lv_at hl 0 rfl) ?_
      refine va_get (D := D) (ci := 11) (v := .ref va) (C := RX11) (T := TX11) (N := 18) hx hb hts iw11 hown hK hP 0 rfl rfl 17 (by decide) fw3 (fun _ h9 => h9) rfl dX11_takes_26 ?_
      refine lv_iload_n hx hb dX11_takes_29 rfl (lv_at hl 1 rfl) ?_
      refine lv_aload_n hx hb dX11_takes_30 rfl (lv_at hl 0 rfl) ?_
      refine va_get (D := D) (ci := 11) (v := .int vv) (C := RX11) (T := TX11) (N := 18) hx hb hts iw11 hown hK hP 0 rfl rfl 15 (by decide) fw2 (fun _ h9 => h9) rfl dX11_takes_31 ?_
      refine va_iast hx hb hK hP hD hS 2 0 rfl rfl (by unfold vp_in; decide) dX11_takes_34 (fun H locs hP hD hS => ?_)
      rw [show ((0 : Int32)).toNatClampNeg = 0 from rfl] at hP hD
      have hP : va_P D vwCl [(mo, .inr (11, [.ref to, .ref ke, .ref ik, .ref mrf, .long mab, .long mbl, .ref ha, .ref r0, .ref mbr, .ref mbp, .ref mby, .int (nI bl), .int (nI ta), .int (nI tl), .int (nI tk), .int vv, .ref an, .ref va])), (mby, .inl (y 0, 150, .inl fmb)), (va, .inl (y 0, 2, .inl (upd fva 0 vv)))] H := hP
      have hD : va_D A [(mo, .inr (11, [.ref to, .ref ke, .ref ik, .ref mrf, .long mab, .long mbl, .ref ha, .ref r0, .ref mbr, .ref mbp, .ref mby, .int (nI bl), .int (nI ta), .int (nI tl), .int (nI tk), .int vv, .ref an, .ref va])), (mby, .inl (y 0, 150, .inl fmb)), (va, .inl (y 0, 2, .inl (upd fva 0 vv)))] := hD
      refine lv_aload_n hx hb dX11_takes_35 rfl (lv_at hl 0 rfl) ?_
      have hs6 : kw_Split [(mo, .inr (11, [.ref to, .ref ke, .ref ik, .ref mrf, .long mab, .long mbl, .ref ha, .ref r0, .ref mbr, .ref mbp, .ref mby, .int (nI bl), .int (nI ta), .int (nI tl), .int (nI tk), .int vv, .ref an, .ref va])), (mby, .inl (y 0, 150, .inl fmb)), (va, .inl (y 0, 2, .inl (upd fva 0 vv)))] [(mo, .inr (11, [.ref to, .ref ke, .ref ik, .ref mrf, .long mab, .long mbl, .ref ha, .ref r0, .ref mbr, .ref mbp, .ref mby, .int (nI bl), .int (nI ta), .int (nI tl), .int (nI tk), .int vv, .ref an, .ref va])), (mby, .inl (y 0, 150, .inl fmb))] [(va, .inl (y 0, 2, .inl (upd fva 0 vv)))] [0, 1] [2] := ⟨rfl, rfl, rfl, rfl, rfl, by decide⟩
      refine kw_go_v hs6 hP hD hS hA (va_runV (As := []) (rest := []) ⟨hx, hb, hml, hown, hts⟩ (gr_goBehind l D y mo to ke ik mrf ha r0 mbr mbp mby an va mab mbl bl ta tl tk vv fmb hbl hT1 hT2 hT3 _) (cwV 0 hts gX11_takes_X11_goBehind rfl rfl rfl (by decide +kernel) ⟨Nat.le_of_ble_eq_true rfl, Nat.le_of_ble_eq_true rfl⟩) (kw_PreV (ci := 11) (q0 := 0) hs6 hP hD hK hN rfl rfl) rfl rfl hl.1 rfl (lv_room (Nat.le_of_ble_eq_true rfl)) dX11_takes_36 ⟨Nat.le_of_ble_eq_true rfl, Nat.le_of_ble_eq_true rfl⟩) (fun u8 H locs hq hP hD hS => ?_)
      obtain ⟨v9, v10, v11, v12⟩ := u8
      try dsimp only at hq
      obtain ⟨h13, h14, h15, h16, h17, h18⟩ := hq
      have hP : va_P D vwCl [(va, .inl (y 0, 2, .inl (upd fva 0 vv))), (mo, .inr (11, [.ref to, .ref ke, .ref ik, .ref mrf, .long mab, .long mbl, .ref ha, .ref r0, .ref mbr, .ref mbp, .ref mby, .int (nI bl), .int (nI v9), .int (nI v10), .int (nI v11), .int v12, .ref an, .ref va])), (mby, .inl (y 0, 150, .inl fmb))] H := hP
      have hD : va_D A [(va, .inl (y 0, 2, .inl (upd fva 0 vv))), (mo, .inr (11, [.ref to, .ref ke, .ref ik, .ref mrf, .long mab, .long mbl, .ref ha, .ref r0, .ref mbr, .ref mbp, .ref mby, .int (nI bl), .int (nI v9), .int (nI v10), .int (nI v11), .int v12, .ref an, .ref va])), (mby, .inl (y 0, 150, .inl fmb))] := hD
      refine lv_iconst (v := 1) hx hb dX11_takes_39 (by decide) ?_
      exact W.zret (v := 1) hx hb hr (by decide) (fun tZ ht hW => ⟨⟨1, (v9, v10, v11, v12, (upd fva 0 vv)), rfl, ⟨by first | omega | (dsimp only; omega), by first | omega | (dsimp only; omega), by first | omega | (dsimp only; omega), Or.inr rfl, by first | omega | (dsimp only; omega), by first | omega | (dsimp only; omega), by first | omega | (dsimp only; omega)⟩, by rw [ht]; exact hP.sub [1, 2, 0] rfl, hD.sub [1, 2, 0] (by decide) rfl⟩, hS.F ht⟩) hS.2.2 dX11_takes_40
    · skip
      have hP : va_P D vwCl [(mo, .inr (11, [.ref to, .ref ke, .ref ik, .ref mrf, .long mab, .long mbl, .ref ha, .ref r0, .ref mbr, .ref mbp, .ref mby, .int (nI bl), .int (nI ta), .int (nI tl), .int (nI tk), .int vv, .ref an, .ref va])), (mby, .inl (y 0, 150, .inl fmb)), (va, .inl (y 0, 2, .inl fva))] H := hP
      have hD : va_D A [(mo, .inr (11, [.ref to, .ref ke, .ref ik, .ref mrf, .long mab, .long mbl, .ref ha, .ref r0, .ref mbr, .ref mbp, .ref mby, .int (nI bl), .int (nI ta), .int (nI tl), .int (nI tk), .int vv, .ref an, .ref va])), (mby, .inl (y 0, 150, .inl fmb)), (va, .inl (y 0, 2, .inl fva))] := hD
      refine lv_if_ne (tgt := 25) hx hb dX11_takes_20 (by decide) (fun h9 => absurd h9 (by decide)) (fun _ => ?_)
      refine lv_iconst (v := 0) hx hb dX11_takes_23 (by decide) ?_
      exact W.zret (v := 0) hx hb hr (by decide) (fun tZ ht hW => ⟨⟨0, (ta, tl, tk, vv, fva), rfl, ⟨by first | omega | (dsimp only; omega), by first | omega | (dsimp only; omega), by first | omega | (dsimp only; omega), Or.inl rfl, by first | omega | (dsimp only; omega), by first | omega | (dsimp only; omega), by first | omega | (dsimp only; omega)⟩, by rw [ht]; exact hP.sub [0, 1, 2] rfl, hD.sub [0, 1, 2] (by decide) rfl⟩, hS.F ht⟩) hS.2.2 dX11_takes_24

set_option maxHeartbeats 4000000 in
set_option maxRecDepth 100000 in
theorem gr_takesF (l : Launch) (D : va_G) (y : Nat → ClassId) (mo : Nat) (to : Nat) (ke : Nat) (ik : Nat) (mrf : Nat) (ha : Nat) (r0 : Nat) (mbr : Nat) (mbp : Nat) (mby : Nat) (an : Nat) (va : Nat) (mab : Int64) (mbl : Int64) (bl : Nat) (ta : Nat) (tl : Nat) (tk : Nat) (vv : Int32) (fmb : Nat → Int32) (fva : Nat → Int32) (n : Nat) (hbl : bl ≤ 150) (hT1 : ta + tl ≤ bl) (hT2 : (tk = 0 ∨ 1 ≤ tl)) (hT3 : tk ≤ 4) (hA1 : n < 1000) : kw_Mi l yX11_takes wsX11_takes ({ frames := 5, cells := 0, slots := 0, locals := 149 }) D y [.ref mo, .int 0, .int 0, .int ((nI n) - 1)] [(mo, .inr (11, [.ref to, .ref ke, .ref ik, .ref mrf, .long mab, .long mbl, .ref ha, .ref r0, .ref mbr, .ref mbp, .ref mby, .int (nI bl), .int (nI ta), .int (nI tl), .int (nI tk), .int vv, .ref an, .ref va])), (mby, .inl (y 0, 150, .inl fmb)), (va, .inl (y 0, 2, .inl fva))] (fun (r : Int32) (u : Nat × Nat × Nat × Int32 × (Nat → Int32)) => u.1 ≤ bl ∧ u.2.1 ≤ 150 ∧ u.2.2.1 ≤ 4 ∧ (r = 0 ∨ r = 1) ∧ ta ≤ u.1 ∧ u.1 + u.2.1 ≤ bl ∧ (u.2.2.1 = 0 ∨ 1 ≤ u.2.1) ∧ (r = 1 → kr_vz u.2.2.2.2 n)) (fun u => [(mo, .inr (11, [.ref to, .ref ke, .ref ik, .ref mrf, .long mab, .long mbl, .ref ha, .ref r0, .ref mbr, .ref mbp, .ref mby, .int (nI bl), .int (nI u.1), .int (nI u.2.1), .int (nI u.2.2.1), .int u.2.2.2.1, .ref an, .ref va])), (mby, .inl (y 0, 150, .inl fmb)), (va, .inl (y 0, 2, .inl u.2.2.2.2))]) 0 0 := by
  refine kw_Mi.of (cc := cX11_takes) (maxL := 4) (ret := (some .boolean)) (by decide) rfl ?_
  intro pZ eZ s mZ beZ meZ cZ A hE
  obtain ⟨hx, hb, hr, hml, hts, hown, hlocks, hin, hA, hP, hD, hK, hN⟩ := hE
  have hS : va_S A s.heap s.heap [] := va_S.rf
  have hl := lv_entry ([.ref mo, .int 0, .int 0, .int ((nI n) - 1)]) (n := 4) (Nat.le_of_ble_eq_true rfl)
  rw [lg_entry_eq]
  generalize (lg_sl ([.ref mo, .int 0, .int 0, .int ((nI n) - 1)]) ++ List.replicate (4 - (lg_sl ([.ref mo, .int 0, .int 0, .int ((nI n) - 1)])).length) Slot.unset).toArray = ls at hl ⊢
  have hl : lv_has ls 4 [(0, .ref mo), (1, .int 0), (2, .int 0), (3, .int ((nI n) - 1))] := hl
  have fw1 := hts (.fieldLink RX11 228 "GleanDuskModel" "token" "I") (List.mem_of_getElem? (i := 1) rfl)
  have fw2 := hts (.fieldLink RX11 231 "GleanDuskModel" "value" "I") (List.mem_of_getElem? (i := 2) rfl)
  have fw3 := hts (.fieldLink RX11 45 "GleanDuskModel" "values" "[I") (List.mem_of_getElem? (i := 3) rfl)
  have iw11 : ∀ w ∈ wsX110, w ∈ wsX11_takes := fun _ h => List.mem_cons_of_mem _ (List.mem_append_right _ h)
  refine lv_aload_n hx hb dX11_takes_0 rfl (lv_at hl 0 rfl) ?_
  refine va_get (D := D) (ci := 11) (v := .int (nI tk)) (C := RX11) (T := TX11) (N := 18) hx hb hts iw11 hown hK hP 0 rfl rfl 14 (by decide) fw1 (fun _ h9 => h9) rfl dX11_takes_1 ?_
  refine lv_iconst (v := 2) hx hb dX11_takes_4 (by decide) ?_
  refine lv_icmp_ne (tgt := 23) hx hb dX11_takes_5 (by decide) (fun h1 => ?_) (fun h2 => ?_)
  · skip
    have h1 : ¬ tk = 2 := fun q9 => h1 ((nI_eq (a := tk) (b := 2) (by omega) (by omega)).mpr q9)
    refine lv_iconst (v := 0) hx hb dX11_takes_23 (by decide) ?_
    exact W.zret (v := 0) hx hb hr (by decide) (fun tZ ht hW => ⟨⟨0, (ta, tl, tk, vv, fva), rfl, ⟨by first | omega | (dsimp only; omega), by first | omega | (dsimp only; omega), by first | omega | (dsimp only; omega), Or.inl rfl, by first | omega | (dsimp only; omega), by first | omega | (dsimp only; omega), by first | omega | (dsimp only; omega), (fun h9 => absurd h9 (by decide))⟩, by rw [ht]; exact hP.sub [0, 1, 2] rfl, hD.sub [0, 1, 2] (by decide) rfl⟩, hS.F ht⟩) hS.2.2 dX11_takes_24
  · skip
    have h2 : tk = 2 := (nI_eq (a := tk) (b := 2) (by omega) (by omega)).mp h2
    refine lv_aload_n hx hb dX11_takes_8 rfl (lv_at hl 0 rfl) ?_
    refine va_get (D := D) (ci := 11) (v := .int vv) (C := RX11) (T := TX11) (N := 18) hx hb hts iw11 hown hK hP 0 rfl rfl 15 (by decide) fw2 (fun _ h9 => h9) rfl dX11_takes_9 ?_
    refine lv_i2l (v := vv.toInt64) hx hb dX11_takes_12 (rfl) ?_
    refine lv_iload_n hx hb dX11_takes_13 rfl (lv_at hl 2 rfl) ?_
    refine lv_i2l (v := 0) hx hb dX11_takes_14 (by decide) ?_
    refine lv_iload_n hx hb dX11_takes_15 rfl (lv_at hl 3 rfl) ?_
    refine lv_i2l (v := ((nI n) - 1).toInt64) hx hb dX11_takes_16 (rfl) ?_
    have hs3 : kw_Split [(mo, .inr (11, [.ref to, .ref ke, .ref ik, .ref mrf, .long mab, .long mbl, .ref ha, .ref r0, .ref mbr, .ref mbp, .ref mby, .int (nI bl), .int (nI ta), .int (nI tl), .int (nI tk), .int vv, .ref an, .ref va])), (mby, .inl (y 0, 150, .inl fmb)), (va, .inl (y 0, 2, .inl fva))] [] [(mo, .inr (11, [.ref to, .ref ke, .ref ik, .ref mrf, .long mab, .long mbl, .ref ha, .ref r0, .ref mbr, .ref mbp, .ref mby, .int (nI bl), .int (nI ta), .int (nI tl), .int (nI tk), .int vv, .ref an, .ref va])), (mby, .inl (y 0, 150, .inl fmb)), (va, .inl (y 0, 2, .inl fva))] [] [0, 1, 2] := ⟨rfl, rfl, rfl, rfl, rfl, by decide⟩
    refine kw_go_i hs3 hP hD hS hA (va_runS (As := [.long vv.toInt64, .long 0, .long (((nI n) - 1).toInt64)]) (rest := []) ⟨hx, hb, hml, hown, hts⟩ (gr_inF l D y vv n hA1 _) (va_cwS 3 hts gX11_takes_X11_in rfl rfl rfl (by decide +kernel) ⟨Nat.le_of_ble_eq_true rfl, Nat.le_of_ble_eq_true rfl⟩) (kw_PreS hs3 hP hD hK hN) rfl rfl hl.1 rfl (lv_room (Nat.le_of_ble_eq_true rfl)) dX11_takes_17 ⟨Nat.le_of_ble_eq_true rfl, Nat.le_of_ble_eq_true rfl⟩) (fun r4 u5 H locs hq hP hD hS => ?_)
    rcases hq with ⟨j6, h7, rfl, rfl⟩ | ⟨h8, rfl⟩
    · skip
      have hP : va_P D vwCl [(mo, .inr (11, [.ref to, .ref ke, .ref ik, .ref mrf, .long mab, .long mbl, .ref ha, .ref r0, .ref mbr, .ref mbp, .ref mby, .int (nI bl), .int (nI ta), .int (nI tl), .int (nI tk), .int (nI j6), .ref an, .ref va])), (mby, .inl (y 0, 150, .inl fmb)), (va, .inl (y 0, 2, .inl fva))] H := hP
      have hD : va_D A [(mo, .inr (11, [.ref to, .ref ke, .ref ik, .ref mrf, .long mab, .long mbl, .ref ha, .ref r0, .ref mbr, .ref mbp, .ref mby, .int (nI bl), .int (nI ta), .int (nI tl), .int (nI tk), .int (nI j6), .ref an, .ref va])), (mby, .inl (y 0, 150, .inl fmb)), (va, .inl (y 0, 2, .inl fva))] := hD
      refine lv_if_ne (tgt := 25) hx hb dX11_takes_20 (by decide) (fun _ => ?_) (fun h9 => absurd h9 (by decide))
      refine lv_aload_n hx hb dX11_takes_25 rfl (lv_at hl 0 rfl) ?_
      refine va_get (D := D) (ci := 11) (v := .ref va) (C := RX11) (T := TX11) (N := 18) hx hb hts iw11 hown hK hP 0 rfl rfl 17 (by decide) fw3 (fun _ h9 => h9) rfl dX11_takes_26 ?_
      refine lv_iload_n hx hb dX11_takes_29 rfl (lv_at hl 1 rfl) ?_
      refine lv_aload_n hx hb dX11_takes_30 rfl (lv_at hl 0 rfl) ?_
      refine va_get (D := D) (ci := 11) (v := .int (nI j6)) (C := RX11) (T := TX11) (N := 18) hx hb hts iw11 hown hK hP 0 rfl rfl 15 (by decide) fw2 (fun _ h9 => h9) rfl dX11_takes_31 ?_
      refine va_iast hx hb hK hP hD hS 2 0 rfl rfl (by unfold vp_in; decide) dX11_takes_34 (fun H locs hP hD hS => ?_)
      rw [show ((0 : Int32)).toNatClampNeg = 0 from rfl] at hP hD
      have hP : va_P D vwCl [(mo, .inr (11, [.ref to, .ref ke, .ref ik, .ref mrf, .long mab, .long mbl, .ref ha, .ref r0, .ref mbr, .ref mbp, .ref mby, .int (nI bl), .int (nI ta), .int (nI tl), .int (nI tk), .int (nI j6), .ref an, .ref va])), (mby, .inl (y 0, 150, .inl fmb)), (va, .inl (y 0, 2, .inl (upd fva 0 (nI j6))))] H := hP
      have hD : va_D A [(mo, .inr (11, [.ref to, .ref ke, .ref ik, .ref mrf, .long mab, .long mbl, .ref ha, .ref r0, .ref mbr, .ref mbp, .ref mby, .int (nI bl), .int (nI ta), .int (nI tl), .int (nI tk), .int (nI j6), .ref an, .ref va])), (mby, .inl (y 0, 150, .inl fmb)), (va, .inl (y 0, 2, .inl (upd fva 0 (nI j6))))] := hD
      refine lv_aload_n hx hb dX11_takes_35 rfl (lv_at hl 0 rfl) ?_
      have hs9 : kw_Split [(mo, .inr (11, [.ref to, .ref ke, .ref ik, .ref mrf, .long mab, .long mbl, .ref ha, .ref r0, .ref mbr, .ref mbp, .ref mby, .int (nI bl), .int (nI ta), .int (nI tl), .int (nI tk), .int (nI j6), .ref an, .ref va])), (mby, .inl (y 0, 150, .inl fmb)), (va, .inl (y 0, 2, .inl (upd fva 0 (nI j6))))] [(mo, .inr (11, [.ref to, .ref ke, .ref ik, .ref mrf, .long mab, .long mbl, .ref ha, .ref r0, .ref mbr, .ref mbp, .ref mby, .int (nI bl), .int (nI ta), .int (nI tl), .int (nI tk), .int (nI j6), .ref an, .ref va])), (mby, .inl (y 0, 150, .inl fmb))] [(va, .inl (y 0, 2, .inl (upd fva 0 (nI j6))))] [0, 1] [2] := ⟨rfl, rfl, rfl, rfl, rfl, by decide⟩
      refine kw_go_v hs9 hP hD hS hA (va_runV (As := []) (rest := []) ⟨hx, hb, hml, hown, hts⟩ (gr_goBehind l D y mo to ke ik mrf ha r0 mbr mbp mby an va mab mbl bl ta tl tk (nI j6) fmb hbl hT1 hT2 hT3 _) (cwV 0 hts gX11_takes_X11_goBehind rfl rfl rfl (by decide +kernel) ⟨Nat.le_of_ble_eq_true rfl, Nat.le_of_ble_eq_true rfl⟩) (kw_PreV (ci := 11) (q0 := 0) hs9 hP hD hK hN rfl rfl) rfl rfl hl.1 rfl (lv_room (Nat.le_of_ble_eq_true rfl)) dX11_takes_36 ⟨Nat.le_of_ble_eq_true rfl, Nat.le_of_ble_eq_true rfl⟩) (fun u11 H locs hq hP hD hS => ?_)
      obtain ⟨v12, v13, v14, v15⟩ := u11
      try dsimp only at hq
      obtain ⟨h16, h17, h18, h19, h20, h21⟩ := hq
      have hP : va_P D vwCl [(va, .inl (y 0, 2, .inl (upd fva 0 (nI j6)))), (mo, .inr (11, [.ref to, .ref ke, .ref ik, .ref mrf, .long mab, .long mbl, .ref ha, .ref r0, .ref mbr, .ref mbp, .ref mby, .int (nI bl), .int (nI v12), .int (nI v13), .int (nI v14), .int v15, .ref an, .ref va])), (mby, .inl (y 0, 150, .inl fmb))] H := hP
      have hD : va_D A [(va, .inl (y 0, 2, .inl (upd fva 0 (nI j6)))), (mo, .inr (11, [.ref to, .ref ke, .ref ik, .ref mrf, .long mab, .long mbl, .ref ha, .ref r0, .ref mbr, .ref mbp, .ref mby, .int (nI bl), .int (nI v12), .int (nI v13), .int (nI v14), .int v15, .ref an, .ref va])), (mby, .inl (y 0, 150, .inl fmb))] := hD
      refine lv_iconst (v := 1) hx hb dX11_takes_39 (by decide) ?_
      exact W.zret (v := 1) hx hb hr (by decide) (fun tZ ht hW => ⟨⟨1, (v12, v13, v14, v15, (upd fva 0 (nI j6))), rfl, ⟨by first | omega | (dsimp only; omega), by first | omega | (dsimp only; omega), by first | omega | (dsimp only; omega), Or.inr rfl, by first | omega | (dsimp only; omega), by first | omega | (dsimp only; omega), by first | omega | (dsimp only; omega), (fun _ => (show kr_vz (upd fva 0 (nI j6)) n from kr_vz.mk j6 (by omega) pk_us))⟩, by rw [ht]; exact hP.sub [1, 2, 0] rfl, hD.sub [1, 2, 0] (by decide) rfl⟩, hS.F ht⟩) hS.2.2 dX11_takes_40
    · skip
      have hP : va_P D vwCl [(mo, .inr (11, [.ref to, .ref ke, .ref ik, .ref mrf, .long mab, .long mbl, .ref ha, .ref r0, .ref mbr, .ref mbp, .ref mby, .int (nI bl), .int (nI ta), .int (nI tl), .int (nI tk), .int vv, .ref an, .ref va])), (mby, .inl (y 0, 150, .inl fmb)), (va, .inl (y 0, 2, .inl fva))] H := hP
      have hD : va_D A [(mo, .inr (11, [.ref to, .ref ke, .ref ik, .ref mrf, .long mab, .long mbl, .ref ha, .ref r0, .ref mbr, .ref mbp, .ref mby, .int (nI bl), .int (nI ta), .int (nI tl), .int (nI tk), .int vv, .ref an, .ref va])), (mby, .inl (y 0, 150, .inl fmb)), (va, .inl (y 0, 2, .inl fva))] := hD
      refine lv_if_ne (tgt := 25) hx hb dX11_takes_20 (by decide) (fun h9 => absurd h9 (by decide)) (fun _ => ?_)
      refine lv_iconst (v := 0) hx hb dX11_takes_23 (by decide) ?_
      exact W.zret (v := 0) hx hb hr (by decide) (fun tZ ht hW => ⟨⟨0, (ta, tl, tk, vv, fva), rfl, ⟨by first | omega | (dsimp only; omega), by first | omega | (dsimp only; omega), by first | omega | (dsimp only; omega), Or.inl rfl, by first | omega | (dsimp only; omega), by first | omega | (dsimp only; omega), by first | omega | (dsimp only; omega), (fun h9 => absurd h9 (by decide))⟩, by rw [ht]; exact hP.sub [0, 1, 2] rfl, hD.sub [0, 1, 2] (by decide) rfl⟩, hS.F ht⟩) hS.2.2 dX11_takes_24
