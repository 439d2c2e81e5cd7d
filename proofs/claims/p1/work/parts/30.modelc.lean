set_option maxHeartbeats 4000000 in
set_option maxRecDepth 100000 in
theorem cw_layField (l : Launch) (D : va_G) (y : Nat → ClassId) (to : Nat) (x : Int32) (x2 : Int32) : kw_Mv l yX11_layField wsX11_layField ({ frames := 1, cells := 0, slots := 0, locals := 40 }) D y [.ref to, .int x, .int x2] [(to, .inl (y 0, 228, .inl (fun _ => 0)))] (fun (u : Unit) => True) (fun _ => [(to, .inl (y 0, 228, .inl (upd (upd (upd (fun _ => 0) (24 : Int32).toNatClampNeg x) (5 : Int32).toNatClampNeg x2) (0 : Int32).toNatClampNeg 1)))]) 0 0 := by
  refine kw_Mv.of (cc := cX11_layField) (maxL := 3) (ret := none) (by decide) rfl ?_
  intro pZ eZ s mZ beZ meZ cZ A hE
  obtain ⟨hx, hb, hr, hml, hts, hown, hlocks, hin, hA, hP, hD, hK, hN⟩ := hE
  have hS : va_S A s.heap s.heap [] := va_S.rf
  have hl := lv_entry ([.ref to, .int x, .int x2]) (n := 3) (Nat.le_of_ble_eq_true rfl)
  rw [lg_entry_eq]
  generalize (lg_sl ([.ref to, .int x, .int x2]) ++ List.replicate (3 - (lg_sl ([.ref to, .int x, .int x2])).length) Slot.unset).toArray = ls at hl ⊢
  have hl : lv_has ls 3 [(0, .ref to), (1, .int x), (2, .int x2)] := hl
  refine lv_aload_n hx hb dX11_layField_0 rfl (lv_at hl 0 rfl) ?_
  refine lv_bipush (v := 24) hx hb dX11_layField_1 (by decide) ?_
  refine lv_aload_n hx hb dX11_layField_3 rfl (lv_at hl 0 rfl) ?_
  refine lv_iconst (v := 0) hx hb dX11_layField_4 (by decide) ?_
  refine va_iald hx hb hK hP 0 0 rfl rfl (by unfold vp_in; decide) dX11_layField_5 ?_
  refine lv_topi (fun z1 hz1 => ?_)
  obtain rfl : z1 = 0 := hz1.trans (by first | rfl | decide | assumption | (simp [upd]; done) | (unfold upd; rw [if_neg (by decide)]; assumption) | (simp [upd, *]; done))
  refine lv_iadd hx hb dX11_layField_6 ?_
  refine lv_topi (fun z2 hz2 => ?_)
  obtain rfl : z2 = 24 := hz2.trans (by first | rfl | decide | (simp [upd]; done))
  refine lv_iload_n hx hb dX11_layField_7 rfl (lv_at hl 1 rfl) ?_
  refine va_iast hx hb hK hP hD hS 0 0 rfl rfl (by unfold vp_in; decide) dX11_layField_8 (fun H locs hP hD hS => ?_)
  have hP : va_P D vwCl [(to, .inl (y 0, 228, .inl (upd (fun _ => 0) (24 : Int32).toNatClampNeg x)))] H := hP
  have hD : va_D A [(to, .inl (y 0, 228, .inl (upd (fun _ => 0) (24 : Int32).toNatClampNeg x)))] := hD
  refine lv_aload_n hx hb dX11_layField_9 rfl (lv_at hl 0 rfl) ?_
  refine lv_iconst (v := 5) hx hb dX11_layField_10 (by decide) ?_
  refine lv_aload_n hx hb dX11_layField_11 rfl (lv_at hl 0 rfl) ?_
  refine lv_iconst (v := 0) hx hb dX11_layField_12 (by decide) ?_
  refine va_iald hx hb hK hP 0 0 rfl rfl (by unfold vp_in; decide) dX11_layField_13 ?_
  refine lv_topi (fun z3 hz3 => ?_)
  obtain rfl : z3 = 0 := hz3.trans (by first | rfl | decide | assumption | (simp [upd]; done) | (unfold upd; rw [if_neg (by decide)]; assumption) | (simp [upd, *]; done))
  refine lv_iadd hx hb dX11_layField_14 ?_
  refine lv_topi (fun z4 hz4 => ?_)
  obtain rfl : z4 = 5 := hz4.trans (by first | rfl | decide | (simp [upd]; done))
  refine lv_iload_n hx hb dX11_layField_15 rfl (lv_at hl 2 rfl) ?_
  refine va_iast hx hb hK hP hD hS 0 0 rfl rfl (by unfold vp_in; decide) dX11_layField_16 (fun H locs hP hD hS => ?_)
  have hP : va_P D vwCl [(to, .inl (y 0, 228, .inl (upd (upd (fun _ => 0) (24 : Int32).toNatClampNeg x) (5 : Int32).toNatClampNeg x2)))] H := hP
  have hD : va_D A [(to, .inl (y 0, 228, .inl (upd (upd (fun _ => 0) (24 : Int32).toNatClampNeg x) (5 : Int32).toNatClampNeg x2)))] := hD
  refine lv_aload_n hx hb dX11_layField_17 rfl (lv_at hl 0 rfl) ?_
  refine lv_iconst (v := 0) hx hb dX11_layField_18 (by decide) ?_
  refine lv_dup2_11 hx hb dX11_layField_19 rfl rfl ?_
  refine va_iald hx hb hK hP 0 0 rfl rfl (by unfold vp_in; decide) dX11_layField_20 ?_
  refine lv_topi (fun z5 hz5 => ?_)
  obtain rfl : z5 = 0 := hz5.trans (by first | rfl | decide | assumption | (simp [upd]; done) | (unfold upd; rw [if_neg (by decide)]; assumption) | (simp [upd, *]; done))
  refine lv_iconst (v := 1) hx hb dX11_layField_21 (by decide) ?_
  refine lv_iadd hx hb dX11_layField_22 ?_
  refine lv_topi (fun z6 hz6 => ?_)
  obtain rfl : z6 = 1 := hz6.trans (by first | rfl | decide | (simp [upd]; done))
  refine va_iast hx hb hK hP hD hS 0 0 rfl rfl (by unfold vp_in; decide) dX11_layField_23 (fun H locs hP hD hS => ?_)
  have hP : va_P D vwCl [(to, .inl (y 0, 228, .inl (upd (upd (upd (fun _ => 0) (24 : Int32).toNatClampNeg x) (5 : Int32).toNatClampNeg x2) (0 : Int32).toNatClampNeg 1)))] H := hP
  have hD : va_D A [(to, .inl (y 0, 228, .inl (upd (upd (upd (fun _ => 0) (24 : Int32).toNatClampNeg x) (5 : Int32).toNatClampNeg x2) (0 : Int32).toNatClampNeg 1)))] := hD
  exact W.vret hx hb hr (fun tZ ht hW => ⟨⟨(), rfl, trivial, by rw [ht]; exact hP.sub [0] rfl, hD.sub [0] (by decide) rfl⟩, hS.F ht⟩) hS.2.2 dX11_layField_24

set_option maxHeartbeats 4000000 in
set_option maxRecDepth 100000 in
theorem cw_layHand (l : Launch) (D : va_G) (y : Nat → ClassId) (mo : Nat) (to : Nat) (ke : Nat) (ik : Nat) (rf : Nat) (ha : Nat) (r0 : Nat) (br : Nat) (bp : Nat) (bys : Nat) (an : Nat) (va : Nat) : kw_Mv l yX11_layHand wsX11_layHand ({ frames := 1, cells := 0, slots := 0, locals := 40 }) D y [.ref mo] [(mo, .inr (11, [.ref to, .ref ke, .ref ik, .ref rf, .long 0, .long 1, .ref ha, .ref r0, .ref br, .ref bp, .ref bys, .int 0, .int 0, .int 0, .int 0, .int 0, .ref an, .ref va])), (to, .inl (y 0, 228, .inl (fun _ => 0))), (ha, .inl (y 0, 30, .inl (fun _ => 0)))] (fun (u : Unit) => True) (fun _ => [(mo, .inr (11, [.ref to, .ref ke, .ref ik, .ref rf, .long 0, .long 1, .ref ha, .ref r0, .ref br, .ref bp, .ref bys, .int 0, .int 0, .int 0, .int 0, .int 0, .ref an, .ref va])), (to, .inl (y 0, 228, .inl (fun _ => 0))), (ha, .inl (y 0, 30, .inl (fun _ => 0)))]) 0 0 := by
  refine kw_Mv.of (cc := cX11_layHand) (maxL := 2) (ret := none) (by decide) rfl ?_
  intro pZ eZ s mZ beZ meZ cZ A hE
  obtain ⟨hx, hb, hr, hml, hts, hown, hlocks, hin, hA, hP, hD, hK, hN⟩ := hE
  have hS : va_S A s.heap s.heap [] := va_S.rf
  have hl := lv_entry ([.ref mo]) (n := 2) (Nat.le_of_ble_eq_true rfl)
  rw [lg_entry_eq]
  generalize (lg_sl ([.ref mo]) ++ List.replicate (2 - (lg_sl ([.ref mo])).length) Slot.unset).toArray = ls at hl ⊢
  have hl : lv_has ls 2 [(0, .ref mo)] := hl
  have fw1 := hts (.fieldLink RX11 27 "GleanDuskModel" "hand" "[I") (List.mem_of_getElem? (i := 1) rfl)
  have fw2 := hts (.fieldLink RX11 7 "GleanDuskModel" "told" "[I") (List.mem_of_getElem? (i := 2) rfl)
  have i11 : ∀ w ∈ wsX110, w ∈ wsX11_layHand := fun _ h => List.mem_cons_of_mem _ (List.mem_append_right _ h)
  refine lv_iconst (v := 0) hx hb dX11_layHand_0 (by decide) ?_
  refine lv_istore_n (lv' := [(1, .int 0), (0, .ref mo)]) hx hb dX11_layHand_1 rfl hl (by decide) rfl (fun ls hl => ?_)
  refine lv_iload_n hx hb dX11_layHand_2 rfl (lv_at hl 0 rfl) ?_
  refine lv_bipush (v := 30) hx hb dX11_layHand_3 (by decide) ?_
  refine lv_icmp_ge (tgt := 26) hx hb dX11_layHand_5 (by decide) (fun h9 => absurd h9 (by decide)) (fun _ => ?_)
  refine lv_aload_n hx hb dX11_layHand_8 rfl (lv_at hl 1 rfl) ?_
  refine va_get (D := D) (ci := 11) (v := .ref ha) (C := RX11) (T := TX11) (N := 18) hx hb hts i11 hown hK hP 0 rfl rfl 6 (by decide) fw1 (fun _ h9 => h9) rfl dX11_layHand_9 ?_
  refine lv_iload_n hx hb dX11_layHand_12 rfl (lv_at hl 0 rfl) ?_
  refine lv_aload_n hx hb dX11_layHand_13 rfl (lv_at hl 1 rfl) ?_
  refine va_get (D := D) (ci := 11) (v := .ref to) (C := RX11) (T := TX11) (N := 18) hx hb hts i11 hown hK hP 0 rfl rfl 0 (by decide) fw2 (fun _ h9 => h9) rfl dX11_layHand_14 ?_
  refine lv_iload_n hx hb dX11_layHand_17 rfl (lv_at hl 0 rfl) ?_
  refine va_iald hx hb hK hP 1 0 rfl rfl (by unfold vp_in; decide) dX11_layHand_18 ?_
  refine lv_topi (fun z1 hz1 => ?_)
  obtain rfl : z1 = 0 := hz1.trans (by first | rfl | decide | assumption | (simp [upd]; done) | (unfold upd; rw [if_neg (by decide)]; assumption) | (simp [upd, *]; done))
  refine va_iast hx hb hK hP hD hS 2 0 rfl rfl (by unfold vp_in; decide) dX11_layHand_19 (fun H locs hP hD hS => ?_)
  rw [kw_upd0] at hP hD
  have hP : va_P D vwCl [(mo, .inr (11, [.ref to, .ref ke, .ref ik, .ref rf, .long 0, .long 1, .ref ha, .ref r0, .ref br, .ref bp, .ref bys, .int 0, .int 0, .int 0, .int 0, .int 0, .ref an, .ref va])), (to, .inl (y 0, 228, .inl (fun _ => 0))), (ha, .inl (y 0, 30, .inl (fun _ => 0)))] H := hP
  have hD : va_D A [(mo, .inr (11, [.ref to, .ref ke, .ref ik, .ref rf, .long 0, .long 1, .ref ha, .ref r0, .ref br, .ref bp, .ref bys, .int 0, .int 0, .int 0, .int 0, .int 0, .ref an, .ref va])), (to, .inl (y 0, 228, .inl (fun _ => 0))), (ha, .inl (y 0, 30, .inl (fun _ => 0)))] := hD
  refine lv_iinc (v := 1) (lv' := [(1, .int 1), (0, .ref mo)]) hx hb dX11_layHand_20 hl (k := 0) rfl (by decide) (by decide) rfl (fun ls hl => ?_)
  refine lv_goto (tgt := 2) hx hb dX11_layHand_23 (by decide) ?_
  refine lv_iload_n hx hb dX11_layHand_2 rfl (lv_at hl 0 rfl) ?_
  refine lv_bipush (v := 30) hx hb dX11_layHand_3 (by decide) ?_
  refine lv_icmp_ge (tgt := 26) hx hb dX11_layHand_5 (by decide) (fun h9 => absurd h9 (by decide)) (fun _ => ?_)
  refine lv_aload_n hx hb dX11_layHand_8 rfl (lv_at hl 1 rfl) ?_
  refine va_get (D := D) (ci := 11) (v := .ref ha) (C := RX11) (T := TX11) (N := 18) hx hb hts i11 hown hK hP 0 rfl rfl 6 (by decide) fw1 (fun _ h9 => h9) rfl dX11_layHand_9 ?_
  refine lv_iload_n hx hb dX11_layHand_12 rfl (lv_at hl 0 rfl) ?_
  refine lv_aload_n hx hb dX11_layHand_13 rfl (lv_at hl 1 rfl) ?_
  refine va_get (D := D) (ci := 11) (v := .ref to) (C := RX11) (T := TX11) (N := 18) hx hb hts i11 hown hK hP 0 rfl rfl 0 (by decide) fw2 (fun _ h9 => h9) rfl dX11_layHand_14 ?_
  refine lv_iload_n hx hb dX11_layHand_17 rfl (lv_at hl 0 rfl) ?_
  refine va_iald hx hb hK hP 1 0 rfl rfl (by unfold vp_in; decide) dX11_layHand_18 ?_
  refine lv_topi (fun z2 hz2 => ?_)
  obtain rfl : z2 = 0 := hz2.trans (by first | rfl | decide | assumption | (simp [upd]; done) | (unfold upd; rw [if_neg (by decide)]; assumption) | (simp [upd, *]; done))
  refine va_iast hx hb hK hP hD hS 2 0 rfl rfl (by unfold vp_in; decide) dX11_layHand_19 (fun H locs hP hD hS => ?_)
  rw [kw_upd0] at hP hD
  have hP : va_P D vwCl [(mo, .inr (11, [.ref to, .ref ke, .ref ik, .ref rf, .long 0, .long 1, .ref ha, .ref r0, .ref br, .ref bp, .ref bys, .int 0, .int 0, .int 0, .int 0, .int 0, .ref an, .ref va])), (to, .inl (y 0, 228, .inl (fun _ => 0))), (ha, .inl (y 0, 30, .inl (fun _ => 0)))] H := hP
  have hD : va_D A [(mo, .inr (11, [.ref to, .ref ke, .ref ik, .ref rf, .long 0, .long 1, .ref ha, .ref r0, .ref br, .ref bp, .ref bys, .int 0, .int 0, .int 0, .int 0, .int 0, .ref an, .ref va])), (to, .inl (y 0, 228, .inl (fun _ => 0))), (ha, .inl (y 0, 30, .inl (fun _ => 0)))] := hD
  refine lv_iinc (v := 2) (lv' := [(1, .int 2), (0, .ref mo)]) hx hb dX11_layHand_20 hl (k := 0) rfl (by decide) (by decide) rfl (fun ls hl => ?_)
  refine lv_goto (tgt := 2) hx hb dX11_layHand_23 (by decide) ?_
  refine lv_iload_n hx hb dX11_layHand_2 rfl (lv_at hl 0 rfl) ?_
  refine lv_bipush (v := 30) hx hb dX11_layHand_3 (by decide) ?_
  refine lv_icmp_ge (tgt := 26) hx hb dX11_layHand_5 (by decide) (fun h9 => absurd h9 (by decide)) (fun _ => ?_)
  refine lv_aload_n hx hb dX11_layHand_8 rfl (lv_at hl 1 rfl) ?_
  refine va_get (D := D) (ci := 11) (v := .ref ha) (C := RX11) (T := TX11) (N := 18) hx hb hts i11 hown hK hP 0 rfl rfl 6 (by decide) fw1 (fun _ h9 => h9) rfl dX11_layHand_9 ?_
  refine lv_iload_n hx hb dX11_layHand_12 rfl (lv_at hl 0 rfl) ?_
  refine lv_aload_n hx hb dX11_layHand_13 rfl (lv_at hl 1 rfl) ?_
  refine va_get (D := D) (ci := 11) (v := .ref to) (C := RX11) (T := TX11) (N := 18) hx hb hts i11 hown hK hP 0 rfl rfl 0 (by decide) fw2 (fun _ h9 => h9) rfl dX11_layHand_14 ?_
  refine lv_iload_n hx hb dX11_layHand_17 rfl (lv_at hl 0 rfl) ?_
  refine va_iald hx hb hK hP 1 0 rfl rfl (by unfold vp_in; decide) dX11_layHand_18 ?_
  refine lv_topi (fun z3 hz3 => ?_)
  obtain rfl : z3 = 0 := hz3.trans (by first | rfl | decide | assumption | (simp [upd]; done) | (unfold upd; rw [if_neg (by decide)]; assumption) | (simp [upd, *]; done))
  refine va_iast hx hb hK hP hD hS 2 0 rfl rfl (by unfold vp_in; decide) dX11_layHand_19 (fun H locs hP hD hS => ?_)
  rw [kw_upd0] at hP hD
  have hP : va_P D vwCl [(mo, .inr (11, [.ref to, .ref ke, .ref ik, .ref rf, .long 0, .long 1, .ref ha, .ref r0, .ref br, .ref bp, .ref bys, .int 0, .int 0, .int 0, .int 0, .int 0, .ref an, .ref va])), (to, .inl (y 0, 228, .inl (fun _ => 0))), (ha, .inl (y 0, 30, .inl (fun _ => 0)))] H := hP
  have hD : va_D A [(mo, .inr (11, [.ref to, .ref ke, .ref ik, .ref rf, .long 0, .long 1, .ref ha, .ref r0, .ref br, .ref bp, .ref bys, .int 0, .int 0, .int 0, .int 0, .int 0, .ref an, .ref va])), (to, .inl (y 0, 228, .inl (fun _ => 0))), (ha, .inl (y 0, 30, .inl (fun _ => 0)))] := hD
  refine lv_iinc (v := 3) (lv' := [(1, .int 3), (0, .ref mo)]) hx hb dX11_layHand_20 hl (k := 0) rfl (by decide) (by decide) rfl (fun ls hl => ?_)
  refine lv_goto (tgt := 2) hx hb dX11_layHand_23 (by decide) ?_
  refine lv_iload_n hx hb dX11_layHand_2 rfl (lv_at hl 0 rfl) ?_
  refine lv_bipush (v := 30) hx hb dX11_layHand_3 (by decide) ?_
  refine lv_icmp_ge (tgt := 26) hx hb dX11_layHand_5 (by decide) (fun h9 => absurd h9 (by decide)) (fun _ => ?_)
  refine lv_aload_n hx hb dX11_layHand_8 rfl (lv_at hl 1 rfl) ?_
  refine va_get (D := D) (ci := 11) (v := .ref ha) (C := RX11) (T := TX11) (N := 18) hx hb hts i11 hown hK hP 0 rfl rfl 6 (by decide) fw1 (fun _ h9 => h9) rfl dX11_layHand_9 ?_
  refine lv_iload_n hx hb dX11_layHand_12 rfl (lv_at hl 0 rfl) ?_
  refine lv_aload_n hx hb dX11_layHand_13 rfl (lv_at hl 1 rfl) ?_
  refine va_get (D := D) (ci := 11) (v := .ref to) (C := RX11) (T := TX11) (N := 18) hx hb hts i11 hown hK hP 0 rfl rfl 0 (by decide) fw2 (fun _ h9 => h9) rfl dX11_layHand_14 ?_
  refine lv_iload_n hx hb dX11_layHand_17 rfl (lv_at hl 0 rfl) ?_
  refine va_iald hx hb hK hP 1 0 rfl rfl (by unfold vp_in; decide) dX11_layHand_18 ?_
  refine lv_topi (fun z4 hz4 => ?_)
  obtain rfl : z4 = 0 := hz4.trans (by first | rfl | decide | assumption | (simp [upd]; done) | (unfold upd; rw [if_neg (by decide)]; assumption) | (simp [upd, *]; done))
  refine va_iast hx hb hK hP hD hS 2 0 rfl rfl (by unfold vp_in; decide) dX11_layHand_19 (fun H locs hP hD hS => ?_)
  rw [kw_upd0] at hP hD
  have hP : va_P D vwCl [(mo, .inr (11, [.ref to, .ref ke, .ref ik, .ref rf, .long 0, .long 1, .ref ha, .ref r0, .ref br, .ref bp, .ref bys, .int 0, .int 0, .int 0, .int 0, .int 0, .ref an, .ref va])), (to, .inl (y 0, 228, .inl (fun _ => 0))), (ha, .inl (y 0, 30, .inl (fun _ => 0)))] H := hP
  have hD : va_D A [(mo, .inr (11, [.ref to, .ref ke, .ref ik, .ref rf, .long 0, .long 1, .ref ha, .ref r0, .ref br, .ref bp, .ref bys, .int 0, .int 0, .int 0, .int 0, .int 0, .ref an, .ref va])), (to, .inl (y 0, 228, .inl (fun _ => 0))), (ha, .inl (y 0, 30, .inl (fun _ => 0)))] := hD
  refine lv_iinc (v := 4) (lv' := [(1, .int 4), (0, .ref mo)]) hx hb dX11_layHand_20 hl (k := 0) rfl (by decide) (by decide) rfl (fun ls hl => ?_)
  refine lv_goto (tgt := 2) hx hb dX11_layHand_23 (by decide) ?_
  refine lv_iload_n hx hb dX11_layHand_2 rfl (lv_at hl 0 rfl) ?_
  refine lv_bipush (v := 30) hx hb dX11_layHand_3 (by decide) ?_
  refine lv_icmp_ge (tgt := 26) hx hb dX11_layHand_5 (by decide) (fun h9 => absurd h9 (by decide)) (fun _ => ?_)
  refine lv_aload_n hx hb dX11_layHand_8 rfl (lv_at hl 1 rfl) ?_
  refine va_get (D := D) (ci := 11) (v := .ref ha) (C := RX11) (T := TX11) (N := 18) hx hb hts i11 hown hK hP 0 rfl rfl 6 (by decide) fw1 (fun _ h9 => h9) rfl dX11_layHand_9 ?_
  refine lv_iload_n hx hb dX11_layHand_12 rfl (lv_at hl 0 rfl) ?_
  refine lv_aload_n hx hb dX11_layHand_13 rfl (lv_at hl 1 rfl) ?_
  refine va_get (D := D) (ci := 11) (v := .ref to) (C := RX11) (T := TX11) (N := 18) hx hb hts i11 hown hK hP 0 rfl rfl 0 (by decide) fw2 (fun _ h9 => h9) rfl dX11_layHand_14 ?_
  refine lv_iload_n hx hb dX11_layHand_17 rfl (lv_at hl 0 rfl) ?_
  refine va_iald hx hb hK hP 1 0 rfl rfl (by unfold vp_in; decide) dX11_layHand_18 ?_
  refine lv_topi (fun z5 hz5 => ?_)
  obtain rfl : z5 = 0 := hz5.trans (by first | rfl | decide | assumption | (simp [upd]; done) | (unfold upd; rw [if_neg (by decide)]; assumption) | (simp [upd, *]; done))
  refine va_iast hx hb hK hP hD hS 2 0 rfl rfl (by unfold vp_in; decide) dX11_layHand_19 (fun H locs hP hD hS => ?_)
  rw [kw_upd0] at hP hD
  have hP : va_P D vwCl [(mo, .inr (11, [.ref to, .ref ke, .ref ik, .ref rf, .long 0, .long 1, .ref ha, .ref r0, .ref br, .ref bp, .ref bys, .int 0, .int 0, .int 0, .int 0, .int 0, .ref an, .ref va])), (to, .inl (y 0, 228, .inl (fun _ => 0))), (ha, .inl (y 0, 30, .inl (fun _ => 0)))] H := hP
  have hD : va_D A [(mo, .inr (11, [.ref to, .ref ke, .ref ik, .ref rf, .long 0, .long 1, .ref ha, .ref r0, .ref br, .ref bp, .ref bys, .int 0, .int 0, .int 0, .int 0, .int 0, .ref an, .ref va])), (to, .inl (y 0, 228, .inl (fun _ => 0))), (ha, .inl (y 0, 30, .inl (fun _ => 0)))] := hD
  refine lv_iinc (v := 5) (lv' := [(1, .int 5), (0, .ref mo)]) hx hb dX11_layHand_20 hl (k := 0) rfl (by decide) (by decide) rfl (fun ls hl => ?_)
  refine lv_goto (tgt := 2) hx hb dX11_layHand_23 (by decide) ?_
  refine lv_iload_n hx hb dX11_layHand_2 rfl (lv_at hl 0 rfl) ?_
  refine lv_bipush (v := 30) hx hb dX11_layHand_3 (by decide) ?_
  refine lv_icmp_ge (tgt := 26) hx hb dX11_layHand_5 (by decide) (fun h9 => absurd h9 (by decide)) (fun _ => ?_)
  refine lv_aload_n hx hb dX11_layHand_8 rfl (lv_at hl 1 rfl) ?_
  refine va_get (D := D) (ci := 11) (v := .ref ha) (C := RX11) (T := TX11) (N := 18) hx hb hts i11 hown hK hP 0 rfl rfl 6 (by decide) fw1 (fun _ h9 => h9) rfl dX11_layHand_9 ?_
  refine lv_iload_n hx hb dX11_layHand_12 rfl (lv_at hl 0 rfl) ?_
  refine lv_aload_n hx hb dX11_layHand_13 rfl (lv_at hl 1 rfl) ?_
  refine va_get (D := D) (ci := 11) (v := .ref to) (C := RX11) (T := TX11) (N := 18) hx hb hts i11 hown hK hP 0 rfl rfl 0 (by decide) fw2 (fun _ h9 => h9) rfl dX11_layHand_14 ?_
  refine lv_iload_n hx hb dX11_layHand_17 rfl (lv_at hl 0 rfl) ?_
  refine va_iald hx hb hK hP 1 0 rfl rfl (by unfold vp_in; decide) dX11_layHand_18 ?_
  refine lv_topi (fun z6 hz6 => ?_)
  obtain rfl : z6 = 0 := hz6.trans (by first | rfl | decide | assumption | (simp [upd]; done) | (unfold upd; rw [if_neg (by decide)]; assumption) | (simp [upd, *]; done))
  refine va_iast hx hb hK hP hD hS 2 0 rfl rfl (by unfold vp_in; decide) dX11_layHand_19 (fun H locs hP hD hS => ?_)
  rw [kw_upd0] at hP hD
  have hP : va_P D vwCl [(mo, .inr (11, [.ref to, .ref ke, .ref ik, .ref rf, .long 0, .long 1, .ref ha, .ref r0, .ref br, .ref bp, .ref bys, .int 0, .int 0, .int 0, .int 0, .int 0, .ref an, .ref va])), (to, .inl (y 0, 228, .inl (fun _ => 0))), (ha, .inl (y 0, 30, .inl (fun _ => 0)))] H := hP
  have hD : va_D A [(mo, .inr (11, [.ref to, .ref ke, .ref ik, .ref rf, .long 0, .long 1, .ref ha, .ref r0, .ref br, .ref bp, .ref bys, .int 0, .int 0, .int 0, .int 0, .int 0, .ref an, .ref va])), (to, .inl (y 0, 228, .inl (fun _ => 0))), (ha, .inl (y 0, 30, .inl (fun _ => 0)))] := hD
  refine lv_iinc (v := 6) (lv' := [(1, .int 6), (0, .ref mo)]) hx hb dX11_layHand_20 hl (k := 0) rfl (by decide) (by decide) rfl (fun ls hl => ?_)
  refine lv_goto (tgt := 2) hx hb dX11_layHand_23 (by decide) ?_
  refine lv_iload_n hx hb dX11_layHand_2 rfl (lv_at hl 0 rfl) ?_
  refine lv_bipush (v := 30) hx hb dX11_layHand_3 (by decide) ?_
  refine lv_icmp_ge (tgt := 26) hx hb dX11_layHand_5 (by decide) (fun h9 => absurd h9 (by decide)) (fun _ => ?_)
  refine lv_aload_n hx hb dX11_layHand_8 rfl (lv_at hl 1 rfl) ?_
  refine va_get (D := D) (ci := 11) (v := .ref ha) (C := RX11) (T := TX11) (N := 18) hx hb hts i11 hown hK hP 0 rfl rfl 6 (by decide) fw1 (fun _ h9 => h9) rfl dX11_layHand_9 ?_
  refine lv_iload_n hx hb dX11_layHand_12 rfl (lv_at hl 0 rfl) ?_
  refine lv_aload_n hx hb dX11_layHand_13 rfl (lv_at hl 1 rfl) ?_
  refine va_get (D := D) (ci := 11) (v := .ref to) (C := RX11) (T := TX11) (N := 18) hx hb hts i11 hown hK hP 0 rfl rfl 0 (by decide) fw2 (fun _ h9 => h9) rfl dX11_layHand_14 ?_
  refine lv_iload_n hx hb dX11_layHand_17 rfl (lv_at hl 0 rfl) ?_
  refine va_iald hx hb hK hP 1 0 rfl rfl (by unfold vp_in; decide) dX11_layHand_18 ?_
  refine lv_topi (fun z7 hz7 => ?_)
  obtain rfl : z7 = 0 := hz7.trans (by first | rfl | decide | assumption | (simp [upd]; done) | (unfold upd; rw [if_neg (by decide)]; assumption) | (simp [upd, *]; done))
  refine va_iast hx hb hK hP hD hS 2 0 rfl rfl (by unfold vp_in; decide) dX11_layHand_19 (fun H locs hP hD hS => ?_)
  rw [kw_upd0] at hP hD
  have hP : va_P D vwCl [(mo, .inr (11, [.ref to, .ref ke, .ref ik, .ref rf, .long 0, .long 1, .ref ha, .ref r0, .ref br, .ref bp, .ref bys, .int 0, .int 0, .int 0, .int 0, .int 0, .ref an, .ref va])), (to, .inl (y 0, 228, .inl (fun _ => 0))), (ha, .inl (y 0, 30, .inl (fun _ => 0)))] H := hP
  have hD : va_D A [(mo, .inr (11, [.ref to, .ref ke, .ref ik, .ref rf, .long 0, .long 1, .ref ha, .ref r0, .ref br, .ref bp, .ref bys, .int 0, .int 0, .int 0, .int 0, .int 0, .ref an, .ref va])), (to, .inl (y 0, 228, .inl (fun _ => 0))), (ha, .inl (y 0, 30, .inl (fun _ => 0)))] := hD
  refine lv_iinc (v := 7) (lv' := [(1, .int 7), (0, .ref mo)]) hx hb dX11_layHand_20 hl (k := 0) rfl (by decide) (by decide) rfl (fun ls hl => ?_)
  refine lv_goto (tgt := 2) hx hb dX11_layHand_23 (by decide) ?_
  refine lv_iload_n hx hb dX11_layHand_2 rfl (lv_at hl 0 rfl) ?_
  refine lv_bipush (v := 30) hx hb dX11_layHand_3 (by decide) ?_
  refine lv_icmp_ge (tgt := 26) hx hb dX11_layHand_5 (by decide) (fun h9 => absurd h9 (by decide)) (fun _ => ?_)
  refine lv_aload_n hx hb dX11_layHand_8 rfl (lv_at hl 1 rfl) ?_
  refine va_get (D := D) (ci := 11) (v := .ref ha) (C := RX11) (T := TX11) (N := 18) hx hb hts i11 hown hK hP 0 rfl rfl 6 (by decide) fw1 (fun _ h9 => h9) rfl dX11_layHand_9 ?_
  refine lv_iload_n hx hb dX11_layHand_12 rfl (lv_at hl 0 rfl) ?_
  refine lv_aload_n hx hb dX11_layHand_13 rfl (lv_at hl 1 rfl) ?_
  refine va_get (D := D) (ci := 11) (v := .ref to) (C := RX11) (T := TX11) (N := 18) hx hb hts i11 hown hK hP 0 rfl rfl 0 (by decide) fw2 (fun _ h9 => h9) rfl dX11_layHand_14 ?_
  refine lv_iload_n hx hb dX11_layHand_17 rfl (lv_at hl 0 rfl) ?_
  refine va_iald hx hb hK hP 1 0 rfl rfl (by unfold vp_in; decide) dX11_layHand_18 ?_
  refine lv_topi (fun z8 hz8 => ?_)
  obtain rfl : z8 = 0 := hz8.trans (by first | rfl | decide | assumption | (simp [upd]; done) | (unfold upd; rw [if_neg (by decide)]; assumption) | (simp [upd, *]; done))
  refine va_iast hx hb hK hP hD hS 2 0 rfl rfl (by unfold vp_in; decide) dX11_layHand_19 (fun H locs hP hD hS => ?_)
  rw [kw_upd0] at hP hD
  have hP : va_P D vwCl [(mo, .inr (11, [.ref to, .ref ke, .ref ik, .ref rf, .long 0, .long 1, .ref ha, .ref r0, .ref br, .ref bp, .ref bys, .int 0, .int 0, .int 0, .int 0, .int 0, .ref an, .ref va])), (to, .inl (y 0, 228, .inl (fun _ => 0))), (ha, .inl (y 0, 30, .inl (fun _ => 0)))] H := hP
  have hD : va_D A [(mo, .inr (11, [.ref to, .ref ke, .ref ik, .ref rf, .long 0, .long 1, .ref ha, .ref r0, .ref br, .ref bp, .ref bys, .int 0, .int 0, .int 0, .int 0, .int 0, .ref an, .ref va])), (to, .inl (y 0, 228, .inl (fun _ => 0))), (ha, .inl (y 0, 30, .inl (fun _ => 0)))] := hD
  refine lv_iinc (v := 8) (lv' := [(1, .int 8), (0, .ref mo)]) hx hb dX11_layHand_20 hl (k := 0) rfl (by decide) (by decide) rfl (fun ls hl => ?_)
  refine lv_goto (tgt := 2) hx hb dX11_layHand_23 (by decide) ?_
  refine lv_iload_n hx hb dX11_layHand_2 rfl (lv_at hl 0 rfl) ?_
  refine lv_bipush (v := 30) hx hb dX11_layHand_3 (by decide) ?_
  refine lv_icmp_ge (tgt := 26) hx hb dX11_layHand_5 (by decide) (fun h9 => absurd h9 (by decide)) (fun _ => ?_)
  refine lv_aload_n hx hb dX11_layHand_8 rfl (lv_at hl 1 rfl) ?_
  refine va_get (D := D) (ci := 11) (v := .ref ha) (C := RX11) (T := TX11) (N := 18) hx hb hts i11 hown hK hP 0 rfl rfl 6 (by decide) fw1 (fun _ h9 => h9) rfl dX11_layHand_9 ?_
  refine lv_iload_n hx hb dX11_layHand_12 rfl (lv_at hl 0 rfl) ?_
  refine lv_aload_n hx hb dX11_layHand_13 rfl (lv_at hl 1 rfl) ?_
  refine va_get (D := D) (ci := 11) (v := .ref to) (C := RX11) (T := TX11) (N := 18) hx hb hts i11 hown hK hP 0 rfl rfl 0 (by decide) fw2 (fun _ h9 => h9) rfl dX11_layHand_14 ?_
  refine lv_iload_n hx hb dX11_layHand_17 rfl (lv_at hl 0 rfl) ?_
  refine va_iald hx hb hK hP 1 0 rfl rfl (by unfold vp_in; decide) dX11_layHand_18 ?_
  refine lv_topi (fun z9 hz9 => ?_)
  obtain rfl : z9 = 0 := hz9.trans (by first | rfl | decide | assumption | (simp [upd]; done) | (unfold upd; rw [if_neg (by decide)]; assumption) | (simp [upd, *]; done))
  refine va_iast hx hb hK hP hD hS 2 0 rfl rfl (by unfold vp_in; decide) dX11_layHand_19 (fun H locs hP hD hS => ?_)
  rw [kw_upd0] at hP hD
  have hP : va_P D vwCl [(mo, .inr (11, [.ref to, .ref ke, .ref ik, .ref rf, .long 0, .long 1, .ref ha, .ref r0, .ref br, .ref bp, .ref bys, .int 0, .int 0, .int 0, .int 0, .int 0, .ref an, .ref va])), (to, .inl (y 0, 228, .inl (fun _ => 0))), (ha, .inl (y 0, 30, .inl (fun _ => 0)))] H := hP
  have hD : va_D A [(mo, .inr (11, [.ref to, .ref ke, .ref ik, .ref rf, .long 0, .long 1, .ref ha, .ref r0, .ref br, .ref bp, .ref bys, .int 0, .int 0, .int 0, .int 0, .int 0, .ref an, .ref va])), (to, .inl (y 0, 228, .inl (fun _ => 0))), (ha, .inl (y 0, 30, .inl (fun _ => 0)))] := hD
  refine lv_iinc (v := 9) (lv' := [(1, .int 9), (0, .ref mo)]) hx hb dX11_layHand_20 hl (k := 0) rfl (by decide) (by decide) rfl (fun ls hl => ?_)
  refine lv_goto (tgt := 2) hx hb dX11_layHand_23 (by decide) ?_
  refine lv_iload_n hx hb dX11_layHand_2 rfl (lv_at hl 0 rfl) ?_
  refine lv_bipush (v := 30) hx hb dX11_layHand_3 (by decide) ?_
  refine lv_icmp_ge (tgt := 26) hx hb dX11_layHand_5 (by decide) (fun h9 => absurd h9 (by decide)) (fun _ => ?_)
  refine lv_aload_n hx hb dX11_layHand_8 rfl (lv_at hl 1 rfl) ?_
  refine va_get (D := D) (ci := 11) (v := .ref ha) (C := RX11) (T := TX11) (N := 18) hx hb hts i11 hown hK hP 0 rfl rfl 6 (by decide) fw1 (fun _ h9 => h9) rfl dX11_layHand_9 ?_
  refine lv_iload_n hx hb dX11_layHand_12 rfl (lv_at hl 0 rfl) ?_
  refine lv_aload_n hx hb dX11_layHand_13 rfl (lv_at hl 1 rfl) ?_
  refine va_get (D := D) (ci := 11) (v := .ref to) (C := RX11) (T := TX11) (N := 18) hx hb hts i11 hown hK hP 0 rfl rfl 0 (by decide) fw2 (fun _ h9 => h9) rfl dX11_layHand_14 ?_
  refine lv_iload_n hx hb dX11_layHand_17 rfl (lv_at hl 0 rfl) ?_
  refine va_iald hx hb hK hP 1 0 rfl rfl (by unfold vp_in; decide) dX11_layHand_18 ?_
  refine lv_topi (fun z10 hz10 => ?_)
  obtain rfl : z10 = 0 := hz10.trans (by first | rfl | decide | assumption | (simp [upd]; done) | (unfold upd; rw [if_neg (by decide)]; assumption) | (simp [upd, *]; done))
  refine va_iast hx hb hK hP hD hS 2 0 rfl rfl (by unfold vp_in; decide) dX11_layHand_19 (fun H locs hP hD hS => ?_)
  rw [kw_upd0] at hP hD
  have hP : va_P D vwCl [(mo, .inr (11, [.ref to, .ref ke, .ref ik, .ref rf, .long 0, .long 1, .ref ha, .ref r0, .ref br, .ref bp, .ref bys, .int 0, .int 0, .int 0, .int 0, .int 0, .ref an, .ref va])), (to, .inl (y 0, 228, .inl (fun _ => 0))), (ha, .inl (y 0, 30, .inl (fun _ => 0)))] H := hP
  have hD : va_D A [(mo, .inr (11, [.ref to, .ref ke, .ref ik, .ref rf, .long 0, .long 1, .ref ha, .ref r0, .ref br, .ref bp, .ref bys, .int 0, .int 0, .int 0, .int 0, .int 0, .ref an, .ref va])), (to, .inl (y 0, 228, .inl (fun _ => 0))), (ha, .inl (y 0, 30, .inl (fun _ => 0)))] := hD
  refine lv_iinc (v := 10) (lv' := [(1, .int 10), (0, .ref mo)]) hx hb dX11_layHand_20 hl (k := 0) rfl (by decide) (by decide) rfl (fun ls hl => ?_)
  refine lv_goto (tgt := 2) hx hb dX11_layHand_23 (by decide) ?_
  refine lv_iload_n hx hb dX11_layHand_2 rfl (lv_at hl 0 rfl) ?_
  refine lv_bipush (v := 30) hx hb dX11_layHand_3 (by decide) ?_
  refine lv_icmp_ge (tgt := 26) hx hb dX11_layHand_5 (by decide) (fun h9 => absurd h9 (by decide)) (fun _ => ?_)
  refine lv_aload_n hx hb dX11_layHand_8 rfl (lv_at hl 1 rfl) ?_
  refine va_get (D := D) (ci := 11) (v := .ref ha) (C := RX11) (T := TX11) (N := 18) hx hb hts i11 hown hK hP 0 rfl rfl 6 (by decide) fw1 (fun _ h9 => h9) rfl dX11_layHand_9 ?_
  refine lv_iload_n hx hb dX11_layHand_12 rfl (lv_at hl 0 rfl) ?_
  refine lv_aload_n hx hb dX11_layHand_13 rfl (lv_at hl 1 rfl) ?_
  refine va_get (D := D) (ci := 11) (v := .ref to) (C := RX11) (T := TX11) (N := 18) hx hb hts i11 hown hK hP 0 rfl rfl 0 (by decide) fw2 (fun _ h9 => h9) rfl dX11_layHand_14 ?_
  refine lv_iload_n hx hb dX11_layHand_17 rfl (lv_at hl 0 rfl) ?_
  refine va_iald hx hb hK hP 1 0 rfl rfl (by unfold vp_in; decide) dX11_layHand_18 ?_
  refine lv_topi (fun z11 hz11 => ?_)
  obtain rfl : z11 = 0 := hz11.trans (by first | rfl | decide | assumption | (simp [upd]; done) | (unfold upd; rw [if_neg (by decide)]; assumption) | (simp [upd, *]; done))
  refine va_iast hx hb hK hP hD hS 2 0 rfl rfl (by unfold vp_in; decide) dX11_layHand_19 (fun H locs hP hD hS => ?_)
  rw [kw_upd0] at hP hD
  have hP : va_P D vwCl [(mo, .inr (11, [.ref to, .ref ke, .ref ik, .ref rf, .long 0, .long 1, .ref ha, .ref r0, .ref br, .ref bp, .ref bys, .int 0, .int 0, .int 0, .int 0, .int 0, .ref an, .ref va])), (to, .inl (y 0, 228, .inl (fun _ => 0))), (ha, .inl (y 0, 30, .inl (fun _ => 0)))] H := hP
  have hD : va_D A [(mo, .inr (11, [.ref to, .ref ke, .ref ik, .ref rf, .long 0, .long 1, .ref ha, .ref r0, .ref br, .ref bp, .ref bys, .int 0, .int 0, .int 0, .int 0, .int 0, .ref an, .ref va])), (to, .inl (y 0, 228, .inl (fun _ => 0))), (ha, .inl (y 0, 30, .inl (fun _ => 0)))] := hD
  refine lv_iinc (v := 11) (lv' := [(1, .int 11), (0, .ref mo)]) hx hb dX11_layHand_20 hl (k := 0) rfl (by decide) (by decide) rfl (fun ls hl => ?_)
  refine lv_goto (tgt := 2) hx hb dX11_layHand_23 (by decide) ?_
  refine lv_iload_n hx hb dX11_layHand_2 rfl (lv_at hl 0 rfl) ?_
  refine lv_bipush (v := 30) hx hb dX11_layHand_3 (by decide) ?_
  refine lv_icmp_ge (tgt := 26) hx hb dX11_layHand_5 (by decide) (fun h9 => absurd h9 (by decide)) (fun _ => ?_)
  refine lv_aload_n hx hb dX11_layHand_8 rfl (lv_at hl 1 rfl) ?_
  refine va_get (D := D) (ci := 11) (v := .ref ha) (C := RX11) (T := TX11) (N := 18) hx hb hts i11 hown hK hP 0 rfl rfl 6 (by decide) fw1 (fun _ h9 => h9) rfl dX11_layHand_9 ?_
  refine lv_iload_n hx hb dX11_layHand_12 rfl (lv_at hl 0 rfl) ?_
  refine lv_aload_n hx hb dX11_layHand_13 rfl (lv_at hl 1 rfl) ?_
  refine va_get (D := D) (ci := 11) (v := .ref to) (C := RX11) (T := TX11) (N := 18) hx hb hts i11 hown hK hP 0 rfl rfl 0 (by decide) fw2 (fun _ h9 => h9) rfl dX11_layHand_14 ?_
  refine lv_iload_n hx hb dX11_layHand_17 rfl (lv_at hl 0 rfl) ?_
  refine va_iald hx hb hK hP 1 0 rfl rfl (by unfold vp_in; decide) dX11_layHand_18 ?_
  refine lv_topi (fun z12 hz12 => ?_)
  obtain rfl : z12 = 0 := hz12.trans (by first | rfl | decide | assumption | (simp [upd]; done) | (unfold upd; rw [if_neg (by decide)]; assumption) | (simp [upd, *]; done))
  refine va_iast hx hb hK hP hD hS 2 0 rfl rfl (by unfold vp_in; decide) dX11_layHand_19 (fun H locs hP hD hS => ?_)
  rw [kw_upd0] at hP hD
  have hP : va_P D vwCl [(mo, .inr (11, [.ref to, .ref ke, .ref ik, .ref rf, .long 0, .long 1, .ref ha, .ref r0, .ref br, .ref bp, .ref bys, .int 0, .int 0, .int 0, .int 0, .int 0, .ref an, .ref va])), (to, .inl (y 0, 228, .inl (fun _ => 0))), (ha, .inl (y 0, 30, .inl (fun _ => 0)))] H := hP
  have hD : va_D A [(mo, .inr (11, [.ref to, .ref ke, .ref ik, .ref rf, .long 0, .long 1, .ref ha, .ref r0, .ref br, .ref bp, .ref bys, .int 0, .int 0, .int 0, .int 0, .int 0, .ref an, .ref va])), (to, .inl (y 0, 228, .inl (fun _ => 0))), (ha, .inl (y 0, 30, .inl (fun _ => 0)))] := hD
  refine lv_iinc (v := 12) (lv' := [(1, .int 12), (0, .ref mo)]) hx hb dX11_layHand_20 hl (k := 0) rfl (by decide) (by decide) rfl (fun ls hl => ?_)
  refine lv_goto (tgt := 2) hx hb dX11_layHand_23 (by decide) ?_
  refine lv_iload_n hx hb dX11_layHand_2 rfl (lv_at hl 0 rfl) ?_
  refine lv_bipush (v := 30) hx hb dX11_layHand_3 (by decide) ?_
  refine lv_icmp_ge (tgt := 26) hx hb dX11_layHand_5 (by decide) (fun h9 => absurd h9 (by decide)) (fun _ => ?_)
  refine lv_aload_n hx hb dX11_layHand_8 rfl (lv_at hl 1 rfl) ?_
  refine va_get (D := D) (ci := 11) (v := .ref ha) (C := RX11) (T := TX11) (N := 18) hx hb hts i11 hown hK hP 0 rfl rfl 6 (by decide) fw1 (fun _ h9 => h9) rfl dX11_layHand_9 ?_
  refine lv_iload_n hx hb dX11_layHand_12 rfl (lv_at hl 0 rfl) ?_
  refine lv_aload_n hx hb dX11_layHand_13 rfl (lv_at hl 1 rfl) ?_
  refine va_get (D := D) (ci := 11) (v := .ref to) (C := RX11) (T := TX11) (N := 18) hx hb hts i11 hown hK hP 0 rfl rfl 0 (by decide) fw2 (fun _ h9 => h9) rfl dX11_layHand_14 ?_
  refine lv_iload_n hx hb dX11_layHand_17 rfl (lv_at hl 0 rfl) ?_
  refine va_iald hx hb hK hP 1 0 rfl rfl (by unfold vp_in; decide) dX11_layHand_18 ?_
  refine lv_topi (fun z13 hz13 => ?_)
  obtain rfl : z13 = 0 := hz13.trans (by first | rfl | decide | assumption | (simp [upd]; done) | (unfold upd; rw [if_neg (by decide)]; assumption) | (simp [upd, *]; done))
  refine va_iast hx hb hK hP hD hS 2 0 rfl rfl (by unfold vp_in; decide) dX11_layHand_19 (fun H locs hP hD hS => ?_)
  rw [kw_upd0] at hP hD
  have hP : va_P D vwCl [(mo, .inr (11, [.ref to, .ref ke, .ref ik, .ref rf, .long 0, .long 1, .ref ha, .ref r0, .ref br, .ref bp, .ref bys, .int 0, .int 0, .int 0, .int 0, .int 0, .ref an, .ref va])), (to, .inl (y 0, 228, .inl (fun _ => 0))), (ha, .inl (y 0, 30, .inl (fun _ => 0)))] H := hP
  have hD : va_D A [(mo, .inr (11, [.ref to, .ref ke, .ref ik, .ref rf, .long 0, .long 1, .ref ha, .ref r0, .ref br, .ref bp, .ref bys, .int 0, .int 0, .int 0, .int 0, .int 0, .ref an, .ref va])), (to, .inl (y 0, 228, .inl (fun _ => 0))), (ha, .inl (y 0, 30, .inl (fun _ => 0)))] := hD
  refine lv_iinc (v := 13) (lv' := [(1, .int 13), (0, .ref mo)]) hx hb dX11_layHand_20 hl (k := 0) rfl (by decide) (by decide) rfl (fun ls hl => ?_)
  refine lv_goto (tgt := 2) hx hb dX11_layHand_23 (by decide) ?_
  refine lv_iload_n hx hb dX11_layHand_2 rfl (lv_at hl 0 rfl) ?_
  refine lv_bipush (v := 30) hx hb dX11_layHand_3 (by decide) ?_
  refine lv_icmp_ge (tgt := 26) hx hb dX11_layHand_5 (by decide) (fun h9 => absurd h9 (by decide)) (fun _ => ?_)
  refine lv_aload_n hx hb dX11_layHand_8 rfl (lv_at hl 1 rfl) ?_
  refine va_get (D := D) (ci := 11) (v := .ref ha) (C := RX11) (T := TX11) (N := 18) hx hb hts i11 hown hK hP 0 rfl rfl 6 (by decide) fw1 (fun _ h9 => h9) rfl dX11_layHand_9 ?_
  refine lv_iload_n hx hb dX11_layHand_12 rfl (lv_at hl 0 rfl) ?_
  refine lv_aload_n hx hb dX11_layHand_13 rfl (lv_at hl 1 rfl) ?_
  refine va_get (D := D) (ci := 11) (v := .ref to) (C := RX11) (T := TX11) (N := 18) hx hb hts i11 hown hK hP 0 rfl rfl 0 (by decide) fw2 (fun _ h9 => h9) rfl dX11_layHand_14 ?_
  refine lv_iload_n hx hb dX11_layHand_17 rfl (lv_at hl 0 rfl) ?_
  refine va_iald hx hb hK hP 1 0 rfl rfl (by unfold vp_in; decide) dX11_layHand_18 ?_
  refine lv_topi (fun z14 hz14 => ?_)
  obtain rfl : z14 = 0 := hz14.trans (by first | rfl | decide | assumption | (simp [upd]; done) | (unfold upd; rw [if_neg (by decide)]; assumption) | (simp [upd, *]; done))
  refine va_iast hx hb hK hP hD hS 2 0 rfl rfl (by unfold vp_in; decide) dX11_layHand_19 (fun H locs hP hD hS => ?_)
  rw [kw_upd0] at hP hD
  have hP : va_P D vwCl [(mo, .inr (11, [.ref to, .ref ke, .ref ik, .ref rf, .long 0, .long 1, .ref ha, .ref r0, .ref br, .ref bp, .ref bys, .int 0, .int 0, .int 0, .int 0, .int 0, .ref an, .ref va])), (to, .inl (y 0, 228, .inl (fun _ => 0))), (ha, .inl (y 0, 30, .inl (fun _ => 0)))] H := hP
  have hD : va_D A [(mo, .inr (11, [.ref to, .ref ke, .ref ik, .ref rf, .long 0, .long 1, .ref ha, .ref r0, .ref br, .ref bp, .ref bys, .int 0, .int 0, .int 0, .int 0, .int 0, .ref an, .ref va])), (to, .inl (y 0, 228, .inl (fun _ => 0))), (ha, .inl (y 0, 30, .inl (fun _ => 0)))] := hD
  refine lv_iinc (v := 14) (lv' := [(1, .int 14), (0, .ref mo)]) hx hb dX11_layHand_20 hl (k := 0) rfl (by decide) (by decide) rfl (fun ls hl => ?_)
  refine lv_goto (tgt := 2) hx hb dX11_layHand_23 (by decide) ?_
  refine lv_iload_n hx hb dX11_layHand_2 rfl (lv_at hl 0 rfl) ?_
  refine lv_bipush (v := 30) hx hb dX11_layHand_3 (by decide) ?_
  refine lv_icmp_ge (tgt := 26) hx hb dX11_layHand_5 (by decide) (fun h9 => absurd h9 (by decide)) (fun _ => ?_)
  refine lv_aload_n hx hb dX11_layHand_8 rfl (lv_at hl 1 rfl) ?_
  refine va_get (D := D) (ci := 11) (v := .ref ha) (C := RX11) (T := TX11) (N := 18) hx hb hts i11 hown hK hP 0 rfl rfl 6 (by decide) fw1 (fun _ h9 => h9) rfl dX11_layHand_9 ?_
  refine lv_iload_n hx hb dX11_layHand_12 rfl (lv_at hl 0 rfl) ?_
  refine lv_aload_n hx hb dX11_layHand_13 rfl (lv_at hl 1 rfl) ?_
  refine va_get (D := D) (ci := 11) (v := .ref to) (C := RX11) (T := TX11) (N := 18) hx hb hts i11 hown hK hP 0 rfl rfl 0 (by decide) fw2 (fun _ h9 => h9) rfl dX11_layHand_14 ?_
  refine lv_iload_n hx hb dX11_layHand_17 rfl (lv_at hl 0 rfl) ?_
  refine va_iald hx hb hK hP 1 0 rfl rfl (by unfold vp_in; decide) dX11_layHand_18 ?_
  refine lv_topi (fun z15 hz15 => ?_)
  obtain rfl : z15 = 0 := hz15.trans (by first | rfl | decide | assumption | (simp [upd]; done) | (unfold upd; rw [if_neg (by decide)]; assumption) | (simp [upd, *]; done))
  refine va_iast hx hb hK hP hD hS 2 0 rfl rfl (by unfold vp_in; decide) dX11_layHand_19 (fun H locs hP hD hS => ?_)
  rw [kw_upd0] at hP hD
  have hP : va_P D vwCl [(mo, .inr (11, [.ref to, .ref ke, .ref ik, .ref rf, .long 0, .long 1, .ref ha, .ref r0, .ref br, .ref bp, .ref bys, .int 0, .int 0, .int 0, .int 0, .int 0, .ref an, .ref va])), (to, .inl (y 0, 228, .inl (fun _ => 0))), (ha, .inl (y 0, 30, .inl (fun _ => 0)))] H := hP
  have hD : va_D A [(mo, .inr (11, [.ref to, .ref ke, .ref ik, .ref rf, .long 0, .long 1, .ref ha, .ref r0, .ref br, .ref bp, .ref bys, .int 0, .int 0, .int 0, .int 0, .int 0, .ref an, .ref va])), (to, .inl (y 0, 228, .inl (fun _ => 0))), (ha, .inl (y 0, 30, .inl (fun _ => 0)))] := hD
  refine lv_iinc (v := 15) (lv' := [(1, .int 15), (0, .ref mo)]) hx hb dX11_layHand_20 hl (k := 0) rfl (by decide) (by decide) rfl (fun ls hl => ?_)
  refine lv_goto (tgt := 2) hx hb dX11_layHand_23 (by decide) ?_
  refine lv_iload_n hx hb dX11_layHand_2 rfl (lv_at hl 0 rfl) ?_
  refine lv_bipush (v := 30) hx hb dX11_layHand_3 (by decide) ?_
  refine lv_icmp_ge (tgt := 26) hx hb dX11_layHand_5 (by decide) (fun h9 => absurd h9 (by decide)) (fun _ => ?_)
  refine lv_aload_n hx hb dX11_layHand_8 rfl (lv_at hl 1 rfl) ?_
  refine va_get (D := D) (ci := 11) (v := .ref ha) (C := RX11) (T := TX11) (N := 18) hx hb hts i11 hown hK hP 0 rfl rfl 6 (by decide) fw1 (fun _ h9 => h9) rfl dX11_layHand_9 ?_
  refine lv_iload_n hx hb dX11_layHand_12 rfl (lv_at hl 0 rfl) ?_
  refine lv_aload_n hx hb dX11_layHand_13 rfl (lv_at hl 1 rfl) ?_
  refine va_get (D := D) (ci := 11) (v := .ref to) (C := RX11) (T := TX11) (N := 18) hx hb hts i11 hown hK hP 0 rfl rfl 0 (by decide) fw2 (fun _ h9 => h9) rfl dX11_layHand_14 ?_
  refine lv_iload_n hx hb dX11_layHand_17 rfl (lv_at hl 0 rfl) ?_
  refine va_iald hx hb hK hP 1 0 rfl rfl (by unfold vp_in; decide) dX11_layHand_18 ?_
  refine lv_topi (fun z16 hz16 => ?_)
  obtain rfl : z16 = 0 := hz16.trans (by first | rfl | decide | assumption | (simp [upd]; done) | (unfold upd; rw [if_neg (by decide)]; assumption) | (simp [upd, *]; done))
  refine va_iast hx hb hK hP hD hS 2 0 rfl rfl (by unfold vp_in; decide) dX11_layHand_19 (fun H locs hP hD hS => ?_)
  rw [kw_upd0] at hP hD
  have hP : va_P D vwCl [(mo, .inr (11, [.ref to, .ref ke, .ref ik, .ref rf, .long 0, .long 1, .ref ha, .ref r0, .ref br, .ref bp, .ref bys, .int 0, .int 0, .int 0, .int 0, .int 0, .ref an, .ref va])), (to, .inl (y 0, 228, .inl (fun _ => 0))), (ha, .inl (y 0, 30, .inl (fun _ => 0)))] H := hP
  have hD : va_D A [(mo, .inr (11, [.ref to, .ref ke, .ref ik, .ref rf, .long 0, .long 1, .ref ha, .ref r0, .ref br, .ref bp, .ref bys, .int 0, .int 0, .int 0, .int 0, .int 0, .ref an, .ref va])), (to, .inl (y 0, 228, .inl (fun _ => 0))), (ha, .inl (y 0, 30, .inl (fun _ => 0)))] := hD
  refine lv_iinc (v := 16) (lv' := [(1, .int 16), (0, .ref mo)]) hx hb dX11_layHand_20 hl (k := 0) rfl (by decide) (by decide) rfl (fun ls hl => ?_)
  refine lv_goto (tgt := 2) hx hb dX11_layHand_23 (by decide) ?_
  refine lv_iload_n hx hb dX11_layHand_2 rfl (lv_at hl 0 rfl) ?_
  refine lv_bipush (v := 30) hx hb dX11_layHand_3 (by decide) ?_
  refine lv_icmp_ge (tgt := 26) hx hb dX11_layHand_5 (by decide) (fun h9 => absurd h9 (by decide)) (fun _ => ?_)
  refine lv_aload_n hx hb dX11_layHand_8 rfl (lv_at hl 1 rfl) ?_
  refine va_get (D := D) (ci := 11) (v := .ref ha) (C := RX11) (T := TX11) (N := 18) hx hb hts i11 hown hK hP 0 rfl rfl 6 (by decide) fw1 (fun _ h9 => h9) rfl dX11_layHand_9 ?_
  refine lv_iload_n hx hb dX11_layHand_12 rfl (lv_at hl 0 rfl) ?_
  refine lv_aload_n hx hb dX11_layHand_13 rfl (lv_at hl 1 rfl) ?_
  refine va_get (D := D) (ci := 11) (v := .ref to) (C := RX11) (T := TX11) (N := 18) hx hb hts i11 hown hK hP 0 rfl rfl 0 (by decide) fw2 (fun _ h9 => h9) rfl dX11_layHand_14 ?_
  refine lv_iload_n hx hb dX11_layHand_17 rfl (lv_at hl 0 rfl) ?_
  refine va_iald hx hb hK hP 1 0 rfl rfl (by unfold vp_in; decide) dX11_layHand_18 ?_
  refine lv_topi (fun z17 hz17 => ?_)
  obtain rfl : z17 = 0 := hz17.trans (by first | rfl | decide | assumption | (simp [upd]; done) | (unfold upd; rw [if_neg (by decide)]; assumption) | (simp [upd, *]; done))
  refine va_iast hx hb hK hP hD hS 2 0 rfl rfl (by unfold vp_in; decide) dX11_layHand_19 (fun H locs hP hD hS => ?_)
  rw [kw_upd0] at hP hD
  have hP : va_P D vwCl [(mo, .inr (11, [.ref to, .ref ke, .ref ik, .ref rf, .long 0, .long 1, .ref ha, .ref r0, .ref br, .ref bp, .ref bys, .int 0, .int 0, .int 0, .int 0, .int 0, .ref an, .ref va])), (to, .inl (y 0, 228, .inl (fun _ => 0))), (ha, .inl (y 0, 30, .inl (fun _ => 0)))] H := hP
  have hD : va_D A [(mo, .inr (11, [.ref to, .ref ke, .ref ik, .ref rf, .long 0, .long 1, .ref ha, .ref r0, .ref br, .ref bp, .ref bys, .int 0, .int 0, .int 0, .int 0, .int 0, .ref an, .ref va])), (to, .inl (y 0, 228, .inl (fun _ => 0))), (ha, .inl (y 0, 30, .inl (fun _ => 0)))] := hD
  refine lv_iinc (v := 17) (lv' := [(1, .int 17), (0, .ref mo)]) hx hb dX11_layHand_20 hl (k := 0) rfl (by decide) (by decide) rfl (fun ls hl => ?_)
  refine lv_goto (tgt := 2) hx hb dX11_layHand_23 (by decide) ?_
  refine lv_iload_n hx hb dX11_layHand_2 rfl (lv_at hl 0 rfl) ?_
  refine lv_bipush (v := 30) hx hb dX11_layHand_3 (by decide) ?_
  refine lv_icmp_ge (tgt := 26) hx hb dX11_layHand_5 (by decide) (fun h9 => absurd h9 (by decide)) (fun _ => ?_)
  refine lv_aload_n hx hb dX11_layHand_8 rfl (lv_at hl 1 rfl) ?_
  refine va_get (D := D) (ci := 11) (v := .ref ha) (C := RX11) (T := TX11) (N := 18) hx hb hts i11 hown hK hP 0 rfl rfl 6 (by decide) fw1 (fun _ h9 => h9) rfl dX11_layHand_9 ?_
  refine lv_iload_n hx hb dX11_layHand_12 rfl (lv_at hl 0 rfl) ?_
  refine lv_aload_n hx hb dX11_layHand_13 rfl (lv_at hl 1 rfl) ?_
  refine va_get (D := D) (ci := 11) (v := .ref to) (C := RX11) (T := TX11) (N := 18) hx hb hts i11 hown hK hP 0 rfl rfl 0 (by decide) fw2 (fun _ h9 => h9) rfl dX11_layHand_14 ?_
  refine lv_iload_n hx hb dX11_layHand_17 rfl (lv_at hl 0 rfl) ?_
  refine va_iald hx hb hK hP 1 0 rfl rfl (by unfold vp_in; decide) dX11_layHand_18 ?_
  refine lv_topi (fun z18 hz18 => ?_)
  obtain rfl : z18 = 0 := hz18.trans (by first | rfl | decide | assumption | (simp [upd]; done) | (unfold upd; rw [if_neg (by decide)]; assumption) | (simp [upd, *]; done))
  refine va_iast hx hb hK hP hD hS 2 0 rfl rfl (by unfold vp_in; decide) dX11_layHand_19 (fun H locs hP hD hS => ?_)
  rw [kw_upd0] at hP hD
  have hP : va_P D vwCl [(mo, .inr (11, [.ref to, .ref ke, .ref ik, .ref rf, .long 0, .long 1, .ref ha, .ref r0, .ref br, .ref bp, .ref bys, .int 0, .int 0, .int 0, .int 0, .int 0, .ref an, .ref va])), (to, .inl (y 0, 228, .inl (fun _ => 0))), (ha, .inl (y 0, 30, .inl (fun _ => 0)))] H := hP
  have hD : va_D A [(mo, .inr (11, [.ref to, .ref ke, .ref ik, .ref rf, .long 0, .long 1, .ref ha, .ref r0, .ref br, .ref bp, .ref bys, .int 0, .int 0, .int 0, .int 0, .int 0, .ref an, .ref va])), (to, .inl (y 0, 228, .inl (fun _ => 0))), (ha, .inl (y 0, 30, .inl (fun _ => 0)))] := hD
  refine lv_iinc (v := 18) (lv' := [(1, .int 18), (0, .ref mo)]) hx hb dX11_layHand_20 hl (k := 0) rfl (by decide) (by decide) rfl (fun ls hl => ?_)
  refine lv_goto (tgt := 2) hx hb dX11_layHand_23 (by decide) ?_
  refine lv_iload_n hx hb dX11_layHand_2 rfl (lv_at hl 0 rfl) ?_
  refine lv_bipush (v := 30) hx hb dX11_layHand_3 (by decide) ?_
  refine lv_icmp_ge (tgt := 26) hx hb dX11_layHand_5 (by decide) (fun h9 => absurd h9 (by decide)) (fun _ => ?_)
  refine lv_aload_n hx hb dX11_layHand_8 rfl (lv_at hl 1 rfl) ?_
  refine va_get (D := D) (ci := 11) (v := .ref ha) (C := RX11) (T := TX11) (N := 18) hx hb hts i11 hown hK hP 0 rfl rfl 6 (by decide) fw1 (fun _ h9 => h9) rfl dX11_layHand_9 ?_
  refine lv_iload_n hx hb dX11_layHand_12 rfl (lv_at hl 0 rfl) ?_
  refine lv_aload_n hx hb dX11_layHand_13 rfl (lv_at hl 1 rfl) ?_
  refine va_get (D := D) (ci := 11) (v := .ref to) (C := RX11) (T := TX11) (N := 18) hx hb hts i11 hown hK hP 0 rfl rfl 0 (by decide) fw2 (fun _ h9 => h9) rfl dX11_layHand_14 ?_
  refine lv_iload_n hx hb dX11_layHand_17 rfl (lv_at hl 0 rfl) ?_
  refine va_iald hx hb hK hP 1 0 rfl rfl (by unfold vp_in; decide) dX11_layHand_18 ?_
  refine lv_topi (fun z19 hz19 => ?_)
  obtain rfl : z19 = 0 := hz19.trans (by first | rfl | decide | assumption | (simp [upd]; done) | (unfold upd; rw [if_neg (by decide)]; assumption) | (simp [upd, *]; done))
  refine va_iast hx hb hK hP hD hS 2 0 rfl rfl (by unfold vp_in; decide) dX11_layHand_19 (fun H locs hP hD hS => ?_)
  rw [kw_upd0] at hP hD
  have hP : va_P D vwCl [(mo, .inr (11, [.ref to, .ref ke, .ref ik, .ref rf, .long 0, .long 1, .ref ha, .ref r0, .ref br, .ref bp, .ref bys, .int 0, .int 0, .int 0, .int 0, .int 0, .ref an, .ref va])), (to, .inl (y 0, 228, .inl (fun _ => 0))), (ha, .inl (y 0, 30, .inl (fun _ => 0)))] H := hP
  have hD : va_D A [(mo, .inr (11, [.ref to, .ref ke, .ref ik, .ref rf, .long 0, .long 1, .ref ha, .ref r0, .ref br, .ref bp, .ref bys, .int 0, .int 0, .int 0, .int 0, .int 0, .ref an, .ref va])), (to, .inl (y 0, 228, .inl (fun _ => 0))), (ha, .inl (y 0, 30, .inl (fun _ => 0)))] := hD
  refine lv_iinc (v := 19) (lv' := [(1, .int 19), (0, .ref mo)]) hx hb dX11_layHand_20 hl (k := 0) rfl (by decide) (by decide) rfl (fun ls hl => ?_)
  refine lv_goto (tgt := 2) hx hb dX11_layHand_23 (by decide) ?_
  refine lv_iload_n hx hb dX11_layHand_2 rfl (lv_at hl 0 rfl) ?_
  refine lv_bipush (v := 30) hx hb dX11_layHand_3 (by decide) ?_
  refine lv_icmp_ge (tgt := 26) hx hb dX11_layHand_5 (by decide) (fun h9 => absurd h9 (by decide)) (fun _ => ?_)
  refine lv_aload_n hx hb dX11_layHand_8 rfl (lv_at hl 1 rfl) ?_
  refine va_get (D := D) (ci := 11) (v := .ref ha) (C := RX11) (T := TX11) (N := 18) hx hb hts i11 hown hK hP 0 rfl rfl 6 (by decide) fw1 (fun _ h9 => h9) rfl dX11_layHand_9 ?_
  refine lv_iload_n hx hb dX11_layHand_12 rfl (lv_at hl 0 rfl) ?_
  refine lv_aload_n hx hb dX11_layHand_13 rfl (lv_at hl 1 rfl) ?_
  refine va_get (D := D) (ci := 11) (v := .ref to) (C := RX11) (T := TX11) (N := 18) hx hb hts i11 hown hK hP 0 rfl rfl 0 (by decide) fw2 (fun _ h9 => h9) rfl dX11_layHand_14 ?_
  refine lv_iload_n hx hb dX11_layHand_17 rfl (lv_at hl 0 rfl) ?_
  refine va_iald hx hb hK hP 1 0 rfl rfl (by unfold vp_in; decide) dX11_layHand_18 ?_
  refine lv_topi (fun z20 hz20 => ?_)
  obtain rfl : z20 = 0 := hz20.trans (by first | rfl | decide | assumption | (simp [upd]; done) | (unfold upd; rw [if_neg (by decide)]; assumption) | (simp [upd, *]; done))
  refine va_iast hx hb hK hP hD hS 2 0 rfl rfl (by unfold vp_in; decide) dX11_layHand_19 (fun H locs hP hD hS => ?_)
  rw [kw_upd0] at hP hD
  have hP : va_P D vwCl [(mo, .inr (11, [.ref to, .ref ke, .ref ik, .ref rf, .long 0, .long 1, .ref ha, .ref r0, .ref br, .ref bp, .ref bys, .int 0, .int 0, .int 0, .int 0, .int 0, .ref an, .ref va])), (to, .inl (y 0, 228, .inl (fun _ => 0))), (ha, .inl (y 0, 30, .inl (fun _ => 0)))] H := hP
  have hD : va_D A [(mo, .inr (11, [.ref to, .ref ke, .ref ik, .ref rf, .long 0, .long 1, .ref ha, .ref r0, .ref br, .ref bp, .ref bys, .int 0, .int 0, .int 0, .int 0, .int 0, .ref an, .ref va])), (to, .inl (y 0, 228, .inl (fun _ => 0))), (ha, .inl (y 0, 30, .inl (fun _ => 0)))] := hD
  refine lv_iinc (v := 20) (lv' := [(1, .int 20), (0, .ref mo)]) hx hb dX11_layHand_20 hl (k := 0) rfl (by decide) (by decide) rfl (fun ls hl => ?_)
  refine lv_goto (tgt := 2) hx hb dX11_layHand_23 (by decide) ?_
  refine lv_iload_n hx hb dX11_layHand_2 rfl (lv_at hl 0 rfl) ?_
  refine lv_bipush (v := 30) hx hb dX11_layHand_3 (by decide) ?_
  refine lv_icmp_ge (tgt := 26) hx hb dX11_layHand_5 (by decide) (fun h9 => absurd h9 (by decide)) (fun _ => ?_)
  refine lv_aload_n hx hb dX11_layHand_8 rfl (lv_at hl 1 rfl) ?_
  refine va_get (D := D) (ci := 11) (v := .ref ha) (C := RX11) (T := TX11) (N := 18) hx hb hts i11 hown hK hP 0 rfl rfl 6 (by decide) fw1 (fun _ h9 => h9) rfl dX11_layHand_9 ?_
  refine lv_iload_n hx hb dX11_layHand_12 rfl (lv_at hl 0 rfl) ?_
  refine lv_aload_n hx hb dX11_layHand_13 rfl (lv_at hl 1 rfl) ?_
  refine va_get (D := D) (ci := 11) (v := .ref to) (C := RX11) (T := TX11) (N := 18) hx hb hts i11 hown hK hP 0 rfl rfl 0 (by decide) fw2 (fun _ h9 => h9) rfl dX11_layHand_14 ?_
  refine lv_iload_n hx hb dX11_layHand_17 rfl (lv_at hl 0 rfl) ?_
  refine va_iald hx hb hK hP 1 0 rfl rfl (by unfold vp_in; decide) dX11_layHand_18 ?_
  refine lv_topi (fun z21 hz21 => ?_)
  obtain rfl : z21 = 0 := hz21.trans (by first | rfl | decide | assumption | (simp [upd]; done) | (unfold upd; rw [if_neg (by decide)]; assumption) | (simp [upd, *]; done))
  refine va_iast hx hb hK hP hD hS 2 0 rfl rfl (by unfold vp_in; decide) dX11_layHand_19 (fun H locs hP hD hS => ?_)
  rw [kw_upd0] at hP hD
  have hP : va_P D vwCl [(mo, .inr (11, [.ref to, .ref ke, .ref ik, .ref rf, .long 0, .long 1, .ref ha, .ref r0, .ref br, .ref bp, .ref bys, .int 0, .int 0, .int 0, .int 0, .int 0, .ref an, .ref va])), (to, .inl (y 0, 228, .inl (fun _ => 0))), (ha, .inl (y 0, 30, .inl (fun _ => 0)))] H := hP
  have hD : va_D A [(mo, .inr (11, [.ref to, .ref ke, .ref ik, .ref rf, .long 0, .long 1, .ref ha, .ref r0, .ref br, .ref bp, .ref bys, .int 0, .int 0, .int 0, .int 0, .int 0, .ref an, .ref va])), (to, .inl (y 0, 228, .inl (fun _ => 0))), (ha, .inl (y 0, 30, .inl (fun _ => 0)))] := hD
  refine lv_iinc (v := 21) (lv' := [(1, .int 21), (0, .ref mo)]) hx hb dX11_layHand_20 hl (k := 0) rfl (by decide) (by decide) rfl (fun ls hl => ?_)
  refine lv_goto (tgt := 2) hx hb dX11_layHand_23 (by decide) ?_
  refine lv_iload_n hx hb dX11_layHand_2 rfl (lv_at hl 0 rfl) ?_
  refine lv_bipush (v := 30) hx hb dX11_layHand_3 (by decide) ?_
  refine lv_icmp_ge (tgt := 26) hx hb dX11_layHand_5 (by decide) (fun h9 => absurd h9 (by decide)) (fun _ => ?_)
  refine lv_aload_n hx hb dX11_layHand_8 rfl (lv_at hl 1 rfl) ?_
  refine va_get (D := D) (ci := 11) (v := .ref ha) (C := RX11) (T := TX11) (N := 18) hx hb hts i11 hown hK hP 0 rfl rfl 6 (by decide) fw1 (fun _ h9 => h9) rfl dX11_layHand_9 ?_
  refine lv_iload_n hx hb dX11_layHand_12 rfl (lv_at hl 0 rfl) ?_
  refine lv_aload_n hx hb dX11_layHand_13 rfl (lv_at hl 1 rfl) ?_
  refine va_get (D := D) (ci := 11) (v := .ref to) (C := RX11) (T := TX11) (N := 18) hx hb hts i11 hown hK hP 0 rfl rfl 0 (by decide) fw2 (fun _ h9 => h9) rfl dX11_layHand_14 ?_
  refine lv_iload_n hx hb dX11_layHand_17 rfl (lv_at hl 0 rfl) ?_
  refine va_iald hx hb hK hP 1 0 rfl rfl (by unfold vp_in; decide) dX11_layHand_18 ?_
  refine lv_topi (fun z22 hz22 => ?_)
  obtain rfl : z22 = 0 := hz22.trans (by first | rfl | decide | assumption | (simp [upd]; done) | (unfold upd; rw [if_neg (by decide)]; assumption) | (simp [upd, *]; done))
  refine va_iast hx hb hK hP hD hS 2 0 rfl rfl (by unfold vp_in; decide) dX11_layHand_19 (fun H locs hP hD hS => ?_)
  rw [kw_upd0] at hP hD
  have hP : va_P D vwCl [(mo, .inr (11, [.ref to, .ref ke, .ref ik, .ref rf, .long 0, .long 1, .ref ha, .ref r0, .ref br, .ref bp, .ref bys, .int 0, .int 0, .int 0, .int 0, .int 0, .ref an, .ref va])), (to, .inl (y 0, 228, .inl (fun _ => 0))), (ha, .inl (y 0, 30, .inl (fun _ => 0)))] H := hP
  have hD : va_D A [(mo, .inr (11, [.ref to, .ref ke, .ref ik, .ref rf, .long 0, .long 1, .ref ha, .ref r0, .ref br, .ref bp, .ref bys, .int 0, .int 0, .int 0, .int 0, .int 0, .ref an, .ref va])), (to, .inl (y 0, 228, .inl (fun _ => 0))), (ha, .inl (y 0, 30, .inl (fun _ => 0)))] := hD
  refine lv_iinc (v := 22) (lv' := [(1, .int 22), (0, .ref mo)]) hx hb dX11_layHand_20 hl (k := 0) rfl (by decide) (by decide) rfl (fun ls hl => ?_)
  refine lv_goto (tgt := 2) hx hb dX11_layHand_23 (by decide) ?_
  refine lv_iload_n hx hb dX11_layHand_2 rfl (lv_at hl 0 rfl) ?_
  refine lv_bipush (v := 30) hx hb dX11_layHand_3 (by decide) ?_
  refine lv_icmp_ge (tgt := 26) hx hb dX11_layHand_5 (by decide) (fun h9 => absurd h9 (by decide)) (fun _ => ?_)
  refine lv_aload_n hx hb dX11_layHand_8 rfl (lv_at hl 1 rfl) ?_
  refine va_get (D := D) (ci := 11) (v := .ref ha) (C := RX11) (T := TX11) (N := 18) hx hb hts i11 hown hK hP 0 rfl rfl 6 (by decide) fw1 (fun _ h9 => h9) rfl dX11_layHand_9 ?_
  refine lv_iload_n hx hb dX11_layHand_12 rfl (lv_at hl 0 rfl) ?_
  refine lv_aload_n hx hb dX11_layHand_13 rfl (lv_at hl 1 rfl) ?_
  refine va_get (D := D) (ci := 11) (v := .ref to) (C := RX11) (T := TX11) (N := 18) hx hb hts i11 hown hK hP 0 rfl rfl 0 (by decide) fw2 (fun _ h9 => h9) rfl dX11_layHand_14 ?_
  refine lv_iload_n hx hb dX11_layHand_17 rfl (lv_at hl 0 rfl) ?_
  refine va_iald hx hb hK hP 1 0 rfl rfl (by unfold vp_in; decide) dX11_layHand_18 ?_
  refine lv_topi (fun z23 hz23 => ?_)
  obtain rfl : z23 = 0 := hz23.trans (by first | rfl | decide | assumption | (simp [upd]; done) | (unfold upd; rw [if_neg (by decide)]; assumption) | (simp [upd, *]; done))
  refine va_iast hx hb hK hP hD hS 2 0 rfl rfl (by unfold vp_in; decide) dX11_layHand_19 (fun H locs hP hD hS => ?_)
  rw [kw_upd0] at hP hD
  have hP : va_P D vwCl [(mo, .inr (11, [.ref to, .ref ke, .ref ik, .ref rf, .long 0, .long 1, .ref ha, .ref r0, .ref br, .ref bp, .ref bys, .int 0, .int 0, .int 0, .int 0, .int 0, .ref an, .ref va])), (to, .inl (y 0, 228, .inl (fun _ => 0))), (ha, .inl (y 0, 30, .inl (fun _ => 0)))] H := hP
  have hD : va_D A [(mo, .inr (11, [.ref to, .ref ke, .ref ik, .ref rf, .long 0, .long 1, .ref ha, .ref r0, .ref br, .ref bp, .ref bys, .int 0, .int 0, .int 0, .int 0, .int 0, .ref an, .ref va])), (to, .inl (y 0, 228, .inl (fun _ => 0))), (ha, .inl (y 0, 30, .inl (fun _ => 0)))] := hD
  refine lv_iinc (v := 23) (lv' := [(1, .int 23), (0, .ref mo)]) hx hb dX11_layHand_20 hl (k := 0) rfl (by decide) (by decide) rfl (fun ls hl => ?_)
  refine lv_goto (tgt := 2) hx hb dX11_layHand_23 (by decide) ?_
  refine lv_iload_n hx hb dX11_layHand_2 rfl (lv_at hl 0 rfl) ?_
  refine lv_bipush (v := 30) hx hb dX11_layHand_3 (by decide) ?_
  refine lv_icmp_ge (tgt := 26) hx hb dX11_layHand_5 (by decide) (fun h9 => absurd h9 (by decide)) (fun _ => ?_)
  refine lv_aload_n hx hb dX11_layHand_8 rfl (lv_at hl 1 rfl) ?_
  refine va_get (D := D) (ci := 11) (v := .ref ha) (C := RX11) (T := TX11) (N := 18) hx hb hts i11 hown hK hP 0 rfl rfl 6 (by decide) fw1 (fun _ h9 => h9) rfl dX11_layHand_9 ?_
  refine lv_iload_n hx hb dX11_layHand_12 rfl (lv_at hl 0 rfl) ?_
  refine lv_aload_n hx hb dX11_layHand_13 rfl (lv_at hl 1 rfl) ?_
  refine va_get (D := D) (ci := 11) (v := .ref to) (C := RX11) (T := TX11) (N := 18) hx hb hts i11 hown hK hP 0 rfl rfl 0 (by decide) fw2 (fun _ h9 => h9) rfl dX11_layHand_14 ?_
  refine lv_iload_n hx hb dX11_layHand_17 rfl (lv_at hl 0 rfl) ?_
  refine va_iald hx hb hK hP 1 0 rfl rfl (by unfold vp_in; decide) dX11_layHand_18 ?_
  refine lv_topi (fun z24 hz24 => ?_)
  obtain rfl : z24 = 0 := hz24.trans (by first | rfl | decide | assumption | (simp [upd]; done) | (unfold upd; rw [if_neg (by decide)]; assumption) | (simp [upd, *]; done))
  refine va_iast hx hb hK hP hD hS 2 0 rfl rfl (by unfold vp_in; decide) dX11_layHand_19 (fun H locs hP hD hS => ?_)
  rw [kw_upd0] at hP hD
  have hP : va_P D vwCl [(mo, .inr (11, [.ref to, .ref ke, .ref ik, .ref rf, .long 0, .long 1, .ref ha, .ref r0, .ref br, .ref bp, .ref bys, .int 0, .int 0, .int 0, .int 0, .int 0, .ref an, .ref va])), (to, .inl (y 0, 228, .inl (fun _ => 0))), (ha, .inl (y 0, 30, .inl (fun _ => 0)))] H := hP
  have hD : va_D A [(mo, .inr (11, [.ref to, .ref ke, .ref ik, .ref rf, .long 0, .long 1, .ref ha, .ref r0, .ref br, .ref bp, .ref bys, .int 0, .int 0, .int 0, .int 0, .int 0, .ref an, .ref va])), (to, .inl (y 0, 228, .inl (fun _ => 0))), (ha, .inl (y 0, 30, .inl (fun _ => 0)))] := hD
  refine lv_iinc (v := 24) (lv' := [(1, .int 24), (0, .ref mo)]) hx hb dX11_layHand_20 hl (k := 0) rfl (by decide) (by decide) rfl (fun ls hl => ?_)
  refine lv_goto (tgt := 2) hx hb dX11_layHand_23 (by decide) ?_
  refine lv_iload_n hx hb dX11_layHand_2 rfl (lv_at hl 0 rfl) ?_
  refine lv_bipush (v := 30) hx hb dX11_layHand_3 (by decide) ?_
  refine lv_icmp_ge (tgt := 26) hx hb dX11_layHand_5 (by decide) (fun h9 => absurd h9 (by decide)) (fun _ => ?_)
  refine lv_aload_n hx hb dX11_layHand_8 rfl (lv_at hl 1 rfl) ?_
  refine va_get (D := D) (ci := 11) (v := .ref ha) (C := RX11) (T := TX11) (N := 18) hx hb hts i11 hown hK hP 0 rfl rfl 6 (by decide) fw1 (fun _ h9 => h9) rfl dX11_layHand_9 ?_
  refine lv_iload_n hx hb dX11_layHand_12 rfl (lv_at hl 0 rfl) ?_
  refine lv_aload_n hx hb dX11_layHand_13 rfl (lv_at hl 1 rfl) ?_
  refine va_get (D := D) (ci := 11) (v := .ref to) (C := RX11) (T := TX11) (N := 18) hx hb hts i11 hown hK hP 0 rfl rfl 0 (by decide) fw2 (fun _ h9 => h9) rfl dX11_layHand_14 ?_
  refine lv_iload_n hx hb dX11_layHand_17 rfl (lv_at hl 0 rfl) ?_
  refine va_iald hx hb hK hP 1 0 rfl rfl (by unfold vp_in; decide) dX11_layHand_18 ?_
  refine lv_topi (fun z25 hz25 => ?_)
  obtain rfl : z25 = 0 := hz25.trans (by first | rfl | decide | assumption | (simp [upd]; done) | (unfold upd; rw [if_neg (by decide)]; assumption) | (simp [upd, *]; done))
  refine va_iast hx hb hK hP hD hS 2 0 rfl rfl (by unfold vp_in; decide) dX11_layHand_19 (fun H locs hP hD hS => ?_)
  rw [kw_upd0] at hP hD
  have hP : va_P D vwCl [(mo, .inr (11, [.ref to, .ref ke, .ref ik, .ref rf, .long 0, .long 1, .ref ha, .ref r0, .ref br, .ref bp, .ref bys, .int 0, .int 0, .int 0, .int 0, .int 0, .ref an, .ref va])), (to, .inl (y 0, 228, .inl (fun _ => 0))), (ha, .inl (y 0, 30, .inl (fun _ => 0)))] H := hP
  have hD : va_D A [(mo, .inr (11, [.ref to, .ref ke, .ref ik, .ref rf, .long 0, .long 1, .ref ha, .ref r0, .ref br, .ref bp, .ref bys, .int 0, .int 0, .int 0, .int 0, .int 0, .ref an, .ref va])), (to, .inl (y 0, 228, .inl (fun _ => 0))), (ha, .inl (y 0, 30, .inl (fun _ => 0)))] := hD
  refine lv_iinc (v := 25) (lv' := [(1, .int 25), (0, .ref mo)]) hx hb dX11_layHand_20 hl (k := 0) rfl (by decide) (by decide) rfl (fun ls hl => ?_)
  refine lv_goto (tgt := 2) hx hb dX11_layHand_23 (by decide) ?_
  refine lv_iload_n hx hb dX11_layHand_2 rfl (lv_at hl 0 rfl) ?_
  refine lv_bipush (v := 30) hx hb dX11_layHand_3 (by decide) ?_
  refine lv_icmp_ge (tgt := 26) hx hb dX11_layHand_5 (by decide) (fun h9 => absurd h9 (by decide)) (fun _ => ?_)
  refine lv_aload_n hx hb dX11_layHand_8 rfl (lv_at hl 1 rfl) ?_
  refine va_get (D := D) (ci := 11) (v := .ref ha) (C := RX11) (T := TX11) (N := 18) hx hb hts i11 hown hK hP 0 rfl rfl 6 (by decide) fw1 (fun _ h9 => h9) rfl dX11_layHand_9 ?_
  refine lv_iload_n hx hb dX11_layHand_12 rfl (lv_at hl 0 rfl) ?_
  refine lv_aload_n hx hb dX11_layHand_13 rfl (lv_at hl 1 rfl) ?_
  refine va_get (D := D) (ci := 11) (v := .ref to) (C := RX11) (T := TX11) (N := 18) hx hb hts i11 hown hK hP 0 rfl rfl 0 (by decide) fw2 (fun _ h9 => h9) rfl dX11_layHand_14 ?_
  refine lv_iload_n hx hb dX11_layHand_17 rfl (lv_at hl 0 rfl) ?_
  refine va_iald hx hb hK hP 1 0 rfl rfl (by unfold vp_in; decide) dX11_layHand_18 ?_
  refine lv_topi (fun z26 hz26 => ?_)
  obtain rfl : z26 = 0 := hz26.trans (by first | rfl | decide | assumption | (simp [upd]; done) | (unfold upd; rw [if_neg (by decide)]; assumption) | (simp [upd, *]; done))
  refine va_iast hx hb hK hP hD hS 2 0 rfl rfl (by unfold vp_in; decide) dX11_layHand_19 (fun H locs hP hD hS => ?_)
  rw [kw_upd0] at hP hD
  have hP : va_P D vwCl [(mo, .inr (11, [.ref to, .ref ke, .ref ik, .ref rf, .long 0, .long 1, .ref ha, .ref r0, .ref br, .ref bp, .ref bys, .int 0, .int 0, .int 0, .int 0, .int 0, .ref an, .ref va])), (to, .inl (y 0, 228, .inl (fun _ => 0))), (ha, .inl (y 0, 30, .inl (fun _ => 0)))] H := hP
  have hD : va_D A [(mo, .inr (11, [.ref to, .ref ke, .ref ik, .ref rf, .long 0, .long 1, .ref ha, .ref r0, .ref br, .ref bp, .ref bys, .int 0, .int 0, .int 0, .int 0, .int 0, .ref an, .ref va])), (to, .inl (y 0, 228, .inl (fun _ => 0))), (ha, .inl (y 0, 30, .inl (fun _ => 0)))] := hD
  refine lv_iinc (v := 26) (lv' := [(1, .int 26), (0, .ref mo)]) hx hb dX11_layHand_20 hl (k := 0) rfl (by decide) (by decide) rfl (fun ls hl => ?_)
  refine lv_goto (tgt := 2) hx hb dX11_layHand_23 (by decide) ?_
  refine lv_iload_n hx hb dX11_layHand_2 rfl (lv_at hl 0 rfl) ?_
  refine lv_bipush (v := 30) hx hb dX11_layHand_3 (by decide) ?_
  refine lv_icmp_ge (tgt := 26) hx hb dX11_layHand_5 (by decide) (fun h9 => absurd h9 (by decide)) (fun _ => ?_)
  refine lv_aload_n hx hb dX11_layHand_8 rfl (lv_at hl 1 rfl) ?_
  refine va_get (D := D) (ci := 11) (v := .ref ha) (C := RX11) (T := TX11) (N := 18) hx hb hts i11 hown hK hP 0 rfl rfl 6 (by decide) fw1 (fun _ h9 => h9) rfl dX11_layHand_9 ?_
  refine lv_iload_n hx hb dX11_layHand_12 rfl (lv_at hl 0 rfl) ?_
  refine lv_aload_n hx hb dX11_layHand_13 rfl (lv_at hl 1 rfl) ?_
  refine va_get (D := D) (ci := 11) (v := .ref to) (C := RX11) (T := TX11) (N := 18) hx hb hts i11 hown hK hP 0 rfl rfl 0 (by decide) fw2 (fun _ h9 => h9) rfl dX11_layHand_14 ?_
  refine lv_iload_n hx hb dX11_layHand_17 rfl (lv_at hl 0 rfl) ?_
  refine va_iald hx hb hK hP 1 0 rfl rfl (by unfold vp_in; decide) dX11_layHand_18 ?_
  refine lv_topi (fun z27 hz27 => ?_)
  obtain rfl : z27 = 0 := hz27.trans (by first | rfl | decide | assumption | (simp [upd]; done) | (unfold upd; rw [if_neg (by decide)]; assumption) | (simp [upd, *]; done))
  refine va_iast hx hb hK hP hD hS 2 0 rfl rfl (by unfold vp_in; decide) dX11_layHand_19 (fun H locs hP hD hS => ?_)
  rw [kw_upd0] at hP hD
  have hP : va_P D vwCl [(mo, .inr (11, [.ref to, .ref ke, .ref ik, .ref rf, .long 0, .long 1, .ref ha, .ref r0, .ref br, .ref bp, .ref bys, .int 0, .int 0, .int 0, .int 0, .int 0, .ref an, .ref va])), (to, .inl (y 0, 228, .inl (fun _ => 0))), (ha, .inl (y 0, 30, .inl (fun _ => 0)))] H := hP
  have hD : va_D A [(mo, .inr (11, [.ref to, .ref ke, .ref ik, .ref rf, .long 0, .long 1, .ref ha, .ref r0, .ref br, .ref bp, .ref bys, .int 0, .int 0, .int 0, .int 0, .int 0, .ref an, .ref va])), (to, .inl (y 0, 228, .inl (fun _ => 0))), (ha, .inl (y 0, 30, .inl (fun _ => 0)))] := hD
  refine lv_iinc (v := 27) (lv' := [(1, .int 27), (0, .ref mo)]) hx hb dX11_layHand_20 hl (k := 0) rfl (by decide) (by decide) rfl (fun ls hl => ?_)
  refine lv_goto (tgt := 2) hx hb dX11_layHand_23 (by decide) ?_
  refine lv_iload_n hx hb dX11_layHand_2 rfl (lv_at hl 0 rfl) ?_
  refine lv_bipush (v := 30) hx hb dX11_layHand_3 (by decide) ?_
  refine lv_icmp_ge (tgt := 26) hx hb dX11_layHand_5 (by decide) (fun h9 => absurd h9 (by decide)) (fun _ => ?_)
  refine lv_aload_n hx hb dX11_layHand_8 rfl (lv_at hl 1 rfl) ?_
  refine va_get (D := D) (ci := 11) (v := .ref ha) (C := RX11) (T := TX11) (N := 18) hx hb hts i11 hown hK hP 0 rfl rfl 6 (by decide) fw1 (fun _ h9 => h9) rfl dX11_layHand_9 ?_
  refine lv_iload_n hx hb dX11_layHand_12 rfl (lv_at hl 0 rfl) ?_
  refine lv_aload_n hx hb dX11_layHand_13 rfl (lv_at hl 1 rfl) ?_
  refine va_get (D := D) (ci := 11) (v := .ref to) (C := RX11) (T := TX11) (N := 18) hx hb hts i11 hown hK hP 0 rfl rfl 0 (by decide) fw2 (fun _ h9 => h9) rfl dX11_layHand_14 ?_
  refine lv_iload_n hx hb dX11_layHand_17 rfl (lv_at hl 0 rfl) ?_
  refine va_iald hx hb hK hP 1 0 rfl rfl (by unfold vp_in; decide) dX11_layHand_18 ?_
  refine lv_topi (fun z28 hz28 => ?_)
  obtain rfl : z28 = 0 := hz28.trans (by first | rfl | decide | assumption | (simp [upd]; done) | (unfold upd; rw [if_neg (by decide)]; assumption) | (simp [upd, *]; done))
  refine va_iast hx hb hK hP hD hS 2 0 rfl rfl (by unfold vp_in; decide) dX11_layHand_19 (fun H locs hP hD hS => ?_)
  rw [kw_upd0] at hP hD
  have hP : va_P D vwCl [(mo, .inr (11, [.ref to, .ref ke, .ref ik, .ref rf, .long 0, .long 1, .ref ha, .ref r0, .ref br, .ref bp, .ref bys, .int 0, .int 0, .int 0, .int 0, .int 0, .ref an, .ref va])), (to, .inl (y 0, 228, .inl (fun _ => 0))), (ha, .inl (y 0, 30, .inl (fun _ => 0)))] H := hP
  have hD : va_D A [(mo, .inr (11, [.ref to, .ref ke, .ref ik, .ref rf, .long 0, .long 1, .ref ha, .ref r0, .ref br, .ref bp, .ref bys, .int 0, .int 0, .int 0, .int 0, .int 0, .ref an, .ref va])), (to, .inl (y 0, 228, .inl (fun _ => 0))), (ha, .inl (y 0, 30, .inl (fun _ => 0)))] := hD
  refine lv_iinc (v := 28) (lv' := [(1, .int 28), (0, .ref mo)]) hx hb dX11_layHand_20 hl (k := 0) rfl (by decide) (by decide) rfl (fun ls hl => ?_)
  refine lv_goto (tgt := 2) hx hb dX11_layHand_23 (by decide) ?_
  refine lv_iload_n hx hb dX11_layHand_2 rfl (lv_at hl 0 rfl) ?_
  refine lv_bipush (v := 30) hx hb dX11_layHand_3 (by decide) ?_
  refine lv_icmp_ge (tgt := 26) hx hb dX11_layHand_5 (by decide) (fun h9 => absurd h9 (by decide)) (fun _ => ?_)
  refine lv_aload_n hx hb dX11_layHand_8 rfl (lv_at hl 1 rfl) ?_
  refine va_get (D := D) (ci := 11) (v := .ref ha) (C := RX11) (T := TX11) (N := 18) hx hb hts i11 hown hK hP 0 rfl rfl 6 (by decide) fw1 (fun _ h9 => h9) rfl dX11_layHand_9 ?_
  refine lv_iload_n hx hb dX11_layHand_12 rfl (lv_at hl 0 rfl) ?_
  refine lv_aload_n hx hb dX11_layHand_13 rfl (lv_at hl 1 rfl) ?_
  refine va_get (D := D) (ci := 11) (v := .ref to) (C := RX11) (T := TX11) (N := 18) hx hb hts i11 hown hK hP 0 rfl rfl 0 (by decide) fw2 (fun _ h9 => h9) rfl dX11_layHand_14 ?_
  refine lv_iload_n hx hb dX11_layHand_17 rfl (lv_at hl 0 rfl) ?_
  refine va_iald hx hb hK hP 1 0 rfl rfl (by unfold vp_in; decide) dX11_layHand_18 ?_
  refine lv_topi (fun z29 hz29 => ?_)
  obtain rfl : z29 = 0 := hz29.trans (by first | rfl | decide | assumption | (simp [upd]; done) | (unfold upd; rw [if_neg (by decide)]; assumption) | (simp [upd, *]; done))
  refine va_iast hx hb hK hP hD hS 2 0 rfl rfl (by unfold vp_in; decide) dX11_layHand_19 (fun H locs hP hD hS => ?_)
  rw [kw_upd0] at hP hD
  have hP : va_P D vwCl [(mo, .inr (11, [.ref to, .ref ke, .ref ik, .ref rf, .long 0, .long 1, .ref ha, .ref r0, .ref br, .ref bp, .ref bys, .int 0, .int 0, .int 0, .int 0, .int 0, .ref an, .ref va])), (to, .inl (y 0, 228, .inl (fun _ => 0))), (ha, .inl (y 0, 30, .inl (fun _ => 0)))] H := hP
  have hD : va_D A [(mo, .inr (11, [.ref to, .ref ke, .ref ik, .ref rf, .long 0, .long 1, .ref ha, .ref r0, .ref br, .ref bp, .ref bys, .int 0, .int 0, .int 0, .int 0, .int 0, .ref an, .ref va])), (to, .inl (y 0, 228, .inl (fun _ => 0))), (ha, .inl (y 0, 30, .inl (fun _ => 0)))] := hD
  refine lv_iinc (v := 29) (lv' := [(1, .int 29), (0, .ref mo)]) hx hb dX11_layHand_20 hl (k := 0) rfl (by decide) (by decide) rfl (fun ls hl => ?_)
  refine lv_goto (tgt := 2) hx hb dX11_layHand_23 (by decide) ?_
  refine lv_iload_n hx hb dX11_layHand_2 rfl (lv_at hl 0 rfl) ?_
  refine lv_bipush (v := 30) hx hb dX11_layHand_3 (by decide) ?_
  refine lv_icmp_ge (tgt := 26) hx hb dX11_layHand_5 (by decide) (fun h9 => absurd h9 (by decide)) (fun _ => ?_)
  refine lv_aload_n hx hb dX11_layHand_8 rfl (lv_at hl 1 rfl) ?_
  refine va_get (D := D) (ci := 11) (v := .ref ha) (C := RX11) (T := TX11) (N := 18) hx hb hts i11 hown hK hP 0 rfl rfl 6 (by decide) fw1 (fun _ h9 => h9) rfl dX11_layHand_9 ?_
  refine lv_iload_n hx hb dX11_layHand_12 rfl (lv_at hl 0 rfl) ?_
  refine lv_aload_n hx hb dX11_layHand_13 rfl (lv_at hl 1 rfl) ?_
  refine va_get (D := D) (ci := 11) (v := .ref to) (C := RX11) (T := TX11) (N := 18) hx hb hts i11 hown hK hP 0 rfl rfl 0 (by decide) fw2 (fun _ h9 => h9) rfl dX11_layHand_14 ?_
  refine lv_iload_n hx hb dX11_layHand_17 rfl (lv_at hl 0 rfl) ?_
  refine va_iald hx hb hK hP 1 0 rfl rfl (by unfold vp_in; decide) dX11_layHand_18 ?_
  refine lv_topi (fun z30 hz30 => ?_)
  obtain rfl : z30 = 0 := hz30.trans (by first | rfl | decide | assumption | (simp [upd]; done) | (unfold upd; rw [if_neg (by decide)]; assumption) | (simp [upd, *]; done))
  refine va_iast hx hb hK hP hD hS 2 0 rfl rfl (by unfold vp_in; decide) dX11_layHand_19 (fun H locs hP hD hS => ?_)
  rw [kw_upd0] at hP hD
  have hP : va_P D vwCl [(mo, .inr (11, [.ref to, .ref ke, .ref ik, .ref rf, .long 0, .long 1, .ref ha, .ref r0, .ref br, .ref bp, .ref bys, .int 0, .int 0, .int 0, .int 0, .int 0, .ref an, .ref va])), (to, .inl (y 0, 228, .inl (fun _ => 0))), (ha, .inl (y 0, 30, .inl (fun _ => 0)))] H := hP
  have hD : va_D A [(mo, .inr (11, [.ref to, .ref ke, .ref ik, .ref rf, .long 0, .long 1, .ref ha, .ref r0, .ref br, .ref bp, .ref bys, .int 0, .int 0, .int 0, .int 0, .int 0, .ref an, .ref va])), (to, .inl (y 0, 228, .inl (fun _ => 0))), (ha, .inl (y 0, 30, .inl (fun _ => 0)))] := hD
  refine lv_iinc (v := 30) (lv' := [(1, .int 30), (0, .ref mo)]) hx hb dX11_layHand_20 hl (k := 0) rfl (by decide) (by decide) rfl (fun ls hl => ?_)
  refine lv_goto (tgt := 2) hx hb dX11_layHand_23 (by decide) ?_
  refine lv_iload_n hx hb dX11_layHand_2 rfl (lv_at hl 0 rfl) ?_
  refine lv_bipush (v := 30) hx hb dX11_layHand_3 (by decide) ?_
  refine lv_icmp_ge (tgt := 26) hx hb dX11_layHand_5 (by decide) (fun _ => ?_) (fun h9 => absurd h9 (by decide))
  exact W.vret hx hb hr (fun tZ ht hW => ⟨⟨(), rfl, trivial, by rw [ht]; exact hP.sub [0, 1, 2] rfl, hD.sub [0, 1, 2] (by decide) rfl⟩, hS.F ht⟩) hS.2.2 dX11_layHand_26
