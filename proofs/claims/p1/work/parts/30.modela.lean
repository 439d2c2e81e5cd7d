set_option maxHeartbeats 4000000 in
set_option maxRecDepth 100000 in
theorem cw_in (l : Launch) (D : va_G) (y : Nat → ClassId) (v : Int64) (lo : Int64) (hi : Int64) : kw_Mi l yX11_in wsX11_in ({ frames := 1, cells := 0, slots := 0, locals := 40 }) D y [.long v, .long lo, .long hi] [] (fun (r : Int32) (u : Unit) => (v < lo ∧ r = 0) ∨ (¬ v < lo ∧ hi < v ∧ r = 0) ∨ (¬ v < lo ∧ ¬ hi < v ∧ r = 1)) (fun _ => []) 0 0 := by
  refine kw_Mi.of (cc := cX11_in) (maxL := 6) (ret := (some .boolean)) (by decide) rfl ?_
  intro pZ eZ s mZ beZ meZ cZ A hE
  obtain ⟨hx, hb, hr, hml, hts, hown, hlocks, hin, hA, hP, hD, hK, hN⟩ := hE
  have hS : va_S A s.heap s.heap [] := va_S.rf
  have hl := lv_entry ([.long v, .long lo, .long hi]) (n := 6) (Nat.le_of_ble_eq_true rfl)
  rw [lg_entry_eq]
  generalize (lg_sl ([.long v, .long lo, .long hi]) ++ List.replicate (6 - (lg_sl ([.long v, .long lo, .long hi])).length) Slot.unset).toArray = ls at hl ⊢
  have hl : lv_has ls 6 [(0, .long v), (2, .long lo), (4, .long hi)] := hl
  refine lv_lload_n hx hb dX11_in_0 rfl (lv_at hl 0 rfl) ?_
  refine lv_lload_n hx hb dX11_in_1 rfl (lv_at hl 1 rfl) ?_
  refine W.lcmp hx hb dX11_in_2 ?_
  refine lv_if_lt (tgt := 17) hx hb dX11_in_3 (by decide) (fun h1 => ?_) (fun h2 => ?_)
  · skip
    have h1 : v < lo := kw_clt_t h1
    refine lv_iconst (v := 0) hx hb dX11_in_17 (by decide) ?_
    exact W.zret (v := 0) hx hb hr (by decide) (fun tZ ht hW => ⟨⟨0, (), rfl, Or.inl ⟨h1, rfl⟩, by rw [ht]; exact hP.sub [] rfl, hD.sub [] (by decide) rfl⟩, hS.F ht⟩) hS.2.2 dX11_in_18
  · skip
    have h2 : ¬ v < lo := kw_clt_f h2
    refine lv_lload_n hx hb dX11_in_6 rfl (lv_at hl 0 rfl) ?_
    refine lv_lload hx hb dX11_in_7 (lv_at hl 2 rfl) ?_
    refine W.lcmp hx hb dX11_in_9 ?_
    refine lv_if_gt (tgt := 17) hx hb dX11_in_10 (by decide) (fun h3 => ?_) (fun h4 => ?_)
    · skip
      have h3 : hi < v := kw_cgt_t h3
      refine lv_iconst (v := 0) hx hb dX11_in_17 (by decide) ?_
      exact W.zret (v := 0) hx hb hr (by decide) (fun tZ ht hW => ⟨⟨0, (), rfl, Or.inr (Or.inl ⟨h2, h3, rfl⟩), by rw [ht]; exact hP.sub [] rfl, hD.sub [] (by decide) rfl⟩, hS.F ht⟩) hS.2.2 dX11_in_18
    · skip
      have h4 : ¬ hi < v := kw_cgt_f h4
      refine lv_iconst (v := 1) hx hb dX11_in_13 (by decide) ?_
      refine lv_goto (tgt := 18) hx hb dX11_in_14 (by decide) ?_
      exact W.zret (v := 1) hx hb hr (by decide) (fun tZ ht hW => ⟨⟨1, (), rfl, Or.inr (Or.inr (⟨h2, h4, rfl⟩)), by rw [ht]; exact hP.sub [] rfl, hD.sub [] (by decide) rfl⟩, hS.F ht⟩) hS.2.2 dX11_in_18

set_option maxHeartbeats 4000000 in
set_option maxRecDepth 100000 in
theorem cw_bad (l : Launch) (D : va_G) (y : Nat → ClassId) (mo : Nat) (to : Nat) (ke : Nat) (ik : Nat) (rf : Nat) (ha : Nat) (r0 : Nat) (br : Nat) (bp : Nat) (bys : Nat) (an : Nat) (va : Nat) (f : Nat → Int32) (x : Int32) : kw_Mi l yX11_bad wsX11_bad ({ frames := 1, cells := 0, slots := 0, locals := 40 }) D y [.ref mo, .int x] [(mo, .inr (11, [.ref to, .ref ke, .ref ik, .ref rf, .long 0, .long 1, .ref ha, .ref r0, .ref br, .ref bp, .ref bys, .int 0, .int 0, .int 0, .int 0, .int 0, .ref an, .ref va])), (rf, .inl (y 0, 3, .inl f))] (fun (r : Int32) (u : Unit) => r = x) (fun _ => []) 0 0 := by
  refine kw_Mi.of (cc := cX11_bad) (maxL := 2) (ret := (some .int)) (by decide) rfl ?_
  intro pZ eZ s mZ beZ meZ cZ A hE
  obtain ⟨hx, hb, hr, hml, hts, hown, hlocks, hin, hA, hP, hD, hK, hN⟩ := hE
  have hS : va_S A s.heap s.heap [] := va_S.rf
  have hl := lv_entry ([.ref mo, .int x]) (n := 2) (Nat.le_of_ble_eq_true rfl)
  rw [lg_entry_eq]
  generalize (lg_sl ([.ref mo, .int x]) ++ List.replicate (2 - (lg_sl ([.ref mo, .int x])).length) Slot.unset).toArray = ls at hl ⊢
  have hl : lv_has ls 2 [(0, .ref mo), (1, .int x)] := hl
  have fw1 := hts (.fieldLink RX11 20 "GleanDuskModel" "refused" "[I") (List.mem_of_getElem? (i := 1) rfl)
  have i11 : ∀ w ∈ wsX110, w ∈ wsX11_bad := fun _ h => List.mem_cons_of_mem _ (List.mem_append_right _ h)
  refine lv_aload_n hx hb dX11_bad_0 rfl (lv_at hl 0 rfl) ?_
  refine va_get (D := D) (ci := 11) (v := .ref rf) (C := RX11) (T := TX11) (N := 18) hx hb hts i11 hown hK hP 0 rfl rfl 3 (by decide) fw1 (fun _ h9 => h9) rfl dX11_bad_1 ?_
  refine lv_iconst (v := 0) hx hb dX11_bad_4 (by decide) ?_
  refine lv_dup2_11 hx hb dX11_bad_5 rfl rfl ?_
  refine va_iald hx hb hK hP 1 0 rfl rfl (by unfold vp_in; decide) dX11_bad_6 ?_
  refine lv_iconst (v := 1) hx hb dX11_bad_7 (by decide) ?_
  refine lv_iadd hx hb dX11_bad_8 ?_
  refine va_iast hx hb hK hP hD hS 1 0 rfl rfl (by unfold vp_in; decide) dX11_bad_9 (fun H locs hP hD hS => ?_)
  have hP : va_P D vwCl [(mo, .inr (11, [.ref to, .ref ke, .ref ik, .ref rf, .long 0, .long 1, .ref ha, .ref r0, .ref br, .ref bp, .ref bys, .int 0, .int 0, .int 0, .int 0, .int 0, .ref an, .ref va])), (rf, .inl (y 0, 3, .inl (upd f (0 : Int32).toNatClampNeg ((f (0 : Int32).toNatClampNeg) + 1))))] H := hP
  have hD : va_D A [(mo, .inr (11, [.ref to, .ref ke, .ref ik, .ref rf, .long 0, .long 1, .ref ha, .ref r0, .ref br, .ref bp, .ref bys, .int 0, .int 0, .int 0, .int 0, .int 0, .ref an, .ref va])), (rf, .inl (y 0, 3, .inl (upd f (0 : Int32).toNatClampNeg ((f (0 : Int32).toNatClampNeg) + 1))))] := hD
  refine lv_iload_n hx hb dX11_bad_10 rfl (lv_at hl 1 rfl) ?_
  exact W.iret (v := x) hx hb hr (fun tZ ht hW => ⟨⟨x, (), rfl, rfl, by rw [ht]; exact hP.sub [] rfl, hD.sub [] (by decide) rfl⟩, hS.F ht⟩) hS.2.2 dX11_bad_11

set_option maxHeartbeats 4000000 in
set_option maxRecDepth 100000 in
theorem cw_no (l : Launch) (D : va_G) (y : Nat → ClassId) (mo : Nat) (to : Nat) (ke : Nat) (ik : Nat) (rf : Nat) (ha : Nat) (r0 : Nat) (br : Nat) (bp : Nat) (bys : Nat) (an : Nat) (va : Nat) (f : Nat → Int32) : kw_Mi l yX11_no wsX11_no ({ frames := 1, cells := 0, slots := 0, locals := 40 }) D y [.ref mo] [(mo, .inr (11, [.ref to, .ref ke, .ref ik, .ref rf, .long 0, .long 1, .ref ha, .ref r0, .ref br, .ref bp, .ref bys, .int 0, .int 0, .int 0, .int 0, .int 0, .ref an, .ref va])), (rf, .inl (y 0, 3, .inl f))] (fun (r : Int32) (u : Unit) => r = (-3)) (fun _ => []) 0 0 := by
  refine kw_Mi.of (cc := cX11_no) (maxL := 1) (ret := (some .int)) (by decide) rfl ?_
  intro pZ eZ s mZ beZ meZ cZ A hE
  obtain ⟨hx, hb, hr, hml, hts, hown, hlocks, hin, hA, hP, hD, hK, hN⟩ := hE
  have hS : va_S A s.heap s.heap [] := va_S.rf
  have hl := lv_entry ([.ref mo]) (n := 1) (Nat.le_of_ble_eq_true rfl)
  rw [lg_entry_eq]
  generalize (lg_sl ([.ref mo]) ++ List.replicate (1 - (lg_sl ([.ref mo])).length) Slot.unset).toArray = ls at hl ⊢
  have hl : lv_has ls 1 [(0, .ref mo)] := hl
  have fw1 := hts (.fieldLink RX11 20 "GleanDuskModel" "refused" "[I") (List.mem_of_getElem? (i := 1) rfl)
  have i11 : ∀ w ∈ wsX110, w ∈ wsX11_no := fun _ h => List.mem_cons_of_mem _ (List.mem_append_right _ h)
  refine lv_aload_n hx hb dX11_no_0 rfl (lv_at hl 0 rfl) ?_
  refine va_get (D := D) (ci := 11) (v := .ref rf) (C := RX11) (T := TX11) (N := 18) hx hb hts i11 hown hK hP 0 rfl rfl 3 (by decide) fw1 (fun _ h9 => h9) rfl dX11_no_1 ?_
  refine lv_iconst (v := 1) hx hb dX11_no_4 (by decide) ?_
  refine lv_dup2_11 hx hb dX11_no_5 rfl rfl ?_
  refine va_iald hx hb hK hP 1 0 rfl rfl (by unfold vp_in; decide) dX11_no_6 ?_
  refine lv_iconst (v := 1) hx hb dX11_no_7 (by decide) ?_
  refine lv_iadd hx hb dX11_no_8 ?_
  refine va_iast hx hb hK hP hD hS 1 0 rfl rfl (by unfold vp_in; decide) dX11_no_9 (fun H locs hP hD hS => ?_)
  have hP : va_P D vwCl [(mo, .inr (11, [.ref to, .ref ke, .ref ik, .ref rf, .long 0, .long 1, .ref ha, .ref r0, .ref br, .ref bp, .ref bys, .int 0, .int 0, .int 0, .int 0, .int 0, .ref an, .ref va])), (rf, .inl (y 0, 3, .inl (upd f (1 : Int32).toNatClampNeg ((f (1 : Int32).toNatClampNeg) + 1))))] H := hP
  have hD : va_D A [(mo, .inr (11, [.ref to, .ref ke, .ref ik, .ref rf, .long 0, .long 1, .ref ha, .ref r0, .ref br, .ref bp, .ref bys, .int 0, .int 0, .int 0, .int 0, .int 0, .ref an, .ref va])), (rf, .inl (y 0, 3, .inl (upd f (1 : Int32).toNatClampNeg ((f (1 : Int32).toNatClampNeg) + 1))))] := hD
  refine lv_bipush (v := (-3)) hx hb dX11_no_10 (by decide) ?_
  exact W.iret (v := (-3)) hx hb hr (fun tZ ht hW => ⟨⟨(-3), (), rfl, rfl, by rw [ht]; exact hP.sub [] rfl, hD.sub [] (by decide) rfl⟩, hS.F ht⟩) hS.2.2 dX11_no_12

set_option maxHeartbeats 4000000 in
set_option maxRecDepth 100000 in
theorem cw_full (l : Launch) (D : va_G) (y : Nat → ClassId) (mo : Nat) (to : Nat) (ke : Nat) (ik : Nat) (rf : Nat) (ha : Nat) (r0 : Nat) (br : Nat) (bp : Nat) (bys : Nat) (an : Nat) (va : Nat) (f : Nat → Int32) : kw_Mi l yX11_full wsX11_full ({ frames := 1, cells := 0, slots := 0, locals := 40 }) D y [.ref mo] [(mo, .inr (11, [.ref to, .ref ke, .ref ik, .ref rf, .long 0, .long 1, .ref ha, .ref r0, .ref br, .ref bp, .ref bys, .int 0, .int 0, .int 0, .int 0, .int 0, .ref an, .ref va])), (rf, .inl (y 0, 3, .inl f))] (fun (r : Int32) (u : Unit) => r = (-4)) (fun _ => []) 0 0 := by
  refine kw_Mi.of (cc := cX11_full) (maxL := 1) (ret := (some .int)) (by decide) rfl ?_
  intro pZ eZ s mZ beZ meZ cZ A hE
  obtain ⟨hx, hb, hr, hml, hts, hown, hlocks, hin, hA, hP, hD, hK, hN⟩ := hE
  have hS : va_S A s.heap s.heap [] := va_S.rf
  have hl := lv_entry ([.ref mo]) (n := 1) (Nat.le_of_ble_eq_true rfl)
  rw [lg_entry_eq]
  generalize (lg_sl ([.ref mo]) ++ List.replicate (1 - (lg_sl ([.ref mo])).length) Slot.unset).toArray = ls at hl ⊢
  have hl : lv_has ls 1 [(0, .ref mo)] := hl
  have fw1 := hts (.fieldLink RX11 20 "GleanDuskModel" "refused" "[I") (List.mem_of_getElem? (i := 1) rfl)
  have i11 : ∀ w ∈ wsX110, w ∈ wsX11_full := fun _ h => List.mem_cons_of_mem _ (List.mem_append_right _ h)
  refine lv_aload_n hx hb dX11_full_0 rfl (lv_at hl 0 rfl) ?_
  refine va_get (D := D) (ci := 11) (v := .ref rf) (C := RX11) (T := TX11) (N := 18) hx hb hts i11 hown hK hP 0 rfl rfl 3 (by decide) fw1 (fun _ h9 => h9) rfl dX11_full_1 ?_
  refine lv_iconst (v := 2) hx hb dX11_full_4 (by decide) ?_
  refine lv_dup2_11 hx hb dX11_full_5 rfl rfl ?_
  refine va_iald hx hb hK hP 1 0 rfl rfl (by unfold vp_in; decide) dX11_full_6 ?_
  refine lv_iconst (v := 1) hx hb dX11_full_7 (by decide) ?_
  refine lv_iadd hx hb dX11_full_8 ?_
  refine va_iast hx hb hK hP hD hS 1 0 rfl rfl (by unfold vp_in; decide) dX11_full_9 (fun H locs hP hD hS => ?_)
  have hP : va_P D vwCl [(mo, .inr (11, [.ref to, .ref ke, .ref ik, .ref rf, .long 0, .long 1, .ref ha, .ref r0, .ref br, .ref bp, .ref bys, .int 0, .int 0, .int 0, .int 0, .int 0, .ref an, .ref va])), (rf, .inl (y 0, 3, .inl (upd f (2 : Int32).toNatClampNeg ((f (2 : Int32).toNatClampNeg) + 1))))] H := hP
  have hD : va_D A [(mo, .inr (11, [.ref to, .ref ke, .ref ik, .ref rf, .long 0, .long 1, .ref ha, .ref r0, .ref br, .ref bp, .ref bys, .int 0, .int 0, .int 0, .int 0, .int 0, .ref an, .ref va])), (rf, .inl (y 0, 3, .inl (upd f (2 : Int32).toNatClampNeg ((f (2 : Int32).toNatClampNeg) + 1))))] := hD
  refine lv_bipush (v := (-4)) hx hb dX11_full_10 (by decide) ?_
  exact W.iret (v := (-4)) hx hb hr (fun tZ ht hW => ⟨⟨(-4), (), rfl, rfl, by rw [ht]; exact hP.sub [] rfl, hD.sub [] (by decide) rfl⟩, hS.F ht⟩) hS.2.2 dX11_full_12

set_option maxHeartbeats 4000000 in
set_option maxRecDepth 100000 in
theorem cw_many (l : Launch) (D : va_G) (y : Nat → ClassId) (mo : Nat) (to : Nat) (ke : Nat) (ik : Nat) (rf : Nat) (ha : Nat) (r0 : Nat) (br : Nat) (bp : Nat) (bys : Nat) (an : Nat) (va : Nat) (f : Nat → Int32) (v0 : Int32) (hf0 : f (0 : Int32).toNatClampNeg = v0): kw_Mi l yX11_many wsX11_many ({ frames := 1, cells := 0, slots := 0, locals := 40 }) D y [.ref mo] [(mo, .inr (11, [.ref to, .ref ke, .ref ik, .ref rf, .long 0, .long 1, .ref ha, .ref r0, .ref br, .ref bp, .ref bys, .int 0, .int 0, .int 0, .int 0, .int 0, .ref an, .ref va])), (to, .inl (y 0, 228, .inl f))] (fun (r : Int32) (u : Unit) => r = v0) (fun _ => [(mo, .inr (11, [.ref to, .ref ke, .ref ik, .ref rf, .long 0, .long 1, .ref ha, .ref r0, .ref br, .ref bp, .ref bys, .int 0, .int 0, .int 0, .int 0, .int 0, .ref an, .ref va])), (to, .inl (y 0, 228, .inl f))]) 0 0 := by
  refine kw_Mi.of (cc := cX11_many) (maxL := 1) (ret := (some .int)) (by decide) rfl ?_
  intro pZ eZ s mZ beZ meZ cZ A hE
  obtain ⟨hx, hb, hr, hml, hts, hown, hlocks, hin, hA, hP, hD, hK, hN⟩ := hE
  have hS : va_S A s.heap s.heap [] := va_S.rf
  have hl := lv_entry ([.ref mo]) (n := 1) (Nat.le_of_ble_eq_true rfl)
  rw [lg_entry_eq]
  generalize (lg_sl ([.ref mo]) ++ List.replicate (1 - (lg_sl ([.ref mo])).length) Slot.unset).toArray = ls at hl ⊢
  have hl : lv_has ls 1 [(0, .ref mo)] := hl
  have fw1 := hts (.fieldLink RX11 7 "GleanDuskModel" "told" "[I") (List.mem_of_getElem? (i := 1) rfl)
  have i11 : ∀ w ∈ wsX110, w ∈ wsX11_many := fun _ h => List.mem_cons_of_mem _ (List.mem_append_right _ h)
  refine lv_aload_n hx hb dX11_many_0 rfl (lv_at hl 0 rfl) ?_
  refine va_get (D := D) (ci := 11) (v := .ref to) (C := RX11) (T := TX11) (N := 18) hx hb hts i11 hown hK hP 0 rfl rfl 0 (by decide) fw1 (fun _ h9 => h9) rfl dX11_many_1 ?_
  refine lv_iconst (v := 0) hx hb dX11_many_4 (by decide) ?_
  refine va_iald hx hb hK hP 1 0 rfl rfl (by unfold vp_in; decide) dX11_many_5 ?_
  refine lv_topi (fun z1 hz1 => ?_)
  rw [show z1 = v0 from hz1.trans (by first | rfl | decide | assumption | (simp [upd]; done) | (unfold upd; rw [if_neg (by decide)]; assumption) | (simp [upd, *]; done))]
  exact W.iret (v := v0) hx hb hr (fun tZ ht hW => ⟨⟨v0, (), rfl, rfl, by rw [ht]; exact hP.sub [0, 1] rfl, hD.sub [0, 1] (by decide) rfl⟩, hS.F ht⟩) hS.2.2 dX11_many_6

set_option maxHeartbeats 4000000 in
set_option maxRecDepth 100000 in
theorem cw_manyGleaners (l : Launch) (D : va_G) (y : Nat → ClassId) (mo : Nat) (to : Nat) (ke : Nat) (ik : Nat) (rf : Nat) (ha : Nat) (r0 : Nat) (br : Nat) (bp : Nat) (bys : Nat) (an : Nat) (va : Nat) (f : Nat → Int32) (v0 : Int32) (hf0 : f (1 : Int32).toNatClampNeg = v0): kw_Mi l yX11_manyGleaners wsX11_manyGleaners ({ frames := 1, cells := 0, slots := 0, locals := 40 }) D y [.ref mo] [(mo, .inr (11, [.ref to, .ref ke, .ref ik, .ref rf, .long 0, .long 1, .ref ha, .ref r0, .ref br, .ref bp, .ref bys, .int 0, .int 0, .int 0, .int 0, .int 0, .ref an, .ref va])), (to, .inl (y 0, 228, .inl f))] (fun (r : Int32) (u : Unit) => r = v0) (fun _ => [(mo, .inr (11, [.ref to, .ref ke, .ref ik, .ref rf, .long 0, .long 1, .ref ha, .ref r0, .ref br, .ref bp, .ref bys, .int 0, .int 0, .int 0, .int 0, .int 0, .ref an, .ref va])), (to, .inl (y 0, 228, .inl f))]) 0 0 := by
  refine kw_Mi.of (cc := cX11_manyGleaners) (maxL := 1) (ret := (some .int)) (by decide) rfl ?_
  intro pZ eZ s mZ beZ meZ cZ A hE
  obtain ⟨hx, hb, hr, hml, hts, hown, hlocks, hin, hA, hP, hD, hK, hN⟩ := hE
  have hS : va_S A s.heap s.heap [] := va_S.rf
  have hl := lv_entry ([.ref mo]) (n := 1) (Nat.le_of_ble_eq_true rfl)
  rw [lg_entry_eq]
  generalize (lg_sl ([.ref mo]) ++ List.replicate (1 - (lg_sl ([.ref mo])).length) Slot.unset).toArray = ls at hl ⊢
  have hl : lv_has ls 1 [(0, .ref mo)] := hl
  have fw1 := hts (.fieldLink RX11 7 "GleanDuskModel" "told" "[I") (List.mem_of_getElem? (i := 1) rfl)
  have i11 : ∀ w ∈ wsX110, w ∈ wsX11_manyGleaners := fun _ h => List.mem_cons_of_mem _ (List.mem_append_right _ h)
  refine lv_aload_n hx hb dX11_manyGleaners_0 rfl (lv_at hl 0 rfl) ?_
  refine va_get (D := D) (ci := 11) (v := .ref to) (C := RX11) (T := TX11) (N := 18) hx hb hts i11 hown hK hP 0 rfl rfl 0 (by decide) fw1 (fun _ h9 => h9) rfl dX11_manyGleaners_1 ?_
  refine lv_iconst (v := 1) hx hb dX11_manyGleaners_4 (by decide) ?_
  refine va_iald hx hb hK hP 1 0 rfl rfl (by unfold vp_in; decide) dX11_manyGleaners_5 ?_
  refine lv_topi (fun z1 hz1 => ?_)
  rw [show z1 = v0 from hz1.trans (by first | rfl | decide | assumption | (simp [upd]; done) | (unfold upd; rw [if_neg (by decide)]; assumption) | (simp [upd, *]; done))]
  exact W.iret (v := v0) hx hb hr (fun tZ ht hW => ⟨⟨v0, (), rfl, rfl, by rw [ht]; exact hP.sub [0, 1] rfl, hD.sub [0, 1] (by decide) rfl⟩, hS.F ht⟩) hS.2.2 dX11_manyGleaners_6

set_option maxHeartbeats 4000000 in
set_option maxRecDepth 100000 in
theorem cw_isField (l : Launch) (D : va_G) (y : Nat → ClassId) (mo : Nat) (to : Nat) (ke : Nat) (ik : Nat) (rf : Nat) (ha : Nat) (r0 : Nat) (br : Nat) (bp : Nat) (bys : Nat) (an : Nat) (va : Nat) (x : Int32) : kw_Mi l yX11_isField wsX11_isField ({ frames := 2, cells := 0, slots := 0, locals := 65 }) D y [.ref mo, .int x] [(mo, .inr (11, [.ref to, .ref ke, .ref ik, .ref rf, .long 0, .long 1, .ref ha, .ref r0, .ref br, .ref bp, .ref bys, .int 0, .int 0, .int 0, .int 0, .int 0, .ref an, .ref va])), (to, .inl (y 0, 228, .inl (fun _ => 0)))] (fun (r : Int32) (u : Unit) => (x.toInt64 < 0 ∧ r = 0) ∨ (¬ x.toInt64 < 0 ∧ (-1) < x.toInt64 ∧ r = 0)) (fun _ => [(mo, .inr (11, [.ref to, .ref ke, .ref ik, .ref rf, .long 0, .long 1, .ref ha, .ref r0, .ref br, .ref bp, .ref bys, .int 0, .int 0, .int 0, .int 0, .int 0, .ref an, .ref va])), (to, .inl (y 0, 228, .inl (fun _ => 0)))]) 0 0 := by
  refine kw_Mi.of (cc := cX11_isField) (maxL := 2) (ret := (some .boolean)) (by decide) rfl ?_
  intro pZ eZ s mZ beZ meZ cZ A hE
  obtain ⟨hx, hb, hr, hml, hts, hown, hlocks, hin, hA, hP, hD, hK, hN⟩ := hE
  have hS : va_S A s.heap s.heap [] := va_S.rf
  have hl := lv_entry ([.ref mo, .int x]) (n := 2) (Nat.le_of_ble_eq_true rfl)
  rw [lg_entry_eq]
  generalize (lg_sl ([.ref mo, .int x]) ++ List.replicate (2 - (lg_sl ([.ref mo, .int x])).length) Slot.unset).toArray = ls at hl ⊢
  have hl : lv_has ls 2 [(0, .ref mo), (1, .int x)] := hl
  refine lv_iload_n hx hb dX11_isField_0 rfl (lv_at hl 1 rfl) ?_
  refine lv_i2l (v := x.toInt64) hx hb dX11_isField_1 (rfl) ?_
  refine lv_lconst (v := 0) hx hb dX11_isField_2 (by decide) ?_
  refine lv_aload_n hx hb dX11_isField_3 rfl (lv_at hl 0 rfl) ?_
  have hs1 : kw_Split [(mo, .inr (11, [.ref to, .ref ke, .ref ik, .ref rf, .long 0, .long 1, .ref ha, .ref r0, .ref br, .ref bp, .ref bys, .int 0, .int 0, .int 0, .int 0, .int 0, .ref an, .ref va])), (to, .inl (y 0, 228, .inl (fun _ => 0)))] [(mo, .inr (11, [.ref to, .ref ke, .ref ik, .ref rf, .long 0, .long 1, .ref ha, .ref r0, .ref br, .ref bp, .ref bys, .int 0, .int 0, .int 0, .int 0, .int 0, .ref an, .ref va])), (to, .inl (y 0, 228, .inl (fun _ => 0)))] [] [0, 1] [] := ⟨rfl, rfl, rfl, rfl, rfl, by decide⟩
  refine kw_go_i hs1 hP hD hS hA (va_runV (As := []) (rest := [.long 0, .long x.toInt64]) ⟨hx, hb, hml, hown, hts⟩ (cw_many l D y mo to ke ik rf ha r0 br bp bys an va (fun _ => 0) 0 (by first | rfl | decide | assumption | (simp [upd]; done) | (unfold upd; rw [if_neg (by decide)]; assumption) | (unfold upd; rw [if_neg (by decide), if_neg (by decide)]; assumption)) _) (cwV 0 hts gX11_isField_X11_many rfl rfl rfl (by decide +kernel) ⟨Nat.le_of_ble_eq_true rfl, Nat.le_of_ble_eq_true rfl⟩) (kw_PreV (ci := 11) (q0 := 0) hs1 hP hD hK hN rfl rfl) rfl rfl hl.1 rfl (lv_room (Nat.le_of_ble_eq_true rfl)) dX11_isField_4 ⟨Nat.le_of_ble_eq_true rfl, Nat.le_of_ble_eq_true rfl⟩) (fun r u H locs hq hP hD hS => ?_)
  obtain rfl := hq
  have hP : va_P D vwCl [(mo, .inr (11, [.ref to, .ref ke, .ref ik, .ref rf, .long 0, .long 1, .ref ha, .ref r0, .ref br, .ref bp, .ref bys, .int 0, .int 0, .int 0, .int 0, .int 0, .ref an, .ref va])), (to, .inl (y 0, 228, .inl (fun _ => 0)))] H := hP
  have hD : va_D A [(mo, .inr (11, [.ref to, .ref ke, .ref ik, .ref rf, .long 0, .long 1, .ref ha, .ref r0, .ref br, .ref bp, .ref bys, .int 0, .int 0, .int 0, .int 0, .int 0, .ref an, .ref va])), (to, .inl (y 0, 228, .inl (fun _ => 0)))] := hD
  refine lv_iconst (v := 1) hx hb dX11_isField_7 (by decide) ?_
  refine lv_isub hx hb dX11_isField_8 ?_
  refine lv_topi (fun z2 hz2 => ?_)
  obtain rfl : z2 = (-1) := hz2.trans (by first | rfl | decide | (simp [upd]; done))
  refine lv_i2l (v := (-1)) hx hb dX11_isField_9 (by decide) ?_
  have hs3 : kw_Split [(mo, .inr (11, [.ref to, .ref ke, .ref ik, .ref rf, .long 0, .long 1, .ref ha, .ref r0, .ref br, .ref bp, .ref bys, .int 0, .int 0, .int 0, .int 0, .int 0, .ref an, .ref va])), (to, .inl (y 0, 228, .inl (fun _ => 0)))] [] [(mo, .inr (11, [.ref to, .ref ke, .ref ik, .ref rf, .long 0, .long 1, .ref ha, .ref r0, .ref br, .ref bp, .ref bys, .int 0, .int 0, .int 0, .int 0, .int 0, .ref an, .ref va])), (to, .inl (y 0, 228, .inl (fun _ => 0)))] [] [0, 1] := ⟨rfl, rfl, rfl, rfl, rfl, by decide⟩
  refine kw_go_i hs3 hP hD hS hA (va_runS (As := [.long x.toInt64, .long 0, .long (-1)]) (rest := []) ⟨hx, hb, hml, hown, hts⟩ (cw_in l D y x.toInt64 0 (-1)  _) (va_cwS 3 hts gX11_isField_X11_in rfl rfl rfl (by decide +kernel) ⟨Nat.le_of_ble_eq_true rfl, Nat.le_of_ble_eq_true rfl⟩) (kw_PreS hs3 hP hD hK hN) rfl rfl hl.1 rfl (lv_room (Nat.le_of_ble_eq_true rfl)) dX11_isField_10 ⟨Nat.le_of_ble_eq_true rfl, Nat.le_of_ble_eq_true rfl⟩) (fun r u H locs hq hP hD hS => ?_)
  rcases hq with ⟨h4, rfl⟩ | ⟨h5, h6, rfl⟩ | ⟨h7, h8, rfl⟩
  · skip
    have hP : va_P D vwCl [(mo, .inr (11, [.ref to, .ref ke, .ref ik, .ref rf, .long 0, .long 1, .ref ha, .ref r0, .ref br, .ref bp, .ref bys, .int 0, .int 0, .int 0, .int 0, .int 0, .ref an, .ref va])), (to, .inl (y 0, 228, .inl (fun _ => 0)))] H := hP
    have hD : va_D A [(mo, .inr (11, [.ref to, .ref ke, .ref ik, .ref rf, .long 0, .long 1, .ref ha, .ref r0, .ref br, .ref bp, .ref bys, .int 0, .int 0, .int 0, .int 0, .int 0, .ref an, .ref va])), (to, .inl (y 0, 228, .inl (fun _ => 0)))] := hD
    exact W.zret (v := 0) hx hb hr (by decide) (fun tZ ht hW => ⟨⟨0, (), rfl, Or.inl ⟨h4, rfl⟩, by rw [ht]; exact hP.sub [0, 1] rfl, hD.sub [0, 1] (by decide) rfl⟩, hS.F ht⟩) hS.2.2 dX11_isField_13
  · skip
    have hP : va_P D vwCl [(mo, .inr (11, [.ref to, .ref ke, .ref ik, .ref rf, .long 0, .long 1, .ref ha, .ref r0, .ref br, .ref bp, .ref bys, .int 0, .int 0, .int 0, .int 0, .int 0, .ref an, .ref va])), (to, .inl (y 0, 228, .inl (fun _ => 0)))] H := hP
    have hD : va_D A [(mo, .inr (11, [.ref to, .ref ke, .ref ik, .ref rf, .long 0, .long 1, .ref ha, .ref r0, .ref br, .ref bp, .ref bys, .int 0, .int 0, .int 0, .int 0, .int 0, .ref an, .ref va])), (to, .inl (y 0, 228, .inl (fun _ => 0)))] := hD
    exact W.zret (v := 0) hx hb hr (by decide) (fun tZ ht hW => ⟨⟨0, (), rfl, Or.inr (⟨h5, h6, rfl⟩), by rw [ht]; exact hP.sub [0, 1] rfl, hD.sub [0, 1] (by decide) rfl⟩, hS.F ht⟩) hS.2.2 dX11_isField_13
  · skip
    exact (by have gZ1 : ¬ (x.toInt64 : Int64).toInt < (0 : Int64).toInt := fun q => h7 (Int64.lt_iff_toInt_lt.mpr q); have lZ1 : (x.toInt64).toInt = x.toInt := Int32.toInt_toInt64 _; have lZ2 : (0 : Int64).toInt = 0 := (by decide); have gZ2 : ¬ ((-1) : Int64).toInt < (x.toInt64 : Int64).toInt := fun q => h8 (Int64.lt_iff_toInt_lt.mpr q); have lZ3 : ((-1) : Int64).toInt = -1 := (by decide); omega : False).elim

set_option maxHeartbeats 4000000 in
set_option maxRecDepth 100000 in
theorem cw_isGleaner (l : Launch) (D : va_G) (y : Nat → ClassId) (mo : Nat) (to : Nat) (ke : Nat) (ik : Nat) (rf : Nat) (ha : Nat) (r0 : Nat) (br : Nat) (bp : Nat) (bys : Nat) (an : Nat) (va : Nat) (x : Int32) : kw_Mi l yX11_isGleaner wsX11_isGleaner ({ frames := 2, cells := 0, slots := 0, locals := 65 }) D y [.ref mo, .int x] [(mo, .inr (11, [.ref to, .ref ke, .ref ik, .ref rf, .long 0, .long 1, .ref ha, .ref r0, .ref br, .ref bp, .ref bys, .int 0, .int 0, .int 0, .int 0, .int 0, .ref an, .ref va])), (to, .inl (y 0, 228, .inl (fun _ => 0)))] (fun (r : Int32) (u : Unit) => (x.toInt64 < 0 ∧ r = 0) ∨ (¬ x.toInt64 < 0 ∧ (-1) < x.toInt64 ∧ r = 0)) (fun _ => [(mo, .inr (11, [.ref to, .ref ke, .ref ik, .ref rf, .long 0, .long 1, .ref ha, .ref r0, .ref br, .ref bp, .ref bys, .int 0, .int 0, .int 0, .int 0, .int 0, .ref an, .ref va])), (to, .inl (y 0, 228, .inl (fun _ => 0)))]) 0 0 := by
  refine kw_Mi.of (cc := cX11_isGleaner) (maxL := 2) (ret := (some .boolean)) (by decide) rfl ?_
  intro pZ eZ s mZ beZ meZ cZ A hE
  obtain ⟨hx, hb, hr, hml, hts, hown, hlocks, hin, hA, hP, hD, hK, hN⟩ := hE
  have hS : va_S A s.heap s.heap [] := va_S.rf
  have hl := lv_entry ([.ref mo, .int x]) (n := 2) (Nat.le_of_ble_eq_true rfl)
  rw [lg_entry_eq]
  generalize (lg_sl ([.ref mo, .int x]) ++ List.replicate (2 - (lg_sl ([.ref mo, .int x])).length) Slot.unset).toArray = ls at hl ⊢
  have hl : lv_has ls 2 [(0, .ref mo), (1, .int x)] := hl
  refine lv_iload_n hx hb dX11_isGleaner_0 rfl (lv_at hl 1 rfl) ?_
  refine lv_i2l (v := x.toInt64) hx hb dX11_isGleaner_1 (rfl) ?_
  refine lv_lconst (v := 0) hx hb dX11_isGleaner_2 (by decide) ?_
  refine lv_aload_n hx hb dX11_isGleaner_3 rfl (lv_at hl 0 rfl) ?_
  have hs1 : kw_Split [(mo, .inr (11, [.ref to, .ref ke, .ref ik, .ref rf, .long 0, .long 1, .ref ha, .ref r0, .ref br, .ref bp, .ref bys, .int 0, .int 0, .int 0, .int 0, .int 0, .ref an, .ref va])), (to, .inl (y 0, 228, .inl (fun _ => 0)))] [(mo, .inr (11, [.ref to, .ref ke, .ref ik, .ref rf, .long 0, .long 1, .ref ha, .ref r0, .ref br, .ref bp, .ref bys, .int 0, .int 0, .int 0, .int 0, .int 0, .ref an, .ref va])), (to, .inl (y 0, 228, .inl (fun _ => 0)))] [] [0, 1] [] := ⟨rfl, rfl, rfl, rfl, rfl, by decide⟩
  refine kw_go_i hs1 hP hD hS hA (va_runV (As := []) (rest := [.long 0, .long x.toInt64]) ⟨hx, hb, hml, hown, hts⟩ (cw_manyGleaners l D y mo to ke ik rf ha r0 br bp bys an va (fun _ => 0) 0 (by first | rfl | decide | assumption | (simp [upd]; done) | (unfold upd; rw [if_neg (by decide)]; assumption) | (unfold upd; rw [if_neg (by decide), if_neg (by decide)]; assumption)) _) (cwV 0 hts gX11_isGleaner_X11_manyGleaners rfl rfl rfl (by decide +kernel) ⟨Nat.le_of_ble_eq_true rfl, Nat.le_of_ble_eq_true rfl⟩) (kw_PreV (ci := 11) (q0 := 0) hs1 hP hD hK hN rfl rfl) rfl rfl hl.1 rfl (lv_room (Nat.le_of_ble_eq_true rfl)) dX11_isGleaner_4 ⟨Nat.le_of_ble_eq_true rfl, Nat.le_of_ble_eq_true rfl⟩) (fun r u H locs hq hP hD hS => ?_)
  obtain rfl := hq
  have hP : va_P D vwCl [(mo, .inr (11, [.ref to, .ref ke, .ref ik, .ref rf, .long 0, .long 1, .ref ha, .ref r0, .ref br, .ref bp, .ref bys, .int 0, .int 0, .int 0, .int 0, .int 0, .ref an, .ref va])), (to, .inl (y 0, 228, .inl (fun _ => 0)))] H := hP
  have hD : va_D A [(mo, .inr (11, [.ref to, .ref ke, .ref ik, .ref rf, .long 0, .long 1, .ref ha, .ref r0, .ref br, .ref bp, .ref bys, .int 0, .int 0, .int 0, .int 0, .int 0, .ref an, .ref va])), (to, .inl (y 0, 228, .inl (fun _ => 0)))] := hD
  refine lv_iconst (v := 1) hx hb dX11_isGleaner_7 (by decide) ?_
  refine lv_isub hx hb dX11_isGleaner_8 ?_
  refine lv_topi (fun z2 hz2 => ?_)
  obtain rfl : z2 = (-1) := hz2.trans (by first | rfl | decide | (simp [upd]; done))
  refine lv_i2l (v := (-1)) hx hb dX11_isGleaner_9 (by decide) ?_
  have hs3 : kw_Split [(mo, .inr (11, [.ref to, .ref ke, .ref ik, .ref rf, .long 0, .long 1, .ref ha, .ref r0, .ref br, .ref bp, .ref bys, .int 0, .int 0, .int 0, .int 0, .int 0, .ref an, .ref va])), (to, .inl (y 0, 228, .inl (fun _ => 0)))] [] [(mo, .inr (11, [.ref to, .ref ke, .ref ik, .ref rf, .long 0, .long 1, .ref ha, .ref r0, .ref br, .ref bp, .ref bys, .int 0, .int 0, .int 0, .int 0, .int 0, .ref an, .ref va])), (to, .inl (y 0, 228, .inl (fun _ => 0)))] [] [0, 1] := ⟨rfl, rfl, rfl, rfl, rfl, by decide⟩
  refine kw_go_i hs3 hP hD hS hA (va_runS (As := [.long x.toInt64, .long 0, .long (-1)]) (rest := []) ⟨hx, hb, hml, hown, hts⟩ (cw_in l D y x.toInt64 0 (-1)  _) (va_cwS 3 hts gX11_isGleaner_X11_in rfl rfl rfl (by decide +kernel) ⟨Nat.le_of_ble_eq_true rfl, Nat.le_of_ble_eq_true rfl⟩) (kw_PreS hs3 hP hD hK hN) rfl rfl hl.1 rfl (lv_room (Nat.le_of_ble_eq_true rfl)) dX11_isGleaner_10 ⟨Nat.le_of_ble_eq_true rfl, Nat.le_of_ble_eq_true rfl⟩) (fun r u H locs hq hP hD hS => ?_)
  rcases hq with ⟨h4, rfl⟩ | ⟨h5, h6, rfl⟩ | ⟨h7, h8, rfl⟩
  · skip
    have hP : va_P D vwCl [(mo, .inr (11, [.ref to, .ref ke, .ref ik, .ref rf, .long 0, .long 1, .ref ha, .ref r0, .ref br, .ref bp, .ref bys, .int 0, .int 0, .int 0, .int 0, .int 0, .ref an, .ref va])), (to, .inl (y 0, 228, .inl (fun _ => 0)))] H := hP
    have hD : va_D A [(mo, .inr (11, [.ref to, .ref ke, .ref ik, .ref rf, .long 0, .long 1, .ref ha, .ref r0, .ref br, .ref bp, .ref bys, .int 0, .int 0, .int 0, .int 0, .int 0, .ref an, .ref va])), (to, .inl (y 0, 228, .inl (fun _ => 0)))] := hD
    exact W.zret (v := 0) hx hb hr (by decide) (fun tZ ht hW => ⟨⟨0, (), rfl, Or.inl ⟨h4, rfl⟩, by rw [ht]; exact hP.sub [0, 1] rfl, hD.sub [0, 1] (by decide) rfl⟩, hS.F ht⟩) hS.2.2 dX11_isGleaner_13
  · skip
    have hP : va_P D vwCl [(mo, .inr (11, [.ref to, .ref ke, .ref ik, .ref rf, .long 0, .long 1, .ref ha, .ref r0, .ref br, .ref bp, .ref bys, .int 0, .int 0, .int 0, .int 0, .int 0, .ref an, .ref va])), (to, .inl (y 0, 228, .inl (fun _ => 0)))] H := hP
    have hD : va_D A [(mo, .inr (11, [.ref to, .ref ke, .ref ik, .ref rf, .long 0, .long 1, .ref ha, .ref r0, .ref br, .ref bp, .ref bys, .int 0, .int 0, .int 0, .int 0, .int 0, .ref an, .ref va])), (to, .inl (y 0, 228, .inl (fun _ => 0)))] := hD
    exact W.zret (v := 0) hx hb hr (by decide) (fun tZ ht hW => ⟨⟨0, (), rfl, Or.inr (⟨h5, h6, rfl⟩), by rw [ht]; exact hP.sub [0, 1] rfl, hD.sub [0, 1] (by decide) rfl⟩, hS.F ht⟩) hS.2.2 dX11_isGleaner_13
  · skip
    exact (by have gZ1 : ¬ (x.toInt64 : Int64).toInt < (0 : Int64).toInt := fun q => h7 (Int64.lt_iff_toInt_lt.mpr q); have lZ1 : (x.toInt64).toInt = x.toInt := Int32.toInt_toInt64 _; have lZ2 : (0 : Int64).toInt = 0 := (by decide); have gZ2 : ¬ ((-1) : Int64).toInt < (x.toInt64 : Int64).toInt := fun q => h8 (Int64.lt_iff_toInt_lt.mpr q); have lZ3 : ((-1) : Int64).toInt = -1 := (by decide); omega : False).elim

set_option maxHeartbeats 4000000 in
set_option maxRecDepth 100000 in
theorem cw_isStep (l : Launch) (D : va_G) (y : Nat → ClassId) (x : Int32) : kw_Mi l yX11_isStep wsX11_isStep ({ frames := 2, cells := 0, slots := 0, locals := 65 }) D y [.int x] [] (fun (r : Int32) (u : Unit) => (x.toInt64 < 0 ∧ r = 0) ∨ (¬ x.toInt64 < 0 ∧ 11 < x.toInt64 ∧ r = 0) ∨ (¬ x.toInt64 < 0 ∧ ¬ 11 < x.toInt64 ∧ r = 1)) (fun _ => []) 0 0 := by
  refine kw_Mi.of (cc := cX11_isStep) (maxL := 1) (ret := (some .boolean)) (by decide) rfl ?_
  intro pZ eZ s mZ beZ meZ cZ A hE
  obtain ⟨hx, hb, hr, hml, hts, hown, hlocks, hin, hA, hP, hD, hK, hN⟩ := hE
  have hS : va_S A s.heap s.heap [] := va_S.rf
  have hl := lv_entry ([.int x]) (n := 1) (Nat.le_of_ble_eq_true rfl)
  rw [lg_entry_eq]
  generalize (lg_sl ([.int x]) ++ List.replicate (1 - (lg_sl ([.int x])).length) Slot.unset).toArray = ls at hl ⊢
  have hl : lv_has ls 1 [(0, .int x)] := hl
  have fw1 := hts (.constantLong RX11 63 (11)) (List.mem_of_getElem? (i := 1) rfl)
  refine lv_iload_n hx hb dX11_isStep_0 rfl (lv_at hl 0 rfl) ?_
  refine lv_i2l (v := x.toInt64) hx hb dX11_isStep_1 (rfl) ?_
  refine lv_lconst (v := 0) hx hb dX11_isStep_2 (by decide) ?_
  refine lv_ldc2 (v := 11) hx hb hown fw1 dX11_isStep_3 ?_
  have hs1 : kw_Split [] [] [] [] [] := ⟨rfl, rfl, rfl, rfl, rfl, by decide⟩
  refine kw_go_i hs1 hP hD hS hA (va_runS (As := [.long x.toInt64, .long 0, .long 11]) (rest := []) ⟨hx, hb, hml, hown, hts⟩ (cw_in l D y x.toInt64 0 11  _) (va_cwS 3 hts gX11_isStep_X11_in rfl rfl rfl (by decide +kernel) ⟨Nat.le_of_ble_eq_true rfl, Nat.le_of_ble_eq_true rfl⟩) (kw_PreS hs1 hP hD hK hN) rfl rfl hl.1 rfl (lv_room (Nat.le_of_ble_eq_true rfl)) dX11_isStep_6 ⟨Nat.le_of_ble_eq_true rfl, Nat.le_of_ble_eq_true rfl⟩) (fun r u H locs hq hP hD hS => ?_)
  rcases hq with ⟨h2, rfl⟩ | ⟨h3, h4, rfl⟩ | ⟨h5, h6, rfl⟩
  · skip
    have hP : va_P D vwCl [] H := hP
    have hD : va_D A [] := hD
    exact W.zret (v := 0) hx hb hr (by decide) (fun tZ ht hW => ⟨⟨0, (), rfl, Or.inl ⟨h2, rfl⟩, by rw [ht]; exact hP.sub [] rfl, hD.sub [] (by decide) rfl⟩, hS.F ht⟩) hS.2.2 dX11_isStep_9
  · skip
    have hP : va_P D vwCl [] H := hP
    have hD : va_D A [] := hD
    exact W.zret (v := 0) hx hb hr (by decide) (fun tZ ht hW => ⟨⟨0, (), rfl, Or.inr (Or.inl ⟨h3, h4, rfl⟩), by rw [ht]; exact hP.sub [] rfl, hD.sub [] (by decide) rfl⟩, hS.F ht⟩) hS.2.2 dX11_isStep_9
  · skip
    have hP : va_P D vwCl [] H := hP
    have hD : va_D A [] := hD
    exact W.zret (v := 1) hx hb hr (by decide) (fun tZ ht hW => ⟨⟨1, (), rfl, Or.inr (Or.inr (⟨h5, h6, rfl⟩)), by rw [ht]; exact hP.sub [] rfl, hD.sub [] (by decide) rfl⟩, hS.F ht⟩) hS.2.2 dX11_isStep_9

set_option maxHeartbeats 4000000 in
set_option maxRecDepth 100000 in
theorem cw_isCloud (l : Launch) (D : va_G) (y : Nat → ClassId) (x : Int32) : kw_Mi l yX11_isCloud wsX11_isCloud ({ frames := 2, cells := 0, slots := 0, locals := 65 }) D y [.int x] [] (fun (r : Int32) (u : Unit) => (x.toInt64 < 0 ∧ r = 0) ∨ (¬ x.toInt64 < 0 ∧ 9 < x.toInt64 ∧ r = 0) ∨ (¬ x.toInt64 < 0 ∧ ¬ 9 < x.toInt64 ∧ r = 1)) (fun _ => []) 0 0 := by
  refine kw_Mi.of (cc := cX11_isCloud) (maxL := 1) (ret := (some .boolean)) (by decide) rfl ?_
  intro pZ eZ s mZ beZ meZ cZ A hE
  obtain ⟨hx, hb, hr, hml, hts, hown, hlocks, hin, hA, hP, hD, hK, hN⟩ := hE
  have hS : va_S A s.heap s.heap [] := va_S.rf
  have hl := lv_entry ([.int x]) (n := 1) (Nat.le_of_ble_eq_true rfl)
  rw [lg_entry_eq]
  generalize (lg_sl ([.int x]) ++ List.replicate (1 - (lg_sl ([.int x])).length) Slot.unset).toArray = ls at hl ⊢
  have hl : lv_has ls 1 [(0, .int x)] := hl
  have fw1 := hts (.constantLong RX11 65 (9)) (List.mem_of_getElem? (i := 1) rfl)
  refine lv_iload_n hx hb dX11_isCloud_0 rfl (lv_at hl 0 rfl) ?_
  refine lv_i2l (v := x.toInt64) hx hb dX11_isCloud_1 (rfl) ?_
  refine lv_lconst (v := 0) hx hb dX11_isCloud_2 (by decide) ?_
  refine lv_ldc2 (v := 9) hx hb hown fw1 dX11_isCloud_3 ?_
  have hs1 : kw_Split [] [] [] [] [] := ⟨rfl, rfl, rfl, rfl, rfl, by decide⟩
  refine kw_go_i hs1 hP hD hS hA (va_runS (As := [.long x.toInt64, .long 0, .long 9]) (rest := []) ⟨hx, hb, hml, hown, hts⟩ (cw_in l D y x.toInt64 0 9  _) (va_cwS 3 hts gX11_isCloud_X11_in rfl rfl rfl (by decide +kernel) ⟨Nat.le_of_ble_eq_true rfl, Nat.le_of_ble_eq_true rfl⟩) (kw_PreS hs1 hP hD hK hN) rfl rfl hl.1 rfl (lv_room (Nat.le_of_ble_eq_true rfl)) dX11_isCloud_6 ⟨Nat.le_of_ble_eq_true rfl, Nat.le_of_ble_eq_true rfl⟩) (fun r u H locs hq hP hD hS => ?_)
  rcases hq with ⟨h2, rfl⟩ | ⟨h3, h4, rfl⟩ | ⟨h5, h6, rfl⟩
  · skip
    have hP : va_P D vwCl [] H := hP
    have hD : va_D A [] := hD
    exact W.zret (v := 0) hx hb hr (by decide) (fun tZ ht hW => ⟨⟨0, (), rfl, Or.inl ⟨h2, rfl⟩, by rw [ht]; exact hP.sub [] rfl, hD.sub [] (by decide) rfl⟩, hS.F ht⟩) hS.2.2 dX11_isCloud_9
  · skip
    have hP : va_P D vwCl [] H := hP
    have hD : va_D A [] := hD
    exact W.zret (v := 0) hx hb hr (by decide) (fun tZ ht hW => ⟨⟨0, (), rfl, Or.inr (Or.inl ⟨h3, h4, rfl⟩), by rw [ht]; exact hP.sub [] rfl, hD.sub [] (by decide) rfl⟩, hS.F ht⟩) hS.2.2 dX11_isCloud_9
  · skip
    have hP : va_P D vwCl [] H := hP
    have hD : va_D A [] := hD
    exact W.zret (v := 1) hx hb hr (by decide) (fun tZ ht hW => ⟨⟨1, (), rfl, Or.inr (Or.inr (⟨h5, h6, rfl⟩)), by rw [ht]; exact hP.sub [] rfl, hD.sub [] (by decide) rfl⟩, hS.F ht⟩) hS.2.2 dX11_isCloud_9

set_option maxHeartbeats 4000000 in
set_option maxRecDepth 100000 in
theorem cw_isLight (l : Launch) (D : va_G) (y : Nat → ClassId) (x : Int32) : kw_Mi l yX11_isLight wsX11_isLight ({ frames := 2, cells := 0, slots := 0, locals := 65 }) D y [.int x] [] (fun (r : Int32) (u : Unit) => (x.toInt64 < 0 ∧ r = 0) ∨ (¬ x.toInt64 < 0 ∧ 60 < x.toInt64 ∧ r = 0) ∨ (¬ x.toInt64 < 0 ∧ ¬ 60 < x.toInt64 ∧ r = 1)) (fun _ => []) 0 0 := by
  refine kw_Mi.of (cc := cX11_isLight) (maxL := 1) (ret := (some .boolean)) (by decide) rfl ?_
  intro pZ eZ s mZ beZ meZ cZ A hE
  obtain ⟨hx, hb, hr, hml, hts, hown, hlocks, hin, hA, hP, hD, hK, hN⟩ := hE
  have hS : va_S A s.heap s.heap [] := va_S.rf
  have hl := lv_entry ([.int x]) (n := 1) (Nat.le_of_ble_eq_true rfl)
  rw [lg_entry_eq]
  generalize (lg_sl ([.int x]) ++ List.replicate (1 - (lg_sl ([.int x])).length) Slot.unset).toArray = ls at hl ⊢
  have hl : lv_has ls 1 [(0, .int x)] := hl
  have fw1 := hts (.constantLong RX11 67 (60)) (List.mem_of_getElem? (i := 1) rfl)
  refine lv_iload_n hx hb dX11_isLight_0 rfl (lv_at hl 0 rfl) ?_
  refine lv_i2l (v := x.toInt64) hx hb dX11_isLight_1 (rfl) ?_
  refine lv_lconst (v := 0) hx hb dX11_isLight_2 (by decide) ?_
  refine lv_ldc2 (v := 60) hx hb hown fw1 dX11_isLight_3 ?_
  have hs1 : kw_Split [] [] [] [] [] := ⟨rfl, rfl, rfl, rfl, rfl, by decide⟩
  refine kw_go_i hs1 hP hD hS hA (va_runS (As := [.long x.toInt64, .long 0, .long 60]) (rest := []) ⟨hx, hb, hml, hown, hts⟩ (cw_in l D y x.toInt64 0 60  _) (va_cwS 3 hts gX11_isLight_X11_in rfl rfl rfl (by decide +kernel) ⟨Nat.le_of_ble_eq_true rfl, Nat.le_of_ble_eq_true rfl⟩) (kw_PreS hs1 hP hD hK hN) rfl rfl hl.1 rfl (lv_room (Nat.le_of_ble_eq_true rfl)) dX11_isLight_6 ⟨Nat.le_of_ble_eq_true rfl, Nat.le_of_ble_eq_true rfl⟩) (fun r u H locs hq hP hD hS => ?_)
  rcases hq with ⟨h2, rfl⟩ | ⟨h3, h4, rfl⟩ | ⟨h5, h6, rfl⟩
  · skip
    have hP : va_P D vwCl [] H := hP
    have hD : va_D A [] := hD
    exact W.zret (v := 0) hx hb hr (by decide) (fun tZ ht hW => ⟨⟨0, (), rfl, Or.inl ⟨h2, rfl⟩, by rw [ht]; exact hP.sub [] rfl, hD.sub [] (by decide) rfl⟩, hS.F ht⟩) hS.2.2 dX11_isLight_9
  · skip
    have hP : va_P D vwCl [] H := hP
    have hD : va_D A [] := hD
    exact W.zret (v := 0) hx hb hr (by decide) (fun tZ ht hW => ⟨⟨0, (), rfl, Or.inr (Or.inl ⟨h3, h4, rfl⟩), by rw [ht]; exact hP.sub [] rfl, hD.sub [] (by decide) rfl⟩, hS.F ht⟩) hS.2.2 dX11_isLight_9
  · skip
    have hP : va_P D vwCl [] H := hP
    have hD : va_D A [] := hD
    exact W.zret (v := 1) hx hb hr (by decide) (fun tZ ht hW => ⟨⟨1, (), rfl, Or.inr (Or.inr (⟨h5, h6, rfl⟩)), by rw [ht]; exact hP.sub [] rfl, hD.sub [] (by decide) rfl⟩, hS.F ht⟩) hS.2.2 dX11_isLight_9

set_option maxHeartbeats 4000000 in
set_option maxRecDepth 100000 in
theorem cw_begin0 (l : Launch) (D : va_G) (y : Nat → ClassId) (to : Nat) : kw_Mv l yX11_begin wsX11_begin ({ frames := 1, cells := 0, slots := 0, locals := 40 }) D y [.ref to, .int 0] [(to, .inl (y 0, 228, .inl (fun _ => 0)))] (fun (u : Unit) => True) (fun _ => [(to, .inl (y 0, 228, .inl (fun _ => 0)))]) 0 0 := by
  refine kw_Mv.of (cc := cX11_begin) (maxL := 3) (ret := none) (by decide) rfl ?_
  intro pZ eZ s mZ beZ meZ cZ A hE
  obtain ⟨hx, hb, hr, hml, hts, hown, hlocks, hin, hA, hP, hD, hK, hN⟩ := hE
  have hS : va_S A s.heap s.heap [] := va_S.rf
  have hl := lv_entry ([.ref to, .int 0]) (n := 3) (Nat.le_of_ble_eq_true rfl)
  rw [lg_entry_eq]
  generalize (lg_sl ([.ref to, .int 0]) ++ List.replicate (3 - (lg_sl ([.ref to, .int 0])).length) Slot.unset).toArray = ls at hl ⊢
  have hl : lv_has ls 3 [(0, .ref to), (1, .int 0)] := hl
  refine lv_iconst (v := 0) hx hb dX11_begin_0 (by decide) ?_
  refine lv_istore_n (lv' := [(2, .int 0), (0, .ref to), (1, .int 0)]) hx hb dX11_begin_1 rfl hl (by decide) rfl (fun ls hl => ?_)
  refine lv_iload_n hx hb dX11_begin_2 rfl (lv_at hl 0 rfl) ?_
  refine lv_bipush (v := 76) hx hb dX11_begin_3 (by decide) ?_
  refine lv_icmp_ge (tgt := 18) hx hb dX11_begin_5 (by decide) (fun h9 => absurd h9 (by decide)) (fun _ => ?_)
  refine lv_aload_n hx hb dX11_begin_8 rfl (lv_at hl 1 rfl) ?_
  refine lv_iload_n hx hb dX11_begin_9 rfl (lv_at hl 0 rfl) ?_
  refine lv_iconst (v := 0) hx hb dX11_begin_10 (by decide) ?_
  refine va_iast hx hb hK hP hD hS 0 0 rfl rfl (by unfold vp_in; decide) dX11_begin_11 (fun H locs hP hD hS => ?_)
  rw [kw_upd0] at hP hD
  have hP : va_P D vwCl [(to, .inl (y 0, 228, .inl (fun _ => 0)))] H := hP
  have hD : va_D A [(to, .inl (y 0, 228, .inl (fun _ => 0)))] := hD
  refine lv_iinc (v := 1) (lv' := [(2, .int 1), (0, .ref to), (1, .int 0)]) hx hb dX11_begin_12 hl (k := 0) rfl (by decide) (by decide) rfl (fun ls hl => ?_)
  refine lv_goto (tgt := 2) hx hb dX11_begin_15 (by decide) ?_
  refine lv_iload_n hx hb dX11_begin_2 rfl (lv_at hl 0 rfl) ?_
  refine lv_bipush (v := 76) hx hb dX11_begin_3 (by decide) ?_
  refine lv_icmp_ge (tgt := 18) hx hb dX11_begin_5 (by decide) (fun h9 => absurd h9 (by decide)) (fun _ => ?_)
  refine lv_aload_n hx hb dX11_begin_8 rfl (lv_at hl 1 rfl) ?_
  refine lv_iload_n hx hb dX11_begin_9 rfl (lv_at hl 0 rfl) ?_
  refine lv_iconst (v := 0) hx hb dX11_begin_10 (by decide) ?_
  refine va_iast hx hb hK hP hD hS 0 0 rfl rfl (by unfold vp_in; decide) dX11_begin_11 (fun H locs hP hD hS => ?_)
  rw [kw_upd0] at hP hD
  have hP : va_P D vwCl [(to, .inl (y 0, 228, .inl (fun _ => 0)))] H := hP
  have hD : va_D A [(to, .inl (y 0, 228, .inl (fun _ => 0)))] := hD
  refine lv_iinc (v := 2) (lv' := [(2, .int 2), (0, .ref to), (1, .int 0)]) hx hb dX11_begin_12 hl (k := 0) rfl (by decide) (by decide) rfl (fun ls hl => ?_)
  refine lv_goto (tgt := 2) hx hb dX11_begin_15 (by decide) ?_
  refine lv_iload_n hx hb dX11_begin_2 rfl (lv_at hl 0 rfl) ?_
  refine lv_bipush (v := 76) hx hb dX11_begin_3 (by decide) ?_
  refine lv_icmp_ge (tgt := 18) hx hb dX11_begin_5 (by decide) (fun h9 => absurd h9 (by decide)) (fun _ => ?_)
  refine lv_aload_n hx hb dX11_begin_8 rfl (lv_at hl 1 rfl) ?_
  refine lv_iload_n hx hb dX11_begin_9 rfl (lv_at hl 0 rfl) ?_
  refine lv_iconst (v := 0) hx hb dX11_begin_10 (by decide) ?_
  refine va_iast hx hb hK hP hD hS 0 0 rfl rfl (by unfold vp_in; decide) dX11_begin_11 (fun H locs hP hD hS => ?_)
  rw [kw_upd0] at hP hD
  have hP : va_P D vwCl [(to, .inl (y 0, 228, .inl (fun _ => 0)))] H := hP
  have hD : va_D A [(to, .inl (y 0, 228, .inl (fun _ => 0)))] := hD
  refine lv_iinc (v := 3) (lv' := [(2, .int 3), (0, .ref to), (1, .int 0)]) hx hb dX11_begin_12 hl (k := 0) rfl (by decide) (by decide) rfl (fun ls hl => ?_)
  refine lv_goto (tgt := 2) hx hb dX11_begin_15 (by decide) ?_
  refine lv_iload_n hx hb dX11_begin_2 rfl (lv_at hl 0 rfl) ?_
  refine lv_bipush (v := 76) hx hb dX11_begin_3 (by decide) ?_
  refine lv_icmp_ge (tgt := 18) hx hb dX11_begin_5 (by decide) (fun h9 => absurd h9 (by decide)) (fun _ => ?_)
  refine lv_aload_n hx hb dX11_begin_8 rfl (lv_at hl 1 rfl) ?_
  refine lv_iload_n hx hb dX11_begin_9 rfl (lv_at hl 0 rfl) ?_
  refine lv_iconst (v := 0) hx hb dX11_begin_10 (by decide) ?_
  refine va_iast hx hb hK hP hD hS 0 0 rfl rfl (by unfold vp_in; decide) dX11_begin_11 (fun H locs hP hD hS => ?_)
  rw [kw_upd0] at hP hD
  have hP : va_P D vwCl [(to, .inl (y 0, 228, .inl (fun _ => 0)))] H := hP
  have hD : va_D A [(to, .inl (y 0, 228, .inl (fun _ => 0)))] := hD
  refine lv_iinc (v := 4) (lv' := [(2, .int 4), (0, .ref to), (1, .int 0)]) hx hb dX11_begin_12 hl (k := 0) rfl (by decide) (by decide) rfl (fun ls hl => ?_)
  refine lv_goto (tgt := 2) hx hb dX11_begin_15 (by decide) ?_
  refine lv_iload_n hx hb dX11_begin_2 rfl (lv_at hl 0 rfl) ?_
  refine lv_bipush (v := 76) hx hb dX11_begin_3 (by decide) ?_
  refine lv_icmp_ge (tgt := 18) hx hb dX11_begin_5 (by decide) (fun h9 => absurd h9 (by decide)) (fun _ => ?_)
  refine lv_aload_n hx hb dX11_begin_8 rfl (lv_at hl 1 rfl) ?_
  refine lv_iload_n hx hb dX11_begin_9 rfl (lv_at hl 0 rfl) ?_
  refine lv_iconst (v := 0) hx hb dX11_begin_10 (by decide) ?_
  refine va_iast hx hb hK hP hD hS 0 0 rfl rfl (by unfold vp_in; decide) dX11_begin_11 (fun H locs hP hD hS => ?_)
  rw [kw_upd0] at hP hD
  have hP : va_P D vwCl [(to, .inl (y 0, 228, .inl (fun _ => 0)))] H := hP
  have hD : va_D A [(to, .inl (y 0, 228, .inl (fun _ => 0)))] := hD
  refine lv_iinc (v := 5) (lv' := [(2, .int 5), (0, .ref to), (1, .int 0)]) hx hb dX11_begin_12 hl (k := 0) rfl (by decide) (by decide) rfl (fun ls hl => ?_)
  refine lv_goto (tgt := 2) hx hb dX11_begin_15 (by decide) ?_
  refine lv_iload_n hx hb dX11_begin_2 rfl (lv_at hl 0 rfl) ?_
  refine lv_bipush (v := 76) hx hb dX11_begin_3 (by decide) ?_
  refine lv_icmp_ge (tgt := 18) hx hb dX11_begin_5 (by decide) (fun h9 => absurd h9 (by decide)) (fun _ => ?_)
  refine lv_aload_n hx hb dX11_begin_8 rfl (lv_at hl 1 rfl) ?_
  refine lv_iload_n hx hb dX11_begin_9 rfl (lv_at hl 0 rfl) ?_
  refine lv_iconst (v := 0) hx hb dX11_begin_10 (by decide) ?_
  refine va_iast hx hb hK hP hD hS 0 0 rfl rfl (by unfold vp_in; decide) dX11_begin_11 (fun H locs hP hD hS => ?_)
  rw [kw_upd0] at hP hD
  have hP : va_P D vwCl [(to, .inl (y 0, 228, .inl (fun _ => 0)))] H := hP
  have hD : va_D A [(to, .inl (y 0, 228, .inl (fun _ => 0)))] := hD
  refine lv_iinc (v := 6) (lv' := [(2, .int 6), (0, .ref to), (1, .int 0)]) hx hb dX11_begin_12 hl (k := 0) rfl (by decide) (by decide) rfl (fun ls hl => ?_)
  refine lv_goto (tgt := 2) hx hb dX11_begin_15 (by decide) ?_
  refine lv_iload_n hx hb dX11_begin_2 rfl (lv_at hl 0 rfl) ?_
  refine lv_bipush (v := 76) hx hb dX11_begin_3 (by decide) ?_
  refine lv_icmp_ge (tgt := 18) hx hb dX11_begin_5 (by decide) (fun h9 => absurd h9 (by decide)) (fun _ => ?_)
  refine lv_aload_n hx hb dX11_begin_8 rfl (lv_at hl 1 rfl) ?_
  refine lv_iload_n hx hb dX11_begin_9 rfl (lv_at hl 0 rfl) ?_
  refine lv_iconst (v := 0) hx hb dX11_begin_10 (by decide) ?_
  refine va_iast hx hb hK hP hD hS 0 0 rfl rfl (by unfold vp_in; decide) dX11_begin_11 (fun H locs hP hD hS => ?_)
  rw [kw_upd0] at hP hD
  have hP : va_P D vwCl [(to, .inl (y 0, 228, .inl (fun _ => 0)))] H := hP
  have hD : va_D A [(to, .inl (y 0, 228, .inl (fun _ => 0)))] := hD
  refine lv_iinc (v := 7) (lv' := [(2, .int 7), (0, .ref to), (1, .int 0)]) hx hb dX11_begin_12 hl (k := 0) rfl (by decide) (by decide) rfl (fun ls hl => ?_)
  refine lv_goto (tgt := 2) hx hb dX11_begin_15 (by decide) ?_
  refine lv_iload_n hx hb dX11_begin_2 rfl (lv_at hl 0 rfl) ?_
  refine lv_bipush (v := 76) hx hb dX11_begin_3 (by decide) ?_
  refine lv_icmp_ge (tgt := 18) hx hb dX11_begin_5 (by decide) (fun h9 => absurd h9 (by decide)) (fun _ => ?_)
  refine lv_aload_n hx hb dX11_begin_8 rfl (lv_at hl 1 rfl) ?_
  refine lv_iload_n hx hb dX11_begin_9 rfl (lv_at hl 0 rfl) ?_
  refine lv_iconst (v := 0) hx hb dX11_begin_10 (by decide) ?_
  refine va_iast hx hb hK hP hD hS 0 0 rfl rfl (by unfold vp_in; decide) dX11_begin_11 (fun H locs hP hD hS => ?_)
  rw [kw_upd0] at hP hD
  have hP : va_P D vwCl [(to, .inl (y 0, 228, .inl (fun _ => 0)))] H := hP
  have hD : va_D A [(to, .inl (y 0, 228, .inl (fun _ => 0)))] := hD
  refine lv_iinc (v := 8) (lv' := [(2, .int 8), (0, .ref to), (1, .int 0)]) hx hb dX11_begin_12 hl (k := 0) rfl (by decide) (by decide) rfl (fun ls hl => ?_)
  refine lv_goto (tgt := 2) hx hb dX11_begin_15 (by decide) ?_
  refine lv_iload_n hx hb dX11_begin_2 rfl (lv_at hl 0 rfl) ?_
  refine lv_bipush (v := 76) hx hb dX11_begin_3 (by decide) ?_
  refine lv_icmp_ge (tgt := 18) hx hb dX11_begin_5 (by decide) (fun h9 => absurd h9 (by decide)) (fun _ => ?_)
  refine lv_aload_n hx hb dX11_begin_8 rfl (lv_at hl 1 rfl) ?_
  refine lv_iload_n hx hb dX11_begin_9 rfl (lv_at hl 0 rfl) ?_
  refine lv_iconst (v := 0) hx hb dX11_begin_10 (by decide) ?_
  refine va_iast hx hb hK hP hD hS 0 0 rfl rfl (by unfold vp_in; decide) dX11_begin_11 (fun H locs hP hD hS => ?_)
  rw [kw_upd0] at hP hD
  have hP : va_P D vwCl [(to, .inl (y 0, 228, .inl (fun _ => 0)))] H := hP
  have hD : va_D A [(to, .inl (y 0, 228, .inl (fun _ => 0)))] := hD
  refine lv_iinc (v := 9) (lv' := [(2, .int 9), (0, .ref to), (1, .int 0)]) hx hb dX11_begin_12 hl (k := 0) rfl (by decide) (by decide) rfl (fun ls hl => ?_)
  refine lv_goto (tgt := 2) hx hb dX11_begin_15 (by decide) ?_
  refine lv_iload_n hx hb dX11_begin_2 rfl (lv_at hl 0 rfl) ?_
  refine lv_bipush (v := 76) hx hb dX11_begin_3 (by decide) ?_
  refine lv_icmp_ge (tgt := 18) hx hb dX11_begin_5 (by decide) (fun h9 => absurd h9 (by decide)) (fun _ => ?_)
  refine lv_aload_n hx hb dX11_begin_8 rfl (lv_at hl 1 rfl) ?_
  refine lv_iload_n hx hb dX11_begin_9 rfl (lv_at hl 0 rfl) ?_
  refine lv_iconst (v := 0) hx hb dX11_begin_10 (by decide) ?_
  refine va_iast hx hb hK hP hD hS 0 0 rfl rfl (by unfold vp_in; decide) dX11_begin_11 (fun H locs hP hD hS => ?_)
  rw [kw_upd0] at hP hD
  have hP : va_P D vwCl [(to, .inl (y 0, 228, .inl (fun _ => 0)))] H := hP
  have hD : va_D A [(to, .inl (y 0, 228, .inl (fun _ => 0)))] := hD
  refine lv_iinc (v := 10) (lv' := [(2, .int 10), (0, .ref to), (1, .int 0)]) hx hb dX11_begin_12 hl (k := 0) rfl (by decide) (by decide) rfl (fun ls hl => ?_)
  refine lv_goto (tgt := 2) hx hb dX11_begin_15 (by decide) ?_
  refine lv_iload_n hx hb dX11_begin_2 rfl (lv_at hl 0 rfl) ?_
  refine lv_bipush (v := 76) hx hb dX11_begin_3 (by decide) ?_
  refine lv_icmp_ge (tgt := 18) hx hb dX11_begin_5 (by decide) (fun h9 => absurd h9 (by decide)) (fun _ => ?_)
  refine lv_aload_n hx hb dX11_begin_8 rfl (lv_at hl 1 rfl) ?_
  refine lv_iload_n hx hb dX11_begin_9 rfl (lv_at hl 0 rfl) ?_
  refine lv_iconst (v := 0) hx hb dX11_begin_10 (by decide) ?_
  refine va_iast hx hb hK hP hD hS 0 0 rfl rfl (by unfold vp_in; decide) dX11_begin_11 (fun H locs hP hD hS => ?_)
  rw [kw_upd0] at hP hD
  have hP : va_P D vwCl [(to, .inl (y 0, 228, .inl (fun _ => 0)))] H := hP
  have hD : va_D A [(to, .inl (y 0, 228, .inl (fun _ => 0)))] := hD
  refine lv_iinc (v := 11) (lv' := [(2, .int 11), (0, .ref to), (1, .int 0)]) hx hb dX11_begin_12 hl (k := 0) rfl (by decide) (by decide) rfl (fun ls hl => ?_)
  refine lv_goto (tgt := 2) hx hb dX11_begin_15 (by decide) ?_
  refine lv_iload_n hx hb dX11_begin_2 rfl (lv_at hl 0 rfl) ?_
  refine lv_bipush (v := 76) hx hb dX11_begin_3 (by decide) ?_
  refine lv_icmp_ge (tgt := 18) hx hb dX11_begin_5 (by decide) (fun h9 => absurd h9 (by decide)) (fun _ => ?_)
  refine lv_aload_n hx hb dX11_begin_8 rfl (lv_at hl 1 rfl) ?_
  refine lv_iload_n hx hb dX11_begin_9 rfl (lv_at hl 0 rfl) ?_
  refine lv_iconst (v := 0) hx hb dX11_begin_10 (by decide) ?_
  refine va_iast hx hb hK hP hD hS 0 0 rfl rfl (by unfold vp_in; decide) dX11_begin_11 (fun H locs hP hD hS => ?_)
  rw [kw_upd0] at hP hD
  have hP : va_P D vwCl [(to, .inl (y 0, 228, .inl (fun _ => 0)))] H := hP
  have hD : va_D A [(to, .inl (y 0, 228, .inl (fun _ => 0)))] := hD
  refine lv_iinc (v := 12) (lv' := [(2, .int 12), (0, .ref to), (1, .int 0)]) hx hb dX11_begin_12 hl (k := 0) rfl (by decide) (by decide) rfl (fun ls hl => ?_)
  refine lv_goto (tgt := 2) hx hb dX11_begin_15 (by decide) ?_
  refine lv_iload_n hx hb dX11_begin_2 rfl (lv_at hl 0 rfl) ?_
  refine lv_bipush (v := 76) hx hb dX11_begin_3 (by decide) ?_
  refine lv_icmp_ge (tgt := 18) hx hb dX11_begin_5 (by decide) (fun h9 => absurd h9 (by decide)) (fun _ => ?_)
  refine lv_aload_n hx hb dX11_begin_8 rfl (lv_at hl 1 rfl) ?_
  refine lv_iload_n hx hb dX11_begin_9 rfl (lv_at hl 0 rfl) ?_
  refine lv_iconst (v := 0) hx hb dX11_begin_10 (by decide) ?_
  refine va_iast hx hb hK hP hD hS 0 0 rfl rfl (by unfold vp_in; decide) dX11_begin_11 (fun H locs hP hD hS => ?_)
  rw [kw_upd0] at hP hD
  have hP : va_P D vwCl [(to, .inl (y 0, 228, .inl (fun _ => 0)))] H := hP
  have hD : va_D A [(to, .inl (y 0, 228, .inl (fun _ => 0)))] := hD
  refine lv_iinc (v := 13) (lv' := [(2, .int 13), (0, .ref to), (1, .int 0)]) hx hb dX11_begin_12 hl (k := 0) rfl (by decide) (by decide) rfl (fun ls hl => ?_)
  refine lv_goto (tgt := 2) hx hb dX11_begin_15 (by decide) ?_
  refine lv_iload_n hx hb dX11_begin_2 rfl (lv_at hl 0 rfl) ?_
  refine lv_bipush (v := 76) hx hb dX11_begin_3 (by decide) ?_
  refine lv_icmp_ge (tgt := 18) hx hb dX11_begin_5 (by decide) (fun h9 => absurd h9 (by decide)) (fun _ => ?_)
  refine lv_aload_n hx hb dX11_begin_8 rfl (lv_at hl 1 rfl) ?_
  refine lv_iload_n hx hb dX11_begin_9 rfl (lv_at hl 0 rfl) ?_
  refine lv_iconst (v := 0) hx hb dX11_begin_10 (by decide) ?_
  refine va_iast hx hb hK hP hD hS 0 0 rfl rfl (by unfold vp_in; decide) dX11_begin_11 (fun H locs hP hD hS => ?_)
  rw [kw_upd0] at hP hD
  have hP : va_P D vwCl [(to, .inl (y 0, 228, .inl (fun _ => 0)))] H := hP
  have hD : va_D A [(to, .inl (y 0, 228, .inl (fun _ => 0)))] := hD
  refine lv_iinc (v := 14) (lv' := [(2, .int 14), (0, .ref to), (1, .int 0)]) hx hb dX11_begin_12 hl (k := 0) rfl (by decide) (by decide) rfl (fun ls hl => ?_)
  refine lv_goto (tgt := 2) hx hb dX11_begin_15 (by decide) ?_
  refine lv_iload_n hx hb dX11_begin_2 rfl (lv_at hl 0 rfl) ?_
  refine lv_bipush (v := 76) hx hb dX11_begin_3 (by decide) ?_
  refine lv_icmp_ge (tgt := 18) hx hb dX11_begin_5 (by decide) (fun h9 => absurd h9 (by decide)) (fun _ => ?_)
  refine lv_aload_n hx hb dX11_begin_8 rfl (lv_at hl 1 rfl) ?_
  refine lv_iload_n hx hb dX11_begin_9 rfl (lv_at hl 0 rfl) ?_
  refine lv_iconst (v := 0) hx hb dX11_begin_10 (by decide) ?_
  refine va_iast hx hb hK hP hD hS 0 0 rfl rfl (by unfold vp_in; decide) dX11_begin_11 (fun H locs hP hD hS => ?_)
  rw [kw_upd0] at hP hD
  have hP : va_P D vwCl [(to, .inl (y 0, 228, .inl (fun _ => 0)))] H := hP
  have hD : va_D A [(to, .inl (y 0, 228, .inl (fun _ => 0)))] := hD
  refine lv_iinc (v := 15) (lv' := [(2, .int 15), (0, .ref to), (1, .int 0)]) hx hb dX11_begin_12 hl (k := 0) rfl (by decide) (by decide) rfl (fun ls hl => ?_)
  refine lv_goto (tgt := 2) hx hb dX11_begin_15 (by decide) ?_
  refine lv_iload_n hx hb dX11_begin_2 rfl (lv_at hl 0 rfl) ?_
  refine lv_bipush (v := 76) hx hb dX11_begin_3 (by decide) ?_
  refine lv_icmp_ge (tgt := 18) hx hb dX11_begin_5 (by decide) (fun h9 => absurd h9 (by decide)) (fun _ => ?_)
  refine lv_aload_n hx hb dX11_begin_8 rfl (lv_at hl 1 rfl) ?_
  refine lv_iload_n hx hb dX11_begin_9 rfl (lv_at hl 0 rfl) ?_
  refine lv_iconst (v := 0) hx hb dX11_begin_10 (by decide) ?_
  refine va_iast hx hb hK hP hD hS 0 0 rfl rfl (by unfold vp_in; decide) dX11_begin_11 (fun H locs hP hD hS => ?_)
  rw [kw_upd0] at hP hD
  have hP : va_P D vwCl [(to, .inl (y 0, 228, .inl (fun _ => 0)))] H := hP
  have hD : va_D A [(to, .inl (y 0, 228, .inl (fun _ => 0)))] := hD
  refine lv_iinc (v := 16) (lv' := [(2, .int 16), (0, .ref to), (1, .int 0)]) hx hb dX11_begin_12 hl (k := 0) rfl (by decide) (by decide) rfl (fun ls hl => ?_)
  refine lv_goto (tgt := 2) hx hb dX11_begin_15 (by decide) ?_
  refine lv_iload_n hx hb dX11_begin_2 rfl (lv_at hl 0 rfl) ?_
  refine lv_bipush (v := 76) hx hb dX11_begin_3 (by decide) ?_
  refine lv_icmp_ge (tgt := 18) hx hb dX11_begin_5 (by decide) (fun h9 => absurd h9 (by decide)) (fun _ => ?_)
  refine lv_aload_n hx hb dX11_begin_8 rfl (lv_at hl 1 rfl) ?_
  refine lv_iload_n hx hb dX11_begin_9 rfl (lv_at hl 0 rfl) ?_
  refine lv_iconst (v := 0) hx hb dX11_begin_10 (by decide) ?_
  refine va_iast hx hb hK hP hD hS 0 0 rfl rfl (by unfold vp_in; decide) dX11_begin_11 (fun H locs hP hD hS => ?_)
  rw [kw_upd0] at hP hD
  have hP : va_P D vwCl [(to, .inl (y 0, 228, .inl (fun _ => 0)))] H := hP
  have hD : va_D A [(to, .inl (y 0, 228, .inl (fun _ => 0)))] := hD
  refine lv_iinc (v := 17) (lv' := [(2, .int 17), (0, .ref to), (1, .int 0)]) hx hb dX11_begin_12 hl (k := 0) rfl (by decide) (by decide) rfl (fun ls hl => ?_)
  refine lv_goto (tgt := 2) hx hb dX11_begin_15 (by decide) ?_
  refine lv_iload_n hx hb dX11_begin_2 rfl (lv_at hl 0 rfl) ?_
  refine lv_bipush (v := 76) hx hb dX11_begin_3 (by decide) ?_
  refine lv_icmp_ge (tgt := 18) hx hb dX11_begin_5 (by decide) (fun h9 => absurd h9 (by decide)) (fun _ => ?_)
  refine lv_aload_n hx hb dX11_begin_8 rfl (lv_at hl 1 rfl) ?_
  refine lv_iload_n hx hb dX11_begin_9 rfl (lv_at hl 0 rfl) ?_
  refine lv_iconst (v := 0) hx hb dX11_begin_10 (by decide) ?_
  refine va_iast hx hb hK hP hD hS 0 0 rfl rfl (by unfold vp_in; decide) dX11_begin_11 (fun H locs hP hD hS => ?_)
  rw [kw_upd0] at hP hD
  have hP : va_P D vwCl [(to, .inl (y 0, 228, .inl (fun _ => 0)))] H := hP
  have hD : va_D A [(to, .inl (y 0, 228, .inl (fun _ => 0)))] := hD
  refine lv_iinc (v := 18) (lv' := [(2, .int 18), (0, .ref to), (1, .int 0)]) hx hb dX11_begin_12 hl (k := 0) rfl (by decide) (by decide) rfl (fun ls hl => ?_)
  refine lv_goto (tgt := 2) hx hb dX11_begin_15 (by decide) ?_
  refine lv_iload_n hx hb dX11_begin_2 rfl (lv_at hl 0 rfl) ?_
  refine lv_bipush (v := 76) hx hb dX11_begin_3 (by decide) ?_
  refine lv_icmp_ge (tgt := 18) hx hb dX11_begin_5 (by decide) (fun h9 => absurd h9 (by decide)) (fun _ => ?_)
  refine lv_aload_n hx hb dX11_begin_8 rfl (lv_at hl 1 rfl) ?_
  refine lv_iload_n hx hb dX11_begin_9 rfl (lv_at hl 0 rfl) ?_
  refine lv_iconst (v := 0) hx hb dX11_begin_10 (by decide) ?_
  refine va_iast hx hb hK hP hD hS 0 0 rfl rfl (by unfold vp_in; decide) dX11_begin_11 (fun H locs hP hD hS => ?_)
  rw [kw_upd0] at hP hD
  have hP : va_P D vwCl [(to, .inl (y 0, 228, .inl (fun _ => 0)))] H := hP
  have hD : va_D A [(to, .inl (y 0, 228, .inl (fun _ => 0)))] := hD
  refine lv_iinc (v := 19) (lv' := [(2, .int 19), (0, .ref to), (1, .int 0)]) hx hb dX11_begin_12 hl (k := 0) rfl (by decide) (by decide) rfl (fun ls hl => ?_)
  refine lv_goto (tgt := 2) hx hb dX11_begin_15 (by decide) ?_
  refine lv_iload_n hx hb dX11_begin_2 rfl (lv_at hl 0 rfl) ?_
  refine lv_bipush (v := 76) hx hb dX11_begin_3 (by decide) ?_
  refine lv_icmp_ge (tgt := 18) hx hb dX11_begin_5 (by decide) (fun h9 => absurd h9 (by decide)) (fun _ => ?_)
  refine lv_aload_n hx hb dX11_begin_8 rfl (lv_at hl 1 rfl) ?_
  refine lv_iload_n hx hb dX11_begin_9 rfl (lv_at hl 0 rfl) ?_
  refine lv_iconst (v := 0) hx hb dX11_begin_10 (by decide) ?_
  refine va_iast hx hb hK hP hD hS 0 0 rfl rfl (by unfold vp_in; decide) dX11_begin_11 (fun H locs hP hD hS => ?_)
  rw [kw_upd0] at hP hD
  have hP : va_P D vwCl [(to, .inl (y 0, 228, .inl (fun _ => 0)))] H := hP
  have hD : va_D A [(to, .inl (y 0, 228, .inl (fun _ => 0)))] := hD
  refine lv_iinc (v := 20) (lv' := [(2, .int 20), (0, .ref to), (1, .int 0)]) hx hb dX11_begin_12 hl (k := 0) rfl (by decide) (by decide) rfl (fun ls hl => ?_)
  refine lv_goto (tgt := 2) hx hb dX11_begin_15 (by decide) ?_
  refine lv_iload_n hx hb dX11_begin_2 rfl (lv_at hl 0 rfl) ?_
  refine lv_bipush (v := 76) hx hb dX11_begin_3 (by decide) ?_
  refine lv_icmp_ge (tgt := 18) hx hb dX11_begin_5 (by decide) (fun h9 => absurd h9 (by decide)) (fun _ => ?_)
  refine lv_aload_n hx hb dX11_begin_8 rfl (lv_at hl 1 rfl) ?_
  refine lv_iload_n hx hb dX11_begin_9 rfl (lv_at hl 0 rfl) ?_
  refine lv_iconst (v := 0) hx hb dX11_begin_10 (by decide) ?_
  refine va_iast hx hb hK hP hD hS 0 0 rfl rfl (by unfold vp_in; decide) dX11_begin_11 (fun H locs hP hD hS => ?_)
  rw [kw_upd0] at hP hD
  have hP : va_P D vwCl [(to, .inl (y 0, 228, .inl (fun _ => 0)))] H := hP
  have hD : va_D A [(to, .inl (y 0, 228, .inl (fun _ => 0)))] := hD
  refine lv_iinc (v := 21) (lv' := [(2, .int 21), (0, .ref to), (1, .int 0)]) hx hb dX11_begin_12 hl (k := 0) rfl (by decide) (by decide) rfl (fun ls hl => ?_)
  refine lv_goto (tgt := 2) hx hb dX11_begin_15 (by decide) ?_
  refine lv_iload_n hx hb dX11_begin_2 rfl (lv_at hl 0 rfl) ?_
  refine lv_bipush (v := 76) hx hb dX11_begin_3 (by decide) ?_
  refine lv_icmp_ge (tgt := 18) hx hb dX11_begin_5 (by decide) (fun h9 => absurd h9 (by decide)) (fun _ => ?_)
  refine lv_aload_n hx hb dX11_begin_8 rfl (lv_at hl 1 rfl) ?_
  refine lv_iload_n hx hb dX11_begin_9 rfl (lv_at hl 0 rfl) ?_
  refine lv_iconst (v := 0) hx hb dX11_begin_10 (by decide) ?_
  refine va_iast hx hb hK hP hD hS 0 0 rfl rfl (by unfold vp_in; decide) dX11_begin_11 (fun H locs hP hD hS => ?_)
  rw [kw_upd0] at hP hD
  have hP : va_P D vwCl [(to, .inl (y 0, 228, .inl (fun _ => 0)))] H := hP
  have hD : va_D A [(to, .inl (y 0, 228, .inl (fun _ => 0)))] := hD
  refine lv_iinc (v := 22) (lv' := [(2, .int 22), (0, .ref to), (1, .int 0)]) hx hb dX11_begin_12 hl (k := 0) rfl (by decide) (by decide) rfl (fun ls hl => ?_)
  refine lv_goto (tgt := 2) hx hb dX11_begin_15 (by decide) ?_
  refine lv_iload_n hx hb dX11_begin_2 rfl (lv_at hl 0 rfl) ?_
  refine lv_bipush (v := 76) hx hb dX11_begin_3 (by decide) ?_
  refine lv_icmp_ge (tgt := 18) hx hb dX11_begin_5 (by decide) (fun h9 => absurd h9 (by decide)) (fun _ => ?_)
  refine lv_aload_n hx hb dX11_begin_8 rfl (lv_at hl 1 rfl) ?_
  refine lv_iload_n hx hb dX11_begin_9 rfl (lv_at hl 0 rfl) ?_
  refine lv_iconst (v := 0) hx hb dX11_begin_10 (by decide) ?_
  refine va_iast hx hb hK hP hD hS 0 0 rfl rfl (by unfold vp_in; decide) dX11_begin_11 (fun H locs hP hD hS => ?_)
  rw [kw_upd0] at hP hD
  have hP : va_P D vwCl [(to, .inl (y 0, 228, .inl (fun _ => 0)))] H := hP
  have hD : va_D A [(to, .inl (y 0, 228, .inl (fun _ => 0)))] := hD
  refine lv_iinc (v := 23) (lv' := [(2, .int 23), (0, .ref to), (1, .int 0)]) hx hb dX11_begin_12 hl (k := 0) rfl (by decide) (by decide) rfl (fun ls hl => ?_)
  refine lv_goto (tgt := 2) hx hb dX11_begin_15 (by decide) ?_
  refine lv_iload_n hx hb dX11_begin_2 rfl (lv_at hl 0 rfl) ?_
  refine lv_bipush (v := 76) hx hb dX11_begin_3 (by decide) ?_
  refine lv_icmp_ge (tgt := 18) hx hb dX11_begin_5 (by decide) (fun h9 => absurd h9 (by decide)) (fun _ => ?_)
  refine lv_aload_n hx hb dX11_begin_8 rfl (lv_at hl 1 rfl) ?_
  refine lv_iload_n hx hb dX11_begin_9 rfl (lv_at hl 0 rfl) ?_
  refine lv_iconst (v := 0) hx hb dX11_begin_10 (by decide) ?_
  refine va_iast hx hb hK hP hD hS 0 0 rfl rfl (by unfold vp_in; decide) dX11_begin_11 (fun H locs hP hD hS => ?_)
  rw [kw_upd0] at hP hD
  have hP : va_P D vwCl [(to, .inl (y 0, 228, .inl (fun _ => 0)))] H := hP
  have hD : va_D A [(to, .inl (y 0, 228, .inl (fun _ => 0)))] := hD
  refine lv_iinc (v := 24) (lv' := [(2, .int 24), (0, .ref to), (1, .int 0)]) hx hb dX11_begin_12 hl (k := 0) rfl (by decide) (by decide) rfl (fun ls hl => ?_)
  refine lv_goto (tgt := 2) hx hb dX11_begin_15 (by decide) ?_
  refine lv_iload_n hx hb dX11_begin_2 rfl (lv_at hl 0 rfl) ?_
  refine lv_bipush (v := 76) hx hb dX11_begin_3 (by decide) ?_
  refine lv_icmp_ge (tgt := 18) hx hb dX11_begin_5 (by decide) (fun h9 => absurd h9 (by decide)) (fun _ => ?_)
  refine lv_aload_n hx hb dX11_begin_8 rfl (lv_at hl 1 rfl) ?_
  refine lv_iload_n hx hb dX11_begin_9 rfl (lv_at hl 0 rfl) ?_
  refine lv_iconst (v := 0) hx hb dX11_begin_10 (by decide) ?_
  refine va_iast hx hb hK hP hD hS 0 0 rfl rfl (by unfold vp_in; decide) dX11_begin_11 (fun H locs hP hD hS => ?_)
  rw [kw_upd0] at hP hD
  have hP : va_P D vwCl [(to, .inl (y 0, 228, .inl (fun _ => 0)))] H := hP
  have hD : va_D A [(to, .inl (y 0, 228, .inl (fun _ => 0)))] := hD
  refine lv_iinc (v := 25) (lv' := [(2, .int 25), (0, .ref to), (1, .int 0)]) hx hb dX11_begin_12 hl (k := 0) rfl (by decide) (by decide) rfl (fun ls hl => ?_)
  refine lv_goto (tgt := 2) hx hb dX11_begin_15 (by decide) ?_
  refine lv_iload_n hx hb dX11_begin_2 rfl (lv_at hl 0 rfl) ?_
  refine lv_bipush (v := 76) hx hb dX11_begin_3 (by decide) ?_
  refine lv_icmp_ge (tgt := 18) hx hb dX11_begin_5 (by decide) (fun h9 => absurd h9 (by decide)) (fun _ => ?_)
  refine lv_aload_n hx hb dX11_begin_8 rfl (lv_at hl 1 rfl) ?_
  refine lv_iload_n hx hb dX11_begin_9 rfl (lv_at hl 0 rfl) ?_
  refine lv_iconst (v := 0) hx hb dX11_begin_10 (by decide) ?_
  refine va_iast hx hb hK hP hD hS 0 0 rfl rfl (by unfold vp_in; decide) dX11_begin_11 (fun H locs hP hD hS => ?_)
  rw [kw_upd0] at hP hD
  have hP : va_P D vwCl [(to, .inl (y 0, 228, .inl (fun _ => 0)))] H := hP
  have hD : va_D A [(to, .inl (y 0, 228, .inl (fun _ => 0)))] := hD
  refine lv_iinc (v := 26) (lv' := [(2, .int 26), (0, .ref to), (1, .int 0)]) hx hb dX11_begin_12 hl (k := 0) rfl (by decide) (by decide) rfl (fun ls hl => ?_)
  refine lv_goto (tgt := 2) hx hb dX11_begin_15 (by decide) ?_
  refine lv_iload_n hx hb dX11_begin_2 rfl (lv_at hl 0 rfl) ?_
  refine lv_bipush (v := 76) hx hb dX11_begin_3 (by decide) ?_
  refine lv_icmp_ge (tgt := 18) hx hb dX11_begin_5 (by decide) (fun h9 => absurd h9 (by decide)) (fun _ => ?_)
  refine lv_aload_n hx hb dX11_begin_8 rfl (lv_at hl 1 rfl) ?_
  refine lv_iload_n hx hb dX11_begin_9 rfl (lv_at hl 0 rfl) ?_
  refine lv_iconst (v := 0) hx hb dX11_begin_10 (by decide) ?_
  refine va_iast hx hb hK hP hD hS 0 0 rfl rfl (by unfold vp_in; decide) dX11_begin_11 (fun H locs hP hD hS => ?_)
  rw [kw_upd0] at hP hD
  have hP : va_P D vwCl [(to, .inl (y 0, 228, .inl (fun _ => 0)))] H := hP
  have hD : va_D A [(to, .inl (y 0, 228, .inl (fun _ => 0)))] := hD
  refine lv_iinc (v := 27) (lv' := [(2, .int 27), (0, .ref to), (1, .int 0)]) hx hb dX11_begin_12 hl (k := 0) rfl (by decide) (by decide) rfl (fun ls hl => ?_)
  refine lv_goto (tgt := 2) hx hb dX11_begin_15 (by decide) ?_
  refine lv_iload_n hx hb dX11_begin_2 rfl (lv_at hl 0 rfl) ?_
  refine lv_bipush (v := 76) hx hb dX11_begin_3 (by decide) ?_
  refine lv_icmp_ge (tgt := 18) hx hb dX11_begin_5 (by decide) (fun h9 => absurd h9 (by decide)) (fun _ => ?_)
  refine lv_aload_n hx hb dX11_begin_8 rfl (lv_at hl 1 rfl) ?_
  refine lv_iload_n hx hb dX11_begin_9 rfl (lv_at hl 0 rfl) ?_
  refine lv_iconst (v := 0) hx hb dX11_begin_10 (by decide) ?_
  refine va_iast hx hb hK hP hD hS 0 0 rfl rfl (by unfold vp_in; decide) dX11_begin_11 (fun H locs hP hD hS => ?_)
  rw [kw_upd0] at hP hD
  have hP : va_P D vwCl [(to, .inl (y 0, 228, .inl (fun _ => 0)))] H := hP
  have hD : va_D A [(to, .inl (y 0, 228, .inl (fun _ => 0)))] := hD
  refine lv_iinc (v := 28) (lv' := [(2, .int 28), (0, .ref to), (1, .int 0)]) hx hb dX11_begin_12 hl (k := 0) rfl (by decide) (by decide) rfl (fun ls hl => ?_)
  refine lv_goto (tgt := 2) hx hb dX11_begin_15 (by decide) ?_
  refine lv_iload_n hx hb dX11_begin_2 rfl (lv_at hl 0 rfl) ?_
  refine lv_bipush (v := 76) hx hb dX11_begin_3 (by decide) ?_
  refine lv_icmp_ge (tgt := 18) hx hb dX11_begin_5 (by decide) (fun h9 => absurd h9 (by decide)) (fun _ => ?_)
  refine lv_aload_n hx hb dX11_begin_8 rfl (lv_at hl 1 rfl) ?_
  refine lv_iload_n hx hb dX11_begin_9 rfl (lv_at hl 0 rfl) ?_
  refine lv_iconst (v := 0) hx hb dX11_begin_10 (by decide) ?_
  refine va_iast hx hb hK hP hD hS 0 0 rfl rfl (by unfold vp_in; decide) dX11_begin_11 (fun H locs hP hD hS => ?_)
  rw [kw_upd0] at hP hD
  have hP : va_P D vwCl [(to, .inl (y 0, 228, .inl (fun _ => 0)))] H := hP
  have hD : va_D A [(to, .inl (y 0, 228, .inl (fun _ => 0)))] := hD
  refine lv_iinc (v := 29) (lv' := [(2, .int 29), (0, .ref to), (1, .int 0)]) hx hb dX11_begin_12 hl (k := 0) rfl (by decide) (by decide) rfl (fun ls hl => ?_)
  refine lv_goto (tgt := 2) hx hb dX11_begin_15 (by decide) ?_
  refine lv_iload_n hx hb dX11_begin_2 rfl (lv_at hl 0 rfl) ?_
  refine lv_bipush (v := 76) hx hb dX11_begin_3 (by decide) ?_
  refine lv_icmp_ge (tgt := 18) hx hb dX11_begin_5 (by decide) (fun h9 => absurd h9 (by decide)) (fun _ => ?_)
  refine lv_aload_n hx hb dX11_begin_8 rfl (lv_at hl 1 rfl) ?_
  refine lv_iload_n hx hb dX11_begin_9 rfl (lv_at hl 0 rfl) ?_
  refine lv_iconst (v := 0) hx hb dX11_begin_10 (by decide) ?_
  refine va_iast hx hb hK hP hD hS 0 0 rfl rfl (by unfold vp_in; decide) dX11_begin_11 (fun H locs hP hD hS => ?_)
  rw [kw_upd0] at hP hD
  have hP : va_P D vwCl [(to, .inl (y 0, 228, .inl (fun _ => 0)))] H := hP
  have hD : va_D A [(to, .inl (y 0, 228, .inl (fun _ => 0)))] := hD
  refine lv_iinc (v := 30) (lv' := [(2, .int 30), (0, .ref to), (1, .int 0)]) hx hb dX11_begin_12 hl (k := 0) rfl (by decide) (by decide) rfl (fun ls hl => ?_)
  refine lv_goto (tgt := 2) hx hb dX11_begin_15 (by decide) ?_
  refine lv_iload_n hx hb dX11_begin_2 rfl (lv_at hl 0 rfl) ?_
  refine lv_bipush (v := 76) hx hb dX11_begin_3 (by decide) ?_
  refine lv_icmp_ge (tgt := 18) hx hb dX11_begin_5 (by decide) (fun h9 => absurd h9 (by decide)) (fun _ => ?_)
  refine lv_aload_n hx hb dX11_begin_8 rfl (lv_at hl 1 rfl) ?_
  refine lv_iload_n hx hb dX11_begin_9 rfl (lv_at hl 0 rfl) ?_
  refine lv_iconst (v := 0) hx hb dX11_begin_10 (by decide) ?_
  refine va_iast hx hb hK hP hD hS 0 0 rfl rfl (by unfold vp_in; decide) dX11_begin_11 (fun H locs hP hD hS => ?_)
  rw [kw_upd0] at hP hD
  have hP : va_P D vwCl [(to, .inl (y 0, 228, .inl (fun _ => 0)))] H := hP
  have hD : va_D A [(to, .inl (y 0, 228, .inl (fun _ => 0)))] := hD
  refine lv_iinc (v := 31) (lv' := [(2, .int 31), (0, .ref to), (1, .int 0)]) hx hb dX11_begin_12 hl (k := 0) rfl (by decide) (by decide) rfl (fun ls hl => ?_)
  refine lv_goto (tgt := 2) hx hb dX11_begin_15 (by decide) ?_
  refine lv_iload_n hx hb dX11_begin_2 rfl (lv_at hl 0 rfl) ?_
  refine lv_bipush (v := 76) hx hb dX11_begin_3 (by decide) ?_
  refine lv_icmp_ge (tgt := 18) hx hb dX11_begin_5 (by decide) (fun h9 => absurd h9 (by decide)) (fun _ => ?_)
  refine lv_aload_n hx hb dX11_begin_8 rfl (lv_at hl 1 rfl) ?_
  refine lv_iload_n hx hb dX11_begin_9 rfl (lv_at hl 0 rfl) ?_
  refine lv_iconst (v := 0) hx hb dX11_begin_10 (by decide) ?_
  refine va_iast hx hb hK hP hD hS 0 0 rfl rfl (by unfold vp_in; decide) dX11_begin_11 (fun H locs hP hD hS => ?_)
  rw [kw_upd0] at hP hD
  have hP : va_P D vwCl [(to, .inl (y 0, 228, .inl (fun _ => 0)))] H := hP
  have hD : va_D A [(to, .inl (y 0, 228, .inl (fun _ => 0)))] := hD
  refine lv_iinc (v := 32) (lv' := [(2, .int 32), (0, .ref to), (1, .int 0)]) hx hb dX11_begin_12 hl (k := 0) rfl (by decide) (by decide) rfl (fun ls hl => ?_)
  refine lv_goto (tgt := 2) hx hb dX11_begin_15 (by decide) ?_
  refine lv_iload_n hx hb dX11_begin_2 rfl (lv_at hl 0 rfl) ?_
  refine lv_bipush (v := 76) hx hb dX11_begin_3 (by decide) ?_
  refine lv_icmp_ge (tgt := 18) hx hb dX11_begin_5 (by decide) (fun h9 => absurd h9 (by decide)) (fun _ => ?_)
  refine lv_aload_n hx hb dX11_begin_8 rfl (lv_at hl 1 rfl) ?_
  refine lv_iload_n hx hb dX11_begin_9 rfl (lv_at hl 0 rfl) ?_
  refine lv_iconst (v := 0) hx hb dX11_begin_10 (by decide) ?_
  refine va_iast hx hb hK hP hD hS 0 0 rfl rfl (by unfold vp_in; decide) dX11_begin_11 (fun H locs hP hD hS => ?_)
  rw [kw_upd0] at hP hD
  have hP : va_P D vwCl [(to, .inl (y 0, 228, .inl (fun _ => 0)))] H := hP
  have hD : va_D A [(to, .inl (y 0, 228, .inl (fun _ => 0)))] := hD
  refine lv_iinc (v := 33) (lv' := [(2, .int 33), (0, .ref to), (1, .int 0)]) hx hb dX11_begin_12 hl (k := 0) rfl (by decide) (by decide) rfl (fun ls hl => ?_)
  refine lv_goto (tgt := 2) hx hb dX11_begin_15 (by decide) ?_
  refine lv_iload_n hx hb dX11_begin_2 rfl (lv_at hl 0 rfl) ?_
  refine lv_bipush (v := 76) hx hb dX11_begin_3 (by decide) ?_
  refine lv_icmp_ge (tgt := 18) hx hb dX11_begin_5 (by decide) (fun h9 => absurd h9 (by decide)) (fun _ => ?_)
  refine lv_aload_n hx hb dX11_begin_8 rfl (lv_at hl 1 rfl) ?_
  refine lv_iload_n hx hb dX11_begin_9 rfl (lv_at hl 0 rfl) ?_
  refine lv_iconst (v := 0) hx hb dX11_begin_10 (by decide) ?_
  refine va_iast hx hb hK hP hD hS 0 0 rfl rfl (by unfold vp_in; decide) dX11_begin_11 (fun H locs hP hD hS => ?_)
  rw [kw_upd0] at hP hD
  have hP : va_P D vwCl [(to, .inl (y 0, 228, .inl (fun _ => 0)))] H := hP
  have hD : va_D A [(to, .inl (y 0, 228, .inl (fun _ => 0)))] := hD
  refine lv_iinc (v := 34) (lv' := [(2, .int 34), (0, .ref to), (1, .int 0)]) hx hb dX11_begin_12 hl (k := 0) rfl (by decide) (by decide) rfl (fun ls hl => ?_)
  refine lv_goto (tgt := 2) hx hb dX11_begin_15 (by decide) ?_
  refine lv_iload_n hx hb dX11_begin_2 rfl (lv_at hl 0 rfl) ?_
  refine lv_bipush (v := 76) hx hb dX11_begin_3 (by decide) ?_
  refine lv_icmp_ge (tgt := 18) hx hb dX11_begin_5 (by decide) (fun h9 => absurd h9 (by decide)) (fun _ => ?_)
  refine lv_aload_n hx hb dX11_begin_8 rfl (lv_at hl 1 rfl) ?_
  refine lv_iload_n hx hb dX11_begin_9 rfl (lv_at hl 0 rfl) ?_
  refine lv_iconst (v := 0) hx hb dX11_begin_10 (by decide) ?_
  refine va_iast hx hb hK hP hD hS 0 0 rfl rfl (by unfold vp_in; decide) dX11_begin_11 (fun H locs hP hD hS => ?_)
  rw [kw_upd0] at hP hD
  have hP : va_P D vwCl [(to, .inl (y 0, 228, .inl (fun _ => 0)))] H := hP
  have hD : va_D A [(to, .inl (y 0, 228, .inl (fun _ => 0)))] := hD
  refine lv_iinc (v := 35) (lv' := [(2, .int 35), (0, .ref to), (1, .int 0)]) hx hb dX11_begin_12 hl (k := 0) rfl (by decide) (by decide) rfl (fun ls hl => ?_)
  refine lv_goto (tgt := 2) hx hb dX11_begin_15 (by decide) ?_
  refine lv_iload_n hx hb dX11_begin_2 rfl (lv_at hl 0 rfl) ?_
  refine lv_bipush (v := 76) hx hb dX11_begin_3 (by decide) ?_
  refine lv_icmp_ge (tgt := 18) hx hb dX11_begin_5 (by decide) (fun h9 => absurd h9 (by decide)) (fun _ => ?_)
  refine lv_aload_n hx hb dX11_begin_8 rfl (lv_at hl 1 rfl) ?_
  refine lv_iload_n hx hb dX11_begin_9 rfl (lv_at hl 0 rfl) ?_
  refine lv_iconst (v := 0) hx hb dX11_begin_10 (by decide) ?_
  refine va_iast hx hb hK hP hD hS 0 0 rfl rfl (by unfold vp_in; decide) dX11_begin_11 (fun H locs hP hD hS => ?_)
  rw [kw_upd0] at hP hD
  have hP : va_P D vwCl [(to, .inl (y 0, 228, .inl (fun _ => 0)))] H := hP
  have hD : va_D A [(to, .inl (y 0, 228, .inl (fun _ => 0)))] := hD
  refine lv_iinc (v := 36) (lv' := [(2, .int 36), (0, .ref to), (1, .int 0)]) hx hb dX11_begin_12 hl (k := 0) rfl (by decide) (by decide) rfl (fun ls hl => ?_)
  refine lv_goto (tgt := 2) hx hb dX11_begin_15 (by decide) ?_
  refine lv_iload_n hx hb dX11_begin_2 rfl (lv_at hl 0 rfl) ?_
  refine lv_bipush (v := 76) hx hb dX11_begin_3 (by decide) ?_
  refine lv_icmp_ge (tgt := 18) hx hb dX11_begin_5 (by decide) (fun h9 => absurd h9 (by decide)) (fun _ => ?_)
  refine lv_aload_n hx hb dX11_begin_8 rfl (lv_at hl 1 rfl) ?_
  refine lv_iload_n hx hb dX11_begin_9 rfl (lv_at hl 0 rfl) ?_
  refine lv_iconst (v := 0) hx hb dX11_begin_10 (by decide) ?_
  refine va_iast hx hb hK hP hD hS 0 0 rfl rfl (by unfold vp_in; decide) dX11_begin_11 (fun H locs hP hD hS => ?_)
  rw [kw_upd0] at hP hD
  have hP : va_P D vwCl [(to, .inl (y 0, 228, .inl (fun _ => 0)))] H := hP
  have hD : va_D A [(to, .inl (y 0, 228, .inl (fun _ => 0)))] := hD
  refine lv_iinc (v := 37) (lv' := [(2, .int 37), (0, .ref to), (1, .int 0)]) hx hb dX11_begin_12 hl (k := 0) rfl (by decide) (by decide) rfl (fun ls hl => ?_)
  refine lv_goto (tgt := 2) hx hb dX11_begin_15 (by decide) ?_
  refine lv_iload_n hx hb dX11_begin_2 rfl (lv_at hl 0 rfl) ?_
  refine lv_bipush (v := 76) hx hb dX11_begin_3 (by decide) ?_
  refine lv_icmp_ge (tgt := 18) hx hb dX11_begin_5 (by decide) (fun h9 => absurd h9 (by decide)) (fun _ => ?_)
  refine lv_aload_n hx hb dX11_begin_8 rfl (lv_at hl 1 rfl) ?_
  refine lv_iload_n hx hb dX11_begin_9 rfl (lv_at hl 0 rfl) ?_
  refine lv_iconst (v := 0) hx hb dX11_begin_10 (by decide) ?_
  refine va_iast hx hb hK hP hD hS 0 0 rfl rfl (by unfold vp_in; decide) dX11_begin_11 (fun H locs hP hD hS => ?_)
  rw [kw_upd0] at hP hD
  have hP : va_P D vwCl [(to, .inl (y 0, 228, .inl (fun _ => 0)))] H := hP
  have hD : va_D A [(to, .inl (y 0, 228, .inl (fun _ => 0)))] := hD
  refine lv_iinc (v := 38) (lv' := [(2, .int 38), (0, .ref to), (1, .int 0)]) hx hb dX11_begin_12 hl (k := 0) rfl (by decide) (by decide) rfl (fun ls hl => ?_)
  refine lv_goto (tgt := 2) hx hb dX11_begin_15 (by decide) ?_
  refine lv_iload_n hx hb dX11_begin_2 rfl (lv_at hl 0 rfl) ?_
  refine lv_bipush (v := 76) hx hb dX11_begin_3 (by decide) ?_
  refine lv_icmp_ge (tgt := 18) hx hb dX11_begin_5 (by decide) (fun h9 => absurd h9 (by decide)) (fun _ => ?_)
  refine lv_aload_n hx hb dX11_begin_8 rfl (lv_at hl 1 rfl) ?_
  refine lv_iload_n hx hb dX11_begin_9 rfl (lv_at hl 0 rfl) ?_
  refine lv_iconst (v := 0) hx hb dX11_begin_10 (by decide) ?_
  refine va_iast hx hb hK hP hD hS 0 0 rfl rfl (by unfold vp_in; decide) dX11_begin_11 (fun H locs hP hD hS => ?_)
  rw [kw_upd0] at hP hD
  have hP : va_P D vwCl [(to, .inl (y 0, 228, .inl (fun _ => 0)))] H := hP
  have hD : va_D A [(to, .inl (y 0, 228, .inl (fun _ => 0)))] := hD
  refine lv_iinc (v := 39) (lv' := [(2, .int 39), (0, .ref to), (1, .int 0)]) hx hb dX11_begin_12 hl (k := 0) rfl (by decide) (by decide) rfl (fun ls hl => ?_)
  refine lv_goto (tgt := 2) hx hb dX11_begin_15 (by decide) ?_
  refine lv_iload_n hx hb dX11_begin_2 rfl (lv_at hl 0 rfl) ?_
  refine lv_bipush (v := 76) hx hb dX11_begin_3 (by decide) ?_
  refine lv_icmp_ge (tgt := 18) hx hb dX11_begin_5 (by decide) (fun h9 => absurd h9 (by decide)) (fun _ => ?_)
  refine lv_aload_n hx hb dX11_begin_8 rfl (lv_at hl 1 rfl) ?_
  refine lv_iload_n hx hb dX11_begin_9 rfl (lv_at hl 0 rfl) ?_
  refine lv_iconst (v := 0) hx hb dX11_begin_10 (by decide) ?_
  refine va_iast hx hb hK hP hD hS 0 0 rfl rfl (by unfold vp_in; decide) dX11_begin_11 (fun H locs hP hD hS => ?_)
  rw [kw_upd0] at hP hD
  have hP : va_P D vwCl [(to, .inl (y 0, 228, .inl (fun _ => 0)))] H := hP
  have hD : va_D A [(to, .inl (y 0, 228, .inl (fun _ => 0)))] := hD
  refine lv_iinc (v := 40) (lv' := [(2, .int 40), (0, .ref to), (1, .int 0)]) hx hb dX11_begin_12 hl (k := 0) rfl (by decide) (by decide) rfl (fun ls hl => ?_)
  refine lv_goto (tgt := 2) hx hb dX11_begin_15 (by decide) ?_
  refine lv_iload_n hx hb dX11_begin_2 rfl (lv_at hl 0 rfl) ?_
  refine lv_bipush (v := 76) hx hb dX11_begin_3 (by decide) ?_
  refine lv_icmp_ge (tgt := 18) hx hb dX11_begin_5 (by decide) (fun h9 => absurd h9 (by decide)) (fun _ => ?_)
  refine lv_aload_n hx hb dX11_begin_8 rfl (lv_at hl 1 rfl) ?_
  refine lv_iload_n hx hb dX11_begin_9 rfl (lv_at hl 0 rfl) ?_
  refine lv_iconst (v := 0) hx hb dX11_begin_10 (by decide) ?_
  refine va_iast hx hb hK hP hD hS 0 0 rfl rfl (by unfold vp_in; decide) dX11_begin_11 (fun H locs hP hD hS => ?_)
  rw [kw_upd0] at hP hD
  have hP : va_P D vwCl [(to, .inl (y 0, 228, .inl (fun _ => 0)))] H := hP
  have hD : va_D A [(to, .inl (y 0, 228, .inl (fun _ => 0)))] := hD
  refine lv_iinc (v := 41) (lv' := [(2, .int 41), (0, .ref to), (1, .int 0)]) hx hb dX11_begin_12 hl (k := 0) rfl (by decide) (by decide) rfl (fun ls hl => ?_)
  refine lv_goto (tgt := 2) hx hb dX11_begin_15 (by decide) ?_
  refine lv_iload_n hx hb dX11_begin_2 rfl (lv_at hl 0 rfl) ?_
  refine lv_bipush (v := 76) hx hb dX11_begin_3 (by decide) ?_
  refine lv_icmp_ge (tgt := 18) hx hb dX11_begin_5 (by decide) (fun h9 => absurd h9 (by decide)) (fun _ => ?_)
  refine lv_aload_n hx hb dX11_begin_8 rfl (lv_at hl 1 rfl) ?_
  refine lv_iload_n hx hb dX11_begin_9 rfl (lv_at hl 0 rfl) ?_
  refine lv_iconst (v := 0) hx hb dX11_begin_10 (by decide) ?_
  refine va_iast hx hb hK hP hD hS 0 0 rfl rfl (by unfold vp_in; decide) dX11_begin_11 (fun H locs hP hD hS => ?_)
  rw [kw_upd0] at hP hD
  have hP : va_P D vwCl [(to, .inl (y 0, 228, .inl (fun _ => 0)))] H := hP
  have hD : va_D A [(to, .inl (y 0, 228, .inl (fun _ => 0)))] := hD
  refine lv_iinc (v := 42) (lv' := [(2, .int 42), (0, .ref to), (1, .int 0)]) hx hb dX11_begin_12 hl (k := 0) rfl (by decide) (by decide) rfl (fun ls hl => ?_)
  refine lv_goto (tgt := 2) hx hb dX11_begin_15 (by decide) ?_
  refine lv_iload_n hx hb dX11_begin_2 rfl (lv_at hl 0 rfl) ?_
  refine lv_bipush (v := 76) hx hb dX11_begin_3 (by decide) ?_
  refine lv_icmp_ge (tgt := 18) hx hb dX11_begin_5 (by decide) (fun h9 => absurd h9 (by decide)) (fun _ => ?_)
  refine lv_aload_n hx hb dX11_begin_8 rfl (lv_at hl 1 rfl) ?_
  refine lv_iload_n hx hb dX11_begin_9 rfl (lv_at hl 0 rfl) ?_
  refine lv_iconst (v := 0) hx hb dX11_begin_10 (by decide) ?_
  refine va_iast hx hb hK hP hD hS 0 0 rfl rfl (by unfold vp_in; decide) dX11_begin_11 (fun H locs hP hD hS => ?_)
  rw [kw_upd0] at hP hD
  have hP : va_P D vwCl [(to, .inl (y 0, 228, .inl (fun _ => 0)))] H := hP
  have hD : va_D A [(to, .inl (y 0, 228, .inl (fun _ => 0)))] := hD
  refine lv_iinc (v := 43) (lv' := [(2, .int 43), (0, .ref to), (1, .int 0)]) hx hb dX11_begin_12 hl (k := 0) rfl (by decide) (by decide) rfl (fun ls hl => ?_)
  refine lv_goto (tgt := 2) hx hb dX11_begin_15 (by decide) ?_
  refine lv_iload_n hx hb dX11_begin_2 rfl (lv_at hl 0 rfl) ?_
  refine lv_bipush (v := 76) hx hb dX11_begin_3 (by decide) ?_
  refine lv_icmp_ge (tgt := 18) hx hb dX11_begin_5 (by decide) (fun h9 => absurd h9 (by decide)) (fun _ => ?_)
  refine lv_aload_n hx hb dX11_begin_8 rfl (lv_at hl 1 rfl) ?_
  refine lv_iload_n hx hb dX11_begin_9 rfl (lv_at hl 0 rfl) ?_
  refine lv_iconst (v := 0) hx hb dX11_begin_10 (by decide) ?_
  refine va_iast hx hb hK hP hD hS 0 0 rfl rfl (by unfold vp_in; decide) dX11_begin_11 (fun H locs hP hD hS => ?_)
  rw [kw_upd0] at hP hD
  have hP : va_P D vwCl [(to, .inl (y 0, 228, .inl (fun _ => 0)))] H := hP
  have hD : va_D A [(to, .inl (y 0, 228, .inl (fun _ => 0)))] := hD
  refine lv_iinc (v := 44) (lv' := [(2, .int 44), (0, .ref to), (1, .int 0)]) hx hb dX11_begin_12 hl (k := 0) rfl (by decide) (by decide) rfl (fun ls hl => ?_)
  refine lv_goto (tgt := 2) hx hb dX11_begin_15 (by decide) ?_
  refine lv_iload_n hx hb dX11_begin_2 rfl (lv_at hl 0 rfl) ?_
  refine lv_bipush (v := 76) hx hb dX11_begin_3 (by decide) ?_
  refine lv_icmp_ge (tgt := 18) hx hb dX11_begin_5 (by decide) (fun h9 => absurd h9 (by decide)) (fun _ => ?_)
  refine lv_aload_n hx hb dX11_begin_8 rfl (lv_at hl 1 rfl) ?_
  refine lv_iload_n hx hb dX11_begin_9 rfl (lv_at hl 0 rfl) ?_
  refine lv_iconst (v := 0) hx hb dX11_begin_10 (by decide) ?_
  refine va_iast hx hb hK hP hD hS 0 0 rfl rfl (by unfold vp_in; decide) dX11_begin_11 (fun H locs hP hD hS => ?_)
  rw [kw_upd0] at hP hD
  have hP : va_P D vwCl [(to, .inl (y 0, 228, .inl (fun _ => 0)))] H := hP
  have hD : va_D A [(to, .inl (y 0, 228, .inl (fun _ => 0)))] := hD
  refine lv_iinc (v := 45) (lv' := [(2, .int 45), (0, .ref to), (1, .int 0)]) hx hb dX11_begin_12 hl (k := 0) rfl (by decide) (by decide) rfl (fun ls hl => ?_)
  refine lv_goto (tgt := 2) hx hb dX11_begin_15 (by decide) ?_
  refine lv_iload_n hx hb dX11_begin_2 rfl (lv_at hl 0 rfl) ?_
  refine lv_bipush (v := 76) hx hb dX11_begin_3 (by decide) ?_
  refine lv_icmp_ge (tgt := 18) hx hb dX11_begin_5 (by decide) (fun h9 => absurd h9 (by decide)) (fun _ => ?_)
  refine lv_aload_n hx hb dX11_begin_8 rfl (lv_at hl 1 rfl) ?_
  refine lv_iload_n hx hb dX11_begin_9 rfl (lv_at hl 0 rfl) ?_
  refine lv_iconst (v := 0) hx hb dX11_begin_10 (by decide) ?_
  refine va_iast hx hb hK hP hD hS 0 0 rfl rfl (by unfold vp_in; decide) dX11_begin_11 (fun H locs hP hD hS => ?_)
  rw [kw_upd0] at hP hD
  have hP : va_P D vwCl [(to, .inl (y 0, 228, .inl (fun _ => 0)))] H := hP
  have hD : va_D A [(to, .inl (y 0, 228, .inl (fun _ => 0)))] := hD
  refine lv_iinc (v := 46) (lv' := [(2, .int 46), (0, .ref to), (1, .int 0)]) hx hb dX11_begin_12 hl (k := 0) rfl (by decide) (by decide) rfl (fun ls hl => ?_)
  refine lv_goto (tgt := 2) hx hb dX11_begin_15 (by decide) ?_
  refine lv_iload_n hx hb dX11_begin_2 rfl (lv_at hl 0 rfl) ?_
  refine lv_bipush (v := 76) hx hb dX11_begin_3 (by decide) ?_
  refine lv_icmp_ge (tgt := 18) hx hb dX11_begin_5 (by decide) (fun h9 => absurd h9 (by decide)) (fun _ => ?_)
  refine lv_aload_n hx hb dX11_begin_8 rfl (lv_at hl 1 rfl) ?_
  refine lv_iload_n hx hb dX11_begin_9 rfl (lv_at hl 0 rfl) ?_
  refine lv_iconst (v := 0) hx hb dX11_begin_10 (by decide) ?_
  refine va_iast hx hb hK hP hD hS 0 0 rfl rfl (by unfold vp_in; decide) dX11_begin_11 (fun H locs hP hD hS => ?_)
  rw [kw_upd0] at hP hD
  have hP : va_P D vwCl [(to, .inl (y 0, 228, .inl (fun _ => 0)))] H := hP
  have hD : va_D A [(to, .inl (y 0, 228, .inl (fun _ => 0)))] := hD
  refine lv_iinc (v := 47) (lv' := [(2, .int 47), (0, .ref to), (1, .int 0)]) hx hb dX11_begin_12 hl (k := 0) rfl (by decide) (by decide) rfl (fun ls hl => ?_)
  refine lv_goto (tgt := 2) hx hb dX11_begin_15 (by decide) ?_
  refine lv_iload_n hx hb dX11_begin_2 rfl (lv_at hl 0 rfl) ?_
  refine lv_bipush (v := 76) hx hb dX11_begin_3 (by decide) ?_
  refine lv_icmp_ge (tgt := 18) hx hb dX11_begin_5 (by decide) (fun h9 => absurd h9 (by decide)) (fun _ => ?_)
  refine lv_aload_n hx hb dX11_begin_8 rfl (lv_at hl 1 rfl) ?_
  refine lv_iload_n hx hb dX11_begin_9 rfl (lv_at hl 0 rfl) ?_
  refine lv_iconst (v := 0) hx hb dX11_begin_10 (by decide) ?_
  refine va_iast hx hb hK hP hD hS 0 0 rfl rfl (by unfold vp_in; decide) dX11_begin_11 (fun H locs hP hD hS => ?_)
  rw [kw_upd0] at hP hD
  have hP : va_P D vwCl [(to, .inl (y 0, 228, .inl (fun _ => 0)))] H := hP
  have hD : va_D A [(to, .inl (y 0, 228, .inl (fun _ => 0)))] := hD
  refine lv_iinc (v := 48) (lv' := [(2, .int 48), (0, .ref to), (1, .int 0)]) hx hb dX11_begin_12 hl (k := 0) rfl (by decide) (by decide) rfl (fun ls hl => ?_)
  refine lv_goto (tgt := 2) hx hb dX11_begin_15 (by decide) ?_
  refine lv_iload_n hx hb dX11_begin_2 rfl (lv_at hl 0 rfl) ?_
  refine lv_bipush (v := 76) hx hb dX11_begin_3 (by decide) ?_
  refine lv_icmp_ge (tgt := 18) hx hb dX11_begin_5 (by decide) (fun h9 => absurd h9 (by decide)) (fun _ => ?_)
  refine lv_aload_n hx hb dX11_begin_8 rfl (lv_at hl 1 rfl) ?_
  refine lv_iload_n hx hb dX11_begin_9 rfl (lv_at hl 0 rfl) ?_
  refine lv_iconst (v := 0) hx hb dX11_begin_10 (by decide) ?_
  refine va_iast hx hb hK hP hD hS 0 0 rfl rfl (by unfold vp_in; decide) dX11_begin_11 (fun H locs hP hD hS => ?_)
  rw [kw_upd0] at hP hD
  have hP : va_P D vwCl [(to, .inl (y 0, 228, .inl (fun _ => 0)))] H := hP
  have hD : va_D A [(to, .inl (y 0, 228, .inl (fun _ => 0)))] := hD
  refine lv_iinc (v := 49) (lv' := [(2, .int 49), (0, .ref to), (1, .int 0)]) hx hb dX11_begin_12 hl (k := 0) rfl (by decide) (by decide) rfl (fun ls hl => ?_)
  refine lv_goto (tgt := 2) hx hb dX11_begin_15 (by decide) ?_
  refine lv_iload_n hx hb dX11_begin_2 rfl (lv_at hl 0 rfl) ?_
  refine lv_bipush (v := 76) hx hb dX11_begin_3 (by decide) ?_
  refine lv_icmp_ge (tgt := 18) hx hb dX11_begin_5 (by decide) (fun h9 => absurd h9 (by decide)) (fun _ => ?_)
  refine lv_aload_n hx hb dX11_begin_8 rfl (lv_at hl 1 rfl) ?_
  refine lv_iload_n hx hb dX11_begin_9 rfl (lv_at hl 0 rfl) ?_
  refine lv_iconst (v := 0) hx hb dX11_begin_10 (by decide) ?_
  refine va_iast hx hb hK hP hD hS 0 0 rfl rfl (by unfold vp_in; decide) dX11_begin_11 (fun H locs hP hD hS => ?_)
  rw [kw_upd0] at hP hD
  have hP : va_P D vwCl [(to, .inl (y 0, 228, .inl (fun _ => 0)))] H := hP
  have hD : va_D A [(to, .inl (y 0, 228, .inl (fun _ => 0)))] := hD
  refine lv_iinc (v := 50) (lv' := [(2, .int 50), (0, .ref to), (1, .int 0)]) hx hb dX11_begin_12 hl (k := 0) rfl (by decide) (by decide) rfl (fun ls hl => ?_)
  refine lv_goto (tgt := 2) hx hb dX11_begin_15 (by decide) ?_
  refine lv_iload_n hx hb dX11_begin_2 rfl (lv_at hl 0 rfl) ?_
  refine lv_bipush (v := 76) hx hb dX11_begin_3 (by decide) ?_
  refine lv_icmp_ge (tgt := 18) hx hb dX11_begin_5 (by decide) (fun h9 => absurd h9 (by decide)) (fun _ => ?_)
  refine lv_aload_n hx hb dX11_begin_8 rfl (lv_at hl 1 rfl) ?_
  refine lv_iload_n hx hb dX11_begin_9 rfl (lv_at hl 0 rfl) ?_
  refine lv_iconst (v := 0) hx hb dX11_begin_10 (by decide) ?_
  refine va_iast hx hb hK hP hD hS 0 0 rfl rfl (by unfold vp_in; decide) dX11_begin_11 (fun H locs hP hD hS => ?_)
  rw [kw_upd0] at hP hD
  have hP : va_P D vwCl [(to, .inl (y 0, 228, .inl (fun _ => 0)))] H := hP
  have hD : va_D A [(to, .inl (y 0, 228, .inl (fun _ => 0)))] := hD
  refine lv_iinc (v := 51) (lv' := [(2, .int 51), (0, .ref to), (1, .int 0)]) hx hb dX11_begin_12 hl (k := 0) rfl (by decide) (by decide) rfl (fun ls hl => ?_)
  refine lv_goto (tgt := 2) hx hb dX11_begin_15 (by decide) ?_
  refine lv_iload_n hx hb dX11_begin_2 rfl (lv_at hl 0 rfl) ?_
  refine lv_bipush (v := 76) hx hb dX11_begin_3 (by decide) ?_
  refine lv_icmp_ge (tgt := 18) hx hb dX11_begin_5 (by decide) (fun h9 => absurd h9 (by decide)) (fun _ => ?_)
  refine lv_aload_n hx hb dX11_begin_8 rfl (lv_at hl 1 rfl) ?_
  refine lv_iload_n hx hb dX11_begin_9 rfl (lv_at hl 0 rfl) ?_
  refine lv_iconst (v := 0) hx hb dX11_begin_10 (by decide) ?_
  refine va_iast hx hb hK hP hD hS 0 0 rfl rfl (by unfold vp_in; decide) dX11_begin_11 (fun H locs hP hD hS => ?_)
  rw [kw_upd0] at hP hD
  have hP : va_P D vwCl [(to, .inl (y 0, 228, .inl (fun _ => 0)))] H := hP
  have hD : va_D A [(to, .inl (y 0, 228, .inl (fun _ => 0)))] := hD
  refine lv_iinc (v := 52) (lv' := [(2, .int 52), (0, .ref to), (1, .int 0)]) hx hb dX11_begin_12 hl (k := 0) rfl (by decide) (by decide) rfl (fun ls hl => ?_)
  refine lv_goto (tgt := 2) hx hb dX11_begin_15 (by decide) ?_
  refine lv_iload_n hx hb dX11_begin_2 rfl (lv_at hl 0 rfl) ?_
  refine lv_bipush (v := 76) hx hb dX11_begin_3 (by decide) ?_
  refine lv_icmp_ge (tgt := 18) hx hb dX11_begin_5 (by decide) (fun h9 => absurd h9 (by decide)) (fun _ => ?_)
  refine lv_aload_n hx hb dX11_begin_8 rfl (lv_at hl 1 rfl) ?_
  refine lv_iload_n hx hb dX11_begin_9 rfl (lv_at hl 0 rfl) ?_
  refine lv_iconst (v := 0) hx hb dX11_begin_10 (by decide) ?_
  refine va_iast hx hb hK hP hD hS 0 0 rfl rfl (by unfold vp_in; decide) dX11_begin_11 (fun H locs hP hD hS => ?_)
  rw [kw_upd0] at hP hD
  have hP : va_P D vwCl [(to, .inl (y 0, 228, .inl (fun _ => 0)))] H := hP
  have hD : va_D A [(to, .inl (y 0, 228, .inl (fun _ => 0)))] := hD
  refine lv_iinc (v := 53) (lv' := [(2, .int 53), (0, .ref to), (1, .int 0)]) hx hb dX11_begin_12 hl (k := 0) rfl (by decide) (by decide) rfl (fun ls hl => ?_)
  refine lv_goto (tgt := 2) hx hb dX11_begin_15 (by decide) ?_
  refine lv_iload_n hx hb dX11_begin_2 rfl (lv_at hl 0 rfl) ?_
  refine lv_bipush (v := 76) hx hb dX11_begin_3 (by decide) ?_
  refine lv_icmp_ge (tgt := 18) hx hb dX11_begin_5 (by decide) (fun h9 => absurd h9 (by decide)) (fun _ => ?_)
  refine lv_aload_n hx hb dX11_begin_8 rfl (lv_at hl 1 rfl) ?_
  refine lv_iload_n hx hb dX11_begin_9 rfl (lv_at hl 0 rfl) ?_
  refine lv_iconst (v := 0) hx hb dX11_begin_10 (by decide) ?_
  refine va_iast hx hb hK hP hD hS 0 0 rfl rfl (by unfold vp_in; decide) dX11_begin_11 (fun H locs hP hD hS => ?_)
  rw [kw_upd0] at hP hD
  have hP : va_P D vwCl [(to, .inl (y 0, 228, .inl (fun _ => 0)))] H := hP
  have hD : va_D A [(to, .inl (y 0, 228, .inl (fun _ => 0)))] := hD
  refine lv_iinc (v := 54) (lv' := [(2, .int 54), (0, .ref to), (1, .int 0)]) hx hb dX11_begin_12 hl (k := 0) rfl (by decide) (by decide) rfl (fun ls hl => ?_)
  refine lv_goto (tgt := 2) hx hb dX11_begin_15 (by decide) ?_
  refine lv_iload_n hx hb dX11_begin_2 rfl (lv_at hl 0 rfl) ?_
  refine lv_bipush (v := 76) hx hb dX11_begin_3 (by decide) ?_
  refine lv_icmp_ge (tgt := 18) hx hb dX11_begin_5 (by decide) (fun h9 => absurd h9 (by decide)) (fun _ => ?_)
  refine lv_aload_n hx hb dX11_begin_8 rfl (lv_at hl 1 rfl) ?_
  refine lv_iload_n hx hb dX11_begin_9 rfl (lv_at hl 0 rfl) ?_
  refine lv_iconst (v := 0) hx hb dX11_begin_10 (by decide) ?_
  refine va_iast hx hb hK hP hD hS 0 0 rfl rfl (by unfold vp_in; decide) dX11_begin_11 (fun H locs hP hD hS => ?_)
  rw [kw_upd0] at hP hD
  have hP : va_P D vwCl [(to, .inl (y 0, 228, .inl (fun _ => 0)))] H := hP
  have hD : va_D A [(to, .inl (y 0, 228, .inl (fun _ => 0)))] := hD
  refine lv_iinc (v := 55) (lv' := [(2, .int 55), (0, .ref to), (1, .int 0)]) hx hb dX11_begin_12 hl (k := 0) rfl (by decide) (by decide) rfl (fun ls hl => ?_)
  refine lv_goto (tgt := 2) hx hb dX11_begin_15 (by decide) ?_
  refine lv_iload_n hx hb dX11_begin_2 rfl (lv_at hl 0 rfl) ?_
  refine lv_bipush (v := 76) hx hb dX11_begin_3 (by decide) ?_
  refine lv_icmp_ge (tgt := 18) hx hb dX11_begin_5 (by decide) (fun h9 => absurd h9 (by decide)) (fun _ => ?_)
  refine lv_aload_n hx hb dX11_begin_8 rfl (lv_at hl 1 rfl) ?_
  refine lv_iload_n hx hb dX11_begin_9 rfl (lv_at hl 0 rfl) ?_
  refine lv_iconst (v := 0) hx hb dX11_begin_10 (by decide) ?_
  refine va_iast hx hb hK hP hD hS 0 0 rfl rfl (by unfold vp_in; decide) dX11_begin_11 (fun H locs hP hD hS => ?_)
  rw [kw_upd0] at hP hD
  have hP : va_P D vwCl [(to, .inl (y 0, 228, .inl (fun _ => 0)))] H := hP
  have hD : va_D A [(to, .inl (y 0, 228, .inl (fun _ => 0)))] := hD
  refine lv_iinc (v := 56) (lv' := [(2, .int 56), (0, .ref to), (1, .int 0)]) hx hb dX11_begin_12 hl (k := 0) rfl (by decide) (by decide) rfl (fun ls hl => ?_)
  refine lv_goto (tgt := 2) hx hb dX11_begin_15 (by decide) ?_
  refine lv_iload_n hx hb dX11_begin_2 rfl (lv_at hl 0 rfl) ?_
  refine lv_bipush (v := 76) hx hb dX11_begin_3 (by decide) ?_
  refine lv_icmp_ge (tgt := 18) hx hb dX11_begin_5 (by decide) (fun h9 => absurd h9 (by decide)) (fun _ => ?_)
  refine lv_aload_n hx hb dX11_begin_8 rfl (lv_at hl 1 rfl) ?_
  refine lv_iload_n hx hb dX11_begin_9 rfl (lv_at hl 0 rfl) ?_
  refine lv_iconst (v := 0) hx hb dX11_begin_10 (by decide) ?_
  refine va_iast hx hb hK hP hD hS 0 0 rfl rfl (by unfold vp_in; decide) dX11_begin_11 (fun H locs hP hD hS => ?_)
  rw [kw_upd0] at hP hD
  have hP : va_P D vwCl [(to, .inl (y 0, 228, .inl (fun _ => 0)))] H := hP
  have hD : va_D A [(to, .inl (y 0, 228, .inl (fun _ => 0)))] := hD
  refine lv_iinc (v := 57) (lv' := [(2, .int 57), (0, .ref to), (1, .int 0)]) hx hb dX11_begin_12 hl (k := 0) rfl (by decide) (by decide) rfl (fun ls hl => ?_)
  refine lv_goto (tgt := 2) hx hb dX11_begin_15 (by decide) ?_
  refine lv_iload_n hx hb dX11_begin_2 rfl (lv_at hl 0 rfl) ?_
  refine lv_bipush (v := 76) hx hb dX11_begin_3 (by decide) ?_
  refine lv_icmp_ge (tgt := 18) hx hb dX11_begin_5 (by decide) (fun h9 => absurd h9 (by decide)) (fun _ => ?_)
  refine lv_aload_n hx hb dX11_begin_8 rfl (lv_at hl 1 rfl) ?_
  refine lv_iload_n hx hb dX11_begin_9 rfl (lv_at hl 0 rfl) ?_
  refine lv_iconst (v := 0) hx hb dX11_begin_10 (by decide) ?_
  refine va_iast hx hb hK hP hD hS 0 0 rfl rfl (by unfold vp_in; decide) dX11_begin_11 (fun H locs hP hD hS => ?_)
  rw [kw_upd0] at hP hD
  have hP : va_P D vwCl [(to, .inl (y 0, 228, .inl (fun _ => 0)))] H := hP
  have hD : va_D A [(to, .inl (y 0, 228, .inl (fun _ => 0)))] := hD
  refine lv_iinc (v := 58) (lv' := [(2, .int 58), (0, .ref to), (1, .int 0)]) hx hb dX11_begin_12 hl (k := 0) rfl (by decide) (by decide) rfl (fun ls hl => ?_)
  refine lv_goto (tgt := 2) hx hb dX11_begin_15 (by decide) ?_
  refine lv_iload_n hx hb dX11_begin_2 rfl (lv_at hl 0 rfl) ?_
  refine lv_bipush (v := 76) hx hb dX11_begin_3 (by decide) ?_
  refine lv_icmp_ge (tgt := 18) hx hb dX11_begin_5 (by decide) (fun h9 => absurd h9 (by decide)) (fun _ => ?_)
  refine lv_aload_n hx hb dX11_begin_8 rfl (lv_at hl 1 rfl) ?_
  refine lv_iload_n hx hb dX11_begin_9 rfl (lv_at hl 0 rfl) ?_
  refine lv_iconst (v := 0) hx hb dX11_begin_10 (by decide) ?_
  refine va_iast hx hb hK hP hD hS 0 0 rfl rfl (by unfold vp_in; decide) dX11_begin_11 (fun H locs hP hD hS => ?_)
  rw [kw_upd0] at hP hD
  have hP : va_P D vwCl [(to, .inl (y 0, 228, .inl (fun _ => 0)))] H := hP
  have hD : va_D A [(to, .inl (y 0, 228, .inl (fun _ => 0)))] := hD
  refine lv_iinc (v := 59) (lv' := [(2, .int 59), (0, .ref to), (1, .int 0)]) hx hb dX11_begin_12 hl (k := 0) rfl (by decide) (by decide) rfl (fun ls hl => ?_)
  refine lv_goto (tgt := 2) hx hb dX11_begin_15 (by decide) ?_
  refine lv_iload_n hx hb dX11_begin_2 rfl (lv_at hl 0 rfl) ?_
  refine lv_bipush (v := 76) hx hb dX11_begin_3 (by decide) ?_
  refine lv_icmp_ge (tgt := 18) hx hb dX11_begin_5 (by decide) (fun h9 => absurd h9 (by decide)) (fun _ => ?_)
  refine lv_aload_n hx hb dX11_begin_8 rfl (lv_at hl 1 rfl) ?_
  refine lv_iload_n hx hb dX11_begin_9 rfl (lv_at hl 0 rfl) ?_
  refine lv_iconst (v := 0) hx hb dX11_begin_10 (by decide) ?_
  refine va_iast hx hb hK hP hD hS 0 0 rfl rfl (by unfold vp_in; decide) dX11_begin_11 (fun H locs hP hD hS => ?_)
  rw [kw_upd0] at hP hD
  have hP : va_P D vwCl [(to, .inl (y 0, 228, .inl (fun _ => 0)))] H := hP
  have hD : va_D A [(to, .inl (y 0, 228, .inl (fun _ => 0)))] := hD
  refine lv_iinc (v := 60) (lv' := [(2, .int 60), (0, .ref to), (1, .int 0)]) hx hb dX11_begin_12 hl (k := 0) rfl (by decide) (by decide) rfl (fun ls hl => ?_)
  refine lv_goto (tgt := 2) hx hb dX11_begin_15 (by decide) ?_
  refine lv_iload_n hx hb dX11_begin_2 rfl (lv_at hl 0 rfl) ?_
  refine lv_bipush (v := 76) hx hb dX11_begin_3 (by decide) ?_
  refine lv_icmp_ge (tgt := 18) hx hb dX11_begin_5 (by decide) (fun h9 => absurd h9 (by decide)) (fun _ => ?_)
  refine lv_aload_n hx hb dX11_begin_8 rfl (lv_at hl 1 rfl) ?_
  refine lv_iload_n hx hb dX11_begin_9 rfl (lv_at hl 0 rfl) ?_
  refine lv_iconst (v := 0) hx hb dX11_begin_10 (by decide) ?_
  refine va_iast hx hb hK hP hD hS 0 0 rfl rfl (by unfold vp_in; decide) dX11_begin_11 (fun H locs hP hD hS => ?_)
  rw [kw_upd0] at hP hD
  have hP : va_P D vwCl [(to, .inl (y 0, 228, .inl (fun _ => 0)))] H := hP
  have hD : va_D A [(to, .inl (y 0, 228, .inl (fun _ => 0)))] := hD
  refine lv_iinc (v := 61) (lv' := [(2, .int 61), (0, .ref to), (1, .int 0)]) hx hb dX11_begin_12 hl (k := 0) rfl (by decide) (by decide) rfl (fun ls hl => ?_)
  refine lv_goto (tgt := 2) hx hb dX11_begin_15 (by decide) ?_
  refine lv_iload_n hx hb dX11_begin_2 rfl (lv_at hl 0 rfl) ?_
  refine lv_bipush (v := 76) hx hb dX11_begin_3 (by decide) ?_
  refine lv_icmp_ge (tgt := 18) hx hb dX11_begin_5 (by decide) (fun h9 => absurd h9 (by decide)) (fun _ => ?_)
  refine lv_aload_n hx hb dX11_begin_8 rfl (lv_at hl 1 rfl) ?_
  refine lv_iload_n hx hb dX11_begin_9 rfl (lv_at hl 0 rfl) ?_
  refine lv_iconst (v := 0) hx hb dX11_begin_10 (by decide) ?_
  refine va_iast hx hb hK hP hD hS 0 0 rfl rfl (by unfold vp_in; decide) dX11_begin_11 (fun H locs hP hD hS => ?_)
  rw [kw_upd0] at hP hD
  have hP : va_P D vwCl [(to, .inl (y 0, 228, .inl (fun _ => 0)))] H := hP
  have hD : va_D A [(to, .inl (y 0, 228, .inl (fun _ => 0)))] := hD
  refine lv_iinc (v := 62) (lv' := [(2, .int 62), (0, .ref to), (1, .int 0)]) hx hb dX11_begin_12 hl (k := 0) rfl (by decide) (by decide) rfl (fun ls hl => ?_)
  refine lv_goto (tgt := 2) hx hb dX11_begin_15 (by decide) ?_
  refine lv_iload_n hx hb dX11_begin_2 rfl (lv_at hl 0 rfl) ?_
  refine lv_bipush (v := 76) hx hb dX11_begin_3 (by decide) ?_
  refine lv_icmp_ge (tgt := 18) hx hb dX11_begin_5 (by decide) (fun h9 => absurd h9 (by decide)) (fun _ => ?_)
  refine lv_aload_n hx hb dX11_begin_8 rfl (lv_at hl 1 rfl) ?_
  refine lv_iload_n hx hb dX11_begin_9 rfl (lv_at hl 0 rfl) ?_
  refine lv_iconst (v := 0) hx hb dX11_begin_10 (by decide) ?_
  refine va_iast hx hb hK hP hD hS 0 0 rfl rfl (by unfold vp_in; decide) dX11_begin_11 (fun H locs hP hD hS => ?_)
  rw [kw_upd0] at hP hD
  have hP : va_P D vwCl [(to, .inl (y 0, 228, .inl (fun _ => 0)))] H := hP
  have hD : va_D A [(to, .inl (y 0, 228, .inl (fun _ => 0)))] := hD
  refine lv_iinc (v := 63) (lv' := [(2, .int 63), (0, .ref to), (1, .int 0)]) hx hb dX11_begin_12 hl (k := 0) rfl (by decide) (by decide) rfl (fun ls hl => ?_)
  refine lv_goto (tgt := 2) hx hb dX11_begin_15 (by decide) ?_
  refine lv_iload_n hx hb dX11_begin_2 rfl (lv_at hl 0 rfl) ?_
  refine lv_bipush (v := 76) hx hb dX11_begin_3 (by decide) ?_
  refine lv_icmp_ge (tgt := 18) hx hb dX11_begin_5 (by decide) (fun h9 => absurd h9 (by decide)) (fun _ => ?_)
  refine lv_aload_n hx hb dX11_begin_8 rfl (lv_at hl 1 rfl) ?_
  refine lv_iload_n hx hb dX11_begin_9 rfl (lv_at hl 0 rfl) ?_
  refine lv_iconst (v := 0) hx hb dX11_begin_10 (by decide) ?_
  refine va_iast hx hb hK hP hD hS 0 0 rfl rfl (by unfold vp_in; decide) dX11_begin_11 (fun H locs hP hD hS => ?_)
  rw [kw_upd0] at hP hD
  have hP : va_P D vwCl [(to, .inl (y 0, 228, .inl (fun _ => 0)))] H := hP
  have hD : va_D A [(to, .inl (y 0, 228, .inl (fun _ => 0)))] := hD
  refine lv_iinc (v := 64) (lv' := [(2, .int 64), (0, .ref to), (1, .int 0)]) hx hb dX11_begin_12 hl (k := 0) rfl (by decide) (by decide) rfl (fun ls hl => ?_)
  refine lv_goto (tgt := 2) hx hb dX11_begin_15 (by decide) ?_
  refine lv_iload_n hx hb dX11_begin_2 rfl (lv_at hl 0 rfl) ?_
  refine lv_bipush (v := 76) hx hb dX11_begin_3 (by decide) ?_
  refine lv_icmp_ge (tgt := 18) hx hb dX11_begin_5 (by decide) (fun h9 => absurd h9 (by decide)) (fun _ => ?_)
  refine lv_aload_n hx hb dX11_begin_8 rfl (lv_at hl 1 rfl) ?_
  refine lv_iload_n hx hb dX11_begin_9 rfl (lv_at hl 0 rfl) ?_
  refine lv_iconst (v := 0) hx hb dX11_begin_10 (by decide) ?_
  refine va_iast hx hb hK hP hD hS 0 0 rfl rfl (by unfold vp_in; decide) dX11_begin_11 (fun H locs hP hD hS => ?_)
  rw [kw_upd0] at hP hD
  have hP : va_P D vwCl [(to, .inl (y 0, 228, .inl (fun _ => 0)))] H := hP
  have hD : va_D A [(to, .inl (y 0, 228, .inl (fun _ => 0)))] := hD
  refine lv_iinc (v := 65) (lv' := [(2, .int 65), (0, .ref to), (1, .int 0)]) hx hb dX11_begin_12 hl (k := 0) rfl (by decide) (by decide) rfl (fun ls hl => ?_)
  refine lv_goto (tgt := 2) hx hb dX11_begin_15 (by decide) ?_
  refine lv_iload_n hx hb dX11_begin_2 rfl (lv_at hl 0 rfl) ?_
  refine lv_bipush (v := 76) hx hb dX11_begin_3 (by decide) ?_
  refine lv_icmp_ge (tgt := 18) hx hb dX11_begin_5 (by decide) (fun h9 => absurd h9 (by decide)) (fun _ => ?_)
  refine lv_aload_n hx hb dX11_begin_8 rfl (lv_at hl 1 rfl) ?_
  refine lv_iload_n hx hb dX11_begin_9 rfl (lv_at hl 0 rfl) ?_
  refine lv_iconst (v := 0) hx hb dX11_begin_10 (by decide) ?_
  refine va_iast hx hb hK hP hD hS 0 0 rfl rfl (by unfold vp_in; decide) dX11_begin_11 (fun H locs hP hD hS => ?_)
  rw [kw_upd0] at hP hD
  have hP : va_P D vwCl [(to, .inl (y 0, 228, .inl (fun _ => 0)))] H := hP
  have hD : va_D A [(to, .inl (y 0, 228, .inl (fun _ => 0)))] := hD
  refine lv_iinc (v := 66) (lv' := [(2, .int 66), (0, .ref to), (1, .int 0)]) hx hb dX11_begin_12 hl (k := 0) rfl (by decide) (by decide) rfl (fun ls hl => ?_)
  refine lv_goto (tgt := 2) hx hb dX11_begin_15 (by decide) ?_
  refine lv_iload_n hx hb dX11_begin_2 rfl (lv_at hl 0 rfl) ?_
  refine lv_bipush (v := 76) hx hb dX11_begin_3 (by decide) ?_
  refine lv_icmp_ge (tgt := 18) hx hb dX11_begin_5 (by decide) (fun h9 => absurd h9 (by decide)) (fun _ => ?_)
  refine lv_aload_n hx hb dX11_begin_8 rfl (lv_at hl 1 rfl) ?_
  refine lv_iload_n hx hb dX11_begin_9 rfl (lv_at hl 0 rfl) ?_
  refine lv_iconst (v := 0) hx hb dX11_begin_10 (by decide) ?_
  refine va_iast hx hb hK hP hD hS 0 0 rfl rfl (by unfold vp_in; decide) dX11_begin_11 (fun H locs hP hD hS => ?_)
  rw [kw_upd0] at hP hD
  have hP : va_P D vwCl [(to, .inl (y 0, 228, .inl (fun _ => 0)))] H := hP
  have hD : va_D A [(to, .inl (y 0, 228, .inl (fun _ => 0)))] := hD
  refine lv_iinc (v := 67) (lv' := [(2, .int 67), (0, .ref to), (1, .int 0)]) hx hb dX11_begin_12 hl (k := 0) rfl (by decide) (by decide) rfl (fun ls hl => ?_)
  refine lv_goto (tgt := 2) hx hb dX11_begin_15 (by decide) ?_
  refine lv_iload_n hx hb dX11_begin_2 rfl (lv_at hl 0 rfl) ?_
  refine lv_bipush (v := 76) hx hb dX11_begin_3 (by decide) ?_
  refine lv_icmp_ge (tgt := 18) hx hb dX11_begin_5 (by decide) (fun h9 => absurd h9 (by decide)) (fun _ => ?_)
  refine lv_aload_n hx hb dX11_begin_8 rfl (lv_at hl 1 rfl) ?_
  refine lv_iload_n hx hb dX11_begin_9 rfl (lv_at hl 0 rfl) ?_
  refine lv_iconst (v := 0) hx hb dX11_begin_10 (by decide) ?_
  refine va_iast hx hb hK hP hD hS 0 0 rfl rfl (by unfold vp_in; decide) dX11_begin_11 (fun H locs hP hD hS => ?_)
  rw [kw_upd0] at hP hD
  have hP : va_P D vwCl [(to, .inl (y 0, 228, .inl (fun _ => 0)))] H := hP
  have hD : va_D A [(to, .inl (y 0, 228, .inl (fun _ => 0)))] := hD
  refine lv_iinc (v := 68) (lv' := [(2, .int 68), (0, .ref to), (1, .int 0)]) hx hb dX11_begin_12 hl (k := 0) rfl (by decide) (by decide) rfl (fun ls hl => ?_)
  refine lv_goto (tgt := 2) hx hb dX11_begin_15 (by decide) ?_
  refine lv_iload_n hx hb dX11_begin_2 rfl (lv_at hl 0 rfl) ?_
  refine lv_bipush (v := 76) hx hb dX11_begin_3 (by decide) ?_
  refine lv_icmp_ge (tgt := 18) hx hb dX11_begin_5 (by decide) (fun h9 => absurd h9 (by decide)) (fun _ => ?_)
  refine lv_aload_n hx hb dX11_begin_8 rfl (lv_at hl 1 rfl) ?_
  refine lv_iload_n hx hb dX11_begin_9 rfl (lv_at hl 0 rfl) ?_
  refine lv_iconst (v := 0) hx hb dX11_begin_10 (by decide) ?_
  refine va_iast hx hb hK hP hD hS 0 0 rfl rfl (by unfold vp_in; decide) dX11_begin_11 (fun H locs hP hD hS => ?_)
  rw [kw_upd0] at hP hD
  have hP : va_P D vwCl [(to, .inl (y 0, 228, .inl (fun _ => 0)))] H := hP
  have hD : va_D A [(to, .inl (y 0, 228, .inl (fun _ => 0)))] := hD
  refine lv_iinc (v := 69) (lv' := [(2, .int 69), (0, .ref to), (1, .int 0)]) hx hb dX11_begin_12 hl (k := 0) rfl (by decide) (by decide) rfl (fun ls hl => ?_)
  refine lv_goto (tgt := 2) hx hb dX11_begin_15 (by decide) ?_
  refine lv_iload_n hx hb dX11_begin_2 rfl (lv_at hl 0 rfl) ?_
  refine lv_bipush (v := 76) hx hb dX11_begin_3 (by decide) ?_
  refine lv_icmp_ge (tgt := 18) hx hb dX11_begin_5 (by decide) (fun h9 => absurd h9 (by decide)) (fun _ => ?_)
  refine lv_aload_n hx hb dX11_begin_8 rfl (lv_at hl 1 rfl) ?_
  refine lv_iload_n hx hb dX11_begin_9 rfl (lv_at hl 0 rfl) ?_
  refine lv_iconst (v := 0) hx hb dX11_begin_10 (by decide) ?_
  refine va_iast hx hb hK hP hD hS 0 0 rfl rfl (by unfold vp_in; decide) dX11_begin_11 (fun H locs hP hD hS => ?_)
  rw [kw_upd0] at hP hD
  have hP : va_P D vwCl [(to, .inl (y 0, 228, .inl (fun _ => 0)))] H := hP
  have hD : va_D A [(to, .inl (y 0, 228, .inl (fun _ => 0)))] := hD
  refine lv_iinc (v := 70) (lv' := [(2, .int 70), (0, .ref to), (1, .int 0)]) hx hb dX11_begin_12 hl (k := 0) rfl (by decide) (by decide) rfl (fun ls hl => ?_)
  refine lv_goto (tgt := 2) hx hb dX11_begin_15 (by decide) ?_
  refine lv_iload_n hx hb dX11_begin_2 rfl (lv_at hl 0 rfl) ?_
  refine lv_bipush (v := 76) hx hb dX11_begin_3 (by decide) ?_
  refine lv_icmp_ge (tgt := 18) hx hb dX11_begin_5 (by decide) (fun h9 => absurd h9 (by decide)) (fun _ => ?_)
  refine lv_aload_n hx hb dX11_begin_8 rfl (lv_at hl 1 rfl) ?_
  refine lv_iload_n hx hb dX11_begin_9 rfl (lv_at hl 0 rfl) ?_
  refine lv_iconst (v := 0) hx hb dX11_begin_10 (by decide) ?_
  refine va_iast hx hb hK hP hD hS 0 0 rfl rfl (by unfold vp_in; decide) dX11_begin_11 (fun H locs hP hD hS => ?_)
  rw [kw_upd0] at hP hD
  have hP : va_P D vwCl [(to, .inl (y 0, 228, .inl (fun _ => 0)))] H := hP
  have hD : va_D A [(to, .inl (y 0, 228, .inl (fun _ => 0)))] := hD
  refine lv_iinc (v := 71) (lv' := [(2, .int 71), (0, .ref to), (1, .int 0)]) hx hb dX11_begin_12 hl (k := 0) rfl (by decide) (by decide) rfl (fun ls hl => ?_)
  refine lv_goto (tgt := 2) hx hb dX11_begin_15 (by decide) ?_
  refine lv_iload_n hx hb dX11_begin_2 rfl (lv_at hl 0 rfl) ?_
  refine lv_bipush (v := 76) hx hb dX11_begin_3 (by decide) ?_
  refine lv_icmp_ge (tgt := 18) hx hb dX11_begin_5 (by decide) (fun h9 => absurd h9 (by decide)) (fun _ => ?_)
  refine lv_aload_n hx hb dX11_begin_8 rfl (lv_at hl 1 rfl) ?_
  refine lv_iload_n hx hb dX11_begin_9 rfl (lv_at hl 0 rfl) ?_
  refine lv_iconst (v := 0) hx hb dX11_begin_10 (by decide) ?_
  refine va_iast hx hb hK hP hD hS 0 0 rfl rfl (by unfold vp_in; decide) dX11_begin_11 (fun H locs hP hD hS => ?_)
  rw [kw_upd0] at hP hD
  have hP : va_P D vwCl [(to, .inl (y 0, 228, .inl (fun _ => 0)))] H := hP
  have hD : va_D A [(to, .inl (y 0, 228, .inl (fun _ => 0)))] := hD
  refine lv_iinc (v := 72) (lv' := [(2, .int 72), (0, .ref to), (1, .int 0)]) hx hb dX11_begin_12 hl (k := 0) rfl (by decide) (by decide) rfl (fun ls hl => ?_)
  refine lv_goto (tgt := 2) hx hb dX11_begin_15 (by decide) ?_
  refine lv_iload_n hx hb dX11_begin_2 rfl (lv_at hl 0 rfl) ?_
  refine lv_bipush (v := 76) hx hb dX11_begin_3 (by decide) ?_
  refine lv_icmp_ge (tgt := 18) hx hb dX11_begin_5 (by decide) (fun h9 => absurd h9 (by decide)) (fun _ => ?_)
  refine lv_aload_n hx hb dX11_begin_8 rfl (lv_at hl 1 rfl) ?_
  refine lv_iload_n hx hb dX11_begin_9 rfl (lv_at hl 0 rfl) ?_
  refine lv_iconst (v := 0) hx hb dX11_begin_10 (by decide) ?_
  refine va_iast hx hb hK hP hD hS 0 0 rfl rfl (by unfold vp_in; decide) dX11_begin_11 (fun H locs hP hD hS => ?_)
  rw [kw_upd0] at hP hD
  have hP : va_P D vwCl [(to, .inl (y 0, 228, .inl (fun _ => 0)))] H := hP
  have hD : va_D A [(to, .inl (y 0, 228, .inl (fun _ => 0)))] := hD
  refine lv_iinc (v := 73) (lv' := [(2, .int 73), (0, .ref to), (1, .int 0)]) hx hb dX11_begin_12 hl (k := 0) rfl (by decide) (by decide) rfl (fun ls hl => ?_)
  refine lv_goto (tgt := 2) hx hb dX11_begin_15 (by decide) ?_
  refine lv_iload_n hx hb dX11_begin_2 rfl (lv_at hl 0 rfl) ?_
  refine lv_bipush (v := 76) hx hb dX11_begin_3 (by decide) ?_
  refine lv_icmp_ge (tgt := 18) hx hb dX11_begin_5 (by decide) (fun h9 => absurd h9 (by decide)) (fun _ => ?_)
  refine lv_aload_n hx hb dX11_begin_8 rfl (lv_at hl 1 rfl) ?_
  refine lv_iload_n hx hb dX11_begin_9 rfl (lv_at hl 0 rfl) ?_
  refine lv_iconst (v := 0) hx hb dX11_begin_10 (by decide) ?_
  refine va_iast hx hb hK hP hD hS 0 0 rfl rfl (by unfold vp_in; decide) dX11_begin_11 (fun H locs hP hD hS => ?_)
  rw [kw_upd0] at hP hD
  have hP : va_P D vwCl [(to, .inl (y 0, 228, .inl (fun _ => 0)))] H := hP
  have hD : va_D A [(to, .inl (y 0, 228, .inl (fun _ => 0)))] := hD
  refine lv_iinc (v := 74) (lv' := [(2, .int 74), (0, .ref to), (1, .int 0)]) hx hb dX11_begin_12 hl (k := 0) rfl (by decide) (by decide) rfl (fun ls hl => ?_)
  refine lv_goto (tgt := 2) hx hb dX11_begin_15 (by decide) ?_
  refine lv_iload_n hx hb dX11_begin_2 rfl (lv_at hl 0 rfl) ?_
  refine lv_bipush (v := 76) hx hb dX11_begin_3 (by decide) ?_
  refine lv_icmp_ge (tgt := 18) hx hb dX11_begin_5 (by decide) (fun h9 => absurd h9 (by decide)) (fun _ => ?_)
  refine lv_aload_n hx hb dX11_begin_8 rfl (lv_at hl 1 rfl) ?_
  refine lv_iload_n hx hb dX11_begin_9 rfl (lv_at hl 0 rfl) ?_
  refine lv_iconst (v := 0) hx hb dX11_begin_10 (by decide) ?_
  refine va_iast hx hb hK hP hD hS 0 0 rfl rfl (by unfold vp_in; decide) dX11_begin_11 (fun H locs hP hD hS => ?_)
  rw [kw_upd0] at hP hD
  have hP : va_P D vwCl [(to, .inl (y 0, 228, .inl (fun _ => 0)))] H := hP
  have hD : va_D A [(to, .inl (y 0, 228, .inl (fun _ => 0)))] := hD
  refine lv_iinc (v := 75) (lv' := [(2, .int 75), (0, .ref to), (1, .int 0)]) hx hb dX11_begin_12 hl (k := 0) rfl (by decide) (by decide) rfl (fun ls hl => ?_)
  refine lv_goto (tgt := 2) hx hb dX11_begin_15 (by decide) ?_
  refine lv_iload_n hx hb dX11_begin_2 rfl (lv_at hl 0 rfl) ?_
  refine lv_bipush (v := 76) hx hb dX11_begin_3 (by decide) ?_
  refine lv_icmp_ge (tgt := 18) hx hb dX11_begin_5 (by decide) (fun h9 => absurd h9 (by decide)) (fun _ => ?_)
  refine lv_aload_n hx hb dX11_begin_8 rfl (lv_at hl 1 rfl) ?_
  refine lv_iload_n hx hb dX11_begin_9 rfl (lv_at hl 0 rfl) ?_
  refine lv_iconst (v := 0) hx hb dX11_begin_10 (by decide) ?_
  refine va_iast hx hb hK hP hD hS 0 0 rfl rfl (by unfold vp_in; decide) dX11_begin_11 (fun H locs hP hD hS => ?_)
  rw [kw_upd0] at hP hD
  have hP : va_P D vwCl [(to, .inl (y 0, 228, .inl (fun _ => 0)))] H := hP
  have hD : va_D A [(to, .inl (y 0, 228, .inl (fun _ => 0)))] := hD
  refine lv_iinc (v := 76) (lv' := [(2, .int 76), (0, .ref to), (1, .int 0)]) hx hb dX11_begin_12 hl (k := 0) rfl (by decide) (by decide) rfl (fun ls hl => ?_)
  refine lv_goto (tgt := 2) hx hb dX11_begin_15 (by decide) ?_
  refine lv_iload_n hx hb dX11_begin_2 rfl (lv_at hl 0 rfl) ?_
  refine lv_bipush (v := 76) hx hb dX11_begin_3 (by decide) ?_
  refine lv_icmp_ge (tgt := 18) hx hb dX11_begin_5 (by decide) (fun _ => ?_) (fun h9 => absurd h9 (by decide))
  refine lv_aload_n hx hb dX11_begin_18 rfl (lv_at hl 1 rfl) ?_
  refine lv_bipush (v := 22) hx hb dX11_begin_19 (by decide) ?_
  refine lv_iload_n hx hb dX11_begin_21 rfl (lv_at hl 2 rfl) ?_
  refine va_iast hx hb hK hP hD hS 0 0 rfl rfl (by unfold vp_in; decide) dX11_begin_22 (fun H locs hP hD hS => ?_)
  rw [kw_upd0] at hP hD
  have hP : va_P D vwCl [(to, .inl (y 0, 228, .inl (fun _ => 0)))] H := hP
  have hD : va_D A [(to, .inl (y 0, 228, .inl (fun _ => 0)))] := hD
  exact W.vret hx hb hr (fun tZ ht hW => ⟨⟨(), rfl, trivial, by rw [ht]; exact hP.sub [0] rfl, hD.sub [0] (by decide) rfl⟩, hS.F ht⟩) hS.2.2 dX11_begin_23
