set_option maxHeartbeats 4000000 in
set_option maxRecDepth 100000 in
theorem cw_goStep228 (l : Launch) (D : va_G) (y : Nat → ClassId) (to : Nat) (f : Nat → Int32) (hf0 : f (0 : Int32).toNatClampNeg = 0): kw_Mi l yX11_goStep wsX11_goStep ({ frames := 1, cells := 0, slots := 0, locals := 40 }) D y [.ref to] [(to, .inl (y 0, 228, .inl f))] (fun (r : Int32) (u : Unit) => r = 0) (fun _ => [(to, .inl (y 0, 228, .inl (upd f (21 : Int32).toNatClampNeg ((f (21 : Int32).toNatClampNeg) + 1))))]) 0 0 := by
  refine kw_Mi.of (cc := cX11_goStep) (maxL := 7) (ret := (some .int)) (by decide) rfl ?_
  intro pZ eZ s mZ beZ meZ cZ A hE
  obtain ⟨hx, hb, hr, hml, hts, hown, hlocks, hin, hA, hP, hD, hK, hN⟩ := hE
  have hS : va_S A s.heap s.heap [] := va_S.rf
  have hl := lv_entry ([.ref to]) (n := 7) (Nat.le_of_ble_eq_true rfl)
  rw [lg_entry_eq]
  generalize (lg_sl ([.ref to]) ++ List.replicate (7 - (lg_sl ([.ref to])).length) Slot.unset).toArray = ls at hl ⊢
  have hl : lv_has ls 7 [(0, .ref to)] := hl
  refine lv_iconst (v := 0) hx hb dX11_goStep_0 (by decide) ?_
  refine lv_istore_n (lv' := [(1, .int 0), (0, .ref to)]) hx hb dX11_goStep_1 rfl hl (by decide) rfl (fun ls hl => ?_)
  refine lv_iconst (v := 0) hx hb dX11_goStep_2 (by decide) ?_
  refine lv_istore_n (lv' := [(2, .int 0), (1, .int 0), (0, .ref to)]) hx hb dX11_goStep_3 rfl hl (by decide) rfl (fun ls hl => ?_)
  refine lv_iload_n hx hb dX11_goStep_4 rfl (lv_at hl 0 rfl) ?_
  refine lv_aload_n hx hb dX11_goStep_5 rfl (lv_at hl 2 rfl) ?_
  refine lv_iconst (v := 0) hx hb dX11_goStep_6 (by decide) ?_
  refine va_iald hx hb hK hP 0 0 rfl rfl (by unfold vp_in; decide) dX11_goStep_7 ?_
  refine lv_topi (fun z1 hz1 => ?_)
  obtain rfl : z1 = 0 := hz1.trans (by first | rfl | decide | assumption | (simp [upd]; done) | (unfold upd; rw [if_neg (by decide)]; assumption) | (simp [upd, *]; done))
  refine lv_icmp_ge (tgt := 152) hx hb dX11_goStep_8 (by decide) (fun _ => ?_) (fun h9 => absurd h9 (by decide))
  refine lv_aload_n hx hb dX11_goStep_152 rfl (lv_at hl 2 rfl) ?_
  refine lv_bipush (v := 21) hx hb dX11_goStep_153 (by decide) ?_
  refine lv_dup2_11 hx hb dX11_goStep_155 rfl rfl ?_
  refine va_iald hx hb hK hP 0 0 rfl rfl (by unfold vp_in; decide) dX11_goStep_156 ?_
  refine lv_iconst (v := 1) hx hb dX11_goStep_157 (by decide) ?_
  refine lv_iadd hx hb dX11_goStep_158 ?_
  refine va_iast hx hb hK hP hD hS 0 0 rfl rfl (by unfold vp_in; decide) dX11_goStep_159 (fun H locs hP hD hS => ?_)
  have hP : va_P D vwCl [(to, .inl (y 0, 228, .inl (upd f (21 : Int32).toNatClampNeg ((f (21 : Int32).toNatClampNeg) + 1))))] H := hP
  have hD : va_D A [(to, .inl (y 0, 228, .inl (upd f (21 : Int32).toNatClampNeg ((f (21 : Int32).toNatClampNeg) + 1))))] := hD
  refine lv_iload_n hx hb dX11_goStep_160 rfl (lv_at hl 1 rfl) ?_
  exact W.iret (v := 0) hx hb hr (fun tZ ht hW => ⟨⟨0, (), rfl, rfl, by rw [ht]; exact hP.sub [0] rfl, hD.sub [0] (by decide) rfl⟩, hS.F ht⟩) hS.2.2 dX11_goStep_161

set_option maxHeartbeats 4000000 in
set_option maxRecDepth 100000 in
theorem cw_goStep30 (l : Launch) (D : va_G) (y : Nat → ClassId) (to : Nat) (f : Nat → Int32) (hf0 : f (0 : Int32).toNatClampNeg = 0): kw_Mi l yX11_goStep wsX11_goStep ({ frames := 1, cells := 0, slots := 0, locals := 40 }) D y [.ref to] [(to, .inl (y 0, 30, .inl f))] (fun (r : Int32) (u : Unit) => r = 0) (fun _ => [(to, .inl (y 0, 30, .inl (upd f (21 : Int32).toNatClampNeg ((f (21 : Int32).toNatClampNeg) + 1))))]) 0 0 := by
  refine kw_Mi.of (cc := cX11_goStep) (maxL := 7) (ret := (some .int)) (by decide) rfl ?_
  intro pZ eZ s mZ beZ meZ cZ A hE
  obtain ⟨hx, hb, hr, hml, hts, hown, hlocks, hin, hA, hP, hD, hK, hN⟩ := hE
  have hS : va_S A s.heap s.heap [] := va_S.rf
  have hl := lv_entry ([.ref to]) (n := 7) (Nat.le_of_ble_eq_true rfl)
  rw [lg_entry_eq]
  generalize (lg_sl ([.ref to]) ++ List.replicate (7 - (lg_sl ([.ref to])).length) Slot.unset).toArray = ls at hl ⊢
  have hl : lv_has ls 7 [(0, .ref to)] := hl
  refine lv_iconst (v := 0) hx hb dX11_goStep_0 (by decide) ?_
  refine lv_istore_n (lv' := [(1, .int 0), (0, .ref to)]) hx hb dX11_goStep_1 rfl hl (by decide) rfl (fun ls hl => ?_)
  refine lv_iconst (v := 0) hx hb dX11_goStep_2 (by decide) ?_
  refine lv_istore_n (lv' := [(2, .int 0), (1, .int 0), (0, .ref to)]) hx hb dX11_goStep_3 rfl hl (by decide) rfl (fun ls hl => ?_)
  refine lv_iload_n hx hb dX11_goStep_4 rfl (lv_at hl 0 rfl) ?_
  refine lv_aload_n hx hb dX11_goStep_5 rfl (lv_at hl 2 rfl) ?_
  refine lv_iconst (v := 0) hx hb dX11_goStep_6 (by decide) ?_
  refine va_iald hx hb hK hP 0 0 rfl rfl (by unfold vp_in; decide) dX11_goStep_7 ?_
  refine lv_topi (fun z1 hz1 => ?_)
  obtain rfl : z1 = 0 := hz1.trans (by first | rfl | decide | assumption | (simp [upd]; done) | (unfold upd; rw [if_neg (by decide)]; assumption) | (simp [upd, *]; done))
  refine lv_icmp_ge (tgt := 152) hx hb dX11_goStep_8 (by decide) (fun _ => ?_) (fun h9 => absurd h9 (by decide))
  refine lv_aload_n hx hb dX11_goStep_152 rfl (lv_at hl 2 rfl) ?_
  refine lv_bipush (v := 21) hx hb dX11_goStep_153 (by decide) ?_
  refine lv_dup2_11 hx hb dX11_goStep_155 rfl rfl ?_
  refine va_iald hx hb hK hP 0 0 rfl rfl (by unfold vp_in; decide) dX11_goStep_156 ?_
  refine lv_iconst (v := 1) hx hb dX11_goStep_157 (by decide) ?_
  refine lv_iadd hx hb dX11_goStep_158 ?_
  refine va_iast hx hb hK hP hD hS 0 0 rfl rfl (by unfold vp_in; decide) dX11_goStep_159 (fun H locs hP hD hS => ?_)
  have hP : va_P D vwCl [(to, .inl (y 0, 30, .inl (upd f (21 : Int32).toNatClampNeg ((f (21 : Int32).toNatClampNeg) + 1))))] H := hP
  have hD : va_D A [(to, .inl (y 0, 30, .inl (upd f (21 : Int32).toNatClampNeg ((f (21 : Int32).toNatClampNeg) + 1))))] := hD
  refine lv_iload_n hx hb dX11_goStep_160 rfl (lv_at hl 1 rfl) ?_
  exact W.iret (v := 0) hx hb hr (fun tZ ht hW => ⟨⟨0, (), rfl, rfl, by rw [ht]; exact hP.sub [0] rfl, hD.sub [0] (by decide) rfl⟩, hS.F ht⟩) hS.2.2 dX11_goStep_161

set_option maxHeartbeats 4000000 in
set_option maxRecDepth 100000 in
theorem cw_goNight (l : Launch) (D : va_G) (y : Nat → ClassId) (to : Nat) (f : Nat → Int32) (v23 : Int32) (hf0 : f (0 : Int32).toNatClampNeg = 0) (hf1 : f (1 : Int32).toNatClampNeg = 0) (hf23 : f (23 : Int32).toNatClampNeg = v23): kw_Mv l yX11_goNight wsX11_goNight ({ frames := 1, cells := 0, slots := 0, locals := 40 }) D y [.ref to] [(to, .inl (y 0, 228, .inl f))] (fun (u : Nat) => (u = 0 ∧ 999 ≤ v23) ∨ (u = 1 ∧ ¬ 999 ≤ v23)) (fun u => match u with | 0 => [(to, .inl (y 0, 228, .inl (upd (upd f (23 : Int32).toNatClampNeg v23) (21 : Int32).toNatClampNeg 0)))] | _ => [(to, .inl (y 0, 228, .inl (upd (upd f (23 : Int32).toNatClampNeg (v23 + 1)) (21 : Int32).toNatClampNeg 0)))]) 0 0 := by
  refine kw_Mv.of (cc := cX11_goNight) (maxL := 3) (ret := none) (by decide) rfl ?_
  intro pZ eZ s mZ beZ meZ cZ A hE
  obtain ⟨hx, hb, hr, hml, hts, hown, hlocks, hin, hA, hP, hD, hK, hN⟩ := hE
  have hS : va_S A s.heap s.heap [] := va_S.rf
  have hl := lv_entry ([.ref to]) (n := 3) (Nat.le_of_ble_eq_true rfl)
  rw [lg_entry_eq]
  generalize (lg_sl ([.ref to]) ++ List.replicate (3 - (lg_sl ([.ref to])).length) Slot.unset).toArray = ls at hl ⊢
  have hl : lv_has ls 3 [(0, .ref to)] := hl
  refine lv_iconst (v := 0) hx hb dX11_goNight_0 (by decide) ?_
  refine lv_istore_n (lv' := [(1, .int 0), (0, .ref to)]) hx hb dX11_goNight_1 rfl hl (by decide) rfl (fun ls hl => ?_)
  refine lv_iload_n hx hb dX11_goNight_2 rfl (lv_at hl 0 rfl) ?_
  refine lv_aload_n hx hb dX11_goNight_3 rfl (lv_at hl 1 rfl) ?_
  refine lv_iconst (v := 1) hx hb dX11_goNight_4 (by decide) ?_
  refine va_iald hx hb hK hP 0 0 rfl rfl (by unfold vp_in; decide) dX11_goNight_5 ?_
  refine lv_topi (fun z1 hz1 => ?_)
  obtain rfl : z1 = 0 := hz1.trans (by first | rfl | decide | assumption | (simp [upd]; done) | (unfold upd; rw [if_neg (by decide)]; assumption) | (simp [upd, *]; done))
  refine lv_icmp_ge (tgt := 30) hx hb dX11_goNight_6 (by decide) (fun _ => ?_) (fun h9 => absurd h9 (by decide))
  refine lv_iconst (v := 0) hx hb dX11_goNight_30 (by decide) ?_
  refine lv_istore_n (lv' := [(1, .int 0), (0, .ref to)]) hx hb dX11_goNight_31 rfl hl (by decide) rfl (fun ls hl => ?_)
  refine lv_iload_n hx hb dX11_goNight_32 rfl (lv_at hl 0 rfl) ?_
  refine lv_aload_n hx hb dX11_goNight_33 rfl (lv_at hl 1 rfl) ?_
  refine lv_iconst (v := 0) hx hb dX11_goNight_34 (by decide) ?_
  refine va_iald hx hb hK hP 0 0 rfl rfl (by unfold vp_in; decide) dX11_goNight_35 ?_
  refine lv_topi (fun z2 hz2 => ?_)
  obtain rfl : z2 = 0 := hz2.trans (by first | rfl | decide | assumption | (simp [upd]; done) | (unfold upd; rw [if_neg (by decide)]; assumption) | (simp [upd, *]; done))
  refine lv_icmp_ge (tgt := 71) hx hb dX11_goNight_36 (by decide) (fun _ => ?_) (fun h9 => absurd h9 (by decide))
  refine lv_aload_n hx hb dX11_goNight_71 rfl (lv_at hl 1 rfl) ?_
  refine lv_bipush (v := 23) hx hb dX11_goNight_72 (by decide) ?_
  refine lv_dup2_11 hx hb dX11_goNight_74 rfl rfl ?_
  refine va_iald hx hb hK hP 0 0 rfl rfl (by unfold vp_in; decide) dX11_goNight_75 ?_
  refine lv_topi (fun z3 hz3 => ?_)
  rw [show z3 = v23 from hz3.trans (by first | rfl | decide | assumption | (simp [upd]; done) | (unfold upd; rw [if_neg (by decide)]; assumption) | (simp [upd, *]; done))]
  refine lv_aload_n hx hb dX11_goNight_76 rfl (lv_at hl 1 rfl) ?_
  refine lv_bipush (v := 23) hx hb dX11_goNight_77 (by decide) ?_
  refine va_iald hx hb hK hP 0 0 rfl rfl (by unfold vp_in; decide) dX11_goNight_79 ?_
  refine lv_topi (fun z4 hz4 => ?_)
  rw [show z4 = v23 from hz4.trans (by first | rfl | decide | assumption | (simp [upd]; done) | (unfold upd; rw [if_neg (by decide)]; assumption) | (simp [upd, *]; done))]
  refine lv_sipush (v := 999) hx hb dX11_goNight_80 (by decide) ?_
  refine lv_icmp_ge (tgt := 90) hx hb dX11_goNight_83 (by decide) (fun h5 => ?_) (fun h6 => ?_)
  · skip
    refine lv_iconst (v := 0) hx hb dX11_goNight_90 (by decide) ?_
    refine lv_iadd hx hb dX11_goNight_91 ?_
    rw [Int32.add_zero]
    refine va_iast hx hb hK hP hD hS 0 0 rfl rfl (by unfold vp_in; decide) dX11_goNight_92 (fun H locs hP hD hS => ?_)
    have hP : va_P D vwCl [(to, .inl (y 0, 228, .inl (upd f (23 : Int32).toNatClampNeg v23)))] H := hP
    have hD : va_D A [(to, .inl (y 0, 228, .inl (upd f (23 : Int32).toNatClampNeg v23)))] := hD
    refine lv_aload_n hx hb dX11_goNight_93 rfl (lv_at hl 1 rfl) ?_
    refine lv_bipush (v := 21) hx hb dX11_goNight_94 (by decide) ?_
    refine lv_iconst (v := 0) hx hb dX11_goNight_96 (by decide) ?_
    refine va_iast hx hb hK hP hD hS 0 0 rfl rfl (by unfold vp_in; decide) dX11_goNight_97 (fun H locs hP hD hS => ?_)
    have hP : va_P D vwCl [(to, .inl (y 0, 228, .inl (upd (upd f (23 : Int32).toNatClampNeg v23) (21 : Int32).toNatClampNeg 0)))] H := hP
    have hD : va_D A [(to, .inl (y 0, 228, .inl (upd (upd f (23 : Int32).toNatClampNeg v23) (21 : Int32).toNatClampNeg 0)))] := hD
    exact W.vret hx hb hr (fun tZ ht hW => ⟨⟨0, rfl, Or.inl ⟨rfl, h5⟩, by rw [ht]; exact hP.sub [0] rfl, hD.sub [0] (by decide) rfl⟩, hS.F ht⟩) hS.2.2 dX11_goNight_98
  · skip
    refine lv_iconst (v := 1) hx hb dX11_goNight_86 (by decide) ?_
    refine lv_goto (tgt := 91) hx hb dX11_goNight_87 (by decide) ?_
    refine lv_iadd hx hb dX11_goNight_91 ?_
    refine va_iast hx hb hK hP hD hS 0 0 rfl rfl (by unfold vp_in; decide) dX11_goNight_92 (fun H locs hP hD hS => ?_)
    have hP : va_P D vwCl [(to, .inl (y 0, 228, .inl (upd f (23 : Int32).toNatClampNeg (v23 + 1))))] H := hP
    have hD : va_D A [(to, .inl (y 0, 228, .inl (upd f (23 : Int32).toNatClampNeg (v23 + 1))))] := hD
    refine lv_aload_n hx hb dX11_goNight_93 rfl (lv_at hl 1 rfl) ?_
    refine lv_bipush (v := 21) hx hb dX11_goNight_94 (by decide) ?_
    refine lv_iconst (v := 0) hx hb dX11_goNight_96 (by decide) ?_
    refine va_iast hx hb hK hP hD hS 0 0 rfl rfl (by unfold vp_in; decide) dX11_goNight_97 (fun H locs hP hD hS => ?_)
    have hP : va_P D vwCl [(to, .inl (y 0, 228, .inl (upd (upd f (23 : Int32).toNatClampNeg (v23 + 1)) (21 : Int32).toNatClampNeg 0)))] H := hP
    have hD : va_D A [(to, .inl (y 0, 228, .inl (upd (upd f (23 : Int32).toNatClampNeg (v23 + 1)) (21 : Int32).toNatClampNeg 0)))] := hD
    exact W.vret hx hb hr (fun tZ ht hW => ⟨⟨1, rfl, Or.inr (⟨rfl, h6⟩), by rw [ht]; exact hP.sub [0] rfl, hD.sub [0] (by decide) rfl⟩, hS.F ht⟩) hS.2.2 dX11_goNight_98

set_option maxHeartbeats 4000000 in
set_option maxRecDepth 100000 in
theorem cw_goNight228 (l : Launch) (D : va_G) (y : Nat → ClassId) (to : Nat) (f : Nat → Int32) (hf0 : f (0 : Int32).toNatClampNeg = 0) (hf1 : f (1 : Int32).toNatClampNeg = 0): kw_Mv l yX11_goNight wsX11_goNight ({ frames := 1, cells := 0, slots := 0, locals := 40 }) D y [.ref to] [(to, .inl (y 0, 228, .inl f))] (fun (u : Nat) => (u = 0 ∧ 999 ≤ (f (23 : Int32).toNatClampNeg)) ∨ (u = 1 ∧ ¬ 999 ≤ (f (23 : Int32).toNatClampNeg))) (fun u => match u with | 0 => [(to, .inl (y 0, 228, .inl (upd (upd f (23 : Int32).toNatClampNeg (f (23 : Int32).toNatClampNeg)) (21 : Int32).toNatClampNeg 0)))] | _ => [(to, .inl (y 0, 228, .inl (upd (upd f (23 : Int32).toNatClampNeg ((f (23 : Int32).toNatClampNeg) + 1)) (21 : Int32).toNatClampNeg 0)))]) 0 0 := by
  refine kw_Mv.of (cc := cX11_goNight) (maxL := 3) (ret := none) (by decide) rfl ?_
  intro pZ eZ s mZ beZ meZ cZ A hE
  obtain ⟨hx, hb, hr, hml, hts, hown, hlocks, hin, hA, hP, hD, hK, hN⟩ := hE
  have hS : va_S A s.heap s.heap [] := va_S.rf
  have hl := lv_entry ([.ref to]) (n := 3) (Nat.le_of_ble_eq_true rfl)
  rw [lg_entry_eq]
  generalize (lg_sl ([.ref to]) ++ List.replicate (3 - (lg_sl ([.ref to])).length) Slot.unset).toArray = ls at hl ⊢
  have hl : lv_has ls 3 [(0, .ref to)] := hl
  refine lv_iconst (v := 0) hx hb dX11_goNight_0 (by decide) ?_
  refine lv_istore_n (lv' := [(1, .int 0), (0, .ref to)]) hx hb dX11_goNight_1 rfl hl (by decide) rfl (fun ls hl => ?_)
  refine lv_iload_n hx hb dX11_goNight_2 rfl (lv_at hl 0 rfl) ?_
  refine lv_aload_n hx hb dX11_goNight_3 rfl (lv_at hl 1 rfl) ?_
  refine lv_iconst (v := 1) hx hb dX11_goNight_4 (by decide) ?_
  refine va_iald hx hb hK hP 0 0 rfl rfl (by unfold vp_in; decide) dX11_goNight_5 ?_
  refine lv_topi (fun z1 hz1 => ?_)
  obtain rfl : z1 = 0 := hz1.trans (by first | rfl | decide | assumption | (simp [upd]; done) | (unfold upd; rw [if_neg (by decide)]; assumption) | (simp [upd, *]; done))
  refine lv_icmp_ge (tgt := 30) hx hb dX11_goNight_6 (by decide) (fun _ => ?_) (fun h9 => absurd h9 (by decide))
  refine lv_iconst (v := 0) hx hb dX11_goNight_30 (by decide) ?_
  refine lv_istore_n (lv' := [(1, .int 0), (0, .ref to)]) hx hb dX11_goNight_31 rfl hl (by decide) rfl (fun ls hl => ?_)
  refine lv_iload_n hx hb dX11_goNight_32 rfl (lv_at hl 0 rfl) ?_
  refine lv_aload_n hx hb dX11_goNight_33 rfl (lv_at hl 1 rfl) ?_
  refine lv_iconst (v := 0) hx hb dX11_goNight_34 (by decide) ?_
  refine va_iald hx hb hK hP 0 0 rfl rfl (by unfold vp_in; decide) dX11_goNight_35 ?_
  refine lv_topi (fun z2 hz2 => ?_)
  obtain rfl : z2 = 0 := hz2.trans (by first | rfl | decide | assumption | (simp [upd]; done) | (unfold upd; rw [if_neg (by decide)]; assumption) | (simp [upd, *]; done))
  refine lv_icmp_ge (tgt := 71) hx hb dX11_goNight_36 (by decide) (fun _ => ?_) (fun h9 => absurd h9 (by decide))
  refine lv_aload_n hx hb dX11_goNight_71 rfl (lv_at hl 1 rfl) ?_
  refine lv_bipush (v := 23) hx hb dX11_goNight_72 (by decide) ?_
  refine lv_dup2_11 hx hb dX11_goNight_74 rfl rfl ?_
  refine va_iald hx hb hK hP 0 0 rfl rfl (by unfold vp_in; decide) dX11_goNight_75 ?_
  refine lv_aload_n hx hb dX11_goNight_76 rfl (lv_at hl 1 rfl) ?_
  refine lv_bipush (v := 23) hx hb dX11_goNight_77 (by decide) ?_
  refine va_iald hx hb hK hP 0 0 rfl rfl (by unfold vp_in; decide) dX11_goNight_79 ?_
  refine lv_sipush (v := 999) hx hb dX11_goNight_80 (by decide) ?_
  refine lv_icmp_ge (tgt := 90) hx hb dX11_goNight_83 (by decide) (fun h3 => ?_) (fun h4 => ?_)
  · skip
    refine lv_iconst (v := 0) hx hb dX11_goNight_90 (by decide) ?_
    refine lv_iadd hx hb dX11_goNight_91 ?_
    rw [Int32.add_zero]
    refine va_iast hx hb hK hP hD hS 0 0 rfl rfl (by unfold vp_in; decide) dX11_goNight_92 (fun H locs hP hD hS => ?_)
    have hP : va_P D vwCl [(to, .inl (y 0, 228, .inl (upd f (23 : Int32).toNatClampNeg (f (23 : Int32).toNatClampNeg))))] H := hP
    have hD : va_D A [(to, .inl (y 0, 228, .inl (upd f (23 : Int32).toNatClampNeg (f (23 : Int32).toNatClampNeg))))] := hD
    refine lv_aload_n hx hb dX11_goNight_93 rfl (lv_at hl 1 rfl) ?_
    refine lv_bipush (v := 21) hx hb dX11_goNight_94 (by decide) ?_
    refine lv_iconst (v := 0) hx hb dX11_goNight_96 (by decide) ?_
    refine va_iast hx hb hK hP hD hS 0 0 rfl rfl (by unfold vp_in; decide) dX11_goNight_97 (fun H locs hP hD hS => ?_)
    have hP : va_P D vwCl [(to, .inl (y 0, 228, .inl (upd (upd f (23 : Int32).toNatClampNeg (f (23 : Int32).toNatClampNeg)) (21 : Int32).toNatClampNeg 0)))] H := hP
    have hD : va_D A [(to, .inl (y 0, 228, .inl (upd (upd f (23 : Int32).toNatClampNeg (f (23 : Int32).toNatClampNeg)) (21 : Int32).toNatClampNeg 0)))] := hD
    exact W.vret hx hb hr (fun tZ ht hW => ⟨⟨0, rfl, Or.inl ⟨rfl, h3⟩, by rw [ht]; exact hP.sub [0] rfl, hD.sub [0] (by decide) rfl⟩, hS.F ht⟩) hS.2.2 dX11_goNight_98
  · skip
    refine lv_iconst (v := 1) hx hb dX11_goNight_86 (by decide) ?_
    refine lv_goto (tgt := 91) hx hb dX11_goNight_87 (by decide) ?_
    refine lv_iadd hx hb dX11_goNight_91 ?_
    refine va_iast hx hb hK hP hD hS 0 0 rfl rfl (by unfold vp_in; decide) dX11_goNight_92 (fun H locs hP hD hS => ?_)
    have hP : va_P D vwCl [(to, .inl (y 0, 228, .inl (upd f (23 : Int32).toNatClampNeg ((f (23 : Int32).toNatClampNeg) + 1))))] H := hP
    have hD : va_D A [(to, .inl (y 0, 228, .inl (upd f (23 : Int32).toNatClampNeg ((f (23 : Int32).toNatClampNeg) + 1))))] := hD
    refine lv_aload_n hx hb dX11_goNight_93 rfl (lv_at hl 1 rfl) ?_
    refine lv_bipush (v := 21) hx hb dX11_goNight_94 (by decide) ?_
    refine lv_iconst (v := 0) hx hb dX11_goNight_96 (by decide) ?_
    refine va_iast hx hb hK hP hD hS 0 0 rfl rfl (by unfold vp_in; decide) dX11_goNight_97 (fun H locs hP hD hS => ?_)
    have hP : va_P D vwCl [(to, .inl (y 0, 228, .inl (upd (upd f (23 : Int32).toNatClampNeg ((f (23 : Int32).toNatClampNeg) + 1)) (21 : Int32).toNatClampNeg 0)))] H := hP
    have hD : va_D A [(to, .inl (y 0, 228, .inl (upd (upd f (23 : Int32).toNatClampNeg ((f (23 : Int32).toNatClampNeg) + 1)) (21 : Int32).toNatClampNeg 0)))] := hD
    exact W.vret hx hb hr (fun tZ ht hW => ⟨⟨1, rfl, Or.inr (⟨rfl, h4⟩), by rw [ht]; exact hP.sub [0] rfl, hD.sub [0] (by decide) rfl⟩, hS.F ht⟩) hS.2.2 dX11_goNight_98

set_option maxHeartbeats 4000000 in
set_option maxRecDepth 100000 in
theorem cw_goNight30 (l : Launch) (D : va_G) (y : Nat → ClassId) (to : Nat) (f : Nat → Int32) (hf0 : f (0 : Int32).toNatClampNeg = 0) (hf1 : f (1 : Int32).toNatClampNeg = 0): kw_Mv l yX11_goNight wsX11_goNight ({ frames := 1, cells := 0, slots := 0, locals := 40 }) D y [.ref to] [(to, .inl (y 0, 30, .inl f))] (fun (u : Nat) => (u = 0 ∧ 999 ≤ (f (23 : Int32).toNatClampNeg)) ∨ (u = 1 ∧ ¬ 999 ≤ (f (23 : Int32).toNatClampNeg))) (fun u => match u with | 0 => [(to, .inl (y 0, 30, .inl (upd (upd f (23 : Int32).toNatClampNeg (f (23 : Int32).toNatClampNeg)) (21 : Int32).toNatClampNeg 0)))] | _ => [(to, .inl (y 0, 30, .inl (upd (upd f (23 : Int32).toNatClampNeg ((f (23 : Int32).toNatClampNeg) + 1)) (21 : Int32).toNatClampNeg 0)))]) 0 0 := by
  refine kw_Mv.of (cc := cX11_goNight) (maxL := 3) (ret := none) (by decide) rfl ?_
  intro pZ eZ s mZ beZ meZ cZ A hE
  obtain ⟨hx, hb, hr, hml, hts, hown, hlocks, hin, hA, hP, hD, hK, hN⟩ := hE
  have hS : va_S A s.heap s.heap [] := va_S.rf
  have hl := lv_entry ([.ref to]) (n := 3) (Nat.le_of_ble_eq_true rfl)
  rw [lg_entry_eq]
  generalize (lg_sl ([.ref to]) ++ List.replicate (3 - (lg_sl ([.ref to])).length) Slot.unset).toArray = ls at hl ⊢
  have hl : lv_has ls 3 [(0, .ref to)] := hl
  refine lv_iconst (v := 0) hx hb dX11_goNight_0 (by decide) ?_
  refine lv_istore_n (lv' := [(1, .int 0), (0, .ref to)]) hx hb dX11_goNight_1 rfl hl (by decide) rfl (fun ls hl => ?_)
  refine lv_iload_n hx hb dX11_goNight_2 rfl (lv_at hl 0 rfl) ?_
  refine lv_aload_n hx hb dX11_goNight_3 rfl (lv_at hl 1 rfl) ?_
  refine lv_iconst (v := 1) hx hb dX11_goNight_4 (by decide) ?_
  refine va_iald hx hb hK hP 0 0 rfl rfl (by unfold vp_in; decide) dX11_goNight_5 ?_
  refine lv_topi (fun z1 hz1 => ?_)
  obtain rfl : z1 = 0 := hz1.trans (by first | rfl | decide | assumption | (simp [upd]; done) | (unfold upd; rw [if_neg (by decide)]; assumption) | (simp [upd, *]; done))
  refine lv_icmp_ge (tgt := 30) hx hb dX11_goNight_6 (by decide) (fun _ => ?_) (fun h9 => absurd h9 (by decide))
  refine lv_iconst (v := 0) hx hb dX11_goNight_30 (by decide) ?_
  refine lv_istore_n (lv' := [(1, .int 0), (0, .ref to)]) hx hb dX11_goNight_31 rfl hl (by decide) rfl (fun ls hl => ?_)
  refine lv_iload_n hx hb dX11_goNight_32 rfl (lv_at hl 0 rfl) ?_
  refine lv_aload_n hx hb dX11_goNight_33 rfl (lv_at hl 1 rfl) ?_
  refine lv_iconst (v := 0) hx hb dX11_goNight_34 (by decide) ?_
  refine va_iald hx hb hK hP 0 0 rfl rfl (by unfold vp_in; decide) dX11_goNight_35 ?_
  refine lv_topi (fun z2 hz2 => ?_)
  obtain rfl : z2 = 0 := hz2.trans (by first | rfl | decide | assumption | (simp [upd]; done) | (unfold upd; rw [if_neg (by decide)]; assumption) | (simp [upd, *]; done))
  refine lv_icmp_ge (tgt := 71) hx hb dX11_goNight_36 (by decide) (fun _ => ?_) (fun h9 => absurd h9 (by decide))
  refine lv_aload_n hx hb dX11_goNight_71 rfl (lv_at hl 1 rfl) ?_
  refine lv_bipush (v := 23) hx hb dX11_goNight_72 (by decide) ?_
  refine lv_dup2_11 hx hb dX11_goNight_74 rfl rfl ?_
  refine va_iald hx hb hK hP 0 0 rfl rfl (by unfold vp_in; decide) dX11_goNight_75 ?_
  refine lv_aload_n hx hb dX11_goNight_76 rfl (lv_at hl 1 rfl) ?_
  refine lv_bipush (v := 23) hx hb dX11_goNight_77 (by decide) ?_
  refine va_iald hx hb hK hP 0 0 rfl rfl (by unfold vp_in; decide) dX11_goNight_79 ?_
  refine lv_sipush (v := 999) hx hb dX11_goNight_80 (by decide) ?_
  refine lv_icmp_ge (tgt := 90) hx hb dX11_goNight_83 (by decide) (fun h3 => ?_) (fun h4 => ?_)
  · skip
    refine lv_iconst (v := 0) hx hb dX11_goNight_90 (by decide) ?_
    refine lv_iadd hx hb dX11_goNight_91 ?_
    rw [Int32.add_zero]
    refine va_iast hx hb hK hP hD hS 0 0 rfl rfl (by unfold vp_in; decide) dX11_goNight_92 (fun H locs hP hD hS => ?_)
    have hP : va_P D vwCl [(to, .inl (y 0, 30, .inl (upd f (23 : Int32).toNatClampNeg (f (23 : Int32).toNatClampNeg))))] H := hP
    have hD : va_D A [(to, .inl (y 0, 30, .inl (upd f (23 : Int32).toNatClampNeg (f (23 : Int32).toNatClampNeg))))] := hD
    refine lv_aload_n hx hb dX11_goNight_93 rfl (lv_at hl 1 rfl) ?_
    refine lv_bipush (v := 21) hx hb dX11_goNight_94 (by decide) ?_
    refine lv_iconst (v := 0) hx hb dX11_goNight_96 (by decide) ?_
    refine va_iast hx hb hK hP hD hS 0 0 rfl rfl (by unfold vp_in; decide) dX11_goNight_97 (fun H locs hP hD hS => ?_)
    have hP : va_P D vwCl [(to, .inl (y 0, 30, .inl (upd (upd f (23 : Int32).toNatClampNeg (f (23 : Int32).toNatClampNeg)) (21 : Int32).toNatClampNeg 0)))] H := hP
    have hD : va_D A [(to, .inl (y 0, 30, .inl (upd (upd f (23 : Int32).toNatClampNeg (f (23 : Int32).toNatClampNeg)) (21 : Int32).toNatClampNeg 0)))] := hD
    exact W.vret hx hb hr (fun tZ ht hW => ⟨⟨0, rfl, Or.inl ⟨rfl, h3⟩, by rw [ht]; exact hP.sub [0] rfl, hD.sub [0] (by decide) rfl⟩, hS.F ht⟩) hS.2.2 dX11_goNight_98
  · skip
    refine lv_iconst (v := 1) hx hb dX11_goNight_86 (by decide) ?_
    refine lv_goto (tgt := 91) hx hb dX11_goNight_87 (by decide) ?_
    refine lv_iadd hx hb dX11_goNight_91 ?_
    refine va_iast hx hb hK hP hD hS 0 0 rfl rfl (by unfold vp_in; decide) dX11_goNight_92 (fun H locs hP hD hS => ?_)
    have hP : va_P D vwCl [(to, .inl (y 0, 30, .inl (upd f (23 : Int32).toNatClampNeg ((f (23 : Int32).toNatClampNeg) + 1))))] H := hP
    have hD : va_D A [(to, .inl (y 0, 30, .inl (upd f (23 : Int32).toNatClampNeg ((f (23 : Int32).toNatClampNeg) + 1))))] := hD
    refine lv_aload_n hx hb dX11_goNight_93 rfl (lv_at hl 1 rfl) ?_
    refine lv_bipush (v := 21) hx hb dX11_goNight_94 (by decide) ?_
    refine lv_iconst (v := 0) hx hb dX11_goNight_96 (by decide) ?_
    refine va_iast hx hb hK hP hD hS 0 0 rfl rfl (by unfold vp_in; decide) dX11_goNight_97 (fun H locs hP hD hS => ?_)
    have hP : va_P D vwCl [(to, .inl (y 0, 30, .inl (upd (upd f (23 : Int32).toNatClampNeg ((f (23 : Int32).toNatClampNeg) + 1)) (21 : Int32).toNatClampNeg 0)))] H := hP
    have hD : va_D A [(to, .inl (y 0, 30, .inl (upd (upd f (23 : Int32).toNatClampNeg ((f (23 : Int32).toNatClampNeg) + 1)) (21 : Int32).toNatClampNeg 0)))] := hD
    exact W.vret hx hb hr (fun tZ ht hW => ⟨⟨1, rfl, Or.inr (⟨rfl, h4⟩), by rw [ht]; exact hP.sub [0] rfl, hD.sub [0] (by decide) rfl⟩, hS.F ht⟩) hS.2.2 dX11_goNight_98

set_option maxHeartbeats 4000000 in
set_option maxRecDepth 100000 in
theorem cw_keep (l : Launch) (D : va_G) (y : Nat → ClassId) (mo : Nat) (to : Nat) (ke : Nat) (ik : Nat) (rf : Nat) (ha : Nat) (r0 : Nat) (br : Nat) (bp : Nat) (bys : Nat) (an : Nat) (va : Nat) : kw_Mv l yX11_keep wsX11_keep ({ frames := 1, cells := 0, slots := 0, locals := 40 }) D y [.ref mo] [(mo, .inr (11, [.ref to, .ref ke, .ref ik, .ref rf, .long 0, .long 1, .ref ha, .ref r0, .ref br, .ref bp, .ref bys, .int 0, .int 0, .int 0, .int 0, .int 0, .ref an, .ref va])), (to, .inl (y 0, 228, .inl (fun _ => 0)))] (fun (u : Unit) => True) (fun _ => [(mo, .inr (11, [.ref to, .ref ke, .ref ik, .ref rf, .long 0, .long 1, .ref ha, .ref r0, .ref br, .ref bp, .ref bys, .int 0, .int 0, .int 0, .int 0, .int 0, .ref an, .ref va])), (to, .inl (y 0, 228, .inl (upd (fun _ => 0) (4 : Int32).toNatClampNeg 1)))]) 0 0 := by
  refine kw_Mv.of (cc := cX11_keep) (maxL := 2) (ret := none) (by decide) rfl ?_
  intro pZ eZ s mZ beZ meZ cZ A hE
  obtain ⟨hx, hb, hr, hml, hts, hown, hlocks, hin, hA, hP, hD, hK, hN⟩ := hE
  have hS : va_S A s.heap s.heap [] := va_S.rf
  have hl := lv_entry ([.ref mo]) (n := 2) (Nat.le_of_ble_eq_true rfl)
  rw [lg_entry_eq]
  generalize (lg_sl ([.ref mo]) ++ List.replicate (2 - (lg_sl ([.ref mo])).length) Slot.unset).toArray = ls at hl ⊢
  have hl : lv_has ls 2 [(0, .ref mo)] := hl
  have fw1 := hts (.fieldLink RX11 7 "GleanDuskModel" "told" "[I") (List.mem_of_getElem? (i := 1) rfl)
  have i11 : ∀ w ∈ wsX110, w ∈ wsX11_keep := fun _ h => List.mem_cons_of_mem _ (List.mem_append_right _ h)
  refine lv_aload_n hx hb dX11_keep_0 rfl (lv_at hl 0 rfl) ?_
  refine va_get (D := D) (ci := 11) (v := .ref to) (C := RX11) (T := TX11) (N := 18) hx hb hts i11 hown hK hP 0 rfl rfl 0 (by decide) fw1 (fun _ h9 => h9) rfl dX11_keep_1 ?_
  refine lv_iconst (v := 4) hx hb dX11_keep_4 (by decide) ?_
  refine va_iald hx hb hK hP 1 0 rfl rfl (by unfold vp_in; decide) dX11_keep_5 ?_
  refine lv_topi (fun z1 hz1 => ?_)
  obtain rfl : z1 = 0 := hz1.trans (by first | rfl | decide | assumption | (simp [upd]; done) | (unfold upd; rw [if_neg (by decide)]; assumption) | (simp [upd, *]; done))
  refine lv_bipush (v := 8) hx hb dX11_keep_6 (by decide) ?_
  refine lv_icmp_ne (tgt := 52) hx hb dX11_keep_8 (by decide) (fun _ => ?_) (fun h9 => absurd h9 (by decide))
  refine lv_iconst (v := 0) hx hb dX11_keep_52 (by decide) ?_
  refine lv_istore_n (lv' := [(1, .int 0), (0, .ref mo)]) hx hb dX11_keep_53 rfl hl (by decide) rfl (fun ls hl => ?_)
  refine lv_iload_n hx hb dX11_keep_54 rfl (lv_at hl 0 rfl) ?_
  refine lv_bipush (v := 19) hx hb dX11_keep_55 (by decide) ?_
  refine lv_icmp_ge (tgt := 93) hx hb dX11_keep_57 (by decide) (fun h9 => absurd h9 (by decide)) (fun _ => ?_)
  refine lv_aload_n hx hb dX11_keep_60 rfl (lv_at hl 1 rfl) ?_
  refine va_get (D := D) (ci := 11) (v := .ref to) (C := RX11) (T := TX11) (N := 18) hx hb hts i11 hown hK hP 0 rfl rfl 0 (by decide) fw1 (fun _ h9 => h9) rfl dX11_keep_61 ?_
  refine lv_bipush (v := 76) hx hb dX11_keep_64 (by decide) ?_
  refine lv_bipush (v := 19) hx hb dX11_keep_66 (by decide) ?_
  refine lv_aload_n hx hb dX11_keep_68 rfl (lv_at hl 1 rfl) ?_
  refine va_get (D := D) (ci := 11) (v := .ref to) (C := RX11) (T := TX11) (N := 18) hx hb hts i11 hown hK hP 0 rfl rfl 0 (by decide) fw1 (fun _ h9 => h9) rfl dX11_keep_69 ?_
  refine lv_iconst (v := 4) hx hb dX11_keep_72 (by decide) ?_
  refine va_iald hx hb hK hP 1 0 rfl rfl (by unfold vp_in; decide) dX11_keep_73 ?_
  refine lv_topi (fun z2 hz2 => ?_)
  obtain rfl : z2 = 0 := hz2.trans (by first | rfl | decide | assumption | (simp [upd]; done) | (unfold upd; rw [if_neg (by decide)]; assumption) | (simp [upd, *]; done))
  refine lv_imul hx hb dX11_keep_74 ?_
  refine lv_topi (fun z3 hz3 => ?_)
  obtain rfl : z3 = 0 := hz3.trans (by first | rfl | decide | (simp [upd]; done))
  refine lv_iadd hx hb dX11_keep_75 ?_
  refine lv_topi (fun z4 hz4 => ?_)
  obtain rfl : z4 = 76 := hz4.trans (by first | rfl | decide | (simp [upd]; done))
  refine lv_iload_n hx hb dX11_keep_76 rfl (lv_at hl 0 rfl) ?_
  refine lv_iadd hx hb dX11_keep_77 ?_
  refine lv_topi (fun z5 hz5 => ?_)
  obtain rfl : z5 = 76 := hz5.trans (by first | rfl | decide | (simp [upd]; done))
  refine lv_aload_n hx hb dX11_keep_78 rfl (lv_at hl 1 rfl) ?_
  refine va_get (D := D) (ci := 11) (v := .ref to) (C := RX11) (T := TX11) (N := 18) hx hb hts i11 hown hK hP 0 rfl rfl 0 (by decide) fw1 (fun _ h9 => h9) rfl dX11_keep_79 ?_
  refine lv_iconst (v := 5) hx hb dX11_keep_82 (by decide) ?_
  refine lv_iload_n hx hb dX11_keep_83 rfl (lv_at hl 0 rfl) ?_
  refine lv_iadd hx hb dX11_keep_84 ?_
  refine lv_topi (fun z6 hz6 => ?_)
  obtain rfl : z6 = 5 := hz6.trans (by first | rfl | decide | (simp [upd]; done))
  refine va_iald hx hb hK hP 1 0 rfl rfl (by unfold vp_in; decide) dX11_keep_85 ?_
  refine lv_topi (fun z7 hz7 => ?_)
  obtain rfl : z7 = 0 := hz7.trans (by first | rfl | decide | assumption | (simp [upd]; done) | (unfold upd; rw [if_neg (by decide)]; assumption) | (simp [upd, *]; done))
  refine va_iast hx hb hK hP hD hS 1 0 rfl rfl (by unfold vp_in; decide) dX11_keep_86 (fun H locs hP hD hS => ?_)
  rw [kw_upd0] at hP hD
  have hP : va_P D vwCl [(mo, .inr (11, [.ref to, .ref ke, .ref ik, .ref rf, .long 0, .long 1, .ref ha, .ref r0, .ref br, .ref bp, .ref bys, .int 0, .int 0, .int 0, .int 0, .int 0, .ref an, .ref va])), (to, .inl (y 0, 228, .inl (fun _ => 0)))] H := hP
  have hD : va_D A [(mo, .inr (11, [.ref to, .ref ke, .ref ik, .ref rf, .long 0, .long 1, .ref ha, .ref r0, .ref br, .ref bp, .ref bys, .int 0, .int 0, .int 0, .int 0, .int 0, .ref an, .ref va])), (to, .inl (y 0, 228, .inl (fun _ => 0)))] := hD
  refine lv_iinc (v := 1) (lv' := [(1, .int 1), (0, .ref mo)]) hx hb dX11_keep_87 hl (k := 0) rfl (by decide) (by decide) rfl (fun ls hl => ?_)
  refine lv_goto (tgt := 54) hx hb dX11_keep_90 (by decide) ?_
  refine lv_iload_n hx hb dX11_keep_54 rfl (lv_at hl 0 rfl) ?_
  refine lv_bipush (v := 19) hx hb dX11_keep_55 (by decide) ?_
  refine lv_icmp_ge (tgt := 93) hx hb dX11_keep_57 (by decide) (fun h9 => absurd h9 (by decide)) (fun _ => ?_)
  refine lv_aload_n hx hb dX11_keep_60 rfl (lv_at hl 1 rfl) ?_
  refine va_get (D := D) (ci := 11) (v := .ref to) (C := RX11) (T := TX11) (N := 18) hx hb hts i11 hown hK hP 0 rfl rfl 0 (by decide) fw1 (fun _ h9 => h9) rfl dX11_keep_61 ?_
  refine lv_bipush (v := 76) hx hb dX11_keep_64 (by decide) ?_
  refine lv_bipush (v := 19) hx hb dX11_keep_66 (by decide) ?_
  refine lv_aload_n hx hb dX11_keep_68 rfl (lv_at hl 1 rfl) ?_
  refine va_get (D := D) (ci := 11) (v := .ref to) (C := RX11) (T := TX11) (N := 18) hx hb hts i11 hown hK hP 0 rfl rfl 0 (by decide) fw1 (fun _ h9 => h9) rfl dX11_keep_69 ?_
  refine lv_iconst (v := 4) hx hb dX11_keep_72 (by decide) ?_
  refine va_iald hx hb hK hP 1 0 rfl rfl (by unfold vp_in; decide) dX11_keep_73 ?_
  refine lv_topi (fun z8 hz8 => ?_)
  obtain rfl : z8 = 0 := hz8.trans (by first | rfl | decide | assumption | (simp [upd]; done) | (unfold upd; rw [if_neg (by decide)]; assumption) | (simp [upd, *]; done))
  refine lv_imul hx hb dX11_keep_74 ?_
  refine lv_topi (fun z9 hz9 => ?_)
  obtain rfl : z9 = 0 := hz9.trans (by first | rfl | decide | (simp [upd]; done))
  refine lv_iadd hx hb dX11_keep_75 ?_
  refine lv_topi (fun z10 hz10 => ?_)
  obtain rfl : z10 = 76 := hz10.trans (by first | rfl | decide | (simp [upd]; done))
  refine lv_iload_n hx hb dX11_keep_76 rfl (lv_at hl 0 rfl) ?_
  refine lv_iadd hx hb dX11_keep_77 ?_
  refine lv_topi (fun z11 hz11 => ?_)
  obtain rfl : z11 = 77 := hz11.trans (by first | rfl | decide | (simp [upd]; done))
  refine lv_aload_n hx hb dX11_keep_78 rfl (lv_at hl 1 rfl) ?_
  refine va_get (D := D) (ci := 11) (v := .ref to) (C := RX11) (T := TX11) (N := 18) hx hb hts i11 hown hK hP 0 rfl rfl 0 (by decide) fw1 (fun _ h9 => h9) rfl dX11_keep_79 ?_
  refine lv_iconst (v := 5) hx hb dX11_keep_82 (by decide) ?_
  refine lv_iload_n hx hb dX11_keep_83 rfl (lv_at hl 0 rfl) ?_
  refine lv_iadd hx hb dX11_keep_84 ?_
  refine lv_topi (fun z12 hz12 => ?_)
  obtain rfl : z12 = 6 := hz12.trans (by first | rfl | decide | (simp [upd]; done))
  refine va_iald hx hb hK hP 1 0 rfl rfl (by unfold vp_in; decide) dX11_keep_85 ?_
  refine lv_topi (fun z13 hz13 => ?_)
  obtain rfl : z13 = 0 := hz13.trans (by first | rfl | decide | assumption | (simp [upd]; done) | (unfold upd; rw [if_neg (by decide)]; assumption) | (simp [upd, *]; done))
  refine va_iast hx hb hK hP hD hS 1 0 rfl rfl (by unfold vp_in; decide) dX11_keep_86 (fun H locs hP hD hS => ?_)
  rw [kw_upd0] at hP hD
  have hP : va_P D vwCl [(mo, .inr (11, [.ref to, .ref ke, .ref ik, .ref rf, .long 0, .long 1, .ref ha, .ref r0, .ref br, .ref bp, .ref bys, .int 0, .int 0, .int 0, .int 0, .int 0, .ref an, .ref va])), (to, .inl (y 0, 228, .inl (fun _ => 0)))] H := hP
  have hD : va_D A [(mo, .inr (11, [.ref to, .ref ke, .ref ik, .ref rf, .long 0, .long 1, .ref ha, .ref r0, .ref br, .ref bp, .ref bys, .int 0, .int 0, .int 0, .int 0, .int 0, .ref an, .ref va])), (to, .inl (y 0, 228, .inl (fun _ => 0)))] := hD
  refine lv_iinc (v := 2) (lv' := [(1, .int 2), (0, .ref mo)]) hx hb dX11_keep_87 hl (k := 0) rfl (by decide) (by decide) rfl (fun ls hl => ?_)
  refine lv_goto (tgt := 54) hx hb dX11_keep_90 (by decide) ?_
  refine lv_iload_n hx hb dX11_keep_54 rfl (lv_at hl 0 rfl) ?_
  refine lv_bipush (v := 19) hx hb dX11_keep_55 (by decide) ?_
  refine lv_icmp_ge (tgt := 93) hx hb dX11_keep_57 (by decide) (fun h9 => absurd h9 (by decide)) (fun _ => ?_)
  refine lv_aload_n hx hb dX11_keep_60 rfl (lv_at hl 1 rfl) ?_
  refine va_get (D := D) (ci := 11) (v := .ref to) (C := RX11) (T := TX11) (N := 18) hx hb hts i11 hown hK hP 0 rfl rfl 0 (by decide) fw1 (fun _ h9 => h9) rfl dX11_keep_61 ?_
  refine lv_bipush (v := 76) hx hb dX11_keep_64 (by decide) ?_
  refine lv_bipush (v := 19) hx hb dX11_keep_66 (by decide) ?_
  refine lv_aload_n hx hb dX11_keep_68 rfl (lv_at hl 1 rfl) ?_
  refine va_get (D := D) (ci := 11) (v := .ref to) (C := RX11) (T := TX11) (N := 18) hx hb hts i11 hown hK hP 0 rfl rfl 0 (by decide) fw1 (fun _ h9 => h9) rfl dX11_keep_69 ?_
  refine lv_iconst (v := 4) hx hb dX11_keep_72 (by decide) ?_
  refine va_iald hx hb hK hP 1 0 rfl rfl (by unfold vp_in; decide) dX11_keep_73 ?_
  refine lv_topi (fun z14 hz14 => ?_)
  obtain rfl : z14 = 0 := hz14.trans (by first | rfl | decide | assumption | (simp [upd]; done) | (unfold upd; rw [if_neg (by decide)]; assumption) | (simp [upd, *]; done))
  refine lv_imul hx hb dX11_keep_74 ?_
  refine lv_topi (fun z15 hz15 => ?_)
  obtain rfl : z15 = 0 := hz15.trans (by first | rfl | decide | (simp [upd]; done))
  refine lv_iadd hx hb dX11_keep_75 ?_
  refine lv_topi (fun z16 hz16 => ?_)
  obtain rfl : z16 = 76 := hz16.trans (by first | rfl | decide | (simp [upd]; done))
  refine lv_iload_n hx hb dX11_keep_76 rfl (lv_at hl 0 rfl) ?_
  refine lv_iadd hx hb dX11_keep_77 ?_
  refine lv_topi (fun z17 hz17 => ?_)
  obtain rfl : z17 = 78 := hz17.trans (by first | rfl | decide | (simp [upd]; done))
  refine lv_aload_n hx hb dX11_keep_78 rfl (lv_at hl 1 rfl) ?_
  refine va_get (D := D) (ci := 11) (v := .ref to) (C := RX11) (T := TX11) (N := 18) hx hb hts i11 hown hK hP 0 rfl rfl 0 (by decide) fw1 (fun _ h9 => h9) rfl dX11_keep_79 ?_
  refine lv_iconst (v := 5) hx hb dX11_keep_82 (by decide) ?_
  refine lv_iload_n hx hb dX11_keep_83 rfl (lv_at hl 0 rfl) ?_
  refine lv_iadd hx hb dX11_keep_84 ?_
  refine lv_topi (fun z18 hz18 => ?_)
  obtain rfl : z18 = 7 := hz18.trans (by first | rfl | decide | (simp [upd]; done))
  refine va_iald hx hb hK hP 1 0 rfl rfl (by unfold vp_in; decide) dX11_keep_85 ?_
  refine lv_topi (fun z19 hz19 => ?_)
  obtain rfl : z19 = 0 := hz19.trans (by first | rfl | decide | assumption | (simp [upd]; done) | (unfold upd; rw [if_neg (by decide)]; assumption) | (simp [upd, *]; done))
  refine va_iast hx hb hK hP hD hS 1 0 rfl rfl (by unfold vp_in; decide) dX11_keep_86 (fun H locs hP hD hS => ?_)
  rw [kw_upd0] at hP hD
  have hP : va_P D vwCl [(mo, .inr (11, [.ref to, .ref ke, .ref ik, .ref rf, .long 0, .long 1, .ref ha, .ref r0, .ref br, .ref bp, .ref bys, .int 0, .int 0, .int 0, .int 0, .int 0, .ref an, .ref va])), (to, .inl (y 0, 228, .inl (fun _ => 0)))] H := hP
  have hD : va_D A [(mo, .inr (11, [.ref to, .ref ke, .ref ik, .ref rf, .long 0, .long 1, .ref ha, .ref r0, .ref br, .ref bp, .ref bys, .int 0, .int 0, .int 0, .int 0, .int 0, .ref an, .ref va])), (to, .inl (y 0, 228, .inl (fun _ => 0)))] := hD
  refine lv_iinc (v := 3) (lv' := [(1, .int 3), (0, .ref mo)]) hx hb dX11_keep_87 hl (k := 0) rfl (by decide) (by decide) rfl (fun ls hl => ?_)
  refine lv_goto (tgt := 54) hx hb dX11_keep_90 (by decide) ?_
  refine lv_iload_n hx hb dX11_keep_54 rfl (lv_at hl 0 rfl) ?_
  refine lv_bipush (v := 19) hx hb dX11_keep_55 (by decide) ?_
  refine lv_icmp_ge (tgt := 93) hx hb dX11_keep_57 (by decide) (fun h9 => absurd h9 (by decide)) (fun _ => ?_)
  refine lv_aload_n hx hb dX11_keep_60 rfl (lv_at hl 1 rfl) ?_
  refine va_get (D := D) (ci := 11) (v := .ref to) (C := RX11) (T := TX11) (N := 18) hx hb hts i11 hown hK hP 0 rfl rfl 0 (by decide) fw1 (fun _ h9 => h9) rfl dX11_keep_61 ?_
  refine lv_bipush (v := 76) hx hb dX11_keep_64 (by decide) ?_
  refine lv_bipush (v := 19) hx hb dX11_keep_66 (by decide) ?_
  refine lv_aload_n hx hb dX11_keep_68 rfl (lv_at hl 1 rfl) ?_
  refine va_get (D := D) (ci := 11) (v := .ref to) (C := RX11) (T := TX11) (N := 18) hx hb hts i11 hown hK hP 0 rfl rfl 0 (by decide) fw1 (fun _ h9 => h9) rfl dX11_keep_69 ?_
  refine lv_iconst (v := 4) hx hb dX11_keep_72 (by decide) ?_
  refine va_iald hx hb hK hP 1 0 rfl rfl (by unfold vp_in; decide) dX11_keep_73 ?_
  refine lv_topi (fun z20 hz20 => ?_)
  obtain rfl : z20 = 0 := hz20.trans (by first | rfl | decide | assumption | (simp [upd]; done) | (unfold upd; rw [if_neg (by decide)]; assumption) | (simp [upd, *]; done))
  refine lv_imul hx hb dX11_keep_74 ?_
  refine lv_topi (fun z21 hz21 => ?_)
  obtain rfl : z21 = 0 := hz21.trans (by first | rfl | decide | (simp [upd]; done))
  refine lv_iadd hx hb dX11_keep_75 ?_
  refine lv_topi (fun z22 hz22 => ?_)
  obtain rfl : z22 = 76 := hz22.trans (by first | rfl | decide | (simp [upd]; done))
  refine lv_iload_n hx hb dX11_keep_76 rfl (lv_at hl 0 rfl) ?_
  refine lv_iadd hx hb dX11_keep_77 ?_
  refine lv_topi (fun z23 hz23 => ?_)
  obtain rfl : z23 = 79 := hz23.trans (by first | rfl | decide | (simp [upd]; done))
  refine lv_aload_n hx hb dX11_keep_78 rfl (lv_at hl 1 rfl) ?_
  refine va_get (D := D) (ci := 11) (v := .ref to) (C := RX11) (T := TX11) (N := 18) hx hb hts i11 hown hK hP 0 rfl rfl 0 (by decide) fw1 (fun _ h9 => h9) rfl dX11_keep_79 ?_
  refine lv_iconst (v := 5) hx hb dX11_keep_82 (by decide) ?_
  refine lv_iload_n hx hb dX11_keep_83 rfl (lv_at hl 0 rfl) ?_
  refine lv_iadd hx hb dX11_keep_84 ?_
  refine lv_topi (fun z24 hz24 => ?_)
  obtain rfl : z24 = 8 := hz24.trans (by first | rfl | decide | (simp [upd]; done))
  refine va_iald hx hb hK hP 1 0 rfl rfl (by unfold vp_in; decide) dX11_keep_85 ?_
  refine lv_topi (fun z25 hz25 => ?_)
  obtain rfl : z25 = 0 := hz25.trans (by first | rfl | decide | assumption | (simp [upd]; done) | (unfold upd; rw [if_neg (by decide)]; assumption) | (simp [upd, *]; done))
  refine va_iast hx hb hK hP hD hS 1 0 rfl rfl (by unfold vp_in; decide) dX11_keep_86 (fun H locs hP hD hS => ?_)
  rw [kw_upd0] at hP hD
  have hP : va_P D vwCl [(mo, .inr (11, [.ref to, .ref ke, .ref ik, .ref rf, .long 0, .long 1, .ref ha, .ref r0, .ref br, .ref bp, .ref bys, .int 0, .int 0, .int 0, .int 0, .int 0, .ref an, .ref va])), (to, .inl (y 0, 228, .inl (fun _ => 0)))] H := hP
  have hD : va_D A [(mo, .inr (11, [.ref to, .ref ke, .ref ik, .ref rf, .long 0, .long 1, .ref ha, .ref r0, .ref br, .ref bp, .ref bys, .int 0, .int 0, .int 0, .int 0, .int 0, .ref an, .ref va])), (to, .inl (y 0, 228, .inl (fun _ => 0)))] := hD
  refine lv_iinc (v := 4) (lv' := [(1, .int 4), (0, .ref mo)]) hx hb dX11_keep_87 hl (k := 0) rfl (by decide) (by decide) rfl (fun ls hl => ?_)
  refine lv_goto (tgt := 54) hx hb dX11_keep_90 (by decide) ?_
  refine lv_iload_n hx hb dX11_keep_54 rfl (lv_at hl 0 rfl) ?_
  refine lv_bipush (v := 19) hx hb dX11_keep_55 (by decide) ?_
  refine lv_icmp_ge (tgt := 93) hx hb dX11_keep_57 (by decide) (fun h9 => absurd h9 (by decide)) (fun _ => ?_)
  refine lv_aload_n hx hb dX11_keep_60 rfl (lv_at hl 1 rfl) ?_
  refine va_get (D := D) (ci := 11) (v := .ref to) (C := RX11) (T := TX11) (N := 18) hx hb hts i11 hown hK hP 0 rfl rfl 0 (by decide) fw1 (fun _ h9 => h9) rfl dX11_keep_61 ?_
  refine lv_bipush (v := 76) hx hb dX11_keep_64 (by decide) ?_
  refine lv_bipush (v := 19) hx hb dX11_keep_66 (by decide) ?_
  refine lv_aload_n hx hb dX11_keep_68 rfl (lv_at hl 1 rfl) ?_
  refine va_get (D := D) (ci := 11) (v := .ref to) (C := RX11) (T := TX11) (N := 18) hx hb hts i11 hown hK hP 0 rfl rfl 0 (by decide) fw1 (fun _ h9 => h9) rfl dX11_keep_69 ?_
  refine lv_iconst (v := 4) hx hb dX11_keep_72 (by decide) ?_
  refine va_iald hx hb hK hP 1 0 rfl rfl (by unfold vp_in; decide) dX11_keep_73 ?_
  refine lv_topi (fun z26 hz26 => ?_)
  obtain rfl : z26 = 0 := hz26.trans (by first | rfl | decide | assumption | (simp [upd]; done) | (unfold upd; rw [if_neg (by decide)]; assumption) | (simp [upd, *]; done))
  refine lv_imul hx hb dX11_keep_74 ?_
  refine lv_topi (fun z27 hz27 => ?_)
  obtain rfl : z27 = 0 := hz27.trans (by first | rfl | decide | (simp [upd]; done))
  refine lv_iadd hx hb dX11_keep_75 ?_
  refine lv_topi (fun z28 hz28 => ?_)
  obtain rfl : z28 = 76 := hz28.trans (by first | rfl | decide | (simp [upd]; done))
  refine lv_iload_n hx hb dX11_keep_76 rfl (lv_at hl 0 rfl) ?_
  refine lv_iadd hx hb dX11_keep_77 ?_
  refine lv_topi (fun z29 hz29 => ?_)
  obtain rfl : z29 = 80 := hz29.trans (by first | rfl | decide | (simp [upd]; done))
  refine lv_aload_n hx hb dX11_keep_78 rfl (lv_at hl 1 rfl) ?_
  refine va_get (D := D) (ci := 11) (v := .ref to) (C := RX11) (T := TX11) (N := 18) hx hb hts i11 hown hK hP 0 rfl rfl 0 (by decide) fw1 (fun _ h9 => h9) rfl dX11_keep_79 ?_
  refine lv_iconst (v := 5) hx hb dX11_keep_82 (by decide) ?_
  refine lv_iload_n hx hb dX11_keep_83 rfl (lv_at hl 0 rfl) ?_
  refine lv_iadd hx hb dX11_keep_84 ?_
  refine lv_topi (fun z30 hz30 => ?_)
  obtain rfl : z30 = 9 := hz30.trans (by first | rfl | decide | (simp [upd]; done))
  refine va_iald hx hb hK hP 1 0 rfl rfl (by unfold vp_in; decide) dX11_keep_85 ?_
  refine lv_topi (fun z31 hz31 => ?_)
  obtain rfl : z31 = 0 := hz31.trans (by first | rfl | decide | assumption | (simp [upd]; done) | (unfold upd; rw [if_neg (by decide)]; assumption) | (simp [upd, *]; done))
  refine va_iast hx hb hK hP hD hS 1 0 rfl rfl (by unfold vp_in; decide) dX11_keep_86 (fun H locs hP hD hS => ?_)
  rw [kw_upd0] at hP hD
  have hP : va_P D vwCl [(mo, .inr (11, [.ref to, .ref ke, .ref ik, .ref rf, .long 0, .long 1, .ref ha, .ref r0, .ref br, .ref bp, .ref bys, .int 0, .int 0, .int 0, .int 0, .int 0, .ref an, .ref va])), (to, .inl (y 0, 228, .inl (fun _ => 0)))] H := hP
  have hD : va_D A [(mo, .inr (11, [.ref to, .ref ke, .ref ik, .ref rf, .long 0, .long 1, .ref ha, .ref r0, .ref br, .ref bp, .ref bys, .int 0, .int 0, .int 0, .int 0, .int 0, .ref an, .ref va])), (to, .inl (y 0, 228, .inl (fun _ => 0)))] := hD
  refine lv_iinc (v := 5) (lv' := [(1, .int 5), (0, .ref mo)]) hx hb dX11_keep_87 hl (k := 0) rfl (by decide) (by decide) rfl (fun ls hl => ?_)
  refine lv_goto (tgt := 54) hx hb dX11_keep_90 (by decide) ?_
  refine lv_iload_n hx hb dX11_keep_54 rfl (lv_at hl 0 rfl) ?_
  refine lv_bipush (v := 19) hx hb dX11_keep_55 (by decide) ?_
  refine lv_icmp_ge (tgt := 93) hx hb dX11_keep_57 (by decide) (fun h9 => absurd h9 (by decide)) (fun _ => ?_)
  refine lv_aload_n hx hb dX11_keep_60 rfl (lv_at hl 1 rfl) ?_
  refine va_get (D := D) (ci := 11) (v := .ref to) (C := RX11) (T := TX11) (N := 18) hx hb hts i11 hown hK hP 0 rfl rfl 0 (by decide) fw1 (fun _ h9 => h9) rfl dX11_keep_61 ?_
  refine lv_bipush (v := 76) hx hb dX11_keep_64 (by decide) ?_
  refine lv_bipush (v := 19) hx hb dX11_keep_66 (by decide) ?_
  refine lv_aload_n hx hb dX11_keep_68 rfl (lv_at hl 1 rfl) ?_
  refine va_get (D := D) (ci := 11) (v := .ref to) (C := RX11) (T := TX11) (N := 18) hx hb hts i11 hown hK hP 0 rfl rfl 0 (by decide) fw1 (fun _ h9 => h9) rfl dX11_keep_69 ?_
  refine lv_iconst (v := 4) hx hb dX11_keep_72 (by decide) ?_
  refine va_iald hx hb hK hP 1 0 rfl rfl (by unfold vp_in; decide) dX11_keep_73 ?_
  refine lv_topi (fun z32 hz32 => ?_)
  obtain rfl : z32 = 0 := hz32.trans (by first | rfl | decide | assumption | (simp [upd]; done) | (unfold upd; rw [if_neg (by decide)]; assumption) | (simp [upd, *]; done))
  refine lv_imul hx hb dX11_keep_74 ?_
  refine lv_topi (fun z33 hz33 => ?_)
  obtain rfl : z33 = 0 := hz33.trans (by first | rfl | decide | (simp [upd]; done))
  refine lv_iadd hx hb dX11_keep_75 ?_
  refine lv_topi (fun z34 hz34 => ?_)
  obtain rfl : z34 = 76 := hz34.trans (by first | rfl | decide | (simp [upd]; done))
  refine lv_iload_n hx hb dX11_keep_76 rfl (lv_at hl 0 rfl) ?_
  refine lv_iadd hx hb dX11_keep_77 ?_
  refine lv_topi (fun z35 hz35 => ?_)
  obtain rfl : z35 = 81 := hz35.trans (by first | rfl | decide | (simp [upd]; done))
  refine lv_aload_n hx hb dX11_keep_78 rfl (lv_at hl 1 rfl) ?_
  refine va_get (D := D) (ci := 11) (v := .ref to) (C := RX11) (T := TX11) (N := 18) hx hb hts i11 hown hK hP 0 rfl rfl 0 (by decide) fw1 (fun _ h9 => h9) rfl dX11_keep_79 ?_
  refine lv_iconst (v := 5) hx hb dX11_keep_82 (by decide) ?_
  refine lv_iload_n hx hb dX11_keep_83 rfl (lv_at hl 0 rfl) ?_
  refine lv_iadd hx hb dX11_keep_84 ?_
  refine lv_topi (fun z36 hz36 => ?_)
  obtain rfl : z36 = 10 := hz36.trans (by first | rfl | decide | (simp [upd]; done))
  refine va_iald hx hb hK hP 1 0 rfl rfl (by unfold vp_in; decide) dX11_keep_85 ?_
  refine lv_topi (fun z37 hz37 => ?_)
  obtain rfl : z37 = 0 := hz37.trans (by first | rfl | decide | assumption | (simp [upd]; done) | (unfold upd; rw [if_neg (by decide)]; assumption) | (simp [upd, *]; done))
  refine va_iast hx hb hK hP hD hS 1 0 rfl rfl (by unfold vp_in; decide) dX11_keep_86 (fun H locs hP hD hS => ?_)
  rw [kw_upd0] at hP hD
  have hP : va_P D vwCl [(mo, .inr (11, [.ref to, .ref ke, .ref ik, .ref rf, .long 0, .long 1, .ref ha, .ref r0, .ref br, .ref bp, .ref bys, .int 0, .int 0, .int 0, .int 0, .int 0, .ref an, .ref va])), (to, .inl (y 0, 228, .inl (fun _ => 0)))] H := hP
  have hD : va_D A [(mo, .inr (11, [.ref to, .ref ke, .ref ik, .ref rf, .long 0, .long 1, .ref ha, .ref r0, .ref br, .ref bp, .ref bys, .int 0, .int 0, .int 0, .int 0, .int 0, .ref an, .ref va])), (to, .inl (y 0, 228, .inl (fun _ => 0)))] := hD
  refine lv_iinc (v := 6) (lv' := [(1, .int 6), (0, .ref mo)]) hx hb dX11_keep_87 hl (k := 0) rfl (by decide) (by decide) rfl (fun ls hl => ?_)
  refine lv_goto (tgt := 54) hx hb dX11_keep_90 (by decide) ?_
  refine lv_iload_n hx hb dX11_keep_54 rfl (lv_at hl 0 rfl) ?_
  refine lv_bipush (v := 19) hx hb dX11_keep_55 (by decide) ?_
  refine lv_icmp_ge (tgt := 93) hx hb dX11_keep_57 (by decide) (fun h9 => absurd h9 (by decide)) (fun _ => ?_)
  refine lv_aload_n hx hb dX11_keep_60 rfl (lv_at hl 1 rfl) ?_
  refine va_get (D := D) (ci := 11) (v := .ref to) (C := RX11) (T := TX11) (N := 18) hx hb hts i11 hown hK hP 0 rfl rfl 0 (by decide) fw1 (fun _ h9 => h9) rfl dX11_keep_61 ?_
  refine lv_bipush (v := 76) hx hb dX11_keep_64 (by decide) ?_
  refine lv_bipush (v := 19) hx hb dX11_keep_66 (by decide) ?_
  refine lv_aload_n hx hb dX11_keep_68 rfl (lv_at hl 1 rfl) ?_
  refine va_get (D := D) (ci := 11) (v := .ref to) (C := RX11) (T := TX11) (N := 18) hx hb hts i11 hown hK hP 0 rfl rfl 0 (by decide) fw1 (fun _ h9 => h9) rfl dX11_keep_69 ?_
  refine lv_iconst (v := 4) hx hb dX11_keep_72 (by decide) ?_
  refine va_iald hx hb hK hP 1 0 rfl rfl (by unfold vp_in; decide) dX11_keep_73 ?_
  refine lv_topi (fun z38 hz38 => ?_)
  obtain rfl : z38 = 0 := hz38.trans (by first | rfl | decide | assumption | (simp [upd]; done) | (unfold upd; rw [if_neg (by decide)]; assumption) | (simp [upd, *]; done))
  refine lv_imul hx hb dX11_keep_74 ?_
  refine lv_topi (fun z39 hz39 => ?_)
  obtain rfl : z39 = 0 := hz39.trans (by first | rfl | decide | (simp [upd]; done))
  refine lv_iadd hx hb dX11_keep_75 ?_
  refine lv_topi (fun z40 hz40 => ?_)
  obtain rfl : z40 = 76 := hz40.trans (by first | rfl | decide | (simp [upd]; done))
  refine lv_iload_n hx hb dX11_keep_76 rfl (lv_at hl 0 rfl) ?_
  refine lv_iadd hx hb dX11_keep_77 ?_
  refine lv_topi (fun z41 hz41 => ?_)
  obtain rfl : z41 = 82 := hz41.trans (by first | rfl | decide | (simp [upd]; done))
  refine lv_aload_n hx hb dX11_keep_78 rfl (lv_at hl 1 rfl) ?_
  refine va_get (D := D) (ci := 11) (v := .ref to) (C := RX11) (T := TX11) (N := 18) hx hb hts i11 hown hK hP 0 rfl rfl 0 (by decide) fw1 (fun _ h9 => h9) rfl dX11_keep_79 ?_
  refine lv_iconst (v := 5) hx hb dX11_keep_82 (by decide) ?_
  refine lv_iload_n hx hb dX11_keep_83 rfl (lv_at hl 0 rfl) ?_
  refine lv_iadd hx hb dX11_keep_84 ?_
  refine lv_topi (fun z42 hz42 => ?_)
  obtain rfl : z42 = 11 := hz42.trans (by first | rfl | decide | (simp [upd]; done))
  refine va_iald hx hb hK hP 1 0 rfl rfl (by unfold vp_in; decide) dX11_keep_85 ?_
  refine lv_topi (fun z43 hz43 => ?_)
  obtain rfl : z43 = 0 := hz43.trans (by first | rfl | decide | assumption | (simp [upd]; done) | (unfold upd; rw [if_neg (by decide)]; assumption) | (simp [upd, *]; done))
  refine va_iast hx hb hK hP hD hS 1 0 rfl rfl (by unfold vp_in; decide) dX11_keep_86 (fun H locs hP hD hS => ?_)
  rw [kw_upd0] at hP hD
  have hP : va_P D vwCl [(mo, .inr (11, [.ref to, .ref ke, .ref ik, .ref rf, .long 0, .long 1, .ref ha, .ref r0, .ref br, .ref bp, .ref bys, .int 0, .int 0, .int 0, .int 0, .int 0, .ref an, .ref va])), (to, .inl (y 0, 228, .inl (fun _ => 0)))] H := hP
  have hD : va_D A [(mo, .inr (11, [.ref to, .ref ke, .ref ik, .ref rf, .long 0, .long 1, .ref ha, .ref r0, .ref br, .ref bp, .ref bys, .int 0, .int 0, .int 0, .int 0, .int 0, .ref an, .ref va])), (to, .inl (y 0, 228, .inl (fun _ => 0)))] := hD
  refine lv_iinc (v := 7) (lv' := [(1, .int 7), (0, .ref mo)]) hx hb dX11_keep_87 hl (k := 0) rfl (by decide) (by decide) rfl (fun ls hl => ?_)
  refine lv_goto (tgt := 54) hx hb dX11_keep_90 (by decide) ?_
  refine lv_iload_n hx hb dX11_keep_54 rfl (lv_at hl 0 rfl) ?_
  refine lv_bipush (v := 19) hx hb dX11_keep_55 (by decide) ?_
  refine lv_icmp_ge (tgt := 93) hx hb dX11_keep_57 (by decide) (fun h9 => absurd h9 (by decide)) (fun _ => ?_)
  refine lv_aload_n hx hb dX11_keep_60 rfl (lv_at hl 1 rfl) ?_
  refine va_get (D := D) (ci := 11) (v := .ref to) (C := RX11) (T := TX11) (N := 18) hx hb hts i11 hown hK hP 0 rfl rfl 0 (by decide) fw1 (fun _ h9 => h9) rfl dX11_keep_61 ?_
  refine lv_bipush (v := 76) hx hb dX11_keep_64 (by decide) ?_
  refine lv_bipush (v := 19) hx hb dX11_keep_66 (by decide) ?_
  refine lv_aload_n hx hb dX11_keep_68 rfl (lv_at hl 1 rfl) ?_
  refine va_get (D := D) (ci := 11) (v := .ref to) (C := RX11) (T := TX11) (N := 18) hx hb hts i11 hown hK hP 0 rfl rfl 0 (by decide) fw1 (fun _ h9 => h9) rfl dX11_keep_69 ?_
  refine lv_iconst (v := 4) hx hb dX11_keep_72 (by decide) ?_
  refine va_iald hx hb hK hP 1 0 rfl rfl (by unfold vp_in; decide) dX11_keep_73 ?_
  refine lv_topi (fun z44 hz44 => ?_)
  obtain rfl : z44 = 0 := hz44.trans (by first | rfl | decide | assumption | (simp [upd]; done) | (unfold upd; rw [if_neg (by decide)]; assumption) | (simp [upd, *]; done))
  refine lv_imul hx hb dX11_keep_74 ?_
  refine lv_topi (fun z45 hz45 => ?_)
  obtain rfl : z45 = 0 := hz45.trans (by first | rfl | decide | (simp [upd]; done))
  refine lv_iadd hx hb dX11_keep_75 ?_
  refine lv_topi (fun z46 hz46 => ?_)
  obtain rfl : z46 = 76 := hz46.trans (by first | rfl | decide | (simp [upd]; done))
  refine lv_iload_n hx hb dX11_keep_76 rfl (lv_at hl 0 rfl) ?_
  refine lv_iadd hx hb dX11_keep_77 ?_
  refine lv_topi (fun z47 hz47 => ?_)
  obtain rfl : z47 = 83 := hz47.trans (by first | rfl | decide | (simp [upd]; done))
  refine lv_aload_n hx hb dX11_keep_78 rfl (lv_at hl 1 rfl) ?_
  refine va_get (D := D) (ci := 11) (v := .ref to) (C := RX11) (T := TX11) (N := 18) hx hb hts i11 hown hK hP 0 rfl rfl 0 (by decide) fw1 (fun _ h9 => h9) rfl dX11_keep_79 ?_
  refine lv_iconst (v := 5) hx hb dX11_keep_82 (by decide) ?_
  refine lv_iload_n hx hb dX11_keep_83 rfl (lv_at hl 0 rfl) ?_
  refine lv_iadd hx hb dX11_keep_84 ?_
  refine lv_topi (fun z48 hz48 => ?_)
  obtain rfl : z48 = 12 := hz48.trans (by first | rfl | decide | (simp [upd]; done))
  refine va_iald hx hb hK hP 1 0 rfl rfl (by unfold vp_in; decide) dX11_keep_85 ?_
  refine lv_topi (fun z49 hz49 => ?_)
  obtain rfl : z49 = 0 := hz49.trans (by first | rfl | decide | assumption | (simp [upd]; done) | (unfold upd; rw [if_neg (by decide)]; assumption) | (simp [upd, *]; done))
  refine va_iast hx hb hK hP hD hS 1 0 rfl rfl (by unfold vp_in; decide) dX11_keep_86 (fun H locs hP hD hS => ?_)
  rw [kw_upd0] at hP hD
  have hP : va_P D vwCl [(mo, .inr (11, [.ref to, .ref ke, .ref ik, .ref rf, .long 0, .long 1, .ref ha, .ref r0, .ref br, .ref bp, .ref bys, .int 0, .int 0, .int 0, .int 0, .int 0, .ref an, .ref va])), (to, .inl (y 0, 228, .inl (fun _ => 0)))] H := hP
  have hD : va_D A [(mo, .inr (11, [.ref to, .ref ke, .ref ik, .ref rf, .long 0, .long 1, .ref ha, .ref r0, .ref br, .ref bp, .ref bys, .int 0, .int 0, .int 0, .int 0, .int 0, .ref an, .ref va])), (to, .inl (y 0, 228, .inl (fun _ => 0)))] := hD
  refine lv_iinc (v := 8) (lv' := [(1, .int 8), (0, .ref mo)]) hx hb dX11_keep_87 hl (k := 0) rfl (by decide) (by decide) rfl (fun ls hl => ?_)
  refine lv_goto (tgt := 54) hx hb dX11_keep_90 (by decide) ?_
  refine lv_iload_n hx hb dX11_keep_54 rfl (lv_at hl 0 rfl) ?_
  refine lv_bipush (v := 19) hx hb dX11_keep_55 (by decide) ?_
  refine lv_icmp_ge (tgt := 93) hx hb dX11_keep_57 (by decide) (fun h9 => absurd h9 (by decide)) (fun _ => ?_)
  refine lv_aload_n hx hb dX11_keep_60 rfl (lv_at hl 1 rfl) ?_
  refine va_get (D := D) (ci := 11) (v := .ref to) (C := RX11) (T := TX11) (N := 18) hx hb hts i11 hown hK hP 0 rfl rfl 0 (by decide) fw1 (fun _ h9 => h9) rfl dX11_keep_61 ?_
  refine lv_bipush (v := 76) hx hb dX11_keep_64 (by decide) ?_
  refine lv_bipush (v := 19) hx hb dX11_keep_66 (by decide) ?_
  refine lv_aload_n hx hb dX11_keep_68 rfl (lv_at hl 1 rfl) ?_
  refine va_get (D := D) (ci := 11) (v := .ref to) (C := RX11) (T := TX11) (N := 18) hx hb hts i11 hown hK hP 0 rfl rfl 0 (by decide) fw1 (fun _ h9 => h9) rfl dX11_keep_69 ?_
  refine lv_iconst (v := 4) hx hb dX11_keep_72 (by decide) ?_
  refine va_iald hx hb hK hP 1 0 rfl rfl (by unfold vp_in; decide) dX11_keep_73 ?_
  refine lv_topi (fun z50 hz50 => ?_)
  obtain rfl : z50 = 0 := hz50.trans (by first | rfl | decide | assumption | (simp [upd]; done) | (unfold upd; rw [if_neg (by decide)]; assumption) | (simp [upd, *]; done))
  refine lv_imul hx hb dX11_keep_74 ?_
  refine lv_topi (fun z51 hz51 => ?_)
  obtain rfl : z51 = 0 := hz51.trans (by first | rfl | decide | (simp [upd]; done))
  refine lv_iadd hx hb dX11_keep_75 ?_
  refine lv_topi (fun z52 hz52 => ?_)
  obtain rfl : z52 = 76 := hz52.trans (by first | rfl | decide | (simp [upd]; done))
  refine lv_iload_n hx hb dX11_keep_76 rfl (lv_at hl 0 rfl) ?_
  refine lv_iadd hx hb dX11_keep_77 ?_
  refine lv_topi (fun z53 hz53 => ?_)
  obtain rfl : z53 = 84 := hz53.trans (by first | rfl | decide | (simp [upd]; done))
  refine lv_aload_n hx hb dX11_keep_78 rfl (lv_at hl 1 rfl) ?_
  refine va_get (D := D) (ci := 11) (v := .ref to) (C := RX11) (T := TX11) (N := 18) hx hb hts i11 hown hK hP 0 rfl rfl 0 (by decide) fw1 (fun _ h9 => h9) rfl dX11_keep_79 ?_
  refine lv_iconst (v := 5) hx hb dX11_keep_82 (by decide) ?_
  refine lv_iload_n hx hb dX11_keep_83 rfl (lv_at hl 0 rfl) ?_
  refine lv_iadd hx hb dX11_keep_84 ?_
  refine lv_topi (fun z54 hz54 => ?_)
  obtain rfl : z54 = 13 := hz54.trans (by first | rfl | decide | (simp [upd]; done))
  refine va_iald hx hb hK hP 1 0 rfl rfl (by unfold vp_in; decide) dX11_keep_85 ?_
  refine lv_topi (fun z55 hz55 => ?_)
  obtain rfl : z55 = 0 := hz55.trans (by first | rfl | decide | assumption | (simp [upd]; done) | (unfold upd; rw [if_neg (by decide)]; assumption) | (simp [upd, *]; done))
  refine va_iast hx hb hK hP hD hS 1 0 rfl rfl (by unfold vp_in; decide) dX11_keep_86 (fun H locs hP hD hS => ?_)
  rw [kw_upd0] at hP hD
  have hP : va_P D vwCl [(mo, .inr (11, [.ref to, .ref ke, .ref ik, .ref rf, .long 0, .long 1, .ref ha, .ref r0, .ref br, .ref bp, .ref bys, .int 0, .int 0, .int 0, .int 0, .int 0, .ref an, .ref va])), (to, .inl (y 0, 228, .inl (fun _ => 0)))] H := hP
  have hD : va_D A [(mo, .inr (11, [.ref to, .ref ke, .ref ik, .ref rf, .long 0, .long 1, .ref ha, .ref r0, .ref br, .ref bp, .ref bys, .int 0, .int 0, .int 0, .int 0, .int 0, .ref an, .ref va])), (to, .inl (y 0, 228, .inl (fun _ => 0)))] := hD
  refine lv_iinc (v := 9) (lv' := [(1, .int 9), (0, .ref mo)]) hx hb dX11_keep_87 hl (k := 0) rfl (by decide) (by decide) rfl (fun ls hl => ?_)
  refine lv_goto (tgt := 54) hx hb dX11_keep_90 (by decide) ?_
  refine lv_iload_n hx hb dX11_keep_54 rfl (lv_at hl 0 rfl) ?_
  refine lv_bipush (v := 19) hx hb dX11_keep_55 (by decide) ?_
  refine lv_icmp_ge (tgt := 93) hx hb dX11_keep_57 (by decide) (fun h9 => absurd h9 (by decide)) (fun _ => ?_)
  refine lv_aload_n hx hb dX11_keep_60 rfl (lv_at hl 1 rfl) ?_
  refine va_get (D := D) (ci := 11) (v := .ref to) (C := RX11) (T := TX11) (N := 18) hx hb hts i11 hown hK hP 0 rfl rfl 0 (by decide) fw1 (fun _ h9 => h9) rfl dX11_keep_61 ?_
  refine lv_bipush (v := 76) hx hb dX11_keep_64 (by decide) ?_
  refine lv_bipush (v := 19) hx hb dX11_keep_66 (by decide) ?_
  refine lv_aload_n hx hb dX11_keep_68 rfl (lv_at hl 1 rfl) ?_
  refine va_get (D := D) (ci := 11) (v := .ref to) (C := RX11) (T := TX11) (N := 18) hx hb hts i11 hown hK hP 0 rfl rfl 0 (by decide) fw1 (fun _ h9 => h9) rfl dX11_keep_69 ?_
  refine lv_iconst (v := 4) hx hb dX11_keep_72 (by decide) ?_
  refine va_iald hx hb hK hP 1 0 rfl rfl (by unfold vp_in; decide) dX11_keep_73 ?_
  refine lv_topi (fun z56 hz56 => ?_)
  obtain rfl : z56 = 0 := hz56.trans (by first | rfl | decide | assumption | (simp [upd]; done) | (unfold upd; rw [if_neg (by decide)]; assumption) | (simp [upd, *]; done))
  refine lv_imul hx hb dX11_keep_74 ?_
  refine lv_topi (fun z57 hz57 => ?_)
  obtain rfl : z57 = 0 := hz57.trans (by first | rfl | decide | (simp [upd]; done))
  refine lv_iadd hx hb dX11_keep_75 ?_
  refine lv_topi (fun z58 hz58 => ?_)
  obtain rfl : z58 = 76 := hz58.trans (by first | rfl | decide | (simp [upd]; done))
  refine lv_iload_n hx hb dX11_keep_76 rfl (lv_at hl 0 rfl) ?_
  refine lv_iadd hx hb dX11_keep_77 ?_
  refine lv_topi (fun z59 hz59 => ?_)
  obtain rfl : z59 = 85 := hz59.trans (by first | rfl | decide | (simp [upd]; done))
  refine lv_aload_n hx hb dX11_keep_78 rfl (lv_at hl 1 rfl) ?_
  refine va_get (D := D) (ci := 11) (v := .ref to) (C := RX11) (T := TX11) (N := 18) hx hb hts i11 hown hK hP 0 rfl rfl 0 (by decide) fw1 (fun _ h9 => h9) rfl dX11_keep_79 ?_
  refine lv_iconst (v := 5) hx hb dX11_keep_82 (by decide) ?_
  refine lv_iload_n hx hb dX11_keep_83 rfl (lv_at hl 0 rfl) ?_
  refine lv_iadd hx hb dX11_keep_84 ?_
  refine lv_topi (fun z60 hz60 => ?_)
  obtain rfl : z60 = 14 := hz60.trans (by first | rfl | decide | (simp [upd]; done))
  refine va_iald hx hb hK hP 1 0 rfl rfl (by unfold vp_in; decide) dX11_keep_85 ?_
  refine lv_topi (fun z61 hz61 => ?_)
  obtain rfl : z61 = 0 := hz61.trans (by first | rfl | decide | assumption | (simp [upd]; done) | (unfold upd; rw [if_neg (by decide)]; assumption) | (simp [upd, *]; done))
  refine va_iast hx hb hK hP hD hS 1 0 rfl rfl (by unfold vp_in; decide) dX11_keep_86 (fun H locs hP hD hS => ?_)
  rw [kw_upd0] at hP hD
  have hP : va_P D vwCl [(mo, .inr (11, [.ref to, .ref ke, .ref ik, .ref rf, .long 0, .long 1, .ref ha, .ref r0, .ref br, .ref bp, .ref bys, .int 0, .int 0, .int 0, .int 0, .int 0, .ref an, .ref va])), (to, .inl (y 0, 228, .inl (fun _ => 0)))] H := hP
  have hD : va_D A [(mo, .inr (11, [.ref to, .ref ke, .ref ik, .ref rf, .long 0, .long 1, .ref ha, .ref r0, .ref br, .ref bp, .ref bys, .int 0, .int 0, .int 0, .int 0, .int 0, .ref an, .ref va])), (to, .inl (y 0, 228, .inl (fun _ => 0)))] := hD
  refine lv_iinc (v := 10) (lv' := [(1, .int 10), (0, .ref mo)]) hx hb dX11_keep_87 hl (k := 0) rfl (by decide) (by decide) rfl (fun ls hl => ?_)
  refine lv_goto (tgt := 54) hx hb dX11_keep_90 (by decide) ?_
  refine lv_iload_n hx hb dX11_keep_54 rfl (lv_at hl 0 rfl) ?_
  refine lv_bipush (v := 19) hx hb dX11_keep_55 (by decide) ?_
  refine lv_icmp_ge (tgt := 93) hx hb dX11_keep_57 (by decide) (fun h9 => absurd h9 (by decide)) (fun _ => ?_)
  refine lv_aload_n hx hb dX11_keep_60 rfl (lv_at hl 1 rfl) ?_
  refine va_get (D := D) (ci := 11) (v := .ref to) (C := RX11) (T := TX11) (N := 18) hx hb hts i11 hown hK hP 0 rfl rfl 0 (by decide) fw1 (fun _ h9 => h9) rfl dX11_keep_61 ?_
  refine lv_bipush (v := 76) hx hb dX11_keep_64 (by decide) ?_
  refine lv_bipush (v := 19) hx hb dX11_keep_66 (by decide) ?_
  refine lv_aload_n hx hb dX11_keep_68 rfl (lv_at hl 1 rfl) ?_
  refine va_get (D := D) (ci := 11) (v := .ref to) (C := RX11) (T := TX11) (N := 18) hx hb hts i11 hown hK hP 0 rfl rfl 0 (by decide) fw1 (fun _ h9 => h9) rfl dX11_keep_69 ?_
  refine lv_iconst (v := 4) hx hb dX11_keep_72 (by decide) ?_
  refine va_iald hx hb hK hP 1 0 rfl rfl (by unfold vp_in; decide) dX11_keep_73 ?_
  refine lv_topi (fun z62 hz62 => ?_)
  obtain rfl : z62 = 0 := hz62.trans (by first | rfl | decide | assumption | (simp [upd]; done) | (unfold upd; rw [if_neg (by decide)]; assumption) | (simp [upd, *]; done))
  refine lv_imul hx hb dX11_keep_74 ?_
  refine lv_topi (fun z63 hz63 => ?_)
  obtain rfl : z63 = 0 := hz63.trans (by first | rfl | decide | (simp [upd]; done))
  refine lv_iadd hx hb dX11_keep_75 ?_
  refine lv_topi (fun z64 hz64 => ?_)
  obtain rfl : z64 = 76 := hz64.trans (by first | rfl | decide | (simp [upd]; done))
  refine lv_iload_n hx hb dX11_keep_76 rfl (lv_at hl 0 rfl) ?_
  refine lv_iadd hx hb dX11_keep_77 ?_
  refine lv_topi (fun z65 hz65 => ?_)
  obtain rfl : z65 = 86 := hz65.trans (by first | rfl | decide | (simp [upd]; done))
  refine lv_aload_n hx hb dX11_keep_78 rfl (lv_at hl 1 rfl) ?_
  refine va_get (D := D) (ci := 11) (v := .ref to) (C := RX11) (T := TX11) (N := 18) hx hb hts i11 hown hK hP 0 rfl rfl 0 (by decide) fw1 (fun _ h9 => h9) rfl dX11_keep_79 ?_
  refine lv_iconst (v := 5) hx hb dX11_keep_82 (by decide) ?_
  refine lv_iload_n hx hb dX11_keep_83 rfl (lv_at hl 0 rfl) ?_
  refine lv_iadd hx hb dX11_keep_84 ?_
  refine lv_topi (fun z66 hz66 => ?_)
  obtain rfl : z66 = 15 := hz66.trans (by first | rfl | decide | (simp [upd]; done))
  refine va_iald hx hb hK hP 1 0 rfl rfl (by unfold vp_in; decide) dX11_keep_85 ?_
  refine lv_topi (fun z67 hz67 => ?_)
  obtain rfl : z67 = 0 := hz67.trans (by first | rfl | decide | assumption | (simp [upd]; done) | (unfold upd; rw [if_neg (by decide)]; assumption) | (simp [upd, *]; done))
  refine va_iast hx hb hK hP hD hS 1 0 rfl rfl (by unfold vp_in; decide) dX11_keep_86 (fun H locs hP hD hS => ?_)
  rw [kw_upd0] at hP hD
  have hP : va_P D vwCl [(mo, .inr (11, [.ref to, .ref ke, .ref ik, .ref rf, .long 0, .long 1, .ref ha, .ref r0, .ref br, .ref bp, .ref bys, .int 0, .int 0, .int 0, .int 0, .int 0, .ref an, .ref va])), (to, .inl (y 0, 228, .inl (fun _ => 0)))] H := hP
  have hD : va_D A [(mo, .inr (11, [.ref to, .ref ke, .ref ik, .ref rf, .long 0, .long 1, .ref ha, .ref r0, .ref br, .ref bp, .ref bys, .int 0, .int 0, .int 0, .int 0, .int 0, .ref an, .ref va])), (to, .inl (y 0, 228, .inl (fun _ => 0)))] := hD
  refine lv_iinc (v := 11) (lv' := [(1, .int 11), (0, .ref mo)]) hx hb dX11_keep_87 hl (k := 0) rfl (by decide) (by decide) rfl (fun ls hl => ?_)
  refine lv_goto (tgt := 54) hx hb dX11_keep_90 (by decide) ?_
  refine lv_iload_n hx hb dX11_keep_54 rfl (lv_at hl 0 rfl) ?_
  refine lv_bipush (v := 19) hx hb dX11_keep_55 (by decide) ?_
  refine lv_icmp_ge (tgt := 93) hx hb dX11_keep_57 (by decide) (fun h9 => absurd h9 (by decide)) (fun _ => ?_)
  refine lv_aload_n hx hb dX11_keep_60 rfl (lv_at hl 1 rfl) ?_
  refine va_get (D := D) (ci := 11) (v := .ref to) (C := RX11) (T := TX11) (N := 18) hx hb hts i11 hown hK hP 0 rfl rfl 0 (by decide) fw1 (fun _ h9 => h9) rfl dX11_keep_61 ?_
  refine lv_bipush (v := 76) hx hb dX11_keep_64 (by decide) ?_
  refine lv_bipush (v := 19) hx hb dX11_keep_66 (by decide) ?_
  refine lv_aload_n hx hb dX11_keep_68 rfl (lv_at hl 1 rfl) ?_
  refine va_get (D := D) (ci := 11) (v := .ref to) (C := RX11) (T := TX11) (N := 18) hx hb hts i11 hown hK hP 0 rfl rfl 0 (by decide) fw1 (fun _ h9 => h9) rfl dX11_keep_69 ?_
  refine lv_iconst (v := 4) hx hb dX11_keep_72 (by decide) ?_
  refine va_iald hx hb hK hP 1 0 rfl rfl (by unfold vp_in; decide) dX11_keep_73 ?_
  refine lv_topi (fun z68 hz68 => ?_)
  obtain rfl : z68 = 0 := hz68.trans (by first | rfl | decide | assumption | (simp [upd]; done) | (unfold upd; rw [if_neg (by decide)]; assumption) | (simp [upd, *]; done))
  refine lv_imul hx hb dX11_keep_74 ?_
  refine lv_topi (fun z69 hz69 => ?_)
  obtain rfl : z69 = 0 := hz69.trans (by first | rfl | decide | (simp [upd]; done))
  refine lv_iadd hx hb dX11_keep_75 ?_
  refine lv_topi (fun z70 hz70 => ?_)
  obtain rfl : z70 = 76 := hz70.trans (by first | rfl | decide | (simp [upd]; done))
  refine lv_iload_n hx hb dX11_keep_76 rfl (lv_at hl 0 rfl) ?_
  refine lv_iadd hx hb dX11_keep_77 ?_
  refine lv_topi (fun z71 hz71 => ?_)
  obtain rfl : z71 = 87 := hz71.trans (by first | rfl | decide | (simp [upd]; done))
  refine lv_aload_n hx hb dX11_keep_78 rfl (lv_at hl 1 rfl) ?_
  refine va_get (D := D) (ci := 11) (v := .ref to) (C := RX11) (T := TX11) (N := 18) hx hb hts i11 hown hK hP 0 rfl rfl 0 (by decide) fw1 (fun _ h9 => h9) rfl dX11_keep_79 ?_
  refine lv_iconst (v := 5) hx hb dX11_keep_82 (by decide) ?_
  refine lv_iload_n hx hb dX11_keep_83 rfl (lv_at hl 0 rfl) ?_
  refine lv_iadd hx hb dX11_keep_84 ?_
  refine lv_topi (fun z72 hz72 => ?_)
  obtain rfl : z72 = 16 := hz72.trans (by first | rfl | decide | (simp [upd]; done))
  refine va_iald hx hb hK hP 1 0 rfl rfl (by unfold vp_in; decide) dX11_keep_85 ?_
  refine lv_topi (fun z73 hz73 => ?_)
  obtain rfl : z73 = 0 := hz73.trans (by first | rfl | decide | assumption | (simp [upd]; done) | (unfold upd; rw [if_neg (by decide)]; assumption) | (simp [upd, *]; done))
  refine va_iast hx hb hK hP hD hS 1 0 rfl rfl (by unfold vp_in; decide) dX11_keep_86 (fun H locs hP hD hS => ?_)
  rw [kw_upd0] at hP hD
  have hP : va_P D vwCl [(mo, .inr (11, [.ref to, .ref ke, .ref ik, .ref rf, .long 0, .long 1, .ref ha, .ref r0, .ref br, .ref bp, .ref bys, .int 0, .int 0, .int 0, .int 0, .int 0, .ref an, .ref va])), (to, .inl (y 0, 228, .inl (fun _ => 0)))] H := hP
  have hD : va_D A [(mo, .inr (11, [.ref to, .ref ke, .ref ik, .ref rf, .long 0, .long 1, .ref ha, .ref r0, .ref br, .ref bp, .ref bys, .int 0, .int 0, .int 0, .int 0, .int 0, .ref an, .ref va])), (to, .inl (y 0, 228, .inl (fun _ => 0)))] := hD
  refine lv_iinc (v := 12) (lv' := [(1, .int 12), (0, .ref mo)]) hx hb dX11_keep_87 hl (k := 0) rfl (by decide) (by decide) rfl (fun ls hl => ?_)
  refine lv_goto (tgt := 54) hx hb dX11_keep_90 (by decide) ?_
  refine lv_iload_n hx hb dX11_keep_54 rfl (lv_at hl 0 rfl) ?_
  refine lv_bipush (v := 19) hx hb dX11_keep_55 (by decide) ?_
  refine lv_icmp_ge (tgt := 93) hx hb dX11_keep_57 (by decide) (fun h9 => absurd h9 (by decide)) (fun _ => ?_)
  refine lv_aload_n hx hb dX11_keep_60 rfl (lv_at hl 1 rfl) ?_
  refine va_get (D := D) (ci := 11) (v := .ref to) (C := RX11) (T := TX11) (N := 18) hx hb hts i11 hown hK hP 0 rfl rfl 0 (by decide) fw1 (fun _ h9 => h9) rfl dX11_keep_61 ?_
  refine lv_bipush (v := 76) hx hb dX11_keep_64 (by decide) ?_
  refine lv_bipush (v := 19) hx hb dX11_keep_66 (by decide) ?_
  refine lv_aload_n hx hb dX11_keep_68 rfl (lv_at hl 1 rfl) ?_
  refine va_get (D := D) (ci := 11) (v := .ref to) (C := RX11) (T := TX11) (N := 18) hx hb hts i11 hown hK hP 0 rfl rfl 0 (by decide) fw1 (fun _ h9 => h9) rfl dX11_keep_69 ?_
  refine lv_iconst (v := 4) hx hb dX11_keep_72 (by decide) ?_
  refine va_iald hx hb hK hP 1 0 rfl rfl (by unfold vp_in; decide) dX11_keep_73 ?_
  refine lv_topi (fun z74 hz74 => ?_)
  obtain rfl : z74 = 0 := hz74.trans (by first | rfl | decide | assumption | (simp [upd]; done) | (unfold upd; rw [if_neg (by decide)]; assumption) | (simp [upd, *]; done))
  refine lv_imul hx hb dX11_keep_74 ?_
  refine lv_topi (fun z75 hz75 => ?_)
  obtain rfl : z75 = 0 := hz75.trans (by first | rfl | decide | (simp [upd]; done))
  refine lv_iadd hx hb dX11_keep_75 ?_
  refine lv_topi (fun z76 hz76 => ?_)
  obtain rfl : z76 = 76 := hz76.trans (by first | rfl | decide | (simp [upd]; done))
  refine lv_iload_n hx hb dX11_keep_76 rfl (lv_at hl 0 rfl) ?_
  refine lv_iadd hx hb dX11_keep_77 ?_
  refine lv_topi (fun z77 hz77 => ?_)
  obtain rfl : z77 = 88 := hz77.trans (by first | rfl | decide | (simp [upd]; done))
  refine lv_aload_n hx hb dX11_keep_78 rfl (lv_at hl 1 rfl) ?_
  refine va_get (D := D) (ci := 11) (v := .ref to) (C := RX11) (T := TX11) (N := 18) hx hb hts i11 hown hK hP 0 rfl rfl 0 (by decide) fw1 (fun _ h9 => h9) rfl dX11_keep_79 ?_
  refine lv_iconst (v := 5) hx hb dX11_keep_82 (by decide) ?_
  refine lv_iload_n hx hb dX11_keep_83 rfl (lv_at hl 0 rfl) ?_
  refine lv_iadd hx hb dX11_keep_84 ?_
  refine lv_topi (fun z78 hz78 => ?_)
  obtain rfl : z78 = 17 := hz78.trans (by first | rfl | decide | (simp [upd]; done))
  refine va_iald hx hb hK hP 1 0 rfl rfl (by unfold vp_in; decide) dX11_keep_85 ?_
  refine lv_topi (fun z79 hz79 => ?_)
  obtain rfl : z79 = 0 := hz79.trans (by first | rfl | decide | assumption | (simp [upd]; done) | (unfold upd; rw [if_neg (by decide)]; assumption) | (simp [upd, *]; done))
  refine va_iast hx hb hK hP hD hS 1 0 rfl rfl (by unfold vp_in; decide) dX11_keep_86 (fun H locs hP hD hS => ?_)
  rw [kw_upd0] at hP hD
  have hP : va_P D vwCl [(mo, .inr (11, [.ref to, .ref ke, .ref ik, .ref rf, .long 0, .long 1, .ref ha, .ref r0, .ref br, .ref bp, .ref bys, .int 0, .int 0, .int 0, .int 0, .int 0, .ref an, .ref va])), (to, .inl (y 0, 228, .inl (fun _ => 0)))] H := hP
  have hD : va_D A [(mo, .inr (11, [.ref to, .ref ke, .ref ik, .ref rf, .long 0, .long 1, .ref ha, .ref r0, .ref br, .ref bp, .ref bys, .int 0, .int 0, .int 0, .int 0, .int 0, .ref an, .ref va])), (to, .inl (y 0, 228, .inl (fun _ => 0)))] := hD
  refine lv_iinc (v := 13) (lv' := [(1, .int 13), (0, .ref mo)]) hx hb dX11_keep_87 hl (k := 0) rfl (by decide) (by decide) rfl (fun ls hl => ?_)
  refine lv_goto (tgt := 54) hx hb dX11_keep_90 (by decide) ?_
  refine lv_iload_n hx hb dX11_keep_54 rfl (lv_at hl 0 rfl) ?_
  refine lv_bipush (v := 19) hx hb dX11_keep_55 (by decide) ?_
  refine lv_icmp_ge (tgt := 93) hx hb dX11_keep_57 (by decide) (fun h9 => absurd h9 (by decide)) (fun _ => ?_)
  refine lv_aload_n hx hb dX11_keep_60 rfl (lv_at hl 1 rfl) ?_
  refine va_get (D := D) (ci := 11) (v := .ref to) (C := RX11) (T := TX11) (N := 18) hx hb hts i11 hown hK hP 0 rfl rfl 0 (by decide) fw1 (fun _ h9 => h9) rfl dX11_keep_61 ?_
  refine lv_bipush (v := 76) hx hb dX11_keep_64 (by decide) ?_
  refine lv_bipush (v := 19) hx hb dX11_keep_66 (by decide) ?_
  refine lv_aload_n hx hb dX11_keep_68 rfl (lv_at hl 1 rfl) ?_
  refine va_get (D := D) (ci := 11) (v := .ref to) (C := RX11) (T := TX11) (N := 18) hx hb hts i11 hown hK hP 0 rfl rfl 0 (by decide) fw1 (fun _ h9 => h9) rfl dX11_keep_69 ?_
  refine lv_iconst (v := 4) hx hb dX11_keep_72 (by decide) ?_
  refine va_iald hx hb hK hP 1 0 rfl rfl (by unfold vp_in; decide) dX11_keep_73 ?_
  refine lv_topi (fun z80 hz80 => ?_)
  obtain rfl : z80 = 0 := hz80.trans (by first | rfl | decide | assumption | (simp [upd]; done) | (unfold upd; rw [if_neg (by decide)]; assumption) | (simp [upd, *]; done))
  refine lv_imul hx hb dX11_keep_74 ?_
  refine lv_topi (fun z81 hz81 => ?_)
  obtain rfl : z81 = 0 := hz81.trans (by first | rfl | decide | (simp [upd]; done))
  refine lv_iadd hx hb dX11_keep_75 ?_
  refine lv_topi (fun z82 hz82 => ?_)
  obtain rfl : z82 = 76 := hz82.trans (by first | rfl | decide | (simp [upd]; done))
  refine lv_iload_n hx hb dX11_keep_76 rfl (lv_at hl 0 rfl) ?_
  refine lv_iadd hx hb dX11_keep_77 ?_
  refine lv_topi (fun z83 hz83 => ?_)
  obtain rfl : z83 = 89 := hz83.trans (by first | rfl | decide | (simp [upd]; done))
  refine lv_aload_n hx hb dX11_keep_78 rfl (lv_at hl 1 rfl) ?_
  refine va_get (D := D) (ci := 11) (v := .ref to) (C := RX11) (T := TX11) (N := 18) hx hb hts i11 hown hK hP 0 rfl rfl 0 (by decide) fw1 (fun _ h9 => h9) rfl dX11_keep_79 ?_
  refine lv_iconst (v := 5) hx hb dX11_keep_82 (by decide) ?_
  refine lv_iload_n hx hb dX11_keep_83 rfl (lv_at hl 0 rfl) ?_
  refine lv_iadd hx hb dX11_keep_84 ?_
  refine lv_topi (fun z84 hz84 => ?_)
  obtain rfl : z84 = 18 := hz84.trans (by first | rfl | decide | (simp [upd]; done))
  refine va_iald hx hb hK hP 1 0 rfl rfl (by unfold vp_in; decide) dX11_keep_85 ?_
  refine lv_topi (fun z85 hz85 => ?_)
  obtain rfl : z85 = 0 := hz85.trans (by first | rfl | decide | assumption | (simp [upd]; done) | (unfold upd; rw [if_neg (by decide)]; assumption) | (simp [upd, *]; done))
  refine va_iast hx hb hK hP hD hS 1 0 rfl rfl (by unfold vp_in; decide) dX11_keep_86 (fun H locs hP hD hS => ?_)
  rw [kw_upd0] at hP hD
  have hP : va_P D vwCl [(mo, .inr (11, [.ref to, .ref ke, .ref ik, .ref rf, .long 0, .long 1, .ref ha, .ref r0, .ref br, .ref bp, .ref bys, .int 0, .int 0, .int 0, .int 0, .int 0, .ref an, .ref va])), (to, .inl (y 0, 228, .inl (fun _ => 0)))] H := hP
  have hD : va_D A [(mo, .inr (11, [.ref to, .ref ke, .ref ik, .ref rf, .long 0, .long 1, .ref ha, .ref r0, .ref br, .ref bp, .ref bys, .int 0, .int 0, .int 0, .int 0, .int 0, .ref an, .ref va])), (to, .inl (y 0, 228, .inl (fun _ => 0)))] := hD
  refine lv_iinc (v := 14) (lv' := [(1, .int 14), (0, .ref mo)]) hx hb dX11_keep_87 hl (k := 0) rfl (by decide) (by decide) rfl (fun ls hl => ?_)
  refine lv_goto (tgt := 54) hx hb dX11_keep_90 (by decide) ?_
  refine lv_iload_n hx hb dX11_keep_54 rfl (lv_at hl 0 rfl) ?_
  refine lv_bipush (v := 19) hx hb dX11_keep_55 (by decide) ?_
  refine lv_icmp_ge (tgt := 93) hx hb dX11_keep_57 (by decide) (fun h9 => absurd h9 (by decide)) (fun _ => ?_)
  refine lv_aload_n hx hb dX11_keep_60 rfl (lv_at hl 1 rfl) ?_
  refine va_get (D := D) (ci := 11) (v := .ref to) (C := RX11) (T := TX11) (N := 18) hx hb hts i11 hown hK hP 0 rfl rfl 0 (by decide) fw1 (fun _ h9 => h9) rfl dX11_keep_61 ?_
  refine lv_bipush (v := 76) hx hb dX11_keep_64 (by decide) ?_
  refine lv_bipush (v := 19) hx hb dX11_keep_66 (by decide) ?_
  refine lv_aload_n hx hb dX11_keep_68 rfl (lv_at hl 1 rfl) ?_
  refine va_get (D := D) (ci := 11) (v := .ref to) (C := RX11) (T := TX11) (N := 18) hx hb hts i11 hown hK hP 0 rfl rfl 0 (by decide) fw1 (fun _ h9 => h9) rfl dX11_keep_69 ?_
  refine lv_iconst (v := 4) hx hb dX11_keep_72 (by decide) ?_
  refine va_iald hx hb hK hP 1 0 rfl rfl (by unfold vp_in; decide) dX11_keep_73 ?_
  refine lv_topi (fun z86 hz86 => ?_)
  obtain rfl : z86 = 0 := hz86.trans (by first | rfl | decide | assumption | (simp [upd]; done) | (unfold upd; rw [if_neg (by decide)]; assumption) | (simp [upd, *]; done))
  refine lv_imul hx hb dX11_keep_74 ?_
  refine lv_topi (fun z87 hz87 => ?_)
  obtain rfl : z87 = 0 := hz87.trans (by first | rfl | decide | (simp [upd]; done))
  refine lv_iadd hx hb dX11_keep_75 ?_
  refine lv_topi (fun z88 hz88 => ?_)
  obtain rfl : z88 = 76 := hz88.trans (by first | rfl | decide | (simp [upd]; done))
  refine lv_iload_n hx hb dX11_keep_76 rfl (lv_at hl 0 rfl) ?_
  refine lv_iadd hx hb dX11_keep_77 ?_
  refine lv_topi (fun z89 hz89 => ?_)
  obtain rfl : z89 = 90 := hz89.trans (by first | rfl | decide | (simp [upd]; done))
  refine lv_aload_n hx hb dX11_keep_78 rfl (lv_at hl 1 rfl) ?_
  refine va_get (D := D) (ci := 11) (v := .ref to) (C := RX11) (T := TX11) (N := 18) hx hb hts i11 hown hK hP 0 rfl rfl 0 (by decide) fw1 (fun _ h9 => h9) rfl dX11_keep_79 ?_
  refine lv_iconst (v := 5) hx hb dX11_keep_82 (by decide) ?_
  refine lv_iload_n hx hb dX11_keep_83 rfl (lv_at hl 0 rfl) ?_
  refine lv_iadd hx hb dX11_keep_84 ?_
  refine lv_topi (fun z90 hz90 => ?_)
  obtain rfl : z90 = 19 := hz90.trans (by first | rfl | decide | (simp [upd]; done))
  refine va_iald hx hb hK hP 1 0 rfl rfl (by unfold vp_in; decide) dX11_keep_85 ?_
  refine lv_topi (fun z91 hz91 => ?_)
  obtain rfl : z91 = 0 := hz91.trans (by first | rfl | decide | assumption | (simp [upd]; done) | (unfold upd; rw [if_neg (by decide)]; assumption) | (simp [upd, *]; done))
  refine va_iast hx hb hK hP hD hS 1 0 rfl rfl (by unfold vp_in; decide) dX11_keep_86 (fun H locs hP hD hS => ?_)
  rw [kw_upd0] at hP hD
  have hP : va_P D vwCl [(mo, .inr (11, [.ref to, .ref ke, .ref ik, .ref rf, .long 0, .long 1, .ref ha, .ref r0, .ref br, .ref bp, .ref bys, .int 0, .int 0, .int 0, .int 0, .int 0, .ref an, .ref va])), (to, .inl (y 0, 228, .inl (fun _ => 0)))] H := hP
  have hD : va_D A [(mo, .inr (11, [.ref to, .ref ke, .ref ik, .ref rf, .long 0, .long 1, .ref ha, .ref r0, .ref br, .ref bp, .ref bys, .int 0, .int 0, .int 0, .int 0, .int 0, .ref an, .ref va])), (to, .inl (y 0, 228, .inl (fun _ => 0)))] := hD
  refine lv_iinc (v := 15) (lv' := [(1, .int 15), (0, .ref mo)]) hx hb dX11_keep_87 hl (k := 0) rfl (by decide) (by decide) rfl (fun ls hl => ?_)
  refine lv_goto (tgt := 54) hx hb dX11_keep_90 (by decide) ?_
  refine lv_iload_n hx hb dX11_keep_54 rfl (lv_at hl 0 rfl) ?_
  refine lv_bipush (v := 19) hx hb dX11_keep_55 (by decide) ?_
  refine lv_icmp_ge (tgt := 93) hx hb dX11_keep_57 (by decide) (fun h9 => absurd h9 (by decide)) (fun _ => ?_)
  refine lv_aload_n hx hb dX11_keep_60 rfl (lv_at hl 1 rfl) ?_
  refine va_get (D := D) (ci := 11) (v := .ref to) (C := RX11) (T := TX11) (N := 18) hx hb hts i11 hown hK hP 0 rfl rfl 0 (by decide) fw1 (fun _ h9 => h9) rfl dX11_keep_61 ?_
  refine lv_bipush (v := 76) hx hb dX11_keep_64 (by decide) ?_
  refine lv_bipush (v := 19) hx hb dX11_keep_66 (by decide) ?_
  refine lv_aload_n hx hb dX11_keep_68 rfl (lv_at hl 1 rfl) ?_
  refine va_get (D := D) (ci := 11) (v := .ref to) (C := RX11) (T := TX11) (N := 18) hx hb hts i11 hown hK hP 0 rfl rfl 0 (by decide) fw1 (fun _ h9 => h9) rfl dX11_keep_69 ?_
  refine lv_iconst (v := 4) hx hb dX11_keep_72 (by decide) ?_
  refine va_iald hx hb hK hP 1 0 rfl rfl (by unfold vp_in; decide) dX11_keep_73 ?_
  refine lv_topi (fun z92 hz92 => ?_)
  obtain rfl : z92 = 0 := hz92.trans (by first | rfl | decide | assumption | (simp [upd]; done) | (unfold upd; rw [if_neg (by decide)]; assumption) | (simp [upd, *]; done))
  refine lv_imul hx hb dX11_keep_74 ?_
  refine lv_topi (fun z93 hz93 => ?_)
  obtain rfl : z93 = 0 := hz93.trans (by first | rfl | decide | (simp [upd]; done))
  refine lv_iadd hx hb dX11_keep_75 ?_
  refine lv_topi (fun z94 hz94 => ?_)
  obtain rfl : z94 = 76 := hz94.trans (by first | rfl | decide | (simp [upd]; done))
  refine lv_iload_n hx hb dX11_keep_76 rfl (lv_at hl 0 rfl) ?_
  refine lv_iadd hx hb dX11_keep_77 ?_
  refine lv_topi (fun z95 hz95 => ?_)
  obtain rfl : z95 = 91 := hz95.trans (by first | rfl | decide | (simp [upd]; done))
  refine lv_aload_n hx hb dX11_keep_78 rfl (lv_at hl 1 rfl) ?_
  refine va_get (D := D) (ci := 11) (v := .ref to) (C := RX11) (T := TX11) (N := 18) hx hb hts i11 hown hK hP 0 rfl rfl 0 (by decide) fw1 (fun _ h9 => h9) rfl dX11_keep_79 ?_
  refine lv_iconst (v := 5) hx hb dX11_keep_82 (by decide) ?_
  refine lv_iload_n hx hb dX11_keep_83 rfl (lv_at hl 0 rfl) ?_
  refine lv_iadd hx hb dX11_keep_84 ?_
  refine lv_topi (fun z96 hz96 => ?_)
  obtain rfl : z96 = 20 := hz96.trans (by first | rfl | decide | (simp [upd]; done))
  refine va_iald hx hb hK hP 1 0 rfl rfl (by unfold vp_in; decide) dX11_keep_85 ?_
  refine lv_topi (fun z97 hz97 => ?_)
  obtain rfl : z97 = 0 := hz97.trans (by first | rfl | decide | assumption | (simp [upd]; done) | (unfold upd; rw [if_neg (by decide)]; assumption) | (simp [upd, *]; done))
  refine va_iast hx hb hK hP hD hS 1 0 rfl rfl (by unfold vp_in; decide) dX11_keep_86 (fun H locs hP hD hS => ?_)
  rw [kw_upd0] at hP hD
  have hP : va_P D vwCl [(mo, .inr (11, [.ref to, .ref ke, .ref ik, .ref rf, .long 0, .long 1, .ref ha, .ref r0, .ref br, .ref bp, .ref bys, .int 0, .int 0, .int 0, .int 0, .int 0, .ref an, .ref va])), (to, .inl (y 0, 228, .inl (fun _ => 0)))] H := hP
  have hD : va_D A [(mo, .inr (11, [.ref to, .ref ke, .ref ik, .ref rf, .long 0, .long 1, .ref ha, .ref r0, .ref br, .ref bp, .ref bys, .int 0, .int 0, .int 0, .int 0, .int 0, .ref an, .ref va])), (to, .inl (y 0, 228, .inl (fun _ => 0)))] := hD
  refine lv_iinc (v := 16) (lv' := [(1, .int 16), (0, .ref mo)]) hx hb dX11_keep_87 hl (k := 0) rfl (by decide) (by decide) rfl (fun ls hl => ?_)
  refine lv_goto (tgt := 54) hx hb dX11_keep_90 (by decide) ?_
  refine lv_iload_n hx hb dX11_keep_54 rfl (lv_at hl 0 rfl) ?_
  refine lv_bipush (v := 19) hx hb dX11_keep_55 (by decide) ?_
  refine lv_icmp_ge (tgt := 93) hx hb dX11_keep_57 (by decide) (fun h9 => absurd h9 (by decide)) (fun _ => ?_)
  refine lv_aload_n hx hb dX11_keep_60 rfl (lv_at hl 1 rfl) ?_
  refine va_get (D := D) (ci := 11) (v := .ref to) (C := RX11) (T := TX11) (N := 18) hx hb hts i11 hown hK hP 0 rfl rfl 0 (by decide) fw1 (fun _ h9 => h9) rfl dX11_keep_61 ?_
  refine lv_bipush (v := 76) hx hb dX11_keep_64 (by decide) ?_
  refine lv_bipush (v := 19) hx hb dX11_keep_66 (by decide) ?_
  refine lv_aload_n hx hb dX11_keep_68 rfl (lv_at hl 1 rfl) ?_
  refine va_get (D := D) (ci := 11) (v := .ref to) (C := RX11) (T := TX11) (N := 18) hx hb hts i11 hown hK hP 0 rfl rfl 0 (by decide) fw1 (fun _ h9 => h9) rfl dX11_keep_69 ?_
  refine lv_iconst (v := 4) hx hb dX11_keep_72 (by decide) ?_
  refine va_iald hx hb hK hP 1 0 rfl rfl (by unfold vp_in; decide) dX11_keep_73 ?_
  refine lv_topi (fun z98 hz98 => ?_)
  obtain rfl : z98 = 0 := hz98.trans (by first | rfl | decide | assumption | (simp [upd]; done) | (unfold upd; rw [if_neg (by decide)]; assumption) | (simp [upd, *]; done))
  refine lv_imul hx hb dX11_keep_74 ?_
  refine lv_topi (fun z99 hz99 => ?_)
  obtain rfl : z99 = 0 := hz99.trans (by first | rfl | decide | (simp [upd]; done))
  refine lv_iadd hx hb dX11_keep_75 ?_
  refine lv_topi (fun z100 hz100 => ?_)
  obtain rfl : z100 = 76 := hz100.trans (by first | rfl | decide | (simp [upd]; done))
  refine lv_iload_n hx hb dX11_keep_76 rfl (lv_at hl 0 rfl) ?_
  refine lv_iadd hx hb dX11_keep_77 ?_
  refine lv_topi (fun z101 hz101 => ?_)
  obtain rfl : z101 = 92 := hz101.trans (by first | rfl | decide | (simp [upd]; done))
  refine lv_aload_n hx hb dX11_keep_78 rfl (lv_at hl 1 rfl) ?_
  refine va_get (D := D) (ci := 11) (v := .ref to) (C := RX11) (T := TX11) (N := 18) hx hb hts i11 hown hK hP 0 rfl rfl 0 (by decide) fw1 (fun _ h9 => h9) rfl dX11_keep_79 ?_
  refine lv_iconst (v := 5) hx hb dX11_keep_82 (by decide) ?_
  refine lv_iload_n hx hb dX11_keep_83 rfl (lv_at hl 0 rfl) ?_
  refine lv_iadd hx hb dX11_keep_84 ?_
  refine lv_topi (fun z102 hz102 => ?_)
  obtain rfl : z102 = 21 := hz102.trans (by first | rfl | decide | (simp [upd]; done))
  refine va_iald hx hb hK hP 1 0 rfl rfl (by unfold vp_in; decide) dX11_keep_85 ?_
  refine lv_topi (fun z103 hz103 => ?_)
  obtain rfl : z103 = 0 := hz103.trans (by first | rfl | decide | assumption | (simp [upd]; done) | (unfold upd; rw [if_neg (by decide)]; assumption) | (simp [upd, *]; done))
  refine va_iast hx hb hK hP hD hS 1 0 rfl rfl (by unfold vp_in; decide) dX11_keep_86 (fun H locs hP hD hS => ?_)
  rw [kw_upd0] at hP hD
  have hP : va_P D vwCl [(mo, .inr (11, [.ref to, .ref ke, .ref ik, .ref rf, .long 0, .long 1, .ref ha, .ref r0, .ref br, .ref bp, .ref bys, .int 0, .int 0, .int 0, .int 0, .int 0, .ref an, .ref va])), (to, .inl (y 0, 228, .inl (fun _ => 0)))] H := hP
  have hD : va_D A [(mo, .inr (11, [.ref to, .ref ke, .ref ik, .ref rf, .long 0, .long 1, .ref ha, .ref r0, .ref br, .ref bp, .ref bys, .int 0, .int 0, .int 0, .int 0, .int 0, .ref an, .ref va])), (to, .inl (y 0, 228, .inl (fun _ => 0)))] := hD
  refine lv_iinc (v := 17) (lv' := [(1, .int 17), (0, .ref mo)]) hx hb dX11_keep_87 hl (k := 0) rfl (by decide) (by decide) rfl (fun ls hl => ?_)
  refine lv_goto (tgt := 54) hx hb dX11_keep_90 (by decide) ?_
  refine lv_iload_n hx hb dX11_keep_54 rfl (lv_at hl 0 rfl) ?_
  refine lv_bipush (v := 19) hx hb dX11_keep_55 (by decide) ?_
  refine lv_icmp_ge (tgt := 93) hx hb dX11_keep_57 (by decide) (fun h9 => absurd h9 (by decide)) (fun _ => ?_)
  refine lv_aload_n hx hb dX11_keep_60 rfl (lv_at hl 1 rfl) ?_
  refine va_get (D := D) (ci := 11) (v := .ref to) (C := RX11) (T := TX11) (N := 18) hx hb hts i11 hown hK hP 0 rfl rfl 0 (by decide) fw1 (fun _ h9 => h9) rfl dX11_keep_61 ?_
  refine lv_bipush (v := 76) hx hb dX11_keep_64 (by decide) ?_
  refine lv_bipush (v := 19) hx hb dX11_keep_66 (by decide) ?_
  refine lv_aload_n hx hb dX11_keep_68 rfl (lv_at hl 1 rfl) ?_
  refine va_get (D := D) (ci := 11) (v := .ref to) (C := RX11) (T := TX11) (N := 18) hx hb hts i11 hown hK hP 0 rfl rfl 0 (by decide) fw1 (fun _ h9 => h9) rfl dX11_keep_69 ?_
  refine lv_iconst (v := 4) hx hb dX11_keep_72 (by decide) ?_
  refine va_iald hx hb hK hP 1 0 rfl rfl (by unfold vp_in; decide) dX11_keep_73 ?_
  refine lv_topi (fun z104 hz104 => ?_)
  obtain rfl : z104 = 0 := hz104.trans (by first | rfl | decide | assumption | (simp [upd]; done) | (unfold upd; rw [if_neg (by decide)]; assumption) | (simp [upd, *]; done))
  refine lv_imul hx hb dX11_keep_74 ?_
  refine lv_topi (fun z105 hz105 => ?_)
  obtain rfl : z105 = 0 := hz105.trans (by first | rfl | decide | (simp [upd]; done))
  refine lv_iadd hx hb dX11_keep_75 ?_
  refine lv_topi (fun z106 hz106 => ?_)
  obtain rfl : z106 = 76 := hz106.trans (by first | rfl | decide | (simp [upd]; done))
  refine lv_iload_n hx hb dX11_keep_76 rfl (lv_at hl 0 rfl) ?_
  refine lv_iadd hx hb dX11_keep_77 ?_
  refine lv_topi (fun z107 hz107 => ?_)
  obtain rfl : z107 = 93 := hz107.trans (by first | rfl | decide | (simp [upd]; done))
  refine lv_aload_n hx hb dX11_keep_78 rfl (lv_at hl 1 rfl) ?_
  refine va_get (D := D) (ci := 11) (v := .ref to) (C := RX11) (T := TX11) (N := 18) hx hb hts i11 hown hK hP 0 rfl rfl 0 (by decide) fw1 (fun _ h9 => h9) rfl dX11_keep_79 ?_
  refine lv_iconst (v := 5) hx hb dX11_keep_82 (by decide) ?_
  refine lv_iload_n hx hb dX11_keep_83 rfl (lv_at hl 0 rfl) ?_
  refine lv_iadd hx hb dX11_keep_84 ?_
  refine lv_topi (fun z108 hz108 => ?_)
  obtain rfl : z108 = 22 := hz108.trans (by first | rfl | decide | (simp [upd]; done))
  refine va_iald hx hb hK hP 1 0 rfl rfl (by unfold vp_in; decide) dX11_keep_85 ?_
  refine lv_topi (fun z109 hz109 => ?_)
  obtain rfl : z109 = 0 := hz109.trans (by first | rfl | decide | assumption | (simp [upd]; done) | (unfold upd; rw [if_neg (by decide)]; assumption) | (simp [upd, *]; done))
  refine va_iast hx hb hK hP hD hS 1 0 rfl rfl (by unfold vp_in; decide) dX11_keep_86 (fun H locs hP hD hS => ?_)
  rw [kw_upd0] at hP hD
  have hP : va_P D vwCl [(mo, .inr (11, [.ref to, .ref ke, .ref ik, .ref rf, .long 0, .long 1, .ref ha, .ref r0, .ref br, .ref bp, .ref bys, .int 0, .int 0, .int 0, .int 0, .int 0, .ref an, .ref va])), (to, .inl (y 0, 228, .inl (fun _ => 0)))] H := hP
  have hD : va_D A [(mo, .inr (11, [.ref to, .ref ke, .ref ik, .ref rf, .long 0, .long 1, .ref ha, .ref r0, .ref br, .ref bp, .ref bys, .int 0, .int 0, .int 0, .int 0, .int 0, .ref an, .ref va])), (to, .inl (y 0, 228, .inl (fun _ => 0)))] := hD
  refine lv_iinc (v := 18) (lv' := [(1, .int 18), (0, .ref mo)]) hx hb dX11_keep_87 hl (k := 0) rfl (by decide) (by decide) rfl (fun ls hl => ?_)
  refine lv_goto (tgt := 54) hx hb dX11_keep_90 (by decide) ?_
  refine lv_iload_n hx hb dX11_keep_54 rfl (lv_at hl 0 rfl) ?_
  refine lv_bipush (v := 19) hx hb dX11_keep_55 (by decide) ?_
  refine lv_icmp_ge (tgt := 93) hx hb dX11_keep_57 (by decide) (fun h9 => absurd h9 (by decide)) (fun _ => ?_)
  refine lv_aload_n hx hb dX11_keep_60 rfl (lv_at hl 1 rfl) ?_
  refine va_get (D := D) (ci := 11) (v := .ref to) (C := RX11) (T := TX11) (N := 18) hx hb hts i11 hown hK hP 0 rfl rfl 0 (by decide) fw1 (fun _ h9 => h9) rfl dX11_keep_61 ?_
  refine lv_bipush (v := 76) hx hb dX11_keep_64 (by decide) ?_
  refine lv_bipush (v := 19) hx hb dX11_keep_66 (by decide) ?_
  refine lv_aload_n hx hb dX11_keep_68 rfl (lv_at hl 1 rfl) ?_
  refine va_get (D := D) (ci := 11) (v := .ref to) (C := RX11) (T := TX11) (N := 18) hx hb hts i11 hown hK hP 0 rfl rfl 0 (by decide) fw1 (fun _ h9 => h9) rfl dX11_keep_69 ?_
  refine lv_iconst (v := 4) hx hb dX11_keep_72 (by decide) ?_
  refine va_iald hx hb hK hP 1 0 rfl rfl (by unfold vp_in; decide) dX11_keep_73 ?_
  refine lv_topi (fun z110 hz110 => ?_)
  obtain rfl : z110 = 0 := hz110.trans (by first | rfl | decide | assumption | (simp [upd]; done) | (unfold upd; rw [if_neg (by decide)]; assumption) | (simp [upd, *]; done))
  refine lv_imul hx hb dX11_keep_74 ?_
  refine lv_topi (fun z111 hz111 => ?_)
  obtain rfl : z111 = 0 := hz111.trans (by first | rfl | decide | (simp [upd]; done))
  refine lv_iadd hx hb dX11_keep_75 ?_
  refine lv_topi (fun z112 hz112 => ?_)
  obtain rfl : z112 = 76 := hz112.trans (by first | rfl | decide | (simp [upd]; done))
  refine lv_iload_n hx hb dX11_keep_76 rfl (lv_at hl 0 rfl) ?_
  refine lv_iadd hx hb dX11_keep_77 ?_
  refine lv_topi (fun z113 hz113 => ?_)
  obtain rfl : z113 = 94 := hz113.trans (by first | rfl | decide | (simp [upd]; done))
  refine lv_aload_n hx hb dX11_keep_78 rfl (lv_at hl 1 rfl) ?_
  refine va_get (D := D) (ci := 11) (v := .ref to) (C := RX11) (T := TX11) (N := 18) hx hb hts i11 hown hK hP 0 rfl rfl 0 (by decide) fw1 (fun _ h9 => h9) rfl dX11_keep_79 ?_
  refine lv_iconst (v := 5) hx hb dX11_keep_82 (by decide) ?_
  refine lv_iload_n hx hb dX11_keep_83 rfl (lv_at hl 0 rfl) ?_
  refine lv_iadd hx hb dX11_keep_84 ?_
  refine lv_topi (fun z114 hz114 => ?_)
  obtain rfl : z114 = 23 := hz114.trans (by first | rfl | decide | (simp [upd]; done))
  refine va_iald hx hb hK hP 1 0 rfl rfl (by unfold vp_in; decide) dX11_keep_85 ?_
  refine lv_topi (fun z115 hz115 => ?_)
  obtain rfl : z115 = 0 := hz115.trans (by first | rfl | decide | assumption | (simp [upd]; done) | (unfold upd; rw [if_neg (by decide)]; assumption) | (simp [upd, *]; done))
  refine va_iast hx hb hK hP hD hS 1 0 rfl rfl (by unfold vp_in; decide) dX11_keep_86 (fun H locs hP hD hS => ?_)
  rw [kw_upd0] at hP hD
  have hP : va_P D vwCl [(mo, .inr (11, [.ref to, .ref ke, .ref ik, .ref rf, .long 0, .long 1, .ref ha, .ref r0, .ref br, .ref bp, .ref bys, .int 0, .int 0, .int 0, .int 0, .int 0, .ref an, .ref va])), (to, .inl (y 0, 228, .inl (fun _ => 0)))] H := hP
  have hD : va_D A [(mo, .inr (11, [.ref to, .ref ke, .ref ik, .ref rf, .long 0, .long 1, .ref ha, .ref r0, .ref br, .ref bp, .ref bys, .int 0, .int 0, .int 0, .int 0, .int 0, .ref an, .ref va])), (to, .inl (y 0, 228, .inl (fun _ => 0)))] := hD
  refine lv_iinc (v := 19) (lv' := [(1, .int 19), (0, .ref mo)]) hx hb dX11_keep_87 hl (k := 0) rfl (by decide) (by decide) rfl (fun ls hl => ?_)
  refine lv_goto (tgt := 54) hx hb dX11_keep_90 (by decide) ?_
  refine lv_iload_n hx hb dX11_keep_54 rfl (lv_at hl 0 rfl) ?_
  refine lv_bipush (v := 19) hx hb dX11_keep_55 (by decide) ?_
  refine lv_icmp_ge (tgt := 93) hx hb dX11_keep_57 (by decide) (fun _ => ?_) (fun h9 => absurd h9 (by decide))
  refine lv_aload_n hx hb dX11_keep_93 rfl (lv_at hl 1 rfl) ?_
  refine va_get (D := D) (ci := 11) (v := .ref to) (C := RX11) (T := TX11) (N := 18) hx hb hts i11 hown hK hP 0 rfl rfl 0 (by decide) fw1 (fun _ h9 => h9) rfl dX11_keep_94 ?_
  refine lv_iconst (v := 4) hx hb dX11_keep_97 (by decide) ?_
  refine lv_dup2_11 hx hb dX11_keep_98 rfl rfl ?_
  refine va_iald hx hb hK hP 1 0 rfl rfl (by unfold vp_in; decide) dX11_keep_99 ?_
  refine lv_topi (fun z116 hz116 => ?_)
  obtain rfl : z116 = 0 := hz116.trans (by first | rfl | decide | assumption | (simp [upd]; done) | (unfold upd; rw [if_neg (by decide)]; assumption) | (simp [upd, *]; done))
  refine lv_iconst (v := 1) hx hb dX11_keep_100 (by decide) ?_
  refine lv_iadd hx hb dX11_keep_101 ?_
  refine lv_topi (fun z117 hz117 => ?_)
  obtain rfl : z117 = 1 := hz117.trans (by first | rfl | decide | (simp [upd]; done))
  refine va_iast hx hb hK hP hD hS 1 0 rfl rfl (by unfold vp_in; decide) dX11_keep_102 (fun H locs hP hD hS => ?_)
  have hP : va_P D vwCl [(mo, .inr (11, [.ref to, .ref ke, .ref ik, .ref rf, .long 0, .long 1, .ref ha, .ref r0, .ref br, .ref bp, .ref bys, .int 0, .int 0, .int 0, .int 0, .int 0, .ref an, .ref va])), (to, .inl (y 0, 228, .inl (upd (fun _ => 0) (4 : Int32).toNatClampNeg 1)))] H := hP
  have hD : va_D A [(mo, .inr (11, [.ref to, .ref ke, .ref ik, .ref rf, .long 0, .long 1, .ref ha, .ref r0, .ref br, .ref bp, .ref bys, .int 0, .int 0, .int 0, .int 0, .int 0, .ref an, .ref va])), (to, .inl (y 0, 228, .inl (upd (fun _ => 0) (4 : Int32).toNatClampNeg 1)))] := hD
  exact W.vret hx hb hr (fun tZ ht hW => ⟨⟨(), rfl, trivial, by rw [ht]; exact hP.sub [0, 1] rfl, hD.sub [0, 1] (by decide) rfl⟩, hS.F ht⟩) hS.2.2 dX11_keep_103
