set_option maxHeartbeats 4000000 in
set_option maxRecDepth 100000 in
theorem gr_pow0 (l : Launch) (D : va_G) (y : Nat → ClassId)   : kw_Mi l yX11_powerOfThree wsX11_powerOfThree ({ frames := 1, cells := 0, slots := 0, locals := 60 }) D y [.int 0] [] (fun (r : Int32) (u : Unit) => r = 1) (fun _ => []) 0 0 := by
  refine kw_Mi.of (cc := cX11_powerOfThree) (maxL := 3) (ret := (some .int)) (by decide) rfl ?_
  intro pZ eZ s mZ beZ meZ cZ A hE
  obtain ⟨hx, hb, hr, hml, hts, hown, hlocks, hin, hA, hP, hD, hK, hN⟩ := hE
  have hS : va_S A s.heap s.heap [] := va_S.rf
  have hl := lv_entry ([.int 0]) (n := 3) (Nat.le_of_ble_eq_true rfl)
  rw [lg_entry_eq]
  generalize (lg_sl ([.int 0]) ++ List.replicate (3 - (lg_sl ([.int 0])).length) Slot.unset).toArray = ls at hl ⊢
  have hl : lv_has ls 3 [(0, .int 0)] := hl
  refine lv_iconst (v := 1) hx hb dX11_powerOfThree_0 (by decide) ?_
  refine lv_istore_n (lv' := [(1, .int 1), (0, .int 0)]) hx hb dX11_powerOfThree_1 rfl hl (by decide) rfl (fun ls hl => ?_)
  refine lv_iconst (v := 0) hx hb dX11_powerOfThree_2 (by decide) ?_
  refine lv_istore_n (lv' := [(2, .int 0), (1, .int 1), (0, .int 0)]) hx hb dX11_powerOfThree_3 rfl hl (by decide) rfl (fun ls hl => ?_)
  refine lv_iload_n hx hb dX11_powerOfThree_4 rfl (lv_at hl 0 rfl) ?_
  refine lv_iload_n hx hb dX11_powerOfThree_5 rfl (lv_at hl 2 rfl) ?_
  refine lv_icmp_ge (tgt := 19) hx hb dX11_powerOfThree_6 (by decide) (fun _ => ?_) (fun h9 => absurd h9 (by decide))
  refine lv_iload_n hx hb dX11_powerOfThree_19 rfl (lv_at hl 1 rfl) ?_
  exact W.iret (v := 1) hx hb hr (fun tZ ht hW => ⟨⟨1, (), rfl, rfl, by rw [ht]; exact hP.sub [] rfl, hD.sub [] (by decide) rfl⟩, hS.F ht⟩) hS.2.2 dX11_powerOfThree_20

set_option maxHeartbeats 4000000 in
set_option maxRecDepth 100000 in
theorem gr_pow1 (l : Launch) (D : va_G) (y : Nat → ClassId)   : kw_Mi l yX11_powerOfThree wsX11_powerOfThree ({ frames := 1, cells := 0, slots := 0, locals := 60 }) D y [.int 1] [] (fun (r : Int32) (u : Unit) => r = 3) (fun _ => []) 0 0 := by
  refine kw_Mi.of (cc := cX11_powerOfThree) (maxL := 3) (ret := (some .int)) (by decide) rfl ?_
  intro pZ eZ s mZ beZ meZ cZ A hE
  obtain ⟨hx, hb, hr, hml, hts, hown, hlocks, hin, hA, hP, hD, hK, hN⟩ := hE
  have hS : va_S A s.heap s.heap [] := va_S.rf
  have hl := lv_entry ([.int 1]) (n := 3) (Nat.le_of_ble_eq_true rfl)
  rw [lg_entry_eq]
  generalize (lg_sl ([.int 1]) ++ List.replicate (3 - (lg_sl ([.int 1])).length) Slot.unset).toArray = ls at hl ⊢
  have hl : lv_has ls 3 [(0, .int 1)] := hl
  refine lv_iconst (v := 1) hx hb dX11_powerOfThree_0 (by decide) ?_
  refine lv_istore_n (lv' := [(1, .int 1), (0, .int 1)]) hx hb dX11_powerOfThree_1 rfl hl (by decide) rfl (fun ls hl => ?_)
  refine lv_iconst (v := 0) hx hb dX11_powerOfThree_2 (by decide) ?_
  refine lv_istore_n (lv' := [(2, .int 0), (1, .int 1), (0, .int 1)]) hx hb dX11_powerOfThree_3 rfl hl (by decide) rfl (fun ls hl => ?_)
  refine lv_iload_n hx hb dX11_powerOfThree_4 rfl (lv_at hl 0 rfl) ?_
  refine lv_iload_n hx hb dX11_powerOfThree_5 rfl (lv_at hl 2 rfl) ?_
  refine lv_icmp_ge (tgt := 19) hx hb dX11_powerOfThree_6 (by decide) (fun h9 => absurd h9 (by decide)) (fun _ => ?_)
  refine lv_iload_n hx hb dX11_powerOfThree_9 rfl (lv_at hl 1 rfl) ?_
  refine lv_iconst (v := 3) hx hb dX11_powerOfThree_10 (by decide) ?_
  refine lv_imul hx hb dX11_powerOfThree_11 ?_
  refine lv_topi (fun z1 hz1 => ?_)
  obtain rfl : z1 = 3 := hz1.trans (by decide)
  refine lv_istore_n (lv' := [(1, .int 3), (2, .int 0), (0, .int 1)]) hx hb dX11_powerOfThree_12 rfl hl (by decide) rfl (fun ls hl => ?_)
  refine lv_iinc (v := 1) (lv' := [(2, .int 1), (1, .int 3), (0, .int 1)]) hx hb dX11_powerOfThree_13 hl (k := 1) rfl (by decide) (by decide) rfl (fun ls hl => ?_)
  refine lv_goto (tgt := 4) hx hb dX11_powerOfThree_16 (by decide) ?_
  refine lv_iload_n hx hb dX11_powerOfThree_4 rfl (lv_at hl 0 rfl) ?_
  refine lv_iload_n hx hb dX11_powerOfThree_5 rfl (lv_at hl 2 rfl) ?_
  refine lv_icmp_ge (tgt := 19) hx hb dX11_powerOfThree_6 (by decide) (fun _ => ?_) (fun h9 => absurd h9 (by decide))
  refine lv_iload_n hx hb dX11_powerOfThree_19 rfl (lv_at hl 1 rfl) ?_
  exact W.iret (v := 3) hx hb hr (fun tZ ht hW => ⟨⟨3, (), rfl, rfl, by rw [ht]; exact hP.sub [] rfl, hD.sub [] (by decide) rfl⟩, hS.F ht⟩) hS.2.2 dX11_powerOfThree_20

set_option maxHeartbeats 4000000 in
set_option maxRecDepth 100000 in
theorem gr_pow2 (l : Launch) (D : va_G) (y : Nat → ClassId)   : kw_Mi l yX11_powerOfThree wsX11_powerOfThree ({ frames := 1, cells := 0, slots := 0, locals := 60 }) D y [.int 2] [] (fun (r : Int32) (u : Unit) => r = 9) (fun _ => []) 0 0 := by
  refine kw_Mi.of (cc := cX11_powerOfThree) (maxL := 3) (ret := (some .int)) (by decide) rfl ?_
  intro pZ eZ s mZ beZ meZ cZ A hE
  obtain ⟨hx, hb, hr, hml, hts, hown, hlocks, hin, hA, hP, hD, hK, hN⟩ := hE
  have hS : va_S A s.heap s.heap [] := va_S.rf
  have hl := lv_entry ([.int 2]) (n := 3) (Nat.le_of_ble_eq_true rfl)
  rw [lg_entry_eq]
  generalize (lg_sl ([.int 2]) ++ List.replicate (3 - (lg_sl ([.int 2])).length) Slot.unset).toArray = ls at hl ⊢
  have hl : lv_has ls 3 [(0, .int 2)] := hl
  refine lv_iconst (v := 1) hx hb dX11_powerOfThree_0 (by decide) ?_
  refine lv_istore_n (lv' := [(1, .int 1), (0, .int 2)]) hx hb dX11_powerOfThree_1 rfl hl (by decide) rfl (fun ls hl => ?_)
  refine lv_iconst (v := 0) hx hb dX11_powerOfThree_2 (by decide) ?_
  refine lv_istore_n (lv' := [(2, .int 0), (1, .int 1), (0, .int 2)]) hx hb dX11_powerOfThree_3 rfl hl (by decide) rfl (fun ls hl => ?_)
  refine lv_iload_n hx hb dX11_powerOfThree_4 rfl (lv_at hl 0 rfl) ?_
  refine lv_iload_n hx hb dX11_powerOfThree_5 rfl (lv_at hl 2 rfl) ?_
  refine lv_icmp_ge (tgt := 19) hx hb dX11_powerOfThree_6 (by decide) (fun h9 => absurd h9 (by decide)) (fun _ => ?_)
  refine lv_iload_n hx hb dX11_powerOfThree_9 rfl (lv_at hl 1 rfl) ?_
  refine lv_iconst (v := 3) hx hb dX11_powerOfThree_10 (by decide) ?_
  refine lv_imul hx hb dX11_powerOfThree_11 ?_
  refine lv_topi (fun z1 hz1 => ?_)
  obtain rfl : z1 = 3 := hz1.trans (by decide)
  refine lv_istore_n (lv' := [(1, .int 3), (2, .int 0), (0, .int 2)]) hx hb dX11_powerOfThree_12 rfl hl (by decide) rfl (fun ls hl => ?_)
  refine lv_iinc (v := 1) (lv' := [(2, .int 1), (1, .int 3), (0, .int 2)]) hx hb dX11_powerOfThree_13 hl (k := 1) rfl (by decide) (by decide) rfl (fun ls hl => ?_)
  refine lv_goto (tgt := 4) hx hb dX11_powerOfThree_16 (by decide) ?_
  refine lv_iload_n hx hb dX11_powerOfThree_4 rfl (lv_at hl 0 rfl) ?_
  refine lv_iload_n hx hb dX11_powerOfThree_5 rfl (lv_at hl 2 rfl) ?_
  refine lv_icmp_ge (tgt := 19) hx hb dX11_powerOfThree_6 (by decide) (fun h9 => absurd h9 (by decide)) (fun _ => ?_)
  refine lv_iload_n hx hb dX11_powerOfThree_9 rfl (lv_at hl 1 rfl) ?_
  refine lv_iconst (v := 3) hx hb dX11_powerOfThree_10 (by decide) ?_
  refine lv_imul hx hb dX11_powerOfThree_11 ?_
  refine lv_topi (fun z2 hz2 => ?_)
  obtain rfl : z2 = 9 := hz2.trans (by decide)
  refine lv_istore_n (lv' := [(1, .int 9), (2, .int 1), (0, .int 2)]) hx hb dX11_powerOfThree_12 rfl hl (by decide) rfl (fun ls hl => ?_)
  refine lv_iinc (v := 2) (lv' := [(2, .int 2), (1, .int 9), (0, .int 2)]) hx hb dX11_powerOfThree_13 hl (k := 1) rfl (by decide) (by decide) rfl (fun ls hl => ?_)
  refine lv_goto (tgt := 4) hx hb dX11_powerOfThree_16 (by decide) ?_
  refine lv_iload_n hx hb dX11_powerOfThree_4 rfl (lv_at hl 0 rfl) ?_
  refine lv_iload_n hx hb dX11_powerOfThree_5 rfl (lv_at hl 2 rfl) ?_
  refine lv_icmp_ge (tgt := 19) hx hb dX11_powerOfThree_6 (by decide) (fun _ => ?_) (fun h9 => absurd h9 (by decide))
  refine lv_iload_n hx hb dX11_powerOfThree_19 rfl (lv_at hl 1 rfl) ?_
  exact W.iret (v := 9) hx hb hr (fun tZ ht hW => ⟨⟨9, (), rfl, rfl, by rw [ht]; exact hP.sub [] rfl, hD.sub [] (by decide) rfl⟩, hS.F ht⟩) hS.2.2 dX11_powerOfThree_20

set_option maxHeartbeats 4000000 in
set_option maxRecDepth 100000 in
theorem gr_pow3 (l : Launch) (D : va_G) (y : Nat → ClassId)   : kw_Mi l yX11_powerOfThree wsX11_powerOfThree ({ frames := 1, cells := 0, slots := 0, locals := 60 }) D y [.int 3] [] (fun (r : Int32) (u : Unit) => r = 27) (fun _ => []) 0 0 := by
  refine kw_Mi.of (cc := cX11_powerOfThree) (maxL := 3) (ret := (some .int)) (by decide) rfl ?_
  intro pZ eZ s mZ beZ meZ cZ A hE
  obtain ⟨hx, hb, hr, hml, hts, hown, hlocks, hin, hA, hP, hD, hK, hN⟩ := hE
  have hS : va_S A s.heap s.heap [] := va_S.rf
  have hl := lv_entry ([.int 3]) (n := 3) (Nat.le_of_ble_eq_true rfl)
  rw [lg_entry_eq]
  generalize (lg_sl ([.int 3]) ++ List.replicate (3 - (lg_sl ([.int 3])).length) Slot.unset).toArray = ls at hl ⊢
  have hl : lv_has ls 3 [(0, .int 3)] := hl
  refine lv_iconst (v := 1) hx hb dX11_powerOfThree_0 (by decide) ?_
  refine lv_istore_n (lv' := [(1, .int 1), (0, .int 3)]) hx hb dX11_powerOfThree_1 rfl hl (by decide) rfl (fun ls hl => ?_)
  refine lv_iconst (v := 0) hx hb dX11_powerOfThree_2 (by decide) ?_
  refine lv_istore_n (lv' := [(2, .int 0), (1, .int 1), (0, .int 3)]) hx hb dX11_powerOfThree_3 rfl hl (by decide) rfl (fun ls hl => ?_)
  refine lv_iload_n hx hb dX11_powerOfThree_4 rfl (lv_at hl 0 rfl) ?_
  refine lv_iload_n hx hb dX11_powerOfThree_5 rfl (lv_at hl 2 rfl) ?_
  refine lv_icmp_ge (tgt := 19) hx hb dX11_powerOfThree_6 (by decide) (fun h9 => absurd h9 (by decide)) (fun _ => ?_)
  refine lv_iload_n hx hb dX11_powerOfThree_9 rfl (lv_at hl 1 rfl) ?_
  refine lv_iconst (v := 3) hx hb dX11_powerOfThree_10 (by decide) ?_
  refine lv_imul hx hb dX11_powerOfThree_11 ?_
  refine lv_topi (fun z1 hz1 => ?_)
  obtain rfl : z1 = 3 := hz1.trans (by decide)
  refine lv_istore_n (lv' := [(1, .int 3), (2, .int 0), (0, .int 3)]) hx hb dX11_powerOfThree_12 rfl hl (by decide) rfl (fun ls hl => ?_)
  refine lv_iinc (v := 1) (lv' := [(2, .int 1), (1, .int 3), (0, .int 3)]) hx hb dX11_powerOfThree_13 hl (k := 1) rfl (by decide) (by decide) rfl (fun ls hl => ?_)
  refine lv_goto (tgt := 4) hx hb dX11_powerOfThree_16 (by decide) ?_
  refine lv_iload_n hx hb dX11_powerOfThree_4 rfl (lv_at hl 0 rfl) ?_
  refine lv_iload_n hx hb dX11_powerOfThree_5 rfl (lv_at hl 2 rfl) ?_
  refine lv_icmp_ge (tgt := 19) hx hb dX11_powerOfThree_6 (by decide) (fun h9 => absurd h9 (by decide)) (fun _ => ?_)
  refine lv_iload_n hx hb dX11_powerOfThree_9 rfl (lv_at hl 1 rfl) ?_
  refine lv_iconst (v := 3) hx hb dX11_powerOfThree_10 (by decide) ?_
  refine lv_imul hx hb dX11_powerOfThree_11 ?_
  refine lv_topi (fun z2 hz2 => ?_)
  obtain rfl : z2 = 9 := hz2.trans (by decide)
  refine lv_istore_n (lv' := [(1, .int 9), (2, .int 1), (0, .int 3)]) hx hb dX11_powerOfThree_12 rfl hl (by decide) rfl (fun ls hl => ?_)
  refine lv_iinc (v := 2) (lv' := [(2, .int 2), (1, .int 9), (0, .int 3)]) hx hb dX11_powerOfThree_13 hl (k := 1) rfl (by decide) (by decide) rfl (fun ls hl => ?_)
  refine lv_goto (tgt := 4) hx hb dX11_powerOfThree_16 (by decide) ?_
  refine lv_iload_n hx hb dX11_powerOfThree_4 rfl (lv_at hl 0 rfl) ?_
  refine lv_iload_n hx hb dX11_powerOfThree_5 rfl (lv_at hl 2 rfl) ?_
  refine lv_icmp_ge (tgt := 19) hx hb dX11_powerOfThree_6 (by decide) (fun h9 => absurd h9 (by decide)) (fun _ => ?_)
  refine lv_iload_n hx hb dX11_powerOfThree_9 rfl (lv_at hl 1 rfl) ?_
  refine lv_iconst (v := 3) hx hb dX11_powerOfThree_10 (by decide) ?_
  refine lv_imul hx hb dX11_powerOfThree_11 ?_
  refine lv_topi (fun z3 hz3 => ?_)
  obtain rfl : z3 = 27 := hz3.trans (by decide)
  refine lv_istore_n (lv' := [(1, .int 27), (2, .int 2), (0, .int 3)]) hx hb dX11_powerOfThree_12 rfl hl (by decide) rfl (fun ls hl => ?_)
  refine lv_iinc (v := 3) (lv' := [(2, .int 3), (1, .int 27), (0, .int 3)]) hx hb dX11_powerOfThree_13 hl (k := 1) rfl (by decide) (by decide) rfl (fun ls hl => ?_)
  refine lv_goto (tgt := 4) hx hb dX11_powerOfThree_16 (by decide) ?_
  refine lv_iload_n hx hb dX11_powerOfThree_4 rfl (lv_at hl 0 rfl) ?_
  refine lv_iload_n hx hb dX11_powerOfThree_5 rfl (lv_at hl 2 rfl) ?_
  refine lv_icmp_ge (tgt := 19) hx hb dX11_powerOfThree_6 (by decide) (fun _ => ?_) (fun h9 => absurd h9 (by decide))
  refine lv_iload_n hx hb dX11_powerOfThree_19 rfl (lv_at hl 1 rfl) ?_
  exact W.iret (v := 27) hx hb hr (fun tZ ht hW => ⟨⟨27, (), rfl, rfl, by rw [ht]; exact hP.sub [] rfl, hD.sub [] (by decide) rfl⟩, hS.F ht⟩) hS.2.2 dX11_powerOfThree_20

set_option maxHeartbeats 4000000 in
set_option maxRecDepth 100000 in
theorem gr_pow4 (l : Launch) (D : va_G) (y : Nat → ClassId)   : kw_Mi l yX11_powerOfThree wsX11_powerOfThree ({ frames := 1, cells := 0, slots := 0, locals := 60 }) D y [.int 4] [] (fun (r : Int32) (u : Unit) => r = 81) (fun _ => []) 0 0 := by
  refine kw_Mi.of (cc := cX11_powerOfThree) (maxL := 3) (ret := (some .int)) (by decide) rfl ?_
  intro pZ eZ s mZ beZ meZ cZ A hE
  obtain ⟨hx, hb, hr, hml, hts, hown, hlocks, hin, hA, hP, hD, hK, hN⟩ := hE
  have hS : va_S A s.heap s.heap [] := va_S.rf
  have hl := lv_entry ([.int 4]) (n := 3) (Nat.le_of_ble_eq_true rfl)
  rw [lg_entry_eq]
  generalize (lg_sl ([.int 4]) ++ List.replicate (3 - (lg_sl ([.int 4])).length) Slot.unset).toArray = ls at hl ⊢
  have hl : lv_has ls 3 [(0, .int 4)] := hl
  refine lv_iconst (v := 1) hx hb dX11_powerOfThree_0 (by decide) ?_
  refine lv_istore_n (lv' := [(1, .int 1), (0, .int 4)]) hx hb dX11_powerOfThree_1 rfl hl (by decide) rfl (fun ls hl => ?_)
  refine lv_iconst (v := 0) hx hb dX11_powerOfThree_2 (by decide) ?_
  refine lv_istore_n (lv' := [(2, .int 0), (1, .int 1), (0, .int 4)]) hx hb dX11_powerOfThree_3 rfl hl (by decide) rfl (fun ls hl => ?_)
  refine lv_iload_n hx hb dX11_powerOfThree_4 rfl (lv_at hl 0 rfl) ?_
  refine lv_iload_n hx hb dX11_powerOfThree_5 rfl (lv_at hl 2 rfl) ?_
  refine lv_icmp_ge (tgt := 19) hx hb dX11_powerOfThree_6 (by decide) (fun h9 => absurd h9 (by decide)) (fun _ => ?_)
  refine lv_iload_n hx hb dX11_powerOfThree_9 rfl (lv_at hl 1 rfl) ?_
  refine lv_iconst (v := 3) hx hb dX11_powerOfThree_10 (by decide) ?_
  refine lv_imul hx hb dX11_powerOfThree_11 ?_
  refine lv_topi (fun z1 hz1 => ?_)
  obtain rfl : z1 = 3 := hz1.trans (by decide)
  refine lv_istore_n (lv' := [(1, .int 3), (2, .int 0), (0, .int 4)]) hx hb dX11_powerOfThree_12 rfl hl (by decide) rfl (fun ls hl => ?_)
  refine lv_iinc (v := 1) (lv' := [(2, .int 1), (1, .int 3), (0, .int 4)]) hx hb dX11_powerOfThree_13 hl (k := 1) rfl (by decide) (by decide) rfl (fun ls hl => ?_)
  refine lv_goto (tgt := 4) hx hb dX11_powerOfThree_16 (by decide) ?_
  refine lv_iload_n hx hb dX11_powerOfThree_4 rfl (lv_at hl 0 rfl) ?_
  refine lv_iload_n hx hb dX11_powerOfThree_5 rfl (lv_at hl 2 rfl) ?_
  refine lv_icmp_ge (tgt := 19) hx hb dX11_powerOfThree_6 (by decide) (fun h9 => absurd h9 (by decide)) (fun _ => ?_)
  refine lv_iload_n hx hb dX11_powerOfThree_9 rfl (lv_at hl 1 rfl) ?_
  refine lv_iconst (v := 3) hx hb dX11_powerOfThree_10 (by decide) ?_
  refine lv_imul hx hb dX11_powerOfThree_11 ?_
  refine lv_topi (fun z2 hz2 => ?_)
  obtain rfl : z2 = 9 := hz2.trans (by decide)
  refine lv_istore_n (lv' := [(1, .int 9), (2, .int 1), (0, .int 4)]) hx hb dX11_powerOfThree_12 rfl hl (by decide) rfl (fun ls hl => ?_)
  refine lv_iinc (v := 2) (lv' := [(2, .int 2), (1, .int 9), (0, .int 4)]) hx hb dX11_powerOfThree_13 hl (k := 1) rfl (by decide) (by decide) rfl (fun ls hl => ?_)
  refine lv_goto (tgt := 4) hx hb dX11_powerOfThree_16 (by decide) ?_
  refine lv_iload_n hx hb dX11_powerOfThree_4 rfl (lv_at hl 0 rfl) ?_
  refine lv_iload_n hx hb dX11_powerOfThree_5 rfl (lv_at hl 2 rfl) ?_
  refine lv_icmp_ge (tgt := 19) hx hb dX11_powerOfThree_6 (by decide) (fun h9 => absurd h9 (by decide)) (fun _ => ?_)
  refine lv_iload_n hx hb dX11_powerOfThree_9 rfl (lv_at hl 1 rfl) ?_
  refine lv_iconst (v := 3) hx hb dX11_powerOfThree_10 (by decide) ?_
  refine lv_imul hx hb dX11_powerOfThree_11 ?_
  refine lv_topi (fun z3 hz3 => ?_)
  obtain rfl : z3 = 27 := hz3.trans (by decide)
  refine lv_istore_n (lv' := [(1, .int 27), (2, .int 2), (0, .int 4)]) hx hb dX11_powerOfThree_12 rfl hl (by decide) rfl (fun ls hl => ?_)
  refine lv_iinc (v := 3) (lv' := [(2, .int 3), (1, .int 27), (0, .int 4)]) hx hb dX11_powerOfThree_13 hl (k := 1) rfl (by decide) (by decide) rfl (fun ls hl => ?_)
  refine lv_goto (tgt := 4) hx hb dX11_powerOfThree_16 (by decide) ?_
  refine lv_iload_n hx hb dX11_powerOfThree_4 rfl (lv_at hl 0 rfl) ?_
  refine lv_iload_n hx hb dX11_powerOfThree_5 rfl (lv_at hl 2 rfl) ?_
  refine lv_icmp_ge (tgt := 19) hx hb dX11_powerOfThree_6 (by decide) (fun h9 => absurd h9 (by decide)) (fun _ => ?_)
  refine lv_iload_n hx hb dX11_powerOfThree_9 rfl (lv_at hl 1 rfl) ?_
  refine lv_iconst (v := 3) hx hb dX11_powerOfThree_10 (by decide) ?_
  refine lv_imul hx hb dX11_powerOfThree_11 ?_
  refine lv_topi (fun z4 hz4 => ?_)
  obtain rfl : z4 = 81 := hz4.trans (by decide)
  refine lv_istore_n (lv' := [(1, .int 81), (2, .int 3), (0, .int 4)]) hx hb dX11_powerOfThree_12 rfl hl (by decide) rfl (fun ls hl => ?_)
  refine lv_iinc (v := 4) (lv' := [(2, .int 4), (1, .int 81), (0, .int 4)]) hx hb dX11_powerOfThree_13 hl (k := 1) rfl (by decide) (by decide) rfl (fun ls hl => ?_)
  refine lv_goto (tgt := 4) hx hb dX11_powerOfThree_16 (by decide) ?_
  refine lv_iload_n hx hb dX11_powerOfThree_4 rfl (lv_at hl 0 rfl) ?_
  refine lv_iload_n hx hb dX11_powerOfThree_5 rfl (lv_at hl 2 rfl) ?_
  refine lv_icmp_ge (tgt := 19) hx hb dX11_powerOfThree_6 (by decide) (fun _ => ?_) (fun h9 => absurd h9 (by decide))
  refine lv_iload_n hx hb dX11_powerOfThree_19 rfl (lv_at hl 1 rfl) ?_
  exact W.iret (v := 81) hx hb hr (fun tZ ht hW => ⟨⟨81, (), rfl, rfl, by rw [ht]; exact hP.sub [] rfl, hD.sub [] (by decide) rfl⟩, hS.F ht⟩) hS.2.2 dX11_powerOfThree_20

set_option maxHeartbeats 4000000 in
set_option maxRecDepth 100000 in
theorem gr_pow5 (l : Launch) (D : va_G) (y : Nat → ClassId)   : kw_Mi l yX11_powerOfThree wsX11_powerOfThree ({ frames := 1, cells := 0, slots := 0, locals := 60 }) D y [.int 5] [] (fun (r : Int32) (u : Unit) => r = 243) (fun _ => []) 0 0 := by
  refine kw_Mi.of (cc := cX11_powerOfThree) (maxL := 3) (ret := (some .int)) (by decide) rfl ?_
  intro pZ eZ s mZ beZ meZ cZ A hE
  obtain ⟨hx, hb, hr, hml, hts, hown, hlocks, hin, hA, hP, hD, hK, hN⟩ := hE
  have hS : va_S A s.heap s.heap [] := va_S.rf
  have hl := lv_entry ([.int 5]) (n := 3) (Nat.le_of_ble_eq_true rfl)
  rw [lg_entry_eq]
  generalize (lg_sl ([.int 5]) ++ List.replicate (3 - (lg_sl ([.int 5])).length) Slot.unset).toArray = ls at hl ⊢
  have hl : lv_has ls 3 [(0, .int 5)] := hl
  refine lv_iconst (v := 1) hx hb dX11_powerOfThree_0 (by decide) ?_
  refine lv_istore_n (lv' := [(1, .int 1), (0, .int 5)]) hx hb dX11_powerOfThree_1 rfl hl (by decide) rfl (fun ls hl => ?_)
  refine lv_iconst (v := 0) hx hb dX11_powerOfThree_2 (by decide) ?_
  refine lv_istore_n (lv' := [(2, .int 0), (1, .int 1), (0, .int 5)]) hx hb dX11_powerOfThree_3 rfl hl (by decide) rfl (fun ls hl => ?_)
  refine lv_iload_n hx hb dX11_powerOfThree_4 rfl (lv_at hl 0 rfl) ?_
  refine lv_iload_n hx hb dX11_powerOfThree_5 rfl (lv_at hl 2 rfl) ?_
  refine lv_icmp_ge (tgt := 19) hx hb dX11_powerOfThree_6 (by decide) (fun h9 => absurd h9 (by decide)) (fun _ => ?_)
  refine lv_iload_n hx hb dX11_powerOfThree_9 rfl (lv_at hl 1 rfl) ?_
  refine lv_iconst (v := 3) hx hb dX11_powerOfThree_10 (by decide) ?_
  refine lv_imul hx hb dX11_powerOfThree_11 ?_
  refine lv_topi (fun z1 hz1 => ?_)
  obtain rfl : z1 = 3 := hz1.trans (by decide)
  refine lv_istore_n (lv' := [(1, .int 3), (2, .int 0), (0, .int 5)]) hx hb dX11_powerOfThree_12 rfl hl (by decide) rfl (fun ls hl => ?_)
  refine lv_iinc (v := 1) (lv' := [(2, .int 1), (1, .int 3), (0, .int 5)]) hx hb dX11_powerOfThree_13 hl (k := 1) rfl (by decide) (by decide) rfl (fun ls hl => ?_)
  refine lv_goto (tgt := 4) hx hb dX11_powerOfThree_16 (by decide) ?_
  refine lv_iload_n hx hb dX11_powerOfThree_4 rfl (lv_at hl 0 rfl) ?_
  refine lv_iload_n hx hb dX11_powerOfThree_5 rfl (lv_at hl 2 rfl) ?_
  refine lv_icmp_ge (tgt := 19) hx hb dX11_powerOfThree_6 (by decide) (fun h9 => absurd h9 (by decide)) (fun _ => ?_)
  refine lv_iload_n hx hb dX11_powerOfThree_9 rfl (lv_at hl 1 rfl) ?_
  refine lv_iconst (v := 3) hx hb dX11_powerOfThree_10 (by decide) ?_
  refine lv_imul hx hb dX11_powerOfThree_11 ?_
  refine lv_topi (fun z2 hz2 => ?_)
  obtain rfl : z2 = 9 := hz2.trans (by decide)
  refine lv_istore_n (lv' := [(1, .int 9), (2, .int 1), (0, .int 5)]) hx hb dX11_powerOfThree_12 rfl hl (by decide) rfl (fun ls hl => ?_)
  refine lv_iinc (v := 2) (lv' := [(2, .int 2), (1, .int 9), (0, .int 5)]) hx hb dX11_powerOfThree_13 hl (k := 1) rfl (by decide) (by decide) rfl (fun ls hl => ?_)
  refine lv_goto (tgt := 4) hx hb dX11_powerOfThree_16 (by decide) ?_
  refine lv_iload_n hx hb dX11_powerOfThree_4 rfl (lv_at hl 0 rfl) ?_
  refine lv_iload_n hx hb dX11_powerOfThree_5 rfl (lv_at hl 2 rfl) ?_
  refine lv_icmp_ge (tgt := 19) hx hb dX11_powerOfThree_6 (by decide) (fun h9 => absurd h9 (by decide)) (fun _ => ?_)
  refine lv_iload_n hx hb dX11_powerOfThree_9 rfl (lv_at hl 1 rfl) ?_
  refine lv_iconst (v := 3) hx hb dX11_powerOfThree_10 (by decide) ?_
  refine lv_imul hx hb dX11_powerOfThree_11 ?_
  refine lv_topi (fun z3 hz3 => ?_)
  obtain rfl : z3 = 27 := hz3.trans (by decide)
  refine lv_istore_n (lv' := [(1, .int 27), (2, .int 2), (0, .int 5)]) hx hb dX11_powerOfThree_12 rfl hl (by decide) rfl (fun ls hl => ?_)
  refine lv_iinc (v := 3) (lv' := [(2, .int 3), (1, .int 27), (0, .int 5)]) hx hb dX11_powerOfThree_13 hl (k := 1) rfl (by decide) (by decide) rfl (fun ls hl => ?_)
  refine lv_goto (tgt := 4) hx hb dX11_powerOfThree_16 (by decide) ?_
  refine lv_iload_n hx hb dX11_powerOfThree_4 rfl (lv_at hl 0 rfl) ?_
  refine lv_iload_n hx hb dX11_powerOfThree_5 rfl (lv_at hl 2 rfl) ?_
  refine lv_icmp_ge (tgt := 19) hx hb dX11_powerOfThree_6 (by decide) (fun h9 => absurd h9 (by decide)) (fun _ => ?_)
  refine lv_iload_n hx hb dX11_powerOfThree_9 rfl (lv_at hl 1 rfl) ?_
  refine lv_iconst (v := 3) hx hb dX11_powerOfThree_10 (by decide) ?_
  refine lv_imul hx hb dX11_powerOfThree_11 ?_
  refine lv_topi (fun z4 hz4 => ?_)
  obtain rfl : z4 = 81 := hz4.trans (by decide)
  refine lv_istore_n (lv' := [(1, .int 81), (2, .int 3), (0, .int 5)]) hx hb dX11_powerOfThree_12 rfl hl (by decide) rfl (fun ls hl => ?_)
  refine lv_iinc (v := 4) (lv' := [(2, .int 4), (1, .int 81), (0, .int 5)]) hx hb dX11_powerOfThree_13 hl (k := 1) rfl (by decide) (by decide) rfl (fun ls hl => ?_)
  refine lv_goto (tgt := 4) hx hb dX11_powerOfThree_16 (by decide) ?_
  refine lv_iload_n hx hb dX11_powerOfThree_4 rfl (lv_at hl 0 rfl) ?_
  refine lv_iload_n hx hb dX11_powerOfThree_5 rfl (lv_at hl 2 rfl) ?_
  refine lv_icmp_ge (tgt := 19) hx hb dX11_powerOfThree_6 (by decide) (fun h9 => absurd h9 (by decide)) (fun _ => ?_)
  refine lv_iload_n hx hb dX11_powerOfThree_9 rfl (lv_at hl 1 rfl) ?_
  refine lv_iconst (v := 3) hx hb dX11_powerOfThree_10 (by decide) ?_
  refine lv_imul hx hb dX11_powerOfThree_11 ?_
  refine lv_topi (fun z5 hz5 => ?_)
  obtain rfl : z5 = 243 := hz5.trans (by decide)
  refine lv_istore_n (lv' := [(1, .int 243), (2, .int 4), (0, .int 5)]) hx hb dX11_powerOfThree_12 rfl hl (by decide) rfl (fun ls hl => ?_)
  refine lv_iinc (v := 5) (lv' := [(2, .int 5), (1, .int 243), (0, .int 5)]) hx hb dX11_powerOfThree_13 hl (k := 1) rfl (by decide) (by decide) rfl (fun ls hl => ?_)
  refine lv_goto (tgt := 4) hx hb dX11_powerOfThree_16 (by decide) ?_
  refine lv_iload_n hx hb dX11_powerOfThree_4 rfl (lv_at hl 0 rfl) ?_
  refine lv_iload_n hx hb dX11_powerOfThree_5 rfl (lv_at hl 2 rfl) ?_
  refine lv_icmp_ge (tgt := 19) hx hb dX11_powerOfThree_6 (by decide) (fun _ => ?_) (fun h9 => absurd h9 (by decide))
  refine lv_iload_n hx hb dX11_powerOfThree_19 rfl (lv_at hl 1 rfl) ?_
  exact W.iret (v := 243) hx hb hr (fun tZ ht hW => ⟨⟨243, (), rfl, rfl, by rw [ht]; exact hP.sub [] rfl, hD.sub [] (by decide) rfl⟩, hS.F ht⟩) hS.2.2 dX11_powerOfThree_20

set_option maxHeartbeats 4000000 in
set_option maxRecDepth 100000 in
theorem gr_pow6 (l : Launch) (D : va_G) (y : Nat → ClassId)   : kw_Mi l yX11_powerOfThree wsX11_powerOfThree ({ frames := 1, cells := 0, slots := 0, locals := 60 }) D y [.int 6] [] (fun (r : Int32) (u : Unit) => r = 729) (fun _ => []) 0 0 := by
  refine kw_Mi.of (cc := cX11_powerOfThree) (maxL := 3) (ret := (some .int)) (by decide) rfl ?_
  intro pZ eZ s mZ beZ meZ cZ A hE
  obtain ⟨hx, hb, hr, hml, hts, hown, hlocks, hin, hA, hP, hD, hK, hN⟩ := hE
  have hS : va_S A s.heap s.heap [] := va_S.rf
  have hl := lv_entry ([.int 6]) (n := 3) (Nat.le_of_ble_eq_true rfl)
  rw [lg_entry_eq]
  generalize (lg_sl ([.int 6]) ++ List.replicate (3 - (lg_sl ([.int 6])).length) Slot.unset).toArray = ls at hl ⊢
  have hl : lv_has ls 3 [(0, .int 6)] := hl
  refine lv_iconst (v := 1) hx hb dX11_powerOfThree_0 (by decide) ?_
  refine lv_istore_n (lv' := [(1, .int 1), (0, .int 6)]) hx hb dX11_powerOfThree_1 rfl hl (by decide) rfl (fun ls hl => ?_)
  refine lv_iconst (v := 0) hx hb dX11_powerOfThree_2 (by decide) ?_
  refine lv_istore_n (lv' := [(2, .int 0), (1, .int 1), (0, .int 6)]) hx hb dX11_powerOfThree_3 rfl hl (by decide) rfl (fun ls hl => ?_)
  refine lv_iload_n hx hb dX11_powerOfThree_4 rfl (lv_at hl 0 rfl) ?_
  refine lv_iload_n hx hb dX11_powerOfThree_5 rfl (lv_at hl 2 rfl) ?_
  refine lv_icmp_ge (tgt := 19) hx hb dX11_powerOfThree_6 (by decide) (fun h9 => absurd h9 (by decide)) (fun _ => ?_)
  refine lv_iload_n hx hb dX11_powerOfThree_9 rfl (lv_at hl 1 rfl) ?_
  refine lv_iconst (v := 3) hx hb dX11_powerOfThree_10 (by decide) ?_
  refine lv_imul hx hb dX11_powerOfThree_11 ?_
  refine lv_topi (fun z1 hz1 => ?_)
  obtain rfl : z1 = 3 := hz1.trans (by decide)
  refine lv_istore_n (lv' := [(1, .int 3), (2, .int 0), (0, .int 6)]) hx hb dX11_powerOfThree_12 rfl hl (by decide) rfl (fun ls hl => ?_)
  refine lv_iinc (v := 1) (lv' := [(2, .int 1), (1, .int 3), (0, .int 6)]) hx hb dX11_powerOfThree_13 hl (k := 1) rfl (by decide) (by decide) rfl (fun ls hl => ?_)
  refine lv_goto (tgt := 4) hx hb dX11_powerOfThree_16 (by decide) ?_
  refine lv_iload_n hx hb dX11_powerOfThree_4 rfl (lv_at hl 0 rfl) ?_
  refine lv_iload_n hx hb dX11_powerOfThree_5 rfl (lv_at hl 2 rfl) ?_
  refine lv_icmp_ge (tgt := 19) hx hb dX11_powerOfThree_6 (by decide) (fun h9 => absurd h9 (by decide)) (fun _ => ?_)
  refine lv_iload_n hx hb dX11_powerOfThree_9 rfl (lv_at hl 1 rfl) ?_
  refine lv_iconst (v := 3) hx hb dX11_powerOfThree_10 (by decide) ?_
  refine lv_imul hx hb dX11_powerOfThree_11 ?_
  refine lv_topi (fun z2 hz2 => ?_)
  obtain rfl : z2 = 9 := hz2.trans (by decide)
  refine lv_istore_n (lv' := [(1, .int 9), (2, .int 1), (0, .int 6)]) hx hb dX11_powerOfThree_12 rfl hl (by decide) rfl (fun ls hl => ?_)
  refine lv_iinc (v := 2) (lv' := [(2, .int 2), (1, .int 9), (0, .int 6)]) hx hb dX11_powerOfThree_13 hl (k := 1) rfl (by decide) (by decide) rfl (fun ls hl => ?_)
  refine lv_goto (tgt := 4) hx hb dX11_powerOfThree_16 (by decide) ?_
  refine lv_iload_n hx hb dX11_powerOfThree_4 rfl (lv_at hl 0 rfl) ?_
  refine lv_iload_n hx hb dX11_powerOfThree_5 rfl (lv_at hl 2 rfl) ?_
  refine lv_icmp_ge (tgt := 19) hx hb dX11_powerOfThree_6 (by decide) (fun h9 => absurd h9 (by decide)) (fun _ => ?_)
  refine lv_iload_n hx hb dX11_powerOfThree_9 rfl (lv_at hl 1 rfl) ?_
  refine lv_iconst (v := 3) hx hb dX11_powerOfThree_10 (by decide) ?_
  refine lv_imul hx hb dX11_powerOfThree_11 ?_
  refine lv_topi (fun z3 hz3 => ?_)
  obtain rfl : z3 = 27 := hz3.trans (by decide)
  refine lv_istore_n (lv' := [(1, .int 27), (2, .int 2), (0, .int 6)]) hx hb dX11_powerOfThree_12 rfl hl (by decide) rfl (fun ls hl => ?_)
  refine lv_iinc (v := 3) (lv' := [(2, .int 3), (1, .int 27), (0, .int 6)]) hx hb dX11_powerOfThree_13 hl (k := 1) rfl (by decide) (by decide) rfl (fun ls hl => ?_)
  refine lv_goto (tgt := 4) hx hb dX11_powerOfThree_16 (by decide) ?_
  refine lv_iload_n hx hb dX11_powerOfThree_4 rfl (lv_at hl 0 rfl) ?_
  refine lv_iload_n hx hb dX11_powerOfThree_5 rfl (lv_at hl 2 rfl) ?_
  refine lv_icmp_ge (tgt := 19) hx hb dX11_powerOfThree_6 (by decide) (fun h9 => absurd h9 (by decide)) (fun _ => ?_)
  refine lv_iload_n hx hb dX11_powerOfThree_9 rfl (lv_at hl 1 rfl) ?_
  refine lv_iconst (v := 3) hx hb dX11_powerOfThree_10 (by decide) ?_
  refine lv_imul hx hb dX11_powerOfThree_11 ?_
  refine lv_topi (fun z4 hz4 => ?_)
  obtain rfl : z4 = 81 := hz4.trans (by decide)
  refine lv_istore_n (lv' := [(1, .int 81), (2, .int 3), (0, .int 6)]) hx hb dX11_powerOfThree_12 rfl hl (by decide) rfl (fun ls hl => ?_)
  refine lv_iinc (v := 4) (lv' := [(2, .int 4), (1, .int 81), (0, .int 6)]) hx hb dX11_powerOfThree_13 hl (k := 1) rfl (by decide) (by decide) rfl (fun ls hl => ?_)
  refine lv_goto (tgt := 4) hx hb dX11_powerOfThree_16 (by decide) ?_
  refine lv_iload_n hx hb dX11_powerOfThree_4 rfl (lv_at hl 0 rfl) ?_
  refine lv_iload_n hx hb dX11_powerOfThree_5 rfl (lv_at hl 2 rfl) ?_
  refine lv_icmp_ge (tgt := 19) hx hb dX11_powerOfThree_6 (by decide) (fun h9 => absurd h9 (by decide)) (fun _ => ?_)
  refine lv_iload_n hx hb dX11_powerOfThree_9 rfl (lv_at hl 1 rfl) ?_
  refine lv_iconst (v := 3) hx hb dX11_powerOfThree_10 (by decide) ?_
  refine lv_imul hx hb dX11_powerOfThree_11 ?_
  refine lv_topi (fun z5 hz5 => ?_)
  obtain rfl : z5 = 243 := hz5.trans (by decide)
  refine lv_istore_n (lv' := [(1, .int 243), (2, .int 4), (0, .int 6)]) hx hb dX11_powerOfThree_12 rfl hl (by decide) rfl (fun ls hl => ?_)
  refine lv_iinc (v := 5) (lv' := [(2, .int 5), (1, .int 243), (0, .int 6)]) hx hb dX11_powerOfThree_13 hl (k := 1) rfl (by decide) (by decide) rfl (fun ls hl => ?_)
  refine lv_goto (tgt := 4) hx hb dX11_powerOfThree_16 (by decide) ?_
  refine lv_iload_n hx hb dX11_powerOfThree_4 rfl (lv_at hl 0 rfl) ?_
  refine lv_iload_n hx hb dX11_powerOfThree_5 rfl (lv_at hl 2 rfl) ?_
  refine lv_icmp_ge (tgt := 19) hx hb dX11_powerOfThree_6 (by decide) (fun h9 => absurd h9 (by decide)) (fun _ => ?_)
  refine lv_iload_n hx hb dX11_powerOfThree_9 rfl (lv_at hl 1 rfl) ?_
  refine lv_iconst (v := 3) hx hb dX11_powerOfThree_10 (by decide) ?_
  refine lv_imul hx hb dX11_powerOfThree_11 ?_
  refine lv_topi (fun z6 hz6 => ?_)
  obtain rfl : z6 = 729 := hz6.trans (by decide)
  refine lv_istore_n (lv' := [(1, .int 729), (2, .int 5), (0, .int 6)]) hx hb dX11_powerOfThree_12 rfl hl (by decide) rfl (fun ls hl => ?_)
  refine lv_iinc (v := 6) (lv' := [(2, .int 6), (1, .int 729), (0, .int 6)]) hx hb dX11_powerOfThree_13 hl (k := 1) rfl (by decide) (by decide) rfl (fun ls hl => ?_)
  refine lv_goto (tgt := 4) hx hb dX11_powerOfThree_16 (by decide) ?_
  refine lv_iload_n hx hb dX11_powerOfThree_4 rfl (lv_at hl 0 rfl) ?_
  refine lv_iload_n hx hb dX11_powerOfThree_5 rfl (lv_at hl 2 rfl) ?_
  refine lv_icmp_ge (tgt := 19) hx hb dX11_powerOfThree_6 (by decide) (fun _ => ?_) (fun h9 => absurd h9 (by decide))
  refine lv_iload_n hx hb dX11_powerOfThree_19 rfl (lv_at hl 1 rfl) ?_
  exact W.iret (v := 729) hx hb hr (fun tZ ht hW => ⟨⟨729, (), rfl, rfl, by rw [ht]; exact hP.sub [] rfl, hD.sub [] (by decide) rfl⟩, hS.F ht⟩) hS.2.2 dX11_powerOfThree_20
