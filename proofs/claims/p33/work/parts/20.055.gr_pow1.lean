set_option maxHeartbeats 4000000 in
set_option maxRecDepth 100000 in
theorem gr_pow1 (l : Launch) (D : va_G) (y : Nat → ClassId)   : kw_Mi l yX11_powerOfThree wsX11_powerOfThree ({ frames := 1, cells := 0, slots := 0, locals := 60 }) D y [.int 1] [] (fun (r : Int32) (u : Unit) => r = 3) (fun _ => []) 0 0 := by
  refine kw_Mi.of (cc := cX11_powerOfThree) (maxL := 3) (ret := (some .int)) (by decide) rfl ?_
  intro pZ eZ s mZ beZ meZ cZ A hE
  obtain ⟨hx, hb, hr, hml, hts, hown, hlocks, hin, hA, hP, hD, hK, hN⟩ := hE
  have hS : va_S A s.heap s.heap [] := va_S.rf
  have hl := lv_entry ([.int 1]) (n := 3) (Nat.le_of_ble_eq_true rfl)
  rw [lg_entry_eq]
  generalize (lg_sl ([.int 1]) ++ List.replicate (3 - (lg_sl ([.int 1])).length) Slot.unset).toArray = ls at hl ⊢
  have hl : lv_has ls 3 [(0, .int 1)] := hl
  refine lv_iconst (v := 1) hx hb dX11_powerOfThree_0 (by decide) ?_
  refine lv_istore_n (lv' := [(1, .int 1), (0, .int 1)]) hx hb dX11_powerOfThree_1 rfl hl (by decide) rfl (fun ls hl => ?_)
  refine lv_iconst (v := 0) hx hb dX11_powerOfThree_2 (by decide) ?_
  refine lv_istore_n (lv' := [(2, .int 0), (1, .int 1), (0, .int 1)]) hx hb dX11_powerOfThree_3 rfl hl (by decide) rfl (fun ls hl => ?_)
  refine lv_iload_n hx hb dX11_powerOfThree_4 rfl (lv_at hl 0 rfl) ?_
  refine lv_iload_n hx hb dX11_powerOfThree_5 rfl (lv_at hl 2 rfl) ?_
  refine lv_icmp_ge (tgt := 19) hx hb dX11_powerOfThree_6 (by decide) (fun h9 => absurd h9 (by decide)) (fun _ => ?_)
  refine lv_iload_n hx hb dX11_powerOfThree_9 rfl (lv_at hl 1 rfl) ?_
  refine lv_iconst (v := 3) hx hb dX11_powerOfThree_10 (by decide) ?_
  refine lv_imul hx hb dX11_powerOfThree_11 ?_
  refine lv_topi (fun z1 hz1 => ?_)
  obtain rfl : z1 = 3 := hz1.trans (by decide)
  refine lv_istore_n (lv' := [(1, .int 3), (2, .int 0), (0, .int 1)]) hx hb dX11_powerOfThree_12 rfl hl (by decide) rfl (fun ls hl => ?_)
  refine lv_iinc (v := 1) (lv' := [(2, .int 1), (1, .int 3), (0, .int 1)]) hx hb dX11_powerOfThree_13 hl (k := 1) rfl (by decide) (by decide) rfl (fun ls hl => ?_)
  refine lv_goto (tgt := 4) hx hb dX11_powerOfThree_16 (by decide) ?_
  refine lv_iload_n hx hb dX11_powerOfThree_4 rfl (lv_at hl 0 rfl) ?_
  refine lv_iload_n hx hb dX11_powerOfThree_5 rfl (lv_at hl 2 rfl) ?_
  refine lv_icmp_ge (tgt := 19) hx hb dX11_powerOfThree_6 (by decide) (fun _ => ?_) (fun h9 => absurd h9 (by decide))
  refine lv_iload_n hx hb dX11_powerOfThree_19 rfl (lv_at hl 1 rfl) ?_
  exact W.iret (v := 3) hx hb hr (fun tZ ht hW => ⟨⟨3, (), rfl, rfl, by rw [ht]; exact hP.sub [] rfl, hD.sub [] (by decide) rfl⟩, hS.F ht⟩) hS.2.2 dX11_powerOfThree_20

set_option maxHeartbeats 4000000 in
set_option maxRecDepth 100000 in
theorem gr_pow2 (l : Launch) (D : va_G) (y : Nat → ClassId)   : kw_Mi l yX11_powerOfThree wsX11_powerOfThree ({ frames := 1, cells := 0, slots := 0, locals := 60 }) D y [.int 2] [] (fun (r : Int32) (u : Unit) => r = 9) (fun _ => []) 0 0 := by
  refine kw_Mi.of (cc := cX11_powerOfThree) (maxL := 3) (ret := (some .int)) (by decide) rfl ?_
  intro pZ eZ s mZ beZ meZ cZ A hE
  obtain ⟨hx, hb, hr, hml, hts, hown, hlocks, hin, hA, hP, hD, hK, hN⟩ := hE
  have hS : va_S A s.heap s.heap [] := va_S.rf
  have hl := lv_entry ([.int 2]) (n := 3) (Nat.le_of_ble_eq_true rfl)
  rw [lg_entry_eq]
  generalize (lg_sl ([.int 2]) ++ List.replicate (3 - (lg_sl ([.int 2])).length) Slot.unset).toArray = ls at hl ⊢
  have hl : lv_has ls 3 [(0, .int 2)] := hl
  refine lv_iconst (v := 1) hx hb dX11_powerOfThree_0 (by decide) ?_
  refine lv_istore_n (lv' := [(1, .int 1), (0, .int 2)]) hx hb dX11_powerOfThree_1 rfl hl (by decide) rfl (fun ls hl => ?_)
  refine lv_iconst (v := 0) hx hb dX11_powerOfThree_2 (by decide) ?_
  refine lv_istore_n (lv' := [(2, .int 0), (1, .int 1), (0, .int 2)]) hx hb dX11_powerOfThree_3 rfl hl (by decide) rfl (fun ls hl => ?_)
  refine lv_iload_n hx hb dX11_powerOfThree_4 rfl (lv_at hl 0 rfl) ?_
  refine lv_iload_n hx hb dX11_powerOfThree_5 rfl (lv_at hl 2 rfl) ?_
  refine lv_icmp_ge (tgt := 19) hx hb dX11_powerOfThree_6 (by decide) (fun h9 => absurd h9 (by decide)) (fun _ => ?_)
  refine lv_iload_n hx hb dX11_powerOfThree_9 rfl (lv_at hl 1 rfl) ?_
  refine lv_iconst (v := 3) hx hb dX11_powerOfThree_10 (by decide) ?_
  refine lv_imul hx hb dX11_powerOfThree_11 ?_
  refine lv_topi (fun z1 hz1 => ?_)
  obtain rfl : z1 = 3 := hz1.trans (by decide)
  refine lv_istore_n (lv' := [(1, .int 3), (2, .int 0), (0, .int 2)]) hx hb dX11_powerOfThree_12 rfl hl (by decide) rfl (fun ls hl => ?_)
  refine lv_iinc (v := 1) (lv' := [(2, .int 1), (1, .int 3), (0, .int 2)]) hx hb dX11_powerOfThree_13 hl (k := 1) rfl (by decide) (by decide) rfl (fun ls hl => ?_)
  refine lv_goto (tgt := 4) hx hb dX11_powerOfThree_16 (by decide) ?_
  refine lv_iload_n hx hb dX11_powerOfThree_4 rfl (lv_at hl 0 rfl) ?_
  refine lv_iload_n hx hb dX11_powerOfThree_5 rfl (lv_at hl 2 rfl) ?_
  refine lv_icmp_ge (tgt := 19) hx hb dX11_powerOfThree_6 (by decide) (fun h9 => absurd h9 (by decide)) (fun _ => ?_)
  refine lv_iload_n hx hb dX11_powerOfThree_9 rfl (lv_at hl 1 rfl) ?_
  refine lv_iconst (v := 3) hx hb dX11_powerOfThree_10 (by decide) ?_
  refine lv_imul hx hb dX11_powerOfThree_11 ?_
  refine lv_topi (fun z2 hz2 => ?_)
  obtain rfl : z2 = 9 := hz2.trans (by decide)
  refine lv_istore_n (lv' := [(1, .int 9), (2, .int 1), (0, .int 2)]) hx hb dX11_powerOfThree_12 rfl hl (by decide) rfl (fun ls hl => ?_)
  refine lv_iinc (v := 2) (lv' := [(2, .int 2), (1, .int 9), (0, .int 2)]) hx hb dX11_powerOfThree_13 hl (k := 1) rfl (by decide) (by decide) rfl (fun ls hl => ?_)
  refine lv_goto (tgt := 4) hx hb dX11_powerOfThree_16 (by decide) ?_
  refine lv_iload_n hx hb dX11_powerOfThree_4 rfl (lv_at hl 0 rfl) ?_
  refine lv_iload_n hx hb dX11_powerOfThree_5 rfl (lv_at hl 2 rfl) ?_
  refine lv_icmp_ge (tgt := 19) hx hb dX11_powerOfThree_6 (by decide) (fun _ => ?_) (fun h9 => absurd h9 (by decide))
  refine lv_iload_n hx hb dX11_powerOfThree_19 rfl (lv_at hl 1 rfl) ?_
  exact W.iret (v := 9) hx hb hr (fun tZ ht hW => ⟨⟨9, (), rfl, rfl, by rw [ht]; exact hP.sub [] rfl, hD.sub [] (by decide) rfl⟩, hS.F ht⟩) hS.2.2 dX11_powerOfThree_20

set_option maxHeartbeats 4000000 in
set_option maxRecDepth 100000 in
theorem gr_pow3 (l : Launch) (D : va_G) (y : Nat → ClassId)   : kw_Mi l yX11_powerOfThree wsX11_powerOfThree ({ frames := 1, cells := 0, slots := 0, locals := 60 }) D y [.int 3] [] (fun (r : Int32) (u : Unit) => r = 27) (fun _ => []) 0 0 := by
  refine kw_Mi.of (cc := cX11_powerOfThree) (maxL := 3) (ret := (some .int)) (by decide) rfl ?_
  intro pZ eZ s mZ beZ meZ cZ A hE
  obtain ⟨hx, hb, hr, hml, hts, hown, hlocks, hin, hA, hP, hD, hK, hN⟩ := hE
  have hS : va_S A s.heap s.heap [] := va_S.rf
  have hl := lv_entry ([.int 3]) (n := 3) (Nat.le_of_ble_eq_true rfl)
  rw [lg_entry_eq]
  generalize (lg_sl ([.int 3]) ++ List.replicate (3 - (lg_sl ([.int 3])).length) Slot.unset).toArray = ls at hl ⊢
  have hl : lv_has ls 3 [(0, .int 3)] := hl
  refine lv_iconst (v := 1) hx hb dX11_powerOfThree_0 (by decide) ?_
  refine lv_istore_n (lv' := [(1, .int 1), (0, .int 3)]) hx hb dX11_powerOfThree_1 rfl hl (by decide) rfl (fun ls hl => ?_)
  refine lv_iconst (v := 0) hx hb dX11_powerOfThree_2 (by decide) ?_
  refine lv_istore_n (lv' := [(2, .int 0), (1, .int 1), (0, .int 3)]) hx hb dX11_powerOfThree_3 rfl hl (by decide) rfl (fun ls hl => ?_)
  refine lv_iload_n hx hb dX11_powerOfThree_4 rfl (lv_at hl 0 rfl) ?_
  refine lv_iload_n hx hb dX11_powerOfThree_5 rfl (lv_at hl 2 rfl) ?_
  refine lv_icmp_ge (tgt := 19) hx hb dX11_powerOfThree_6 (by decide) (fun h9 => absurd h9 (by decide)) (fun _ => ?_)
  refine lv_iload_n hx hb dX11_powerOfThree_9 rfl (lv_at hl 1 rfl) ?_
  refine lv_iconst (v := 3) hx hb dX11_powerOfThree_10 (by decide) ?_
  refine lv_imul hx hb dX11_powerOfThree_11 ?_
  refine lv_topi (fun z1 hz1 => ?_)
  obtain rfl : z1 = 3 := hz1.trans (by decide)
  refine lv_istore_n (lv' := [(1, .int 3), (2, .int 0), (0, .int 3)]) hx hb dX11_powerOfThree_12 rfl hl (by decide) rfl (fun ls hl => ?_)
  refine lv_iinc (v := 1) (lv' := [(2, .int 1), (1, .int 3), (0, .int 3)]) hx hb dX11_powerOfThree_13 hl (k := 1) rfl (by decide) (by decide) rfl (fun ls hl => ?_)
  refine lv_goto (tgt := 4) hx hb dX11_powerOfThree_16 (by decide) ?_
  refine lv_iload_n hx hb dX11_powerOfThree_4 rfl (lv_at hl 0 rfl) ?_
  refine lv_iload_n hx hb dX11_powerOfThree_5 rfl (lv_at hl 2 rfl) ?_
  refine lv_icmp_ge (tgt := 19) hx hb dX11_powerOfThree_6 (by decide) (fun h9 => absurd h9 (by decide)) (fun _ => ?_)
  refine lv_iload_n hx hb dX11_powerOfThree_9 rfl (lv_at hl 1 rfl) ?_
  refine lv_iconst (v := 3) hx hb dX11_powerOfThree_10 (by decide) ?_
  refine lv_imul hx hb dX11_powerOfThree_11 ?_
  refine lv_topi (fun z2 hz2 => ?_)
  obtain rfl : z2 = 9 := hz2.trans (by decide)
  refine lv_istore_n (lv' := [(1, .int 9), (2, .int 1), (0, .int 3)]) hx hb dX11_powerOfThree_12 rfl hl (by decide) rfl (fun ls hl => ?_)
  refine lv_iinc (v := 2) (lv' := [(2, .int 2), (1, .int 9), (0, .int 3)]) hx hb dX11_powerOfThree_13 hl (k := 1) rfl (by decide) (by decide) rfl (fun ls hl => ?_)
  refine lv_goto (tgt := 4) hx hb dX11_powerOfThree_16 (by decide) ?_
  refine lv_iload_n hx hb dX11_powerOfThree_4 rfl (lv_at hl 0 rfl) ?_
  refine lv_iload_n hx hb dX11_powerOfThree_5 rfl (lv_at hl 2 rfl) ?_
  refine lv_icmp_ge (tgt := 19) hx hb dX11_powerOfThree_6 (by decide) (fun h9 => absurd h9 (by decide)) (fun _ => ?_)
  refine lv_iload_n hx hb dX11_powerOfThree_9 rfl (lv_at hl 1 rfl) ?_
  refine lv_iconst (v := 3) hx hb dX11_powerOfThree_10 (by decide) ?_
  refine lv_imul hx hb dX11_powerOfThree_11 ?_
  refine lv_topi (fun z3 hz3 => ?_)
  obtain rfl : z3 = 27 := hz3.trans (by decide)
  refine lv_istore_n (lv' := [(1, .int 27), (2, .int 2), (0, .int 3)]) hx hb dX11_powerOfThree_12 rfl hl (by decide) rfl (fun ls hl => ?_)
  refine lv_iinc (v := 3) (lv' := [(2, .int 3), (1, .int 27), (0, .int 3)]) hx hb dX11_powerOfThree_13 hl (k := 1) rfl (by decide) (by decide) rfl (fun ls hl => ?_)
  refine lv_goto (tgt := 4) hx hb dX11_powerOfThree_16 (by decide) ?_
  refine lv_iload_n hx hb dX11_powerOfThree_4 rfl (lv_at hl 0 rfl) ?_
  refine lv_iload_n hx hb dX11_powerOfThree_5 rfl (lv_at hl 2 rfl) ?_
  refine lv_icmp_ge (tgt := 19) hx hb dX11_powerOfThree_6 (by decide) (fun _ => ?_) (fun h9 => absurd h9 (by decide))
  refine lv_iload_n hx hb dX11_powerOfThree_19 rfl (lv_at hl 1 rfl) ?_
  exact W.iret (v := 27) hx hb hr (fun tZ ht hW => ⟨⟨27, (), rfl, rfl, by rw [ht]; exact hP.sub [] rfl, hD.sub [] (by decide) rfl⟩, hS.F ht⟩) hS.2.2 dX11_powerOfThree_20

set_option maxHeartbeats 4000000 in
set_option maxRecDepth 100000 in
theorem gr_pow4 (l : Launch) (D : va_G) (y : Nat → ClassId)   : kw_Mi l yX11_powerOfThree wsX11_powerOfThree ({ frames := 1, cells := 0, slots := 0, locals := 60 }) D y [.int 4] [] (fun (r : Int32) (u : Unit) => r = 81) (fun _ => []) 0 0 := by
  refine kw_Mi.of (cc := cX11_powerOfThree) (maxL := 3) (ret := (some .int)) (by decide) rfl ?_
  intro pZ eZ s mZ beZ meZ cZ A hE
  obtain ⟨hx, hb, hr, hml, hts, hown, hlocks, hin, hA, hP, hD, hK, hN⟩ := hE
  have hS : va_S A s.heap s.heap [] := va_S.rf
  have hl := lv_entry ([.int 4]) (n := 3) (Nat.le_of_ble_eq_true rfl)
  rw [lg_entry_eq]
  generalize (lg_sl ([.int 4]) ++ List.replicate (3 - (lg_sl ([.int 4])).length) Slot.unset).toArray = ls at hl ⊢
  have hl : lv_has ls 3 [(0, .int 4)] := hl
  refine lv_iconst (v := 1) hx hb dX11_powerOfThree_0 (by decide) ?_
  refine lv_istore_n (lv' := [(1, .int 1), (0, .int 4)]) hx hb dX11_powerOfThree_1 rfl hl (by decide) rfl (fun ls hl => ?_)
  refine lv_iconst (v := 0) hx hb dX11_powerOfThree_2 (by decide) ?_
  refine lv_istore_n (lv' := [(2, .int 0), (1, .int 1), (0, .int 4)]) hx hb dX11_powerOfThree_3 rfl hl (by decide) rfl (fun ls hl => ?_)
  refine lv_iload_n hx hb dX11_powerOfThree_4 rfl (lv_at hl 0 rfl) ?_
  refine lv_iload_n hx hb dX11_powerOfThree_5 rfl (lv_at hl 2 rfl) ?_
  refine lv_icmp_ge (tgt := 19) hx hb dX11_powerOfThree_6 (by decide) (fun h9 => absurd h9 (by decide)) (fun _ => ?_)
  refine lv_iload_n hx hb dX11_powerOfThree_9 rfl (lv_at hl 1 rfl) ?_
  refine lv_iconst (v := 3) hx hb dX11_powerOfThree_10 (by decide) ?_
  refine lv_imul hx hb dX11_powerOfThree_11 ?_
  refine lv_topi (fun z1 hz1 => ?_)
  obtain rfl : z1 = 3 := hz1.trans (by decide)
  refine lv_istore_n (lv' := [(1, .int 3), (2, .int 0), (0, .int 4)]) hx hb dX11_powerOfThree_12 rfl hl (by decide) rfl (fun ls hl => ?_)
  refine lv_iinc (v := 1) (lv' := [(2, .int 1), (1, .int 3), (0, .int 4)]) hx hb dX11_powerOfThree_13 hl (k := 1) rfl (by decide) (by decide) rfl (fun ls hl => ?_)
  refine lv_goto (tgt := 4) hx hb dX11_powerOfThree_16 (by decide) ?_
  refine lv_iload_n hx hb dX11_powerOfThree_4 rfl (lv_at hl 0 rfl) ?_
  refine lv_iload_n hx hb dX11_powerOfThree_5 rfl (lv_at hl 2 rfl) ?_
  refine lv_icmp_ge (tgt := 19) hx hb dX11_powerOfThree_6 (by decide) (fun h9 => absurd h9 (by decide)) (fun _ => ?_)
  refine lv_iload_n hx hb dX11_powerOfThree_9 rfl (lv_at hl 1 rfl) ?_
  refine lv_iconst (v := 3) hx hb dX11_powerOfThree_10 (by decide) ?_
  refine lv_imul hx hb dX11_powerOfThree_11 ?_
  refine lv_topi (fun z2 hz2 => ?_)
  obtain rfl : z2 = 9 := hz2.trans (by decide)
  refine lv_istore_n (lv' := [(1, .int 9), (2, .int 1), (0, .int 4)]) hx hb dX11_powerOfThree_12 rfl hl (by decide) rfl (fun ls hl => ?_)
  refine lv_iinc (v := 2) (lv' := [(2, .int 2), (1, .int 9), (0, .int 4)]) hx hb dX11_powerOfThree_13 hl (k := 1) rfl (by decide) (by decide) rfl (fun ls hl => ?_)
  refine lv_goto (tgt := 4) hx hb dX11_powerOfThree_16 (by decide) ?_
  refine lv_iload_n hx hb dX11_powerOfThree_4 rfl (lv_at hl 0 rfl) ?_
  refine lv_iload_n hx hb dX11_powerOfThree_5 rfl (lv_at hl 2 rfl) ?_
  refine lv_icmp_ge (tgt := 19) hx hb dX11_powerOfThree_6 (by decide) (fun h9 => absurd h9 (by decide)) (fun _ => ?_)
  refine lv_iload_n hx hb dX11_powerOfThree_9 rfl (lv_at hl 1 rfl) ?_
  refine lv_iconst (v := 3) hx hb dX11_powerOfThree_10 (by decide) ?_
  refine lv_imul hx hb dX11_powerOfThree_11 ?_
  refine lv_topi (fun z3 hz3 => ?_)
  obtain rfl : z3 = 27 := hz3.trans (by decide)
  refine lv_istore_n (lv' := [(1, .int 27), (2, .int 2), (0, .int 4)]) hx hb dX11_powerOfThree_12 rfl hl (by decide) rfl (fun ls hl => ?_)
  refine lv_iinc (v := 3) (lv' := [(2, .int 3), (1, .int 27), (0, .int 4)]) hx hb dX11_powerOfThree_13 hl (k := 1) rfl (by decide) (by decide) rfl (fun ls hl => ?_)
  refine lv_goto (tgt := 4) hx hb dX11_powerOfThree_16 (by decide) ?_
  refine lv_iload_n hx hb dX11_powerOfThree_4 rfl (lv_at hl 0 rfl) ?_
  refine lv_iload_n hx hb dX11_powerOfThree_5 rfl (lv_at hl 2 rfl) ?_
  refine lv_icmp_ge (tgt := 19) hx hb dX11_powerOfThree_6 (by decide) (fun h9 => absurd h9 (by decide)) (fun _ => ?_)
  refine lv_iload_n hx hb dX11_powerOfThree_9 rfl (lv_at hl 1 rfl) ?_
  refine lv_iconst (v := 3) hx hb dX11_powerOfThree_10 (by decide) ?_
  refine lv_imul hx hb dX11_powerOfThree_11 ?_
  refine lv_topi (fun z4 hz4 => ?_)
  obtain rfl : z4 = 81 := hz4.trans (by decide)
  refine lv_istore_n (lv' := [(1, .int 81), (2, .int 3), (0, .int 4)]) hx hb dX11_powerOfThree_12 rfl hl (by decide) rfl (fun ls hl => ?_)
  refine lv_iinc (v := 4) (lv' := [(2, .int 4), (1, .int 81), (0, .int 4)]) hx hb dX11_powerOfThree_13 hl (k := 1) rfl (by decide) (by decide) rfl (fun ls hl => ?_)
  refine lv_goto (tgt := 4) hx hb dX11_powerOfThree_16 (by decide) ?_
  refine lv_iload_n hx hb dX11_powerOfThree_4 rfl (lv_at hl 0 rfl) ?_
  refine lv_iload_n hx hb dX11_powerOfThree_5 rfl (lv_at hl 2 rfl) ?_
  refine lv_icmp_ge (tgt := 19) hx hb dX11_powerOfThree_6 (by decide) (fun _ => ?_) (fun h9 => absurd h9 (by decide))
  refine lv_iload_n hx hb dX11_powerOfThree_19 rfl (lv_at hl 1 rfl) ?_
  exact W.iret (v := 81) hx hb hr (fun tZ ht hW => ⟨⟨81, (), rfl, rfl, by rw [ht]; exact hP.sub [] rfl, hD.sub [] (by decide) rfl⟩, hS.F ht⟩) hS.2.2 dX11_powerOfThree_20

set_option maxHeartbeats 4000000 in
set_option maxRecDepth 100000 in
theorem gr_pow5 (l : Launch) (D : va_G) (y : Nat → ClassId)   : kw_Mi l yX11_powerOfThree wsX11_powerOfThree ({ frames := 1, cells := 0, slots := 0, locals := 60 }) D y [.int 5] [] (fun (r : Int32) (u : Unit) => r = 243) (fun _ => []) 0 0 := by
  refine kw_Mi.of (cc := cX11_powerOfThree) (maxL := 3) (ret := (some .int)) (by decide) rfl ?_
  intro pZ eZ s mZ beZ meZ cZ A hE
  obtain ⟨hx, hb, hr, hml, hts, hown, hlocks, hin, hA, hP, hD, hK, hN⟩ := hE
  have hS : va_S A s.heap s.heap [] := va_S.rf
  have hl := lv_entry ([.int 5]) (n := 3) (Nat.le_of_ble_eq_true rfl)
  rw [lg_entry_eq]
  generalize (lg_sl ([.int 5]) ++ List.replicate (3 - (lg_sl ([.int 5])).length) Slot.unset).toArray = ls at hl ⊢
  have hl : lv_has ls 3 [(0, .int 5)] := hl
  refine lv_iconst (v := 1) hx hb dX11_powerOfThree_0 (by decide) ?_
  refine lv_istore_n (lv' := [(1, .int 1), (0, .int 5)]) hx hb dX11_powerOfThree_1 rfl hl (by decide) rfl (fun ls hl => ?_)
  refine lv_iconst (v := 0) hx hb dX11_powerOfThree_2 (by decide) ?_
  refine lv_istore_n (lv' := [(2, .int 0), (1, .int 1), (0, .int 5)]) hx hb dX11_powerOfThree_3 rfl hl (by decide) rfl (fun ls hl => ?_)
  refine lv_iload_n hx hb dX11_powerOfThree_4 rfl (lv_at hl 0 rfl) ?_
  refine lv_iload_n hx hb dX11_powerOfThree_5 rfl (lv_at hl 2 rfl) ?_
  refine lv_icmp_ge (tgt := 19) hx hb dX11_powerOfThree_6 (by decide) (fun h9 => absurd h9 (by decide)) (fun _ => ?_)
  refine lv_iload_n hx hb dX11_powerOfThree_9 rfl (lv_at hl 1 rfl) ?_
  refine lv_iconst (v := 3) hx hb dX11_powerOfThree_10 (by decide) ?_
  refine lv_imul hx hb dX11_powerOfThree_11 ?_
  refine lv_topi (fun z1 hz1 => ?_)
  obtain rfl : z1 = 3 := hz1.trans (by decide)
  refine lv_istore_n (lv' := [(1, .int 3), (2, .int 0), (0, .int 5)]) hx hb dX11_powerOfThree_12 rfl hl (by decide) rfl (fun ls hl => ?_)
  refine lv_iinc (v := 1) (lv' := [(2, .int 1), (1, .int 3), (0, .int 5)]) hx hb dX11_powerOfThree_13 hl (k := 1) rfl (by decide) (by decide) rfl (fun ls hl => ?_)
  refine lv_goto (tgt := 4) hx hb dX11_powerOfThree_16 (by decide) ?_
  refine lv_iload_n hx hb dX11_powerOfThree_4 rfl (lv_at hl 0 rfl) ?_
  refine lv_iload_n hx hb dX11_powerOfThree_5 rfl (lv_at hl 2 rfl) ?_
  refine lv_icmp_ge (tgt := 19) hx hb dX11_powerOfThree_6 (by decide) (fun h9 => absurd h9 (by decide)) (fun _ => ?_)
  refine lv_iload_n hx hb dX11_powerOfThree_9 rfl (lv_at hl 1 rfl) ?_
  refine lv_iconst (v := 3) hx hb dX11_powerOfThree_10 (by decide) ?_
  refine lv_imul hx hb dX11_powerOfThree_11 ?_
  refine lv_topi (fun z2 hz2 => ?_)
  obtain rfl : z2 = 9 := hz2.trans (by decide)
  refine lv_istore_n (lv' := [(1, .int 9), (2, .int 1), (0, .int 5)]) hx hb dX11_powerOfThree_12 rfl hl (by decide) rfl (fun ls hl => ?_)
  refine lv_iinc (v := 2) (lv' := [(2, .int 2), (1, .int 9), (0, .int 5)]) hx hb dX11_powerOfThree_13 hl (k := 1) rfl (by decide) (by decide) rfl (fun ls hl => ?_)
  refine lv_goto (tgt := 4) hx hb dX11_powerOfThree_16 (by decide) ?_
  refine lv_iload_n hx hb dX11_powerOfThree_4 rfl (lv_at hl 0 rfl) ?_
  refine lv_iload_n hx hb dX11_powerOfThree_5 rfl (lv_at hl 2 rfl) ?_
  refine lv_icmp_ge (tgt := 19) hx hb dX11_powerOfThree_6 (by decide) (fun h9 => absurd h9 (by decide)) (fun _ => ?_)
  refine lv_iload_n hx hb dX11_powerOfThree_9 rfl (lv_at hl 1 rfl) ?_
  refine lv_iconst (v := 3) hx hb dX11_powerOfThree_10 (by decide) ?_
  refine lv_imul hx hb dX11_powerOfThree_11 ?_
  refine lv_topi (fun z3 hz3 => ?_)
  obtain rfl : z3 = 27 := hz3.trans (by decide)
  refine lv_istore_n (lv' := [(1, .int 27), (2, .int 2), (0, .int 5)]) hx hb dX11_powerOfThree_12 rfl hl (by decide) rfl (fun ls hl => ?_)
  refine lv_iinc (v := 3) (lv' := [(2, .int 3), (1, .int 27), (0, .int 5)]) hx hb dX11_powerOfThree_13 hl (k := 1) rfl (by decide) (by decide) rfl (fun ls hl => ?_)
  refine lv_goto (tgt := 4) hx hb dX11_powerOfThree_16 (by decide) ?_
  refine lv_iload_n hx hb dX11_powerOfThree_4 rfl (lv_at hl 0 rfl) ?_
  refine lv_iload_n hx hb dX11_powerOfThree_5 rfl (lv_at hl 2 rfl) ?_
  refine lv_icmp_ge (tgt := 19) hx hb dX11_powerOfThree_6 (by decide) (fun h9 => absurd h9 (by decide)) (fun _ => ?_)
  refine lv_iload_n hx hb dX11_powerOfThree_9 rfl (lv_at hl 1 rfl) ?_
  refine lv_iconst (v := 3) hx hb dX11_powerOfThree_10 (by decide) ?_
  refine lv_imul hx hb dX11_powerOfThree_11 ?_
  refine lv_topi (fun z4 hz4 => ?_)
  obtain rfl : z4 = 81 := hz4.trans (by decide)
  refine lv_istore_n (lv' := [(1, .int 81), (2, .int 3), (0, .int 5)]) hx hb dX11_powerOfThree_12 rfl hl (by decide) rfl (fun ls hl => ?_)
  refine lv_iinc (v := 4) (lv' := [(2, .int 4), (1, .int 81), (0, .int 5)]) hx hb dX11_powerOfThree_13 hl (k := 1) rfl (by decide) (by decide) rfl (fun ls hl => ?_)
  refine lv_goto (tgt := 4) hx hb dX11_powerOfThree_16 (by decide) ?_
  refine lv_iload_n hx hb dX11_powerOfThree_4 rfl (lv_at hl 0 rfl) ?_
  refine lv_iload_n hx hb dX11_powerOfThree_5 rfl (lv_at hl 2 rfl) ?_
  refine lv_icmp_ge (tgt := 19) hx hb dX11_powerOfThree_6 (by decide) (fun h9 => absurd h9 (by decide)) (fun _ => ?_)
  refine lv_iload_n hx hb dX11_powerOfThree_9 rfl (lv_at hl 1 rfl) ?_
  refine lv_iconst (v := 3) hx hb dX11_powerOfThree_10 (by decide) ?_
  refine lv_imul hx hb dX11_powerOfThree_11 ?_
  refine lv_topi (fun z5 hz5 => ?_)
  obtain rfl : z5 = 243 := hz5.trans (by decide)
  refine lv_istore_n (lv' := [(1, .int 243), (2, .int 4), (0, .int 5)]) hx hb dX11_powerOfThree_12 rfl hl (by decide) rfl (fun ls hl => ?_)
  refine lv_iinc (v := 5) (lv' := [(2, .int 5), (1, .int 243), (0, .int 5)]) hx hb dX11_powerOfThree_13 hl (k := 1) rfl (by decide) (by decide) rfl (fun ls hl => ?_)
  refine lv_goto (tgt := 4) hx hb dX11_powerOfThree_16 (by decide) ?_
  refine lv_iload_n hx hb dX11_powerOfThree_4 rfl (lv_at hl 0 rfl) ?_
  refine lv_iload_n hx hb dX11_powerOfThree_5 rfl (lv_at hl 2 rfl) ?_
  refine lv_icmp_ge (tgt := 19) hx hb dX11_powerOfThree_6 (by decide) (fun _ => ?_) (fun h9 => absurd h9 (by decide))
  refine lv_iload_n hx hb dX11_powerOfThree_19 rfl (lv_at hl 1 rfl) ?_
  exact W.iret (v := 243) hx hb hr (fun tZ ht hW => ⟨⟨243, (), rfl, rfl, by rw [ht]; exact hP.sub [] rfl, hD.sub [] (by decide) rfl⟩, hS.F ht⟩) hS.2.2 dX11_powerOfThree_20

set_option maxHeartbeats 4000000 in
set_option maxRecDepth 100000 in
theorem gr_pow6 (l : Launch) (D : va_G) (y : Nat → ClassId)   : kw_Mi l yX11_powerOfThree wsX11_powerOfThree ({ frames := 1, cells := 0, slots := 0, locals := 60 }) D y [.int 6] [] (fun (r : Int32) (u : Unit) => r = 729) (fun _ => []) 0 0 := by
  refine kw_Mi.of (cc := cX11_powerOfThree) (maxL := 3) (ret := (some .int)) (by decide) rfl ?_
  intro pZ eZ s mZ beZ meZ cZ A hE
  obtain ⟨hx, hb, hr, hml, hts, hown, hlocks, hin, hA, hP, hD, hK, hN⟩ := hE
  have hS : va_S A s.heap s.heap [] := va_S.rf
  have hl := lv_entry ([.int 6]) (n := 3) (Nat.le_of_ble_eq_true rfl)
  rw [lg_entry_eq]
  generalize (lg_sl ([.int 6]) ++ List.replicate (3 - (lg_sl ([.int 6])).length) Slot.unset).toArray = ls at hl ⊢
  have hl : lv_has ls 3 [(0, .int 6)] := hl
  refine lv_iconst (v := 1) hx hb dX11_powerOfThree_0 (by decide) ?_
  refine lv_istore_n (lv' := [(1, .int 1), (0, .int 6)]) hx hb dX11_powerOfThree_1 rfl hl (by decide) rfl (fun ls hl => ?_)
  refine lv_iconst (v := 0) hx hb dX11_powerOfThree_2 (by decide) ?_
  refine lv_istore_n (lv' := [(2, .int 0), (1, .int 1), (0, .int 6)]) hx hb dX11_powerOfThree_3 rfl hl (by decide) rfl (fun ls hl => ?_)
  refine lv_iload_n hx hb dX11_powerOfThree_4 rfl (lv_at hl 0 rfl) ?_
  refine lv_iload_n hx hb dX11_powerOfThree_5 rfl (lv_at hl 2 rfl) ?_
  refine lv_icmp_ge (tgt := 19) hx hb dX11_powerOfThree_6 (by decide) (fun h9 => absurd h9 (by decide)) (fun _ => ?_)
  refine lv_iload_n hx hb dX11_powerOfThree_9 rfl (lv_at hl 1 rfl) ?_
  refine lv_iconst (v := 3) hx hb dX11_powerOfThree_10 (by decide) ?_
  refine lv_imul hx hb dX11_powerOfThree_11 ?_
  refine lv_topi (fun z1 hz1 => ?_)
  obtain rfl : z1 = 3 := hz1.trans (by decide)
  refine lv_istore_n (lv' := [(1, .int 3), (2, .int 0), (0, .int 6)]) hx hb dX11_powerOfThree_12 rfl hl (by decide) rfl (fun ls hl => ?_)
  refine lv_iinc (v := 1) (lv' := [(2, .int 1), (1, .int 3), (0, .int 6)]) hx hb dX11_powerOfThree_13 hl (k := 1) rfl (by decide) (by decide) rfl (fun ls hl => ?_)
  refine lv_goto (tgt := 4) hx hb dX11_powerOfThree_16 (by decide) ?_
  refine lv_iload_n hx hb dX11_powerOfThree_4 rfl (lv_at hl 0 rfl) ?_
  refine lv_iload_n hx hb dX11_powerOfThree_5 rfl (lv_at hl 2 rfl) ?_
  refine lv_icmp_ge (tgt := 19) hx hb dX11_powerOfThree_6 (by decide) (fun h9 => absurd h9 (by decide)) (fun _ => ?_)
  refine lv_iload_n hx hb dX11_powerOfThree_9 rfl (lv_at hl 1 rfl) ?_
  refine lv_iconst (v := 3) hx hb dX11_powerOfThree_10 (by decide) ?_
  refine lv_imul hx hb dX11_powerOfThree_11 ?_
  refine lv_topi (fun z2 hz2 => ?_)
  obtain rfl : z2 = 9 := hz2.trans (by decide)
  refine lv_istore_n (lv' := [(1, .int 9), (2, .int 1), (0, .int 6)]) hx hb dX11_powerOfThree_12 rfl hl (by decide) rfl (fun ls hl => ?_)
  refine lv_iinc (v := 2) (lv' := [(2, .int 2), (1, .int 9), (0, .int 6)]) hx hb dX11_powerOfThree_13 hl (k := 1) rfl (by decide) (by decide) rfl (fun ls hl => ?_)
  refine lv_goto (tgt := 4) hx hb dX11_powerOfThree_16 (by decide) ?_
  refine lv_iload_n hx hb dX11_powerOfThree_4 rfl (lv_at hl 0 rfl) ?_
  refine lv_iload_n hx hb dX11_powerOfThree_5 rfl (lv_at hl 2 rfl) ?_
  refine lv_icmp_ge (tgt := 19) hx hb dX11_powerOfThree_6 (by decide) (fun h9 => absurd h9 (by decide)) (fun _ => ?_)
  refine lv_iload_n hx hb dX11_powerOfThree_9 rfl (lv_at hl 1 rfl) ?_
  refine lv_iconst (v := 3) hx hb dX11_powerOfThree_10 (by decide) ?_
  refine lv_imul hx hb dX11_powerOfThree_11 ?_
  refine lv_topi (fun z3 hz3 => ?_)
  obtain rfl : z3 = 27 := hz3.trans (by decide)
  refine lv_istore_n (lv' := [(1, .int 27), (2, .int 2), (0, .int 6)]) hx hb dX11_powerOfThree_12 rfl hl (by decide) rfl (fun ls hl => ?_)
  refine lv_iinc (v := 3) (lv' := [(2, .int 3), (1, .int 27), (0, .int 6)]) hx hb dX11_powerOfThree_13 hl (k := 1) rfl (by decide) (by decide) rfl (fun ls hl => ?_)
  refine lv_goto (tgt := 4) hx hb dX11_powerOfThree_16 (by decide) ?_
  refine lv_iload_n hx hb dX11_powerOfThree_4 rfl (lv_at hl 0 rfl) ?_
  refine lv_iload_n hx hb dX11_powerOfThree_5 rfl (lv_at hl 2 rfl) ?_
  refine lv_icmp_ge (tgt := 19) hx hb dX11_powerOfThree_6 (by decide) (fun h9 => absurd h9 (by decide)) (fun _ => ?_)
  refine lv_iload_n hx hb dX11_powerOfThree_9 rfl (lv_at hl 1 rfl) ?_
  refine lv_iconst (v := 3) hx hb dX11_powerOfThree_10 (by decide) ?_
  refine lv_imul hx hb dX11_powerOfThree_11 ?_
  refine lv_topi (fun z4 hz4 => ?_)
  obtain rfl : z4 = 81 := hz4.trans (by decide)
  refine lv_istore_n (lv' := [(1, .int 81), (2, .int 3), (0, .int 6)]) hx hb dX11_powerOfThree_12 rfl hl (by decide) rfl (fun ls hl => ?_)
  refine lv_iinc (v := 4) (lv' := [(2, .int 4), (1, .int 81), (0, .int 6)]) hx hb dX11_powerOfThree_13 hl (k := 1) rfl (by decide) (by decide) rfl (fun ls hl => ?_)
  refine lv_goto (tgt := 4) hx hb dX11_powerOfThree_16 (by decide) ?_
  refine lv_iload_n hx hb dX11_powerOfThree_4 rfl (lv_at hl 0 rfl) ?_
  refine lv_iload_n hx hb dX11_powerOfThree_5 rfl (lv_at hl 2 rfl) ?_
  refine lv_icmp_ge (tgt := 19) hx hb dX11_powerOfThree_6 (by decide) (fun h9 => absurd h9 (by decide)) (fun _ => ?_)
  refine lv_iload_n hx hb dX11_powerOfThree_9 rfl (lv_at hl 1 rfl) ?_
  refine lv_iconst (v := 3) hx hb dX11_powerOfThree_10 (by decide) ?_
  refine lv_imul hx hb dX11_powerOfThree_11 ?_
  refine lv_topi (fun z5 hz5 => ?_)
  obtain rfl : z5 = 243 := hz5.trans (by decide)
  refine lv_istore_n (lv' := [(1, .int 243), (2, .int 4), (0, .int 6)]) hx hb dX11_powerOfThree_12 rfl hl (by decide) rfl (fun ls hl => ?_)
  refine lv_iinc (v := 5) (lv' := [(2, .int 5), (1, .int 243), (0, .int 6)]) hx hb dX11_powerOfThree_13 hl (k := 1) rfl (by decide) (by decide) rfl (fun ls hl => ?_)
  refine lv_goto (tgt := 4) hx hb dX11_powerOfThree_16 (by decide) ?_
  refine lv_iload_n hx hb dX11_powerOfThree_4 rfl (lv_at hl 0 rfl) ?_
  refine lv_iload_n hx hb dX11_powerOfThree_5 rfl (lv_at hl 2 rfl) ?_
  refine lv_icmp_ge (tgt := 19) hx hb dX11_powerOfThree_6 (by decide) (fun h9 => absurd h9 (by decide)) (fun _ => ?_)
  refine lv_iload_n hx hb dX11_powerOfThree_9 rfl (lv_at hl 1 rfl) ?_
  refine lv_iconst (v := 3) hx hb dX11_powerOfThree_10 (by decide) ?_
  refine lv_imul hx hb dX11_powerOfThree_11 ?_
  refine lv_topi (fun z6 hz6 => ?_)
  obtain rfl : z6 = 729 := hz6.trans (by decide)
  refine lv_istore_n (lv' := [(1, .int 729), (2, .int 5), (0, .int 6)]) hx hb dX11_powerOfThree_12 rfl hl (by decide) rfl (fun ls hl => ?_)
  refine lv_iinc (v := 6) (lv' := [(2, .int 6), (1, .int 729), (0, .int 6)]) hx hb dX11_powerOfThree_13 hl (k := 1) rfl (by decide) (by decide) rfl (fun ls hl => ?_)
  refine lv_goto (tgt := 4) hx hb dX11_powerOfThree_16 (by decide) ?_
  refine lv_iload_n hx hb dX11_powerOfThree_4 rfl (lv_at hl 0 rfl) ?_
  refine lv_iload_n hx hb dX11_powerOfThree_5 rfl (lv_at hl 2 rfl) ?_
  refine lv_icmp_ge (tgt := 19) hx hb dX11_powerOfThree_6 (by decide) (fun _ => ?_) (fun h9 => absurd h9 (by decide))
  refine lv_iload_n hx hb dX11_powerOfThree_19 rfl (lv_at hl 1 rfl) ?_
  exact W.iret (v := 729) hx hb hr (fun tZ ht hW => ⟨⟨729, (), rfl, rfl, by rw [ht]; exact hP.sub [] rfl, hD.sub [] (by decide) rfl⟩, hS.F ht⟩) hS.2.2 dX11_powerOfThree_20

set_option maxHeartbeats 4000000 in
set_option maxRecDepth 100000 in
theorem gr_pow (l : Launch) (D : va_G) (y : Nat → ClassId) (k : Nat) (hA1 : k < 7) : kw_Mi l yX11_powerOfThree wsX11_powerOfThree ({ frames := 1, cells := 0, slots := 0, locals := 60 }) D y [.int (nI k)] [] (fun (r : Int32) (u : Unit) => kr_pos r) (fun _ => []) 0 0 := by
  refine kw_Mi.of (cc := cX11_powerOfThree) (maxL := 3) (ret := (some .int)) (by decide) rfl ?_
  intro pZ eZ s mZ beZ meZ cZ A hE
  obtain ⟨hx, hb, hr, hml, hts, hown, hlocks, hin, hA, hP, hD, hK, hN⟩ := hE
  have hS : va_S A s.heap s.heap [] := va_S.rf
  have hl := lv_entry ([.int (nI k)]) (n := 3) (Nat.le_of_ble_eq_true rfl)
  rw [lg_entry_eq]
  generalize (lg_sl ([.int (nI k)]) ++ List.replicate (3 - (lg_sl ([.int (nI k)])).length) Slot.unset).toArray = ls at hl ⊢
  have hl : lv_has ls 3 [(0, .int (nI k))] := hl
  rcases (show k = 0 ∨ k = 1 ∨ k = 2 ∨ k = 3 ∨ k = 4 ∨ k = 5 ∨ k = 6 by omega) with rfl | rfl | rfl | rfl | rfl | rfl | rfl
  · skip
    refine lv_iconst (v := 1) hx hb dX11_powerOfThree_0 (by decide) ?_
    refine lv_istore_n (lv' := [(1, .int 1), (0, .int (nI 0))]) hx hb dX11_powerOfThree_1 rfl hl (by decide) rfl (fun ls hl => ?_)
    refine lv_iconst (v := 0) hx hb dX11_powerOfThree_2 (by decide) ?_
    refine lv_istore_n (lv' := [(2, .int 0), (1, .int 1), (0, .int (nI 0))]) hx hb dX11_powerOfThree_3 rfl hl (by decide) rfl (fun ls hl => ?_)
    refine lv_iload_n hx hb dX11_powerOfThree_4 rfl (lv_at hl 0 rfl) ?_
    refine lv_iload_n hx hb dX11_powerOfThree_5 rfl (lv_at hl 2 rfl) ?_
    refine lv_icmp_ge (tgt := 19) hx hb dX11_powerOfThree_6 (by decide) (fun h1 => ?_) (fun h2 => ?_)
    · skip
      have h1 : 0 ≤ 0 := (nI_leI (a := 0) (b := 0) (by omega) (by omega)).mp h1
      refine lv_iload_n hx hb dX11_powerOfThree_19 rfl (lv_at hl 1 rfl) ?_
      exact W.iret (v := 1) hx hb hr (fun tZ ht hW => ⟨⟨1, (), rfl, (show ¬ (1 : Int32) = 0 from by decide), by rw [ht]; exact hP.sub [] rfl, hD.sub [] (by decide) rfl⟩, hS.F ht⟩) hS.2.2 dX11_powerOfThree_20
    · skip
      have h2 : ¬ 0 ≤ 0 := fun q9 => h2 ((nI_leI (a := 0) (b := 0) (by omega) (by omega)).mpr q9)
      exact absurd h2 (by omega)
  · skip
    refine lv_iconst (v := 1) hx hb dX11_powerOfThree_0 (by decide) ?_
    refine lv_istore_n (lv' := [(1, .int 1), (0, .int (nI 1))]) hx hb dX11_powerOfThree_1 rfl hl (by decide) rfl (fun ls hl => ?_)
    refine lv_iconst (v := 0) hx hb dX11_powerOfThree_2 (by decide) ?_
    refine lv_istore_n (lv' := [(2, .int 0), (1, .int 1), (0, .int (nI 1))]) hx hb dX11_powerOfThree_3 rfl hl (by decide) rfl (fun ls hl => ?_)
    refine lv_iload_n hx hb dX11_powerOfThree_4 rfl (lv_at hl 0 rfl) ?_
    refine lv_iload_n hx hb dX11_powerOfThree_5 rfl (lv_at hl 2 rfl) ?_
    refine lv_icmp_ge (tgt := 19) hx hb dX11_powerOfThree_6 (by decide) (fun h3 => ?_) (fun h4 => ?_)
    · skip
      have h3 : 1 ≤ 0 := (nI_leI (a := 1) (b := 0) (by omega) (by omega)).mp h3
      exact absurd h3 (by omega)
    · skip
      have h4 : ¬ 1 ≤ 0 := fun q9 => h4 ((nI_leI (a := 1) (b := 0) (by omega) (by omega)).mpr q9)
      refine lv_iload_n hx hb dX11_powerOfThree_9 rfl (lv_at hl 1 rfl) ?_
      refine lv_iconst (v := 3) hx hb dX11_powerOfThree_10 (by decide) ?_
      refine lv_imul hx hb dX11_powerOfThree_11 ?_
      refine lv_topi (fun z5 hz5 => ?_)
      obtain rfl : z5 = 3 := hz5.trans (by decide)
      refine lv_istore_n (lv' := [(1, .int 3), (2, .int 0), (0, .int (nI 1))]) hx hb dX11_powerOfThree_12 rfl hl (by decide) rfl (fun ls hl => ?_)
      refine lv_iinc (v := 1) (lv' := [(2, .int 1), (1, .int 3), (0, .int (nI 1))]) hx hb dX11_powerOfThree_13 hl (k := 1) rfl (by decide) (by decide) rfl (fun ls hl => ?_)
      refine lv_goto (tgt := 4) hx hb dX11_powerOfThree_16 (by decide) ?_
      refine lv_iload_n hx hb dX11_powerOfThree_4 rfl (lv_at hl 0 rfl) ?_
      refine lv_iload_n hx hb dX11_powerOfThree_5 rfl (lv_at hl 2 rfl) ?_
      refine lv_icmp_ge (tgt := 19) hx hb dX11_powerOfThree_6 (by decide) (fun h6 => ?_) (fun h7 => ?_)
      · skip
        have h6 : 1 ≤ 1 := (nI_leI (a := 1) (b := 1) (by omega) (by omega)).mp h6
        refine lv_iload_n hx hb dX11_powerOfThree_19 rfl (lv_at hl 1 rfl) ?_
        exact W.iret (v := 3) hx hb hr (fun tZ ht hW => ⟨⟨3, (), rfl, (show ¬ (3 : Int32) = 0 from by decide), by rw [ht]; exact hP.sub [] rfl, hD.sub [] (by decide) rfl⟩, hS.F ht⟩) hS.2.2 dX11_powerOfThree_20
      · skip
        have h7 : ¬ 1 ≤ 1 := fun q9 => h7 ((nI_leI (a := 1) (b := 1) (by omega) (by omega)).mpr q9)
        exact absurd h7 (by omega)
  · skip
    refine lv_iconst (v := 1) hx hb dX11_powerOfThree_0 (by decide) ?_
    refine lv_istore_n (lv' := [(1, .int 1), (0, .int (nI 2))]) hx hb dX11_powerOfThree_1 rfl hl (by decide) rfl (fun ls hl => ?_)
    refine lv_iconst (v := 0) hx hb dX11_powerOfThree_2 (by decide) ?_
    refine lv_istore_n (lv' := [(2, .int 0), (1, .int 1), (0, .int (nI 2))]) hx hb dX11_powerOfThree_3 rfl hl (by decide) rfl (fun ls hl => ?_)
    refine lv_iload_n hx hb dX11_powerOfThree_4 rfl (lv_at hl 0 rfl) ?_
    refine lv_iload_n hx hb dX11_powerOfThree_5 rfl (lv_at hl 2 rfl) ?_
    refine lv_icmp_ge (tgt := 19) hx hb dX11_powerOfThree_6 (by decide) (fun h8 => ?_) (fun h9 => ?_)
    · skip
      have h8 : 2 ≤ 0 := (nI_leI (a := 2) (b := 0) (by omega) (by omega)).mp h8
      exact absurd h8 (by omega)
    · skip
      have h9 : ¬ 2 ≤ 0 := fun q9 => h9 ((nI_leI (a := 2) (b := 0) (by omega) (by omega)).mpr q9)
      refine lv_iload_n hx hb dX11_powerOfThree_9 rfl (lv_at hl 1 rfl) ?_
      refine lv_iconst (v := 3) hx hb dX11_powerOfThree_10 (by decide) ?_
      refine lv_imul hx hb dX11_powerOfThree_11 ?_
      refine lv_topi (fun z10 hz10 => ?_)
      obtain rfl : z10 = 3 := hz10.trans (by decide)
      refine lv_istore_n (lv' := [(1, .int 3), (2, .int 0), (0, .int (nI 2))]) hx hb dX11_powerOfThree_12 rfl hl (by decide) rfl (fun ls hl => ?_)
      refine lv_iinc (v := 1) (lv' := [(2, .int 1), (1, .int 3), (0, .int (nI 2))]) hx hb dX11_powerOfThree_13 hl (k := 1) rfl (by decide) (by decide) rfl (fun ls hl => ?_)
      refine lv_goto (tgt := 4) hx hb dX11_powerOfThree_16 (by decide) ?_
      refine lv_iload_n hx hb dX11_powerOfThree_4 rfl (lv_at hl 0 rfl) ?_
      refine lv_iload_n hx hb dX11_powerOfThree_5 rfl (lv_at hl 2 rfl) ?_
      refine lv_icmp_ge (tgt := 19) hx hb dX11_powerOfThree_6 (by decide) (fun h11 => ?_) (fun h12 => ?_)
      · skip
        have h11 : 2 ≤ 1 := (nI_leI (a := 2) (b := 1) (by omega) (by omega)).mp h11
        exact absurd h11 (by omega)
      · skip
        have h12 : ¬ 2 ≤ 1 := fun q9 => h12 ((nI_leI (a := 2) (b := 1) (by omega) (by omega)).mpr q9)
        refine lv_iload_n hx hb dX11_powerOfThree_9 rfl (lv_at hl 1 rfl) ?_
        refine lv_iconst (v := 3) hx hb dX11_powerOfThree_10 (by decide) ?_
        refine lv_imul hx hb dX11_powerOfThree_11 ?_
        refine lv_topi (fun z13 hz13 => ?_)
        obtain rfl : z13 = 9 := hz13.trans (by decide)
        refine lv_istore_n (lv' := [(1, .int 9), (2, .int 1), (0, .int (nI 2))]) hx hb dX11_powerOfThree_12 rfl hl (by decide) rfl (fun ls hl => ?_)
        refine lv_iinc (v := 2) (lv' := [(2, .int 2), (1, .int 9), (0, .int (nI 2))]) hx hb dX11_powerOfThree_13 hl (k := 1) rfl (by decide) (by decide) rfl (fun ls hl => ?_)
        refine lv_goto (tgt := 4) hx hb dX11_powerOfThree_16 (by decide) ?_
        refine lv_iload_n hx hb dX11_powerOfThree_4 rfl (lv_at hl 0 rfl) ?_
        refine lv_iload_n hx hb dX11_powerOfThree_5 rfl (lv_at hl 2 rfl) ?_
        refine lv_icmp_ge (tgt := 19) hx hb dX11_powerOfThree_6 (by decide) (fun h14 => ?_) (fun h15 => ?_)
        · skip
          have h14 : 2 ≤ 2 := (nI_leI (a := 2) (b := 2) (by omega) (by omega)).mp h14
          refine lv_iload_n hx hb dX11_powerOfThree_19 rfl (lv_at hl 1 rfl) ?_
          exact W.iret (v := 9) hx hb hr (fun tZ ht hW => ⟨⟨9, (), rfl, (show ¬ (9 : Int32) = 0 from by decide), by rw [ht]; exact hP.sub [] rfl, hD.sub [] (by decide) rfl⟩, hS.F ht⟩) hS.2.2 dX11_powerOfThree_20
        · skip
          have h15 : ¬ 2 ≤ 2 := fun q9 => h15 ((nI_leI (a := 2) (b := 2) (by omega) (by omega)).mpr q9)
          exact absurd h15 (by omega)
  · skip
    refine lv_iconst (v := 1) hx hb dX11_powerOfThree_0 (by decide) ?_
    refine lv_istore_n (lv' := [(1, .int 1), (0, .int (nI 3))]) hx hb dX11_powerOfThree_1 rfl hl (by decide) rfl (fun ls hl => ?_)
    refine lv_iconst (v := 0) hx hb dX11_powerOfThree_2 (by decide) ?_
    refine lv_istore_n (lv' := [(2, .int 0), (1, .int 1), (0, .int (nI 3))]) hx hb dX11_powerOfThree_3 rfl hl (by decide) rfl (fun ls hl => ?_)
    refine lv_iload_n hx hb dX11_powerOfThree_4 rfl (lv_at hl 0 rfl) ?_
    refine lv_iload_n hx hb dX11_powerOfThree_5 rfl (lv_at hl 2 rfl) ?_
    refine lv_icmp_ge (tgt := 19) hx hb dX11_powerOfThree_6 (by decide) (fun h16 => ?_) (fun h17 => ?_)
    · skip
      have h16 : 3 ≤ 0 := (nI_leI (a := 3) (b := 0) (by omega) (by omega)).mp h16
      exact absurd h16 (by omega)
    · skip
      have h17 : ¬ 3 ≤ 0 := fun q9 => h17 ((nI_leI (a := 3) (b := 0) (by omega) (by omega)).mpr q9)
      refine lv_iload_n hx hb dX11_powerOfThree_9 rfl (lv_at hl 1 rfl) ?_
      refine lv_iconst (v := 3) hx hb dX11_powerOfThree_10 (by decide) ?_
      refine lv_imul hx hb dX11_powerOfThree_11 ?_
      refine lv_topi (fun z18 hz18 => ?_)
      obtain rfl : z18 = 3 := hz18.trans (by decide)
      refine lv_istore_n (lv' := [(1, .int 3), (2, .int 0), (0, .int (nI 3))]) hx hb dX11_powerOfThree_12 rfl hl (by decide) rfl (fun ls hl => ?_)
      refine lv_iinc (v := 1) (lv' := [(2, .int 1), (1, .int 3), (0, .int (nI 3))]) hx hb dX11_powerOfThree_13 hl (k := 1) rfl (by decide) (by decide) rfl (fun ls hl => ?_)
      refine lv_goto (tgt := 4) hx hb dX11_powerOfThree_16 (by decide) ?_
      refine lv_iload_n hx hb dX11_powerOfThree_4 rfl (lv_at hl 0 rfl) ?_
      refine lv_iload_n hx hb dX11_powerOfThree_5 rfl (lv_at hl 2 rfl) ?_
      refine lv_icmp_ge (tgt := 19) hx hb dX11_powerOfThree_6 (by decide) (fun h19 => ?_) (fun h20 => ?_)
      · skip
        have h19 : 3 ≤ 1 := (nI_leI (a := 3) (b := 1) (by omega) (by omega)).mp h19
        exact absurd h19 (by omega)
      · skip
        have h20 : ¬ 3 ≤ 1 := fun q9 => h20 ((nI_leI (a := 3) (b := 1) (by omega) (by omega)).mpr q9)
        refine lv_iload_n hx hb dX11_powerOfThree_9 rfl (lv_at hl 1 rfl) ?_
        refine lv_iconst (v := 3) hx hb dX11_powerOfThree_10 (by decide) ?_
        refine lv_imul hx hb dX11_powerOfThree_11 ?_
        refine lv_topi (fun z21 hz21 => ?_)
        obtain rfl : z21 = 9 := hz21.trans (by decide)
        refine lv_istore_n (lv' := [(1, .int 9), (2, .int 1), (0, .int (nI 3))]) hx hb dX11_powerOfThree_12 rfl hl (by decide) rfl (fun ls hl => ?_)
        refine lv_iinc (v := 2) (lv' := [(2, .int 2), (1, .int 9), (0, .int (nI 3))]) hx hb dX11_powerOfThree_13 hl (k := 1) rfl (by decide) (by decide) rfl (fun ls hl => ?_)
        refine lv_goto (tgt := 4) hx hb dX11_powerOfThree_16 (by decide) ?_
        refine lv_iload_n hx hb dX11_powerOfThree_4 rfl (lv_at hl 0 rfl) ?_
        refine lv_iload_n hx hb dX11_powerOfThree_5 rfl (lv_at hl 2 rfl) ?_
        refine lv_icmp_ge (tgt := 19) hx hb dX11_powerOfThree_6 (by decide) (fun h22 => ?_) (fun h23 => ?_)
        · skip
          have h22 : 3 ≤ 2 := (nI_leI (a := 3) (b := 2) (by omega) (by omega)).mp h22
          exact absurd h22 (by omega)
        · skip
          have h23 : ¬ 3 ≤ 2 := fun q9 => h23 ((nI_leI (a := 3) (b := 2) (by omega) (by omega)).mpr q9)
          refine lv_iload_n hx hb dX11_powerOfThree_9 rfl (lv_at hl 1 rfl) ?_
          refine lv_iconst (v := 3) hx hb dX11_powerOfThree_10 (by decide) ?_
          refine lv_imul hx hb dX11_powerOfThree_11 ?_
          refine lv_topi (fun z24 hz24 => ?_)
          obtain rfl : z24 = 27 := hz24.trans (by decide)
          refine lv_istore_n (lv' := [(1, .int 27), (2, .int 2), (0, .int (nI 3))]) hx hb dX11_powerOfThree_12 rfl hl (by decide) rfl (fun ls hl => ?_)
          refine lv_iinc (v := 3) (lv' := [(2, .int 3), (1, .int 27), (0, .int (nI 3))]) hx hb dX11_powerOfThree_13 hl (k := 1) rfl (by decide) (by decide) rfl (fun ls hl => ?_)
          refine lv_goto (tgt := 4) hx hb dX11_powerOfThree_16 (by decide) ?_
          refine lv_iload_n hx hb dX11_powerOfThree_4 rfl (lv_at hl 0 rfl) ?_
          refine lv_iload_n hx hb dX11_powerOfThree_5 rfl (lv_at hl 2 rfl) ?_
          refine lv_icmp_ge (tgt := 19) hx hb dX11_powerOfThree_6 (by decide) (fun h25 => ?_) (fun h26 => ?_)
          · skip
            have h25 : 3 ≤ 3 := (nI_leI (a := 3) (b := 3) (by omega) (by omega)).mp h25
            refine lv_iload_n hx hb dX11_powerOfThree_19 rfl (lv_at hl 1 rfl) ?_
            exact W.iret (v := 27) hx hb hr (fun tZ ht hW => ⟨⟨27, (), rfl, (show ¬ (27 : Int32) = 0 from by decide), by rw [ht]; exact hP.sub [] rfl, hD.sub [] (by decide) rfl⟩, hS.F ht⟩) hS.2.2 dX11_powerOfThree_20
          · skip
            have h26 : ¬ 3 ≤ 3 := fun q9 => h26 ((nI_leI (a := 3) (b := 3) (by omega) (by omega)).mpr q9)
            exact absurd h26 (by omega)
  · skip
    refine lv_iconst (v := 1) hx hb dX11_powerOfThree_0 (by decide) ?_
    refine lv_istore_n (lv' := [(1, .int 1), (0, .int (nI 4))]) hx hb dX11_powerOfThree_1 rfl hl (by decide) rfl (fun ls hl => ?_)
    refine lv_iconst (v := 0) hx hb dX11_powerOfThree_2 (by decide) ?_
    refine lv_istore_n (lv' := [(2, .int 0), (1, .int 1), (0, .int (nI 4))]) hx hb dX11_powerOfThree_3 rfl hl (by decide) rfl (fun ls hl => ?_)
    refine lv_iload_n hx hb dX11_powerOfThree_4 rfl (lv_at hl 0 rfl) ?_
    refine lv_iload_n hx hb dX11_powerOfThree_5 rfl (lv_at hl 2 rfl) ?_
    refine lv_icmp_ge (tgt := 19) hx hb dX11_powerOfThree_6 (by decide) (fun h27 => ?_) (fun h28 => ?_)
    · skip
      have h27 : 4 ≤ 0 := (nI_leI (a := 4) (b := 0) (by omega) (by omega)).mp h27
      exact absurd h27 (by omega)
    · skip
      have h28 : ¬ 4 ≤ 0 := fun q9 => h28 ((nI_leI (a := 4) (b := 0) (by omega) (by omega)).mpr q9)
      refine lv_iload_n hx hb dX11_powerOfThree_9 rfl (lv_at hl 1 rfl) ?_
      refine lv_iconst (v := 3) hx hb dX11_powerOfThree_10 (by decide) ?_
      refine lv_imul hx hb dX11_powerOfThree_11 ?_
      refine lv_topi (fun z29 hz29 => ?_)
      obtain rfl : z29 = 3 := hz29.trans (by decide)
      refine lv_istore_n (lv' := [(1, .int 3), (2, .int 0), (0, .int (nI 4))]) hx hb dX11_powerOfThree_12 rfl hl (by decide) rfl (fun ls hl => ?_)
      refine lv_iinc (v := 1) (lv' := [(2, .int 1), (1, .int 3), (0, .int (nI 4))]) hx hb dX11_powerOfThree_13 hl (k := 1) rfl (by decide) (by decide) rfl (fun ls hl => ?_)
      refine lv_goto (tgt := 4) hx hb dX11_powerOfThree_16 (by decide) ?_
      refine lv_iload_n hx hb dX11_powerOfThree_4 rfl (lv_at hl 0 rfl) ?_
      refine lv_iload_n hx hb dX11_powerOfThree_5 rfl (lv_at hl 2 rfl) ?_
      refine lv_icmp_ge (tgt := 19) hx hb dX11_powerOfThree_6 (by decide) (fun h30 => ?_) (fun h31 => ?_)
      · skip
        have h30 : 4 ≤ 1 := (nI_leI (a := 4) (b := 1) (by omega) (by omega)).mp h30
        exact absurd h30 (by omega)
      · skip
        have h31 : ¬ 4 ≤ 1 := fun q9 => h31 ((nI_leI (a := 4) (b := 1) (by omega) (by omega)).mpr q9)
        refine lv_iload_n hx hb dX11_powerOfThree_9 rfl (lv_at hl 1 rfl) ?_
        refine lv_iconst (v := 3) hx hb dX11_powerOfThree_10 (by decide) ?_
        refine lv_imul hx hb dX11_powerOfThree_11 ?_
        refine lv_topi (fun z32 hz32 => ?_)
        obtain rfl : z32 = 9 := hz32.trans (by decide)
        refine lv_istore_n (lv' := [(1, .int 9), (2, .int 1), (0, .int (nI 4))]) hx hb dX11_powerOfThree_12 rfl hl (by decide) rfl (fun ls hl => ?_)
        refine lv_iinc (v := 2) (lv' := [(2, .int 2), (1, .int 9), (0, .int (nI 4))]) hx hb dX11_powerOfThree_13 hl (k := 1) rfl (by decide) (by decide) rfl (fun ls hl => ?_)
        refine lv_goto (tgt := 4) hx hb dX11_powerOfThree_16 (by decide) ?_
        refine lv_iload_n hx hb dX11_powerOfThree_4 rfl (lv_at hl 0 rfl) ?_
        refine lv_iload_n hx hb dX11_powerOfThree_5 rfl (lv_at hl 2 rfl) ?_
        refine lv_icmp_ge (tgt := 19) hx hb dX11_powerOfThree_6 (by decide) (fun h33 => ?_) (fun h34 => ?_)
        · skip
          have h33 : 4 ≤ 2 := (nI_leI (a := 4) (b := 2) (by omega) (by omega)).mp h33
          exact absurd h33 (by omega)
        · skip
          have h34 : ¬ 4 ≤ 2 := fun q9 => h34 ((nI_leI (a := 4) (b := 2) (by omega) (by omega)).mpr q9)
          refine lv_iload_n hx hb dX11_powerOfThree_9 rfl (lv_at hl 1 rfl) ?_
          refine lv_iconst (v := 3) hx hb dX11_powerOfThree_10 (by decide) ?_
          refine lv_imul hx hb dX11_powerOfThree_11 ?_
          refine lv_topi (fun z35 hz35 => ?_)
          obtain rfl : z35 = 27 := hz35.trans (by decide)
          refine lv_istore_n (lv' := [(1, .int 27), (2, .int 2), (0, .int (nI 4))]) hx hb dX11_powerOfThree_12 rfl hl (by decide) rfl (fun ls hl => ?_)
          refine lv_iinc (v := 3) (lv' := [(2, .int 3), (1, .int 27), (0, .int (nI 4))]) hx hb dX11_powerOfThree_13 hl (k := 1) rfl (by decide) (by decide) rfl (fun ls hl => ?_)
          refine lv_goto (tgt := 4) hx hb dX11_powerOfThree_16 (by decide) ?_
          refine lv_iload_n hx hb dX11_powerOfThree_4 rfl (lv_at hl 0 rfl) ?_
          refine lv_iload_n hx hb dX11_powerOfThree_5 rfl (lv_at hl 2 rfl) ?_
          refine lv_icmp_ge (tgt := 19) hx hb dX11_powerOfThree_6 (by decide) (fun h36 => ?_) (fun h37 => ?_)
          · skip
            have h36 : 4 ≤ 3 := (nI_leI (a := 4) (b := 3) (by omega) (by omega)).mp h36
            exact absurd h36 (by omega)
          · skip
            have h37 : ¬ 4 ≤ 3 := fun q9 => h37 ((nI_leI (a := 4) (b := 3) (by omega) (by omega)).mpr q9)
            refine lv_iload_n hx hb dX11_powerOfThree_9 rfl (lv_at hl 1 rfl) ?_
            refine lv_iconst (v := 3) hx hb dX11_powerOfThree_10 (by decide) ?_
            refine lv_imul hx hb dX11_powerOfThree_11 ?_
            refine lv_topi (fun z38 hz38 => ?_)
            obtain rfl : z38 = 81 := hz38.trans (by decide)
            refine lv_istore_n (lv' := [(1, .int 81), (2, .int 3), (0, .int (nI 4))]) hx hb dX11_powerOfThree_12 rfl hl (by decide) rfl (fun ls hl => ?_)
            refine lv_iinc (v := 4) (lv' := [(2, .int 4), (1, .int 81), (0, .int (nI 4))]) hx hb dX11_powerOfThree_13 hl (k := 1) rfl (by decide) (by decide) rfl (fun ls hl => ?_)
            refine lv_goto (tgt := 4) hx hb dX11_powerOfThree_16 (by decide) ?_
            refine lv_iload_n hx hb dX11_powerOfThree_4 rfl (lv_at hl 0 rfl) ?_
            refine lv_iload_n hx hb dX11_powerOfThree_5 rfl (lv_at hl 2 rfl) ?_
            refine lv_icmp_ge (tgt := 19) hx hb dX11_powerOfThree_6 (by decide) (fun h39 => ?_) (fun h40 => ?_)
            · skip
              have h39 : 4 ≤ 4 := (nI_leI (a := 4) (b := 4) (by omega) (by omega)).mp h39
              refine lv_iload_n hx hb dX11_powerOfThree_19 rfl (lv_at hl 1 rfl) ?_
              exact W.iret (v := 81) hx hb hr (fun tZ ht hW => ⟨⟨81, (), rfl, (show ¬ (81 : Int32) = 0 from by decide), by rw [ht]; exact hP.sub [] rfl, hD.sub [] (by decide) rfl⟩, hS.F ht⟩) hS.2.2 dX11_powerOfThree_20
            · skip
              have h40 : ¬ 4 ≤ 4 := fun q9 => h40 ((nI_leI (a := 4) (b := 4) (by omega) (by omega)).mpr q9)
              exact absurd h40 (by omega)
  · skip
    refine lv_iconst (v := 1) hx hb dX11_powerOfThree_0 (by decide) ?_
    refine lv_istore_n (lv' := [(1, .int 1), (0, .int (nI 5))]) hx hb dX11_powerOfThree_1 rfl hl (by decide) rfl (fun ls hl => ?_)
    refine lv_iconst (v := 0) hx hb dX11_powerOfThree_2 (by decide) ?_
    refine lv_istore_n (lv' := [(2, .int 0), (1, .int 1), (0, .int (nI 5))]) hx hb dX11_powerOfThree_3 rfl hl (by decide) rfl (fun ls hl => ?_)
    refine lv_iload_n hx hb dX11_powerOfThree_4 rfl (lv_at hl 0 rfl) ?_
    refine lv_iload_n hx hb dX11_powerOfThree_5 rfl (lv_at hl 2 rfl) ?_
    refine lv_icmp_ge (tgt := 19) hx hb dX11_powerOfThree_6 (by decide) (fun h41 => ?_) (fun h42 => ?_)
    · skip
      have h41 : 5 ≤ 0 := (nI_leI (a := 5) (b := 0) (by omega) (by omega)).mp h41
      exact absurd h41 (by omega)
    · skip
      have h42 : ¬ 5 ≤ 0 := fun q9 => h42 ((nI_leI (a := 5) (b := 0) (by omega) (by omega)).mpr q9)
      refine lv_iload_n hx hb dX11_powerOfThree_9 rfl (lv_at hl 1 rfl) ?_
      refine lv_iconst (v := 3) hx hb dX11_powerOfThree_10 (by decide) ?_
      refine lv_imul hx hb dX11_powerOfThree_11 ?_
      refine lv_topi (fun z43 hz43 => ?_)
      obtain rfl : z43 = 3 := hz43.trans (by decide)
      refine lv_istore_n (lv' := [(1, .int 3), (2, .int 0), (0, .int (nI 5))]) hx hb dX11_powerOfThree_12 rfl hl (by decide) rfl (fun ls hl => ?_)
      refine lv_iinc (v := 1) (lv' := [(2, .int 1), (1, .int 3), (0, .int (nI 5))]) hx hb dX11_powerOfThree_13 hl (k := 1) rfl (by decide) (by decide) rfl (fun ls hl => ?_)
      refine lv_goto (tgt := 4) hx hb dX11_powerOfThree_16 (by decide) ?_
      refine lv_iload_n hx hb dX11_powerOfThree_4 rfl (lv_at hl 0 rfl) ?_
      refine lv_iload_n hx hb dX11_powerOfThree_5 rfl (lv_at hl 2 rfl) ?_
      refine lv_icmp_ge (tgt := 19) hx hb dX11_powerOfThree_6 (by decide) (fun h44 => ?_) (fun h45 => ?_)
      · skip
        have h44 : 5 ≤ 1 := (nI_leI (a := 5) (b := 1) (by omega) (by omega)).mp h44
        exact absurd h44 (by omega)
      · skip
        have h45 : ¬ 5 ≤ 1 := fun q9 => h45 ((nI_leI (a := 5) (b := 1) (by omega) (by omega)).mpr q9)
        refine lv_iload_n hx hb dX11_powerOfThree_9 rfl (lv_at hl 1 rfl) ?_
        refine lv_iconst (v := 3) hx hb dX11_powerOfThree_10 (by decide) ?_
        refine lv_imul hx hb dX11_powerOfThree_11 ?_
        refine lv_topi (fun z46 hz46 => ?_)
        obtain rfl : z46 = 9 := hz46.trans (by decide)
        refine lv_istore_n (lv' := [(1, .int 9), (2, .int 1), (0, .int (nI 5))]) hx hb dX11_powerOfThree_12 rfl hl (by decide) rfl (fun ls hl => ?_)
        refine lv_iinc (v := 2) (lv' := [(2, .int 2), (1, .int 9), (0, .int (nI 5))]) hx hb dX11_powerOfThree_13 hl (k := 1) rfl (by decide) (by decide) rfl (fun ls hl => ?_)
        refine lv_goto (tgt := 4) hx hb dX11_powerOfThree_16 (by decide) ?_
        refine lv_iload_n hx hb dX11_powerOfThree_4 rfl (lv_at hl 0 rfl) ?_
        refine lv_iload_n hx hb dX11_powerOfThree_5 rfl (lv_at hl 2 rfl) ?_
        refine lv_icmp_ge (tgt := 19) hx hb dX11_powerOfThree_6 (by decide) (fun h47 => ?_) (fun h48 => ?_)
        · skip
          have h47 : 5 ≤ 2 := (nI_leI (a := 5) (b := 2) (by omega) (by omega)).mp h47
          exact absurd h47 (by omega)
        · skip
          have h48 : ¬ 5 ≤ 2 := fun q9 => h48 ((nI_leI (a := 5) (b := 2) (by omega) (by omega)).mpr q9)
          refine lv_iload_n hx hb dX11_powerOfThree_9 rfl (lv_at hl 1 rfl) ?_
          refine lv_iconst (v := 3) hx hb dX11_powerOfThree_10 (by decide) ?_
          refine lv_imul hx hb dX11_powerOfThree_11 ?_
          refine lv_topi (fun z49 hz49 => ?_)
          obtain rfl : z49 = 27 := hz49.trans (by decide)
          refine lv_istore_n (lv' := [(1, .int 27), (2, .int 2), (0, .int (nI 5))]) hx hb dX11_powerOfThree_12 rfl hl (by decide) rfl (fun ls hl => ?_)
          refine lv_iinc (v := 3) (lv' := [(2, .int 3), (1, .int 27), (0, .int (nI 5))]) hx hb dX11_powerOfThree_13 hl (k := 1) rfl (by decide) (by decide) rfl (fun ls hl => ?_)
          refine lv_goto (tgt := 4) hx hb dX11_powerOfThree_16 (by decide) ?_
          refine lv_iload_n hx hb dX11_powerOfThree_4 rfl (lv_at hl 0 rfl) ?_
          refine lv_iload_n hx hb dX11_powerOfThree_5 rfl (lv_at hl 2 rfl) ?_
          refine lv_icmp_ge (tgt := 19) hx hb dX11_powerOfThree_6 (by decide) (fun h50 => ?_) (fun h51 => ?_)
          · skip
            have h50 : 5 ≤ 3 := (nI_leI (a := 5) (b := 3) (by omega) (by omega)).mp h50
            exact absurd h50 (by omega)
          · skip
            have h51 : ¬ 5 ≤ 3 := fun q9 => h51 ((nI_leI (a := 5) (b := 3) (by omega) (by omega)).mpr q9)
            refine lv_iload_n hx hb dX11_powerOfThree_9 rfl (lv_at hl 1 rfl) ?_
            refine lv_iconst (v := 3) hx hb dX11_powerOfThree_10 (by decide) ?_
            refine lv_imul hx hb dX11_powerOfThree_11 ?_
            refine lv_topi (fun z52 hz52 => ?_)
            obtain rfl : z52 = 81 := hz52.trans (by decide)
            refine lv_istore_n (lv' := [(1, .int 81), (2, .int 3), (0, .int (nI 5))]) hx hb dX11_powerOfThree_12 rfl hl (by decide) rfl (fun ls hl => ?_)
            refine lv_iinc (v := 4) (lv' := [(2, .int 4), (1, .int 81), (0, .int (nI 5))]) hx hb dX11_powerOfThree_13 hl (k := 1) rfl (by decide) (by decide) rfl (fun ls hl => ?_)
            refine lv_goto (tgt := 4) hx hb dX11_powerOfThree_16 (by decide) ?_
            refine lv_iload_n hx hb dX11_powerOfThree_4 rfl (lv_at hl 0 rfl) ?_
            refine lv_iload_n hx hb dX11_powerOfThree_5 rfl (lv_at hl 2 rfl) ?_
            refine lv_icmp_ge (tgt := 19) hx hb dX11_powerOfThree_6 (by decide) (fun h53 => ?_) (fun h54 => ?_)
            · skip
              have h53 : 5 ≤ 4 := (nI_leI (a := 5) (b := 4) (by omega) (by omega)).mp h53
              exact absurd h53 (by omega)
            · skip
              have h54 : ¬ 5 ≤ 4 := fun q9 => h54 ((nI_leI (a := 5) (b := 4) (by omega) (by omega)).mpr q9)
              refine lv_iload_n hx hb dX11_powerOfThree_9 rfl (lv_at hl 1 rfl) ?_
              refine lv_iconst (v := 3) hx hb dX11_powerOfThree_10 (by decide) ?_
              refine lv_imul hx hb dX11_powerOfThree_11 ?_
              refine lv_topi (fun z55 hz55 => ?_)
              obtain rfl : z55 = 243 := hz55.trans (by decide)
              refine lv_istore_n (lv' := [(1, .int 243), (2, .int 4), (0, .int (nI 5))]) hx hb dX11_powerOfThree_12 rfl hl (by decide) rfl (fun ls hl => ?_)
              refine lv_iinc (v := 5) (lv' := [(2, .int 5), (1, .int 243), (0, .int (nI 5))]) hx hb dX11_powerOfThree_13 hl (k := 1) rfl (by decide) (by decide) rfl (fun ls hl => ?_)
              refine lv_goto (tgt := 4) hx hb dX11_powerOfThree_16 (by decide) ?_
              refine lv_iload_n hx hb dX11_powerOfThree_4 rfl (lv_at hl 0 rfl) ?_
              refine lv_iload_n hx hb dX11_powerOfThree_5 rfl (lv_at hl 2 rfl) ?_
              refine lv_icmp_ge (tgt := 19) hx hb dX11_powerOfThree_6 (by decide) (fun h56 => ?_) (fun h57 => ?_)
              · skip
                have h56 : 5 ≤ 5 := (nI_leI (a := 5) (b := 5) (by omega) (by omega)).mp h56
                refine lv_iload_n hx hb dX11_powerOfThree_19 rfl (lv_at hl 1 rfl) ?_
                exact W.iret (v := 243) hx hb hr (fun tZ ht hW => ⟨⟨243, (), rfl, (show ¬ (243 : Int32) = 0 from by decide), by rw [ht]; exact hP.sub [] rfl, hD.sub [] (by decide) rfl⟩, hS.F ht⟩) hS.2.2 dX11_powerOfThree_20
              · skip
                have h57 : ¬ 5 ≤ 5 := fun q9 => h57 ((nI_leI (a := 5) (b := 5) (by omega) (by omega)).mpr q9)
                exact absurd h57 (by omega)
  · skip
    refine lv_iconst (v := 1) hx hb dX11_powerOfThree_0 (by decide) ?_
    refine lv_istore_n (lv' := [(1, .int 1), (0, .int (nI 6))]) hx hb dX11_powerOfThree_1 rfl hl (by decide) rfl (fun ls hl => ?_)
    refine lv_iconst (v := 0) hx hb dX11_powerOfThree_2 (by decide) ?_
    refine lv_istore_n (lv' := [(2, .int 0), (1, .int 1), (0, .int (nI 6))]) hx hb dX11_powerOfThree_3 rfl hl (by decide) rfl (fun ls hl => ?_)
    refine lv_iload_n hx hb dX11_powerOfThree_4 rfl (lv_at hl 0 rfl) ?_
    refine lv_iload_n hx hb dX11_powerOfThree_5 rfl (lv_at hl 2 rfl) ?_
    refine lv_icmp_ge (tgt := 19) hx hb dX11_powerOfThree_6 (by decide) (fun h58 => ?_) (fun h59 => ?_)
    · skip
      have h58 : 6 ≤ 0 := (nI_leI (a := 6) (b := 0) (by omega) (by omega)).mp h58
      exact absurd h58 (by omega)
    · skip
      have h59 : ¬ 6 ≤ 0 := fun q9 => h59 ((nI_leI (a := 6) (b := 0) (by omega) (by omega)).mpr q9)
      refine lv_iload_n hx hb dX11_powerOfThree_9 rfl (lv_at hl 1 rfl) ?_
      refine lv_iconst (v := 3) hx hb dX11_powerOfThree_10 (by decide) ?_
      refine lv_imul hx hb dX11_powerOfThree_11 ?_
      refine lv_topi (fun z60 hz60 => ?_)
      obtain rfl : z60 = 3 := hz60.trans (by decide)
      refine lv_istore_n (lv' := [(1, .int 3), (2, .int 0), (0, .int (nI 6))]) hx hb dX11_powerOfThree_12 rfl hl (by decide) rfl (fun ls hl => ?_)
      refine lv_iinc (v := 1) (lv' := [(2, .int 1), (1, .int 3), (0, .int (nI 6))]) hx hb dX11_powerOfThree_13 hl (k := 1) rfl (by decide) (by decide) rfl (fun ls hl => ?_)
      refine lv_goto (tgt := 4) hx hb dX11_powerOfThree_16 (by decide) ?_
      refine lv_iload_n hx hb dX11_powerOfThree_4 rfl (lv_at hl 0 rfl) ?_
      refine lv_iload_n hx hb dX11_powerOfThree_5 rfl (lv_at hl 2 rfl) ?_
      refine lv_icmp_ge (tgt := 19) hx hb dX11_powerOfThree_6 (by decide) (fun h61 => ?_) (fun h62 => ?_)
      · skip
        have h61 : 6 ≤ 1 := (nI_leI (a := 6) (b := 1) (by omega) (by omega)).mp h61
        exact absurd h61 (by omega)
      · skip
        have h62 : ¬ 6 ≤ 1 := fun q9 => h62 ((nI_leI (a := 6) (b := 1) (by omega) (by omega)).mpr q9)
        refine lv_iload_n hx hb dX11_powerOfThree_9 rfl (lv_at hl 1 rfl) ?_
        refine lv_iconst (v := 3) hx hb dX11_powerOfThree_10 (by decide) ?_
        refine lv_imul hx hb dX11_powerOfThree_11 ?_
        refine lv_topi (fun z63 hz63 => ?_)
        obtain rfl : z63 = 9 := hz63.trans (by decide)
        refine lv_istore_n (lv' := [(1, .int 9), (2, .int 1), (0, .int (nI 6))]) hx hb dX11_powerOfThree_12 rfl hl (by decide) rfl (fun ls hl => ?_)
        refine lv_iinc (v := 2) (lv' := [(2, .int 2), (1, .int 9), (0, .int (nI 6))]) hx hb dX11_powerOfThree_13 hl (k := 1) rfl (by decide) (by decide) rfl (fun ls hl => ?_)
        refine lv_goto (tgt := 4) hx hb dX11_powerOfThree_16 (by decide) ?_
        refine lv_iload_n hx hb dX11_powerOfThree_4 rfl (lv_at hl 0 rfl) ?_
        refine lv_iload_n hx hb dX11_powerOfThree_5 rfl (lv_at hl 2 rfl) ?_
        refine lv_icmp_ge (tgt := 19) hx hb dX11_powerOfThree_6 (by decide) (fun h64 => ?_) (fun h65 => ?_)
        · skip
          have h64 : 6 ≤ 2 := (nI_leI (a := 6) (b := 2) (by omega) (by omega)).mp h64
          exact absurd h64 (by omega)
        · skip
          have h65 : ¬ 6 ≤ 2 := fun q9 => h65 ((nI_leI (a := 6) (b := 2) (by omega) (by omega)).mpr q9)
          refine lv_iload_n hx hb dX11_powerOfThree_9 rfl (lv_at hl 1 rfl) ?_
          refine lv_iconst (v := 3) hx hb dX11_powerOfThree_10 (by decide) ?_
          refine lv_imul hx hb dX11_powerOfThree_11 ?_
          refine lv_topi (fun z66 hz66 => ?_)
          obtain rfl : z66 = 27 := hz66.trans (by decide)
          refine lv_istore_n (lv' := [(1, .int 27), (2, .int 2), (0, .int (nI 6))]) hx hb dX11_powerOfThree_12 rfl hl (by decide) rfl (fun ls hl => ?_)
          refine lv_iinc (v := 3) (lv' := [(2, .int 3), (1, .int 27), (0, .int (nI 6))]) hx hb dX11_powerOfThree_13 hl (k := 1) rfl (by decide) (by decide) rfl (fun ls hl => ?_)
          refine lv_goto (tgt := 4) hx hb dX11_powerOfThree_16 (by decide) ?_
          refine lv_iload_n hx hb dX11_powerOfThree_4 rfl (lv_at hl 0 rfl) ?_
          refine lv_iload_n hx hb dX11_powerOfThree_5 rfl (lv_at hl 2 rfl) ?_
          refine lv_icmp_ge (tgt := 19) hx hb dX11_powerOfThree_6 (by decide) (fun h67 => ?_) (fun h68 => ?_)
          · skip
            have h67 : 6 ≤ 3 := (nI_leI (a := 6) (b := 3) (by omega) (by omega)).mp h67
            exact absurd h67 (by omega)
          · skip
            have h68 : ¬ 6 ≤ 3 := fun q9 => h68 ((nI_leI (a := 6) (b := 3) (by omega) (by omega)).mpr q9)
            refine lv_iload_n hx hb dX11_powerOfThree_9 rfl (lv_at hl 1 rfl) ?_
            refine lv_iconst (v := 3) hx hb dX11_powerOfThree_10 (by decide) ?_
            refine lv_imul hx hb dX11_powerOfThree_11 ?_
            refine lv_topi (fun z69 hz69 => ?_)
            obtain rfl : z69 = 81 := hz69.trans (by decide)
            refine lv_istore_n (lv' := [(1, .int 81), (2, .int 3), (0, .int (nI 6))]) hx hb dX11_powerOfThree_12 rfl hl (by decide) rfl (fun ls hl => ?_)
            refine lv_iinc (v := 4) (lv' := [(2, .int 4), (1, .int 81), (0, .int (nI 6))]) hx hb dX11_powerOfThree_13 hl (k := 1) rfl (by decide) (by decide) rfl (fun ls hl => ?_)
            refine lv_goto (tgt := 4) hx hb dX11_powerOfThree_16 (by decide) ?_
            refine lv_iload_n hx hb dX11_powerOfThree_4 rfl (lv_at hl 0 rfl) ?_
            refine lv_iload_n hx hb dX11_powerOfThree_5 rfl (lv_at hl 2 rfl) ?_
            refine lv_icmp_ge (tgt := 19) hx hb dX11_powerOfThree_6 (by decide) (fun h70 => ?_) (fun h71 => ?_)
            · skip
              have h70 : 6 ≤ 4 := (nI_leI (a := 6) (b := 4) (by omega) (by omega)).mp h70
              exact absurd h70 (by omega)
            · skip
              have h71 : ¬ 6 ≤ 4 := fun q9 => h71 ((nI_leI (a := 6) (b := 4) (by omega) (by omega)).mpr q9)
              refine lv_iload_n hx hb dX11_powerOfThree_9 rfl (lv_at hl 1 rfl) ?_
              refine lv_iconst (v := 3) hx hb dX11_powerOfThree_10 (by decide) ?_
              refine lv_imul hx hb dX11_powerOfThree_11 ?_
              refine lv_topi (fun z72 hz72 => ?_)
              obtain rfl : z72 = 243 := hz72.trans (by decide)
              refine lv_istore_n (lv' := [(1, .int 243), (2, .int 4), (0, .int (nI 6))]) hx hb dX11_powerOfThree_12 rfl hl (by decide) rfl (fun ls hl => ?_)
              refine lv_iinc (v := 5) (lv' := [(2, .int 5), (1, .int 243), (0, .int (nI 6))]) hx hb dX11_powerOfThree_13 hl (k := 1) rfl (by decide) (by decide) rfl (fun ls hl => ?_)
              refine lv_goto (tgt := 4) hx hb dX11_powerOfThree_16 (by decide) ?_
              refine lv_iload_n hx hb dX11_powerOfThree_4 rfl (lv_at hl 0 rfl) ?_
              refine lv_iload_n hx hb dX11_powerOfThree_5 rfl (lv_at hl 2 rfl) ?_
              refine lv_icmp_ge (tgt := 19) hx hb dX11_powerOfThree_6 (by decide) (fun h73 => ?_) (fun h74 => ?_)
              · skip
                have h73 : 6 ≤ 5 := (nI_leI (a := 6) (b := 5) (by omega) (by omega)).mp h73
                exact absurd h73 (by omega)
              · skip
                have h74 : ¬ 6 ≤ 5 := fun q9 => h74 ((nI_leI (a := 6) (b := 5) (by omega) (by omega)).mpr q9)
                refine lv_iload_n hx hb dX11_powerOfThree_9 rfl (lv_at hl 1 rfl) ?_
                refine lv_iconst (v := 3) hx hb dX11_powerOfThree_10 (by decide) ?_
                refine lv_imul hx hb dX11_powerOfThree_11 ?_
                refine lv_topi (fun z75 hz75 => ?_)
                obtain rfl : z75 = 729 := hz75.trans (by decide)
                refine lv_istore_n (lv' := [(1, .int 729), (2, .int 5), (0, .int (nI 6))]) hx hb dX11_powerOfThree_12 rfl hl (by decide) rfl (fun ls hl => ?_)
                refine lv_iinc (v := 6) (lv' := [(2, .int 6), (1, .int 729), (0, .int (nI 6))]) hx hb dX11_powerOfThree_13 hl (k := 1) rfl (by decide) (by decide) rfl (fun ls hl => ?_)
                refine lv_goto (tgt := 4) hx hb dX11_powerOfThree_16 (by decide) ?_
                refine lv_iload_n hx hb dX11_powerOfThree_4 rfl (lv_at hl 0 rfl) ?_
                refine lv_iload_n hx hb dX11_powerOfThree_5 rfl (lv_at hl 2 rfl) ?_
                refine lv_icmp_ge (tgt := 19) hx hb dX11_powerOfThree_6 (by decide) (fun h76 => ?_) (fun h77 => ?_)
                · skip
                  have h76 : 6 ≤ 6 := (nI_leI (a := 6) (b := 6) (by omega) (by omega)).mp h76
                  refine lv_iload_n hx hb dX11_powerOfThree_19 rfl (lv_at hl 1 rfl) ?_
                  exact W.iret (v := 729) hx hb hr (fun tZ ht hW => ⟨⟨729, (), rfl, (show ¬ (729 : Int32) = 0 from by decide), by rw [ht]; exact hP.sub [] rfl, hD.sub [] (by decide) rfl⟩, hS.F ht⟩) hS.2.2 dX11_powerOfThree_20
                · skip
                  have h77 : ¬ 6 ≤ 6 := fun q9 => h77 ((nI_leI (a := 6) (b := 6) (by omega) (by omega)).mpr q9)
                  exact absurd h77 (by omega)
