set_option maxHeartbeats 4000000 in
set_option maxRecDepth 100000 in
theorem cw_begin (l : Launch) (D : va_G) (y : Nat → ClassId) (to : Nat) (x : Int32) : kw_Mv l yX11_begin wsX11_begin ({ frames := 1, cells := 0, slots := 0, locals := 40 }) D y [.ref to, .int x] [(to, .inl (y 0, 228, .inl (fun _ => 0)))] (fun (u : Unit) => True) (fun _ => [(to, .inl (y 0, 228, .inl (upd (fun _ => 0) (22 : Int32).toNatClampNeg x)))]) 0 0 := by
  refine kw_Mv.of (cc := cX11_begin) (maxL := 3) (ret := none) (by decide) rfl ?_
  intro pZ eZ s mZ beZ meZ cZ A hE
  obtain ⟨hx, hb, hr, hml, hts, hown, hlocks, hin, hA, hP, hD, hK, hN⟩ := hE
  have hS : va_S A s.heap s.heap [] := va_S.rf
  have hl := lv_entry ([.ref to, .int x]) (n := 3) (Nat.le_of_ble_eq_true rfl)
  rw [lg_entry_eq]
  generalize (lg_sl ([.ref to, .int x]) ++ List.replicate (3 - (lg_sl ([.ref to, .int x])).length) Slot.unset).toArray = ls at hl ⊢
  have hl : lv_has ls 3 [(0, .ref to), (1, .int x)] := hl
  refine lv_iconst (v := 0) hx hb dX11_begin_0 (by decide) ?_
  refine lv_istore_n (lv' := [(2, .int 0), (0, .ref to), (1, .int x)]) hx hb dX11_begin_1 rfl hl (by decide) rfl (fun ls hl => ?_)
  refine lv_iload_n hx hb dX11_begin_2 rfl (lv_at hl 0 rfl) ?_
  refine lv_bipush (v := 76) hx hb dX11_begin_3 (by decide) ?_
  refine lv_icmp_ge (tgt := 18) hx hb dX11_begin_5 (by decide) (fun h9 => absurd h9 (by decide)) (fun _ => ?_)
  refine lv_aload_n hx hb dX11_begin_8 rfl (lv_at hl 1 rfl) ?_
  refine lv_iload_n hx hb dX11_begin_9 rfl (lv_at hl 0 rfl) ?_
  refine lv_iconst (v := 0) hx hb dX11_begin_10 (by decide) ?_
  refine va_iast hx hb hK hP hD hS 0 0 rfl rfl (by unfold vp_in; decide) dX11_begin_11 (fun H locs hP hD hS => ?_)
  rw [kw_upd0] at hP hD
  have hP : va_P D vwCl [(to, .inl (y 0, 228, .inl (fun _ => 0)))] H := hP
  have hD : va_D A [(to, .inl (y 0, 228, .inl (fun _ => 0)))] := hD
  refine lv_iinc (v := 1) (lv' := [(2, .int 1), (0, .ref to), (1, .int x)]) hx hb dX11_begin_12 hl (k := 0) rfl (by decide) (by decide) rfl (fun ls hl => ?_)
  refine lv_goto (tgt := 2) hx hb dX11_begin_15 (by decide) ?_
  refine lv_iload_n hx hb dX11_begin_2 rfl (lv_at hl 0 rfl) ?_
  refine lv_bipush (v := 76) hx hb dX11_begin_3 (by decide) ?_
  refine lv_icmp_ge (tgt := 18) hx hb dX11_begin_5 (by decide) (fun h9 => absurd h9 (by decide)) (fun _ => ?_)
  refine lv_aload_n hx hb dX11_begin_8 rfl (lv_at hl 1 rfl) ?_
  refine lv_iload_n hx hb dX11_begin_9 rfl (lv_at hl 0 rfl) ?_
  refine lv_iconst (v := 0) hx hb dX11_begin_10 (by decide) ?_
  refine va_iast hx hb hK hP hD hS 0 0 rfl rfl (by unfold vp_in; decide) dX11_begin_11 (fun H locs hP hD hS => ?_)
  rw [kw_upd0] at hP hD
  have hP : va_P D vwCl [(to, .inl (y 0, 228, .inl (fun _ => 0)))] H := hP
  have hD : va_D A [(to, .inl (y 0, 228, .inl (fun _ => 0)))] := hD
  refine lv_iinc (v := 2) (lv' := [(2, .int 2), (0, .ref to), (1, .int x)]) hx hb dX11_begin_12 hl (k := 0) rfl (by decide) (by decide) rfl (fun ls hl => ?_)
  refine lv_goto (tgt := 2) hx hb dX11_begin_15 (by decide) ?_
  refine lv_iload_n hx hb dX11_begin_2 rfl (lv_at hl 0 rfl) ?_
  refine lv_bipush (v := 76) hx hb dX11_begin_3 (by decide) ?_
  refine lv_icmp_ge (tgt := 18) hx hb dX11_begin_5 (by decide) (fun h9 => absurd h9 (by decide)) (fun _ => ?_)
  refine lv_aload_n hx hb dX11_begin_8 rfl (lv_at hl 1 rfl) ?_
  refine lv_iload_n hx hb dX11_begin_9 rfl (lv_at hl 0 rfl) ?_
  refine lv_iconst (v := 0) hx hb dX11_begin_10 (by decide) ?_
  refine va_iast hx hb hK hP hD hS 0 0 rfl rfl (by unfold vp_in; decide) dX11_begin_11 (fun H locs hP hD hS => ?_)
  rw [kw_upd0] at hP hD
  have hP : va_P D vwCl [(to, .inl (y 0, 228, .inl (fun _ => 0)))] H := hP
  have hD : va_D A [(to, .inl (y 0, 228, .inl (fun _ => 0)))] := hD
  refine lv_iinc (v := 3) (lv' := [(2, .int 3), (0, .ref to), (1, .int x)]) hx hb dX11_begin_12 hl (k := 0) rfl (by decide) (by decide) rfl (fun ls hl => ?_)
  refine lv_goto (tgt := 2) hx hb dX11_begin_15 (by decide) ?_
  refine lv_iload_n hx hb dX11_begin_2 rfl (lv_at hl 0 rfl) ?_
  refine lv_bipush (v := 76) hx hb dX11_begin_3 (by decide) ?_
  refine lv_icmp_ge (tgt := 18) hx hb dX11_begin_5 (by decide) (fun h9 => absurd h9 (by decide)) (fun _ => ?_)
  refine lv_aload_n hx hb dX11_begin_8 rfl (lv_at hl 1 rfl) ?_
  refine lv_iload_n hx hb dX11_begin_9 rfl (lv_at hl 0 rfl) ?_
  refine lv_iconst (v := 0) hx hb dX11_begin_10 (by decide) ?_
  refine va_iast hx hb hK hP hD hS 0 0 rfl rfl (by unfold vp_in; decide) dX11_begin_11 (fun H locs hP hD hS => ?_)
  rw [kw_upd0] at hP hD
  have hP : va_P D vwCl [(to, .inl (y 0, 228, .inl (fun _ => 0)))] H := hP
  have hD : va_D A [(to, .inl (y 0, 228, .inl (fun _ => 0)))] := hD
  refine lv_iinc (v := 4) (lv' := [(2, .int 4), (0, .ref to), (1, .int x)]) hx hb dX11_begin_12 hl (k := 0) rfl (by decide) (by decide) rfl (fun ls hl => ?_)
  refine lv_goto (tgt := 2) hx hb dX11_begin_15 (by decide) ?_
  refine lv_iload_n hx hb dX11_begin_2 rfl (lv_at hl 0 rfl) ?_
  refine lv_bipush (v := 76) hx hb dX11_begin_3 (by decide) ?_
  refine lv_icmp_ge (tgt := 18) hx hb dX11_begin_5 (by decide) (fun h9 => absurd h9 (by decide)) (fun _ => ?_)
  refine lv_aload_n hx hb dX11_begin_8 rfl (lv_at hl 1 rfl) ?_
  refine lv_iload_n hx hb dX11_begin_9 rfl (lv_at hl 0 rfl) ?_
  refine lv_iconst (v := 0) hx hb dX11_begin_10 (by decide) ?_
  refine va_iast hx hb hK hP hD hS 0 0 rfl rfl (by unfold vp_in; decide) dX11_begin_11 (fun H locs hP hD hS => ?_)
  rw [kw_upd0] at hP hD
  have hP : va_P D vwCl [(to, .inl (y 0, 228, .inl (fun _ => 0)))] H := hP
  have hD : va_D A [(to, .inl (y 0, 228, .inl (fun _ => 0)))] := hD
  refine lv_iinc (v := 5) (lv' := [(2, .int 5), (0, .ref to), (1, .int x)]) hx hb dX11_begin_12 hl (k := 0) rfl (by decide) (by decide) rfl (fun ls hl => ?_)
  refine lv_goto (tgt := 2) hx hb dX11_begin_15 (by decide) ?_
  refine lv_iload_n hx hb dX11_begin_2 rfl (lv_at hl 0 rfl) ?_
  refine lv_bipush (v := 76) hx hb dX11_begin_3 (by decide) ?_
  refine lv_icmp_ge (tgt := 18) hx hb dX11_begin_5 (by decide) (fun h9 => absurd h9 (by decide)) (fun _ => ?_)
  refine lv_aload_n hx hb dX11_begin_8 rfl (lv_at hl 1 rfl) ?_
  refine lv_iload_n hx hb dX11_begin_9 rfl (lv_at hl 0 rfl) ?_
  refine lv_iconst (v := 0) hx hb dX11_begin_10 (by decide) ?_
  refine va_iast hx hb hK hP hD hS 0 0 rfl rfl (by unfold vp_in; decide) dX11_begin_11 (fun H locs hP hD hS => ?_)
  rw [kw_upd0] at hP hD
  have hP : va_P D vwCl [(to, .inl (y 0, 228, .inl (fun _ => 0)))] H := hP
  have hD : va_D A [(to, .inl (y 0, 228, .inl (fun _ => 0)))] := hD
  refine lv_iinc (v := 6) (lv' := [(2, .int 6), (0, .ref to), (1, .int x)]) hx hb dX11_begin_12 hl (k := 0) rfl (by decide) (by decide) rfl (fun ls hl => ?_)
  refine lv_goto (tgt := 2) hx hb dX11_begin_15 (by decide) ?_
  refine lv_iload_n hx hb dX11_begin_2 rfl (lv_at hl 0 rfl) ?_
  refine lv_bipush (v := 76) hx hb dX11_begin_3 (by decide) ?_
  refine lv_icmp_ge (tgt := 18) hx hb dX11_begin_5 (by decide) (fun h9 => absurd h9 (by decide)) (fun _ => ?_)
  refine lv_aload_n hx hb dX11_begin_8 rfl (lv_at hl 1 rfl) ?_
  refine lv_iload_n hx hb dX11_begin_9 rfl (lv_at hl 0 rfl) ?_
  refine lv_iconst (v := 0) hx hb dX11_begin_10 (by decide) ?_
  refine va_iast hx hb hK hP hD hS 0 0 rfl rfl (by unfold vp_in; decide) dX11_begin_11 (fun H locs hP hD hS => ?_)
  rw [kw_upd0] at hP hD
  have hP : va_P D vwCl [(to, .inl (y 0, 228, .inl (fun _ => 0)))] H := hP
  have hD : va_D A [(to, .inl (y 0, 228, .inl (fun _ => 0)))] := hD
  refine lv_iinc (v := 7) (lv' := [(2, .int 7), (0, .ref to), (1, .int x)]) hx hb dX11_begin_12 hl (k := 0) rfl (by decide) (by decide) rfl (fun ls hl => ?_)
  refine lv_goto (tgt := 2) hx hb dX11_begin_15 (by decide) ?_
  refine lv_iload_n hx hb dX11_begin_2 rfl (lv_at hl 0 rfl) ?_
  refine lv_bipush (v := 76) hx hb dX11_begin_3 (by decide) ?_
  refine lv_icmp_ge (tgt := 18) hx hb dX11_begin_5 (by decide) (fun h9 => absurd h9 (by decide)) (fun _ => ?_)
  refine lv_aload_n hx hb dX11_begin_8 rfl (lv_at hl 1 rfl) ?_
  refine lv_iload_n hx hb dX11_begin_9 rfl (lv_at hl 0 rfl) ?_
  refine lv_iconst (v := 0) hx hb dX11_begin_10 (by decide) ?_
  refine va_iast hx hb hK hP hD hS 0 0 rfl rfl (by unfold vp_in; decide) dX11_begin_11 (fun H locs hP hD hS => ?_)
  rw [kw_upd0] at hP hD
  have hP : va_P D vwCl [(to, .inl (y 0, 228, .inl (fun _ => 0)))] H := hP
  have hD : va_D A [(to, .inl (y 0, 228, .inl (fun _ => 0)))] := hD
  refine lv_iinc (v := 8) (lv' := [(2, .int 8), (0, .ref to), (1, .int x)]) hx hb dX11_begin_12 hl (k := 0) rfl (by decide) (by decide) rfl (fun ls hl => ?_)
  refine lv_goto (tgt := 2) hx hb dX11_begin_15 (by decide) ?_
  refine lv_iload_n hx hb dX11_begin_2 rfl (lv_at hl 0 rfl) ?_
  refine lv_bipush (v := 76) hx hb dX11_begin_3 (by decide) ?_
  refine lv_icmp_ge (tgt := 18) hx hb dX11_begin_5 (by decide) (fun h9 => absurd h9 (by decide)) (fun _ => ?_)
  refine lv_aload_n hx hb dX11_begin_8 rfl (lv_at hl 1 rfl) ?_
  refine lv_iload_n hx hb dX11_begin_9 rfl (lv_at hl 0 rfl) ?_
  refine lv_iconst (v := 0) hx hb dX11_begin_10 (by decide) ?_
  refine va_iast hx hb hK hP hD hS 0 0 rfl rfl (by unfold vp_in; decide) dX11_begin_11 (fun H locs hP hD hS => ?_)
  rw [kw_upd0] at hP hD
  have hP : va_P D vwCl [(to, .inl (y 0, 228, .inl (fun _ => 0)))] H := hP
  have hD : va_D A [(to, .inl (y 0, 228, .inl (fun _ => 0)))] := hD
  refine lv_iinc (v := 9) (lv' := [(2, .int 9), (0, .ref to), (1, .int x)]) hx hb dX11_begin_12 hl (k := 0) rfl (by decide) (by decide) rfl (fun ls hl => ?_)
  refine lv_goto (tgt := 2) hx hb dX11_begin_15 (by decide) ?_
  refine lv_iload_n hx hb dX11_begin_2 rfl (lv_at hl 0 rfl) ?_
  refine lv_bipush (v := 76) hx hb dX11_begin_3 (by decide) ?_
  refine lv_icmp_ge (tgt := 18) hx hb dX11_begin_5 (by decide) (fun h9 => absurd h9 (by decide)) (fun _ => ?_)
  refine lv_aload_n hx hb dX11_begin_8 rfl (lv_at hl 1 rfl) ?_
  refine lv_iload_n hx hb dX11_begin_9 rfl (lv_at hl 0 rfl) ?_
  refine lv_iconst (v := 0) hx hb dX11_begin_10 (by decide) ?_
  refine va_iast hx hb hK hP hD hS 0 0 rfl rfl (by unfold vp_in; decide) dX11_begin_11 (fun H locs hP hD hS => ?_)
  rw [kw_upd0] at hP hD
  have hP : va_P D vwCl [(to, .inl (y 0, 228, .inl (fun _ => 0)))] H := hP
  have hD : va_D A [(to, .inl (y 0, 228, .inl (fun _ => 0)))] := hD
  refine lv_iinc (v := 10) (lv' := [(2, .int 10), (0, .ref to), (1, .int x)]) hx hb dX11_begin_12 hl (k := 0) rfl (by decide) (by decide) rfl (fun ls hl => ?_)
  refine lv_goto (tgt := 2) hx hb dX11_begin_15 (by decide) ?_
  refine lv_iload_n hx hb dX11_begin_2 rfl (lv_at hl 0 rfl) ?_
  refine lv_bipush (v := 76) hx hb dX11_begin_3 (by decide) ?_
  refine lv_icmp_ge (tgt := 18) hx hb dX11_begin_5 (by decide) (fun h9 => absurd h9 (by decide)) (fun _ => ?_)
  refine lv_aload_n hx hb dX11_begin_8 rfl (lv_at hl 1 rfl) ?_
  refine lv_iload_n hx hb dX11_begin_9 rfl (lv_at hl 0 rfl) ?_
  refine lv_iconst (v := 0) hx hb dX11_begin_10 (by decide) ?_
  refine va_iast hx hb hK hP hD hS 0 0 rfl rfl (by unfold vp_in; decide) dX11_begin_11 (fun H locs hP hD hS => ?_)
  rw [kw_upd0] at hP hD
  have hP : va_P D vwCl [(to, .inl (y 0, 228, .inl (fun _ => 0)))] H := hP
  have hD : va_D A [(to, .inl (y 0, 228, .inl (fun _ => 0)))] := hD
  refine lv_iinc (v := 11) (lv' := [(2, .int 11), (0, .ref to), (1, .int x)]) hx hb dX11_begin_12 hl (k := 0) rfl (by decide) (by decide) rfl (fun ls hl => ?_)
  refine lv_goto (tgt := 2) hx hb dX11_begin_15 (by decide) ?_
  refine lv_iload_n hx hb dX11_begin_2 rfl (lv_at hl 0 rfl) ?_
  refine lv_bipush (v := 76) hx hb dX11_begin_3 (by decide) ?_
  refine lv_icmp_ge (tgt := 18) hx hb dX11_begin_5 (by decide) (fun h9 => absurd h9 (by decide)) (fun _ => ?_)
  refine lv_aload_n hx hb dX11_begin_8 rfl (lv_at hl 1 rfl) ?_
  refine lv_iload_n hx hb dX11_begin_9 rfl (lv_at hl 0 rfl) ?_
  refine lv_iconst (v := 0) hx hb dX11_begin_10 (by decide) ?_
  refine va_iast hx hb hK hP hD hS 0 0 rfl rfl (by unfold vp_in; decide) dX11_begin_11 (fun H locs hP hD hS => ?_)
  rw [kw_upd0] at hP hD
  have hP : va_P D vwCl [(to, .inl (y 0, 228, .inl (fun _ => 0)))] H := hP
  have hD : va_D A [(to, .inl (y 0, 228, .inl (fun _ => 0)))] := hD
  refine lv_iinc (v := 12) (lv' := [(2, .int 12), (0, .ref to), (1, .int x)]) hx hb dX11_begin_12 hl (k := 0) rfl (by decide) (by decide) rfl (fun ls hl => ?_)
  refine lv_goto (tgt := 2) hx hb dX11_begin_15 (by decide) ?_
  refine lv_iload_n hx hb dX11_begin_2 rfl (lv_at hl 0 rfl) ?_
  refine lv_bipush (v := 76) hx hb dX11_begin_3 (by decide) ?_
  refine lv_icmp_ge (tgt := 18) hx hb dX11_begin_5 (by decide) (fun h9 => absurd h9 (by decide)) (fun _ => ?_)
  refine lv_aload_n hx hb dX11_begin_8 rfl (lv_at hl 1 rfl) ?_
  refine lv_iload_n hx hb dX11_begin_9 rfl (lv_at hl 0 rfl) ?_
  refine lv_iconst (v := 0) hx hb dX11_begin_10 (by decide) ?_
  refine va_iast hx hb hK hP hD hS 0 0 rfl rfl (by unfold vp_in; decide) dX11_begin_11 (fun H locs hP hD hS => ?_)
  rw [kw_upd0] at hP hD
  have hP : va_P D vwCl [(to, .inl (y 0, 228, .inl (fun _ => 0)))] H := hP
  have hD : va_D A [(to, .inl (y 0, 228, .inl (fun _ => 0)))] := hD
  refine lv_iinc (v := 13) (lv' := [(2, .int 13), (0, .ref to), (1, .int x)]) hx hb dX11_begin_12 hl (k := 0) rfl (by decide) (by decide) rfl (fun ls hl => ?_)
  refine lv_goto (tgt := 2) hx hb dX11_begin_15 (by decide) ?_
  refine lv_iload_n hx hb dX11_begin_2 rfl (lv_at hl 0 rfl) ?_
  refine lv_bipush (v := 76) hx hb dX11_begin_3 (by decide) ?_
  refine lv_icmp_ge (tgt := 18) hx hb dX11_begin_5 (by decide) (fun h9 => absurd h9 (by decide)) (fun _ => ?_)
  refine lv_aload_n hx hb dX11_begin_8 rfl (lv_at hl 1 rfl) ?_
  refine lv_iload_n hx hb dX11_begin_9 rfl (lv_at hl 0 rfl) ?_
  refine lv_iconst (v := 0) hx hb dX11_begin_10 (by decide) ?_
  refine va_iast hx hb hK hP hD hS 0 0 rfl rfl (by unfold vp_in; decide) dX11_begin_11 (fun H locs hP hD hS => ?_)
  rw [kw_upd0] at hP hD
  have hP : va_P D vwCl [(to, .inl (y 0, 228, .inl (fun _ => 0)))] H := hP
  have hD : va_D A [(to, .inl (y 0, 228, .inl (fun _ => 0)))] := hD
  refine lv_iinc (v := 14) (lv' := [(2, .int 14), (0, .ref to), (1, .int x)]) hx hb dX11_begin_12 hl (k := 0) rfl (by decide) (by decide) rfl (fun ls hl => ?_)
  refine lv_goto (tgt := 2) hx hb dX11_begin_15 (by decide) ?_
  refine lv_iload_n hx hb dX11_begin_2 rfl (lv_at hl 0 rfl) ?_
  refine lv_bipush (v := 76) hx hb dX11_begin_3 (by decide) ?_
  refine lv_icmp_ge (tgt := 18) hx hb dX11_begin_5 (by decide) (fun h9 => absurd h9 (by decide)) (fun _ => ?_)
  refine lv_aload_n hx hb dX11_begin_8 rfl (lv_at hl 1 rfl) ?_
  refine lv_iload_n hx hb dX11_begin_9 rfl (lv_at hl 0 rfl) ?_
  refine lv_iconst (v := 0) hx hb dX11_begin_10 (by decide) ?_
  refine va_iast hx hb hK hP hD hS 0 0 rfl rfl (by unfold vp_in; decide) dX11_begin_11 (fun H locs hP hD hS => ?_)
  rw [kw_upd0] at hP hD
  have hP : va_P D vwCl [(to, .inl (y 0, 228, .inl (fun _ => 0)))] H := hP
  have hD : va_D A [(to, .inl (y 0, 228, .inl (fun _ => 0)))] := hD
  refine lv_iinc (v := 15) (lv' := [(2, .int 15), (0, .ref to), (1, .int x)]) hx hb dX11_begin_12 hl (k := 0) rfl (by decide) (by decide) rfl (fun ls hl => ?_)
  refine lv_goto (tgt := 2) hx hb dX11_begin_15 (by decide) ?_
  refine lv_iload_n hx hb dX11_begin_2 rfl (lv_at hl 0 rfl) ?_
  refine lv_bipush (v := 76) hx hb dX11_begin_3 (by decide) ?_
  refine lv_icmp_ge (tgt := 18) hx hb dX11_begin_5 (by decide) (fun h9 => absurd h9 (by decide)) (fun _ => ?_)
  refine lv_aload_n hx hb dX11_begin_8 rfl (lv_at hl 1 rfl) ?_
  refine lv_iload_n hx hb dX11_begin_9 rfl (lv_at hl 0 rfl) ?_
  refine lv_iconst (v := 0) hx hb dX11_begin_10 (by decide) ?_
  refine va_iast hx hb hK hP hD hS 0 0 rfl rfl (by unfold vp_in; decide) dX11_begin_11 (fun H locs hP hD hS => ?_)
  rw [kw_upd0] at hP hD
  have hP : va_P D vwCl [(to, .inl (y 0, 228, .inl (fun _ => 0)))] H := hP
  have hD : va_D A [(to, .inl (y 0, 228, .inl (fun _ => 0)))] := hD
  refine lv_iinc (v := 16) (lv' := [(2, .int 16), (0, .ref to), (1, .int x)]) hx hb dX11_begin_12 hl (k := 0) rfl (by decide) (by decide) rfl (fun ls hl => ?_)
  refine lv_goto (tgt := 2) hx hb dX11_begin_15 (by decide) ?_
  refine lv_iload_n hx hb dX11_begin_2 rfl (lv_at hl 0 rfl) ?_
  refine lv_bipush (v := 76) hx hb dX11_begin_3 (by decide) ?_
  refine lv_icmp_ge (tgt := 18) hx hb dX11_begin_5 (by decide) (fun h9 => absurd h9 (by decide)) (fun _ => ?_)
  refine lv_aload_n hx hb dX11_begin_8 rfl (lv_at hl 1 rfl) ?_
  refine lv_iload_n hx hb dX11_begin_9 rfl (lv_at hl 0 rfl) ?_
  refine lv_iconst (v := 0) hx hb dX11_begin_10 (by decide) ?_
  refine va_iast hx hb hK hP hD hS 0 0 rfl rfl (by unfold vp_in; decide) dX11_begin_11 (fun H locs hP hD hS => ?_)
  rw [kw_upd0] at hP hD
  have hP : va_P D vwCl [(to, .inl (y 0, 228, .inl (fun _ => 0)))] H := hP
  have hD : va_D A [(to, .inl (y 0, 228, .inl (fun _ => 0)))] := hD
  refine lv_iinc (v := 17) (lv' := [(2, .int 17), (0, .ref to), (1, .int x)]) hx hb dX11_begin_12 hl (k := 0) rfl (by decide) (by decide) rfl (fun ls hl => ?_)
  refine lv_goto (tgt := 2) hx hb dX11_begin_15 (by decide) ?_
  refine lv_iload_n hx hb dX11_begin_2 rfl (lv_at hl 0 rfl) ?_
  refine lv_bipush (v := 76) hx hb dX11_begin_3 (by decide) ?_
  refine lv_icmp_ge (tgt := 18) hx hb dX11_begin_5 (by decide) (fun h9 => absurd h9 (by decide)) (fun _ => ?_)
  refine lv_aload_n hx hb dX11_begin_8 rfl (lv_at hl 1 rfl) ?_
  refine lv_iload_n hx hb dX11_begin_9 rfl (lv_at hl 0 rfl) ?_
  refine lv_iconst (v := 0) hx hb dX11_begin_10 (by decide) ?_
  refine va_iast hx hb hK hP hD hS 0 0 rfl rfl (by unfold vp_in; decide) dX11_begin_11 (fun H locs hP hD hS => ?_)
  rw [kw_upd0] at hP hD
  have hP : va_P D vwCl [(to, .inl (y 0, 228, .inl (fun _ => 0)))] H := hP
  have hD : va_D A [(to, .inl (y 0, 228, .inl (fun _ => 0)))] := hD
  refine lv_iinc (v := 18) (lv' := [(2, .int 18), (0, .ref to), (1, .int x)]) hx hb dX11_begin_12 hl (k := 0) rfl (by decide) (by decide) rfl (fun ls hl => ?_)
  refine lv_goto (tgt := 2) hx hb dX11_begin_15 (by decide) ?_
  refine lv_iload_n hx hb dX11_begin_2 rfl (lv_at hl 0 rfl) ?_
  refine lv_bipush (v := 76) hx hb dX11_begin_3 (by decide) ?_
  refine lv_icmp_ge (tgt := 18) hx hb dX11_begin_5 (by decide) (fun h9 => absurd h9 (by decide)) (fun _ => ?_)
  refine lv_aload_n hx hb dX11_begin_8 rfl (lv_at hl 1 rfl) ?_
  refine lv_iload_n hx hb dX11_begin_9 rfl (lv_at hl 0 rfl) ?_
  refine lv_iconst (v := 0) hx hb dX11_begin_10 (by decide) ?_
  refine va_iast hx hb hK hP hD hS 0 0 rfl rfl (by unfold vp_in; decide) dX11_begin_11 (fun H locs hP hD hS => ?_)
  rw [kw_upd0] at hP hD
  have hP : va_P D vwCl [(to, .inl (y 0, 228, .inl (fun _ => 0)))] H := hP
  have hD : va_D A [(to, .inl (y 0, 228, .inl (fun _ => 0)))] := hD
  refine lv_iinc (v := 19) (lv' := [(2, .int 19), (0, .ref to), (1, .int x)]) hx hb dX11_begin_12 hl (k := 0) rfl (by decide) (by decide) rfl (fun ls hl => ?_)
  refine lv_goto (tgt := 2) hx hb dX11_begin_15 (by decide) ?_
  refine lv_iload_n hx hb dX11_begin_2 rfl (lv_at hl 0 rfl) ?_
  refine lv_bipush (v := 76) hx hb dX11_begin_3 (by decide) ?_
  refine lv_icmp_ge (tgt := 18) hx hb dX11_begin_5 (by decide) (fun h9 => absurd h9 (by decide)) (fun _ => ?_)
  refine lv_aload_n hx hb dX11_begin_8 rfl (lv_at hl 1 rfl) ?_
  refine lv_iload_n hx hb dX11_begin_9 rfl (lv_at hl 0 rfl) ?_
  refine lv_iconst (v := 0) hx hb dX11_begin_10 (by decide) ?_
  refine va_iast hx hb hK hP hD hS 0 0 rfl rfl (by unfold vp_in; decide) dX11_begin_11 (fun H locs hP hD hS => ?_)
  rw [kw_upd0] at hP hD
  have hP : va_P D vwCl [(to, .inl (y 0, 228, .inl (fun _ => 0)))] H := hP
  have hD : va_D A [(to, .inl (y 0, 228, .inl (fun _ => 0)))] := hD
  refine lv_iinc (v := 20) (lv' := [(2, .int 20), (0, .ref to), (1, .int x)]) hx hb dX11_begin_12 hl (k := 0) rfl (by decide) (by decide) rfl (fun ls hl => ?_)
  refine lv_goto (tgt := 2) hx hb dX11_begin_15 (by decide) ?_
  refine lv_iload_n hx hb dX11_begin_2 rfl (lv_at hl 0 rfl) ?_
  refine lv_bipush (v := 76) hx hb dX11_begin_3 (by decide) ?_
  refine lv_icmp_ge (tgt := 18) hx hb dX11_begin_5 (by decide) (fun h9 => absurd h9 (by decide)) (fun _ => ?_)
  refine lv_aload_n hx hb dX11_begin_8 rfl (lv_at hl 1 rfl) ?_
  refine lv_iload_n hx hb dX11_begin_9 rfl (lv_at hl 0 rfl) ?_
  refine lv_iconst (v := 0) hx hb dX11_begin_10 (by decide) ?_
  refine va_iast hx hb hK hP hD hS 0 0 rfl rfl (by unfold vp_in; decide) dX11_begin_11 (fun H locs hP hD hS => ?_)
  rw [kw_upd0] at hP hD
  have hP : va_P D vwCl [(to, .inl (y 0, 228, .inl (fun _ => 0)))] H := hP
  have hD : va_D A [(to, .inl (y 0, 228, .inl (fun _ => 0)))] := hD
  refine lv_iinc (v := 21) (lv' := [(2, .int 21), (0, .ref to), (1, .int x)]) hx hb dX11_begin_12 hl (k := 0) rfl (by decide) (by decide) rfl (fun ls hl => ?_)
  refine lv_goto (tgt := 2) hx hb dX11_begin_15 (by decide) ?_
  refine lv_iload_n hx hb dX11_begin_2 rfl (lv_at hl 0 rfl) ?_
  refine lv_bipush (v := 76) hx hb dX11_begin_3 (by decide) ?_
  refine lv_icmp_ge (tgt := 18) hx hb dX11_begin_5 (by decide) (fun h9 => absurd h9 (by decide)) (fun _ => ?_)
  refine lv_aload_n hx hb dX11_begin_8 rfl (lv_at hl 1 rfl) ?_
  refine lv_iload_n hx hb dX11_begin_9 rfl (lv_at hl 0 rfl) ?_
  refine lv_iconst (v := 0) hx hb dX11_begin_10 (by decide) ?_
  refine va_iast hx hb hK hP hD hS 0 0 rfl rfl (by unfold vp_in; decide) dX11_begin_11 (fun H locs hP hD hS => ?_)
  rw [kw_upd0] at hP hD
  have hP : va_P D vwCl [(to, .inl (y 0, 228, .inl (fun _ => 0)))] H := hP
  have hD : va_D A [(to, .inl (y 0, 228, .inl (fun _ => 0)))] := hD
  refine lv_iinc (v := 22) (lv' := [(2, .int 22), (0, .ref to), (1, .int x)]) hx hb dX11_begin_12 hl (k := 0) rfl (by decide) (by decide) rfl (fun ls hl => ?_)
  refine lv_goto (tgt := 2) hx hb dX11_begin_15 (by decide) ?_
  refine lv_iload_n hx hb dX11_begin_2 rfl (lv_at hl 0 rfl) ?_
  refine lv_bipush (v := 76) hx hb dX11_begin_3 (by decide) ?_
  refine lv_icmp_ge (tgt := 18) hx hb dX11_begin_5 (by decide) (fun h9 => absurd h9 (by decide)) (fun _ => ?_)
  refine lv_aload_n hx hb dX11_begin_8 rfl (lv_at hl 1 rfl) ?_
  refine lv_iload_n hx hb dX11_begin_9 rfl (lv_at hl 0 rfl) ?_
  refine lv_iconst (v := 0) hx hb dX11_begin_10 (by decide) ?_
  refine va_iast hx hb hK hP hD hS 0 0 rfl rfl (by unfold vp_in; decide) dX11_begin_11 (fun H locs hP hD hS => ?_)
  rw [kw_upd0] at hP hD
  have hP : va_P D vwCl [(to, .inl (y 0, 228, .inl (fun _ => 0)))] H := hP
  have hD : va_D A [(to, .inl (y 0, 228, .inl (fun _ => 0)))] := hD
  refine lv_iinc (v := 23) (lv' := [(2, .int 23), (0, .ref to), (1, .int x)]) hx hb dX11_begin_12 hl (k := 0) rfl (by decide) (by decide) rfl (fun ls hl => ?_)
  refine lv_goto (tgt := 2) hx hb dX11_begin_15 (by decide) ?_
  refine lv_iload_n hx hb dX11_begin_2 rfl (lv_at hl 0 rfl) ?_
  refine lv_bipush (v := 76) hx hb dX11_begin_3 (by decide) ?_
  refine lv_icmp_ge (tgt := 18) hx hb dX11_begin_5 (by decide) (fun h9 => absurd h9 (by decide)) (fun _ => ?_)
  refine lv_aload_n hx hb dX11_begin_8 rfl (lv_at hl 1 rfl) ?_
  refine lv_iload_n hx hb dX11_begin_9 rfl (lv_at hl 0 rfl) ?_
  refine lv_iconst (v := 0) hx hb dX11_begin_10 (by decide) ?_
  refine va_iast hx hb hK hP hD hS 0 0 rfl rfl (by unfold vp_in; decide) dX11_begin_11 (fun H locs hP hD hS => ?_)
  rw [kw_upd0] at hP hD
  have hP : va_P D vwCl [(to, .inl (y 0, 228, .inl (fun _ => 0)))] H := hP
  have hD : va_D A [(to, .inl (y 0, 228, .inl (fun _ => 0)))] := hD
  refine lv_iinc (v := 24) (lv' := [(2, .int 24), (0, .ref to), (1, .int x)]) hx hb dX11_begin_12 hl (k := 0) rfl (by decide) (by decide) rfl (fun ls hl => ?_)
  refine lv_goto (tgt := 2) hx hb dX11_begin_15 (by decide) ?_
  refine lv_iload_n hx hb dX11_begin_2 rfl (lv_at hl 0 rfl) ?_
  refine lv_bipush (v := 76) hx hb dX11_begin_3 (by decide) ?_
  refine lv_icmp_ge (tgt := 18) hx hb dX11_begin_5 (by decide) (fun h9 => absurd h9 (by decide)) (fun _ => ?_)
  refine lv_aload_n hx hb dX11_begin_8 rfl (lv_at hl 1 rfl) ?_
  refine lv_iload_n hx hb dX11_begin_9 rfl (lv_at hl 0 rfl) ?_
  refine lv_iconst (v := 0) hx hb dX11_begin_10 (by decide) ?_
  refine va_iast hx hb hK hP hD hS 0 0 rfl rfl (by unfold vp_in; decide) dX11_begin_11 (fun H locs hP hD hS => ?_)
  rw [kw_upd0] at hP hD
  have hP : va_P D vwCl [(to, .inl (y 0, 228, .inl (fun _ => 0)))] H := hP
  have hD : va_D A [(to, .inl (y 0, 228, .inl (fun _ => 0)))] := hD
  refine lv_iinc (v := 25) (lv' := [(2, .int 25), (0, .ref to), (1, .int x)]) hx hb dX11_begin_12 hl (k := 0) rfl (by decide) (by decide) rfl (fun ls hl => ?_)
  refine lv_goto (tgt := 2) hx hb dX11_begin_15 (by decide) ?_
  refine lv_iload_n hx hb dX11_begin_2 rfl (lv_at hl 0 rfl) ?_
  refine lv_bipush (v := 76) hx hb dX11_begin_3 (by decide) ?_
  refine lv_icmp_ge (tgt := 18) hx hb dX11_begin_5 (by decide) (fun h9 => absurd h9 (by decide)) (fun _ => ?_)
  refine lv_aload_n hx hb dX11_begin_8 rfl (lv_at hl 1 rfl) ?_
  refine lv_iload_n hx hb dX11_begin_9 rfl (lv_at hl 0 rfl) ?_
  refine lv_iconst (v := 0) hx hb dX11_begin_10 (by decide) ?_
  refine va_iast hx hb hK hP hD hS 0 0 rfl rfl (by unfold vp_in; decide) dX11_begin_11 (fun H locs hP hD hS => ?_)
  rw [kw_upd0] at hP hD
  have hP : va_P D vwCl [(to, .inl (y 0, 228, .inl (fun _ => 0)))] H := hP
  have hD : va_D A [(to, .inl (y 0, 228, .inl (fun _ => 0)))] := hD
  refine lv_iinc (v := 26) (lv' := [(2, .int 26), (0, .ref to), (1, .int x)]) hx hb dX11_begin_12 hl (k := 0) rfl (by decide) (by decide) rfl (fun ls hl => ?_)
  refine lv_goto (tgt := 2) hx hb dX11_begin_15 (by decide) ?_
  refine lv_iload_n hx hb dX11_begin_2 rfl (lv_at hl 0 rfl) ?_
  refine lv_bipush (v := 76) hx hb dX11_begin_3 (by decide) ?_
  refine lv_icmp_ge (tgt := 18) hx hb dX11_begin_5 (by decide) (fun h9 => absurd h9 (by decide)) (fun _ => ?_)
  refine lv_aload_n hx hb dX11_begin_8 rfl (lv_at hl 1 rfl) ?_
  refine lv_iload_n hx hb dX11_begin_9 rfl (lv_at hl 0 rfl) ?_
  refine lv_iconst (v := 0) hx hb dX11_begin_10 (by decide) ?_
  refine va_iast hx hb hK hP hD hS 0 0 rfl rfl (by unfold vp_in; decide) dX11_begin_11 (fun H locs hP hD hS => ?_)
  rw [kw_upd0] at hP hD
  have hP : va_P D vwCl [(to, .inl (y 0, 228, .inl (fun _ => 0)))] H := hP
  have hD : va_D A [(to, .inl (y 0, 228, .inl (fun _ => 0)))] := hD
  refine lv_iinc (v := 27) (lv' := [(2, .int 27), (0, .ref to), (1, .int x)]) hx hb dX11_begin_12 hl (k := 0) rfl (by decide) (by decide) rfl (fun ls hl => ?_)
  refine lv_goto (tgt := 2) hx hb dX11_begin_15 (by decide) ?_
  refine lv_iload_n hx hb dX11_begin_2 rfl (lv_at hl 0 rfl) ?_
  refine lv_bipush (v := 76) hx hb dX11_begin_3 (by decide) ?_
  refine lv_icmp_ge (tgt := 18) hx hb dX11_begin_5 (by decide) (fun h9 => absurd h9 (by decide)) (fun _ => ?_)
  refine lv_aload_n hx hb dX11_begin_8 rfl (lv_at hl 1 rfl) ?_
  refine lv_iload_n hx hb dX11_begin_9 rfl (lv_at hl 0 rfl) ?_
  refine lv_iconst (v := 0) hx hb dX11_begin_10 (by decide) ?_
  refine va_iast hx hb hK hP hD hS 0 0 rfl rfl (by unfold vp_in; decide) dX11_begin_11 (fun H locs hP hD hS => ?_)
  rw [kw_upd0] at hP hD
  have hP : va_P D vwCl [(to, .inl (y 0, 228, .inl (fun _ => 0)))] H := hP
  have hD : va_D A [(to, .inl (y 0, 228, .inl (fun _ => 0)))] := hD
  refine lv_iinc (v := 28) (lv' := [(2, .int 28), (0, .ref to), (1, .int x)]) hx hb dX11_begin_12 hl (k := 0) rfl (by decide) (by decide) rfl (fun ls hl => ?_)
  refine lv_goto (tgt := 2) hx hb dX11_begin_15 (by decide) ?_
  refine lv_iload_n hx hb dX11_begin_2 rfl (lv_at hl 0 rfl) ?_
  refine lv_bipush (v := 76) hx hb dX11_begin_3 (by decide) ?_
  refine lv_icmp_ge (tgt := 18) hx hb dX11_begin_5 (by decide) (fun h9 => absurd h9 (by decide)) (fun _ => ?_)
  refine lv_aload_n hx hb dX11_begin_8 rfl (lv_at hl 1 rfl) ?_
  refine lv_iload_n hx hb dX11_begin_9 rfl (lv_at hl 0 rfl) ?_
  refine lv_iconst (v := 0) hx hb dX11_begin_10 (by decide) ?_
  refine va_iast hx hb hK hP hD hS 0 0 rfl rfl (by unfold vp_in; decide) dX11_begin_11 (fun H locs hP hD hS => ?_)
  rw [kw_upd0] at hP hD
  have hP : va_P D vwCl [(to, .inl (y 0, 228, .inl (fun _ => 0)))] H := hP
  have hD : va_D A [(to, .inl (y 0, 228, .inl (fun _ => 0)))] := hD
  refine lv_iinc (v := 29) (lv' := [(2, .int 29), (0, .ref to), (1, .int x)]) hx hb dX11_begin_12 hl (k := 0) rfl (by decide) (by decide) rfl (fun ls hl => ?_)
  refine lv_goto (tgt := 2) hx hb dX11_begin_15 (by decide) ?_
  refine lv_iload_n hx hb dX11_begin_2 rfl (lv_at hl 0 rfl) ?_
  refine lv_bipush (v := 76) hx hb dX11_begin_3 (by decide) ?_
  refine lv_icmp_ge (tgt := 18) hx hb dX11_begin_5 (by decide) (fun h9 => absurd h9 (by decide)) (fun _ => ?_)
  refine lv_aload_n hx hb dX11_begin_8 rfl (lv_at hl 1 rfl) ?_
  refine lv_iload_n hx hb dX11_begin_9 rfl (lv_at hl 0 rfl) ?_
  refine lv_iconst (v := 0) hx hb dX11_begin_10 (by decide) ?_
  refine va_iast hx hb hK hP hD hS 0 0 rfl rfl (by unfold vp_in; decide) dX11_begin_11 (fun H locs hP hD hS => ?_)
  rw [kw_upd0] at hP hD
  have hP : va_P D vwCl [(to, .inl (y 0, 228, .inl (fun _ => 0)))] H := hP
  have hD : va_D A [(to, .inl (y 0, 228, .inl (fun _ => 0)))] := hD
  refine lv_iinc (v := 30) (lv' := [(2, .int 30), (0, .ref to), (1, .int x)]) hx hb dX11_begin_12 hl (k := 0) rfl (by decide) (by decide) rfl (fun ls hl => ?_)
  refine lv_goto (tgt := 2) hx hb dX11_begin_15 (by decide) ?_
  refine lv_iload_n hx hb dX11_begin_2 rfl (lv_at hl 0 rfl) ?_
  refine lv_bipush (v := 76) hx hb dX11_begin_3 (by decide) ?_
  refine lv_icmp_ge (tgt := 18) hx hb dX11_begin_5 (by decide) (fun h9 => absurd h9 (by decide)) (fun _ => ?_)
  refine lv_aload_n hx hb dX11_begin_8 rfl (lv_at hl 1 rfl) ?_
  refine lv_iload_n hx hb dX11_begin_9 rfl (lv_at hl 0 rfl) ?_
  refine lv_iconst (v := 0) hx hb dX11_begin_10 (by decide) ?_
  refine va_iast hx hb hK hP hD hS 0 0 rfl rfl (by unfold vp_in; decide) dX11_begin_11 (fun H locs hP hD hS => ?_)
  rw [kw_upd0] at hP hD
  have hP : va_P D vwCl [(to, .inl (y 0, 228, .inl (fun _ => 0)))] H := hP
  have hD : va_D A [(to, .inl (y 0, 228, .inl (fun _ => 0)))] := hD
  refine lv_iinc (v := 31) (lv' := [(2, .int 31), (0, .ref to), (1, .int x)]) hx hb dX11_begin_12 hl (k := 0) rfl (by decide) (by decide) rfl (fun ls hl => ?_)
  refine lv_goto (tgt := 2) hx hb dX11_begin_15 (by decide) ?_
  refine lv_iload_n hx hb dX11_begin_2 rfl (lv_at hl 0 rfl) ?_
  refine lv_bipush (v := 76) hx hb dX11_begin_3 (by decide) ?_
  refine lv_icmp_ge (tgt := 18) hx hb dX11_begin_5 (by decide) (fun h9 => absurd h9 (by decide)) (fun _ => ?_)
  refine lv_aload_n hx hb dX11_begin_8 rfl (lv_at hl 1 rfl) ?_
  refine lv_iload_n hx hb dX11_begin_9 rfl (lv_at hl 0 rfl) ?_
  refine lv_iconst (v := 0) hx hb dX11_begin_10 (by decide) ?_
  refine va_iast hx hb hK hP hD hS 0 0 rfl rfl (by unfold vp_in; decide) dX11_begin_11 (fun H locs hP hD hS => ?_)
  rw [kw_upd0] at hP hD
  have hP : va_P D vwCl [(to, .inl (y 0, 228, .inl (fun _ => 0)))] H := hP
  have hD : va_D A [(to, .inl (y 0, 228, .inl (fun _ => 0)))] := hD
  refine lv_iinc (v := 32) (lv' := [(2, .int 32), (0, .ref to), (1, .int x)]) hx hb dX11_begin_12 hl (k := 0) rfl (by decide) (by decide) rfl (fun ls hl => ?_)
  refine lv_goto (tgt := 2) hx hb dX11_begin_15 (by decide) ?_
  refine lv_iload_n hx hb dX11_begin_2 rfl (lv_at hl 0 rfl) ?_
  refine lv_bipush (v := 76) hx hb dX11_begin_3 (by decide) ?_
  refine lv_icmp_ge (tgt := 18) hx hb dX11_begin_5 (by decide) (fun h9 => absurd h9 (by decide)) (fun _ => ?_)
  refine lv_aload_n hx hb dX11_begin_8 rfl (lv_at hl 1 rfl) ?_
  refine lv_iload_n hx hb dX11_begin_9 rfl (lv_at hl 0 rfl) ?_
  refine lv_iconst (v := 0) hx hb dX11_begin_10 (by decide) ?_
  refine va_iast hx hb hK hP hD hS 0 0 rfl rfl (by unfold vp_in; decide) dX11_begin_11 (fun H locs hP hD hS => ?_)
  rw [kw_upd0] at hP hD
  have hP : va_P D vwCl [(to, .inl (y 0, 228, .inl (fun _ => 0)))] H := hP
  have hD : va_D A [(to, .inl (y 0, 228, .inl (fun _ => 0)))] := hD
  refine lv_iinc (v := 33) (lv' := [(2, .int 33), (0, .ref to), (1, .int x)]) hx hb dX11_begin_12 hl (k := 0) rfl (by decide) (by decide) rfl (fun ls hl => ?_)
  refine lv_goto (tgt := 2) hx hb dX11_begin_15 (by decide) ?_
  refine lv_iload_n hx hb dX11_begin_2 rfl (lv_at hl 0 rfl) ?_
  refine lv_bipush (v := 76) hx hb dX11_begin_3 (by decide) ?_
  refine lv_icmp_ge (tgt := 18) hx hb dX11_begin_5 (by decide) (fun h9 => absurd h9 (by decide)) (fun _ => ?_)
  refine lv_aload_n hx hb dX11_begin_8 rfl (lv_at hl 1 rfl) ?_
  refine lv_iload_n hx hb dX11_begin_9 rfl (lv_at hl 0 rfl) ?_
  refine lv_iconst (v := 0) hx hb dX11_begin_10 (by decide) ?_
  refine va_iast hx hb hK hP hD hS 0 0 rfl rfl (by unfold vp_in; decide) dX11_begin_11 (fun H locs hP hD hS => ?_)
  rw [kw_upd0] at hP hD
  have hP : va_P D vwCl [(to, .inl (y 0, 228, .inl (fun _ => 0)))] H := hP
  have hD : va_D A [(to, .inl (y 0, 228, .inl (fun _ => 0)))] := hD
  refine lv_iinc (v := 34) (lv' := [(2, .int 34), (0, .ref to), (1, .int x)]) hx hb dX11_begin_12 hl (k := 0) rfl (by decide) (by decide) rfl (fun ls hl => ?_)
  refine lv_goto (tgt := 2) hx hb dX11_begin_15 (by decide) ?_
  refine lv_iload_n hx hb dX11_begin_2 rfl (lv_at hl 0 rfl) ?_
  refine lv_bipush (v := 76) hx hb dX11_begin_3 (by decide) ?_
  refine lv_icmp_ge (tgt := 18) hx hb dX11_begin_5 (by decide) (fun h9 => absurd h9 (by decide)) (fun _ => ?_)
  refine lv_aload_n hx hb dX11_begin_8 rfl (lv_at hl 1 rfl) ?_
  refine lv_iload_n hx hb dX11_begin_9 rfl (lv_at hl 0 rfl) ?_
  refine lv_iconst (v := 0) hx hb dX11_begin_10 (by decide) ?_
  refine va_iast hx hb hK hP hD hS 0 0 rfl rfl (by unfold vp_in; decide) dX11_begin_11 (fun H locs hP hD hS => ?_)
  rw [kw_upd0] at hP hD
  have hP : va_P D vwCl [(to, .inl (y 0, 228, .inl (fun _ => 0)))] H := hP
  have hD : va_D A [(to, .inl (y 0, 228, .inl (fun _ => 0)))] := hD
  refine lv_iinc (v := 35) (lv' := [(2, .int 35), (0, .ref to), (1, .int x)]) hx hb dX11_begin_12 hl (k := 0) rfl (by decide) (by decide) rfl (fun ls hl => ?_)
  refine lv_goto (tgt := 2) hx hb dX11_begin_15 (by decide) ?_
  refine lv_iload_n hx hb dX11_begin_2 rfl (lv_at hl 0 rfl) ?_
  refine lv_bipush (v := 76) hx hb dX11_begin_3 (by decide) ?_
  refine lv_icmp_ge (tgt := 18) hx hb dX11_begin_5 (by decide) (fun h9 => absurd h9 (by decide)) (fun _ => ?_)
  refine lv_aload_n hx hb dX11_begin_8 rfl (lv_at hl 1 rfl) ?_
  refine lv_iload_n hx hb dX11_begin_9 rfl (lv_at hl 0 rfl) ?_
  refine lv_iconst (v := 0) hx hb dX11_begin_10 (by decide) ?_
  refine va_iast hx hb hK hP hD hS 0 0 rfl rfl (by unfold vp_in; decide) dX11_begin_11 (fun H locs hP hD hS => ?_)
  rw [kw_upd0] at hP hD
  have hP : va_P D vwCl [(to, .inl (y 0, 228, .inl (fun _ => 0)))] H := hP
  have hD : va_D A [(to, .inl (y 0, 228, .inl (fun _ => 0)))] := hD
  refine lv_iinc (v := 36) (lv' := [(2, .int 36), (0, .ref to), (1, .int x)]) hx hb dX11_begin_12 hl (k := 0) rfl (by decide) (by decide) rfl (fun ls hl => ?_)
  refine lv_goto (tgt := 2) hx hb dX11_begin_15 (by decide) ?_
  refine lv_iload_n hx hb dX11_begin_2 rfl (lv_at hl 0 rfl) ?_
  refine lv_bipush (v := 76) hx hb dX11_begin_3 (by decide) ?_
  refine lv_icmp_ge (tgt := 18) hx hb dX11_begin_5 (by decide) (fun h9 => absurd h9 (by decide)) (fun _ => ?_)
  refine lv_aload_n hx hb dX11_begin_8 rfl (lv_at hl 1 rfl) ?_
  refine lv_iload_n hx hb dX11_begin_9 rfl (lv_at hl 0 rfl) ?_
  refine lv_iconst (v := 0) hx hb dX11_begin_10 (by decide) ?_
  refine va_iast hx hb hK hP hD hS 0 0 rfl rfl (by unfold vp_in; decide) dX11_begin_11 (fun H locs hP hD hS => ?_)
  rw [kw_upd0] at hP hD
  have hP : va_P D vwCl [(to, .inl (y 0, 228, .inl (fun _ => 0)))] H := hP
  have hD : va_D A [(to, .inl (y 0, 228, .inl (fun _ => 0)))] := hD
  refine lv_iinc (v := 37) (lv' := [(2, .int 37), (0, .ref to), (1, .int x)]) hx hb dX11_begin_12 hl (k := 0) rfl (by decide) (by decide) rfl (fun ls hl => ?_)
  refine lv_goto (tgt := 2) hx hb dX11_begin_15 (by decide) ?_
  refine lv_iload_n hx hb dX11_begin_2 rfl (lv_at hl 0 rfl) ?_
  refine lv_bipush (v := 76) hx hb dX11_begin_3 (by decide) ?_
  refine lv_icmp_ge (tgt := 18) hx hb dX11_begin_5 (by decide) (fun h9 => absurd h9 (by decide)) (fun _ => ?_)
  refine lv_aload_n hx hb dX11_begin_8 rfl (lv_at hl 1 rfl) ?_
  refine lv_iload_n hx hb dX11_begin_9 rfl (lv_at hl 0 rfl) ?_
  refine lv_iconst (v := 0) hx hb dX11_begin_10 (by decide) ?_
  refine va_iast hx hb hK hP hD hS 0 0 rfl rfl (by unfold vp_in; decide) dX11_begin_11 (fun H locs hP hD hS => ?_)
  rw [kw_upd0] at hP hD
  have hP : va_P D vwCl [(to, .inl (y 0, 228, .inl (fun _ => 0)))] H := hP
  have hD : va_D A [(to, .inl (y 0, 228, .inl (fun _ => 0)))] := hD
  refine lv_iinc (v := 38) (lv' := [(2, .int 38), (0, .ref to), (1, .int x)]) hx hb dX11_begin_12 hl (k := 0) rfl (by decide) (by decide) rfl (fun ls hl => ?_)
  refine lv_goto (tgt := 2) hx hb dX11_begin_15 (by decide) ?_
  refine lv_iload_n hx hb dX11_begin_2 rfl (lv_at hl 0 rfl) ?_
  refine lv_bipush (v := 76) hx hb dX11_begin_3 (by decide) ?_
  refine lv_icmp_ge (tgt := 18) hx hb dX11_begin_5 (by decide) (fun h9 => absurd h9 (by decide)) (fun _ => ?_)
  refine lv_aload_n hx hb dX11_begin_8 rfl (lv_at hl 1 rfl) ?_
  refine lv_iload_n hx hb dX11_begin_9 rfl (lv_at hl 0 rfl) ?_
  refine lv_iconst (v := 0) hx hb dX11_begin_10 (by decide) ?_
  refine va_iast hx hb hK hP hD hS 0 0 rfl rfl (by unfold vp_in; decide) dX11_begin_11 (fun H locs hP hD hS => ?_)
  rw [kw_upd0] at hP hD
  have hP : va_P D vwCl [(to, .inl (y 0, 228, .inl (fun _ => 0)))] H := hP
  have hD : va_D A [(to, .inl (y 0, 228, .inl (fun _ => 0)))] := hD
  refine lv_iinc (v := 39) (lv' := [(2, .int 39), (0, .ref to), (1, .int x)]) hx hb dX11_begin_12 hl (k := 0) rfl (by decide) (by decide) rfl (fun ls hl => ?_)
  refine lv_goto (tgt := 2) hx hb dX11_begin_15 (by decide) ?_
  refine lv_iload_n hx hb dX11_begin_2 rfl (lv_at hl 0 rfl) ?_
  refine lv_bipush (v := 76) hx hb dX11_begin_3 (by decide) ?_
  refine lv_icmp_ge (tgt := 18) hx hb dX11_begin_5 (by decide) (fun h9 => absurd h9 (by decide)) (fun _ => ?_)
  refine lv_aload_n hx hb dX11_begin_8 rfl (lv_at hl 1 rfl) ?_
  refine lv_iload_n hx hb dX11_begin_9 rfl (lv_at hl 0 rfl) ?_
  refine lv_iconst (v := 0) hx hb dX11_begin_10 (by decide) ?_
  refine va_iast hx hb hK hP hD hS 0 0 rfl rfl (by unfold vp_in; decide) dX11_begin_11 (fun H locs hP hD hS => ?_)
  rw [kw_upd0] at hP hD
  have hP : va_P D vwCl [(to, .inl (y 0, 228, .inl (fun _ => 0)))] H := hP
  have hD : va_D A [(to, .inl (y 0, 228, .inl (fun _ => 0)))] := hD
  refine lv_iinc (v := 40) (lv' := [(2, .int 40), (0, .ref to), (1, .int x)]) hx hb dX11_begin_12 hl (k := 0) rfl (by decide) (by decide) rfl (fun ls hl => ?_)
  refine lv_goto (tgt := 2) hx hb dX11_begin_15 (by decide) ?_
  refine lv_iload_n hx hb dX11_begin_2 rfl (lv_at hl 0 rfl) ?_
  refine lv_bipush (v := 76) hx hb dX11_begin_3 (by decide) ?_
  refine lv_icmp_ge (tgt := 18) hx hb dX11_begin_5 (by decide) (fun h9 => absurd h9 (by decide)) (fun _ => ?_)
  refine lv_aload_n hx hb dX11_begin_8 rfl (lv_at hl 1 rfl) ?_
  refine lv_iload_n hx hb dX11_begin_9 rfl (lv_at hl 0 rfl) ?_
  refine lv_iconst (v := 0) hx hb dX11_begin_10 (by decide) ?_
  refine va_iast hx hb hK hP hD hS 0 0 rfl rfl (by unfold vp_in; decide) dX11_begin_11 (fun H locs hP hD hS => ?_)
  rw [kw_upd0] at hP hD
  have hP : va_P D vwCl [(to, .inl (y 0, 228, .inl (fun _ => 0)))] H := hP
  have hD : va_D A [(to, .inl (y 0, 228, .inl (fun _ => 0)))] := hD
  refine lv_iinc (v := 41) (lv' := [(2, .int 41), (0, .ref to), (1, .int x)]) hx hb dX11_begin_12 hl (k := 0) rfl (by decide) (by decide) rfl (fun ls hl => ?_)
  refine lv_goto (tgt := 2) hx hb dX11_begin_15 (by decide) ?_
  refine lv_iload_n hx hb dX11_begin_2 rfl (lv_at hl 0 rfl) ?_
  refine lv_bipush (v := 76) hx hb dX11_begin_3 (by decide) ?_
  refine lv_icmp_ge (tgt := 18) hx hb dX11_begin_5 (by decide) (fun h9 => absurd h9 (by decide)) (fun _ => ?_)
  refine lv_aload_n hx hb dX11_begin_8 rfl (lv_at hl 1 rfl) ?_
  refine lv_iload_n hx hb dX11_begin_9 rfl (lv_at hl 0 rfl) ?_
  refine lv_iconst (v := 0) hx hb dX11_begin_10 (by decide) ?_
  refine va_iast hx hb hK hP hD hS 0 0 rfl rfl (by unfold vp_in; decide) dX11_begin_11 (fun H locs hP hD hS => ?_)
  rw [kw_upd0] at hP hD
  have hP : va_P D vwCl [(to, .inl (y 0, 228, .inl (fun _ => 0)))] H := hP
  have hD : va_D A [(to, .inl (y 0, 228, .inl (fun _ => 0)))] := hD
  refine lv_iinc (v := 42) (lv' := [(2, .int 42), (0, .ref to), (1, .int x)]) hx hb dX11_begin_12 hl (k := 0) rfl (by decide) (by decide) rfl (fun ls hl => ?_)
  refine lv_goto (tgt := 2) hx hb dX11_begin_15 (by decide) ?_
  refine lv_iload_n hx hb dX11_begin_2 rfl (lv_at hl 0 rfl) ?_
  refine lv_bipush (v := 76) hx hb dX11_begin_3 (by decide) ?_
  refine lv_icmp_ge (tgt := 18) hx hb dX11_begin_5 (by decide) (fun h9 => absurd h9 (by decide)) (fun _ => ?_)
  refine lv_aload_n hx hb dX11_begin_8 rfl (lv_at hl 1 rfl) ?_
  refine lv_iload_n hx hb dX11_begin_9 rfl (lv_at hl 0 rfl) ?_
  refine lv_iconst (v := 0) hx hb dX11_begin_10 (by decide) ?_
  refine va_iast hx hb hK hP hD hS 0 0 rfl rfl (by unfold vp_in; decide) dX11_begin_11 (fun H locs hP hD hS => ?_)
  rw [kw_upd0] at hP hD
  have hP : va_P D vwCl [(to, .inl (y 0, 228, .inl (fun _ => 0)))] H := hP
  have hD : va_D A [(to, .inl (y 0, 228, .inl (fun _ => 0)))] := hD
  refine lv_iinc (v := 43) (lv' := [(2, .int 43), (0, .ref to), (1, .int x)]) hx hb dX11_begin_12 hl (k := 0) rfl (by decide) (by decide) rfl (fun ls hl => ?_)
  refine lv_goto (tgt := 2) hx hb dX11_begin_15 (by decide) ?_
  refine lv_iload_n hx hb dX11_begin_2 rfl (lv_at hl 0 rfl) ?_
  refine lv_bipush (v := 76) hx hb dX11_begin_3 (by decide) ?_
  refine lv_icmp_ge (tgt := 18) hx hb dX11_begin_5 (by decide) (fun h9 => absurd h9 (by decide)) (fun _ => ?_)
  refine lv_aload_n hx hb dX11_begin_8 rfl (lv_at hl 1 rfl) ?_
  refine lv_iload_n hx hb dX11_begin_9 rfl (lv_at hl 0 rfl) ?_
  refine lv_iconst (v := 0) hx hb dX11_begin_10 (by decide) ?_
  refine va_iast hx hb hK hP hD hS 0 0 rfl rfl (by unfold vp_in; decide) dX11_begin_11 (fun H locs hP hD hS => ?_)
  rw [kw_upd0] at hP hD
  have hP : va_P D vwCl [(to, .inl (y 0, 228, .inl (fun _ => 0)))] H := hP
  have hD : va_D A [(to, .inl (y 0, 228, .inl (fun _ => 0)))] := hD
  refine lv_iinc (v := 44) (lv' := [(2, .int 44), (0, .ref to), (1, .int x)]) hx hb dX11_begin_12 hl (k := 0) rfl (by decide) (by decide) rfl (fun ls hl => ?_)
  refine lv_goto (tgt := 2) hx hb dX11_begin_15 (by decide) ?_
  refine lv_iload_n hx hb dX11_begin_2 rfl (lv_at hl 0 rfl) ?_
  refine lv_bipush (v := 76) hx hb dX11_begin_3 (by decide) ?_
  refine lv_icmp_ge (tgt := 18) hx hb dX11_begin_5 (by decide) (fun h9 => absurd h9 (by decide)) (fun _ => ?_)
  refine lv_aload_n hx hb dX11_begin_8 rfl (lv_at hl 1 rfl) ?_
  refine lv_iload_n hx hb dX11_begin_9 rfl (lv_at hl 0 rfl) ?_
  refine lv_iconst (v := 0) hx hb dX11_begin_10 (by decide) ?_
  refine va_iast hx hb hK hP hD hS 0 0 rfl rfl (by unfold vp_in; decide) dX11_begin_11 (fun H locs hP hD hS => ?_)
  rw [kw_upd0] at hP hD
  have hP : va_P D vwCl [(to, .inl (y 0, 228, .inl (fun _ => 0)))] H := hP
  have hD : va_D A [(to, .inl (y 0, 228, .inl (fun _ => 0)))] := hD
  refine lv_iinc (v := 45) (lv' := [(2, .int 45), (0, .ref to), (1, .int x)]) hx hb dX11_begin_12 hl (k := 0) rfl (by decide) (by decide) rfl (fun ls hl => ?_)
  refine lv_goto (tgt := 2) hx hb dX11_begin_15 (by decide) ?_
  refine lv_iload_n hx hb dX11_begin_2 rfl (lv_at hl 0 rfl) ?_
  refine lv_bipush (v := 76) hx hb dX11_begin_3 (by decide) ?_
  refine lv_icmp_ge (tgt := 18) hx hb dX11_begin_5 (by decide) (fun h9 => absurd h9 (by decide)) (fun _ => ?_)
  refine lv_aload_n hx hb dX11_begin_8 rfl (lv_at hl 1 rfl) ?_
  refine lv_iload_n hx hb dX11_begin_9 rfl (lv_at hl 0 rfl) ?_
  refine lv_iconst (v := 0) hx hb dX11_begin_10 (by decide) ?_
  refine va_iast hx hb hK hP hD hS 0 0 rfl rfl (by unfold vp_in; decide) dX11_begin_11 (fun H locs hP hD hS => ?_)
  rw [kw_upd0] at hP hD
  have hP : va_P D vwCl [(to, .inl (y 0, 228, .inl (fun _ => 0)))] H := hP
  have hD : va_D A [(to, .inl (y 0, 228, .inl (fun _ => 0)))] := hD
  refine lv_iinc (v := 46) (lv' := [(2, .int 46), (0, .ref to), (1, .int x)]) hx hb dX11_begin_12 hl (k := 0) rfl (by decide) (by decide) rfl (fun ls hl => ?_)
  refine lv_goto (tgt := 2) hx hb dX11_begin_15 (by decide) ?_
  refine lv_iload_n hx hb dX11_begin_2 rfl (lv_at hl 0 rfl) ?_
  refine lv_bipush (v := 76) hx hb dX11_begin_3 (by decide) ?_
  refine lv_icmp_ge (tgt := 18) hx hb dX11_begin_5 (by decide) (fun h9 => absurd h9 (by decide)) (fun _ => ?_)
  refine lv_aload_n hx hb dX11_begin_8 rfl (lv_at hl 1 rfl) ?_
  refine lv_iload_n hx hb dX11_begin_9 rfl (lv_at hl 0 rfl) ?_
  refine lv_iconst (v := 0) hx hb dX11_begin_10 (by decide) ?_
  refine va_iast hx hb hK hP hD hS 0 0 rfl rfl (by unfold vp_in; decide) dX11_begin_11 (fun H locs hP hD hS => ?_)
  rw [kw_upd0] at hP hD
  have hP : va_P D vwCl [(to, .inl (y 0, 228, .inl (fun _ => 0)))] H := hP
  have hD : va_D A [(to, .inl (y 0, 228, .inl (fun _ => 0)))] := hD
  refine lv_iinc (v := 47) (lv' := [(2, .int 47), (0, .ref to), (1, .int x)]) hx hb dX11_begin_12 hl (k := 0) rfl (by decide) (by decide) rfl (fun ls hl => ?_)
  refine lv_goto (tgt := 2) hx hb dX11_begin_15 (by decide) ?_
  refine lv_iload_n hx hb dX11_begin_2 rfl (lv_at hl 0 rfl) ?_
  refine lv_bipush (v := 76) hx hb dX11_begin_3 (by decide) ?_
  refine lv_icmp_ge (tgt := 18) hx hb dX11_begin_5 (by decide) (fun h9 => absurd h9 (by decide)) (fun _ => ?_)
  refine lv_aload_n hx hb dX11_begin_8 rfl (lv_at hl 1 rfl) ?_
  refine lv_iload_n hx hb dX11_begin_9 rfl (lv_at hl 0 rfl) ?_
  refine lv_iconst (v := 0) hx hb dX11_begin_10 (by decide) ?_
  refine va_iast hx hb hK hP hD hS 0 0 rfl rfl (by unfold vp_in; decide) dX11_begin_11 (fun H locs hP hD hS => ?_)
  rw [kw_upd0] at hP hD
  have hP : va_P D vwCl [(to, .inl (y 0, 228, .inl (fun _ => 0)))] H := hP
  have hD : va_D A [(to, .inl (y 0, 228, .inl (fun _ => 0)))] := hD
  refine lv_iinc (v := 48) (lv' := [(2, .int 48), (0, .ref to), (1, .int x)]) hx hb dX11_begin_12 hl (k := 0) rfl (by decide) (by decide) rfl (fun ls hl => ?_)
  refine lv_goto (tgt := 2) hx hb dX11_begin_15 (by decide) ?_
  refine lv_iload_n hx hb dX11_begin_2 rfl (lv_at hl 0 rfl) ?_
  refine lv_bipush (v := 76) hx hb dX11_begin_3 (by decide) ?_
  refine lv_icmp_ge (tgt := 18) hx hb dX11_begin_5 (by decide) (fun h9 => absurd h9 (by decide)) (fun _ => ?_)
  refine lv_aload_n hx hb dX11_begin_8 rfl (lv_at hl 1 rfl) ?_
  refine lv_iload_n hx hb dX11_begin_9 rfl (lv_at hl 0 rfl) ?_
  refine lv_iconst (v := 0) hx hb dX11_begin_10 (by decide) ?_
  refine va_iast hx hb hK hP hD hS 0 0 rfl rfl (by unfold vp_in; decide) dX11_begin_11 (fun H locs hP hD hS => ?_)
  rw [kw_upd0] at hP hD
  have hP : va_P D vwCl [(to, .inl (y 0, 228, .inl (fun _ => 0)))] H := hP
  have hD : va_D A [(to, .inl (y 0, 228, .inl (fun _ => 0)))] := hD
  refine lv_iinc (v := 49) (lv' := [(2, .int 49), (0, .ref to), (1, .int x)]) hx hb dX11_begin_12 hl (k := 0) rfl (by decide) (by decide) rfl (fun ls hl => ?_)
  refine lv_goto (tgt := 2) hx hb dX11_begin_15 (by decide) ?_
  refine lv_iload_n hx hb dX11_begin_2 rfl (lv_at hl 0 rfl) ?_
  refine lv_bipush (v := 76) hx hb dX11_begin_3 (by decide) ?_
  refine lv_icmp_ge (tgt := 18) hx hb dX11_begin_5 (by decide) (fun h9 => absurd h9 (by decide)) (fun _ => ?_)
  refine lv_aload_n hx hb dX11_begin_8 rfl (lv_at hl 1 rfl) ?_
  refine lv_iload_n hx hb dX11_begin_9 rfl (lv_at hl 0 rfl) ?_
  refine lv_iconst (v := 0) hx hb dX11_begin_10 (by decide) ?_
  refine va_iast hx hb hK hP hD hS 0 0 rfl rfl (by unfold vp_in; decide) dX11_begin_11 (fun H locs hP hD hS => ?_)
  rw [kw_upd0] at hP hD
  have hP : va_P D vwCl [(to, .inl (y 0, 228, .inl (fun _ => 0)))] H := hP
  have hD : va_D A [(to, .inl (y 0, 228, .inl (fun _ => 0)))] := hD
  refine lv_iinc (v := 50) (lv' := [(2, .int 50), (0, .ref to), (1, .int x)]) hx hb dX11_begin_12 hl (k := 0) rfl (by decide) (by decide) rfl (fun ls hl => ?_)
  refine lv_goto (tgt := 2) hx hb dX11_begin_15 (by decide) ?_
  refine lv_iload_n hx hb dX11_begin_2 rfl (lv_at hl 0 rfl) ?_
  refine lv_bipush (v := 76) hx hb dX11_begin_3 (by decide) ?_
  refine lv_icmp_ge (tgt := 18) hx hb dX11_begin_5 (by decide) (fun h9 => absurd h9 (by decide)) (fun _ => ?_)
  refine lv_aload_n hx hb dX11_begin_8 rfl (lv_at hl 1 rfl) ?_
  refine lv_iload_n hx hb dX11_begin_9 rfl (lv_at hl 0 rfl) ?_
  refine lv_iconst (v := 0) hx hb dX11_begin_10 (by decide) ?_
  refine va_iast hx hb hK hP hD hS 0 0 rfl rfl (by unfold vp_in; decide) dX11_begin_11 (fun H locs hP hD hS => ?_)
  rw [kw_upd0] at hP hD
  have hP : va_P D vwCl [(to, .inl (y 0, 228, .inl (fun _ => 0)))] H := hP
  have hD : va_D A [(to, .inl (y 0, 228, .inl (fun _ => 0)))] := hD
  refine lv_iinc (v := 51) (lv' := [(2, .int 51), (0, .ref to), (1, .int x)]) hx hb dX11_begin_12 hl (k := 0) rfl (by decide) (by decide) rfl (fun ls hl => ?_)
  refine lv_goto (tgt := 2) hx hb dX11_begin_15 (by decide) ?_
  refine lv_iload_n hx hb dX11_begin_2 rfl (lv_at hl 0 rfl) ?_
  refine lv_bipush (v := 76) hx hb dX11_begin_3 (by decide) ?_
  refine lv_icmp_ge (tgt := 18) hx hb dX11_begin_5 (by decide) (fun h9 => absurd h9 (by decide)) (fun _ => ?_)
  refine lv_aload_n hx hb dX11_begin_8 rfl (lv_at hl 1 rfl) ?_
  refine lv_iload_n hx hb dX11_begin_9 rfl (lv_at hl 0 rfl) ?_
  refine lv_iconst (v := 0) hx hb dX11_begin_10 (by decide) ?_
  refine va_iast hx hb hK hP hD hS 0 0 rfl rfl (by unfold vp_in; decide) dX11_begin_11 (fun H locs hP hD hS => ?_)
  rw [kw_upd0] at hP hD
  have hP : va_P D vwCl [(to, .inl (y 0, 228, .inl (fun _ => 0)))] H := hP
  have hD : va_D A [(to, .inl (y 0, 228, .inl (fun _ => 0)))] := hD
  refine lv_iinc (v := 52) (lv' := [(2, .int 52), (0, .ref to), (1, .int x)]) hx hb dX11_begin_12 hl (k := 0) rfl (by decide) (by decide) rfl (fun ls hl => ?_)
  refine lv_goto (tgt := 2) hx hb dX11_begin_15 (by decide) ?_
  refine lv_iload_n hx hb dX11_begin_2 rfl (lv_at hl 0 rfl) ?_
  refine lv_bipush (v := 76) hx hb dX11_begin_3 (by decide) ?_
  refine lv_icmp_ge (tgt := 18) hx hb dX11_begin_5 (by decide) (fun h9 => absurd h9 (by decide)) (fun _ => ?_)
  refine lv_aload_n hx hb dX11_begin_8 rfl (lv_at hl 1 rfl) ?_
  refine lv_iload_n hx hb dX11_begin_9 rfl (lv_at hl 0 rfl) ?_
  refine lv_iconst (v := 0) hx hb dX11_begin_10 (by decide) ?_
  refine va_iast hx hb hK hP hD hS 0 0 rfl rfl (by unfold vp_in; decide) dX11_begin_11 (fun H locs hP hD hS => ?_)
  rw [kw_upd0] at hP hD
  have hP : va_P D vwCl [(to, .inl (y 0, 228, .inl (fun _ => 0)))] H := hP
  have hD : va_D A [(to, .inl (y 0, 228, .inl (fun _ => 0)))] := hD
  refine lv_iinc (v := 53) (lv' := [(2, .int 53), (0, .ref to), (1, .int x)]) hx hb dX11_begin_12 hl (k := 0) rfl (by decide) (by decide) rfl (fun ls hl => ?_)
  refine lv_goto (tgt := 2) hx hb dX11_begin_15 (by decide) ?_
  refine lv_iload_n hx hb dX11_begin_2 rfl (lv_at hl 0 rfl) ?_
  refine lv_bipush (v := 76) hx hb dX11_begin_3 (by decide) ?_
  refine lv_icmp_ge (tgt := 18) hx hb dX11_begin_5 (by decide) (fun h9 => absurd h9 (by decide)) (fun _ => ?_)
  refine lv_aload_n hx hb dX11_begin_8 rfl (lv_at hl 1 rfl) ?_
  refine lv_iload_n hx hb dX11_begin_9 rfl (lv_at hl 0 rfl) ?_
  refine lv_iconst (v := 0) hx hb dX11_begin_10 (by decide) ?_
  refine va_iast hx hb hK hP hD hS 0 0 rfl rfl (by unfold vp_in; decide) dX11_begin_11 (fun H locs hP hD hS => ?_)
  rw [kw_upd0] at hP hD
  have hP : va_P D vwCl [(to, .inl (y 0, 228, .inl (fun _ => 0)))] H := hP
  have hD : va_D A [(to, .inl (y 0, 228, .inl (fun _ => 0)))] := hD
  refine lv_iinc (v := 54) (lv' := [(2, .int 54), (0, .ref to), (1, .int x)]) hx hb dX11_begin_12 hl (k := 0) rfl (by decide) (by decide) rfl (fun ls hl => ?_)
  refine lv_goto (tgt := 2) hx hb dX11_begin_15 (by decide) ?_
  refine lv_iload_n hx hb dX11_begin_2 rfl (lv_at hl 0 rfl) ?_
  refine lv_bipush (v := 76) hx hb dX11_begin_3 (by decide) ?_
  refine lv_icmp_ge (tgt := 18) hx hb dX11_begin_5 (by decide) (fun h9 => absurd h9 (by decide)) (fun _ => ?_)
  refine lv_aload_n hx hb dX11_begin_8 rfl (lv_at hl 1 rfl) ?_
  refine lv_iload_n hx hb dX11_begin_9 rfl (lv_at hl 0 rfl) ?_
  refine lv_iconst (v := 0) hx hb dX11_begin_10 (by decide) ?_
  refine va_iast hx hb hK hP hD hS 0 0 rfl rfl (by unfold vp_in; decide) dX11_begin_11 (fun H locs hP hD hS => ?_)
  rw [kw_upd0] at hP hD
  have hP : va_P D vwCl [(to, .inl (y 0, 228, .inl (fun _ => 0)))] H := hP
  have hD : va_D A [(to, .inl (y 0, 228, .inl (fun _ => 0)))] := hD
  refine lv_iinc (v := 55) (lv' := [(2, .int 55), (0, .ref to), (1, .int x)]) hx hb dX11_begin_12 hl (k := 0) rfl (by decide) (by decide) rfl (fun ls hl => ?_)
  refine lv_goto (tgt := 2) hx hb dX11_begin_15 (by decide) ?_
  refine lv_iload_n hx hb dX11_begin_2 rfl (lv_at hl 0 rfl) ?_
  refine lv_bipush (v := 76) hx hb dX11_begin_3 (by decide) ?_
  refine lv_icmp_ge (tgt := 18) hx hb dX11_begin_5 (by decide) (fun h9 => absurd h9 (by decide)) (fun _ => ?_)
  refine lv_aload_n hx hb dX11_begin_8 rfl (lv_at hl 1 rfl) ?_
  refine lv_iload_n hx hb dX11_begin_9 rfl (lv_at hl 0 rfl) ?_
  refine lv_iconst (v := 0) hx hb dX11_begin_10 (by decide) ?_
  refine va_iast hx hb hK hP hD hS 0 0 rfl rfl (by unfold vp_in; decide) dX11_begin_11 (fun H locs hP hD hS => ?_)
  rw [kw_upd0] at hP hD
  have hP : va_P D vwCl [(to, .inl (y 0, 228, .inl (fun _ => 0)))] H := hP
  have hD : va_D A [(to, .inl (y 0, 228, .inl (fun _ => 0)))] := hD
  refine lv_iinc (v := 56) (lv' := [(2, .int 56), (0, .ref to), (1, .int x)]) hx hb dX11_begin_12 hl (k := 0) rfl (by decide) (by decide) rfl (fun ls hl => ?_)
  refine lv_goto (tgt := 2) hx hb dX11_begin_15 (by decide) ?_
  refine lv_iload_n hx hb dX11_begin_2 rfl (lv_at hl 0 rfl) ?_
  refine lv_bipush (v := 76) hx hb dX11_begin_3 (by decide) ?_
  refine lv_icmp_ge (tgt := 18) hx hb dX11_begin_5 (by decide) (fun h9 => absurd h9 (by decide)) (fun _ => ?_)
  refine lv_aload_n hx hb dX11_begin_8 rfl (lv_at hl 1 rfl) ?_
  refine lv_iload_n hx hb dX11_begin_9 rfl (lv_at hl 0 rfl) ?_
  refine lv_iconst (v := 0) hx hb dX11_begin_10 (by decide) ?_
  refine va_iast hx hb hK hP hD hS 0 0 rfl rfl (by unfold vp_in; decide) dX11_begin_11 (fun H locs hP hD hS => ?_)
  rw [kw_upd0] at hP hD
  have hP : va_P D vwCl [(to, .inl (y 0, 228, .inl (fun _ => 0)))] H := hP
  have hD : va_D A [(to, .inl (y 0, 228, .inl (fun _ => 0)))] := hD
  refine lv_iinc (v := 57) (lv' := [(2, .int 57), (0, .ref to), (1, .int x)]) hx hb dX11_begin_12 hl (k := 0) rfl (by decide) (by decide) rfl (fun ls hl => ?_)
  refine lv_goto (tgt := 2) hx hb dX11_begin_15 (by decide) ?_
  refine lv_iload_n hx hb dX11_begin_2 rfl (lv_at hl 0 rfl) ?_
  refine lv_bipush (v := 76) hx hb dX11_begin_3 (by decide) ?_
  refine lv_icmp_ge (tgt := 18) hx hb dX11_begin_5 (by decide) (fun h9 => absurd h9 (by decide)) (fun _ => ?_)
  refine lv_aload_n hx hb dX11_begin_8 rfl (lv_at hl 1 rfl) ?_
  refine lv_iload_n hx hb dX11_begin_9 rfl (lv_at hl 0 rfl) ?_
  refine lv_iconst (v := 0) hx hb dX11_begin_10 (by decide) ?_
  refine va_iast hx hb hK hP hD hS 0 0 rfl rfl (by unfold vp_in; decide) dX11_begin_11 (fun H locs hP hD hS => ?_)
  rw [kw_upd0] at hP hD
  have hP : va_P D vwCl [(to, .inl (y 0, 228, .inl (fun _ => 0)))] H := hP
  have hD : va_D A [(to, .inl (y 0, 228, .inl (fun _ => 0)))] := hD
  refine lv_iinc (v := 58) (lv' := [(2, .int 58), (0, .ref to), (1, .int x)]) hx hb dX11_begin_12 hl (k := 0) rfl (by decide) (by decide) rfl (fun ls hl => ?_)
  refine lv_goto (tgt := 2) hx hb dX11_begin_15 (by decide) ?_
  refine lv_iload_n hx hb dX11_begin_2 rfl (lv_at hl 0 rfl) ?_
  refine lv_bipush (v := 76) hx hb dX11_begin_3 (by decide) ?_
  refine lv_icmp_ge (tgt := 18) hx hb dX11_begin_5 (by decide) (fun h9 => absurd h9 (by decide)) (fun _ => ?_)
  refine lv_aload_n hx hb dX11_begin_8 rfl (lv_at hl 1 rfl) ?_
  refine lv_iload_n hx hb dX11_begin_9 rfl (lv_at hl 0 rfl) ?_
  refine lv_iconst (v := 0) hx hb dX11_begin_10 (by decide) ?_
  refine va_iast hx hb hK hP hD hS 0 0 rfl rfl (by unfold vp_in; decide) dX11_begin_11 (fun H locs hP hD hS => ?_)
  rw [kw_upd0] at hP hD
  have hP : va_P D vwCl [(to, .inl (y 0, 228, .inl (fun _ => 0)))] H := hP
  have hD : va_D A [(to, .inl (y 0, 228, .inl (fun _ => 0)))] := hD
  refine lv_iinc (v := 59) (lv' := [(2, .int 59), (0, .ref to), (1, .int x)]) hx hb dX11_begin_12 hl (k := 0) rfl (by decide) (by decide) rfl (fun ls hl => ?_)
  refine lv_goto (tgt := 2) hx hb dX11_begin_15 (by decide) ?_
  refine lv_iload_n hx hb dX11_begin_2 rfl (lv_at hl 0 rfl) ?_
  refine lv_bipush (v := 76) hx hb dX11_begin_3 (by decide) ?_
  refine lv_icmp_ge (tgt := 18) hx hb dX11_begin_5 (by decide) (fun h9 => absurd h9 (by decide)) (fun _ => ?_)
  refine lv_aload_n hx hb dX11_begin_8 rfl (lv_at hl 1 rfl) ?_
  refine lv_iload_n hx hb dX11_begin_9 rfl (lv_at hl 0 rfl) ?_
  refine lv_iconst (v := 0) hx hb dX11_begin_10 (by decide) ?_
  refine va_iast hx hb hK hP hD hS 0 0 rfl rfl (by unfold vp_in; decide) dX11_begin_11 (fun H locs hP hD hS => ?_)
  rw [kw_upd0] at hP hD
  have hP : va_P D vwCl [(to, .inl (y 0, 228, .inl (fun _ => 0)))] H := hP
  have hD : va_D A [(to, .inl (y 0, 228, .inl (fun _ => 0)))] := hD
  refine lv_iinc (v := 60) (lv' := [(2, .int 60), (0, .ref to), (1, .int x)]) hx hb dX11_begin_12 hl (k := 0) rfl (by decide) (by decide) rfl (fun ls hl => ?_)
  refine lv_goto (tgt := 2) hx hb dX11_begin_15 (by decide) ?_
  refine lv_iload_n hx hb dX11_begin_2 rfl (lv_at hl 0 rfl) ?_
  refine lv_bipush (v := 76) hx hb dX11_begin_3 (by decide) ?_
  refine lv_icmp_ge (tgt := 18) hx hb dX11_begin_5 (by decide) (fun h9 => absurd h9 (by decide)) (fun _ => ?_)
  refine lv_aload_n hx hb dX11_begin_8 rfl (lv_at hl 1 rfl) ?_
  refine lv_iload_n hx hb dX11_begin_9 rfl (lv_at hl 0 rfl) ?_
  refine lv_iconst (v := 0) hx hb dX11_begin_10 (by decide) ?_
  refine va_iast hx hb hK hP hD hS 0 0 rfl rfl (by unfold vp_in; decide) dX11_begin_11 (fun H locs hP hD hS => ?_)
  rw [kw_upd0] at hP hD
  have hP : va_P D vwCl [(to, .inl (y 0, 228, .inl (fun _ => 0)))] H := hP
  have hD : va_D A [(to, .inl (y 0, 228, .inl (fun _ => 0)))] := hD
  refine lv_iinc (v := 61) (lv' := [(2, .int 61), (0, .ref to), (1, .int x)]) hx hb dX11_begin_12 hl (k := 0) rfl (by decide) (by decide) rfl (fun ls hl => ?_)
  refine lv_goto (tgt := 2) hx hb dX11_begin_15 (by decide) ?_
  refine lv_iload_n hx hb dX11_begin_2 rfl (lv_at hl 0 rfl) ?_
  refine lv_bipush (v := 76) hx hb dX11_begin_3 (by decide) ?_
  refine lv_icmp_ge (tgt := 18) hx hb dX11_begin_5 (by decide) (fun h9 => absurd h9 (by decide)) (fun _ => ?_)
  refine lv_aload_n hx hb dX11_begin_8 rfl (lv_at hl 1 rfl) ?_
  refine lv_iload_n hx hb dX11_begin_9 rfl (lv_at hl 0 rfl) ?_
  refine lv_iconst (v := 0) hx hb dX11_begin_10 (by decide) ?_
  refine va_iast hx hb hK hP hD hS 0 0 rfl rfl (by unfold vp_in; decide) dX11_begin_11 (fun H locs hP hD hS => ?_)
  rw [kw_upd0] at hP hD
  have hP : va_P D vwCl [(to, .inl (y 0, 228, .inl (fun _ => 0)))] H := hP
  have hD : va_D A [(to, .inl (y 0, 228, .inl (fun _ => 0)))] := hD
  refine lv_iinc (v := 62) (lv' := [(2, .int 62), (0, .ref to), (1, .int x)]) hx hb dX11_begin_12 hl (k := 0) rfl (by decide) (by decide) rfl (fun ls hl => ?_)
  refine lv_goto (tgt := 2) hx hb dX11_begin_15 (by decide) ?_
  refine lv_iload_n hx hb dX11_begin_2 rfl (lv_at hl 0 rfl) ?_
  refine lv_bipush (v := 76) hx hb dX11_begin_3 (by decide) ?_
  refine lv_icmp_ge (tgt := 18) hx hb dX11_begin_5 (by decide) (fun h9 => absurd h9 (by decide)) (fun _ => ?_)
  refine lv_aload_n hx hb dX11_begin_8 rfl (lv_at hl 1 rfl) ?_
  refine lv_iload_n hx hb dX11_begin_9 rfl (lv_at hl 0 rfl) ?_
  refine lv_iconst (v := 0) hx hb dX11_begin_10 (by decide) ?_
  refine va_iast hx hb hK hP hD hS 0 0 rfl rfl (by unfold vp_in; decide) dX11_begin_11 (fun H locs hP hD hS => ?_)
  rw [kw_upd0] at hP hD
  have hP : va_P D vwCl [(to, .inl (y 0, 228, .inl (fun _ => 0)))] H := hP
  have hD : va_D A [(to, .inl (y 0, 228, .inl (fun _ => 0)))] := hD
  refine lv_iinc (v := 63) (lv' := [(2, .int 63), (0, .ref to), (1, .int x)]) hx hb dX11_begin_12 hl (k := 0) rfl (by decide) (by decide) rfl (fun ls hl => ?_)
  refine lv_goto (tgt := 2) hx hb dX11_begin_15 (by decide) ?_
  refine lv_iload_n hx hb dX11_begin_2 rfl (lv_at hl 0 rfl) ?_
  refine lv_bipush (v := 76) hx hb dX11_begin_3 (by decide) ?_
  refine lv_icmp_ge (tgt := 18) hx hb dX11_begin_5 (by decide) (fun h9 => absurd h9 (by decide)) (fun _ => ?_)
  refine lv_aload_n hx hb dX11_begin_8 rfl (lv_at hl 1 rfl) ?_
  refine lv_iload_n hx hb dX11_begin_9 rfl (lv_at hl 0 rfl) ?_
  refine lv_iconst (v := 0) hx hb dX11_begin_10 (by decide) ?_
  refine va_iast hx hb hK hP hD hS 0 0 rfl rfl (by unfold vp_in; decide) dX11_begin_11 (fun H locs hP hD hS => ?_)
  rw [kw_upd0] at hP hD
  have hP : va_P D vwCl [(to, .inl (y 0, 228, .inl (fun _ => 0)))] H := hP
  have hD : va_D A [(to, .inl (y 0, 228, .inl (fun _ => 0)))] := hD
  refine lv_iinc (v := 64) (lv' := [(2, .int 64), (0, .ref to), (1, .int x)]) hx hb dX11_begin_12 hl (k := 0) rfl (by decide) (by decide) rfl (fun ls hl => ?_)
  refine lv_goto (tgt := 2) hx hb dX11_begin_15 (by decide) ?_
  refine lv_iload_n hx hb dX11_begin_2 rfl (lv_at hl 0 rfl) ?_
  refine lv_bipush (v := 76) hx hb dX11_begin_3 (by decide) ?_
  refine lv_icmp_ge (tgt := 18) hx hb dX11_begin_5 (by decide) (fun h9 => absurd h9 (by decide)) (fun _ => ?_)
  refine lv_aload_n hx hb dX11_begin_8 rfl (lv_at hl 1 rfl) ?_
  refine lv_iload_n hx hb dX11_begin_9 rfl (lv_at hl 0 rfl) ?_
  refine lv_iconst (v := 0) hx hb dX11_begin_10 (by decide) ?_
  refine va_iast hx hb hK hP hD hS 0 0 rfl rfl (by unfold vp_in; decide) dX11_begin_11 (fun H locs hP hD hS => ?_)
  rw [kw_upd0] at hP hD
  have hP : va_P D vwCl [(to, .inl (y 0, 228, .inl (fun _ => 0)))] H := hP
  have hD : va_D A [(to, .inl (y 0, 228, .inl (fun _ => 0)))] := hD
  refine lv_iinc (v := 65) (lv' := [(2, .int 65), (0, .ref to), (1, .int x)]) hx hb dX11_begin_12 hl (k := 0) rfl (by decide) (by decide) rfl (fun ls hl => ?_)
  refine lv_goto (tgt := 2) hx hb dX11_begin_15 (by decide) ?_
  refine lv_iload_n hx hb dX11_begin_2 rfl (lv_at hl 0 rfl) ?_
  refine lv_bipush (v := 76) hx hb dX11_begin_3 (by decide) ?_
  refine lv_icmp_ge (tgt := 18) hx hb dX11_begin_5 (by decide) (fun h9 => absurd h9 (by decide)) (fun _ => ?_)
  refine lv_aload_n hx hb dX11_begin_8 rfl (lv_at hl 1 rfl) ?_
  refine lv_iload_n hx hb dX11_begin_9 rfl (lv_at hl 0 rfl) ?_
  refine lv_iconst (v := 0) hx hb dX11_begin_10 (by decide) ?_
  refine va_iast hx hb hK hP hD hS 0 0 rfl rfl (by unfold vp_in; decide) dX11_begin_11 (fun H locs hP hD hS => ?_)
  rw [kw_upd0] at hP hD
  have hP : va_P D vwCl [(to, .inl (y 0, 228, .inl (fun _ => 0)))] H := hP
  have hD : va_D A [(to, .inl (y 0, 228, .inl (fun _ => 0)))] := hD
  refine lv_iinc (v := 66) (lv' := [(2, .int 66), (0, .ref to), (1, .int x)]) hx hb dX11_begin_12 hl (k := 0) rfl (by decide) (by decide) rfl (fun ls hl => ?_)
  refine lv_goto (tgt := 2) hx hb dX11_begin_15 (by decide) ?_
  refine lv_iload_n hx hb dX11_begin_2 rfl (lv_at hl 0 rfl) ?_
  refine lv_bipush (v := 76) hx hb dX11_begin_3 (by decide) ?_
  refine lv_icmp_ge (tgt := 18) hx hb dX11_begin_5 (by decide) (fun h9 => absurd h9 (by decide)) (fun _ => ?_)
  refine lv_aload_n hx hb dX11_begin_8 rfl (lv_at hl 1 rfl) ?_
  refine lv_iload_n hx hb dX11_begin_9 rfl (lv_at hl 0 rfl) ?_
  refine lv_iconst (v := 0) hx hb dX11_begin_10 (by decide) ?_
  refine va_iast hx hb hK hP hD hS 0 0 rfl rfl (by unfold vp_in; decide) dX11_begin_11 (fun H locs hP hD hS => ?_)
  rw [kw_upd0] at hP hD
  have hP : va_P D vwCl [(to, .inl (y 0, 228, .inl (fun _ => 0)))] H := hP
  have hD : va_D A [(to, .inl (y 0, 228, .inl (fun _ => 0)))] := hD
  refine lv_iinc (v := 67) (lv' := [(2, .int 67), (0, .ref to), (1, .int x)]) hx hb dX11_begin_12 hl (k := 0) rfl (by decide) (by decide) rfl (fun ls hl => ?_)
  refine lv_goto (tgt := 2) hx hb dX11_begin_15 (by decide) ?_
  refine lv_iload_n hx hb dX11_begin_2 rfl (lv_at hl 0 rfl) ?_
  refine lv_bipush (v := 76) hx hb dX11_begin_3 (by decide) ?_
  refine lv_icmp_ge (tgt := 18) hx hb dX11_begin_5 (by decide) (fun h9 => absurd h9 (by decide)) (fun _ => ?_)
  refine lv_aload_n hx hb dX11_begin_8 rfl (lv_at hl 1 rfl) ?_
  refine lv_iload_n hx hb dX11_begin_9 rfl (lv_at hl 0 rfl) ?_
  refine lv_iconst (v := 0) hx hb dX11_begin_10 (by decide) ?_
  refine va_iast hx hb hK hP hD hS 0 0 rfl rfl (by unfold vp_in; decide) dX11_begin_11 (fun H locs hP hD hS => ?_)
  rw [kw_upd0] at hP hD
  have hP : va_P D vwCl [(to, .inl (y 0, 228, .inl (fun _ => 0)))] H := hP
  have hD : va_D A [(to, .inl (y 0, 228, .inl (fun _ => 0)))] := hD
  refine lv_iinc (v := 68) (lv' := [(2, .int 68), (0, .ref to), (1, .int x)]) hx hb dX11_begin_12 hl (k := 0) rfl (by decide) (by decide) rfl (fun ls hl => ?_)
  refine lv_goto (tgt := 2) hx hb dX11_begin_15 (by decide) ?_
  refine lv_iload_n hx hb dX11_begin_2 rfl (lv_at hl 0 rfl) ?_
  refine lv_bipush (v := 76) hx hb dX11_begin_3 (by decide) ?_
  refine lv_icmp_ge (tgt := 18) hx hb dX11_begin_5 (by decide) (fun h9 => absurd h9 (by decide)) (fun _ => ?_)
  refine lv_aload_n hx hb dX11_begin_8 rfl (lv_at hl 1 rfl) ?_
  refine lv_iload_n hx hb dX11_begin_9 rfl (lv_at hl 0 rfl) ?_
  refine lv_iconst (v := 0) hx hb dX11_begin_10 (by decide) ?_
  refine va_iast hx hb hK hP hD hS 0 0 rfl rfl (by unfold vp_in; decide) dX11_begin_11 (fun H locs hP hD hS => ?_)
  rw [kw_upd0] at hP hD
  have hP : va_P D vwCl [(to, .inl (y 0, 228, .inl (fun _ => 0)))] H := hP
  have hD : va_D A [(to, .inl (y 0, 228, .inl (fun _ => 0)))] := hD
  refine lv_iinc (v := 69) (lv' := [(2, .int 69), (0, .ref to), (1, .int x)]) hx hb dX11_begin_12 hl (k := 0) rfl (by decide) (by decide) rfl (fun ls hl => ?_)
  refine lv_goto (tgt := 2) hx hb dX11_begin_15 (by decide) ?_
  refine lv_iload_n hx hb dX11_begin_2 rfl (lv_at hl 0 rfl) ?_
  refine lv_bipush (v := 76) hx hb dX11_begin_3 (by decide) ?_
  refine lv_icmp_ge (tgt := 18) hx hb dX11_begin_5 (by decide) (fun h9 => absurd h9 (by decide)) (fun _ => ?_)
  refine lv_aload_n hx hb dX11_begin_8 rfl (lv_at hl 1 rfl) ?_
  refine lv_iload_n hx hb dX11_begin_9 rfl (lv_at hl 0 rfl) ?_
  refine lv_iconst (v := 0) hx hb dX11_begin_10 (by decide) ?_
  refine va_iast hx hb hK hP hD hS 0 0 rfl rfl (by unfold vp_in; decide) dX11_begin_11 (fun H locs hP hD hS => ?_)
  rw [kw_upd0] at hP hD
  have hP : va_P D vwCl [(to, .inl (y 0, 228, .inl (fun _ => 0)))] H := hP
  have hD : va_D A [(to, .inl (y 0, 228, .inl (fun _ => 0)))] := hD
  refine lv_iinc (v := 70) (lv' := [(2, .int 70), (0, .ref to), (1, .int x)]) hx hb dX11_begin_12 hl (k := 0) rfl (by decide) (by decide) rfl (fun ls hl => ?_)
  refine lv_goto (tgt := 2) hx hb dX11_begin_15 (by decide) ?_
  refine lv_iload_n hx hb dX11_begin_2 rfl (lv_at hl 0 rfl) ?_
  refine lv_bipush (v := 76) hx hb dX11_begin_3 (by decide) ?_
  refine lv_icmp_ge (tgt := 18) hx hb dX11_begin_5 (by decide) (fun h9 => absurd h9 (by decide)) (fun _ => ?_)
  refine lv_aload_n hx hb dX11_begin_8 rfl (lv_at hl 1 rfl) ?_
  refine lv_iload_n hx hb dX11_begin_9 rfl (lv_at hl 0 rfl) ?_
  refine lv_iconst (v := 0) hx hb dX11_begin_10 (by decide) ?_
  refine va_iast hx hb hK hP hD hS 0 0 rfl rfl (by unfold vp_in; decide) dX11_begin_11 (fun H locs hP hD hS => ?_)
  rw [kw_upd0] at hP hD
  have hP : va_P D vwCl [(to, .inl (y 0, 228, .inl (fun _ => 0)))] H := hP
  have hD : va_D A [(to, .inl (y 0, 228, .inl (fun _ => 0)))] := hD
  refine lv_iinc (v := 71) (lv' := [(2, .int 71), (0, .ref to), (1, .int x)]) hx hb dX11_begin_12 hl (k := 0) rfl (by decide) (by decide) rfl (fun ls hl => ?_)
  refine lv_goto (tgt := 2) hx hb dX11_begin_15 (by decide) ?_
  refine lv_iload_n hx hb dX11_begin_2 rfl (lv_at hl 0 rfl) ?_
  refine lv_bipush (v := 76) hx hb dX11_begin_3 (by decide) ?_
  refine lv_icmp_ge (tgt := 18) hx hb dX11_begin_5 (by decide) (fun h9 => absurd h9 (by decide)) (fun _ => ?_)
  refine lv_aload_n hx hb dX11_begin_8 rfl (lv_at hl 1 rfl) ?_
  refine lv_iload_n hx hb dX11_begin_9 rfl (lv_at hl 0 rfl) ?_
  refine lv_iconst (v := 0) hx hb dX11_begin_10 (by decide) ?_
  refine va_iast hx hb hK hP hD hS 0 0 rfl rfl (by unfold vp_in; decide) dX11_begin_11 (fun H locs hP hD hS => ?_)
  rw [kw_upd0] at hP hD
  have hP : va_P D vwCl [(to, .inl (y 0, 228, .inl (fun _ => 0)))] H := hP
  have hD : va_D A [(to, .inl (y 0, 228, .inl (fun _ => 0)))] := hD
  refine lv_iinc (v := 72) (lv' := [(2, .int 72), (0, .ref to), (1, .int x)]) hx hb dX11_begin_12 hl (k := 0) rfl (by decide) (by decide) rfl (fun ls hl => ?_)
  refine lv_goto (tgt := 2) hx hb dX11_begin_15 (by decide) ?_
  refine lv_iload_n hx hb dX11_begin_2 rfl (lv_at hl 0 rfl) ?_
  refine lv_bipush (v := 76) hx hb dX11_begin_3 (by decide) ?_
  refine lv_icmp_ge (tgt := 18) hx hb dX11_begin_5 (by decide) (fun h9 => absurd h9 (by decide)) (fun _ => ?_)
  refine lv_aload_n hx hb dX11_begin_8 rfl (lv_at hl 1 rfl) ?_
  refine lv_iload_n hx hb dX11_begin_9 rfl (lv_at hl 0 rfl) ?_
  refine lv_iconst (v := 0) hx hb dX11_begin_10 (by decide) ?_
  refine va_iast hx hb hK hP hD hS 0 0 rfl rfl (by unfold vp_in; decide) dX11_begin_11 (fun H locs hP hD hS => ?_)
  rw [kw_upd0] at hP hD
  have hP : va_P D vwCl [(to, .inl (y 0, 228, .inl (fun _ => 0)))] H := hP
  have hD : va_D A [(to, .inl (y 0, 228, .inl (fun _ => 0)))] := hD
  refine lv_iinc (v := 73) (lv' := [(2, .int 73), (0, .ref to), (1, .int x)]) hx hb dX11_begin_12 hl (k := 0) rfl (by decide) (by decide) rfl (fun ls hl => ?_)
  refine lv_goto (tgt := 2) hx hb dX11_begin_15 (by decide) ?_
  refine lv_iload_n hx hb dX11_begin_2 rfl (lv_at hl 0 rfl) ?_
  refine lv_bipush (v := 76) hx hb dX11_begin_3 (by decide) ?_
  refine lv_icmp_ge (tgt := 18) hx hb dX11_begin_5 (by decide) (fun h9 => absurd h9 (by decide)) (fun _ => ?_)
  refine lv_aload_n hx hb dX11_begin_8 rfl (lv_at hl 1 rfl) ?_
  refine lv_iload_n hx hb dX11_begin_9 rfl (lv_at hl 0 rfl) ?_
  refine lv_iconst (v := 0) hx hb dX11_begin_10 (by decide) ?_
  refine va_iast hx hb hK hP hD hS 0 0 rfl rfl (by unfold vp_in; decide) dX11_begin_11 (fun H locs hP hD hS => ?_)
  rw [kw_upd0] at hP hD
  have hP : va_P D vwCl [(to, .inl (y 0, 228, .inl (fun _ => 0)))] H := hP
  have hD : va_D A [(to, .inl (y 0, 228, .inl (fun _ => 0)))] := hD
  refine lv_iinc (v := 74) (lv' := [(2, .int 74), (0, .ref to), (1, .int x)]) hx hb dX11_begin_12 hl (k := 0) rfl (by decide) (by decide) rfl (fun ls hl => ?_)
  refine lv_goto (tgt := 2) hx hb dX11_begin_15 (by decide) ?_
  refine lv_iload_n hx hb dX11_begin_2 rfl (lv_at hl 0 rfl) ?_
  refine lv_bipush (v := 76) hx hb dX11_begin_3 (by decide) ?_
  refine lv_icmp_ge (tgt := 18) hx hb dX11_begin_5 (by decide) (fun h9 => absurd h9 (by decide)) (fun _ => ?_)
  refine lv_aload_n hx hb dX11_begin_8 rfl (lv_at hl 1 rfl) ?_
  refine lv_iload_n hx hb dX11_begin_9 rfl (lv_at hl 0 rfl) ?_
  refine lv_iconst (v := 0) hx hb dX11_begin_10 (by decide) ?_
  refine va_iast hx hb hK hP hD hS 0 0 rfl rfl (by unfold vp_in; decide) dX11_begin_11 (fun H locs hP hD hS => ?_)
  rw [kw_upd0] at hP hD
  have hP : va_P D vwCl [(to, .inl (y 0, 228, .inl (fun _ => 0)))] H := hP
  have hD : va_D A [(to, .inl (y 0, 228, .inl (fun _ => 0)))] := hD
  refine lv_iinc (v := 75) (lv' := [(2, .int 75), (0, .ref to), (1, .int x)]) hx hb dX11_begin_12 hl (k := 0) rfl (by decide) (by decide) rfl (fun ls hl => ?_)
  refine lv_goto (tgt := 2) hx hb dX11_begin_15 (by decide) ?_
  refine lv_iload_n hx hb dX11_begin_2 rfl (lv_at hl 0 rfl) ?_
  refine lv_bipush (v := 76) hx hb dX11_begin_3 (by decide) ?_
  refine lv_icmp_ge (tgt := 18) hx hb dX11_begin_5 (by decide) (fun h9 => absurd h9 (by decide)) (fun _ => ?_)
  refine lv_aload_n hx hb dX11_begin_8 rfl (lv_at hl 1 rfl) ?_
  refine lv_iload_n hx hb dX11_begin_9 rfl (lv_at hl 0 rfl) ?_
  refine lv_iconst (v := 0) hx hb dX11_begin_10 (by decide) ?_
  refine va_iast hx hb hK hP hD hS 0 0 rfl rfl (by unfold vp_in; decide) dX11_begin_11 (fun H locs hP hD hS => ?_)
  rw [kw_upd0] at hP hD
  have hP : va_P D vwCl [(to, .inl (y 0, 228, .inl (fun _ => 0)))] H := hP
  have hD : va_D A [(to, .inl (y 0, 228, .inl (fun _ => 0)))] := hD
  refine lv_iinc (v := 76) (lv' := [(2, .int 76), (0, .ref to), (1, .int x)]) hx hb dX11_begin_12 hl (k := 0) rfl (by decide) (by decide) rfl (fun ls hl => ?_)
  refine lv_goto (tgt := 2) hx hb dX11_begin_15 (by decide) ?_
  refine lv_iload_n hx hb dX11_begin_2 rfl (lv_at hl 0 rfl) ?_
  refine lv_bipush (v := 76) hx hb dX11_begin_3 (by decide) ?_
  refine lv_icmp_ge (tgt := 18) hx hb dX11_begin_5 (by decide) (fun _ => ?_) (fun h9 => absurd h9 (by decide))
  refine lv_aload_n hx hb dX11_begin_18 rfl (lv_at hl 1 rfl) ?_
  refine lv_bipush (v := 22) hx hb dX11_begin_19 (by decide) ?_
  refine lv_iload_n hx hb dX11_begin_21 rfl (lv_at hl 2 rfl) ?_
  refine va_iast hx hb hK hP hD hS 0 0 rfl rfl (by unfold vp_in; decide) dX11_begin_22 (fun H locs hP hD hS => ?_)
  have hP : va_P D vwCl [(to, .inl (y 0, 228, .inl (upd (fun _ => 0) (22 : Int32).toNatClampNeg x)))] H := hP
  have hD : va_D A [(to, .inl (y 0, 228, .inl (upd (fun _ => 0) (22 : Int32).toNatClampNeg x)))] := hD
  exact W.vret hx hb hr (fun tZ ht hW => ⟨⟨(), rfl, trivial, by rw [ht]; exact hP.sub [0] rfl, hD.sub [0] (by decide) rfl⟩, hS.F ht⟩) hS.2.2 dX11_begin_23
