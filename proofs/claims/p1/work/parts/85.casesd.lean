set_option maxHeartbeats 4000000 in
set_option maxRecDepth 100000 in
theorem lw_case19 {p : Program} {e : Env} {s : State} {m : MethodId} {below : List Frame} {meth : Method} {c : Code} (l : Launch) {b : Nat} {xs : Nat → Int32} (C0 : lw_At p s m meth c b 6 xs) {D : va_G} {y : Nat → ClassId} (hK : va_K D vwCl (kw_T y) s) (hN : kw_N s) (u1 u2 : Nat → Nat) (qx qm : Nat) {H : Heap} {locs : List Loc} {ls : Array Slot} (hP : va_P D vwCl (lw_world y u1 u2 qx qm) H) (hD : va_D (fun q : Nat => s.heap.size ≤ q) (lw_world y u1 u2 qx qm)) (hS : va_S (fun q : Nat => s.heap.size ≤ q) s.heap H locs) (hl : lv_has ls 4 [(3, .int 0), (2, .ref qm), (1, .ref qx), (0, .ref b)]) : W p l e room_1 s m #[Value.ref b] below meth c H locs 190 2130 (lw_Z below #[Value.ref b] s) (F0 m 685 ls []) := by
  obtain ⟨hx, hb, hr, hml, hown, hts0, hX, hbl, hlocks, hgv⟩ := id C0
  have hown : s.vm.findClass RL = some m.cls := hown
  have hts : ∀ w ∈ wsL_law, w.before #[Value.ref b] s = true := fun w h => hts0 w (wsL_law_in w h)
  have hA : ∀ q : Nat, s.heap.size ≤ q → (fun q : Nat => s.heap.size ≤ q) q := fun _ h => h
  have hbA : ¬ (fun q : Nat => s.heap.size ≤ q) b := Nat.not_le.mpr hbl
  have hP : va_P D vwCl [(qx, .inr (10, [.ref (u1 0), .ref (u1 1), .ref (u1 2), .ref (u1 3), .ref (u1 4), .ref (u1 5), .ref (u1 6), .ref (u1 7), .ref (u1 8), .ref (u1 9), .int 0, .int 1])), ((u1 1), .inr (4, [.ref (u1 0), .ref (u1 10), .ref (u1 11), .ref (u1 12), .ref (u1 13), .ref (u1 14), .int 0, .int 0, .int 0, .int 0, .int 0])), ((u1 11), .inr (1, [.ref (u1 15), .ref (u1 16), .ref (u1 17), .int 0, .int 0, .int 0])), ((u1 9), .inl (y 0, 3, .inl (fun _ => 0))), (qm, .inr (11, [.ref (u2 0), .ref (u2 1), .ref (u2 2), .ref (u2 3), .long 0, .long 1, .ref (u2 4), .ref (u2 5), .ref (u2 6), .ref (u2 7), .ref (u2 8), .int 0, .int 0, .int 0, .int 0, .int 0, .ref (u2 9), .ref (u2 10)])), ((u2 0), .inl (y 0, 228, .inl (fun _ => 0))), ((u2 3), .inl (y 0, 3, .inl (fun _ => 0)))] H := hP.sub [0, 1, 3, 32, 33, 34, 37] rfl
  have hD : va_D (fun q : Nat => s.heap.size ≤ q) [(qx, .inr (10, [.ref (u1 0), .ref (u1 1), .ref (u1 2), .ref (u1 3), .ref (u1 4), .ref (u1 5), .ref (u1 6), .ref (u1 7), .ref (u1 8), .ref (u1 9), .int 0, .int 1])), ((u1 1), .inr (4, [.ref (u1 0), .ref (u1 10), .ref (u1 11), .ref (u1 12), .ref (u1 13), .ref (u1 14), .int 0, .int 0, .int 0, .int 0, .int 0])), ((u1 11), .inr (1, [.ref (u1 15), .ref (u1 16), .ref (u1 17), .int 0, .int 0, .int 0])), ((u1 9), .inl (y 0, 3, .inl (fun _ => 0))), (qm, .inr (11, [.ref (u2 0), .ref (u2 1), .ref (u2 2), .ref (u2 3), .long 0, .long 1, .ref (u2 4), .ref (u2 5), .ref (u2 6), .ref (u2 7), .ref (u2 8), .int 0, .int 0, .int 0, .int 0, .int 0, .ref (u2 9), .ref (u2 10)])), ((u2 0), .inl (y 0, 228, .inl (fun _ => 0))), ((u2 3), .inl (y 0, 3, .inl (fun _ => 0)))] := hD.sub [0, 1, 3, 32, 33, 34, 37] (by decide) rfl
  refine lv_aload_n hx hb dL_law_685 rfl (lv_at hl 2 rfl) ?_
  refine lv_aload_n hx hb dL_law_686 rfl (lv_at hl 3 rfl) ?_
  refine lv_iload_n hx hb dL_law_687 rfl (lv_at hl 0 rfl) ?_
  refine lv_iconst (v := 1) hx hb dL_law_688 (by decide) ?_
  refine lv_iadd hx hb dL_law_689 ?_
  refine lv_topi (fun z1 hz1 => ?_)
  obtain rfl : z1 = 1 := hz1.trans (by first | rfl | decide | (simp [upd]; done))
  refine va_sld hx hb hX hbl hbA hS (by unfold vp_in; decide) dL_law_690 ?_
  have hs2 : kw_Split [(qx, .inr (10, [.ref (u1 0), .ref (u1 1), .ref (u1 2), .ref (u1 3), .ref (u1 4), .ref (u1 5), .ref (u1 6), .ref (u1 7), .ref (u1 8), .ref (u1 9), .int 0, .int 1])), ((u1 1), .inr (4, [.ref (u1 0), .ref (u1 10), .ref (u1 11), .ref (u1 12), .ref (u1 13), .ref (u1 14), .int 0, .int 0, .int 0, .int 0, .int 0])), ((u1 11), .inr (1, [.ref (u1 15), .ref (u1 16), .ref (u1 17), .int 0, .int 0, .int 0])), ((u1 9), .inl (y 0, 3, .inl (fun _ => 0))), (qm, .inr (11, [.ref (u2 0), .ref (u2 1), .ref (u2 2), .ref (u2 3), .long 0, .long 1, .ref (u2 4), .ref (u2 5), .ref (u2 6), .ref (u2 7), .ref (u2 8), .int 0, .int 0, .int 0, .int 0, .int 0, .ref (u2 9), .ref (u2 10)])), ((u2 0), .inl (y 0, 228, .inl (fun _ => 0))), ((u2 3), .inl (y 0, 3, .inl (fun _ => 0)))] [(qx, .inr (10, [.ref (u1 0), .ref (u1 1), .ref (u1 2), .ref (u1 3), .ref (u1 4), .ref (u1 5), .ref (u1 6), .ref (u1 7), .ref (u1 8), .ref (u1 9), .int 0, .int 1])), ((u1 9), .inl (y 0, 3, .inl (fun _ => 0))), ((u1 1), .inr (4, [.ref (u1 0), .ref (u1 10), .ref (u1 11), .ref (u1 12), .ref (u1 13), .ref (u1 14), .int 0, .int 0, .int 0, .int 0, .int 0])), ((u1 11), .inr (1, [.ref (u1 15), .ref (u1 16), .ref (u1 17), .int 0, .int 0, .int 0]))] [(qm, .inr (11, [.ref (u2 0), .ref (u2 1), .ref (u2 2), .ref (u2 3), .long 0, .long 1, .ref (u2 4), .ref (u2 5), .ref (u2 6), .ref (u2 7), .ref (u2 8), .int 0, .int 0, .int 0, .int 0, .int 0, .ref (u2 9), .ref (u2 10)])), ((u2 0), .inl (y 0, 228, .inl (fun _ => 0))), ((u2 3), .inl (y 0, 3, .inl (fun _ => 0)))] [0, 3, 1, 2] [4, 5, 6] := ⟨rfl, rfl, rfl, rfl, rfl, by decide⟩
  refine kw_go_i hs2 hP hD hS hA (va_runV (As := [.int (xs (1 : Int32).toNatClampNeg)]) (rest := []) ⟨hx, hb, hml, hown, hts⟩ (cp_enough l D y qx (u1 0) (u1 1) (u1 2) (u1 3) (u1 4) (u1 5) (u1 6) (u1 7) (u1 8) (u1 9) (u1 10) (u1 11) (u1 12) (u1 13) (u1 14) (u1 15) (u1 16) (u1 17) (xs (1 : Int32).toNatClampNeg)  _) (cwV 1 hts gL_law_X10_enough rfl rfl rfl (by decide +kernel) ⟨Nat.le_of_ble_eq_true rfl, Nat.le_of_ble_eq_true rfl⟩) (kw_PreV (ci := 10) (q0 := 0) hs2 hP hD hK hN rfl rfl) rfl rfl hl.1 rfl (lv_room (Nat.le_of_ble_eq_true rfl)) dL_law_691 ⟨Nat.le_of_ble_eq_true rfl, Nat.le_of_ble_eq_true rfl⟩) (fun r u H locs hq hP hD hS => ?_)
  obtain rfl := hq
  have hP : va_P D vwCl [(qm, .inr (11, [.ref (u2 0), .ref (u2 1), .ref (u2 2), .ref (u2 3), .long 0, .long 1, .ref (u2 4), .ref (u2 5), .ref (u2 6), .ref (u2 7), .ref (u2 8), .int 0, .int 0, .int 0, .int 0, .int 0, .ref (u2 9), .ref (u2 10)])), ((u2 0), .inl (y 0, 228, .inl (fun _ => 0))), ((u2 3), .inl (y 0, 3, .inl (fun _ => 0)))] H := hP
  have hD : va_D (fun q : Nat => s.heap.size ≤ q) [(qm, .inr (11, [.ref (u2 0), .ref (u2 1), .ref (u2 2), .ref (u2 3), .long 0, .long 1, .ref (u2 4), .ref (u2 5), .ref (u2 6), .ref (u2 7), .ref (u2 8), .int 0, .int 0, .int 0, .int 0, .int 0, .ref (u2 9), .ref (u2 10)])), ((u2 0), .inl (y 0, 228, .inl (fun _ => 0))), ((u2 3), .inl (y 0, 3, .inl (fun _ => 0)))] := hD
  refine lv_aload_n hx hb dL_law_694 rfl (lv_at hl 1 rfl) ?_
  refine lv_aload_n hx hb dL_law_695 rfl (lv_at hl 3 rfl) ?_
  refine lv_iload_n hx hb dL_law_696 rfl (lv_at hl 0 rfl) ?_
  refine lv_iconst (v := 1) hx hb dL_law_697 (by decide) ?_
  refine lv_iadd hx hb dL_law_698 ?_
  refine lv_topi (fun z3 hz3 => ?_)
  obtain rfl : z3 = 1 := hz3.trans (by first | rfl | decide | (simp [upd]; done))
  refine va_sld hx hb hX hbl hbA hS (by unfold vp_in; decide) dL_law_699 ?_
  have hs4 : kw_Split [(qm, .inr (11, [.ref (u2 0), .ref (u2 1), .ref (u2 2), .ref (u2 3), .long 0, .long 1, .ref (u2 4), .ref (u2 5), .ref (u2 6), .ref (u2 7), .ref (u2 8), .int 0, .int 0, .int 0, .int 0, .int 0, .ref (u2 9), .ref (u2 10)])), ((u2 0), .inl (y 0, 228, .inl (fun _ => 0))), ((u2 3), .inl (y 0, 3, .inl (fun _ => 0)))] [(qm, .inr (11, [.ref (u2 0), .ref (u2 1), .ref (u2 2), .ref (u2 3), .long 0, .long 1, .ref (u2 4), .ref (u2 5), .ref (u2 6), .ref (u2 7), .ref (u2 8), .int 0, .int 0, .int 0, .int 0, .int 0, .ref (u2 9), .ref (u2 10)])), ((u2 3), .inl (y 0, 3, .inl (fun _ => 0))), ((u2 0), .inl (y 0, 228, .inl (fun _ => 0)))] [] [0, 2, 1] [] := ⟨rfl, rfl, rfl, rfl, rfl, by decide⟩
  refine kw_go_i hs4 hP hD hS hA (va_runV (As := [.int (xs (1 : Int32).toNatClampNeg)]) (rest := [.int (sp_enough (xs (1 : Int32).toNatClampNeg))]) ⟨hx, hb, hml, hown, hts⟩ (cq_enough l D y qm (u2 0) (u2 1) (u2 2) (u2 3) (u2 4) (u2 5) (u2 6) (u2 7) (u2 8) (u2 9) (u2 10) (xs (1 : Int32).toNatClampNeg)  _) (cwV 1 hts gL_law_X11_enough rfl rfl rfl (by decide +kernel) ⟨Nat.le_of_ble_eq_true rfl, Nat.le_of_ble_eq_true rfl⟩) (kw_PreV (ci := 11) (q0 := 0) hs4 hP hD hK hN rfl rfl) rfl rfl hl.1 rfl (lv_room (Nat.le_of_ble_eq_true rfl)) dL_law_700 ⟨Nat.le_of_ble_eq_true rfl, Nat.le_of_ble_eq_true rfl⟩) (fun r u H locs hq hP hD hS => ?_)
  obtain rfl := hq
  have hP : va_P D vwCl [] H := hP
  have hD : va_D (fun q : Nat => s.heap.size ≤ q) [] := hD
  refine lv_icmp_eq (tgt := 1145) hx hb dL_law_703 (by decide) (fun _ => ?_) (fun h9 => absurd rfl h9)
  refine lv_iinc (v := 6) (lv' := [(3, .int 6), (2, .ref qm), (1, .ref qx), (0, .ref b)]) hx hb dL_law_1145 hl (k := 0) rfl (by decide) (by decide) rfl (fun ls hl => ?_)
  refine lv_goto (tgt := 18) hx hb dL_law_1148 (by decide) ?_
  refine lv_iload_n hx hb dL_law_18 rfl (lv_at hl 0 rfl) ?_
  refine lv_aload_n hx hb dL_law_19 rfl (lv_at hl 3 rfl) ?_
  refine va_slen hx hb hX hbl hbA hS dL_law_20 ?_
  refine lv_topi (fun z5 hz5 => ?_)
  obtain rfl : z5 = 6 := hz5.trans (by first | rfl | decide | (simp [upd]; done))
  refine lv_bipush (v := 6) hx hb dL_law_21 (by decide) ?_
  refine lv_isub hx hb dL_law_23 ?_
  refine lv_topi (fun z6 hz6 => ?_)
  obtain rfl : z6 = 0 := hz6.trans (by first | rfl | decide | (simp [upd]; done))
  refine lv_icmp_gt (tgt := 1151) hx hb dL_law_24 (by decide) (fun _ => ?_) (fun h9 => absurd h9 (by decide))
  refine lv_iconst (v := 1) hx hb dL_law_1151 (by decide) ?_
  refine va_forget (fun q hq => hS.2.2 q hq) ?_
  refine W.widen (k := 600000) (n := 7302250) (Nat.le_of_ble_eq_true rfl) (Nat.le_of_ble_eq_true rfl) ?_
  exact lw_ret hx hb hr hlocks dL_law_1152

set_option maxHeartbeats 4000000 in
set_option maxRecDepth 100000 in
theorem lw_case20 {p : Program} {e : Env} {s : State} {m : MethodId} {below : List Frame} {meth : Method} {c : Code} (l : Launch) {b : Nat} {xs : Nat → Int32} (C0 : lw_At p s m meth c b 6 xs) {D : va_G} {y : Nat → ClassId} (hK : va_K D vwCl (kw_T y) s) (hN : kw_N s) (u1 u2 : Nat → Nat) (qx qm : Nat) {H : Heap} {locs : List Loc} {ls : Array Slot} (hP : va_P D vwCl (lw_world y u1 u2 qx qm) H) (hD : va_D (fun q : Nat => s.heap.size ≤ q) (lw_world y u1 u2 qx qm)) (hS : va_S (fun q : Nat => s.heap.size ≤ q) s.heap H locs) (hl : lv_has ls 4 [(3, .int 0), (2, .ref qm), (1, .ref qx), (0, .ref b)]) : W p l e room_1 s m #[Value.ref b] below meth c H locs 190 2130 (lw_Z below #[Value.ref b] s) (F0 m 708 ls []) := by
  obtain ⟨hx, hb, hr, hml, hown, hts0, hX, hbl, hlocks, hgv⟩ := id C0
  have hown : s.vm.findClass RL = some m.cls := hown
  have hts : ∀ w ∈ wsL_law, w.before #[Value.ref b] s = true := fun w h => hts0 w (wsL_law_in w h)
  have hA : ∀ q : Nat, s.heap.size ≤ q → (fun q : Nat => s.heap.size ≤ q) q := fun _ h => h
  have hbA : ¬ (fun q : Nat => s.heap.size ≤ q) b := Nat.not_le.mpr hbl
  have hP : va_P D vwCl [(qx, .inr (10, [.ref (u1 0), .ref (u1 1), .ref (u1 2), .ref (u1 3), .ref (u1 4), .ref (u1 5), .ref (u1 6), .ref (u1 7), .ref (u1 8), .ref (u1 9), .int 0, .int 1])), ((u1 1), .inr (4, [.ref (u1 0), .ref (u1 10), .ref (u1 11), .ref (u1 12), .ref (u1 13), .ref (u1 14), .int 0, .int 0, .int 0, .int 0, .int 0])), ((u1 9), .inl (y 0, 3, .inl (fun _ => 0))), (qm, .inr (11, [.ref (u2 0), .ref (u2 1), .ref (u2 2), .ref (u2 3), .long 0, .long 1, .ref (u2 4), .ref (u2 5), .ref (u2 6), .ref (u2 7), .ref (u2 8), .int 0, .int 0, .int 0, .int 0, .int 0, .ref (u2 9), .ref (u2 10)])), ((u2 0), .inl (y 0, 228, .inl (fun _ => 0))), ((u2 3), .inl (y 0, 3, .inl (fun _ => 0)))] H := hP.sub [0, 1, 32, 33, 34, 37] rfl
  have hD : va_D (fun q : Nat => s.heap.size ≤ q) [(qx, .inr (10, [.ref (u1 0), .ref (u1 1), .ref (u1 2), .ref (u1 3), .ref (u1 4), .ref (u1 5), .ref (u1 6), .ref (u1 7), .ref (u1 8), .ref (u1 9), .int 0, .int 1])), ((u1 1), .inr (4, [.ref (u1 0), .ref (u1 10), .ref (u1 11), .ref (u1 12), .ref (u1 13), .ref (u1 14), .int 0, .int 0, .int 0, .int 0, .int 0])), ((u1 9), .inl (y 0, 3, .inl (fun _ => 0))), (qm, .inr (11, [.ref (u2 0), .ref (u2 1), .ref (u2 2), .ref (u2 3), .long 0, .long 1, .ref (u2 4), .ref (u2 5), .ref (u2 6), .ref (u2 7), .ref (u2 8), .int 0, .int 0, .int 0, .int 0, .int 0, .ref (u2 9), .ref (u2 10)])), ((u2 0), .inl (y 0, 228, .inl (fun _ => 0))), ((u2 3), .inl (y 0, 3, .inl (fun _ => 0)))] := hD.sub [0, 1, 32, 33, 34, 37] (by decide) rfl
  refine lv_aload_n hx hb dL_law_708 rfl (lv_at hl 2 rfl) ?_
  refine lv_aload_n hx hb dL_law_709 rfl (lv_at hl 3 rfl) ?_
  refine lv_iload_n hx hb dL_law_710 rfl (lv_at hl 0 rfl) ?_
  refine lv_iconst (v := 1) hx hb dL_law_711 (by decide) ?_
  refine lv_iadd hx hb dL_law_712 ?_
  refine lv_topi (fun z1 hz1 => ?_)
  obtain rfl : z1 = 1 := hz1.trans (by first | rfl | decide | (simp [upd]; done))
  refine va_sld hx hb hX hbl hbA hS (by unfold vp_in; decide) dL_law_713 ?_
  refine lv_aload_n hx hb dL_law_714 rfl (lv_at hl 3 rfl) ?_
  refine lv_iload_n hx hb dL_law_715 rfl (lv_at hl 0 rfl) ?_
  refine lv_iconst (v := 2) hx hb dL_law_716 (by decide) ?_
  refine lv_iadd hx hb dL_law_717 ?_
  refine lv_topi (fun z2 hz2 => ?_)
  obtain rfl : z2 = 2 := hz2.trans (by first | rfl | decide | (simp [upd]; done))
  refine va_sld hx hb hX hbl hbA hS (by unfold vp_in; decide) dL_law_718 ?_
  refine lv_aload_n hx hb dL_law_719 rfl (lv_at hl 3 rfl) ?_
  refine lv_iload_n hx hb dL_law_720 rfl (lv_at hl 0 rfl) ?_
  refine lv_iconst (v := 3) hx hb dL_law_721 (by decide) ?_
  refine lv_iadd hx hb dL_law_722 ?_
  refine lv_topi (fun z3 hz3 => ?_)
  obtain rfl : z3 = 3 := hz3.trans (by first | rfl | decide | (simp [upd]; done))
  refine va_sld hx hb hX hbl hbA hS (by unfold vp_in; decide) dL_law_723 ?_
  refine lv_aload_n hx hb dL_law_724 rfl (lv_at hl 3 rfl) ?_
  refine lv_iload_n hx hb dL_law_725 rfl (lv_at hl 0 rfl) ?_
  refine lv_iconst (v := 4) hx hb dL_law_726 (by decide) ?_
  refine lv_iadd hx hb dL_law_727 ?_
  refine lv_topi (fun z4 hz4 => ?_)
  obtain rfl : z4 = 4 := hz4.trans (by first | rfl | decide | (simp [upd]; done))
  refine va_sld hx hb hX hbl hbA hS (by unfold vp_in; decide) dL_law_728 ?_
  have hs5 : kw_Split [(qx, .inr (10, [.ref (u1 0), .ref (u1 1), .ref (u1 2), .ref (u1 3), .ref (u1 4), .ref (u1 5), .ref (u1 6), .ref (u1 7), .ref (u1 8), .ref (u1 9), .int 0, .int 1])), ((u1 1), .inr (4, [.ref (u1 0), .ref (u1 10), .ref (u1 11), .ref (u1 12), .ref (u1 13), .ref (u1 14), .int 0, .int 0, .int 0, .int 0, .int 0])), ((u1 9), .inl (y 0, 3, .inl (fun _ => 0))), (qm, .inr (11, [.ref (u2 0), .ref (u2 1), .ref (u2 2), .ref (u2 3), .long 0, .long 1, .ref (u2 4), .ref (u2 5), .ref (u2 6), .ref (u2 7), .ref (u2 8), .int 0, .int 0, .int 0, .int 0, .int 0, .ref (u2 9), .ref (u2 10)])), ((u2 0), .inl (y 0, 228, .inl (fun _ => 0))), ((u2 3), .inl (y 0, 3, .inl (fun _ => 0)))] [(qx, .inr (10, [.ref (u1 0), .ref (u1 1), .ref (u1 2), .ref (u1 3), .ref (u1 4), .ref (u1 5), .ref (u1 6), .ref (u1 7), .ref (u1 8), .ref (u1 9), .int 0, .int 1])), ((u1 9), .inl (y 0, 3, .inl (fun _ => 0))), ((u1 1), .inr (4, [.ref (u1 0), .ref (u1 10), .ref (u1 11), .ref (u1 12), .ref (u1 13), .ref (u1 14), .int 0, .int 0, .int 0, .int 0, .int 0]))] [(qm, .inr (11, [.ref (u2 0), .ref (u2 1), .ref (u2 2), .ref (u2 3), .long 0, .long 1, .ref (u2 4), .ref (u2 5), .ref (u2 6), .ref (u2 7), .ref (u2 8), .int 0, .int 0, .int 0, .int 0, .int 0, .ref (u2 9), .ref (u2 10)])), ((u2 0), .inl (y 0, 228, .inl (fun _ => 0))), ((u2 3), .inl (y 0, 3, .inl (fun _ => 0)))] [0, 2, 1] [3, 4, 5] := ⟨rfl, rfl, rfl, rfl, rfl, by decide⟩
  refine kw_go_i hs5 hP hD hS hA (va_runV (As := [.int (xs (1 : Int32).toNatClampNeg), .int (xs (2 : Int32).toNatClampNeg), .int (xs (3 : Int32).toNatClampNeg), .int (xs (4 : Int32).toNatClampNeg)]) (rest := []) ⟨hx, hb, hml, hown, hts⟩ (cp_missed l D y qx (u1 0) (u1 1) (u1 2) (u1 3) (u1 4) (u1 5) (u1 6) (u1 7) (u1 8) (u1 9) (u1 10) (u1 11) (u1 12) (u1 13) (u1 14) (xs (1 : Int32).toNatClampNeg) (xs (2 : Int32).toNatClampNeg) (xs (3 : Int32).toNatClampNeg) (xs (4 : Int32).toNatClampNeg)  _) (cwV 4 hts gL_law_X10_missed rfl rfl rfl (by decide +kernel) ⟨Nat.le_of_ble_eq_true rfl, Nat.le_of_ble_eq_true rfl⟩) (kw_PreV (ci := 10) (q0 := 0) hs5 hP hD hK hN rfl rfl) rfl rfl hl.1 rfl (lv_room (Nat.le_of_ble_eq_true rfl)) dL_law_729 ⟨Nat.le_of_ble_eq_true rfl, Nat.le_of_ble_eq_true rfl⟩) (fun r u H locs hq hP hD hS => ?_)
  have hrr := hq
  obtain rfl : r = (-2) := hrr.trans (by decide)
  have hP : va_P D vwCl [(qm, .inr (11, [.ref (u2 0), .ref (u2 1), .ref (u2 2), .ref (u2 3), .long 0, .long 1, .ref (u2 4), .ref (u2 5), .ref (u2 6), .ref (u2 7), .ref (u2 8), .int 0, .int 0, .int 0, .int 0, .int 0, .ref (u2 9), .ref (u2 10)])), ((u2 0), .inl (y 0, 228, .inl (fun _ => 0))), ((u2 3), .inl (y 0, 3, .inl (fun _ => 0)))] H := hP
  have hD : va_D (fun q : Nat => s.heap.size ≤ q) [(qm, .inr (11, [.ref (u2 0), .ref (u2 1), .ref (u2 2), .ref (u2 3), .long 0, .long 1, .ref (u2 4), .ref (u2 5), .ref (u2 6), .ref (u2 7), .ref (u2 8), .int 0, .int 0, .int 0, .int 0, .int 0, .ref (u2 9), .ref (u2 10)])), ((u2 0), .inl (y 0, 228, .inl (fun _ => 0))), ((u2 3), .inl (y 0, 3, .inl (fun _ => 0)))] := hD
  refine lv_aload_n hx hb dL_law_732 rfl (lv_at hl 1 rfl) ?_
  refine lv_aload_n hx hb dL_law_733 rfl (lv_at hl 3 rfl) ?_
  refine lv_iload_n hx hb dL_law_734 rfl (lv_at hl 0 rfl) ?_
  refine lv_iconst (v := 1) hx hb dL_law_735 (by decide) ?_
  refine lv_iadd hx hb dL_law_736 ?_
  refine lv_topi (fun z6 hz6 => ?_)
  obtain rfl : z6 = 1 := hz6.trans (by first | rfl | decide | (simp [upd]; done))
  refine va_sld hx hb hX hbl hbA hS (by unfold vp_in; decide) dL_law_737 ?_
  refine lv_aload_n hx hb dL_law_738 rfl (lv_at hl 3 rfl) ?_
  refine lv_iload_n hx hb dL_law_739 rfl (lv_at hl 0 rfl) ?_
  refine lv_iconst (v := 2) hx hb dL_law_740 (by decide) ?_
  refine lv_iadd hx hb dL_law_741 ?_
  refine lv_topi (fun z7 hz7 => ?_)
  obtain rfl : z7 = 2 := hz7.trans (by first | rfl | decide | (simp [upd]; done))
  refine va_sld hx hb hX hbl hbA hS (by unfold vp_in; decide) dL_law_742 ?_
  refine lv_aload_n hx hb dL_law_743 rfl (lv_at hl 3 rfl) ?_
  refine lv_iload_n hx hb dL_law_744 rfl (lv_at hl 0 rfl) ?_
  refine lv_iconst (v := 3) hx hb dL_law_745 (by decide) ?_
  refine lv_iadd hx hb dL_law_746 ?_
  refine lv_topi (fun z8 hz8 => ?_)
  obtain rfl : z8 = 3 := hz8.trans (by first | rfl | decide | (simp [upd]; done))
  refine va_sld hx hb hX hbl hbA hS (by unfold vp_in; decide) dL_law_747 ?_
  refine lv_aload_n hx hb dL_law_748 rfl (lv_at hl 3 rfl) ?_
  refine lv_iload_n hx hb dL_law_749 rfl (lv_at hl 0 rfl) ?_
  refine lv_iconst (v := 4) hx hb dL_law_750 (by decide) ?_
  refine lv_iadd hx hb dL_law_751 ?_
  refine lv_topi (fun z9 hz9 => ?_)
  obtain rfl : z9 = 4 := hz9.trans (by first | rfl | decide | (simp [upd]; done))
  refine va_sld hx hb hX hbl hbA hS (by unfold vp_in; decide) dL_law_752 ?_
  have hs10 : kw_Split [(qm, .inr (11, [.ref (u2 0), .ref (u2 1), .ref (u2 2), .ref (u2 3), .long 0, .long 1, .ref (u2 4), .ref (u2 5), .ref (u2 6), .ref (u2 7), .ref (u2 8), .int 0, .int 0, .int 0, .int 0, .int 0, .ref (u2 9), .ref (u2 10)])), ((u2 0), .inl (y 0, 228, .inl (fun _ => 0))), ((u2 3), .inl (y 0, 3, .inl (fun _ => 0)))] [(qm, .inr (11, [.ref (u2 0), .ref (u2 1), .ref (u2 2), .ref (u2 3), .long 0, .long 1, .ref (u2 4), .ref (u2 5), .ref (u2 6), .ref (u2 7), .ref (u2 8), .int 0, .int 0, .int 0, .int 0, .int 0, .ref (u2 9), .ref (u2 10)])), ((u2 3), .inl (y 0, 3, .inl (fun _ => 0))), ((u2 0), .inl (y 0, 228, .inl (fun _ => 0)))] [] [0, 2, 1] [] := ⟨rfl, rfl, rfl, rfl, rfl, by decide⟩
  refine kw_go_i hs10 hP hD hS hA (va_runV (As := [.int (xs (1 : Int32).toNatClampNeg), .int (xs (2 : Int32).toNatClampNeg), .int (xs (3 : Int32).toNatClampNeg), .int (xs (4 : Int32).toNatClampNeg)]) (rest := [.int (-2)]) ⟨hx, hb, hml, hown, hts⟩ (cq_missed l D y qm (u2 0) (u2 1) (u2 2) (u2 3) (u2 4) (u2 5) (u2 6) (u2 7) (u2 8) (u2 9) (u2 10) (xs (1 : Int32).toNatClampNeg) (xs (2 : Int32).toNatClampNeg) (xs (3 : Int32).toNatClampNeg) (xs (4 : Int32).toNatClampNeg)  _) (cwV 4 hts gL_law_X11_missed rfl rfl rfl (by decide +kernel) ⟨Nat.le_of_ble_eq_true rfl, Nat.le_of_ble_eq_true rfl⟩) (kw_PreV (ci := 11) (q0 := 0) hs10 hP hD hK hN rfl rfl) rfl rfl hl.1 rfl (lv_room (Nat.le_of_ble_eq_true rfl)) dL_law_753 ⟨Nat.le_of_ble_eq_true rfl, Nat.le_of_ble_eq_true rfl⟩) (fun r u H locs hq hP hD hS => ?_)
  have hrr := hq
  obtain rfl : r = (-2) := hrr.trans (by decide)
  have hP : va_P D vwCl [] H := hP
  have hD : va_D (fun q : Nat => s.heap.size ≤ q) [] := hD
  refine lv_icmp_eq (tgt := 1145) hx hb dL_law_756 (by decide) (fun _ => ?_) (fun h9 => absurd h9 (by decide))
  refine lv_iinc (v := 6) (lv' := [(3, .int 6), (2, .ref qm), (1, .ref qx), (0, .ref b)]) hx hb dL_law_1145 hl (k := 0) rfl (by decide) (by decide) rfl (fun ls hl => ?_)
  refine lv_goto (tgt := 18) hx hb dL_law_1148 (by decide) ?_
  refine lv_iload_n hx hb dL_law_18 rfl (lv_at hl 0 rfl) ?_
  refine lv_aload_n hx hb dL_law_19 rfl (lv_at hl 3 rfl) ?_
  refine va_slen hx hb hX hbl hbA hS dL_law_20 ?_
  refine lv_topi (fun z11 hz11 => ?_)
  obtain rfl : z11 = 6 := hz11.trans (by first | rfl | decide | (simp [upd]; done))
  refine lv_bipush (v := 6) hx hb dL_law_21 (by decide) ?_
  refine lv_isub hx hb dL_law_23 ?_
  refine lv_topi (fun z12 hz12 => ?_)
  obtain rfl : z12 = 0 := hz12.trans (by first | rfl | decide | (simp [upd]; done))
  refine lv_icmp_gt (tgt := 1151) hx hb dL_law_24 (by decide) (fun _ => ?_) (fun h9 => absurd h9 (by decide))
  refine lv_iconst (v := 1) hx hb dL_law_1151 (by decide) ?_
  refine va_forget (fun q hq => hS.2.2 q hq) ?_
  refine W.widen (k := 600000) (n := 7302250) (Nat.le_of_ble_eq_true rfl) (Nat.le_of_ble_eq_true rfl) ?_
  exact lw_ret hx hb hr hlocks dL_law_1152

set_option maxHeartbeats 4000000 in
set_option maxRecDepth 100000 in
theorem lw_case21 {p : Program} {e : Env} {s : State} {m : MethodId} {below : List Frame} {meth : Method} {c : Code} (l : Launch) {b : Nat} {xs : Nat → Int32} (C0 : lw_At p s m meth c b 6 xs) {D : va_G} {y : Nat → ClassId} (hK : va_K D vwCl (kw_T y) s) (hN : kw_N s) (u1 u2 : Nat → Nat) (qx qm : Nat) {H : Heap} {locs : List Loc} {ls : Array Slot} (hP : va_P D vwCl (lw_world y u1 u2 qx qm) H) (hD : va_D (fun q : Nat => s.heap.size ≤ q) (lw_world y u1 u2 qx qm)) (hS : va_S (fun q : Nat => s.heap.size ≤ q) s.heap H locs) (hl : lv_has ls 4 [(3, .int 0), (2, .ref qm), (1, .ref qx), (0, .ref b)]) : W p l e room_1 s m #[Value.ref b] below meth c H locs 190 2130 (lw_Z below #[Value.ref b] s) (F0 m 761 ls []) := by
  obtain ⟨hx, hb, hr, hml, hown, hts0, hX, hbl, hlocks, hgv⟩ := id C0
  have hown : s.vm.findClass RL = some m.cls := hown
  have hts : ∀ w ∈ wsL_law, w.before #[Value.ref b] s = true := fun w h => hts0 w (wsL_law_in w h)
  have hA : ∀ q : Nat, s.heap.size ≤ q → (fun q : Nat => s.heap.size ≤ q) q := fun _ h => h
  have hbA : ¬ (fun q : Nat => s.heap.size ≤ q) b := Nat.not_le.mpr hbl
  have hP : va_P D vwCl [(qx, .inr (10, [.ref (u1 0), .ref (u1 1), .ref (u1 2), .ref (u1 3), .ref (u1 4), .ref (u1 5), .ref (u1 6), .ref (u1 7), .ref (u1 8), .ref (u1 9), .int 0, .int 1])), ((u1 1), .inr (4, [.ref (u1 0), .ref (u1 10), .ref (u1 11), .ref (u1 12), .ref (u1 13), .ref (u1 14), .int 0, .int 0, .int 0, .int 0, .int 0])), (qm, .inr (11, [.ref (u2 0), .ref (u2 1), .ref (u2 2), .ref (u2 3), .long 0, .long 1, .ref (u2 4), .ref (u2 5), .ref (u2 6), .ref (u2 7), .ref (u2 8), .int 0, .int 0, .int 0, .int 0, .int 0, .ref (u2 9), .ref (u2 10)])), ((u2 0), .inl (y 0, 228, .inl (fun _ => 0)))] H := hP.sub [0, 1, 33, 34] rfl
  have hD : va_D (fun q : Nat => s.heap.size ≤ q) [(qx, .inr (10, [.ref (u1 0), .ref (u1 1), .ref (u1 2), .ref (u1 3), .ref (u1 4), .ref (u1 5), .ref (u1 6), .ref (u1 7), .ref (u1 8), .ref (u1 9), .int 0, .int 1])), ((u1 1), .inr (4, [.ref (u1 0), .ref (u1 10), .ref (u1 11), .ref (u1 12), .ref (u1 13), .ref (u1 14), .int 0, .int 0, .int 0, .int 0, .int 0])), (qm, .inr (11, [.ref (u2 0), .ref (u2 1), .ref (u2 2), .ref (u2 3), .long 0, .long 1, .ref (u2 4), .ref (u2 5), .ref (u2 6), .ref (u2 7), .ref (u2 8), .int 0, .int 0, .int 0, .int 0, .int 0, .ref (u2 9), .ref (u2 10)])), ((u2 0), .inl (y 0, 228, .inl (fun _ => 0)))] := hD.sub [0, 1, 33, 34] (by decide) rfl
  refine lv_aload_n hx hb dL_law_761 rfl (lv_at hl 2 rfl) ?_
  have hs1 : kw_Split [(qx, .inr (10, [.ref (u1 0), .ref (u1 1), .ref (u1 2), .ref (u1 3), .ref (u1 4), .ref (u1 5), .ref (u1 6), .ref (u1 7), .ref (u1 8), .ref (u1 9), .int 0, .int 1])), ((u1 1), .inr (4, [.ref (u1 0), .ref (u1 10), .ref (u1 11), .ref (u1 12), .ref (u1 13), .ref (u1 14), .int 0, .int 0, .int 0, .int 0, .int 0])), (qm, .inr (11, [.ref (u2 0), .ref (u2 1), .ref (u2 2), .ref (u2 3), .long 0, .long 1, .ref (u2 4), .ref (u2 5), .ref (u2 6), .ref (u2 7), .ref (u2 8), .int 0, .int 0, .int 0, .int 0, .int 0, .ref (u2 9), .ref (u2 10)])), ((u2 0), .inl (y 0, 228, .inl (fun _ => 0)))] [(qx, .inr (10, [.ref (u1 0), .ref (u1 1), .ref (u1 2), .ref (u1 3), .ref (u1 4), .ref (u1 5), .ref (u1 6), .ref (u1 7), .ref (u1 8), .ref (u1 9), .int 0, .int 1])), ((u1 1), .inr (4, [.ref (u1 0), .ref (u1 10), .ref (u1 11), .ref (u1 12), .ref (u1 13), .ref (u1 14), .int 0, .int 0, .int 0, .int 0, .int 0]))] [(qm, .inr (11, [.ref (u2 0), .ref (u2 1), .ref (u2 2), .ref (u2 3), .long 0, .long 1, .ref (u2 4), .ref (u2 5), .ref (u2 6), .ref (u2 7), .ref (u2 8), .int 0, .int 0, .int 0, .int 0, .int 0, .ref (u2 9), .ref (u2 10)])), ((u2 0), .inl (y 0, 228, .inl (fun _ => 0)))] [0, 1] [2, 3] := ⟨rfl, rfl, rfl, rfl, rfl, by decide⟩
  refine kw_go_i hs1 hP hD hS hA (va_runV (As := []) (rest := []) ⟨hx, hb, hml, hown, hts⟩ (cp_clouds l D y qx (u1 0) (u1 1) (u1 2) (u1 3) (u1 4) (u1 5) (u1 6) (u1 7) (u1 8) (u1 9) (u1 10) (u1 11) (u1 12) (u1 13) (u1 14)  _) (cwV 0 hts gL_law_X10_clouds rfl rfl rfl (by decide +kernel) ⟨Nat.le_of_ble_eq_true rfl, Nat.le_of_ble_eq_true rfl⟩) (kw_PreV (ci := 10) (q0 := 0) hs1 hP hD hK hN rfl rfl) rfl rfl hl.1 rfl (lv_room (Nat.le_of_ble_eq_true rfl)) dL_law_762 ⟨Nat.le_of_ble_eq_true rfl, Nat.le_of_ble_eq_true rfl⟩) (fun r u H locs hq hP hD hS => ?_)
  have hrr := hq
  obtain rfl : r = 1023 := hrr.trans (by decide)
  have hP : va_P D vwCl [(qm, .inr (11, [.ref (u2 0), .ref (u2 1), .ref (u2 2), .ref (u2 3), .long 0, .long 1, .ref (u2 4), .ref (u2 5), .ref (u2 6), .ref (u2 7), .ref (u2 8), .int 0, .int 0, .int 0, .int 0, .int 0, .ref (u2 9), .ref (u2 10)])), ((u2 0), .inl (y 0, 228, .inl (fun _ => 0)))] H := hP
  have hD : va_D (fun q : Nat => s.heap.size ≤ q) [(qm, .inr (11, [.ref (u2 0), .ref (u2 1), .ref (u2 2), .ref (u2 3), .long 0, .long 1, .ref (u2 4), .ref (u2 5), .ref (u2 6), .ref (u2 7), .ref (u2 8), .int 0, .int 0, .int 0, .int 0, .int 0, .ref (u2 9), .ref (u2 10)])), ((u2 0), .inl (y 0, 228, .inl (fun _ => 0)))] := hD
  refine lv_aload_n hx hb dL_law_765 rfl (lv_at hl 1 rfl) ?_
  have hs2 : kw_Split [(qm, .inr (11, [.ref (u2 0), .ref (u2 1), .ref (u2 2), .ref (u2 3), .long 0, .long 1, .ref (u2 4), .ref (u2 5), .ref (u2 6), .ref (u2 7), .ref (u2 8), .int 0, .int 0, .int 0, .int 0, .int 0, .ref (u2 9), .ref (u2 10)])), ((u2 0), .inl (y 0, 228, .inl (fun _ => 0)))] [(qm, .inr (11, [.ref (u2 0), .ref (u2 1), .ref (u2 2), .ref (u2 3), .long 0, .long 1, .ref (u2 4), .ref (u2 5), .ref (u2 6), .ref (u2 7), .ref (u2 8), .int 0, .int 0, .int 0, .int 0, .int 0, .ref (u2 9), .ref (u2 10)])), ((u2 0), .inl (y 0, 228, .inl (fun _ => 0)))] [] [0, 1] [] := ⟨rfl, rfl, rfl, rfl, rfl, by decide⟩
  refine kw_go_i hs2 hP hD hS hA (va_runV (As := []) (rest := [.int 1023]) ⟨hx, hb, hml, hown, hts⟩ (cq_clouds l D y qm (u2 0) (u2 1) (u2 2) (u2 3) (u2 4) (u2 5) (u2 6) (u2 7) (u2 8) (u2 9) (u2 10)  _) (cwV 0 hts gL_law_X11_clouds rfl rfl rfl (by decide +kernel) ⟨Nat.le_of_ble_eq_true rfl, Nat.le_of_ble_eq_true rfl⟩) (kw_PreV (ci := 11) (q0 := 0) hs2 hP hD hK hN rfl rfl) rfl rfl hl.1 rfl (lv_room (Nat.le_of_ble_eq_true rfl)) dL_law_766 ⟨Nat.le_of_ble_eq_true rfl, Nat.le_of_ble_eq_true rfl⟩) (fun r u H locs hq hP hD hS => ?_)
  have hrr := hq
  obtain rfl : r = 1023 := hrr.trans (by decide)
  have hP : va_P D vwCl [] H := hP
  have hD : va_D (fun q : Nat => s.heap.size ≤ q) [] := hD
  refine lv_icmp_eq (tgt := 1145) hx hb dL_law_769 (by decide) (fun _ => ?_) (fun h9 => absurd h9 (by decide))
  refine lv_iinc (v := 6) (lv' := [(3, .int 6), (2, .ref qm), (1, .ref qx), (0, .ref b)]) hx hb dL_law_1145 hl (k := 0) rfl (by decide) (by decide) rfl (fun ls hl => ?_)
  refine lv_goto (tgt := 18) hx hb dL_law_1148 (by decide) ?_
  refine lv_iload_n hx hb dL_law_18 rfl (lv_at hl 0 rfl) ?_
  refine lv_aload_n hx hb dL_law_19 rfl (lv_at hl 3 rfl) ?_
  refine va_slen hx hb hX hbl hbA hS dL_law_20 ?_
  refine lv_topi (fun z3 hz3 => ?_)
  obtain rfl : z3 = 6 := hz3.trans (by first | rfl | decide | (simp [upd]; done))
  refine lv_bipush (v := 6) hx hb dL_law_21 (by decide) ?_
  refine lv_isub hx hb dL_law_23 ?_
  refine lv_topi (fun z4 hz4 => ?_)
  obtain rfl : z4 = 0 := hz4.trans (by first | rfl | decide | (simp [upd]; done))
  refine lv_icmp_gt (tgt := 1151) hx hb dL_law_24 (by decide) (fun _ => ?_) (fun h9 => absurd h9 (by decide))
  refine lv_iconst (v := 1) hx hb dL_law_1151 (by decide) ?_
  refine va_forget (fun q hq => hS.2.2 q hq) ?_
  refine W.widen (k := 600000) (n := 7302250) (Nat.le_of_ble_eq_true rfl) (Nat.le_of_ble_eq_true rfl) ?_
  exact lw_ret hx hb hr hlocks dL_law_1152

set_option maxHeartbeats 4000000 in
set_option maxRecDepth 100000 in
theorem lw_case22 {p : Program} {e : Env} {s : State} {m : MethodId} {below : List Frame} {meth : Method} {c : Code} (l : Launch) {b : Nat} {xs : Nat → Int32} (C0 : lw_At p s m meth c b 6 xs) {D : va_G} {y : Nat → ClassId} (hK : va_K D vwCl (kw_T y) s) (hN : kw_N s) (u1 u2 : Nat → Nat) (qx qm : Nat) {H : Heap} {locs : List Loc} {ls : Array Slot} (hP : va_P D vwCl (lw_world y u1 u2 qx qm) H) (hD : va_D (fun q : Nat => s.heap.size ≤ q) (lw_world y u1 u2 qx qm)) (hS : va_S (fun q : Nat => s.heap.size ≤ q) s.heap H locs) (hl : lv_has ls 4 [(3, .int 0), (2, .ref qm), (1, .ref qx), (0, .ref b)]) : W p l e room_1 s m #[Value.ref b] below meth c H locs 190 2130 (lw_Z below #[Value.ref b] s) (F0 m 774 ls []) := by
  obtain ⟨hx, hb, hr, hml, hown, hts0, hX, hbl, hlocks, hgv⟩ := id C0
  have hown : s.vm.findClass RL = some m.cls := hown
  have hts : ∀ w ∈ wsL_law, w.before #[Value.ref b] s = true := fun w h => hts0 w (wsL_law_in w h)
  have hA : ∀ q : Nat, s.heap.size ≤ q → (fun q : Nat => s.heap.size ≤ q) q := fun _ h => h
  have hbA : ¬ (fun q : Nat => s.heap.size ≤ q) b := Nat.not_le.mpr hbl
  have hP : va_P D vwCl [(qx, .inr (10, [.ref (u1 0), .ref (u1 1), .ref (u1 2), .ref (u1 3), .ref (u1 4), .ref (u1 5), .ref (u1 6), .ref (u1 7), .ref (u1 8), .ref (u1 9), .int 0, .int 1])), ((u1 1), .inr (4, [.ref (u1 0), .ref (u1 10), .ref (u1 11), .ref (u1 12), .ref (u1 13), .ref (u1 14), .int 0, .int 0, .int 0, .int 0, .int 0])), ((u1 9), .inl (y 0, 3, .inl (fun _ => 0))), (qm, .inr (11, [.ref (u2 0), .ref (u2 1), .ref (u2 2), .ref (u2 3), .long 0, .long 1, .ref (u2 4), .ref (u2 5), .ref (u2 6), .ref (u2 7), .ref (u2 8), .int 0, .int 0, .int 0, .int 0, .int 0, .ref (u2 9), .ref (u2 10)])), ((u2 0), .inl (y 0, 228, .inl (fun _ => 0))), ((u2 3), .inl (y 0, 3, .inl (fun _ => 0)))] H := hP.sub [0, 1, 32, 33, 34, 37] rfl
  have hD : va_D (fun q : Nat => s.heap.size ≤ q) [(qx, .inr (10, [.ref (u1 0), .ref (u1 1), .ref (u1 2), .ref (u1 3), .ref (u1 4), .ref (u1 5), .ref (u1 6), .ref (u1 7), .ref (u1 8), .ref (u1 9), .int 0, .int 1])), ((u1 1), .inr (4, [.ref (u1 0), .ref (u1 10), .ref (u1 11), .ref (u1 12), .ref (u1 13), .ref (u1 14), .int 0, .int 0, .int 0, .int 0, .int 0])), ((u1 9), .inl (y 0, 3, .inl (fun _ => 0))), (qm, .inr (11, [.ref (u2 0), .ref (u2 1), .ref (u2 2), .ref (u2 3), .long 0, .long 1, .ref (u2 4), .ref (u2 5), .ref (u2 6), .ref (u2 7), .ref (u2 8), .int 0, .int 0, .int 0, .int 0, .int 0, .ref (u2 9), .ref (u2 10)])), ((u2 0), .inl (y 0, 228, .inl (fun _ => 0))), ((u2 3), .inl (y 0, 3, .inl (fun _ => 0)))] := hD.sub [0, 1, 32, 33, 34, 37] (by decide) rfl
  refine lv_aload_n hx hb dL_law_774 rfl (lv_at hl 2 rfl) ?_
  refine lv_aload_n hx hb dL_law_775 rfl (lv_at hl 3 rfl) ?_
  refine lv_iload_n hx hb dL_law_776 rfl (lv_at hl 0 rfl) ?_
  refine lv_iconst (v := 1) hx hb dL_law_777 (by decide) ?_
  refine lv_iadd hx hb dL_law_778 ?_
  refine lv_topi (fun z1 hz1 => ?_)
  obtain rfl : z1 = 1 := hz1.trans (by first | rfl | decide | (simp [upd]; done))
  refine va_sld hx hb hX hbl hbA hS (by unfold vp_in; decide) dL_law_779 ?_
  refine lv_aload_n hx hb dL_law_780 rfl (lv_at hl 3 rfl) ?_
  refine lv_iload_n hx hb dL_law_781 rfl (lv_at hl 0 rfl) ?_
  refine lv_iconst (v := 2) hx hb dL_law_782 (by decide) ?_
  refine lv_iadd hx hb dL_law_783 ?_
  refine lv_topi (fun z2 hz2 => ?_)
  obtain rfl : z2 = 2 := hz2.trans (by first | rfl | decide | (simp [upd]; done))
  refine va_sld hx hb hX hbl hbA hS (by unfold vp_in; decide) dL_law_784 ?_
  refine lv_aload_n hx hb dL_law_785 rfl (lv_at hl 3 rfl) ?_
  refine lv_iload_n hx hb dL_law_786 rfl (lv_at hl 0 rfl) ?_
  refine lv_iconst (v := 3) hx hb dL_law_787 (by decide) ?_
  refine lv_iadd hx hb dL_law_788 ?_
  refine lv_topi (fun z3 hz3 => ?_)
  obtain rfl : z3 = 3 := hz3.trans (by first | rfl | decide | (simp [upd]; done))
  refine va_sld hx hb hX hbl hbA hS (by unfold vp_in; decide) dL_law_789 ?_
  refine lv_aload_n hx hb dL_law_790 rfl (lv_at hl 3 rfl) ?_
  refine lv_iload_n hx hb dL_law_791 rfl (lv_at hl 0 rfl) ?_
  refine lv_iconst (v := 4) hx hb dL_law_792 (by decide) ?_
  refine lv_iadd hx hb dL_law_793 ?_
  refine lv_topi (fun z4 hz4 => ?_)
  obtain rfl : z4 = 4 := hz4.trans (by first | rfl | decide | (simp [upd]; done))
  refine va_sld hx hb hX hbl hbA hS (by unfold vp_in; decide) dL_law_794 ?_
  refine lv_aload_n hx hb dL_law_795 rfl (lv_at hl 3 rfl) ?_
  refine lv_iload_n hx hb dL_law_796 rfl (lv_at hl 0 rfl) ?_
  refine lv_iconst (v := 5) hx hb dL_law_797 (by decide) ?_
  refine lv_iadd hx hb dL_law_798 ?_
  refine lv_topi (fun z5 hz5 => ?_)
  obtain rfl : z5 = 5 := hz5.trans (by first | rfl | decide | (simp [upd]; done))
  refine va_sld hx hb hX hbl hbA hS (by unfold vp_in; decide) dL_law_799 ?_
  have hs6 : kw_Split [(qx, .inr (10, [.ref (u1 0), .ref (u1 1), .ref (u1 2), .ref (u1 3), .ref (u1 4), .ref (u1 5), .ref (u1 6), .ref (u1 7), .ref (u1 8), .ref (u1 9), .int 0, .int 1])), ((u1 1), .inr (4, [.ref (u1 0), .ref (u1 10), .ref (u1 11), .ref (u1 12), .ref (u1 13), .ref (u1 14), .int 0, .int 0, .int 0, .int 0, .int 0])), ((u1 9), .inl (y 0, 3, .inl (fun _ => 0))), (qm, .inr (11, [.ref (u2 0), .ref (u2 1), .ref (u2 2), .ref (u2 3), .long 0, .long 1, .ref (u2 4), .ref (u2 5), .ref (u2 6), .ref (u2 7), .ref (u2 8), .int 0, .int 0, .int 0, .int 0, .int 0, .ref (u2 9), .ref (u2 10)])), ((u2 0), .inl (y 0, 228, .inl (fun _ => 0))), ((u2 3), .inl (y 0, 3, .inl (fun _ => 0)))] [(qx, .inr (10, [.ref (u1 0), .ref (u1 1), .ref (u1 2), .ref (u1 3), .ref (u1 4), .ref (u1 5), .ref (u1 6), .ref (u1 7), .ref (u1 8), .ref (u1 9), .int 0, .int 1])), ((u1 9), .inl (y 0, 3, .inl (fun _ => 0))), ((u1 1), .inr (4, [.ref (u1 0), .ref (u1 10), .ref (u1 11), .ref (u1 12), .ref (u1 13), .ref (u1 14), .int 0, .int 0, .int 0, .int 0, .int 0]))] [(qm, .inr (11, [.ref (u2 0), .ref (u2 1), .ref (u2 2), .ref (u2 3), .long 0, .long 1, .ref (u2 4), .ref (u2 5), .ref (u2 6), .ref (u2 7), .ref (u2 8), .int 0, .int 0, .int 0, .int 0, .int 0, .ref (u2 9), .ref (u2 10)])), ((u2 0), .inl (y 0, 228, .inl (fun _ => 0))), ((u2 3), .inl (y 0, 3, .inl (fun _ => 0)))] [0, 2, 1] [3, 4, 5] := ⟨rfl, rfl, rfl, rfl, rfl, by decide⟩
  refine kw_go_i hs6 hP hD hS hA (va_runV (As := [.int (xs (1 : Int32).toNatClampNeg), .int (xs (2 : Int32).toNatClampNeg), .int (xs (3 : Int32).toNatClampNeg), .int (xs (4 : Int32).toNatClampNeg), .int (xs (5 : Int32).toNatClampNeg)]) (rest := []) ⟨hx, hb, hml, hown, hts⟩ (cp_note l D y qx (u1 0) (u1 1) (u1 2) (u1 3) (u1 4) (u1 5) (u1 6) (u1 7) (u1 8) (u1 9) (u1 10) (u1 11) (u1 12) (u1 13) (u1 14) (xs (1 : Int32).toNatClampNeg) (xs (2 : Int32).toNatClampNeg) (xs (3 : Int32).toNatClampNeg) (xs (4 : Int32).toNatClampNeg) (xs (5 : Int32).toNatClampNeg)  _) (cwV 5 hts gL_law_X10_note rfl rfl rfl (by decide +kernel) ⟨Nat.le_of_ble_eq_true rfl, Nat.le_of_ble_eq_true rfl⟩) (kw_PreV (ci := 10) (q0 := 0) hs6 hP hD hK hN rfl rfl) rfl rfl hl.1 rfl (lv_room (Nat.le_of_ble_eq_true rfl)) dL_law_800 ⟨Nat.le_of_ble_eq_true rfl, Nat.le_of_ble_eq_true rfl⟩) (fun r u H locs hq hP hD hS => ?_)
  have hrr := hq
  obtain rfl : r = (-2) := hrr.trans (by decide)
  have hP : va_P D vwCl [(qm, .inr (11, [.ref (u2 0), .ref (u2 1), .ref (u2 2), .ref (u2 3), .long 0, .long 1, .ref (u2 4), .ref (u2 5), .ref (u2 6), .ref (u2 7), .ref (u2 8), .int 0, .int 0, .int 0, .int 0, .int 0, .ref (u2 9), .ref (u2 10)])), ((u2 0), .inl (y 0, 228, .inl (fun _ => 0))), ((u2 3), .inl (y 0, 3, .inl (fun _ => 0)))] H := hP
  have hD : va_D (fun q : Nat => s.heap.size ≤ q) [(qm, .inr (11, [.ref (u2 0), .ref (u2 1), .ref (u2 2), .ref (u2 3), .long 0, .long 1, .ref (u2 4), .ref (u2 5), .ref (u2 6), .ref (u2 7), .ref (u2 8), .int 0, .int 0, .int 0, .int 0, .int 0, .ref (u2 9), .ref (u2 10)])), ((u2 0), .inl (y 0, 228, .inl (fun _ => 0))), ((u2 3), .inl (y 0, 3, .inl (fun _ => 0)))] := hD
  refine lv_aload_n hx hb dL_law_803 rfl (lv_at hl 1 rfl) ?_
  refine lv_aload_n hx hb dL_law_804 rfl (lv_at hl 3 rfl) ?_
  refine lv_iload_n hx hb dL_law_805 rfl (lv_at hl 0 rfl) ?_
  refine lv_iconst (v := 1) hx hb dL_law_806 (by decide) ?_
  refine lv_iadd hx hb dL_law_807 ?_
  refine lv_topi (fun z7 hz7 => ?_)
  obtain rfl : z7 = 1 := hz7.trans (by first | rfl | decide | (simp [upd]; done))
  refine va_sld hx hb hX hbl hbA hS (by unfold vp_in; decide) dL_law_808 ?_
  refine lv_aload_n hx hb dL_law_809 rfl (lv_at hl 3 rfl) ?_
  refine lv_iload_n hx hb dL_law_810 rfl (lv_at hl 0 rfl) ?_
  refine lv_iconst (v := 2) hx hb dL_law_811 (by decide) ?_
  refine lv_iadd hx hb dL_law_812 ?_
  refine lv_topi (fun z8 hz8 => ?_)
  obtain rfl : z8 = 2 := hz8.trans (by first | rfl | decide | (simp [upd]; done))
  refine va_sld hx hb hX hbl hbA hS (by unfold vp_in; decide) dL_law_813 ?_
  refine lv_aload_n hx hb dL_law_814 rfl (lv_at hl 3 rfl) ?_
  refine lv_iload_n hx hb dL_law_815 rfl (lv_at hl 0 rfl) ?_
  refine lv_iconst (v := 3) hx hb dL_law_816 (by decide) ?_
  refine lv_iadd hx hb dL_law_817 ?_
  refine lv_topi (fun z9 hz9 => ?_)
  obtain rfl : z9 = 3 := hz9.trans (by first | rfl | decide | (simp [upd]; done))
  refine va_sld hx hb hX hbl hbA hS (by unfold vp_in; decide) dL_law_818 ?_
  refine lv_aload_n hx hb dL_law_819 rfl (lv_at hl 3 rfl) ?_
  refine lv_iload_n hx hb dL_law_820 rfl (lv_at hl 0 rfl) ?_
  refine lv_iconst (v := 4) hx hb dL_law_821 (by decide) ?_
  refine lv_iadd hx hb dL_law_822 ?_
  refine lv_topi (fun z10 hz10 => ?_)
  obtain rfl : z10 = 4 := hz10.trans (by first | rfl | decide | (simp [upd]; done))
  refine va_sld hx hb hX hbl hbA hS (by unfold vp_in; decide) dL_law_823 ?_
  refine lv_aload_n hx hb dL_law_824 rfl (lv_at hl 3 rfl) ?_
  refine lv_iload_n hx hb dL_law_825 rfl (lv_at hl 0 rfl) ?_
  refine lv_iconst (v := 5) hx hb dL_law_826 (by decide) ?_
  refine lv_iadd hx hb dL_law_827 ?_
  refine lv_topi (fun z11 hz11 => ?_)
  obtain rfl : z11 = 5 := hz11.trans (by first | rfl | decide | (simp [upd]; done))
  refine va_sld hx hb hX hbl hbA hS (by unfold vp_in; decide) dL_law_828 ?_
  have hs12 : kw_Split [(qm, .inr (11, [.ref (u2 0), .ref (u2 1), .ref (u2 2), .ref (u2 3), .long 0, .long 1, .ref (u2 4), .ref (u2 5), .ref (u2 6), .ref (u2 7), .ref (u2 8), .int 0, .int 0, .int 0, .int 0, .int 0, .ref (u2 9), .ref (u2 10)])), ((u2 0), .inl (y 0, 228, .inl (fun _ => 0))), ((u2 3), .inl (y 0, 3, .inl (fun _ => 0)))] [(qm, .inr (11, [.ref (u2 0), .ref (u2 1), .ref (u2 2), .ref (u2 3), .long 0, .long 1, .ref (u2 4), .ref (u2 5), .ref (u2 6), .ref (u2 7), .ref (u2 8), .int 0, .int 0, .int 0, .int 0, .int 0, .ref (u2 9), .ref (u2 10)])), ((u2 3), .inl (y 0, 3, .inl (fun _ => 0))), ((u2 0), .inl (y 0, 228, .inl (fun _ => 0)))] [] [0, 2, 1] [] := ⟨rfl, rfl, rfl, rfl, rfl, by decide⟩
  refine kw_go_i hs12 hP hD hS hA (va_runV (As := [.int (xs (1 : Int32).toNatClampNeg), .int (xs (2 : Int32).toNatClampNeg), .int (xs (3 : Int32).toNatClampNeg), .int (xs (4 : Int32).toNatClampNeg), .int (xs (5 : Int32).toNatClampNeg)]) (rest := [.int (-2)]) ⟨hx, hb, hml, hown, hts⟩ (cq_note l D y qm (u2 0) (u2 1) (u2 2) (u2 3) (u2 4) (u2 5) (u2 6) (u2 7) (u2 8) (u2 9) (u2 10) (xs (1 : Int32).toNatClampNeg) (xs (2 : Int32).toNatClampNeg) (xs (3 : Int32).toNatClampNeg) (xs (4 : Int32).toNatClampNeg) (xs (5 : Int32).toNatClampNeg)  _) (cwV 5 hts gL_law_X11_note rfl rfl rfl (by decide +kernel) ⟨Nat.le_of_ble_eq_true rfl, Nat.le_of_ble_eq_true rfl⟩) (kw_PreV (ci := 11) (q0 := 0) hs12 hP hD hK hN rfl rfl) rfl rfl hl.1 rfl (lv_room (Nat.le_of_ble_eq_true rfl)) dL_law_829 ⟨Nat.le_of_ble_eq_true rfl, Nat.le_of_ble_eq_true rfl⟩) (fun r u H locs hq hP hD hS => ?_)
  have hrr := hq
  obtain rfl : r = (-2) := hrr.trans (by decide)
  have hP : va_P D vwCl [] H := hP
  have hD : va_D (fun q : Nat => s.heap.size ≤ q) [] := hD
  refine lv_icmp_eq (tgt := 1145) hx hb dL_law_832 (by decide) (fun _ => ?_) (fun h9 => absurd h9 (by decide))
  refine lv_iinc (v := 6) (lv' := [(3, .int 6), (2, .ref qm), (1, .ref qx), (0, .ref b)]) hx hb dL_law_1145 hl (k := 0) rfl (by decide) (by decide) rfl (fun ls hl => ?_)
  refine lv_goto (tgt := 18) hx hb dL_law_1148 (by decide) ?_
  refine lv_iload_n hx hb dL_law_18 rfl (lv_at hl 0 rfl) ?_
  refine lv_aload_n hx hb dL_law_19 rfl (lv_at hl 3 rfl) ?_
  refine va_slen hx hb hX hbl hbA hS dL_law_20 ?_
  refine lv_topi (fun z13 hz13 => ?_)
  obtain rfl : z13 = 6 := hz13.trans (by first | rfl | decide | (simp [upd]; done))
  refine lv_bipush (v := 6) hx hb dL_law_21 (by decide) ?_
  refine lv_isub hx hb dL_law_23 ?_
  refine lv_topi (fun z14 hz14 => ?_)
  obtain rfl : z14 = 0 := hz14.trans (by first | rfl | decide | (simp [upd]; done))
  refine lv_icmp_gt (tgt := 1151) hx hb dL_law_24 (by decide) (fun _ => ?_) (fun h9 => absurd h9 (by decide))
  refine lv_iconst (v := 1) hx hb dL_law_1151 (by decide) ?_
  refine va_forget (fun q hq => hS.2.2 q hq) ?_
  refine W.widen (k := 600000) (n := 7302250) (Nat.le_of_ble_eq_true rfl) (Nat.le_of_ble_eq_true rfl) ?_
  exact lw_ret hx hb hr hlocks dL_law_1152

set_option maxHeartbeats 4000000 in
set_option maxRecDepth 100000 in
theorem lw_case23 {p : Program} {e : Env} {s : State} {m : MethodId} {below : List Frame} {meth : Method} {c : Code} (l : Launch) {b : Nat} {xs : Nat → Int32} (C0 : lw_At p s m meth c b 6 xs) {D : va_G} {y : Nat → ClassId} (hK : va_K D vwCl (kw_T y) s) (hN : kw_N s) (u1 u2 : Nat → Nat) (qx qm : Nat) {H : Heap} {locs : List Loc} {ls : Array Slot} (hP : va_P D vwCl (lw_world y u1 u2 qx qm) H) (hD : va_D (fun q : Nat => s.heap.size ≤ q) (lw_world y u1 u2 qx qm)) (hS : va_S (fun q : Nat => s.heap.size ≤ q) s.heap H locs) (hl : lv_has ls 4 [(3, .int 0), (2, .ref qm), (1, .ref qx), (0, .ref b)]) : W p l e room_1 s m #[Value.ref b] below meth c H locs 190 2130 (lw_Z below #[Value.ref b] s) (F0 m 837 ls []) := by
  obtain ⟨hx, hb, hr, hml, hown, hts0, hX, hbl, hlocks, hgv⟩ := id C0
  have hown : s.vm.findClass RL = some m.cls := hown
  have hts : ∀ w ∈ wsL_law, w.before #[Value.ref b] s = true := fun w h => hts0 w (wsL_law_in w h)
  have hA : ∀ q : Nat, s.heap.size ≤ q → (fun q : Nat => s.heap.size ≤ q) q := fun _ h => h
  have hbA : ¬ (fun q : Nat => s.heap.size ≤ q) b := Nat.not_le.mpr hbl
  have hP : va_P D vwCl [(qx, .inr (10, [.ref (u1 0), .ref (u1 1), .ref (u1 2), .ref (u1 3), .ref (u1 4), .ref (u1 5), .ref (u1 6), .ref (u1 7), .ref (u1 8), .ref (u1 9), .int 0, .int 1])), ((u1 1), .inr (4, [.ref (u1 0), .ref (u1 10), .ref (u1 11), .ref (u1 12), .ref (u1 13), .ref (u1 14), .int 0, .int 0, .int 0, .int 0, .int 0])), ((u1 9), .inl (y 0, 3, .inl (fun _ => 0))), (qm, .inr (11, [.ref (u2 0), .ref (u2 1), .ref (u2 2), .ref (u2 3), .long 0, .long 1, .ref (u2 4), .ref (u2 5), .ref (u2 6), .ref (u2 7), .ref (u2 8), .int 0, .int 0, .int 0, .int 0, .int 0, .ref (u2 9), .ref (u2 10)])), ((u2 0), .inl (y 0, 228, .inl (fun _ => 0))), ((u2 3), .inl (y 0, 3, .inl (fun _ => 0)))] H := hP.sub [0, 1, 32, 33, 34, 37] rfl
  have hD : va_D (fun q : Nat => s.heap.size ≤ q) [(qx, .inr (10, [.ref (u1 0), .ref (u1 1), .ref (u1 2), .ref (u1 3), .ref (u1 4), .ref (u1 5), .ref (u1 6), .ref (u1 7), .ref (u1 8), .ref (u1 9), .int 0, .int 1])), ((u1 1), .inr (4, [.ref (u1 0), .ref (u1 10), .ref (u1 11), .ref (u1 12), .ref (u1 13), .ref (u1 14), .int 0, .int 0, .int 0, .int 0, .int 0])), ((u1 9), .inl (y 0, 3, .inl (fun _ => 0))), (qm, .inr (11, [.ref (u2 0), .ref (u2 1), .ref (u2 2), .ref (u2 3), .long 0, .long 1, .ref (u2 4), .ref (u2 5), .ref (u2 6), .ref (u2 7), .ref (u2 8), .int 0, .int 0, .int 0, .int 0, .int 0, .ref (u2 9), .ref (u2 10)])), ((u2 0), .inl (y 0, 228, .inl (fun _ => 0))), ((u2 3), .inl (y 0, 3, .inl (fun _ => 0)))] := hD.sub [0, 1, 32, 33, 34, 37] (by decide) rfl
  refine lv_aload_n hx hb dL_law_837 rfl (lv_at hl 2 rfl) ?_
  refine lv_aload_n hx hb dL_law_838 rfl (lv_at hl 3 rfl) ?_
  refine lv_iload_n hx hb dL_law_839 rfl (lv_at hl 0 rfl) ?_
  refine lv_iconst (v := 1) hx hb dL_law_840 (by decide) ?_
  refine lv_iadd hx hb dL_law_841 ?_
  refine lv_topi (fun z1 hz1 => ?_)
  obtain rfl : z1 = 1 := hz1.trans (by first | rfl | decide | (simp [upd]; done))
  refine va_sld hx hb hX hbl hbA hS (by unfold vp_in; decide) dL_law_842 ?_
  have hs2 : kw_Split [(qx, .inr (10, [.ref (u1 0), .ref (u1 1), .ref (u1 2), .ref (u1 3), .ref (u1 4), .ref (u1 5), .ref (u1 6), .ref (u1 7), .ref (u1 8), .ref (u1 9), .int 0, .int 1])), ((u1 1), .inr (4, [.ref (u1 0), .ref (u1 10), .ref (u1 11), .ref (u1 12), .ref (u1 13), .ref (u1 14), .int 0, .int 0, .int 0, .int 0, .int 0])), ((u1 9), .inl (y 0, 3, .inl (fun _ => 0))), (qm, .inr (11, [.ref (u2 0), .ref (u2 1), .ref (u2 2), .ref (u2 3), .long 0, .long 1, .ref (u2 4), .ref (u2 5), .ref (u2 6), .ref (u2 7), .ref (u2 8), .int 0, .int 0, .int 0, .int 0, .int 0, .ref (u2 9), .ref (u2 10)])), ((u2 0), .inl (y 0, 228, .inl (fun _ => 0))), ((u2 3), .inl (y 0, 3, .inl (fun _ => 0)))] [(qx, .inr (10, [.ref (u1 0), .ref (u1 1), .ref (u1 2), .ref (u1 3), .ref (u1 4), .ref (u1 5), .ref (u1 6), .ref (u1 7), .ref (u1 8), .ref (u1 9), .int 0, .int 1])), ((u1 9), .inl (y 0, 3, .inl (fun _ => 0))), ((u1 1), .inr (4, [.ref (u1 0), .ref (u1 10), .ref (u1 11), .ref (u1 12), .ref (u1 13), .ref (u1 14), .int 0, .int 0, .int 0, .int 0, .int 0]))] [(qm, .inr (11, [.ref (u2 0), .ref (u2 1), .ref (u2 2), .ref (u2 3), .long 0, .long 1, .ref (u2 4), .ref (u2 5), .ref (u2 6), .ref (u2 7), .ref (u2 8), .int 0, .int 0, .int 0, .int 0, .int 0, .ref (u2 9), .ref (u2 10)])), ((u2 0), .inl (y 0, 228, .inl (fun _ => 0))), ((u2 3), .inl (y 0, 3, .inl (fun _ => 0)))] [0, 2, 1] [3, 4, 5] := ⟨rfl, rfl, rfl, rfl, rfl, by decide⟩
  refine kw_go_i hs2 hP hD hS hA (va_runV (As := [.int (xs (1 : Int32).toNatClampNeg)]) (rest := []) ⟨hx, hb, hml, hown, hts⟩ (cp_forget l D y qx (u1 0) (u1 1) (u1 2) (u1 3) (u1 4) (u1 5) (u1 6) (u1 7) (u1 8) (u1 9) (u1 10) (u1 11) (u1 12) (u1 13) (u1 14) (xs (1 : Int32).toNatClampNeg)  _) (cwV 1 hts gL_law_X10_forget rfl rfl rfl (by decide +kernel) ⟨Nat.le_of_ble_eq_true rfl, Nat.le_of_ble_eq_true rfl⟩) (kw_PreV (ci := 10) (q0 := 0) hs2 hP hD hK hN rfl rfl) rfl rfl hl.1 rfl (lv_room (Nat.le_of_ble_eq_true rfl)) dL_law_843 ⟨Nat.le_of_ble_eq_true rfl, Nat.le_of_ble_eq_true rfl⟩) (fun r u H locs hq hP hD hS => ?_)
  obtain rfl := hq
  have hP : va_P D vwCl [(qm, .inr (11, [.ref (u2 0), .ref (u2 1), .ref (u2 2), .ref (u2 3), .long 0, .long 1, .ref (u2 4), .ref (u2 5), .ref (u2 6), .ref (u2 7), .ref (u2 8), .int 0, .int 0, .int 0, .int 0, .int 0, .ref (u2 9), .ref (u2 10)])), ((u2 0), .inl (y 0, 228, .inl (fun _ => 0))), ((u2 3), .inl (y 0, 3, .inl (fun _ => 0)))] H := hP
  have hD : va_D (fun q : Nat => s.heap.size ≤ q) [(qm, .inr (11, [.ref (u2 0), .ref (u2 1), .ref (u2 2), .ref (u2 3), .long 0, .long 1, .ref (u2 4), .ref (u2 5), .ref (u2 6), .ref (u2 7), .ref (u2 8), .int 0, .int 0, .int 0, .int 0, .int 0, .ref (u2 9), .ref (u2 10)])), ((u2 0), .inl (y 0, 228, .inl (fun _ => 0))), ((u2 3), .inl (y 0, 3, .inl (fun _ => 0)))] := hD
  refine lv_aload_n hx hb dL_law_846 rfl (lv_at hl 1 rfl) ?_
  refine lv_aload_n hx hb dL_law_847 rfl (lv_at hl 3 rfl) ?_
  refine lv_iload_n hx hb dL_law_848 rfl (lv_at hl 0 rfl) ?_
  refine lv_iconst (v := 1) hx hb dL_law_849 (by decide) ?_
  refine lv_iadd hx hb dL_law_850 ?_
  refine lv_topi (fun z3 hz3 => ?_)
  obtain rfl : z3 = 1 := hz3.trans (by first | rfl | decide | (simp [upd]; done))
  refine va_sld hx hb hX hbl hbA hS (by unfold vp_in; decide) dL_law_851 ?_
  have hs4 : kw_Split [(qm, .inr (11, [.ref (u2 0), .ref (u2 1), .ref (u2 2), .ref (u2 3), .long 0, .long 1, .ref (u2 4), .ref (u2 5), .ref (u2 6), .ref (u2 7), .ref (u2 8), .int 0, .int 0, .int 0, .int 0, .int 0, .ref (u2 9), .ref (u2 10)])), ((u2 0), .inl (y 0, 228, .inl (fun _ => 0))), ((u2 3), .inl (y 0, 3, .inl (fun _ => 0)))] [(qm, .inr (11, [.ref (u2 0), .ref (u2 1), .ref (u2 2), .ref (u2 3), .long 0, .long 1, .ref (u2 4), .ref (u2 5), .ref (u2 6), .ref (u2 7), .ref (u2 8), .int 0, .int 0, .int 0, .int 0, .int 0, .ref (u2 9), .ref (u2 10)])), ((u2 3), .inl (y 0, 3, .inl (fun _ => 0))), ((u2 0), .inl (y 0, 228, .inl (fun _ => 0)))] [] [0, 2, 1] [] := ⟨rfl, rfl, rfl, rfl, rfl, by decide⟩
  refine kw_go_i hs4 hP hD hS hA (va_runV (As := [.int (xs (1 : Int32).toNatClampNeg)]) (rest := [.int (sp_forget (xs (1 : Int32).toNatClampNeg))]) ⟨hx, hb, hml, hown, hts⟩ (cq_forget l D y qm (u2 0) (u2 1) (u2 2) (u2 3) (u2 4) (u2 5) (u2 6) (u2 7) (u2 8) (u2 9) (u2 10) (xs (1 : Int32).toNatClampNeg)  _) (cwV 1 hts gL_law_X11_forget rfl rfl rfl (by decide +kernel) ⟨Nat.le_of_ble_eq_true rfl, Nat.le_of_ble_eq_true rfl⟩) (kw_PreV (ci := 11) (q0 := 0) hs4 hP hD hK hN rfl rfl) rfl rfl hl.1 rfl (lv_room (Nat.le_of_ble_eq_true rfl)) dL_law_852 ⟨Nat.le_of_ble_eq_true rfl, Nat.le_of_ble_eq_true rfl⟩) (fun r u H locs hq hP hD hS => ?_)
  obtain rfl := hq
  have hP : va_P D vwCl [] H := hP
  have hD : va_D (fun q : Nat => s.heap.size ≤ q) [] := hD
  refine lv_icmp_eq (tgt := 1145) hx hb dL_law_855 (by decide) (fun _ => ?_) (fun h9 => absurd rfl h9)
  refine lv_iinc (v := 6) (lv' := [(3, .int 6), (2, .ref qm), (1, .ref qx), (0, .ref b)]) hx hb dL_law_1145 hl (k := 0) rfl (by decide) (by decide) rfl (fun ls hl => ?_)
  refine lv_goto (tgt := 18) hx hb dL_law_1148 (by decide) ?_
  refine lv_iload_n hx hb dL_law_18 rfl (lv_at hl 0 rfl) ?_
  refine lv_aload_n hx hb dL_law_19 rfl (lv_at hl 3 rfl) ?_
  refine va_slen hx hb hX hbl hbA hS dL_law_20 ?_
  refine lv_topi (fun z5 hz5 => ?_)
  obtain rfl : z5 = 6 := hz5.trans (by first | rfl | decide | (simp [upd]; done))
  refine lv_bipush (v := 6) hx hb dL_law_21 (by decide) ?_
  refine lv_isub hx hb dL_law_23 ?_
  refine lv_topi (fun z6 hz6 => ?_)
  obtain rfl : z6 = 0 := hz6.trans (by first | rfl | decide | (simp [upd]; done))
  refine lv_icmp_gt (tgt := 1151) hx hb dL_law_24 (by decide) (fun _ => ?_) (fun h9 => absurd h9 (by decide))
  refine lv_iconst (v := 1) hx hb dL_law_1151 (by decide) ?_
  refine va_forget (fun q hq => hS.2.2 q hq) ?_
  refine W.widen (k := 600000) (n := 7302250) (Nat.le_of_ble_eq_true rfl) (Nat.le_of_ble_eq_true rfl) ?_
  exact lw_ret hx hb hr hlocks dL_law_1152

set_option maxHeartbeats 4000000 in
set_option maxRecDepth 100000 in
theorem lw_case24 {p : Program} {e : Env} {s : State} {m : MethodId} {below : List Frame} {meth : Method} {c : Code} (l : Launch) {b : Nat} {xs : Nat → Int32} (C0 : lw_At p s m meth c b 6 xs) {D : va_G} {y : Nat → ClassId} (hK : va_K D vwCl (kw_T y) s) (hN : kw_N s) (u1 u2 : Nat → Nat) (qx qm : Nat) {H : Heap} {locs : List Loc} {ls : Array Slot} (hP : va_P D vwCl (lw_world y u1 u2 qx qm) H) (hD : va_D (fun q : Nat => s.heap.size ≤ q) (lw_world y u1 u2 qx qm)) (hS : va_S (fun q : Nat => s.heap.size ≤ q) s.heap H locs) (hl : lv_has ls 4 [(3, .int 0), (2, .ref qm), (1, .ref qx), (0, .ref b)]) : W p l e room_1 s m #[Value.ref b] below meth c H locs 190 2130 (lw_Z below #[Value.ref b] s) (F0 m 860 ls []) := by
  obtain ⟨hx, hb, hr, hml, hown, hts0, hX, hbl, hlocks, hgv⟩ := id C0
  have hown : s.vm.findClass RL = some m.cls := hown
  have hts : ∀ w ∈ wsL_law, w.before #[Value.ref b] s = true := fun w h => hts0 w (wsL_law_in w h)
  have hA : ∀ q : Nat, s.heap.size ≤ q → (fun q : Nat => s.heap.size ≤ q) q := fun _ h => h
  have hbA : ¬ (fun q : Nat => s.heap.size ≤ q) b := Nat.not_le.mpr hbl
  have hP : va_P D vwCl [(qx, .inr (10, [.ref (u1 0), .ref (u1 1), .ref (u1 2), .ref (u1 3), .ref (u1 4), .ref (u1 5), .ref (u1 6), .ref (u1 7), .ref (u1 8), .ref (u1 9), .int 0, .int 1])), ((u1 1), .inr (4, [.ref (u1 0), .ref (u1 10), .ref (u1 11), .ref (u1 12), .ref (u1 13), .ref (u1 14), .int 0, .int 0, .int 0, .int 0, .int 0])), ((u1 9), .inl (y 0, 3, .inl (fun _ => 0))), (qm, .inr (11, [.ref (u2 0), .ref (u2 1), .ref (u2 2), .ref (u2 3), .long 0, .long 1, .ref (u2 4), .ref (u2 5), .ref (u2 6), .ref (u2 7), .ref (u2 8), .int 0, .int 0, .int 0, .int 0, .int 0, .ref (u2 9), .ref (u2 10)])), ((u2 0), .inl (y 0, 228, .inl (fun _ => 0))), ((u2 3), .inl (y 0, 3, .inl (fun _ => 0)))] H := hP.sub [0, 1, 32, 33, 34, 37] rfl
  have hD : va_D (fun q : Nat => s.heap.size ≤ q) [(qx, .inr (10, [.ref (u1 0), .ref (u1 1), .ref (u1 2), .ref (u1 3), .ref (u1 4), .ref (u1 5), .ref (u1 6), .ref (u1 7), .ref (u1 8), .ref (u1 9), .int 0, .int 1])), ((u1 1), .inr (4, [.ref (u1 0), .ref (u1 10), .ref (u1 11), .ref (u1 12), .ref (u1 13), .ref (u1 14), .int 0, .int 0, .int 0, .int 0, .int 0])), ((u1 9), .inl (y 0, 3, .inl (fun _ => 0))), (qm, .inr (11, [.ref (u2 0), .ref (u2 1), .ref (u2 2), .ref (u2 3), .long 0, .long 1, .ref (u2 4), .ref (u2 5), .ref (u2 6), .ref (u2 7), .ref (u2 8), .int 0, .int 0, .int 0, .int 0, .int 0, .ref (u2 9), .ref (u2 10)])), ((u2 0), .inl (y 0, 228, .inl (fun _ => 0))), ((u2 3), .inl (y 0, 3, .inl (fun _ => 0)))] := hD.sub [0, 1, 32, 33, 34, 37] (by decide) rfl
  refine lv_aload_n hx hb dL_law_860 rfl (lv_at hl 2 rfl) ?_
  refine lv_aload_n hx hb dL_law_861 rfl (lv_at hl 3 rfl) ?_
  refine lv_iload_n hx hb dL_law_862 rfl (lv_at hl 0 rfl) ?_
  refine lv_iconst (v := 1) hx hb dL_law_863 (by decide) ?_
  refine lv_iadd hx hb dL_law_864 ?_
  refine lv_topi (fun z1 hz1 => ?_)
  obtain rfl : z1 = 1 := hz1.trans (by first | rfl | decide | (simp [upd]; done))
  refine va_sld hx hb hX hbl hbA hS (by unfold vp_in; decide) dL_law_865 ?_
  have hs2 : kw_Split [(qx, .inr (10, [.ref (u1 0), .ref (u1 1), .ref (u1 2), .ref (u1 3), .ref (u1 4), .ref (u1 5), .ref (u1 6), .ref (u1 7), .ref (u1 8), .ref (u1 9), .int 0, .int 1])), ((u1 1), .inr (4, [.ref (u1 0), .ref (u1 10), .ref (u1 11), .ref (u1 12), .ref (u1 13), .ref (u1 14), .int 0, .int 0, .int 0, .int 0, .int 0])), ((u1 9), .inl (y 0, 3, .inl (fun _ => 0))), (qm, .inr (11, [.ref (u2 0), .ref (u2 1), .ref (u2 2), .ref (u2 3), .long 0, .long 1, .ref (u2 4), .ref (u2 5), .ref (u2 6), .ref (u2 7), .ref (u2 8), .int 0, .int 0, .int 0, .int 0, .int 0, .ref (u2 9), .ref (u2 10)])), ((u2 0), .inl (y 0, 228, .inl (fun _ => 0))), ((u2 3), .inl (y 0, 3, .inl (fun _ => 0)))] [(qx, .inr (10, [.ref (u1 0), .ref (u1 1), .ref (u1 2), .ref (u1 3), .ref (u1 4), .ref (u1 5), .ref (u1 6), .ref (u1 7), .ref (u1 8), .ref (u1 9), .int 0, .int 1])), ((u1 9), .inl (y 0, 3, .inl (fun _ => 0))), ((u1 1), .inr (4, [.ref (u1 0), .ref (u1 10), .ref (u1 11), .ref (u1 12), .ref (u1 13), .ref (u1 14), .int 0, .int 0, .int 0, .int 0, .int 0]))] [(qm, .inr (11, [.ref (u2 0), .ref (u2 1), .ref (u2 2), .ref (u2 3), .long 0, .long 1, .ref (u2 4), .ref (u2 5), .ref (u2 6), .ref (u2 7), .ref (u2 8), .int 0, .int 0, .int 0, .int 0, .int 0, .ref (u2 9), .ref (u2 10)])), ((u2 0), .inl (y 0, 228, .inl (fun _ => 0))), ((u2 3), .inl (y 0, 3, .inl (fun _ => 0)))] [0, 2, 1] [3, 4, 5] := ⟨rfl, rfl, rfl, rfl, rfl, by decide⟩
  refine kw_go_i hs2 hP hD hS hA (va_runV (As := [.int (xs (1 : Int32).toNatClampNeg)]) (rest := []) ⟨hx, hb, hml, hown, hts⟩ (cp_is l D y qx (u1 0) (u1 1) (u1 2) (u1 3) (u1 4) (u1 5) (u1 6) (u1 7) (u1 8) (u1 9) (u1 10) (u1 11) (u1 12) (u1 13) (u1 14) (xs (1 : Int32).toNatClampNeg)  _) (cwV 1 hts gL_law_X10_is rfl rfl rfl (by decide +kernel) ⟨Nat.le_of_ble_eq_true rfl, Nat.le_of_ble_eq_true rfl⟩) (kw_PreV (ci := 10) (q0 := 0) hs2 hP hD hK hN rfl rfl) rfl rfl hl.1 rfl (lv_room (Nat.le_of_ble_eq_true rfl)) dL_law_866 ⟨Nat.le_of_ble_eq_true rfl, Nat.le_of_ble_eq_true rfl⟩) (fun r u H locs hq hP hD hS => ?_)
  have hrr := hq
  obtain rfl : r = (-2) := hrr.trans (by decide)
  have hP : va_P D vwCl [(qm, .inr (11, [.ref (u2 0), .ref (u2 1), .ref (u2 2), .ref (u2 3), .long 0, .long 1, .ref (u2 4), .ref (u2 5), .ref (u2 6), .ref (u2 7), .ref (u2 8), .int 0, .int 0, .int 0, .int 0, .int 0, .ref (u2 9), .ref (u2 10)])), ((u2 0), .inl (y 0, 228, .inl (fun _ => 0))), ((u2 3), .inl (y 0, 3, .inl (fun _ => 0)))] H := hP
  have hD : va_D (fun q : Nat => s.heap.size ≤ q) [(qm, .inr (11, [.ref (u2 0), .ref (u2 1), .ref (u2 2), .ref (u2 3), .long 0, .long 1, .ref (u2 4), .ref (u2 5), .ref (u2 6), .ref (u2 7), .ref (u2 8), .int 0, .int 0, .int 0, .int 0, .int 0, .ref (u2 9), .ref (u2 10)])), ((u2 0), .inl (y 0, 228, .inl (fun _ => 0))), ((u2 3), .inl (y 0, 3, .inl (fun _ => 0)))] := hD
  refine lv_aload_n hx hb dL_law_869 rfl (lv_at hl 1 rfl) ?_
  refine lv_aload_n hx hb dL_law_870 rfl (lv_at hl 3 rfl) ?_
  refine lv_iload_n hx hb dL_law_871 rfl (lv_at hl 0 rfl) ?_
  refine lv_iconst (v := 1) hx hb dL_law_872 (by decide) ?_
  refine lv_iadd hx hb dL_law_873 ?_
  refine lv_topi (fun z3 hz3 => ?_)
  obtain rfl : z3 = 1 := hz3.trans (by first | rfl | decide | (simp [upd]; done))
  refine va_sld hx hb hX hbl hbA hS (by unfold vp_in; decide) dL_law_874 ?_
  have hs4 : kw_Split [(qm, .inr (11, [.ref (u2 0), .ref (u2 1), .ref (u2 2), .ref (u2 3), .long 0, .long 1, .ref (u2 4), .ref (u2 5), .ref (u2 6), .ref (u2 7), .ref (u2 8), .int 0, .int 0, .int 0, .int 0, .int 0, .ref (u2 9), .ref (u2 10)])), ((u2 0), .inl (y 0, 228, .inl (fun _ => 0))), ((u2 3), .inl (y 0, 3, .inl (fun _ => 0)))] [(qm, .inr (11, [.ref (u2 0), .ref (u2 1), .ref (u2 2), .ref (u2 3), .long 0, .long 1, .ref (u2 4), .ref (u2 5), .ref (u2 6), .ref (u2 7), .ref (u2 8), .int 0, .int 0, .int 0, .int 0, .int 0, .ref (u2 9), .ref (u2 10)])), ((u2 3), .inl (y 0, 3, .inl (fun _ => 0))), ((u2 0), .inl (y 0, 228, .inl (fun _ => 0)))] [] [0, 2, 1] [] := ⟨rfl, rfl, rfl, rfl, rfl, by decide⟩
  refine kw_go_i hs4 hP hD hS hA (va_runV (As := [.int (xs (1 : Int32).toNatClampNeg)]) (rest := [.int (-2)]) ⟨hx, hb, hml, hown, hts⟩ (cq_is l D y qm (u2 0) (u2 1) (u2 2) (u2 3) (u2 4) (u2 5) (u2 6) (u2 7) (u2 8) (u2 9) (u2 10) (xs (1 : Int32).toNatClampNeg)  _) (cwV 1 hts gL_law_X11_is rfl rfl rfl (by decide +kernel) ⟨Nat.le_of_ble_eq_true rfl, Nat.le_of_ble_eq_true rfl⟩) (kw_PreV (ci := 11) (q0 := 0) hs4 hP hD hK hN rfl rfl) rfl rfl hl.1 rfl (lv_room (Nat.le_of_ble_eq_true rfl)) dL_law_875 ⟨Nat.le_of_ble_eq_true rfl, Nat.le_of_ble_eq_true rfl⟩) (fun r u H locs hq hP hD hS => ?_)
  have hrr := hq
  obtain rfl : r = (-2) := hrr.trans (by decide)
  have hP : va_P D vwCl [] H := hP
  have hD : va_D (fun q : Nat => s.heap.size ≤ q) [] := hD
  refine lv_icmp_eq (tgt := 1145) hx hb dL_law_878 (by decide) (fun _ => ?_) (fun h9 => absurd h9 (by decide))
  refine lv_iinc (v := 6) (lv' := [(3, .int 6), (2, .ref qm), (1, .ref qx), (0, .ref b)]) hx hb dL_law_1145 hl (k := 0) rfl (by decide) (by decide) rfl (fun ls hl => ?_)
  refine lv_goto (tgt := 18) hx hb dL_law_1148 (by decide) ?_
  refine lv_iload_n hx hb dL_law_18 rfl (lv_at hl 0 rfl) ?_
  refine lv_aload_n hx hb dL_law_19 rfl (lv_at hl 3 rfl) ?_
  refine va_slen hx hb hX hbl hbA hS dL_law_20 ?_
  refine lv_topi (fun z5 hz5 => ?_)
  obtain rfl : z5 = 6 := hz5.trans (by first | rfl | decide | (simp [upd]; done))
  refine lv_bipush (v := 6) hx hb dL_law_21 (by decide) ?_
  refine lv_isub hx hb dL_law_23 ?_
  refine lv_topi (fun z6 hz6 => ?_)
  obtain rfl : z6 = 0 := hz6.trans (by first | rfl | decide | (simp [upd]; done))
  refine lv_icmp_gt (tgt := 1151) hx hb dL_law_24 (by decide) (fun _ => ?_) (fun h9 => absurd h9 (by decide))
  refine lv_iconst (v := 1) hx hb dL_law_1151 (by decide) ?_
  refine va_forget (fun q hq => hS.2.2 q hq) ?_
  refine W.widen (k := 600000) (n := 7302250) (Nat.le_of_ble_eq_true rfl) (Nat.le_of_ble_eq_true rfl) ?_
  exact lw_ret hx hb hr hlocks dL_law_1152
