set_option maxHeartbeats 4000000 in
set_option maxRecDepth 100000 in
theorem lw_case13 {p : Program} {e : Env} {s : State} {m : MethodId} {below : List Frame} {meth : Method} {c : Code} (l : Launch) {b : Nat} {xs : Nat → Int32} (C0 : lw_At p s m meth c b 6 xs) {D : va_G} {y : Nat → ClassId} (hK : va_K D vwCl (kw_T y) s) (hN : kw_N s) (u1 u2 : Nat → Nat) (qx qm : Nat) {H : Heap} {locs : List Loc} {ls : Array Slot} (hP : va_P D vwCl (lw_world y u1 u2 qx qm) H) (hD : va_D (fun q : Nat => s.heap.size ≤ q) (lw_world y u1 u2 qx qm)) (hS : va_S (fun q : Nat => s.heap.size ≤ q) s.heap H locs) (hl : lv_has ls 4 [(3, .int 0), (2, .ref qm), (1, .ref qx), (0, .ref b)]) : W p l e room_1 s m #[Value.ref b] below meth c H locs 190 2130 (lw_Z below #[Value.ref b] s) (F0 m 487 ls []) := by
  obtain ⟨hx, hb, hr, hml, hown, hts0, hX, hbl, hlocks, hgv⟩ := id C0
  have hown : s.vm.findClass RL = some m.cls := hown
  have hts : ∀ w ∈ wsL_law, w.before #[Value.ref b] s = true := fun w h => hts0 w (wsL_law_in w h)
  have hA : ∀ q : Nat, s.heap.size ≤ q → (fun q : Nat => s.heap.size ≤ q) q := fun _ h => h
  have hbA : ¬ (fun q : Nat => s.heap.size ≤ q) b := Nat.not_le.mpr hbl
  have hP : va_P D vwCl [(qx, .inr (10, [.ref (u1 0), .ref (u1 1), .ref (u1 2), .ref (u1 3), .ref (u1 4), .ref (u1 5), .ref (u1 6), .ref (u1 7), .ref (u1 8), .ref (u1 9), .int 0, .int 1])), ((u1 1), .inr (4, [.ref (u1 0), .ref (u1 10), .ref (u1 11), .ref (u1 12), .ref (u1 13), .ref (u1 14), .int 0, .int 0, .int 0, .int 0, .int 0])), ((u1 9), .inl (y 0, 3, .inl (fun _ => 0))), (qm, .inr (11, [.ref (u2 0), .ref (u2 1), .ref (u2 2), .ref (u2 3), .long 0, .long 1, .ref (u2 4), .ref (u2 5), .ref (u2 6), .ref (u2 7), .ref (u2 8), .int 0, .int 0, .int 0, .int 0, .int 0, .ref (u2 9), .ref (u2 10)])), ((u2 0), .inl (y 0, 228, .inl (fun _ => 0))), ((u2 3), .inl (y 0, 3, .inl (fun _ => 0)))] H := hP.sub [0, 1, 32, 33, 34, 37] rfl
  have hD : va_D (fun q : Nat => s.heap.size ≤ q) [(qx, .inr (10, [.ref (u1 0), .ref (u1 1), .ref (u1 2), .ref (u1 3), .ref (u1 4), .ref (u1 5), .ref (u1 6), .ref (u1 7), .ref (u1 8), .ref (u1 9), .int 0, .int 1])), ((u1 1), .inr (4, [.ref (u1 0), .ref (u1 10), .ref (u1 11), .ref (u1 12), .ref (u1 13), .ref (u1 14), .int 0, .int 0, .int 0, .int 0, .int 0])), ((u1 9), .inl (y 0, 3, .inl (fun _ => 0))), (qm, .inr (11, [.ref (u2 0), .ref (u2 1), .ref (u2 2), .ref (u2 3), .long 0, .long 1, .ref (u2 4), .ref (u2 5), .ref (u2 6), .ref (u2 7), .ref (u2 8), .int 0, .int 0, .int 0, .int 0, .int 0, .ref (u2 9), .ref (u2 10)])), ((u2 0), .inl (y 0, 228, .inl (fun _ => 0))), ((u2 3), .inl (y 0, 3, .inl (fun _ => 0)))] := hD.sub [0, 1, 32, 33, 34, 37] (by decide) rfl
  refine lv_aload_n hx hb dL_law_487 rfl (lv_at hl 2 rfl) ?_
  refine lv_aload_n hx hb dL_law_488 rfl (lv_at hl 3 rfl) ?_
  refine lv_iload_n hx hb dL_law_489 rfl (lv_at hl 0 rfl) ?_
  refine lv_iconst (v := 1) hx hb dL_law_490 (by decide) ?_
  refine lv_iadd hx hb dL_law_491 ?_
  refine lv_topi (fun z1 hz1 => ?_)
  obtain rfl : z1 = 1 := hz1.trans (by first | rfl | decide | (simp [upd]; done))
  refine va_sld hx hb hX hbl hbA hS (by unfold vp_in; decide) dL_law_492 ?_
  refine lv_aload_n hx hb dL_law_493 rfl (lv_at hl 3 rfl) ?_
  refine lv_iload_n hx hb dL_law_494 rfl (lv_at hl 0 rfl) ?_
  refine lv_iconst (v := 2) hx hb dL_law_495 (by decide) ?_
  refine lv_iadd hx hb dL_law_496 ?_
  refine lv_topi (fun z2 hz2 => ?_)
  obtain rfl : z2 = 2 := hz2.trans (by first | rfl | decide | (simp [upd]; done))
  refine va_sld hx hb hX hbl hbA hS (by unfold vp_in; decide) dL_law_497 ?_
  have hs3 : kw_Split [(qx, .inr (10, [.ref (u1 0), .ref (u1 1), .ref (u1 2), .ref (u1 3), .ref (u1 4), .ref (u1 5), .ref (u1 6), .ref (u1 7), .ref (u1 8), .ref (u1 9), .int 0, .int 1])), ((u1 1), .inr (4, [.ref (u1 0), .ref (u1 10), .ref (u1 11), .ref (u1 12), .ref (u1 13), .ref (u1 14), .int 0, .int 0, .int 0, .int 0, .int 0])), ((u1 9), .inl (y 0, 3, .inl (fun _ => 0))), (qm, .inr (11, [.ref (u2 0), .ref (u2 1), .ref (u2 2), .ref (u2 3), .long 0, .long 1, .ref (u2 4), .ref (u2 5), .ref (u2 6), .ref (u2 7), .ref (u2 8), .int 0, .int 0, .int 0, .int 0, .int 0, .ref (u2 9), .ref (u2 10)])), ((u2 0), .inl (y 0, 228, .inl (fun _ => 0))), ((u2 3), .inl (y 0, 3, .inl (fun _ => 0)))] [(qx, .inr (10, [.ref (u1 0), .ref (u1 1), .ref (u1 2), .ref (u1 3), .ref (u1 4), .ref (u1 5), .ref (u1 6), .ref (u1 7), .ref (u1 8), .ref (u1 9), .int 0, .int 1])), ((u1 9), .inl (y 0, 3, .inl (fun _ => 0))), ((u1 1), .inr (4, [.ref (u1 0), .ref (u1 10), .ref (u1 11), .ref (u1 12), .ref (u1 13), .ref (u1 14), .int 0, .int 0, .int 0, .int 0, .int 0]))] [(qm, .inr (11, [.ref (u2 0), .ref (u2 1), .ref (u2 2), .ref (u2 3), .long 0, .long 1, .ref (u2 4), .ref (u2 5), .ref (u2 6), .ref (u2 7), .ref (u2 8), .int 0, .int 0, .int 0, .int 0, .int 0, .ref (u2 9), .ref (u2 10)])), ((u2 0), .inl (y 0, 228, .inl (fun _ => 0))), ((u2 3), .inl (y 0, 3, .inl (fun _ => 0)))] [0, 2, 1] [3, 4, 5] := ⟨rfl, rfl, rfl, rfl, rfl, by decide⟩
  refine kw_go_i hs3 hP hD hS hA (va_runV (As := [.int (xs (1 : Int32).toNatClampNeg), .int (xs (2 : Int32).toNatClampNeg)]) (rest := []) ⟨hx, hb, hml, hown, hts⟩ (cp_seen l D y qx (u1 0) (u1 1) (u1 2) (u1 3) (u1 4) (u1 5) (u1 6) (u1 7) (u1 8) (u1 9) (u1 10) (u1 11) (u1 12) (u1 13) (u1 14) (xs (1 : Int32).toNatClampNeg) (xs (2 : Int32).toNatClampNeg)  _) (cwV 2 hts gL_law_X10_seen rfl rfl rfl (by decide +kernel) ⟨Nat.le_of_ble_eq_true rfl, Nat.le_of_ble_eq_true rfl⟩) (kw_PreV (ci := 10) (q0 := 0) hs3 hP hD hK hN rfl rfl) rfl rfl hl.1 rfl (lv_room (Nat.le_of_ble_eq_true rfl)) dL_law_498 ⟨Nat.le_of_ble_eq_true rfl, Nat.le_of_ble_eq_true rfl⟩) (fun r u H locs hq hP hD hS => ?_)
  have hrr := hq
  obtain rfl : r = (-2) := hrr.trans (by decide)
  have hP : va_P D vwCl [(qm, .inr (11, [.ref (u2 0), .ref (u2 1), .ref (u2 2), .ref (u2 3), .long 0, .long 1, .ref (u2 4), .ref (u2 5), .ref (u2 6), .ref (u2 7), .ref (u2 8), .int 0, .int 0, .int 0, .int 0, .int 0, .ref (u2 9), .ref (u2 10)])), ((u2 0), .inl (y 0, 228, .inl (fun _ => 0))), ((u2 3), .inl (y 0, 3, .inl (fun _ => 0)))] H := hP
  have hD : va_D (fun q : Nat => s.heap.size ≤ q) [(qm, .inr (11, [.ref (u2 0), .ref (u2 1), .ref (u2 2), .ref (u2 3), .long 0, .long 1, .ref (u2 4), .ref (u2 5), .ref (u2 6), .ref (u2 7), .ref (u2 8), .int 0, .int 0, .int 0, .int 0, .int 0, .ref (u2 9), .ref (u2 10)])), ((u2 0), .inl (y 0, 228, .inl (fun _ => 0))), ((u2 3), .inl (y 0, 3, .inl (fun _ => 0)))] := hD
  refine lv_aload_n hx hb dL_law_501 rfl (lv_at hl 1 rfl) ?_
  refine lv_aload_n hx hb dL_law_502 rfl (lv_at hl 3 rfl) ?_
  refine lv_iload_n hx hb dL_law_503 rfl (lv_at hl 0 rfl) ?_
  refine lv_iconst (v := 1) hx hb dL_law_504 (by decide) ?_
  refine lv_iadd hx hb dL_law_505 ?_
  refine lv_topi (fun z4 hz4 => ?_)
  obtain rfl : z4 = 1 := hz4.trans (by first | rfl | decide | (simp [upd]; done))
  refine va_sld hx hb hX hbl hbA hS (by unfold vp_in; decide) dL_law_506 ?_
  refine lv_aload_n hx hb dL_law_507 rfl (lv_at hl 3 rfl) ?_
  refine lv_iload_n hx hb dL_law_508 rfl (lv_at hl 0 rfl) ?_
  refine lv_iconst (v := 2) hx hb dL_law_509 (by decide) ?_
  refine lv_iadd hx hb dL_law_510 ?_
  refine lv_topi (fun z5 hz5 => ?_)
  obtain rfl : z5 = 2 := hz5.trans (by first | rfl | decide | (simp [upd]; done))
  refine va_sld hx hb hX hbl hbA hS (by unfold vp_in; decide) dL_law_511 ?_
  have hs6 : kw_Split [(qm, .inr (11, [.ref (u2 0), .ref (u2 1), .ref (u2 2), .ref (u2 3), .long 0, .long 1, .ref (u2 4), .ref (u2 5), .ref (u2 6), .ref (u2 7), .ref (u2 8), .int 0, .int 0, .int 0, .int 0, .int 0, .ref (u2 9), .ref (u2 10)])), ((u2 0), .inl (y 0, 228, .inl (fun _ => 0))), ((u2 3), .inl (y 0, 3, .inl (fun _ => 0)))] [(qm, .inr (11, [.ref (u2 0), .ref (u2 1), .ref (u2 2), .ref (u2 3), .long 0, .long 1, .ref (u2 4), .ref (u2 5), .ref (u2 6), .ref (u2 7), .ref (u2 8), .int 0, .int 0, .int 0, .int 0, .int 0, .ref (u2 9), .ref (u2 10)])), ((u2 3), .inl (y 0, 3, .inl (fun _ => 0))), ((u2 0), .inl (y 0, 228, .inl (fun _ => 0)))] [] [0, 2, 1] [] := ⟨rfl, rfl, rfl, rfl, rfl, by decide⟩
  refine kw_go_i hs6 hP hD hS hA (va_runV (As := [.int (xs (1 : Int32).toNatClampNeg), .int (xs (2 : Int32).toNatClampNeg)]) (rest := [.int (-2)]) ⟨hx, hb, hml, hown, hts⟩ (cq_seen l D y qm (u2 0) (u2 1) (u2 2) (u2 3) (u2 4) (u2 5) (u2 6) (u2 7) (u2 8) (u2 9) (u2 10) (xs (1 : Int32).toNatClampNeg) (xs (2 : Int32).toNatClampNeg)  _) (cwV 2 hts gL_law_X11_seen rfl rfl rfl (by decide +kernel) ⟨Nat.le_of_ble_eq_true rfl, Nat.le_of_ble_eq_true rfl⟩) (kw_PreV (ci := 11) (q0 := 0) hs6 hP hD hK hN rfl rfl) rfl rfl hl.1 rfl (lv_room (Nat.le_of_ble_eq_true rfl)) dL_law_512 ⟨Nat.le_of_ble_eq_true rfl, Nat.le_of_ble_eq_true rfl⟩) (fun r u H locs hq hP hD hS => ?_)
  have hrr := hq
  obtain rfl : r = (-2) := hrr.trans (by decide)
  have hP : va_P D vwCl [] H := hP
  have hD : va_D (fun q : Nat => s.heap.size ≤ q) [] := hD
  refine lv_icmp_eq (tgt := 1145) hx hb dL_law_515 (by decide) (fun _ => ?_) (fun h9 => absurd h9 (by decide))
  refine lv_iinc (v := 6) (lv' := [(3, .int 6), (2, .ref qm), (1, .ref qx), (0, .ref b)]) hx hb dL_law_1145 hl (k := 0) rfl (by decide) (by decide) rfl (fun ls hl => ?_)
  refine lv_goto (tgt := 18) hx hb dL_law_1148 (by decide) ?_
  refine lv_iload_n hx hb dL_law_18 rfl (lv_at hl 0 rfl) ?_
  refine lv_aload_n hx hb dL_law_19 rfl (lv_at hl 3 rfl) ?_
  refine va_slen hx hb hX hbl hbA hS dL_law_20 ?_
  refine lv_topi (fun z7 hz7 => ?_)
  obtain rfl : z7 = 6 := hz7.trans (by first | rfl | decide | (simp [upd]; done))
  refine lv_bipush (v := 6) hx hb dL_law_21 (by decide) ?_
  refine lv_isub hx hb dL_law_23 ?_
  refine lv_topi (fun z8 hz8 => ?_)
  obtain rfl : z8 = 0 := hz8.trans (by first | rfl | decide | (simp [upd]; done))
  refine lv_icmp_gt (tgt := 1151) hx hb dL_law_24 (by decide) (fun _ => ?_) (fun h9 => absurd h9 (by decide))
  refine lv_iconst (v := 1) hx hb dL_law_1151 (by decide) ?_
  refine va_forget (fun q hq => hS.2.2 q hq) ?_
  refine W.widen (k := 600000) (n := 7302250) (Nat.le_of_ble_eq_true rfl) (Nat.le_of_ble_eq_true rfl) ?_
  exact lw_ret hx hb hr hlocks dL_law_1152

set_option maxHeartbeats 4000000 in
set_option maxRecDepth 100000 in
theorem lw_case14 {p : Program} {e : Env} {s : State} {m : MethodId} {below : List Frame} {meth : Method} {c : Code} (l : Launch) {b : Nat} {xs : Nat → Int32} (C0 : lw_At p s m meth c b 6 xs) {D : va_G} {y : Nat → ClassId} (hK : va_K D vwCl (kw_T y) s) (hN : kw_N s) (u1 u2 : Nat → Nat) (qx qm : Nat) {H : Heap} {locs : List Loc} {ls : Array Slot} (hP : va_P D vwCl (lw_world y u1 u2 qx qm) H) (hD : va_D (fun q : Nat => s.heap.size ≤ q) (lw_world y u1 u2 qx qm)) (hS : va_S (fun q : Nat => s.heap.size ≤ q) s.heap H locs) (hl : lv_has ls 4 [(3, .int 0), (2, .ref qm), (1, .ref qx), (0, .ref b)]) : W p l e room_1 s m #[Value.ref b] below meth c H locs 190 2130 (lw_Z below #[Value.ref b] s) (F0 m 520 ls []) := by
  obtain ⟨hx, hb, hr, hml, hown, hts0, hX, hbl, hlocks, hgv⟩ := id C0
  have hown : s.vm.findClass RL = some m.cls := hown
  have hts : ∀ w ∈ wsL_law, w.before #[Value.ref b] s = true := fun w h => hts0 w (wsL_law_in w h)
  have hA : ∀ q : Nat, s.heap.size ≤ q → (fun q : Nat => s.heap.size ≤ q) q := fun _ h => h
  have hbA : ¬ (fun q : Nat => s.heap.size ≤ q) b := Nat.not_le.mpr hbl
  have hP : va_P D vwCl [(qx, .inr (10, [.ref (u1 0), .ref (u1 1), .ref (u1 2), .ref (u1 3), .ref (u1 4), .ref (u1 5), .ref (u1 6), .ref (u1 7), .ref (u1 8), .ref (u1 9), .int 0, .int 1])), ((u1 1), .inr (4, [.ref (u1 0), .ref (u1 10), .ref (u1 11), .ref (u1 12), .ref (u1 13), .ref (u1 14), .int 0, .int 0, .int 0, .int 0, .int 0])), ((u1 9), .inl (y 0, 3, .inl (fun _ => 0))), (qm, .inr (11, [.ref (u2 0), .ref (u2 1), .ref (u2 2), .ref (u2 3), .long 0, .long 1, .ref (u2 4), .ref (u2 5), .ref (u2 6), .ref (u2 7), .ref (u2 8), .int 0, .int 0, .int 0, .int 0, .int 0, .ref (u2 9), .ref (u2 10)])), ((u2 0), .inl (y 0, 228, .inl (fun _ => 0))), ((u2 3), .inl (y 0, 3, .inl (fun _ => 0)))] H := hP.sub [0, 1, 32, 33, 34, 37] rfl
  have hD : va_D (fun q : Nat => s.heap.size ≤ q) [(qx, .inr (10, [.ref (u1 0), .ref (u1 1), .ref (u1 2), .ref (u1 3), .ref (u1 4), .ref (u1 5), .ref (u1 6), .ref (u1 7), .ref (u1 8), .ref (u1 9), .int 0, .int 1])), ((u1 1), .inr (4, [.ref (u1 0), .ref (u1 10), .ref (u1 11), .ref (u1 12), .ref (u1 13), .ref (u1 14), .int 0, .int 0, .int 0, .int 0, .int 0])), ((u1 9), .inl (y 0, 3, .inl (fun _ => 0))), (qm, .inr (11, [.ref (u2 0), .ref (u2 1), .ref (u2 2), .ref (u2 3), .long 0, .long 1, .ref (u2 4), .ref (u2 5), .ref (u2 6), .ref (u2 7), .ref (u2 8), .int 0, .int 0, .int 0, .int 0, .int 0, .ref (u2 9), .ref (u2 10)])), ((u2 0), .inl (y 0, 228, .inl (fun _ => 0))), ((u2 3), .inl (y 0, 3, .inl (fun _ => 0)))] := hD.sub [0, 1, 32, 33, 34, 37] (by decide) rfl
  refine lv_aload_n hx hb dL_law_520 rfl (lv_at hl 2 rfl) ?_
  refine lv_aload_n hx hb dL_law_521 rfl (lv_at hl 3 rfl) ?_
  refine lv_iload_n hx hb dL_law_522 rfl (lv_at hl 0 rfl) ?_
  refine lv_iconst (v := 1) hx hb dL_law_523 (by decide) ?_
  refine lv_iadd hx hb dL_law_524 ?_
  refine lv_topi (fun z1 hz1 => ?_)
  obtain rfl : z1 = 1 := hz1.trans (by first | rfl | decide | (simp [upd]; done))
  refine va_sld hx hb hX hbl hbA hS (by unfold vp_in; decide) dL_law_525 ?_
  refine lv_aload_n hx hb dL_law_526 rfl (lv_at hl 3 rfl) ?_
  refine lv_iload_n hx hb dL_law_527 rfl (lv_at hl 0 rfl) ?_
  refine lv_iconst (v := 2) hx hb dL_law_528 (by decide) ?_
  refine lv_iadd hx hb dL_law_529 ?_
  refine lv_topi (fun z2 hz2 => ?_)
  obtain rfl : z2 = 2 := hz2.trans (by first | rfl | decide | (simp [upd]; done))
  refine va_sld hx hb hX hbl hbA hS (by unfold vp_in; decide) dL_law_530 ?_
  have hs3 : kw_Split [(qx, .inr (10, [.ref (u1 0), .ref (u1 1), .ref (u1 2), .ref (u1 3), .ref (u1 4), .ref (u1 5), .ref (u1 6), .ref (u1 7), .ref (u1 8), .ref (u1 9), .int 0, .int 1])), ((u1 1), .inr (4, [.ref (u1 0), .ref (u1 10), .ref (u1 11), .ref (u1 12), .ref (u1 13), .ref (u1 14), .int 0, .int 0, .int 0, .int 0, .int 0])), ((u1 9), .inl (y 0, 3, .inl (fun _ => 0))), (qm, .inr (11, [.ref (u2 0), .ref (u2 1), .ref (u2 2), .ref (u2 3), .long 0, .long 1, .ref (u2 4), .ref (u2 5), .ref (u2 6), .ref (u2 7), .ref (u2 8), .int 0, .int 0, .int 0, .int 0, .int 0, .ref (u2 9), .ref (u2 10)])), ((u2 0), .inl (y 0, 228, .inl (fun _ => 0))), ((u2 3), .inl (y 0, 3, .inl (fun _ => 0)))] [(qx, .inr (10, [.ref (u1 0), .ref (u1 1), .ref (u1 2), .ref (u1 3), .ref (u1 4), .ref (u1 5), .ref (u1 6), .ref (u1 7), .ref (u1 8), .ref (u1 9), .int 0, .int 1])), ((u1 9), .inl (y 0, 3, .inl (fun _ => 0))), ((u1 1), .inr (4, [.ref (u1 0), .ref (u1 10), .ref (u1 11), .ref (u1 12), .ref (u1 13), .ref (u1 14), .int 0, .int 0, .int 0, .int 0, .int 0]))] [(qm, .inr (11, [.ref (u2 0), .ref (u2 1), .ref (u2 2), .ref (u2 3), .long 0, .long 1, .ref (u2 4), .ref (u2 5), .ref (u2 6), .ref (u2 7), .ref (u2 8), .int 0, .int 0, .int 0, .int 0, .int 0, .ref (u2 9), .ref (u2 10)])), ((u2 0), .inl (y 0, 228, .inl (fun _ => 0))), ((u2 3), .inl (y 0, 3, .inl (fun _ => 0)))] [0, 2, 1] [3, 4, 5] := ⟨rfl, rfl, rfl, rfl, rfl, by decide⟩
  refine kw_go_i hs3 hP hD hS hA (va_runV (As := [.int (xs (1 : Int32).toNatClampNeg), .int (xs (2 : Int32).toNatClampNeg)]) (rest := []) ⟨hx, hb, hml, hown, hts⟩ (cp_then l D y qx (u1 0) (u1 1) (u1 2) (u1 3) (u1 4) (u1 5) (u1 6) (u1 7) (u1 8) (u1 9) (u1 10) (u1 11) (u1 12) (u1 13) (u1 14) (xs (1 : Int32).toNatClampNeg) (xs (2 : Int32).toNatClampNeg)  _) (cwV 2 hts gL_law_X10_then rfl rfl rfl (by decide +kernel) ⟨Nat.le_of_ble_eq_true rfl, Nat.le_of_ble_eq_true rfl⟩) (kw_PreV (ci := 10) (q0 := 0) hs3 hP hD hK hN rfl rfl) rfl rfl hl.1 rfl (lv_room (Nat.le_of_ble_eq_true rfl)) dL_law_531 ⟨Nat.le_of_ble_eq_true rfl, Nat.le_of_ble_eq_true rfl⟩) (fun r u H locs hq hP hD hS => ?_)
  have hrr := hq
  obtain rfl : r = (-2) := hrr.trans (by decide)
  have hP : va_P D vwCl [(qm, .inr (11, [.ref (u2 0), .ref (u2 1), .ref (u2 2), .ref (u2 3), .long 0, .long 1, .ref (u2 4), .ref (u2 5), .ref (u2 6), .ref (u2 7), .ref (u2 8), .int 0, .int 0, .int 0, .int 0, .int 0, .ref (u2 9), .ref (u2 10)])), ((u2 0), .inl (y 0, 228, .inl (fun _ => 0))), ((u2 3), .inl (y 0, 3, .inl (fun _ => 0)))] H := hP
  have hD : va_D (fun q : Nat => s.heap.size ≤ q) [(qm, .inr (11, [.ref (u2 0), .ref (u2 1), .ref (u2 2), .ref (u2 3), .long 0, .long 1, .ref (u2 4), .ref (u2 5), .ref (u2 6), .ref (u2 7), .ref (u2 8), .int 0, .int 0, .int 0, .int 0, .int 0, .ref (u2 9), .ref (u2 10)])), ((u2 0), .inl (y 0, 228, .inl (fun _ => 0))), ((u2 3), .inl (y 0, 3, .inl (fun _ => 0)))] := hD
  refine lv_aload_n hx hb dL_law_534 rfl (lv_at hl 1 rfl) ?_
  refine lv_aload_n hx hb dL_law_535 rfl (lv_at hl 3 rfl) ?_
  refine lv_iload_n hx hb dL_law_536 rfl (lv_at hl 0 rfl) ?_
  refine lv_iconst (v := 1) hx hb dL_law_537 (by decide) ?_
  refine lv_iadd hx hb dL_law_538 ?_
  refine lv_topi (fun z4 hz4 => ?_)
  obtain rfl : z4 = 1 := hz4.trans (by first | rfl | decide | (simp [upd]; done))
  refine va_sld hx hb hX hbl hbA hS (by unfold vp_in; decide) dL_law_539 ?_
  refine lv_aload_n hx hb dL_law_540 rfl (lv_at hl 3 rfl) ?_
  refine lv_iload_n hx hb dL_law_541 rfl (lv_at hl 0 rfl) ?_
  refine lv_iconst (v := 2) hx hb dL_law_542 (by decide) ?_
  refine lv_iadd hx hb dL_law_543 ?_
  refine lv_topi (fun z5 hz5 => ?_)
  obtain rfl : z5 = 2 := hz5.trans (by first | rfl | decide | (simp [upd]; done))
  refine va_sld hx hb hX hbl hbA hS (by unfold vp_in; decide) dL_law_544 ?_
  have hs6 : kw_Split [(qm, .inr (11, [.ref (u2 0), .ref (u2 1), .ref (u2 2), .ref (u2 3), .long 0, .long 1, .ref (u2 4), .ref (u2 5), .ref (u2 6), .ref (u2 7), .ref (u2 8), .int 0, .int 0, .int 0, .int 0, .int 0, .ref (u2 9), .ref (u2 10)])), ((u2 0), .inl (y 0, 228, .inl (fun _ => 0))), ((u2 3), .inl (y 0, 3, .inl (fun _ => 0)))] [(qm, .inr (11, [.ref (u2 0), .ref (u2 1), .ref (u2 2), .ref (u2 3), .long 0, .long 1, .ref (u2 4), .ref (u2 5), .ref (u2 6), .ref (u2 7), .ref (u2 8), .int 0, .int 0, .int 0, .int 0, .int 0, .ref (u2 9), .ref (u2 10)])), ((u2 3), .inl (y 0, 3, .inl (fun _ => 0))), ((u2 0), .inl (y 0, 228, .inl (fun _ => 0)))] [] [0, 2, 1] [] := ⟨rfl, rfl, rfl, rfl, rfl, by decide⟩
  refine kw_go_i hs6 hP hD hS hA (va_runV (As := [.int (xs (1 : Int32).toNatClampNeg), .int (xs (2 : Int32).toNatClampNeg)]) (rest := [.int (-2)]) ⟨hx, hb, hml, hown, hts⟩ (cq_then l D y qm (u2 0) (u2 1) (u2 2) (u2 3) (u2 4) (u2 5) (u2 6) (u2 7) (u2 8) (u2 9) (u2 10) (xs (1 : Int32).toNatClampNeg) (xs (2 : Int32).toNatClampNeg)  _) (cwV 2 hts gL_law_X11_then rfl rfl rfl (by decide +kernel) ⟨Nat.le_of_ble_eq_true rfl, Nat.le_of_ble_eq_true rfl⟩) (kw_PreV (ci := 11) (q0 := 0) hs6 hP hD hK hN rfl rfl) rfl rfl hl.1 rfl (lv_room (Nat.le_of_ble_eq_true rfl)) dL_law_545 ⟨Nat.le_of_ble_eq_true rfl, Nat.le_of_ble_eq_true rfl⟩) (fun r u H locs hq hP hD hS => ?_)
  have hrr := hq
  obtain rfl : r = (-2) := hrr.trans (by decide)
  have hP : va_P D vwCl [] H := hP
  have hD : va_D (fun q : Nat => s.heap.size ≤ q) [] := hD
  refine lv_icmp_eq (tgt := 1145) hx hb dL_law_548 (by decide) (fun _ => ?_) (fun h9 => absurd h9 (by decide))
  refine lv_iinc (v := 6) (lv' := [(3, .int 6), (2, .ref qm), (1, .ref qx), (0, .ref b)]) hx hb dL_law_1145 hl (k := 0) rfl (by decide) (by decide) rfl (fun ls hl => ?_)
  refine lv_goto (tgt := 18) hx hb dL_law_1148 (by decide) ?_
  refine lv_iload_n hx hb dL_law_18 rfl (lv_at hl 0 rfl) ?_
  refine lv_aload_n hx hb dL_law_19 rfl (lv_at hl 3 rfl) ?_
  refine va_slen hx hb hX hbl hbA hS dL_law_20 ?_
  refine lv_topi (fun z7 hz7 => ?_)
  obtain rfl : z7 = 6 := hz7.trans (by first | rfl | decide | (simp [upd]; done))
  refine lv_bipush (v := 6) hx hb dL_law_21 (by decide) ?_
  refine lv_isub hx hb dL_law_23 ?_
  refine lv_topi (fun z8 hz8 => ?_)
  obtain rfl : z8 = 0 := hz8.trans (by first | rfl | decide | (simp [upd]; done))
  refine lv_icmp_gt (tgt := 1151) hx hb dL_law_24 (by decide) (fun _ => ?_) (fun h9 => absurd h9 (by decide))
  refine lv_iconst (v := 1) hx hb dL_law_1151 (by decide) ?_
  refine va_forget (fun q hq => hS.2.2 q hq) ?_
  refine W.widen (k := 600000) (n := 7302250) (Nat.le_of_ble_eq_true rfl) (Nat.le_of_ble_eq_true rfl) ?_
  exact lw_ret hx hb hr hlocks dL_law_1152

set_option maxHeartbeats 4000000 in
set_option maxRecDepth 100000 in
theorem lw_case15 {p : Program} {e : Env} {s : State} {m : MethodId} {below : List Frame} {meth : Method} {c : Code} (l : Launch) {b : Nat} {xs : Nat → Int32} (C0 : lw_At p s m meth c b 6 xs) {D : va_G} {y : Nat → ClassId} (hK : va_K D vwCl (kw_T y) s) (hN : kw_N s) (u1 u2 : Nat → Nat) (qx qm : Nat) {H : Heap} {locs : List Loc} {ls : Array Slot} (hP : va_P D vwCl (lw_world y u1 u2 qx qm) H) (hD : va_D (fun q : Nat => s.heap.size ≤ q) (lw_world y u1 u2 qx qm)) (hS : va_S (fun q : Nat => s.heap.size ≤ q) s.heap H locs) (hl : lv_has ls 4 [(3, .int 0), (2, .ref qm), (1, .ref qx), (0, .ref b)]) : W p l e room_1 s m #[Value.ref b] below meth c H locs 190 2130 (lw_Z below #[Value.ref b] s) (F0 m 553 ls []) := by
  obtain ⟨hx, hb, hr, hml, hown, hts0, hX, hbl, hlocks, hgv⟩ := id C0
  have hown : s.vm.findClass RL = some m.cls := hown
  have hts : ∀ w ∈ wsL_law, w.before #[Value.ref b] s = true := fun w h => hts0 w (wsL_law_in w h)
  have hA : ∀ q : Nat, s.heap.size ≤ q → (fun q : Nat => s.heap.size ≤ q) q := fun _ h => h
  have hbA : ¬ (fun q : Nat => s.heap.size ≤ q) b := Nat.not_le.mpr hbl
  have hP : va_P D vwCl [(qx, .inr (10, [.ref (u1 0), .ref (u1 1), .ref (u1 2), .ref (u1 3), .ref (u1 4), .ref (u1 5), .ref (u1 6), .ref (u1 7), .ref (u1 8), .ref (u1 9), .int 0, .int 1])), ((u1 1), .inr (4, [.ref (u1 0), .ref (u1 10), .ref (u1 11), .ref (u1 12), .ref (u1 13), .ref (u1 14), .int 0, .int 0, .int 0, .int 0, .int 0])), ((u1 9), .inl (y 0, 3, .inl (fun _ => 0))), (qm, .inr (11, [.ref (u2 0), .ref (u2 1), .ref (u2 2), .ref (u2 3), .long 0, .long 1, .ref (u2 4), .ref (u2 5), .ref (u2 6), .ref (u2 7), .ref (u2 8), .int 0, .int 0, .int 0, .int 0, .int 0, .ref (u2 9), .ref (u2 10)])), ((u2 0), .inl (y 0, 228, .inl (fun _ => 0))), ((u2 3), .inl (y 0, 3, .inl (fun _ => 0)))] H := hP.sub [0, 1, 32, 33, 34, 37] rfl
  have hD : va_D (fun q : Nat => s.heap.size ≤ q) [(qx, .inr (10, [.ref (u1 0), .ref (u1 1), .ref (u1 2), .ref (u1 3), .ref (u1 4), .ref (u1 5), .ref (u1 6), .ref (u1 7), .ref (u1 8), .ref (u1 9), .int 0, .int 1])), ((u1 1), .inr (4, [.ref (u1 0), .ref (u1 10), .ref (u1 11), .ref (u1 12), .ref (u1 13), .ref (u1 14), .int 0, .int 0, .int 0, .int 0, .int 0])), ((u1 9), .inl (y 0, 3, .inl (fun _ => 0))), (qm, .inr (11, [.ref (u2 0), .ref (u2 1), .ref (u2 2), .ref (u2 3), .long 0, .long 1, .ref (u2 4), .ref (u2 5), .ref (u2 6), .ref (u2 7), .ref (u2 8), .int 0, .int 0, .int 0, .int 0, .int 0, .ref (u2 9), .ref (u2 10)])), ((u2 0), .inl (y 0, 228, .inl (fun _ => 0))), ((u2 3), .inl (y 0, 3, .inl (fun _ => 0)))] := hD.sub [0, 1, 32, 33, 34, 37] (by decide) rfl
  refine lv_aload_n hx hb dL_law_553 rfl (lv_at hl 2 rfl) ?_
  refine lv_aload_n hx hb dL_law_554 rfl (lv_at hl 3 rfl) ?_
  refine lv_iload_n hx hb dL_law_555 rfl (lv_at hl 0 rfl) ?_
  refine lv_iconst (v := 1) hx hb dL_law_556 (by decide) ?_
  refine lv_iadd hx hb dL_law_557 ?_
  refine lv_topi (fun z1 hz1 => ?_)
  obtain rfl : z1 = 1 := hz1.trans (by first | rfl | decide | (simp [upd]; done))
  refine va_sld hx hb hX hbl hbA hS (by unfold vp_in; decide) dL_law_558 ?_
  refine lv_aload_n hx hb dL_law_559 rfl (lv_at hl 3 rfl) ?_
  refine lv_iload_n hx hb dL_law_560 rfl (lv_at hl 0 rfl) ?_
  refine lv_iconst (v := 2) hx hb dL_law_561 (by decide) ?_
  refine lv_iadd hx hb dL_law_562 ?_
  refine lv_topi (fun z2 hz2 => ?_)
  obtain rfl : z2 = 2 := hz2.trans (by first | rfl | decide | (simp [upd]; done))
  refine va_sld hx hb hX hbl hbA hS (by unfold vp_in; decide) dL_law_563 ?_
  refine lv_aload_n hx hb dL_law_564 rfl (lv_at hl 3 rfl) ?_
  refine lv_iload_n hx hb dL_law_565 rfl (lv_at hl 0 rfl) ?_
  refine lv_iconst (v := 3) hx hb dL_law_566 (by decide) ?_
  refine lv_iadd hx hb dL_law_567 ?_
  refine lv_topi (fun z3 hz3 => ?_)
  obtain rfl : z3 = 3 := hz3.trans (by first | rfl | decide | (simp [upd]; done))
  refine va_sld hx hb hX hbl hbA hS (by unfold vp_in; decide) dL_law_568 ?_
  have hs4 : kw_Split [(qx, .inr (10, [.ref (u1 0), .ref (u1 1), .ref (u1 2), .ref (u1 3), .ref (u1 4), .ref (u1 5), .ref (u1 6), .ref (u1 7), .ref (u1 8), .ref (u1 9), .int 0, .int 1])), ((u1 1), .inr (4, [.ref (u1 0), .ref (u1 10), .ref (u1 11), .ref (u1 12), .ref (u1 13), .ref (u1 14), .int 0, .int 0, .int 0, .int 0, .int 0])), ((u1 9), .inl (y 0, 3, .inl (fun _ => 0))), (qm, .inr (11, [.ref (u2 0), .ref (u2 1), .ref (u2 2), .ref (u2 3), .long 0, .long 1, .ref (u2 4), .ref (u2 5), .ref (u2 6), .ref (u2 7), .ref (u2 8), .int 0, .int 0, .int 0, .int 0, .int 0, .ref (u2 9), .ref (u2 10)])), ((u2 0), .inl (y 0, 228, .inl (fun _ => 0))), ((u2 3), .inl (y 0, 3, .inl (fun _ => 0)))] [(qx, .inr (10, [.ref (u1 0), .ref (u1 1), .ref (u1 2), .ref (u1 3), .ref (u1 4), .ref (u1 5), .ref (u1 6), .ref (u1 7), .ref (u1 8), .ref (u1 9), .int 0, .int 1])), ((u1 9), .inl (y 0, 3, .inl (fun _ => 0))), ((u1 1), .inr (4, [.ref (u1 0), .ref (u1 10), .ref (u1 11), .ref (u1 12), .ref (u1 13), .ref (u1 14), .int 0, .int 0, .int 0, .int 0, .int 0]))] [(qm, .inr (11, [.ref (u2 0), .ref (u2 1), .ref (u2 2), .ref (u2 3), .long 0, .long 1, .ref (u2 4), .ref (u2 5), .ref (u2 6), .ref (u2 7), .ref (u2 8), .int 0, .int 0, .int 0, .int 0, .int 0, .ref (u2 9), .ref (u2 10)])), ((u2 0), .inl (y 0, 228, .inl (fun _ => 0))), ((u2 3), .inl (y 0, 3, .inl (fun _ => 0)))] [0, 2, 1] [3, 4, 5] := ⟨rfl, rfl, rfl, rfl, rfl, by decide⟩
  refine kw_go_i hs4 hP hD hS hA (va_runV (As := [.int (xs (1 : Int32).toNatClampNeg), .int (xs (2 : Int32).toNatClampNeg), .int (xs (3 : Int32).toNatClampNeg)]) (rest := []) ⟨hx, hb, hml, hown, hts⟩ (cp_round l D y qx (u1 0) (u1 1) (u1 2) (u1 3) (u1 4) (u1 5) (u1 6) (u1 7) (u1 8) (u1 9) (u1 10) (u1 11) (u1 12) (u1 13) (u1 14) (xs (1 : Int32).toNatClampNeg) (xs (2 : Int32).toNatClampNeg) (xs (3 : Int32).toNatClampNeg)  _) (cwV 3 hts gL_law_X10_round rfl rfl rfl (by decide +kernel) ⟨Nat.le_of_ble_eq_true rfl, Nat.le_of_ble_eq_true rfl⟩) (kw_PreV (ci := 10) (q0 := 0) hs4 hP hD hK hN rfl rfl) rfl rfl hl.1 rfl (lv_room (Nat.le_of_ble_eq_true rfl)) dL_law_569 ⟨Nat.le_of_ble_eq_true rfl, Nat.le_of_ble_eq_true rfl⟩) (fun r u H locs hq hP hD hS => ?_)
  have hrr := hq
  obtain rfl : r = (-10) := hrr.trans (by decide)
  have hP : va_P D vwCl [(qm, .inr (11, [.ref (u2 0), .ref (u2 1), .ref (u2 2), .ref (u2 3), .long 0, .long 1, .ref (u2 4), .ref (u2 5), .ref (u2 6), .ref (u2 7), .ref (u2 8), .int 0, .int 0, .int 0, .int 0, .int 0, .ref (u2 9), .ref (u2 10)])), ((u2 0), .inl (y 0, 228, .inl (fun _ => 0))), ((u2 3), .inl (y 0, 3, .inl (fun _ => 0)))] H := hP
  have hD : va_D (fun q : Nat => s.heap.size ≤ q) [(qm, .inr (11, [.ref (u2 0), .ref (u2 1), .ref (u2 2), .ref (u2 3), .long 0, .long 1, .ref (u2 4), .ref (u2 5), .ref (u2 6), .ref (u2 7), .ref (u2 8), .int 0, .int 0, .int 0, .int 0, .int 0, .ref (u2 9), .ref (u2 10)])), ((u2 0), .inl (y 0, 228, .inl (fun _ => 0))), ((u2 3), .inl (y 0, 3, .inl (fun _ => 0)))] := hD
  refine lv_aload_n hx hb dL_law_572 rfl (lv_at hl 1 rfl) ?_
  refine lv_aload_n hx hb dL_law_573 rfl (lv_at hl 3 rfl) ?_
  refine lv_iload_n hx hb dL_law_574 rfl (lv_at hl 0 rfl) ?_
  refine lv_iconst (v := 1) hx hb dL_law_575 (by decide) ?_
  refine lv_iadd hx hb dL_law_576 ?_
  refine lv_topi (fun z5 hz5 => ?_)
  obtain rfl : z5 = 1 := hz5.trans (by first | rfl | decide | (simp [upd]; done))
  refine va_sld hx hb hX hbl hbA hS (by unfold vp_in; decide) dL_law_577 ?_
  refine lv_aload_n hx hb dL_law_578 rfl (lv_at hl 3 rfl) ?_
  refine lv_iload_n hx hb dL_law_579 rfl (lv_at hl 0 rfl) ?_
  refine lv_iconst (v := 2) hx hb dL_law_580 (by decide) ?_
  refine lv_iadd hx hb dL_law_581 ?_
  refine lv_topi (fun z6 hz6 => ?_)
  obtain rfl : z6 = 2 := hz6.trans (by first | rfl | decide | (simp [upd]; done))
  refine va_sld hx hb hX hbl hbA hS (by unfold vp_in; decide) dL_law_582 ?_
  refine lv_aload_n hx hb dL_law_583 rfl (lv_at hl 3 rfl) ?_
  refine lv_iload_n hx hb dL_law_584 rfl (lv_at hl 0 rfl) ?_
  refine lv_iconst (v := 3) hx hb dL_law_585 (by decide) ?_
  refine lv_iadd hx hb dL_law_586 ?_
  refine lv_topi (fun z7 hz7 => ?_)
  obtain rfl : z7 = 3 := hz7.trans (by first | rfl | decide | (simp [upd]; done))
  refine va_sld hx hb hX hbl hbA hS (by unfold vp_in; decide) dL_law_587 ?_
  have hs8 : kw_Split [(qm, .inr (11, [.ref (u2 0), .ref (u2 1), .ref (u2 2), .ref (u2 3), .long 0, .long 1, .ref (u2 4), .ref (u2 5), .ref (u2 6), .ref (u2 7), .ref (u2 8), .int 0, .int 0, .int 0, .int 0, .int 0, .ref (u2 9), .ref (u2 10)])), ((u2 0), .inl (y 0, 228, .inl (fun _ => 0))), ((u2 3), .inl (y 0, 3, .inl (fun _ => 0)))] [(qm, .inr (11, [.ref (u2 0), .ref (u2 1), .ref (u2 2), .ref (u2 3), .long 0, .long 1, .ref (u2 4), .ref (u2 5), .ref (u2 6), .ref (u2 7), .ref (u2 8), .int 0, .int 0, .int 0, .int 0, .int 0, .ref (u2 9), .ref (u2 10)])), ((u2 3), .inl (y 0, 3, .inl (fun _ => 0))), ((u2 0), .inl (y 0, 228, .inl (fun _ => 0)))] [] [0, 2, 1] [] := ⟨rfl, rfl, rfl, rfl, rfl, by decide⟩
  refine kw_go_i hs8 hP hD hS hA (va_runV (As := [.int (xs (1 : Int32).toNatClampNeg), .int (xs (2 : Int32).toNatClampNeg), .int (xs (3 : Int32).toNatClampNeg)]) (rest := [.int (-10)]) ⟨hx, hb, hml, hown, hts⟩ (cq_round l D y qm (u2 0) (u2 1) (u2 2) (u2 3) (u2 4) (u2 5) (u2 6) (u2 7) (u2 8) (u2 9) (u2 10) (xs (1 : Int32).toNatClampNeg) (xs (2 : Int32).toNatClampNeg) (xs (3 : Int32).toNatClampNeg)  _) (cwV 3 hts gL_law_X11_round rfl rfl rfl (by decide +kernel) ⟨Nat.le_of_ble_eq_true rfl, Nat.le_of_ble_eq_true rfl⟩) (kw_PreV (ci := 11) (q0 := 0) hs8 hP hD hK hN rfl rfl) rfl rfl hl.1 rfl (lv_room (Nat.le_of_ble_eq_true rfl)) dL_law_588 ⟨Nat.le_of_ble_eq_true rfl, Nat.le_of_ble_eq_true rfl⟩) (fun r u H locs hq hP hD hS => ?_)
  have hrr := hq
  obtain rfl : r = (-10) := hrr.trans (by decide)
  have hP : va_P D vwCl [] H := hP
  have hD : va_D (fun q : Nat => s.heap.size ≤ q) [] := hD
  refine lv_icmp_eq (tgt := 1145) hx hb dL_law_591 (by decide) (fun _ => ?_) (fun h9 => absurd h9 (by decide))
  refine lv_iinc (v := 6) (lv' := [(3, .int 6), (2, .ref qm), (1, .ref qx), (0, .ref b)]) hx hb dL_law_1145 hl (k := 0) rfl (by decide) (by decide) rfl (fun ls hl => ?_)
  refine lv_goto (tgt := 18) hx hb dL_law_1148 (by decide) ?_
  refine lv_iload_n hx hb dL_law_18 rfl (lv_at hl 0 rfl) ?_
  refine lv_aload_n hx hb dL_law_19 rfl (lv_at hl 3 rfl) ?_
  refine va_slen hx hb hX hbl hbA hS dL_law_20 ?_
  refine lv_topi (fun z9 hz9 => ?_)
  obtain rfl : z9 = 6 := hz9.trans (by first | rfl | decide | (simp [upd]; done))
  refine lv_bipush (v := 6) hx hb dL_law_21 (by decide) ?_
  refine lv_isub hx hb dL_law_23 ?_
  refine lv_topi (fun z10 hz10 => ?_)
  obtain rfl : z10 = 0 := hz10.trans (by first | rfl | decide | (simp [upd]; done))
  refine lv_icmp_gt (tgt := 1151) hx hb dL_law_24 (by decide) (fun _ => ?_) (fun h9 => absurd h9 (by decide))
  refine lv_iconst (v := 1) hx hb dL_law_1151 (by decide) ?_
  refine va_forget (fun q hq => hS.2.2 q hq) ?_
  refine W.widen (k := 600000) (n := 7302250) (Nat.le_of_ble_eq_true rfl) (Nat.le_of_ble_eq_true rfl) ?_
  exact lw_ret hx hb hr hlocks dL_law_1152

set_option maxHeartbeats 4000000 in
set_option maxRecDepth 100000 in
theorem lw_case16 {p : Program} {e : Env} {s : State} {m : MethodId} {below : List Frame} {meth : Method} {c : Code} (l : Launch) {b : Nat} {xs : Nat → Int32} (C0 : lw_At p s m meth c b 6 xs) {D : va_G} {y : Nat → ClassId} (hK : va_K D vwCl (kw_T y) s) (hN : kw_N s) (u1 u2 : Nat → Nat) (qx qm : Nat) {H : Heap} {locs : List Loc} {ls : Array Slot} (hP : va_P D vwCl (lw_world y u1 u2 qx qm) H) (hD : va_D (fun q : Nat => s.heap.size ≤ q) (lw_world y u1 u2 qx qm)) (hS : va_S (fun q : Nat => s.heap.size ≤ q) s.heap H locs) (hl : lv_has ls 4 [(3, .int 0), (2, .ref qm), (1, .ref qx), (0, .ref b)]) : W p l e room_1 s m #[Value.ref b] below meth c H locs 190 2130 (lw_Z below #[Value.ref b] s) (F0 m 596 ls []) := by
  obtain ⟨hx, hb, hr, hml, hown, hts0, hX, hbl, hlocks, hgv⟩ := id C0
  have hown : s.vm.findClass RL = some m.cls := hown
  have hts : ∀ w ∈ wsL_law, w.before #[Value.ref b] s = true := fun w h => hts0 w (wsL_law_in w h)
  have hA : ∀ q : Nat, s.heap.size ≤ q → (fun q : Nat => s.heap.size ≤ q) q := fun _ h => h
  have hbA : ¬ (fun q : Nat => s.heap.size ≤ q) b := Nat.not_le.mpr hbl
  have hP : va_P D vwCl [(qx, .inr (10, [.ref (u1 0), .ref (u1 1), .ref (u1 2), .ref (u1 3), .ref (u1 4), .ref (u1 5), .ref (u1 6), .ref (u1 7), .ref (u1 8), .ref (u1 9), .int 0, .int 1])), ((u1 1), .inr (4, [.ref (u1 0), .ref (u1 10), .ref (u1 11), .ref (u1 12), .ref (u1 13), .ref (u1 14), .int 0, .int 0, .int 0, .int 0, .int 0])), ((u1 9), .inl (y 0, 3, .inl (fun _ => 0))), (qm, .inr (11, [.ref (u2 0), .ref (u2 1), .ref (u2 2), .ref (u2 3), .long 0, .long 1, .ref (u2 4), .ref (u2 5), .ref (u2 6), .ref (u2 7), .ref (u2 8), .int 0, .int 0, .int 0, .int 0, .int 0, .ref (u2 9), .ref (u2 10)])), ((u2 0), .inl (y 0, 228, .inl (fun _ => 0))), ((u2 3), .inl (y 0, 3, .inl (fun _ => 0))), ((u2 4), .inl (y 0, 30, .inl (fun _ => 0)))] H := hP.sub [0, 1, 32, 33, 34, 37, 38] rfl
  have hD : va_D (fun q : Nat => s.heap.size ≤ q) [(qx, .inr (10, [.ref (u1 0), .ref (u1 1), .ref (u1 2), .ref (u1 3), .ref (u1 4), .ref (u1 5), .ref (u1 6), .ref (u1 7), .ref (u1 8), .ref (u1 9), .int 0, .int 1])), ((u1 1), .inr (4, [.ref (u1 0), .ref (u1 10), .ref (u1 11), .ref (u1 12), .ref (u1 13), .ref (u1 14), .int 0, .int 0, .int 0, .int 0, .int 0])), ((u1 9), .inl (y 0, 3, .inl (fun _ => 0))), (qm, .inr (11, [.ref (u2 0), .ref (u2 1), .ref (u2 2), .ref (u2 3), .long 0, .long 1, .ref (u2 4), .ref (u2 5), .ref (u2 6), .ref (u2 7), .ref (u2 8), .int 0, .int 0, .int 0, .int 0, .int 0, .ref (u2 9), .ref (u2 10)])), ((u2 0), .inl (y 0, 228, .inl (fun _ => 0))), ((u2 3), .inl (y 0, 3, .inl (fun _ => 0))), ((u2 4), .inl (y 0, 30, .inl (fun _ => 0)))] := hD.sub [0, 1, 32, 33, 34, 37, 38] (by decide) rfl
  refine lv_aload_n hx hb dL_law_596 rfl (lv_at hl 2 rfl) ?_
  refine lv_aload_n hx hb dL_law_597 rfl (lv_at hl 3 rfl) ?_
  refine lv_iload_n hx hb dL_law_598 rfl (lv_at hl 0 rfl) ?_
  refine lv_iconst (v := 1) hx hb dL_law_599 (by decide) ?_
  refine lv_iadd hx hb dL_law_600 ?_
  refine lv_topi (fun z1 hz1 => ?_)
  obtain rfl : z1 = 1 := hz1.trans (by first | rfl | decide | (simp [upd]; done))
  refine va_sld hx hb hX hbl hbA hS (by unfold vp_in; decide) dL_law_601 ?_
  refine lv_aload_n hx hb dL_law_602 rfl (lv_at hl 3 rfl) ?_
  refine lv_iload_n hx hb dL_law_603 rfl (lv_at hl 0 rfl) ?_
  refine lv_iconst (v := 2) hx hb dL_law_604 (by decide) ?_
  refine lv_iadd hx hb dL_law_605 ?_
  refine lv_topi (fun z2 hz2 => ?_)
  obtain rfl : z2 = 2 := hz2.trans (by first | rfl | decide | (simp [upd]; done))
  refine va_sld hx hb hX hbl hbA hS (by unfold vp_in; decide) dL_law_606 ?_
  have hs3 : kw_Split [(qx, .inr (10, [.ref (u1 0), .ref (u1 1), .ref (u1 2), .ref (u1 3), .ref (u1 4), .ref (u1 5), .ref (u1 6), .ref (u1 7), .ref (u1 8), .ref (u1 9), .int 0, .int 1])), ((u1 1), .inr (4, [.ref (u1 0), .ref (u1 10), .ref (u1 11), .ref (u1 12), .ref (u1 13), .ref (u1 14), .int 0, .int 0, .int 0, .int 0, .int 0])), ((u1 9), .inl (y 0, 3, .inl (fun _ => 0))), (qm, .inr (11, [.ref (u2 0), .ref (u2 1), .ref (u2 2), .ref (u2 3), .long 0, .long 1, .ref (u2 4), .ref (u2 5), .ref (u2 6), .ref (u2 7), .ref (u2 8), .int 0, .int 0, .int 0, .int 0, .int 0, .ref (u2 9), .ref (u2 10)])), ((u2 0), .inl (y 0, 228, .inl (fun _ => 0))), ((u2 3), .inl (y 0, 3, .inl (fun _ => 0))), ((u2 4), .inl (y 0, 30, .inl (fun _ => 0)))] [(qx, .inr (10, [.ref (u1 0), .ref (u1 1), .ref (u1 2), .ref (u1 3), .ref (u1 4), .ref (u1 5), .ref (u1 6), .ref (u1 7), .ref (u1 8), .ref (u1 9), .int 0, .int 1])), ((u1 9), .inl (y 0, 3, .inl (fun _ => 0))), ((u1 1), .inr (4, [.ref (u1 0), .ref (u1 10), .ref (u1 11), .ref (u1 12), .ref (u1 13), .ref (u1 14), .int 0, .int 0, .int 0, .int 0, .int 0]))] [(qm, .inr (11, [.ref (u2 0), .ref (u2 1), .ref (u2 2), .ref (u2 3), .long 0, .long 1, .ref (u2 4), .ref (u2 5), .ref (u2 6), .ref (u2 7), .ref (u2 8), .int 0, .int 0, .int 0, .int 0, .int 0, .ref (u2 9), .ref (u2 10)])), ((u2 0), .inl (y 0, 228, .inl (fun _ => 0))), ((u2 3), .inl (y 0, 3, .inl (fun _ => 0))), ((u2 4), .inl (y 0, 30, .inl (fun _ => 0)))] [0, 2, 1] [3, 4, 5, 6] := ⟨rfl, rfl, rfl, rfl, rfl, by decide⟩
  refine kw_go_i hs3 hP hD hS hA (va_runV (As := [.int (xs (1 : Int32).toNatClampNeg), .int (xs (2 : Int32).toNatClampNeg)]) (rest := []) ⟨hx, hb, hml, hown, hts⟩ (cp_places l D y qx (u1 0) (u1 1) (u1 2) (u1 3) (u1 4) (u1 5) (u1 6) (u1 7) (u1 8) (u1 9) (u1 10) (u1 11) (u1 12) (u1 13) (u1 14) (xs (1 : Int32).toNatClampNeg) (xs (2 : Int32).toNatClampNeg)  _) (cwV 2 hts gL_law_X10_places rfl rfl rfl (by decide +kernel) ⟨Nat.le_of_ble_eq_true rfl, Nat.le_of_ble_eq_true rfl⟩) (kw_PreV (ci := 10) (q0 := 0) hs3 hP hD hK hN rfl rfl) rfl rfl hl.1 rfl (lv_room (Nat.le_of_ble_eq_true rfl)) dL_law_607 ⟨Nat.le_of_ble_eq_true rfl, Nat.le_of_ble_eq_true rfl⟩) (fun r u H locs hq hP hD hS => ?_)
  obtain rfl := hq
  have hP : va_P D vwCl [(qm, .inr (11, [.ref (u2 0), .ref (u2 1), .ref (u2 2), .ref (u2 3), .long 0, .long 1, .ref (u2 4), .ref (u2 5), .ref (u2 6), .ref (u2 7), .ref (u2 8), .int 0, .int 0, .int 0, .int 0, .int 0, .ref (u2 9), .ref (u2 10)])), ((u2 0), .inl (y 0, 228, .inl (fun _ => 0))), ((u2 3), .inl (y 0, 3, .inl (fun _ => 0))), ((u2 4), .inl (y 0, 30, .inl (fun _ => 0)))] H := hP
  have hD : va_D (fun q : Nat => s.heap.size ≤ q) [(qm, .inr (11, [.ref (u2 0), .ref (u2 1), .ref (u2 2), .ref (u2 3), .long 0, .long 1, .ref (u2 4), .ref (u2 5), .ref (u2 6), .ref (u2 7), .ref (u2 8), .int 0, .int 0, .int 0, .int 0, .int 0, .ref (u2 9), .ref (u2 10)])), ((u2 0), .inl (y 0, 228, .inl (fun _ => 0))), ((u2 3), .inl (y 0, 3, .inl (fun _ => 0))), ((u2 4), .inl (y 0, 30, .inl (fun _ => 0)))] := hD
  refine lv_aload_n hx hb dL_law_610 rfl (lv_at hl 1 rfl) ?_
  refine lv_aload_n hx hb dL_law_611 rfl (lv_at hl 3 rfl) ?_
  refine lv_iload_n hx hb dL_law_612 rfl (lv_at hl 0 rfl) ?_
  refine lv_iconst (v := 1) hx hb dL_law_613 (by decide) ?_
  refine lv_iadd hx hb dL_law_614 ?_
  refine lv_topi (fun z4 hz4 => ?_)
  obtain rfl : z4 = 1 := hz4.trans (by first | rfl | decide | (simp [upd]; done))
  refine va_sld hx hb hX hbl hbA hS (by unfold vp_in; decide) dL_law_615 ?_
  refine lv_aload_n hx hb dL_law_616 rfl (lv_at hl 3 rfl) ?_
  refine lv_iload_n hx hb dL_law_617 rfl (lv_at hl 0 rfl) ?_
  refine lv_iconst (v := 2) hx hb dL_law_618 (by decide) ?_
  refine lv_iadd hx hb dL_law_619 ?_
  refine lv_topi (fun z5 hz5 => ?_)
  obtain rfl : z5 = 2 := hz5.trans (by first | rfl | decide | (simp [upd]; done))
  refine va_sld hx hb hX hbl hbA hS (by unfold vp_in; decide) dL_law_620 ?_
  have hs6 : kw_Split [(qm, .inr (11, [.ref (u2 0), .ref (u2 1), .ref (u2 2), .ref (u2 3), .long 0, .long 1, .ref (u2 4), .ref (u2 5), .ref (u2 6), .ref (u2 7), .ref (u2 8), .int 0, .int 0, .int 0, .int 0, .int 0, .ref (u2 9), .ref (u2 10)])), ((u2 0), .inl (y 0, 228, .inl (fun _ => 0))), ((u2 3), .inl (y 0, 3, .inl (fun _ => 0))), ((u2 4), .inl (y 0, 30, .inl (fun _ => 0)))] [(qm, .inr (11, [.ref (u2 0), .ref (u2 1), .ref (u2 2), .ref (u2 3), .long 0, .long 1, .ref (u2 4), .ref (u2 5), .ref (u2 6), .ref (u2 7), .ref (u2 8), .int 0, .int 0, .int 0, .int 0, .int 0, .ref (u2 9), .ref (u2 10)])), ((u2 3), .inl (y 0, 3, .inl (fun _ => 0))), ((u2 0), .inl (y 0, 228, .inl (fun _ => 0))), ((u2 4), .inl (y 0, 30, .inl (fun _ => 0)))] [] [0, 2, 1, 3] [] := ⟨rfl, rfl, rfl, rfl, rfl, by decide⟩
  refine kw_go_i hs6 hP hD hS hA (va_runV (As := [.int (xs (1 : Int32).toNatClampNeg), .int (xs (2 : Int32).toNatClampNeg)]) (rest := [.int (sp_places (xs (1 : Int32).toNatClampNeg) (xs (2 : Int32).toNatClampNeg))]) ⟨hx, hb, hml, hown, hts⟩ (cq_places l D y qm (u2 0) (u2 1) (u2 2) (u2 3) (u2 4) (u2 5) (u2 6) (u2 7) (u2 8) (u2 9) (u2 10) (xs (1 : Int32).toNatClampNeg) (xs (2 : Int32).toNatClampNeg)  _) (cwV 2 hts gL_law_X11_places rfl rfl rfl (by decide +kernel) ⟨Nat.le_of_ble_eq_true rfl, Nat.le_of_ble_eq_true rfl⟩) (kw_PreV (ci := 11) (q0 := 0) hs6 hP hD hK hN rfl rfl) rfl rfl hl.1 rfl (lv_room (Nat.le_of_ble_eq_true rfl)) dL_law_621 ⟨Nat.le_of_ble_eq_true rfl, Nat.le_of_ble_eq_true rfl⟩) (fun r u H locs hq hP hD hS => ?_)
  obtain rfl := hq
  have hP : va_P D vwCl [] H := hP
  have hD : va_D (fun q : Nat => s.heap.size ≤ q) [] := hD
  refine lv_icmp_eq (tgt := 1145) hx hb dL_law_624 (by decide) (fun _ => ?_) (fun h9 => absurd rfl h9)
  refine lv_iinc (v := 6) (lv' := [(3, .int 6), (2, .ref qm), (1, .ref qx), (0, .ref b)]) hx hb dL_law_1145 hl (k := 0) rfl (by decide) (by decide) rfl (fun ls hl => ?_)
  refine lv_goto (tgt := 18) hx hb dL_law_1148 (by decide) ?_
  refine lv_iload_n hx hb dL_law_18 rfl (lv_at hl 0 rfl) ?_
  refine lv_aload_n hx hb dL_law_19 rfl (lv_at hl 3 rfl) ?_
  refine va_slen hx hb hX hbl hbA hS dL_law_20 ?_
  refine lv_topi (fun z7 hz7 => ?_)
  obtain rfl : z7 = 6 := hz7.trans (by first | rfl | decide | (simp [upd]; done))
  refine lv_bipush (v := 6) hx hb dL_law_21 (by decide) ?_
  refine lv_isub hx hb dL_law_23 ?_
  refine lv_topi (fun z8 hz8 => ?_)
  obtain rfl : z8 = 0 := hz8.trans (by first | rfl | decide | (simp [upd]; done))
  refine lv_icmp_gt (tgt := 1151) hx hb dL_law_24 (by decide) (fun _ => ?_) (fun h9 => absurd h9 (by decide))
  refine lv_iconst (v := 1) hx hb dL_law_1151 (by decide) ?_
  refine va_forget (fun q hq => hS.2.2 q hq) ?_
  refine W.widen (k := 600000) (n := 7302250) (Nat.le_of_ble_eq_true rfl) (Nat.le_of_ble_eq_true rfl) ?_
  exact lw_ret hx hb hr hlocks dL_law_1152

set_option maxHeartbeats 4000000 in
set_option maxRecDepth 100000 in
theorem lw_case17 {p : Program} {e : Env} {s : State} {m : MethodId} {below : List Frame} {meth : Method} {c : Code} (l : Launch) {b : Nat} {xs : Nat → Int32} (C0 : lw_At p s m meth c b 6 xs) {D : va_G} {y : Nat → ClassId} (hK : va_K D vwCl (kw_T y) s) (hN : kw_N s) (u1 u2 : Nat → Nat) (qx qm : Nat) {H : Heap} {locs : List Loc} {ls : Array Slot} (hP : va_P D vwCl (lw_world y u1 u2 qx qm) H) (hD : va_D (fun q : Nat => s.heap.size ≤ q) (lw_world y u1 u2 qx qm)) (hS : va_S (fun q : Nat => s.heap.size ≤ q) s.heap H locs) (hl : lv_has ls 4 [(3, .int 0), (2, .ref qm), (1, .ref qx), (0, .ref b)]) : W p l e room_1 s m #[Value.ref b] below meth c H locs 190 2130 (lw_Z below #[Value.ref b] s) (F0 m 629 ls []) := by
  obtain ⟨hx, hb, hr, hml, hown, hts0, hX, hbl, hlocks, hgv⟩ := id C0
  have hown : s.vm.findClass RL = some m.cls := hown
  have hts : ∀ w ∈ wsL_law, w.before #[Value.ref b] s = true := fun w h => hts0 w (wsL_law_in w h)
  have hA : ∀ q : Nat, s.heap.size ≤ q → (fun q : Nat => s.heap.size ≤ q) q := fun _ h => h
  have hbA : ¬ (fun q : Nat => s.heap.size ≤ q) b := Nat.not_le.mpr hbl
  have hP : va_P D vwCl [(qx, .inr (10, [.ref (u1 0), .ref (u1 1), .ref (u1 2), .ref (u1 3), .ref (u1 4), .ref (u1 5), .ref (u1 6), .ref (u1 7), .ref (u1 8), .ref (u1 9), .int 0, .int 1])), ((u1 1), .inr (4, [.ref (u1 0), .ref (u1 10), .ref (u1 11), .ref (u1 12), .ref (u1 13), .ref (u1 14), .int 0, .int 0, .int 0, .int 0, .int 0])), ((u1 9), .inl (y 0, 3, .inl (fun _ => 0))), (qm, .inr (11, [.ref (u2 0), .ref (u2 1), .ref (u2 2), .ref (u2 3), .long 0, .long 1, .ref (u2 4), .ref (u2 5), .ref (u2 6), .ref (u2 7), .ref (u2 8), .int 0, .int 0, .int 0, .int 0, .int 0, .ref (u2 9), .ref (u2 10)])), ((u2 0), .inl (y 0, 228, .inl (fun _ => 0))), ((u2 3), .inl (y 0, 3, .inl (fun _ => 0)))] H := hP.sub [0, 1, 32, 33, 34, 37] rfl
  have hD : va_D (fun q : Nat => s.heap.size ≤ q) [(qx, .inr (10, [.ref (u1 0), .ref (u1 1), .ref (u1 2), .ref (u1 3), .ref (u1 4), .ref (u1 5), .ref (u1 6), .ref (u1 7), .ref (u1 8), .ref (u1 9), .int 0, .int 1])), ((u1 1), .inr (4, [.ref (u1 0), .ref (u1 10), .ref (u1 11), .ref (u1 12), .ref (u1 13), .ref (u1 14), .int 0, .int 0, .int 0, .int 0, .int 0])), ((u1 9), .inl (y 0, 3, .inl (fun _ => 0))), (qm, .inr (11, [.ref (u2 0), .ref (u2 1), .ref (u2 2), .ref (u2 3), .long 0, .long 1, .ref (u2 4), .ref (u2 5), .ref (u2 6), .ref (u2 7), .ref (u2 8), .int 0, .int 0, .int 0, .int 0, .int 0, .ref (u2 9), .ref (u2 10)])), ((u2 0), .inl (y 0, 228, .inl (fun _ => 0))), ((u2 3), .inl (y 0, 3, .inl (fun _ => 0)))] := hD.sub [0, 1, 32, 33, 34, 37] (by decide) rfl
  refine lv_aload_n hx hb dL_law_629 rfl (lv_at hl 2 rfl) ?_
  refine lv_aload_n hx hb dL_law_630 rfl (lv_at hl 3 rfl) ?_
  refine lv_iload_n hx hb dL_law_631 rfl (lv_at hl 0 rfl) ?_
  refine lv_iconst (v := 1) hx hb dL_law_632 (by decide) ?_
  refine lv_iadd hx hb dL_law_633 ?_
  refine lv_topi (fun z1 hz1 => ?_)
  obtain rfl : z1 = 1 := hz1.trans (by first | rfl | decide | (simp [upd]; done))
  refine va_sld hx hb hX hbl hbA hS (by unfold vp_in; decide) dL_law_634 ?_
  have hs2 : kw_Split [(qx, .inr (10, [.ref (u1 0), .ref (u1 1), .ref (u1 2), .ref (u1 3), .ref (u1 4), .ref (u1 5), .ref (u1 6), .ref (u1 7), .ref (u1 8), .ref (u1 9), .int 0, .int 1])), ((u1 1), .inr (4, [.ref (u1 0), .ref (u1 10), .ref (u1 11), .ref (u1 12), .ref (u1 13), .ref (u1 14), .int 0, .int 0, .int 0, .int 0, .int 0])), ((u1 9), .inl (y 0, 3, .inl (fun _ => 0))), (qm, .inr (11, [.ref (u2 0), .ref (u2 1), .ref (u2 2), .ref (u2 3), .long 0, .long 1, .ref (u2 4), .ref (u2 5), .ref (u2 6), .ref (u2 7), .ref (u2 8), .int 0, .int 0, .int 0, .int 0, .int 0, .ref (u2 9), .ref (u2 10)])), ((u2 0), .inl (y 0, 228, .inl (fun _ => 0))), ((u2 3), .inl (y 0, 3, .inl (fun _ => 0)))] [(qx, .inr (10, [.ref (u1 0), .ref (u1 1), .ref (u1 2), .ref (u1 3), .ref (u1 4), .ref (u1 5), .ref (u1 6), .ref (u1 7), .ref (u1 8), .ref (u1 9), .int 0, .int 1])), ((u1 9), .inl (y 0, 3, .inl (fun _ => 0))), ((u1 1), .inr (4, [.ref (u1 0), .ref (u1 10), .ref (u1 11), .ref (u1 12), .ref (u1 13), .ref (u1 14), .int 0, .int 0, .int 0, .int 0, .int 0]))] [(qm, .inr (11, [.ref (u2 0), .ref (u2 1), .ref (u2 2), .ref (u2 3), .long 0, .long 1, .ref (u2 4), .ref (u2 5), .ref (u2 6), .ref (u2 7), .ref (u2 8), .int 0, .int 0, .int 0, .int 0, .int 0, .ref (u2 9), .ref (u2 10)])), ((u2 0), .inl (y 0, 228, .inl (fun _ => 0))), ((u2 3), .inl (y 0, 3, .inl (fun _ => 0)))] [0, 2, 1] [3, 4, 5] := ⟨rfl, rfl, rfl, rfl, rfl, by decide⟩
  refine kw_go_i hs2 hP hD hS hA (va_runV (As := [.int (xs (1 : Int32).toNatClampNeg)]) (rest := []) ⟨hx, hb, hml, hown, hts⟩ (cp_which l D y qx (u1 0) (u1 1) (u1 2) (u1 3) (u1 4) (u1 5) (u1 6) (u1 7) (u1 8) (u1 9) (u1 10) (u1 11) (u1 12) (u1 13) (u1 14) (xs (1 : Int32).toNatClampNeg)  _) (cwV 1 hts gL_law_X10_which rfl rfl rfl (by decide +kernel) ⟨Nat.le_of_ble_eq_true rfl, Nat.le_of_ble_eq_true rfl⟩) (kw_PreV (ci := 10) (q0 := 0) hs2 hP hD hK hN rfl rfl) rfl rfl hl.1 rfl (lv_room (Nat.le_of_ble_eq_true rfl)) dL_law_635 ⟨Nat.le_of_ble_eq_true rfl, Nat.le_of_ble_eq_true rfl⟩) (fun r u H locs hq hP hD hS => ?_)
  obtain rfl := hq
  have hP : va_P D vwCl [(qm, .inr (11, [.ref (u2 0), .ref (u2 1), .ref (u2 2), .ref (u2 3), .long 0, .long 1, .ref (u2 4), .ref (u2 5), .ref (u2 6), .ref (u2 7), .ref (u2 8), .int 0, .int 0, .int 0, .int 0, .int 0, .ref (u2 9), .ref (u2 10)])), ((u2 0), .inl (y 0, 228, .inl (fun _ => 0))), ((u2 3), .inl (y 0, 3, .inl (fun _ => 0)))] H := hP
  have hD : va_D (fun q : Nat => s.heap.size ≤ q) [(qm, .inr (11, [.ref (u2 0), .ref (u2 1), .ref (u2 2), .ref (u2 3), .long 0, .long 1, .ref (u2 4), .ref (u2 5), .ref (u2 6), .ref (u2 7), .ref (u2 8), .int 0, .int 0, .int 0, .int 0, .int 0, .ref (u2 9), .ref (u2 10)])), ((u2 0), .inl (y 0, 228, .inl (fun _ => 0))), ((u2 3), .inl (y 0, 3, .inl (fun _ => 0)))] := hD
  refine lv_aload_n hx hb dL_law_638 rfl (lv_at hl 1 rfl) ?_
  refine lv_aload_n hx hb dL_law_639 rfl (lv_at hl 3 rfl) ?_
  refine lv_iload_n hx hb dL_law_640 rfl (lv_at hl 0 rfl) ?_
  refine lv_iconst (v := 1) hx hb dL_law_641 (by decide) ?_
  refine lv_iadd hx hb dL_law_642 ?_
  refine lv_topi (fun z3 hz3 => ?_)
  obtain rfl : z3 = 1 := hz3.trans (by first | rfl | decide | (simp [upd]; done))
  refine va_sld hx hb hX hbl hbA hS (by unfold vp_in; decide) dL_law_643 ?_
  have hs4 : kw_Split [(qm, .inr (11, [.ref (u2 0), .ref (u2 1), .ref (u2 2), .ref (u2 3), .long 0, .long 1, .ref (u2 4), .ref (u2 5), .ref (u2 6), .ref (u2 7), .ref (u2 8), .int 0, .int 0, .int 0, .int 0, .int 0, .ref (u2 9), .ref (u2 10)])), ((u2 0), .inl (y 0, 228, .inl (fun _ => 0))), ((u2 3), .inl (y 0, 3, .inl (fun _ => 0)))] [(qm, .inr (11, [.ref (u2 0), .ref (u2 1), .ref (u2 2), .ref (u2 3), .long 0, .long 1, .ref (u2 4), .ref (u2 5), .ref (u2 6), .ref (u2 7), .ref (u2 8), .int 0, .int 0, .int 0, .int 0, .int 0, .ref (u2 9), .ref (u2 10)])), ((u2 3), .inl (y 0, 3, .inl (fun _ => 0))), ((u2 0), .inl (y 0, 228, .inl (fun _ => 0)))] [] [0, 2, 1] [] := ⟨rfl, rfl, rfl, rfl, rfl, by decide⟩
  refine kw_go_i hs4 hP hD hS hA (va_runV (As := [.int (xs (1 : Int32).toNatClampNeg)]) (rest := [.int (sp_which (xs (1 : Int32).toNatClampNeg))]) ⟨hx, hb, hml, hown, hts⟩ (cq_which l D y qm (u2 0) (u2 1) (u2 2) (u2 3) (u2 4) (u2 5) (u2 6) (u2 7) (u2 8) (u2 9) (u2 10) (xs (1 : Int32).toNatClampNeg)  _) (cwV 1 hts gL_law_X11_which rfl rfl rfl (by decide +kernel) ⟨Nat.le_of_ble_eq_true rfl, Nat.le_of_ble_eq_true rfl⟩) (kw_PreV (ci := 11) (q0 := 0) hs4 hP hD hK hN rfl rfl) rfl rfl hl.1 rfl (lv_room (Nat.le_of_ble_eq_true rfl)) dL_law_644 ⟨Nat.le_of_ble_eq_true rfl, Nat.le_of_ble_eq_true rfl⟩) (fun r u H locs hq hP hD hS => ?_)
  obtain rfl := hq
  have hP : va_P D vwCl [] H := hP
  have hD : va_D (fun q : Nat => s.heap.size ≤ q) [] := hD
  refine lv_icmp_eq (tgt := 1145) hx hb dL_law_647 (by decide) (fun _ => ?_) (fun h9 => absurd rfl h9)
  refine lv_iinc (v := 6) (lv' := [(3, .int 6), (2, .ref qm), (1, .ref qx), (0, .ref b)]) hx hb dL_law_1145 hl (k := 0) rfl (by decide) (by decide) rfl (fun ls hl => ?_)
  refine lv_goto (tgt := 18) hx hb dL_law_1148 (by decide) ?_
  refine lv_iload_n hx hb dL_law_18 rfl (lv_at hl 0 rfl) ?_
  refine lv_aload_n hx hb dL_law_19 rfl (lv_at hl 3 rfl) ?_
  refine va_slen hx hb hX hbl hbA hS dL_law_20 ?_
  refine lv_topi (fun z5 hz5 => ?_)
  obtain rfl : z5 = 6 := hz5.trans (by first | rfl | decide | (simp [upd]; done))
  refine lv_bipush (v := 6) hx hb dL_law_21 (by decide) ?_
  refine lv_isub hx hb dL_law_23 ?_
  refine lv_topi (fun z6 hz6 => ?_)
  obtain rfl : z6 = 0 := hz6.trans (by first | rfl | decide | (simp [upd]; done))
  refine lv_icmp_gt (tgt := 1151) hx hb dL_law_24 (by decide) (fun _ => ?_) (fun h9 => absurd h9 (by decide))
  refine lv_iconst (v := 1) hx hb dL_law_1151 (by decide) ?_
  refine va_forget (fun q hq => hS.2.2 q hq) ?_
  refine W.widen (k := 600000) (n := 7302250) (Nat.le_of_ble_eq_true rfl) (Nat.le_of_ble_eq_true rfl) ?_
  exact lw_ret hx hb hr hlocks dL_law_1152

set_option maxHeartbeats 4000000 in
set_option maxRecDepth 100000 in
theorem lw_case18 {p : Program} {e : Env} {s : State} {m : MethodId} {below : List Frame} {meth : Method} {c : Code} (l : Launch) {b : Nat} {xs : Nat → Int32} (C0 : lw_At p s m meth c b 6 xs) {D : va_G} {y : Nat → ClassId} (hK : va_K D vwCl (kw_T y) s) (hN : kw_N s) (u1 u2 : Nat → Nat) (qx qm : Nat) {H : Heap} {locs : List Loc} {ls : Array Slot} (hP : va_P D vwCl (lw_world y u1 u2 qx qm) H) (hD : va_D (fun q : Nat => s.heap.size ≤ q) (lw_world y u1 u2 qx qm)) (hS : va_S (fun q : Nat => s.heap.size ≤ q) s.heap H locs) (hl : lv_has ls 4 [(3, .int 0), (2, .ref qm), (1, .ref qx), (0, .ref b)]) : W p l e room_1 s m #[Value.ref b] below meth c H locs 190 2130 (lw_Z below #[Value.ref b] s) (F0 m 652 ls []) := by
  obtain ⟨hx, hb, hr, hml, hown, hts0, hX, hbl, hlocks, hgv⟩ := id C0
  have hown : s.vm.findClass RL = some m.cls := hown
  have hts : ∀ w ∈ wsL_law, w.before #[Value.ref b] s = true := fun w h => hts0 w (wsL_law_in w h)
  have hA : ∀ q : Nat, s.heap.size ≤ q → (fun q : Nat => s.heap.size ≤ q) q := fun _ h => h
  have hbA : ¬ (fun q : Nat => s.heap.size ≤ q) b := Nat.not_le.mpr hbl
  have hP : va_P D vwCl [(qx, .inr (10, [.ref (u1 0), .ref (u1 1), .ref (u1 2), .ref (u1 3), .ref (u1 4), .ref (u1 5), .ref (u1 6), .ref (u1 7), .ref (u1 8), .ref (u1 9), .int 0, .int 1])), ((u1 1), .inr (4, [.ref (u1 0), .ref (u1 10), .ref (u1 11), .ref (u1 12), .ref (u1 13), .ref (u1 14), .int 0, .int 0, .int 0, .int 0, .int 0])), ((u1 9), .inl (y 0, 3, .inl (fun _ => 0))), (qm, .inr (11, [.ref (u2 0), .ref (u2 1), .ref (u2 2), .ref (u2 3), .long 0, .long 1, .ref (u2 4), .ref (u2 5), .ref (u2 6), .ref (u2 7), .ref (u2 8), .int 0, .int 0, .int 0, .int 0, .int 0, .ref (u2 9), .ref (u2 10)])), ((u2 0), .inl (y 0, 228, .inl (fun _ => 0))), ((u2 3), .inl (y 0, 3, .inl (fun _ => 0)))] H := hP.sub [0, 1, 32, 33, 34, 37] rfl
  have hD : va_D (fun q : Nat => s.heap.size ≤ q) [(qx, .inr (10, [.ref (u1 0), .ref (u1 1), .ref (u1 2), .ref (u1 3), .ref (u1 4), .ref (u1 5), .ref (u1 6), .ref (u1 7), .ref (u1 8), .ref (u1 9), .int 0, .int 1])), ((u1 1), .inr (4, [.ref (u1 0), .ref (u1 10), .ref (u1 11), .ref (u1 12), .ref (u1 13), .ref (u1 14), .int 0, .int 0, .int 0, .int 0, .int 0])), ((u1 9), .inl (y 0, 3, .inl (fun _ => 0))), (qm, .inr (11, [.ref (u2 0), .ref (u2 1), .ref (u2 2), .ref (u2 3), .long 0, .long 1, .ref (u2 4), .ref (u2 5), .ref (u2 6), .ref (u2 7), .ref (u2 8), .int 0, .int 0, .int 0, .int 0, .int 0, .ref (u2 9), .ref (u2 10)])), ((u2 0), .inl (y 0, 228, .inl (fun _ => 0))), ((u2 3), .inl (y 0, 3, .inl (fun _ => 0)))] := hD.sub [0, 1, 32, 33, 34, 37] (by decide) rfl
  refine lv_aload_n hx hb dL_law_652 rfl (lv_at hl 2 rfl) ?_
  refine lv_aload_n hx hb dL_law_653 rfl (lv_at hl 3 rfl) ?_
  refine lv_iload_n hx hb dL_law_654 rfl (lv_at hl 0 rfl) ?_
  refine lv_iconst (v := 1) hx hb dL_law_655 (by decide) ?_
  refine lv_iadd hx hb dL_law_656 ?_
  refine lv_topi (fun z1 hz1 => ?_)
  obtain rfl : z1 = 1 := hz1.trans (by first | rfl | decide | (simp [upd]; done))
  refine va_sld hx hb hX hbl hbA hS (by unfold vp_in; decide) dL_law_657 ?_
  refine lv_aload_n hx hb dL_law_658 rfl (lv_at hl 3 rfl) ?_
  refine lv_iload_n hx hb dL_law_659 rfl (lv_at hl 0 rfl) ?_
  refine lv_iconst (v := 2) hx hb dL_law_660 (by decide) ?_
  refine lv_iadd hx hb dL_law_661 ?_
  refine lv_topi (fun z2 hz2 => ?_)
  obtain rfl : z2 = 2 := hz2.trans (by first | rfl | decide | (simp [upd]; done))
  refine va_sld hx hb hX hbl hbA hS (by unfold vp_in; decide) dL_law_662 ?_
  have hs3 : kw_Split [(qx, .inr (10, [.ref (u1 0), .ref (u1 1), .ref (u1 2), .ref (u1 3), .ref (u1 4), .ref (u1 5), .ref (u1 6), .ref (u1 7), .ref (u1 8), .ref (u1 9), .int 0, .int 1])), ((u1 1), .inr (4, [.ref (u1 0), .ref (u1 10), .ref (u1 11), .ref (u1 12), .ref (u1 13), .ref (u1 14), .int 0, .int 0, .int 0, .int 0, .int 0])), ((u1 9), .inl (y 0, 3, .inl (fun _ => 0))), (qm, .inr (11, [.ref (u2 0), .ref (u2 1), .ref (u2 2), .ref (u2 3), .long 0, .long 1, .ref (u2 4), .ref (u2 5), .ref (u2 6), .ref (u2 7), .ref (u2 8), .int 0, .int 0, .int 0, .int 0, .int 0, .ref (u2 9), .ref (u2 10)])), ((u2 0), .inl (y 0, 228, .inl (fun _ => 0))), ((u2 3), .inl (y 0, 3, .inl (fun _ => 0)))] [(qx, .inr (10, [.ref (u1 0), .ref (u1 1), .ref (u1 2), .ref (u1 3), .ref (u1 4), .ref (u1 5), .ref (u1 6), .ref (u1 7), .ref (u1 8), .ref (u1 9), .int 0, .int 1])), ((u1 9), .inl (y 0, 3, .inl (fun _ => 0))), ((u1 1), .inr (4, [.ref (u1 0), .ref (u1 10), .ref (u1 11), .ref (u1 12), .ref (u1 13), .ref (u1 14), .int 0, .int 0, .int 0, .int 0, .int 0]))] [(qm, .inr (11, [.ref (u2 0), .ref (u2 1), .ref (u2 2), .ref (u2 3), .long 0, .long 1, .ref (u2 4), .ref (u2 5), .ref (u2 6), .ref (u2 7), .ref (u2 8), .int 0, .int 0, .int 0, .int 0, .int 0, .ref (u2 9), .ref (u2 10)])), ((u2 0), .inl (y 0, 228, .inl (fun _ => 0))), ((u2 3), .inl (y 0, 3, .inl (fun _ => 0)))] [0, 2, 1] [3, 4, 5] := ⟨rfl, rfl, rfl, rfl, rfl, by decide⟩
  refine kw_go_i hs3 hP hD hS hA (va_runV (As := [.int (xs (1 : Int32).toNatClampNeg), .int (xs (2 : Int32).toNatClampNeg)]) (rest := []) ⟨hx, hb, hml, hown, hts⟩ (cp_lasts l D y qx (u1 0) (u1 1) (u1 2) (u1 3) (u1 4) (u1 5) (u1 6) (u1 7) (u1 8) (u1 9) (u1 10) (u1 11) (u1 12) (u1 13) (u1 14) (xs (1 : Int32).toNatClampNeg) (xs (2 : Int32).toNatClampNeg)  _) (cwV 2 hts gL_law_X10_lasts rfl rfl rfl (by decide +kernel) ⟨Nat.le_of_ble_eq_true rfl, Nat.le_of_ble_eq_true rfl⟩) (kw_PreV (ci := 10) (q0 := 0) hs3 hP hD hK hN rfl rfl) rfl rfl hl.1 rfl (lv_room (Nat.le_of_ble_eq_true rfl)) dL_law_663 ⟨Nat.le_of_ble_eq_true rfl, Nat.le_of_ble_eq_true rfl⟩) (fun r u H locs hq hP hD hS => ?_)
  have hrr := hq
  obtain rfl : r = (-2) := hrr.trans (by decide)
  have hP : va_P D vwCl [(qm, .inr (11, [.ref (u2 0), .ref (u2 1), .ref (u2 2), .ref (u2 3), .long 0, .long 1, .ref (u2 4), .ref (u2 5), .ref (u2 6), .ref (u2 7), .ref (u2 8), .int 0, .int 0, .int 0, .int 0, .int 0, .ref (u2 9), .ref (u2 10)])), ((u2 0), .inl (y 0, 228, .inl (fun _ => 0))), ((u2 3), .inl (y 0, 3, .inl (fun _ => 0)))] H := hP
  have hD : va_D (fun q : Nat => s.heap.size ≤ q) [(qm, .inr (11, [.ref (u2 0), .ref (u2 1), .ref (u2 2), .ref (u2 3), .long 0, .long 1, .ref (u2 4), .ref (u2 5), .ref (u2 6), .ref (u2 7), .ref (u2 8), .int 0, .int 0, .int 0, .int 0, .int 0, .ref (u2 9), .ref (u2 10)])), ((u2 0), .inl (y 0, 228, .inl (fun _ => 0))), ((u2 3), .inl (y 0, 3, .inl (fun _ => 0)))] := hD
  refine lv_aload_n hx hb dL_law_666 rfl (lv_at hl 1 rfl) ?_
  refine lv_aload_n hx hb dL_law_667 rfl (lv_at hl 3 rfl) ?_
  refine lv_iload_n hx hb dL_law_668 rfl (lv_at hl 0 rfl) ?_
  refine lv_iconst (v := 1) hx hb dL_law_669 (by decide) ?_
  refine lv_iadd hx hb dL_law_670 ?_
  refine lv_topi (fun z4 hz4 => ?_)
  obtain rfl : z4 = 1 := hz4.trans (by first | rfl | decide | (simp [upd]; done))
  refine va_sld hx hb hX hbl hbA hS (by unfold vp_in; decide) dL_law_671 ?_
  refine lv_aload_n hx hb dL_law_672 rfl (lv_at hl 3 rfl) ?_
  refine lv_iload_n hx hb dL_law_673 rfl (lv_at hl 0 rfl) ?_
  refine lv_iconst (v := 2) hx hb dL_law_674 (by decide) ?_
  refine lv_iadd hx hb dL_law_675 ?_
  refine lv_topi (fun z5 hz5 => ?_)
  obtain rfl : z5 = 2 := hz5.trans (by first | rfl | decide | (simp [upd]; done))
  refine va_sld hx hb hX hbl hbA hS (by unfold vp_in; decide) dL_law_676 ?_
  have hs6 : kw_Split [(qm, .inr (11, [.ref (u2 0), .ref (u2 1), .ref (u2 2), .ref (u2 3), .long 0, .long 1, .ref (u2 4), .ref (u2 5), .ref (u2 6), .ref (u2 7), .ref (u2 8), .int 0, .int 0, .int 0, .int 0, .int 0, .ref (u2 9), .ref (u2 10)])), ((u2 0), .inl (y 0, 228, .inl (fun _ => 0))), ((u2 3), .inl (y 0, 3, .inl (fun _ => 0)))] [(qm, .inr (11, [.ref (u2 0), .ref (u2 1), .ref (u2 2), .ref (u2 3), .long 0, .long 1, .ref (u2 4), .ref (u2 5), .ref (u2 6), .ref (u2 7), .ref (u2 8), .int 0, .int 0, .int 0, .int 0, .int 0, .ref (u2 9), .ref (u2 10)])), ((u2 3), .inl (y 0, 3, .inl (fun _ => 0))), ((u2 0), .inl (y 0, 228, .inl (fun _ => 0)))] [] [0, 2, 1] [] := ⟨rfl, rfl, rfl, rfl, rfl, by decide⟩
  refine kw_go_i hs6 hP hD hS hA (va_runV (As := [.int (xs (1 : Int32).toNatClampNeg), .int (xs (2 : Int32).toNatClampNeg)]) (rest := [.int (-2)]) ⟨hx, hb, hml, hown, hts⟩ (cq_lasts l D y qm (u2 0) (u2 1) (u2 2) (u2 3) (u2 4) (u2 5) (u2 6) (u2 7) (u2 8) (u2 9) (u2 10) (xs (1 : Int32).toNatClampNeg) (xs (2 : Int32).toNatClampNeg)  _) (cwV 2 hts gL_law_X11_lasts rfl rfl rfl (by decide +kernel) ⟨Nat.le_of_ble_eq_true rfl, Nat.le_of_ble_eq_true rfl⟩) (kw_PreV (ci := 11) (q0 := 0) hs6 hP hD hK hN rfl rfl) rfl rfl hl.1 rfl (lv_room (Nat.le_of_ble_eq_true rfl)) dL_law_677 ⟨Nat.le_of_ble_eq_true rfl, Nat.le_of_ble_eq_true rfl⟩) (fun r u H locs hq hP hD hS => ?_)
  have hrr := hq
  obtain rfl : r = (-2) := hrr.trans (by decide)
  have hP : va_P D vwCl [] H := hP
  have hD : va_D (fun q : Nat => s.heap.size ≤ q) [] := hD
  refine lv_icmp_eq (tgt := 1145) hx hb dL_law_680 (by decide) (fun _ => ?_) (fun h9 => absurd h9 (by decide))
  refine lv_iinc (v := 6) (lv' := [(3, .int 6), (2, .ref qm), (1, .ref qx), (0, .ref b)]) hx hb dL_law_1145 hl (k := 0) rfl (by decide) (by decide) rfl (fun ls hl => ?_)
  refine lv_goto (tgt := 18) hx hb dL_law_1148 (by decide) ?_
  refine lv_iload_n hx hb dL_law_18 rfl (lv_at hl 0 rfl) ?_
  refine lv_aload_n hx hb dL_law_19 rfl (lv_at hl 3 rfl) ?_
  refine va_slen hx hb hX hbl hbA hS dL_law_20 ?_
  refine lv_topi (fun z7 hz7 => ?_)
  obtain rfl : z7 = 6 := hz7.trans (by first | rfl | decide | (simp [upd]; done))
  refine lv_bipush (v := 6) hx hb dL_law_21 (by decide) ?_
  refine lv_isub hx hb dL_law_23 ?_
  refine lv_topi (fun z8 hz8 => ?_)
  obtain rfl : z8 = 0 := hz8.trans (by first | rfl | decide | (simp [upd]; done))
  refine lv_icmp_gt (tgt := 1151) hx hb dL_law_24 (by decide) (fun _ => ?_) (fun h9 => absurd h9 (by decide))
  refine lv_iconst (v := 1) hx hb dL_law_1151 (by decide) ?_
  refine va_forget (fun q hq => hS.2.2 q hq) ?_
  refine W.widen (k := 600000) (n := 7302250) (Nat.le_of_ble_eq_true rfl) (Nat.le_of_ble_eq_true rfl) ?_
  exact lw_ret hx hb hr hlocks dL_law_1152
