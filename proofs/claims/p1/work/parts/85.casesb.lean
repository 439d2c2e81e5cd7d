set_option maxHeartbeats 4000000 in
set_option maxRecDepth 100000 in
theorem lw_case7 {p : Program} {e : Env} {s : State} {m : MethodId} {below : List Frame} {meth : Method} {c : Code} (l : Launch) {b : Nat} {xs : Nat → Int32} (C0 : lw_At p s m meth c b 6 xs) {D : va_G} {y : Nat → ClassId} (hK : va_K D vwCl (kw_T y) s) (hN : kw_N s) (u1 u2 : Nat → Nat) (qx qm : Nat) {H : Heap} {locs : List Loc} {ls : Array Slot} (hP : va_P D vwCl (lw_world y u1 u2 qx qm) H) (hD : va_D (fun q : Nat => s.heap.size ≤ q) (lw_world y u1 u2 qx qm)) (hS : va_S (fun q : Nat => s.heap.size ≤ q) s.heap H locs) (hl : lv_has ls 4 [(3, .int 0), (2, .ref qm), (1, .ref qx), (0, .ref b)]) : W p l e room_1 s m #[Value.ref b] below meth c H locs 190 2130 (lw_Z below #[Value.ref b] s) (F0 m 339 ls []) := by
  obtain ⟨hx, hb, hr, hml, hown, hts0, hX, hbl, hlocks, hgv⟩ := id C0
  have hown : s.vm.findClass RL = some m.cls := hown
  have hts : ∀ w ∈ wsL_law, w.before #[Value.ref b] s = true := fun w h => hts0 w (wsL_law_in w h)
  have hA : ∀ q : Nat, s.heap.size ≤ q → (fun q : Nat => s.heap.size ≤ q) q := fun _ h => h
  have hbA : ¬ (fun q : Nat => s.heap.size ≤ q) b := Nat.not_le.mpr hbl
  have hP : va_P D vwCl [(qx, .inr (10, [.ref (u1 0), .ref (u1 1), .ref (u1 2), .ref (u1 3), .ref (u1 4), .ref (u1 5), .ref (u1 6), .ref (u1 7), .ref (u1 8), .ref (u1 9), .int 0, .int 1])), ((u1 1), .inr (4, [.ref (u1 0), .ref (u1 10), .ref (u1 11), .ref (u1 12), .ref (u1 13), .ref (u1 14), .int 0, .int 0, .int 0, .int 0, .int 0])), ((u1 11), .inr (1, [.ref (u1 15), .ref (u1 16), .ref (u1 17), .int 0, .int 0, .int 0])), ((u1 15), .inl (y 0, 6, .inl (fun _ => 0))), ((u1 16), .inl (y 0, 5, .inl (fun _ => 0))), ((u1 17), .inl (y 0, 5, .inl (fun _ => 0))), ((u1 12), .inl (y 3, 8, .inr (.inr (.inr (.inr (va_up (va_up (va_up (va_up (va_up (va_up (va_up (va_up (fun _ => none) (0 : Int32).toNatClampNeg (some (u1 18))) (1 : Int32).toNatClampNeg (some (u1 19))) (2 : Int32).toNatClampNeg (some (u1 20))) (3 : Int32).toNatClampNeg (some (u1 21))) (4 : Int32).toNatClampNeg (some (u1 22))) (5 : Int32).toNatClampNeg (some (u1 23))) (6 : Int32).toNatClampNeg (some (u1 24))) (7 : Int32).toNatClampNeg (some (u1 25)))))))), ((u1 18), .inr (1, [.ref (u1 26), .ref (u1 27), .ref (u1 28), .int 0, .int 0, .int 0])), ((u1 26), .inl (y 0, 6, .inl (fun _ => 0))), ((u1 27), .inl (y 0, 5, .inl (fun _ => 0))), ((u1 28), .inl (y 0, 5, .inl (fun _ => 0))), (qm, .inr (11, [.ref (u2 0), .ref (u2 1), .ref (u2 2), .ref (u2 3), .long 0, .long 1, .ref (u2 4), .ref (u2 5), .ref (u2 6), .ref (u2 7), .ref (u2 8), .int 0, .int 0, .int 0, .int 0, .int 0, .ref (u2 9), .ref (u2 10)])), ((u2 0), .inl (y 0, 228, .inl (fun _ => 0)))] H := hP.sub [0, 1, 3, 4, 5, 6, 7, 8, 9, 10, 11, 33, 34] rfl
  have hD : va_D (fun q : Nat => s.heap.size ≤ q) [(qx, .inr (10, [.ref (u1 0), .ref (u1 1), .ref (u1 2), .ref (u1 3), .ref (u1 4), .ref (u1 5), .ref (u1 6), .ref (u1 7), .ref (u1 8), .ref (u1 9), .int 0, .int 1])), ((u1 1), .inr (4, [.ref (u1 0), .ref (u1 10), .ref (u1 11), .ref (u1 12), .ref (u1 13), .ref (u1 14), .int 0, .int 0, .int 0, .int 0, .int 0])), ((u1 11), .inr (1, [.ref (u1 15), .ref (u1 16), .ref (u1 17), .int 0, .int 0, .int 0])), ((u1 15), .inl (y 0, 6, .inl (fun _ => 0))), ((u1 16), .inl (y 0, 5, .inl (fun _ => 0))), ((u1 17), .inl (y 0, 5, .inl (fun _ => 0))), ((u1 12), .inl (y 3, 8, .inr (.inr (.inr (.inr (va_up (va_up (va_up (va_up (va_up (va_up (va_up (va_up (fun _ => none) (0 : Int32).toNatClampNeg (some (u1 18))) (1 : Int32).toNatClampNeg (some (u1 19))) (2 : Int32).toNatClampNeg (some (u1 20))) (3 : Int32).toNatClampNeg (some (u1 21))) (4 : Int32).toNatClampNeg (some (u1 22))) (5 : Int32).toNatClampNeg (some (u1 23))) (6 : Int32).toNatClampNeg (some (u1 24))) (7 : Int32).toNatClampNeg (some (u1 25)))))))), ((u1 18), .inr (1, [.ref (u1 26), .ref (u1 27), .ref (u1 28), .int 0, .int 0, .int 0])), ((u1 26), .inl (y 0, 6, .inl (fun _ => 0))), ((u1 27), .inl (y 0, 5, .inl (fun _ => 0))), ((u1 28), .inl (y 0, 5, .inl (fun _ => 0))), (qm, .inr (11, [.ref (u2 0), .ref (u2 1), .ref (u2 2), .ref (u2 3), .long 0, .long 1, .ref (u2 4), .ref (u2 5), .ref (u2 6), .ref (u2 7), .ref (u2 8), .int 0, .int 0, .int 0, .int 0, .int 0, .ref (u2 9), .ref (u2 10)])), ((u2 0), .inl (y 0, 228, .inl (fun _ => 0)))] := hD.sub [0, 1, 3, 4, 5, 6, 7, 8, 9, 10, 11, 33, 34] (by decide) rfl
  refine lv_aload_n hx hb dL_law_339 rfl (lv_at hl 2 rfl) ?_
  have hs1 : kw_Split [(qx, .inr (10, [.ref (u1 0), .ref (u1 1), .ref (u1 2), .ref (u1 3), .ref (u1 4), .ref (u1 5), .ref (u1 6), .ref (u1 7), .ref (u1 8), .ref (u1 9), .int 0, .int 1])), ((u1 1), .inr (4, [.ref (u1 0), .ref (u1 10), .ref (u1 11), .ref (u1 12), .ref (u1 13), .ref (u1 14), .int 0, .int 0, .int 0, .int 0, .int 0])), ((u1 11), .inr (1, [.ref (u1 15), .ref (u1 16), .ref (u1 17), .int 0, .int 0, .int 0])), ((u1 15), .inl (y 0, 6, .inl (fun _ => 0))), ((u1 16), .inl (y 0, 5, .inl (fun _ => 0))), ((u1 17), .inl (y 0, 5, .inl (fun _ => 0))), ((u1 12), .inl (y 3, 8, .inr (.inr (.inr (.inr (va_up (va_up (va_up (va_up (va_up (va_up (va_up (va_up (fun _ => none) (0 : Int32).toNatClampNeg (some (u1 18))) (1 : Int32).toNatClampNeg (some (u1 19))) (2 : Int32).toNatClampNeg (some (u1 20))) (3 : Int32).toNatClampNeg (some (u1 21))) (4 : Int32).toNatClampNeg (some (u1 22))) (5 : Int32).toNatClampNeg (some (u1 23))) (6 : Int32).toNatClampNeg (some (u1 24))) (7 : Int32).toNatClampNeg (some (u1 25)))))))), ((u1 18), .inr (1, [.ref (u1 26), .ref (u1 27), .ref (u1 28), .int 0, .int 0, .int 0])), ((u1 26), .inl (y 0, 6, .inl (fun _ => 0))), ((u1 27), .inl (y 0, 5, .inl (fun _ => 0))), ((u1 28), .inl (y 0, 5, .inl (fun _ => 0))), (qm, .inr (11, [.ref (u2 0), .ref (u2 1), .ref (u2 2), .ref (u2 3), .long 0, .long 1, .ref (u2 4), .ref (u2 5), .ref (u2 6), .ref (u2 7), .ref (u2 8), .int 0, .int 0, .int 0, .int 0, .int 0, .ref (u2 9), .ref (u2 10)])), ((u2 0), .inl (y 0, 228, .inl (fun _ => 0)))] [(qx, .inr (10, [.ref (u1 0), .ref (u1 1), .ref (u1 2), .ref (u1 3), .ref (u1 4), .ref (u1 5), .ref (u1 6), .ref (u1 7), .ref (u1 8), .ref (u1 9), .int 0, .int 1])), ((u1 1), .inr (4, [.ref (u1 0), .ref (u1 10), .ref (u1 11), .ref (u1 12), .ref (u1 13), .ref (u1 14), .int 0, .int 0, .int 0, .int 0, .int 0])), ((u1 11), .inr (1, [.ref (u1 15), .ref (u1 16), .ref (u1 17), .int 0, .int 0, .int 0])), ((u1 15), .inl (y 0, 6, .inl (fun _ => 0))), ((u1 16), .inl (y 0, 5, .inl (fun _ => 0))), ((u1 17), .inl (y 0, 5, .inl (fun _ => 0))), ((u1 12), .inl (y 3, 8, .inr (.inr (.inr (.inr (va_up (va_up (va_up (va_up (va_up (va_up (va_up (va_up (fun _ => none) (0 : Int32).toNatClampNeg (some (u1 18))) (1 : Int32).toNatClampNeg (some (u1 19))) (2 : Int32).toNatClampNeg (some (u1 20))) (3 : Int32).toNatClampNeg (some (u1 21))) (4 : Int32).toNatClampNeg (some (u1 22))) (5 : Int32).toNatClampNeg (some (u1 23))) (6 : Int32).toNatClampNeg (some (u1 24))) (7 : Int32).toNatClampNeg (some (u1 25)))))))), ((u1 18), .inr (1, [.ref (u1 26), .ref (u1 27), .ref (u1 28), .int 0, .int 0, .int 0])), ((u1 26), .inl (y 0, 6, .inl (fun _ => 0))), ((u1 27), .inl (y 0, 5, .inl (fun _ => 0))), ((u1 28), .inl (y 0, 5, .inl (fun _ => 0)))] [(qm, .inr (11, [.ref (u2 0), .ref (u2 1), .ref (u2 2), .ref (u2 3), .long 0, .long 1, .ref (u2 4), .ref (u2 5), .ref (u2 6), .ref (u2 7), .ref (u2 8), .int 0, .int 0, .int 0, .int 0, .int 0, .ref (u2 9), .ref (u2 10)])), ((u2 0), .inl (y 0, 228, .inl (fun _ => 0)))] [0, 1, 2, 3, 4, 5, 6, 7, 8, 9, 10] [11, 12] := ⟨rfl, rfl, rfl, rfl, rfl, by decide⟩
  refine kw_go_i hs1 hP hD hS hA (va_runV (As := []) (rest := []) ⟨hx, hb, hml, hown, hts⟩ (cp_night l D y qx (u1 0) (u1 1) (u1 2) (u1 3) (u1 4) (u1 5) (u1 6) (u1 7) (u1 8) (u1 9) (u1 10) (u1 11) (u1 12) (u1 13) (u1 14) (u1 15) (u1 16) (u1 17) (u1 18) (u1 26) (u1 27) (u1 28) (va_up (va_up (va_up (va_up (va_up (va_up (va_up (va_up (fun _ => none) (0 : Int32).toNatClampNeg (some (u1 18))) (1 : Int32).toNatClampNeg (some (u1 19))) (2 : Int32).toNatClampNeg (some (u1 20))) (3 : Int32).toNatClampNeg (some (u1 21))) (4 : Int32).toNatClampNeg (some (u1 22))) (5 : Int32).toNatClampNeg (some (u1 23))) (6 : Int32).toNatClampNeg (some (u1 24))) (7 : Int32).toNatClampNeg (some (u1 25))) (by first | assumption | rfl | simp [va_up]) _) (cwV 0 hts gL_law_X10_night rfl rfl rfl (by decide +kernel) ⟨Nat.le_of_ble_eq_true rfl, Nat.le_of_ble_eq_true rfl⟩) (kw_PreV (ci := 10) (q0 := 0) hs1 hP hD hK hN rfl rfl) rfl rfl hl.1 rfl (lv_room (Nat.le_of_ble_eq_true rfl)) dL_law_340 ⟨Nat.le_of_ble_eq_true rfl, Nat.le_of_ble_eq_true rfl⟩) (fun r u H locs hq hP hD hS => ?_)
  have hrr := hq
  obtain rfl : r = 1 := hrr.trans (by decide)
  have hP : va_P D vwCl [(qm, .inr (11, [.ref (u2 0), .ref (u2 1), .ref (u2 2), .ref (u2 3), .long 0, .long 1, .ref (u2 4), .ref (u2 5), .ref (u2 6), .ref (u2 7), .ref (u2 8), .int 0, .int 0, .int 0, .int 0, .int 0, .ref (u2 9), .ref (u2 10)])), ((u2 0), .inl (y 0, 228, .inl (fun _ => 0)))] H := hP
  have hD : va_D (fun q : Nat => s.heap.size ≤ q) [(qm, .inr (11, [.ref (u2 0), .ref (u2 1), .ref (u2 2), .ref (u2 3), .long 0, .long 1, .ref (u2 4), .ref (u2 5), .ref (u2 6), .ref (u2 7), .ref (u2 8), .int 0, .int 0, .int 0, .int 0, .int 0, .ref (u2 9), .ref (u2 10)])), ((u2 0), .inl (y 0, 228, .inl (fun _ => 0)))] := hD
  refine lv_aload_n hx hb dL_law_343 rfl (lv_at hl 1 rfl) ?_
  have hs2 : kw_Split [(qm, .inr (11, [.ref (u2 0), .ref (u2 1), .ref (u2 2), .ref (u2 3), .long 0, .long 1, .ref (u2 4), .ref (u2 5), .ref (u2 6), .ref (u2 7), .ref (u2 8), .int 0, .int 0, .int 0, .int 0, .int 0, .ref (u2 9), .ref (u2 10)])), ((u2 0), .inl (y 0, 228, .inl (fun _ => 0)))] [(qm, .inr (11, [.ref (u2 0), .ref (u2 1), .ref (u2 2), .ref (u2 3), .long 0, .long 1, .ref (u2 4), .ref (u2 5), .ref (u2 6), .ref (u2 7), .ref (u2 8), .int 0, .int 0, .int 0, .int 0, .int 0, .ref (u2 9), .ref (u2 10)])), ((u2 0), .inl (y 0, 228, .inl (fun _ => 0)))] [] [0, 1] [] := ⟨rfl, rfl, rfl, rfl, rfl, by decide⟩
  refine kw_go_i hs2 hP hD hS hA (va_runV (As := []) (rest := [.int 1]) ⟨hx, hb, hml, hown, hts⟩ (cq_night l D y qm (u2 0) (u2 1) (u2 2) (u2 3) (u2 4) (u2 5) (u2 6) (u2 7) (u2 8) (u2 9) (u2 10)  _) (cwV 0 hts gL_law_X11_night rfl rfl rfl (by decide +kernel) ⟨Nat.le_of_ble_eq_true rfl, Nat.le_of_ble_eq_true rfl⟩) (kw_PreV (ci := 11) (q0 := 0) hs2 hP hD hK hN rfl rfl) rfl rfl hl.1 rfl (lv_room (Nat.le_of_ble_eq_true rfl)) dL_law_344 ⟨Nat.le_of_ble_eq_true rfl, Nat.le_of_ble_eq_true rfl⟩) (fun r u H locs hq hP hD hS => ?_)
  have hrr := hq
  obtain rfl : r = 1 := hrr.trans (by decide)
  have hP : va_P D vwCl [] H := hP
  have hD : va_D (fun q : Nat => s.heap.size ≤ q) [] := hD
  refine lv_icmp_eq (tgt := 1145) hx hb dL_law_347 (by decide) (fun _ => ?_) (fun h9 => absurd h9 (by decide))
  refine lv_iinc (v := 6) (lv' := [(3, .int 6), (2, .ref qm), (1, .ref qx), (0, .ref b)]) hx hb dL_law_1145 hl (k := 0) rfl (by decide) (by decide) rfl (fun ls hl => ?_)
  refine lv_goto (tgt := 18) hx hb dL_law_1148 (by decide) ?_
  refine lv_iload_n hx hb dL_law_18 rfl (lv_at hl 0 rfl) ?_
  refine lv_aload_n hx hb dL_law_19 rfl (lv_at hl 3 rfl) ?_
  refine va_slen hx hb hX hbl hbA hS dL_law_20 ?_
  refine lv_topi (fun z3 hz3 => ?_)
  obtain rfl : z3 = 6 := hz3.trans (by first | rfl | decide | (simp [upd]; done))
  refine lv_bipush (v := 6) hx hb dL_law_21 (by decide) ?_
  refine lv_isub hx hb dL_law_23 ?_
  refine lv_topi (fun z4 hz4 => ?_)
  obtain rfl : z4 = 0 := hz4.trans (by first | rfl | decide | (simp [upd]; done))
  refine lv_icmp_gt (tgt := 1151) hx hb dL_law_24 (by decide) (fun _ => ?_) (fun h9 => absurd h9 (by decide))
  refine lv_iconst (v := 1) hx hb dL_law_1151 (by decide) ?_
  refine va_forget (fun q hq => hS.2.2 q hq) ?_
  refine W.widen (k := 600000) (n := 7302250) (Nat.le_of_ble_eq_true rfl) (Nat.le_of_ble_eq_true rfl) ?_
  exact lw_ret hx hb hr hlocks dL_law_1152

set_option maxHeartbeats 4000000 in
set_option maxRecDepth 100000 in
theorem lw_case8 {p : Program} {e : Env} {s : State} {m : MethodId} {below : List Frame} {meth : Method} {c : Code} (l : Launch) {b : Nat} {xs : Nat → Int32} (C0 : lw_At p s m meth c b 6 xs) {D : va_G} {y : Nat → ClassId} (hK : va_K D vwCl (kw_T y) s) (hN : kw_N s) (u1 u2 : Nat → Nat) (qx qm : Nat) {H : Heap} {locs : List Loc} {ls : Array Slot} (hP : va_P D vwCl (lw_world y u1 u2 qx qm) H) (hD : va_D (fun q : Nat => s.heap.size ≤ q) (lw_world y u1 u2 qx qm)) (hS : va_S (fun q : Nat => s.heap.size ≤ q) s.heap H locs) (hl : lv_has ls 4 [(3, .int 0), (2, .ref qm), (1, .ref qx), (0, .ref b)]) : W p l e room_1 s m #[Value.ref b] below meth c H locs 190 2130 (lw_Z below #[Value.ref b] s) (F0 m 352 ls []) := by
  obtain ⟨hx, hb, hr, hml, hown, hts0, hX, hbl, hlocks, hgv⟩ := id C0
  have hown : s.vm.findClass RL = some m.cls := hown
  have hts : ∀ w ∈ wsL_law, w.before #[Value.ref b] s = true := fun w h => hts0 w (wsL_law_in w h)
  have hA : ∀ q : Nat, s.heap.size ≤ q → (fun q : Nat => s.heap.size ≤ q) q := fun _ h => h
  have hbA : ¬ (fun q : Nat => s.heap.size ≤ q) b := Nat.not_le.mpr hbl
  have hP : va_P D vwCl [(qx, .inr (10, [.ref (u1 0), .ref (u1 1), .ref (u1 2), .ref (u1 3), .ref (u1 4), .ref (u1 5), .ref (u1 6), .ref (u1 7), .ref (u1 8), .ref (u1 9), .int 0, .int 1])), ((u1 1), .inr (4, [.ref (u1 0), .ref (u1 10), .ref (u1 11), .ref (u1 12), .ref (u1 13), .ref (u1 14), .int 0, .int 0, .int 0, .int 0, .int 0])), ((u1 9), .inl (y 0, 3, .inl (fun _ => 0))), (qm, .inr (11, [.ref (u2 0), .ref (u2 1), .ref (u2 2), .ref (u2 3), .long 0, .long 1, .ref (u2 4), .ref (u2 5), .ref (u2 6), .ref (u2 7), .ref (u2 8), .int 0, .int 0, .int 0, .int 0, .int 0, .ref (u2 9), .ref (u2 10)])), ((u2 0), .inl (y 0, 228, .inl (fun _ => 0))), ((u2 3), .inl (y 0, 3, .inl (fun _ => 0)))] H := hP.sub [0, 1, 32, 33, 34, 37] rfl
  have hD : va_D (fun q : Nat => s.heap.size ≤ q) [(qx, .inr (10, [.ref (u1 0), .ref (u1 1), .ref (u1 2), .ref (u1 3), .ref (u1 4), .ref (u1 5), .ref (u1 6), .ref (u1 7), .ref (u1 8), .ref (u1 9), .int 0, .int 1])), ((u1 1), .inr (4, [.ref (u1 0), .ref (u1 10), .ref (u1 11), .ref (u1 12), .ref (u1 13), .ref (u1 14), .int 0, .int 0, .int 0, .int 0, .int 0])), ((u1 9), .inl (y 0, 3, .inl (fun _ => 0))), (qm, .inr (11, [.ref (u2 0), .ref (u2 1), .ref (u2 2), .ref (u2 3), .long 0, .long 1, .ref (u2 4), .ref (u2 5), .ref (u2 6), .ref (u2 7), .ref (u2 8), .int 0, .int 0, .int 0, .int 0, .int 0, .ref (u2 9), .ref (u2 10)])), ((u2 0), .inl (y 0, 228, .inl (fun _ => 0))), ((u2 3), .inl (y 0, 3, .inl (fun _ => 0)))] := hD.sub [0, 1, 32, 33, 34, 37] (by decide) rfl
  refine lv_aload_n hx hb dL_law_352 rfl (lv_at hl 2 rfl) ?_
  refine lv_aload_n hx hb dL_law_353 rfl (lv_at hl 3 rfl) ?_
  refine lv_iload_n hx hb dL_law_354 rfl (lv_at hl 0 rfl) ?_
  refine lv_iconst (v := 1) hx hb dL_law_355 (by decide) ?_
  refine lv_iadd hx hb dL_law_356 ?_
  refine lv_topi (fun z1 hz1 => ?_)
  obtain rfl : z1 = 1 := hz1.trans (by first | rfl | decide | (simp [upd]; done))
  refine va_sld hx hb hX hbl hbA hS (by unfold vp_in; decide) dL_law_357 ?_
  refine lv_aload_n hx hb dL_law_358 rfl (lv_at hl 3 rfl) ?_
  refine lv_iload_n hx hb dL_law_359 rfl (lv_at hl 0 rfl) ?_
  refine lv_iconst (v := 2) hx hb dL_law_360 (by decide) ?_
  refine lv_iadd hx hb dL_law_361 ?_
  refine lv_topi (fun z2 hz2 => ?_)
  obtain rfl : z2 = 2 := hz2.trans (by first | rfl | decide | (simp [upd]; done))
  refine va_sld hx hb hX hbl hbA hS (by unfold vp_in; decide) dL_law_362 ?_
  have hs3 : kw_Split [(qx, .inr (10, [.ref (u1 0), .ref (u1 1), .ref (u1 2), .ref (u1 3), .ref (u1 4), .ref (u1 5), .ref (u1 6), .ref (u1 7), .ref (u1 8), .ref (u1 9), .int 0, .int 1])), ((u1 1), .inr (4, [.ref (u1 0), .ref (u1 10), .ref (u1 11), .ref (u1 12), .ref (u1 13), .ref (u1 14), .int 0, .int 0, .int 0, .int 0, .int 0])), ((u1 9), .inl (y 0, 3, .inl (fun _ => 0))), (qm, .inr (11, [.ref (u2 0), .ref (u2 1), .ref (u2 2), .ref (u2 3), .long 0, .long 1, .ref (u2 4), .ref (u2 5), .ref (u2 6), .ref (u2 7), .ref (u2 8), .int 0, .int 0, .int 0, .int 0, .int 0, .ref (u2 9), .ref (u2 10)])), ((u2 0), .inl (y 0, 228, .inl (fun _ => 0))), ((u2 3), .inl (y 0, 3, .inl (fun _ => 0)))] [(qx, .inr (10, [.ref (u1 0), .ref (u1 1), .ref (u1 2), .ref (u1 3), .ref (u1 4), .ref (u1 5), .ref (u1 6), .ref (u1 7), .ref (u1 8), .ref (u1 9), .int 0, .int 1])), ((u1 9), .inl (y 0, 3, .inl (fun _ => 0))), ((u1 1), .inr (4, [.ref (u1 0), .ref (u1 10), .ref (u1 11), .ref (u1 12), .ref (u1 13), .ref (u1 14), .int 0, .int 0, .int 0, .int 0, .int 0]))] [(qm, .inr (11, [.ref (u2 0), .ref (u2 1), .ref (u2 2), .ref (u2 3), .long 0, .long 1, .ref (u2 4), .ref (u2 5), .ref (u2 6), .ref (u2 7), .ref (u2 8), .int 0, .int 0, .int 0, .int 0, .int 0, .ref (u2 9), .ref (u2 10)])), ((u2 0), .inl (y 0, 228, .inl (fun _ => 0))), ((u2 3), .inl (y 0, 3, .inl (fun _ => 0)))] [0, 2, 1] [3, 4, 5] := ⟨rfl, rfl, rfl, rfl, rfl, by decide⟩
  refine kw_go_i hs3 hP hD hS hA (va_runV (As := [.int (xs (1 : Int32).toNatClampNeg), .int (xs (2 : Int32).toNatClampNeg)]) (rest := []) ⟨hx, hb, hml, hown, hts⟩ (cp_goes l D y qx (u1 0) (u1 1) (u1 2) (u1 3) (u1 4) (u1 5) (u1 6) (u1 7) (u1 8) (u1 9) (u1 10) (u1 11) (u1 12) (u1 13) (u1 14) (xs (1 : Int32).toNatClampNeg) (xs (2 : Int32).toNatClampNeg)  _) (cwV 2 hts gL_law_X10_goes rfl rfl rfl (by decide +kernel) ⟨Nat.le_of_ble_eq_true rfl, Nat.le_of_ble_eq_true rfl⟩) (kw_PreV (ci := 10) (q0 := 0) hs3 hP hD hK hN rfl rfl) rfl rfl hl.1 rfl (lv_room (Nat.le_of_ble_eq_true rfl)) dL_law_363 ⟨Nat.le_of_ble_eq_true rfl, Nat.le_of_ble_eq_true rfl⟩) (fun r u H locs hq hP hD hS => ?_)
  have hrr := hq
  obtain rfl : r = (-2) := hrr.trans (by decide)
  have hP : va_P D vwCl [(qm, .inr (11, [.ref (u2 0), .ref (u2 1), .ref (u2 2), .ref (u2 3), .long 0, .long 1, .ref (u2 4), .ref (u2 5), .ref (u2 6), .ref (u2 7), .ref (u2 8), .int 0, .int 0, .int 0, .int 0, .int 0, .ref (u2 9), .ref (u2 10)])), ((u2 0), .inl (y 0, 228, .inl (fun _ => 0))), ((u2 3), .inl (y 0, 3, .inl (fun _ => 0)))] H := hP
  have hD : va_D (fun q : Nat => s.heap.size ≤ q) [(qm, .inr (11, [.ref (u2 0), .ref (u2 1), .ref (u2 2), .ref (u2 3), .long 0, .long 1, .ref (u2 4), .ref (u2 5), .ref (u2 6), .ref (u2 7), .ref (u2 8), .int 0, .int 0, .int 0, .int 0, .int 0, .ref (u2 9), .ref (u2 10)])), ((u2 0), .inl (y 0, 228, .inl (fun _ => 0))), ((u2 3), .inl (y 0, 3, .inl (fun _ => 0)))] := hD
  refine lv_aload_n hx hb dL_law_366 rfl (lv_at hl 1 rfl) ?_
  refine lv_aload_n hx hb dL_law_367 rfl (lv_at hl 3 rfl) ?_
  refine lv_iload_n hx hb dL_law_368 rfl (lv_at hl 0 rfl) ?_
  refine lv_iconst (v := 1) hx hb dL_law_369 (by decide) ?_
  refine lv_iadd hx hb dL_law_370 ?_
  refine lv_topi (fun z4 hz4 => ?_)
  obtain rfl : z4 = 1 := hz4.trans (by first | rfl | decide | (simp [upd]; done))
  refine va_sld hx hb hX hbl hbA hS (by unfold vp_in; decide) dL_law_371 ?_
  refine lv_aload_n hx hb dL_law_372 rfl (lv_at hl 3 rfl) ?_
  refine lv_iload_n hx hb dL_law_373 rfl (lv_at hl 0 rfl) ?_
  refine lv_iconst (v := 2) hx hb dL_law_374 (by decide) ?_
  refine lv_iadd hx hb dL_law_375 ?_
  refine lv_topi (fun z5 hz5 => ?_)
  obtain rfl : z5 = 2 := hz5.trans (by first | rfl | decide | (simp [upd]; done))
  refine va_sld hx hb hX hbl hbA hS (by unfold vp_in; decide) dL_law_376 ?_
  have hs6 : kw_Split [(qm, .inr (11, [.ref (u2 0), .ref (u2 1), .ref (u2 2), .ref (u2 3), .long 0, .long 1, .ref (u2 4), .ref (u2 5), .ref (u2 6), .ref (u2 7), .ref (u2 8), .int 0, .int 0, .int 0, .int 0, .int 0, .ref (u2 9), .ref (u2 10)])), ((u2 0), .inl (y 0, 228, .inl (fun _ => 0))), ((u2 3), .inl (y 0, 3, .inl (fun _ => 0)))] [(qm, .inr (11, [.ref (u2 0), .ref (u2 1), .ref (u2 2), .ref (u2 3), .long 0, .long 1, .ref (u2 4), .ref (u2 5), .ref (u2 6), .ref (u2 7), .ref (u2 8), .int 0, .int 0, .int 0, .int 0, .int 0, .ref (u2 9), .ref (u2 10)])), ((u2 3), .inl (y 0, 3, .inl (fun _ => 0))), ((u2 0), .inl (y 0, 228, .inl (fun _ => 0)))] [] [0, 2, 1] [] := ⟨rfl, rfl, rfl, rfl, rfl, by decide⟩
  refine kw_go_i hs6 hP hD hS hA (va_runV (As := [.int (xs (1 : Int32).toNatClampNeg), .int (xs (2 : Int32).toNatClampNeg)]) (rest := [.int (-2)]) ⟨hx, hb, hml, hown, hts⟩ (cq_goes l D y qm (u2 0) (u2 1) (u2 2) (u2 3) (u2 4) (u2 5) (u2 6) (u2 7) (u2 8) (u2 9) (u2 10) (xs (1 : Int32).toNatClampNeg) (xs (2 : Int32).toNatClampNeg)  _) (cwV 2 hts gL_law_X11_goes rfl rfl rfl (by decide +kernel) ⟨Nat.le_of_ble_eq_true rfl, Nat.le_of_ble_eq_true rfl⟩) (kw_PreV (ci := 11) (q0 := 0) hs6 hP hD hK hN rfl rfl) rfl rfl hl.1 rfl (lv_room (Nat.le_of_ble_eq_true rfl)) dL_law_377 ⟨Nat.le_of_ble_eq_true rfl, Nat.le_of_ble_eq_true rfl⟩) (fun r u H locs hq hP hD hS => ?_)
  have hrr := hq
  obtain rfl : r = (-2) := hrr.trans (by decide)
  have hP : va_P D vwCl [] H := hP
  have hD : va_D (fun q : Nat => s.heap.size ≤ q) [] := hD
  refine lv_icmp_eq (tgt := 1145) hx hb dL_law_380 (by decide) (fun _ => ?_) (fun h9 => absurd h9 (by decide))
  refine lv_iinc (v := 6) (lv' := [(3, .int 6), (2, .ref qm), (1, .ref qx), (0, .ref b)]) hx hb dL_law_1145 hl (k := 0) rfl (by decide) (by decide) rfl (fun ls hl => ?_)
  refine lv_goto (tgt := 18) hx hb dL_law_1148 (by decide) ?_
  refine lv_iload_n hx hb dL_law_18 rfl (lv_at hl 0 rfl) ?_
  refine lv_aload_n hx hb dL_law_19 rfl (lv_at hl 3 rfl) ?_
  refine va_slen hx hb hX hbl hbA hS dL_law_20 ?_
  refine lv_topi (fun z7 hz7 => ?_)
  obtain rfl : z7 = 6 := hz7.trans (by first | rfl | decide | (simp [upd]; done))
  refine lv_bipush (v := 6) hx hb dL_law_21 (by decide) ?_
  refine lv_isub hx hb dL_law_23 ?_
  refine lv_topi (fun z8 hz8 => ?_)
  obtain rfl : z8 = 0 := hz8.trans (by first | rfl | decide | (simp [upd]; done))
  refine lv_icmp_gt (tgt := 1151) hx hb dL_law_24 (by decide) (fun _ => ?_) (fun h9 => absurd h9 (by decide))
  refine lv_iconst (v := 1) hx hb dL_law_1151 (by decide) ?_
  refine va_forget (fun q hq => hS.2.2 q hq) ?_
  refine W.widen (k := 600000) (n := 7302250) (Nat.le_of_ble_eq_true rfl) (Nat.le_of_ble_eq_true rfl) ?_
  exact lw_ret hx hb hr hlocks dL_law_1152

set_option maxHeartbeats 4000000 in
set_option maxRecDepth 100000 in
theorem lw_case9 {p : Program} {e : Env} {s : State} {m : MethodId} {below : List Frame} {meth : Method} {c : Code} (l : Launch) {b : Nat} {xs : Nat → Int32} (C0 : lw_At p s m meth c b 6 xs) {D : va_G} {y : Nat → ClassId} (hK : va_K D vwCl (kw_T y) s) (hN : kw_N s) (u1 u2 : Nat → Nat) (qx qm : Nat) {H : Heap} {locs : List Loc} {ls : Array Slot} (hP : va_P D vwCl (lw_world y u1 u2 qx qm) H) (hD : va_D (fun q : Nat => s.heap.size ≤ q) (lw_world y u1 u2 qx qm)) (hS : va_S (fun q : Nat => s.heap.size ≤ q) s.heap H locs) (hl : lv_has ls 4 [(3, .int 0), (2, .ref qm), (1, .ref qx), (0, .ref b)]) : W p l e room_1 s m #[Value.ref b] below meth c H locs 190 2130 (lw_Z below #[Value.ref b] s) (F0 m 385 ls []) := by
  obtain ⟨hx, hb, hr, hml, hown, hts0, hX, hbl, hlocks, hgv⟩ := id C0
  have hown : s.vm.findClass RL = some m.cls := hown
  have hts : ∀ w ∈ wsL_law, w.before #[Value.ref b] s = true := fun w h => hts0 w (wsL_law_in w h)
  have hA : ∀ q : Nat, s.heap.size ≤ q → (fun q : Nat => s.heap.size ≤ q) q := fun _ h => h
  have hbA : ¬ (fun q : Nat => s.heap.size ≤ q) b := Nat.not_le.mpr hbl
  have hP : va_P D vwCl [(qx, .inr (10, [.ref (u1 0), .ref (u1 1), .ref (u1 2), .ref (u1 3), .ref (u1 4), .ref (u1 5), .ref (u1 6), .ref (u1 7), .ref (u1 8), .ref (u1 9), .int 0, .int 1])), ((u1 1), .inr (4, [.ref (u1 0), .ref (u1 10), .ref (u1 11), .ref (u1 12), .ref (u1 13), .ref (u1 14), .int 0, .int 0, .int 0, .int 0, .int 0])), ((u1 11), .inr (1, [.ref (u1 15), .ref (u1 16), .ref (u1 17), .int 0, .int 0, .int 0])), ((u1 15), .inl (y 0, 6, .inl (fun _ => 0))), ((u1 16), .inl (y 0, 5, .inl (fun _ => 0))), ((u1 17), .inl (y 0, 5, .inl (fun _ => 0))), ((u1 12), .inl (y 3, 8, .inr (.inr (.inr (.inr (va_up (va_up (va_up (va_up (va_up (va_up (va_up (va_up (fun _ => none) (0 : Int32).toNatClampNeg (some (u1 18))) (1 : Int32).toNatClampNeg (some (u1 19))) (2 : Int32).toNatClampNeg (some (u1 20))) (3 : Int32).toNatClampNeg (some (u1 21))) (4 : Int32).toNatClampNeg (some (u1 22))) (5 : Int32).toNatClampNeg (some (u1 23))) (6 : Int32).toNatClampNeg (some (u1 24))) (7 : Int32).toNatClampNeg (some (u1 25)))))))), ((u1 18), .inr (1, [.ref (u1 26), .ref (u1 27), .ref (u1 28), .int 0, .int 0, .int 0])), ((u1 26), .inl (y 0, 6, .inl (fun _ => 0))), ((u1 27), .inl (y 0, 5, .inl (fun _ => 0))), ((u1 28), .inl (y 0, 5, .inl (fun _ => 0))), ((u1 9), .inl (y 0, 3, .inl (fun _ => 0))), (qm, .inr (11, [.ref (u2 0), .ref (u2 1), .ref (u2 2), .ref (u2 3), .long 0, .long 1, .ref (u2 4), .ref (u2 5), .ref (u2 6), .ref (u2 7), .ref (u2 8), .int 0, .int 0, .int 0, .int 0, .int 0, .ref (u2 9), .ref (u2 10)])), ((u2 0), .inl (y 0, 228, .inl (fun _ => 0))), ((u2 3), .inl (y 0, 3, .inl (fun _ => 0)))] H := hP.sub [0, 1, 3, 4, 5, 6, 7, 8, 9, 10, 11, 32, 33, 34, 37] rfl
  have hD : va_D (fun q : Nat => s.heap.size ≤ q) [(qx, .inr (10, [.ref (u1 0), .ref (u1 1), .ref (u1 2), .ref (u1 3), .ref (u1 4), .ref (u1 5), .ref (u1 6), .ref (u1 7), .ref (u1 8), .ref (u1 9), .int 0, .int 1])), ((u1 1), .inr (4, [.ref (u1 0), .ref (u1 10), .ref (u1 11), .ref (u1 12), .ref (u1 13), .ref (u1 14), .int 0, .int 0, .int 0, .int 0, .int 0])), ((u1 11), .inr (1, [.ref (u1 15), .ref (u1 16), .ref (u1 17), .int 0, .int 0, .int 0])), ((u1 15), .inl (y 0, 6, .inl (fun _ => 0))), ((u1 16), .inl (y 0, 5, .inl (fun _ => 0))), ((u1 17), .inl (y 0, 5, .inl (fun _ => 0))), ((u1 12), .inl (y 3, 8, .inr (.inr (.inr (.inr (va_up (va_up (va_up (va_up (va_up (va_up (va_up (va_up (fun _ => none) (0 : Int32).toNatClampNeg (some (u1 18))) (1 : Int32).toNatClampNeg (some (u1 19))) (2 : Int32).toNatClampNeg (some (u1 20))) (3 : Int32).toNatClampNeg (some (u1 21))) (4 : Int32).toNatClampNeg (some (u1 22))) (5 : Int32).toNatClampNeg (some (u1 23))) (6 : Int32).toNatClampNeg (some (u1 24))) (7 : Int32).toNatClampNeg (some (u1 25)))))))), ((u1 18), .inr (1, [.ref (u1 26), .ref (u1 27), .ref (u1 28), .int 0, .int 0, .int 0])), ((u1 26), .inl (y 0, 6, .inl (fun _ => 0))), ((u1 27), .inl (y 0, 5, .inl (fun _ => 0))), ((u1 28), .inl (y 0, 5, .inl (fun _ => 0))), ((u1 9), .inl (y 0, 3, .inl (fun _ => 0))), (qm, .inr (11, [.ref (u2 0), .ref (u2 1), .ref (u2 2), .ref (u2 3), .long 0, .long 1, .ref (u2 4), .ref (u2 5), .ref (u2 6), .ref (u2 7), .ref (u2 8), .int 0, .int 0, .int 0, .int 0, .int 0, .ref (u2 9), .ref (u2 10)])), ((u2 0), .inl (y 0, 228, .inl (fun _ => 0))), ((u2 3), .inl (y 0, 3, .inl (fun _ => 0)))] := hD.sub [0, 1, 3, 4, 5, 6, 7, 8, 9, 10, 11, 32, 33, 34, 37] (by decide) rfl
  refine lv_aload_n hx hb dL_law_385 rfl (lv_at hl 2 rfl) ?_
  refine lv_aload_n hx hb dL_law_386 rfl (lv_at hl 3 rfl) ?_
  refine lv_iload_n hx hb dL_law_387 rfl (lv_at hl 0 rfl) ?_
  refine lv_iconst (v := 1) hx hb dL_law_388 (by decide) ?_
  refine lv_iadd hx hb dL_law_389 ?_
  refine lv_topi (fun z1 hz1 => ?_)
  obtain rfl : z1 = 1 := hz1.trans (by first | rfl | decide | (simp [upd]; done))
  refine va_sld hx hb hX hbl hbA hS (by unfold vp_in; decide) dL_law_390 ?_
  have hs2 : kw_Split [(qx, .inr (10, [.ref (u1 0), .ref (u1 1), .ref (u1 2), .ref (u1 3), .ref (u1 4), .ref (u1 5), .ref (u1 6), .ref (u1 7), .ref (u1 8), .ref (u1 9), .int 0, .int 1])), ((u1 1), .inr (4, [.ref (u1 0), .ref (u1 10), .ref (u1 11), .ref (u1 12), .ref (u1 13), .ref (u1 14), .int 0, .int 0, .int 0, .int 0, .int 0])), ((u1 11), .inr (1, [.ref (u1 15), .ref (u1 16), .ref (u1 17), .int 0, .int 0, .int 0])), ((u1 15), .inl (y 0, 6, .inl (fun _ => 0))), ((u1 16), .inl (y 0, 5, .inl (fun _ => 0))), ((u1 17), .inl (y 0, 5, .inl (fun _ => 0))), ((u1 12), .inl (y 3, 8, .inr (.inr (.inr (.inr (va_up (va_up (va_up (va_up (va_up (va_up (va_up (va_up (fun _ => none) (0 : Int32).toNatClampNeg (some (u1 18))) (1 : Int32).toNatClampNeg (some (u1 19))) (2 : Int32).toNatClampNeg (some (u1 20))) (3 : Int32).toNatClampNeg (some (u1 21))) (4 : Int32).toNatClampNeg (some (u1 22))) (5 : Int32).toNatClampNeg (some (u1 23))) (6 : Int32).toNatClampNeg (some (u1 24))) (7 : Int32).toNatClampNeg (some (u1 25)))))))), ((u1 18), .inr (1, [.ref (u1 26), .ref (u1 27), .ref (u1 28), .int 0, .int 0, .int 0])), ((u1 26), .inl (y 0, 6, .inl (fun _ => 0))), ((u1 27), .inl (y 0, 5, .inl (fun _ => 0))), ((u1 28), .inl (y 0, 5, .inl (fun _ => 0))), ((u1 9), .inl (y 0, 3, .inl (fun _ => 0))), (qm, .inr (11, [.ref (u2 0), .ref (u2 1), .ref (u2 2), .ref (u2 3), .long 0, .long 1, .ref (u2 4), .ref (u2 5), .ref (u2 6), .ref (u2 7), .ref (u2 8), .int 0, .int 0, .int 0, .int 0, .int 0, .ref (u2 9), .ref (u2 10)])), ((u2 0), .inl (y 0, 228, .inl (fun _ => 0))), ((u2 3), .inl (y 0, 3, .inl (fun _ => 0)))] [(qx, .inr (10, [.ref (u1 0), .ref (u1 1), .ref (u1 2), .ref (u1 3), .ref (u1 4), .ref (u1 5), .ref (u1 6), .ref (u1 7), .ref (u1 8), .ref (u1 9), .int 0, .int 1])), ((u1 9), .inl (y 0, 3, .inl (fun _ => 0))), ((u1 1), .inr (4, [.ref (u1 0), .ref (u1 10), .ref (u1 11), .ref (u1 12), .ref (u1 13), .ref (u1 14), .int 0, .int 0, .int 0, .int 0, .int 0])), ((u1 11), .inr (1, [.ref (u1 15), .ref (u1 16), .ref (u1 17), .int 0, .int 0, .int 0])), ((u1 15), .inl (y 0, 6, .inl (fun _ => 0))), ((u1 16), .inl (y 0, 5, .inl (fun _ => 0))), ((u1 17), .inl (y 0, 5, .inl (fun _ => 0))), ((u1 12), .inl (y 3, 8, .inr (.inr (.inr (.inr (va_up (va_up (va_up (va_up (va_up (va_up (va_up (va_up (fun _ => none) (0 : Int32).toNatClampNeg (some (u1 18))) (1 : Int32).toNatClampNeg (some (u1 19))) (2 : Int32).toNatClampNeg (some (u1 20))) (3 : Int32).toNatClampNeg (some (u1 21))) (4 : Int32).toNatClampNeg (some (u1 22))) (5 : Int32).toNatClampNeg (some (u1 23))) (6 : Int32).toNatClampNeg (some (u1 24))) (7 : Int32).toNatClampNeg (some (u1 25)))))))), ((u1 18), .inr (1, [.ref (u1 26), .ref (u1 27), .ref (u1 28), .int 0, .int 0, .int 0])), ((u1 26), .inl (y 0, 6, .inl (fun _ => 0))), ((u1 27), .inl (y 0, 5, .inl (fun _ => 0))), ((u1 28), .inl (y 0, 5, .inl (fun _ => 0)))] [(qm, .inr (11, [.ref (u2 0), .ref (u2 1), .ref (u2 2), .ref (u2 3), .long 0, .long 1, .ref (u2 4), .ref (u2 5), .ref (u2 6), .ref (u2 7), .ref (u2 8), .int 0, .int 0, .int 0, .int 0, .int 0, .ref (u2 9), .ref (u2 10)])), ((u2 0), .inl (y 0, 228, .inl (fun _ => 0))), ((u2 3), .inl (y 0, 3, .inl (fun _ => 0)))] [0, 11, 1, 2, 3, 4, 5, 6, 7, 8, 9, 10] [12, 13, 14] := ⟨rfl, rfl, rfl, rfl, rfl, by decide⟩
  refine kw_go_i hs2 hP hD hS hA (va_runV (As := [.int (xs (1 : Int32).toNatClampNeg)]) (rest := []) ⟨hx, hb, hml, hown, hts⟩ (cp_cloud l D y qx (u1 0) (u1 1) (u1 2) (u1 3) (u1 4) (u1 5) (u1 6) (u1 7) (u1 8) (u1 9) (u1 10) (u1 11) (u1 12) (u1 13) (u1 14) (u1 15) (u1 16) (u1 17) (u1 18) (u1 26) (u1 27) (u1 28) (va_up (va_up (va_up (va_up (va_up (va_up (va_up (va_up (fun _ => none) (0 : Int32).toNatClampNeg (some (u1 18))) (1 : Int32).toNatClampNeg (some (u1 19))) (2 : Int32).toNatClampNeg (some (u1 20))) (3 : Int32).toNatClampNeg (some (u1 21))) (4 : Int32).toNatClampNeg (some (u1 22))) (5 : Int32).toNatClampNeg (some (u1 23))) (6 : Int32).toNatClampNeg (some (u1 24))) (7 : Int32).toNatClampNeg (some (u1 25))) (xs (1 : Int32).toNatClampNeg) (by first | assumption | rfl | simp [va_up]) _) (cwV 1 hts gL_law_X10_cloud rfl rfl rfl (by decide +kernel) ⟨Nat.le_of_ble_eq_true rfl, Nat.le_of_ble_eq_true rfl⟩) (kw_PreV (ci := 10) (q0 := 0) hs2 hP hD hK hN rfl rfl) rfl rfl hl.1 rfl (lv_room (Nat.le_of_ble_eq_true rfl)) dL_law_391 ⟨Nat.le_of_ble_eq_true rfl, Nat.le_of_ble_eq_true rfl⟩) (fun r u H locs hq hP hD hS => ?_)
  obtain rfl := hq
  have hP : va_P D vwCl [(qm, .inr (11, [.ref (u2 0), .ref (u2 1), .ref (u2 2), .ref (u2 3), .long 0, .long 1, .ref (u2 4), .ref (u2 5), .ref (u2 6), .ref (u2 7), .ref (u2 8), .int 0, .int 0, .int 0, .int 0, .int 0, .ref (u2 9), .ref (u2 10)])), ((u2 0), .inl (y 0, 228, .inl (fun _ => 0))), ((u2 3), .inl (y 0, 3, .inl (fun _ => 0)))] H := hP
  have hD : va_D (fun q : Nat => s.heap.size ≤ q) [(qm, .inr (11, [.ref (u2 0), .ref (u2 1), .ref (u2 2), .ref (u2 3), .long 0, .long 1, .ref (u2 4), .ref (u2 5), .ref (u2 6), .ref (u2 7), .ref (u2 8), .int 0, .int 0, .int 0, .int 0, .int 0, .ref (u2 9), .ref (u2 10)])), ((u2 0), .inl (y 0, 228, .inl (fun _ => 0))), ((u2 3), .inl (y 0, 3, .inl (fun _ => 0)))] := hD
  refine lv_aload_n hx hb dL_law_394 rfl (lv_at hl 1 rfl) ?_
  refine lv_aload_n hx hb dL_law_395 rfl (lv_at hl 3 rfl) ?_
  refine lv_iload_n hx hb dL_law_396 rfl (lv_at hl 0 rfl) ?_
  refine lv_iconst (v := 1) hx hb dL_law_397 (by decide) ?_
  refine lv_iadd hx hb dL_law_398 ?_
  refine lv_topi (fun z3 hz3 => ?_)
  obtain rfl : z3 = 1 := hz3.trans (by first | rfl | decide | (simp [upd]; done))
  refine va_sld hx hb hX hbl hbA hS (by unfold vp_in; decide) dL_law_399 ?_
  have hs4 : kw_Split [(qm, .inr (11, [.ref (u2 0), .ref (u2 1), .ref (u2 2), .ref (u2 3), .long 0, .long 1, .ref (u2 4), .ref (u2 5), .ref (u2 6), .ref (u2 7), .ref (u2 8), .int 0, .int 0, .int 0, .int 0, .int 0, .ref (u2 9), .ref (u2 10)])), ((u2 0), .inl (y 0, 228, .inl (fun _ => 0))), ((u2 3), .inl (y 0, 3, .inl (fun _ => 0)))] [(qm, .inr (11, [.ref (u2 0), .ref (u2 1), .ref (u2 2), .ref (u2 3), .long 0, .long 1, .ref (u2 4), .ref (u2 5), .ref (u2 6), .ref (u2 7), .ref (u2 8), .int 0, .int 0, .int 0, .int 0, .int 0, .ref (u2 9), .ref (u2 10)])), ((u2 3), .inl (y 0, 3, .inl (fun _ => 0))), ((u2 0), .inl (y 0, 228, .inl (fun _ => 0)))] [] [0, 2, 1] [] := ⟨rfl, rfl, rfl, rfl, rfl, by decide⟩
  refine kw_go_i hs4 hP hD hS hA (va_runV (As := [.int (xs (1 : Int32).toNatClampNeg)]) (rest := [.int (sp_cloud (xs (1 : Int32).toNatClampNeg))]) ⟨hx, hb, hml, hown, hts⟩ (cq_cloud l D y qm (u2 0) (u2 1) (u2 2) (u2 3) (u2 4) (u2 5) (u2 6) (u2 7) (u2 8) (u2 9) (u2 10) (xs (1 : Int32).toNatClampNeg)  _) (cwV 1 hts gL_law_X11_cloud rfl rfl rfl (by decide +kernel) ⟨Nat.le_of_ble_eq_true rfl, Nat.le_of_ble_eq_true rfl⟩) (kw_PreV (ci := 11) (q0 := 0) hs4 hP hD hK hN rfl rfl) rfl rfl hl.1 rfl (lv_room (Nat.le_of_ble_eq_true rfl)) dL_law_400 ⟨Nat.le_of_ble_eq_true rfl, Nat.le_of_ble_eq_true rfl⟩) (fun r u H locs hq hP hD hS => ?_)
  obtain rfl := hq
  have hP : va_P D vwCl [] H := hP
  have hD : va_D (fun q : Nat => s.heap.size ≤ q) [] := hD
  refine lv_icmp_eq (tgt := 1145) hx hb dL_law_403 (by decide) (fun _ => ?_) (fun h9 => absurd rfl h9)
  refine lv_iinc (v := 6) (lv' := [(3, .int 6), (2, .ref qm), (1, .ref qx), (0, .ref b)]) hx hb dL_law_1145 hl (k := 0) rfl (by decide) (by decide) rfl (fun ls hl => ?_)
  refine lv_goto (tgt := 18) hx hb dL_law_1148 (by decide) ?_
  refine lv_iload_n hx hb dL_law_18 rfl (lv_at hl 0 rfl) ?_
  refine lv_aload_n hx hb dL_law_19 rfl (lv_at hl 3 rfl) ?_
  refine va_slen hx hb hX hbl hbA hS dL_law_20 ?_
  refine lv_topi (fun z5 hz5 => ?_)
  obtain rfl : z5 = 6 := hz5.trans (by first | rfl | decide | (simp [upd]; done))
  refine lv_bipush (v := 6) hx hb dL_law_21 (by decide) ?_
  refine lv_isub hx hb dL_law_23 ?_
  refine lv_topi (fun z6 hz6 => ?_)
  obtain rfl : z6 = 0 := hz6.trans (by first | rfl | decide | (simp [upd]; done))
  refine lv_icmp_gt (tgt := 1151) hx hb dL_law_24 (by decide) (fun _ => ?_) (fun h9 => absurd h9 (by decide))
  refine lv_iconst (v := 1) hx hb dL_law_1151 (by decide) ?_
  refine va_forget (fun q hq => hS.2.2 q hq) ?_
  refine W.widen (k := 600000) (n := 7302250) (Nat.le_of_ble_eq_true rfl) (Nat.le_of_ble_eq_true rfl) ?_
  exact lw_ret hx hb hr hlocks dL_law_1152

set_option maxHeartbeats 4000000 in
set_option maxRecDepth 100000 in
theorem lw_case10 {p : Program} {e : Env} {s : State} {m : MethodId} {below : List Frame} {meth : Method} {c : Code} (l : Launch) {b : Nat} {xs : Nat → Int32} (C0 : lw_At p s m meth c b 6 xs) {D : va_G} {y : Nat → ClassId} (hK : va_K D vwCl (kw_T y) s) (hN : kw_N s) (u1 u2 : Nat → Nat) (qx qm : Nat) {H : Heap} {locs : List Loc} {ls : Array Slot} (hP : va_P D vwCl (lw_world y u1 u2 qx qm) H) (hD : va_D (fun q : Nat => s.heap.size ≤ q) (lw_world y u1 u2 qx qm)) (hS : va_S (fun q : Nat => s.heap.size ≤ q) s.heap H locs) (hl : lv_has ls 4 [(3, .int 0), (2, .ref qm), (1, .ref qx), (0, .ref b)]) : W p l e room_1 s m #[Value.ref b] below meth c H locs 190 2130 (lw_Z below #[Value.ref b] s) (F0 m 408 ls []) := by
  obtain ⟨hx, hb, hr, hml, hown, hts0, hX, hbl, hlocks, hgv⟩ := id C0
  have hown : s.vm.findClass RL = some m.cls := hown
  have hts : ∀ w ∈ wsL_law, w.before #[Value.ref b] s = true := fun w h => hts0 w (wsL_law_in w h)
  have hA : ∀ q : Nat, s.heap.size ≤ q → (fun q : Nat => s.heap.size ≤ q) q := fun _ h => h
  have hbA : ¬ (fun q : Nat => s.heap.size ≤ q) b := Nat.not_le.mpr hbl
  have hP : va_P D vwCl [(qx, .inr (10, [.ref (u1 0), .ref (u1 1), .ref (u1 2), .ref (u1 3), .ref (u1 4), .ref (u1 5), .ref (u1 6), .ref (u1 7), .ref (u1 8), .ref (u1 9), .int 0, .int 1])), ((u1 1), .inr (4, [.ref (u1 0), .ref (u1 10), .ref (u1 11), .ref (u1 12), .ref (u1 13), .ref (u1 14), .int 0, .int 0, .int 0, .int 0, .int 0])), ((u1 9), .inl (y 0, 3, .inl (fun _ => 0))), (qm, .inr (11, [.ref (u2 0), .ref (u2 1), .ref (u2 2), .ref (u2 3), .long 0, .long 1, .ref (u2 4), .ref (u2 5), .ref (u2 6), .ref (u2 7), .ref (u2 8), .int 0, .int 0, .int 0, .int 0, .int 0, .ref (u2 9), .ref (u2 10)])), ((u2 0), .inl (y 0, 228, .inl (fun _ => 0))), ((u2 3), .inl (y 0, 3, .inl (fun _ => 0)))] H := hP.sub [0, 1, 32, 33, 34, 37] rfl
  have hD : va_D (fun q : Nat => s.heap.size ≤ q) [(qx, .inr (10, [.ref (u1 0), .ref (u1 1), .ref (u1 2), .ref (u1 3), .ref (u1 4), .ref (u1 5), .ref (u1 6), .ref (u1 7), .ref (u1 8), .ref (u1 9), .int 0, .int 1])), ((u1 1), .inr (4, [.ref (u1 0), .ref (u1 10), .ref (u1 11), .ref (u1 12), .ref (u1 13), .ref (u1 14), .int 0, .int 0, .int 0, .int 0, .int 0])), ((u1 9), .inl (y 0, 3, .inl (fun _ => 0))), (qm, .inr (11, [.ref (u2 0), .ref (u2 1), .ref (u2 2), .ref (u2 3), .long 0, .long 1, .ref (u2 4), .ref (u2 5), .ref (u2 6), .ref (u2 7), .ref (u2 8), .int 0, .int 0, .int 0, .int 0, .int 0, .ref (u2 9), .ref (u2 10)])), ((u2 0), .inl (y 0, 228, .inl (fun _ => 0))), ((u2 3), .inl (y 0, 3, .inl (fun _ => 0)))] := hD.sub [0, 1, 32, 33, 34, 37] (by decide) rfl
  refine lv_aload_n hx hb dL_law_408 rfl (lv_at hl 2 rfl) ?_
  have hs1 : kw_Split [(qx, .inr (10, [.ref (u1 0), .ref (u1 1), .ref (u1 2), .ref (u1 3), .ref (u1 4), .ref (u1 5), .ref (u1 6), .ref (u1 7), .ref (u1 8), .ref (u1 9), .int 0, .int 1])), ((u1 1), .inr (4, [.ref (u1 0), .ref (u1 10), .ref (u1 11), .ref (u1 12), .ref (u1 13), .ref (u1 14), .int 0, .int 0, .int 0, .int 0, .int 0])), ((u1 9), .inl (y 0, 3, .inl (fun _ => 0))), (qm, .inr (11, [.ref (u2 0), .ref (u2 1), .ref (u2 2), .ref (u2 3), .long 0, .long 1, .ref (u2 4), .ref (u2 5), .ref (u2 6), .ref (u2 7), .ref (u2 8), .int 0, .int 0, .int 0, .int 0, .int 0, .ref (u2 9), .ref (u2 10)])), ((u2 0), .inl (y 0, 228, .inl (fun _ => 0))), ((u2 3), .inl (y 0, 3, .inl (fun _ => 0)))] [(qx, .inr (10, [.ref (u1 0), .ref (u1 1), .ref (u1 2), .ref (u1 3), .ref (u1 4), .ref (u1 5), .ref (u1 6), .ref (u1 7), .ref (u1 8), .ref (u1 9), .int 0, .int 1])), ((u1 9), .inl (y 0, 3, .inl (fun _ => 0))), ((u1 1), .inr (4, [.ref (u1 0), .ref (u1 10), .ref (u1 11), .ref (u1 12), .ref (u1 13), .ref (u1 14), .int 0, .int 0, .int 0, .int 0, .int 0]))] [(qm, .inr (11, [.ref (u2 0), .ref (u2 1), .ref (u2 2), .ref (u2 3), .long 0, .long 1, .ref (u2 4), .ref (u2 5), .ref (u2 6), .ref (u2 7), .ref (u2 8), .int 0, .int 0, .int 0, .int 0, .int 0, .ref (u2 9), .ref (u2 10)])), ((u2 0), .inl (y 0, 228, .inl (fun _ => 0))), ((u2 3), .inl (y 0, 3, .inl (fun _ => 0)))] [0, 2, 1] [3, 4, 5] := ⟨rfl, rfl, rfl, rfl, rfl, by decide⟩
  refine kw_go_i hs1 hP hD hS hA (va_runV (As := []) (rest := []) ⟨hx, hb, hml, hown, hts⟩ (cp_undo l D y qx (u1 0) (u1 1) (u1 2) (u1 3) (u1 4) (u1 5) (u1 6) (u1 7) (u1 8) (u1 9) (u1 10) (u1 11) (u1 12) (u1 13) (u1 14)  _) (cwV 0 hts gL_law_X10_undo rfl rfl rfl (by decide +kernel) ⟨Nat.le_of_ble_eq_true rfl, Nat.le_of_ble_eq_true rfl⟩) (kw_PreV (ci := 10) (q0 := 0) hs1 hP hD hK hN rfl rfl) rfl rfl hl.1 rfl (lv_room (Nat.le_of_ble_eq_true rfl)) dL_law_409 ⟨Nat.le_of_ble_eq_true rfl, Nat.le_of_ble_eq_true rfl⟩) (fun r u H locs hq hP hD hS => ?_)
  have hrr := hq
  obtain rfl : r = (-3) := hrr.trans (by decide)
  have hP : va_P D vwCl [(qm, .inr (11, [.ref (u2 0), .ref (u2 1), .ref (u2 2), .ref (u2 3), .long 0, .long 1, .ref (u2 4), .ref (u2 5), .ref (u2 6), .ref (u2 7), .ref (u2 8), .int 0, .int 0, .int 0, .int 0, .int 0, .ref (u2 9), .ref (u2 10)])), ((u2 0), .inl (y 0, 228, .inl (fun _ => 0))), ((u2 3), .inl (y 0, 3, .inl (fun _ => 0)))] H := hP
  have hD : va_D (fun q : Nat => s.heap.size ≤ q) [(qm, .inr (11, [.ref (u2 0), .ref (u2 1), .ref (u2 2), .ref (u2 3), .long 0, .long 1, .ref (u2 4), .ref (u2 5), .ref (u2 6), .ref (u2 7), .ref (u2 8), .int 0, .int 0, .int 0, .int 0, .int 0, .ref (u2 9), .ref (u2 10)])), ((u2 0), .inl (y 0, 228, .inl (fun _ => 0))), ((u2 3), .inl (y 0, 3, .inl (fun _ => 0)))] := hD
  refine lv_aload_n hx hb dL_law_412 rfl (lv_at hl 1 rfl) ?_
  have hs2 : kw_Split [(qm, .inr (11, [.ref (u2 0), .ref (u2 1), .ref (u2 2), .ref (u2 3), .long 0, .long 1, .ref (u2 4), .ref (u2 5), .ref (u2 6), .ref (u2 7), .ref (u2 8), .int 0, .int 0, .int 0, .int 0, .int 0, .ref (u2 9), .ref (u2 10)])), ((u2 0), .inl (y 0, 228, .inl (fun _ => 0))), ((u2 3), .inl (y 0, 3, .inl (fun _ => 0)))] [(qm, .inr (11, [.ref (u2 0), .ref (u2 1), .ref (u2 2), .ref (u2 3), .long 0, .long 1, .ref (u2 4), .ref (u2 5), .ref (u2 6), .ref (u2 7), .ref (u2 8), .int 0, .int 0, .int 0, .int 0, .int 0, .ref (u2 9), .ref (u2 10)])), ((u2 3), .inl (y 0, 3, .inl (fun _ => 0))), ((u2 0), .inl (y 0, 228, .inl (fun _ => 0)))] [] [0, 2, 1] [] := ⟨rfl, rfl, rfl, rfl, rfl, by decide⟩
  refine kw_go_i hs2 hP hD hS hA (va_runV (As := []) (rest := [.int (-3)]) ⟨hx, hb, hml, hown, hts⟩ (cq_undo l D y qm (u2 0) (u2 1) (u2 2) (u2 3) (u2 4) (u2 5) (u2 6) (u2 7) (u2 8) (u2 9) (u2 10)  _) (cwV 0 hts gL_law_X11_undo rfl rfl rfl (by decide +kernel) ⟨Nat.le_of_ble_eq_true rfl, Nat.le_of_ble_eq_true rfl⟩) (kw_PreV (ci := 11) (q0 := 0) hs2 hP hD hK hN rfl rfl) rfl rfl hl.1 rfl (lv_room (Nat.le_of_ble_eq_true rfl)) dL_law_413 ⟨Nat.le_of_ble_eq_true rfl, Nat.le_of_ble_eq_true rfl⟩) (fun r u H locs hq hP hD hS => ?_)
  have hrr := hq
  obtain rfl : r = (-3) := hrr.trans (by decide)
  have hP : va_P D vwCl [] H := hP
  have hD : va_D (fun q : Nat => s.heap.size ≤ q) [] := hD
  refine lv_icmp_eq (tgt := 1145) hx hb dL_law_416 (by decide) (fun _ => ?_) (fun h9 => absurd h9 (by decide))
  refine lv_iinc (v := 6) (lv' := [(3, .int 6), (2, .ref qm), (1, .ref qx), (0, .ref b)]) hx hb dL_law_1145 hl (k := 0) rfl (by decide) (by decide) rfl (fun ls hl => ?_)
  refine lv_goto (tgt := 18) hx hb dL_law_1148 (by decide) ?_
  refine lv_iload_n hx hb dL_law_18 rfl (lv_at hl 0 rfl) ?_
  refine lv_aload_n hx hb dL_law_19 rfl (lv_at hl 3 rfl) ?_
  refine va_slen hx hb hX hbl hbA hS dL_law_20 ?_
  refine lv_topi (fun z3 hz3 => ?_)
  obtain rfl : z3 = 6 := hz3.trans (by first | rfl | decide | (simp [upd]; done))
  refine lv_bipush (v := 6) hx hb dL_law_21 (by decide) ?_
  refine lv_isub hx hb dL_law_23 ?_
  refine lv_topi (fun z4 hz4 => ?_)
  obtain rfl : z4 = 0 := hz4.trans (by first | rfl | decide | (simp [upd]; done))
  refine lv_icmp_gt (tgt := 1151) hx hb dL_law_24 (by decide) (fun _ => ?_) (fun h9 => absurd h9 (by decide))
  refine lv_iconst (v := 1) hx hb dL_law_1151 (by decide) ?_
  refine va_forget (fun q hq => hS.2.2 q hq) ?_
  refine W.widen (k := 600000) (n := 7302250) (Nat.le_of_ble_eq_true rfl) (Nat.le_of_ble_eq_true rfl) ?_
  exact lw_ret hx hb hr hlocks dL_law_1152

set_option maxHeartbeats 4000000 in
set_option maxRecDepth 100000 in
theorem lw_case11 {p : Program} {e : Env} {s : State} {m : MethodId} {below : List Frame} {meth : Method} {c : Code} (l : Launch) {b : Nat} {xs : Nat → Int32} (C0 : lw_At p s m meth c b 6 xs) {D : va_G} {y : Nat → ClassId} (hK : va_K D vwCl (kw_T y) s) (hN : kw_N s) (u1 u2 : Nat → Nat) (qx qm : Nat) {H : Heap} {locs : List Loc} {ls : Array Slot} (hP : va_P D vwCl (lw_world y u1 u2 qx qm) H) (hD : va_D (fun q : Nat => s.heap.size ≤ q) (lw_world y u1 u2 qx qm)) (hS : va_S (fun q : Nat => s.heap.size ≤ q) s.heap H locs) (hl : lv_has ls 4 [(3, .int 0), (2, .ref qm), (1, .ref qx), (0, .ref b)]) : W p l e room_1 s m #[Value.ref b] below meth c H locs 190 2130 (lw_Z below #[Value.ref b] s) (F0 m 421 ls []) := by
  obtain ⟨hx, hb, hr, hml, hown, hts0, hX, hbl, hlocks, hgv⟩ := id C0
  have hown : s.vm.findClass RL = some m.cls := hown
  have hts : ∀ w ∈ wsL_law, w.before #[Value.ref b] s = true := fun w h => hts0 w (wsL_law_in w h)
  have hA : ∀ q : Nat, s.heap.size ≤ q → (fun q : Nat => s.heap.size ≤ q) q := fun _ h => h
  have hbA : ¬ (fun q : Nat => s.heap.size ≤ q) b := Nat.not_le.mpr hbl
  have hP : va_P D vwCl [(qx, .inr (10, [.ref (u1 0), .ref (u1 1), .ref (u1 2), .ref (u1 3), .ref (u1 4), .ref (u1 5), .ref (u1 6), .ref (u1 7), .ref (u1 8), .ref (u1 9), .int 0, .int 1])), ((u1 1), .inr (4, [.ref (u1 0), .ref (u1 10), .ref (u1 11), .ref (u1 12), .ref (u1 13), .ref (u1 14), .int 0, .int 0, .int 0, .int 0, .int 0])), ((u1 9), .inl (y 0, 3, .inl (fun _ => 0))), (qm, .inr (11, [.ref (u2 0), .ref (u2 1), .ref (u2 2), .ref (u2 3), .long 0, .long 1, .ref (u2 4), .ref (u2 5), .ref (u2 6), .ref (u2 7), .ref (u2 8), .int 0, .int 0, .int 0, .int 0, .int 0, .ref (u2 9), .ref (u2 10)])), ((u2 0), .inl (y 0, 228, .inl (fun _ => 0))), ((u2 3), .inl (y 0, 3, .inl (fun _ => 0)))] H := hP.sub [0, 1, 32, 33, 34, 37] rfl
  have hD : va_D (fun q : Nat => s.heap.size ≤ q) [(qx, .inr (10, [.ref (u1 0), .ref (u1 1), .ref (u1 2), .ref (u1 3), .ref (u1 4), .ref (u1 5), .ref (u1 6), .ref (u1 7), .ref (u1 8), .ref (u1 9), .int 0, .int 1])), ((u1 1), .inr (4, [.ref (u1 0), .ref (u1 10), .ref (u1 11), .ref (u1 12), .ref (u1 13), .ref (u1 14), .int 0, .int 0, .int 0, .int 0, .int 0])), ((u1 9), .inl (y 0, 3, .inl (fun _ => 0))), (qm, .inr (11, [.ref (u2 0), .ref (u2 1), .ref (u2 2), .ref (u2 3), .long 0, .long 1, .ref (u2 4), .ref (u2 5), .ref (u2 6), .ref (u2 7), .ref (u2 8), .int 0, .int 0, .int 0, .int 0, .int 0, .ref (u2 9), .ref (u2 10)])), ((u2 0), .inl (y 0, 228, .inl (fun _ => 0))), ((u2 3), .inl (y 0, 3, .inl (fun _ => 0)))] := hD.sub [0, 1, 32, 33, 34, 37] (by decide) rfl
  refine lv_aload_n hx hb dL_law_421 rfl (lv_at hl 2 rfl) ?_
  refine lv_aload_n hx hb dL_law_422 rfl (lv_at hl 3 rfl) ?_
  refine lv_iload_n hx hb dL_law_423 rfl (lv_at hl 0 rfl) ?_
  refine lv_iconst (v := 1) hx hb dL_law_424 (by decide) ?_
  refine lv_iadd hx hb dL_law_425 ?_
  refine lv_topi (fun z1 hz1 => ?_)
  obtain rfl : z1 = 1 := hz1.trans (by first | rfl | decide | (simp [upd]; done))
  refine va_sld hx hb hX hbl hbA hS (by unfold vp_in; decide) dL_law_426 ?_
  refine lv_aload_n hx hb dL_law_427 rfl (lv_at hl 3 rfl) ?_
  refine lv_iload_n hx hb dL_law_428 rfl (lv_at hl 0 rfl) ?_
  refine lv_iconst (v := 2) hx hb dL_law_429 (by decide) ?_
  refine lv_iadd hx hb dL_law_430 ?_
  refine lv_topi (fun z2 hz2 => ?_)
  obtain rfl : z2 = 2 := hz2.trans (by first | rfl | decide | (simp [upd]; done))
  refine va_sld hx hb hX hbl hbA hS (by unfold vp_in; decide) dL_law_431 ?_
  have hs3 : kw_Split [(qx, .inr (10, [.ref (u1 0), .ref (u1 1), .ref (u1 2), .ref (u1 3), .ref (u1 4), .ref (u1 5), .ref (u1 6), .ref (u1 7), .ref (u1 8), .ref (u1 9), .int 0, .int 1])), ((u1 1), .inr (4, [.ref (u1 0), .ref (u1 10), .ref (u1 11), .ref (u1 12), .ref (u1 13), .ref (u1 14), .int 0, .int 0, .int 0, .int 0, .int 0])), ((u1 9), .inl (y 0, 3, .inl (fun _ => 0))), (qm, .inr (11, [.ref (u2 0), .ref (u2 1), .ref (u2 2), .ref (u2 3), .long 0, .long 1, .ref (u2 4), .ref (u2 5), .ref (u2 6), .ref (u2 7), .ref (u2 8), .int 0, .int 0, .int 0, .int 0, .int 0, .ref (u2 9), .ref (u2 10)])), ((u2 0), .inl (y 0, 228, .inl (fun _ => 0))), ((u2 3), .inl (y 0, 3, .inl (fun _ => 0)))] [(qx, .inr (10, [.ref (u1 0), .ref (u1 1), .ref (u1 2), .ref (u1 3), .ref (u1 4), .ref (u1 5), .ref (u1 6), .ref (u1 7), .ref (u1 8), .ref (u1 9), .int 0, .int 1])), ((u1 9), .inl (y 0, 3, .inl (fun _ => 0))), ((u1 1), .inr (4, [.ref (u1 0), .ref (u1 10), .ref (u1 11), .ref (u1 12), .ref (u1 13), .ref (u1 14), .int 0, .int 0, .int 0, .int 0, .int 0]))] [(qm, .inr (11, [.ref (u2 0), .ref (u2 1), .ref (u2 2), .ref (u2 3), .long 0, .long 1, .ref (u2 4), .ref (u2 5), .ref (u2 6), .ref (u2 7), .ref (u2 8), .int 0, .int 0, .int 0, .int 0, .int 0, .ref (u2 9), .ref (u2 10)])), ((u2 0), .inl (y 0, 228, .inl (fun _ => 0))), ((u2 3), .inl (y 0, 3, .inl (fun _ => 0)))] [0, 2, 1] [3, 4, 5] := ⟨rfl, rfl, rfl, rfl, rfl, by decide⟩
  refine kw_go_i hs3 hP hD hS hA (va_runV (As := [.int (xs (1 : Int32).toNatClampNeg), .int (xs (2 : Int32).toNatClampNeg)]) (rest := []) ⟨hx, hb, hml, hown, hts⟩ (cp_of l D y qx (u1 0) (u1 1) (u1 2) (u1 3) (u1 4) (u1 5) (u1 6) (u1 7) (u1 8) (u1 9) (u1 10) (u1 11) (u1 12) (u1 13) (u1 14) (xs (1 : Int32).toNatClampNeg) (xs (2 : Int32).toNatClampNeg)  _) (cwV 2 hts gL_law_X10_of rfl rfl rfl (by decide +kernel) ⟨Nat.le_of_ble_eq_true rfl, Nat.le_of_ble_eq_true rfl⟩) (kw_PreV (ci := 10) (q0 := 0) hs3 hP hD hK hN rfl rfl) rfl rfl hl.1 rfl (lv_room (Nat.le_of_ble_eq_true rfl)) dL_law_432 ⟨Nat.le_of_ble_eq_true rfl, Nat.le_of_ble_eq_true rfl⟩) (fun r u H locs hq hP hD hS => ?_)
  have hrr := hq
  obtain rfl : r = (-2) := hrr.trans (by decide)
  have hP : va_P D vwCl [(qm, .inr (11, [.ref (u2 0), .ref (u2 1), .ref (u2 2), .ref (u2 3), .long 0, .long 1, .ref (u2 4), .ref (u2 5), .ref (u2 6), .ref (u2 7), .ref (u2 8), .int 0, .int 0, .int 0, .int 0, .int 0, .ref (u2 9), .ref (u2 10)])), ((u2 0), .inl (y 0, 228, .inl (fun _ => 0))), ((u2 3), .inl (y 0, 3, .inl (fun _ => 0)))] H := hP
  have hD : va_D (fun q : Nat => s.heap.size ≤ q) [(qm, .inr (11, [.ref (u2 0), .ref (u2 1), .ref (u2 2), .ref (u2 3), .long 0, .long 1, .ref (u2 4), .ref (u2 5), .ref (u2 6), .ref (u2 7), .ref (u2 8), .int 0, .int 0, .int 0, .int 0, .int 0, .ref (u2 9), .ref (u2 10)])), ((u2 0), .inl (y 0, 228, .inl (fun _ => 0))), ((u2 3), .inl (y 0, 3, .inl (fun _ => 0)))] := hD
  refine lv_aload_n hx hb dL_law_435 rfl (lv_at hl 1 rfl) ?_
  refine lv_aload_n hx hb dL_law_436 rfl (lv_at hl 3 rfl) ?_
  refine lv_iload_n hx hb dL_law_437 rfl (lv_at hl 0 rfl) ?_
  refine lv_iconst (v := 1) hx hb dL_law_438 (by decide) ?_
  refine lv_iadd hx hb dL_law_439 ?_
  refine lv_topi (fun z4 hz4 => ?_)
  obtain rfl : z4 = 1 := hz4.trans (by first | rfl | decide | (simp [upd]; done))
  refine va_sld hx hb hX hbl hbA hS (by unfold vp_in; decide) dL_law_440 ?_
  refine lv_aload_n hx hb dL_law_441 rfl (lv_at hl 3 rfl) ?_
  refine lv_iload_n hx hb dL_law_442 rfl (lv_at hl 0 rfl) ?_
  refine lv_iconst (v := 2) hx hb dL_law_443 (by decide) ?_
  refine lv_iadd hx hb dL_law_444 ?_
  refine lv_topi (fun z5 hz5 => ?_)
  obtain rfl : z5 = 2 := hz5.trans (by first | rfl | decide | (simp [upd]; done))
  refine va_sld hx hb hX hbl hbA hS (by unfold vp_in; decide) dL_law_445 ?_
  have hs6 : kw_Split [(qm, .inr (11, [.ref (u2 0), .ref (u2 1), .ref (u2 2), .ref (u2 3), .long 0, .long 1, .ref (u2 4), .ref (u2 5), .ref (u2 6), .ref (u2 7), .ref (u2 8), .int 0, .int 0, .int 0, .int 0, .int 0, .ref (u2 9), .ref (u2 10)])), ((u2 0), .inl (y 0, 228, .inl (fun _ => 0))), ((u2 3), .inl (y 0, 3, .inl (fun _ => 0)))] [(qm, .inr (11, [.ref (u2 0), .ref (u2 1), .ref (u2 2), .ref (u2 3), .long 0, .long 1, .ref (u2 4), .ref (u2 5), .ref (u2 6), .ref (u2 7), .ref (u2 8), .int 0, .int 0, .int 0, .int 0, .int 0, .ref (u2 9), .ref (u2 10)])), ((u2 3), .inl (y 0, 3, .inl (fun _ => 0))), ((u2 0), .inl (y 0, 228, .inl (fun _ => 0)))] [] [0, 2, 1] [] := ⟨rfl, rfl, rfl, rfl, rfl, by decide⟩
  refine kw_go_i hs6 hP hD hS hA (va_runV (As := [.int (xs (1 : Int32).toNatClampNeg), .int (xs (2 : Int32).toNatClampNeg)]) (rest := [.int (-2)]) ⟨hx, hb, hml, hown, hts⟩ (cq_of l D y qm (u2 0) (u2 1) (u2 2) (u2 3) (u2 4) (u2 5) (u2 6) (u2 7) (u2 8) (u2 9) (u2 10) (xs (1 : Int32).toNatClampNeg) (xs (2 : Int32).toNatClampNeg)  _) (cwV 2 hts gL_law_X11_of rfl rfl rfl (by decide +kernel) ⟨Nat.le_of_ble_eq_true rfl, Nat.le_of_ble_eq_true rfl⟩) (kw_PreV (ci := 11) (q0 := 0) hs6 hP hD hK hN rfl rfl) rfl rfl hl.1 rfl (lv_room (Nat.le_of_ble_eq_true rfl)) dL_law_446 ⟨Nat.le_of_ble_eq_true rfl, Nat.le_of_ble_eq_true rfl⟩) (fun r u H locs hq hP hD hS => ?_)
  have hrr := hq
  obtain rfl : r = (-2) := hrr.trans (by decide)
  have hP : va_P D vwCl [] H := hP
  have hD : va_D (fun q : Nat => s.heap.size ≤ q) [] := hD
  refine lv_icmp_eq (tgt := 1145) hx hb dL_law_449 (by decide) (fun _ => ?_) (fun h9 => absurd h9 (by decide))
  refine lv_iinc (v := 6) (lv' := [(3, .int 6), (2, .ref qm), (1, .ref qx), (0, .ref b)]) hx hb dL_law_1145 hl (k := 0) rfl (by decide) (by decide) rfl (fun ls hl => ?_)
  refine lv_goto (tgt := 18) hx hb dL_law_1148 (by decide) ?_
  refine lv_iload_n hx hb dL_law_18 rfl (lv_at hl 0 rfl) ?_
  refine lv_aload_n hx hb dL_law_19 rfl (lv_at hl 3 rfl) ?_
  refine va_slen hx hb hX hbl hbA hS dL_law_20 ?_
  refine lv_topi (fun z7 hz7 => ?_)
  obtain rfl : z7 = 6 := hz7.trans (by first | rfl | decide | (simp [upd]; done))
  refine lv_bipush (v := 6) hx hb dL_law_21 (by decide) ?_
  refine lv_isub hx hb dL_law_23 ?_
  refine lv_topi (fun z8 hz8 => ?_)
  obtain rfl : z8 = 0 := hz8.trans (by first | rfl | decide | (simp [upd]; done))
  refine lv_icmp_gt (tgt := 1151) hx hb dL_law_24 (by decide) (fun _ => ?_) (fun h9 => absurd h9 (by decide))
  refine lv_iconst (v := 1) hx hb dL_law_1151 (by decide) ?_
  refine va_forget (fun q hq => hS.2.2 q hq) ?_
  refine W.widen (k := 600000) (n := 7302250) (Nat.le_of_ble_eq_true rfl) (Nat.le_of_ble_eq_true rfl) ?_
  exact lw_ret hx hb hr hlocks dL_law_1152

set_option maxHeartbeats 4000000 in
set_option maxRecDepth 100000 in
theorem lw_case12 {p : Program} {e : Env} {s : State} {m : MethodId} {below : List Frame} {meth : Method} {c : Code} (l : Launch) {b : Nat} {xs : Nat → Int32} (C0 : lw_At p s m meth c b 6 xs) {D : va_G} {y : Nat → ClassId} (hK : va_K D vwCl (kw_T y) s) (hN : kw_N s) (u1 u2 : Nat → Nat) (qx qm : Nat) {H : Heap} {locs : List Loc} {ls : Array Slot} (hP : va_P D vwCl (lw_world y u1 u2 qx qm) H) (hD : va_D (fun q : Nat => s.heap.size ≤ q) (lw_world y u1 u2 qx qm)) (hS : va_S (fun q : Nat => s.heap.size ≤ q) s.heap H locs) (hl : lv_has ls 4 [(3, .int 0), (2, .ref qm), (1, .ref qx), (0, .ref b)]) : W p l e room_1 s m #[Value.ref b] below meth c H locs 190 2130 (lw_Z below #[Value.ref b] s) (F0 m 454 ls []) := by
  obtain ⟨hx, hb, hr, hml, hown, hts0, hX, hbl, hlocks, hgv⟩ := id C0
  have hown : s.vm.findClass RL = some m.cls := hown
  have hts : ∀ w ∈ wsL_law, w.before #[Value.ref b] s = true := fun w h => hts0 w (wsL_law_in w h)
  have hA : ∀ q : Nat, s.heap.size ≤ q → (fun q : Nat => s.heap.size ≤ q) q := fun _ h => h
  have hbA : ¬ (fun q : Nat => s.heap.size ≤ q) b := Nat.not_le.mpr hbl
  have hP : va_P D vwCl [(qx, .inr (10, [.ref (u1 0), .ref (u1 1), .ref (u1 2), .ref (u1 3), .ref (u1 4), .ref (u1 5), .ref (u1 6), .ref (u1 7), .ref (u1 8), .ref (u1 9), .int 0, .int 1])), ((u1 1), .inr (4, [.ref (u1 0), .ref (u1 10), .ref (u1 11), .ref (u1 12), .ref (u1 13), .ref (u1 14), .int 0, .int 0, .int 0, .int 0, .int 0])), ((u1 9), .inl (y 0, 3, .inl (fun _ => 0))), (qm, .inr (11, [.ref (u2 0), .ref (u2 1), .ref (u2 2), .ref (u2 3), .long 0, .long 1, .ref (u2 4), .ref (u2 5), .ref (u2 6), .ref (u2 7), .ref (u2 8), .int 0, .int 0, .int 0, .int 0, .int 0, .ref (u2 9), .ref (u2 10)])), ((u2 0), .inl (y 0, 228, .inl (fun _ => 0))), ((u2 3), .inl (y 0, 3, .inl (fun _ => 0)))] H := hP.sub [0, 1, 32, 33, 34, 37] rfl
  have hD : va_D (fun q : Nat => s.heap.size ≤ q) [(qx, .inr (10, [.ref (u1 0), .ref (u1 1), .ref (u1 2), .ref (u1 3), .ref (u1 4), .ref (u1 5), .ref (u1 6), .ref (u1 7), .ref (u1 8), .ref (u1 9), .int 0, .int 1])), ((u1 1), .inr (4, [.ref (u1 0), .ref (u1 10), .ref (u1 11), .ref (u1 12), .ref (u1 13), .ref (u1 14), .int 0, .int 0, .int 0, .int 0, .int 0])), ((u1 9), .inl (y 0, 3, .inl (fun _ => 0))), (qm, .inr (11, [.ref (u2 0), .ref (u2 1), .ref (u2 2), .ref (u2 3), .long 0, .long 1, .ref (u2 4), .ref (u2 5), .ref (u2 6), .ref (u2 7), .ref (u2 8), .int 0, .int 0, .int 0, .int 0, .int 0, .ref (u2 9), .ref (u2 10)])), ((u2 0), .inl (y 0, 228, .inl (fun _ => 0))), ((u2 3), .inl (y 0, 3, .inl (fun _ => 0)))] := hD.sub [0, 1, 32, 33, 34, 37] (by decide) rfl
  refine lv_aload_n hx hb dL_law_454 rfl (lv_at hl 2 rfl) ?_
  refine lv_aload_n hx hb dL_law_455 rfl (lv_at hl 3 rfl) ?_
  refine lv_iload_n hx hb dL_law_456 rfl (lv_at hl 0 rfl) ?_
  refine lv_iconst (v := 1) hx hb dL_law_457 (by decide) ?_
  refine lv_iadd hx hb dL_law_458 ?_
  refine lv_topi (fun z1 hz1 => ?_)
  obtain rfl : z1 = 1 := hz1.trans (by first | rfl | decide | (simp [upd]; done))
  refine va_sld hx hb hX hbl hbA hS (by unfold vp_in; decide) dL_law_459 ?_
  refine lv_aload_n hx hb dL_law_460 rfl (lv_at hl 3 rfl) ?_
  refine lv_iload_n hx hb dL_law_461 rfl (lv_at hl 0 rfl) ?_
  refine lv_iconst (v := 2) hx hb dL_law_462 (by decide) ?_
  refine lv_iadd hx hb dL_law_463 ?_
  refine lv_topi (fun z2 hz2 => ?_)
  obtain rfl : z2 = 2 := hz2.trans (by first | rfl | decide | (simp [upd]; done))
  refine va_sld hx hb hX hbl hbA hS (by unfold vp_in; decide) dL_law_464 ?_
  have hs3 : kw_Split [(qx, .inr (10, [.ref (u1 0), .ref (u1 1), .ref (u1 2), .ref (u1 3), .ref (u1 4), .ref (u1 5), .ref (u1 6), .ref (u1 7), .ref (u1 8), .ref (u1 9), .int 0, .int 1])), ((u1 1), .inr (4, [.ref (u1 0), .ref (u1 10), .ref (u1 11), .ref (u1 12), .ref (u1 13), .ref (u1 14), .int 0, .int 0, .int 0, .int 0, .int 0])), ((u1 9), .inl (y 0, 3, .inl (fun _ => 0))), (qm, .inr (11, [.ref (u2 0), .ref (u2 1), .ref (u2 2), .ref (u2 3), .long 0, .long 1, .ref (u2 4), .ref (u2 5), .ref (u2 6), .ref (u2 7), .ref (u2 8), .int 0, .int 0, .int 0, .int 0, .int 0, .ref (u2 9), .ref (u2 10)])), ((u2 0), .inl (y 0, 228, .inl (fun _ => 0))), ((u2 3), .inl (y 0, 3, .inl (fun _ => 0)))] [(qx, .inr (10, [.ref (u1 0), .ref (u1 1), .ref (u1 2), .ref (u1 3), .ref (u1 4), .ref (u1 5), .ref (u1 6), .ref (u1 7), .ref (u1 8), .ref (u1 9), .int 0, .int 1])), ((u1 9), .inl (y 0, 3, .inl (fun _ => 0))), ((u1 1), .inr (4, [.ref (u1 0), .ref (u1 10), .ref (u1 11), .ref (u1 12), .ref (u1 13), .ref (u1 14), .int 0, .int 0, .int 0, .int 0, .int 0]))] [(qm, .inr (11, [.ref (u2 0), .ref (u2 1), .ref (u2 2), .ref (u2 3), .long 0, .long 1, .ref (u2 4), .ref (u2 5), .ref (u2 6), .ref (u2 7), .ref (u2 8), .int 0, .int 0, .int 0, .int 0, .int 0, .ref (u2 9), .ref (u2 10)])), ((u2 0), .inl (y 0, 228, .inl (fun _ => 0))), ((u2 3), .inl (y 0, 3, .inl (fun _ => 0)))] [0, 2, 1] [3, 4, 5] := ⟨rfl, rfl, rfl, rfl, rfl, by decide⟩
  refine kw_go_i hs3 hP hD hS hA (va_runV (As := [.int (xs (1 : Int32).toNatClampNeg), .int (xs (2 : Int32).toNatClampNeg)]) (rest := []) ⟨hx, hb, hml, hown, hts⟩ (cp_about l D y qx (u1 0) (u1 1) (u1 2) (u1 3) (u1 4) (u1 5) (u1 6) (u1 7) (u1 8) (u1 9) (u1 10) (u1 11) (u1 12) (u1 13) (u1 14) (xs (1 : Int32).toNatClampNeg) (xs (2 : Int32).toNatClampNeg)  _) (cwV 2 hts gL_law_X10_about rfl rfl rfl (by decide +kernel) ⟨Nat.le_of_ble_eq_true rfl, Nat.le_of_ble_eq_true rfl⟩) (kw_PreV (ci := 10) (q0 := 0) hs3 hP hD hK hN rfl rfl) rfl rfl hl.1 rfl (lv_room (Nat.le_of_ble_eq_true rfl)) dL_law_465 ⟨Nat.le_of_ble_eq_true rfl, Nat.le_of_ble_eq_true rfl⟩) (fun r u H locs hq hP hD hS => ?_)
  have hrr := hq
  obtain rfl : r = (-2) := hrr.trans (by decide)
  have hP : va_P D vwCl [(qm, .inr (11, [.ref (u2 0), .ref (u2 1), .ref (u2 2), .ref (u2 3), .long 0, .long 1, .ref (u2 4), .ref (u2 5), .ref (u2 6), .ref (u2 7), .ref (u2 8), .int 0, .int 0, .int 0, .int 0, .int 0, .ref (u2 9), .ref (u2 10)])), ((u2 0), .inl (y 0, 228, .inl (fun _ => 0))), ((u2 3), .inl (y 0, 3, .inl (fun _ => 0)))] H := hP
  have hD : va_D (fun q : Nat => s.heap.size ≤ q) [(qm, .inr (11, [.ref (u2 0), .ref (u2 1), .ref (u2 2), .ref (u2 3), .long 0, .long 1, .ref (u2 4), .ref (u2 5), .ref (u2 6), .ref (u2 7), .ref (u2 8), .int 0, .int 0, .int 0, .int 0, .int 0, .ref (u2 9), .ref (u2 10)])), ((u2 0), .inl (y 0, 228, .inl (fun _ => 0))), ((u2 3), .inl (y 0, 3, .inl (fun _ => 0)))] := hD
  refine lv_aload_n hx hb dL_law_468 rfl (lv_at hl 1 rfl) ?_
  refine lv_aload_n hx hb dL_law_469 rfl (lv_at hl 3 rfl) ?_
  refine lv_iload_n hx hb dL_law_470 rfl (lv_at hl 0 rfl) ?_
  refine lv_iconst (v := 1) hx hb dL_law_471 (by decide) ?_
  refine lv_iadd hx hb dL_law_472 ?_
  refine lv_topi (fun z4 hz4 => ?_)
  obtain rfl : z4 = 1 := hz4.trans (by first | rfl | decide | (simp [upd]; done))
  refine va_sld hx hb hX hbl hbA hS (by unfold vp_in; decide) dL_law_473 ?_
  refine lv_aload_n hx hb dL_law_474 rfl (lv_at hl 3 rfl) ?_
  refine lv_iload_n hx hb dL_law_475 rfl (lv_at hl 0 rfl) ?_
  refine lv_iconst (v := 2) hx hb dL_law_476 (by decide) ?_
  refine lv_iadd hx hb dL_law_477 ?_
  refine lv_topi (fun z5 hz5 => ?_)
  obtain rfl : z5 = 2 := hz5.trans (by first | rfl | decide | (simp [upd]; done))
  refine va_sld hx hb hX hbl hbA hS (by unfold vp_in; decide) dL_law_478 ?_
  have hs6 : kw_Split [(qm, .inr (11, [.ref (u2 0), .ref (u2 1), .ref (u2 2), .ref (u2 3), .long 0, .long 1, .ref (u2 4), .ref (u2 5), .ref (u2 6), .ref (u2 7), .ref (u2 8), .int 0, .int 0, .int 0, .int 0, .int 0, .ref (u2 9), .ref (u2 10)])), ((u2 0), .inl (y 0, 228, .inl (fun _ => 0))), ((u2 3), .inl (y 0, 3, .inl (fun _ => 0)))] [(qm, .inr (11, [.ref (u2 0), .ref (u2 1), .ref (u2 2), .ref (u2 3), .long 0, .long 1, .ref (u2 4), .ref (u2 5), .ref (u2 6), .ref (u2 7), .ref (u2 8), .int 0, .int 0, .int 0, .int 0, .int 0, .ref (u2 9), .ref (u2 10)])), ((u2 3), .inl (y 0, 3, .inl (fun _ => 0))), ((u2 0), .inl (y 0, 228, .inl (fun _ => 0)))] [] [0, 2, 1] [] := ⟨rfl, rfl, rfl, rfl, rfl, by decide⟩
  refine kw_go_i hs6 hP hD hS hA (va_runV (As := [.int (xs (1 : Int32).toNatClampNeg), .int (xs (2 : Int32).toNatClampNeg)]) (rest := [.int (-2)]) ⟨hx, hb, hml, hown, hts⟩ (cq_about l D y qm (u2 0) (u2 1) (u2 2) (u2 3) (u2 4) (u2 5) (u2 6) (u2 7) (u2 8) (u2 9) (u2 10) (xs (1 : Int32).toNatClampNeg) (xs (2 : Int32).toNatClampNeg)  _) (cwV 2 hts gL_law_X11_about rfl rfl rfl (by decide +kernel) ⟨Nat.le_of_ble_eq_true rfl, Nat.le_of_ble_eq_true rfl⟩) (kw_PreV (ci := 11) (q0 := 0) hs6 hP hD hK hN rfl rfl) rfl rfl hl.1 rfl (lv_room (Nat.le_of_ble_eq_true rfl)) dL_law_479 ⟨Nat.le_of_ble_eq_true rfl, Nat.le_of_ble_eq_true rfl⟩) (fun r u H locs hq hP hD hS => ?_)
  have hrr := hq
  obtain rfl : r = (-2) := hrr.trans (by decide)
  have hP : va_P D vwCl [] H := hP
  have hD : va_D (fun q : Nat => s.heap.size ≤ q) [] := hD
  refine lv_icmp_eq (tgt := 1145) hx hb dL_law_482 (by decide) (fun _ => ?_) (fun h9 => absurd h9 (by decide))
  refine lv_iinc (v := 6) (lv' := [(3, .int 6), (2, .ref qm), (1, .ref qx), (0, .ref b)]) hx hb dL_law_1145 hl (k := 0) rfl (by decide) (by decide) rfl (fun ls hl => ?_)
  refine lv_goto (tgt := 18) hx hb dL_law_1148 (by decide) ?_
  refine lv_iload_n hx hb dL_law_18 rfl (lv_at hl 0 rfl) ?_
  refine lv_aload_n hx hb dL_law_19 rfl (lv_at hl 3 rfl) ?_
  refine va_slen hx hb hX hbl hbA hS dL_law_20 ?_
  refine lv_topi (fun z7 hz7 => ?_)
  obtain rfl : z7 = 6 := hz7.trans (by first | rfl | decide | (simp [upd]; done))
  refine lv_bipush (v := 6) hx hb dL_law_21 (by decide) ?_
  refine lv_isub hx hb dL_law_23 ?_
  refine lv_topi (fun z8 hz8 => ?_)
  obtain rfl : z8 = 0 := hz8.trans (by first | rfl | decide | (simp [upd]; done))
  refine lv_icmp_gt (tgt := 1151) hx hb dL_law_24 (by decide) (fun _ => ?_) (fun h9 => absurd h9 (by decide))
  refine lv_iconst (v := 1) hx hb dL_law_1151 (by decide) ?_
  refine va_forget (fun q hq => hS.2.2 q hq) ?_
  refine W.widen (k := 600000) (n := 7302250) (Nat.le_of_ble_eq_true rfl) (Nat.le_of_ble_eq_true rfl) ?_
  exact lw_ret hx hb hr hlocks dL_law_1152
