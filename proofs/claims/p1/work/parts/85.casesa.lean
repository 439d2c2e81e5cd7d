set_option maxHeartbeats 4000000 in
set_option maxRecDepth 100000 in
theorem lw_case0 {p : Program} {e : Env} {s : State} {m : MethodId} {below : List Frame} {meth : Method} {c : Code} (l : Launch) {b : Nat} {xs : Nat → Int32} (C0 : lw_At p s m meth c b 6 xs) {D : va_G} {y : Nat → ClassId} (hK : va_K D vwCl (kw_T y) s) (hN : kw_N s) (u1 u2 : Nat → Nat) (qx qm : Nat) {H : Heap} {locs : List Loc} {ls : Array Slot} (hP : va_P D vwCl (lw_world y u1 u2 qx qm) H) (hD : va_D (fun q : Nat => s.heap.size ≤ q) (lw_world y u1 u2 qx qm)) (hS : va_S (fun q : Nat => s.heap.size ≤ q) s.heap H locs) (hl : lv_has ls 4 [(3, .int 0), (2, .ref qm), (1, .ref qx), (0, .ref b)]) : W p l e room_1 s m #[Value.ref b] below meth c H locs 190 2130 (lw_Z below #[Value.ref b] s) (F0 m 188 ls []) := by
  obtain ⟨hx, hb, hr, hml, hown, hts0, hX, hbl, hlocks, hgv⟩ := id C0
  have hown : s.vm.findClass RL = some m.cls := hown
  have hts : ∀ w ∈ wsL_law, w.before #[Value.ref b] s = true := fun w h => hts0 w (wsL_law_in w h)
  have hA : ∀ q : Nat, s.heap.size ≤ q → (fun q : Nat => s.heap.size ≤ q) q := fun _ h => h
  have hbA : ¬ (fun q : Nat => s.heap.size ≤ q) b := Nat.not_le.mpr hbl
  have hP : va_P D vwCl [(qx, .inr (10, [.ref (u1 0), .ref (u1 1), .ref (u1 2), .ref (u1 3), .ref (u1 4), .ref (u1 5), .ref (u1 6), .ref (u1 7), .ref (u1 8), .ref (u1 9), .int 0, .int 1])), ((u1 1), .inr (4, [.ref (u1 0), .ref (u1 10), .ref (u1 11), .ref (u1 12), .ref (u1 13), .ref (u1 14), .int 0, .int 0, .int 0, .int 0, .int 0])), ((u1 11), .inr (1, [.ref (u1 15), .ref (u1 16), .ref (u1 17), .int 0, .int 0, .int 0])), ((u1 9), .inl (y 0, 3, .inl (fun _ => 0))), (qm, .inr (11, [.ref (u2 0), .ref (u2 1), .ref (u2 2), .ref (u2 3), .long 0, .long 1, .ref (u2 4), .ref (u2 5), .ref (u2 6), .ref (u2 7), .ref (u2 8), .int 0, .int 0, .int 0, .int 0, .int 0, .ref (u2 9), .ref (u2 10)])), ((u2 0), .inl (y 0, 228, .inl (fun _ => 0))), ((u2 3), .inl (y 0, 3, .inl (fun _ => 0)))] H := hP.sub [0, 1, 3, 32, 33, 34, 37] rfl
  have hD : va_D (fun q : Nat => s.heap.size ≤ q) [(qx, .inr (10, [.ref (u1 0), .ref (u1 1), .ref (u1 2), .ref (u1 3), .ref (u1 4), .ref (u1 5), .ref (u1 6), .ref (u1 7), .ref (u1 8), .ref (u1 9), .int 0, .int 1])), ((u1 1), .inr (4, [.ref (u1 0), .ref (u1 10), .ref (u1 11), .ref (u1 12), .ref (u1 13), .ref (u1 14), .int 0, .int 0, .int 0, .int 0, .int 0])), ((u1 11), .inr (1, [.ref (u1 15), .ref (u1 16), .ref (u1 17), .int 0, .int 0, .int 0])), ((u1 9), .inl (y 0, 3, .inl (fun _ => 0))), (qm, .inr (11, [.ref (u2 0), .ref (u2 1), .ref (u2 2), .ref (u2 3), .long 0, .long 1, .ref (u2 4), .ref (u2 5), .ref (u2 6), .ref (u2 7), .ref (u2 8), .int 0, .int 0, .int 0, .int 0, .int 0, .ref (u2 9), .ref (u2 10)])), ((u2 0), .inl (y 0, 228, .inl (fun _ => 0))), ((u2 3), .inl (y 0, 3, .inl (fun _ => 0)))] := hD.sub [0, 1, 3, 32, 33, 34, 37] (by decide) rfl
  refine lv_aload_n hx hb dL_law_188 rfl (lv_at hl 2 rfl) ?_
  refine lv_aload_n hx hb dL_law_189 rfl (lv_at hl 3 rfl) ?_
  refine lv_iload_n hx hb dL_law_190 rfl (lv_at hl 0 rfl) ?_
  refine lv_iconst (v := 1) hx hb dL_law_191 (by decide) ?_
  refine lv_iadd hx hb dL_law_192 ?_
  refine lv_topi (fun z1 hz1 => ?_)
  obtain rfl : z1 = 1 := hz1.trans (by first | rfl | decide | (simp [upd]; done))
  refine va_sld hx hb hX hbl hbA hS (by unfold vp_in; decide) dL_law_193 ?_
  have hs2 : kw_Split [(qx, .inr (10, [.ref (u1 0), .ref (u1 1), .ref (u1 2), .ref (u1 3), .ref (u1 4), .ref (u1 5), .ref (u1 6), .ref (u1 7), .ref (u1 8), .ref (u1 9), .int 0, .int 1])), ((u1 1), .inr (4, [.ref (u1 0), .ref (u1 10), .ref (u1 11), .ref (u1 12), .ref (u1 13), .ref (u1 14), .int 0, .int 0, .int 0, .int 0, .int 0])), ((u1 11), .inr (1, [.ref (u1 15), .ref (u1 16), .ref (u1 17), .int 0, .int 0, .int 0])), ((u1 9), .inl (y 0, 3, .inl (fun _ => 0))), (qm, .inr (11, [.ref (u2 0), .ref (u2 1), .ref (u2 2), .ref (u2 3), .long 0, .long 1, .ref (u2 4), .ref (u2 5), .ref (u2 6), .ref (u2 7), .ref (u2 8), .int 0, .int 0, .int 0, .int 0, .int 0, .ref (u2 9), .ref (u2 10)])), ((u2 0), .inl (y 0, 228, .inl (fun _ => 0))), ((u2 3), .inl (y 0, 3, .inl (fun _ => 0)))] [(qx, .inr (10, [.ref (u1 0), .ref (u1 1), .ref (u1 2), .ref (u1 3), .ref (u1 4), .ref (u1 5), .ref (u1 6), .ref (u1 7), .ref (u1 8), .ref (u1 9), .int 0, .int 1])), ((u1 9), .inl (y 0, 3, .inl (fun _ => 0))), ((u1 1), .inr (4, [.ref (u1 0), .ref (u1 10), .ref (u1 11), .ref (u1 12), .ref (u1 13), .ref (u1 14), .int 0, .int 0, .int 0, .int 0, .int 0])), ((u1 11), .inr (1, [.ref (u1 15), .ref (u1 16), .ref (u1 17), .int 0, .int 0, .int 0]))] [(qm, .inr (11, [.ref (u2 0), .ref (u2 1), .ref (u2 2), .ref (u2 3), .long 0, .long 1, .ref (u2 4), .ref (u2 5), .ref (u2 6), .ref (u2 7), .ref (u2 8), .int 0, .int 0, .int 0, .int 0, .int 0, .ref (u2 9), .ref (u2 10)])), ((u2 0), .inl (y 0, 228, .inl (fun _ => 0))), ((u2 3), .inl (y 0, 3, .inl (fun _ => 0)))] [0, 3, 1, 2] [4, 5, 6] := ⟨rfl, rfl, rfl, rfl, rfl, by decide⟩
  refine kw_go_i hs2 hP hD hS hA (va_runV (As := [.int (xs (1 : Int32).toNatClampNeg)]) (rest := []) ⟨hx, hb, hml, hown, hts⟩ (cp_parish l D y qx (u1 0) (u1 1) (u1 2) (u1 3) (u1 4) (u1 5) (u1 6) (u1 7) (u1 8) (u1 9) (u1 10) (u1 11) (u1 12) (u1 13) (u1 14) (u1 15) (u1 16) (u1 17) (xs (1 : Int32).toNatClampNeg)  _) (cwV 1 hts gL_law_X10_parish rfl rfl rfl (by decide +kernel) ⟨Nat.le_of_ble_eq_true rfl, Nat.le_of_ble_eq_true rfl⟩) (kw_PreV (ci := 10) (q0 := 0) hs2 hP hD hK hN rfl rfl) rfl rfl hl.1 rfl (lv_room (Nat.le_of_ble_eq_true rfl)) dL_law_194 ⟨Nat.le_of_ble_eq_true rfl, Nat.le_of_ble_eq_true rfl⟩) (fun r u H locs hq hP hD hS => ?_)
  obtain rfl := hq
  have hP : va_P D vwCl [(qm, .inr (11, [.ref (u2 0), .ref (u2 1), .ref (u2 2), .ref (u2 3), .long 0, .long 1, .ref (u2 4), .ref (u2 5), .ref (u2 6), .ref (u2 7), .ref (u2 8), .int 0, .int 0, .int 0, .int 0, .int 0, .ref (u2 9), .ref (u2 10)])), ((u2 0), .inl (y 0, 228, .inl (fun _ => 0))), ((u2 3), .inl (y 0, 3, .inl (fun _ => 0)))] H := hP
  have hD : va_D (fun q : Nat => s.heap.size ≤ q) [(qm, .inr (11, [.ref (u2 0), .ref (u2 1), .ref (u2 2), .ref (u2 3), .long 0, .long 1, .ref (u2 4), .ref (u2 5), .ref (u2 6), .ref (u2 7), .ref (u2 8), .int 0, .int 0, .int 0, .int 0, .int 0, .ref (u2 9), .ref (u2 10)])), ((u2 0), .inl (y 0, 228, .inl (fun _ => 0))), ((u2 3), .inl (y 0, 3, .inl (fun _ => 0)))] := hD
  refine lv_aload_n hx hb dL_law_197 rfl (lv_at hl 1 rfl) ?_
  refine lv_aload_n hx hb dL_law_198 rfl (lv_at hl 3 rfl) ?_
  refine lv_iload_n hx hb dL_law_199 rfl (lv_at hl 0 rfl) ?_
  refine lv_iconst (v := 1) hx hb dL_law_200 (by decide) ?_
  refine lv_iadd hx hb dL_law_201 ?_
  refine lv_topi (fun z3 hz3 => ?_)
  obtain rfl : z3 = 1 := hz3.trans (by first | rfl | decide | (simp [upd]; done))
  refine va_sld hx hb hX hbl hbA hS (by unfold vp_in; decide) dL_law_202 ?_
  have hs4 : kw_Split [(qm, .inr (11, [.ref (u2 0), .ref (u2 1), .ref (u2 2), .ref (u2 3), .long 0, .long 1, .ref (u2 4), .ref (u2 5), .ref (u2 6), .ref (u2 7), .ref (u2 8), .int 0, .int 0, .int 0, .int 0, .int 0, .ref (u2 9), .ref (u2 10)])), ((u2 0), .inl (y 0, 228, .inl (fun _ => 0))), ((u2 3), .inl (y 0, 3, .inl (fun _ => 0)))] [(qm, .inr (11, [.ref (u2 0), .ref (u2 1), .ref (u2 2), .ref (u2 3), .long 0, .long 1, .ref (u2 4), .ref (u2 5), .ref (u2 6), .ref (u2 7), .ref (u2 8), .int 0, .int 0, .int 0, .int 0, .int 0, .ref (u2 9), .ref (u2 10)])), ((u2 3), .inl (y 0, 3, .inl (fun _ => 0))), ((u2 0), .inl (y 0, 228, .inl (fun _ => 0)))] [] [0, 2, 1] [] := ⟨rfl, rfl, rfl, rfl, rfl, by decide⟩
  refine kw_go_i hs4 hP hD hS hA (va_runV (As := [.int (xs (1 : Int32).toNatClampNeg)]) (rest := [.int (sp_parish (xs (1 : Int32).toNatClampNeg))]) ⟨hx, hb, hml, hown, hts⟩ (cq_parish l D y qm (u2 0) (u2 1) (u2 2) (u2 3) (u2 4) (u2 5) (u2 6) (u2 7) (u2 8) (u2 9) (u2 10) (xs (1 : Int32).toNatClampNeg)  _) (cwV 1 hts gL_law_X11_parish rfl rfl rfl (by decide +kernel) ⟨Nat.le_of_ble_eq_true rfl, Nat.le_of_ble_eq_true rfl⟩) (kw_PreV (ci := 11) (q0 := 0) hs4 hP hD hK hN rfl rfl) rfl rfl hl.1 rfl (lv_room (Nat.le_of_ble_eq_true rfl)) dL_law_203 ⟨Nat.le_of_ble_eq_true rfl, Nat.le_of_ble_eq_true rfl⟩) (fun r u H locs hq hP hD hS => ?_)
  obtain rfl := hq
  have hP : va_P D vwCl [] H := hP
  have hD : va_D (fun q : Nat => s.heap.size ≤ q) [] := hD
  refine lv_icmp_eq (tgt := 1145) hx hb dL_law_206 (by decide) (fun _ => ?_) (fun h9 => absurd rfl h9)
  refine lv_iinc (v := 6) (lv' := [(3, .int 6), (2, .ref qm), (1, .ref qx), (0, .ref b)]) hx hb dL_law_1145 hl (k := 0) rfl (by decide) (by decide) rfl (fun ls hl => ?_)
  refine lv_goto (tgt := 18) hx hb dL_law_1148 (by decide) ?_
  refine lv_iload_n hx hb dL_law_18 rfl (lv_at hl 0 rfl) ?_
  refine lv_aload_n hx hb dL_law_19 rfl (lv_at hl 3 rfl) ?_
  refine va_slen hx hb hX hbl hbA hS dL_law_20 ?_
  refine lv_topi (fun z5 hz5 => ?_)
  obtain rfl : z5 = 6 := hz5.trans (by first | rfl | decide | (simp [upd]; done))
  refine lv_bipush (v := 6) hx hb dL_law_21 (by decide) ?_
  refine lv_isub hx hb dL_law_23 ?_
  refine lv_topi (fun z6 hz6 => ?_)
  obtain rfl : z6 = 0 := hz6.trans (by first | rfl | decide | (simp [upd]; done))
  refine lv_icmp_gt (tgt := 1151) hx hb dL_law_24 (by decide) (fun _ => ?_) (fun h9 => absurd h9 (by decide))
  refine lv_iconst (v := 1) hx hb dL_law_1151 (by decide) ?_
  refine va_forget (fun q hq => hS.2.2 q hq) ?_
  refine W.widen (k := 600000) (n := 7302250) (Nat.le_of_ble_eq_true rfl) (Nat.le_of_ble_eq_true rfl) ?_
  exact lw_ret hx hb hr hlocks dL_law_1152

set_option maxHeartbeats 4000000 in
set_option maxRecDepth 100000 in
theorem lw_case1 {p : Program} {e : Env} {s : State} {m : MethodId} {below : List Frame} {meth : Method} {c : Code} (l : Launch) {b : Nat} {xs : Nat → Int32} (C0 : lw_At p s m meth c b 6 xs) {D : va_G} {y : Nat → ClassId} (hK : va_K D vwCl (kw_T y) s) (hN : kw_N s) (u1 u2 : Nat → Nat) (qx qm : Nat) {H : Heap} {locs : List Loc} {ls : Array Slot} (hP : va_P D vwCl (lw_world y u1 u2 qx qm) H) (hD : va_D (fun q : Nat => s.heap.size ≤ q) (lw_world y u1 u2 qx qm)) (hS : va_S (fun q : Nat => s.heap.size ≤ q) s.heap H locs) (hl : lv_has ls 4 [(3, .int 0), (2, .ref qm), (1, .ref qx), (0, .ref b)]) : W p l e room_1 s m #[Value.ref b] below meth c H locs 190 2130 (lw_Z below #[Value.ref b] s) (F0 m 211 ls []) := by
  obtain ⟨hx, hb, hr, hml, hown, hts0, hX, hbl, hlocks, hgv⟩ := id C0
  have hown : s.vm.findClass RL = some m.cls := hown
  have hts : ∀ w ∈ wsL_law, w.before #[Value.ref b] s = true := fun w h => hts0 w (wsL_law_in w h)
  have hA : ∀ q : Nat, s.heap.size ≤ q → (fun q : Nat => s.heap.size ≤ q) q := fun _ h => h
  have hbA : ¬ (fun q : Nat => s.heap.size ≤ q) b := Nat.not_le.mpr hbl
  have hP : va_P D vwCl [(qx, .inr (10, [.ref (u1 0), .ref (u1 1), .ref (u1 2), .ref (u1 3), .ref (u1 4), .ref (u1 5), .ref (u1 6), .ref (u1 7), .ref (u1 8), .ref (u1 9), .int 0, .int 1])), ((u1 1), .inr (4, [.ref (u1 0), .ref (u1 10), .ref (u1 11), .ref (u1 12), .ref (u1 13), .ref (u1 14), .int 0, .int 0, .int 0, .int 0, .int 0])), ((u1 10), .inl (y 0, 6, .inl (fun _ => 0))), ((u1 11), .inr (1, [.ref (u1 15), .ref (u1 16), .ref (u1 17), .int 0, .int 0, .int 0])), ((u1 15), .inl (y 0, 6, .inl (fun _ => 0))), ((u1 9), .inl (y 0, 3, .inl (fun _ => 0))), (qm, .inr (11, [.ref (u2 0), .ref (u2 1), .ref (u2 2), .ref (u2 3), .long 0, .long 1, .ref (u2 4), .ref (u2 5), .ref (u2 6), .ref (u2 7), .ref (u2 8), .int 0, .int 0, .int 0, .int 0, .int 0, .ref (u2 9), .ref (u2 10)])), ((u2 0), .inl (y 0, 228, .inl (fun _ => 0))), ((u2 3), .inl (y 0, 3, .inl (fun _ => 0)))] H := hP.sub [0, 1, 2, 3, 4, 32, 33, 34, 37] rfl
  have hD : va_D (fun q : Nat => s.heap.size ≤ q) [(qx, .inr (10, [.ref (u1 0), .ref (u1 1), .ref (u1 2), .ref (u1 3), .ref (u1 4), .ref (u1 5), .ref (u1 6), .ref (u1 7), .ref (u1 8), .ref (u1 9), .int 0, .int 1])), ((u1 1), .inr (4, [.ref (u1 0), .ref (u1 10), .ref (u1 11), .ref (u1 12), .ref (u1 13), .ref (u1 14), .int 0, .int 0, .int 0, .int 0, .int 0])), ((u1 10), .inl (y 0, 6, .inl (fun _ => 0))), ((u1 11), .inr (1, [.ref (u1 15), .ref (u1 16), .ref (u1 17), .int 0, .int 0, .int 0])), ((u1 15), .inl (y 0, 6, .inl (fun _ => 0))), ((u1 9), .inl (y 0, 3, .inl (fun _ => 0))), (qm, .inr (11, [.ref (u2 0), .ref (u2 1), .ref (u2 2), .ref (u2 3), .long 0, .long 1, .ref (u2 4), .ref (u2 5), .ref (u2 6), .ref (u2 7), .ref (u2 8), .int 0, .int 0, .int 0, .int 0, .int 0, .ref (u2 9), .ref (u2 10)])), ((u2 0), .inl (y 0, 228, .inl (fun _ => 0))), ((u2 3), .inl (y 0, 3, .inl (fun _ => 0)))] := hD.sub [0, 1, 2, 3, 4, 32, 33, 34, 37] (by decide) rfl
  refine lv_aload_n hx hb dL_law_211 rfl (lv_at hl 2 rfl) ?_
  refine lv_aload_n hx hb dL_law_212 rfl (lv_at hl 3 rfl) ?_
  refine lv_iload_n hx hb dL_law_213 rfl (lv_at hl 0 rfl) ?_
  refine lv_iconst (v := 1) hx hb dL_law_214 (by decide) ?_
  refine lv_iadd hx hb dL_law_215 ?_
  refine lv_topi (fun z1 hz1 => ?_)
  obtain rfl : z1 = 1 := hz1.trans (by first | rfl | decide | (simp [upd]; done))
  refine va_sld hx hb hX hbl hbA hS (by unfold vp_in; decide) dL_law_216 ?_
  refine lv_aload_n hx hb dL_law_217 rfl (lv_at hl 3 rfl) ?_
  refine lv_iload_n hx hb dL_law_218 rfl (lv_at hl 0 rfl) ?_
  refine lv_iconst (v := 2) hx hb dL_law_219 (by decide) ?_
  refine lv_iadd hx hb dL_law_220 ?_
  refine lv_topi (fun z2 hz2 => ?_)
  obtain rfl : z2 = 2 := hz2.trans (by first | rfl | decide | (simp [upd]; done))
  refine va_sld hx hb hX hbl hbA hS (by unfold vp_in; decide) dL_law_221 ?_
  have hs3 : kw_Split [(qx, .inr (10, [.ref (u1 0), .ref (u1 1), .ref (u1 2), .ref (u1 3), .ref (u1 4), .ref (u1 5), .ref (u1 6), .ref (u1 7), .ref (u1 8), .ref (u1 9), .int 0, .int 1])), ((u1 1), .inr (4, [.ref (u1 0), .ref (u1 10), .ref (u1 11), .ref (u1 12), .ref (u1 13), .ref (u1 14), .int 0, .int 0, .int 0, .int 0, .int 0])), ((u1 10), .inl (y 0, 6, .inl (fun _ => 0))), ((u1 11), .inr (1, [.ref (u1 15), .ref (u1 16), .ref (u1 17), .int 0, .int 0, .int 0])), ((u1 15), .inl (y 0, 6, .inl (fun _ => 0))), ((u1 9), .inl (y 0, 3, .inl (fun _ => 0))), (qm, .inr (11, [.ref (u2 0), .ref (u2 1), .ref (u2 2), .ref (u2 3), .long 0, .long 1, .ref (u2 4), .ref (u2 5), .ref (u2 6), .ref (u2 7), .ref (u2 8), .int 0, .int 0, .int 0, .int 0, .int 0, .ref (u2 9), .ref (u2 10)])), ((u2 0), .inl (y 0, 228, .inl (fun _ => 0))), ((u2 3), .inl (y 0, 3, .inl (fun _ => 0)))] [(qx, .inr (10, [.ref (u1 0), .ref (u1 1), .ref (u1 2), .ref (u1 3), .ref (u1 4), .ref (u1 5), .ref (u1 6), .ref (u1 7), .ref (u1 8), .ref (u1 9), .int 0, .int 1])), ((u1 9), .inl (y 0, 3, .inl (fun _ => 0))), ((u1 1), .inr (4, [.ref (u1 0), .ref (u1 10), .ref (u1 11), .ref (u1 12), .ref (u1 13), .ref (u1 14), .int 0, .int 0, .int 0, .int 0, .int 0])), ((u1 10), .inl (y 0, 6, .inl (fun _ => 0))), ((u1 11), .inr (1, [.ref (u1 15), .ref (u1 16), .ref (u1 17), .int 0, .int 0, .int 0])), ((u1 15), .inl (y 0, 6, .inl (fun _ => 0)))] [(qm, .inr (11, [.ref (u2 0), .ref (u2 1), .ref (u2 2), .ref (u2 3), .long 0, .long 1, .ref (u2 4), .ref (u2 5), .ref (u2 6), .ref (u2 7), .ref (u2 8), .int 0, .int 0, .int 0, .int 0, .int 0, .ref (u2 9), .ref (u2 10)])), ((u2 0), .inl (y 0, 228, .inl (fun _ => 0))), ((u2 3), .inl (y 0, 3, .inl (fun _ => 0)))] [0, 5, 1, 2, 3, 4] [6, 7, 8] := ⟨rfl, rfl, rfl, rfl, rfl, by decide⟩
  refine kw_go_i hs3 hP hD hS hA (va_runV (As := [.int (xs (1 : Int32).toNatClampNeg), .int (xs (2 : Int32).toNatClampNeg)]) (rest := []) ⟨hx, hb, hml, hown, hts⟩ (cp_field l D y qx (u1 0) (u1 1) (u1 2) (u1 3) (u1 4) (u1 5) (u1 6) (u1 7) (u1 8) (u1 9) (u1 10) (u1 11) (u1 12) (u1 13) (u1 14) (u1 15) (u1 16) (u1 17) (xs (1 : Int32).toNatClampNeg) (xs (2 : Int32).toNatClampNeg)  _) (cwV 2 hts gL_law_X10_field rfl rfl rfl (by decide +kernel) ⟨Nat.le_of_ble_eq_true rfl, Nat.le_of_ble_eq_true rfl⟩) (kw_PreV (ci := 10) (q0 := 0) hs3 hP hD hK hN rfl rfl) rfl rfl hl.1 rfl (lv_room (Nat.le_of_ble_eq_true rfl)) dL_law_222 ⟨Nat.le_of_ble_eq_true rfl, Nat.le_of_ble_eq_true rfl⟩) (fun r u H locs hq hP hD hS => ?_)
  obtain rfl := hq
  have hP : va_P D vwCl [(qm, .inr (11, [.ref (u2 0), .ref (u2 1), .ref (u2 2), .ref (u2 3), .long 0, .long 1, .ref (u2 4), .ref (u2 5), .ref (u2 6), .ref (u2 7), .ref (u2 8), .int 0, .int 0, .int 0, .int 0, .int 0, .ref (u2 9), .ref (u2 10)])), ((u2 0), .inl (y 0, 228, .inl (fun _ => 0))), ((u2 3), .inl (y 0, 3, .inl (fun _ => 0)))] H := hP
  have hD : va_D (fun q : Nat => s.heap.size ≤ q) [(qm, .inr (11, [.ref (u2 0), .ref (u2 1), .ref (u2 2), .ref (u2 3), .long 0, .long 1, .ref (u2 4), .ref (u2 5), .ref (u2 6), .ref (u2 7), .ref (u2 8), .int 0, .int 0, .int 0, .int 0, .int 0, .ref (u2 9), .ref (u2 10)])), ((u2 0), .inl (y 0, 228, .inl (fun _ => 0))), ((u2 3), .inl (y 0, 3, .inl (fun _ => 0)))] := hD
  refine lv_aload_n hx hb dL_law_225 rfl (lv_at hl 1 rfl) ?_
  refine lv_aload_n hx hb dL_law_226 rfl (lv_at hl 3 rfl) ?_
  refine lv_iload_n hx hb dL_law_227 rfl (lv_at hl 0 rfl) ?_
  refine lv_iconst (v := 1) hx hb dL_law_228 (by decide) ?_
  refine lv_iadd hx hb dL_law_229 ?_
  refine lv_topi (fun z4 hz4 => ?_)
  obtain rfl : z4 = 1 := hz4.trans (by first | rfl | decide | (simp [upd]; done))
  refine va_sld hx hb hX hbl hbA hS (by unfold vp_in; decide) dL_law_230 ?_
  refine lv_aload_n hx hb dL_law_231 rfl (lv_at hl 3 rfl) ?_
  refine lv_iload_n hx hb dL_law_232 rfl (lv_at hl 0 rfl) ?_
  refine lv_iconst (v := 2) hx hb dL_law_233 (by decide) ?_
  refine lv_iadd hx hb dL_law_234 ?_
  refine lv_topi (fun z5 hz5 => ?_)
  obtain rfl : z5 = 2 := hz5.trans (by first | rfl | decide | (simp [upd]; done))
  refine va_sld hx hb hX hbl hbA hS (by unfold vp_in; decide) dL_law_235 ?_
  have hs6 : kw_Split [(qm, .inr (11, [.ref (u2 0), .ref (u2 1), .ref (u2 2), .ref (u2 3), .long 0, .long 1, .ref (u2 4), .ref (u2 5), .ref (u2 6), .ref (u2 7), .ref (u2 8), .int 0, .int 0, .int 0, .int 0, .int 0, .ref (u2 9), .ref (u2 10)])), ((u2 0), .inl (y 0, 228, .inl (fun _ => 0))), ((u2 3), .inl (y 0, 3, .inl (fun _ => 0)))] [(qm, .inr (11, [.ref (u2 0), .ref (u2 1), .ref (u2 2), .ref (u2 3), .long 0, .long 1, .ref (u2 4), .ref (u2 5), .ref (u2 6), .ref (u2 7), .ref (u2 8), .int 0, .int 0, .int 0, .int 0, .int 0, .ref (u2 9), .ref (u2 10)])), ((u2 3), .inl (y 0, 3, .inl (fun _ => 0))), ((u2 0), .inl (y 0, 228, .inl (fun _ => 0)))] [] [0, 2, 1] [] := ⟨rfl, rfl, rfl, rfl, rfl, by decide⟩
  refine kw_go_i hs6 hP hD hS hA (va_runV (As := [.int (xs (1 : Int32).toNatClampNeg), .int (xs (2 : Int32).toNatClampNeg)]) (rest := [.int (sp_field (xs (1 : Int32).toNatClampNeg) (xs (2 : Int32).toNatClampNeg))]) ⟨hx, hb, hml, hown, hts⟩ (cq_field l D y qm (u2 0) (u2 1) (u2 2) (u2 3) (u2 4) (u2 5) (u2 6) (u2 7) (u2 8) (u2 9) (u2 10) (xs (1 : Int32).toNatClampNeg) (xs (2 : Int32).toNatClampNeg)  _) (cwV 2 hts gL_law_X11_field rfl rfl rfl (by decide +kernel) ⟨Nat.le_of_ble_eq_true rfl, Nat.le_of_ble_eq_true rfl⟩) (kw_PreV (ci := 11) (q0 := 0) hs6 hP hD hK hN rfl rfl) rfl rfl hl.1 rfl (lv_room (Nat.le_of_ble_eq_true rfl)) dL_law_236 ⟨Nat.le_of_ble_eq_true rfl, Nat.le_of_ble_eq_true rfl⟩) (fun r u H locs hq hP hD hS => ?_)
  obtain rfl := hq
  have hP : va_P D vwCl [] H := hP
  have hD : va_D (fun q : Nat => s.heap.size ≤ q) [] := hD
  refine lv_icmp_eq (tgt := 1145) hx hb dL_law_239 (by decide) (fun _ => ?_) (fun h9 => absurd rfl h9)
  refine lv_iinc (v := 6) (lv' := [(3, .int 6), (2, .ref qm), (1, .ref qx), (0, .ref b)]) hx hb dL_law_1145 hl (k := 0) rfl (by decide) (by decide) rfl (fun ls hl => ?_)
  refine lv_goto (tgt := 18) hx hb dL_law_1148 (by decide) ?_
  refine lv_iload_n hx hb dL_law_18 rfl (lv_at hl 0 rfl) ?_
  refine lv_aload_n hx hb dL_law_19 rfl (lv_at hl 3 rfl) ?_
  refine va_slen hx hb hX hbl hbA hS dL_law_20 ?_
  refine lv_topi (fun z7 hz7 => ?_)
  obtain rfl : z7 = 6 := hz7.trans (by first | rfl | decide | (simp [upd]; done))
  refine lv_bipush (v := 6) hx hb dL_law_21 (by decide) ?_
  refine lv_isub hx hb dL_law_23 ?_
  refine lv_topi (fun z8 hz8 => ?_)
  obtain rfl : z8 = 0 := hz8.trans (by first | rfl | decide | (simp [upd]; done))
  refine lv_icmp_gt (tgt := 1151) hx hb dL_law_24 (by decide) (fun _ => ?_) (fun h9 => absurd h9 (by decide))
  refine lv_iconst (v := 1) hx hb dL_law_1151 (by decide) ?_
  refine va_forget (fun q hq => hS.2.2 q hq) ?_
  refine W.widen (k := 600000) (n := 7302250) (Nat.le_of_ble_eq_true rfl) (Nat.le_of_ble_eq_true rfl) ?_
  exact lw_ret hx hb hr hlocks dL_law_1152

set_option maxHeartbeats 4000000 in
set_option maxRecDepth 100000 in
theorem lw_case2 {p : Program} {e : Env} {s : State} {m : MethodId} {below : List Frame} {meth : Method} {c : Code} (l : Launch) {b : Nat} {xs : Nat → Int32} (C0 : lw_At p s m meth c b 6 xs) {D : va_G} {y : Nat → ClassId} (hK : va_K D vwCl (kw_T y) s) (hN : kw_N s) (u1 u2 : Nat → Nat) (qx qm : Nat) {H : Heap} {locs : List Loc} {ls : Array Slot} (hP : va_P D vwCl (lw_world y u1 u2 qx qm) H) (hD : va_D (fun q : Nat => s.heap.size ≤ q) (lw_world y u1 u2 qx qm)) (hS : va_S (fun q : Nat => s.heap.size ≤ q) s.heap H locs) (hl : lv_has ls 4 [(3, .int 0), (2, .ref qm), (1, .ref qx), (0, .ref b)]) : W p l e room_1 s m #[Value.ref b] below meth c H locs 190 2130 (lw_Z below #[Value.ref b] s) (F0 m 244 ls []) := by
  obtain ⟨hx, hb, hr, hml, hown, hts0, hX, hbl, hlocks, hgv⟩ := id C0
  have hown : s.vm.findClass RL = some m.cls := hown
  have hts : ∀ w ∈ wsL_law, w.before #[Value.ref b] s = true := fun w h => hts0 w (wsL_law_in w h)
  have hA : ∀ q : Nat, s.heap.size ≤ q → (fun q : Nat => s.heap.size ≤ q) q := fun _ h => h
  have hbA : ¬ (fun q : Nat => s.heap.size ≤ q) b := Nat.not_le.mpr hbl
  have hP : va_P D vwCl [(qx, .inr (10, [.ref (u1 0), .ref (u1 1), .ref (u1 2), .ref (u1 3), .ref (u1 4), .ref (u1 5), .ref (u1 6), .ref (u1 7), .ref (u1 8), .ref (u1 9), .int 0, .int 1])), ((u1 1), .inr (4, [.ref (u1 0), .ref (u1 10), .ref (u1 11), .ref (u1 12), .ref (u1 13), .ref (u1 14), .int 0, .int 0, .int 0, .int 0, .int 0])), ((u1 9), .inl (y 0, 3, .inl (fun _ => 0))), (qm, .inr (11, [.ref (u2 0), .ref (u2 1), .ref (u2 2), .ref (u2 3), .long 0, .long 1, .ref (u2 4), .ref (u2 5), .ref (u2 6), .ref (u2 7), .ref (u2 8), .int 0, .int 0, .int 0, .int 0, .int 0, .ref (u2 9), .ref (u2 10)])), ((u2 0), .inl (y 0, 228, .inl (fun _ => 0))), ((u2 3), .inl (y 0, 3, .inl (fun _ => 0)))] H := hP.sub [0, 1, 32, 33, 34, 37] rfl
  have hD : va_D (fun q : Nat => s.heap.size ≤ q) [(qx, .inr (10, [.ref (u1 0), .ref (u1 1), .ref (u1 2), .ref (u1 3), .ref (u1 4), .ref (u1 5), .ref (u1 6), .ref (u1 7), .ref (u1 8), .ref (u1 9), .int 0, .int 1])), ((u1 1), .inr (4, [.ref (u1 0), .ref (u1 10), .ref (u1 11), .ref (u1 12), .ref (u1 13), .ref (u1 14), .int 0, .int 0, .int 0, .int 0, .int 0])), ((u1 9), .inl (y 0, 3, .inl (fun _ => 0))), (qm, .inr (11, [.ref (u2 0), .ref (u2 1), .ref (u2 2), .ref (u2 3), .long 0, .long 1, .ref (u2 4), .ref (u2 5), .ref (u2 6), .ref (u2 7), .ref (u2 8), .int 0, .int 0, .int 0, .int 0, .int 0, .ref (u2 9), .ref (u2 10)])), ((u2 0), .inl (y 0, 228, .inl (fun _ => 0))), ((u2 3), .inl (y 0, 3, .inl (fun _ => 0)))] := hD.sub [0, 1, 32, 33, 34, 37] (by decide) rfl
  refine lv_aload_n hx hb dL_law_244 rfl (lv_at hl 2 rfl) ?_
  refine lv_aload_n hx hb dL_law_245 rfl (lv_at hl 3 rfl) ?_
  refine lv_iload_n hx hb dL_law_246 rfl (lv_at hl 0 rfl) ?_
  refine lv_iconst (v := 1) hx hb dL_law_247 (by decide) ?_
  refine lv_iadd hx hb dL_law_248 ?_
  refine lv_topi (fun z1 hz1 => ?_)
  obtain rfl : z1 = 1 := hz1.trans (by first | rfl | decide | (simp [upd]; done))
  refine va_sld hx hb hX hbl hbA hS (by unfold vp_in; decide) dL_law_249 ?_
  have hs2 : kw_Split [(qx, .inr (10, [.ref (u1 0), .ref (u1 1), .ref (u1 2), .ref (u1 3), .ref (u1 4), .ref (u1 5), .ref (u1 6), .ref (u1 7), .ref (u1 8), .ref (u1 9), .int 0, .int 1])), ((u1 1), .inr (4, [.ref (u1 0), .ref (u1 10), .ref (u1 11), .ref (u1 12), .ref (u1 13), .ref (u1 14), .int 0, .int 0, .int 0, .int 0, .int 0])), ((u1 9), .inl (y 0, 3, .inl (fun _ => 0))), (qm, .inr (11, [.ref (u2 0), .ref (u2 1), .ref (u2 2), .ref (u2 3), .long 0, .long 1, .ref (u2 4), .ref (u2 5), .ref (u2 6), .ref (u2 7), .ref (u2 8), .int 0, .int 0, .int 0, .int 0, .int 0, .ref (u2 9), .ref (u2 10)])), ((u2 0), .inl (y 0, 228, .inl (fun _ => 0))), ((u2 3), .inl (y 0, 3, .inl (fun _ => 0)))] [(qx, .inr (10, [.ref (u1 0), .ref (u1 1), .ref (u1 2), .ref (u1 3), .ref (u1 4), .ref (u1 5), .ref (u1 6), .ref (u1 7), .ref (u1 8), .ref (u1 9), .int 0, .int 1])), ((u1 9), .inl (y 0, 3, .inl (fun _ => 0))), ((u1 1), .inr (4, [.ref (u1 0), .ref (u1 10), .ref (u1 11), .ref (u1 12), .ref (u1 13), .ref (u1 14), .int 0, .int 0, .int 0, .int 0, .int 0]))] [(qm, .inr (11, [.ref (u2 0), .ref (u2 1), .ref (u2 2), .ref (u2 3), .long 0, .long 1, .ref (u2 4), .ref (u2 5), .ref (u2 6), .ref (u2 7), .ref (u2 8), .int 0, .int 0, .int 0, .int 0, .int 0, .ref (u2 9), .ref (u2 10)])), ((u2 0), .inl (y 0, 228, .inl (fun _ => 0))), ((u2 3), .inl (y 0, 3, .inl (fun _ => 0)))] [0, 2, 1] [3, 4, 5] := ⟨rfl, rfl, rfl, rfl, rfl, by decide⟩
  refine kw_go_i hs2 hP hD hS hA (va_runV (As := [.int (xs (1 : Int32).toNatClampNeg)]) (rest := []) ⟨hx, hb, hml, hown, hts⟩ (cp_gleaner l D y qx (u1 0) (u1 1) (u1 2) (u1 3) (u1 4) (u1 5) (u1 6) (u1 7) (u1 8) (u1 9) (u1 10) (u1 11) (u1 12) (u1 13) (u1 14) (xs (1 : Int32).toNatClampNeg)  _) (cwV 1 hts gL_law_X10_gleaner rfl rfl rfl (by decide +kernel) ⟨Nat.le_of_ble_eq_true rfl, Nat.le_of_ble_eq_true rfl⟩) (kw_PreV (ci := 10) (q0 := 0) hs2 hP hD hK hN rfl rfl) rfl rfl hl.1 rfl (lv_room (Nat.le_of_ble_eq_true rfl)) dL_law_250 ⟨Nat.le_of_ble_eq_true rfl, Nat.le_of_ble_eq_true rfl⟩) (fun r u H locs hq hP hD hS => ?_)
  have hrr := hq
  obtain rfl : r = (-2) := hrr.trans (by decide)
  have hP : va_P D vwCl [(qm, .inr (11, [.ref (u2 0), .ref (u2 1), .ref (u2 2), .ref (u2 3), .long 0, .long 1, .ref (u2 4), .ref (u2 5), .ref (u2 6), .ref (u2 7), .ref (u2 8), .int 0, .int 0, .int 0, .int 0, .int 0, .ref (u2 9), .ref (u2 10)])), ((u2 0), .inl (y 0, 228, .inl (fun _ => 0))), ((u2 3), .inl (y 0, 3, .inl (fun _ => 0)))] H := hP
  have hD : va_D (fun q : Nat => s.heap.size ≤ q) [(qm, .inr (11, [.ref (u2 0), .ref (u2 1), .ref (u2 2), .ref (u2 3), .long 0, .long 1, .ref (u2 4), .ref (u2 5), .ref (u2 6), .ref (u2 7), .ref (u2 8), .int 0, .int 0, .int 0, .int 0, .int 0, .ref (u2 9), .ref (u2 10)])), ((u2 0), .inl (y 0, 228, .inl (fun _ => 0))), ((u2 3), .inl (y 0, 3, .inl (fun _ => 0)))] := hD
  refine lv_aload_n hx hb dL_law_253 rfl (lv_at hl 1 rfl) ?_
  refine lv_aload_n hx hb dL_law_254 rfl (lv_at hl 3 rfl) ?_
  refine lv_iload_n hx hb dL_law_255 rfl (lv_at hl 0 rfl) ?_
  refine lv_iconst (v := 1) hx hb dL_law_256 (by decide) ?_
  refine lv_iadd hx hb dL_law_257 ?_
  refine lv_topi (fun z3 hz3 => ?_)
  obtain rfl : z3 = 1 := hz3.trans (by first | rfl | decide | (simp [upd]; done))
  refine va_sld hx hb hX hbl hbA hS (by unfold vp_in; decide) dL_law_258 ?_
  have hs4 : kw_Split [(qm, .inr (11, [.ref (u2 0), .ref (u2 1), .ref (u2 2), .ref (u2 3), .long 0, .long 1, .ref (u2 4), .ref (u2 5), .ref (u2 6), .ref (u2 7), .ref (u2 8), .int 0, .int 0, .int 0, .int 0, .int 0, .ref (u2 9), .ref (u2 10)])), ((u2 0), .inl (y 0, 228, .inl (fun _ => 0))), ((u2 3), .inl (y 0, 3, .inl (fun _ => 0)))] [(qm, .inr (11, [.ref (u2 0), .ref (u2 1), .ref (u2 2), .ref (u2 3), .long 0, .long 1, .ref (u2 4), .ref (u2 5), .ref (u2 6), .ref (u2 7), .ref (u2 8), .int 0, .int 0, .int 0, .int 0, .int 0, .ref (u2 9), .ref (u2 10)])), ((u2 3), .inl (y 0, 3, .inl (fun _ => 0))), ((u2 0), .inl (y 0, 228, .inl (fun _ => 0)))] [] [0, 2, 1] [] := ⟨rfl, rfl, rfl, rfl, rfl, by decide⟩
  refine kw_go_i hs4 hP hD hS hA (va_runV (As := [.int (xs (1 : Int32).toNatClampNeg)]) (rest := [.int (-2)]) ⟨hx, hb, hml, hown, hts⟩ (cq_gleaner l D y qm (u2 0) (u2 1) (u2 2) (u2 3) (u2 4) (u2 5) (u2 6) (u2 7) (u2 8) (u2 9) (u2 10) (xs (1 : Int32).toNatClampNeg)  _) (cwV 1 hts gL_law_X11_gleaner rfl rfl rfl (by decide +kernel) ⟨Nat.le_of_ble_eq_true rfl, Nat.le_of_ble_eq_true rfl⟩) (kw_PreV (ci := 11) (q0 := 0) hs4 hP hD hK hN rfl rfl) rfl rfl hl.1 rfl (lv_room (Nat.le_of_ble_eq_true rfl)) dL_law_259 ⟨Nat.le_of_ble_eq_true rfl, Nat.le_of_ble_eq_true rfl⟩) (fun r u H locs hq hP hD hS => ?_)
  have hrr := hq
  obtain rfl : r = (-2) := hrr.trans (by decide)
  have hP : va_P D vwCl [] H := hP
  have hD : va_D (fun q : Nat => s.heap.size ≤ q) [] := hD
  refine lv_icmp_eq (tgt := 1145) hx hb dL_law_262 (by decide) (fun _ => ?_) (fun h9 => absurd h9 (by decide))
  refine lv_iinc (v := 6) (lv' := [(3, .int 6), (2, .ref qm), (1, .ref qx), (0, .ref b)]) hx hb dL_law_1145 hl (k := 0) rfl (by decide) (by decide) rfl (fun ls hl => ?_)
  refine lv_goto (tgt := 18) hx hb dL_law_1148 (by decide) ?_
  refine lv_iload_n hx hb dL_law_18 rfl (lv_at hl 0 rfl) ?_
  refine lv_aload_n hx hb dL_law_19 rfl (lv_at hl 3 rfl) ?_
  refine va_slen hx hb hX hbl hbA hS dL_law_20 ?_
  refine lv_topi (fun z5 hz5 => ?_)
  obtain rfl : z5 = 6 := hz5.trans (by first | rfl | decide | (simp [upd]; done))
  refine lv_bipush (v := 6) hx hb dL_law_21 (by decide) ?_
  refine lv_isub hx hb dL_law_23 ?_
  refine lv_topi (fun z6 hz6 => ?_)
  obtain rfl : z6 = 0 := hz6.trans (by first | rfl | decide | (simp [upd]; done))
  refine lv_icmp_gt (tgt := 1151) hx hb dL_law_24 (by decide) (fun _ => ?_) (fun h9 => absurd h9 (by decide))
  refine lv_iconst (v := 1) hx hb dL_law_1151 (by decide) ?_
  refine va_forget (fun q hq => hS.2.2 q hq) ?_
  refine W.widen (k := 600000) (n := 7302250) (Nat.le_of_ble_eq_true rfl) (Nat.le_of_ble_eq_true rfl) ?_
  exact lw_ret hx hb hr hlocks dL_law_1152

set_option maxHeartbeats 4000000 in
set_option maxRecDepth 100000 in
theorem lw_case3 {p : Program} {e : Env} {s : State} {m : MethodId} {below : List Frame} {meth : Method} {c : Code} (l : Launch) {b : Nat} {xs : Nat → Int32} (C0 : lw_At p s m meth c b 6 xs) {D : va_G} {y : Nat → ClassId} (hK : va_K D vwCl (kw_T y) s) (hN : kw_N s) (u1 u2 : Nat → Nat) (qx qm : Nat) {H : Heap} {locs : List Loc} {ls : Array Slot} (hP : va_P D vwCl (lw_world y u1 u2 qx qm) H) (hD : va_D (fun q : Nat => s.heap.size ≤ q) (lw_world y u1 u2 qx qm)) (hS : va_S (fun q : Nat => s.heap.size ≤ q) s.heap H locs) (hl : lv_has ls 4 [(3, .int 0), (2, .ref qm), (1, .ref qx), (0, .ref b)]) : W p l e room_1 s m #[Value.ref b] below meth c H locs 190 2130 (lw_Z below #[Value.ref b] s) (F0 m 267 ls []) := by
  obtain ⟨hx, hb, hr, hml, hown, hts0, hX, hbl, hlocks, hgv⟩ := id C0
  have hown : s.vm.findClass RL = some m.cls := hown
  have hts : ∀ w ∈ wsL_law, w.before #[Value.ref b] s = true := fun w h => hts0 w (wsL_law_in w h)
  have hA : ∀ q : Nat, s.heap.size ≤ q → (fun q : Nat => s.heap.size ≤ q) q := fun _ h => h
  have hbA : ¬ (fun q : Nat => s.heap.size ≤ q) b := Nat.not_le.mpr hbl
  have hP : va_P D vwCl [(qx, .inr (10, [.ref (u1 0), .ref (u1 1), .ref (u1 2), .ref (u1 3), .ref (u1 4), .ref (u1 5), .ref (u1 6), .ref (u1 7), .ref (u1 8), .ref (u1 9), .int 0, .int 1])), ((u1 4), .inr (7, [.ref (u1 47), .int 0, .int 0, .int 0, .int 0, .int 0, .ref (u1 48), .ref (u1 49), .ref (u1 50), .int 0, .int 0, .int 0])), ((u1 47), .inl (y 1, 150, .inl (fun _ => 0))), ((u1 9), .inl (y 0, 3, .inl (fun _ => 0))), (qm, .inr (11, [.ref (u2 0), .ref (u2 1), .ref (u2 2), .ref (u2 3), .long 0, .long 1, .ref (u2 4), .ref (u2 5), .ref (u2 6), .ref (u2 7), .ref (u2 8), .int 0, .int 0, .int 0, .int 0, .int 0, .ref (u2 9), .ref (u2 10)])), ((u2 3), .inl (y 0, 3, .inl (fun _ => 0))), ((u2 8), .inl (y 0, 150, .inl (fun _ => 0)))] H := hP.sub [0, 26, 27, 32, 33, 37, 39] rfl
  have hD : va_D (fun q : Nat => s.heap.size ≤ q) [(qx, .inr (10, [.ref (u1 0), .ref (u1 1), .ref (u1 2), .ref (u1 3), .ref (u1 4), .ref (u1 5), .ref (u1 6), .ref (u1 7), .ref (u1 8), .ref (u1 9), .int 0, .int 1])), ((u1 4), .inr (7, [.ref (u1 47), .int 0, .int 0, .int 0, .int 0, .int 0, .ref (u1 48), .ref (u1 49), .ref (u1 50), .int 0, .int 0, .int 0])), ((u1 47), .inl (y 1, 150, .inl (fun _ => 0))), ((u1 9), .inl (y 0, 3, .inl (fun _ => 0))), (qm, .inr (11, [.ref (u2 0), .ref (u2 1), .ref (u2 2), .ref (u2 3), .long 0, .long 1, .ref (u2 4), .ref (u2 5), .ref (u2 6), .ref (u2 7), .ref (u2 8), .int 0, .int 0, .int 0, .int 0, .int 0, .ref (u2 9), .ref (u2 10)])), ((u2 3), .inl (y 0, 3, .inl (fun _ => 0))), ((u2 8), .inl (y 0, 150, .inl (fun _ => 0)))] := hD.sub [0, 26, 27, 32, 33, 37, 39] (by decide) rfl
  refine lv_aload_n hx hb dL_law_267 rfl (lv_at hl 2 rfl) ?_
  refine lv_aload_n hx hb dL_law_268 rfl (lv_at hl 3 rfl) ?_
  refine lv_iload_n hx hb dL_law_269 rfl (lv_at hl 0 rfl) ?_
  refine lv_iconst (v := 1) hx hb dL_law_270 (by decide) ?_
  refine lv_iadd hx hb dL_law_271 ?_
  refine lv_topi (fun z1 hz1 => ?_)
  obtain rfl : z1 = 1 := hz1.trans (by first | rfl | decide | (simp [upd]; done))
  refine va_sld hx hb hX hbl hbA hS (by unfold vp_in; decide) dL_law_272 ?_
  have hs2 : kw_Split [(qx, .inr (10, [.ref (u1 0), .ref (u1 1), .ref (u1 2), .ref (u1 3), .ref (u1 4), .ref (u1 5), .ref (u1 6), .ref (u1 7), .ref (u1 8), .ref (u1 9), .int 0, .int 1])), ((u1 4), .inr (7, [.ref (u1 47), .int 0, .int 0, .int 0, .int 0, .int 0, .ref (u1 48), .ref (u1 49), .ref (u1 50), .int 0, .int 0, .int 0])), ((u1 47), .inl (y 1, 150, .inl (fun _ => 0))), ((u1 9), .inl (y 0, 3, .inl (fun _ => 0))), (qm, .inr (11, [.ref (u2 0), .ref (u2 1), .ref (u2 2), .ref (u2 3), .long 0, .long 1, .ref (u2 4), .ref (u2 5), .ref (u2 6), .ref (u2 7), .ref (u2 8), .int 0, .int 0, .int 0, .int 0, .int 0, .ref (u2 9), .ref (u2 10)])), ((u2 3), .inl (y 0, 3, .inl (fun _ => 0))), ((u2 8), .inl (y 0, 150, .inl (fun _ => 0)))] [(qx, .inr (10, [.ref (u1 0), .ref (u1 1), .ref (u1 2), .ref (u1 3), .ref (u1 4), .ref (u1 5), .ref (u1 6), .ref (u1 7), .ref (u1 8), .ref (u1 9), .int 0, .int 1])), ((u1 9), .inl (y 0, 3, .inl (fun _ => 0))), ((u1 4), .inr (7, [.ref (u1 47), .int 0, .int 0, .int 0, .int 0, .int 0, .ref (u1 48), .ref (u1 49), .ref (u1 50), .int 0, .int 0, .int 0])), ((u1 47), .inl (y 1, 150, .inl (fun _ => 0)))] [(qm, .inr (11, [.ref (u2 0), .ref (u2 1), .ref (u2 2), .ref (u2 3), .long 0, .long 1, .ref (u2 4), .ref (u2 5), .ref (u2 6), .ref (u2 7), .ref (u2 8), .int 0, .int 0, .int 0, .int 0, .int 0, .ref (u2 9), .ref (u2 10)])), ((u2 3), .inl (y 0, 3, .inl (fun _ => 0))), ((u2 8), .inl (y 0, 150, .inl (fun _ => 0)))] [0, 3, 1, 2] [4, 5, 6] := ⟨rfl, rfl, rfl, rfl, rfl, by decide⟩
  refine kw_go_i hs2 hP hD hS hA (va_runV (As := [.int (xs (1 : Int32).toNatClampNeg)]) (rest := []) ⟨hx, hb, hml, hown, hts⟩ (cp_type l D y qx (u1 0) (u1 1) (u1 2) (u1 3) (u1 4) (u1 5) (u1 6) (u1 7) (u1 8) (u1 9) (u1 47) (u1 48) (u1 49) (u1 50) (xs (1 : Int32).toNatClampNeg)  _) (cwV 1 hts gL_law_X10_type rfl rfl rfl (by decide +kernel) ⟨Nat.le_of_ble_eq_true rfl, Nat.le_of_ble_eq_true rfl⟩) (kw_PreV (ci := 10) (q0 := 0) hs2 hP hD hK hN rfl rfl) rfl rfl hl.1 rfl (lv_room (Nat.le_of_ble_eq_true rfl)) dL_law_273 ⟨Nat.le_of_ble_eq_true rfl, Nat.le_of_ble_eq_true rfl⟩) (fun r u H locs hq hP hD hS => ?_)
  obtain rfl := hq
  have hP : va_P D vwCl [(qm, .inr (11, [.ref (u2 0), .ref (u2 1), .ref (u2 2), .ref (u2 3), .long 0, .long 1, .ref (u2 4), .ref (u2 5), .ref (u2 6), .ref (u2 7), .ref (u2 8), .int 0, .int 0, .int 0, .int 0, .int 0, .ref (u2 9), .ref (u2 10)])), ((u2 3), .inl (y 0, 3, .inl (fun _ => 0))), ((u2 8), .inl (y 0, 150, .inl (fun _ => 0)))] H := hP
  have hD : va_D (fun q : Nat => s.heap.size ≤ q) [(qm, .inr (11, [.ref (u2 0), .ref (u2 1), .ref (u2 2), .ref (u2 3), .long 0, .long 1, .ref (u2 4), .ref (u2 5), .ref (u2 6), .ref (u2 7), .ref (u2 8), .int 0, .int 0, .int 0, .int 0, .int 0, .ref (u2 9), .ref (u2 10)])), ((u2 3), .inl (y 0, 3, .inl (fun _ => 0))), ((u2 8), .inl (y 0, 150, .inl (fun _ => 0)))] := hD
  refine lv_aload_n hx hb dL_law_276 rfl (lv_at hl 1 rfl) ?_
  refine lv_aload_n hx hb dL_law_277 rfl (lv_at hl 3 rfl) ?_
  refine lv_iload_n hx hb dL_law_278 rfl (lv_at hl 0 rfl) ?_
  refine lv_iconst (v := 1) hx hb dL_law_279 (by decide) ?_
  refine lv_iadd hx hb dL_law_280 ?_
  refine lv_topi (fun z3 hz3 => ?_)
  obtain rfl : z3 = 1 := hz3.trans (by first | rfl | decide | (simp [upd]; done))
  refine va_sld hx hb hX hbl hbA hS (by unfold vp_in; decide) dL_law_281 ?_
  have hs4 : kw_Split [(qm, .inr (11, [.ref (u2 0), .ref (u2 1), .ref (u2 2), .ref (u2 3), .long 0, .long 1, .ref (u2 4), .ref (u2 5), .ref (u2 6), .ref (u2 7), .ref (u2 8), .int 0, .int 0, .int 0, .int 0, .int 0, .ref (u2 9), .ref (u2 10)])), ((u2 3), .inl (y 0, 3, .inl (fun _ => 0))), ((u2 8), .inl (y 0, 150, .inl (fun _ => 0)))] [(qm, .inr (11, [.ref (u2 0), .ref (u2 1), .ref (u2 2), .ref (u2 3), .long 0, .long 1, .ref (u2 4), .ref (u2 5), .ref (u2 6), .ref (u2 7), .ref (u2 8), .int 0, .int 0, .int 0, .int 0, .int 0, .ref (u2 9), .ref (u2 10)])), ((u2 3), .inl (y 0, 3, .inl (fun _ => 0))), ((u2 8), .inl (y 0, 150, .inl (fun _ => 0)))] [] [0, 1, 2] [] := ⟨rfl, rfl, rfl, rfl, rfl, by decide⟩
  refine kw_go_i hs4 hP hD hS hA (va_runV (As := [.int (xs (1 : Int32).toNatClampNeg)]) (rest := [.int (sp_type (xs (1 : Int32).toNatClampNeg))]) ⟨hx, hb, hml, hown, hts⟩ (cq_type l D y qm (u2 0) (u2 1) (u2 2) (u2 3) (u2 4) (u2 5) (u2 6) (u2 7) (u2 8) (u2 9) (u2 10) (xs (1 : Int32).toNatClampNeg)  _) (cwV 1 hts gL_law_X11_type rfl rfl rfl (by decide +kernel) ⟨Nat.le_of_ble_eq_true rfl, Nat.le_of_ble_eq_true rfl⟩) (kw_PreV (ci := 11) (q0 := 0) hs4 hP hD hK hN rfl rfl) rfl rfl hl.1 rfl (lv_room (Nat.le_of_ble_eq_true rfl)) dL_law_282 ⟨Nat.le_of_ble_eq_true rfl, Nat.le_of_ble_eq_true rfl⟩) (fun r u H locs hq hP hD hS => ?_)
  obtain rfl := hq
  have hP : va_P D vwCl [] H := hP
  have hD : va_D (fun q : Nat => s.heap.size ≤ q) [] := hD
  refine lv_icmp_eq (tgt := 1145) hx hb dL_law_285 (by decide) (fun _ => ?_) (fun h9 => absurd rfl h9)
  refine lv_iinc (v := 6) (lv' := [(3, .int 6), (2, .ref qm), (1, .ref qx), (0, .ref b)]) hx hb dL_law_1145 hl (k := 0) rfl (by decide) (by decide) rfl (fun ls hl => ?_)
  refine lv_goto (tgt := 18) hx hb dL_law_1148 (by decide) ?_
  refine lv_iload_n hx hb dL_law_18 rfl (lv_at hl 0 rfl) ?_
  refine lv_aload_n hx hb dL_law_19 rfl (lv_at hl 3 rfl) ?_
  refine va_slen hx hb hX hbl hbA hS dL_law_20 ?_
  refine lv_topi (fun z5 hz5 => ?_)
  obtain rfl : z5 = 6 := hz5.trans (by first | rfl | decide | (simp [upd]; done))
  refine lv_bipush (v := 6) hx hb dL_law_21 (by decide) ?_
  refine lv_isub hx hb dL_law_23 ?_
  refine lv_topi (fun z6 hz6 => ?_)
  obtain rfl : z6 = 0 := hz6.trans (by first | rfl | decide | (simp [upd]; done))
  refine lv_icmp_gt (tgt := 1151) hx hb dL_law_24 (by decide) (fun _ => ?_) (fun h9 => absurd h9 (by decide))
  refine lv_iconst (v := 1) hx hb dL_law_1151 (by decide) ?_
  refine va_forget (fun q hq => hS.2.2 q hq) ?_
  refine W.widen (k := 600000) (n := 7302250) (Nat.le_of_ble_eq_true rfl) (Nat.le_of_ble_eq_true rfl) ?_
  exact lw_ret hx hb hr hlocks dL_law_1152

set_option maxHeartbeats 4000000 in
set_option maxRecDepth 100000 in
theorem lw_case4 {p : Program} {e : Env} {s : State} {m : MethodId} {below : List Frame} {meth : Method} {c : Code} (l : Launch) {b : Nat} {xs : Nat → Int32} (C0 : lw_At p s m meth c b 6 xs) {D : va_G} {y : Nat → ClassId} (hK : va_K D vwCl (kw_T y) s) (hN : kw_N s) (u1 u2 : Nat → Nat) (qx qm : Nat) {H : Heap} {locs : List Loc} {ls : Array Slot} (hP : va_P D vwCl (lw_world y u1 u2 qx qm) H) (hD : va_D (fun q : Nat => s.heap.size ≤ q) (lw_world y u1 u2 qx qm)) (hS : va_S (fun q : Nat => s.heap.size ≤ q) s.heap H locs) (hl : lv_has ls 4 [(3, .int 0), (2, .ref qm), (1, .ref qx), (0, .ref b)]) : W p l e room_1 s m #[Value.ref b] below meth c H locs 190 2130 (lw_Z below #[Value.ref b] s) (F0 m 290 ls []) := by
  obtain ⟨hx, hb, hr, hml, hown, hts0, hX, hbl, hlocks, hgv⟩ := id C0
  have hown : s.vm.findClass RL = some m.cls := hown
  have hts : ∀ w ∈ wsL_law, w.before #[Value.ref b] s = true := fun w h => hts0 w (wsL_law_in w h)
  have hA : ∀ q : Nat, s.heap.size ≤ q → (fun q : Nat => s.heap.size ≤ q) q := fun _ h => h
  have hbA : ¬ (fun q : Nat => s.heap.size ≤ q) b := Nat.not_le.mpr hbl
  have hP : va_P D vwCl [(qx, .inr (10, [.ref (u1 0), .ref (u1 1), .ref (u1 2), .ref (u1 3), .ref (u1 4), .ref (u1 5), .ref (u1 6), .ref (u1 7), .ref (u1 8), .ref (u1 9), .int 0, .int 1])), ((u1 4), .inr (7, [.ref (u1 47), .int 0, .int 0, .int 0, .int 0, .int 0, .ref (u1 48), .ref (u1 49), .ref (u1 50), .int 0, .int 0, .int 0])), (qm, .inr (11, [.ref (u2 0), .ref (u2 1), .ref (u2 2), .ref (u2 3), .long 0, .long 1, .ref (u2 4), .ref (u2 5), .ref (u2 6), .ref (u2 7), .ref (u2 8), .int 0, .int 0, .int 0, .int 0, .int 0, .ref (u2 9), .ref (u2 10)]))] H := hP.sub [0, 26, 33] rfl
  have hD : va_D (fun q : Nat => s.heap.size ≤ q) [(qx, .inr (10, [.ref (u1 0), .ref (u1 1), .ref (u1 2), .ref (u1 3), .ref (u1 4), .ref (u1 5), .ref (u1 6), .ref (u1 7), .ref (u1 8), .ref (u1 9), .int 0, .int 1])), ((u1 4), .inr (7, [.ref (u1 47), .int 0, .int 0, .int 0, .int 0, .int 0, .ref (u1 48), .ref (u1 49), .ref (u1 50), .int 0, .int 0, .int 0])), (qm, .inr (11, [.ref (u2 0), .ref (u2 1), .ref (u2 2), .ref (u2 3), .long 0, .long 1, .ref (u2 4), .ref (u2 5), .ref (u2 6), .ref (u2 7), .ref (u2 8), .int 0, .int 0, .int 0, .int 0, .int 0, .ref (u2 9), .ref (u2 10)]))] := hD.sub [0, 26, 33] (by decide) rfl
  refine lv_aload_n hx hb dL_law_290 rfl (lv_at hl 2 rfl) ?_
  have hs1 : kw_Split [(qx, .inr (10, [.ref (u1 0), .ref (u1 1), .ref (u1 2), .ref (u1 3), .ref (u1 4), .ref (u1 5), .ref (u1 6), .ref (u1 7), .ref (u1 8), .ref (u1 9), .int 0, .int 1])), ((u1 4), .inr (7, [.ref (u1 47), .int 0, .int 0, .int 0, .int 0, .int 0, .ref (u1 48), .ref (u1 49), .ref (u1 50), .int 0, .int 0, .int 0])), (qm, .inr (11, [.ref (u2 0), .ref (u2 1), .ref (u2 2), .ref (u2 3), .long 0, .long 1, .ref (u2 4), .ref (u2 5), .ref (u2 6), .ref (u2 7), .ref (u2 8), .int 0, .int 0, .int 0, .int 0, .int 0, .ref (u2 9), .ref (u2 10)]))] [(qx, .inr (10, [.ref (u1 0), .ref (u1 1), .ref (u1 2), .ref (u1 3), .ref (u1 4), .ref (u1 5), .ref (u1 6), .ref (u1 7), .ref (u1 8), .ref (u1 9), .int 0, .int 1])), ((u1 4), .inr (7, [.ref (u1 47), .int 0, .int 0, .int 0, .int 0, .int 0, .ref (u1 48), .ref (u1 49), .ref (u1 50), .int 0, .int 0, .int 0]))] [(qm, .inr (11, [.ref (u2 0), .ref (u2 1), .ref (u2 2), .ref (u2 3), .long 0, .long 1, .ref (u2 4), .ref (u2 5), .ref (u2 6), .ref (u2 7), .ref (u2 8), .int 0, .int 0, .int 0, .int 0, .int 0, .ref (u2 9), .ref (u2 10)]))] [0, 1] [2] := ⟨rfl, rfl, rfl, rfl, rfl, by decide⟩
  refine kw_go_i hs1 hP hD hS hA (va_runV (As := []) (rest := []) ⟨hx, hb, hml, hown, hts⟩ (cp_clear l D y qx (u1 0) (u1 1) (u1 2) (u1 3) (u1 4) (u1 5) (u1 6) (u1 7) (u1 8) (u1 9) (u1 47) (u1 48) (u1 49) (u1 50)  _) (cwV 0 hts gL_law_X10_clear rfl rfl rfl (by decide +kernel) ⟨Nat.le_of_ble_eq_true rfl, Nat.le_of_ble_eq_true rfl⟩) (kw_PreV (ci := 10) (q0 := 0) hs1 hP hD hK hN rfl rfl) rfl rfl hl.1 rfl (lv_room (Nat.le_of_ble_eq_true rfl)) dL_law_291 ⟨Nat.le_of_ble_eq_true rfl, Nat.le_of_ble_eq_true rfl⟩) (fun r u H locs hq hP hD hS => ?_)
  have hrr := hq
  obtain rfl : r = 0 := hrr.trans (by decide)
  have hP : va_P D vwCl [(qm, .inr (11, [.ref (u2 0), .ref (u2 1), .ref (u2 2), .ref (u2 3), .long 0, .long 1, .ref (u2 4), .ref (u2 5), .ref (u2 6), .ref (u2 7), .ref (u2 8), .int 0, .int 0, .int 0, .int 0, .int 0, .ref (u2 9), .ref (u2 10)]))] H := hP
  have hD : va_D (fun q : Nat => s.heap.size ≤ q) [(qm, .inr (11, [.ref (u2 0), .ref (u2 1), .ref (u2 2), .ref (u2 3), .long 0, .long 1, .ref (u2 4), .ref (u2 5), .ref (u2 6), .ref (u2 7), .ref (u2 8), .int 0, .int 0, .int 0, .int 0, .int 0, .ref (u2 9), .ref (u2 10)]))] := hD
  refine lv_aload_n hx hb dL_law_294 rfl (lv_at hl 1 rfl) ?_
  have hs2 : kw_Split [(qm, .inr (11, [.ref (u2 0), .ref (u2 1), .ref (u2 2), .ref (u2 3), .long 0, .long 1, .ref (u2 4), .ref (u2 5), .ref (u2 6), .ref (u2 7), .ref (u2 8), .int 0, .int 0, .int 0, .int 0, .int 0, .ref (u2 9), .ref (u2 10)]))] [(qm, .inr (11, [.ref (u2 0), .ref (u2 1), .ref (u2 2), .ref (u2 3), .long 0, .long 1, .ref (u2 4), .ref (u2 5), .ref (u2 6), .ref (u2 7), .ref (u2 8), .int 0, .int 0, .int 0, .int 0, .int 0, .ref (u2 9), .ref (u2 10)]))] [] [0] [] := ⟨rfl, rfl, rfl, rfl, rfl, by decide⟩
  refine kw_go_i hs2 hP hD hS hA (va_runV (As := []) (rest := [.int 0]) ⟨hx, hb, hml, hown, hts⟩ (cq_clear l D y qm (u2 0) (u2 1) (u2 2) (u2 3) (u2 4) (u2 5) (u2 6) (u2 7) (u2 8) (u2 9) (u2 10)  _) (cwV 0 hts gL_law_X11_clear rfl rfl rfl (by decide +kernel) ⟨Nat.le_of_ble_eq_true rfl, Nat.le_of_ble_eq_true rfl⟩) (kw_PreV (ci := 11) (q0 := 0) hs2 hP hD hK hN rfl rfl) rfl rfl hl.1 rfl (lv_room (Nat.le_of_ble_eq_true rfl)) dL_law_295 ⟨Nat.le_of_ble_eq_true rfl, Nat.le_of_ble_eq_true rfl⟩) (fun r u H locs hq hP hD hS => ?_)
  have hrr := hq
  obtain rfl : r = 0 := hrr.trans (by decide)
  have hP : va_P D vwCl [] H := hP
  have hD : va_D (fun q : Nat => s.heap.size ≤ q) [] := hD
  refine lv_icmp_eq (tgt := 1145) hx hb dL_law_298 (by decide) (fun _ => ?_) (fun h9 => absurd h9 (by decide))
  refine lv_iinc (v := 6) (lv' := [(3, .int 6), (2, .ref qm), (1, .ref qx), (0, .ref b)]) hx hb dL_law_1145 hl (k := 0) rfl (by decide) (by decide) rfl (fun ls hl => ?_)
  refine lv_goto (tgt := 18) hx hb dL_law_1148 (by decide) ?_
  refine lv_iload_n hx hb dL_law_18 rfl (lv_at hl 0 rfl) ?_
  refine lv_aload_n hx hb dL_law_19 rfl (lv_at hl 3 rfl) ?_
  refine va_slen hx hb hX hbl hbA hS dL_law_20 ?_
  refine lv_topi (fun z3 hz3 => ?_)
  obtain rfl : z3 = 6 := hz3.trans (by first | rfl | decide | (simp [upd]; done))
  refine lv_bipush (v := 6) hx hb dL_law_21 (by decide) ?_
  refine lv_isub hx hb dL_law_23 ?_
  refine lv_topi (fun z4 hz4 => ?_)
  obtain rfl : z4 = 0 := hz4.trans (by first | rfl | decide | (simp [upd]; done))
  refine lv_icmp_gt (tgt := 1151) hx hb dL_law_24 (by decide) (fun _ => ?_) (fun h9 => absurd h9 (by decide))
  refine lv_iconst (v := 1) hx hb dL_law_1151 (by decide) ?_
  refine va_forget (fun q hq => hS.2.2 q hq) ?_
  refine W.widen (k := 600000) (n := 7302250) (Nat.le_of_ble_eq_true rfl) (Nat.le_of_ble_eq_true rfl) ?_
  exact lw_ret hx hb hr hlocks dL_law_1152

set_option maxHeartbeats 4000000 in
set_option maxRecDepth 100000 in
theorem lw_case5 {p : Program} {e : Env} {s : State} {m : MethodId} {below : List Frame} {meth : Method} {c : Code} (l : Launch) {b : Nat} {xs : Nat → Int32} (C0 : lw_At p s m meth c b 6 xs) {D : va_G} {y : Nat → ClassId} (hK : va_K D vwCl (kw_T y) s) (hN : kw_N s) (u1 u2 : Nat → Nat) (qx qm : Nat) {H : Heap} {locs : List Loc} {ls : Array Slot} (hP : va_P D vwCl (lw_world y u1 u2 qx qm) H) (hD : va_D (fun q : Nat => s.heap.size ≤ q) (lw_world y u1 u2 qx qm)) (hS : va_S (fun q : Nat => s.heap.size ≤ q) s.heap H locs) (hl : lv_has ls 4 [(3, .int 0), (2, .ref qm), (1, .ref qx), (0, .ref b)]) : W p l e room_1 s m #[Value.ref b] below meth c H locs 190 2130 (lw_Z below #[Value.ref b] s) (F0 m 303 ls []) := by
  obtain ⟨hx, hb, hr, hml, hown, hts0, hX, hbl, hlocks, hgv⟩ := id C0
  have hown : s.vm.findClass RL = some m.cls := hown
  have hts : ∀ w ∈ wsL_law, w.before #[Value.ref b] s = true := fun w h => hts0 w (wsL_law_in w h)
  have hA : ∀ q : Nat, s.heap.size ≤ q → (fun q : Nat => s.heap.size ≤ q) q := fun _ h => h
  have hbA : ¬ (fun q : Nat => s.heap.size ≤ q) b := Nat.not_le.mpr hbl
  have hP : va_P D vwCl [(qx, .inr (10, [.ref (u1 0), .ref (u1 1), .ref (u1 2), .ref (u1 3), .ref (u1 4), .ref (u1 5), .ref (u1 6), .ref (u1 7), .ref (u1 8), .ref (u1 9), .int 0, .int 1])), ((u1 4), .inr (7, [.ref (u1 47), .int 0, .int 0, .int 0, .int 0, .int 0, .ref (u1 48), .ref (u1 49), .ref (u1 50), .int 0, .int 0, .int 0])), (qm, .inr (11, [.ref (u2 0), .ref (u2 1), .ref (u2 2), .ref (u2 3), .long 0, .long 1, .ref (u2 4), .ref (u2 5), .ref (u2 6), .ref (u2 7), .ref (u2 8), .int 0, .int 0, .int 0, .int 0, .int 0, .ref (u2 9), .ref (u2 10)]))] H := hP.sub [0, 26, 33] rfl
  have hD : va_D (fun q : Nat => s.heap.size ≤ q) [(qx, .inr (10, [.ref (u1 0), .ref (u1 1), .ref (u1 2), .ref (u1 3), .ref (u1 4), .ref (u1 5), .ref (u1 6), .ref (u1 7), .ref (u1 8), .ref (u1 9), .int 0, .int 1])), ((u1 4), .inr (7, [.ref (u1 47), .int 0, .int 0, .int 0, .int 0, .int 0, .ref (u1 48), .ref (u1 49), .ref (u1 50), .int 0, .int 0, .int 0])), (qm, .inr (11, [.ref (u2 0), .ref (u2 1), .ref (u2 2), .ref (u2 3), .long 0, .long 1, .ref (u2 4), .ref (u2 5), .ref (u2 6), .ref (u2 7), .ref (u2 8), .int 0, .int 0, .int 0, .int 0, .int 0, .ref (u2 9), .ref (u2 10)]))] := hD.sub [0, 26, 33] (by decide) rfl
  refine lv_aload_n hx hb dL_law_303 rfl (lv_at hl 2 rfl) ?_
  have hs1 : kw_Split [(qx, .inr (10, [.ref (u1 0), .ref (u1 1), .ref (u1 2), .ref (u1 3), .ref (u1 4), .ref (u1 5), .ref (u1 6), .ref (u1 7), .ref (u1 8), .ref (u1 9), .int 0, .int 1])), ((u1 4), .inr (7, [.ref (u1 47), .int 0, .int 0, .int 0, .int 0, .int 0, .ref (u1 48), .ref (u1 49), .ref (u1 50), .int 0, .int 0, .int 0])), (qm, .inr (11, [.ref (u2 0), .ref (u2 1), .ref (u2 2), .ref (u2 3), .long 0, .long 1, .ref (u2 4), .ref (u2 5), .ref (u2 6), .ref (u2 7), .ref (u2 8), .int 0, .int 0, .int 0, .int 0, .int 0, .ref (u2 9), .ref (u2 10)]))] [(qx, .inr (10, [.ref (u1 0), .ref (u1 1), .ref (u1 2), .ref (u1 3), .ref (u1 4), .ref (u1 5), .ref (u1 6), .ref (u1 7), .ref (u1 8), .ref (u1 9), .int 0, .int 1])), ((u1 4), .inr (7, [.ref (u1 47), .int 0, .int 0, .int 0, .int 0, .int 0, .ref (u1 48), .ref (u1 49), .ref (u1 50), .int 0, .int 0, .int 0]))] [(qm, .inr (11, [.ref (u2 0), .ref (u2 1), .ref (u2 2), .ref (u2 3), .long 0, .long 1, .ref (u2 4), .ref (u2 5), .ref (u2 6), .ref (u2 7), .ref (u2 8), .int 0, .int 0, .int 0, .int 0, .int 0, .ref (u2 9), .ref (u2 10)]))] [0, 1] [2] := ⟨rfl, rfl, rfl, rfl, rfl, by decide⟩
  refine kw_go_i hs1 hP hD hS hA (va_runV (As := []) (rest := []) ⟨hx, hb, hml, hown, hts⟩ (cp_read l D y qx (u1 0) (u1 1) (u1 2) (u1 3) (u1 4) (u1 5) (u1 6) (u1 7) (u1 8) (u1 9) (u1 47) (u1 48) (u1 49) (u1 50)  _) (cwV 0 hts gL_law_X10_read rfl rfl rfl (by decide +kernel) ⟨Nat.le_of_ble_eq_true rfl, Nat.le_of_ble_eq_true rfl⟩) (kw_PreV (ci := 10) (q0 := 0) hs1 hP hD hK hN rfl rfl) rfl rfl hl.1 rfl (lv_room (Nat.le_of_ble_eq_true rfl)) dL_law_304 ⟨Nat.le_of_ble_eq_true rfl, Nat.le_of_ble_eq_true rfl⟩) (fun r u H locs hq hP hD hS => ?_)
  have hrr := hq
  obtain rfl : r = (-10) := hrr.trans (by decide)
  have hP : va_P D vwCl [(qm, .inr (11, [.ref (u2 0), .ref (u2 1), .ref (u2 2), .ref (u2 3), .long 0, .long 1, .ref (u2 4), .ref (u2 5), .ref (u2 6), .ref (u2 7), .ref (u2 8), .int 0, .int 0, .int 0, .int 0, .int 0, .ref (u2 9), .ref (u2 10)]))] H := hP
  have hD : va_D (fun q : Nat => s.heap.size ≤ q) [(qm, .inr (11, [.ref (u2 0), .ref (u2 1), .ref (u2 2), .ref (u2 3), .long 0, .long 1, .ref (u2 4), .ref (u2 5), .ref (u2 6), .ref (u2 7), .ref (u2 8), .int 0, .int 0, .int 0, .int 0, .int 0, .ref (u2 9), .ref (u2 10)]))] := hD
  refine lv_aload_n hx hb dL_law_307 rfl (lv_at hl 1 rfl) ?_
  have hs2 : kw_Split [(qm, .inr (11, [.ref (u2 0), .ref (u2 1), .ref (u2 2), .ref (u2 3), .long 0, .long 1, .ref (u2 4), .ref (u2 5), .ref (u2 6), .ref (u2 7), .ref (u2 8), .int 0, .int 0, .int 0, .int 0, .int 0, .ref (u2 9), .ref (u2 10)]))] [(qm, .inr (11, [.ref (u2 0), .ref (u2 1), .ref (u2 2), .ref (u2 3), .long 0, .long 1, .ref (u2 4), .ref (u2 5), .ref (u2 6), .ref (u2 7), .ref (u2 8), .int 0, .int 0, .int 0, .int 0, .int 0, .ref (u2 9), .ref (u2 10)]))] [] [0] [] := ⟨rfl, rfl, rfl, rfl, rfl, by decide⟩
  refine kw_go_i hs2 hP hD hS hA (va_runV (As := []) (rest := [.int (-10)]) ⟨hx, hb, hml, hown, hts⟩ (cq_read l D y qm (u2 0) (u2 1) (u2 2) (u2 3) (u2 4) (u2 5) (u2 6) (u2 7) (u2 8) (u2 9) (u2 10)  _) (cwV 0 hts gL_law_X11_read rfl rfl rfl (by decide +kernel) ⟨Nat.le_of_ble_eq_true rfl, Nat.le_of_ble_eq_true rfl⟩) (kw_PreV (ci := 11) (q0 := 0) hs2 hP hD hK hN rfl rfl) rfl rfl hl.1 rfl (lv_room (Nat.le_of_ble_eq_true rfl)) dL_law_308 ⟨Nat.le_of_ble_eq_true rfl, Nat.le_of_ble_eq_true rfl⟩) (fun r u H locs hq hP hD hS => ?_)
  have hrr := hq
  obtain rfl : r = (-10) := hrr.trans (by decide)
  have hP : va_P D vwCl [] H := hP
  have hD : va_D (fun q : Nat => s.heap.size ≤ q) [] := hD
  refine lv_icmp_eq (tgt := 1145) hx hb dL_law_311 (by decide) (fun _ => ?_) (fun h9 => absurd h9 (by decide))
  refine lv_iinc (v := 6) (lv' := [(3, .int 6), (2, .ref qm), (1, .ref qx), (0, .ref b)]) hx hb dL_law_1145 hl (k := 0) rfl (by decide) (by decide) rfl (fun ls hl => ?_)
  refine lv_goto (tgt := 18) hx hb dL_law_1148 (by decide) ?_
  refine lv_iload_n hx hb dL_law_18 rfl (lv_at hl 0 rfl) ?_
  refine lv_aload_n hx hb dL_law_19 rfl (lv_at hl 3 rfl) ?_
  refine va_slen hx hb hX hbl hbA hS dL_law_20 ?_
  refine lv_topi (fun z3 hz3 => ?_)
  obtain rfl : z3 = 6 := hz3.trans (by first | rfl | decide | (simp [upd]; done))
  refine lv_bipush (v := 6) hx hb dL_law_21 (by decide) ?_
  refine lv_isub hx hb dL_law_23 ?_
  refine lv_topi (fun z4 hz4 => ?_)
  obtain rfl : z4 = 0 := hz4.trans (by first | rfl | decide | (simp [upd]; done))
  refine lv_icmp_gt (tgt := 1151) hx hb dL_law_24 (by decide) (fun _ => ?_) (fun h9 => absurd h9 (by decide))
  refine lv_iconst (v := 1) hx hb dL_law_1151 (by decide) ?_
  refine va_forget (fun q hq => hS.2.2 q hq) ?_
  refine W.widen (k := 600000) (n := 7302250) (Nat.le_of_ble_eq_true rfl) (Nat.le_of_ble_eq_true rfl) ?_
  exact lw_ret hx hb hr hlocks dL_law_1152

set_option maxHeartbeats 4000000 in
set_option maxRecDepth 100000 in
theorem lw_case6 {p : Program} {e : Env} {s : State} {m : MethodId} {below : List Frame} {meth : Method} {c : Code} (l : Launch) {b : Nat} {xs : Nat → Int32} (C0 : lw_At p s m meth c b 6 xs) {D : va_G} {y : Nat → ClassId} (hK : va_K D vwCl (kw_T y) s) (hN : kw_N s) (u1 u2 : Nat → Nat) (qx qm : Nat) {H : Heap} {locs : List Loc} {ls : Array Slot} (hP : va_P D vwCl (lw_world y u1 u2 qx qm) H) (hD : va_D (fun q : Nat => s.heap.size ≤ q) (lw_world y u1 u2 qx qm)) (hS : va_S (fun q : Nat => s.heap.size ≤ q) s.heap H locs) (hl : lv_has ls 4 [(3, .int 0), (2, .ref qm), (1, .ref qx), (0, .ref b)]) : W p l e room_1 s m #[Value.ref b] below meth c H locs 190 2130 (lw_Z below #[Value.ref b] s) (F0 m 316 ls []) := by
  obtain ⟨hx, hb, hr, hml, hown, hts0, hX, hbl, hlocks, hgv⟩ := id C0
  have hown : s.vm.findClass RL = some m.cls := hown
  have hts : ∀ w ∈ wsL_law, w.before #[Value.ref b] s = true := fun w h => hts0 w (wsL_law_in w h)
  have hA : ∀ q : Nat, s.heap.size ≤ q → (fun q : Nat => s.heap.size ≤ q) q := fun _ h => h
  have hbA : ¬ (fun q : Nat => s.heap.size ≤ q) b := Nat.not_le.mpr hbl
  have hP : va_P D vwCl [(qx, .inr (10, [.ref (u1 0), .ref (u1 1), .ref (u1 2), .ref (u1 3), .ref (u1 4), .ref (u1 5), .ref (u1 6), .ref (u1 7), .ref (u1 8), .ref (u1 9), .int 0, .int 1])), ((u1 1), .inr (4, [.ref (u1 0), .ref (u1 10), .ref (u1 11), .ref (u1 12), .ref (u1 13), .ref (u1 14), .int 0, .int 0, .int 0, .int 0, .int 0])), ((u1 11), .inr (1, [.ref (u1 15), .ref (u1 16), .ref (u1 17), .int 0, .int 0, .int 0])), ((u1 15), .inl (y 0, 6, .inl (fun _ => 0))), ((u1 16), .inl (y 0, 5, .inl (fun _ => 0))), ((u1 17), .inl (y 0, 5, .inl (fun _ => 0))), ((u1 12), .inl (y 3, 8, .inr (.inr (.inr (.inr (va_up (va_up (va_up (va_up (va_up (va_up (va_up (va_up (fun _ => none) (0 : Int32).toNatClampNeg (some (u1 18))) (1 : Int32).toNatClampNeg (some (u1 19))) (2 : Int32).toNatClampNeg (some (u1 20))) (3 : Int32).toNatClampNeg (some (u1 21))) (4 : Int32).toNatClampNeg (some (u1 22))) (5 : Int32).toNatClampNeg (some (u1 23))) (6 : Int32).toNatClampNeg (some (u1 24))) (7 : Int32).toNatClampNeg (some (u1 25)))))))), ((u1 18), .inr (1, [.ref (u1 26), .ref (u1 27), .ref (u1 28), .int 0, .int 0, .int 0])), ((u1 26), .inl (y 0, 6, .inl (fun _ => 0))), ((u1 27), .inl (y 0, 5, .inl (fun _ => 0))), ((u1 28), .inl (y 0, 5, .inl (fun _ => 0))), ((u1 9), .inl (y 0, 3, .inl (fun _ => 0))), (qm, .inr (11, [.ref (u2 0), .ref (u2 1), .ref (u2 2), .ref (u2 3), .long 0, .long 1, .ref (u2 4), .ref (u2 5), .ref (u2 6), .ref (u2 7), .ref (u2 8), .int 0, .int 0, .int 0, .int 0, .int 0, .ref (u2 9), .ref (u2 10)])), ((u2 0), .inl (y 0, 228, .inl (fun _ => 0))), ((u2 3), .inl (y 0, 3, .inl (fun _ => 0)))] H := hP.sub [0, 1, 3, 4, 5, 6, 7, 8, 9, 10, 11, 32, 33, 34, 37] rfl
  have hD : va_D (fun q : Nat => s.heap.size ≤ q) [(qx, .inr (10, [.ref (u1 0), .ref (u1 1), .ref (u1 2), .ref (u1 3), .ref (u1 4), .ref (u1 5), .ref (u1 6), .ref (u1 7), .ref (u1 8), .ref (u1 9), .int 0, .int 1])), ((u1 1), .inr (4, [.ref (u1 0), .ref (u1 10), .ref (u1 11), .ref (u1 12), .ref (u1 13), .ref (u1 14), .int 0, .int 0, .int 0, .int 0, .int 0])), ((u1 11), .inr (1, [.ref (u1 15), .ref (u1 16), .ref (u1 17), .int 0, .int 0, .int 0])), ((u1 15), .inl (y 0, 6, .inl (fun _ => 0))), ((u1 16), .inl (y 0, 5, .inl (fun _ => 0))), ((u1 17), .inl (y 0, 5, .inl (fun _ => 0))), ((u1 12), .inl (y 3, 8, .inr (.inr (.inr (.inr (va_up (va_up (va_up (va_up (va_up (va_up (va_up (va_up (fun _ => none) (0 : Int32).toNatClampNeg (some (u1 18))) (1 : Int32).toNatClampNeg (some (u1 19))) (2 : Int32).toNatClampNeg (some (u1 20))) (3 : Int32).toNatClampNeg (some (u1 21))) (4 : Int32).toNatClampNeg (some (u1 22))) (5 : Int32).toNatClampNeg (some (u1 23))) (6 : Int32).toNatClampNeg (some (u1 24))) (7 : Int32).toNatClampNeg (some (u1 25)))))))), ((u1 18), .inr (1, [.ref (u1 26), .ref (u1 27), .ref (u1 28), .int 0, .int 0, .int 0])), ((u1 26), .inl (y 0, 6, .inl (fun _ => 0))), ((u1 27), .inl (y 0, 5, .inl (fun _ => 0))), ((u1 28), .inl (y 0, 5, .inl (fun _ => 0))), ((u1 9), .inl (y 0, 3, .inl (fun _ => 0))), (qm, .inr (11, [.ref (u2 0), .ref (u2 1), .ref (u2 2), .ref (u2 3), .long 0, .long 1, .ref (u2 4), .ref (u2 5), .ref (u2 6), .ref (u2 7), .ref (u2 8), .int 0, .int 0, .int 0, .int 0, .int 0, .ref (u2 9), .ref (u2 10)])), ((u2 0), .inl (y 0, 228, .inl (fun _ => 0))), ((u2 3), .inl (y 0, 3, .inl (fun _ => 0)))] := hD.sub [0, 1, 3, 4, 5, 6, 7, 8, 9, 10, 11, 32, 33, 34, 37] (by decide) rfl
  refine lv_aload_n hx hb dL_law_316 rfl (lv_at hl 2 rfl) ?_
  refine lv_aload_n hx hb dL_law_317 rfl (lv_at hl 3 rfl) ?_
  refine lv_iload_n hx hb dL_law_318 rfl (lv_at hl 0 rfl) ?_
  refine lv_iconst (v := 1) hx hb dL_law_319 (by decide) ?_
  refine lv_iadd hx hb dL_law_320 ?_
  refine lv_topi (fun z1 hz1 => ?_)
  obtain rfl : z1 = 1 := hz1.trans (by first | rfl | decide | (simp [upd]; done))
  refine va_sld hx hb hX hbl hbA hS (by unfold vp_in; decide) dL_law_321 ?_
  have hs2 : kw_Split [(qx, .inr (10, [.ref (u1 0), .ref (u1 1), .ref (u1 2), .ref (u1 3), .ref (u1 4), .ref (u1 5), .ref (u1 6), .ref (u1 7), .ref (u1 8), .ref (u1 9), .int 0, .int 1])), ((u1 1), .inr (4, [.ref (u1 0), .ref (u1 10), .ref (u1 11), .ref (u1 12), .ref (u1 13), .ref (u1 14), .int 0, .int 0, .int 0, .int 0, .int 0])), ((u1 11), .inr (1, [.ref (u1 15), .ref (u1 16), .ref (u1 17), .int 0, .int 0, .int 0])), ((u1 15), .inl (y 0, 6, .inl (fun _ => 0))), ((u1 16), .inl (y 0, 5, .inl (fun _ => 0))), ((u1 17), .inl (y 0, 5, .inl (fun _ => 0))), ((u1 12), .inl (y 3, 8, .inr (.inr (.inr (.inr (va_up (va_up (va_up (va_up (va_up (va_up (va_up (va_up (fun _ => none) (0 : Int32).toNatClampNeg (some (u1 18))) (1 : Int32).toNatClampNeg (some (u1 19))) (2 : Int32).toNatClampNeg (some (u1 20))) (3 : Int32).toNatClampNeg (some (u1 21))) (4 : Int32).toNatClampNeg (some (u1 22))) (5 : Int32).toNatClampNeg (some (u1 23))) (6 : Int32).toNatClampNeg (some (u1 24))) (7 : Int32).toNatClampNeg (some (u1 25)))))))), ((u1 18), .inr (1, [.ref (u1 26), .ref (u1 27), .ref (u1 28), .int 0, .int 0, .int 0])), ((u1 26), .inl (y 0, 6, .inl (fun _ => 0))), ((u1 27), .inl (y 0, 5, .inl (fun _ => 0))), ((u1 28), .inl (y 0, 5, .inl (fun _ => 0))), ((u1 9), .inl (y 0, 3, .inl (fun _ => 0))), (qm, .inr (11, [.ref (u2 0), .ref (u2 1), .ref (u2 2), .ref (u2 3), .long 0, .long 1, .ref (u2 4), .ref (u2 5), .ref (u2 6), .ref (u2 7), .ref (u2 8), .int 0, .int 0, .int 0, .int 0, .int 0, .ref (u2 9), .ref (u2 10)])), ((u2 0), .inl (y 0, 228, .inl (fun _ => 0))), ((u2 3), .inl (y 0, 3, .inl (fun _ => 0)))] [(qx, .inr (10, [.ref (u1 0), .ref (u1 1), .ref (u1 2), .ref (u1 3), .ref (u1 4), .ref (u1 5), .ref (u1 6), .ref (u1 7), .ref (u1 8), .ref (u1 9), .int 0, .int 1])), ((u1 9), .inl (y 0, 3, .inl (fun _ => 0))), ((u1 1), .inr (4, [.ref (u1 0), .ref (u1 10), .ref (u1 11), .ref (u1 12), .ref (u1 13), .ref (u1 14), .int 0, .int 0, .int 0, .int 0, .int 0])), ((u1 11), .inr (1, [.ref (u1 15), .ref (u1 16), .ref (u1 17), .int 0, .int 0, .int 0])), ((u1 15), .inl (y 0, 6, .inl (fun _ => 0))), ((u1 16), .inl (y 0, 5, .inl (fun _ => 0))), ((u1 17), .inl (y 0, 5, .inl (fun _ => 0))), ((u1 12), .inl (y 3, 8, .inr (.inr (.inr (.inr (va_up (va_up (va_up (va_up (va_up (va_up (va_up (va_up (fun _ => none) (0 : Int32).toNatClampNeg (some (u1 18))) (1 : Int32).toNatClampNeg (some (u1 19))) (2 : Int32).toNatClampNeg (some (u1 20))) (3 : Int32).toNatClampNeg (some (u1 21))) (4 : Int32).toNatClampNeg (some (u1 22))) (5 : Int32).toNatClampNeg (some (u1 23))) (6 : Int32).toNatClampNeg (some (u1 24))) (7 : Int32).toNatClampNeg (some (u1 25)))))))), ((u1 18), .inr (1, [.ref (u1 26), .ref (u1 27), .ref (u1 28), .int 0, .int 0, .int 0])), ((u1 26), .inl (y 0, 6, .inl (fun _ => 0))), ((u1 27), .inl (y 0, 5, .inl (fun _ => 0))), ((u1 28), .inl (y 0, 5, .inl (fun _ => 0)))] [(qm, .inr (11, [.ref (u2 0), .ref (u2 1), .ref (u2 2), .ref (u2 3), .long 0, .long 1, .ref (u2 4), .ref (u2 5), .ref (u2 6), .ref (u2 7), .ref (u2 8), .int 0, .int 0, .int 0, .int 0, .int 0, .ref (u2 9), .ref (u2 10)])), ((u2 0), .inl (y 0, 228, .inl (fun _ => 0))), ((u2 3), .inl (y 0, 3, .inl (fun _ => 0)))] [0, 11, 1, 2, 3, 4, 5, 6, 7, 8, 9, 10] [12, 13, 14] := ⟨rfl, rfl, rfl, rfl, rfl, by decide⟩
  refine kw_go_i hs2 hP hD hS hA (va_runV (As := [.int (xs (1 : Int32).toNatClampNeg)]) (rest := []) ⟨hx, hb, hml, hown, hts⟩ (cp_glean l D y qx (u1 0) (u1 1) (u1 2) (u1 3) (u1 4) (u1 5) (u1 6) (u1 7) (u1 8) (u1 9) (u1 10) (u1 11) (u1 12) (u1 13) (u1 14) (u1 15) (u1 16) (u1 17) (u1 18) (u1 26) (u1 27) (u1 28) (va_up (va_up (va_up (va_up (va_up (va_up (va_up (va_up (fun _ => none) (0 : Int32).toNatClampNeg (some (u1 18))) (1 : Int32).toNatClampNeg (some (u1 19))) (2 : Int32).toNatClampNeg (some (u1 20))) (3 : Int32).toNatClampNeg (some (u1 21))) (4 : Int32).toNatClampNeg (some (u1 22))) (5 : Int32).toNatClampNeg (some (u1 23))) (6 : Int32).toNatClampNeg (some (u1 24))) (7 : Int32).toNatClampNeg (some (u1 25))) (xs (1 : Int32).toNatClampNeg) (by first | assumption | rfl | simp [va_up]) _) (cwV 1 hts gL_law_X10_glean rfl rfl rfl (by decide +kernel) ⟨Nat.le_of_ble_eq_true rfl, Nat.le_of_ble_eq_true rfl⟩) (kw_PreV (ci := 10) (q0 := 0) hs2 hP hD hK hN rfl rfl) rfl rfl hl.1 rfl (lv_room (Nat.le_of_ble_eq_true rfl)) dL_law_322 ⟨Nat.le_of_ble_eq_true rfl, Nat.le_of_ble_eq_true rfl⟩) (fun r u H locs hq hP hD hS => ?_)
  obtain rfl := hq
  have hP : va_P D vwCl [(qm, .inr (11, [.ref (u2 0), .ref (u2 1), .ref (u2 2), .ref (u2 3), .long 0, .long 1, .ref (u2 4), .ref (u2 5), .ref (u2 6), .ref (u2 7), .ref (u2 8), .int 0, .int 0, .int 0, .int 0, .int 0, .ref (u2 9), .ref (u2 10)])), ((u2 0), .inl (y 0, 228, .inl (fun _ => 0))), ((u2 3), .inl (y 0, 3, .inl (fun _ => 0)))] H := hP
  have hD : va_D (fun q : Nat => s.heap.size ≤ q) [(qm, .inr (11, [.ref (u2 0), .ref (u2 1), .ref (u2 2), .ref (u2 3), .long 0, .long 1, .ref (u2 4), .ref (u2 5), .ref (u2 6), .ref (u2 7), .ref (u2 8), .int 0, .int 0, .int 0, .int 0, .int 0, .ref (u2 9), .ref (u2 10)])), ((u2 0), .inl (y 0, 228, .inl (fun _ => 0))), ((u2 3), .inl (y 0, 3, .inl (fun _ => 0)))] := hD
  refine lv_aload_n hx hb dL_law_325 rfl (lv_at hl 1 rfl) ?_
  refine lv_aload_n hx hb dL_law_326 rfl (lv_at hl 3 rfl) ?_
  refine lv_iload_n hx hb dL_law_327 rfl (lv_at hl 0 rfl) ?_
  refine lv_iconst (v := 1) hx hb dL_law_328 (by decide) ?_
  refine lv_iadd hx hb dL_law_329 ?_
  refine lv_topi (fun z3 hz3 => ?_)
  obtain rfl : z3 = 1 := hz3.trans (by first | rfl | decide | (simp [upd]; done))
  refine va_sld hx hb hX hbl hbA hS (by unfold vp_in; decide) dL_law_330 ?_
  have hs4 : kw_Split [(qm, .inr (11, [.ref (u2 0), .ref (u2 1), .ref (u2 2), .ref (u2 3), .long 0, .long 1, .ref (u2 4), .ref (u2 5), .ref (u2 6), .ref (u2 7), .ref (u2 8), .int 0, .int 0, .int 0, .int 0, .int 0, .ref (u2 9), .ref (u2 10)])), ((u2 0), .inl (y 0, 228, .inl (fun _ => 0))), ((u2 3), .inl (y 0, 3, .inl (fun _ => 0)))] [(qm, .inr (11, [.ref (u2 0), .ref (u2 1), .ref (u2 2), .ref (u2 3), .long 0, .long 1, .ref (u2 4), .ref (u2 5), .ref (u2 6), .ref (u2 7), .ref (u2 8), .int 0, .int 0, .int 0, .int 0, .int 0, .ref (u2 9), .ref (u2 10)])), ((u2 3), .inl (y 0, 3, .inl (fun _ => 0))), ((u2 0), .inl (y 0, 228, .inl (fun _ => 0)))] [] [0, 2, 1] [] := ⟨rfl, rfl, rfl, rfl, rfl, by decide⟩
  refine kw_go_i hs4 hP hD hS hA (va_runV (As := [.int (xs (1 : Int32).toNatClampNeg)]) (rest := [.int (sp_glean (xs (1 : Int32).toNatClampNeg))]) ⟨hx, hb, hml, hown, hts⟩ (cq_glean l D y qm (u2 0) (u2 1) (u2 2) (u2 3) (u2 4) (u2 5) (u2 6) (u2 7) (u2 8) (u2 9) (u2 10) (xs (1 : Int32).toNatClampNeg)  _) (cwV 1 hts gL_law_X11_glean rfl rfl rfl (by decide +kernel) ⟨Nat.le_of_ble_eq_true rfl, Nat.le_of_ble_eq_true rfl⟩) (kw_PreV (ci := 11) (q0 := 0) hs4 hP hD hK hN rfl rfl) rfl rfl hl.1 rfl (lv_room (Nat.le_of_ble_eq_true rfl)) dL_law_331 ⟨Nat.le_of_ble_eq_true rfl, Nat.le_of_ble_eq_true rfl⟩) (fun r u H locs hq hP hD hS => ?_)
  obtain rfl := hq
  have hP : va_P D vwCl [] H := hP
  have hD : va_D (fun q : Nat => s.heap.size ≤ q) [] := hD
  refine lv_icmp_eq (tgt := 1145) hx hb dL_law_334 (by decide) (fun _ => ?_) (fun h9 => absurd rfl h9)
  refine lv_iinc (v := 6) (lv' := [(3, .int 6), (2, .ref qm), (1, .ref qx), (0, .ref b)]) hx hb dL_law_1145 hl (k := 0) rfl (by decide) (by decide) rfl (fun ls hl => ?_)
  refine lv_goto (tgt := 18) hx hb dL_law_1148 (by decide) ?_
  refine lv_iload_n hx hb dL_law_18 rfl (lv_at hl 0 rfl) ?_
  refine lv_aload_n hx hb dL_law_19 rfl (lv_at hl 3 rfl) ?_
  refine va_slen hx hb hX hbl hbA hS dL_law_20 ?_
  refine lv_topi (fun z5 hz5 => ?_)
  obtain rfl : z5 = 6 := hz5.trans (by first | rfl | decide | (simp [upd]; done))
  refine lv_bipush (v := 6) hx hb dL_law_21 (by decide) ?_
  refine lv_isub hx hb dL_law_23 ?_
  refine lv_topi (fun z6 hz6 => ?_)
  obtain rfl : z6 = 0 := hz6.trans (by first | rfl | decide | (simp [upd]; done))
  refine lv_icmp_gt (tgt := 1151) hx hb dL_law_24 (by decide) (fun _ => ?_) (fun h9 => absurd h9 (by decide))
  refine lv_iconst (v := 1) hx hb dL_law_1151 (by decide) ?_
  refine va_forget (fun q hq => hS.2.2 q hq) ?_
  refine W.widen (k := 600000) (n := 7302250) (Nat.le_of_ble_eq_true rfl) (Nat.le_of_ble_eq_true rfl) ?_
  exact lw_ret hx hb hr hlocks dL_law_1152
