set_option maxHeartbeats 4000000 in
set_option maxRecDepth 100000 in
theorem lw_case31 {p : Program} {e : Env} {s : State} {m : MethodId} {below : List Frame} {meth : Method} {c : Code} (l : Launch) {b : Nat} {xs : Nat → Int32} (C0 : lw_At p s m meth c b 6 xs) {D : va_G} {y : Nat → ClassId} (hK : va_K D vwCl (kw_T y) s) (hN : kw_N s) (u1 u2 : Nat → Nat) (qx qm : Nat) {H : Heap} {locs : List Loc} {ls : Array Slot} (hP : va_P D vwCl (lw_world y u1 u2 qx qm) H) (hD : va_D (fun q : Nat => s.heap.size ≤ q) (lw_world y u1 u2 qx qm)) (hS : va_S (fun q : Nat => s.heap.size ≤ q) s.heap H locs) (hl : lv_has ls 4 [(3, .int 0), (2, .ref qm), (1, .ref qx), (0, .ref b)]) : W p l e room_1 s m #[Value.ref b] below meth c H locs 190 2130 (lw_Z below #[Value.ref b] s) (F0 m 1062 ls []) := by
  obtain ⟨hx, hb, hr, hml, hown, hts0, hX, hbl, hlocks, hgv⟩ := id C0
  have hown : s.vm.findClass RL = some m.cls := hown
  have hts : ∀ w ∈ wsL_law, w.before #[Value.ref b] s = true := fun w h => hts0 w (wsL_law_in w h)
  have hA : ∀ q : Nat, s.heap.size ≤ q → (fun q : Nat => s.heap.size ≤ q) q := fun _ h => h
  have hbA : ¬ (fun q : Nat => s.heap.size ≤ q) b := Nat.not_le.mpr hbl
  have hP : va_P D vwCl [(qx, .inr (10, [.ref (u1 0), .ref (u1 1), .ref (u1 2), .ref (u1 3), .ref (u1 4), .ref (u1 5), .ref (u1 6), .ref (u1 7), .ref (u1 8), .ref (u1 9), .int 0, .int 1])), ((u1 3), .inl (y 2, 2, .inl (fun _ => 0))), ((u1 9), .inl (y 0, 3, .inl (fun _ => 0))), (qm, .inr (11, [.ref (u2 0), .ref (u2 1), .ref (u2 2), .ref (u2 3), .long 0, .long 1, .ref (u2 4), .ref (u2 5), .ref (u2 6), .ref (u2 7), .ref (u2 8), .int 0, .int 0, .int 0, .int 0, .int 0, .ref (u2 9), .ref (u2 10)])), ((u2 2), .inl (y 2, 2, .inl (fun _ => 0))), ((u2 3), .inl (y 0, 3, .inl (fun _ => 0)))] H := hP.sub [0, 25, 32, 33, 36, 37] rfl
  have hD : va_D (fun q : Nat => s.heap.size ≤ q) [(qx, .inr (10, [.ref (u1 0), .ref (u1 1), .ref (u1 2), .ref (u1 3), .ref (u1 4), .ref (u1 5), .ref (u1 6), .ref (u1 7), .ref (u1 8), .ref (u1 9), .int 0, .int 1])), ((u1 3), .inl (y 2, 2, .inl (fun _ => 0))), ((u1 9), .inl (y 0, 3, .inl (fun _ => 0))), (qm, .inr (11, [.ref (u2 0), .ref (u2 1), .ref (u2 2), .ref (u2 3), .long 0, .long 1, .ref (u2 4), .ref (u2 5), .ref (u2 6), .ref (u2 7), .ref (u2 8), .int 0, .int 0, .int 0, .int 0, .int 0, .ref (u2 9), .ref (u2 10)])), ((u2 2), .inl (y 2, 2, .inl (fun _ => 0))), ((u2 3), .inl (y 0, 3, .inl (fun _ => 0)))] := hD.sub [0, 25, 32, 33, 36, 37] (by decide) rfl
  refine lv_aload_n hx hb dL_law_1062 rfl (lv_at hl 2 rfl) ?_
  refine lv_aload_n hx hb dL_law_1063 rfl (lv_at hl 3 rfl) ?_
  refine lv_iload_n hx hb dL_law_1064 rfl (lv_at hl 0 rfl) ?_
  refine lv_iconst (v := 1) hx hb dL_law_1065 (by decide) ?_
  refine lv_iadd hx hb dL_law_1066 ?_
  refine lv_topi (fun z1 hz1 => ?_)
  obtain rfl : z1 = 1 := hz1.trans (by first | rfl | decide | (simp [upd]; done))
  refine va_sld hx hb hX hbl hbA hS (by unfold vp_in; decide) dL_law_1067 ?_
  have hs2 : kw_Split [(qx, .inr (10, [.ref (u1 0), .ref (u1 1), .ref (u1 2), .ref (u1 3), .ref (u1 4), .ref (u1 5), .ref (u1 6), .ref (u1 7), .ref (u1 8), .ref (u1 9), .int 0, .int 1])), ((u1 3), .inl (y 2, 2, .inl (fun _ => 0))), ((u1 9), .inl (y 0, 3, .inl (fun _ => 0))), (qm, .inr (11, [.ref (u2 0), .ref (u2 1), .ref (u2 2), .ref (u2 3), .long 0, .long 1, .ref (u2 4), .ref (u2 5), .ref (u2 6), .ref (u2 7), .ref (u2 8), .int 0, .int 0, .int 0, .int 0, .int 0, .ref (u2 9), .ref (u2 10)])), ((u2 2), .inl (y 2, 2, .inl (fun _ => 0))), ((u2 3), .inl (y 0, 3, .inl (fun _ => 0)))] [(qx, .inr (10, [.ref (u1 0), .ref (u1 1), .ref (u1 2), .ref (u1 3), .ref (u1 4), .ref (u1 5), .ref (u1 6), .ref (u1 7), .ref (u1 8), .ref (u1 9), .int 0, .int 1])), ((u1 9), .inl (y 0, 3, .inl (fun _ => 0))), ((u1 3), .inl (y 2, 2, .inl (fun _ => 0)))] [(qm, .inr (11, [.ref (u2 0), .ref (u2 1), .ref (u2 2), .ref (u2 3), .long 0, .long 1, .ref (u2 4), .ref (u2 5), .ref (u2 6), .ref (u2 7), .ref (u2 8), .int 0, .int 0, .int 0, .int 0, .int 0, .ref (u2 9), .ref (u2 10)])), ((u2 2), .inl (y 2, 2, .inl (fun _ => 0))), ((u2 3), .inl (y 0, 3, .inl (fun _ => 0)))] [0, 2, 1] [3, 4, 5] := ⟨rfl, rfl, rfl, rfl, rfl, by decide⟩
  refine kw_go_i hs2 hP hD hS hA (va_runV (As := [.int (xs (1 : Int32).toNatClampNeg)]) (rest := []) ⟨hx, hb, hml, hown, hts⟩ (cp_from l D y qx (u1 0) (u1 1) (u1 2) (u1 3) (u1 4) (u1 5) (u1 6) (u1 7) (u1 8) (u1 9) (xs (1 : Int32).toNatClampNeg)  _) (cwV 1 hts gL_law_X10_from rfl rfl rfl (by decide +kernel) ⟨Nat.le_of_ble_eq_true rfl, Nat.le_of_ble_eq_true rfl⟩) (kw_PreV (ci := 10) (q0 := 0) hs2 hP hD hK hN rfl rfl) rfl rfl hl.1 rfl (lv_room (Nat.le_of_ble_eq_true rfl)) dL_law_1068 ⟨Nat.le_of_ble_eq_true rfl, Nat.le_of_ble_eq_true rfl⟩) (fun r u H locs hq hP hD hS => ?_)
  obtain rfl := hq
  have hP : va_P D vwCl [(qm, .inr (11, [.ref (u2 0), .ref (u2 1), .ref (u2 2), .ref (u2 3), .long 0, .long 1, .ref (u2 4), .ref (u2 5), .ref (u2 6), .ref (u2 7), .ref (u2 8), .int 0, .int 0, .int 0, .int 0, .int 0, .ref (u2 9), .ref (u2 10)])), ((u2 2), .inl (y 2, 2, .inl (fun _ => 0))), ((u2 3), .inl (y 0, 3, .inl (fun _ => 0)))] H := hP
  have hD : va_D (fun q : Nat => s.heap.size ≤ q) [(qm, .inr (11, [.ref (u2 0), .ref (u2 1), .ref (u2 2), .ref (u2 3), .long 0, .long 1, .ref (u2 4), .ref (u2 5), .ref (u2 6), .ref (u2 7), .ref (u2 8), .int 0, .int 0, .int 0, .int 0, .int 0, .ref (u2 9), .ref (u2 10)])), ((u2 2), .inl (y 2, 2, .inl (fun _ => 0))), ((u2 3), .inl (y 0, 3, .inl (fun _ => 0)))] := hD
  refine lv_aload_n hx hb dL_law_1071 rfl (lv_at hl 1 rfl) ?_
  refine lv_aload_n hx hb dL_law_1072 rfl (lv_at hl 3 rfl) ?_
  refine lv_iload_n hx hb dL_law_1073 rfl (lv_at hl 0 rfl) ?_
  refine lv_iconst (v := 1) hx hb dL_law_1074 (by decide) ?_
  refine lv_iadd hx hb dL_law_1075 ?_
  refine lv_topi (fun z3 hz3 => ?_)
  obtain rfl : z3 = 1 := hz3.trans (by first | rfl | decide | (simp [upd]; done))
  refine va_sld hx hb hX hbl hbA hS (by unfold vp_in; decide) dL_law_1076 ?_
  have hs4 : kw_Split [(qm, .inr (11, [.ref (u2 0), .ref (u2 1), .ref (u2 2), .ref (u2 3), .long 0, .long 1, .ref (u2 4), .ref (u2 5), .ref (u2 6), .ref (u2 7), .ref (u2 8), .int 0, .int 0, .int 0, .int 0, .int 0, .ref (u2 9), .ref (u2 10)])), ((u2 2), .inl (y 2, 2, .inl (fun _ => 0))), ((u2 3), .inl (y 0, 3, .inl (fun _ => 0)))] [(qm, .inr (11, [.ref (u2 0), .ref (u2 1), .ref (u2 2), .ref (u2 3), .long 0, .long 1, .ref (u2 4), .ref (u2 5), .ref (u2 6), .ref (u2 7), .ref (u2 8), .int 0, .int 0, .int 0, .int 0, .int 0, .ref (u2 9), .ref (u2 10)])), ((u2 3), .inl (y 0, 3, .inl (fun _ => 0))), ((u2 2), .inl (y 2, 2, .inl (fun _ => 0)))] [] [0, 2, 1] [] := ⟨rfl, rfl, rfl, rfl, rfl, by decide⟩
  refine kw_go_i hs4 hP hD hS hA (va_runV (As := [.int (xs (1 : Int32).toNatClampNeg)]) (rest := [.int (sp_from (xs (1 : Int32).toNatClampNeg))]) ⟨hx, hb, hml, hown, hts⟩ (cq_from l D y qm (u2 0) (u2 1) (u2 2) (u2 3) (u2 4) (u2 5) (u2 6) (u2 7) (u2 8) (u2 9) (u2 10) (xs (1 : Int32).toNatClampNeg)  _) (cwV 1 hts gL_law_X11_from rfl rfl rfl (by decide +kernel) ⟨Nat.le_of_ble_eq_true rfl, Nat.le_of_ble_eq_true rfl⟩) (kw_PreV (ci := 11) (q0 := 0) hs4 hP hD hK hN rfl rfl) rfl rfl hl.1 rfl (lv_room (Nat.le_of_ble_eq_true rfl)) dL_law_1077 ⟨Nat.le_of_ble_eq_true rfl, Nat.le_of_ble_eq_true rfl⟩) (fun r u H locs hq hP hD hS => ?_)
  obtain rfl := hq
  have hP : va_P D vwCl [] H := hP
  have hD : va_D (fun q : Nat => s.heap.size ≤ q) [] := hD
  refine lv_icmp_eq (tgt := 1145) hx hb dL_law_1080 (by decide) (fun _ => ?_) (fun h9 => absurd rfl h9)
  refine lv_iinc (v := 6) (lv' := [(3, .int 6), (2, .ref qm), (1, .ref qx), (0, .ref b)]) hx hb dL_law_1145 hl (k := 0) rfl (by decide) (by decide) rfl (fun ls hl => ?_)
  refine lv_goto (tgt := 18) hx hb dL_law_1148 (by decide) ?_
  refine lv_iload_n hx hb dL_law_18 rfl (lv_at hl 0 rfl) ?_
  refine lv_aload_n hx hb dL_law_19 rfl (lv_at hl 3 rfl) ?_
  refine va_slen hx hb hX hbl hbA hS dL_law_20 ?_
  refine lv_topi (fun z5 hz5 => ?_)
  obtain rfl : z5 = 6 := hz5.trans (by first | rfl | decide | (simp [upd]; done))
  refine lv_bipush (v := 6) hx hb dL_law_21 (by decide) ?_
  refine lv_isub hx hb dL_law_23 ?_
  refine lv_topi (fun z6 hz6 => ?_)
  obtain rfl : z6 = 0 := hz6.trans (by first | rfl | decide | (simp [upd]; done))
  refine lv_icmp_gt (tgt := 1151) hx hb dL_law_24 (by decide) (fun _ => ?_) (fun h9 => absurd h9 (by decide))
  refine lv_iconst (v := 1) hx hb dL_law_1151 (by decide) ?_
  refine va_forget (fun q hq => hS.2.2 q hq) ?_
  refine W.widen (k := 600000) (n := 7302250) (Nat.le_of_ble_eq_true rfl) (Nat.le_of_ble_eq_true rfl) ?_
  exact lw_ret hx hb hr hlocks dL_law_1152

set_option maxHeartbeats 4000000 in
set_option maxRecDepth 100000 in
theorem lw_case32 {p : Program} {e : Env} {s : State} {m : MethodId} {below : List Frame} {meth : Method} {c : Code} (l : Launch) {b : Nat} {xs : Nat → Int32} (C0 : lw_At p s m meth c b 6 xs) {D : va_G} {y : Nat → ClassId} (hK : va_K D vwCl (kw_T y) s) (hN : kw_N s) (u1 u2 : Nat → Nat) (qx qm : Nat) {H : Heap} {locs : List Loc} {ls : Array Slot} (hP : va_P D vwCl (lw_world y u1 u2 qx qm) H) (hD : va_D (fun q : Nat => s.heap.size ≤ q) (lw_world y u1 u2 qx qm)) (hS : va_S (fun q : Nat => s.heap.size ≤ q) s.heap H locs) (hl : lv_has ls 4 [(3, .int 0), (2, .ref qm), (1, .ref qx), (0, .ref b)]) : W p l e room_1 s m #[Value.ref b] below meth c H locs 190 2130 (lw_Z below #[Value.ref b] s) (F0 m 1085 ls []) := by
  obtain ⟨hx, hb, hr, hml, hown, hts0, hX, hbl, hlocks, hgv⟩ := id C0
  have hown : s.vm.findClass RL = some m.cls := hown
  have hts : ∀ w ∈ wsL_law, w.before #[Value.ref b] s = true := fun w h => hts0 w (wsL_law_in w h)
  have hA : ∀ q : Nat, s.heap.size ≤ q → (fun q : Nat => s.heap.size ≤ q) q := fun _ h => h
  have hbA : ¬ (fun q : Nat => s.heap.size ≤ q) b := Nat.not_le.mpr hbl
  have hP : va_P D vwCl [(qx, .inr (10, [.ref (u1 0), .ref (u1 1), .ref (u1 2), .ref (u1 3), .ref (u1 4), .ref (u1 5), .ref (u1 6), .ref (u1 7), .ref (u1 8), .ref (u1 9), .int 0, .int 1])), ((u1 9), .inl (y 0, 3, .inl (fun _ => 0))), (qm, .inr (11, [.ref (u2 0), .ref (u2 1), .ref (u2 2), .ref (u2 3), .long 0, .long 1, .ref (u2 4), .ref (u2 5), .ref (u2 6), .ref (u2 7), .ref (u2 8), .int 0, .int 0, .int 0, .int 0, .int 0, .ref (u2 9), .ref (u2 10)])), ((u2 3), .inl (y 0, 3, .inl (fun _ => 0)))] H := hP.sub [0, 32, 33, 37] rfl
  have hD : va_D (fun q : Nat => s.heap.size ≤ q) [(qx, .inr (10, [.ref (u1 0), .ref (u1 1), .ref (u1 2), .ref (u1 3), .ref (u1 4), .ref (u1 5), .ref (u1 6), .ref (u1 7), .ref (u1 8), .ref (u1 9), .int 0, .int 1])), ((u1 9), .inl (y 0, 3, .inl (fun _ => 0))), (qm, .inr (11, [.ref (u2 0), .ref (u2 1), .ref (u2 2), .ref (u2 3), .long 0, .long 1, .ref (u2 4), .ref (u2 5), .ref (u2 6), .ref (u2 7), .ref (u2 8), .int 0, .int 0, .int 0, .int 0, .int 0, .ref (u2 9), .ref (u2 10)])), ((u2 3), .inl (y 0, 3, .inl (fun _ => 0)))] := hD.sub [0, 32, 33, 37] (by decide) rfl
  refine lv_aload_n hx hb dL_law_1085 rfl (lv_at hl 2 rfl) ?_
  refine lv_aload_n hx hb dL_law_1086 rfl (lv_at hl 3 rfl) ?_
  refine lv_iload_n hx hb dL_law_1087 rfl (lv_at hl 0 rfl) ?_
  refine lv_iconst (v := 1) hx hb dL_law_1088 (by decide) ?_
  refine lv_iadd hx hb dL_law_1089 ?_
  refine lv_topi (fun z1 hz1 => ?_)
  obtain rfl : z1 = 1 := hz1.trans (by first | rfl | decide | (simp [upd]; done))
  refine va_sld hx hb hX hbl hbA hS (by unfold vp_in; decide) dL_law_1090 ?_
  have hs2 : kw_Split [(qx, .inr (10, [.ref (u1 0), .ref (u1 1), .ref (u1 2), .ref (u1 3), .ref (u1 4), .ref (u1 5), .ref (u1 6), .ref (u1 7), .ref (u1 8), .ref (u1 9), .int 0, .int 1])), ((u1 9), .inl (y 0, 3, .inl (fun _ => 0))), (qm, .inr (11, [.ref (u2 0), .ref (u2 1), .ref (u2 2), .ref (u2 3), .long 0, .long 1, .ref (u2 4), .ref (u2 5), .ref (u2 6), .ref (u2 7), .ref (u2 8), .int 0, .int 0, .int 0, .int 0, .int 0, .ref (u2 9), .ref (u2 10)])), ((u2 3), .inl (y 0, 3, .inl (fun _ => 0)))] [(qx, .inr (10, [.ref (u1 0), .ref (u1 1), .ref (u1 2), .ref (u1 3), .ref (u1 4), .ref (u1 5), .ref (u1 6), .ref (u1 7), .ref (u1 8), .ref (u1 9), .int 0, .int 1])), ((u1 9), .inl (y 0, 3, .inl (fun _ => 0)))] [(qm, .inr (11, [.ref (u2 0), .ref (u2 1), .ref (u2 2), .ref (u2 3), .long 0, .long 1, .ref (u2 4), .ref (u2 5), .ref (u2 6), .ref (u2 7), .ref (u2 8), .int 0, .int 0, .int 0, .int 0, .int 0, .ref (u2 9), .ref (u2 10)])), ((u2 3), .inl (y 0, 3, .inl (fun _ => 0)))] [0, 1] [2, 3] := ⟨rfl, rfl, rfl, rfl, rfl, by decide⟩
  refine kw_go_i hs2 hP hD hS hA (va_runV (As := [.int (xs (1 : Int32).toNatClampNeg)]) (rest := []) ⟨hx, hb, hml, hown, hts⟩ (cp_status l D y qx (u1 0) (u1 1) (u1 2) (u1 3) (u1 4) (u1 5) (u1 6) (u1 7) (u1 8) (u1 9) (xs (1 : Int32).toNatClampNeg)  _) (cwV 1 hts gL_law_X10_status rfl rfl rfl (by decide +kernel) ⟨Nat.le_of_ble_eq_true rfl, Nat.le_of_ble_eq_true rfl⟩) (kw_PreV (ci := 10) (q0 := 0) hs2 hP hD hK hN rfl rfl) rfl rfl hl.1 rfl (lv_room (Nat.le_of_ble_eq_true rfl)) dL_law_1091 ⟨Nat.le_of_ble_eq_true rfl, Nat.le_of_ble_eq_true rfl⟩) (fun r u H locs hq hP hD hS => ?_)
  obtain rfl := hq
  have hP : va_P D vwCl [(qm, .inr (11, [.ref (u2 0), .ref (u2 1), .ref (u2 2), .ref (u2 3), .long 0, .long 1, .ref (u2 4), .ref (u2 5), .ref (u2 6), .ref (u2 7), .ref (u2 8), .int 0, .int 0, .int 0, .int 0, .int 0, .ref (u2 9), .ref (u2 10)])), ((u2 3), .inl (y 0, 3, .inl (fun _ => 0)))] H := hP
  have hD : va_D (fun q : Nat => s.heap.size ≤ q) [(qm, .inr (11, [.ref (u2 0), .ref (u2 1), .ref (u2 2), .ref (u2 3), .long 0, .long 1, .ref (u2 4), .ref (u2 5), .ref (u2 6), .ref (u2 7), .ref (u2 8), .int 0, .int 0, .int 0, .int 0, .int 0, .ref (u2 9), .ref (u2 10)])), ((u2 3), .inl (y 0, 3, .inl (fun _ => 0)))] := hD
  refine lv_aload_n hx hb dL_law_1094 rfl (lv_at hl 1 rfl) ?_
  refine lv_aload_n hx hb dL_law_1095 rfl (lv_at hl 3 rfl) ?_
  refine lv_iload_n hx hb dL_law_1096 rfl (lv_at hl 0 rfl) ?_
  refine lv_iconst (v := 1) hx hb dL_law_1097 (by decide) ?_
  refine lv_iadd hx hb dL_law_1098 ?_
  refine lv_topi (fun z3 hz3 => ?_)
  obtain rfl : z3 = 1 := hz3.trans (by first | rfl | decide | (simp [upd]; done))
  refine va_sld hx hb hX hbl hbA hS (by unfold vp_in; decide) dL_law_1099 ?_
  have hs4 : kw_Split [(qm, .inr (11, [.ref (u2 0), .ref (u2 1), .ref (u2 2), .ref (u2 3), .long 0, .long 1, .ref (u2 4), .ref (u2 5), .ref (u2 6), .ref (u2 7), .ref (u2 8), .int 0, .int 0, .int 0, .int 0, .int 0, .ref (u2 9), .ref (u2 10)])), ((u2 3), .inl (y 0, 3, .inl (fun _ => 0)))] [(qm, .inr (11, [.ref (u2 0), .ref (u2 1), .ref (u2 2), .ref (u2 3), .long 0, .long 1, .ref (u2 4), .ref (u2 5), .ref (u2 6), .ref (u2 7), .ref (u2 8), .int 0, .int 0, .int 0, .int 0, .int 0, .ref (u2 9), .ref (u2 10)])), ((u2 3), .inl (y 0, 3, .inl (fun _ => 0)))] [] [0, 1] [] := ⟨rfl, rfl, rfl, rfl, rfl, by decide⟩
  refine kw_go_i hs4 hP hD hS hA (va_runV (As := [.int (xs (1 : Int32).toNatClampNeg)]) (rest := [.int (sp_status (xs (1 : Int32).toNatClampNeg))]) ⟨hx, hb, hml, hown, hts⟩ (cq_status l D y qm (u2 0) (u2 1) (u2 2) (u2 3) (u2 4) (u2 5) (u2 6) (u2 7) (u2 8) (u2 9) (u2 10) (xs (1 : Int32).toNatClampNeg)  _) (cwV 1 hts gL_law_X11_status rfl rfl rfl (by decide +kernel) ⟨Nat.le_of_ble_eq_true rfl, Nat.le_of_ble_eq_true rfl⟩) (kw_PreV (ci := 11) (q0 := 0) hs4 hP hD hK hN rfl rfl) rfl rfl hl.1 rfl (lv_room (Nat.le_of_ble_eq_true rfl)) dL_law_1100 ⟨Nat.le_of_ble_eq_true rfl, Nat.le_of_ble_eq_true rfl⟩) (fun r u H locs hq hP hD hS => ?_)
  obtain rfl := hq
  have hP : va_P D vwCl [] H := hP
  have hD : va_D (fun q : Nat => s.heap.size ≤ q) [] := hD
  refine lv_icmp_eq (tgt := 1145) hx hb dL_law_1103 (by decide) (fun _ => ?_) (fun h9 => absurd rfl h9)
  refine lv_iinc (v := 6) (lv' := [(3, .int 6), (2, .ref qm), (1, .ref qx), (0, .ref b)]) hx hb dL_law_1145 hl (k := 0) rfl (by decide) (by decide) rfl (fun ls hl => ?_)
  refine lv_goto (tgt := 18) hx hb dL_law_1148 (by decide) ?_
  refine lv_iload_n hx hb dL_law_18 rfl (lv_at hl 0 rfl) ?_
  refine lv_aload_n hx hb dL_law_19 rfl (lv_at hl 3 rfl) ?_
  refine va_slen hx hb hX hbl hbA hS dL_law_20 ?_
  refine lv_topi (fun z5 hz5 => ?_)
  obtain rfl : z5 = 6 := hz5.trans (by first | rfl | decide | (simp [upd]; done))
  refine lv_bipush (v := 6) hx hb dL_law_21 (by decide) ?_
  refine lv_isub hx hb dL_law_23 ?_
  refine lv_topi (fun z6 hz6 => ?_)
  obtain rfl : z6 = 0 := hz6.trans (by first | rfl | decide | (simp [upd]; done))
  refine lv_icmp_gt (tgt := 1151) hx hb dL_law_24 (by decide) (fun _ => ?_) (fun h9 => absurd h9 (by decide))
  refine lv_iconst (v := 1) hx hb dL_law_1151 (by decide) ?_
  refine va_forget (fun q hq => hS.2.2 q hq) ?_
  refine W.widen (k := 600000) (n := 7302250) (Nat.le_of_ble_eq_true rfl) (Nat.le_of_ble_eq_true rfl) ?_
  exact lw_ret hx hb hr hlocks dL_law_1152

set_option maxHeartbeats 4000000 in
set_option maxRecDepth 100000 in
theorem lw_case33 {p : Program} {e : Env} {s : State} {m : MethodId} {below : List Frame} {meth : Method} {c : Code} (l : Launch) {b : Nat} {xs : Nat → Int32} (C0 : lw_At p s m meth c b 6 xs) {D : va_G} {y : Nat → ClassId} (hK : va_K D vwCl (kw_T y) s) (hN : kw_N s) (u1 u2 : Nat → Nat) (qx qm : Nat) {H : Heap} {locs : List Loc} {ls : Array Slot} (hP : va_P D vwCl (lw_world y u1 u2 qx qm) H) (hD : va_D (fun q : Nat => s.heap.size ≤ q) (lw_world y u1 u2 qx qm)) (hS : va_S (fun q : Nat => s.heap.size ≤ q) s.heap H locs) (hl : lv_has ls 4 [(3, .int 0), (2, .ref qm), (1, .ref qx), (0, .ref b)]) : W p l e room_1 s m #[Value.ref b] below meth c H locs 190 2130 (lw_Z below #[Value.ref b] s) (F0 m 1108 ls []) := by
  obtain ⟨hx, hb, hr, hml, hown, hts0, hX, hbl, hlocks, hgv⟩ := id C0
  have hown : s.vm.findClass RL = some m.cls := hown
  have hts : ∀ w ∈ wsL_law, w.before #[Value.ref b] s = true := fun w h => hts0 w (wsL_law_in w h)
  have hA : ∀ q : Nat, s.heap.size ≤ q → (fun q : Nat => s.heap.size ≤ q) q := fun _ h => h
  have hbA : ¬ (fun q : Nat => s.heap.size ≤ q) b := Nat.not_le.mpr hbl
  have hP : va_P D vwCl [(qx, .inr (10, [.ref (u1 0), .ref (u1 1), .ref (u1 2), .ref (u1 3), .ref (u1 4), .ref (u1 5), .ref (u1 6), .ref (u1 7), .ref (u1 8), .ref (u1 9), .int 0, .int 1])), ((u1 1), .inr (4, [.ref (u1 0), .ref (u1 10), .ref (u1 11), .ref (u1 12), .ref (u1 13), .ref (u1 14), .int 0, .int 0, .int 0, .int 0, .int 0])), ((u1 11), .inr (1, [.ref (u1 15), .ref (u1 16), .ref (u1 17), .int 0, .int 0, .int 0])), ((u1 4), .inr (7, [.ref (u1 47), .int 0, .int 0, .int 0, .int 0, .int 0, .ref (u1 48), .ref (u1 49), .ref (u1 50), .int 0, .int 0, .int 0])), ((u1 9), .inl (y 0, 3, .inl (fun _ => 0))), (qm, .inr (11, [.ref (u2 0), .ref (u2 1), .ref (u2 2), .ref (u2 3), .long 0, .long 1, .ref (u2 4), .ref (u2 5), .ref (u2 6), .ref (u2 7), .ref (u2 8), .int 0, .int 0, .int 0, .int 0, .int 0, .ref (u2 9), .ref (u2 10)])), ((u2 0), .inl (y 0, 228, .inl (fun _ => 0))), ((u2 3), .inl (y 0, 3, .inl (fun _ => 0)))] H := hP.sub [0, 1, 3, 26, 32, 33, 34, 37] rfl
  have hD : va_D (fun q : Nat => s.heap.size ≤ q) [(qx, .inr (10, [.ref (u1 0), .ref (u1 1), .ref (u1 2), .ref (u1 3), .ref (u1 4), .ref (u1 5), .ref (u1 6), .ref (u1 7), .ref (u1 8), .ref (u1 9), .int 0, .int 1])), ((u1 1), .inr (4, [.ref (u1 0), .ref (u1 10), .ref (u1 11), .ref (u1 12), .ref (u1 13), .ref (u1 14), .int 0, .int 0, .int 0, .int 0, .int 0])), ((u1 11), .inr (1, [.ref (u1 15), .ref (u1 16), .ref (u1 17), .int 0, .int 0, .int 0])), ((u1 4), .inr (7, [.ref (u1 47), .int 0, .int 0, .int 0, .int 0, .int 0, .ref (u1 48), .ref (u1 49), .ref (u1 50), .int 0, .int 0, .int 0])), ((u1 9), .inl (y 0, 3, .inl (fun _ => 0))), (qm, .inr (11, [.ref (u2 0), .ref (u2 1), .ref (u2 2), .ref (u2 3), .long 0, .long 1, .ref (u2 4), .ref (u2 5), .ref (u2 6), .ref (u2 7), .ref (u2 8), .int 0, .int 0, .int 0, .int 0, .int 0, .ref (u2 9), .ref (u2 10)])), ((u2 0), .inl (y 0, 228, .inl (fun _ => 0))), ((u2 3), .inl (y 0, 3, .inl (fun _ => 0)))] := hD.sub [0, 1, 3, 26, 32, 33, 34, 37] (by decide) rfl
  refine lv_aload_n hx hb dL_law_1108 rfl (lv_at hl 2 rfl) ?_
  refine lv_aload_n hx hb dL_law_1109 rfl (lv_at hl 3 rfl) ?_
  refine lv_iload_n hx hb dL_law_1110 rfl (lv_at hl 0 rfl) ?_
  refine lv_iconst (v := 1) hx hb dL_law_1111 (by decide) ?_
  refine lv_iadd hx hb dL_law_1112 ?_
  refine lv_topi (fun z1 hz1 => ?_)
  obtain rfl : z1 = 1 := hz1.trans (by first | rfl | decide | (simp [upd]; done))
  refine va_sld hx hb hX hbl hbA hS (by unfold vp_in; decide) dL_law_1113 ?_
  have hs2 : kw_Split [(qx, .inr (10, [.ref (u1 0), .ref (u1 1), .ref (u1 2), .ref (u1 3), .ref (u1 4), .ref (u1 5), .ref (u1 6), .ref (u1 7), .ref (u1 8), .ref (u1 9), .int 0, .int 1])), ((u1 1), .inr (4, [.ref (u1 0), .ref (u1 10), .ref (u1 11), .ref (u1 12), .ref (u1 13), .ref (u1 14), .int 0, .int 0, .int 0, .int 0, .int 0])), ((u1 11), .inr (1, [.ref (u1 15), .ref (u1 16), .ref (u1 17), .int 0, .int 0, .int 0])), ((u1 4), .inr (7, [.ref (u1 47), .int 0, .int 0, .int 0, .int 0, .int 0, .ref (u1 48), .ref (u1 49), .ref (u1 50), .int 0, .int 0, .int 0])), ((u1 9), .inl (y 0, 3, .inl (fun _ => 0))), (qm, .inr (11, [.ref (u2 0), .ref (u2 1), .ref (u2 2), .ref (u2 3), .long 0, .long 1, .ref (u2 4), .ref (u2 5), .ref (u2 6), .ref (u2 7), .ref (u2 8), .int 0, .int 0, .int 0, .int 0, .int 0, .ref (u2 9), .ref (u2 10)])), ((u2 0), .inl (y 0, 228, .inl (fun _ => 0))), ((u2 3), .inl (y 0, 3, .inl (fun _ => 0)))] [(qx, .inr (10, [.ref (u1 0), .ref (u1 1), .ref (u1 2), .ref (u1 3), .ref (u1 4), .ref (u1 5), .ref (u1 6), .ref (u1 7), .ref (u1 8), .ref (u1 9), .int 0, .int 1])), ((u1 9), .inl (y 0, 3, .inl (fun _ => 0))), ((u1 1), .inr (4, [.ref (u1 0), .ref (u1 10), .ref (u1 11), .ref (u1 12), .ref (u1 13), .ref (u1 14), .int 0, .int 0, .int 0, .int 0, .int 0])), ((u1 11), .inr (1, [.ref (u1 15), .ref (u1 16), .ref (u1 17), .int 0, .int 0, .int 0])), ((u1 4), .inr (7, [.ref (u1 47), .int 0, .int 0, .int 0, .int 0, .int 0, .ref (u1 48), .ref (u1 49), .ref (u1 50), .int 0, .int 0, .int 0]))] [(qm, .inr (11, [.ref (u2 0), .ref (u2 1), .ref (u2 2), .ref (u2 3), .long 0, .long 1, .ref (u2 4), .ref (u2 5), .ref (u2 6), .ref (u2 7), .ref (u2 8), .int 0, .int 0, .int 0, .int 0, .int 0, .ref (u2 9), .ref (u2 10)])), ((u2 0), .inl (y 0, 228, .inl (fun _ => 0))), ((u2 3), .inl (y 0, 3, .inl (fun _ => 0)))] [0, 4, 1, 2, 3] [5, 6, 7] := ⟨rfl, rfl, rfl, rfl, rfl, by decide⟩
  refine kw_go_i hs2 hP hD hS hA (va_runV (As := [.int (xs (1 : Int32).toNatClampNeg)]) (rest := []) ⟨hx, hb, hml, hown, hts⟩ (cp_count l D y qx (u1 0) (u1 1) (u1 2) (u1 3) (u1 4) (u1 5) (u1 6) (u1 7) (u1 8) (u1 9) (u1 10) (u1 11) (u1 12) (u1 13) (u1 14) (u1 15) (u1 16) (u1 17) (u1 47) (u1 48) (u1 49) (u1 50) (xs (1 : Int32).toNatClampNeg)  _) (cwV 1 hts gL_law_X10_count rfl rfl rfl (by decide +kernel) ⟨Nat.le_of_ble_eq_true rfl, Nat.le_of_ble_eq_true rfl⟩) (kw_PreV (ci := 10) (q0 := 0) hs2 hP hD hK hN rfl rfl) rfl rfl hl.1 rfl (lv_room (Nat.le_of_ble_eq_true rfl)) dL_law_1114 ⟨Nat.le_of_ble_eq_true rfl, Nat.le_of_ble_eq_true rfl⟩) (fun r u H locs hq hP hD hS => ?_)
  obtain rfl := hq
  have hP : va_P D vwCl [(qm, .inr (11, [.ref (u2 0), .ref (u2 1), .ref (u2 2), .ref (u2 3), .long 0, .long 1, .ref (u2 4), .ref (u2 5), .ref (u2 6), .ref (u2 7), .ref (u2 8), .int 0, .int 0, .int 0, .int 0, .int 0, .ref (u2 9), .ref (u2 10)])), ((u2 0), .inl (y 0, 228, .inl (fun _ => 0))), ((u2 3), .inl (y 0, 3, .inl (fun _ => 0)))] H := hP
  have hD : va_D (fun q : Nat => s.heap.size ≤ q) [(qm, .inr (11, [.ref (u2 0), .ref (u2 1), .ref (u2 2), .ref (u2 3), .long 0, .long 1, .ref (u2 4), .ref (u2 5), .ref (u2 6), .ref (u2 7), .ref (u2 8), .int 0, .int 0, .int 0, .int 0, .int 0, .ref (u2 9), .ref (u2 10)])), ((u2 0), .inl (y 0, 228, .inl (fun _ => 0))), ((u2 3), .inl (y 0, 3, .inl (fun _ => 0)))] := hD
  refine lv_aload_n hx hb dL_law_1117 rfl (lv_at hl 1 rfl) ?_
  refine lv_aload_n hx hb dL_law_1118 rfl (lv_at hl 3 rfl) ?_
  refine lv_iload_n hx hb dL_law_1119 rfl (lv_at hl 0 rfl) ?_
  refine lv_iconst (v := 1) hx hb dL_law_1120 (by decide) ?_
  refine lv_iadd hx hb dL_law_1121 ?_
  refine lv_topi (fun z3 hz3 => ?_)
  obtain rfl : z3 = 1 := hz3.trans (by first | rfl | decide | (simp [upd]; done))
  refine va_sld hx hb hX hbl hbA hS (by unfold vp_in; decide) dL_law_1122 ?_
  have hs4 : kw_Split [(qm, .inr (11, [.ref (u2 0), .ref (u2 1), .ref (u2 2), .ref (u2 3), .long 0, .long 1, .ref (u2 4), .ref (u2 5), .ref (u2 6), .ref (u2 7), .ref (u2 8), .int 0, .int 0, .int 0, .int 0, .int 0, .ref (u2 9), .ref (u2 10)])), ((u2 0), .inl (y 0, 228, .inl (fun _ => 0))), ((u2 3), .inl (y 0, 3, .inl (fun _ => 0)))] [(qm, .inr (11, [.ref (u2 0), .ref (u2 1), .ref (u2 2), .ref (u2 3), .long 0, .long 1, .ref (u2 4), .ref (u2 5), .ref (u2 6), .ref (u2 7), .ref (u2 8), .int 0, .int 0, .int 0, .int 0, .int 0, .ref (u2 9), .ref (u2 10)])), ((u2 3), .inl (y 0, 3, .inl (fun _ => 0))), ((u2 0), .inl (y 0, 228, .inl (fun _ => 0)))] [] [0, 2, 1] [] := ⟨rfl, rfl, rfl, rfl, rfl, by decide⟩
  refine kw_go_i hs4 hP hD hS hA (va_runV (As := [.int (xs (1 : Int32).toNatClampNeg)]) (rest := [.int (sp_count (xs (1 : Int32).toNatClampNeg))]) ⟨hx, hb, hml, hown, hts⟩ (cq_count l D y qm (u2 0) (u2 1) (u2 2) (u2 3) (u2 4) (u2 5) (u2 6) (u2 7) (u2 8) (u2 9) (u2 10) (xs (1 : Int32).toNatClampNeg)  _) (cwV 1 hts gL_law_X11_count rfl rfl rfl (by decide +kernel) ⟨Nat.le_of_ble_eq_true rfl, Nat.le_of_ble_eq_true rfl⟩) (kw_PreV (ci := 11) (q0 := 0) hs4 hP hD hK hN rfl rfl) rfl rfl hl.1 rfl (lv_room (Nat.le_of_ble_eq_true rfl)) dL_law_1123 ⟨Nat.le_of_ble_eq_true rfl, Nat.le_of_ble_eq_true rfl⟩) (fun r u H locs hq hP hD hS => ?_)
  obtain rfl := hq
  have hP : va_P D vwCl [] H := hP
  have hD : va_D (fun q : Nat => s.heap.size ≤ q) [] := hD
  refine lv_icmp_eq (tgt := 1145) hx hb dL_law_1126 (by decide) (fun _ => ?_) (fun h9 => absurd rfl h9)
  refine lv_iinc (v := 6) (lv' := [(3, .int 6), (2, .ref qm), (1, .ref qx), (0, .ref b)]) hx hb dL_law_1145 hl (k := 0) rfl (by decide) (by decide) rfl (fun ls hl => ?_)
  refine lv_goto (tgt := 18) hx hb dL_law_1148 (by decide) ?_
  refine lv_iload_n hx hb dL_law_18 rfl (lv_at hl 0 rfl) ?_
  refine lv_aload_n hx hb dL_law_19 rfl (lv_at hl 3 rfl) ?_
  refine va_slen hx hb hX hbl hbA hS dL_law_20 ?_
  refine lv_topi (fun z5 hz5 => ?_)
  obtain rfl : z5 = 6 := hz5.trans (by first | rfl | decide | (simp [upd]; done))
  refine lv_bipush (v := 6) hx hb dL_law_21 (by decide) ?_
  refine lv_isub hx hb dL_law_23 ?_
  refine lv_topi (fun z6 hz6 => ?_)
  obtain rfl : z6 = 0 := hz6.trans (by first | rfl | decide | (simp [upd]; done))
  refine lv_icmp_gt (tgt := 1151) hx hb dL_law_24 (by decide) (fun _ => ?_) (fun h9 => absurd h9 (by decide))
  refine lv_iconst (v := 1) hx hb dL_law_1151 (by decide) ?_
  refine va_forget (fun q hq => hS.2.2 q hq) ?_
  refine W.widen (k := 600000) (n := 7302250) (Nat.le_of_ble_eq_true rfl) (Nat.le_of_ble_eq_true rfl) ?_
  exact lw_ret hx hb hr hlocks dL_law_1152

set_option maxHeartbeats 4000000 in
set_option maxRecDepth 100000 in
theorem lw_case34 {p : Program} {e : Env} {s : State} {m : MethodId} {below : List Frame} {meth : Method} {c : Code} (l : Launch) {b : Nat} {xs : Nat → Int32} (C0 : lw_At p s m meth c b 6 xs) {D : va_G} {y : Nat → ClassId} (hK : va_K D vwCl (kw_T y) s) (hN : kw_N s) (u1 u2 : Nat → Nat) (qx qm : Nat) {H : Heap} {locs : List Loc} {ls : Array Slot} (hP : va_P D vwCl (lw_world y u1 u2 qx qm) H) (hD : va_D (fun q : Nat => s.heap.size ≤ q) (lw_world y u1 u2 qx qm)) (hS : va_S (fun q : Nat => s.heap.size ≤ q) s.heap H locs) (hl : lv_has ls 4 [(3, .int 0), (2, .ref qm), (1, .ref qx), (0, .ref b)]) : W p l e room_1 s m #[Value.ref b] below meth c H locs 190 2130 (lw_Z below #[Value.ref b] s) (F0 m 1131 ls []) := by
  obtain ⟨hx, hb, hr, hml, hown, hts0, hX, hbl, hlocks, hgv⟩ := id C0
  have hown : s.vm.findClass RL = some m.cls := hown
  have hts : ∀ w ∈ wsL_law, w.before #[Value.ref b] s = true := fun w h => hts0 w (wsL_law_in w h)
  have hA : ∀ q : Nat, s.heap.size ≤ q → (fun q : Nat => s.heap.size ≤ q) q := fun _ h => h
  have hbA : ¬ (fun q : Nat => s.heap.size ≤ q) b := Nat.not_le.mpr hbl
  have hP : va_P D vwCl [(qx, .inr (10, [.ref (u1 0), .ref (u1 1), .ref (u1 2), .ref (u1 3), .ref (u1 4), .ref (u1 5), .ref (u1 6), .ref (u1 7), .ref (u1 8), .ref (u1 9), .int 0, .int 1])), ((u1 1), .inr (4, [.ref (u1 0), .ref (u1 10), .ref (u1 11), .ref (u1 12), .ref (u1 13), .ref (u1 14), .int 0, .int 0, .int 0, .int 0, .int 0])), ((u1 11), .inr (1, [.ref (u1 15), .ref (u1 16), .ref (u1 17), .int 0, .int 0, .int 0])), ((u1 4), .inr (7, [.ref (u1 47), .int 0, .int 0, .int 0, .int 0, .int 0, .ref (u1 48), .ref (u1 49), .ref (u1 50), .int 0, .int 0, .int 0])), (qm, .inr (11, [.ref (u2 0), .ref (u2 1), .ref (u2 2), .ref (u2 3), .long 0, .long 1, .ref (u2 4), .ref (u2 5), .ref (u2 6), .ref (u2 7), .ref (u2 8), .int 0, .int 0, .int 0, .int 0, .int 0, .ref (u2 9), .ref (u2 10)])), ((u2 0), .inl (y 0, 228, .inl (fun _ => 0)))] H := hP.sub [0, 1, 3, 26, 33, 34] rfl
  have hD : va_D (fun q : Nat => s.heap.size ≤ q) [(qx, .inr (10, [.ref (u1 0), .ref (u1 1), .ref (u1 2), .ref (u1 3), .ref (u1 4), .ref (u1 5), .ref (u1 6), .ref (u1 7), .ref (u1 8), .ref (u1 9), .int 0, .int 1])), ((u1 1), .inr (4, [.ref (u1 0), .ref (u1 10), .ref (u1 11), .ref (u1 12), .ref (u1 13), .ref (u1 14), .int 0, .int 0, .int 0, .int 0, .int 0])), ((u1 11), .inr (1, [.ref (u1 15), .ref (u1 16), .ref (u1 17), .int 0, .int 0, .int 0])), ((u1 4), .inr (7, [.ref (u1 47), .int 0, .int 0, .int 0, .int 0, .int 0, .ref (u1 48), .ref (u1 49), .ref (u1 50), .int 0, .int 0, .int 0])), (qm, .inr (11, [.ref (u2 0), .ref (u2 1), .ref (u2 2), .ref (u2 3), .long 0, .long 1, .ref (u2 4), .ref (u2 5), .ref (u2 6), .ref (u2 7), .ref (u2 8), .int 0, .int 0, .int 0, .int 0, .int 0, .ref (u2 9), .ref (u2 10)])), ((u2 0), .inl (y 0, 228, .inl (fun _ => 0)))] := hD.sub [0, 1, 3, 26, 33, 34] (by decide) rfl
  refine lv_aload_n hx hb dL_law_1131 rfl (lv_at hl 2 rfl) ?_
  have hs1 : kw_Split [(qx, .inr (10, [.ref (u1 0), .ref (u1 1), .ref (u1 2), .ref (u1 3), .ref (u1 4), .ref (u1 5), .ref (u1 6), .ref (u1 7), .ref (u1 8), .ref (u1 9), .int 0, .int 1])), ((u1 1), .inr (4, [.ref (u1 0), .ref (u1 10), .ref (u1 11), .ref (u1 12), .ref (u1 13), .ref (u1 14), .int 0, .int 0, .int 0, .int 0, .int 0])), ((u1 11), .inr (1, [.ref (u1 15), .ref (u1 16), .ref (u1 17), .int 0, .int 0, .int 0])), ((u1 4), .inr (7, [.ref (u1 47), .int 0, .int 0, .int 0, .int 0, .int 0, .ref (u1 48), .ref (u1 49), .ref (u1 50), .int 0, .int 0, .int 0])), (qm, .inr (11, [.ref (u2 0), .ref (u2 1), .ref (u2 2), .ref (u2 3), .long 0, .long 1, .ref (u2 4), .ref (u2 5), .ref (u2 6), .ref (u2 7), .ref (u2 8), .int 0, .int 0, .int 0, .int 0, .int 0, .ref (u2 9), .ref (u2 10)])), ((u2 0), .inl (y 0, 228, .inl (fun _ => 0)))] [(qx, .inr (10, [.ref (u1 0), .ref (u1 1), .ref (u1 2), .ref (u1 3), .ref (u1 4), .ref (u1 5), .ref (u1 6), .ref (u1 7), .ref (u1 8), .ref (u1 9), .int 0, .int 1])), ((u1 1), .inr (4, [.ref (u1 0), .ref (u1 10), .ref (u1 11), .ref (u1 12), .ref (u1 13), .ref (u1 14), .int 0, .int 0, .int 0, .int 0, .int 0])), ((u1 11), .inr (1, [.ref (u1 15), .ref (u1 16), .ref (u1 17), .int 0, .int 0, .int 0])), ((u1 4), .inr (7, [.ref (u1 47), .int 0, .int 0, .int 0, .int 0, .int 0, .ref (u1 48), .ref (u1 49), .ref (u1 50), .int 0, .int 0, .int 0]))] [(qm, .inr (11, [.ref (u2 0), .ref (u2 1), .ref (u2 2), .ref (u2 3), .long 0, .long 1, .ref (u2 4), .ref (u2 5), .ref (u2 6), .ref (u2 7), .ref (u2 8), .int 0, .int 0, .int 0, .int 0, .int 0, .ref (u2 9), .ref (u2 10)])), ((u2 0), .inl (y 0, 228, .inl (fun _ => 0)))] [0, 1, 2, 3] [4, 5] := ⟨rfl, rfl, rfl, rfl, rfl, by decide⟩
  refine kw_go_l hs1 hP hD hS hA (va_runV (As := []) (rest := []) ⟨hx, hb, hml, hown, hts⟩ (cp_digest l D y qx (u1 0) (u1 1) (u1 2) (u1 3) (u1 4) (u1 5) (u1 6) (u1 7) (u1 8) (u1 9) (u1 10) (u1 11) (u1 12) (u1 13) (u1 14) (u1 15) (u1 16) (u1 17) (u1 47) (u1 48) (u1 49) (u1 50)  _) (cwV 0 hts gL_law_X10_digest rfl rfl rfl (by decide +kernel) ⟨Nat.le_of_ble_eq_true rfl, Nat.le_of_ble_eq_true rfl⟩) (kw_PreV (ci := 10) (q0 := 0) hs1 hP hD hK hN rfl rfl) rfl rfl hl.1 rfl (lv_room (Nat.le_of_ble_eq_true rfl)) dL_law_1132 ⟨Nat.le_of_ble_eq_true rfl, Nat.le_of_ble_eq_true rfl⟩) (fun r u H locs hq hP hD hS => ?_)
  have hrr := hq
  obtain rfl : r = (-25788170735693450) := hrr.trans (by decide)
  have hP : va_P D vwCl [(qm, .inr (11, [.ref (u2 0), .ref (u2 1), .ref (u2 2), .ref (u2 3), .long 0, .long 1, .ref (u2 4), .ref (u2 5), .ref (u2 6), .ref (u2 7), .ref (u2 8), .int 0, .int 0, .int 0, .int 0, .int 0, .ref (u2 9), .ref (u2 10)])), ((u2 0), .inl (y 0, 228, .inl (fun _ => 0)))] H := hP
  have hD : va_D (fun q : Nat => s.heap.size ≤ q) [(qm, .inr (11, [.ref (u2 0), .ref (u2 1), .ref (u2 2), .ref (u2 3), .long 0, .long 1, .ref (u2 4), .ref (u2 5), .ref (u2 6), .ref (u2 7), .ref (u2 8), .int 0, .int 0, .int 0, .int 0, .int 0, .ref (u2 9), .ref (u2 10)])), ((u2 0), .inl (y 0, 228, .inl (fun _ => 0)))] := hD
  refine lv_aload_n hx hb dL_law_1135 rfl (lv_at hl 1 rfl) ?_
  have hs2 : kw_Split [(qm, .inr (11, [.ref (u2 0), .ref (u2 1), .ref (u2 2), .ref (u2 3), .long 0, .long 1, .ref (u2 4), .ref (u2 5), .ref (u2 6), .ref (u2 7), .ref (u2 8), .int 0, .int 0, .int 0, .int 0, .int 0, .ref (u2 9), .ref (u2 10)])), ((u2 0), .inl (y 0, 228, .inl (fun _ => 0)))] [(qm, .inr (11, [.ref (u2 0), .ref (u2 1), .ref (u2 2), .ref (u2 3), .long 0, .long 1, .ref (u2 4), .ref (u2 5), .ref (u2 6), .ref (u2 7), .ref (u2 8), .int 0, .int 0, .int 0, .int 0, .int 0, .ref (u2 9), .ref (u2 10)])), ((u2 0), .inl (y 0, 228, .inl (fun _ => 0)))] [] [0, 1] [] := ⟨rfl, rfl, rfl, rfl, rfl, by decide⟩
  refine kw_go_l hs2 hP hD hS hA (va_runV (As := []) (rest := [.long (-25788170735693450)]) ⟨hx, hb, hml, hown, hts⟩ (cq_digest l D y qm (u2 0) (u2 1) (u2 2) (u2 3) (u2 4) (u2 5) (u2 6) (u2 7) (u2 8) (u2 9) (u2 10)  _) (cwV 0 hts gL_law_X11_digest rfl rfl rfl (by decide +kernel) ⟨Nat.le_of_ble_eq_true rfl, Nat.le_of_ble_eq_true rfl⟩) (kw_PreV (ci := 11) (q0 := 0) hs2 hP hD hK hN rfl rfl) rfl rfl hl.1 rfl (lv_room (Nat.le_of_ble_eq_true rfl)) dL_law_1136 ⟨Nat.le_of_ble_eq_true rfl, Nat.le_of_ble_eq_true rfl⟩) (fun r u H locs hq hP hD hS => ?_)
  have hrr := hq
  obtain rfl : r = (-25788170735693450) := hrr.trans (by decide)
  have hP : va_P D vwCl [] H := hP
  have hD : va_D (fun q : Nat => s.heap.size ≤ q) [] := hD
  refine W.lcmp hx hb dL_law_1139 ?_
  refine lv_if_eq (tgt := 1145) hx hb dL_law_1140 (by decide) (fun _ => ?_) (fun h9 => absurd rfl (kw_ceq_f h9))
  refine lv_iinc (v := 6) (lv' := [(3, .int 6), (2, .ref qm), (1, .ref qx), (0, .ref b)]) hx hb dL_law_1145 hl (k := 0) rfl (by decide) (by decide) rfl (fun ls hl => ?_)
  refine lv_goto (tgt := 18) hx hb dL_law_1148 (by decide) ?_
  refine lv_iload_n hx hb dL_law_18 rfl (lv_at hl 0 rfl) ?_
  refine lv_aload_n hx hb dL_law_19 rfl (lv_at hl 3 rfl) ?_
  refine va_slen hx hb hX hbl hbA hS dL_law_20 ?_
  refine lv_topi (fun z3 hz3 => ?_)
  obtain rfl : z3 = 6 := hz3.trans (by first | rfl | decide | (simp [upd]; done))
  refine lv_bipush (v := 6) hx hb dL_law_21 (by decide) ?_
  refine lv_isub hx hb dL_law_23 ?_
  refine lv_topi (fun z4 hz4 => ?_)
  obtain rfl : z4 = 0 := hz4.trans (by first | rfl | decide | (simp [upd]; done))
  refine lv_icmp_gt (tgt := 1151) hx hb dL_law_24 (by decide) (fun _ => ?_) (fun h9 => absurd h9 (by decide))
  refine lv_iconst (v := 1) hx hb dL_law_1151 (by decide) ?_
  refine va_forget (fun q hq => hS.2.2 q hq) ?_
  refine W.widen (k := 600000) (n := 7302250) (Nat.le_of_ble_eq_true rfl) (Nat.le_of_ble_eq_true rfl) ?_
  exact lw_ret hx hb hr hlocks dL_law_1152
