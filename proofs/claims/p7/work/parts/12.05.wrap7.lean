section KMNR
variable {p : Program} {l : Launch} {e : Env} {R : Room} {s : State} {m : MethodId} {args : Array Value} {below : List Frame} {meth : Method} {c : Code} {H H0 : Heap} {locs : List Loc} {cells slots : Nat} {Q : State → Prop}
variable {cc : ByteArray} {pc : Nat} {ls : Array Slot} {rest : List Value} {D : va_G} {y : Nat → ClassId} {A : Nat → Prop} {ws : va_W}
/-- new int[n][k], its rows in the world -/
theorem kw_mnaR (hexec : p.tables.exec = Jvm.exec) (hb : c.code = cc) {own : String} {index : Nat} (hown : s.vm.findClass own = some m.cls) (hclink : (Cond.classLink own index "[[I").before args s = true) (hN : kw_N s) (harr : (Cond.arrayClass .int).before args s = true)
    (hK : va_K D vwCl (kw_T y) s) (hP : va_P D vwCl ws H) (hD : va_D A ws) (hS : va_S A H0 H locs) (hA : ∀ q, H0.size ≤ q → A q) {n k : Int32} {N' K' : Nat} (hn : ¬ n < 0) (hk : ¬ k < 0) (hNn : n.toNatClampNeg = N') (hM : k.toNatClampNeg = K')
    (hb1 : N' * 4 ≤ 536870912) (hb2 : K' * componentBytes .int ≤ 536870912) (hb3 : K' ≤ 536870912) (hcells : cells + (1 + N') ≤ R.cells) (hslots : slots + (N' + N' * K') ≤ R.slots) (hdg : decode cc pc = .ok (.multianewarray index 2, 4))
    (kk : ∀ (q : Nat) (r : Nat → Nat) (H1 : Heap), va_P D vwCl ((ws ++ [(q, .inl (y 6, N', .inr (.inr (.inr (.inr (fun i => if i < N' then some (r i) else none))))))]) ++ (List.range N').map (fun i => (r i, .inl (y 0, K', .inl (fun _ => 0))))) H1 → va_D A ((ws ++ [(q, .inl (y 6, N', .inr (.inr (.inr (.inr (fun i => if i < N' then some (r i) else none))))))]) ++ (List.range N').map (fun i => (r i, .inl (y 0, K', .inl (fun _ => 0))))) → va_S A H0 H1 locs → W p l e R s m args below meth c H1 locs (cells + 1 + N') (slots + N' + N' * K') Q (F0 m (pc + 4) ls (.ref q :: rest))) : W p l e R s m args below meth c H locs cells slots Q (F0 m pc ls (.int k :: .int n :: rest)) := by
  have e0 : ws ++ va_pl [] (fun _ => (Sum.inr (0, []) : va_E)) = ws := List.append_nil ws
  refine va_mna (X := ws) (L := []) (f := fun _ => .inr (0, [])) (ty := .int) (cy := y 0) (z := (K', .inl (fun _ => 0))) hexec hb hown hclink hN.2.2.2.2.1 harr (hK.2 0 _ rfl).2 hK (by rw [e0]; exact hP) (by rw [e0]; exact hD) hS hA hn hk hNn hM hb1 hb2 hb3 rfl rfl hcells hslots (fun _ => ?_) hdg (fun q r cA H1 _ _ hK9 hP1 hD1 hS1 => ?_)
  · show ({ cls := _, slots := Array.replicate K' (.int 0), vm := .none } : Cell) = _
    rw [arrV_new]
    rfl
  · obtain rfl : cA = y 6 := kw_cls hK9 (i := 7) (j := 6) rfl rfl
    have e1 : va_pl ([] ++ (List.range N').map r) (vr_up (fun _ => (Sum.inr (0, []) : va_E)) ((List.range N').map r) (.inl (y 0, (K', .inl (fun _ => 0))))) = (List.range N').map (fun i => (r i, .inl (y 0, K', .inl (fun _ => 0)))) := by
      unfold va_pl
      rw [List.nil_append, List.map_map]
      apply List.map_congr_left
      intro i hi
      show (r i, vr_up _ _ _ (r i)) = _
      rw [vr_up_in (List.mem_map_of_mem hi)]
    rw [e1] at hP1 hD1
    exact kk q r H1 hP1 hD1 hS1
end KMNR
theorem kw_row4 (r : Nat → Nat) : (fun i => if i < 4 then some (r i) else none) = va_up (va_up (va_up (va_up (fun _ => none) 0 (some (r 0))) 1 (some (r 1))) 2 (some (r 2))) 3 (some (r 3)) := by
  funext i
  rcases (show i = 0 ∨ i = 1 ∨ i = 2 ∨ i = 3 ∨ 4 ≤ i by omega) with rfl | rfl | rfl | rfl | h
  · rfl
  · rfl
  · rfl
  · rfl
  · rw [if_neg (by omega)]
    simp [va_up, show ¬ i = 0 by omega, show ¬ i = 1 by omega, show ¬ i = 2 by omega, show ¬ i = 3 by omega]
theorem kw_row6 (r : Nat → Nat) : (fun i => if i < 6 then some (r i) else none) = va_up (va_up (va_up (va_up (va_up (va_up (fun _ => none) 0 (some (r 0))) 1 (some (r 1))) 2 (some (r 2))) 3 (some (r 3))) 4 (some (r 4))) 5 (some (r 5)) := by
  funext i
  rcases (show i = 0 ∨ i = 1 ∨ i = 2 ∨ i = 3 ∨ i = 4 ∨ i = 5 ∨ 6 ≤ i by omega) with rfl | rfl | rfl | rfl | rfl | rfl | h
  · rfl
  · rfl
  · rfl
  · rfl
  · rfl
  · rfl
  · rw [if_neg (by omega)]
    simp [va_up, show ¬ i = 0 by omega, show ¬ i = 1 by omega, show ¬ i = 2 by omega, show ¬ i = 3 by omega, show ¬ i = 4 by omega, show ¬ i = 5 by omega]
theorem kr_t0 {n : Nat} : kr_t n (fun _ => 0) := fun _ _ => kr_ok0
