/-! the wrappers: one form of contract for all methods, calls as one row each -/
/-- the array classes: by number -/
abbrev kw_T (y : Nat → ClassId) : List (ClassId × FieldType) := [(y 0, .int), (y 1, .byte), (y 2, .boolean), (y 3, .object "GleanDusk$Dusk"), (y 4, .object "GleanDusk$Parish"), (y 5, .object "GleanDusk$Plain"), (y 6, .array .int)]
/-- the calls between nest mates -/
def kw_Nest : List (String × Nat × MethodName) := [("GleanDusk", 9, yX5_init), ("GleanDusk", 12, yX8_init), ("GleanDusk$West", 1, yX5_init), ("GleanDusk", 15, yX9_init), ("GleanDusk$Wood", 1, yX5_init), ("GleanDusk", 18, yX6_init), ("GleanDusk$Puddle", 1, yX5_init), ("GleanDusk", 21, yX2_init), ("GleanDusk$Hill", 1, yX8_init), ("GleanDusk", 24, yX3_init), ("GleanDusk$Lane", 1, yX9_init), ("GleanDusk$Parish", 17, yX1_init), ("GleanDusk", 50, yX7_init), ("GleanDusk", 57, yX1_init), ("GleanDusk", 64, yX0_init), ("GleanDusk$Parish", 73, yX10_isBelow), ("GleanDusk$Text", 85, yX10_isIn), ("GleanDusk$Parish", 118, yX10_faded)]
def kw_N (U : State) : Prop := (∀ q ∈ kw_Nest, va_Nw (.methodLinkNest q.1 q.2.1 q.2.2 "GleanDusk") U) ∧ va_AO "GleanDusk$Dusk" U ∧ va_AO "GleanDusk$Parish" U ∧ va_AO "GleanDusk$Plain" U ∧ (Cond.arrayOver (.array .int)).before #[] U = true ∧ ∀ C ∈ ["GleanDusk$West", "GleanDusk$Wood", "GleanDusk$Puddle", "GleanDusk$Hill", "GleanDusk$Lane"], va_Nw (.castable C "GleanDusk$Plain") U
theorem kw_AOA {ty : FieldType} {u U : State} (hvm : u.vm.Alike U.vm) (h : (Cond.arrayOver (.array ty)).before #[] u = true) : (Cond.arrayOver (.array ty)).before #[] U = true := by
  have h9 : (Cond.arrayOver (.array ty)).before #[] (u.setVm U.vm) = true := by
    rw [Cond.arrayOver_setVmC hvm]
    exact h
  exact h9
theorem kw_N.warm {s U : State} (hW : s.WarmedH U.vm) (h : kw_N s) : kw_N U := ⟨fun q hq => va_Nw.warmM hW (h.1 q hq), va_AO.moved hW.alike h.2.1, va_AO.moved hW.alike h.2.2.1, va_AO.moved hW.alike h.2.2.2.1, kw_AOA hW.alike h.2.2.2.2.1, fun C hC => va_Nw.warmC hW (h.2.2.2.2.2 C hC)⟩
theorem kw_N.same {s U : State} (e : s.vm = U.vm) (h : kw_N s) : kw_N U := ⟨fun q hq => va_Nw.same rfl e (h.1 q hq), va_AO.moved (e ▸ Vm.Alike.refl s.vm) h.2.1, va_AO.moved (e ▸ Vm.Alike.refl s.vm) h.2.2.1, va_AO.moved (e ▸ Vm.Alike.refl s.vm) h.2.2.2.1, kw_AOA (e ▸ Vm.Alike.refl s.vm) h.2.2.2.2.1, fun C hC => va_Nw.same rfl e (h.2.2.2.2.2 C hC)⟩
def kw_P (D : va_G) (y : Nat → ClassId) (av : List Value) (sz : Nat) (ws : va_W) : Array Value → State → Prop := va_Pc av (fun U => U.heap.size = sz ∧ va_P D vwCl ws U.heap ∧ va_K D vwCl (kw_T y) U ∧ va_D (fun _ => True) ws ∧ kw_N U)
def kw_B {S : Type} (D : va_G) (w1 : S → va_W) (A : Nat → Prop) : S → State → Prop := fun u t => va_P D vwCl (w1 u) t.heap ∧ va_D A (w1 u)
def kw_Mi {S : Type} (l : Launch) (yn : MethodName) (wy : List Cond) (rm : Room) (D : va_G) (y : Nat → ClassId) (av : List Value) (ws : va_W) (post : Int32 → S → Prop) (w1 : S → va_W) (mc ms : Nat) : Prop := ∀ sz : Nat, Met l yn wy rm (kw_P D y av sz ws) (va_Qi post (kw_B D w1 (va_A ws sz)) (va_A ws sz)) mc ms (va_A ws sz)
def kw_Ml {S : Type} (l : Launch) (yn : MethodName) (wy : List Cond) (rm : Room) (D : va_G) (y : Nat → ClassId) (av : List Value) (ws : va_W) (post : Int64 → S → Prop) (w1 : S → va_W) (mc ms : Nat) : Prop := ∀ sz : Nat, Met l yn wy rm (kw_P D y av sz ws) (va_Ql post (kw_B D w1 (va_A ws sz)) (va_A ws sz)) mc ms (va_A ws sz)
def kw_Mv {S : Type} (l : Launch) (yn : MethodName) (wy : List Cond) (rm : Room) (D : va_G) (y : Nat → ClassId) (av : List Value) (ws : va_W) (post : S → Prop) (w1 : S → va_W) (mc ms : Nat) : Prop := ∀ sz : Nat, Met l yn wy rm (kw_P D y av sz ws) (va_Qv post (kw_B D w1 (va_A ws sz)) (va_A ws sz)) mc ms (va_A ws sz)
theorem kw_Blind {D : va_G} {y : Nat → ClassId} {av : List Value} {sz : Nat} {ws : va_W} : FrameBlind (kw_P D y av sz ws) := fun a U g mk q => by
  obtain ⟨q0, q1, qP, qK, qD, qN⟩ := q
  exact ⟨q0, q1, qP, va_K.moved (u := U) (U := U.calling g mk a) (Vm.Alike.refl U.vm) qK, qD, kw_N.same (s := U) (U := U.calling g mk a) rfl qN⟩
/-- what a body has at its entry -/
def kw_E (p : Program) (s : State) (m : MethodId) (meth : Method) (c : Code) (cc : ByteArray) (maxL : Nat) (ret : Option FieldType) (R0 : String) (nm : String) (av : List Value) (wy : List Cond) (D : va_G) (y : Nat → ClassId) (ws : va_W) (A : Nat → Prop) : Prop :=
  p.tables.exec = Jvm.exec ∧ c.code = cc ∧ meth.sig.returnType = ret ∧ c.maxLocals = maxL ∧ (∀ w ∈ wy, w.before av.toArray s = true) ∧ s.vm.findClass R0 = some m.cls ∧ meth.locks = false ∧ meth.name = nm ∧ (∀ q : Nat, s.heap.size ≤ q → A q) ∧ va_P D vwCl ws s.heap ∧ va_D A ws ∧ va_K D vwCl (kw_T y) s ∧ kw_N s
section KW
variable {S : Type} {l : Launch} {yn : MethodName} {wy wy' : List Cond} {rm : Room} {D : va_G} {y : Nat → ClassId} {av : List Value} {ws : va_W} {w1 : S → va_W} {mc ms : Nat} {cc : ByteArray} {maxL : Nat} {ret : Option FieldType}
theorem kw_Mi.of {post : Int32 → S → Prop} (hy : plainName yn.cls = true) (hw : wy = Cond.code yn cc maxL ret :: wy')
    (body : ∀ (p : Program) (e : Env) (s : State) (m : MethodId) (below : List Frame) (meth : Method) (c : Code) (A : Nat → Prop), kw_E p s m meth c cc maxL ret yn.cls yn.name av wy D y ws A →
      W p l e rm s m av.toArray below meth c s.heap [] 0 0 (MQ below (va_Qi post (kw_B D w1 A) A) av.toArray s mc ms A) (entryFrame m av.toArray maxL)) : kw_Mi l yn wy rm D y av ws post w1 mc ms := by
  intro sz
  refine Met.ofW (cc := cc) (maxL := maxL) (ret := ret) hy hw ?_
  intro p e s m args below meth c s₁ B hml hv
  obtain ⟨rfl, hsz, hP, hK, hD0, hN⟩ := hv
  subst hsz
  have hD := hD0.self (sz := s.heap.size)
  exact body p e s m below meth c _ ⟨B.exec, B.bytes, B.returns, hml, atoms_spec (ws := wy) B.pre, findClass_of_methodNamed B.named, B.notSynchronized, (name_of_methodNamed B.named B.method).1, fun q h => Or.inr h, hP, hD, hK, hN⟩
theorem kw_Ml.of {post : Int64 → S → Prop} (hy : plainName yn.cls = true) (hw : wy = Cond.code yn cc maxL ret :: wy')
    (body : ∀ (p : Program) (e : Env) (s : State) (m : MethodId) (below : List Frame) (meth : Method) (c : Code) (A : Nat → Prop), kw_E p s m meth c cc maxL ret yn.cls yn.name av wy D y ws A →
      W p l e rm s m av.toArray below meth c s.heap [] 0 0 (MQ below (va_Ql post (kw_B D w1 A) A) av.toArray s mc ms A) (entryFrame m av.toArray maxL)) : kw_Ml l yn wy rm D y av ws post w1 mc ms := by
  intro sz
  refine Met.ofW (cc := cc) (maxL := maxL) (ret := ret) hy hw ?_
  intro p e s m args below meth c s₁ B hml hv
  obtain ⟨rfl, hsz, hP, hK, hD0, hN⟩ := hv
  subst hsz
  have hD := hD0.self (sz := s.heap.size)
  exact body p e s m below meth c _ ⟨B.exec, B.bytes, B.returns, hml, atoms_spec (ws := wy) B.pre, findClass_of_methodNamed B.named, B.notSynchronized, (name_of_methodNamed B.named B.method).1, fun q h => Or.inr h, hP, hD, hK, hN⟩
theorem kw_Mv.of {post : S → Prop} (hy : plainName yn.cls = true) (hw : wy = Cond.code yn cc maxL ret :: wy')
    (body : ∀ (p : Program) (e : Env) (s : State) (m : MethodId) (below : List Frame) (meth : Method) (c : Code) (A : Nat → Prop), kw_E p s m meth c cc maxL ret yn.cls yn.name av wy D y ws A →
      W p l e rm s m av.toArray below meth c s.heap [] 0 0 (MQ below (va_Qv post (kw_B D w1 A) A) av.toArray s mc ms A) (entryFrame m av.toArray maxL)) : kw_Mv l yn wy rm D y av ws post w1 mc ms := by
  intro sz
  refine Met.ofW (cc := cc) (maxL := maxL) (ret := ret) hy hw ?_
  intro p e s m args below meth c s₁ B hml hv
  obtain ⟨rfl, hsz, hP, hK, hD0, hN⟩ := hv
  subst hsz
  have hD := hD0.self (sz := s.heap.size)
  exact body p e s m below meth c _ ⟨B.exec, B.bytes, B.returns, hml, atoms_spec (ws := wy) B.pre, findClass_of_methodNamed B.named, B.notSynchronized, (name_of_methodNamed B.named B.method).1, fun q h => Or.inr h, hP, hD, hK, hN⟩
end KW
section KC
variable {p : Program} {l : Launch} {e : Env} {R : Room} {s : State} {m : MethodId} {args : Array Value} {below : List Frame} {meth : Method} {c : Code} {H H0 : Heap} {locs : List Loc} {cells slots : Nat} {Q : State → Prop}
variable {S : Type} {yn : MethodName} {wy Ts : List Cond} {rm : Room} {D : va_G} {y : Nat → ClassId} {ws wc wr : va_W} {w1 : S → va_W} {mc ms : Nat} {cc bytes : ByteArray} {maxL nL n index pc b : Nat} {ret : Option FieldType} {own C host : String} {A : Nat → Prop} {As rest st0 : List Value} {ls : Array Slot}
/-- cells of the callee (isC), the others (isR) -/
def kw_Split (ws wc wr : va_W) (isC isR : List Nat) : Prop := isC.filterMap (fun i => ws[i]?) = wc ∧ isC.map (fun i => ws[i]?) = wc.map some ∧ isR.map (fun i => ws[i]?) = wr.map some ∧ va_nd isC = true ∧ va_nd isR = true ∧ ∀ i ∈ isR, i ∉ isC
theorem kw_PreS {isC isR : List Nat} (hx : kw_Split ws wc wr isC isR) (hP : va_P D vwCl ws H) (hD : va_D A ws) (hK : va_K D vwCl (kw_T y) s) (hN : kw_N s) : PreS s H (kw_P D y As H.size wc) As :=
  ⟨kw_Blind, fun U hU hW => ⟨rfl, by rw [hU], by rw [hU]; exact hP.sub isC hx.1, va_K.moved hW.alike hK, (hD.sub isC hx.2.2.2.1 hx.2.1).weaken (fun _ _ _ _ => trivial), hN.warm hW⟩⟩
theorem kw_PreI {isC isR : List Nat} (hx : kw_Split ws wc wr isC isR) (hP : va_P D vwCl ws H) (hD : va_D A ws) (hK : va_K D vwCl (kw_T y) s) (hN : kw_N s) : PreS s H (kw_P D y (.ref b :: As) H.size wc) (.ref b :: As) := kw_PreS hx hP hD hK hN
theorem kw_PreV {isC isR : List Nat} {ci q0 : Nat} {T : u_T} {N : Nat} {fs : List Value} (hx : kw_Split ws wc wr isC isR) (hP : va_P D vwCl ws H) (hD : va_D A ws) (hK : va_K D vwCl (kw_T y) s) (hN : kw_N s) (hc : vwCl[ci]? = some (C, T, N)) (he : ws[q0]? = some (b, .inr (ci, fs))) : PreV s H C b (kw_P D y (.ref b :: As) H.size wc) As :=
  ⟨kw_Blind, va_recv hK hP hc he, (kw_PreI hx hP hD hK hN).2⟩
theorem kw_go_i {post : Int32 → S → Prop} {isC isR : List Nat} {a : Array Value} (hx : kw_Split ws wc wr isC isR) (hP : va_P D vwCl ws H) (hD : va_D A ws) (hS : va_S A H0 H locs) (hA : ∀ q, H0.size ≤ q → A q)
    (hr : va_Run p l e R s m args below meth c H locs cells slots mc ms (F0 m pc ls st0) rest (va_Qi post (kw_B D w1 (va_A wc H.size)) (va_A wc H.size) a) (va_A wc H.size))
    (kk : ∀ (r : Int32) (u : S) (H1 : Heap) (locs1 : List Loc), post r u → va_P D vwCl (wr ++ w1 u) H1 → va_D A (wr ++ w1 u) → va_S A H0 H1 locs1 → W p l e R s m args below meth c H1 locs1 (cells + mc) (slots + ms) Q (F0 m (pc + 3) ls (.int r :: rest))) : W p l e R s m args below meth c H locs cells slots Q (F0 m pc ls st0) := by
  have hF := va_free (wc := wc) hD hS hA isC hx.2.1
  refine va_calli hr hS (fun q _ h => hF q h) hF (fun r u t H1 locs1 ht hvm hw hB hz1 hk1 hS1 => ?_)
  obtain ⟨hP1, hD1⟩ := hB
  rw [ht] at hP1
  obtain ⟨hP2, hD2⟩ := va_join (wr := wr) (w1 := w1 u) hP hD isC isR hx.2.1 hx.2.2.1 hx.2.2.2.2.1 hx.2.2.2.2.2 hk1 hF hP1 hD1
  exact kk r u H1 locs1 hw hP2 hD2 hS1
theorem kw_go_l {post : Int64 → S → Prop} {isC isR : List Nat} {a : Array Value} (hx : kw_Split ws wc wr isC isR) (hP : va_P D vwCl ws H) (hD : va_D A ws) (hS : va_S A H0 H locs) (hA : ∀ q, H0.size ≤ q → A q)
    (hr : va_Run p l e R s m args below meth c H locs cells slots mc ms (F0 m pc ls st0) rest (va_Ql post (kw_B D w1 (va_A wc H.size)) (va_A wc H.size) a) (va_A wc H.size))
    (kk : ∀ (r : Int64) (u : S) (H1 : Heap) (locs1 : List Loc), post r u → va_P D vwCl (wr ++ w1 u) H1 → va_D A (wr ++ w1 u) → va_S A H0 H1 locs1 → W p l e R s m args below meth c H1 locs1 (cells + mc) (slots + ms) Q (F0 m (pc + 3) ls (.long r :: rest))) : W p l e R s m args below meth c H locs cells slots Q (F0 m pc ls st0) := by
  have hF := va_free (wc := wc) hD hS hA isC hx.2.1
  refine va_calll hr hS (fun q _ h => hF q h) hF (fun r u t H1 locs1 ht hvm hw hB hz1 hk1 hS1 => ?_)
  obtain ⟨hP1, hD1⟩ := hB
  rw [ht] at hP1
  obtain ⟨hP2, hD2⟩ := va_join (wr := wr) (w1 := w1 u) hP hD isC isR hx.2.1 hx.2.2.1 hx.2.2.2.2.1 hx.2.2.2.2.2 hk1 hF hP1 hD1
  exact kk r u H1 locs1 hw hP2 hD2 hS1
theorem kw_go_v {post : S → Prop} {isC isR : List Nat} {a : Array Value} (hx : kw_Split ws wc wr isC isR) (hP : va_P D vwCl ws H) (hD : va_D A ws) (hS : va_S A H0 H locs) (hA : ∀ q, H0.size ≤ q → A q)
    (hr : va_Run p l e R s m args below meth c H locs cells slots mc ms (F0 m pc ls st0) rest (va_Qv post (kw_B D w1 (va_A wc H.size)) (va_A wc H.size) a) (va_A wc H.size))
    (kk : ∀ (u : S) (H1 : Heap) (locs1 : List Loc), post u → va_P D vwCl (wr ++ w1 u) H1 → va_D A (wr ++ w1 u) → va_S A H0 H1 locs1 → W p l e R s m args below meth c H1 locs1 (cells + mc) (slots + ms) Q (F0 m (pc + 3) ls rest)) : W p l e R s m args below meth c H locs cells slots Q (F0 m pc ls st0) := by
  have hF := va_free (wc := wc) hD hS hA isC hx.2.1
  refine va_callv hr hS (fun q _ h => hF q h) hF (fun u t H1 locs1 ht hvm hw hB hz1 hk1 hS1 => ?_)
  obtain ⟨hP1, hD1⟩ := hB
  rw [ht] at hP1
  obtain ⟨hP2, hD2⟩ := va_join (wr := wr) (w1 := w1 u) hP hD isC isR hx.2.1 hx.2.2.1 hx.2.2.2.2.1 hx.2.2.2.2.2 hk1 hF hP1 hD1
  exact kk u H1 locs1 hw hP2 hD2 hS1
end KC
/-- a row of zeros in which a zero is laid stays -/
theorem kw_upd0 (k : Nat) : upd (fun _ => (0 : Int32)) k 0 = fun _ => 0 := by
  funext j
  unfold upd
  split <;> rfl
theorem kw_in {x n : Int32} {N : Nat} (h1 : ¬ x < 0) (h2 : ¬ n ≤ x) (hn : n.toInt = N) : vp_in x N := by
  rw [vp_in_iff]
  rw [Int32.lt_iff_toInt_lt] at h1
  rw [Int32.le_iff_toInt_le] at h2
  have h0 : (0 : Int32).toInt = 0 := by decide
  omega
/-- two array classes of one type are one -/
theorem kw_cls {D : va_G} {cl : List vw_C} {tys : List (ClassId × FieldType)} {s : State} {c1 c2 : ClassId} {ty : FieldType} (hK : va_K D cl tys s) {i j : Nat} (hi : tys[i]? = some (c1, ty)) (hj : tys[j]? = some (c2, ty)) : c1 = c2 := by
  have h1 := (hK.2 i _ hi).2
  have h2 := (hK.2 j _ hj).2
  cases ty with
  | object C =>
    obtain ⟨-, -, -, -, -, e1⟩ := h1
    obtain ⟨-, -, -, -, -, e2⟩ := h2
    exact Option.some.inj (e1.symm.trans e2)
  | _ =>
    exact Option.some.inj (h1.symm.trans h2)

theorem kw_inle {x : Int32} {a b : Nat} (h : vp_in x a) (hab : a ≤ b) : vp_in x b := by
  rw [vp_in_iff] at h ⊢
  omega
theorem kw_cpy0 (a b n : Nat) : va_cpy (fun _ => (0 : Int32)) (fun _ => 0) a b n = fun _ => 0 := by
  funext j
  unfold va_cpy
  split <;> rfl
theorem kw_x1 {a b : Int32} (h : ¬ a < b) (h2 : ¬ b ≤ a) : False := h2 (Int32.not_lt.mp h)
theorem kw_x2 {a b : Int32} (h : a < b) (h2 : b ≤ a) : False := (Int32.not_lt.mpr h2) h
theorem kw_lgc (x y : Int64) : (lg_cmp x y).toInt = if y.toInt < x.toInt then 1 else if x.toInt = y.toInt then 0 else -1 := by
  unfold lg_cmp
  simp only [gt_iff_lt, Int64.lt_iff_toInt_lt, ← Int64.toInt_inj]
  repeat' split
  all_goals rfl
theorem kw_clt_t {x y : Int64} (h : lg_cmp x y < 0) : x < y := by
  rw [Int32.lt_iff_toInt_lt, kw_lgc] at h
  rw [Int64.lt_iff_toInt_lt]
  have h0 : (0 : Int32).toInt = 0 := by decide
  rw [h0] at h
  repeat' split at h
  all_goals omega
theorem kw_clt_f {x y : Int64} (h : ¬ lg_cmp x y < 0) : ¬ x < y := by
  rw [Int32.lt_iff_toInt_lt, kw_lgc] at h
  rw [Int64.lt_iff_toInt_lt]
  have h0 : (0 : Int32).toInt = 0 := by decide
  rw [h0] at h
  repeat' split at h
  all_goals omega
theorem kw_cgt_t {x y : Int64} (h : 0 < lg_cmp x y) : y < x := by
  rw [Int32.lt_iff_toInt_lt, kw_lgc] at h
  rw [Int64.lt_iff_toInt_lt]
  have h0 : (0 : Int32).toInt = 0 := by decide
  rw [h0] at h
  repeat' split at h
  all_goals omega
theorem kw_cgt_f {x y : Int64} (h : ¬ 0 < lg_cmp x y) : ¬ y < x := by
  rw [Int32.lt_iff_toInt_lt, kw_lgc] at h
  rw [Int64.lt_iff_toInt_lt]
  have h0 : (0 : Int32).toInt = 0 := by decide
  rw [h0] at h
  repeat' split at h
  all_goals omega

theorem kw_nlt {j N : Nat} {n : Int32} (hn : n.toInt = N) (hj : j < 2147483648) (h : ¬ n ≤ nI j) : j < N := by
  rw [Int32.le_iff_toInt_le, hn, nI_toInt hj] at h
  omega
theorem kw_rng {x lo hi : Int32} {a b : Nat} (h1 : ¬ x < lo) (h2 : ¬ hi < x) (e1 : lo.toInt = a) (e2 : hi.toInt = b) : ∃ j : Nat, a ≤ j ∧ j ≤ b ∧ x = nI j := by
  rw [Int32.lt_iff_toInt_lt] at h1 h2
  have h0 : ¬ x < 0 := by
    rw [Int32.lt_iff_toInt_lt]
    have e0 : (0 : Int32).toInt = 0 := by decide
    omega
  obtain ⟨j, hj, rfl⟩ := nI_of h0
  have ej := nI_toInt hj
  exact ⟨j, by omega, by omega, rfl⟩
theorem kw_rngL {x : Int32} {lo hi : Int64} {a b : Nat} (h1 : ¬ x.toInt64 < lo) (h2 : ¬ hi < x.toInt64) (e1 : lo.toInt = a) (e2 : hi.toInt = b) : ∃ j : Nat, a ≤ j ∧ j ≤ b ∧ x = nI j := by
  rw [Int64.lt_iff_toInt_lt, Int32.toInt_toInt64] at h1 h2
  have h0 : ¬ x < 0 := by
    rw [Int32.lt_iff_toInt_lt]
    have e0 : (0 : Int32).toInt = 0 := by decide
    omega
  obtain ⟨j, hj, rfl⟩ := nI_of h0
  have ej := nI_toInt hj
  exact ⟨j, by omega, by omega, rfl⟩
theorem kw_inadd {a : Int32} {A j n : Nat} (ha : a = nI A) (h : A + j < n) (hn : n < 2147483648) : vp_in (a + nI j) n := by
  rw [ha, nI_add]
  exact vp_in_nI h hn
theorem kw_ceq_t {x y : Int64} (h : lg_cmp x y = 0) : x = y := by
  have h1 := congrArg Int32.toInt h
  rw [kw_lgc] at h1
  have h0 : (0 : Int32).toInt = 0 := by decide
  rw [h0] at h1
  apply Int64.toInt_inj.mp
  repeat' split at h1
  all_goals omega
theorem kw_ceq_f {x y : Int64} (h : ¬ lg_cmp x y = 0) : ¬ x = y := by
  rintro rfl
  apply h
  apply Int32.toInt_inj.mp
  rw [kw_lgc]
  have h0 : (0 : Int32).toInt = 0 := by decide
  rw [h0]
  simp
theorem kw_cne_t {x y : Int64} (h : ¬ lg_cmp x y = 0) : ¬ x = y := kw_ceq_f h
theorem kw_cne_f {x y : Int64} (h : lg_cmp x y = 0) : x = y := kw_ceq_t h
theorem kw_two {x : Int32} (h1 : ¬ x < 0) (h2 : ¬ 2 ≤ x) : x = 0 ∨ x = 1 := by
  rw [Int32.lt_iff_toInt_lt] at h1
  rw [Int32.le_iff_toInt_le] at h2
  have e0 : (0 : Int32).toInt = 0 := by decide
  have e1 : (2 : Int32).toInt = 2 := by decide
  have k0 : (0 : Int32).toInt = 0 := by decide
  have k1 : (1 : Int32).toInt = 1 := by decide
  simp only [← Int32.toInt_inj]
  omega
theorem kw_nine {x : Int32} (h1 : ¬ x < 0) (h2 : ¬ 9 ≤ x) : x = 0 ∨ x = 1 ∨ x = 2 ∨ x = 3 ∨ x = 4 ∨ x = 5 ∨ x = 6 ∨ x = 7 ∨ x = 8 := by
  rw [Int32.lt_iff_toInt_lt] at h1
  rw [Int32.le_iff_toInt_le] at h2
  have e0 : (0 : Int32).toInt = 0 := by decide
  have e1 : (9 : Int32).toInt = 9 := by decide
  have k0 : (0 : Int32).toInt = 0 := by decide
  have k1 : (1 : Int32).toInt = 1 := by decide
  have k2 : (2 : Int32).toInt = 2 := by decide
  have k3 : (3 : Int32).toInt = 3 := by decide
  have k4 : (4 : Int32).toInt = 4 := by decide
  have k5 : (5 : Int32).toInt = 5 := by decide
  have k6 : (6 : Int32).toInt = 6 := by decide
  have k7 : (7 : Int32).toInt = 7 := by decide
  have k8 : (8 : Int32).toInt = 8 := by decide
  simp only [← Int32.toInt_inj]
  omega
theorem kw_twoL {x : Int32} (h1 : ¬ x.toInt64 < 0) (h2 : ¬ 1 < x.toInt64) : x = 0 ∨ x = 1 := by
  rw [Int64.lt_iff_toInt_lt, Int32.toInt_toInt64] at h1 h2
  have e0 : (0 : Int64).toInt = 0 := by decide
  have e1 : (1 : Int64).toInt = 1 := by decide
  have k0 : (0 : Int32).toInt = 0 := by decide
  have k1 : (1 : Int32).toInt = 1 := by decide
  simp only [← Int32.toInt_inj]
  omega
theorem kw_threeL {x : Int32} (h1 : ¬ x.toInt64 < 0) (h2 : ¬ 2 < x.toInt64) : x = 0 ∨ x = 1 ∨ x = 2 := by
  rw [Int64.lt_iff_toInt_lt, Int32.toInt_toInt64] at h1 h2
  have e0 : (0 : Int64).toInt = 0 := by decide
  have e1 : (2 : Int64).toInt = 2 := by decide
  have k0 : (0 : Int32).toInt = 0 := by decide
  have k1 : (1 : Int32).toInt = 1 := by decide
  have k2 : (2 : Int32).toInt = 2 := by decide
  simp only [← Int32.toInt_inj]
  omega
theorem kw_nineL {x : Int32} (h1 : ¬ x.toInt64 < 0) (h2 : ¬ 8 < x.toInt64) : x = 0 ∨ x = 1 ∨ x = 2 ∨ x = 3 ∨ x = 4 ∨ x = 5 ∨ x = 6 ∨ x = 7 ∨ x = 8 := by
  rw [Int64.lt_iff_toInt_lt, Int32.toInt_toInt64] at h1 h2
  have e0 : (0 : Int64).toInt = 0 := by decide
  have e1 : (8 : Int64).toInt = 8 := by decide
  have k0 : (0 : Int32).toInt = 0 := by decide
  have k1 : (1 : Int32).toInt = 1 := by decide
  have k2 : (2 : Int32).toInt = 2 := by decide
  have k3 : (3 : Int32).toInt = 3 := by decide
  have k4 : (4 : Int32).toInt = 4 := by decide
  have k5 : (5 : Int32).toInt = 5 := by decide
  have k6 : (6 : Int32).toInt = 6 := by decide
  have k7 : (7 : Int32).toInt = 7 := by decide
  have k8 : (8 : Int32).toInt = 8 := by decide
  simp only [← Int32.toInt_inj]
  omega
