/-- the four words that the text is read for: their lengths and letters -/
def kzL : List Nat := [6, 5, 7, 5]
def kzB : List (List Int32) := [[112, 97, 114, 105, 115, 104], [102, 105, 101, 108, 100], [103, 108, 101, 97, 110, 101, 114], [103, 108, 101, 97, 110]]
def kz (aK aV : Nat → Nat) (A : Nat → Prop) (U : State) (H : Heap) : Prop :=
  vk_S 4 kzL kzB aK aV A U H ∧ va_Z "java/lang/String" "COMPACT_STRINGS" "Z" (.int 1) A U H ∧ va_Zq "jdk/internal/util/Preconditions" "SIOOBE_FORMATTER" "Ljava/util/function/BiFunction;" A U H ∧ vk_R "GleanDusk$Text" 65 "parish" (aK 0) U ∧ vk_R "GleanDusk$Text" 71 "field" (aK 1) U ∧ vk_R "GleanDusk$Text" 73 "gleaner" (aK 2) U ∧ vk_R "GleanDusk$Text" 75 "glean" (aK 3) U
theorem kz.warm {aK aV : Nat → Nat} {A : Nat → Prop} {s U : State} {H : Heap} (hW : s.WarmedH U.vm) (h : kz aK aV A s H) : kz aK aV A U H :=
  ⟨h.1.moved hW.alike, h.2.1.moved hW.alike, h.2.2.1.moved hW.alike, h.2.2.2.1.warm hW, h.2.2.2.2.1.warm hW, h.2.2.2.2.2.1.warm hW, h.2.2.2.2.2.2.warm hW⟩
theorem kz.same {aK aV : Nat → Nat} {A : Nat → Prop} {s U : State} {H : Heap} (e : U.vm = s.vm) (h : kz aK aV A s H) : kz aK aV A U H :=
  ⟨h.1.moved (e ▸ Vm.Alike.refl s.vm), h.2.1.moved (e ▸ Vm.Alike.refl s.vm), h.2.2.1.moved (e ▸ Vm.Alike.refl s.vm), h.2.2.2.1.same e, h.2.2.2.2.1.same e, h.2.2.2.2.2.1.same e, h.2.2.2.2.2.2.same e⟩
theorem kz.kept {aK aV : Nat → Nat} {A : Nat → Prop} {U : State} {H H1 : Heap} (h : kz aK aV A U H) (hq : ∀ a : Nat, a < H.size → ¬ A a → H1[a]? = H[a]?) : kz aK aV A U H1 :=
  ⟨h.1.kept hq, h.2.1.kept hq, h.2.2.1.kept hq, h.2.2.2⟩
theorem kz.narrow {aK aV : Nat → Nat} {A B : Nat → Prop} {U : State} {H : Heap} (h : kz aK aV A U H) (hAB : ∀ q, B q → A q) : kz aK aV B U H :=
  ⟨h.1.narrow hAB, h.2.1.narrow hAB, h.2.2.1.narrow hAB, h.2.2.2⟩
theorem kz_form {aK aV : Nat → Nat} {A : Nat → Prop} {U : State} {H : Heap} (h : kz aK aV A U H) : ∃ v : Value, va_Z "jdk/internal/util/Preconditions" "SIOOBE_FORMATTER" "Ljava/util/function/BiFunction;" v A U H := by
  rcases h.2.2.1 with q | ⟨t, q⟩
  · exact ⟨_, q⟩
  · exact ⟨_, q⟩
def kz_P (D : va_G) (y : Nat → ClassId) (av : List Value) (sz : Nat) (ws : va_W) (aK aV : Nat → Nat) : Array Value → State → Prop := va_Pc av (fun U => U.heap.size = sz ∧ va_P D vwCl ws U.heap ∧ va_K D vwCl (kw_T y) U ∧ va_D (fun _ => True) ws ∧ kw_N U ∧ kz aK aV (va_A ws sz) U U.heap)
def kz_Mi {S : Type} (l : Launch) (yn : MethodName) (wy : List Cond) (rm : Room) (D : va_G) (y : Nat → ClassId) (av : List Value) (ws : va_W) (aK aV : Nat → Nat) (post : Int32 → S → Prop) (w1 : S → va_W) (mc ms : Nat) : Prop := ∀ sz : Nat, Met l yn wy rm (kz_P D y av sz ws aK aV) (va_Qi post (kw_B D w1 (va_A ws sz)) (va_A ws sz)) mc ms (va_A ws sz)
def kz_Mv {S : Type} (l : Launch) (yn : MethodName) (wy : List Cond) (rm : Room) (D : va_G) (y : Nat → ClassId) (av : List Value) (ws : va_W) (aK aV : Nat → Nat) (post : S → Prop) (w1 : S → va_W) (mc ms : Nat) : Prop := ∀ sz : Nat, Met l yn wy rm (kz_P D y av sz ws aK aV) (va_Qv post (kw_B D w1 (va_A ws sz)) (va_A ws sz)) mc ms (va_A ws sz)
theorem kz_Blind {D : va_G} {y : Nat → ClassId} {av : List Value} {sz : Nat} {ws : va_W} {aK aV : Nat → Nat} : FrameBlind (kz_P D y av sz ws aK aV) := fun a U g mk q => by
  obtain ⟨q0, q1, qP, qK, qD, qN, qZ⟩ := q
  exact ⟨q0, q1, qP, va_K.moved (u := U) (U := U.calling g mk a) (Vm.Alike.refl U.vm) qK, qD, kw_N.same (s := U) (U := U.calling g mk a) rfl qN, kz.same (s := U) (U := U.calling g mk a) rfl qZ⟩
def kz_E (p : Program) (s : State) (m : MethodId) (meth : Method) (c : Code) (cc : ByteArray) (maxL : Nat) (ret : Option FieldType) (R0 : String) (nm : String) (av : List Value) (wy : List Cond) (D : va_G) (y : Nat → ClassId) (ws : va_W) (aK aV : Nat → Nat) (A : Nat → Prop) : Prop :=
  p.tables.exec = Jvm.exec ∧ c.code = cc ∧ meth.sig.returnType = ret ∧ c.maxLocals = maxL ∧ (∀ w ∈ wy, w.before av.toArray s = true) ∧ s.vm.findClass R0 = some m.cls ∧ meth.locks = false ∧ meth.name = nm ∧ (∀ q : Nat, s.heap.size ≤ q → A q) ∧ va_P D vwCl ws s.heap ∧ va_D A ws ∧ va_K D vwCl (kw_T y) s ∧ kw_N s ∧ kz aK aV A s s.heap
section KZ
variable {S : Type} {l : Launch} {yn : MethodName} {wy wy' : List Cond} {rm : Room} {D : va_G} {y : Nat → ClassId} {av : List Value} {ws : va_W} {aK aV : Nat → Nat} {w1 : S → va_W} {mc ms : Nat} {cc : ByteArray} {maxL : Nat} {ret : Option FieldType}
theorem kz_Mi.of {post : Int32 → S → Prop} (hy : plainName yn.cls = true) (hw : wy = Cond.code yn cc maxL ret :: wy')
    (body : ∀ (p : Program) (e : Env) (s : State) (m : MethodId) (below : List Frame) (meth : Method) (c : Code) (A : Nat → Prop), kz_E p s m meth c cc maxL ret yn.cls yn.name av wy D y ws aK aV A →
      W p l e rm s m av.toArray below meth c s.heap [] 0 0 (MQ below (va_Qi post (kw_B D w1 A) A) av.toArray s mc ms A) (entryFrame m av.toArray maxL)) : kz_Mi l yn wy rm D y av ws aK aV post w1 mc ms := by
  intro sz
  refine Met.ofW (cc := cc) (maxL := maxL) (ret := ret) hy hw ?_
  intro p e s m args below meth c s₁ B hml hv
  obtain ⟨rfl, hsz, hP, hK, hD0, hN, hZ⟩ := hv
  subst hsz
  have hD := hD0.self (sz := s.heap.size)
  exact body p e s m below meth c _ ⟨B.exec, B.bytes, B.returns, hml, atoms_spec (ws := wy) B.pre, findClass_of_methodNamed B.named, B.notSynchronized, (name_of_methodNamed B.named B.method).1, fun q h => Or.inr h, hP, hD, hK, hN, hZ⟩
theorem kz_Mv.of {post : S → Prop} (hy : plainName yn.cls = true) (hw : wy = Cond.code yn cc maxL ret :: wy')
    (body : ∀ (p : Program) (e : Env) (s : State) (m : MethodId) (below : List Frame) (meth : Method) (c : Code) (A : Nat → Prop), kz_E p s m meth c cc maxL ret yn.cls yn.name av wy D y ws aK aV A →
      W p l e rm s m av.toArray below meth c s.heap [] 0 0 (MQ below (va_Qv post (kw_B D w1 A) A) av.toArray s mc ms A) (entryFrame m av.toArray maxL)) : kz_Mv l yn wy rm D y av ws aK aV post w1 mc ms := by
  intro sz
  refine Met.ofW (cc := cc) (maxL := maxL) (ret := ret) hy hw ?_
  intro p e s m args below meth c s₁ B hml hv
  obtain ⟨rfl, hsz, hP, hK, hD0, hN, hZ⟩ := hv
  subst hsz
  have hD := hD0.self (sz := s.heap.size)
  exact body p e s m below meth c _ ⟨B.exec, B.bytes, B.returns, hml, atoms_spec (ws := wy) B.pre, findClass_of_methodNamed B.named, B.notSynchronized, (name_of_methodNamed B.named B.method).1, fun q h => Or.inr h, hP, hD, hK, hN, hZ⟩
end KZ
section KZC
variable {s : State} {H : Heap} {locs : List Loc} {D : va_G} {y : Nat → ClassId} {ws wc wr : va_W} {A : Nat → Prop} {As : List Value} {b : Nat} {C : String} {aK aV : Nat → Nat}
theorem kz_PreS {isC isR : List Nat} (hx : kw_Split ws wc wr isC isR) (hP : va_P D vwCl ws H) (hD : va_D A ws) (hK : va_K D vwCl (kw_T y) s) (hN : kw_N s) (hZ : kz aK aV A s s.heap) (hS : va_S A s.heap H locs) (hA : ∀ q, s.heap.size ≤ q → A q) : PreS s H (kz_P D y As H.size wc aK aV) As :=
  ⟨kz_Blind, fun U hU hW => ⟨rfl, by rw [hU], by rw [hU]; exact hP.sub isC hx.1, va_K.moved hW.alike hK, (hD.sub isC hx.2.2.2.1 hx.2.1).weaken (fun _ _ _ _ => trivial), hN.warm hW, by rw [hU]; exact ((hZ.kept hS.2.1).narrow (va_free (wc := wc) hD hS hA isC hx.2.1)).warm hW⟩⟩
theorem kz_PreI {isC isR : List Nat} (hx : kw_Split ws wc wr isC isR) (hP : va_P D vwCl ws H) (hD : va_D A ws) (hK : va_K D vwCl (kw_T y) s) (hN : kw_N s) (hZ : kz aK aV A s s.heap) (hS : va_S A s.heap H locs) (hA : ∀ q, s.heap.size ≤ q → A q) : PreS s H (kz_P D y (.ref b :: As) H.size wc aK aV) (.ref b :: As) := kz_PreS hx hP hD hK hN hZ hS hA
theorem kz_PreV {isC isR : List Nat} {ci q0 : Nat} {T : u_T} {N : Nat} {fs : List Value} (hx : kw_Split ws wc wr isC isR) (hP : va_P D vwCl ws H) (hD : va_D A ws) (hK : va_K D vwCl (kw_T y) s) (hN : kw_N s) (hc : vwCl[ci]? = some (C, T, N)) (he : ws[q0]? = some (b, .inr (ci, fs))) (hZ : kz aK aV A s s.heap) (hS : va_S A s.heap H locs) (hA : ∀ q, s.heap.size ≤ q → A q) : PreV s H C b (kz_P D y (.ref b :: As) H.size wc aK aV) As :=
  ⟨kz_Blind, va_recv hK hP hc he, (kz_PreI hx hP hD hK hN hZ hS hA).2⟩
theorem kz_PreK {isC isR : List Nat} {i : Nat} (hx : kw_Split ws wc wr isC isR) (hP : va_P D vwCl ws H) (hD : va_D A ws) (hK : va_K D vwCl (kw_T y) s) (hN : kw_N s) (hi : i < 4) (hZ : kz aK aV A s s.heap) (hS : va_S A s.heap H locs) (hA : ∀ q, s.heap.size ≤ q → A q) : PreV s H "java/lang/String" (aK i) (kz_P D y (.ref (aK i) :: As) H.size wc aK aV) As :=
  ⟨kz_Blind, vk_recv hZ.1 hi hS, (kz_PreI hx hP hD hK hN hZ hS hA).2⟩
end KZC
/-- how many of the first n are v -/
def kz_cnt (f : Nat → Int32) (v : Int32) : Nat → Nat
  | 0 => 0
  | n + 1 => kz_cnt f v n + if f n = v then 1 else 0
theorem kz_cnt_eq {f g : Nat → Int32} {v : Int32} : ∀ n : Nat, (∀ k, k < n → f k = g k) → kz_cnt f v n = kz_cnt g v n := by
  intro n
  induction n with
  | zero => intro _; rfl
  | succ n ih => intro h; rw [kz_cnt, kz_cnt, ih (fun k hk => h k (by omega)), h n (by omega)]
theorem kz_cnt_le {f : Nat → Int32} {v : Int32} : ∀ d n : Nat, kz_cnt f v n ≤ kz_cnt f v (n + d) := by
  intro d
  induction d with
  | zero => intro n; exact Nat.le_refl _
  | succ d ih => intro n; exact Nat.le_trans (ih n) (by rw [show n + (d + 1) = n + d + 1 from rfl, kz_cnt]; omega)
theorem kz_cnt_lt {f : Nat → Int32} {v : Int32} {n m : Nat} (h : n < m) (e : f n = v) : kz_cnt f v n + 1 ≤ kz_cnt f v m := by
  have q := kz_cnt_le (f := f) (v := v) (m - (n + 1)) (n + 1)
  rw [show n + 1 + (m - (n + 1)) = m from by omega] at q
  rw [kz_cnt, if_pos e] at q
  exact q
/-- what the items told so far say: a fields, b gleaners -/
def kz_ok (wo fs : Nat → Int32) (n a b : Nat) : Prop := kz_cnt wo 1 n = a ∧ kz_cnt wo 2 n = b ∧ a ≤ 6 ∧ b ≤ 5 ∧ ∀ k, k < n → (wo k = 1 ∨ wo k = 2) → vp_in (fs k) 6
theorem kz_ok_0 (wo fs : Nat → Int32) : kz_ok wo fs 0 0 0 := ⟨rfl, rfl, by decide, by decide, fun k hk => absurd hk (Nat.not_lt_zero k)⟩
theorem kz_cnt_up {f : Nat → Int32} {v w : Int32} {n : Nat} : kz_cnt (upd f n w) v (n + 1) = kz_cnt f v n + if w = v then 1 else 0 := by
  rw [kz_cnt, pk_us, kz_cnt_eq (f := upd f n w) (g := f) n (fun k hk => pk_un (by omega))]
theorem kz_ok_n {wo fs : Nat → Int32} {n a b : Nat} {w x : Int32} (h : kz_ok wo fs n a b) (h1 : ¬ w = 1) (h2 : ¬ w = 2) : kz_ok (upd wo n w) (upd fs n x) (n + 1) a b := by
  obtain ⟨e1, e2, g1, g2, g3⟩ := h
  refine ⟨by rw [kz_cnt_up, if_neg h1]; exact e1, by rw [kz_cnt_up, if_neg h2]; exact e2, g1, g2, fun k hk hw => ?_⟩
  by_cases q : k = n
  · subst q
    rw [pk_us] at hw
    rcases hw with z | z
    · exact absurd z h1
    · exact absurd z h2
  · rw [pk_un q] at hw ⊢
    exact g3 k (by omega) hw
theorem kz_ok_1 {wo fs : Nat → Int32} {n a b : Nat} {x : Int32} (h : kz_ok wo fs n a b) (ha : a + 1 ≤ 6) (hx : vp_in x 6) : kz_ok (upd wo n 1) (upd fs n x) (n + 1) (a + 1) b := by
  obtain ⟨e1, e2, g1, g2, g3⟩ := h
  refine ⟨by rw [kz_cnt_up, if_pos rfl, e1], by rw [kz_cnt_up, if_neg (by decide)]; exact e2, ha, g2, fun k hk hw => ?_⟩
  by_cases q : k = n
  · subst q
    rw [pk_us]
    exact hx
  · rw [pk_un q] at hw ⊢
    exact g3 k (by omega) hw
theorem kz_ok_2 {wo fs : Nat → Int32} {n a b : Nat} {x : Int32} (h : kz_ok wo fs n a b) (hb : b + 1 ≤ 5) (hx : vp_in x 6) : kz_ok (upd wo n 2) (upd fs n x) (n + 1) a (b + 1) := by
  obtain ⟨e1, e2, g1, g2, g3⟩ := h
  refine ⟨by rw [kz_cnt_up, if_neg (by decide)]; exact e1, by rw [kz_cnt_up, if_pos rfl, e2], g1, hb, fun k hk hw => ?_⟩
  by_cases q : k = n
  · subst q
    rw [pk_us]
    exact hx
  · rw [pk_un q] at hw ⊢
    exact g3 k (by omega) hw
theorem kz_tenneg {a : Nat} (h : a ≤ 150) : (-10 : Int32) - nI a < 0 := by
  rw [Int32.lt_iff_toInt_lt, Int32.toInt_sub, nI_toInt (by omega)]
  have e1 : (-10 : Int32).toInt = -10 := by decide
  have e2 : (0 : Int32).toInt = 0 := by decide
  rw [e1, e2]
  rw [Int.bmod_eq_of_le (by omega) (by omega)]
  omega
def kz_ch (r : Int32) : Prop := narrow .char (.int r) = .int r
theorem kz_contra {x : Int32} (h1 : ¬ x < 0) (h2 : ¬ (-1) < x) : False := by
  rw [Int32.lt_iff_toInt_lt] at h1 h2
  have e1 : (-1 : Int32).toInt = -1 := by decide
  have e2 : (0 : Int32).toInt = 0 := by decide
  omega
/-- a number was taken into a row -/
def kz_tk (f : Nat → Int32) (k : Nat) (g : Nat → Int32) (x : Int32) (a b : Nat) : Prop := ∃ z : Nat, a ≤ z ∧ z ≤ b ∧ g = upd f k (nI z) ∧ x = nI z
theorem kz_tk.mk {f : Nat → Int32} {k a b : Nat} (z : Nat) (h1 : a ≤ z) (h2 : z ≤ b) : kz_tk f k (upd f k (nI z)) (nI z) a b := ⟨z, h1, h2, rfl, rfl⟩
/-- what a reading of the text tells: how many items, or a number below 0 -/
def kz_pr (wo fs : Nat → Int32) (r : Int32) : Prop := r < 0 ∨ ∃ n a b : Nat, n < 25 ∧ kz_ok wo fs n a b ∧ r = nI n
theorem kz_pr.mk {wo fs : Nat → Int32} {n a b : Nat} (hn : n < 25) (h : kz_ok wo fs n a b) : kz_pr wo fs (nI n) := Or.inr ⟨n, a, b, hn, h, rfl⟩
theorem kz_pr.neg {wo fs : Nat → Int32} {r : Int32} (h : r < 0) : kz_pr wo fs r := Or.inl h
theorem kz_nle {r : Int32} (h : r < 0) : ¬ 0 ≤ r := Int32.not_le.mpr h
def kz_rd (wo : Nat → Int32) (j a b : Nat) : Prop := a ≤ kz_cnt wo 1 j ∧ b ≤ kz_cnt wo 2 j
theorem kz_rd1 {wo fs : Nat → Int32} {n a b j c d : Nat} (h : kz_rd wo j c d) (hk : kz_ok wo fs n a b) (hj : j < n) (e : wo j = 1) : c < 6 := by
  have q := kz_cnt_lt (f := wo) hj e
  rw [hk.1] at q
  have := hk.2.2.1
  have := h.1
  omega
theorem kz_rd2 {wo fs : Nat → Int32} {n a b j c d : Nat} (h : kz_rd wo j c d) (hk : kz_ok wo fs n a b) (hj : j < n) (e : wo j = 2) : d < 5 := by
  have q := kz_cnt_lt (f := wo) hj e
  rw [hk.2.1] at q
  have := hk.2.2.2.1
  have := h.2
  omega
theorem kz_rdn1 {wo : Nat → Int32} {j a b : Nat} (h : kz_rd wo j a b) (e : wo j = 1) : kz_rd wo (j + 1) (a + 1) b := ⟨by rw [kz_cnt, if_pos e]; have := h.1; omega, by rw [kz_cnt]; have := h.2; omega⟩
theorem kz_rdn2 {wo : Nat → Int32} {j a b : Nat} (h : kz_rd wo j a b) (e : wo j = 2) : kz_rd wo (j + 1) a (b + 1) := ⟨by rw [kz_cnt]; have := h.1; omega, by rw [kz_cnt, if_pos e]; have := h.2; omega⟩
theorem kz_rdn0 {wo : Nat → Int32} {j a b : Nat} (h : kz_rd wo j a b) : kz_rd wo (j + 1) a b := ⟨by rw [kz_cnt]; have := h.1; omega, by rw [kz_cnt]; have := h.2; omega⟩
theorem kz_rd0 {wo : Nat → Int32} {j : Nat} : kz_rd wo j 0 0 := ⟨Nat.zero_le _, Nat.zero_le _⟩
theorem kz_fs {wo fs : Nat → Int32} {n a b j : Nat} (hk : kz_ok wo fs n a b) (hj : j < n) (e : wo j = 1 ∨ wo j = 2) : ∃ z : Nat, z < 6 ∧ fs j = nI z := vp_in_of (hk.2.2.2.2 j hj e) (by decide)
