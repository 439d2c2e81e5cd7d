/-- every place of a row below n is a number below N -/
def kw_bd (N n : Nat) (f : Nat → Int32) : Prop := ∀ k, k < n → vp_in (f k) N
theorem kw_bdv {N n k : Nat} {f : Nat → Int32} (h : kw_bd N n f) (hk : k < n) (hN : N < 2147483648) : ∃ w : Nat, w < N ∧ f k = nI w := vp_in_of (h k hk) hN
theorem kw_bdu {N n i : Nat} {f : Nat → Int32} {v : Int32} (h : kw_bd N n f) (hv : vp_in v N) : kw_bd N n (upd f i v) := by
  intro k hk
  by_cases e : k = i
  · subst e
    rw [pk_us]
    exact hv
  · rw [pk_un e]
    exact h k hk
theorem kw_bdc {N n n0 L : Nat} {f g : Nat → Int32} (h : kw_bd N n0 f) (h2 : kw_bd N n g) (hL : L ≤ n0) : kw_bd N n (va_cpy f g 0 0 L) := by
  intro k hk
  by_cases e : k < L
  · rw [pk_cpy_in (Nat.zero_le k) (by omega)]
    exact h _ (by omega)
  · rw [pk_cpy_out (Or.inr (by omega))]
    exact h2 k hk
theorem kw_bdle {N M n : Nat} {f : Nat → Int32} (h : kw_bd N n f) (hNM : N ≤ M) : kw_bd M n f := fun k hk => kw_inle (h k hk) hNM
theorem kw_bd0 {N n : Nat} (hN : 0 < N) : kw_bd N n (fun _ => 0) := by
  intro k hk
  rw [vp_in_iff]
  have h0 : (0 : Int32).toInt = 0 := by decide
  rw [h0]
  omega
theorem kw_min {a b : Nat} (ha : a < 2147483648) (hb : b < 2147483648) : (if nI b < nI a then nI b else nI a) = nI (min a b) := by
  by_cases h : b < a
  · rw [if_pos ((nI_ltI hb ha).mpr h), Nat.min_eq_right (Nat.le_of_lt h)]
  · rw [if_neg (fun q => h ((nI_ltI hb ha).mp q)), Nat.min_eq_left (by omega)]
theorem kw_max {a b : Nat} (ha : a < 2147483648) (hb : b < 2147483648) : (if nI a < nI b then nI b else nI a) = nI (max a b) := by
  by_cases h : a < b
  · rw [if_pos ((nI_ltI ha hb).mpr h), Nat.max_eq_right (Nat.le_of_lt h)]
  · rw [if_neg (fun q => h ((nI_ltI ha hb).mp q)), Nat.max_eq_left (by omega)]
theorem kw_ex {x : Int32} {n : Nat} (h1 : ¬ x < 0) (h2 : ¬ nI n ≤ x) (hn : n < 2147483648) : ∃ j : Nat, j < n ∧ x = nI j := by
  obtain ⟨j, hj, rfl⟩ := nI_of h1
  exact ⟨j, Nat.lt_of_not_le (fun q => h2 (nI_le q hj)), rfl⟩
theorem kw_nex1 {x : Int32} {n : Nat} (h : x < 0) (hn : n < 2147483648) : ¬ ∃ j : Nat, j < n ∧ x = nI j := by
  rintro ⟨j, hj, rfl⟩
  exact nI_pos (by omega) h
theorem kw_nex2 {x : Int32} {n : Nat} (h : nI n ≤ x) (hn : n < 2147483648) : ¬ ∃ j : Nat, j < n ∧ x = nI j := by
  rintro ⟨j, hj, rfl⟩
  exact nI_ge hj hn h
theorem kw_ex2 {x : Int32} {a b : Nat} (h1 : ¬ x < nI a) (h2 : ¬ nI b < x) (ha : a < 2147483648) (hb : b < 2147483648) : ∃ j : Nat, a ≤ j ∧ j ≤ b ∧ x = nI j := kw_rng h1 h2 (nI_toInt ha) (nI_toInt hb)
theorem kw_nex3 {x : Int32} {a b : Nat} (h : x < nI a) (ha : a < 2147483648) (hb : b < 2147483648) : ¬ ∃ j : Nat, a ≤ j ∧ j ≤ b ∧ x = nI j := by
  rintro ⟨j, h1, h2, rfl⟩
  exact nI_nlt h1 (by omega) h
theorem kw_nex4 {x : Int32} {a b : Nat} (h : nI b < x) (ha : a < 2147483648) (hb : b < 2147483648) : ¬ ∃ j : Nat, a ≤ j ∧ j ≤ b ∧ x = nI j := by
  rintro ⟨j, h1, h2, rfl⟩
  exact nI_nlt h2 hb h
theorem kw_nn (x : Int32) : x < 0 ∨ ∃ j : Nat, j < 2147483648 ∧ x = nI j := by
  by_cases h : x < 0
  · exact Or.inl h
  · exact Or.inr (nI_of h)
section KQ
variable {p : Program} {l : Launch} {e : Env} {R : Room} {s : State} {m : MethodId} {args : Array Value} {below : List Frame} {meth : Method} {c : Code} {H : Heap} {locs : List Loc} {cells slots : Nat} {Q : State → Prop}
variable {cc : ByteArray} {pc : Nat} {ls : Array Slot} {rest : List Value} {D : va_G} {cl : List vw_C} {a : Nat} {tys : List (ClassId × FieldType)} {ws : va_W}
/-- a row of rows is read -/
theorem kw_aldQ (hexec : p.tables.exec = Jvm.exec) (hb : c.code = cc) (hK : va_K D cl tys s) (hP : va_P D cl ws H) (q0 t0 : Nat) {cA : ClassId} {n : Nat} {f : Nat → Option Nat} (ha : ws[q0]? = some (a, .inl (cA, n, .inr (.inr (.inr (.inr f)))))) (ht : tys[t0]? = some (cA, .array .int)) {i : Int32} (hin : vp_in i n) (hdg : decode cc pc = .ok (.aaload, 1))
    (kk : W p l e R s m args below meth c H locs cells slots Q (F0 m (pc + 1) ls (va_rf (f i.toNatClampNeg) :: rest))) : W p l e R s m args below meth c H locs cells slots Q (F0 m pc ls (.int i :: .ref a :: rest)) := by
  have hlt : i.toNatClampNeg < n := Nat.not_le.mp fun q => hin (Or.inr q)
  refine W.aald (v := va_rf (f i.toNatClampNeg)) (ty := .array .int) hexec hb (hP q0 _ ha) ((hK.2 t0 _ ht).1 n (fun j => va_rf (f j))) rfl (fun q => by cases q) ?_ ?_ rfl rfl hdg kk
  · show ¬ (i < 0 ∨ (arrV _ _ _).slots.size ≤ _)
    rw [arrV_size]
    exact hin
  · show (arrV _ _ _).slots[_]? = _
    rw [arrV_read _ _ hlt]
end KQ
theorem kw_nz {x : Int32} (h : ¬ x ≤ 0) : ¬ x = 0 := fun e => h (by rw [e]; exact Int32.le_refl 0)
theorem kw_neg1 {x : Int32} {j : Nat} (hx : x < 0) (h : x = nI j) (hj : j < 2147483648) : False := nI_pos hj (by rw [← h]; exact hx)
