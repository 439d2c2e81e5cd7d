/-- what an image keeps, its numbers told -/
def kr_KK (f : Nat → Int32) (a b c d : Nat) : Prop := ∃ e : Nat, f 0 = nI a ∧ f 1 = nI b ∧ f 2 = nI c ∧ f 3 = nI d ∧ f 4 = nI e ∧ a ≤ 6 ∧ b ≤ 5 ∧ c ≤ 4 ∧ d ≤ 6 ∧ e ≤ 8 ∧ (b = 0 ∨ 0 < a) ∧ kr_t 228 f
theorem kr_KK.congr {f g : Nat → Int32} {a b c d : Nat} (h : kr_KK f a b c d) (e : ∀ p, p < 228 → g p = f p) : kr_KK g a b c d := by
  obtain ⟨z, h0, h1, h2, h3, h4, g0, g1, g2, g3, g4, g5, g6⟩ := h
  exact ⟨z, (e 0 (by decide)).trans h0, (e 1 (by decide)).trans h1, (e 2 (by decide)).trans h2, (e 3 (by decide)).trans h3, (e 4 (by decide)).trans h4, g0, g1, g2, g3, g4, g5, fun p hp => by rw [e p hp]; exact g6 p hp⟩
theorem kr_KK.mk {f : Nat → Int32} {a b c d e : Nat} (h0 : f 0 = nI a) (h1 : f 1 = nI b) (h2 : f 2 = nI c) (h3 : f 3 = nI d) (h4 : f 4 = nI e) (g0 : a ≤ 6) (g1 : b ≤ 5) (g2 : c ≤ 4) (g3 : d ≤ 6) (g4 : e ≤ 8) (g5 : b = 0 ∨ 0 < a) (g6 : kr_t 228 f) : kr_KK f a b c d := ⟨e, h0, h1, h2, h3, h4, g0, g1, g2, g3, g4, g5, g6⟩
theorem kr_KK0 : kr_KK (fun _ => 0) 0 0 0 0 := kr_KK.mk (e := 0) rfl rfl rfl rfl rfl (by decide) (by decide) (by decide) (by decide) (by decide) (by decide) kr_t0
theorem ks_fld_two (f : Nat → Int32) (n s e a g t : Nat) (kd : Nat → Int32) : (∃ q, ks_fld f n s e a g t kd = ks_flt q) ∨ ∃ (q b c u : Nat) (ke : Nat → Int32), ks_fld f n s e a g t kd = ks_ok q b c u ke := by
  by_cases h : a = 6
  · exact Or.inl ⟨_, ks_fld6 h⟩
  · by_cases h1 : ks_nm f n e 0 5 = true
    · by_cases h2 : ks_nm f n (ks_E f n e) 0 60 = true
      · exact Or.inr ⟨_, _, _, _, _, ks_fldC h h1 h2⟩
      · exact Or.inl ⟨_, ks_fldB h h1 h2⟩
    · exact Or.inl ⟨_, ks_fldA h h1⟩
theorem ks_glr_two (f : Nat → Int32) (n s e a g t : Nat) (kd : Nat → Int32) : (∃ q, ks_glr f n s e a g t kd = ks_flt q) ∨ ∃ (q b c u : Nat) (ke : Nat → Int32), ks_glr f n s e a g t kd = ks_ok q b c u ke := by
  by_cases h : g = 5
  · exact Or.inl ⟨_, ks_glr5 h⟩
  · by_cases h1 : ks_nm f n e 0 (a - 1) = true
    · rcases Nat.eq_zero_or_pos a with h0 | h0
      · exact Or.inl ⟨_, ks_glrZ h h0⟩
      · exact Or.inr ⟨_, _, _, _, _, ks_glrB h h0 h1⟩
    · exact Or.inl ⟨_, ks_glrA h h1⟩
theorem ks_gln_two (f : Nat → Int32) (n e a g t : Nat) (kd : Nat → Int32) : (∃ q, ks_gln f n e a g t kd = ks_flt q) ∨ ∃ (q b c u : Nat) (ke : Nat → Int32), ks_gln f n e a g t kd = ks_ok q b c u ke := by
  by_cases h1 : ks_nm f n e 1 t = true
  · exact Or.inr ⟨_, _, _, _, _, ks_glnB h1⟩
  · exact Or.inl ⟨_, ks_glnA h1⟩
theorem ks_it_two (f : Nat → Int32) (n k s e a g t : Nat) (kd : Nat → Int32) : (∃ q, ks_it f n k s e a g t kd = ks_flt q) ∨ ∃ (q b c u : Nat) (ke : Nat → Int32), ks_it f n k s e a g t kd = ks_ok q b c u ke := by
  by_cases h1 : ks_w1 f k s e = true
  · rw [ks_it1 h1]
    exact ks_fld_two f n s e a g t kd
  · by_cases h2 : ks_w2 f k s e = true
    · rw [ks_it2 h1 h2]
      exact ks_glr_two f n s e a g t kd
    · by_cases h3 : ks_w3 f k s e = true
      · rw [ks_it3 h1 h2 h3]
        exact ks_gln_two f n e a g t kd
      · exact Or.inl ⟨_, ks_itN h1 h2 h3⟩
theorem ks_loopX {f : Nat → Int32} {n p i a g t q b c u : Nat} {kd ke : Nat → Int32} (h : ¬ ks_K f n p = 0) (h1 : ks_it f n (ks_K f n p) (ks_S f n p) (ks_E f n p) a g t kd = ks_ok q b c u ke) (h2 : ¬ (ks_K f n q = 3 ∧ p < ks_E f n q ∧ ks_E f n q ≤ n)) : ks_loop f n p i a g t kd = ks_flt (ks_S f n q) := by
  rw [ks_loop, if_neg h, h1, dif_neg (fun z => h2 z.2), if_pos ks_ok1]
  rfl
theorem ks_loop_two (f : Nat → Int32) (n : Nat) : ∀ (d p i a g t : Nat) (kd : Nat → Int32), n - p < d → (∃ q, ks_loop f n p i a g t kd = ks_flt q) ∨ ∃ (q b c u : Nat) (ke : Nat → Int32), ks_loop f n p i a g t kd = ks_ok q b c u ke := by
  intro d
  induction d with
  | zero => intro p i a g t kd h; exact absurd h (Nat.not_lt_zero _)
  | succ d ih =>
    intro p i a g t kd h
    by_cases h0 : ks_K f n p = 0
    · exact Or.inr ⟨_, _, _, _, _, ks_loop0 h0⟩
    · rcases ks_it_two f n (ks_K f n p) (ks_S f n p) (ks_E f n p) a g t kd with ⟨q, hq⟩ | ⟨q, b, c, u, ke, hq⟩
      · exact Or.inl ⟨_, ks_loopF h0 hq⟩
      · by_cases h3 : ks_K f n q = 3 ∧ p < ks_E f n q ∧ ks_E f n q ≤ n
        · rw [ks_loopN h0 hq h3.1 h3.2.1 h3.2.2]
          exact ih _ _ _ _ _ _ (by omega)
        · exact Or.inl ⟨_, ks_loopX h0 hq h3⟩
theorem ks_read_two (f : Nat → Int32) (n : Nat) : (∃ q, ks_read f n = ks_flt q) ∨ ∃ (q b c u : Nat) (ke : Nat → Int32), ks_read f n = ks_ok q b c u ke := by
  rcases ks_it0_two f n (ks_K f n 0) (ks_S f n 0) (ks_E f n 0) with ⟨z, hz⟩ | ⟨z, hz⟩
  · exact Or.inl ⟨_, ks_readF hz⟩
  · by_cases h3 : ks_K f n z = 3
    · rw [ks_readN hz h3]
      exact ks_loop_two f n _ _ _ _ _ _ _ (Nat.lt_succ_self _)
    · exact Or.inl ⟨_, ks_readS hz h3⟩
theorem kw_begin {D : va_G} {A : Nat → Prop} {C T : va_W} {H : Heap} (hP : va_P D vwCl (C ++ T) H) (hD : va_D A (C ++ T)) : va_P D vwCl C H ∧ va_D A C ∧ kw_F D A C T H := ⟨kw_Pl hP, kw_Dl hD, kw_Pr hP, kw_Dr hD, kw_Da hD⟩
