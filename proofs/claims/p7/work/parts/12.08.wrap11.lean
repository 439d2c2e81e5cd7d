/-! the reference's text, exactly -/
theorem kz_Tn_f2 {f : Nat → Int32} {n s e x : Nat} (h : s < n) (hf : ks_f (f s) = true) (he : ks_to ks_f f n s = e) (hx : x = ks_val f s e) (h9 : x ≤ 99) (h2 : e ≤ s + 2) : kz_Tn f n s 2 e (nI x) := by
  have q := kz_Tn_f h hf he hx h9
  rw [if_pos h2] at q
  exact q
/-- the number of the token that begins behind p -/
def kz_N (f : Nat → Int32) (n p : Nat) (v : Int32) : Prop := ks_K f n p = 2 → v = nI (ks_V f n p) ∧ ks_V f n p ≤ 99
def kz_V (k : Nat) (v : Int32) (V : Nat) : Prop := k = 2 → v = nI V ∧ V ≤ 99
def kz_no (k a b V : Nat) : Prop := ¬ (k = 2 ∧ a ≤ V ∧ V ≤ b)
theorem kz_no_1 {k a b V : Nat} (h : ¬ k = 2) : kz_no k a b V := fun q => h q.1
theorem kz_no_2 {k a b V : Nat} (h : ¬ ∃ j : Nat, a ≤ j ∧ j ≤ b ∧ nI V = nI j) : kz_no k a b V := fun q => h ⟨V, q.2.1, q.2.2, rfl⟩
def kz_nF (k n V : Nat) : Prop := ¬ (k = 2 ∧ V < n)
theorem kz_nF_1 {k n V : Nat} (h : ¬ k = 2) : kz_nF k n V := fun q => h q.1
theorem kz_nF_2 {k n V : Nat} (h : ¬ ∃ j : Nat, j < n ∧ nI V = nI j) : kz_nF k n V := fun q => h ⟨V, q.2, rfl⟩
theorem kz_no_nm {f : Nat → Int32} {n q a b : Nat} (h : kz_no (ks_K f n q) a b (ks_V f n q)) : ¬ ks_nm f n q a b = true := fun z => h (of_decide_eq_true z)
theorem kr_nI64 {b : Nat} (hb : b < 2147483648) : (nI b).toInt64 = Int64.ofNat b := Int64.toInt_inj.mp (by rw [Int32.toInt_toInt64, nI_toInt hb, kr_i64 hb])
/-- kinds in a row of the reference -/
def kz_ka (f : Nat → Int32) (a : Nat) (kd : Nat → Int32) : Prop := ∀ i, i < a → f (i + 24) = kd i
theorem kz_ka_u {f kd : Nat → Int32} {a p : Nat} {v : Int32} (h : kz_ka f a kd) (hp : p < 24 ∨ a + 24 ≤ p) : kz_ka (upd f p v) a kd := by
  intro i hi
  rw [pk_un (by omega)]
  exact h i hi
theorem kz_ka_f {f kd : Nat → Int32} {a : Nat} {x y z : Int32} (h : kz_ka f a kd) (ha : a < 6) : kz_ka (upd (upd (upd f (a + 24) x) (a + 5) y) 0 z) (a + 1) (upd kd a x) := by
  intro i hi
  rw [pk_un (by omega), pk_un (by omega)]
  by_cases e : i = a
  · subst e
    rw [pk_us, pk_us]
  · rw [pk_un (by omega), pk_un e]
    exact h i (by omega)
def kz_kk (f g : Nat → Int32) : Prop := ∀ i, i < 6 → g (i + 24) = f (i + 24)
theorem kz_kk_0 {f : Nat → Int32} : kz_kk f f := fun _ _ => rfl
theorem kz_kk_u {f g : Nat → Int32} {p : Nat} {v : Int32} (h : kz_kk f g) (hp : p < 24) : kz_kk f (upd g p v) := by
  intro i hi
  rw [pk_un (by omega)]
  exact h i hi
theorem kz_kk_t {f g k : Nat → Int32} (h : kz_kk f g) (h2 : kz_kk g k) : kz_kk f k := fun i hi => (h2 i hi).trans (h i hi)
theorem kz_ka_k {f g kd : Nat → Int32} {a : Nat} (h : kz_ka f a kd) (hk : kz_kk f g) (ha : a ≤ 6) : kz_ka g a kd := fun i hi => (hk i (by omega)).trans (h i hi)
/-- an item was taken -/
def kz_go (f : Nat → Int32) (n e : Nat) (X : ks_R) (s l k : Nat) (v : Int32) (a g t : Nat) (fan : Nat → Int32) : Prop := ∃ (q : Nat) (kd : Nat → Int32), X = ks_ok q a g t kd ∧ q ≤ n ∧ e ≤ q ∧ kz_R f n q s l k v ∧ kz_ka fan a kd
theorem kz_go.mk {f fan kd : Nat → Int32} {n e q a g t : Nat} {X : ks_R} {v : Int32} (h : X = ks_ok q a g t kd) (hq : q ≤ n) (he : e ≤ q) (hn : kz_N f n q v) (hk : kz_ka fan a kd) : kz_go f n e X (ks_S f n q) (ks_L f n q) (ks_K f n q) v a g t fan := ⟨q, kd, h, hq, he, ⟨rfl, rfl, rfl, hn⟩, hk⟩
theorem kz_go.as {f fan : Nat → Int32} {n e s l k a g t : Nat} {X Y : ks_R} {v : Int32} (h : kz_go f n e X s l k v a g t fan) (q : Y = X) : kz_go f n e Y s l k v a g t fan := by
  rw [q]
  exact h
/-- the first item and its stop -/
def ks_pa (f : Nat → Int32) (n k s e : Nat) : ks_R := if (ks_it0 f n k s e).1 = 1 then (if ks_K f n (ks_it0 f n k s e).2.1 = 3 then ks_it0 f n k s e else ks_flt (ks_S f n (ks_it0 f n k s e).2.1)) else ks_it0 f n k s e
theorem ks_paF {f : Nat → Int32} {n k s e q : Nat} (h : ks_it0 f n k s e = ks_flt q) : ks_pa f n k s e = ks_flt q := by
  rw [ks_pa, h, if_neg ks_flt1]
theorem ks_paS {f : Nat → Int32} {n k s e q : Nat} (h : ks_it0 f n k s e = ks_ok q 0 0 12 (fun _ => 0)) (h2 : ¬ ks_K f n q = 3) : ks_pa f n k s e = ks_flt (ks_S f n q) := by
  rw [ks_pa, h, if_pos ks_ok1, if_neg (show ¬ ks_K f n (ks_ok q 0 0 12 (fun _ => 0)).2.1 = 3 from h2)]
  rfl
theorem ks_paN {f : Nat → Int32} {n k s e q : Nat} (h : ks_it0 f n k s e = ks_ok q 0 0 12 (fun _ => 0)) (h2 : ks_K f n q = 3) : ks_pa f n k s e = ks_ok q 0 0 12 (fun _ => 0) := by
  rw [ks_pa, h, if_pos ks_ok1, if_pos (show ks_K f n (ks_ok q 0 0 12 (fun _ => 0)).2.1 = 3 from h2)]
theorem ks_it0_two (f : Nat → Int32) (n k s e : Nat) : (∃ q, ks_it0 f n k s e = ks_flt q) ∨ ∃ q, ks_it0 f n k s e = ks_ok q 0 0 12 (fun _ => 0) := by
  by_cases h : ks_w0 f k s e = true
  · by_cases h1 : ks_nm f n e 0 9 = true
    · exact Or.inr ⟨_, ks_it0C h h1⟩
    · exact Or.inl ⟨_, ks_it0B h h1⟩
  · exact Or.inl ⟨_, ks_it0A h⟩
theorem ks_read_paF {f : Nat → Int32} {n q : Nat} (h : ks_pa f n (ks_K f n 0) (ks_S f n 0) (ks_E f n 0) = ks_flt q) : ks_read f n = ks_flt q := by
  rcases ks_it0_two f n (ks_K f n 0) (ks_S f n 0) (ks_E f n 0) with ⟨z, hz⟩ | ⟨z, hz⟩
  · rw [ks_paF hz] at h
    rw [ks_readF hz, h]
  · by_cases h3 : ks_K f n z = 3
    · rw [ks_paN hz h3] at h
      exact (ks_ne h.symm).elim
    · rw [ks_paS hz h3] at h
      rw [ks_readS hz h3, h]
theorem ks_read_paN {f : Nat → Int32} {n q : Nat} (h : ks_pa f n (ks_K f n 0) (ks_S f n 0) (ks_E f n 0) = ks_ok q 0 0 12 (fun _ => 0)) : ks_read f n = ks_loop f n (ks_E f n q) 1 0 0 12 (fun _ => 0) := by
  rcases ks_it0_two f n (ks_K f n 0) (ks_S f n 0) (ks_E f n 0) with ⟨z, hz⟩ | ⟨z, hz⟩
  · rw [ks_paF hz] at h
    exact (ks_ne h).elim
  · by_cases h3 : ks_K f n z = 3
    · rw [ks_paN hz h3] at h
      obtain ⟨rfl, _⟩ := ks_ok_inj h
      exact ks_readN hz h3
    · rw [ks_paS hz h3] at h
      exact (ks_ne h).elim
/-- where the reference's reading stands -/
def kz_RI (f : Nat → Int32) (n s l k : Nat) (v : Int32) (i a g sp : Nat) (fan : Nat → Int32) : Prop := ∃ (p : Nat) (kd : Nat → Int32), kz_R f n p s l k v ∧ p ≤ n ∧ ks_read f n = ks_loop f n p i a g (12 - sp) kd ∧ kz_ka fan a kd
theorem kz_RI.mk {f fan kd : Nat → Int32} {n p i a g sp : Nat} {v : Int32} (hn : kz_N f n p v) (hp : p ≤ n) (h : ks_read f n = ks_loop f n p i a g (12 - sp) kd) (hk : kz_ka fan a kd) : kz_RI f n (ks_S f n p) (ks_L f n p) (ks_K f n p) v i a g sp fan := ⟨p, kd, ⟨rfl, rfl, rfl, hn⟩, hp, h, hk⟩
theorem kz_ka_0 {f kd : Nat → Int32} : kz_ka f 0 kd := fun i hi => absurd hi (Nat.not_lt_zero i)
theorem kz_ka_cp {f fan kd : Nat → Int32} {a : Nat} (h : kz_ka fan a kd) (ha : a ≤ 6) : kz_ka (kr_cp f fan 76) a kd := fun i hi => (kr_cp_lt (by omega)).trans (h i hi)
theorem ks_next {f kd ke : Nat → Int32} {n p i a g t q b c u : Nat} (hR : ks_read f n = ks_loop f n p i a g t kd) (hp : p ≤ n) (hK : ¬ ks_K f n p = 0) (h1 : ks_it f n (ks_K f n p) (ks_S f n p) (ks_E f n p) a g t kd = ks_ok q b c u ke) (hq : q ≤ n) (he : ks_E f n p ≤ q) (h3 : ks_K f n q = 3) : ks_read f n = ks_loop f n (ks_E f n q) (i + 1) b c u ke := by
  have e1 := ks_S_le (f := f) hp
  have e2 := ks_E_le (f := f) hp
  have e3 := ks_S_le (f := f) hq
  have e4 := ks_E_le (f := f) hq
  have e5 := ks_Kpos (f := f) (n := n) (p := q) (by omega)
  exact hR.trans (ks_loopN hK h1 h3 (by omega) e4.2)
