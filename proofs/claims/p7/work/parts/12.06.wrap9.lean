/-! the text, exactly: tokens -/
def ks_l (x : Int32) : Bool := decide (97 ≤ x ∧ x ≤ 122)
def ks_f (x : Int32) : Bool := decide (48 ≤ x ∧ x ≤ 57)
def ks_b (x : Int32) : Bool := decide (x = 32)
theorem ks_l_mk {x : Int32} (h1 : ¬ x < 97) (h2 : ¬ 122 < x) : ks_l x = true := decide_eq_true ⟨Int32.not_lt.mp h1, Int32.not_lt.mp h2⟩
theorem ks_l_n1 {x : Int32} (h : x < 97) : ¬ ks_l x = true := fun q => absurd (of_decide_eq_true q).1 (Int32.not_le.mpr h)
theorem ks_l_n2 {x : Int32} (h : 122 < x) : ¬ ks_l x = true := fun q => absurd (of_decide_eq_true q).2 (Int32.not_le.mpr h)
theorem ks_f_mk {x : Int32} (h1 : ¬ x < 48) (h2 : ¬ 57 < x) : ks_f x = true := decide_eq_true ⟨Int32.not_lt.mp h1, Int32.not_lt.mp h2⟩
theorem ks_f_n1 {x : Int32} (h : x < 48) : ¬ ks_f x = true := fun q => absurd (of_decide_eq_true q).1 (Int32.not_le.mpr h)
theorem ks_f_n2 {x : Int32} (h : 57 < x) : ¬ ks_f x = true := fun q => absurd (of_decide_eq_true q).2 (Int32.not_le.mpr h)
theorem ks_b_mk {x : Int32} (h : x = 32) : ks_b x = true := decide_eq_true h
theorem ks_b_n {x : Int32} (h : ¬ x = 32) : ¬ ks_b x = true := fun q => h (of_decide_eq_true q)
theorem ks_fj {x : Int32} (h : ks_f x = true) : ∃ w : Nat, 48 ≤ w ∧ w ≤ 57 ∧ x = nI w := by
  have q := of_decide_eq_true h
  exact kw_ex2 (a := 48) (b := 57) (Int32.not_lt.mpr q.1) (Int32.not_lt.mpr q.2) (by decide) (by decide)
theorem ks_lj {j : Nat} (h1 : 97 ≤ j) (h2 : j ≤ 122) : ks_l (nI j) = true := decide_eq_true ⟨(nI_leI (a := 97) (b := j) (by decide) (by omega)).mpr h1, (nI_leI (a := j) (b := 122) (by omega) (by decide)).mpr h2⟩
theorem ks_fk {j : Nat} (h1 : 48 ≤ j) (h2 : j ≤ 57) : ks_f (nI j) = true := decide_eq_true ⟨(nI_leI (a := 48) (b := j) (by decide) (by omega)).mpr h1, (nI_leI (a := j) (b := 57) (by omega) (by decide)).mpr h2⟩
theorem ks_lo {x : Int32} (h : ¬ ∃ j : Nat, 97 ≤ j ∧ j ≤ 122 ∧ x = nI j) : ¬ ks_l x = true := fun q => by
  have q := of_decide_eq_true q
  exact h (kw_ex2 (a := 97) (b := 122) (Int32.not_lt.mpr q.1) (Int32.not_lt.mpr q.2) (by decide) (by decide))
theorem ks_fo {x : Int32} (h : ¬ ∃ j : Nat, 48 ≤ j ∧ j ≤ 57 ∧ x = nI j) : ¬ ks_f x = true := fun q => h (by
  obtain ⟨w, a, b, c⟩ := ks_fj q
  exact ⟨w, a, b, c⟩)
theorem ks_fl {x : Int32} (h : ks_f x = true) : ¬ ks_l x = true := by
  obtain ⟨w, a, b, rfl⟩ := ks_fj h
  exact fun q => absurd ((nI_leI (a := 97) (b := w) (by decide) (by omega)).mp (of_decide_eq_true q).1) (by omega)
def ks_scan (P : Int32 → Bool) (f : Nat → Int32) : Nat → Nat → Nat
  | 0, p => p
  | k + 1, p => if P (f p) = true then ks_scan P f k (p + 1) else p
/-- the first place from p on, below n, that isn't P; or n -/
def ks_to (P : Int32 → Bool) (f : Nat → Int32) (n p : Nat) : Nat := ks_scan P f (n - p) p
theorem ks_to_step {P : Int32 → Bool} {f : Nat → Int32} {n p : Nat} (h : p < n) (hP : P (f p) = true) : ks_to P f n p = ks_to P f n (p + 1) := by
  unfold ks_to
  rw [show n - p = (n - (p + 1)) + 1 from by omega, ks_scan, if_pos hP]
theorem ks_to_end {P : Int32 → Bool} {f : Nat → Int32} {n p : Nat} (h : n ≤ p) : ks_to P f n p = p := by
  unfold ks_to
  rw [show n - p = 0 from by omega, ks_scan]
theorem ks_to_stop {P : Int32 → Bool} {f : Nat → Int32} {n p : Nat} (hP : ¬ P (f p) = true) : ks_to P f n p = p := by
  unfold ks_to
  cases n - p with
  | zero => rw [ks_scan]
  | succ k => rw [ks_scan, if_neg hP]
theorem ks_scan_ge {P : Int32 → Bool} {f : Nat → Int32} : ∀ k p : Nat, p ≤ ks_scan P f k p ∧ ks_scan P f k p ≤ p + k := by
  intro k
  induction k with
  | zero => intro p; rw [ks_scan]; omega
  | succ k ih =>
    intro p
    rw [ks_scan]
    by_cases h : P (f p) = true
    · rw [if_pos h]
      have := ih (p + 1)
      omega
    · rw [if_neg h]
      omega
theorem ks_to_ge {P : Int32 → Bool} {f : Nat → Int32} {n p : Nat} : p ≤ ks_to P f n p := (ks_scan_ge (n - p) p).1
theorem ks_to_le {P : Int32 → Bool} {f : Nat → Int32} {n p : Nat} (h : p ≤ n) : ks_to P f n p ≤ n := by
  have := (ks_scan_ge (P := P) (f := f) (n - p) p).2
  unfold ks_to
  omega
/-- where the next token begins -/
def ks_S (f : Nat → Int32) (n p : Nat) : Nat := ks_to ks_b f n p
/-- where a token that begins at s ends -/
def ks_Es (f : Nat → Int32) (n s : Nat) : Nat := if s < n then (if ks_l (f s) = true then ks_to ks_l f n s else if ks_f (f s) = true then ks_to ks_f f n s else s + 1) else s
/-- what it is: 0 the end, 1 a word, 2 a number, 3 a stop, 4 none of these -/
def ks_Ks (f : Nat → Int32) (n s : Nat) : Nat := if s < n then (if ks_l (f s) = true then 1 else if ks_f (f s) = true then (if ks_Es f n s ≤ s + 2 then 2 else 4) else if f s = 59 then 3 else 4) else 0
def ks_D (x : Int32) : Nat := x.toNatClampNeg - 48
def ks_val (f : Nat → Int32) (s e : Nat) : Nat := if e = s then 0 else if e = s + 1 then ks_D (f s) else 10 * ks_D (f s) + ks_D (f (s + 1))
def ks_E (f : Nat → Int32) (n p : Nat) : Nat := ks_Es f n (ks_S f n p)
def ks_K (f : Nat → Int32) (n p : Nat) : Nat := ks_Ks f n (ks_S f n p)
def ks_V (f : Nat → Int32) (n p : Nat) : Nat := ks_val f (ks_S f n p) (ks_E f n p)
def ks_L (f : Nat → Int32) (n p : Nat) : Nat := ks_E f n p - ks_S f n p
theorem ks_val0 {f : Nat → Int32} {s : Nat} : 0 = ks_val f s s := by rw [ks_val, if_pos rfl]
theorem ks_valS {f : Nat → Int32} {s j x w : Nat} (hx : x = ks_val f s j) (hs : s ≤ j) (h : j - s < 2) (hw : f j = nI w) (h1 : 48 ≤ w) (h2 : w ≤ 57) : 10 * x + w - 48 = ks_val f s (j + 1) := by
  have ed : ks_D (f j) = w - 48 := by rw [ks_D, hw, nI_clamp (by omega)]
  rcases (show j = s ∨ j = s + 1 by omega) with rfl | rfl
  · rw [ks_val, if_pos rfl] at hx
    rw [ks_val, if_neg (by omega), if_pos rfl, ed]
    omega
  · rw [ks_val, if_neg (by omega), if_pos rfl] at hx
    rw [ks_val, if_neg (by omega), if_neg (by omega), ed]
    omega
theorem ks_valN {f : Nat → Int32} {s j x : Nat} (hx : x = ks_val f s j) (h : ¬ j - s < 2) : x = ks_val f s (j + 1) := by
  rw [hx, ks_val, ks_val, if_neg (by omega), if_neg (by omega), if_neg (by omega), if_neg (by omega)]
theorem ks_Es_le {f : Nat → Int32} {n s : Nat} (h : s ≤ n) : s ≤ ks_Es f n s ∧ ks_Es f n s ≤ n := by
  rw [ks_Es]
  by_cases h1 : s < n
  · rw [if_pos h1]
    by_cases h2 : ks_l (f s) = true
    · rw [if_pos h2]
      exact ⟨ks_to_ge, ks_to_le h⟩
    · rw [if_neg h2]
      by_cases h3 : ks_f (f s) = true
      · rw [if_pos h3]
        exact ⟨ks_to_ge, ks_to_le h⟩
      · rw [if_neg h3]
        omega
  · rw [if_neg h1]
    omega
theorem ks_S_le {f : Nat → Int32} {n p : Nat} (h : p ≤ n) : p ≤ ks_S f n p ∧ ks_S f n p ≤ n := ⟨ks_to_ge, ks_to_le h⟩
theorem ks_E_le {f : Nat → Int32} {n p : Nat} (h : p ≤ n) : ks_S f n p ≤ ks_E f n p ∧ ks_E f n p ≤ n := ks_Es_le (ks_S_le h).2
theorem ks_SL {f : Nat → Int32} {n p : Nat} (h : p ≤ n) : ks_S f n p + ks_L f n p = ks_E f n p := by
  have := (ks_E_le (f := f) h).1
  rw [ks_L]
  omega
/-- a token that begins at s was passed -/
def kz_Tn (f : Nat → Int32) (n s k e : Nat) (num : Int32) : Prop := e = ks_Es f n s ∧ k = ks_Ks f n s ∧ (k = 2 → num = nI (ks_val f s e) ∧ ks_val f s e ≤ 99)
theorem kz_Tn_l {f : Nat → Int32} {n s e : Nat} {num : Int32} (h : s < n) (hl : ks_l (f s) = true) (he : ks_to ks_l f n s = e) : kz_Tn f n s 1 e num := by
  refine ⟨by rw [ks_Es, if_pos h, if_pos hl, he], by rw [ks_Ks, if_pos h, if_pos hl], fun q => ?_⟩
  omega
theorem kz_Tn_f {f : Nat → Int32} {n s e x : Nat} (h : s < n) (hf : ks_f (f s) = true) (he : ks_to ks_f f n s = e) (hx : x = ks_val f s e) (h9 : x ≤ 99) : kz_Tn f n s (if e ≤ s + 2 then 2 else 4) e (nI x) := by
  have e1 : ks_Es f n s = e := by rw [ks_Es, if_pos h, if_neg (ks_fl hf), if_pos hf, he]
  refine ⟨e1.symm, ?_, fun _ => ⟨by rw [hx], by omega⟩⟩
  rw [ks_Ks, if_pos h, if_neg (ks_fl hf), if_pos hf, e1]
theorem kz_Tn_f4 {f : Nat → Int32} {n s e : Nat} {num : Int32} (h : s < n) (hf : ks_f (f s) = true) (he : ks_to ks_f f n s = e) (h4 : ¬ e ≤ s + 2) : kz_Tn f n s 4 e num := by
  have e1 : ks_Es f n s = e := by rw [ks_Es, if_pos h, if_neg (ks_fl hf), if_pos hf, he]
  refine ⟨e1.symm, ?_, fun q => absurd q (by decide)⟩
  rw [ks_Ks, if_pos h, if_neg (ks_fl hf), if_pos hf, e1, if_neg h4]
theorem kz_Tn_s {f : Nat → Int32} {n s k : Nat} {num : Int32} (h : s < n) (hl : ¬ ks_l (f s) = true) (hf : ¬ ks_f (f s) = true) (ht : k = if f s = 59 then 3 else 4) : kz_Tn f n s k (s + 1) num := by
  refine ⟨by rw [ks_Es, if_pos h, if_neg hl, if_neg hf], by rw [ks_Ks, if_pos h, if_neg hl, if_neg hf]; exact ht, fun q => ?_⟩
  by_cases z : f s = 59
  · rw [if_pos z] at ht
    omega
  · rw [if_neg z] at ht
    omega
theorem kz_Tn_e {f : Nat → Int32} {n s : Nat} {num : Int32} (h : n ≤ s) : kz_Tn f n s 0 s num :=
  ⟨by rw [ks_Es, if_neg (by omega)], by rw [ks_Ks, if_neg (by omega)], fun q => absurd q (by decide)⟩
def kz_Ts (f : Nat → Int32) (n s : Nat) (tok : Int32) (e : Nat) (num : Int32) : Prop := ∃ k : Nat, tok = nI k ∧ kz_Tn f n s k e num
theorem kz_Ts.mk {f : Nat → Int32} {n s k e : Nat} {tok num : Int32} (ht : tok = nI k) (h : kz_Tn f n s k e num) : kz_Ts f n s tok e num := ⟨k, ht, h⟩
/-- the next token from p on was passed -/
def kz_T (f : Nat → Int32) (n p : Nat) (tok : Int32) (s e : Nat) (num : Int32) : Prop := s = ks_S f n p ∧ e = ks_E f n p ∧ tok = nI (ks_K f n p) ∧ (ks_K f n p = 2 → num = nI (ks_V f n p) ∧ ks_V f n p ≤ 99)
theorem kz_T.mk {f : Nat → Int32} {n p s e : Nat} {tok num : Int32} (hs : ks_to ks_b f n p = s) (h : kz_Ts f n s tok e num) : kz_T f n p tok s e num := by
  obtain ⟨k, h0, h1, h2, h3⟩ := h
  have hs : ks_S f n p = s := hs
  subst hs
  subst h1
  subst h2
  exact ⟨rfl, rfl, h0, h3⟩
/-- the same of the reference: the token at hand -/
def kz_R (f : Nat → Int32) (n p s l k : Nat) (num : Int32) : Prop := s = ks_S f n p ∧ l = ks_L f n p ∧ k = ks_K f n p ∧ (ks_K f n p = 2 → num = nI (ks_V f n p) ∧ ks_V f n p ≤ 99)
theorem kz_R.mk {f : Nat → Int32} {n p s l k : Nat} {num : Int32} (hs : ks_to ks_b f n p = s) (h : kz_Tn f n s k (s + l) num) : kz_R f n p s l k num := by
  obtain ⟨h1, h2, h3⟩ := h
  have hs : ks_S f n p = s := hs
  subst hs
  subst h2
  have e1 : ks_E f n p = ks_S f n p + l := h1.symm
  have e2 : ks_V f n p = ks_val f (ks_S f n p) (ks_S f n p + l) := by rw [ks_V, e1]
  refine ⟨rfl, by rw [ks_L, e1]; omega, rfl, fun q => ?_⟩
  rw [e2]
  exact h3 q
theorem ks_K4 (f : Nat → Int32) (n p : Nat) : ks_K f n p ≤ 4 := by
  rw [ks_K, ks_Ks]
  by_cases h1 : ks_S f n p < n
  · rw [if_pos h1]
    by_cases h2 : ks_l (f (ks_S f n p)) = true
    · rw [if_pos h2]
      omega
    · rw [if_neg h2]
      by_cases h3 : ks_f (f (ks_S f n p)) = true
      · rw [if_pos h3]
        by_cases h4 : ks_Es f n (ks_S f n p) ≤ ks_S f n p + 2
        · rw [if_pos h4]
          omega
        · rw [if_neg h4]
          omega
      · rw [if_neg h3]
        by_cases h4 : f (ks_S f n p) = 59
        · rw [if_pos h4]
          omega
        · rw [if_neg h4]
          omega
  · rw [if_neg h1]
    omega
theorem ks_scan_in {P : Int32 → Bool} {f : Nat → Int32} : ∀ k p j : Nat, p ≤ j → j < ks_scan P f k p → P (f j) = true := by
  intro k
  induction k with
  | zero => intro p j h1 h2; rw [ks_scan] at h2; omega
  | succ k ih =>
    intro p j h1 h2
    rw [ks_scan] at h2
    by_cases h : P (f p) = true
    · rw [if_pos h] at h2
      by_cases e : j = p
      · subst e
        exact h
      · exact ih (p + 1) j (by omega) h2
    · rw [if_neg h] at h2
      omega
theorem ks_to_in {P : Int32 → Bool} {f : Nat → Int32} {n p j e : Nat} (he : ks_to P f n p = e) (h1 : p ≤ j) (h2 : j < e) : P (f j) = true := ks_scan_in (n - p) p j h1 (by rw [← he] at h2; exact h2)
theorem ks_val1 {f : Nat → Int32} {s w : Nat} (h : f s = nI w) (hw : w ≤ 57) : w - 48 = ks_val f s (s + 1) := by
  rw [ks_val, if_neg (by omega), if_pos rfl, ks_D, h, nI_clamp (by omega)]
theorem ks_val2 {f : Nat → Int32} {s w v : Nat} (h : f s = nI w) (hw : w ≤ 57) (h2 : f (s + 1) = nI v) (hv : v ≤ 57) (hv1 : 48 ≤ v) : 10 * (w - 48) + v - 48 = ks_val f s (s + 2) := by
  rw [ks_val, if_neg (by omega), if_neg (by omega), ks_D, h, nI_clamp (by omega), ks_D, h2, nI_clamp (by omega)]
  omega
theorem ks_s1 {f : Nat → Int32} {n p j : Nat} (h : ks_to ks_b f n p = ks_to ks_b f n j) (q : n ≤ j) : ks_to ks_b f n p = j := h.trans (ks_to_end q)
theorem ks_s2 {P : Int32 → Bool} {f : Nat → Int32} {n p j : Nat} (h : ks_to P f n p = ks_to P f n j) (q : ¬ P (f j) = true) : ks_to P f n p = j := h.trans (ks_to_stop q)
theorem ks_s3 {P : Int32 → Bool} {f : Nat → Int32} {n p j : Nat} (h : ks_to P f n p = ks_to P f n j) (q : n ≤ j) : ks_to P f n p = j := h.trans (ks_to_end q)
theorem ks_K0 {f : Nat → Int32} {n p : Nat} (hp : p ≤ n) (h : ks_K f n p = 0) : ks_S f n p = n := by
  have q := (ks_S_le (f := f) hp).2
  rw [ks_K, ks_Ks] at h
  by_cases h1 : ks_S f n p < n
  · rw [if_pos h1] at h
    by_cases h2 : ks_l (f (ks_S f n p)) = true
    · rw [if_pos h2] at h
      omega
    · rw [if_neg h2] at h
      by_cases h3 : ks_f (f (ks_S f n p)) = true
      · rw [if_pos h3] at h
        by_cases h4 : ks_Es f n (ks_S f n p) ≤ ks_S f n p + 2
        · rw [if_pos h4] at h
          omega
        · rw [if_neg h4] at h
          omega
      · rw [if_neg h3] at h
        by_cases h4 : f (ks_S f n p) = 59
        · rw [if_pos h4] at h
          omega
        · rw [if_neg h4] at h
          omega
  · omega
/-- a token that is one has a byte -/
theorem ks_Kpos {f : Nat → Int32} {n p : Nat} (h : ¬ ks_K f n p = 0) : ks_S f n p < ks_E f n p := by
  rw [ks_K, ks_Ks] at h
  by_cases h1 : ks_S f n p < n
  · rw [ks_E, ks_Es, if_pos h1]
    by_cases h2 : ks_l (f (ks_S f n p)) = true
    · rw [if_pos h2, ks_to_step h1 h2]
      exact Nat.lt_of_lt_of_le (Nat.lt_succ_self _) ks_to_ge
    · rw [if_neg h2]
      by_cases h3 : ks_f (f (ks_S f n p)) = true
      · rw [if_pos h3, ks_to_step h1 h3]
        exact Nat.lt_of_lt_of_le (Nat.lt_succ_self _) ks_to_ge
      · rw [if_neg h3]
        omega
  · rw [if_neg h1] at h
    exact absurd rfl h
/-! words -/
def ks_e0 (f : Nat → Int32) (s e : Nat) : Bool := decide (e = s + 6 ∧ f s = 112 ∧ f (s + 1) = 97 ∧ f (s + 2) = 114 ∧ f (s + 3) = 105 ∧ f (s + 4) = 115 ∧ f (s + 5) = 104)
def ks_e1 (f : Nat → Int32) (s e : Nat) : Bool := decide (e = s + 5 ∧ f s = 102 ∧ f (s + 1) = 105 ∧ f (s + 2) = 101 ∧ f (s + 3) = 108 ∧ f (s + 4) = 100)
def ks_e2 (f : Nat → Int32) (s e : Nat) : Bool := decide (e = s + 7 ∧ f s = 103 ∧ f (s + 1) = 108 ∧ f (s + 2) = 101 ∧ f (s + 3) = 97 ∧ f (s + 4) = 110 ∧ f (s + 5) = 101 ∧ f (s + 6) = 114)
def ks_e3 (f : Nat → Int32) (s e : Nat) : Bool := decide (e = s + 5 ∧ f s = 103 ∧ f (s + 1) = 108 ∧ f (s + 2) = 101 ∧ f (s + 3) = 97 ∧ f (s + 4) = 110)
def ks_e4 (f : Nat → Int32) (s e : Nat) : Bool := decide (e = s + 6 ∧ f s = 103 ∧ f (s + 1) = 108 ∧ f (s + 2) = 101 ∧ f (s + 3) = 97 ∧ f (s + 4) = 110 ∧ f (s + 5) = 101)
def ks_w0 (f : Nat → Int32) (k s e : Nat) : Bool := decide (k = 1) && ks_e0 f s e
def ks_w1 (f : Nat → Int32) (k s e : Nat) : Bool := decide (k = 1) && ks_e1 f s e
def ks_w2 (f : Nat → Int32) (k s e : Nat) : Bool := decide (k = 1) && ks_e2 f s e
def ks_w3 (f : Nat → Int32) (k s e : Nat) : Bool := decide (k = 1) && ks_e3 f s e
def ks_w4 (f : Nat → Int32) (k s e : Nat) : Bool := decide (k = 1) && ks_e4 f s e
theorem ks_and {k : Nat} {b : Bool} (h : k = 1) (q : b = true) : (decide (k = 1) && b) = true := by
  rw [decide_eq_true h, q]
  rfl
theorem ks_and1 {k : Nat} {b : Bool} (h : (decide (k = 1) && b) = true) : k = 1 := by
  cases hd : decide (k = 1) with
  | true => exact of_decide_eq_true hd
  | false => rw [hd, Bool.false_and] at h; exact absurd h (by decide)
theorem ks_and2 {k : Nat} {b : Bool} (h : (decide (k = 1) && b) = true) : b = true := by
  rw [decide_eq_true (ks_and1 h)] at h
  exact h
theorem ks_no {k : Nat} {b : Bool} (h : ¬ k = 1) : ¬ (decide (k = 1) && b) = true := fun q => h (ks_and1 q)
theorem ks_no2 {k : Nat} {b : Bool} (h : ¬ b = true) : ¬ (decide (k = 1) && b) = true := fun q => h (ks_and2 q)
theorem ks_len0 {f : Nat → Int32} {k s e : Nat} (h : ks_w0 f k s e = true) : k = 1 ∧ e = s + 6 := ⟨ks_and1 h, (of_decide_eq_true (ks_and2 h)).1⟩
theorem ks_len1 {f : Nat → Int32} {k s e : Nat} (h : ks_w1 f k s e = true) : k = 1 ∧ e = s + 5 := ⟨ks_and1 h, (of_decide_eq_true (ks_and2 h)).1⟩
theorem ks_len2 {f : Nat → Int32} {k s e : Nat} (h : ks_w2 f k s e = true) : k = 1 ∧ e = s + 7 := ⟨ks_and1 h, (of_decide_eq_true (ks_and2 h)).1⟩
theorem ks_len3 {f : Nat → Int32} {k s e : Nat} (h : ks_w3 f k s e = true) : k = 1 ∧ e = s + 5 := ⟨ks_and1 h, (of_decide_eq_true (ks_and2 h)).1⟩
theorem ks_n01 {f : Nat → Int32} {k s e : Nat} (h : ks_w0 f k s e = true) : ¬ ks_w1 f k s e = true := fun q => absurd (ks_len1 q).2 (by have := (ks_len0 h).2; omega)
theorem ks_n02 {f : Nat → Int32} {k s e : Nat} (h : ks_w0 f k s e = true) : ¬ ks_w2 f k s e = true := fun q => absurd (ks_len2 q).2 (by have := (ks_len0 h).2; omega)
theorem ks_n03 {f : Nat → Int32} {k s e : Nat} (h : ks_w0 f k s e = true) : ¬ ks_w3 f k s e = true := fun q => absurd (ks_len3 q).2 (by have := (ks_len0 h).2; omega)
theorem ks_n32 {f : Nat → Int32} {k s e : Nat} (h : ks_w3 f k s e = true) : ¬ ks_w2 f k s e = true := fun q => absurd (ks_len2 q).2 (by have := (ks_len3 h).2; omega)
theorem ks_g2 {f : Nat → Int32} {k s : Nat} (h : ks_w4 f k s (s + 6) = true) (q : f (s + 6) = 114) : ks_w2 f k s (s + 7) = true := by
  obtain ⟨_, a, b, c, d, e, g⟩ := of_decide_eq_true (ks_and2 h)
  exact ks_and (ks_and1 h) (decide_eq_true ⟨rfl, a, b, c, d, e, g, q⟩)
theorem ks_g2n {f : Nat → Int32} {k s : Nat} (h : ¬ ks_w4 f k s (s + 6) = true) : ¬ ks_w2 f k s (s + 7) = true := fun z => h (by
  obtain ⟨_, a, b, c, d, e, g, _⟩ := of_decide_eq_true (ks_and2 z)
  exact ks_and (ks_and1 z) (decide_eq_true ⟨rfl, a, b, c, d, e, g⟩))
theorem ks_g2m {f : Nat → Int32} {k s : Nat} (h : ¬ f (s + 6) = 114) : ¬ ks_w2 f k s (s + 7) = true := fun z => h (of_decide_eq_true (ks_and2 z)).2.2.2.2.2.2.2
theorem ks_g2l {f : Nat → Int32} {k s e : Nat} (h : ¬ e = s + 7) : ¬ ks_w2 f k s e = true := fun z => h (ks_len2 z).2
/-! items -/
def ks_nm (f : Nat → Int32) (n q a b : Nat) : Bool := decide (ks_K f n q = 2 ∧ a ≤ ks_V f n q ∧ ks_V f n q ≤ b)
theorem ks_nm_mk {f : Nat → Int32} {n q a b : Nat} (h1 : ks_K f n q = 2) (h2 : a ≤ ks_V f n q) (h3 : ks_V f n q ≤ b) : ks_nm f n q a b = true := decide_eq_true ⟨h1, h2, h3⟩
theorem ks_nm_k {f : Nat → Int32} {n q a b : Nat} (h1 : ¬ ks_K f n q = 2) : ¬ ks_nm f n q a b = true := fun z => h1 (of_decide_eq_true z).1
/-- what an item tells: (1, its end, fields, gleaners, steps left, kinds), or (0, the fault) -/
abbrev ks_R : Type := Nat × Nat × Nat × Nat × Nat × (Nat → Int32)
def ks_flt (q : Nat) : ks_R := (0, q, 0, 0, 0, fun _ => 0)
def ks_ok (q a g t : Nat) (kd : Nat → Int32) : ks_R := (1, q, a, g, t, kd)
theorem ks_ne {q p a g t : Nat} {kd : Nat → Int32} (h : ks_flt q = ks_ok p a g t kd) : False := by
  have e : (0 : Nat) = 1 := congrArg (fun z : ks_R => z.1) h
  exact absurd e (by decide)
theorem ks_flt1 {q : Nat} : ¬ (ks_flt q).1 = 1 := fun e => absurd (show (0 : Nat) = 1 from e) (by decide)
theorem ks_ok1 {q a g t : Nat} {kd : Nat → Int32} : (ks_ok q a g t kd).1 = 1 := rfl
theorem ks_flt_inj {q p : Nat} (h : ks_flt q = ks_flt p) : q = p := congrArg (fun z : ks_R => z.2.1) h
theorem ks_ok_inj {q a g t p b c u : Nat} {kd ke : Nat → Int32} (h : ks_ok q a g t kd = ks_ok p b c u ke) : q = p ∧ a = b ∧ g = c ∧ t = u ∧ kd = ke := ⟨congrArg (fun z : ks_R => z.2.1) h, congrArg (fun z : ks_R => z.2.2.1) h, congrArg (fun z : ks_R => z.2.2.2.1) h, congrArg (fun z : ks_R => z.2.2.2.2.1) h, congrArg (fun z : ks_R => z.2.2.2.2.2) h⟩
def ks_fld (f : Nat → Int32) (n s e a g t : Nat) (kd : Nat → Int32) : ks_R :=
  if a = 6 then ks_flt s else if ks_nm f n e 0 5 = true then (if ks_nm f n (ks_E f n e) 0 60 = true then ks_ok (ks_E f n (ks_E f n e)) (a + 1) g t (upd kd a (nI (ks_V f n e))) else ks_flt (ks_S f n (ks_E f n e))) else ks_flt (ks_S f n e)
def ks_glr (f : Nat → Int32) (n s e a g t : Nat) (kd : Nat → Int32) : ks_R :=
  if g = 5 then ks_flt s else if 0 < a ∧ ks_nm f n e 0 (a - 1) = true then ks_ok (ks_E f n e) a (g + 1) t kd else ks_flt (ks_S f n e)
def ks_gln (f : Nat → Int32) (n e a g t : Nat) (kd : Nat → Int32) : ks_R :=
  if ks_nm f n e 1 t = true then ks_ok (ks_E f n e) a g (t - ks_V f n e) kd else ks_flt (ks_S f n e)
def ks_it (f : Nat → Int32) (n k s e a g t : Nat) (kd : Nat → Int32) : ks_R :=
  if ks_w1 f k s e = true then ks_fld f n s e a g t kd else if ks_w2 f k s e = true then ks_glr f n s e a g t kd else if ks_w3 f k s e = true then ks_gln f n e a g t kd else ks_flt s
def ks_it0 (f : Nat → Int32) (n k s e : Nat) : ks_R :=
  if ks_w0 f k s e = true then (if ks_nm f n e 0 9 = true then ks_ok (ks_E f n e) 0 0 12 (fun _ => 0) else ks_flt (ks_S f n e)) else ks_flt s
theorem ks_fld6 {f : Nat → Int32} {n s e a g t : Nat} {kd : Nat → Int32} (h : a = 6) : ks_fld f n s e a g t kd = ks_flt s := by rw [ks_fld, if_pos h]
theorem ks_fldA {f : Nat → Int32} {n s e a g t : Nat} {kd : Nat → Int32} (h : ¬ a = 6) (h1 : ¬ ks_nm f n e 0 5 = true) : ks_fld f n s e a g t kd = ks_flt (ks_S f n e) := by rw [ks_fld, if_neg h, if_neg h1]
theorem ks_fldB {f : Nat → Int32} {n s e a g t : Nat} {kd : Nat → Int32} (h : ¬ a = 6) (h1 : ks_nm f n e 0 5 = true) (h2 : ¬ ks_nm f n (ks_E f n e) 0 60 = true) : ks_fld f n s e a g t kd = ks_flt (ks_S f n (ks_E f n e)) := by rw [ks_fld, if_neg h, if_pos h1, if_neg h2]
theorem ks_fldC {f : Nat → Int32} {n s e a g t : Nat} {kd : Nat → Int32} (h : ¬ a = 6) (h1 : ks_nm f n e 0 5 = true) (h2 : ks_nm f n (ks_E f n e) 0 60 = true) : ks_fld f n s e a g t kd = ks_ok (ks_E f n (ks_E f n e)) (a + 1) g t (upd kd a (nI (ks_V f n e))) := by rw [ks_fld, if_neg h, if_pos h1, if_pos h2]
theorem ks_glr5 {f : Nat → Int32} {n s e a g t : Nat} {kd : Nat → Int32} (h : g = 5) : ks_glr f n s e a g t kd = ks_flt s := by rw [ks_glr, if_pos h]
theorem ks_glrZ {f : Nat → Int32} {n s e a g t : Nat} {kd : Nat → Int32} (h : ¬ g = 5) (h1 : a = 0) : ks_glr f n s e a g t kd = ks_flt (ks_S f n e) := by rw [ks_glr, if_neg h, if_neg (by omega)]
theorem ks_glrA {f : Nat → Int32} {n s e a g t : Nat} {kd : Nat → Int32} (h : ¬ g = 5) (h1 : ¬ ks_nm f n e 0 (a - 1) = true) : ks_glr f n s e a g t kd = ks_flt (ks_S f n e) := by rw [ks_glr, if_neg h, if_neg (fun q => h1 q.2)]
theorem ks_glrB {f : Nat → Int32} {n s e a g t : Nat} {kd : Nat → Int32} (h : ¬ g = 5) (h0 : 0 < a) (h1 : ks_nm f n e 0 (a - 1) = true) : ks_glr f n s e a g t kd = ks_ok (ks_E f n e) a (g + 1) t kd := by rw [ks_glr, if_neg h, if_pos ⟨h0, h1⟩]
theorem ks_glnA {f : Nat → Int32} {n e a g t : Nat} {kd : Nat → Int32} (h1 : ¬ ks_nm f n e 1 t = true) : ks_gln f n e a g t kd = ks_flt (ks_S f n e) := by rw [ks_gln, if_neg h1]
theorem ks_glnB {f : Nat → Int32} {n e a g t : Nat} {kd : Nat → Int32} (h1 : ks_nm f n e 1 t = true) : ks_gln f n e a g t kd = ks_ok (ks_E f n e) a g (t - ks_V f n e) kd := by rw [ks_gln, if_pos h1]
theorem ks_it1 {f : Nat → Int32} {n k s e a g t : Nat} {kd : Nat → Int32} (h : ks_w1 f k s e = true) : ks_it f n k s e a g t kd = ks_fld f n s e a g t kd := by rw [ks_it, if_pos h]
theorem ks_it2 {f : Nat → Int32} {n k s e a g t : Nat} {kd : Nat → Int32} (h1 : ¬ ks_w1 f k s e = true) (h : ks_w2 f k s e = true) : ks_it f n k s e a g t kd = ks_glr f n s e a g t kd := by rw [ks_it, if_neg h1, if_pos h]
theorem ks_it3 {f : Nat → Int32} {n k s e a g t : Nat} {kd : Nat → Int32} (h1 : ¬ ks_w1 f k s e = true) (h2 : ¬ ks_w2 f k s e = true) (h : ks_w3 f k s e = true) : ks_it f n k s e a g t kd = ks_gln f n e a g t kd := by rw [ks_it, if_neg h1, if_neg h2, if_pos h]
theorem ks_itN {f : Nat → Int32} {n k s e a g t : Nat} {kd : Nat → Int32} (h1 : ¬ ks_w1 f k s e = true) (h2 : ¬ ks_w2 f k s e = true) (h : ¬ ks_w3 f k s e = true) : ks_it f n k s e a g t kd = ks_flt s := by rw [ks_it, if_neg h1, if_neg h2, if_neg h]
/-- the items from p on, i behind -/
def ks_loop (f : Nat → Int32) (n p i a g t : Nat) (kd : Nat → Int32) : ks_R :=
  if ks_K f n p = 0 then ks_ok i a g t kd
  else if h : (ks_it f n (ks_K f n p) (ks_S f n p) (ks_E f n p) a g t kd).1 = 1 ∧ ks_K f n (ks_it f n (ks_K f n p) (ks_S f n p) (ks_E f n p) a g t kd).2.1 = 3 ∧ p < ks_E f n (ks_it f n (ks_K f n p) (ks_S f n p) (ks_E f n p) a g t kd).2.1 ∧ ks_E f n (ks_it f n (ks_K f n p) (ks_S f n p) (ks_E f n p) a g t kd).2.1 ≤ n
    then ks_loop f n (ks_E f n (ks_it f n (ks_K f n p) (ks_S f n p) (ks_E f n p) a g t kd).2.1) (i + 1) (ks_it f n (ks_K f n p) (ks_S f n p) (ks_E f n p) a g t kd).2.2.1 (ks_it f n (ks_K f n p) (ks_S f n p) (ks_E f n p) a g t kd).2.2.2.1 (ks_it f n (ks_K f n p) (ks_S f n p) (ks_E f n p) a g t kd).2.2.2.2.1 (ks_it f n (ks_K f n p) (ks_S f n p) (ks_E f n p) a g t kd).2.2.2.2.2
    else ks_flt (if (ks_it f n (ks_K f n p) (ks_S f n p) (ks_E f n p) a g t kd).1 = 1 then ks_S f n (ks_it f n (ks_K f n p) (ks_S f n p) (ks_E f n p) a g t kd).2.1 else (ks_it f n (ks_K f n p) (ks_S f n p) (ks_E f n p) a g t kd).2.1)
termination_by n - p
decreasing_by omega
theorem ks_loop0 {f : Nat → Int32} {n p i a g t : Nat} {kd : Nat → Int32} (h : ks_K f n p = 0) : ks_loop f n p i a g t kd = ks_ok i a g t kd := by rw [ks_loop, if_pos h]
theorem ks_loopF {f : Nat → Int32} {n p i a g t q : Nat} {kd : Nat → Int32} (h : ¬ ks_K f n p = 0) (h1 : ks_it f n (ks_K f n p) (ks_S f n p) (ks_E f n p) a g t kd = ks_flt q) : ks_loop f n p i a g t kd = ks_flt q := by
  rw [ks_loop, if_neg h, h1, dif_neg (fun z => ks_flt1 z.1), if_neg ks_flt1]
  rfl
theorem ks_loopS {f : Nat → Int32} {n p i a g t q b c u : Nat} {kd ke : Nat → Int32} (h : ¬ ks_K f n p = 0) (h1 : ks_it f n (ks_K f n p) (ks_S f n p) (ks_E f n p) a g t kd = ks_ok q b c u ke) (h2 : ¬ ks_K f n q = 3) : ks_loop f n p i a g t kd = ks_flt (ks_S f n q) := by
  rw [ks_loop, if_neg h, h1, dif_neg (fun z => absurd z.2.1 h2), if_pos ks_ok1]
  rfl
theorem ks_loopN {f : Nat → Int32} {n p i a g t q b c u : Nat} {kd ke : Nat → Int32} (h : ¬ ks_K f n p = 0) (h1 : ks_it f n (ks_K f n p) (ks_S f n p) (ks_E f n p) a g t kd = ks_ok q b c u ke) (h2 : ks_K f n q = 3) (h3 : p < ks_E f n q) (h4 : ks_E f n q ≤ n) : ks_loop f n p i a g t kd = ks_loop f n (ks_E f n q) (i + 1) b c u ke := by
  rw [ks_loop, if_neg h, h1, dif_pos ⟨rfl, h2, h3, h4⟩]
  rfl
/-- the whole text -/
def ks_read (f : Nat → Int32) (n : Nat) : ks_R :=
  if (ks_it0 f n (ks_K f n 0) (ks_S f n 0) (ks_E f n 0)).1 = 1 then (if ks_K f n (ks_it0 f n (ks_K f n 0) (ks_S f n 0) (ks_E f n 0)).2.1 = 3 then ks_loop f n (ks_E f n (ks_it0 f n (ks_K f n 0) (ks_S f n 0) (ks_E f n 0)).2.1) 1 0 0 12 (fun _ => 0) else ks_flt (ks_S f n (ks_it0 f n (ks_K f n 0) (ks_S f n 0) (ks_E f n 0)).2.1)) else ks_it0 f n (ks_K f n 0) (ks_S f n 0) (ks_E f n 0)
theorem ks_readF {f : Nat → Int32} {n q : Nat} (h : ks_it0 f n (ks_K f n 0) (ks_S f n 0) (ks_E f n 0) = ks_flt q) : ks_read f n = ks_flt q := by
  rw [ks_read, h, if_neg ks_flt1]
theorem ks_readS {f : Nat → Int32} {n q : Nat} (h : ks_it0 f n (ks_K f n 0) (ks_S f n 0) (ks_E f n 0) = ks_ok q 0 0 12 (fun _ => 0)) (h2 : ¬ ks_K f n q = 3) : ks_read f n = ks_flt (ks_S f n q) := by
  rw [ks_read, h, if_pos ks_ok1, if_neg (show ¬ ks_K f n (ks_ok q 0 0 12 (fun _ => 0)).2.1 = 3 from h2)]
  rfl
theorem ks_readN {f : Nat → Int32} {n q : Nat} (h : ks_it0 f n (ks_K f n 0) (ks_S f n 0) (ks_E f n 0) = ks_ok q 0 0 12 (fun _ => 0)) (h2 : ks_K f n q = 3) : ks_read f n = ks_loop f n (ks_E f n q) 1 0 0 12 (fun _ => 0) := by
  rw [ks_read, h, if_pos ks_ok1, if_pos (show ks_K f n (ks_ok q 0 0 12 (fun _ => 0)).2.1 = 3 from h2)]
  rfl
theorem ks_it0A {f : Nat → Int32} {n k s e : Nat} (h : ¬ ks_w0 f k s e = true) : ks_it0 f n k s e = ks_flt s := by rw [ks_it0, if_neg h]
theorem ks_it0B {f : Nat → Int32} {n k s e : Nat} (h : ks_w0 f k s e = true) (h1 : ¬ ks_nm f n e 0 9 = true) : ks_it0 f n k s e = ks_flt (ks_S f n e) := by rw [ks_it0, if_pos h, if_neg h1]
theorem ks_it0C {f : Nat → Int32} {n k s e : Nat} (h : ks_w0 f k s e = true) (h1 : ks_nm f n e 0 9 = true) : ks_it0 f n k s e = ks_ok (ks_E f n e) 0 0 12 (fun _ => 0) := by rw [ks_it0, if_pos h, if_pos h1]
