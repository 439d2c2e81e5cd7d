/-! the reference: what its row of numbers keeps -/
def kr_a (p : Nat) : Prop := (11 ≤ p ∧ p ≤ 15) ∨ (76 ≤ p ∧ 6 ≤ (p - 76) % 19 ∧ (p - 76) % 19 ≤ 10) ∨ p = 30 ∨ p = 34 ∨ p = 38 ∨ p = 42
def kr_s (p : Nat) : Prop := (16 ≤ p ∧ p ≤ 20) ∨ (76 ≤ p ∧ 11 ≤ (p - 76) % 19 ∧ (p - 76) % 19 ≤ 15)
def kr_ok (p : Nat) (v : Int32) : Prop := (kr_a p → vp_in v 6) ∧ (kr_s p → v ≤ 999)
def kr_t (n : Nat) (f : Nat → Int32) : Prop := ∀ p, p < n → kr_ok p (f p)
theorem kr_up {n p : Nat} {f : Nat → Int32} {v : Int32} (h : kr_t n f) (hv : kr_ok p v) : kr_t n (upd f p v) := by
  intro q hq
  by_cases e : q = p
  · subst e
    rw [pk_us]
    exact hv
  · rw [pk_un e]
    exact h q hq
theorem kr_free {p : Nat} {v : Int32} (h1 : ¬ kr_a p) (h2 : ¬ kr_s p) : kr_ok p v := ⟨fun h => absurd h h1, fun h => absurd h h2⟩
theorem kr_oka {p : Nat} {v : Int32} (h : vp_in v 6) (h2 : ¬ kr_s p) : kr_ok p v := ⟨fun _ => h, fun h => absurd h h2⟩
theorem kr_oks {p : Nat} {v : Int32} (h1 : ¬ kr_a p) (h : v ≤ 999) : kr_ok p v := ⟨fun h => absurd h h1, fun _ => h⟩
theorem kr_at {n p : Nat} {f : Nat → Int32} (h : kr_t n f) (hp : p < n) (ha : kr_a p) : ∃ w : Nat, w < 6 ∧ f p = nI w := vp_in_of ((h p hp).1 ha) (by decide)
theorem kr_move {p q : Nat} {v : Int32} (h : kr_ok p v) (ha : kr_a q → kr_a p) (hs : kr_s q → kr_s p) : kr_ok q v := ⟨fun z => h.1 (ha z), fun z => h.2 (hs z)⟩
theorem kr_in0 : vp_in 0 6 := by unfold vp_in; decide
theorem kr_ok0 {p : Nat} : kr_ok p 0 := ⟨fun _ => kr_in0, fun _ => by decide⟩
theorem kr_nle {k : Nat} (h : k ≤ 999) : nI k ≤ 999 := (nI_leI (a := k) (b := 999) (by omega) (by omega)).mpr h
theorem kr_nle' {k : Nat} (hk : k < 2147483648) (h : nI k ≤ 999) : k ≤ 999 := (nI_leI (a := k) (b := 999) hk (by omega)).mp h
theorem kr_ltn {x : Int32} {k : Nat} (h : x < 0) (hk : k < 2147483648) : x < nI k := by
  rw [Int32.lt_iff_toInt_lt] at h ⊢
  have e2 : (0 : Int32).toInt = 0 := by decide
  have e3 := nI_toInt (n := k) hk
  omega
theorem kr_div {a b : Nat} (ha : a < 2147483648) (h0 : 0 < b) (hb : b < 2147483648) : ∃ q : Nat, q ≤ a ∧ nI a / nI b = nI q := ⟨a / b, Nat.div_le_self a b, pk_div ha h0 hb⟩
theorem kr_rem {a b : Nat} (ha : a < 2147483648) (h0 : 0 < b) (hb : b < 2147483648) : ∃ q : Nat, q < b ∧ nI a - nI a / nI b * nI b = nI q := ⟨a % b, Nat.mod_lt a h0, pk_rem ha h0 hb⟩
theorem kr_out1_5 {x : Int32} (h1 : ¬ x = 1) (h2 : ¬ x = 2) (h3 : ¬ x = 3) (h4 : ¬ x = 4) (h5 : ¬ x = 5) : x.toInt < 1 ∨ 5 < x.toInt := by
  have e1 : ¬ x.toInt = (1 : Int32).toInt := fun q => h1 (Int32.toInt_inj.mp q)
  have e2 : ¬ x.toInt = (2 : Int32).toInt := fun q => h2 (Int32.toInt_inj.mp q)
  have e3 : ¬ x.toInt = (3 : Int32).toInt := fun q => h3 (Int32.toInt_inj.mp q)
  have e4 : ¬ x.toInt = (4 : Int32).toInt := fun q => h4 (Int32.toInt_inj.mp q)
  have e5 : ¬ x.toInt = (5 : Int32).toInt := fun q => h5 (Int32.toInt_inj.mp q)
  rw [show (1 : Int32).toInt = 1 from by decide] at e1
  rw [show (2 : Int32).toInt = 2 from by decide] at e2
  rw [show (3 : Int32).toInt = 3 from by decide] at e3
  rw [show (4 : Int32).toInt = 4 from by decide] at e4
  rw [show (5 : Int32).toInt = 5 from by decide] at e5
  omega
theorem kr_i64 {a : Nat} (ha : a < 2147483648) : (Int64.ofNat a).toInt = a := by
  rw [Int64.toInt_ofNat', show Int64.size = 18446744073709551616 from rfl]
  rw [Int.bmod_eq_of_le (by omega) (by omega)]
theorem kr_ex2 {x : Int32} {a b : Nat} (h1 : ¬ x.toInt64 < Int64.ofNat a) (h2 : ¬ Int64.ofNat b < x.toInt64) (ha : a < 2147483648) (hb : b < 2147483648) : ∃ j : Nat, a ≤ j ∧ j ≤ b ∧ x = nI j := kw_rngL h1 h2 (kr_i64 ha) (kr_i64 hb)
theorem kr_nex3 {x : Int32} {a b : Nat} (h : x.toInt64 < Int64.ofNat a) (ha : a < 2147483648) (hb : b < 2147483648) : ¬ ∃ j : Nat, a ≤ j ∧ j ≤ b ∧ x = nI j := by
  rintro ⟨j, h1, h2, rfl⟩
  rw [Int64.lt_iff_toInt_lt, Int32.toInt_toInt64, kr_i64 ha, nI_toInt (by omega)] at h
  omega
theorem kr_nex4 {x : Int32} {a b : Nat} (h : Int64.ofNat b < x.toInt64) (ha : a < 2147483648) (hb : b < 2147483648) : ¬ ∃ j : Nat, a ≤ j ∧ j ≤ b ∧ x = nI j := by
  rintro ⟨j, h1, h2, rfl⟩
  rw [Int64.lt_iff_toInt_lt, Int32.toInt_toInt64, kr_i64 hb, nI_toInt (by omega)] at h
  omega
theorem kr_m1 {n : Nat} (hn : n < 1000) : ((nI n) - 1).toInt = (n : Int) - 1 := pk_sub_toInt (a := n) (b := 1) (by omega) (by omega)
theorem kr_exF {x : Int32} {n : Nat} (h1 : ¬ x.toInt64 < 0) (h2 : ¬ ((nI n) - 1).toInt64 < x.toInt64) (hn : n < 1000) : ∃ j : Nat, j < n ∧ x = nI j := by
  rw [Int64.lt_iff_toInt_lt, Int32.toInt_toInt64] at h1 h2
  rw [Int32.toInt_toInt64, kr_m1 hn] at h2
  have e0 : (0 : Int64).toInt = 0 := by decide
  have h0 : ¬ x < 0 := by
    rw [Int32.lt_iff_toInt_lt]
    have e0 : (0 : Int32).toInt = 0 := by decide
    omega
  obtain ⟨j, hj, rfl⟩ := nI_of h0
  have ej := nI_toInt hj
  exact ⟨j, by omega, rfl⟩
theorem kr_nexF1 {x : Int32} {n : Nat} (h : x.toInt64 < 0) (hn : n < 1000) : ¬ ∃ j : Nat, j < n ∧ x = nI j := by
  rintro ⟨j, h1, rfl⟩
  rw [Int64.lt_iff_toInt_lt, Int32.toInt_toInt64, nI_toInt (by omega)] at h
  have e0 : (0 : Int64).toInt = 0 := by decide
  omega
theorem kr_nexF2 {x : Int32} {n : Nat} (h : ((nI n) - 1).toInt64 < x.toInt64) (hn : n < 1000) : ¬ ∃ j : Nat, j < n ∧ x = nI j := by
  rintro ⟨j, h1, rfl⟩
  rw [Int64.lt_iff_toInt_lt, Int32.toInt_toInt64, Int32.toInt_toInt64, kr_m1 hn, nI_toInt (by omega)] at h
  omega
theorem kr_exM {x : Int32} {n : Nat} (h1 : ¬ x.toInt64 < -1) (h2 : ¬ ((nI n) - 1).toInt64 < x.toInt64) (hn : n < 1000) : x = -1 ∨ ∃ j : Nat, j < n ∧ x = nI j := by
  by_cases h0 : x < 0
  · left
    rw [Int64.lt_iff_toInt_lt, Int32.toInt_toInt64] at h1
    rw [Int32.lt_iff_toInt_lt] at h0
    have e0 : (-1 : Int64).toInt = -1 := by decide
    have e1 : (-1 : Int32).toInt = -1 := by decide
    have e2 : (0 : Int32).toInt = 0 := by decide
    exact Int32.toInt_inj.mp (by omega)
  · right
    refine kr_exF ?_ h2 hn
    rw [Int64.lt_iff_toInt_lt, Int32.toInt_toInt64]
    rw [Int32.lt_iff_toInt_lt] at h0
    have e2 : (0 : Int32).toInt = 0 := by decide
    have e3 : (0 : Int64).toInt = 0 := by decide
    omega
/-- begun anew up to place j -/
def kr_bg (f : Nat → Int32) (j : Nat) : Nat → Int32 := fun p => if p < j then 0 else f p
theorem kr_bg0 {f : Nat → Int32} : f = kr_bg f 0 := by
  funext p
  rw [kr_bg, if_neg (Nat.not_lt_zero p)]
theorem kr_bgS {f : Nat → Int32} {j : Nat} : upd (kr_bg f j) j 0 = kr_bg f (j + 1) := by
  funext p
  by_cases e : p = j
  · subst e
    rw [pk_us, kr_bg, if_pos (Nat.lt_succ_self p)]
  · rw [pk_un e, kr_bg, kr_bg]
    by_cases q : p < j
    · rw [if_pos q, if_pos (by omega)]
    · rw [if_neg q, if_neg (by omega)]
theorem kr_bgt {f : Nat → Int32} {j n : Nat} (h : kr_t n f) : kr_t n (kr_bg f j) := by
  intro p hp
  rw [kr_bg]
  by_cases q : p < j
  · rw [if_pos q]
    exact kr_ok0
  · rw [if_neg q]
    exact h p hp
theorem kr_bg_lt {f : Nat → Int32} {j p : Nat} (h : p < j) : kr_bg f j p = 0 := by rw [kr_bg, if_pos h]
/-- copied up to place j -/
def kr_cp (g f : Nat → Int32) (j : Nat) : Nat → Int32 := fun p => if p < j then f p else g p
theorem kr_cp0 {g f : Nat → Int32} : g = kr_cp g f 0 := by
  funext p
  rw [kr_cp, if_neg (Nat.not_lt_zero p)]
theorem kr_cpS {g f : Nat → Int32} {j : Nat} : upd (kr_cp g f j) j (f j) = kr_cp g f (j + 1) := by
  funext p
  by_cases e : p = j
  · subst e
    rw [pk_us, kr_cp, if_pos (Nat.lt_succ_self p)]
  · rw [pk_un e, kr_cp, kr_cp]
    by_cases q : p < j
    · rw [if_pos q, if_pos (by omega)]
    · rw [if_neg q, if_neg (by omega)]
theorem kr_cpt {g f : Nat → Int32} {j n m : Nat} (hf : kr_t m f) (hg : kr_t n g) (hj : j ≤ m) : kr_t n (kr_cp g f j) := by
  intro p hp
  rw [kr_cp]
  by_cases q : p < j
  · rw [if_pos q]
    exact hf p (by omega)
  · rw [if_neg q]
    exact hg p hp
theorem kr_cp_lt {g f : Nat → Int32} {j p : Nat} (h : p < j) : kr_cp g f j p = f p := by rw [kr_cp, if_pos h]
theorem kr_cp_ge {g f : Nat → Int32} {j p : Nat} (h : j ≤ p) : kr_cp g f j p = g p := by rw [kr_cp, if_neg (by omega)]
theorem kr_mo {f : Nat → Int32} {j k w v : Nat} (h1 : f (k + 11) = nI w) (h2 : f (j + 11) = nI v) (hw : w < 6) (hv : v < 6) (hne : ¬ v = w) : ¬ j = k := by
  intro e
  subst e
  rw [h1] at h2
  exact hne ((nI_eq (a := w) (b := v) (by omega) (by omega)).mp h2).symm
theorem kr_faded {x : Int32} (h : x ≤ 999) : x - (x + 3) / 4 ≤ 999 := by
  rw [Int32.le_iff_toInt_le] at h ⊢
  have e9 : (999 : Int32).toInt = 999 := by decide
  have e3 : (3 : Int32).toInt = 3 := by decide
  have e4 : (4 : Int32).toInt = 4 := by decide
  have l1 := Int32.le_toInt x
  rw [e9] at h ⊢
  have a1 : (x + 3).toInt = x.toInt + 3 := by
    rw [Int32.toInt_add, e3, Int.bmod_eq_of_le (by omega) (by omega)]
  have a2 : ((x + 3) / 4).toInt = (x.toInt + 3).tdiv 4 := by
    rw [Int32.toInt_div, a1, e4]
    have b1 : -(x.toInt + 3).natAbs ≤ (x.toInt + 3).tdiv 4 ∧ (x.toInt + 3).tdiv 4 ≤ (x.toInt + 3).natAbs := by
      rcases Int.le_total 0 (x.toInt + 3) with q | q
      · rw [Int.tdiv_eq_ediv_of_nonneg q]
        omega
      · have e : (x.toInt + 3) = -(-(x.toInt + 3)) := by omega
        rw [e, Int.neg_tdiv, Int.tdiv_eq_ediv_of_nonneg (by omega)]
        omega
    rw [Int.bmod_eq_of_le (by omega) (by omega)]
  rw [Int32.toInt_sub, a2]
  rcases Int.le_total 0 (x.toInt + 3) with q | q
  · rw [Int.tdiv_eq_ediv_of_nonneg q, Int.bmod_eq_of_le (by omega) (by omega)]
    omega
  · have e : (x.toInt + 3) = -(-(x.toInt + 3)) := by omega
    rw [e, Int.neg_tdiv, Int.tdiv_eq_ediv_of_nonneg (by omega), Int.bmod_eq_of_le (by omega) (by omega)]
    omega
def kr_pos (r : Int32) : Prop := ¬ r = 0
theorem kr_pos_of {k : Nat} (h1 : 1 ≤ k) (h2 : k < 2147483648) : kr_pos (nI k) := nI_ne0 (by omega) (by omega)
theorem kr_lrem {a b : Int64} (hb : ¬ b = 0) : (a - a / b * b).toInt.natAbs < b.toInt.natAbs := by
  have hb0 : ¬ b.toInt = 0 := fun e => hb (Int64.toInt_inj.mp (by rw [e]; decide))
  have e1 : ((a.toInt.tdiv b.toInt).bmod (2 ^ 64) * b.toInt).bmod (2 ^ 64) = (a.toInt.tdiv b.toInt * b.toInt).bmod (2 ^ 64) := Int.bmod_mul_bmod
  rw [Int64.toInt_sub, Int64.toInt_mul, Int64.toInt_div, e1, Int.sub_bmod_bmod, Int.mul_comm, ← Int.tmod_def]
  have q : (a.toInt.tmod b.toInt).natAbs < b.toInt.natAbs := by
    rw [Int.natAbs_tmod]
    exact Nat.mod_lt _ (by omega)
  have l1 := Int64.le_toInt b
  have l2 := Int64.toInt_lt b
  rw [Int.bmod_eq_of_le (by omega) (by omega)]
  exact q
/-- what an image keeps -/
def kr_K (f : Nat → Int32) : Prop := ∃ a b c d e : Nat, f 0 = nI a ∧ f 1 = nI b ∧ f 2 = nI c ∧ f 3 = nI d ∧ f 4 = nI e ∧ a ≤ 6 ∧ b ≤ 5 ∧ c ≤ 4 ∧ d ≤ 6 ∧ e ≤ 8 ∧ (b = 0 ∨ 0 < a) ∧ kr_t 228 f
theorem kr_K.congr {f g : Nat → Int32} (h : kr_K f) (e : ∀ p, p < 228 → g p = f p) : kr_K g := by
  obtain ⟨a, b, c, d, z, h0, h1, h2, h3, h4, g0, g1, g2, g3, g4, g5, g6⟩ := h
  exact ⟨a, b, c, d, z, (e 0 (by decide)).trans h0, (e 1 (by decide)).trans h1, (e 2 (by decide)).trans h2, (e 3 (by decide)).trans h3, (e 4 (by decide)).trans h4, g0, g1, g2, g3, g4, g5, fun p hp => by rw [e p hp]; exact g6 p hp⟩
/-- copied to place o on, up to o + j -/
def kr_co (g f : Nat → Int32) (j : Nat) : Nat → Int32 := fun p => if 228 ≤ p ∧ p < 228 + j then f (p - 228) else g p
theorem kr_co0 {g f : Nat → Int32} : g = kr_co g f 0 := by
  funext p
  rw [kr_co, if_neg (by omega)]
theorem kr_coS {g f : Nat → Int32} {j : Nat} : upd (kr_co g f j) (j + 228) (f j) = kr_co g f (j + 1) := by
  funext p
  by_cases e : p = j + 228
  · subst e
    rw [pk_us, kr_co, if_pos (by omega), show j + 228 - 228 = j from by omega]
  · rw [pk_un e, kr_co, kr_co]
    by_cases q : 228 ≤ p ∧ p < 228 + j
    · rw [if_pos q, if_pos (by omega)]
    · rw [if_neg q, if_neg (by omega)]
theorem kr_co_lo {g f : Nat → Int32} {j p : Nat} (h : p < 228) : kr_co g f j p = g p := by rw [kr_co, if_neg (by omega)]
theorem kr_co_hi {g f : Nat → Int32} {p : Nat} (h : p < 228) : kr_co g f 228 (p + 228) = f p := by rw [kr_co, if_pos (by omega), show p + 228 - 228 = p from by omega]
theorem kr_K.mk {f : Nat → Int32} {a b c d e : Nat} (h0 : f 0 = nI a) (h1 : f 1 = nI b) (h2 : f 2 = nI c) (h3 : f 3 = nI d) (h4 : f 4 = nI e) (g0 : a ≤ 6) (g1 : b ≤ 5) (g2 : c ≤ 4) (g3 : d ≤ 6) (g4 : e ≤ 8) (g5 : b = 0 ∨ 0 < a) (g6 : kr_t 228 f) : kr_K f := ⟨a, b, c, d, e, h0, h1, h2, h3, h4, g0, g1, g2, g3, g4, g5, g6⟩
/-- a number below n was taken -/
def kr_vz (f : Nat → Int32) (n : Nat) : Prop := ∃ z : Nat, z < n ∧ f 0 = nI z
theorem kr_vz.mk {f : Nat → Int32} {n : Nat} (z : Nat) (h : z < n) (e : f 0 = nI z) : kr_vz f n := ⟨z, h, e⟩
