/-- -1, or a place below n -/
def kw_m1 (n : Nat) (x : Int32) : Prop := x = -1 ∨ vp_in x n
theorem kw_rr {x : Int32} {n m : Nat} (h1 : ¬ x < -1) (h2 : x < nI n) (h3 : ¬ x = -1) (hn : n ≤ m) (hm : m < 2147483648) : vp_in x m := by
  rw [vp_in_iff]
  rw [Int32.lt_iff_toInt_lt] at h1 h2
  have e1 : (-1 : Int32).toInt = -1 := by decide
  have e2 := nI_toInt (n := n) (by omega)
  have h4 : ¬ x.toInt = (-1 : Int32).toInt := fun q => h3 (Int32.toInt_inj.mp q)
  omega
