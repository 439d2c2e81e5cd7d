/-- what a reading of the text tells: how many items, or a number below 0 -/
def kz_pq (wo fs : Nat → Int32) (r : Int32) : Prop := r < 0 ∨ ∃ n a b : Nat, 0 < n ∧ n < 25 ∧ kz_ok wo fs n a b ∧ r = nI n
theorem kz_pq.mk {wo fs : Nat → Int32} {n a b : Nat} (h0 : 0 < n) (hn : n < 25) (h : kz_ok wo fs n a b) : kz_pq wo fs (nI n) := Or.inr ⟨n, a, b, h0, hn, h, rfl⟩
theorem kz_pq.neg {wo fs : Nat → Int32} {r : Int32} (h : r < 0) : kz_pq wo fs r := Or.inl h
