def sp_parish (c : Int32) : Int32 := if 0 ≤ c.toInt ∧ c.toInt ≤ 9 then 0 else -2
def sp_field (k : Int32) (c : Int32) : Int32 := if (0 ≤ k.toInt ∧ k.toInt ≤ 5) ∧ (0 ≤ c.toInt ∧ c.toInt ≤ 60) then 0 else -2
def sp_type (c : Int32) : Int32 := if 0 ≤ c.toInt ∧ c.toInt ≤ 127 then 1 else -2
def sp_glean (n : Int32) : Int32 := if 1 ≤ n.toInt ∧ n.toInt ≤ 12 then 0 else -2
def sp_cloud (c : Int32) : Int32 := if 0 ≤ c.toInt ∧ c.toInt ≤ 9 then 0 else -2
def sp_places (w : Int32) (g1 : Int32) : Int32 := if (0 ≤ w.toInt ∧ w.toInt ≤ 1) ∧ g1.toInt = -1 then 0 else -10
def sp_which (t : Int32) : Int32 := if 0 ≤ t.toInt ∧ t.toInt ≤ 11 then -1 else -2
def sp_enough (x : Int32) : Int32 := if 0 ≤ x.toInt ∧ x.toInt ≤ 999 then (if x.toInt = 0 then 0 else -1) else -2
def sp_forget (w : Int32) : Int32 := if 0 ≤ w.toInt ∧ w.toInt ≤ 1 then 0 else -2
def sp_summers (x : Int32) (n : Int32) : Int32 := if (0 ≤ x.toInt ∧ x.toInt ≤ 999999) ∧ (0 ≤ n.toInt ∧ n.toInt ≤ 60) then 0 else -2
def sp_part (w : Int32) : Int64 := if w.toInt = 0 then 0 else if w.toInt = 1 then 1 else -2
def sp_image (i : Int32) : Int32 := if 0 ≤ i.toInt ∧ i.toInt ≤ 1 then 1 else -2
def sp_from (i : Int32) : Int32 := if 0 ≤ i.toInt ∧ i.toInt ≤ 1 then -3 else -2
def sp_status (w : Int32) : Int32 := if 0 ≤ w.toInt ∧ w.toInt ≤ 2 then 0 else -1
def sp_count (w : Int32) : Int32 := if 0 ≤ w.toInt ∧ w.toInt ≤ 8 then 0 else -2
