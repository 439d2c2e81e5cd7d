/-! what can be seen, exactly -/
def sg_0 (t l c : Int32) : Int32 := if 0 < l - 2 * t - c then l - 2 * t - c else 0
def sg_1 (t l c : Int32) : Int32 := if 6 ≤ t ∧ 1 ≤ l then sg_0 t l c + t else sg_0 t l c
def sg_2 (t l c : Int32) : Int32 := sg_0 t l c / 2
def sg_3 (t l c : Int32) : Int32 := if sg_0 t l c + c < l then sg_0 t l c + c else l
def sg_4 (t l c : Int32) : Int32 := sg_1 t l (if 0 < c - 3 then c - 3 else 0)
def sg_5 (t l c : Int32) : Int32 := if 8 ≤ t then 0 else sg_2 t l c
def sgk (k : Nat) (t l c : Int32) : Int32 := match k with
  | 0 => sg_0 t l c
  | 1 => sg_1 t l c
  | 2 => sg_2 t l c
  | 3 => sg_3 t l c
  | 4 => sg_4 t l c
  | _ => sg_5 t l c
theorem sg_1a {t l c : Int32} (h1 : ¬ t < 6) (h2 : ¬ l < 1) : sg_0 t l c + t = sg_1 t l c := by rw [sg_1, if_pos ⟨Int32.not_lt.mp h1, Int32.not_lt.mp h2⟩]
theorem sg_1b {t l c : Int32} (h1 : t < 6) : sg_0 t l c = sg_1 t l c := by rw [sg_1, if_neg (fun h => absurd h.1 (Int32.not_le.mpr h1))]
theorem sg_1c {t l c : Int32} (h1 : l < 1) : sg_0 t l c = sg_1 t l c := by rw [sg_1, if_neg (fun h => absurd h.2 (Int32.not_le.mpr h1))]
theorem sg_5a {t l c : Int32} (h1 : ¬ t < 8) : 0 = sg_5 t l c := by rw [sg_5, if_pos (Int32.not_lt.mp h1)]
theorem sg_5b {t l c : Int32} (h1 : t < 8) : sg_2 t l c = sg_5 t l c := by rw [sg_5, if_neg (Int32.not_le.mpr h1)]
theorem sg_0a {t l c : Int32} (h : l - 2 * t - c < 0) : 0 = sg_0 t l c := by
  rw [sg_0, if_neg (fun q => Int32.lt_irrefl (Int32.lt_trans h q))]
theorem sg_0b {t l c : Int32} (h : 0 ≤ l - 2 * t - c) : l - 2 * t - c = sg_0 t l c := by
  rw [sg_0]
  by_cases q : 0 < l - 2 * t - c
  · rw [if_pos q]
  · rw [if_neg q]
    exact Int32.le_antisymm (Int32.not_lt.mp q) h
theorem sg_3a {t l c : Int32} (h : ¬ l ≤ sg_0 t l c + c) : sg_0 t l c + c = sg_3 t l c := by rw [sg_3, if_pos (Int32.not_le.mp h)]
theorem sg_3b {t l c : Int32} (h : l ≤ sg_0 t l c + c) : l = sg_3 t l c := by rw [sg_3, if_neg (Int32.not_lt.mpr h)]
theorem sg_c3 {w : Nat} (h : w < 10) : (if 0 < nI w - 3 then nI w - 3 else 0) = if 3 ≤ nI w then nI w - 3 else 0 := by
  have q : ∀ j : Fin 10, (if 0 < nI j.1 - 3 then nI j.1 - 3 else 0) = if 3 ≤ nI j.1 then nI j.1 - 3 else 0 := by decide +kernel
  exact q ⟨w, h⟩
theorem sg_4a {t l : Int32} {w : Nat} (hw : w < 10) (h : 3 ≤ nI w) : sg_1 t l (nI w - 3) = sg_4 t l (nI w) := by rw [sg_4, sg_c3 hw, if_pos h]
theorem sg_4b {t l : Int32} {w : Nat} (hw : w < 10) (h : ¬ 3 ≤ nI w) : sg_1 t l 0 = sg_4 t l (nI w) := by rw [sg_4, sg_c3 hw, if_neg h]
theorem sg_10 {t l c : Int32} (h : sg_0 t l c = sg_1 t l c) : sg_0 t l c + 0 = sg_1 t l c := by rw [← h, Int32.add_zero]
/-- bits of what holds -/
def cb (P : Nat → Bool) : Nat → Int32
  | 0 => 0
  | k + 1 => if P k = true then cb P k ||| (1 <<< (nI k &&& 31)) else cb P k
theorem cb_y {P : Nat → Bool} {k : Nat} {x : Int32} (hx : x = cb P k) (h : P k = true) : x ||| (1 <<< (nI k &&& 31)) = cb P (k + 1) := by rw [cb, if_pos h, hx]
theorem cb_n {P : Nat → Bool} {k : Nat} {x : Int32} (hx : x = cb P k) (h : ¬ P k = true) : x = cb P (k + 1) := by rw [cb, if_neg h, hx]
theorem cb_n0 {P : Nat → Bool} {k : Nat} {x : Int32} (hx : x = cb P k) (h : ¬ P k = true) : x ||| 0 = cb P (k + 1) := by rw [Int32.or_zero]; exact cb_n hx h
/-- one that was missed fits a cloud, as the reference's row has it -/
def cl_row (f : Nat → Int32) (c : Int32) (j : Nat) : Bool := decide (sgk (f ((f (30 + 4 * j)).toNatClampNeg + 24)).toNatClampNeg (f (30 + 4 * j + 1)) (f (30 + 4 * j + 2)) c = f (30 + 4 * j + 3))
def cl_ok (f : Nat → Int32) (c : Int32) : Nat → Bool
  | 0 => true
  | n + 1 => cl_ok f c n && cl_row f c n
theorem cl_ok_s {f : Nat → Int32} {c : Int32} {n : Nat} (h : cl_ok f c n = true) (h1 : cl_row f c n = true) : cl_ok f c (n + 1) = true := by rw [cl_ok, h, h1]; rfl
theorem cl_ok_in {f : Nat → Int32} {c : Int32} : ∀ n : Nat, cl_ok f c n = true → ∀ j, j < n → cl_row f c j = true := by
  intro n
  induction n with
  | zero => intro _ j hj; exact absurd hj (Nat.not_lt_zero j)
  | succ n ih =>
    intro h j hj
    rw [cl_ok, Bool.and_eq_true] at h
    by_cases e : j = n
    · subst e
      exact h.2
    · exact ih h.1 j (by omega)
theorem cl_ok_f {f : Nat → Int32} {c : Int32} {n j : Nat} (hj : j < n) (h : ¬ cl_row f c j = true) : ¬ cl_ok f c n = true := fun q => h (cl_ok_in n q j hj)
/-- a note of a field fits a kind -/
def nt_row (f : Nat → Int32) (x : Int32) (k j : Nat) : Bool := decide (f (46 + 5 * j) = x → sgk k (f (46 + 5 * j + 1)) (f (46 + 5 * j + 2)) (f (46 + 5 * j + 3)) = f (46 + 5 * j + 4))
def nt_ok (f : Nat → Int32) (x : Int32) (k : Nat) : Nat → Bool
  | 0 => true
  | n + 1 => nt_ok f x k n && nt_row f x k n
theorem nt_ok_s {f : Nat → Int32} {x : Int32} {k n : Nat} (h : nt_ok f x k n = true) (h1 : nt_row f x k n = true) : nt_ok f x k (n + 1) = true := by rw [nt_ok, h, h1]; rfl
theorem nt_ok_in {f : Nat → Int32} {x : Int32} {k : Nat} : ∀ n : Nat, nt_ok f x k n = true → ∀ j, j < n → nt_row f x k j = true := by
  intro n
  induction n with
  | zero => intro _ j hj; exact absurd hj (Nat.not_lt_zero j)
  | succ n ih =>
    intro h j hj
    rw [nt_ok, Bool.and_eq_true] at h
    by_cases e : j = n
    · subst e
      exact h.2
    · exact ih h.1 j (by omega)
theorem nt_ok_f {f : Nat → Int32} {x : Int32} {k n j : Nat} (hj : j < n) (h : ¬ nt_row f x k j = true) : ¬ nt_ok f x k n = true := fun q => h (nt_ok_in n q j hj)
/-! rows of the class and of the reference -/
def kz_mr (f r : Nat → Int32) (j fi : Nat) : Prop := (∀ q, q < 4 → f (30 + 4 * j + q) = r q) ∧ vp_in (r 0) fi
def kz_nr (f r : Nat → Int32) (j : Nat) : Prop := (∀ q, q < 5 → f (46 + 5 * j + q) = r q) ∧ vp_in (r 3) 10
def kz_PM (f : Nat → Int32) (fi mi : Nat) (fk m0 m1 m2 m3 : Nat → Int32) : Prop := kz_ka f fi fk ∧ (0 < mi → kz_mr f m0 0 fi) ∧ (1 < mi → kz_mr f m1 1 fi) ∧ (2 < mi → kz_mr f m2 2 fi) ∧ (3 < mi → kz_mr f m3 3 fi)
def kz_PN (f : Nat → Int32) (no : Nat) (t0 t1 t2 t3 t4 t5 : Nat → Int32) : Prop := (0 < no → kz_nr f t0 0) ∧ (1 < no → kz_nr f t1 1) ∧ (2 < no → kz_nr f t2 2) ∧ (3 < no → kz_nr f t3 3) ∧ (4 < no → kz_nr f t4 4) ∧ (5 < no → kz_nr f t5 5)
theorem kz_inlt {w n : Nat} (h : vp_in (nI w) n) (hw : w < 2147483648) (hn : n < 2147483648) : w < n := by
  obtain ⟨z, hz, e⟩ := vp_in_of h hn
  have := (nI_eq (a := w) (b := z) hw (by omega)).mp e
  omega
theorem cl_row_r {f : Nat → Int32} {c : Int32} {j w K : Nat} (hw : f (30 + 4 * j) = nI w) (hw6 : w < 6) (hk : f (w + 24) = nI K) (hK : K < 6) : cl_row f c j = decide (sgk K (f (30 + 4 * j + 1)) (f (30 + 4 * j + 2)) c = f (30 + 4 * j + 3)) := by
  rw [cl_row, hw, nI_clamp (by omega), hk, nI_clamp (by omega)]
theorem cl_row_i {f r fk : Nat → Int32} {c : Int32} {j fi w K : Nat} (h : kz_mr f r j fi) (ka : kz_ka f fi fk) (hfi : fi ≤ 6) (hw : r 0 = nI w) (hw6 : w < 6) (hk : fk w = nI K) (hK : K < 6) : cl_row f c j = decide (sgk K (r 1) (r 2) c = r 3) := by
  have e0 : f (30 + 4 * j) = nI w := (h.1 0 (by decide)).trans hw
  have hf : w < fi := kz_inlt (by rw [← hw]; exact h.2) (by omega) (by omega)
  rw [cl_row_r e0 hw6 ((ka w hf).trans hk) hK, h.1 1 (by decide), h.1 2 (by decide), h.1 3 (by decide)]
theorem nt_row_i {f r : Nat → Int32} {x : Int32} {k j : Nat} (h : kz_nr f r j) : nt_row f x k j = decide (r 0 = x → sgk k (r 1) (r 2) (r 3) = r 4) := by
  rw [nt_row, show f (46 + 5 * j) = r 0 from h.1 0 (by decide), h.1 1 (by decide), h.1 2 (by decide), h.1 3 (by decide), h.1 4 (by decide)]
def kz_kin (f : Nat → Int32) (fi : Nat) : Prop := ∀ i, i < fi → vp_in (f (i + 24)) 6
def kz_min (f : Nat → Int32) (mi fi : Nat) : Prop := ∀ j, j < mi → vp_in (f (30 + 4 * j)) fi
def kz_nin (f : Nat → Int32) (no : Nat) : Prop := ∀ j, j < no → vp_in (f (46 + 5 * j + 3)) 10
theorem kz_kd {f : Nat → Int32} {fi mi j w : Nat} (h : kz_kin f fi) (hm : kz_min f mi fi) (hfi : fi ≤ 6) (hj : j < mi) (hw : f (30 + 4 * j) = nI w) (hw6 : w < 6) : ∃ K : Nat, K < 6 ∧ f (w + 24) = nI K := vp_in_of (h w (kz_inlt (by rw [← hw]; exact hm j hj) (by omega) (by omega))) (by decide)
theorem kz_nd {f : Nat → Int32} {no j : Nat} (h : kz_nin f no) (hj : j < no) : ∃ w : Nat, w < 10 ∧ f (46 + 5 * j + 3) = nI w := vp_in_of (h j hj) (by decide)
theorem cl_i0 {f : Nat → Int32} {c : Int32} : (1 = 1 ↔ cl_ok f c 0 = true) := ⟨fun _ => rfl, fun _ => rfl⟩
theorem cl_i1 {f : Nat → Int32} {c : Int32} {x j : Nat} (h : (x = 1 ↔ cl_ok f c j = true)) (hx : x = 1) (hr : cl_row f c j = true) : (1 = 1 ↔ cl_ok f c (j + 1) = true) := ⟨fun _ => cl_ok_s (h.mp hx) hr, fun _ => rfl⟩
theorem cl_i2 {f : Nat → Int32} {c : Int32} {j : Nat} (hr : ¬ cl_row f c j = true) : (0 = 1 ↔ cl_ok f c (j + 1) = true) := ⟨fun q => absurd q (by decide), fun q => absurd q (cl_ok_f (Nat.lt_succ_self j) hr)⟩
theorem cl_i3 {f : Nat → Int32} {c : Int32} {x j : Nat} (h : (x = 1 ↔ cl_ok f c j = true)) (hx : x = 0) : (0 = 1 ↔ cl_ok f c (j + 1) = true) := ⟨fun q => absurd q (by decide), fun q => by
  rw [cl_ok, Bool.and_eq_true] at q
  have := h.mpr q.1
  omega⟩
theorem nt_i0 {f : Nat → Int32} {x : Int32} {k : Nat} : (1 = 1 ↔ nt_ok f x k 0 = true) := ⟨fun _ => rfl, fun _ => rfl⟩
theorem nt_i1 {f : Nat → Int32} {x : Int32} {z k j : Nat} (h : (z = 1 ↔ nt_ok f x k j = true)) (hz : z = 1) (hr : nt_row f x k j = true) : (1 = 1 ↔ nt_ok f x k (j + 1) = true) := ⟨fun _ => nt_ok_s (h.mp hz) hr, fun _ => rfl⟩
theorem nt_i2 {f : Nat → Int32} {x : Int32} {k j : Nat} (hr : ¬ nt_row f x k j = true) : (0 = 1 ↔ nt_ok f x k (j + 1) = true) := ⟨fun q => absurd q (by decide), fun q => absurd q (nt_ok_f (Nat.lt_succ_self j) hr)⟩
theorem nt_i3 {f : Nat → Int32} {x : Int32} {z k j : Nat} (h : (z = 1 ↔ nt_ok f x k j = true)) (hz : z = 0) : (0 = 1 ↔ nt_ok f x k (j + 1) = true) := ⟨fun q => absurd q (by decide), fun q => by
  rw [nt_ok, Bool.and_eq_true] at q
  have := h.mpr q.1
  omega⟩
theorem kz_PM.kin {f fk m0 m1 m2 m3 : Nat → Int32} {fi mi : Nat} (h : kz_PM f fi mi fk m0 m1 m2 m3) (hk : kw_bd 6 6 fk) (hfi : fi ≤ 6) : kz_kin f fi := fun i hi => by
  rw [h.1 i hi]
  exact hk i (by omega)
theorem kz_PM.min {f fk m0 m1 m2 m3 : Nat → Int32} {fi mi : Nat} (h : kz_PM f fi mi fk m0 m1 m2 m3) (hmi : mi ≤ 4) : kz_min f mi fi := fun j hj => by
  obtain ⟨_, h0, h1, h2, h3⟩ := h
  rcases (show j = 0 ∨ j = 1 ∨ j = 2 ∨ j = 3 by omega) with rfl | rfl | rfl | rfl
  · exact ((h0 hj).1 0 (by decide)) ▸ (h0 hj).2
  · exact ((h1 hj).1 0 (by decide)) ▸ (h1 hj).2
  · exact ((h2 hj).1 0 (by decide)) ▸ (h2 hj).2
  · exact ((h3 hj).1 0 (by decide)) ▸ (h3 hj).2
theorem kz_PN.nin {f t0 t1 t2 t3 t4 t5 : Nat → Int32} {no : Nat} (h : kz_PN f no t0 t1 t2 t3 t4 t5) (hno : no ≤ 6) : kz_nin f no := fun j hj => by
  obtain ⟨h0, h1, h2, h3, h4, h5⟩ := h
  rcases (show j = 0 ∨ j = 1 ∨ j = 2 ∨ j = 3 ∨ j = 4 ∨ j = 5 by omega) with rfl | rfl | rfl | rfl | rfl | rfl
  · exact ((h0 hj).1 3 (by decide)) ▸ (h0 hj).2
  · exact ((h1 hj).1 3 (by decide)) ▸ (h1 hj).2
  · exact ((h2 hj).1 3 (by decide)) ▸ (h2 hj).2
  · exact ((h3 hj).1 3 (by decide)) ▸ (h3 hj).2
  · exact ((h4 hj).1 3 (by decide)) ▸ (h4 hj).2
  · exact ((h5 hj).1 3 (by decide)) ▸ (h5 hj).2
/-- places 24 to 75 of a row stay -/
def kz_k2 (f g : Nat → Int32) : Prop := ∀ p, 24 ≤ p → p < 76 → g p = f p
theorem kz_k2_0 {f : Nat → Int32} : kz_k2 f f := fun _ _ _ => rfl
theorem kz_k2_u {f g : Nat → Int32} {p : Nat} {v : Int32} (h : kz_k2 f g) (hp : p < 24 ∨ 76 ≤ p) : kz_k2 f (upd g p v) := by
  intro q h1 h2
  rw [pk_un (by omega)]
  exact h q h1 h2
theorem kz_k2_t {f g k : Nat → Int32} (h : kz_k2 f g) (h2 : kz_k2 g k) : kz_k2 f k := fun p h3 h4 => (h2 p h3 h4).trans (h p h3 h4)
def kz_eq (n : Nat) (f g : Nat → Int32) : Prop := ∀ q, q < n → f q = g q
theorem kz_eq_cp {n : Nat} {f g : Nat → Int32} : kz_eq n (va_cpy f g 0 0 n) f := fun q hq => by rw [pk_cpy_in (Nat.zero_le q) (by omega), show 0 + (q - 0) = q from by omega]
theorem kz_mr.cg {f g r s : Nat → Int32} {j fi : Nat} (h : kz_mr f r j fi) (hj : j < 4) (hf : kz_k2 f g) (hs : kz_eq 4 s r) : kz_mr g s j fi := ⟨fun q hq => by rw [hf _ (by omega) (by omega), h.1 q hq, hs q hq], by rw [hs 0 (by decide)]; exact h.2⟩
theorem kz_nr.cg {f g r s : Nat → Int32} {j : Nat} (h : kz_nr f r j) (hj : j < 6) (hf : kz_k2 f g) (hs : kz_eq 5 s r) : kz_nr g s j := ⟨fun q hq => by rw [hf _ (by omega) (by omega), h.1 q hq, hs q hq], by rw [hs 3 (by decide)]; exact h.2⟩
theorem kz_PM.cg {f g fk fl m0 m1 m2 m3 n0 n1 n2 n3 : Nat → Int32} {fi mi : Nat} (h : kz_PM f fi mi fk m0 m1 m2 m3) (hfi : fi ≤ 6) (hf : kz_k2 f g) (hk : kz_eq 6 fl fk) (h0 : 0 < mi → kz_eq 4 n0 m0) (h1 : 1 < mi → kz_eq 4 n1 m1) (h2 : 2 < mi → kz_eq 4 n2 m2) (h3 : 3 < mi → kz_eq 4 n3 m3) : kz_PM g fi mi fl n0 n1 n2 n3 :=
  ⟨fun i hi => by rw [hf _ (by omega) (by omega), h.1 i hi, hk i (by omega)], fun q => (h.2.1 q).cg (by decide) hf (h0 q), fun q => (h.2.2.1 q).cg (by decide) hf (h1 q), fun q => (h.2.2.2.1 q).cg (by decide) hf (h2 q), fun q => (h.2.2.2.2 q).cg (by decide) hf (h3 q)⟩
theorem kz_PN.cg {f g t0 t1 t2 t3 t4 t5 u0 u1 u2 u3 u4 u5 : Nat → Int32} {no : Nat} (h : kz_PN f no t0 t1 t2 t3 t4 t5) (hf : kz_k2 f g) (h0 : 0 < no → kz_eq 5 u0 t0) (h1 : 1 < no → kz_eq 5 u1 t1) (h2 : 2 < no → kz_eq 5 u2 t2) (h3 : 3 < no → kz_eq 5 u3 t3) (h4 : 4 < no → kz_eq 5 u4 t4) (h5 : 5 < no → kz_eq 5 u5 t5) : kz_PN g no u0 u1 u2 u3 u4 u5 :=
  ⟨fun q => (h.1 q).cg (by decide) hf (h0 q), fun q => (h.2.1 q).cg (by decide) hf (h1 q), fun q => (h.2.2.1 q).cg (by decide) hf (h2 q), fun q => (h.2.2.2.1 q).cg (by decide) hf (h3 q), fun q => (h.2.2.2.2.1 q).cg (by decide) hf (h4 q), fun q => (h.2.2.2.2.2 q).cg (by decide) hf (h5 q)⟩
theorem kz_eq_0 {n : Nat} {f : Nat → Int32} : kz_eq n f f := fun _ _ => rfl
theorem kz_PM.k2 {f g fk m0 m1 m2 m3 : Nat → Int32} {fi mi : Nat} (h : kz_PM f fi mi fk m0 m1 m2 m3) (hfi : fi ≤ 6) (hf : kz_k2 f g) : kz_PM g fi mi fk m0 m1 m2 m3 := h.cg hfi hf kz_eq_0 (fun _ => kz_eq_0) (fun _ => kz_eq_0) (fun _ => kz_eq_0) (fun _ => kz_eq_0)
theorem kz_PN.k2 {f g t0 t1 t2 t3 t4 t5 : Nat → Int32} {no : Nat} (h : kz_PN f no t0 t1 t2 t3 t4 t5) (hf : kz_k2 f g) : kz_PN g no t0 t1 t2 t3 t4 t5 := h.cg hf (fun _ => kz_eq_0) (fun _ => kz_eq_0) (fun _ => kz_eq_0) (fun _ => kz_eq_0) (fun _ => kz_eq_0) (fun _ => kz_eq_0)
theorem kz_PM.z {f fk m0 m1 m2 m3 : Nat → Int32} : kz_PM f 0 0 fk m0 m1 m2 m3 := ⟨kz_ka_0, fun h => absurd h (by decide), fun h => absurd h (by decide), fun h => absurd h (by decide), fun h => absurd h (by decide)⟩
theorem kz_PM.a {f fk m0 m1 m2 m3 : Nat → Int32} {fi : Nat} (h : kz_ka f fi fk) : kz_PM f fi 0 fk m0 m1 m2 m3 := ⟨h, fun h => absurd h (by decide), fun h => absurd h (by decide), fun h => absurd h (by decide), fun h => absurd h (by decide)⟩
theorem kz_PN.z {f t0 t1 t2 t3 t4 t5 : Nat → Int32} : kz_PN f 0 t0 t1 t2 t3 t4 t5 := ⟨fun h => absurd h (by decide), fun h => absurd h (by decide), fun h => absurd h (by decide), fun h => absurd h (by decide), fun h => absurd h (by decide), fun h => absurd h (by decide)⟩
