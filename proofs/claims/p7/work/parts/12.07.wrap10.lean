/-- what the items told so far say, exactly -/
def kz_oE (wo fs : Nat → Int32) (n a b : Nat) (kd : Nat → Int32) : Prop := kz_ok wo fs n a b ∧ (0 < n → wo 0 = 0) ∧ ∀ k, k < n → wo k = 1 → fs k = kd (kz_cnt wo 1 k)
theorem kz_oE_0 {wo fs : Nat → Int32} {x : Int32} : kz_oE (upd wo 0 0) (upd fs 0 x) 1 0 0 (fun _ => 0) := by
  refine ⟨kz_ok_n (kz_ok_0 wo fs) (by decide) (by decide), fun _ => pk_us, fun k hk hw => ?_⟩
  obtain rfl : k = 0 := by omega
  rw [pk_us] at hw
  exact absurd hw (by decide)
theorem kz_oE_n {wo fs kd : Nat → Int32} {n a b : Nat} {w x : Int32} (h : kz_oE wo fs n a b kd) (hn : 0 < n) (h1 : ¬ w = 1) (h2 : ¬ w = 2) : kz_oE (upd wo n w) (upd fs n x) (n + 1) a b kd := by
  refine ⟨kz_ok_n h.1 h1 h2, fun _ => by rw [pk_un (by omega)]; exact h.2.1 hn, fun k hk hw => ?_⟩
  by_cases e : k = n
  · subst e
    rw [pk_us] at hw
    exact absurd hw h1
  · rw [pk_un e] at hw
    rw [pk_un e, kz_cnt_eq (f := upd wo n w) (g := wo) k (fun j hj => pk_un (by omega))]
    exact h.2.2 k (by omega) hw
theorem kz_oE_1 {wo fs kd : Nat → Int32} {n a b : Nat} {x : Int32} (h : kz_oE wo fs n a b kd) (hn : 0 < n) (ha : a + 1 ≤ 6) (hx : vp_in x 6) : kz_oE (upd wo n 1) (upd fs n x) (n + 1) (a + 1) b (upd kd a x) := by
  refine ⟨kz_ok_1 h.1 ha hx, fun _ => by rw [pk_un (by omega)]; exact h.2.1 hn, fun k hk hw => ?_⟩
  by_cases e : k = n
  · subst e
    rw [pk_us, kz_cnt_eq (f := upd wo k 1) (g := wo) k (fun j hj => pk_un (by omega)), h.1.1, pk_us]
  · rw [pk_un e] at hw
    have q := kz_cnt_lt (f := wo) (show k < n by omega) hw
    rw [h.1.1] at q
    rw [pk_un e, kz_cnt_eq (f := upd wo n 1) (g := wo) k (fun j hj => pk_un (by omega)), pk_un (by omega)]
    exact h.2.2 k (by omega) hw
theorem kz_oE_2 {wo fs kd : Nat → Int32} {n a b : Nat} {x : Int32} (h : kz_oE wo fs n a b kd) (hn : 0 < n) (hb : b + 1 ≤ 5) (hx : vp_in x 6) : kz_oE (upd wo n 2) (upd fs n x) (n + 1) a (b + 1) kd := by
  refine ⟨kz_ok_2 h.1 hb hx, fun _ => by rw [pk_un (by omega)]; exact h.2.1 hn, fun k hk hw => ?_⟩
  by_cases e : k = n
  · subst e
    rw [pk_us] at hw
    exact absurd hw (by decide)
  · rw [pk_un e] at hw
    rw [pk_un e, kz_cnt_eq (f := upd wo n 2) (g := wo) k (fun j hj => pk_un (by omega))]
    exact h.2.2 k (by omega) hw
def kz_g0 (f : Nat → Int32) (n k s e q : Nat) (wo fs : Nat → Int32) : Prop := ks_it0 f n k s e = ks_ok q 0 0 12 (fun _ => 0) ∧ kz_oE wo fs 1 0 0 (fun _ => 0) ∧ s + 6 ≤ q
theorem kz_g0.mk {f wo fs : Nat → Int32} {n k s e q : Nat} (h : ks_it0 f n k s e = ks_ok q 0 0 12 (fun _ => 0)) (h1 : kz_oE wo fs 1 0 0 (fun _ => 0)) (h2 : s + 6 ≤ q) : kz_g0 f n k s e q wo fs := ⟨h, h1, h2⟩
def kz_g1 (f : Nat → Int32) (n k s e a g t : Nat) (kd : Nat → Int32) (q a2 g2 t2 : Nat) (wo fs : Nat → Int32) (m : Nat) : Prop := ∃ ke : Nat → Int32, ks_it f n k s e a g t kd = ks_ok q a2 g2 t2 ke ∧ kz_oE wo fs m a2 g2 ke ∧ s + 6 ≤ q
theorem kz_g1.mk {f kd wo fs ke : Nat → Int32} {n k s e a g t q a2 g2 t2 m : Nat} (h : ks_it f n k s e a g t kd = ks_ok q a2 g2 t2 ke) (h1 : kz_oE wo fs m a2 g2 ke) (h2 : s + 6 ≤ q) : kz_g1 f n k s e a g t kd q a2 g2 t2 wo fs m := ⟨ke, h, h1, h2⟩
/-- where the reading of the text stands -/
def kz_LI (f : Nat → Int32) (n e j a g t : Nat) (wo fs : Nat → Int32) : Prop := ∃ kd : Nat → Int32, ks_read f n = ks_loop f n e j a g t kd ∧ kz_oE wo fs j a g kd ∧ 7 * j ≤ e
theorem kz_LI.first {f wo fs : Nat → Int32} {n q : Nat} (hg : kz_g0 f n (ks_K f n 0) (ks_S f n 0) (ks_E f n 0) q wo fs) (hq : q ≤ n) (h3 : ks_K f n q = 3) : kz_LI f n (ks_E f n q) 1 0 0 12 wo fs := by
  obtain ⟨h, ho, h6⟩ := hg
  have h1 := ks_S_le (f := f) hq
  have h2 := ks_Kpos (f := f) (n := n) (p := q) (by omega)
  exact ⟨_, ks_readN h h3, ho, by omega⟩
theorem kz_LI.next {f kd wo fs : Nat → Int32} {n p j a g t q a2 g2 t2 : Nat} (hR : ks_read f n = ks_loop f n p j a g t kd) (h7 : 7 * j ≤ p) (hp : p ≤ n) (hK : ¬ ks_K f n p = 0) (h : kz_g1 f n (ks_K f n p) (ks_S f n p) (ks_E f n p) a g t kd q a2 g2 t2 wo fs (j + 1)) (hq : q ≤ n) (h3 : ks_K f n q = 3) : kz_LI f n (ks_E f n q) (j + 1) a2 g2 t2 wo fs := by
  obtain ⟨ke, e1, e2, e3⟩ := h
  have h1 := ks_S_le (f := f) hp
  have h2 := ks_S_le (f := f) hq
  have h4 := ks_Kpos (f := f) (n := n) (p := q) (by omega)
  have h5 := ks_E_le (f := f) hq
  exact ⟨ke, hR.trans (ks_loopN hK e1 h3 (by omega) h5.2), e2, by omega⟩
/-- what a reading of the text tells, exactly -/
def kz_pR (f : Nat → Int32) (n : Nat) (wo fs : Nat → Int32) (r : Int32) : Prop := (∃ q : Nat, q ≤ n ∧ r = (-10) - nI q ∧ ks_read f n = ks_flt q) ∨ ∃ (m a b t : Nat) (kd : Nat → Int32), 0 < m ∧ m < 25 ∧ kz_oE wo fs m a b kd ∧ r = nI m ∧ ks_read f n = ks_ok m a b t kd
theorem kz_pR.flt {f wo fs : Nat → Int32} {n q : Nat} (h : ks_read f n = ks_flt q) (hq : q ≤ n) : kz_pR f n wo fs ((-10) - nI q) := Or.inl ⟨q, hq, rfl, h⟩
theorem kz_pR.ok {f kd wo fs : Nat → Int32} {n p m a b t : Nat} (h : ks_read f n = ks_loop f n p m a b t kd) (hK : ks_K f n p = 0) (ho : kz_oE wo fs m a b kd) (h0 : 0 < m) (h25 : m < 25) : kz_pR f n wo fs (nI m) := Or.inr ⟨m, a, b, t, kd, h0, h25, ho, rfl, h.trans (ks_loop0 hK)⟩
theorem kz_pR.nos {f kd wo fs : Nat → Int32} {n p j a g t q a2 g2 t2 m : Nat} {wo2 fs2 : Nat → Int32} (hR : ks_read f n = ks_loop f n p j a g t kd) (hK : ¬ ks_K f n p = 0) (h : kz_g1 f n (ks_K f n p) (ks_S f n p) (ks_E f n p) a g t kd q a2 g2 t2 wo2 fs2 m) (h3 : ¬ ks_K f n q = 3) (hq : q ≤ n) : kz_pR f n wo fs ((-10) - nI (ks_S f n q)) := by
  obtain ⟨ke, e1, _, _⟩ := h
  exact kz_pR.flt (hR.trans (ks_loopS hK e1 h3)) (ks_S_le hq).2
theorem ks_nm_o {f : Nat → Int32} {n q a b : Nat} (h : ¬ ∃ j : Nat, a ≤ j ∧ j ≤ b ∧ nI (ks_V f n q) = nI j) : ¬ ks_nm f n q a b = true := fun z => h ⟨_, (of_decide_eq_true z).2.1, (of_decide_eq_true z).2.2, rfl⟩
theorem ks_nm_oF {f : Nat → Int32} {n q a : Nat} (h0 : 0 < a) (h : ¬ ∃ j : Nat, j < a ∧ nI (ks_V f n q) = nI j) : ¬ ks_nm f n q 0 (a - 1) = true := fun z => h ⟨_, by have := (of_decide_eq_true z).2.2; omega, rfl⟩
theorem ks_nm_v {f : Nat → Int32} {n q a b : Nat} (h : ks_nm f n q a b = true) : ks_K f n q = 2 ∧ a ≤ ks_V f n q ∧ ks_V f n q ≤ b := of_decide_eq_true h
theorem ks_nm_E {f : Nat → Int32} {n q a b : Nat} (hq : q ≤ n) (h : ks_nm f n q a b = true) : q + 1 ≤ ks_E f n q := by
  have h1 := ks_Kpos (f := f) (n := n) (p := q) (by rw [(ks_nm_v h).1]; decide)
  have h2 := ks_S_le (f := f) hq
  omega
/-- a letter of the words -/
def kz_w (i k : Nat) : Int32 := (kzB.getD i []).getD k 0
theorem ks_nar {k : Nat} (h : k < 128) : vp_nar .byte ((nI k).toInt8.toInt32) = nI k := by
  have q : ∀ j : Fin 128, vp_nar .byte ((nI j.1).toInt8.toInt32) = nI j.1 := by decide +kernel
  exact q ⟨k, h⟩
/-- the read parish so far -/
def kz_rE (wo : Nat → Int32) (j a b : Nat) (fk kd : Nat → Int32) : Prop := a = kz_cnt wo 1 j ∧ b = kz_cnt wo 2 j ∧ ∀ i, i < a → fk i = kd i
theorem kz_rE0 {wo fs kd fk : Nat → Int32} {m a b : Nat} (h : kz_oE wo fs m a b kd) (hm : 0 < m) : kz_rE wo 1 0 0 fk kd := by
  have e := h.2.1 hm
  refine ⟨?_, ?_, fun i hi => absurd hi (Nat.not_lt_zero i)⟩
  · rw [kz_cnt, kz_cnt, e, if_neg (by decide)]
  · rw [kz_cnt, kz_cnt, e, if_neg (by decide)]
theorem kz_rE1 {wo fs kd fk : Nat → Int32} {m n g a b j : Nat} (h : kz_oE wo fs m n g kd) (hj : j < m) (hr : kz_rE wo j a b fk kd) (e : wo j = 1) {x : Int32} (ex : fs j = x) : kz_rE wo (j + 1) (a + 1) b (upd fk a x) kd := by
  obtain ⟨h1, h2, h3⟩ := hr
  refine ⟨by rw [kz_cnt, if_pos e, h1], by rw [kz_cnt, e, if_neg (by decide)]; exact h2, fun i hi => ?_⟩
  by_cases q : i = a
  · subst q
    rw [pk_us, ← ex, h.2.2 j hj e, ← h1]
  · rw [pk_un q]
    exact h3 i (by omega)
theorem kz_rE2 {wo kd fk : Nat → Int32} {a b j : Nat} (hr : kz_rE wo j a b fk kd) (e : wo j = 2) : kz_rE wo (j + 1) a (b + 1) fk kd := by
  obtain ⟨h1, h2, h3⟩ := hr
  exact ⟨by rw [kz_cnt, e, if_neg (by decide)]; exact h1, by rw [kz_cnt, if_pos e, h2], h3⟩
theorem kz_rEn {wo kd fk : Nat → Int32} {a b j : Nat} (hr : kz_rE wo j a b fk kd) (e1 : ¬ wo j = 1) (e2 : ¬ wo j = 2) : kz_rE wo (j + 1) a b fk kd := by
  obtain ⟨h1, h2, h3⟩ := hr
  exact ⟨by rw [kz_cnt, if_neg e1]; exact h1, by rw [kz_cnt, if_neg e2]; exact h2, h3⟩
theorem kz_rEa {wo fs kd fk : Nat → Int32} {m n g a b j : Nat} (h : kz_oE wo fs m n g kd) (hj : j < m) (hr : kz_rE wo j a b fk kd) (e : wo j = 1) : a < 6 := by
  have q := kz_cnt_lt (f := wo) hj e
  rw [h.1.1] at q
  have := h.1.2.2.1
  have := hr.1
  omega
theorem kz_rEb {wo fs kd fk : Nat → Int32} {m n g a b j : Nat} (h : kz_oE wo fs m n g kd) (hj : j < m) (hr : kz_rE wo j a b fk kd) (e : wo j = 2) : b < 5 := by
  have q := kz_cnt_lt (f := wo) hj e
  rw [h.1.2.1] at q
  have := h.1.2.2.2.1
  have := hr.2.1
  omega
theorem kz_rEz {wo fs kd fk : Nat → Int32} {m n g a b : Nat} (h : kz_oE wo fs m n g kd) (hr : kz_rE wo m a b fk kd) : n = a ∧ g = b := ⟨(hr.1.trans h.1.1).symm, (hr.2.1.trans h.1.2.1).symm⟩
/-- the kinds of a row of fields -/
def kz_kc (fk : Nat → Int32) (a : Nat) (kd : Nat → Int32) : Prop := ∀ i, i < a → fk i = kd i
theorem kz_g1.b {f kd wo fs : Nat → Int32} {n k s e a g t q a2 g2 t2 m : Nat} (h : kz_g1 f n k s e a g t kd q a2 g2 t2 wo fs m) : a2 ≤ 6 ∧ g2 ≤ 5 := by
  obtain ⟨ke, _, h1, _⟩ := h
  exact ⟨h1.1.2.2.1, h1.1.2.2.2.1⟩
