/-! parts of the world that a call doesn't see -/
def kw_ap (X Y : va_W) : Prop := ∀ (i j : Nat) (x z : Nat × va_E), X[i]? = some x → Y[j]? = some z → ¬ x.1 = z.1
theorem kw_ap.symm {X Y : va_W} (h : kw_ap X Y) : kw_ap Y X := fun i j x z hx hz e => h j i z x hz hx e.symm
theorem kw_gl {X Y : va_W} {k : Nat} {q : Nat × va_E} (h : X[k]? = some q) : (X ++ Y)[k]? = some q := by
  rw [List.getElem?_append_left (List.getElem?_eq_some_iff.mp h).1]
  exact h
theorem kw_gr {X Y : va_W} {k : Nat} {q : Nat × va_E} (h : Y[k]? = some q) : (X ++ Y)[X.length + k]? = some q := by
  rw [List.getElem?_append_right (Nat.le_add_right _ _), Nat.add_sub_cancel_left]
  exact h
theorem kw_ga {X Y : va_W} {k : Nat} {q : Nat × va_E} (h : (X ++ Y)[k]? = some q) : (∃ i : Nat, X[i]? = some q) ∨ ∃ i : Nat, Y[i]? = some q := by
  by_cases e : k < X.length
  · rw [List.getElem?_append_left e] at h
    exact Or.inl ⟨k, h⟩
  · rw [List.getElem?_append_right (Nat.le_of_not_lt e)] at h
    exact Or.inr ⟨k - X.length, h⟩
theorem kw_ap.app {X Y Z : va_W} (h : kw_ap X Y) (h2 : kw_ap X Z) : kw_ap X (Y ++ Z) := by
  intro i j x z hx hz
  rcases kw_ga hz with ⟨k, hk⟩ | ⟨k, hk⟩
  · exact h i k x z hx hk
  · exact h2 i k x z hx hk
theorem kw_ap.l {X Y Z : va_W} (h : kw_ap X (Y ++ Z)) : kw_ap X Y := fun i j x z hx hz => h i j x z hx (kw_gl hz)
theorem kw_ap.r {X Y Z : va_W} (h : kw_ap X (Y ++ Z)) : kw_ap X Z := fun i j x z hx hz => h i _ x z hx (kw_gr hz)
theorem kw_Pl {D : va_G} {X Y : va_W} {H : Heap} (h : va_P D vwCl (X ++ Y) H) : va_P D vwCl X H := fun k q hk => h k q (kw_gl hk)
theorem kw_Pr {D : va_G} {X Y : va_W} {H : Heap} (h : va_P D vwCl (X ++ Y) H) : va_P D vwCl Y H := fun k q hk => h _ q (kw_gr hk)
theorem kw_Dl {A : Nat → Prop} {X Y : va_W} (h : va_D A (X ++ Y)) : va_D A X := ⟨fun i j p q hi hj e => h.1 i j p q (kw_gl hi) (kw_gl hj) e, fun k q hk => h.2 k q (kw_gl hk)⟩
theorem kw_Dr {A : Nat → Prop} {X Y : va_W} (h : va_D A (X ++ Y)) : va_D A Y := ⟨fun i j p q hi hj e => by
  have z := h.1 _ _ p q (kw_gr (X := X) hi) (kw_gr (X := X) hj) e
  omega, fun k q hk => h.2 _ q (kw_gr hk)⟩
theorem kw_Da {A : Nat → Prop} {X Y : va_W} (h : va_D A (X ++ Y)) : kw_ap X Y := fun i j x z hx hz e => by
  have q := h.1 _ _ x z (kw_gl hx) (kw_gr hz) e
  have := (List.getElem?_eq_some_iff.mp hx).1
  omega
def kw_F (D : va_G) (A : Nat → Prop) (X T : va_W) (H : Heap) : Prop := va_P D vwCl T H ∧ va_D A T ∧ kw_ap X T
theorem kw_F.sub {D : va_G} {A : Nat → Prop} {X X2 T : va_W} {H : Heap} (h : kw_F D A X T H) (is : List Nat) (hs : is.filterMap (fun i => X[i]?) = X2) : kw_F D A X2 T H := by
  refine ⟨h.1, h.2.1, fun i j x z hx hz => ?_⟩
  subst hs
  obtain ⟨k, -, hk⟩ := List.mem_filterMap.mp (List.mem_of_getElem? hx)
  exact h.2.2 k j x z hk hz
theorem kw_Dapp {A : Nat → Prop} {X Y : va_W} (h1 : va_D A X) (h2 : va_D A Y) (h : kw_ap X Y) : va_D A (X ++ Y) := va_D.app h1 h2 (fun i j x z hx hz => h i j x z hx hz)
/-- the reference's cells to the front, and back -/
theorem kw_swM {D : va_G} {A : Nat → Prop} {C P Q M : va_W} {H : Heap} (hP : va_P D vwCl C H) (hD : va_D A C) (h : kw_F D A C (P ++ (Q ++ M)) H) : va_P D vwCl M H ∧ va_D A M ∧ kw_F D A M (C ++ (P ++ Q)) H := by
  obtain ⟨h1, h2, h3⟩ := h
  have dP := kw_Dl h2
  have dQM := kw_Dr h2
  have aP := kw_Da h2
  have aQ := kw_Da dQM
  refine ⟨kw_Pr (kw_Pr h1), kw_Dr dQM, va_P.app hP (va_P.app (kw_Pl h1) (kw_Pl (kw_Pr h1))), kw_Dapp hD (kw_Dapp dP (kw_Dl dQM) aP.l) (kw_ap.app h3.l h3.r.l), ?_⟩
  exact kw_ap.app h3.r.r.symm (kw_ap.app aP.r.symm aQ.symm)
theorem kw_swC {D : va_G} {A : Nat → Prop} {C P Q M : va_W} {H : Heap} (hP : va_P D vwCl M H) (hD : va_D A M) (h : kw_F D A M (C ++ (P ++ Q)) H) : va_P D vwCl C H ∧ va_D A C ∧ kw_F D A C (P ++ (Q ++ M)) H := by
  obtain ⟨h1, h2, h3⟩ := h
  have dPQ := kw_Dr h2
  have aC := kw_Da h2
  have aP := kw_Da dPQ
  refine ⟨kw_Pl h1, kw_Dl h2, va_P.app (kw_Pl (kw_Pr h1)) (va_P.app (kw_Pr (kw_Pr h1)) hP), kw_Dapp (kw_Dl dPQ) (kw_Dapp (kw_Dr dPQ) hD h3.r.r.symm) (kw_ap.app aP h3.r.l.symm), ?_⟩
  exact kw_ap.app aC.l (kw_ap.app aC.r h3.l.symm)
/-- an image's cells beside the class's, and back -/
theorem kw_inP {D : va_G} {A : Nat → Prop} {C P Q M : va_W} {H : Heap} (hP : va_P D vwCl C H) (hD : va_D A C) (h : kw_F D A C (P ++ (Q ++ M)) H) : va_P D vwCl (C ++ P) H ∧ va_D A (C ++ P) ∧ kw_F D A (C ++ P) (Q ++ M) H := by
  obtain ⟨h1, h2, h3⟩ := h
  refine ⟨va_P.app hP (kw_Pl h1), kw_Dapp hD (kw_Dl h2) h3.l, kw_Pr h1, kw_Dr h2, (kw_ap.app h3.r.symm (kw_Da h2).symm).symm⟩
theorem kw_outP {D : va_G} {A : Nat → Prop} {C P T : va_W} {H : Heap} (hP : va_P D vwCl (C ++ P) H) (hD : va_D A (C ++ P)) (h : kw_F D A (C ++ P) T H) : va_P D vwCl C H ∧ va_D A C ∧ kw_F D A C (P ++ T) H := by
  obtain ⟨h1, h2, h3⟩ := h
  refine ⟨kw_Pl hP, kw_Dl hD, va_P.app (kw_Pr hP) h1, kw_Dapp (kw_Dr hD) h2 (h3.symm.r).symm, kw_ap.app (kw_Da hD) (h3.symm.l).symm⟩
theorem kw_sw2 {D : va_G} {A : Nat → Prop} {C P Q M : va_W} {H : Heap} (h : kw_F D A C (P ++ (Q ++ M)) H) : kw_F D A C (Q ++ (P ++ M)) H := by
  obtain ⟨h1, h2, h3⟩ := h
  have dQM := kw_Dr h2
  have aP := kw_Da h2
  exact ⟨va_P.app (kw_Pl (kw_Pr h1)) (va_P.app (kw_Pl h1) (kw_Pr (kw_Pr h1))), kw_Dapp (kw_Dl dQM) (kw_Dapp (kw_Dl h2) (kw_Dr dQM) aP.r) (kw_ap.app aP.l.symm (kw_Da dQM)), kw_ap.app h3.r.l (kw_ap.app h3.l h3.r.r)⟩
theorem kw_Fgo {D : va_G} {A : Nat → Prop} {ws wc wr w1 T : va_W} {H H1 : Heap} {isC isR : List Nat} (hx : kw_Split ws wc wr isC isR) (hT : kw_F D A ws T H) (hk : ∀ q : Nat, q < H.size → ¬ va_A wc H.size q → H1[q]? = H[q]?) (hD1 : va_D (va_A wc H.size) w1) : kw_F D A (wr ++ w1) T H1 := by
  obtain ⟨h1, h2, h3⟩ := hT
  have at' : ∀ {is : List Nat} {w : va_W}, is.map (fun i => ws[i]?) = w.map some → ∀ (k : Nat) (q : Nat × va_E), w[k]? = some q → ∃ i, is[k]? = some i ∧ ws[i]? = some q := by
    intro is w hs k q hq
    have h1 : (is.map (fun i => ws[i]?))[k]? = some (some q) := by rw [hs, List.getElem?_map, hq]; rfl
    rw [List.getElem?_map] at h1
    cases hi : is[k]? with
    | none => rw [hi] at h1; cases h1
    | some i => rw [hi] at h1; exact ⟨i, rfl, Option.some.inj h1⟩
  have far : ∀ (k : Nat) (q : Nat × va_E), T[k]? = some q → q.1 < H.size ∧ ¬ va_A wc H.size q.1 := by
    intro k q hq
    have hl := (h1 k q hq).lt
    refine ⟨hl, fun h => ?_⟩
    rcases h with ⟨k2, e, h⟩ | h
    · obtain ⟨j, _, h4⟩ := at' hx.2.1 k2 (q.1, e) h
      exact h3 j k (q.1, e) q h4 hq rfl
    · omega
  refine ⟨fun k q hq => (h1 k q hq).kept (hk q.1 (far k q hq).1 (far k q hq).2), h2, ?_⟩
  intro i j x z hxx hz e
  rcases kw_ga hxx with ⟨k, hk2⟩ | ⟨k, hk2⟩
  · obtain ⟨i2, _, h5⟩ := at' hx.2.2.1 k x hk2
    exact h3 i2 j x z h5 hz e
  · exact (far j z hz).2 (by rw [← e]; exact hD1.2 k x hk2)
section KCF
variable {p : Program} {l : Launch} {e : Env} {R : Room} {s : State} {m : MethodId} {args : Array Value} {below : List Frame} {meth : Method} {c : Code} {H H0 : Heap} {locs : List Loc} {cells slots : Nat} {Q : State → Prop}
variable {S : Type} {yn : MethodName} {wy Ts : List Cond} {rm : Room} {D : va_G} {y : Nat → ClassId} {ws wc wr : va_W} {w1 : S → va_W} {mc ms : Nat} {cc bytes : ByteArray} {maxL nL n index pc b : Nat} {ret : Option FieldType} {own C host : String} {A : Nat → Prop} {As rest st0 : List Value} {ls : Array Slot}
theorem kw_goF_i {T0 : va_W} {post : Int32 → S → Prop} {isC isR : List Nat} {a : Array Value} (hx : kw_Split ws wc wr isC isR) (hP : va_P D vwCl ws H) (hD : va_D A ws) (hT : kw_F D A ws T0 H) (hS : va_S A H0 H locs) (hA : ∀ q, H0.size ≤ q → A q)
    (hr : va_Run p l e R s m args below meth c H locs cells slots mc ms (F0 m pc ls st0) rest (va_Qi post (kw_B D w1 (va_A wc H.size)) (va_A wc H.size) a) (va_A wc H.size))
    (kk : ∀ (r : Int32) (u : S) (H1 : Heap) (locs1 : List Loc), post r u → va_P D vwCl (wr ++ w1 u) H1 → va_D A (wr ++ w1 u) → kw_F D A (wr ++ w1 u) T0 H1 → va_S A H0 H1 locs1 → W p l e R s m args below meth c H1 locs1 (cells + mc) (slots + ms) Q (F0 m (pc + 3) ls (.int r :: rest))) : W p l e R s m args below meth c H locs cells slots Q (F0 m pc ls st0) := by
  have hF := va_free (wc := wc) hD hS hA isC hx.2.1
  refine va_calli hr hS (fun q _ h => hF q h) hF (fun r u t H1 locs1 ht hvm hw hB hz1 hk1 hS1 => ?_)
  obtain ⟨hP1, hD1⟩ := hB
  rw [ht] at hP1
  obtain ⟨hP2, hD2⟩ := va_join (wr := wr) (w1 := w1 u) hP hD isC isR hx.2.1 hx.2.2.1 hx.2.2.2.2.1 hx.2.2.2.2.2 hk1 hF hP1 hD1
  exact kk r u H1 locs1 hw hP2 hD2 (kw_Fgo hx hT hk1 hD1) hS1
theorem kw_goF_l {T0 : va_W} {post : Int64 → S → Prop} {isC isR : List Nat} {a : Array Value} (hx : kw_Split ws wc wr isC isR) (hP : va_P D vwCl ws H) (hD : va_D A ws) (hT : kw_F D A ws T0 H) (hS : va_S A H0 H locs) (hA : ∀ q, H0.size ≤ q → A q)
    (hr : va_Run p l e R s m args below meth c H locs cells slots mc ms (F0 m pc ls st0) rest (va_Ql post (kw_B D w1 (va_A wc H.size)) (va_A wc H.size) a) (va_A wc H.size))
    (kk : ∀ (r : Int64) (u : S) (H1 : Heap) (locs1 : List Loc), post r u → va_P D vwCl (wr ++ w1 u) H1 → va_D A (wr ++ w1 u) → kw_F D A (wr ++ w1 u) T0 H1 → va_S A H0 H1 locs1 → W p l e R s m args below meth c H1 locs1 (cells + mc) (slots + ms) Q (F0 m (pc + 3) ls (.long r :: rest))) : W p l e R s m args below meth c H locs cells slots Q (F0 m pc ls st0) := by
  have hF := va_free (wc := wc) hD hS hA isC hx.2.1
  refine va_calll hr hS (fun q _ h => hF q h) hF (fun r u t H1 locs1 ht hvm hw hB hz1 hk1 hS1 => ?_)
  obtain ⟨hP1, hD1⟩ := hB
  rw [ht] at hP1
  obtain ⟨hP2, hD2⟩ := va_join (wr := wr) (w1 := w1 u) hP hD isC isR hx.2.1 hx.2.2.1 hx.2.2.2.2.1 hx.2.2.2.2.2 hk1 hF hP1 hD1
  exact kk r u H1 locs1 hw hP2 hD2 (kw_Fgo hx hT hk1 hD1) hS1
theorem kw_goF_v {T0 : va_W} {post : S → Prop} {isC isR : List Nat} {a : Array Value} (hx : kw_Split ws wc wr isC isR) (hP : va_P D vwCl ws H) (hD : va_D A ws) (hT : kw_F D A ws T0 H) (hS : va_S A H0 H locs) (hA : ∀ q, H0.size ≤ q → A q)
    (hr : va_Run p l e R s m args below meth c H locs cells slots mc ms (F0 m pc ls st0) rest (va_Qv post (kw_B D w1 (va_A wc H.size)) (va_A wc H.size) a) (va_A wc H.size))
    (kk : ∀ (u : S) (H1 : Heap) (locs1 : List Loc), post u → va_P D vwCl (wr ++ w1 u) H1 → va_D A (wr ++ w1 u) → kw_F D A (wr ++ w1 u) T0 H1 → va_S A H0 H1 locs1 → W p l e R s m args below meth c H1 locs1 (cells + mc) (slots + ms) Q (F0 m (pc + 3) ls rest)) : W p l e R s m args below meth c H locs cells slots Q (F0 m pc ls st0) := by
  have hF := va_free (wc := wc) hD hS hA isC hx.2.1
  refine va_callv hr hS (fun q _ h => hF q h) hF (fun u t H1 locs1 ht hvm hw hB hz1 hk1 hS1 => ?_)
  obtain ⟨hP1, hD1⟩ := hB
  rw [ht] at hP1
  obtain ⟨hP2, hD2⟩ := va_join (wr := wr) (w1 := w1 u) hP hD isC isR hx.2.1 hx.2.2.1 hx.2.2.2.2.1 hx.2.2.2.2.2 hk1 hF hP1 hD1
  exact kk u H1 locs1 hw hP2 hD2 (kw_Fgo hx hT hk1 hD1) hS1
end KCF
