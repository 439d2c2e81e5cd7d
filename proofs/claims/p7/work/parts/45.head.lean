/-! THE CLAIM OUT OF ONE WALK OF THE LAW'S BODY. Your part is whole_start (and what it stands on); all else here is the same for every law, but numbers. -/
def R_law : String := "GleanDuskLaw"
def lw_P (b : Addr) (xs : List Int32) (args : Array Value) (s : State) : Prop := args = #[.ref b] ∧ s.IntsAt b xs ∧ xs.length ≤ 384 ∧ (Jvm.Cond.and given_1 narrow_1).before args s = true
def lw_Q (_ : Array Value) (s : State) (o : Outcome) (t : State) : Prop := o = .returned (some (.int 1)) ∧ Framed s o t [] 600000 7302250
def lw_Z (below : List Frame) (a : Array Value) (s : State) : State → Prop := fun t => ∃ o, t.status = .running ∧ Ended t below o ∧ lw_Q a s o t
/-- the law's own end, with 1 on the stack, nothing written that was there before, its room as the claim has it -/
theorem lw_ret {p : Program} {l : Launch} {e : Env} {s : State} {m : MethodId} {below : List Frame} {meth : Method} {c : Code} {b : Nat} (hx : p.tables.exec = Jvm.exec) (hb : c.code = code) (hr : meth.sig.returnType = ret) (hlocks : meth.locks = false) {pc : Nat} {H : Heap} {ls : Array Slot} (hdg : decode code pc = .ok (.ireturn, 1)) : W p l e room_1 s m #[Value.ref b] below meth c H [] 600000 7302250 (lw_Z below #[Value.ref b] s) (F0 m pc ls [.int 1]) := by
  intro T hT X
  obtain ⟨fs, hret, hrun, hended, hW, hframe⟩ := X.leave (v := some (.int 1)) (hlocks := hlocks) (fun h => by rw [hr] at h; cases h)
  have hmeth' : T.vm.method? m = some meth := X.method'
  refine ⟨T.setFrames fs, ?_, .returned (some (.int 1)), hrun, hended, rfl, ⟨_, rfl⟩, hW, hframe⟩
  jvm_step X.here [X.here.top, hx, hb, hdg, hmeth', hr, ret, narrow_b1]
  (try refine ⟨rfl, ?_⟩); (try refine ⟨rfl, ?_⟩)
  first | (intro acts; rw [hret _ acts rfl rfl rfl]) | rw [hret _ _ rfl rfl rfl]
  exact Steps.refl _
/-- what holds at the law's entry: the machine, the code, the tables' words (any of lw_tbl by 'hts w (by decide +kernel)'), the script of L ints xs at the cell b, what the Statement gives of the start (any of its parts by flat_of_before) -/
def lw_At (p : Program) (s : State) (m : MethodId) (meth : Method) (c : Code) (b L : Nat) (xs : Nat → Int32) : Prop :=
  p.tables.exec = Jvm.exec ∧ c.code = code ∧ meth.sig.returnType = ret ∧ c.maxLocals = 4 ∧ s.vm.findClass R_law = some m.cls ∧ (∀ w ∈ lw_tbl, w.before #[Value.ref b] s = true) ∧ va_X b L xs s s.heap ∧ b < s.heap.size ∧ meth.locks = false ∧ (Jvm.Cond.and given_1 narrow_1).before #[Value.ref b] s = true

/-! the words of the text, at the law's start -/
def kzT (i : Nat) : Term := match i with
  | 0 => .string "GleanDusk$Text" 65
  | 1 => .string "GleanDusk$Text" 71
  | 2 => .string "GleanDusk$Text" 73
  | _ => .string "GleanDusk$Text" 75
theorem kz_m1 : ∀ i : Nat, i < 4 → Cond.exactly (kzT i) "java/lang/String" ∈ flatC (Jvm.Cond.and given_1 narrow_1) := by decide +kernel
theorem kz_m2 : ∀ i : Nat, i < 4 → Cond.eq (.field (kzT i) "java/lang/String" "coder" "B") (.int 0) ∈ flatC (Jvm.Cond.and given_1 narrow_1) := by decide +kernel
theorem kz_m3 : ∀ i : Nat, i < 4 → Cond.arrayOf (.field (kzT i) "java/lang/String" "value" "[B") .byte ∈ flatC (Jvm.Cond.and given_1 narrow_1) := by decide +kernel
theorem kz_m4 : ∀ i : Nat, i < 4 → Cond.eq (.length (.field (kzT i) "java/lang/String" "value" "[B")) (.int (Int32.ofNat (kzL.getD i 0))) ∈ flatC (Jvm.Cond.and given_1 narrow_1) := by decide +kernel
theorem kz_m5 : ∀ i : Nat, i < 4 → ∀ j : Nat, j < kzL.getD i 0 → Cond.eq (.elem (.field (kzT i) "java/lang/String" "value" "[B") (.int (Int32.ofNat j))) (.int ((kzB.getD i []).getD j 0)) ∈ flatC (Jvm.Cond.and given_1 narrow_1) := by decide +kernel
theorem kz_m6 : ∀ i : Nat, i < 4 → ∀ j : Nat, j < 4 → i ≠ j → (Cond.not (Cond.eq (kzT i) (kzT j)) ∈ flatC (Jvm.Cond.and given_1 narrow_1) ∨ Cond.not (Cond.eq (kzT j) (kzT i)) ∈ flatC (Jvm.Cond.and given_1 narrow_1)) := by decide +kernel
theorem kz_m7 : Cond.eq (.static "java/lang/String" "COMPACT_STRINGS" "Z") (.int 1) ∈ flatC (Jvm.Cond.and given_1 narrow_1) := by decide +kernel
theorem kz_m8 : Cond.isRef (.static "jdk/internal/util/Preconditions" "SIOOBE_FORMATTER" "Ljava/util/function/BiFunction;") ∈ flatC (Jvm.Cond.and given_1 narrow_1) := by decide +kernel

theorem kw_nest_in : ∀ w ∈ kw_Nest.map (fun q => Cond.methodLinkNest q.1 q.2.1 q.2.2 "GleanDusk"), w ∈ lw_tbl := kw_by _ [85, 92, 95, 99, 102, 106, 109, 113, 116, 120, 123, 133, 218, 266, 269, 364, 479, 565] (by decide +kernel)
theorem kw_cast_in : ∀ w ∈ ["GleanDusk$West", "GleanDusk$Wood", "GleanDusk$Puddle", "GleanDusk$Hill", "GleanDusk$Lane"].map (fun C => Cond.castable C "GleanDusk$Plain"), w ∈ lw_tbl := kw_by _ [1211, 1212, 1213, 1214, 1215] (by decide +kernel)
theorem kw_over_in : ∀ w ∈ [Cond.arrayOver (.object "GleanDusk$Dusk"), Cond.arrayOver (.object "GleanDusk$Parish"), Cond.arrayOver (.object "GleanDusk$Plain"), Cond.arrayOver (.array .int)], w ∈ lw_tbl := kw_by _ [169, 215, 83, 171] (by decide +kernel)
theorem kw_start {s : State} {args : Array Value} (hts : ∀ w ∈ lw_tbl, w.before args s = true) : ∃ (D : va_G) (y : Nat → ClassId), va_K D vwCl (kw_T y) s ∧ kw_N s := by
  obtain ⟨c0, i0, h0⟩ := u_known (C := RX0) (T := TX0) (N := 3) (n := 3) hts kw_wsX00 (hts (.instantiable RX0 3) (wsL_law_in _ (List.mem_of_getElem? (i := 47) rfl)))
  obtain ⟨c1, i1, h1⟩ := u_known (C := RX1) (T := TX1) (N := 6) (n := 6) hts kw_wsX10 (hts (.instantiable RX1 6) (wsL_law_in _ (List.mem_of_getElem? (i := 43) rfl)))
  obtain ⟨c2, i2, h2⟩ := u_known (C := RX2) (T := TX2) (N := 0) (n := 0) hts kw_wsX20 (hts (.instantiable RX2 0) (wsL_law_in _ (List.mem_of_getElem? (i := 25) rfl)))
  obtain ⟨c3, i3, h3⟩ := u_known (C := RX3) (T := TX3) (N := 0) (n := 0) hts kw_wsX30 (hts (.instantiable RX3 0) (wsL_law_in _ (List.mem_of_getElem? (i := 28) rfl)))
  obtain ⟨c4, i4, h4⟩ := u_known (C := RX4) (T := TX4) (N := 11) (n := 11) hts kw_wsX40 (hts (.instantiable RX4 11) (wsL_law_in _ (List.mem_of_getElem? (i := 32) rfl)))
  obtain ⟨c5, i5, h5⟩ := u_known (C := RX5) (T := TX5) (N := 0) (n := 0) hts kw_wsX50 (hts (.instantiable RX5 0) (wsL_law_in _ (List.mem_of_getElem? (i := 13) rfl)))
  obtain ⟨c6, i6, h6⟩ := u_known (C := RX6) (T := TX6) (N := 0) (n := 0) hts kw_wsX60 (hts (.instantiable RX6 0) (wsL_law_in _ (List.mem_of_getElem? (i := 22) rfl)))
  obtain ⟨c7, i7, h7⟩ := u_known (C := RX7) (T := TX7) (N := 12) (n := 12) hts kw_wsX70 (hts (.instantiable RX7 12) (wsL_law_in _ (List.mem_of_getElem? (i := 39) rfl)))
  obtain ⟨c8, i8, h8⟩ := u_known (C := RX8) (T := TX8) (N := 0) (n := 0) hts kw_wsX80 (hts (.instantiable RX8 0) (wsL_law_in _ (List.mem_of_getElem? (i := 16) rfl)))
  obtain ⟨c9, i9, h9⟩ := u_known (C := RX9) (T := TX9) (N := 0) (n := 0) hts kw_wsX90 (hts (.instantiable RX9 0) (wsL_law_in _ (List.mem_of_getElem? (i := 19) rfl)))
  obtain ⟨c10, i10, h10⟩ := u_known (C := RX10) (T := TX10) (N := 12) (n := 12) hts kw_wsX100 (hts (.instantiable RX10 12) (wsL_law_in _ (List.mem_of_getElem? (i := 1) rfl)))
  obtain ⟨c11, i11, h11⟩ := u_known (C := RX11) (T := TX11) (N := 18) (n := 18) hts kw_wsX110 (hts (.instantiable RX11 18) (wsL_law_in _ (List.mem_of_getElem? (i := 4) rfl)))
  obtain ⟨a0, ka0, co0, f0, g0, e0⟩ := Cond.arrayClass_spec (hts (.arrayClass .int) (wsL_law_in _ (List.mem_of_getElem? (i := 50) rfl)))
  obtain ⟨a1, ka1, co1, f1, g1, e1⟩ := Cond.arrayClass_spec (hts (.arrayClass .byte) (wsL_law_in _ (List.mem_of_getElem? (i := 90) rfl)))
  obtain ⟨a2, ka2, co2, f2, g2, e2⟩ := Cond.arrayClass_spec (hts (.arrayClass .boolean) (wsL_law_in _ (List.mem_of_getElem? (i := 36) rfl)))
  have o1 := hts (.arrayOver (.object "GleanDusk$Dusk")) (kw_over_in _ (by simp))
  have o2 := hts (.arrayOver (.object "GleanDusk$Parish")) (kw_over_in _ (by simp))
  have o3 := hts (.arrayOver (.object "GleanDusk$Plain")) (kw_over_in _ (by simp))
  have o4 := hts (.arrayOver (.array .int)) (kw_over_in _ (by simp))
  obtain ⟨co3, a3, ka3, d3, -, g3, e3, f3⟩ := Cond.arrayOver_spec o1
  obtain ⟨co4, a4, ka4, d4, -, g4, e4, f4⟩ := Cond.arrayOver_spec o2
  obtain ⟨co5, a5, ka5, d5, -, g5, e5, f5⟩ := Cond.arrayOver_spec o3
  obtain ⟨co6, a6, ka6, d6, g6, e6, f6⟩ := Cond.arrayOver_specA o4
  refine ⟨(fun k => match k with | 0 => c0 | 1 => c1 | 2 => c2 | 3 => c3 | 4 => c4 | 5 => c5 | 6 => c6 | 7 => c7 | 8 => c8 | 9 => c9 | 10 => c10 | _ => c11, fun k => match k with | 0 => i0 | 1 => i1 | 2 => i2 | 3 => i3 | 4 => i4 | 5 => i5 | 6 => i6 | 7 => i7 | 8 => i8 | 9 => i9 | 10 => i10 | _ => i11), fun k => match k with | 0 => a0 | 1 => a1 | 2 => a2 | 3 => a3 | 4 => a4 | 5 => a5 | _ => a6, ⟨?_, ?_⟩, ?_⟩
  · intro k q hq
    match k, hq with
    | 0, hq => cases hq; exact h0
    | 1, hq => cases hq; exact h1
    | 2, hq => cases hq; exact h2
    | 3, hq => cases hq; exact h3
    | 4, hq => cases hq; exact h4
    | 5, hq => cases hq; exact h5
    | 6, hq => cases hq; exact h6
    | 7, hq => cases hq; exact h7
    | 8, hq => cases hq; exact h8
    | 9, hq => cases hq; exact h9
    | 10, hq => cases hq; exact h10
    | 11, hq => cases hq; exact h11
    | k + 12, hq => simp [vwCl] at hq
  · intro k q hq
    match k, hq with
    | 0, hq => cases hq; exact ⟨fun n z => ⟨fun k h => (by cases h), ka0, g0, co0, e0⟩, f0⟩
    | 1, hq => cases hq; exact ⟨fun n z => ⟨fun k h => (by cases h), ka1, g1, co1, e1⟩, f1⟩
    | 2, hq => cases hq; exact ⟨fun n z => ⟨fun k h => (by cases h), ka2, g2, co2, e2⟩, f2⟩
    | 3, hq => cases hq; exact ⟨fun n z => ⟨fun k h => (by cases h), ka3, g3, co3, e3⟩, ka3, co3, g3, e3, d3, f3⟩
    | 4, hq => cases hq; exact ⟨fun n z => ⟨fun k h => (by cases h), ka4, g4, co4, e4⟩, ka4, co4, g4, e4, d4, f4⟩
    | 5, hq => cases hq; exact ⟨fun n z => ⟨fun k h => (by cases h), ka5, g5, co5, e5⟩, ka5, co5, g5, e5, d5, f5⟩
    | 6, hq => cases hq; exact ⟨fun n z => ⟨fun k h => (by cases h), ka6, g6, co6, e6⟩, f6⟩
    | k + 7, hq => simp [kw_T] at hq
  · exact ⟨fun q hq => va_Nw.of rfl (hts _ (kw_nest_in _ (List.mem_map_of_mem hq))), va_AO.of o1, va_AO.of o2, va_AO.of o3, o4, fun C hC => va_Nw.of rfl (hts _ (kw_cast_in _ (List.mem_map_of_mem hC)))⟩
theorem kz_tb : ∀ w ∈ [Cond.laysStatic "java/lang/String" "COMPACT_STRINGS" "Z", Cond.laysStatic "jdk/internal/util/Preconditions" "SIOOBE_FORMATTER" "Ljava/util/function/BiFunction;", Cond.initialized "java/lang/String", Cond.initialized "jdk/internal/util/Preconditions", Cond.stringRef "GleanDusk$Text" 65 "parish", Cond.stringRef "GleanDusk$Text" 71 "field", Cond.stringRef "GleanDusk$Text" 73 "gleaner", Cond.stringRef "GleanDusk$Text" 75 "glean"], w ∈ lw_tbl := kw_by _ [433, 449, 67, 69, 419, 472, 473, 474] (by decide +kernel)
theorem kz_start {s : State} {args : Array Value} {A : Nat → Prop} (hts : ∀ w ∈ lw_tbl, w.before args s = true) (hgv : (Jvm.Cond.and given_1 narrow_1).before args s = true) (hA : ∀ a : Nat, a < s.heap.size → ¬ A a) : ∃ aK aV : Nat → Nat, kz aK aV A s s.heap := by
  have hs := flat_of_before _ hgv
  have ht : ∀ (k : Nat) (w : Cond), [Cond.laysStatic "java/lang/String" "COMPACT_STRINGS" "Z", Cond.laysStatic "jdk/internal/util/Preconditions" "SIOOBE_FORMATTER" "Ljava/util/function/BiFunction;", Cond.initialized "java/lang/String", Cond.initialized "jdk/internal/util/Preconditions", Cond.stringRef "GleanDusk$Text" 65 "parish", Cond.stringRef "GleanDusk$Text" 71 "field", Cond.stringRef "GleanDusk$Text" 73 "gleaner", Cond.stringRef "GleanDusk$Text" 75 "glean"][k]? = some w → w.before args s = true := fun k w h => hts w (kz_tb w (List.mem_of_getElem? h))
  obtain ⟨aK, aV, h1, h2⟩ := vk_Sof (args := args) (s := s) (N := 4) (tm := kzT) (len := kzL) (byt := kzB) (A := A) (by decide) (fun i hi => hs _ (kz_m1 i hi)) (fun i hi => hs _ (kz_m2 i hi)) (fun i hi => hs _ (kz_m3 i hi)) (fun i hi => hs _ (kz_m4 i hi)) (fun i hi j hj => hs _ (kz_m5 i hi j hj)) (fun i j hi hj hn => (kz_m6 i hi j hj hn).imp (fun h => hs _ h) (fun h => hs _ h)) hA
  refine ⟨aK, aV, h1, va_Zof (ht 0 _ rfl) (ht 2 _ rfl) (va_eqt (hs _ kz_m7)) hA, va_Zqof (ht 1 _ rfl) (ht 3 _ rfl) (hs _ kz_m8) hA, vk_R.of (A := args) (ht 4 _ rfl) (h2 0 (by decide)), vk_R.of (A := args) (ht 5 _ rfl) (h2 1 (by decide)), vk_R.of (A := args) (ht 6 _ rfl) (h2 2 (by decide)), vk_R.of (A := args) (ht 7 _ rfl) (h2 3 (by decide))⟩
theorem kr_len6 {I L : Nat} (hL : L ≤ 384) (hI : I ≤ L) (h : ¬ Int32.ofNat L - 6 < nI I) : I + 6 ≤ L := by
  rw [Int32.lt_iff_toInt_lt] at h
  have e1 : (Int32.ofNat L - 6).toInt = (L : Int) - 6 := pk_sub_toInt (a := L) (b := 6) (by omega) (by omega)
  rw [e1, nI_toInt (by omega)] at h
  omega
