set_option maxHeartbeats 4000000 in
set_option maxRecDepth 100000 in
theorem gp_digest (l : Launch) (D : va_G) (y : Nat → ClassId) (g : Nat) (kk : Nat) (nw : Nat) (im : Nat) (kp : Nat) (tx : Nat) (tr : Nat) (be : Nat) (sh : Nat) (sd : Nat) (rf : Nat) (ab : Int32) (bl : Int32) (nk : Nat) (nd : Nat) (ne : Nat) (nm : Nat) (nn : Nat) (fi : Nat) (gl : Nat) (un : Nat) (mi : Nat) (no : Nat) (nd : Nat) (nl : Nat) (na : Nat) (ns : Nat) (nst : Int32) (ncl : Int32) (nnu : Int32) (nfl : Nat → Int32) (nfa : Nat → Int32) (nfs : Nat → Int32) (fk : Nat → Int32) (m0 : Nat) (m1 : Nat) (m2 : Nat) (m3 : Nat) (m0f : Nat → Int32) (m1f : Nat → Int32) (m2f : Nat → Int32) (m3f : Nat → Int32) (fm : Nat → Option Nat) (t0 : Nat) (t1 : Nat) (t2 : Nat) (t3 : Nat) (t4 : Nat) (t5 : Nat) (t0f : Nat → Int32) (t1f : Nat → Int32) (t2f : Nat → Int32) (t3f : Nat → Int32) (t4f : Nat → Int32) (t5f : Nat → Int32) (fn_ : Nat → Option Nat) (bys : Nat) (wo : Nat) (fs : Nat) (sc : Nat) (ln : Nat) (sta : Nat) (en : Nat) (tok : Int32) (num : Int32) (tfi : Int32) (tgl : Int32) (tst : Int32) (hfi : fi ≤ 6) (hgl : gl ≤ 5) (hun : un ≤ 8) (hmi : mi ≤ 4) (hno : no ≤ 6) (hk : kw_bd 6 6 fk) (hna : kw_bd 6 5 nfa) (hm0 : fm 0 = some m0) (hm1 : fm 1 = some m1) (hm2 : fm 2 = some m2) (hm3 : fm 3 = some m3) (hm0f : vp_in (m0f 0) 6) (hm1f : vp_in (m1f 0) 6) (hm2f : vp_in (m2f 0) 6) (hm3f : vp_in (m3f 0) 6) (hn0 : fn_ 0 = some t0) (hn1 : fn_ 1 = some t1) (hn2 : fn_ 2 = some t2) (hn3 : fn_ 3 = some t3) (hn4 : fn_ 4 = some t4) (hn5 : fn_ 5 = some t5) (hln : ln ≤ 150) (hTs : sta ≤ 150) (hTe : en ≤ 150) : kw_Ml l yX10_digest wsX10_digest ({ frames := 3, cells := 0, slots := 0, locals := 111 }) D y [.ref g] [(g, .inr (10, [.ref kk, .ref nw, .ref im, .ref kp, .ref tx, .ref tr, .ref be, .ref sh, .ref sd, .ref rf, .int ab, .int bl])), (nw, .inr (4, [.ref kk, .ref nk, .ref nd, .ref ne, .ref nm, .ref nn, .int (nI fi), .int (nI gl), .int (nI un), .int (nI mi), .int (nI no)])), (nk, .inl (y 0, 6, .inl fk)), (nd, .inr (1, [.ref nl, .ref na, .ref ns, .int nst, .int ncl, .int nnu])), (nl, .inl (y 0, 6, .inl nfl)), (na, .inl (y 0, 5, .inl nfa)), (ns, .inl (y 0, 5, .inl nfs)), (nm, .inl (y 6, 4, .inr (.inr (.inr (.inr fm))))), (m0, .inl (y 0, 4, .inl m0f)), (m1, .inl (y 0, 4, .inl m1f)), (m2, .inl (y 0, 4, .inl m2f)), (m3, .inl (y 0, 4, .inl m3f)), (nn, .inl (y 6, 6, .inr (.inr (.inr (.inr fn_))))), (t0, .inl (y 0, 5, .inl t0f)), (t1, .inl (y 0, 5, .inl t1f)), (t2, .inl (y 0, 5, .inl t2f)), (t3, .inl (y 0, 5, .inl t3f)), (t4, .inl (y 0, 5, .inl t4f)), (t5, .inl (y 0, 5, .inl t5f)), (tx, .inr (7, [.ref bys, .int (nI ln), .int tok, .int (nI sta), .int (nI en), .int num, .ref wo, .ref fs, .ref sc, .int tfi, .int tgl, .int tst]))] (fun (r : Int64) (u : Unit) => True) (fun _ => [(g, .inr (10, [.ref kk, .ref nw, .ref im, .ref kp, .ref tx, .ref tr, .ref be, .ref sh, .ref sd, .ref rf, .int ab, .int bl])), (nw, .inr (4, [.ref kk, .ref nk, .ref nd, .ref ne, .ref nm, .ref nn, .int (nI fi), .int (nI gl), .int (nI un), .int (nI mi), .int (nI no)])), (nk, .inl (y 0, 6, .inl fk)), (nd, .inr (1, [.ref nl, .ref na, .ref ns, .int nst, .int ncl, .int nnu])), (nl, .inl (y 0, 6, .inl nfl)), (na, .inl (y 0, 5, .inl nfa)), (ns, .inl (y 0, 5, .inl nfs)), (nm, .inl (y 6, 4, .inr (.inr (.inr (.inr fm))))), (m0, .inl (y 0, 4, .inl m0f)), (m1, .inl (y 0, 4, .inl m1f)), (m2, .inl (y 0, 4, .inl m2f)), (m3, .inl (y 0, 4, .inl m3f)), (nn, .inl (y 6, 6, .inr (.inr (.inr (.inr fn_))))), (t0, .inl (y 0, 5, .inl t0f)), (t1, .inl (y 0, 5, .inl t1f)), (t2, .inl (y 0, 5, .inl t2f)), (t3, .inl (y 0, 5, .inl t3f)), (t4, .inl (y 0, 5, .inl t4f)), (t5, .inl (y 0, 5, .inl t5f)), (tx, .inr (7, [.ref bys, .int (nI ln), .int tok, .int (nI sta), .int (nI en), .int num, .ref wo, .ref fs, .ref sc, .int tfi, .int tgl, .int tst]))]) 0 0 := by
  refine kw_Ml.of (cc := cX10_digest) (maxL := 4) (ret := (some .long)) (by decide) rfl ?_
  intro pZ eZ s mZ beZ meZ cZ A hE
  obtain ⟨hx, hb, hr, hml, hts, hown, hlocks, hin, hA, hP, hD, hK, hN⟩ := hE
  have hS : va_S A s.heap s.heap [] := va_S.rf
  have hl := lv_entry ([.ref g]) (n := 4) (Nat.le_of_ble_eq_true rfl)
  rw [lg_entry_eq]
  generalize (lg_sl ([.ref g]) ++ List.replicate (4 - (lg_sl ([.ref g])).length) Slot.unset).toArray = ls at hl ⊢
  have hl : lv_has ls 4 [(0, .ref g)] := hl
  have fw1 := hts (.constantLong RX10 286 (1451)) (List.mem_of_getElem? (i := 1) rfl)
  have fw2 := hts (.fieldLink RX10 36 "GleanDusk" "now" "LGleanDusk$Parish;") (List.mem_of_getElem? (i := 2) rfl)
  have fw3 := hts (.fieldLink RX10 94 "GleanDusk$Parish" "fields" "I") (List.mem_of_getElem? (i := 3) rfl)
  have fw4 := hts (.fieldLink RX10 115 "GleanDusk$Parish" "gleaners" "I") (List.mem_of_getElem? (i := 7) rfl)
  have fw5 := hts (.fieldLink RX10 240 "GleanDusk$Parish" "missedCount" "I") (List.mem_of_getElem? (i := 10) rfl)
  have fw6 := hts (.fieldLink RX10 250 "GleanDusk$Parish" "noteCount" "I") (List.mem_of_getElem? (i := 12) rfl)
  have fw7 := hts (.fieldLink RX10 79 "GleanDusk" "above" "I") (List.mem_of_getElem? (i := 14) rfl)
  have fw8 := hts (.fieldLink RX10 83 "GleanDusk" "below" "I") (List.mem_of_getElem? (i := 15) rfl)
  have fw9 := hts (.fieldLink RX10 300 "GleanDusk$Parish" "notes" "[[I") (List.mem_of_getElem? (i := 13) rfl)
  have fw10 := hts (.fieldLink RX10 292 "GleanDusk$Parish" "missed" "[[I") (List.mem_of_getElem? (i := 11) rfl)
  have fw11 := hts (.fieldLink RX10 140 "GleanDusk$Parish" "dusk" "LGleanDusk$Dusk;") (List.mem_of_getElem? (i := 5) rfl)
  have fw12 := hts (.fieldLink RX10 170 "GleanDusk$Dusk" "at" "[I") (List.mem_of_getElem? (i := 8) rfl)
  have fw13 := hts (.fieldLink RX10 191 "GleanDusk$Dusk" "store" "[I") (List.mem_of_getElem? (i := 9) rfl)
  have fw14 := hts (.fieldLink RX10 182 "GleanDusk$Parish" "kind" "[I") (List.mem_of_getElem? (i := 4) rfl)
  have fw15 := hts (.fieldLink RX10 185 "GleanDusk$Dusk" "light" "[I") (List.mem_of_getElem? (i := 6) rfl)
  have iw10 : ∀ w ∈ wsX100, w ∈ wsX10_digest := fun _ h => List.mem_cons_of_mem _ (List.mem_append_left _ (List.mem_append_left _ (List.mem_append_left _ (List.mem_append_right _ h))))
  have iw4 : ∀ w ∈ wsX40, w ∈ wsX10_digest := fun _ h => List.mem_cons_of_mem _ (List.mem_append_left _ (List.mem_append_left _ (List.mem_append_right _ h)))
  have iw1 : ∀ w ∈ wsX10, w ∈ wsX10_digest := fun _ h => List.mem_cons_of_mem _ (List.mem_append_left _ (List.mem_append_right _ h))
  refine lv_ldc2 (v := 1451) hx hb hown fw1 dX10_digest_0 ?_
  refine lv_lstore_n (lv' := [(1, .long 1451), (0, .ref g)]) hx hb dX10_digest_3 rfl hl (by decide) rfl (fun ls hl => ?_)
  refine lv_iconst (v := 0) hx hb dX10_digest_4 (by decide) ?_
  refine lv_istore_n (lv' := [(3, .int 0), (1, .long 1451), (0, .ref g)]) hx hb dX10_digest_5 rfl hl (by decide) rfl (fun ls hl => ?_)
  have lp5410 : ∀ (fuj91 j91 : Nat) (x2705 : Int64) (H : Heap) (locs : List Loc) (ls : Array Slot), j91 ≤ 9 → 9 - j91 < fuj91 → va_P D vwCl [(g, .inr (10, [.ref kk, .ref nw, .ref im, .ref kp, .ref tx, .ref tr, .ref be, .ref sh, .ref sd, .ref rf, .int ab, .int bl])), (nw, .inr (4, [.ref kk, .ref nk, .ref nd, .ref ne, .ref nm, .ref nn, .int (nI fi), .int (nI gl), .int (nI un), .int (nI mi), .int (nI no)])), (nk, .inl (y 0, 6, .inl fk)), (nd, .inr (1, [.ref nl, .ref na, .ref ns, .int nst, .int ncl, .int nnu])), (nl, .inl (y 0, 6, .inl nfl)), (na, .inl (y 0, 5, .inl nfa)), (ns, .inl (y 0, 5, .inl nfs)), (nm, .inl (y 6, 4, .inr (.inr (.inr (.inr fm))))), (m0, .inl (y 0, 4, .inl m0f)), (m1, .inl (y 0, 4, .inl m1f)), (m2, .inl (y 0, 4, .inl m2f)), (m3, .inl (y 0, 4, .inl m3f)), (nn, .inl (y 6, 6, .inr (.inr (.inr (.inr fn_))))), (t0, .inl (y 0, 5, .inl t0f)), (t1, .inl (y 0, 5, .inl t1f)), (t2, .inl (y 0, 5, .inl t2f)), (t3, .inl (y 0, 5, .inl t3f)), (t4, .inl (y 0, 5, .inl t4f)), (t5, .inl (y 0, 5, .inl t5f)), (tx, .inr (7, [.ref bys, .int (nI ln), .int tok, .int (nI sta), .int (nI en), .int num, .ref wo, .ref fs, .ref sc, .int tfi, .int tgl, .int tst]))] H → va_D A [(g, .inr (10, [.ref kk, .ref nw, .ref im, .ref kp, .ref tx, .ref tr, .ref be, .ref sh, .ref sd, .ref rf, .int ab, .int bl])), (nw, .inr (4, [.ref kk, .ref nk, .ref nd, .ref ne, .ref nm, .ref nn, .int (nI fi), .int (nI gl), .int (nI un), .int (nI mi), .int (nI no)])), (nk, .inl (y 0, 6, .inl fk)), (nd, .inr (1, [.ref nl, .ref na, .ref ns, .int nst, .int ncl, .int nnu])), (nl, .inl (y 0, 6, .inl nfl)), (na, .inl (y 0, 5, .inl nfa)), (ns, .inl (y 0, 5, .inl nfs)), (nm, .inl (y 6, 4, .inr (.inr (.inr (.inr fm))))), (m0, .inl (y 0, 4, .inl m0f)), (m1, .inl (y 0, 4, .inl m1f)), (m2, .inl (y 0, 4, .inl m2f)), (m3, .inl (y 0, 4, .inl m3f)), (nn, .inl (y 6, 6, .inr (.inr (.inr (.inr fn_))))), (t0, .inl (y 0, 5, .inl t0f)), (t1, .inl (y 0, 5, .inl t1f)), (t2, .inl (y 0, 5, .inl t2f)), (t3, .inl (y 0, 5, .inl t3f)), (t4, .inl (y 0, 5, .inl t4f)), (t5, .inl (y 0, 5, .inl t5f)), (tx, .inr (7, [.ref bys, .int (nI ln), .int tok, .int (nI sta), .int (nI en), .int num, .ref wo, .ref fs, .ref sc, .int tfi, .int tgl, .int tst]))] → va_S A s.heap H locs → lv_has ls 4 [(3, .int (nI j91)), (1, .long x2705), (0, .ref g)] → W pZ l eZ ({ frames := 3, cells := 0, slots := 0, locals := 111 }) s mZ [.ref g].toArray beZ meZ cZ H locs 0 0 (MQ beZ (va_Ql (fun (r : Int64) (u : Unit) => True) (kw_B D (fun _ => [(g, .inr (10, [.ref kk, .ref nw, .ref im, .ref kp, .ref tx, .ref tr, .ref be, .ref sh, .ref sd, .ref rf, .int ab, .int bl])), (nw, .inr (4, [.ref kk, .ref nk, .ref nd, .ref ne, .ref nm, .ref nn, .int (nI fi), .int (nI gl), .int (nI un), .int (nI mi), .int (nI no)])), (nk, .inl (y 0, 6, .inl fk)), (nd, .inr (1, [.ref nl, .ref na, .ref ns, .int nst, .int ncl, .int nnu])), (nl, .inl (y 0, 6, .inl nfl)), (na, .inl (y 0, 5, .inl nfa)), (ns, .inl (y 0, 5, .inl nfs)), (nm, .inl (y 6, 4, .inr (.inr (.inr (.inr fm))))), (m0, .inl (y 0, 4, .inl m0f)), (m1, .inl (y 0, 4, .inl m1f)), (m2, .inl (y 0, 4, .inl m2f)), (m3, .inl (y 0, 4, .inl m3f)), (nn, .inl (y 6, 6, .inr (.inr (.inr (.inr fn_))))), (t0, .inl (y 0, 5, .inl t0f)), (t1, .inl (y 0, 5, .inl t1f)), (t2, .inl (y 0, 5, .inl t2f)), (t3, .inl (y 0, 5, .inl t3f)), (t4, .inl (y 0, 5, .inl t4f)), (t5, .inl (y 0, 5, .inl t5f)), (tx, .inr (7, [.ref bys, .int (nI ln), .int tok, .int (nI sta), .int (nI en), .int num, .ref wo, .ref fs, .ref sc, .int tfi, .int tgl, .int tst]))]) A) A) [.ref g].toArray s 0 0 A) (F0 mZ 6 ls []) := by
    intro fuj91
    induction fuj91 with
    | zero => intro j91 x2705 H locs ls hj9 hf9; exact absurd hf9 (Nat.not_lt_zero _)
    | succ fuj91 ihj91 =>
      intro j91 x2705 H locs ls hj91 hfj91  hP hD hS hl
      refine lv_iload_n hx hb dX10_digest_6 rfl (lv_at hl 0 rfl) ?_
      refine lv_bipush (v := 9) hx hb dX10_digest_7 (by decide) ?_
      refine lv_icmp_ge (tgt := 29) hx hb dX10_digest_9 (by decide) (fun h5411 => ?_) (fun h5412 => ?_)
      · skip
        have h5411 : 9 ≤ j91 := (nI_leI (a := 9) (b := j91) (by omega) (by omega)).mp h5411
        refine lv_iconst (v := 0) hx hb dX10_digest_29 (by decide) ?_
        refine lv_istore_n (lv' := [(3, .int 0), (1, .long x2705), (0, .ref g)]) hx hb dX10_digest_30 rfl hl (by decide) rfl (fun ls hl => ?_)
        have lp7210 : ∀ (fuj92 j92 : Nat) (x6311 : Int64) (H : Heap) (locs : List Loc) (ls : Array Slot), j92 ≤ fi → fi - j92 < fuj92 → va_P D vwCl [(g, .inr (10, [.ref kk, .ref nw, .ref im, .ref kp, .ref tx, .ref tr, .ref be, .ref sh, .ref sd, .ref rf, .int ab, .int bl])), (nw, .inr (4, [.ref kk, .ref nk, .ref nd, .ref ne, .ref nm, .ref nn, .int (nI fi), .int (nI gl), .int (nI un), .int (nI mi), .int (nI no)])), (nk, .inl (y 0, 6, .inl fk)), (nd, .inr (1, [.ref nl, .ref na, .ref ns, .int nst, .int ncl, .int nnu])), (nl, .inl (y 0, 6, .inl nfl)), (na, .inl (y 0, 5, .inl nfa)), (ns, .inl (y 0, 5, .inl nfs)), (nm, .inl (y 6, 4, .inr (.inr (.inr (.inr fm))))), (m0, .inl (y 0, 4, .inl m0f)), (m1, .inl (y 0, 4, .inl m1f)), (m2, .inl (y 0, 4, .inl m2f)), (m3, .inl (y 0, 4, .inl m3f)), (nn, .inl (y 6, 6, .inr (.inr (.inr (.inr fn_))))), (t0, .inl (y 0, 5, .inl t0f)), (t1, .inl (y 0, 5, .inl t1f)), (t2, .inl (y 0, 5, .inl t2f)), (t3, .inl (y 0, 5, .inl t3f)), (t4, .inl (y 0, 5, .inl t4f)), (t5, .inl (y 0, 5, .inl t5f)), (tx, .inr (7, [.ref bys, .int (nI ln), .int tok, .int (nI sta), .int (nI en), .int num, .ref wo, .ref fs, .ref sc, .int tfi, .int tgl, .int tst]))] H → va_D A [(g, .inr (10, [.ref kk, .ref nw, .ref im, .ref kp, .ref tx, .ref tr, .ref be, .ref sh, .ref sd, .ref rf, .int ab, .int bl])), (nw, .inr (4, [.ref kk, .ref nk, .ref nd, .ref ne, .ref nm, .ref nn, .int (nI fi), .int (nI gl), .int (nI un), .int (nI mi), .int (nI no)])), (nk, .inl (y 0, 6, .inl fk)), (nd, .inr (1, [.ref nl, .ref na, .ref ns, .int nst, .int ncl, .int nnu])), (nl, .inl (y 0, 6, .inl nfl)), (na, .inl (y 0, 5, .inl nfa)), (ns, .inl (y 0, 5, .inl nfs)), (nm, .inl (y 6, 4, .inr (.inr (.inr (.inr fm))))), (m0, .inl (y 0, 4, .inl m0f)), (m1, .inl (y 0, 4, .inl m1f)), (m2, .inl (y 0, 4, .inl m2f)), (m3, .inl (y 0, 4, .inl m3f)), (nn, .inl (y 6, 6, .inr (.inr (.inr (.inr fn_))))), (t0, .inl (y 0, 5, .inl t0f)), (t1, .inl (y 0, 5, .inl t1f)), (t2, .inl (y 0, 5, .inl t2f)), (t3, .inl (y 0, 5, .inl t3f)), (t4, .inl (y 0, 5, .inl t4f)), (t5, .inl (y 0, 5, .inl t5f)), (tx, .inr (7, [.ref bys, .int (nI ln), .int tok, .int (nI sta), .int (nI en), .int num, .ref wo, .ref fs, .ref sc, .int tfi, .int tgl, .int tst]))] → va_S A s.heap H locs → lv_has ls 4 [(3, .int (nI j92)), (1, .long x6311), (0, .ref g)] → W pZ l eZ ({ frames := 3, cells := 0, slots := 0, locals := 111 }) s mZ [.ref g].toArray beZ meZ cZ H locs 0 0 (MQ beZ (va_Ql (fun (r : Int64) (u : Unit) => True) (kw_B D (fun _ => [(g, .inr (10, [.ref kk, .ref nw, .ref im, .ref kp, .ref tx, .ref tr, .ref be, .ref sh, .ref sd, .ref rf, .int ab, .int bl])), (nw, .inr (4, [.ref kk, .ref nk, .ref nd, .ref ne, .ref nm, .ref nn, .int (nI fi), .int (nI gl), .int (nI un), .int (nI mi), .int (nI no)])), (nk, .inl (y 0, 6, .inl fk)), (nd, .inr (1, [.ref nl, .ref na, .ref ns, .int nst, .int ncl, .int nnu])), (nl, .inl (y 0, 6, .inl nfl)), (na, .inl (y 0, 5, .inl nfa)), (ns, .inl (y 0, 5, .inl nfs)), (nm, .inl (y 6, 4, .inr (.inr (.inr (.inr fm))))), (m0, .inl (y 0, 4, .inl m0f)), (m1, .inl (y 0, 4, .inl m1f)), (m2, .inl (y 0, 4, .inl m2f)), (m3, .inl (y 0, 4, .inl m3f)), (nn, .inl (y 6, 6, .inr (.inr (.inr (.inr fn_))))), (t0, .inl (y 0, 5, .inl t0f)), (t1, .inl (y 0, 5, .inl t1f)), (t2, .inl (y 0, 5, .inl t2f)), (t3, .inl (y 0, 5, .inl t3f)), (t4, .inl (y 0, 5, .inl t4f)), (t5, .inl (y 0, 5, .inl t5f)), (tx, .inr (7, [.ref bys, .int (nI ln), .int tok, .int (nI sta), .int (nI en), .int num, .ref wo, .ref fs, .ref sc, .int tfi, .int tgl, .int tst]))]) A) A) [.ref g].toArray s 0 0 A) (F0 mZ 31 ls []) := by
          intro fuj92
          induction fuj92 with
          | zero => intro j92 x6311 H locs ls hj9 hf9; exact absurd hf9 (Nat.not_lt_zero _)
          | succ fuj92 ihj92 =>
            intro j92 x6311 H locs ls hj92 hfj92  hP hD hS hl
            refine lv_iload_n hx hb dX10_digest_31 rfl (lv_at hl 0 rfl) ?_
            refine lv_aload_n hx hb dX10_digest_32 rfl (lv_at hl 2 rfl) ?_
            refine va_get (D := D) (ci := 10) (v := .ref nw) (C := RX10) (T := TX10) (N := 12) hx hb hts iw10 hown hK hP 0 rfl rfl 1 (by decide) fw2 (fun _ h9 => h9) rfl dX10_digest_33 ?_
            refine va_get (D := D) (ci := 4) (v := .int (nI fi)) (C := RX4) (T := TX4) (N := 11) hx hb hts iw4 hown hK hP 1 rfl rfl 6 (by decide) fw3 (fun _ h9 => h9) rfl dX10_digest_36 ?_
            refine lv_icmp_ge (tgt := 79) hx hb dX10_digest_39 (by decide) (fun h7211 => ?_) (fun h7212 => ?_)
            · skip
              have h7211 : fi ≤ j92 := (nI_leI (a := fi) (b := j92) (by omega) (by omega)).mp h7211
              refine lv_iconst (v := 0) hx hb dX10_digest_79 (by decide) ?_
              refine lv_istore_n (lv' := [(3, .int 0), (1, .long x6311), (0, .ref g)]) hx hb dX10_digest_80 rfl hl (by decide) rfl (fun ls hl => ?_)
              have lp7804 : ∀ (fuj93 j93 : Nat) (x7508 : Int64) (H : Heap) (locs : List Loc) (ls : Array Slot), j93 ≤ gl → gl - j93 < fuj93 → va_P D vwCl [(g, .inr (10, [.ref kk, .ref nw, .ref im, .ref kp, .ref tx, .ref tr, .ref be, .ref sh, .ref sd, .ref rf, .int ab, .int bl])), (nw, .inr (4, [.ref kk, .ref nk, .ref nd, .ref ne, .ref nm, .ref nn, .int (nI fi), .int (nI gl), .int (nI un), .int (nI mi), .int (nI no)])), (nk, .inl (y 0, 6, .inl fk)), (nd, .inr (1, [.ref nl, .ref na, .ref ns, .int nst, .int ncl, .int nnu])), (nl, .inl (y 0, 6, .inl nfl)), (na, .inl (y 0, 5, .inl nfa)), (ns, .inl (y 0, 5, .inl nfs)), (nm, .inl (y 6, 4, .inr (.inr (.inr (.inr fm))))), (m0, .inl (y 0, 4, .inl m0f)), (m1, .inl (y 0, 4, .inl m1f)), (m2, .inl (y 0, 4, .inl m2f)), (m3, .inl (y 0, 4, .inl m3f)), (nn, .inl (y 6, 6, .inr (.inr (.inr (.inr fn_))))), (t0, .inl (y 0, 5, .inl t0f)), (t1, .inl (y 0, 5, .inl t1f)), (t2, .inl (y 0, 5, .inl t2f)), (t3, .inl (y 0, 5, .inl t3f)), (t4, .inl (y 0, 5, .inl t4f)), (t5, .inl (y 0, 5, .inl t5f)), (tx, .inr (7, [.ref bys, .int (nI ln), .int tok, .int (nI sta), .int (nI en), .int num, .ref wo, .ref fs, .ref sc, .int tfi, .int tgl, .int tst]))] H → va_D A [(g, .inr (10, [.ref kk, .ref nw, .ref im, .ref kp, .ref tx, .ref tr, .ref be, .ref sh, .ref sd, .ref rf, .int ab, .int bl])), (nw, .inr (4, [.ref kk, .ref nk, .ref nd, .ref ne, .ref nm, .ref nn, .int (nI fi), .int (nI gl), .int (nI un), .int (nI mi), .int (nI no)])), (nk, .inl (y 0, 6, .inl fk)), (nd, .inr (1, [.ref nl, .ref na, .ref ns, .int nst, .int ncl, .int nnu])), (nl, .inl (y 0, 6, .inl nfl)), (na, .inl (y 0, 5, .inl nfa)), (ns, .inl (y 0, 5, .inl nfs)), (nm, .inl (y 6, 4, .inr (.inr (.inr (.inr fm))))), (m0, .inl (y 0, 4, .inl m0f)), (m1, .inl (y 0, 4, .inl m1f)), (m2, .inl (y 0, 4, .inl m2f)), (m3, .inl (y 0, 4, .inl m3f)), (nn, .inl (y 6, 6, .inr (.inr (.inr (.inr fn_))))), (t0, .inl (y 0, 5, .inl t0f)), (t1, .inl (y 0, 5, .inl t1f)), (t2, .inl (y 0, 5, .inl t2f)), (t3, .inl (y 0, 5, .inl t3f)), (t4, .inl (y 0, 5, .inl t4f)), (t5, .inl (y 0, 5, .inl t5f)), (tx, .inr (7, [.ref bys, .int (nI ln), .int tok, .int (nI sta), .int (nI en), .int num, .ref wo, .ref fs, .ref sc, .int tfi, .int tgl, .int tst]))] → va_S A s.heap H locs → lv_has ls 4 [(3, .int (nI j93)), (1, .long x7508), (0, .ref g)] → W pZ l eZ ({ frames := 3, cells := 0, slots := 0, locals := 111 }) s mZ [.ref g].toArray beZ meZ cZ H locs 0 0 (MQ beZ (va_Ql (fun (r : Int64) (u : Unit) => True) (kw_B D (fun _ => [(g, .inr (10, [.ref kk, .ref nw, .ref im, .ref kp, .ref tx, .ref tr, .ref be, .ref sh, .ref sd, .ref rf, .int ab, .int bl])), (nw, .inr (4, [.ref kk, .ref nk, .ref nd, .ref ne, .ref nm, .ref nn, .int (nI fi), .int (nI gl), .int (nI un), .int (nI mi), .int (nI no)])), (nk, .inl (y 0, 6, .inl fk)), (nd, .inr (1, [.ref nl, .ref na, .ref ns, .int nst, .int ncl, .int nnu])), (nl, .inl (y 0, 6, .inl nfl)), (na, .inl (y 0, 5, .inl nfa)), (ns, .inl (y 0, 5, .inl nfs)), (nm, .inl (y 6, 4, .inr (.inr (.inr (.inr fm))))), (m0, .inl (y 0, 4, .inl m0f)), (m1, .inl (y 0, 4, .inl m1f)), (m2, .inl (y 0, 4, .inl m2f)), (m3, .inl (y 0, 4, .inl m3f)), (nn, .inl (y 6, 6, .inr (.inr (.inr (.inr fn_))))), (t0, .inl (y 0, 5, .inl t0f)), (t1, .inl (y 0, 5, .inl t1f)), (t2, .inl (y 0, 5, .inl t2f)), (t3, .inl (y 0, 5, .inl t3f)), (t4, .inl (y 0, 5, .inl t4f)), (t5, .inl (y 0, 5, .inl t5f)), (tx, .inr (7, [.ref bys, .int (nI ln), .int tok, .int (nI sta), .int (nI en), .int num, .ref wo, .ref fs, .ref sc, .int tfi, .int tgl, .int tst]))]) A) A) [.ref g].toArray s 0 0 A) (F0 mZ 81 ls []) := by
                intro fuj93
                induction fuj93 with
                | zero => intro j93 x7508 H locs ls hj9 hf9; exact absurd hf9 (Nat.not_lt_zero _)
                | succ fuj93 ihj93 =>
                  intro j93 x7508 H locs ls hj93 hfj93  hP hD hS hl
                  refine lv_iload_n hx hb dX10_digest_81 rfl (lv_at hl 0 rfl) ?_
                  refine lv_aload_n hx hb dX10_digest_82 rfl (lv_at hl 2 rfl) ?_
                  refine va_get (D := D) (ci := 10) (v := .ref nw) (C := RX10) (T := TX10) (N := 12) hx hb hts iw10 hown hK hP 0 rfl rfl 1 (by decide) fw2 (fun _ h9 => h9) rfl dX10_digest_83 ?_
                  refine va_get (D := D) (ci := 4) (v := .int (nI gl)) (C := RX4) (T := TX4) (N := 11) hx hb hts iw4 hown hK hP 1 rfl rfl 7 (by decide) fw4 (fun _ h9 => h9) rfl dX10_digest_86 ?_
                  refine lv_icmp_ge (tgt := 132) hx hb dX10_digest_89 (by decide) (fun h7805 => ?_) (fun h7806 => ?_)
                  · skip
                    have h7805 : gl ≤ j93 := (nI_leI (a := gl) (b := j93) (by omega) (by omega)).mp h7805
                    refine lv_iconst (v := 0) hx hb dX10_digest_132 (by decide) ?_
                    refine lv_istore_n (lv' := [(3, .int 0), (1, .long x7508), (0, .ref g)]) hx hb dX10_digest_133 rfl hl (by decide) rfl (fun ls hl => ?_)
                    have lp7996 : ∀ (fuj94 j94 : Nat) (x7901 : Int64) (H : Heap) (locs : List Loc) (ls : Array Slot), j94 ≤ mi → mi - j94 < fuj94 → va_P D vwCl [(g, .inr (10, [.ref kk, .ref nw, .ref im, .ref kp, .ref tx, .ref tr, .ref be, .ref sh, .ref sd, .ref rf, .int ab, .int bl])), (nw, .inr (4, [.ref kk, .ref nk, .ref nd, .ref ne, .ref nm, .ref nn, .int (nI fi), .int (nI gl), .int (nI un), .int (nI mi), .int (nI no)])), (nk, .inl (y 0, 6, .inl fk)), (nd, .inr (1, [.ref nl, .ref na, .ref ns, .int nst, .int ncl, .int nnu])), (nl, .inl (y 0, 6, .inl nfl)), (na, .inl (y 0, 5, .inl nfa)), (ns, .inl (y 0, 5, .inl nfs)), (nm, .inl (y 6, 4, .inr (.inr (.inr (.inr fm))))), (m0, .inl (y 0, 4, .inl m0f)), (m1, .inl (y 0, 4, .inl m1f)), (m2, .inl (y 0, 4, .inl m2f)), (m3, .inl (y 0, 4, .inl m3f)), (nn, .inl (y 6, 6, .inr (.inr (.inr (.inr fn_))))), (t0, .inl (y 0, 5, .inl t0f)), (t1, .inl (y 0, 5, .inl t1f)), (t2, .inl (y 0, 5, .inl t2f)), (t3, .inl (y 0, 5, .inl t3f)), (t4, .inl (y 0, 5, .inl t4f)), (t5, .inl (y 0, 5, .inl t5f)), (tx, .inr (7, [.ref bys, .int (nI ln), .int tok, .int (nI sta), .int (nI en), .int num, .ref wo, .ref fs, .ref sc, .int tfi, .int tgl, .int tst]))] H → va_D A [(g, .inr (10, [.ref kk, .ref nw, .ref im, .ref kp, .ref tx, .ref tr, .ref be, .ref sh, .ref sd, .ref rf, .int ab, .int bl])), (nw, .inr (4, [.ref kk, .ref nk, .ref nd, .ref ne, .ref nm, .ref nn, .int (nI fi), .int (nI gl), .int (nI un), .int (nI mi), .int (nI no)])), (nk, .inl (y 0, 6, .inl fk)), (nd, .inr (1, [.ref nl, .ref na, .ref ns, .int nst, .int ncl, .int nnu])), (nl, .inl (y 0, 6, .inl nfl)), (na, .inl (y 0, 5, .inl nfa)), (ns, .inl (y 0, 5, .inl nfs)), (nm, .inl (y 6, 4, .inr (.inr (.inr (.inr fm))))), (m0, .inl (y 0, 4, .inl m0f)), (m1, .inl (y 0, 4, .inl m1f)), (m2, .inl (y 0, 4, .inl m2f)), (m3, .inl (y 0, 4, .inl m3f)), (nn, .inl (y 6, 6, .inr (.inr (.inr (.inr fn_))))), (t0, .inl (y 0, 5, .inl t0f)), (t1, .inl (y 0, 5, .inl t1f)), (t2, .inl (y 0, 5, .inl t2f)), (t3, .inl (y 0, 5, .inl t3f)), (t4, .inl (y 0, 5, .inl t4f)), (t5, .inl (y 0, 5, .inl t5f)), (tx, .inr (7, [.ref bys, .int (nI ln), .int tok, .int (nI sta), .int (nI en), .int num, .ref wo, .ref fs, .ref sc, .int tfi, .int tgl, .int tst]))] → va_S A s.heap H locs → lv_has ls 4 [(3, .int (nI j94)), (1, .long x7901), (0, .ref g)] → W pZ l eZ ({ frames := 3, cells := 0, slots := 0, locals := 111 }) s mZ [.ref g].toArray beZ meZ cZ H locs 0 0 (MQ beZ (va_Ql (fun (r : Int64) (u : Unit) => True) (kw_B D (fun _ => [(g, .inr (10, [.ref kk, .ref nw, .ref im, .ref kp, .ref tx, .ref tr, .ref be, .ref sh, .ref sd, .ref rf, .int ab, .int bl])), (nw, .inr (4, [.ref kk, .ref nk, .ref nd, .ref ne, .ref nm, .ref nn, .int (nI fi), .int (nI gl), .int (nI un), .int (nI mi), .int (nI no)])), (nk, .inl (y 0, 6, .inl fk)), (nd, .inr (1, [.ref nl, .ref na, .ref ns, .int nst, .int ncl, .int nnu])), (nl, .inl (y 0, 6, .inl nfl)), (na, .inl (y 0, 5, .inl nfa)), (ns, .inl (y 0, 5, .inl nfs)), (nm, .inl (y 6, 4, .inr (.inr (.inr (.inr fm))))), (m0, .inl (y 0, 4, .inl m0f)), (m1, .inl (y 0, 4, .inl m1f)), (m2, .inl (y 0, 4, .inl m2f)), (m3, .inl (y 0, 4, .inl m3f)), (nn, .inl (y 6, 6, .inr (.inr (.inr (.inr fn_))))), (t0, .inl (y 0, 5, .inl t0f)), (t1, .inl (y 0, 5, .inl t1f)), (t2, .inl (y 0, 5, .inl t2f)), (t3, .inl (y 0, 5, .inl t3f)), (t4, .inl (y 0, 5, .inl t4f)), (t5, .inl (y 0, 5, .inl t5f)), (tx, .inr (7, [.ref bys, .int (nI ln), .int tok, .int (nI sta), .int (nI en), .int num, .ref wo, .ref fs, .ref sc, .int tfi, .int tgl, .int tst]))]) A) A) [.ref g].toArray s 0 0 A) (F0 mZ 134 ls []) := by
                      intro fuj94
                      induction fuj94 with
                      | zero => intro j94 x7901 H locs ls hj9 hf9; exact absurd hf9 (Nat.not_lt_zero _)
                      | succ fuj94 ihj94 =>
                        intro j94 x7901 H locs ls hj94 hfj94  hP hD hS hl
                        refine lv_iload_n hx hb dX10_digest_134 rfl (lv_at hl 0 rfl) ?_
                        refine lv_aload_n hx hb dX10_digest_135 rfl (lv_at hl 2 rfl) ?_
                        refine va_get (D := D) (ci := 10) (v := .ref nw) (C := RX10) (T := TX10) (N := 12) hx hb hts iw10 hown hK hP 0 rfl rfl 1 (by decide) fw2 (fun _ h9 => h9) rfl dX10_digest_136 ?_
                        refine va_get (D := D) (ci := 4) (v := .int (nI mi)) (C := RX4) (T := TX4) (N := 11) hx hb hts iw4 hown hK hP 1 rfl rfl 9 (by decide) fw5 (fun _ h9 => h9) rfl dX10_digest_139 ?_
                        refine lv_icmp_ge (tgt := 165) hx hb dX10_digest_142 (by decide) (fun h7997 => ?_) (fun h7998 => ?_)
                        · skip
                          have h7997 : mi ≤ j94 := (nI_leI (a := mi) (b := j94) (by omega) (by omega)).mp h7997
                          refine lv_iconst (v := 0) hx hb dX10_digest_165 (by decide) ?_
                          refine lv_istore_n (lv' := [(3, .int 0), (1, .long x7901), (0, .ref g)]) hx hb dX10_digest_166 rfl hl (by decide) rfl (fun ls hl => ?_)
                          have lp8052 : ∀ (fuj95 j95 : Nat) (x8025 : Int64) (H : Heap) (locs : List Loc) (ls : Array Slot), j95 ≤ no → no - j95 < fuj95 → va_P D vwCl [(g, .inr (10, [.ref kk, .ref nw, .ref im, .ref kp, .ref tx, .ref tr, .ref be, .ref sh, .ref sd, .ref rf, .int ab, .int bl])), (nw, .inr (4, [.ref kk, .ref nk, .ref nd, .ref ne, .ref nm, .ref nn, .int (nI fi), .int (nI gl), .int (nI un), .int (nI mi), .int (nI no)])), (nk, .inl (y 0, 6, .inl fk)), (nd, .inr (1, [.ref nl, .ref na, .ref ns, .int nst, .int ncl, .int nnu])), (nl, .inl (y 0, 6, .inl nfl)), (na, .inl (y 0, 5, .inl nfa)), (ns, .inl (y 0, 5, .inl nfs)), (nm, .inl (y 6, 4, .inr (.inr (.inr (.inr fm))))), (m0, .inl (y 0, 4, .inl m0f)), (m1, .inl (y 0, 4, .inl m1f)), (m2, .inl (y 0, 4, .inl m2f)), (m3, .inl (y 0, 4, .inl m3f)), (nn, .inl (y 6, 6, .inr (.inr (.inr (.inr fn_))))), (t0, .inl (y 0, 5, .inl t0f)), (t1, .inl (y 0, 5, .inl t1f)), (t2, .inl (y 0, 5, .inl t2f)), (t3, .inl (y 0, 5, .inl t3f)), (t4, .inl (y 0, 5, .inl t4f)), (t5, .inl (y 0, 5, .inl t5f)), (tx, .inr (7, [.ref bys, .int (nI ln), .int tok, .int (nI sta), .int (nI en), .int num, .ref wo, .ref fs, .ref sc, .int tfi, .int tgl, .int tst]))] H → va_D A [(g, .inr (10, [.ref kk, .ref nw, .ref im, .ref kp, .ref tx, .ref tr, .ref be, .ref sh, .ref sd, .ref rf, .int ab, .int bl])), (nw, .inr (4, [.ref kk, .ref nk, .ref nd, .ref ne, .ref nm, .ref nn, .int (nI fi), .int (nI gl), .int (nI un), .int (nI mi), .int (nI no)])), (nk, .inl (y 0, 6, .inl fk)), (nd, .inr (1, [.ref nl, .ref na, .ref ns, .int nst, .int ncl, .int nnu])), (nl, .inl (y 0, 6, .inl nfl)), (na, .inl (y 0, 5, .inl nfa)), (ns, .inl (y 0, 5, .inl nfs)), (nm, .inl (y 6, 4, .inr (.inr (.inr (.inr fm))))), (m0, .inl (y 0, 4, .inl m0f)), (m1, .inl (y 0, 4, .inl m1f)), (m2, .inl (y 0, 4, .inl m2f)), (m3, .inl (y 0, 4, .inl m3f)), (nn, .inl (y 6, 6, .inr (.inr (.inr (.inr fn_))))), (t0, .inl (y 0, 5, .inl t0f)), (t1, .inl (y 0, 5, .inl t1f)), (t2, .inl (y 0, 5, .inl t2f)), (t3, .inl (y 0, 5, .inl t3f)), (t4, .inl (y 0, 5, .inl t4f)), (t5, .inl (y 0, 5, .inl t5f)), (tx, .inr (7, [.ref bys, .int (nI ln), .int tok, .int (nI sta), .int (nI en), .int num, .ref wo, .ref fs, .ref sc, .int tfi, .int tgl, .int tst]))] → va_S A s.heap H locs → lv_has ls 4 [(3, .int (nI j95)), (1, .long x8025), (0, .ref g)] → W pZ l eZ ({ frames := 3, cells := 0, slots := 0, locals := 111 }) s mZ [.ref g].toArray beZ meZ cZ H locs 0 0 (MQ beZ (va_Ql (fun (r : Int64) (u : Unit) => True) (kw_B D (fun _ => [(g, .inr (10, [.ref kk, .ref nw, .ref im, .ref kp, .ref tx, .ref tr, .ref be, .ref sh, .ref sd, .ref rf, .int ab, .int bl])), (nw, .inr (4, [.ref kk, .ref nk, .ref nd, .ref ne, .ref nm, .ref nn, .int (nI fi), .int (nI gl), .int (nI un), .int (nI mi), .int (nI no)])), (nk, .inl (y 0, 6, .inl fk)), (nd, .inr (1, [.ref nl, .ref na, .ref ns, .int nst, .int ncl, .int nnu])), (nl, .inl (y 0, 6, .inl nfl)), (na, .inl (y 0, 5, .inl nfa)), (ns, .inl (y 0, 5, .inl nfs)), (nm, .inl (y 6, 4, .inr (.inr (.inr (.inr fm))))), (m0, .inl (y 0, 4, .inl m0f)), (m1, .inl (y 0, 4, .inl m1f)), (m2, .inl (y 0, 4, .inl m2f)), (m3, .inl (y 0, 4, .inl m3f)), (nn, .inl (y 6, 6, .inr (.inr (.inr (.inr fn_))))), (t0, .inl (y 0, 5, .inl t0f)), (t1, .inl (y 0, 5, .inl t1f)), (t2, .inl (y 0, 5, .inl t2f)), (t3, .inl (y 0, 5, .inl t3f)), (t4, .inl (y 0, 5, .inl t4f)), (t5, .inl (y 0, 5, .inl t5f)), (tx, .inr (7, [.ref bys, .int (nI ln), .int tok, .int (nI sta), .int (nI en), .int num, .ref wo, .ref fs, .ref sc, .int tfi, .int tgl, .int tst]))]) A) A) [.ref g].toArray s 0 0 A) (F0 mZ 167 ls []) := by
                            intro fuj95
                            induction fuj95 with
                            | zero => intro j95 x8025 H locs ls hj9 hf9; exact absurd hf9 (Nat.not_lt_zero _)
                            | succ fuj95 ihj95 =>
                              intro j95 x8025 H locs ls hj95 hfj95  hP hD hS hl
                              refine lv_iload_n hx hb dX10_digest_167 rfl (lv_at hl 0 rfl) ?_
                              refine lv_aload_n hx hb dX10_digest_168 rfl (lv_at hl 2 rfl) ?_
                              refine va_get (D := D) (ci := 10) (v := .ref nw) (C := RX10) (T := TX10) (N := 12) hx hb hts iw10 hown hK hP 0 rfl rfl 1 (by decide) fw2 (fun _ h9 => h9) rfl dX10_digest_169 ?_
                              refine va_get (D := D) (ci := 4) (v := .int (nI no)) (C := RX4) (T := TX4) (N := 11) hx hb hts iw4 hown hK hP 1 rfl rfl 10 (by decide) fw6 (fun _ h9 => h9) rfl dX10_digest_172 ?_
                              refine lv_icmp_ge (tgt := 198) hx hb dX10_digest_175 (by decide) (fun h8053 => ?_) (fun h8054 => ?_)
                              · skip
                                have h8053 : no ≤ j95 := (nI_leI (a := no) (b := j95) (by omega) (by omega)).mp h8053
                                refine lv_lload_n hx hb dX10_digest_198 rfl (lv_at hl 1 rfl) ?_
                                refine lv_aload_n hx hb dX10_digest_199 rfl (lv_at hl 2 rfl) ?_
                                refine va_get (D := D) (ci := 10) (v := .int ab) (C := RX10) (T := TX10) (N := 12) hx hb hts iw10 hown hK hP 0 rfl rfl 10 (by decide) fw7 (fun _ h9 => h9) rfl dX10_digest_200 ?_
                                refine lv_i2l (v := ab.toInt64) hx hb dX10_digest_203 (rfl) ?_
                                have hs8055 : kw_Split [(g, .inr (10, [.ref kk, .ref nw, .ref im, .ref kp, .ref tx, .ref tr, .ref be, .ref sh, .ref sd, .ref rf, .int ab, .int bl])), (nw, .inr (4, [.ref kk, .ref nk, .ref nd, .ref ne, .ref nm, .ref nn, .int (nI fi), .int (nI gl), .int (nI un), .int (nI mi), .int (nI no)])), (nk, .inl (y 0, 6, .inl fk)), (nd, .inr (1, [.ref nl, .ref na, .ref ns, .int nst, .int ncl, .int nnu])), (nl, .inl (y 0, 6, .inl nfl)), (na, .inl (y 0, 5, .inl nfa)), (ns, .inl (y 0, 5, .inl nfs)), (nm, .inl (y 6, 4, .inr (.inr (.inr (.inr fm))))), (m0, .inl (y 0, 4, .inl m0f)), (m1, .inl (y 0, 4, .inl m1f)), (m2, .inl (y 0, 4, .inl m2f)), (m3, .inl (y 0, 4, .inl m3f)), (nn, .inl (y 6, 6, .inr (.inr (.inr (.inr fn_))))), (t0, .inl (y 0, 5, .inl t0f)), (t1, .inl (y 0, 5, .inl t1f)), (t2, .inl (y 0, 5, .inl t2f)), (t3, .inl (y 0, 5, .inl t3f)), (t4, .inl (y 0, 5, .inl t4f)), (t5, .inl (y 0, 5, .inl t5f)), (tx, .inr (7, [.ref bys, .int (nI ln), .int tok, .int (nI sta), .int (nI en), .int num, .ref wo, .ref fs, .ref sc, .int tfi, .int tgl, .int tst]))] [] [(g, .inr (10, [.ref kk, .ref nw, .ref im, .ref kp, .ref tx, .ref tr, .ref be, .ref sh, .ref sd, .ref rf, .int ab, .int bl])), (nw, .inr (4, [.ref kk, .ref nk, .ref nd, .ref ne, .ref nm, .ref nn, .int (nI fi), .int (nI gl), .int (nI un), .int (nI mi), .int (nI no)])), (nk, .inl (y 0, 6, .inl fk)), (nd, .inr (1, [.ref nl, .ref na, .ref ns, .int nst, .int ncl, .int nnu])), (nl, .inl (y 0, 6, .inl nfl)), (na, .inl (y 0, 5, .inl nfa)), (ns, .inl (y 0, 5, .inl nfs)), (nm, .inl (y 6, 4, .inr (.inr (.inr (.inr fm))))), (m0, .inl (y 0, 4, .inl m0f)), (m1, .inl (y 0, 4, .inl m1f)), (m2, .inl (y 0, 4, .inl m2f)), (m3, .inl (y 0, 4, .inl m3f)), (nn, .inl (y 6, 6, .inr (.inr (.inr (.inr fn_))))), (t0, .inl (y 0, 5, .inl t0f)), (t1, .inl (y 0, 5, .inl t1f)), (t2, .inl (y 0, 5, .inl t2f)), (t3, .inl (y 0, 5, .inl t3f)), (t4, .inl (y 0, 5, .inl t4f)), (t5, .inl (y 0, 5, .inl t5f)), (tx, .inr (7, [.ref bys, .int (nI ln), .int tok, .int (nI sta), .int (nI en), .int num, .ref wo, .ref fs, .ref sc, .int tfi, .int tgl, .int tst]))] [] [0, 1, 2, 3, 4, 5, 6, 7, 8, 9, 10, 11, 12, 13, 14, 15, 16, 17, 18, 19] := ⟨rfl, rfl, rfl, rfl, rfl, by decide⟩
                                refine kw_go_l hs8055 hP hD hS hA (va_runS (As := [.long x8025, .long ab.toInt64]) (rest := []) ⟨hx, hb, hml, hown, hts⟩ (gc_mix l D y x8025 ab.toInt64  _) (va_cwS 2 hts gX10_digest_X10_mix rfl rfl rfl (by decide +kernel) ⟨Nat.le_of_ble_eq_true rfl, Nat.le_of_ble_eq_true rfl⟩) (kw_PreS hs8055 hP hD hK hN) rfl rfl hl.1 rfl (lv_room (Nat.le_of_ble_eq_true rfl)) dX10_digest_204 ⟨Nat.le_of_ble_eq_true rfl, Nat.le_of_ble_eq_true rfl⟩) (fun r8056 u8057 H locs hq hP hD hS => ?_)
                                obtain rfl := hq
                                have hP : va_P D vwCl [(g, .inr (10, [.ref kk, .ref nw, .ref im, .ref kp, .ref tx, .ref tr, .ref be, .ref sh, .ref sd, .ref rf, .int ab, .int bl])), (nw, .inr (4, [.ref kk, .ref nk, .ref nd, .ref ne, .ref nm, .ref nn, .int (nI fi), .int (nI gl), .int (nI un), .int (nI mi), .int (nI no)])), (nk, .inl (y 0, 6, .inl fk)), (nd, .inr (1, [.ref nl, .ref na, .ref ns, .int nst, .int ncl, .int nnu])), (nl, .inl (y 0, 6, .inl nfl)), (na, .inl (y 0, 5, .inl nfa)), (ns, .inl (y 0, 5, .inl nfs)), (nm, .inl (y 6, 4, .inr (.inr (.inr (.inr fm))))), (m0, .inl (y 0, 4, .inl m0f)), (m1, .inl (y 0, 4, .inl m1f)), (m2, .inl (y 0, 4, .inl m2f)), (m3, .inl (y 0, 4, .inl m3f)), (nn, .inl (y 6, 6, .inr (.inr (.inr (.inr fn_))))), (t0, .inl (y 0, 5, .inl t0f)), (t1, .inl (y 0, 5, .inl t1f)), (t2, .inl (y 0, 5, .inl t2f)), (t3, .inl (y 0, 5, .inl t3f)), (t4, .inl (y 0, 5, .inl t4f)), (t5, .inl (y 0, 5, .inl t5f)), (tx, .inr (7, [.ref bys, .int (nI ln), .int tok, .int (nI sta), .int (nI en), .int num, .ref wo, .ref fs, .ref sc, .int tfi, .int tgl, .int tst]))] H := hP
                                have hD : va_D A [(g, .inr (10, [.ref kk, .ref nw, .ref im, .ref kp, .ref tx, .ref tr, .ref be, .ref sh, .ref sd, .ref rf, .int ab, .int bl])), (nw, .inr (4, [.ref kk, .ref nk, .ref nd, .ref ne, .ref nm, .ref nn, .int (nI fi), .int (nI gl), .int (nI un), .int (nI mi), .int (nI no)])), (nk, .inl (y 0, 6, .inl fk)), (nd, .inr (1, [.ref nl, .ref na, .ref ns, .int nst, .int ncl, .int nnu])), (nl, .inl (y 0, 6, .inl nfl)), (na, .inl (y 0, 5, .inl nfa)), (ns, .inl (y 0, 5, .inl nfs)), (nm, .inl (y 6, 4, .inr (.inr (.inr (.inr fm))))), (m0, .inl (y 0, 4, .inl m0f)), (m1, .inl (y 0, 4, .inl m1f)), (m2, .inl (y 0, 4, .inl m2f)), (m3, .inl (y 0, 4, .inl m3f)), (nn, .inl (y 6, 6, .inr (.inr (.inr (.inr fn_))))), (t0, .inl (y 0, 5, .inl t0f)), (t1, .inl (y 0, 5, .inl t1f)), (t2, .inl (y 0, 5, .inl t2f)), (t3, .inl (y 0, 5, .inl t3f)), (t4, .inl (y 0, 5, .inl t4f)), (t5, .inl (y 0, 5, .inl t5f)), (tx, .inr (7, [.ref bys, .int (nI ln), .int tok, .int (nI sta), .int (nI en), .int num, .ref wo, .ref fs, .ref sc, .int tfi, .int tgl, .int tst]))] := hD
                                refine lv_aload_n hx hb dX10_digest_207 rfl (lv_at hl 2 rfl) ?_
                                refine va_get (D := D) (ci := 10) (v := .int bl) (C := RX10) (T := TX10) (N := 12) hx hb hts iw10 hown hK hP 0 rfl rfl 11 (by decide) fw8 (fun _ h9 => h9) rfl dX10_digest_208 ?_
                                refine lv_i2l (v := bl.toInt64) hx hb dX10_digest_211 (rfl) ?_
                                have hs8058 : kw_Split [(g, .inr (10, [.ref kk, .ref nw, .ref im, .ref kp, .ref tx, .ref tr, .ref be, .ref sh, .ref sd, .ref rf, .int ab, .int bl])), (nw, .inr (4, [.ref kk, .ref nk, .ref nd, .ref ne, .ref nm, .ref nn, .int (nI fi), .int (nI gl), .int (nI un), .int (nI mi), .int (nI no)])), (nk, .inl (y 0, 6, .inl fk)), (nd, .inr (1, [.ref nl, .ref na, .ref ns, .int nst, .int ncl, .int nnu])), (nl, .inl (y 0, 6, .inl nfl)), (na, .inl (y 0, 5, .inl nfa)), (ns, .inl (y 0, 5, .inl nfs)), (nm, .inl (y 6, 4, .inr (.inr (.inr (.inr fm))))), (m0, .inl (y 0, 4, .inl m0f)), (m1, .inl (y 0, 4, .inl m1f)), (m2, .inl (y 0, 4, .inl m2f)), (m3, .inl (y 0, 4, .inl m3f)), (nn, .inl (y 6, 6, .inr (.inr (.inr (.inr fn_))))), (t0, .inl (y 0, 5, .inl t0f)), (t1, .inl (y 0, 5, .inl t1f)), (t2, .inl (y 0, 5, .inl t2f)), (t3, .inl (y 0, 5, .inl t3f)), (t4, .inl (y 0, 5, .inl t4f)), (t5, .inl (y 0, 5, .inl t5f)), (tx, .inr (7, [.ref bys, .int (nI ln), .int tok, .int (nI sta), .int (nI en), .int num, .ref wo, .ref fs, .ref sc, .int tfi, .int tgl, .int tst]))] [] [(g, .inr (10, [.ref kk, .ref nw, .ref im, .ref kp, .ref tx, .ref tr, .ref be, .ref sh, .ref sd, .ref rf, .int ab, .int bl])), (nw, .inr (4, [.ref kk, .ref nk, .ref nd, .ref ne, .ref nm, .ref nn, .int (nI fi), .int (nI gl), .int (nI un), .int (nI mi), .int (nI no)])), (nk, .inl (y 0, 6, .inl fk)), (nd, .inr (1, [.ref nl, .ref na, .ref ns, .int nst, .int ncl, .int nnu])), (nl, .inl (y 0, 6, .inl nfl)), (na, .inl (y 0, 5, .inl nfa)), (ns, .inl (y 0, 5, .inl nfs)), (nm, .inl (y 6, 4, .inr (.inr (.inr (.inr fm))))), (m0, .inl (y 0, 4, .inl m0f)), (m1, .inl (y 0, 4, .inl m1f)), (m2, .inl (y 0, 4, .inl m2f)), (m3, .inl (y 0, 4, .inl m3f)), (nn, .inl (y 6, 6, .inr (.inr (.inr (.inr fn_))))), (t0, .inl (y 0, 5, .inl t0f)), (t1, .inl (y 0, 5, .inl t1f)), (t2, .inl (y 0, 5, .inl t2f)), (t3, .inl (y 0, 5, .inl t3f)), (t4, .inl (y 0, 5, .inl t4f)), (t5, .inl (y 0, 5, .inl t5f)), (tx, .inr (7, [.ref bys, .int (nI ln), .int tok, .int (nI sta), .int (nI en), .int num, .ref wo, .ref fs, .ref sc, .int tfi, .int tgl, .int tst]))] [] [0, 1, 2, 3, 4, 5, 6, 7, 8, 9, 10, 11, 12, 13, 14, 15, 16, 17, 18, 19] := ⟨rfl, rfl, rfl, rfl, rfl, by decide⟩
                                refine kw_go_l hs8058 hP hD hS hA (va_runS (As := [.long ((31 * x8025) + ab.toInt64), .long bl.toInt64]) (rest := []) ⟨hx, hb, hml, hown, hts⟩ (gc_mix l D y ((31 * x8025) + ab.toInt64) bl.toInt64  _) (va_cwS 2 hts gX10_digest_X10_mix rfl rfl rfl (by decide +kernel) ⟨Nat.le_of_ble_eq_true rfl, Nat.le_of_ble_eq_true rfl⟩) (kw_PreS hs8058 hP hD hK hN) rfl rfl hl.1 rfl (lv_room (Nat.le_of_ble_eq_true rfl)) dX10_digest_212 ⟨Nat.le_of_ble_eq_true rfl, Nat.le_of_ble_eq_true rfl⟩) (fun r8059 u8060 H locs hq hP hD hS => ?_)
                                obtain rfl := hq
                                have hP : va_P D vwCl [(g, .inr (10, [.ref kk, .ref nw, .ref im, .ref kp, .ref tx, .ref tr, .ref be, .ref sh, .ref sd, .ref rf, .int ab, .int bl])), (nw, .inr (4, [.ref kk, .ref nk, .ref nd, .ref ne, .ref nm, .ref nn, .int (nI fi), .int (nI gl), .int (nI un), .int (nI mi), .int (nI no)])), (nk, .inl (y 0, 6, .inl fk)), (nd, .inr (1, [.ref nl, .ref na, .ref ns, .int nst, .int ncl, .int nnu])), (nl, .inl (y 0, 6, .inl nfl)), (na, .inl (y 0, 5, .inl nfa)), (ns, .inl (y 0, 5, .inl nfs)), (nm, .inl (y 6, 4, .inr (.inr (.inr (.inr fm))))), (m0, .inl (y 0, 4, .inl m0f)), (m1, .inl (y 0, 4, .inl m1f)), (m2, .inl (y 0, 4, .inl m2f)), (m3, .inl (y 0, 4, .inl m3f)), (nn, .inl (y 6, 6, .inr (.inr (.inr (.inr fn_))))), (t0, .inl (y 0, 5, .inl t0f)), (t1, .inl (y 0, 5, .inl t1f)), (t2, .inl (y 0, 5, .inl t2f)), (t3, .inl (y 0, 5, .inl t3f)), (t4, .inl (y 0, 5, .inl t4f)), (t5, .inl (y 0, 5, .inl t5f)), (tx, .inr (7, [.ref bys, .int (nI ln), .int tok, .int (nI sta), .int (nI en), .int num, .ref wo, .ref fs, .ref sc, .int tfi, .int tgl, .int tst]))] H := hP
                                have hD : va_D A [(g, .inr (10, [.ref kk, .ref nw, .ref im, .ref kp, .ref tx, .ref tr, .ref be, .ref sh, .ref sd, .ref rf, .int ab, .int bl])), (nw, .inr (4, [.ref kk, .ref nk, .ref nd, .ref ne, .ref nm, .ref nn, .int (nI fi), .int (nI gl), .int (nI un), .int (nI mi), .int (nI no)])), (nk, .inl (y 0, 6, .inl fk)), (nd, .inr (1, [.ref nl, .ref na, .ref ns, .int nst, .int ncl, .int nnu])), (nl, .inl (y 0, 6, .inl nfl)), (na, .inl (y 0, 5, .inl nfa)), (ns, .inl (y 0, 5, .inl nfs)), (nm, .inl (y 6, 4, .inr (.inr (.inr (.inr fm))))), (m0, .inl (y 0, 4, .inl m0f)), (m1, .inl (y 0, 4, .inl m1f)), (m2, .inl (y 0, 4, .inl m2f)), (m3, .inl (y 0, 4, .inl m3f)), (nn, .inl (y 6, 6, .inr (.inr (.inr (.inr fn_))))), (t0, .inl (y 0, 5, .inl t0f)), (t1, .inl (y 0, 5, .inl t1f)), (t2, .inl (y 0, 5, .inl t2f)), (t3, .inl (y 0, 5, .inl t3f)), (t4, .inl (y 0, 5, .inl t4f)), (t5, .inl (y 0, 5, .inl t5f)), (tx, .inr (7, [.ref bys, .int (nI ln), .int tok, .int (nI sta), .int (nI en), .int num, .ref wo, .ref fs, .ref sc, .int tfi, .int tgl, .int tst]))] := hD
                                exact W.lret (v := ((31 * ((31 * x8025) + ab.toInt64)) + bl.toInt64)) hx hb hr (fun tZ ht hW => ⟨⟨((31 * ((31 * x8025) + ab.toInt64)) + bl.toInt64), (), rfl, trivial, by rw [ht]; exact hP.sub [0, 1, 2, 3, 4, 5, 6, 7, 8, 9, 10, 11, 12, 13, 14, 15, 16, 17, 18, 19] rfl, hD.sub [0, 1, 2, 3, 4, 5, 6, 7, 8, 9, 10, 11, 12, 13, 14, 15, 16, 17, 18, 19] (by decide) rfl⟩, hS.F ht⟩) hS.2.2 dX10_digest_215
                              · skip
                                have h8054 : ¬ no ≤ j95 := fun q9 => h8054 ((nI_leI (a := no) (b := j95) (by omega) (by omega)).mpr q9)
                                refine lv_lload_n hx hb dX10_digest_178 rfl (lv_at hl 1 rfl) ?_
                                refine lv_aload_n hx hb dX10_digest_179 rfl (lv_at hl 2 rfl) ?_
                                refine va_get (D := D) (ci := 10) (v := .ref nw) (C := RX10) (T := TX10) (N := 12) hx hb hts iw10 hown hK hP 0 rfl rfl 1 (by decide) fw2 (fun _ h9 => h9) rfl dX10_digest_180 ?_
                                refine va_get (D := D) (ci := 4) (v := .ref nn) (C := RX4) (T := TX4) (N := 11) hx hb hts iw4 hown hK hP 1 rfl rfl 5 (by decide) fw9 (fun _ h9 => h9) rfl dX10_digest_183 ?_
                                refine lv_iload_n hx hb dX10_digest_186 rfl (lv_at hl 0 rfl) ?_
                                rcases (show j95 = 0 ∨ j95 = 1 ∨ j95 = 2 ∨ j95 = 3 ∨ j95 = 4 ∨ j95 = 5 by omega) with rfl | rfl | rfl | rfl | rfl | rfl
                                · skip
                                  refine kw_aldQ hx hb hK hP 12 6 rfl rfl (vp_in_nI (by omega) (by decide)) dX10_digest_187 ?_
                                  rw [nI_clamp (n := 0) (by omega), show va_rf (fn_ 0) = .ref t0 from congrArg va_rf hn0]
                                  have hs8061 : kw_Split [(g, .inr (10, [.ref kk, .ref nw, .ref im, .ref kp, .ref tx, .ref tr, .ref be, .ref sh, .ref sd, .ref rf, .int ab, .int bl])), (nw, .inr (4, [.ref kk, .ref nk, .ref nd, .ref ne, .ref nm, .ref nn, .int (nI fi), .int (nI gl), .int (nI un), .int (nI mi), .int (nI no)])), (nk, .inl (y 0, 6, .inl fk)), (nd, .inr (1, [.ref nl, .ref na, .ref ns, .int nst, .int ncl, .int nnu])), (nl, .inl (y 0, 6, .inl nfl)), (na, .inl (y 0, 5, .inl nfa)), (ns, .inl (y 0, 5, .inl nfs)), (nm, .inl (y 6, 4, .inr (.inr (.inr (.inr fm))))), (m0, .inl (y 0, 4, .inl m0f)), (m1, .inl (y 0, 4, .inl m1f)), (m2, .inl (y 0, 4, .inl m2f)), (m3, .inl (y 0, 4, .inl m3f)), (nn, .inl (y 6, 6, .inr (.inr (.inr (.inr fn_))))), (t0, .inl (y 0, 5, .inl t0f)), (t1, .inl (y 0, 5, .inl t1f)), (t2, .inl (y 0, 5, .inl t2f)), (t3, .inl (y 0, 5, .inl t3f)), (t4, .inl (y 0, 5, .inl t4f)), (t5, .inl (y 0, 5, .inl t5f)), (tx, .inr (7, [.ref bys, .int (nI ln), .int tok, .int (nI sta), .int (nI en), .int num, .ref wo, .ref fs, .ref sc, .int tfi, .int tgl, .int tst]))] [(t0, .inl (y 0, 5, .inl t0f))] [(g, .inr (10, [.ref kk, .ref nw, .ref im, .ref kp, .ref tx, .ref tr, .ref be, .ref sh, .ref sd, .ref rf, .int ab, .int bl])), (nw, .inr (4, [.ref kk, .ref nk, .ref nd, .ref ne, .ref nm, .ref nn, .int (nI fi), .int (nI gl), .int (nI un), .int (nI mi), .int (nI no)])), (nk, .inl (y 0, 6, .inl fk)), (nd, .inr (1, [.ref nl, .ref na, .ref ns, .int nst, .int ncl, .int nnu])), (nl, .inl (y 0, 6, .inl nfl)), (na, .inl (y 0, 5, .inl nfa)), (ns, .inl (y 0, 5, .inl nfs)), (nm, .inl (y 6, 4, .inr (.inr (.inr (.inr fm))))), (m0, .inl (y 0, 4, .inl m0f)), (m1, .inl (y 0, 4, .inl m1f)), (m2, .inl (y 0, 4, .inl m2f)), (m3, .inl (y 0, 4, .inl m3f)), (nn, .inl (y 6, 6, .inr (.inr (.inr (.inr fn_))))), (t1, .inl (y 0, 5, .inl t1f)), (t2, .inl (y 0, 5, .inl t2f)), (t3, .inl (y 0, 5, .inl t3f)), (t4, .inl (y 0, 5, .inl t4f)), (t5, .inl (y 0, 5, .inl t5f)), (tx, .inr (7, [.ref bys, .int (nI ln), .int tok, .int (nI sta), .int (nI en), .int num, .ref wo, .ref fs, .ref sc, .int tfi, .int tgl, .int tst]))] [13] [0, 1, 2, 3, 4, 5, 6, 7, 8, 9, 10, 11, 12, 14, 15, 16, 17, 18, 19] := ⟨rfl, rfl, rfl, rfl, rfl, by decide⟩
                                  refine kw_go_l hs8061 hP hD hS hA (va_runS (As := [.long x8025, .ref t0]) (rest := []) ⟨hx, hb, hml, hown, hts⟩ (gc_mixRow5 l D y x8025 t0 t0f  _) (va_cwS 2 hts gX10_digest_X10_mixRow rfl rfl rfl (by decide +kernel) ⟨Nat.le_of_ble_eq_true rfl, Nat.le_of_ble_eq_true rfl⟩) (kw_PreS hs8061 hP hD hK hN) rfl rfl hl.1 rfl (lv_room (Nat.le_of_ble_eq_true rfl)) dX10_digest_188 ⟨Nat.le_of_ble_eq_true rfl, Nat.le_of_ble_eq_true rfl⟩) (fun r8062 u8063 H locs hq hP hD hS => ?_)
                                  have hP : va_P D vwCl [(g, .inr (10, [.ref kk, .ref nw, .ref im, .ref kp, .ref tx, .ref tr, .ref be, .ref sh, .ref sd, .ref rf, .int ab, .int bl])), (nw, .inr (4, [.ref kk, .ref nk, .ref nd, .ref ne, .ref nm, .ref nn, .int (nI fi), .int (nI gl), .int (nI un), .int (nI mi), .int (nI no)])), (nk, .inl (y 0, 6, .inl fk)), (nd, .inr (1, [.ref nl, .ref na, .ref ns, .int nst, .int ncl, .int nnu])), (nl, .inl (y 0, 6, .inl nfl)), (na, .inl (y 0, 5, .inl nfa)), (ns, .inl (y 0, 5, .inl nfs)), (nm, .inl (y 6, 4, .inr (.inr (.inr (.inr fm))))), (m0, .inl (y 0, 4, .inl m0f)), (m1, .inl (y 0, 4, .inl m1f)), (m2, .inl (y 0, 4, .inl m2f)), (m3, .inl (y 0, 4, .inl m3f)), (nn, .inl (y 6, 6, .inr (.inr (.inr (.inr fn_))))), (t1, .inl (y 0, 5, .inl t1f)), (t2, .inl (y 0, 5, .inl t2f)), (t3, .inl (y 0, 5, .inl t3f)), (t4, .inl (y 0, 5, .inl t4f)), (t5, .inl (y 0, 5, .inl t5f)), (tx, .inr (7, [.ref bys, .int (nI ln), .int tok, .int (nI sta), .int (nI en), .int num, .ref wo, .ref fs, .ref sc, .int tfi, .int tgl, .int tst])), (t0, .inl (y 0, 5, .inl t0f))] H := hP
                                  have hD : va_D A [(g, .inr (10, [.ref kk, .ref nw, .ref im, .ref kp, .ref tx, .ref tr, .ref be, .ref sh, .ref sd, .ref rf, .int ab, .int bl])), (nw, .inr (4, [.ref kk, .ref nk, .ref nd, .ref ne, .ref nm, .ref nn, .int (nI fi), .int (nI gl), .int (nI un), .int (nI mi), .int (nI no)])), (nk, .inl (y 0, 6, .inl fk)), (nd, .inr (1, [.ref nl, .ref na, .ref ns, .int nst, .int ncl, .int nnu])), (nl, .inl (y 0, 6, .inl nfl)), (na, .inl (y 0, 5, .inl nfa)), (ns, .inl (y 0, 5, .inl nfs)), (nm, .inl (y 6, 4, .inr (.inr (.inr (.inr fm))))), (m0, .inl (y 0, 4, .inl m0f)), (m1, .inl (y 0, 4, .inl m1f)), (m2, .inl (y 0, 4, .inl m2f)), (m3, .inl (y 0, 4, .inl m3f)), (nn, .inl (y 6, 6, .inr (.inr (.inr (.inr fn_))))), (t1, .inl (y 0, 5, .inl t1f)), (t2, .inl (y 0, 5, .inl t2f)), (t3, .inl (y 0, 5, .inl t3f)), (t4, .inl (y 0, 5, .inl t4f)), (t5, .inl (y 0, 5, .inl t5f)), (tx, .inr (7, [.ref bys, .int (nI ln), .int tok, .int (nI sta), .int (nI en), .int num, .ref wo, .ref fs, .ref sc, .int tfi, .int tgl, .int tst])), (t0, .inl (y 0, 5, .inl t0f))] := hD
                                  refine lv_lstore_n (lv' := [(1, .long r8062), (3, .int (nI 0)), (0, .ref g)]) hx hb dX10_digest_191 rfl hl (by decide) rfl (fun ls hl => ?_)
                                  refine lv_iinc (v := (nI 1)) (lv' := [(3, .int (nI 1)), (1, .long r8062), (0, .ref g)]) hx hb dX10_digest_192 hl (k := 1) rfl (nI_1 0) (by decide) rfl (fun ls hl => ?_)
                                  refine lv_goto (tgt := 167) hx hb dX10_digest_195 (by decide) ?_
                                  exact ihj95 1 r8062 H locs ls (by omega) (by omega)  (hP.sub [0, 1, 2, 3, 4, 5, 6, 7, 8, 9, 10, 11, 12, 19, 13, 14, 15, 16, 17, 18] rfl) (hD.sub [0, 1, 2, 3, 4, 5, 6, 7, 8, 9, 10, 11, 12, 19, 13, 14, 15, 16, 17, 18] (by decide) rfl) hS (lv_sub hl [0, 1, 2] rfl)
                                · skip
                                  refine kw_aldQ hx hb hK hP 12 6 rfl rfl (vp_in_nI (by omega) (by decide)) dX10_digest_187 ?_
                                  rw [nI_clamp (n := 1) (by omega), show va_rf (fn_ 1) = .ref t1 from congrArg va_rf hn1]
                                  have hs8064 : kw_Split [(g, .inr (10, [.ref kk, .ref nw, .ref im, .ref kp, .ref tx, .ref tr, .ref be, .ref sh, .ref sd, .ref rf, .int ab, .int bl])), (nw, .inr (4, [.ref kk, .ref nk, .ref nd, .ref ne, .ref nm, .ref nn, .int (nI fi), .int (nI gl), .int (nI un), .int (nI mi), .int (nI no)])), (nk, .inl (y 0, 6, .inl fk)), (nd, .inr (1, [.ref nl, .ref na, .ref ns, .int nst, .int ncl, .int nnu])), (nl, .inl (y 0, 6, .inl nfl)), (na, .inl (y 0, 5, .inl nfa)), (ns, .inl (y 0, 5, .inl nfs)), (nm, .inl (y 6, 4, .inr (.inr (.inr (.inr fm))))), (m0, .inl (y 0, 4, .inl m0f)), (m1, .inl (y 0, 4, .inl m1f)), (m2, .inl (y 0, 4, .inl m2f)), (m3, .inl (y 0, 4, .inl m3f)), (nn, .inl (y 6, 6, .inr (.inr (.inr (.inr fn_))))), (t0, .inl (y 0, 5, .inl t0f)), (t1, .inl (y 0, 5, .inl t1f)), (t2, .inl (y 0, 5, .inl t2f)), (t3, .inl (y 0, 5, .inl t3f)), (t4, .inl (y 0, 5, .inl t4f)), (t5, .inl (y 0, 5, .inl t5f)), (tx, .inr (7, [.ref bys, .int (nI ln), .int tok, .int (nI sta), .int (nI en), .int num, .ref wo, .ref fs, .ref sc, .int tfi, .int tgl, .int tst]))] [(t1, .inl (y 0, 5, .inl t1f))] [(g, .inr (10, [.ref kk, .ref nw, .ref im, .ref kp, .ref tx, .ref tr, .ref be, .ref sh, .ref sd, .ref rf, .int ab, .int bl])), (nw, .inr (4, [.ref kk, .ref nk, .ref nd, .ref ne, .ref nm, .ref nn, .int (nI fi), .int (nI gl), .int (nI un), .int (nI mi), .int (nI no)])), (nk, .inl (y 0, 6, .inl fk)), (nd, .inr (1, [.ref nl, .ref na, .ref ns, .int nst, .int ncl, .int nnu])), (nl, .inl (y 0, 6, .inl nfl)), (na, .inl (y 0, 5, .inl nfa)), (ns, .inl (y 0, 5, .inl nfs)), (nm, .inl (y 6, 4, .inr (.inr (.inr (.inr fm))))), (m0, .inl (y 0, 4, .inl m0f)), (m1, .inl (y 0, 4, .inl m1f)), (m2, .inl (y 0, 4, .inl m2f)), (m3, .inl (y 0, 4, .inl m3f)), (nn, .inl (y 6, 6, .inr (.inr (.inr (.inr fn_))))), (t0, .inl (y 0, 5, .inl t0f)), (t2, .inl (y 0, 5, .inl t2f)), (t3, .inl (y 0, 5, .inl t3f)), (t4, .inl (y 0, 5, .inl t4f)), (t5, .inl (y 0, 5, .inl t5f)), (tx, .inr (7, [.ref bys, .int (nI ln), .int tok, .int (nI sta), .int (nI en), .int num, .ref wo, .ref fs, .ref sc, .int tfi, .int tgl, .int tst]))] [14] [0, 1, 2, 3, 4, 5, 6, 7, 8, 9, 10, 11, 12, 13, 15, 16, 17, 18, 19] := ⟨rfl, rfl, rfl, rfl, rfl, by decide⟩
                                  refine kw_go_l hs8064 hP hD hS hA (va_runS (As := [.long x8025, .ref t1]) (rest := []) ⟨hx, hb, hml, hown, hts⟩ (gc_mixRow5 l D y x8025 t1 t1f  _) (va_cwS 2 hts gX10_digest_X10_mixRow rfl rfl rfl (by decide +kernel) ⟨Nat.le_of_ble_eq_true rfl, Nat.le_of_ble_eq_true rfl⟩) (kw_PreS hs8064 hP hD hK hN) rfl rfl hl.1 rfl (lv_room (Nat.le_of_ble_eq_true rfl)) dX10_digest_188 ⟨Nat.le_of_ble_eq_true rfl, Nat.le_of_ble_eq_true rfl⟩) (fun r8065 u8066 H locs hq hP hD hS => ?_)
                                  have hP : va_P D vwCl [(g, .inr (10, [.ref kk, .ref nw, .ref im, .ref kp, .ref tx, .ref tr, .ref be, .ref sh, .ref sd, .ref rf, .int ab, .int bl])), (nw, .inr (4, [.ref kk, .ref nk, .ref nd, .ref ne, .ref nm, .ref nn, .int (nI fi), .int (nI gl), .int (nI un), .int (nI mi), .int (nI no)])), (nk, .inl (y 0, 6, .inl fk)), (nd, .inr (1, [.ref nl, .ref na, .ref ns, .int nst, .int ncl, .int nnu])), (nl, .inl (y 0, 6, .inl nfl)), (na, .inl (y 0, 5, .inl nfa)), (ns, .inl (y 0, 5, .inl nfs)), (nm, .inl (y 6, 4, .inr (.inr (.inr (.inr fm))))), (m0, .inl (y 0, 4, .inl m0f)), (m1, .inl (y 0, 4, .inl m1f)), (m2, .inl (y 0, 4, .inl m2f)), (m3, .inl (y 0, 4, .inl m3f)), (nn, .inl (y 6, 6, .inr (.inr (.inr (.inr fn_))))), (t0, .inl (y 0, 5, .inl t0f)), (t2, .inl (y 0, 5, .inl t2f)), (t3, .inl (y 0, 5, .inl t3f)), (t4, .inl (y 0, 5, .inl t4f)), (t5, .inl (y 0, 5, .inl t5f)), (tx, .inr (7, [.ref bys, .int (nI ln), .int tok, .int (nI sta), .int (nI en), .int num, .ref wo, .ref fs, .ref sc, .int tfi, .int tgl, .int tst])), (t1, .inl (y 0, 5, .inl t1f))] H := hP
                                  have hD : va_D A [(g, .inr (10, [.ref kk, .ref nw, .ref im, .ref kp, .ref tx, .ref tr, .ref be, .ref sh, .ref sd, .ref rf, .int ab, .int bl])), (nw, .inr (4, [.ref kk, .ref nk, .ref nd, .ref ne, .ref nm, .ref nn, .int (nI fi), .int (nI gl), .int (nI un), .int (nI mi), .int (nI no)])), (nk, .inl (y 0, 6, .inl fk)), (nd, .inr (1, [.ref nl, .ref na, .ref ns, .int nst, .int ncl, .int nnu])), (nl, .inl (y 0, 6, .inl nfl)), (na, .inl (y 0, 5, .inl nfa)), (ns, .inl (y 0, 5, .inl nfs)), (nm, .inl (y 6, 4, .inr (.inr (.inr (.inr fm))))), (m0, .inl (y 0, 4, .inl m0f)), (m1, .inl (y 0, 4, .inl m1f)), (m2, .inl (y 0, 4, .inl m2f)), (m3, .inl (y 0, 4, .inl m3f)), (nn, .inl (y 6, 6, .inr (.inr (.inr (.inr fn_))))), (t0, .inl (y 0, 5, .inl t0f)), (t2, .inl (y 0, 5, .inl t2f)), (t3, .inl (y 0, 5, .inl t3f)), (t4, .inl (y 0, 5, .inl t4f)), (t5, .inl (y 0, 5, .inl t5f)), (tx, .inr (7, [.ref bys, .int (nI ln), .int tok, .int (nI sta), .int (nI en), .int num, .ref wo, .ref fs, .ref sc, .int tfi, .int tgl, .int tst])), (t1, .inl (y 0, 5, .inl t1f))] := hD
                                  refine lv_lstore_n (lv' := [(1, .long r8065), (3, .int (nI 1)), (0, .ref g)]) hx hb dX10_digest_191 rfl hl (by decide) rfl (fun ls hl => ?_)
                                  refine lv_iinc (v := (nI 2)) (lv' := [(3, .int (nI 2)), (1, .long r8065), (0, .ref g)]) hx hb dX10_digest_192 hl (k := 1) rfl (nI_1 1) (by decide) rfl (fun ls hl => ?_)
                                  refine lv_goto (tgt := 167) hx hb dX10_digest_195 (by decide) ?_
                                  exact ihj95 2 r8065 H locs ls (by omega) (by omega)  (hP.sub [0, 1, 2, 3, 4, 5, 6, 7, 8, 9, 10, 11, 12, 13, 19, 14, 15, 16, 17, 18] rfl) (hD.sub [0, 1, 2, 3, 4, 5, 6, 7, 8, 9, 10, 11, 12, 13, 19, 14, 15, 16, 17, 18] (by decide) rfl) hS (lv_sub hl [0, 1, 2] rfl)
                                · skip
                                  refine kw_aldQ hx hb hK hP 12 6 rfl rfl (vp_in_nI (by omega) (by decide)) dX10_digest_187 ?_
                                  rw [nI_clamp (n := 2) (by omega), show va_rf (fn_ 2) = .ref t2 from congrArg va_rf hn2]
                                  have hs8067 : kw_Split [(g, .inr (10, [.ref kk, .ref nw, .ref im, .ref kp, .ref tx, .ref tr, .ref be, .ref sh, .ref sd, .ref rf, .int ab, .int bl])), (nw, .inr (4, [.ref kk, .ref nk, .ref nd, .ref ne, .ref nm, .ref nn, .int (nI fi), .int (nI gl), .int (nI un), .int (nI mi), .int (nI no)])), (nk, .inl (y 0, 6, .inl fk)), (nd, .inr (1, [.ref nl, .ref na, .ref ns, .int nst, .int ncl, .int nnu])), (nl, .inl (y 0, 6, .inl nfl)), (na, .inl (y 0, 5, .inl nfa)), (ns, .inl (y 0, 5, .inl nfs)), (nm, .inl (y 6, 4, .inr (.inr (.inr (.inr fm))))), (m0, .inl (y 0, 4, .inl m0f)), (m1, .inl (y 0, 4, .inl m1f)), (m2, .inl (y 0, 4, .inl m2f)), (m3, .inl (y 0, 4, .inl m3f)), (nn, .inl (y 6, 6, .inr (.inr (.inr (.inr fn_))))), (t0, .inl (y 0, 5, .inl t0f)), (t1, .inl (y 0, 5, .inl t1f)), (t2, .inl (y 0, 5, .inl t2f)), (t3, .inl (y 0, 5, .inl t3f)), (t4, .inl (y 0, 5, .inl t4f)), (t5, .inl (y 0, 5, .inl t5f)), (tx, .inr (7, [.ref bys, .int (nI ln), .int tok, .int (nI sta), .int (nI en), .int num, .ref wo, .ref fs, .ref sc, .int tfi, .int tgl, .int tst]))] [(t2, .inl (y 0, 5, .inl t2f))] [(g, .inr (10, [.ref kk, .ref nw, .ref im, .ref kp, .ref tx, .ref tr, .ref be, .ref sh, .ref sd, .ref rf, .int ab, .int bl])), (nw, .inr (4, [.ref kk, .ref nk, .ref nd, .ref ne, .ref nm, .ref nn, .int (nI fi), .int (nI gl), .int (nI un), .int (nI mi), .int (nI no)])), (nk, .inl (y 0, 6, .inl fk)), (nd, .inr (1, [.ref nl, .ref na, .ref ns, .int nst, .int ncl, .int nnu])), (nl, .inl (y 0, 6, .inl nfl)), (na, .inl (y 0, 5, .inl nfa)), (ns, .inl (y 0, 5, .inl nfs)), (nm, .inl (y 6, 4, .inr (.inr (.inr (.inr fm))))), (m0, .inl (y 0, 4, .inl m0f)), (m1, .inl (y 0, 4, .inl m1f)), (m2, .inl (y 0, 4, .inl m2f)), (m3, .inl (y 0, 4, .inl m3f)), (nn, .inl (y 6, 6, .inr (.inr (.inr (.inr fn_))))), (t0, .inl (y 0, 5, .inl t0f)), (t1, .inl (y 0, 5, .inl t1f)), (t3, .inl (y 0, 5, .inl t3f)), (t4, .inl (y 0, 5, .inl t4f)), (t5, .inl (y 0, 5, .inl t5f)), (tx, .inr (7, [.ref bys, .int (nI ln), .int tok, .int (nI sta), .int (nI en), .int num, .ref wo, .ref fs, .ref sc, .int tfi, .int tgl, .int tst]))] [15] [0, 1, 2, 3, 4, 5, 6, 7, 8, 9, 10, 11, 12, 13, 14, 16, 17, 18, 19] := ⟨rfl, rfl, rfl, rfl, rfl, by decide⟩
                                  refine kw_go_l hs8067 hP hD hS hA (va_runS (As := [.long x8025, .ref t2]) (rest := []) ⟨hx, hb, hml, hown, hts⟩ (gc_mixRow5 l D y x8025 t2 t2f  _) (va_cwS 2 hts gX10_digest_X10_mixRow rfl rfl rfl (by decide +kernel) ⟨Nat.le_of_ble_eq_true rfl, Nat.le_of_ble_eq_true rfl⟩) (kw_PreS hs8067 hP hD hK hN) rfl rfl hl.1 rfl (lv_room (Nat.le_of_ble_eq_true rfl)) dX10_digest_188 ⟨Nat.le_of_ble_eq_true rfl, Nat.le_of_ble_eq_true rfl⟩) (fun r8068 u8069 H locs hq hP hD hS => ?_)
                                  have hP : va_P D vwCl [(g, .inr (10, [.ref kk, .ref nw, .ref im, .ref kp, .ref tx, .ref tr, .ref be, .ref sh, .ref sd, .ref rf, .int ab, .int bl])), (nw, .inr (4, [.ref kk, .ref nk, .ref nd, .ref ne, .ref nm, .ref nn, .int (nI fi), .int (nI gl), .int (nI un), .int (nI mi), .int (nI no)])), (nk, .inl (y 0, 6, .inl fk)), (nd, .inr (1, [.ref nl, .ref na, .ref ns, .int nst, .int ncl, .int nnu])), (nl, .inl (y 0, 6, .inl nfl)), (na, .inl (y 0, 5, .inl nfa)), (ns, .inl (y 0, 5, .inl nfs)), (nm, .inl (y 6, 4, .inr (.inr (.inr (.inr fm))))), (m0, .inl (y 0, 4, .inl m0f)), (m1, .inl (y 0, 4, .inl m1f)), (m2, .inl (y 0, 4, .inl m2f)), (m3, .inl (y 0, 4, .inl m3f)), (nn, .inl (y 6, 6, .inr (.inr (.inr (.inr fn_))))), (t0, .inl (y 0, 5, .inl t0f)), (t1, .inl (y 0, 5, .inl t1f)), (t3, .inl (y 0, 5, .inl t3f)), (t4, .inl (y 0, 5, .inl t4f)), (t5, .inl (y 0, 5, .inl t5f)), (tx, .inr (7, [.ref bys, .int (nI ln), .int tok, .int (nI sta), .int (nI en), .int num, .ref wo, .ref fs, .ref sc, .int tfi, .int tgl, .int tst])), (t2, .inl (y 0, 5, .inl t2f))] H := hP
                                  have hD : va_D A [(g, .inr (10, [.ref kk, .ref nw, .ref im, .ref kp, .ref tx, .ref tr, .ref be, .ref sh, .ref sd, .ref rf, .int ab, .int bl])), (nw, .inr (4, [.ref kk, .ref nk, .ref nd, .ref ne, .ref nm, .ref nn, .int (nI fi), .int (nI gl), .int (nI un), .int (nI mi), .int (nI no)])), (nk, .inl (y 0, 6, .inl fk)), (nd, .inr (1, [.ref nl, .ref na, .ref ns, .int nst, .int ncl, .int nnu])), (nl, .inl (y 0, 6, .inl nfl)), (na, .inl (y 0, 5, .inl nfa)), (ns, .inl (y 0, 5, .inl nfs)), (nm, .inl (y 6, 4, .inr (.inr (.inr (.inr fm))))), (m0, .inl (y 0, 4, .inl m0f)), (m1, .inl (y 0, 4, .inl m1f)), (m2, .inl (y 0, 4, .inl m2f)), (m3, .inl (y 0, 4, .inl m3f)), (nn, .inl (y 6, 6, .inr (.inr (.inr (.inr fn_))))), (t0, .inl (y 0, 5, .inl t0f)), (t1, .inl (y 0, 5, .inl t1f)), (t3, .inl (y 0, 5, .inl t3f)), (t4, .inl (y 0, 5, .inl t4f)), (t5, .inl (y 0, 5, .inl t5f)), (tx, .inr (7, [.ref bys, .int (nI ln), .int tok, .int (nI sta), .int (nI en), .int num, .ref wo, .ref fs, .ref sc, .int tfi, .int tgl, .int tst])), (t2, .inl (y 0, 5, .inl t2f))] := hD
                                  refine lv_lstore_n (lv' := [(1, .long r8068), (3, .int (nI 2)), (0, .ref g)]) hx hb dX10_digest_191 rfl hl (by decide) rfl (fun ls hl => ?_)
                                  refine lv_iinc (v := (nI 3)) (lv' := [(3, .int (nI 3)), (1, .long r8068), (0, .ref g)]) hx hb dX10_digest_192 hl (k := 1) rfl (nI_1 2) (by decide) rfl (fun ls hl => ?_)
                                  refine lv_goto (tgt := 167) hx hb dX10_digest_195 (by decide) ?_
                                  exact ihj95 3 r8068 H locs ls (by omega) (by omega)  (hP.sub [0, 1, 2, 3, 4, 5, 6, 7, 8, 9, 10, 11, 12, 13, 14, 19, 15, 16, 17, 18] rfl) (hD.sub [0, 1, 2, 3, 4, 5, 6, 7, 8, 9, 10, 11, 12, 13, 14, 19, 15, 16, 17, 18] (by decide) rfl) hS (lv_sub hl [0, 1, 2] rfl)
                                · skip
                                  refine kw_aldQ hx hb hK hP 12 6 rfl rfl (vp_in_nI (by omega) (by decide)) dX10_digest_187 ?_
                                  rw [nI_clamp (n := 3) (by omega), show va_rf (fn_ 3) = .ref t3 from congrArg va_rf hn3]
                                  have hs8070 : kw_Split [(g, .inr (10, [.ref kk, .ref nw, .ref im, .ref kp, .ref tx, .ref tr, .ref be, .ref sh, .ref sd, .ref rf, .int ab, .int bl])), (nw, .inr (4, [.ref kk, .ref nk, .ref nd, .ref ne, .ref nm, .ref nn, .int (nI fi), .int (nI gl), .int (nI un), .int (nI mi), .int (nI no)])), (nk, .inl (y 0, 6, .inl fk)), (nd, .inr (1, [.ref nl, .ref na, .ref ns, .int nst, .int ncl, .int nnu])), (nl, .inl (y 0, 6, .inl nfl)), (na, .inl (y 0, 5, .inl nfa)), (ns, .inl (y 0, 5, .inl nfs)), (nm, .inl (y 6, 4, .inr (.inr (.inr (.inr fm))))), (m0, .inl (y 0, 4, .inl m0f)), (m1, .inl (y 0, 4, .inl m1f)), (m2, .inl (y 0, 4, .inl m2f)), (m3, .inl (y 0, 4, .inl m3f)), (nn, .inl (y 6, 6, .inr (.inr (.inr (.inr fn_))))), (t0, .inl (y 0, 5, .inl t0f)), (t1, .inl (y 0, 5, .inl t1f)), (t2, .inl (y 0, 5, .inl t2f)), (t3, .inl (y 0, 5, .inl t3f)), (t4, .inl (y 0, 5, .inl t4f)), (t5, .inl (y 0, 5, .inl t5f)), (tx, .inr (7, [.ref bys, .int (nI ln), .int tok, .int (nI sta), .int (nI en), .int num, .ref wo, .ref fs, .ref sc, .int tfi, .int tgl, .int tst]))] [(t3, .inl (y 0, 5, .inl t3f))] [(g, .inr (10, [.ref kk, .ref nw, .ref im, .ref kp, .ref tx, .ref tr, .ref be, .ref sh, .ref sd, .ref rf, .int ab, .int bl])), (nw, .inr (4, [.ref kk, .ref nk, .ref nd, .ref ne, .ref nm, .ref nn, .int (nI fi), .int (nI gl), .int (nI un), .int (nI mi), .int (nI no)])), (nk, .inl (y 0, 6, .inl fk)), (nd, .inr (1, [.ref nl, .ref na, .ref ns, .int nst, .int ncl, .int nnu])), (nl, .inl (y 0, 6, .inl nfl)), (na, .inl (y 0, 5, .inl nfa)), (ns, .inl (y 0, 5, .inl nfs)), (nm, .inl (y 6, 4, .inr (.inr (.inr (.inr fm))))), (m0, .inl (y 0, 4, .inl m0f)), (m1, .inl (y 0, 4, .inl m1f)), (m2, .inl (y 0, 4, .inl m2f)), (m3, .inl (y 0, 4, .inl m3f)), (nn, .inl (y 6, 6, .inr (.inr (.inr (.inr fn_))))), (t0, .inl (y 0, 5, .inl t0f)), (t1, .inl (y 0, 5, .inl t1f)), (t2, .inl (y 0, 5, .inl t2f)), (t4, .inl (y 0, 5, .inl t4f)), (t5, .inl (y 0, 5, .inl t5f)), (tx, .inr (7, [.ref bys, .int (nI ln), .int tok, .int (nI sta), .int (nI en), .int num, .ref wo, .ref fs, .ref sc, .int tfi, .int tgl, .int tst]))] [16] [0, 1, 2, 3, 4, 5, 6, 7, 8, 9, 10, 11, 12, 13, 14, 15, 17, 18, 19] := ⟨rfl, rfl, rfl, rfl, rfl, by decide⟩
                                  refine kw_go_l hs8070 hP hD hS hA (va_runS (As := [.long x8025, .ref t3]) (rest := []) ⟨hx, hb, hml, hown, hts⟩ (gc_mixRow5 l D y x8025 t3 t3f  _) (va_cwS 2 hts gX10_digest_X10_mixRow rfl rfl rfl (by decide +kernel) ⟨Nat.le_of_ble_eq_true rfl, Nat.le_of_ble_eq_true rfl⟩) (kw_PreS hs8070 hP hD hK hN) rfl rfl hl.1 rfl (lv_room (Nat.le_of_ble_eq_true rfl)) dX10_digest_188 ⟨Nat.le_of_ble_eq_true rfl, Nat.le_of_ble_eq_true rfl⟩) (fun r8071 u8072 H locs hq hP hD hS => ?_)
                                  have hP : va_P D vwCl [(g, .inr (10, [.ref kk, .ref nw, .ref im, .ref kp, .ref tx, .ref tr, .ref be, .ref sh, .ref sd, .ref rf, .int ab, .int bl])), (nw, .inr (4, [.ref kk, .ref nk, .ref nd, .ref ne, .ref nm, .ref nn, .int (nI fi), .int (nI gl), .int (nI un), .int (nI mi), .int (nI no)])), (nk, .inl (y 0, 6, .inl fk)), (nd, .inr (1, [.ref nl, .ref na, .ref ns, .int nst, .int ncl, .int nnu])), (nl, .inl (y 0, 6, .inl nfl)), (na, .inl (y 0, 5, .inl nfa)), (ns, .inl (y 0, 5, .inl nfs)), (nm, .inl (y 6, 4, .inr (.inr (.inr (.inr fm))))), (m0, .inl (y 0, 4, .inl m0f)), (m1, .inl (y 0, 4, .inl m1f)), (m2, .inl (y 0, 4, .inl m2f)), (m3, .inl (y 0, 4, .inl m3f)), (nn, .inl (y 6, 6, .inr (.inr (.inr (.inr fn_))))), (t0, .inl (y 0, 5, .inl t0f)), (t1, .inl (y 0, 5, .inl t1f)), (t2, .inl (y 0, 5, .inl t2f)), (t4, .inl (y 0, 5, .inl t4f)), (t5, .inl (y 0, 5, .inl t5f)), (tx, .inr (7, [.ref bys, .int (nI ln), .int tok, .int (nI sta), .int (nI en), .int num, .ref wo, .ref fs, .ref sc, .int tfi, .int tgl, .int tst])), (t3, .inl (y 0, 5, .inl t3f))] H := hP
                                  have hD : va_D A [(g, .inr (10, [.ref kk, .ref nw, .ref im, .ref kp, .ref tx, .ref tr, .ref be, .ref sh, .ref sd, .ref rf, .int ab, .int bl])), (nw, .inr (4, [.ref kk, .ref nk, .ref nd, .ref ne, .ref nm, .ref nn, .int (nI fi), .int (nI gl), .int (nI un), .int (nI mi), .int (nI no)])), (nk, .inl (y 0, 6, .inl fk)), (nd, .inr (1, [.ref nl, .ref na, .ref ns, .int nst, .int ncl, .int nnu])), (nl, .inl (y 0, 6, .inl nfl)), (na, .inl (y 0, 5, .inl nfa)), (ns, .inl (y 0, 5, .inl nfs)), (nm, .inl (y 6, 4, .inr (.inr (.inr (.inr fm))))), (m0, .inl (y 0, 4, .inl m0f)), (m1, .inl (y 0, 4, .inl m1f)), (m2, .inl (y 0, 4, .inl m2f)), (m3, .inl (y 0, 4, .inl m3f)), (nn, .inl (y 6, 6, .inr (.inr (.inr (.inr fn_))))), (t0, .inl (y 0, 5, .inl t0f)), (t1, .inl (y 0, 5, .inl t1f)), (t2, .inl (y 0, 5, .inl t2f)), (t4, .inl (y 0, 5, .inl t4f)), (t5, .inl (y 0, 5, .inl t5f)), (tx, .inr (7, [.ref bys, .int (nI ln), .int tok, .int (nI sta), .int (nI en), .int num, .ref wo, .ref fs, .ref sc, .int tfi, .int tgl, .int tst])), (t3, .inl (y 0, 5, .inl t3f))] := hD
                                  refine lv_lstore_n (lv' := [(1, .long r8071), (3, .int (nI 3)), (0, .ref g)]) hx hb dX10_digest_191 rfl hl (by decide) rfl (fun ls hl => ?_)
                                  refine lv_iinc (v := (nI 4)) (lv' := [(3, .int (nI 4)), (1, .long r8071), (0, .ref g)]) hx hb dX10_digest_192 hl (k := 1) rfl (nI_1 3) (by decide) rfl (fun ls hl => ?_)
                                  refine lv_goto (tgt := 167) hx hb dX10_digest_195 (by decide) ?_
                                  exact ihj95 4 r8071 H locs ls (by omega) (by omega)  (hP.sub [0, 1, 2, 3, 4, 5, 6, 7, 8, 9, 10, 11, 12, 13, 14, 15, 19, 16, 17, 18] rfl) (hD.sub [0, 1, 2, 3, 4, 5, 6, 7, 8, 9, 10, 11, 12, 13, 14, 15, 19, 16, 17, 18] (by decide) rfl) hS (lv_sub hl [0, 1, 2] rfl)
                                · skip
                                  refine kw_aldQ hx hb hK hP 12 6 rfl rfl (vp_in_nI (by omega) (by decide)) dX10_digest_187 ?_
                                  rw [nI_clamp (n := 4) (by omega), show va_rf (fn_ 4) = .ref t4 from congrArg va_rf hn4]
                                  have hs8073 : kw_Split [(g, .inr (10, [.ref kk, .ref nw, .ref im, .ref kp, .ref tx, .ref tr, .ref be, .ref sh, .ref sd, .ref rf, .int ab, .int bl])), (nw, .inr (4, [.ref kk, .ref nk, .ref nd, .ref ne, .ref nm, .ref nn, .int (nI fi), .int (nI gl), .int (nI un), .int (nI mi), .int (nI no)])), (nk, .inl (y 0, 6, .inl fk)), (nd, .inr (1, [.ref nl, .ref na, .ref ns, .int nst, .int ncl, .int nnu])), (nl, .inl (y 0, 6, .inl nfl)), (na, .inl (y 0, 5, .inl nfa)), (ns, .inl (y 0, 5, .inl nfs)), (nm, .inl (y 6, 4, .inr (.inr (.inr (.inr fm))))), (m0, .inl (y 0, 4, .inl m0f)), (m1, .inl (y 0, 4, .inl m1f)), (m2, .inl (y 0, 4, .inl m2f)), (m3, .inl (y 0, 4, .inl m3f)), (nn, .inl (y 6, 6, .inr (.inr (.inr (.inr fn_))))), (t0, .inl (y 0, 5, .inl t0f)), (t1, .inl (y 0, 5, .inl t1f)), (t2, .inl (y 0, 5, .inl t2f)), (t3, .inl (y 0, 5, .inl t3f)), (t4, .inl (y 0, 5, .inl t4f)), (t5, .inl (y 0, 5, .inl t5f)), (tx, .inr (7, [.ref bys, .int (nI ln), .int tok, .int (nI sta), .int (nI en), .int num, .ref wo, .ref fs, .ref sc, .int tfi, .int tgl, .int tst]))] [(t4, .inl (y 0, 5, .inl t4f))] [(g, .inr (10, [.ref kk, .ref nw, .ref im, .ref kp, .ref tx, .ref tr, .ref be, .ref sh, .ref sd, .ref rf, .int ab, .int bl])), (nw, .inr (4, [.ref kk, .ref nk, .ref nd, .ref ne, .ref nm, .ref nn, .int (nI fi), .int (nI gl), .int (nI un), .int (nI mi), .int (nI no)])), (nk, .inl (y 0, 6, .inl fk)), (nd, .inr (1, [.ref nl, .ref na, .ref ns, .int nst, .int ncl, .int nnu])), (nl, .inl (y 0, 6, .inl nfl)), (na, .inl (y 0, 5, .inl nfa)), (ns, .inl (y 0, 5, .inl nfs)), (nm, .inl (y 6, 4, .inr (.inr (.inr (.inr fm))))), (m0, .inl (y 0, 4, .inl m0f)), (m1, .inl (y 0, 4, .inl m1f)), (m2, .inl (y 0, 4, .inl m2f)), (m3, .inl (y 0, 4, .inl m3f)), (nn, .inl (y 6, 6, .inr (.inr (.inr (.inr fn_))))), (t0, .inl (y 0, 5, .inl t0f)), (t1, .inl (y 0, 5, .inl t1f)), (t2, .inl (y 0, 5, .inl t2f)), (t3, .inl (y 0, 5, .inl t3f)), (t5, .inl (y 0, 5, .inl t5f)), (tx, .inr (7, [.ref bys, .int (nI ln), .int tok, .int (nI sta), .int (nI en), .int num, .ref wo, .ref fs, .ref sc, .int tfi, .int tgl, .int tst]))] [17] [0, 1, 2, 3, 4, 5, 6, 7, 8, 9, 10, 11, 12, 13, 14, 15, 16, 18, 19] := ⟨rfl, rfl, rfl, rfl, rfl, by decide⟩
                                  refine kw_go_l hs8073 hP hD hS hA (va_runS (As := [.long x8025, .ref t4]) (rest := []) ⟨hx, hb, hml, hown, hts⟩ (gc_mixRow5 l D y x8025 t4 t4f  _) (va_cwS 2 hts gX10_digest_X10_mixRow rfl rfl rfl (by decide +kernel) ⟨Nat.le_of_ble_eq_true rfl, Nat.le_of_ble_eq_true rfl⟩) (kw_PreS hs8073 hP hD hK hN) rfl rfl hl.1 rfl (lv_room (Nat.le_of_ble_eq_true rfl)) dX10_digest_188 ⟨Nat.le_of_ble_eq_true rfl, Nat.le_of_ble_eq_true rfl⟩) (fun r8074 u8075 H locs hq hP hD hS => ?_)
                                  have hP : va_P D vwCl [(g, .inr (10, [.ref kk, .ref nw, .ref im, .ref kp, .ref tx, .ref tr, .ref be, .ref sh, .ref sd, .ref rf, .int ab, .int bl])), (nw, .inr (4, [.ref kk, .ref nk, .ref nd, .ref ne, .ref nm, .ref nn, .int (nI fi), .int (nI gl), .int (nI un), .int (nI mi), .int (nI no)])), (nk, .inl (y 0, 6, .inl fk)), (nd, .inr (1, [.ref nl, .ref na, .ref ns, .int nst, .int ncl, .int nnu])), (nl, .inl (y 0, 6, .inl nfl)), (na, .inl (y 0, 5, .inl nfa)), (ns, .inl (y 0, 5, .inl nfs)), (nm, .inl (y 6, 4, .inr (.inr (.inr (.inr fm))))), (m0, .inl (y 0, 4, .inl m0f)), (m1, .inl (y 0, 4, .inl m1f)), (m2, .inl (y 0, 4, .inl m2f)), (m3, .inl (y 0, 4, .inl m3f)), (nn, .inl (y 6, 6, .inr (.inr (.inr (.inr fn_))))), (t0, .inl (y 0, 5, .inl t0f)), (t1, .inl (y 0, 5, .inl t1f)), (t2, .inl (y 0, 5, .inl t2f)), (t3, .inl (y 0, 5, .inl t3f)), (t5, .inl (y 0, 5, .inl t5f)), (tx, .inr (7, [.ref bys, .int (nI ln), .int tok, .int (nI sta), .int (nI en), .int num, .ref wo, .ref fs, .ref sc, .int tfi, .int tgl, .int tst])), (t4, .inl (y 0, 5, .inl t4f))] H := hP
                                  have hD : va_D A [(g, .inr (10, [.ref kk, .ref nw, .ref im, .ref kp, .ref tx, .ref tr, .ref be, .ref sh, .ref sd, .ref rf, .int ab, .int bl])), (nw, .inr (4, [.ref kk, .ref nk, .ref nd, .ref ne, .ref nm, .ref nn, .int (nI fi), .int (nI gl), .int (nI un), .int (nI mi), .int (nI no)])), (nk, .inl (y 0, 6, .inl fk)), (nd, .inr (1, [.ref nl, .ref na, .ref ns, .int nst, .int ncl, .int nnu])), (nl, .inl (y 0, 6, .inl nfl)), (na, .inl (y 0, 5, .inl nfa)), (ns, .inl (y 0, 5, .inl nfs)), (nm, .inl (y 6, 4, .inr (.inr (.inr (.inr fm))))), (m0, .inl (y 0, 4, .inl m0f)), (m1, .inl (y 0, 4, .inl m1f)), (m2, .inl (y 0, 4, .inl m2f)), (m3, .inl (y 0, 4, .inl m3f)), (nn, .inl (y 6, 6, .inr (.inr (.inr (.inr fn_))))), (t0, .inl (y 0, 5, .inl t0f)), (t1, .inl (y 0, 5, .inl t1f)), (t2, .inl (y 0, 5, .inl t2f)), (t3, .inl (y 0, 5, .inl t3f)), (t5, .inl (y 0, 5, .inl t5f)), (tx, .inr (7, [.ref bys, .int (nI ln), .int tok, .int (nI sta), .int (nI en), .int num, .ref wo, .ref fs, .ref sc, .int tfi, .int tgl, .int tst])), (t4, .inl (y 0, 5, .inl t4f))] := hD
                                  refine lv_lstore_n (lv' := [(1, .long r8074), (3, .int (nI 4)), (0, .ref g)]) hx hb dX10_digest_191 rfl hl (by decide) rfl (fun ls hl => ?_)
                                  refine lv_iinc (v := (nI 5)) (lv' := [(3, .int (nI 5)), (1, .long r8074), (0, .ref g)]) hx hb dX10_digest_192 hl (k := 1) rfl (nI_1 4) (by decide) rfl (fun ls hl => ?_)
                                  refine lv_goto (tgt := 167) hx hb dX10_digest_195 (by decide) ?_
                                  exact ihj95 5 r8074 H locs ls (by omega) (by omega)  (hP.sub [0, 1, 2, 3, 4, 5, 6, 7, 8, 9, 10, 11, 12, 13, 14, 15, 16, 19, 17, 18] rfl) (hD.sub [0, 1, 2, 3, 4, 5, 6, 7, 8, 9, 10, 11, 12, 13, 14, 15, 16, 19, 17, 18] (by decide) rfl) hS (lv_sub hl [0, 1, 2] rfl)
                                · skip
                                  refine kw_aldQ hx hb hK hP 12 6 rfl rfl (vp_in_nI (by omega) (by decide)) dX10_digest_187 ?_
                                  rw [nI_clamp (n := 5) (by omega), show va_rf (fn_ 5) = .ref t5 from congrArg va_rf hn5]
                                  have hs8076 : kw_Split [(g, .inr (10, [.ref kk, .ref nw, .ref im, .ref kp, .ref tx, .ref tr, .ref be, .ref sh, .ref sd, .ref rf, .int ab, .int bl])), (nw, .inr (4, [.ref kk, .ref nk, .ref nd, .ref ne, .ref nm, .ref nn, .int (nI fi), .int (nI gl), .int (nI un), .int (nI mi), .int (nI no)])), (nk, .inl (y 0, 6, .inl fk)), (nd, .inr (1, [.ref nl, .ref na, .ref ns, .int nst, .int ncl, .int nnu])), (nl, .inl (y 0, 6, .inl nfl)), (na, .inl (y 0, 5, .inl nfa)), (ns, .inl (y 0, 5, .inl nfs)), (nm, .inl (y 6, 4, .inr (.inr (.inr (.inr fm))))), (m0, .inl (y 0, 4, .inl m0f)), (m1, .inl (y 0, 4, .inl m1f)), (m2, .inl (y 0, 4, .inl m2f)), (m3, .inl (y 0, 4, .inl m3f)), (nn, .inl (y 6, 6, .inr (.inr (.inr (.inr fn_))))), (t0, .inl (y 0, 5, .inl t0f)), (t1, .inl (y 0, 5, .inl t1f)), (t2, .inl (y 0, 5, .inl t2f)), (t3, .inl (y 0, 5, .inl t3f)), (t4, .inl (y 0, 5, .inl t4f)), (t5, .inl (y 0, 5, .inl t5f)), (tx, .inr (7, [.ref bys, .int (nI ln), .int tok, .int (nI sta), .int (nI en), .int num, .ref wo, .ref fs, .ref sc, .int tfi, .int tgl, .int tst]))] [(t5, .inl (y 0, 5, .inl t5f))] [(g, .inr (10, [.ref kk, .ref nw, .ref im, .ref kp, .ref tx, .ref tr, .ref be, .ref sh, .ref sd, .ref rf, .int ab, .int bl])), (nw, .inr (4, [.ref kk, .ref nk, .ref nd, .ref ne, .ref nm, .ref nn, .int (nI fi), .int (nI gl), .int (nI un), .int (nI mi), .int (nI no)])), (nk, .inl (y 0, 6, .inl fk)), (nd, .inr (1, [.ref nl, .ref na, .ref ns, .int nst, .int ncl, .int nnu])), (nl, .inl (y 0, 6, .inl nfl)), (na, .inl (y 0, 5, .inl nfa)), (ns, .inl (y 0, 5, .inl nfs)), (nm, .inl (y 6, 4, .inr (.inr (.inr (.inr fm))))), (m0, .inl (y 0, 4, .inl m0f)), (m1, .inl (y 0, 4, .inl m1f)), (m2, .inl (y 0, 4, .inl m2f)), (m3, .inl (y 0, 4, .inl m3f)), (nn, .inl (y 6, 6, .inr (.inr (.inr (.inr fn_))))), (t0, .inl (y 0, 5, .inl t0f)), (t1, .inl (y 0, 5, .inl t1f)), (t2, .inl (y 0, 5, .inl t2f)), (t3, .inl (y 0, 5, .inl t3f)), (t4, .inl (y 0, 5, .inl t4f)), (tx, .inr (7, [.ref bys, .int (nI ln), .int tok, .int (nI sta), .int (nI en), .int num, .ref wo, .ref fs, .ref sc, .int tfi, .int tgl, .int tst]))] [18] [0, 1, 2, 3, 4, 5, 6, 7, 8, 9, 10, 11, 12, 13, 14, 15, 16, 17, 19] := ⟨rfl, rfl, rfl, rfl, rfl, by decide⟩
                                  refine kw_go_l hs8076 hP hD hS hA (va_runS (As := [.long x8025, .ref t5]) (rest := []) ⟨hx, hb, hml, hown, hts⟩ (gc_mixRow5 l D y x8025 t5 t5f  _) (va_cwS 2 hts gX10_digest_X10_mixRow rfl rfl rfl (by decide +kernel) ⟨Nat.le_of_ble_eq_true rfl, Nat.le_of_ble_eq_true rfl⟩) (kw_PreS hs8076 hP hD hK hN) rfl rfl hl.1 rfl (lv_room (Nat.le_of_ble_eq_true rfl)) dX10_digest_188 ⟨Nat.le_of_ble_eq_true rfl, Nat.le_of_ble_eq_true rfl⟩) (fun r8077 u8078 H locs hq hP hD hS => ?_)
                                  have hP : va_P D vwCl [(g, .inr (10, [.ref kk, .ref nw, .ref im, .ref kp, .ref tx, .ref tr, .ref be, .ref sh, .ref sd, .ref rf, .int ab, .int bl])), (nw, .inr (4, [.ref kk, .ref nk, .ref nd, .ref ne, .ref nm, .ref nn, .int (nI fi), .int (nI gl), .int (nI un), .int (nI mi), .int (nI no)])), (nk, .inl (y 0, 6, .inl fk)), (nd, .inr (1, [.ref nl, .ref na, .ref ns, .int nst, .int ncl, .int nnu])), (nl, .inl (y 0, 6, .inl nfl)), (na, .inl (y 0, 5, .inl nfa)), (ns, .inl (y 0, 5, .inl nfs)), (nm, .inl (y 6, 4, .inr (.inr (.inr (.inr fm))))), (m0, .inl (y 0, 4, .inl m0f)), (m1, .inl (y 0, 4, .inl m1f)), (m2, .inl (y 0, 4, .inl m2f)), (m3, .inl (y 0, 4, .inl m3f)), (nn, .inl (y 6, 6, .inr (.inr (.inr (.inr fn_))))), (t0, .inl (y 0, 5, .inl t0f)), (t1, .inl (y 0, 5, .inl t1f)), (t2, .inl (y 0, 5, .inl t2f)), (t3, .inl (y 0, 5, .inl t3f)), (t4, .inl (y 0, 5, .inl t4f)), (tx, .inr (7, [.ref bys, .int (nI ln), .int tok, .int (nI sta), .int (nI en), .int num, .ref wo, .ref fs, .ref sc, .int tfi, .int tgl, .int tst])), (t5, .inl (y 0, 5, .inl t5f))] H := hP
                                  have hD : va_D A [(g, .inr (10, [.ref kk, .ref nw, .ref im, .ref kp, .ref tx, .ref tr, .ref be, .ref sh, .ref sd, .ref rf, .int ab, .int bl])), (nw, .inr (4, [.ref kk, .ref nk, .ref nd, .ref ne, .ref nm, .ref nn, .int (nI fi), .int (nI gl), .int (nI un), .int (nI mi), .int (nI no)])), (nk, .inl (y 0, 6, .inl fk)), (nd, .inr (1, [.ref nl, .ref na, .ref ns, .int nst, .int ncl, .int nnu])), (nl, .inl (y 0, 6, .inl nfl)), (na, .inl (y 0, 5, .inl nfa)), (ns, .inl (y 0, 5, .inl nfs)), (nm, .inl (y 6, 4, .inr (.inr (.inr (.inr fm))))), (m0, .inl (y 0, 4, .inl m0f)), (m1, .inl (y 0, 4, .inl m1f)), (m2, .inl (y 0, 4, .inl m2f)), (m3, .inl (y 0, 4, .inl m3f)), (nn, .inl (y 6, 6, .inr (.inr (.inr (.inr fn_))))), (t0, .inl (y 0, 5, .inl t0f)), (t1, .inl (y 0, 5, .inl t1f)), (t2, .inl (y 0, 5, .inl t2f)), (t3, .inl (y 0, 5, .inl t3f)), (t4, .inl (y 0, 5, .inl t4f)), (tx, .inr (7, [.ref bys, .int (nI ln), .int tok, .int (nI sta), .int (nI en), .int num, .ref wo, .ref fs, .ref sc, .int tfi, .int tgl, .int tst])), (t5, .inl (y 0, 5, .inl t5f))] := hD
                                  refine lv_lstore_n (lv' := [(1, .long r8077), (3, .int (nI 5)), (0, .ref g)]) hx hb dX10_digest_191 rfl hl (by decide) rfl (fun ls hl => ?_)
                                  refine lv_iinc (v := (nI 6)) (lv' := [(3, .int (nI 6)), (1, .long r8077), (0, .ref g)]) hx hb dX10_digest_192 hl (k := 1) rfl (nI_1 5) (by decide) rfl (fun ls hl => ?_)
                                  refine lv_goto (tgt := 167) hx hb dX10_digest_195 (by decide) ?_
                                  exact ihj95 6 r8077 H locs ls (by omega) (by omega)  (hP.sub [0, 1, 2, 3, 4, 5, 6, 7, 8, 9, 10, 11, 12, 13, 14, 15, 16, 17, 19, 18] rfl) (hD.sub [0, 1, 2, 3, 4, 5, 6, 7, 8, 9, 10, 11, 12, 13, 14, 15, 16, 17, 19, 18] (by decide) rfl) hS (lv_sub hl [0, 1, 2] rfl)
                          exact lp8052 (no + 1) 0 x7901 _ _ _ (by omega) (by omega)  hP hD hS (lv_sub hl [0, 1, 2] rfl)
                        · skip
                          have h7998 : ¬ mi ≤ j94 := fun q9 => h7998 ((nI_leI (a := mi) (b := j94) (by omega) (by omega)).mpr q9)
                          refine lv_lload_n hx hb dX10_digest_145 rfl (lv_at hl 1 rfl) ?_
                          refine lv_aload_n hx hb dX10_digest_146 rfl (lv_at hl 2 rfl) ?_
                          refine va_get (D := D) (ci := 10) (v := .ref nw) (C := RX10) (T := TX10) (N := 12) hx hb hts iw10 hown hK hP 0 rfl rfl 1 (by decide) fw2 (fun _ h9 => h9) rfl dX10_digest_147 ?_
                          refine va_get (D := D) (ci := 4) (v := .ref nm) (C := RX4) (T := TX4) (N := 11) hx hb hts iw4 hown hK hP 1 rfl rfl 4 (by decide) fw10 (fun _ h9 => h9) rfl dX10_digest_150 ?_
                          refine lv_iload_n hx hb dX10_digest_153 rfl (lv_at hl 0 rfl) ?_
                          rcases (show j94 = 0 ∨ j94 = 1 ∨ j94 = 2 ∨ j94 = 3 by omega) with rfl | rfl | rfl | rfl
                          · skip
                            refine kw_aldQ hx hb hK hP 7 6 rfl rfl (vp_in_nI (by omega) (by decide)) dX10_digest_154 ?_
                            rw [nI_clamp (n := 0) (by omega), show va_rf (fm 0) = .ref m0 from congrArg va_rf hm0]
                            have hs8079 : kw_Split [(g, .inr (10, [.ref kk, .ref nw, .ref im, .ref kp, .ref tx, .ref tr, .ref be, .ref sh, .ref sd, .ref rf, .int ab, .int bl])), (nw, .inr (4, [.ref kk, .ref nk, .ref nd, .ref ne, .ref nm, .ref nn, .int (nI fi), .int (nI gl), .int (nI un), .int (nI mi), .int (nI no)])), (nk, .inl (y 0, 6, .inl fk)), (nd, .inr (1, [.ref nl, .ref na, .ref ns, .int nst, .int ncl, .int nnu])), (nl, .inl (y 0, 6, .inl nfl)), (na, .inl (y 0, 5, .inl nfa)), (ns, .inl (y 0, 5, .inl nfs)), (nm, .inl (y 6, 4, .inr (.inr (.inr (.inr fm))))), (m0, .inl (y 0, 4, .inl m0f)), (m1, .inl (y 0, 4, .inl m1f)), (m2, .inl (y 0, 4, .inl m2f)), (m3, .inl (y 0, 4, .inl m3f)), (nn, .inl (y 6, 6, .inr (.inr (.inr (.inr fn_))))), (t0, .inl (y 0, 5, .inl t0f)), (t1, .inl (y 0, 5, .inl t1f)), (t2, .inl (y 0, 5, .inl t2f)), (t3, .inl (y 0, 5, .inl t3f)), (t4, .inl (y 0, 5, .inl t4f)), (t5, .inl (y 0, 5, .inl t5f)), (tx, .inr (7, [.ref bys, .int (nI ln), .int tok, .int (nI sta), .int (nI en), .int num, .ref wo, .ref fs, .ref sc, .int tfi, .int tgl, .int tst]))] [(m0, .inl (y 0, 4, .inl m0f))] [(g, .inr (10, [.ref kk, .ref nw, .ref im, .ref kp, .ref tx, .ref tr, .ref be, .ref sh, .ref sd, .ref rf, .int ab, .int bl])), (nw, .inr (4, [.ref kk, .ref nk, .ref nd, .ref ne, .ref nm, .ref nn, .int (nI fi), .int (nI gl), .int (nI un), .int (nI mi), .int (nI no)])), (nk, .inl (y 0, 6, .inl fk)), (nd, .inr (1, [.ref nl, .ref na, .ref ns, .int nst, .int ncl, .int nnu])), (nl, .inl (y 0, 6, .inl nfl)), (na, .inl (y 0, 5, .inl nfa)), (ns, .inl (y 0, 5, .inl nfs)), (nm, .inl (y 6, 4, .inr (.inr (.inr (.inr fm))))), (m1, .inl (y 0, 4, .inl m1f)), (m2, .inl (y 0, 4, .inl m2f)), (m3, .inl (y 0, 4, .inl m3f)), (nn, .inl (y 6, 6, .inr (.inr (.inr (.inr fn_))))), (t0, .inl (y 0, 5, .inl t0f)), (t1, .inl (y 0, 5, .inl t1f)), (t2, .inl (y 0, 5, .inl t2f)), (t3, .inl (y 0, 5, .inl t3f)), (t4, .inl (y 0, 5, .inl t4f)), (t5, .inl (y 0, 5, .inl t5f)), (tx, .inr (7, [.ref bys, .int (nI ln), .int tok, .int (nI sta), .int (nI en), .int num, .ref wo, .ref fs, .ref sc, .int tfi, .int tgl, .int tst]))] [8] [0, 1, 2, 3, 4, 5, 6, 7, 9, 10, 11, 12, 13, 14, 15, 16, 17, 18, 19] := ⟨rfl, rfl, rfl, rfl, rfl, by decide⟩
                            refine kw_go_l hs8079 hP hD hS hA (va_runS (As := [.long x7901, .ref m0]) (rest := []) ⟨hx, hb, hml, hown, hts⟩ (gc_mixRow4 l D y x7901 m0 m0f  _) (va_cwS 2 hts gX10_digest_X10_mixRow rfl rfl rfl (by decide +kernel) ⟨Nat.le_of_ble_eq_true rfl, Nat.le_of_ble_eq_true rfl⟩) (kw_PreS hs8079 hP hD hK hN) rfl rfl hl.1 rfl (lv_room (Nat.le_of_ble_eq_true rfl)) dX10_digest_155 ⟨Nat.le_of_ble_eq_true rfl, Nat.le_of_ble_eq_true rfl⟩) (fun r8080 u8081 H locs hq hP hD hS => ?_)
                            have hP : va_P D vwCl [(g, .inr (10, [.ref kk, .ref nw, .ref im, .ref kp, .ref tx, .ref tr, .ref be, .ref sh, .ref sd, .ref rf, .int ab, .int bl])), (nw, .inr (4, [.ref kk, .ref nk, .ref nd, .ref ne, .ref nm, .ref nn, .int (nI fi), .int (nI gl), .int (nI un), .int (nI mi), .int (nI no)])), (nk, .inl (y 0, 6, .inl fk)), (nd, .inr (1, [.ref nl, .ref na, .ref ns, .int nst, .int ncl, .int nnu])), (nl, .inl (y 0, 6, .inl nfl)), (na, .inl (y 0, 5, .inl nfa)), (ns, .inl (y 0, 5, .inl nfs)), (nm, .inl (y 6, 4, .inr (.inr (.inr (.inr fm))))), (m1, .inl (y 0, 4, .inl m1f)), (m2, .inl (y 0, 4, .inl m2f)), (m3, .inl (y 0, 4, .inl m3f)), (nn, .inl (y 6, 6, .inr (.inr (.inr (.inr fn_))))), (t0, .inl (y 0, 5, .inl t0f)), (t1, .inl (y 0, 5, .inl t1f)), (t2, .inl (y 0, 5, .inl t2f)), (t3, .inl (y 0, 5, .inl t3f)), (t4, .inl (y 0, 5, .inl t4f)), (t5, .inl (y 0, 5, .inl t5f)), (tx, .inr (7, [.ref bys, .int (nI ln), .int tok, .int (nI sta), .int (nI en), .int num, .ref wo, .ref fs, .ref sc, .int tfi, .int tgl, .int tst])), (m0, .inl (y 0, 4, .inl m0f))] H := hP
                            have hD : va_D A [(g, .inr (10, [.ref kk, .ref nw, .ref im, .ref kp, .ref tx, .ref tr, .ref be, .ref sh, .ref sd, .ref rf, .int ab, .int bl])), (nw, .inr (4, [.ref kk, .ref nk, .ref nd, .ref ne, .ref nm, .ref nn, .int (nI fi), .int (nI gl), .int (nI un), .int (nI mi), .int (nI no)])), (nk, .inl (y 0, 6, .inl fk)), (nd, .inr (1, [.ref nl, .ref na, .ref ns, .int nst, .int ncl, .int nnu])), (nl, .inl (y 0, 6, .inl nfl)), (na, .inl (y 0, 5, .inl nfa)), (ns, .inl (y 0, 5, .inl nfs)), (nm, .inl (y 6, 4, .inr (.inr (.inr (.inr fm))))), (m1, .inl (y 0, 4, .inl m1f)), (m2, .inl (y 0, 4, .inl m2f)), (m3, .inl (y 0, 4, .inl m3f)), (nn, .inl (y 6, 6, .inr (.inr (.inr (.inr fn_))))), (t0, .inl (y 0, 5, .inl t0f)), (t1, .inl (y 0, 5, .inl t1f)), (t2, .inl (y 0, 5, .inl t2f)), (t3, .inl (y 0, 5, .inl t3f)), (t4, .inl (y 0, 5, .inl t4f)), (t5, .inl (y 0, 5, .inl t5f)), (tx, .inr (7, [.ref bys, .int (nI ln), .int tok, .int (nI sta), .int (nI en), .int num, .ref wo, .ref fs, .ref sc, .int tfi, .int tgl, .int tst])), (m0, .inl (y 0, 4, .inl m0f))] := hD
                            refine lv_lstore_n (lv' := [(1, .long r8080), (3, .int (nI 0)), (0, .ref g)]) hx hb dX10_digest_158 rfl hl (by decide) rfl (fun ls hl => ?_)
                            refine lv_iinc (v := (nI 1)) (lv' := [(3, .int (nI 1)), (1, .long r8080), (0, .ref g)]) hx hb dX10_digest_159 hl (k := 1) rfl (nI_1 0) (by decide) rfl (fun ls hl => ?_)
                            refine lv_goto (tgt := 134) hx hb dX10_digest_162 (by decide) ?_
                            exact ihj94 1 r8080 H locs ls (by omega) (by omega)  (hP.sub [0, 1, 2, 3, 4, 5, 6, 7, 19, 8, 9, 10, 11, 12, 13, 14, 15, 16, 17, 18] rfl) (hD.sub [0, 1, 2, 3, 4, 5, 6, 7, 19, 8, 9, 10, 11, 12, 13, 14, 15, 16, 17, 18] (by decide) rfl) hS (lv_sub hl [0, 1, 2] rfl)
                          · skip
                            refine kw_aldQ hx hb hK hP 7 6 rfl rfl (vp_in_nI (by omega) (by decide)) dX10_digest_154 ?_
                            rw [nI_clamp (n := 1) (by omega), show va_rf (fm 1) = .ref m1 from congrArg va_rf hm1]
                            have hs8082 : kw_Split [(g, .inr (10, [.ref kk, .ref nw, .ref im, .ref kp, .ref tx, .ref tr, .ref be, .ref sh, .ref sd, .ref rf, .int ab, .int bl])), (nw, .inr (4, [.ref kk, .ref nk, .ref nd, .ref ne, .ref nm, .ref nn, .int (nI fi), .int (nI gl), .int (nI un), .int (nI mi), .int (nI no)])), (nk, .inl (y 0, 6, .inl fk)), (nd, .inr (1, [.ref nl, .ref na, .ref ns, .int nst, .int ncl, .int nnu])), (nl, .inl (y 0, 6, .inl nfl)), (na, .inl (y 0, 5, .inl nfa)), (ns, .inl (y 0, 5, .inl nfs)), (nm, .inl (y 6, 4, .inr (.inr (.inr (.inr fm))))), (m0, .inl (y 0, 4, .inl m0f)), (m1, .inl (y 0, 4, .inl m1f)), (m2, .inl (y 0, 4, .inl m2f)), (m3, .inl (y 0, 4, .inl m3f)), (nn, .inl (y 6, 6, .inr (.inr (.inr (.inr fn_))))), (t0, .inl (y 0, 5, .inl t0f)), (t1, .inl (y 0, 5, .inl t1f)), (t2, .inl (y 0, 5, .inl t2f)), (t3, .inl (y 0, 5, .inl t3f)), (t4, .inl (y 0, 5, .inl t4f)), (t5, .inl (y 0, 5, .inl t5f)), (tx, .inr (7, [.ref bys, .int (nI ln), .int tok, .int (nI sta), .int (nI en), .int num, .ref wo, .ref fs, .ref sc, .int tfi, .int tgl, .int tst]))] [(m1, .inl (y 0, 4, .inl m1f))] [(g, .inr (10, [.ref kk, .ref nw, .ref im, .ref kp, .ref tx, .ref tr, .ref be, .ref sh, .ref sd, .ref rf, .int ab, .int bl])), (nw, .inr (4, [.ref kk, .ref nk, .ref nd, .ref ne, .ref nm, .ref nn, .int (nI fi), .int (nI gl), .int (nI un), .int (nI mi), .int (nI no)])), (nk, .inl (y 0, 6, .inl fk)), (nd, .inr (1, [.ref nl, .ref na, .ref ns, .int nst, .int ncl, .int nnu])), (nl, .inl (y 0, 6, .inl nfl)), (na, .inl (y 0, 5, .inl nfa)), (ns, .inl (y 0, 5, .inl nfs)), (nm, .inl (y 6, 4, .inr (.inr (.inr (.inr fm))))), (m0, .inl (y 0, 4, .inl m0f)), (m2, .inl (y 0, 4, .inl m2f)), (m3, .inl (y 0, 4, .inl m3f)), (nn, .inl (y 6, 6, .inr (.inr (.inr (.inr fn_))))), (t0, .inl (y 0, 5, .inl t0f)), (t1, .inl (y 0, 5, .inl t1f)), (t2, .inl (y 0, 5, .inl t2f)), (t3, .inl (y 0, 5, .inl t3f)), (t4, .inl (y 0, 5, .inl t4f)), (t5, .inl (y 0, 5, .inl t5f)), (tx, .inr (7, [.ref bys, .int (nI ln), .int tok, .int (nI sta), .int (nI en), .int num, .ref wo, .ref fs, .ref sc, .int tfi, .int tgl, .int tst]))] [9] [0, 1, 2, 3, 4, 5, 6, 7, 8, 10, 11, 12, 13, 14, 15, 16, 17, 18, 19] := ⟨rfl, rfl, rfl, rfl, rfl, by decide⟩
                            refine kw_go_l hs8082 hP hD hS hA (va_runS (As := [.long x7901, .ref m1]) (rest := []) ⟨hx, hb, hml, hown, hts⟩ (gc_mixRow4 l D y x7901 m1 m1f  _) (va_cwS 2 hts gX10_digest_X10_mixRow rfl rfl rfl (by decide +kernel) ⟨Nat.le_of_ble_eq_true rfl, Nat.le_of_ble_eq_true rfl⟩) (kw_PreS hs8082 hP hD hK hN) rfl rfl hl.1 rfl (lv_room (Nat.le_of_ble_eq_true rfl)) dX10_digest_155 ⟨Nat.le_of_ble_eq_true rfl, Nat.le_of_ble_eq_true rfl⟩) (fun r8083 u8084 H locs hq hP hD hS => ?_)
                            have hP : va_P D vwCl [(g, .inr (10, [.ref kk, .ref nw, .ref im, .ref kp, .ref tx, .ref tr, .ref be, .ref sh, .ref sd, .ref rf, .int ab, .int bl])), (nw, .inr (4, [.ref kk, .ref nk, .ref nd, .ref ne, .ref nm, .ref nn, .int (nI fi), .int (nI gl), .int (nI un), .int (nI mi), .int (nI no)])), (nk, .inl (y 0, 6, .inl fk)), (nd, .inr (1, [.ref nl, .ref na, .ref ns, .int nst, .int ncl, .int nnu])), (nl, .inl (y 0, 6, .inl nfl)), (na, .inl (y 0, 5, .inl nfa)), (ns, .inl (y 0, 5, .inl nfs)), (nm, .inl (y 6, 4, .inr (.inr (.inr (.inr fm))))), (m0, .inl (y 0, 4, .inl m0f)), (m2, .inl (y 0, 4, .inl m2f)), (m3, .inl (y 0, 4, .inl m3f)), (nn, .inl (y 6, 6, .inr (.inr (.inr (.inr fn_))))), (t0, .inl (y 0, 5, .inl t0f)), (t1, .inl (y 0, 5, .inl t1f)), (t2, .inl (y 0, 5, .inl t2f)), (t3, .inl (y 0, 5, .inl t3f)), (t4, .inl (y 0, 5, .inl t4f)), (t5, .inl (y 0, 5, .inl t5f)), (tx, .inr (7, [.ref bys, .int (nI ln), .int tok, .int (nI sta), .int (nI en), .int num, .ref wo, .ref fs, .ref sc, .int tfi, .int tgl, .int tst])), (m1, .inl (y 0, 4, .inl m1f))] H := hP
                            have hD : va_D A [(g, .inr (10, [.ref kk, .ref nw, .ref im, .ref kp, .ref tx, .ref tr, .ref be, .ref sh, .ref sd, .ref rf, .int ab, .int bl])), (nw, .inr (4, [.ref kk, .ref nk, .ref nd, .ref ne, .ref nm, .ref nn, .int (nI fi), .int (nI gl), .int (nI un), .int (nI mi), .int (nI no)])), (nk, .inl (y 0, 6, .inl fk)), (nd, .inr (1, [.ref nl, .ref na, .ref ns, .int nst, .int ncl, .int nnu])), (nl, .inl (y 0, 6, .inl nfl)), (na, .inl (y 0, 5, .inl nfa)), (ns, .inl (y 0, 5, .inl nfs)), (nm, .inl (y 6, 4, .inr (.inr (.inr (.inr fm))))), (m0, .inl (y 0, 4, .inl m0f)), (m2, .inl (y 0, 4, .inl m2f)), (m3, .inl (y 0, 4, .inl m3f)), (nn, .inl (y 6, 6, .inr (.inr (.inr (.inr fn_))))), (t0, .inl (y 0, 5, .inl t0f)), (t1, .inl (y 0, 5, .inl t1f)), (t2, .inl (y 0, 5, .inl t2f)), (t3, .inl (y 0, 5, .inl t3f)), (t4, .inl (y 0, 5, .inl t4f)), (t5, .inl (y 0, 5, .inl t5f)), (tx, .inr (7, [.ref bys, .int (nI ln), .int tok, .int (nI sta), .int (nI en), .int num, .ref wo, .ref fs, .ref sc, .int tfi, .int tgl, .int tst])), (m1, .inl (y 0, 4, .inl m1f))] := hD
                            refine lv_lstore_n (lv' := [(1, .long r8083), (3, .int (nI 1)), (0, .ref g)]) hx hb dX10_digest_158 rfl hl (by decide) rfl (fun ls hl => ?_)
                            refine lv_iinc (v := (nI 2)) (lv' := [(3, .int (nI 2)), (1, .long r8083), (0, .ref g)]) hx hb dX10_digest_159 hl (k := 1) rfl (nI_1 1) (by decide) rfl (fun ls hl => ?_)
                            refine lv_goto (tgt := 134) hx hb dX10_digest_162 (by decide) ?_
                            exact ihj94 2 r8083 H locs ls (by omega) (by omega)  (hP.sub [0, 1, 2, 3, 4, 5, 6, 7, 8, 19, 9, 10, 11, 12, 13, 14, 15, 16, 17, 18] rfl) (hD.sub [0, 1, 2, 3, 4, 5, 6, 7, 8, 19, 9, 10, 11, 12, 13, 14, 15, 16, 17, 18] (by decide) rfl) hS (lv_sub hl [0, 1, 2] rfl)
                          · skip
                            refine kw_aldQ hx hb hK hP 7 6 rfl rfl (vp_in_nI (by omega) (by decide)) dX10_digest_154 ?_
                            rw [nI_clamp (n := 2) (by omega), show va_rf (fm 2) = .ref m2 from congrArg va_rf hm2]
                            have hs8085 : kw_Split [(g, .inr (10, [.ref kk, .ref nw, .ref im, .ref kp, .ref tx, .ref tr, .ref be, .ref sh, .ref sd, .ref rf, .int ab, .int bl])), (nw, .inr (4, [.ref kk, .ref nk, .ref nd, .ref ne, .ref nm, .ref nn, .int (nI fi), .int (nI gl), .int (nI un), .int (nI mi), .int (nI no)])), (nk, .inl (y 0, 6, .inl fk)), (nd, .inr (1, [.ref nl, .ref na, .ref ns, .int nst, .int ncl, .int nnu])), (nl, .inl (y 0, 6, .inl nfl)), (na, .inl (y 0, 5, .inl nfa)), (ns, .inl (y 0, 5, .inl nfs)), (nm, .inl (y 6, 4, .inr (.inr (.inr (.inr fm))))), (m0, .inl (y 0, 4, .inl m0f)), (m1, .inl (y 0, 4, .inl m1f)), (m2, .inl (y 0, 4, .inl m2f)), (m3, .inl (y 0, 4, .inl m3f)), (nn, .inl (y 6, 6, .inr (.inr (.inr (.inr fn_))))), (t0, .inl (y 0, 5, .inl t0f)), (t1, .inl (y 0, 5, .inl t1f)), (t2, .inl (y 0, 5, .inl t2f)), (t3, .inl (y 0, 5, .inl t3f)), (t4, .inl (y 0, 5, .inl t4f)), (t5, .inl (y 0, 5, .inl t5f)), (tx, .inr (7, [.ref bys, .int (nI ln), .int tok, .int (nI sta), .int (nI en), .int num, .ref wo, .ref fs, .ref sc, .int tfi, .int tgl, .int tst]))] [(m2, .inl (y 0, 4, .inl m2f))] [(g, .inr (10, [.ref kk, .ref nw, .ref im, .ref kp, .ref tx, .ref tr, .ref be, .ref sh, .ref sd, .ref rf, .int ab, .int bl])), (nw, .inr (4, [.ref kk, .ref nk, .ref nd, .ref ne, .ref nm, .ref nn, .int (nI fi), .int (nI gl), .int (nI un), .int (nI mi), .int (nI no)])), (nk, .inl (y 0, 6, .inl fk)), (nd, .inr (1, [.ref nl, .ref na, .ref ns, .int nst, .int ncl, .int nnu])), (nl, .inl (y 0, 6, .inl nfl)), (na, .inl (y 0, 5, .inl nfa)), (ns, .inl (y 0, 5, .inl nfs)), (nm, .inl (y 6, 4, .inr (.inr (.inr (.inr fm))))), (m0, .inl (y 0, 4, .inl m0f)), (m1, .inl (y 0, 4, .inl m1f)), (m3, .inl (y 0, 4, .inl m3f)), (nn, .inl (y 6, 6, .inr (.inr (.inr (.inr fn_))))), (t0, .inl (y 0, 5, .inl t0f)), (t1, .inl (y 0, 5, .inl t1f)), (t2, .inl (y 0, 5, .inl t2f)), (t3, .inl (y 0, 5, .inl t3f)), (t4, .inl (y 0, 5, .inl t4f)), (t5, .inl (y 0, 5, .inl t5f)), (tx, .inr (7, [.ref bys, .int (nI ln), .int tok, .int (nI sta), .int (nI en), .int num, .ref wo, .ref fs, .ref sc, .int tfi, .int tgl, .int tst]))] [10] [0, 1, 2, 3, 4, 5, 6, 7, 8, 9, 11, 12, 13, 14, 15, 16, 17, 18, 19] := ⟨rfl, rfl, rfl, rfl, rfl, by decide⟩
                            refine kw_go_l hs8085 hP hD hS hA (va_runS (As := [.long x7901, .ref m2]) (rest := []) ⟨hx, hb, hml, hown, hts⟩ (gc_mixRow4 l D y x7901 m2 m2f  _) (va_cwS 2 hts gX10_digest_X10_mixRow rfl rfl rfl (by decide +kernel) ⟨Nat.le_of_ble_eq_true rfl, Nat.le_of_ble_eq_true rfl⟩) (kw_PreS hs8085 hP hD hK hN) rfl rfl hl.1 rfl (lv_room (Nat.le_of_ble_eq_true rfl)) dX10_digest_155 ⟨Nat.le_of_ble_eq_true rfl, Nat.le_of_ble_eq_true rfl⟩) (fun r8086 u8087 H locs hq hP hD hS => ?_)
                            have hP : va_P D vwCl [(g, .inr (10, [.ref kk, .ref nw, .ref im, .ref kp, .ref tx, .ref tr, .ref be, .ref sh, .ref sd, .ref rf, .int ab, .int bl])), (nw, .inr (4, [.ref kk, .ref nk, .ref nd, .ref ne, .ref nm, .ref nn, .int (nI fi), .int (nI gl), .int (nI un), .int (nI mi), .int (nI no)])), (nk, .inl (y 0, 6, .inl fk)), (nd, .inr (1, [.ref nl, .ref na, .ref ns, .int nst, .int ncl, .int nnu])), (nl, .inl (y 0, 6, .inl nfl)), (na, .inl (y 0, 5, .inl nfa)), (ns, .inl (y 0, 5, .inl nfs)), (nm, .inl (y 6, 4, .inr (.inr (.inr (.inr fm))))), (m0, .inl (y 0, 4, .inl m0f)), (m1, .inl (y 0, 4, .inl m1f)), (m3, .inl (y 0, 4, .inl m3f)), (nn, .inl (y 6, 6, .inr (.inr (.inr (.inr fn_))))), (t0, .inl (y 0, 5, .inl t0f)), (t1, .inl (y 0, 5, .inl t1f)), (t2, .inl (y 0, 5, .inl t2f)), (t3, .inl (y 0, 5, .inl t3f)), (t4, .inl (y 0, 5, .inl t4f)), (t5, .inl (y 0, 5, .inl t5f)), (tx, .inr (7, [.ref bys, .int (nI ln), .int tok, .int (nI sta), .int (nI en), .int num, .ref wo, .ref fs, .ref sc, .int tfi, .int tgl, .int tst])), (m2, .inl (y 0, 4, .inl m2f))] H := hP
                            have hD : va_D A [(g, .inr (10, [.ref kk, .ref nw, .ref im, .ref kp, .ref tx, .ref tr, .ref be, .ref sh, .ref sd, .ref rf, .int ab, .int bl])), (nw, .inr (4, [.ref kk, .ref nk, .ref nd, .ref ne, .ref nm, .ref nn, .int (nI fi), .int (nI gl), .int (nI un), .int (nI mi), .int (nI no)])), (nk, .inl (y 0, 6, .inl fk)), (nd, .inr (1, [.ref nl, .ref na, .ref ns, .int nst, .int ncl, .int nnu])), (nl, .inl (y 0, 6, .inl nfl)), (na, .inl (y 0, 5, .inl nfa)), (ns, .inl (y 0, 5, .inl nfs)), (nm, .inl (y 6, 4, .inr (.inr (.inr (.inr fm))))), (m0, .inl (y 0, 4, .inl m0f)), (m1, .inl (y 0, 4, .inl m1f)), (m3, .inl (y 0, 4, .inl m3f)), (nn, .inl (y 6, 6, .inr (.inr (.inr (.inr fn_))))), (t0, .inl (y 0, 5, .inl t0f)), (t1, .inl (y 0, 5, .inl t1f)), (t2, .inl (y 0, 5, .inl t2f)), (t3, .inl (y 0, 5, .inl t3f)), (t4, .inl (y 0, 5, .inl t4f)), (t5, .inl (y 0, 5, .inl t5f)), (tx, .inr (7, [.ref bys, .int (nI ln), .int tok, .int (nI sta), .int (nI en), .int num, .ref wo, .ref fs, .ref sc, .int tfi, .int tgl, .int tst])), (m2, .inl (y 0, 4, .inl m2f))] := hD
                            refine lv_lstore_n (lv' := [(1, .long r8086), (3, .int (nI 2)), (0, .ref g)]) hx hb dX10_digest_158 rfl hl (by decide) rfl (fun ls hl => ?_)
                            refine lv_iinc (v := (nI 3)) (lv' := [(3, .int (nI 3)), (1, .long r8086), (0, .ref g)]) hx hb dX10_digest_159 hl (k := 1) rfl (nI_1 2) (by decide) rfl (fun ls hl => ?_)
                            refine lv_goto (tgt := 134) hx hb dX10_digest_162 (by decide) ?_
                            exact ihj94 3 r8086 H locs ls (by omega) (by omega)  (hP.sub [0, 1, 2, 3, 4, 5, 6, 7, 8, 9, 19, 10, 11, 12, 13, 14, 15, 16, 17, 18] rfl) (hD.sub [0, 1, 2, 3, 4, 5, 6, 7, 8, 9, 19, 10, 11, 12, 13, 14, 15, 16, 17, 18] (by decide) rfl) hS (lv_sub hl [0, 1, 2] rfl)
                          · skip
                            refine kw_aldQ hx hb hK hP 7 6 rfl rfl (vp_in_nI (by omega) (by decide)) dX10_digest_154 ?_
                            rw [nI_clamp (n := 3) (by omega), show va_rf (fm 3) = .ref m3 from congrArg va_rf hm3]
                            have hs8088 : kw_Split [(g, .inr (10, [.ref kk, .ref nw, .ref im, .ref kp, .ref tx, .ref tr, .ref be, .ref sh, .ref sd, .ref rf, .int ab, .int bl])), (nw, .inr (4, [.ref kk, .ref nk, .ref nd, .ref ne, .ref nm, .ref nn, .int (nI fi), .int (nI gl), .int (nI un), .int (nI mi), .int (nI no)])), (nk, .inl (y 0, 6, .inl fk)), (nd, .inr (1, [.ref nl, .ref na, .ref ns, .int nst, .int ncl, .int nnu])), (nl, .inl (y 0, 6, .inl nfl)), (na, .inl (y 0, 5, .inl nfa)), (ns, .inl (y 0, 5, .inl nfs)), (nm, .inl (y 6, 4, .inr (.inr (.inr (.inr fm))))), (m0, .inl (y 0, 4, .inl m0f)), (m1, .inl (y 0, 4, .inl m1f)), (m2, .inl (y 0, 4, .inl m2f)), (m3, .inl (y 0, 4, .inl m3f)), (nn, .inl (y 6, 6, .inr (.inr (.inr (.inr fn_))))), (t0, .inl (y 0, 5, .inl t0f)), (t1, .inl (y 0, 5, .inl t1f)), (t2, .inl (y 0, 5, .inl t2f)), (t3, .inl (y 0, 5, .inl t3f)), (t4, .inl (y 0, 5, .inl t4f)), (t5, .inl (y 0, 5, .inl t5f)), (tx, .inr (7, [.ref bys, .int (nI ln), .int tok, .int (nI sta), .int (nI en), .int num, .ref wo, .ref fs, .ref sc, .int tfi, .int tgl, .int tst]))] [(m3, .inl (y 0, 4, .inl m3f))] [(g, .inr (10, [.ref kk, .ref nw, .ref im, .ref kp, .ref tx, .ref tr, .ref be, .ref sh, .ref sd, .ref rf, .int ab, .int bl])), (nw, .inr (4, [.ref kk, .ref nk, .ref nd, .ref ne, .ref nm, .ref nn, .int (nI fi), .int (nI gl), .int (nI un), .int (nI mi), .int (nI no)])), (nk, .inl (y 0, 6, .inl fk)), (nd, .inr (1, [.ref nl, .ref na, .ref ns, .int nst, .int ncl, .int nnu])), (nl, .inl (y 0, 6, .inl nfl)), (na, .inl (y 0, 5, .inl nfa)), (ns, .inl (y 0, 5, .inl nfs)), (nm, .inl (y 6, 4, .inr (.inr (.inr (.inr fm))))), (m0, .inl (y 0, 4, .inl m0f)), (m1, .inl (y 0, 4, .inl m1f)), (m2, .inl (y 0, 4, .inl m2f)), (nn, .inl (y 6, 6, .inr (.inr (.inr (.inr fn_))))), (t0, .inl (y 0, 5, .inl t0f)), (t1, .inl (y 0, 5, .inl t1f)), (t2, .inl (y 0, 5, .inl t2f)), (t3, .inl (y 0, 5, .inl t3f)), (t4, .inl (y 0, 5, .inl t4f)), (t5, .inl (y 0, 5, .inl t5f)), (tx, .inr (7, [.ref bys, .int (nI ln), .int tok, .int (nI sta), .int (nI en), .int num, .ref wo, .ref fs, .ref sc, .int tfi, .int tgl, .int tst]))] [11] [0, 1, 2, 3, 4, 5, 6, 7, 8, 9, 10, 12, 13, 14, 15, 16, 17, 18, 19] := ⟨rfl, rfl, rfl, rfl, rfl, by decide⟩
                            refine kw_go_l hs8088 hP hD hS hA (va_runS (As := [.long x7901, .ref m3]) (rest := []) ⟨hx, hb, hml, hown, hts⟩ (gc_mixRow4 l D y x7901 m3 m3f  _) (va_cwS 2 hts gX10_digest_X10_mixRow rfl rfl rfl (by decide +kernel) ⟨Nat.le_of_ble_eq_true rfl, Nat.le_of_ble_eq_true rfl⟩) (kw_PreS hs8088 hP hD hK hN) rfl rfl hl.1 rfl (lv_room (Nat.le_of_ble_eq_true rfl)) dX10_digest_155 ⟨Nat.le_of_ble_eq_true rfl, Nat.le_of_ble_eq_true rfl⟩) (fun r8089 u8090 H locs hq hP hD hS => ?_)
                            have hP : va_P D vwCl [(g, .inr (10, [.ref kk, .ref nw, .ref im, .ref kp, .ref tx, .ref tr, .ref be, .ref sh, .ref sd, .ref rf, .int ab, .int bl])), (nw, .inr (4, [.ref kk, .ref nk, .ref nd, .ref ne, .ref nm, .ref nn, .int (nI fi), .int (nI gl), .int (nI un), .int (nI mi), .int (nI no)])), (nk, .inl (y 0, 6, .inl fk)), (nd, .inr (1, [.ref nl, .ref na, .ref ns, .int nst, .int ncl, .int nnu])), (nl, .inl (y 0, 6, .inl nfl)), (na, .inl (y 0, 5, .inl nfa)), (ns, .inl (y 0, 5, .inl nfs)), (nm, .inl (y 6, 4, .inr (.inr (.inr (.inr fm))))), (m0, .inl (y 0, 4, .inl m0f)), (m1, .inl (y 0, 4, .inl m1f)), (m2, .inl (y 0, 4, .inl m2f)), (nn, .inl (y 6, 6, .inr (.inr (.inr (.inr fn_))))), (t0, .inl (y 0, 5, .inl t0f)), (t1, .inl (y 0, 5, .inl t1f)), (t2, .inl (y 0, 5, .inl t2f)), (t3, .inl (y 0, 5, .inl t3f)), (t4, .inl (y 0, 5, .inl t4f)), (t5, .inl (y 0, 5, .inl t5f)), (tx, .inr (7, [.ref bys, .int (nI ln), .int tok, .int (nI sta), .int (nI en), .int num, .ref wo, .ref fs, .ref sc, .int tfi, .int tgl, .int tst])), (m3, .inl (y 0, 4, .inl m3f))] H := hP
                            have hD : va_D A [(g, .inr (10, [.ref kk, .ref nw, .ref im, .ref kp, .ref tx, .ref tr, .ref be, .ref sh, .ref sd, .ref rf, .int ab, .int bl])), (nw, .inr (4, [.ref kk, .ref nk, .ref nd, .ref ne, .ref nm, .ref nn, .int (nI fi), .int (nI gl), .int (nI un), .int (nI mi), .int (nI no)])), (nk, .inl (y 0, 6, .inl fk)), (nd, .inr (1, [.ref nl, .ref na, .ref ns, .int nst, .int ncl, .int nnu])), (nl, .inl (y 0, 6, .inl nfl)), (na, .inl (y 0, 5, .inl nfa)), (ns, .inl (y 0, 5, .inl nfs)), (nm, .inl (y 6, 4, .inr (.inr (.inr (.inr fm))))), (m0, .inl (y 0, 4, .inl m0f)), (m1, .inl (y 0, 4, .inl m1f)), (m2, .inl (y 0, 4, .inl m2f)), (nn, .inl (y 6, 6, .inr (.inr (.inr (.inr fn_))))), (t0, .inl (y 0, 5, .inl t0f)), (t1, .inl (y 0, 5, .inl t1f)), (t2, .inl (y 0, 5, .inl t2f)), (t3, .inl (y 0, 5, .inl t3f)), (t4, .inl (y 0, 5, .inl t4f)), (t5, .inl (y 0, 5, .inl t5f)), (tx, .inr (7, [.ref bys, .int (nI ln), .int tok, .int (nI sta), .int (nI en), .int num, .ref wo, .ref fs, .ref sc, .int tfi, .int tgl, .int tst])), (m3, .inl (y 0, 4, .inl m3f))] := hD
                            refine lv_lstore_n (lv' := [(1, .long r8089), (3, .int (nI 3)), (0, .ref g)]) hx hb dX10_digest_158 rfl hl (by decide) rfl (fun ls hl => ?_)
                            refine lv_iinc (v := (nI 4)) (lv' := [(3, .int (nI 4)), (1, .long r8089), (0, .ref g)]) hx hb dX10_digest_159 hl (k := 1) rfl (nI_1 3) (by decide) rfl (fun ls hl => ?_)
                            refine lv_goto (tgt := 134) hx hb dX10_digest_162 (by decide) ?_
                            exact ihj94 4 r8089 H locs ls (by omega) (by omega)  (hP.sub [0, 1, 2, 3, 4, 5, 6, 7, 8, 9, 10, 19, 11, 12, 13, 14, 15, 16, 17, 18] rfl) (hD.sub [0, 1, 2, 3, 4, 5, 6, 7, 8, 9, 10, 19, 11, 12, 13, 14, 15, 16, 17, 18] (by decide) rfl) hS (lv_sub hl [0, 1, 2] rfl)
                    exact lp7996 (mi + 1) 0 x7508 _ _ _ (by omega) (by omega)  hP hD hS (lv_sub hl [0, 1, 2] rfl)
                  · skip
                    have h7806 : ¬ gl ≤ j93 := fun q9 => h7806 ((nI_leI (a := gl) (b := j93) (by omega) (by omega)).mpr q9)
                    refine lv_lload_n hx hb dX10_digest_92 rfl (lv_at hl 1 rfl) ?_
                    refine lv_aload_n hx hb dX10_digest_93 rfl (lv_at hl 2 rfl) ?_
                    refine va_get (D := D) (ci := 10) (v := .ref nw) (C := RX10) (T := TX10) (N := 12) hx hb hts iw10 hown hK hP 0 rfl rfl 1 (by decide) fw2 (fun _ h9 => h9) rfl dX10_digest_94 ?_
                    refine va_get (D := D) (ci := 4) (v := .ref nd) (C := RX4) (T := TX4) (N := 11) hx hb hts iw4 hown hK hP 1 rfl rfl 2 (by decide) fw11 (fun _ h9 => h9) rfl dX10_digest_97 ?_
                    refine va_get (D := D) (ci := 1) (v := .ref na) (C := RX1) (T := TX1) (N := 6) hx hb hts iw1 hown hK hP 3 rfl rfl 1 (by decide) fw12 (fun _ h9 => h9) rfl dX10_digest_100 ?_
                    refine lv_iload_n hx hb dX10_digest_103 rfl (lv_at hl 0 rfl) ?_
                    refine va_iald hx hb hK hP 5 0 rfl rfl (vp_in_nI (by omega) (by decide)) dX10_digest_104 ?_
                    rw [nI_clamp (n := j93) (by omega)]
                    obtain ⟨w8091, h8092, h8093⟩ := kw_bdv hna (k := j93) (by omega) (by decide)
                    rw [h8093]
                    refine lv_i2l (v := (nI w8091).toInt64) hx hb dX10_digest_105 (rfl) ?_
                    have hs8094 : kw_Split [(g, .inr (10, [.ref kk, .ref nw, .ref im, .ref kp, .ref tx, .ref tr, .ref be, .ref sh, .ref sd, .ref rf, .int ab, .int bl])), (nw, .inr (4, [.ref kk, .ref nk, .ref nd, .ref ne, .ref nm, .ref nn, .int (nI fi), .int (nI gl), .int (nI un), .int (nI mi), .int (nI no)])), (nk, .inl (y 0, 6, .inl fk)), (nd, .inr (1, [.ref nl, .ref na, .ref ns, .int nst, .int ncl, .int nnu])), (nl, .inl (y 0, 6, .inl nfl)), (na, .inl (y 0, 5, .inl nfa)), (ns, .inl (y 0, 5, .inl nfs)), (nm, .inl (y 6, 4, .inr (.inr (.inr (.inr fm))))), (m0, .inl (y 0, 4, .inl m0f)), (m1, .inl (y 0, 4, .inl m1f)), (m2, .inl (y 0, 4, .inl m2f)), (m3, .inl (y 0, 4, .inl m3f)), (nn, .inl (y 6, 6, .inr (.inr (.inr (.inr fn_))))), (t0, .inl (y 0, 5, .inl t0f)), (t1, .inl (y 0, 5, .inl t1f)), (t2, .inl (y 0, 5, .inl t2f)), (t3, .inl (y 0, 5, .inl t3f)), (t4, .inl (y 0, 5, .inl t4f)), (t5, .inl (y 0, 5, .inl t5f)), (tx, .inr (7, [.ref bys, .int (nI ln), .int tok, .int (nI sta), .int (nI en), .int num, .ref wo, .ref fs, .ref sc, .int tfi, .int tgl, .int tst]))] [] [(g, .inr (10, [.ref kk, .ref nw, .ref im, .ref kp, .ref tx, .ref tr, .ref be, .ref sh, .ref sd, .ref rf, .int ab, .int bl])), (nw, .inr (4, [.ref kk, .ref nk, .ref nd, .ref ne, .ref nm, .ref nn, .int (nI fi), .int (nI gl), .int (nI un), .int (nI mi), .int (nI no)])), (nk, .inl (y 0, 6, .inl fk)), (nd, .inr (1, [.ref nl, .ref na, .ref ns, .int nst, .int ncl, .int nnu])), (nl, .inl (y 0, 6, .inl nfl)), (na, .inl (y 0, 5, .inl nfa)), (ns, .inl (y 0, 5, .inl nfs)), (nm, .inl (y 6, 4, .inr (.inr (.inr (.inr fm))))), (m0, .inl (y 0, 4, .inl m0f)), (m1, .inl (y 0, 4, .inl m1f)), (m2, .inl (y 0, 4, .inl m2f)), (m3, .inl (y 0, 4, .inl m3f)), (nn, .inl (y 6, 6, .inr (.inr (.inr (.inr fn_))))), (t0, .inl (y 0, 5, .inl t0f)), (t1, .inl (y 0, 5, .inl t1f)), (t2, .inl (y 0, 5, .inl t2f)), (t3, .inl (y 0, 5, .inl t3f)), (t4, .inl (y 0, 5, .inl t4f)), (t5, .inl (y 0, 5, .inl t5f)), (tx, .inr (7, [.ref bys, .int (nI ln), .int tok, .int (nI sta), .int (nI en), .int num, .ref wo, .ref fs, .ref sc, .int tfi, .int tgl, .int tst]))] [] [0, 1, 2, 3, 4, 5, 6, 7, 8, 9, 10, 11, 12, 13, 14, 15, 16, 17, 18, 19] := ⟨rfl, rfl, rfl, rfl, rfl, by decide⟩
                    refine kw_go_l hs8094 hP hD hS hA (va_runS (As := [.long x7508, .long ((nI w8091).toInt64)]) (rest := []) ⟨hx, hb, hml, hown, hts⟩ (gc_mix l D y x7508 ((nI w8091).toInt64)  _) (va_cwS 2 hts gX10_digest_X10_mix rfl rfl rfl (by decide +kernel) ⟨Nat.le_of_ble_eq_true rfl, Nat.le_of_ble_eq_true rfl⟩) (kw_PreS hs8094 hP hD hK hN) rfl rfl hl.1 rfl (lv_room (Nat.le_of_ble_eq_true rfl)) dX10_digest_106 ⟨Nat.le_of_ble_eq_true rfl, Nat.le_of_ble_eq_true rfl⟩) (fun r8095 u8096 H locs hq hP hD hS => ?_)
                    obtain rfl := hq
                    have hP : va_P D vwCl [(g, .inr (10, [.ref kk, .ref nw, .ref im, .ref kp, .ref tx, .ref tr, .ref be, .ref sh, .ref sd, .ref rf, .int ab, .int bl])), (nw, .inr (4, [.ref kk, .ref nk, .ref nd, .ref ne, .ref nm, .ref nn, .int (nI fi), .int (nI gl), .int (nI un), .int (nI mi), .int (nI no)])), (nk, .inl (y 0, 6, .inl fk)), (nd, .inr (1, [.ref nl, .ref na, .ref ns, .int nst, .int ncl, .int nnu])), (nl, .inl (y 0, 6, .inl nfl)), (na, .inl (y 0, 5, .inl nfa)), (ns, .inl (y 0, 5, .inl nfs)), (nm, .inl (y 6, 4, .inr (.inr (.inr (.inr fm))))), (m0, .inl (y 0, 4, .inl m0f)), (m1, .inl (y 0, 4, .inl m1f)), (m2, .inl (y 0, 4, .inl m2f)), (m3, .inl (y 0, 4, .inl m3f)), (nn, .inl (y 6, 6, .inr (.inr (.inr (.inr fn_))))), (t0, .inl (y 0, 5, .inl t0f)), (t1, .inl (y 0, 5, .inl t1f)), (t2, .inl (y 0, 5, .inl t2f)), (t3, .inl (y 0, 5, .inl t3f)), (t4, .inl (y 0, 5, .inl t4f)), (t5, .inl (y 0, 5, .inl t5f)), (tx, .inr (7, [.ref bys, .int (nI ln), .int tok, .int (nI sta), .int (nI en), .int num, .ref wo, .ref fs, .ref sc, .int tfi, .int tgl, .int tst]))] H := hP
                    have hD : va_D A [(g, .inr (10, [.ref kk, .ref nw, .ref im, .ref kp, .ref tx, .ref tr, .ref be, .ref sh, .ref sd, .ref rf, .int ab, .int bl])), (nw, .inr (4, [.ref kk, .ref nk, .ref nd, .ref ne, .ref nm, .ref nn, .int (nI fi), .int (nI gl), .int (nI un), .int (nI mi), .int (nI no)])), (nk, .inl (y 0, 6, .inl fk)), (nd, .inr (1, [.ref nl, .ref na, .ref ns, .int nst, .int ncl, .int nnu])), (nl, .inl (y 0, 6, .inl nfl)), (na, .inl (y 0, 5, .inl nfa)), (ns, .inl (y 0, 5, .inl nfs)), (nm, .inl (y 6, 4, .inr (.inr (.inr (.inr fm))))), (m0, .inl (y 0, 4, .inl m0f)), (m1, .inl (y 0, 4, .inl m1f)), (m2, .inl (y 0, 4, .inl m2f)), (m3, .inl (y 0, 4, .inl m3f)), (nn, .inl (y 6, 6, .inr (.inr (.inr (.inr fn_))))), (t0, .inl (y 0, 5, .inl t0f)), (t1, .inl (y 0, 5, .inl t1f)), (t2, .inl (y 0, 5, .inl t2f)), (t3, .inl (y 0, 5, .inl t3f)), (t4, .inl (y 0, 5, .inl t4f)), (t5, .inl (y 0, 5, .inl t5f)), (tx, .inr (7, [.ref bys, .int (nI ln), .int tok, .int (nI sta), .int (nI en), .int num, .ref wo, .ref fs, .ref sc, .int tfi, .int tgl, .int tst]))] := hD
                    refine lv_aload_n hx hb dX10_digest_109 rfl (lv_at hl 2 rfl) ?_
                    refine va_get (D := D) (ci := 10) (v := .ref nw) (C := RX10) (T := TX10) (N := 12) hx hb hts iw10 hown hK hP 0 rfl rfl 1 (by decide) fw2 (fun _ h9 => h9) rfl dX10_digest_110 ?_
                    refine va_get (D := D) (ci := 4) (v := .ref nd) (C := RX4) (T := TX4) (N := 11) hx hb hts iw4 hown hK hP 1 rfl rfl 2 (by decide) fw11 (fun _ h9 => h9) rfl dX10_digest_113 ?_
                    refine va_get (D := D) (ci := 1) (v := .ref ns) (C := RX1) (T := TX1) (N := 6) hx hb hts iw1 hown hK hP 3 rfl rfl 2 (by decide) fw13 (fun _ h9 => h9) rfl dX10_digest_116 ?_
                    refine lv_iload_n hx hb dX10_digest_119 rfl (lv_at hl 0 rfl) ?_
                    refine va_iald hx hb hK hP 6 0 rfl rfl (vp_in_nI (by omega) (by decide)) dX10_digest_120 ?_
                    rw [nI_clamp (n := j93) (by omega)]
                    refine lv_i2l (v := (nfs j93).toInt64) hx hb dX10_digest_121 (rfl) ?_
                    have hs8097 : kw_Split [(g, .inr (10, [.ref kk, .ref nw, .ref im, .ref kp, .ref tx, .ref tr, .ref be, .ref sh, .ref sd, .ref rf, .int ab, .int bl])), (nw, .inr (4, [.ref kk, .ref nk, .ref nd, .ref ne, .ref nm, .ref nn, .int (nI fi), .int (nI gl), .int (nI un), .int (nI mi), .int (nI no)])), (nk, .inl (y 0, 6, .inl fk)), (nd, .inr (1, [.ref nl, .ref na, .ref ns, .int nst, .int ncl, .int nnu])), (nl, .inl (y 0, 6, .inl nfl)), (na, .inl (y 0, 5, .inl nfa)), (ns, .inl (y 0, 5, .inl nfs)), (nm, .inl (y 6, 4, .inr (.inr (.inr (.inr fm))))), (m0, .inl (y 0, 4, .inl m0f)), (m1, .inl (y 0, 4, .inl m1f)), (m2, .inl (y 0, 4, .inl m2f)), (m3, .inl (y 0, 4, .inl m3f)), (nn, .inl (y 6, 6, .inr (.inr (.inr (.inr fn_))))), (t0, .inl (y 0, 5, .inl t0f)), (t1, .inl (y 0, 5, .inl t1f)), (t2, .inl (y 0, 5, .inl t2f)), (t3, .inl (y 0, 5, .inl t3f)), (t4, .inl (y 0, 5, .inl t4f)), (t5, .inl (y 0, 5, .inl t5f)), (tx, .inr (7, [.ref bys, .int (nI ln), .int tok, .int (nI sta), .int (nI en), .int num, .ref wo, .ref fs, .ref sc, .int tfi, .int tgl, .int tst]))] [] [(g, .inr (10, [.ref kk, .ref nw, .ref im, .ref kp, .ref tx, .ref tr, .ref be, .ref sh, .ref sd, .ref rf, .int ab, .int bl])), (nw, .inr (4, [.ref kk, .ref nk, .ref nd, .ref ne, .ref nm, .ref nn, .int (nI fi), .int (nI gl), .int (nI un), .int (nI mi), .int (nI no)])), (nk, .inl (y 0, 6, .inl fk)), (nd, .inr (1, [.ref nl, .ref na, .ref ns, .int nst, .int ncl, .int nnu])), (nl, .inl (y 0, 6, .inl nfl)), (na, .inl (y 0, 5, .inl nfa)), (ns, .inl (y 0, 5, .inl nfs)), (nm, .inl (y 6, 4, .inr (.inr (.inr (.inr fm))))), (m0, .inl (y 0, 4, .inl m0f)), (m1, .inl (y 0, 4, .inl m1f)), (m2, .inl (y 0, 4, .inl m2f)), (m3, .inl (y 0, 4, .inl m3f)), (nn, .inl (y 6, 6, .inr (.inr (.inr (.inr fn_))))), (t0, .inl (y 0, 5, .inl t0f)), (t1, .inl (y 0, 5, .inl t1f)), (t2, .inl (y 0, 5, .inl t2f)), (t3, .inl (y 0, 5, .inl t3f)), (t4, .inl (y 0, 5, .inl t4f)), (t5, .inl (y 0, 5, .inl t5f)), (tx, .inr (7, [.ref bys, .int (nI ln), .int tok, .int (nI sta), .int (nI en), .int num, .ref wo, .ref fs, .ref sc, .int tfi, .int tgl, .int tst]))] [] [0, 1, 2, 3, 4, 5, 6, 7, 8, 9, 10, 11, 12, 13, 14, 15, 16, 17, 18, 19] := ⟨rfl, rfl, rfl, rfl, rfl, by decide⟩
                    refine kw_go_l hs8097 hP hD hS hA (va_runS (As := [.long ((31 * x7508) + ((nI w8091).toInt64)), .long ((nfs j93).toInt64)]) (rest := []) ⟨hx, hb, hml, hown, hts⟩ (gc_mix l D y ((31 * x7508) + ((nI w8091).toInt64)) ((nfs j93).toInt64)  _) (va_cwS 2 hts gX10_digest_X10_mix rfl rfl rfl (by decide +kernel) ⟨Nat.le_of_ble_eq_true rfl, Nat.le_of_ble_eq_true rfl⟩) (kw_PreS hs8097 hP hD hK hN) rfl rfl hl.1 rfl (lv_room (Nat.le_of_ble_eq_true rfl)) dX10_digest_122 ⟨Nat.le_of_ble_eq_true rfl, Nat.le_of_ble_eq_true rfl⟩) (fun r8098 u8099 H locs hq hP hD hS => ?_)
                    obtain rfl := hq
                    have hP : va_P D vwCl [(g, .inr (10, [.ref kk, .ref nw, .ref im, .ref kp, .ref tx, .ref tr, .ref be, .ref sh, .ref sd, .ref rf, .int ab, .int bl])), (nw, .inr (4, [.ref kk, .ref nk, .ref nd, .ref ne, .ref nm, .ref nn, .int (nI fi), .int (nI gl), .int (nI un), .int (nI mi), .int (nI no)])), (nk, .inl (y 0, 6, .inl fk)), (nd, .inr (1, [.ref nl, .ref na, .ref ns, .int nst, .int ncl, .int nnu])), (nl, .inl (y 0, 6, .inl nfl)), (na, .inl (y 0, 5, .inl nfa)), (ns, .inl (y 0, 5, .inl nfs)), (nm, .inl (y 6, 4, .inr (.inr (.inr (.inr fm))))), (m0, .inl (y 0, 4, .inl m0f)), (m1, .inl (y 0, 4, .inl m1f)), (m2, .inl (y 0, 4, .inl m2f)), (m3, .inl (y 0, 4, .inl m3f)), (nn, .inl (y 6, 6, .inr (.inr (.inr (.inr fn_))))), (t0, .inl (y 0, 5, .inl t0f)), (t1, .inl (y 0, 5, .inl t1f)), (t2, .inl (y 0, 5, .inl t2f)), (t3, .inl (y 0, 5, .inl t3f)), (t4, .inl (y 0, 5, .inl t4f)), (t5, .inl (y 0, 5, .inl t5f)), (tx, .inr (7, [.ref bys, .int (nI ln), .int tok, .int (nI sta), .int (nI en), .int num, .ref wo, .ref fs, .ref sc, .int tfi, .int tgl, .int tst]))] H := hP
                    have hD : va_D A [(g, .inr (10, [.ref kk, .ref nw, .ref im, .ref kp, .ref tx, .ref tr, .ref be, .ref sh, .ref sd, .ref rf, .int ab, .int bl])), (nw, .inr (4, [.ref kk, .ref nk, .ref nd, .ref ne, .ref nm, .ref nn, .int (nI fi), .int (nI gl), .int (nI un), .int (nI mi), .int (nI no)])), (nk, .inl (y 0, 6, .inl fk)), (nd, .inr (1, [.ref nl, .ref na, .ref ns, .int nst, .int ncl, .int nnu])), (nl, .inl (y 0, 6, .inl nfl)), (na, .inl (y 0, 5, .inl nfa)), (ns, .inl (y 0, 5, .inl nfs)), (nm, .inl (y 6, 4, .inr (.inr (.inr (.inr fm))))), (m0, .inl (y 0, 4, .inl m0f)), (m1, .inl (y 0, 4, .inl m1f)), (m2, .inl (y 0, 4, .inl m2f)), (m3, .inl (y 0, 4, .inl m3f)), (nn, .inl (y 6, 6, .inr (.inr (.inr (.inr fn_))))), (t0, .inl (y 0, 5, .inl t0f)), (t1, .inl (y 0, 5, .inl t1f)), (t2, .inl (y 0, 5, .inl t2f)), (t3, .inl (y 0, 5, .inl t3f)), (t4, .inl (y 0, 5, .inl t4f)), (t5, .inl (y 0, 5, .inl t5f)), (tx, .inr (7, [.ref bys, .int (nI ln), .int tok, .int (nI sta), .int (nI en), .int num, .ref wo, .ref fs, .ref sc, .int tfi, .int tgl, .int tst]))] := hD
                    refine lv_lstore_n (lv' := [(1, .long ((31 * ((31 * x7508) + ((nI w8091).toInt64))) + ((nfs j93).toInt64))), (3, .int (nI j93)), (0, .ref g)]) hx hb dX10_digest_125 rfl hl (by decide) rfl (fun ls hl => ?_)
                    refine lv_iinc (v := (nI (j93 + 1))) (lv' := [(3, .int (nI (j93 + 1))), (1, .long ((31 * ((31 * x7508) + ((nI w8091).toInt64))) + ((nfs j93).toInt64))), (0, .ref g)]) hx hb dX10_digest_126 hl (k := 1) rfl (nI_1 j93) (by decide) rfl (fun ls hl => ?_)
                    refine lv_goto (tgt := 81) hx hb dX10_digest_129 (by decide) ?_
                    exact ihj93 (j93 + 1) ((31 * ((31 * x7508) + ((nI w8091).toInt64))) + ((nfs j93).toInt64)) H locs ls (by omega) (by omega)  (hP.sub [0, 1, 2, 3, 4, 5, 6, 7, 8, 9, 10, 11, 12, 13, 14, 15, 16, 17, 18, 19] rfl) (hD.sub [0, 1, 2, 3, 4, 5, 6, 7, 8, 9, 10, 11, 12, 13, 14, 15, 16, 17, 18, 19] (by decide) rfl) hS (lv_sub hl [0, 1, 2] rfl)
              exact lp7804 (gl + 1) 0 x6311 _ _ _ (by omega) (by omega)  hP hD hS (lv_sub hl [0, 1, 2] rfl)
            · skip
              have h7212 : ¬ fi ≤ j92 := fun q9 => h7212 ((nI_leI (a := fi) (b := j92) (by omega) (by omega)).mpr q9)
              refine lv_lload_n hx hb dX10_digest_42 rfl (lv_at hl 1 rfl) ?_
              refine lv_aload_n hx hb dX10_digest_43 rfl (lv_at hl 2 rfl) ?_
              refine va_get (D := D) (ci := 10) (v := .ref nw) (C := RX10) (T := TX10) (N := 12) hx hb hts iw10 hown hK hP 0 rfl rfl 1 (by decide) fw2 (fun _ h9 => h9) rfl dX10_digest_44 ?_
              refine va_get (D := D) (ci := 4) (v := .ref nk) (C := RX4) (T := TX4) (N := 11) hx hb hts iw4 hown hK hP 1 rfl rfl 1 (by decide) fw14 (fun _ h9 => h9) rfl dX10_digest_47 ?_
              refine lv_iload_n hx hb dX10_digest_50 rfl (lv_at hl 0 rfl) ?_
              refine va_iald hx hb hK hP 2 0 rfl rfl (vp_in_nI (by omega) (by decide)) dX10_digest_51 ?_
              rw [nI_clamp (n := j92) (by omega)]
              obtain ⟨w8100, h8101, h8102⟩ := kw_bdv hk (k := j92) (by omega) (by decide)
              rw [h8102]
              refine lv_i2l (v := (nI w8100).toInt64) hx hb dX10_digest_52 (rfl) ?_
              have hs8103 : kw_Split [(g, .inr (10, [.ref kk, .ref nw, .ref im, .ref kp, .ref tx, .ref tr, .ref be, .ref sh, .ref sd, .ref rf, .int ab, .int bl])), (nw, .inr (4, [.ref kk, .ref nk, .ref nd, .ref ne, .ref nm, .ref nn, .int (nI fi), .int (nI gl), .int (nI un), .int (nI mi), .int (nI no)])), (nk, .inl (y 0, 6, .inl fk)), (nd, .inr (1, [.ref nl, .ref na, .ref ns, .int nst, .int ncl, .int nnu])), (nl, .inl (y 0, 6, .inl nfl)), (na, .inl (y 0, 5, .inl nfa)), (ns, .inl (y 0, 5, .inl nfs)), (nm, .inl (y 6, 4, .inr (.inr (.inr (.inr fm))))), (m0, .inl (y 0, 4, .inl m0f)), (m1, .inl (y 0, 4, .inl m1f)), (m2, .inl (y 0, 4, .inl m2f)), (m3, .inl (y 0, 4, .inl m3f)), (nn, .inl (y 6, 6, .inr (.inr (.inr (.inr fn_))))), (t0, .inl (y 0, 5, .inl t0f)), (t1, .inl (y 0, 5, .inl t1f)), (t2, .inl (y 0, 5, .inl t2f)), (t3, .inl (y 0, 5, .inl t3f)), (t4, .inl (y 0, 5, .inl t4f)), (t5, .inl (y 0, 5, .inl t5f)), (tx, .inr (7, [.ref bys, .int (nI ln), .int tok, .int (nI sta), .int (nI en), .int num, .ref wo, .ref fs, .ref sc, .int tfi, .int tgl, .int tst]))] [] [(g, .inr (10, [.ref kk, .ref nw, .ref im, .ref kp, .ref tx, .ref tr, .ref be, .ref sh, .ref sd, .ref rf, .int ab, .int bl])), (nw, .inr (4, [.ref kk, .ref nk, .ref nd, .ref ne, .ref nm, .ref nn, .int (nI fi), .int (nI gl), .int (nI un), .int (nI mi), .int (nI no)])), (nk, .inl (y 0, 6, .inl fk)), (nd, .inr (1, [.ref nl, .ref na, .ref ns, .int nst, .int ncl, .int nnu])), (nl, .inl (y 0, 6, .inl nfl)), (na, .inl (y 0, 5, .inl nfa)), (ns, .inl (y 0, 5, .inl nfs)), (nm, .inl (y 6, 4, .inr (.inr (.inr (.inr fm))))), (m0, .inl (y 0, 4, .inl m0f)), (m1, .inl (y 0, 4, .inl m1f)), (m2, .inl (y 0, 4, .inl m2f)), (m3, .inl (y 0, 4, .inl m3f)), (nn, .inl (y 6, 6, .inr (.inr (.inr (.inr fn_))))), (t0, .inl (y 0, 5, .inl t0f)), (t1, .inl (y 0, 5, .inl t1f)), (t2, .inl (y 0, 5, .inl t2f)), (t3, .inl (y 0, 5, .inl t3f)), (t4, .inl (y 0, 5, .inl t4f)), (t5, .inl (y 0, 5, .inl t5f)), (tx, .inr (7, [.ref bys, .int (nI ln), .int tok, .int (nI sta), .int (nI en), .int num, .ref wo, .ref fs, .ref sc, .int tfi, .int tgl, .int tst]))] [] [0, 1, 2, 3, 4, 5, 6, 7, 8, 9, 10, 11, 12, 13, 14, 15, 16, 17, 18, 19] := ⟨rfl, rfl, rfl, rfl, rfl, by decide⟩
              refine kw_go_l hs8103 hP hD hS hA (va_runS (As := [.long x6311, .long ((nI w8100).toInt64)]) (rest := []) ⟨hx, hb, hml, hown, hts⟩ (gc_mix l D y x6311 ((nI w8100).toInt64)  _) (va_cwS 2 hts gX10_digest_X10_mix rfl rfl rfl (by decide +kernel) ⟨Nat.le_of_ble_eq_true rfl, Nat.le_of_ble_eq_true rfl⟩) (kw_PreS hs8103 hP hD hK hN) rfl rfl hl.1 rfl (lv_room (Nat.le_of_ble_eq_true rfl)) dX10_digest_53 ⟨Nat.le_of_ble_eq_true rfl, Nat.le_of_ble_eq_true rfl⟩) (fun r8104 u8105 H locs hq hP hD hS => ?_)
              obtain rfl := hq
              have hP : va_P D vwCl [(g, .inr (10, [.ref kk, .ref nw, .ref im, .ref kp, .ref tx, .ref tr, .ref be, .ref sh, .ref sd, .ref rf, .int ab, .int bl])), (nw, .inr (4, [.ref kk, .ref nk, .ref nd, .ref ne, .ref nm, .ref nn, .int (nI fi), .int (nI gl), .int (nI un), .int (nI mi), .int (nI no)])), (nk, .inl (y 0, 6, .inl fk)), (nd, .inr (1, [.ref nl, .ref na, .ref ns, .int nst, .int ncl, .int nnu])), (nl, .inl (y 0, 6, .inl nfl)), (na, .inl (y 0, 5, .inl nfa)), (ns, .inl (y 0, 5, .inl nfs)), (nm, .inl (y 6, 4, .inr (.inr (.inr (.inr fm))))), (m0, .inl (y 0, 4, .inl m0f)), (m1, .inl (y 0, 4, .inl m1f)), (m2, .inl (y 0, 4, .inl m2f)), (m3, .inl (y 0, 4, .inl m3f)), (nn, .inl (y 6, 6, .inr (.inr (.inr (.inr fn_))))), (t0, .inl (y 0, 5, .inl t0f)), (t1, .inl (y 0, 5, .inl t1f)), (t2, .inl (y 0, 5, .inl t2f)), (t3, .inl (y 0, 5, .inl t3f)), (t4, .inl (y 0, 5, .inl t4f)), (t5, .inl (y 0, 5, .inl t5f)), (tx, .inr (7, [.ref bys, .int (nI ln), .int tok, .int (nI sta), .int (nI en), .int num, .ref wo, .ref fs, .ref sc, .int tfi, .int tgl, .int tst]))] H := hP
              have hD : va_D A [(g, .inr (10, [.ref kk, .ref nw, .ref im, .ref kp, .ref tx, .ref tr, .ref be, .ref sh, .ref sd, .ref rf, .int ab, .int bl])), (nw, .inr (4, [.ref kk, .ref nk, .ref nd, .ref ne, .ref nm, .ref nn, .int (nI fi), .int (nI gl), .int (nI un), .int (nI mi), .int (nI no)])), (nk, .inl (y 0, 6, .inl fk)), (nd, .inr (1, [.ref nl, .ref na, .ref ns, .int nst, .int ncl, .int nnu])), (nl, .inl (y 0, 6, .inl nfl)), (na, .inl (y 0, 5, .inl nfa)), (ns, .inl (y 0, 5, .inl nfs)), (nm, .inl (y 6, 4, .inr (.inr (.inr (.inr fm))))), (m0, .inl (y 0, 4, .inl m0f)), (m1, .inl (y 0, 4, .inl m1f)), (m2, .inl (y 0, 4, .inl m2f)), (m3, .inl (y 0, 4, .inl m3f)), (nn, .inl (y 6, 6, .inr (.inr (.inr (.inr fn_))))), (t0, .inl (y 0, 5, .inl t0f)), (t1, .inl (y 0, 5, .inl t1f)), (t2, .inl (y 0, 5, .inl t2f)), (t3, .inl (y 0, 5, .inl t3f)), (t4, .inl (y 0, 5, .inl t4f)), (t5, .inl (y 0, 5, .inl t5f)), (tx, .inr (7, [.ref bys, .int (nI ln), .int tok, .int (nI sta), .int (nI en), .int num, .ref wo, .ref fs, .ref sc, .int tfi, .int tgl, .int tst]))] := hD
              refine lv_aload_n hx hb dX10_digest_56 rfl (lv_at hl 2 rfl) ?_
              refine va_get (D := D) (ci := 10) (v := .ref nw) (C := RX10) (T := TX10) (N := 12) hx hb hts iw10 hown hK hP 0 rfl rfl 1 (by decide) fw2 (fun _ h9 => h9) rfl dX10_digest_57 ?_
              refine va_get (D := D) (ci := 4) (v := .ref nd) (C := RX4) (T := TX4) (N := 11) hx hb hts iw4 hown hK hP 1 rfl rfl 2 (by decide) fw11 (fun _ h9 => h9) rfl dX10_digest_60 ?_
              refine va_get (D := D) (ci := 1) (v := .ref nl) (C := RX1) (T := TX1) (N := 6) hx hb hts iw1 hown hK hP 3 rfl rfl 0 (by decide) fw15 (fun _ h9 => h9) rfl dX10_digest_63 ?_
              refine lv_iload_n hx hb dX10_digest_66 rfl (lv_at hl 0 rfl) ?_
              refine va_iald hx hb hK hP 4 0 rfl rfl (vp_in_nI (by omega) (by decide)) dX10_digest_67 ?_
              rw [nI_clamp (n := j92) (by omega)]
              refine lv_i2l (v := (nfl j92).toInt64) hx hb dX10_digest_68 (rfl) ?_
              have hs8106 : kw_Split [(g, .inr (10, [.ref kk, .ref nw, .ref im, .ref kp, .ref tx, .ref tr, .ref be, .ref sh, .ref sd, .ref rf, .int ab, .int bl])), (nw, .inr (4, [.ref kk, .ref nk, .ref nd, .ref ne, .ref nm, .ref nn, .int (nI fi), .int (nI gl), .int (nI un), .int (nI mi), .int (nI no)])), (nk, .inl (y 0, 6, .inl fk)), (nd, .inr (1, [.ref nl, .ref na, .ref ns, .int nst, .int ncl, .int nnu])), (nl, .inl (y 0, 6, .inl nfl)), (na, .inl (y 0, 5, .inl nfa)), (ns, .inl (y 0, 5, .inl nfs)), (nm, .inl (y 6, 4, .inr (.inr (.inr (.inr fm))))), (m0, .inl (y 0, 4, .inl m0f)), (m1, .inl (y 0, 4, .inl m1f)), (m2, .inl (y 0, 4, .inl m2f)), (m3, .inl (y 0, 4, .inl m3f)), (nn, .inl (y 6, 6, .inr (.inr (.inr (.inr fn_))))), (t0, .inl (y 0, 5, .inl t0f)), (t1, .inl (y 0, 5, .inl t1f)), (t2, .inl (y 0, 5, .inl t2f)), (t3, .inl (y 0, 5, .inl t3f)), (t4, .inl (y 0, 5, .inl t4f)), (t5, .inl (y 0, 5, .inl t5f)), (tx, .inr (7, [.ref bys, .int (nI ln), .int tok, .int (nI sta), .int (nI en), .int num, .ref wo, .ref fs, .ref sc, .int tfi, .int tgl, .int tst]))] [] [(g, .inr (10, [.ref kk, .ref nw, .ref im, .ref kp, .ref tx, .ref tr, .ref be, .ref sh, .ref sd, .ref rf, .int ab, .int bl])), (nw, .inr (4, [.ref kk, .ref nk, .ref nd, .ref ne, .ref nm, .ref nn, .int (nI fi), .int (nI gl), .int (nI un), .int (nI mi), .int (nI no)])), (nk, .inl (y 0, 6, .inl fk)), (nd, .inr (1, [.ref nl, .ref na, .ref ns, .int nst, .int ncl, .int nnu])), (nl, .inl (y 0, 6, .inl nfl)), (na, .inl (y 0, 5, .inl nfa)), (ns, .inl (y 0, 5, .inl nfs)), (nm, .inl (y 6, 4, .inr (.inr (.inr (.inr fm))))), (m0, .inl (y 0, 4, .inl m0f)), (m1, .inl (y 0, 4, .inl m1f)), (m2, .inl (y 0, 4, .inl m2f)), (m3, .inl (y 0, 4, .inl m3f)), (nn, .inl (y 6, 6, .inr (.inr (.inr (.inr fn_))))), (t0, .inl (y 0, 5, .inl t0f)), (t1, .inl (y 0, 5, .inl t1f)), (t2, .inl (y 0, 5, .inl t2f)), (t3, .inl (y 0, 5, .inl t3f)), (t4, .inl (y 0, 5, .inl t4f)), (t5, .inl (y 0, 5, .inl t5f)), (tx, .inr (7, [.ref bys, .int (nI ln), .int tok, .int (nI sta), .int (nI en), .int num, .ref wo, .ref fs, .ref sc, .int tfi, .int tgl, .int tst]))] [] [0, 1, 2, 3, 4, 5, 6, 7, 8, 9, 10, 11, 12, 13, 14, 15, 16, 17, 18, 19] := ⟨rfl, rfl, rfl, rfl, rfl, by decide⟩
              refine kw_go_l hs8106 hP hD hS hA (va_runS (As := [.long ((31 * x6311) + ((nI w8100).toInt64)), .long ((nfl j92).toInt64)]) (rest := []) ⟨hx, hb, hml, hown, hts⟩ (gc_mix l D y ((31 * x6311) + ((nI w8100).toInt64)) ((nfl j92).toInt64)  _) (va_cwS 2 hts gX10_digest_X10_mix rfl rfl rfl (by decide +kernel) ⟨Nat.le_of_ble_eq_true rfl, Nat.le_of_ble_eq_true rfl⟩) (kw_PreS hs8106 hP hD hK hN) rfl rfl hl.1 rfl (lv_room (Nat.le_of_ble_eq_true rfl)) dX10_digest_69 ⟨Nat.le_of_ble_eq_true rfl, Nat.le_of_ble_eq_true rfl⟩) (fun r8107 u8108 H locs hq hP hD hS => ?_)
              obtain rfl := hq
              have hP : va_P D vwCl [(g, .inr (10, [.ref kk, .ref nw, .ref im, .ref kp, .ref tx, .ref tr, .ref be, .ref sh, .ref sd, .ref rf, .int ab, .int bl])), (nw, .inr (4, [.ref kk, .ref nk, .ref nd, .ref ne, .ref nm, .ref nn, .int (nI fi), .int (nI gl), .int (nI un), .int (nI mi), .int (nI no)])), (nk, .inl (y 0, 6, .inl fk)), (nd, .inr (1, [.ref nl, .ref na, .ref ns, .int nst, .int ncl, .int nnu])), (nl, .inl (y 0, 6, .inl nfl)), (na, .inl (y 0, 5, .inl nfa)), (ns, .inl (y 0, 5, .inl nfs)), (nm, .inl (y 6, 4, .inr (.inr (.inr (.inr fm))))), (m0, .inl (y 0, 4, .inl m0f)), (m1, .inl (y 0, 4, .inl m1f)), (m2, .inl (y 0, 4, .inl m2f)), (m3, .inl (y 0, 4, .inl m3f)), (nn, .inl (y 6, 6, .inr (.inr (.inr (.inr fn_))))), (t0, .inl (y 0, 5, .inl t0f)), (t1, .inl (y 0, 5, .inl t1f)), (t2, .inl (y 0, 5, .inl t2f)), (t3, .inl (y 0, 5, .inl t3f)), (t4, .inl (y 0, 5, .inl t4f)), (t5, .inl (y 0, 5, .inl t5f)), (tx, .inr (7, [.ref bys, .int (nI ln), .int tok, .int (nI sta), .int (nI en), .int num, .ref wo, .ref fs, .ref sc, .int tfi, .int tgl, .int tst]))] H := hP
              have hD : va_D A [(g, .inr (10, [.ref kk, .ref nw, .ref im, .ref kp, .ref tx, .ref tr, .ref be, .ref sh, .ref sd, .ref rf, .int ab, .int bl])), (nw, .inr (4, [.ref kk, .ref nk, .ref nd, .ref ne, .ref nm, .ref nn, .int (nI fi), .int (nI gl), .int (nI un), .int (nI mi), .int (nI no)])), (nk, .inl (y 0, 6, .inl fk)), (nd, .inr (1, [.ref nl, .ref na, .ref ns, .int nst, .int ncl, .int nnu])), (nl, .inl (y 0, 6, .inl nfl)), (na, .inl (y 0, 5, .inl nfa)), (ns, .inl (y 0, 5, .inl nfs)), (nm, .inl (y 6, 4, .inr (.inr (.inr (.inr fm))))), (m0, .inl (y 0, 4, .inl m0f)), (m1, .inl (y 0, 4, .inl m1f)), (m2, .inl (y 0, 4, .inl m2f)), (m3, .inl (y 0, 4, .inl m3f)), (nn, .inl (y 6, 6, .inr (.inr (.inr (.inr fn_))))), (t0, .inl (y 0, 5, .inl t0f)), (t1, .inl (y 0, 5, .inl t1f)), (t2, .inl (y 0, 5, .inl t2f)), (t3, .inl (y 0, 5, .inl t3f)), (t4, .inl (y 0, 5, .inl t4f)), (t5, .inl (y 0, 5, .inl t5f)), (tx, .inr (7, [.ref bys, .int (nI ln), .int tok, .int (nI sta), .int (nI en), .int num, .ref wo, .ref fs, .ref sc, .int tfi, .int tgl, .int tst]))] := hD
              refine lv_lstore_n (lv' := [(1, .long ((31 * ((31 * x6311) + ((nI w8100).toInt64))) + ((nfl j92).toInt64))), (3, .int (nI j92)), (0, .ref g)]) hx hb dX10_digest_72 rfl hl (by decide) rfl (fun ls hl => ?_)
              refine lv_iinc (v := (nI (j92 + 1))) (lv' := [(3, .int (nI (j92 + 1))), (1, .long ((31 * ((31 * x6311) + ((nI w8100).toInt64))) + ((nfl j92).toInt64))), (0, .ref g)]) hx hb dX10_digest_73 hl (k := 1) rfl (nI_1 j92) (by decide) rfl (fun ls hl => ?_)
              refine lv_goto (tgt := 31) hx hb dX10_digest_76 (by decide) ?_
              exact ihj92 (j92 + 1) ((31 * ((31 * x6311) + ((nI w8100).toInt64))) + ((nfl j92).toInt64)) H locs ls (by omega) (by omega)  (hP.sub [0, 1, 2, 3, 4, 5, 6, 7, 8, 9, 10, 11, 12, 13, 14, 15, 16, 17, 18, 19] rfl) (hD.sub [0, 1, 2, 3, 4, 5, 6, 7, 8, 9, 10, 11, 12, 13, 14, 15, 16, 17, 18, 19] (by decide) rfl) hS (lv_sub hl [0, 1, 2] rfl)
        exact lp7210 (fi + 1) 0 x2705 _ _ _ (by omega) (by omega)  hP hD hS (lv_sub hl [0, 1, 2] rfl)
      · skip
        have h5412 : ¬ 9 ≤ j91 := fun q9 => h5412 ((nI_leI (a := 9) (b := j91) (by omega) (by omega)).mpr q9)
        refine lv_lload_n hx hb dX10_digest_12 rfl (lv_at hl 1 rfl) ?_
        refine lv_aload_n hx hb dX10_digest_13 rfl (lv_at hl 2 rfl) ?_
        refine lv_iload_n hx hb dX10_digest_14 rfl (lv_at hl 0 rfl) ?_
        have hs8109 : kw_Split [(g, .inr (10, [.ref kk, .ref nw, .ref im, .ref kp, .ref tx, .ref tr, .ref be, .ref sh, .ref sd, .ref rf, .int ab, .int bl])), (nw, .inr (4, [.ref kk, .ref nk, .ref nd, .ref ne, .ref nm, .ref nn, .int (nI fi), .int (nI gl), .int (nI un), .int (nI mi), .int (nI no)])), (nk, .inl (y 0, 6, .inl fk)), (nd, .inr (1, [.ref nl, .ref na, .ref ns, .int nst, .int ncl, .int nnu])), (nl, .inl (y 0, 6, .inl nfl)), (na, .inl (y 0, 5, .inl nfa)), (ns, .inl (y 0, 5, .inl nfs)), (nm, .inl (y 6, 4, .inr (.inr (.inr (.inr fm))))), (m0, .inl (y 0, 4, .inl m0f)), (m1, .inl (y 0, 4, .inl m1f)), (m2, .inl (y 0, 4, .inl m2f)), (m3, .inl (y 0, 4, .inl m3f)), (nn, .inl (y 6, 6, .inr (.inr (.inr (.inr fn_))))), (t0, .inl (y 0, 5, .inl t0f)), (t1, .inl (y 0, 5, .inl t1f)), (t2, .inl (y 0, 5, .inl t2f)), (t3, .inl (y 0, 5, .inl t3f)), (t4, .inl (y 0, 5, .inl t4f)), (t5, .inl (y 0, 5, .inl t5f)), (tx, .inr (7, [.ref bys, .int (nI ln), .int tok, .int (nI sta), .int (nI en), .int num, .ref wo, .ref fs, .ref sc, .int tfi, .int tgl, .int tst]))] [(g, .inr (10, [.ref kk, .ref nw, .ref im, .ref kp, .ref tx, .ref tr, .ref be, .ref sh, .ref sd, .ref rf, .int ab, .int bl])), (nw, .inr (4, [.ref kk, .ref nk, .ref nd, .ref ne, .ref nm, .ref nn, .int (nI fi), .int (nI gl), .int (nI un), .int (nI mi), .int (nI no)])), (nd, .inr (1, [.ref nl, .ref na, .ref ns, .int nst, .int ncl, .int nnu])), (tx, .inr (7, [.ref bys, .int (nI ln), .int tok, .int (nI sta), .int (nI en), .int num, .ref wo, .ref fs, .ref sc, .int tfi, .int tgl, .int tst]))] [(nk, .inl (y 0, 6, .inl fk)), (nl, .inl (y 0, 6, .inl nfl)), (na, .inl (y 0, 5, .inl nfa)), (ns, .inl (y 0, 5, .inl nfs)), (nm, .inl (y 6, 4, .inr (.inr (.inr (.inr fm))))), (m0, .inl (y 0, 4, .inl m0f)), (m1, .inl (y 0, 4, .inl m1f)), (m2, .inl (y 0, 4, .inl m2f)), (m3, .inl (y 0, 4, .inl m3f)), (nn, .inl (y 6, 6, .inr (.inr (.inr (.inr fn_))))), (t0, .inl (y 0, 5, .inl t0f)), (t1, .inl (y 0, 5, .inl t1f)), (t2, .inl (y 0, 5, .inl t2f)), (t3, .inl (y 0, 5, .inl t3f)), (t4, .inl (y 0, 5, .inl t4f)), (t5, .inl (y 0, 5, .inl t5f))] [0, 1, 3, 19] [2, 4, 5, 6, 7, 8, 9, 10, 11, 12, 13, 14, 15, 16, 17, 18] := ⟨rfl, rfl, rfl, rfl, rfl, by decide⟩
        refine kw_go_i hs8109 hP hD hS hA (va_runV (As := [.int (nI j91)]) (rest := [.long x2705]) ⟨hx, hb, hml, hown, hts⟩ (gc_howMany2 l D y g kk nw im kp tx tr be sh sd rf ab bl nk nd ne nm nn fi gl un mi no nd nl na ns nst ncl nnu bys wo fs sc ln sta en tok num tfi tgl tst j91 hfi hgl hun hmi hno hln hTs hTe (by omega) _) (cwV 1 hts gX10_digest_X10_howMany rfl rfl rfl (by decide +kernel) ⟨Nat.le_of_ble_eq_true rfl, Nat.le_of_ble_eq_true rfl⟩) (kw_PreV (ci := 10) (q0 := 0) hs8109 hP hD hK hN rfl rfl) rfl rfl hl.1 rfl (lv_room (Nat.le_of_ble_eq_true rfl)) dX10_digest_15 ⟨Nat.le_of_ble_eq_true rfl, Nat.le_of_ble_eq_true rfl⟩) (fun r8110 u8111 H locs hq hP hD hS => ?_)
        have hP : va_P D vwCl [(nk, .inl (y 0, 6, .inl fk)), (nl, .inl (y 0, 6, .inl nfl)), (na, .inl (y 0, 5, .inl nfa)), (ns, .inl (y 0, 5, .inl nfs)), (nm, .inl (y 6, 4, .inr (.inr (.inr (.inr fm))))), (m0, .inl (y 0, 4, .inl m0f)), (m1, .inl (y 0, 4, .inl m1f)), (m2, .inl (y 0, 4, .inl m2f)), (m3, .inl (y 0, 4, .inl m3f)), (nn, .inl (y 6, 6, .inr (.inr (.inr (.inr fn_))))), (t0, .inl (y 0, 5, .inl t0f)), (t1, .inl (y 0, 5, .inl t1f)), (t2, .inl (y 0, 5, .inl t2f)), (t3, .inl (y 0, 5, .inl t3f)), (t4, .inl (y 0, 5, .inl t4f)), (t5, .inl (y 0, 5, .inl t5f)), (g, .inr (10, [.ref kk, .ref nw, .ref im, .ref kp, .ref tx, .ref tr, .ref be, .ref sh, .ref sd, .ref rf, .int ab, .int bl])), (nw, .inr (4, [.ref kk, .ref nk, .ref nd, .ref ne, .ref nm, .ref nn, .int (nI fi), .int (nI gl), .int (nI un), .int (nI mi), .int (nI no)])), (nd, .inr (1, [.ref nl, .ref na, .ref ns, .int nst, .int ncl, .int nnu])), (tx, .inr (7, [.ref bys, .int (nI ln), .int tok, .int (nI sta), .int (nI en), .int num, .ref wo, .ref fs, .ref sc, .int tfi, .int tgl, .int tst]))] H := hP
        have hD : va_D A [(nk, .inl (y 0, 6, .inl fk)), (nl, .inl (y 0, 6, .inl nfl)), (na, .inl (y 0, 5, .inl nfa)), (ns, .inl (y 0, 5, .inl nfs)), (nm, .inl (y 6, 4, .inr (.inr (.inr (.inr fm))))), (m0, .inl (y 0, 4, .inl m0f)), (m1, .inl (y 0, 4, .inl m1f)), (m2, .inl (y 0, 4, .inl m2f)), (m3, .inl (y 0, 4, .inl m3f)), (nn, .inl (y 6, 6, .inr (.inr (.inr (.inr fn_))))), (t0, .inl (y 0, 5, .inl t0f)), (t1, .inl (y 0, 5, .inl t1f)), (t2, .inl (y 0, 5, .inl t2f)), (t3, .inl (y 0, 5, .inl t3f)), (t4, .inl (y 0, 5, .inl t4f)), (t5, .inl (y 0, 5, .inl t5f)), (g, .inr (10, [.ref kk, .ref nw, .ref im, .ref kp, .ref tx, .ref tr, .ref be, .ref sh, .ref sd, .ref rf, .int ab, .int bl])), (nw, .inr (4, [.ref kk, .ref nk, .ref nd, .ref ne, .ref nm, .ref nn, .int (nI fi), .int (nI gl), .int (nI un), .int (nI mi), .int (nI no)])), (nd, .inr (1, [.ref nl, .ref na, .ref ns, .int nst, .int ncl, .int nnu])), (tx, .inr (7, [.ref bys, .int (nI ln), .int tok, .int (nI sta), .int (nI en), .int num, .ref wo, .ref fs, .ref sc, .int tfi, .int tgl, .int tst]))] := hD
        refine lv_i2l (v := r8110.toInt64) hx hb dX10_digest_18 (rfl) ?_
        have hs8112 : kw_Split [(nk, .inl (y 0, 6, .inl fk)), (nl, .inl (y 0, 6, .inl nfl)), (na, .inl (y 0, 5, .inl nfa)), (ns, .inl (y 0, 5, .inl nfs)), (nm, .inl (y 6, 4, .inr (.inr (.inr (.inr fm))))), (m0, .inl (y 0, 4, .inl m0f)), (m1, .inl (y 0, 4, .inl m1f)), (m2, .inl (y 0, 4, .inl m2f)), (m3, .inl (y 0, 4, .inl m3f)), (nn, .inl (y 6, 6, .inr (.inr (.inr (.inr fn_))))), (t0, .inl (y 0, 5, .inl t0f)), (t1, .inl (y 0, 5, .inl t1f)), (t2, .inl (y 0, 5, .inl t2f)), (t3, .inl (y 0, 5, .inl t3f)), (t4, .inl (y 0, 5, .inl t4f)), (t5, .inl (y 0, 5, .inl t5f)), (g, .inr (10, [.ref kk, .ref nw, .ref im, .ref kp, .ref tx, .ref tr, .ref be, .ref sh, .ref sd, .ref rf, .int ab, .int bl])), (nw, .inr (4, [.ref kk, .ref nk, .ref nd, .ref ne, .ref nm, .ref nn, .int (nI fi), .int (nI gl), .int (nI un), .int (nI mi), .int (nI no)])), (nd, .inr (1, [.ref nl, .ref na, .ref ns, .int nst, .int ncl, .int nnu])), (tx, .inr (7, [.ref bys, .int (nI ln), .int tok, .int (nI sta), .int (nI en), .int num, .ref wo, .ref fs, .ref sc, .int tfi, .int tgl, .int tst]))] [] [(nk, .inl (y 0, 6, .inl fk)), (nl, .inl (y 0, 6, .inl nfl)), (na, .inl (y 0, 5, .inl nfa)), (ns, .inl (y 0, 5, .inl nfs)), (nm, .inl (y 6, 4, .inr (.inr (.inr (.inr fm))))), (m0, .inl (y 0, 4, .inl m0f)), (m1, .inl (y 0, 4, .inl m1f)), (m2, .inl (y 0, 4, .inl m2f)), (m3, .inl (y 0, 4, .inl m3f)), (nn, .inl (y 6, 6, .inr (.inr (.inr (.inr fn_))))), (t0, .inl (y 0, 5, .inl t0f)), (t1, .inl (y 0, 5, .inl t1f)), (t2, .inl (y 0, 5, .inl t2f)), (t3, .inl (y 0, 5, .inl t3f)), (t4, .inl (y 0, 5, .inl t4f)), (t5, .inl (y 0, 5, .inl t5f)), (g, .inr (10, [.ref kk, .ref nw, .ref im, .ref kp, .ref tx, .ref tr, .ref be, .ref sh, .ref sd, .ref rf, .int ab, .int bl])), (nw, .inr (4, [.ref kk, .ref nk, .ref nd, .ref ne, .ref nm, .ref nn, .int (nI fi), .int (nI gl), .int (nI un), .int (nI mi), .int (nI no)])), (nd, .inr (1, [.ref nl, .ref na, .ref ns, .int nst, .int ncl, .int nnu])), (tx, .inr (7, [.ref bys, .int (nI ln), .int tok, .int (nI sta), .int (nI en), .int num, .ref wo, .ref fs, .ref sc, .int tfi, .int tgl, .int tst]))] [] [0, 1, 2, 3, 4, 5, 6, 7, 8, 9, 10, 11, 12, 13, 14, 15, 16, 17, 18, 19] := ⟨rfl, rfl, rfl, rfl, rfl, by decide⟩
        refine kw_go_l hs8112 hP hD hS hA (va_runS (As := [.long x2705, .long r8110.toInt64]) (rest := []) ⟨hx, hb, hml, hown, hts⟩ (gc_mix l D y x2705 r8110.toInt64  _) (va_cwS 2 hts gX10_digest_X10_mix rfl rfl rfl (by decide +kernel) ⟨Nat.le_of_ble_eq_true rfl, Nat.le_of_ble_eq_true rfl⟩) (kw_PreS hs8112 hP hD hK hN) rfl rfl hl.1 rfl (lv_room (Nat.le_of_ble_eq_true rfl)) dX10_digest_19 ⟨Nat.le_of_ble_eq_true rfl, Nat.le_of_ble_eq_true rfl⟩) (fun r8113 u8114 H locs hq hP hD hS => ?_)
        obtain rfl := hq
        have hP : va_P D vwCl [(nk, .inl (y 0, 6, .inl fk)), (nl, .inl (y 0, 6, .inl nfl)), (na, .inl (y 0, 5, .inl nfa)), (ns, .inl (y 0, 5, .inl nfs)), (nm, .inl (y 6, 4, .inr (.inr (.inr (.inr fm))))), (m0, .inl (y 0, 4, .inl m0f)), (m1, .inl (y 0, 4, .inl m1f)), (m2, .inl (y 0, 4, .inl m2f)), (m3, .inl (y 0, 4, .inl m3f)), (nn, .inl (y 6, 6, .inr (.inr (.inr (.inr fn_))))), (t0, .inl (y 0, 5, .inl t0f)), (t1, .inl (y 0, 5, .inl t1f)), (t2, .inl (y 0, 5, .inl t2f)), (t3, .inl (y 0, 5, .inl t3f)), (t4, .inl (y 0, 5, .inl t4f)), (t5, .inl (y 0, 5, .inl t5f)), (g, .inr (10, [.ref kk, .ref nw, .ref im, .ref kp, .ref tx, .ref tr, .ref be, .ref sh, .ref sd, .ref rf, .int ab, .int bl])), (nw, .inr (4, [.ref kk, .ref nk, .ref nd, .ref ne, .ref nm, .ref nn, .int (nI fi), .int (nI gl), .int (nI un), .int (nI mi), .int (nI no)])), (nd, .inr (1, [.ref nl, .ref na, .ref ns, .int nst, .int ncl, .int nnu])), (tx, .inr (7, [.ref bys, .int (nI ln), .int tok, .int (nI sta), .int (nI en), .int num, .ref wo, .ref fs, .ref sc, .int tfi, .int tgl, .int tst]))] H := hP
        have hD : va_D A [(nk, .inl (y 0, 6, .inl fk)), (nl, .inl (y 0, 6, .inl nfl)), (na, .inl (y 0, 5, .inl nfa)), (ns, .inl (y 0, 5, .inl nfs)), (nm, .inl (y 6, 4, .inr (.inr (.inr (.inr fm))))), (m0, .inl (y 0, 4, .inl m0f)), (m1, .inl (y 0, 4, .inl m1f)), (m2, .inl (y 0, 4, .inl m2f)), (m3, .inl (y 0, 4, .inl m3f)), (nn, .inl (y 6, 6, .inr (.inr (.inr (.inr fn_))))), (t0, .inl (y 0, 5, .inl t0f)), (t1, .inl (y 0, 5, .inl t1f)), (t2, .inl (y 0, 5, .inl t2f)), (t3, .inl (y 0, 5, .inl t3f)), (t4, .inl (y 0, 5, .inl t4f)), (t5, .inl (y 0, 5, .inl t5f)), (g, .inr (10, [.ref kk, .ref nw, .ref im, .ref kp, .ref tx, .ref tr, .ref be, .ref sh, .ref sd, .ref rf, .int ab, .int bl])), (nw, .inr (4, [.ref kk, .ref nk, .ref nd, .ref ne, .ref nm, .ref nn, .int (nI fi), .int (nI gl), .int (nI un), .int (nI mi), .int (nI no)])), (nd, .inr (1, [.ref nl, .ref na, .ref ns, .int nst, .int ncl, .int nnu])), (tx, .inr (7, [.ref bys, .int (nI ln), .int tok, .int (nI sta), .int (nI en), .int num, .ref wo, .ref fs, .ref sc, .int tfi, .int tgl, .int tst]))] := hD
        refine lv_lstore_n (lv' := [(1, .long ((31 * x2705) + r8110.toInt64)), (3, .int (nI j91)), (0, .ref g)]) hx hb dX10_digest_22 rfl hl (by decide) rfl (fun ls hl => ?_)
        refine lv_iinc (v := (nI (j91 + 1))) (lv' := [(3, .int (nI (j91 + 1))), (1, .long ((31 * x2705) + r8110.toInt64)), (0, .ref g)]) hx hb dX10_digest_23 hl (k := 1) rfl (nI_1 j91) (by decide) rfl (fun ls hl => ?_)
        refine lv_goto (tgt := 6) hx hb dX10_digest_26 (by decide) ?_
        exact ihj91 (j91 + 1) ((31 * x2705) + r8110.toInt64) H locs ls (by omega) (by omega)  (hP.sub [16, 17, 0, 18, 1, 2, 3, 4, 5, 6, 7, 8, 9, 10, 11, 12, 13, 14, 15, 19] rfl) (hD.sub [16, 17, 0, 18, 1, 2, 3, 4, 5, 6, 7, 8, 9, 10, 11, 12, 13, 14, 15, 19] (by decide) rfl) hS (lv_sub hl [0, 1, 2] rfl)
  exact lp5410 (9 + 1) 0 1451 _ _ _ (by omega) (by omega)  hP hD hS (lv_sub hl [0, 1, 2] rfl)

set_option maxHeartbeats 4000000 in
set_option maxRecDepth 100000 in
theorem gr_in (l : Launch) (D : va_G) (y : Nat → ClassId) (x : Int32) (a : Nat) (b : Nat) (hA1 : a < 2147483648) (hA2 : b < 2147483648) : kw_Mi l yX11_in wsX11_in ({ frames := 1, cells := 0, slots := 0, locals := 60 }) D y [.long x.toInt64, .long (Int64.ofNat a), .long (Int64.ofNat b)] [] (fun (r : Int32) (u : Unit) => (∃ j : Nat, a ≤ j ∧ j ≤ b ∧ x = nI j ∧ r = 1) ∨ ((¬ ∃ j : Nat, a ≤ j ∧ j ≤ b ∧ x = nI j) ∧ r = 0)) (fun _ => []) 0 0 := by
  refine kw_Mi.of (cc := cX11_in) (maxL := 6) (ret := (some .boolean)) (by decide) rfl ?_
  intro pZ eZ s mZ beZ meZ cZ A hE
  obtain ⟨hx, hb, hr, hml, hts, hown, hlocks, hin, hA, hP, hD, hK, hN⟩ := hE
  have hS : va_S A s.heap s.heap [] := va_S.rf
  have hl := lv_entry ([.long x.toInt64, .long (Int64.ofNat a), .long (Int64.ofNat b)]) (n := 6) (Nat.le_of_ble_eq_true rfl)
  rw [lg_entry_eq]
  generalize (lg_sl ([.long x.toInt64, .long (Int64.ofNat a), .long (Int64.ofNat b)]) ++ List.replicate (6 - (lg_sl ([.long x.toInt64, .long (Int64.ofNat a), .long (Int64.ofNat b)])).length) Slot.unset).toArray = ls at hl ⊢
  have hl : lv_has ls 6 [(0, .long x.toInt64), (2, .long (Int64.ofNat a)), (4, .long (Int64.ofNat b))] := hl
  refine lv_lload_n hx hb dX11_in_0 rfl (lv_at hl 0 rfl) ?_
  refine lv_lload_n hx hb dX11_in_1 rfl (lv_at hl 1 rfl) ?_
  refine W.lcmp hx hb dX11_in_2 ?_
  refine lv_if_lt (tgt := 17) hx hb dX11_in_3 (by decide) (fun h1 => ?_) (fun h2 => ?_)
  · skip
    have h1 : x.toInt64 < (Int64.ofNat a) := kw_clt_t h1
    refine lv_iconst (v := 0) hx hb dX11_in_17 (by decide) ?_
    exact W.zret (v := 0) hx hb hr (by decide) (fun tZ ht hW => ⟨⟨0, (), rfl, Or.inr (⟨kr_nex3 h1 hA1 hA2, rfl⟩), by rw [ht]; exact hP.sub [] rfl, hD.sub [] (by decide) rfl⟩, hS.F ht⟩) hS.2.2 dX11_in_18
  · skip
    have h2 : ¬ x.toInt64 < (Int64.ofNat a) := kw_clt_f h2
    refine lv_lload_n hx hb dX11_in_6 rfl (lv_at hl 0 rfl) ?_
    refine lv_lload hx hb dX11_in_7 (lv_at hl 2 rfl) ?_
    refine W.lcmp hx hb dX11_in_9 ?_
    refine lv_if_gt (tgt := 17) hx hb dX11_in_10 (by decide) (fun h3 => ?_) (fun h4 => ?_)
    · skip
      have h3 : (Int64.ofNat b) < x.toInt64 := kw_cgt_t h3
      refine lv_iconst (v := 0) hx hb dX11_in_17 (by decide) ?_
      exact W.zret (v := 0) hx hb hr (by decide) (fun tZ ht hW => ⟨⟨0, (), rfl, Or.inr (⟨kr_nex4 h3 hA1 hA2, rfl⟩), by rw [ht]; exact hP.sub [] rfl, hD.sub [] (by decide) rfl⟩, hS.F ht⟩) hS.2.2 dX11_in_18
    · skip
      have h4 : ¬ (Int64.ofNat b) < x.toInt64 := kw_cgt_f h4
      refine lv_iconst (v := 1) hx hb dX11_in_13 (by decide) ?_
      refine lv_goto (tgt := 18) hx hb dX11_in_14 (by decide) ?_
      exact W.zret (v := 1) hx hb hr (by decide) (fun tZ ht hW => ⟨⟨1, (), rfl, Or.inl (by obtain ⟨j, h, h2, e⟩ := kr_ex2 h2 h4 hA1 hA2; exact ⟨j, h, h2, e, rfl⟩), by rw [ht]; exact hP.sub [] rfl, hD.sub [] (by decide) rfl⟩, hS.F ht⟩) hS.2.2 dX11_in_18

set_option maxHeartbeats 4000000 in
set_option maxRecDepth 100000 in
theorem gr_inF (l : Launch) (D : va_G) (y : Nat → ClassId) (x : Int32) (n : Nat) (hA1 : n < 1000) : kw_Mi l yX11_in wsX11_in ({ frames := 1, cells := 0, slots := 0, locals := 60 }) D y [.long x.toInt64, .long 0, .long (((nI n) - 1).toInt64)] [] (fun (r : Int32) (u : Unit) => (∃ j : Nat, j < n ∧ x = nI j ∧ r = 1) ∨ ((¬ ∃ j : Nat, j < n ∧ x = nI j) ∧ r = 0)) (fun _ => []) 0 0 := by
  refine kw_Mi.of (cc := cX11_in) (maxL := 6) (ret := (some .boolean)) (by decide) rfl ?_
  intro pZ eZ s mZ beZ meZ cZ A hE
  obtain ⟨hx, hb, hr, hml, hts, hown, hlocks, hin, hA, hP, hD, hK, hN⟩ := hE
  have hS : va_S A s.heap s.heap [] := va_S.rf
  have hl := lv_entry ([.long x.toInt64, .long 0, .long (((nI n) - 1).toInt64)]) (n := 6) (Nat.le_of_ble_eq_true rfl)
  rw [lg_entry_eq]
  generalize (lg_sl ([.long x.toInt64, .long 0, .long (((nI n) - 1).toInt64)]) ++ List.replicate (6 - (lg_sl ([.long x.toInt64, .long 0, .long (((nI n) - 1).toInt64)])).length) Slot.unset).toArray = ls at hl ⊢
  have hl : lv_has ls 6 [(0, .long x.toInt64), (2, .long 0), (4, .long (((nI n) - 1).toInt64))] := hl
  refine lv_lload_n hx hb dX11_in_0 rfl (lv_at hl 0 rfl) ?_
  refine lv_lload_n hx hb dX11_in_1 rfl (lv_at hl 1 rfl) ?_
  refine W.lcmp hx hb dX11_in_2 ?_
  refine lv_if_lt (tgt := 17) hx hb dX11_in_3 (by decide) (fun h1 => ?_) (fun h2 => ?_)
  · skip
    have h1 : x.toInt64 < 0 := kw_clt_t h1
    refine lv_iconst (v := 0) hx hb dX11_in_17 (by decide) ?_
    exact W.zret (v := 0) hx hb hr (by decide) (fun tZ ht hW => ⟨⟨0, (), rfl, Or.inr (⟨kr_nexF1 h1 hA1, rfl⟩), by rw [ht]; exact hP.sub [] rfl, hD.sub [] (by decide) rfl⟩, hS.F ht⟩) hS.2.2 dX11_in_18
  · skip
    have h2 : ¬ x.toInt64 < 0 := kw_clt_f h2
    refine lv_lload_n hx hb dX11_in_6 rfl (lv_at hl 0 rfl) ?_
    refine lv_lload hx hb dX11_in_7 (lv_at hl 2 rfl) ?_
    refine W.lcmp hx hb dX11_in_9 ?_
    refine lv_if_gt (tgt := 17) hx hb dX11_in_10 (by decide) (fun h3 => ?_) (fun h4 => ?_)
    · skip
      have h3 : (((nI n) - 1).toInt64) < x.toInt64 := kw_cgt_t h3
      refine lv_iconst (v := 0) hx hb dX11_in_17 (by decide) ?_
      exact W.zret (v := 0) hx hb hr (by decide) (fun tZ ht hW => ⟨⟨0, (), rfl, Or.inr (⟨kr_nexF2 h3 hA1, rfl⟩), by rw [ht]; exact hP.sub [] rfl, hD.sub [] (by decide) rfl⟩, hS.F ht⟩) hS.2.2 dX11_in_18
    · skip
      have h4 : ¬ (((nI n) - 1).toInt64) < x.toInt64 := kw_cgt_f h4
      refine lv_iconst (v := 1) hx hb dX11_in_13 (by decide) ?_
      refine lv_goto (tgt := 18) hx hb dX11_in_14 (by decide) ?_
      exact W.zret (v := 1) hx hb hr (by decide) (fun tZ ht hW => ⟨⟨1, (), rfl, Or.inl (by obtain ⟨j, h, e⟩ := kr_exF h2 h4 hA1; exact ⟨j, h, e, rfl⟩), by rw [ht]; exact hP.sub [] rfl, hD.sub [] (by decide) rfl⟩, hS.F ht⟩) hS.2.2 dX11_in_18

set_option maxHeartbeats 4000000 in
set_option maxRecDepth 100000 in
theorem gr_inM (l : Launch) (D : va_G) (y : Nat → ClassId) (x : Int32) (n : Nat) (hA1 : n < 1000) : kw_Mi l yX11_in wsX11_in ({ frames := 1, cells := 0, slots := 0, locals := 60 }) D y [.long x.toInt64, .long (-1), .long (((nI n) - 1).toInt64)] [] (fun (r : Int32) (u : Unit) => ((x = -1 ∨ ∃ j : Nat, j < n ∧ x = nI j) ∧ r = 1) ∨ (r = 0)) (fun _ => []) 0 0 := by
  refine kw_Mi.of (cc := cX11_in) (maxL := 6) (ret := (some .boolean)) (by decide) rfl ?_
  intro pZ eZ s mZ beZ meZ cZ A hE
  obtain ⟨hx, hb, hr, hml, hts, hown, hlocks, hin, hA, hP, hD, hK, hN⟩ := hE
  have hS : va_S A s.heap s.heap [] := va_S.rf
  have hl := lv_entry ([.long x.toInt64, .long (-1), .long (((nI n) - 1).toInt64)]) (n := 6) (Nat.le_of_ble_eq_true rfl)
  rw [lg_entry_eq]
  generalize (lg_sl ([.long x.toInt64, .long (-1), .long (((nI n) - 1).toInt64)]) ++ List.replicate (6 - (lg_sl ([.long x.toInt64, .long (-1), .long (((nI n) - 1).toInt64)])).length) Slot.unset).toArray = ls at hl ⊢
  have hl : lv_has ls 6 [(0, .long x.toInt64), (2, .long (-1)), (4, .long (((nI n) - 1).toInt64))] := hl
  refine lv_lload_n hx hb dX11_in_0 rfl (lv_at hl 0 rfl) ?_
  refine lv_lload_n hx hb dX11_in_1 rfl (lv_at hl 1 rfl) ?_
  refine W.lcmp hx hb dX11_in_2 ?_
  refine lv_if_lt (tgt := 17) hx hb dX11_in_3 (by decide) (fun h1 => ?_) (fun h2 => ?_)
  · skip
    have h1 : x.toInt64 < (-1) := kw_clt_t h1
    refine lv_iconst (v := 0) hx hb dX11_in_17 (by decide) ?_
    exact W.zret (v := 0) hx hb hr (by decide) (fun tZ ht hW => ⟨⟨0, (), rfl, Or.inr (rfl), by rw [ht]; exact hP.sub [] rfl, hD.sub [] (by decide) rfl⟩, hS.F ht⟩) hS.2.2 dX11_in_18
  · skip
    have h2 : ¬ x.toInt64 < (-1) := kw_clt_f h2
    refine lv_lload_n hx hb dX11_in_6 rfl (lv_at hl 0 rfl) ?_
    refine lv_lload hx hb dX11_in_7 (lv_at hl 2 rfl) ?_
    refine W.lcmp hx hb dX11_in_9 ?_
    refine lv_if_gt (tgt := 17) hx hb dX11_in_10 (by decide) (fun h3 => ?_) (fun h4 => ?_)
    · skip
      have h3 : (((nI n) - 1).toInt64) < x.toInt64 := kw_cgt_t h3
      refine lv_iconst (v := 0) hx hb dX11_in_17 (by decide) ?_
      exact W.zret (v := 0) hx hb hr (by decide) (fun tZ ht hW => ⟨⟨0, (), rfl, Or.inr (rfl), by rw [ht]; exact hP.sub [] rfl, hD.sub [] (by decide) rfl⟩, hS.F ht⟩) hS.2.2 dX11_in_18
    · skip
      have h4 : ¬ (((nI n) - 1).toInt64) < x.toInt64 := kw_cgt_f h4
      refine lv_iconst (v := 1) hx hb dX11_in_13 (by decide) ?_
      refine lv_goto (tgt := 18) hx hb dX11_in_14 (by decide) ?_
      exact W.zret (v := 1) hx hb hr (by decide) (fun tZ ht hW => ⟨⟨1, (), rfl, Or.inl ⟨kr_exM h2 h4 hA1, rfl⟩, by rw [ht]; exact hP.sub [] rfl, hD.sub [] (by decide) rfl⟩, hS.F ht⟩) hS.2.2 dX11_in_18

set_option maxHeartbeats 4000000 in
set_option maxRecDepth 100000 in
theorem gr_bad (l : Launch) (D : va_G) (y : Nat → ClassId) (mo : Nat) (to : Nat) (ke : Nat) (ik : Nat) (mrf : Nat) (ha : Nat) (r0 : Nat) (mbr : Nat) (mbp : Nat) (mby : Nat) (an : Nat) (va : Nat) (mab : Int64) (mbl : Int64) (bl : Nat) (ta : Nat) (tl : Nat) (tk : Nat) (vv : Int32) (frf : Nat → Int32) (x : Int32)  : kw_Mi l yX11_bad wsX11_bad ({ frames := 1, cells := 0, slots := 0, locals := 60 }) D y [.ref mo, .int x] [(mo, .inr (11, [.ref to, .ref ke, .ref ik, .ref mrf, .long mab, .long mbl, .ref ha, .ref r0, .ref mbr, .ref mbp, .ref mby, .int (nI bl), .int (nI ta), .int (nI tl), .int (nI tk), .int vv, .ref an, .ref va])), (mrf, .inl (y 0, 3, .inl frf))] (fun (r : Int32) (u : Unit) => r = x) (fun _ => [(mo, .inr (11, [.ref to, .ref ke, .ref ik, .ref mrf, .long mab, .long mbl, .ref ha, .ref r0, .ref mbr, .ref mbp, .ref mby, .int (nI bl), .int (nI ta), .int (nI tl), .int (nI tk), .int vv, .ref an, .ref va])), (mrf, .inl (y 0, 3, .inl (upd frf 0 ((frf 0) + 1))))]) 0 0 := by
  refine kw_Mi.of (cc := cX11_bad) (maxL := 2) (ret := (some .int)) (by decide) rfl ?_
  intro pZ eZ s mZ beZ meZ cZ A hE
  obtain ⟨hx, hb, hr, hml, hts, hown, hlocks, hin, hA, hP, hD, hK, hN⟩ := hE
  have hS : va_S A s.heap s.heap [] := va_S.rf
  have hl := lv_entry ([.ref mo, .int x]) (n := 2) (Nat.le_of_ble_eq_true rfl)
  rw [lg_entry_eq]
  generalize (lg_sl ([.ref mo, .int x]) ++ List.replicate (2 - (lg_sl ([.ref mo, .int x])).length) Slot.unset).toArray = ls at hl ⊢
  have hl : lv_has ls 2 [(0, .ref mo), (1, .int x)] := hl
  have fw1 := hts (.fieldLink RX11 20 "GleanDuskModel" "refused" "[I") (List.mem_of_getElem? (i := 1) rfl)
  have iw11 : ∀ w ∈ wsX110, w ∈ wsX11_bad := fun _ h => List.mem_cons_of_mem _ (List.mem_append_right _ h)
  refine lv_aload_n hx hb dX11_bad_0 rfl (lv_at hl 0 rfl) ?_
  refine va_get (D := D) (ci := 11) (v := .ref mrf) (C := RX11) (T := TX11) (N := 18) hx hb hts iw11 hown hK hP 0 rfl rfl 3 (by decide) fw1 (fun _ h9 => h9) rfl dX11_bad_1 ?_
  refine lv_iconst (v := 0) hx hb dX11_bad_4 (by decide) ?_
  refine lv_dup2_11 hx hb dX11_bad_5 rfl rfl ?_
  refine va_iald hx hb hK hP 1 0 rfl rfl (by unfold vp_in; decide) dX11_bad_6 ?_
  rw [show ((0 : Int32)).toNatClampNeg = 0 from rfl]
  refine lv_iconst (v := 1) hx hb dX11_bad_7 (by decide) ?_
  refine lv_iadd hx hb dX11_bad_8 ?_
  refine va_iast hx hb hK hP hD hS 1 0 rfl rfl (by unfold vp_in; decide) dX11_bad_9 (fun H locs hP hD hS => ?_)
  rw [show ((0 : Int32)).toNatClampNeg = 0 from rfl] at hP hD
  have hP : va_P D vwCl [(mo, .inr (11, [.ref to, .ref ke, .ref ik, .ref mrf, .long mab, .long mbl, .ref ha, .ref r0, .ref mbr, .ref mbp, .ref mby, .int (nI bl), .int (nI ta), .int (nI tl), .int (nI tk), .int vv, .ref an, .ref va])), (mrf, .inl (y 0, 3, .inl (upd frf 0 ((frf 0) + 1))))] H := hP
  have hD : va_D A [(mo, .inr (11, [.ref to, .ref ke, .ref ik, .ref mrf, .long mab, .long mbl, .ref ha, .ref r0, .ref mbr, .ref mbp, .ref mby, .int (nI bl), .int (nI ta), .int (nI tl), .int (nI tk), .int vv, .ref an, .ref va])), (mrf, .inl (y 0, 3, .inl (upd frf 0 ((frf 0) + 1))))] := hD
  refine lv_iload_n hx hb dX11_bad_10 rfl (lv_at hl 1 rfl) ?_
  exact W.iret (v := x) hx hb hr (fun tZ ht hW => ⟨⟨x, (), rfl, rfl, by rw [ht]; exact hP.sub [0, 1] rfl, hD.sub [0, 1] (by decide) rfl⟩, hS.F ht⟩) hS.2.2 dX11_bad_11

set_option maxHeartbeats 4000000 in
set_option maxRecDepth 100000 in
theorem gr_no (l : Launch) (D : va_G) (y : Nat → ClassId) (mo : Nat) (to : Nat) (ke : Nat) (ik : Nat) (mrf : Nat) (ha : Nat) (r0 : Nat) (mbr : Nat) (mbp : Nat) (mby : Nat) (an : Nat) (va : Nat) (mab : Int64) (mbl : Int64) (bl : Nat) (ta : Nat) (tl : Nat) (tk : Nat) (vv : Int32) (frf : Nat → Int32)  : kw_Mi l yX11_no wsX11_no ({ frames := 1, cells := 0, slots := 0, locals := 60 }) D y [.ref mo] [(mo, .inr (11, [.ref to, .ref ke, .ref ik, .ref mrf, .long mab, .long mbl, .ref ha, .ref r0, .ref mbr, .ref mbp, .ref mby, .int (nI bl), .int (nI ta), .int (nI tl), .int (nI tk), .int vv, .ref an, .ref va])), (mrf, .inl (y 0, 3, .inl frf))] (fun (r : Int32) (u : Unit) => r = (-3)) (fun _ => [(mo, .inr (11, [.ref to, .ref ke, .ref ik, .ref mrf, .long mab, .long mbl, .ref ha, .ref r0, .ref mbr, .ref mbp, .ref mby, .int (nI bl), .int (nI ta), .int (nI tl), .int (nI tk), .int vv, .ref an, .ref va])), (mrf, .inl (y 0, 3, .inl (upd frf 1 ((frf 1) + 1))))]) 0 0 := by
  refine kw_Mi.of (cc := cX11_no) (maxL := 1) (ret := (some .int)) (by decide) rfl ?_
  intro pZ eZ s mZ beZ meZ cZ A hE
  obtain ⟨hx, hb, hr, hml, hts, hown, hlocks, hin, hA, hP, hD, hK, hN⟩ := hE
  have hS : va_S A s.heap s.heap [] := va_S.rf
  have hl := lv_entry ([.ref mo]) (n := 1) (Nat.le_of_ble_eq_true rfl)
  rw [lg_entry_eq]
  generalize (lg_sl ([.ref mo]) ++ List.replicate (1 - (lg_sl ([.ref mo])).length) Slot.unset).toArray = ls at hl ⊢
  have hl : lv_has ls 1 [(0, .ref mo)] := hl
  have fw1 := hts (.fieldLink RX11 20 "GleanDuskModel" "refused" "[I") (List.mem_of_getElem? (i := 1) rfl)
  have iw11 : ∀ w ∈ wsX110, w ∈ wsX11_no := fun _ h => List.mem_cons_of_mem _ (List.mem_append_right _ h)
  refine lv_aload_n hx hb dX11_no_0 rfl (lv_at hl 0 rfl) ?_
  refine va_get (D := D) (ci := 11) (v := .ref mrf) (C := RX11) (T := TX11) (N := 18) hx hb hts iw11 hown hK hP 0 rfl rfl 3 (by decide) fw1 (fun _ h9 => h9) rfl dX11_no_1 ?_
  refine lv_iconst (v := 1) hx hb dX11_no_4 (by decide) ?_
  refine lv_dup2_11 hx hb dX11_no_5 rfl rfl ?_
  refine va_iald hx hb hK hP 1 0 rfl rfl (by unfold vp_in; decide) dX11_no_6 ?_
  rw [show ((1 : Int32)).toNatClampNeg = 1 from rfl]
  refine lv_iconst (v := 1) hx hb dX11_no_7 (by decide) ?_
  refine lv_iadd hx hb dX11_no_8 ?_
  refine va_iast hx hb hK hP hD hS 1 0 rfl rfl (by unfold vp_in; decide) dX11_no_9 (fun H locs hP hD hS => ?_)
  rw [show ((1 : Int32)).toNatClampNeg = 1 from rfl] at hP hD
  have hP : va_P D vwCl [(mo, .inr (11, [.ref to, .ref ke, .ref ik, .ref mrf, .long mab, .long mbl, .ref ha, .ref r0, .ref mbr, .ref mbp, .ref mby, .int (nI bl), .int (nI ta), .int (nI tl), .int (nI tk), .int vv, .ref an, .ref va])), (mrf, .inl (y 0, 3, .inl (upd frf 1 ((frf 1) + 1))))] H := hP
  have hD : va_D A [(mo, .inr (11, [.ref to, .ref ke, .ref ik, .ref mrf, .long mab, .long mbl, .ref ha, .ref r0, .ref mbr, .ref mbp, .ref mby, .int (nI bl), .int (nI ta), .int (nI tl), .int (nI tk), .int vv, .ref an, .ref va])), (mrf, .inl (y 0, 3, .inl (upd frf 1 ((frf 1) + 1))))] := hD
  refine lv_bipush (v := (-3)) hx hb dX11_no_10 (by decide) ?_
  exact W.iret (v := (-3)) hx hb hr (fun tZ ht hW => ⟨⟨(-3), (), rfl, rfl, by rw [ht]; exact hP.sub [0, 1] rfl, hD.sub [0, 1] (by decide) rfl⟩, hS.F ht⟩) hS.2.2 dX11_no_12

set_option maxHeartbeats 4000000 in
set_option maxRecDepth 100000 in
theorem gr_full (l : Launch) (D : va_G) (y : Nat → ClassId) (mo : Nat) (to : Nat) (ke : Nat) (ik : Nat) (mrf : Nat) (ha : Nat) (r0 : Nat) (mbr : Nat) (mbp : Nat) (mby : Nat) (an : Nat) (va : Nat) (mab : Int64) (mbl : Int64) (bl : Nat) (ta : Nat) (tl : Nat) (tk : Nat) (vv : Int32) (frf : Nat → Int32)  : kw_Mi l yX11_full wsX11_full ({ frames := 1, cells := 0, slots := 0, locals := 60 }) D y [.ref mo] [(mo, .inr (11, [.ref to, .ref ke, .ref ik, .ref mrf, .long mab, .long mbl, .ref ha, .ref r0, .ref mbr, .ref mbp, .ref mby, .int (nI bl), .int (nI ta), .int (nI tl), .int (nI tk), .int vv, .ref an, .ref va])), (mrf, .inl (y 0, 3, .inl frf))] (fun (r : Int32) (u : Unit) => r = (-4)) (fun _ => [(mo, .inr (11, [.ref to, .ref ke, .ref ik, .ref mrf, .long mab, .long mbl, .ref ha, .ref r0, .ref mbr, .ref mbp, .ref mby, .int (nI bl), .int (nI ta), .int (nI tl), .int (nI tk), .int vv, .ref an, .ref va])), (mrf, .inl (y 0, 3, .inl (upd frf 2 ((frf 2) + 1))))]) 0 0 := by
  refine kw_Mi.of (cc := cX11_full) (maxL := 1) (ret := (some .int)) (by decide) rfl ?_
  intro pZ eZ s mZ beZ meZ cZ A hE
  obtain ⟨hx, hb, hr, hml, hts, hown, hlocks, hin, hA, hP, hD, hK, hN⟩ := hE
  have hS : va_S A s.heap s.heap [] := va_S.rf
  have hl := lv_entry ([.ref mo]) (n := 1) (Nat.le_of_ble_eq_true rfl)
  rw [lg_entry_eq]
  generalize (lg_sl ([.ref mo]) ++ List.replicate (1 - (lg_sl ([.ref mo])).length) Slot.unset).toArray = ls at hl ⊢
  have hl : lv_has ls 1 [(0, .ref mo)] := hl
  have fw1 := hts (.fieldLink RX11 20 "GleanDuskModel" "refused" "[I") (List.mem_of_getElem? (i := 1) rfl)
  have iw11 : ∀ w ∈ wsX110, w ∈ wsX11_full := fun _ h => List.mem_cons_of_mem _ (List.mem_append_right _ h)
  refine lv_aload_n hx hb dX11_full_0 rfl (lv_at hl 0 rfl) ?_
  refine va_get (D := D) (ci := 11) (v := .ref mrf) (C := RX11) (T := TX11) (N := 18) hx hb hts iw11 hown hK hP 0 rfl rfl 3 (by decide) fw1 (fun _ h9 => h9) rfl dX11_full_1 ?_
  refine lv_iconst (v := 2) hx hb dX11_full_4 (by decide) ?_
  refine lv_dup2_11 hx hb dX11_full_5 rfl rfl ?_
  refine va_iald hx hb hK hP 1 0 rfl rfl (by unfold vp_in; decide) dX11_full_6 ?_
  rw [show ((2 : Int32)).toNatClampNeg = 2 from rfl]
  refine lv_iconst (v := 1) hx hb dX11_full_7 (by decide) ?_
  refine lv_iadd hx hb dX11_full_8 ?_
  refine va_iast hx hb hK hP hD hS 1 0 rfl rfl (by unfold vp_in; decide) dX11_full_9 (fun H locs hP hD hS => ?_)
  rw [show ((2 : Int32)).toNatClampNeg = 2 from rfl] at hP hD
  have hP : va_P D vwCl [(mo, .inr (11, [.ref to, .ref ke, .ref ik, .ref mrf, .long mab, .long mbl, .ref ha, .ref r0, .ref mbr, .ref mbp, .ref mby, .int (nI bl), .int (nI ta), .int (nI tl), .int (nI tk), .int vv, .ref an, .ref va])), (mrf, .inl (y 0, 3, .inl (upd frf 2 ((frf 2) + 1))))] H := hP
  have hD : va_D A [(mo, .inr (11, [.ref to, .ref ke, .ref ik, .ref mrf, .long mab, .long mbl, .ref ha, .ref r0, .ref mbr, .ref mbp, .ref mby, .int (nI bl), .int (nI ta), .int (nI tl), .int (nI tk), .int vv, .ref an, .ref va])), (mrf, .inl (y 0, 3, .inl (upd frf 2 ((frf 2) + 1))))] := hD
  refine lv_bipush (v := (-4)) hx hb dX11_full_10 (by decide) ?_
  exact W.iret (v := (-4)) hx hb hr (fun tZ ht hW => ⟨⟨(-4), (), rfl, rfl, by rw [ht]; exact hP.sub [0, 1] rfl, hD.sub [0, 1] (by decide) rfl⟩, hS.F ht⟩) hS.2.2 dX11_full_12

set_option maxHeartbeats 4000000 in
set_option maxRecDepth 100000 in
theorem gr_many (l : Launch) (D : va_G) (y : Nat → ClassId) (mo : Nat) (to : Nat) (ke : Nat) (ik : Nat) (mrf : Nat) (ha : Nat) (r0 : Nat) (mbr : Nat) (mbp : Nat) (mby : Nat) (an : Nat) (va : Nat) (mab : Int64) (mbl : Int64) (bl : Nat) (ta : Nat) (tl : Nat) (tk : Nat) (vv : Int32) (ft : Nat → Int32) (fi : Nat) (gl : Nat) (mi : Nat) (no : Nat) (un : Nat) (hk0_ : ft 0 = (nI fi)) (hk1_ : ft 1 = (nI gl)) (hk2_ : ft 2 = (nI mi)) (hk3_ : ft 3 = (nI no)) (hk4_ : ft 4 = (nI un)) (hkt : kr_t 228 ft) (hfi : fi ≤ 6) (hgl : gl ≤ 5) (hmi : mi ≤ 4) (hno : no ≤ 6) (hun : un ≤ 8) : kw_Mi l yX11_many wsX11_many ({ frames := 1, cells := 0, slots := 0, locals := 60 }) D y [.ref mo] [(mo, .inr (11, [.ref to, .ref ke, .ref ik, .ref mrf, .long mab, .long mbl, .ref ha, .ref r0, .ref mbr, .ref mbp, .ref mby, .int (nI bl), .int (nI ta), .int (nI tl), .int (nI tk), .int vv, .ref an, .ref va])), (to, .inl (y 0, 228, .inl ft))] (fun (r : Int32) (u : Unit) => r = (nI fi)) (fun _ => [(mo, .inr (11, [.ref to, .ref ke, .ref ik, .ref mrf, .long mab, .long mbl, .ref ha, .ref r0, .ref mbr, .ref mbp, .ref mby, .int (nI bl), .int (nI ta), .int (nI tl), .int (nI tk), .int vv, .ref an, .ref va])), (to, .inl (y 0, 228, .inl ft))]) 0 0 := by
  refine kw_Mi.of (cc := cX11_many) (maxL := 1) (ret := (some .int)) (by decide) rfl ?_
  intro pZ eZ s mZ beZ meZ cZ A hE
  obtain ⟨hx, hb, hr, hml, hts, hown, hlocks, hin, hA, hP, hD, hK, hN⟩ := hE
  have hS : va_S A s.heap s.heap [] := va_S.rf
  have hl := lv_entry ([.ref mo]) (n := 1) (Nat.le_of_ble_eq_true rfl)
  rw [lg_entry_eq]
  generalize (lg_sl ([.ref mo]) ++ List.replicate (1 - (lg_sl ([.ref mo])).length) Slot.unset).toArray = ls at hl ⊢
  have hl : lv_has ls 1 [(0, .ref mo)] := hl
  have fw1 := hts (.fieldLink RX11 7 "GleanDuskModel" "told" "[I") (List.mem_of_getElem? (i := 1) rfl)
  have iw11 : ∀ w ∈ wsX110, w ∈ wsX11_many := fun _ h => List.mem_cons_of_mem _ (List.mem_append_right _ h)
  refine lv_aload_n hx hb dX11_many_0 rfl (lv_at hl 0 rfl) ?_
  refine va_get (D := D) (ci := 11) (v := .ref to) (C := RX11) (T := TX11) (N := 18) hx hb hts iw11 hown hK hP 0 rfl rfl 0 (by decide) fw1 (fun _ h9 => h9) rfl dX11_many_1 ?_
  refine lv_iconst (v := 0) hx hb dX11_many_4 (by decide) ?_
  refine va_iald hx hb hK hP 1 0 rfl rfl (by unfold vp_in; decide) dX11_many_5 ?_
  rw [show ((0 : Int32)).toNatClampNeg = 0 from rfl]
  rw [show (ft 0) = (nI fi) from hk0_]
  exact W.iret (v := (nI fi)) hx hb hr (fun tZ ht hW => ⟨⟨(nI fi), (), rfl, rfl, by rw [ht]; exact hP.sub [0, 1] rfl, hD.sub [0, 1] (by decide) rfl⟩, hS.F ht⟩) hS.2.2 dX11_many_6

set_option maxHeartbeats 4000000 in
set_option maxRecDepth 100000 in
theorem gr_manyGleaners (l : Launch) (D : va_G) (y : Nat → ClassId) (mo : Nat) (to : Nat) (ke : Nat) (ik : Nat) (mrf : Nat) (ha : Nat) (r0 : Nat) (mbr : Nat) (mbp : Nat) (mby : Nat) (an : Nat) (va : Nat) (mab : Int64) (mbl : Int64) (bl : Nat) (ta : Nat) (tl : Nat) (tk : Nat) (vv : Int32) (ft : Nat → Int32) (fi : Nat) (gl : Nat) (mi : Nat) (no : Nat) (un : Nat) (hk0_ : ft 0 = (nI fi)) (hk1_ : ft 1 = (nI gl)) (hk2_ : ft 2 = (nI mi)) (hk3_ : ft 3 = (nI no)) (hk4_ : ft 4 = (nI un)) (hkt : kr_t 228 ft) (hfi : fi ≤ 6) (hgl : gl ≤ 5) (hmi : mi ≤ 4) (hno : no ≤ 6) (hun : un ≤ 8) : kw_Mi l yX11_manyGleaners wsX11_manyGleaners ({ frames := 1, cells := 0, slots := 0, locals := 60 }) D y [.ref mo] [(mo, .inr (11, [.ref to, .ref ke, .ref ik, .ref mrf, .long mab, .long mbl, .ref ha, .ref r0, .ref mbr, .ref mbp, .ref mby, .int (nI bl), .int (nI ta), .int (nI tl), .int (nI tk), .int vv, .ref an, .ref va])), (to, .inl (y 0, 228, .inl ft))] (fun (r : Int32) (u : Unit) => r = (nI gl)) (fun _ => [(mo, .inr (11, [.ref to, .ref ke, .ref ik, .ref mrf, .long mab, .long mbl, .ref ha, .ref r0, .ref mbr, .ref mbp, .ref mby, .int (nI bl), .int (nI ta), .int (nI tl), .int (nI tk), .int vv, .ref an, .ref va])), (to, .inl (y 0, 228, .inl ft))]) 0 0 := by
  refine kw_Mi.of (cc := cX11_manyGleaners) (maxL := 1) (ret := (some .int)) (by decide) rfl ?_
  intro pZ eZ s mZ beZ meZ cZ A hE
  obtain ⟨hx, hb, hr, hml, hts, hown, hlocks, hin, hA, hP, hD, hK, hN⟩ := hE
  have hS : va_S A s.heap s.heap [] := va_S.rf
  have hl := lv_entry ([.ref mo]) (n := 1) (Nat.le_of_ble_eq_true rfl)
  rw [lg_entry_eq]
  generalize (lg_sl ([.ref mo]) ++ List.replicate (1 - (lg_sl ([.ref mo])).length) Slot.unset).toArray = ls at hl ⊢
  have hl : lv_has ls 1 [(0, .ref mo)] := hl
  have fw1 := hts (.fieldLink RX11 7 "GleanDuskModel" "told" "[I") (List.mem_of_getElem? (i := 1) rfl)
  have iw11 : ∀ w ∈ wsX110, w ∈ wsX11_manyGleaners := fun _ h => List.mem_cons_of_mem _ (List.mem_append_right _ h)
  refine lv_aload_n hx hb dX11_manyGleaners_0 rfl (lv_at hl 0 rfl) ?_
  refine va_get (D := D) (ci := 11) (v := .ref to) (C := RX11) (T := TX11) (N := 18) hx hb hts iw11 hown hK hP 0 rfl rfl 0 (by decide) fw1 (fun _ h9 => h9) rfl dX11_manyGleaners_1 ?_
  refine lv_iconst (v := 1) hx hb dX11_manyGleaners_4 (by decide) ?_
  refine va_iald hx hb hK hP 1 0 rfl rfl (by unfold vp_in; decide) dX11_manyGleaners_5 ?_
  rw [show ((1 : Int32)).toNatClampNeg = 1 from rfl]
  rw [show (ft 1) = (nI gl) from hk1_]
  exact W.iret (v := (nI gl)) hx hb hr (fun tZ ht hW => ⟨⟨(nI gl), (), rfl, rfl, by rw [ht]; exact hP.sub [0, 1] rfl, hD.sub [0, 1] (by decide) rfl⟩, hS.F ht⟩) hS.2.2 dX11_manyGleaners_6

set_option maxHeartbeats 4000000 in
set_option maxRecDepth 100000 in
theorem gr_isField (l : Launch) (D : va_G) (y : Nat → ClassId) (mo : Nat) (to : Nat) (ke : Nat) (ik : Nat) (mrf : Nat) (ha : Nat) (r0 : Nat) (mbr : Nat) (mbp : Nat) (mby : Nat) (an : Nat) (va : Nat) (mab : Int64) (mbl : Int64) (bl : Nat) (ta : Nat) (tl : Nat) (tk : Nat) (vv : Int32) (ft : Nat → Int32) (fi : Nat) (gl : Nat) (mi : Nat) (no : Nat) (un : Nat) (x : Int32) (hk0_ : ft 0 = (nI fi)) (hk1_ : ft 1 = (nI gl)) (hk2_ : ft 2 = (nI mi)) (hk3_ : ft 3 = (nI no)) (hk4_ : ft 4 = (nI un)) (hkt : kr_t 228 ft) (hfi : fi ≤ 6) (hgl : gl ≤ 5) (hmi : mi ≤ 4) (hno : no ≤ 6) (hun : un ≤ 8) : kw_Mi l yX11_isField wsX11_isField ({ frames := 2, cells := 0, slots := 0, locals := 85 }) D y [.ref mo, .int x] [(mo, .inr (11, [.ref to, .ref ke, .ref ik, .ref mrf, .long mab, .long mbl, .ref ha, .ref r0, .ref mbr, .ref mbp, .ref mby, .int (nI bl), .int (nI ta), .int (nI tl), .int (nI tk), .int vv, .ref an, .ref va])), (to, .inl (y 0, 228, .inl ft))] (fun (r : Int32) (u : Unit) => (∃ j : Nat, j < fi ∧ x = nI j ∧ r = 1) ∨ ((¬ ∃ j : Nat, j < fi ∧ x = nI j) ∧ r = 0)) (fun _ => [(mo, .inr (11, [.ref to, .ref ke, .ref ik, .ref mrf, .long mab, .long mbl, .ref ha, .ref r0, .ref mbr, .ref mbp, .ref mby, .int (nI bl), .int (nI ta), .int (nI tl), .int (nI tk), .int vv, .ref an, .ref va])), (to, .inl (y 0, 228, .inl ft))]) 0 0 := by
  refine kw_Mi.of (cc := cX11_isField) (maxL := 2) (ret := (some .boolean)) (by decide) rfl ?_
  intro pZ eZ s mZ beZ meZ cZ A hE
  obtain ⟨hx, hb, hr, hml, hts, hown, hlocks, hin, hA, hP, hD, hK, hN⟩ := hE
  have hS : va_S A s.heap s.heap [] := va_S.rf
  have hl := lv_entry ([.ref mo, .int x]) (n := 2) (Nat.le_of_ble_eq_true rfl)
  rw [lg_entry_eq]
  generalize (lg_sl ([.ref mo, .int x]) ++ List.replicate (2 - (lg_sl ([.ref mo, .int x])).length) Slot.unset).toArray = ls at hl ⊢
  have hl : lv_has ls 2 [(0, .ref mo), (1, .int x)] := hl
  refine lv_iload_n hx hb dX11_isField_0 rfl (lv_at hl 1 rfl) ?_
  refine lv_i2l (v := x.toInt64) hx hb dX11_isField_1 (rfl) ?_
  refine lv_lconst (v := 0) hx hb dX11_isField_2 (by decide) ?_
  refine lv_aload_n hx hb dX11_isField_3 rfl (lv_at hl 0 rfl) ?_
  have hs1 : kw_Split [(mo, .inr (11, [.ref to, .ref ke, .ref ik, .ref mrf, .long mab, .long mbl, .ref ha, .ref r0, .ref mbr, .ref mbp, .ref mby, .int (nI bl), .int (nI ta), .int (nI tl), .int (nI tk), .int vv, .ref an, .ref va])), (to, .inl (y 0, 228, .inl ft))] [(mo, .inr (11, [.ref to, .ref ke, .ref ik, .ref mrf, .long mab, .long mbl, .ref ha, .ref r0, .ref mbr, .ref mbp, .ref mby, .int (nI bl), .int (nI ta), .int (nI tl), .int (nI tk), .int vv, .ref an, .ref va])), (to, .inl (y 0, 228, .inl ft))] [] [0, 1] [] := ⟨rfl, rfl, rfl, rfl, rfl, by decide⟩
  refine kw_go_i hs1 hP hD hS hA (va_runV (As := []) (rest := [.long 0, .long x.toInt64]) ⟨hx, hb, hml, hown, hts⟩ (gr_many l D y mo to ke ik mrf ha r0 mbr mbp mby an va mab mbl bl ta tl tk vv ft fi gl mi no un hk0_ hk1_ hk2_ hk3_ hk4_ hkt hfi hgl hmi hno hun _) (cwV 0 hts gX11_isField_X11_many rfl rfl rfl (by decide +kernel) ⟨Nat.le_of_ble_eq_true rfl, Nat.le_of_ble_eq_true rfl⟩) (kw_PreV (ci := 11) (q0 := 0) hs1 hP hD hK hN rfl rfl) rfl rfl hl.1 rfl (lv_room (Nat.le_of_ble_eq_true rfl)) dX11_isField_4 ⟨Nat.le_of_ble_eq_true rfl, Nat.le_of_ble_eq_true rfl⟩) (fun r2 u3 H locs hq hP hD hS => ?_)
  obtain rfl := hq
  have hP : va_P D vwCl [(mo, .inr (11, [.ref to, .ref ke, .ref ik, .ref mrf, .long mab, .long mbl, .ref ha, .ref r0, .ref mbr, .ref mbp, .ref mby, .int (nI bl), .int (nI ta), .int (nI tl), .int (nI tk), .int vv, .ref an, .ref va])), (to, .inl (y 0, 228, .inl ft))] H := hP
  have hD : va_D A [(mo, .inr (11, [.ref to, .ref ke, .ref ik, .ref mrf, .long mab, .long mbl, .ref ha, .ref r0, .ref mbr, .ref mbp, .ref mby, .int (nI bl), .int (nI ta), .int (nI tl), .int (nI tk), .int vv, .ref an, .ref va])), (to, .inl (y 0, 228, .inl ft))] := hD
  refine lv_iconst (v := 1) hx hb dX11_isField_7 (by decide) ?_
  refine lv_isub hx hb dX11_isField_8 ?_
  refine lv_i2l (v := ((nI fi) - 1).toInt64) hx hb dX11_isField_9 (rfl) ?_
  have hs4 : kw_Split [(mo, .inr (11, [.ref to, .ref ke, .ref ik, .ref mrf, .long mab, .long mbl, .ref ha, .ref r0, .ref mbr, .ref mbp, .ref mby, .int (nI bl), .int (nI ta), .int (nI tl), .int (nI tk), .int vv, .ref an, .ref va])), (to, .inl (y 0, 228, .inl ft))] [] [(mo, .inr (11, [.ref to, .ref ke, .ref ik, .ref mrf, .long mab, .long mbl, .ref ha, .ref r0, .ref mbr, .ref mbp, .ref mby, .int (nI bl), .int (nI ta), .int (nI tl), .int (nI tk), .int vv, .ref an, .ref va])), (to, .inl (y 0, 228, .inl ft))] [] [0, 1] := ⟨rfl, rfl, rfl, rfl, rfl, by decide⟩
  refine kw_go_i hs4 hP hD hS hA (va_runS (As := [.long x.toInt64, .long 0, .long (((nI fi) - 1).toInt64)]) (rest := []) ⟨hx, hb, hml, hown, hts⟩ (gr_inF l D y x fi (by omega) _) (va_cwS 3 hts gX11_isField_X11_in rfl rfl rfl (by decide +kernel) ⟨Nat.le_of_ble_eq_true rfl, Nat.le_of_ble_eq_true rfl⟩) (kw_PreS hs4 hP hD hK hN) rfl rfl hl.1 rfl (lv_room (Nat.le_of_ble_eq_true rfl)) dX11_isField_10 ⟨Nat.le_of_ble_eq_true rfl, Nat.le_of_ble_eq_true rfl⟩) (fun r5 u6 H locs hq hP hD hS => ?_)
  rcases hq with ⟨j7, h8, rfl, rfl⟩ | ⟨h9, rfl⟩
  · skip
    have hP : va_P D vwCl [(mo, .inr (11, [.ref to, .ref ke, .ref ik, .ref mrf, .long mab, .long mbl, .ref ha, .ref r0, .ref mbr, .ref mbp, .ref mby, .int (nI bl), .int (nI ta), .int (nI tl), .int (nI tk), .int vv, .ref an, .ref va])), (to, .inl (y 0, 228, .inl ft))] H := hP
    have hD : va_D A [(mo, .inr (11, [.ref to, .ref ke, .ref ik, .ref mrf, .long mab, .long mbl, .ref ha, .ref r0, .ref mbr, .ref mbp, .ref mby, .int (nI bl), .int (nI ta), .int (nI tl), .int (nI tk), .int vv, .ref an, .ref va])), (to, .inl (y 0, 228, .inl ft))] := hD
    exact W.zret (v := 1) hx hb hr (by decide) (fun tZ ht hW => ⟨⟨1, (), rfl, Or.inl ⟨j7, h8, rfl, rfl⟩, by rw [ht]; exact hP.sub [0, 1] rfl, hD.sub [0, 1] (by decide) rfl⟩, hS.F ht⟩) hS.2.2 dX11_isField_13
  · skip
    have hP : va_P D vwCl [(mo, .inr (11, [.ref to, .ref ke, .ref ik, .ref mrf, .long mab, .long mbl, .ref ha, .ref r0, .ref mbr, .ref mbp, .ref mby, .int (nI bl), .int (nI ta), .int (nI tl), .int (nI tk), .int vv, .ref an, .ref va])), (to, .inl (y 0, 228, .inl ft))] H := hP
    have hD : va_D A [(mo, .inr (11, [.ref to, .ref ke, .ref ik, .ref mrf, .long mab, .long mbl, .ref ha, .ref r0, .ref mbr, .ref mbp, .ref mby, .int (nI bl), .int (nI ta), .int (nI tl), .int (nI tk), .int vv, .ref an, .ref va])), (to, .inl (y 0, 228, .inl ft))] := hD
    exact W.zret (v := 0) hx hb hr (by decide) (fun tZ ht hW => ⟨⟨0, (), rfl, Or.inr (⟨h9, rfl⟩), by rw [ht]; exact hP.sub [0, 1] rfl, hD.sub [0, 1] (by decide) rfl⟩, hS.F ht⟩) hS.2.2 dX11_isField_13

set_option maxHeartbeats 4000000 in
set_option maxRecDepth 100000 in
theorem gr_isGleaner (l : Launch) (D : va_G) (y : Nat → ClassId) (mo : Nat) (to : Nat) (ke : Nat) (ik : Nat) (mrf : Nat) (ha : Nat) (r0 : Nat) (mbr : Nat) (mbp : Nat) (mby : Nat) (an : Nat) (va : Nat) (mab : Int64) (mbl : Int64) (bl : Nat) (ta : Nat) (tl : Nat) (tk : Nat) (vv : Int32) (ft : Nat → Int32) (fi : Nat) (gl : Nat) (mi : Nat) (no : Nat) (un : Nat) (x : Int32) (hk0_ : ft 0 = (nI fi)) (hk1_ : ft 1 = (nI gl)) (hk2_ : ft 2 = (nI mi)) (hk3_ : ft 3 = (nI no)) (hk4_ : ft 4 = (nI un)) (hkt : kr_t 228 ft) (hfi : fi ≤ 6) (hgl : gl ≤ 5) (hmi : mi ≤ 4) (hno : no ≤ 6) (hun : un ≤ 8) : kw_Mi l yX11_isGleaner wsX11_isGleaner ({ frames := 2, cells := 0, slots := 0, locals := 85 }) D y [.ref mo, .int x] [(mo, .inr (11, [.ref to, .ref ke, .ref ik, .ref mrf, .long mab, .long mbl, .ref ha, .ref r0, .ref mbr, .ref mbp, .ref mby, .int (nI bl), .int (nI ta), .int (nI tl), .int (nI tk), .int vv, .ref an, .ref va])), (to, .inl (y 0, 228, .inl ft))] (fun (r : Int32) (u : Unit) => (∃ j : Nat, j < gl ∧ x = nI j ∧ r = 1) ∨ ((¬ ∃ j : Nat, j < gl ∧ x = nI j) ∧ r = 0)) (fun _ => [(mo, .inr (11, [.ref to, .ref ke, .ref ik, .ref mrf, .long mab, .long mbl, .ref ha, .ref r0, .ref mbr, .ref mbp, .ref mby, .int (nI bl), .int (nI ta), .int (nI tl), .int (nI tk), .int vv, .ref an, .ref va])), (to, .inl (y 0, 228, .inl ft))]) 0 0 := by
  refine kw_Mi.of (cc := cX11_isGleaner) (maxL := 2) (ret := (some .boolean)) (by decide) rfl ?_
  intro pZ eZ s mZ beZ meZ cZ A hE
  obtain ⟨hx, hb, hr, hml, hts, hown, hlocks, hin, hA, hP, hD, hK, hN⟩ := hE
  have hS : va_S A s.heap s.heap [] := va_S.rf
  have hl := lv_entry ([.ref mo, .int x]) (n := 2) (Nat.le_of_ble_eq_true rfl)
  rw [lg_entry_eq]
  generalize (lg_sl ([.ref mo, .int x]) ++ List.replicate (2 - (lg_sl ([.ref mo, .int x])).length) Slot.unset).toArray = ls at hl ⊢
  have hl : lv_has ls 2 [(0, .ref mo), (1, .int x)] := hl
  refine lv_iload_n hx hb dX11_isGleaner_0 rfl (lv_at hl 1 rfl) ?_
  refine lv_i2l (v := x.toInt64) hx hb dX11_isGleaner_1 (rfl) ?_
  refine lv_lconst (v := 0) hx hb dX11_isGleaner_2 (by decide) ?_
  refine lv_aload_n hx hb dX11_isGleaner_3 rfl (lv_at hl 0 rfl) ?_
  have hs1 : kw_Split [(mo, .inr (11, [.ref to, .ref ke, .ref ik, .ref mrf, .long mab, .long mbl, .ref ha, .ref r0, .ref mbr, .ref mbp, .ref mby, .int (nI bl), .int (nI ta), .int (nI tl), .int (nI tk), .int vv, .ref an, .ref va])), (to, .inl (y 0, 228, .inl ft))] [(mo, .inr (11, [.ref to, .ref ke, .ref ik, .ref mrf, .long mab, .long mbl, .ref ha, .ref r0, .ref mbr, .ref mbp, .ref mby, .int (nI bl), .int (nI ta), .int (nI tl), .int (nI tk), .int vv, .ref an, .ref va])), (to, .inl (y 0, 228, .inl ft))] [] [0, 1] [] := ⟨rfl, rfl, rfl, rfl, rfl, by decide⟩
  refine kw_go_i hs1 hP hD hS hA (va_runV (As := []) (rest := [.long 0, .long x.toInt64]) ⟨hx, hb, hml, hown, hts⟩ (gr_manyGleaners l D y mo to ke ik mrf ha r0 mbr mbp mby an va mab mbl bl ta tl tk vv ft fi gl mi no un hk0_ hk1_ hk2_ hk3_ hk4_ hkt hfi hgl hmi hno hun _) (cwV 0 hts gX11_isGleaner_X11_manyGleaners rfl rfl rfl (by decide +kernel) ⟨Nat.le_of_ble_eq_true rfl, Nat.le_of_ble_eq_true rfl⟩) (kw_PreV (ci := 11) (q0 := 0) hs1 hP hD hK hN rfl rfl) rfl rfl hl.1 rfl (lv_room (Nat.le_of_ble_eq_true rfl)) dX11_isGleaner_4 ⟨Nat.le_of_ble_eq_true rfl, Nat.le_of_ble_eq_true rfl⟩) (fun r2 u3 H locs hq hP hD hS => ?_)
  obtain rfl := hq
  have hP : va_P D vwCl [(mo, .inr (11, [.ref to, .ref ke, .ref ik, .ref mrf, .long mab, .long mbl, .ref ha, .ref r0, .ref mbr, .ref mbp, .ref mby, .int (nI bl), .int (nI ta), .int (nI tl), .int (nI tk), .int vv, .ref an, .ref va])), (to, .inl (y 0, 228, .inl ft))] H := hP
  have hD : va_D A [(mo, .inr (11, [.ref to, .ref ke, .ref ik, .ref mrf, .long mab, .long mbl, .ref ha, .ref r0, .ref mbr, .ref mbp, .ref mby, .int (nI bl), .int (nI ta), .int (nI tl), .int (nI tk), .int vv, .ref an, .ref va])), (to, .inl (y 0, 228, .inl ft))] := hD
  refine lv_iconst (v := 1) hx hb dX11_isGleaner_7 (by decide) ?_
  refine lv_isub hx hb dX11_isGleaner_8 ?_
  refine lv_i2l (v := ((nI gl) - 1).toInt64) hx hb dX11_isGleaner_9 (rfl) ?_
  have hs4 : kw_Split [(mo, .inr (11, [.ref to, .ref ke, .ref ik, .ref mrf, .long mab, .long mbl, .ref ha, .ref r0, .ref mbr, .ref mbp, .ref mby, .int (nI bl), .int (nI ta), .int (nI tl), .int (nI tk), .int vv, .ref an, .ref va])), (to, .inl (y 0, 228, .inl ft))] [] [(mo, .inr (11, [.ref to, .ref ke, .ref ik, .ref mrf, .long mab, .long mbl, .ref ha, .ref r0, .ref mbr, .ref mbp, .ref mby, .int (nI bl), .int (nI ta), .int (nI tl), .int (nI tk), .int vv, .ref an, .ref va])), (to, .inl (y 0, 228, .inl ft))] [] [0, 1] := ⟨rfl, rfl, rfl, rfl, rfl, by decide⟩
  refine kw_go_i hs4 hP hD hS hA (va_runS (As := [.long x.toInt64, .long 0, .long (((nI gl) - 1).toInt64)]) (rest := []) ⟨hx, hb, hml, hown, hts⟩ (gr_inF l D y x gl (by omega) _) (va_cwS 3 hts gX11_isGleaner_X11_in rfl rfl rfl (by decide +kernel) ⟨Nat.le_of_ble_eq_true rfl, Nat.le_of_ble_eq_true rfl⟩) (kw_PreS hs4 hP hD hK hN) rfl rfl hl.1 rfl (lv_room (Nat.le_of_ble_eq_true rfl)) dX11_isGleaner_10 ⟨Nat.le_of_ble_eq_true rfl, Nat.le_of_ble_eq_true rfl⟩) (fun r5 u6 H locs hq hP hD hS => ?_)
  rcases hq with ⟨j7, h8, rfl, rfl⟩ | ⟨h9, rfl⟩
  · skip
    have hP : va_P D vwCl [(mo, .inr (11, [.ref to, .ref ke, .ref ik, .ref mrf, .long mab, .long mbl, .ref ha, .ref r0, .ref mbr, .ref mbp, .ref mby, .int (nI bl), .int (nI ta), .int (nI tl), .int (nI tk), .int vv, .ref an, .ref va])), (to, .inl (y 0, 228, .inl ft))] H := hP
    have hD : va_D A [(mo, .inr (11, [.ref to, .ref ke, .ref ik, .ref mrf, .long mab, .long mbl, .ref ha, .ref r0, .ref mbr, .ref mbp, .ref mby, .int (nI bl), .int (nI ta), .int (nI tl), .int (nI tk), .int vv, .ref an, .ref va])), (to, .inl (y 0, 228, .inl ft))] := hD
    exact W.zret (v := 1) hx hb hr (by decide) (fun tZ ht hW => ⟨⟨1, (), rfl, Or.inl ⟨j7, h8, rfl, rfl⟩, by rw [ht]; exact hP.sub [0, 1] rfl, hD.sub [0, 1] (by decide) rfl⟩, hS.F ht⟩) hS.2.2 dX11_isGleaner_13
  · skip
    have hP : va_P D vwCl [(mo, .inr (11, [.ref to, .ref ke, .ref ik, .ref mrf, .long mab, .long mbl, .ref ha, .ref r0, .ref mbr, .ref mbp, .ref mby, .int (nI bl), .int (nI ta), .int (nI tl), .int (nI tk), .int vv, .ref an, .ref va])), (to, .inl (y 0, 228, .inl ft))] H := hP
    have hD : va_D A [(mo, .inr (11, [.ref to, .ref ke, .ref ik, .ref mrf, .long mab, .long mbl, .ref ha, .ref r0, .ref mbr, .ref mbp, .ref mby, .int (nI bl), .int (nI ta), .int (nI tl), .int (nI tk), .int vv, .ref an, .ref va])), (to, .inl (y 0, 228, .inl ft))] := hD
    exact W.zret (v := 0) hx hb hr (by decide) (fun tZ ht hW => ⟨⟨0, (), rfl, Or.inr (⟨h9, rfl⟩), by rw [ht]; exact hP.sub [0, 1] rfl, hD.sub [0, 1] (by decide) rfl⟩, hS.F ht⟩) hS.2.2 dX11_isGleaner_13

set_option maxHeartbeats 4000000 in
set_option maxRecDepth 100000 in
theorem gr_isStep (l : Launch) (D : va_G) (y : Nat → ClassId) (x : Int32)  : kw_Mi l yX11_isStep wsX11_isStep ({ frames := 2, cells := 0, slots := 0, locals := 85 }) D y [.int x] [] (fun (r : Int32) (u : Unit) => (∃ j : Nat, j ≤ 11 ∧ x = nI j ∧ r = 1) ∨ ((¬ ∃ j : Nat, 0 ≤ j ∧ j ≤ 11 ∧ x = nI j) ∧ r = 0)) (fun _ => []) 0 0 := by
  refine kw_Mi.of (cc := cX11_isStep) (maxL := 1) (ret := (some .boolean)) (by decide) rfl ?_
  intro pZ eZ s mZ beZ meZ cZ A hE
  obtain ⟨hx, hb, hr, hml, hts, hown, hlocks, hin, hA, hP, hD, hK, hN⟩ := hE
  have hS : va_S A s.heap s.heap [] := va_S.rf
  have hl := lv_entry ([.int x]) (n := 1) (Nat.le_of_ble_eq_true rfl)
  rw [lg_entry_eq]
  generalize (lg_sl ([.int x]) ++ List.replicate (1 - (lg_sl ([.int x])).length) Slot.unset).toArray = ls at hl ⊢
  have hl : lv_has ls 1 [(0, .int x)] := hl
  have fw1 := hts (.constantLong RX11 63 (11)) (List.mem_of_getElem? (i := 1) rfl)
  refine lv_iload_n hx hb dX11_isStep_0 rfl (lv_at hl 0 rfl) ?_
  refine lv_i2l (v := x.toInt64) hx hb dX11_isStep_1 (rfl) ?_
  refine lv_lconst (v := 0) hx hb dX11_isStep_2 (by decide) ?_
  refine lv_ldc2 (v := 11) hx hb hown fw1 dX11_isStep_3 ?_
  have hs1 : kw_Split [] [] [] [] [] := ⟨rfl, rfl, rfl, rfl, rfl, by decide⟩
  refine kw_go_i hs1 hP hD hS hA (va_runS (As := [.long x.toInt64, .long 0, .long 11]) (rest := []) ⟨hx, hb, hml, hown, hts⟩ (gr_in l D y x 0 11 (by omega) (by omega) _) (va_cwS 3 hts gX11_isStep_X11_in rfl rfl rfl (by decide +kernel) ⟨Nat.le_of_ble_eq_true rfl, Nat.le_of_ble_eq_true rfl⟩) (kw_PreS hs1 hP hD hK hN) rfl rfl hl.1 rfl (lv_room (Nat.le_of_ble_eq_true rfl)) dX11_isStep_6 ⟨Nat.le_of_ble_eq_true rfl, Nat.le_of_ble_eq_true rfl⟩) (fun r2 u3 H locs hq hP hD hS => ?_)
  rcases hq with ⟨j4, h5, h6, rfl, rfl⟩ | ⟨h7, rfl⟩
  · skip
    have hP : va_P D vwCl [] H := hP
    have hD : va_D A [] := hD
    exact W.zret (v := 1) hx hb hr (by decide) (fun tZ ht hW => ⟨⟨1, (), rfl, Or.inl ⟨j4, h6, rfl, rfl⟩, by rw [ht]; exact hP.sub [] rfl, hD.sub [] (by decide) rfl⟩, hS.F ht⟩) hS.2.2 dX11_isStep_9
  · skip
    have hP : va_P D vwCl [] H := hP
    have hD : va_D A [] := hD
    exact W.zret (v := 0) hx hb hr (by decide) (fun tZ ht hW => ⟨⟨0, (), rfl, Or.inr (⟨h7, rfl⟩), by rw [ht]; exact hP.sub [] rfl, hD.sub [] (by decide) rfl⟩, hS.F ht⟩) hS.2.2 dX11_isStep_9

set_option maxHeartbeats 4000000 in
set_option maxRecDepth 100000 in
theorem gr_isCloud (l : Launch) (D : va_G) (y : Nat → ClassId) (x : Int32)  : kw_Mi l yX11_isCloud wsX11_isCloud ({ frames := 2, cells := 0, slots := 0, locals := 85 }) D y [.int x] [] (fun (r : Int32) (u : Unit) => (∃ j : Nat, j ≤ 9 ∧ x = nI j ∧ r = 1) ∨ ((¬ ∃ j : Nat, 0 ≤ j ∧ j ≤ 9 ∧ x = nI j) ∧ r = 0)) (fun _ => []) 0 0 := by
  refine kw_Mi.of (cc := cX11_isCloud) (maxL := 1) (ret := (some .boolean)) (by decide) rfl ?_
  intro pZ eZ s mZ beZ meZ cZ A hE
  obtain ⟨hx, hb, hr, hml, hts, hown, hlocks, hin, hA, hP, hD, hK, hN⟩ := hE
  have hS : va_S A s.heap s.heap [] := va_S.rf
  have hl := lv_entry ([.int x]) (n := 1) (Nat.le_of_ble_eq_true rfl)
  rw [lg_entry_eq]
  generalize (lg_sl ([.int x]) ++ List.replicate (1 - (lg_sl ([.int x])).length) Slot.unset).toArray = ls at hl ⊢
  have hl : lv_has ls 1 [(0, .int x)] := hl
  have fw1 := hts (.constantLong RX11 65 (9)) (List.mem_of_getElem? (i := 1) rfl)
  refine lv_iload_n hx hb dX11_isCloud_0 rfl (lv_at hl 0 rfl) ?_
  refine lv_i2l (v := x.toInt64) hx hb dX11_isCloud_1 (rfl) ?_
  refine lv_lconst (v := 0) hx hb dX11_isCloud_2 (by decide) ?_
  refine lv_ldc2 (v := 9) hx hb hown fw1 dX11_isCloud_3 ?_
  have hs1 : kw_Split [] [] [] [] [] := ⟨rfl, rfl, rfl, rfl, rfl, by decide⟩
  refine kw_go_i hs1 hP hD hS hA (va_runS (As := [.long x.toInt64, .long 0, .long 9]) (rest := []) ⟨hx, hb, hml, hown, hts⟩ (gr_in l D y x 0 9 (by omega) (by omega) _) (va_cwS 3 hts gX11_isCloud_X11_in rfl rfl rfl (by decide +kernel) ⟨Nat.le_of_ble_eq_true rfl, Nat.le_of_ble_eq_true rfl⟩) (kw_PreS hs1 hP hD hK hN) rfl rfl hl.1 rfl (lv_room (Nat.le_of_ble_eq_true rfl)) dX11_isCloud_6 ⟨Nat.le_of_ble_eq_true rfl, Nat.le_of_ble_eq_true rfl⟩) (fun r2 u3 H locs hq hP hD hS => ?_)
  rcases hq with ⟨j4, h5, h6, rfl, rfl⟩ | ⟨h7, rfl⟩
  · skip
    have hP : va_P D vwCl [] H := hP
    have hD : va_D A [] := hD
    exact W.zret (v := 1) hx hb hr (by decide) (fun tZ ht hW => ⟨⟨1, (), rfl, Or.inl ⟨j4, h6, rfl, rfl⟩, by rw [ht]; exact hP.sub [] rfl, hD.sub [] (by decide) rfl⟩, hS.F ht⟩) hS.2.2 dX11_isCloud_9
  · skip
    have hP : va_P D vwCl [] H := hP
    have hD : va_D A [] := hD
    exact W.zret (v := 0) hx hb hr (by decide) (fun tZ ht hW => ⟨⟨0, (), rfl, Or.inr (⟨h7, rfl⟩), by rw [ht]; exact hP.sub [] rfl, hD.sub [] (by decide) rfl⟩, hS.F ht⟩) hS.2.2 dX11_isCloud_9

set_option maxHeartbeats 4000000 in
set_option maxRecDepth 100000 in
theorem gr_isLight (l : Launch) (D : va_G) (y : Nat → ClassId) (x : Int32)  : kw_Mi l yX11_isLight wsX11_isLight ({ frames := 2, cells := 0, slots := 0, locals := 85 }) D y [.int x] [] (fun (r : Int32) (u : Unit) => (∃ j : Nat, j ≤ 60 ∧ x = nI j ∧ r = 1) ∨ ((¬ ∃ j : Nat, 0 ≤ j ∧ j ≤ 60 ∧ x = nI j) ∧ r = 0)) (fun _ => []) 0 0 := by
  refine kw_Mi.of (cc := cX11_isLight) (maxL := 1) (ret := (some .boolean)) (by decide) rfl ?_
  intro pZ eZ s mZ beZ meZ cZ A hE
  obtain ⟨hx, hb, hr, hml, hts, hown, hlocks, hin, hA, hP, hD, hK, hN⟩ := hE
  have hS : va_S A s.heap s.heap [] := va_S.rf
  have hl := lv_entry ([.int x]) (n := 1) (Nat.le_of_ble_eq_true rfl)
  rw [lg_entry_eq]
  generalize (lg_sl ([.int x]) ++ List.replicate (1 - (lg_sl ([.int x])).length) Slot.unset).toArray = ls at hl ⊢
  have hl : lv_has ls 1 [(0, .int x)] := hl
  have fw1 := hts (.constantLong RX11 67 (60)) (List.mem_of_getElem? (i := 1) rfl)
  refine lv_iload_n hx hb dX11_isLight_0 rfl (lv_at hl 0 rfl) ?_
  refine lv_i2l (v := x.toInt64) hx hb dX11_isLight_1 (rfl) ?_
  refine lv_lconst (v := 0) hx hb dX11_isLight_2 (by decide) ?_
  refine lv_ldc2 (v := 60) hx hb hown fw1 dX11_isLight_3 ?_
  have hs1 : kw_Split [] [] [] [] [] := ⟨rfl, rfl, rfl, rfl, rfl, by decide⟩
  refine kw_go_i hs1 hP hD hS hA (va_runS (As := [.long x.toInt64, .long 0, .long 60]) (rest := []) ⟨hx, hb, hml, hown, hts⟩ (gr_in l D y x 0 60 (by omega) (by omega) _) (va_cwS 3 hts gX11_isLight_X11_in rfl rfl rfl (by decide +kernel) ⟨Nat.le_of_ble_eq_true rfl, Nat.le_of_ble_eq_true rfl⟩) (kw_PreS hs1 hP hD hK hN) rfl rfl hl.1 rfl (lv_room (Nat.le_of_ble_eq_true rfl)) dX11_isLight_6 ⟨Nat.le_of_ble_eq_true rfl, Nat.le_of_ble_eq_true rfl⟩) (fun r2 u3 H locs hq hP hD hS => ?_)
  rcases hq with ⟨j4, h5, h6, rfl, rfl⟩ | ⟨h7, rfl⟩
  · skip
    have hP : va_P D vwCl [] H := hP
    have hD : va_D A [] := hD
    exact W.zret (v := 1) hx hb hr (by decide) (fun tZ ht hW => ⟨⟨1, (), rfl, Or.inl ⟨j4, h6, rfl, rfl⟩, by rw [ht]; exact hP.sub [] rfl, hD.sub [] (by decide) rfl⟩, hS.F ht⟩) hS.2.2 dX11_isLight_9
  · skip
    have hP : va_P D vwCl [] H := hP
    have hD : va_D A [] := hD
    exact W.zret (v := 0) hx hb hr (by decide) (fun tZ ht hW => ⟨⟨0, (), rfl, Or.inr (⟨h7, rfl⟩), by rw [ht]; exact hP.sub [] rfl, hD.sub [] (by decide) rfl⟩, hS.F ht⟩) hS.2.2 dX11_isLight_9

set_option maxHeartbeats 4000000 in
set_option maxRecDepth 100000 in
theorem gr_has (l : Launch) (D : va_G) (y : Nat → ClassId) (x : Int32) (x2 : Int32)  : kw_Mi l yX11_has wsX11_has ({ frames := 1, cells := 0, slots := 0, locals := 60 }) D y [.int x, .int x2] [] (fun (r : Int32) (u : Unit) => (r = 0 ∨ r = 1)) (fun _ => []) 0 0 := by
  refine kw_Mi.of (cc := cX11_has) (maxL := 2) (ret := (some .boolean)) (by decide) rfl ?_
  intro pZ eZ s mZ beZ meZ cZ A hE
  obtain ⟨hx, hb, hr, hml, hts, hown, hlocks, hin, hA, hP, hD, hK, hN⟩ := hE
  have hS : va_S A s.heap s.heap [] := va_S.rf
  have hl := lv_entry ([.int x, .int x2]) (n := 2) (Nat.le_of_ble_eq_true rfl)
  rw [lg_entry_eq]
  generalize (lg_sl ([.int x, .int x2]) ++ List.replicate (2 - (lg_sl ([.int x, .int x2])).length) Slot.unset).toArray = ls at hl ⊢
  have hl : lv_has ls 2 [(0, .int x), (1, .int x2)] := hl
  refine lv_iload_n hx hb dX11_has_0 rfl (lv_at hl 0 rfl) ?_
  refine lv_iload_n hx hb dX11_has_1 rfl (lv_at hl 1 rfl) ?_
  refine lv_ishr hx hb dX11_has_2 ?_
  refine lv_iconst (v := 1) hx hb dX11_has_3 (by decide) ?_
  refine lv_iand hx hb dX11_has_4 ?_
  refine lv_iconst (v := 1) hx hb dX11_has_5 (by decide) ?_
  refine lv_icmp_ne (tgt := 13) hx hb dX11_has_6 (by decide) (fun h1 => ?_) (fun h2 => ?_)
  · skip
    refine lv_iconst (v := 0) hx hb dX11_has_13 (by decide) ?_
    exact W.zret (v := 0) hx hb hr (by decide) (fun tZ ht hW => ⟨⟨0, (), rfl, Or.inl rfl, by rw [ht]; exact hP.sub [] rfl, hD.sub [] (by decide) rfl⟩, hS.F ht⟩) hS.2.2 dX11_has_14
  · skip
    refine lv_iconst (v := 1) hx hb dX11_has_9 (by decide) ?_
    refine lv_goto (tgt := 14) hx hb dX11_has_10 (by decide) ?_
    exact W.zret (v := 1) hx hb hr (by decide) (fun tZ ht hW => ⟨⟨1, (), rfl, Or.inr rfl, by rw [ht]; exact hP.sub [] rfl, hD.sub [] (by decide) rfl⟩, hS.F ht⟩) hS.2.2 dX11_has_14

set_option maxHeartbeats 4000000 in
set_option maxRecDepth 100000 in
theorem gr_begin228 (l : Launch) (D : va_G) (y : Nat → ClassId) (to : Nat) (ft : Nat → Int32) (x : Int32) (hkt : kr_t 228 ft) : kw_Mv l yX11_begin wsX11_begin ({ frames := 1, cells := 0, slots := 0, locals := 60 }) D y [.ref to, .int x] [(to, .inl (y 0, 228, .inl ft))] (fun (u : Unit) => kr_t 228 (upd (kr_bg ft 76) 22 x)) (fun _ => [(to, .inl (y 0, 228, .inl (upd (kr_bg ft 76) 22 x)))]) 0 0 := by
  refine kw_Mv.of (cc := cX11_begin) (maxL := 3) (ret := none) (by decide) rfl ?_
  intro pZ eZ s mZ beZ meZ cZ A hE
  obtain ⟨hx, hb, hr, hml, hts, hown, hlocks, hin, hA, hP, hD, hK, hN⟩ := hE
  have hS : va_S A s.heap s.heap [] := va_S.rf
  have hl := lv_entry ([.ref to, .int x]) (n := 3) (Nat.le_of_ble_eq_true rfl)
  rw [lg_entry_eq]
  generalize (lg_sl ([.ref to, .int x]) ++ List.replicate (3 - (lg_sl ([.ref to, .int x])).length) Slot.unset).toArray = ls at hl ⊢
  have hl : lv_has ls 3 [(0, .ref to), (1, .int x)] := hl
  refine lv_iconst (v := 0) hx hb dX11_begin_0 (by decide) ?_
  refine lv_istore_n (lv' := [(2, .int 0), (0, .ref to), (1, .int x)]) hx hb dX11_begin_1 rfl hl (by decide) rfl (fun ls hl => ?_)
  have lp10 : ∀ (fuj91 j91 : Nat) (x5 : Nat → Int32) (H : Heap) (locs : List Loc) (ls : Array Slot), j91 ≤ 76 → 76 - j91 < fuj91 → kr_t 228 x5 → x5 = kr_bg ft j91 → va_P D vwCl [(to, .inl (y 0, 228, .inl x5))] H → va_D A [(to, .inl (y 0, 228, .inl x5))] → va_S A s.heap H locs → lv_has ls 3 [(2, .int (nI j91)), (0, .ref to), (1, .int x)] → W pZ l eZ ({ frames := 1, cells := 0, slots := 0, locals := 60 }) s mZ [.ref to, .int x].toArray beZ meZ cZ H locs 0 0 (MQ beZ (va_Qv (fun (u : Unit) => kr_t 228 (upd (kr_bg ft 76) 22 x)) (kw_B D (fun _ => [(to, .inl (y 0, 228, .inl (upd (kr_bg ft 76) 22 x)))]) A) A) [.ref to, .int x].toArray s 0 0 A) (F0 mZ 2 ls []) := by
    intro fuj91
    induction fuj91 with
    | zero => intro j91 x5 H locs ls hj9 hf9; exact absurd hf9 (Nat.not_lt_zero _)
    | succ fuj91 ihj91 =>
      intro j91 x5 H locs ls hj91 hfj91 hr_x5 hI0_j91 hP hD hS hl
      refine lv_iload_n hx hb dX11_begin_2 rfl (lv_at hl 0 rfl) ?_
      refine lv_bipush (v := 76) hx hb dX11_begin_3 (by decide) ?_
      refine lv_icmp_ge (tgt := 18) hx hb dX11_begin_5 (by decide) (fun h11 => ?_) (fun h12 => ?_)
      · skip
        have h11 : 76 ≤ j91 := (nI_leI (a := 76) (b := j91) (by omega) (by omega)).mp h11
        obtain rfl : j91 = 76 := by omega
        subst hI0_j91
        have hP : va_P D vwCl [(to, .inl (y 0, 228, .inl (kr_bg ft 76)))] H := hP
        have hD : va_D A [(to, .inl (y 0, 228, .inl (kr_bg ft 76)))] := hD
        refine lv_aload_n hx hb dX11_begin_18 rfl (lv_at hl 1 rfl) ?_
        refine lv_bipush (v := 22) hx hb dX11_begin_19 (by decide) ?_
        refine lv_iload_n hx hb dX11_begin_21 rfl (lv_at hl 2 rfl) ?_
        refine va_iast hx hb hK hP hD hS 0 0 rfl rfl (by unfold vp_in; decide) dX11_begin_22 (fun H locs hP hD hS => ?_)
        rw [show ((22 : Int32)).toNatClampNeg = 22 from rfl] at hP hD
        have hr13 : kr_t 228 (upd (kr_bg ft 76) 22 x) := kr_up hr_x5 (kr_free (by unfold kr_a; omega) (by unfold kr_s; omega))
        have hP : va_P D vwCl [(to, .inl (y 0, 228, .inl (upd (kr_bg ft 76) 22 x)))] H := hP
        have hD : va_D A [(to, .inl (y 0, 228, .inl (upd (kr_bg ft 76) 22 x)))] := hD
        exact W.vret hx hb hr (fun tZ ht hW => ⟨⟨(), rfl, hr13, by rw [ht]; exact hP.sub [0] rfl, hD.sub [0] (by decide) rfl⟩, hS.F ht⟩) hS.2.2 dX11_begin_23
      · skip
        have h12 : ¬ 76 ≤ j91 := fun q9 => h12 ((nI_leI (a := 76) (b := j91) (by omega) (by omega)).mpr q9)
        refine lv_aload_n hx hb dX11_begin_8 rfl (lv_at hl 1 rfl) ?_
        refine lv_iload_n hx hb dX11_begin_9 rfl (lv_at hl 0 rfl) ?_
        refine lv_iconst (v := 0) hx hb dX11_begin_10 (by decide) ?_
        refine va_iast hx hb hK hP hD hS 0 0 rfl rfl (vp_in_nI (by omega) (by decide)) dX11_begin_11 (fun H locs hP hD hS => ?_)
        rw [nI_clamp (n := j91) (by omega)] at hP hD
        have hr14 : kr_t 228 (upd x5 j91 0) := kr_up hr_x5 (kr_ok0)
        have hP : va_P D vwCl [(to, .inl (y 0, 228, .inl (upd x5 j91 0)))] H := hP
        have hD : va_D A [(to, .inl (y 0, 228, .inl (upd x5 j91 0)))] := hD
        refine lv_iinc (v := (nI (j91 + 1))) (lv' := [(2, .int (nI (j91 + 1))), (0, .ref to), (1, .int x)]) hx hb dX11_begin_12 hl (k := 0) rfl (nI_1 j91) (by decide) rfl (fun ls hl => ?_)
        refine lv_goto (tgt := 2) hx hb dX11_begin_15 (by decide) ?_
        exact ihj91 (j91 + 1) (upd x5 j91 0) H locs ls (by omega) (by omega) hr14 (by rw [hI0_j91]; exact kr_bgS) (hP.sub [0] rfl) (hD.sub [0] (by decide) rfl) hS (lv_sub hl [0, 1, 2] rfl)
  exact lp10 (76 + 1) 0 ft _ _ _ (by omega) (by omega) hkt kr_bg0 hP hD hS (lv_sub hl [0, 1, 2] rfl)

set_option maxHeartbeats 4000000 in
set_option maxRecDepth 100000 in
theorem gr_layField228 (l : Launch) (D : va_G) (y : Nat → ClassId) (to : Nat) (ft : Nat → Int32) (fi : Nat) (gl : Nat) (mi : Nat) (no : Nat) (un : Nat) (x : Int32) (x2 : Int32) (hk0_ : ft 0 = (nI fi)) (hk1_ : ft 1 = (nI gl)) (hk2_ : ft 2 = (nI mi)) (hk3_ : ft 3 = (nI no)) (hk4_ : ft 4 = (nI un)) (hkt : kr_t 228 ft) (hfi : fi ≤ 6) (hgl : gl ≤ 5) (hmi : mi ≤ 4) (hno : no ≤ 6) (hun : un ≤ 8) (hA1 : fi < 6) : kw_Mv l yX11_layField wsX11_layField ({ frames := 1, cells := 0, slots := 0, locals := 60 }) D y [.ref to, .int x, .int x2] [(to, .inl (y 0, 228, .inl ft))] (fun (u : Unit) => kr_t 228 (upd (upd (upd ft (fi + 24) x) (fi + 5) x2) 0 (nI (fi + 1))) ∧ (upd (upd (upd ft (fi + 24) x) (fi + 5) x2) 0 (nI (fi + 1))) 0 = (nI (fi + 1)) ∧ (upd (upd (upd ft (fi + 24) x) (fi + 5) x2) 0 (nI (fi + 1))) 1 = (nI gl) ∧ (upd (upd (upd ft (fi + 24) x) (fi + 5) x2) 0 (nI (fi + 1))) 2 = (nI mi) ∧ (upd (upd (upd ft (fi + 24) x) (fi + 5) x2) 0 (nI (fi + 1))) 3 = (nI no) ∧ (upd (upd (upd ft (fi + 24) x) (fi + 5) x2) 0 (nI (fi + 1))) 4 = (nI un)) (fun _ => [(to, .inl (y 0, 228, .inl (upd (upd (upd ft (fi + 24) x) (fi + 5) x2) 0 (nI (fi + 1)))))]) 0 0 := by
  refine kw_Mv.of (cc := cX11_layField) (maxL := 3) (ret := none) (by decide) rfl ?_
  intro pZ eZ s mZ beZ meZ cZ A hE
  obtain ⟨hx, hb, hr, hml, hts, hown, hlocks, hin, hA, hP, hD, hK, hN⟩ := hE
  have hS : va_S A s.heap s.heap [] := va_S.rf
  have hl := lv_entry ([.ref to, .int x, .int x2]) (n := 3) (Nat.le_of_ble_eq_true rfl)
  rw [lg_entry_eq]
  generalize (lg_sl ([.ref to, .int x, .int x2]) ++ List.replicate (3 - (lg_sl ([.ref to, .int x, .int x2])).length) Slot.unset).toArray = ls at hl ⊢
  have hl : lv_has ls 3 [(0, .ref to), (1, .int x), (2, .int x2)] := hl
  refine lv_aload_n hx hb dX11_layField_0 rfl (lv_at hl 0 rfl) ?_
  refine lv_bipush (v := 24) hx hb dX11_layField_1 (by decide) ?_
  refine lv_aload_n hx hb dX11_layField_3 rfl (lv_at hl 0 rfl) ?_
  refine lv_iconst (v := 0) hx hb dX11_layField_4 (by decide) ?_
  refine va_iald hx hb hK hP 0 0 rfl rfl (by unfold vp_in; decide) dX11_layField_5 ?_
  rw [show ((0 : Int32)).toNatClampNeg = 0 from rfl]
  rw [show (ft 0) = (nI fi) from hk0_]
  refine lv_iadd hx hb dX11_layField_6 ?_
  rw [show 24 + (nI fi) = nI (fi + 24) from (nI_add 24 fi).trans (congrArg nI (by omega))]
  refine lv_iload_n hx hb dX11_layField_7 rfl (lv_at hl 1 rfl) ?_
  refine va_iast hx hb hK hP hD hS 0 0 rfl rfl (vp_in_nI (by omega) (by decide)) dX11_layField_8 (fun H locs hP hD hS => ?_)
  rw [nI_clamp (n := (fi + 24)) (by omega)] at hP hD
  have hr1 : kr_t 228 (upd ft (fi + 24) x) := kr_up hkt (kr_free (by unfold kr_a; omega) (by unfold kr_s; omega))
  have hk2 : (upd ft (fi + 24) x) 0 = (nI fi) := (pk_un (by omega)).trans hk0_
  have hk3 : (upd ft (fi + 24) x) 1 = (nI gl) := (pk_un (by omega)).trans hk1_
  have hk4 : (upd ft (fi + 24) x) 2 = (nI mi) := (pk_un (by omega)).trans hk2_
  have hk5 : (upd ft (fi + 24) x) 3 = (nI no) := (pk_un (by omega)).trans hk3_
  have hk6 : (upd ft (fi + 24) x) 4 = (nI un) := (pk_un (by omega)).trans hk4_
  have hP : va_P D vwCl [(to, .inl (y 0, 228, .inl (upd ft (fi + 24) x)))] H := hP
  have hD : va_D A [(to, .inl (y 0, 228, .inl (upd ft (fi + 24) x)))] := hD
  refine lv_aload_n hx hb dX11_layField_9 rfl (lv_at hl 0 rfl) ?_
  refine lv_iconst (v := 5) hx hb dX11_layField_10 (by decide) ?_
  refine lv_aload_n hx hb dX11_layField_11 rfl (lv_at hl 0 rfl) ?_
  refine lv_iconst (v := 0) hx hb dX11_layField_12 (by decide) ?_
  refine va_iald hx hb hK hP 0 0 rfl rfl (by unfold vp_in; decide) dX11_layField_13 ?_
  rw [show ((0 : Int32)).toNatClampNeg = 0 from rfl]
  rw [show ((upd ft (fi + 24) x) 0) = (nI fi) from hk2]
  refine lv_iadd hx hb dX11_layField_14 ?_
  rw [show 5 + (nI fi) = nI (fi + 5) from (nI_add 5 fi).trans (congrArg nI (by omega))]
  refine lv_iload_n hx hb dX11_layField_15 rfl (lv_at hl 2 rfl) ?_
  refine va_iast hx hb hK hP hD hS 0 0 rfl rfl (vp_in_nI (by omega) (by decide)) dX11_layField_16 (fun H locs hP hD hS => ?_)
  rw [nI_clamp (n := (fi + 5)) (by omega)] at hP hD
  have hr7 : kr_t 228 (upd (upd ft (fi + 24) x) (fi + 5) x2) := kr_up hr1 (kr_free (by unfold kr_a; omega) (by unfold kr_s; omega))
  have hk8 : (upd (upd ft (fi + 24) x) (fi + 5) x2) 0 = (nI fi) := (pk_un (by omega)).trans hk2
  have hk9 : (upd (upd ft (fi + 24) x) (fi + 5) x2) 1 = (nI gl) := (pk_un (by omega)).trans hk3
  have hk10 : (upd (upd ft (fi + 24) x) (fi + 5) x2) 2 = (nI mi) := (pk_un (by omega)).trans hk4
  have hk11 : (upd (upd ft (fi + 24) x) (fi + 5) x2) 3 = (nI no) := (pk_un (by omega)).trans hk5
  have hk12 : (upd (upd ft (fi + 24) x) (fi + 5) x2) 4 = (nI un) := (pk_un (by omega)).trans hk6
  have hP : va_P D vwCl [(to, .inl (y 0, 228, .inl (upd (upd ft (fi + 24) x) (fi + 5) x2)))] H := hP
  have hD : va_D A [(to, .inl (y 0, 228, .inl (upd (upd ft (fi + 24) x) (fi + 5) x2)))] := hD
  refine lv_aload_n hx hb dX11_layField_17 rfl (lv_at hl 0 rfl) ?_
  refine lv_iconst (v := 0) hx hb dX11_layField_18 (by decide) ?_
  refine lv_dup2_11 hx hb dX11_layField_19 rfl rfl ?_
  refine va_iald hx hb hK hP 0 0 rfl rfl (by unfold vp_in; decide) dX11_layField_20 ?_
  rw [show ((0 : Int32)).toNatClampNeg = 0 from rfl]
  rw [show ((upd (upd ft (fi + 24) x) (fi + 5) x2) 0) = (nI fi) from hk8]
  refine lv_iconst (v := 1) hx hb dX11_layField_21 (by decide) ?_
  refine lv_iadd hx hb dX11_layField_22 ?_
  rw [show (nI fi) + 1 = nI (fi + 1) from nI_add fi 1]
  refine va_iast hx hb hK hP hD hS 0 0 rfl rfl (by unfold vp_in; decide) dX11_layField_23 (fun H locs hP hD hS => ?_)
  rw [show ((0 : Int32)).toNatClampNeg = 0 from rfl] at hP hD
  have hr13 : kr_t 228 (upd (upd (upd ft (fi + 24) x) (fi + 5) x2) 0 (nI (fi + 1))) := kr_up hr7 (kr_free (by unfold kr_a; omega) (by unfold kr_s; omega))
  have hk14 : (upd (upd (upd ft (fi + 24) x) (fi + 5) x2) 0 (nI (fi + 1))) 1 = (nI gl) := (pk_un (by decide)).trans hk9
  have hk15 : (upd (upd (upd ft (fi + 24) x) (fi + 5) x2) 0 (nI (fi + 1))) 2 = (nI mi) := (pk_un (by decide)).trans hk10
  have hk16 : (upd (upd (upd ft (fi + 24) x) (fi + 5) x2) 0 (nI (fi + 1))) 3 = (nI no) := (pk_un (by decide)).trans hk11
  have hk17 : (upd (upd (upd ft (fi + 24) x) (fi + 5) x2) 0 (nI (fi + 1))) 4 = (nI un) := (pk_un (by decide)).trans hk12
  have hk18 : (upd (upd (upd ft (fi + 24) x) (fi + 5) x2) 0 (nI (fi + 1))) 0 = (nI (fi + 1)) := pk_us
  have hP : va_P D vwCl [(to, .inl (y 0, 228, .inl (upd (upd (upd ft (fi + 24) x) (fi + 5) x2) 0 (nI (fi + 1)))))] H := hP
  have hD : va_D A [(to, .inl (y 0, 228, .inl (upd (upd (upd ft (fi + 24) x) (fi + 5) x2) 0 (nI (fi + 1)))))] := hD
  exact W.vret hx hb hr (fun tZ ht hW => ⟨⟨(), rfl, ⟨hr13, hk18, hk14, hk15, hk16, hk17⟩, by rw [ht]; exact hP.sub [0] rfl, hD.sub [0] (by decide) rfl⟩, hS.F ht⟩) hS.2.2 dX11_layField_24

set_option maxHeartbeats 4000000 in
set_option maxRecDepth 100000 in
theorem gr_layGleaner228 (l : Launch) (D : va_G) (y : Nat → ClassId) (to : Nat) (ft : Nat → Int32) (fi : Nat) (gl : Nat) (mi : Nat) (no : Nat) (un : Nat) (k : Nat) (hk0_ : ft 0 = (nI fi)) (hk1_ : ft 1 = (nI gl)) (hk2_ : ft 2 = (nI mi)) (hk3_ : ft 3 = (nI no)) (hk4_ : ft 4 = (nI un)) (hkt : kr_t 228 ft) (hfi : fi ≤ 6) (hgl : gl ≤ 5) (hmi : mi ≤ 4) (hno : no ≤ 6) (hun : un ≤ 8) (hA1 : gl < 5) (hA2 : k < 6) : kw_Mv l yX11_layGleaner wsX11_layGleaner ({ frames := 1, cells := 0, slots := 0, locals := 60 }) D y [.ref to, .int (nI k)] [(to, .inl (y 0, 228, .inl ft))] (fun (u : Unit) => kr_t 228 (upd (upd (upd ft (gl + 11) (nI k)) (gl + 16) 0) 1 (nI (gl + 1))) ∧ (upd (upd (upd ft (gl + 11) (nI k)) (gl + 16) 0) 1 (nI (gl + 1))) 0 = (nI fi) ∧ (upd (upd (upd ft (gl + 11) (nI k)) (gl + 16) 0) 1 (nI (gl + 1))) 1 = (nI (gl + 1)) ∧ (upd (upd (upd ft (gl + 11) (nI k)) (gl + 16) 0) 1 (nI (gl + 1))) 2 = (nI mi) ∧ (upd (upd (upd ft (gl + 11) (nI k)) (gl + 16) 0) 1 (nI (gl + 1))) 3 = (nI no) ∧ (upd (upd (upd ft (gl + 11) (nI k)) (gl + 16) 0) 1 (nI (gl + 1))) 4 = (nI un)) (fun _ => [(to, .inl (y 0, 228, .inl (upd (upd (upd ft (gl + 11) (nI k)) (gl + 16) 0) 1 (nI (gl + 1)))))]) 0 0 := by
  refine kw_Mv.of (cc := cX11_layGleaner) (maxL := 2) (ret := none) (by decide) rfl ?_
  intro pZ eZ s mZ beZ meZ cZ A hE
  obtain ⟨hx, hb, hr, hml, hts, hown, hlocks, hin, hA, hP, hD, hK, hN⟩ := hE
  have hS : va_S A s.heap s.heap [] := va_S.rf
  have hl := lv_entry ([.ref to, .int (nI k)]) (n := 2) (Nat.le_of_ble_eq_true rfl)
  rw [lg_entry_eq]
  generalize (lg_sl ([.ref to, .int (nI k)]) ++ List.replicate (2 - (lg_sl ([.ref to, .int (nI k)])).length) Slot.unset).toArray = ls at hl ⊢
  have hl : lv_has ls 2 [(0, .ref to), (1, .int (nI k))] := hl
  refine lv_aload_n hx hb dX11_layGleaner_0 rfl (lv_at hl 0 rfl) ?_
  refine lv_bipush (v := 11) hx hb dX11_layGleaner_1 (by decide) ?_
  refine lv_aload_n hx hb dX11_layGleaner_3 rfl (lv_at hl 0 rfl) ?_
  refine lv_iconst (v := 1) hx hb dX11_layGleaner_4 (by decide) ?_
  refine va_iald hx hb hK hP 0 0 rfl rfl (by unfold vp_in; decide) dX11_layGleaner_5 ?_
  rw [show ((1 : Int32)).toNatClampNeg = 1 from rfl]
  rw [show (ft 1) = (nI gl) from hk1_]
  refine lv_iadd hx hb dX11_layGleaner_6 ?_
  rw [show 11 + (nI gl) = nI (gl + 11) from (nI_add 11 gl).trans (congrArg nI (by omega))]
  refine lv_iload_n hx hb dX11_layGleaner_7 rfl (lv_at hl 1 rfl) ?_
  refine va_iast hx hb hK hP hD hS 0 0 rfl rfl (vp_in_nI (by omega) (by decide)) dX11_layGleaner_8 (fun H locs hP hD hS => ?_)
  rw [nI_clamp (n := (gl + 11)) (by omega)] at hP hD
  have hr1 : kr_t 228 (upd ft (gl + 11) (nI k)) := kr_up hkt (kr_oka (vp_in_nI (by omega) (by decide)) (by unfold kr_s; omega))
  have hk2 : (upd ft (gl + 11) (nI k)) 0 = (nI fi) := (pk_un (by omega)).trans hk0_
  have hk3 : (upd ft (gl + 11) (nI k)) 1 = (nI gl) := (pk_un (by omega)).trans hk1_
  have hk4 : (upd ft (gl + 11) (nI k)) 2 = (nI mi) := (pk_un (by omega)).trans hk2_
  have hk5 : (upd ft (gl + 11) (nI k)) 3 = (nI no) := (pk_un (by omega)).trans hk3_
  have hk6 : (upd ft (gl + 11) (nI k)) 4 = (nI un) := (pk_un (by omega)).trans hk4_
  have hP : va_P D vwCl [(to, .inl (y 0, 228, .inl (upd ft (gl + 11) (nI k))))] H := hP
  have hD : va_D A [(to, .inl (y 0, 228, .inl (upd ft (gl + 11) (nI k))))] := hD
  refine lv_aload_n hx hb dX11_layGleaner_9 rfl (lv_at hl 0 rfl) ?_
  refine lv_bipush (v := 16) hx hb dX11_layGleaner_10 (by decide) ?_
  refine lv_aload_n hx hb dX11_layGleaner_12 rfl (lv_at hl 0 rfl) ?_
  refine lv_iconst (v := 1) hx hb dX11_layGleaner_13 (by decide) ?_
  refine va_iald hx hb hK hP 0 0 rfl rfl (by unfold vp_in; decide) dX11_layGleaner_14 ?_
  rw [show ((1 : Int32)).toNatClampNeg = 1 from rfl]
  rw [show ((upd ft (gl + 11) (nI k)) 1) = (nI gl) from hk3]
  refine lv_iadd hx hb dX11_layGleaner_15 ?_
  rw [show 16 + (nI gl) = nI (gl + 16) from (nI_add 16 gl).trans (congrArg nI (by omega))]
  refine lv_iconst (v := 0) hx hb dX11_layGleaner_16 (by decide) ?_
  refine va_iast hx hb hK hP hD hS 0 0 rfl rfl (vp_in_nI (by omega) (by decide)) dX11_layGleaner_17 (fun H locs hP hD hS => ?_)
  rw [nI_clamp (n := (gl + 16)) (by omega)] at hP hD
  have hr7 : kr_t 228 (upd (upd ft (gl + 11) (nI k)) (gl + 16) 0) := kr_up hr1 (kr_ok0)
  have hk8 : (upd (upd ft (gl + 11) (nI k)) (gl + 16) 0) 0 = (nI fi) := (pk_un (by omega)).trans hk2
  have hk9 : (upd (upd ft (gl + 11) (nI k)) (gl + 16) 0) 1 = (nI gl) := (pk_un (by omega)).trans hk3
  have hk10 : (upd (upd ft (gl + 11) (nI k)) (gl + 16) 0) 2 = (nI mi) := (pk_un (by omega)).trans hk4
  have hk11 : (upd (upd ft (gl + 11) (nI k)) (gl + 16) 0) 3 = (nI no) := (pk_un (by omega)).trans hk5
  have hk12 : (upd (upd ft (gl + 11) (nI k)) (gl + 16) 0) 4 = (nI un) := (pk_un (by omega)).trans hk6
  have hP : va_P D vwCl [(to, .inl (y 0, 228, .inl (upd (upd ft (gl + 11) (nI k)) (gl + 16) 0)))] H := hP
  have hD : va_D A [(to, .inl (y 0, 228, .inl (upd (upd ft (gl + 11) (nI k)) (gl + 16) 0)))] := hD
  refine lv_aload_n hx hb dX11_layGleaner_18 rfl (lv_at hl 0 rfl) ?_
  refine lv_iconst (v := 1) hx hb dX11_layGleaner_19 (by decide) ?_
  refine lv_dup2_11 hx hb dX11_layGleaner_20 rfl rfl ?_
  refine va_iald hx hb hK hP 0 0 rfl rfl (by unfold vp_in; decide) dX11_layGleaner_21 ?_
  rw [show ((1 : Int32)).toNatClampNeg = 1 from rfl]
  rw [show ((upd (upd ft (gl + 11) (nI k)) (gl + 16) 0) 1) = (nI gl) from hk9]
  refine lv_iconst (v := 1) hx hb dX11_layGleaner_22 (by decide) ?_
  refine lv_iadd hx hb dX11_layGleaner_23 ?_
  rw [show (nI gl) + 1 = nI (gl + 1) from nI_add gl 1]
  refine va_iast hx hb hK hP hD hS 0 0 rfl rfl (by unfold vp_in; decide) dX11_layGleaner_24 (fun H locs hP hD hS => ?_)
  rw [show ((1 : Int32)).toNatClampNeg = 1 from rfl] at hP hD
  have hr13 : kr_t 228 (upd (upd (upd ft (gl + 11) (nI k)) (gl + 16) 0) 1 (nI (gl + 1))) := kr_up hr7 (kr_free (by unfold kr_a; omega) (by unfold kr_s; omega))
  have hk14 : (upd (upd (upd ft (gl + 11) (nI k)) (gl + 16) 0) 1 (nI (gl + 1))) 0 = (nI fi) := (pk_un (by decide)).trans hk8
  have hk15 : (upd (upd (upd ft (gl + 11) (nI k)) (gl + 16) 0) 1 (nI (gl + 1))) 2 = (nI mi) := (pk_un (by decide)).trans hk10
  have hk16 : (upd (upd (upd ft (gl + 11) (nI k)) (gl + 16) 0) 1 (nI (gl + 1))) 3 = (nI no) := (pk_un (by decide)).trans hk11
  have hk17 : (upd (upd (upd ft (gl + 11) (nI k)) (gl + 16) 0) 1 (nI (gl + 1))) 4 = (nI un) := (pk_un (by decide)).trans hk12
  have hk18 : (upd (upd (upd ft (gl + 11) (nI k)) (gl + 16) 0) 1 (nI (gl + 1))) 1 = (nI (gl + 1)) := pk_us
  have hP : va_P D vwCl [(to, .inl (y 0, 228, .inl (upd (upd (upd ft (gl + 11) (nI k)) (gl + 16) 0) 1 (nI (gl + 1)))))] H := hP
  have hD : va_D A [(to, .inl (y 0, 228, .inl (upd (upd (upd ft (gl + 11) (nI k)) (gl + 16) 0) 1 (nI (gl + 1)))))] := hD
  exact W.vret hx hb hr (fun tZ ht hW => ⟨⟨(), rfl, ⟨hr13, hk14, hk18, hk15, hk16, hk17⟩, by rw [ht]; exact hP.sub [0] rfl, hD.sub [0] (by decide) rfl⟩, hS.F ht⟩) hS.2.2 dX11_layGleaner_25

set_option maxHeartbeats 4000000 in
set_option maxRecDepth 100000 in
theorem gr_plainly (l : Launch) (D : va_G) (y : Nat → ClassId) (x : Int32) (x2 : Int32) (x3 : Int32)  : kw_Mi l yX11_plainly wsX11_plainly ({ frames := 1, cells := 0, slots := 0, locals := 60 }) D y [.int x, .int x2, .int x3] [] (fun (r : Int32) (u : Unit) => True) (fun _ => []) 0 0 := by
  refine kw_Mi.of (cc := cX11_plainly) (maxL := 4) (ret := (some .int)) (by decide) rfl ?_
  intro pZ eZ s mZ beZ meZ cZ A hE
  obtain ⟨hx, hb, hr, hml, hts, hown, hlocks, hin, hA, hP, hD, hK, hN⟩ := hE
  have hS : va_S A s.heap s.heap [] := va_S.rf
  have hl := lv_entry ([.int x, .int x2, .int x3]) (n := 4) (Nat.le_of_ble_eq_true rfl)
  rw [lg_entry_eq]
  generalize (lg_sl ([.int x, .int x2, .int x3]) ++ List.replicate (4 - (lg_sl ([.int x, .int x2, .int x3])).length) Slot.unset).toArray = ls at hl ⊢
  have hl : lv_has ls 4 [(0, .int x), (1, .int x2), (2, .int x3)] := hl
  refine lv_iload_n hx hb dX11_plainly_0 rfl (lv_at hl 0 rfl) ?_
  refine lv_iconst (v := 2) hx hb dX11_plainly_1 (by decide) ?_
  refine lv_iload_n hx hb dX11_plainly_2 rfl (lv_at hl 1 rfl) ?_
  refine lv_imul hx hb dX11_plainly_3 ?_
  refine lv_isub hx hb dX11_plainly_4 ?_
  refine lv_iload_n hx hb dX11_plainly_5 rfl (lv_at hl 2 rfl) ?_
  refine lv_isub hx hb dX11_plainly_6 ?_
  refine lv_istore_n (lv' := [(3, .int ((x - (2 * x2)) - x3)), (0, .int x), (1, .int x2), (2, .int x3)]) hx hb dX11_plainly_7 rfl hl (by decide) rfl (fun ls hl => ?_)
  refine lv_iload_n hx hb dX11_plainly_8 rfl (lv_at hl 0 rfl) ?_
  refine lv_if_ge (tgt := 16) hx hb dX11_plainly_9 (by decide) (fun h1 => ?_) (fun h2 => ?_)
  · skip
    refine lv_iload_n hx hb dX11_plainly_16 rfl (lv_at hl 0 rfl) ?_
    exact W.iret (v := ((x - (2 * x2)) - x3)) hx hb hr (fun tZ ht hW => ⟨⟨((x - (2 * x2)) - x3), (), rfl, trivial, by rw [ht]; exact hP.sub [] rfl, hD.sub [] (by decide) rfl⟩, hS.F ht⟩) hS.2.2 dX11_plainly_17
  · skip
    refine lv_iconst (v := 0) hx hb dX11_plainly_12 (by decide) ?_
    refine lv_goto (tgt := 17) hx hb dX11_plainly_13 (by decide) ?_
    exact W.iret (v := 0) hx hb hr (fun tZ ht hW => ⟨⟨0, (), rfl, trivial, by rw [ht]; exact hP.sub [] rfl, hD.sub [] (by decide) rfl⟩, hS.F ht⟩) hS.2.2 dX11_plainly_17

set_option maxHeartbeats 4000000 in
set_option maxRecDepth 100000 in
theorem gr_westerly (l : Launch) (D : va_G) (y : Nat → ClassId) (x : Int32) (x2 : Int32) (x3 : Int32)  : kw_Mi l yX11_westerly wsX11_westerly ({ frames := 2, cells := 0, slots := 0, locals := 83 }) D y [.int x, .int x2, .int x3] [] (fun (r : Int32) (u : Unit) => True) (fun _ => []) 0 0 := by
  refine kw_Mi.of (cc := cX11_westerly) (maxL := 3) (ret := (some .int)) (by decide) rfl ?_
  intro pZ eZ s mZ beZ meZ cZ A hE
  obtain ⟨hx, hb, hr, hml, hts, hown, hlocks, hin, hA, hP, hD, hK, hN⟩ := hE
  have hS : va_S A s.heap s.heap [] := va_S.rf
  have hl := lv_entry ([.int x, .int x2, .int x3]) (n := 3) (Nat.le_of_ble_eq_true rfl)
  rw [lg_entry_eq]
  generalize (lg_sl ([.int x, .int x2, .int x3]) ++ List.replicate (3 - (lg_sl ([.int x, .int x2, .int x3])).length) Slot.unset).toArray = ls at hl ⊢
  have hl : lv_has ls 3 [(0, .int x), (1, .int x2), (2, .int x3)] := hl
  refine lv_iload_n hx hb dX11_westerly_0 rfl (lv_at hl 0 rfl) ?_
  refine lv_iload_n hx hb dX11_westerly_1 rfl (lv_at hl 1 rfl) ?_
  refine lv_iload_n hx hb dX11_westerly_2 rfl (lv_at hl 2 rfl) ?_
  have hs1 : kw_Split [] [] [] [] [] := ⟨rfl, rfl, rfl, rfl, rfl, by decide⟩
  refine kw_go_i hs1 hP hD hS hA (va_runS (As := [.int x, .int x2, .int x3]) (rest := []) ⟨hx, hb, hml, hown, hts⟩ (gr_plainly l D y x x2 x3  _) (va_cwS 3 hts gX11_westerly_X11_plainly rfl rfl rfl (by decide +kernel) ⟨Nat.le_of_ble_eq_true rfl, Nat.le_of_ble_eq_true rfl⟩) (kw_PreS hs1 hP hD hK hN) rfl rfl hl.1 rfl (lv_room (Nat.le_of_ble_eq_true rfl)) dX11_westerly_3 ⟨Nat.le_of_ble_eq_true rfl, Nat.le_of_ble_eq_true rfl⟩) (fun r2 u3 H locs hq hP hD hS => ?_)
  have hP : va_P D vwCl [] H := hP
  have hD : va_D A [] := hD
  refine lv_iload_n hx hb dX11_westerly_6 rfl (lv_at hl 1 rfl) ?_
  refine lv_bipush (v := 6) hx hb dX11_westerly_7 (by decide) ?_
  refine lv_icmp_lt (tgt := 21) hx hb dX11_westerly_9 (by decide) (fun h4 => ?_) (fun h5 => ?_)
  · skip
    refine lv_iconst (v := 0) hx hb dX11_westerly_21 (by decide) ?_
    refine lv_iadd hx hb dX11_westerly_22 ?_
    exact W.iret (v := (r2 + 0)) hx hb hr (fun tZ ht hW => ⟨⟨(r2 + 0), (), rfl, trivial, by rw [ht]; exact hP.sub [] rfl, hD.sub [] (by decide) rfl⟩, hS.F ht⟩) hS.2.2 dX11_westerly_23
  · skip
    refine lv_iload_n hx hb dX11_westerly_12 rfl (lv_at hl 0 rfl) ?_
    refine lv_iconst (v := 1) hx hb dX11_westerly_13 (by decide) ?_
    refine lv_icmp_lt (tgt := 21) hx hb dX11_westerly_14 (by decide) (fun h6 => ?_) (fun h7 => ?_)
    · skip
      refine lv_iconst (v := 0) hx hb dX11_westerly_21 (by decide) ?_
      refine lv_iadd hx hb dX11_westerly_22 ?_
      exact W.iret (v := (r2 + 0)) hx hb hr (fun tZ ht hW => ⟨⟨(r2 + 0), (), rfl, trivial, by rw [ht]; exact hP.sub [] rfl, hD.sub [] (by decide) rfl⟩, hS.F ht⟩) hS.2.2 dX11_westerly_23
    · skip
      refine lv_iload_n hx hb dX11_westerly_17 rfl (lv_at hl 1 rfl) ?_
      refine lv_goto (tgt := 22) hx hb dX11_westerly_18 (by decide) ?_
      refine lv_iadd hx hb dX11_westerly_22 ?_
      exact W.iret (v := (r2 + x2)) hx hb hr (fun tZ ht hW => ⟨⟨(r2 + x2), (), rfl, trivial, by rw [ht]; exact hP.sub [] rfl, hD.sub [] (by decide) rfl⟩, hS.F ht⟩) hS.2.2 dX11_westerly_23

set_option maxHeartbeats 4000000 in
set_option maxRecDepth 100000 in
theorem gr_seenAs (l : Launch) (D : va_G) (y : Nat → ClassId) (x : Int32) (x2 : Int32) (x3 : Int32) (x4 : Int32)  : kw_Mi l yX11_seenAs wsX11_seenAs ({ frames := 3, cells := 0, slots := 0, locals := 105 }) D y [.int x, .int x2, .int x3, .int x4] [] (fun (r : Int32) (u : Unit) => True) (fun _ => []) 0 0 := by
  refine kw_Mi.of (cc := cX11_seenAs) (maxL := 5) (ret := (some .int)) (by decide) rfl ?_
  intro pZ eZ s mZ beZ meZ cZ A hE
  obtain ⟨hx, hb, hr, hml, hts, hown, hlocks, hin, hA, hP, hD, hK, hN⟩ := hE
  have hS : va_S A s.heap s.heap [] := va_S.rf
  have hl := lv_entry ([.int x, .int x2, .int x3, .int x4]) (n := 5) (Nat.le_of_ble_eq_true rfl)
  rw [lg_entry_eq]
  generalize (lg_sl ([.int x, .int x2, .int x3, .int x4]) ++ List.replicate (5 - (lg_sl ([.int x, .int x2, .int x3, .int x4])).length) Slot.unset).toArray = ls at hl ⊢
  have hl : lv_has ls 5 [(0, .int x), (1, .int x2), (2, .int x3), (3, .int x4)] := hl
  refine lv_iload_n hx hb dX11_seenAs_0 rfl (lv_at hl 1 rfl) ?_
  refine lv_iload_n hx hb dX11_seenAs_1 rfl (lv_at hl 2 rfl) ?_
  refine lv_iload_n hx hb dX11_seenAs_2 rfl (lv_at hl 3 rfl) ?_
  have hs1 : kw_Split [] [] [] [] [] := ⟨rfl, rfl, rfl, rfl, rfl, by decide⟩
  refine kw_go_i hs1 hP hD hS hA (va_runS (As := [.int x2, .int x3, .int x4]) (rest := []) ⟨hx, hb, hml, hown, hts⟩ (gr_plainly l D y x2 x3 x4  _) (va_cwS 3 hts gX11_seenAs_X11_plainly rfl rfl rfl (by decide +kernel) ⟨Nat.le_of_ble_eq_true rfl, Nat.le_of_ble_eq_true rfl⟩) (kw_PreS hs1 hP hD hK hN) rfl rfl hl.1 rfl (lv_room (Nat.le_of_ble_eq_true rfl)) dX11_seenAs_3 ⟨Nat.le_of_ble_eq_true rfl, Nat.le_of_ble_eq_true rfl⟩) (fun r2 u3 H locs hq hP hD hS => ?_)
  have hP : va_P D vwCl [] H := hP
  have hD : va_D A [] := hD
  refine lv_istore (lv' := [(4, .int r2), (0, .int x), (1, .int x2), (2, .int x3), (3, .int x4)]) hx hb dX11_seenAs_6 hl (by decide) rfl (fun ls hl => ?_)
  refine lv_iload_n hx hb dX11_seenAs_8 rfl (lv_at hl 1 rfl) ?_
  by_cases h4 : x = 1
  · skip
    subst h4
    refine lv_tableIn (off := 35) (tgt := 44) hx hb dX11_seenAs_9 (by decide) (by decide) (by decide +kernel) (by decide) ?_
    refine lv_iload_n hx hb dX11_seenAs_44 rfl (lv_at hl 2 rfl) ?_
    refine lv_iload_n hx hb dX11_seenAs_45 rfl (lv_at hl 3 rfl) ?_
    refine lv_iload_n hx hb dX11_seenAs_46 rfl (lv_at hl 4 rfl) ?_
    have hs5 : kw_Split [] [] [] [] [] := ⟨rfl, rfl, rfl, rfl, rfl, by decide⟩
    refine kw_go_i hs5 hP hD hS hA (va_runS (As := [.int x2, .int x3, .int x4]) (rest := []) ⟨hx, hb, hml, hown, hts⟩ (gr_westerly l D y x2 x3 x4  _) (va_cwS 3 hts gX11_seenAs_X11_westerly rfl rfl rfl (by decide +kernel) ⟨Nat.le_of_ble_eq_true rfl, Nat.le_of_ble_eq_true rfl⟩) (kw_PreS hs5 hP hD hK hN) rfl rfl hl.1 rfl (lv_room (Nat.le_of_ble_eq_true rfl)) dX11_seenAs_47 ⟨Nat.le_of_ble_eq_true rfl, Nat.le_of_ble_eq_true rfl⟩) (fun r6 u7 H locs hq hP hD hS => ?_)
    have hP : va_P D vwCl [] H := hP
    have hD : va_D A [] := hD
    exact W.iret (v := r6) hx hb hr (fun tZ ht hW => ⟨⟨r6, (), rfl, trivial, by rw [ht]; exact hP.sub [] rfl, hD.sub [] (by decide) rfl⟩, hS.F ht⟩) hS.2.2 dX11_seenAs_50
  by_cases h8 : x = 2
  · skip
    subst h8
    refine lv_tableIn (off := 42) (tgt := 51) hx hb dX11_seenAs_9 (by decide) (by decide) (by decide +kernel) (by decide) ?_
    refine lv_iload hx hb dX11_seenAs_51 (lv_at hl 0 rfl) ?_
    refine lv_iconst (v := 2) hx hb dX11_seenAs_53 (by decide) ?_
    refine lv_idiv hx hb dX11_seenAs_54 (by decide) ?_
    exact W.iret (v := (r2 / 2)) hx hb hr (fun tZ ht hW => ⟨⟨(r2 / 2), (), rfl, trivial, by rw [ht]; exact hP.sub [] rfl, hD.sub [] (by decide) rfl⟩, hS.F ht⟩) hS.2.2 dX11_seenAs_55
  by_cases h9 : x = 3
  · skip
    subst h9
    refine lv_tableIn (off := 47) (tgt := 56) hx hb dX11_seenAs_9 (by decide) (by decide) (by decide +kernel) (by decide) ?_
    refine lv_iload hx hb dX11_seenAs_56 (lv_at hl 0 rfl) ?_
    refine lv_iload_n hx hb dX11_seenAs_58 rfl (lv_at hl 4 rfl) ?_
    refine lv_iadd hx hb dX11_seenAs_59 ?_
    refine lv_iload_n hx hb dX11_seenAs_60 rfl (lv_at hl 2 rfl) ?_
    refine lv_icmp_ge (tgt := 71) hx hb dX11_seenAs_61 (by decide) (fun h10 => ?_) (fun h11 => ?_)
    · skip
      refine lv_iload_n hx hb dX11_seenAs_71 rfl (lv_at hl 2 rfl) ?_
      exact W.iret (v := x2) hx hb hr (fun tZ ht hW => ⟨⟨x2, (), rfl, trivial, by rw [ht]; exact hP.sub [] rfl, hD.sub [] (by decide) rfl⟩, hS.F ht⟩) hS.2.2 dX11_seenAs_72
    · skip
      refine lv_iload hx hb dX11_seenAs_64 (lv_at hl 0 rfl) ?_
      refine lv_iload_n hx hb dX11_seenAs_66 rfl (lv_at hl 4 rfl) ?_
      refine lv_iadd hx hb dX11_seenAs_67 ?_
      refine lv_goto (tgt := 72) hx hb dX11_seenAs_68 (by decide) ?_
      exact W.iret (v := (r2 + x4)) hx hb hr (fun tZ ht hW => ⟨⟨(r2 + x4), (), rfl, trivial, by rw [ht]; exact hP.sub [] rfl, hD.sub [] (by decide) rfl⟩, hS.F ht⟩) hS.2.2 dX11_seenAs_72
  by_cases h12 : x = 4
  · skip
    subst h12
    refine lv_tableIn (off := 64) (tgt := 73) hx hb dX11_seenAs_9 (by decide) (by decide) (by decide +kernel) (by decide) ?_
    refine lv_iload_n hx hb dX11_seenAs_73 rfl (lv_at hl 2 rfl) ?_
    refine lv_iload_n hx hb dX11_seenAs_74 rfl (lv_at hl 3 rfl) ?_
    refine lv_iload_n hx hb dX11_seenAs_75 rfl (lv_at hl 4 rfl) ?_
    refine lv_iconst (v := 3) hx hb dX11_seenAs_76 (by decide) ?_
    refine lv_icmp_ge (tgt := 84) hx hb dX11_seenAs_77 (by decide) (fun h13 => ?_) (fun h14 => ?_)
    · skip
      refine lv_iload_n hx hb dX11_seenAs_84 rfl (lv_at hl 4 rfl) ?_
      refine lv_iconst (v := 3) hx hb dX11_seenAs_85 (by decide) ?_
      refine lv_isub hx hb dX11_seenAs_86 ?_
      have hs15 : kw_Split [] [] [] [] [] := ⟨rfl, rfl, rfl, rfl, rfl, by decide⟩
      refine kw_go_i hs15 hP hD hS hA (va_runS (As := [.int x2, .int x3, .int (x4 - 3)]) (rest := []) ⟨hx, hb, hml, hown, hts⟩ (gr_westerly l D y x2 x3 (x4 - 3)  _) (va_cwS 3 hts gX11_seenAs_X11_westerly rfl rfl rfl (by decide +kernel) ⟨Nat.le_of_ble_eq_true rfl, Nat.le_of_ble_eq_true rfl⟩) (kw_PreS hs15 hP hD hK hN) rfl rfl hl.1 rfl (lv_room (Nat.le_of_ble_eq_true rfl)) dX11_seenAs_87 ⟨Nat.le_of_ble_eq_true rfl, Nat.le_of_ble_eq_true rfl⟩) (fun r16 u17 H locs hq hP hD hS => ?_)
      have hP : va_P D vwCl [] H := hP
      have hD : va_D A [] := hD
      exact W.iret (v := r16) hx hb hr (fun tZ ht hW => ⟨⟨r16, (), rfl, trivial, by rw [ht]; exact hP.sub [] rfl, hD.sub [] (by decide) rfl⟩, hS.F ht⟩) hS.2.2 dX11_seenAs_90
    · skip
      refine lv_iconst (v := 0) hx hb dX11_seenAs_80 (by decide) ?_
      refine lv_goto (tgt := 87) hx hb dX11_seenAs_81 (by decide) ?_
      have hs18 : kw_Split [] [] [] [] [] := ⟨rfl, rfl, rfl, rfl, rfl, by decide⟩
      refine kw_go_i hs18 hP hD hS hA (va_runS (As := [.int x2, .int x3, .int 0]) (rest := []) ⟨hx, hb, hml, hown, hts⟩ (gr_westerly l D y x2 x3 0  _) (va_cwS 3 hts gX11_seenAs_X11_westerly rfl rfl rfl (by decide +kernel) ⟨Nat.le_of_ble_eq_true rfl, Nat.le_of_ble_eq_true rfl⟩) (kw_PreS hs18 hP hD hK hN) rfl rfl hl.1 rfl (lv_room (Nat.le_of_ble_eq_true rfl)) dX11_seenAs_87 ⟨Nat.le_of_ble_eq_true rfl, Nat.le_of_ble_eq_true rfl⟩) (fun r19 u20 H locs hq hP hD hS => ?_)
      have hP : va_P D vwCl [] H := hP
      have hD : va_D A [] := hD
      exact W.iret (v := r19) hx hb hr (fun tZ ht hW => ⟨⟨r19, (), rfl, trivial, by rw [ht]; exact hP.sub [] rfl, hD.sub [] (by decide) rfl⟩, hS.F ht⟩) hS.2.2 dX11_seenAs_90
  by_cases h21 : x = 5
  · skip
    subst h21
    refine lv_tableIn (off := 82) (tgt := 91) hx hb dX11_seenAs_9 (by decide) (by decide) (by decide +kernel) (by decide) ?_
    refine lv_iload_n hx hb dX11_seenAs_91 rfl (lv_at hl 3 rfl) ?_
    refine lv_bipush (v := 8) hx hb dX11_seenAs_92 (by decide) ?_
    refine lv_icmp_lt (tgt := 101) hx hb dX11_seenAs_94 (by decide) (fun h22 => ?_) (fun h23 => ?_)
    · skip
      refine lv_iload hx hb dX11_seenAs_101 (lv_at hl 0 rfl) ?_
      refine lv_iconst (v := 2) hx hb dX11_seenAs_103 (by decide) ?_
      refine lv_idiv hx hb dX11_seenAs_104 (by decide) ?_
      exact W.iret (v := (r2 / 2)) hx hb hr (fun tZ ht hW => ⟨⟨(r2 / 2), (), rfl, trivial, by rw [ht]; exact hP.sub [] rfl, hD.sub [] (by decide) rfl⟩, hS.F ht⟩) hS.2.2 dX11_seenAs_105
    · skip
      refine lv_iconst (v := 0) hx hb dX11_seenAs_97 (by decide) ?_
      refine lv_goto (tgt := 105) hx hb dX11_seenAs_98 (by decide) ?_
      exact W.iret (v := 0) hx hb hr (fun tZ ht hW => ⟨⟨0, (), rfl, trivial, by rw [ht]; exact hP.sub [] rfl, hD.sub [] (by decide) rfl⟩, hS.F ht⟩) hS.2.2 dX11_seenAs_105
  refine lv_tableOut (tgt := 106) hx hb dX11_seenAs_9 (kr_out1_5 h4 h8 h9 h12 h21) (by decide) ?_
  refine lv_iload hx hb dX11_seenAs_106 (lv_at hl 0 rfl) ?_
  exact W.iret (v := r2) hx hb hr (fun tZ ht hW => ⟨⟨r2, (), rfl, trivial, by rw [ht]; exact hP.sub [] rfl, hD.sub [] (by decide) rfl⟩, hS.F ht⟩) hS.2.2 dX11_seenAs_108

set_option maxHeartbeats 4000000 in
set_option maxRecDepth 100000 in
theorem gr_layHand (l : Launch) (D : va_G) (y : Nat → ClassId) (mo : Nat) (to : Nat) (ke : Nat) (ik : Nat) (mrf : Nat) (ha : Nat) (r0 : Nat) (mbr : Nat) (mbp : Nat) (mby : Nat) (an : Nat) (va : Nat) (mab : Int64) (mbl : Int64) (bl : Nat) (ta : Nat) (tl : Nat) (tk : Nat) (vv : Int32) (ft : Nat → Int32) (fi : Nat) (gl : Nat) (mi : Nat) (no : Nat) (un : Nat) (fh : Nat → Int32) (hk0_ : ft 0 = (nI fi)) (hk1_ : ft 1 = (nI gl)) (hk2_ : ft 2 = (nI mi)) (hk3_ : ft 3 = (nI no)) (hk4_ : ft 4 = (nI un)) (hkt : kr_t 228 ft) (hfi : fi ≤ 6) (hgl : gl ≤ 5) (hmi : mi ≤ 4) (hno : no ≤ 6) (hun : un ≤ 8) (hkh : kr_t 30 fh) : kw_Mv l yX11_layHand wsX11_layHand ({ frames := 1, cells := 0, slots := 0, locals := 60 }) D y [.ref mo] [(mo, .inr (11, [.ref to, .ref ke, .ref ik, .ref mrf, .long mab, .long mbl, .ref ha, .ref r0, .ref mbr, .ref mbp, .ref mby, .int (nI bl), .int (nI ta), .int (nI tl), .int (nI tk), .int vv, .ref an, .ref va])), (to, .inl (y 0, 228, .inl ft)), (ha, .inl (y 0, 30, .inl fh))] (fun (u : Unit) => kr_t 30 (kr_cp fh ft 30)) (fun _ => [(mo, .inr (11, [.ref to, .ref ke, .ref ik, .ref mrf, .long mab, .long mbl, .ref ha, .ref r0, .ref mbr, .ref mbp, .ref mby, .int (nI bl), .int (nI ta), .int (nI tl), .int (nI tk), .int vv, .ref an, .ref va])), (to, .inl (y 0, 228, .inl ft)), (ha, .inl (y 0, 30, .inl (kr_cp fh ft 30)))]) 0 0 := by
  refine kw_Mv.of (cc := cX11_layHand) (maxL := 2) (ret := none) (by decide) rfl ?_
  intro pZ eZ s mZ beZ meZ cZ A hE
  obtain ⟨hx, hb, hr, hml, hts, hown, hlocks, hin, hA, hP, hD, hK, hN⟩ := hE
  have hS : va_S A s.heap s.heap [] := va_S.rf
  have hl := lv_entry ([.ref mo]) (n := 2) (Nat.le_of_ble_eq_true rfl)
  rw [lg_entry_eq]
  generalize (lg_sl ([.ref mo]) ++ List.replicate (2 - (lg_sl ([.ref mo])).length) Slot.unset).toArray = ls at hl ⊢
  have hl : lv_has ls 2 [(0, .ref mo)] := hl
  have fw1 := hts (.fieldLink RX11 27 "GleanDuskModel" "hand" "[I") (List.mem_of_getElem? (i := 1) rfl)
  have fw2 := hts (.fieldLink RX11 7 "GleanDuskModel" "told" "[I") (List.mem_of_getElem? (i := 2) rfl)
  have iw11 : ∀ w ∈ wsX110, w ∈ wsX11_layHand := fun _ h => List.mem_cons_of_mem _ (List.mem_append_right _ h)
  refine lv_iconst (v := 0) hx hb dX11_layHand_0 (by decide) ?_
  refine lv_istore_n (lv' := [(1, .int 0), (0, .ref mo)]) hx hb dX11_layHand_1 rfl hl (by decide) rfl (fun ls hl => ?_)
  have lp8 : ∀ (fuj91 j91 : Nat) (x4 : Nat → Int32) (H : Heap) (locs : List Loc) (ls : Array Slot), j91 ≤ 30 → 30 - j91 < fuj91 → kr_t 30 x4 → x4 = kr_cp fh ft j91 → va_P D vwCl [(mo, .inr (11, [.ref to, .ref ke, .ref ik, .ref mrf, .long mab, .long mbl, .ref ha, .ref r0, .ref mbr, .ref mbp, .ref mby, .int (nI bl), .int (nI ta), .int (nI tl), .int (nI tk), .int vv, .ref an, .ref va])), (to, .inl (y 0, 228, .inl ft)), (ha, .inl (y 0, 30, .inl x4))] H → va_D A [(mo, .inr (11, [.ref to, .ref ke, .ref ik, .ref mrf, .long mab, .long mbl, .ref ha, .ref r0, .ref mbr, .ref mbp, .ref mby, .int (nI bl), .int (nI ta), .int (nI tl), .int (nI tk), .int vv, .ref an, .ref va])), (to, .inl (y 0, 228, .inl ft)), (ha, .inl (y 0, 30, .inl x4))] → va_S A s.heap H locs → lv_has ls 2 [(1, .int (nI j91)), (0, .ref mo)] → W pZ l eZ ({ frames := 1, cells := 0, slots := 0, locals := 60 }) s mZ [.ref mo].toArray beZ meZ cZ H locs 0 0 (MQ beZ (va_Qv (fun (u : Unit) => kr_t 30 (kr_cp fh ft 30)) (kw_B D (fun _ => [(mo, .inr (11, [.ref to, .ref ke, .ref ik, .ref mrf, .long mab, .long mbl, .ref ha, .ref r0, .ref mbr, .ref mbp, .ref mby, .int (nI bl), .int (nI ta), .int (nI tl), .int (nI tk), .int vv, .ref an, .ref va])), (to, .inl (y 0, 228, .inl ft)), (ha, .inl (y 0, 30, .inl (kr_cp fh ft 30)))]) A) A) [.ref mo].toArray s 0 0 A) (F0 mZ 2 ls []) := by
    intro fuj91
    induction fuj91 with
    | zero => intro j91 x4 H locs ls hj9 hf9; exact absurd hf9 (Nat.not_lt_zero _)
    | succ fuj91 ihj91 =>
      intro j91 x4 H locs ls hj91 hfj91 hr_x4 hI0_j91 hP hD hS hl
      refine lv_iload_n hx hb dX11_layHand_2 rfl (lv_at hl 0 rfl) ?_
      refine lv_bipush (v := 30) hx hb dX11_layHand_3 (by decide) ?_
      refine lv_icmp_ge (tgt := 26) hx hb dX11_layHand_5 (by decide) (fun h9 => ?_) (fun h10 => ?_)
      · skip
        have h9 : 30 ≤ j91 := (nI_leI (a := 30) (b := j91) (by omega) (by omega)).mp h9
        obtain rfl : j91 = 30 := by omega
        subst hI0_j91
        have hP : va_P D vwCl [(mo, .inr (11, [.ref to, .ref ke, .ref ik, .ref mrf, .long mab, .long mbl, .ref ha, .ref r0, .ref mbr, .ref mbp, .ref mby, .int (nI bl), .int (nI ta), .int (nI tl), .int (nI tk), .int vv, .ref an, .ref va])), (to, .inl (y 0, 228, .inl ft)), (ha, .inl (y 0, 30, .inl (kr_cp fh ft 30)))] H := hP
        have hD : va_D A [(mo, .inr (11, [.ref to, .ref ke, .ref ik, .ref mrf, .long mab, .long mbl, .ref ha, .ref r0, .ref mbr, .ref mbp, .ref mby, .int (nI bl), .int (nI ta), .int (nI tl), .int (nI tk), .int vv, .ref an, .ref va])), (to, .inl (y 0, 228, .inl ft)), (ha, .inl (y 0, 30, .inl (kr_cp fh ft 30)))] := hD
        exact W.vret hx hb hr (fun tZ ht hW => ⟨⟨(), rfl, hr_x4, by rw [ht]; exact hP.sub [0, 1, 2] rfl, hD.sub [0, 1, 2] (by decide) rfl⟩, hS.F ht⟩) hS.2.2 dX11_layHand_26
      · skip
        have h10 : ¬ 30 ≤ j91 := fun q9 => h10 ((nI_leI (a := 30) (b := j91) (by omega) (by omega)).mpr q9)
        refine lv_aload_n hx hb dX11_layHand_8 rfl (lv_at hl 1 rfl) ?_
        refine va_get (D := D) (ci := 11) (v := .ref ha) (C := RX11) (T := TX11) (N := 18) hx hb hts iw11 hown hK hP 0 rfl rfl 6 (by decide) fw1 (fun _ h9 => h9) rfl dX11_layHand_9 ?_
        refine lv_iload_n hx hb dX11_layHand_12 rfl (lv_at hl 0 rfl) ?_
        refine lv_aload_n hx hb dX11_layHand_13 rfl (lv_at hl 1 rfl) ?_
        refine va_get (D := D) (ci := 11) (v := .ref to) (C := RX11) (T := TX11) (N := 18) hx hb hts iw11 hown hK hP 0 rfl rfl 0 (by decide) fw2 (fun _ h9 => h9) rfl dX11_layHand_14 ?_
        refine lv_iload_n hx hb dX11_layHand_17 rfl (lv_at hl 0 rfl) ?_
        refine va_iald hx hb hK hP 1 0 rfl rfl (vp_in_nI (by omega) (by decide)) dX11_layHand_18 ?_
        rw [nI_clamp (n := j91) (by omega)]
        refine va_iast hx hb hK hP hD hS 2 0 rfl rfl (vp_in_nI (by omega) (by decide)) dX11_layHand_19 (fun H locs hP hD hS => ?_)
        rw [nI_clamp (n := j91) (by omega)] at hP hD
        have hr11 : kr_t 30 (upd x4 j91 (ft j91)) := kr_up hr_x4 (kr_move (p := j91) (hkt j91 (by omega)) (by unfold kr_a; omega) (by unfold kr_s; omega))
        have hP : va_P D vwCl [(mo, .inr (11, [.ref to, .ref ke, .ref ik, .ref mrf, .long mab, .long mbl, .ref ha, .ref r0, .ref mbr, .ref mbp, .ref mby, .int (nI bl), .int (nI ta), .int (nI tl), .int (nI tk), .int vv, .ref an, .ref va])), (to, .inl (y 0, 228, .inl ft)), (ha, .inl (y 0, 30, .inl (upd x4 j91 (ft j91))))] H := hP
        have hD : va_D A [(mo, .inr (11, [.ref to, .ref ke, .ref ik, .ref mrf, .long mab, .long mbl, .ref ha, .ref r0, .ref mbr, .ref mbp, .ref mby, .int (nI bl), .int (nI ta), .int (nI tl), .int (nI tk), .int vv, .ref an, .ref va])), (to, .inl (y 0, 228, .inl ft)), (ha, .inl (y 0, 30, .inl (upd x4 j91 (ft j91))))] := hD
        refine lv_iinc (v := (nI (j91 + 1))) (lv' := [(1, .int (nI (j91 + 1))), (0, .ref mo)]) hx hb dX11_layHand_20 hl (k := 0) rfl (nI_1 j91) (by decide) rfl (fun ls hl => ?_)
        refine lv_goto (tgt := 2) hx hb dX11_layHand_23 (by decide) ?_
        exact ihj91 (j91 + 1) (upd x4 j91 (ft j91)) H locs ls (by omega) (by omega) hr11 (by rw [hI0_j91]; exact kr_cpS) (hP.sub [0, 1, 2] rfl) (hD.sub [0, 1, 2] (by decide) rfl) hS (lv_sub hl [0, 1] rfl)
  exact lp8 (30 + 1) 0 fh _ _ _ (by omega) (by omega) hkh kr_cp0 hP hD hS (lv_sub hl [0, 1] rfl)

set_option maxHeartbeats 4000000 in
set_option maxRecDepth 100000 in
theorem gr_seenOn228 (l : Launch) (D : va_G) (y : Nat → ClassId) (to : Nat) (ft : Nat → Int32) (fi : Nat) (gl : Nat) (mi : Nat) (no : Nat) (un : Nat) (k : Nat) (t : Int32) (hk0_ : ft 0 = (nI fi)) (hk1_ : ft 1 = (nI gl)) (hk2_ : ft 2 = (nI mi)) (hk3_ : ft 3 = (nI no)) (hk4_ : ft 4 = (nI un)) (hkt : kr_t 228 ft) (hfi : fi ≤ 6) (hgl : gl ≤ 5) (hmi : mi ≤ 4) (hno : no ≤ 6) (hun : un ≤ 8) (hA1 : k < 6) : kw_Mi l yX11_seenOn wsX11_seenOn ({ frames := 4, cells := 0, slots := 0, locals := 129 }) D y [.ref to, .int (nI k), .int t] [(to, .inl (y 0, 228, .inl ft))] (fun (r : Int32) (u : Unit) => True) (fun _ => [(to, .inl (y 0, 228, .inl ft))]) 0 0 := by
  refine kw_Mi.of (cc := cX11_seenOn) (maxL := 3) (ret := (some .int)) (by decide) rfl ?_
  intro pZ eZ s mZ beZ meZ cZ A hE
  obtain ⟨hx, hb, hr, hml, hts, hown, hlocks, hin, hA, hP, hD, hK, hN⟩ := hE
  have hS : va_S A s.heap s.heap [] := va_S.rf
  have hl := lv_entry ([.ref to, .int (nI k), .int t]) (n := 3) (Nat.le_of_ble_eq_true rfl)
  rw [lg_entry_eq]
  generalize (lg_sl ([.ref to, .int (nI k), .int t]) ++ List.replicate (3 - (lg_sl ([.ref to, .int (nI k), .int t])).length) Slot.unset).toArray = ls at hl ⊢
  have hl : lv_has ls 3 [(0, .ref to), (1, .int (nI k)), (2, .int t)] := hl
  refine lv_iload_n hx hb dX11_seenOn_0 rfl (lv_at hl 2 rfl) ?_
  refine lv_bipush (v := 12) hx hb dX11_seenOn_1 (by decide) ?_
  refine lv_icmp_lt (tgt := 10) hx hb dX11_seenOn_3 (by decide) (fun h1 => ?_) (fun h2 => ?_)
  · skip
    refine lv_aload_n hx hb dX11_seenOn_10 rfl (lv_at hl 0 rfl) ?_
    refine lv_bipush (v := 24) hx hb dX11_seenOn_11 (by decide) ?_
    refine lv_iload_n hx hb dX11_seenOn_13 rfl (lv_at hl 1 rfl) ?_
    refine lv_iadd hx hb dX11_seenOn_14 ?_
    rw [show 24 + (nI k) = nI (k + 24) from (nI_add 24 k).trans (congrArg nI (by omega))]
    refine va_iald hx hb hK hP 0 0 rfl rfl (vp_in_nI (by omega) (by decide)) dX11_seenOn_15 ?_
    rw [nI_clamp (n := (k + 24)) (by omega)]
    refine lv_aload_n hx hb dX11_seenOn_16 rfl (lv_at hl 0 rfl) ?_
    refine lv_iconst (v := 5) hx hb dX11_seenOn_17 (by decide) ?_
    refine lv_iload_n hx hb dX11_seenOn_18 rfl (lv_at hl 1 rfl) ?_
    refine lv_iadd hx hb dX11_seenOn_19 ?_
    rw [show 5 + (nI k) = nI (k + 5) from (nI_add 5 k).trans (congrArg nI (by omega))]
    refine va_iald hx hb hK hP 0 0 rfl rfl (vp_in_nI (by omega) (by decide)) dX11_seenOn_20 ?_
    rw [nI_clamp (n := (k + 5)) (by omega)]
    refine lv_iload_n hx hb dX11_seenOn_21 rfl (lv_at hl 2 rfl) ?_
    refine lv_aload_n hx hb dX11_seenOn_22 rfl (lv_at hl 0 rfl) ?_
    refine lv_bipush (v := 22) hx hb dX11_seenOn_23 (by decide) ?_
    refine va_iald hx hb hK hP 0 0 rfl rfl (by unfold vp_in; decide) dX11_seenOn_25 ?_
    rw [show ((22 : Int32)).toNatClampNeg = 22 from rfl]
    have hs3 : kw_Split [(to, .inl (y 0, 228, .inl ft))] [] [(to, .inl (y 0, 228, .inl ft))] [] [0] := ⟨rfl, rfl, rfl, rfl, rfl, by decide⟩
    refine kw_go_i hs3 hP hD hS hA (va_runS (As := [.int (ft (k + 24)), .int (ft (k + 5)), .int t, .int (ft 22)]) (rest := []) ⟨hx, hb, hml, hown, hts⟩ (gr_seenAs l D y (ft (k + 24)) (ft (k + 5)) t (ft 22)  _) (va_cwS 4 hts gX11_seenOn_X11_seenAs rfl rfl rfl (by decide +kernel) ⟨Nat.le_of_ble_eq_true rfl, Nat.le_of_ble_eq_true rfl⟩) (kw_PreS hs3 hP hD hK hN) rfl rfl hl.1 rfl (lv_room (Nat.le_of_ble_eq_true rfl)) dX11_seenOn_26 ⟨Nat.le_of_ble_eq_true rfl, Nat.le_of_ble_eq_true rfl⟩) (fun r4 u5 H locs hq hP hD hS => ?_)
    have hP : va_P D vwCl [(to, .inl (y 0, 228, .inl ft))] H := hP
    have hD : va_D A [(to, .inl (y 0, 228, .inl ft))] := hD
    exact W.iret (v := r4) hx hb hr (fun tZ ht hW => ⟨⟨r4, (), rfl, trivial, by rw [ht]; exact hP.sub [0] rfl, hD.sub [0] (by decide) rfl⟩, hS.F ht⟩) hS.2.2 dX11_seenOn_29
  · skip
    refine lv_iconst (v := 0) hx hb dX11_seenOn_6 (by decide) ?_
    refine lv_goto (tgt := 29) hx hb dX11_seenOn_7 (by decide) ?_
    exact W.iret (v := 0) hx hb hr (fun tZ ht hW => ⟨⟨0, (), rfl, trivial, by rw [ht]; exact hP.sub [0] rfl, hD.sub [0] (by decide) rfl⟩, hS.F ht⟩) hS.2.2 dX11_seenOn_29

set_option maxHeartbeats 4000000 in
set_option maxRecDepth 100000 in
theorem gr_manyOn228 (l : Launch) (D : va_G) (y : Nat → ClassId) (to : Nat) (ft : Nat → Int32) (fi : Nat) (gl : Nat) (mi : Nat) (no : Nat) (un : Nat) (x : Int32) (hk0_ : ft 0 = (nI fi)) (hk1_ : ft 1 = (nI gl)) (hk2_ : ft 2 = (nI mi)) (hk3_ : ft 3 = (nI no)) (hk4_ : ft 4 = (nI un)) (hkt : kr_t 228 ft) (hfi : fi ≤ 6) (hgl : gl ≤ 5) (hmi : mi ≤ 4) (hno : no ≤ 6) (hun : un ≤ 8) : kw_Mi l yX11_manyOn wsX11_manyOn ({ frames := 1, cells := 0, slots := 0, locals := 60 }) D y [.ref to, .int x] [(to, .inl (y 0, 228, .inl ft))] (fun (r : Int32) (u : Unit) => True) (fun _ => [(to, .inl (y 0, 228, .inl ft))]) 0 0 := by
  refine kw_Mi.of (cc := cX11_manyOn) (maxL := 4) (ret := (some .int)) (by decide) rfl ?_
  intro pZ eZ s mZ beZ meZ cZ A hE
  obtain ⟨hx, hb, hr, hml, hts, hown, hlocks, hin, hA, hP, hD, hK, hN⟩ := hE
  have hS : va_S A s.heap s.heap [] := va_S.rf
  have hl := lv_entry ([.ref to, .int x]) (n := 4) (Nat.le_of_ble_eq_true rfl)
  rw [lg_entry_eq]
  generalize (lg_sl ([.ref to, .int x]) ++ List.replicate (4 - (lg_sl ([.ref to, .int x])).length) Slot.unset).toArray = ls at hl ⊢
  have hl : lv_has ls 4 [(0, .ref to), (1, .int x)] := hl
  refine lv_iconst (v := 0) hx hb dX11_manyOn_0 (by decide) ?_
  refine lv_istore_n (lv' := [(2, .int 0), (0, .ref to), (1, .int x)]) hx hb dX11_manyOn_1 rfl hl (by decide) rfl (fun ls hl => ?_)
  refine lv_iconst (v := 0) hx hb dX11_manyOn_2 (by decide) ?_
  refine lv_istore_n (lv' := [(3, .int 0), (2, .int 0), (0, .ref to), (1, .int x)]) hx hb dX11_manyOn_3 rfl hl (by decide) rfl (fun ls hl => ?_)
  have lp18 : ∀ (fuj91 j91 : Nat) (x10 : Int32) (H : Heap) (locs : List Loc) (ls : Array Slot), j91 ≤ gl → gl - j91 < fuj91 → va_P D vwCl [(to, .inl (y 0, 228, .inl ft))] H → va_D A [(to, .inl (y 0, 228, .inl ft))] → va_S A s.heap H locs → lv_has ls 4 [(3, .int (nI j91)), (2, .int x10), (0, .ref to), (1, .int x)] → W pZ l eZ ({ frames := 1, cells := 0, slots := 0, locals := 60 }) s mZ [.ref to, .int x].toArray beZ meZ cZ H locs 0 0 (MQ beZ (va_Qi (fun (r : Int32) (u : Unit) => True) (kw_B D (fun _ => [(to, .inl (y 0, 228, .inl ft))]) A) A) [.ref to, .int x].toArray s 0 0 A) (F0 mZ 4 ls []) := by
    intro fuj91
    induction fuj91 with
    | zero => intro j91 x10 H locs ls hj9 hf9; exact absurd hf9 (Nat.not_lt_zero _)
    | succ fuj91 ihj91 =>
      intro j91 x10 H locs ls hj91 hfj91  hP hD hS hl
      refine lv_iload_n hx hb dX11_manyOn_4 rfl (lv_at hl 0 rfl) ?_
      refine lv_aload_n hx hb dX11_manyOn_5 rfl (lv_at hl 2 rfl) ?_
      refine lv_iconst (v := 1) hx hb dX11_manyOn_6 (by decide) ?_
      refine va_iald hx hb hK hP 0 0 rfl rfl (by unfold vp_in; decide) dX11_manyOn_7 ?_
      rw [show ((1 : Int32)).toNatClampNeg = 1 from rfl]
      rw [show (ft 1) = (nI gl) from hk1_]
      refine lv_icmp_ge (tgt := 35) hx hb dX11_manyOn_8 (by decide) (fun h19 => ?_) (fun h20 => ?_)
      · skip
        have h19 : gl ≤ j91 := (nI_leI (a := gl) (b := j91) (by omega) (by omega)).mp h19
        refine lv_iload_n hx hb dX11_manyOn_35 rfl (lv_at hl 1 rfl) ?_
        exact W.iret (v := x10) hx hb hr (fun tZ ht hW => ⟨⟨x10, (), rfl, trivial, by rw [ht]; exact hP.sub [0] rfl, hD.sub [0] (by decide) rfl⟩, hS.F ht⟩) hS.2.2 dX11_manyOn_36
      · skip
        have h20 : ¬ gl ≤ j91 := fun q9 => h20 ((nI_leI (a := gl) (b := j91) (by omega) (by omega)).mpr q9)
        refine lv_iload_n hx hb dX11_manyOn_11 rfl (lv_at hl 1 rfl) ?_
        refine lv_aload_n hx hb dX11_manyOn_12 rfl (lv_at hl 2 rfl) ?_
        refine lv_bipush (v := 11) hx hb dX11_manyOn_13 (by decide) ?_
        refine lv_iload_n hx hb dX11_manyOn_15 rfl (lv_at hl 0 rfl) ?_
        refine lv_iadd hx hb dX11_manyOn_16 ?_
        rw [show 11 + (nI j91) = nI (j91 + 11) from (nI_add 11 j91).trans (congrArg nI (by omega))]
        refine va_iald hx hb hK hP 0 0 rfl rfl (vp_in_nI (by omega) (by decide)) dX11_manyOn_17 ?_
        rw [nI_clamp (n := (j91 + 11)) (by omega)]
        obtain ⟨w21, h22, h23⟩ := kr_at hkt (p := (j91 + 11)) (by omega) (by unfold kr_a; omega)
        rw [h23]
        refine lv_iload_n hx hb dX11_manyOn_18 rfl (lv_at hl 3 rfl) ?_
        refine lv_icmp_ne (tgt := 26) hx hb dX11_manyOn_19 (by decide) (fun h24 => ?_) (fun h25 => ?_)
        · skip
          refine lv_iconst (v := 0) hx hb dX11_manyOn_26 (by decide) ?_
          refine lv_iadd hx hb dX11_manyOn_27 ?_
          refine lv_istore_n (lv' := [(2, .int (x10 + 0)), (3, .int (nI j91)), (0, .ref to), (1, .int x)]) hx hb dX11_manyOn_28 rfl hl (by decide) rfl (fun ls hl => ?_)
          refine lv_iinc (v := (nI (j91 + 1))) (lv' := [(3, .int (nI (j91 + 1))), (2, .int (x10 + 0)), (0, .ref to), (1, .int x)]) hx hb dX11_manyOn_29 hl (k := 1) rfl (nI_1 j91) (by decide) rfl (fun ls hl => ?_)
          refine lv_goto (tgt := 4) hx hb dX11_manyOn_32 (by decide) ?_
          exact ihj91 (j91 + 1) (x10 + 0) H locs ls (by omega) (by omega)  (hP.sub [0] rfl) (hD.sub [0] (by decide) rfl) hS (lv_sub hl [0, 1, 2, 3] rfl)
        · skip
          refine lv_iconst (v := 1) hx hb dX11_manyOn_22 (by decide) ?_
          refine lv_goto (tgt := 27) hx hb dX11_manyOn_23 (by decide) ?_
          refine lv_iadd hx hb dX11_manyOn_27 ?_
          refine lv_istore_n (lv' := [(2, .int (x10 + 1)), (3, .int (nI j91)), (0, .ref to), (1, .int x)]) hx hb dX11_manyOn_28 rfl hl (by decide) rfl (fun ls hl => ?_)
          refine lv_iinc (v := (nI (j91 + 1))) (lv' := [(3, .int (nI (j91 + 1))), (2, .int (x10 + 1)), (0, .ref to), (1, .int x)]) hx hb dX11_manyOn_29 hl (k := 1) rfl (nI_1 j91) (by decide) rfl (fun ls hl => ?_)
          refine lv_goto (tgt := 4) hx hb dX11_manyOn_32 (by decide) ?_
          exact ihj91 (j91 + 1) (x10 + 1) H locs ls (by omega) (by omega)  (hP.sub [0] rfl) (hD.sub [0] (by decide) rfl) hS (lv_sub hl [0, 1, 2, 3] rfl)
  exact lp18 (gl + 1) 0 0 _ _ _ (by omega) (by omega)  hP hD hS (lv_sub hl [0, 1, 2, 3] rfl)

set_option maxHeartbeats 4000000 in
set_option maxRecDepth 100000 in
theorem gr_seenOn30 (l : Launch) (D : va_G) (y : Nat → ClassId) (to : Nat) (ft : Nat → Int32) (fi : Nat) (gl : Nat) (k : Nat) (t : Int32) (hk0_ : ft 0 = (nI fi)) (hk1_ : ft 1 = (nI gl)) (hkt : kr_t 30 ft) (hfi : fi ≤ 6) (hgl : gl ≤ 5) (hA1 : k < 6) : kw_Mi l yX11_seenOn wsX11_seenOn ({ frames := 4, cells := 0, slots := 0, locals := 129 }) D y [.ref to, .int (nI k), .int t] [(to, .inl (y 0, 30, .inl ft))] (fun (r : Int32) (u : Unit) => True) (fun _ => [(to, .inl (y 0, 30, .inl ft))]) 0 0 := by
  refine kw_Mi.of (cc := cX11_seenOn) (maxL := 3) (ret := (some .int)) (by decide) rfl ?_
  intro pZ eZ s mZ beZ meZ cZ A hE
  obtain ⟨hx, hb, hr, hml, hts, hown, hlocks, hin, hA, hP, hD, hK, hN⟩ := hE
  have hS : va_S A s.heap s.heap [] := va_S.rf
  have hl := lv_entry ([.ref to, .int (nI k), .int t]) (n := 3) (Nat.le_of_ble_eq_true rfl)
  rw [lg_entry_eq]
  generalize (lg_sl ([.ref to, .int (nI k), .int t]) ++ List.replicate (3 - (lg_sl ([.ref to, .int (nI k), .int t])).length) Slot.unset).toArray = ls at hl ⊢
  have hl : lv_has ls 3 [(0, .ref to), (1, .int (nI k)), (2, .int t)] := hl
  refine lv_iload_n hx hb dX11_seenOn_0 rfl (lv_at hl 2 rfl) ?_
  refine lv_bipush (v := 12) hx hb dX11_seenOn_1 (by decide) ?_
  refine lv_icmp_lt (tgt := 10) hx hb dX11_seenOn_3 (by decide) (fun h1 => ?_) (fun h2 => ?_)
  · skip
    refine lv_aload_n hx hb dX11_seenOn_10 rfl (lv_at hl 0 rfl) ?_
    refine lv_bipush (v := 24) hx hb dX11_seenOn_11 (by decide) ?_
    refine lv_iload_n hx hb dX11_seenOn_13 rfl (lv_at hl 1 rfl) ?_
    refine lv_iadd hx hb dX11_seenOn_14 ?_
    rw [show 24 + (nI k) = nI (k + 24) from (nI_add 24 k).trans (congrArg nI (by omega))]
    refine va_iald hx hb hK hP 0 0 rfl rfl (vp_in_nI (by omega) (by decide)) dX11_seenOn_15 ?_
    rw [nI_clamp (n := (k + 24)) (by omega)]
    refine lv_aload_n hx hb dX11_seenOn_16 rfl (lv_at hl 0 rfl) ?_
    refine lv_iconst (v := 5) hx hb dX11_seenOn_17 (by decide) ?_
    refine lv_iload_n hx hb dX11_seenOn_18 rfl (lv_at hl 1 rfl) ?_
    refine lv_iadd hx hb dX11_seenOn_19 ?_
    rw [show 5 + (nI k) = nI (k + 5) from (nI_add 5 k).trans (congrArg nI (by omega))]
    refine va_iald hx hb hK hP 0 0 rfl rfl (vp_in_nI (by omega) (by decide)) dX11_seenOn_20 ?_
    rw [nI_clamp (n := (k + 5)) (by omega)]
    refine lv_iload_n hx hb dX11_seenOn_21 rfl (lv_at hl 2 rfl) ?_
    refine lv_aload_n hx hb dX11_seenOn_22 rfl (lv_at hl 0 rfl) ?_
    refine lv_bipush (v := 22) hx hb dX11_seenOn_23 (by decide) ?_
    refine va_iald hx hb hK hP 0 0 rfl rfl (by unfold vp_in; decide) dX11_seenOn_25 ?_
    rw [show ((22 : Int32)).toNatClampNeg = 22 from rfl]
    have hs3 : kw_Split [(to, .inl (y 0, 30, .inl ft))] [] [(to, .inl (y 0, 30, .inl ft))] [] [0] := ⟨rfl, rfl, rfl, rfl, rfl, by decide⟩
    refine kw_go_i hs3 hP hD hS hA (va_runS (As := [.int (ft (k + 24)), .int (ft (k + 5)), .int t, .int (ft 22)]) (rest := []) ⟨hx, hb, hml, hown, hts⟩ (gr_seenAs l D y (ft (k + 24)) (ft (k + 5)) t (ft 22)  _) (va_cwS 4 hts gX11_seenOn_X11_seenAs rfl rfl rfl (by decide +kernel) ⟨Nat.le_of_ble_eq_true rfl, Nat.le_of_ble_eq_true rfl⟩) (kw_PreS hs3 hP hD hK hN) rfl rfl hl.1 rfl (lv_room (Nat.le_of_ble_eq_true rfl)) dX11_seenOn_26 ⟨Nat.le_of_ble_eq_true rfl, Nat.le_of_ble_eq_true rfl⟩) (fun r4 u5 H locs hq hP hD hS => ?_)
    have hP : va_P D vwCl [(to, .inl (y 0, 30, .inl ft))] H := hP
    have hD : va_D A [(to, .inl (y 0, 30, .inl ft))] := hD
    exact W.iret (v := r4) hx hb hr (fun tZ ht hW => ⟨⟨r4, (), rfl, trivial, by rw [ht]; exact hP.sub [0] rfl, hD.sub [0] (by decide) rfl⟩, hS.F ht⟩) hS.2.2 dX11_seenOn_29
  · skip
    refine lv_iconst (v := 0) hx hb dX11_seenOn_6 (by decide) ?_
    refine lv_goto (tgt := 29) hx hb dX11_seenOn_7 (by decide) ?_
    exact W.iret (v := 0) hx hb hr (fun tZ ht hW => ⟨⟨0, (), rfl, trivial, by rw [ht]; exact hP.sub [0] rfl, hD.sub [0] (by decide) rfl⟩, hS.F ht⟩) hS.2.2 dX11_seenOn_29

set_option maxHeartbeats 4000000 in
set_option maxRecDepth 100000 in
theorem gr_manyOn30 (l : Launch) (D : va_G) (y : Nat → ClassId) (to : Nat) (ft : Nat → Int32) (fi : Nat) (gl : Nat) (x : Int32) (hk0_ : ft 0 = (nI fi)) (hk1_ : ft 1 = (nI gl)) (hkt : kr_t 30 ft) (hfi : fi ≤ 6) (hgl : gl ≤ 5) : kw_Mi l yX11_manyOn wsX11_manyOn ({ frames := 1, cells := 0, slots := 0, locals := 60 }) D y [.ref to, .int x] [(to, .inl (y 0, 30, .inl ft))] (fun (r : Int32) (u : Unit) => True) (fun _ => [(to, .inl (y 0, 30, .inl ft))]) 0 0 := by
  refine kw_Mi.of (cc := cX11_manyOn) (maxL := 4) (ret := (some .int)) (by decide) rfl ?_
  intro pZ eZ s mZ beZ meZ cZ A hE
  obtain ⟨hx, hb, hr, hml, hts, hown, hlocks, hin, hA, hP, hD, hK, hN⟩ := hE
  have hS : va_S A s.heap s.heap [] := va_S.rf
  have hl := lv_entry ([.ref to, .int x]) (n := 4) (Nat.le_of_ble_eq_true rfl)
  rw [lg_entry_eq]
  generalize (lg_sl ([.ref to, .int x]) ++ List.replicate (4 - (lg_sl ([.ref to, .int x])).length) Slot.unset).toArray = ls at hl ⊢
  have hl : lv_has ls 4 [(0, .ref to), (1, .int x)] := hl
  refine lv_iconst (v := 0) hx hb dX11_manyOn_0 (by decide) ?_
  refine lv_istore_n (lv' := [(2, .int 0), (0, .ref to), (1, .int x)]) hx hb dX11_manyOn_1 rfl hl (by decide) rfl (fun ls hl => ?_)
  refine lv_iconst (v := 0) hx hb dX11_manyOn_2 (by decide) ?_
  refine lv_istore_n (lv' := [(3, .int 0), (2, .int 0), (0, .ref to), (1, .int x)]) hx hb dX11_manyOn_3 rfl hl (by decide) rfl (fun ls hl => ?_)
  have lp18 : ∀ (fuj91 j91 : Nat) (x10 : Int32) (H : Heap) (locs : List Loc) (ls : Array Slot), j91 ≤ gl → gl - j91 < fuj91 → va_P D vwCl [(to, .inl (y 0, 30, .inl ft))] H → va_D A [(to, .inl (y 0, 30, .inl ft))] → va_S A s.heap H locs → lv_has ls 4 [(3, .int (nI j91)), (2, .int x10), (0, .ref to), (1, .int x)] → W pZ l eZ ({ frames := 1, cells := 0, slots := 0, locals := 60 }) s mZ [.ref to, .int x].toArray beZ meZ cZ H locs 0 0 (MQ beZ (va_Qi (fun (r : Int32) (u : Unit) => True) (kw_B D (fun _ => [(to, .inl (y 0, 30, .inl ft))]) A) A) [.ref to, .int x].toArray s 0 0 A) (F0 mZ 4 ls []) := by
    intro fuj91
    induction fuj91 with
    | zero => intro j91 x10 H locs ls hj9 hf9; exact absurd hf9 (Nat.not_lt_zero _)
    | succ fuj91 ihj91 =>
      intro j91 x10 H locs ls hj91 hfj91  hP hD hS hl
      refine lv_iload_n hx hb dX11_manyOn_4 rfl (lv_at hl 0 rfl) ?_
      refine lv_aload_n hx hb dX11_manyOn_5 rfl (lv_at hl 2 rfl) ?_
      refine lv_iconst (v := 1) hx hb dX11_manyOn_6 (by decide) ?_
      refine va_iald hx hb hK hP 0 0 rfl rfl (by unfold vp_in; decide) dX11_manyOn_7 ?_
      rw [show ((1 : Int32)).toNatClampNeg = 1 from rfl]
      rw [show (ft 1) = (nI gl) from hk1_]
      refine lv_icmp_ge (tgt := 35) hx hb dX11_manyOn_8 (by decide) (fun h19 => ?_) (fun h20 => ?_)
      · skip
        have h19 : gl ≤ j91 := (nI_leI (a := gl) (b := j91) (by omega) (by omega)).mp h19
        refine lv_iload_n hx hb dX11_manyOn_35 rfl (lv_at hl 1 rfl) ?_
        exact W.iret (v := x10) hx hb hr (fun tZ ht hW => ⟨⟨x10, (), rfl, trivial, by rw [ht]; exact hP.sub [0] rfl, hD.sub [0] (by decide) rfl⟩, hS.F ht⟩) hS.2.2 dX11_manyOn_36
      · skip
        have h20 : ¬ gl ≤ j91 := fun q9 => h20 ((nI_leI (a := gl) (b := j91) (by omega) (by omega)).mpr q9)
        refine lv_iload_n hx hb dX11_manyOn_11 rfl (lv_at hl 1 rfl) ?_
        refine lv_aload_n hx hb dX11_manyOn_12 rfl (lv_at hl 2 rfl) ?_
        refine lv_bipush (v := 11) hx hb dX11_manyOn_13 (by decide) ?_
        refine lv_iload_n hx hb dX11_manyOn_15 rfl (lv_at hl 0 rfl) ?_
        refine lv_iadd hx hb dX11_manyOn_16 ?_
        rw [show 11 + (nI j91) = nI (j91 + 11) from (nI_add 11 j91).trans (congrArg nI (by omega))]
        refine va_iald hx hb hK hP 0 0 rfl rfl (vp_in_nI (by omega) (by decide)) dX11_manyOn_17 ?_
        rw [nI_clamp (n := (j91 + 11)) (by omega)]
        obtain ⟨w21, h22, h23⟩ := kr_at hkt (p := (j91 + 11)) (by omega) (by unfold kr_a; omega)
        rw [h23]
        refine lv_iload_n hx hb dX11_manyOn_18 rfl (lv_at hl 3 rfl) ?_
        refine lv_icmp_ne (tgt := 26) hx hb dX11_manyOn_19 (by decide) (fun h24 => ?_) (fun h25 => ?_)
        · skip
          refine lv_iconst (v := 0) hx hb dX11_manyOn_26 (by decide) ?_
          refine lv_iadd hx hb dX11_manyOn_27 ?_
          refine lv_istore_n (lv' := [(2, .int (x10 + 0)), (3, .int (nI j91)), (0, .ref to), (1, .int x)]) hx hb dX11_manyOn_28 rfl hl (by decide) rfl (fun ls hl => ?_)
          refine lv_iinc (v := (nI (j91 + 1))) (lv' := [(3, .int (nI (j91 + 1))), (2, .int (x10 + 0)), (0, .ref to), (1, .int x)]) hx hb dX11_manyOn_29 hl (k := 1) rfl (nI_1 j91) (by decide) rfl (fun ls hl => ?_)
          refine lv_goto (tgt := 4) hx hb dX11_manyOn_32 (by decide) ?_
          exact ihj91 (j91 + 1) (x10 + 0) H locs ls (by omega) (by omega)  (hP.sub [0] rfl) (hD.sub [0] (by decide) rfl) hS (lv_sub hl [0, 1, 2, 3] rfl)
        · skip
          refine lv_iconst (v := 1) hx hb dX11_manyOn_22 (by decide) ?_
          refine lv_goto (tgt := 27) hx hb dX11_manyOn_23 (by decide) ?_
          refine lv_iadd hx hb dX11_manyOn_27 ?_
          refine lv_istore_n (lv' := [(2, .int (x10 + 1)), (3, .int (nI j91)), (0, .ref to), (1, .int x)]) hx hb dX11_manyOn_28 rfl hl (by decide) rfl (fun ls hl => ?_)
          refine lv_iinc (v := (nI (j91 + 1))) (lv' := [(3, .int (nI (j91 + 1))), (2, .int (x10 + 1)), (0, .ref to), (1, .int x)]) hx hb dX11_manyOn_29 hl (k := 1) rfl (nI_1 j91) (by decide) rfl (fun ls hl => ?_)
          refine lv_goto (tgt := 4) hx hb dX11_manyOn_32 (by decide) ?_
          exact ihj91 (j91 + 1) (x10 + 1) H locs ls (by omega) (by omega)  (hP.sub [0] rfl) (hD.sub [0] (by decide) rfl) hS (lv_sub hl [0, 1, 2, 3] rfl)
  exact lp18 (gl + 1) 0 0 _ _ _ (by omega) (by omega)  hP hD hS (lv_sub hl [0, 1, 2, 3] rfl)
