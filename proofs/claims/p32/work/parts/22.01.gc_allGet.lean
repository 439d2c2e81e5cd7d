set_option maxHeartbeats 4000000 in
set_option maxRecDepth 100000 in
theorem gc_allGet (l : Launch) (D : va_G) (y : Nat → ClassId) (g : Nat) (kk : Nat) (nw : Nat) (im : Nat) (kp : Nat) (tx : Nat) (tr : Nat) (be : Nat) (sh : Nat) (sd : Nat) (rf : Nat) (ab : Int32) (bl : Int32) (nk : Nat) (nd : Nat) (ne : Nat) (nm : Nat) (nn : Nat) (fi : Nat) (gl : Nat) (un : Nat) (mi : Nat) (no : Nat) (fsh : Nat → Int32) (fsd : Nat → Int32) (hfi : fi ≤ 6) (hgl : gl ≤ 5) (hun : un ≤ 8) (hmi : mi ≤ 4) (hno : no ≤ 6) : kw_Mi l yX10_allGet wsX10_allGet ({ frames := 1, cells := 0, slots := 0, locals := 60 }) D y [.ref g] [(g, .inr (10, [.ref kk, .ref nw, .ref im, .ref kp, .ref tx, .ref tr, .ref be, .ref sh, .ref sd, .ref rf, .int ab, .int bl])), (nw, .inr (4, [.ref kk, .ref nk, .ref nd, .ref ne, .ref nm, .ref nn, .int (nI fi), .int (nI gl), .int (nI un), .int (nI mi), .int (nI no)])), (sh, .inl (y 0, 6, .inl fsh)), (sd, .inl (y 0, 6, .inl fsd))] (fun (r : Int32) (u : Unit) => True) (fun _ => [(g, .inr (10, [.ref kk, .ref nw, .ref im, .ref kp, .ref tx, .ref tr, .ref be, .ref sh, .ref sd, .ref rf, .int ab, .int bl])), (nw, .inr (4, [.ref kk, .ref nk, .ref nd, .ref ne, .ref nm, .ref nn, .int (nI fi), .int (nI gl), .int (nI un), .int (nI mi), .int (nI no)])), (sh, .inl (y 0, 6, .inl fsh)), (sd, .inl (y 0, 6, .inl fsd))]) 0 0 := by
  refine kw_Mi.of (cc := cX10_allGet) (maxL := 3) (ret := (some .int)) (by decide) rfl ?_
  intro pZ eZ s mZ beZ meZ cZ A hE
  obtain ⟨hx, hb, hr, hml, hts, hown, hlocks, hin, hA, hP, hD, hK, hN⟩ := hE
  have hS : va_S A s.heap s.heap [] := va_S.rf
  have hl := lv_entry ([.ref g]) (n := 3) (Nat.le_of_ble_eq_true rfl)
  rw [lg_entry_eq]
  generalize (lg_sl ([.ref g]) ++ List.replicate (3 - (lg_sl ([.ref g])).length) Slot.unset).toArray = ls at hl ⊢
  have hl : lv_has ls 3 [(0, .ref g)] := hl
  have fw1 := hts (.fieldLink RX10 36 "GleanDusk" "now" "LGleanDusk$Parish;") (List.mem_of_getElem? (i := 1) rfl)
  have fw2 := hts (.fieldLink RX10 94 "GleanDusk$Parish" "fields" "I") (List.mem_of_getElem? (i := 2) rfl)
  have fw3 := hts (.fieldLink RX10 73 "GleanDusk" "standing" "[I") (List.mem_of_getElem? (i := 3) rfl)
  have fw4 := hts (.fieldLink RX10 69 "GleanDusk" "shown" "[I") (List.mem_of_getElem? (i := 4) rfl)
  have iw10 : ∀ w ∈ wsX100, w ∈ wsX10_allGet := fun _ h => List.mem_cons_of_mem _ (List.mem_append_left _ (List.mem_append_right _ h))
  have iw4 : ∀ w ∈ wsX40, w ∈ wsX10_allGet := fun _ h => List.mem_cons_of_mem _ (List.mem_append_right _ h)
  refine lv_iconst (v := 0) hx hb dX10_allGet_0 (by decide) ?_
  refine lv_istore_n (lv' := [(1, .int 0), (0, .ref g)]) hx hb dX10_allGet_1 rfl hl (by decide) rfl (fun ls hl => ?_)
  refine lv_iconst (v := 0) hx hb dX10_allGet_2 (by decide) ?_
  refine lv_istore_n (lv' := [(2, .int 0), (1, .int 0), (0, .ref g)]) hx hb dX10_allGet_3 rfl hl (by decide) rfl (fun ls hl => ?_)
  have lp10 : ∀ (fuj91 j91 : Nat) (x5 : Int32) (H : Heap) (locs : List Loc) (ls : Array Slot), j91 ≤ fi → fi - j91 < fuj91 → va_P D vwCl [(g, .inr (10, [.ref kk, .ref nw, .ref im, .ref kp, .ref tx, .ref tr, .ref be, .ref sh, .ref sd, .ref rf, .int ab, .int bl])), (nw, .inr (4, [.ref kk, .ref nk, .ref nd, .ref ne, .ref nm, .ref nn, .int (nI fi), .int (nI gl), .int (nI un), .int (nI mi), .int (nI no)])), (sh, .inl (y 0, 6, .inl fsh)), (sd, .inl (y 0, 6, .inl fsd))] H → va_D A [(g, .inr (10, [.ref kk, .ref nw, .ref im, .ref kp, .ref tx, .ref tr, .ref be, .ref sh, .ref sd, .ref rf, .int ab, .int bl])), (nw, .inr (4, [.ref kk, .ref nk, .ref nd, .ref ne, .ref nm, .ref nn, .int (nI fi), .int (nI gl), .int (nI un), .int (nI mi), .int (nI no)])), (sh, .inl (y 0, 6, .inl fsh)), (sd, .inl (y 0, 6, .inl fsd))] → va_S A s.heap H locs → lv_has ls 3 [(2, .int (nI j91)), (1, .int x5), (0, .ref g)] → W pZ l eZ ({ frames := 1, cells := 0, slots := 0, locals := 60 }) s mZ [.ref g].toArray beZ meZ cZ H locs 0 0 (MQ beZ (va_Qi (fun (r : Int32) (u : Unit) => True) (kw_B D (fun _ => [(g, .inr (10, [.ref kk, .ref nw, .ref im, .ref kp, .ref tx, .ref tr, .ref be, .ref sh, .ref sd, .ref rf, .int ab, .int bl])), (nw, .inr (4, [.ref kk, .ref nk, .ref nd, .ref ne, .ref nm, .ref nn, .int (nI fi), .int (nI gl), .int (nI un), .int (nI mi), .int (nI no)])), (sh, .inl (y 0, 6, .inl fsh)), (sd, .inl (y 0, 6, .inl fsd))]) A) A) [.ref g].toArray s 0 0 A) (F0 mZ 4 ls []) := by
    intro fuj91
    induction fuj91 with
    | zero => intro j91 x5 H locs ls hj9 hf9; exact absurd hf9 (Nat.not_lt_zero _)
    | succ fuj91 ihj91 =>
      intro j91 x5 H locs ls hj91 hfj91  hP hD hS hl
      refine lv_iload_n hx hb dX10_allGet_4 rfl (lv_at hl 0 rfl) ?_
      refine lv_aload_n hx hb dX10_allGet_5 rfl (lv_at hl 2 rfl) ?_
      refine va_get (D := D) (ci := 10) (v := .ref nw) (C := RX10) (T := TX10) (N := 12) hx hb hts iw10 hown hK hP 0 rfl rfl 1 (by decide) fw1 (fun _ h9 => h9) rfl dX10_allGet_6 ?_
      refine va_get (D := D) (ci := 4) (v := .int (nI fi)) (C := RX4) (T := TX4) (N := 11) hx hb hts iw4 hown hK hP 1 rfl rfl 6 (by decide) fw2 (fun _ h9 => h9) rfl dX10_allGet_9 ?_
      refine lv_icmp_ge (tgt := 53) hx hb dX10_allGet_12 (by decide) (fun h11 => ?_) (fun h12 => ?_)
      · skip
        have h11 : fi ≤ j91 := (nI_leI (a := fi) (b := j91) (by omega) (by omega)).mp h11
        refine lv_iload_n hx hb dX10_allGet_53 rfl (lv_at hl 1 rfl) ?_
        exact W.iret (v := x5) hx hb hr (fun tZ ht hW => ⟨⟨x5, (), rfl, trivial, by rw [ht]; exact hP.sub [0, 1, 2, 3] rfl, hD.sub [0, 1, 2, 3] (by decide) rfl⟩, hS.F ht⟩) hS.2.2 dX10_allGet_54
      · skip
        have h12 : ¬ fi ≤ j91 := fun q9 => h12 ((nI_leI (a := fi) (b := j91) (by omega) (by omega)).mpr q9)
        refine lv_aload_n hx hb dX10_allGet_15 rfl (lv_at hl 2 rfl) ?_
        refine va_get (D := D) (ci := 10) (v := .ref sd) (C := RX10) (T := TX10) (N := 12) hx hb hts iw10 hown hK hP 0 rfl rfl 8 (by decide) fw3 (fun _ h9 => h9) rfl dX10_allGet_16 ?_
        refine lv_iload_n hx hb dX10_allGet_19 rfl (lv_at hl 0 rfl) ?_
        refine va_iald hx hb hK hP 3 0 rfl rfl (vp_in_nI (by omega) (by decide)) dX10_allGet_20 ?_
        rw [nI_clamp (n := j91) (by omega)]
        refine lv_if_le (tgt := 47) hx hb dX10_allGet_21 (by decide) (fun h13 => ?_) (fun h14 => ?_)
        · skip
          refine lv_iinc (v := (nI (j91 + 1))) (lv' := [(2, .int (nI (j91 + 1))), (1, .int x5), (0, .ref g)]) hx hb dX10_allGet_47 hl (k := 0) rfl (nI_1 j91) (by decide) rfl (fun ls hl => ?_)
          refine lv_goto (tgt := 4) hx hb dX10_allGet_50 (by decide) ?_
          exact ihj91 (j91 + 1) x5 H locs ls (by omega) (by omega)  (hP.sub [0, 1, 2, 3] rfl) (hD.sub [0, 1, 2, 3] (by decide) rfl) hS (lv_sub hl [0, 1, 2] rfl)
        · skip
          refine lv_iload_n hx hb dX10_allGet_24 rfl (lv_at hl 1 rfl) ?_
          refine lv_aload_n hx hb dX10_allGet_25 rfl (lv_at hl 2 rfl) ?_
          refine va_get (D := D) (ci := 10) (v := .ref sh) (C := RX10) (T := TX10) (N := 12) hx hb hts iw10 hown hK hP 0 rfl rfl 7 (by decide) fw4 (fun _ h9 => h9) rfl dX10_allGet_26 ?_
          refine lv_iload_n hx hb dX10_allGet_29 rfl (lv_at hl 0 rfl) ?_
          refine va_iald hx hb hK hP 2 0 rfl rfl (vp_in_nI (by omega) (by decide)) dX10_allGet_30 ?_
          rw [nI_clamp (n := j91) (by omega)]
          refine lv_aload_n hx hb dX10_allGet_31 rfl (lv_at hl 2 rfl) ?_
          refine va_get (D := D) (ci := 10) (v := .ref sd) (C := RX10) (T := TX10) (N := 12) hx hb hts iw10 hown hK hP 0 rfl rfl 8 (by decide) fw3 (fun _ h9 => h9) rfl dX10_allGet_32 ?_
          refine lv_iload_n hx hb dX10_allGet_35 rfl (lv_at hl 0 rfl) ?_
          refine va_iald hx hb hK hP 3 0 rfl rfl (vp_in_nI (by omega) (by decide)) dX10_allGet_36 ?_
          rw [nI_clamp (n := j91) (by omega)]
          refine lv_idiv hx hb dX10_allGet_37 (kw_nz h14) ?_
          refine lv_aload_n hx hb dX10_allGet_38 rfl (lv_at hl 2 rfl) ?_
          refine va_get (D := D) (ci := 10) (v := .ref sd) (C := RX10) (T := TX10) (N := 12) hx hb hts iw10 hown hK hP 0 rfl rfl 8 (by decide) fw3 (fun _ h9 => h9) rfl dX10_allGet_39 ?_
          refine lv_iload_n hx hb dX10_allGet_42 rfl (lv_at hl 0 rfl) ?_
          refine va_iald hx hb hK hP 3 0 rfl rfl (vp_in_nI (by omega) (by decide)) dX10_allGet_43 ?_
          rw [nI_clamp (n := j91) (by omega)]
          refine lv_imul hx hb dX10_allGet_44 ?_
          refine lv_iadd hx hb dX10_allGet_45 ?_
          refine lv_istore_n (lv' := [(1, .int (x5 + (((fsh j91) / (fsd j91)) * (fsd j91)))), (2, .int (nI j91)), (0, .ref g)]) hx hb dX10_allGet_46 rfl hl (by decide) rfl (fun ls hl => ?_)
          refine lv_iinc (v := (nI (j91 + 1))) (lv' := [(2, .int (nI (j91 + 1))), (1, .int (x5 + (((fsh j91) / (fsd j91)) * (fsd j91)))), (0, .ref g)]) hx hb dX10_allGet_47 hl (k := 1) rfl (nI_1 j91) (by decide) rfl (fun ls hl => ?_)
          refine lv_goto (tgt := 4) hx hb dX10_allGet_50 (by decide) ?_
          exact ihj91 (j91 + 1) (x5 + (((fsh j91) / (fsd j91)) * (fsd j91))) H locs ls (by omega) (by omega)  (hP.sub [0, 1, 2, 3] rfl) (hD.sub [0, 1, 2, 3] (by decide) rfl) hS (lv_sub hl [0, 1, 2] rfl)
  exact lp10 (fi + 1) 0 0 _ _ _ (by omega) (by omega)  hP hD hS (lv_sub hl [0, 1, 2] rfl)

set_option maxHeartbeats 4000000 in
set_option maxRecDepth 100000 in
theorem gc_poorestGets (l : Launch) (D : va_G) (y : Nat → ClassId) (g : Nat) (kk : Nat) (nw : Nat) (im : Nat) (kp : Nat) (tx : Nat) (tr : Nat) (be : Nat) (sh : Nat) (sd : Nat) (rf : Nat) (ab : Int32) (bl : Int32) (nk : Nat) (nd : Nat) (ne : Nat) (nm : Nat) (nn : Nat) (fi : Nat) (gl : Nat) (un : Nat) (mi : Nat) (no : Nat) (fsh : Nat → Int32) (fsd : Nat → Int32) (hfi : fi ≤ 6) (hgl : gl ≤ 5) (hun : un ≤ 8) (hmi : mi ≤ 4) (hno : no ≤ 6) : kw_Mi l yX10_poorestGets wsX10_poorestGets ({ frames := 1, cells := 0, slots := 0, locals := 60 }) D y [.ref g] [(g, .inr (10, [.ref kk, .ref nw, .ref im, .ref kp, .ref tx, .ref tr, .ref be, .ref sh, .ref sd, .ref rf, .int ab, .int bl])), (nw, .inr (4, [.ref kk, .ref nk, .ref nd, .ref ne, .ref nm, .ref nn, .int (nI fi), .int (nI gl), .int (nI un), .int (nI mi), .int (nI no)])), (sh, .inl (y 0, 6, .inl fsh)), (sd, .inl (y 0, 6, .inl fsd))] (fun (r : Int32) (u : Unit) => True) (fun _ => [(g, .inr (10, [.ref kk, .ref nw, .ref im, .ref kp, .ref tx, .ref tr, .ref be, .ref sh, .ref sd, .ref rf, .int ab, .int bl])), (nw, .inr (4, [.ref kk, .ref nk, .ref nd, .ref ne, .ref nm, .ref nn, .int (nI fi), .int (nI gl), .int (nI un), .int (nI mi), .int (nI no)])), (sh, .inl (y 0, 6, .inl fsh)), (sd, .inl (y 0, 6, .inl fsd))]) 0 0 := by
  refine kw_Mi.of (cc := cX10_poorestGets) (maxL := 3) (ret := (some .int)) (by decide) rfl ?_
  intro pZ eZ s mZ beZ meZ cZ A hE
  obtain ⟨hx, hb, hr, hml, hts, hown, hlocks, hin, hA, hP, hD, hK, hN⟩ := hE
  have hS : va_S A s.heap s.heap [] := va_S.rf
  have hl := lv_entry ([.ref g]) (n := 3) (Nat.le_of_ble_eq_true rfl)
  rw [lg_entry_eq]
  generalize (lg_sl ([.ref g]) ++ List.replicate (3 - (lg_sl ([.ref g])).length) Slot.unset).toArray = ls at hl ⊢
  have hl : lv_has ls 3 [(0, .ref g)] := hl
  have fw1 := hts (.constant RX10 324 (2147483647)) (List.mem_of_getElem? (i := 1) rfl)
  have fw2 := hts (.fieldLink RX10 36 "GleanDusk" "now" "LGleanDusk$Parish;") (List.mem_of_getElem? (i := 2) rfl)
  have fw3 := hts (.fieldLink RX10 94 "GleanDusk$Parish" "fields" "I") (List.mem_of_getElem? (i := 3) rfl)
  have fw4 := hts (.fieldLink RX10 73 "GleanDusk" "standing" "[I") (List.mem_of_getElem? (i := 4) rfl)
  have fw5 := hts (.fieldLink RX10 69 "GleanDusk" "shown" "[I") (List.mem_of_getElem? (i := 5) rfl)
  have fw6 := hts (.methodLink RX10 204 Lib.Math.min.name) (List.mem_of_getElem? (i := 6) rfl)
  have fw7 := hts (.static Lib.Math.min.name) (List.mem_of_getElem? (i := 7) rfl)
  have fw8 := hts (.initialized "java/lang/Math") (List.mem_of_getElem? (i := 8) rfl)
  have fw9 := hts (.code Lib.Math.min.name Lib.Math.min.code 2 (some .int)) (List.mem_of_getElem? (i := 9) rfl)
  have iw10 : ∀ w ∈ wsX100, w ∈ wsX10_poorestGets := fun _ h => List.mem_cons_of_mem _ (List.mem_append_left _ (List.mem_append_right _ h))
  have iw4 : ∀ w ∈ wsX40, w ∈ wsX10_poorestGets := fun _ h => List.mem_cons_of_mem _ (List.mem_append_right _ h)
  refine lv_ldcw (v := 2147483647) hx hb hown fw1 dX10_poorestGets_0 ?_
  refine lv_istore_n (lv' := [(1, .int 2147483647), (0, .ref g)]) hx hb dX10_poorestGets_3 rfl hl (by decide) rfl (fun ls hl => ?_)
  refine lv_iconst (v := 0) hx hb dX10_poorestGets_4 (by decide) ?_
  refine lv_istore_n (lv' := [(2, .int 0), (1, .int 2147483647), (0, .ref g)]) hx hb dX10_poorestGets_5 rfl hl (by decide) rfl (fun ls hl => ?_)
  have lp10 : ∀ (fuj91 j91 : Nat) (x5 : Int32) (H : Heap) (locs : List Loc) (ls : Array Slot), j91 ≤ fi → fi - j91 < fuj91 → va_P D vwCl [(g, .inr (10, [.ref kk, .ref nw, .ref im, .ref kp, .ref tx, .ref tr, .ref be, .ref sh, .ref sd, .ref rf, .int ab, .int bl])), (nw, .inr (4, [.ref kk, .ref nk, .ref nd, .ref ne, .ref nm, .ref nn, .int (nI fi), .int (nI gl), .int (nI un), .int (nI mi), .int (nI no)])), (sh, .inl (y 0, 6, .inl fsh)), (sd, .inl (y 0, 6, .inl fsd))] H → va_D A [(g, .inr (10, [.ref kk, .ref nw, .ref im, .ref kp, .ref tx, .ref tr, .ref be, .ref sh, .ref sd, .ref rf, .int ab, .int bl])), (nw, .inr (4, [.ref kk, .ref nk, .ref nd, .ref ne, .ref nm, .ref nn, .int (nI fi), .int (nI gl), .int (nI un), .int (nI mi), .int (nI no)])), (sh, .inl (y 0, 6, .inl fsh)), (sd, .inl (y 0, 6, .inl fsd))] → va_S A s.heap H locs → lv_has ls 3 [(2, .int (nI j91)), (1, .int x5), (0, .ref g)] → W pZ l eZ ({ frames := 1, cells := 0, slots := 0, locals := 60 }) s mZ [.ref g].toArray beZ meZ cZ H locs 0 0 (MQ beZ (va_Qi (fun (r : Int32) (u : Unit) => True) (kw_B D (fun _ => [(g, .inr (10, [.ref kk, .ref nw, .ref im, .ref kp, .ref tx, .ref tr, .ref be, .ref sh, .ref sd, .ref rf, .int ab, .int bl])), (nw, .inr (4, [.ref kk, .ref nk, .ref nd, .ref ne, .ref nm, .ref nn, .int (nI fi), .int (nI gl), .int (nI un), .int (nI mi), .int (nI no)])), (sh, .inl (y 0, 6, .inl fsh)), (sd, .inl (y 0, 6, .inl fsd))]) A) A) [.ref g].toArray s 0 0 A) (F0 mZ 6 ls []) := by
    intro fuj91
    induction fuj91 with
    | zero => intro j91 x5 H locs ls hj9 hf9; exact absurd hf9 (Nat.not_lt_zero _)
    | succ fuj91 ihj91 =>
      intro j91 x5 H locs ls hj91 hfj91  hP hD hS hl
      refine lv_iload_n hx hb dX10_poorestGets_6 rfl (lv_at hl 0 rfl) ?_
      refine lv_aload_n hx hb dX10_poorestGets_7 rfl (lv_at hl 2 rfl) ?_
      refine va_get (D := D) (ci := 10) (v := .ref nw) (C := RX10) (T := TX10) (N := 12) hx hb hts iw10 hown hK hP 0 rfl rfl 1 (by decide) fw2 (fun _ h9 => h9) rfl dX10_poorestGets_8 ?_
      refine va_get (D := D) (ci := 4) (v := .int (nI fi)) (C := RX4) (T := TX4) (N := 11) hx hb hts iw4 hown hK hP 1 rfl rfl 6 (by decide) fw3 (fun _ h9 => h9) rfl dX10_poorestGets_11 ?_
      refine lv_icmp_ge (tgt := 50) hx hb dX10_poorestGets_14 (by decide) (fun h11 => ?_) (fun h12 => ?_)
      · skip
        have h11 : fi ≤ j91 := (nI_leI (a := fi) (b := j91) (by omega) (by omega)).mp h11
        refine lv_iload_n hx hb dX10_poorestGets_50 rfl (lv_at hl 1 rfl) ?_
        exact W.iret (v := x5) hx hb hr (fun tZ ht hW => ⟨⟨x5, (), rfl, trivial, by rw [ht]; exact hP.sub [0, 1, 2, 3] rfl, hD.sub [0, 1, 2, 3] (by decide) rfl⟩, hS.F ht⟩) hS.2.2 dX10_poorestGets_51
      · skip
        have h12 : ¬ fi ≤ j91 := fun q9 => h12 ((nI_leI (a := fi) (b := j91) (by omega) (by omega)).mpr q9)
        refine lv_aload_n hx hb dX10_poorestGets_17 rfl (lv_at hl 2 rfl) ?_
        refine va_get (D := D) (ci := 10) (v := .ref sd) (C := RX10) (T := TX10) (N := 12) hx hb hts iw10 hown hK hP 0 rfl rfl 8 (by decide) fw4 (fun _ h9 => h9) rfl dX10_poorestGets_18 ?_
        refine lv_iload_n hx hb dX10_poorestGets_21 rfl (lv_at hl 0 rfl) ?_
        refine va_iald hx hb hK hP 3 0 rfl rfl (vp_in_nI (by omega) (by decide)) dX10_poorestGets_22 ?_
        rw [nI_clamp (n := j91) (by omega)]
        refine lv_if_le (tgt := 44) hx hb dX10_poorestGets_23 (by decide) (fun h13 => ?_) (fun h14 => ?_)
        · skip
          refine lv_iinc (v := (nI (j91 + 1))) (lv' := [(2, .int (nI (j91 + 1))), (1, .int x5), (0, .ref g)]) hx hb dX10_poorestGets_44 hl (k := 0) rfl (nI_1 j91) (by decide) rfl (fun ls hl => ?_)
          refine lv_goto (tgt := 6) hx hb dX10_poorestGets_47 (by decide) ?_
          exact ihj91 (j91 + 1) x5 H locs ls (by omega) (by omega)  (hP.sub [0, 1, 2, 3] rfl) (hD.sub [0, 1, 2, 3] (by decide) rfl) hS (lv_sub hl [0, 1, 2] rfl)
        · skip
          refine lv_iload_n hx hb dX10_poorestGets_26 rfl (lv_at hl 1 rfl) ?_
          refine lv_aload_n hx hb dX10_poorestGets_27 rfl (lv_at hl 2 rfl) ?_
          refine va_get (D := D) (ci := 10) (v := .ref sh) (C := RX10) (T := TX10) (N := 12) hx hb hts iw10 hown hK hP 0 rfl rfl 7 (by decide) fw5 (fun _ h9 => h9) rfl dX10_poorestGets_28 ?_
          refine lv_iload_n hx hb dX10_poorestGets_31 rfl (lv_at hl 0 rfl) ?_
          refine va_iald hx hb hK hP 2 0 rfl rfl (vp_in_nI (by omega) (by decide)) dX10_poorestGets_32 ?_
          rw [nI_clamp (n := j91) (by omega)]
          refine lv_aload_n hx hb dX10_poorestGets_33 rfl (lv_at hl 2 rfl) ?_
          refine va_get (D := D) (ci := 10) (v := .ref sd) (C := RX10) (T := TX10) (N := 12) hx hb hts iw10 hown hK hP 0 rfl rfl 8 (by decide) fw4 (fun _ h9 => h9) rfl dX10_poorestGets_34 ?_
          refine lv_iload_n hx hb dX10_poorestGets_37 rfl (lv_at hl 0 rfl) ?_
          refine va_iald hx hb hK hP 3 0 rfl rfl (vp_in_nI (by omega) (by decide)) dX10_poorestGets_38 ?_
          rw [nI_clamp (n := j91) (by omega)]
          refine lv_idiv hx hb dX10_poorestGets_39 (kw_nz h14) ?_
          refine va_mmin hx hb (hml.trans hl.1.symm) hown fw6 fw7 fw8 fw9 (Nat.le_of_ble_eq_true rfl) (Nat.le_of_ble_eq_true rfl) (Nat.le_of_ble_eq_true rfl) (Nat.le_of_ble_eq_true rfl) dX10_poorestGets_40 ?_
          refine lv_istore_n (lv' := [(1, .int (if ((fsh j91) / (fsd j91)) < x5 then ((fsh j91) / (fsd j91)) else x5)), (2, .int (nI j91)), (0, .ref g)]) hx hb dX10_poorestGets_43 rfl hl (by decide) rfl (fun ls hl => ?_)
          refine lv_iinc (v := (nI (j91 + 1))) (lv' := [(2, .int (nI (j91 + 1))), (1, .int (if ((fsh j91) / (fsd j91)) < x5 then ((fsh j91) / (fsd j91)) else x5)), (0, .ref g)]) hx hb dX10_poorestGets_44 hl (k := 1) rfl (nI_1 j91) (by decide) rfl (fun ls hl => ?_)
          refine lv_goto (tgt := 6) hx hb dX10_poorestGets_47 (by decide) ?_
          exact ihj91 (j91 + 1) (if ((fsh j91) / (fsd j91)) < x5 then ((fsh j91) / (fsd j91)) else x5) H locs ls (by omega) (by omega)  (hP.sub [0, 1, 2, 3] rfl) (hD.sub [0, 1, 2, 3] (by decide) rfl) hS (lv_sub hl [0, 1, 2] rfl)
  exact lp10 (fi + 1) 0 2147483647 _ _ _ (by omega) (by omega)  hP hD hS (lv_sub hl [0, 1, 2] rfl)

set_option maxHeartbeats 4000000 in
set_option maxRecDepth 100000 in
theorem gc_worth (l : Launch) (D : va_G) (y : Nat → ClassId) (g : Nat) (kk : Nat) (nw : Nat) (im : Nat) (kp : Nat) (tx : Nat) (tr : Nat) (be : Nat) (sh : Nat) (sd : Nat) (rf : Nat) (ab : Int32) (bl : Int32) (fsh : Nat → Int32) (k : Nat) (x : Int32) (x2 : Int32) (hkk : k < 6) : kw_Mi l yX10_worth wsX10_worth ({ frames := 1, cells := 0, slots := 0, locals := 60 }) D y [.ref g, .int x, .int (nI k), .int x2] [(g, .inr (10, [.ref kk, .ref nw, .ref im, .ref kp, .ref tx, .ref tr, .ref be, .ref sh, .ref sd, .ref rf, .int ab, .int bl])), (sh, .inl (y 0, 6, .inl fsh))] (fun (r : Int32) (u : Unit) => True) (fun _ => [(g, .inr (10, [.ref kk, .ref nw, .ref im, .ref kp, .ref tx, .ref tr, .ref be, .ref sh, .ref sd, .ref rf, .int ab, .int bl])), (sh, .inl (y 0, 6, .inl fsh))]) 0 0 := by
  refine kw_Mi.of (cc := cX10_worth) (maxL := 5) (ret := (some .int)) (by decide) rfl ?_
  intro pZ eZ s mZ beZ meZ cZ A hE
  obtain ⟨hx, hb, hr, hml, hts, hown, hlocks, hin, hA, hP, hD, hK, hN⟩ := hE
  have hS : va_S A s.heap s.heap [] := va_S.rf
  have hl := lv_entry ([.ref g, .int x, .int (nI k), .int x2]) (n := 5) (Nat.le_of_ble_eq_true rfl)
  rw [lg_entry_eq]
  generalize (lg_sl ([.ref g, .int x, .int (nI k), .int x2]) ++ List.replicate (5 - (lg_sl ([.ref g, .int x, .int (nI k), .int x2])).length) Slot.unset).toArray = ls at hl ⊢
  have hl : lv_has ls 5 [(0, .ref g), (1, .int x), (2, .int (nI k)), (3, .int x2)] := hl
  have fw1 := hts (.fieldLink RX10 69 "GleanDusk" "shown" "[I") (List.mem_of_getElem? (i := 1) rfl)
  have fw2 := hts (.methodLink RX10 332 Lib.Math.abs.name) (List.mem_of_getElem? (i := 2) rfl)
  have fw3 := hts (.static Lib.Math.abs.name) (List.mem_of_getElem? (i := 3) rfl)
  have fw4 := hts (.initialized "java/lang/Math") (List.mem_of_getElem? (i := 4) rfl)
  have fw5 := hts (.code Lib.Math.abs.name Lib.Math.abs.code 1 (some .int)) (List.mem_of_getElem? (i := 5) rfl)
  have iw10 : ∀ w ∈ wsX100, w ∈ wsX10_worth := fun _ h => List.mem_cons_of_mem _ (List.mem_append_right _ h)
  refine lv_iload_n hx hb dX10_worth_0 rfl (lv_at hl 2 rfl) ?_
  refine lv_iload_n hx hb dX10_worth_1 rfl (lv_at hl 3 rfl) ?_
  refine lv_icmp_ne (tgt := 16) hx hb dX10_worth_2 (by decide) (fun h1 => ?_) (fun h2 => ?_)
  · skip
    refine lv_aload_n hx hb dX10_worth_16 rfl (lv_at hl 0 rfl) ?_
    refine va_get (D := D) (ci := 10) (v := .ref sh) (C := RX10) (T := TX10) (N := 12) hx hb hts iw10 hown hK hP 0 rfl rfl 7 (by decide) fw1 (fun _ h9 => h9) rfl dX10_worth_17 ?_
    refine lv_iload_n hx hb dX10_worth_20 rfl (lv_at hl 2 rfl) ?_
    refine va_iald hx hb hK hP 1 0 rfl rfl (vp_in_nI (by omega) (by decide)) dX10_worth_21 ?_
    rw [nI_clamp (n := k) (by omega)]
    refine lv_istore (lv' := [(4, .int (fsh k)), (0, .ref g), (1, .int x), (2, .int (nI k)), (3, .int x2)]) hx hb dX10_worth_22 hl (by decide) rfl (fun ls hl => ?_)
    refine lv_iload hx hb dX10_worth_24 (lv_at hl 0 rfl) ?_
    refine lv_iload_n hx hb dX10_worth_26 rfl (lv_at hl 3 rfl) ?_
    refine lv_iload_n hx hb dX10_worth_27 rfl (lv_at hl 2 rfl) ?_
    refine lv_isub hx hb dX10_worth_28 ?_
    refine va_mabs hx hb (hml.trans hl.1.symm) hown fw2 fw3 fw4 fw5 (Nat.le_of_ble_eq_true rfl) (Nat.le_of_ble_eq_true rfl) (Nat.le_of_ble_eq_true rfl) (Nat.le_of_ble_eq_true rfl) dX10_worth_29 ?_
    refine lv_isub hx hb dX10_worth_32 ?_
    exact W.iret (v := ((fsh k) - (if 0 ≤ ((nI k) - x) then ((nI k) - x) else 0 - ((nI k) - x)))) hx hb hr (fun tZ ht hW => ⟨⟨((fsh k) - (if 0 ≤ ((nI k) - x) then ((nI k) - x) else 0 - ((nI k) - x))), (), rfl, trivial, by rw [ht]; exact hP.sub [0, 1] rfl, hD.sub [0, 1] (by decide) rfl⟩, hS.F ht⟩) hS.2.2 dX10_worth_33
  · skip
    refine lv_aload_n hx hb dX10_worth_5 rfl (lv_at hl 0 rfl) ?_
    refine va_get (D := D) (ci := 10) (v := .ref sh) (C := RX10) (T := TX10) (N := 12) hx hb hts iw10 hown hK hP 0 rfl rfl 7 (by decide) fw1 (fun _ h9 => h9) rfl dX10_worth_6 ?_
    refine lv_iload_n hx hb dX10_worth_9 rfl (lv_at hl 2 rfl) ?_
    refine va_iald hx hb hK hP 1 0 rfl rfl (vp_in_nI (by omega) (by decide)) dX10_worth_10 ?_
    rw [nI_clamp (n := k) (by omega)]
    refine lv_iconst (v := 2) hx hb dX10_worth_11 (by decide) ?_
    refine lv_idiv hx hb dX10_worth_12 (by decide) ?_
    refine lv_goto (tgt := 22) hx hb dX10_worth_13 (by decide) ?_
    refine lv_istore (lv' := [(4, .int ((fsh k) / 2)), (0, .ref g), (1, .int x), (2, .int (nI k)), (3, .int x2)]) hx hb dX10_worth_22 hl (by decide) rfl (fun ls hl => ?_)
    refine lv_iload hx hb dX10_worth_24 (lv_at hl 0 rfl) ?_
    refine lv_iload_n hx hb dX10_worth_26 rfl (lv_at hl 3 rfl) ?_
    refine lv_iload_n hx hb dX10_worth_27 rfl (lv_at hl 2 rfl) ?_
    refine lv_isub hx hb dX10_worth_28 ?_
    refine va_mabs hx hb (hml.trans hl.1.symm) hown fw2 fw3 fw4 fw5 (Nat.le_of_ble_eq_true rfl) (Nat.le_of_ble_eq_true rfl) (Nat.le_of_ble_eq_true rfl) (Nat.le_of_ble_eq_true rfl) dX10_worth_29 ?_
    refine lv_isub hx hb dX10_worth_32 ?_
    exact W.iret (v := (((fsh k) / 2) - (if 0 ≤ ((nI k) - x) then ((nI k) - x) else 0 - ((nI k) - x)))) hx hb hr (fun tZ ht hW => ⟨⟨(((fsh k) / 2) - (if 0 ≤ ((nI k) - x) then ((nI k) - x) else 0 - ((nI k) - x))), (), rfl, trivial, by rw [ht]; exact hP.sub [0, 1] rfl, hD.sub [0, 1] (by decide) rfl⟩, hS.F ht⟩) hS.2.2 dX10_worth_33

set_option maxHeartbeats 4000000 in
set_option maxRecDepth 100000 in
theorem gc_staysPut (l : Launch) (D : va_G) (y : Nat → ClassId) (g : Nat) (kk : Nat) (nw : Nat) (im : Nat) (kp : Nat) (tx : Nat) (tr : Nat) (be : Nat) (sh : Nat) (sd : Nat) (rf : Nat) (ab : Int32) (bl : Int32) (nk : Nat) (nd : Nat) (ne : Nat) (nm : Nat) (nn : Nat) (fi : Nat) (gl : Nat) (un : Nat) (mi : Nat) (no : Nat) (fsh : Nat → Int32) (k : Nat) (x : Int32) (x2 : Int32) (hfi : fi ≤ 6) (hgl : gl ≤ 5) (hun : un ≤ 8) (hmi : mi ≤ 4) (hno : no ≤ 6) (hkk : k < 6) : kw_Mi l yX10_staysPut wsX10_staysPut ({ frames := 2, cells := 0, slots := 0, locals := 84 }) D y [.ref g, .int x, .int (nI k), .int x2] [(g, .inr (10, [.ref kk, .ref nw, .ref im, .ref kp, .ref tx, .ref tr, .ref be, .ref sh, .ref sd, .ref rf, .int ab, .int bl])), (nw, .inr (4, [.ref kk, .ref nk, .ref nd, .ref ne, .ref nm, .ref nn, .int (nI fi), .int (nI gl), .int (nI un), .int (nI mi), .int (nI no)])), (sh, .inl (y 0, 6, .inl fsh))] (fun (r : Int32) (u : Unit) => (r = 0 ∨ r = 1)) (fun _ => [(g, .inr (10, [.ref kk, .ref nw, .ref im, .ref kp, .ref tx, .ref tr, .ref be, .ref sh, .ref sd, .ref rf, .int ab, .int bl])), (nw, .inr (4, [.ref kk, .ref nk, .ref nd, .ref ne, .ref nm, .ref nn, .int (nI fi), .int (nI gl), .int (nI un), .int (nI mi), .int (nI no)])), (sh, .inl (y 0, 6, .inl fsh))]) 0 0 := by
  refine kw_Mi.of (cc := cX10_staysPut) (maxL := 6) (ret := (some .boolean)) (by decide) rfl ?_
  intro pZ eZ s mZ beZ meZ cZ A hE
  obtain ⟨hx, hb, hr, hml, hts, hown, hlocks, hin, hA, hP, hD, hK, hN⟩ := hE
  have hS : va_S A s.heap s.heap [] := va_S.rf
  have hl := lv_entry ([.ref g, .int x, .int (nI k), .int x2]) (n := 6) (Nat.le_of_ble_eq_true rfl)
  rw [lg_entry_eq]
  generalize (lg_sl ([.ref g, .int x, .int (nI k), .int x2]) ++ List.replicate (6 - (lg_sl ([.ref g, .int x, .int (nI k), .int x2])).length) Slot.unset).toArray = ls at hl ⊢
  have hl : lv_has ls 6 [(0, .ref g), (1, .int x), (2, .int (nI k)), (3, .int x2)] := hl
  have fw1 := hts (.fieldLink RX10 36 "GleanDusk" "now" "LGleanDusk$Parish;") (List.mem_of_getElem? (i := 1) rfl)
  have fw2 := hts (.fieldLink RX10 94 "GleanDusk$Parish" "fields" "I") (List.mem_of_getElem? (i := 2) rfl)
  have iw10 : ∀ w ∈ wsX100, w ∈ wsX10_staysPut := fun _ h => List.mem_cons_of_mem _ (List.mem_append_left _ (List.mem_append_right _ h))
  have iw4 : ∀ w ∈ wsX40, w ∈ wsX10_staysPut := fun _ h => List.mem_cons_of_mem _ (List.mem_append_right _ h)
  refine lv_aload_n hx hb dX10_staysPut_0 rfl (lv_at hl 0 rfl) ?_
  refine lv_iload_n hx hb dX10_staysPut_1 rfl (lv_at hl 1 rfl) ?_
  refine lv_iload_n hx hb dX10_staysPut_2 rfl (lv_at hl 2 rfl) ?_
  refine lv_iload_n hx hb dX10_staysPut_3 rfl (lv_at hl 3 rfl) ?_
  have hs1 : kw_Split [(g, .inr (10, [.ref kk, .ref nw, .ref im, .ref kp, .ref tx, .ref tr, .ref be, .ref sh, .ref sd, .ref rf, .int ab, .int bl])), (nw, .inr (4, [.ref kk, .ref nk, .ref nd, .ref ne, .ref nm, .ref nn, .int (nI fi), .int (nI gl), .int (nI un), .int (nI mi), .int (nI no)])), (sh, .inl (y 0, 6, .inl fsh))] [(g, .inr (10, [.ref kk, .ref nw, .ref im, .ref kp, .ref tx, .ref tr, .ref be, .ref sh, .ref sd, .ref rf, .int ab, .int bl])), (sh, .inl (y 0, 6, .inl fsh))] [(nw, .inr (4, [.ref kk, .ref nk, .ref nd, .ref ne, .ref nm, .ref nn, .int (nI fi), .int (nI gl), .int (nI un), .int (nI mi), .int (nI no)]))] [0, 2] [1] := ⟨rfl, rfl, rfl, rfl, rfl, by decide⟩
  refine kw_go_i hs1 hP hD hS hA (va_runV (As := [.int x, .int (nI k), .int x2]) (rest := []) ⟨hx, hb, hml, hown, hts⟩ (gc_worth l D y g kk nw im kp tx tr be sh sd rf ab bl fsh k x x2 hkk _) (cwV 3 hts gX10_staysPut_X10_worth rfl rfl rfl (by decide +kernel) ⟨Nat.le_of_ble_eq_true rfl, Nat.le_of_ble_eq_true rfl⟩) (kw_PreV (ci := 10) (q0 := 0) hs1 hP hD hK hN rfl rfl) rfl rfl hl.1 rfl (lv_room (Nat.le_of_ble_eq_true rfl)) dX10_staysPut_4 ⟨Nat.le_of_ble_eq_true rfl, Nat.le_of_ble_eq_true rfl⟩) (fun r2 u3 H locs hq hP hD hS => ?_)
  have hP : va_P D vwCl [(nw, .inr (4, [.ref kk, .ref nk, .ref nd, .ref ne, .ref nm, .ref nn, .int (nI fi), .int (nI gl), .int (nI un), .int (nI mi), .int (nI no)])), (g, .inr (10, [.ref kk, .ref nw, .ref im, .ref kp, .ref tx, .ref tr, .ref be, .ref sh, .ref sd, .ref rf, .int ab, .int bl])), (sh, .inl (y 0, 6, .inl fsh))] H := hP
  have hD : va_D A [(nw, .inr (4, [.ref kk, .ref nk, .ref nd, .ref ne, .ref nm, .ref nn, .int (nI fi), .int (nI gl), .int (nI un), .int (nI mi), .int (nI no)])), (g, .inr (10, [.ref kk, .ref nw, .ref im, .ref kp, .ref tx, .ref tr, .ref be, .ref sh, .ref sd, .ref rf, .int ab, .int bl])), (sh, .inl (y 0, 6, .inl fsh))] := hD
  refine lv_istore (lv' := [(4, .int r2), (0, .ref g), (1, .int x), (2, .int (nI k)), (3, .int x2)]) hx hb dX10_staysPut_7 hl (by decide) rfl (fun ls hl => ?_)
  refine lv_iconst (v := 0) hx hb dX10_staysPut_9 (by decide) ?_
  refine lv_istore (lv' := [(5, .int 0), (4, .int r2), (0, .ref g), (1, .int x), (2, .int (nI k)), (3, .int x2)]) hx hb dX10_staysPut_10 hl (by decide) rfl (fun ls hl => ?_)
  have lp11 : ∀ (fuj91 j91 : Nat)  (H : Heap) (locs : List Loc) (ls : Array Slot), j91 ≤ fi → fi - j91 < fuj91 → va_P D vwCl [(nw, .inr (4, [.ref kk, .ref nk, .ref nd, .ref ne, .ref nm, .ref nn, .int (nI fi), .int (nI gl), .int (nI un), .int (nI mi), .int (nI no)])), (g, .inr (10, [.ref kk, .ref nw, .ref im, .ref kp, .ref tx, .ref tr, .ref be, .ref sh, .ref sd, .ref rf, .int ab, .int bl])), (sh, .inl (y 0, 6, .inl fsh))] H → va_D A [(nw, .inr (4, [.ref kk, .ref nk, .ref nd, .ref ne, .ref nm, .ref nn, .int (nI fi), .int (nI gl), .int (nI un), .int (nI mi), .int (nI no)])), (g, .inr (10, [.ref kk, .ref nw, .ref im, .ref kp, .ref tx, .ref tr, .ref be, .ref sh, .ref sd, .ref rf, .int ab, .int bl])), (sh, .inl (y 0, 6, .inl fsh))] → va_S A s.heap H locs → lv_has ls 6 [(5, .int (nI j91)), (4, .int r2), (0, .ref g), (1, .int x), (2, .int (nI k)), (3, .int x2)] → W pZ l eZ ({ frames := 2, cells := 0, slots := 0, locals := 84 }) s mZ [.ref g, .int x, .int (nI k), .int x2].toArray beZ meZ cZ H locs 0 0 (MQ beZ (va_Qi (fun (r : Int32) (u : Unit) => (r = 0 ∨ r = 1)) (kw_B D (fun _ => [(g, .inr (10, [.ref kk, .ref nw, .ref im, .ref kp, .ref tx, .ref tr, .ref be, .ref sh, .ref sd, .ref rf, .int ab, .int bl])), (nw, .inr (4, [.ref kk, .ref nk, .ref nd, .ref ne, .ref nm, .ref nn, .int (nI fi), .int (nI gl), .int (nI un), .int (nI mi), .int (nI no)])), (sh, .inl (y 0, 6, .inl fsh))]) A) A) [.ref g, .int x, .int (nI k), .int x2].toArray s 0 0 A) (F0 mZ 12 ls []) := by
    intro fuj91
    induction fuj91 with
    | zero => intro j91  H locs ls hj9 hf9; exact absurd hf9 (Nat.not_lt_zero _)
    | succ fuj91 ihj91 =>
      intro j91  H locs ls hj91 hfj91  hP hD hS hl
      refine lv_iload hx hb dX10_staysPut_12 (lv_at hl 0 rfl) ?_
      refine lv_aload_n hx hb dX10_staysPut_14 rfl (lv_at hl 2 rfl) ?_
      refine va_get (D := D) (ci := 10) (v := .ref nw) (C := RX10) (T := TX10) (N := 12) hx hb hts iw10 hown hK hP 1 rfl rfl 1 (by decide) fw1 (fun _ h9 => h9) rfl dX10_staysPut_15 ?_
      refine va_get (D := D) (ci := 4) (v := .int (nI fi)) (C := RX4) (T := TX4) (N := 11) hx hb hts iw4 hown hK hP 0 rfl rfl 6 (by decide) fw2 (fun _ h9 => h9) rfl dX10_staysPut_18 ?_
      refine lv_icmp_ge (tgt := 45) hx hb dX10_staysPut_21 (by decide) (fun h12 => ?_) (fun h13 => ?_)
      · skip
        have h12 : fi ≤ j91 := (nI_leI (a := fi) (b := j91) (by omega) (by omega)).mp h12
        refine lv_iconst (v := 1) hx hb dX10_staysPut_45 (by decide) ?_
        exact W.zret (v := 1) hx hb hr (by decide) (fun tZ ht hW => ⟨⟨1, (), rfl, Or.inr rfl, by rw [ht]; exact hP.sub [1, 0, 2] rfl, hD.sub [1, 0, 2] (by decide) rfl⟩, hS.F ht⟩) hS.2.2 dX10_staysPut_46
      · skip
        have h13 : ¬ fi ≤ j91 := fun q9 => h13 ((nI_leI (a := fi) (b := j91) (by omega) (by omega)).mpr q9)
        refine lv_aload_n hx hb dX10_staysPut_24 rfl (lv_at hl 2 rfl) ?_
        refine lv_iload_n hx hb dX10_staysPut_25 rfl (lv_at hl 3 rfl) ?_
        refine lv_iload hx hb dX10_staysPut_26 (lv_at hl 0 rfl) ?_
        refine lv_iload_n hx hb dX10_staysPut_28 rfl (lv_at hl 5 rfl) ?_
        have hs14 : kw_Split [(nw, .inr (4, [.ref kk, .ref nk, .ref nd, .ref ne, .ref nm, .ref nn, .int (nI fi), .int (nI gl), .int (nI un), .int (nI mi), .int (nI no)])), (g, .inr (10, [.ref kk, .ref nw, .ref im, .ref kp, .ref tx, .ref tr, .ref be, .ref sh, .ref sd, .ref rf, .int ab, .int bl])), (sh, .inl (y 0, 6, .inl fsh))] [(g, .inr (10, [.ref kk, .ref nw, .ref im, .ref kp, .ref tx, .ref tr, .ref be, .ref sh, .ref sd, .ref rf, .int ab, .int bl])), (sh, .inl (y 0, 6, .inl fsh))] [(nw, .inr (4, [.ref kk, .ref nk, .ref nd, .ref ne, .ref nm, .ref nn, .int (nI fi), .int (nI gl), .int (nI un), .int (nI mi), .int (nI no)]))] [1, 2] [0] := ⟨rfl, rfl, rfl, rfl, rfl, by decide⟩
        refine kw_go_i hs14 hP hD hS hA (va_runV (As := [.int x, .int (nI j91), .int x2]) (rest := []) ⟨hx, hb, hml, hown, hts⟩ (gc_worth l D y g kk nw im kp tx tr be sh sd rf ab bl fsh j91 x x2 (by omega) _) (cwV 3 hts gX10_staysPut_X10_worth rfl rfl rfl (by decide +kernel) ⟨Nat.le_of_ble_eq_true rfl, Nat.le_of_ble_eq_true rfl⟩) (kw_PreV (ci := 10) (q0 := 1) hs14 hP hD hK hN rfl rfl) rfl rfl hl.1 rfl (lv_room (Nat.le_of_ble_eq_true rfl)) dX10_staysPut_29 ⟨Nat.le_of_ble_eq_true rfl, Nat.le_of_ble_eq_true rfl⟩) (fun r15 u16 H locs hq hP hD hS => ?_)
        have hP : va_P D vwCl [(nw, .inr (4, [.ref kk, .ref nk, .ref nd, .ref ne, .ref nm, .ref nn, .int (nI fi), .int (nI gl), .int (nI un), .int (nI mi), .int (nI no)])), (g, .inr (10, [.ref kk, .ref nw, .ref im, .ref kp, .ref tx, .ref tr, .ref be, .ref sh, .ref sd, .ref rf, .int ab, .int bl])), (sh, .inl (y 0, 6, .inl fsh))] H := hP
        have hD : va_D A [(nw, .inr (4, [.ref kk, .ref nk, .ref nd, .ref ne, .ref nm, .ref nn, .int (nI fi), .int (nI gl), .int (nI un), .int (nI mi), .int (nI no)])), (g, .inr (10, [.ref kk, .ref nw, .ref im, .ref kp, .ref tx, .ref tr, .ref be, .ref sh, .ref sd, .ref rf, .int ab, .int bl])), (sh, .inl (y 0, 6, .inl fsh))] := hD
        refine lv_iload hx hb dX10_staysPut_32 (lv_at hl 1 rfl) ?_
        refine lv_icmp_le (tgt := 39) hx hb dX10_staysPut_34 (by decide) (fun h17 => ?_) (fun h18 => ?_)
        · skip
          refine lv_iinc (v := (nI (j91 + 1))) (lv' := [(5, .int (nI (j91 + 1))), (4, .int r2), (0, .ref g), (1, .int x), (2, .int (nI k)), (3, .int x2)]) hx hb dX10_staysPut_39 hl (k := 0) rfl (nI_1 j91) (by decide) rfl (fun ls hl => ?_)
          refine lv_goto (tgt := 12) hx hb dX10_staysPut_42 (by decide) ?_
          exact ihj91 (j91 + 1)  H locs ls (by omega) (by omega)  (hP.sub [0, 1, 2] rfl) (hD.sub [0, 1, 2] (by decide) rfl) hS (lv_sub hl [0, 1, 2, 3, 4, 5] rfl)
        · skip
          refine lv_iconst (v := 0) hx hb dX10_staysPut_37 (by decide) ?_
          exact W.zret (v := 0) hx hb hr (by decide) (fun tZ ht hW => ⟨⟨0, (), rfl, Or.inl rfl, by rw [ht]; exact hP.sub [1, 0, 2] rfl, hD.sub [1, 0, 2] (by decide) rfl⟩, hS.F ht⟩) hS.2.2 dX10_staysPut_38
  exact lp11 (fi + 1) 0  _ _ _ (by omega) (by omega)  hP hD hS (lv_sub hl [0, 1, 2, 3, 4, 5] rfl)
