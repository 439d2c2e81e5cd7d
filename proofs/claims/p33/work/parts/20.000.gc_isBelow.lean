set_option maxHeartbeats 4000000 in
set_option maxRecDepth 100000 in
theorem gc_isBelow (l : Launch) (D : va_G) (y : Nat → ClassId) (x : Int32) (n : Nat) (hn : n < 2147483648) : kw_Mi l yX10_isBelow wsX10_isBelow ({ frames := 1, cells := 0, slots := 0, locals := 60 }) D y [.int x, .int (nI n)] [] (fun (r : Int32) (u : Unit) => (∃ j : Nat, j < n ∧ x = nI j ∧ r = 1) ∨ ((¬ ∃ j : Nat, j < n ∧ x = nI j) ∧ r = 0)) (fun _ => []) 0 0 := by
  refine kw_Mi.of (cc := cX10_isBelow) (maxL := 2) (ret := (some .boolean)) (by decide) rfl ?_
  intro pZ eZ s mZ beZ meZ cZ A hE
  obtain ⟨hx, hb, hr, hml, hts, hown, hlocks, hin, hA, hP, hD, hK, hN⟩ := hE
  have hS : va_S A s.heap s.heap [] := va_S.rf
  have hl := lv_entry ([.int x, .int (nI n)]) (n := 2) (Nat.le_of_ble_eq_true rfl)
  rw [lg_entry_eq]
  generalize (lg_sl ([.int x, .int (nI n)]) ++ List.replicate (2 - (lg_sl ([.int x, .int (nI n)])).length) Slot.unset).toArray = ls at hl ⊢
  have hl : lv_has ls 2 [(0, .int x), (1, .int (nI n))] := hl
  refine lv_iload_n hx hb dX10_isBelow_0 rfl (lv_at hl 0 rfl) ?_
  refine lv_if_lt (tgt := 13) hx hb dX10_isBelow_1 (by decide) (fun h1 => ?_) (fun h2 => ?_)
  · skip
    refine lv_iconst (v := 0) hx hb dX10_isBelow_13 (by decide) ?_
    exact W.zret (v := 0) hx hb hr (by decide) (fun tZ ht hW => ⟨⟨0, (), rfl, Or.inr (⟨kw_nex1 h1 hn, rfl⟩), by rw [ht]; exact hP.sub [] rfl, hD.sub [] (by decide) rfl⟩, hS.F ht⟩) hS.2.2 dX10_isBelow_14
  · skip
    refine lv_iload_n hx hb dX10_isBelow_4 rfl (lv_at hl 0 rfl) ?_
    refine lv_iload_n hx hb dX10_isBelow_5 rfl (lv_at hl 1 rfl) ?_
    refine lv_icmp_ge (tgt := 13) hx hb dX10_isBelow_6 (by decide) (fun h3 => ?_) (fun h4 => ?_)
    · skip
      refine lv_iconst (v := 0) hx hb dX10_isBelow_13 (by decide) ?_
      exact W.zret (v := 0) hx hb hr (by decide) (fun tZ ht hW => ⟨⟨0, (), rfl, Or.inr (⟨kw_nex2 h3 hn, rfl⟩), by rw [ht]; exact hP.sub [] rfl, hD.sub [] (by decide) rfl⟩, hS.F ht⟩) hS.2.2 dX10_isBelow_14
    · skip
      refine lv_iconst (v := 1) hx hb dX10_isBelow_9 (by decide) ?_
      refine lv_goto (tgt := 14) hx hb dX10_isBelow_10 (by decide) ?_
      exact W.zret (v := 1) hx hb hr (by decide) (fun tZ ht hW => ⟨⟨1, (), rfl, Or.inl (by obtain ⟨j, h, e⟩ := kw_ex h2 h4 hn; exact ⟨j, h, e, rfl⟩), by rw [ht]; exact hP.sub [] rfl, hD.sub [] (by decide) rfl⟩, hS.F ht⟩) hS.2.2 dX10_isBelow_14

set_option maxHeartbeats 4000000 in
set_option maxRecDepth 100000 in
theorem gc_isIn (l : Launch) (D : va_G) (y : Nat → ClassId) (x : Int32) (a : Nat) (b : Nat) (ha : a < 2147483648) (hb2 : b < 2147483648) : kw_Mi l yX10_isIn wsX10_isIn ({ frames := 1, cells := 0, slots := 0, locals := 60 }) D y [.int x, .int (nI a), .int (nI b)] [] (fun (r : Int32) (u : Unit) => (∃ j : Nat, a ≤ j ∧ j ≤ b ∧ x = nI j ∧ r = 1) ∨ ((¬ ∃ j : Nat, a ≤ j ∧ j ≤ b ∧ x = nI j) ∧ r = 0)) (fun _ => []) 0 0 := by
  refine kw_Mi.of (cc := cX10_isIn) (maxL := 3) (ret := (some .boolean)) (by decide) rfl ?_
  intro pZ eZ s mZ beZ meZ cZ A hE
  obtain ⟨hx, hb, hr, hml, hts, hown, hlocks, hin, hA, hP, hD, hK, hN⟩ := hE
  have hS : va_S A s.heap s.heap [] := va_S.rf
  have hl := lv_entry ([.int x, .int (nI a), .int (nI b)]) (n := 3) (Nat.le_of_ble_eq_true rfl)
  rw [lg_entry_eq]
  generalize (lg_sl ([.int x, .int (nI a), .int (nI b)]) ++ List.replicate (3 - (lg_sl ([.int x, .int (nI a), .int (nI b)])).length) Slot.unset).toArray = ls at hl ⊢
  have hl : lv_has ls 3 [(0, .int x), (1, .int (nI a)), (2, .int (nI b))] := hl
  refine lv_iload_n hx hb dX10_isIn_0 rfl (lv_at hl 0 rfl) ?_
  refine lv_iload_n hx hb dX10_isIn_1 rfl (lv_at hl 1 rfl) ?_
  refine lv_icmp_lt (tgt := 14) hx hb dX10_isIn_2 (by decide) (fun h1 => ?_) (fun h2 => ?_)
  · skip
    refine lv_iconst (v := 0) hx hb dX10_isIn_14 (by decide) ?_
    exact W.zret (v := 0) hx hb hr (by decide) (fun tZ ht hW => ⟨⟨0, (), rfl, Or.inr (⟨kw_nex3 h1 ha hb2, rfl⟩), by rw [ht]; exact hP.sub [] rfl, hD.sub [] (by decide) rfl⟩, hS.F ht⟩) hS.2.2 dX10_isIn_15
  · skip
    refine lv_iload_n hx hb dX10_isIn_5 rfl (lv_at hl 0 rfl) ?_
    refine lv_iload_n hx hb dX10_isIn_6 rfl (lv_at hl 2 rfl) ?_
    refine lv_icmp_gt (tgt := 14) hx hb dX10_isIn_7 (by decide) (fun h3 => ?_) (fun h4 => ?_)
    · skip
      refine lv_iconst (v := 0) hx hb dX10_isIn_14 (by decide) ?_
      exact W.zret (v := 0) hx hb hr (by decide) (fun tZ ht hW => ⟨⟨0, (), rfl, Or.inr (⟨kw_nex4 h3 ha hb2, rfl⟩), by rw [ht]; exact hP.sub [] rfl, hD.sub [] (by decide) rfl⟩, hS.F ht⟩) hS.2.2 dX10_isIn_15
    · skip
      refine lv_iconst (v := 1) hx hb dX10_isIn_10 (by decide) ?_
      refine lv_goto (tgt := 15) hx hb dX10_isIn_11 (by decide) ?_
      exact W.zret (v := 1) hx hb hr (by decide) (fun tZ ht hW => ⟨⟨1, (), rfl, Or.inl (by obtain ⟨j, h, h2, e⟩ := kw_ex2 h2 h4 ha hb2; exact ⟨j, h, h2, e, rfl⟩), by rw [ht]; exact hP.sub [] rfl, hD.sub [] (by decide) rfl⟩, hS.F ht⟩) hS.2.2 dX10_isIn_15

set_option maxHeartbeats 4000000 in
set_option maxRecDepth 100000 in
theorem gc_isLight (l : Launch) (D : va_G) (y : Nat → ClassId) (x : Int32)  : kw_Mi l yX10_isLight wsX10_isLight ({ frames := 2, cells := 0, slots := 0, locals := 82 }) D y [.int x] [] (fun (r : Int32) (u : Unit) => (∃ j : Nat, j ≤ 60 ∧ x = nI j ∧ r = 1) ∨ ((¬ ∃ j : Nat, 0 ≤ j ∧ j ≤ 60 ∧ x = nI j) ∧ r = 0)) (fun _ => []) 0 0 := by
  refine kw_Mi.of (cc := cX10_isLight) (maxL := 1) (ret := (some .boolean)) (by decide) rfl ?_
  intro pZ eZ s mZ beZ meZ cZ A hE
  obtain ⟨hx, hb, hr, hml, hts, hown, hlocks, hin, hA, hP, hD, hK, hN⟩ := hE
  have hS : va_S A s.heap s.heap [] := va_S.rf
  have hl := lv_entry ([.int x]) (n := 1) (Nat.le_of_ble_eq_true rfl)
  rw [lg_entry_eq]
  generalize (lg_sl ([.int x]) ++ List.replicate (1 - (lg_sl ([.int x])).length) Slot.unset).toArray = ls at hl ⊢
  have hl : lv_has ls 1 [(0, .int x)] := hl
  refine lv_iload_n hx hb dX10_isLight_0 rfl (lv_at hl 0 rfl) ?_
  refine lv_iconst (v := 0) hx hb dX10_isLight_1 (by decide) ?_
  refine lv_bipush (v := 60) hx hb dX10_isLight_2 (by decide) ?_
  have hs1 : kw_Split [] [] [] [] [] := ⟨rfl, rfl, rfl, rfl, rfl, by decide⟩
  refine kw_go_i hs1 hP hD hS hA (va_runS (As := [.int x, .int 0, .int 60]) (rest := []) ⟨hx, hb, hml, hown, hts⟩ (gc_isIn l D y x 0 60 (by omega) (by omega) _) (va_cwS 3 hts gX10_isLight_X10_isIn rfl rfl rfl (by decide +kernel) ⟨Nat.le_of_ble_eq_true rfl, Nat.le_of_ble_eq_true rfl⟩) (kw_PreS hs1 hP hD hK hN) rfl rfl hl.1 rfl (lv_room (Nat.le_of_ble_eq_true rfl)) dX10_isLight_4 ⟨Nat.le_of_ble_eq_true rfl, Nat.le_of_ble_eq_true rfl⟩) (fun r2 u3 H locs hq hP hD hS => ?_)
  rcases hq with ⟨j4, h5, h6, rfl, rfl⟩ | ⟨h7, rfl⟩
  · skip
    have hP : va_P D vwCl [] H := hP
    have hD : va_D A [] := hD
    exact W.zret (v := 1) hx hb hr (by decide) (fun tZ ht hW => ⟨⟨1, (), rfl, Or.inl ⟨j4, h6, rfl, rfl⟩, by rw [ht]; exact hP.sub [] rfl, hD.sub [] (by decide) rfl⟩, hS.F ht⟩) hS.2.2 dX10_isLight_7
  · skip
    have hP : va_P D vwCl [] H := hP
    have hD : va_D A [] := hD
    exact W.zret (v := 0) hx hb hr (by decide) (fun tZ ht hW => ⟨⟨0, (), rfl, Or.inr (⟨h7, rfl⟩), by rw [ht]; exact hP.sub [] rfl, hD.sub [] (by decide) rfl⟩, hS.F ht⟩) hS.2.2 dX10_isLight_7

set_option maxHeartbeats 4000000 in
set_option maxRecDepth 100000 in
theorem gc_refuseBad (l : Launch) (D : va_G) (y : Nat → ClassId) (g : Nat) (kk : Nat) (nw : Nat) (im : Nat) (kp : Nat) (tx : Nat) (tr : Nat) (be : Nat) (sh : Nat) (sd : Nat) (rf : Nat) (ab : Int32) (bl : Int32) (f : Nat → Int32)  : kw_Mi l yX10_refuseBad wsX10_refuseBad ({ frames := 1, cells := 0, slots := 0, locals := 60 }) D y [.ref g] [(g, .inr (10, [.ref kk, .ref nw, .ref im, .ref kp, .ref tx, .ref tr, .ref be, .ref sh, .ref sd, .ref rf, .int ab, .int bl])), (rf, .inl (y 0, 3, .inl f))] (fun (r : Int32) (u : Unit) => r = (-2)) (fun _ => [(g, .inr (10, [.ref kk, .ref nw, .ref im, .ref kp, .ref tx, .ref tr, .ref be, .ref sh, .ref sd, .ref rf, .int ab, .int bl])), (rf, .inl (y 0, 3, .inl (upd f 0 ((f 0) + 1))))]) 0 0 := by
  refine kw_Mi.of (cc := cX10_refuseBad) (maxL := 1) (ret := (some .int)) (by decide) rfl ?_
  intro pZ eZ s mZ beZ meZ cZ A hE
  obtain ⟨hx, hb, hr, hml, hts, hown, hlocks, hin, hA, hP, hD, hK, hN⟩ := hE
  have hS : va_S A s.heap s.heap [] := va_S.rf
  have hl := lv_entry ([.ref g]) (n := 1) (Nat.le_of_ble_eq_true rfl)
  rw [lg_entry_eq]
  generalize (lg_sl ([.ref g]) ++ List.replicate (1 - (lg_sl ([.ref g])).length) Slot.unset).toArray = ls at hl ⊢
  have hl : lv_has ls 1 [(0, .ref g)] := hl
  have fw1 := hts (.fieldLink RX10 76 "GleanDusk" "refused" "[I") (List.mem_of_getElem? (i := 1) rfl)
  have iw10 : ∀ w ∈ wsX100, w ∈ wsX10_refuseBad := fun _ h => List.mem_cons_of_mem _ (List.mem_append_right _ h)
  refine lv_aload_n hx hb dX10_refuseBad_0 rfl (lv_at hl 0 rfl) ?_
  refine va_get (D := D) (ci := 10) (v := .ref rf) (C := RX10) (T := TX10) (N := 12) hx hb hts iw10 hown hK hP 0 rfl rfl 9 (by decide) fw1 (fun _ h9 => h9) rfl dX10_refuseBad_1 ?_
  refine lv_iconst (v := 0) hx hb dX10_refuseBad_4 (by decide) ?_
  refine lv_dup2_11 hx hb dX10_refuseBad_5 rfl rfl ?_
  refine va_iald hx hb hK hP 1 0 rfl rfl (by unfold vp_in; decide) dX10_refuseBad_6 ?_
  rw [show ((0 : Int32)).toNatClampNeg = 0 from rfl]
  refine lv_iconst (v := 1) hx hb dX10_refuseBad_7 (by decide) ?_
  refine lv_iadd hx hb dX10_refuseBad_8 ?_
  refine va_iast hx hb hK hP hD hS 1 0 rfl rfl (by unfold vp_in; decide) dX10_refuseBad_9 (fun H locs hP hD hS => ?_)
  rw [show ((0 : Int32)).toNatClampNeg = 0 from rfl] at hP hD
  have hP : va_P D vwCl [(g, .inr (10, [.ref kk, .ref nw, .ref im, .ref kp, .ref tx, .ref tr, .ref be, .ref sh, .ref sd, .ref rf, .int ab, .int bl])), (rf, .inl (y 0, 3, .inl (upd f 0 ((f 0) + 1))))] H := hP
  have hD : va_D A [(g, .inr (10, [.ref kk, .ref nw, .ref im, .ref kp, .ref tx, .ref tr, .ref be, .ref sh, .ref sd, .ref rf, .int ab, .int bl])), (rf, .inl (y 0, 3, .inl (upd f 0 ((f 0) + 1))))] := hD
  refine lv_bipush (v := (-2)) hx hb dX10_refuseBad_10 (by decide) ?_
  exact W.iret (v := (-2)) hx hb hr (fun tZ ht hW => ⟨⟨(-2), (), rfl, rfl, by rw [ht]; exact hP.sub [0, 1] rfl, hD.sub [0, 1] (by decide) rfl⟩, hS.F ht⟩) hS.2.2 dX10_refuseBad_12

set_option maxHeartbeats 4000000 in
set_option maxRecDepth 100000 in
theorem gc_refuseNo (l : Launch) (D : va_G) (y : Nat → ClassId) (g : Nat) (kk : Nat) (nw : Nat) (im : Nat) (kp : Nat) (tx : Nat) (tr : Nat) (be : Nat) (sh : Nat) (sd : Nat) (rf : Nat) (ab : Int32) (bl : Int32) (f : Nat → Int32)  : kw_Mi l yX10_refuseNo wsX10_refuseNo ({ frames := 1, cells := 0, slots := 0, locals := 60 }) D y [.ref g] [(g, .inr (10, [.ref kk, .ref nw, .ref im, .ref kp, .ref tx, .ref tr, .ref be, .ref sh, .ref sd, .ref rf, .int ab, .int bl])), (rf, .inl (y 0, 3, .inl f))] (fun (r : Int32) (u : Unit) => r = (-3)) (fun _ => [(g, .inr (10, [.ref kk, .ref nw, .ref im, .ref kp, .ref tx, .ref tr, .ref be, .ref sh, .ref sd, .ref rf, .int ab, .int bl])), (rf, .inl (y 0, 3, .inl (upd f 1 ((f 1) + 1))))]) 0 0 := by
  refine kw_Mi.of (cc := cX10_refuseNo) (maxL := 1) (ret := (some .int)) (by decide) rfl ?_
  intro pZ eZ s mZ beZ meZ cZ A hE
  obtain ⟨hx, hb, hr, hml, hts, hown, hlocks, hin, hA, hP, hD, hK, hN⟩ := hE
  have hS : va_S A s.heap s.heap [] := va_S.rf
  have hl := lv_entry ([.ref g]) (n := 1) (Nat.le_of_ble_eq_true rfl)
  rw [lg_entry_eq]
  generalize (lg_sl ([.ref g]) ++ List.replicate (1 - (lg_sl ([.ref g])).length) Slot.unset).toArray = ls at hl ⊢
  have hl : lv_has ls 1 [(0, .ref g)] := hl
  have fw1 := hts (.fieldLink RX10 76 "GleanDusk" "refused" "[I") (List.mem_of_getElem? (i := 1) rfl)
  have iw10 : ∀ w ∈ wsX100, w ∈ wsX10_refuseNo := fun _ h => List.mem_cons_of_mem _ (List.mem_append_right _ h)
  refine lv_aload_n hx hb dX10_refuseNo_0 rfl (lv_at hl 0 rfl) ?_
  refine va_get (D := D) (ci := 10) (v := .ref rf) (C := RX10) (T := TX10) (N := 12) hx hb hts iw10 hown hK hP 0 rfl rfl 9 (by decide) fw1 (fun _ h9 => h9) rfl dX10_refuseNo_1 ?_
  refine lv_iconst (v := 1) hx hb dX10_refuseNo_4 (by decide) ?_
  refine lv_dup2_11 hx hb dX10_refuseNo_5 rfl rfl ?_
  refine va_iald hx hb hK hP 1 0 rfl rfl (by unfold vp_in; decide) dX10_refuseNo_6 ?_
  rw [show ((1 : Int32)).toNatClampNeg = 1 from rfl]
  refine lv_iconst (v := 1) hx hb dX10_refuseNo_7 (by decide) ?_
  refine lv_iadd hx hb dX10_refuseNo_8 ?_
  refine va_iast hx hb hK hP hD hS 1 0 rfl rfl (by unfold vp_in; decide) dX10_refuseNo_9 (fun H locs hP hD hS => ?_)
  rw [show ((1 : Int32)).toNatClampNeg = 1 from rfl] at hP hD
  have hP : va_P D vwCl [(g, .inr (10, [.ref kk, .ref nw, .ref im, .ref kp, .ref tx, .ref tr, .ref be, .ref sh, .ref sd, .ref rf, .int ab, .int bl])), (rf, .inl (y 0, 3, .inl (upd f 1 ((f 1) + 1))))] H := hP
  have hD : va_D A [(g, .inr (10, [.ref kk, .ref nw, .ref im, .ref kp, .ref tx, .ref tr, .ref be, .ref sh, .ref sd, .ref rf, .int ab, .int bl])), (rf, .inl (y 0, 3, .inl (upd f 1 ((f 1) + 1))))] := hD
  refine lv_bipush (v := (-3)) hx hb dX10_refuseNo_10 (by decide) ?_
  exact W.iret (v := (-3)) hx hb hr (fun tZ ht hW => ⟨⟨(-3), (), rfl, rfl, by rw [ht]; exact hP.sub [0, 1] rfl, hD.sub [0, 1] (by decide) rfl⟩, hS.F ht⟩) hS.2.2 dX10_refuseNo_12

set_option maxHeartbeats 4000000 in
set_option maxRecDepth 100000 in
theorem gc_refuseFull (l : Launch) (D : va_G) (y : Nat → ClassId) (g : Nat) (kk : Nat) (nw : Nat) (im : Nat) (kp : Nat) (tx : Nat) (tr : Nat) (be : Nat) (sh : Nat) (sd : Nat) (rf : Nat) (ab : Int32) (bl : Int32) (f : Nat → Int32)  : kw_Mi l yX10_refuseFull wsX10_refuseFull ({ frames := 1, cells := 0, slots := 0, locals := 60 }) D y [.ref g] [(g, .inr (10, [.ref kk, .ref nw, .ref im, .ref kp, .ref tx, .ref tr, .ref be, .ref sh, .ref sd, .ref rf, .int ab, .int bl])), (rf, .inl (y 0, 3, .inl f))] (fun (r : Int32) (u : Unit) => r = (-4)) (fun _ => [(g, .inr (10, [.ref kk, .ref nw, .ref im, .ref kp, .ref tx, .ref tr, .ref be, .ref sh, .ref sd, .ref rf, .int ab, .int bl])), (rf, .inl (y 0, 3, .inl (upd f 2 ((f 2) + 1))))]) 0 0 := by
  refine kw_Mi.of (cc := cX10_refuseFull) (maxL := 1) (ret := (some .int)) (by decide) rfl ?_
  intro pZ eZ s mZ beZ meZ cZ A hE
  obtain ⟨hx, hb, hr, hml, hts, hown, hlocks, hin, hA, hP, hD, hK, hN⟩ := hE
  have hS : va_S A s.heap s.heap [] := va_S.rf
  have hl := lv_entry ([.ref g]) (n := 1) (Nat.le_of_ble_eq_true rfl)
  rw [lg_entry_eq]
  generalize (lg_sl ([.ref g]) ++ List.replicate (1 - (lg_sl ([.ref g])).length) Slot.unset).toArray = ls at hl ⊢
  have hl : lv_has ls 1 [(0, .ref g)] := hl
  have fw1 := hts (.fieldLink RX10 76 "GleanDusk" "refused" "[I") (List.mem_of_getElem? (i := 1) rfl)
  have iw10 : ∀ w ∈ wsX100, w ∈ wsX10_refuseFull := fun _ h => List.mem_cons_of_mem _ (List.mem_append_right _ h)
  refine lv_aload_n hx hb dX10_refuseFull_0 rfl (lv_at hl 0 rfl) ?_
  refine va_get (D := D) (ci := 10) (v := .ref rf) (C := RX10) (T := TX10) (N := 12) hx hb hts iw10 hown hK hP 0 rfl rfl 9 (by decide) fw1 (fun _ h9 => h9) rfl dX10_refuseFull_1 ?_
  refine lv_iconst (v := 2) hx hb dX10_refuseFull_4 (by decide) ?_
  refine lv_dup2_11 hx hb dX10_refuseFull_5 rfl rfl ?_
  refine va_iald hx hb hK hP 1 0 rfl rfl (by unfold vp_in; decide) dX10_refuseFull_6 ?_
  rw [show ((2 : Int32)).toNatClampNeg = 2 from rfl]
  refine lv_iconst (v := 1) hx hb dX10_refuseFull_7 (by decide) ?_
  refine lv_iadd hx hb dX10_refuseFull_8 ?_
  refine va_iast hx hb hK hP hD hS 1 0 rfl rfl (by unfold vp_in; decide) dX10_refuseFull_9 (fun H locs hP hD hS => ?_)
  rw [show ((2 : Int32)).toNatClampNeg = 2 from rfl] at hP hD
  have hP : va_P D vwCl [(g, .inr (10, [.ref kk, .ref nw, .ref im, .ref kp, .ref tx, .ref tr, .ref be, .ref sh, .ref sd, .ref rf, .int ab, .int bl])), (rf, .inl (y 0, 3, .inl (upd f 2 ((f 2) + 1))))] H := hP
  have hD : va_D A [(g, .inr (10, [.ref kk, .ref nw, .ref im, .ref kp, .ref tx, .ref tr, .ref be, .ref sh, .ref sd, .ref rf, .int ab, .int bl])), (rf, .inl (y 0, 3, .inl (upd f 2 ((f 2) + 1))))] := hD
  refine lv_bipush (v := (-4)) hx hb dX10_refuseFull_10 (by decide) ?_
  exact W.iret (v := (-4)) hx hb hr (fun tZ ht hW => ⟨⟨(-4), (), rfl, rfl, by rw [ht]; exact hP.sub [0, 1] rfl, hD.sub [0, 1] (by decide) rfl⟩, hS.F ht⟩) hS.2.2 dX10_refuseFull_12

set_option maxHeartbeats 4000000 in
set_option maxRecDepth 100000 in
theorem gc_refuseTen (l : Launch) (D : va_G) (y : Nat → ClassId) (g : Nat) (kk : Nat) (nw : Nat) (im : Nat) (kp : Nat) (tx : Nat) (tr : Nat) (be : Nat) (sh : Nat) (sd : Nat) (rf : Nat) (ab : Int32) (bl : Int32) (f : Nat → Int32)  : kw_Mi l yX10_refuseTen wsX10_refuseTen ({ frames := 1, cells := 0, slots := 0, locals := 60 }) D y [.ref g] [(g, .inr (10, [.ref kk, .ref nw, .ref im, .ref kp, .ref tx, .ref tr, .ref be, .ref sh, .ref sd, .ref rf, .int ab, .int bl])), (rf, .inl (y 0, 3, .inl f))] (fun (r : Int32) (u : Unit) => r = (-10)) (fun _ => [(g, .inr (10, [.ref kk, .ref nw, .ref im, .ref kp, .ref tx, .ref tr, .ref be, .ref sh, .ref sd, .ref rf, .int ab, .int bl])), (rf, .inl (y 0, 3, .inl (upd f 0 ((f 0) + 1))))]) 0 0 := by
  refine kw_Mi.of (cc := cX10_refuseTen) (maxL := 1) (ret := (some .int)) (by decide) rfl ?_
  intro pZ eZ s mZ beZ meZ cZ A hE
  obtain ⟨hx, hb, hr, hml, hts, hown, hlocks, hin, hA, hP, hD, hK, hN⟩ := hE
  have hS : va_S A s.heap s.heap [] := va_S.rf
  have hl := lv_entry ([.ref g]) (n := 1) (Nat.le_of_ble_eq_true rfl)
  rw [lg_entry_eq]
  generalize (lg_sl ([.ref g]) ++ List.replicate (1 - (lg_sl ([.ref g])).length) Slot.unset).toArray = ls at hl ⊢
  have hl : lv_has ls 1 [(0, .ref g)] := hl
  have fw1 := hts (.fieldLink RX10 76 "GleanDusk" "refused" "[I") (List.mem_of_getElem? (i := 1) rfl)
  have iw10 : ∀ w ∈ wsX100, w ∈ wsX10_refuseTen := fun _ h => List.mem_cons_of_mem _ (List.mem_append_right _ h)
  refine lv_aload_n hx hb dX10_refuseTen_0 rfl (lv_at hl 0 rfl) ?_
  refine va_get (D := D) (ci := 10) (v := .ref rf) (C := RX10) (T := TX10) (N := 12) hx hb hts iw10 hown hK hP 0 rfl rfl 9 (by decide) fw1 (fun _ h9 => h9) rfl dX10_refuseTen_1 ?_
  refine lv_iconst (v := 0) hx hb dX10_refuseTen_4 (by decide) ?_
  refine lv_dup2_11 hx hb dX10_refuseTen_5 rfl rfl ?_
  refine va_iald hx hb hK hP 1 0 rfl rfl (by unfold vp_in; decide) dX10_refuseTen_6 ?_
  rw [show ((0 : Int32)).toNatClampNeg = 0 from rfl]
  refine lv_iconst (v := 1) hx hb dX10_refuseTen_7 (by decide) ?_
  refine lv_iadd hx hb dX10_refuseTen_8 ?_
  refine va_iast hx hb hK hP hD hS 1 0 rfl rfl (by unfold vp_in; decide) dX10_refuseTen_9 (fun H locs hP hD hS => ?_)
  rw [show ((0 : Int32)).toNatClampNeg = 0 from rfl] at hP hD
  have hP : va_P D vwCl [(g, .inr (10, [.ref kk, .ref nw, .ref im, .ref kp, .ref tx, .ref tr, .ref be, .ref sh, .ref sd, .ref rf, .int ab, .int bl])), (rf, .inl (y 0, 3, .inl (upd f 0 ((f 0) + 1))))] H := hP
  have hD : va_D A [(g, .inr (10, [.ref kk, .ref nw, .ref im, .ref kp, .ref tx, .ref tr, .ref be, .ref sh, .ref sd, .ref rf, .int ab, .int bl])), (rf, .inl (y 0, 3, .inl (upd f 0 ((f 0) + 1))))] := hD
  refine lv_bipush (v := (-10)) hx hb dX10_refuseTen_10 (by decide) ?_
  exact W.iret (v := (-10)) hx hb hr (fun tZ ht hW => ⟨⟨(-10), (), rfl, rfl, by rw [ht]; exact hP.sub [0, 1] rfl, hD.sub [0, 1] (by decide) rfl⟩, hS.F ht⟩) hS.2.2 dX10_refuseTen_12

set_option maxHeartbeats 4000000 in
set_option maxRecDepth 100000 in
theorem gc_hasField (l : Launch) (D : va_G) (y : Nat → ClassId) (nw : Nat) (kk : Nat) (nk : Nat) (nd : Nat) (ne : Nat) (nm : Nat) (nn : Nat) (fi : Nat) (gl : Nat) (un : Nat) (mi : Nat) (no : Nat) (x : Int32) (hfi : fi ≤ 6) (hgl : gl ≤ 5) (hun : un ≤ 8) (hmi : mi ≤ 4) (hno : no ≤ 6) : kw_Mi l yX4_hasField wsX4_hasField ({ frames := 2, cells := 0, slots := 0, locals := 81 }) D y [.ref nw, .int x] [(nw, .inr (4, [.ref kk, .ref nk, .ref nd, .ref ne, .ref nm, .ref nn, .int (nI fi), .int (nI gl), .int (nI un), .int (nI mi), .int (nI no)]))] (fun (r : Int32) (u : Unit) => (∃ j : Nat, j < fi ∧ x = nI j ∧ r = 1) ∨ ((¬ ∃ j : Nat, j < fi ∧ x = nI j) ∧ r = 0)) (fun _ => [(nw, .inr (4, [.ref kk, .ref nk, .ref nd, .ref ne, .ref nm, .ref nn, .int (nI fi), .int (nI gl), .int (nI un), .int (nI mi), .int (nI no)]))]) 0 0 := by
  refine kw_Mi.of (cc := cX4_hasField) (maxL := 2) (ret := (some .boolean)) (by decide) rfl ?_
  intro pZ eZ s mZ beZ meZ cZ A hE
  obtain ⟨hx, hb, hr, hml, hts, hown, hlocks, hin, hA, hP, hD, hK, hN⟩ := hE
  have hS : va_S A s.heap s.heap [] := va_S.rf
  have hl := lv_entry ([.ref nw, .int x]) (n := 2) (Nat.le_of_ble_eq_true rfl)
  rw [lg_entry_eq]
  generalize (lg_sl ([.ref nw, .int x]) ++ List.replicate (2 - (lg_sl ([.ref nw, .int x])).length) Slot.unset).toArray = ls at hl ⊢
  have hl : lv_has ls 2 [(0, .ref nw), (1, .int x)] := hl
  have fw1 := hts (.fieldLink RX4 38 "GleanDusk$Parish" "fields" "I") (List.mem_of_getElem? (i := 1) rfl)
  have fw2 := hts (.initialized RX10) (List.mem_of_getElem? (i := 3) rfl)
  have fw3 := hts (.static yX10_isBelow) (List.mem_of_getElem? (i := 2) rfl)
  have iw4 : ∀ w ∈ wsX40, w ∈ wsX4_hasField := fun _ h => List.mem_cons_of_mem _ (List.mem_append_right _ h)
  refine lv_iload_n hx hb dX4_hasField_0 rfl (lv_at hl 1 rfl) ?_
  refine lv_aload_n hx hb dX4_hasField_1 rfl (lv_at hl 0 rfl) ?_
  refine va_get (D := D) (ci := 4) (v := .int (nI fi)) (C := RX4) (T := TX4) (N := 11) hx hb hts iw4 hown hK hP 0 rfl rfl 6 (by decide) fw1 (fun _ h9 => h9) rfl dX4_hasField_2 ?_
  have hs1 : kw_Split [(nw, .inr (4, [.ref kk, .ref nk, .ref nd, .ref ne, .ref nm, .ref nn, .int (nI fi), .int (nI gl), .int (nI un), .int (nI mi), .int (nI no)]))] [] [(nw, .inr (4, [.ref kk, .ref nk, .ref nd, .ref ne, .ref nm, .ref nn, .int (nI fi), .int (nI gl), .int (nI un), .int (nI mi), .int (nI no)]))] [] [0] := ⟨rfl, rfl, rfl, rfl, rfl, by decide⟩
  refine kw_go_i hs1 hP hD hS hA (va_runSN (As := [.int x, .int (nI fi)]) (rest := []) ⟨hx, hb, hml, hown, hts⟩ (gc_isBelow l D y x fi (by omega) _) ⟨va_cnB 2 hts gX4_hasField_X10_isBelow_n73 rfl rfl rfl (hN.1 ("GleanDusk$Parish", 73, yX10_isBelow) (List.mem_of_getElem? (i := 15) rfl)) fw2 (by decide +kernel) ⟨Nat.le_of_ble_eq_true rfl, Nat.le_of_ble_eq_true rfl⟩, fw3, trivial⟩ (kw_PreS hs1 hP hD hK hN) rfl rfl hl.1 rfl (lv_room (Nat.le_of_ble_eq_true rfl)) dX4_hasField_5 ⟨Nat.le_of_ble_eq_true rfl, Nat.le_of_ble_eq_true rfl⟩) (fun r2 u3 H locs hq hP hD hS => ?_)
  rcases hq with ⟨j4, h5, rfl, rfl⟩ | ⟨h6, rfl⟩
  · skip
    have hP : va_P D vwCl [(nw, .inr (4, [.ref kk, .ref nk, .ref nd, .ref ne, .ref nm, .ref nn, .int (nI fi), .int (nI gl), .int (nI un), .int (nI mi), .int (nI no)]))] H := hP
    have hD : va_D A [(nw, .inr (4, [.ref kk, .ref nk, .ref nd, .ref ne, .ref nm, .ref nn, .int (nI fi), .int (nI gl), .int (nI un), .int (nI mi), .int (nI no)]))] := hD
    exact W.zret (v := 1) hx hb hr (by decide) (fun tZ ht hW => ⟨⟨1, (), rfl, Or.inl ⟨j4, h5, rfl, rfl⟩, by rw [ht]; exact hP.sub [0] rfl, hD.sub [0] (by decide) rfl⟩, hS.F ht⟩) hS.2.2 dX4_hasField_8
  · skip
    have hP : va_P D vwCl [(nw, .inr (4, [.ref kk, .ref nk, .ref nd, .ref ne, .ref nm, .ref nn, .int (nI fi), .int (nI gl), .int (nI un), .int (nI mi), .int (nI no)]))] H := hP
    have hD : va_D A [(nw, .inr (4, [.ref kk, .ref nk, .ref nd, .ref ne, .ref nm, .ref nn, .int (nI fi), .int (nI gl), .int (nI un), .int (nI mi), .int (nI no)]))] := hD
    exact W.zret (v := 0) hx hb hr (by decide) (fun tZ ht hW => ⟨⟨0, (), rfl, Or.inr (⟨h6, rfl⟩), by rw [ht]; exact hP.sub [0] rfl, hD.sub [0] (by decide) rfl⟩, hS.F ht⟩) hS.2.2 dX4_hasField_8

set_option maxHeartbeats 4000000 in
set_option maxRecDepth 100000 in
theorem gc_hasGleaner (l : Launch) (D : va_G) (y : Nat → ClassId) (nw : Nat) (kk : Nat) (nk : Nat) (nd : Nat) (ne : Nat) (nm : Nat) (nn : Nat) (fi : Nat) (gl : Nat) (un : Nat) (mi : Nat) (no : Nat) (x : Int32) (hfi : fi ≤ 6) (hgl : gl ≤ 5) (hun : un ≤ 8) (hmi : mi ≤ 4) (hno : no ≤ 6) : kw_Mi l yX4_hasGleaner wsX4_hasGleaner ({ frames := 2, cells := 0, slots := 0, locals := 81 }) D y [.ref nw, .int x] [(nw, .inr (4, [.ref kk, .ref nk, .ref nd, .ref ne, .ref nm, .ref nn, .int (nI fi), .int (nI gl), .int (nI un), .int (nI mi), .int (nI no)]))] (fun (r : Int32) (u : Unit) => (∃ j : Nat, j < gl ∧ x = nI j ∧ r = 1) ∨ ((¬ ∃ j : Nat, j < gl ∧ x = nI j) ∧ r = 0)) (fun _ => [(nw, .inr (4, [.ref kk, .ref nk, .ref nd, .ref ne, .ref nm, .ref nn, .int (nI fi), .int (nI gl), .int (nI un), .int (nI mi), .int (nI no)]))]) 0 0 := by
  refine kw_Mi.of (cc := cX4_hasGleaner) (maxL := 2) (ret := (some .boolean)) (by decide) rfl ?_
  intro pZ eZ s mZ beZ meZ cZ A hE
  obtain ⟨hx, hb, hr, hml, hts, hown, hlocks, hin, hA, hP, hD, hK, hN⟩ := hE
  have hS : va_S A s.heap s.heap [] := va_S.rf
  have hl := lv_entry ([.ref nw, .int x]) (n := 2) (Nat.le_of_ble_eq_true rfl)
  rw [lg_entry_eq]
  generalize (lg_sl ([.ref nw, .int x]) ++ List.replicate (2 - (lg_sl ([.ref nw, .int x])).length) Slot.unset).toArray = ls at hl ⊢
  have hl : lv_has ls 2 [(0, .ref nw), (1, .int x)] := hl
  have fw1 := hts (.fieldLink RX4 42 "GleanDusk$Parish" "gleaners" "I") (List.mem_of_getElem? (i := 1) rfl)
  have fw2 := hts (.initialized RX10) (List.mem_of_getElem? (i := 3) rfl)
  have fw3 := hts (.static yX10_isBelow) (List.mem_of_getElem? (i := 2) rfl)
  have iw4 : ∀ w ∈ wsX40, w ∈ wsX4_hasGleaner := fun _ h => List.mem_cons_of_mem _ (List.mem_append_right _ h)
  refine lv_iload_n hx hb dX4_hasGleaner_0 rfl (lv_at hl 1 rfl) ?_
  refine lv_aload_n hx hb dX4_hasGleaner_1 rfl (lv_at hl 0 rfl) ?_
  refine va_get (D := D) (ci := 4) (v := .int (nI gl)) (C := RX4) (T := TX4) (N := 11) hx hb hts iw4 hown hK hP 0 rfl rfl 7 (by decide) fw1 (fun _ h9 => h9) rfl dX4_hasGleaner_2 ?_
  have hs1 : kw_Split [(nw, .inr (4, [.ref kk, .ref nk, .ref nd, .ref ne, .ref nm, .ref nn, .int (nI fi), .int (nI gl), .int (nI un), .int (nI mi), .int (nI no)]))] [] [(nw, .inr (4, [.ref kk, .ref nk, .ref nd, .ref ne, .ref nm, .ref nn, .int (nI fi), .int (nI gl), .int (nI un), .int (nI mi), .int (nI no)]))] [] [0] := ⟨rfl, rfl, rfl, rfl, rfl, by decide⟩
  refine kw_go_i hs1 hP hD hS hA (va_runSN (As := [.int x, .int (nI gl)]) (rest := []) ⟨hx, hb, hml, hown, hts⟩ (gc_isBelow l D y x gl (by omega) _) ⟨va_cnB 2 hts gX4_hasGleaner_X10_isBelow_n73 rfl rfl rfl (hN.1 ("GleanDusk$Parish", 73, yX10_isBelow) (List.mem_of_getElem? (i := 15) rfl)) fw2 (by decide +kernel) ⟨Nat.le_of_ble_eq_true rfl, Nat.le_of_ble_eq_true rfl⟩, fw3, trivial⟩ (kw_PreS hs1 hP hD hK hN) rfl rfl hl.1 rfl (lv_room (Nat.le_of_ble_eq_true rfl)) dX4_hasGleaner_5 ⟨Nat.le_of_ble_eq_true rfl, Nat.le_of_ble_eq_true rfl⟩) (fun r2 u3 H locs hq hP hD hS => ?_)
  rcases hq with ⟨j4, h5, rfl, rfl⟩ | ⟨h6, rfl⟩
  · skip
    have hP : va_P D vwCl [(nw, .inr (4, [.ref kk, .ref nk, .ref nd, .ref ne, .ref nm, .ref nn, .int (nI fi), .int (nI gl), .int (nI un), .int (nI mi), .int (nI no)]))] H := hP
    have hD : va_D A [(nw, .inr (4, [.ref kk, .ref nk, .ref nd, .ref ne, .ref nm, .ref nn, .int (nI fi), .int (nI gl), .int (nI un), .int (nI mi), .int (nI no)]))] := hD
    exact W.zret (v := 1) hx hb hr (by decide) (fun tZ ht hW => ⟨⟨1, (), rfl, Or.inl ⟨j4, h5, rfl, rfl⟩, by rw [ht]; exact hP.sub [0] rfl, hD.sub [0] (by decide) rfl⟩, hS.F ht⟩) hS.2.2 dX4_hasGleaner_8
  · skip
    have hP : va_P D vwCl [(nw, .inr (4, [.ref kk, .ref nk, .ref nd, .ref ne, .ref nm, .ref nn, .int (nI fi), .int (nI gl), .int (nI un), .int (nI mi), .int (nI no)]))] H := hP
    have hD : va_D A [(nw, .inr (4, [.ref kk, .ref nk, .ref nd, .ref ne, .ref nm, .ref nn, .int (nI fi), .int (nI gl), .int (nI un), .int (nI mi), .int (nI no)]))] := hD
    exact W.zret (v := 0) hx hb hr (by decide) (fun tZ ht hW => ⟨⟨0, (), rfl, Or.inr (⟨h6, rfl⟩), by rw [ht]; exact hP.sub [0] rfl, hD.sub [0] (by decide) rfl⟩, hS.F ht⟩) hS.2.2 dX4_hasGleaner_8

set_option maxHeartbeats 4000000 in
set_option maxRecDepth 100000 in
theorem gc_dbecome (l : Launch) (D : va_G) (y : Nat → ClassId) (d : Nat) (dl : Nat) (da : Nat) (ds : Nat) (dst : Int32) (dcl : Int32) (dnu : Int32) (dfl : Nat → Int32) (dfa : Nat → Int32) (dfs : Nat → Int32) (o : Nat) (ol : Nat) (oa : Nat) (os : Nat) (ost : Int32) (ocl : Int32) (onu : Int32) (ofl : Nat → Int32) (ofa : Nat → Int32) (ofs : Nat → Int32) (hda : kw_bd 6 5 dfa) (hoa : kw_bd 6 5 ofa) : kw_Mv l yX1_become wsX1_become ({ frames := 1, cells := 0, slots := 0, locals := 60 }) D y [.ref d, .ref o] [(d, .inr (1, [.ref dl, .ref da, .ref ds, .int dst, .int dcl, .int dnu])), (dl, .inl (y 0, 6, .inl dfl)), (da, .inl (y 0, 5, .inl dfa)), (ds, .inl (y 0, 5, .inl dfs)), (o, .inr (1, [.ref ol, .ref oa, .ref os, .int ost, .int ocl, .int onu])), (ol, .inl (y 0, 6, .inl ofl)), (oa, .inl (y 0, 5, .inl ofa)), (os, .inl (y 0, 5, .inl ofs))] (fun (u : Unit) => kw_bd 6 5 (va_cpy ofa dfa 0 0 5)) (fun _ => [(d, .inr (1, [.ref dl, .ref da, .ref ds, .int ost, .int ocl, .int onu])), (dl, .inl (y 0, 6, .inl (va_cpy ofl dfl 0 0 6))), (da, .inl (y 0, 5, .inl (va_cpy ofa dfa 0 0 5))), (ds, .inl (y 0, 5, .inl (va_cpy ofs dfs 0 0 5))), (o, .inr (1, [.ref ol, .ref oa, .ref os, .int ost, .int ocl, .int onu])), (ol, .inl (y 0, 6, .inl ofl)), (oa, .inl (y 0, 5, .inl ofa)), (os, .inl (y 0, 5, .inl ofs))]) 0 0 := by
  refine kw_Mv.of (cc := cX1_become) (maxL := 2) (ret := none) (by decide) rfl ?_
  intro pZ eZ s mZ beZ meZ cZ A hE
  obtain ⟨hx, hb, hr, hml, hts, hown, hlocks, hin, hA, hP, hD, hK, hN⟩ := hE
  have hS : va_S A s.heap s.heap [] := va_S.rf
  have hl := lv_entry ([.ref d, .ref o]) (n := 2) (Nat.le_of_ble_eq_true rfl)
  rw [lg_entry_eq]
  generalize (lg_sl ([.ref d, .ref o]) ++ List.replicate (2 - (lg_sl ([.ref d, .ref o])).length) Slot.unset).toArray = ls at hl ⊢
  have hl : lv_has ls 2 [(0, .ref d), (1, .ref o)] := hl
  have fw1 := hts (.fieldLink RX1 9 "GleanDusk$Dusk" "light" "[I") (List.mem_of_getElem? (i := 1) rfl)
  have fw2 := hts (.methodLink RX1 21 arraycopyName) (List.mem_of_getElem? (i := 2) rfl)
  have fw3 := hts (.native arraycopyName) (List.mem_of_getElem? (i := 3) rfl)
  have fw4 := hts (.static arraycopyName) (List.mem_of_getElem? (i := 4) rfl)
  have fw5 := hts (.initialized "java/lang/System") (List.mem_of_getElem? (i := 5) rfl)
  have fw6 := hts (.fieldLink RX1 15 "GleanDusk$Dusk" "at" "[I") (List.mem_of_getElem? (i := 6) rfl)
  have fw7 := hts (.fieldLink RX1 18 "GleanDusk$Dusk" "store" "[I") (List.mem_of_getElem? (i := 7) rfl)
  have fw8 := hts (.fieldLink RX1 27 "GleanDusk$Dusk" "step" "I") (List.mem_of_getElem? (i := 8) rfl)
  have fw9 := hts (.fieldLink RX1 31 "GleanDusk$Dusk" "cloud" "I") (List.mem_of_getElem? (i := 9) rfl)
  have fw10 := hts (.fieldLink RX1 34 "GleanDusk$Dusk" "number" "I") (List.mem_of_getElem? (i := 10) rfl)
  have iw1 : ∀ w ∈ wsX10, w ∈ wsX1_become := fun _ h => List.mem_cons_of_mem _ (List.mem_append_right _ h)
  refine lv_aload_n hx hb dX1_become_0 rfl (lv_at hl 1 rfl) ?_
  refine va_get (D := D) (ci := 1) (v := .ref ol) (C := RX1) (T := TX1) (N := 6) hx hb hts iw1 hown hK hP 4 rfl rfl 0 (by decide) fw1 (fun _ h9 => h9) rfl dX1_become_1 ?_
  refine lv_iconst (v := 0) hx hb dX1_become_4 (by decide) ?_
  refine lv_aload_n hx hb dX1_become_5 rfl (lv_at hl 0 rfl) ?_
  refine va_get (D := D) (ci := 1) (v := .ref dl) (C := RX1) (T := TX1) (N := 6) hx hb hts iw1 hown hK hP 0 rfl rfl 0 (by decide) fw1 (fun _ h9 => h9) rfl dX1_become_6 ?_
  refine lv_iconst (v := 0) hx hb dX1_become_9 (by decide) ?_
  refine lv_bipush (v := 6) hx hb dX1_become_10 (by decide) ?_
  refine va_copyi hx hb (hml.trans hl.1.symm) hown fw2 fw3 fw4 fw5 hK hP hD hS 5 1 0 0 rfl rfl rfl rfl rfl (by decide) (by decide) (by decide) (by decide) (by decide) (fun _ _ => rfl) (Nat.le_of_ble_eq_true rfl) (Nat.le_of_ble_eq_true rfl) dX1_become_12 (fun H locs hP hD hS => ?_)
  rw [show ((0 : Int32)).toNatClampNeg = 0 from rfl, show ((6 : Int32)).toNatClampNeg = 6 from rfl] at hP hD
  have hP : va_P D vwCl [(d, .inr (1, [.ref dl, .ref da, .ref ds, .int dst, .int dcl, .int dnu])), (dl, .inl (y 0, 6, .inl (va_cpy ofl dfl 0 0 6))), (da, .inl (y 0, 5, .inl dfa)), (ds, .inl (y 0, 5, .inl dfs)), (o, .inr (1, [.ref ol, .ref oa, .ref os, .int ost, .int ocl, .int onu])), (ol, .inl (y 0, 6, .inl ofl)), (oa, .inl (y 0, 5, .inl ofa)), (os, .inl (y 0, 5, .inl ofs))] H := hP
  have hD : va_D A [(d, .inr (1, [.ref dl, .ref da, .ref ds, .int dst, .int dcl, .int dnu])), (dl, .inl (y 0, 6, .inl (va_cpy ofl dfl 0 0 6))), (da, .inl (y 0, 5, .inl dfa)), (ds, .inl (y 0, 5, .inl dfs)), (o, .inr (1, [.ref ol, .ref oa, .ref os, .int ost, .int ocl, .int onu])), (ol, .inl (y 0, 6, .inl ofl)), (oa, .inl (y 0, 5, .inl ofa)), (os, .inl (y 0, 5, .inl ofs))] := hD
  refine lv_aload_n hx hb dX1_become_15 rfl (lv_at hl 1 rfl) ?_
  refine va_get (D := D) (ci := 1) (v := .ref oa) (C := RX1) (T := TX1) (N := 6) hx hb hts iw1 hown hK hP 4 rfl rfl 1 (by decide) fw6 (fun _ h9 => h9) rfl dX1_become_16 ?_
  refine lv_iconst (v := 0) hx hb dX1_become_19 (by decide) ?_
  refine lv_aload_n hx hb dX1_become_20 rfl (lv_at hl 0 rfl) ?_
  refine va_get (D := D) (ci := 1) (v := .ref da) (C := RX1) (T := TX1) (N := 6) hx hb hts iw1 hown hK hP 0 rfl rfl 1 (by decide) fw6 (fun _ h9 => h9) rfl dX1_become_21 ?_
  refine lv_iconst (v := 0) hx hb dX1_become_24 (by decide) ?_
  refine lv_iconst (v := 5) hx hb dX1_become_25 (by decide) ?_
  refine va_copyi hx hb (hml.trans hl.1.symm) hown fw2 fw3 fw4 fw5 hK hP hD hS 6 2 0 0 rfl rfl rfl rfl rfl (by decide) (by decide) (by decide) (by decide) (by decide) (fun _ _ => rfl) (Nat.le_of_ble_eq_true rfl) (Nat.le_of_ble_eq_true rfl) dX1_become_26 (fun H locs hP hD hS => ?_)
  rw [show ((0 : Int32)).toNatClampNeg = 0 from rfl, show ((5 : Int32)).toNatClampNeg = 5 from rfl] at hP hD
  have hb1 : kw_bd 6 5 (va_cpy ofa dfa 0 0 5) := kw_bdc hoa hda (by omega)
  have hP : va_P D vwCl [(d, .inr (1, [.ref dl, .ref da, .ref ds, .int dst, .int dcl, .int dnu])), (dl, .inl (y 0, 6, .inl (va_cpy ofl dfl 0 0 6))), (da, .inl (y 0, 5, .inl (va_cpy ofa dfa 0 0 5))), (ds, .inl (y 0, 5, .inl dfs)), (o, .inr (1, [.ref ol, .ref oa, .ref os, .int ost, .int ocl, .int onu])), (ol, .inl (y 0, 6, .inl ofl)), (oa, .inl (y 0, 5, .inl ofa)), (os, .inl (y 0, 5, .inl ofs))] H := hP
  have hD : va_D A [(d, .inr (1, [.ref dl, .ref da, .ref ds, .int dst, .int dcl, .int dnu])), (dl, .inl (y 0, 6, .inl (va_cpy ofl dfl 0 0 6))), (da, .inl (y 0, 5, .inl (va_cpy ofa dfa 0 0 5))), (ds, .inl (y 0, 5, .inl dfs)), (o, .inr (1, [.ref ol, .ref oa, .ref os, .int ost, .int ocl, .int onu])), (ol, .inl (y 0, 6, .inl ofl)), (oa, .inl (y 0, 5, .inl ofa)), (os, .inl (y 0, 5, .inl ofs))] := hD
  refine lv_aload_n hx hb dX1_become_29 rfl (lv_at hl 1 rfl) ?_
  refine va_get (D := D) (ci := 1) (v := .ref os) (C := RX1) (T := TX1) (N := 6) hx hb hts iw1 hown hK hP 4 rfl rfl 2 (by decide) fw7 (fun _ h9 => h9) rfl dX1_become_30 ?_
  refine lv_iconst (v := 0) hx hb dX1_become_33 (by decide) ?_
  refine lv_aload_n hx hb dX1_become_34 rfl (lv_at hl 0 rfl) ?_
  refine va_get (D := D) (ci := 1) (v := .ref ds) (C := RX1) (T := TX1) (N := 6) hx hb hts iw1 hown hK hP 0 rfl rfl 2 (by decide) fw7 (fun _ h9 => h9) rfl dX1_become_35 ?_
  refine lv_iconst (v := 0) hx hb dX1_become_38 (by decide) ?_
  refine lv_iconst (v := 5) hx hb dX1_become_39 (by decide) ?_
  refine va_copyi hx hb (hml.trans hl.1.symm) hown fw2 fw3 fw4 fw5 hK hP hD hS 7 3 0 0 rfl rfl rfl rfl rfl (by decide) (by decide) (by decide) (by decide) (by decide) (fun _ _ => rfl) (Nat.le_of_ble_eq_true rfl) (Nat.le_of_ble_eq_true rfl) dX1_become_40 (fun H locs hP hD hS => ?_)
  rw [show ((0 : Int32)).toNatClampNeg = 0 from rfl, show ((5 : Int32)).toNatClampNeg = 5 from rfl] at hP hD
  have hP : va_P D vwCl [(d, .inr (1, [.ref dl, .ref da, .ref ds, .int dst, .int dcl, .int dnu])), (dl, .inl (y 0, 6, .inl (va_cpy ofl dfl 0 0 6))), (da, .inl (y 0, 5, .inl (va_cpy ofa dfa 0 0 5))), (ds, .inl (y 0, 5, .inl (va_cpy ofs dfs 0 0 5))), (o, .inr (1, [.ref ol, .ref oa, .ref os, .int ost, .int ocl, .int onu])), (ol, .inl (y 0, 6, .inl ofl)), (oa, .inl (y 0, 5, .inl ofa)), (os, .inl (y 0, 5, .inl ofs))] H := hP
  have hD : va_D A [(d, .inr (1, [.ref dl, .ref da, .ref ds, .int dst, .int dcl, .int dnu])), (dl, .inl (y 0, 6, .inl (va_cpy ofl dfl 0 0 6))), (da, .inl (y 0, 5, .inl (va_cpy ofa dfa 0 0 5))), (ds, .inl (y 0, 5, .inl (va_cpy ofs dfs 0 0 5))), (o, .inr (1, [.ref ol, .ref oa, .ref os, .int ost, .int ocl, .int onu])), (ol, .inl (y 0, 6, .inl ofl)), (oa, .inl (y 0, 5, .inl ofa)), (os, .inl (y 0, 5, .inl ofs))] := hD
  refine lv_aload_n hx hb dX1_become_43 rfl (lv_at hl 0 rfl) ?_
  refine lv_aload_n hx hb dX1_become_44 rfl (lv_at hl 1 rfl) ?_
  refine va_get (D := D) (ci := 1) (v := .int ost) (C := RX1) (T := TX1) (N := 6) hx hb hts iw1 hown hK hP 4 rfl rfl 3 (by decide) fw8 (fun _ h9 => h9) rfl dX1_become_45 ?_
  refine va_put (D := D) (ci := 1) (v := .int ost) (ty := .int) (C := RX1) (T := TX1) (N := 6) hx hb hts iw1 tyX1 tyX1_ok nmX1 hown hK hP hD hS 0 rfl rfl 3 (by decide) fw8 (fun _ h9 => h9) rfl (by decide +kernel) rfl rfl (Nat.le_of_ble_eq_true rfl) dX1_become_48 (fun H locs hP hD hS => ?_)
  have hP : va_P D vwCl [(d, .inr (1, [.ref dl, .ref da, .ref ds, .int ost, .int dcl, .int dnu])), (dl, .inl (y 0, 6, .inl (va_cpy ofl dfl 0 0 6))), (da, .inl (y 0, 5, .inl (va_cpy ofa dfa 0 0 5))), (ds, .inl (y 0, 5, .inl (va_cpy ofs dfs 0 0 5))), (o, .inr (1, [.ref ol, .ref oa, .ref os, .int ost, .int ocl, .int onu])), (ol, .inl (y 0, 6, .inl ofl)), (oa, .inl (y 0, 5, .inl ofa)), (os, .inl (y 0, 5, .inl ofs))] H := hP
  have hD : va_D A [(d, .inr (1, [.ref dl, .ref da, .ref ds, .int ost, .int dcl, .int dnu])), (dl, .inl (y 0, 6, .inl (va_cpy ofl dfl 0 0 6))), (da, .inl (y 0, 5, .inl (va_cpy ofa dfa 0 0 5))), (ds, .inl (y 0, 5, .inl (va_cpy ofs dfs 0 0 5))), (o, .inr (1, [.ref ol, .ref oa, .ref os, .int ost, .int ocl, .int onu])), (ol, .inl (y 0, 6, .inl ofl)), (oa, .inl (y 0, 5, .inl ofa)), (os, .inl (y 0, 5, .inl ofs))] := hD
  refine lv_aload_n hx hb dX1_become_51 rfl (lv_at hl 0 rfl) ?_
  refine lv_aload_n hx hb dX1_become_52 rfl (lv_at hl 1 rfl) ?_
  refine va_get (D := D) (ci := 1) (v := .int ocl) (C := RX1) (T := TX1) (N := 6) hx hb hts iw1 hown hK hP 4 rfl rfl 4 (by decide) fw9 (fun _ h9 => h9) rfl dX1_become_53 ?_
  refine va_put (D := D) (ci := 1) (v := .int ocl) (ty := .int) (C := RX1) (T := TX1) (N := 6) hx hb hts iw1 tyX1 tyX1_ok nmX1 hown hK hP hD hS 0 rfl rfl 4 (by decide) fw9 (fun _ h9 => h9) rfl (by decide +kernel) rfl rfl (Nat.le_of_ble_eq_true rfl) dX1_become_56 (fun H locs hP hD hS => ?_)
  have hP : va_P D vwCl [(d, .inr (1, [.ref dl, .ref da, .ref ds, .int ost, .int ocl, .int dnu])), (dl, .inl (y 0, 6, .inl (va_cpy ofl dfl 0 0 6))), (da, .inl (y 0, 5, .inl (va_cpy ofa dfa 0 0 5))), (ds, .inl (y 0, 5, .inl (va_cpy ofs dfs 0 0 5))), (o, .inr (1, [.ref ol, .ref oa, .ref os, .int ost, .int ocl, .int onu])), (ol, .inl (y 0, 6, .inl ofl)), (oa, .inl (y 0, 5, .inl ofa)), (os, .inl (y 0, 5, .inl ofs))] H := hP
  have hD : va_D A [(d, .inr (1, [.ref dl, .ref da, .ref ds, .int ost, .int ocl, .int dnu])), (dl, .inl (y 0, 6, .inl (va_cpy ofl dfl 0 0 6))), (da, .inl (y 0, 5, .inl (va_cpy ofa dfa 0 0 5))), (ds, .inl (y 0, 5, .inl (va_cpy ofs dfs 0 0 5))), (o, .inr (1, [.ref ol, .ref oa, .ref os, .int ost, .int ocl, .int onu])), (ol, .inl (y 0, 6, .inl ofl)), (oa, .inl (y 0, 5, .inl ofa)), (os, .inl (y 0, 5, .inl ofs))] := hD
  refine lv_aload_n hx hb dX1_become_59 rfl (lv_at hl 0 rfl) ?_
  refine lv_aload_n hx hb dX1_become_60 rfl (lv_at hl 1 rfl) ?_
  refine va_get (D := D) (ci := 1) (v := .int onu) (C := RX1) (T := TX1) (N := 6) hx hb hts iw1 hown hK hP 4 rfl rfl 5 (by decide) fw10 (fun _ h9 => h9) rfl dX1_become_61 ?_
  refine va_put (D := D) (ci := 1) (v := .int onu) (ty := .int) (C := RX1) (T := TX1) (N := 6) hx hb hts iw1 tyX1 tyX1_ok nmX1 hown hK hP hD hS 0 rfl rfl 5 (by decide) fw10 (fun _ h9 => h9) rfl (by decide +kernel) rfl rfl (Nat.le_of_ble_eq_true rfl) dX1_become_64 (fun H locs hP hD hS => ?_)
  have hP : va_P D vwCl [(d, .inr (1, [.ref dl, .ref da, .ref ds, .int ost, .int ocl, .int onu])), (dl, .inl (y 0, 6, .inl (va_cpy ofl dfl 0 0 6))), (da, .inl (y 0, 5, .inl (va_cpy ofa dfa 0 0 5))), (ds, .inl (y 0, 5, .inl (va_cpy ofs dfs 0 0 5))), (o, .inr (1, [.ref ol, .ref oa, .ref os, .int ost, .int ocl, .int onu])), (ol, .inl (y 0, 6, .inl ofl)), (oa, .inl (y 0, 5, .inl ofa)), (os, .inl (y 0, 5, .inl ofs))] H := hP
  have hD : va_D A [(d, .inr (1, [.ref dl, .ref da, .ref ds, .int ost, .int ocl, .int onu])), (dl, .inl (y 0, 6, .inl (va_cpy ofl dfl 0 0 6))), (da, .inl (y 0, 5, .inl (va_cpy ofa dfa 0 0 5))), (ds, .inl (y 0, 5, .inl (va_cpy ofs dfs 0 0 5))), (o, .inr (1, [.ref ol, .ref oa, .ref os, .int ost, .int ocl, .int onu])), (ol, .inl (y 0, 6, .inl ofl)), (oa, .inl (y 0, 5, .inl ofa)), (os, .inl (y 0, 5, .inl ofs))] := hD
  exact W.vret hx hb hr (fun tZ ht hW => ⟨⟨(), rfl, hb1, by rw [ht]; exact hP.sub [0, 1, 2, 3, 4, 5, 6, 7] rfl, hD.sub [0, 1, 2, 3, 4, 5, 6, 7] (by decide) rfl⟩, hS.F ht⟩) hS.2.2 dX1_become_67

set_option maxHeartbeats 4000000 in
set_option maxRecDepth 100000 in
theorem gc_begin (l : Launch) (D : va_G) (y : Nat → ClassId) (nw : Nat) (kk : Nat) (nk : Nat) (nd : Nat) (ne : Nat) (nm : Nat) (nn : Nat) (fi : Nat) (gl : Nat) (un : Nat) (mi : Nat) (no : Nat) (x : Int32) (nd : Nat) (nl : Nat) (na : Nat) (ns : Nat) (nst : Int32) (ncl : Int32) (nnu : Int32) (hfi : fi ≤ 6) (hgl : gl ≤ 5) (hun : un ≤ 8) (hmi : mi ≤ 4) (hno : no ≤ 6) : kw_Mv l yX4_begin wsX4_begin ({ frames := 1, cells := 0, slots := 0, locals := 60 }) D y [.ref nw, .int x] [(nw, .inr (4, [.ref kk, .ref nk, .ref nd, .ref ne, .ref nm, .ref nn, .int (nI fi), .int (nI gl), .int (nI un), .int (nI mi), .int (nI no)])), (nd, .inr (1, [.ref nl, .ref na, .ref ns, .int nst, .int ncl, .int nnu]))] (fun (u : Unit) => True) (fun _ => [(nw, .inr (4, [.ref kk, .ref nk, .ref nd, .ref ne, .ref nm, .ref nn, .int 0, .int 0, .int 0, .int 0, .int 0])), (nd, .inr (1, [.ref nl, .ref na, .ref ns, .int 0, .int x, .int 0]))]) 0 0 := by
  refine kw_Mv.of (cc := cX4_begin) (maxL := 2) (ret := none) (by decide) rfl ?_
  intro pZ eZ s mZ beZ meZ cZ A hE
  obtain ⟨hx, hb, hr, hml, hts, hown, hlocks, hin, hA, hP, hD, hK, hN⟩ := hE
  have hS : va_S A s.heap s.heap [] := va_S.rf
  have hl := lv_entry ([.ref nw, .int x]) (n := 2) (Nat.le_of_ble_eq_true rfl)
  rw [lg_entry_eq]
  generalize (lg_sl ([.ref nw, .int x]) ++ List.replicate (2 - (lg_sl ([.ref nw, .int x])).length) Slot.unset).toArray = ls at hl ⊢
  have hl : lv_has ls 2 [(0, .ref nw), (1, .int x)] := hl
  have fw1 := hts (.fieldLink RX4 38 "GleanDusk$Parish" "fields" "I") (List.mem_of_getElem? (i := 1) rfl)
  have fw2 := hts (.fieldLink RX4 42 "GleanDusk$Parish" "gleaners" "I") (List.mem_of_getElem? (i := 2) rfl)
  have fw3 := hts (.fieldLink RX4 45 "GleanDusk$Parish" "undoable" "I") (List.mem_of_getElem? (i := 3) rfl)
  have fw4 := hts (.fieldLink RX4 48 "GleanDusk$Parish" "missedCount" "I") (List.mem_of_getElem? (i := 4) rfl)
  have fw5 := hts (.fieldLink RX4 51 "GleanDusk$Parish" "noteCount" "I") (List.mem_of_getElem? (i := 5) rfl)
  have fw6 := hts (.fieldLink RX4 18 "GleanDusk$Parish" "dusk" "LGleanDusk$Dusk;") (List.mem_of_getElem? (i := 6) rfl)
  have fw7 := hts (.fieldLink RX4 54 "GleanDusk$Dusk" "step" "I") (List.mem_of_getElem? (i := 7) rfl)
  have fw8 := hts (.fieldLink RX4 57 "GleanDusk$Dusk" "cloud" "I") (List.mem_of_getElem? (i := 8) rfl)
  have fw9 := hts (.fieldLink RX4 60 "GleanDusk$Dusk" "number" "I") (List.mem_of_getElem? (i := 9) rfl)
  have iw4 : ∀ w ∈ wsX40, w ∈ wsX4_begin := fun _ h => List.mem_cons_of_mem _ (List.mem_append_left _ (List.mem_append_right _ h))
  have iw1 : ∀ w ∈ wsX10, w ∈ wsX4_begin := fun _ h => List.mem_cons_of_mem _ (List.mem_append_right _ h)
  refine lv_aload_n hx hb dX4_begin_0 rfl (lv_at hl 0 rfl) ?_
  refine lv_iconst (v := 0) hx hb dX4_begin_1 (by decide) ?_
  refine va_put (D := D) (ci := 4) (v := .int 0) (ty := .int) (C := RX4) (T := TX4) (N := 11) hx hb hts iw4 tyX4 tyX4_ok nmX4 hown hK hP hD hS 0 rfl rfl 6 (by decide) fw1 (fun _ h9 => h9) rfl (by decide +kernel) rfl rfl (Nat.le_of_ble_eq_true rfl) dX4_begin_2 (fun H locs hP hD hS => ?_)
  have hP : va_P D vwCl [(nw, .inr (4, [.ref kk, .ref nk, .ref nd, .ref ne, .ref nm, .ref nn, .int 0, .int (nI gl), .int (nI un), .int (nI mi), .int (nI no)])), (nd, .inr (1, [.ref nl, .ref na, .ref ns, .int nst, .int ncl, .int nnu]))] H := hP
  have hD : va_D A [(nw, .inr (4, [.ref kk, .ref nk, .ref nd, .ref ne, .ref nm, .ref nn, .int 0, .int (nI gl), .int (nI un), .int (nI mi), .int (nI no)])), (nd, .inr (1, [.ref nl, .ref na, .ref ns, .int nst, .int ncl, .int nnu]))] := hD
  refine lv_aload_n hx hb dX4_begin_5 rfl (lv_at hl 0 rfl) ?_
  refine lv_iconst (v := 0) hx hb dX4_begin_6 (by decide) ?_
  refine va_put (D := D) (ci := 4) (v := .int 0) (ty := .int) (C := RX4) (T := TX4) (N := 11) hx hb hts iw4 tyX4 tyX4_ok nmX4 hown hK hP hD hS 0 rfl rfl 7 (by decide) fw2 (fun _ h9 => h9) rfl (by decide +kernel) rfl rfl (Nat.le_of_ble_eq_true rfl) dX4_begin_7 (fun H locs hP hD hS => ?_)
  have hP : va_P D vwCl [(nw, .inr (4, [.ref kk, .ref nk, .ref nd, .ref ne, .ref nm, .ref nn, .int 0, .int 0, .int (nI un), .int (nI mi), .int (nI no)])), (nd, .inr (1, [.ref nl, .ref na, .ref ns, .int nst, .int ncl, .int nnu]))] H := hP
  have hD : va_D A [(nw, .inr (4, [.ref kk, .ref nk, .ref nd, .ref ne, .ref nm, .ref nn, .int 0, .int 0, .int (nI un), .int (nI mi), .int (nI no)])), (nd, .inr (1, [.ref nl, .ref na, .ref ns, .int nst, .int ncl, .int nnu]))] := hD
  refine lv_aload_n hx hb dX4_begin_10 rfl (lv_at hl 0 rfl) ?_
  refine lv_iconst (v := 0) hx hb dX4_begin_11 (by decide) ?_
  refine va_put (D := D) (ci := 4) (v := .int 0) (ty := .int) (C := RX4) (T := TX4) (N := 11) hx hb hts iw4 tyX4 tyX4_ok nmX4 hown hK hP hD hS 0 rfl rfl 8 (by decide) fw3 (fun _ h9 => h9) rfl (by decide +kernel) rfl rfl (Nat.le_of_ble_eq_true rfl) dX4_begin_12 (fun H locs hP hD hS => ?_)
  have hP : va_P D vwCl [(nw, .inr (4, [.ref kk, .ref nk, .ref nd, .ref ne, .ref nm, .ref nn, .int 0, .int 0, .int 0, .int (nI mi), .int (nI no)])), (nd, .inr (1, [.ref nl, .ref na, .ref ns, .int nst, .int ncl, .int nnu]))] H := hP
  have hD : va_D A [(nw, .inr (4, [.ref kk, .ref nk, .ref nd, .ref ne, .ref nm, .ref nn, .int 0, .int 0, .int 0, .int (nI mi), .int (nI no)])), (nd, .inr (1, [.ref nl, .ref na, .ref ns, .int nst, .int ncl, .int nnu]))] := hD
  refine lv_aload_n hx hb dX4_begin_15 rfl (lv_at hl 0 rfl) ?_
  refine lv_iconst (v := 0) hx hb dX4_begin_16 (by decide) ?_
  refine va_put (D := D) (ci := 4) (v := .int 0) (ty := .int) (C := RX4) (T := TX4) (N := 11) hx hb hts iw4 tyX4 tyX4_ok nmX4 hown hK hP hD hS 0 rfl rfl 9 (by decide) fw4 (fun _ h9 => h9) rfl (by decide +kernel) rfl rfl (Nat.le_of_ble_eq_true rfl) dX4_begin_17 (fun H locs hP hD hS => ?_)
  have hP : va_P D vwCl [(nw, .inr (4, [.ref kk, .ref nk, .ref nd, .ref ne, .ref nm, .ref nn, .int 0, .int 0, .int 0, .int 0, .int (nI no)])), (nd, .inr (1, [.ref nl, .ref na, .ref ns, .int nst, .int ncl, .int nnu]))] H := hP
  have hD : va_D A [(nw, .inr (4, [.ref kk, .ref nk, .ref nd, .ref ne, .ref nm, .ref nn, .int 0, .int 0, .int 0, .int 0, .int (nI no)])), (nd, .inr (1, [.ref nl, .ref na, .ref ns, .int nst, .int ncl, .int nnu]))] := hD
  refine lv_aload_n hx hb dX4_begin_20 rfl (lv_at hl 0 rfl) ?_
  refine lv_iconst (v := 0) hx hb dX4_begin_21 (by decide) ?_
  refine va_put (D := D) (ci := 4) (v := .int 0) (ty := .int) (C := RX4) (T := TX4) (N := 11) hx hb hts iw4 tyX4 tyX4_ok nmX4 hown hK hP hD hS 0 rfl rfl 10 (by decide) fw5 (fun _ h9 => h9) rfl (by decide +kernel) rfl rfl (Nat.le_of_ble_eq_true rfl) dX4_begin_22 (fun H locs hP hD hS => ?_)
  have hP : va_P D vwCl [(nw, .inr (4, [.ref kk, .ref nk, .ref nd, .ref ne, .ref nm, .ref nn, .int 0, .int 0, .int 0, .int 0, .int 0])), (nd, .inr (1, [.ref nl, .ref na, .ref ns, .int nst, .int ncl, .int nnu]))] H := hP
  have hD : va_D A [(nw, .inr (4, [.ref kk, .ref nk, .ref nd, .ref ne, .ref nm, .ref nn, .int 0, .int 0, .int 0, .int 0, .int 0])), (nd, .inr (1, [.ref nl, .ref na, .ref ns, .int nst, .int ncl, .int nnu]))] := hD
  refine lv_aload_n hx hb dX4_begin_25 rfl (lv_at hl 0 rfl) ?_
  refine va_get (D := D) (ci := 4) (v := .ref nd) (C := RX4) (T := TX4) (N := 11) hx hb hts iw4 hown hK hP 0 rfl rfl 2 (by decide) fw6 (fun _ h9 => h9) rfl dX4_begin_26 ?_
  refine lv_iconst (v := 0) hx hb dX4_begin_29 (by decide) ?_
  refine va_put (D := D) (ci := 1) (v := .int 0) (ty := .int) (C := RX1) (T := TX1) (N := 6) hx hb hts iw1 tyX1 tyX1_ok nmX1 hown hK hP hD hS 1 rfl rfl 3 (by decide) fw7 (fun _ h9 => h9) rfl (by decide +kernel) rfl rfl (Nat.le_of_ble_eq_true rfl) dX4_begin_30 (fun H locs hP hD hS => ?_)
  have hP : va_P D vwCl [(nw, .inr (4, [.ref kk, .ref nk, .ref nd, .ref ne, .ref nm, .ref nn, .int 0, .int 0, .int 0, .int 0, .int 0])), (nd, .inr (1, [.ref nl, .ref na, .ref ns, .int 0, .int ncl, .int nnu]))] H := hP
  have hD : va_D A [(nw, .inr (4, [.ref kk, .ref nk, .ref nd, .ref ne, .ref nm, .ref nn, .int 0, .int 0, .int 0, .int 0, .int 0])), (nd, .inr (1, [.ref nl, .ref na, .ref ns, .int 0, .int ncl, .int nnu]))] := hD
  refine lv_aload_n hx hb dX4_begin_33 rfl (lv_at hl 0 rfl) ?_
  refine va_get (D := D) (ci := 4) (v := .ref nd) (C := RX4) (T := TX4) (N := 11) hx hb hts iw4 hown hK hP 0 rfl rfl 2 (by decide) fw6 (fun _ h9 => h9) rfl dX4_begin_34 ?_
  refine lv_iload_n hx hb dX4_begin_37 rfl (lv_at hl 1 rfl) ?_
  refine va_put (D := D) (ci := 1) (v := .int x) (ty := .int) (C := RX1) (T := TX1) (N := 6) hx hb hts iw1 tyX1 tyX1_ok nmX1 hown hK hP hD hS 1 rfl rfl 4 (by decide) fw8 (fun _ h9 => h9) rfl (by decide +kernel) rfl rfl (Nat.le_of_ble_eq_true rfl) dX4_begin_38 (fun H locs hP hD hS => ?_)
  have hP : va_P D vwCl [(nw, .inr (4, [.ref kk, .ref nk, .ref nd, .ref ne, .ref nm, .ref nn, .int 0, .int 0, .int 0, .int 0, .int 0])), (nd, .inr (1, [.ref nl, .ref na, .ref ns, .int 0, .int x, .int nnu]))] H := hP
  have hD : va_D A [(nw, .inr (4, [.ref kk, .ref nk, .ref nd, .ref ne, .ref nm, .ref nn, .int 0, .int 0, .int 0, .int 0, .int 0])), (nd, .inr (1, [.ref nl, .ref na, .ref ns, .int 0, .int x, .int nnu]))] := hD
  refine lv_aload_n hx hb dX4_begin_41 rfl (lv_at hl 0 rfl) ?_
  refine va_get (D := D) (ci := 4) (v := .ref nd) (C := RX4) (T := TX4) (N := 11) hx hb hts iw4 hown hK hP 0 rfl rfl 2 (by decide) fw6 (fun _ h9 => h9) rfl dX4_begin_42 ?_
  refine lv_iconst (v := 0) hx hb dX4_begin_45 (by decide) ?_
  refine va_put (D := D) (ci := 1) (v := .int 0) (ty := .int) (C := RX1) (T := TX1) (N := 6) hx hb hts iw1 tyX1 tyX1_ok nmX1 hown hK hP hD hS 1 rfl rfl 5 (by decide) fw9 (fun _ h9 => h9) rfl (by decide +kernel) rfl rfl (Nat.le_of_ble_eq_true rfl) dX4_begin_46 (fun H locs hP hD hS => ?_)
  have hP : va_P D vwCl [(nw, .inr (4, [.ref kk, .ref nk, .ref nd, .ref ne, .ref nm, .ref nn, .int 0, .int 0, .int 0, .int 0, .int 0])), (nd, .inr (1, [.ref nl, .ref na, .ref ns, .int 0, .int x, .int 0]))] H := hP
  have hD : va_D A [(nw, .inr (4, [.ref kk, .ref nk, .ref nd, .ref ne, .ref nm, .ref nn, .int 0, .int 0, .int 0, .int 0, .int 0])), (nd, .inr (1, [.ref nl, .ref na, .ref ns, .int 0, .int x, .int 0]))] := hD
  exact W.vret hx hb hr (fun tZ ht hW => ⟨⟨(), rfl, trivial, by rw [ht]; exact hP.sub [0, 1] rfl, hD.sub [0, 1] (by decide) rfl⟩, hS.F ht⟩) hS.2.2 dX4_begin_49

set_option maxHeartbeats 4000000 in
set_option maxRecDepth 100000 in
theorem gc_addField (l : Launch) (D : va_G) (y : Nat → ClassId) (nw : Nat) (kk : Nat) (nk : Nat) (nd : Nat) (ne : Nat) (nm : Nat) (nn : Nat) (fi : Nat) (gl : Nat) (un : Nat) (mi : Nat) (no : Nat) (k : Nat) (x : Int32) (nd : Nat) (nl : Nat) (na : Nat) (ns : Nat) (nst : Int32) (ncl : Int32) (nnu : Int32) (nfl : Nat → Int32) (fk : Nat → Int32) (hfi : fi ≤ 6) (hgl : gl ≤ 5) (hun : un ≤ 8) (hmi : mi ≤ 4) (hno : no ≤ 6) (hk : kw_bd 6 6 fk) (hlt : fi < 6) (hkk : k < 6) : kw_Mi l yX4_addField wsX4_addField ({ frames := 1, cells := 0, slots := 0, locals := 60 }) D y [.ref nw, .int (nI k), .int x] [(nw, .inr (4, [.ref kk, .ref nk, .ref nd, .ref ne, .ref nm, .ref nn, .int (nI fi), .int (nI gl), .int (nI un), .int (nI mi), .int (nI no)])), (nk, .inl (y 0, 6, .inl fk)), (nd, .inr (1, [.ref nl, .ref na, .ref ns, .int nst, .int ncl, .int nnu])), (nl, .inl (y 0, 6, .inl nfl))] (fun (r : Int32) (u : Unit) => kw_bd 6 6 (upd fk fi (nI k)) ∧ r = (nI fi)) (fun _ => [(nw, .inr (4, [.ref kk, .ref nk, .ref nd, .ref ne, .ref nm, .ref nn, .int (nI (fi + 1)), .int (nI gl), .int 0, .int (nI mi), .int (nI no)])), (nk, .inl (y 0, 6, .inl (upd fk fi (nI k)))), (nd, .inr (1, [.ref nl, .ref na, .ref ns, .int nst, .int ncl, .int nnu])), (nl, .inl (y 0, 6, .inl (upd nfl fi x)))]) 0 0 := by
  refine kw_Mi.of (cc := cX4_addField) (maxL := 3) (ret := (some .int)) (by decide) rfl ?_
  intro pZ eZ s mZ beZ meZ cZ A hE
  obtain ⟨hx, hb, hr, hml, hts, hown, hlocks, hin, hA, hP, hD, hK, hN⟩ := hE
  have hS : va_S A s.heap s.heap [] := va_S.rf
  have hl := lv_entry ([.ref nw, .int (nI k), .int x]) (n := 3) (Nat.le_of_ble_eq_true rfl)
  rw [lg_entry_eq]
  generalize (lg_sl ([.ref nw, .int (nI k), .int x]) ++ List.replicate (3 - (lg_sl ([.ref nw, .int (nI k), .int x])).length) Slot.unset).toArray = ls at hl ⊢
  have hl : lv_has ls 3 [(0, .ref nw), (1, .int (nI k)), (2, .int x)] := hl
  have fw1 := hts (.fieldLink RX4 9 "GleanDusk$Parish" "kind" "[I") (List.mem_of_getElem? (i := 1) rfl)
  have fw2 := hts (.fieldLink RX4 38 "GleanDusk$Parish" "fields" "I") (List.mem_of_getElem? (i := 2) rfl)
  have fw3 := hts (.fieldLink RX4 18 "GleanDusk$Parish" "dusk" "LGleanDusk$Dusk;") (List.mem_of_getElem? (i := 3) rfl)
  have fw4 := hts (.fieldLink RX4 77 "GleanDusk$Dusk" "light" "[I") (List.mem_of_getElem? (i := 4) rfl)
  have fw5 := hts (.fieldLink RX4 45 "GleanDusk$Parish" "undoable" "I") (List.mem_of_getElem? (i := 5) rfl)
  have iw4 : ∀ w ∈ wsX40, w ∈ wsX4_addField := fun _ h => List.mem_cons_of_mem _ (List.mem_append_left _ (List.mem_append_right _ h))
  have iw1 : ∀ w ∈ wsX10, w ∈ wsX4_addField := fun _ h => List.mem_cons_of_mem _ (List.mem_append_right _ h)
  refine lv_aload_n hx hb dX4_addField_0 rfl (lv_at hl 0 rfl) ?_
  refine va_get (D := D) (ci := 4) (v := .ref nk) (C := RX4) (T := TX4) (N := 11) hx hb hts iw4 hown hK hP 0 rfl rfl 1 (by decide) fw1 (fun _ h9 => h9) rfl dX4_addField_1 ?_
  refine lv_aload_n hx hb dX4_addField_4 rfl (lv_at hl 0 rfl) ?_
  refine va_get (D := D) (ci := 4) (v := .int (nI fi)) (C := RX4) (T := TX4) (N := 11) hx hb hts iw4 hown hK hP 0 rfl rfl 6 (by decide) fw2 (fun _ h9 => h9) rfl dX4_addField_5 ?_
  refine lv_iload_n hx hb dX4_addField_8 rfl (lv_at hl 1 rfl) ?_
  refine va_iast hx hb hK hP hD hS 1 0 rfl rfl (vp_in_nI (by omega) (by decide)) dX4_addField_9 (fun H locs hP hD hS => ?_)
  rw [nI_clamp (n := fi) (by omega)] at hP hD
  have hb1 : kw_bd 6 6 (upd fk fi (nI k)) := kw_bdu hk (vp_in_nI (by omega) (by decide))
  have hP : va_P D vwCl [(nw, .inr (4, [.ref kk, .ref nk, .ref nd, .ref ne, .ref nm, .ref nn, .int (nI fi), .int (nI gl), .int (nI un), .int (nI mi), .int (nI no)])), (nk, .inl (y 0, 6, .inl (upd fk fi (nI k)))), (nd, .inr (1, [.ref nl, .ref na, .ref ns, .int nst, .int ncl, .int nnu])), (nl, .inl (y 0, 6, .inl nfl))] H := hP
  have hD : va_D A [(nw, .inr (4, [.ref kk, .ref nk, .ref nd, .ref ne, .ref nm, .ref nn, .int (nI fi), .int (nI gl), .int (nI un), .int (nI mi), .int (nI no)])), (nk, .inl (y 0, 6, .inl (upd fk fi (nI k)))), (nd, .inr (1, [.ref nl, .ref na, .ref ns, .int nst, .int ncl, .int nnu])), (nl, .inl (y 0, 6, .inl nfl))] := hD
  refine lv_aload_n hx hb dX4_addField_10 rfl (lv_at hl 0 rfl) ?_
  refine va_get (D := D) (ci := 4) (v := .ref nd) (C := RX4) (T := TX4) (N := 11) hx hb hts iw4 hown hK hP 0 rfl rfl 2 (by decide) fw3 (fun _ h9 => h9) rfl dX4_addField_11 ?_
  refine va_get (D := D) (ci := 1) (v := .ref nl) (C := RX1) (T := TX1) (N := 6) hx hb hts iw1 hown hK hP 2 rfl rfl 0 (by decide) fw4 (fun _ h9 => h9) rfl dX4_addField_14 ?_
  refine lv_aload_n hx hb dX4_addField_17 rfl (lv_at hl 0 rfl) ?_
  refine va_get (D := D) (ci := 4) (v := .int (nI fi)) (C := RX4) (T := TX4) (N := 11) hx hb hts iw4 hown hK hP 0 rfl rfl 6 (by decide) fw2 (fun _ h9 => h9) rfl dX4_addField_18 ?_
  refine lv_iload_n hx hb dX4_addField_21 rfl (lv_at hl 2 rfl) ?_
  refine va_iast hx hb hK hP hD hS 3 0 rfl rfl (vp_in_nI (by omega) (by decide)) dX4_addField_22 (fun H locs hP hD hS => ?_)
  rw [nI_clamp (n := fi) (by omega)] at hP hD
  have hP : va_P D vwCl [(nw, .inr (4, [.ref kk, .ref nk, .ref nd, .ref ne, .ref nm, .ref nn, .int (nI fi), .int (nI gl), .int (nI un), .int (nI mi), .int (nI no)])), (nk, .inl (y 0, 6, .inl (upd fk fi (nI k)))), (nd, .inr (1, [.ref nl, .ref na, .ref ns, .int nst, .int ncl, .int nnu])), (nl, .inl (y 0, 6, .inl (upd nfl fi x)))] H := hP
  have hD : va_D A [(nw, .inr (4, [.ref kk, .ref nk, .ref nd, .ref ne, .ref nm, .ref nn, .int (nI fi), .int (nI gl), .int (nI un), .int (nI mi), .int (nI no)])), (nk, .inl (y 0, 6, .inl (upd fk fi (nI k)))), (nd, .inr (1, [.ref nl, .ref na, .ref ns, .int nst, .int ncl, .int nnu])), (nl, .inl (y 0, 6, .inl (upd nfl fi x)))] := hD
  refine lv_aload_n hx hb dX4_addField_23 rfl (lv_at hl 0 rfl) ?_
  refine lv_iconst (v := 0) hx hb dX4_addField_24 (by decide) ?_
  refine va_put (D := D) (ci := 4) (v := .int 0) (ty := .int) (C := RX4) (T := TX4) (N := 11) hx hb hts iw4 tyX4 tyX4_ok nmX4 hown hK hP hD hS 0 rfl rfl 8 (by decide) fw5 (fun _ h9 => h9) rfl (by decide +kernel) rfl rfl (Nat.le_of_ble_eq_true rfl) dX4_addField_25 (fun H locs hP hD hS => ?_)
  have hP : va_P D vwCl [(nw, .inr (4, [.ref kk, .ref nk, .ref nd, .ref ne, .ref nm, .ref nn, .int (nI fi), .int (nI gl), .int 0, .int (nI mi), .int (nI no)])), (nk, .inl (y 0, 6, .inl (upd fk fi (nI k)))), (nd, .inr (1, [.ref nl, .ref na, .ref ns, .int nst, .int ncl, .int nnu])), (nl, .inl (y 0, 6, .inl (upd nfl fi x)))] H := hP
  have hD : va_D A [(nw, .inr (4, [.ref kk, .ref nk, .ref nd, .ref ne, .ref nm, .ref nn, .int (nI fi), .int (nI gl), .int 0, .int (nI mi), .int (nI no)])), (nk, .inl (y 0, 6, .inl (upd fk fi (nI k)))), (nd, .inr (1, [.ref nl, .ref na, .ref ns, .int nst, .int ncl, .int nnu])), (nl, .inl (y 0, 6, .inl (upd nfl fi x)))] := hD
  refine lv_aload_n hx hb dX4_addField_28 rfl (lv_at hl 0 rfl) ?_
  refine lv_dup hx hb dX4_addField_29 rfl ?_
  refine va_get (D := D) (ci := 4) (v := .int (nI fi)) (C := RX4) (T := TX4) (N := 11) hx hb hts iw4 hown hK hP 0 rfl rfl 6 (by decide) fw2 (fun _ h9 => h9) rfl dX4_addField_30 ?_
  refine lv_dup_x1 hx hb dX4_addField_33 rfl rfl ?_
  refine lv_iconst (v := 1) hx hb dX4_addField_34 (by decide) ?_
  refine lv_iadd hx hb dX4_addField_35 ?_
  rw [show (nI fi) + 1 = nI (fi + 1) from nI_add fi 1]
  refine va_put (D := D) (ci := 4) (v := .int (nI (fi + 1))) (ty := .int) (C := RX4) (T := TX4) (N := 11) hx hb hts iw4 tyX4 tyX4_ok nmX4 hown hK hP hD hS 0 rfl rfl 6 (by decide) fw2 (fun _ h9 => h9) rfl (by decide +kernel) rfl rfl (Nat.le_of_ble_eq_true rfl) dX4_addField_36 (fun H locs hP hD hS => ?_)
  have hP : va_P D vwCl [(nw, .inr (4, [.ref kk, .ref nk, .ref nd, .ref ne, .ref nm, .ref nn, .int (nI (fi + 1)), .int (nI gl), .int 0, .int (nI mi), .int (nI no)])), (nk, .inl (y 0, 6, .inl (upd fk fi (nI k)))), (nd, .inr (1, [.ref nl, .ref na, .ref ns, .int nst, .int ncl, .int nnu])), (nl, .inl (y 0, 6, .inl (upd nfl fi x)))] H := hP
  have hD : va_D A [(nw, .inr (4, [.ref kk, .ref nk, .ref nd, .ref ne, .ref nm, .ref nn, .int (nI (fi + 1)), .int (nI gl), .int 0, .int (nI mi), .int (nI no)])), (nk, .inl (y 0, 6, .inl (upd fk fi (nI k)))), (nd, .inr (1, [.ref nl, .ref na, .ref ns, .int nst, .int ncl, .int nnu])), (nl, .inl (y 0, 6, .inl (upd nfl fi x)))] := hD
  exact W.iret (v := (nI fi)) hx hb hr (fun tZ ht hW => ⟨⟨(nI fi), (), rfl, ⟨hb1, rfl⟩, by rw [ht]; exact hP.sub [0, 1, 2, 3] rfl, hD.sub [0, 1, 2, 3] (by decide) rfl⟩, hS.F ht⟩) hS.2.2 dX4_addField_39

set_option maxHeartbeats 4000000 in
set_option maxRecDepth 100000 in
theorem gc_addGleaner (l : Launch) (D : va_G) (y : Nat → ClassId) (nw : Nat) (kk : Nat) (nk : Nat) (nd : Nat) (ne : Nat) (nm : Nat) (nn : Nat) (fi : Nat) (gl : Nat) (un : Nat) (mi : Nat) (no : Nat) (k : Nat) (nd : Nat) (nl : Nat) (na : Nat) (ns : Nat) (nst : Int32) (ncl : Int32) (nnu : Int32) (nfa : Nat → Int32) (nfs : Nat → Int32) (hfi : fi ≤ 6) (hgl : gl ≤ 5) (hun : un ≤ 8) (hmi : mi ≤ 4) (hno : no ≤ 6) (hna : kw_bd 6 5 nfa) (hlt : gl < 5) (hkk : k < 6) : kw_Mi l yX4_addGleaner wsX4_addGleaner ({ frames := 1, cells := 0, slots := 0, locals := 60 }) D y [.ref nw, .int (nI k)] [(nw, .inr (4, [.ref kk, .ref nk, .ref nd, .ref ne, .ref nm, .ref nn, .int (nI fi), .int (nI gl), .int (nI un), .int (nI mi), .int (nI no)])), (nd, .inr (1, [.ref nl, .ref na, .ref ns, .int nst, .int ncl, .int nnu])), (na, .inl (y 0, 5, .inl nfa)), (ns, .inl (y 0, 5, .inl nfs))] (fun (r : Int32) (u : Unit) => kw_bd 6 5 (upd nfa gl (nI k)) ∧ r = (nI gl)) (fun _ => [(nw, .inr (4, [.ref kk, .ref nk, .ref nd, .ref ne, .ref nm, .ref nn, .int (nI fi), .int (nI (gl + 1)), .int 0, .int (nI mi), .int (nI no)])), (nd, .inr (1, [.ref nl, .ref na, .ref ns, .int nst, .int ncl, .int nnu])), (na, .inl (y 0, 5, .inl (upd nfa gl (nI k)))), (ns, .inl (y 0, 5, .inl (upd nfs gl 0)))]) 0 0 := by
  refine kw_Mi.of (cc := cX4_addGleaner) (maxL := 2) (ret := (some .int)) (by decide) rfl ?_
  intro pZ eZ s mZ beZ meZ cZ A hE
  obtain ⟨hx, hb, hr, hml, hts, hown, hlocks, hin, hA, hP, hD, hK, hN⟩ := hE
  have hS : va_S A s.heap s.heap [] := va_S.rf
  have hl := lv_entry ([.ref nw, .int (nI k)]) (n := 2) (Nat.le_of_ble_eq_true rfl)
  rw [lg_entry_eq]
  generalize (lg_sl ([.ref nw, .int (nI k)]) ++ List.replicate (2 - (lg_sl ([.ref nw, .int (nI k)])).length) Slot.unset).toArray = ls at hl ⊢
  have hl : lv_has ls 2 [(0, .ref nw), (1, .int (nI k))] := hl
  have fw1 := hts (.fieldLink RX4 18 "GleanDusk$Parish" "dusk" "LGleanDusk$Dusk;") (List.mem_of_getElem? (i := 1) rfl)
  have fw2 := hts (.fieldLink RX4 80 "GleanDusk$Dusk" "at" "[I") (List.mem_of_getElem? (i := 2) rfl)
  have fw3 := hts (.fieldLink RX4 42 "GleanDusk$Parish" "gleaners" "I") (List.mem_of_getElem? (i := 3) rfl)
  have fw4 := hts (.fieldLink RX4 83 "GleanDusk$Dusk" "store" "[I") (List.mem_of_getElem? (i := 4) rfl)
  have fw5 := hts (.fieldLink RX4 45 "GleanDusk$Parish" "undoable" "I") (List.mem_of_getElem? (i := 5) rfl)
  have iw4 : ∀ w ∈ wsX40, w ∈ wsX4_addGleaner := fun _ h => List.mem_cons_of_mem _ (List.mem_append_left _ (List.mem_append_right _ h))
  have iw1 : ∀ w ∈ wsX10, w ∈ wsX4_addGleaner := fun _ h => List.mem_cons_of_mem _ (List.mem_append_right _ h)
  refine lv_aload_n hx hb dX4_addGleaner_0 rfl (lv_at hl 0 rfl) ?_
  refine va_get (D := D) (ci := 4) (v := .ref nd) (C := RX4) (T := TX4) (N := 11) hx hb hts iw4 hown hK hP 0 rfl rfl 2 (by decide) fw1 (fun _ h9 => h9) rfl dX4_addGleaner_1 ?_
  refine va_get (D := D) (ci := 1) (v := .ref na) (C := RX1) (T := TX1) (N := 6) hx hb hts iw1 hown hK hP 1 rfl rfl 1 (by decide) fw2 (fun _ h9 => h9) rfl dX4_addGleaner_4 ?_
  refine lv_aload_n hx hb dX4_addGleaner_7 rfl (lv_at hl 0 rfl) ?_
  refine va_get (D := D) (ci := 4) (v := .int (nI gl)) (C := RX4) (T := TX4) (N := 11) hx hb hts iw4 hown hK hP 0 rfl rfl 7 (by decide) fw3 (fun _ h9 => h9) rfl dX4_addGleaner_8 ?_
  refine lv_iload_n hx hb dX4_addGleaner_11 rfl (lv_at hl 1 rfl) ?_
  refine va_iast hx hb hK hP hD hS 2 0 rfl rfl (vp_in_nI (by omega) (by decide)) dX4_addGleaner_12 (fun H locs hP hD hS => ?_)
  rw [nI_clamp (n := gl) (by omega)] at hP hD
  have hb1 : kw_bd 6 5 (upd nfa gl (nI k)) := kw_bdu hna (vp_in_nI (by omega) (by decide))
  have hP : va_P D vwCl [(nw, .inr (4, [.ref kk, .ref nk, .ref nd, .ref ne, .ref nm, .ref nn, .int (nI fi), .int (nI gl), .int (nI un), .int (nI mi), .int (nI no)])), (nd, .inr (1, [.ref nl, .ref na, .ref ns, .int nst, .int ncl, .int nnu])), (na, .inl (y 0, 5, .inl (upd nfa gl (nI k)))), (ns, .inl (y 0, 5, .inl nfs))] H := hP
  have hD : va_D A [(nw, .inr (4, [.ref kk, .ref nk, .ref nd, .ref ne, .ref nm, .ref nn, .int (nI fi), .int (nI gl), .int (nI un), .int (nI mi), .int (nI no)])), (nd, .inr (1, [.ref nl, .ref na, .ref ns, .int nst, .int ncl, .int nnu])), (na, .inl (y 0, 5, .inl (upd nfa gl (nI k)))), (ns, .inl (y 0, 5, .inl nfs))] := hD
  refine lv_aload_n hx hb dX4_addGleaner_13 rfl (lv_at hl 0 rfl) ?_
  refine va_get (D := D) (ci := 4) (v := .ref nd) (C := RX4) (T := TX4) (N := 11) hx hb hts iw4 hown hK hP 0 rfl rfl 2 (by decide) fw1 (fun _ h9 => h9) rfl dX4_addGleaner_14 ?_
  refine va_get (D := D) (ci := 1) (v := .ref ns) (C := RX1) (T := TX1) (N := 6) hx hb hts iw1 hown hK hP 1 rfl rfl 2 (by decide) fw4 (fun _ h9 => h9) rfl dX4_addGleaner_17 ?_
  refine lv_aload_n hx hb dX4_addGleaner_20 rfl (lv_at hl 0 rfl) ?_
  refine va_get (D := D) (ci := 4) (v := .int (nI gl)) (C := RX4) (T := TX4) (N := 11) hx hb hts iw4 hown hK hP 0 rfl rfl 7 (by decide) fw3 (fun _ h9 => h9) rfl dX4_addGleaner_21 ?_
  refine lv_iconst (v := 0) hx hb dX4_addGleaner_24 (by decide) ?_
  refine va_iast hx hb hK hP hD hS 3 0 rfl rfl (vp_in_nI (by omega) (by decide)) dX4_addGleaner_25 (fun H locs hP hD hS => ?_)
  rw [nI_clamp (n := gl) (by omega)] at hP hD
  have hP : va_P D vwCl [(nw, .inr (4, [.ref kk, .ref nk, .ref nd, .ref ne, .ref nm, .ref nn, .int (nI fi), .int (nI gl), .int (nI un), .int (nI mi), .int (nI no)])), (nd, .inr (1, [.ref nl, .ref na, .ref ns, .int nst, .int ncl, .int nnu])), (na, .inl (y 0, 5, .inl (upd nfa gl (nI k)))), (ns, .inl (y 0, 5, .inl (upd nfs gl 0)))] H := hP
  have hD : va_D A [(nw, .inr (4, [.ref kk, .ref nk, .ref nd, .ref ne, .ref nm, .ref nn, .int (nI fi), .int (nI gl), .int (nI un), .int (nI mi), .int (nI no)])), (nd, .inr (1, [.ref nl, .ref na, .ref ns, .int nst, .int ncl, .int nnu])), (na, .inl (y 0, 5, .inl (upd nfa gl (nI k)))), (ns, .inl (y 0, 5, .inl (upd nfs gl 0)))] := hD
  refine lv_aload_n hx hb dX4_addGleaner_26 rfl (lv_at hl 0 rfl) ?_
  refine lv_iconst (v := 0) hx hb dX4_addGleaner_27 (by decide) ?_
  refine va_put (D := D) (ci := 4) (v := .int 0) (ty := .int) (C := RX4) (T := TX4) (N := 11) hx hb hts iw4 tyX4 tyX4_ok nmX4 hown hK hP hD hS 0 rfl rfl 8 (by decide) fw5 (fun _ h9 => h9) rfl (by decide +kernel) rfl rfl (Nat.le_of_ble_eq_true rfl) dX4_addGleaner_28 (fun H locs hP hD hS => ?_)
  have hP : va_P D vwCl [(nw, .inr (4, [.ref kk, .ref nk, .ref nd, .ref ne, .ref nm, .ref nn, .int (nI fi), .int (nI gl), .int 0, .int (nI mi), .int (nI no)])), (nd, .inr (1, [.ref nl, .ref na, .ref ns, .int nst, .int ncl, .int nnu])), (na, .inl (y 0, 5, .inl (upd nfa gl (nI k)))), (ns, .inl (y 0, 5, .inl (upd nfs gl 0)))] H := hP
  have hD : va_D A [(nw, .inr (4, [.ref kk, .ref nk, .ref nd, .ref ne, .ref nm, .ref nn, .int (nI fi), .int (nI gl), .int 0, .int (nI mi), .int (nI no)])), (nd, .inr (1, [.ref nl, .ref na, .ref ns, .int nst, .int ncl, .int nnu])), (na, .inl (y 0, 5, .inl (upd nfa gl (nI k)))), (ns, .inl (y 0, 5, .inl (upd nfs gl 0)))] := hD
  refine lv_aload_n hx hb dX4_addGleaner_31 rfl (lv_at hl 0 rfl) ?_
  refine lv_dup hx hb dX4_addGleaner_32 rfl ?_
  refine va_get (D := D) (ci := 4) (v := .int (nI gl)) (C := RX4) (T := TX4) (N := 11) hx hb hts iw4 hown hK hP 0 rfl rfl 7 (by decide) fw3 (fun _ h9 => h9) rfl dX4_addGleaner_33 ?_
  refine lv_dup_x1 hx hb dX4_addGleaner_36 rfl rfl ?_
  refine lv_iconst (v := 1) hx hb dX4_addGleaner_37 (by decide) ?_
  refine lv_iadd hx hb dX4_addGleaner_38 ?_
  rw [show (nI gl) + 1 = nI (gl + 1) from nI_add gl 1]
  refine va_put (D := D) (ci := 4) (v := .int (nI (gl + 1))) (ty := .int) (C := RX4) (T := TX4) (N := 11) hx hb hts iw4 tyX4 tyX4_ok nmX4 hown hK hP hD hS 0 rfl rfl 7 (by decide) fw3 (fun _ h9 => h9) rfl (by decide +kernel) rfl rfl (Nat.le_of_ble_eq_true rfl) dX4_addGleaner_39 (fun H locs hP hD hS => ?_)
  have hP : va_P D vwCl [(nw, .inr (4, [.ref kk, .ref nk, .ref nd, .ref ne, .ref nm, .ref nn, .int (nI fi), .int (nI (gl + 1)), .int 0, .int (nI mi), .int (nI no)])), (nd, .inr (1, [.ref nl, .ref na, .ref ns, .int nst, .int ncl, .int nnu])), (na, .inl (y 0, 5, .inl (upd nfa gl (nI k)))), (ns, .inl (y 0, 5, .inl (upd nfs gl 0)))] H := hP
  have hD : va_D A [(nw, .inr (4, [.ref kk, .ref nk, .ref nd, .ref ne, .ref nm, .ref nn, .int (nI fi), .int (nI (gl + 1)), .int 0, .int (nI mi), .int (nI no)])), (nd, .inr (1, [.ref nl, .ref na, .ref ns, .int nst, .int ncl, .int nnu])), (na, .inl (y 0, 5, .inl (upd nfa gl (nI k)))), (ns, .inl (y 0, 5, .inl (upd nfs gl 0)))] := hD
  exact W.iret (v := (nI gl)) hx hb hr (fun tZ ht hW => ⟨⟨(nI gl), (), rfl, ⟨hb1, rfl⟩, by rw [ht]; exact hP.sub [0, 1, 2, 3] rfl, hD.sub [0, 1, 2, 3] (by decide) rfl⟩, hS.F ht⟩) hS.2.2 dX4_addGleaner_42

set_option maxHeartbeats 4000000 in
set_option maxRecDepth 100000 in
theorem gc_crowd (l : Launch) (D : va_G) (y : Nat → ClassId) (nw : Nat) (kk : Nat) (nk : Nat) (nd : Nat) (ne : Nat) (nm : Nat) (nn : Nat) (fi : Nat) (gl : Nat) (un : Nat) (mi : Nat) (no : Nat) (d : Nat) (dl : Nat) (da : Nat) (ds : Nat) (dst : Int32) (dcl : Int32) (dnu : Int32) (dfa : Nat → Int32) (x : Int32) (hfi : fi ≤ 6) (hgl : gl ≤ 5) (hun : un ≤ 8) (hmi : mi ≤ 4) (hno : no ≤ 6) (hda : kw_bd 6 5 dfa) : kw_Mi l yX4_crowd wsX4_crowd ({ frames := 1, cells := 0, slots := 0, locals := 60 }) D y [.ref nw, .ref d, .int x] [(nw, .inr (4, [.ref kk, .ref nk, .ref nd, .ref ne, .ref nm, .ref nn, .int (nI fi), .int (nI gl), .int (nI un), .int (nI mi), .int (nI no)])), (d, .inr (1, [.ref dl, .ref da, .ref ds, .int dst, .int dcl, .int dnu])), (da, .inl (y 0, 5, .inl dfa))] (fun (r : Int32) (u : Unit) => True) (fun _ => [(nw, .inr (4, [.ref kk, .ref nk, .ref nd, .ref ne, .ref nm, .ref nn, .int (nI fi), .int (nI gl), .int (nI un), .int (nI mi), .int (nI no)])), (d, .inr (1, [.ref dl, .ref da, .ref ds, .int dst, .int dcl, .int dnu])), (da, .inl (y 0, 5, .inl dfa))]) 0 0 := by
  refine kw_Mi.of (cc := cX4_crowd) (maxL := 5) (ret := (some .int)) (by decide) rfl ?_
  intro pZ eZ s mZ beZ meZ cZ A hE
  obtain ⟨hx, hb, hr, hml, hts, hown, hlocks, hin, hA, hP, hD, hK, hN⟩ := hE
  have hS : va_S A s.heap s.heap [] := va_S.rf
  have hl := lv_entry ([.ref nw, .ref d, .int x]) (n := 5) (Nat.le_of_ble_eq_true rfl)
  rw [lg_entry_eq]
  generalize (lg_sl ([.ref nw, .ref d, .int x]) ++ List.replicate (5 - (lg_sl ([.ref nw, .ref d, .int x])).length) Slot.unset).toArray = ls at hl ⊢
  have hl : lv_has ls 5 [(0, .ref nw), (1, .ref d), (2, .int x)] := hl
  have fw1 := hts (.fieldLink RX4 42 "GleanDusk$Parish" "gleaners" "I") (List.mem_of_getElem? (i := 1) rfl)
  have fw2 := hts (.fieldLink RX4 80 "GleanDusk$Dusk" "at" "[I") (List.mem_of_getElem? (i := 2) rfl)
  have iw4 : ∀ w ∈ wsX40, w ∈ wsX4_crowd := fun _ h => List.mem_cons_of_mem _ (List.mem_append_left _ (List.mem_append_right _ h))
  have iw1 : ∀ w ∈ wsX10, w ∈ wsX4_crowd := fun _ h => List.mem_cons_of_mem _ (List.mem_append_right _ h)
  refine lv_iconst (v := 0) hx hb dX4_crowd_0 (by decide) ?_
  refine lv_istore_n (lv' := [(3, .int 0), (0, .ref nw), (1, .ref d), (2, .int x)]) hx hb dX4_crowd_1 rfl hl (by decide) rfl (fun ls hl => ?_)
  refine lv_iconst (v := 0) hx hb dX4_crowd_2 (by decide) ?_
  refine lv_istore (lv' := [(4, .int 0), (3, .int 0), (0, .ref nw), (1, .ref d), (2, .int x)]) hx hb dX4_crowd_3 hl (by decide) rfl (fun ls hl => ?_)
  have lp16 : ∀ (fuj91 j91 : Nat) (x8 : Int32) (H : Heap) (locs : List Loc) (ls : Array Slot), j91 ≤ gl → gl - j91 < fuj91 → va_P D vwCl [(nw, .inr (4, [.ref kk, .ref nk, .ref nd, .ref ne, .ref nm, .ref nn, .int (nI fi), .int (nI gl), .int (nI un), .int (nI mi), .int (nI no)])), (d, .inr (1, [.ref dl, .ref da, .ref ds, .int dst, .int dcl, .int dnu])), (da, .inl (y 0, 5, .inl dfa))] H → va_D A [(nw, .inr (4, [.ref kk, .ref nk, .ref nd, .ref ne, .ref nm, .ref nn, .int (nI fi), .int (nI gl), .int (nI un), .int (nI mi), .int (nI no)])), (d, .inr (1, [.ref dl, .ref da, .ref ds, .int dst, .int dcl, .int dnu])), (da, .inl (y 0, 5, .inl dfa))] → va_S A s.heap H locs → lv_has ls 5 [(4, .int (nI j91)), (3, .int x8), (0, .ref nw), (1, .ref d), (2, .int x)] → W pZ l eZ ({ frames := 1, cells := 0, slots := 0, locals := 60 }) s mZ [.ref nw, .ref d, .int x].toArray beZ meZ cZ H locs 0 0 (MQ beZ (va_Qi (fun (r : Int32) (u : Unit) => True) (kw_B D (fun _ => [(nw, .inr (4, [.ref kk, .ref nk, .ref nd, .ref ne, .ref nm, .ref nn, .int (nI fi), .int (nI gl), .int (nI un), .int (nI mi), .int (nI no)])), (d, .inr (1, [.ref dl, .ref da, .ref ds, .int dst, .int dcl, .int dnu])), (da, .inl (y 0, 5, .inl dfa))]) A) A) [.ref nw, .ref d, .int x].toArray s 0 0 A) (F0 mZ 5 ls []) := by
    intro fuj91
    induction fuj91 with
    | zero => intro j91 x8 H locs ls hj9 hf9; exact absurd hf9 (Nat.not_lt_zero _)
    | succ fuj91 ihj91 =>
      intro j91 x8 H locs ls hj91 hfj91  hP hD hS hl
      refine lv_iload hx hb dX4_crowd_5 (lv_at hl 0 rfl) ?_
      refine lv_aload_n hx hb dX4_crowd_7 rfl (lv_at hl 2 rfl) ?_
      refine va_get (D := D) (ci := 4) (v := .int (nI gl)) (C := RX4) (T := TX4) (N := 11) hx hb hts iw4 hown hK hP 0 rfl rfl 7 (by decide) fw1 (fun _ h9 => h9) rfl dX4_crowd_8 ?_
      refine lv_icmp_ge (tgt := 34) hx hb dX4_crowd_11 (by decide) (fun h17 => ?_) (fun h18 => ?_)
      · skip
        have h17 : gl ≤ j91 := (nI_leI (a := gl) (b := j91) (by omega) (by omega)).mp h17
        refine lv_iload_n hx hb dX4_crowd_34 rfl (lv_at hl 1 rfl) ?_
        exact W.iret (v := x8) hx hb hr (fun tZ ht hW => ⟨⟨x8, (), rfl, trivial, by rw [ht]; exact hP.sub [0, 1, 2] rfl, hD.sub [0, 1, 2] (by decide) rfl⟩, hS.F ht⟩) hS.2.2 dX4_crowd_35
      · skip
        have h18 : ¬ gl ≤ j91 := fun q9 => h18 ((nI_leI (a := gl) (b := j91) (by omega) (by omega)).mpr q9)
        refine lv_aload_n hx hb dX4_crowd_14 rfl (lv_at hl 3 rfl) ?_
        refine va_get (D := D) (ci := 1) (v := .ref da) (C := RX1) (T := TX1) (N := 6) hx hb hts iw1 hown hK hP 1 rfl rfl 1 (by decide) fw2 (fun _ h9 => h9) rfl dX4_crowd_15 ?_
        refine lv_iload hx hb dX4_crowd_18 (lv_at hl 0 rfl) ?_
        refine va_iald hx hb hK hP 2 0 rfl rfl (vp_in_nI (by omega) (by decide)) dX4_crowd_20 ?_
        rw [nI_clamp (n := j91) (by omega)]
        obtain ⟨w19, h20, h21⟩ := kw_bdv hda (k := j91) (by omega) (by decide)
        rw [h21]
        refine lv_iload_n hx hb dX4_crowd_21 rfl (lv_at hl 4 rfl) ?_
        refine lv_icmp_ne (tgt := 28) hx hb dX4_crowd_22 (by decide) (fun h22 => ?_) (fun h23 => ?_)
        · skip
          refine lv_iinc (v := (nI (j91 + 1))) (lv' := [(4, .int (nI (j91 + 1))), (3, .int x8), (0, .ref nw), (1, .ref d), (2, .int x)]) hx hb dX4_crowd_28 hl (k := 0) rfl (nI_1 j91) (by decide) rfl (fun ls hl => ?_)
          refine lv_goto (tgt := 5) hx hb dX4_crowd_31 (by decide) ?_
          exact ihj91 (j91 + 1) x8 H locs ls (by omega) (by omega)  (hP.sub [0, 1, 2] rfl) (hD.sub [0, 1, 2] (by decide) rfl) hS (lv_sub hl [0, 1, 2, 3, 4] rfl)
        · skip
          refine lv_iinc (v := (x8 + 1)) (lv' := [(3, .int (x8 + 1)), (4, .int (nI j91)), (0, .ref nw), (1, .ref d), (2, .int x)]) hx hb dX4_crowd_25 hl (k := 1) rfl (rfl) (by decide) rfl (fun ls hl => ?_)
          refine lv_iinc (v := (nI (j91 + 1))) (lv' := [(4, .int (nI (j91 + 1))), (3, .int (x8 + 1)), (0, .ref nw), (1, .ref d), (2, .int x)]) hx hb dX4_crowd_28 hl (k := 1) rfl (nI_1 j91) (by decide) rfl (fun ls hl => ?_)
          refine lv_goto (tgt := 5) hx hb dX4_crowd_31 (by decide) ?_
          exact ihj91 (j91 + 1) (x8 + 1) H locs ls (by omega) (by omega)  (hP.sub [0, 1, 2] rfl) (hD.sub [0, 1, 2] (by decide) rfl) hS (lv_sub hl [0, 1, 2, 3, 4] rfl)
  exact lp16 (gl + 1) 0 0 _ _ _ (by omega) (by omega)  hP hD hS (lv_sub hl [0, 1, 2, 3, 4] rfl)

set_option maxHeartbeats 4000000 in
set_option maxRecDepth 100000 in
theorem gc_faded (l : Launch) (D : va_G) (y : Nat → ClassId) (x : Int32)  : kw_Mi l yX10_faded wsX10_faded ({ frames := 1, cells := 0, slots := 0, locals := 60 }) D y [.int x] [] (fun (r : Int32) (u : Unit) => r = (x - ((x + 3) / 4))) (fun _ => []) 0 0 := by
  refine kw_Mi.of (cc := cX10_faded) (maxL := 1) (ret := (some .int)) (by decide) rfl ?_
  intro pZ eZ s mZ beZ meZ cZ A hE
  obtain ⟨hx, hb, hr, hml, hts, hown, hlocks, hin, hA, hP, hD, hK, hN⟩ := hE
  have hS : va_S A s.heap s.heap [] := va_S.rf
  have hl := lv_entry ([.int x]) (n := 1) (Nat.le_of_ble_eq_true rfl)
  rw [lg_entry_eq]
  generalize (lg_sl ([.int x]) ++ List.replicate (1 - (lg_sl ([.int x])).length) Slot.unset).toArray = ls at hl ⊢
  have hl : lv_has ls 1 [(0, .int x)] := hl
  refine lv_iload_n hx hb dX10_faded_0 rfl (lv_at hl 0 rfl) ?_
  refine lv_iload_n hx hb dX10_faded_1 rfl (lv_at hl 0 rfl) ?_
  refine lv_iconst (v := 3) hx hb dX10_faded_2 (by decide) ?_
  refine lv_iadd hx hb dX10_faded_3 ?_
  refine lv_iconst (v := 4) hx hb dX10_faded_4 (by decide) ?_
  refine lv_idiv hx hb dX10_faded_5 (by decide) ?_
  refine lv_isub hx hb dX10_faded_6 ?_
  exact W.iret (v := (x - ((x + 3) / 4))) hx hb hr (fun tZ ht hW => ⟨⟨(x - ((x + 3) / 4)), (), rfl, rfl, by rw [ht]; exact hP.sub [] rfl, hD.sub [] (by decide) rfl⟩, hS.F ht⟩) hS.2.2 dX10_faded_7
