set_option maxHeartbeats 4000000 in
set_option maxRecDepth 100000 in
theorem gc_isBelow (l : Launch) (D : va_G) (y : Nat → ClassId) (x : Int32) (n : Nat) (hn : n < 2147483648) : kw_Mi l yX10_isBelow wsX10_isBelow ({ frames := 1, cells := 0, slots := 0, locals := 60 }) D y [.int x, .int (nI n)] [] (fun (r : Int32) (u : Unit) => (∃ j : Nat, j < n ∧ x = nI j ∧ r = 1) ∨ ((¬ ∃ j : Nat, j < n ∧ x = nI j) ∧ r = 0)) (fun _ => []) 0 0 := by
  refine kw_Mi.of (cc := cX10_isBelow) (maxL := 2) (ret := (some .boolean)) (by decide) rfl ?_
  intro pZ eZ s mZ beZ meZ cZ A hE
  obtain ⟨hx, hb, hr, hml, hts, hown, hlocks, hin, hA, hP, hD, hK, hN⟩ := hE
  have hS : va_S A s.heap s.heap [] := va_S.rf
  have hl := lv_entry ([.int x, .int (nI n)]) (n := 2) (Nat.le_of_ble_eq_true rfl)
  rw [lg_entry_eq]
  generalize (lg_sl ([.int x, .int (nI n)]) ++ List.replicate (2 - (lg_sl ([.int x, .int (nI n)])).length) Slot.unset).toArray = ls at hl ⊢
  have hl : lv_has ls 2 [(0, .int x), (1, .int (nI n))] := hl
  refine lv_iload_n hx hb dX10_isBelow_0 rfl (lv_at hl 0 rfl) ?_
  refine lv_if_lt (tgt := 13) hx hb dX10_isBelow_1 (by decide) (fun h1 => ?_) (fun h2 => ?_)
  · skip
    refine lv_iconst (v := 0) hx hb dX10_isBelow_13 (by decide) ?_
    exact W.zret (v := 0) hx hb hr (by decide) (fun tZ ht hW => ⟨⟨0, (), rfl, Or.inr (⟨kw_nex1 h1 hn, rfl⟩), by rw [ht]; exact hP.sub [] rfl, hD.sub [] (by decide) rfl⟩, hS.F ht⟩) hS.2.2 dX10_isBelow_14
  · skip
    refine lv_iload_n hx hb dX10_isBelow_4 rfl (lv_at hl 0 rfl) ?_
    refine lv_iload_n hx hb dX10_isBelow_5 rfl (lv_at hl 1 rfl) ?_
    refine lv_icmp_ge (tgt := 13) hx hb dX10_isBelow_6 (by decide) (fun h3 => ?_) (fun h4 => ?_)
    · skip
      refine lv_iconst (v := 0) hx hb dX10_isBelow_13 (by decide) ?_
      exact W.zret (v := 0) hx hb hr (by decide) (fun tZ ht hW => ⟨⟨0, (), rfl, Or.inr (⟨kw_nex2 h3 hn, rfl⟩), by rw [ht]; exact hP.sub [] rfl, hD.sub [] (by decide) rfl⟩, hS.F ht⟩) hS.2.2 dX10_isBelow_14
    · skip
      refine lv_iconst (v := 1) hx hb dX10_isBelow_9 (by decide) ?_
      refine lv_goto (tgt := 14) hx hb dX10_isBelow_10 (by decide) ?_
      exact W.zret (v := 1) hx hb hr (by decide) (fun tZ ht hW => ⟨⟨1, (), rfl, Or.inl (by obtain ⟨j, h, e⟩ := kw_ex h2 h4 hn; exact ⟨j, h, e, rfl⟩), by rw [ht]; exact hP.sub [] rfl, hD.sub [] (by decide) rfl⟩, hS.F ht⟩) hS.2.2 dX10_isBelow_14

set_option maxHeartbeats 4000000 in
set_option maxRecDepth 100000 in
theorem gc_isIn (l : Launch) (D : va_G) (y : Nat → ClassId) (x : Int32) (a : Nat) (b : Nat) (ha : a < 2147483648) (hb2 : b < 2147483648) : kw_Mi l yX10_isIn wsX10_isIn ({ frames := 1, cells := 0, slots := 0, locals := 60 }) D y [.int x, .int (nI a), .int (nI b)] [] (fun (r : Int32) (u : Unit) => (∃ j : Nat, a ≤ j ∧ j ≤ b ∧ x = nI j ∧ r = 1) ∨ ((¬ ∃ j : Nat, a ≤ j ∧ j ≤ b ∧ x = nI j) ∧ r = 0)) (fun _ => []) 0 0 := by
  refine kw_Mi.of (cc := cX10_isIn) (maxL := 3) (ret := (some .boolean)) (by decide) rfl ?_
  intro pZ eZ s mZ beZ meZ cZ A hE
  obtain ⟨hx, hb, hr, hml, hts, hown, hlocks, hin, hA, hP, hD, hK, hN⟩ := hE
  have hS : va_S A s.heap s.heap [] := va_S.rf
  have hl := lv_entry ([.int x, .int (nI a), .int (nI b)]) (n := 3) (Nat.le_of_ble_eq_true rfl)
  rw [lg_entry_eq]
  generalize (lg_sl ([.int x, .int (nI a), .int (nI b)]) ++ List.replicate (3 - (lg_sl ([.int x, .int (nI a), .int (nI b)])).length) Slot.unset).toArray = ls at hl ⊢
  have hl : lv_has ls 3 [(0, .int x), (1, .int (nI a)), (2, .int (nI b))] := hl
  refine lv_iload_n hx hb dX10_isIn_0 rfl (lv_at hl 0 rfl) ?_
  refine lv_iload_n hx hb dX10_isIn_1 rfl (lv_at hl 1 rfl) ?_
  refine lv_icmp_lt (tgt := 14) hx hb dX10_isIn_2 (by decide) (fun h1 => ?_) (fun h2 => ?_)
  · skip
    refine lv_iconst (v := 0) hx hb dX10_isIn_14 (by decide) ?_
    exact W.zret (v := 0) hx hb hr (by decide) (fun tZ ht hW => ⟨⟨0, (), rfl, Or.inr (⟨kw_nex3 h1 ha hb2, rfl⟩), by rw [ht]; exact hP.sub [] rfl, hD.sub [] (by decide) rfl⟩, hS.F ht⟩) hS.2.2 dX10_isIn_15
  · skip
    refine lv_iload_n hx hb dX10_isIn_5 rfl (lv_at hl 0 rfl) ?_
    refine lv_iload_n hx hb dX10_isIn_6 rfl (lv_at hl 2 rfl) ?_
    refine lv_icmp_gt (tgt := 14) hx hb dX10_isIn_7 (by decide) (fun h3 => ?_) (fun h4 => ?_)
    · skip
      refine lv_iconst (v := 0) hx hb dX10_isIn_14 (by decide) ?_
      exact W.zret (v := 0) hx hb hr (by decide) (fun tZ ht hW => ⟨⟨0, (), rfl, Or.inr (⟨kw_nex4 h3 ha hb2, rfl⟩), by rw [ht]; exact hP.sub [] rfl, hD.sub [] (by decide) rfl⟩, hS.F ht⟩) hS.2.2 dX10_isIn_15
    · skip
      refine lv_iconst (v := 1) hx hb dX10_isIn_10 (by decide) ?_
      refine lv_goto (tgt := 15) hx hb dX10_isIn_11 (by decide) ?_
      exact W.zret (v := 1) hx hb hr (by decide) (fun tZ ht hW => ⟨⟨1, (), rfl, Or.inl (by obtain ⟨j, h, h2, e⟩ := kw_ex2 h2 h4 ha hb2; exact ⟨j, h, h2, e, rfl⟩), by rw [ht]; exact hP.sub [] rfl, hD.sub [] (by decide) rfl⟩, hS.F ht⟩) hS.2.2 dX10_isIn_15

set_option maxHeartbeats 4000000 in
set_option maxRecDepth 100000 in
theorem gc_isLight (l : Launch) (D : va_G) (y : Nat → ClassId) (x : Int32)  : kw_Mi l yX10_isLight wsX10_isLight ({ frames := 2, cells := 0, slots := 0, locals := 82 }) D y [.int x] [] (fun (r : Int32) (u : Unit) => (∃ j : Nat, j ≤ 60 ∧ x = nI j ∧ r = 1) ∨ ((¬ ∃ j : Nat, 0 ≤ j ∧ j ≤ 60 ∧ x = nI j) ∧ r = 0)) (fun _ => []) 0 0 := by
  refine kw_Mi.of (cc := cX10_isLight) (maxL := 1) (ret := (some .boolean)) (by decide) rfl ?_
  intro pZ eZ s mZ beZ meZ cZ A hE
  obtain ⟨hx, hb, hr, hml, hts, hown, hlocks, hin, hA, hP, hD, hK, hN⟩ := hE
  have hS : va_S A s.heap s.heap [] := va_S.rf
  have hl := lv_entry ([.int x]) (n := 1) (Nat.le_of_ble_eq_true rfl)
  rw [lg_entry_eq]
  generalize (lg_sl ([.int x]) ++ List.replicate (1 - (lg_sl ([.int x])).length) Slot.unset).toArray = ls at hl ⊢
  have hl : lv_has ls 1 [(0, .int x)] := hl
  refine lv_iload_n hx hb dX10_isLight_0 rfl (lv_at hl 0 rfl) ?_
  refine lv_iconst (v := 0) hx hb dX10_isLight_1 (by decide) ?_
  refine lv_bipush (v := 60) hx hb dX10_isLight_2 (by decide) ?_
  have hs1 : kw_Split [] [] [] [] [] := ⟨rfl, rfl, rfl, rfl, rfl, by decide⟩
  refine kw_go_i hs1 hP hD hS hA (va_runS (As := [.int x, .int 0, .int 60]) (rest := []) ⟨hx, hb, hml, hown, hts⟩ (gc_isIn l D y x 0 60 (by omega) (by omega) _) (va_cwS 3 hts gX10_isLight_X10_isIn rfl rfl rfl (by decide +kernel) ⟨Nat.le_of_ble_eq_true rfl, Nat.le_of_ble_eq_true rfl⟩) (kw_PreS hs1 hP hD hK hN) rfl rfl hl.1 rfl (lv_room (Nat.le_of_ble_eq_true rfl)) dX10_isLight_4 ⟨Nat.le_of_ble_eq_true rfl, Nat.le_of_ble_eq_true rfl⟩) (fun r2 u3 H locs hq hP hD hS => ?_)
  rcases hq with ⟨j4, h5, h6, rfl, rfl⟩ | ⟨h7, rfl⟩
  · skip
    have hP : va_P D vwCl [] H := hP
    have hD : va_D A [] := hD
    exact W.zret (v := 1) hx hb hr (by decide) (fun tZ ht hW => ⟨⟨1, (), rfl, Or.inl ⟨j4, h6, rfl, rfl⟩, by rw [ht]; exact hP.sub [] rfl, hD.sub [] (by decide) rfl⟩, hS.F ht⟩) hS.2.2 dX10_isLight_7
  · skip
    have hP : va_P D vwCl [] H := hP
    have hD : va_D A [] := hD
    exact W.zret (v := 0) hx hb hr (by decide) (fun tZ ht hW => ⟨⟨0, (), rfl, Or.inr (⟨h7, rfl⟩), by rw [ht]; exact hP.sub [] rfl, hD.sub [] (by decide) rfl⟩, hS.F ht⟩) hS.2.2 dX10_isLight_7

set_option maxHeartbeats 4000000 in
set_option maxRecDepth 100000 in
theorem gc_refuseBad (l : Launch) (D : va_G) (y : Nat → ClassId) (g : Nat) (kk : Nat) (nw : Nat) (im : Nat) (kp : Nat) (tx : Nat) (tr : Nat) (be : Nat) (sh : Nat) (sd : Nat) (rf : Nat) (ab : Int32) (bl : Int32) (f : Nat → Int32)  : kw_Mi l yX10_refuseBad wsX10_refuseBad ({ frames := 1, cells := 0, slots := 0, locals := 60 }) D y [.ref g] [(g, .inr (10, [.ref kk, .ref nw, .ref im, .ref kp, .ref tx, .ref tr, .ref be, .ref sh, .ref sd, .ref rf, .int ab, .int bl])), (rf, .inl (y 0, 3, .inl f))] (fun (r : Int32) (u : Unit) => r = (-2)) (fun _ => [(g, .inr (10, [.ref kk, .ref nw, .ref im, .ref kp, .ref tx, .ref tr, .ref be, .ref sh, .ref sd, .ref rf, .int ab, .int bl])), (rf, .inl (y 0, 3, .inl (upd f 0 ((f 0) + 1))))]) 0 0 := by
  refine kw_Mi.of (cc := cX10_refuseBad) (maxL := 1) (ret := (some .int)) (by decide) rfl ?_
  intro pZ eZ s mZ beZ meZ cZ A hE
  obtain ⟨hx, hb, hr, hml, hts, hown, hlocks, hin, hA, hP, hD, hK, hN⟩ := hE
  have hS : va_S A s.heap s.heap [] := va_S.rf
  have hl := lv_entry ([.ref g]) (n := 1) (Nat.le_of_ble_eq_true rfl)
  rw [lg_entry_eq]
  generalize (lg_sl ([.ref g]) ++ List.replicate (1 - (lg_sl ([.ref g])).length) Slot.unset).toArray = ls at hl ⊢
  have hl : lv_has ls 1 [(0, .ref g)] := hl
  have fw1 := hts (.fieldLink RX10 76 "GleanDusk" "refused" "[I") (List.mem_of_getElem? (i := 1) rfl)
  have iw10 : ∀ w ∈ wsX100, w ∈ wsX10_refuseBad := fun _ h => List.mem_cons_of_mem _ (List.mem_append_right _ h)
  refine lv_aload_n hx hb dX10_refuseBad_0 rfl (lv_at hl 0 rfl) ?_
  refine va_get (D := D) (ci := 10) (v := .ref rf) (C := RX10) (T := TX10) (N := 12) hx hb hts iw10 hown hK hP 0 rfl rfl 9 (by decide) fw1 (fun _ h9 => h9) rfl dX10_refuseBad_1 ?_
  refine lv_iconst (v := 0) hx hb dX10_refuseBad_4 (by decide) ?_
  refine lv_dup2_11 hx hb dX10_refuseBad_5 rfl rfl ?_
  refine va_iald hx hb hK hP 1 0 rfl rfl (by unfold vp_in; decide) dX10_refuseBad_6 ?_
  rw [show ((0 : Int32)).toNatClampNeg = 0 from rfl]
  refine lv_iconst (v := 1) hx hb dX10_refuseBad_7 (by decide) ?_
  refine lv_iadd hx hb dX10_refuseBad_8 ?_
  refine va_iast hx hb hK hP hD hS 1 0 rfl rfl (by unfold vp_in; decide) dX10_refuseBad_9 (fun H locs hP hD hS => ?_)
  rw [show ((0 : Int32)).toNatClampNeg = 0 from rfl] at hP hD
  have hP : va_P D vwCl [(g, .inr (10, [.ref kk, .ref nw, .ref im, .ref kp, .ref tx, .ref tr, .ref be, .ref sh, .ref sd, .ref rf, .int ab, .int bl])), (rf, .inl (y 0, 3, .inl (upd f 0 ((f 0) + 1))))] H := hP
  have hD : va_D A [(g, .inr (10, [.ref kk, .ref nw, .ref im, .ref kp, .ref tx, .ref tr, .ref be, .ref sh, .ref sd, .ref rf, .int ab, .int bl])), (rf, .inl (y 0, 3, .inl (upd f 0 ((f 0) + 1))))] := hD
  refine lv_bipush (v := (-2)) hx hb dX10_refuseBad_10 (by decide) ?_
  exact W.iret (v := (-2)) hx hb hr (fun tZ ht hW => ⟨⟨(-2), (), rfl, rfl, by rw [ht]; exact hP.sub [0, 1] rfl, hD.sub [0, 1] (by decide) rfl⟩, hS.F ht⟩) hS.2.2 dX10_refuseBad_12

set_option maxHeartbeats 4000000 in
set_option maxRecDepth 100000 in
theorem gc_refuseNo (l : Launch) (D : va_G) (y : Nat → ClassId) (g : Nat) (kk : Nat) (nw : Nat) (im : Nat) (kp : Nat) (tx : Nat) (tr : Nat) (be : Nat) (sh : Nat) (sd : Nat) (rf : Nat) (ab : Int32) (bl : Int32) (f : Nat → Int32)  : kw_Mi l yX10_refuseNo wsX10_refuseNo ({ frames := 1, cells := 0, slots := 0, locals := 60 }) D y [.ref g] [(g, .inr (10, [.ref kk, .ref nw, .ref im, .ref kp, .ref tx, .ref tr, .ref be, .ref sh, .ref sd, .ref rf, .int ab, .int bl])), (rf, .inl (y 0, 3, .inl f))] (fun (r : Int32) (u : Unit) => r = (-3)) (fun _ => [(g, .inr (10, [.ref kk, .ref nw, .ref im, .ref kp, .ref tx, .ref tr, .ref be, .ref sh, .ref sd, .ref rf, .int ab, .int bl])), (rf, .inl (y 0, 3, .inl (upd f 1 ((f 1) + 1))))]) 0 0 := by
  refine kw_Mi.of (cc := cX10_refuseNo) (maxL := 1) (ret := (some .int)) (by decide) rfl ?_
  intro pZ eZ s mZ beZ meZ cZ A hE
  obtain ⟨hx, hb, hr, hml, hts, hown, hlocks, hin, hA, hP, hD, hK, hN⟩ := hE
  have hS : va_S A s.heap s.heap [] := va_S.rf
  have hl := lv_entry ([.ref g]) (n := 1) (Nat.le_of_ble_eq_true rfl)
  rw [lg_entry_eq]
  generalize (lg_sl ([.ref g]) ++ List.replicate (1 - (lg_sl ([.ref g])).length) Slot.unset).toArray = ls at hl ⊢
  have hl : lv_has ls 1 [(0, .ref g)] := hl
  have fw1 := hts (.fieldLink RX10 76 "GleanDusk" "refused" "[I") (List.mem_of_getElem? (i := 1) rfl)
  have iw10 : ∀ w ∈ wsX100, w ∈ wsX10_refuseNo := fun _ h => List.mem_cons_of_mem _ (List.mem_append_right _ h)
  refine lv_aload_n hx hb dX10_refuseNo_0 rfl (lv_at hl 0 rfl) ?_
  refine va_get (D := D) (ci := 10) (v := .ref rf) (C := RX10) (T := TX10) (N := 12) hx hb hts iw10 hown hK hP 0 rfl rfl 9 (by decide) fw1 (fun _ h9 => h9) rfl dX10_refuseNo_1 ?_
  refine lv_iconst (v := 1) hx hb dX10_refuseNo_4 (by decide) ?_
  refine lv_dup2_11 hx hb dX10_refuseNo_5 rfl rfl ?_
  refine va_iald hx hb hK hP 1 0 rfl rfl (by unfold vp_in; decide) dX10_refuseNo_6 ?_
  rw [show ((1 : Int32)).toNatClampNeg = 1 from rfl]
  refine lv_iconst (v := 1) hx hb dX10_refuseNo_7 (by decide) ?_
  refine lv_iadd hx hb dX10_refuseNo_8 ?_
  refine va_iast hx hb hK hP hD hS 1 0 rfl rfl (by unfold vp_in; decide) dX10_refuseNo_9 (fun H locs hP hD hS => ?_)
  rw [show ((1 : Int32)).toNatClampNeg = 1 from rfl] at hP hD
  have hP : va_P D vwCl [(g, .inr (10, [.ref kk, .ref nw, .ref im, .ref kp, .ref tx, .ref tr, .ref be, .ref sh, .ref sd, .ref rf, .int ab, .int bl])), (rf, .inl (y 0, 3, .inl (upd f 1 ((f 1) + 1))))] H := hP
  have hD : va_D A [(g, .inr (10, [.ref kk, .ref nw, .ref im, .ref kp, .ref tx, .ref tr, .ref be, .ref sh, .ref sd, .ref rf, .int ab, .int bl])), (rf, .inl (y 0, 3, .inl (upd f 1 ((f 1) + 1))))] := hD
  refine lv_bipush (v := (-3)) hx hb dX10_refuseNo_10 (by decide) ?_
  exact W.iret (v := (-3)) hx hb hr (fun tZ ht hW => ⟨⟨(-3), (), rfl, rfl, by rw [ht]; exact hP.sub [0, 1] rfl, hD.sub [0, 1] (by decide) rfl⟩, hS.F ht⟩) hS.2.2 dX10_refuseNo_12

set_option maxHeartbeats 4000000 in
set_option maxRecDepth 100000 in
theorem gc_refuseFull (l : Launch) (D : va_G) (y : Nat → ClassId) (g : Nat) (kk : Nat) (nw : Nat) (im : Nat) (kp : Nat) (tx : Nat) (tr : Nat) (be : Nat) (sh : Nat) (sd : Nat) (rf : Nat) (ab : Int32) (bl : Int32) (f : Nat → Int32)  : kw_Mi l yX10_refuseFull wsX10_refuseFull ({ frames := 1, cells := 0, slots := 0, locals := 60 }) D y [.ref g] [(g, .inr (10, [.ref kk, .ref nw, .ref im, .ref kp, .ref tx, .ref tr, .ref be, .ref sh, .ref sd, .ref rf, .int ab, .int bl])), (rf, .inl (y 0, 3, .inl f))] (fun (r : Int32) (u : Unit) => r = (-4)) (fun _ => [(g, .inr (10, [.ref kk, .ref nw, .ref im, .ref kp, .ref tx, .ref tr, .ref be, .ref sh, .ref sd, .ref rf, .int ab, .int bl])), (rf, .inl (y 0, 3, .inl (upd f 2 ((f 2) + 1))))]) 0 0 := by
  refine kw_Mi.of (cc := cX10_refuseFull) (maxL := 1) (ret := (some .int)) (by decide) rfl ?_
  intro pZ eZ s mZ beZ meZ cZ A hE
  obtain ⟨hx, hb, hr, hml, hts, hown, hlocks, hin, hA, hP, hD, hK, hN⟩ := hE
  have hS : va_S A s.heap s.heap [] := va_S.rf
  have hl := lv_entry ([.ref g]) (n := 1) (Nat.le_of_ble_eq_true rfl)
  rw [lg_entry_eq]
  generalize (lg_sl ([.ref g]) ++ List.replicate (1 - (lg_sl ([.ref g])).length) Slot.unset).toArray = ls at hl ⊢
  have hl : lv_has ls 1 [(0, .ref g)] := hl
  have fw1 := hts (.fieldLink RX10 76 "GleanDusk" "refused" "[I") (List.mem_of_getElem? (i := 1) rfl)
  have iw10 : ∀ w ∈ wsX100, w ∈ wsX10_refuseFull := fun _ h => List.mem_cons_of_mem _ (List.mem_append_right _ h)
  refine lv_aload_n hx hb dX10_refuseFull_0 rfl (lv_at hl 0 rfl) ?_
  refine va_get (D := D) (ci := 10) (v := .ref rf) (C := RX10) (T := TX10) (N := 12) hx hb hts iw10 hown hK hP 0 rfl rfl 9 (by decide) fw1 (fun _ h9 => h9) rfl dX10_refuseFull_1 ?_
  refine lv_iconst (v := 2) hx hb dX10_refuseFull_4 (by decide) ?_
  refine lv_dup2_11 hx hb dX10_refuseFull_5 rfl rfl ?_
  refine va_iald hx hb hK hP 1 0 rfl rfl (by unfold vp_in; decide) dX10_refuseFull_6 ?_
  rw [show ((2 : Int32)).toNatClampNeg = 2 from rfl]
  refine lv_iconst (v := 1) hx hb dX10_refuseFull_7 (by decide) ?_
  refine lv_iadd hx hb dX10_refuseFull_8 ?_
  refine va_iast hx hb hK hP hD hS 1 0 rfl rfl (by unfold vp_in; decide) dX10_refuseFull_9 (fun H locs hP hD hS => ?_)
  rw [show ((2 : Int32)).toNatClampNeg = 2 from rfl] at hP hD
  have hP : va_P D vwCl [(g, .inr (10, [.ref kk, .ref nw, .ref im, .ref kp, .ref tx, .ref tr, .ref be, .ref sh, .ref sd, .ref rf, .int ab, .int bl])), (rf, .inl (y 0, 3, .inl (upd f 2 ((f 2) + 1))))] H := hP
  have hD : va_D A [(g, .inr (10, [.ref kk, .ref nw, .ref im, .ref kp, .ref tx, .ref tr, .ref be, .ref sh, .ref sd, .ref rf, .int ab, .int bl])), (rf, .inl (y 0, 3, .inl (upd f 2 ((f 2) + 1))))] := hD
  refine lv_bipush (v := (-4)) hx hb dX10_refuseFull_10 (by decide) ?_
  exact W.iret (v := (-4)) hx hb hr (fun tZ ht hW => ⟨⟨(-4), (), rfl, rfl, by rw [ht]; exact hP.sub [0, 1] rfl, hD.sub [0, 1] (by decide) rfl⟩, hS.F ht⟩) hS.2.2 dX10_refuseFull_12

set_option maxHeartbeats 4000000 in
set_option maxRecDepth 100000 in
theorem gc_refuseTen (l : Launch) (D : va_G) (y : Nat → ClassId) (g : Nat) (kk : Nat) (nw : Nat) (im : Nat) (kp : Nat) (tx : Nat) (tr : Nat) (be : Nat) (sh : Nat) (sd : Nat) (rf : Nat) (ab : Int32) (bl : Int32) (f : Nat → Int32)  : kw_Mi l yX10_refuseTen wsX10_refuseTen ({ frames := 1, cells := 0, slots := 0, locals := 60 }) D y [.ref g] [(g, .inr (10, [.ref kk, .ref nw, .ref im, .ref kp, .ref tx, .ref tr, .ref be, .ref sh, .ref sd, .ref rf, .int ab, .int bl])), (rf, .inl (y 0, 3, .inl f))] (fun (r : Int32) (u : Unit) => r = (-10)) (fun _ => [(g, .inr (10, [.ref kk, .ref nw, .ref im, .ref kp, .ref tx, .ref tr, .ref be, .ref sh, .ref sd, .ref rf, .int ab, .int bl])), (rf, .inl (y 0, 3, .inl (upd f 0 ((f 0) + 1))))]) 0 0 := by
  refine kw_Mi.of (cc := cX10_refuseTen) (maxL := 1) (ret := (some .int)) (by decide) rfl ?_
  intro pZ eZ s mZ beZ meZ cZ A hE
  obtain ⟨hx, hb, hr, hml, hts, hown, hlocks, hin, hA, hP, hD, hK, hN⟩ := hE
  have hS : va_S A s.heap s.heap [] := va_S.rf
  have hl := lv_entry ([.ref g]) (n := 1) (Nat.le_of_ble_eq_true rfl)
  rw [lg_entry_eq]
  generalize (lg_sl ([.ref g]) ++ List.replicate (1 - (lg_sl ([.ref g])).length) Slot.unset).toArray = ls at hl ⊢
  have hl : lv_has ls 1 [(0, .ref g)] := hl
  have fw1 := hts (.fieldLink RX10 76 "GleanDusk" "refused" "[I") (List.mem_of_getElem? (i := 1) rfl)
  have iw10 : ∀ w ∈ wsX100, w ∈ wsX10_refuseTen := fun _ h => List.mem_cons_of_mem _ (List.mem_append_right _ h)
  refine lv_aload_n hx hb dX10_refuseTen_0 rfl (lv_at hl 0 rfl) ?_
  refine va_get (D := D) (ci := 10) (v := .ref rf) (C := RX10) (T := TX10) (N := 12) hx hb hts iw10 hown hK hP 0 rfl rfl 9 (by decide) fw1 (fun _ h9 => h9) rfl dX10_refuseTen_1 ?_
  refine lv_iconst (v := 0) hx hb dX10_refuseTen_4 (by decide) ?_
  refine lv_dup2_11 hx hb dX10_refuseTen_5 rfl rfl ?_
  refine va_iald hx hb hK hP 1 0 rfl rfl (by unfold vp_in; decide) dX10_refuseTen_6 ?_
  rw [show ((0 : Int32)).toNatClampNeg = 0 from rfl]
  refine lv_iconst (v := 1) hx hb dX10_refuseTen_7 (by decide) ?_
  refine lv_iadd hx hb dX10_refuseTen_8 ?_
  refine va_iast hx hb hK hP hD hS 1 0 rfl rfl (by unfold vp_in; decide) dX10_refuseTen_9 (fun H locs hP hD hS => ?_)
  rw [show ((0 : Int32)).toNatClampNeg = 0 from rfl] at hP hD
  have hP : va_P D vwCl [(g, .inr (10, [.ref kk, .ref nw, .ref im, .ref kp, .ref tx, .ref tr, .ref be, .ref sh, .ref sd, .ref rf, .int ab, .int bl])), (rf, .inl (y 0, 3, .inl (upd f 0 ((f 0) + 1))))] H := hP
  have hD : va_D A [(g, .inr (10, [.ref kk, .ref nw, .ref im, .ref kp, .ref tx, .ref tr, .ref be, .ref sh, .ref sd, .ref rf, .int ab, .int bl])), (rf, .inl (y 0, 3, .inl (upd f 0 ((f 0) + 1))))] := hD
  refine lv_bipush (v := (-10)) hx hb dX10_refuseTen_10 (by decide) ?_
  exact W.iret (v := (-10)) hx hb hr (fun tZ ht hW => ⟨⟨(-10), (), rfl, rfl, by rw [ht]; exact hP.sub [0, 1] rfl, hD.sub [0, 1] (by decide) rfl⟩, hS.F ht⟩) hS.2.2 dX10_refuseTen_12

set_option maxHeartbeats 4000000 in
set_option maxRecDepth 100000 in
theorem gc_hasField (l : Launch) (D : va_G) (y : Nat → ClassId) (nw : Nat) (kk : Nat) (nk : Nat) (nd : Nat) (ne : Nat) (nm : Nat) (nn : Nat) (fi : Nat) (gl : Nat) (un : Nat) (mi : Nat) (no : Nat) (x : Int32) (hfi : fi ≤ 6) (hgl : gl ≤ 5) (hun : un ≤ 8) (hmi : mi ≤ 4) (hno : no ≤ 6) : kw_Mi l yX4_hasField wsX4_hasField ({ frames := 2, cells := 0, slots := 0, locals := 81 }) D y [.ref nw, .int x] [(nw, .inr (4, [.ref kk, .ref nk, .ref nd, .ref ne, .ref nm, .ref nn, .int (nI fi), .int (nI gl), .int (nI un), .int (nI mi), .int (nI no)]))] (fun (r : Int32) (u : Unit) => (∃ j : Nat, j < fi ∧ x = nI j ∧ r = 1) ∨ ((¬ ∃ j : Nat, j < fi ∧ x = nI j) ∧ r = 0)) (fun _ => [(nw, .inr (4, [.ref kk, .ref nk, .ref nd, .ref ne, .ref nm, .ref nn, .int (nI fi), .int (nI gl), .int (nI un), .int (nI mi), .int (nI no)]))]) 0 0 := by
  refine kw_Mi.of (cc := cX4_hasField) (maxL := 2) (ret := (some .boolean)) (by decide) rfl ?_
  intro pZ eZ s mZ beZ meZ cZ A hE
  obtain ⟨hx, hb, hr, hml, hts, hown, hlocks, hin, hA, hP, hD, hK, hN⟩ := hE
  have hS : va_S A s.heap s.heap [] := va_S.rf
  have hl := lv_entry ([.ref nw, .int x]) (n := 2) (Nat.le_of_ble_eq_true rfl)
  rw [lg_entry_eq]
  generalize (lg_sl ([.ref nw, .int x]) ++ List.replicate (2 - (lg_sl ([.ref nw, .int x])).length) Slot.unset).toArray = ls at hl ⊢
  have hl : lv_has ls 2 [(0, .ref nw), (1, .int x)] := hl
  have fw1 := hts (.fieldLink RX4 38 "GleanDusk$Parish" "fields" "I") (List.mem_of_getElem? (i := 1) rfl)
  have fw2 := hts (.initialized RX10) (List.mem_of_getElem? (i := 3) rfl)
  have fw3 := hts (.static yX10_isBelow) (List.mem_of_getElem? (i := 2) rfl)
  have iw4 : ∀ w ∈ wsX40, w ∈ wsX4_hasField := fun _ h => List.mem_cons_of_mem _ (List.mem_append_right _ h)
  refine lv_iload_n hx hb dX4_hasField_0 rfl (lv_at hl 1 rfl) ?_
  refine lv_aload_n hx hb dX4_hasField_1 rfl (lv_at hl 0 rfl) ?_
  refine va_get (D := D) (ci := 4) (v := .int (nI fi)) (C := RX4) (T := TX4) (N := 11) hx hb hts iw4 hown hK hP 0 rfl rfl 6 (by decide) fw1 (fun _ h9 => h9) rfl dX4_hasField_2 ?_
  have hs1 : kw_Split [(nw, .inr (4, [.ref kk, .ref nk, .ref nd, .ref ne, .ref nm, .ref nn, .int (nI fi), .int (nI gl), .int (nI un), .int (nI mi), .int (nI no)]))] [] [(nw, .inr (4, [.ref kk, .ref nk, .ref nd, .ref ne, .ref nm, .ref nn, .int (nI fi), .int (nI gl), .int (nI un), .int (nI mi), .int (nI no)]))] [] [0] := ⟨rfl, rfl, rfl, rfl, rfl, by decide⟩
  refine kw_go_i hs1 hP hD hS hA (va_runSN (As := [.int x, .int (nI fi)]) (rest := []) ⟨hx, hb, hml, hown, hts⟩ (gc_isBelow l D y x fi (by omega) _) ⟨va_cnB 2 hts gX4_hasField_X10_isBelow_n73 rfl rfl rfl (hN.1 ("GleanDusk$Parish", 73, yX10_isBelow) (List.mem_of_getElem? (i := 15) rfl)) fw2 (by decide +kernel) ⟨Nat.le_of_ble_eq_true rfl, Nat.le_of_ble_eq_true rfl⟩, fw3, trivial⟩ (kw_PreS hs1 hP hD hK hN) rfl rfl hl.1 rfl (lv_room (Nat.le_of_ble_eq_true rfl)) dX4_hasField_5 ⟨Nat.le_of_ble_eq_true rfl, Nat.le_of_ble_eq_true rfl⟩) (fun r2 u3 H locs hq hP hD hS => ?_)
  rcases hq with ⟨j4, h5, rfl, rfl⟩ | ⟨h6, rfl⟩
  · skip
    have hP : va_P D vwCl [(nw, .inr (4, [.ref kk, .ref nk, .ref nd, .ref ne, .ref nm, .ref nn, .int (nI fi), .int (nI gl), .int (nI un), .int (nI mi), .int (nI no)]))] H := hP
    have hD : va_D A [(nw, .inr (4, [.ref kk, .ref nk, .ref nd, .ref ne, .ref nm, .ref nn, .int (nI fi), .int (nI gl), .int (nI un), .int (nI mi), .int (nI no)]))] := hD
    exact W.zret (v := 1) hx hb hr (by decide) (fun tZ ht hW => ⟨⟨1, (), rfl, Or.inl ⟨j4, h5, rfl, rfl⟩, by rw [ht]; exact hP.sub [0] rfl, hD.sub [0] (by decide) rfl⟩, hS.F ht⟩) hS.2.2 dX4_hasField_8
  · skip
    have hP : va_P D vwCl [(nw, .inr (4, [.ref kk, .ref nk, .ref nd, .ref ne, .ref nm, .ref nn, .int (nI fi), .int (nI gl), .int (nI un), .int (nI mi), .int (nI no)]))] H := hP
    have hD : va_D A [(nw, .inr (4, [.ref kk, .ref nk, .ref nd, .ref ne, .ref nm, .ref nn, .int (nI fi), .int (nI gl), .int (nI un), .int (nI mi), .int (nI no)]))] := hD
    exact W.zret (v := 0) hx hb hr (by decide) (fun tZ ht hW => ⟨⟨0, (), rfl, Or.inr (⟨h6, rfl⟩), by rw [ht]; exact hP.sub [0] rfl, hD.sub [0] (by decide) rfl⟩, hS.F ht⟩) hS.2.2 dX4_hasField_8

set_option maxHeartbeats 4000000 in
set_option maxRecDepth 100000 in
theorem gc_hasGleaner (l : Launch) (D : va_G) (y : Nat → ClassId) (nw : Nat) (kk : Nat) (nk : Nat) (nd : Nat) (ne : Nat) (nm : Nat) (nn : Nat) (fi : Nat) (gl : Nat) (un : Nat) (mi : Nat) (no : Nat) (x : Int32) (hfi : fi ≤ 6) (hgl : gl ≤ 5) (hun : un ≤ 8) (hmi : mi ≤ 4) (hno : no ≤ 6) : kw_Mi l yX4_hasGleaner wsX4_hasGleaner ({ frames := 2, cells := 0, slots := 0, locals := 81 }) D y [.ref nw, .int x] [(nw, .inr (4, [.ref kk, .ref nk, .ref nd, .ref ne, .ref nm, .ref nn, .int (nI fi), .int (nI gl), .int (nI un), .int (nI mi), .int (nI no)]))] (fun (r : Int32) (u : Unit) => (∃ j : Nat, j < gl ∧ x = nI j ∧ r = 1) ∨ ((¬ ∃ j : Nat, j < gl ∧ x = nI j) ∧ r = 0)) (fun _ => [(nw, .inr (4, [.ref kk, .ref nk, .ref nd, .ref ne, .ref nm, .ref nn, .int (nI fi), .int (nI gl), .int (nI un), .int (nI mi), .int (nI no)]))]) 0 0 := by
  refine kw_Mi.of (cc := cX4_hasGleaner) (maxL := 2) (ret := (some .boolean)) (by decide) rfl ?_
  intro pZ eZ s mZ beZ meZ cZ A hE
  obtain ⟨hx, hb, hr, hml, hts, hown, hlocks, hin, hA, hP, hD, hK, hN⟩ := hE
  have hS : va_S A s.heap s.heap [] := va_S.rf
  have hl := lv_entry ([.ref nw, .int x]) (n := 2) (Nat.le_of_ble_eq_true rfl)
  rw [lg_entry_eq]
  generalize (lg_sl ([.ref nw, .int x]) ++ List.replicate (2 - (lg_sl ([.ref nw, .int x])).length) Slot.unset).toArray = ls at hl ⊢
  have hl : lv_has ls 2 [(0, .ref nw), (1, .int x)] := hl
  have fw1 := hts (.fieldLink RX4 42 "GleanDusk$Parish" "gleaners" "I") (List.mem_of_getElem? (i := 1) rfl)
  have fw2 := hts (.initialized RX10) (List.mem_of_getElem? (i := 3) rfl)
  have fw3 := hts (.static yX10_isBelow) (List.mem_of_getElem? (i := 2) rfl)
  have iw4 : ∀ w ∈ wsX40, w ∈ wsX4_hasGleaner := fun _ h => List.mem_cons_of_mem _ (List.mem_append_right _ h)
  refine lv_iload_n hx hb dX4_hasGleaner_0 rfl (lv_at hl 1 rfl) ?_
  refine lv_aload_n hx hb dX4_hasGleaner_1 rfl (lv_at hl 0 rfl) ?_
  refine va_get (D := D) (ci := 4) (v := .int (nI gl)) (C := RX4) (T := TX4) (N := 11) hx hb hts iw4 hown hK hP 0 rfl rfl 7 (by decide) fw1 (fun _ h9 => h9) rfl dX4_hasGleaner_2 ?_
  have hs1 : kw_Split [(nw, .inr (4, [.ref kk, .ref nk, .ref nd, .ref ne, .ref nm, .ref nn, .int (nI fi), .int (nI gl), .int (nI un), .int (nI mi), .int (nI no)]))] [] [(nw, .inr (4, [.ref kk, .ref nk, .ref nd, .ref ne, .ref nm, .ref nn, .int (nI fi), .int (nI gl), .int (nI un), .int (nI mi), .int (nI no)]))] [] [0] := ⟨rfl, rfl, rfl, rfl, rfl, by decide⟩
  refine kw_go_i hs1 hP hD hS hA (va_runSN (As := [.int x, .int (nI gl)]) (rest := []) ⟨hx, hb, hml, hown, hts⟩ (gc_isBelow l D y x gl (by omega) _) ⟨va_cnB 2 hts gX4_hasGleaner_X10_isBelow_n73 rfl rfl rfl (hN.1 ("GleanDusk$Parish", 73, yX10_isBelow) (List.mem_of_getElem? (i := 15) rfl)) fw2 (by decide +kernel) ⟨Nat.le_of_ble_eq_true rfl, Nat.le_of_ble_eq_true rfl⟩, fw3, trivial⟩ (kw_PreS hs1 hP hD hK hN) rfl rfl hl.1 rfl (lv_room (Nat.le_of_ble_eq_true rfl)) dX4_hasGleaner_5 ⟨Nat.le_of_ble_eq_true rfl, Nat.le_of_ble_eq_true rfl⟩) (fun r2 u3 H locs hq hP hD hS => ?_)
  rcases hq with ⟨j4, h5, rfl, rfl⟩ | ⟨h6, rfl⟩
  · skip
    have hP : va_P D vwCl [(nw, .inr (4, [.ref kk, .ref nk, .ref nd, .ref ne, .ref nm, .ref nn, .int (nI fi), .int (nI gl), .int (nI un), .int (nI mi), .int (nI no)]))] H := hP
    have hD : va_D A [(nw, .inr (4, [.ref kk, .ref nk, .ref nd, .ref ne, .ref nm, .ref nn, .int (nI fi), .int (nI gl), .int (nI un), .int (nI mi), .int (nI no)]))] := hD
    exact W.zret (v := 1) hx hb hr (by decide) (fun tZ ht hW => ⟨⟨1, (), rfl, Or.inl ⟨j4, h5, rfl, rfl⟩, by rw [ht]; exact hP.sub [0] rfl, hD.sub [0] (by decide) rfl⟩, hS.F ht⟩) hS.2.2 dX4_hasGleaner_8
  · skip
    have hP : va_P D vwCl [(nw, .inr (4, [.ref kk, .ref nk, .ref nd, .ref ne, .ref nm, .ref nn, .int (nI fi), .int (nI gl), .int (nI un), .int (nI mi), .int (nI no)]))] H := hP
    have hD : va_D A [(nw, .inr (4, [.ref kk, .ref nk, .ref nd, .ref ne, .ref nm, .ref nn, .int (nI fi), .int (nI gl), .int (nI un), .int (nI mi), .int (nI no)]))] := hD
    exact W.zret (v := 0) hx hb hr (by decide) (fun tZ ht hW => ⟨⟨0, (), rfl, Or.inr (⟨h6, rfl⟩), by rw [ht]; exact hP.sub [0] rfl, hD.sub [0] (by decide) rfl⟩, hS.F ht⟩) hS.2.2 dX4_hasGleaner_8

set_option maxHeartbeats 4000000 in
set_option maxRecDepth 100000 in
theorem gc_dbecome (l : Launch) (D : va_G) (y : Nat → ClassId) (d : Nat) (dl : Nat) (da : Nat) (ds : Nat) (dst : Int32) (dcl : Int32) (dnu : Int32) (dfl : Nat → Int32) (dfa : Nat → Int32) (dfs : Nat → Int32) (o : Nat) (ol : Nat) (oa : Nat) (os : Nat) (ost : Int32) (ocl : Int32) (onu : Int32) (ofl : Nat → Int32) (ofa : Nat → Int32) (ofs : Nat → Int32) (hda : kw_bd 6 5 dfa) (hoa : kw_bd 6 5 ofa) : kw_Mv l yX1_become wsX1_become ({ frames := 1, cells := 0, slots := 0, locals := 60 }) D y [.ref d, .ref o] [(d, .inr (1, [.ref dl, .ref da, .ref ds, .int dst, .int dcl, .int dnu])), (dl, .inl (y 0, 6, .inl dfl)), (da, .inl (y 0, 5, .inl dfa)), (ds, .inl (y 0, 5, .inl dfs)), (o, .inr (1, [.ref ol, .ref oa, .ref os, .int ost, .int ocl, .int onu])), (ol, .inl (y 0, 6, .inl ofl)), (oa, .inl (y 0, 5, .inl ofa)), (os, .inl (y 0, 5, .inl ofs))] (fun (u : Unit) => kw_bd 6 5 (va_cpy ofa dfa 0 0 5)) (fun _ => [(d, .inr (1, [.ref dl, .ref da, .ref ds, .int ost, .int ocl, .int onu])), (dl, .inl (y 0, 6, .inl (va_cpy ofl dfl 0 0 6))), (da, .inl (y 0, 5, .inl (va_cpy ofa dfa 0 0 5))), (ds, .inl (y 0, 5, .inl (va_cpy ofs dfs 0 0 5))), (o, .inr (1, [.ref ol, .ref oa, .ref os, .int ost, .int ocl, .int onu])), (ol, .inl (y 0, 6, .inl ofl)), (oa, .inl (y 0, 5, .inl ofa)), (os, .inl (y 0, 5, .inl ofs))]) 0 0 := by
  refine kw_Mv.of (cc := cX1_become) (maxL := 2) (ret := none) (by decide) rfl ?_
  intro pZ eZ s mZ beZ meZ cZ A hE
  obtain ⟨hx, hb, hr, hml, hts, hown, hlocks, hin, hA, hP, hD, hK, hN⟩ := hE
  have hS : va_S A s.heap s.heap [] := va_S.rf
  have hl := lv_entry ([.ref d, .ref o]) (n := 2) (Nat.le_of_ble_eq_true rfl)
  rw [lg_entry_eq]
  generalize (lg_sl ([.ref d, .ref o]) ++ List.replicate (2 - (lg_sl ([.ref d, .ref o])).length) Slot.unset).toArray = ls at hl ⊢
  have hl : lv_has ls 2 [(0, .ref d), (1, .ref o)] := hl
  have fw1 := hts (.fieldLink RX1 9 "GleanDusk$Dusk" "light" "[I") (List.mem_of_getElem? (i := 1) rfl)
  have fw2 := hts (.methodLink RX1 21 arraycopyName) (List.mem_of_getElem? (i := 2) rfl)
  have fw3 := hts (.native arraycopyName) (List.mem_of_getElem? (i := 3) rfl)
  have fw4 := hts (.static arraycopyName) (List.mem_of_getElem? (i := 4) rfl)
  have fw5 := hts (.initialized "java/lang/System") (List.mem_of_getElem? (i := 5) rfl)
  have fw6 := hts (.fieldLink RX1 15 "GleanDusk$Dusk" "at" "[I") (List.mem_of_getElem? (i := 6) rfl)
  have fw7 := hts (.fieldLink RX1 18 "GleanDusk$Dusk" "store" "[I") (List.mem_of_getElem? (i := 7) rfl)
  have fw8 := hts (.fieldLink RX1 27 "GleanDusk$Dusk" "step" "I") (List.mem_of_getElem? (i := 8) rfl)
  have fw9 := hts (.fieldLink RX1 31 "GleanDusk$Dusk" "cloud" "I") (List.mem_of_getElem? (i := 9) rfl)
  have fw10 := hts (.fieldLink RX1 34 "GleanDusk$Dusk" "number" "I") (List.mem_of_getElem? (i := 10) rfl)
  have iw1 : ∀ w ∈ wsX10, w ∈ wsX1_become := fun _ h => List.mem_cons_of_mem _ (List.mem_append_right _ h)
  refine lv_aload_n hx hb dX1_become_0 rfl (lv_at hl 1 rfl) ?_
  refine va_get (D := D) (ci := 1) (v := .ref ol) (C := RX1) (T := TX1) (N := 6) hx hb hts iw1 hown hK hP 4 rfl rfl 0 (by decide) fw1 (fun _ h9 => h9) rfl dX1_become_1 ?_
  refine lv_iconst (v := 0) hx hb dX1_become_4 (by decide) ?_
  refine lv_aload_n hx hb dX1_become_5 rfl (lv_at hl 0 rfl) ?_
  refine va_get (D := D) (ci := 1) (v := .ref dl) (C := RX1) (T := TX1) (N := 6) hx hb hts iw1 hown hK hP 0 rfl rfl 0 (by decide) fw1 (fun _ h9 => h9) rfl dX1_become_6 ?_
  refine lv_iconst (v := 0) hx hb dX1_become_9 (by decide) ?_
  refine lv_bipush (v := 6) hx hb dX1_become_10 (by decide) ?_
  refine va_copyi hx hb (hml.trans hl.1.symm) hown fw2 fw3 fw4 fw5 hK hP hD hS 5 1 0 0 rfl rfl rfl rfl rfl (by decide) (by decide) (by decide) (by decide) (by decide) (fun _ _ => rfl) (Nat.le_of_ble_eq_true rfl) (Nat.le_of_ble_eq_true rfl) dX1_become_12 (fun H locs hP hD hS => ?_)
  rw [show ((0 : Int32)).toNatClampNeg = 0 from rfl, show ((6 : Int32)).toNatClampNeg = 6 from rfl] at hP hD
  have hP : va_P D vwCl [(d, .inr (1, [.ref dl, .ref da, .ref ds, .int dst, .int dcl, .int dnu])), (dl, .inl (y 0, 6, .inl (va_cpy ofl dfl 0 0 6))), (da, .inl (y 0, 5, .inl dfa)), (ds, .inl (y 0, 5, .inl dfs)), (o, .inr (1, [.ref ol, .ref oa, .ref os, .int ost, .int ocl, .int onu])), (ol, .inl (y 0, 6, .inl ofl)), (oa, .inl (y 0, 5, .inl ofa)), (os, .inl (y 0, 5, .inl ofs))] H := hP
  have hD : va_D A [(d, .inr (1, [.ref dl, .ref da, .ref ds, .int dst, .int dcl, .int dnu])), (dl, .inl (y 0, 6, .inl (va_cpy ofl dfl 0 0 6))), (da, .inl (y 0, 5, .inl dfa)), (ds, .inl (y 0, 5, .inl dfs)), (o, .inr (1, [.ref ol, .ref oa, .ref os, .int ost, .int ocl, .int onu])), (ol, .inl (y 0, 6, .inl ofl)), (oa, .inl (y 0, 5, .inl ofa)), (os, .inl (y 0, 5, .inl ofs))] := hD
  refine lv_aload_n hx hb dX1_become_15 rfl (lv_at hl 1 rfl) ?_
  refine va_get (D := D) (ci := 1) (v := .ref oa) (C := RX1) (T := TX1) (N := 6) hx hb hts iw1 hown hK hP 4 rfl rfl 1 (by decide) fw6 (fun _ h9 => h9) rfl dX1_become_16 ?_
  refine lv_iconst (v := 0) hx hb dX1_become_19 (by decide) ?_
  refine lv_aload_n hx hb dX1_become_20 rfl (lv_at hl 0 rfl) ?_
  refine va_get (D := D) (ci := 1) (v := .ref da) (C := RX1) (T := TX1) (N := 6) hx hb hts iw1 hown hK hP 0 rfl rfl 1 (by decide) fw6 (fun _ h9 => h9) rfl dX1_become_21 ?_
  refine lv_iconst (v := 0) hx hb dX1_become_24 (by decide) ?_
  refine lv_iconst (v := 5) hx hb dX1_become_25 (by decide) ?_
  refine va_copyi hx hb (hml.trans hl.1.symm) hown fw2 fw3 fw4 fw5 hK hP hD hS 6 2 0 0 rfl rfl rfl rfl rfl (by decide) (by decide) (by decide) (by decide) (by decide) (fun _ _ => rfl) (Nat.le_of_ble_eq_true rfl) (Nat.le_of_ble_eq_true rfl) dX1_become_26 (fun H locs hP hD hS => ?_)
  rw [show ((0 : Int32)).toNatClampNeg = 0 from rfl, show ((5 : Int32)).toNatClampNeg = 5 from rfl] at hP hD
  have hb1 : kw_bd 6 5 (va_cpy ofa dfa 0 0 5) := kw_bdc hoa hda (by omega)
  have hP : va_P D vwCl [(d, .inr (1, [.ref dl, .ref da, .ref ds, .int dst, .int dcl, .int dnu])), (dl, .inl (y 0, 6, .inl (va_cpy ofl dfl 0 0 6))), (da, .inl (y 0, 5, .inl (va_cpy ofa dfa 0 0 5))), (ds, .inl (y 0, 5, .inl dfs)), (o, .inr (1, [.ref ol, .ref oa, .ref os, .int ost, .int ocl, .int onu])), (ol, .inl (y 0, 6, .inl ofl)), (oa, .inl (y 0, 5, .inl ofa)), (os, .inl (y 0, 5, .inl ofs))] H := hP
  have hD : va_D A [(d, .inr (1, [.ref dl, .ref da, .ref ds, .int dst, .int dcl, .int dnu])), (dl, .inl (y 0, 6, .inl (va_cpy ofl dfl 0 0 6))), (da, .inl (y 0, 5, .inl (va_cpy ofa dfa 0 0 5))), (ds, .inl (y 0, 5, .inl dfs)), (o, .inr (1, [.ref ol, .ref oa, .ref os, .int ost, .int ocl, .int onu])), (ol, .inl (y 0, 6, .inl ofl)), (oa, .inl (y 0, 5, .inl ofa)), (os, .inl (y 0, 5, .inl ofs))] := hD
  refine lv_aload_n hx hb dX1_become_29 rfl (lv_at hl 1 rfl) ?_
  refine va_get (D := D) (ci := 1) (v := .ref os) (C := RX1) (T := TX1) (N := 6) hx hb hts iw1 hown hK hP 4 rfl rfl 2 (by decide) fw7 (fun _ h9 => h9) rfl dX1_become_30 ?_
  refine lv_iconst (v := 0) hx hb dX1_become_33 (by decide) ?_
  refine lv_aload_n hx hb dX1_become_34 rfl (lv_at hl 0 rfl) ?_
  refine va_get (D := D) (ci := 1) (v := .ref ds) (C := RX1) (T := TX1) (N := 6) hx hb hts iw1 hown hK hP 0 rfl rfl 2 (by decide) fw7 (fun _ h9 => h9) rfl dX1_become_35 ?_
  refine lv_iconst (v := 0) hx hb dX1_become_38 (by decide) ?_
  refine lv_iconst (v := 5) hx hb dX1_become_39 (by decide) ?_
  refine va_copyi hx hb (hml.trans hl.1.symm) hown fw2 fw3 fw4 fw5 hK hP hD hS 7 3 0 0 rfl rfl rfl rfl rfl (by decide) (by decide) (by decide) (by decide) (by decide) (fun _ _ => rfl) (Nat.le_of_ble_eq_true rfl) (Nat.le_of_ble_eq_true rfl) dX1_become_40 (fun H locs hP hD hS => ?_)
  rw [show ((0 : Int32)).toNatClampNeg = 0 from rfl, show ((5 : Int32)).toNatClampNeg = 5 from rfl] at hP hD
  have hP : va_P D vwCl [(d, .inr (1, [.ref dl, .ref da, .ref ds, .int dst, .int dcl, .int dnu])), (dl, .inl (y 0, 6, .inl (va_cpy ofl dfl 0 0 6))), (da, .inl (y 0, 5, .inl (va_cpy ofa dfa 0 0 5))), (ds, .inl (y 0, 5, .inl (va_cpy ofs dfs 0 0 5))), (o, .inr (1, [.ref ol, .ref oa, .ref os, .int ost, .int ocl, .int onu])), (ol, .inl (y 0, 6, .inl ofl)), (oa, .inl (y 0, 5, .inl ofa)), (os, .inl (y 0, 5, .inl ofs))] H := hP
  have hD : va_D A [(d, .inr (1, [.ref dl, .ref da, .ref ds, .int dst, .int dcl, .int dnu])), (dl, .inl (y 0, 6, .inl (va_cpy ofl dfl 0 0 6))), (da, .inl (y 0, 5, .inl (va_cpy ofa dfa 0 0 5))), (ds, .inl (y 0, 5, .inl (va_cpy ofs dfs 0 0 5))), (o, .inr (1, [.ref ol, .ref oa, .ref os, .int ost, .int ocl, .int onu])), (ol, .inl (y 0, 6, .inl ofl)), (oa, .inl (y 0, 5, .inl ofa)), (os, .inl (y 0, 5, .inl ofs))] := hD
  refine lv_aload_n hx hb dX1_become_43 rfl (lv_at hl 0 rfl) ?_
  refine lv_aload_n hx hb dX1_become_44 rfl (lv_at hl 1 rfl) ?_
  refine va_get (D := D) (ci := 1) (v := .int ost) (C := RX1) (T := TX1) (N := 6) hx hb hts iw1 hown hK hP 4 rfl rfl 3 (by decide) fw8 (fun _ h9 => h9) rfl dX1_become_45 ?_
  refine va_put (D := D) (ci := 1) (v := .int ost) (ty := .int) (C := RX1) (T := TX1) (N := 6) hx hb hts iw1 tyX1 tyX1_ok nmX1 hown hK hP hD hS 0 rfl rfl 3 (by decide) fw8 (fun _ h9 => h9) rfl (by decide +kernel) rfl rfl (Nat.le_of_ble_eq_true rfl) dX1_become_48 (fun H locs hP hD hS => ?_)
  have hP : va_P D vwCl [(d, .inr (1, [.ref dl, .ref da, .ref ds, .int ost, .int dcl, .int dnu])), (dl, .inl (y 0, 6, .inl (va_cpy ofl dfl 0 0 6))), (da, .inl (y 0, 5, .inl (va_cpy ofa dfa 0 0 5))), (ds, .inl (y 0, 5, .inl (va_cpy ofs dfs 0 0 5))), (o, .inr (1, [.ref ol, .ref oa, .ref os, .int ost, .int ocl, .int onu])), (ol, .inl (y 0, 6, .inl ofl)), (oa, .inl (y 0, 5, .inl ofa)), (os, .inl (y 0, 5, .inl ofs))] H := hP
  have hD : va_D A [(d, .inr (1, [.ref dl, .ref da, .ref ds, .int ost, .int dcl, .int dnu])), (dl, .inl (y 0, 6, .inl (va_cpy ofl dfl 0 0 6))), (da, .inl (y 0, 5, .inl (va_cpy ofa dfa 0 0 5))), (ds, .inl (y 0, 5, .inl (va_cpy ofs dfs 0 0 5))), (o, .inr (1, [.ref ol, .ref oa, .ref os, .int ost, .int ocl, .int onu])), (ol, .inl (y 0, 6, .inl ofl)), (oa, .inl (y 0, 5, .inl ofa)), (os, .inl (y 0, 5, .inl ofs))] := hD
  refine lv_aload_n hx hb dX1_become_51 rfl (lv_at hl 0 rfl) ?_
  refine lv_aload_n hx hb dX1_become_52 rfl (lv_at hl 1 rfl) ?_
  refine va_get (D := D) (ci := 1) (v := .int ocl) (C := RX1) (T := TX1) (N := 6) hx hb hts iw1 hown hK hP 4 rfl rfl 4 (by decide) fw9 (fun _ h9 => h9) rfl dX1_become_53 ?_
  refine va_put (D := D) (ci := 1) (v := .int ocl) (ty := .int) (C := RX1) (T := TX1) (N := 6) hx hb hts iw1 tyX1 tyX1_ok nmX1 hown hK hP hD hS 0 rfl rfl 4 (by decide) fw9 (fun _ h9 => h9) rfl (by decide +kernel) rfl rfl (Nat.le_of_ble_eq_true rfl) dX1_become_56 (fun H locs hP hD hS => ?_)
  have hP : va_P D vwCl [(d, .inr (1, [.ref dl, .ref da, .ref ds, .int ost, .int ocl, .int dnu])), (dl, .inl (y 0, 6, .inl (va_cpy ofl dfl 0 0 6))), (da, .inl (y 0, 5, .inl (va_cpy ofa dfa 0 0 5))), (ds, .inl (y 0, 5, .inl (va_cpy ofs dfs 0 0 5))), (o, .inr (1, [.ref ol, .ref oa, .ref os, .int ost, .int ocl, .int onu])), (ol, .inl (y 0, 6, .inl ofl)), (oa, .inl (y 0, 5, .inl ofa)), (os, .inl (y 0, 5, .inl ofs))] H := hP
  have hD : va_D A [(d, .inr (1, [.ref dl, .ref da, .ref ds, .int ost, .int ocl, .int dnu])), (dl, .inl (y 0, 6, .inl (va_cpy ofl dfl 0 0 6))), (da, .inl (y 0, 5, .inl (va_cpy ofa dfa 0 0 5))), (ds, .inl (y 0, 5, .inl (va_cpy ofs dfs 0 0 5))), (o, .inr (1, [.ref ol, .ref oa, .ref os, .int ost, .int ocl, .int onu])), (ol, .inl (y 0, 6, .inl ofl)), (oa, .inl (y 0, 5, .inl ofa)), (os, .inl (y 0, 5, .inl ofs))] := hD
  refine lv_aload_n hx hb dX1_become_59 rfl (lv_at hl 0 rfl) ?_
  refine lv_aload_n hx hb dX1_become_60 rfl (lv_at hl 1 rfl) ?_
  refine va_get (D := D) (ci := 1) (v := .int onu) (C := RX1) (T := TX1) (N := 6) hx hb hts iw1 hown hK hP 4 rfl rfl 5 (by decide) fw10 (fun _ h9 => h9) rfl dX1_become_61 ?_
  refine va_put (D := D) (ci := 1) (v := .int onu) (ty := .int) (C := RX1) (T := TX1) (N := 6) hx hb hts iw1 tyX1 tyX1_ok nmX1 hown hK hP hD hS 0 rfl rfl 5 (by decide) fw10 (fun _ h9 => h9) rfl (by decide +kernel) rfl rfl (Nat.le_of_ble_eq_true rfl) dX1_become_64 (fun H locs hP hD hS => ?_)
  have hP : va_P D vwCl [(d, .inr (1, [.ref dl, .ref da, .ref ds, .int ost, .int ocl, .int onu])), (dl, .inl (y 0, 6, .inl (va_cpy ofl dfl 0 0 6))), (da, .inl (y 0, 5, .inl (va_cpy ofa dfa 0 0 5))), (ds, .inl (y 0, 5, .inl (va_cpy ofs dfs 0 0 5))), (o, .inr (1, [.ref ol, .ref oa, .ref os, .int ost, .int ocl, .int onu])), (ol, .inl (y 0, 6, .inl ofl)), (oa, .inl (y 0, 5, .inl ofa)), (os, .inl (y 0, 5, .inl ofs))] H := hP
  have hD : va_D A [(d, .inr (1, [.ref dl, .ref da, .ref ds, .int ost, .int ocl, .int onu])), (dl, .inl (y 0, 6, .inl (va_cpy ofl dfl 0 0 6))), (da, .inl (y 0, 5, .inl (va_cpy ofa dfa 0 0 5))), (ds, .inl (y 0, 5, .inl (va_cpy ofs dfs 0 0 5))), (o, .inr (1, [.ref ol, .ref oa, .ref os, .int ost, .int ocl, .int onu])), (ol, .inl (y 0, 6, .inl ofl)), (oa, .inl (y 0, 5, .inl ofa)), (os, .inl (y 0, 5, .inl ofs))] := hD
  exact W.vret hx hb hr (fun tZ ht hW => ⟨⟨(), rfl, hb1, by rw [ht]; exact hP.sub [0, 1, 2, 3, 4, 5, 6, 7] rfl, hD.sub [0, 1, 2, 3, 4, 5, 6, 7] (by decide) rfl⟩, hS.F ht⟩) hS.2.2 dX1_become_67

set_option maxHeartbeats 4000000 in
set_option maxRecDepth 100000 in
theorem gc_begin (l : Launch) (D : va_G) (y : Nat → ClassId) (nw : Nat) (kk : Nat) (nk : Nat) (nd : Nat) (ne : Nat) (nm : Nat) (nn : Nat) (fi : Nat) (gl : Nat) (un : Nat) (mi : Nat) (no : Nat) (x : Int32) (nd : Nat) (nl : Nat) (na : Nat) (ns : Nat) (nst : Int32) (ncl : Int32) (nnu : Int32) (hfi : fi ≤ 6) (hgl : gl ≤ 5) (hun : un ≤ 8) (hmi : mi ≤ 4) (hno : no ≤ 6) : kw_Mv l yX4_begin wsX4_begin ({ frames := 1, cells := 0, slots := 0, locals := 60 }) D y [.ref nw, .int x] [(nw, .inr (4, [.ref kk, .ref nk, .ref nd, .ref ne, .ref nm, .ref nn, .int (nI fi), .int (nI gl), .int (nI un), .int (nI mi), .int (nI no)])), (nd, .inr (1, [.ref nl, .ref na, .ref ns, .int nst, .int ncl, .int nnu]))] (fun (u : Unit) => True) (fun _ => [(nw, .inr (4, [.ref kk, .ref nk, .ref nd, .ref ne, .ref nm, .ref nn, .int 0, .int 0, .int 0, .int 0, .int 0])), (nd, .inr (1, [.ref nl, .ref na, .ref ns, .int 0, .int x, .int 0]))]) 0 0 := by
  refine kw_Mv.of (cc := cX4_begin) (maxL := 2) (ret := none) (by decide) rfl ?_
  intro pZ eZ s mZ beZ meZ cZ A hE
  obtain ⟨hx, hb, hr, hml, hts, hown, hlocks, hin, hA, hP, hD, hK, hN⟩ := hE
  have hS : va_S A s.heap s.heap [] := va_S.rf
  have hl := lv_entry ([.ref nw, .int x]) (n := 2) (Nat.le_of_ble_eq_true rfl)
  rw [lg_entry_eq]
  generalize (lg_sl ([.ref nw, .int x]) ++ List.replicate (2 - (lg_sl ([.ref nw, .int x])).length) Slot.unset).toArray = ls at hl ⊢
  have hl : lv_has ls 2 [(0, .ref nw), (1, .int x)] := hl
  have fw1 := hts (.fieldLink RX4 38 "GleanDusk$Parish" "fields" "I") (List.mem_of_getElem? (i := 1) rfl)
  have fw2 := hts (.fieldLink RX4 42 "GleanDusk$Parish" "gleaners" "I") (List.mem_of_getElem? (i := 2) rfl)
  have fw3 := hts (.fieldLink RX4 45 "GleanDusk$Parish" "undoable" "I") (List.mem_of_getElem? (i := 3) rfl)
  have fw4 := hts (.fieldLink RX4 48 "GleanDusk$Parish" "missedCount" "I") (List.mem_of_getElem? (i := 4) rfl)
  have fw5 := hts (.fieldLink RX4 51 "GleanDusk$Parish" "noteCount" "I") (List.mem_of_getElem? (i := 5) rfl)
  have fw6 := hts (.fieldLink RX4 18 "GleanDusk$Parish" "dusk" "LGleanDusk$Dusk;") (List.mem_of_getElem? (i := 6) rfl)
  have fw7 := hts (.fieldLink RX4 54 "GleanDusk$Dusk" "step" "I") (List.mem_of_getElem? (i := 7) rfl)
  have fw8 := hts (.fieldLink RX4 57 "GleanDusk$Dusk" "cloud" "I") (List.mem_of_getElem? (i := 8) rfl)
  have fw9 := hts (.fieldLink RX4 60 "GleanDusk$Dusk" "number" "I") (List.mem_of_getElem? (i := 9) rfl)
  have iw4 : ∀ w ∈ wsX40, w ∈ wsX4_begin := fun _ h => List.mem_cons_of_mem _ (List.mem_append_left _ (List.mem_append_right _ h))
  have iw1 : ∀ w ∈ wsX10, w ∈ wsX4_begin := fun _ h => List.mem_cons_of_mem _ (List.mem_append_right _ h)
  refine lv_aload_n hx hb dX4_begin_0 rfl (lv_at hl 0 rfl) ?_
  refine lv_iconst (v := 0) hx hb dX4_begin_1 (by decide) ?_
  refine va_put (D := D) (ci := 4) (v := .int 0) (ty := .int) (C := RX4) (T := TX4) (N := 11) hx hb hts iw4 tyX4 tyX4_ok nmX4 hown hK hP hD hS 0 rfl rfl 6 (by decide) fw1 (fun _ h9 => h9) rfl (by decide +kernel) rfl rfl (Nat.le_of_ble_eq_true rfl) dX4_begin_2 (fun H locs hP hD hS => ?_)
  have hP : va_P D vwCl [(nw, .inr (4, [.ref kk, .ref nk, .ref nd, .ref ne, .ref nm, .ref nn, .int 0, .int (nI gl), .int (nI un), .int (nI mi), .int (nI no)])), (nd, .inr (1, [.ref nl, .ref na, .ref ns, .int nst, .int ncl, .int nnu]))] H := hP
  have hD : va_D A [(nw, .inr (4, [.ref kk, .ref nk, .ref nd, .ref ne, .ref nm, .ref nn, .int 0, .int (nI gl), .int (nI un), .int (nI mi), .int (nI no)])), (nd, .inr (1, [.ref nl, .ref na, .ref ns, .int nst, .int ncl, .int nnu]))] := hD
  refine lv_aload_n hx hb dX4_begin_5 rfl (lv_at hl 0 rfl) ?_
  refine lv_iconst (v := 0) hx hb dX4_begin_6 (by decide) ?_
  refine va_put (D := D) (ci := 4) (v := .int 0) (ty := .int) (C := RX4) (T := TX4) (N := 11) hx hb hts iw4 tyX4 tyX4_ok nmX4 hown hK hP hD hS 0 rfl rfl 7 (by decide) fw2 (fun _ h9 => h9) rfl (by decide +kernel) rfl rfl (Nat.le_of_ble_eq_true rfl) dX4_begin_7 (fun H locs hP hD hS => ?_)
  have hP : va_P D vwCl [(nw, .inr (4, [.ref kk, .ref nk, .ref nd, .ref ne, .ref nm, .ref nn, .int 0, .int 0, .int (nI un), .int (nI mi), .int (nI no)])), (nd, .inr (1, [.ref nl, .ref na, .ref ns, .int nst, .int ncl, .int nnu]))] H := hP
  have hD : va_D A [(nw, .inr (4, [.ref kk, .ref nk, .ref nd, .ref ne, .ref nm, .ref nn, .int 0, .int 0, .int (nI un), .int (nI mi), .int (nI no)])), (nd, .inr (1, [.ref nl, .ref na, .ref ns, .int nst, .int ncl, .int nnu]))] := hD
  refine lv_aload_n hx hb dX4_begin_10 rfl (lv_at hl 0 rfl) ?_
  refine lv_iconst (v := 0) hx hb dX4_begin_11 (by decide) ?_
  refine va_put (D := D) (ci := 4) (v := .int 0) (ty := .int) (C := RX4) (T := TX4) (N := 11) hx hb hts iw4 tyX4 tyX4_ok nmX4 hown hK hP hD hS 0 rfl rfl 8 (by decide) fw3 (fun _ h9 => h9) rfl (by decide +kernel) rfl rfl (Nat.le_of_ble_eq_true rfl) dX4_begin_12 (fun H locs hP hD hS => ?_)
  have hP : va_P D vwCl [(nw, .inr (4, [.ref kk, .ref nk, .ref nd, .ref ne, .ref nm, .ref nn, .int 0, .int 0, .int 0, .int (nI mi), .int (nI no)])), (nd, .inr (1, [.ref nl, .ref na, .ref ns, .int nst, .int ncl, .int nnu]))] H := hP
  have hD : va_D A [(nw, .inr (4, [.ref kk, .ref nk, .ref nd, .ref ne, .ref nm, .ref nn, .int 0, .int 0, .int 0, .int (nI mi), .int (nI no)])), (nd, .inr (1, [.ref nl, .ref na, .ref ns, .int nst, .int ncl, .int nnu]))] := hD
  refine lv_aload_n hx hb dX4_begin_15 rfl (lv_at hl 0 rfl) ?_
  refine lv_iconst (v := 0) hx hb dX4_begin_16 (by decide) ?_
  refine va_put (D := D) (ci := 4) (v := .int 0) (ty := .int) (C := RX4) (T := TX4) (N := 11) hx hb hts iw4 tyX4 tyX4_ok nmX4 hown hK hP hD hS 0 rfl rfl 9 (by decide) fw4 (fun _ h9 => h9) rfl (by decide +kernel) rfl rfl (Nat.le_of_ble_eq_true rfl) dX4_begin_17 (fun H locs hP hD hS => ?_)
  have hP : va_P D vwCl [(nw, .inr (4, [.ref kk, .ref nk, .ref nd, .ref ne, .ref nm, .ref nn, .int 0, .int 0, .int 0, .int 0, .int (nI no)])), (nd, .inr (1, [.ref nl, .ref na, .ref ns, .int nst, .int ncl, .int nnu]))] H := hP
  have hD : va_D A [(nw, .inr (4, [.ref kk, .ref nk, .ref nd, .ref ne, .ref nm, .ref nn, .int 0, .int 0, .int 0, .int 0, .int (nI no)])), (nd, .inr (1, [.ref nl, .ref na, .ref ns, .int nst, .int ncl, .int nnu]))] := hD
  refine lv_aload_n hx hb dX4_begin_20 rfl (lv_at hl 0 rfl) ?_
  refine lv_iconst (v := 0) hx hb dX4_begin_21 (by decide) ?_
  refine va_put (D := D) (ci := 4) (v := .int 0) (ty := .int) (C := RX4) (T := TX4) (N := 11) hx hb hts iw4 tyX4 tyX4_ok nmX4 hown hK hP hD hS 0 rfl rfl 10 (by decide) fw5 (fun _ h9 => h9) rfl (by decide +kernel) rfl rfl (Nat.le_of_ble_eq_true rfl) dX4_begin_22 (fun H locs hP hD hS => ?_)
  have hP : va_P D vwCl [(nw, .inr (4, [.ref kk, .ref nk, .ref nd, .ref ne, .ref nm, .ref nn, .int 0, .int 0, .int 0, .int 0, .int 0])), (nd, .inr (1, [.ref nl, .ref na, .ref ns, .int nst, .int ncl, .int nnu]))] H := hP
  have hD : va_D A [(nw, .inr (4, [.ref kk, .ref nk, .ref nd, .ref ne, .ref nm, .ref nn, .int 0, .int 0, .int 0, .int 0, .int 0])), (nd, .inr (1, [.ref nl, .ref na, .ref ns, .int nst, .int ncl, .int nnu]))] := hD
  refine lv_aload_n hx hb dX4_begin_25 rfl (lv_at hl 0 rfl) ?_
  refine va_get (D := D) (ci := 4) (v := .ref nd) (C := RX4) (T := TX4) (N := 11) hx hb hts iw4 hown hK hP 0 rfl rfl 2 (by decide) fw6 (fun _ h9 => h9) rfl dX4_begin_26 ?_
  refine lv_iconst (v := 0) hx hb dX4_begin_29 (by decide) ?_
  refine va_put (D := D) (ci := 1) (v := .int 0) (ty := .int) (C := RX1) (T := TX1) (N := 6) hx hb hts iw1 tyX1 tyX1_ok nmX1 hown hK hP hD hS 1 rfl rfl 3 (by decide) fw7 (fun _ h9 => h9) rfl (by decide +kernel) rfl rfl (Nat.le_of_ble_eq_true rfl) dX4_begin_30 (fun H locs hP hD hS => ?_)
  have hP : va_P D vwCl [(nw, .inr (4, [.ref kk, .ref nk, .ref nd, .ref ne, .ref nm, .ref nn, .int 0, .int 0, .int 0, .int 0, .int 0])), (nd, .inr (1, [.ref nl, .ref na, .ref ns, .int 0, .int ncl, .int nnu]))] H := hP
  have hD : va_D A [(nw, .inr (4, [.ref kk, .ref nk, .ref nd, .ref ne, .ref nm, .ref nn, .int 0, .int 0, .int 0, .int 0, .int 0])), (nd, .inr (1, [.ref nl, .ref na, .ref ns, .int 0, .int ncl, .int nnu]))] := hD
  refine lv_aload_n hx hb dX4_begin_33 rfl (lv_at hl 0 rfl) ?_
  refine va_get (D := D) (ci := 4) (v := .ref nd) (C := RX4) (T := TX4) (N := 11) hx hb hts iw4 hown hK hP 0 rfl rfl 2 (by decide) fw6 (fun _ h9 => h9) rfl dX4_begin_34 ?_
  refine lv_iload_n hx hb dX4_begin_37 rfl (lv_at hl 1 rfl) ?_
  refine va_put (D := D) (ci := 1) (v := .int x) (ty := .int) (C := RX1) (T := TX1) (N := 6) hx hb hts iw1 tyX1 tyX1_ok nmX1 hown hK hP hD hS 1 rfl rfl 4 (by decide) fw8 (fun _ h9 => h9) rfl (by decide +kernel) rfl rfl (Nat.le_of_ble_eq_true rfl) dX4_begin_38 (fun H locs hP hD hS => ?_)
  have hP : va_P D vwCl [(nw, .inr (4, [.ref kk, .ref nk, .ref nd, .ref ne, .ref nm, .ref nn, .int 0, .int 0, .int 0, .int 0, .int 0])), (nd, .inr (1, [.ref nl, .ref na, .ref ns, .int 0, .int x, .int nnu]))] H := hP
  have hD : va_D A [(nw, .inr (4, [.ref kk, .ref nk, .ref nd, .ref ne, .ref nm, .ref nn, .int 0, .int 0, .int 0, .int 0, .int 0])), (nd, .inr (1, [.ref nl, .ref na, .ref ns, .int 0, .int x, .int nnu]))] := hD
  refine lv_aload_n hx hb dX4_begin_41 rfl (lv_at hl 0 rfl) ?_
  refine va_get (D := D) (ci := 4) (v := .ref nd) (C := RX4) (T := TX4) (N := 11) hx hb hts iw4 hown hK hP 0 rfl rfl 2 (by decide) fw6 (fun _ h9 => h9) rfl dX4_begin_42 ?_
  refine lv_iconst (v := 0) hx hb dX4_begin_45 (by decide) ?_
  refine va_put (D := D) (ci := 1) (v := .int 0) (ty := .int) (C := RX1) (T := TX1) (N := 6) hx hb hts iw1 tyX1 tyX1_ok nmX1 hown hK hP hD hS 1 rfl rfl 5 (by decide) fw9 (fun _ h9 => h9) rfl (by decide +kernel) rfl rfl (Nat.le_of_ble_eq_true rfl) dX4_begin_46 (fun H locs hP hD hS => ?_)
  have hP : va_P D vwCl [(nw, .inr (4, [.ref kk, .ref nk, .ref nd, .ref ne, .ref nm, .ref nn, .int 0, .int 0, .int 0, .int 0, .int 0])), (nd, .inr (1, [.ref nl, .ref na, .ref ns, .int 0, .int x, .int 0]))] H := hP
  have hD : va_D A [(nw, .inr (4, [.ref kk, .ref nk, .ref nd, .ref ne, .ref nm, .ref nn, .int 0, .int 0, .int 0, .int 0, .int 0])), (nd, .inr (1, [.ref nl, .ref na, .ref ns, .int 0, .int x, .int 0]))] := hD
  exact W.vret hx hb hr (fun tZ ht hW => ⟨⟨(), rfl, trivial, by rw [ht]; exact hP.sub [0, 1] rfl, hD.sub [0, 1] (by decide) rfl⟩, hS.F ht⟩) hS.2.2 dX4_begin_49

set_option maxHeartbeats 4000000 in
set_option maxRecDepth 100000 in
theorem gc_addField (l : Launch) (D : va_G) (y : Nat → ClassId) (nw : Nat) (kk : Nat) (nk : Nat) (nd : Nat) (ne : Nat) (nm : Nat) (nn : Nat) (fi : Nat) (gl : Nat) (un : Nat) (mi : Nat) (no : Nat) (k : Nat) (x : Int32) (nd : Nat) (nl : Nat) (na : Nat) (ns : Nat) (nst : Int32) (ncl : Int32) (nnu : Int32) (nfl : Nat → Int32) (fk : Nat → Int32) (hfi : fi ≤ 6) (hgl : gl ≤ 5) (hun : un ≤ 8) (hmi : mi ≤ 4) (hno : no ≤ 6) (hk : kw_bd 6 6 fk) (hlt : fi < 6) (hkk : k < 6) : kw_Mi l yX4_addField wsX4_addField ({ frames := 1, cells := 0, slots := 0, locals := 60 }) D y [.ref nw, .int (nI k), .int x] [(nw, .inr (4, [.ref kk, .ref nk, .ref nd, .ref ne, .ref nm, .ref nn, .int (nI fi), .int (nI gl), .int (nI un), .int (nI mi), .int (nI no)])), (nk, .inl (y 0, 6, .inl fk)), (nd, .inr (1, [.ref nl, .ref na, .ref ns, .int nst, .int ncl, .int nnu])), (nl, .inl (y 0, 6, .inl nfl))] (fun (r : Int32) (u : Unit) => kw_bd 6 6 (upd fk fi (nI k)) ∧ r = (nI fi)) (fun _ => [(nw, .inr (4, [.ref kk, .ref nk, .ref nd, .ref ne, .ref nm, .ref nn, .int (nI (fi + 1)), .int (nI gl), .int 0, .int (nI mi), .int (nI no)])), (nk, .inl (y 0, 6, .inl (upd fk fi (nI k)))), (nd, .inr (1, [.ref nl, .ref na, .ref ns, .int nst, .int ncl, .int nnu])), (nl, .inl (y 0, 6, .inl (upd nfl fi x)))]) 0 0 := by
  refine kw_Mi.of (cc := cX4_addField) (maxL := 3) (ret := (some .int)) (by decide) rfl ?_
  intro pZ eZ s mZ beZ meZ cZ A hE
  obtain ⟨hx, hb, hr, hml, hts, hown, hlocks, hin, hA, hP, hD, hK, hN⟩ := hE
  have hS : va_S A s.heap s.heap [] := va_S.rf
  have hl := lv_entry ([.ref nw, .int (nI k), .int x]) (n := 3) (Nat.le_of_ble_eq_true rfl)
  rw [lg_entry_eq]
  generalize (lg_sl ([.ref nw, .int (nI k), .int x]) ++ List.replicate (3 - (lg_sl ([.ref nw, .int (nI k), .int x])).length) Slot.unset).toArray = ls at hl ⊢
  have hl : lv_has ls 3 [(0, .ref nw), (1, .int (nI k)), (2, .int x)] := hl
  have fw1 := hts (.fieldLink RX4 9 "GleanDusk$Parish" "kind" "[I") (List.mem_of_getElem? (i := 1) rfl)
  have fw2 := hts (.fieldLink RX4 38 "GleanDusk$Parish" "fields" "I") (List.mem_of_getElem? (i := 2) rfl)
  have fw3 := hts (.fieldLink RX4 18 "GleanDusk$Parish" "dusk" "LGleanDusk$Dusk;") (List.mem_of_getElem? (i := 3) rfl)
  have fw4 := hts (.fieldLink RX4 77 "GleanDusk$Dusk" "light" "[I") (List.mem_of_getElem? (i := 4) rfl)
  have fw5 := hts (.fieldLink RX4 45 "GleanDusk$Parish" "undoable" "I") (List.mem_of_getElem? (i := 5) rfl)
  have iw4 : ∀ w ∈ wsX40, w ∈ wsX4_addField := fun _ h => List.mem_cons_of_mem _ (List.mem_append_left _ (List.mem_append_right _ h))
  have iw1 : ∀ w ∈ wsX10, w ∈ wsX4_addField := fun _ h => List.mem_cons_of_mem _ (List.mem_append_right _ h)
  refine lv_aload_n hx hb dX4_addField_0 rfl (lv_at hl 0 rfl) ?_
  refine va_get (D := D) (ci := 4) (v := .ref nk) (C := RX4) (T := TX4) (N := 11) hx hb hts iw4 hown hK hP 0 rfl rfl 1 (by decide) fw1 (fun _ h9 => h9) rfl dX4_addField_1 ?_
  refine lv_aload_n hx hb dX4_addField_4 rfl (lv_at hl 0 rfl) ?_
  refine va_get (D := D) (ci := 4) (v := .int (nI fi)) (C := RX4) (T := TX4) (N := 11) hx hb hts iw4 hown hK hP 0 rfl rfl 6 (by decide) fw2 (fun _ h9 => h9) rfl dX4_addField_5 ?_
  refine lv_iload_n hx hb dX4_addField_8 rfl (lv_at hl 1 rfl) ?_
  refine va_iast hx hb hK hP hD hS 1 0 rfl rfl (vp_in_nI (by omega) (by decide)) dX4_addField_9 (fun H locs hP hD hS => ?_)
  rw [nI_clamp (n := fi) (by omega)] at hP hD
  have hb1 : kw_bd 6 6 (upd fk fi (nI k)) := kw_bdu hk (vp_in_nI (by omega) (by decide))
  have hP : va_P D vwCl [(nw, .inr (4, [.ref kk, .ref nk, .ref nd, .ref ne, .ref nm, .ref nn, .int (nI fi), .int (nI gl), .int (nI un), .int (nI mi), .int (nI no)])), (nk, .inl (y 0, 6, .inl (upd fk fi (nI k)))), (nd, .inr (1, [.ref nl, .ref na, .ref ns, .int nst, .int ncl, .int nnu])), (nl, .inl (y 0, 6, .inl nfl))] H := hP
  have hD : va_D A [(nw, .inr (4, [.ref kk, .ref nk, .ref nd, .ref ne, .ref nm, .ref nn, .int (nI fi), .int (nI gl), .int (nI un), .int (nI mi), .int (nI no)])), (nk, .inl (y 0, 6, .inl (upd fk fi (nI k)))), (nd, .inr (1, [.ref nl, .ref na, .ref ns, .int nst, .int ncl, .int nnu])), (nl, .inl (y 0, 6, .inl nfl))] := hD
  refine lv_aload_n hx hb dX4_addField_10 rfl (lv_at hl 0 rfl) ?_
  refine va_get (D := D) (ci := 4) (v := .ref nd) (C := RX4) (T := TX4) (N := 11) hx hb hts iw4 hown hK hP 0 rfl rfl 2 (by decide) fw3 (fun _ h9 => h9) rfl dX4_addField_11 ?_
  refine va_get (D := D) (ci := 1) (v := .ref nl) (C := RX1) (T := TX1) (N := 6) hx hb hts iw1 hown hK hP 2 rfl rfl 0 (by decide) fw4 (fun _ h9 => h9) rfl dX4_addField_14 ?_
  refine lv_aload_n hx hb dX4_addField_17 rfl (lv_at hl 0 rfl) ?_
  refine va_get (D := D) (ci := 4) (v := .int (nI fi)) (C := RX4) (T := TX4) (N := 11) hx hb hts iw4 hown hK hP 0 rfl rfl 6 (by decide) fw2 (fun _ h9 => h9) rfl dX4_addField_18 ?_
  refine lv_iload_n hx hb dX4_addField_21 rfl (lv_at hl 2 rfl) ?_
  refine va_iast hx hb hK hP hD hS 3 0 rfl rfl (vp_in_nI (by omega) (by decide)) dX4_addField_22 (fun H locs hP hD hS => ?_)
  rw [nI_clamp (n := fi) (by omega)] at hP hD
  have hP : va_P D vwCl [(nw, .inr (4, [.ref kk, .ref nk, .ref nd, .ref ne, .ref nm, .ref nn, .int (nI fi), .int (nI gl), .int (nI un), .int (nI mi), .int (nI no)])), (nk, .inl (y 0, 6, .inl (upd fk fi (nI k)))), (nd, .inr (1, [.ref nl, .ref na, .ref ns, .int nst, .int ncl, .int nnu])), (nl, .inl (y 0, 6, .inl (upd nfl fi x)))] H := hP
  have hD : va_D A [(nw, .inr (4, [.ref kk, .ref nk, .ref nd, .ref ne, .ref nm, .ref nn, .int (nI fi), .int (nI gl), .int (nI un), .int (nI mi), .int (nI no)])), (nk, .inl (y 0, 6, .inl (upd fk fi (nI k)))), (nd, .inr (1, [.ref nl, .ref na, .ref ns, .int nst, .int ncl, .int nnu])), (nl, .inl (y 0, 6, .inl (upd nfl fi x)))] := hD
  refine lv_aload_n hx hb dX4_addField_23 rfl (lv_at hl 0 rfl) ?_
  refine lv_iconst (v := 0) hx hb dX4_addField_24 (by decide) ?_
  refine va_put (D := D) (ci := 4) (v := .int 0) (ty := .int) (C := RX4) (T := TX4) (N := 11) hx hb hts iw4 tyX4 tyX4_ok nmX4 hown hK hP hD hS 0 rfl rfl 8 (by decide) fw5 (fun _ h9 => h9) rfl (by decide +kernel) rfl rfl (Nat.le_of_ble_eq_true rfl) dX4_addField_25 (fun H locs hP hD hS => ?_)
  have hP : va_P D vwCl [(nw, .inr (4, [.ref kk, .ref nk, .ref nd, .ref ne, .ref nm, .ref nn, .int (nI fi), .int (nI gl), .int 0, .int (nI mi), .int (nI no)])), (nk, .inl (y 0, 6, .inl (upd fk fi (nI k)))), (nd, .inr (1, [.ref nl, .ref na, .ref ns, .int nst, .int ncl, .int nnu])), (nl, .inl (y 0, 6, .inl (upd nfl fi x)))] H := hP
  have hD : va_D A [(nw, .inr (4, [.ref kk, .ref nk, .ref nd, .ref ne, .ref nm, .ref nn, .int (nI fi), .int (nI gl), .int 0, .int (nI mi), .int (nI no)])), (nk, .inl (y 0, 6, .inl (upd fk fi (nI k)))), (nd, .inr (1, [.ref nl, .ref na, .ref ns, .int nst, .int ncl, .int nnu])), (nl, .inl (y 0, 6, .inl (upd nfl fi x)))] := hD
  refine lv_aload_n hx hb dX4_addField_28 rfl (lv_at hl 0 rfl) ?_
  refine lv_dup hx hb dX4_addField_29 rfl ?_
  refine va_get (D := D) (ci := 4) (v := .int (nI fi)) (C := RX4) (T := TX4) (N := 11) hx hb hts iw4 hown hK hP 0 rfl rfl 6 (by decide) fw2 (fun _ h9 => h9) rfl dX4_addField_30 ?_
  refine lv_dup_x1 hx hb dX4_addField_33 rfl rfl ?_
  refine lv_iconst (v := 1) hx hb dX4_addField_34 (by decide) ?_
  refine lv_iadd hx hb dX4_addField_35 ?_
  rw [show (nI fi) + 1 = nI (fi + 1) from nI_add fi 1]
  refine va_put (D := D) (ci := 4) (v := .int (nI (fi + 1))) (ty := .int) (C := RX4) (T := TX4) (N := 11) hx hb hts iw4 tyX4 tyX4_ok nmX4 hown hK hP hD hS 0 rfl rfl 6 (by decide) fw2 (fun _ h9 => h9) rfl (by decide +kernel) rfl rfl (Nat.le_of_ble_eq_true rfl) dX4_addField_36 (fun H locs hP hD hS => ?_)
  have hP : va_P D vwCl [(nw, .inr (4, [.ref kk, .ref nk, .ref nd, .ref ne, .ref nm, .ref nn, .int (nI (fi + 1)), .int (nI gl), .int 0, .int (nI mi), .int (nI no)])), (nk, .inl (y 0, 6, .inl (upd fk fi (nI k)))), (nd, .inr (1, [.ref nl, .ref na, .ref ns, .int nst, .int ncl, .int nnu])), (nl, .inl (y 0, 6, .inl (upd nfl fi x)))] H := hP
  have hD : va_D A [(nw, .inr (4, [.ref kk, .ref nk, .ref nd, .ref ne, .ref nm, .ref nn, .int (nI (fi + 1)), .int (nI gl), .int 0, .int (nI mi), .int (nI no)])), (nk, .inl (y 0, 6, .inl (upd fk fi (nI k)))), (nd, .inr (1, [.ref nl, .ref na, .ref ns, .int nst, .int ncl, .int nnu])), (nl, .inl (y 0, 6, .inl (upd nfl fi x)))] := hD
  exact W.iret (v := (nI fi)) hx hb hr (fun tZ ht hW => ⟨⟨(nI fi), (), rfl, ⟨hb1, rfl⟩, by rw [ht]; exact hP.sub [0, 1, 2, 3] rfl, hD.sub [0, 1, 2, 3] (by decide) rfl⟩, hS.F ht⟩) hS.2.2 dX4_addField_39

set_option maxHeartbeats 4000000 in
set_option maxRecDepth 100000 in
theorem gc_addGleaner (l : Launch) (D : va_G) (y : Nat → ClassId) (nw : Nat) (kk : Nat) (nk : Nat) (nd : Nat) (ne : Nat) (nm : Nat) (nn : Nat) (fi : Nat) (gl : Nat) (un : Nat) (mi : Nat) (no : Nat) (k : Nat) (nd : Nat) (nl : Nat) (na : Nat) (ns : Nat) (nst : Int32) (ncl : Int32) (nnu : Int32) (nfa : Nat → Int32) (nfs : Nat → Int32) (hfi : fi ≤ 6) (hgl : gl ≤ 5) (hun : un ≤ 8) (hmi : mi ≤ 4) (hno : no ≤ 6) (hna : kw_bd 6 5 nfa) (hlt : gl < 5) (hkk : k < 6) : kw_Mi l yX4_addGleaner wsX4_addGleaner ({ frames := 1, cells := 0, slots := 0, locals := 60 }) D y [.ref nw, .int (nI k)] [(nw, .inr (4, [.ref kk, .ref nk, .ref nd, .ref ne, .ref nm, .ref nn, .int (nI fi), .int (nI gl), .int (nI un), .int (nI mi), .int (nI no)])), (nd, .inr (1, [.ref nl, .ref na, .ref ns, .int nst, .int ncl, .int nnu])), (na, .inl (y 0, 5, .inl nfa)), (ns, .inl (y 0, 5, .inl nfs))] (fun (r : Int32) (u : Unit) => kw_bd 6 5 (upd nfa gl (nI k)) ∧ r = (nI gl)) (fun _ => [(nw, .inr (4, [.ref kk, .ref nk, .ref nd, .ref ne, .ref nm, .ref nn, .int (nI fi), .int (nI (gl + 1)), .int 0, .int (nI mi), .int (nI no)])), (nd, .inr (1, [.ref nl, .ref na, .ref ns, .int nst, .int ncl, .int nnu])), (na, .inl (y 0, 5, .inl (upd nfa gl (nI k)))), (ns, .inl (y 0, 5, .inl (upd nfs gl 0)))]) 0 0 := by
  refine kw_Mi.of (cc := cX4_addGleaner) (maxL := 2) (ret := (some .int)) (by decide) rfl ?_
  intro pZ eZ s mZ beZ meZ cZ A hE
  obtain ⟨hx, hb, hr, hml, hts, hown, hlocks, hin, hA, hP, hD, hK, hN⟩ := hE
  have hS : va_S A s.heap s.heap [] := va_S.rf
  have hl := lv_entry ([.ref nw, .int (nI k)]) (n := 2) (Nat.le_of_ble_eq_true rfl)
  rw [lg_entry_eq]
  generalize (lg_sl ([.ref nw, .int (nI k)]) ++ List.replicate (2 - (lg_sl ([.ref nw, .int (nI k)])).length) Slot.unset).toArray = ls at hl ⊢
  have hl : lv_has ls 2 [(0, .ref nw), (1, .int (nI k))] := hl
  have fw1 := hts (.fieldLink RX4 18 "GleanDusk$Parish" "dusk" "LGleanDusk$Dusk;") (List.mem_of_getElem? (i := 1) rfl)
  have fw2 := hts (.fieldLink RX4 80 "GleanDusk$Dusk" "at" "[I") (List.mem_of_getElem? (i := 2) rfl)
  have fw3 := hts (.fieldLink RX4 42 "GleanDusk$Parish" "gleaners" "I") (List.mem_of_getElem? (i := 3) rfl)
  have fw4 := hts (.fieldLink RX4 83 "GleanDusk$Dusk" "store" "[I") (List.mem_of_getElem? (i := 4) rfl)
  have fw5 := hts (.fieldLink RX4 45 "GleanDusk$Parish" "undoable" "I") (List.mem_of_getElem? (i := 5) rfl)
  have iw4 : ∀ w ∈ wsX40, w ∈ wsX4_addGleaner := fun _ h => List.mem_cons_of_mem _ (List.mem_append_left _ (List.mem_append_right _ h))
  have iw1 : ∀ w ∈ wsX10, w ∈ wsX4_addGleaner := fun _ h => List.mem_cons_of_mem _ (List.mem_append_right _ h)
  refine lv_aload_n hx hb dX4_addGleaner_0 rfl (lv_at hl 0 rfl) ?_
  refine va_get (D := D) (ci := 4) (v := .ref nd) (C := RX4) (T := TX4) (N := 11) hx hb hts iw4 hown hK hP 0 rfl rfl 2 (by decide) fw1 (fun _ h9 => h9) rfl dX4_addGleaner_1 ?_
  refine va_get (D := D) (ci := 1) (v := .ref na) (C := RX1) (T := TX1) (N := 6) hx hb hts iw1 hown hK hP 1 rfl rfl 1 (by decide) fw2 (fun _ h9 => h9) rfl dX4_addGleaner_4 ?_
  refine lv_aload_n hx hb dX4_addGleaner_7 rfl (lv_at hl 0 rfl) ?_
  refine va_get (D := D) (ci := 4) (v := .int (nI gl)) (C := RX4) (T := TX4) (N := 11) hx hb hts iw4 hown hK hP 0 rfl rfl 7 (by decide) fw3 (fun _ h9 => h9) rfl dX4_addGleaner_8 ?_
  refine lv_iload_n hx hb dX4_addGleaner_11 rfl (lv_at hl 1 rfl) ?_
  refine va_iast hx hb hK hP hD hS 2 0 rfl rfl (vp_in_nI (by omega) (by decide)) dX4_addGleaner_12 (fun H locs hP hD hS => ?_)
  rw [nI_clamp (n := gl) (by omega)] at hP hD
  have hb1 : kw_bd 6 5 (upd nfa gl (nI k)) := kw_bdu hna (vp_in_nI (by omega) (by decide))
  have hP : va_P D vwCl [(nw, .inr (4, [.ref kk, .ref nk, .ref nd, .ref ne, .ref nm, .ref nn, .int (nI fi), .int (nI gl), .int (nI un), .int (nI mi), .int (nI no)])), (nd, .inr (1, [.ref nl, .ref na, .ref ns, .int nst, .int ncl, .int nnu])), (na, .inl (y 0, 5, .inl (upd nfa gl (nI k)))), (ns, .inl (y 0, 5, .inl nfs))] H := hP
  have hD : va_D A [(nw, .inr (4, [.ref kk, .ref nk, .ref nd, .ref ne, .ref nm, .ref nn, .int (nI fi), .int (nI gl), .int (nI un), .int (nI mi), .int (nI no)])), (nd, .inr (1, [.ref nl, .ref na, .ref ns, .int nst, .int ncl, .int nnu])), (na, .inl (y 0, 5, .inl (upd nfa gl (nI k)))), (ns, .inl (y 0, 5, .inl nfs))] := hD
  refine lv_aload_n hx hb dX4_addGleaner_13 rfl (lv_at hl 0 rfl) ?_
  refine va_get (D := D) (ci := 4) (v := .ref nd) (C := RX4) (T := TX4) (N := 11) hx hb hts iw4 hown hK hP 0 rfl rfl 2 (by decide) fw1 (fun _ h9 => h9) rfl dX4_addGleaner_14 ?_
  refine va_get (D := D) (ci := 1) (v := .ref ns) (C := RX1) (T := TX1) (N := 6) hx hb hts iw1 hown hK hP 1 rfl rfl 2 (by decide) fw4 (fun _ h9 => h9) rfl dX4_addGleaner_17 ?_
  refine lv_aload_n hx hb dX4_addGleaner_20 rfl (lv_at hl 0 rfl) ?_
  refine va_get (D := D) (ci := 4) (v := .int (nI gl)) (C := RX4) (T := TX4) (N := 11) hx hb hts iw4 hown hK hP 0 rfl rfl 7 (by decide) fw3 (fun _ h9 => h9) rfl dX4_addGleaner_21 ?_
  refine lv_iconst (v := 0) hx hb dX4_addGleaner_24 (by decide) ?_
  refine va_iast hx hb hK hP hD hS 3 0 rfl rfl (vp_in_nI (by omega) (by decide)) dX4_addGleaner_25 (fun H locs hP hD hS => ?_)
  rw [nI_clamp (n := gl) (by omega)] at hP hD
  have hP : va_P D vwCl [(nw, .inr (4, [.ref kk, .ref nk, .ref nd, .ref ne, .ref nm, .ref nn, .int (nI fi), .int (nI gl), .int (nI un), .int (nI mi), .int (nI no)])), (nd, .inr (1, [.ref nl, .ref na, .ref ns, .int nst, .int ncl, .int nnu])), (na, .inl (y 0, 5, .inl (upd nfa gl (nI k)))), (ns, .inl (y 0, 5, .inl (upd nfs gl 0)))] H := hP
  have hD : va_D A [(nw, .inr (4, [.ref kk, .ref nk, .ref nd, .ref ne, .ref nm, .ref nn, .int (nI fi), .int (nI gl), .int (nI un), .int (nI mi), .int (nI no)])), (nd, .inr (1, [.ref nl, .ref na, .ref ns, .int nst, .int ncl, .int nnu])), (na, .inl (y 0, 5, .inl (upd nfa gl (nI k)))), (ns, .inl (y 0, 5, .inl (upd nfs gl 0)))] := hD
  refine lv_aload_n hx hb dX4_addGleaner_26 rfl (lv_at hl 0 rfl) ?_
  refine lv_iconst (v := 0) hx hb dX4_addGleaner_27 (by decide) ?_
  refine va_put (D := D) (ci := 4) (v := .int 0) (ty := .int) (C := RX4) (T := TX4) (N := 11) hx hb hts iw4 tyX4 tyX4_ok nmX4 hown hK hP hD hS 0 rfl rfl 8 (by decide) fw5 (fun _ h9 => h9) rfl (by decide +kernel) rfl rfl (Nat.le_of_ble_eq_true rfl) dX4_addGleaner_28 (fun H locs hP hD hS => ?_)
  have hP : va_P D vwCl [(nw, .inr (4, [.ref kk, .ref nk, .ref nd, .ref ne, .ref nm, .ref nn, .int (nI fi), .int (nI gl), .int 0, .int (nI mi), .int (nI no)])), (nd, .inr (1, [.ref nl, .ref na, .ref ns, .int nst, .int ncl, .int nnu])), (na, .inl (y 0, 5, .inl (upd nfa gl (nI k)))), (ns, .inl (y 0, 5, .inl (upd nfs gl 0)))] H := hP
  have hD : va_D A [(nw, .inr (4, [.ref kk, .ref nk, .ref nd, .ref ne, .ref nm, .ref nn, .int (nI fi), .int (nI gl), .int 0, .int (nI mi), .int (nI no)])), (nd, .inr (1, [.ref nl, .ref na, .ref ns, .int nst, .int ncl, .int nnu])), (na, .inl (y 0, 5, .inl (upd nfa gl (nI k)))), (ns, .inl (y 0, 5, .inl (upd nfs gl 0)))] := hD
  refine lv_aload_n hx hb dX4_addGleaner_31 rfl (lv_at hl 0 rfl) ?_
  refine lv_dup hx hb dX4_addGleaner_32 rfl ?_
  refine va_get (D := D) (ci := 4) (v := .int (nI gl)) (C := RX4) (T := TX4) (N := 11) hx hb hts iw4 hown hK hP 0 rfl rfl 7 (by decide) fw3 (fun _ h9 => h9) rfl dX4_addGleaner_33 ?_
  refine lv_dup_x1 hx hb dX4_addGleaner_36 rfl rfl ?_
  refine lv_iconst (v := 1) hx hb dX4_addGleaner_37 (by decide) ?_
  refine lv_iadd hx hb dX4_addGleaner_38 ?_
  rw [show (nI gl) + 1 = nI (gl + 1) from nI_add gl 1]
  refine va_put (D := D) (ci := 4) (v := .int (nI (gl + 1))) (ty := .int) (C := RX4) (T := TX4) (N := 11) hx hb hts iw4 tyX4 tyX4_ok nmX4 hown hK hP hD hS 0 rfl rfl 7 (by decide) fw3 (fun _ h9 => h9) rfl (by decide +kernel) rfl rfl (Nat.le_of_ble_eq_true rfl) dX4_addGleaner_39 (fun H locs hP hD hS => ?_)
  have hP : va_P D vwCl [(nw, .inr (4, [.ref kk, .ref nk, .ref nd, .ref ne, .ref nm, .ref nn, .int (nI fi), .int (nI (gl + 1)), .int 0, .int (nI mi), .int (nI no)])), (nd, .inr (1, [.ref nl, .ref na, .ref ns, .int nst, .int ncl, .int nnu])), (na, .inl (y 0, 5, .inl (upd nfa gl (nI k)))), (ns, .inl (y 0, 5, .inl (upd nfs gl 0)))] H := hP
  have hD : va_D A [(nw, .inr (4, [.ref kk, .ref nk, .ref nd, .ref ne, .ref nm, .ref nn, .int (nI fi), .int (nI (gl + 1)), .int 0, .int (nI mi), .int (nI no)])), (nd, .inr (1, [.ref nl, .ref na, .ref ns, .int nst, .int ncl, .int nnu])), (na, .inl (y 0, 5, .inl (upd nfa gl (nI k)))), (ns, .inl (y 0, 5, .inl (upd nfs gl 0)))] := hD
  exact W.iret (v := (nI gl)) hx hb hr (fun tZ ht hW => ⟨⟨(nI gl), (), rfl, ⟨hb1, rfl⟩, by rw [ht]; exact hP.sub [0, 1, 2, 3] rfl, hD.sub [0, 1, 2, 3] (by decide) rfl⟩, hS.F ht⟩) hS.2.2 dX4_addGleaner_42

set_option maxHeartbeats 4000000 in
set_option maxRecDepth 100000 in
theorem gc_crowd (l : Launch) (D : va_G) (y : Nat → ClassId) (nw : Nat) (kk : Nat) (nk : Nat) (nd : Nat) (ne : Nat) (nm : Nat) (nn : Nat) (fi : Nat) (gl : Nat) (un : Nat) (mi : Nat) (no : Nat) (d : Nat) (dl : Nat) (da : Nat) (ds : Nat) (dst : Int32) (dcl : Int32) (dnu : Int32) (dfa : Nat → Int32) (x : Int32) (hfi : fi ≤ 6) (hgl : gl ≤ 5) (hun : un ≤ 8) (hmi : mi ≤ 4) (hno : no ≤ 6) (hda : kw_bd 6 5 dfa) : kw_Mi l yX4_crowd wsX4_crowd ({ frames := 1, cells := 0, slots := 0, locals := 60 }) D y [.ref nw, .ref d, .int x] [(nw, .inr (4, [.ref kk, .ref nk, .ref nd, .ref ne, .ref nm, .ref nn, .int (nI fi), .int (nI gl), .int (nI un), .int (nI mi), .int (nI no)])), (d, .inr (1, [.ref dl, .ref da, .ref ds, .int dst, .int dcl, .int dnu])), (da, .inl (y 0, 5, .inl dfa))] (fun (r : Int32) (u : Unit) => True) (fun _ => [(nw, .inr (4, [.ref kk, .ref nk, .ref nd, .ref ne, .ref nm, .ref nn, .int (nI fi), .int (nI gl), .int (nI un), .int (nI mi), .int (nI no)])), (d, .inr (1, [.ref dl, .ref da, .ref ds, .int dst, .int dcl, .int dnu])), (da, .inl (y 0, 5, .inl dfa))]) 0 0 := by
  refine kw_Mi.of (cc := cX4_crowd) (maxL := 5) (ret := (some .int)) (by decide) rfl ?_
  intro pZ eZ s mZ beZ meZ cZ A hE
  obtain ⟨hx, hb, hr, hml, hts, hown, hlocks, hin, hA, hP, hD, hK, hN⟩ := hE
  have hS : va_S A s.heap s.heap [] := va_S.rf
  have hl := lv_entry ([.ref nw, .ref d, .int x]) (n := 5) (Nat.le_of_ble_eq_true rfl)
  rw [lg_entry_eq]
  generalize (lg_sl ([.ref nw, .ref d, .int x]) ++ List.replicate (5 - (lg_sl ([.ref nw, .ref d, .int x])).length) Slot.unset).toArray = ls at hl ⊢
  have hl : lv_has ls 5 [(0, .ref nw), (1, .ref d), (2, .int x)] := hl
  have fw1 := hts (.fieldLink RX4 42 "GleanDusk$Parish" "gleaners" "I") (List.mem_of_getElem? (i := 1) rfl)
  have fw2 := hts (.fieldLink RX4 80 "GleanDusk$Dusk" "at" "[I") (List.mem_of_getElem? (i := 2) rfl)
  have iw4 : ∀ w ∈ wsX40, w ∈ wsX4_crowd := fun _ h => List.mem_cons_of_mem _ (List.mem_append_left _ (List.mem_append_right _ h))
  have iw1 : ∀ w ∈ wsX10, w ∈ wsX4_crowd := fun _ h => List.mem_cons_of_mem _ (List.mem_append_right _ h)
  refine lv_iconst (v := 0) hx hb dX4_crowd_0 (by decide) ?_
  refine lv_istore_n (lv' := [(3, .int 0), (0, .ref nw), (1, .ref d), (2, .int x)]) hx hb dX4_crowd_1 rfl hl (by decide) rfl (fun ls hl => ?_)
  refine lv_iconst (v := 0) hx hb dX4_crowd_2 (by decide) ?_
  refine lv_istore (lv' := [(4, .int 0), (3, .int 0), (0, .ref nw), (1, .ref d), (2, .int x)]) hx hb dX4_crowd_3 hl (by decide) rfl (fun ls hl => ?_)
  have lp16 : ∀ (fuj91 j91 : Nat) (x8 : Int32) (H : Heap) (locs : List Loc) (ls : Array Slot), j91 ≤ gl → gl - j91 < fuj91 → va_P D vwCl [(nw, .inr (4, [.ref kk, .ref nk, .ref nd, .ref ne, .ref nm, .ref nn, .int (nI fi), .int (nI gl), .int (nI un), .int (nI mi), .int (nI no)])), (d, .inr (1, [.ref dl, .ref da, .ref ds, .int dst, .int dcl, .int dnu])), (da, .inl (y 0, 5, .inl dfa))] H → va_D A [(nw, .inr (4, [.ref kk, .ref nk, .ref nd, .ref ne, .ref nm, .ref nn, .int (nI fi), .int (nI gl), .int (nI un), .int (nI mi), .int (nI no)])), (d, .inr (1, [.ref dl, .ref da, .ref ds, .int dst, .int dcl, .int dnu])), (da, .inl (y 0, 5, .inl dfa))] → va_S A s.heap H locs → lv_has ls 5 [(4, .int (nI j91)), (3, .int x8), (0, .ref nw), (1, .ref d), (2, .int x)] → W pZ l eZ ({ frames := 1, cells := 0, slots := 0, locals := 60 }) s mZ [.ref nw, .ref d, .int x].toArray beZ meZ cZ H locs 0 0 (MQ beZ (va_Qi (fun (r : Int32) (u : Unit) => True) (kw_B D (fun _ => [(nw, .inr (4, [.ref kk, .ref nk, .ref nd, .ref ne, .ref nm, .ref nn, .int (nI fi), .int (nI gl), .int (nI un), .int (nI mi), .int (nI no)])), (d, .inr (1, [.ref dl, .ref da, .ref ds, .int dst, .int dcl, .int dnu])), (da, .inl (y 0, 5, .inl dfa))]) A) A) [.ref nw, .ref d, .int x].toArray s 0 0 A) (F0 mZ 5 ls []) := by
    intro fuj91
    induction fuj91 with
    | zero => intro j91 x8 H locs ls hj9 hf9; exact absurd hf9 (Nat.not_lt_zero _)
    | succ fuj91 ihj91 =>
      intro j91 x8 H locs ls hj91 hfj91  hP hD hS hl
      refine lv_iload hx hb dX4_crowd_5 (lv_at hl 0 rfl) ?_
      refine lv_aload_n hx hb dX4_crowd_7 rfl (lv_at hl 2 rfl) ?_
      refine va_get (D := D) (ci := 4) (v := .int (nI gl)) (C := RX4) (T := TX4) (N := 11) hx hb hts iw4 hown hK hP 0 rfl rfl 7 (by decide) fw1 (fun _ h9 => h9) rfl dX4_crowd_8 ?_
      refine lv_icmp_ge (tgt := 34) hx hb dX4_crowd_11 (by decide) (fun h17 => ?_) (fun h18 => ?_)
      · skip
        have h17 : gl ≤ j91 := (nI_leI (a := gl) (b := j91) (by omega) (by omega)).mp h17
        refine lv_iload_n hx hb dX4_crowd_34 rfl (lv_at hl 1 rfl) ?_
        exact W.iret (v := x8) hx hb hr (fun tZ ht hW => ⟨⟨x8, (), rfl, trivial, by rw [ht]; exact hP.sub [0, 1, 2] rfl, hD.sub [0, 1, 2] (by decide) rfl⟩, hS.F ht⟩) hS.2.2 dX4_crowd_35
      · skip
        have h18 : ¬ gl ≤ j91 := fun q9 => h18 ((nI_leI (a := gl) (b := j91) (by omega) (by omega)).mpr q9)
        refine lv_aload_n hx hb dX4_crowd_14 rfl (lv_at hl 3 rfl) ?_
        refine va_get (D := D) (ci := 1) (v := .ref da) (C := RX1) (T := TX1) (N := 6) hx hb hts iw1 hown hK hP 1 rfl rfl 1 (by decide) fw2 (fun _ h9 => h9) rfl dX4_crowd_15 ?_
        refine lv_iload hx hb dX4_crowd_18 (lv_at hl 0 rfl) ?_
        refine va_iald hx hb hK hP 2 0 rfl rfl (vp_in_nI (by omega) (by decide)) dX4_crowd_20 ?_
        rw [nI_clamp (n := j91) (by omega)]
        obtain ⟨w19, h20, h21⟩ := kw_bdv hda (k := j91) (by omega) (by decide)
        rw [h21]
        refine lv_iload_n hx hb dX4_crowd_21 rfl (lv_at hl 4 rfl) ?_
        refine lv_icmp_ne (tgt := 28) hx hb dX4_crowd_22 (by decide) (fun h22 => ?_) (fun h23 => ?_)
        · skip
          refine lv_iinc (v := (nI (j91 + 1))) (lv' := [(4, .int (nI (j91 + 1))), (3, .int x8), (0, .ref nw), (1, .ref d), (2, .int x)]) hx hb dX4_crowd_28 hl (k := 0) rfl (nI_1 j91) (by decide) rfl (fun ls hl => ?_)
          refine lv_goto (tgt := 5) hx hb dX4_crowd_31 (by decide) ?_
          exact ihj91 (j91 + 1) x8 H locs ls (by omega) (by omega)  (hP.sub [0, 1, 2] rfl) (hD.sub [0, 1, 2] (by decide) rfl) hS (lv_sub hl [0, 1, 2, 3, 4] rfl)
        · skip
          refine lv_iinc (v := (x8 + 1)) (lv' := [(3, .int (x8 + 1)), (4, .int (nI j91)), (0, .ref nw), (1, .ref d), (2, .int x)]) hx hb dX4_crowd_25 hl (k := 1) rfl (rfl) (by decide) rfl (fun ls hl => ?_)
          refine lv_iinc (v := (nI (j91 + 1))) (lv' := [(4, .int (nI (j91 + 1))), (3, .int (x8 + 1)), (0, .ref nw), (1, .ref d), (2, .int x)]) hx hb dX4_crowd_28 hl (k := 1) rfl (nI_1 j91) (by decide) rfl (fun ls hl => ?_)
          refine lv_goto (tgt := 5) hx hb dX4_crowd_31 (by decide) ?_
          exact ihj91 (j91 + 1) (x8 + 1) H locs ls (by omega) (by omega)  (hP.sub [0, 1, 2] rfl) (hD.sub [0, 1, 2] (by decide) rfl) hS (lv_sub hl [0, 1, 2, 3, 4] rfl)
  exact lp16 (gl + 1) 0 0 _ _ _ (by omega) (by omega)  hP hD hS (lv_sub hl [0, 1, 2, 3, 4] rfl)

set_option maxHeartbeats 4000000 in
set_option maxRecDepth 100000 in
theorem gc_faded (l : Launch) (D : va_G) (y : Nat → ClassId) (x : Int32)  : kw_Mi l yX10_faded wsX10_faded ({ frames := 1, cells := 0, slots := 0, locals := 60 }) D y [.int x] [] (fun (r : Int32) (u : Unit) => r = (x - ((x + 3) / 4))) (fun _ => []) 0 0 := by
  refine kw_Mi.of (cc := cX10_faded) (maxL := 1) (ret := (some .int)) (by decide) rfl ?_
  intro pZ eZ s mZ beZ meZ cZ A hE
  obtain ⟨hx, hb, hr, hml, hts, hown, hlocks, hin, hA, hP, hD, hK, hN⟩ := hE
  have hS : va_S A s.heap s.heap [] := va_S.rf
  have hl := lv_entry ([.int x]) (n := 1) (Nat.le_of_ble_eq_true rfl)
  rw [lg_entry_eq]
  generalize (lg_sl ([.int x]) ++ List.replicate (1 - (lg_sl ([.int x])).length) Slot.unset).toArray = ls at hl ⊢
  have hl : lv_has ls 1 [(0, .int x)] := hl
  refine lv_iload_n hx hb dX10_faded_0 rfl (lv_at hl 0 rfl) ?_
  refine lv_iload_n hx hb dX10_faded_1 rfl (lv_at hl 0 rfl) ?_
  refine lv_iconst (v := 3) hx hb dX10_faded_2 (by decide) ?_
  refine lv_iadd hx hb dX10_faded_3 ?_
  refine lv_iconst (v := 4) hx hb dX10_faded_4 (by decide) ?_
  refine lv_idiv hx hb dX10_faded_5 (by decide) ?_
  refine lv_isub hx hb dX10_faded_6 ?_
  exact W.iret (v := (x - ((x + 3) / 4))) hx hb hr (fun tZ ht hW => ⟨⟨(x - ((x + 3) / 4)), (), rfl, rfl, by rw [ht]; exact hP.sub [] rfl, hD.sub [] (by decide) rfl⟩, hS.F ht⟩) hS.2.2 dX10_faded_7

set_option maxHeartbeats 4000000 in
set_option maxRecDepth 100000 in
theorem gc_give (l : Launch) (D : va_G) (y : Nat → ClassId) (nw : Nat) (kk : Nat) (nk : Nat) (nd : Nat) (ne : Nat) (nm : Nat) (nn : Nat) (fi : Nat) (gl : Nat) (un : Nat) (mi : Nat) (no : Nat) (d : Nat) (dl : Nat) (da : Nat) (ds : Nat) (dst : Int32) (dcl : Int32) (dnu : Int32) (dfl : Nat → Int32) (dfa : Nat → Int32) (dfs : Nat → Int32) (k : Nat) (x : Int32) (hfi : fi ≤ 6) (hgl : gl ≤ 5) (hun : un ≤ 8) (hmi : mi ≤ 4) (hno : no ≤ 6) (hda : kw_bd 6 5 dfa) (hkk : k < 6) : kw_Mi l yX4_give wsX4_give ({ frames := 1, cells := 0, slots := 0, locals := 60 }) D y [.ref nw, .ref d, .int (nI k), .int x] [(nw, .inr (4, [.ref kk, .ref nk, .ref nd, .ref ne, .ref nm, .ref nn, .int (nI fi), .int (nI gl), .int (nI un), .int (nI mi), .int (nI no)])), (d, .inr (1, [.ref dl, .ref da, .ref ds, .int dst, .int dcl, .int dnu])), (dl, .inl (y 0, 6, .inl dfl)), (da, .inl (y 0, 5, .inl dfa)), (ds, .inl (y 0, 5, .inl dfs))] (fun (r : Int32) (u : (Nat → Int32) × (Nat → Int32)) => True) (fun u => [(nw, .inr (4, [.ref kk, .ref nk, .ref nd, .ref ne, .ref nm, .ref nn, .int (nI fi), .int (nI gl), .int (nI un), .int (nI mi), .int (nI no)])), (d, .inr (1, [.ref dl, .ref da, .ref ds, .int dst, .int dcl, .int dnu])), (dl, .inl (y 0, 6, .inl u.1)), (da, .inl (y 0, 5, .inl dfa)), (ds, .inl (y 0, 5, .inl u.2))]) 0 0 := by
  refine kw_Mi.of (cc := cX4_give) (maxL := 6) (ret := (some .int)) (by decide) rfl ?_
  intro pZ eZ s mZ beZ meZ cZ A hE
  obtain ⟨hx, hb, hr, hml, hts, hown, hlocks, hin, hA, hP, hD, hK, hN⟩ := hE
  have hS : va_S A s.heap s.heap [] := va_S.rf
  have hl := lv_entry ([.ref nw, .ref d, .int (nI k), .int x]) (n := 6) (Nat.le_of_ble_eq_true rfl)
  rw [lg_entry_eq]
  generalize (lg_sl ([.ref nw, .ref d, .int (nI k), .int x]) ++ List.replicate (6 - (lg_sl ([.ref nw, .ref d, .int (nI k), .int x])).length) Slot.unset).toArray = ls at hl ⊢
  have hl : lv_has ls 6 [(0, .ref nw), (1, .ref d), (2, .int (nI k)), (3, .int x)] := hl
  have fw1 := hts (.fieldLink RX4 42 "GleanDusk$Parish" "gleaners" "I") (List.mem_of_getElem? (i := 1) rfl)
  have fw2 := hts (.fieldLink RX4 77 "GleanDusk$Dusk" "light" "[I") (List.mem_of_getElem? (i := 8) rfl)
  have fw3 := hts (.methodLink RX4 115 Lib.Math.max.name) (List.mem_of_getElem? (i := 9) rfl)
  have fw4 := hts (.static Lib.Math.max.name) (List.mem_of_getElem? (i := 10) rfl)
  have fw5 := hts (.initialized "java/lang/Math") (List.mem_of_getElem? (i := 6) rfl)
  have fw6 := hts (.code Lib.Math.max.name Lib.Math.max.code 2 (some .int)) (List.mem_of_getElem? (i := 11) rfl)
  have fw7 := hts (.fieldLink RX4 80 "GleanDusk$Dusk" "at" "[I") (List.mem_of_getElem? (i := 2) rfl)
  have fw8 := hts (.fieldLink RX4 83 "GleanDusk$Dusk" "store" "[I") (List.mem_of_getElem? (i := 3) rfl)
  have fw9 := hts (.methodLink RX4 109 Lib.Math.min.name) (List.mem_of_getElem? (i := 4) rfl)
  have fw10 := hts (.static Lib.Math.min.name) (List.mem_of_getElem? (i := 5) rfl)
  have fw11 := hts (.code Lib.Math.min.name Lib.Math.min.code 2 (some .int)) (List.mem_of_getElem? (i := 7) rfl)
  have iw4 : ∀ w ∈ wsX40, w ∈ wsX4_give := fun _ h => List.mem_cons_of_mem _ (List.mem_append_left _ (List.mem_append_right _ h))
  have iw1 : ∀ w ∈ wsX10, w ∈ wsX4_give := fun _ h => List.mem_cons_of_mem _ (List.mem_append_right _ h)
  refine lv_iconst (v := 0) hx hb dX4_give_0 (by decide) ?_
  refine lv_istore (lv' := [(4, .int 0), (0, .ref nw), (1, .ref d), (2, .int (nI k)), (3, .int x)]) hx hb dX4_give_1 hl (by decide) rfl (fun ls hl => ?_)
  refine lv_iconst (v := 0) hx hb dX4_give_3 (by decide) ?_
  refine lv_istore (lv' := [(5, .int 0), (4, .int 0), (0, .ref nw), (1, .ref d), (2, .int (nI k)), (3, .int x)]) hx hb dX4_give_4 hl (by decide) rfl (fun ls hl => ?_)
  have lp17 : ∀ (fuj91 j91 : Nat) (x8 : Int32) (x9 : Nat → Int32) (H : Heap) (locs : List Loc) (ls : Array Slot), j91 ≤ gl → gl - j91 < fuj91 → va_P D vwCl [(nw, .inr (4, [.ref kk, .ref nk, .ref nd, .ref ne, .ref nm, .ref nn, .int (nI fi), .int (nI gl), .int (nI un), .int (nI mi), .int (nI no)])), (d, .inr (1, [.ref dl, .ref da, .ref ds, .int dst, .int dcl, .int dnu])), (dl, .inl (y 0, 6, .inl dfl)), (da, .inl (y 0, 5, .inl dfa)), (ds, .inl (y 0, 5, .inl x9))] H → va_D A [(nw, .inr (4, [.ref kk, .ref nk, .ref nd, .ref ne, .ref nm, .ref nn, .int (nI fi), .int (nI gl), .int (nI un), .int (nI mi), .int (nI no)])), (d, .inr (1, [.ref dl, .ref da, .ref ds, .int dst, .int dcl, .int dnu])), (dl, .inl (y 0, 6, .inl dfl)), (da, .inl (y 0, 5, .inl dfa)), (ds, .inl (y 0, 5, .inl x9))] → va_S A s.heap H locs → lv_has ls 6 [(5, .int (nI j91)), (4, .int x8), (0, .ref nw), (1, .ref d), (2, .int (nI k)), (3, .int x)] → W pZ l eZ ({ frames := 1, cells := 0, slots := 0, locals := 60 }) s mZ [.ref nw, .ref d, .int (nI k), .int x].toArray beZ meZ cZ H locs 0 0 (MQ beZ (va_Qi (fun (r : Int32) (u : (Nat → Int32) × (Nat → Int32)) => True) (kw_B D (fun u => [(nw, .inr (4, [.ref kk, .ref nk, .ref nd, .ref ne, .ref nm, .ref nn, .int (nI fi), .int (nI gl), .int (nI un), .int (nI mi), .int (nI no)])), (d, .inr (1, [.ref dl, .ref da, .ref ds, .int dst, .int dcl, .int dnu])), (dl, .inl (y 0, 6, .inl u.1)), (da, .inl (y 0, 5, .inl dfa)), (ds, .inl (y 0, 5, .inl u.2))]) A) A) [.ref nw, .ref d, .int (nI k), .int x].toArray s 0 0 A) (F0 mZ 6 ls []) := by
    intro fuj91
    induction fuj91 with
    | zero => intro j91 x8 x9 H locs ls hj9 hf9; exact absurd hf9 (Nat.not_lt_zero _)
    | succ fuj91 ihj91 =>
      intro j91 x8 x9 H locs ls hj91 hfj91  hP hD hS hl
      refine lv_iload hx hb dX4_give_6 (lv_at hl 0 rfl) ?_
      refine lv_aload_n hx hb dX4_give_8 rfl (lv_at hl 2 rfl) ?_
      refine va_get (D := D) (ci := 4) (v := .int (nI gl)) (C := RX4) (T := TX4) (N := 11) hx hb hts iw4 hown hK hP 0 rfl rfl 7 (by decide) fw1 (fun _ h9 => h9) rfl dX4_give_9 ?_
      refine lv_icmp_ge (tgt := 63) hx hb dX4_give_12 (by decide) (fun h18 => ?_) (fun h19 => ?_)
      · skip
        have h18 : gl ≤ j91 := (nI_leI (a := gl) (b := j91) (by omega) (by omega)).mp h18
        refine lv_aload_n hx hb dX4_give_63 rfl (lv_at hl 3 rfl) ?_
        refine va_get (D := D) (ci := 1) (v := .ref dl) (C := RX1) (T := TX1) (N := 6) hx hb hts iw1 hown hK hP 1 rfl rfl 0 (by decide) fw2 (fun _ h9 => h9) rfl dX4_give_64 ?_
        refine lv_iload_n hx hb dX4_give_67 rfl (lv_at hl 4 rfl) ?_
        refine lv_iconst (v := 0) hx hb dX4_give_68 (by decide) ?_
        refine lv_aload_n hx hb dX4_give_69 rfl (lv_at hl 3 rfl) ?_
        refine va_get (D := D) (ci := 1) (v := .ref dl) (C := RX1) (T := TX1) (N := 6) hx hb hts iw1 hown hK hP 1 rfl rfl 0 (by decide) fw2 (fun _ h9 => h9) rfl dX4_give_70 ?_
        refine lv_iload_n hx hb dX4_give_73 rfl (lv_at hl 4 rfl) ?_
        refine va_iald hx hb hK hP 2 0 rfl rfl (vp_in_nI (by omega) (by decide)) dX4_give_74 ?_
        rw [nI_clamp (n := k) (by omega)]
        refine lv_iload hx hb dX4_give_75 (lv_at hl 1 rfl) ?_
        refine lv_isub hx hb dX4_give_77 ?_
        refine va_mmax hx hb (hml.trans hl.1.symm) hown fw3 fw4 fw5 fw6 (Nat.le_of_ble_eq_true rfl) (Nat.le_of_ble_eq_true rfl) (Nat.le_of_ble_eq_true rfl) (Nat.le_of_ble_eq_true rfl) dX4_give_78 ?_
        refine va_iast hx hb hK hP hD hS 2 0 rfl rfl (vp_in_nI (by omega) (by decide)) dX4_give_81 (fun H locs hP hD hS => ?_)
        rw [nI_clamp (n := k) (by omega)] at hP hD
        have hP : va_P D vwCl [(nw, .inr (4, [.ref kk, .ref nk, .ref nd, .ref ne, .ref nm, .ref nn, .int (nI fi), .int (nI gl), .int (nI un), .int (nI mi), .int (nI no)])), (d, .inr (1, [.ref dl, .ref da, .ref ds, .int dst, .int dcl, .int dnu])), (dl, .inl (y 0, 6, .inl (upd dfl k (if 0 < ((dfl k) - x8) then ((dfl k) - x8) else 0)))), (da, .inl (y 0, 5, .inl dfa)), (ds, .inl (y 0, 5, .inl x9))] H := hP
        have hD : va_D A [(nw, .inr (4, [.ref kk, .ref nk, .ref nd, .ref ne, .ref nm, .ref nn, .int (nI fi), .int (nI gl), .int (nI un), .int (nI mi), .int (nI no)])), (d, .inr (1, [.ref dl, .ref da, .ref ds, .int dst, .int dcl, .int dnu])), (dl, .inl (y 0, 6, .inl (upd dfl k (if 0 < ((dfl k) - x8) then ((dfl k) - x8) else 0)))), (da, .inl (y 0, 5, .inl dfa)), (ds, .inl (y 0, 5, .inl x9))] := hD
        refine lv_iload hx hb dX4_give_82 (lv_at hl 1 rfl) ?_
        exact W.iret (v := x8) hx hb hr (fun tZ ht hW => ⟨⟨x8, ((upd dfl k (if 0 < ((dfl k) - x8) then ((dfl k) - x8) else 0)), x9), rfl, trivial, by rw [ht]; exact hP.sub [0, 1, 2, 3, 4] rfl, hD.sub [0, 1, 2, 3, 4] (by decide) rfl⟩, hS.F ht⟩) hS.2.2 dX4_give_84
      · skip
        have h19 : ¬ gl ≤ j91 := fun q9 => h19 ((nI_leI (a := gl) (b := j91) (by omega) (by omega)).mpr q9)
        refine lv_aload_n hx hb dX4_give_15 rfl (lv_at hl 3 rfl) ?_
        refine va_get (D := D) (ci := 1) (v := .ref da) (C := RX1) (T := TX1) (N := 6) hx hb hts iw1 hown hK hP 1 rfl rfl 1 (by decide) fw7 (fun _ h9 => h9) rfl dX4_give_16 ?_
        refine lv_iload hx hb dX4_give_19 (lv_at hl 0 rfl) ?_
        refine va_iald hx hb hK hP 3 0 rfl rfl (vp_in_nI (by omega) (by decide)) dX4_give_21 ?_
        rw [nI_clamp (n := j91) (by omega)]
        obtain ⟨w20, h21, h22⟩ := kw_bdv hda (k := j91) (by omega) (by decide)
        rw [h22]
        refine lv_iload_n hx hb dX4_give_22 rfl (lv_at hl 4 rfl) ?_
        refine lv_icmp_eq (tgt := 29) hx hb dX4_give_23 (by decide) (fun h23 => ?_) (fun h24 => ?_)
        · skip
          have h23 : w20 = k := (nI_eq (a := w20) (b := k) (by omega) (by omega)).mp h23
          refine lv_aload_n hx hb dX4_give_29 rfl (lv_at hl 3 rfl) ?_
          refine va_get (D := D) (ci := 1) (v := .ref ds) (C := RX1) (T := TX1) (N := 6) hx hb hts iw1 hown hK hP 1 rfl rfl 2 (by decide) fw8 (fun _ h9 => h9) rfl dX4_give_30 ?_
          refine lv_iload hx hb dX4_give_33 (lv_at hl 0 rfl) ?_
          refine lv_sipush (v := 999) hx hb dX4_give_35 (by decide) ?_
          refine lv_aload_n hx hb dX4_give_38 rfl (lv_at hl 3 rfl) ?_
          refine va_get (D := D) (ci := 1) (v := .ref ds) (C := RX1) (T := TX1) (N := 6) hx hb hts iw1 hown hK hP 1 rfl rfl 2 (by decide) fw8 (fun _ h9 => h9) rfl dX4_give_39 ?_
          refine lv_iload hx hb dX4_give_42 (lv_at hl 0 rfl) ?_
          refine va_iald hx hb hK hP 4 0 rfl rfl (vp_in_nI (by omega) (by decide)) dX4_give_44 ?_
          rw [nI_clamp (n := j91) (by omega)]
          refine lv_iload_n hx hb dX4_give_45 rfl (lv_at hl 5 rfl) ?_
          refine lv_iadd hx hb dX4_give_46 ?_
          refine va_mmin hx hb (hml.trans hl.1.symm) hown fw9 fw10 fw5 fw11 (Nat.le_of_ble_eq_true rfl) (Nat.le_of_ble_eq_true rfl) (Nat.le_of_ble_eq_true rfl) (Nat.le_of_ble_eq_true rfl) dX4_give_47 ?_
          refine va_iast hx hb hK hP hD hS 4 0 rfl rfl (vp_in_nI (by omega) (by decide)) dX4_give_50 (fun H locs hP hD hS => ?_)
          rw [nI_clamp (n := j91) (by omega)] at hP hD
          have hP : va_P D vwCl [(nw, .inr (4, [.ref kk, .ref nk, .ref nd, .ref ne, .ref nm, .ref nn, .int (nI fi), .int (nI gl), .int (nI un), .int (nI mi), .int (nI no)])), (d, .inr (1, [.ref dl, .ref da, .ref ds, .int dst, .int dcl, .int dnu])), (dl, .inl (y 0, 6, .inl dfl)), (da, .inl (y 0, 5, .inl dfa)), (ds, .inl (y 0, 5, .inl (upd x9 j91 (if ((x9 j91) + x) < 999 then ((x9 j91) + x) else 999))))] H := hP
          have hD : va_D A [(nw, .inr (4, [.ref kk, .ref nk, .ref nd, .ref ne, .ref nm, .ref nn, .int (nI fi), .int (nI gl), .int (nI un), .int (nI mi), .int (nI no)])), (d, .inr (1, [.ref dl, .ref da, .ref ds, .int dst, .int dcl, .int dnu])), (dl, .inl (y 0, 6, .inl dfl)), (da, .inl (y 0, 5, .inl dfa)), (ds, .inl (y 0, 5, .inl (upd x9 j91 (if ((x9 j91) + x) < 999 then ((x9 j91) + x) else 999))))] := hD
          refine lv_iload hx hb dX4_give_51 (lv_at hl 1 rfl) ?_
          refine lv_iload_n hx hb dX4_give_53 rfl (lv_at hl 5 rfl) ?_
          refine lv_iadd hx hb dX4_give_54 ?_
          refine lv_istore (lv' := [(4, .int (x8 + x)), (5, .int (nI j91)), (0, .ref nw), (1, .ref d), (2, .int (nI k)), (3, .int x)]) hx hb dX4_give_55 hl (by decide) rfl (fun ls hl => ?_)
          refine lv_iinc (v := (nI (j91 + 1))) (lv' := [(5, .int (nI (j91 + 1))), (4, .int (x8 + x)), (0, .ref nw), (1, .ref d), (2, .int (nI k)), (3, .int x)]) hx hb dX4_give_57 hl (k := 1) rfl (nI_1 j91) (by decide) rfl (fun ls hl => ?_)
          refine lv_goto (tgt := 6) hx hb dX4_give_60 (by decide) ?_
          exact ihj91 (j91 + 1) (x8 + x) (upd x9 j91 (if ((x9 j91) + x) < 999 then ((x9 j91) + x) else 999)) H locs ls (by omega) (by omega)  (hP.sub [0, 1, 2, 3, 4] rfl) (hD.sub [0, 1, 2, 3, 4] (by decide) rfl) hS (lv_sub hl [0, 1, 2, 3, 4, 5] rfl)
        · skip
          have h24 : ¬ w20 = k := fun q9 => h24 ((nI_eq (a := w20) (b := k) (by omega) (by omega)).mpr q9)
          refine lv_goto (tgt := 57) hx hb dX4_give_26 (by decide) ?_
          refine lv_iinc (v := (nI (j91 + 1))) (lv' := [(5, .int (nI (j91 + 1))), (4, .int x8), (0, .ref nw), (1, .ref d), (2, .int (nI k)), (3, .int x)]) hx hb dX4_give_57 hl (k := 0) rfl (nI_1 j91) (by decide) rfl (fun ls hl => ?_)
          refine lv_goto (tgt := 6) hx hb dX4_give_60 (by decide) ?_
          exact ihj91 (j91 + 1) x8 x9 H locs ls (by omega) (by omega)  (hP.sub [0, 1, 2, 3, 4] rfl) (hD.sub [0, 1, 2, 3, 4] (by decide) rfl) hS (lv_sub hl [0, 1, 2, 3, 4, 5] rfl)
  exact lp17 (gl + 1) 0 0 dfs _ _ _ (by omega) (by omega)  hP hD hS (lv_sub hl [0, 1, 2, 3, 4, 5] rfl)

set_option maxHeartbeats 4000000 in
set_option maxRecDepth 100000 in
theorem gc_fade (l : Launch) (D : va_G) (y : Nat → ClassId) (nw : Nat) (kk : Nat) (nk : Nat) (nd : Nat) (ne : Nat) (nm : Nat) (nn : Nat) (fi : Nat) (gl : Nat) (un : Nat) (mi : Nat) (no : Nat) (d : Nat) (dl : Nat) (da : Nat) (ds : Nat) (dst : Int32) (dcl : Int32) (dnu : Int32) (dfl : Nat → Int32) (dfa : Nat → Int32) (dfs : Nat → Int32) (hfi : fi ≤ 6) (hgl : gl ≤ 5) (hun : un ≤ 8) (hmi : mi ≤ 4) (hno : no ≤ 6) (hda : kw_bd 6 5 dfa) : kw_Mv l yX4_fade wsX4_fade ({ frames := 2, cells := 0, slots := 0, locals := 80 }) D y [.ref nw, .ref d] [(nw, .inr (4, [.ref kk, .ref nk, .ref nd, .ref ne, .ref nm, .ref nn, .int (nI fi), .int (nI gl), .int (nI un), .int (nI mi), .int (nI no)])), (d, .inr (1, [.ref dl, .ref da, .ref ds, .int dst, .int dcl, .int dnu])), (dl, .inl (y 0, 6, .inl dfl)), (da, .inl (y 0, 5, .inl dfa)), (ds, .inl (y 0, 5, .inl dfs))] (fun (u : (Nat → Int32) × (Nat → Int32)) => True) (fun u => [(nw, .inr (4, [.ref kk, .ref nk, .ref nd, .ref ne, .ref nm, .ref nn, .int (nI fi), .int (nI gl), .int (nI un), .int (nI mi), .int (nI no)])), (d, .inr (1, [.ref dl, .ref da, .ref ds, .int 0, .int dcl, .int (if (dnu + 1) < 999 then (dnu + 1) else 999)])), (dl, .inl (y 0, 6, .inl u.1)), (da, .inl (y 0, 5, .inl dfa)), (ds, .inl (y 0, 5, .inl u.2))]) 0 0 := by
  refine kw_Mv.of (cc := cX4_fade) (maxL := 3) (ret := none) (by decide) rfl ?_
  intro pZ eZ s mZ beZ meZ cZ A hE
  obtain ⟨hx, hb, hr, hml, hts, hown, hlocks, hin, hA, hP, hD, hK, hN⟩ := hE
  have hS : va_S A s.heap s.heap [] := va_S.rf
  have hl := lv_entry ([.ref nw, .ref d]) (n := 3) (Nat.le_of_ble_eq_true rfl)
  rw [lg_entry_eq]
  generalize (lg_sl ([.ref nw, .ref d]) ++ List.replicate (3 - (lg_sl ([.ref nw, .ref d])).length) Slot.unset).toArray = ls at hl ⊢
  have hl : lv_has ls 3 [(0, .ref nw), (1, .ref d)] := hl
  have fw1 := hts (.fieldLink RX4 42 "GleanDusk$Parish" "gleaners" "I") (List.mem_of_getElem? (i := 1) rfl)
  have fw2 := hts (.fieldLink RX4 38 "GleanDusk$Parish" "fields" "I") (List.mem_of_getElem? (i := 3) rfl)
  have fw3 := hts (.fieldLink RX4 60 "GleanDusk$Dusk" "number" "I") (List.mem_of_getElem? (i := 9) rfl)
  have fw4 := hts (.methodLink RX4 109 Lib.Math.min.name) (List.mem_of_getElem? (i := 5) rfl)
  have fw5 := hts (.static Lib.Math.min.name) (List.mem_of_getElem? (i := 6) rfl)
  have fw6 := hts (.initialized "java/lang/Math") (List.mem_of_getElem? (i := 7) rfl)
  have fw7 := hts (.code Lib.Math.min.name Lib.Math.min.code 2 (some .int)) (List.mem_of_getElem? (i := 8) rfl)
  have fw8 := hts (.fieldLink RX4 54 "GleanDusk$Dusk" "step" "I") (List.mem_of_getElem? (i := 10) rfl)
  have fw9 := hts (.fieldLink RX4 77 "GleanDusk$Dusk" "light" "[I") (List.mem_of_getElem? (i := 4) rfl)
  have fw10 := hts (.fieldLink RX4 83 "GleanDusk$Dusk" "store" "[I") (List.mem_of_getElem? (i := 2) rfl)
  have fw11 := hts (.initialized RX10) (List.mem_of_getElem? (i := 12) rfl)
  have fw12 := hts (.static yX10_faded) (List.mem_of_getElem? (i := 11) rfl)
  have iw4 : ∀ w ∈ wsX40, w ∈ wsX4_fade := fun _ h => List.mem_cons_of_mem _ (List.mem_append_left _ (List.mem_append_right _ h))
  have iw1 : ∀ w ∈ wsX10, w ∈ wsX4_fade := fun _ h => List.mem_cons_of_mem _ (List.mem_append_right _ h)
  refine lv_iconst (v := 0) hx hb dX4_fade_0 (by decide) ?_
  refine lv_istore_n (lv' := [(2, .int 0), (0, .ref nw), (1, .ref d)]) hx hb dX4_fade_1 rfl hl (by decide) rfl (fun ls hl => ?_)
  have lp28 : ∀ (fuj91 j91 : Nat) (x14 : Nat → Int32) (H : Heap) (locs : List Loc) (ls : Array Slot), j91 ≤ gl → gl - j91 < fuj91 → va_P D vwCl [(nw, .inr (4, [.ref kk, .ref nk, .ref nd, .ref ne, .ref nm, .ref nn, .int (nI fi), .int (nI gl), .int (nI un), .int (nI mi), .int (nI no)])), (d, .inr (1, [.ref dl, .ref da, .ref ds, .int dst, .int dcl, .int dnu])), (dl, .inl (y 0, 6, .inl dfl)), (da, .inl (y 0, 5, .inl dfa)), (ds, .inl (y 0, 5, .inl x14))] H → va_D A [(nw, .inr (4, [.ref kk, .ref nk, .ref nd, .ref ne, .ref nm, .ref nn, .int (nI fi), .int (nI gl), .int (nI un), .int (nI mi), .int (nI no)])), (d, .inr (1, [.ref dl, .ref da, .ref ds, .int dst, .int dcl, .int dnu])), (dl, .inl (y 0, 6, .inl dfl)), (da, .inl (y 0, 5, .inl dfa)), (ds, .inl (y 0, 5, .inl x14))] → va_S A s.heap H locs → lv_has ls 3 [(2, .int (nI j91)), (0, .ref nw), (1, .ref d)] → W pZ l eZ ({ frames := 2, cells := 0, slots := 0, locals := 80 }) s mZ [.ref nw, .ref d].toArray beZ meZ cZ H locs 0 0 (MQ beZ (va_Qv (fun (u : (Nat → Int32) × (Nat → Int32)) => True) (kw_B D (fun u => [(nw, .inr (4, [.ref kk, .ref nk, .ref nd, .ref ne, .ref nm, .ref nn, .int (nI fi), .int (nI gl), .int (nI un), .int (nI mi), .int (nI no)])), (d, .inr (1, [.ref dl, .ref da, .ref ds, .int 0, .int dcl, .int (if (dnu + 1) < 999 then (dnu + 1) else 999)])), (dl, .inl (y 0, 6, .inl u.1)), (da, .inl (y 0, 5, .inl dfa)), (ds, .inl (y 0, 5, .inl u.2))]) A) A) [.ref nw, .ref d].toArray s 0 0 A) (F0 mZ 2 ls []) := by
    intro fuj91
    induction fuj91 with
    | zero => intro j91 x14 H locs ls hj9 hf9; exact absurd hf9 (Nat.not_lt_zero _)
    | succ fuj91 ihj91 =>
      intro j91 x14 H locs ls hj91 hfj91  hP hD hS hl
      refine lv_iload_n hx hb dX4_fade_2 rfl (lv_at hl 0 rfl) ?_
      refine lv_aload_n hx hb dX4_fade_3 rfl (lv_at hl 1 rfl) ?_
      refine va_get (D := D) (ci := 4) (v := .int (nI gl)) (C := RX4) (T := TX4) (N := 11) hx hb hts iw4 hown hK hP 0 rfl rfl 7 (by decide) fw1 (fun _ h9 => h9) rfl dX4_fade_4 ?_
      refine lv_icmp_ge (tgt := 31) hx hb dX4_fade_7 (by decide) (fun h29 => ?_) (fun h30 => ?_)
      · skip
        have h29 : gl ≤ j91 := (nI_leI (a := gl) (b := j91) (by omega) (by omega)).mp h29
        refine lv_iconst (v := 0) hx hb dX4_fade_31 (by decide) ?_
        refine lv_istore_n (lv' := [(2, .int 0), (0, .ref nw), (1, .ref d)]) hx hb dX4_fade_32 rfl hl (by decide) rfl (fun ls hl => ?_)
        have lp36 : ∀ (fuj92 j92 : Nat) (x33 : Nat → Int32) (H : Heap) (locs : List Loc) (ls : Array Slot), j92 ≤ fi → fi - j92 < fuj92 → va_P D vwCl [(nw, .inr (4, [.ref kk, .ref nk, .ref nd, .ref ne, .ref nm, .ref nn, .int (nI fi), .int (nI gl), .int (nI un), .int (nI mi), .int (nI no)])), (d, .inr (1, [.ref dl, .ref da, .ref ds, .int dst, .int dcl, .int dnu])), (dl, .inl (y 0, 6, .inl x33)), (da, .inl (y 0, 5, .inl dfa)), (ds, .inl (y 0, 5, .inl x14))] H → va_D A [(nw, .inr (4, [.ref kk, .ref nk, .ref nd, .ref ne, .ref nm, .ref nn, .int (nI fi), .int (nI gl), .int (nI un), .int (nI mi), .int (nI no)])), (d, .inr (1, [.ref dl, .ref da, .ref ds, .int dst, .int dcl, .int dnu])), (dl, .inl (y 0, 6, .inl x33)), (da, .inl (y 0, 5, .inl dfa)), (ds, .inl (y 0, 5, .inl x14))] → va_S A s.heap H locs → lv_has ls 3 [(2, .int (nI j92)), (0, .ref nw), (1, .ref d)] → W pZ l eZ ({ frames := 2, cells := 0, slots := 0, locals := 80 }) s mZ [.ref nw, .ref d].toArray beZ meZ cZ H locs 0 0 (MQ beZ (va_Qv (fun (u : (Nat → Int32) × (Nat → Int32)) => True) (kw_B D (fun u => [(nw, .inr (4, [.ref kk, .ref nk, .ref nd, .ref ne, .ref nm, .ref nn, .int (nI fi), .int (nI gl), .int (nI un), .int (nI mi), .int (nI no)])), (d, .inr (1, [.ref dl, .ref da, .ref ds, .int 0, .int dcl, .int (if (dnu + 1) < 999 then (dnu + 1) else 999)])), (dl, .inl (y 0, 6, .inl u.1)), (da, .inl (y 0, 5, .inl dfa)), (ds, .inl (y 0, 5, .inl u.2))]) A) A) [.ref nw, .ref d].toArray s 0 0 A) (F0 mZ 33 ls []) := by
          intro fuj92
          induction fuj92 with
          | zero => intro j92 x33 H locs ls hj9 hf9; exact absurd hf9 (Nat.not_lt_zero _)
          | succ fuj92 ihj92 =>
            intro j92 x33 H locs ls hj92 hfj92  hP hD hS hl
            refine lv_iload_n hx hb dX4_fade_33 rfl (lv_at hl 0 rfl) ?_
            refine lv_aload_n hx hb dX4_fade_34 rfl (lv_at hl 1 rfl) ?_
            refine va_get (D := D) (ci := 4) (v := .int (nI fi)) (C := RX4) (T := TX4) (N := 11) hx hb hts iw4 hown hK hP 0 rfl rfl 6 (by decide) fw2 (fun _ h9 => h9) rfl dX4_fade_35 ?_
            refine lv_icmp_ge (tgt := 67) hx hb dX4_fade_38 (by decide) (fun h37 => ?_) (fun h38 => ?_)
            · skip
              have h37 : fi ≤ j92 := (nI_leI (a := fi) (b := j92) (by omega) (by omega)).mp h37
              refine lv_aload_n hx hb dX4_fade_67 rfl (lv_at hl 2 rfl) ?_
              refine lv_sipush (v := 999) hx hb dX4_fade_68 (by decide) ?_
              refine lv_aload_n hx hb dX4_fade_71 rfl (lv_at hl 2 rfl) ?_
              refine va_get (D := D) (ci := 1) (v := .int dnu) (C := RX1) (T := TX1) (N := 6) hx hb hts iw1 hown hK hP 1 rfl rfl 5 (by decide) fw3 (fun _ h9 => h9) rfl dX4_fade_72 ?_
              refine lv_iconst (v := 1) hx hb dX4_fade_75 (by decide) ?_
              refine lv_iadd hx hb dX4_fade_76 ?_
              refine va_mmin hx hb (hml.trans hl.1.symm) hown fw4 fw5 fw6 fw7 (Nat.le_of_ble_eq_true rfl) (Nat.le_of_ble_eq_true rfl) (Nat.le_of_ble_eq_true rfl) (Nat.le_of_ble_eq_true rfl) dX4_fade_77 ?_
              refine va_put (D := D) (ci := 1) (v := .int (if (dnu + 1) < 999 then (dnu + 1) else 999)) (ty := .int) (C := RX1) (T := TX1) (N := 6) hx hb hts iw1 tyX1 tyX1_ok nmX1 hown hK hP hD hS 1 rfl rfl 5 (by decide) fw3 (fun _ h9 => h9) rfl (by decide +kernel) rfl rfl (Nat.le_of_ble_eq_true rfl) dX4_fade_80 (fun H locs hP hD hS => ?_)
              have hP : va_P D vwCl [(nw, .inr (4, [.ref kk, .ref nk, .ref nd, .ref ne, .ref nm, .ref nn, .int (nI fi), .int (nI gl), .int (nI un), .int (nI mi), .int (nI no)])), (d, .inr (1, [.ref dl, .ref da, .ref ds, .int dst, .int dcl, .int (if (dnu + 1) < 999 then (dnu + 1) else 999)])), (dl, .inl (y 0, 6, .inl x33)), (da, .inl (y 0, 5, .inl dfa)), (ds, .inl (y 0, 5, .inl x14))] H := hP
              have hD : va_D A [(nw, .inr (4, [.ref kk, .ref nk, .ref nd, .ref ne, .ref nm, .ref nn, .int (nI fi), .int (nI gl), .int (nI un), .int (nI mi), .int (nI no)])), (d, .inr (1, [.ref dl, .ref da, .ref ds, .int dst, .int dcl, .int (if (dnu + 1) < 999 then (dnu + 1) else 999)])), (dl, .inl (y 0, 6, .inl x33)), (da, .inl (y 0, 5, .inl dfa)), (ds, .inl (y 0, 5, .inl x14))] := hD
              refine lv_aload_n hx hb dX4_fade_83 rfl (lv_at hl 2 rfl) ?_
              refine lv_iconst (v := 0) hx hb dX4_fade_84 (by decide) ?_
              refine va_put (D := D) (ci := 1) (v := .int 0) (ty := .int) (C := RX1) (T := TX1) (N := 6) hx hb hts iw1 tyX1 tyX1_ok nmX1 hown hK hP hD hS 1 rfl rfl 3 (by decide) fw8 (fun _ h9 => h9) rfl (by decide +kernel) rfl rfl (Nat.le_of_ble_eq_true rfl) dX4_fade_85 (fun H locs hP hD hS => ?_)
              have hP : va_P D vwCl [(nw, .inr (4, [.ref kk, .ref nk, .ref nd, .ref ne, .ref nm, .ref nn, .int (nI fi), .int (nI gl), .int (nI un), .int (nI mi), .int (nI no)])), (d, .inr (1, [.ref dl, .ref da, .ref ds, .int 0, .int dcl, .int (if (dnu + 1) < 999 then (dnu + 1) else 999)])), (dl, .inl (y 0, 6, .inl x33)), (da, .inl (y 0, 5, .inl dfa)), (ds, .inl (y 0, 5, .inl x14))] H := hP
              have hD : va_D A [(nw, .inr (4, [.ref kk, .ref nk, .ref nd, .ref ne, .ref nm, .ref nn, .int (nI fi), .int (nI gl), .int (nI un), .int (nI mi), .int (nI no)])), (d, .inr (1, [.ref dl, .ref da, .ref ds, .int 0, .int dcl, .int (if (dnu + 1) < 999 then (dnu + 1) else 999)])), (dl, .inl (y 0, 6, .inl x33)), (da, .inl (y 0, 5, .inl dfa)), (ds, .inl (y 0, 5, .inl x14))] := hD
              exact W.vret hx hb hr (fun tZ ht hW => ⟨⟨(x33, x14), rfl, trivial, by rw [ht]; exact hP.sub [0, 1, 2, 3, 4] rfl, hD.sub [0, 1, 2, 3, 4] (by decide) rfl⟩, hS.F ht⟩) hS.2.2 dX4_fade_88
            · skip
              have h38 : ¬ fi ≤ j92 := fun q9 => h38 ((nI_leI (a := fi) (b := j92) (by omega) (by omega)).mpr q9)
              refine lv_aload_n hx hb dX4_fade_41 rfl (lv_at hl 2 rfl) ?_
              refine va_get (D := D) (ci := 1) (v := .ref dl) (C := RX1) (T := TX1) (N := 6) hx hb hts iw1 hown hK hP 1 rfl rfl 0 (by decide) fw9 (fun _ h9 => h9) rfl dX4_fade_42 ?_
              refine lv_iload_n hx hb dX4_fade_45 rfl (lv_at hl 0 rfl) ?_
              refine lv_bipush (v := 60) hx hb dX4_fade_46 (by decide) ?_
              refine lv_aload_n hx hb dX4_fade_48 rfl (lv_at hl 2 rfl) ?_
              refine va_get (D := D) (ci := 1) (v := .ref dl) (C := RX1) (T := TX1) (N := 6) hx hb hts iw1 hown hK hP 1 rfl rfl 0 (by decide) fw9 (fun _ h9 => h9) rfl dX4_fade_49 ?_
              refine lv_iload_n hx hb dX4_fade_52 rfl (lv_at hl 0 rfl) ?_
              refine va_iald hx hb hK hP 2 0 rfl rfl (vp_in_nI (by omega) (by decide)) dX4_fade_53 ?_
              rw [nI_clamp (n := j92) (by omega)]
              refine lv_bipush (v := 20) hx hb dX4_fade_54 (by decide) ?_
              refine lv_iadd hx hb dX4_fade_56 ?_
              refine va_mmin hx hb (hml.trans hl.1.symm) hown fw4 fw5 fw6 fw7 (Nat.le_of_ble_eq_true rfl) (Nat.le_of_ble_eq_true rfl) (Nat.le_of_ble_eq_true rfl) (Nat.le_of_ble_eq_true rfl) dX4_fade_57 ?_
              refine va_iast hx hb hK hP hD hS 2 0 rfl rfl (vp_in_nI (by omega) (by decide)) dX4_fade_60 (fun H locs hP hD hS => ?_)
              rw [nI_clamp (n := j92) (by omega)] at hP hD
              have hP : va_P D vwCl [(nw, .inr (4, [.ref kk, .ref nk, .ref nd, .ref ne, .ref nm, .ref nn, .int (nI fi), .int (nI gl), .int (nI un), .int (nI mi), .int (nI no)])), (d, .inr (1, [.ref dl, .ref da, .ref ds, .int dst, .int dcl, .int dnu])), (dl, .inl (y 0, 6, .inl (upd x33 j92 (if ((x33 j92) + 20) < 60 then ((x33 j92) + 20) else 60)))), (da, .inl (y 0, 5, .inl dfa)), (ds, .inl (y 0, 5, .inl x14))] H := hP
              have hD : va_D A [(nw, .inr (4, [.ref kk, .ref nk, .ref nd, .ref ne, .ref nm, .ref nn, .int (nI fi), .int (nI gl), .int (nI un), .int (nI mi), .int (nI no)])), (d, .inr (1, [.ref dl, .ref da, .ref ds, .int dst, .int dcl, .int dnu])), (dl, .inl (y 0, 6, .inl (upd x33 j92 (if ((x33 j92) + 20) < 60 then ((x33 j92) + 20) else 60)))), (da, .inl (y 0, 5, .inl dfa)), (ds, .inl (y 0, 5, .inl x14))] := hD
              refine lv_iinc (v := (nI (j92 + 1))) (lv' := [(2, .int (nI (j92 + 1))), (0, .ref nw), (1, .ref d)]) hx hb dX4_fade_61 hl (k := 0) rfl (nI_1 j92) (by decide) rfl (fun ls hl => ?_)
              refine lv_goto (tgt := 33) hx hb dX4_fade_64 (by decide) ?_
              exact ihj92 (j92 + 1) (upd x33 j92 (if ((x33 j92) + 20) < 60 then ((x33 j92) + 20) else 60)) H locs ls (by omega) (by omega)  (hP.sub [0, 1, 2, 3, 4] rfl) (hD.sub [0, 1, 2, 3, 4] (by decide) rfl) hS (lv_sub hl [0, 1, 2] rfl)
        exact lp36 (fi + 1) 0 dfl _ _ _ (by omega) (by omega)  hP hD hS (lv_sub hl [0, 1, 2] rfl)
      · skip
        have h30 : ¬ gl ≤ j91 := fun q9 => h30 ((nI_leI (a := gl) (b := j91) (by omega) (by omega)).mpr q9)
        refine lv_aload_n hx hb dX4_fade_10 rfl (lv_at hl 2 rfl) ?_
        refine va_get (D := D) (ci := 1) (v := .ref ds) (C := RX1) (T := TX1) (N := 6) hx hb hts iw1 hown hK hP 1 rfl rfl 2 (by decide) fw10 (fun _ h9 => h9) rfl dX4_fade_11 ?_
        refine lv_iload_n hx hb dX4_fade_14 rfl (lv_at hl 0 rfl) ?_
        refine lv_aload_n hx hb dX4_fade_15 rfl (lv_at hl 2 rfl) ?_
        refine va_get (D := D) (ci := 1) (v := .ref ds) (C := RX1) (T := TX1) (N := 6) hx hb hts iw1 hown hK hP 1 rfl rfl 2 (by decide) fw10 (fun _ h9 => h9) rfl dX4_fade_16 ?_
        refine lv_iload_n hx hb dX4_fade_19 rfl (lv_at hl 0 rfl) ?_
        refine va_iald hx hb hK hP 4 0 rfl rfl (vp_in_nI (by omega) (by decide)) dX4_fade_20 ?_
        rw [nI_clamp (n := j91) (by omega)]
        have hs39 : kw_Split [(nw, .inr (4, [.ref kk, .ref nk, .ref nd, .ref ne, .ref nm, .ref nn, .int (nI fi), .int (nI gl), .int (nI un), .int (nI mi), .int (nI no)])), (d, .inr (1, [.ref dl, .ref da, .ref ds, .int dst, .int dcl, .int dnu])), (dl, .inl (y 0, 6, .inl dfl)), (da, .inl (y 0, 5, .inl dfa)), (ds, .inl (y 0, 5, .inl x14))] [] [(nw, .inr (4, [.ref kk, .ref nk, .ref nd, .ref ne, .ref nm, .ref nn, .int (nI fi), .int (nI gl), .int (nI un), .int (nI mi), .int (nI no)])), (d, .inr (1, [.ref dl, .ref da, .ref ds, .int dst, .int dcl, .int dnu])), (dl, .inl (y 0, 6, .inl dfl)), (da, .inl (y 0, 5, .inl dfa)), (ds, .inl (y 0, 5, .inl x14))] [] [0, 1, 2, 3, 4] := ⟨rfl, rfl, rfl, rfl, rfl, by decide⟩
        refine kw_go_i hs39 hP hD hS hA (va_runSN (As := [.int (x14 j91)]) (rest := [.int (nI j91), .ref ds]) ⟨hx, hb, hml, hown, hts⟩ (gc_faded l D y (x14 j91)  _) ⟨va_cnB 1 hts gX4_fade_X10_faded_n118 rfl rfl rfl (hN.1 ("GleanDusk$Parish", 118, yX10_faded) (List.mem_of_getElem? (i := 17) rfl)) fw11 (by decide +kernel) ⟨Nat.le_of_ble_eq_true rfl, Nat.le_of_ble_eq_true rfl⟩, fw12, trivial⟩ (kw_PreS hs39 hP hD hK hN) rfl rfl hl.1 rfl (lv_room (Nat.le_of_ble_eq_true rfl)) dX4_fade_21 ⟨Nat.le_of_ble_eq_true rfl, Nat.le_of_ble_eq_true rfl⟩) (fun r40 u41 H locs hq hP hD hS => ?_)
        obtain rfl := hq
        have hP : va_P D vwCl [(nw, .inr (4, [.ref kk, .ref nk, .ref nd, .ref ne, .ref nm, .ref nn, .int (nI fi), .int (nI gl), .int (nI un), .int (nI mi), .int (nI no)])), (d, .inr (1, [.ref dl, .ref da, .ref ds, .int dst, .int dcl, .int dnu])), (dl, .inl (y 0, 6, .inl dfl)), (da, .inl (y 0, 5, .inl dfa)), (ds, .inl (y 0, 5, .inl x14))] H := hP
        have hD : va_D A [(nw, .inr (4, [.ref kk, .ref nk, .ref nd, .ref ne, .ref nm, .ref nn, .int (nI fi), .int (nI gl), .int (nI un), .int (nI mi), .int (nI no)])), (d, .inr (1, [.ref dl, .ref da, .ref ds, .int dst, .int dcl, .int dnu])), (dl, .inl (y 0, 6, .inl dfl)), (da, .inl (y 0, 5, .inl dfa)), (ds, .inl (y 0, 5, .inl x14))] := hD
        refine va_iast hx hb hK hP hD hS 4 0 rfl rfl (vp_in_nI (by omega) (by decide)) dX4_fade_24 (fun H locs hP hD hS => ?_)
        rw [nI_clamp (n := j91) (by omega)] at hP hD
        have hP : va_P D vwCl [(nw, .inr (4, [.ref kk, .ref nk, .ref nd, .ref ne, .ref nm, .ref nn, .int (nI fi), .int (nI gl), .int (nI un), .int (nI mi), .int (nI no)])), (d, .inr (1, [.ref dl, .ref da, .ref ds, .int dst, .int dcl, .int dnu])), (dl, .inl (y 0, 6, .inl dfl)), (da, .inl (y 0, 5, .inl dfa)), (ds, .inl (y 0, 5, .inl (upd x14 j91 ((x14 j91) - (((x14 j91) + 3) / 4)))))] H := hP
        have hD : va_D A [(nw, .inr (4, [.ref kk, .ref nk, .ref nd, .ref ne, .ref nm, .ref nn, .int (nI fi), .int (nI gl), .int (nI un), .int (nI mi), .int (nI no)])), (d, .inr (1, [.ref dl, .ref da, .ref ds, .int dst, .int dcl, .int dnu])), (dl, .inl (y 0, 6, .inl dfl)), (da, .inl (y 0, 5, .inl dfa)), (ds, .inl (y 0, 5, .inl (upd x14 j91 ((x14 j91) - (((x14 j91) + 3) / 4)))))] := hD
        refine lv_iinc (v := (nI (j91 + 1))) (lv' := [(2, .int (nI (j91 + 1))), (0, .ref nw), (1, .ref d)]) hx hb dX4_fade_25 hl (k := 0) rfl (nI_1 j91) (by decide) rfl (fun ls hl => ?_)
        refine lv_goto (tgt := 2) hx hb dX4_fade_28 (by decide) ?_
        exact ihj91 (j91 + 1) (upd x14 j91 ((x14 j91) - (((x14 j91) + 3) / 4))) H locs ls (by omega) (by omega)  (hP.sub [0, 1, 2, 3, 4] rfl) (hD.sub [0, 1, 2, 3, 4] (by decide) rfl) hS (lv_sub hl [0, 1, 2] rfl)
  exact lp28 (gl + 1) 0 dfs _ _ _ (by omega) (by omega)  hP hD hS (lv_sub hl [0, 1, 2] rfl)

set_option maxHeartbeats 4000000 in
set_option maxRecDepth 100000 in
theorem gc_whoIsOn (l : Launch) (D : va_G) (y : Nat → ClassId) (nw : Nat) (kk : Nat) (nk : Nat) (nd : Nat) (ne : Nat) (nm : Nat) (nn : Nat) (fi : Nat) (gl : Nat) (un : Nat) (mi : Nat) (no : Nat) (nd : Nat) (nl : Nat) (na : Nat) (ns : Nat) (nst : Int32) (ncl : Int32) (nnu : Int32) (nfa : Nat → Int32) (x : Int32) (hfi : fi ≤ 6) (hgl : gl ≤ 5) (hun : un ≤ 8) (hmi : mi ≤ 4) (hno : no ≤ 6) (hna : kw_bd 6 5 nfa) : kw_Mi l yX4_whoIsOn wsX4_whoIsOn ({ frames := 1, cells := 0, slots := 0, locals := 60 }) D y [.ref nw, .int x] [(nw, .inr (4, [.ref kk, .ref nk, .ref nd, .ref ne, .ref nm, .ref nn, .int (nI fi), .int (nI gl), .int (nI un), .int (nI mi), .int (nI no)])), (nd, .inr (1, [.ref nl, .ref na, .ref ns, .int nst, .int ncl, .int nnu])), (na, .inl (y 0, 5, .inl nfa))] (fun (r : Int32) (u : Unit) => True) (fun _ => [(nw, .inr (4, [.ref kk, .ref nk, .ref nd, .ref ne, .ref nm, .ref nn, .int (nI fi), .int (nI gl), .int (nI un), .int (nI mi), .int (nI no)])), (nd, .inr (1, [.ref nl, .ref na, .ref ns, .int nst, .int ncl, .int nnu])), (na, .inl (y 0, 5, .inl nfa))]) 0 0 := by
  refine kw_Mi.of (cc := cX4_whoIsOn) (maxL := 4) (ret := (some .int)) (by decide) rfl ?_
  intro pZ eZ s mZ beZ meZ cZ A hE
  obtain ⟨hx, hb, hr, hml, hts, hown, hlocks, hin, hA, hP, hD, hK, hN⟩ := hE
  have hS : va_S A s.heap s.heap [] := va_S.rf
  have hl := lv_entry ([.ref nw, .int x]) (n := 4) (Nat.le_of_ble_eq_true rfl)
  rw [lg_entry_eq]
  generalize (lg_sl ([.ref nw, .int x]) ++ List.replicate (4 - (lg_sl ([.ref nw, .int x])).length) Slot.unset).toArray = ls at hl ⊢
  have hl : lv_has ls 4 [(0, .ref nw), (1, .int x)] := hl
  have fw1 := hts (.fieldLink RX4 42 "GleanDusk$Parish" "gleaners" "I") (List.mem_of_getElem? (i := 1) rfl)
  have fw2 := hts (.fieldLink RX4 18 "GleanDusk$Parish" "dusk" "LGleanDusk$Dusk;") (List.mem_of_getElem? (i := 2) rfl)
  have fw3 := hts (.fieldLink RX4 80 "GleanDusk$Dusk" "at" "[I") (List.mem_of_getElem? (i := 3) rfl)
  have iw4 : ∀ w ∈ wsX40, w ∈ wsX4_whoIsOn := fun _ h => List.mem_cons_of_mem _ (List.mem_append_left _ (List.mem_append_right _ h))
  have iw1 : ∀ w ∈ wsX10, w ∈ wsX4_whoIsOn := fun _ h => List.mem_cons_of_mem _ (List.mem_append_right _ h)
  refine lv_iconst (v := 0) hx hb dX4_whoIsOn_0 (by decide) ?_
  refine lv_istore_n (lv' := [(2, .int 0), (0, .ref nw), (1, .int x)]) hx hb dX4_whoIsOn_1 rfl hl (by decide) rfl (fun ls hl => ?_)
  refine lv_iconst (v := 0) hx hb dX4_whoIsOn_2 (by decide) ?_
  refine lv_istore_n (lv' := [(3, .int 0), (2, .int 0), (0, .ref nw), (1, .int x)]) hx hb dX4_whoIsOn_3 rfl hl (by decide) rfl (fun ls hl => ?_)
  have lp16 : ∀ (fuj91 j91 : Nat) (x8 : Int32) (H : Heap) (locs : List Loc) (ls : Array Slot), j91 ≤ gl → gl - j91 < fuj91 → va_P D vwCl [(nw, .inr (4, [.ref kk, .ref nk, .ref nd, .ref ne, .ref nm, .ref nn, .int (nI fi), .int (nI gl), .int (nI un), .int (nI mi), .int (nI no)])), (nd, .inr (1, [.ref nl, .ref na, .ref ns, .int nst, .int ncl, .int nnu])), (na, .inl (y 0, 5, .inl nfa))] H → va_D A [(nw, .inr (4, [.ref kk, .ref nk, .ref nd, .ref ne, .ref nm, .ref nn, .int (nI fi), .int (nI gl), .int (nI un), .int (nI mi), .int (nI no)])), (nd, .inr (1, [.ref nl, .ref na, .ref ns, .int nst, .int ncl, .int nnu])), (na, .inl (y 0, 5, .inl nfa))] → va_S A s.heap H locs → lv_has ls 4 [(3, .int (nI j91)), (2, .int x8), (0, .ref nw), (1, .int x)] → W pZ l eZ ({ frames := 1, cells := 0, slots := 0, locals := 60 }) s mZ [.ref nw, .int x].toArray beZ meZ cZ H locs 0 0 (MQ beZ (va_Qi (fun (r : Int32) (u : Unit) => True) (kw_B D (fun _ => [(nw, .inr (4, [.ref kk, .ref nk, .ref nd, .ref ne, .ref nm, .ref nn, .int (nI fi), .int (nI gl), .int (nI un), .int (nI mi), .int (nI no)])), (nd, .inr (1, [.ref nl, .ref na, .ref ns, .int nst, .int ncl, .int nnu])), (na, .inl (y 0, 5, .inl nfa))]) A) A) [.ref nw, .int x].toArray s 0 0 A) (F0 mZ 4 ls []) := by
    intro fuj91
    induction fuj91 with
    | zero => intro j91 x8 H locs ls hj9 hf9; exact absurd hf9 (Nat.not_lt_zero _)
    | succ fuj91 ihj91 =>
      intro j91 x8 H locs ls hj91 hfj91  hP hD hS hl
      refine lv_iload_n hx hb dX4_whoIsOn_4 rfl (lv_at hl 0 rfl) ?_
      refine lv_aload_n hx hb dX4_whoIsOn_5 rfl (lv_at hl 2 rfl) ?_
      refine va_get (D := D) (ci := 4) (v := .int (nI gl)) (C := RX4) (T := TX4) (N := 11) hx hb hts iw4 hown hK hP 0 rfl rfl 7 (by decide) fw1 (fun _ h9 => h9) rfl dX4_whoIsOn_6 ?_
      refine lv_icmp_ge (tgt := 37) hx hb dX4_whoIsOn_9 (by decide) (fun h17 => ?_) (fun h18 => ?_)
      · skip
        have h17 : gl ≤ j91 := (nI_leI (a := gl) (b := j91) (by omega) (by omega)).mp h17
        refine lv_iload_n hx hb dX4_whoIsOn_37 rfl (lv_at hl 1 rfl) ?_
        exact W.iret (v := x8) hx hb hr (fun tZ ht hW => ⟨⟨x8, (), rfl, trivial, by rw [ht]; exact hP.sub [0, 1, 2] rfl, hD.sub [0, 1, 2] (by decide) rfl⟩, hS.F ht⟩) hS.2.2 dX4_whoIsOn_38
      · skip
        have h18 : ¬ gl ≤ j91 := fun q9 => h18 ((nI_leI (a := gl) (b := j91) (by omega) (by omega)).mpr q9)
        refine lv_aload_n hx hb dX4_whoIsOn_12 rfl (lv_at hl 2 rfl) ?_
        refine va_get (D := D) (ci := 4) (v := .ref nd) (C := RX4) (T := TX4) (N := 11) hx hb hts iw4 hown hK hP 0 rfl rfl 2 (by decide) fw2 (fun _ h9 => h9) rfl dX4_whoIsOn_13 ?_
        refine va_get (D := D) (ci := 1) (v := .ref na) (C := RX1) (T := TX1) (N := 6) hx hb hts iw1 hown hK hP 1 rfl rfl 1 (by decide) fw3 (fun _ h9 => h9) rfl dX4_whoIsOn_16 ?_
        refine lv_iload_n hx hb dX4_whoIsOn_19 rfl (lv_at hl 0 rfl) ?_
        refine va_iald hx hb hK hP 2 0 rfl rfl (vp_in_nI (by omega) (by decide)) dX4_whoIsOn_20 ?_
        rw [nI_clamp (n := j91) (by omega)]
        obtain ⟨w19, h20, h21⟩ := kw_bdv hna (k := j91) (by omega) (by decide)
        rw [h21]
        refine lv_iload_n hx hb dX4_whoIsOn_21 rfl (lv_at hl 3 rfl) ?_
        refine lv_icmp_ne (tgt := 31) hx hb dX4_whoIsOn_22 (by decide) (fun h22 => ?_) (fun h23 => ?_)
        · skip
          refine lv_iinc (v := (nI (j91 + 1))) (lv' := [(3, .int (nI (j91 + 1))), (2, .int x8), (0, .ref nw), (1, .int x)]) hx hb dX4_whoIsOn_31 hl (k := 0) rfl (nI_1 j91) (by decide) rfl (fun ls hl => ?_)
          refine lv_goto (tgt := 4) hx hb dX4_whoIsOn_34 (by decide) ?_
          exact ihj91 (j91 + 1) x8 H locs ls (by omega) (by omega)  (hP.sub [0, 1, 2] rfl) (hD.sub [0, 1, 2] (by decide) rfl) hS (lv_sub hl [0, 1, 2, 3] rfl)
        · skip
          refine lv_iload_n hx hb dX4_whoIsOn_25 rfl (lv_at hl 1 rfl) ?_
          refine lv_iconst (v := 1) hx hb dX4_whoIsOn_26 (by decide) ?_
          refine lv_iload_n hx hb dX4_whoIsOn_27 rfl (lv_at hl 0 rfl) ?_
          refine lv_ishl hx hb dX4_whoIsOn_28 ?_
          refine lv_ior hx hb dX4_whoIsOn_29 ?_
          refine lv_istore_n (lv' := [(2, .int (x8 ||| (1 <<< ((nI j91) &&& 31)))), (3, .int (nI j91)), (0, .ref nw), (1, .int x)]) hx hb dX4_whoIsOn_30 rfl hl (by decide) rfl (fun ls hl => ?_)
          refine lv_iinc (v := (nI (j91 + 1))) (lv' := [(3, .int (nI (j91 + 1))), (2, .int (x8 ||| (1 <<< ((nI j91) &&& 31)))), (0, .ref nw), (1, .int x)]) hx hb dX4_whoIsOn_31 hl (k := 1) rfl (nI_1 j91) (by decide) rfl (fun ls hl => ?_)
          refine lv_goto (tgt := 4) hx hb dX4_whoIsOn_34 (by decide) ?_
          exact ihj91 (j91 + 1) (x8 ||| (1 <<< ((nI j91) &&& 31))) H locs ls (by omega) (by omega)  (hP.sub [0, 1, 2] rfl) (hD.sub [0, 1, 2] (by decide) rfl) hS (lv_sub hl [0, 1, 2, 3] rfl)
  exact lp16 (gl + 1) 0 0 _ _ _ (by omega) (by omega)  hP hD hS (lv_sub hl [0, 1, 2, 3] rfl)

set_option maxHeartbeats 4000000 in
set_option maxRecDepth 100000 in
theorem gc_storesOf (l : Launch) (D : va_G) (y : Nat → ClassId) (nw : Nat) (kk : Nat) (nk : Nat) (nd : Nat) (ne : Nat) (nm : Nat) (nn : Nat) (fi : Nat) (gl : Nat) (un : Nat) (mi : Nat) (no : Nat) (nd : Nat) (nl : Nat) (na : Nat) (ns : Nat) (nst : Int32) (ncl : Int32) (nnu : Int32) (nfs : Nat → Int32) (x : Int32) (hfi : fi ≤ 6) (hgl : gl ≤ 5) (hun : un ≤ 8) (hmi : mi ≤ 4) (hno : no ≤ 6) : kw_Mi l yX4_storesOf wsX4_storesOf ({ frames := 1, cells := 0, slots := 0, locals := 60 }) D y [.ref nw, .int x] [(nw, .inr (4, [.ref kk, .ref nk, .ref nd, .ref ne, .ref nm, .ref nn, .int (nI fi), .int (nI gl), .int (nI un), .int (nI mi), .int (nI no)])), (nd, .inr (1, [.ref nl, .ref na, .ref ns, .int nst, .int ncl, .int nnu])), (ns, .inl (y 0, 5, .inl nfs))] (fun (r : Int32) (u : Unit) => True) (fun _ => [(nw, .inr (4, [.ref kk, .ref nk, .ref nd, .ref ne, .ref nm, .ref nn, .int (nI fi), .int (nI gl), .int (nI un), .int (nI mi), .int (nI no)])), (nd, .inr (1, [.ref nl, .ref na, .ref ns, .int nst, .int ncl, .int nnu])), (ns, .inl (y 0, 5, .inl nfs))]) 0 0 := by
  refine kw_Mi.of (cc := cX4_storesOf) (maxL := 4) (ret := (some .int)) (by decide) rfl ?_
  intro pZ eZ s mZ beZ meZ cZ A hE
  obtain ⟨hx, hb, hr, hml, hts, hown, hlocks, hin, hA, hP, hD, hK, hN⟩ := hE
  have hS : va_S A s.heap s.heap [] := va_S.rf
  have hl := lv_entry ([.ref nw, .int x]) (n := 4) (Nat.le_of_ble_eq_true rfl)
  rw [lg_entry_eq]
  generalize (lg_sl ([.ref nw, .int x]) ++ List.replicate (4 - (lg_sl ([.ref nw, .int x])).length) Slot.unset).toArray = ls at hl ⊢
  have hl : lv_has ls 4 [(0, .ref nw), (1, .int x)] := hl
  have fw1 := hts (.fieldLink RX4 42 "GleanDusk$Parish" "gleaners" "I") (List.mem_of_getElem? (i := 1) rfl)
  have fw2 := hts (.fieldLink RX4 18 "GleanDusk$Parish" "dusk" "LGleanDusk$Dusk;") (List.mem_of_getElem? (i := 2) rfl)
  have fw3 := hts (.fieldLink RX4 83 "GleanDusk$Dusk" "store" "[I") (List.mem_of_getElem? (i := 3) rfl)
  have iw4 : ∀ w ∈ wsX40, w ∈ wsX4_storesOf := fun _ h => List.mem_cons_of_mem _ (List.mem_append_left _ (List.mem_append_right _ h))
  have iw1 : ∀ w ∈ wsX10, w ∈ wsX4_storesOf := fun _ h => List.mem_cons_of_mem _ (List.mem_append_right _ h)
  refine lv_iconst (v := 0) hx hb dX4_storesOf_0 (by decide) ?_
  refine lv_istore_n (lv' := [(2, .int 0), (0, .ref nw), (1, .int x)]) hx hb dX4_storesOf_1 rfl hl (by decide) rfl (fun ls hl => ?_)
  refine lv_iconst (v := 0) hx hb dX4_storesOf_2 (by decide) ?_
  refine lv_istore_n (lv' := [(3, .int 0), (2, .int 0), (0, .ref nw), (1, .int x)]) hx hb dX4_storesOf_3 rfl hl (by decide) rfl (fun ls hl => ?_)
  have lp10 : ∀ (fuj91 j91 : Nat) (x5 : Int32) (H : Heap) (locs : List Loc) (ls : Array Slot), j91 ≤ gl → gl - j91 < fuj91 → va_P D vwCl [(nw, .inr (4, [.ref kk, .ref nk, .ref nd, .ref ne, .ref nm, .ref nn, .int (nI fi), .int (nI gl), .int (nI un), .int (nI mi), .int (nI no)])), (nd, .inr (1, [.ref nl, .ref na, .ref ns, .int nst, .int ncl, .int nnu])), (ns, .inl (y 0, 5, .inl nfs))] H → va_D A [(nw, .inr (4, [.ref kk, .ref nk, .ref nd, .ref ne, .ref nm, .ref nn, .int (nI fi), .int (nI gl), .int (nI un), .int (nI mi), .int (nI no)])), (nd, .inr (1, [.ref nl, .ref na, .ref ns, .int nst, .int ncl, .int nnu])), (ns, .inl (y 0, 5, .inl nfs))] → va_S A s.heap H locs → lv_has ls 4 [(3, .int (nI j91)), (2, .int x5), (0, .ref nw), (1, .int x)] → W pZ l eZ ({ frames := 1, cells := 0, slots := 0, locals := 60 }) s mZ [.ref nw, .int x].toArray beZ meZ cZ H locs 0 0 (MQ beZ (va_Qi (fun (r : Int32) (u : Unit) => True) (kw_B D (fun _ => [(nw, .inr (4, [.ref kk, .ref nk, .ref nd, .ref ne, .ref nm, .ref nn, .int (nI fi), .int (nI gl), .int (nI un), .int (nI mi), .int (nI no)])), (nd, .inr (1, [.ref nl, .ref na, .ref ns, .int nst, .int ncl, .int nnu])), (ns, .inl (y 0, 5, .inl nfs))]) A) A) [.ref nw, .int x].toArray s 0 0 A) (F0 mZ 4 ls []) := by
    intro fuj91
    induction fuj91 with
    | zero => intro j91 x5 H locs ls hj9 hf9; exact absurd hf9 (Nat.not_lt_zero _)
    | succ fuj91 ihj91 =>
      intro j91 x5 H locs ls hj91 hfj91  hP hD hS hl
      refine lv_iload_n hx hb dX4_storesOf_4 rfl (lv_at hl 0 rfl) ?_
      refine lv_aload_n hx hb dX4_storesOf_5 rfl (lv_at hl 2 rfl) ?_
      refine va_get (D := D) (ci := 4) (v := .int (nI gl)) (C := RX4) (T := TX4) (N := 11) hx hb hts iw4 hown hK hP 0 rfl rfl 7 (by decide) fw1 (fun _ h9 => h9) rfl dX4_storesOf_6 ?_
      refine lv_icmp_ge (tgt := 39) hx hb dX4_storesOf_9 (by decide) (fun h11 => ?_) (fun h12 => ?_)
      · skip
        have h11 : gl ≤ j91 := (nI_leI (a := gl) (b := j91) (by omega) (by omega)).mp h11
        refine lv_iload_n hx hb dX4_storesOf_39 rfl (lv_at hl 1 rfl) ?_
        exact W.iret (v := x5) hx hb hr (fun tZ ht hW => ⟨⟨x5, (), rfl, trivial, by rw [ht]; exact hP.sub [0, 1, 2] rfl, hD.sub [0, 1, 2] (by decide) rfl⟩, hS.F ht⟩) hS.2.2 dX4_storesOf_40
      · skip
        have h12 : ¬ gl ≤ j91 := fun q9 => h12 ((nI_leI (a := gl) (b := j91) (by omega) (by omega)).mpr q9)
        refine lv_iload_n hx hb dX4_storesOf_12 rfl (lv_at hl 3 rfl) ?_
        refine lv_iload_n hx hb dX4_storesOf_13 rfl (lv_at hl 0 rfl) ?_
        refine lv_ishr hx hb dX4_storesOf_14 ?_
        refine lv_iconst (v := 1) hx hb dX4_storesOf_15 (by decide) ?_
        refine lv_iand hx hb dX4_storesOf_16 ?_
        refine lv_iconst (v := 1) hx hb dX4_storesOf_17 (by decide) ?_
        refine lv_icmp_ne (tgt := 33) hx hb dX4_storesOf_18 (by decide) (fun h13 => ?_) (fun h14 => ?_)
        · skip
          refine lv_iinc (v := (nI (j91 + 1))) (lv' := [(3, .int (nI (j91 + 1))), (2, .int x5), (0, .ref nw), (1, .int x)]) hx hb dX4_storesOf_33 hl (k := 0) rfl (nI_1 j91) (by decide) rfl (fun ls hl => ?_)
          refine lv_goto (tgt := 4) hx hb dX4_storesOf_36 (by decide) ?_
          exact ihj91 (j91 + 1) x5 H locs ls (by omega) (by omega)  (hP.sub [0, 1, 2] rfl) (hD.sub [0, 1, 2] (by decide) rfl) hS (lv_sub hl [0, 1, 2, 3] rfl)
        · skip
          refine lv_iload_n hx hb dX4_storesOf_21 rfl (lv_at hl 1 rfl) ?_
          refine lv_aload_n hx hb dX4_storesOf_22 rfl (lv_at hl 2 rfl) ?_
          refine va_get (D := D) (ci := 4) (v := .ref nd) (C := RX4) (T := TX4) (N := 11) hx hb hts iw4 hown hK hP 0 rfl rfl 2 (by decide) fw2 (fun _ h9 => h9) rfl dX4_storesOf_23 ?_
          refine va_get (D := D) (ci := 1) (v := .ref ns) (C := RX1) (T := TX1) (N := 6) hx hb hts iw1 hown hK hP 1 rfl rfl 2 (by decide) fw3 (fun _ h9 => h9) rfl dX4_storesOf_26 ?_
          refine lv_iload_n hx hb dX4_storesOf_29 rfl (lv_at hl 0 rfl) ?_
          refine va_iald hx hb hK hP 2 0 rfl rfl (vp_in_nI (by omega) (by decide)) dX4_storesOf_30 ?_
          rw [nI_clamp (n := j91) (by omega)]
          refine lv_iadd hx hb dX4_storesOf_31 ?_
          refine lv_istore_n (lv' := [(2, .int (x5 + (nfs j91))), (3, .int (nI j91)), (0, .ref nw), (1, .int x)]) hx hb dX4_storesOf_32 rfl hl (by decide) rfl (fun ls hl => ?_)
          refine lv_iinc (v := (nI (j91 + 1))) (lv' := [(3, .int (nI (j91 + 1))), (2, .int (x5 + (nfs j91))), (0, .ref nw), (1, .int x)]) hx hb dX4_storesOf_33 hl (k := 1) rfl (nI_1 j91) (by decide) rfl (fun ls hl => ?_)
          refine lv_goto (tgt := 4) hx hb dX4_storesOf_36 (by decide) ?_
          exact ihj91 (j91 + 1) (x5 + (nfs j91)) H locs ls (by omega) (by omega)  (hP.sub [0, 1, 2] rfl) (hD.sub [0, 1, 2] (by decide) rfl) hS (lv_sub hl [0, 1, 2, 3] rfl)
  exact lp10 (gl + 1) 0 0 _ _ _ (by omega) (by omega)  hP hD hS (lv_sub hl [0, 1, 2, 3] rfl)

set_option maxHeartbeats 4000000 in
set_option maxRecDepth 100000 in
theorem gc_Plain_on5 (l : Launch) (D : va_G) (y : Nat → ClassId) (o : Nat) (t : Int32) (l2 : Int32) (c2 : Int32)  : kw_Mi l yX5_sight wsX5_sight ({ frames := 1, cells := 0, slots := 0, locals := 60 }) D y [.ref o, .int t, .int l2, .int c2] [(o, .inr (5, []))] (fun (r : Int32) (u : Unit) => r = (if 0 < ((l2 - (2 * t)) - c2) then ((l2 - (2 * t)) - c2) else 0)) (fun _ => [(o, .inr (5, []))]) 0 0 := by
  refine kw_Mi.of (cc := cX5_sight) (maxL := 4) (ret := (some .int)) (by decide) rfl ?_
  intro pZ eZ s mZ beZ meZ cZ A hE
  obtain ⟨hx, hb, hr, hml, hts, hown, hlocks, hin, hA, hP, hD, hK, hN⟩ := hE
  have hS : va_S A s.heap s.heap [] := va_S.rf
  have hl := lv_entry ([.ref o, .int t, .int l2, .int c2]) (n := 4) (Nat.le_of_ble_eq_true rfl)
  rw [lg_entry_eq]
  generalize (lg_sl ([.ref o, .int t, .int l2, .int c2]) ++ List.replicate (4 - (lg_sl ([.ref o, .int t, .int l2, .int c2])).length) Slot.unset).toArray = ls at hl ⊢
  have hl : lv_has ls 4 [(0, .ref o), (1, .int t), (2, .int l2), (3, .int c2)] := hl
  have fw1 := hts (.methodLink RX5 7 Lib.Math.max.name) (List.mem_of_getElem? (i := 1) rfl)
  have fw2 := hts (.static Lib.Math.max.name) (List.mem_of_getElem? (i := 2) rfl)
  have fw3 := hts (.initialized "java/lang/Math") (List.mem_of_getElem? (i := 3) rfl)
  have fw4 := hts (.code Lib.Math.max.name Lib.Math.max.code 2 (some .int)) (List.mem_of_getElem? (i := 4) rfl)
  refine lv_iconst (v := 0) hx hb dX5_sight_0 (by decide) ?_
  refine lv_iload_n hx hb dX5_sight_1 rfl (lv_at hl 2 rfl) ?_
  refine lv_iconst (v := 2) hx hb dX5_sight_2 (by decide) ?_
  refine lv_iload_n hx hb dX5_sight_3 rfl (lv_at hl 1 rfl) ?_
  refine lv_imul hx hb dX5_sight_4 ?_
  refine lv_isub hx hb dX5_sight_5 ?_
  refine lv_iload_n hx hb dX5_sight_6 rfl (lv_at hl 3 rfl) ?_
  refine lv_isub hx hb dX5_sight_7 ?_
  refine va_mmax hx hb (hml.trans hl.1.symm) hown fw1 fw2 fw3 fw4 (Nat.le_of_ble_eq_true rfl) (Nat.le_of_ble_eq_true rfl) (Nat.le_of_ble_eq_true rfl) (Nat.le_of_ble_eq_true rfl) dX5_sight_8 ?_
  exact W.iret (v := (if 0 < ((l2 - (2 * t)) - c2) then ((l2 - (2 * t)) - c2) else 0)) hx hb hr (fun tZ ht hW => ⟨⟨(if 0 < ((l2 - (2 * t)) - c2) then ((l2 - (2 * t)) - c2) else 0), (), rfl, rfl, by rw [ht]; exact hP.sub [0] rfl, hD.sub [0] (by decide) rfl⟩, hS.F ht⟩) hS.2.2 dX5_sight_11

set_option maxHeartbeats 4000000 in
set_option maxRecDepth 100000 in
theorem gc_Plain_on8 (l : Launch) (D : va_G) (y : Nat → ClassId) (o : Nat) (t : Int32) (l2 : Int32) (c2 : Int32)  : kw_Mi l yX5_sight wsX5_sight ({ frames := 1, cells := 0, slots := 0, locals := 60 }) D y [.ref o, .int t, .int l2, .int c2] [(o, .inr (8, []))] (fun (r : Int32) (u : Unit) => r = (if 0 < ((l2 - (2 * t)) - c2) then ((l2 - (2 * t)) - c2) else 0)) (fun _ => [(o, .inr (8, []))]) 0 0 := by
  refine kw_Mi.of (cc := cX5_sight) (maxL := 4) (ret := (some .int)) (by decide) rfl ?_
  intro pZ eZ s mZ beZ meZ cZ A hE
  obtain ⟨hx, hb, hr, hml, hts, hown, hlocks, hin, hA, hP, hD, hK, hN⟩ := hE
  have hS : va_S A s.heap s.heap [] := va_S.rf
  have hl := lv_entry ([.ref o, .int t, .int l2, .int c2]) (n := 4) (Nat.le_of_ble_eq_true rfl)
  rw [lg_entry_eq]
  generalize (lg_sl ([.ref o, .int t, .int l2, .int c2]) ++ List.replicate (4 - (lg_sl ([.ref o, .int t, .int l2, .int c2])).length) Slot.unset).toArray = ls at hl ⊢
  have hl : lv_has ls 4 [(0, .ref o), (1, .int t), (2, .int l2), (3, .int c2)] := hl
  have fw1 := hts (.methodLink RX5 7 Lib.Math.max.name) (List.mem_of_getElem? (i := 1) rfl)
  have fw2 := hts (.static Lib.Math.max.name) (List.mem_of_getElem? (i := 2) rfl)
  have fw3 := hts (.initialized "java/lang/Math") (List.mem_of_getElem? (i := 3) rfl)
  have fw4 := hts (.code Lib.Math.max.name Lib.Math.max.code 2 (some .int)) (List.mem_of_getElem? (i := 4) rfl)
  refine lv_iconst (v := 0) hx hb dX5_sight_0 (by decide) ?_
  refine lv_iload_n hx hb dX5_sight_1 rfl (lv_at hl 2 rfl) ?_
  refine lv_iconst (v := 2) hx hb dX5_sight_2 (by decide) ?_
  refine lv_iload_n hx hb dX5_sight_3 rfl (lv_at hl 1 rfl) ?_
  refine lv_imul hx hb dX5_sight_4 ?_
  refine lv_isub hx hb dX5_sight_5 ?_
  refine lv_iload_n hx hb dX5_sight_6 rfl (lv_at hl 3 rfl) ?_
  refine lv_isub hx hb dX5_sight_7 ?_
  refine va_mmax hx hb (hml.trans hl.1.symm) hown fw1 fw2 fw3 fw4 (Nat.le_of_ble_eq_true rfl) (Nat.le_of_ble_eq_true rfl) (Nat.le_of_ble_eq_true rfl) (Nat.le_of_ble_eq_true rfl) dX5_sight_8 ?_
  exact W.iret (v := (if 0 < ((l2 - (2 * t)) - c2) then ((l2 - (2 * t)) - c2) else 0)) hx hb hr (fun tZ ht hW => ⟨⟨(if 0 < ((l2 - (2 * t)) - c2) then ((l2 - (2 * t)) - c2) else 0), (), rfl, rfl, by rw [ht]; exact hP.sub [0] rfl, hD.sub [0] (by decide) rfl⟩, hS.F ht⟩) hS.2.2 dX5_sight_11

set_option maxHeartbeats 4000000 in
set_option maxRecDepth 100000 in
theorem gc_Plain_on9 (l : Launch) (D : va_G) (y : Nat → ClassId) (o : Nat) (t : Int32) (l2 : Int32) (c2 : Int32)  : kw_Mi l yX5_sight wsX5_sight ({ frames := 1, cells := 0, slots := 0, locals := 60 }) D y [.ref o, .int t, .int l2, .int c2] [(o, .inr (9, []))] (fun (r : Int32) (u : Unit) => r = (if 0 < ((l2 - (2 * t)) - c2) then ((l2 - (2 * t)) - c2) else 0)) (fun _ => [(o, .inr (9, []))]) 0 0 := by
  refine kw_Mi.of (cc := cX5_sight) (maxL := 4) (ret := (some .int)) (by decide) rfl ?_
  intro pZ eZ s mZ beZ meZ cZ A hE
  obtain ⟨hx, hb, hr, hml, hts, hown, hlocks, hin, hA, hP, hD, hK, hN⟩ := hE
  have hS : va_S A s.heap s.heap [] := va_S.rf
  have hl := lv_entry ([.ref o, .int t, .int l2, .int c2]) (n := 4) (Nat.le_of_ble_eq_true rfl)
  rw [lg_entry_eq]
  generalize (lg_sl ([.ref o, .int t, .int l2, .int c2]) ++ List.replicate (4 - (lg_sl ([.ref o, .int t, .int l2, .int c2])).length) Slot.unset).toArray = ls at hl ⊢
  have hl : lv_has ls 4 [(0, .ref o), (1, .int t), (2, .int l2), (3, .int c2)] := hl
  have fw1 := hts (.methodLink RX5 7 Lib.Math.max.name) (List.mem_of_getElem? (i := 1) rfl)
  have fw2 := hts (.static Lib.Math.max.name) (List.mem_of_getElem? (i := 2) rfl)
  have fw3 := hts (.initialized "java/lang/Math") (List.mem_of_getElem? (i := 3) rfl)
  have fw4 := hts (.code Lib.Math.max.name Lib.Math.max.code 2 (some .int)) (List.mem_of_getElem? (i := 4) rfl)
  refine lv_iconst (v := 0) hx hb dX5_sight_0 (by decide) ?_
  refine lv_iload_n hx hb dX5_sight_1 rfl (lv_at hl 2 rfl) ?_
  refine lv_iconst (v := 2) hx hb dX5_sight_2 (by decide) ?_
  refine lv_iload_n hx hb dX5_sight_3 rfl (lv_at hl 1 rfl) ?_
  refine lv_imul hx hb dX5_sight_4 ?_
  refine lv_isub hx hb dX5_sight_5 ?_
  refine lv_iload_n hx hb dX5_sight_6 rfl (lv_at hl 3 rfl) ?_
  refine lv_isub hx hb dX5_sight_7 ?_
  refine va_mmax hx hb (hml.trans hl.1.symm) hown fw1 fw2 fw3 fw4 (Nat.le_of_ble_eq_true rfl) (Nat.le_of_ble_eq_true rfl) (Nat.le_of_ble_eq_true rfl) (Nat.le_of_ble_eq_true rfl) dX5_sight_8 ?_
  exact W.iret (v := (if 0 < ((l2 - (2 * t)) - c2) then ((l2 - (2 * t)) - c2) else 0)) hx hb hr (fun tZ ht hW => ⟨⟨(if 0 < ((l2 - (2 * t)) - c2) then ((l2 - (2 * t)) - c2) else 0), (), rfl, rfl, by rw [ht]; exact hP.sub [0] rfl, hD.sub [0] (by decide) rfl⟩, hS.F ht⟩) hS.2.2 dX5_sight_11

set_option maxHeartbeats 4000000 in
set_option maxRecDepth 100000 in
theorem gc_Plain_on6 (l : Launch) (D : va_G) (y : Nat → ClassId) (o : Nat) (t : Int32) (l2 : Int32) (c2 : Int32)  : kw_Mi l yX5_sight wsX5_sight ({ frames := 1, cells := 0, slots := 0, locals := 60 }) D y [.ref o, .int t, .int l2, .int c2] [(o, .inr (6, []))] (fun (r : Int32) (u : Unit) => r = (if 0 < ((l2 - (2 * t)) - c2) then ((l2 - (2 * t)) - c2) else 0)) (fun _ => [(o, .inr (6, []))]) 0 0 := by
  refine kw_Mi.of (cc := cX5_sight) (maxL := 4) (ret := (some .int)) (by decide) rfl ?_
  intro pZ eZ s mZ beZ meZ cZ A hE
  obtain ⟨hx, hb, hr, hml, hts, hown, hlocks, hin, hA, hP, hD, hK, hN⟩ := hE
  have hS : va_S A s.heap s.heap [] := va_S.rf
  have hl := lv_entry ([.ref o, .int t, .int l2, .int c2]) (n := 4) (Nat.le_of_ble_eq_true rfl)
  rw [lg_entry_eq]
  generalize (lg_sl ([.ref o, .int t, .int l2, .int c2]) ++ List.replicate (4 - (lg_sl ([.ref o, .int t, .int l2, .int c2])).length) Slot.unset).toArray = ls at hl ⊢
  have hl : lv_has ls 4 [(0, .ref o), (1, .int t), (2, .int l2), (3, .int c2)] := hl
  have fw1 := hts (.methodLink RX5 7 Lib.Math.max.name) (List.mem_of_getElem? (i := 1) rfl)
  have fw2 := hts (.static Lib.Math.max.name) (List.mem_of_getElem? (i := 2) rfl)
  have fw3 := hts (.initialized "java/lang/Math") (List.mem_of_getElem? (i := 3) rfl)
  have fw4 := hts (.code Lib.Math.max.name Lib.Math.max.code 2 (some .int)) (List.mem_of_getElem? (i := 4) rfl)
  refine lv_iconst (v := 0) hx hb dX5_sight_0 (by decide) ?_
  refine lv_iload_n hx hb dX5_sight_1 rfl (lv_at hl 2 rfl) ?_
  refine lv_iconst (v := 2) hx hb dX5_sight_2 (by decide) ?_
  refine lv_iload_n hx hb dX5_sight_3 rfl (lv_at hl 1 rfl) ?_
  refine lv_imul hx hb dX5_sight_4 ?_
  refine lv_isub hx hb dX5_sight_5 ?_
  refine lv_iload_n hx hb dX5_sight_6 rfl (lv_at hl 3 rfl) ?_
  refine lv_isub hx hb dX5_sight_7 ?_
  refine va_mmax hx hb (hml.trans hl.1.symm) hown fw1 fw2 fw3 fw4 (Nat.le_of_ble_eq_true rfl) (Nat.le_of_ble_eq_true rfl) (Nat.le_of_ble_eq_true rfl) (Nat.le_of_ble_eq_true rfl) dX5_sight_8 ?_
  exact W.iret (v := (if 0 < ((l2 - (2 * t)) - c2) then ((l2 - (2 * t)) - c2) else 0)) hx hb hr (fun tZ ht hW => ⟨⟨(if 0 < ((l2 - (2 * t)) - c2) then ((l2 - (2 * t)) - c2) else 0), (), rfl, rfl, by rw [ht]; exact hP.sub [0] rfl, hD.sub [0] (by decide) rfl⟩, hS.F ht⟩) hS.2.2 dX5_sight_11

set_option maxHeartbeats 4000000 in
set_option maxRecDepth 100000 in
theorem gc_Plain_on2 (l : Launch) (D : va_G) (y : Nat → ClassId) (o : Nat) (t : Int32) (l2 : Int32) (c2 : Int32)  : kw_Mi l yX5_sight wsX5_sight ({ frames := 1, cells := 0, slots := 0, locals := 60 }) D y [.ref o, .int t, .int l2, .int c2] [(o, .inr (2, []))] (fun (r : Int32) (u : Unit) => r = (if 0 < ((l2 - (2 * t)) - c2) then ((l2 - (2 * t)) - c2) else 0)) (fun _ => [(o, .inr (2, []))]) 0 0 := by
  refine kw_Mi.of (cc := cX5_sight) (maxL := 4) (ret := (some .int)) (by decide) rfl ?_
  intro pZ eZ s mZ beZ meZ cZ A hE
  obtain ⟨hx, hb, hr, hml, hts, hown, hlocks, hin, hA, hP, hD, hK, hN⟩ := hE
  have hS : va_S A s.heap s.heap [] := va_S.rf
  have hl := lv_entry ([.ref o, .int t, .int l2, .int c2]) (n := 4) (Nat.le_of_ble_eq_true rfl)
  rw [lg_entry_eq]
  generalize (lg_sl ([.ref o, .int t, .int l2, .int c2]) ++ List.replicate (4 - (lg_sl ([.ref o, .int t, .int l2, .int c2])).length) Slot.unset).toArray = ls at hl ⊢
  have hl : lv_has ls 4 [(0, .ref o), (1, .int t), (2, .int l2), (3, .int c2)] := hl
  have fw1 := hts (.methodLink RX5 7 Lib.Math.max.name) (List.mem_of_getElem? (i := 1) rfl)
  have fw2 := hts (.static Lib.Math.max.name) (List.mem_of_getElem? (i := 2) rfl)
  have fw3 := hts (.initialized "java/lang/Math") (List.mem_of_getElem? (i := 3) rfl)
  have fw4 := hts (.code Lib.Math.max.name Lib.Math.max.code 2 (some .int)) (List.mem_of_getElem? (i := 4) rfl)
  refine lv_iconst (v := 0) hx hb dX5_sight_0 (by decide) ?_
  refine lv_iload_n hx hb dX5_sight_1 rfl (lv_at hl 2 rfl) ?_
  refine lv_iconst (v := 2) hx hb dX5_sight_2 (by decide) ?_
  refine lv_iload_n hx hb dX5_sight_3 rfl (lv_at hl 1 rfl) ?_
  refine lv_imul hx hb dX5_sight_4 ?_
  refine lv_isub hx hb dX5_sight_5 ?_
  refine lv_iload_n hx hb dX5_sight_6 rfl (lv_at hl 3 rfl) ?_
  refine lv_isub hx hb dX5_sight_7 ?_
  refine va_mmax hx hb (hml.trans hl.1.symm) hown fw1 fw2 fw3 fw4 (Nat.le_of_ble_eq_true rfl) (Nat.le_of_ble_eq_true rfl) (Nat.le_of_ble_eq_true rfl) (Nat.le_of_ble_eq_true rfl) dX5_sight_8 ?_
  exact W.iret (v := (if 0 < ((l2 - (2 * t)) - c2) then ((l2 - (2 * t)) - c2) else 0)) hx hb hr (fun tZ ht hW => ⟨⟨(if 0 < ((l2 - (2 * t)) - c2) then ((l2 - (2 * t)) - c2) else 0), (), rfl, rfl, by rw [ht]; exact hP.sub [0] rfl, hD.sub [0] (by decide) rfl⟩, hS.F ht⟩) hS.2.2 dX5_sight_11

set_option maxHeartbeats 4000000 in
set_option maxRecDepth 100000 in
theorem gc_Plain_on3 (l : Launch) (D : va_G) (y : Nat → ClassId) (o : Nat) (t : Int32) (l2 : Int32) (c2 : Int32)  : kw_Mi l yX5_sight wsX5_sight ({ frames := 1, cells := 0, slots := 0, locals := 60 }) D y [.ref o, .int t, .int l2, .int c2] [(o, .inr (3, []))] (fun (r : Int32) (u : Unit) => r = (if 0 < ((l2 - (2 * t)) - c2) then ((l2 - (2 * t)) - c2) else 0)) (fun _ => [(o, .inr (3, []))]) 0 0 := by
  refine kw_Mi.of (cc := cX5_sight) (maxL := 4) (ret := (some .int)) (by decide) rfl ?_
  intro pZ eZ s mZ beZ meZ cZ A hE
  obtain ⟨hx, hb, hr, hml, hts, hown, hlocks, hin, hA, hP, hD, hK, hN⟩ := hE
  have hS : va_S A s.heap s.heap [] := va_S.rf
  have hl := lv_entry ([.ref o, .int t, .int l2, .int c2]) (n := 4) (Nat.le_of_ble_eq_true rfl)
  rw [lg_entry_eq]
  generalize (lg_sl ([.ref o, .int t, .int l2, .int c2]) ++ List.replicate (4 - (lg_sl ([.ref o, .int t, .int l2, .int c2])).length) Slot.unset).toArray = ls at hl ⊢
  have hl : lv_has ls 4 [(0, .ref o), (1, .int t), (2, .int l2), (3, .int c2)] := hl
  have fw1 := hts (.methodLink RX5 7 Lib.Math.max.name) (List.mem_of_getElem? (i := 1) rfl)
  have fw2 := hts (.static Lib.Math.max.name) (List.mem_of_getElem? (i := 2) rfl)
  have fw3 := hts (.initialized "java/lang/Math") (List.mem_of_getElem? (i := 3) rfl)
  have fw4 := hts (.code Lib.Math.max.name Lib.Math.max.code 2 (some .int)) (List.mem_of_getElem? (i := 4) rfl)
  refine lv_iconst (v := 0) hx hb dX5_sight_0 (by decide) ?_
  refine lv_iload_n hx hb dX5_sight_1 rfl (lv_at hl 2 rfl) ?_
  refine lv_iconst (v := 2) hx hb dX5_sight_2 (by decide) ?_
  refine lv_iload_n hx hb dX5_sight_3 rfl (lv_at hl 1 rfl) ?_
  refine lv_imul hx hb dX5_sight_4 ?_
  refine lv_isub hx hb dX5_sight_5 ?_
  refine lv_iload_n hx hb dX5_sight_6 rfl (lv_at hl 3 rfl) ?_
  refine lv_isub hx hb dX5_sight_7 ?_
  refine va_mmax hx hb (hml.trans hl.1.symm) hown fw1 fw2 fw3 fw4 (Nat.le_of_ble_eq_true rfl) (Nat.le_of_ble_eq_true rfl) (Nat.le_of_ble_eq_true rfl) (Nat.le_of_ble_eq_true rfl) dX5_sight_8 ?_
  exact W.iret (v := (if 0 < ((l2 - (2 * t)) - c2) then ((l2 - (2 * t)) - c2) else 0)) hx hb hr (fun tZ ht hW => ⟨⟨(if 0 < ((l2 - (2 * t)) - c2) then ((l2 - (2 * t)) - c2) else 0), (), rfl, rfl, by rw [ht]; exact hP.sub [0] rfl, hD.sub [0] (by decide) rfl⟩, hS.F ht⟩) hS.2.2 dX5_sight_11

set_option maxHeartbeats 4000000 in
set_option maxRecDepth 100000 in
theorem gc_West_on8 (l : Launch) (D : va_G) (y : Nat → ClassId) (o : Nat) (t : Int32) (l2 : Int32) (c2 : Int32)  : kw_Mi l yX8_sight wsX8_sight ({ frames := 2, cells := 0, slots := 0, locals := 83 }) D y [.ref o, .int t, .int l2, .int c2] [(o, .inr (8, []))] (fun (r : Int32) (u : Unit) => True) (fun _ => [(o, .inr (8, []))]) 0 0 := by
  refine kw_Mi.of (cc := cX8_sight) (maxL := 5) (ret := (some .int)) (by decide) rfl ?_
  intro pZ eZ s mZ beZ meZ cZ A hE
  obtain ⟨hx, hb, hr, hml, hts, hown, hlocks, hin, hA, hP, hD, hK, hN⟩ := hE
  have hS : va_S A s.heap s.heap [] := va_S.rf
  have hl := lv_entry ([.ref o, .int t, .int l2, .int c2]) (n := 5) (Nat.le_of_ble_eq_true rfl)
  rw [lg_entry_eq]
  generalize (lg_sl ([.ref o, .int t, .int l2, .int c2]) ++ List.replicate (5 - (lg_sl ([.ref o, .int t, .int l2, .int c2])).length) Slot.unset).toArray = ls at hl ⊢
  have hl : lv_has ls 5 [(0, .ref o), (1, .int t), (2, .int l2), (3, .int c2)] := hl
  refine lv_aload_n hx hb dX8_sight_0 rfl (lv_at hl 0 rfl) ?_
  refine lv_iload_n hx hb dX8_sight_1 rfl (lv_at hl 1 rfl) ?_
  refine lv_iload_n hx hb dX8_sight_2 rfl (lv_at hl 2 rfl) ?_
  refine lv_iload_n hx hb dX8_sight_3 rfl (lv_at hl 3 rfl) ?_
  have hs1 : kw_Split [(o, .inr (8, []))] [(o, .inr (8, []))] [] [0] [] := ⟨rfl, rfl, rfl, rfl, rfl, by decide⟩
  refine kw_go_i hs1 hP hD hS hA (va_runSU (As := [.int t, .int l2, .int c2]) (rest := []) (hK.1 8 _ rfl).2 ⟨hx, hb, hml, hown, hts⟩ (gc_Plain_on8 l D y o t l2 c2  _) (va_cwSU 3 hts gX8_sight_X5_sight_s7 rfl rfl rfl (by decide +kernel) ⟨Nat.le_of_ble_eq_true rfl, Nat.le_of_ble_eq_true rfl⟩) (kw_PreV (ci := 8) (q0 := 0) hs1 hP hD hK hN rfl rfl) rfl rfl hl.1 rfl (lv_room (Nat.le_of_ble_eq_true rfl)) dX8_sight_4 ⟨Nat.le_of_ble_eq_true rfl, Nat.le_of_ble_eq_true rfl⟩) (fun r2 u3 H locs hq hP hD hS => ?_)
  obtain rfl := hq
  have hP : va_P D vwCl [(o, .inr (8, []))] H := hP
  have hD : va_D A [(o, .inr (8, []))] := hD
  refine lv_istore (lv' := [(4, .int (if 0 < ((l2 - (2 * t)) - c2) then ((l2 - (2 * t)) - c2) else 0)), (0, .ref o), (1, .int t), (2, .int l2), (3, .int c2)]) hx hb dX8_sight_7 hl (by decide) rfl (fun ls hl => ?_)
  refine lv_iload_n hx hb dX8_sight_9 rfl (lv_at hl 2 rfl) ?_
  refine lv_bipush (v := 6) hx hb dX8_sight_10 (by decide) ?_
  refine lv_icmp_lt (tgt := 27) hx hb dX8_sight_12 (by decide) (fun h4 => ?_) (fun h5 => ?_)
  · skip
    refine lv_iload hx hb dX8_sight_27 (lv_at hl 0 rfl) ?_
    exact W.iret (v := (if 0 < ((l2 - (2 * t)) - c2) then ((l2 - (2 * t)) - c2) else 0)) hx hb hr (fun tZ ht hW => ⟨⟨(if 0 < ((l2 - (2 * t)) - c2) then ((l2 - (2 * t)) - c2) else 0), (), rfl, trivial, by rw [ht]; exact hP.sub [0] rfl, hD.sub [0] (by decide) rfl⟩, hS.F ht⟩) hS.2.2 dX8_sight_29
  · skip
    refine lv_iload_n hx hb dX8_sight_15 rfl (lv_at hl 3 rfl) ?_
    refine lv_iconst (v := 1) hx hb dX8_sight_16 (by decide) ?_
    refine lv_icmp_lt (tgt := 27) hx hb dX8_sight_17 (by decide) (fun h6 => ?_) (fun h7 => ?_)
    · skip
      refine lv_iload hx hb dX8_sight_27 (lv_at hl 0 rfl) ?_
      exact W.iret (v := (if 0 < ((l2 - (2 * t)) - c2) then ((l2 - (2 * t)) - c2) else 0)) hx hb hr (fun tZ ht hW => ⟨⟨(if 0 < ((l2 - (2 * t)) - c2) then ((l2 - (2 * t)) - c2) else 0), (), rfl, trivial, by rw [ht]; exact hP.sub [0] rfl, hD.sub [0] (by decide) rfl⟩, hS.F ht⟩) hS.2.2 dX8_sight_29
    · skip
      refine lv_iload hx hb dX8_sight_20 (lv_at hl 0 rfl) ?_
      refine lv_iload_n hx hb dX8_sight_22 rfl (lv_at hl 2 rfl) ?_
      refine lv_iadd hx hb dX8_sight_23 ?_
      refine lv_goto (tgt := 29) hx hb dX8_sight_24 (by decide) ?_
      exact W.iret (v := ((if 0 < ((l2 - (2 * t)) - c2) then ((l2 - (2 * t)) - c2) else 0) + t)) hx hb hr (fun tZ ht hW => ⟨⟨((if 0 < ((l2 - (2 * t)) - c2) then ((l2 - (2 * t)) - c2) else 0) + t), (), rfl, trivial, by rw [ht]; exact hP.sub [0] rfl, hD.sub [0] (by decide) rfl⟩, hS.F ht⟩) hS.2.2 dX8_sight_29

set_option maxHeartbeats 4000000 in
set_option maxRecDepth 100000 in
theorem gc_West_on2 (l : Launch) (D : va_G) (y : Nat → ClassId) (o : Nat) (t : Int32) (l2 : Int32) (c2 : Int32)  : kw_Mi l yX8_sight wsX8_sight ({ frames := 2, cells := 0, slots := 0, locals := 83 }) D y [.ref o, .int t, .int l2, .int c2] [(o, .inr (2, []))] (fun (r : Int32) (u : Unit) => True) (fun _ => [(o, .inr (2, []))]) 0 0 := by
  refine kw_Mi.of (cc := cX8_sight) (maxL := 5) (ret := (some .int)) (by decide) rfl ?_
  intro pZ eZ s mZ beZ meZ cZ A hE
  obtain ⟨hx, hb, hr, hml, hts, hown, hlocks, hin, hA, hP, hD, hK, hN⟩ := hE
  have hS : va_S A s.heap s.heap [] := va_S.rf
  have hl := lv_entry ([.ref o, .int t, .int l2, .int c2]) (n := 5) (Nat.le_of_ble_eq_true rfl)
  rw [lg_entry_eq]
  generalize (lg_sl ([.ref o, .int t, .int l2, .int c2]) ++ List.replicate (5 - (lg_sl ([.ref o, .int t, .int l2, .int c2])).length) Slot.unset).toArray = ls at hl ⊢
  have hl : lv_has ls 5 [(0, .ref o), (1, .int t), (2, .int l2), (3, .int c2)] := hl
  refine lv_aload_n hx hb dX8_sight_0 rfl (lv_at hl 0 rfl) ?_
  refine lv_iload_n hx hb dX8_sight_1 rfl (lv_at hl 1 rfl) ?_
  refine lv_iload_n hx hb dX8_sight_2 rfl (lv_at hl 2 rfl) ?_
  refine lv_iload_n hx hb dX8_sight_3 rfl (lv_at hl 3 rfl) ?_
  have hs1 : kw_Split [(o, .inr (2, []))] [(o, .inr (2, []))] [] [0] [] := ⟨rfl, rfl, rfl, rfl, rfl, by decide⟩
  refine kw_go_i hs1 hP hD hS hA (va_runSU (As := [.int t, .int l2, .int c2]) (rest := []) (hK.1 2 _ rfl).2 ⟨hx, hb, hml, hown, hts⟩ (gc_Plain_on2 l D y o t l2 c2  _) (va_cwSU 3 hts gX8_sight_X5_sight_s7 rfl rfl rfl (by decide +kernel) ⟨Nat.le_of_ble_eq_true rfl, Nat.le_of_ble_eq_true rfl⟩) (kw_PreV (ci := 2) (q0 := 0) hs1 hP hD hK hN rfl rfl) rfl rfl hl.1 rfl (lv_room (Nat.le_of_ble_eq_true rfl)) dX8_sight_4 ⟨Nat.le_of_ble_eq_true rfl, Nat.le_of_ble_eq_true rfl⟩) (fun r2 u3 H locs hq hP hD hS => ?_)
  obtain rfl := hq
  have hP : va_P D vwCl [(o, .inr (2, []))] H := hP
  have hD : va_D A [(o, .inr (2, []))] := hD
  refine lv_istore (lv' := [(4, .int (if 0 < ((l2 - (2 * t)) - c2) then ((l2 - (2 * t)) - c2) else 0)), (0, .ref o), (1, .int t), (2, .int l2), (3, .int c2)]) hx hb dX8_sight_7 hl (by decide) rfl (fun ls hl => ?_)
  refine lv_iload_n hx hb dX8_sight_9 rfl (lv_at hl 2 rfl) ?_
  refine lv_bipush (v := 6) hx hb dX8_sight_10 (by decide) ?_
  refine lv_icmp_lt (tgt := 27) hx hb dX8_sight_12 (by decide) (fun h4 => ?_) (fun h5 => ?_)
  · skip
    refine lv_iload hx hb dX8_sight_27 (lv_at hl 0 rfl) ?_
    exact W.iret (v := (if 0 < ((l2 - (2 * t)) - c2) then ((l2 - (2 * t)) - c2) else 0)) hx hb hr (fun tZ ht hW => ⟨⟨(if 0 < ((l2 - (2 * t)) - c2) then ((l2 - (2 * t)) - c2) else 0), (), rfl, trivial, by rw [ht]; exact hP.sub [0] rfl, hD.sub [0] (by decide) rfl⟩, hS.F ht⟩) hS.2.2 dX8_sight_29
  · skip
    refine lv_iload_n hx hb dX8_sight_15 rfl (lv_at hl 3 rfl) ?_
    refine lv_iconst (v := 1) hx hb dX8_sight_16 (by decide) ?_
    refine lv_icmp_lt (tgt := 27) hx hb dX8_sight_17 (by decide) (fun h6 => ?_) (fun h7 => ?_)
    · skip
      refine lv_iload hx hb dX8_sight_27 (lv_at hl 0 rfl) ?_
      exact W.iret (v := (if 0 < ((l2 - (2 * t)) - c2) then ((l2 - (2 * t)) - c2) else 0)) hx hb hr (fun tZ ht hW => ⟨⟨(if 0 < ((l2 - (2 * t)) - c2) then ((l2 - (2 * t)) - c2) else 0), (), rfl, trivial, by rw [ht]; exact hP.sub [0] rfl, hD.sub [0] (by decide) rfl⟩, hS.F ht⟩) hS.2.2 dX8_sight_29
    · skip
      refine lv_iload hx hb dX8_sight_20 (lv_at hl 0 rfl) ?_
      refine lv_iload_n hx hb dX8_sight_22 rfl (lv_at hl 2 rfl) ?_
      refine lv_iadd hx hb dX8_sight_23 ?_
      refine lv_goto (tgt := 29) hx hb dX8_sight_24 (by decide) ?_
      exact W.iret (v := ((if 0 < ((l2 - (2 * t)) - c2) then ((l2 - (2 * t)) - c2) else 0) + t)) hx hb hr (fun tZ ht hW => ⟨⟨((if 0 < ((l2 - (2 * t)) - c2) then ((l2 - (2 * t)) - c2) else 0) + t), (), rfl, trivial, by rw [ht]; exact hP.sub [0] rfl, hD.sub [0] (by decide) rfl⟩, hS.F ht⟩) hS.2.2 dX8_sight_29

set_option maxHeartbeats 4000000 in
set_option maxRecDepth 100000 in
theorem gc_Wood_on9 (l : Launch) (D : va_G) (y : Nat → ClassId) (o : Nat) (t : Int32) (l2 : Int32) (c2 : Int32)  : kw_Mi l yX9_sight wsX9_sight ({ frames := 2, cells := 0, slots := 0, locals := 83 }) D y [.ref o, .int t, .int l2, .int c2] [(o, .inr (9, []))] (fun (r : Int32) (u : Unit) => r = ((if 0 < ((l2 - (2 * t)) - c2) then ((l2 - (2 * t)) - c2) else 0) / 2)) (fun _ => [(o, .inr (9, []))]) 0 0 := by
  refine kw_Mi.of (cc := cX9_sight) (maxL := 4) (ret := (some .int)) (by decide) rfl ?_
  intro pZ eZ s mZ beZ meZ cZ A hE
  obtain ⟨hx, hb, hr, hml, hts, hown, hlocks, hin, hA, hP, hD, hK, hN⟩ := hE
  have hS : va_S A s.heap s.heap [] := va_S.rf
  have hl := lv_entry ([.ref o, .int t, .int l2, .int c2]) (n := 4) (Nat.le_of_ble_eq_true rfl)
  rw [lg_entry_eq]
  generalize (lg_sl ([.ref o, .int t, .int l2, .int c2]) ++ List.replicate (4 - (lg_sl ([.ref o, .int t, .int l2, .int c2])).length) Slot.unset).toArray = ls at hl ⊢
  have hl : lv_has ls 4 [(0, .ref o), (1, .int t), (2, .int l2), (3, .int c2)] := hl
  refine lv_aload_n hx hb dX9_sight_0 rfl (lv_at hl 0 rfl) ?_
  refine lv_iload_n hx hb dX9_sight_1 rfl (lv_at hl 1 rfl) ?_
  refine lv_iload_n hx hb dX9_sight_2 rfl (lv_at hl 2 rfl) ?_
  refine lv_iload_n hx hb dX9_sight_3 rfl (lv_at hl 3 rfl) ?_
  have hs1 : kw_Split [(o, .inr (9, []))] [(o, .inr (9, []))] [] [0] [] := ⟨rfl, rfl, rfl, rfl, rfl, by decide⟩
  refine kw_go_i hs1 hP hD hS hA (va_runSU (As := [.int t, .int l2, .int c2]) (rest := []) (hK.1 9 _ rfl).2 ⟨hx, hb, hml, hown, hts⟩ (gc_Plain_on9 l D y o t l2 c2  _) (va_cwSU 3 hts gX9_sight_X5_sight_s7 rfl rfl rfl (by decide +kernel) ⟨Nat.le_of_ble_eq_true rfl, Nat.le_of_ble_eq_true rfl⟩) (kw_PreV (ci := 9) (q0 := 0) hs1 hP hD hK hN rfl rfl) rfl rfl hl.1 rfl (lv_room (Nat.le_of_ble_eq_true rfl)) dX9_sight_4 ⟨Nat.le_of_ble_eq_true rfl, Nat.le_of_ble_eq_true rfl⟩) (fun r2 u3 H locs hq hP hD hS => ?_)
  obtain rfl := hq
  have hP : va_P D vwCl [(o, .inr (9, []))] H := hP
  have hD : va_D A [(o, .inr (9, []))] := hD
  refine lv_iconst (v := 2) hx hb dX9_sight_7 (by decide) ?_
  refine lv_idiv hx hb dX9_sight_8 (by decide) ?_
  exact W.iret (v := ((if 0 < ((l2 - (2 * t)) - c2) then ((l2 - (2 * t)) - c2) else 0) / 2)) hx hb hr (fun tZ ht hW => ⟨⟨((if 0 < ((l2 - (2 * t)) - c2) then ((l2 - (2 * t)) - c2) else 0) / 2), (), rfl, rfl, by rw [ht]; exact hP.sub [0] rfl, hD.sub [0] (by decide) rfl⟩, hS.F ht⟩) hS.2.2 dX9_sight_9

set_option maxHeartbeats 4000000 in
set_option maxRecDepth 100000 in
theorem gc_Wood_on3 (l : Launch) (D : va_G) (y : Nat → ClassId) (o : Nat) (t : Int32) (l2 : Int32) (c2 : Int32)  : kw_Mi l yX9_sight wsX9_sight ({ frames := 2, cells := 0, slots := 0, locals := 83 }) D y [.ref o, .int t, .int l2, .int c2] [(o, .inr (3, []))] (fun (r : Int32) (u : Unit) => r = ((if 0 < ((l2 - (2 * t)) - c2) then ((l2 - (2 * t)) - c2) else 0) / 2)) (fun _ => [(o, .inr (3, []))]) 0 0 := by
  refine kw_Mi.of (cc := cX9_sight) (maxL := 4) (ret := (some .int)) (by decide) rfl ?_
  intro pZ eZ s mZ beZ meZ cZ A hE
  obtain ⟨hx, hb, hr, hml, hts, hown, hlocks, hin, hA, hP, hD, hK, hN⟩ := hE
  have hS : va_S A s.heap s.heap [] := va_S.rf
  have hl := lv_entry ([.ref o, .int t, .int l2, .int c2]) (n := 4) (Nat.le_of_ble_eq_true rfl)
  rw [lg_entry_eq]
  generalize (lg_sl ([.ref o, .int t, .int l2, .int c2]) ++ List.replicate (4 - (lg_sl ([.ref o, .int t, .int l2, .int c2])).length) Slot.unset).toArray = ls at hl ⊢
  have hl : lv_has ls 4 [(0, .ref o), (1, .int t), (2, .int l2), (3, .int c2)] := hl
  refine lv_aload_n hx hb dX9_sight_0 rfl (lv_at hl 0 rfl) ?_
  refine lv_iload_n hx hb dX9_sight_1 rfl (lv_at hl 1 rfl) ?_
  refine lv_iload_n hx hb dX9_sight_2 rfl (lv_at hl 2 rfl) ?_
  refine lv_iload_n hx hb dX9_sight_3 rfl (lv_at hl 3 rfl) ?_
  have hs1 : kw_Split [(o, .inr (3, []))] [(o, .inr (3, []))] [] [0] [] := ⟨rfl, rfl, rfl, rfl, rfl, by decide⟩
  refine kw_go_i hs1 hP hD hS hA (va_runSU (As := [.int t, .int l2, .int c2]) (rest := []) (hK.1 3 _ rfl).2 ⟨hx, hb, hml, hown, hts⟩ (gc_Plain_on3 l D y o t l2 c2  _) (va_cwSU 3 hts gX9_sight_X5_sight_s7 rfl rfl rfl (by decide +kernel) ⟨Nat.le_of_ble_eq_true rfl, Nat.le_of_ble_eq_true rfl⟩) (kw_PreV (ci := 3) (q0 := 0) hs1 hP hD hK hN rfl rfl) rfl rfl hl.1 rfl (lv_room (Nat.le_of_ble_eq_true rfl)) dX9_sight_4 ⟨Nat.le_of_ble_eq_true rfl, Nat.le_of_ble_eq_true rfl⟩) (fun r2 u3 H locs hq hP hD hS => ?_)
  obtain rfl := hq
  have hP : va_P D vwCl [(o, .inr (3, []))] H := hP
  have hD : va_D A [(o, .inr (3, []))] := hD
  refine lv_iconst (v := 2) hx hb dX9_sight_7 (by decide) ?_
  refine lv_idiv hx hb dX9_sight_8 (by decide) ?_
  exact W.iret (v := ((if 0 < ((l2 - (2 * t)) - c2) then ((l2 - (2 * t)) - c2) else 0) / 2)) hx hb hr (fun tZ ht hW => ⟨⟨((if 0 < ((l2 - (2 * t)) - c2) then ((l2 - (2 * t)) - c2) else 0) / 2), (), rfl, rfl, by rw [ht]; exact hP.sub [0] rfl, hD.sub [0] (by decide) rfl⟩, hS.F ht⟩) hS.2.2 dX9_sight_9

set_option maxHeartbeats 4000000 in
set_option maxRecDepth 100000 in
theorem gc_Puddle_on6 (l : Launch) (D : va_G) (y : Nat → ClassId) (o : Nat) (t : Int32) (l2 : Int32) (c2 : Int32)  : kw_Mi l yX6_sight wsX6_sight ({ frames := 2, cells := 0, slots := 0, locals := 83 }) D y [.ref o, .int t, .int l2, .int c2] [(o, .inr (6, []))] (fun (r : Int32) (u : Unit) => r = (if ((if 0 < ((l2 - (2 * t)) - c2) then ((l2 - (2 * t)) - c2) else 0) + c2) < l2 then ((if 0 < ((l2 - (2 * t)) - c2) then ((l2 - (2 * t)) - c2) else 0) + c2) else l2)) (fun _ => [(o, .inr (6, []))]) 0 0 := by
  refine kw_Mi.of (cc := cX6_sight) (maxL := 4) (ret := (some .int)) (by decide) rfl ?_
  intro pZ eZ s mZ beZ meZ cZ A hE
  obtain ⟨hx, hb, hr, hml, hts, hown, hlocks, hin, hA, hP, hD, hK, hN⟩ := hE
  have hS : va_S A s.heap s.heap [] := va_S.rf
  have hl := lv_entry ([.ref o, .int t, .int l2, .int c2]) (n := 4) (Nat.le_of_ble_eq_true rfl)
  rw [lg_entry_eq]
  generalize (lg_sl ([.ref o, .int t, .int l2, .int c2]) ++ List.replicate (4 - (lg_sl ([.ref o, .int t, .int l2, .int c2])).length) Slot.unset).toArray = ls at hl ⊢
  have hl : lv_has ls 4 [(0, .ref o), (1, .int t), (2, .int l2), (3, .int c2)] := hl
  have fw1 := hts (.methodLink RX6 11 Lib.Math.min.name) (List.mem_of_getElem? (i := 1) rfl)
  have fw2 := hts (.static Lib.Math.min.name) (List.mem_of_getElem? (i := 2) rfl)
  have fw3 := hts (.initialized "java/lang/Math") (List.mem_of_getElem? (i := 3) rfl)
  have fw4 := hts (.code Lib.Math.min.name Lib.Math.min.code 2 (some .int)) (List.mem_of_getElem? (i := 4) rfl)
  refine lv_iload_n hx hb dX6_sight_0 rfl (lv_at hl 2 rfl) ?_
  refine lv_aload_n hx hb dX6_sight_1 rfl (lv_at hl 0 rfl) ?_
  refine lv_iload_n hx hb dX6_sight_2 rfl (lv_at hl 1 rfl) ?_
  refine lv_iload_n hx hb dX6_sight_3 rfl (lv_at hl 2 rfl) ?_
  refine lv_iload_n hx hb dX6_sight_4 rfl (lv_at hl 3 rfl) ?_
  have hs1 : kw_Split [(o, .inr (6, []))] [(o, .inr (6, []))] [] [0] [] := ⟨rfl, rfl, rfl, rfl, rfl, by decide⟩
  refine kw_go_i hs1 hP hD hS hA (va_runSU (As := [.int t, .int l2, .int c2]) (rest := [.int l2]) (hK.1 6 _ rfl).2 ⟨hx, hb, hml, hown, hts⟩ (gc_Plain_on6 l D y o t l2 c2  _) (va_cwSU 3 hts gX6_sight_X5_sight_s7 rfl rfl rfl (by decide +kernel) ⟨Nat.le_of_ble_eq_true rfl, Nat.le_of_ble_eq_true rfl⟩) (kw_PreV (ci := 6) (q0 := 0) hs1 hP hD hK hN rfl rfl) rfl rfl hl.1 rfl (lv_room (Nat.le_of_ble_eq_true rfl)) dX6_sight_5 ⟨Nat.le_of_ble_eq_true rfl, Nat.le_of_ble_eq_true rfl⟩) (fun r2 u3 H locs hq hP hD hS => ?_)
  obtain rfl := hq
  have hP : va_P D vwCl [(o, .inr (6, []))] H := hP
  have hD : va_D A [(o, .inr (6, []))] := hD
  refine lv_iload_n hx hb dX6_sight_8 rfl (lv_at hl 3 rfl) ?_
  refine lv_iadd hx hb dX6_sight_9 ?_
  refine va_mmin hx hb (hml.trans hl.1.symm) hown fw1 fw2 fw3 fw4 (Nat.le_of_ble_eq_true rfl) (Nat.le_of_ble_eq_true rfl) (Nat.le_of_ble_eq_true rfl) (Nat.le_of_ble_eq_true rfl) dX6_sight_10 ?_
  exact W.iret (v := (if ((if 0 < ((l2 - (2 * t)) - c2) then ((l2 - (2 * t)) - c2) else 0) + c2) < l2 then ((if 0 < ((l2 - (2 * t)) - c2) then ((l2 - (2 * t)) - c2) else 0) + c2) else l2)) hx hb hr (fun tZ ht hW => ⟨⟨(if ((if 0 < ((l2 - (2 * t)) - c2) then ((l2 - (2 * t)) - c2) else 0) + c2) < l2 then ((if 0 < ((l2 - (2 * t)) - c2) then ((l2 - (2 * t)) - c2) else 0) + c2) else l2), (), rfl, rfl, by rw [ht]; exact hP.sub [0] rfl, hD.sub [0] (by decide) rfl⟩, hS.F ht⟩) hS.2.2 dX6_sight_13

set_option maxHeartbeats 4000000 in
set_option maxRecDepth 100000 in
theorem gc_Hill_on2 (l : Launch) (D : va_G) (y : Nat → ClassId) (o : Nat) (t : Int32) (l2 : Int32) (c2 : Int32)  : kw_Mi l yX2_sight wsX2_sight ({ frames := 3, cells := 0, slots := 0, locals := 107 }) D y [.ref o, .int t, .int l2, .int c2] [(o, .inr (2, []))] (fun (r : Int32) (u : Unit) => True) (fun _ => [(o, .inr (2, []))]) 0 0 := by
  refine kw_Mi.of (cc := cX2_sight) (maxL := 4) (ret := (some .int)) (by decide) rfl ?_
  intro pZ eZ s mZ beZ meZ cZ A hE
  obtain ⟨hx, hb, hr, hml, hts, hown, hlocks, hin, hA, hP, hD, hK, hN⟩ := hE
  have hS : va_S A s.heap s.heap [] := va_S.rf
  have hl := lv_entry ([.ref o, .int t, .int l2, .int c2]) (n := 4) (Nat.le_of_ble_eq_true rfl)
  rw [lg_entry_eq]
  generalize (lg_sl ([.ref o, .int t, .int l2, .int c2]) ++ List.replicate (4 - (lg_sl ([.ref o, .int t, .int l2, .int c2])).length) Slot.unset).toArray = ls at hl ⊢
  have hl : lv_has ls 4 [(0, .ref o), (1, .int t), (2, .int l2), (3, .int c2)] := hl
  have fw1 := hts (.methodLink RX2 7 Lib.Math.max.name) (List.mem_of_getElem? (i := 1) rfl)
  have fw2 := hts (.static Lib.Math.max.name) (List.mem_of_getElem? (i := 2) rfl)
  have fw3 := hts (.initialized "java/lang/Math") (List.mem_of_getElem? (i := 3) rfl)
  have fw4 := hts (.code Lib.Math.max.name Lib.Math.max.code 2 (some .int)) (List.mem_of_getElem? (i := 4) rfl)
  refine lv_aload_n hx hb dX2_sight_0 rfl (lv_at hl 0 rfl) ?_
  refine lv_iload_n hx hb dX2_sight_1 rfl (lv_at hl 1 rfl) ?_
  refine lv_iload_n hx hb dX2_sight_2 rfl (lv_at hl 2 rfl) ?_
  refine lv_iconst (v := 0) hx hb dX2_sight_3 (by decide) ?_
  refine lv_iload_n hx hb dX2_sight_4 rfl (lv_at hl 3 rfl) ?_
  refine lv_iconst (v := 3) hx hb dX2_sight_5 (by decide) ?_
  refine lv_isub hx hb dX2_sight_6 ?_
  refine va_mmax hx hb (hml.trans hl.1.symm) hown fw1 fw2 fw3 fw4 (Nat.le_of_ble_eq_true rfl) (Nat.le_of_ble_eq_true rfl) (Nat.le_of_ble_eq_true rfl) (Nat.le_of_ble_eq_true rfl) dX2_sight_7 ?_
  have hs1 : kw_Split [(o, .inr (2, []))] [(o, .inr (2, []))] [] [0] [] := ⟨rfl, rfl, rfl, rfl, rfl, by decide⟩
  refine kw_go_i hs1 hP hD hS hA (va_runSU (As := [.int t, .int l2, .int (if 0 < (c2 - 3) then (c2 - 3) else 0)]) (rest := []) (hK.1 2 _ rfl).2 ⟨hx, hb, hml, hown, hts⟩ (gc_West_on2 l D y o t l2 (if 0 < (c2 - 3) then (c2 - 3) else 0)  _) (va_cwSU 3 hts gX2_sight_X8_sight_s13 rfl rfl rfl (by decide +kernel) ⟨Nat.le_of_ble_eq_true rfl, Nat.le_of_ble_eq_true rfl⟩) (kw_PreV (ci := 2) (q0 := 0) hs1 hP hD hK hN rfl rfl) rfl rfl hl.1 rfl (lv_room (Nat.le_of_ble_eq_true rfl)) dX2_sight_10 ⟨Nat.le_of_ble_eq_true rfl, Nat.le_of_ble_eq_true rfl⟩) (fun r2 u3 H locs hq hP hD hS => ?_)
  have hP : va_P D vwCl [(o, .inr (2, []))] H := hP
  have hD : va_D A [(o, .inr (2, []))] := hD
  exact W.iret (v := r2) hx hb hr (fun tZ ht hW => ⟨⟨r2, (), rfl, trivial, by rw [ht]; exact hP.sub [0] rfl, hD.sub [0] (by decide) rfl⟩, hS.F ht⟩) hS.2.2 dX2_sight_13

set_option maxHeartbeats 4000000 in
set_option maxRecDepth 100000 in
theorem gc_Lane_on3 (l : Launch) (D : va_G) (y : Nat → ClassId) (o : Nat) (t : Int32) (l2 : Int32) (c2 : Int32)  : kw_Mi l yX3_sight wsX3_sight ({ frames := 3, cells := 0, slots := 0, locals := 106 }) D y [.ref o, .int t, .int l2, .int c2] [(o, .inr (3, []))] (fun (r : Int32) (u : Unit) => True) (fun _ => [(o, .inr (3, []))]) 0 0 := by
  refine kw_Mi.of (cc := cX3_sight) (maxL := 4) (ret := (some .int)) (by decide) rfl ?_
  intro pZ eZ s mZ beZ meZ cZ A hE
  obtain ⟨hx, hb, hr, hml, hts, hown, hlocks, hin, hA, hP, hD, hK, hN⟩ := hE
  have hS : va_S A s.heap s.heap [] := va_S.rf
  have hl := lv_entry ([.ref o, .int t, .int l2, .int c2]) (n := 4) (Nat.le_of_ble_eq_true rfl)
  rw [lg_entry_eq]
  generalize (lg_sl ([.ref o, .int t, .int l2, .int c2]) ++ List.replicate (4 - (lg_sl ([.ref o, .int t, .int l2, .int c2])).length) Slot.unset).toArray = ls at hl ⊢
  have hl : lv_has ls 4 [(0, .ref o), (1, .int t), (2, .int l2), (3, .int c2)] := hl
  refine lv_iload_n hx hb dX3_sight_0 rfl (lv_at hl 1 rfl) ?_
  refine lv_bipush (v := 8) hx hb dX3_sight_1 (by decide) ?_
  refine lv_icmp_lt (tgt := 10) hx hb dX3_sight_3 (by decide) (fun h1 => ?_) (fun h2 => ?_)
  · skip
    refine lv_aload_n hx hb dX3_sight_10 rfl (lv_at hl 0 rfl) ?_
    refine lv_iload_n hx hb dX3_sight_11 rfl (lv_at hl 1 rfl) ?_
    refine lv_iload_n hx hb dX3_sight_12 rfl (lv_at hl 2 rfl) ?_
    refine lv_iload_n hx hb dX3_sight_13 rfl (lv_at hl 3 rfl) ?_
    have hs3 : kw_Split [(o, .inr (3, []))] [(o, .inr (3, []))] [] [0] [] := ⟨rfl, rfl, rfl, rfl, rfl, by decide⟩
    refine kw_go_i hs3 hP hD hS hA (va_runSU (As := [.int t, .int l2, .int c2]) (rest := []) (hK.1 3 _ rfl).2 ⟨hx, hb, hml, hown, hts⟩ (gc_Wood_on3 l D y o t l2 c2  _) (va_cwSU 3 hts gX3_sight_X9_sight_s7 rfl rfl rfl (by decide +kernel) ⟨Nat.le_of_ble_eq_true rfl, Nat.le_of_ble_eq_true rfl⟩) (kw_PreV (ci := 3) (q0 := 0) hs3 hP hD hK hN rfl rfl) rfl rfl hl.1 rfl (lv_room (Nat.le_of_ble_eq_true rfl)) dX3_sight_14 ⟨Nat.le_of_ble_eq_true rfl, Nat.le_of_ble_eq_true rfl⟩) (fun r4 u5 H locs hq hP hD hS => ?_)
    obtain rfl := hq
    have hP : va_P D vwCl [(o, .inr (3, []))] H := hP
    have hD : va_D A [(o, .inr (3, []))] := hD
    exact W.iret (v := ((if 0 < ((l2 - (2 * t)) - c2) then ((l2 - (2 * t)) - c2) else 0) / 2)) hx hb hr (fun tZ ht hW => ⟨⟨((if 0 < ((l2 - (2 * t)) - c2) then ((l2 - (2 * t)) - c2) else 0) / 2), (), rfl, trivial, by rw [ht]; exact hP.sub [0] rfl, hD.sub [0] (by decide) rfl⟩, hS.F ht⟩) hS.2.2 dX3_sight_17
  · skip
    refine lv_iconst (v := 0) hx hb dX3_sight_6 (by decide) ?_
    refine lv_goto (tgt := 17) hx hb dX3_sight_7 (by decide) ?_
    exact W.iret (v := 0) hx hb hr (fun tZ ht hW => ⟨⟨0, (), rfl, trivial, by rw [ht]; exact hP.sub [0] rfl, hD.sub [0] (by decide) rfl⟩, hS.F ht⟩) hS.2.2 dX3_sight_17

set_option maxHeartbeats 4000000 in
set_option maxRecDepth 100000 in
theorem gc_shows (l : Launch) (D : va_G) (y : Nat → ClassId) (nw : Nat) (kk : Nat) (nk : Nat) (nd : Nat) (ne : Nat) (nm : Nat) (nn : Nat) (fi : Nat) (gl : Nat) (un : Nat) (mi : Nat) (no : Nat) (d : Nat) (dl : Nat) (da : Nat) (ds : Nat) (dst : Int32) (dcl : Int32) (dnu : Int32) (dfl : Nat → Int32) (fk : Nat → Int32) (k0 : Nat) (k1 : Nat) (k2 : Nat) (k3 : Nat) (k4 : Nat) (k5 : Nat) (fq : Nat → Option Nat) (k : Nat) (t : Int32) (hfi : fi ≤ 6) (hgl : gl ≤ 5) (hun : un ≤ 8) (hmi : mi ≤ 4) (hno : no ≤ 6) (hk : kw_bd 6 6 fk) (hq0 : fq 0 = some k0) (hq1 : fq 1 = some k1) (hq2 : fq 2 = some k2) (hq3 : fq 3 = some k3) (hq4 : fq 4 = some k4) (hq5 : fq 5 = some k5) (hkk : k < 6) : kw_Mi l yX4_shows wsX4_shows ({ frames := 4, cells := 0, slots := 0, locals := 130 }) D y [.ref nw, .ref d, .int (nI k), .int t] [(nw, .inr (4, [.ref kk, .ref nk, .ref nd, .ref ne, .ref nm, .ref nn, .int (nI fi), .int (nI gl), .int (nI un), .int (nI mi), .int (nI no)])), (nk, .inl (y 0, 6, .inl fk)), (d, .inr (1, [.ref dl, .ref da, .ref ds, .int dst, .int dcl, .int dnu])), (dl, .inl (y 0, 6, .inl dfl)), (kk, .inl (y 5, 6, .inr (.inr (.inr (.inr fq))))), (k0, .inr (5, [])), (k1, .inr (8, [])), (k2, .inr (9, [])), (k3, .inr (6, [])), (k4, .inr (2, [])), (k5, .inr (3, []))] (fun (r : Int32) (u : Unit) => True) (fun _ => [(nw, .inr (4, [.ref kk, .ref nk, .ref nd, .ref ne, .ref nm, .ref nn, .int (nI fi), .int (nI gl), .int (nI un), .int (nI mi), .int (nI no)])), (nk, .inl (y 0, 6, .inl fk)), (d, .inr (1, [.ref dl, .ref da, .ref ds, .int dst, .int dcl, .int dnu])), (dl, .inl (y 0, 6, .inl dfl)), (kk, .inl (y 5, 6, .inr (.inr (.inr (.inr fq))))), (k0, .inr (5, [])), (k1, .inr (8, [])), (k2, .inr (9, [])), (k3, .inr (6, [])), (k4, .inr (2, [])), (k5, .inr (3, []))]) 0 0 := by
  refine kw_Mi.of (cc := cX4_shows) (maxL := 4) (ret := (some .int)) (by decide) rfl ?_
  intro pZ eZ s mZ beZ meZ cZ A hE
  obtain ⟨hx, hb, hr, hml, hts, hown, hlocks, hin, hA, hP, hD, hK, hN⟩ := hE
  have hS : va_S A s.heap s.heap [] := va_S.rf
  have hl := lv_entry ([.ref nw, .ref d, .int (nI k), .int t]) (n := 4) (Nat.le_of_ble_eq_true rfl)
  rw [lg_entry_eq]
  generalize (lg_sl ([.ref nw, .ref d, .int (nI k), .int t]) ++ List.replicate (4 - (lg_sl ([.ref nw, .ref d, .int (nI k), .int t])).length) Slot.unset).toArray = ls at hl ⊢
  have hl : lv_has ls 4 [(0, .ref nw), (1, .ref d), (2, .int (nI k)), (3, .int t)] := hl
  have fw1 := hts (.fieldLink RX4 34 "GleanDusk$Parish" "kinds" "[LGleanDusk$Plain;") (List.mem_of_getElem? (i := 1) rfl)
  have fw2 := hts (.fieldLink RX4 9 "GleanDusk$Parish" "kind" "[I") (List.mem_of_getElem? (i := 2) rfl)
  have fw3 := hts (.fieldLink RX4 77 "GleanDusk$Dusk" "light" "[I") (List.mem_of_getElem? (i := 3) rfl)
  have fw4 := hts (.fieldLink RX4 57 "GleanDusk$Dusk" "cloud" "I") (List.mem_of_getElem? (i := 4) rfl)
  have iw4 : ∀ w ∈ wsX40, w ∈ wsX4_shows := fun _ h => List.mem_cons_of_mem _ (List.mem_append_left _ (List.mem_append_right _ h))
  have iw1 : ∀ w ∈ wsX10, w ∈ wsX4_shows := fun _ h => List.mem_cons_of_mem _ (List.mem_append_right _ h)
  refine lv_iload_n hx hb dX4_shows_0 rfl (lv_at hl 3 rfl) ?_
  refine lv_bipush (v := 12) hx hb dX4_shows_1 (by decide) ?_
  refine lv_icmp_lt (tgt := 10) hx hb dX4_shows_3 (by decide) (fun h1 => ?_) (fun h2 => ?_)
  · skip
    refine lv_aload_n hx hb dX4_shows_10 rfl (lv_at hl 0 rfl) ?_
    refine va_get (D := D) (ci := 4) (v := .ref kk) (C := RX4) (T := TX4) (N := 11) hx hb hts iw4 hown hK hP 0 rfl rfl 0 (by decide) fw1 (fun _ h9 => h9) rfl dX4_shows_11 ?_
    refine lv_aload_n hx hb dX4_shows_14 rfl (lv_at hl 0 rfl) ?_
    refine va_get (D := D) (ci := 4) (v := .ref nk) (C := RX4) (T := TX4) (N := 11) hx hb hts iw4 hown hK hP 0 rfl rfl 1 (by decide) fw2 (fun _ h9 => h9) rfl dX4_shows_15 ?_
    refine lv_iload_n hx hb dX4_shows_18 rfl (lv_at hl 2 rfl) ?_
    refine va_iald hx hb hK hP 1 0 rfl rfl (vp_in_nI (by omega) (by decide)) dX4_shows_19 ?_
    rw [nI_clamp (n := k) (by omega)]
    obtain ⟨w3, h4, h5⟩ := kw_bdv hk (k := k) (by omega) (by decide)
    rw [h5]
    rcases (show w3 = 0 ∨ w3 = 1 ∨ w3 = 2 ∨ w3 = 3 ∨ w3 = 4 ∨ w3 = 5 by omega) with rfl | rfl | rfl | rfl | rfl | rfl
    · skip
      refine va_aldq hx hb hK hP 4 5 rfl rfl (vp_in_nI (by omega) (by decide)) dX4_shows_20 ?_
      rw [nI_clamp (n := 0) (by omega), show va_rf (fq 0) = .ref k0 from congrArg va_rf hq0]
      refine lv_iload_n hx hb dX4_shows_21 rfl (lv_at hl 3 rfl) ?_
      refine lv_aload_n hx hb dX4_shows_22 rfl (lv_at hl 1 rfl) ?_
      refine va_get (D := D) (ci := 1) (v := .ref dl) (C := RX1) (T := TX1) (N := 6) hx hb hts iw1 hown hK hP 2 rfl rfl 0 (by decide) fw3 (fun _ h9 => h9) rfl dX4_shows_23 ?_
      refine lv_iload_n hx hb dX4_shows_26 rfl (lv_at hl 2 rfl) ?_
      refine va_iald hx hb hK hP 3 0 rfl rfl (vp_in_nI (by omega) (by decide)) dX4_shows_27 ?_
      rw [nI_clamp (n := k) (by omega)]
      refine lv_aload_n hx hb dX4_shows_28 rfl (lv_at hl 1 rfl) ?_
      refine va_get (D := D) (ci := 1) (v := .int dcl) (C := RX1) (T := TX1) (N := 6) hx hb hts iw1 hown hK hP 2 rfl rfl 4 (by decide) fw4 (fun _ h9 => h9) rfl dX4_shows_29 ?_
      have hs6 : kw_Split [(nw, .inr (4, [.ref kk, .ref nk, .ref nd, .ref ne, .ref nm, .ref nn, .int (nI fi), .int (nI gl), .int (nI un), .int (nI mi), .int (nI no)])), (nk, .inl (y 0, 6, .inl fk)), (d, .inr (1, [.ref dl, .ref da, .ref ds, .int dst, .int dcl, .int dnu])), (dl, .inl (y 0, 6, .inl dfl)), (kk, .inl (y 5, 6, .inr (.inr (.inr (.inr fq))))), (k0, .inr (5, [])), (k1, .inr (8, [])), (k2, .inr (9, [])), (k3, .inr (6, [])), (k4, .inr (2, [])), (k5, .inr (3, []))] [(k0, .inr (5, []))] [(nw, .inr (4, [.ref kk, .ref nk, .ref nd, .ref ne, .ref nm, .ref nn, .int (nI fi), .int (nI gl), .int (nI un), .int (nI mi), .int (nI no)])), (nk, .inl (y 0, 6, .inl fk)), (d, .inr (1, [.ref dl, .ref da, .ref ds, .int dst, .int dcl, .int dnu])), (dl, .inl (y 0, 6, .inl dfl)), (kk, .inl (y 5, 6, .inr (.inr (.inr (.inr fq))))), (k1, .inr (8, [])), (k2, .inr (9, [])), (k3, .inr (6, [])), (k4, .inr (2, [])), (k5, .inr (3, []))] [5] [0, 1, 2, 3, 4, 6, 7, 8, 9, 10] := ⟨rfl, rfl, rfl, rfl, rfl, by decide⟩
      refine kw_go_i hs6 hP hD hS hA (va_runV (As := [.int t, .int (dfl k), .int dcl]) (rest := []) ⟨hx, hb, hml, hown, hts⟩ (gc_Plain_on5 l D y k0 t (dfl k) dcl  _) (cwV 3 hts gX4_shows_X5_sight rfl rfl rfl (by decide +kernel) ⟨Nat.le_of_ble_eq_true rfl, Nat.le_of_ble_eq_true rfl⟩) (kw_PreV (ci := 5) (q0 := 5) hs6 hP hD hK hN rfl rfl) rfl rfl hl.1 rfl (lv_room (Nat.le_of_ble_eq_true rfl)) dX4_shows_32 ⟨Nat.le_of_ble_eq_true rfl, Nat.le_of_ble_eq_true rfl⟩) (fun r7 u8 H locs hq hP hD hS => ?_)
      obtain rfl := hq
      have hP : va_P D vwCl [(nw, .inr (4, [.ref kk, .ref nk, .ref nd, .ref ne, .ref nm, .ref nn, .int (nI fi), .int (nI gl), .int (nI un), .int (nI mi), .int (nI no)])), (nk, .inl (y 0, 6, .inl fk)), (d, .inr (1, [.ref dl, .ref da, .ref ds, .int dst, .int dcl, .int dnu])), (dl, .inl (y 0, 6, .inl dfl)), (kk, .inl (y 5, 6, .inr (.inr (.inr (.inr fq))))), (k1, .inr (8, [])), (k2, .inr (9, [])), (k3, .inr (6, [])), (k4, .inr (2, [])), (k5, .inr (3, [])), (k0, .inr (5, []))] H := hP
      have hD : va_D A [(nw, .inr (4, [.ref kk, .ref nk, .ref nd, .ref ne, .ref nm, .ref nn, .int (nI fi), .int (nI gl), .int (nI un), .int (nI mi), .int (nI no)])), (nk, .inl (y 0, 6, .inl fk)), (d, .inr (1, [.ref dl, .ref da, .ref ds, .int dst, .int dcl, .int dnu])), (dl, .inl (y 0, 6, .inl dfl)), (kk, .inl (y 5, 6, .inr (.inr (.inr (.inr fq))))), (k1, .inr (8, [])), (k2, .inr (9, [])), (k3, .inr (6, [])), (k4, .inr (2, [])), (k5, .inr (3, [])), (k0, .inr (5, []))] := hD
      exact W.iret (v := (if 0 < (((dfl k) - (2 * t)) - dcl) then (((dfl k) - (2 * t)) - dcl) else 0)) hx hb hr (fun tZ ht hW => ⟨⟨(if 0 < (((dfl k) - (2 * t)) - dcl) then (((dfl k) - (2 * t)) - dcl) else 0), (), rfl, trivial, by rw [ht]; exact hP.sub [0, 1, 2, 3, 4, 10, 5, 6, 7, 8, 9] rfl, hD.sub [0, 1, 2, 3, 4, 10, 5, 6, 7, 8, 9] (by decide) rfl⟩, hS.F ht⟩) hS.2.2 dX4_shows_35
    · skip
      refine va_aldq hx hb hK hP 4 5 rfl rfl (vp_in_nI (by omega) (by decide)) dX4_shows_20 ?_
      rw [nI_clamp (n := 1) (by omega), show va_rf (fq 1) = .ref k1 from congrArg va_rf hq1]
      refine lv_iload_n hx hb dX4_shows_21 rfl (lv_at hl 3 rfl) ?_
      refine lv_aload_n hx hb dX4_shows_22 rfl (lv_at hl 1 rfl) ?_
      refine va_get (D := D) (ci := 1) (v := .ref dl) (C := RX1) (T := TX1) (N := 6) hx hb hts iw1 hown hK hP 2 rfl rfl 0 (by decide) fw3 (fun _ h9 => h9) rfl dX4_shows_23 ?_
      refine lv_iload_n hx hb dX4_shows_26 rfl (lv_at hl 2 rfl) ?_
      refine va_iald hx hb hK hP 3 0 rfl rfl (vp_in_nI (by omega) (by decide)) dX4_shows_27 ?_
      rw [nI_clamp (n := k) (by omega)]
      refine lv_aload_n hx hb dX4_shows_28 rfl (lv_at hl 1 rfl) ?_
      refine va_get (D := D) (ci := 1) (v := .int dcl) (C := RX1) (T := TX1) (N := 6) hx hb hts iw1 hown hK hP 2 rfl rfl 4 (by decide) fw4 (fun _ h9 => h9) rfl dX4_shows_29 ?_
      have hs9 : kw_Split [(nw, .inr (4, [.ref kk, .ref nk, .ref nd, .ref ne, .ref nm, .ref nn, .int (nI fi), .int (nI gl), .int (nI un), .int (nI mi), .int (nI no)])), (nk, .inl (y 0, 6, .inl fk)), (d, .inr (1, [.ref dl, .ref da, .ref ds, .int dst, .int dcl, .int dnu])), (dl, .inl (y 0, 6, .inl dfl)), (kk, .inl (y 5, 6, .inr (.inr (.inr (.inr fq))))), (k0, .inr (5, [])), (k1, .inr (8, [])), (k2, .inr (9, [])), (k3, .inr (6, [])), (k4, .inr (2, [])), (k5, .inr (3, []))] [(k1, .inr (8, []))] [(nw, .inr (4, [.ref kk, .ref nk, .ref nd, .ref ne, .ref nm, .ref nn, .int (nI fi), .int (nI gl), .int (nI un), .int (nI mi), .int (nI no)])), (nk, .inl (y 0, 6, .inl fk)), (d, .inr (1, [.ref dl, .ref da, .ref ds, .int dst, .int dcl, .int dnu])), (dl, .inl (y 0, 6, .inl dfl)), (kk, .inl (y 5, 6, .inr (.inr (.inr (.inr fq))))), (k0, .inr (5, [])), (k2, .inr (9, [])), (k3, .inr (6, [])), (k4, .inr (2, [])), (k5, .inr (3, []))] [6] [0, 1, 2, 3, 4, 5, 7, 8, 9, 10] := ⟨rfl, rfl, rfl, rfl, rfl, by decide⟩
      refine kw_go_i hs9 hP hD hS hA (va_runU (As := [.int t, .int (dfl k), .int dcl]) (rest := []) ⟨hx, hb, hml, hown, hts⟩ (gc_West_on8 l D y k1 t (dfl k) dcl  _) (va_cwO 3 hts gX4_shows_X8_sight_u89X8 rfl rfl rfl (List.mem_of_getElem? (i := 26) rfl) (by decide +kernel) ⟨Nat.le_of_ble_eq_true rfl, Nat.le_of_ble_eq_true rfl⟩) (kw_PreV (ci := 8) (q0 := 6) hs9 hP hD hK hN rfl rfl) rfl rfl hl.1 rfl (lv_room (Nat.le_of_ble_eq_true rfl)) dX4_shows_32 ⟨Nat.le_of_ble_eq_true rfl, Nat.le_of_ble_eq_true rfl⟩) (fun r10 u11 H locs hq hP hD hS => ?_)
      have hP : va_P D vwCl [(nw, .inr (4, [.ref kk, .ref nk, .ref nd, .ref ne, .ref nm, .ref nn, .int (nI fi), .int (nI gl), .int (nI un), .int (nI mi), .int (nI no)])), (nk, .inl (y 0, 6, .inl fk)), (d, .inr (1, [.ref dl, .ref da, .ref ds, .int dst, .int dcl, .int dnu])), (dl, .inl (y 0, 6, .inl dfl)), (kk, .inl (y 5, 6, .inr (.inr (.inr (.inr fq))))), (k0, .inr (5, [])), (k2, .inr (9, [])), (k3, .inr (6, [])), (k4, .inr (2, [])), (k5, .inr (3, [])), (k1, .inr (8, []))] H := hP
      have hD : va_D A [(nw, .inr (4, [.ref kk, .ref nk, .ref nd, .ref ne, .ref nm, .ref nn, .int (nI fi), .int (nI gl), .int (nI un), .int (nI mi), .int (nI no)])), (nk, .inl (y 0, 6, .inl fk)), (d, .inr (1, [.ref dl, .ref da, .ref ds, .int dst, .int dcl, .int dnu])), (dl, .inl (y 0, 6, .inl dfl)), (kk, .inl (y 5, 6, .inr (.inr (.inr (.inr fq))))), (k0, .inr (5, [])), (k2, .inr (9, [])), (k3, .inr (6, [])), (k4, .inr (2, [])), (k5, .inr (3, [])), (k1, .inr (8, []))] := hD
      exact W.iret (v := r10) hx hb hr (fun tZ ht hW => ⟨⟨r10, (), rfl, trivial, by rw [ht]; exact hP.sub [0, 1, 2, 3, 4, 5, 10, 6, 7, 8, 9] rfl, hD.sub [0, 1, 2, 3, 4, 5, 10, 6, 7, 8, 9] (by decide) rfl⟩, hS.F ht⟩) hS.2.2 dX4_shows_35
    · skip
      refine va_aldq hx hb hK hP 4 5 rfl rfl (vp_in_nI (by omega) (by decide)) dX4_shows_20 ?_
      rw [nI_clamp (n := 2) (by omega), show va_rf (fq 2) = .ref k2 from congrArg va_rf hq2]
      refine lv_iload_n hx hb dX4_shows_21 rfl (lv_at hl 3 rfl) ?_
      refine lv_aload_n hx hb dX4_shows_22 rfl (lv_at hl 1 rfl) ?_
      refine va_get (D := D) (ci := 1) (v := .ref dl) (C := RX1) (T := TX1) (N := 6) hx hb hts iw1 hown hK hP 2 rfl rfl 0 (by decide) fw3 (fun _ h9 => h9) rfl dX4_shows_23 ?_
      refine lv_iload_n hx hb dX4_shows_26 rfl (lv_at hl 2 rfl) ?_
      refine va_iald hx hb hK hP 3 0 rfl rfl (vp_in_nI (by omega) (by decide)) dX4_shows_27 ?_
      rw [nI_clamp (n := k) (by omega)]
      refine lv_aload_n hx hb dX4_shows_28 rfl (lv_at hl 1 rfl) ?_
      refine va_get (D := D) (ci := 1) (v := .int dcl) (C := RX1) (T := TX1) (N := 6) hx hb hts iw1 hown hK hP 2 rfl rfl 4 (by decide) fw4 (fun _ h9 => h9) rfl dX4_shows_29 ?_
      have hs12 : kw_Split [(nw, .inr (4, [.ref kk, .ref nk, .ref nd, .ref ne, .ref nm, .ref nn, .int (nI fi), .int (nI gl), .int (nI un), .int (nI mi), .int (nI no)])), (nk, .inl (y 0, 6, .inl fk)), (d, .inr (1, [.ref dl, .ref da, .ref ds, .int dst, .int dcl, .int dnu])), (dl, .inl (y 0, 6, .inl dfl)), (kk, .inl (y 5, 6, .inr (.inr (.inr (.inr fq))))), (k0, .inr (5, [])), (k1, .inr (8, [])), (k2, .inr (9, [])), (k3, .inr (6, [])), (k4, .inr (2, [])), (k5, .inr (3, []))] [(k2, .inr (9, []))] [(nw, .inr (4, [.ref kk, .ref nk, .ref nd, .ref ne, .ref nm, .ref nn, .int (nI fi), .int (nI gl), .int (nI un), .int (nI mi), .int (nI no)])), (nk, .inl (y 0, 6, .inl fk)), (d, .inr (1, [.ref dl, .ref da, .ref ds, .int dst, .int dcl, .int dnu])), (dl, .inl (y 0, 6, .inl dfl)), (kk, .inl (y 5, 6, .inr (.inr (.inr (.inr fq))))), (k0, .inr (5, [])), (k1, .inr (8, [])), (k3, .inr (6, [])), (k4, .inr (2, [])), (k5, .inr (3, []))] [7] [0, 1, 2, 3, 4, 5, 6, 8, 9, 10] := ⟨rfl, rfl, rfl, rfl, rfl, by decide⟩
      refine kw_go_i hs12 hP hD hS hA (va_runU (As := [.int t, .int (dfl k), .int dcl]) (rest := []) ⟨hx, hb, hml, hown, hts⟩ (gc_Wood_on9 l D y k2 t (dfl k) dcl  _) (va_cwO 3 hts gX4_shows_X9_sight_u89X9 rfl rfl rfl (List.mem_of_getElem? (i := 26) rfl) (by decide +kernel) ⟨Nat.le_of_ble_eq_true rfl, Nat.le_of_ble_eq_true rfl⟩) (kw_PreV (ci := 9) (q0 := 7) hs12 hP hD hK hN rfl rfl) rfl rfl hl.1 rfl (lv_room (Nat.le_of_ble_eq_true rfl)) dX4_shows_32 ⟨Nat.le_of_ble_eq_true rfl, Nat.le_of_ble_eq_true rfl⟩) (fun r13 u14 H locs hq hP hD hS => ?_)
      obtain rfl := hq
      have hP : va_P D vwCl [(nw, .inr (4, [.ref kk, .ref nk, .ref nd, .ref ne, .ref nm, .ref nn, .int (nI fi), .int (nI gl), .int (nI un), .int (nI mi), .int (nI no)])), (nk, .inl (y 0, 6, .inl fk)), (d, .inr (1, [.ref dl, .ref da, .ref ds, .int dst, .int dcl, .int dnu])), (dl, .inl (y 0, 6, .inl dfl)), (kk, .inl (y 5, 6, .inr (.inr (.inr (.inr fq))))), (k0, .inr (5, [])), (k1, .inr (8, [])), (k3, .inr (6, [])), (k4, .inr (2, [])), (k5, .inr (3, [])), (k2, .inr (9, []))] H := hP
      have hD : va_D A [(nw, .inr (4, [.ref kk, .ref nk, .ref nd, .ref ne, .ref nm, .ref nn, .int (nI fi), .int (nI gl), .int (nI un), .int (nI mi), .int (nI no)])), (nk, .inl (y 0, 6, .inl fk)), (d, .inr (1, [.ref dl, .ref da, .ref ds, .int dst, .int dcl, .int dnu])), (dl, .inl (y 0, 6, .inl dfl)), (kk, .inl (y 5, 6, .inr (.inr (.inr (.inr fq))))), (k0, .inr (5, [])), (k1, .inr (8, [])), (k3, .inr (6, [])), (k4, .inr (2, [])), (k5, .inr (3, [])), (k2, .inr (9, []))] := hD
      exact W.iret (v := ((if 0 < (((dfl k) - (2 * t)) - dcl) then (((dfl k) - (2 * t)) - dcl) else 0) / 2)) hx hb hr (fun tZ ht hW => ⟨⟨((if 0 < (((dfl k) - (2 * t)) - dcl) then (((dfl k) - (2 * t)) - dcl) else 0) / 2), (), rfl, trivial, by rw [ht]; exact hP.sub [0, 1, 2, 3, 4, 5, 6, 10, 7, 8, 9] rfl, hD.sub [0, 1, 2, 3, 4, 5, 6, 10, 7, 8, 9] (by decide) rfl⟩, hS.F ht⟩) hS.2.2 dX4_shows_35
    · skip
      refine va_aldq hx hb hK hP 4 5 rfl rfl (vp_in_nI (by omega) (by decide)) dX4_shows_20 ?_
      rw [nI_clamp (n := 3) (by omega), show va_rf (fq 3) = .ref k3 from congrArg va_rf hq3]
      refine lv_iload_n hx hb dX4_shows_21 rfl (lv_at hl 3 rfl) ?_
      refine lv_aload_n hx hb dX4_shows_22 rfl (lv_at hl 1 rfl) ?_
      refine va_get (D := D) (ci := 1) (v := .ref dl) (C := RX1) (T := TX1) (N := 6) hx hb hts iw1 hown hK hP 2 rfl rfl 0 (by decide) fw3 (fun _ h9 => h9) rfl dX4_shows_23 ?_
      refine lv_iload_n hx hb dX4_shows_26 rfl (lv_at hl 2 rfl) ?_
      refine va_iald hx hb hK hP 3 0 rfl rfl (vp_in_nI (by omega) (by decide)) dX4_shows_27 ?_
      rw [nI_clamp (n := k) (by omega)]
      refine lv_aload_n hx hb dX4_shows_28 rfl (lv_at hl 1 rfl) ?_
      refine va_get (D := D) (ci := 1) (v := .int dcl) (C := RX1) (T := TX1) (N := 6) hx hb hts iw1 hown hK hP 2 rfl rfl 4 (by decide) fw4 (fun _ h9 => h9) rfl dX4_shows_29 ?_
      have hs15 : kw_Split [(nw, .inr (4, [.ref kk, .ref nk, .ref nd, .ref ne, .ref nm, .ref nn, .int (nI fi), .int (nI gl), .int (nI un), .int (nI mi), .int (nI no)])), (nk, .inl (y 0, 6, .inl fk)), (d, .inr (1, [.ref dl, .ref da, .ref ds, .int dst, .int dcl, .int dnu])), (dl, .inl (y 0, 6, .inl dfl)), (kk, .inl (y 5, 6, .inr (.inr (.inr (.inr fq))))), (k0, .inr (5, [])), (k1, .inr (8, [])), (k2, .inr (9, [])), (k3, .inr (6, [])), (k4, .inr (2, [])), (k5, .inr (3, []))] [(k3, .inr (6, []))] [(nw, .inr (4, [.ref kk, .ref nk, .ref nd, .ref ne, .ref nm, .ref nn, .int (nI fi), .int (nI gl), .int (nI un), .int (nI mi), .int (nI no)])), (nk, .inl (y 0, 6, .inl fk)), (d, .inr (1, [.ref dl, .ref da, .ref ds, .int dst, .int dcl, .int dnu])), (dl, .inl (y 0, 6, .inl dfl)), (kk, .inl (y 5, 6, .inr (.inr (.inr (.inr fq))))), (k0, .inr (5, [])), (k1, .inr (8, [])), (k2, .inr (9, [])), (k4, .inr (2, [])), (k5, .inr (3, []))] [8] [0, 1, 2, 3, 4, 5, 6, 7, 9, 10] := ⟨rfl, rfl, rfl, rfl, rfl, by decide⟩
      refine kw_go_i hs15 hP hD hS hA (va_runU (As := [.int t, .int (dfl k), .int dcl]) (rest := []) ⟨hx, hb, hml, hown, hts⟩ (gc_Puddle_on6 l D y k3 t (dfl k) dcl  _) (va_cwO 3 hts gX4_shows_X6_sight_u89X6 rfl rfl rfl (List.mem_of_getElem? (i := 26) rfl) (by decide +kernel) ⟨Nat.le_of_ble_eq_true rfl, Nat.le_of_ble_eq_true rfl⟩) (kw_PreV (ci := 6) (q0 := 8) hs15 hP hD hK hN rfl rfl) rfl rfl hl.1 rfl (lv_room (Nat.le_of_ble_eq_true rfl)) dX4_shows_32 ⟨Nat.le_of_ble_eq_true rfl, Nat.le_of_ble_eq_true rfl⟩) (fun r16 u17 H locs hq hP hD hS => ?_)
      obtain rfl := hq
      have hP : va_P D vwCl [(nw, .inr (4, [.ref kk, .ref nk, .ref nd, .ref ne, .ref nm, .ref nn, .int (nI fi), .int (nI gl), .int (nI un), .int (nI mi), .int (nI no)])), (nk, .inl (y 0, 6, .inl fk)), (d, .inr (1, [.ref dl, .ref da, .ref ds, .int dst, .int dcl, .int dnu])), (dl, .inl (y 0, 6, .inl dfl)), (kk, .inl (y 5, 6, .inr (.inr (.inr (.inr fq))))), (k0, .inr (5, [])), (k1, .inr (8, [])), (k2, .inr (9, [])), (k4, .inr (2, [])), (k5, .inr (3, [])), (k3, .inr (6, []))] H := hP
      have hD : va_D A [(nw, .inr (4, [.ref kk, .ref nk, .ref nd, .ref ne, .ref nm, .ref nn, .int (nI fi), .int (nI gl), .int (nI un), .int (nI mi), .int (nI no)])), (nk, .inl (y 0, 6, .inl fk)), (d, .inr (1, [.ref dl, .ref da, .ref ds, .int dst, .int dcl, .int dnu])), (dl, .inl (y 0, 6, .inl dfl)), (kk, .inl (y 5, 6, .inr (.inr (.inr (.inr fq))))), (k0, .inr (5, [])), (k1, .inr (8, [])), (k2, .inr (9, [])), (k4, .inr (2, [])), (k5, .inr (3, [])), (k3, .inr (6, []))] := hD
      exact W.iret (v := (if ((if 0 < (((dfl k) - (2 * t)) - dcl) then (((dfl k) - (2 * t)) - dcl) else 0) + dcl) < (dfl k) then ((if 0 < (((dfl k) - (2 * t)) - dcl) then (((dfl k) - (2 * t)) - dcl) else 0) + dcl) else (dfl k))) hx hb hr (fun tZ ht hW => ⟨⟨(if ((if 0 < (((dfl k) - (2 * t)) - dcl) then (((dfl k) - (2 * t)) - dcl) else 0) + dcl) < (dfl k) then ((if 0 < (((dfl k) - (2 * t)) - dcl) then (((dfl k) - (2 * t)) - dcl) else 0) + dcl) else (dfl k)), (), rfl, trivial, by rw [ht]; exact hP.sub [0, 1, 2, 3, 4, 5, 6, 7, 10, 8, 9] rfl, hD.sub [0, 1, 2, 3, 4, 5, 6, 7, 10, 8, 9] (by decide) rfl⟩, hS.F ht⟩) hS.2.2 dX4_shows_35
    · skip
      refine va_aldq hx hb hK hP 4 5 rfl rfl (vp_in_nI (by omega) (by decide)) dX4_shows_20 ?_
      rw [nI_clamp (n := 4) (by omega), show va_rf (fq 4) = .ref k4 from congrArg va_rf hq4]
      refine lv_iload_n hx hb dX4_shows_21 rfl (lv_at hl 3 rfl) ?_
      refine lv_aload_n hx hb dX4_shows_22 rfl (lv_at hl 1 rfl) ?_
      refine va_get (D := D) (ci := 1) (v := .ref dl) (C := RX1) (T := TX1) (N := 6) hx hb hts iw1 hown hK hP 2 rfl rfl 0 (by decide) fw3 (fun _ h9 => h9) rfl dX4_shows_23 ?_
      refine lv_iload_n hx hb dX4_shows_26 rfl (lv_at hl 2 rfl) ?_
      refine va_iald hx hb hK hP 3 0 rfl rfl (vp_in_nI (by omega) (by decide)) dX4_shows_27 ?_
      rw [nI_clamp (n := k) (by omega)]
      refine lv_aload_n hx hb dX4_shows_28 rfl (lv_at hl 1 rfl) ?_
      refine va_get (D := D) (ci := 1) (v := .int dcl) (C := RX1) (T := TX1) (N := 6) hx hb hts iw1 hown hK hP 2 rfl rfl 4 (by decide) fw4 (fun _ h9 => h9) rfl dX4_shows_29 ?_
      have hs18 : kw_Split [(nw, .inr (4, [.ref kk, .ref nk, .ref nd, .ref ne, .ref nm, .ref nn, .int (nI fi), .int (nI gl), .int (nI un), .int (nI mi), .int (nI no)])), (nk, .inl (y 0, 6, .inl fk)), (d, .inr (1, [.ref dl, .ref da, .ref ds, .int dst, .int dcl, .int dnu])), (dl, .inl (y 0, 6, .inl dfl)), (kk, .inl (y 5, 6, .inr (.inr (.inr (.inr fq))))), (k0, .inr (5, [])), (k1, .inr (8, [])), (k2, .inr (9, [])), (k3, .inr (6, [])), (k4, .inr (2, [])), (k5, .inr (3, []))] [(k4, .inr (2, []))] [(nw, .inr (4, [.ref kk, .ref nk, .ref nd, .ref ne, .ref nm, .ref nn, .int (nI fi), .int (nI gl), .int (nI un), .int (nI mi), .int (nI no)])), (nk, .inl (y 0, 6, .inl fk)), (d, .inr (1, [.ref dl, .ref da, .ref ds, .int dst, .int dcl, .int dnu])), (dl, .inl (y 0, 6, .inl dfl)), (kk, .inl (y 5, 6, .inr (.inr (.inr (.inr fq))))), (k0, .inr (5, [])), (k1, .inr (8, [])), (k2, .inr (9, [])), (k3, .inr (6, [])), (k5, .inr (3, []))] [9] [0, 1, 2, 3, 4, 5, 6, 7, 8, 10] := ⟨rfl, rfl, rfl, rfl, rfl, by decide⟩
      refine kw_go_i hs18 hP hD hS hA (va_runU (As := [.int t, .int (dfl k), .int dcl]) (rest := []) ⟨hx, hb, hml, hown, hts⟩ (gc_Hill_on2 l D y k4 t (dfl k) dcl  _) (va_cwO 3 hts gX4_shows_X2_sight_u89X2 rfl rfl rfl (List.mem_of_getElem? (i := 26) rfl) (by decide +kernel) ⟨Nat.le_of_ble_eq_true rfl, Nat.le_of_ble_eq_true rfl⟩) (kw_PreV (ci := 2) (q0 := 9) hs18 hP hD hK hN rfl rfl) rfl rfl hl.1 rfl (lv_room (Nat.le_of_ble_eq_true rfl)) dX4_shows_32 ⟨Nat.le_of_ble_eq_true rfl, Nat.le_of_ble_eq_true rfl⟩) (fun r19 u20 H locs hq hP hD hS => ?_)
      have hP : va_P D vwCl [(nw, .inr (4, [.ref kk, .ref nk, .ref nd, .ref ne, .ref nm, .ref nn, .int (nI fi), .int (nI gl), .int (nI un), .int (nI mi), .int (nI no)])), (nk, .inl (y 0, 6, .inl fk)), (d, .inr (1, [.ref dl, .ref da, .ref ds, .int dst, .int dcl, .int dnu])), (dl, .inl (y 0, 6, .inl dfl)), (kk, .inl (y 5, 6, .inr (.inr (.inr (.inr fq))))), (k0, .inr (5, [])), (k1, .inr (8, [])), (k2, .inr (9, [])), (k3, .inr (6, [])), (k5, .inr (3, [])), (k4, .inr (2, []))] H := hP
      have hD : va_D A [(nw, .inr (4, [.ref kk, .ref nk, .ref nd, .ref ne, .ref nm, .ref nn, .int (nI fi), .int (nI gl), .int (nI un), .int (nI mi), .int (nI no)])), (nk, .inl (y 0, 6, .inl fk)), (d, .inr (1, [.ref dl, .ref da, .ref ds, .int dst, .int dcl, .int dnu])), (dl, .inl (y 0, 6, .inl dfl)), (kk, .inl (y 5, 6, .inr (.inr (.inr (.inr fq))))), (k0, .inr (5, [])), (k1, .inr (8, [])), (k2, .inr (9, [])), (k3, .inr (6, [])), (k5, .inr (3, [])), (k4, .inr (2, []))] := hD
      exact W.iret (v := r19) hx hb hr (fun tZ ht hW => ⟨⟨r19, (), rfl, trivial, by rw [ht]; exact hP.sub [0, 1, 2, 3, 4, 5, 6, 7, 8, 10, 9] rfl, hD.sub [0, 1, 2, 3, 4, 5, 6, 7, 8, 10, 9] (by decide) rfl⟩, hS.F ht⟩) hS.2.2 dX4_shows_35
    · skip
      refine va_aldq hx hb hK hP 4 5 rfl rfl (vp_in_nI (by omega) (by decide)) dX4_shows_20 ?_
      rw [nI_clamp (n := 5) (by omega), show va_rf (fq 5) = .ref k5 from congrArg va_rf hq5]
      refine lv_iload_n hx hb dX4_shows_21 rfl (lv_at hl 3 rfl) ?_
      refine lv_aload_n hx hb dX4_shows_22 rfl (lv_at hl 1 rfl) ?_
      refine va_get (D := D) (ci := 1) (v := .ref dl) (C := RX1) (T := TX1) (N := 6) hx hb hts iw1 hown hK hP 2 rfl rfl 0 (by decide) fw3 (fun _ h9 => h9) rfl dX4_shows_23 ?_
      refine lv_iload_n hx hb dX4_shows_26 rfl (lv_at hl 2 rfl) ?_
      refine va_iald hx hb hK hP 3 0 rfl rfl (vp_in_nI (by omega) (by decide)) dX4_shows_27 ?_
      rw [nI_clamp (n := k) (by omega)]
      refine lv_aload_n hx hb dX4_shows_28 rfl (lv_at hl 1 rfl) ?_
      refine va_get (D := D) (ci := 1) (v := .int dcl) (C := RX1) (T := TX1) (N := 6) hx hb hts iw1 hown hK hP 2 rfl rfl 4 (by decide) fw4 (fun _ h9 => h9) rfl dX4_shows_29 ?_
      have hs21 : kw_Split [(nw, .inr (4, [.ref kk, .ref nk, .ref nd, .ref ne, .ref nm, .ref nn, .int (nI fi), .int (nI gl), .int (nI un), .int (nI mi), .int (nI no)])), (nk, .inl (y 0, 6, .inl fk)), (d, .inr (1, [.ref dl, .ref da, .ref ds, .int dst, .int dcl, .int dnu])), (dl, .inl (y 0, 6, .inl dfl)), (kk, .inl (y 5, 6, .inr (.inr (.inr (.inr fq))))), (k0, .inr (5, [])), (k1, .inr (8, [])), (k2, .inr (9, [])), (k3, .inr (6, [])), (k4, .inr (2, [])), (k5, .inr (3, []))] [(k5, .inr (3, []))] [(nw, .inr (4, [.ref kk, .ref nk, .ref nd, .ref ne, .ref nm, .ref nn, .int (nI fi), .int (nI gl), .int (nI un), .int (nI mi), .int (nI no)])), (nk, .inl (y 0, 6, .inl fk)), (d, .inr (1, [.ref dl, .ref da, .ref ds, .int dst, .int dcl, .int dnu])), (dl, .inl (y 0, 6, .inl dfl)), (kk, .inl (y 5, 6, .inr (.inr (.inr (.inr fq))))), (k0, .inr (5, [])), (k1, .inr (8, [])), (k2, .inr (9, [])), (k3, .inr (6, [])), (k4, .inr (2, []))] [10] [0, 1, 2, 3, 4, 5, 6, 7, 8, 9] := ⟨rfl, rfl, rfl, rfl, rfl, by decide⟩
      refine kw_go_i hs21 hP hD hS hA (va_runU (As := [.int t, .int (dfl k), .int dcl]) (rest := []) ⟨hx, hb, hml, hown, hts⟩ (gc_Lane_on3 l D y k5 t (dfl k) dcl  _) (va_cwO 3 hts gX4_shows_X3_sight_u89X3 rfl rfl rfl (List.mem_of_getElem? (i := 26) rfl) (by decide +kernel) ⟨Nat.le_of_ble_eq_true rfl, Nat.le_of_ble_eq_true rfl⟩) (kw_PreV (ci := 3) (q0 := 10) hs21 hP hD hK hN rfl rfl) rfl rfl hl.1 rfl (lv_room (Nat.le_of_ble_eq_true rfl)) dX4_shows_32 ⟨Nat.le_of_ble_eq_true rfl, Nat.le_of_ble_eq_true rfl⟩) (fun r22 u23 H locs hq hP hD hS => ?_)
      have hP : va_P D vwCl [(nw, .inr (4, [.ref kk, .ref nk, .ref nd, .ref ne, .ref nm, .ref nn, .int (nI fi), .int (nI gl), .int (nI un), .int (nI mi), .int (nI no)])), (nk, .inl (y 0, 6, .inl fk)), (d, .inr (1, [.ref dl, .ref da, .ref ds, .int dst, .int dcl, .int dnu])), (dl, .inl (y 0, 6, .inl dfl)), (kk, .inl (y 5, 6, .inr (.inr (.inr (.inr fq))))), (k0, .inr (5, [])), (k1, .inr (8, [])), (k2, .inr (9, [])), (k3, .inr (6, [])), (k4, .inr (2, [])), (k5, .inr (3, []))] H := hP
      have hD : va_D A [(nw, .inr (4, [.ref kk, .ref nk, .ref nd, .ref ne, .ref nm, .ref nn, .int (nI fi), .int (nI gl), .int (nI un), .int (nI mi), .int (nI no)])), (nk, .inl (y 0, 6, .inl fk)), (d, .inr (1, [.ref dl, .ref da, .ref ds, .int dst, .int dcl, .int dnu])), (dl, .inl (y 0, 6, .inl dfl)), (kk, .inl (y 5, 6, .inr (.inr (.inr (.inr fq))))), (k0, .inr (5, [])), (k1, .inr (8, [])), (k2, .inr (9, [])), (k3, .inr (6, [])), (k4, .inr (2, [])), (k5, .inr (3, []))] := hD
      exact W.iret (v := r22) hx hb hr (fun tZ ht hW => ⟨⟨r22, (), rfl, trivial, by rw [ht]; exact hP.sub [0, 1, 2, 3, 4, 5, 6, 7, 8, 9, 10] rfl, hD.sub [0, 1, 2, 3, 4, 5, 6, 7, 8, 9, 10] (by decide) rfl⟩, hS.F ht⟩) hS.2.2 dX4_shows_35
  · skip
    refine lv_iconst (v := 0) hx hb dX4_shows_6 (by decide) ?_
    refine lv_goto (tgt := 35) hx hb dX4_shows_7 (by decide) ?_
    exact W.iret (v := 0) hx hb hr (fun tZ ht hW => ⟨⟨0, (), rfl, trivial, by rw [ht]; exact hP.sub [0, 1, 2, 3, 4, 5, 6, 7, 8, 9, 10] rfl, hD.sub [0, 1, 2, 3, 4, 5, 6, 7, 8, 9, 10] (by decide) rfl⟩, hS.F ht⟩) hS.2.2 dX4_shows_35

set_option maxHeartbeats 4000000 in
set_option maxRecDepth 100000 in
theorem gc_share (l : Launch) (D : va_G) (y : Nat → ClassId) (nw : Nat) (kk : Nat) (nk : Nat) (nd : Nat) (ne : Nat) (nm : Nat) (nn : Nat) (fi : Nat) (gl : Nat) (un : Nat) (mi : Nat) (no : Nat) (d : Nat) (dl : Nat) (da : Nat) (ds : Nat) (dst : Int32) (dcl : Int32) (dnu : Int32) (dfl : Nat → Int32) (dfa : Nat → Int32) (fk : Nat → Int32) (k0 : Nat) (k1 : Nat) (k2 : Nat) (k3 : Nat) (k4 : Nat) (k5 : Nat) (fq : Nat → Option Nat) (k : Nat) (hfi : fi ≤ 6) (hgl : gl ≤ 5) (hun : un ≤ 8) (hmi : mi ≤ 4) (hno : no ≤ 6) (hk : kw_bd 6 6 fk) (hda : kw_bd 6 5 dfa) (hq0 : fq 0 = some k0) (hq1 : fq 1 = some k1) (hq2 : fq 2 = some k2) (hq3 : fq 3 = some k3) (hq4 : fq 4 = some k4) (hq5 : fq 5 = some k5) (hkk : k < 6) : kw_Mi l yX4_share wsX4_share ({ frames := 5, cells := 0, slots := 0, locals := 153 }) D y [.ref nw, .ref d, .int (nI k)] [(nw, .inr (4, [.ref kk, .ref nk, .ref nd, .ref ne, .ref nm, .ref nn, .int (nI fi), .int (nI gl), .int (nI un), .int (nI mi), .int (nI no)])), (nk, .inl (y 0, 6, .inl fk)), (d, .inr (1, [.ref dl, .ref da, .ref ds, .int dst, .int dcl, .int dnu])), (dl, .inl (y 0, 6, .inl dfl)), (da, .inl (y 0, 5, .inl dfa)), (kk, .inl (y 5, 6, .inr (.inr (.inr (.inr fq))))), (k0, .inr (5, [])), (k1, .inr (8, [])), (k2, .inr (9, [])), (k3, .inr (6, [])), (k4, .inr (2, [])), (k5, .inr (3, []))] (fun (r : Int32) (u : Unit) => True) (fun _ => [(nw, .inr (4, [.ref kk, .ref nk, .ref nd, .ref ne, .ref nm, .ref nn, .int (nI fi), .int (nI gl), .int (nI un), .int (nI mi), .int (nI no)])), (nk, .inl (y 0, 6, .inl fk)), (d, .inr (1, [.ref dl, .ref da, .ref ds, .int dst, .int dcl, .int dnu])), (dl, .inl (y 0, 6, .inl dfl)), (da, .inl (y 0, 5, .inl dfa)), (kk, .inl (y 5, 6, .inr (.inr (.inr (.inr fq))))), (k0, .inr (5, [])), (k1, .inr (8, [])), (k2, .inr (9, [])), (k3, .inr (6, [])), (k4, .inr (2, [])), (k5, .inr (3, []))]) 0 0 := by
  refine kw_Mi.of (cc := cX4_share) (maxL := 4) (ret := (some .int)) (by decide) rfl ?_
  intro pZ eZ s mZ beZ meZ cZ A hE
  obtain ⟨hx, hb, hr, hml, hts, hown, hlocks, hin, hA, hP, hD, hK, hN⟩ := hE
  have hS : va_S A s.heap s.heap [] := va_S.rf
  have hl := lv_entry ([.ref nw, .ref d, .int (nI k)]) (n := 4) (Nat.le_of_ble_eq_true rfl)
  rw [lg_entry_eq]
  generalize (lg_sl ([.ref nw, .ref d, .int (nI k)]) ++ List.replicate (4 - (lg_sl ([.ref nw, .ref d, .int (nI k)])).length) Slot.unset).toArray = ls at hl ⊢
  have hl : lv_has ls 4 [(0, .ref nw), (1, .ref d), (2, .int (nI k))] := hl
  have fw1 := hts (.fieldLink RX4 54 "GleanDusk$Dusk" "step" "I") (List.mem_of_getElem? (i := 1) rfl)
  have iw1 : ∀ w ∈ wsX10, w ∈ wsX4_share := fun _ h => List.mem_cons_of_mem _ (List.mem_append_left _ (List.mem_append_right _ h))
  refine lv_aload_n hx hb dX4_share_0 rfl (lv_at hl 0 rfl) ?_
  refine lv_aload_n hx hb dX4_share_1 rfl (lv_at hl 1 rfl) ?_
  refine lv_iload_n hx hb dX4_share_2 rfl (lv_at hl 2 rfl) ?_
  have hs1 : kw_Split [(nw, .inr (4, [.ref kk, .ref nk, .ref nd, .ref ne, .ref nm, .ref nn, .int (nI fi), .int (nI gl), .int (nI un), .int (nI mi), .int (nI no)])), (nk, .inl (y 0, 6, .inl fk)), (d, .inr (1, [.ref dl, .ref da, .ref ds, .int dst, .int dcl, .int dnu])), (dl, .inl (y 0, 6, .inl dfl)), (da, .inl (y 0, 5, .inl dfa)), (kk, .inl (y 5, 6, .inr (.inr (.inr (.inr fq))))), (k0, .inr (5, [])), (k1, .inr (8, [])), (k2, .inr (9, [])), (k3, .inr (6, [])), (k4, .inr (2, [])), (k5, .inr (3, []))] [(nw, .inr (4, [.ref kk, .ref nk, .ref nd, .ref ne, .ref nm, .ref nn, .int (nI fi), .int (nI gl), .int (nI un), .int (nI mi), .int (nI no)])), (d, .inr (1, [.ref dl, .ref da, .ref ds, .int dst, .int dcl, .int dnu])), (da, .inl (y 0, 5, .inl dfa))] [(nk, .inl (y 0, 6, .inl fk)), (dl, .inl (y 0, 6, .inl dfl)), (kk, .inl (y 5, 6, .inr (.inr (.inr (.inr fq))))), (k0, .inr (5, [])), (k1, .inr (8, [])), (k2, .inr (9, [])), (k3, .inr (6, [])), (k4, .inr (2, [])), (k5, .inr (3, []))] [0, 2, 4] [1, 3, 5, 6, 7, 8, 9, 10, 11] := ⟨rfl, rfl, rfl, rfl, rfl, by decide⟩
  refine kw_go_i hs1 hP hD hS hA (va_runV (As := [.ref d, .int (nI k)]) (rest := []) ⟨hx, hb, hml, hown, hts⟩ (gc_crowd l D y nw kk nk nd ne nm nn fi gl un mi no d dl da ds dst dcl dnu dfa (nI k) hfi hgl hun hmi hno hda _) (cwV 2 hts gX4_share_X4_crowd rfl rfl rfl (by decide +kernel) ⟨Nat.le_of_ble_eq_true rfl, Nat.le_of_ble_eq_true rfl⟩) (kw_PreV (ci := 4) (q0 := 0) hs1 hP hD hK hN rfl rfl) rfl rfl hl.1 rfl (lv_room (Nat.le_of_ble_eq_true rfl)) dX4_share_3 ⟨Nat.le_of_ble_eq_true rfl, Nat.le_of_ble_eq_true rfl⟩) (fun r2 u3 H locs hq hP hD hS => ?_)
  have hP : va_P D vwCl [(nk, .inl (y 0, 6, .inl fk)), (dl, .inl (y 0, 6, .inl dfl)), (kk, .inl (y 5, 6, .inr (.inr (.inr (.inr fq))))), (k0, .inr (5, [])), (k1, .inr (8, [])), (k2, .inr (9, [])), (k3, .inr (6, [])), (k4, .inr (2, [])), (k5, .inr (3, [])), (nw, .inr (4, [.ref kk, .ref nk, .ref nd, .ref ne, .ref nm, .ref nn, .int (nI fi), .int (nI gl), .int (nI un), .int (nI mi), .int (nI no)])), (d, .inr (1, [.ref dl, .ref da, .ref ds, .int dst, .int dcl, .int dnu])), (da, .inl (y 0, 5, .inl dfa))] H := hP
  have hD : va_D A [(nk, .inl (y 0, 6, .inl fk)), (dl, .inl (y 0, 6, .inl dfl)), (kk, .inl (y 5, 6, .inr (.inr (.inr (.inr fq))))), (k0, .inr (5, [])), (k1, .inr (8, [])), (k2, .inr (9, [])), (k3, .inr (6, [])), (k4, .inr (2, [])), (k5, .inr (3, [])), (nw, .inr (4, [.ref kk, .ref nk, .ref nd, .ref ne, .ref nm, .ref nn, .int (nI fi), .int (nI gl), .int (nI un), .int (nI mi), .int (nI no)])), (d, .inr (1, [.ref dl, .ref da, .ref ds, .int dst, .int dcl, .int dnu])), (da, .inl (y 0, 5, .inl dfa))] := hD
  refine lv_istore_n (lv' := [(3, .int r2), (0, .ref nw), (1, .ref d), (2, .int (nI k))]) hx hb dX4_share_6 rfl hl (by decide) rfl (fun ls hl => ?_)
  refine lv_iload_n hx hb dX4_share_7 rfl (lv_at hl 0 rfl) ?_
  refine lv_if_ne (tgt := 15) hx hb dX4_share_8 (by decide) (fun h4 => ?_) (fun h5 => ?_)
  · skip
    refine lv_aload_n hx hb dX4_share_15 rfl (lv_at hl 1 rfl) ?_
    refine lv_aload_n hx hb dX4_share_16 rfl (lv_at hl 2 rfl) ?_
    refine lv_iload_n hx hb dX4_share_17 rfl (lv_at hl 3 rfl) ?_
    refine lv_aload_n hx hb dX4_share_18 rfl (lv_at hl 2 rfl) ?_
    refine va_get (D := D) (ci := 1) (v := .int dst) (C := RX1) (T := TX1) (N := 6) hx hb hts iw1 hown hK hP 10 rfl rfl 3 (by decide) fw1 (fun _ h9 => h9) rfl dX4_share_19 ?_
    have hs6 : kw_Split [(nk, .inl (y 0, 6, .inl fk)), (dl, .inl (y 0, 6, .inl dfl)), (kk, .inl (y 5, 6, .inr (.inr (.inr (.inr fq))))), (k0, .inr (5, [])), (k1, .inr (8, [])), (k2, .inr (9, [])), (k3, .inr (6, [])), (k4, .inr (2, [])), (k5, .inr (3, [])), (nw, .inr (4, [.ref kk, .ref nk, .ref nd, .ref ne, .ref nm, .ref nn, .int (nI fi), .int (nI gl), .int (nI un), .int (nI mi), .int (nI no)])), (d, .inr (1, [.ref dl, .ref da, .ref ds, .int dst, .int dcl, .int dnu])), (da, .inl (y 0, 5, .inl dfa))] [(nw, .inr (4, [.ref kk, .ref nk, .ref nd, .ref ne, .ref nm, .ref nn, .int (nI fi), .int (nI gl), .int (nI un), .int (nI mi), .int (nI no)])), (nk, .inl (y 0, 6, .inl fk)), (d, .inr (1, [.ref dl, .ref da, .ref ds, .int dst, .int dcl, .int dnu])), (dl, .inl (y 0, 6, .inl dfl)), (kk, .inl (y 5, 6, .inr (.inr (.inr (.inr fq))))), (k0, .inr (5, [])), (k1, .inr (8, [])), (k2, .inr (9, [])), (k3, .inr (6, [])), (k4, .inr (2, [])), (k5, .inr (3, []))] [(da, .inl (y 0, 5, .inl dfa))] [9, 0, 10, 1, 2, 3, 4, 5, 6, 7, 8] [11] := ⟨rfl, rfl, rfl, rfl, rfl, by decide⟩
    refine kw_go_i hs6 hP hD hS hA (va_runV (As := [.ref d, .int (nI k), .int dst]) (rest := []) ⟨hx, hb, hml, hown, hts⟩ (gc_shows l D y nw kk nk nd ne nm nn fi gl un mi no d dl da ds dst dcl dnu dfl fk k0 k1 k2 k3 k4 k5 fq k dst hfi hgl hun hmi hno hk hq0 hq1 hq2 hq3 hq4 hq5 hkk _) (cwV 3 hts gX4_share_X4_shows rfl rfl rfl (by decide +kernel) ⟨Nat.le_of_ble_eq_true rfl, Nat.le_of_ble_eq_true rfl⟩) (kw_PreV (ci := 4) (q0 := 9) hs6 hP hD hK hN rfl rfl) rfl rfl hl.1 rfl (lv_room (Nat.le_of_ble_eq_true rfl)) dX4_share_22 ⟨Nat.le_of_ble_eq_true rfl, Nat.le_of_ble_eq_true rfl⟩) (fun r7 u8 H locs hq hP hD hS => ?_)
    have hP : va_P D vwCl [(da, .inl (y 0, 5, .inl dfa)), (nw, .inr (4, [.ref kk, .ref nk, .ref nd, .ref ne, .ref nm, .ref nn, .int (nI fi), .int (nI gl), .int (nI un), .int (nI mi), .int (nI no)])), (nk, .inl (y 0, 6, .inl fk)), (d, .inr (1, [.ref dl, .ref da, .ref ds, .int dst, .int dcl, .int dnu])), (dl, .inl (y 0, 6, .inl dfl)), (kk, .inl (y 5, 6, .inr (.inr (.inr (.inr fq))))), (k0, .inr (5, [])), (k1, .inr (8, [])), (k2, .inr (9, [])), (k3, .inr (6, [])), (k4, .inr (2, [])), (k5, .inr (3, []))] H := hP
    have hD : va_D A [(da, .inl (y 0, 5, .inl dfa)), (nw, .inr (4, [.ref kk, .ref nk, .ref nd, .ref ne, .ref nm, .ref nn, .int (nI fi), .int (nI gl), .int (nI un), .int (nI mi), .int (nI no)])), (nk, .inl (y 0, 6, .inl fk)), (d, .inr (1, [.ref dl, .ref da, .ref ds, .int dst, .int dcl, .int dnu])), (dl, .inl (y 0, 6, .inl dfl)), (kk, .inl (y 5, 6, .inr (.inr (.inr (.inr fq))))), (k0, .inr (5, [])), (k1, .inr (8, [])), (k2, .inr (9, [])), (k3, .inr (6, [])), (k4, .inr (2, [])), (k5, .inr (3, []))] := hD
    refine lv_iload_n hx hb dX4_share_25 rfl (lv_at hl 0 rfl) ?_
    refine lv_idiv hx hb dX4_share_26 (h4) ?_
    exact W.iret (v := (r7 / r2)) hx hb hr (fun tZ ht hW => ⟨⟨(r7 / r2), (), rfl, trivial, by rw [ht]; exact hP.sub [1, 2, 3, 4, 0, 5, 6, 7, 8, 9, 10, 11] rfl, hD.sub [1, 2, 3, 4, 0, 5, 6, 7, 8, 9, 10, 11] (by decide) rfl⟩, hS.F ht⟩) hS.2.2 dX4_share_27
  · skip
    refine lv_iconst (v := 0) hx hb dX4_share_11 (by decide) ?_
    refine lv_goto (tgt := 27) hx hb dX4_share_12 (by decide) ?_
    exact W.iret (v := 0) hx hb hr (fun tZ ht hW => ⟨⟨0, (), rfl, trivial, by rw [ht]; exact hP.sub [9, 0, 10, 1, 11, 2, 3, 4, 5, 6, 7, 8] rfl, hD.sub [9, 0, 10, 1, 11, 2, 3, 4, 5, 6, 7, 8] (by decide) rfl⟩, hS.F ht⟩) hS.2.2 dX4_share_27

set_option maxHeartbeats 4000000 in
set_option maxRecDepth 100000 in
theorem gc_gather (l : Launch) (D : va_G) (y : Nat → ClassId) (nw : Nat) (kk : Nat) (nk : Nat) (nd : Nat) (ne : Nat) (nm : Nat) (nn : Nat) (fi : Nat) (gl : Nat) (un : Nat) (mi : Nat) (no : Nat) (d : Nat) (dl : Nat) (da : Nat) (ds : Nat) (dst : Int32) (dcl : Int32) (dnu : Int32) (dfl : Nat → Int32) (dfa : Nat → Int32) (dfs : Nat → Int32) (fk : Nat → Int32) (k0 : Nat) (k1 : Nat) (k2 : Nat) (k3 : Nat) (k4 : Nat) (k5 : Nat) (fq : Nat → Option Nat) (x : Int32) (hfi : fi ≤ 6) (hgl : gl ≤ 5) (hun : un ≤ 8) (hmi : mi ≤ 4) (hno : no ≤ 6) (hk : kw_bd 6 6 fk) (hda : kw_bd 6 5 dfa) (hq0 : fq 0 = some k0) (hq1 : fq 1 = some k1) (hq2 : fq 2 = some k2) (hq3 : fq 3 = some k3) (hq4 : fq 4 = some k4) (hq5 : fq 5 = some k5) : kw_Mi l yX4_gather wsX4_gather ({ frames := 6, cells := 0, slots := 0, locals := 176 }) D y [.ref nw, .ref d, .int x] [(nw, .inr (4, [.ref kk, .ref nk, .ref nd, .ref ne, .ref nm, .ref nn, .int (nI fi), .int (nI gl), .int (nI un), .int (nI mi), .int (nI no)])), (nk, .inl (y 0, 6, .inl fk)), (d, .inr (1, [.ref dl, .ref da, .ref ds, .int dst, .int dcl, .int dnu])), (dl, .inl (y 0, 6, .inl dfl)), (da, .inl (y 0, 5, .inl dfa)), (ds, .inl (y 0, 5, .inl dfs)), (kk, .inl (y 5, 6, .inr (.inr (.inr (.inr fq))))), (k0, .inr (5, [])), (k1, .inr (8, [])), (k2, .inr (9, [])), (k3, .inr (6, [])), (k4, .inr (2, [])), (k5, .inr (3, []))] (fun (r : Int32) (u : Int32 × (Nat → Int32) × (Nat → Int32)) => True) (fun u => [(nw, .inr (4, [.ref kk, .ref nk, .ref nd, .ref ne, .ref nm, .ref nn, .int (nI fi), .int (nI gl), .int (nI un), .int (nI mi), .int (nI no)])), (nk, .inl (y 0, 6, .inl fk)), (d, .inr (1, [.ref dl, .ref da, .ref ds, .int u.1, .int dcl, .int dnu])), (dl, .inl (y 0, 6, .inl u.2.1)), (da, .inl (y 0, 5, .inl dfa)), (ds, .inl (y 0, 5, .inl u.2.2)), (kk, .inl (y 5, 6, .inr (.inr (.inr (.inr fq))))), (k0, .inr (5, [])), (k1, .inr (8, [])), (k2, .inr (9, [])), (k3, .inr (6, [])), (k4, .inr (2, [])), (k5, .inr (3, []))]) 0 0 := by
  refine kw_Mi.of (cc := cX4_gather) (maxL := 6) (ret := (some .int)) (by decide) rfl ?_
  intro pZ eZ s mZ beZ meZ cZ A hE
  obtain ⟨hx, hb, hr, hml, hts, hown, hlocks, hin, hA, hP, hD, hK, hN⟩ := hE
  have hS : va_S A s.heap s.heap [] := va_S.rf
  have hl := lv_entry ([.ref nw, .ref d, .int x]) (n := 6) (Nat.le_of_ble_eq_true rfl)
  rw [lg_entry_eq]
  generalize (lg_sl ([.ref nw, .ref d, .int x]) ++ List.replicate (6 - (lg_sl ([.ref nw, .ref d, .int x])).length) Slot.unset).toArray = ls at hl ⊢
  have hl : lv_has ls 6 [(0, .ref nw), (1, .ref d), (2, .int x)] := hl
  have fw1 := hts (.fieldLink RX4 38 "GleanDusk$Parish" "fields" "I") (List.mem_of_getElem? (i := 1) rfl)
  have fw2 := hts (.fieldLink RX4 54 "GleanDusk$Dusk" "step" "I") (List.mem_of_getElem? (i := 2) rfl)
  have iw4 : ∀ w ∈ wsX40, w ∈ wsX4_gather := fun _ h => List.mem_cons_of_mem _ (List.mem_append_left _ (List.mem_append_right _ h))
  have iw1 : ∀ w ∈ wsX10, w ∈ wsX4_gather := fun _ h => List.mem_cons_of_mem _ (List.mem_append_right _ h)
  rcases kw_nn x with h1 | ⟨NN, hNN, rfl⟩
  · skip
    have h2 : x ≤ 0 := Int32.le_of_lt h1
    refine lv_iconst (v := 0) hx hb dX4_gather_0 (by decide) ?_
    refine lv_istore_n (lv' := [(3, .int 0), (0, .ref nw), (1, .ref d), (2, .int x)]) hx hb dX4_gather_1 rfl hl (by decide) rfl (fun ls hl => ?_)
    refine lv_iconst (v := 0) hx hb dX4_gather_2 (by decide) ?_
    refine lv_istore (lv' := [(4, .int 0), (3, .int 0), (0, .ref nw), (1, .ref d), (2, .int x)]) hx hb dX4_gather_3 hl (by decide) rfl (fun ls hl => ?_)
    refine lv_iload hx hb dX4_gather_5 (lv_at hl 0 rfl) ?_
    refine lv_iload_n hx hb dX4_gather_7 rfl (lv_at hl 4 rfl) ?_
    refine lv_icmp_ge (tgt := 62) hx hb dX4_gather_8 (by decide) (fun h3 => ?_) (fun h4 => ?_)
    · skip
      refine lv_iload_n hx hb dX4_gather_62 rfl (lv_at hl 1 rfl) ?_
      exact W.iret (v := 0) hx hb hr (fun tZ ht hW => ⟨⟨0, (dst, dfl, dfs), rfl, trivial, by rw [ht]; exact hP.sub [0, 1, 2, 3, 4, 5, 6, 7, 8, 9, 10, 11, 12] rfl, hD.sub [0, 1, 2, 3, 4, 5, 6, 7, 8, 9, 10, 11, 12] (by decide) rfl⟩, hS.F ht⟩) hS.2.2 dX4_gather_63
    · skip
      exact absurd h2 h4
  · skip
    refine lv_iconst (v := 0) hx hb dX4_gather_0 (by decide) ?_
    refine lv_istore_n (lv' := [(3, .int 0), (0, .ref nw), (1, .ref d), (2, .int (nI NN))]) hx hb dX4_gather_1 rfl hl (by decide) rfl (fun ls hl => ?_)
    refine lv_iconst (v := 0) hx hb dX4_gather_2 (by decide) ?_
    refine lv_istore (lv' := [(4, .int 0), (3, .int 0), (0, .ref nw), (1, .ref d), (2, .int (nI NN))]) hx hb dX4_gather_3 hl (by decide) rfl (fun ls hl => ?_)
    have lp81 : ∀ (fuj91 j91 : Nat) (x41 : Int32) (x42 : Int32) (x43 : Nat → Int32) (x44 : Nat → Int32) (H : Heap) (locs : List Loc) (ls : Array Slot), j91 ≤ NN → NN - j91 < fuj91 → va_P D vwCl [(nw, .inr (4, [.ref kk, .ref nk, .ref nd, .ref ne, .ref nm, .ref nn, .int (nI fi), .int (nI gl), .int (nI un), .int (nI mi), .int (nI no)])), (nk, .inl (y 0, 6, .inl fk)), (d, .inr (1, [.ref dl, .ref da, .ref ds, .int x41, .int dcl, .int dnu])), (dl, .inl (y 0, 6, .inl x43)), (da, .inl (y 0, 5, .inl dfa)), (ds, .inl (y 0, 5, .inl x44)), (kk, .inl (y 5, 6, .inr (.inr (.inr (.inr fq))))), (k0, .inr (5, [])), (k1, .inr (8, [])), (k2, .inr (9, [])), (k3, .inr (6, [])), (k4, .inr (2, [])), (k5, .inr (3, []))] H → va_D A [(nw, .inr (4, [.ref kk, .ref nk, .ref nd, .ref ne, .ref nm, .ref nn, .int (nI fi), .int (nI gl), .int (nI un), .int (nI mi), .int (nI no)])), (nk, .inl (y 0, 6, .inl fk)), (d, .inr (1, [.ref dl, .ref da, .ref ds, .int x41, .int dcl, .int dnu])), (dl, .inl (y 0, 6, .inl x43)), (da, .inl (y 0, 5, .inl dfa)), (ds, .inl (y 0, 5, .inl x44)), (kk, .inl (y 5, 6, .inr (.inr (.inr (.inr fq))))), (k0, .inr (5, [])), (k1, .inr (8, [])), (k2, .inr (9, [])), (k3, .inr (6, [])), (k4, .inr (2, [])), (k5, .inr (3, []))] → va_S A s.heap H locs → lv_has ls 6 [(4, .int (nI j91)), (3, .int x42), (0, .ref nw), (1, .ref d), (2, .int (nI NN))] → W pZ l eZ ({ frames := 6, cells := 0, slots := 0, locals := 176 }) s mZ [.ref nw, .ref d, .int (nI NN)].toArray beZ meZ cZ H locs 0 0 (MQ beZ (va_Qi (fun (r : Int32) (u : Int32 × (Nat → Int32) × (Nat → Int32)) => True) (kw_B D (fun u => [(nw, .inr (4, [.ref kk, .ref nk, .ref nd, .ref ne, .ref nm, .ref nn, .int (nI fi), .int (nI gl), .int (nI un), .int (nI mi), .int (nI no)])), (nk, .inl (y 0, 6, .inl fk)), (d, .inr (1, [.ref dl, .ref da, .ref ds, .int u.1, .int dcl, .int dnu])), (dl, .inl (y 0, 6, .inl u.2.1)), (da, .inl (y 0, 5, .inl dfa)), (ds, .inl (y 0, 5, .inl u.2.2)), (kk, .inl (y 5, 6, .inr (.inr (.inr (.inr fq))))), (k0, .inr (5, [])), (k1, .inr (8, [])), (k2, .inr (9, [])), (k3, .inr (6, [])), (k4, .inr (2, [])), (k5, .inr (3, []))]) A) A) [.ref nw, .ref d, .int (nI NN)].toArray s 0 0 A) (F0 mZ 5 ls []) := by
      intro fuj91
      induction fuj91 with
      | zero => intro j91 x41 x42 x43 x44 H locs ls hj9 hf9; exact absurd hf9 (Nat.not_lt_zero _)
      | succ fuj91 ihj91 =>
        intro j91 x41 x42 x43 x44 H locs ls hj91 hfj91  hP hD hS hl
        refine lv_iload hx hb dX4_gather_5 (lv_at hl 0 rfl) ?_
        refine lv_iload_n hx hb dX4_gather_7 rfl (lv_at hl 4 rfl) ?_
        refine lv_icmp_ge (tgt := 62) hx hb dX4_gather_8 (by decide) (fun h82 => ?_) (fun h83 => ?_)
        · skip
          have h82 : NN ≤ j91 := (nI_leI (a := NN) (b := j91) (by omega) (by omega)).mp h82
          refine lv_iload_n hx hb dX4_gather_62 rfl (lv_at hl 1 rfl) ?_
          exact W.iret (v := x42) hx hb hr (fun tZ ht hW => ⟨⟨x42, (x41, x43, x44), rfl, trivial, by rw [ht]; exact hP.sub [0, 1, 2, 3, 4, 5, 6, 7, 8, 9, 10, 11, 12] rfl, hD.sub [0, 1, 2, 3, 4, 5, 6, 7, 8, 9, 10, 11, 12] (by decide) rfl⟩, hS.F ht⟩) hS.2.2 dX4_gather_63
        · skip
          have h83 : ¬ NN ≤ j91 := fun q9 => h83 ((nI_leI (a := NN) (b := j91) (by omega) (by omega)).mpr q9)
          refine lv_iconst (v := 0) hx hb dX4_gather_11 (by decide) ?_
          refine lv_istore (lv' := [(5, .int 0), (4, .int (nI j91)), (3, .int x42), (0, .ref nw), (1, .ref d), (2, .int (nI NN))]) hx hb dX4_gather_12 hl (by decide) rfl (fun ls hl => ?_)
          have lp107 : ∀ (fuj92 j92 : Nat) (x94 : Int32) (x95 : Nat → Int32) (x96 : Nat → Int32) (H : Heap) (locs : List Loc) (ls : Array Slot), j92 ≤ fi → fi - j92 < fuj92 → va_P D vwCl [(nw, .inr (4, [.ref kk, .ref nk, .ref nd, .ref ne, .ref nm, .ref nn, .int (nI fi), .int (nI gl), .int (nI un), .int (nI mi), .int (nI no)])), (nk, .inl (y 0, 6, .inl fk)), (d, .inr (1, [.ref dl, .ref da, .ref ds, .int x41, .int dcl, .int dnu])), (dl, .inl (y 0, 6, .inl x95)), (da, .inl (y 0, 5, .inl dfa)), (ds, .inl (y 0, 5, .inl x96)), (kk, .inl (y 5, 6, .inr (.inr (.inr (.inr fq))))), (k0, .inr (5, [])), (k1, .inr (8, [])), (k2, .inr (9, [])), (k3, .inr (6, [])), (k4, .inr (2, [])), (k5, .inr (3, []))] H → va_D A [(nw, .inr (4, [.ref kk, .ref nk, .ref nd, .ref ne, .ref nm, .ref nn, .int (nI fi), .int (nI gl), .int (nI un), .int (nI mi), .int (nI no)])), (nk, .inl (y 0, 6, .inl fk)), (d, .inr (1, [.ref dl, .ref da, .ref ds, .int x41, .int dcl, .int dnu])), (dl, .inl (y 0, 6, .inl x95)), (da, .inl (y 0, 5, .inl dfa)), (ds, .inl (y 0, 5, .inl x96)), (kk, .inl (y 5, 6, .inr (.inr (.inr (.inr fq))))), (k0, .inr (5, [])), (k1, .inr (8, [])), (k2, .inr (9, [])), (k3, .inr (6, [])), (k4, .inr (2, [])), (k5, .inr (3, []))] → va_S A s.heap H locs → lv_has ls 6 [(5, .int (nI j92)), (4, .int (nI j91)), (3, .int x94), (0, .ref nw), (1, .ref d), (2, .int (nI NN))] → W pZ l eZ ({ frames := 6, cells := 0, slots := 0, locals := 176 }) s mZ [.ref nw, .ref d, .int (nI NN)].toArray beZ meZ cZ H locs 0 0 (MQ beZ (va_Qi (fun (r : Int32) (u : Int32 × (Nat → Int32) × (Nat → Int32)) => True) (kw_B D (fun u => [(nw, .inr (4, [.ref kk, .ref nk, .ref nd, .ref ne, .ref nm, .ref nn, .int (nI fi), .int (nI gl), .int (nI un), .int (nI mi), .int (nI no)])), (nk, .inl (y 0, 6, .inl fk)), (d, .inr (1, [.ref dl, .ref da, .ref ds, .int u.1, .int dcl, .int dnu])), (dl, .inl (y 0, 6, .inl u.2.1)), (da, .inl (y 0, 5, .inl dfa)), (ds, .inl (y 0, 5, .inl u.2.2)), (kk, .inl (y 5, 6, .inr (.inr (.inr (.inr fq))))), (k0, .inr (5, [])), (k1, .inr (8, [])), (k2, .inr (9, [])), (k3, .inr (6, [])), (k4, .inr (2, [])), (k5, .inr (3, []))]) A) A) [.ref nw, .ref d, .int (nI NN)].toArray s 0 0 A) (F0 mZ 14 ls []) := by
            intro fuj92
            induction fuj92 with
            | zero => intro j92 x94 x95 x96 H locs ls hj9 hf9; exact absurd hf9 (Nat.not_lt_zero _)
            | succ fuj92 ihj92 =>
              intro j92 x94 x95 x96 H locs ls hj92 hfj92  hP hD hS hl
              refine lv_iload hx hb dX4_gather_14 (lv_at hl 0 rfl) ?_
              refine lv_aload_n hx hb dX4_gather_16 rfl (lv_at hl 3 rfl) ?_
              refine va_get (D := D) (ci := 4) (v := .int (nI fi)) (C := RX4) (T := TX4) (N := 11) hx hb hts iw4 hown hK hP 0 rfl rfl 6 (by decide) fw1 (fun _ h9 => h9) rfl dX4_gather_17 ?_
              refine lv_icmp_ge (tgt := 46) hx hb dX4_gather_20 (by decide) (fun h108 => ?_) (fun h109 => ?_)
              · skip
                have h108 : fi ≤ j92 := (nI_leI (a := fi) (b := j92) (by omega) (by omega)).mp h108
                refine lv_aload_n hx hb dX4_gather_46 rfl (lv_at hl 4 rfl) ?_
                refine lv_dup hx hb dX4_gather_47 rfl ?_
                refine va_get (D := D) (ci := 1) (v := .int x41) (C := RX1) (T := TX1) (N := 6) hx hb hts iw1 hown hK hP 2 rfl rfl 3 (by decide) fw2 (fun _ h9 => h9) rfl dX4_gather_48 ?_
                refine lv_iconst (v := 1) hx hb dX4_gather_51 (by decide) ?_
                refine lv_iadd hx hb dX4_gather_52 ?_
                refine va_put (D := D) (ci := 1) (v := .int (x41 + 1)) (ty := .int) (C := RX1) (T := TX1) (N := 6) hx hb hts iw1 tyX1 tyX1_ok nmX1 hown hK hP hD hS 2 rfl rfl 3 (by decide) fw2 (fun _ h9 => h9) rfl (by decide +kernel) rfl rfl (Nat.le_of_ble_eq_true rfl) dX4_gather_53 (fun H locs hP hD hS => ?_)
                have hP : va_P D vwCl [(nw, .inr (4, [.ref kk, .ref nk, .ref nd, .ref ne, .ref nm, .ref nn, .int (nI fi), .int (nI gl), .int (nI un), .int (nI mi), .int (nI no)])), (nk, .inl (y 0, 6, .inl fk)), (d, .inr (1, [.ref dl, .ref da, .ref ds, .int (x41 + 1), .int dcl, .int dnu])), (dl, .inl (y 0, 6, .inl x95)), (da, .inl (y 0, 5, .inl dfa)), (ds, .inl (y 0, 5, .inl x96)), (kk, .inl (y 5, 6, .inr (.inr (.inr (.inr fq))))), (k0, .inr (5, [])), (k1, .inr (8, [])), (k2, .inr (9, [])), (k3, .inr (6, [])), (k4, .inr (2, [])), (k5, .inr (3, []))] H := hP
                have hD : va_D A [(nw, .inr (4, [.ref kk, .ref nk, .ref nd, .ref ne, .ref nm, .ref nn, .int (nI fi), .int (nI gl), .int (nI un), .int (nI mi), .int (nI no)])), (nk, .inl (y 0, 6, .inl fk)), (d, .inr (1, [.ref dl, .ref da, .ref ds, .int (x41 + 1), .int dcl, .int dnu])), (dl, .inl (y 0, 6, .inl x95)), (da, .inl (y 0, 5, .inl dfa)), (ds, .inl (y 0, 5, .inl x96)), (kk, .inl (y 5, 6, .inr (.inr (.inr (.inr fq))))), (k0, .inr (5, [])), (k1, .inr (8, [])), (k2, .inr (9, [])), (k3, .inr (6, [])), (k4, .inr (2, [])), (k5, .inr (3, []))] := hD
                refine lv_iinc (v := (nI (j91 + 1))) (lv' := [(4, .int (nI (j91 + 1))), (5, .int (nI j92)), (3, .int x94), (0, .ref nw), (1, .ref d), (2, .int (nI NN))]) hx hb dX4_gather_56 hl (k := 1) rfl (nI_1 j91) (by decide) rfl (fun ls hl => ?_)
                refine lv_goto (tgt := 5) hx hb dX4_gather_59 (by decide) ?_
                exact ihj91 (j91 + 1) (x41 + 1) x94 x95 x96 H locs ls (by omega) (by omega)  (hP.sub [0, 1, 2, 3, 4, 5, 6, 7, 8, 9, 10, 11, 12] rfl) (hD.sub [0, 1, 2, 3, 4, 5, 6, 7, 8, 9, 10, 11, 12] (by decide) rfl) hS (lv_sub hl [0, 2, 3, 4, 5] rfl)
              · skip
                have h109 : ¬ fi ≤ j92 := fun q9 => h109 ((nI_leI (a := fi) (b := j92) (by omega) (by omega)).mpr q9)
                refine lv_iload_n hx hb dX4_gather_23 rfl (lv_at hl 2 rfl) ?_
                refine lv_aload_n hx hb dX4_gather_24 rfl (lv_at hl 3 rfl) ?_
                refine lv_aload_n hx hb dX4_gather_25 rfl (lv_at hl 4 rfl) ?_
                refine lv_iload hx hb dX4_gather_26 (lv_at hl 0 rfl) ?_
                refine lv_aload_n hx hb dX4_gather_28 rfl (lv_at hl 3 rfl) ?_
                refine lv_aload_n hx hb dX4_gather_29 rfl (lv_at hl 4 rfl) ?_
                refine lv_iload hx hb dX4_gather_30 (lv_at hl 0 rfl) ?_
                have hs110 : kw_Split [(nw, .inr (4, [.ref kk, .ref nk, .ref nd, .ref ne, .ref nm, .ref nn, .int (nI fi), .int (nI gl), .int (nI un), .int (nI mi), .int (nI no)])), (nk, .inl (y 0, 6, .inl fk)), (d, .inr (1, [.ref dl, .ref da, .ref ds, .int x41, .int dcl, .int dnu])), (dl, .inl (y 0, 6, .inl x95)), (da, .inl (y 0, 5, .inl dfa)), (ds, .inl (y 0, 5, .inl x96)), (kk, .inl (y 5, 6, .inr (.inr (.inr (.inr fq))))), (k0, .inr (5, [])), (k1, .inr (8, [])), (k2, .inr (9, [])), (k3, .inr (6, [])), (k4, .inr (2, [])), (k5, .inr (3, []))] [(nw, .inr (4, [.ref kk, .ref nk, .ref nd, .ref ne, .ref nm, .ref nn, .int (nI fi), .int (nI gl), .int (nI un), .int (nI mi), .int (nI no)])), (nk, .inl (y 0, 6, .inl fk)), (d, .inr (1, [.ref dl, .ref da, .ref ds, .int x41, .int dcl, .int dnu])), (dl, .inl (y 0, 6, .inl x95)), (da, .inl (y 0, 5, .inl dfa)), (kk, .inl (y 5, 6, .inr (.inr (.inr (.inr fq))))), (k0, .inr (5, [])), (k1, .inr (8, [])), (k2, .inr (9, [])), (k3, .inr (6, [])), (k4, .inr (2, [])), (k5, .inr (3, []))] [(ds, .inl (y 0, 5, .inl x96))] [0, 1, 2, 3, 4, 6, 7, 8, 9, 10, 11, 12] [5] := ⟨rfl, rfl, rfl, rfl, rfl, by decide⟩
                refine kw_go_i hs110 hP hD hS hA (va_runV (As := [.ref d, .int (nI j92)]) (rest := [.int (nI j92), .ref d, .ref nw, .int x94]) ⟨hx, hb, hml, hown, hts⟩ (gc_share l D y nw kk nk nd ne nm nn fi gl un mi no d dl da ds x41 dcl dnu x95 dfa fk k0 k1 k2 k3 k4 k5 fq j92 hfi hgl hun hmi hno hk hda hq0 hq1 hq2 hq3 hq4 hq5 (by omega) _) (cwV 2 hts gX4_gather_X4_share rfl rfl rfl (by decide +kernel) ⟨Nat.le_of_ble_eq_true rfl, Nat.le_of_ble_eq_true rfl⟩) (kw_PreV (ci := 4) (q0 := 0) hs110 hP hD hK hN rfl rfl) rfl rfl hl.1 rfl (lv_room (Nat.le_of_ble_eq_true rfl)) dX4_gather_32 ⟨Nat.le_of_ble_eq_true rfl, Nat.le_of_ble_eq_true rfl⟩) (fun r111 u112 H locs hq hP hD hS => ?_)
                have hP : va_P D vwCl [(ds, .inl (y 0, 5, .inl x96)), (nw, .inr (4, [.ref kk, .ref nk, .ref nd, .ref ne, .ref nm, .ref nn, .int (nI fi), .int (nI gl), .int (nI un), .int (nI mi), .int (nI no)])), (nk, .inl (y 0, 6, .inl fk)), (d, .inr (1, [.ref dl, .ref da, .ref ds, .int x41, .int dcl, .int dnu])), (dl, .inl (y 0, 6, .inl x95)), (da, .inl (y 0, 5, .inl dfa)), (kk, .inl (y 5, 6, .inr (.inr (.inr (.inr fq))))), (k0, .inr (5, [])), (k1, .inr (8, [])), (k2, .inr (9, [])), (k3, .inr (6, [])), (k4, .inr (2, [])), (k5, .inr (3, []))] H := hP
                have hD : va_D A [(ds, .inl (y 0, 5, .inl x96)), (nw, .inr (4, [.ref kk, .ref nk, .ref nd, .ref ne, .ref nm, .ref nn, .int (nI fi), .int (nI gl), .int (nI un), .int (nI mi), .int (nI no)])), (nk, .inl (y 0, 6, .inl fk)), (d, .inr (1, [.ref dl, .ref da, .ref ds, .int x41, .int dcl, .int dnu])), (dl, .inl (y 0, 6, .inl x95)), (da, .inl (y 0, 5, .inl dfa)), (kk, .inl (y 5, 6, .inr (.inr (.inr (.inr fq))))), (k0, .inr (5, [])), (k1, .inr (8, [])), (k2, .inr (9, [])), (k3, .inr (6, [])), (k4, .inr (2, [])), (k5, .inr (3, []))] := hD
                have hs113 : kw_Split [(ds, .inl (y 0, 5, .inl x96)), (nw, .inr (4, [.ref kk, .ref nk, .ref nd, .ref ne, .ref nm, .ref nn, .int (nI fi), .int (nI gl), .int (nI un), .int (nI mi), .int (nI no)])), (nk, .inl (y 0, 6, .inl fk)), (d, .inr (1, [.ref dl, .ref da, .ref ds, .int x41, .int dcl, .int dnu])), (dl, .inl (y 0, 6, .inl x95)), (da, .inl (y 0, 5, .inl dfa)), (kk, .inl (y 5, 6, .inr (.inr (.inr (.inr fq))))), (k0, .inr (5, [])), (k1, .inr (8, [])), (k2, .inr (9, [])), (k3, .inr (6, [])), (k4, .inr (2, [])), (k5, .inr (3, []))] [(nw, .inr (4, [.ref kk, .ref nk, .ref nd, .ref ne, .ref nm, .ref nn, .int (nI fi), .int (nI gl), .int (nI un), .int (nI mi), .int (nI no)])), (d, .inr (1, [.ref dl, .ref da, .ref ds, .int x41, .int dcl, .int dnu])), (dl, .inl (y 0, 6, .inl x95)), (da, .inl (y 0, 5, .inl dfa)), (ds, .inl (y 0, 5, .inl x96))] [(nk, .inl (y 0, 6, .inl fk)), (kk, .inl (y 5, 6, .inr (.inr (.inr (.inr fq))))), (k0, .inr (5, [])), (k1, .inr (8, [])), (k2, .inr (9, [])), (k3, .inr (6, [])), (k4, .inr (2, [])), (k5, .inr (3, []))] [1, 3, 4, 5, 0] [2, 6, 7, 8, 9, 10, 11, 12] := ⟨rfl, rfl, rfl, rfl, rfl, by decide⟩
                refine kw_go_i hs113 hP hD hS hA (va_runV (As := [.ref d, .int (nI j92), .int r111]) (rest := [.int x94]) ⟨hx, hb, hml, hown, hts⟩ (gc_give l D y nw kk nk nd ne nm nn fi gl un mi no d dl da ds x41 dcl dnu x95 dfa x96 j92 r111 hfi hgl hun hmi hno hda (by omega) _) (cwV 3 hts gX4_gather_X4_give rfl rfl rfl (by decide +kernel) ⟨Nat.le_of_ble_eq_true rfl, Nat.le_of_ble_eq_true rfl⟩) (kw_PreV (ci := 4) (q0 := 1) hs113 hP hD hK hN rfl rfl) rfl rfl hl.1 rfl (lv_room (Nat.le_of_ble_eq_true rfl)) dX4_gather_35 ⟨Nat.le_of_ble_eq_true rfl, Nat.le_of_ble_eq_true rfl⟩) (fun r114 u115 H locs hq hP hD hS => ?_)
                obtain ⟨v116, v117⟩ := u115
                have hP : va_P D vwCl [(nk, .inl (y 0, 6, .inl fk)), (kk, .inl (y 5, 6, .inr (.inr (.inr (.inr fq))))), (k0, .inr (5, [])), (k1, .inr (8, [])), (k2, .inr (9, [])), (k3, .inr (6, [])), (k4, .inr (2, [])), (k5, .inr (3, [])), (nw, .inr (4, [.ref kk, .ref nk, .ref nd, .ref ne, .ref nm, .ref nn, .int (nI fi), .int (nI gl), .int (nI un), .int (nI mi), .int (nI no)])), (d, .inr (1, [.ref dl, .ref da, .ref ds, .int x41, .int dcl, .int dnu])), (dl, .inl (y 0, 6, .inl v116)), (da, .inl (y 0, 5, .inl dfa)), (ds, .inl (y 0, 5, .inl v117))] H := hP
                have hD : va_D A [(nk, .inl (y 0, 6, .inl fk)), (kk, .inl (y 5, 6, .inr (.inr (.inr (.inr fq))))), (k0, .inr (5, [])), (k1, .inr (8, [])), (k2, .inr (9, [])), (k3, .inr (6, [])), (k4, .inr (2, [])), (k5, .inr (3, [])), (nw, .inr (4, [.ref kk, .ref nk, .ref nd, .ref ne, .ref nm, .ref nn, .int (nI fi), .int (nI gl), .int (nI un), .int (nI mi), .int (nI no)])), (d, .inr (1, [.ref dl, .ref da, .ref ds, .int x41, .int dcl, .int dnu])), (dl, .inl (y 0, 6, .inl v116)), (da, .inl (y 0, 5, .inl dfa)), (ds, .inl (y 0, 5, .inl v117))] := hD
                refine lv_iadd hx hb dX4_gather_38 ?_
                refine lv_istore_n (lv' := [(3, .int (x94 + r114)), (5, .int (nI j92)), (4, .int (nI j91)), (0, .ref nw), (1, .ref d), (2, .int (nI NN))]) hx hb dX4_gather_39 rfl hl (by decide) rfl (fun ls hl => ?_)
                refine lv_iinc (v := (nI (j92 + 1))) (lv' := [(5, .int (nI (j92 + 1))), (3, .int (x94 + r114)), (4, .int (nI j91)), (0, .ref nw), (1, .ref d), (2, .int (nI NN))]) hx hb dX4_gather_40 hl (k := 1) rfl (nI_1 j92) (by decide) rfl (fun ls hl => ?_)
                refine lv_goto (tgt := 14) hx hb dX4_gather_43 (by decide) ?_
                exact ihj92 (j92 + 1) (x94 + r114) v116 v117 H locs ls (by omega) (by omega)  (hP.sub [8, 0, 9, 10, 11, 12, 1, 2, 3, 4, 5, 6, 7] rfl) (hD.sub [8, 0, 9, 10, 11, 12, 1, 2, 3, 4, 5, 6, 7] (by decide) rfl) hS (lv_sub hl [0, 2, 1, 3, 4, 5] rfl)
          exact lp107 (fi + 1) 0 x42 x43 x44 _ _ _ (by omega) (by omega)  hP hD hS (lv_sub hl [0, 1, 2, 3, 4, 5] rfl)
    exact lp81 (NN + 1) 0 dst 0 dfl dfs _ _ _ (by omega) (by omega)  hP hD hS (lv_sub hl [0, 1, 2, 3, 4] rfl)
