set_option maxHeartbeats 4000000 in
set_option maxRecDepth 100000 in
theorem gc_mix (l : Launch) (D : va_G) (y : Nat → ClassId) (h : Int64) (v : Int64)  : kw_Ml l yX10_mix wsX10_mix ({ frames := 1, cells := 0, slots := 0, locals := 60 }) D y [.long h, .long v] [] (fun (r : Int64) (u : Unit) => r = ((31 * h) + v)) (fun _ => []) 0 0 := by
  refine kw_Ml.of (cc := cX10_mix) (maxL := 4) (ret := (some .long)) (by decide) rfl ?_
  intro pZ eZ s mZ beZ meZ cZ A hE
  obtain ⟨hx, hb, hr, hml, hts, hown, hlocks, hin, hA, hP, hD, hK, hN⟩ := hE
  have hS : va_S A s.heap s.heap [] := va_S.rf
  have hl := lv_entry ([.long h, .long v]) (n := 4) (Nat.le_of_ble_eq_true rfl)
  rw [lg_entry_eq]
  generalize (lg_sl ([.long h, .long v]) ++ List.replicate (4 - (lg_sl ([.long h, .long v])).length) Slot.unset).toArray = ls at hl ⊢
  have hl : lv_has ls 4 [(0, .long h), (2, .long v)] := hl
  have fw1 := hts (.constantLong RX10 303 (31)) (List.mem_of_getElem? (i := 1) rfl)
  refine lv_ldc2 (v := 31) hx hb hown fw1 dX10_mix_0 ?_
  refine lv_lload_n hx hb dX10_mix_3 rfl (lv_at hl 0 rfl) ?_
  refine lv_lmul hx hb dX10_mix_4 ?_
  refine lv_lload_n hx hb dX10_mix_5 rfl (lv_at hl 1 rfl) ?_
  refine lv_ladd hx hb dX10_mix_6 ?_
  exact W.lret (v := ((31 * h) + v)) hx hb hr (fun tZ ht hW => ⟨⟨((31 * h) + v), (), rfl, rfl, by rw [ht]; exact hP.sub [] rfl, hD.sub [] (by decide) rfl⟩, hS.F ht⟩) hS.2.2 dX10_mix_7

set_option maxHeartbeats 4000000 in
set_option maxRecDepth 100000 in
theorem gc_mixRow4 (l : Launch) (D : va_G) (y : Nat → ClassId) (h : Int64) (a0 : Nat) (f0 : Nat → Int32)  : kw_Ml l yX10_mixRow wsX10_mixRow ({ frames := 2, cells := 0, slots := 0, locals := 83 }) D y [.long h, .ref a0] [(a0, .inl (y 0, 4, .inl f0))] (fun (r : Int64) (u : Unit) => True) (fun _ => [(a0, .inl (y 0, 4, .inl f0))]) 0 0 := by
  refine kw_Ml.of (cc := cX10_mixRow) (maxL := 9) (ret := (some .long)) (by decide) rfl ?_
  intro pZ eZ s mZ beZ meZ cZ A hE
  obtain ⟨hx, hb, hr, hml, hts, hown, hlocks, hin, hA, hP, hD, hK, hN⟩ := hE
  have hS : va_S A s.heap s.heap [] := va_S.rf
  have hl := lv_entry ([.long h, .ref a0]) (n := 9) (Nat.le_of_ble_eq_true rfl)
  rw [lg_entry_eq]
  generalize (lg_sl ([.long h, .ref a0]) ++ List.replicate (9 - (lg_sl ([.long h, .ref a0])).length) Slot.unset).toArray = ls at hl ⊢
  have hl : lv_has ls 9 [(0, .long h), (2, .ref a0)] := hl
  refine lv_lload_n hx hb dX10_mixRow_0 rfl (lv_at hl 0 rfl) ?_
  refine lv_lstore_n (lv' := [(3, .long h), (0, .long h), (2, .ref a0)]) hx hb dX10_mixRow_1 rfl hl (by decide) rfl (fun ls hl => ?_)
  refine lv_aload_n hx hb dX10_mixRow_2 rfl (lv_at hl 2 rfl) ?_
  refine lv_astore (lv' := [(5, .ref a0), (3, .long h), (0, .long h), (2, .ref a0)]) hx hb dX10_mixRow_3 hl (by decide) rfl (fun ls hl => ?_)
  refine lv_aload hx hb dX10_mixRow_5 (lv_at hl 0 rfl) ?_
  refine va_alen (v := 4) hx hb hK hP 0 0 rfl rfl rfl dX10_mixRow_7 ?_
  refine lv_istore (lv' := [(6, .int 4), (5, .ref a0), (3, .long h), (0, .long h), (2, .ref a0)]) hx hb dX10_mixRow_8 hl (by decide) rfl (fun ls hl => ?_)
  refine lv_iconst (v := 0) hx hb dX10_mixRow_10 (by decide) ?_
  refine lv_istore (lv' := [(7, .int 0), (6, .int 4), (5, .ref a0), (3, .long h), (0, .long h), (2, .ref a0)]) hx hb dX10_mixRow_11 hl (by decide) rfl (fun ls hl => ?_)
  have lp12 : ∀ (fuj91 j91 : Nat) (x6 : Int64) (H : Heap) (locs : List Loc) (ls : Array Slot), j91 ≤ 4 → 4 - j91 < fuj91 → va_P D vwCl [(a0, .inl (y 0, 4, .inl f0))] H → va_D A [(a0, .inl (y 0, 4, .inl f0))] → va_S A s.heap H locs → lv_has ls 9 [(7, .int (nI j91)), (6, .int 4), (5, .ref a0), (3, .long x6), (0, .long h), (2, .ref a0)] → W pZ l eZ ({ frames := 2, cells := 0, slots := 0, locals := 83 }) s mZ [.long h, .ref a0].toArray beZ meZ cZ H locs 0 0 (MQ beZ (va_Ql (fun (r : Int64) (u : Unit) => True) (kw_B D (fun _ => [(a0, .inl (y 0, 4, .inl f0))]) A) A) [.long h, .ref a0].toArray s 0 0 A) (F0 mZ 13 ls []) := by
    intro fuj91
    induction fuj91 with
    | zero => intro j91 x6 H locs ls hj9 hf9; exact absurd hf9 (Nat.not_lt_zero _)
    | succ fuj91 ihj91 =>
      intro j91 x6 H locs ls hj91 hfj91  hP hD hS hl
      refine lv_iload hx hb dX10_mixRow_13 (lv_at hl 0 rfl) ?_
      refine lv_iload hx hb dX10_mixRow_15 (lv_at hl 1 rfl) ?_
      refine lv_icmp_ge (tgt := 41) hx hb dX10_mixRow_17 (by decide) (fun h13 => ?_) (fun h14 => ?_)
      · skip
        have h13 : 4 ≤ j91 := (nI_leI (a := 4) (b := j91) (by omega) (by omega)).mp h13
        refine lv_lload_n hx hb dX10_mixRow_41 rfl (lv_at hl 3 rfl) ?_
        exact W.lret (v := x6) hx hb hr (fun tZ ht hW => ⟨⟨x6, (), rfl, trivial, by rw [ht]; exact hP.sub [0] rfl, hD.sub [0] (by decide) rfl⟩, hS.F ht⟩) hS.2.2 dX10_mixRow_42
      · skip
        have h14 : ¬ 4 ≤ j91 := fun q9 => h14 ((nI_leI (a := 4) (b := j91) (by omega) (by omega)).mpr q9)
        refine lv_aload hx hb dX10_mixRow_20 (lv_at hl 2 rfl) ?_
        refine lv_iload hx hb dX10_mixRow_22 (lv_at hl 0 rfl) ?_
        refine va_iald hx hb hK hP 0 0 rfl rfl (vp_in_nI (by omega) (by decide)) dX10_mixRow_24 ?_
        rw [nI_clamp (n := j91) (by omega)]
        refine lv_istore (lv' := [(8, .int (f0 j91)), (7, .int (nI j91)), (6, .int 4), (5, .ref a0), (3, .long x6), (0, .long h), (2, .ref a0)]) hx hb dX10_mixRow_25 hl (by decide) rfl (fun ls hl => ?_)
        refine lv_lload_n hx hb dX10_mixRow_27 rfl (lv_at hl 4 rfl) ?_
        refine lv_iload hx hb dX10_mixRow_28 (lv_at hl 0 rfl) ?_
        refine lv_i2l (v := (f0 j91).toInt64) hx hb dX10_mixRow_30 (rfl) ?_
        have hs15 : kw_Split [(a0, .inl (y 0, 4, .inl f0))] [] [(a0, .inl (y 0, 4, .inl f0))] [] [0] := ⟨rfl, rfl, rfl, rfl, rfl, by decide⟩
        refine kw_go_l hs15 hP hD hS hA (va_runS (As := [.long x6, .long ((f0 j91).toInt64)]) (rest := []) ⟨hx, hb, hml, hown, hts⟩ (gc_mix l D y x6 ((f0 j91).toInt64)  _) (va_cwS 2 hts gX10_mixRow_X10_mix rfl rfl rfl (by decide +kernel) ⟨Nat.le_of_ble_eq_true rfl, Nat.le_of_ble_eq_true rfl⟩) (kw_PreS hs15 hP hD hK hN) rfl rfl hl.1 rfl (lv_room (Nat.le_of_ble_eq_true rfl)) dX10_mixRow_31 ⟨Nat.le_of_ble_eq_true rfl, Nat.le_of_ble_eq_true rfl⟩) (fun r16 u17 H locs hq hP hD hS => ?_)
        obtain rfl := hq
        have hP : va_P D vwCl [(a0, .inl (y 0, 4, .inl f0))] H := hP
        have hD : va_D A [(a0, .inl (y 0, 4, .inl f0))] := hD
        refine lv_lstore_n (lv' := [(3, .long ((31 * x6) + ((f0 j91).toInt64))), (8, .int (f0 j91)), (7, .int (nI j91)), (6, .int 4), (5, .ref a0), (0, .long h), (2, .ref a0)]) hx hb dX10_mixRow_34 rfl hl (by decide) rfl (fun ls hl => ?_)
        refine lv_iinc (v := (nI (j91 + 1))) (lv' := [(7, .int (nI (j91 + 1))), (3, .long ((31 * x6) + ((f0 j91).toInt64))), (8, .int (f0 j91)), (6, .int 4), (5, .ref a0), (0, .long h), (2, .ref a0)]) hx hb dX10_mixRow_35 hl (k := 2) rfl (nI_1 j91) (by decide) rfl (fun ls hl => ?_)
        refine lv_goto (tgt := 13) hx hb dX10_mixRow_38 (by decide) ?_
        exact ihj91 (j91 + 1) ((31 * x6) + ((f0 j91).toInt64)) H locs ls (by omega) (by omega)  (hP.sub [0] rfl) (hD.sub [0] (by decide) rfl) hS (lv_sub hl [0, 3, 4, 1, 5, 6] rfl)
  exact lp12 (4 + 1) 0 h _ _ _ (by omega) (by omega)  hP hD hS (lv_sub hl [0, 1, 2, 3, 4, 5] rfl)

set_option maxHeartbeats 4000000 in
set_option maxRecDepth 100000 in
theorem gc_mixRow5 (l : Launch) (D : va_G) (y : Nat → ClassId) (h : Int64) (a0 : Nat) (f0 : Nat → Int32)  : kw_Ml l yX10_mixRow wsX10_mixRow ({ frames := 2, cells := 0, slots := 0, locals := 83 }) D y [.long h, .ref a0] [(a0, .inl (y 0, 5, .inl f0))] (fun (r : Int64) (u : Unit) => True) (fun _ => [(a0, .inl (y 0, 5, .inl f0))]) 0 0 := by
  refine kw_Ml.of (cc := cX10_mixRow) (maxL := 9) (ret := (some .long)) (by decide) rfl ?_
  intro pZ eZ s mZ beZ meZ cZ A hE
  obtain ⟨hx, hb, hr, hml, hts, hown, hlocks, hin, hA, hP, hD, hK, hN⟩ := hE
  have hS : va_S A s.heap s.heap [] := va_S.rf
  have hl := lv_entry ([.long h, .ref a0]) (n := 9) (Nat.le_of_ble_eq_true rfl)
  rw [lg_entry_eq]
  generalize (lg_sl ([.long h, .ref a0]) ++ List.replicate (9 - (lg_sl ([.long h, .ref a0])).length) Slot.unset).toArray = ls at hl ⊢
  have hl : lv_has ls 9 [(0, .long h), (2, .ref a0)] := hl
  refine lv_lload_n hx hb dX10_mixRow_0 rfl (lv_at hl 0 rfl) ?_
  refine lv_lstore_n (lv' := [(3, .long h), (0, .long h), (2, .ref a0)]) hx hb dX10_mixRow_1 rfl hl (by decide) rfl (fun ls hl => ?_)
  refine lv_aload_n hx hb dX10_mixRow_2 rfl (lv_at hl 2 rfl) ?_
  refine lv_astore (lv' := [(5, .ref a0), (3, .long h), (0, .long h), (2, .ref a0)]) hx hb dX10_mixRow_3 hl (by decide) rfl (fun ls hl => ?_)
  refine lv_aload hx hb dX10_mixRow_5 (lv_at hl 0 rfl) ?_
  refine va_alen (v := 5) hx hb hK hP 0 0 rfl rfl rfl dX10_mixRow_7 ?_
  refine lv_istore (lv' := [(6, .int 5), (5, .ref a0), (3, .long h), (0, .long h), (2, .ref a0)]) hx hb dX10_mixRow_8 hl (by decide) rfl (fun ls hl => ?_)
  refine lv_iconst (v := 0) hx hb dX10_mixRow_10 (by decide) ?_
  refine lv_istore (lv' := [(7, .int 0), (6, .int 5), (5, .ref a0), (3, .long h), (0, .long h), (2, .ref a0)]) hx hb dX10_mixRow_11 hl (by decide) rfl (fun ls hl => ?_)
  have lp12 : ∀ (fuj91 j91 : Nat) (x6 : Int64) (H : Heap) (locs : List Loc) (ls : Array Slot), j91 ≤ 5 → 5 - j91 < fuj91 → va_P D vwCl [(a0, .inl (y 0, 5, .inl f0))] H → va_D A [(a0, .inl (y 0, 5, .inl f0))] → va_S A s.heap H locs → lv_has ls 9 [(7, .int (nI j91)), (6, .int 5), (5, .ref a0), (3, .long x6), (0, .long h), (2, .ref a0)] → W pZ l eZ ({ frames := 2, cells := 0, slots := 0, locals := 83 }) s mZ [.long h, .ref a0].toArray beZ meZ cZ H locs 0 0 (MQ beZ (va_Ql (fun (r : Int64) (u : Unit) => True) (kw_B D (fun _ => [(a0, .inl (y 0, 5, .inl f0))]) A) A) [.long h, .ref a0].toArray s 0 0 A) (F0 mZ 13 ls []) := by
    intro fuj91
    induction fuj91 with
    | zero => intro j91 x6 H locs ls hj9 hf9; exact absurd hf9 (Nat.not_lt_zero _)
    | succ fuj91 ihj91 =>
      intro j91 x6 H locs ls hj91 hfj91  hP hD hS hl
      refine lv_iload hx hb dX10_mixRow_13 (lv_at hl 0 rfl) ?_
      refine lv_iload hx hb dX10_mixRow_15 (lv_at hl 1 rfl) ?_
      refine lv_icmp_ge (tgt := 41) hx hb dX10_mixRow_17 (by decide) (fun h13 => ?_) (fun h14 => ?_)
      · skip
        have h13 : 5 ≤ j91 := (nI_leI (a := 5) (b := j91) (by omega) (by omega)).mp h13
        refine lv_lload_n hx hb dX10_mixRow_41 rfl (lv_at hl 3 rfl) ?_
        exact W.lret (v := x6) hx hb hr (fun tZ ht hW => ⟨⟨x6, (), rfl, trivial, by rw [ht]; exact hP.sub [0] rfl, hD.sub [0] (by decide) rfl⟩, hS.F ht⟩) hS.2.2 dX10_mixRow_42
      · skip
        have h14 : ¬ 5 ≤ j91 := fun q9 => h14 ((nI_leI (a := 5) (b := j91) (by omega) (by omega)).mpr q9)
        refine lv_aload hx hb dX10_mixRow_20 (lv_at hl 2 rfl) ?_
        refine lv_iload hx hb dX10_mixRow_22 (lv_at hl 0 rfl) ?_
        refine va_iald hx hb hK hP 0 0 rfl rfl (vp_in_nI (by omega) (by decide)) dX10_mixRow_24 ?_
        rw [nI_clamp (n := j91) (by omega)]
        refine lv_istore (lv' := [(8, .int (f0 j91)), (7, .int (nI j91)), (6, .int 5), (5, .ref a0), (3, .long x6), (0, .long h), (2, .ref a0)]) hx hb dX10_mixRow_25 hl (by decide) rfl (fun ls hl => ?_)
        refine lv_lload_n hx hb dX10_mixRow_27 rfl (lv_at hl 4 rfl) ?_
        refine lv_iload hx hb dX10_mixRow_28 (lv_at hl 0 rfl) ?_
        refine lv_i2l (v := (f0 j91).toInt64) hx hb dX10_mixRow_30 (rfl) ?_
        have hs15 : kw_Split [(a0, .inl (y 0, 5, .inl f0))] [] [(a0, .inl (y 0, 5, .inl f0))] [] [0] := ⟨rfl, rfl, rfl, rfl, rfl, by decide⟩
        refine kw_go_l hs15 hP hD hS hA (va_runS (As := [.long x6, .long ((f0 j91).toInt64)]) (rest := []) ⟨hx, hb, hml, hown, hts⟩ (gc_mix l D y x6 ((f0 j91).toInt64)  _) (va_cwS 2 hts gX10_mixRow_X10_mix rfl rfl rfl (by decide +kernel) ⟨Nat.le_of_ble_eq_true rfl, Nat.le_of_ble_eq_true rfl⟩) (kw_PreS hs15 hP hD hK hN) rfl rfl hl.1 rfl (lv_room (Nat.le_of_ble_eq_true rfl)) dX10_mixRow_31 ⟨Nat.le_of_ble_eq_true rfl, Nat.le_of_ble_eq_true rfl⟩) (fun r16 u17 H locs hq hP hD hS => ?_)
        obtain rfl := hq
        have hP : va_P D vwCl [(a0, .inl (y 0, 5, .inl f0))] H := hP
        have hD : va_D A [(a0, .inl (y 0, 5, .inl f0))] := hD
        refine lv_lstore_n (lv' := [(3, .long ((31 * x6) + ((f0 j91).toInt64))), (8, .int (f0 j91)), (7, .int (nI j91)), (6, .int 5), (5, .ref a0), (0, .long h), (2, .ref a0)]) hx hb dX10_mixRow_34 rfl hl (by decide) rfl (fun ls hl => ?_)
        refine lv_iinc (v := (nI (j91 + 1))) (lv' := [(7, .int (nI (j91 + 1))), (3, .long ((31 * x6) + ((f0 j91).toInt64))), (8, .int (f0 j91)), (6, .int 5), (5, .ref a0), (0, .long h), (2, .ref a0)]) hx hb dX10_mixRow_35 hl (k := 2) rfl (nI_1 j91) (by decide) rfl (fun ls hl => ?_)
        refine lv_goto (tgt := 13) hx hb dX10_mixRow_38 (by decide) ?_
        exact ihj91 (j91 + 1) ((31 * x6) + ((f0 j91).toInt64)) H locs ls (by omega) (by omega)  (hP.sub [0] rfl) (hD.sub [0] (by decide) rfl) hS (lv_sub hl [0, 3, 4, 1, 5, 6] rfl)
  exact lp12 (5 + 1) 0 h _ _ _ (by omega) (by omega)  hP hD hS (lv_sub hl [0, 1, 2, 3, 4, 5] rfl)

set_option maxHeartbeats 4000000 in
set_option maxRecDepth 100000 in
theorem gc_commonDivisor (l : Launch) (D : va_G) (y : Nat → ClassId) (x : Int32) (x2 : Int32)  : kw_Mi l yX10_commonDivisor wsX10_commonDivisor ({ frames := 1, cells := 0, slots := 0, locals := 60 }) D y [.int x, .int x2] [] (fun (r : Int32) (u : Unit) => ¬ r = 0) (fun _ => []) 0 0 := by
  refine kw_Mi.of (cc := cX10_commonDivisor) (maxL := 6) (ret := (some .int)) (by decide) rfl ?_
  intro pZ eZ s mZ beZ meZ cZ A hE
  obtain ⟨hx, hb, hr, hml, hts, hown, hlocks, hin, hA, hP, hD, hK, hN⟩ := hE
  have hS : va_S A s.heap s.heap [] := va_S.rf
  have hl := lv_entry ([.int x, .int x2]) (n := 6) (Nat.le_of_ble_eq_true rfl)
  rw [lg_entry_eq]
  generalize (lg_sl ([.int x, .int x2]) ++ List.replicate (6 - (lg_sl ([.int x, .int x2])).length) Slot.unset).toArray = ls at hl ⊢
  have hl : lv_has ls 6 [(0, .int x), (1, .int x2)] := hl
  refine lv_iload_n hx hb dX10_commonDivisor_0 rfl (lv_at hl 0 rfl) ?_
  refine lv_istore_n (lv' := [(2, .int x), (0, .int x), (1, .int x2)]) hx hb dX10_commonDivisor_1 rfl hl (by decide) rfl (fun ls hl => ?_)
  refine lv_iload_n hx hb dX10_commonDivisor_2 rfl (lv_at hl 2 rfl) ?_
  refine lv_istore_n (lv' := [(3, .int x2), (2, .int x), (0, .int x), (1, .int x2)]) hx hb dX10_commonDivisor_3 rfl hl (by decide) rfl (fun ls hl => ?_)
  refine lv_iconst (v := 0) hx hb dX10_commonDivisor_4 (by decide) ?_
  refine lv_istore (lv' := [(4, .int 0), (3, .int x2), (2, .int x), (0, .int x), (1, .int x2)]) hx hb dX10_commonDivisor_5 hl (by decide) rfl (fun ls hl => ?_)
  have lp19 : ∀ (fuj91 j91 : Nat) (x9 : Int32) (x10 : Int32) (H : Heap) (locs : List Loc) (ls : Array Slot), j91 ≤ 64 → 64 - j91 < fuj91 → va_P D vwCl [] H → va_D A [] → va_S A s.heap H locs → lv_has ls 6 [(4, .int (nI j91)), (3, .int x9), (2, .int x10), (0, .int x), (1, .int x2)] → W pZ l eZ ({ frames := 1, cells := 0, slots := 0, locals := 60 }) s mZ [.int x, .int x2].toArray beZ meZ cZ H locs 0 0 (MQ beZ (va_Qi (fun (r : Int32) (u : Unit) => ¬ r = 0) (kw_B D (fun _ => []) A) A) [.int x, .int x2].toArray s 0 0 A) (F0 mZ 7 ls []) := by
    intro fuj91
    induction fuj91 with
    | zero => intro j91 x9 x10 H locs ls hj9 hf9; exact absurd hf9 (Nat.not_lt_zero _)
    | succ fuj91 ihj91 =>
      intro j91 x9 x10 H locs ls hj91 hfj91  hP hD hS hl
      refine lv_iload hx hb dX10_commonDivisor_7 (lv_at hl 0 rfl) ?_
      refine lv_bipush (v := 64) hx hb dX10_commonDivisor_9 (by decide) ?_
      refine lv_icmp_ge (tgt := 34) hx hb dX10_commonDivisor_11 (by decide) (fun h20 => ?_) (fun h21 => ?_)
      · skip
        have h20 : 64 ≤ j91 := (nI_leI (a := 64) (b := j91) (by omega) (by omega)).mp h20
        refine lv_iload_n hx hb dX10_commonDivisor_34 rfl (lv_at hl 2 rfl) ?_
        refine lv_if_ne (tgt := 42) hx hb dX10_commonDivisor_35 (by decide) (fun h22 => ?_) (fun h23 => ?_)
        · skip
          refine lv_iload_n hx hb dX10_commonDivisor_42 rfl (lv_at hl 2 rfl) ?_
          exact W.iret (v := x10) hx hb hr (fun tZ ht hW => ⟨⟨x10, (), rfl, h22, by rw [ht]; exact hP.sub [] rfl, hD.sub [] (by decide) rfl⟩, hS.F ht⟩) hS.2.2 dX10_commonDivisor_43
        · skip
          refine lv_iconst (v := 1) hx hb dX10_commonDivisor_38 (by decide) ?_
          refine lv_goto (tgt := 43) hx hb dX10_commonDivisor_39 (by decide) ?_
          exact W.iret (v := 1) hx hb hr (fun tZ ht hW => ⟨⟨1, (), rfl, by decide, by rw [ht]; exact hP.sub [] rfl, hD.sub [] (by decide) rfl⟩, hS.F ht⟩) hS.2.2 dX10_commonDivisor_43
      · skip
        have h21 : ¬ 64 ≤ j91 := fun q9 => h21 ((nI_leI (a := 64) (b := j91) (by omega) (by omega)).mpr q9)
        refine lv_iload_n hx hb dX10_commonDivisor_14 rfl (lv_at hl 1 rfl) ?_
        refine lv_if_eq (tgt := 34) hx hb dX10_commonDivisor_15 (by decide) (fun h24 => ?_) (fun h25 => ?_)
        · skip
          refine lv_iload_n hx hb dX10_commonDivisor_34 rfl (lv_at hl 2 rfl) ?_
          refine lv_if_ne (tgt := 42) hx hb dX10_commonDivisor_35 (by decide) (fun h26 => ?_) (fun h27 => ?_)
          · skip
            refine lv_iload_n hx hb dX10_commonDivisor_42 rfl (lv_at hl 2 rfl) ?_
            exact W.iret (v := x10) hx hb hr (fun tZ ht hW => ⟨⟨x10, (), rfl, h26, by rw [ht]; exact hP.sub [] rfl, hD.sub [] (by decide) rfl⟩, hS.F ht⟩) hS.2.2 dX10_commonDivisor_43
          · skip
            refine lv_iconst (v := 1) hx hb dX10_commonDivisor_38 (by decide) ?_
            refine lv_goto (tgt := 43) hx hb dX10_commonDivisor_39 (by decide) ?_
            exact W.iret (v := 1) hx hb hr (fun tZ ht hW => ⟨⟨1, (), rfl, by decide, by rw [ht]; exact hP.sub [] rfl, hD.sub [] (by decide) rfl⟩, hS.F ht⟩) hS.2.2 dX10_commonDivisor_43
        · skip
          refine lv_iload_n hx hb dX10_commonDivisor_18 rfl (lv_at hl 2 rfl) ?_
          refine lv_iload_n hx hb dX10_commonDivisor_19 rfl (lv_at hl 1 rfl) ?_
          refine lv_irem hx hb dX10_commonDivisor_20 (h25) ?_
          refine lv_istore (lv' := [(5, .int (x10 - x10 / x9 * x9)), (4, .int (nI j91)), (3, .int x9), (2, .int x10), (0, .int x), (1, .int x2)]) hx hb dX10_commonDivisor_21 hl (by decide) rfl (fun ls hl => ?_)
          refine lv_iload_n hx hb dX10_commonDivisor_23 rfl (lv_at hl 2 rfl) ?_
          refine lv_istore_n (lv' := [(2, .int x9), (5, .int (x10 - x10 / x9 * x9)), (4, .int (nI j91)), (3, .int x9), (0, .int x), (1, .int x2)]) hx hb dX10_commonDivisor_24 rfl hl (by decide) rfl (fun ls hl => ?_)
          refine lv_iload hx hb dX10_commonDivisor_25 (lv_at hl 1 rfl) ?_
          refine lv_istore_n (lv' := [(3, .int (x10 - x10 / x9 * x9)), (2, .int x9), (5, .int (x10 - x10 / x9 * x9)), (4, .int (nI j91)), (0, .int x), (1, .int x2)]) hx hb dX10_commonDivisor_27 rfl hl (by decide) rfl (fun ls hl => ?_)
          refine lv_iinc (v := (nI (j91 + 1))) (lv' := [(4, .int (nI (j91 + 1))), (3, .int (x10 - x10 / x9 * x9)), (2, .int x9), (5, .int (x10 - x10 / x9 * x9)), (0, .int x), (1, .int x2)]) hx hb dX10_commonDivisor_28 hl (k := 3) rfl (nI_1 j91) (by decide) rfl (fun ls hl => ?_)
          refine lv_goto (tgt := 7) hx hb dX10_commonDivisor_31 (by decide) ?_
          exact ihj91 (j91 + 1) (x10 - x10 / x9 * x9) x9 H locs ls (by omega) (by omega)  (hP.sub [] rfl) (hD.sub [] (by decide) rfl) hS (lv_sub hl [0, 1, 2, 4, 5] rfl)
  exact lp19 (64 + 1) 0 x2 x _ _ _ (by omega) (by omega)  hP hD hS (lv_sub hl [0, 1, 2, 3, 4] rfl)

set_option maxHeartbeats 4000000 in
set_option maxRecDepth 100000 in
theorem gc_showAll (l : Launch) (D : va_G) (y : Nat → ClassId) (g : Nat) (kk : Nat) (nw : Nat) (im : Nat) (kp : Nat) (tx : Nat) (tr : Nat) (be : Nat) (sh : Nat) (sd : Nat) (rf : Nat) (ab : Int32) (bl : Int32) (nk : Nat) (nd : Nat) (ne : Nat) (nm : Nat) (nn : Nat) (fi : Nat) (gl : Nat) (un : Nat) (mi : Nat) (no : Nat) (fk : Nat → Int32) (k0 : Nat) (k1 : Nat) (k2 : Nat) (k3 : Nat) (k4 : Nat) (k5 : Nat) (fq : Nat → Option Nat) (nd : Nat) (nl : Nat) (na : Nat) (ns : Nat) (nst : Int32) (ncl : Int32) (nnu : Int32) (nfl : Nat → Int32) (fsh : Nat → Int32) (t : Int32) (hfi : fi ≤ 6) (hgl : gl ≤ 5) (hun : un ≤ 8) (hmi : mi ≤ 4) (hno : no ≤ 6) (hk : kw_bd 6 6 fk) (hq0 : fq 0 = some k0) (hq1 : fq 1 = some k1) (hq2 : fq 2 = some k2) (hq3 : fq 3 = some k3) (hq4 : fq 4 = some k4) (hq5 : fq 5 = some k5) : kw_Mv l yX10_showAll wsX10_showAll ({ frames := 5, cells := 0, slots := 0, locals := 153 }) D y [.ref g, .int t] [(g, .inr (10, [.ref kk, .ref nw, .ref im, .ref kp, .ref tx, .ref tr, .ref be, .ref sh, .ref sd, .ref rf, .int ab, .int bl])), (nw, .inr (4, [.ref kk, .ref nk, .ref nd, .ref ne, .ref nm, .ref nn, .int (nI fi), .int (nI gl), .int (nI un), .int (nI mi), .int (nI no)])), (nk, .inl (y 0, 6, .inl fk)), (nd, .inr (1, [.ref nl, .ref na, .ref ns, .int nst, .int ncl, .int nnu])), (nl, .inl (y 0, 6, .inl nfl)), (sh, .inl (y 0, 6, .inl fsh)), (kk, .inl (y 5, 6, .inr (.inr (.inr (.inr fq))))), (k0, .inr (5, [])), (k1, .inr (8, [])), (k2, .inr (9, [])), (k3, .inr (6, [])), (k4, .inr (2, [])), (k5, .inr (3, []))] (fun (u : (Nat → Int32)) => True) (fun u => [(g, .inr (10, [.ref kk, .ref nw, .ref im, .ref kp, .ref tx, .ref tr, .ref be, .ref sh, .ref sd, .ref rf, .int ab, .int bl])), (nw, .inr (4, [.ref kk, .ref nk, .ref nd, .ref ne, .ref nm, .ref nn, .int (nI fi), .int (nI gl), .int (nI un), .int (nI mi), .int (nI no)])), (nk, .inl (y 0, 6, .inl fk)), (nd, .inr (1, [.ref nl, .ref na, .ref ns, .int nst, .int ncl, .int nnu])), (nl, .inl (y 0, 6, .inl nfl)), (sh, .inl (y 0, 6, .inl u)), (kk, .inl (y 5, 6, .inr (.inr (.inr (.inr fq))))), (k0, .inr (5, [])), (k1, .inr (8, [])), (k2, .inr (9, [])), (k3, .inr (6, [])), (k4, .inr (2, [])), (k5, .inr (3, []))]) 0 0 := by
  refine kw_Mv.of (cc := cX10_showAll) (maxL := 3) (ret := none) (by decide) rfl ?_
  intro pZ eZ s mZ beZ meZ cZ A hE
  obtain ⟨hx, hb, hr, hml, hts, hown, hlocks, hin, hA, hP, hD, hK, hN⟩ := hE
  have hS : va_S A s.heap s.heap [] := va_S.rf
  have hl := lv_entry ([.ref g, .int t]) (n := 3) (Nat.le_of_ble_eq_true rfl)
  rw [lg_entry_eq]
  generalize (lg_sl ([.ref g, .int t]) ++ List.replicate (3 - (lg_sl ([.ref g, .int t])).length) Slot.unset).toArray = ls at hl ⊢
  have hl : lv_has ls 3 [(0, .ref g), (1, .int t)] := hl
  have fw1 := hts (.fieldLink RX10 36 "GleanDusk" "now" "LGleanDusk$Parish;") (List.mem_of_getElem? (i := 1) rfl)
  have fw2 := hts (.fieldLink RX10 94 "GleanDusk$Parish" "fields" "I") (List.mem_of_getElem? (i := 2) rfl)
  have fw3 := hts (.fieldLink RX10 69 "GleanDusk" "shown" "[I") (List.mem_of_getElem? (i := 3) rfl)
  have fw4 := hts (.fieldLink RX10 140 "GleanDusk$Parish" "dusk" "LGleanDusk$Dusk;") (List.mem_of_getElem? (i := 4) rfl)
  have iw10 : ∀ w ∈ wsX100, w ∈ wsX10_showAll := fun _ h => List.mem_cons_of_mem _ (List.mem_append_left _ (List.mem_append_left _ (List.mem_append_right _ h)))
  have iw4 : ∀ w ∈ wsX40, w ∈ wsX10_showAll := fun _ h => List.mem_cons_of_mem _ (List.mem_append_left _ (List.mem_append_right _ h))
  refine lv_iconst (v := 0) hx hb dX10_showAll_0 (by decide) ?_
  refine lv_istore_n (lv' := [(2, .int 0), (0, .ref g), (1, .int t)]) hx hb dX10_showAll_1 rfl hl (by decide) rfl (fun ls hl => ?_)
  have lp12 : ∀ (fuj91 j91 : Nat) (x6 : Nat → Int32) (H : Heap) (locs : List Loc) (ls : Array Slot), j91 ≤ fi → fi - j91 < fuj91 → va_P D vwCl [(g, .inr (10, [.ref kk, .ref nw, .ref im, .ref kp, .ref tx, .ref tr, .ref be, .ref sh, .ref sd, .ref rf, .int ab, .int bl])), (nw, .inr (4, [.ref kk, .ref nk, .ref nd, .ref ne, .ref nm, .ref nn, .int (nI fi), .int (nI gl), .int (nI un), .int (nI mi), .int (nI no)])), (nk, .inl (y 0, 6, .inl fk)), (nd, .inr (1, [.ref nl, .ref na, .ref ns, .int nst, .int ncl, .int nnu])), (nl, .inl (y 0, 6, .inl nfl)), (sh, .inl (y 0, 6, .inl x6)), (kk, .inl (y 5, 6, .inr (.inr (.inr (.inr fq))))), (k0, .inr (5, [])), (k1, .inr (8, [])), (k2, .inr (9, [])), (k3, .inr (6, [])), (k4, .inr (2, [])), (k5, .inr (3, []))] H → va_D A [(g, .inr (10, [.ref kk, .ref nw, .ref im, .ref kp, .ref tx, .ref tr, .ref be, .ref sh, .ref sd, .ref rf, .int ab, .int bl])), (nw, .inr (4, [.ref kk, .ref nk, .ref nd, .ref ne, .ref nm, .ref nn, .int (nI fi), .int (nI gl), .int (nI un), .int (nI mi), .int (nI no)])), (nk, .inl (y 0, 6, .inl fk)), (nd, .inr (1, [.ref nl, .ref na, .ref ns, .int nst, .int ncl, .int nnu])), (nl, .inl (y 0, 6, .inl nfl)), (sh, .inl (y 0, 6, .inl x6)), (kk, .inl (y 5, 6, .inr (.inr (.inr (.inr fq))))), (k0, .inr (5, [])), (k1, .inr (8, [])), (k2, .inr (9, [])), (k3, .inr (6, [])), (k4, .inr (2, [])), (k5, .inr (3, []))] → va_S A s.heap H locs → lv_has ls 3 [(2, .int (nI j91)), (0, .ref g), (1, .int t)] → W pZ l eZ ({ frames := 5, cells := 0, slots := 0, locals := 153 }) s mZ [.ref g, .int t].toArray beZ meZ cZ H locs 0 0 (MQ beZ (va_Qv (fun (u : (Nat → Int32)) => True) (kw_B D (fun u => [(g, .inr (10, [.ref kk, .ref nw, .ref im, .ref kp, .ref tx, .ref tr, .ref be, .ref sh, .ref sd, .ref rf, .int ab, .int bl])), (nw, .inr (4, [.ref kk, .ref nk, .ref nd, .ref ne, .ref nm, .ref nn, .int (nI fi), .int (nI gl), .int (nI un), .int (nI mi), .int (nI no)])), (nk, .inl (y 0, 6, .inl fk)), (nd, .inr (1, [.ref nl, .ref na, .ref ns, .int nst, .int ncl, .int nnu])), (nl, .inl (y 0, 6, .inl nfl)), (sh, .inl (y 0, 6, .inl u)), (kk, .inl (y 5, 6, .inr (.inr (.inr (.inr fq))))), (k0, .inr (5, [])), (k1, .inr (8, [])), (k2, .inr (9, [])), (k3, .inr (6, [])), (k4, .inr (2, [])), (k5, .inr (3, []))]) A) A) [.ref g, .int t].toArray s 0 0 A) (F0 mZ 2 ls []) := by
    intro fuj91
    induction fuj91 with
    | zero => intro j91 x6 H locs ls hj9 hf9; exact absurd hf9 (Nat.not_lt_zero _)
    | succ fuj91 ihj91 =>
      intro j91 x6 H locs ls hj91 hfj91  hP hD hS hl
      refine lv_iload_n hx hb dX10_showAll_2 rfl (lv_at hl 0 rfl) ?_
      refine lv_aload_n hx hb dX10_showAll_3 rfl (lv_at hl 1 rfl) ?_
      refine va_get (D := D) (ci := 10) (v := .ref nw) (C := RX10) (T := TX10) (N := 12) hx hb hts iw10 hown hK hP 0 rfl rfl 1 (by decide) fw1 (fun _ h9 => h9) rfl dX10_showAll_4 ?_
      refine va_get (D := D) (ci := 4) (v := .int (nI fi)) (C := RX4) (T := TX4) (N := 11) hx hb hts iw4 hown hK hP 1 rfl rfl 6 (by decide) fw2 (fun _ h9 => h9) rfl dX10_showAll_7 ?_
      refine lv_icmp_ge (tgt := 41) hx hb dX10_showAll_10 (by decide) (fun h13 => ?_) (fun h14 => ?_)
      · skip
        have h13 : fi ≤ j91 := (nI_leI (a := fi) (b := j91) (by omega) (by omega)).mp h13
        exact W.vret hx hb hr (fun tZ ht hW => ⟨⟨(x6), rfl, trivial, by rw [ht]; exact hP.sub [0, 1, 2, 3, 4, 5, 6, 7, 8, 9, 10, 11, 12] rfl, hD.sub [0, 1, 2, 3, 4, 5, 6, 7, 8, 9, 10, 11, 12] (by decide) rfl⟩, hS.F ht⟩) hS.2.2 dX10_showAll_41
      · skip
        have h14 : ¬ fi ≤ j91 := fun q9 => h14 ((nI_leI (a := fi) (b := j91) (by omega) (by omega)).mpr q9)
        refine lv_aload_n hx hb dX10_showAll_13 rfl (lv_at hl 1 rfl) ?_
        refine va_get (D := D) (ci := 10) (v := .ref sh) (C := RX10) (T := TX10) (N := 12) hx hb hts iw10 hown hK hP 0 rfl rfl 7 (by decide) fw3 (fun _ h9 => h9) rfl dX10_showAll_14 ?_
        refine lv_iload_n hx hb dX10_showAll_17 rfl (lv_at hl 0 rfl) ?_
        refine lv_aload_n hx hb dX10_showAll_18 rfl (lv_at hl 1 rfl) ?_
        refine va_get (D := D) (ci := 10) (v := .ref nw) (C := RX10) (T := TX10) (N := 12) hx hb hts iw10 hown hK hP 0 rfl rfl 1 (by decide) fw1 (fun _ h9 => h9) rfl dX10_showAll_19 ?_
        refine lv_aload_n hx hb dX10_showAll_22 rfl (lv_at hl 1 rfl) ?_
        refine va_get (D := D) (ci := 10) (v := .ref nw) (C := RX10) (T := TX10) (N := 12) hx hb hts iw10 hown hK hP 0 rfl rfl 1 (by decide) fw1 (fun _ h9 => h9) rfl dX10_showAll_23 ?_
        refine va_get (D := D) (ci := 4) (v := .ref nd) (C := RX4) (T := TX4) (N := 11) hx hb hts iw4 hown hK hP 1 rfl rfl 2 (by decide) fw4 (fun _ h9 => h9) rfl dX10_showAll_26 ?_
        refine lv_iload_n hx hb dX10_showAll_29 rfl (lv_at hl 0 rfl) ?_
        refine lv_iload_n hx hb dX10_showAll_30 rfl (lv_at hl 2 rfl) ?_
        have hs15 : kw_Split [(g, .inr (10, [.ref kk, .ref nw, .ref im, .ref kp, .ref tx, .ref tr, .ref be, .ref sh, .ref sd, .ref rf, .int ab, .int bl])), (nw, .inr (4, [.ref kk, .ref nk, .ref nd, .ref ne, .ref nm, .ref nn, .int (nI fi), .int (nI gl), .int (nI un), .int (nI mi), .int (nI no)])), (nk, .inl (y 0, 6, .inl fk)), (nd, .inr (1, [.ref nl, .ref na, .ref ns, .int nst, .int ncl, .int nnu])), (nl, .inl (y 0, 6, .inl nfl)), (sh, .inl (y 0, 6, .inl x6)), (kk, .inl (y 5, 6, .inr (.inr (.inr (.inr fq))))), (k0, .inr (5, [])), (k1, .inr (8, [])), (k2, .inr (9, [])), (k3, .inr (6, [])), (k4, .inr (2, [])), (k5, .inr (3, []))] [(nw, .inr (4, [.ref kk, .ref nk, .ref nd, .ref ne, .ref nm, .ref nn, .int (nI fi), .int (nI gl), .int (nI un), .int (nI mi), .int (nI no)])), (nk, .inl (y 0, 6, .inl fk)), (nd, .inr (1, [.ref nl, .ref na, .ref ns, .int nst, .int ncl, .int nnu])), (nl, .inl (y 0, 6, .inl nfl)), (kk, .inl (y 5, 6, .inr (.inr (.inr (.inr fq))))), (k0, .inr (5, [])), (k1, .inr (8, [])), (k2, .inr (9, [])), (k3, .inr (6, [])), (k4, .inr (2, [])), (k5, .inr (3, []))] [(g, .inr (10, [.ref kk, .ref nw, .ref im, .ref kp, .ref tx, .ref tr, .ref be, .ref sh, .ref sd, .ref rf, .int ab, .int bl])), (sh, .inl (y 0, 6, .inl x6))] [1, 2, 3, 4, 6, 7, 8, 9, 10, 11, 12] [0, 5] := ⟨rfl, rfl, rfl, rfl, rfl, by decide⟩
        refine kw_go_i hs15 hP hD hS hA (va_runV (As := [.ref nd, .int (nI j91), .int t]) (rest := [.int (nI j91), .ref sh]) ⟨hx, hb, hml, hown, hts⟩ (gc_shows l D y nw kk nk nd ne nm nn fi gl un mi no nd nl na ns nst ncl nnu nfl fk k0 k1 k2 k3 k4 k5 fq j91 t hfi hgl hun hmi hno hk hq0 hq1 hq2 hq3 hq4 hq5 (by omega) _) (cwV 3 hts gX10_showAll_X4_shows rfl rfl rfl (by decide +kernel) ⟨Nat.le_of_ble_eq_true rfl, Nat.le_of_ble_eq_true rfl⟩) (kw_PreV (ci := 4) (q0 := 1) hs15 hP hD hK hN rfl rfl) rfl rfl hl.1 rfl (lv_room (Nat.le_of_ble_eq_true rfl)) dX10_showAll_31 ⟨Nat.le_of_ble_eq_true rfl, Nat.le_of_ble_eq_true rfl⟩) (fun r16 u17 H locs hq hP hD hS => ?_)
        have hP : va_P D vwCl [(g, .inr (10, [.ref kk, .ref nw, .ref im, .ref kp, .ref tx, .ref tr, .ref be, .ref sh, .ref sd, .ref rf, .int ab, .int bl])), (sh, .inl (y 0, 6, .inl x6)), (nw, .inr (4, [.ref kk, .ref nk, .ref nd, .ref ne, .ref nm, .ref nn, .int (nI fi), .int (nI gl), .int (nI un), .int (nI mi), .int (nI no)])), (nk, .inl (y 0, 6, .inl fk)), (nd, .inr (1, [.ref nl, .ref na, .ref ns, .int nst, .int ncl, .int nnu])), (nl, .inl (y 0, 6, .inl nfl)), (kk, .inl (y 5, 6, .inr (.inr (.inr (.inr fq))))), (k0, .inr (5, [])), (k1, .inr (8, [])), (k2, .inr (9, [])), (k3, .inr (6, [])), (k4, .inr (2, [])), (k5, .inr (3, []))] H := hP
        have hD : va_D A [(g, .inr (10, [.ref kk, .ref nw, .ref im, .ref kp, .ref tx, .ref tr, .ref be, .ref sh, .ref sd, .ref rf, .int ab, .int bl])), (sh, .inl (y 0, 6, .inl x6)), (nw, .inr (4, [.ref kk, .ref nk, .ref nd, .ref ne, .ref nm, .ref nn, .int (nI fi), .int (nI gl), .int (nI un), .int (nI mi), .int (nI no)])), (nk, .inl (y 0, 6, .inl fk)), (nd, .inr (1, [.ref nl, .ref na, .ref ns, .int nst, .int ncl, .int nnu])), (nl, .inl (y 0, 6, .inl nfl)), (kk, .inl (y 5, 6, .inr (.inr (.inr (.inr fq))))), (k0, .inr (5, [])), (k1, .inr (8, [])), (k2, .inr (9, [])), (k3, .inr (6, [])), (k4, .inr (2, [])), (k5, .inr (3, []))] := hD
        refine va_iast hx hb hK hP hD hS 1 0 rfl rfl (vp_in_nI (by omega) (by decide)) dX10_showAll_34 (fun H locs hP hD hS => ?_)
        rw [nI_clamp (n := j91) (by omega)] at hP hD
        have hP : va_P D vwCl [(g, .inr (10, [.ref kk, .ref nw, .ref im, .ref kp, .ref tx, .ref tr, .ref be, .ref sh, .ref sd, .ref rf, .int ab, .int bl])), (sh, .inl (y 0, 6, .inl (upd x6 j91 r16))), (nw, .inr (4, [.ref kk, .ref nk, .ref nd, .ref ne, .ref nm, .ref nn, .int (nI fi), .int (nI gl), .int (nI un), .int (nI mi), .int (nI no)])), (nk, .inl (y 0, 6, .inl fk)), (nd, .inr (1, [.ref nl, .ref na, .ref ns, .int nst, .int ncl, .int nnu])), (nl, .inl (y 0, 6, .inl nfl)), (kk, .inl (y 5, 6, .inr (.inr (.inr (.inr fq))))), (k0, .inr (5, [])), (k1, .inr (8, [])), (k2, .inr (9, [])), (k3, .inr (6, [])), (k4, .inr (2, [])), (k5, .inr (3, []))] H := hP
        have hD : va_D A [(g, .inr (10, [.ref kk, .ref nw, .ref im, .ref kp, .ref tx, .ref tr, .ref be, .ref sh, .ref sd, .ref rf, .int ab, .int bl])), (sh, .inl (y 0, 6, .inl (upd x6 j91 r16))), (nw, .inr (4, [.ref kk, .ref nk, .ref nd, .ref ne, .ref nm, .ref nn, .int (nI fi), .int (nI gl), .int (nI un), .int (nI mi), .int (nI no)])), (nk, .inl (y 0, 6, .inl fk)), (nd, .inr (1, [.ref nl, .ref na, .ref ns, .int nst, .int ncl, .int nnu])), (nl, .inl (y 0, 6, .inl nfl)), (kk, .inl (y 5, 6, .inr (.inr (.inr (.inr fq))))), (k0, .inr (5, [])), (k1, .inr (8, [])), (k2, .inr (9, [])), (k3, .inr (6, [])), (k4, .inr (2, [])), (k5, .inr (3, []))] := hD
        refine lv_iinc (v := (nI (j91 + 1))) (lv' := [(2, .int (nI (j91 + 1))), (0, .ref g), (1, .int t)]) hx hb dX10_showAll_35 hl (k := 0) rfl (nI_1 j91) (by decide) rfl (fun ls hl => ?_)
        refine lv_goto (tgt := 2) hx hb dX10_showAll_38 (by decide) ?_
        exact ihj91 (j91 + 1) (upd x6 j91 r16) H locs ls (by omega) (by omega)  (hP.sub [0, 2, 3, 4, 5, 1, 6, 7, 8, 9, 10, 11, 12] rfl) (hD.sub [0, 2, 3, 4, 5, 1, 6, 7, 8, 9, 10, 11, 12] (by decide) rfl) hS (lv_sub hl [0, 1, 2] rfl)
  exact lp12 (fi + 1) 0 fsh _ _ _ (by omega) (by omega)  hP hD hS (lv_sub hl [0, 1, 2] rfl)

set_option maxHeartbeats 4000000 in
set_option maxRecDepth 100000 in
theorem gc_allGet (l : Launch) (D : va_G) (y : Nat → ClassId) (g : Nat) (kk : Nat) (nw : Nat) (im : Nat) (kp : Nat) (tx : Nat) (tr : Nat) (be : Nat) (sh : Nat) (sd : Nat) (rf : Nat) (ab : Int32) (bl : Int32) (nk : Nat) (nd : Nat) (ne : Nat) (nm : Nat) (nn : Nat) (fi : Nat) (gl : Nat) (un : Nat) (mi : Nat) (no : Nat) (fsh : Nat → Int32) (fsd : Nat → Int32) (hfi : fi ≤ 6) (hgl : gl ≤ 5) (hun : un ≤ 8) (hmi : mi ≤ 4) (hno : no ≤ 6) : kw_Mi l yX10_allGet wsX10_allGet ({ frames := 1, cells := 0, slots := 0, locals := 60 }) D y [.ref g] [(g, .inr (10, [.ref kk, .ref nw, .ref im, .ref kp, .ref tx, .ref tr, .ref be, .ref sh, .ref sd, .ref rf, .int ab, .int bl])), (nw, .inr (4, [.ref kk, .ref nk, .ref nd, .ref ne, .ref nm, .ref nn, .int (nI fi), .int (nI gl), .int (nI un), .int (nI mi), .int (nI no)])), (sh, .inl (y 0, 6, .inl fsh)), (sd, .inl (y 0, 6, .inl fsd))] (fun (r : Int32) (u : Unit) => True) (fun _ => [(g, .inr (10, [.ref kk, .ref nw, .ref im, .ref kp, .ref tx, .ref tr, .ref be, .ref sh, .ref sd, .ref rf, .int ab, .int bl])), (nw, .inr (4, [.ref kk, .ref nk, .ref nd, .ref ne, .ref nm, .ref nn, .int (nI fi), .int (nI gl), .int (nI un), .int (nI mi), .int (nI no)])), (sh, .inl (y 0, 6, .inl fsh)), (sd, .inl (y 0, 6, .inl fsd))]) 0 0 := by
  refine kw_Mi.of (cc := cX10_allGet) (maxL := 3) (ret := (some .int)) (by decide) rfl ?_
  intro pZ eZ s mZ beZ meZ cZ A hE
  obtain ⟨hx, hb, hr, hml, hts, hown, hlocks, hin, hA, hP, hD, hK, hN⟩ := hE
  have hS : va_S A s.heap s.heap [] := va_S.rf
  have hl := lv_entry ([.ref g]) (n := 3) (Nat.le_of_ble_eq_true rfl)
  rw [lg_entry_eq]
  generalize (lg_sl ([.ref g]) ++ List.replicate (3 - (lg_sl ([.ref g])).length) Slot.unset).toArray = ls at hl ⊢
  have hl : lv_has ls 3 [(0, .ref g)] := hl
  have fw1 := hts (.fieldLink RX10 36 "GleanDusk" "now" "LGleanDusk$Parish;") (List.mem_of_getElem? (i := 1) rfl)
  have fw2 := hts (.fieldLink RX10 94 "GleanDusk$Parish" "fields" "I") (List.mem_of_getElem? (i := 2) rfl)
  have fw3 := hts (.fieldLink RX10 73 "GleanDusk" "standing" "[I") (List.mem_of_getElem? (i := 3) rfl)
  have fw4 := hts (.fieldLink RX10 69 "GleanDusk" "shown" "[I") (List.mem_of_getElem? (i := 4) rfl)
  have iw10 : ∀ w ∈ wsX100, w ∈ wsX10_allGet := fun _ h => List.mem_cons_of_mem _ (List.mem_append_left _ (List.mem_append_right _ h))
  have iw4 : ∀ w ∈ wsX40, w ∈ wsX10_allGet := fun _ h => List.mem_cons_of_mem _ (List.mem_append_right _ h)
  refine lv_iconst (v := 0) hx hb dX10_allGet_0 (by decide) ?_
  refine lv_istore_n (lv' := [(1, .int 0), (0, .ref g)]) hx hb dX10_allGet_1 rfl hl (by decide) rfl (fun ls hl => ?_)
  refine lv_iconst (v := 0) hx hb dX10_allGet_2 (by decide) ?_
  refine lv_istore_n (lv' := [(2, .int 0), (1, .int 0), (0, .ref g)]) hx hb dX10_allGet_3 rfl hl (by decide) rfl (fun ls hl => ?_)
  have lp10 : ∀ (fuj91 j91 : Nat) (x5 : Int32) (H : Heap) (locs : List Loc) (ls : Array Slot), j91 ≤ fi → fi - j91 < fuj91 → va_P D vwCl [(g, .inr (10, [.ref kk, .ref nw, .ref im, .ref kp, .ref tx, .ref tr, .ref be, .ref sh, .ref sd, .ref rf, .int ab, .int bl])), (nw, .inr (4, [.ref kk, .ref nk, .ref nd, .ref ne, .ref nm, .ref nn, .int (nI fi), .int (nI gl), .int (nI un), .int (nI mi), .int (nI no)])), (sh, .inl (y 0, 6, .inl fsh)), (sd, .inl (y 0, 6, .inl fsd))] H → va_D A [(g, .inr (10, [.ref kk, .ref nw, .ref im, .ref kp, .ref tx, .ref tr, .ref be, .ref sh, .ref sd, .ref rf, .int ab, .int bl])), (nw, .inr (4, [.ref kk, .ref nk, .ref nd, .ref ne, .ref nm, .ref nn, .int (nI fi), .int (nI gl), .int (nI un), .int (nI mi), .int (nI no)])), (sh, .inl (y 0, 6, .inl fsh)), (sd, .inl (y 0, 6, .inl fsd))] → va_S A s.heap H locs → lv_has ls 3 [(2, .int (nI j91)), (1, .int x5), (0, .ref g)] → W pZ l eZ ({ frames := 1, cells := 0, slots := 0, locals := 60 }) s mZ [.ref g].toArray beZ meZ cZ H locs 0 0 (MQ beZ (va_Qi (fun (r : Int32) (u : Unit) => True) (kw_B D (fun _ => [(g, .inr (10, [.ref kk, .ref nw, .ref im, .ref kp, .ref tx, .ref tr, .ref be, .ref sh, .ref sd, .ref rf, .int ab, .int bl])), (nw, .inr (4, [.ref kk, .ref nk, .ref nd, .ref ne, .ref nm, .ref nn, .int (nI fi), .int (nI gl), .int (nI un), .int (nI mi), .int (nI no)])), (sh, .inl (y 0, 6, .inl fsh)), (sd, .inl (y 0, 6, .inl fsd))]) A) A) [.ref g].toArray s 0 0 A) (F0 mZ 4 ls []) := by
    intro fuj91
    induction fuj91 with
    | zero => intro j91 x5 H locs ls hj9 hf9; exact absurd hf9 (Nat.not_lt_zero _)
    | succ fuj91 ihj91 =>
      intro j91 x5 H locs ls hj91 hfj91  hP hD hS hl
      refine lv_iload_n hx hb dX10_allGet_4 rfl (lv_at hl 0 rfl) ?_
      refine lv_aload_n hx hb dX10_allGet_5 rfl (lv_at hl 2 rfl) ?_
      refine va_get (D := D) (ci := 10) (v := .ref nw) (C := RX10) (T := TX10) (N := 12) hx hb hts iw10 hown hK hP 0 rfl rfl 1 (by decide) fw1 (fun _ h9 => h9) rfl dX10_allGet_6 ?_
      refine va_get (D := D) (ci := 4) (v := .int (nI fi)) (C := RX4) (T := TX4) (N := 11) hx hb hts iw4 hown hK hP 1 rfl rfl 6 (by decide) fw2 (fun _ h9 => h9) rfl dX10_allGet_9 ?_
      refine lv_icmp_ge (tgt := 53) hx hb dX10_allGet_12 (by decide) (fun h11 => ?_) (fun h12 => ?_)
      · skip
        have h11 : fi ≤ j91 := (nI_leI (a := fi) (b := j91) (by omega) (by omega)).mp h11
        refine lv_iload_n hx hb dX10_allGet_53 rfl (lv_at hl 1 rfl) ?_
        exact W.iret (v := x5) hx hb hr (fun tZ ht hW => ⟨⟨x5, (), rfl, trivial, by rw [ht]; exact hP.sub [0, 1, 2, 3] rfl, hD.sub [0, 1, 2, 3] (by decide) rfl⟩, hS.F ht⟩) hS.2.2 dX10_allGet_54
      · skip
        have h12 : ¬ fi ≤ j91 := fun q9 => h12 ((nI_leI (a := fi) (b := j91) (by omega) (by omega)).mpr q9)
        refine lv_aload_n hx hb dX10_allGet_15 rfl (lv_at hl 2 rfl) ?_
        refine va_get (D := D) (ci := 10) (v := .ref sd) (C := RX10) (T := TX10) (N := 12) hx hb hts iw10 hown hK hP 0 rfl rfl 8 (by decide) fw3 (fun _ h9 => h9) rfl dX10_allGet_16 ?_
        refine lv_iload_n hx hb dX10_allGet_19 rfl (lv_at hl 0 rfl) ?_
        refine va_iald hx hb hK hP 3 0 rfl rfl (vp_in_nI (by omega) (by decide)) dX10_allGet_20 ?_
        rw [nI_clamp (n := j91) (by omega)]
        refine lv_if_le (tgt := 47) hx hb dX10_allGet_21 (by decide) (fun h13 => ?_) (fun h14 => ?_)
        · skip
          refine lv_iinc (v := (nI (j91 + 1))) (lv' := [(2, .int (nI (j91 + 1))), (1, .int x5), (0, .ref g)]) hx hb dX10_allGet_47 hl (k := 0) rfl (nI_1 j91) (by decide) rfl (fun ls hl => ?_)
          refine lv_goto (tgt := 4) hx hb dX10_allGet_50 (by decide) ?_
          exact ihj91 (j91 + 1) x5 H locs ls (by omega) (by omega)  (hP.sub [0, 1, 2, 3] rfl) (hD.sub [0, 1, 2, 3] (by decide) rfl) hS (lv_sub hl [0, 1, 2] rfl)
        · skip
          refine lv_iload_n hx hb dX10_allGet_24 rfl (lv_at hl 1 rfl) ?_
          refine lv_aload_n hx hb dX10_allGet_25 rfl (lv_at hl 2 rfl) ?_
          refine va_get (D := D) (ci := 10) (v := .ref sh) (C := RX10) (T := TX10) (N := 12) hx hb hts iw10 hown hK hP 0 rfl rfl 7 (by decide) fw4 (fun _ h9 => h9) rfl dX10_allGet_26 ?_
          refine lv_iload_n hx hb dX10_allGet_29 rfl (lv_at hl 0 rfl) ?_
          refine va_iald hx hb hK hP 2 0 rfl rfl (vp_in_nI (by omega) (by decide)) dX10_allGet_30 ?_
          rw [nI_clamp (n := j91) (by omega)]
          refine lv_aload_n hx hb dX10_allGet_31 rfl (lv_at hl 2 rfl) ?_
          refine va_get (D := D) (ci := 10) (v := .ref sd) (C := RX10) (T := TX10) (N := 12) hx hb hts iw10 hown hK hP 0 rfl rfl 8 (by decide) fw3 (fun _ h9 => h9) rfl dX10_allGet_32 ?_
          refine lv_iload_n hx hb dX10_allGet_35 rfl (lv_at hl 0 rfl) ?_
          refine va_iald hx hb hK hP 3 0 rfl rfl (vp_in_nI (by omega) (by decide)) dX10_allGet_36 ?_
          rw [nI_clamp (n := j91) (by omega)]
          refine lv_idiv hx hb dX10_allGet_37 (kw_nz h14) ?_
          refine lv_aload_n hx hb dX10_allGet_38 rfl (lv_at hl 2 rfl) ?_
          refine va_get (D := D) (ci := 10) (v := .ref sd) (C := RX10) (T := TX10) (N := 12) hx hb hts iw10 hown hK hP 0 rfl rfl 8 (by decide) fw3 (fun _ h9 => h9) rfl dX10_allGet_39 ?_
          refine lv_iload_n hx hb dX10_allGet_42 rfl (lv_at hl 0 rfl) ?_
          refine va_iald hx hb hK hP 3 0 rfl rfl (vp_in_nI (by omega) (by decide)) dX10_allGet_43 ?_
          rw [nI_clamp (n := j91) (by omega)]
          refine lv_imul hx hb dX10_allGet_44 ?_
          refine lv_iadd hx hb dX10_allGet_45 ?_
          refine lv_istore_n (lv' := [(1, .int (x5 + (((fsh j91) / (fsd j91)) * (fsd j91)))), (2, .int (nI j91)), (0, .ref g)]) hx hb dX10_allGet_46 rfl hl (by decide) rfl (fun ls hl => ?_)
          refine lv_iinc (v := (nI (j91 + 1))) (lv' := [(2, .int (nI (j91 + 1))), (1, .int (x5 + (((fsh j91) / (fsd j91)) * (fsd j91)))), (0, .ref g)]) hx hb dX10_allGet_47 hl (k := 1) rfl (nI_1 j91) (by decide) rfl (fun ls hl => ?_)
          refine lv_goto (tgt := 4) hx hb dX10_allGet_50 (by decide) ?_
          exact ihj91 (j91 + 1) (x5 + (((fsh j91) / (fsd j91)) * (fsd j91))) H locs ls (by omega) (by omega)  (hP.sub [0, 1, 2, 3] rfl) (hD.sub [0, 1, 2, 3] (by decide) rfl) hS (lv_sub hl [0, 1, 2] rfl)
  exact lp10 (fi + 1) 0 0 _ _ _ (by omega) (by omega)  hP hD hS (lv_sub hl [0, 1, 2] rfl)

set_option maxHeartbeats 4000000 in
set_option maxRecDepth 100000 in
theorem gc_poorestGets (l : Launch) (D : va_G) (y : Nat → ClassId) (g : Nat) (kk : Nat) (nw : Nat) (im : Nat) (kp : Nat) (tx : Nat) (tr : Nat) (be : Nat) (sh : Nat) (sd : Nat) (rf : Nat) (ab : Int32) (bl : Int32) (nk : Nat) (nd : Nat) (ne : Nat) (nm : Nat) (nn : Nat) (fi : Nat) (gl : Nat) (un : Nat) (mi : Nat) (no : Nat) (fsh : Nat → Int32) (fsd : Nat → Int32) (hfi : fi ≤ 6) (hgl : gl ≤ 5) (hun : un ≤ 8) (hmi : mi ≤ 4) (hno : no ≤ 6) : kw_Mi l yX10_poorestGets wsX10_poorestGets ({ frames := 1, cells := 0, slots := 0, locals := 60 }) D y [.ref g] [(g, .inr (10, [.ref kk, .ref nw, .ref im, .ref kp, .ref tx, .ref tr, .ref be, .ref sh, .ref sd, .ref rf, .int ab, .int bl])), (nw, .inr (4, [.ref kk, .ref nk, .ref nd, .ref ne, .ref nm, .ref nn, .int (nI fi), .int (nI gl), .int (nI un), .int (nI mi), .int (nI no)])), (sh, .inl (y 0, 6, .inl fsh)), (sd, .inl (y 0, 6, .inl fsd))] (fun (r : Int32) (u : Unit) => True) (fun _ => [(g, .inr (10, [.ref kk, .ref nw, .ref im, .ref kp, .ref tx, .ref tr, .ref be, .ref sh, .ref sd, .ref rf, .int ab, .int bl])), (nw, .inr (4, [.ref kk, .ref nk, .ref nd, .ref ne, .ref nm, .ref nn, .int (nI fi), .int (nI gl), .int (nI un), .int (nI mi), .int (nI no)])), (sh, .inl (y 0, 6, .inl fsh)), (sd, .inl (y 0, 6, .inl fsd))]) 0 0 := by
  refine kw_Mi.of (cc := cX10_poorestGets) (maxL := 3) (ret := (some .int)) (by decide) rfl ?_
  intro pZ eZ s mZ beZ meZ cZ A hE
  obtain ⟨hx, hb, hr, hml, hts, hown, hlocks, hin, hA, hP, hD, hK, hN⟩ := hE
  have hS : va_S A s.heap s.heap [] := va_S.rf
  have hl := lv_entry ([.ref g]) (n := 3) (Nat.le_of_ble_eq_true rfl)
  rw [lg_entry_eq]
  generalize (lg_sl ([.ref g]) ++ List.replicate (3 - (lg_sl ([.ref g])).length) Slot.unset).toArray = ls at hl ⊢
  have hl : lv_has ls 3 [(0, .ref g)] := hl
  have fw1 := hts (.constant RX10 324 (2147483647)) (List.mem_of_getElem? (i := 1) rfl)
  have fw2 := hts (.fieldLink RX10 36 "GleanDusk" "now" "LGleanDusk$Parish;") (List.mem_of_getElem? (i := 2) rfl)
  have fw3 := hts (.fieldLink RX10 94 "GleanDusk$Parish" "fields" "I") (List.mem_of_getElem? (i := 3) rfl)
  have fw4 := hts (.fieldLink RX10 73 "GleanDusk" "standing" "[I") (List.mem_of_getElem? (i := 4) rfl)
  have fw5 := hts (.fieldLink RX10 69 "GleanDusk" "shown" "[I") (List.mem_of_getElem? (i := 5) rfl)
  have fw6 := hts (.methodLink RX10 204 Lib.Math.min.name) (List.mem_of_getElem? (i := 6) rfl)
  have fw7 := hts (.static Lib.Math.min.name) (List.mem_of_getElem? (i := 7) rfl)
  have fw8 := hts (.initialized "java/lang/Math") (List.mem_of_getElem? (i := 8) rfl)
  have fw9 := hts (.code Lib.Math.min.name Lib.Math.min.code 2 (some .int)) (List.mem_of_getElem? (i := 9) rfl)
  have iw10 : ∀ w ∈ wsX100, w ∈ wsX10_poorestGets := fun _ h => List.mem_cons_of_mem _ (List.mem_append_left _ (List.mem_append_right _ h))
  have iw4 : ∀ w ∈ wsX40, w ∈ wsX10_poorestGets := fun _ h => List.mem_cons_of_mem _ (List.mem_append_right _ h)
  refine lv_ldcw (v := 2147483647) hx hb hown fw1 dX10_poorestGets_0 ?_
  refine lv_istore_n (lv' := [(1, .int 2147483647), (0, .ref g)]) hx hb dX10_poorestGets_3 rfl hl (by decide) rfl (fun ls hl => ?_)
  refine lv_iconst (v := 0) hx hb dX10_poorestGets_4 (by decide) ?_
  refine lv_istore_n (lv' := [(2, .int 0), (1, .int 2147483647), (0, .ref g)]) hx hb dX10_poorestGets_5 rfl hl (by decide) rfl (fun ls hl => ?_)
  have lp10 : ∀ (fuj91 j91 : Nat) (x5 : Int32) (H : Heap) (locs : List Loc) (ls : Array Slot), j91 ≤ fi → fi - j91 < fuj91 → va_P D vwCl [(g, .inr (10, [.ref kk, .ref nw, .ref im, .ref kp, .ref tx, .ref tr, .ref be, .ref sh, .ref sd, .ref rf, .int ab, .int bl])), (nw, .inr (4, [.ref kk, .ref nk, .ref nd, .ref ne, .ref nm, .ref nn, .int (nI fi), .int (nI gl), .int (nI un), .int (nI mi), .int (nI no)])), (sh, .inl (y 0, 6, .inl fsh)), (sd, .inl (y 0, 6, .inl fsd))] H → va_D A [(g, .inr (10, [.ref kk, .ref nw, .ref im, .ref kp, .ref tx, .ref tr, .ref be, .ref sh, .ref sd, .ref rf, .int ab, .int bl])), (nw, .inr (4, [.ref kk, .ref nk, .ref nd, .ref ne, .ref nm, .ref nn, .int (nI fi), .int (nI gl), .int (nI un), .int (nI mi), .int (nI no)])), (sh, .inl (y 0, 6, .inl fsh)), (sd, .inl (y 0, 6, .inl fsd))] → va_S A s.heap H locs → lv_has ls 3 [(2, .int (nI j91)), (1, .int x5), (0, .ref g)] → W pZ l eZ ({ frames := 1, cells := 0, slots := 0, locals := 60 }) s mZ [.ref g].toArray beZ meZ cZ H locs 0 0 (MQ beZ (va_Qi (fun (r : Int32) (u : Unit) => True) (kw_B D (fun _ => [(g, .inr (10, [.ref kk, .ref nw, .ref im, .ref kp, .ref tx, .ref tr, .ref be, .ref sh, .ref sd, .ref rf, .int ab, .int bl])), (nw, .inr (4, [.ref kk, .ref nk, .ref nd, .ref ne, .ref nm, .ref nn, .int (nI fi), .int (nI gl), .int (nI un), .int (nI mi), .int (nI no)])), (sh, .inl (y 0, 6, .inl fsh)), (sd, .inl (y 0, 6, .inl fsd))]) A) A) [.ref g].toArray s 0 0 A) (F0 mZ 6 ls []) := by
    intro fuj91
    induction fuj91 with
    | zero => intro j91 x5 H locs ls hj9 hf9; exact absurd hf9 (Nat.not_lt_zero _)
    | succ fuj91 ihj91 =>
      intro j91 x5 H locs ls hj91 hfj91  hP hD hS hl
      refine lv_iload_n hx hb dX10_poorestGets_6 rfl (lv_at hl 0 rfl) ?_
      refine lv_aload_n hx hb dX10_poorestGets_7 rfl (lv_at hl 2 rfl) ?_
      refine va_get (D := D) (ci := 10) (v := .ref nw) (C := RX10) (T := TX10) (N := 12) hx hb hts iw10 hown hK hP 0 rfl rfl 1 (by decide) fw2 (fun _ h9 => h9) rfl dX10_poorestGets_8 ?_
      refine va_get (D := D) (ci := 4) (v := .int (nI fi)) (C := RX4) (T := TX4) (N := 11) hx hb hts iw4 hown hK hP 1 rfl rfl 6 (by decide) fw3 (fun _ h9 => h9) rfl dX10_poorestGets_11 ?_
      refine lv_icmp_ge (tgt := 50) hx hb dX10_poorestGets_14 (by decide) (fun h11 => ?_) (fun h12 => ?_)
      · skip
        have h11 : fi ≤ j91 := (nI_leI (a := fi) (b := j91) (by omega) (by omega)).mp h11
        refine lv_iload_n hx hb dX10_poorestGets_50 rfl (lv_at hl 1 rfl) ?_
        exact W.iret (v := x5) hx hb hr (fun tZ ht hW => ⟨⟨x5, (), rfl, trivial, by rw [ht]; exact hP.sub [0, 1, 2, 3] rfl, hD.sub [0, 1, 2, 3] (by decide) rfl⟩, hS.F ht⟩) hS.2.2 dX10_poorestGets_51
      · skip
        have h12 : ¬ fi ≤ j91 := fun q9 => h12 ((nI_leI (a := fi) (b := j91) (by omega) (by omega)).mpr q9)
        refine lv_aload_n hx hb dX10_poorestGets_17 rfl (lv_at hl 2 rfl) ?_
        refine va_get (D := D) (ci := 10) (v := .ref sd) (C := RX10) (T := TX10) (N := 12) hx hb hts iw10 hown hK hP 0 rfl rfl 8 (by decide) fw4 (fun _ h9 => h9) rfl dX10_poorestGets_18 ?_
        refine lv_iload_n hx hb dX10_poorestGets_21 rfl (lv_at hl 0 rfl) ?_
        refine va_iald hx hb hK hP 3 0 rfl rfl (vp_in_nI (by omega) (by decide)) dX10_poorestGets_22 ?_
        rw [nI_clamp (n := j91) (by omega)]
        refine lv_if_le (tgt := 44) hx hb dX10_poorestGets_23 (by decide) (fun h13 => ?_) (fun h14 => ?_)
        · skip
          refine lv_iinc (v := (nI (j91 + 1))) (lv' := [(2, .int (nI (j91 + 1))), (1, .int x5), (0, .ref g)]) hx hb dX10_poorestGets_44 hl (k := 0) rfl (nI_1 j91) (by decide) rfl (fun ls hl => ?_)
          refine lv_goto (tgt := 6) hx hb dX10_poorestGets_47 (by decide) ?_
          exact ihj91 (j91 + 1) x5 H locs ls (by omega) (by omega)  (hP.sub [0, 1, 2, 3] rfl) (hD.sub [0, 1, 2, 3] (by decide) rfl) hS (lv_sub hl [0, 1, 2] rfl)
        · skip
          refine lv_iload_n hx hb dX10_poorestGets_26 rfl (lv_at hl 1 rfl) ?_
          refine lv_aload_n hx hb dX10_poorestGets_27 rfl (lv_at hl 2 rfl) ?_
          refine va_get (D := D) (ci := 10) (v := .ref sh) (C := RX10) (T := TX10) (N := 12) hx hb hts iw10 hown hK hP 0 rfl rfl 7 (by decide) fw5 (fun _ h9 => h9) rfl dX10_poorestGets_28 ?_
          refine lv_iload_n hx hb dX10_poorestGets_31 rfl (lv_at hl 0 rfl) ?_
          refine va_iald hx hb hK hP 2 0 rfl rfl (vp_in_nI (by omega) (by decide)) dX10_poorestGets_32 ?_
          rw [nI_clamp (n := j91) (by omega)]
          refine lv_aload_n hx hb dX10_poorestGets_33 rfl (lv_at hl 2 rfl) ?_
          refine va_get (D := D) (ci := 10) (v := .ref sd) (C := RX10) (T := TX10) (N := 12) hx hb hts iw10 hown hK hP 0 rfl rfl 8 (by decide) fw4 (fun _ h9 => h9) rfl dX10_poorestGets_34 ?_
          refine lv_iload_n hx hb dX10_poorestGets_37 rfl (lv_at hl 0 rfl) ?_
          refine va_iald hx hb hK hP 3 0 rfl rfl (vp_in_nI (by omega) (by decide)) dX10_poorestGets_38 ?_
          rw [nI_clamp (n := j91) (by omega)]
          refine lv_idiv hx hb dX10_poorestGets_39 (kw_nz h14) ?_
          refine va_mmin hx hb (hml.trans hl.1.symm) hown fw6 fw7 fw8 fw9 (Nat.le_of_ble_eq_true rfl) (Nat.le_of_ble_eq_true rfl) (Nat.le_of_ble_eq_true rfl) (Nat.le_of_ble_eq_true rfl) dX10_poorestGets_40 ?_
          refine lv_istore_n (lv' := [(1, .int (if ((fsh j91) / (fsd j91)) < x5 then ((fsh j91) / (fsd j91)) else x5)), (2, .int (nI j91)), (0, .ref g)]) hx hb dX10_poorestGets_43 rfl hl (by decide) rfl (fun ls hl => ?_)
          refine lv_iinc (v := (nI (j91 + 1))) (lv' := [(2, .int (nI (j91 + 1))), (1, .int (if ((fsh j91) / (fsd j91)) < x5 then ((fsh j91) / (fsd j91)) else x5)), (0, .ref g)]) hx hb dX10_poorestGets_44 hl (k := 1) rfl (nI_1 j91) (by decide) rfl (fun ls hl => ?_)
          refine lv_goto (tgt := 6) hx hb dX10_poorestGets_47 (by decide) ?_
          exact ihj91 (j91 + 1) (if ((fsh j91) / (fsd j91)) < x5 then ((fsh j91) / (fsd j91)) else x5) H locs ls (by omega) (by omega)  (hP.sub [0, 1, 2, 3] rfl) (hD.sub [0, 1, 2, 3] (by decide) rfl) hS (lv_sub hl [0, 1, 2] rfl)
  exact lp10 (fi + 1) 0 2147483647 _ _ _ (by omega) (by omega)  hP hD hS (lv_sub hl [0, 1, 2] rfl)

set_option maxHeartbeats 4000000 in
set_option maxRecDepth 100000 in
theorem gc_worth (l : Launch) (D : va_G) (y : Nat → ClassId) (g : Nat) (kk : Nat) (nw : Nat) (im : Nat) (kp : Nat) (tx : Nat) (tr : Nat) (be : Nat) (sh : Nat) (sd : Nat) (rf : Nat) (ab : Int32) (bl : Int32) (fsh : Nat → Int32) (k : Nat) (x : Int32) (x2 : Int32) (hkk : k < 6) : kw_Mi l yX10_worth wsX10_worth ({ frames := 1, cells := 0, slots := 0, locals := 60 }) D y [.ref g, .int x, .int (nI k), .int x2] [(g, .inr (10, [.ref kk, .ref nw, .ref im, .ref kp, .ref tx, .ref tr, .ref be, .ref sh, .ref sd, .ref rf, .int ab, .int bl])), (sh, .inl (y 0, 6, .inl fsh))] (fun (r : Int32) (u : Unit) => True) (fun _ => [(g, .inr (10, [.ref kk, .ref nw, .ref im, .ref kp, .ref tx, .ref tr, .ref be, .ref sh, .ref sd, .ref rf, .int ab, .int bl])), (sh, .inl (y 0, 6, .inl fsh))]) 0 0 := by
  refine kw_Mi.of (cc := cX10_worth) (maxL := 5) (ret := (some .int)) (by decide) rfl ?_
  intro pZ eZ s mZ beZ meZ cZ A hE
  obtain ⟨hx, hb, hr, hml, hts, hown, hlocks, hin, hA, hP, hD, hK, hN⟩ := hE
  have hS : va_S A s.heap s.heap [] := va_S.rf
  have hl := lv_entry ([.ref g, .int x, .int (nI k), .int x2]) (n := 5) (Nat.le_of_ble_eq_true rfl)
  rw [lg_entry_eq]
  generalize (lg_sl ([.ref g, .int x, .int (nI k), .int x2]) ++ List.replicate (5 - (lg_sl ([.ref g, .int x, .int (nI k), .int x2])).length) Slot.unset).toArray = ls at hl ⊢
  have hl : lv_has ls 5 [(0, .ref g), (1, .int x), (2, .int (nI k)), (3, .int x2)] := hl
  have fw1 := hts (.fieldLink RX10 69 "GleanDusk" "shown" "[I") (List.mem_of_getElem? (i := 1) rfl)
  have fw2 := hts (.methodLink RX10 332 Lib.Math.abs.name) (List.mem_of_getElem? (i := 2) rfl)
  have fw3 := hts (.static Lib.Math.abs.name) (List.mem_of_getElem? (i := 3) rfl)
  have fw4 := hts (.initialized "java/lang/Math") (List.mem_of_getElem? (i := 4) rfl)
  have fw5 := hts (.code Lib.Math.abs.name Lib.Math.abs.code 1 (some .int)) (List.mem_of_getElem? (i := 5) rfl)
  have iw10 : ∀ w ∈ wsX100, w ∈ wsX10_worth := fun _ h => List.mem_cons_of_mem _ (List.mem_append_right _ h)
  refine lv_iload_n hx hb dX10_worth_0 rfl (lv_at hl 2 rfl) ?_
  refine lv_iload_n hx hb dX10_worth_1 rfl (lv_at hl 3 rfl) ?_
  refine lv_icmp_ne (tgt := 16) hx hb dX10_worth_2 (by decide) (fun h1 => ?_) (fun h2 => ?_)
  · skip
    refine lv_aload_n hx hb dX10_worth_16 rfl (lv_at hl 0 rfl) ?_
    refine va_get (D := D) (ci := 10) (v := .ref sh) (C := RX10) (T := TX10) (N := 12) hx hb hts iw10 hown hK hP 0 rfl rfl 7 (by decide) fw1 (fun _ h9 => h9) rfl dX10_worth_17 ?_
    refine lv_iload_n hx hb dX10_worth_20 rfl (lv_at hl 2 rfl) ?_
    refine va_iald hx hb hK hP 1 0 rfl rfl (vp_in_nI (by omega) (by decide)) dX10_worth_21 ?_
    rw [nI_clamp (n := k) (by omega)]
    refine lv_istore (lv' := [(4, .int (fsh k)), (0, .ref g), (1, .int x), (2, .int (nI k)), (3, .int x2)]) hx hb dX10_worth_22 hl (by decide) rfl (fun ls hl => ?_)
    refine lv_iload hx hb dX10_worth_24 (lv_at hl 0 rfl) ?_
    refine lv_iload_n hx hb dX10_worth_26 rfl (lv_at hl 3 rfl) ?_
    refine lv_iload_n hx hb dX10_worth_27 rfl (lv_at hl 2 rfl) ?_
    refine lv_isub hx hb dX10_worth_28 ?_
    refine va_mabs hx hb (hml.trans hl.1.symm) hown fw2 fw3 fw4 fw5 (Nat.le_of_ble_eq_true rfl) (Nat.le_of_ble_eq_true rfl) (Nat.le_of_ble_eq_true rfl) (Nat.le_of_ble_eq_true rfl) dX10_worth_29 ?_
    refine lv_isub hx hb dX10_worth_32 ?_
    exact W.iret (v := ((fsh k) - (if 0 ≤ ((nI k) - x) then ((nI k) - x) else 0 - ((nI k) - x)))) hx hb hr (fun tZ ht hW => ⟨⟨((fsh k) - (if 0 ≤ ((nI k) - x) then ((nI k) - x) else 0 - ((nI k) - x))), (), rfl, trivial, by rw [ht]; exact hP.sub [0, 1] rfl, hD.sub [0, 1] (by decide) rfl⟩, hS.F ht⟩) hS.2.2 dX10_worth_33
  · skip
    refine lv_aload_n hx hb dX10_worth_5 rfl (lv_at hl 0 rfl) ?_
    refine va_get (D := D) (ci := 10) (v := .ref sh) (C := RX10) (T := TX10) (N := 12) hx hb hts iw10 hown hK hP 0 rfl rfl 7 (by decide) fw1 (fun _ h9 => h9) rfl dX10_worth_6 ?_
    refine lv_iload_n hx hb dX10_worth_9 rfl (lv_at hl 2 rfl) ?_
    refine va_iald hx hb hK hP 1 0 rfl rfl (vp_in_nI (by omega) (by decide)) dX10_worth_10 ?_
    rw [nI_clamp (n := k) (by omega)]
    refine lv_iconst (v := 2) hx hb dX10_worth_11 (by decide) ?_
    refine lv_idiv hx hb dX10_worth_12 (by decide) ?_
    refine lv_goto (tgt := 22) hx hb dX10_worth_13 (by decide) ?_
    refine lv_istore (lv' := [(4, .int ((fsh k) / 2)), (0, .ref g), (1, .int x), (2, .int (nI k)), (3, .int x2)]) hx hb dX10_worth_22 hl (by decide) rfl (fun ls hl => ?_)
    refine lv_iload hx hb dX10_worth_24 (lv_at hl 0 rfl) ?_
    refine lv_iload_n hx hb dX10_worth_26 rfl (lv_at hl 3 rfl) ?_
    refine lv_iload_n hx hb dX10_worth_27 rfl (lv_at hl 2 rfl) ?_
    refine lv_isub hx hb dX10_worth_28 ?_
    refine va_mabs hx hb (hml.trans hl.1.symm) hown fw2 fw3 fw4 fw5 (Nat.le_of_ble_eq_true rfl) (Nat.le_of_ble_eq_true rfl) (Nat.le_of_ble_eq_true rfl) (Nat.le_of_ble_eq_true rfl) dX10_worth_29 ?_
    refine lv_isub hx hb dX10_worth_32 ?_
    exact W.iret (v := (((fsh k) / 2) - (if 0 ≤ ((nI k) - x) then ((nI k) - x) else 0 - ((nI k) - x)))) hx hb hr (fun tZ ht hW => ⟨⟨(((fsh k) / 2) - (if 0 ≤ ((nI k) - x) then ((nI k) - x) else 0 - ((nI k) - x))), (), rfl, trivial, by rw [ht]; exact hP.sub [0, 1] rfl, hD.sub [0, 1] (by decide) rfl⟩, hS.F ht⟩) hS.2.2 dX10_worth_33

set_option maxHeartbeats 4000000 in
set_option maxRecDepth 100000 in
theorem gc_staysPut (l : Launch) (D : va_G) (y : Nat → ClassId) (g : Nat) (kk : Nat) (nw : Nat) (im : Nat) (kp : Nat) (tx : Nat) (tr : Nat) (be : Nat) (sh : Nat) (sd : Nat) (rf : Nat) (ab : Int32) (bl : Int32) (nk : Nat) (nd : Nat) (ne : Nat) (nm : Nat) (nn : Nat) (fi : Nat) (gl : Nat) (un : Nat) (mi : Nat) (no : Nat) (fsh : Nat → Int32) (k : Nat) (x : Int32) (x2 : Int32) (hfi : fi ≤ 6) (hgl : gl ≤ 5) (hun : un ≤ 8) (hmi : mi ≤ 4) (hno : no ≤ 6) (hkk : k < 6) : kw_Mi l yX10_staysPut wsX10_staysPut ({ frames := 2, cells := 0, slots := 0, locals := 84 }) D y [.ref g, .int x, .int (nI k), .int x2] [(g, .inr (10, [.ref kk, .ref nw, .ref im, .ref kp, .ref tx, .ref tr, .ref be, .ref sh, .ref sd, .ref rf, .int ab, .int bl])), (nw, .inr (4, [.ref kk, .ref nk, .ref nd, .ref ne, .ref nm, .ref nn, .int (nI fi), .int (nI gl), .int (nI un), .int (nI mi), .int (nI no)])), (sh, .inl (y 0, 6, .inl fsh))] (fun (r : Int32) (u : Unit) => (r = 0 ∨ r = 1)) (fun _ => [(g, .inr (10, [.ref kk, .ref nw, .ref im, .ref kp, .ref tx, .ref tr, .ref be, .ref sh, .ref sd, .ref rf, .int ab, .int bl])), (nw, .inr (4, [.ref kk, .ref nk, .ref nd, .ref ne, .ref nm, .ref nn, .int (nI fi), .int (nI gl), .int (nI un), .int (nI mi), .int (nI no)])), (sh, .inl (y 0, 6, .inl fsh))]) 0 0 := by
  refine kw_Mi.of (cc := cX10_staysPut) (maxL := 6) (ret := (some .boolean)) (by decide) rfl ?_
  intro pZ eZ s mZ beZ meZ cZ A hE
  obtain ⟨hx, hb, hr, hml, hts, hown, hlocks, hin, hA, hP, hD, hK, hN⟩ := hE
  have hS : va_S A s.heap s.heap [] := va_S.rf
  have hl := lv_entry ([.ref g, .int x, .int (nI k), .int x2]) (n := 6) (Nat.le_of_ble_eq_true rfl)
  rw [lg_entry_eq]
  generalize (lg_sl ([.ref g, .int x, .int (nI k), .int x2]) ++ List.replicate (6 - (lg_sl ([.ref g, .int x, .int (nI k), .int x2])).length) Slot.unset).toArray = ls at hl ⊢
  have hl : lv_has ls 6 [(0, .ref g), (1, .int x), (2, .int (nI k)), (3, .int x2)] := hl
  have fw1 := hts (.fieldLink RX10 36 "GleanDusk" "now" "LGleanDusk$Parish;") (List.mem_of_getElem? (i := 1) rfl)
  have fw2 := hts (.fieldLink RX10 94 "GleanDusk$Parish" "fields" "I") (List.mem_of_getElem? (i := 2) rfl)
  have iw10 : ∀ w ∈ wsX100, w ∈ wsX10_staysPut := fun _ h => List.mem_cons_of_mem _ (List.mem_append_left _ (List.mem_append_right _ h))
  have iw4 : ∀ w ∈ wsX40, w ∈ wsX10_staysPut := fun _ h => List.mem_cons_of_mem _ (List.mem_append_right _ h)
  refine lv_aload_n hx hb dX10_staysPut_0 rfl (lv_at hl 0 rfl) ?_
  refine lv_iload_n hx hb dX10_staysPut_1 rfl (lv_at hl 1 rfl) ?_
  refine lv_iload_n hx hb dX10_staysPut_2 rfl (lv_at hl 2 rfl) ?_
  refine lv_iload_n hx hb dX10_staysPut_3 rfl (lv_at hl 3 rfl) ?_
  have hs1 : kw_Split [(g, .inr (10, [.ref kk, .ref nw, .ref im, .ref kp, .ref tx, .ref tr, .ref be, .ref sh, .ref sd, .ref rf, .int ab, .int bl])), (nw, .inr (4, [.ref kk, .ref nk, .ref nd, .ref ne, .ref nm, .ref nn, .int (nI fi), .int (nI gl), .int (nI un), .int (nI mi), .int (nI no)])), (sh, .inl (y 0, 6, .inl fsh))] [(g, .inr (10, [.ref kk, .ref nw, .ref im, .ref kp, .ref tx, .ref tr, .ref be, .ref sh, .ref sd, .ref rf, .int ab, .int bl])), (sh, .inl (y 0, 6, .inl fsh))] [(nw, .inr (4, [.ref kk, .ref nk, .ref nd, .ref ne, .ref nm, .ref nn, .int (nI fi), .int (nI gl), .int (nI un), .int (nI mi), .int (nI no)]))] [0, 2] [1] := ⟨rfl, rfl, rfl, rfl, rfl, by decide⟩
  refine kw_go_i hs1 hP hD hS hA (va_runV (As := [.int x, .int (nI k), .int x2]) (rest := []) ⟨hx, hb, hml, hown, hts⟩ (gc_worth l D y g kk nw im kp tx tr be sh sd rf ab bl fsh k x x2 hkk _) (cwV 3 hts gX10_staysPut_X10_worth rfl rfl rfl (by decide +kernel) ⟨Nat.le_of_ble_eq_true rfl, Nat.le_of_ble_eq_true rfl⟩) (kw_PreV (ci := 10) (q0 := 0) hs1 hP hD hK hN rfl rfl) rfl rfl hl.1 rfl (lv_room (Nat.le_of_ble_eq_true rfl)) dX10_staysPut_4 ⟨Nat.le_of_ble_eq_true rfl, Nat.le_of_ble_eq_true rfl⟩) (fun r2 u3 H locs hq hP hD hS => ?_)
  have hP : va_P D vwCl [(nw, .inr (4, [.ref kk, .ref nk, .ref nd, .ref ne, .ref nm, .ref nn, .int (nI fi), .int (nI gl), .int (nI un), .int (nI mi), .int (nI no)])), (g, .inr (10, [.ref kk, .ref nw, .ref im, .ref kp, .ref tx, .ref tr, .ref be, .ref sh, .ref sd, .ref rf, .int ab, .int bl])), (sh, .inl (y 0, 6, .inl fsh))] H := hP
  have hD : va_D A [(nw, .inr (4, [.ref kk, .ref nk, .ref nd, .ref ne, .ref nm, .ref nn, .int (nI fi), .int (nI gl), .int (nI un), .int (nI mi), .int (nI no)])), (g, .inr (10, [.ref kk, .ref nw, .ref im, .ref kp, .ref tx, .ref tr, .ref be, .ref sh, .ref sd, .ref rf, .int ab, .int bl])), (sh, .inl (y 0, 6, .inl fsh))] := hD
  refine lv_istore (lv' := [(4, .int r2), (0, .ref g), (1, .int x), (2, .int (nI k)), (3, .int x2)]) hx hb dX10_staysPut_7 hl (by decide) rfl (fun ls hl => ?_)
  refine lv_iconst (v := 0) hx hb dX10_staysPut_9 (by decide) ?_
  refine lv_istore (lv' := [(5, .int 0), (4, .int r2), (0, .ref g), (1, .int x), (2, .int (nI k)), (3, .int x2)]) hx hb dX10_staysPut_10 hl (by decide) rfl (fun ls hl => ?_)
  have lp11 : ∀ (fuj91 j91 : Nat)  (H : Heap) (locs : List Loc) (ls : Array Slot), j91 ≤ fi → fi - j91 < fuj91 → va_P D vwCl [(nw, .inr (4, [.ref kk, .ref nk, .ref nd, .ref ne, .ref nm, .ref nn, .int (nI fi), .int (nI gl), .int (nI un), .int (nI mi), .int (nI no)])), (g, .inr (10, [.ref kk, .ref nw, .ref im, .ref kp, .ref tx, .ref tr, .ref be, .ref sh, .ref sd, .ref rf, .int ab, .int bl])), (sh, .inl (y 0, 6, .inl fsh))] H → va_D A [(nw, .inr (4, [.ref kk, .ref nk, .ref nd, .ref ne, .ref nm, .ref nn, .int (nI fi), .int (nI gl), .int (nI un), .int (nI mi), .int (nI no)])), (g, .inr (10, [.ref kk, .ref nw, .ref im, .ref kp, .ref tx, .ref tr, .ref be, .ref sh, .ref sd, .ref rf, .int ab, .int bl])), (sh, .inl (y 0, 6, .inl fsh))] → va_S A s.heap H locs → lv_has ls 6 [(5, .int (nI j91)), (4, .int r2), (0, .ref g), (1, .int x), (2, .int (nI k)), (3, .int x2)] → W pZ l eZ ({ frames := 2, cells := 0, slots := 0, locals := 84 }) s mZ [.ref g, .int x, .int (nI k), .int x2].toArray beZ meZ cZ H locs 0 0 (MQ beZ (va_Qi (fun (r : Int32) (u : Unit) => (r = 0 ∨ r = 1)) (kw_B D (fun _ => [(g, .inr (10, [.ref kk, .ref nw, .ref im, .ref kp, .ref tx, .ref tr, .ref be, .ref sh, .ref sd, .ref rf, .int ab, .int bl])), (nw, .inr (4, [.ref kk, .ref nk, .ref nd, .ref ne, .ref nm, .ref nn, .int (nI fi), .int (nI gl), .int (nI un), .int (nI mi), .int (nI no)])), (sh, .inl (y 0, 6, .inl fsh))]) A) A) [.ref g, .int x, .int (nI k), .int x2].toArray s 0 0 A) (F0 mZ 12 ls []) := by
    intro fuj91
    induction fuj91 with
    | zero => intro j91  H locs ls hj9 hf9; exact absurd hf9 (Nat.not_lt_zero _)
    | succ fuj91 ihj91 =>
      intro j91  H locs ls hj91 hfj91  hP hD hS hl
      refine lv_iload hx hb dX10_staysPut_12 (lv_at hl 0 rfl) ?_
      refine lv_aload_n hx hb dX10_staysPut_14 rfl (lv_at hl 2 rfl) ?_
      refine va_get (D := D) (ci := 10) (v := .ref nw) (C := RX10) (T := TX10) (N := 12) hx hb hts iw10 hown hK hP 1 rfl rfl 1 (by decide) fw1 (fun _ h9 => h9) rfl dX10_staysPut_15 ?_
      refine va_get (D := D) (ci := 4) (v := .int (nI fi)) (C := RX4) (T := TX4) (N := 11) hx hb hts iw4 hown hK hP 0 rfl rfl 6 (by decide) fw2 (fun _ h9 => h9) rfl dX10_staysPut_18 ?_
      refine lv_icmp_ge (tgt := 45) hx hb dX10_staysPut_21 (by decide) (fun h12 => ?_) (fun h13 => ?_)
      · skip
        have h12 : fi ≤ j91 := (nI_leI (a := fi) (b := j91) (by omega) (by omega)).mp h12
        refine lv_iconst (v := 1) hx hb dX10_staysPut_45 (by decide) ?_
        exact W.zret (v := 1) hx hb hr (by decide) (fun tZ ht hW => ⟨⟨1, (), rfl, Or.inr rfl, by rw [ht]; exact hP.sub [1, 0, 2] rfl, hD.sub [1, 0, 2] (by decide) rfl⟩, hS.F ht⟩) hS.2.2 dX10_staysPut_46
      · skip
        have h13 : ¬ fi ≤ j91 := fun q9 => h13 ((nI_leI (a := fi) (b := j91) (by omega) (by omega)).mpr q9)
        refine lv_aload_n hx hb dX10_staysPut_24 rfl (lv_at hl 2 rfl) ?_
        refine lv_iload_n hx hb dX10_staysPut_25 rfl (lv_at hl 3 rfl) ?_
        refine lv_iload hx hb dX10_staysPut_26 (lv_at hl 0 rfl) ?_
        refine lv_iload_n hx hb dX10_staysPut_28 rfl (lv_at hl 5 rfl) ?_
        have hs14 : kw_Split [(nw, .inr (4, [.ref kk, .ref nk, .ref nd, .ref ne, .ref nm, .ref nn, .int (nI fi), .int (nI gl), .int (nI un), .int (nI mi), .int (nI no)])), (g, .inr (10, [.ref kk, .ref nw, .ref im, .ref kp, .ref tx, .ref tr, .ref be, .ref sh, .ref sd, .ref rf, .int ab, .int bl])), (sh, .inl (y 0, 6, .inl fsh))] [(g, .inr (10, [.ref kk, .ref nw, .ref im, .ref kp, .ref tx, .ref tr, .ref be, .ref sh, .ref sd, .ref rf, .int ab, .int bl])), (sh, .inl (y 0, 6, .inl fsh))] [(nw, .inr (4, [.ref kk, .ref nk, .ref nd, .ref ne, .ref nm, .ref nn, .int (nI fi), .int (nI gl), .int (nI un), .int (nI mi), .int (nI no)]))] [1, 2] [0] := ⟨rfl, rfl, rfl, rfl, rfl, by decide⟩
        refine kw_go_i hs14 hP hD hS hA (va_runV (As := [.int x, .int (nI j91), .int x2]) (rest := []) ⟨hx, hb, hml, hown, hts⟩ (gc_worth l D y g kk nw im kp tx tr be sh sd rf ab bl fsh j91 x x2 (by omega) _) (cwV 3 hts gX10_staysPut_X10_worth rfl rfl rfl (by decide +kernel) ⟨Nat.le_of_ble_eq_true rfl, Nat.le_of_ble_eq_true rfl⟩) (kw_PreV (ci := 10) (q0 := 1) hs14 hP hD hK hN rfl rfl) rfl rfl hl.1 rfl (lv_room (Nat.le_of_ble_eq_true rfl)) dX10_staysPut_29 ⟨Nat.le_of_ble_eq_true rfl, Nat.le_of_ble_eq_true rfl⟩) (fun r15 u16 H locs hq hP hD hS => ?_)
        have hP : va_P D vwCl [(nw, .inr (4, [.ref kk, .ref nk, .ref nd, .ref ne, .ref nm, .ref nn, .int (nI fi), .int (nI gl), .int (nI un), .int (nI mi), .int (nI no)])), (g, .inr (10, [.ref kk, .ref nw, .ref im, .ref kp, .ref tx, .ref tr, .ref be, .ref sh, .ref sd, .ref rf, .int ab, .int bl])), (sh, .inl (y 0, 6, .inl fsh))] H := hP
        have hD : va_D A [(nw, .inr (4, [.ref kk, .ref nk, .ref nd, .ref ne, .ref nm, .ref nn, .int (nI fi), .int (nI gl), .int (nI un), .int (nI mi), .int (nI no)])), (g, .inr (10, [.ref kk, .ref nw, .ref im, .ref kp, .ref tx, .ref tr, .ref be, .ref sh, .ref sd, .ref rf, .int ab, .int bl])), (sh, .inl (y 0, 6, .inl fsh))] := hD
        refine lv_iload hx hb dX10_staysPut_32 (lv_at hl 1 rfl) ?_
        refine lv_icmp_le (tgt := 39) hx hb dX10_staysPut_34 (by decide) (fun h17 => ?_) (fun h18 => ?_)
        · skip
          refine lv_iinc (v := (nI (j91 + 1))) (lv' := [(5, .int (nI (j91 + 1))), (4, .int r2), (0, .ref g), (1, .int x), (2, .int (nI k)), (3, .int x2)]) hx hb dX10_staysPut_39 hl (k := 0) rfl (nI_1 j91) (by decide) rfl (fun ls hl => ?_)
          refine lv_goto (tgt := 12) hx hb dX10_staysPut_42 (by decide) ?_
          exact ihj91 (j91 + 1)  H locs ls (by omega) (by omega)  (hP.sub [0, 1, 2] rfl) (hD.sub [0, 1, 2] (by decide) rfl) hS (lv_sub hl [0, 1, 2, 3, 4, 5] rfl)
        · skip
          refine lv_iconst (v := 0) hx hb dX10_staysPut_37 (by decide) ?_
          exact W.zret (v := 0) hx hb hr (by decide) (fun tZ ht hW => ⟨⟨0, (), rfl, Or.inl rfl, by rw [ht]; exact hP.sub [1, 0, 2] rfl, hD.sub [1, 0, 2] (by decide) rfl⟩, hS.F ht⟩) hS.2.2 dX10_staysPut_38
  exact lp11 (fi + 1) 0  _ _ _ (by omega) (by omega)  hP hD hS (lv_sub hl [0, 1, 2, 3, 4, 5] rfl)
