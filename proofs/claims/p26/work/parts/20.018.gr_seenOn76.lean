set_option maxHeartbeats 4000000 in
set_option maxRecDepth 100000 in
theorem gr_seenOn76 (l : Launch) (D : va_G) (y : Nat → ClassId) (to : Nat) (ft : Nat → Int32) (fi : Nat) (gl : Nat) (mi : Nat) (no : Nat) (un : Nat) (k : Nat) (t : Int32) (hk0_ : ft 0 = (nI fi)) (hk1_ : ft 1 = (nI gl)) (hk2_ : ft 2 = (nI mi)) (hk3_ : ft 3 = (nI no)) (hk4_ : ft 4 = (nI un)) (hkt : kr_t 76 ft) (hfi : fi ≤ 6) (hgl : gl ≤ 5) (hmi : mi ≤ 4) (hno : no ≤ 6) (hun : un ≤ 8) (hA1 : k < 6) : kw_Mi l yX11_seenOn wsX11_seenOn ({ frames := 4, cells := 0, slots := 0, locals := 129 }) D y [.ref to, .int (nI k), .int t] [(to, .inl (y 0, 76, .inl ft))] (fun (r : Int32) (u : Unit) => True) (fun _ => [(to, .inl (y 0, 76, .inl ft))]) 0 0 := by
  refine kw_Mi.of (cc := cX11_seenOn) (maxL := 3) (ret := (some .int)) (by decide) rfl ?_
  intro pZ eZ s mZ beZ meZ cZ A hE
  obtain ⟨hx, hb, hr, hml, hts, hown, hlocks, hin, hA, hP, hD, hK, hN⟩ := hE
  have hS : va_S A s.heap s.heap [] := va_S.rf
  have hl := lv_entry ([.ref to, .int (nI k), .int t]) (n := 3) (Nat.le_of_ble_eq_true rfl)
  rw [lg_entry_eq]
  generalize (lg_sl ([.ref to, .int (nI k), .int t]) ++ List.replicate (3 - (lg_sl ([.ref to, .int (nI k), .int t])).length) Slot.unset).toArray = ls at hl ⊢
  have hl : lv_has ls 3 [(0, .ref to), (1, .int (nI k)), (2, .int t)] := hl
  refine lv_iload_n hx hb dX11_seenOn_0 rfl (lv_at hl 2 rfl) ?_
  refine lv_bipush (v := 12) hx hb dX11_seenOn_1 (by decide) ?_
  refine lv_icmp_lt (tgt := 10) hx hb dX11_seenOn_3 (by decide) (fun h1 => ?_) (fun h2 => ?_)
  · skip
    refine lv_aload_n hx hb dX11_seenOn_10 rfl (lv_at hl 0 rfl) ?_
    refine lv_bipush (v := 24) hx hb dX11_seenOn_11 (by decide) ?_
    refine lv_iload_n hx hb dX11_seenOn_13 rfl (lv_at hl 1 rfl) ?_
    refine lv_iadd hx hb dX11_seenOn_14 ?_
    rw [show 24 + (nI k) = nI (k + 24) from (nI_add 24 k).trans (congrArg nI (by omega))]
    refine va_iald hx hb hK hP 0 0 rfl rfl (vp_in_nI (by omega) (by decide)) dX11_seenOn_15 ?_
    rw [nI_clamp (n := (k + 24)) (by omega)]
    refine lv_aload_n hx hb dX11_seenOn_16 rfl (lv_at hl 0 rfl) ?_
    refine lv_iconst (v := 5) hx hb dX11_seenOn_17 (by decide) ?_
    refine lv_iload_n hx hb dX11_seenOn_18 rfl (lv_at hl 1 rfl) ?_
    refine lv_iadd hx hb dX11_seenOn_19 ?_
    rw [show 5 + (nI k) = nI (k + 5) from (nI_add 5 k).trans (congrArg nI (by omega))]
    refine va_iald hx hb hK hP 0 0 rfl rfl (vp_in_nI (by omega) (by decide)) dX11_seenOn_20 ?_
    rw [nI_clamp (n := (k + 5)) (by omega)]
    refine lv_iload_n hx hb dX11_seenOn_21 rfl (lv_at hl 2 rfl) ?_
    refine lv_aload_n hx hb dX11_seenOn_22 rfl (lv_at hl 0 rfl) ?_
    refine lv_bipush (v := 22) hx hb dX11_seenOn_23 (by decide) ?_
    refine va_iald hx hb hK hP 0 0 rfl rfl (by unfold vp_in; decide) dX11_seenOn_25 ?_
    rw [show ((22 : Int32)).toNatClampNeg = 22 from rfl]
    have hs3 : kw_Split [(to, .inl (y 0, 76, .inl ft))] [] [(to, .inl (y 0, 76, .inl ft))] [] [0] := ⟨rfl, rfl, rfl, rfl, rfl, by decide⟩
    refine kw_go_i hs3 hP hD hS hA (va_runS (As := [.int (ft (k + 24)), .int (ft (k + 5)), .int t, .int (ft 22)]) (rest := []) ⟨hx, hb, hml, hown, hts⟩ (gr_seenAs l D y (ft (k + 24)) (ft (k + 5)) t (ft 22)  _) (va_cwS 4 hts gX11_seenOn_X11_seenAs rfl rfl rfl (by decide +kernel) ⟨Nat.le_of_ble_eq_true rfl, Nat.le_of_ble_eq_true rfl⟩) (kw_PreS hs3 hP hD hK hN) rfl rfl hl.1 rfl (lv_room (Nat.le_of_ble_eq_true rfl)) dX11_seenOn_26 ⟨Nat.le_of_ble_eq_true rfl, Nat.le_of_ble_eq_true rfl⟩) (fun r4 u5 H locs hq hP hD hS => ?_)
    have hP : va_P D vwCl [(to, .inl (y 0, 76, .inl ft))] H := hP
    have hD : va_D A [(to, .inl (y 0, 76, .inl ft))] := hD
    exact W.iret (v := r4) hx hb hr (fun tZ ht hW => ⟨⟨r4, (), rfl, trivial, by rw [ht]; exact hP.sub [0] rfl, hD.sub [0] (by decide) rfl⟩, hS.F ht⟩) hS.2.2 dX11_seenOn_29
  · skip
    refine lv_iconst (v := 0) hx hb dX11_seenOn_6 (by decide) ?_
    refine lv_goto (tgt := 29) hx hb dX11_seenOn_7 (by decide) ?_
    exact W.iret (v := 0) hx hb hr (fun tZ ht hW => ⟨⟨0, (), rfl, trivial, by rw [ht]; exact hP.sub [0] rfl, hD.sub [0] (by decide) rfl⟩, hS.F ht⟩) hS.2.2 dX11_seenOn_29

set_option maxHeartbeats 4000000 in
set_option maxRecDepth 100000 in
theorem gr_manyOn76 (l : Launch) (D : va_G) (y : Nat → ClassId) (to : Nat) (ft : Nat → Int32) (fi : Nat) (gl : Nat) (mi : Nat) (no : Nat) (un : Nat) (x : Int32) (hk0_ : ft 0 = (nI fi)) (hk1_ : ft 1 = (nI gl)) (hk2_ : ft 2 = (nI mi)) (hk3_ : ft 3 = (nI no)) (hk4_ : ft 4 = (nI un)) (hkt : kr_t 76 ft) (hfi : fi ≤ 6) (hgl : gl ≤ 5) (hmi : mi ≤ 4) (hno : no ≤ 6) (hun : un ≤ 8) : kw_Mi l yX11_manyOn wsX11_manyOn ({ frames := 1, cells := 0, slots := 0, locals := 60 }) D y [.ref to, .int x] [(to, .inl (y 0, 76, .inl ft))] (fun (r : Int32) (u : Unit) => True) (fun _ => [(to, .inl (y 0, 76, .inl ft))]) 0 0 := by
  refine kw_Mi.of (cc := cX11_manyOn) (maxL := 4) (ret := (some .int)) (by decide) rfl ?_
  intro pZ eZ s mZ beZ meZ cZ A hE
  obtain ⟨hx, hb, hr, hml, hts, hown, hlocks, hin, hA, hP, hD, hK, hN⟩ := hE
  have hS : va_S A s.heap s.heap [] := va_S.rf
  have hl := lv_entry ([.ref to, .int x]) (n := 4) (Nat.le_of_ble_eq_true rfl)
  rw [lg_entry_eq]
  generalize (lg_sl ([.ref to, .int x]) ++ List.replicate (4 - (lg_sl ([.ref to, .int x])).length) Slot.unset).toArray = ls at hl ⊢
  have hl : lv_has ls 4 [(0, .ref to), (1, .int x)] := hl
  refine lv_iconst (v := 0) hx hb dX11_manyOn_0 (by decide) ?_
  refine lv_istore_n (lv' := [(2, .int 0), (0, .ref to), (1, .int x)]) hx hb dX11_manyOn_1 rfl hl (by decide) rfl (fun ls hl => ?_)
  refine lv_iconst (v := 0) hx hb dX11_manyOn_2 (by decide) ?_
  refine lv_istore_n (lv' := [(3, .int 0), (2, .int 0), (0, .ref to), (1, .int x)]) hx hb dX11_manyOn_3 rfl hl (by decide) rfl (fun ls hl => ?_)
  have lp18 : ∀ (fuj91 j91 : Nat) (x10 : Int32) (H : Heap) (locs : List Loc) (ls : Array Slot), j91 ≤ gl → gl - j91 < fuj91 → va_P D vwCl [(to, .inl (y 0, 76, .inl ft))] H → va_D A [(to, .inl (y 0, 76, .inl ft))] → va_S A s.heap H locs → lv_has ls 4 [(3, .int (nI j91)), (2, .int x10), (0, .ref to), (1, .int x)] → W pZ l eZ ({ frames := 1, cells := 0, slots := 0, locals := 60 }) s mZ [.ref to, .int x].toArray beZ meZ cZ H locs 0 0 (MQ beZ (va_Qi (fun (r : Int32) (u : Unit) => True) (kw_B D (fun _ => [(to, .inl (y 0, 76, .inl ft))]) A) A) [.ref to, .int x].toArray s 0 0 A) (F0 mZ 4 ls []) := by
    intro fuj91
    induction fuj91 with
    | zero => intro j91 x10 H locs ls hj9 hf9; exact absurd hf9 (Nat.not_lt_zero _)
    | succ fuj91 ihj91 =>
      intro j91 x10 H locs ls hj91 hfj91  hP hD hS hl
      refine lv_iload_n hx hb dX11_manyOn_4 rfl (lv_at hl 0 rfl) ?_
      refine lv_aload_n hx hb dX11_manyOn_5 rfl (lv_at hl 2 rfl) ?_
      refine lv_iconst (v := 1) hx hb dX11_manyOn_6 (by decide) ?_
      refine va_iald hx hb hK hP 0 0 rfl rfl (by unfold vp_in; decide) dX11_manyOn_7 ?_
      rw [show ((1 : Int32)).toNatClampNeg = 1 from rfl]
      rw [show (ft 1) = (nI gl) from hk1_]
      refine lv_icmp_ge (tgt := 35) hx hb dX11_manyOn_8 (by decide) (fun h19 => ?_) (fun h20 => ?_)
      · skip
        have h19 : gl ≤ j91 := (nI_leI (a := gl) (b := j91) (by omega) (by omega)).mp h19
        refine lv_iload_n hx hb dX11_manyOn_35 rfl (lv_at hl 1 rfl) ?_
        exact W.iret (v := x10) hx hb hr (fun tZ ht hW => ⟨⟨x10, (), rfl, trivial, by rw [ht]; exact hP.sub [0] rfl, hD.sub [0] (by decide) rfl⟩, hS.F ht⟩) hS.2.2 dX11_manyOn_36
      · skip
        have h20 : ¬ gl ≤ j91 := fun q9 => h20 ((nI_leI (a := gl) (b := j91) (by omega) (by omega)).mpr q9)
        refine lv_iload_n hx hb dX11_manyOn_11 rfl (lv_at hl 1 rfl) ?_
        refine lv_aload_n hx hb dX11_manyOn_12 rfl (lv_at hl 2 rfl) ?_
        refine lv_bipush (v := 11) hx hb dX11_manyOn_13 (by decide) ?_
        refine lv_iload_n hx hb dX11_manyOn_15 rfl (lv_at hl 0 rfl) ?_
        refine lv_iadd hx hb dX11_manyOn_16 ?_
        rw [show 11 + (nI j91) = nI (j91 + 11) from (nI_add 11 j91).trans (congrArg nI (by omega))]
        refine va_iald hx hb hK hP 0 0 rfl rfl (vp_in_nI (by omega) (by decide)) dX11_manyOn_17 ?_
        rw [nI_clamp (n := (j91 + 11)) (by omega)]
        obtain ⟨w21, h22, h23⟩ := kr_at hkt (p := (j91 + 11)) (by omega) (by unfold kr_a; omega)
        rw [h23]
        refine lv_iload_n hx hb dX11_manyOn_18 rfl (lv_at hl 3 rfl) ?_
        refine lv_icmp_ne (tgt := 26) hx hb dX11_manyOn_19 (by decide) (fun h24 => ?_) (fun h25 => ?_)
        · skip
          refine lv_iconst (v := 0) hx hb dX11_manyOn_26 (by decide) ?_
          refine lv_iadd hx hb dX11_manyOn_27 ?_
          refine lv_istore_n (lv' := [(2, .int (x10 + 0)), (3, .int (nI j91)), (0, .ref to), (1, .int x)]) hx hb dX11_manyOn_28 rfl hl (by decide) rfl (fun ls hl => ?_)
          refine lv_iinc (v := (nI (j91 + 1))) (lv' := [(3, .int (nI (j91 + 1))), (2, .int (x10 + 0)), (0, .ref to), (1, .int x)]) hx hb dX11_manyOn_29 hl (k := 1) rfl (nI_1 j91) (by decide) rfl (fun ls hl => ?_)
          refine lv_goto (tgt := 4) hx hb dX11_manyOn_32 (by decide) ?_
          exact ihj91 (j91 + 1) (x10 + 0) H locs ls (by omega) (by omega)  (hP.sub [0] rfl) (hD.sub [0] (by decide) rfl) hS (lv_sub hl [0, 1, 2, 3] rfl)
        · skip
          refine lv_iconst (v := 1) hx hb dX11_manyOn_22 (by decide) ?_
          refine lv_goto (tgt := 27) hx hb dX11_manyOn_23 (by decide) ?_
          refine lv_iadd hx hb dX11_manyOn_27 ?_
          refine lv_istore_n (lv' := [(2, .int (x10 + 1)), (3, .int (nI j91)), (0, .ref to), (1, .int x)]) hx hb dX11_manyOn_28 rfl hl (by decide) rfl (fun ls hl => ?_)
          refine lv_iinc (v := (nI (j91 + 1))) (lv' := [(3, .int (nI (j91 + 1))), (2, .int (x10 + 1)), (0, .ref to), (1, .int x)]) hx hb dX11_manyOn_29 hl (k := 1) rfl (nI_1 j91) (by decide) rfl (fun ls hl => ?_)
          refine lv_goto (tgt := 4) hx hb dX11_manyOn_32 (by decide) ?_
          exact ihj91 (j91 + 1) (x10 + 1) H locs ls (by omega) (by omega)  (hP.sub [0] rfl) (hD.sub [0] (by decide) rfl) hS (lv_sub hl [0, 1, 2, 3] rfl)
  exact lp18 (gl + 1) 0 0 _ _ _ (by omega) (by omega)  hP hD hS (lv_sub hl [0, 1, 2, 3] rfl)

set_option maxHeartbeats 4000000 in
set_option maxRecDepth 100000 in
theorem gr_fadedBy (l : Launch) (D : va_G) (y : Nat → ClassId) (x : Int32) (hA1 : x ≤ 999) : kw_Mi l yX11_fadedBy wsX11_fadedBy ({ frames := 1, cells := 0, slots := 0, locals := 60 }) D y [.int x] [] (fun (r : Int32) (u : Unit) => r ≤ 999 ∧ r = (x - ((x + 3) / 4))) (fun _ => []) 0 0 := by
  refine kw_Mi.of (cc := cX11_fadedBy) (maxL := 1) (ret := (some .int)) (by decide) rfl ?_
  intro pZ eZ s mZ beZ meZ cZ A hE
  obtain ⟨hx, hb, hr, hml, hts, hown, hlocks, hin, hA, hP, hD, hK, hN⟩ := hE
  have hS : va_S A s.heap s.heap [] := va_S.rf
  have hl := lv_entry ([.int x]) (n := 1) (Nat.le_of_ble_eq_true rfl)
  rw [lg_entry_eq]
  generalize (lg_sl ([.int x]) ++ List.replicate (1 - (lg_sl ([.int x])).length) Slot.unset).toArray = ls at hl ⊢
  have hl : lv_has ls 1 [(0, .int x)] := hl
  refine lv_iload_n hx hb dX11_fadedBy_0 rfl (lv_at hl 0 rfl) ?_
  refine lv_iload_n hx hb dX11_fadedBy_1 rfl (lv_at hl 0 rfl) ?_
  refine lv_iconst (v := 3) hx hb dX11_fadedBy_2 (by decide) ?_
  refine lv_iadd hx hb dX11_fadedBy_3 ?_
  refine lv_iconst (v := 4) hx hb dX11_fadedBy_4 (by decide) ?_
  refine lv_idiv hx hb dX11_fadedBy_5 (by decide) ?_
  refine lv_isub hx hb dX11_fadedBy_6 ?_
  exact W.iret (v := (x - ((x + 3) / 4))) hx hb hr (fun tZ ht hW => ⟨⟨(x - ((x + 3) / 4)), (), rfl, ⟨kr_faded hA1, rfl⟩, by rw [ht]; exact hP.sub [] rfl, hD.sub [] (by decide) rfl⟩, hS.F ht⟩) hS.2.2 dX11_fadedBy_7

set_option maxHeartbeats 4000000 in
set_option maxRecDepth 100000 in
theorem gr_goStep30 (l : Launch) (D : va_G) (y : Nat → ClassId) (to : Nat) (ft : Nat → Int32) (fi : Nat) (gl : Nat) (hk0_ : ft 0 = (nI fi)) (hk1_ : ft 1 = (nI gl)) (hkt : kr_t 30 ft) (hfi : fi ≤ 6) (hgl : gl ≤ 5) : kw_Mi l yX11_goStep wsX11_goStep ({ frames := 5, cells := 0, slots := 0, locals := 151 }) D y [.ref to] [(to, .inl (y 0, 30, .inl ft))] (fun (r : Int32) (u : (Nat → Int32)) => kr_t 30 u ∧ u 0 = (nI fi) ∧ u 1 = (nI gl)) (fun u => [(to, .inl (y 0, 30, .inl u))]) 0 0 := by
  refine kw_Mi.of (cc := cX11_goStep) (maxL := 7) (ret := (some .int)) (by decide) rfl ?_
  intro pZ eZ s mZ beZ meZ cZ A hE
  obtain ⟨hx, hb, hr, hml, hts, hown, hlocks, hin, hA, hP, hD, hK, hN⟩ := hE
  have hS : va_S A s.heap s.heap [] := va_S.rf
  have hl := lv_entry ([.ref to]) (n := 7) (Nat.le_of_ble_eq_true rfl)
  rw [lg_entry_eq]
  generalize (lg_sl ([.ref to]) ++ List.replicate (7 - (lg_sl ([.ref to])).length) Slot.unset).toArray = ls at hl ⊢
  have hl : lv_has ls 7 [(0, .ref to)] := hl
  refine lv_iconst (v := 0) hx hb dX11_goStep_0 (by decide) ?_
  refine lv_istore_n (lv' := [(1, .int 0), (0, .ref to)]) hx hb dX11_goStep_1 rfl hl (by decide) rfl (fun ls hl => ?_)
  refine lv_iconst (v := 0) hx hb dX11_goStep_2 (by decide) ?_
  refine lv_istore_n (lv' := [(2, .int 0), (1, .int 0), (0, .ref to)]) hx hb dX11_goStep_3 rfl hl (by decide) rfl (fun ls hl => ?_)
  have lp373 : ∀ (fuj91 j91 : Nat) (x186 : Int32) (x187 : Nat → Int32) (H : Heap) (locs : List Loc) (ls : Array Slot), j91 ≤ fi → fi - j91 < fuj91 → kr_t 30 x187 → x187 0 = (nI fi) → x187 1 = (nI gl) → va_P D vwCl [(to, .inl (y 0, 30, .inl x187))] H → va_D A [(to, .inl (y 0, 30, .inl x187))] → va_S A s.heap H locs → lv_has ls 7 [(2, .int (nI j91)), (1, .int x186), (0, .ref to)] → W pZ l eZ ({ frames := 5, cells := 0, slots := 0, locals := 151 }) s mZ [.ref to].toArray beZ meZ cZ H locs 0 0 (MQ beZ (va_Qi (fun (r : Int32) (u : (Nat → Int32)) => kr_t 30 u ∧ u 0 = (nI fi) ∧ u 1 = (nI gl)) (kw_B D (fun u => [(to, .inl (y 0, 30, .inl u))]) A) A) [.ref to].toArray s 0 0 A) (F0 mZ 4 ls []) := by
    intro fuj91
    induction fuj91 with
    | zero => intro j91 x186 x187 H locs ls hj9 hf9; exact absurd hf9 (Nat.not_lt_zero _)
    | succ fuj91 ihj91 =>
      intro j91 x186 x187 H locs ls hj91 hfj91 hr_x187 hk_x187_0 hk_x187_1 hP hD hS hl
      refine lv_iload_n hx hb dX11_goStep_4 rfl (lv_at hl 0 rfl) ?_
      refine lv_aload_n hx hb dX11_goStep_5 rfl (lv_at hl 2 rfl) ?_
      refine lv_iconst (v := 0) hx hb dX11_goStep_6 (by decide) ?_
      refine va_iald hx hb hK hP 0 0 rfl rfl (by unfold vp_in; decide) dX11_goStep_7 ?_
      rw [show ((0 : Int32)).toNatClampNeg = 0 from rfl]
      rw [show (x187 0) = (nI fi) from hk_x187_0]
      refine lv_icmp_ge (tgt := 152) hx hb dX11_goStep_8 (by decide) (fun h374 => ?_) (fun h375 => ?_)
      · skip
        have h374 : fi ≤ j91 := (nI_leI (a := fi) (b := j91) (by omega) (by omega)).mp h374
        refine lv_aload_n hx hb dX11_goStep_152 rfl (lv_at hl 2 rfl) ?_
        refine lv_bipush (v := 21) hx hb dX11_goStep_153 (by decide) ?_
        refine lv_dup2_11 hx hb dX11_goStep_155 rfl rfl ?_
        refine va_iald hx hb hK hP 0 0 rfl rfl (by unfold vp_in; decide) dX11_goStep_156 ?_
        rw [show ((21 : Int32)).toNatClampNeg = 21 from rfl]
        refine lv_iconst (v := 1) hx hb dX11_goStep_157 (by decide) ?_
        refine lv_iadd hx hb dX11_goStep_158 ?_
        refine va_iast hx hb hK hP hD hS 0 0 rfl rfl (by unfold vp_in; decide) dX11_goStep_159 (fun H locs hP hD hS => ?_)
        rw [show ((21 : Int32)).toNatClampNeg = 21 from rfl] at hP hD
        have hr376 : kr_t 30 (upd x187 21 ((x187 21) + 1)) := kr_up hr_x187 (kr_free (by unfold kr_a; omega) (by unfold kr_s; omega))
        have hk377 : (upd x187 21 ((x187 21) + 1)) 0 = (nI fi) := (pk_un (by decide)).trans hk_x187_0
        have hk378 : (upd x187 21 ((x187 21) + 1)) 1 = (nI gl) := (pk_un (by decide)).trans hk_x187_1
        have hP : va_P D vwCl [(to, .inl (y 0, 30, .inl (upd x187 21 ((x187 21) + 1))))] H := hP
        have hD : va_D A [(to, .inl (y 0, 30, .inl (upd x187 21 ((x187 21) + 1))))] := hD
        refine lv_iload_n hx hb dX11_goStep_160 rfl (lv_at hl 1 rfl) ?_
        exact W.iret (v := x186) hx hb hr (fun tZ ht hW => ⟨⟨x186, ((upd x187 21 ((x187 21) + 1))), rfl, ⟨hr376, hk377, hk378⟩, by rw [ht]; exact hP.sub [0] rfl, hD.sub [0] (by decide) rfl⟩, hS.F ht⟩) hS.2.2 dX11_goStep_161
      · skip
        have h375 : ¬ fi ≤ j91 := fun q9 => h375 ((nI_leI (a := fi) (b := j91) (by omega) (by omega)).mpr q9)
        refine lv_aload_n hx hb dX11_goStep_11 rfl (lv_at hl 2 rfl) ?_
        refine lv_iload_n hx hb dX11_goStep_12 rfl (lv_at hl 0 rfl) ?_
        have hs379 : kw_Split [(to, .inl (y 0, 30, .inl x187))] [(to, .inl (y 0, 30, .inl x187))] [] [0] [] := ⟨rfl, rfl, rfl, rfl, rfl, by decide⟩
        refine kw_go_i hs379 hP hD hS hA (va_runS (As := [.ref to, .int (nI j91)]) (rest := []) ⟨hx, hb, hml, hown, hts⟩ (gr_manyOn30 l D y to x187 fi gl (nI j91) hk_x187_0 hk_x187_1 hr_x187 hfi hgl _) (va_cwS 2 hts gX11_goStep_X11_manyOn rfl rfl rfl (by decide +kernel) ⟨Nat.le_of_ble_eq_true rfl, Nat.le_of_ble_eq_true rfl⟩) (kw_PreS hs379 hP hD hK hN) rfl rfl hl.1 rfl (lv_room (Nat.le_of_ble_eq_true rfl)) dX11_goStep_13 ⟨Nat.le_of_ble_eq_true rfl, Nat.le_of_ble_eq_true rfl⟩) (fun r380 u381 H locs hq hP hD hS => ?_)
        have hP : va_P D vwCl [(to, .inl (y 0, 30, .inl x187))] H := hP
        have hD : va_D A [(to, .inl (y 0, 30, .inl x187))] := hD
        refine lv_istore_n (lv' := [(3, .int r380), (2, .int (nI j91)), (1, .int x186), (0, .ref to)]) hx hb dX11_goStep_16 rfl hl (by decide) rfl (fun ls hl => ?_)
        refine lv_iload_n hx hb dX11_goStep_17 rfl (lv_at hl 0 rfl) ?_
        refine lv_if_ne (tgt := 25) hx hb dX11_goStep_18 (by decide) (fun h382 => ?_) (fun h383 => ?_)
        · skip
          refine lv_aload_n hx hb dX11_goStep_25 rfl (lv_at hl 3 rfl) ?_
          refine lv_iload_n hx hb dX11_goStep_26 rfl (lv_at hl 1 rfl) ?_
          refine lv_aload_n hx hb dX11_goStep_27 rfl (lv_at hl 3 rfl) ?_
          refine lv_bipush (v := 21) hx hb dX11_goStep_28 (by decide) ?_
          refine va_iald hx hb hK hP 0 0 rfl rfl (by unfold vp_in; decide) dX11_goStep_30 ?_
          rw [show ((21 : Int32)).toNatClampNeg = 21 from rfl]
          have hs384 : kw_Split [(to, .inl (y 0, 30, .inl x187))] [(to, .inl (y 0, 30, .inl x187))] [] [0] [] := ⟨rfl, rfl, rfl, rfl, rfl, by decide⟩
          refine kw_go_i hs384 hP hD hS hA (va_runS (As := [.ref to, .int (nI j91), .int (x187 21)]) (rest := []) ⟨hx, hb, hml, hown, hts⟩ (gr_seenOn30 l D y to x187 fi gl j91 (x187 21) hk_x187_0 hk_x187_1 hr_x187 hfi hgl (by omega) _) (va_cwS 3 hts gX11_goStep_X11_seenOn rfl rfl rfl (by decide +kernel) ⟨Nat.le_of_ble_eq_true rfl, Nat.le_of_ble_eq_true rfl⟩) (kw_PreS hs384 hP hD hK hN) rfl rfl hl.1 rfl (lv_room (Nat.le_of_ble_eq_true rfl)) dX11_goStep_31 ⟨Nat.le_of_ble_eq_true rfl, Nat.le_of_ble_eq_true rfl⟩) (fun r385 u386 H locs hq hP hD hS => ?_)
          have hP : va_P D vwCl [(to, .inl (y 0, 30, .inl x187))] H := hP
          have hD : va_D A [(to, .inl (y 0, 30, .inl x187))] := hD
          refine lv_iload_n hx hb dX11_goStep_34 rfl (lv_at hl 0 rfl) ?_
          refine lv_idiv hx hb dX11_goStep_35 (h382) ?_
          refine lv_istore (lv' := [(4, .int (r385 / r380)), (3, .int r380), (2, .int (nI j91)), (1, .int x186), (0, .ref to)]) hx hb dX11_goStep_36 hl (by decide) rfl (fun ls hl => ?_)
          refine lv_iconst (v := 0) hx hb dX11_goStep_38 (by decide) ?_
          refine lv_istore (lv' := [(5, .int 0), (4, .int (r385 / r380)), (3, .int r380), (2, .int (nI j91)), (1, .int x186), (0, .ref to)]) hx hb dX11_goStep_39 hl (by decide) rfl (fun ls hl => ?_)
          have lp444 : ∀ (fuj92 j92 : Nat) (x415 : Nat → Int32) (H : Heap) (locs : List Loc) (ls : Array Slot), j92 ≤ gl → gl - j92 < fuj92 → kr_t 30 x415 → x415 0 = (nI fi) → x415 1 = (nI gl) → va_P D vwCl [(to, .inl (y 0, 30, .inl x415))] H → va_D A [(to, .inl (y 0, 30, .inl x415))] → va_S A s.heap H locs → lv_has ls 7 [(5, .int (nI j92)), (4, .int (r385 / r380)), (3, .int r380), (2, .int (nI j91)), (1, .int x186), (0, .ref to)] → W pZ l eZ ({ frames := 5, cells := 0, slots := 0, locals := 151 }) s mZ [.ref to].toArray beZ meZ cZ H locs 0 0 (MQ beZ (va_Qi (fun (r : Int32) (u : (Nat → Int32)) => kr_t 30 u ∧ u 0 = (nI fi) ∧ u 1 = (nI gl)) (kw_B D (fun u => [(to, .inl (y 0, 30, .inl u))]) A) A) [.ref to].toArray s 0 0 A) (F0 mZ 41 ls []) := by
            intro fuj92
            induction fuj92 with
            | zero => intro j92 x415 H locs ls hj9 hf9; exact absurd hf9 (Nat.not_lt_zero _)
            | succ fuj92 ihj92 =>
              intro j92 x415 H locs ls hj92 hfj92 hr_x415 hk_x415_0 hk_x415_1 hP hD hS hl
              refine lv_iload hx hb dX11_goStep_41 (lv_at hl 0 rfl) ?_
              refine lv_aload_n hx hb dX11_goStep_43 rfl (lv_at hl 5 rfl) ?_
              refine lv_iconst (v := 1) hx hb dX11_goStep_44 (by decide) ?_
              refine va_iald hx hb hK hP 0 0 rfl rfl (by unfold vp_in; decide) dX11_goStep_45 ?_
              rw [show ((1 : Int32)).toNatClampNeg = 1 from rfl]
              rw [show (x415 1) = (nI gl) from hk_x415_1]
              refine lv_icmp_ge (tgt := 111) hx hb dX11_goStep_46 (by decide) (fun h445 => ?_) (fun h446 => ?_)
              · skip
                have h445 : gl ≤ j92 := (nI_leI (a := gl) (b := j92) (by omega) (by omega)).mp h445
                refine lv_aload_n hx hb dX11_goStep_111 rfl (lv_at hl 5 rfl) ?_
                refine lv_iconst (v := 5) hx hb dX11_goStep_112 (by decide) ?_
                refine lv_iload_n hx hb dX11_goStep_113 rfl (lv_at hl 3 rfl) ?_
                refine lv_iadd hx hb dX11_goStep_114 ?_
                rw [show 5 + (nI j91) = nI (j91 + 5) from (nI_add 5 j91).trans (congrArg nI (by omega))]
                refine va_iald hx hb hK hP 0 0 rfl rfl (vp_in_nI (by omega) (by decide)) dX11_goStep_115 ?_
                rw [nI_clamp (n := (j91 + 5)) (by omega)]
                refine lv_iload hx hb dX11_goStep_116 (lv_at hl 1 rfl) ?_
                refine lv_iload_n hx hb dX11_goStep_118 rfl (lv_at hl 2 rfl) ?_
                refine lv_imul hx hb dX11_goStep_119 ?_
                refine lv_isub hx hb dX11_goStep_120 ?_
                refine lv_istore (lv' := [(5, .int ((x415 (j91 + 5)) - ((r385 / r380) * r380))), (4, .int (r385 / r380)), (3, .int r380), (2, .int (nI j91)), (1, .int x186), (0, .ref to)]) hx hb dX11_goStep_121 hl (by decide) rfl (fun ls hl => ?_)
                refine lv_aload_n hx hb dX11_goStep_123 rfl (lv_at hl 5 rfl) ?_
                refine lv_iconst (v := 5) hx hb dX11_goStep_124 (by decide) ?_
                refine lv_iload_n hx hb dX11_goStep_125 rfl (lv_at hl 3 rfl) ?_
                refine lv_iadd hx hb dX11_goStep_126 ?_
                rw [show 5 + (nI j91) = nI (j91 + 5) from (nI_add 5 j91).trans (congrArg nI (by omega))]
                refine lv_iload hx hb dX11_goStep_127 (lv_at hl 0 rfl) ?_
                refine lv_if_ge (tgt := 136) hx hb dX11_goStep_129 (by decide) (fun h447 => ?_) (fun h448 => ?_)
                · skip
                  refine lv_iload hx hb dX11_goStep_136 (lv_at hl 0 rfl) ?_
                  refine va_iast hx hb hK hP hD hS 0 0 rfl rfl (vp_in_nI (by omega) (by decide)) dX11_goStep_138 (fun H locs hP hD hS => ?_)
                  rw [nI_clamp (n := (j91 + 5)) (by omega)] at hP hD
                  have hr449 : kr_t 30 (upd x415 (j91 + 5) ((x415 (j91 + 5)) - ((r385 / r380) * r380))) := kr_up hr_x415 (kr_free (by unfold kr_a; omega) (by unfold kr_s; omega))
                  have hk450 : (upd x415 (j91 + 5) ((x415 (j91 + 5)) - ((r385 / r380) * r380))) 0 = (nI fi) := (pk_un (by omega)).trans hk_x415_0
                  have hk451 : (upd x415 (j91 + 5) ((x415 (j91 + 5)) - ((r385 / r380) * r380))) 1 = (nI gl) := (pk_un (by omega)).trans hk_x415_1
                  have hP : va_P D vwCl [(to, .inl (y 0, 30, .inl (upd x415 (j91 + 5) ((x415 (j91 + 5)) - ((r385 / r380) * r380)))))] H := hP
                  have hD : va_D A [(to, .inl (y 0, 30, .inl (upd x415 (j91 + 5) ((x415 (j91 + 5)) - ((r385 / r380) * r380)))))] := hD
                  refine lv_iload_n hx hb dX11_goStep_139 rfl (lv_at hl 4 rfl) ?_
                  refine lv_iload hx hb dX11_goStep_140 (lv_at hl 1 rfl) ?_
                  refine lv_iload_n hx hb dX11_goStep_142 rfl (lv_at hl 2 rfl) ?_
                  refine lv_imul hx hb dX11_goStep_143 ?_
                  refine lv_iadd hx hb dX11_goStep_144 ?_
                  refine lv_istore_n (lv' := [(1, .int (x186 + ((r385 / r380) * r380))), (5, .int ((x415 (j91 + 5)) - ((r385 / r380) * r380))), (4, .int (r385 / r380)), (3, .int r380), (2, .int (nI j91)), (0, .ref to)]) hx hb dX11_goStep_145 rfl hl (by decide) rfl (fun ls hl => ?_)
                  refine lv_iinc (v := (nI (j91 + 1))) (lv' := [(2, .int (nI (j91 + 1))), (1, .int (x186 + ((r385 / r380) * r380))), (5, .int ((x415 (j91 + 5)) - ((r385 / r380) * r380))), (4, .int (r385 / r380)), (3, .int r380), (0, .ref to)]) hx hb dX11_goStep_146 hl (k := 4) rfl (nI_1 j91) (by decide) rfl (fun ls hl => ?_)
                  refine lv_goto (tgt := 4) hx hb dX11_goStep_149 (by decide) ?_
                  exact ihj91 (j91 + 1) (x186 + ((r385 / r380) * r380)) (upd x415 (j91 + 5) ((x415 (j91 + 5)) - ((r385 / r380) * r380))) H locs ls (by omega) (by omega) hr449 hk450 hk451 (hP.sub [0] rfl) (hD.sub [0] (by decide) rfl) hS (lv_sub hl [0, 1, 5] rfl)
                · skip
                  refine lv_iconst (v := 0) hx hb dX11_goStep_132 (by decide) ?_
                  refine lv_goto (tgt := 138) hx hb dX11_goStep_133 (by decide) ?_
                  refine va_iast hx hb hK hP hD hS 0 0 rfl rfl (vp_in_nI (by omega) (by decide)) dX11_goStep_138 (fun H locs hP hD hS => ?_)
                  rw [nI_clamp (n := (j91 + 5)) (by omega)] at hP hD
                  have hr452 : kr_t 30 (upd x415 (j91 + 5) 0) := kr_up hr_x415 (kr_ok0)
                  have hk453 : (upd x415 (j91 + 5) 0) 0 = (nI fi) := (pk_un (by omega)).trans hk_x415_0
                  have hk454 : (upd x415 (j91 + 5) 0) 1 = (nI gl) := (pk_un (by omega)).trans hk_x415_1
                  have hP : va_P D vwCl [(to, .inl (y 0, 30, .inl (upd x415 (j91 + 5) 0)))] H := hP
                  have hD : va_D A [(to, .inl (y 0, 30, .inl (upd x415 (j91 + 5) 0)))] := hD
                  refine lv_iload_n hx hb dX11_goStep_139 rfl (lv_at hl 4 rfl) ?_
                  refine lv_iload hx hb dX11_goStep_140 (lv_at hl 1 rfl) ?_
                  refine lv_iload_n hx hb dX11_goStep_142 rfl (lv_at hl 2 rfl) ?_
                  refine lv_imul hx hb dX11_goStep_143 ?_
                  refine lv_iadd hx hb dX11_goStep_144 ?_
                  refine lv_istore_n (lv' := [(1, .int (x186 + ((r385 / r380) * r380))), (5, .int ((x415 (j91 + 5)) - ((r385 / r380) * r380))), (4, .int (r385 / r380)), (3, .int r380), (2, .int (nI j91)), (0, .ref to)]) hx hb dX11_goStep_145 rfl hl (by decide) rfl (fun ls hl => ?_)
                  refine lv_iinc (v := (nI (j91 + 1))) (lv' := [(2, .int (nI (j91 + 1))), (1, .int (x186 + ((r385 / r380) * r380))), (5, .int ((x415 (j91 + 5)) - ((r385 / r380) * r380))), (4, .int (r385 / r380)), (3, .int r380), (0, .ref to)]) hx hb dX11_goStep_146 hl (k := 4) rfl (nI_1 j91) (by decide) rfl (fun ls hl => ?_)
                  refine lv_goto (tgt := 4) hx hb dX11_goStep_149 (by decide) ?_
                  exact ihj91 (j91 + 1) (x186 + ((r385 / r380) * r380)) (upd x415 (j91 + 5) 0) H locs ls (by omega) (by omega) hr452 hk453 hk454 (hP.sub [0] rfl) (hD.sub [0] (by decide) rfl) hS (lv_sub hl [0, 1, 5] rfl)
              · skip
                have h446 : ¬ gl ≤ j92 := fun q9 => h446 ((nI_leI (a := gl) (b := j92) (by omega) (by omega)).mpr q9)
                refine lv_aload_n hx hb dX11_goStep_49 rfl (lv_at hl 5 rfl) ?_
                refine lv_bipush (v := 11) hx hb dX11_goStep_50 (by decide) ?_
                refine lv_iload hx hb dX11_goStep_52 (lv_at hl 0 rfl) ?_
                refine lv_iadd hx hb dX11_goStep_54 ?_
                rw [show 11 + (nI j92) = nI (j92 + 11) from (nI_add 11 j92).trans (congrArg nI (by omega))]
                refine va_iald hx hb hK hP 0 0 rfl rfl (vp_in_nI (by omega) (by decide)) dX11_goStep_55 ?_
                rw [nI_clamp (n := (j92 + 11)) (by omega)]
                obtain ⟨w455, h456, h457⟩ := kr_at hr_x415 (p := (j92 + 11)) (by omega) (by unfold kr_a; omega)
                rw [h457]
                refine lv_iload_n hx hb dX11_goStep_56 rfl (lv_at hl 3 rfl) ?_
                refine lv_icmp_ne (tgt := 73) hx hb dX11_goStep_57 (by decide) (fun h458 => ?_) (fun h459 => ?_)
                · skip
                  have h458 : ¬ w455 = j91 := fun q9 => h458 ((nI_eq (a := w455) (b := j91) (by omega) (by omega)).mpr q9)
                  refine lv_aload_n hx hb dX11_goStep_73 rfl (lv_at hl 5 rfl) ?_
                  refine lv_bipush (v := 16) hx hb dX11_goStep_74 (by decide) ?_
                  refine lv_iload hx hb dX11_goStep_76 (lv_at hl 0 rfl) ?_
                  refine lv_iadd hx hb dX11_goStep_78 ?_
                  rw [show 16 + (nI j92) = nI (j92 + 16) from (nI_add 16 j92).trans (congrArg nI (by omega))]
                  refine va_iald hx hb hK hP 0 0 rfl rfl (vp_in_nI (by omega) (by decide)) dX11_goStep_79 ?_
                  rw [nI_clamp (n := (j92 + 16)) (by omega)]
                  refine lv_istore (lv' := [(6, .int (x415 (j92 + 16))), (5, .int (nI j92)), (4, .int (r385 / r380)), (3, .int r380), (2, .int (nI j91)), (1, .int x186), (0, .ref to)]) hx hb dX11_goStep_80 hl (by decide) rfl (fun ls hl => ?_)
                  refine lv_aload_n hx hb dX11_goStep_82 rfl (lv_at hl 6 rfl) ?_
                  refine lv_bipush (v := 16) hx hb dX11_goStep_83 (by decide) ?_
                  refine lv_iload hx hb dX11_goStep_85 (lv_at hl 1 rfl) ?_
                  refine lv_iadd hx hb dX11_goStep_87 ?_
                  rw [show 16 + (nI j92) = nI (j92 + 16) from (nI_add 16 j92).trans (congrArg nI (by omega))]
                  refine lv_iload hx hb dX11_goStep_88 (lv_at hl 0 rfl) ?_
                  refine lv_sipush (v := 999) hx hb dX11_goStep_90 (by decide) ?_
                  refine lv_icmp_le (tgt := 102) hx hb dX11_goStep_93 (by decide) (fun h460 => ?_) (fun h461 => ?_)
                  · skip
                    refine lv_iload hx hb dX11_goStep_102 (lv_at hl 0 rfl) ?_
                    refine va_iast hx hb hK hP hD hS 0 0 rfl rfl (vp_in_nI (by omega) (by decide)) dX11_goStep_104 (fun H locs hP hD hS => ?_)
                    rw [nI_clamp (n := (j92 + 16)) (by omega)] at hP hD
                    have hr462 : kr_t 30 (upd x415 (j92 + 16) (x415 (j92 + 16))) := kr_up hr_x415 (kr_move (p := (j92 + 16)) (hr_x415 (j92 + 16) (by omega)) (by unfold kr_a; omega) (by unfold kr_s; omega))
                    have hk463 : (upd x415 (j92 + 16) (x415 (j92 + 16))) 0 = (nI fi) := (pk_un (by omega)).trans hk_x415_0
                    have hk464 : (upd x415 (j92 + 16) (x415 (j92 + 16))) 1 = (nI gl) := (pk_un (by omega)).trans hk_x415_1
                    have hP : va_P D vwCl [(to, .inl (y 0, 30, .inl (upd x415 (j92 + 16) (x415 (j92 + 16)))))] H := hP
                    have hD : va_D A [(to, .inl (y 0, 30, .inl (upd x415 (j92 + 16) (x415 (j92 + 16)))))] := hD
                    refine lv_iinc (v := (nI (j92 + 1))) (lv' := [(5, .int (nI (j92 + 1))), (6, .int (x415 (j92 + 16))), (4, .int (r385 / r380)), (3, .int r380), (2, .int (nI j91)), (1, .int x186), (0, .ref to)]) hx hb dX11_goStep_105 hl (k := 1) rfl (nI_1 j92) (by decide) rfl (fun ls hl => ?_)
                    refine lv_goto (tgt := 41) hx hb dX11_goStep_108 (by decide) ?_
                    exact ihj92 (j92 + 1) (upd x415 (j92 + 16) (x415 (j92 + 16))) H locs ls (by omega) (by omega) hr462 hk463 hk464 (hP.sub [0] rfl) (hD.sub [0] (by decide) rfl) hS (lv_sub hl [0, 2, 3, 4, 5, 6] rfl)
                  · skip
                    exact absurd ((hr_x415 (j92 + 16) (by omega)).2 (by unfold kr_s; omega)) h461
                · skip
                  have h459 : w455 = j91 := (nI_eq (a := w455) (b := j91) (by omega) (by omega)).mp h459
                  refine lv_aload_n hx hb dX11_goStep_60 rfl (lv_at hl 5 rfl) ?_
                  refine lv_bipush (v := 16) hx hb dX11_goStep_61 (by decide) ?_
                  refine lv_iload hx hb dX11_goStep_63 (lv_at hl 0 rfl) ?_
                  refine lv_iadd hx hb dX11_goStep_65 ?_
                  rw [show 16 + (nI j92) = nI (j92 + 16) from (nI_add 16 j92).trans (congrArg nI (by omega))]
                  refine va_iald hx hb hK hP 0 0 rfl rfl (vp_in_nI (by omega) (by decide)) dX11_goStep_66 ?_
                  rw [nI_clamp (n := (j92 + 16)) (by omega)]
                  refine lv_iload hx hb dX11_goStep_67 (lv_at hl 1 rfl) ?_
                  refine lv_iadd hx hb dX11_goStep_69 ?_
                  refine lv_goto (tgt := 80) hx hb dX11_goStep_70 (by decide) ?_
                  refine lv_istore (lv' := [(6, .int ((x415 (j92 + 16)) + (r385 / r380))), (5, .int (nI j92)), (4, .int (r385 / r380)), (3, .int r380), (2, .int (nI j91)), (1, .int x186), (0, .ref to)]) hx hb dX11_goStep_80 hl (by decide) rfl (fun ls hl => ?_)
                  refine lv_aload_n hx hb dX11_goStep_82 rfl (lv_at hl 6 rfl) ?_
                  refine lv_bipush (v := 16) hx hb dX11_goStep_83 (by decide) ?_
                  refine lv_iload hx hb dX11_goStep_85 (lv_at hl 1 rfl) ?_
                  refine lv_iadd hx hb dX11_goStep_87 ?_
                  rw [show 16 + (nI j92) = nI (j92 + 16) from (nI_add 16 j92).trans (congrArg nI (by omega))]
                  refine lv_iload hx hb dX11_goStep_88 (lv_at hl 0 rfl) ?_
                  refine lv_sipush (v := 999) hx hb dX11_goStep_90 (by decide) ?_
                  refine lv_icmp_le (tgt := 102) hx hb dX11_goStep_93 (by decide) (fun h465 => ?_) (fun h466 => ?_)
                  · skip
                    refine lv_iload hx hb dX11_goStep_102 (lv_at hl 0 rfl) ?_
                    refine va_iast hx hb hK hP hD hS 0 0 rfl rfl (vp_in_nI (by omega) (by decide)) dX11_goStep_104 (fun H locs hP hD hS => ?_)
                    rw [nI_clamp (n := (j92 + 16)) (by omega)] at hP hD
                    have hr467 : kr_t 30 (upd x415 (j92 + 16) ((x415 (j92 + 16)) + (r385 / r380))) := kr_up hr_x415 (kr_oks (by unfold kr_a; omega) (h465))
                    have hk468 : (upd x415 (j92 + 16) ((x415 (j92 + 16)) + (r385 / r380))) 0 = (nI fi) := (pk_un (by omega)).trans hk_x415_0
                    have hk469 : (upd x415 (j92 + 16) ((x415 (j92 + 16)) + (r385 / r380))) 1 = (nI gl) := (pk_un (by omega)).trans hk_x415_1
                    have hP : va_P D vwCl [(to, .inl (y 0, 30, .inl (upd x415 (j92 + 16) ((x415 (j92 + 16)) + (r385 / r380)))))] H := hP
                    have hD : va_D A [(to, .inl (y 0, 30, .inl (upd x415 (j92 + 16) ((x415 (j92 + 16)) + (r385 / r380)))))] := hD
                    refine lv_iinc (v := (nI (j92 + 1))) (lv' := [(5, .int (nI (j92 + 1))), (6, .int ((x415 (j92 + 16)) + (r385 / r380))), (4, .int (r385 / r380)), (3, .int r380), (2, .int (nI j91)), (1, .int x186), (0, .ref to)]) hx hb dX11_goStep_105 hl (k := 1) rfl (nI_1 j92) (by decide) rfl (fun ls hl => ?_)
                    refine lv_goto (tgt := 41) hx hb dX11_goStep_108 (by decide) ?_
                    exact ihj92 (j92 + 1) (upd x415 (j92 + 16) ((x415 (j92 + 16)) + (r385 / r380))) H locs ls (by omega) (by omega) hr467 hk468 hk469 (hP.sub [0] rfl) (hD.sub [0] (by decide) rfl) hS (lv_sub hl [0, 2, 3, 4, 5, 6] rfl)
                  · skip
                    refine lv_sipush (v := 999) hx hb dX11_goStep_96 (by decide) ?_
                    refine lv_goto (tgt := 104) hx hb dX11_goStep_99 (by decide) ?_
                    refine va_iast hx hb hK hP hD hS 0 0 rfl rfl (vp_in_nI (by omega) (by decide)) dX11_goStep_104 (fun H locs hP hD hS => ?_)
                    rw [nI_clamp (n := (j92 + 16)) (by omega)] at hP hD
                    have hr470 : kr_t 30 (upd x415 (j92 + 16) 999) := kr_up hr_x415 (kr_oks (by unfold kr_a; omega) (by decide))
                    have hk471 : (upd x415 (j92 + 16) 999) 0 = (nI fi) := (pk_un (by omega)).trans hk_x415_0
                    have hk472 : (upd x415 (j92 + 16) 999) 1 = (nI gl) := (pk_un (by omega)).trans hk_x415_1
                    have hP : va_P D vwCl [(to, .inl (y 0, 30, .inl (upd x415 (j92 + 16) 999)))] H := hP
                    have hD : va_D A [(to, .inl (y 0, 30, .inl (upd x415 (j92 + 16) 999)))] := hD
                    refine lv_iinc (v := (nI (j92 + 1))) (lv' := [(5, .int (nI (j92 + 1))), (6, .int ((x415 (j92 + 16)) + (r385 / r380))), (4, .int (r385 / r380)), (3, .int r380), (2, .int (nI j91)), (1, .int x186), (0, .ref to)]) hx hb dX11_goStep_105 hl (k := 1) rfl (nI_1 j92) (by decide) rfl (fun ls hl => ?_)
                    refine lv_goto (tgt := 41) hx hb dX11_goStep_108 (by decide) ?_
                    exact ihj92 (j92 + 1) (upd x415 (j92 + 16) 999) H locs ls (by omega) (by omega) hr470 hk471 hk472 (hP.sub [0] rfl) (hD.sub [0] (by decide) rfl) hS (lv_sub hl [0, 2, 3, 4, 5, 6] rfl)
          exact lp444 (gl + 1) 0 x187 _ _ _ (by omega) (by omega) hr_x187 hk_x187_0 hk_x187_1 hP hD hS (lv_sub hl [0, 1, 2, 3, 4, 5] rfl)
        · skip
          refine lv_iconst (v := 0) hx hb dX11_goStep_21 (by decide) ?_
          refine lv_goto (tgt := 36) hx hb dX11_goStep_22 (by decide) ?_
          refine lv_istore (lv' := [(4, .int 0), (3, .int r380), (2, .int (nI j91)), (1, .int x186), (0, .ref to)]) hx hb dX11_goStep_36 hl (by decide) rfl (fun ls hl => ?_)
          refine lv_iconst (v := 0) hx hb dX11_goStep_38 (by decide) ?_
          refine lv_istore (lv' := [(5, .int 0), (4, .int 0), (3, .int r380), (2, .int (nI j91)), (1, .int x186), (0, .ref to)]) hx hb dX11_goStep_39 hl (by decide) rfl (fun ls hl => ?_)
          have lp530 : ∀ (fuj92 j92 : Nat) (x501 : Nat → Int32) (H : Heap) (locs : List Loc) (ls : Array Slot), j92 ≤ gl → gl - j92 < fuj92 → kr_t 30 x501 → x501 0 = (nI fi) → x501 1 = (nI gl) → va_P D vwCl [(to, .inl (y 0, 30, .inl x501))] H → va_D A [(to, .inl (y 0, 30, .inl x501))] → va_S A s.heap H locs → lv_has ls 7 [(5, .int (nI j92)), (4, .int 0), (3, .int r380), (2, .int (nI j91)), (1, .int x186), (0, .ref to)] → W pZ l eZ ({ frames := 5, cells := 0, slots := 0, locals := 151 }) s mZ [.ref to].toArray beZ meZ cZ H locs 0 0 (MQ beZ (va_Qi (fun (r : Int32) (u : (Nat → Int32)) => kr_t 30 u ∧ u 0 = (nI fi) ∧ u 1 = (nI gl)) (kw_B D (fun u => [(to, .inl (y 0, 30, .inl u))]) A) A) [.ref to].toArray s 0 0 A) (F0 mZ 41 ls []) := by
            intro fuj92
            induction fuj92 with
            | zero => intro j92 x501 H locs ls hj9 hf9; exact absurd hf9 (Nat.not_lt_zero _)
            | succ fuj92 ihj92 =>
              intro j92 x501 H locs ls hj92 hfj92 hr_x501 hk_x501_0 hk_x501_1 hP hD hS hl
              refine lv_iload hx hb dX11_goStep_41 (lv_at hl 0 rfl) ?_
              refine lv_aload_n hx hb dX11_goStep_43 rfl (lv_at hl 5 rfl) ?_
              refine lv_iconst (v := 1) hx hb dX11_goStep_44 (by decide) ?_
              refine va_iald hx hb hK hP 0 0 rfl rfl (by unfold vp_in; decide) dX11_goStep_45 ?_
              rw [show ((1 : Int32)).toNatClampNeg = 1 from rfl]
              rw [show (x501 1) = (nI gl) from hk_x501_1]
              refine lv_icmp_ge (tgt := 111) hx hb dX11_goStep_46 (by decide) (fun h531 => ?_) (fun h532 => ?_)
              · skip
                have h531 : gl ≤ j92 := (nI_leI (a := gl) (b := j92) (by omega) (by omega)).mp h531
                refine lv_aload_n hx hb dX11_goStep_111 rfl (lv_at hl 5 rfl) ?_
                refine lv_iconst (v := 5) hx hb dX11_goStep_112 (by decide) ?_
                refine lv_iload_n hx hb dX11_goStep_113 rfl (lv_at hl 3 rfl) ?_
                refine lv_iadd hx hb dX11_goStep_114 ?_
                rw [show 5 + (nI j91) = nI (j91 + 5) from (nI_add 5 j91).trans (congrArg nI (by omega))]
                refine va_iald hx hb hK hP 0 0 rfl rfl (vp_in_nI (by omega) (by decide)) dX11_goStep_115 ?_
                rw [nI_clamp (n := (j91 + 5)) (by omega)]
                refine lv_iload hx hb dX11_goStep_116 (lv_at hl 1 rfl) ?_
                refine lv_iload_n hx hb dX11_goStep_118 rfl (lv_at hl 2 rfl) ?_
                refine lv_imul hx hb dX11_goStep_119 ?_
                refine lv_isub hx hb dX11_goStep_120 ?_
                refine lv_istore (lv' := [(5, .int ((x501 (j91 + 5)) - (0 * r380))), (4, .int 0), (3, .int r380), (2, .int (nI j91)), (1, .int x186), (0, .ref to)]) hx hb dX11_goStep_121 hl (by decide) rfl (fun ls hl => ?_)
                refine lv_aload_n hx hb dX11_goStep_123 rfl (lv_at hl 5 rfl) ?_
                refine lv_iconst (v := 5) hx hb dX11_goStep_124 (by decide) ?_
                refine lv_iload_n hx hb dX11_goStep_125 rfl (lv_at hl 3 rfl) ?_
                refine lv_iadd hx hb dX11_goStep_126 ?_
                rw [show 5 + (nI j91) = nI (j91 + 5) from (nI_add 5 j91).trans (congrArg nI (by omega))]
                refine lv_iload hx hb dX11_goStep_127 (lv_at hl 0 rfl) ?_
                refine lv_if_ge (tgt := 136) hx hb dX11_goStep_129 (by decide) (fun h533 => ?_) (fun h534 => ?_)
                · skip
                  refine lv_iload hx hb dX11_goStep_136 (lv_at hl 0 rfl) ?_
                  refine va_iast hx hb hK hP hD hS 0 0 rfl rfl (vp_in_nI (by omega) (by decide)) dX11_goStep_138 (fun H locs hP hD hS => ?_)
                  rw [nI_clamp (n := (j91 + 5)) (by omega)] at hP hD
                  have hr535 : kr_t 30 (upd x501 (j91 + 5) ((x501 (j91 + 5)) - (0 * r380))) := kr_up hr_x501 (kr_free (by unfold kr_a; omega) (by unfold kr_s; omega))
                  have hk536 : (upd x501 (j91 + 5) ((x501 (j91 + 5)) - (0 * r380))) 0 = (nI fi) := (pk_un (by omega)).trans hk_x501_0
                  have hk537 : (upd x501 (j91 + 5) ((x501 (j91 + 5)) - (0 * r380))) 1 = (nI gl) := (pk_un (by omega)).trans hk_x501_1
                  have hP : va_P D vwCl [(to, .inl (y 0, 30, .inl (upd x501 (j91 + 5) ((x501 (j91 + 5)) - (0 * r380)))))] H := hP
                  have hD : va_D A [(to, .inl (y 0, 30, .inl (upd x501 (j91 + 5) ((x501 (j91 + 5)) - (0 * r380)))))] := hD
                  refine lv_iload_n hx hb dX11_goStep_139 rfl (lv_at hl 4 rfl) ?_
                  refine lv_iload hx hb dX11_goStep_140 (lv_at hl 1 rfl) ?_
                  refine lv_iload_n hx hb dX11_goStep_142 rfl (lv_at hl 2 rfl) ?_
                  refine lv_imul hx hb dX11_goStep_143 ?_
                  refine lv_iadd hx hb dX11_goStep_144 ?_
                  refine lv_istore_n (lv' := [(1, .int (x186 + (0 * r380))), (5, .int ((x501 (j91 + 5)) - (0 * r380))), (4, .int 0), (3, .int r380), (2, .int (nI j91)), (0, .ref to)]) hx hb dX11_goStep_145 rfl hl (by decide) rfl (fun ls hl => ?_)
                  refine lv_iinc (v := (nI (j91 + 1))) (lv' := [(2, .int (nI (j91 + 1))), (1, .int (x186 + (0 * r380))), (5, .int ((x501 (j91 + 5)) - (0 * r380))), (4, .int 0), (3, .int r380), (0, .ref to)]) hx hb dX11_goStep_146 hl (k := 4) rfl (nI_1 j91) (by decide) rfl (fun ls hl => ?_)
                  refine lv_goto (tgt := 4) hx hb dX11_goStep_149 (by decide) ?_
                  exact ihj91 (j91 + 1) (x186 + (0 * r380)) (upd x501 (j91 + 5) ((x501 (j91 + 5)) - (0 * r380))) H locs ls (by omega) (by omega) hr535 hk536 hk537 (hP.sub [0] rfl) (hD.sub [0] (by decide) rfl) hS (lv_sub hl [0, 1, 5] rfl)
                · skip
                  refine lv_iconst (v := 0) hx hb dX11_goStep_132 (by decide) ?_
                  refine lv_goto (tgt := 138) hx hb dX11_goStep_133 (by decide) ?_
                  refine va_iast hx hb hK hP hD hS 0 0 rfl rfl (vp_in_nI (by omega) (by decide)) dX11_goStep_138 (fun H locs hP hD hS => ?_)
                  rw [nI_clamp (n := (j91 + 5)) (by omega)] at hP hD
                  have hr538 : kr_t 30 (upd x501 (j91 + 5) 0) := kr_up hr_x501 (kr_ok0)
                  have hk539 : (upd x501 (j91 + 5) 0) 0 = (nI fi) := (pk_un (by omega)).trans hk_x501_0
                  have hk540 : (upd x501 (j91 + 5) 0) 1 = (nI gl) := (pk_un (by omega)).trans hk_x501_1
                  have hP : va_P D vwCl [(to, .inl (y 0, 30, .inl (upd x501 (j91 + 5) 0)))] H := hP
                  have hD : va_D A [(to, .inl (y 0, 30, .inl (upd x501 (j91 + 5) 0)))] := hD
                  refine lv_iload_n hx hb dX11_goStep_139 rfl (lv_at hl 4 rfl) ?_
                  refine lv_iload hx hb dX11_goStep_140 (lv_at hl 1 rfl) ?_
                  refine lv_iload_n hx hb dX11_goStep_142 rfl (lv_at hl 2 rfl) ?_
                  refine lv_imul hx hb dX11_goStep_143 ?_
                  refine lv_iadd hx hb dX11_goStep_144 ?_
                  refine lv_istore_n (lv' := [(1, .int (x186 + (0 * r380))), (5, .int ((x501 (j91 + 5)) - (0 * r380))), (4, .int 0), (3, .int r380), (2, .int (nI j91)), (0, .ref to)]) hx hb dX11_goStep_145 rfl hl (by decide) rfl (fun ls hl => ?_)
                  refine lv_iinc (v := (nI (j91 + 1))) (lv' := [(2, .int (nI (j91 + 1))), (1, .int (x186 + (0 * r380))), (5, .int ((x501 (j91 + 5)) - (0 * r380))), (4, .int 0), (3, .int r380), (0, .ref to)]) hx hb dX11_goStep_146 hl (k := 4) rfl (nI_1 j91) (by decide) rfl (fun ls hl => ?_)
                  refine lv_goto (tgt := 4) hx hb dX11_goStep_149 (by decide) ?_
                  exact ihj91 (j91 + 1) (x186 + (0 * r380)) (upd x501 (j91 + 5) 0) H locs ls (by omega) (by omega) hr538 hk539 hk540 (hP.sub [0] rfl) (hD.sub [0] (by decide) rfl) hS (lv_sub hl [0, 1, 5] rfl)
              · skip
                have h532 : ¬ gl ≤ j92 := fun q9 => h532 ((nI_leI (a := gl) (b := j92) (by omega) (by omega)).mpr q9)
                refine lv_aload_n hx hb dX11_goStep_49 rfl (lv_at hl 5 rfl) ?_
                refine lv_bipush (v := 11) hx hb dX11_goStep_50 (by decide) ?_
                refine lv_iload hx hb dX11_goStep_52 (lv_at hl 0 rfl) ?_
                refine lv_iadd hx hb dX11_goStep_54 ?_
                rw [show 11 + (nI j92) = nI (j92 + 11) from (nI_add 11 j92).trans (congrArg nI (by omega))]
                refine va_iald hx hb hK hP 0 0 rfl rfl (vp_in_nI (by omega) (by decide)) dX11_goStep_55 ?_
                rw [nI_clamp (n := (j92 + 11)) (by omega)]
                obtain ⟨w541, h542, h543⟩ := kr_at hr_x501 (p := (j92 + 11)) (by omega) (by unfold kr_a; omega)
                rw [h543]
                refine lv_iload_n hx hb dX11_goStep_56 rfl (lv_at hl 3 rfl) ?_
                refine lv_icmp_ne (tgt := 73) hx hb dX11_goStep_57 (by decide) (fun h544 => ?_) (fun h545 => ?_)
                · skip
                  have h544 : ¬ w541 = j91 := fun q9 => h544 ((nI_eq (a := w541) (b := j91) (by omega) (by omega)).mpr q9)
                  refine lv_aload_n hx hb dX11_goStep_73 rfl (lv_at hl 5 rfl) ?_
                  refine lv_bipush (v := 16) hx hb dX11_goStep_74 (by decide) ?_
                  refine lv_iload hx hb dX11_goStep_76 (lv_at hl 0 rfl) ?_
                  refine lv_iadd hx hb dX11_goStep_78 ?_
                  rw [show 16 + (nI j92) = nI (j92 + 16) from (nI_add 16 j92).trans (congrArg nI (by omega))]
                  refine va_iald hx hb hK hP 0 0 rfl rfl (vp_in_nI (by omega) (by decide)) dX11_goStep_79 ?_
                  rw [nI_clamp (n := (j92 + 16)) (by omega)]
                  refine lv_istore (lv' := [(6, .int (x501 (j92 + 16))), (5, .int (nI j92)), (4, .int 0), (3, .int r380), (2, .int (nI j91)), (1, .int x186), (0, .ref to)]) hx hb dX11_goStep_80 hl (by decide) rfl (fun ls hl => ?_)
                  refine lv_aload_n hx hb dX11_goStep_82 rfl (lv_at hl 6 rfl) ?_
                  refine lv_bipush (v := 16) hx hb dX11_goStep_83 (by decide) ?_
                  refine lv_iload hx hb dX11_goStep_85 (lv_at hl 1 rfl) ?_
                  refine lv_iadd hx hb dX11_goStep_87 ?_
                  rw [show 16 + (nI j92) = nI (j92 + 16) from (nI_add 16 j92).trans (congrArg nI (by omega))]
                  refine lv_iload hx hb dX11_goStep_88 (lv_at hl 0 rfl) ?_
                  refine lv_sipush (v := 999) hx hb dX11_goStep_90 (by decide) ?_
                  refine lv_icmp_le (tgt := 102) hx hb dX11_goStep_93 (by decide) (fun h546 => ?_) (fun h547 => ?_)
                  · skip
                    refine lv_iload hx hb dX11_goStep_102 (lv_at hl 0 rfl) ?_
                    refine va_iast hx hb hK hP hD hS 0 0 rfl rfl (vp_in_nI (by omega) (by decide)) dX11_goStep_104 (fun H locs hP hD hS => ?_)
                    rw [nI_clamp (n := (j92 + 16)) (by omega)] at hP hD
                    have hr548 : kr_t 30 (upd x501 (j92 + 16) (x501 (j92 + 16))) := kr_up hr_x501 (kr_move (p := (j92 + 16)) (hr_x501 (j92 + 16) (by omega)) (by unfold kr_a; omega) (by unfold kr_s; omega))
                    have hk549 : (upd x501 (j92 + 16) (x501 (j92 + 16))) 0 = (nI fi) := (pk_un (by omega)).trans hk_x501_0
                    have hk550 : (upd x501 (j92 + 16) (x501 (j92 + 16))) 1 = (nI gl) := (pk_un (by omega)).trans hk_x501_1
                    have hP : va_P D vwCl [(to, .inl (y 0, 30, .inl (upd x501 (j92 + 16) (x501 (j92 + 16)))))] H := hP
                    have hD : va_D A [(to, .inl (y 0, 30, .inl (upd x501 (j92 + 16) (x501 (j92 + 16)))))] := hD
                    refine lv_iinc (v := (nI (j92 + 1))) (lv' := [(5, .int (nI (j92 + 1))), (6, .int (x501 (j92 + 16))), (4, .int 0), (3, .int r380), (2, .int (nI j91)), (1, .int x186), (0, .ref to)]) hx hb dX11_goStep_105 hl (k := 1) rfl (nI_1 j92) (by decide) rfl (fun ls hl => ?_)
                    refine lv_goto (tgt := 41) hx hb dX11_goStep_108 (by decide) ?_
                    exact ihj92 (j92 + 1) (upd x501 (j92 + 16) (x501 (j92 + 16))) H locs ls (by omega) (by omega) hr548 hk549 hk550 (hP.sub [0] rfl) (hD.sub [0] (by decide) rfl) hS (lv_sub hl [0, 2, 3, 4, 5, 6] rfl)
                  · skip
                    exact absurd ((hr_x501 (j92 + 16) (by omega)).2 (by unfold kr_s; omega)) h547
                · skip
                  have h545 : w541 = j91 := (nI_eq (a := w541) (b := j91) (by omega) (by omega)).mp h545
                  refine lv_aload_n hx hb dX11_goStep_60 rfl (lv_at hl 5 rfl) ?_
                  refine lv_bipush (v := 16) hx hb dX11_goStep_61 (by decide) ?_
                  refine lv_iload hx hb dX11_goStep_63 (lv_at hl 0 rfl) ?_
                  refine lv_iadd hx hb dX11_goStep_65 ?_
                  rw [show 16 + (nI j92) = nI (j92 + 16) from (nI_add 16 j92).trans (congrArg nI (by omega))]
                  refine va_iald hx hb hK hP 0 0 rfl rfl (vp_in_nI (by omega) (by decide)) dX11_goStep_66 ?_
                  rw [nI_clamp (n := (j92 + 16)) (by omega)]
                  refine lv_iload hx hb dX11_goStep_67 (lv_at hl 1 rfl) ?_
                  refine lv_iadd hx hb dX11_goStep_69 ?_
                  refine lv_goto (tgt := 80) hx hb dX11_goStep_70 (by decide) ?_
                  refine lv_istore (lv' := [(6, .int ((x501 (j92 + 16)) + 0)), (5, .int (nI j92)), (4, .int 0), (3, .int r380), (2, .int (nI j91)), (1, .int x186), (0, .ref to)]) hx hb dX11_goStep_80 hl (by decide) rfl (fun ls hl => ?_)
                  refine lv_aload_n hx hb dX11_goStep_82 rfl (lv_at hl 6 rfl) ?_
                  refine lv_bipush (v := 16) hx hb dX11_goStep_83 (by decide) ?_
                  refine lv_iload hx hb dX11_goStep_85 (lv_at hl 1 rfl) ?_
                  refine lv_iadd hx hb dX11_goStep_87 ?_
                  rw [show 16 + (nI j92) = nI (j92 + 16) from (nI_add 16 j92).trans (congrArg nI (by omega))]
                  refine lv_iload hx hb dX11_goStep_88 (lv_at hl 0 rfl) ?_
                  refine lv_sipush (v := 999) hx hb dX11_goStep_90 (by decide) ?_
                  refine lv_icmp_le (tgt := 102) hx hb dX11_goStep_93 (by decide) (fun h551 => ?_) (fun h552 => ?_)
                  · skip
                    refine lv_iload hx hb dX11_goStep_102 (lv_at hl 0 rfl) ?_
                    refine va_iast hx hb hK hP hD hS 0 0 rfl rfl (vp_in_nI (by omega) (by decide)) dX11_goStep_104 (fun H locs hP hD hS => ?_)
                    rw [nI_clamp (n := (j92 + 16)) (by omega)] at hP hD
                    have hr553 : kr_t 30 (upd x501 (j92 + 16) ((x501 (j92 + 16)) + 0)) := kr_up hr_x501 (kr_oks (by unfold kr_a; omega) (h551))
                    have hk554 : (upd x501 (j92 + 16) ((x501 (j92 + 16)) + 0)) 0 = (nI fi) := (pk_un (by omega)).trans hk_x501_0
                    have hk555 : (upd x501 (j92 + 16) ((x501 (j92 + 16)) + 0)) 1 = (nI gl) := (pk_un (by omega)).trans hk_x501_1
                    have hP : va_P D vwCl [(to, .inl (y 0, 30, .inl (upd x501 (j92 + 16) ((x501 (j92 + 16)) + 0))))] H := hP
                    have hD : va_D A [(to, .inl (y 0, 30, .inl (upd x501 (j92 + 16) ((x501 (j92 + 16)) + 0))))] := hD
                    refine lv_iinc (v := (nI (j92 + 1))) (lv' := [(5, .int (nI (j92 + 1))), (6, .int ((x501 (j92 + 16)) + 0)), (4, .int 0), (3, .int r380), (2, .int (nI j91)), (1, .int x186), (0, .ref to)]) hx hb dX11_goStep_105 hl (k := 1) rfl (nI_1 j92) (by decide) rfl (fun ls hl => ?_)
                    refine lv_goto (tgt := 41) hx hb dX11_goStep_108 (by decide) ?_
                    exact ihj92 (j92 + 1) (upd x501 (j92 + 16) ((x501 (j92 + 16)) + 0)) H locs ls (by omega) (by omega) hr553 hk554 hk555 (hP.sub [0] rfl) (hD.sub [0] (by decide) rfl) hS (lv_sub hl [0, 2, 3, 4, 5, 6] rfl)
                  · skip
                    refine lv_sipush (v := 999) hx hb dX11_goStep_96 (by decide) ?_
                    refine lv_goto (tgt := 104) hx hb dX11_goStep_99 (by decide) ?_
                    refine va_iast hx hb hK hP hD hS 0 0 rfl rfl (vp_in_nI (by omega) (by decide)) dX11_goStep_104 (fun H locs hP hD hS => ?_)
                    rw [nI_clamp (n := (j92 + 16)) (by omega)] at hP hD
                    have hr556 : kr_t 30 (upd x501 (j92 + 16) 999) := kr_up hr_x501 (kr_oks (by unfold kr_a; omega) (by decide))
                    have hk557 : (upd x501 (j92 + 16) 999) 0 = (nI fi) := (pk_un (by omega)).trans hk_x501_0
                    have hk558 : (upd x501 (j92 + 16) 999) 1 = (nI gl) := (pk_un (by omega)).trans hk_x501_1
                    have hP : va_P D vwCl [(to, .inl (y 0, 30, .inl (upd x501 (j92 + 16) 999)))] H := hP
                    have hD : va_D A [(to, .inl (y 0, 30, .inl (upd x501 (j92 + 16) 999)))] := hD
                    refine lv_iinc (v := (nI (j92 + 1))) (lv' := [(5, .int (nI (j92 + 1))), (6, .int ((x501 (j92 + 16)) + 0)), (4, .int 0), (3, .int r380), (2, .int (nI j91)), (1, .int x186), (0, .ref to)]) hx hb dX11_goStep_105 hl (k := 1) rfl (nI_1 j92) (by decide) rfl (fun ls hl => ?_)
                    refine lv_goto (tgt := 41) hx hb dX11_goStep_108 (by decide) ?_
                    exact ihj92 (j92 + 1) (upd x501 (j92 + 16) 999) H locs ls (by omega) (by omega) hr556 hk557 hk558 (hP.sub [0] rfl) (hD.sub [0] (by decide) rfl) hS (lv_sub hl [0, 2, 3, 4, 5, 6] rfl)
          exact lp530 (gl + 1) 0 x187 _ _ _ (by omega) (by omega) hr_x187 hk_x187_0 hk_x187_1 hP hD hS (lv_sub hl [0, 1, 2, 3, 4, 5] rfl)
  exact lp373 (fi + 1) 0 0 ft _ _ _ (by omega) (by omega) hkt hk0_ hk1_ hP hD hS (lv_sub hl [0, 1, 2] rfl)

set_option maxHeartbeats 4000000 in
set_option maxRecDepth 100000 in
theorem gr_goNight30 (l : Launch) (D : va_G) (y : Nat → ClassId) (to : Nat) (ft : Nat → Int32) (fi : Nat) (gl : Nat) (hk0_ : ft 0 = (nI fi)) (hk1_ : ft 1 = (nI gl)) (hkt : kr_t 30 ft) (hfi : fi ≤ 6) (hgl : gl ≤ 5) : kw_Mv l yX11_goNight wsX11_goNight ({ frames := 2, cells := 0, slots := 0, locals := 80 }) D y [.ref to] [(to, .inl (y 0, 30, .inl ft))] (fun (u : (Nat → Int32)) => kr_t 30 u ∧ u 0 = (nI fi) ∧ u 1 = (nI gl)) (fun u => [(to, .inl (y 0, 30, .inl u))]) 0 0 := by
  refine kw_Mv.of (cc := cX11_goNight) (maxL := 3) (ret := none) (by decide) rfl ?_
  intro pZ eZ s mZ beZ meZ cZ A hE
  obtain ⟨hx, hb, hr, hml, hts, hown, hlocks, hin, hA, hP, hD, hK, hN⟩ := hE
  have hS : va_S A s.heap s.heap [] := va_S.rf
  have hl := lv_entry ([.ref to]) (n := 3) (Nat.le_of_ble_eq_true rfl)
  rw [lg_entry_eq]
  generalize (lg_sl ([.ref to]) ++ List.replicate (3 - (lg_sl ([.ref to])).length) Slot.unset).toArray = ls at hl ⊢
  have hl : lv_has ls 3 [(0, .ref to)] := hl
  refine lv_iconst (v := 0) hx hb dX11_goNight_0 (by decide) ?_
  refine lv_istore_n (lv' := [(1, .int 0), (0, .ref to)]) hx hb dX11_goNight_1 rfl hl (by decide) rfl (fun ls hl => ?_)
  have lp168 : ∀ (fuj91 j91 : Nat) (x84 : Nat → Int32) (H : Heap) (locs : List Loc) (ls : Array Slot), j91 ≤ gl → gl - j91 < fuj91 → kr_t 30 x84 → x84 0 = (nI fi) → x84 1 = (nI gl) → va_P D vwCl [(to, .inl (y 0, 30, .inl x84))] H → va_D A [(to, .inl (y 0, 30, .inl x84))] → va_S A s.heap H locs → lv_has ls 3 [(1, .int (nI j91)), (0, .ref to)] → W pZ l eZ ({ frames := 2, cells := 0, slots := 0, locals := 80 }) s mZ [.ref to].toArray beZ meZ cZ H locs 0 0 (MQ beZ (va_Qv (fun (u : (Nat → Int32)) => kr_t 30 u ∧ u 0 = (nI fi) ∧ u 1 = (nI gl)) (kw_B D (fun u => [(to, .inl (y 0, 30, .inl u))]) A) A) [.ref to].toArray s 0 0 A) (F0 mZ 2 ls []) := by
    intro fuj91
    induction fuj91 with
    | zero => intro j91 x84 H locs ls hj9 hf9; exact absurd hf9 (Nat.not_lt_zero _)
    | succ fuj91 ihj91 =>
      intro j91 x84 H locs ls hj91 hfj91 hr_x84 hk_x84_0 hk_x84_1 hP hD hS hl
      refine lv_iload_n hx hb dX11_goNight_2 rfl (lv_at hl 0 rfl) ?_
      refine lv_aload_n hx hb dX11_goNight_3 rfl (lv_at hl 1 rfl) ?_
      refine lv_iconst (v := 1) hx hb dX11_goNight_4 (by decide) ?_
      refine va_iald hx hb hK hP 0 0 rfl rfl (by unfold vp_in; decide) dX11_goNight_5 ?_
      rw [show ((1 : Int32)).toNatClampNeg = 1 from rfl]
      rw [show (x84 1) = (nI gl) from hk_x84_1]
      refine lv_icmp_ge (tgt := 30) hx hb dX11_goNight_6 (by decide) (fun h169 => ?_) (fun h170 => ?_)
      · skip
        have h169 : gl ≤ j91 := (nI_leI (a := gl) (b := j91) (by omega) (by omega)).mp h169
        refine lv_iconst (v := 0) hx hb dX11_goNight_30 (by decide) ?_
        refine lv_istore_n (lv' := [(1, .int 0), (0, .ref to)]) hx hb dX11_goNight_31 rfl hl (by decide) rfl (fun ls hl => ?_)
        have lp220 : ∀ (fuj92 j92 : Nat) (x195 : Nat → Int32) (H : Heap) (locs : List Loc) (ls : Array Slot), j92 ≤ fi → fi - j92 < fuj92 → kr_t 30 x195 → x195 0 = (nI fi) → x195 1 = (nI gl) → va_P D vwCl [(to, .inl (y 0, 30, .inl x195))] H → va_D A [(to, .inl (y 0, 30, .inl x195))] → va_S A s.heap H locs → lv_has ls 3 [(1, .int (nI j92)), (0, .ref to)] → W pZ l eZ ({ frames := 2, cells := 0, slots := 0, locals := 80 }) s mZ [.ref to].toArray beZ meZ cZ H locs 0 0 (MQ beZ (va_Qv (fun (u : (Nat → Int32)) => kr_t 30 u ∧ u 0 = (nI fi) ∧ u 1 = (nI gl)) (kw_B D (fun u => [(to, .inl (y 0, 30, .inl u))]) A) A) [.ref to].toArray s 0 0 A) (F0 mZ 32 ls []) := by
          intro fuj92
          induction fuj92 with
          | zero => intro j92 x195 H locs ls hj9 hf9; exact absurd hf9 (Nat.not_lt_zero _)
          | succ fuj92 ihj92 =>
            intro j92 x195 H locs ls hj92 hfj92 hr_x195 hk_x195_0 hk_x195_1 hP hD hS hl
            refine lv_iload_n hx hb dX11_goNight_32 rfl (lv_at hl 0 rfl) ?_
            refine lv_aload_n hx hb dX11_goNight_33 rfl (lv_at hl 1 rfl) ?_
            refine lv_iconst (v := 0) hx hb dX11_goNight_34 (by decide) ?_
            refine va_iald hx hb hK hP 0 0 rfl rfl (by unfold vp_in; decide) dX11_goNight_35 ?_
            rw [show ((0 : Int32)).toNatClampNeg = 0 from rfl]
            rw [show (x195 0) = (nI fi) from hk_x195_0]
            refine lv_icmp_ge (tgt := 71) hx hb dX11_goNight_36 (by decide) (fun h221 => ?_) (fun h222 => ?_)
            · skip
              have h221 : fi ≤ j92 := (nI_leI (a := fi) (b := j92) (by omega) (by omega)).mp h221
              refine lv_aload_n hx hb dX11_goNight_71 rfl (lv_at hl 1 rfl) ?_
              refine lv_bipush (v := 23) hx hb dX11_goNight_72 (by decide) ?_
              refine lv_dup2_11 hx hb dX11_goNight_74 rfl rfl ?_
              refine va_iald hx hb hK hP 0 0 rfl rfl (by unfold vp_in; decide) dX11_goNight_75 ?_
              rw [show ((23 : Int32)).toNatClampNeg = 23 from rfl]
              refine lv_aload_n hx hb dX11_goNight_76 rfl (lv_at hl 1 rfl) ?_
              refine lv_bipush (v := 23) hx hb dX11_goNight_77 (by decide) ?_
              refine va_iald hx hb hK hP 0 0 rfl rfl (by unfold vp_in; decide) dX11_goNight_79 ?_
              rw [show ((23 : Int32)).toNatClampNeg = 23 from rfl]
              refine lv_sipush (v := 999) hx hb dX11_goNight_80 (by decide) ?_
              refine lv_icmp_ge (tgt := 90) hx hb dX11_goNight_83 (by decide) (fun h223 => ?_) (fun h224 => ?_)
              · skip
                refine lv_iconst (v := 0) hx hb dX11_goNight_90 (by decide) ?_
                refine lv_iadd hx hb dX11_goNight_91 ?_
                refine va_iast hx hb hK hP hD hS 0 0 rfl rfl (by unfold vp_in; decide) dX11_goNight_92 (fun H locs hP hD hS => ?_)
                rw [show ((23 : Int32)).toNatClampNeg = 23 from rfl] at hP hD
                have hr225 : kr_t 30 (upd x195 23 ((x195 23) + 0)) := kr_up hr_x195 (kr_free (by unfold kr_a; omega) (by unfold kr_s; omega))
                have hk226 : (upd x195 23 ((x195 23) + 0)) 0 = (nI fi) := (pk_un (by decide)).trans hk_x195_0
                have hk227 : (upd x195 23 ((x195 23) + 0)) 1 = (nI gl) := (pk_un (by decide)).trans hk_x195_1
                have hP : va_P D vwCl [(to, .inl (y 0, 30, .inl (upd x195 23 ((x195 23) + 0))))] H := hP
                have hD : va_D A [(to, .inl (y 0, 30, .inl (upd x195 23 ((x195 23) + 0))))] := hD
                refine lv_aload_n hx hb dX11_goNight_93 rfl (lv_at hl 1 rfl) ?_
                refine lv_bipush (v := 21) hx hb dX11_goNight_94 (by decide) ?_
                refine lv_iconst (v := 0) hx hb dX11_goNight_96 (by decide) ?_
                refine va_iast hx hb hK hP hD hS 0 0 rfl rfl (by unfold vp_in; decide) dX11_goNight_97 (fun H locs hP hD hS => ?_)
                rw [show ((21 : Int32)).toNatClampNeg = 21 from rfl] at hP hD
                have hr228 : kr_t 30 (upd (upd x195 23 ((x195 23) + 0)) 21 0) := kr_up hr225 (kr_ok0)
                have hk229 : (upd (upd x195 23 ((x195 23) + 0)) 21 0) 0 = (nI fi) := (pk_un (by decide)).trans hk226
                have hk230 : (upd (upd x195 23 ((x195 23) + 0)) 21 0) 1 = (nI gl) := (pk_un (by decide)).trans hk227
                have hP : va_P D vwCl [(to, .inl (y 0, 30, .inl (upd (upd x195 23 ((x195 23) + 0)) 21 0)))] H := hP
                have hD : va_D A [(to, .inl (y 0, 30, .inl (upd (upd x195 23 ((x195 23) + 0)) 21 0)))] := hD
                exact W.vret hx hb hr (fun tZ ht hW => ⟨⟨((upd (upd x195 23 ((x195 23) + 0)) 21 0)), rfl, ⟨hr228, hk229, hk230⟩, by rw [ht]; exact hP.sub [0] rfl, hD.sub [0] (by decide) rfl⟩, hS.F ht⟩) hS.2.2 dX11_goNight_98
              · skip
                refine lv_iconst (v := 1) hx hb dX11_goNight_86 (by decide) ?_
                refine lv_goto (tgt := 91) hx hb dX11_goNight_87 (by decide) ?_
                refine lv_iadd hx hb dX11_goNight_91 ?_
                refine va_iast hx hb hK hP hD hS 0 0 rfl rfl (by unfold vp_in; decide) dX11_goNight_92 (fun H locs hP hD hS => ?_)
                rw [show ((23 : Int32)).toNatClampNeg = 23 from rfl] at hP hD
                have hr231 : kr_t 30 (upd x195 23 ((x195 23) + 1)) := kr_up hr_x195 (kr_free (by unfold kr_a; omega) (by unfold kr_s; omega))
                have hk232 : (upd x195 23 ((x195 23) + 1)) 0 = (nI fi) := (pk_un (by decide)).trans hk_x195_0
                have hk233 : (upd x195 23 ((x195 23) + 1)) 1 = (nI gl) := (pk_un (by decide)).trans hk_x195_1
                have hP : va_P D vwCl [(to, .inl (y 0, 30, .inl (upd x195 23 ((x195 23) + 1))))] H := hP
                have hD : va_D A [(to, .inl (y 0, 30, .inl (upd x195 23 ((x195 23) + 1))))] := hD
                refine lv_aload_n hx hb dX11_goNight_93 rfl (lv_at hl 1 rfl) ?_
                refine lv_bipush (v := 21) hx hb dX11_goNight_94 (by decide) ?_
                refine lv_iconst (v := 0) hx hb dX11_goNight_96 (by decide) ?_
                refine va_iast hx hb hK hP hD hS 0 0 rfl rfl (by unfold vp_in; decide) dX11_goNight_97 (fun H locs hP hD hS => ?_)
                rw [show ((21 : Int32)).toNatClampNeg = 21 from rfl] at hP hD
                have hr234 : kr_t 30 (upd (upd x195 23 ((x195 23) + 1)) 21 0) := kr_up hr231 (kr_ok0)
                have hk235 : (upd (upd x195 23 ((x195 23) + 1)) 21 0) 0 = (nI fi) := (pk_un (by decide)).trans hk232
                have hk236 : (upd (upd x195 23 ((x195 23) + 1)) 21 0) 1 = (nI gl) := (pk_un (by decide)).trans hk233
                have hP : va_P D vwCl [(to, .inl (y 0, 30, .inl (upd (upd x195 23 ((x195 23) + 1)) 21 0)))] H := hP
                have hD : va_D A [(to, .inl (y 0, 30, .inl (upd (upd x195 23 ((x195 23) + 1)) 21 0)))] := hD
                exact W.vret hx hb hr (fun tZ ht hW => ⟨⟨((upd (upd x195 23 ((x195 23) + 1)) 21 0)), rfl, ⟨hr234, hk235, hk236⟩, by rw [ht]; exact hP.sub [0] rfl, hD.sub [0] (by decide) rfl⟩, hS.F ht⟩) hS.2.2 dX11_goNight_98
            · skip
              have h222 : ¬ fi ≤ j92 := fun q9 => h222 ((nI_leI (a := fi) (b := j92) (by omega) (by omega)).mpr q9)
              refine lv_aload_n hx hb dX11_goNight_39 rfl (lv_at hl 1 rfl) ?_
              refine lv_iconst (v := 5) hx hb dX11_goNight_40 (by decide) ?_
              refine lv_iload_n hx hb dX11_goNight_41 rfl (lv_at hl 0 rfl) ?_
              refine lv_iadd hx hb dX11_goNight_42 ?_
              rw [show 5 + (nI j92) = nI (j92 + 5) from (nI_add 5 j92).trans (congrArg nI (by omega))]
              refine va_iald hx hb hK hP 0 0 rfl rfl (vp_in_nI (by omega) (by decide)) dX11_goNight_43 ?_
              rw [nI_clamp (n := (j92 + 5)) (by omega)]
              refine lv_bipush (v := 20) hx hb dX11_goNight_44 (by decide) ?_
              refine lv_iadd hx hb dX11_goNight_46 ?_
              refine lv_istore_n (lv' := [(2, .int ((x195 (j92 + 5)) + 20)), (1, .int (nI j92)), (0, .ref to)]) hx hb dX11_goNight_47 rfl hl (by decide) rfl (fun ls hl => ?_)
              refine lv_aload_n hx hb dX11_goNight_48 rfl (lv_at hl 2 rfl) ?_
              refine lv_iconst (v := 5) hx hb dX11_goNight_49 (by decide) ?_
              refine lv_iload_n hx hb dX11_goNight_50 rfl (lv_at hl 1 rfl) ?_
              refine lv_iadd hx hb dX11_goNight_51 ?_
              rw [show 5 + (nI j92) = nI (j92 + 5) from (nI_add 5 j92).trans (congrArg nI (by omega))]
              refine lv_iload_n hx hb dX11_goNight_52 rfl (lv_at hl 0 rfl) ?_
              refine lv_bipush (v := 60) hx hb dX11_goNight_53 (by decide) ?_
              refine lv_icmp_le (tgt := 63) hx hb dX11_goNight_55 (by decide) (fun h237 => ?_) (fun h238 => ?_)
              · skip
                refine lv_iload_n hx hb dX11_goNight_63 rfl (lv_at hl 0 rfl) ?_
                refine va_iast hx hb hK hP hD hS 0 0 rfl rfl (vp_in_nI (by omega) (by decide)) dX11_goNight_64 (fun H locs hP hD hS => ?_)
                rw [nI_clamp (n := (j92 + 5)) (by omega)] at hP hD
                have hr239 : kr_t 30 (upd x195 (j92 + 5) ((x195 (j92 + 5)) + 20)) := kr_up hr_x195 (kr_free (by unfold kr_a; omega) (by unfold kr_s; omega))
                have hk240 : (upd x195 (j92 + 5) ((x195 (j92 + 5)) + 20)) 0 = (nI fi) := (pk_un (by omega)).trans hk_x195_0
                have hk241 : (upd x195 (j92 + 5) ((x195 (j92 + 5)) + 20)) 1 = (nI gl) := (pk_un (by omega)).trans hk_x195_1
                have hP : va_P D vwCl [(to, .inl (y 0, 30, .inl (upd x195 (j92 + 5) ((x195 (j92 + 5)) + 20))))] H := hP
                have hD : va_D A [(to, .inl (y 0, 30, .inl (upd x195 (j92 + 5) ((x195 (j92 + 5)) + 20))))] := hD
                refine lv_iinc (v := (nI (j92 + 1))) (lv' := [(1, .int (nI (j92 + 1))), (2, .int ((x195 (j92 + 5)) + 20)), (0, .ref to)]) hx hb dX11_goNight_65 hl (k := 1) rfl (nI_1 j92) (by decide) rfl (fun ls hl => ?_)
                refine lv_goto (tgt := 32) hx hb dX11_goNight_68 (by decide) ?_
                exact ihj92 (j92 + 1) (upd x195 (j92 + 5) ((x195 (j92 + 5)) + 20)) H locs ls (by omega) (by omega) hr239 hk240 hk241 (hP.sub [0] rfl) (hD.sub [0] (by decide) rfl) hS (lv_sub hl [0, 2] rfl)
              · skip
                refine lv_bipush (v := 60) hx hb dX11_goNight_58 (by decide) ?_
                refine lv_goto (tgt := 64) hx hb dX11_goNight_60 (by decide) ?_
                refine va_iast hx hb hK hP hD hS 0 0 rfl rfl (vp_in_nI (by omega) (by decide)) dX11_goNight_64 (fun H locs hP hD hS => ?_)
                rw [nI_clamp (n := (j92 + 5)) (by omega)] at hP hD
                have hr242 : kr_t 30 (upd x195 (j92 + 5) 60) := kr_up hr_x195 (kr_free (by unfold kr_a; omega) (by unfold kr_s; omega))
                have hk243 : (upd x195 (j92 + 5) 60) 0 = (nI fi) := (pk_un (by omega)).trans hk_x195_0
                have hk244 : (upd x195 (j92 + 5) 60) 1 = (nI gl) := (pk_un (by omega)).trans hk_x195_1
                have hP : va_P D vwCl [(to, .inl (y 0, 30, .inl (upd x195 (j92 + 5) 60)))] H := hP
                have hD : va_D A [(to, .inl (y 0, 30, .inl (upd x195 (j92 + 5) 60)))] := hD
                refine lv_iinc (v := (nI (j92 + 1))) (lv' := [(1, .int (nI (j92 + 1))), (2, .int ((x195 (j92 + 5)) + 20)), (0, .ref to)]) hx hb dX11_goNight_65 hl (k := 1) rfl (nI_1 j92) (by decide) rfl (fun ls hl => ?_)
                refine lv_goto (tgt := 32) hx hb dX11_goNight_68 (by decide) ?_
                exact ihj92 (j92 + 1) (upd x195 (j92 + 5) 60) H locs ls (by omega) (by omega) hr242 hk243 hk244 (hP.sub [0] rfl) (hD.sub [0] (by decide) rfl) hS (lv_sub hl [0, 2] rfl)
        exact lp220 (fi + 1) 0 x84 _ _ _ (by omega) (by omega) hr_x84 hk_x84_0 hk_x84_1 hP hD hS (lv_sub hl [0, 1] rfl)
      · skip
        have h170 : ¬ gl ≤ j91 := fun q9 => h170 ((nI_leI (a := gl) (b := j91) (by omega) (by omega)).mpr q9)
        refine lv_aload_n hx hb dX11_goNight_9 rfl (lv_at hl 1 rfl) ?_
        refine lv_bipush (v := 16) hx hb dX11_goNight_10 (by decide) ?_
        refine lv_iload_n hx hb dX11_goNight_12 rfl (lv_at hl 0 rfl) ?_
        refine lv_iadd hx hb dX11_goNight_13 ?_
        rw [show 16 + (nI j91) = nI (j91 + 16) from (nI_add 16 j91).trans (congrArg nI (by omega))]
        refine lv_aload_n hx hb dX11_goNight_14 rfl (lv_at hl 1 rfl) ?_
        refine lv_bipush (v := 16) hx hb dX11_goNight_15 (by decide) ?_
        refine lv_iload_n hx hb dX11_goNight_17 rfl (lv_at hl 0 rfl) ?_
        refine lv_iadd hx hb dX11_goNight_18 ?_
        rw [show 16 + (nI j91) = nI (j91 + 16) from (nI_add 16 j91).trans (congrArg nI (by omega))]
        refine va_iald hx hb hK hP 0 0 rfl rfl (vp_in_nI (by omega) (by decide)) dX11_goNight_19 ?_
        rw [nI_clamp (n := (j91 + 16)) (by omega)]
        have hs245 : kw_Split [(to, .inl (y 0, 30, .inl x84))] [] [(to, .inl (y 0, 30, .inl x84))] [] [0] := ⟨rfl, rfl, rfl, rfl, rfl, by decide⟩
        refine kw_go_i hs245 hP hD hS hA (va_runS (As := [.int (x84 (j91 + 16))]) (rest := [.int (nI (j91 + 16)), .ref to]) ⟨hx, hb, hml, hown, hts⟩ (gr_fadedBy l D y (x84 (j91 + 16)) ((hr_x84 (j91 + 16) (by omega)).2 (by unfold kr_s; omega)) _) (va_cwS 1 hts gX11_goNight_X11_fadedBy rfl rfl rfl (by decide +kernel) ⟨Nat.le_of_ble_eq_true rfl, Nat.le_of_ble_eq_true rfl⟩) (kw_PreS hs245 hP hD hK hN) rfl rfl hl.1 rfl (lv_room (Nat.le_of_ble_eq_true rfl)) dX11_goNight_20 ⟨Nat.le_of_ble_eq_true rfl, Nat.le_of_ble_eq_true rfl⟩) (fun r246 u247 H locs hq hP hD hS => ?_)
        obtain ⟨h248, rfl⟩ := hq
        have hP : va_P D vwCl [(to, .inl (y 0, 30, .inl x84))] H := hP
        have hD : va_D A [(to, .inl (y 0, 30, .inl x84))] := hD
        refine va_iast hx hb hK hP hD hS 0 0 rfl rfl (vp_in_nI (by omega) (by decide)) dX11_goNight_23 (fun H locs hP hD hS => ?_)
        rw [nI_clamp (n := (j91 + 16)) (by omega)] at hP hD
        have hr249 : kr_t 30 (upd x84 (j91 + 16) ((x84 (j91 + 16)) - (((x84 (j91 + 16)) + 3) / 4))) := kr_up hr_x84 (kr_oks (by unfold kr_a; omega) (h248))
        have hk250 : (upd x84 (j91 + 16) ((x84 (j91 + 16)) - (((x84 (j91 + 16)) + 3) / 4))) 0 = (nI fi) := (pk_un (by omega)).trans hk_x84_0
        have hk251 : (upd x84 (j91 + 16) ((x84 (j91 + 16)) - (((x84 (j91 + 16)) + 3) / 4))) 1 = (nI gl) := (pk_un (by omega)).trans hk_x84_1
        have hP : va_P D vwCl [(to, .inl (y 0, 30, .inl (upd x84 (j91 + 16) ((x84 (j91 + 16)) - (((x84 (j91 + 16)) + 3) / 4)))))] H := hP
        have hD : va_D A [(to, .inl (y 0, 30, .inl (upd x84 (j91 + 16) ((x84 (j91 + 16)) - (((x84 (j91 + 16)) + 3) / 4)))))] := hD
        refine lv_iinc (v := (nI (j91 + 1))) (lv' := [(1, .int (nI (j91 + 1))), (0, .ref to)]) hx hb dX11_goNight_24 hl (k := 0) rfl (nI_1 j91) (by decide) rfl (fun ls hl => ?_)
        refine lv_goto (tgt := 2) hx hb dX11_goNight_27 (by decide) ?_
        exact ihj91 (j91 + 1) (upd x84 (j91 + 16) ((x84 (j91 + 16)) - (((x84 (j91 + 16)) + 3) / 4))) H locs ls (by omega) (by omega) hr249 hk250 hk251 (hP.sub [0] rfl) (hD.sub [0] (by decide) rfl) hS (lv_sub hl [0, 1] rfl)
  exact lp168 (gl + 1) 0 ft _ _ _ (by omega) (by omega) hkt hk0_ hk1_ hP hD hS (lv_sub hl [0, 1] rfl)

set_option maxHeartbeats 4000000 in
set_option maxRecDepth 100000 in
theorem gr_whoIsOn (l : Launch) (D : va_G) (y : Nat → ClassId) (mo : Nat) (to : Nat) (ke : Nat) (ik : Nat) (mrf : Nat) (ha : Nat) (r0 : Nat) (mbr : Nat) (mbp : Nat) (mby : Nat) (an : Nat) (va : Nat) (mab : Int64) (mbl : Int64) (bl : Nat) (ta : Nat) (tl : Nat) (tk : Nat) (vv : Int32) (ft : Nat → Int32) (fi : Nat) (gl : Nat) (mi : Nat) (no : Nat) (un : Nat) (x : Int32) (hk0_ : ft 0 = (nI fi)) (hk1_ : ft 1 = (nI gl)) (hk2_ : ft 2 = (nI mi)) (hk3_ : ft 3 = (nI no)) (hk4_ : ft 4 = (nI un)) (hkt : kr_t 228 ft) (hfi : fi ≤ 6) (hgl : gl ≤ 5) (hmi : mi ≤ 4) (hno : no ≤ 6) (hun : un ≤ 8) : kw_Mi l yX11_whoIsOn wsX11_whoIsOn ({ frames := 2, cells := 0, slots := 0, locals := 80 }) D y [.ref mo, .int x] [(mo, .inr (11, [.ref to, .ref ke, .ref ik, .ref mrf, .long mab, .long mbl, .ref ha, .ref r0, .ref mbr, .ref mbp, .ref mby, .int (nI bl), .int (nI ta), .int (nI tl), .int (nI tk), .int vv, .ref an, .ref va])), (to, .inl (y 0, 228, .inl ft))] (fun (r : Int32) (u : Unit) => True) (fun _ => [(mo, .inr (11, [.ref to, .ref ke, .ref ik, .ref mrf, .long mab, .long mbl, .ref ha, .ref r0, .ref mbr, .ref mbp, .ref mby, .int (nI bl), .int (nI ta), .int (nI tl), .int (nI tk), .int vv, .ref an, .ref va])), (to, .inl (y 0, 228, .inl ft))]) 0 0 := by
  refine kw_Mi.of (cc := cX11_whoIsOn) (maxL := 4) (ret := (some .int)) (by decide) rfl ?_
  intro pZ eZ s mZ beZ meZ cZ A hE
  obtain ⟨hx, hb, hr, hml, hts, hown, hlocks, hin, hA, hP, hD, hK, hN⟩ := hE
  have hS : va_S A s.heap s.heap [] := va_S.rf
  have hl := lv_entry ([.ref mo, .int x]) (n := 4) (Nat.le_of_ble_eq_true rfl)
  rw [lg_entry_eq]
  generalize (lg_sl ([.ref mo, .int x]) ++ List.replicate (4 - (lg_sl ([.ref mo, .int x])).length) Slot.unset).toArray = ls at hl ⊢
  have hl : lv_has ls 4 [(0, .ref mo), (1, .int x)] := hl
  have fw1 := hts (.fieldLink RX11 7 "GleanDuskModel" "told" "[I") (List.mem_of_getElem? (i := 1) rfl)
  have iw11 : ∀ w ∈ wsX110, w ∈ wsX11_whoIsOn := fun _ h => List.mem_cons_of_mem _ (List.mem_append_right _ h)
  refine lv_iconst (v := 0) hx hb dX11_whoIsOn_0 (by decide) ?_
  refine lv_istore_n (lv' := [(2, .int 0), (0, .ref mo), (1, .int x)]) hx hb dX11_whoIsOn_1 rfl hl (by decide) rfl (fun ls hl => ?_)
  refine lv_iconst (v := 0) hx hb dX11_whoIsOn_2 (by decide) ?_
  refine lv_istore_n (lv' := [(3, .int 0), (2, .int 0), (0, .ref mo), (1, .int x)]) hx hb dX11_whoIsOn_3 rfl hl (by decide) rfl (fun ls hl => ?_)
  have lp23 : ∀ (fuj91 j91 : Nat) (x12 : Int32) (H : Heap) (locs : List Loc) (ls : Array Slot), j91 ≤ gl → gl - j91 < fuj91 → va_P D vwCl [(mo, .inr (11, [.ref to, .ref ke, .ref ik, .ref mrf, .long mab, .long mbl, .ref ha, .ref r0, .ref mbr, .ref mbp, .ref mby, .int (nI bl), .int (nI ta), .int (nI tl), .int (nI tk), .int vv, .ref an, .ref va])), (to, .inl (y 0, 228, .inl ft))] H → va_D A [(mo, .inr (11, [.ref to, .ref ke, .ref ik, .ref mrf, .long mab, .long mbl, .ref ha, .ref r0, .ref mbr, .ref mbp, .ref mby, .int (nI bl), .int (nI ta), .int (nI tl), .int (nI tk), .int vv, .ref an, .ref va])), (to, .inl (y 0, 228, .inl ft))] → va_S A s.heap H locs → lv_has ls 4 [(3, .int (nI j91)), (2, .int x12), (0, .ref mo), (1, .int x)] → W pZ l eZ ({ frames := 2, cells := 0, slots := 0, locals := 80 }) s mZ [.ref mo, .int x].toArray beZ meZ cZ H locs 0 0 (MQ beZ (va_Qi (fun (r : Int32) (u : Unit) => True) (kw_B D (fun _ => [(mo, .inr (11, [.ref to, .ref ke, .ref ik, .ref mrf, .long mab, .long mbl, .ref ha, .ref r0, .ref mbr, .ref mbp, .ref mby, .int (nI bl), .int (nI ta), .int (nI tl), .int (nI tk), .int vv, .ref an, .ref va])), (to, .inl (y 0, 228, .inl ft))]) A) A) [.ref mo, .int x].toArray s 0 0 A) (F0 mZ 4 ls []) := by
    intro fuj91
    induction fuj91 with
    | zero => intro j91 x12 H locs ls hj9 hf9; exact absurd hf9 (Nat.not_lt_zero _)
    | succ fuj91 ihj91 =>
      intro j91 x12 H locs ls hj91 hfj91  hP hD hS hl
      refine lv_iload_n hx hb dX11_whoIsOn_4 rfl (lv_at hl 0 rfl) ?_
      refine lv_aload_n hx hb dX11_whoIsOn_5 rfl (lv_at hl 2 rfl) ?_
      have hs24 : kw_Split [(mo, .inr (11, [.ref to, .ref ke, .ref ik, .ref mrf, .long mab, .long mbl, .ref ha, .ref r0, .ref mbr, .ref mbp, .ref mby, .int (nI bl), .int (nI ta), .int (nI tl), .int (nI tk), .int vv, .ref an, .ref va])), (to, .inl (y 0, 228, .inl ft))] [(mo, .inr (11, [.ref to, .ref ke, .ref ik, .ref mrf, .long mab, .long mbl, .ref ha, .ref r0, .ref mbr, .ref mbp, .ref mby, .int (nI bl), .int (nI ta), .int (nI tl), .int (nI tk), .int vv, .ref an, .ref va])), (to, .inl (y 0, 228, .inl ft))] [] [0, 1] [] := ⟨rfl, rfl, rfl, rfl, rfl, by decide⟩
      refine kw_go_i hs24 hP hD hS hA (va_runV (As := []) (rest := [.int (nI j91)]) ⟨hx, hb, hml, hown, hts⟩ (gr_manyGleaners l D y mo to ke ik mrf ha r0 mbr mbp mby an va mab mbl bl ta tl tk vv ft fi gl mi no un hk0_ hk1_ hk2_ hk3_ hk4_ hkt hfi hgl hmi hno hun _) (cwV 0 hts gX11_whoIsOn_X11_manyGleaners rfl rfl rfl (by decide +kernel) ⟨Nat.le_of_ble_eq_true rfl, Nat.le_of_ble_eq_true rfl⟩) (kw_PreV (ci := 11) (q0 := 0) hs24 hP hD hK hN rfl rfl) rfl rfl hl.1 rfl (lv_room (Nat.le_of_ble_eq_true rfl)) dX11_whoIsOn_6 ⟨Nat.le_of_ble_eq_true rfl, Nat.le_of_ble_eq_true rfl⟩) (fun r25 u26 H locs hq hP hD hS => ?_)
      obtain rfl := hq
      have hP : va_P D vwCl [(mo, .inr (11, [.ref to, .ref ke, .ref ik, .ref mrf, .long mab, .long mbl, .ref ha, .ref r0, .ref mbr, .ref mbp, .ref mby, .int (nI bl), .int (nI ta), .int (nI tl), .int (nI tk), .int vv, .ref an, .ref va])), (to, .inl (y 0, 228, .inl ft))] H := hP
      have hD : va_D A [(mo, .inr (11, [.ref to, .ref ke, .ref ik, .ref mrf, .long mab, .long mbl, .ref ha, .ref r0, .ref mbr, .ref mbp, .ref mby, .int (nI bl), .int (nI ta), .int (nI tl), .int (nI tk), .int vv, .ref an, .ref va])), (to, .inl (y 0, 228, .inl ft))] := hD
      refine lv_icmp_ge (tgt := 41) hx hb dX11_whoIsOn_9 (by decide) (fun h27 => ?_) (fun h28 => ?_)
      · skip
        have h27 : gl ≤ j91 := (nI_leI (a := gl) (b := j91) (by omega) (by omega)).mp h27
        refine lv_iload_n hx hb dX11_whoIsOn_41 rfl (lv_at hl 1 rfl) ?_
        exact W.iret (v := x12) hx hb hr (fun tZ ht hW => ⟨⟨x12, (), rfl, trivial, by rw [ht]; exact hP.sub [0, 1] rfl, hD.sub [0, 1] (by decide) rfl⟩, hS.F ht⟩) hS.2.2 dX11_whoIsOn_42
      · skip
        have h28 : ¬ gl ≤ j91 := fun q9 => h28 ((nI_leI (a := gl) (b := j91) (by omega) (by omega)).mpr q9)
        refine lv_iload_n hx hb dX11_whoIsOn_12 rfl (lv_at hl 1 rfl) ?_
        refine lv_aload_n hx hb dX11_whoIsOn_13 rfl (lv_at hl 2 rfl) ?_
        refine va_get (D := D) (ci := 11) (v := .ref to) (C := RX11) (T := TX11) (N := 18) hx hb hts iw11 hown hK hP 0 rfl rfl 0 (by decide) fw1 (fun _ h9 => h9) rfl dX11_whoIsOn_14 ?_
        refine lv_bipush (v := 11) hx hb dX11_whoIsOn_17 (by decide) ?_
        refine lv_iload_n hx hb dX11_whoIsOn_19 rfl (lv_at hl 0 rfl) ?_
        refine lv_iadd hx hb dX11_whoIsOn_20 ?_
        rw [show 11 + (nI j91) = nI (j91 + 11) from (nI_add 11 j91).trans (congrArg nI (by omega))]
        refine va_iald hx hb hK hP 1 0 rfl rfl (vp_in_nI (by omega) (by decide)) dX11_whoIsOn_21 ?_
        rw [nI_clamp (n := (j91 + 11)) (by omega)]
        obtain ⟨w29, h30, h31⟩ := kr_at hkt (p := (j91 + 11)) (by omega) (by unfold kr_a; omega)
        rw [h31]
        refine lv_iload_n hx hb dX11_whoIsOn_22 rfl (lv_at hl 3 rfl) ?_
        refine lv_icmp_ne (tgt := 32) hx hb dX11_whoIsOn_23 (by decide) (fun h32 => ?_) (fun h33 => ?_)
        · skip
          refine lv_iconst (v := 0) hx hb dX11_whoIsOn_32 (by decide) ?_
          refine lv_ior hx hb dX11_whoIsOn_33 ?_
          refine lv_istore_n (lv' := [(2, .int (x12 ||| 0)), (3, .int (nI j91)), (0, .ref mo), (1, .int x)]) hx hb dX11_whoIsOn_34 rfl hl (by decide) rfl (fun ls hl => ?_)
          refine lv_iinc (v := (nI (j91 + 1))) (lv' := [(3, .int (nI (j91 + 1))), (2, .int (x12 ||| 0)), (0, .ref mo), (1, .int x)]) hx hb dX11_whoIsOn_35 hl (k := 1) rfl (nI_1 j91) (by decide) rfl (fun ls hl => ?_)
          refine lv_goto (tgt := 4) hx hb dX11_whoIsOn_38 (by decide) ?_
          exact ihj91 (j91 + 1) (x12 ||| 0) H locs ls (by omega) (by omega)  (hP.sub [0, 1] rfl) (hD.sub [0, 1] (by decide) rfl) hS (lv_sub hl [0, 1, 2, 3] rfl)
        · skip
          refine lv_iconst (v := 1) hx hb dX11_whoIsOn_26 (by decide) ?_
          refine lv_iload_n hx hb dX11_whoIsOn_27 rfl (lv_at hl 0 rfl) ?_
          refine lv_ishl hx hb dX11_whoIsOn_28 ?_
          refine lv_goto (tgt := 33) hx hb dX11_whoIsOn_29 (by decide) ?_
          refine lv_ior hx hb dX11_whoIsOn_33 ?_
          refine lv_istore_n (lv' := [(2, .int (x12 ||| (1 <<< ((nI j91) &&& 31)))), (3, .int (nI j91)), (0, .ref mo), (1, .int x)]) hx hb dX11_whoIsOn_34 rfl hl (by decide) rfl (fun ls hl => ?_)
          refine lv_iinc (v := (nI (j91 + 1))) (lv' := [(3, .int (nI (j91 + 1))), (2, .int (x12 ||| (1 <<< ((nI j91) &&& 31)))), (0, .ref mo), (1, .int x)]) hx hb dX11_whoIsOn_35 hl (k := 1) rfl (nI_1 j91) (by decide) rfl (fun ls hl => ?_)
          refine lv_goto (tgt := 4) hx hb dX11_whoIsOn_38 (by decide) ?_
          exact ihj91 (j91 + 1) (x12 ||| (1 <<< ((nI j91) &&& 31))) H locs ls (by omega) (by omega)  (hP.sub [0, 1] rfl) (hD.sub [0, 1] (by decide) rfl) hS (lv_sub hl [0, 1, 2, 3] rfl)
  exact lp23 (gl + 1) 0 0 _ _ _ (by omega) (by omega)  hP hD hS (lv_sub hl [0, 1, 2, 3] rfl)

set_option maxHeartbeats 4000000 in
set_option maxRecDepth 100000 in
theorem gq_of (l : Launch) (D : va_G) (y : Nat → ClassId) (mo : Nat) (to : Nat) (ke : Nat) (ik : Nat) (mrf : Nat) (ha : Nat) (r0 : Nat) (mbr : Nat) (mbp : Nat) (mby : Nat) (an : Nat) (va : Nat) (mab : Int64) (mbl : Int64) (bl : Nat) (ta : Nat) (tl : Nat) (tk : Nat) (vv : Int32) (frf : Nat → Int32) (ft : Nat → Int32) (fi : Nat) (gl : Nat) (mi : Nat) (no : Nat) (un : Nat) (x : Int32) (x2 : Int32) (hk0_ : ft 0 = (nI fi)) (hk1_ : ft 1 = (nI gl)) (hk2_ : ft 2 = (nI mi)) (hk3_ : ft 3 = (nI no)) (hk4_ : ft 4 = (nI un)) (hkt : kr_t 228 ft) (hfi : fi ≤ 6) (hgl : gl ≤ 5) (hmi : mi ≤ 4) (hno : no ≤ 6) (hun : un ≤ 8) (hgf : (gl = 0 ∨ 0 < fi)) : kw_Mi l yX11_of wsX11_of ({ frames := 3, cells := 0, slots := 0, locals := 106 }) D y [.ref mo, .int x, .int x2] [(mo, .inr (11, [.ref to, .ref ke, .ref ik, .ref mrf, .long mab, .long mbl, .ref ha, .ref r0, .ref mbr, .ref mbp, .ref mby, .int (nI bl), .int (nI ta), .int (nI tl), .int (nI tk), .int vv, .ref an, .ref va])), (mrf, .inl (y 0, 3, .inl frf)), (to, .inl (y 0, 228, .inl ft))] (fun (r : Int32) (u : (Nat → Int32)) => (gl = 0 ∨ 0 < fi)) (fun u => [(mo, .inr (11, [.ref to, .ref ke, .ref ik, .ref mrf, .long mab, .long mbl, .ref ha, .ref r0, .ref mbr, .ref mbp, .ref mby, .int (nI bl), .int (nI ta), .int (nI tl), .int (nI tk), .int vv, .ref an, .ref va])), (mrf, .inl (y 0, 3, .inl u)), (to, .inl (y 0, 228, .inl ft))]) 0 0 := by
  refine kw_Mi.of (cc := cX11_of) (maxL := 3) (ret := (some .int)) (by decide) rfl ?_
  intro pZ eZ s mZ beZ meZ cZ A hE
  obtain ⟨hx, hb, hr, hml, hts, hown, hlocks, hin, hA, hP, hD, hK, hN⟩ := hE
  have hS : va_S A s.heap s.heap [] := va_S.rf
  have hl := lv_entry ([.ref mo, .int x, .int x2]) (n := 3) (Nat.le_of_ble_eq_true rfl)
  rw [lg_entry_eq]
  generalize (lg_sl ([.ref mo, .int x, .int x2]) ++ List.replicate (3 - (lg_sl ([.ref mo, .int x, .int x2])).length) Slot.unset).toArray = ls at hl ⊢
  have hl : lv_has ls 3 [(0, .ref mo), (1, .int x), (2, .int x2)] := hl
  have fw1 := hts (.constantLong RX11 136 (2)) (List.mem_of_getElem? (i := 1) rfl)
  have fw2 := hts (.fieldLink RX11 7 "GleanDuskModel" "told" "[I") (List.mem_of_getElem? (i := 2) rfl)
  have iw11 : ∀ w ∈ wsX110, w ∈ wsX11_of := fun _ h => List.mem_cons_of_mem _ (List.mem_append_right _ h)
  refine lv_aload_n hx hb dX11_of_0 rfl (lv_at hl 0 rfl) ?_
  refine lv_iload_n hx hb dX11_of_1 rfl (lv_at hl 1 rfl) ?_
  have hs1 : kw_Split [(mo, .inr (11, [.ref to, .ref ke, .ref ik, .ref mrf, .long mab, .long mbl, .ref ha, .ref r0, .ref mbr, .ref mbp, .ref mby, .int (nI bl), .int (nI ta), .int (nI tl), .int (nI tk), .int vv, .ref an, .ref va])), (mrf, .inl (y 0, 3, .inl frf)), (to, .inl (y 0, 228, .inl ft))] [(mo, .inr (11, [.ref to, .ref ke, .ref ik, .ref mrf, .long mab, .long mbl, .ref ha, .ref r0, .ref mbr, .ref mbp, .ref mby, .int (nI bl), .int (nI ta), .int (nI tl), .int (nI tk), .int vv, .ref an, .ref va])), (to, .inl (y 0, 228, .inl ft))] [(mrf, .inl (y 0, 3, .inl frf))] [0, 2] [1] := ⟨rfl, rfl, rfl, rfl, rfl, by decide⟩
  refine kw_go_i hs1 hP hD hS hA (va_runV (As := [.int x]) (rest := []) ⟨hx, hb, hml, hown, hts⟩ (gr_isField l D y mo to ke ik mrf ha r0 mbr mbp mby an va mab mbl bl ta tl tk vv ft fi gl mi no un x hk0_ hk1_ hk2_ hk3_ hk4_ hkt hfi hgl hmi hno hun _) (cwV 1 hts gX11_of_X11_isField rfl rfl rfl (by decide +kernel) ⟨Nat.le_of_ble_eq_true rfl, Nat.le_of_ble_eq_true rfl⟩) (kw_PreV (ci := 11) (q0 := 0) hs1 hP hD hK hN rfl rfl) rfl rfl hl.1 rfl (lv_room (Nat.le_of_ble_eq_true rfl)) dX11_of_2 ⟨Nat.le_of_ble_eq_true rfl, Nat.le_of_ble_eq_true rfl⟩) (fun r2 u3 H locs hq hP hD hS => ?_)
  rcases hq with ⟨j4, h5, rfl, rfl⟩ | ⟨h6, rfl⟩
  · skip
    have hP : va_P D vwCl [(mrf, .inl (y 0, 3, .inl frf)), (mo, .inr (11, [.ref to, .ref ke, .ref ik, .ref mrf, .long mab, .long mbl, .ref ha, .ref r0, .ref mbr, .ref mbp, .ref mby, .int (nI bl), .int (nI ta), .int (nI tl), .int (nI tk), .int vv, .ref an, .ref va])), (to, .inl (y 0, 228, .inl ft))] H := hP
    have hD : va_D A [(mrf, .inl (y 0, 3, .inl frf)), (mo, .inr (11, [.ref to, .ref ke, .ref ik, .ref mrf, .long mab, .long mbl, .ref ha, .ref r0, .ref mbr, .ref mbp, .ref mby, .int (nI bl), .int (nI ta), .int (nI tl), .int (nI tk), .int vv, .ref an, .ref va])), (to, .inl (y 0, 228, .inl ft))] := hD
    refine lv_if_eq (tgt := 20) hx hb dX11_of_5 (by decide) (fun h9 => absurd h9 (by decide)) (fun _ => ?_)
    refine lv_iload_n hx hb dX11_of_8 rfl (lv_at hl 2 rfl) ?_
    refine lv_i2l (v := x2.toInt64) hx hb dX11_of_9 (rfl) ?_
    refine lv_lconst (v := 0) hx hb dX11_of_10 (by decide) ?_
    refine lv_ldc2 (v := 2) hx hb hown fw1 dX11_of_11 ?_
    have hs7 : kw_Split [(mrf, .inl (y 0, 3, .inl frf)), (mo, .inr (11, [.ref to, .ref ke, .ref ik, .ref mrf, .long mab, .long mbl, .ref ha, .ref r0, .ref mbr, .ref mbp, .ref mby, .int (nI bl), .int (nI ta), .int (nI tl), .int (nI tk), .int vv, .ref an, .ref va])), (to, .inl (y 0, 228, .inl ft))] [] [(mrf, .inl (y 0, 3, .inl frf)), (mo, .inr (11, [.ref to, .ref ke, .ref ik, .ref mrf, .long mab, .long mbl, .ref ha, .ref r0, .ref mbr, .ref mbp, .ref mby, .int (nI bl), .int (nI ta), .int (nI tl), .int (nI tk), .int vv, .ref an, .ref va])), (to, .inl (y 0, 228, .inl ft))] [] [0, 1, 2] := ⟨rfl, rfl, rfl, rfl, rfl, by decide⟩
    refine kw_go_i hs7 hP hD hS hA (va_runS (As := [.long x2.toInt64, .long 0, .long 2]) (rest := []) ⟨hx, hb, hml, hown, hts⟩ (gr_in l D y x2 0 2 (by omega) (by omega) _) (va_cwS 3 hts gX11_of_X11_in rfl rfl rfl (by decide +kernel) ⟨Nat.le_of_ble_eq_true rfl, Nat.le_of_ble_eq_true rfl⟩) (kw_PreS hs7 hP hD hK hN) rfl rfl hl.1 rfl (lv_room (Nat.le_of_ble_eq_true rfl)) dX11_of_14 ⟨Nat.le_of_ble_eq_true rfl, Nat.le_of_ble_eq_true rfl⟩) (fun r8 u9 H locs hq hP hD hS => ?_)
    rcases hq with ⟨j10, h11, h12, rfl, rfl⟩ | ⟨h13, rfl⟩
    · skip
      have hP : va_P D vwCl [(mrf, .inl (y 0, 3, .inl frf)), (mo, .inr (11, [.ref to, .ref ke, .ref ik, .ref mrf, .long mab, .long mbl, .ref ha, .ref r0, .ref mbr, .ref mbp, .ref mby, .int (nI bl), .int (nI ta), .int (nI tl), .int (nI tk), .int vv, .ref an, .ref va])), (to, .inl (y 0, 228, .inl ft))] H := hP
      have hD : va_D A [(mrf, .inl (y 0, 3, .inl frf)), (mo, .inr (11, [.ref to, .ref ke, .ref ik, .ref mrf, .long mab, .long mbl, .ref ha, .ref r0, .ref mbr, .ref mbp, .ref mby, .int (nI bl), .int (nI ta), .int (nI tl), .int (nI tk), .int vv, .ref an, .ref va])), (to, .inl (y 0, 228, .inl ft))] := hD
      refine lv_if_ne (tgt := 27) hx hb dX11_of_17 (by decide) (fun _ => ?_) (fun h9 => absurd h9 (by decide))
      refine lv_iload_n hx hb dX11_of_27 rfl (lv_at hl 2 rfl) ?_
      refine lv_if_ne (tgt := 43) hx hb dX11_of_28 (by decide) (fun h14 => ?_) (fun h15 => ?_)
      · skip
        have h14 : ¬ j10 = 0 := fun q9 => h14 ((nI_eq (a := j10) (b := 0) (by omega) (by omega)).mpr q9)
        refine lv_iload_n hx hb dX11_of_43 rfl (lv_at hl 2 rfl) ?_
        refine lv_iconst (v := 1) hx hb dX11_of_44 (by decide) ?_
        refine lv_icmp_ne (tgt := 59) hx hb dX11_of_45 (by decide) (fun h16 => ?_) (fun h17 => ?_)
        · skip
          have h16 : ¬ j10 = 1 := fun q9 => h16 ((nI_eq (a := j10) (b := 1) (by omega) (by omega)).mpr q9)
          refine lv_aload_n hx hb dX11_of_59 rfl (lv_at hl 0 rfl) ?_
          refine lv_iload_n hx hb dX11_of_60 rfl (lv_at hl 1 rfl) ?_
          have hs18 : kw_Split [(mrf, .inl (y 0, 3, .inl frf)), (mo, .inr (11, [.ref to, .ref ke, .ref ik, .ref mrf, .long mab, .long mbl, .ref ha, .ref r0, .ref mbr, .ref mbp, .ref mby, .int (nI bl), .int (nI ta), .int (nI tl), .int (nI tk), .int vv, .ref an, .ref va])), (to, .inl (y 0, 228, .inl ft))] [(mo, .inr (11, [.ref to, .ref ke, .ref ik, .ref mrf, .long mab, .long mbl, .ref ha, .ref r0, .ref mbr, .ref mbp, .ref mby, .int (nI bl), .int (nI ta), .int (nI tl), .int (nI tk), .int vv, .ref an, .ref va])), (to, .inl (y 0, 228, .inl ft))] [(mrf, .inl (y 0, 3, .inl frf))] [1, 2] [0] := ⟨rfl, rfl, rfl, rfl, rfl, by decide⟩
          refine kw_go_i hs18 hP hD hS hA (va_runV (As := [.int (nI j4)]) (rest := []) ⟨hx, hb, hml, hown, hts⟩ (gr_whoIsOn l D y mo to ke ik mrf ha r0 mbr mbp mby an va mab mbl bl ta tl tk vv ft fi gl mi no un (nI j4) hk0_ hk1_ hk2_ hk3_ hk4_ hkt hfi hgl hmi hno hun _) (cwV 1 hts gX11_of_X11_whoIsOn rfl rfl rfl (by decide +kernel) ⟨Nat.le_of_ble_eq_true rfl, Nat.le_of_ble_eq_true rfl⟩) (kw_PreV (ci := 11) (q0 := 1) hs18 hP hD hK hN rfl rfl) rfl rfl hl.1 rfl (lv_room (Nat.le_of_ble_eq_true rfl)) dX11_of_61 ⟨Nat.le_of_ble_eq_true rfl, Nat.le_of_ble_eq_true rfl⟩) (fun r19 u20 H locs hq hP hD hS => ?_)
          have hP : va_P D vwCl [(mrf, .inl (y 0, 3, .inl frf)), (mo, .inr (11, [.ref to, .ref ke, .ref ik, .ref mrf, .long mab, .long mbl, .ref ha, .ref r0, .ref mbr, .ref mbp, .ref mby, .int (nI bl), .int (nI ta), .int (nI tl), .int (nI tk), .int vv, .ref an, .ref va])), (to, .inl (y 0, 228, .inl ft))] H := hP
          have hD : va_D A [(mrf, .inl (y 0, 3, .inl frf)), (mo, .inr (11, [.ref to, .ref ke, .ref ik, .ref mrf, .long mab, .long mbl, .ref ha, .ref r0, .ref mbr, .ref mbp, .ref mby, .int (nI bl), .int (nI ta), .int (nI tl), .int (nI tk), .int vv, .ref an, .ref va])), (to, .inl (y 0, 228, .inl ft))] := hD
          exact W.iret (v := r19) hx hb hr (fun tZ ht hW => ⟨⟨r19, (frf), rfl, by first | omega | (dsimp only; omega), by rw [ht]; exact hP.sub [1, 0, 2] rfl, hD.sub [1, 0, 2] (by decide) rfl⟩, hS.F ht⟩) hS.2.2 dX11_of_64
        · skip
          have h17 : j10 = 1 := (nI_eq (a := j10) (b := 1) (by omega) (by omega)).mp h17
          refine lv_aload_n hx hb dX11_of_48 rfl (lv_at hl 0 rfl) ?_
          refine va_get (D := D) (ci := 11) (v := .ref to) (C := RX11) (T := TX11) (N := 18) hx hb hts iw11 hown hK hP 1 rfl rfl 0 (by decide) fw2 (fun _ h9 => h9) rfl dX11_of_49 ?_
          refine lv_iconst (v := 5) hx hb dX11_of_52 (by decide) ?_
          refine lv_iload_n hx hb dX11_of_53 rfl (lv_at hl 1 rfl) ?_
          refine lv_iadd hx hb dX11_of_54 ?_
          rw [show 5 + (nI j4) = nI (j4 + 5) from (nI_add 5 j4).trans (congrArg nI (by omega))]
          refine va_iald hx hb hK hP 2 0 rfl rfl (vp_in_nI (by omega) (by decide)) dX11_of_55 ?_
          rw [nI_clamp (n := (j4 + 5)) (by omega)]
          refine lv_goto (tgt := 64) hx hb dX11_of_56 (by decide) ?_
          exact W.iret (v := (ft (j4 + 5))) hx hb hr (fun tZ ht hW => ⟨⟨(ft (j4 + 5)), (frf), rfl, by first | omega | (dsimp only; omega), by rw [ht]; exact hP.sub [1, 0, 2] rfl, hD.sub [1, 0, 2] (by decide) rfl⟩, hS.F ht⟩) hS.2.2 dX11_of_64
      · skip
        have h15 : j10 = 0 := (nI_eq (a := j10) (b := 0) (by omega) (by omega)).mp h15
        refine lv_aload_n hx hb dX11_of_31 rfl (lv_at hl 0 rfl) ?_
        refine va_get (D := D) (ci := 11) (v := .ref to) (C := RX11) (T := TX11) (N := 18) hx hb hts iw11 hown hK hP 1 rfl rfl 0 (by decide) fw2 (fun _ h9 => h9) rfl dX11_of_32 ?_
        refine lv_bipush (v := 24) hx hb dX11_of_35 (by decide) ?_
        refine lv_iload_n hx hb dX11_of_37 rfl (lv_at hl 1 rfl) ?_
        refine lv_iadd hx hb dX11_of_38 ?_
        rw [show 24 + (nI j4) = nI (j4 + 24) from (nI_add 24 j4).trans (congrArg nI (by omega))]
        refine va_iald hx hb hK hP 2 0 rfl rfl (vp_in_nI (by omega) (by decide)) dX11_of_39 ?_
        rw [nI_clamp (n := (j4 + 24)) (by omega)]
        refine lv_goto (tgt := 64) hx hb dX11_of_40 (by decide) ?_
        exact W.iret (v := (ft (j4 + 24))) hx hb hr (fun tZ ht hW => ⟨⟨(ft (j4 + 24)), (frf), rfl, by first | omega | (dsimp only; omega), by rw [ht]; exact hP.sub [1, 0, 2] rfl, hD.sub [1, 0, 2] (by decide) rfl⟩, hS.F ht⟩) hS.2.2 dX11_of_64
    · skip
      have hP : va_P D vwCl [(mrf, .inl (y 0, 3, .inl frf)), (mo, .inr (11, [.ref to, .ref ke, .ref ik, .ref mrf, .long mab, .long mbl, .ref ha, .ref r0, .ref mbr, .ref mbp, .ref mby, .int (nI bl), .int (nI ta), .int (nI tl), .int (nI tk), .int vv, .ref an, .ref va])), (to, .inl (y 0, 228, .inl ft))] H := hP
      have hD : va_D A [(mrf, .inl (y 0, 3, .inl frf)), (mo, .inr (11, [.ref to, .ref ke, .ref ik, .ref mrf, .long mab, .long mbl, .ref ha, .ref r0, .ref mbr, .ref mbp, .ref mby, .int (nI bl), .int (nI ta), .int (nI tl), .int (nI tk), .int vv, .ref an, .ref va])), (to, .inl (y 0, 228, .inl ft))] := hD
      refine lv_if_ne (tgt := 27) hx hb dX11_of_17 (by decide) (fun h9 => absurd h9 (by decide)) (fun _ => ?_)
      refine lv_aload_n hx hb dX11_of_20 rfl (lv_at hl 0 rfl) ?_
      refine lv_bipush (v := (-2)) hx hb dX11_of_21 (by decide) ?_
      have hs21 : kw_Split [(mrf, .inl (y 0, 3, .inl frf)), (mo, .inr (11, [.ref to, .ref ke, .ref ik, .ref mrf, .long mab, .long mbl, .ref ha, .ref r0, .ref mbr, .ref mbp, .ref mby, .int (nI bl), .int (nI ta), .int (nI tl), .int (nI tk), .int vv, .ref an, .ref va])), (to, .inl (y 0, 228, .inl ft))] [(mo, .inr (11, [.ref to, .ref ke, .ref ik, .ref mrf, .long mab, .long mbl, .ref ha, .ref r0, .ref mbr, .ref mbp, .ref mby, .int (nI bl), .int (nI ta), .int (nI tl), .int (nI tk), .int vv, .ref an, .ref va])), (mrf, .inl (y 0, 3, .inl frf))] [(to, .inl (y 0, 228, .inl ft))] [1, 0] [2] := ⟨rfl, rfl, rfl, rfl, rfl, by decide⟩
      refine kw_go_i hs21 hP hD hS hA (va_runV (As := [.int (-2)]) (rest := []) ⟨hx, hb, hml, hown, hts⟩ (gr_bad l D y mo to ke ik mrf ha r0 mbr mbp mby an va mab mbl bl ta tl tk vv frf (-2)  _) (cwV 1 hts gX11_of_X11_bad rfl rfl rfl (by decide +kernel) ⟨Nat.le_of_ble_eq_true rfl, Nat.le_of_ble_eq_true rfl⟩) (kw_PreV (ci := 11) (q0 := 1) hs21 hP hD hK hN rfl rfl) rfl rfl hl.1 rfl (lv_room (Nat.le_of_ble_eq_true rfl)) dX11_of_23 ⟨Nat.le_of_ble_eq_true rfl, Nat.le_of_ble_eq_true rfl⟩) (fun r22 u23 H locs hq hP hD hS => ?_)
      obtain rfl := hq
      have hP : va_P D vwCl [(to, .inl (y 0, 228, .inl ft)), (mo, .inr (11, [.ref to, .ref ke, .ref ik, .ref mrf, .long mab, .long mbl, .ref ha, .ref r0, .ref mbr, .ref mbp, .ref mby, .int (nI bl), .int (nI ta), .int (nI tl), .int (nI tk), .int vv, .ref an, .ref va])), (mrf, .inl (y 0, 3, .inl (upd frf 0 ((frf 0) + 1))))] H := hP
      have hD : va_D A [(to, .inl (y 0, 228, .inl ft)), (mo, .inr (11, [.ref to, .ref ke, .ref ik, .ref mrf, .long mab, .long mbl, .ref ha, .ref r0, .ref mbr, .ref mbp, .ref mby, .int (nI bl), .int (nI ta), .int (nI tl), .int (nI tk), .int vv, .ref an, .ref va])), (mrf, .inl (y 0, 3, .inl (upd frf 0 ((frf 0) + 1))))] := hD
      exact W.iret (v := (-2)) hx hb hr (fun tZ ht hW => ⟨⟨(-2), ((upd frf 0 ((frf 0) + 1))), rfl, by first | omega | (dsimp only; omega), by rw [ht]; exact hP.sub [1, 2, 0] rfl, hD.sub [1, 2, 0] (by decide) rfl⟩, hS.F ht⟩) hS.2.2 dX11_of_26
  · skip
    have hP : va_P D vwCl [(mrf, .inl (y 0, 3, .inl frf)), (mo, .inr (11, [.ref to, .ref ke, .ref ik, .ref mrf, .long mab, .long mbl, .ref ha, .ref r0, .ref mbr, .ref mbp, .ref mby, .int (nI bl), .int (nI ta), .int (nI tl), .int (nI tk), .int vv, .ref an, .ref va])), (to, .inl (y 0, 228, .inl ft))] H := hP
    have hD : va_D A [(mrf, .inl (y 0, 3, .inl frf)), (mo, .inr (11, [.ref to, .ref ke, .ref ik, .ref mrf, .long mab, .long mbl, .ref ha, .ref r0, .ref mbr, .ref mbp, .ref mby, .int (nI bl), .int (nI ta), .int (nI tl), .int (nI tk), .int vv, .ref an, .ref va])), (to, .inl (y 0, 228, .inl ft))] := hD
    refine lv_if_eq (tgt := 20) hx hb dX11_of_5 (by decide) (fun _ => ?_) (fun h9 => absurd h9 (by decide))
    refine lv_aload_n hx hb dX11_of_20 rfl (lv_at hl 0 rfl) ?_
    refine lv_bipush (v := (-2)) hx hb dX11_of_21 (by decide) ?_
    have hs24 : kw_Split [(mrf, .inl (y 0, 3, .inl frf)), (mo, .inr (11, [.ref to, .ref ke, .ref ik, .ref mrf, .long mab, .long mbl, .ref ha, .ref r0, .ref mbr, .ref mbp, .ref mby, .int (nI bl), .int (nI ta), .int (nI tl), .int (nI tk), .int vv, .ref an, .ref va])), (to, .inl (y 0, 228, .inl ft))] [(mo, .inr (11, [.ref to, .ref ke, .ref ik, .ref mrf, .long mab, .long mbl, .ref ha, .ref r0, .ref mbr, .ref mbp, .ref mby, .int (nI bl), .int (nI ta), .int (nI tl), .int (nI tk), .int vv, .ref an, .ref va])), (mrf, .inl (y 0, 3, .inl frf))] [(to, .inl (y 0, 228, .inl ft))] [1, 0] [2] := ⟨rfl, rfl, rfl, rfl, rfl, by decide⟩
    refine kw_go_i hs24 hP hD hS hA (va_runV (As := [.int (-2)]) (rest := []) ⟨hx, hb, hml, hown, hts⟩ (gr_bad l D y mo to ke ik mrf ha r0 mbr mbp mby an va mab mbl bl ta tl tk vv frf (-2)  _) (cwV 1 hts gX11_of_X11_bad rfl rfl rfl (by decide +kernel) ⟨Nat.le_of_ble_eq_true rfl, Nat.le_of_ble_eq_true rfl⟩) (kw_PreV (ci := 11) (q0 := 1) hs24 hP hD hK hN rfl rfl) rfl rfl hl.1 rfl (lv_room (Nat.le_of_ble_eq_true rfl)) dX11_of_23 ⟨Nat.le_of_ble_eq_true rfl, Nat.le_of_ble_eq_true rfl⟩) (fun r25 u26 H locs hq hP hD hS => ?_)
    obtain rfl := hq
    have hP : va_P D vwCl [(to, .inl (y 0, 228, .inl ft)), (mo, .inr (11, [.ref to, .ref ke, .ref ik, .ref mrf, .long mab, .long mbl, .ref ha, .ref r0, .ref mbr, .ref mbp, .ref mby, .int (nI bl), .int (nI ta), .int (nI tl), .int (nI tk), .int vv, .ref an, .ref va])), (mrf, .inl (y 0, 3, .inl (upd frf 0 ((frf 0) + 1))))] H := hP
    have hD : va_D A [(to, .inl (y 0, 228, .inl ft)), (mo, .inr (11, [.ref to, .ref ke, .ref ik, .ref mrf, .long mab, .long mbl, .ref ha, .ref r0, .ref mbr, .ref mbp, .ref mby, .int (nI bl), .int (nI ta), .int (nI tl), .int (nI tk), .int vv, .ref an, .ref va])), (mrf, .inl (y 0, 3, .inl (upd frf 0 ((frf 0) + 1))))] := hD
    exact W.iret (v := (-2)) hx hb hr (fun tZ ht hW => ⟨⟨(-2), ((upd frf 0 ((frf 0) + 1))), rfl, by first | omega | (dsimp only; omega), by rw [ht]; exact hP.sub [1, 2, 0] rfl, hD.sub [1, 2, 0] (by decide) rfl⟩, hS.F ht⟩) hS.2.2 dX11_of_26

set_option maxHeartbeats 4000000 in
set_option maxRecDepth 100000 in
theorem gr_manyOnG228 (l : Launch) (D : va_G) (y : Nat → ClassId) (to : Nat) (ft : Nat → Int32) (fi : Nat) (gl : Nat) (mi : Nat) (no : Nat) (un : Nat) (kw : Nat) (k : Nat) (hk0_ : ft 0 = (nI fi)) (hk1_ : ft 1 = (nI gl)) (hk2_ : ft 2 = (nI mi)) (hk3_ : ft 3 = (nI no)) (hk4_ : ft 4 = (nI un)) (hkt : kr_t 228 ft) (hfi : fi ≤ 6) (hgl : gl ≤ 5) (hmi : mi ≤ 4) (hno : no ≤ 6) (hun : un ≤ 8) (hA1 : kw < 6) (hA2 : k < gl) (hA3 : ft (k + 11) = nI kw) : kw_Mi l yX11_manyOn wsX11_manyOn ({ frames := 1, cells := 0, slots := 0, locals := 60 }) D y [.ref to, .int (nI kw)] [(to, .inl (y 0, 228, .inl ft))] (fun (r : Int32) (u : Unit) => kr_pos r) (fun _ => [(to, .inl (y 0, 228, .inl ft))]) 0 0 := by
  refine kw_Mi.of (cc := cX11_manyOn) (maxL := 4) (ret := (some .int)) (by decide) rfl ?_
  intro pZ eZ s mZ beZ meZ cZ A hE
  obtain ⟨hx, hb, hr, hml, hts, hown, hlocks, hin, hA, hP, hD, hK, hN⟩ := hE
  have hS : va_S A s.heap s.heap [] := va_S.rf
  have hl := lv_entry ([.ref to, .int (nI kw)]) (n := 4) (Nat.le_of_ble_eq_true rfl)
  rw [lg_entry_eq]
  generalize (lg_sl ([.ref to, .int (nI kw)]) ++ List.replicate (4 - (lg_sl ([.ref to, .int (nI kw)])).length) Slot.unset).toArray = ls at hl ⊢
  have hl : lv_has ls 4 [(0, .ref to), (1, .int (nI kw))] := hl
  refine lv_iconst (v := 0) hx hb dX11_manyOn_0 (by decide) ?_
  refine lv_istore_n (lv' := [(2, .int 0), (0, .ref to), (1, .int (nI kw))]) hx hb dX11_manyOn_1 rfl hl (by decide) rfl (fun ls hl => ?_)
  refine lv_iconst (v := 0) hx hb dX11_manyOn_2 (by decide) ?_
  refine lv_istore_n (lv' := [(3, .int 0), (2, .int 0), (0, .ref to), (1, .int (nI kw))]) hx hb dX11_manyOn_3 rfl hl (by decide) rfl (fun ls hl => ?_)
  have lp18 : ∀ (fuj91 j91 : Nat) (x10 : Nat) (H : Heap) (locs : List Loc) (ls : Array Slot), j91 ≤ gl → gl - j91 < fuj91 → x10 ≤ j91 → (k < j91 → 1 ≤ x10) → va_P D vwCl [(to, .inl (y 0, 228, .inl ft))] H → va_D A [(to, .inl (y 0, 228, .inl ft))] → va_S A s.heap H locs → lv_has ls 4 [(3, .int (nI j91)), (2, .int (nI x10)), (0, .ref to), (1, .int (nI kw))] → W pZ l eZ ({ frames := 1, cells := 0, slots := 0, locals := 60 }) s mZ [.ref to, .int (nI kw)].toArray beZ meZ cZ H locs 0 0 (MQ beZ (va_Qi (fun (r : Int32) (u : Unit) => kr_pos r) (kw_B D (fun _ => [(to, .inl (y 0, 228, .inl ft))]) A) A) [.ref to, .int (nI kw)].toArray s 0 0 A) (F0 mZ 4 ls []) := by
    intro fuj91
    induction fuj91 with
    | zero => intro j91 x10 H locs ls hj9 hf9; exact absurd hf9 (Nat.not_lt_zero _)
    | succ fuj91 ihj91 =>
      intro j91 x10 H locs ls hj91 hfj91 hn_x10 hI0_j91 hP hD hS hl
      refine lv_iload_n hx hb dX11_manyOn_4 rfl (lv_at hl 0 rfl) ?_
      refine lv_aload_n hx hb dX11_manyOn_5 rfl (lv_at hl 2 rfl) ?_
      refine lv_iconst (v := 1) hx hb dX11_manyOn_6 (by decide) ?_
      refine va_iald hx hb hK hP 0 0 rfl rfl (by unfold vp_in; decide) dX11_manyOn_7 ?_
      rw [show ((1 : Int32)).toNatClampNeg = 1 from rfl]
      rw [show (ft 1) = (nI gl) from hk1_]
      refine lv_icmp_ge (tgt := 35) hx hb dX11_manyOn_8 (by decide) (fun h19 => ?_) (fun h20 => ?_)
      · skip
        have h19 : gl ≤ j91 := (nI_leI (a := gl) (b := j91) (by omega) (by omega)).mp h19
        refine lv_iload_n hx hb dX11_manyOn_35 rfl (lv_at hl 1 rfl) ?_
        exact W.iret (v := (nI x10)) hx hb hr (fun tZ ht hW => ⟨⟨(nI x10), (), rfl, kr_pos_of (by first | omega | (dsimp only; omega)) (by first | omega | (dsimp only; omega)), by rw [ht]; exact hP.sub [0] rfl, hD.sub [0] (by decide) rfl⟩, hS.F ht⟩) hS.2.2 dX11_manyOn_36
      · skip
        have h20 : ¬ gl ≤ j91 := fun q9 => h20 ((nI_leI (a := gl) (b := j91) (by omega) (by omega)).mpr q9)
        refine lv_iload_n hx hb dX11_manyOn_11 rfl (lv_at hl 1 rfl) ?_
        refine lv_aload_n hx hb dX11_manyOn_12 rfl (lv_at hl 2 rfl) ?_
        refine lv_bipush (v := 11) hx hb dX11_manyOn_13 (by decide) ?_
        refine lv_iload_n hx hb dX11_manyOn_15 rfl (lv_at hl 0 rfl) ?_
        refine lv_iadd hx hb dX11_manyOn_16 ?_
        rw [show 11 + (nI j91) = nI (j91 + 11) from (nI_add 11 j91).trans (congrArg nI (by omega))]
        refine va_iald hx hb hK hP 0 0 rfl rfl (vp_in_nI (by omega) (by decide)) dX11_manyOn_17 ?_
        rw [nI_clamp (n := (j91 + 11)) (by omega)]
        obtain ⟨w21, h22, h23⟩ := kr_at hkt (p := (j91 + 11)) (by omega) (by unfold kr_a; omega)
        rw [h23]
        refine lv_iload_n hx hb dX11_manyOn_18 rfl (lv_at hl 3 rfl) ?_
        refine lv_icmp_ne (tgt := 26) hx hb dX11_manyOn_19 (by decide) (fun h24 => ?_) (fun h25 => ?_)
        · skip
          have h24 : ¬ w21 = kw := fun q9 => h24 ((nI_eq (a := w21) (b := kw) (by omega) (by omega)).mpr q9)
          refine lv_iconst (v := 0) hx hb dX11_manyOn_26 (by decide) ?_
          refine lv_iadd hx hb dX11_manyOn_27 ?_
          rw [show (nI x10) + 0 = nI (x10) from nI_add x10 0]
          refine lv_istore_n (lv' := [(2, .int (nI x10)), (3, .int (nI j91)), (0, .ref to), (1, .int (nI kw))]) hx hb dX11_manyOn_28 rfl hl (by decide) rfl (fun ls hl => ?_)
          refine lv_iinc (v := (nI (j91 + 1))) (lv' := [(3, .int (nI (j91 + 1))), (2, .int (nI x10)), (0, .ref to), (1, .int (nI kw))]) hx hb dX11_manyOn_29 hl (k := 1) rfl (nI_1 j91) (by decide) rfl (fun ls hl => ?_)
          refine lv_goto (tgt := 4) hx hb dX11_manyOn_32 (by decide) ?_
          exact ihj91 (j91 + 1) x10 H locs ls (by omega) (by omega) (by omega) (by have hz9 := kr_mo hA3 h23 (by omega) (by omega) h24; omega) (hP.sub [0] rfl) (hD.sub [0] (by decide) rfl) hS (lv_sub hl [0, 1, 2, 3] rfl)
        · skip
          have h25 : w21 = kw := (nI_eq (a := w21) (b := kw) (by omega) (by omega)).mp h25
          refine lv_iconst (v := 1) hx hb dX11_manyOn_22 (by decide) ?_
          refine lv_goto (tgt := 27) hx hb dX11_manyOn_23 (by decide) ?_
          refine lv_iadd hx hb dX11_manyOn_27 ?_
          rw [show (nI x10) + 1 = nI (x10 + 1) from nI_add x10 1]
          refine lv_istore_n (lv' := [(2, .int (nI (x10 + 1))), (3, .int (nI j91)), (0, .ref to), (1, .int (nI kw))]) hx hb dX11_manyOn_28 rfl hl (by decide) rfl (fun ls hl => ?_)
          refine lv_iinc (v := (nI (j91 + 1))) (lv' := [(3, .int (nI (j91 + 1))), (2, .int (nI (x10 + 1))), (0, .ref to), (1, .int (nI kw))]) hx hb dX11_manyOn_29 hl (k := 1) rfl (nI_1 j91) (by decide) rfl (fun ls hl => ?_)
          refine lv_goto (tgt := 4) hx hb dX11_manyOn_32 (by decide) ?_
          exact ihj91 (j91 + 1) (x10 + 1) H locs ls (by omega) (by omega) (by omega) (by omega) (hP.sub [0] rfl) (hD.sub [0] (by decide) rfl) hS (lv_sub hl [0, 1, 2, 3] rfl)
  exact lp18 (gl + 1) 0 0 _ _ _ (by omega) (by omega) (by omega) (by omega) hP hD hS (lv_sub hl [0, 1, 2, 3] rfl)

set_option maxHeartbeats 4000000 in
set_option maxRecDepth 100000 in
theorem gr_manyOnG30 (l : Launch) (D : va_G) (y : Nat → ClassId) (to : Nat) (ft : Nat → Int32) (fi : Nat) (gl : Nat) (kw : Nat) (k : Nat) (hk0_ : ft 0 = (nI fi)) (hk1_ : ft 1 = (nI gl)) (hkt : kr_t 30 ft) (hfi : fi ≤ 6) (hgl : gl ≤ 5) (hA1 : kw < 6) (hA2 : k < gl) (hA3 : ft (k + 11) = nI kw) : kw_Mi l yX11_manyOn wsX11_manyOn ({ frames := 1, cells := 0, slots := 0, locals := 60 }) D y [.ref to, .int (nI kw)] [(to, .inl (y 0, 30, .inl ft))] (fun (r : Int32) (u : Unit) => kr_pos r) (fun _ => [(to, .inl (y 0, 30, .inl ft))]) 0 0 := by
  refine kw_Mi.of (cc := cX11_manyOn) (maxL := 4) (ret := (some .int)) (by decide) rfl ?_
  intro pZ eZ s mZ beZ meZ cZ A hE
  obtain ⟨hx, hb, hr, hml, hts, hown, hlocks, hin, hA, hP, hD, hK, hN⟩ := hE
  have hS : va_S A s.heap s.heap [] := va_S.rf
  have hl := lv_entry ([.ref to, .int (nI kw)]) (n := 4) (Nat.le_of_ble_eq_true rfl)
  rw [lg_entry_eq]
  generalize (lg_sl ([.ref to, .int (nI kw)]) ++ List.replicate (4 - (lg_sl ([.ref to, .int (nI kw)])).length) Slot.unset).toArray = ls at hl ⊢
  have hl : lv_has ls 4 [(0, .ref to), (1, .int (nI kw))] := hl
  refine lv_iconst (v := 0) hx hb dX11_manyOn_0 (by decide) ?_
  refine lv_istore_n (lv' := [(2, .int 0), (0, .ref to), (1, .int (nI kw))]) hx hb dX11_manyOn_1 rfl hl (by decide) rfl (fun ls hl => ?_)
  refine lv_iconst (v := 0) hx hb dX11_manyOn_2 (by decide) ?_
  refine lv_istore_n (lv' := [(3, .int 0), (2, .int 0), (0, .ref to), (1, .int (nI kw))]) hx hb dX11_manyOn_3 rfl hl (by decide) rfl (fun ls hl => ?_)
  have lp18 : ∀ (fuj91 j91 : Nat) (x10 : Nat) (H : Heap) (locs : List Loc) (ls : Array Slot), j91 ≤ gl → gl - j91 < fuj91 → x10 ≤ j91 → (k < j91 → 1 ≤ x10) → va_P D vwCl [(to, .inl (y 0, 30, .inl ft))] H → va_D A [(to, .inl (y 0, 30, .inl ft))] → va_S A s.heap H locs → lv_has ls 4 [(3, .int (nI j91)), (2, .int (nI x10)), (0, .ref to), (1, .int (nI kw))] → W pZ l eZ ({ frames := 1, cells := 0, slots := 0, locals := 60 }) s mZ [.ref to, .int (nI kw)].toArray beZ meZ cZ H locs 0 0 (MQ beZ (va_Qi (fun (r : Int32) (u : Unit) => kr_pos r) (kw_B D (fun _ => [(to, .inl (y 0, 30, .inl ft))]) A) A) [.ref to, .int (nI kw)].toArray s 0 0 A) (F0 mZ 4 ls []) := by
    intro fuj91
    induction fuj91 with
    | zero => intro j91 x10 H locs ls hj9 hf9; exact absurd hf9 (Nat.not_lt_zero _)
    | succ fuj91 ihj91 =>
      intro j91 x10 H locs ls hj91 hfj91 hn_x10 hI0_j91 hP hD hS hl
      refine lv_iload_n hx hb dX11_manyOn_4 rfl (lv_at hl 0 rfl) ?_
      refine lv_aload_n hx hb dX11_manyOn_5 rfl (lv_at hl 2 rfl) ?_
      refine lv_iconst (v := 1) hx hb dX11_manyOn_6 (by decide) ?_
      refine va_iald hx hb hK hP 0 0 rfl rfl (by unfold vp_in; decide) dX11_manyOn_7 ?_
      rw [show ((1 : Int32)).toNatClampNeg = 1 from rfl]
      rw [show (ft 1) = (nI gl) from hk1_]
      refine lv_icmp_ge (tgt := 35) hx hb dX11_manyOn_8 (by decide) (fun h19 => ?_) (fun h20 => ?_)
      · skip
        have h19 : gl ≤ j91 := (nI_leI (a := gl) (b := j91) (by omega) (by omega)).mp h19
        refine lv_iload_n hx hb dX11_manyOn_35 rfl (lv_at hl 1 rfl) ?_
        exact W.iret (v := (nI x10)) hx hb hr (fun tZ ht hW => ⟨⟨(nI x10), (), rfl, kr_pos_of (by first | omega | (dsimp only; omega)) (by first | omega | (dsimp only; omega)), by rw [ht]; exact hP.sub [0] rfl, hD.sub [0] (by decide) rfl⟩, hS.F ht⟩) hS.2.2 dX11_manyOn_36
      · skip
        have h20 : ¬ gl ≤ j91 := fun q9 => h20 ((nI_leI (a := gl) (b := j91) (by omega) (by omega)).mpr q9)
        refine lv_iload_n hx hb dX11_manyOn_11 rfl (lv_at hl 1 rfl) ?_
        refine lv_aload_n hx hb dX11_manyOn_12 rfl (lv_at hl 2 rfl) ?_
        refine lv_bipush (v := 11) hx hb dX11_manyOn_13 (by decide) ?_
        refine lv_iload_n hx hb dX11_manyOn_15 rfl (lv_at hl 0 rfl) ?_
        refine lv_iadd hx hb dX11_manyOn_16 ?_
        rw [show 11 + (nI j91) = nI (j91 + 11) from (nI_add 11 j91).trans (congrArg nI (by omega))]
        refine va_iald hx hb hK hP 0 0 rfl rfl (vp_in_nI (by omega) (by decide)) dX11_manyOn_17 ?_
        rw [nI_clamp (n := (j91 + 11)) (by omega)]
        obtain ⟨w21, h22, h23⟩ := kr_at hkt (p := (j91 + 11)) (by omega) (by unfold kr_a; omega)
        rw [h23]
        refine lv_iload_n hx hb dX11_manyOn_18 rfl (lv_at hl 3 rfl) ?_
        refine lv_icmp_ne (tgt := 26) hx hb dX11_manyOn_19 (by decide) (fun h24 => ?_) (fun h25 => ?_)
        · skip
          have h24 : ¬ w21 = kw := fun q9 => h24 ((nI_eq (a := w21) (b := kw) (by omega) (by omega)).mpr q9)
          refine lv_iconst (v := 0) hx hb dX11_manyOn_26 (by decide) ?_
          refine lv_iadd hx hb dX11_manyOn_27 ?_
          rw [show (nI x10) + 0 = nI (x10) from nI_add x10 0]
          refine lv_istore_n (lv' := [(2, .int (nI x10)), (3, .int (nI j91)), (0, .ref to), (1, .int (nI kw))]) hx hb dX11_manyOn_28 rfl hl (by decide) rfl (fun ls hl => ?_)
          refine lv_iinc (v := (nI (j91 + 1))) (lv' := [(3, .int (nI (j91 + 1))), (2, .int (nI x10)), (0, .ref to), (1, .int (nI kw))]) hx hb dX11_manyOn_29 hl (k := 1) rfl (nI_1 j91) (by decide) rfl (fun ls hl => ?_)
          refine lv_goto (tgt := 4) hx hb dX11_manyOn_32 (by decide) ?_
          exact ihj91 (j91 + 1) x10 H locs ls (by omega) (by omega) (by omega) (by have hz9 := kr_mo hA3 h23 (by omega) (by omega) h24; omega) (hP.sub [0] rfl) (hD.sub [0] (by decide) rfl) hS (lv_sub hl [0, 1, 2, 3] rfl)
        · skip
          have h25 : w21 = kw := (nI_eq (a := w21) (b := kw) (by omega) (by omega)).mp h25
          refine lv_iconst (v := 1) hx hb dX11_manyOn_22 (by decide) ?_
          refine lv_goto (tgt := 27) hx hb dX11_manyOn_23 (by decide) ?_
          refine lv_iadd hx hb dX11_manyOn_27 ?_
          rw [show (nI x10) + 1 = nI (x10 + 1) from nI_add x10 1]
          refine lv_istore_n (lv' := [(2, .int (nI (x10 + 1))), (3, .int (nI j91)), (0, .ref to), (1, .int (nI kw))]) hx hb dX11_manyOn_28 rfl hl (by decide) rfl (fun ls hl => ?_)
          refine lv_iinc (v := (nI (j91 + 1))) (lv' := [(3, .int (nI (j91 + 1))), (2, .int (nI (x10 + 1))), (0, .ref to), (1, .int (nI kw))]) hx hb dX11_manyOn_29 hl (k := 1) rfl (nI_1 j91) (by decide) rfl (fun ls hl => ?_)
          refine lv_goto (tgt := 4) hx hb dX11_manyOn_32 (by decide) ?_
          exact ihj91 (j91 + 1) (x10 + 1) H locs ls (by omega) (by omega) (by omega) (by omega) (hP.sub [0] rfl) (hD.sub [0] (by decide) rfl) hS (lv_sub hl [0, 1, 2, 3] rfl)
  exact lp18 (gl + 1) 0 0 _ _ _ (by omega) (by omega) (by omega) (by omega) hP hD hS (lv_sub hl [0, 1, 2, 3] rfl)

set_option maxHeartbeats 4000000 in
set_option maxRecDepth 100000 in
theorem gr_getsOne228 (l : Launch) (D : va_G) (y : Nat → ClassId) (to : Nat) (ft : Nat → Int32) (fi : Nat) (gl : Nat) (mi : Nat) (no : Nat) (un : Nat) (k : Nat) (hk0_ : ft 0 = (nI fi)) (hk1_ : ft 1 = (nI gl)) (hk2_ : ft 2 = (nI mi)) (hk3_ : ft 3 = (nI no)) (hk4_ : ft 4 = (nI un)) (hkt : kr_t 228 ft) (hfi : fi ≤ 6) (hgl : gl ≤ 5) (hmi : mi ≤ 4) (hno : no ≤ 6) (hun : un ≤ 8) (hA1 : k < gl) : kw_Mi l yX11_getsOne wsX11_getsOne ({ frames := 5, cells := 0, slots := 0, locals := 151 }) D y [.ref to, .int (nI k)] [(to, .inl (y 0, 228, .inl ft))] (fun (r : Int32) (u : Unit) => True) (fun _ => [(to, .inl (y 0, 228, .inl ft))]) 0 0 := by
  refine kw_Mi.of (cc := cX11_getsOne) (maxL := 2) (ret := (some .int)) (by decide) rfl ?_
  intro pZ eZ s mZ beZ meZ cZ A hE
  obtain ⟨hx, hb, hr, hml, hts, hown, hlocks, hin, hA, hP, hD, hK, hN⟩ := hE
  have hS : va_S A s.heap s.heap [] := va_S.rf
  have hl := lv_entry ([.ref to, .int (nI k)]) (n := 2) (Nat.le_of_ble_eq_true rfl)
  rw [lg_entry_eq]
  generalize (lg_sl ([.ref to, .int (nI k)]) ++ List.replicate (2 - (lg_sl ([.ref to, .int (nI k)])).length) Slot.unset).toArray = ls at hl ⊢
  have hl : lv_has ls 2 [(0, .ref to), (1, .int (nI k))] := hl
  refine lv_aload_n hx hb dX11_getsOne_0 rfl (lv_at hl 0 rfl) ?_
  refine lv_aload_n hx hb dX11_getsOne_1 rfl (lv_at hl 0 rfl) ?_
  refine lv_bipush (v := 11) hx hb dX11_getsOne_2 (by decide) ?_
  refine lv_iload_n hx hb dX11_getsOne_4 rfl (lv_at hl 1 rfl) ?_
  refine lv_iadd hx hb dX11_getsOne_5 ?_
  rw [show 11 + (nI k) = nI (k + 11) from (nI_add 11 k).trans (congrArg nI (by omega))]
  refine va_iald hx hb hK hP 0 0 rfl rfl (vp_in_nI (by omega) (by decide)) dX11_getsOne_6 ?_
  rw [nI_clamp (n := (k + 11)) (by omega)]
  obtain ⟨w1, h2, h3⟩ := kr_at hkt (p := (k + 11)) (by omega) (by unfold kr_a; omega)
  rw [h3]
  refine lv_aload_n hx hb dX11_getsOne_7 rfl (lv_at hl 0 rfl) ?_
  refine lv_bipush (v := 21) hx hb dX11_getsOne_8 (by decide) ?_
  refine va_iald hx hb hK hP 0 0 rfl rfl (by unfold vp_in; decide) dX11_getsOne_10 ?_
  rw [show ((21 : Int32)).toNatClampNeg = 21 from rfl]
  have hs4 : kw_Split [(to, .inl (y 0, 228, .inl ft))] [(to, .inl (y 0, 228, .inl ft))] [] [0] [] := ⟨rfl, rfl, rfl, rfl, rfl, by decide⟩
  refine kw_go_i hs4 hP hD hS hA (va_runS (As := [.ref to, .int (nI w1), .int (ft 21)]) (rest := []) ⟨hx, hb, hml, hown, hts⟩ (gr_seenOn228 l D y to ft fi gl mi no un w1 (ft 21) hk0_ hk1_ hk2_ hk3_ hk4_ hkt hfi hgl hmi hno hun (by omega) _) (va_cwS 3 hts gX11_getsOne_X11_seenOn rfl rfl rfl (by decide +kernel) ⟨Nat.le_of_ble_eq_true rfl, Nat.le_of_ble_eq_true rfl⟩) (kw_PreS hs4 hP hD hK hN) rfl rfl hl.1 rfl (lv_room (Nat.le_of_ble_eq_true rfl)) dX11_getsOne_11 ⟨Nat.le_of_ble_eq_true rfl, Nat.le_of_ble_eq_true rfl⟩) (fun r5 u6 H locs hq hP hD hS => ?_)
  have hP : va_P D vwCl [(to, .inl (y 0, 228, .inl ft))] H := hP
  have hD : va_D A [(to, .inl (y 0, 228, .inl ft))] := hD
  refine lv_aload_n hx hb dX11_getsOne_14 rfl (lv_at hl 0 rfl) ?_
  refine lv_aload_n hx hb dX11_getsOne_15 rfl (lv_at hl 0 rfl) ?_
  refine lv_bipush (v := 11) hx hb dX11_getsOne_16 (by decide) ?_
  refine lv_iload_n hx hb dX11_getsOne_18 rfl (lv_at hl 1 rfl) ?_
  refine lv_iadd hx hb dX11_getsOne_19 ?_
  rw [show 11 + (nI k) = nI (k + 11) from (nI_add 11 k).trans (congrArg nI (by omega))]
  refine va_iald hx hb hK hP 0 0 rfl rfl (vp_in_nI (by omega) (by decide)) dX11_getsOne_20 ?_
  rw [nI_clamp (n := (k + 11)) (by omega)]
  rw [h3]
  have hs7 : kw_Split [(to, .inl (y 0, 228, .inl ft))] [(to, .inl (y 0, 228, .inl ft))] [] [0] [] := ⟨rfl, rfl, rfl, rfl, rfl, by decide⟩
  refine kw_go_i hs7 hP hD hS hA (va_runS (As := [.ref to, .int (nI w1)]) (rest := [.int r5]) ⟨hx, hb, hml, hown, hts⟩ (gr_manyOnG228 l D y to ft fi gl mi no un w1 k hk0_ hk1_ hk2_ hk3_ hk4_ hkt hfi hgl hmi hno hun (by omega) hA1 h3 _) (va_cwS 2 hts gX11_getsOne_X11_manyOn rfl rfl rfl (by decide +kernel) ⟨Nat.le_of_ble_eq_true rfl, Nat.le_of_ble_eq_true rfl⟩) (kw_PreS hs7 hP hD hK hN) rfl rfl hl.1 rfl (lv_room (Nat.le_of_ble_eq_true rfl)) dX11_getsOne_21 ⟨Nat.le_of_ble_eq_true rfl, Nat.le_of_ble_eq_true rfl⟩) (fun r8 u9 H locs hq hP hD hS => ?_)
  have h10 := hq
  have hP : va_P D vwCl [(to, .inl (y 0, 228, .inl ft))] H := hP
  have hD : va_D A [(to, .inl (y 0, 228, .inl ft))] := hD
  refine lv_idiv hx hb dX11_getsOne_24 (h10) ?_
  exact W.iret (v := (r5 / r8)) hx hb hr (fun tZ ht hW => ⟨⟨(r5 / r8), (), rfl, trivial, by rw [ht]; exact hP.sub [0] rfl, hD.sub [0] (by decide) rfl⟩, hS.F ht⟩) hS.2.2 dX11_getsOne_25

set_option maxHeartbeats 4000000 in
set_option maxRecDepth 100000 in
theorem gr_getsOne30 (l : Launch) (D : va_G) (y : Nat → ClassId) (to : Nat) (ft : Nat → Int32) (fi : Nat) (gl : Nat) (k : Nat) (hk0_ : ft 0 = (nI fi)) (hk1_ : ft 1 = (nI gl)) (hkt : kr_t 30 ft) (hfi : fi ≤ 6) (hgl : gl ≤ 5) (hA1 : k < gl) : kw_Mi l yX11_getsOne wsX11_getsOne ({ frames := 5, cells := 0, slots := 0, locals := 151 }) D y [.ref to, .int (nI k)] [(to, .inl (y 0, 30, .inl ft))] (fun (r : Int32) (u : Unit) => True) (fun _ => [(to, .inl (y 0, 30, .inl ft))]) 0 0 := by
  refine kw_Mi.of (cc := cX11_getsOne) (maxL := 2) (ret := (some .int)) (by decide) rfl ?_
  intro pZ eZ s mZ beZ meZ cZ A hE
  obtain ⟨hx, hb, hr, hml, hts, hown, hlocks, hin, hA, hP, hD, hK, hN⟩ := hE
  have hS : va_S A s.heap s.heap [] := va_S.rf
  have hl := lv_entry ([.ref to, .int (nI k)]) (n := 2) (Nat.le_of_ble_eq_true rfl)
  rw [lg_entry_eq]
  generalize (lg_sl ([.ref to, .int (nI k)]) ++ List.replicate (2 - (lg_sl ([.ref to, .int (nI k)])).length) Slot.unset).toArray = ls at hl ⊢
  have hl : lv_has ls 2 [(0, .ref to), (1, .int (nI k))] := hl
  refine lv_aload_n hx hb dX11_getsOne_0 rfl (lv_at hl 0 rfl) ?_
  refine lv_aload_n hx hb dX11_getsOne_1 rfl (lv_at hl 0 rfl) ?_
  refine lv_bipush (v := 11) hx hb dX11_getsOne_2 (by decide) ?_
  refine lv_iload_n hx hb dX11_getsOne_4 rfl (lv_at hl 1 rfl) ?_
  refine lv_iadd hx hb dX11_getsOne_5 ?_
  rw [show 11 + (nI k) = nI (k + 11) from (nI_add 11 k).trans (congrArg nI (by omega))]
  refine va_iald hx hb hK hP 0 0 rfl rfl (vp_in_nI (by omega) (by decide)) dX11_getsOne_6 ?_
  rw [nI_clamp (n := (k + 11)) (by omega)]
  obtain ⟨w1, h2, h3⟩ := kr_at hkt (p := (k + 11)) (by omega) (by unfold kr_a; omega)
  rw [h3]
  refine lv_aload_n hx hb dX11_getsOne_7 rfl (lv_at hl 0 rfl) ?_
  refine lv_bipush (v := 21) hx hb dX11_getsOne_8 (by decide) ?_
  refine va_iald hx hb hK hP 0 0 rfl rfl (by unfold vp_in; decide) dX11_getsOne_10 ?_
  rw [show ((21 : Int32)).toNatClampNeg = 21 from rfl]
  have hs4 : kw_Split [(to, .inl (y 0, 30, .inl ft))] [(to, .inl (y 0, 30, .inl ft))] [] [0] [] := ⟨rfl, rfl, rfl, rfl, rfl, by decide⟩
  refine kw_go_i hs4 hP hD hS hA (va_runS (As := [.ref to, .int (nI w1), .int (ft 21)]) (rest := []) ⟨hx, hb, hml, hown, hts⟩ (gr_seenOn30 l D y to ft fi gl w1 (ft 21) hk0_ hk1_ hkt hfi hgl (by omega) _) (va_cwS 3 hts gX11_getsOne_X11_seenOn rfl rfl rfl (by decide +kernel) ⟨Nat.le_of_ble_eq_true rfl, Nat.le_of_ble_eq_true rfl⟩) (kw_PreS hs4 hP hD hK hN) rfl rfl hl.1 rfl (lv_room (Nat.le_of_ble_eq_true rfl)) dX11_getsOne_11 ⟨Nat.le_of_ble_eq_true rfl, Nat.le_of_ble_eq_true rfl⟩) (fun r5 u6 H locs hq hP hD hS => ?_)
  have hP : va_P D vwCl [(to, .inl (y 0, 30, .inl ft))] H := hP
  have hD : va_D A [(to, .inl (y 0, 30, .inl ft))] := hD
  refine lv_aload_n hx hb dX11_getsOne_14 rfl (lv_at hl 0 rfl) ?_
  refine lv_aload_n hx hb dX11_getsOne_15 rfl (lv_at hl 0 rfl) ?_
  refine lv_bipush (v := 11) hx hb dX11_getsOne_16 (by decide) ?_
  refine lv_iload_n hx hb dX11_getsOne_18 rfl (lv_at hl 1 rfl) ?_
  refine lv_iadd hx hb dX11_getsOne_19 ?_
  rw [show 11 + (nI k) = nI (k + 11) from (nI_add 11 k).trans (congrArg nI (by omega))]
  refine va_iald hx hb hK hP 0 0 rfl rfl (vp_in_nI (by omega) (by decide)) dX11_getsOne_20 ?_
  rw [nI_clamp (n := (k + 11)) (by omega)]
  rw [h3]
  have hs7 : kw_Split [(to, .inl (y 0, 30, .inl ft))] [(to, .inl (y 0, 30, .inl ft))] [] [0] [] := ⟨rfl, rfl, rfl, rfl, rfl, by decide⟩
  refine kw_go_i hs7 hP hD hS hA (va_runS (As := [.ref to, .int (nI w1)]) (rest := [.int r5]) ⟨hx, hb, hml, hown, hts⟩ (gr_manyOnG30 l D y to ft fi gl w1 k hk0_ hk1_ hkt hfi hgl (by omega) hA1 h3 _) (va_cwS 2 hts gX11_getsOne_X11_manyOn rfl rfl rfl (by decide +kernel) ⟨Nat.le_of_ble_eq_true rfl, Nat.le_of_ble_eq_true rfl⟩) (kw_PreS hs7 hP hD hK hN) rfl rfl hl.1 rfl (lv_room (Nat.le_of_ble_eq_true rfl)) dX11_getsOne_21 ⟨Nat.le_of_ble_eq_true rfl, Nat.le_of_ble_eq_true rfl⟩) (fun r8 u9 H locs hq hP hD hS => ?_)
  have h10 := hq
  have hP : va_P D vwCl [(to, .inl (y 0, 30, .inl ft))] H := hP
  have hD : va_D A [(to, .inl (y 0, 30, .inl ft))] := hD
  refine lv_idiv hx hb dX11_getsOne_24 (h10) ?_
  exact W.iret (v := (r5 / r8)) hx hb hr (fun tZ ht hW => ⟨⟨(r5 / r8), (), rfl, trivial, by rw [ht]; exact hP.sub [0] rfl, hD.sub [0] (by decide) rfl⟩, hS.F ht⟩) hS.2.2 dX11_getsOne_25

set_option maxHeartbeats 4000000 in
set_option maxRecDepth 100000 in
theorem gq_about (l : Launch) (D : va_G) (y : Nat → ClassId) (mo : Nat) (to : Nat) (ke : Nat) (ik : Nat) (mrf : Nat) (ha : Nat) (r0 : Nat) (mbr : Nat) (mbp : Nat) (mby : Nat) (an : Nat) (va : Nat) (mab : Int64) (mbl : Int64) (bl : Nat) (ta : Nat) (tl : Nat) (tk : Nat) (vv : Int32) (frf : Nat → Int32) (ft : Nat → Int32) (fi : Nat) (gl : Nat) (mi : Nat) (no : Nat) (un : Nat) (x : Int32) (x2 : Int32) (hk0_ : ft 0 = (nI fi)) (hk1_ : ft 1 = (nI gl)) (hk2_ : ft 2 = (nI mi)) (hk3_ : ft 3 = (nI no)) (hk4_ : ft 4 = (nI un)) (hkt : kr_t 228 ft) (hfi : fi ≤ 6) (hgl : gl ≤ 5) (hmi : mi ≤ 4) (hno : no ≤ 6) (hun : un ≤ 8) (hgf : (gl = 0 ∨ 0 < fi)) : kw_Mi l yX11_about wsX11_about ({ frames := 6, cells := 0, slots := 0, locals := 172 }) D y [.ref mo, .int x, .int x2] [(mo, .inr (11, [.ref to, .ref ke, .ref ik, .ref mrf, .long mab, .long mbl, .ref ha, .ref r0, .ref mbr, .ref mbp, .ref mby, .int (nI bl), .int (nI ta), .int (nI tl), .int (nI tk), .int vv, .ref an, .ref va])), (mrf, .inl (y 0, 3, .inl frf)), (to, .inl (y 0, 228, .inl ft))] (fun (r : Int32) (u : (Nat → Int32)) => (gl = 0 ∨ 0 < fi)) (fun u => [(mo, .inr (11, [.ref to, .ref ke, .ref ik, .ref mrf, .long mab, .long mbl, .ref ha, .ref r0, .ref mbr, .ref mbp, .ref mby, .int (nI bl), .int (nI ta), .int (nI tl), .int (nI tk), .int vv, .ref an, .ref va])), (mrf, .inl (y 0, 3, .inl u)), (to, .inl (y 0, 228, .inl ft))]) 0 0 := by
  refine kw_Mi.of (cc := cX11_about) (maxL := 3) (ret := (some .int)) (by decide) rfl ?_
  intro pZ eZ s mZ beZ meZ cZ A hE
  obtain ⟨hx, hb, hr, hml, hts, hown, hlocks, hin, hA, hP, hD, hK, hN⟩ := hE
  have hS : va_S A s.heap s.heap [] := va_S.rf
  have hl := lv_entry ([.ref mo, .int x, .int x2]) (n := 3) (Nat.le_of_ble_eq_true rfl)
  rw [lg_entry_eq]
  generalize (lg_sl ([.ref mo, .int x, .int x2]) ++ List.replicate (3 - (lg_sl ([.ref mo, .int x, .int x2])).length) Slot.unset).toArray = ls at hl ⊢
  have hl : lv_has ls 3 [(0, .ref mo), (1, .int x), (2, .int x2)] := hl
  have fw1 := hts (.constantLong RX11 136 (2)) (List.mem_of_getElem? (i := 1) rfl)
  have fw2 := hts (.fieldLink RX11 7 "GleanDuskModel" "told" "[I") (List.mem_of_getElem? (i := 2) rfl)
  have iw11 : ∀ w ∈ wsX110, w ∈ wsX11_about := fun _ h => List.mem_cons_of_mem _ (List.mem_append_right _ h)
  refine lv_aload_n hx hb dX11_about_0 rfl (lv_at hl 0 rfl) ?_
  refine lv_iload_n hx hb dX11_about_1 rfl (lv_at hl 1 rfl) ?_
  have hs1 : kw_Split [(mo, .inr (11, [.ref to, .ref ke, .ref ik, .ref mrf, .long mab, .long mbl, .ref ha, .ref r0, .ref mbr, .ref mbp, .ref mby, .int (nI bl), .int (nI ta), .int (nI tl), .int (nI tk), .int vv, .ref an, .ref va])), (mrf, .inl (y 0, 3, .inl frf)), (to, .inl (y 0, 228, .inl ft))] [(mo, .inr (11, [.ref to, .ref ke, .ref ik, .ref mrf, .long mab, .long mbl, .ref ha, .ref r0, .ref mbr, .ref mbp, .ref mby, .int (nI bl), .int (nI ta), .int (nI tl), .int (nI tk), .int vv, .ref an, .ref va])), (to, .inl (y 0, 228, .inl ft))] [(mrf, .inl (y 0, 3, .inl frf))] [0, 2] [1] := ⟨rfl, rfl, rfl, rfl, rfl, by decide⟩
  refine kw_go_i hs1 hP hD hS hA (va_runV (As := [.int x]) (rest := []) ⟨hx, hb, hml, hown, hts⟩ (gr_isGleaner l D y mo to ke ik mrf ha r0 mbr mbp mby an va mab mbl bl ta tl tk vv ft fi gl mi no un x hk0_ hk1_ hk2_ hk3_ hk4_ hkt hfi hgl hmi hno hun _) (cwV 1 hts gX11_about_X11_isGleaner rfl rfl rfl (by decide +kernel) ⟨Nat.le_of_ble_eq_true rfl, Nat.le_of_ble_eq_true rfl⟩) (kw_PreV (ci := 11) (q0 := 0) hs1 hP hD hK hN rfl rfl) rfl rfl hl.1 rfl (lv_room (Nat.le_of_ble_eq_true rfl)) dX11_about_2 ⟨Nat.le_of_ble_eq_true rfl, Nat.le_of_ble_eq_true rfl⟩) (fun r2 u3 H locs hq hP hD hS => ?_)
  rcases hq with ⟨j4, h5, rfl, rfl⟩ | ⟨h6, rfl⟩
  · skip
    have hP : va_P D vwCl [(mrf, .inl (y 0, 3, .inl frf)), (mo, .inr (11, [.ref to, .ref ke, .ref ik, .ref mrf, .long mab, .long mbl, .ref ha, .ref r0, .ref mbr, .ref mbp, .ref mby, .int (nI bl), .int (nI ta), .int (nI tl), .int (nI tk), .int vv, .ref an, .ref va])), (to, .inl (y 0, 228, .inl ft))] H := hP
    have hD : va_D A [(mrf, .inl (y 0, 3, .inl frf)), (mo, .inr (11, [.ref to, .ref ke, .ref ik, .ref mrf, .long mab, .long mbl, .ref ha, .ref r0, .ref mbr, .ref mbp, .ref mby, .int (nI bl), .int (nI ta), .int (nI tl), .int (nI tk), .int vv, .ref an, .ref va])), (to, .inl (y 0, 228, .inl ft))] := hD
    refine lv_if_eq (tgt := 20) hx hb dX11_about_5 (by decide) (fun h9 => absurd h9 (by decide)) (fun _ => ?_)
    refine lv_iload_n hx hb dX11_about_8 rfl (lv_at hl 2 rfl) ?_
    refine lv_i2l (v := x2.toInt64) hx hb dX11_about_9 (rfl) ?_
    refine lv_lconst (v := 0) hx hb dX11_about_10 (by decide) ?_
    refine lv_ldc2 (v := 2) hx hb hown fw1 dX11_about_11 ?_
    have hs7 : kw_Split [(mrf, .inl (y 0, 3, .inl frf)), (mo, .inr (11, [.ref to, .ref ke, .ref ik, .ref mrf, .long mab, .long mbl, .ref ha, .ref r0, .ref mbr, .ref mbp, .ref mby, .int (nI bl), .int (nI ta), .int (nI tl), .int (nI tk), .int vv, .ref an, .ref va])), (to, .inl (y 0, 228, .inl ft))] [] [(mrf, .inl (y 0, 3, .inl frf)), (mo, .inr (11, [.ref to, .ref ke, .ref ik, .ref mrf, .long mab, .long mbl, .ref ha, .ref r0, .ref mbr, .ref mbp, .ref mby, .int (nI bl), .int (nI ta), .int (nI tl), .int (nI tk), .int vv, .ref an, .ref va])), (to, .inl (y 0, 228, .inl ft))] [] [0, 1, 2] := ⟨rfl, rfl, rfl, rfl, rfl, by decide⟩
    refine kw_go_i hs7 hP hD hS hA (va_runS (As := [.long x2.toInt64, .long 0, .long 2]) (rest := []) ⟨hx, hb, hml, hown, hts⟩ (gr_in l D y x2 0 2 (by omega) (by omega) _) (va_cwS 3 hts gX11_about_X11_in rfl rfl rfl (by decide +kernel) ⟨Nat.le_of_ble_eq_true rfl, Nat.le_of_ble_eq_true rfl⟩) (kw_PreS hs7 hP hD hK hN) rfl rfl hl.1 rfl (lv_room (Nat.le_of_ble_eq_true rfl)) dX11_about_14 ⟨Nat.le_of_ble_eq_true rfl, Nat.le_of_ble_eq_true rfl⟩) (fun r8 u9 H locs hq hP hD hS => ?_)
    rcases hq with ⟨j10, h11, h12, rfl, rfl⟩ | ⟨h13, rfl⟩
    · skip
      have hP : va_P D vwCl [(mrf, .inl (y 0, 3, .inl frf)), (mo, .inr (11, [.ref to, .ref ke, .ref ik, .ref mrf, .long mab, .long mbl, .ref ha, .ref r0, .ref mbr, .ref mbp, .ref mby, .int (nI bl), .int (nI ta), .int (nI tl), .int (nI tk), .int vv, .ref an, .ref va])), (to, .inl (y 0, 228, .inl ft))] H := hP
      have hD : va_D A [(mrf, .inl (y 0, 3, .inl frf)), (mo, .inr (11, [.ref to, .ref ke, .ref ik, .ref mrf, .long mab, .long mbl, .ref ha, .ref r0, .ref mbr, .ref mbp, .ref mby, .int (nI bl), .int (nI ta), .int (nI tl), .int (nI tk), .int vv, .ref an, .ref va])), (to, .inl (y 0, 228, .inl ft))] := hD
      refine lv_if_ne (tgt := 27) hx hb dX11_about_17 (by decide) (fun _ => ?_) (fun h9 => absurd h9 (by decide))
      refine lv_iload_n hx hb dX11_about_27 rfl (lv_at hl 2 rfl) ?_
      refine lv_if_ne (tgt := 43) hx hb dX11_about_28 (by decide) (fun h14 => ?_) (fun h15 => ?_)
      · skip
        have h14 : ¬ j10 = 0 := fun q9 => h14 ((nI_eq (a := j10) (b := 0) (by omega) (by omega)).mpr q9)
        refine lv_iload_n hx hb dX11_about_43 rfl (lv_at hl 2 rfl) ?_
        refine lv_iconst (v := 1) hx hb dX11_about_44 (by decide) ?_
        refine lv_icmp_ne (tgt := 60) hx hb dX11_about_45 (by decide) (fun h16 => ?_) (fun h17 => ?_)
        · skip
          have h16 : ¬ j10 = 1 := fun q9 => h16 ((nI_eq (a := j10) (b := 1) (by omega) (by omega)).mpr q9)
          refine lv_aload_n hx hb dX11_about_60 rfl (lv_at hl 0 rfl) ?_
          refine va_get (D := D) (ci := 11) (v := .ref to) (C := RX11) (T := TX11) (N := 18) hx hb hts iw11 hown hK hP 1 rfl rfl 0 (by decide) fw2 (fun _ h9 => h9) rfl dX11_about_61 ?_
          refine lv_iload_n hx hb dX11_about_64 rfl (lv_at hl 1 rfl) ?_
          have hs18 : kw_Split [(mrf, .inl (y 0, 3, .inl frf)), (mo, .inr (11, [.ref to, .ref ke, .ref ik, .ref mrf, .long mab, .long mbl, .ref ha, .ref r0, .ref mbr, .ref mbp, .ref mby, .int (nI bl), .int (nI ta), .int (nI tl), .int (nI tk), .int vv, .ref an, .ref va])), (to, .inl (y 0, 228, .inl ft))] [(to, .inl (y 0, 228, .inl ft))] [(mrf, .inl (y 0, 3, .inl frf)), (mo, .inr (11, [.ref to, .ref ke, .ref ik, .ref mrf, .long mab, .long mbl, .ref ha, .ref r0, .ref mbr, .ref mbp, .ref mby, .int (nI bl), .int (nI ta), .int (nI tl), .int (nI tk), .int vv, .ref an, .ref va]))] [2] [0, 1] := ⟨rfl, rfl, rfl, rfl, rfl, by decide⟩
          refine kw_go_i hs18 hP hD hS hA (va_runS (As := [.ref to, .int (nI j4)]) (rest := []) ⟨hx, hb, hml, hown, hts⟩ (gr_getsOne228 l D y to ft fi gl mi no un j4 hk0_ hk1_ hk2_ hk3_ hk4_ hkt hfi hgl hmi hno hun h5 _) (va_cwS 2 hts gX11_about_X11_getsOne rfl rfl rfl (by decide +kernel) ⟨Nat.le_of_ble_eq_true rfl, Nat.le_of_ble_eq_true rfl⟩) (kw_PreS hs18 hP hD hK hN) rfl rfl hl.1 rfl (lv_room (Nat.le_of_ble_eq_true rfl)) dX11_about_65 ⟨Nat.le_of_ble_eq_true rfl, Nat.le_of_ble_eq_true rfl⟩) (fun r19 u20 H locs hq hP hD hS => ?_)
          have hP : va_P D vwCl [(mrf, .inl (y 0, 3, .inl frf)), (mo, .inr (11, [.ref to, .ref ke, .ref ik, .ref mrf, .long mab, .long mbl, .ref ha, .ref r0, .ref mbr, .ref mbp, .ref mby, .int (nI bl), .int (nI ta), .int (nI tl), .int (nI tk), .int vv, .ref an, .ref va])), (to, .inl (y 0, 228, .inl ft))] H := hP
          have hD : va_D A [(mrf, .inl (y 0, 3, .inl frf)), (mo, .inr (11, [.ref to, .ref ke, .ref ik, .ref mrf, .long mab, .long mbl, .ref ha, .ref r0, .ref mbr, .ref mbp, .ref mby, .int (nI bl), .int (nI ta), .int (nI tl), .int (nI tk), .int vv, .ref an, .ref va])), (to, .inl (y 0, 228, .inl ft))] := hD
          exact W.iret (v := r19) hx hb hr (fun tZ ht hW => ⟨⟨r19, (frf), rfl, by first | omega | (dsimp only; omega), by rw [ht]; exact hP.sub [1, 0, 2] rfl, hD.sub [1, 0, 2] (by decide) rfl⟩, hS.F ht⟩) hS.2.2 dX11_about_68
        · skip
          have h17 : j10 = 1 := (nI_eq (a := j10) (b := 1) (by omega) (by omega)).mp h17
          refine lv_aload_n hx hb dX11_about_48 rfl (lv_at hl 0 rfl) ?_
          refine va_get (D := D) (ci := 11) (v := .ref to) (C := RX11) (T := TX11) (N := 18) hx hb hts iw11 hown hK hP 1 rfl rfl 0 (by decide) fw2 (fun _ h9 => h9) rfl dX11_about_49 ?_
          refine lv_bipush (v := 16) hx hb dX11_about_52 (by decide) ?_
          refine lv_iload_n hx hb dX11_about_54 rfl (lv_at hl 1 rfl) ?_
          refine lv_iadd hx hb dX11_about_55 ?_
          rw [show 16 + (nI j4) = nI (j4 + 16) from (nI_add 16 j4).trans (congrArg nI (by omega))]
          refine va_iald hx hb hK hP 2 0 rfl rfl (vp_in_nI (by omega) (by decide)) dX11_about_56 ?_
          rw [nI_clamp (n := (j4 + 16)) (by omega)]
          refine lv_goto (tgt := 68) hx hb dX11_about_57 (by decide) ?_
          exact W.iret (v := (ft (j4 + 16))) hx hb hr (fun tZ ht hW => ⟨⟨(ft (j4 + 16)), (frf), rfl, by first | omega | (dsimp only; omega), by rw [ht]; exact hP.sub [1, 0, 2] rfl, hD.sub [1, 0, 2] (by decide) rfl⟩, hS.F ht⟩) hS.2.2 dX11_about_68
      · skip
        have h15 : j10 = 0 := (nI_eq (a := j10) (b := 0) (by omega) (by omega)).mp h15
        refine lv_aload_n hx hb dX11_about_31 rfl (lv_at hl 0 rfl) ?_
        refine va_get (D := D) (ci := 11) (v := .ref to) (C := RX11) (T := TX11) (N := 18) hx hb hts iw11 hown hK hP 1 rfl rfl 0 (by decide) fw2 (fun _ h9 => h9) rfl dX11_about_32 ?_
        refine lv_bipush (v := 11) hx hb dX11_about_35 (by decide) ?_
        refine lv_iload_n hx hb dX11_about_37 rfl (lv_at hl 1 rfl) ?_
        refine lv_iadd hx hb dX11_about_38 ?_
        rw [show 11 + (nI j4) = nI (j4 + 11) from (nI_add 11 j4).trans (congrArg nI (by omega))]
        refine va_iald hx hb hK hP 2 0 rfl rfl (vp_in_nI (by omega) (by decide)) dX11_about_39 ?_
        rw [nI_clamp (n := (j4 + 11)) (by omega)]
        obtain ⟨w21, h22, h23⟩ := kr_at hkt (p := (j4 + 11)) (by omega) (by unfold kr_a; omega)
        rw [h23]
        refine lv_goto (tgt := 68) hx hb dX11_about_40 (by decide) ?_
        exact W.iret (v := (nI w21)) hx hb hr (fun tZ ht hW => ⟨⟨(nI w21), (frf), rfl, by first | omega | (dsimp only; omega), by rw [ht]; exact hP.sub [1, 0, 2] rfl, hD.sub [1, 0, 2] (by decide) rfl⟩, hS.F ht⟩) hS.2.2 dX11_about_68
    · skip
      have hP : va_P D vwCl [(mrf, .inl (y 0, 3, .inl frf)), (mo, .inr (11, [.ref to, .ref ke, .ref ik, .ref mrf, .long mab, .long mbl, .ref ha, .ref r0, .ref mbr, .ref mbp, .ref mby, .int (nI bl), .int (nI ta), .int (nI tl), .int (nI tk), .int vv, .ref an, .ref va])), (to, .inl (y 0, 228, .inl ft))] H := hP
      have hD : va_D A [(mrf, .inl (y 0, 3, .inl frf)), (mo, .inr (11, [.ref to, .ref ke, .ref ik, .ref mrf, .long mab, .long mbl, .ref ha, .ref r0, .ref mbr, .ref mbp, .ref mby, .int (nI bl), .int (nI ta), .int (nI tl), .int (nI tk), .int vv, .ref an, .ref va])), (to, .inl (y 0, 228, .inl ft))] := hD
      refine lv_if_ne (tgt := 27) hx hb dX11_about_17 (by decide) (fun h9 => absurd h9 (by decide)) (fun _ => ?_)
      refine lv_aload_n hx hb dX11_about_20 rfl (lv_at hl 0 rfl) ?_
      refine lv_bipush (v := (-2)) hx hb dX11_about_21 (by decide) ?_
      have hs24 : kw_Split [(mrf, .inl (y 0, 3, .inl frf)), (mo, .inr (11, [.ref to, .ref ke, .ref ik, .ref mrf, .long mab, .long mbl, .ref ha, .ref r0, .ref mbr, .ref mbp, .ref mby, .int (nI bl), .int (nI ta), .int (nI tl), .int (nI tk), .int vv, .ref an, .ref va])), (to, .inl (y 0, 228, .inl ft))] [(mo, .inr (11, [.ref to, .ref ke, .ref ik, .ref mrf, .long mab, .long mbl, .ref ha, .ref r0, .ref mbr, .ref mbp, .ref mby, .int (nI bl), .int (nI ta), .int (nI tl), .int (nI tk), .int vv, .ref an, .ref va])), (mrf, .inl (y 0, 3, .inl frf))] [(to, .inl (y 0, 228, .inl ft))] [1, 0] [2] := ⟨rfl, rfl, rfl, rfl, rfl, by decide⟩
      refine kw_go_i hs24 hP hD hS hA (va_runV (As := [.int (-2)]) (rest := []) ⟨hx, hb, hml, hown, hts⟩ (gr_bad l D y mo to ke ik mrf ha r0 mbr mbp mby an va mab mbl bl ta tl tk vv frf (-2)  _) (cwV 1 hts gX11_about_X11_bad rfl rfl rfl (by decide +kernel) ⟨Nat.le_of_ble_eq_true rfl, Nat.le_of_ble_eq_true rfl⟩) (kw_PreV (ci := 11) (q0 := 1) hs24 hP hD hK hN rfl rfl) rfl rfl hl.1 rfl (lv_room (Nat.le_of_ble_eq_true rfl)) dX11_about_23 ⟨Nat.le_of_ble_eq_true rfl, Nat.le_of_ble_eq_true rfl⟩) (fun r25 u26 H locs hq hP hD hS => ?_)
      obtain rfl := hq
      have hP : va_P D vwCl [(to, .inl (y 0, 228, .inl ft)), (mo, .inr (11, [.ref to, .ref ke, .ref ik, .ref mrf, .long mab, .long mbl, .ref ha, .ref r0, .ref mbr, .ref mbp, .ref mby, .int (nI bl), .int (nI ta), .int (nI tl), .int (nI tk), .int vv, .ref an, .ref va])), (mrf, .inl (y 0, 3, .inl (upd frf 0 ((frf 0) + 1))))] H := hP
      have hD : va_D A [(to, .inl (y 0, 228, .inl ft)), (mo, .inr (11, [.ref to, .ref ke, .ref ik, .ref mrf, .long mab, .long mbl, .ref ha, .ref r0, .ref mbr, .ref mbp, .ref mby, .int (nI bl), .int (nI ta), .int (nI tl), .int (nI tk), .int vv, .ref an, .ref va])), (mrf, .inl (y 0, 3, .inl (upd frf 0 ((frf 0) + 1))))] := hD
      exact W.iret (v := (-2)) hx hb hr (fun tZ ht hW => ⟨⟨(-2), ((upd frf 0 ((frf 0) + 1))), rfl, by first | omega | (dsimp only; omega), by rw [ht]; exact hP.sub [1, 2, 0] rfl, hD.sub [1, 2, 0] (by decide) rfl⟩, hS.F ht⟩) hS.2.2 dX11_about_26
  · skip
    have hP : va_P D vwCl [(mrf, .inl (y 0, 3, .inl frf)), (mo, .inr (11, [.ref to, .ref ke, .ref ik, .ref mrf, .long mab, .long mbl, .ref ha, .ref r0, .ref mbr, .ref mbp, .ref mby, .int (nI bl), .int (nI ta), .int (nI tl), .int (nI tk), .int vv, .ref an, .ref va])), (to, .inl (y 0, 228, .inl ft))] H := hP
    have hD : va_D A [(mrf, .inl (y 0, 3, .inl frf)), (mo, .inr (11, [.ref to, .ref ke, .ref ik, .ref mrf, .long mab, .long mbl, .ref ha, .ref r0, .ref mbr, .ref mbp, .ref mby, .int (nI bl), .int (nI ta), .int (nI tl), .int (nI tk), .int vv, .ref an, .ref va])), (to, .inl (y 0, 228, .inl ft))] := hD
    refine lv_if_eq (tgt := 20) hx hb dX11_about_5 (by decide) (fun _ => ?_) (fun h9 => absurd h9 (by decide))
    refine lv_aload_n hx hb dX11_about_20 rfl (lv_at hl 0 rfl) ?_
    refine lv_bipush (v := (-2)) hx hb dX11_about_21 (by decide) ?_
    have hs27 : kw_Split [(mrf, .inl (y 0, 3, .inl frf)), (mo, .inr (11, [.ref to, .ref ke, .ref ik, .ref mrf, .long mab, .long mbl, .ref ha, .ref r0, .ref mbr, .ref mbp, .ref mby, .int (nI bl), .int (nI ta), .int (nI tl), .int (nI tk), .int vv, .ref an, .ref va])), (to, .inl (y 0, 228, .inl ft))] [(mo, .inr (11, [.ref to, .ref ke, .ref ik, .ref mrf, .long mab, .long mbl, .ref ha, .ref r0, .ref mbr, .ref mbp, .ref mby, .int (nI bl), .int (nI ta), .int (nI tl), .int (nI tk), .int vv, .ref an, .ref va])), (mrf, .inl (y 0, 3, .inl frf))] [(to, .inl (y 0, 228, .inl ft))] [1, 0] [2] := ⟨rfl, rfl, rfl, rfl, rfl, by decide⟩
    refine kw_go_i hs27 hP hD hS hA (va_runV (As := [.int (-2)]) (rest := []) ⟨hx, hb, hml, hown, hts⟩ (gr_bad l D y mo to ke ik mrf ha r0 mbr mbp mby an va mab mbl bl ta tl tk vv frf (-2)  _) (cwV 1 hts gX11_about_X11_bad rfl rfl rfl (by decide +kernel) ⟨Nat.le_of_ble_eq_true rfl, Nat.le_of_ble_eq_true rfl⟩) (kw_PreV (ci := 11) (q0 := 1) hs27 hP hD hK hN rfl rfl) rfl rfl hl.1 rfl (lv_room (Nat.le_of_ble_eq_true rfl)) dX11_about_23 ⟨Nat.le_of_ble_eq_true rfl, Nat.le_of_ble_eq_true rfl⟩) (fun r28 u29 H locs hq hP hD hS => ?_)
    obtain rfl := hq
    have hP : va_P D vwCl [(to, .inl (y 0, 228, .inl ft)), (mo, .inr (11, [.ref to, .ref ke, .ref ik, .ref mrf, .long mab, .long mbl, .ref ha, .ref r0, .ref mbr, .ref mbp, .ref mby, .int (nI bl), .int (nI ta), .int (nI tl), .int (nI tk), .int vv, .ref an, .ref va])), (mrf, .inl (y 0, 3, .inl (upd frf 0 ((frf 0) + 1))))] H := hP
    have hD : va_D A [(to, .inl (y 0, 228, .inl ft)), (mo, .inr (11, [.ref to, .ref ke, .ref ik, .ref mrf, .long mab, .long mbl, .ref ha, .ref r0, .ref mbr, .ref mbp, .ref mby, .int (nI bl), .int (nI ta), .int (nI tl), .int (nI tk), .int vv, .ref an, .ref va])), (mrf, .inl (y 0, 3, .inl (upd frf 0 ((frf 0) + 1))))] := hD
    exact W.iret (v := (-2)) hx hb hr (fun tZ ht hW => ⟨⟨(-2), ((upd frf 0 ((frf 0) + 1))), rfl, by first | omega | (dsimp only; omega), by rw [ht]; exact hP.sub [1, 2, 0] rfl, hD.sub [1, 2, 0] (by decide) rfl⟩, hS.F ht⟩) hS.2.2 dX11_about_26

set_option maxHeartbeats 4000000 in
set_option maxRecDepth 100000 in
theorem gq_seen (l : Launch) (D : va_G) (y : Nat → ClassId) (mo : Nat) (to : Nat) (ke : Nat) (ik : Nat) (mrf : Nat) (ha : Nat) (r0 : Nat) (mbr : Nat) (mbp : Nat) (mby : Nat) (an : Nat) (va : Nat) (mab : Int64) (mbl : Int64) (bl : Nat) (ta : Nat) (tl : Nat) (tk : Nat) (vv : Int32) (frf : Nat → Int32) (ft : Nat → Int32) (fi : Nat) (gl : Nat) (mi : Nat) (no : Nat) (un : Nat) (x : Int32) (x2 : Int32) (hk0_ : ft 0 = (nI fi)) (hk1_ : ft 1 = (nI gl)) (hk2_ : ft 2 = (nI mi)) (hk3_ : ft 3 = (nI no)) (hk4_ : ft 4 = (nI un)) (hkt : kr_t 228 ft) (hfi : fi ≤ 6) (hgl : gl ≤ 5) (hmi : mi ≤ 4) (hno : no ≤ 6) (hun : un ≤ 8) (hgf : (gl = 0 ∨ 0 < fi)) : kw_Mi l yX11_seen wsX11_seen ({ frames := 5, cells := 0, slots := 0, locals := 151 }) D y [.ref mo, .int x, .int x2] [(mo, .inr (11, [.ref to, .ref ke, .ref ik, .ref mrf, .long mab, .long mbl, .ref ha, .ref r0, .ref mbr, .ref mbp, .ref mby, .int (nI bl), .int (nI ta), .int (nI tl), .int (nI tk), .int vv, .ref an, .ref va])), (mrf, .inl (y 0, 3, .inl frf)), (to, .inl (y 0, 228, .inl ft))] (fun (r : Int32) (u : (Nat → Int32)) => (gl = 0 ∨ 0 < fi)) (fun u => [(mo, .inr (11, [.ref to, .ref ke, .ref ik, .ref mrf, .long mab, .long mbl, .ref ha, .ref r0, .ref mbr, .ref mbp, .ref mby, .int (nI bl), .int (nI ta), .int (nI tl), .int (nI tk), .int vv, .ref an, .ref va])), (mrf, .inl (y 0, 3, .inl u)), (to, .inl (y 0, 228, .inl ft))]) 0 0 := by
  refine kw_Mi.of (cc := cX11_seen) (maxL := 3) (ret := (some .int)) (by decide) rfl ?_
  intro pZ eZ s mZ beZ meZ cZ A hE
  obtain ⟨hx, hb, hr, hml, hts, hown, hlocks, hin, hA, hP, hD, hK, hN⟩ := hE
  have hS : va_S A s.heap s.heap [] := va_S.rf
  have hl := lv_entry ([.ref mo, .int x, .int x2]) (n := 3) (Nat.le_of_ble_eq_true rfl)
  rw [lg_entry_eq]
  generalize (lg_sl ([.ref mo, .int x, .int x2]) ++ List.replicate (3 - (lg_sl ([.ref mo, .int x, .int x2])).length) Slot.unset).toArray = ls at hl ⊢
  have hl : lv_has ls 3 [(0, .ref mo), (1, .int x), (2, .int x2)] := hl
  have fw1 := hts (.fieldLink RX11 7 "GleanDuskModel" "told" "[I") (List.mem_of_getElem? (i := 1) rfl)
  have iw11 : ∀ w ∈ wsX110, w ∈ wsX11_seen := fun _ h => List.mem_cons_of_mem _ (List.mem_append_right _ h)
  refine lv_aload_n hx hb dX11_seen_0 rfl (lv_at hl 0 rfl) ?_
  refine lv_iload_n hx hb dX11_seen_1 rfl (lv_at hl 1 rfl) ?_
  have hs1 : kw_Split [(mo, .inr (11, [.ref to, .ref ke, .ref ik, .ref mrf, .long mab, .long mbl, .ref ha, .ref r0, .ref mbr, .ref mbp, .ref mby, .int (nI bl), .int (nI ta), .int (nI tl), .int (nI tk), .int vv, .ref an, .ref va])), (mrf, .inl (y 0, 3, .inl frf)), (to, .inl (y 0, 228, .inl ft))] [(mo, .inr (11, [.ref to, .ref ke, .ref ik, .ref mrf, .long mab, .long mbl, .ref ha, .ref r0, .ref mbr, .ref mbp, .ref mby, .int (nI bl), .int (nI ta), .int (nI tl), .int (nI tk), .int vv, .ref an, .ref va])), (to, .inl (y 0, 228, .inl ft))] [(mrf, .inl (y 0, 3, .inl frf))] [0, 2] [1] := ⟨rfl, rfl, rfl, rfl, rfl, by decide⟩
  refine kw_go_i hs1 hP hD hS hA (va_runV (As := [.int x]) (rest := []) ⟨hx, hb, hml, hown, hts⟩ (gr_isField l D y mo to ke ik mrf ha r0 mbr mbp mby an va mab mbl bl ta tl tk vv ft fi gl mi no un x hk0_ hk1_ hk2_ hk3_ hk4_ hkt hfi hgl hmi hno hun _) (cwV 1 hts gX11_seen_X11_isField rfl rfl rfl (by decide +kernel) ⟨Nat.le_of_ble_eq_true rfl, Nat.le_of_ble_eq_true rfl⟩) (kw_PreV (ci := 11) (q0 := 0) hs1 hP hD hK hN rfl rfl) rfl rfl hl.1 rfl (lv_room (Nat.le_of_ble_eq_true rfl)) dX11_seen_2 ⟨Nat.le_of_ble_eq_true rfl, Nat.le_of_ble_eq_true rfl⟩) (fun r2 u3 H locs hq hP hD hS => ?_)
  rcases hq with ⟨j4, h5, rfl, rfl⟩ | ⟨h6, rfl⟩
  · skip
    have hP : va_P D vwCl [(mrf, .inl (y 0, 3, .inl frf)), (mo, .inr (11, [.ref to, .ref ke, .ref ik, .ref mrf, .long mab, .long mbl, .ref ha, .ref r0, .ref mbr, .ref mbp, .ref mby, .int (nI bl), .int (nI ta), .int (nI tl), .int (nI tk), .int vv, .ref an, .ref va])), (to, .inl (y 0, 228, .inl ft))] H := hP
    have hD : va_D A [(mrf, .inl (y 0, 3, .inl frf)), (mo, .inr (11, [.ref to, .ref ke, .ref ik, .ref mrf, .long mab, .long mbl, .ref ha, .ref r0, .ref mbr, .ref mbp, .ref mby, .int (nI bl), .int (nI ta), .int (nI tl), .int (nI tk), .int vv, .ref an, .ref va])), (to, .inl (y 0, 228, .inl ft))] := hD
    refine lv_if_eq (tgt := 27) hx hb dX11_seen_5 (by decide) (fun h9 => absurd h9 (by decide)) (fun _ => ?_)
    refine lv_iload_n hx hb dX11_seen_8 rfl (lv_at hl 2 rfl) ?_
    have hs7 : kw_Split [(mrf, .inl (y 0, 3, .inl frf)), (mo, .inr (11, [.ref to, .ref ke, .ref ik, .ref mrf, .long mab, .long mbl, .ref ha, .ref r0, .ref mbr, .ref mbp, .ref mby, .int (nI bl), .int (nI ta), .int (nI tl), .int (nI tk), .int vv, .ref an, .ref va])), (to, .inl (y 0, 228, .inl ft))] [] [(mrf, .inl (y 0, 3, .inl frf)), (mo, .inr (11, [.ref to, .ref ke, .ref ik, .ref mrf, .long mab, .long mbl, .ref ha, .ref r0, .ref mbr, .ref mbp, .ref mby, .int (nI bl), .int (nI ta), .int (nI tl), .int (nI tk), .int vv, .ref an, .ref va])), (to, .inl (y 0, 228, .inl ft))] [] [0, 1, 2] := ⟨rfl, rfl, rfl, rfl, rfl, by decide⟩
    refine kw_go_i hs7 hP hD hS hA (va_runS (As := [.int x2]) (rest := []) ⟨hx, hb, hml, hown, hts⟩ (gr_isStep l D y x2  _) (va_cwS 1 hts gX11_seen_X11_isStep rfl rfl rfl (by decide +kernel) ⟨Nat.le_of_ble_eq_true rfl, Nat.le_of_ble_eq_true rfl⟩) (kw_PreS hs7 hP hD hK hN) rfl rfl hl.1 rfl (lv_room (Nat.le_of_ble_eq_true rfl)) dX11_seen_9 ⟨Nat.le_of_ble_eq_true rfl, Nat.le_of_ble_eq_true rfl⟩) (fun r8 u9 H locs hq hP hD hS => ?_)
    rcases hq with ⟨j10, h11, rfl, rfl⟩ | ⟨h12, rfl⟩
    · skip
      have hP : va_P D vwCl [(mrf, .inl (y 0, 3, .inl frf)), (mo, .inr (11, [.ref to, .ref ke, .ref ik, .ref mrf, .long mab, .long mbl, .ref ha, .ref r0, .ref mbr, .ref mbp, .ref mby, .int (nI bl), .int (nI ta), .int (nI tl), .int (nI tk), .int vv, .ref an, .ref va])), (to, .inl (y 0, 228, .inl ft))] H := hP
      have hD : va_D A [(mrf, .inl (y 0, 3, .inl frf)), (mo, .inr (11, [.ref to, .ref ke, .ref ik, .ref mrf, .long mab, .long mbl, .ref ha, .ref r0, .ref mbr, .ref mbp, .ref mby, .int (nI bl), .int (nI ta), .int (nI tl), .int (nI tk), .int vv, .ref an, .ref va])), (to, .inl (y 0, 228, .inl ft))] := hD
      refine lv_if_eq (tgt := 27) hx hb dX11_seen_12 (by decide) (fun h9 => absurd h9 (by decide)) (fun _ => ?_)
      refine lv_aload_n hx hb dX11_seen_15 rfl (lv_at hl 0 rfl) ?_
      refine va_get (D := D) (ci := 11) (v := .ref to) (C := RX11) (T := TX11) (N := 18) hx hb hts iw11 hown hK hP 1 rfl rfl 0 (by decide) fw1 (fun _ h9 => h9) rfl dX11_seen_16 ?_
      refine lv_iload_n hx hb dX11_seen_19 rfl (lv_at hl 1 rfl) ?_
      refine lv_iload_n hx hb dX11_seen_20 rfl (lv_at hl 2 rfl) ?_
      have hs13 : kw_Split [(mrf, .inl (y 0, 3, .inl frf)), (mo, .inr (11, [.ref to, .ref ke, .ref ik, .ref mrf, .long mab, .long mbl, .ref ha, .ref r0, .ref mbr, .ref mbp, .ref mby, .int (nI bl), .int (nI ta), .int (nI tl), .int (nI tk), .int vv, .ref an, .ref va])), (to, .inl (y 0, 228, .inl ft))] [(to, .inl (y 0, 228, .inl ft))] [(mrf, .inl (y 0, 3, .inl frf)), (mo, .inr (11, [.ref to, .ref ke, .ref ik, .ref mrf, .long mab, .long mbl, .ref ha, .ref r0, .ref mbr, .ref mbp, .ref mby, .int (nI bl), .int (nI ta), .int (nI tl), .int (nI tk), .int vv, .ref an, .ref va]))] [2] [0, 1] := ⟨rfl, rfl, rfl, rfl, rfl, by decide⟩
      refine kw_go_i hs13 hP hD hS hA (va_runS (As := [.ref to, .int (nI j4), .int (nI j10)]) (rest := []) ⟨hx, hb, hml, hown, hts⟩ (gr_seenOn228 l D y to ft fi gl mi no un j4 (nI j10) hk0_ hk1_ hk2_ hk3_ hk4_ hkt hfi hgl hmi hno hun (by omega) _) (va_cwS 3 hts gX11_seen_X11_seenOn rfl rfl rfl (by decide +kernel) ⟨Nat.le_of_ble_eq_true rfl, Nat.le_of_ble_eq_true rfl⟩) (kw_PreS hs13 hP hD hK hN) rfl rfl hl.1 rfl (lv_room (Nat.le_of_ble_eq_true rfl)) dX11_seen_21 ⟨Nat.le_of_ble_eq_true rfl, Nat.le_of_ble_eq_true rfl⟩) (fun r14 u15 H locs hq hP hD hS => ?_)
      have hP : va_P D vwCl [(mrf, .inl (y 0, 3, .inl frf)), (mo, .inr (11, [.ref to, .ref ke, .ref ik, .ref mrf, .long mab, .long mbl, .ref ha, .ref r0, .ref mbr, .ref mbp, .ref mby, .int (nI bl), .int (nI ta), .int (nI tl), .int (nI tk), .int vv, .ref an, .ref va])), (to, .inl (y 0, 228, .inl ft))] H := hP
      have hD : va_D A [(mrf, .inl (y 0, 3, .inl frf)), (mo, .inr (11, [.ref to, .ref ke, .ref ik, .ref mrf, .long mab, .long mbl, .ref ha, .ref r0, .ref mbr, .ref mbp, .ref mby, .int (nI bl), .int (nI ta), .int (nI tl), .int (nI tk), .int vv, .ref an, .ref va])), (to, .inl (y 0, 228, .inl ft))] := hD
      refine lv_goto (tgt := 33) hx hb dX11_seen_24 (by decide) ?_
      exact W.iret (v := r14) hx hb hr (fun tZ ht hW => ⟨⟨r14, (frf), rfl, by first | omega | (dsimp only; omega), by rw [ht]; exact hP.sub [1, 0, 2] rfl, hD.sub [1, 0, 2] (by decide) rfl⟩, hS.F ht⟩) hS.2.2 dX11_seen_33
    · skip
      have hP : va_P D vwCl [(mrf, .inl (y 0, 3, .inl frf)), (mo, .inr (11, [.ref to, .ref ke, .ref ik, .ref mrf, .long mab, .long mbl, .ref ha, .ref r0, .ref mbr, .ref mbp, .ref mby, .int (nI bl), .int (nI ta), .int (nI tl), .int (nI tk), .int vv, .ref an, .ref va])), (to, .inl (y 0, 228, .inl ft))] H := hP
      have hD : va_D A [(mrf, .inl (y 0, 3, .inl frf)), (mo, .inr (11, [.ref to, .ref ke, .ref ik, .ref mrf, .long mab, .long mbl, .ref ha, .ref r0, .ref mbr, .ref mbp, .ref mby, .int (nI bl), .int (nI ta), .int (nI tl), .int (nI tk), .int vv, .ref an, .ref va])), (to, .inl (y 0, 228, .inl ft))] := hD
      refine lv_if_eq (tgt := 27) hx hb dX11_seen_12 (by decide) (fun _ => ?_) (fun h9 => absurd h9 (by decide))
      refine lv_aload_n hx hb dX11_seen_27 rfl (lv_at hl 0 rfl) ?_
      refine lv_bipush (v := (-2)) hx hb dX11_seen_28 (by decide) ?_
      have hs16 : kw_Split [(mrf, .inl (y 0, 3, .inl frf)), (mo, .inr (11, [.ref to, .ref ke, .ref ik, .ref mrf, .long mab, .long mbl, .ref ha, .ref r0, .ref mbr, .ref mbp, .ref mby, .int (nI bl), .int (nI ta), .int (nI tl), .int (nI tk), .int vv, .ref an, .ref va])), (to, .inl (y 0, 228, .inl ft))] [(mo, .inr (11, [.ref to, .ref ke, .ref ik, .ref mrf, .long mab, .long mbl, .ref ha, .ref r0, .ref mbr, .ref mbp, .ref mby, .int (nI bl), .int (nI ta), .int (nI tl), .int (nI tk), .int vv, .ref an, .ref va])), (mrf, .inl (y 0, 3, .inl frf))] [(to, .inl (y 0, 228, .inl ft))] [1, 0] [2] := ⟨rfl, rfl, rfl, rfl, rfl, by decide⟩
      refine kw_go_i hs16 hP hD hS hA (va_runV (As := [.int (-2)]) (rest := []) ⟨hx, hb, hml, hown, hts⟩ (gr_bad l D y mo to ke ik mrf ha r0 mbr mbp mby an va mab mbl bl ta tl tk vv frf (-2)  _) (cwV 1 hts gX11_seen_X11_bad rfl rfl rfl (by decide +kernel) ⟨Nat.le_of_ble_eq_true rfl, Nat.le_of_ble_eq_true rfl⟩) (kw_PreV (ci := 11) (q0 := 1) hs16 hP hD hK hN rfl rfl) rfl rfl hl.1 rfl (lv_room (Nat.le_of_ble_eq_true rfl)) dX11_seen_30 ⟨Nat.le_of_ble_eq_true rfl, Nat.le_of_ble_eq_true rfl⟩) (fun r17 u18 H locs hq hP hD hS => ?_)
      obtain rfl := hq
      have hP : va_P D vwCl [(to, .inl (y 0, 228, .inl ft)), (mo, .inr (11, [.ref to, .ref ke, .ref ik, .ref mrf, .long mab, .long mbl, .ref ha, .ref r0, .ref mbr, .ref mbp, .ref mby, .int (nI bl), .int (nI ta), .int (nI tl), .int (nI tk), .int vv, .ref an, .ref va])), (mrf, .inl (y 0, 3, .inl (upd frf 0 ((frf 0) + 1))))] H := hP
      have hD : va_D A [(to, .inl (y 0, 228, .inl ft)), (mo, .inr (11, [.ref to, .ref ke, .ref ik, .ref mrf, .long mab, .long mbl, .ref ha, .ref r0, .ref mbr, .ref mbp, .ref mby, .int (nI bl), .int (nI ta), .int (nI tl), .int (nI tk), .int vv, .ref an, .ref va])), (mrf, .inl (y 0, 3, .inl (upd frf 0 ((frf 0) + 1))))] := hD
      exact W.iret (v := (-2)) hx hb hr (fun tZ ht hW => ⟨⟨(-2), ((upd frf 0 ((frf 0) + 1))), rfl, by first | omega | (dsimp only; omega), by rw [ht]; exact hP.sub [1, 2, 0] rfl, hD.sub [1, 2, 0] (by decide) rfl⟩, hS.F ht⟩) hS.2.2 dX11_seen_33
  · skip
    have hP : va_P D vwCl [(mrf, .inl (y 0, 3, .inl frf)), (mo, .inr (11, [.ref to, .ref ke, .ref ik, .ref mrf, .long mab, .long mbl, .ref ha, .ref r0, .ref mbr, .ref mbp, .ref mby, .int (nI bl), .int (nI ta), .int (nI tl), .int (nI tk), .int vv, .ref an, .ref va])), (to, .inl (y 0, 228, .inl ft))] H := hP
    have hD : va_D A [(mrf, .inl (y 0, 3, .inl frf)), (mo, .inr (11, [.ref to, .ref ke, .ref ik, .ref mrf, .long mab, .long mbl, .ref ha, .ref r0, .ref mbr, .ref mbp, .ref mby, .int (nI bl), .int (nI ta), .int (nI tl), .int (nI tk), .int vv, .ref an, .ref va])), (to, .inl (y 0, 228, .inl ft))] := hD
    refine lv_if_eq (tgt := 27) hx hb dX11_seen_5 (by decide) (fun _ => ?_) (fun h9 => absurd h9 (by decide))
    refine lv_aload_n hx hb dX11_seen_27 rfl (lv_at hl 0 rfl) ?_
    refine lv_bipush (v := (-2)) hx hb dX11_seen_28 (by decide) ?_
    have hs19 : kw_Split [(mrf, .inl (y 0, 3, .inl frf)), (mo, .inr (11, [.ref to, .ref ke, .ref ik, .ref mrf, .long mab, .long mbl, .ref ha, .ref r0, .ref mbr, .ref mbp, .ref mby, .int (nI bl), .int (nI ta), .int (nI tl), .int (nI tk), .int vv, .ref an, .ref va])), (to, .inl (y 0, 228, .inl ft))] [(mo, .inr (11, [.ref to, .ref ke, .ref ik, .ref mrf, .long mab, .long mbl, .ref ha, .ref r0, .ref mbr, .ref mbp, .ref mby, .int (nI bl), .int (nI ta), .int (nI tl), .int (nI tk), .int vv, .ref an, .ref va])), (mrf, .inl (y 0, 3, .inl frf))] [(to, .inl (y 0, 228, .inl ft))] [1, 0] [2] := ⟨rfl, rfl, rfl, rfl, rfl, by decide⟩
    refine kw_go_i hs19 hP hD hS hA (va_runV (As := [.int (-2)]) (rest := []) ⟨hx, hb, hml, hown, hts⟩ (gr_bad l D y mo to ke ik mrf ha r0 mbr mbp mby an va mab mbl bl ta tl tk vv frf (-2)  _) (cwV 1 hts gX11_seen_X11_bad rfl rfl rfl (by decide +kernel) ⟨Nat.le_of_ble_eq_true rfl, Nat.le_of_ble_eq_true rfl⟩) (kw_PreV (ci := 11) (q0 := 1) hs19 hP hD hK hN rfl rfl) rfl rfl hl.1 rfl (lv_room (Nat.le_of_ble_eq_true rfl)) dX11_seen_30 ⟨Nat.le_of_ble_eq_true rfl, Nat.le_of_ble_eq_true rfl⟩) (fun r20 u21 H locs hq hP hD hS => ?_)
    obtain rfl := hq
    have hP : va_P D vwCl [(to, .inl (y 0, 228, .inl ft)), (mo, .inr (11, [.ref to, .ref ke, .ref ik, .ref mrf, .long mab, .long mbl, .ref ha, .ref r0, .ref mbr, .ref mbp, .ref mby, .int (nI bl), .int (nI ta), .int (nI tl), .int (nI tk), .int vv, .ref an, .ref va])), (mrf, .inl (y 0, 3, .inl (upd frf 0 ((frf 0) + 1))))] H := hP
    have hD : va_D A [(to, .inl (y 0, 228, .inl ft)), (mo, .inr (11, [.ref to, .ref ke, .ref ik, .ref mrf, .long mab, .long mbl, .ref ha, .ref r0, .ref mbr, .ref mbp, .ref mby, .int (nI bl), .int (nI ta), .int (nI tl), .int (nI tk), .int vv, .ref an, .ref va])), (mrf, .inl (y 0, 3, .inl (upd frf 0 ((frf 0) + 1))))] := hD
    exact W.iret (v := (-2)) hx hb hr (fun tZ ht hW => ⟨⟨(-2), ((upd frf 0 ((frf 0) + 1))), rfl, by first | omega | (dsimp only; omega), by rw [ht]; exact hP.sub [1, 2, 0] rfl, hD.sub [1, 2, 0] (by decide) rfl⟩, hS.F ht⟩) hS.2.2 dX11_seen_33

set_option maxHeartbeats 4000000 in
set_option maxRecDepth 100000 in
theorem gq_then (l : Launch) (D : va_G) (y : Nat → ClassId) (mo : Nat) (to : Nat) (ke : Nat) (ik : Nat) (mrf : Nat) (ha : Nat) (r0 : Nat) (mbr : Nat) (mbp : Nat) (mby : Nat) (an : Nat) (va : Nat) (mab : Int64) (mbl : Int64) (bl : Nat) (ta : Nat) (tl : Nat) (tk : Nat) (vv : Int32) (frf : Nat → Int32) (ft : Nat → Int32) (fi : Nat) (gl : Nat) (mi : Nat) (no : Nat) (un : Nat) (fh : Nat → Int32) (x : Int32) (x2 : Int32) (hk0_ : ft 0 = (nI fi)) (hk1_ : ft 1 = (nI gl)) (hk2_ : ft 2 = (nI mi)) (hk3_ : ft 3 = (nI no)) (hk4_ : ft 4 = (nI un)) (hkt : kr_t 228 ft) (hfi : fi ≤ 6) (hgl : gl ≤ 5) (hmi : mi ≤ 4) (hno : no ≤ 6) (hun : un ≤ 8) (hgf : (gl = 0 ∨ 0 < fi)) (hkh : kr_t 30 fh) : kw_Mi l yX11_then wsX11_then ({ frames := 6, cells := 0, slots := 0, locals := 177 }) D y [.ref mo, .int x, .int x2] [(mo, .inr (11, [.ref to, .ref ke, .ref ik, .ref mrf, .long mab, .long mbl, .ref ha, .ref r0, .ref mbr, .ref mbp, .ref mby, .int (nI bl), .int (nI ta), .int (nI tl), .int (nI tk), .int vv, .ref an, .ref va])), (mrf, .inl (y 0, 3, .inl frf)), (to, .inl (y 0, 228, .inl ft)), (ha, .inl (y 0, 30, .inl fh))] (fun (r : Int32) (u : (Nat → Int32) × (Nat → Int32)) => kr_t 30 u.2 ∧ (gl = 0 ∨ 0 < fi)) (fun u => [(mo, .inr (11, [.ref to, .ref ke, .ref ik, .ref mrf, .long mab, .long mbl, .ref ha, .ref r0, .ref mbr, .ref mbp, .ref mby, .int (nI bl), .int (nI ta), .int (nI tl), .int (nI tk), .int vv, .ref an, .ref va])), (mrf, .inl (y 0, 3, .inl u.1)), (to, .inl (y 0, 228, .inl ft)), (ha, .inl (y 0, 30, .inl u.2))]) 0 0 := by
  refine kw_Mi.of (cc := cX11_then) (maxL := 5) (ret := (some .int)) (by decide) rfl ?_
  intro pZ eZ s mZ beZ meZ cZ A hE
  obtain ⟨hx, hb, hr, hml, hts, hown, hlocks, hin, hA, hP, hD, hK, hN⟩ := hE
  have hS : va_S A s.heap s.heap [] := va_S.rf
  have hl := lv_entry ([.ref mo, .int x, .int x2]) (n := 5) (Nat.le_of_ble_eq_true rfl)
  rw [lg_entry_eq]
  generalize (lg_sl ([.ref mo, .int x, .int x2]) ++ List.replicate (5 - (lg_sl ([.ref mo, .int x, .int x2])).length) Slot.unset).toArray = ls at hl ⊢
  have hl : lv_has ls 5 [(0, .ref mo), (1, .int x), (2, .int x2)] := hl
  have fw1 := hts (.constantLong RX11 117 (12)) (List.mem_of_getElem? (i := 1) rfl)
  have fw2 := hts (.fieldLink RX11 27 "GleanDuskModel" "hand" "[I") (List.mem_of_getElem? (i := 2) rfl)
  have iw11 : ∀ w ∈ wsX110, w ∈ wsX11_then := fun _ h => List.mem_cons_of_mem _ (List.mem_append_right _ h)
  refine lv_aload_n hx hb dX11_then_0 rfl (lv_at hl 0 rfl) ?_
  refine lv_iload_n hx hb dX11_then_1 rfl (lv_at hl 1 rfl) ?_
  have hs1 : kw_Split [(mo, .inr (11, [.ref to, .ref ke, .ref ik, .ref mrf, .long mab, .long mbl, .ref ha, .ref r0, .ref mbr, .ref mbp, .ref mby, .int (nI bl), .int (nI ta), .int (nI tl), .int (nI tk), .int vv, .ref an, .ref va])), (mrf, .inl (y 0, 3, .inl frf)), (to, .inl (y 0, 228, .inl ft)), (ha, .inl (y 0, 30, .inl fh))] [(mo, .inr (11, [.ref to, .ref ke, .ref ik, .ref mrf, .long mab, .long mbl, .ref ha, .ref r0, .ref mbr, .ref mbp, .ref mby, .int (nI bl), .int (nI ta), .int (nI tl), .int (nI tk), .int vv, .ref an, .ref va])), (to, .inl (y 0, 228, .inl ft))] [(mrf, .inl (y 0, 3, .inl frf)), (ha, .inl (y 0, 30, .inl fh))] [0, 2] [1, 3] := ⟨rfl, rfl, rfl, rfl, rfl, by decide⟩
  refine kw_go_i hs1 hP hD hS hA (va_runV (As := [.int x]) (rest := []) ⟨hx, hb, hml, hown, hts⟩ (gr_isGleaner l D y mo to ke ik mrf ha r0 mbr mbp mby an va mab mbl bl ta tl tk vv ft fi gl mi no un x hk0_ hk1_ hk2_ hk3_ hk4_ hkt hfi hgl hmi hno hun _) (cwV 1 hts gX11_then_X11_isGleaner rfl rfl rfl (by decide +kernel) ⟨Nat.le_of_ble_eq_true rfl, Nat.le_of_ble_eq_true rfl⟩) (kw_PreV (ci := 11) (q0 := 0) hs1 hP hD hK hN rfl rfl) rfl rfl hl.1 rfl (lv_room (Nat.le_of_ble_eq_true rfl)) dX11_then_2 ⟨Nat.le_of_ble_eq_true rfl, Nat.le_of_ble_eq_true rfl⟩) (fun r2 u3 H locs hq hP hD hS => ?_)
  rcases hq with ⟨j4, h5, rfl, rfl⟩ | ⟨h6, rfl⟩
  · skip
    have hP : va_P D vwCl [(mrf, .inl (y 0, 3, .inl frf)), (ha, .inl (y 0, 30, .inl fh)), (mo, .inr (11, [.ref to, .ref ke, .ref ik, .ref mrf, .long mab, .long mbl, .ref ha, .ref r0, .ref mbr, .ref mbp, .ref mby, .int (nI bl), .int (nI ta), .int (nI tl), .int (nI tk), .int vv, .ref an, .ref va])), (to, .inl (y 0, 228, .inl ft))] H := hP
    have hD : va_D A [(mrf, .inl (y 0, 3, .inl frf)), (ha, .inl (y 0, 30, .inl fh)), (mo, .inr (11, [.ref to, .ref ke, .ref ik, .ref mrf, .long mab, .long mbl, .ref ha, .ref r0, .ref mbr, .ref mbp, .ref mby, .int (nI bl), .int (nI ta), .int (nI tl), .int (nI tk), .int vv, .ref an, .ref va])), (to, .inl (y 0, 228, .inl ft))] := hD
    refine lv_if_eq (tgt := 20) hx hb dX11_then_5 (by decide) (fun h9 => absurd h9 (by decide)) (fun _ => ?_)
    refine lv_iload_n hx hb dX11_then_8 rfl (lv_at hl 2 rfl) ?_
    refine lv_i2l (v := x2.toInt64) hx hb dX11_then_9 (rfl) ?_
    refine lv_lconst (v := 0) hx hb dX11_then_10 (by decide) ?_
    refine lv_ldc2 (v := 12) hx hb hown fw1 dX11_then_11 ?_
    have hs7 : kw_Split [(mrf, .inl (y 0, 3, .inl frf)), (ha, .inl (y 0, 30, .inl fh)), (mo, .inr (11, [.ref to, .ref ke, .ref ik, .ref mrf, .long mab, .long mbl, .ref ha, .ref r0, .ref mbr, .ref mbp, .ref mby, .int (nI bl), .int (nI ta), .int (nI tl), .int (nI tk), .int vv, .ref an, .ref va])), (to, .inl (y 0, 228, .inl ft))] [] [(mrf, .inl (y 0, 3, .inl frf)), (ha, .inl (y 0, 30, .inl fh)), (mo, .inr (11, [.ref to, .ref ke, .ref ik, .ref mrf, .long mab, .long mbl, .ref ha, .ref r0, .ref mbr, .ref mbp, .ref mby, .int (nI bl), .int (nI ta), .int (nI tl), .int (nI tk), .int vv, .ref an, .ref va])), (to, .inl (y 0, 228, .inl ft))] [] [0, 1, 2, 3] := ⟨rfl, rfl, rfl, rfl, rfl, by decide⟩
    refine kw_go_i hs7 hP hD hS hA (va_runS (As := [.long x2.toInt64, .long 0, .long 12]) (rest := []) ⟨hx, hb, hml, hown, hts⟩ (gr_in l D y x2 0 12 (by omega) (by omega) _) (va_cwS 3 hts gX11_then_X11_in rfl rfl rfl (by decide +kernel) ⟨Nat.le_of_ble_eq_true rfl, Nat.le_of_ble_eq_true rfl⟩) (kw_PreS hs7 hP hD hK hN) rfl rfl hl.1 rfl (lv_room (Nat.le_of_ble_eq_true rfl)) dX11_then_14 ⟨Nat.le_of_ble_eq_true rfl, Nat.le_of_ble_eq_true rfl⟩) (fun r8 u9 H locs hq hP hD hS => ?_)
    rcases hq with ⟨j10, h11, h12, rfl, rfl⟩ | ⟨h13, rfl⟩
    · skip
      have hP : va_P D vwCl [(mrf, .inl (y 0, 3, .inl frf)), (ha, .inl (y 0, 30, .inl fh)), (mo, .inr (11, [.ref to, .ref ke, .ref ik, .ref mrf, .long mab, .long mbl, .ref ha, .ref r0, .ref mbr, .ref mbp, .ref mby, .int (nI bl), .int (nI ta), .int (nI tl), .int (nI tk), .int vv, .ref an, .ref va])), (to, .inl (y 0, 228, .inl ft))] H := hP
      have hD : va_D A [(mrf, .inl (y 0, 3, .inl frf)), (ha, .inl (y 0, 30, .inl fh)), (mo, .inr (11, [.ref to, .ref ke, .ref ik, .ref mrf, .long mab, .long mbl, .ref ha, .ref r0, .ref mbr, .ref mbp, .ref mby, .int (nI bl), .int (nI ta), .int (nI tl), .int (nI tk), .int vv, .ref an, .ref va])), (to, .inl (y 0, 228, .inl ft))] := hD
      refine lv_if_ne (tgt := 27) hx hb dX11_then_17 (by decide) (fun _ => ?_) (fun h9 => absurd h9 (by decide))
      refine lv_aload_n hx hb dX11_then_27 rfl (lv_at hl 0 rfl) ?_
      have hs14 : kw_Split [(mrf, .inl (y 0, 3, .inl frf)), (ha, .inl (y 0, 30, .inl fh)), (mo, .inr (11, [.ref to, .ref ke, .ref ik, .ref mrf, .long mab, .long mbl, .ref ha, .ref r0, .ref mbr, .ref mbp, .ref mby, .int (nI bl), .int (nI ta), .int (nI tl), .int (nI tk), .int vv, .ref an, .ref va])), (to, .inl (y 0, 228, .inl ft))] [(mo, .inr (11, [.ref to, .ref ke, .ref ik, .ref mrf, .long mab, .long mbl, .ref ha, .ref r0, .ref mbr, .ref mbp, .ref mby, .int (nI bl), .int (nI ta), .int (nI tl), .int (nI tk), .int vv, .ref an, .ref va])), (to, .inl (y 0, 228, .inl ft)), (ha, .inl (y 0, 30, .inl fh))] [(mrf, .inl (y 0, 3, .inl frf))] [2, 3, 1] [0] := ⟨rfl, rfl, rfl, rfl, rfl, by decide⟩
      refine kw_go_v hs14 hP hD hS hA (va_runV (As := []) (rest := []) ⟨hx, hb, hml, hown, hts⟩ (gr_layHand l D y mo to ke ik mrf ha r0 mbr mbp mby an va mab mbl bl ta tl tk vv ft fi gl mi no un fh hk0_ hk1_ hk2_ hk3_ hk4_ hkt hfi hgl hmi hno hun hkh _) (cwV 0 hts gX11_then_X11_layHand rfl rfl rfl (by decide +kernel) ⟨Nat.le_of_ble_eq_true rfl, Nat.le_of_ble_eq_true rfl⟩) (kw_PreV (ci := 11) (q0 := 2) hs14 hP hD hK hN rfl rfl) rfl rfl hl.1 rfl (lv_room (Nat.le_of_ble_eq_true rfl)) dX11_then_28 ⟨Nat.le_of_ble_eq_true rfl, Nat.le_of_ble_eq_true rfl⟩) (fun u16 H locs hq hP hD hS => ?_)
      have h17 := hq
      have hk18 : (kr_cp fh ft 30) 0 = (nI fi) := ((kr_cp_lt (by decide)).trans hk0_)
      have hk19 : (kr_cp fh ft 30) 1 = (nI gl) := ((kr_cp_lt (by decide)).trans hk1_)
      have hP : va_P D vwCl [(mrf, .inl (y 0, 3, .inl frf)), (mo, .inr (11, [.ref to, .ref ke, .ref ik, .ref mrf, .long mab, .long mbl, .ref ha, .ref r0, .ref mbr, .ref mbp, .ref mby, .int (nI bl), .int (nI ta), .int (nI tl), .int (nI tk), .int vv, .ref an, .ref va])), (to, .inl (y 0, 228, .inl ft)), (ha, .inl (y 0, 30, .inl (kr_cp fh ft 30)))] H := hP
      have hD : va_D A [(mrf, .inl (y 0, 3, .inl frf)), (mo, .inr (11, [.ref to, .ref ke, .ref ik, .ref mrf, .long mab, .long mbl, .ref ha, .ref r0, .ref mbr, .ref mbp, .ref mby, .int (nI bl), .int (nI ta), .int (nI tl), .int (nI tk), .int vv, .ref an, .ref va])), (to, .inl (y 0, 228, .inl ft)), (ha, .inl (y 0, 30, .inl (kr_cp fh ft 30)))] := hD
      refine lv_iconst (v := 0) hx hb dX11_then_31 (by decide) ?_
      refine lv_istore_n (lv' := [(3, .int 0), (0, .ref mo), (1, .int (nI j4)), (2, .int (nI j10))]) hx hb dX11_then_32 rfl hl (by decide) rfl (fun ls hl => ?_)
      have lp43 : ∀ (fuj91 j91 : Nat) (x31 : Nat → Int32) (H : Heap) (locs : List Loc) (ls : Array Slot), j91 ≤ j10 → j10 - j91 < fuj91 → kr_t 30 x31 → x31 0 = (nI fi) → x31 1 = (nI gl) → va_P D vwCl [(mrf, .inl (y 0, 3, .inl frf)), (mo, .inr (11, [.ref to, .ref ke, .ref ik, .ref mrf, .long mab, .long mbl, .ref ha, .ref r0, .ref mbr, .ref mbp, .ref mby, .int (nI bl), .int (nI ta), .int (nI tl), .int (nI tk), .int vv, .ref an, .ref va])), (to, .inl (y 0, 228, .inl ft)), (ha, .inl (y 0, 30, .inl x31))] H → va_D A [(mrf, .inl (y 0, 3, .inl frf)), (mo, .inr (11, [.ref to, .ref ke, .ref ik, .ref mrf, .long mab, .long mbl, .ref ha, .ref r0, .ref mbr, .ref mbp, .ref mby, .int (nI bl), .int (nI ta), .int (nI tl), .int (nI tk), .int vv, .ref an, .ref va])), (to, .inl (y 0, 228, .inl ft)), (ha, .inl (y 0, 30, .inl x31))] → va_S A s.heap H locs → lv_has ls 5 [(3, .int (nI j91)), (0, .ref mo), (1, .int (nI j4)), (2, .int (nI j10))] → W pZ l eZ ({ frames := 6, cells := 0, slots := 0, locals := 177 }) s mZ [.ref mo, .int (nI j4), .int (nI j10)].toArray beZ meZ cZ H locs 0 0 (MQ beZ (va_Qi (fun (r : Int32) (u : (Nat → Int32) × (Nat → Int32)) => kr_t 30 u.2 ∧ (gl = 0 ∨ 0 < fi)) (kw_B D (fun u => [(mo, .inr (11, [.ref to, .ref ke, .ref ik, .ref mrf, .long mab, .long mbl, .ref ha, .ref r0, .ref mbr, .ref mbp, .ref mby, .int (nI bl), .int (nI ta), .int (nI tl), .int (nI tk), .int vv, .ref an, .ref va])), (mrf, .inl (y 0, 3, .inl u.1)), (to, .inl (y 0, 228, .inl ft)), (ha, .inl (y 0, 30, .inl u.2))]) A) A) [.ref mo, .int (nI j4), .int (nI j10)].toArray s 0 0 A) (F0 mZ 33 ls []) := by
        intro fuj91
        induction fuj91 with
        | zero => intro j91 x31 H locs ls hj9 hf9; exact absurd hf9 (Nat.not_lt_zero _)
        | succ fuj91 ihj91 =>
          intro j91 x31 H locs ls hj91 hfj91 hr_x31 hk_x31_0 hk_x31_1 hP hD hS hl
          refine lv_iload_n hx hb dX11_then_33 rfl (lv_at hl 0 rfl) ?_
          refine lv_iload_n hx hb dX11_then_34 rfl (lv_at hl 3 rfl) ?_
          refine lv_icmp_ge (tgt := 65) hx hb dX11_then_35 (by decide) (fun h44 => ?_) (fun h45 => ?_)
          · skip
            have h44 : j10 ≤ j91 := (nI_leI (a := j10) (b := j91) (by omega) (by omega)).mp h44
            refine lv_aload_n hx hb dX11_then_65 rfl (lv_at hl 1 rfl) ?_
            refine va_get (D := D) (ci := 11) (v := .ref ha) (C := RX11) (T := TX11) (N := 18) hx hb hts iw11 hown hK hP 1 rfl rfl 6 (by decide) fw2 (fun _ h9 => h9) rfl dX11_then_66 ?_
            refine lv_bipush (v := 16) hx hb dX11_then_69 (by decide) ?_
            refine lv_iload_n hx hb dX11_then_71 rfl (lv_at hl 2 rfl) ?_
            refine lv_iadd hx hb dX11_then_72 ?_
            rw [show 16 + (nI j4) = nI (j4 + 16) from (nI_add 16 j4).trans (congrArg nI (by omega))]
            refine va_iald hx hb hK hP 3 0 rfl rfl (vp_in_nI (by omega) (by decide)) dX11_then_73 ?_
            rw [nI_clamp (n := (j4 + 16)) (by omega)]
            exact W.iret (v := (x31 (j4 + 16))) hx hb hr (fun tZ ht hW => ⟨⟨(x31 (j4 + 16)), (frf, x31), rfl, ⟨hr_x31, by first | omega | (dsimp only; omega)⟩, by rw [ht]; exact hP.sub [1, 0, 2, 3] rfl, hD.sub [1, 0, 2, 3] (by decide) rfl⟩, hS.F ht⟩) hS.2.2 dX11_then_74
          · skip
            have h45 : ¬ j10 ≤ j91 := fun q9 => h45 ((nI_leI (a := j10) (b := j91) (by omega) (by omega)).mpr q9)
            refine lv_aload_n hx hb dX11_then_38 rfl (lv_at hl 1 rfl) ?_
            refine va_get (D := D) (ci := 11) (v := .ref ha) (C := RX11) (T := TX11) (N := 18) hx hb hts iw11 hown hK hP 1 rfl rfl 6 (by decide) fw2 (fun _ h9 => h9) rfl dX11_then_39 ?_
            refine lv_bipush (v := 21) hx hb dX11_then_42 (by decide) ?_
            refine va_iald hx hb hK hP 3 0 rfl rfl (by unfold vp_in; decide) dX11_then_44 ?_
            rw [show ((21 : Int32)).toNatClampNeg = 21 from rfl]
            refine lv_bipush (v := 12) hx hb dX11_then_45 (by decide) ?_
            refine lv_icmp_ge (tgt := 65) hx hb dX11_then_47 (by decide) (fun h46 => ?_) (fun h47 => ?_)
            · skip
              refine lv_aload_n hx hb dX11_then_65 rfl (lv_at hl 1 rfl) ?_
              refine va_get (D := D) (ci := 11) (v := .ref ha) (C := RX11) (T := TX11) (N := 18) hx hb hts iw11 hown hK hP 1 rfl rfl 6 (by decide) fw2 (fun _ h9 => h9) rfl dX11_then_66 ?_
              refine lv_bipush (v := 16) hx hb dX11_then_69 (by decide) ?_
              refine lv_iload_n hx hb dX11_then_71 rfl (lv_at hl 2 rfl) ?_
              refine lv_iadd hx hb dX11_then_72 ?_
              rw [show 16 + (nI j4) = nI (j4 + 16) from (nI_add 16 j4).trans (congrArg nI (by omega))]
              refine va_iald hx hb hK hP 3 0 rfl rfl (vp_in_nI (by omega) (by decide)) dX11_then_73 ?_
              rw [nI_clamp (n := (j4 + 16)) (by omega)]
              exact W.iret (v := (x31 (j4 + 16))) hx hb hr (fun tZ ht hW => ⟨⟨(x31 (j4 + 16)), (frf, x31), rfl, ⟨hr_x31, by first | omega | (dsimp only; omega)⟩, by rw [ht]; exact hP.sub [1, 0, 2, 3] rfl, hD.sub [1, 0, 2, 3] (by decide) rfl⟩, hS.F ht⟩) hS.2.2 dX11_then_74
            · skip
              refine lv_aload_n hx hb dX11_then_50 rfl (lv_at hl 1 rfl) ?_
              refine va_get (D := D) (ci := 11) (v := .ref ha) (C := RX11) (T := TX11) (N := 18) hx hb hts iw11 hown hK hP 1 rfl rfl 6 (by decide) fw2 (fun _ h9 => h9) rfl dX11_then_51 ?_
              have hs48 : kw_Split [(mrf, .inl (y 0, 3, .inl frf)), (mo, .inr (11, [.ref to, .ref ke, .ref ik, .ref mrf, .long mab, .long mbl, .ref ha, .ref r0, .ref mbr, .ref mbp, .ref mby, .int (nI bl), .int (nI ta), .int (nI tl), .int (nI tk), .int vv, .ref an, .ref va])), (to, .inl (y 0, 228, .inl ft)), (ha, .inl (y 0, 30, .inl x31))] [(ha, .inl (y 0, 30, .inl x31))] [(mrf, .inl (y 0, 3, .inl frf)), (mo, .inr (11, [.ref to, .ref ke, .ref ik, .ref mrf, .long mab, .long mbl, .ref ha, .ref r0, .ref mbr, .ref mbp, .ref mby, .int (nI bl), .int (nI ta), .int (nI tl), .int (nI tk), .int vv, .ref an, .ref va])), (to, .inl (y 0, 228, .inl ft))] [3] [0, 1, 2] := ⟨rfl, rfl, rfl, rfl, rfl, by decide⟩
              refine kw_go_i hs48 hP hD hS hA (va_runS (As := [.ref ha]) (rest := []) ⟨hx, hb, hml, hown, hts⟩ (gr_goStep30 l D y ha x31 fi gl hk_x31_0 hk_x31_1 hr_x31 hfi hgl _) (va_cwS 1 hts gX11_then_X11_goStep rfl rfl rfl (by decide +kernel) ⟨Nat.le_of_ble_eq_true rfl, Nat.le_of_ble_eq_true rfl⟩) (kw_PreS hs48 hP hD hK hN) rfl rfl hl.1 rfl (lv_room (Nat.le_of_ble_eq_true rfl)) dX11_then_54 ⟨Nat.le_of_ble_eq_true rfl, Nat.le_of_ble_eq_true rfl⟩) (fun r49 u50 H locs hq hP hD hS => ?_)
              obtain ⟨v51, rfl⟩ : ∃ z, z = u50 := ⟨_, rfl⟩
              try dsimp only at hq
              obtain ⟨h52, h53, h54⟩ := hq
              have hP : va_P D vwCl [(mrf, .inl (y 0, 3, .inl frf)), (mo, .inr (11, [.ref to, .ref ke, .ref ik, .ref mrf, .long mab, .long mbl, .ref ha, .ref r0, .ref mbr, .ref mbp, .ref mby, .int (nI bl), .int (nI ta), .int (nI tl), .int (nI tk), .int vv, .ref an, .ref va])), (to, .inl (y 0, 228, .inl ft)), (ha, .inl (y 0, 30, .inl v51))] H := hP
              have hD : va_D A [(mrf, .inl (y 0, 3, .inl frf)), (mo, .inr (11, [.ref to, .ref ke, .ref ik, .ref mrf, .long mab, .long mbl, .ref ha, .ref r0, .ref mbr, .ref mbp, .ref mby, .int (nI bl), .int (nI ta), .int (nI tl), .int (nI tk), .int vv, .ref an, .ref va])), (to, .inl (y 0, 228, .inl ft)), (ha, .inl (y 0, 30, .inl v51))] := hD
              refine lv_istore (lv' := [(4, .int r49), (3, .int (nI j91)), (0, .ref mo), (1, .int (nI j4)), (2, .int (nI j10))]) hx hb dX11_then_57 hl (by decide) rfl (fun ls hl => ?_)
              refine lv_iinc (v := (nI (j91 + 1))) (lv' := [(3, .int (nI (j91 + 1))), (4, .int r49), (0, .ref mo), (1, .int (nI j4)), (2, .int (nI j10))]) hx hb dX11_then_59 hl (k := 1) rfl (nI_1 j91) (by decide) rfl (fun ls hl => ?_)
              refine lv_goto (tgt := 33) hx hb dX11_then_62 (by decide) ?_
              exact ihj91 (j91 + 1) v51 H locs ls (by omega) (by omega) h52 h53 h54 (hP.sub [0, 1, 2, 3] rfl) (hD.sub [0, 1, 2, 3] (by decide) rfl) hS (lv_sub hl [0, 2, 3, 4] rfl)
      exact lp43 (j10 + 1) 0 (kr_cp fh ft 30) _ _ _ (by omega) (by omega) h17 hk18 hk19 hP hD hS (lv_sub hl [0, 1, 2, 3] rfl)
    · skip
      have hP : va_P D vwCl [(mrf, .inl (y 0, 3, .inl frf)), (ha, .inl (y 0, 30, .inl fh)), (mo, .inr (11, [.ref to, .ref ke, .ref ik, .ref mrf, .long mab, .long mbl, .ref ha, .ref r0, .ref mbr, .ref mbp, .ref mby, .int (nI bl), .int (nI ta), .int (nI tl), .int (nI tk), .int vv, .ref an, .ref va])), (to, .inl (y 0, 228, .inl ft))] H := hP
      have hD : va_D A [(mrf, .inl (y 0, 3, .inl frf)), (ha, .inl (y 0, 30, .inl fh)), (mo, .inr (11, [.ref to, .ref ke, .ref ik, .ref mrf, .long mab, .long mbl, .ref ha, .ref r0, .ref mbr, .ref mbp, .ref mby, .int (nI bl), .int (nI ta), .int (nI tl), .int (nI tk), .int vv, .ref an, .ref va])), (to, .inl (y 0, 228, .inl ft))] := hD
      refine lv_if_ne (tgt := 27) hx hb dX11_then_17 (by decide) (fun h9 => absurd h9 (by decide)) (fun _ => ?_)
      refine lv_aload_n hx hb dX11_then_20 rfl (lv_at hl 0 rfl) ?_
      refine lv_bipush (v := (-2)) hx hb dX11_then_21 (by decide) ?_
      have hs55 : kw_Split [(mrf, .inl (y 0, 3, .inl frf)), (ha, .inl (y 0, 30, .inl fh)), (mo, .inr (11, [.ref to, .ref ke, .ref ik, .ref mrf, .long mab, .long mbl, .ref ha, .ref r0, .ref mbr, .ref mbp, .ref mby, .int (nI bl), .int (nI ta), .int (nI tl), .int (nI tk), .int vv, .ref an, .ref va])), (to, .inl (y 0, 228, .inl ft))] [(mo, .inr (11, [.ref to, .ref ke, .ref ik, .ref mrf, .long mab, .long mbl, .ref ha, .ref r0, .ref mbr, .ref mbp, .ref mby, .int (nI bl), .int (nI ta), .int (nI tl), .int (nI tk), .int vv, .ref an, .ref va])), (mrf, .inl (y 0, 3, .inl frf))] [(ha, .inl (y 0, 30, .inl fh)), (to, .inl (y 0, 228, .inl ft))] [2, 0] [1, 3] := ⟨rfl, rfl, rfl, rfl, rfl, by decide⟩
      refine kw_go_i hs55 hP hD hS hA (va_runV (As := [.int (-2)]) (rest := []) ⟨hx, hb, hml, hown, hts⟩ (gr_bad l D y mo to ke ik mrf ha r0 mbr mbp mby an va mab mbl bl ta tl tk vv frf (-2)  _) (cwV 1 hts gX11_then_X11_bad rfl rfl rfl (by decide +kernel) ⟨Nat.le_of_ble_eq_true rfl, Nat.le_of_ble_eq_true rfl⟩) (kw_PreV (ci := 11) (q0 := 2) hs55 hP hD hK hN rfl rfl) rfl rfl hl.1 rfl (lv_room (Nat.le_of_ble_eq_true rfl)) dX11_then_23 ⟨Nat.le_of_ble_eq_true rfl, Nat.le_of_ble_eq_true rfl⟩) (fun r56 u57 H locs hq hP hD hS => ?_)
      obtain rfl := hq
      have hP : va_P D vwCl [(ha, .inl (y 0, 30, .inl fh)), (to, .inl (y 0, 228, .inl ft)), (mo, .inr (11, [.ref to, .ref ke, .ref ik, .ref mrf, .long mab, .long mbl, .ref ha, .ref r0, .ref mbr, .ref mbp, .ref mby, .int (nI bl), .int (nI ta), .int (nI tl), .int (nI tk), .int vv, .ref an, .ref va])), (mrf, .inl (y 0, 3, .inl (upd frf 0 ((frf 0) + 1))))] H := hP
      have hD : va_D A [(ha, .inl (y 0, 30, .inl fh)), (to, .inl (y 0, 228, .inl ft)), (mo, .inr (11, [.ref to, .ref ke, .ref ik, .ref mrf, .long mab, .long mbl, .ref ha, .ref r0, .ref mbr, .ref mbp, .ref mby, .int (nI bl), .int (nI ta), .int (nI tl), .int (nI tk), .int vv, .ref an, .ref va])), (mrf, .inl (y 0, 3, .inl (upd frf 0 ((frf 0) + 1))))] := hD
      exact W.iret (v := (-2)) hx hb hr (fun tZ ht hW => ⟨⟨(-2), ((upd frf 0 ((frf 0) + 1)), fh), rfl, ⟨hkh, by first | omega | (dsimp only; omega)⟩, by rw [ht]; exact hP.sub [2, 3, 1, 0] rfl, hD.sub [2, 3, 1, 0] (by decide) rfl⟩, hS.F ht⟩) hS.2.2 dX11_then_26
  · skip
    have hP : va_P D vwCl [(mrf, .inl (y 0, 3, .inl frf)), (ha, .inl (y 0, 30, .inl fh)), (mo, .inr (11, [.ref to, .ref ke, .ref ik, .ref mrf, .long mab, .long mbl, .ref ha, .ref r0, .ref mbr, .ref mbp, .ref mby, .int (nI bl), .int (nI ta), .int (nI tl), .int (nI tk), .int vv, .ref an, .ref va])), (to, .inl (y 0, 228, .inl ft))] H := hP
    have hD : va_D A [(mrf, .inl (y 0, 3, .inl frf)), (ha, .inl (y 0, 30, .inl fh)), (mo, .inr (11, [.ref to, .ref ke, .ref ik, .ref mrf, .long mab, .long mbl, .ref ha, .ref r0, .ref mbr, .ref mbp, .ref mby, .int (nI bl), .int (nI ta), .int (nI tl), .int (nI tk), .int vv, .ref an, .ref va])), (to, .inl (y 0, 228, .inl ft))] := hD
    refine lv_if_eq (tgt := 20) hx hb dX11_then_5 (by decide) (fun _ => ?_) (fun h9 => absurd h9 (by decide))
    refine lv_aload_n hx hb dX11_then_20 rfl (lv_at hl 0 rfl) ?_
    refine lv_bipush (v := (-2)) hx hb dX11_then_21 (by decide) ?_
    have hs58 : kw_Split [(mrf, .inl (y 0, 3, .inl frf)), (ha, .inl (y 0, 30, .inl fh)), (mo, .inr (11, [.ref to, .ref ke, .ref ik, .ref mrf, .long mab, .long mbl, .ref ha, .ref r0, .ref mbr, .ref mbp, .ref mby, .int (nI bl), .int (nI ta), .int (nI tl), .int (nI tk), .int vv, .ref an, .ref va])), (to, .inl (y 0, 228, .inl ft))] [(mo, .inr (11, [.ref to, .ref ke, .ref ik, .ref mrf, .long mab, .long mbl, .ref ha, .ref r0, .ref mbr, .ref mbp, .ref mby, .int (nI bl), .int (nI ta), .int (nI tl), .int (nI tk), .int vv, .ref an, .ref va])), (mrf, .inl (y 0, 3, .inl frf))] [(ha, .inl (y 0, 30, .inl fh)), (to, .inl (y 0, 228, .inl ft))] [2, 0] [1, 3] := ⟨rfl, rfl, rfl, rfl, rfl, by decide⟩
    refine kw_go_i hs58 hP hD hS hA (va_runV (As := [.int (-2)]) (rest := []) ⟨hx, hb, hml, hown, hts⟩ (gr_bad l D y mo to ke ik mrf ha r0 mbr mbp mby an va mab mbl bl ta tl tk vv frf (-2)  _) (cwV 1 hts gX11_then_X11_bad rfl rfl rfl (by decide +kernel) ⟨Nat.le_of_ble_eq_true rfl, Nat.le_of_ble_eq_true rfl⟩) (kw_PreV (ci := 11) (q0 := 2) hs58 hP hD hK hN rfl rfl) rfl rfl hl.1 rfl (lv_room (Nat.le_of_ble_eq_true rfl)) dX11_then_23 ⟨Nat.le_of_ble_eq_true rfl, Nat.le_of_ble_eq_true rfl⟩) (fun r59 u60 H locs hq hP hD hS => ?_)
    obtain rfl := hq
    have hP : va_P D vwCl [(ha, .inl (y 0, 30, .inl fh)), (to, .inl (y 0, 228, .inl ft)), (mo, .inr (11, [.ref to, .ref ke, .ref ik, .ref mrf, .long mab, .long mbl, .ref ha, .ref r0, .ref mbr, .ref mbp, .ref mby, .int (nI bl), .int (nI ta), .int (nI tl), .int (nI tk), .int vv, .ref an, .ref va])), (mrf, .inl (y 0, 3, .inl (upd frf 0 ((frf 0) + 1))))] H := hP
    have hD : va_D A [(ha, .inl (y 0, 30, .inl fh)), (to, .inl (y 0, 228, .inl ft)), (mo, .inr (11, [.ref to, .ref ke, .ref ik, .ref mrf, .long mab, .long mbl, .ref ha, .ref r0, .ref mbr, .ref mbp, .ref mby, .int (nI bl), .int (nI ta), .int (nI tl), .int (nI tk), .int vv, .ref an, .ref va])), (mrf, .inl (y 0, 3, .inl (upd frf 0 ((frf 0) + 1))))] := hD
    exact W.iret (v := (-2)) hx hb hr (fun tZ ht hW => ⟨⟨(-2), ((upd frf 0 ((frf 0) + 1)), fh), rfl, ⟨hkh, by first | omega | (dsimp only; omega)⟩, by rw [ht]; exact hP.sub [2, 3, 1, 0] rfl, hD.sub [2, 3, 1, 0] (by decide) rfl⟩, hS.F ht⟩) hS.2.2 dX11_then_26

set_option maxHeartbeats 4000000 in
set_option maxRecDepth 100000 in
theorem gr_distance (l : Launch) (D : va_G) (y : Nat → ClassId) (x : Int32) (x2 : Int32)  : kw_Mi l yX11_distance wsX11_distance ({ frames := 1, cells := 0, slots := 0, locals := 60 }) D y [.int x, .int x2] [] (fun (r : Int32) (u : Unit) => True) (fun _ => []) 0 0 := by
  refine kw_Mi.of (cc := cX11_distance) (maxL := 2) (ret := (some .int)) (by decide) rfl ?_
  intro pZ eZ s mZ beZ meZ cZ A hE
  obtain ⟨hx, hb, hr, hml, hts, hown, hlocks, hin, hA, hP, hD, hK, hN⟩ := hE
  have hS : va_S A s.heap s.heap [] := va_S.rf
  have hl := lv_entry ([.int x, .int x2]) (n := 2) (Nat.le_of_ble_eq_true rfl)
  rw [lg_entry_eq]
  generalize (lg_sl ([.int x, .int x2]) ++ List.replicate (2 - (lg_sl ([.int x, .int x2])).length) Slot.unset).toArray = ls at hl ⊢
  have hl : lv_has ls 2 [(0, .int x), (1, .int x2)] := hl
  refine lv_iload_n hx hb dX11_distance_0 rfl (lv_at hl 0 rfl) ?_
  refine lv_iload_n hx hb dX11_distance_1 rfl (lv_at hl 1 rfl) ?_
  refine lv_icmp_ge (tgt := 11) hx hb dX11_distance_2 (by decide) (fun h1 => ?_) (fun h2 => ?_)
  · skip
    refine lv_iload_n hx hb dX11_distance_11 rfl (lv_at hl 0 rfl) ?_
    refine lv_iload_n hx hb dX11_distance_12 rfl (lv_at hl 1 rfl) ?_
    refine lv_isub hx hb dX11_distance_13 ?_
    exact W.iret (v := (x - x2)) hx hb hr (fun tZ ht hW => ⟨⟨(x - x2), (), rfl, trivial, by rw [ht]; exact hP.sub [] rfl, hD.sub [] (by decide) rfl⟩, hS.F ht⟩) hS.2.2 dX11_distance_14
  · skip
    refine lv_iload_n hx hb dX11_distance_5 rfl (lv_at hl 1 rfl) ?_
    refine lv_iload_n hx hb dX11_distance_6 rfl (lv_at hl 0 rfl) ?_
    refine lv_isub hx hb dX11_distance_7 ?_
    refine lv_goto (tgt := 14) hx hb dX11_distance_8 (by decide) ?_
    exact W.iret (v := (x2 - x)) hx hb hr (fun tZ ht hW => ⟨⟨(x2 - x), (), rfl, trivial, by rw [ht]; exact hP.sub [] rfl, hD.sub [] (by decide) rfl⟩, hS.F ht⟩) hS.2.2 dX11_distance_14

set_option maxHeartbeats 4000000 in
set_option maxRecDepth 100000 in
theorem gr_kindsOf (l : Launch) (D : va_G) (y : Nat → ClassId) (mo : Nat) (to : Nat) (ke : Nat) (ik : Nat) (mrf : Nat) (ha : Nat) (r0 : Nat) (mbr : Nat) (mbp : Nat) (mby : Nat) (an : Nat) (va : Nat) (mab : Int64) (mbl : Int64) (bl : Nat) (ta : Nat) (tl : Nat) (tk : Nat) (vv : Int32) (ft : Nat → Int32) (fi : Nat) (gl : Nat) (mi : Nat) (no : Nat) (un : Nat) (x : Int32) (hk0_ : ft 0 = (nI fi)) (hk1_ : ft 1 = (nI gl)) (hk2_ : ft 2 = (nI mi)) (hk3_ : ft 3 = (nI no)) (hk4_ : ft 4 = (nI un)) (hkt : kr_t 228 ft) (hfi : fi ≤ 6) (hgl : gl ≤ 5) (hmi : mi ≤ 4) (hno : no ≤ 6) (hun : un ≤ 8) : kw_Mi l yX11_kindsOf wsX11_kindsOf ({ frames := 4, cells := 0, slots := 0, locals := 129 }) D y [.ref mo, .int x] [(mo, .inr (11, [.ref to, .ref ke, .ref ik, .ref mrf, .long mab, .long mbl, .ref ha, .ref r0, .ref mbr, .ref mbp, .ref mby, .int (nI bl), .int (nI ta), .int (nI tl), .int (nI tk), .int vv, .ref an, .ref va])), (to, .inl (y 0, 228, .inl ft))] (fun (r : Int32) (u : Unit) => True) (fun _ => [(mo, .inr (11, [.ref to, .ref ke, .ref ik, .ref mrf, .long mab, .long mbl, .ref ha, .ref r0, .ref mbr, .ref mbp, .ref mby, .int (nI bl), .int (nI ta), .int (nI tl), .int (nI tk), .int vv, .ref an, .ref va])), (to, .inl (y 0, 228, .inl ft))]) 0 0 := by
  refine kw_Mi.of (cc := cX11_kindsOf) (maxL := 7) (ret := (some .int)) (by decide) rfl ?_
  intro pZ eZ s mZ beZ meZ cZ A hE
  obtain ⟨hx, hb, hr, hml, hts, hown, hlocks, hin, hA, hP, hD, hK, hN⟩ := hE
  have hS : va_S A s.heap s.heap [] := va_S.rf
  have hl := lv_entry ([.ref mo, .int x]) (n := 7) (Nat.le_of_ble_eq_true rfl)
  rw [lg_entry_eq]
  generalize (lg_sl ([.ref mo, .int x]) ++ List.replicate (7 - (lg_sl ([.ref mo, .int x])).length) Slot.unset).toArray = ls at hl ⊢
  have hl : lv_has ls 7 [(0, .ref mo), (1, .int x)] := hl
  have fw1 := hts (.fieldLink RX11 7 "GleanDuskModel" "told" "[I") (List.mem_of_getElem? (i := 1) rfl)
  have iw11 : ∀ w ∈ wsX110, w ∈ wsX11_kindsOf := fun _ h => List.mem_cons_of_mem _ (List.mem_append_right _ h)
  refine lv_iconst (v := 0) hx hb dX11_kindsOf_0 (by decide) ?_
  refine lv_istore_n (lv' := [(2, .int 0), (0, .ref mo), (1, .int x)]) hx hb dX11_kindsOf_1 rfl hl (by decide) rfl (fun ls hl => ?_)
  refine lv_iconst (v := 0) hx hb dX11_kindsOf_2 (by decide) ?_
  refine lv_istore_n (lv' := [(3, .int 0), (2, .int 0), (0, .ref mo), (1, .int x)]) hx hb dX11_kindsOf_3 rfl hl (by decide) rfl (fun ls hl => ?_)
  have lp82 : ∀ (fuj91 j91 : Nat) (x42 : Int32) (H : Heap) (locs : List Loc) (ls : Array Slot), j91 ≤ 6 → 6 - j91 < fuj91 → va_P D vwCl [(mo, .inr (11, [.ref to, .ref ke, .ref ik, .ref mrf, .long mab, .long mbl, .ref ha, .ref r0, .ref mbr, .ref mbp, .ref mby, .int (nI bl), .int (nI ta), .int (nI tl), .int (nI tk), .int vv, .ref an, .ref va])), (to, .inl (y 0, 228, .inl ft))] H → va_D A [(mo, .inr (11, [.ref to, .ref ke, .ref ik, .ref mrf, .long mab, .long mbl, .ref ha, .ref r0, .ref mbr, .ref mbp, .ref mby, .int (nI bl), .int (nI ta), .int (nI tl), .int (nI tk), .int vv, .ref an, .ref va])), (to, .inl (y 0, 228, .inl ft))] → va_S A s.heap H locs → lv_has ls 7 [(3, .int (nI j91)), (2, .int x42), (0, .ref mo), (1, .int x)] → W pZ l eZ ({ frames := 4, cells := 0, slots := 0, locals := 129 }) s mZ [.ref mo, .int x].toArray beZ meZ cZ H locs 0 0 (MQ beZ (va_Qi (fun (r : Int32) (u : Unit) => True) (kw_B D (fun _ => [(mo, .inr (11, [.ref to, .ref ke, .ref ik, .ref mrf, .long mab, .long mbl, .ref ha, .ref r0, .ref mbr, .ref mbp, .ref mby, .int (nI bl), .int (nI ta), .int (nI tl), .int (nI tk), .int vv, .ref an, .ref va])), (to, .inl (y 0, 228, .inl ft))]) A) A) [.ref mo, .int x].toArray s 0 0 A) (F0 mZ 4 ls []) := by
    intro fuj91
    induction fuj91 with
    | zero => intro j91 x42 H locs ls hj9 hf9; exact absurd hf9 (Nat.not_lt_zero _)
    | succ fuj91 ihj91 =>
      intro j91 x42 H locs ls hj91 hfj91  hP hD hS hl
      refine lv_iload_n hx hb dX11_kindsOf_4 rfl (lv_at hl 0 rfl) ?_
      refine lv_bipush (v := 6) hx hb dX11_kindsOf_5 (by decide) ?_
      refine lv_icmp_ge (tgt := 129) hx hb dX11_kindsOf_7 (by decide) (fun h83 => ?_) (fun h84 => ?_)
      · skip
        have h83 : 6 ≤ j91 := (nI_leI (a := 6) (b := j91) (by omega) (by omega)).mp h83
        refine lv_iload_n hx hb dX11_kindsOf_129 rfl (lv_at hl 1 rfl) ?_
        exact W.iret (v := x42) hx hb hr (fun tZ ht hW => ⟨⟨x42, (), rfl, trivial, by rw [ht]; exact hP.sub [0, 1] rfl, hD.sub [0, 1] (by decide) rfl⟩, hS.F ht⟩) hS.2.2 dX11_kindsOf_130
      · skip
        have h84 : ¬ 6 ≤ j91 := fun q9 => h84 ((nI_leI (a := 6) (b := j91) (by omega) (by omega)).mpr q9)
        refine lv_iconst (v := 1) hx hb dX11_kindsOf_10 (by decide) ?_
        refine lv_istore (lv' := [(4, .int 1), (3, .int (nI j91)), (2, .int x42), (0, .ref mo), (1, .int x)]) hx hb dX11_kindsOf_11 hl (by decide) rfl (fun ls hl => ?_)
        refine lv_iconst (v := 0) hx hb dX11_kindsOf_13 (by decide) ?_
        refine lv_istore (lv' := [(5, .int 0), (4, .int 1), (3, .int (nI j91)), (2, .int x42), (0, .ref mo), (1, .int x)]) hx hb dX11_kindsOf_14 hl (by decide) rfl (fun ls hl => ?_)
        have lp108 : ∀ (fuj92 j92 : Nat) (x94 : Int32) (H : Heap) (locs : List Loc) (ls : Array Slot), j92 ≤ no → no - j92 < fuj92 → va_P D vwCl [(mo, .inr (11, [.ref to, .ref ke, .ref ik, .ref mrf, .long mab, .long mbl, .ref ha, .ref r0, .ref mbr, .ref mbp, .ref mby, .int (nI bl), .int (nI ta), .int (nI tl), .int (nI tk), .int vv, .ref an, .ref va])), (to, .inl (y 0, 228, .inl ft))] H → va_D A [(mo, .inr (11, [.ref to, .ref ke, .ref ik, .ref mrf, .long mab, .long mbl, .ref ha, .ref r0, .ref mbr, .ref mbp, .ref mby, .int (nI bl), .int (nI ta), .int (nI tl), .int (nI tk), .int vv, .ref an, .ref va])), (to, .inl (y 0, 228, .inl ft))] → va_S A s.heap H locs → lv_has ls 7 [(5, .int (nI j92)), (4, .int x94), (3, .int (nI j91)), (2, .int x42), (0, .ref mo), (1, .int x)] → W pZ l eZ ({ frames := 4, cells := 0, slots := 0, locals := 129 }) s mZ [.ref mo, .int x].toArray beZ meZ cZ H locs 0 0 (MQ beZ (va_Qi (fun (r : Int32) (u : Unit) => True) (kw_B D (fun _ => [(mo, .inr (11, [.ref to, .ref ke, .ref ik, .ref mrf, .long mab, .long mbl, .ref ha, .ref r0, .ref mbr, .ref mbp, .ref mby, .int (nI bl), .int (nI ta), .int (nI tl), .int (nI tk), .int vv, .ref an, .ref va])), (to, .inl (y 0, 228, .inl ft))]) A) A) [.ref mo, .int x].toArray s 0 0 A) (F0 mZ 16 ls []) := by
          intro fuj92
          induction fuj92 with
          | zero => intro j92 x94 H locs ls hj9 hf9; exact absurd hf9 (Nat.not_lt_zero _)
          | succ fuj92 ihj92 =>
            intro j92 x94 H locs ls hj92 hfj92  hP hD hS hl
            refine lv_iload hx hb dX11_kindsOf_16 (lv_at hl 0 rfl) ?_
            refine lv_aload_n hx hb dX11_kindsOf_18 rfl (lv_at hl 4 rfl) ?_
            refine va_get (D := D) (ci := 11) (v := .ref to) (C := RX11) (T := TX11) (N := 18) hx hb hts iw11 hown hK hP 0 rfl rfl 0 (by decide) fw1 (fun _ h9 => h9) rfl dX11_kindsOf_19 ?_
            refine lv_iconst (v := 3) hx hb dX11_kindsOf_22 (by decide) ?_
            refine va_iald hx hb hK hP 1 0 rfl rfl (by unfold vp_in; decide) dX11_kindsOf_23 ?_
            rw [show ((3 : Int32)).toNatClampNeg = 3 from rfl]
            rw [show (ft 3) = (nI no) from hk3_]
            refine lv_icmp_ge (tgt := 108) hx hb dX11_kindsOf_24 (by decide) (fun h109 => ?_) (fun h110 => ?_)
            · skip
              have h109 : no ≤ j92 := (nI_leI (a := no) (b := j92) (by omega) (by omega)).mp h109
              refine lv_iload_n hx hb dX11_kindsOf_108 rfl (lv_at hl 3 rfl) ?_
              refine lv_iload hx hb dX11_kindsOf_109 (lv_at hl 1 rfl) ?_
              refine lv_if_eq (tgt := 120) hx hb dX11_kindsOf_111 (by decide) (fun h111 => ?_) (fun h112 => ?_)
              · skip
                refine lv_iconst (v := 0) hx hb dX11_kindsOf_120 (by decide) ?_
                refine lv_ior hx hb dX11_kindsOf_121 ?_
                refine lv_istore_n (lv' := [(2, .int (x42 ||| 0)), (5, .int (nI j92)), (4, .int x94), (3, .int (nI j91)), (0, .ref mo), (1, .int x)]) hx hb dX11_kindsOf_122 rfl hl (by decide) rfl (fun ls hl => ?_)
                refine lv_iinc (v := (nI (j91 + 1))) (lv' := [(3, .int (nI (j91 + 1))), (2, .int (x42 ||| 0)), (5, .int (nI j92)), (4, .int x94), (0, .ref mo), (1, .int x)]) hx hb dX11_kindsOf_123 hl (k := 3) rfl (nI_1 j91) (by decide) rfl (fun ls hl => ?_)
                refine lv_goto (tgt := 4) hx hb dX11_kindsOf_126 (by decide) ?_
                exact ihj91 (j91 + 1) (x42 ||| 0) H locs ls (by omega) (by omega)  (hP.sub [0, 1] rfl) (hD.sub [0, 1] (by decide) rfl) hS (lv_sub hl [0, 1, 4, 5] rfl)
              · skip
                refine lv_iconst (v := 1) hx hb dX11_kindsOf_114 (by decide) ?_
                refine lv_iload_n hx hb dX11_kindsOf_115 rfl (lv_at hl 2 rfl) ?_
                refine lv_ishl hx hb dX11_kindsOf_116 ?_
                refine lv_goto (tgt := 121) hx hb dX11_kindsOf_117 (by decide) ?_
                refine lv_ior hx hb dX11_kindsOf_121 ?_
                refine lv_istore_n (lv' := [(2, .int (x42 ||| (1 <<< ((nI j91) &&& 31)))), (5, .int (nI j92)), (4, .int x94), (3, .int (nI j91)), (0, .ref mo), (1, .int x)]) hx hb dX11_kindsOf_122 rfl hl (by decide) rfl (fun ls hl => ?_)
                refine lv_iinc (v := (nI (j91 + 1))) (lv' := [(3, .int (nI (j91 + 1))), (2, .int (x42 ||| (1 <<< ((nI j91) &&& 31)))), (5, .int (nI j92)), (4, .int x94), (0, .ref mo), (1, .int x)]) hx hb dX11_kindsOf_123 hl (k := 3) rfl (nI_1 j91) (by decide) rfl (fun ls hl => ?_)
                refine lv_goto (tgt := 4) hx hb dX11_kindsOf_126 (by decide) ?_
                exact ihj91 (j91 + 1) (x42 ||| (1 <<< ((nI j91) &&& 31))) H locs ls (by omega) (by omega)  (hP.sub [0, 1] rfl) (hD.sub [0, 1] (by decide) rfl) hS (lv_sub hl [0, 1, 4, 5] rfl)
            · skip
              have h110 : ¬ no ≤ j92 := fun q9 => h110 ((nI_leI (a := no) (b := j92) (by omega) (by omega)).mpr q9)
              refine lv_bipush (v := 46) hx hb dX11_kindsOf_27 (by decide) ?_
              refine lv_iconst (v := 5) hx hb dX11_kindsOf_29 (by decide) ?_
              refine lv_iload hx hb dX11_kindsOf_30 (lv_at hl 0 rfl) ?_
              refine lv_imul hx hb dX11_kindsOf_32 ?_
              rw [show 5 * (nI j92) = nI (5 * j92) from pk_mul 5 j92]
              refine lv_iadd hx hb dX11_kindsOf_33 ?_
              rw [show 46 + (nI (5 * j92)) = nI (46 + (5 * j92)) from nI_add 46 (5 * j92)]
              refine lv_istore (lv' := [(6, .int (nI (46 + (5 * j92)))), (5, .int (nI j92)), (4, .int x94), (3, .int (nI j91)), (2, .int x42), (0, .ref mo), (1, .int x)]) hx hb dX11_kindsOf_34 hl (by decide) rfl (fun ls hl => ?_)
              refine lv_iload hx hb dX11_kindsOf_36 (lv_at hl 2 rfl) ?_
              refine lv_if_eq (tgt := 99) hx hb dX11_kindsOf_38 (by decide) (fun h113 => ?_) (fun h114 => ?_)
              · skip
                refine lv_iconst (v := 0) hx hb dX11_kindsOf_99 (by decide) ?_
                refine lv_istore (lv' := [(4, .int 0), (6, .int (nI (46 + (5 * j92)))), (5, .int (nI j92)), (3, .int (nI j91)), (2, .int x42), (0, .ref mo), (1, .int x)]) hx hb dX11_kindsOf_100 hl (by decide) rfl (fun ls hl => ?_)
                refine lv_iinc (v := (nI (j92 + 1))) (lv' := [(5, .int (nI (j92 + 1))), (4, .int 0), (6, .int (nI (46 + (5 * j92)))), (3, .int (nI j91)), (2, .int x42), (0, .ref mo), (1, .int x)]) hx hb dX11_kindsOf_102 hl (k := 2) rfl (nI_1 j92) (by decide) rfl (fun ls hl => ?_)
                refine lv_goto (tgt := 16) hx hb dX11_kindsOf_105 (by decide) ?_
                exact ihj92 (j92 + 1) 0 H locs ls (by omega) (by omega)  (hP.sub [0, 1] rfl) (hD.sub [0, 1] (by decide) rfl) hS (lv_sub hl [0, 1, 3, 4, 5, 6] rfl)
              · skip
                refine lv_aload_n hx hb dX11_kindsOf_41 rfl (lv_at hl 5 rfl) ?_
                refine va_get (D := D) (ci := 11) (v := .ref to) (C := RX11) (T := TX11) (N := 18) hx hb hts iw11 hown hK hP 0 rfl rfl 0 (by decide) fw1 (fun _ h9 => h9) rfl dX11_kindsOf_42 ?_
                refine lv_iload hx hb dX11_kindsOf_45 (lv_at hl 0 rfl) ?_
                refine va_iald hx hb hK hP 1 0 rfl rfl (vp_in_nI (by omega) (by decide)) dX11_kindsOf_47 ?_
                rw [nI_clamp (n := (46 + (5 * j92))) (by omega)]
                refine lv_iload_n hx hb dX11_kindsOf_48 rfl (lv_at hl 6 rfl) ?_
                refine lv_icmp_ne (tgt := 95) hx hb dX11_kindsOf_49 (by decide) (fun h115 => ?_) (fun h116 => ?_)
                · skip
                  refine lv_iconst (v := 1) hx hb dX11_kindsOf_95 (by decide) ?_
                  refine lv_goto (tgt := 100) hx hb dX11_kindsOf_96 (by decide) ?_
                  refine lv_istore (lv' := [(4, .int 1), (6, .int (nI (46 + (5 * j92)))), (5, .int (nI j92)), (3, .int (nI j91)), (2, .int x42), (0, .ref mo), (1, .int x)]) hx hb dX11_kindsOf_100 hl (by decide) rfl (fun ls hl => ?_)
                  refine lv_iinc (v := (nI (j92 + 1))) (lv' := [(5, .int (nI (j92 + 1))), (4, .int 1), (6, .int (nI (46 + (5 * j92)))), (3, .int (nI j91)), (2, .int x42), (0, .ref mo), (1, .int x)]) hx hb dX11_kindsOf_102 hl (k := 2) rfl (nI_1 j92) (by decide) rfl (fun ls hl => ?_)
                  refine lv_goto (tgt := 16) hx hb dX11_kindsOf_105 (by decide) ?_
                  exact ihj92 (j92 + 1) 1 H locs ls (by omega) (by omega)  (hP.sub [0, 1] rfl) (hD.sub [0, 1] (by decide) rfl) hS (lv_sub hl [0, 1, 3, 4, 5, 6] rfl)
                · skip
                  refine lv_iload_n hx hb dX11_kindsOf_52 rfl (lv_at hl 3 rfl) ?_
                  refine lv_aload_n hx hb dX11_kindsOf_53 rfl (lv_at hl 5 rfl) ?_
                  refine va_get (D := D) (ci := 11) (v := .ref to) (C := RX11) (T := TX11) (N := 18) hx hb hts iw11 hown hK hP 0 rfl rfl 0 (by decide) fw1 (fun _ h9 => h9) rfl dX11_kindsOf_54 ?_
                  refine lv_iload hx hb dX11_kindsOf_57 (lv_at hl 0 rfl) ?_
                  refine lv_iconst (v := 2) hx hb dX11_kindsOf_59 (by decide) ?_
                  refine lv_iadd hx hb dX11_kindsOf_60 ?_
                  rw [show (nI (46 + (5 * j92))) + 2 = nI ((46 + (5 * j92)) + 2) from nI_add (46 + (5 * j92)) 2]
                  refine va_iald hx hb hK hP 1 0 rfl rfl (vp_in_nI (by omega) (by decide)) dX11_kindsOf_61 ?_
                  rw [nI_clamp (n := ((46 + (5 * j92)) + 2)) (by omega)]
                  refine lv_aload_n hx hb dX11_kindsOf_62 rfl (lv_at hl 5 rfl) ?_
                  refine va_get (D := D) (ci := 11) (v := .ref to) (C := RX11) (T := TX11) (N := 18) hx hb hts iw11 hown hK hP 0 rfl rfl 0 (by decide) fw1 (fun _ h9 => h9) rfl dX11_kindsOf_63 ?_
                  refine lv_iload hx hb dX11_kindsOf_66 (lv_at hl 0 rfl) ?_
                  refine lv_iconst (v := 1) hx hb dX11_kindsOf_68 (by decide) ?_
                  refine lv_iadd hx hb dX11_kindsOf_69 ?_
                  rw [show (nI (46 + (5 * j92))) + 1 = nI ((46 + (5 * j92)) + 1) from nI_add (46 + (5 * j92)) 1]
                  refine va_iald hx hb hK hP 1 0 rfl rfl (vp_in_nI (by omega) (by decide)) dX11_kindsOf_70 ?_
                  rw [nI_clamp (n := ((46 + (5 * j92)) + 1)) (by omega)]
                  refine lv_aload_n hx hb dX11_kindsOf_71 rfl (lv_at hl 5 rfl) ?_
                  refine va_get (D := D) (ci := 11) (v := .ref to) (C := RX11) (T := TX11) (N := 18) hx hb hts iw11 hown hK hP 0 rfl rfl 0 (by decide) fw1 (fun _ h9 => h9) rfl dX11_kindsOf_72 ?_
                  refine lv_iload hx hb dX11_kindsOf_75 (lv_at hl 0 rfl) ?_
                  refine lv_iconst (v := 3) hx hb dX11_kindsOf_77 (by decide) ?_
                  refine lv_iadd hx hb dX11_kindsOf_78 ?_
                  rw [show (nI (46 + (5 * j92))) + 3 = nI ((46 + (5 * j92)) + 3) from nI_add (46 + (5 * j92)) 3]
                  refine va_iald hx hb hK hP 1 0 rfl rfl (vp_in_nI (by omega) (by decide)) dX11_kindsOf_79 ?_
                  rw [nI_clamp (n := ((46 + (5 * j92)) + 3)) (by omega)]
                  have hs117 : kw_Split [(mo, .inr (11, [.ref to, .ref ke, .ref ik, .ref mrf, .long mab, .long mbl, .ref ha, .ref r0, .ref mbr, .ref mbp, .ref mby, .int (nI bl), .int (nI ta), .int (nI tl), .int (nI tk), .int vv, .ref an, .ref va])), (to, .inl (y 0, 228, .inl ft))] [] [(mo, .inr (11, [.ref to, .ref ke, .ref ik, .ref mrf, .long mab, .long mbl, .ref ha, .ref r0, .ref mbr, .ref mbp, .ref mby, .int (nI bl), .int (nI ta), .int (nI tl), .int (nI tk), .int vv, .ref an, .ref va])), (to, .inl (y 0, 228, .inl ft))] [] [0, 1] := ⟨rfl, rfl, rfl, rfl, rfl, by decide⟩
                  refine kw_go_i hs117 hP hD hS hA (va_runS (As := [.int (nI j91), .int (ft ((46 + (5 * j92)) + 2)), .int (ft ((46 + (5 * j92)) + 1)), .int (ft ((46 + (5 * j92)) + 3))]) (rest := []) ⟨hx, hb, hml, hown, hts⟩ (gr_seenAs l D y (nI j91) (ft ((46 + (5 * j92)) + 2)) (ft ((46 + (5 * j92)) + 1)) (ft ((46 + (5 * j92)) + 3))  _) (va_cwS 4 hts gX11_kindsOf_X11_seenAs rfl rfl rfl (by decide +kernel) ⟨Nat.le_of_ble_eq_true rfl, Nat.le_of_ble_eq_true rfl⟩) (kw_PreS hs117 hP hD hK hN) rfl rfl hl.1 rfl (lv_room (Nat.le_of_ble_eq_true rfl)) dX11_kindsOf_80 ⟨Nat.le_of_ble_eq_true rfl, Nat.le_of_ble_eq_true rfl⟩) (fun r118 u119 H locs hq hP hD hS => ?_)
                  have hP : va_P D vwCl [(mo, .inr (11, [.ref to, .ref ke, .ref ik, .ref mrf, .long mab, .long mbl, .ref ha, .ref r0, .ref mbr, .ref mbp, .ref mby, .int (nI bl), .int (nI ta), .int (nI tl), .int (nI tk), .int vv, .ref an, .ref va])), (to, .inl (y 0, 228, .inl ft))] H := hP
                  have hD : va_D A [(mo, .inr (11, [.ref to, .ref ke, .ref ik, .ref mrf, .long mab, .long mbl, .ref ha, .ref r0, .ref mbr, .ref mbp, .ref mby, .int (nI bl), .int (nI ta), .int (nI tl), .int (nI tk), .int vv, .ref an, .ref va])), (to, .inl (y 0, 228, .inl ft))] := hD
                  refine lv_aload_n hx hb dX11_kindsOf_83 rfl (lv_at hl 5 rfl) ?_
                  refine va_get (D := D) (ci := 11) (v := .ref to) (C := RX11) (T := TX11) (N := 18) hx hb hts iw11 hown hK hP 0 rfl rfl 0 (by decide) fw1 (fun _ h9 => h9) rfl dX11_kindsOf_84 ?_
                  refine lv_iload hx hb dX11_kindsOf_87 (lv_at hl 0 rfl) ?_
                  refine lv_iconst (v := 4) hx hb dX11_kindsOf_89 (by decide) ?_
                  refine lv_iadd hx hb dX11_kindsOf_90 ?_
                  rw [show (nI (46 + (5 * j92))) + 4 = nI ((46 + (5 * j92)) + 4) from nI_add (46 + (5 * j92)) 4]
                  refine va_iald hx hb hK hP 1 0 rfl rfl (vp_in_nI (by omega) (by decide)) dX11_kindsOf_91 ?_
                  rw [nI_clamp (n := ((46 + (5 * j92)) + 4)) (by omega)]
                  refine lv_icmp_ne (tgt := 99) hx hb dX11_kindsOf_92 (by decide) (fun h120 => ?_) (fun h121 => ?_)
                  · skip
                    refine lv_iconst (v := 0) hx hb dX11_kindsOf_99 (by decide) ?_
                    refine lv_istore (lv' := [(4, .int 0), (6, .int (nI (46 + (5 * j92)))), (5, .int (nI j92)), (3, .int (nI j91)), (2, .int x42), (0, .ref mo), (1, .int x)]) hx hb dX11_kindsOf_100 hl (by decide) rfl (fun ls hl => ?_)
                    refine lv_iinc (v := (nI (j92 + 1))) (lv' := [(5, .int (nI (j92 + 1))), (4, .int 0), (6, .int (nI (46 + (5 * j92)))), (3, .int (nI j91)), (2, .int x42), (0, .ref mo), (1, .int x)]) hx hb dX11_kindsOf_102 hl (k := 2) rfl (nI_1 j92) (by decide) rfl (fun ls hl => ?_)
                    refine lv_goto (tgt := 16) hx hb dX11_kindsOf_105 (by decide) ?_
                    exact ihj92 (j92 + 1) 0 H locs ls (by omega) (by omega)  (hP.sub [0, 1] rfl) (hD.sub [0, 1] (by decide) rfl) hS (lv_sub hl [0, 1, 3, 4, 5, 6] rfl)
                  · skip
                    refine lv_iconst (v := 1) hx hb dX11_kindsOf_95 (by decide) ?_
                    refine lv_goto (tgt := 100) hx hb dX11_kindsOf_96 (by decide) ?_
                    refine lv_istore (lv' := [(4, .int 1), (6, .int (nI (46 + (5 * j92)))), (5, .int (nI j92)), (3, .int (nI j91)), (2, .int x42), (0, .ref mo), (1, .int x)]) hx hb dX11_kindsOf_100 hl (by decide) rfl (fun ls hl => ?_)
                    refine lv_iinc (v := (nI (j92 + 1))) (lv' := [(5, .int (nI (j92 + 1))), (4, .int 1), (6, .int (nI (46 + (5 * j92)))), (3, .int (nI j91)), (2, .int x42), (0, .ref mo), (1, .int x)]) hx hb dX11_kindsOf_102 hl (k := 2) rfl (nI_1 j92) (by decide) rfl (fun ls hl => ?_)
                    refine lv_goto (tgt := 16) hx hb dX11_kindsOf_105 (by decide) ?_
                    exact ihj92 (j92 + 1) 1 H locs ls (by omega) (by omega)  (hP.sub [0, 1] rfl) (hD.sub [0, 1] (by decide) rfl) hS (lv_sub hl [0, 1, 3, 4, 5, 6] rfl)
        exact lp108 (no + 1) 0 1 _ _ _ (by omega) (by omega)  hP hD hS (lv_sub hl [0, 1, 2, 3, 4, 5] rfl)
  exact lp82 (6 + 1) 0 0 _ _ _ (by omega) (by omega)  hP hD hS (lv_sub hl [0, 1, 2, 3] rfl)
