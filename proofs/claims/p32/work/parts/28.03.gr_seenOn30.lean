set_option maxHeartbeats 4000000 in
set_option maxRecDepth 100000 in
theorem gr_seenOn30 (l : Launch) (D : va_G) (y : Nat → ClassId) (to : Nat) (ft : Nat → Int32) (fi : Nat) (gl : Nat) (k : Nat) (t : Int32) (hk0_ : ft 0 = (nI fi)) (hk1_ : ft 1 = (nI gl)) (hkt : kr_t 30 ft) (hfi : fi ≤ 6) (hgl : gl ≤ 5) (hA1 : k < 6) : kw_Mi l yX11_seenOn wsX11_seenOn ({ frames := 4, cells := 0, slots := 0, locals := 129 }) D y [.ref to, .int (nI k), .int t] [(to, .inl (y 0, 30, .inl ft))] (fun (r : Int32) (u : Unit) => True) (fun _ => [(to, .inl (y 0, 30, .inl ft))]) 0 0 := by
  refine kw_Mi.of (cc := cX11_seenOn) (maxL := 3) (ret := (some .int)) (by decide) rfl ?_
  intro pZ eZ s mZ beZ meZ cZ A hE
  obtain ⟨hx, hb, hr, hml, hts, hown, hlocks, hin, hA, hP, hD, hK, hN⟩ := hE
  have hS : va_S A s.heap s.heap [] := va_S.rf
  have hl := lv_entry ([.ref to, .int (nI k), .int t]) (n := 3) (Nat.le_of_ble_eq_true rfl)
  rw [lg_entry_eq]
  generalize (lg_sl ([.ref to, .int (nI k), .int t]) ++ List.replicate (3 - (lg_sl ([.ref to, .int (nI k), .int t])).length) Slot.unset).toArray = ls at hl ⊢
  have hl : lv_has ls 3 [(0, .ref to), (1, .int (nI k)), (2, .int t)] := hl
  refine lv_iload_n hx hb dX11_seenOn_0 rfl (lv_at hl 2 rfl) ?_
  refine lv_bipush (v := 12) hx hb dX11_seenOn_1 (by decide) ?_
  refine lv_icmp_lt (tgt := 10) hx hb dX11_seenOn_3 (by decide) (fun h1 => ?_) (fun h2 => ?_)
  · skip
    refine lv_aload_n hx hb dX11_seenOn_10 rfl (lv_at hl 0 rfl) ?_
    refine lv_bipush (v := 24) hx hb dX11_seenOn_11 (by decide) ?_
    refine lv_iload_n hx hb dX11_seenOn_13 rfl (lv_at hl 1 rfl) ?_
    refine lv_iadd hx hb dX11_seenOn_14 ?_
    rw [show 24 + (nI k) = nI (k + 24) from (nI_add 24 k).trans (congrArg nI (by omega))]
    refine va_iald hx hb hK hP 0 0 rfl rfl (vp_in_nI (by omega) (by decide)) dX11_seenOn_15 ?_
    rw [nI_clamp (n := (k + 24)) (by omega)]
    refine lv_aload_n hx hb dX11_seenOn_16 rfl (lv_at hl 0 rfl) ?_
    refine lv_iconst (v := 5) hx hb dX11_seenOn_17 (by decide) ?_
    refine lv_iload_n hx hb dX11_seenOn_18 rfl (lv_at hl 1 rfl) ?_
    refine lv_iadd hx hb dX11_seenOn_19 ?_
    rw [show 5 + (nI k) = nI (k + 5) from (nI_add 5 k).trans (congrArg nI (by omega))]
    refine va_iald hx hb hK hP 0 0 rfl rfl (vp_in_nI (by omega) (by decide)) dX11_seenOn_20 ?_
    rw [nI_clamp (n := (k + 5)) (by omega)]
    refine lv_iload_n hx hb dX11_seenOn_21 rfl (lv_at hl 2 rfl) ?_
    refine lv_aload_n hx hb dX11_seenOn_22 rfl (lv_at hl 0 rfl) ?_
    refine lv_bipush (v := 22) hx hb dX11_seenOn_23 (by decide) ?_
    refine va_iald hx hb hK hP 0 0 rfl rfl (by unfold vp_in; decide) dX11_seenOn_25 ?_
    rw [show ((22 : Int32)).toNatClampNeg = 22 from rfl]
    have hs3 : kw_Split [(to, .inl (y 0, 30, .inl ft))] [] [(to, .inl (y 0, 30, .inl ft))] [] [0] := ⟨rfl, rfl, rfl, rfl, rfl, by decide⟩
    refine kw_go_i hs3 hP hD hS hA (va_runS (As := [.int (ft (k + 24)), .int (ft (k + 5)), .int t, .int (ft 22)]) (rest := []) ⟨hx, hb, hml, hown, hts⟩ (gr_seenAs l D y (ft (k + 24)) (ft (k + 5)) t (ft 22)  _) (va_cwS 4 hts gX11_seenOn_X11_seenAs rfl rfl rfl (by decide +kernel) ⟨Nat.le_of_ble_eq_true rfl, Nat.le_of_ble_eq_true rfl⟩) (kw_PreS hs3 hP hD hK hN) rfl rfl hl.1 rfl (lv_room (Nat.le_of_ble_eq_true rfl)) dX11_seenOn_26 ⟨Nat.le_of_ble_eq_true rfl, Nat.le_of_ble_eq_true rfl⟩) (fun r4 u5 H locs hq hP hD hS => ?_)
    have hP : va_P D vwCl [(to, .inl (y 0, 30, .inl ft))] H := hP
    have hD : va_D A [(to, .inl (y 0, 30, .inl ft))] := hD
    exact W.iret (v := r4) hx hb hr (fun tZ ht hW => ⟨⟨r4, (), rfl, trivial, by rw [ht]; exact hP.sub [0] rfl, hD.sub [0] (by decide) rfl⟩, hS.F ht⟩) hS.2.2 dX11_seenOn_29
  · skip
    refine lv_iconst (v := 0) hx hb dX11_seenOn_6 (by decide) ?_
    refine lv_goto (tgt := 29) hx hb dX11_seenOn_7 (by decide) ?_
    exact W.iret (v := 0) hx hb hr (fun tZ ht hW => ⟨⟨0, (), rfl, trivial, by rw [ht]; exact hP.sub [0] rfl, hD.sub [0] (by decide) rfl⟩, hS.F ht⟩) hS.2.2 dX11_seenOn_29

set_option maxHeartbeats 4000000 in
set_option maxRecDepth 100000 in
theorem gr_manyOn30 (l : Launch) (D : va_G) (y : Nat → ClassId) (to : Nat) (ft : Nat → Int32) (fi : Nat) (gl : Nat) (x : Int32) (hk0_ : ft 0 = (nI fi)) (hk1_ : ft 1 = (nI gl)) (hkt : kr_t 30 ft) (hfi : fi ≤ 6) (hgl : gl ≤ 5) : kw_Mi l yX11_manyOn wsX11_manyOn ({ frames := 1, cells := 0, slots := 0, locals := 60 }) D y [.ref to, .int x] [(to, .inl (y 0, 30, .inl ft))] (fun (r : Int32) (u : Unit) => True) (fun _ => [(to, .inl (y 0, 30, .inl ft))]) 0 0 := by
  refine kw_Mi.of (cc := cX11_manyOn) (maxL := 4) (ret := (some .int)) (by decide) rfl ?_
  intro pZ eZ s mZ beZ meZ cZ A hE
  obtain ⟨hx, hb, hr, hml, hts, hown, hlocks, hin, hA, hP, hD, hK, hN⟩ := hE
  have hS : va_S A s.heap s.heap [] := va_S.rf
  have hl := lv_entry ([.ref to, .int x]) (n := 4) (Nat.le_of_ble_eq_true rfl)
  rw [lg_entry_eq]
  generalize (lg_sl ([.ref to, .int x]) ++ List.replicate (4 - (lg_sl ([.ref to, .int x])).length) Slot.unset).toArray = ls at hl ⊢
  have hl : lv_has ls 4 [(0, .ref to), (1, .int x)] := hl
  refine lv_iconst (v := 0) hx hb dX11_manyOn_0 (by decide) ?_
  refine lv_istore_n (lv' := [(2, .int 0), (0, .ref to), (1, .int x)]) hx hb dX11_manyOn_1 rfl hl (by decide) rfl (fun ls hl => ?_)
  refine lv_iconst (v := 0) hx hb dX11_manyOn_2 (by decide) ?_
  refine lv_istore_n (lv' := [(3, .int 0), (2, .int 0), (0, .ref to), (1, .int x)]) hx hb dX11_manyOn_3 rfl hl (by decide) rfl (fun ls hl => ?_)
  have lp18 : ∀ (fuj91 j91 : Nat) (x10 : Int32) (H : Heap) (locs : List Loc) (ls : Array Slot), j91 ≤ gl → gl - j91 < fuj91 → va_P D vwCl [(to, .inl (y 0, 30, .inl ft))] H → va_D A [(to, .inl (y 0, 30, .inl ft))] → va_S A s.heap H locs → lv_has ls 4 [(3, .int (nI j91)), (2, .int x10), (0, .ref to), (1, .int x)] → W pZ l eZ ({ frames := 1, cells := 0, slots := 0, locals := 60 }) s mZ [.ref to, .int x].toArray beZ meZ cZ H locs 0 0 (MQ beZ (va_Qi (fun (r : Int32) (u : Unit) => True) (kw_B D (fun _ => [(to, .inl (y 0, 30, .inl ft))]) A) A) [.ref to, .int x].toArray s 0 0 A) (F0 mZ 4 ls []) := by
    intro fuj91
    induction fuj91 with
    | zero => intro j91 x10 H locs ls hj9 hf9; exact absurd hf9 (Nat.not_lt_zero _)
    | succ fuj91 ihj91 =>
      intro j91 x10 H locs ls hj91 hfj91  hP hD hS hl
      refine lv_iload_n hx hb dX11_manyOn_4 rfl (lv_at hl 0 rfl) ?_
      refine lv_aload_n hx hb dX11_manyOn_5 rfl (lv_at hl 2 rfl) ?_
      refine lv_iconst (v := 1) hx hb dX11_manyOn_6 (by decide) ?_
      refine va_iald hx hb hK hP 0 0 rfl rfl (by unfold vp_in; decide) dX11_manyOn_7 ?_
      rw [show ((1 : Int32)).toNatClampNeg = 1 from rfl]
      rw [show (ft 1) = (nI gl) from hk1_]
      refine lv_icmp_ge (tgt := 35) hx hb dX11_manyOn_8 (by decide) (fun h19 => ?_) (fun h20 => ?_)
      · skip
        have h19 : gl ≤ j91 := (nI_leI (a := gl) (b := j91) (by omega) (by omega)).mp h19
        refine lv_iload_n hx hb dX11_manyOn_35 rfl (lv_at hl 1 rfl) ?_
        exact W.iret (v := x10) hx hb hr (fun tZ ht hW => ⟨⟨x10, (), rfl, trivial, by rw [ht]; exact hP.sub [0] rfl, hD.sub [0] (by decide) rfl⟩, hS.F ht⟩) hS.2.2 dX11_manyOn_36
      · skip
        have h20 : ¬ gl ≤ j91 := fun q9 => h20 ((nI_leI (a := gl) (b := j91) (by omega) (by omega)).mpr q9)
        refine lv_iload_n hx hb dX11_manyOn_11 rfl (lv_at hl 1 rfl) ?_
        refine lv_aload_n hx hb dX11_manyOn_12 rfl (lv_at hl 2 rfl) ?_
        refine lv_bipush (v := 11) hx hb dX11_manyOn_13 (by decide) ?_
        refine lv_iload_n hx hb dX11_manyOn_15 rfl (lv_at hl 0 rfl) ?_
        refine lv_iadd hx hb dX11_manyOn_16 ?_
        rw [show 11 + (nI j91) = nI (j91 + 11) from (nI_add 11 j91).trans (congrArg nI (by omega))]
        refine va_iald hx hb hK hP 0 0 rfl rfl (vp_in_nI (by omega) (by decide)) dX11_manyOn_17 ?_
        rw [nI_clamp (n := (j91 + 11)) (by omega)]
        obtain ⟨w21, h22, h23⟩ := kr_at hkt (p := (j91 + 11)) (by omega) (by unfold kr_a; omega)
        rw [h23]
        refine lv_iload_n hx hb dX11_manyOn_18 rfl (lv_at hl 3 rfl) ?_
        refine lv_icmp_ne (tgt := 26) hx hb dX11_manyOn_19 (by decide) (fun h24 => ?_) (fun h25 => ?_)
        · skip
          refine lv_iconst (v := 0) hx hb dX11_manyOn_26 (by decide) ?_
          refine lv_iadd hx hb dX11_manyOn_27 ?_
          refine lv_istore_n (lv' := [(2, .int (x10 + 0)), (3, .int (nI j91)), (0, .ref to), (1, .int x)]) hx hb dX11_manyOn_28 rfl hl (by decide) rfl (fun ls hl => ?_)
          refine lv_iinc (v := (nI (j91 + 1))) (lv' := [(3, .int (nI (j91 + 1))), (2, .int (x10 + 0)), (0, .ref to), (1, .int x)]) hx hb dX11_manyOn_29 hl (k := 1) rfl (nI_1 j91) (by decide) rfl (fun ls hl => ?_)
          refine lv_goto (tgt := 4) hx hb dX11_manyOn_32 (by decide) ?_
          exact ihj91 (j91 + 1) (x10 + 0) H locs ls (by omega) (by omega)  (hP.sub [0] rfl) (hD.sub [0] (by decide) rfl) hS (lv_sub hl [0, 1, 2, 3] rfl)
        · skip
          refine lv_iconst (v := 1) hx hb dX11_manyOn_22 (by decide) ?_
          refine lv_goto (tgt := 27) hx hb dX11_manyOn_23 (by decide) ?_
          refine lv_iadd hx hb dX11_manyOn_27 ?_
          refine lv_istore_n (lv' := [(2, .int (x10 + 1)), (3, .int (nI j91)), (0, .ref to), (1, .int x)]) hx hb dX11_manyOn_28 rfl hl (by decide) rfl (fun ls hl => ?_)
          refine lv_iinc (v := (nI (j91 + 1))) (lv' := [(3, .int (nI (j91 + 1))), (2, .int (x10 + 1)), (0, .ref to), (1, .int x)]) hx hb dX11_manyOn_29 hl (k := 1) rfl (nI_1 j91) (by decide) rfl (fun ls hl => ?_)
          refine lv_goto (tgt := 4) hx hb dX11_manyOn_32 (by decide) ?_
          exact ihj91 (j91 + 1) (x10 + 1) H locs ls (by omega) (by omega)  (hP.sub [0] rfl) (hD.sub [0] (by decide) rfl) hS (lv_sub hl [0, 1, 2, 3] rfl)
  exact lp18 (gl + 1) 0 0 _ _ _ (by omega) (by omega)  hP hD hS (lv_sub hl [0, 1, 2, 3] rfl)

set_option maxHeartbeats 4000000 in
set_option maxRecDepth 100000 in
theorem gr_seenOn76 (l : Launch) (D : va_G) (y : Nat → ClassId) (to : Nat) (ft : Nat → Int32) (fi : Nat) (gl : Nat) (mi : Nat) (no : Nat) (un : Nat) (k : Nat) (t : Int32) (hk0_ : ft 0 = (nI fi)) (hk1_ : ft 1 = (nI gl)) (hk2_ : ft 2 = (nI mi)) (hk3_ : ft 3 = (nI no)) (hk4_ : ft 4 = (nI un)) (hkt : kr_t 76 ft) (hfi : fi ≤ 6) (hgl : gl ≤ 5) (hmi : mi ≤ 4) (hno : no ≤ 6) (hun : un ≤ 8) (hA1 : k < 6) : kw_Mi l yX11_seenOn wsX11_seenOn ({ frames := 4, cells := 0, slots := 0, locals := 129 }) D y [.ref to, .int (nI k), .int t] [(to, .inl (y 0, 76, .inl ft))] (fun (r : Int32) (u : Unit) => True) (fun _ => [(to, .inl (y 0, 76, .inl ft))]) 0 0 := by
  refine kw_Mi.of (cc := cX11_seenOn) (maxL := 3) (ret := (some .int)) (by decide) rfl ?_
  intro pZ eZ s mZ beZ meZ cZ A hE
  obtain ⟨hx, hb, hr, hml, hts, hown, hlocks, hin, hA, hP, hD, hK, hN⟩ := hE
  have hS : va_S A s.heap s.heap [] := va_S.rf
  have hl := lv_entry ([.ref to, .int (nI k), .int t]) (n := 3) (Nat.le_of_ble_eq_true rfl)
  rw [lg_entry_eq]
  generalize (lg_sl ([.ref to, .int (nI k), .int t]) ++ List.replicate (3 - (lg_sl ([.ref to, .int (nI k), .int t])).length) Slot.unset).toArray = ls at hl ⊢
  have hl : lv_has ls 3 [(0, .ref to), (1, .int (nI k)), (2, .int t)] := hl
  refine lv_iload_n hx hb dX11_seenOn_0 rfl (lv_at hl 2 rfl) ?_
  refine lv_bipush (v := 12) hx hb dX11_seenOn_1 (by decide) ?_
  refine lv_icmp_lt (tgt := 10) hx hb dX11_seenOn_3 (by decide) (fun h1 => ?_) (fun h2 => ?_)
  · skip
    refine lv_aload_n hx hb dX11_seenOn_10 rfl (lv_at hl 0 rfl) ?_
    refine lv_bipush (v := 24) hx hb dX11_seenOn_11 (by decide) ?_
    refine lv_iload_n hx hb dX11_seenOn_13 rfl (lv_at hl 1 rfl) ?_
    refine lv_iadd hx hb dX11_seenOn_14 ?_
    rw [show 24 + (nI k) = nI (k + 24) from (nI_add 24 k).trans (congrArg nI (by omega))]
    refine va_iald hx hb hK hP 0 0 rfl rfl (vp_in_nI (by omega) (by decide)) dX11_seenOn_15 ?_
    rw [nI_clamp (n := (k + 24)) (by omega)]
    refine lv_aload_n hx hb dX11_seenOn_16 rfl (lv_at hl 0 rfl) ?_
    refine lv_iconst (v := 5) hx hb dX11_seenOn_17 (by decide) ?_
    refine lv_iload_n hx hb dX11_seenOn_18 rfl (lv_at hl 1 rfl) ?_
    refine lv_iadd hx hb dX11_seenOn_19 ?_
    rw [show 5 + (nI k) = nI (k + 5) from (nI_add 5 k).trans (congrArg nI (by omega))]
    refine va_iald hx hb hK hP 0 0 rfl rfl (vp_in_nI (by omega) (by decide)) dX11_seenOn_20 ?_
    rw [nI_clamp (n := (k + 5)) (by omega)]
    refine lv_iload_n hx hb dX11_seenOn_21 rfl (lv_at hl 2 rfl) ?_
    refine lv_aload_n hx hb dX11_seenOn_22 rfl (lv_at hl 0 rfl) ?_
    refine lv_bipush (v := 22) hx hb dX11_seenOn_23 (by decide) ?_
    refine va_iald hx hb hK hP 0 0 rfl rfl (by unfold vp_in; decide) dX11_seenOn_25 ?_
    rw [show ((22 : Int32)).toNatClampNeg = 22 from rfl]
    have hs3 : kw_Split [(to, .inl (y 0, 76, .inl ft))] [] [(to, .inl (y 0, 76, .inl ft))] [] [0] := ⟨rfl, rfl, rfl, rfl, rfl, by decide⟩
    refine kw_go_i hs3 hP hD hS hA (va_runS (As := [.int (ft (k + 24)), .int (ft (k + 5)), .int t, .int (ft 22)]) (rest := []) ⟨hx, hb, hml, hown, hts⟩ (gr_seenAs l D y (ft (k + 24)) (ft (k + 5)) t (ft 22)  _) (va_cwS 4 hts gX11_seenOn_X11_seenAs rfl rfl rfl (by decide +kernel) ⟨Nat.le_of_ble_eq_true rfl, Nat.le_of_ble_eq_true rfl⟩) (kw_PreS hs3 hP hD hK hN) rfl rfl hl.1 rfl (lv_room (Nat.le_of_ble_eq_true rfl)) dX11_seenOn_26 ⟨Nat.le_of_ble_eq_true rfl, Nat.le_of_ble_eq_true rfl⟩) (fun r4 u5 H locs hq hP hD hS => ?_)
    have hP : va_P D vwCl [(to, .inl (y 0, 76, .inl ft))] H := hP
    have hD : va_D A [(to, .inl (y 0, 76, .inl ft))] := hD
    exact W.iret (v := r4) hx hb hr (fun tZ ht hW => ⟨⟨r4, (), rfl, trivial, by rw [ht]; exact hP.sub [0] rfl, hD.sub [0] (by decide) rfl⟩, hS.F ht⟩) hS.2.2 dX11_seenOn_29
  · skip
    refine lv_iconst (v := 0) hx hb dX11_seenOn_6 (by decide) ?_
    refine lv_goto (tgt := 29) hx hb dX11_seenOn_7 (by decide) ?_
    exact W.iret (v := 0) hx hb hr (fun tZ ht hW => ⟨⟨0, (), rfl, trivial, by rw [ht]; exact hP.sub [0] rfl, hD.sub [0] (by decide) rfl⟩, hS.F ht⟩) hS.2.2 dX11_seenOn_29

set_option maxHeartbeats 4000000 in
set_option maxRecDepth 100000 in
theorem gr_manyOn76 (l : Launch) (D : va_G) (y : Nat → ClassId) (to : Nat) (ft : Nat → Int32) (fi : Nat) (gl : Nat) (mi : Nat) (no : Nat) (un : Nat) (x : Int32) (hk0_ : ft 0 = (nI fi)) (hk1_ : ft 1 = (nI gl)) (hk2_ : ft 2 = (nI mi)) (hk3_ : ft 3 = (nI no)) (hk4_ : ft 4 = (nI un)) (hkt : kr_t 76 ft) (hfi : fi ≤ 6) (hgl : gl ≤ 5) (hmi : mi ≤ 4) (hno : no ≤ 6) (hun : un ≤ 8) : kw_Mi l yX11_manyOn wsX11_manyOn ({ frames := 1, cells := 0, slots := 0, locals := 60 }) D y [.ref to, .int x] [(to, .inl (y 0, 76, .inl ft))] (fun (r : Int32) (u : Unit) => True) (fun _ => [(to, .inl (y 0, 76, .inl ft))]) 0 0 := by
  refine kw_Mi.of (cc := cX11_manyOn) (maxL := 4) (ret := (some .int)) (by decide) rfl ?_
  intro pZ eZ s mZ beZ meZ cZ A hE
  obtain ⟨hx, hb, hr, hml, hts, hown, hlocks, hin, hA, hP, hD, hK, hN⟩ := hE
  have hS : va_S A s.heap s.heap [] := va_S.rf
  have hl := lv_entry ([.ref to, .int x]) (n := 4) (Nat.le_of_ble_eq_true rfl)
  rw [lg_entry_eq]
  generalize (lg_sl ([.ref to, .int x]) ++ List.replicate (4 - (lg_sl ([.ref to, .int x])).length) Slot.unset).toArray = ls at hl ⊢
  have hl : lv_has ls 4 [(0, .ref to), (1, .int x)] := hl
  refine lv_iconst (v := 0) hx hb dX11_manyOn_0 (by decide) ?_
  refine lv_istore_n (lv' := [(2, .int 0), (0, .ref to), (1, .int x)]) hx hb dX11_manyOn_1 rfl hl (by decide) rfl (fun ls hl => ?_)
  refine lv_iconst (v := 0) hx hb dX11_manyOn_2 (by decide) ?_
  refine lv_istore_n (lv' := [(3, .int 0), (2, .int 0), (0, .ref to), (1, .int x)]) hx hb dX11_manyOn_3 rfl hl (by decide) rfl (fun ls hl => ?_)
  have lp18 : ∀ (fuj91 j91 : Nat) (x10 : Int32) (H : Heap) (locs : List Loc) (ls : Array Slot), j91 ≤ gl → gl - j91 < fuj91 → va_P D vwCl [(to, .inl (y 0, 76, .inl ft))] H → va_D A [(to, .inl (y 0, 76, .inl ft))] → va_S A s.heap H locs → lv_has ls 4 [(3, .int (nI j91)), (2, .int x10), (0, .ref to), (1, .int x)] → W pZ l eZ ({ frames := 1, cells := 0, slots := 0, locals := 60 }) s mZ [.ref to, .int x].toArray beZ meZ cZ H locs 0 0 (MQ beZ (va_Qi (fun (r : Int32) (u : Unit) => True) (kw_B D (fun _ => [(to, .inl (y 0, 76, .inl ft))]) A) A) [.ref to, .int x].toArray s 0 0 A) (F0 mZ 4 ls []) := by
    intro fuj91
    induction fuj91 with
    | zero => intro j91 x10 H locs ls hj9 hf9; exact absurd hf9 (Nat.not_lt_zero _)
    | succ fuj91 ihj91 =>
      intro j91 x10 H locs ls hj91 hfj91  hP hD hS hl
      refine lv_iload_n hx hb dX11_manyOn_4 rfl (lv_at hl 0 rfl) ?_
      refine lv_aload_n hx hb dX11_manyOn_5 rfl (lv_at hl 2 rfl) ?_
      refine lv_iconst (v := 1) hx hb dX11_manyOn_6 (by decide) ?_
      refine va_iald hx hb hK hP 0 0 rfl rfl (by unfold vp_in; decide) dX11_manyOn_7 ?_
      rw [show ((1 : Int32)).toNatClampNeg = 1 from rfl]
      rw [show (ft 1) = (nI gl) from hk1_]
      refine lv_icmp_ge (tgt := 35) hx hb dX11_manyOn_8 (by decide) (fun h19 => ?_) (fun h20 => ?_)
      · skip
        have h19 : gl ≤ j91 := (nI_leI (a := gl) (b := j91) (by omega) (by omega)).mp h19
        refine lv_iload_n hx hb dX11_manyOn_35 rfl (lv_at hl 1 rfl) ?_
        exact W.iret (v := x10) hx hb hr (fun tZ ht hW => ⟨⟨x10, (), rfl, trivial, by rw [ht]; exact hP.sub [0] rfl, hD.sub [0] (by decide) rfl⟩, hS.F ht⟩) hS.2.2 dX11_manyOn_36
      · skip
        have h20 : ¬ gl ≤ j91 := fun q9 => h20 ((nI_leI (a := gl) (b := j91) (by omega) (by omega)).mpr q9)
        refine lv_iload_n hx hb dX11_manyOn_11 rfl (lv_at hl 1 rfl) ?_
        refine lv_aload_n hx hb dX11_manyOn_12 rfl (lv_at hl 2 rfl) ?_
        refine lv_bipush (v := 11) hx hb dX11_manyOn_13 (by decide) ?_
        refine lv_iload_n hx hb dX11_manyOn_15 rfl (lv_at hl 0 rfl) ?_
        refine lv_iadd hx hb dX11_manyOn_16 ?_
        rw [show 11 + (nI j91) = nI (j91 + 11) from (nI_add 11 j91).trans (congrArg nI (by omega))]
        refine va_iald hx hb hK hP 0 0 rfl rfl (vp_in_nI (by omega) (by decide)) dX11_manyOn_17 ?_
        rw [nI_clamp (n := (j91 + 11)) (by omega)]
        obtain ⟨w21, h22, h23⟩ := kr_at hkt (p := (j91 + 11)) (by omega) (by unfold kr_a; omega)
        rw [h23]
        refine lv_iload_n hx hb dX11_manyOn_18 rfl (lv_at hl 3 rfl) ?_
        refine lv_icmp_ne (tgt := 26) hx hb dX11_manyOn_19 (by decide) (fun h24 => ?_) (fun h25 => ?_)
        · skip
          refine lv_iconst (v := 0) hx hb dX11_manyOn_26 (by decide) ?_
          refine lv_iadd hx hb dX11_manyOn_27 ?_
          refine lv_istore_n (lv' := [(2, .int (x10 + 0)), (3, .int (nI j91)), (0, .ref to), (1, .int x)]) hx hb dX11_manyOn_28 rfl hl (by decide) rfl (fun ls hl => ?_)
          refine lv_iinc (v := (nI (j91 + 1))) (lv' := [(3, .int (nI (j91 + 1))), (2, .int (x10 + 0)), (0, .ref to), (1, .int x)]) hx hb dX11_manyOn_29 hl (k := 1) rfl (nI_1 j91) (by decide) rfl (fun ls hl => ?_)
          refine lv_goto (tgt := 4) hx hb dX11_manyOn_32 (by decide) ?_
          exact ihj91 (j91 + 1) (x10 + 0) H locs ls (by omega) (by omega)  (hP.sub [0] rfl) (hD.sub [0] (by decide) rfl) hS (lv_sub hl [0, 1, 2, 3] rfl)
        · skip
          refine lv_iconst (v := 1) hx hb dX11_manyOn_22 (by decide) ?_
          refine lv_goto (tgt := 27) hx hb dX11_manyOn_23 (by decide) ?_
          refine lv_iadd hx hb dX11_manyOn_27 ?_
          refine lv_istore_n (lv' := [(2, .int (x10 + 1)), (3, .int (nI j91)), (0, .ref to), (1, .int x)]) hx hb dX11_manyOn_28 rfl hl (by decide) rfl (fun ls hl => ?_)
          refine lv_iinc (v := (nI (j91 + 1))) (lv' := [(3, .int (nI (j91 + 1))), (2, .int (x10 + 1)), (0, .ref to), (1, .int x)]) hx hb dX11_manyOn_29 hl (k := 1) rfl (nI_1 j91) (by decide) rfl (fun ls hl => ?_)
          refine lv_goto (tgt := 4) hx hb dX11_manyOn_32 (by decide) ?_
          exact ihj91 (j91 + 1) (x10 + 1) H locs ls (by omega) (by omega)  (hP.sub [0] rfl) (hD.sub [0] (by decide) rfl) hS (lv_sub hl [0, 1, 2, 3] rfl)
  exact lp18 (gl + 1) 0 0 _ _ _ (by omega) (by omega)  hP hD hS (lv_sub hl [0, 1, 2, 3] rfl)

set_option maxHeartbeats 4000000 in
set_option maxRecDepth 100000 in
theorem gr_fadedBy (l : Launch) (D : va_G) (y : Nat → ClassId) (x : Int32) (hA1 : x ≤ 999) : kw_Mi l yX11_fadedBy wsX11_fadedBy ({ frames := 1, cells := 0, slots := 0, locals := 60 }) D y [.int x] [] (fun (r : Int32) (u : Unit) => r ≤ 999 ∧ r = (x - ((x + 3) / 4))) (fun _ => []) 0 0 := by
  refine kw_Mi.of (cc := cX11_fadedBy) (maxL := 1) (ret := (some .int)) (by decide) rfl ?_
  intro pZ eZ s mZ beZ meZ cZ A hE
  obtain ⟨hx, hb, hr, hml, hts, hown, hlocks, hin, hA, hP, hD, hK, hN⟩ := hE
  have hS : va_S A s.heap s.heap [] := va_S.rf
  have hl := lv_entry ([.int x]) (n := 1) (Nat.le_of_ble_eq_true rfl)
  rw [lg_entry_eq]
  generalize (lg_sl ([.int x]) ++ List.replicate (1 - (lg_sl ([.int x])).length) Slot.unset).toArray = ls at hl ⊢
  have hl : lv_has ls 1 [(0, .int x)] := hl
  refine lv_iload_n hx hb dX11_fadedBy_0 rfl (lv_at hl 0 rfl) ?_
  refine lv_iload_n hx hb dX11_fadedBy_1 rfl (lv_at hl 0 rfl) ?_
  refine lv_iconst (v := 3) hx hb dX11_fadedBy_2 (by decide) ?_
  refine lv_iadd hx hb dX11_fadedBy_3 ?_
  refine lv_iconst (v := 4) hx hb dX11_fadedBy_4 (by decide) ?_
  refine lv_idiv hx hb dX11_fadedBy_5 (by decide) ?_
  refine lv_isub hx hb dX11_fadedBy_6 ?_
  exact W.iret (v := (x - ((x + 3) / 4))) hx hb hr (fun tZ ht hW => ⟨⟨(x - ((x + 3) / 4)), (), rfl, ⟨kr_faded hA1, rfl⟩, by rw [ht]; exact hP.sub [] rfl, hD.sub [] (by decide) rfl⟩, hS.F ht⟩) hS.2.2 dX11_fadedBy_7
