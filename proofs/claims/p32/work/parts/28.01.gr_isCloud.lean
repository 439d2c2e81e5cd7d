set_option maxHeartbeats 4000000 in
set_option maxRecDepth 100000 in
theorem gr_isCloud (l : Launch) (D : va_G) (y : Nat → ClassId) (x : Int32)  : kw_Mi l yX11_isCloud wsX11_isCloud ({ frames := 2, cells := 0, slots := 0, locals := 85 }) D y [.int x] [] (fun (r : Int32) (u : Unit) => (∃ j : Nat, j ≤ 9 ∧ x = nI j ∧ r = 1) ∨ ((¬ ∃ j : Nat, 0 ≤ j ∧ j ≤ 9 ∧ x = nI j) ∧ r = 0)) (fun _ => []) 0 0 := by
  refine kw_Mi.of (cc := cX11_isCloud) (maxL := 1) (ret := (some .boolean)) (by decide) rfl ?_
  intro pZ eZ s mZ beZ meZ cZ A hE
  obtain ⟨hx, hb, hr, hml, hts, hown, hlocks, hin, hA, hP, hD, hK, hN⟩ := hE
  have hS : va_S A s.heap s.heap [] := va_S.rf
  have hl := lv_entry ([.int x]) (n := 1) (Nat.le_of_ble_eq_true rfl)
  rw [lg_entry_eq]
  generalize (lg_sl ([.int x]) ++ List.replicate (1 - (lg_sl ([.int x])).length) Slot.unset).toArray = ls at hl ⊢
  have hl : lv_has ls 1 [(0, .int x)] := hl
  have fw1 := hts (.constantLong RX11 65 (9)) (List.mem_of_getElem? (i := 1) rfl)
  refine lv_iload_n hx hb dX11_isCloud_0 rfl (lv_at hl 0 rfl) ?_
  refine lv_i2l (v := x.toInt64) hx hb dX11_isCloud_1 (rfl) ?_
  refine lv_lconst (v := 0) hx hb dX11_isCloud_2 (by decide) ?_
  refine lv_ldc2 (v := 9) hx hb hown fw1 dX11_isCloud_3 ?_
  have hs1 : kw_Split [] [] [] [] [] := ⟨rfl, rfl, rfl, rfl, rfl, by decide⟩
  refine kw_go_i hs1 hP hD hS hA (va_runS (As := [.long x.toInt64, .long 0, .long 9]) (rest := []) ⟨hx, hb, hml, hown, hts⟩ (gr_in l D y x 0 9 (by omega) (by omega) _) (va_cwS 3 hts gX11_isCloud_X11_in rfl rfl rfl (by decide +kernel) ⟨Nat.le_of_ble_eq_true rfl, Nat.le_of_ble_eq_true rfl⟩) (kw_PreS hs1 hP hD hK hN) rfl rfl hl.1 rfl (lv_room (Nat.le_of_ble_eq_true rfl)) dX11_isCloud_6 ⟨Nat.le_of_ble_eq_true rfl, Nat.le_of_ble_eq_true rfl⟩) (fun r2 u3 H locs hq hP hD hS => ?_)
  rcases hq with ⟨j4, h5, h6, rfl, rfl⟩ | ⟨h7, rfl⟩
  · skip
    have hP : va_P D vwCl [] H := hP
    have hD : va_D A [] := hD
    exact W.zret (v := 1) hx hb hr (by decide) (fun tZ ht hW => ⟨⟨1, (), rfl, Or.inl ⟨j4, h6, rfl, rfl⟩, by rw [ht]; exact hP.sub [] rfl, hD.sub [] (by decide) rfl⟩, hS.F ht⟩) hS.2.2 dX11_isCloud_9
  · skip
    have hP : va_P D vwCl [] H := hP
    have hD : va_D A [] := hD
    exact W.zret (v := 0) hx hb hr (by decide) (fun tZ ht hW => ⟨⟨0, (), rfl, Or.inr (⟨h7, rfl⟩), by rw [ht]; exact hP.sub [] rfl, hD.sub [] (by decide) rfl⟩, hS.F ht⟩) hS.2.2 dX11_isCloud_9

set_option maxHeartbeats 4000000 in
set_option maxRecDepth 100000 in
theorem gr_isLight (l : Launch) (D : va_G) (y : Nat → ClassId) (x : Int32)  : kw_Mi l yX11_isLight wsX11_isLight ({ frames := 2, cells := 0, slots := 0, locals := 85 }) D y [.int x] [] (fun (r : Int32) (u : Unit) => (∃ j : Nat, j ≤ 60 ∧ x = nI j ∧ r = 1) ∨ ((¬ ∃ j : Nat, 0 ≤ j ∧ j ≤ 60 ∧ x = nI j) ∧ r = 0)) (fun _ => []) 0 0 := by
  refine kw_Mi.of (cc := cX11_isLight) (maxL := 1) (ret := (some .boolean)) (by decide) rfl ?_
  intro pZ eZ s mZ beZ meZ cZ A hE
  obtain ⟨hx, hb, hr, hml, hts, hown, hlocks, hin, hA, hP, hD, hK, hN⟩ := hE
  have hS : va_S A s.heap s.heap [] := va_S.rf
  have hl := lv_entry ([.int x]) (n := 1) (Nat.le_of_ble_eq_true rfl)
  rw [lg_entry_eq]
  generalize (lg_sl ([.int x]) ++ List.replicate (1 - (lg_sl ([.int x])).length) Slot.unset).toArray = ls at hl ⊢
  have hl : lv_has ls 1 [(0, .int x)] := hl
  have fw1 := hts (.constantLong RX11 67 (60)) (List.mem_of_getElem? (i := 1) rfl)
  refine lv_iload_n hx hb dX11_isLight_0 rfl (lv_at hl 0 rfl) ?_
  refine lv_i2l (v := x.toInt64) hx hb dX11_isLight_1 (rfl) ?_
  refine lv_lconst (v := 0) hx hb dX11_isLight_2 (by decide) ?_
  refine lv_ldc2 (v := 60) hx hb hown fw1 dX11_isLight_3 ?_
  have hs1 : kw_Split [] [] [] [] [] := ⟨rfl, rfl, rfl, rfl, rfl, by decide⟩
  refine kw_go_i hs1 hP hD hS hA (va_runS (As := [.long x.toInt64, .long 0, .long 60]) (rest := []) ⟨hx, hb, hml, hown, hts⟩ (gr_in l D y x 0 60 (by omega) (by omega) _) (va_cwS 3 hts gX11_isLight_X11_in rfl rfl rfl (by decide +kernel) ⟨Nat.le_of_ble_eq_true rfl, Nat.le_of_ble_eq_true rfl⟩) (kw_PreS hs1 hP hD hK hN) rfl rfl hl.1 rfl (lv_room (Nat.le_of_ble_eq_true rfl)) dX11_isLight_6 ⟨Nat.le_of_ble_eq_true rfl, Nat.le_of_ble_eq_true rfl⟩) (fun r2 u3 H locs hq hP hD hS => ?_)
  rcases hq with ⟨j4, h5, h6, rfl, rfl⟩ | ⟨h7, rfl⟩
  · skip
    have hP : va_P D vwCl [] H := hP
    have hD : va_D A [] := hD
    exact W.zret (v := 1) hx hb hr (by decide) (fun tZ ht hW => ⟨⟨1, (), rfl, Or.inl ⟨j4, h6, rfl, rfl⟩, by rw [ht]; exact hP.sub [] rfl, hD.sub [] (by decide) rfl⟩, hS.F ht⟩) hS.2.2 dX11_isLight_9
  · skip
    have hP : va_P D vwCl [] H := hP
    have hD : va_D A [] := hD
    exact W.zret (v := 0) hx hb hr (by decide) (fun tZ ht hW => ⟨⟨0, (), rfl, Or.inr (⟨h7, rfl⟩), by rw [ht]; exact hP.sub [] rfl, hD.sub [] (by decide) rfl⟩, hS.F ht⟩) hS.2.2 dX11_isLight_9

set_option maxHeartbeats 4000000 in
set_option maxRecDepth 100000 in
theorem gr_has (l : Launch) (D : va_G) (y : Nat → ClassId) (x : Int32) (x2 : Int32)  : kw_Mi l yX11_has wsX11_has ({ frames := 1, cells := 0, slots := 0, locals := 60 }) D y [.int x, .int x2] [] (fun (r : Int32) (u : Unit) => (r = 0 ∨ r = 1)) (fun _ => []) 0 0 := by
  refine kw_Mi.of (cc := cX11_has) (maxL := 2) (ret := (some .boolean)) (by decide) rfl ?_
  intro pZ eZ s mZ beZ meZ cZ A hE
  obtain ⟨hx, hb, hr, hml, hts, hown, hlocks, hin, hA, hP, hD, hK, hN⟩ := hE
  have hS : va_S A s.heap s.heap [] := va_S.rf
  have hl := lv_entry ([.int x, .int x2]) (n := 2) (Nat.le_of_ble_eq_true rfl)
  rw [lg_entry_eq]
  generalize (lg_sl ([.int x, .int x2]) ++ List.replicate (2 - (lg_sl ([.int x, .int x2])).length) Slot.unset).toArray = ls at hl ⊢
  have hl : lv_has ls 2 [(0, .int x), (1, .int x2)] := hl
  refine lv_iload_n hx hb dX11_has_0 rfl (lv_at hl 0 rfl) ?_
  refine lv_iload_n hx hb dX11_has_1 rfl (lv_at hl 1 rfl) ?_
  refine lv_ishr hx hb dX11_has_2 ?_
  refine lv_iconst (v := 1) hx hb dX11_has_3 (by decide) ?_
  refine lv_iand hx hb dX11_has_4 ?_
  refine lv_iconst (v := 1) hx hb dX11_has_5 (by decide) ?_
  refine lv_icmp_ne (tgt := 13) hx hb dX11_has_6 (by decide) (fun h1 => ?_) (fun h2 => ?_)
  · skip
    refine lv_iconst (v := 0) hx hb dX11_has_13 (by decide) ?_
    exact W.zret (v := 0) hx hb hr (by decide) (fun tZ ht hW => ⟨⟨0, (), rfl, Or.inl rfl, by rw [ht]; exact hP.sub [] rfl, hD.sub [] (by decide) rfl⟩, hS.F ht⟩) hS.2.2 dX11_has_14
  · skip
    refine lv_iconst (v := 1) hx hb dX11_has_9 (by decide) ?_
    refine lv_goto (tgt := 14) hx hb dX11_has_10 (by decide) ?_
    exact W.zret (v := 1) hx hb hr (by decide) (fun tZ ht hW => ⟨⟨1, (), rfl, Or.inr rfl, by rw [ht]; exact hP.sub [] rfl, hD.sub [] (by decide) rfl⟩, hS.F ht⟩) hS.2.2 dX11_has_14

set_option maxHeartbeats 4000000 in
set_option maxRecDepth 100000 in
theorem gr_begin228 (l : Launch) (D : va_G) (y : Nat → ClassId) (to : Nat) (ft : Nat → Int32) (x : Int32) (hkt : kr_t 228 ft) : kw_Mv l yX11_begin wsX11_begin ({ frames := 1, cells := 0, slots := 0, locals := 60 }) D y [.ref to, .int x] [(to, .inl (y 0, 228, .inl ft))] (fun (u : Unit) => kr_t 228 (upd (kr_bg ft 76) 22 x)) (fun _ => [(to, .inl (y 0, 228, .inl (upd (kr_bg ft 76) 22 x)))]) 0 0 := by
  refine kw_Mv.of (cc := cX11_begin) (maxL := 3) (ret := none) (by decide) rfl ?_
  intro pZ eZ s mZ beZ meZ cZ A hE
  obtain ⟨hx, hb, hr, hml, hts, hown, hlocks, hin, hA, hP, hD, hK, hN⟩ := hE
  have hS : va_S A s.heap s.heap [] := va_S.rf
  have hl := lv_entry ([.ref to, .int x]) (n := 3) (Nat.le_of_ble_eq_true rfl)
  rw [lg_entry_eq]
  generalize (lg_sl ([.ref to, .int x]) ++ List.replicate (3 - (lg_sl ([.ref to, .int x])).length) Slot.unset).toArray = ls at hl ⊢
  have hl : lv_has ls 3 [(0, .ref to), (1, .int x)] := hl
  refine lv_iconst (v := 0) hx hb dX11_begin_0 (by decide) ?_
  refine lv_istore_n (lv' := [(2, .int 0), (0, .ref to), (1, .int x)]) hx hb dX11_begin_1 rfl hl (by decide) rfl (fun ls hl => ?_)
  have lp10 : ∀ (fuj91 j91 : Nat) (x5 : Nat → Int32) (H : Heap) (locs : List Loc) (ls : Array Slot), j91 ≤ 76 → 76 - j91 < fuj91 → kr_t 228 x5 → x5 = kr_bg ft j91 → va_P D vwCl [(to, .inl (y 0, 228, .inl x5))] H → va_D A [(to, .inl (y 0, 228, .inl x5))] → va_S A s.heap H locs → lv_has ls 3 [(2, .int (nI j91)), (0, .ref to), (1, .int x)] → W pZ l eZ ({ frames := 1, cells := 0, slots := 0, locals := 60 }) s mZ [.ref to, .int x].toArray beZ meZ cZ H locs 0 0 (MQ beZ (va_Qv (fun (u : Unit) => kr_t 228 (upd (kr_bg ft 76) 22 x)) (kw_B D (fun _ => [(to, .inl (y 0, 228, .inl (upd (kr_bg ft 76) 22 x)))]) A) A) [.ref to, .int x].toArray s 0 0 A) (F0 mZ 2 ls []) := by
    intro fuj91
    induction fuj91 with
    | zero => intro j91 x5 H locs ls hj9 hf9; exact absurd hf9 (Nat.not_lt_zero _)
    | succ fuj91 ihj91 =>
      intro j91 x5 H locs ls hj91 hfj91 hr_x5 hI0_j91 hP hD hS hl
      refine lv_iload_n hx hb dX11_begin_2 rfl (lv_at hl 0 rfl) ?_
      refine lv_bipush (v := 76) hx hb dX11_begin_3 (by decide) ?_
      refine lv_icmp_ge (tgt := 18) hx hb dX11_begin_5 (by decide) (fun h11 => ?_) (fun h12 => ?_)
      · skip
        have h11 : 76 ≤ j91 := (nI_leI (a := 76) (b := j91) (by omega) (by omega)).mp h11
        obtain rfl : j91 = 76 := by omega
        subst hI0_j91
        have hP : va_P D vwCl [(to, .inl (y 0, 228, .inl (kr_bg ft 76)))] H := hP
        have hD : va_D A [(to, .inl (y 0, 228, .inl (kr_bg ft 76)))] := hD
        refine lv_aload_n hx hb dX11_begin_18 rfl (lv_at hl 1 rfl) ?_
        refine lv_bipush (v := 22) hx hb dX11_begin_19 (by decide) ?_
        refine lv_iload_n hx hb dX11_begin_21 rfl (lv_at hl 2 rfl) ?_
        refine va_iast hx hb hK hP hD hS 0 0 rfl rfl (by unfold vp_in; decide) dX11_begin_22 (fun H locs hP hD hS => ?_)
        rw [show ((22 : Int32)).toNatClampNeg = 22 from rfl] at hP hD
        have hr13 : kr_t 228 (upd (kr_bg ft 76) 22 x) := kr_up hr_x5 (kr_free (by unfold kr_a; omega) (by unfold kr_s; omega))
        have hP : va_P D vwCl [(to, .inl (y 0, 228, .inl (upd (kr_bg ft 76) 22 x)))] H := hP
        have hD : va_D A [(to, .inl (y 0, 228, .inl (upd (kr_bg ft 76) 22 x)))] := hD
        exact W.vret hx hb hr (fun tZ ht hW => ⟨⟨(), rfl, hr13, by rw [ht]; exact hP.sub [0] rfl, hD.sub [0] (by decide) rfl⟩, hS.F ht⟩) hS.2.2 dX11_begin_23
      · skip
        have h12 : ¬ 76 ≤ j91 := fun q9 => h12 ((nI_leI (a := 76) (b := j91) (by omega) (by omega)).mpr q9)
        refine lv_aload_n hx hb dX11_begin_8 rfl (lv_at hl 1 rfl) ?_
        refine lv_iload_n hx hb dX11_begin_9 rfl (lv_at hl 0 rfl) ?_
        refine lv_iconst (v := 0) hx hb dX11_begin_10 (by decide) ?_
        refine va_iast hx hb hK hP hD hS 0 0 rfl rfl (vp_in_nI (by omega) (by decide)) dX11_begin_11 (fun H locs hP hD hS => ?_)
        rw [nI_clamp (n := j91) (by omega)] at hP hD
        have hr14 : kr_t 228 (upd x5 j91 0) := kr_up hr_x5 (kr_ok0)
        have hP : va_P D vwCl [(to, .inl (y 0, 228, .inl (upd x5 j91 0)))] H := hP
        have hD : va_D A [(to, .inl (y 0, 228, .inl (upd x5 j91 0)))] := hD
        refine lv_iinc (v := (nI (j91 + 1))) (lv' := [(2, .int (nI (j91 + 1))), (0, .ref to), (1, .int x)]) hx hb dX11_begin_12 hl (k := 0) rfl (nI_1 j91) (by decide) rfl (fun ls hl => ?_)
        refine lv_goto (tgt := 2) hx hb dX11_begin_15 (by decide) ?_
        exact ihj91 (j91 + 1) (upd x5 j91 0) H locs ls (by omega) (by omega) hr14 (by rw [hI0_j91]; exact kr_bgS) (hP.sub [0] rfl) (hD.sub [0] (by decide) rfl) hS (lv_sub hl [0, 1, 2] rfl)
  exact lp10 (76 + 1) 0 ft _ _ _ (by omega) (by omega) hkt kr_bg0 hP hD hS (lv_sub hl [0, 1, 2] rfl)

set_option maxHeartbeats 4000000 in
set_option maxRecDepth 100000 in
theorem gr_layField228 (l : Launch) (D : va_G) (y : Nat → ClassId) (to : Nat) (ft : Nat → Int32) (fi : Nat) (gl : Nat) (mi : Nat) (no : Nat) (un : Nat) (x : Int32) (x2 : Int32) (hk0_ : ft 0 = (nI fi)) (hk1_ : ft 1 = (nI gl)) (hk2_ : ft 2 = (nI mi)) (hk3_ : ft 3 = (nI no)) (hk4_ : ft 4 = (nI un)) (hkt : kr_t 228 ft) (hfi : fi ≤ 6) (hgl : gl ≤ 5) (hmi : mi ≤ 4) (hno : no ≤ 6) (hun : un ≤ 8) (hA1 : fi < 6) : kw_Mv l yX11_layField wsX11_layField ({ frames := 1, cells := 0, slots := 0, locals := 60 }) D y [.ref to, .int x, .int x2] [(to, .inl (y 0, 228, .inl ft))] (fun (u : Unit) => kr_t 228 (upd (upd (upd ft (fi + 24) x) (fi + 5) x2) 0 (nI (fi + 1))) ∧ (upd (upd (upd ft (fi + 24) x) (fi + 5) x2) 0 (nI (fi + 1))) 0 = (nI (fi + 1)) ∧ (upd (upd (upd ft (fi + 24) x) (fi + 5) x2) 0 (nI (fi + 1))) 1 = (nI gl) ∧ (upd (upd (upd ft (fi + 24) x) (fi + 5) x2) 0 (nI (fi + 1))) 2 = (nI mi) ∧ (upd (upd (upd ft (fi + 24) x) (fi + 5) x2) 0 (nI (fi + 1))) 3 = (nI no) ∧ (upd (upd (upd ft (fi + 24) x) (fi + 5) x2) 0 (nI (fi + 1))) 4 = (nI un)) (fun _ => [(to, .inl (y 0, 228, .inl (upd (upd (upd ft (fi + 24) x) (fi + 5) x2) 0 (nI (fi + 1)))))]) 0 0 := by
  refine kw_Mv.of (cc := cX11_layField) (maxL := 3) (ret := none) (by decide) rfl ?_
  intro pZ eZ s mZ beZ meZ cZ A hE
  obtain ⟨hx, hb, hr, hml, hts, hown, hlocks, hin, hA, hP, hD, hK, hN⟩ := hE
  have hS : va_S A s.heap s.heap [] := va_S.rf
  have hl := lv_entry ([.ref to, .int x, .int x2]) (n := 3) (Nat.le_of_ble_eq_true rfl)
  rw [lg_entry_eq]
  generalize (lg_sl ([.ref to, .int x, .int x2]) ++ List.replicate (3 - (lg_sl ([.ref to, .int x, .int x2])).length) Slot.unset).toArray = ls at hl ⊢
  have hl : lv_has ls 3 [(0, .ref to), (1, .int x), (2, .int x2)] := hl
  refine lv_aload_n hx hb dX11_layField_0 rfl (lv_at hl 0 rfl) ?_
  refine lv_bipush (v := 24) hx hb dX11_layField_1 (by decide) ?_
  refine lv_aload_n hx hb dX11_layField_3 rfl (lv_at hl 0 rfl) ?_
  refine lv_iconst (v := 0) hx hb dX11_layField_4 (by decide) ?_
  refine va_iald hx hb hK hP 0 0 rfl rfl (by unfold vp_in; decide) dX11_layField_5 ?_
  rw [show ((0 : Int32)).toNatClampNeg = 0 from rfl]
  rw [show (ft 0) = (nI fi) from hk0_]
  refine lv_iadd hx hb dX11_layField_6 ?_
  rw [show 24 + (nI fi) = nI (fi + 24) from (nI_add 24 fi).trans (congrArg nI (by omega))]
  refine lv_iload_n hx hb dX11_layField_7 rfl (lv_at hl 1 rfl) ?_
  refine va_iast hx hb hK hP hD hS 0 0 rfl rfl (vp_in_nI (by omega) (by decide)) dX11_layField_8 (fun H locs hP hD hS => ?_)
  rw [nI_clamp (n := (fi + 24)) (by omega)] at hP hD
  have hr1 : kr_t 228 (upd ft (fi + 24) x) := kr_up hkt (kr_free (by unfold kr_a; omega) (by unfold kr_s; omega))
  have hk2 : (upd ft (fi + 24) x) 0 = (nI fi) := (pk_un (by omega)).trans hk0_
  have hk3 : (upd ft (fi + 24) x) 1 = (nI gl) := (pk_un (by omega)).trans hk1_
  have hk4 : (upd ft (fi + 24) x) 2 = (nI mi) := (pk_un (by omega)).trans hk2_
  have hk5 : (upd ft (fi + 24) x) 3 = (nI no) := (pk_un (by omega)).trans hk3_
  have hk6 : (upd ft (fi + 24) x) 4 = (nI un) := (pk_un (by omega)).trans hk4_
  have hP : va_P D vwCl [(to, .inl (y 0, 228, .inl (upd ft (fi + 24) x)))] H := hP
  have hD : va_D A [(to, .inl (y 0, 228, .inl (upd ft (fi + 24) x)))] := hD
  refine lv_aload_n hx hb dX11_layField_9 rfl (lv_at hl 0 rfl) ?_
  refine lv_iconst (v := 5) hx hb dX11_layField_10 (by decide) ?_
  refine lv_aload_n hx hb dX11_layField_11 rfl (lv_at hl 0 rfl) ?_
  refine lv_iconst (v := 0) hx hb dX11_layField_12 (by decide) ?_
  refine va_iald hx hb hK hP 0 0 rfl rfl (by unfold vp_in; decide) dX11_layField_13 ?_
  rw [show ((0 : Int32)).toNatClampNeg = 0 from rfl]
  rw [show ((upd ft (fi + 24) x) 0) = (nI fi) from hk2]
  refine lv_iadd hx hb dX11_layField_14 ?_
  rw [show 5 + (nI fi) = nI (fi + 5) from (nI_add 5 fi).trans (congrArg nI (by omega))]
  refine lv_iload_n hx hb dX11_layField_15 rfl (lv_at hl 2 rfl) ?_
  refine va_iast hx hb hK hP hD hS 0 0 rfl rfl (vp_in_nI (by omega) (by decide)) dX11_layField_16 (fun H locs hP hD hS => ?_)
  rw [nI_clamp (n := (fi + 5)) (by omega)] at hP hD
  have hr7 : kr_t 228 (upd (upd ft (fi + 24) x) (fi + 5) x2) := kr_up hr1 (kr_free (by unfold kr_a; omega) (by unfold kr_s; omega))
  have hk8 : (upd (upd ft (fi + 24) x) (fi + 5) x2) 0 = (nI fi) := (pk_un (by omega)).trans hk2
  have hk9 : (upd (upd ft (fi + 24) x) (fi + 5) x2) 1 = (nI gl) := (pk_un (by omega)).trans hk3
  have hk10 : (upd (upd ft (fi + 24) x) (fi + 5) x2) 2 = (nI mi) := (pk_un (by omega)).trans hk4
  have hk11 : (upd (upd ft (fi + 24) x) (fi + 5) x2) 3 = (nI no) := (pk_un (by omega)).trans hk5
  have hk12 : (upd (upd ft (fi + 24) x) (fi + 5) x2) 4 = (nI un) := (pk_un (by omega)).trans hk6
  have hP : va_P D vwCl [(to, .inl (y 0, 228, .inl (upd (upd ft (fi + 24) x) (fi + 5) x2)))] H := hP
  have hD : va_D A [(to, .inl (y 0, 228, .inl (upd (upd ft (fi + 24) x) (fi + 5) x2)))] := hD
  refine lv_aload_n hx hb dX11_layField_17 rfl (lv_at hl 0 rfl) ?_
  refine lv_iconst (v := 0) hx hb dX11_layField_18 (by decide) ?_
  refine lv_dup2_11 hx hb dX11_layField_19 rfl rfl ?_
  refine va_iald hx hb hK hP 0 0 rfl rfl (by unfold vp_in; decide) dX11_layField_20 ?_
  rw [show ((0 : Int32)).toNatClampNeg = 0 from rfl]
  rw [show ((upd (upd ft (fi + 24) x) (fi + 5) x2) 0) = (nI fi) from hk8]
  refine lv_iconst (v := 1) hx hb dX11_layField_21 (by decide) ?_
  refine lv_iadd hx hb dX11_layField_22 ?_
  rw [show (nI fi) + 1 = nI (fi + 1) from nI_add fi 1]
  refine va_iast hx hb hK hP hD hS 0 0 rfl rfl (by unfold vp_in; decide) dX11_layField_23 (fun H locs hP hD hS => ?_)
  rw [show ((0 : Int32)).toNatClampNeg = 0 from rfl] at hP hD
  have hr13 : kr_t 228 (upd (upd (upd ft (fi + 24) x) (fi + 5) x2) 0 (nI (fi + 1))) := kr_up hr7 (kr_free (by unfold kr_a; omega) (by unfold kr_s; omega))
  have hk14 : (upd (upd (upd ft (fi + 24) x) (fi + 5) x2) 0 (nI (fi + 1))) 1 = (nI gl) := (pk_un (by decide)).trans hk9
  have hk15 : (upd (upd (upd ft (fi + 24) x) (fi + 5) x2) 0 (nI (fi + 1))) 2 = (nI mi) := (pk_un (by decide)).trans hk10
  have hk16 : (upd (upd (upd ft (fi + 24) x) (fi + 5) x2) 0 (nI (fi + 1))) 3 = (nI no) := (pk_un (by decide)).trans hk11
  have hk17 : (upd (upd (upd ft (fi + 24) x) (fi + 5) x2) 0 (nI (fi + 1))) 4 = (nI un) := (pk_un (by decide)).trans hk12
  have hk18 : (upd (upd (upd ft (fi + 24) x) (fi + 5) x2) 0 (nI (fi + 1))) 0 = (nI (fi + 1)) := pk_us
  have hP : va_P D vwCl [(to, .inl (y 0, 228, .inl (upd (upd (upd ft (fi + 24) x) (fi + 5) x2) 0 (nI (fi + 1)))))] H := hP
  have hD : va_D A [(to, .inl (y 0, 228, .inl (upd (upd (upd ft (fi + 24) x) (fi + 5) x2) 0 (nI (fi + 1)))))] := hD
  exact W.vret hx hb hr (fun tZ ht hW => ⟨⟨(), rfl, ⟨hr13, hk18, hk14, hk15, hk16, hk17⟩, by rw [ht]; exact hP.sub [0] rfl, hD.sub [0] (by decide) rfl⟩, hS.F ht⟩) hS.2.2 dX11_layField_24

set_option maxHeartbeats 4000000 in
set_option maxRecDepth 100000 in
theorem gr_layGleaner228 (l : Launch) (D : va_G) (y : Nat → ClassId) (to : Nat) (ft : Nat → Int32) (fi : Nat) (gl : Nat) (mi : Nat) (no : Nat) (un : Nat) (k : Nat) (hk0_ : ft 0 = (nI fi)) (hk1_ : ft 1 = (nI gl)) (hk2_ : ft 2 = (nI mi)) (hk3_ : ft 3 = (nI no)) (hk4_ : ft 4 = (nI un)) (hkt : kr_t 228 ft) (hfi : fi ≤ 6) (hgl : gl ≤ 5) (hmi : mi ≤ 4) (hno : no ≤ 6) (hun : un ≤ 8) (hA1 : gl < 5) (hA2 : k < 6) : kw_Mv l yX11_layGleaner wsX11_layGleaner ({ frames := 1, cells := 0, slots := 0, locals := 60 }) D y [.ref to, .int (nI k)] [(to, .inl (y 0, 228, .inl ft))] (fun (u : Unit) => kr_t 228 (upd (upd (upd ft (gl + 11) (nI k)) (gl + 16) 0) 1 (nI (gl + 1))) ∧ (upd (upd (upd ft (gl + 11) (nI k)) (gl + 16) 0) 1 (nI (gl + 1))) 0 = (nI fi) ∧ (upd (upd (upd ft (gl + 11) (nI k)) (gl + 16) 0) 1 (nI (gl + 1))) 1 = (nI (gl + 1)) ∧ (upd (upd (upd ft (gl + 11) (nI k)) (gl + 16) 0) 1 (nI (gl + 1))) 2 = (nI mi) ∧ (upd (upd (upd ft (gl + 11) (nI k)) (gl + 16) 0) 1 (nI (gl + 1))) 3 = (nI no) ∧ (upd (upd (upd ft (gl + 11) (nI k)) (gl + 16) 0) 1 (nI (gl + 1))) 4 = (nI un)) (fun _ => [(to, .inl (y 0, 228, .inl (upd (upd (upd ft (gl + 11) (nI k)) (gl + 16) 0) 1 (nI (gl + 1)))))]) 0 0 := by
  refine kw_Mv.of (cc := cX11_layGleaner) (maxL := 2) (ret := none) (by decide) rfl ?_
  intro pZ eZ s mZ beZ meZ cZ A hE
  obtain ⟨hx, hb, hr, hml, hts, hown, hlocks, hin, hA, hP, hD, hK, hN⟩ := hE
  have hS : va_S A s.heap s.heap [] := va_S.rf
  have hl := lv_entry ([.ref to, .int (nI k)]) (n := 2) (Nat.le_of_ble_eq_true rfl)
  rw [lg_entry_eq]
  generalize (lg_sl ([.ref to, .int (nI k)]) ++ List.replicate (2 - (lg_sl ([.ref to, .int (nI k)])).length) Slot.unset).toArray = ls at hl ⊢
  have hl : lv_has ls 2 [(0, .ref to), (1, .int (nI k))] := hl
  refine lv_aload_n hx hb dX11_layGleaner_0 rfl (lv_at hl 0 rfl) ?_
  refine lv_bipush (v := 11) hx hb dX11_layGleaner_1 (by decide) ?_
  refine lv_aload_n hx hb dX11_layGleaner_3 rfl (lv_at hl 0 rfl) ?_
  refine lv_iconst (v := 1) hx hb dX11_layGleaner_4 (by decide) ?_
  refine va_iald hx hb hK hP 0 0 rfl rfl (by unfold vp_in; decide) dX11_layGleaner_5 ?_
  rw [show ((1 : Int32)).toNatClampNeg = 1 from rfl]
  rw [show (ft 1) = (nI gl) from hk1_]
  refine lv_iadd hx hb dX11_layGleaner_6 ?_
  rw [show 11 + (nI gl) = nI (gl + 11) from (nI_add 11 gl).trans (congrArg nI (by omega))]
  refine lv_iload_n hx hb dX11_layGleaner_7 rfl (lv_at hl 1 rfl) ?_
  refine va_iast hx hb hK hP hD hS 0 0 rfl rfl (vp_in_nI (by omega) (by decide)) dX11_layGleaner_8 (fun H locs hP hD hS => ?_)
  rw [nI_clamp (n := (gl + 11)) (by omega)] at hP hD
  have hr1 : kr_t 228 (upd ft (gl + 11) (nI k)) := kr_up hkt (kr_oka (vp_in_nI (by omega) (by decide)) (by unfold kr_s; omega))
  have hk2 : (upd ft (gl + 11) (nI k)) 0 = (nI fi) := (pk_un (by omega)).trans hk0_
  have hk3 : (upd ft (gl + 11) (nI k)) 1 = (nI gl) := (pk_un (by omega)).trans hk1_
  have hk4 : (upd ft (gl + 11) (nI k)) 2 = (nI mi) := (pk_un (by omega)).trans hk2_
  have hk5 : (upd ft (gl + 11) (nI k)) 3 = (nI no) := (pk_un (by omega)).trans hk3_
  have hk6 : (upd ft (gl + 11) (nI k)) 4 = (nI un) := (pk_un (by omega)).trans hk4_
  have hP : va_P D vwCl [(to, .inl (y 0, 228, .inl (upd ft (gl + 11) (nI k))))] H := hP
  have hD : va_D A [(to, .inl (y 0, 228, .inl (upd ft (gl + 11) (nI k))))] := hD
  refine lv_aload_n hx hb dX11_layGleaner_9 rfl (lv_at hl 0 rfl) ?_
  refine lv_bipush (v := 16) hx hb dX11_layGleaner_10 (by decide) ?_
  refine lv_aload_n hx hb dX11_layGleaner_12 rfl (lv_at hl 0 rfl) ?_
  refine lv_iconst (v := 1) hx hb dX11_layGleaner_13 (by decide) ?_
  refine va_iald hx hb hK hP 0 0 rfl rfl (by unfold vp_in; decide) dX11_layGleaner_14 ?_
  rw [show ((1 : Int32)).toNatClampNeg = 1 from rfl]
  rw [show ((upd ft (gl + 11) (nI k)) 1) = (nI gl) from hk3]
  refine lv_iadd hx hb dX11_layGleaner_15 ?_
  rw [show 16 + (nI gl) = nI (gl + 16) from (nI_add 16 gl).trans (congrArg nI (by omega))]
  refine lv_iconst (v := 0) hx hb dX11_layGleaner_16 (by decide) ?_
  refine va_iast hx hb hK hP hD hS 0 0 rfl rfl (vp_in_nI (by omega) (by decide)) dX11_layGleaner_17 (fun H locs hP hD hS => ?_)
  rw [nI_clamp (n := (gl + 16)) (by omega)] at hP hD
  have hr7 : kr_t 228 (upd (upd ft (gl + 11) (nI k)) (gl + 16) 0) := kr_up hr1 (kr_ok0)
  have hk8 : (upd (upd ft (gl + 11) (nI k)) (gl + 16) 0) 0 = (nI fi) := (pk_un (by omega)).trans hk2
  have hk9 : (upd (upd ft (gl + 11) (nI k)) (gl + 16) 0) 1 = (nI gl) := (pk_un (by omega)).trans hk3
  have hk10 : (upd (upd ft (gl + 11) (nI k)) (gl + 16) 0) 2 = (nI mi) := (pk_un (by omega)).trans hk4
  have hk11 : (upd (upd ft (gl + 11) (nI k)) (gl + 16) 0) 3 = (nI no) := (pk_un (by omega)).trans hk5
  have hk12 : (upd (upd ft (gl + 11) (nI k)) (gl + 16) 0) 4 = (nI un) := (pk_un (by omega)).trans hk6
  have hP : va_P D vwCl [(to, .inl (y 0, 228, .inl (upd (upd ft (gl + 11) (nI k)) (gl + 16) 0)))] H := hP
  have hD : va_D A [(to, .inl (y 0, 228, .inl (upd (upd ft (gl + 11) (nI k)) (gl + 16) 0)))] := hD
  refine lv_aload_n hx hb dX11_layGleaner_18 rfl (lv_at hl 0 rfl) ?_
  refine lv_iconst (v := 1) hx hb dX11_layGleaner_19 (by decide) ?_
  refine lv_dup2_11 hx hb dX11_layGleaner_20 rfl rfl ?_
  refine va_iald hx hb hK hP 0 0 rfl rfl (by unfold vp_in; decide) dX11_layGleaner_21 ?_
  rw [show ((1 : Int32)).toNatClampNeg = 1 from rfl]
  rw [show ((upd (upd ft (gl + 11) (nI k)) (gl + 16) 0) 1) = (nI gl) from hk9]
  refine lv_iconst (v := 1) hx hb dX11_layGleaner_22 (by decide) ?_
  refine lv_iadd hx hb dX11_layGleaner_23 ?_
  rw [show (nI gl) + 1 = nI (gl + 1) from nI_add gl 1]
  refine va_iast hx hb hK hP hD hS 0 0 rfl rfl (by unfold vp_in; decide) dX11_layGleaner_24 (fun H locs hP hD hS => ?_)
  rw [show ((1 : Int32)).toNatClampNeg = 1 from rfl] at hP hD
  have hr13 : kr_t 228 (upd (upd (upd ft (gl + 11) (nI k)) (gl + 16) 0) 1 (nI (gl + 1))) := kr_up hr7 (kr_free (by unfold kr_a; omega) (by unfold kr_s; omega))
  have hk14 : (upd (upd (upd ft (gl + 11) (nI k)) (gl + 16) 0) 1 (nI (gl + 1))) 0 = (nI fi) := (pk_un (by decide)).trans hk8
  have hk15 : (upd (upd (upd ft (gl + 11) (nI k)) (gl + 16) 0) 1 (nI (gl + 1))) 2 = (nI mi) := (pk_un (by decide)).trans hk10
  have hk16 : (upd (upd (upd ft (gl + 11) (nI k)) (gl + 16) 0) 1 (nI (gl + 1))) 3 = (nI no) := (pk_un (by decide)).trans hk11
  have hk17 : (upd (upd (upd ft (gl + 11) (nI k)) (gl + 16) 0) 1 (nI (gl + 1))) 4 = (nI un) := (pk_un (by decide)).trans hk12
  have hk18 : (upd (upd (upd ft (gl + 11) (nI k)) (gl + 16) 0) 1 (nI (gl + 1))) 1 = (nI (gl + 1)) := pk_us
  have hP : va_P D vwCl [(to, .inl (y 0, 228, .inl (upd (upd (upd ft (gl + 11) (nI k)) (gl + 16) 0) 1 (nI (gl + 1)))))] H := hP
  have hD : va_D A [(to, .inl (y 0, 228, .inl (upd (upd (upd ft (gl + 11) (nI k)) (gl + 16) 0) 1 (nI (gl + 1)))))] := hD
  exact W.vret hx hb hr (fun tZ ht hW => ⟨⟨(), rfl, ⟨hr13, hk14, hk18, hk15, hk16, hk17⟩, by rw [ht]; exact hP.sub [0] rfl, hD.sub [0] (by decide) rfl⟩, hS.F ht⟩) hS.2.2 dX11_layGleaner_25

set_option maxHeartbeats 4000000 in
set_option maxRecDepth 100000 in
theorem gr_begin76 (l : Launch) (D : va_G) (y : Nat → ClassId) (to : Nat) (ft : Nat → Int32) (x : Int32) (hkt : kr_t 76 ft) : kw_Mv l yX11_begin wsX11_begin ({ frames := 1, cells := 0, slots := 0, locals := 60 }) D y [.ref to, .int x] [(to, .inl (y 0, 76, .inl ft))] (fun (u : Unit) => kr_t 76 (upd (kr_bg ft 76) 22 x)) (fun _ => [(to, .inl (y 0, 76, .inl (upd (kr_bg ft 76) 22 x)))]) 0 0 := by
  refine kw_Mv.of (cc := cX11_begin) (maxL := 3) (ret := none) (by decide) rfl ?_
  intro pZ eZ s mZ beZ meZ cZ A hE
  obtain ⟨hx, hb, hr, hml, hts, hown, hlocks, hin, hA, hP, hD, hK, hN⟩ := hE
  have hS : va_S A s.heap s.heap [] := va_S.rf
  have hl := lv_entry ([.ref to, .int x]) (n := 3) (Nat.le_of_ble_eq_true rfl)
  rw [lg_entry_eq]
  generalize (lg_sl ([.ref to, .int x]) ++ List.replicate (3 - (lg_sl ([.ref to, .int x])).length) Slot.unset).toArray = ls at hl ⊢
  have hl : lv_has ls 3 [(0, .ref to), (1, .int x)] := hl
  refine lv_iconst (v := 0) hx hb dX11_begin_0 (by decide) ?_
  refine lv_istore_n (lv' := [(2, .int 0), (0, .ref to), (1, .int x)]) hx hb dX11_begin_1 rfl hl (by decide) rfl (fun ls hl => ?_)
  have lp10 : ∀ (fuj91 j91 : Nat) (x5 : Nat → Int32) (H : Heap) (locs : List Loc) (ls : Array Slot), j91 ≤ 76 → 76 - j91 < fuj91 → kr_t 76 x5 → x5 = kr_bg ft j91 → va_P D vwCl [(to, .inl (y 0, 76, .inl x5))] H → va_D A [(to, .inl (y 0, 76, .inl x5))] → va_S A s.heap H locs → lv_has ls 3 [(2, .int (nI j91)), (0, .ref to), (1, .int x)] → W pZ l eZ ({ frames := 1, cells := 0, slots := 0, locals := 60 }) s mZ [.ref to, .int x].toArray beZ meZ cZ H locs 0 0 (MQ beZ (va_Qv (fun (u : Unit) => kr_t 76 (upd (kr_bg ft 76) 22 x)) (kw_B D (fun _ => [(to, .inl (y 0, 76, .inl (upd (kr_bg ft 76) 22 x)))]) A) A) [.ref to, .int x].toArray s 0 0 A) (F0 mZ 2 ls []) := by
    intro fuj91
    induction fuj91 with
    | zero => intro j91 x5 H locs ls hj9 hf9; exact absurd hf9 (Nat.not_lt_zero _)
    | succ fuj91 ihj91 =>
      intro j91 x5 H locs ls hj91 hfj91 hr_x5 hI0_j91 hP hD hS hl
      refine lv_iload_n hx hb dX11_begin_2 rfl (lv_at hl 0 rfl) ?_
      refine lv_bipush (v := 76) hx hb dX11_begin_3 (by decide) ?_
      refine lv_icmp_ge (tgt := 18) hx hb dX11_begin_5 (by decide) (fun h11 => ?_) (fun h12 => ?_)
      · skip
        have h11 : 76 ≤ j91 := (nI_leI (a := 76) (b := j91) (by omega) (by omega)).mp h11
        obtain rfl : j91 = 76 := by omega
        subst hI0_j91
        have hP : va_P D vwCl [(to, .inl (y 0, 76, .inl (kr_bg ft 76)))] H := hP
        have hD : va_D A [(to, .inl (y 0, 76, .inl (kr_bg ft 76)))] := hD
        refine lv_aload_n hx hb dX11_begin_18 rfl (lv_at hl 1 rfl) ?_
        refine lv_bipush (v := 22) hx hb dX11_begin_19 (by decide) ?_
        refine lv_iload_n hx hb dX11_begin_21 rfl (lv_at hl 2 rfl) ?_
        refine va_iast hx hb hK hP hD hS 0 0 rfl rfl (by unfold vp_in; decide) dX11_begin_22 (fun H locs hP hD hS => ?_)
        rw [show ((22 : Int32)).toNatClampNeg = 22 from rfl] at hP hD
        have hr13 : kr_t 76 (upd (kr_bg ft 76) 22 x) := kr_up hr_x5 (kr_free (by unfold kr_a; omega) (by unfold kr_s; omega))
        have hP : va_P D vwCl [(to, .inl (y 0, 76, .inl (upd (kr_bg ft 76) 22 x)))] H := hP
        have hD : va_D A [(to, .inl (y 0, 76, .inl (upd (kr_bg ft 76) 22 x)))] := hD
        exact W.vret hx hb hr (fun tZ ht hW => ⟨⟨(), rfl, hr13, by rw [ht]; exact hP.sub [0] rfl, hD.sub [0] (by decide) rfl⟩, hS.F ht⟩) hS.2.2 dX11_begin_23
      · skip
        have h12 : ¬ 76 ≤ j91 := fun q9 => h12 ((nI_leI (a := 76) (b := j91) (by omega) (by omega)).mpr q9)
        refine lv_aload_n hx hb dX11_begin_8 rfl (lv_at hl 1 rfl) ?_
        refine lv_iload_n hx hb dX11_begin_9 rfl (lv_at hl 0 rfl) ?_
        refine lv_iconst (v := 0) hx hb dX11_begin_10 (by decide) ?_
        refine va_iast hx hb hK hP hD hS 0 0 rfl rfl (vp_in_nI (by omega) (by decide)) dX11_begin_11 (fun H locs hP hD hS => ?_)
        rw [nI_clamp (n := j91) (by omega)] at hP hD
        have hr14 : kr_t 76 (upd x5 j91 0) := kr_up hr_x5 (kr_ok0)
        have hP : va_P D vwCl [(to, .inl (y 0, 76, .inl (upd x5 j91 0)))] H := hP
        have hD : va_D A [(to, .inl (y 0, 76, .inl (upd x5 j91 0)))] := hD
        refine lv_iinc (v := (nI (j91 + 1))) (lv' := [(2, .int (nI (j91 + 1))), (0, .ref to), (1, .int x)]) hx hb dX11_begin_12 hl (k := 0) rfl (nI_1 j91) (by decide) rfl (fun ls hl => ?_)
        refine lv_goto (tgt := 2) hx hb dX11_begin_15 (by decide) ?_
        exact ihj91 (j91 + 1) (upd x5 j91 0) H locs ls (by omega) (by omega) hr14 (by rw [hI0_j91]; exact kr_bgS) (hP.sub [0] rfl) (hD.sub [0] (by decide) rfl) hS (lv_sub hl [0, 1, 2] rfl)
  exact lp10 (76 + 1) 0 ft _ _ _ (by omega) (by omega) hkt kr_bg0 hP hD hS (lv_sub hl [0, 1, 2] rfl)

set_option maxHeartbeats 4000000 in
set_option maxRecDepth 100000 in
theorem gr_layField76 (l : Launch) (D : va_G) (y : Nat → ClassId) (to : Nat) (ft : Nat → Int32) (fi : Nat) (gl : Nat) (mi : Nat) (no : Nat) (un : Nat) (x : Int32) (x2 : Int32) (hk0_ : ft 0 = (nI fi)) (hk1_ : ft 1 = (nI gl)) (hk2_ : ft 2 = (nI mi)) (hk3_ : ft 3 = (nI no)) (hk4_ : ft 4 = (nI un)) (hkt : kr_t 76 ft) (hfi : fi ≤ 6) (hgl : gl ≤ 5) (hmi : mi ≤ 4) (hno : no ≤ 6) (hun : un ≤ 8) (hA1 : fi < 6) : kw_Mv l yX11_layField wsX11_layField ({ frames := 1, cells := 0, slots := 0, locals := 60 }) D y [.ref to, .int x, .int x2] [(to, .inl (y 0, 76, .inl ft))] (fun (u : Unit) => kr_t 76 (upd (upd (upd ft (fi + 24) x) (fi + 5) x2) 0 (nI (fi + 1))) ∧ (upd (upd (upd ft (fi + 24) x) (fi + 5) x2) 0 (nI (fi + 1))) 0 = (nI (fi + 1)) ∧ (upd (upd (upd ft (fi + 24) x) (fi + 5) x2) 0 (nI (fi + 1))) 1 = (nI gl) ∧ (upd (upd (upd ft (fi + 24) x) (fi + 5) x2) 0 (nI (fi + 1))) 2 = (nI mi) ∧ (upd (upd (upd ft (fi + 24) x) (fi + 5) x2) 0 (nI (fi + 1))) 3 = (nI no) ∧ (upd (upd (upd ft (fi + 24) x) (fi + 5) x2) 0 (nI (fi + 1))) 4 = (nI un)) (fun _ => [(to, .inl (y 0, 76, .inl (upd (upd (upd ft (fi + 24) x) (fi + 5) x2) 0 (nI (fi + 1)))))]) 0 0 := by
  refine kw_Mv.of (cc := cX11_layField) (maxL := 3) (ret := none) (by decide) rfl ?_
  intro pZ eZ s mZ beZ meZ cZ A hE
  obtain ⟨hx, hb, hr, hml, hts, hown, hlocks, hin, hA, hP, hD, hK, hN⟩ := hE
  have hS : va_S A s.heap s.heap [] := va_S.rf
  have hl := lv_entry ([.ref to, .int x, .int x2]) (n := 3) (Nat.le_of_ble_eq_true rfl)
  rw [lg_entry_eq]
  generalize (lg_sl ([.ref to, .int x, .int x2]) ++ List.replicate (3 - (lg_sl ([.ref to, .int x, .int x2])).length) Slot.unset).toArray = ls at hl ⊢
  have hl : lv_has ls 3 [(0, .ref to), (1, .int x), (2, .int x2)] := hl
  refine lv_aload_n hx hb dX11_layField_0 rfl (lv_at hl 0 rfl) ?_
  refine lv_bipush (v := 24) hx hb dX11_layField_1 (by decide) ?_
  refine lv_aload_n hx hb dX11_layField_3 rfl (lv_at hl 0 rfl) ?_
  refine lv_iconst (v := 0) hx hb dX11_layField_4 (by decide) ?_
  refine va_iald hx hb hK hP 0 0 rfl rfl (by unfold vp_in; decide) dX11_layField_5 ?_
  rw [show ((0 : Int32)).toNatClampNeg = 0 from rfl]
  rw [show (ft 0) = (nI fi) from hk0_]
  refine lv_iadd hx hb dX11_layField_6 ?_
  rw [show 24 + (nI fi) = nI (fi + 24) from (nI_add 24 fi).trans (congrArg nI (by omega))]
  refine lv_iload_n hx hb dX11_layField_7 rfl (lv_at hl 1 rfl) ?_
  refine va_iast hx hb hK hP hD hS 0 0 rfl rfl (vp_in_nI (by omega) (by decide)) dX11_layField_8 (fun H locs hP hD hS => ?_)
  rw [nI_clamp (n := (fi + 24)) (by omega)] at hP hD
  have hr1 : kr_t 76 (upd ft (fi + 24) x) := kr_up hkt (kr_free (by unfold kr_a; omega) (by unfold kr_s; omega))
  have hk2 : (upd ft (fi + 24) x) 0 = (nI fi) := (pk_un (by omega)).trans hk0_
  have hk3 : (upd ft (fi + 24) x) 1 = (nI gl) := (pk_un (by omega)).trans hk1_
  have hk4 : (upd ft (fi + 24) x) 2 = (nI mi) := (pk_un (by omega)).trans hk2_
  have hk5 : (upd ft (fi + 24) x) 3 = (nI no) := (pk_un (by omega)).trans hk3_
  have hk6 : (upd ft (fi + 24) x) 4 = (nI un) := (pk_un (by omega)).trans hk4_
  have hP : va_P D vwCl [(to, .inl (y 0, 76, .inl (upd ft (fi + 24) x)))] H := hP
  have hD : va_D A [(to, .inl (y 0, 76, .inl (upd ft (fi + 24) x)))] := hD
  refine lv_aload_n hx hb dX11_layField_9 rfl (lv_at hl 0 rfl) ?_
  refine lv_iconst (v := 5) hx hb dX11_layField_10 (by decide) ?_
  refine lv_aload_n hx hb dX11_layField_11 rfl (lv_at hl 0 rfl) ?_
  refine lv_iconst (v := 0) hx hb dX11_layField_12 (by decide) ?_
  refine va_iald hx hb hK hP 0 0 rfl rfl (by unfold vp_in; decide) dX11_layField_13 ?_
  rw [show ((0 : Int32)).toNatClampNeg = 0 from rfl]
  rw [show ((upd ft (fi + 24) x) 0) = (nI fi) from hk2]
  refine lv_iadd hx hb dX11_layField_14 ?_
  rw [show 5 + (nI fi) = nI (fi + 5) from (nI_add 5 fi).trans (congrArg nI (by omega))]
  refine lv_iload_n hx hb dX11_layField_15 rfl (lv_at hl 2 rfl) ?_
  refine va_iast hx hb hK hP hD hS 0 0 rfl rfl (vp_in_nI (by omega) (by decide)) dX11_layField_16 (fun H locs hP hD hS => ?_)
  rw [nI_clamp (n := (fi + 5)) (by omega)] at hP hD
  have hr7 : kr_t 76 (upd (upd ft (fi + 24) x) (fi + 5) x2) := kr_up hr1 (kr_free (by unfold kr_a; omega) (by unfold kr_s; omega))
  have hk8 : (upd (upd ft (fi + 24) x) (fi + 5) x2) 0 = (nI fi) := (pk_un (by omega)).trans hk2
  have hk9 : (upd (upd ft (fi + 24) x) (fi + 5) x2) 1 = (nI gl) := (pk_un (by omega)).trans hk3
  have hk10 : (upd (upd ft (fi + 24) x) (fi + 5) x2) 2 = (nI mi) := (pk_un (by omega)).trans hk4
  have hk11 : (upd (upd ft (fi + 24) x) (fi + 5) x2) 3 = (nI no) := (pk_un (by omega)).trans hk5
  have hk12 : (upd (upd ft (fi + 24) x) (fi + 5) x2) 4 = (nI un) := (pk_un (by omega)).trans hk6
  have hP : va_P D vwCl [(to, .inl (y 0, 76, .inl (upd (upd ft (fi + 24) x) (fi + 5) x2)))] H := hP
  have hD : va_D A [(to, .inl (y 0, 76, .inl (upd (upd ft (fi + 24) x) (fi + 5) x2)))] := hD
  refine lv_aload_n hx hb dX11_layField_17 rfl (lv_at hl 0 rfl) ?_
  refine lv_iconst (v := 0) hx hb dX11_layField_18 (by decide) ?_
  refine lv_dup2_11 hx hb dX11_layField_19 rfl rfl ?_
  refine va_iald hx hb hK hP 0 0 rfl rfl (by unfold vp_in; decide) dX11_layField_20 ?_
  rw [show ((0 : Int32)).toNatClampNeg = 0 from rfl]
  rw [show ((upd (upd ft (fi + 24) x) (fi + 5) x2) 0) = (nI fi) from hk8]
  refine lv_iconst (v := 1) hx hb dX11_layField_21 (by decide) ?_
  refine lv_iadd hx hb dX11_layField_22 ?_
  rw [show (nI fi) + 1 = nI (fi + 1) from nI_add fi 1]
  refine va_iast hx hb hK hP hD hS 0 0 rfl rfl (by unfold vp_in; decide) dX11_layField_23 (fun H locs hP hD hS => ?_)
  rw [show ((0 : Int32)).toNatClampNeg = 0 from rfl] at hP hD
  have hr13 : kr_t 76 (upd (upd (upd ft (fi + 24) x) (fi + 5) x2) 0 (nI (fi + 1))) := kr_up hr7 (kr_free (by unfold kr_a; omega) (by unfold kr_s; omega))
  have hk14 : (upd (upd (upd ft (fi + 24) x) (fi + 5) x2) 0 (nI (fi + 1))) 1 = (nI gl) := (pk_un (by decide)).trans hk9
  have hk15 : (upd (upd (upd ft (fi + 24) x) (fi + 5) x2) 0 (nI (fi + 1))) 2 = (nI mi) := (pk_un (by decide)).trans hk10
  have hk16 : (upd (upd (upd ft (fi + 24) x) (fi + 5) x2) 0 (nI (fi + 1))) 3 = (nI no) := (pk_un (by decide)).trans hk11
  have hk17 : (upd (upd (upd ft (fi + 24) x) (fi + 5) x2) 0 (nI (fi + 1))) 4 = (nI un) := (pk_un (by decide)).trans hk12
  have hk18 : (upd (upd (upd ft (fi + 24) x) (fi + 5) x2) 0 (nI (fi + 1))) 0 = (nI (fi + 1)) := pk_us
  have hP : va_P D vwCl [(to, .inl (y 0, 76, .inl (upd (upd (upd ft (fi + 24) x) (fi + 5) x2) 0 (nI (fi + 1)))))] H := hP
  have hD : va_D A [(to, .inl (y 0, 76, .inl (upd (upd (upd ft (fi + 24) x) (fi + 5) x2) 0 (nI (fi + 1)))))] := hD
  exact W.vret hx hb hr (fun tZ ht hW => ⟨⟨(), rfl, ⟨hr13, hk18, hk14, hk15, hk16, hk17⟩, by rw [ht]; exact hP.sub [0] rfl, hD.sub [0] (by decide) rfl⟩, hS.F ht⟩) hS.2.2 dX11_layField_24
