set_option maxHeartbeats 4000000 in
set_option maxRecDepth 100000 in
theorem gr_layGleaner76 (l : Launch) (D : va_G) (y : Nat → ClassId) (to : Nat) (ft : Nat → Int32) (fi : Nat) (gl : Nat) (mi : Nat) (no : Nat) (un : Nat) (k : Nat) (hk0_ : ft 0 = (nI fi)) (hk1_ : ft 1 = (nI gl)) (hk2_ : ft 2 = (nI mi)) (hk3_ : ft 3 = (nI no)) (hk4_ : ft 4 = (nI un)) (hkt : kr_t 76 ft) (hfi : fi ≤ 6) (hgl : gl ≤ 5) (hmi : mi ≤ 4) (hno : no ≤ 6) (hun : un ≤ 8) (hA1 : gl < 5) (hA2 : k < 6) : kw_Mv l yX11_layGleaner wsX11_layGleaner ({ frames := 1, cells := 0, slots := 0, locals := 60 }) D y [.ref to, .int (nI k)] [(to, .inl (y 0, 76, .inl ft))] (fun (u : Unit) => kr_t 76 (upd (upd (upd ft (gl + 11) (nI k)) (gl + 16) 0) 1 (nI (gl + 1))) ∧ (upd (upd (upd ft (gl + 11) (nI k)) (gl + 16) 0) 1 (nI (gl + 1))) 0 = (nI fi) ∧ (upd (upd (upd ft (gl + 11) (nI k)) (gl + 16) 0) 1 (nI (gl + 1))) 1 = (nI (gl + 1)) ∧ (upd (upd (upd ft (gl + 11) (nI k)) (gl + 16) 0) 1 (nI (gl + 1))) 2 = (nI mi) ∧ (upd (upd (upd ft (gl + 11) (nI k)) (gl + 16) 0) 1 (nI (gl + 1))) 3 = (nI no) ∧ (upd (upd (upd ft (gl + 11) (nI k)) (gl + 16) 0) 1 (nI (gl + 1))) 4 = (nI un)) (fun _ => [(to, .inl (y 0, 76, .inl (upd (upd (upd ft (gl + 11) (nI k)) (gl + 16) 0) 1 (nI (gl + 1)))))]) 0 0 := by
  refine kw_Mv.of (cc := cX11_layGleaner) (maxL := 2) (ret := none) (by decide) rfl ?_
  intro pZ eZ s mZ beZ meZ cZ A hE
  obtain ⟨hx, hb, hr, hml, hts, hown, hlocks, hin, hA, hP, hD, hK, hN⟩ := hE
  have hS : va_S A s.heap s.heap [] := va_S.rf
  have hl := lv_entry ([.ref to, .int (nI k)]) (n := 2) (Nat.le_of_ble_eq_true rfl)
  rw [lg_entry_eq]
  generalize (lg_sl ([.ref to, .int (nI k)]) ++ List.replicate (2 - (lg_sl ([.ref to, .int (nI k)])).length) Slot.unset).toArray = ls at hl ⊢
  have hl : lv_has ls 2 [(0, .ref to), (1, .int (nI k))] := hl
  refine lv_aload_n hx hb dX11_layGleaner_0 rfl (lv_at hl 0 rfl) ?_
  refine lv_bipush (v := 11) hx hb dX11_layGleaner_1 (by decide) ?_
  refine lv_aload_n hx hb dX11_layGleaner_3 rfl (lv_at hl 0 rfl) ?_
  refine lv_iconst (v := 1) hx hb dX11_layGleaner_4 (by decide) ?_
  refine va_iald hx hb hK hP 0 0 rfl rfl (by unfold vp_in; decide) dX11_layGleaner_5 ?_
  rw [show ((1 : Int32)).toNatClampNeg = 1 from rfl]
  rw [show (ft 1) = (nI gl) from hk1_]
  refine lv_iadd hx hb dX11_layGleaner_6 ?_
  rw [show 11 + (nI gl) = nI (gl + 11) from (nI_add 11 gl).trans (congrArg nI (by omega))]
  refine lv_iload_n hx hb dX11_layGleaner_7 rfl (lv_at hl 1 rfl) ?_
  refine va_iast hx hb hK hP hD hS 0 0 rfl rfl (vp_in_nI (by omega) (by decide)) dX11_layGleaner_8 (fun H locs hP hD hS => ?_)
  rw [nI_clamp (n := (gl + 11)) (by omega)] at hP hD
  have hr1 : kr_t 76 (upd ft (gl + 11) (nI k)) := kr_up hkt (kr_oka (vp_in_nI (by omega) (by decide)) (by unfold kr_s; omega))
  have hk2 : (upd ft (gl + 11) (nI k)) 0 = (nI fi) := (pk_un (by omega)).trans hk0_
  have hk3 : (upd ft (gl + 11) (nI k)) 1 = (nI gl) := (pk_un (by omega)).trans hk1_
  have hk4 : (upd ft (gl + 11) (nI k)) 2 = (nI mi) := (pk_un (by omega)).trans hk2_
  have hk5 : (upd ft (gl + 11) (nI k)) 3 = (nI no) := (pk_un (by omega)).trans hk3_
  have hk6 : (upd ft (gl + 11) (nI k)) 4 = (nI un) := (pk_un (by omega)).trans hk4_
  have hP : va_P D vwCl [(to, .inl (y 0, 76, .inl (upd ft (gl + 11) (nI k))))] H := hP
  have hD : va_D A [(to, .inl (y 0, 76, .inl (upd ft (gl + 11) (nI k))))] := hD
  refine lv_aload_n hx hb dX11_layGleaner_9 rfl (lv_at hl 0 rfl) ?_
  refine lv_bipush (v := 16) hx hb dX11_layGleaner_10 (by decide) ?_
  refine lv_aload_n hx hb dX11_layGleaner_12 rfl (lv_at hl 0 rfl) ?_
  refine lv_iconst (v := 1) hx hb dX11_layGleaner_13 (by decide) ?_
  refine va_iald hx hb hK hP 0 0 rfl rfl (by unfold vp_in; decide) dX11_layGleaner_14 ?_
  rw [show ((1 : Int32)).toNatClampNeg = 1 from rfl]
  rw [show ((upd ft (gl + 11) (nI k)) 1) = (nI gl) from hk3]
  refine lv_iadd hx hb dX11_layGleaner_15 ?_
  rw [show 16 + (nI gl) = nI (gl + 16) from (nI_add 16 gl).trans (congrArg nI (by omega))]
  refine lv_iconst (v := 0) hx hb dX11_layGleaner_16 (by decide) ?_
  refine va_iast hx hb hK hP hD hS 0 0 rfl rfl (vp_in_nI (by omega) (by decide)) dX11_layGleaner_17 (fun H locs hP hD hS => ?_)
  rw [nI_clamp (n := (gl + 16)) (by omega)] at hP hD
  have hr7 : kr_t 76 (upd (upd ft (gl + 11) (nI k)) (gl + 16) 0) := kr_up hr1 (kr_ok0)
  have hk8 : (upd (upd ft (gl + 11) (nI k)) (gl + 16) 0) 0 = (nI fi) := (pk_un (by omega)).trans hk2
  have hk9 : (upd (upd ft (gl + 11) (nI k)) (gl + 16) 0) 1 = (nI gl) := (pk_un (by omega)).trans hk3
  have hk10 : (upd (upd ft (gl + 11) (nI k)) (gl + 16) 0) 2 = (nI mi) := (pk_un (by omega)).trans hk4
  have hk11 : (upd (upd ft (gl + 11) (nI k)) (gl + 16) 0) 3 = (nI no) := (pk_un (by omega)).trans hk5
  have hk12 : (upd (upd ft (gl + 11) (nI k)) (gl + 16) 0) 4 = (nI un) := (pk_un (by omega)).trans hk6
  have hP : va_P D vwCl [(to, .inl (y 0, 76, .inl (upd (upd ft (gl + 11) (nI k)) (gl + 16) 0)))] H := hP
  have hD : va_D A [(to, .inl (y 0, 76, .inl (upd (upd ft (gl + 11) (nI k)) (gl + 16) 0)))] := hD
  refine lv_aload_n hx hb dX11_layGleaner_18 rfl (lv_at hl 0 rfl) ?_
  refine lv_iconst (v := 1) hx hb dX11_layGleaner_19 (by decide) ?_
  refine lv_dup2_11 hx hb dX11_layGleaner_20 rfl rfl ?_
  refine va_iald hx hb hK hP 0 0 rfl rfl (by unfold vp_in; decide) dX11_layGleaner_21 ?_
  rw [show ((1 : Int32)).toNatClampNeg = 1 from rfl]
  rw [show ((upd (upd ft (gl + 11) (nI k)) (gl + 16) 0) 1) = (nI gl) from hk9]
  refine lv_iconst (v := 1) hx hb dX11_layGleaner_22 (by decide) ?_
  refine lv_iadd hx hb dX11_layGleaner_23 ?_
  rw [show (nI gl) + 1 = nI (gl + 1) from nI_add gl 1]
  refine va_iast hx hb hK hP hD hS 0 0 rfl rfl (by unfold vp_in; decide) dX11_layGleaner_24 (fun H locs hP hD hS => ?_)
  rw [show ((1 : Int32)).toNatClampNeg = 1 from rfl] at hP hD
  have hr13 : kr_t 76 (upd (upd (upd ft (gl + 11) (nI k)) (gl + 16) 0) 1 (nI (gl + 1))) := kr_up hr7 (kr_free (by unfold kr_a; omega) (by unfold kr_s; omega))
  have hk14 : (upd (upd (upd ft (gl + 11) (nI k)) (gl + 16) 0) 1 (nI (gl + 1))) 0 = (nI fi) := (pk_un (by decide)).trans hk8
  have hk15 : (upd (upd (upd ft (gl + 11) (nI k)) (gl + 16) 0) 1 (nI (gl + 1))) 2 = (nI mi) := (pk_un (by decide)).trans hk10
  have hk16 : (upd (upd (upd ft (gl + 11) (nI k)) (gl + 16) 0) 1 (nI (gl + 1))) 3 = (nI no) := (pk_un (by decide)).trans hk11
  have hk17 : (upd (upd (upd ft (gl + 11) (nI k)) (gl + 16) 0) 1 (nI (gl + 1))) 4 = (nI un) := (pk_un (by decide)).trans hk12
  have hk18 : (upd (upd (upd ft (gl + 11) (nI k)) (gl + 16) 0) 1 (nI (gl + 1))) 1 = (nI (gl + 1)) := pk_us
  have hP : va_P D vwCl [(to, .inl (y 0, 76, .inl (upd (upd (upd ft (gl + 11) (nI k)) (gl + 16) 0) 1 (nI (gl + 1)))))] H := hP
  have hD : va_D A [(to, .inl (y 0, 76, .inl (upd (upd (upd ft (gl + 11) (nI k)) (gl + 16) 0) 1 (nI (gl + 1)))))] := hD
  exact W.vret hx hb hr (fun tZ ht hW => ⟨⟨(), rfl, ⟨hr13, hk14, hk18, hk15, hk16, hk17⟩, by rw [ht]; exact hP.sub [0] rfl, hD.sub [0] (by decide) rfl⟩, hS.F ht⟩) hS.2.2 dX11_layGleaner_25

set_option maxHeartbeats 4000000 in
set_option maxRecDepth 100000 in
theorem gr_plainly (l : Launch) (D : va_G) (y : Nat → ClassId) (x : Int32) (x2 : Int32) (x3 : Int32)  : kw_Mi l yX11_plainly wsX11_plainly ({ frames := 1, cells := 0, slots := 0, locals := 60 }) D y [.int x, .int x2, .int x3] [] (fun (r : Int32) (u : Unit) => True) (fun _ => []) 0 0 := by
  refine kw_Mi.of (cc := cX11_plainly) (maxL := 4) (ret := (some .int)) (by decide) rfl ?_
  intro pZ eZ s mZ beZ meZ cZ A hE
  obtain ⟨hx, hb, hr, hml, hts, hown, hlocks, hin, hA, hP, hD, hK, hN⟩ := hE
  have hS : va_S A s.heap s.heap [] := va_S.rf
  have hl := lv_entry ([.int x, .int x2, .int x3]) (n := 4) (Nat.le_of_ble_eq_true rfl)
  rw [lg_entry_eq]
  generalize (lg_sl ([.int x, .int x2, .int x3]) ++ List.replicate (4 - (lg_sl ([.int x, .int x2, .int x3])).length) Slot.unset).toArray = ls at hl ⊢
  have hl : lv_has ls 4 [(0, .int x), (1, .int x2), (2, .int x3)] := hl
  refine lv_iload_n hx hb dX11_plainly_0 rfl (lv_at hl 0 rfl) ?_
  refine lv_iconst (v := 2) hx hb dX11_plainly_1 (by decide) ?_
  refine lv_iload_n hx hb dX11_plainly_2 rfl (lv_at hl 1 rfl) ?_
  refine lv_imul hx hb dX11_plainly_3 ?_
  refine lv_isub hx hb dX11_plainly_4 ?_
  refine lv_iload_n hx hb dX11_plainly_5 rfl (lv_at hl 2 rfl) ?_
  refine lv_isub hx hb dX11_plainly_6 ?_
  refine lv_istore_n (lv' := [(3, .int ((x - (2 * x2)) - x3)), (0, .int x), (1, .int x2), (2, .int x3)]) hx hb dX11_plainly_7 rfl hl (by decide) rfl (fun ls hl => ?_)
  refine lv_iload_n hx hb dX11_plainly_8 rfl (lv_at hl 0 rfl) ?_
  refine lv_if_ge (tgt := 16) hx hb dX11_plainly_9 (by decide) (fun h1 => ?_) (fun h2 => ?_)
  · skip
    refine lv_iload_n hx hb dX11_plainly_16 rfl (lv_at hl 0 rfl) ?_
    exact W.iret (v := ((x - (2 * x2)) - x3)) hx hb hr (fun tZ ht hW => ⟨⟨((x - (2 * x2)) - x3), (), rfl, trivial, by rw [ht]; exact hP.sub [] rfl, hD.sub [] (by decide) rfl⟩, hS.F ht⟩) hS.2.2 dX11_plainly_17
  · skip
    refine lv_iconst (v := 0) hx hb dX11_plainly_12 (by decide) ?_
    refine lv_goto (tgt := 17) hx hb dX11_plainly_13 (by decide) ?_
    exact W.iret (v := 0) hx hb hr (fun tZ ht hW => ⟨⟨0, (), rfl, trivial, by rw [ht]; exact hP.sub [] rfl, hD.sub [] (by decide) rfl⟩, hS.F ht⟩) hS.2.2 dX11_plainly_17

set_option maxHeartbeats 4000000 in
set_option maxRecDepth 100000 in
theorem gr_westerly (l : Launch) (D : va_G) (y : Nat → ClassId) (x : Int32) (x2 : Int32) (x3 : Int32)  : kw_Mi l yX11_westerly wsX11_westerly ({ frames := 2, cells := 0, slots := 0, locals := 83 }) D y [.int x, .int x2, .int x3] [] (fun (r : Int32) (u : Unit) => True) (fun _ => []) 0 0 := by
  refine kw_Mi.of (cc := cX11_westerly) (maxL := 3) (ret := (some .int)) (by decide) rfl ?_
  intro pZ eZ s mZ beZ meZ cZ A hE
  obtain ⟨hx, hb, hr, hml, hts, hown, hlocks, hin, hA, hP, hD, hK, hN⟩ := hE
  have hS : va_S A s.heap s.heap [] := va_S.rf
  have hl := lv_entry ([.int x, .int x2, .int x3]) (n := 3) (Nat.le_of_ble_eq_true rfl)
  rw [lg_entry_eq]
  generalize (lg_sl ([.int x, .int x2, .int x3]) ++ List.replicate (3 - (lg_sl ([.int x, .int x2, .int x3])).length) Slot.unset).toArray = ls at hl ⊢
  have hl : lv_has ls 3 [(0, .int x), (1, .int x2), (2, .int x3)] := hl
  refine lv_iload_n hx hb dX11_westerly_0 rfl (lv_at hl 0 rfl) ?_
  refine lv_iload_n hx hb dX11_westerly_1 rfl (lv_at hl 1 rfl) ?_
  refine lv_iload_n hx hb dX11_westerly_2 rfl (lv_at hl 2 rfl) ?_
  have hs1 : kw_Split [] [] [] [] [] := ⟨rfl, rfl, rfl, rfl, rfl, by decide⟩
  refine kw_go_i hs1 hP hD hS hA (va_runS (As := [.int x, .int x2, .int x3]) (rest := []) ⟨hx, hb, hml, hown, hts⟩ (gr_plainly l D y x x2 x3  _) (va_cwS 3 hts gX11_westerly_X11_plainly rfl rfl rfl (by decide +kernel) ⟨Nat.le_of_ble_eq_true rfl, Nat.le_of_ble_eq_true rfl⟩) (kw_PreS hs1 hP hD hK hN) rfl rfl hl.1 rfl (lv_room (Nat.le_of_ble_eq_true rfl)) dX11_westerly_3 ⟨Nat.le_of_ble_eq_true rfl, Nat.le_of_ble_eq_true rfl⟩) (fun r2 u3 H locs hq hP hD hS => ?_)
  have hP : va_P D vwCl [] H := hP
  have hD : va_D A [] := hD
  refine lv_iload_n hx hb dX11_westerly_6 rfl (lv_at hl 1 rfl) ?_
  refine lv_bipush (v := 6) hx hb dX11_westerly_7 (by decide) ?_
  refine lv_icmp_lt (tgt := 21) hx hb dX11_westerly_9 (by decide) (fun h4 => ?_) (fun h5 => ?_)
  · skip
    refine lv_iconst (v := 0) hx hb dX11_westerly_21 (by decide) ?_
    refine lv_iadd hx hb dX11_westerly_22 ?_
    exact W.iret (v := (r2 + 0)) hx hb hr (fun tZ ht hW => ⟨⟨(r2 + 0), (), rfl, trivial, by rw [ht]; exact hP.sub [] rfl, hD.sub [] (by decide) rfl⟩, hS.F ht⟩) hS.2.2 dX11_westerly_23
  · skip
    refine lv_iload_n hx hb dX11_westerly_12 rfl (lv_at hl 0 rfl) ?_
    refine lv_iconst (v := 1) hx hb dX11_westerly_13 (by decide) ?_
    refine lv_icmp_lt (tgt := 21) hx hb dX11_westerly_14 (by decide) (fun h6 => ?_) (fun h7 => ?_)
    · skip
      refine lv_iconst (v := 0) hx hb dX11_westerly_21 (by decide) ?_
      refine lv_iadd hx hb dX11_westerly_22 ?_
      exact W.iret (v := (r2 + 0)) hx hb hr (fun tZ ht hW => ⟨⟨(r2 + 0), (), rfl, trivial, by rw [ht]; exact hP.sub [] rfl, hD.sub [] (by decide) rfl⟩, hS.F ht⟩) hS.2.2 dX11_westerly_23
    · skip
      refine lv_iload_n hx hb dX11_westerly_17 rfl (lv_at hl 1 rfl) ?_
      refine lv_goto (tgt := 22) hx hb dX11_westerly_18 (by decide) ?_
      refine lv_iadd hx hb dX11_westerly_22 ?_
      exact W.iret (v := (r2 + x2)) hx hb hr (fun tZ ht hW => ⟨⟨(r2 + x2), (), rfl, trivial, by rw [ht]; exact hP.sub [] rfl, hD.sub [] (by decide) rfl⟩, hS.F ht⟩) hS.2.2 dX11_westerly_23

set_option maxHeartbeats 4000000 in
set_option maxRecDepth 100000 in
theorem gr_seenAs (l : Launch) (D : va_G) (y : Nat → ClassId) (x : Int32) (x2 : Int32) (x3 : Int32) (x4 : Int32)  : kw_Mi l yX11_seenAs wsX11_seenAs ({ frames := 3, cells := 0, slots := 0, locals := 105 }) D y [.int x, .int x2, .int x3, .int x4] [] (fun (r : Int32) (u : Unit) => True) (fun _ => []) 0 0 := by
  refine kw_Mi.of (cc := cX11_seenAs) (maxL := 5) (ret := (some .int)) (by decide) rfl ?_
  intro pZ eZ s mZ beZ meZ cZ A hE
  obtain ⟨hx, hb, hr, hml, hts, hown, hlocks, hin, hA, hP, hD, hK, hN⟩ := hE
  have hS : va_S A s.heap s.heap [] := va_S.rf
  have hl := lv_entry ([.int x, .int x2, .int x3, .int x4]) (n := 5) (Nat.le_of_ble_eq_true rfl)
  rw [lg_entry_eq]
  generalize (lg_sl ([.int x, .int x2, .int x3, .int x4]) ++ List.replicate (5 - (lg_sl ([.int x, .int x2, .int x3, .int x4])).length) Slot.unset).toArray = ls at hl ⊢
  have hl : lv_has ls 5 [(0, .int x), (1, .int x2), (2, .int x3), (3, .int x4)] := hl
  refine lv_iload_n hx hb dX11_seenAs_0 rfl (lv_at hl 1 rfl) ?_
  refine lv_iload_n hx hb dX11_seenAs_1 rfl (lv_at hl 2 rfl) ?_
  refine lv_iload_n hx hb dX11_seenAs_2 rfl (lv_at hl 3 rfl) ?_
  have hs1 : kw_Split [] [] [] [] [] := ⟨rfl, rfl, rfl, rfl, rfl, by decide⟩
  refine kw_go_i hs1 hP hD hS hA (va_runS (As := [.int x2, .int x3, .int x4]) (rest := []) ⟨hx, hb, hml, hown, hts⟩ (gr_plainly l D y x2 x3 x4  _) (va_cwS 3 hts gX11_seenAs_X11_plainly rfl rfl rfl (by decide +kernel) ⟨Nat.le_of_ble_eq_true rfl, Nat.le_of_ble_eq_true rfl⟩) (kw_PreS hs1 hP hD hK hN) rfl rfl hl.1 rfl (lv_room (Nat.le_of_ble_eq_true rfl)) dX11_seenAs_3 ⟨Nat.le_of_ble_eq_true rfl, Nat.le_of_ble_eq_true rfl⟩) (fun r2 u3 H locs hq hP hD hS => ?_)
  have hP : va_P D vwCl [] H := hP
  have hD : va_D A [] := hD
  refine lv_istore (lv' := [(4, .int r2), (0, .int x), (1, .int x2), (2, .int x3), (3, .int x4)]) hx hb dX11_seenAs_6 hl (by decide) rfl (fun ls hl => ?_)
  refine lv_iload_n hx hb dX11_seenAs_8 rfl (lv_at hl 1 rfl) ?_
  by_cases h4 : x = 1
  · skip
    subst h4
    refine lv_tableIn (off := 35) (tgt := 44) hx hb dX11_seenAs_9 (by decide) (by decide) (by decide +kernel) (by decide) ?_
    refine lv_iload_n hx hb dX11_seenAs_44 rfl (lv_at hl 2 rfl) ?_
    refine lv_iload_n hx hb dX11_seenAs_45 rfl (lv_at hl 3 rfl) ?_
    refine lv_iload_n hx hb dX11_seenAs_46 rfl (lv_at hl 4 rfl) ?_
    have hs5 : kw_Split [] [] [] [] [] := ⟨rfl, rfl, rfl, rfl, rfl, by decide⟩
    refine kw_go_i hs5 hP hD hS hA (va_runS (As := [.int x2, .int x3, .int x4]) (rest := []) ⟨hx, hb, hml, hown, hts⟩ (gr_westerly l D y x2 x3 x4  _) (va_cwS 3 hts gX11_seenAs_X11_westerly rfl rfl rfl (by decide +kernel) ⟨Nat.le_of_ble_eq_true rfl, Nat.le_of_ble_eq_true rfl⟩) (kw_PreS hs5 hP hD hK hN) rfl rfl hl.1 rfl (lv_room (Nat.le_of_ble_eq_true rfl)) dX11_seenAs_47 ⟨Nat.le_of_ble_eq_true rfl, Nat.le_of_ble_eq_true rfl⟩) (fun r6 u7 H locs hq hP hD hS => ?_)
    have hP : va_P D vwCl [] H := hP
    have hD : va_D A [] := hD
    exact W.iret (v := r6) hx hb hr (fun tZ ht hW => ⟨⟨r6, (), rfl, trivial, by rw [ht]; exact hP.sub [] rfl, hD.sub [] (by decide) rfl⟩, hS.F ht⟩) hS.2.2 dX11_seenAs_50
  by_cases h8 : x = 2
  · skip
    subst h8
    refine lv_tableIn (off := 42) (tgt := 51) hx hb dX11_seenAs_9 (by decide) (by decide) (by decide +kernel) (by decide) ?_
    refine lv_iload hx hb dX11_seenAs_51 (lv_at hl 0 rfl) ?_
    refine lv_iconst (v := 2) hx hb dX11_seenAs_53 (by decide) ?_
    refine lv_idiv hx hb dX11_seenAs_54 (by decide) ?_
    exact W.iret (v := (r2 / 2)) hx hb hr (fun tZ ht hW => ⟨⟨(r2 / 2), (), rfl, trivial, by rw [ht]; exact hP.sub [] rfl, hD.sub [] (by decide) rfl⟩, hS.F ht⟩) hS.2.2 dX11_seenAs_55
  by_cases h9 : x = 3
  · skip
    subst h9
    refine lv_tableIn (off := 47) (tgt := 56) hx hb dX11_seenAs_9 (by decide) (by decide) (by decide +kernel) (by decide) ?_
    refine lv_iload hx hb dX11_seenAs_56 (lv_at hl 0 rfl) ?_
    refine lv_iload_n hx hb dX11_seenAs_58 rfl (lv_at hl 4 rfl) ?_
    refine lv_iadd hx hb dX11_seenAs_59 ?_
    refine lv_iload_n hx hb dX11_seenAs_60 rfl (lv_at hl 2 rfl) ?_
    refine lv_icmp_ge (tgt := 71) hx hb dX11_seenAs_61 (by decide) (fun h10 => ?_) (fun h11 => ?_)
    · skip
      refine lv_iload_n hx hb dX11_seenAs_71 rfl (lv_at hl 2 rfl) ?_
      exact W.iret (v := x2) hx hb hr (fun tZ ht hW => ⟨⟨x2, (), rfl, trivial, by rw [ht]; exact hP.sub [] rfl, hD.sub [] (by decide) rfl⟩, hS.F ht⟩) hS.2.2 dX11_seenAs_72
    · skip
      refine lv_iload hx hb dX11_seenAs_64 (lv_at hl 0 rfl) ?_
      refine lv_iload_n hx hb dX11_seenAs_66 rfl (lv_at hl 4 rfl) ?_
      refine lv_iadd hx hb dX11_seenAs_67 ?_
      refine lv_goto (tgt := 72) hx hb dX11_seenAs_68 (by decide) ?_
      exact W.iret (v := (r2 + x4)) hx hb hr (fun tZ ht hW => ⟨⟨(r2 + x4), (), rfl, trivial, by rw [ht]; exact hP.sub [] rfl, hD.sub [] (by decide) rfl⟩, hS.F ht⟩) hS.2.2 dX11_seenAs_72
  by_cases h12 : x = 4
  · skip
    subst h12
    refine lv_tableIn (off := 64) (tgt := 73) hx hb dX11_seenAs_9 (by decide) (by decide) (by decide +kernel) (by decide) ?_
    refine lv_iload_n hx hb dX11_seenAs_73 rfl (lv_at hl 2 rfl) ?_
    refine lv_iload_n hx hb dX11_seenAs_74 rfl (lv_at hl 3 rfl) ?_
    refine lv_iload_n hx hb dX11_seenAs_75 rfl (lv_at hl 4 rfl) ?_
    refine lv_iconst (v := 3) hx hb dX11_seenAs_76 (by decide) ?_
    refine lv_icmp_ge (tgt := 84) hx hb dX11_seenAs_77 (by decide) (fun h13 => ?_) (fun h14 => ?_)
    · skip
      refine lv_iload_n hx hb dX11_seenAs_84 rfl (lv_at hl 4 rfl) ?_
      refine lv_iconst (v := 3) hx hb dX11_seenAs_85 (by decide) ?_
      refine lv_isub hx hb dX11_seenAs_86 ?_
      have hs15 : kw_Split [] [] [] [] [] := ⟨rfl, rfl, rfl, rfl, rfl, by decide⟩
      refine kw_go_i hs15 hP hD hS hA (va_runS (As := [.int x2, .int x3, .int (x4 - 3)]) (rest := []) ⟨hx, hb, hml, hown, hts⟩ (gr_westerly l D y x2 x3 (x4 - 3)  _) (va_cwS 3 hts gX11_seenAs_X11_westerly rfl rfl rfl (by decide +kernel) ⟨Nat.le_of_ble_eq_true rfl, Nat.le_of_ble_eq_true rfl⟩) (kw_PreS hs15 hP hD hK hN) rfl rfl hl.1 rfl (lv_room (Nat.le_of_ble_eq_true rfl)) dX11_seenAs_87 ⟨Nat.le_of_ble_eq_true rfl, Nat.le_of_ble_eq_true rfl⟩) (fun r16 u17 H locs hq hP hD hS => ?_)
      have hP : va_P D vwCl [] H := hP
      have hD : va_D A [] := hD
      exact W.iret (v := r16) hx hb hr (fun tZ ht hW => ⟨⟨r16, (), rfl, trivial, by rw [ht]; exact hP.sub [] rfl, hD.sub [] (by decide) rfl⟩, hS.F ht⟩) hS.2.2 dX11_seenAs_90
    · skip
      refine lv_iconst (v := 0) hx hb dX11_seenAs_80 (by decide) ?_
      refine lv_goto (tgt := 87) hx hb dX11_seenAs_81 (by decide) ?_
      have hs18 : kw_Split [] [] [] [] [] := ⟨rfl, rfl, rfl, rfl, rfl, by decide⟩
      refine kw_go_i hs18 hP hD hS hA (va_runS (As := [.int x2, .int x3, .int 0]) (rest := []) ⟨hx, hb, hml, hown, hts⟩ (gr_westerly l D y x2 x3 0  _) (va_cwS 3 hts gX11_seenAs_X11_westerly rfl rfl rfl (by decide +kernel) ⟨Nat.le_of_ble_eq_true rfl, Nat.le_of_ble_eq_true rfl⟩) (kw_PreS hs18 hP hD hK hN) rfl rfl hl.1 rfl (lv_room (Nat.le_of_ble_eq_true rfl)) dX11_seenAs_87 ⟨Nat.le_of_ble_eq_true rfl, Nat.le_of_ble_eq_true rfl⟩) (fun r19 u20 H locs hq hP hD hS => ?_)
      have hP : va_P D vwCl [] H := hP
      have hD : va_D A [] := hD
      exact W.iret (v := r19) hx hb hr (fun tZ ht hW => ⟨⟨r19, (), rfl, trivial, by rw [ht]; exact hP.sub [] rfl, hD.sub [] (by decide) rfl⟩, hS.F ht⟩) hS.2.2 dX11_seenAs_90
  by_cases h21 : x = 5
  · skip
    subst h21
    refine lv_tableIn (off := 82) (tgt := 91) hx hb dX11_seenAs_9 (by decide) (by decide) (by decide +kernel) (by decide) ?_
    refine lv_iload_n hx hb dX11_seenAs_91 rfl (lv_at hl 3 rfl) ?_
    refine lv_bipush (v := 8) hx hb dX11_seenAs_92 (by decide) ?_
    refine lv_icmp_lt (tgt := 101) hx hb dX11_seenAs_94 (by decide) (fun h22 => ?_) (fun h23 => ?_)
    · skip
      refine lv_iload hx hb dX11_seenAs_101 (lv_at hl 0 rfl) ?_
      refine lv_iconst (v := 2) hx hb dX11_seenAs_103 (by decide) ?_
      refine lv_idiv hx hb dX11_seenAs_104 (by decide) ?_
      exact W.iret (v := (r2 / 2)) hx hb hr (fun tZ ht hW => ⟨⟨(r2 / 2), (), rfl, trivial, by rw [ht]; exact hP.sub [] rfl, hD.sub [] (by decide) rfl⟩, hS.F ht⟩) hS.2.2 dX11_seenAs_105
    · skip
      refine lv_iconst (v := 0) hx hb dX11_seenAs_97 (by decide) ?_
      refine lv_goto (tgt := 105) hx hb dX11_seenAs_98 (by decide) ?_
      exact W.iret (v := 0) hx hb hr (fun tZ ht hW => ⟨⟨0, (), rfl, trivial, by rw [ht]; exact hP.sub [] rfl, hD.sub [] (by decide) rfl⟩, hS.F ht⟩) hS.2.2 dX11_seenAs_105
  refine lv_tableOut (tgt := 106) hx hb dX11_seenAs_9 (kr_out1_5 h4 h8 h9 h12 h21) (by decide) ?_
  refine lv_iload hx hb dX11_seenAs_106 (lv_at hl 0 rfl) ?_
  exact W.iret (v := r2) hx hb hr (fun tZ ht hW => ⟨⟨r2, (), rfl, trivial, by rw [ht]; exact hP.sub [] rfl, hD.sub [] (by decide) rfl⟩, hS.F ht⟩) hS.2.2 dX11_seenAs_108

set_option maxHeartbeats 4000000 in
set_option maxRecDepth 100000 in
theorem gr_layHand (l : Launch) (D : va_G) (y : Nat → ClassId) (mo : Nat) (to : Nat) (ke : Nat) (ik : Nat) (mrf : Nat) (ha : Nat) (r0 : Nat) (mbr : Nat) (mbp : Nat) (mby : Nat) (an : Nat) (va : Nat) (mab : Int64) (mbl : Int64) (bl : Nat) (ta : Nat) (tl : Nat) (tk : Nat) (vv : Int32) (ft : Nat → Int32) (fi : Nat) (gl : Nat) (mi : Nat) (no : Nat) (un : Nat) (fh : Nat → Int32) (hk0_ : ft 0 = (nI fi)) (hk1_ : ft 1 = (nI gl)) (hk2_ : ft 2 = (nI mi)) (hk3_ : ft 3 = (nI no)) (hk4_ : ft 4 = (nI un)) (hkt : kr_t 228 ft) (hfi : fi ≤ 6) (hgl : gl ≤ 5) (hmi : mi ≤ 4) (hno : no ≤ 6) (hun : un ≤ 8) (hkh : kr_t 30 fh) : kw_Mv l yX11_layHand wsX11_layHand ({ frames := 1, cells := 0, slots := 0, locals := 60 }) D y [.ref mo] [(mo, .inr (11, [.ref to, .ref ke, .ref ik, .ref mrf, .long mab, .long mbl, .ref ha, .ref r0, .ref mbr, .ref mbp, .ref mby, .int (nI bl), .int (nI ta), .int (nI tl), .int (nI tk), .int vv, .ref an, .ref va])), (to, .inl (y 0, 228, .inl ft)), (ha, .inl (y 0, 30, .inl fh))] (fun (u : Unit) => kr_t 30 (kr_cp fh ft 30)) (fun _ => [(mo, .inr (11, [.ref to, .ref ke, .ref ik, .ref mrf, .long mab, .long mbl, .ref ha, .ref r0, .ref mbr, .ref mbp, .ref mby, .int (nI bl), .int (nI ta), .int (nI tl), .int (nI tk), .int vv, .ref an, .ref va])), (to, .inl (y 0, 228, .inl ft)), (ha, .inl (y 0, 30, .inl (kr_cp fh ft 30)))]) 0 0 := by
  refine kw_Mv.of (cc := cX11_layHand) (maxL := 2) (ret := none) (by decide) rfl ?_
  intro pZ eZ s mZ beZ meZ cZ A hE
  obtain ⟨hx, hb, hr, hml, hts, hown, hlocks, hin, hA, hP, hD, hK, hN⟩ := hE
  have hS : va_S A s.heap s.heap [] := va_S.rf
  have hl := lv_entry ([.ref mo]) (n := 2) (Nat.le_of_ble_eq_true rfl)
  rw [lg_entry_eq]
  generalize (lg_sl ([.ref mo]) ++ List.replicate (2 - (lg_sl ([.ref mo])).length) Slot.unset).toArray = ls at hl ⊢
  have hl : lv_has ls 2 [(0, .ref mo)] := hl
  have fw1 := hts (.fieldLink RX11 27 "GleanDuskModel" "hand" "[I") (List.mem_of_getElem? (i := 1) rfl)
  have fw2 := hts (.fieldLink RX11 7 "GleanDuskModel" "told" "[I") (List.mem_of_getElem? (i := 2) rfl)
  have iw11 : ∀ w ∈ wsX110, w ∈ wsX11_layHand := fun _ h => List.mem_cons_of_mem _ (List.mem_append_right _ h)
  refine lv_iconst (v := 0) hx hb dX11_layHand_0 (by decide) ?_
  refine lv_istore_n (lv' := [(1, .int 0), (0, .ref mo)]) hx hb dX11_layHand_1 rfl hl (by decide) rfl (fun ls hl => ?_)
  have lp8 : ∀ (fuj91 j91 : Nat) (x4 : Nat → Int32) (H : Heap) (locs : List Loc) (ls : Array Slot), j91 ≤ 30 → 30 - j91 < fuj91 → kr_t 30 x4 → x4 = kr_cp fh ft j91 → va_P D vwCl [(mo, .inr (11, [.ref to, .ref ke, .ref ik, .ref mrf, .long mab, .long mbl, .ref ha, .ref r0, .ref mbr, .ref mbp, .ref mby, .int (nI bl), .int (nI ta), .int (nI tl), .int (nI tk), .int vv, .ref an, .ref va])), (to, .inl (y 0, 228, .inl ft)), (ha, .inl (y 0, 30, .inl x4))] H → va_D A [(mo, .inr (11, [.ref to, .ref ke, .ref ik, .ref mrf, .long mab, .long mbl, .ref ha, .ref r0, .ref mbr, .ref mbp, .ref mby, .int (nI bl), .int (nI ta), .int (nI tl), .int (nI tk), .int vv, .ref an, .ref va])), (to, .inl (y 0, 228, .inl ft)), (ha, .inl (y 0, 30, .inl x4))] → va_S A s.heap H locs → lv_has ls 2 [(1, .int (nI j91)), (0, .ref mo)] → W pZ l eZ ({ frames := 1, cells := 0, slots := 0, locals := 60 }) s mZ [.ref mo].toArray beZ meZ cZ H locs 0 0 (MQ beZ (va_Qv (fun (u : Unit) => kr_t 30 (kr_cp fh ft 30)) (kw_B D (fun _ => [(mo, .inr (11, [.ref to, .ref ke, .ref ik, .ref mrf, .long mab, .long mbl, .ref ha, .ref r0, .ref mbr, .ref mbp, .ref mby, .int (nI bl), .int (nI ta), .int (nI tl), .int (nI tk), .int vv, .ref an, .ref va])), (to, .inl (y 0, 228, .inl ft)), (ha, .inl (y 0, 30, .inl (kr_cp fh ft 30)))]) A) A) [.ref mo].toArray s 0 0 A) (F0 mZ 2 ls []) := by
    intro fuj91
    induction fuj91 with
    | zero => intro j91 x4 H locs ls hj9 hf9; exact absurd hf9 (Nat.not_lt_zero _)
    | succ fuj91 ihj91 =>
      intro j91 x4 H locs ls hj91 hfj91 hr_x4 hI0_j91 hP hD hS hl
      refine lv_iload_n hx hb dX11_layHand_2 rfl (lv_at hl 0 rfl) ?_
      refine lv_bipush (v := 30) hx hb dX11_layHand_3 (by decide) ?_
      refine lv_icmp_ge (tgt := 26) hx hb dX11_layHand_5 (by decide) (fun h9 => ?_) (fun h10 => ?_)
      · skip
        have h9 : 30 ≤ j91 := (nI_leI (a := 30) (b := j91) (by omega) (by omega)).mp h9
        obtain rfl : j91 = 30 := by omega
        subst hI0_j91
        have hP : va_P D vwCl [(mo, .inr (11, [.ref to, .ref ke, .ref ik, .ref mrf, .long mab, .long mbl, .ref ha, .ref r0, .ref mbr, .ref mbp, .ref mby, .int (nI bl), .int (nI ta), .int (nI tl), .int (nI tk), .int vv, .ref an, .ref va])), (to, .inl (y 0, 228, .inl ft)), (ha, .inl (y 0, 30, .inl (kr_cp fh ft 30)))] H := hP
        have hD : va_D A [(mo, .inr (11, [.ref to, .ref ke, .ref ik, .ref mrf, .long mab, .long mbl, .ref ha, .ref r0, .ref mbr, .ref mbp, .ref mby, .int (nI bl), .int (nI ta), .int (nI tl), .int (nI tk), .int vv, .ref an, .ref va])), (to, .inl (y 0, 228, .inl ft)), (ha, .inl (y 0, 30, .inl (kr_cp fh ft 30)))] := hD
        exact W.vret hx hb hr (fun tZ ht hW => ⟨⟨(), rfl, hr_x4, by rw [ht]; exact hP.sub [0, 1, 2] rfl, hD.sub [0, 1, 2] (by decide) rfl⟩, hS.F ht⟩) hS.2.2 dX11_layHand_26
      · skip
        have h10 : ¬ 30 ≤ j91 := fun q9 => h10 ((nI_leI (a := 30) (b := j91) (by omega) (by omega)).mpr q9)
        refine lv_aload_n hx hb dX11_layHand_8 rfl (lv_at hl 1 rfl) ?_
        refine va_get (D := D) (ci := 11) (v := .ref ha) (C := RX11) (T := TX11) (N := 18) hx hb hts iw11 hown hK hP 0 rfl rfl 6 (by decide) fw1 (fun _ h9 => h9) rfl dX11_layHand_9 ?_
        refine lv_iload_n hx hb dX11_layHand_12 rfl (lv_at hl 0 rfl) ?_
        refine lv_aload_n hx hb dX11_layHand_13 rfl (lv_at hl 1 rfl) ?_
        refine va_get (D := D) (ci := 11) (v := .ref to) (C := RX11) (T := TX11) (N := 18) hx hb hts iw11 hown hK hP 0 rfl rfl 0 (by decide) fw2 (fun _ h9 => h9) rfl dX11_layHand_14 ?_
        refine lv_iload_n hx hb dX11_layHand_17 rfl (lv_at hl 0 rfl) ?_
        refine va_iald hx hb hK hP 1 0 rfl rfl (vp_in_nI (by omega) (by decide)) dX11_layHand_18 ?_
        rw [nI_clamp (n := j91) (by omega)]
        refine va_iast hx hb hK hP hD hS 2 0 rfl rfl (vp_in_nI (by omega) (by decide)) dX11_layHand_19 (fun H locs hP hD hS => ?_)
        rw [nI_clamp (n := j91) (by omega)] at hP hD
        have hr11 : kr_t 30 (upd x4 j91 (ft j91)) := kr_up hr_x4 (kr_move (p := j91) (hkt j91 (by omega)) (by unfold kr_a; omega) (by unfold kr_s; omega))
        have hP : va_P D vwCl [(mo, .inr (11, [.ref to, .ref ke, .ref ik, .ref mrf, .long mab, .long mbl, .ref ha, .ref r0, .ref mbr, .ref mbp, .ref mby, .int (nI bl), .int (nI ta), .int (nI tl), .int (nI tk), .int vv, .ref an, .ref va])), (to, .inl (y 0, 228, .inl ft)), (ha, .inl (y 0, 30, .inl (upd x4 j91 (ft j91))))] H := hP
        have hD : va_D A [(mo, .inr (11, [.ref to, .ref ke, .ref ik, .ref mrf, .long mab, .long mbl, .ref ha, .ref r0, .ref mbr, .ref mbp, .ref mby, .int (nI bl), .int (nI ta), .int (nI tl), .int (nI tk), .int vv, .ref an, .ref va])), (to, .inl (y 0, 228, .inl ft)), (ha, .inl (y 0, 30, .inl (upd x4 j91 (ft j91))))] := hD
        refine lv_iinc (v := (nI (j91 + 1))) (lv' := [(1, .int (nI (j91 + 1))), (0, .ref mo)]) hx hb dX11_layHand_20 hl (k := 0) rfl (nI_1 j91) (by decide) rfl (fun ls hl => ?_)
        refine lv_goto (tgt := 2) hx hb dX11_layHand_23 (by decide) ?_
        exact ihj91 (j91 + 1) (upd x4 j91 (ft j91)) H locs ls (by omega) (by omega) hr11 (by rw [hI0_j91]; exact kr_cpS) (hP.sub [0, 1, 2] rfl) (hD.sub [0, 1, 2] (by decide) rfl) hS (lv_sub hl [0, 1] rfl)
  exact lp8 (30 + 1) 0 fh _ _ _ (by omega) (by omega) hkh kr_cp0 hP hD hS (lv_sub hl [0, 1] rfl)

set_option maxHeartbeats 4000000 in
set_option maxRecDepth 100000 in
theorem gr_seenOn228 (l : Launch) (D : va_G) (y : Nat → ClassId) (to : Nat) (ft : Nat → Int32) (fi : Nat) (gl : Nat) (mi : Nat) (no : Nat) (un : Nat) (k : Nat) (t : Int32) (hk0_ : ft 0 = (nI fi)) (hk1_ : ft 1 = (nI gl)) (hk2_ : ft 2 = (nI mi)) (hk3_ : ft 3 = (nI no)) (hk4_ : ft 4 = (nI un)) (hkt : kr_t 228 ft) (hfi : fi ≤ 6) (hgl : gl ≤ 5) (hmi : mi ≤ 4) (hno : no ≤ 6) (hun : un ≤ 8) (hA1 : k < 6) : kw_Mi l yX11_seenOn wsX11_seenOn ({ frames := 4, cells := 0, slots := 0, locals := 129 }) D y [.ref to, .int (nI k), .int t] [(to, .inl (y 0, 228, .inl ft))] (fun (r : Int32) (u : Unit) => True) (fun _ => [(to, .inl (y 0, 228, .inl ft))]) 0 0 := by
  refine kw_Mi.of (cc := cX11_seenOn) (maxL := 3) (ret := (some .int)) (by decide) rfl ?_
  intro pZ eZ s mZ beZ meZ cZ A hE
  obtain ⟨hx, hb, hr, hml, hts, hown, hlocks, hin, hA, hP, hD, hK, hN⟩ := hE
  have hS : va_S A s.heap s.heap [] := va_S.rf
  have hl := lv_entry ([.ref to, .int (nI k), .int t]) (n := 3) (Nat.le_of_ble_eq_true rfl)
  rw [lg_entry_eq]
  generalize (lg_sl ([.ref to, .int (nI k), .int t]) ++ List.replicate (3 - (lg_sl ([.ref to, .int (nI k), .int t])).length) Slot.unset).toArray = ls at hl ⊢
  have hl : lv_has ls 3 [(0, .ref to), (1, .int (nI k)), (2, .int t)] := hl
  refine lv_iload_n hx hb dX11_seenOn_0 rfl (lv_at hl 2 rfl) ?_
  refine lv_bipush (v := 12) hx hb dX11_seenOn_1 (by decide) ?_
  refine lv_icmp_lt (tgt := 10) hx hb dX11_seenOn_3 (by decide) (fun h1 => ?_) (fun h2 => ?_)
  · skip
    refine lv_aload_n hx hb dX11_seenOn_10 rfl (lv_at hl 0 rfl) ?_
    refine lv_bipush (v := 24) hx hb dX11_seenOn_11 (by decide) ?_
    refine lv_iload_n hx hb dX11_seenOn_13 rfl (lv_at hl 1 rfl) ?_
    refine lv_iadd hx hb dX11_seenOn_14 ?_
    rw [show 24 + (nI k) = nI (k + 24) from (nI_add 24 k).trans (congrArg nI (by omega))]
    refine va_iald hx hb hK hP 0 0 rfl rfl (vp_in_nI (by omega) (by decide)) dX11_seenOn_15 ?_
    rw [nI_clamp (n := (k + 24)) (by omega)]
    refine lv_aload_n hx hb dX11_seenOn_16 rfl (lv_at hl 0 rfl) ?_
    refine lv_iconst (v := 5) hx hb dX11_seenOn_17 (by decide) ?_
    refine lv_iload_n hx hb dX11_seenOn_18 rfl (lv_at hl 1 rfl) ?_
    refine lv_iadd hx hb dX11_seenOn_19 ?_
    rw [show 5 + (nI k) = nI (k + 5) from (nI_add 5 k).trans (congrArg nI (by omega))]
    refine va_iald hx hb hK hP 0 0 rfl rfl (vp_in_nI (by omega) (by decide)) dX11_seenOn_20 ?_
    rw [nI_clamp (n := (k + 5)) (by omega)]
    refine lv_iload_n hx hb dX11_seenOn_21 rfl (lv_at hl 2 rfl) ?_
    refine lv_aload_n hx hb dX11_seenOn_22 rfl (lv_at hl 0 rfl) ?_
    refine lv_bipush (v := 22) hx hb dX11_seenOn_23 (by decide) ?_
    refine va_iald hx hb hK hP 0 0 rfl rfl (by unfold vp_in; decide) dX11_seenOn_25 ?_
    rw [show ((22 : Int32)).toNatClampNeg = 22 from rfl]
    have hs3 : kw_Split [(to, .inl (y 0, 228, .inl ft))] [] [(to, .inl (y 0, 228, .inl ft))] [] [0] := ⟨rfl, rfl, rfl, rfl, rfl, by decide⟩
    refine kw_go_i hs3 hP hD hS hA (va_runS (As := [.int (ft (k + 24)), .int (ft (k + 5)), .int t, .int (ft 22)]) (rest := []) ⟨hx, hb, hml, hown, hts⟩ (gr_seenAs l D y (ft (k + 24)) (ft (k + 5)) t (ft 22)  _) (va_cwS 4 hts gX11_seenOn_X11_seenAs rfl rfl rfl (by decide +kernel) ⟨Nat.le_of_ble_eq_true rfl, Nat.le_of_ble_eq_true rfl⟩) (kw_PreS hs3 hP hD hK hN) rfl rfl hl.1 rfl (lv_room (Nat.le_of_ble_eq_true rfl)) dX11_seenOn_26 ⟨Nat.le_of_ble_eq_true rfl, Nat.le_of_ble_eq_true rfl⟩) (fun r4 u5 H locs hq hP hD hS => ?_)
    have hP : va_P D vwCl [(to, .inl (y 0, 228, .inl ft))] H := hP
    have hD : va_D A [(to, .inl (y 0, 228, .inl ft))] := hD
    exact W.iret (v := r4) hx hb hr (fun tZ ht hW => ⟨⟨r4, (), rfl, trivial, by rw [ht]; exact hP.sub [0] rfl, hD.sub [0] (by decide) rfl⟩, hS.F ht⟩) hS.2.2 dX11_seenOn_29
  · skip
    refine lv_iconst (v := 0) hx hb dX11_seenOn_6 (by decide) ?_
    refine lv_goto (tgt := 29) hx hb dX11_seenOn_7 (by decide) ?_
    exact W.iret (v := 0) hx hb hr (fun tZ ht hW => ⟨⟨0, (), rfl, trivial, by rw [ht]; exact hP.sub [0] rfl, hD.sub [0] (by decide) rfl⟩, hS.F ht⟩) hS.2.2 dX11_seenOn_29

set_option maxHeartbeats 4000000 in
set_option maxRecDepth 100000 in
theorem gr_manyOn228 (l : Launch) (D : va_G) (y : Nat → ClassId) (to : Nat) (ft : Nat → Int32) (fi : Nat) (gl : Nat) (mi : Nat) (no : Nat) (un : Nat) (x : Int32) (hk0_ : ft 0 = (nI fi)) (hk1_ : ft 1 = (nI gl)) (hk2_ : ft 2 = (nI mi)) (hk3_ : ft 3 = (nI no)) (hk4_ : ft 4 = (nI un)) (hkt : kr_t 228 ft) (hfi : fi ≤ 6) (hgl : gl ≤ 5) (hmi : mi ≤ 4) (hno : no ≤ 6) (hun : un ≤ 8) : kw_Mi l yX11_manyOn wsX11_manyOn ({ frames := 1, cells := 0, slots := 0, locals := 60 }) D y [.ref to, .int x] [(to, .inl (y 0, 228, .inl ft))] (fun (r : Int32) (u : Unit) => True) (fun _ => [(to, .inl (y 0, 228, .inl ft))]) 0 0 := by
  refine kw_Mi.of (cc := cX11_manyOn) (maxL := 4) (ret := (some .int)) (by decide) rfl ?_
  intro pZ eZ s mZ beZ meZ cZ A hE
  obtain ⟨hx, hb, hr, hml, hts, hown, hlocks, hin, hA, hP, hD, hK, hN⟩ := hE
  have hS : va_S A s.heap s.heap [] := va_S.rf
  have hl := lv_entry ([.ref to, .int x]) (n := 4) (Nat.le_of_ble_eq_true rfl)
  rw [lg_entry_eq]
  generalize (lg_sl ([.ref to, .int x]) ++ List.replicate (4 - (lg_sl ([.ref to, .int x])).length) Slot.unset).toArray = ls at hl ⊢
  have hl : lv_has ls 4 [(0, .ref to), (1, .int x)] := hl
  refine lv_iconst (v := 0) hx hb dX11_manyOn_0 (by decide) ?_
  refine lv_istore_n (lv' := [(2, .int 0), (0, .ref to), (1, .int x)]) hx hb dX11_manyOn_1 rfl hl (by decide) rfl (fun ls hl => ?_)
  refine lv_iconst (v := 0) hx hb dX11_manyOn_2 (by decide) ?_
  refine lv_istore_n (lv' := [(3, .int 0), (2, .int 0), (0, .ref to), (1, .int x)]) hx hb dX11_manyOn_3 rfl hl (by decide) rfl (fun ls hl => ?_)
  have lp18 : ∀ (fuj91 j91 : Nat) (x10 : Int32) (H : Heap) (locs : List Loc) (ls : Array Slot), j91 ≤ gl → gl - j91 < fuj91 → va_P D vwCl [(to, .inl (y 0, 228, .inl ft))] H → va_D A [(to, .inl (y 0, 228, .inl ft))] → va_S A s.heap H locs → lv_has ls 4 [(3, .int (nI j91)), (2, .int x10), (0, .ref to), (1, .int x)] → W pZ l eZ ({ frames := 1, cells := 0, slots := 0, locals := 60 }) s mZ [.ref to, .int x].toArray beZ meZ cZ H locs 0 0 (MQ beZ (va_Qi (fun (r : Int32) (u : Unit) => True) (kw_B D (fun _ => [(to, .inl (y 0, 228, .inl ft))]) A) A) [.ref to, .int x].toArray s 0 0 A) (F0 mZ 4 ls []) := by
    intro fuj91
    induction fuj91 with
    | zero => intro j91 x10 H locs ls hj9 hf9; exact absurd hf9 (Nat.not_lt_zero _)
    | succ fuj91 ihj91 =>
      intro j91 x10 H locs ls hj91 hfj91  hP hD hS hl
      refine lv_iload_n hx hb dX11_manyOn_4 rfl (lv_at hl 0 rfl) ?_
      refine lv_aload_n hx hb dX11_manyOn_5 rfl (lv_at hl 2 rfl) ?_
      refine lv_iconst (v := 1) hx hb dX11_manyOn_6 (by decide) ?_
      refine va_iald hx hb hK hP 0 0 rfl rfl (by unfold vp_in; decide) dX11_manyOn_7 ?_
      rw [show ((1 : Int32)).toNatClampNeg = 1 from rfl]
      rw [show (ft 1) = (nI gl) from hk1_]
      refine lv_icmp_ge (tgt := 35) hx hb dX11_manyOn_8 (by decide) (fun h19 => ?_) (fun h20 => ?_)
      · skip
        have h19 : gl ≤ j91 := (nI_leI (a := gl) (b := j91) (by omega) (by omega)).mp h19
        refine lv_iload_n hx hb dX11_manyOn_35 rfl (lv_at hl 1 rfl) ?_
        exact W.iret (v := x10) hx hb hr (fun tZ ht hW => ⟨⟨x10, (), rfl, trivial, by rw [ht]; exact hP.sub [0] rfl, hD.sub [0] (by decide) rfl⟩, hS.F ht⟩) hS.2.2 dX11_manyOn_36
      · skip
        have h20 : ¬ gl ≤ j91 := fun q9 => h20 ((nI_leI (a := gl) (b := j91) (by omega) (by omega)).mpr q9)
        refine lv_iload_n hx hb dX11_manyOn_11 rfl (lv_at hl 1 rfl) ?_
        refine lv_aload_n hx hb dX11_manyOn_12 rfl (lv_at hl 2 rfl) ?_
        refine lv_bipush (v := 11) hx hb dX11_manyOn_13 (by decide) ?_
        refine lv_iload_n hx hb dX11_manyOn_15 rfl (lv_at hl 0 rfl) ?_
        refine lv_iadd hx hb dX11_manyOn_16 ?_
        rw [show 11 + (nI j91) = nI (j91 + 11) from (nI_add 11 j91).trans (congrArg nI (by omega))]
        refine va_iald hx hb hK hP 0 0 rfl rfl (vp_in_nI (by omega) (by decide)) dX11_manyOn_17 ?_
        rw [nI_clamp (n := (j91 + 11)) (by omega)]
        obtain ⟨w21, h22, h23⟩ := kr_at hkt (p := (j91 + 11)) (by omega) (by unfold kr_a; omega)
        rw [h23]
        refine lv_iload_n hx hb dX11_manyOn_18 rfl (lv_at hl 3 rfl) ?_
        refine lv_icmp_ne (tgt := 26) hx hb dX11_manyOn_19 (by decide) (fun h24 => ?_) (fun h25 => ?_)
        · skip
          refine lv_iconst (v := 0) hx hb dX11_manyOn_26 (by decide) ?_
          refine lv_iadd hx hb dX11_manyOn_27 ?_
          refine lv_istore_n (lv' := [(2, .int (x10 + 0)), (3, .int (nI j91)), (0, .ref to), (1, .int x)]) hx hb dX11_manyOn_28 rfl hl (by decide) rfl (fun ls hl => ?_)
          refine lv_iinc (v := (nI (j91 + 1))) (lv' := [(3, .int (nI (j91 + 1))), (2, .int (x10 + 0)), (0, .ref to), (1, .int x)]) hx hb dX11_manyOn_29 hl (k := 1) rfl (nI_1 j91) (by decide) rfl (fun ls hl => ?_)
          refine lv_goto (tgt := 4) hx hb dX11_manyOn_32 (by decide) ?_
          exact ihj91 (j91 + 1) (x10 + 0) H locs ls (by omega) (by omega)  (hP.sub [0] rfl) (hD.sub [0] (by decide) rfl) hS (lv_sub hl [0, 1, 2, 3] rfl)
        · skip
          refine lv_iconst (v := 1) hx hb dX11_manyOn_22 (by decide) ?_
          refine lv_goto (tgt := 27) hx hb dX11_manyOn_23 (by decide) ?_
          refine lv_iadd hx hb dX11_manyOn_27 ?_
          refine lv_istore_n (lv' := [(2, .int (x10 + 1)), (3, .int (nI j91)), (0, .ref to), (1, .int x)]) hx hb dX11_manyOn_28 rfl hl (by decide) rfl (fun ls hl => ?_)
          refine lv_iinc (v := (nI (j91 + 1))) (lv' := [(3, .int (nI (j91 + 1))), (2, .int (x10 + 1)), (0, .ref to), (1, .int x)]) hx hb dX11_manyOn_29 hl (k := 1) rfl (nI_1 j91) (by decide) rfl (fun ls hl => ?_)
          refine lv_goto (tgt := 4) hx hb dX11_manyOn_32 (by decide) ?_
          exact ihj91 (j91 + 1) (x10 + 1) H locs ls (by omega) (by omega)  (hP.sub [0] rfl) (hD.sub [0] (by decide) rfl) hS (lv_sub hl [0, 1, 2, 3] rfl)
  exact lp18 (gl + 1) 0 0 _ _ _ (by omega) (by omega)  hP hD hS (lv_sub hl [0, 1, 2, 3] rfl)
