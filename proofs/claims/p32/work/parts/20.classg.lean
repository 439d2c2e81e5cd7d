set_option maxHeartbeats 4000000 in
set_option maxRecDepth 100000 in
theorem gc_addMissed (l : Launch) (D : va_G) (y : Nat → ClassId) (nw : Nat) (kk : Nat) (nk : Nat) (nd : Nat) (ne : Nat) (nm : Nat) (nn : Nat) (fi : Nat) (gl : Nat) (un : Nat) (mi : Nat) (no : Nat) (m0 : Nat) (m1 : Nat) (m2 : Nat) (m3 : Nat) (m0f : Nat → Int32) (m1f : Nat → Int32) (m2f : Nat → Int32) (m3f : Nat → Int32) (fm : Nat → Option Nat) (k : Nat) (x : Int32) (x2 : Int32) (x3 : Int32) (hfi : fi ≤ 6) (hgl : gl ≤ 5) (hun : un ≤ 8) (hmi : mi ≤ 4) (hno : no ≤ 6) (hm0 : fm 0 = some m0) (hm1 : fm 1 = some m1) (hm2 : fm 2 = some m2) (hm3 : fm 3 = some m3) (hm0f : vp_in (m0f 0) 6) (hm1f : vp_in (m1f 0) 6) (hm2f : vp_in (m2f 0) 6) (hm3f : vp_in (m3f 0) 6) (hkk : k < 6) (hlt : mi < 4) : kw_Mi l yX4_addMissed wsX4_addMissed ({ frames := 1, cells := 0, slots := 0, locals := 60 }) D y [.ref nw, .int (nI k), .int x, .int x2, .int x3] [(nw, .inr (4, [.ref kk, .ref nk, .ref nd, .ref ne, .ref nm, .ref nn, .int (nI fi), .int (nI gl), .int (nI un), .int (nI mi), .int (nI no)])), (nm, .inl (y 6, 4, .inr (.inr (.inr (.inr fm))))), (m0, .inl (y 0, 4, .inl m0f)), (m1, .inl (y 0, 4, .inl m1f)), (m2, .inl (y 0, 4, .inl m2f)), (m3, .inl (y 0, 4, .inl m3f))] (fun (r : Int32) (u : Nat × (Nat → Int32) × (Nat → Int32) × (Nat → Int32) × (Nat → Int32)) => u.1 ≤ 4 ∧ vp_in (u.2.1 0) 6 ∧ vp_in (u.2.2.1 0) 6 ∧ vp_in (u.2.2.2.1 0) 6 ∧ vp_in (u.2.2.2.2 0) 6) (fun u => [(nw, .inr (4, [.ref kk, .ref nk, .ref nd, .ref ne, .ref nm, .ref nn, .int (nI fi), .int (nI gl), .int (nI un), .int (nI u.1), .int (nI no)])), (nm, .inl (y 6, 4, .inr (.inr (.inr (.inr fm))))), (m0, .inl (y 0, 4, .inl u.2.1)), (m1, .inl (y 0, 4, .inl u.2.2.1)), (m2, .inl (y 0, 4, .inl u.2.2.2.1)), (m3, .inl (y 0, 4, .inl u.2.2.2.2))]) 0 0 := by
  refine kw_Mi.of (cc := cX4_addMissed) (maxL := 6) (ret := (some .int)) (by decide) rfl ?_
  intro pZ eZ s mZ beZ meZ cZ A hE
  obtain ⟨hx, hb, hr, hml, hts, hown, hlocks, hin, hA, hP, hD, hK, hN⟩ := hE
  have hS : va_S A s.heap s.heap [] := va_S.rf
  have hl := lv_entry ([.ref nw, .int (nI k), .int x, .int x2, .int x3]) (n := 6) (Nat.le_of_ble_eq_true rfl)
  rw [lg_entry_eq]
  generalize (lg_sl ([.ref nw, .int (nI k), .int x, .int x2, .int x3]) ++ List.replicate (6 - (lg_sl ([.ref nw, .int (nI k), .int x, .int x2, .int x3])).length) Slot.unset).toArray = ls at hl ⊢
  have hl : lv_has ls 6 [(0, .ref nw), (1, .int (nI k)), (2, .int x), (3, .int x2), (4, .int x3)] := hl
  have fw1 := hts (.fieldLink RX4 28 "GleanDusk$Parish" "missed" "[[I") (List.mem_of_getElem? (i := 1) rfl)
  have fw2 := hts (.fieldLink RX4 48 "GleanDusk$Parish" "missedCount" "I") (List.mem_of_getElem? (i := 2) rfl)
  have iw4 : ∀ w ∈ wsX40, w ∈ wsX4_addMissed := fun _ h => List.mem_cons_of_mem _ (List.mem_append_right _ h)
  refine lv_aload_n hx hb dX4_addMissed_0 rfl (lv_at hl 0 rfl) ?_
  refine va_get (D := D) (ci := 4) (v := .ref nm) (C := RX4) (T := TX4) (N := 11) hx hb hts iw4 hown hK hP 0 rfl rfl 4 (by decide) fw1 (fun _ h9 => h9) rfl dX4_addMissed_1 ?_
  refine lv_aload_n hx hb dX4_addMissed_4 rfl (lv_at hl 0 rfl) ?_
  refine va_get (D := D) (ci := 4) (v := .int (nI mi)) (C := RX4) (T := TX4) (N := 11) hx hb hts iw4 hown hK hP 0 rfl rfl 9 (by decide) fw2 (fun _ h9 => h9) rfl dX4_addMissed_5 ?_
  rcases (show mi = 0 ∨ mi = 1 ∨ mi = 2 ∨ mi = 3 by omega) with rfl | rfl | rfl | rfl
  · skip
    refine kw_aldQ hx hb hK hP 1 6 rfl rfl (vp_in_nI (by omega) (by decide)) dX4_addMissed_8 ?_
    rw [nI_clamp (n := 0) (by omega), show va_rf (fm 0) = .ref m0 from congrArg va_rf hm0]
    refine lv_astore (lv' := [(5, .ref m0), (0, .ref nw), (1, .int (nI k)), (2, .int x), (3, .int x2), (4, .int x3)]) hx hb dX4_addMissed_9 hl (by decide) rfl (fun ls hl => ?_)
    refine lv_aload hx hb dX4_addMissed_11 (lv_at hl 0 rfl) ?_
    refine lv_iconst (v := 0) hx hb dX4_addMissed_13 (by decide) ?_
    refine lv_iload_n hx hb dX4_addMissed_14 rfl (lv_at hl 2 rfl) ?_
    refine va_iast hx hb hK hP hD hS 2 0 rfl rfl (by unfold vp_in; decide) dX4_addMissed_15 (fun H locs hP hD hS => ?_)
    rw [show ((0 : Int32)).toNatClampNeg = 0 from rfl] at hP hD
    have hp1 : vp_in ((upd m0f 0 (nI k)) 0) 6 := by rw [pk_us]; exact (vp_in_nI (by omega) (by decide))
    have hP : va_P D vwCl [(nw, .inr (4, [.ref kk, .ref nk, .ref nd, .ref ne, .ref nm, .ref nn, .int (nI fi), .int (nI gl), .int (nI un), .int (nI 0), .int (nI no)])), (nm, .inl (y 6, 4, .inr (.inr (.inr (.inr fm))))), (m0, .inl (y 0, 4, .inl (upd m0f 0 (nI k)))), (m1, .inl (y 0, 4, .inl m1f)), (m2, .inl (y 0, 4, .inl m2f)), (m3, .inl (y 0, 4, .inl m3f))] H := hP
    have hD : va_D A [(nw, .inr (4, [.ref kk, .ref nk, .ref nd, .ref ne, .ref nm, .ref nn, .int (nI fi), .int (nI gl), .int (nI un), .int (nI 0), .int (nI no)])), (nm, .inl (y 6, 4, .inr (.inr (.inr (.inr fm))))), (m0, .inl (y 0, 4, .inl (upd m0f 0 (nI k)))), (m1, .inl (y 0, 4, .inl m1f)), (m2, .inl (y 0, 4, .inl m2f)), (m3, .inl (y 0, 4, .inl m3f))] := hD
    refine lv_aload hx hb dX4_addMissed_16 (lv_at hl 0 rfl) ?_
    refine lv_iconst (v := 1) hx hb dX4_addMissed_18 (by decide) ?_
    refine lv_iload_n hx hb dX4_addMissed_19 rfl (lv_at hl 3 rfl) ?_
    refine va_iast hx hb hK hP hD hS 2 0 rfl rfl (by unfold vp_in; decide) dX4_addMissed_20 (fun H locs hP hD hS => ?_)
    rw [show ((1 : Int32)).toNatClampNeg = 1 from rfl] at hP hD
    have hp2 : vp_in ((upd (upd m0f 0 (nI k)) 1 x) 0) 6 := by rw [pk_un (by decide)]; exact hp1
    have hP : va_P D vwCl [(nw, .inr (4, [.ref kk, .ref nk, .ref nd, .ref ne, .ref nm, .ref nn, .int (nI fi), .int (nI gl), .int (nI un), .int (nI 0), .int (nI no)])), (nm, .inl (y 6, 4, .inr (.inr (.inr (.inr fm))))), (m0, .inl (y 0, 4, .inl (upd (upd m0f 0 (nI k)) 1 x))), (m1, .inl (y 0, 4, .inl m1f)), (m2, .inl (y 0, 4, .inl m2f)), (m3, .inl (y 0, 4, .inl m3f))] H := hP
    have hD : va_D A [(nw, .inr (4, [.ref kk, .ref nk, .ref nd, .ref ne, .ref nm, .ref nn, .int (nI fi), .int (nI gl), .int (nI un), .int (nI 0), .int (nI no)])), (nm, .inl (y 6, 4, .inr (.inr (.inr (.inr fm))))), (m0, .inl (y 0, 4, .inl (upd (upd m0f 0 (nI k)) 1 x))), (m1, .inl (y 0, 4, .inl m1f)), (m2, .inl (y 0, 4, .inl m2f)), (m3, .inl (y 0, 4, .inl m3f))] := hD
    refine lv_aload hx hb dX4_addMissed_21 (lv_at hl 0 rfl) ?_
    refine lv_iconst (v := 2) hx hb dX4_addMissed_23 (by decide) ?_
    refine lv_iload_n hx hb dX4_addMissed_24 rfl (lv_at hl 4 rfl) ?_
    refine va_iast hx hb hK hP hD hS 2 0 rfl rfl (by unfold vp_in; decide) dX4_addMissed_25 (fun H locs hP hD hS => ?_)
    rw [show ((2 : Int32)).toNatClampNeg = 2 from rfl] at hP hD
    have hp3 : vp_in ((upd (upd (upd m0f 0 (nI k)) 1 x) 2 x2) 0) 6 := by rw [pk_un (by decide)]; exact hp2
    have hP : va_P D vwCl [(nw, .inr (4, [.ref kk, .ref nk, .ref nd, .ref ne, .ref nm, .ref nn, .int (nI fi), .int (nI gl), .int (nI un), .int (nI 0), .int (nI no)])), (nm, .inl (y 6, 4, .inr (.inr (.inr (.inr fm))))), (m0, .inl (y 0, 4, .inl (upd (upd (upd m0f 0 (nI k)) 1 x) 2 x2))), (m1, .inl (y 0, 4, .inl m1f)), (m2, .inl (y 0, 4, .inl m2f)), (m3, .inl (y 0, 4, .inl m3f))] H := hP
    have hD : va_D A [(nw, .inr (4, [.ref kk, .ref nk, .ref nd, .ref ne, .ref nm, .ref nn, .int (nI fi), .int (nI gl), .int (nI un), .int (nI 0), .int (nI no)])), (nm, .inl (y 6, 4, .inr (.inr (.inr (.inr fm))))), (m0, .inl (y 0, 4, .inl (upd (upd (upd m0f 0 (nI k)) 1 x) 2 x2))), (m1, .inl (y 0, 4, .inl m1f)), (m2, .inl (y 0, 4, .inl m2f)), (m3, .inl (y 0, 4, .inl m3f))] := hD
    refine lv_aload hx hb dX4_addMissed_26 (lv_at hl 0 rfl) ?_
    refine lv_iconst (v := 3) hx hb dX4_addMissed_28 (by decide) ?_
    refine lv_iload hx hb dX4_addMissed_29 (lv_at hl 5 rfl) ?_
    refine va_iast hx hb hK hP hD hS 2 0 rfl rfl (by unfold vp_in; decide) dX4_addMissed_31 (fun H locs hP hD hS => ?_)
    rw [show ((3 : Int32)).toNatClampNeg = 3 from rfl] at hP hD
    have hp4 : vp_in ((upd (upd (upd (upd m0f 0 (nI k)) 1 x) 2 x2) 3 x3) 0) 6 := by rw [pk_un (by decide)]; exact hp3
    have hP : va_P D vwCl [(nw, .inr (4, [.ref kk, .ref nk, .ref nd, .ref ne, .ref nm, .ref nn, .int (nI fi), .int (nI gl), .int (nI un), .int (nI 0), .int (nI no)])), (nm, .inl (y 6, 4, .inr (.inr (.inr (.inr fm))))), (m0, .inl (y 0, 4, .inl (upd (upd (upd (upd m0f 0 (nI k)) 1 x) 2 x2) 3 x3))), (m1, .inl (y 0, 4, .inl m1f)), (m2, .inl (y 0, 4, .inl m2f)), (m3, .inl (y 0, 4, .inl m3f))] H := hP
    have hD : va_D A [(nw, .inr (4, [.ref kk, .ref nk, .ref nd, .ref ne, .ref nm, .ref nn, .int (nI fi), .int (nI gl), .int (nI un), .int (nI 0), .int (nI no)])), (nm, .inl (y 6, 4, .inr (.inr (.inr (.inr fm))))), (m0, .inl (y 0, 4, .inl (upd (upd (upd (upd m0f 0 (nI k)) 1 x) 2 x2) 3 x3))), (m1, .inl (y 0, 4, .inl m1f)), (m2, .inl (y 0, 4, .inl m2f)), (m3, .inl (y 0, 4, .inl m3f))] := hD
    refine lv_aload_n hx hb dX4_addMissed_32 rfl (lv_at hl 1 rfl) ?_
    refine lv_dup hx hb dX4_addMissed_33 rfl ?_
    refine va_get (D := D) (ci := 4) (v := .int (nI 0)) (C := RX4) (T := TX4) (N := 11) hx hb hts iw4 hown hK hP 0 rfl rfl 9 (by decide) fw2 (fun _ h9 => h9) rfl dX4_addMissed_34 ?_
    refine lv_iconst (v := 1) hx hb dX4_addMissed_37 (by decide) ?_
    refine lv_iadd hx hb dX4_addMissed_38 ?_
    rw [show (nI 0) + 1 = nI (1) from nI_add 0 1]
    refine lv_dup_x1 hx hb dX4_addMissed_39 rfl rfl ?_
    refine va_put (D := D) (ci := 4) (v := .int (nI 1)) (ty := .int) (C := RX4) (T := TX4) (N := 11) hx hb hts iw4 tyX4 tyX4_ok nmX4 hown hK hP hD hS 0 rfl rfl 9 (by decide) fw2 (fun _ h9 => h9) rfl (by decide +kernel) rfl rfl (Nat.le_of_ble_eq_true rfl) dX4_addMissed_40 (fun H locs hP hD hS => ?_)
    have hP : va_P D vwCl [(nw, .inr (4, [.ref kk, .ref nk, .ref nd, .ref ne, .ref nm, .ref nn, .int (nI fi), .int (nI gl), .int (nI un), .int (nI 1), .int (nI no)])), (nm, .inl (y 6, 4, .inr (.inr (.inr (.inr fm))))), (m0, .inl (y 0, 4, .inl (upd (upd (upd (upd m0f 0 (nI k)) 1 x) 2 x2) 3 x3))), (m1, .inl (y 0, 4, .inl m1f)), (m2, .inl (y 0, 4, .inl m2f)), (m3, .inl (y 0, 4, .inl m3f))] H := hP
    have hD : va_D A [(nw, .inr (4, [.ref kk, .ref nk, .ref nd, .ref ne, .ref nm, .ref nn, .int (nI fi), .int (nI gl), .int (nI un), .int (nI 1), .int (nI no)])), (nm, .inl (y 6, 4, .inr (.inr (.inr (.inr fm))))), (m0, .inl (y 0, 4, .inl (upd (upd (upd (upd m0f 0 (nI k)) 1 x) 2 x2) 3 x3))), (m1, .inl (y 0, 4, .inl m1f)), (m2, .inl (y 0, 4, .inl m2f)), (m3, .inl (y 0, 4, .inl m3f))] := hD
    exact W.iret (v := (nI 1)) hx hb hr (fun tZ ht hW => ⟨⟨(nI 1), (1, (upd (upd (upd (upd m0f 0 (nI k)) 1 x) 2 x2) 3 x3), m1f, m2f, m3f), rfl, ⟨by first | omega | (dsimp only; omega), hp4, hm1f, hm2f, hm3f⟩, by rw [ht]; exact hP.sub [0, 1, 2, 3, 4, 5] rfl, hD.sub [0, 1, 2, 3, 4, 5] (by decide) rfl⟩, hS.F ht⟩) hS.2.2 dX4_addMissed_43
  · skip
    refine kw_aldQ hx hb hK hP 1 6 rfl rfl (vp_in_nI (by omega) (by decide)) dX4_addMissed_8 ?_
    rw [nI_clamp (n := 1) (by omega), show va_rf (fm 1) = .ref m1 from congrArg va_rf hm1]
    refine lv_astore (lv' := [(5, .ref m1), (0, .ref nw), (1, .int (nI k)), (2, .int x), (3, .int x2), (4, .int x3)]) hx hb dX4_addMissed_9 hl (by decide) rfl (fun ls hl => ?_)
    refine lv_aload hx hb dX4_addMissed_11 (lv_at hl 0 rfl) ?_
    refine lv_iconst (v := 0) hx hb dX4_addMissed_13 (by decide) ?_
    refine lv_iload_n hx hb dX4_addMissed_14 rfl (lv_at hl 2 rfl) ?_
    refine va_iast hx hb hK hP hD hS 3 0 rfl rfl (by unfold vp_in; decide) dX4_addMissed_15 (fun H locs hP hD hS => ?_)
    rw [show ((0 : Int32)).toNatClampNeg = 0 from rfl] at hP hD
    have hp5 : vp_in ((upd m1f 0 (nI k)) 0) 6 := by rw [pk_us]; exact (vp_in_nI (by omega) (by decide))
    have hP : va_P D vwCl [(nw, .inr (4, [.ref kk, .ref nk, .ref nd, .ref ne, .ref nm, .ref nn, .int (nI fi), .int (nI gl), .int (nI un), .int (nI 1), .int (nI no)])), (nm, .inl (y 6, 4, .inr (.inr (.inr (.inr fm))))), (m0, .inl (y 0, 4, .inl m0f)), (m1, .inl (y 0, 4, .inl (upd m1f 0 (nI k)))), (m2, .inl (y 0, 4, .inl m2f)), (m3, .inl (y 0, 4, .inl m3f))] H := hP
    have hD : va_D A [(nw, .inr (4, [.ref kk, .ref nk, .ref nd, .ref ne, .ref nm, .ref nn, .int (nI fi), .int (nI gl), .int (nI un), .int (nI 1), .int (nI no)])), (nm, .inl (y 6, 4, .inr (.inr (.inr (.inr fm))))), (m0, .inl (y 0, 4, .inl m0f)), (m1, .inl (y 0, 4, .inl (upd m1f 0 (nI k)))), (m2, .inl (y 0, 4, .inl m2f)), (m3, .inl (y 0, 4, .inl m3f))] := hD
    refine lv_aload hx hb dX4_addMissed_16 (lv_at hl 0 rfl) ?_
    refine lv_iconst (v := 1) hx hb dX4_addMissed_18 (by decide) ?_
    refine lv_iload_n hx hb dX4_addMissed_19 rfl (lv_at hl 3 rfl) ?_
    refine va_iast hx hb hK hP hD hS 3 0 rfl rfl (by unfold vp_in; decide) dX4_addMissed_20 (fun H locs hP hD hS => ?_)
    rw [show ((1 : Int32)).toNatClampNeg = 1 from rfl] at hP hD
    have hp6 : vp_in ((upd (upd m1f 0 (nI k)) 1 x) 0) 6 := by rw [pk_un (by decide)]; exact hp5
    have hP : va_P D vwCl [(nw, .inr (4, [.ref kk, .ref nk, .ref nd, .ref ne, .ref nm, .ref nn, .int (nI fi), .int (nI gl), .int (nI un), .int (nI 1), .int (nI no)])), (nm, .inl (y 6, 4, .inr (.inr (.inr (.inr fm))))), (m0, .inl (y 0, 4, .inl m0f)), (m1, .inl (y 0, 4, .inl (upd (upd m1f 0 (nI k)) 1 x))), (m2, .inl (y 0, 4, .inl m2f)), (m3, .inl (y 0, 4, .inl m3f))] H := hP
    have hD : va_D A [(nw, .inr (4, [.ref kk, .ref nk, .ref nd, .ref ne, .ref nm, .ref nn, .int (nI fi), .int (nI gl), .int (nI un), .int (nI 1), .int (nI no)])), (nm, .inl (y 6, 4, .inr (.inr (.inr (.inr fm))))), (m0, .inl (y 0, 4, .inl m0f)), (m1, .inl (y 0, 4, .inl (upd (upd m1f 0 (nI k)) 1 x))), (m2, .inl (y 0, 4, .inl m2f)), (m3, .inl (y 0, 4, .inl m3f))] := hD
    refine lv_aload hx hb dX4_addMissed_21 (lv_at hl 0 rfl) ?_
    refine lv_iconst (v := 2) hx hb dX4_addMissed_23 (by decide) ?_
    refine lv_iload_n hx hb dX4_addMissed_24 rfl (lv_at hl 4 rfl) ?_
    refine va_iast hx hb hK hP hD hS 3 0 rfl rfl (by unfold vp_in; decide) dX4_addMissed_25 (fun H locs hP hD hS => ?_)
    rw [show ((2 : Int32)).toNatClampNeg = 2 from rfl] at hP hD
    have hp7 : vp_in ((upd (upd (upd m1f 0 (nI k)) 1 x) 2 x2) 0) 6 := by rw [pk_un (by decide)]; exact hp6
    have hP : va_P D vwCl [(nw, .inr (4, [.ref kk, .ref nk, .ref nd, .ref ne, .ref nm, .ref nn, .int (nI fi), .int (nI gl), .int (nI un), .int (nI 1), .int (nI no)])), (nm, .inl (y 6, 4, .inr (.inr (.inr (.inr fm))))), (m0, .inl (y 0, 4, .inl m0f)), (m1, .inl (y 0, 4, .inl (upd (upd (upd m1f 0 (nI k)) 1 x) 2 x2))), (m2, .inl (y 0, 4, .inl m2f)), (m3, .inl (y 0, 4, .inl m3f))] H := hP
    have hD : va_D A [(nw, .inr (4, [.ref kk, .ref nk, .ref nd, .ref ne, .ref nm, .ref nn, .int (nI fi), .int (nI gl), .int (nI un), .int (nI 1), .int (nI no)])), (nm, .inl (y 6, 4, .inr (.inr (.inr (.inr fm))))), (m0, .inl (y 0, 4, .inl m0f)), (m1, .inl (y 0, 4, .inl (upd (upd (upd m1f 0 (nI k)) 1 x) 2 x2))), (m2, .inl (y 0, 4, .inl m2f)), (m3, .inl (y 0, 4, .inl m3f))] := hD
    refine lv_aload hx hb dX4_addMissed_26 (lv_at hl 0 rfl) ?_
    refine lv_iconst (v := 3) hx hb dX4_addMissed_28 (by decide) ?_
    refine lv_iload hx hb dX4_addMissed_29 (lv_at hl 5 rfl) ?_
    refine va_iast hx hb hK hP hD hS 3 0 rfl rfl (by unfold vp_in; decide) dX4_addMissed_31 (fun H locs hP hD hS => ?_)
    rw [show ((3 : Int32)).toNatClampNeg = 3 from rfl] at hP hD
    have hp8 : vp_in ((upd (upd (upd (upd m1f 0 (nI k)) 1 x) 2 x2) 3 x3) 0) 6 := by rw [pk_un (by decide)]; exact hp7
    have hP : va_P D vwCl [(nw, .inr (4, [.ref kk, .ref nk, .ref nd, .ref ne, .ref nm, .ref nn, .int (nI fi), .int (nI gl), .int (nI un), .int (nI 1), .int (nI no)])), (nm, .inl (y 6, 4, .inr (.inr (.inr (.inr fm))))), (m0, .inl (y 0, 4, .inl m0f)), (m1, .inl (y 0, 4, .inl (upd (upd (upd (upd m1f 0 (nI k)) 1 x) 2 x2) 3 x3))), (m2, .inl (y 0, 4, .inl m2f)), (m3, .inl (y 0, 4, .inl m3f))] H := hP
    have hD : va_D A [(nw, .inr (4, [.ref kk, .ref nk, .ref nd, .ref ne, .ref nm, .ref nn, .int (nI fi), .int (nI gl), .int (nI un), .int (nI 1), .int (nI no)])), (nm, .inl (y 6, 4, .inr (.inr (.inr (.inr fm))))), (m0, .inl (y 0, 4, .inl m0f)), (m1, .inl (y 0, 4, .inl (upd (upd (upd (upd m1f 0 (nI k)) 1 x) 2 x2) 3 x3))), (m2, .inl (y 0, 4, .inl m2f)), (m3, .inl (y 0, 4, .inl m3f))] := hD
    refine lv_aload_n hx hb dX4_addMissed_32 rfl (lv_at hl 1 rfl) ?_
    refine lv_dup hx hb dX4_addMissed_33 rfl ?_
    refine va_get (D := D) (ci := 4) (v := .int (nI 1)) (C := RX4) (T := TX4) (N := 11) hx hb hts iw4 hown hK hP 0 rfl rfl 9 (by decide) fw2 (fun _ h9 => h9) rfl dX4_addMissed_34 ?_
    refine lv_iconst (v := 1) hx hb dX4_addMissed_37 (by decide) ?_
    refine lv_iadd hx hb dX4_addMissed_38 ?_
    rw [show (nI 1) + 1 = nI (2) from nI_add 1 1]
    refine lv_dup_x1 hx hb dX4_addMissed_39 rfl rfl ?_
    refine va_put (D := D) (ci := 4) (v := .int (nI 2)) (ty := .int) (C := RX4) (T := TX4) (N := 11) hx hb hts iw4 tyX4 tyX4_ok nmX4 hown hK hP hD hS 0 rfl rfl 9 (by decide) fw2 (fun _ h9 => h9) rfl (by decide +kernel) rfl rfl (Nat.le_of_ble_eq_true rfl) dX4_addMissed_40 (fun H locs hP hD hS => ?_)
    have hP : va_P D vwCl [(nw, .inr (4, [.ref kk, .ref nk, .ref nd, .ref ne, .ref nm, .ref nn, .int (nI fi), .int (nI gl), .int (nI un), .int (nI 2), .int (nI no)])), (nm, .inl (y 6, 4, .inr (.inr (.inr (.inr fm))))), (m0, .inl (y 0, 4, .inl m0f)), (m1, .inl (y 0, 4, .inl (upd (upd (upd (upd m1f 0 (nI k)) 1 x) 2 x2) 3 x3))), (m2, .inl (y 0, 4, .inl m2f)), (m3, .inl (y 0, 4, .inl m3f))] H := hP
    have hD : va_D A [(nw, .inr (4, [.ref kk, .ref nk, .ref nd, .ref ne, .ref nm, .ref nn, .int (nI fi), .int (nI gl), .int (nI un), .int (nI 2), .int (nI no)])), (nm, .inl (y 6, 4, .inr (.inr (.inr (.inr fm))))), (m0, .inl (y 0, 4, .inl m0f)), (m1, .inl (y 0, 4, .inl (upd (upd (upd (upd m1f 0 (nI k)) 1 x) 2 x2) 3 x3))), (m2, .inl (y 0, 4, .inl m2f)), (m3, .inl (y 0, 4, .inl m3f))] := hD
    exact W.iret (v := (nI 2)) hx hb hr (fun tZ ht hW => ⟨⟨(nI 2), (2, m0f, (upd (upd (upd (upd m1f 0 (nI k)) 1 x) 2 x2) 3 x3), m2f, m3f), rfl, ⟨by first | omega | (dsimp only; omega), hm0f, hp8, hm2f, hm3f⟩, by rw [ht]; exact hP.sub [0, 1, 2, 3, 4, 5] rfl, hD.sub [0, 1, 2, 3, 4, 5] (by decide) rfl⟩, hS.F ht⟩) hS.2.2 dX4_addMissed_43
  · skip
    refine kw_aldQ hx hb hK hP 1 6 rfl rfl (vp_in_nI (by omega) (by decide)) dX4_addMissed_8 ?_
    rw [nI_clamp (n := 2) (by omega), show va_rf (fm 2) = .ref m2 from congrArg va_rf hm2]
    refine lv_astore (lv' := [(5, .ref m2), (0, .ref nw), (1, .int (nI k)), (2, .int x), (3, .int x2), (4, .int x3)]) hx hb dX4_addMissed_9 hl (by decide) rfl (fun ls hl => ?_)
    refine lv_aload hx hb dX4_addMissed_11 (lv_at hl 0 rfl) ?_
    refine lv_iconst (v := 0) hx hb dX4_addMissed_13 (by decide) ?_
    refine lv_iload_n hx hb dX4_addMissed_14 rfl (lv_at hl 2 rfl) ?_
    refine va_iast hx hb hK hP hD hS 4 0 rfl rfl (by unfold vp_in; decide) dX4_addMissed_15 (fun H locs hP hD hS => ?_)
    rw [show ((0 : Int32)).toNatClampNeg = 0 from rfl] at hP hD
    have hp9 : vp_in ((upd m2f 0 (nI k)) 0) 6 := by rw [pk_us]; exact (vp_in_nI (by omega) (by decide))
    have hP : va_P D vwCl [(nw, .inr (4, [.ref kk, .ref nk, .ref nd, .ref ne, .ref nm, .ref nn, .int (nI fi), .int (nI gl), .int (nI un), .int (nI 2), .int (nI no)])), (nm, .inl (y 6, 4, .inr (.inr (.inr (.inr fm))))), (m0, .inl (y 0, 4, .inl m0f)), (m1, .inl (y 0, 4, .inl m1f)), (m2, .inl (y 0, 4, .inl (upd m2f 0 (nI k)))), (m3, .inl (y 0, 4, .inl m3f))] H := hP
    have hD : va_D A [(nw, .inr (4, [.ref kk, .ref nk, .ref nd, .ref ne, .ref nm, .ref nn, .int (nI fi), .int (nI gl), .int (nI un), .int (nI 2), .int (nI no)])), (nm, .inl (y 6, 4, .inr (.inr (.inr (.inr fm))))), (m0, .inl (y 0, 4, .inl m0f)), (m1, .inl (y 0, 4, .inl m1f)), (m2, .inl (y 0, 4, .inl (upd m2f 0 (nI k)))), (m3, .inl (y 0, 4, .inl m3f))] := hD
    refine lv_aload hx hb dX4_addMissed_16 (lv_at hl 0 rfl) ?_
    refine lv_iconst (v := 1) hx hb dX4_addMissed_18 (by decide) ?_
    refine lv_iload_n hx hb dX4_addMissed_19 rfl (lv_at hl 3 rfl) ?_
    refine va_iast hx hb hK hP hD hS 4 0 rfl rfl (by unfold vp_in; decide) dX4_addMissed_20 (fun H locs hP hD hS => ?_)
    rw [show ((1 : Int32)).toNatClampNeg = 1 from rfl] at hP hD
    have hp10 : vp_in ((upd (upd m2f 0 (nI k)) 1 x) 0) 6 := by rw [pk_un (by decide)]; exact hp9
    have hP : va_P D vwCl [(nw, .inr (4, [.ref kk, .ref nk, .ref nd, .ref ne, .ref nm, .ref nn, .int (nI fi), .int (nI gl), .int (nI un), .int (nI 2), .int (nI no)])), (nm, .inl (y 6, 4, .inr (.inr (.inr (.inr fm))))), (m0, .inl (y 0, 4, .inl m0f)), (m1, .inl (y 0, 4, .inl m1f)), (m2, .inl (y 0, 4, .inl (upd (upd m2f 0 (nI k)) 1 x))), (m3, .inl (y 0, 4, .inl m3f))] H := hP
    have hD : va_D A [(nw, .inr (4, [.ref kk, .ref nk, .ref nd, .ref ne, .ref nm, .ref nn, .int (nI fi), .int (nI gl), .int (nI un), .int (nI 2), .int (nI no)])), (nm, .inl (y 6, 4, .inr (.inr (.inr (.inr fm))))), (m0, .inl (y 0, 4, .inl m0f)), (m1, .inl (y 0, 4, .inl m1f)), (m2, .inl (y 0, 4, .inl (upd (upd m2f 0 (nI k)) 1 x))), (m3, .inl (y 0, 4, .inl m3f))] := hD
    refine lv_aload hx hb dX4_addMissed_21 (lv_at hl 0 rfl) ?_
    refine lv_iconst (v := 2) hx hb dX4_addMissed_23 (by decide) ?_
    refine lv_iload_n hx hb dX4_addMissed_24 rfl (lv_at hl 4 rfl) ?_
    refine va_iast hx hb hK hP hD hS 4 0 rfl rfl (by unfold vp_in; decide) dX4_addMissed_25 (fun H locs hP hD hS => ?_)
    rw [show ((2 : Int32)).toNatClampNeg = 2 from rfl] at hP hD
    have hp11 : vp_in ((upd (upd (upd m2f 0 (nI k)) 1 x) 2 x2) 0) 6 := by rw [pk_un (by decide)]; exact hp10
    have hP : va_P D vwCl [(nw, .inr (4, [.ref kk, .ref nk, .ref nd, .ref ne, .ref nm, .ref nn, .int (nI fi), .int (nI gl), .int (nI un), .int (nI 2), .int (nI no)])), (nm, .inl (y 6, 4, .inr (.inr (.inr (.inr fm))))), (m0, .inl (y 0, 4, .inl m0f)), (m1, .inl (y 0, 4, .inl m1f)), (m2, .inl (y 0, 4, .inl (upd (upd (upd m2f 0 (nI k)) 1 x) 2 x2))), (m3, .inl (y 0, 4, .inl m3f))] H := hP
    have hD : va_D A [(nw, .inr (4, [.ref kk, .ref nk, .ref nd, .ref ne, .ref nm, .ref nn, .int (nI fi), .int (nI gl), .int (nI un), .int (nI 2), .int (nI no)])), (nm, .inl (y 6, 4, .inr (.inr (.inr (.inr fm))))), (m0, .inl (y 0, 4, .inl m0f)), (m1, .inl (y 0, 4, .inl m1f)), (m2, .inl (y 0, 4, .inl (upd (upd (upd m2f 0 (nI k)) 1 x) 2 x2))), (m3, .inl (y 0, 4, .inl m3f))] := hD
    refine lv_aload hx hb dX4_addMissed_26 (lv_at hl 0 rfl) ?_
    refine lv_iconst (v := 3) hx hb dX4_addMissed_28 (by decide) ?_
    refine lv_iload hx hb dX4_addMissed_29 (lv_at hl 5 rfl) ?_
    refine va_iast hx hb hK hP hD hS 4 0 rfl rfl (by unfold vp_in; decide) dX4_addMissed_31 (fun H locs hP hD hS => ?_)
    rw [show ((3 : Int32)).toNatClampNeg = 3 from rfl] at hP hD
    have hp12 : vp_in ((upd (upd (upd (upd m2f 0 (nI k)) 1 x) 2 x2) 3 x3) 0) 6 := by rw [pk_un (by decide)]; exact hp11
    have hP : va_P D vwCl [(nw, .inr (4, [.ref kk, .ref nk, .ref nd, .ref ne, .ref nm, .ref nn, .int (nI fi), .int (nI gl), .int (nI un), .int (nI 2), .int (nI no)])), (nm, .inl (y 6, 4, .inr (.inr (.inr (.inr fm))))), (m0, .inl (y 0, 4, .inl m0f)), (m1, .inl (y 0, 4, .inl m1f)), (m2, .inl (y 0, 4, .inl (upd (upd (upd (upd m2f 0 (nI k)) 1 x) 2 x2) 3 x3))), (m3, .inl (y 0, 4, .inl m3f))] H := hP
    have hD : va_D A [(nw, .inr (4, [.ref kk, .ref nk, .ref nd, .ref ne, .ref nm, .ref nn, .int (nI fi), .int (nI gl), .int (nI un), .int (nI 2), .int (nI no)])), (nm, .inl (y 6, 4, .inr (.inr (.inr (.inr fm))))), (m0, .inl (y 0, 4, .inl m0f)), (m1, .inl (y 0, 4, .inl m1f)), (m2, .inl (y 0, 4, .inl (upd (upd (upd (upd m2f 0 (nI k)) 1 x) 2 x2) 3 x3))), (m3, .inl (y 0, 4, .inl m3f))] := hD
    refine lv_aload_n hx hb dX4_addMissed_32 rfl (lv_at hl 1 rfl) ?_
    refine lv_dup hx hb dX4_addMissed_33 rfl ?_
    refine va_get (D := D) (ci := 4) (v := .int (nI 2)) (C := RX4) (T := TX4) (N := 11) hx hb hts iw4 hown hK hP 0 rfl rfl 9 (by decide) fw2 (fun _ h9 => h9) rfl dX4_addMissed_34 ?_
    refine lv_iconst (v := 1) hx hb dX4_addMissed_37 (by decide) ?_
    refine lv_iadd hx hb dX4_addMissed_38 ?_
    rw [show (nI 2) + 1 = nI (3) from nI_add 2 1]
    refine lv_dup_x1 hx hb dX4_addMissed_39 rfl rfl ?_
    refine va_put (D := D) (ci := 4) (v := .int (nI 3)) (ty := .int) (C := RX4) (T := TX4) (N := 11) hx hb hts iw4 tyX4 tyX4_ok nmX4 hown hK hP hD hS 0 rfl rfl 9 (by decide) fw2 (fun _ h9 => h9) rfl (by decide +kernel) rfl rfl (Nat.le_of_ble_eq_true rfl) dX4_addMissed_40 (fun H locs hP hD hS => ?_)
    have hP : va_P D vwCl [(nw, .inr (4, [.ref kk, .ref nk, .ref nd, .ref ne, .ref nm, .ref nn, .int (nI fi), .int (nI gl), .int (nI un), .int (nI 3), .int (nI no)])), (nm, .inl (y 6, 4, .inr (.inr (.inr (.inr fm))))), (m0, .inl (y 0, 4, .inl m0f)), (m1, .inl (y 0, 4, .inl m1f)), (m2, .inl (y 0, 4, .inl (upd (upd (upd (upd m2f 0 (nI k)) 1 x) 2 x2) 3 x3))), (m3, .inl (y 0, 4, .inl m3f))] H := hP
    have hD : va_D A [(nw, .inr (4, [.ref kk, .ref nk, .ref nd, .ref ne, .ref nm, .ref nn, .int (nI fi), .int (nI gl), .int (nI un), .int (nI 3), .int (nI no)])), (nm, .inl (y 6, 4, .inr (.inr (.inr (.inr fm))))), (m0, .inl (y 0, 4, .inl m0f)), (m1, .inl (y 0, 4, .inl m1f)), (m2, .inl (y 0, 4, .inl (upd (upd (upd (upd m2f 0 (nI k)) 1 x) 2 x2) 3 x3))), (m3, .inl (y 0, 4, .inl m3f))] := hD
    exact W.iret (v := (nI 3)) hx hb hr (fun tZ ht hW => ⟨⟨(nI 3), (3, m0f, m1f, (upd (upd (upd (upd m2f 0 (nI k)) 1 x) 2 x2) 3 x3), m3f), rfl, ⟨by first | omega | (dsimp only; omega), hm0f, hm1f, hp12, hm3f⟩, by rw [ht]; exact hP.sub [0, 1, 2, 3, 4, 5] rfl, hD.sub [0, 1, 2, 3, 4, 5] (by decide) rfl⟩, hS.F ht⟩) hS.2.2 dX4_addMissed_43
  · skip
    refine kw_aldQ hx hb hK hP 1 6 rfl rfl (vp_in_nI (by omega) (by decide)) dX4_addMissed_8 ?_
    rw [nI_clamp (n := 3) (by omega), show va_rf (fm 3) = .ref m3 from congrArg va_rf hm3]
    refine lv_astore (lv' := [(5, .ref m3), (0, .ref nw), (1, .int (nI k)), (2, .int x), (3, .int x2), (4, .int x3)]) hx hb dX4_addMissed_9 hl (by decide) rfl (fun ls hl => ?_)
    refine lv_aload hx hb dX4_addMissed_11 (lv_at hl 0 rfl) ?_
    refine lv_iconst (v := 0) hx hb dX4_addMissed_13 (by decide) ?_
    refine lv_iload_n hx hb dX4_addMissed_14 rfl (lv_at hl 2 rfl) ?_
    refine va_iast hx hb hK hP hD hS 5 0 rfl rfl (by unfold vp_in; decide) dX4_addMissed_15 (fun H locs hP hD hS => ?_)
    rw [show ((0 : Int32)).toNatClampNeg = 0 from rfl] at hP hD
    have hp13 : vp_in ((upd m3f 0 (nI k)) 0) 6 := by rw [pk_us]; exact (vp_in_nI (by omega) (by decide))
    have hP : va_P D vwCl [(nw, .inr (4, [.ref kk, .ref nk, .ref nd, .ref ne, .ref nm, .ref nn, .int (nI fi), .int (nI gl), .int (nI un), .int (nI 3), .int (nI no)])), (nm, .inl (y 6, 4, .inr (.inr (.inr (.inr fm))))), (m0, .inl (y 0, 4, .inl m0f)), (m1, .inl (y 0, 4, .inl m1f)), (m2, .inl (y 0, 4, .inl m2f)), (m3, .inl (y 0, 4, .inl (upd m3f 0 (nI k))))] H := hP
    have hD : va_D A [(nw, .inr (4, [.ref kk, .ref nk, .ref nd, .ref ne, .ref nm, .ref nn, .int (nI fi), .int (nI gl), .int (nI un), .int (nI 3), .int (nI no)])), (nm, .inl (y 6, 4, .inr (.inr (.inr (.inr fm))))), (m0, .inl (y 0, 4, .inl m0f)), (m1, .inl (y 0, 4, .inl m1f)), (m2, .inl (y 0, 4, .inl m2f)), (m3, .inl (y 0, 4, .inl (upd m3f 0 (nI k))))] := hD
    refine lv_aload hx hb dX4_addMissed_16 (lv_at hl 0 rfl) ?_
    refine lv_iconst (v := 1) hx hb dX4_addMissed_18 (by decide) ?_
    refine lv_iload_n hx hb dX4_addMissed_19 rfl (lv_at hl 3 rfl) ?_
    refine va_iast hx hb hK hP hD hS 5 0 rfl rfl (by unfold vp_in; decide) dX4_addMissed_20 (fun H locs hP hD hS => ?_)
    rw [show ((1 : Int32)).toNatClampNeg = 1 from rfl] at hP hD
    have hp14 : vp_in ((upd (upd m3f 0 (nI k)) 1 x) 0) 6 := by rw [pk_un (by decide)]; exact hp13
    have hP : va_P D vwCl [(nw, .inr (4, [.ref kk, .ref nk, .ref nd, .ref ne, .ref nm, .ref nn, .int (nI fi), .int (nI gl), .int (nI un), .int (nI 3), .int (nI no)])), (nm, .inl (y 6, 4, .inr (.inr (.inr (.inr fm))))), (m0, .inl (y 0, 4, .inl m0f)), (m1, .inl (y 0, 4, .inl m1f)), (m2, .inl (y 0, 4, .inl m2f)), (m3, .inl (y 0, 4, .inl (upd (upd m3f 0 (nI k)) 1 x)))] H := hP
    have hD : va_D A [(nw, .inr (4, [.ref kk, .ref nk, .ref nd, .ref ne, .ref nm, .ref nn, .int (nI fi), .int (nI gl), .int (nI un), .int (nI 3), .int (nI no)])), (nm, .inl (y 6, 4, .inr (.inr (.inr (.inr fm))))), (m0, .inl (y 0, 4, .inl m0f)), (m1, .inl (y 0, 4, .inl m1f)), (m2, .inl (y 0, 4, .inl m2f)), (m3, .inl (y 0, 4, .inl (upd (upd m3f 0 (nI k)) 1 x)))] := hD
    refine lv_aload hx hb dX4_addMissed_21 (lv_at hl 0 rfl) ?_
    refine lv_iconst (v := 2) hx hb dX4_addMissed_23 (by decide) ?_
    refine lv_iload_n hx hb dX4_addMissed_24 rfl (lv_at hl 4 rfl) ?_
    refine va_iast hx hb hK hP hD hS 5 0 rfl rfl (by unfold vp_in; decide) dX4_addMissed_25 (fun H locs hP hD hS => ?_)
    rw [show ((2 : Int32)).toNatClampNeg = 2 from rfl] at hP hD
    have hp15 : vp_in ((upd (upd (upd m3f 0 (nI k)) 1 x) 2 x2) 0) 6 := by rw [pk_un (by decide)]; exact hp14
    have hP : va_P D vwCl [(nw, .inr (4, [.ref kk, .ref nk, .ref nd, .ref ne, .ref nm, .ref nn, .int (nI fi), .int (nI gl), .int (nI un), .int (nI 3), .int (nI no)])), (nm, .inl (y 6, 4, .inr (.inr (.inr (.inr fm))))), (m0, .inl (y 0, 4, .inl m0f)), (m1, .inl (y 0, 4, .inl m1f)), (m2, .inl (y 0, 4, .inl m2f)), (m3, .inl (y 0, 4, .inl (upd (upd (upd m3f 0 (nI k)) 1 x) 2 x2)))] H := hP
    have hD : va_D A [(nw, .inr (4, [.ref kk, .ref nk, .ref nd, .ref ne, .ref nm, .ref nn, .int (nI fi), .int (nI gl), .int (nI un), .int (nI 3), .int (nI no)])), (nm, .inl (y 6, 4, .inr (.inr (.inr (.inr fm))))), (m0, .inl (y 0, 4, .inl m0f)), (m1, .inl (y 0, 4, .inl m1f)), (m2, .inl (y 0, 4, .inl m2f)), (m3, .inl (y 0, 4, .inl (upd (upd (upd m3f 0 (nI k)) 1 x) 2 x2)))] := hD
    refine lv_aload hx hb dX4_addMissed_26 (lv_at hl 0 rfl) ?_
    refine lv_iconst (v := 3) hx hb dX4_addMissed_28 (by decide) ?_
    refine lv_iload hx hb dX4_addMissed_29 (lv_at hl 5 rfl) ?_
    refine va_iast hx hb hK hP hD hS 5 0 rfl rfl (by unfold vp_in; decide) dX4_addMissed_31 (fun H locs hP hD hS => ?_)
    rw [show ((3 : Int32)).toNatClampNeg = 3 from rfl] at hP hD
    have hp16 : vp_in ((upd (upd (upd (upd m3f 0 (nI k)) 1 x) 2 x2) 3 x3) 0) 6 := by rw [pk_un (by decide)]; exact hp15
    have hP : va_P D vwCl [(nw, .inr (4, [.ref kk, .ref nk, .ref nd, .ref ne, .ref nm, .ref nn, .int (nI fi), .int (nI gl), .int (nI un), .int (nI 3), .int (nI no)])), (nm, .inl (y 6, 4, .inr (.inr (.inr (.inr fm))))), (m0, .inl (y 0, 4, .inl m0f)), (m1, .inl (y 0, 4, .inl m1f)), (m2, .inl (y 0, 4, .inl m2f)), (m3, .inl (y 0, 4, .inl (upd (upd (upd (upd m3f 0 (nI k)) 1 x) 2 x2) 3 x3)))] H := hP
    have hD : va_D A [(nw, .inr (4, [.ref kk, .ref nk, .ref nd, .ref ne, .ref nm, .ref nn, .int (nI fi), .int (nI gl), .int (nI un), .int (nI 3), .int (nI no)])), (nm, .inl (y 6, 4, .inr (.inr (.inr (.inr fm))))), (m0, .inl (y 0, 4, .inl m0f)), (m1, .inl (y 0, 4, .inl m1f)), (m2, .inl (y 0, 4, .inl m2f)), (m3, .inl (y 0, 4, .inl (upd (upd (upd (upd m3f 0 (nI k)) 1 x) 2 x2) 3 x3)))] := hD
    refine lv_aload_n hx hb dX4_addMissed_32 rfl (lv_at hl 1 rfl) ?_
    refine lv_dup hx hb dX4_addMissed_33 rfl ?_
    refine va_get (D := D) (ci := 4) (v := .int (nI 3)) (C := RX4) (T := TX4) (N := 11) hx hb hts iw4 hown hK hP 0 rfl rfl 9 (by decide) fw2 (fun _ h9 => h9) rfl dX4_addMissed_34 ?_
    refine lv_iconst (v := 1) hx hb dX4_addMissed_37 (by decide) ?_
    refine lv_iadd hx hb dX4_addMissed_38 ?_
    rw [show (nI 3) + 1 = nI (4) from nI_add 3 1]
    refine lv_dup_x1 hx hb dX4_addMissed_39 rfl rfl ?_
    refine va_put (D := D) (ci := 4) (v := .int (nI 4)) (ty := .int) (C := RX4) (T := TX4) (N := 11) hx hb hts iw4 tyX4 tyX4_ok nmX4 hown hK hP hD hS 0 rfl rfl 9 (by decide) fw2 (fun _ h9 => h9) rfl (by decide +kernel) rfl rfl (Nat.le_of_ble_eq_true rfl) dX4_addMissed_40 (fun H locs hP hD hS => ?_)
    have hP : va_P D vwCl [(nw, .inr (4, [.ref kk, .ref nk, .ref nd, .ref ne, .ref nm, .ref nn, .int (nI fi), .int (nI gl), .int (nI un), .int (nI 4), .int (nI no)])), (nm, .inl (y 6, 4, .inr (.inr (.inr (.inr fm))))), (m0, .inl (y 0, 4, .inl m0f)), (m1, .inl (y 0, 4, .inl m1f)), (m2, .inl (y 0, 4, .inl m2f)), (m3, .inl (y 0, 4, .inl (upd (upd (upd (upd m3f 0 (nI k)) 1 x) 2 x2) 3 x3)))] H := hP
    have hD : va_D A [(nw, .inr (4, [.ref kk, .ref nk, .ref nd, .ref ne, .ref nm, .ref nn, .int (nI fi), .int (nI gl), .int (nI un), .int (nI 4), .int (nI no)])), (nm, .inl (y 6, 4, .inr (.inr (.inr (.inr fm))))), (m0, .inl (y 0, 4, .inl m0f)), (m1, .inl (y 0, 4, .inl m1f)), (m2, .inl (y 0, 4, .inl m2f)), (m3, .inl (y 0, 4, .inl (upd (upd (upd (upd m3f 0 (nI k)) 1 x) 2 x2) 3 x3)))] := hD
    exact W.iret (v := (nI 4)) hx hb hr (fun tZ ht hW => ⟨⟨(nI 4), (4, m0f, m1f, m2f, (upd (upd (upd (upd m3f 0 (nI k)) 1 x) 2 x2) 3 x3)), rfl, ⟨by first | omega | (dsimp only; omega), hm0f, hm1f, hm2f, hp16⟩, by rw [ht]; exact hP.sub [0, 1, 2, 3, 4, 5] rfl, hD.sub [0, 1, 2, 3, 4, 5] (by decide) rfl⟩, hS.F ht⟩) hS.2.2 dX4_addMissed_43

set_option maxHeartbeats 4000000 in
set_option maxRecDepth 100000 in
theorem gc_addNote (l : Launch) (D : va_G) (y : Nat → ClassId) (nw : Nat) (kk : Nat) (nk : Nat) (nd : Nat) (ne : Nat) (nm : Nat) (nn : Nat) (fi : Nat) (gl : Nat) (un : Nat) (mi : Nat) (no : Nat) (t0 : Nat) (t1 : Nat) (t2 : Nat) (t3 : Nat) (t4 : Nat) (t5 : Nat) (t0f : Nat → Int32) (t1f : Nat → Int32) (t2f : Nat → Int32) (t3f : Nat → Int32) (t4f : Nat → Int32) (t5f : Nat → Int32) (fn_ : Nat → Option Nat) (x0 : Int32) (x : Int32) (x2 : Int32) (x3 : Int32) (x4 : Int32) (hfi : fi ≤ 6) (hgl : gl ≤ 5) (hun : un ≤ 8) (hmi : mi ≤ 4) (hno : no ≤ 6) (hn0 : fn_ 0 = some t0) (hn1 : fn_ 1 = some t1) (hn2 : fn_ 2 = some t2) (hn3 : fn_ 3 = some t3) (hn4 : fn_ 4 = some t4) (hn5 : fn_ 5 = some t5) (hlt : no < 6) : kw_Mi l yX4_addNote wsX4_addNote ({ frames := 1, cells := 0, slots := 0, locals := 60 }) D y [.ref nw, .int x0, .int x, .int x2, .int x3, .int x4] [(nw, .inr (4, [.ref kk, .ref nk, .ref nd, .ref ne, .ref nm, .ref nn, .int (nI fi), .int (nI gl), .int (nI un), .int (nI mi), .int (nI no)])), (nn, .inl (y 6, 6, .inr (.inr (.inr (.inr fn_))))), (t0, .inl (y 0, 5, .inl t0f)), (t1, .inl (y 0, 5, .inl t1f)), (t2, .inl (y 0, 5, .inl t2f)), (t3, .inl (y 0, 5, .inl t3f)), (t4, .inl (y 0, 5, .inl t4f)), (t5, .inl (y 0, 5, .inl t5f))] (fun (r : Int32) (u : Nat × (Nat → Int32) × (Nat → Int32) × (Nat → Int32) × (Nat → Int32) × (Nat → Int32) × (Nat → Int32)) => u.1 ≤ 6) (fun u => [(nw, .inr (4, [.ref kk, .ref nk, .ref nd, .ref ne, .ref nm, .ref nn, .int (nI fi), .int (nI gl), .int (nI un), .int (nI mi), .int (nI u.1)])), (nn, .inl (y 6, 6, .inr (.inr (.inr (.inr fn_))))), (t0, .inl (y 0, 5, .inl u.2.1)), (t1, .inl (y 0, 5, .inl u.2.2.1)), (t2, .inl (y 0, 5, .inl u.2.2.2.1)), (t3, .inl (y 0, 5, .inl u.2.2.2.2.1)), (t4, .inl (y 0, 5, .inl u.2.2.2.2.2.1)), (t5, .inl (y 0, 5, .inl u.2.2.2.2.2.2))]) 0 0 := by
  refine kw_Mi.of (cc := cX4_addNote) (maxL := 7) (ret := (some .int)) (by decide) rfl ?_
  intro pZ eZ s mZ beZ meZ cZ A hE
  obtain ⟨hx, hb, hr, hml, hts, hown, hlocks, hin, hA, hP, hD, hK, hN⟩ := hE
  have hS : va_S A s.heap s.heap [] := va_S.rf
  have hl := lv_entry ([.ref nw, .int x0, .int x, .int x2, .int x3, .int x4]) (n := 7) (Nat.le_of_ble_eq_true rfl)
  rw [lg_entry_eq]
  generalize (lg_sl ([.ref nw, .int x0, .int x, .int x2, .int x3, .int x4]) ++ List.replicate (7 - (lg_sl ([.ref nw, .int x0, .int x, .int x2, .int x3, .int x4])).length) Slot.unset).toArray = ls at hl ⊢
  have hl : lv_has ls 7 [(0, .ref nw), (1, .int x0), (2, .int x), (3, .int x2), (4, .int x3), (5, .int x4)] := hl
  have fw1 := hts (.fieldLink RX4 31 "GleanDusk$Parish" "notes" "[[I") (List.mem_of_getElem? (i := 1) rfl)
  have fw2 := hts (.fieldLink RX4 51 "GleanDusk$Parish" "noteCount" "I") (List.mem_of_getElem? (i := 2) rfl)
  have iw4 : ∀ w ∈ wsX40, w ∈ wsX4_addNote := fun _ h => List.mem_cons_of_mem _ (List.mem_append_right _ h)
  refine lv_aload_n hx hb dX4_addNote_0 rfl (lv_at hl 0 rfl) ?_
  refine va_get (D := D) (ci := 4) (v := .ref nn) (C := RX4) (T := TX4) (N := 11) hx hb hts iw4 hown hK hP 0 rfl rfl 5 (by decide) fw1 (fun _ h9 => h9) rfl dX4_addNote_1 ?_
  refine lv_aload_n hx hb dX4_addNote_4 rfl (lv_at hl 0 rfl) ?_
  refine va_get (D := D) (ci := 4) (v := .int (nI no)) (C := RX4) (T := TX4) (N := 11) hx hb hts iw4 hown hK hP 0 rfl rfl 10 (by decide) fw2 (fun _ h9 => h9) rfl dX4_addNote_5 ?_
  rcases (show no = 0 ∨ no = 1 ∨ no = 2 ∨ no = 3 ∨ no = 4 ∨ no = 5 by omega) with rfl | rfl | rfl | rfl | rfl | rfl
  · skip
    refine kw_aldQ hx hb hK hP 1 6 rfl rfl (vp_in_nI (by omega) (by decide)) dX4_addNote_8 ?_
    rw [nI_clamp (n := 0) (by omega), show va_rf (fn_ 0) = .ref t0 from congrArg va_rf hn0]
    refine lv_astore (lv' := [(6, .ref t0), (0, .ref nw), (1, .int x0), (2, .int x), (3, .int x2), (4, .int x3), (5, .int x4)]) hx hb dX4_addNote_9 hl (by decide) rfl (fun ls hl => ?_)
    refine lv_aload hx hb dX4_addNote_11 (lv_at hl 0 rfl) ?_
    refine lv_iconst (v := 0) hx hb dX4_addNote_13 (by decide) ?_
    refine lv_iload_n hx hb dX4_addNote_14 rfl (lv_at hl 2 rfl) ?_
    refine va_iast hx hb hK hP hD hS 2 0 rfl rfl (by unfold vp_in; decide) dX4_addNote_15 (fun H locs hP hD hS => ?_)
    rw [show ((0 : Int32)).toNatClampNeg = 0 from rfl] at hP hD
    have hP : va_P D vwCl [(nw, .inr (4, [.ref kk, .ref nk, .ref nd, .ref ne, .ref nm, .ref nn, .int (nI fi), .int (nI gl), .int (nI un), .int (nI mi), .int (nI 0)])), (nn, .inl (y 6, 6, .inr (.inr (.inr (.inr fn_))))), (t0, .inl (y 0, 5, .inl (upd t0f 0 x0))), (t1, .inl (y 0, 5, .inl t1f)), (t2, .inl (y 0, 5, .inl t2f)), (t3, .inl (y 0, 5, .inl t3f)), (t4, .inl (y 0, 5, .inl t4f)), (t5, .inl (y 0, 5, .inl t5f))] H := hP
    have hD : va_D A [(nw, .inr (4, [.ref kk, .ref nk, .ref nd, .ref ne, .ref nm, .ref nn, .int (nI fi), .int (nI gl), .int (nI un), .int (nI mi), .int (nI 0)])), (nn, .inl (y 6, 6, .inr (.inr (.inr (.inr fn_))))), (t0, .inl (y 0, 5, .inl (upd t0f 0 x0))), (t1, .inl (y 0, 5, .inl t1f)), (t2, .inl (y 0, 5, .inl t2f)), (t3, .inl (y 0, 5, .inl t3f)), (t4, .inl (y 0, 5, .inl t4f)), (t5, .inl (y 0, 5, .inl t5f))] := hD
    refine lv_aload hx hb dX4_addNote_16 (lv_at hl 0 rfl) ?_
    refine lv_iconst (v := 1) hx hb dX4_addNote_18 (by decide) ?_
    refine lv_iload_n hx hb dX4_addNote_19 rfl (lv_at hl 3 rfl) ?_
    refine va_iast hx hb hK hP hD hS 2 0 rfl rfl (by unfold vp_in; decide) dX4_addNote_20 (fun H locs hP hD hS => ?_)
    rw [show ((1 : Int32)).toNatClampNeg = 1 from rfl] at hP hD
    have hP : va_P D vwCl [(nw, .inr (4, [.ref kk, .ref nk, .ref nd, .ref ne, .ref nm, .ref nn, .int (nI fi), .int (nI gl), .int (nI un), .int (nI mi), .int (nI 0)])), (nn, .inl (y 6, 6, .inr (.inr (.inr (.inr fn_))))), (t0, .inl (y 0, 5, .inl (upd (upd t0f 0 x0) 1 x))), (t1, .inl (y 0, 5, .inl t1f)), (t2, .inl (y 0, 5, .inl t2f)), (t3, .inl (y 0, 5, .inl t3f)), (t4, .inl (y 0, 5, .inl t4f)), (t5, .inl (y 0, 5, .inl t5f))] H := hP
    have hD : va_D A [(nw, .inr (4, [.ref kk, .ref nk, .ref nd, .ref ne, .ref nm, .ref nn, .int (nI fi), .int (nI gl), .int (nI un), .int (nI mi), .int (nI 0)])), (nn, .inl (y 6, 6, .inr (.inr (.inr (.inr fn_))))), (t0, .inl (y 0, 5, .inl (upd (upd t0f 0 x0) 1 x))), (t1, .inl (y 0, 5, .inl t1f)), (t2, .inl (y 0, 5, .inl t2f)), (t3, .inl (y 0, 5, .inl t3f)), (t4, .inl (y 0, 5, .inl t4f)), (t5, .inl (y 0, 5, .inl t5f))] := hD
    refine lv_aload hx hb dX4_addNote_21 (lv_at hl 0 rfl) ?_
    refine lv_iconst (v := 2) hx hb dX4_addNote_23 (by decide) ?_
    refine lv_iload_n hx hb dX4_addNote_24 rfl (lv_at hl 4 rfl) ?_
    refine va_iast hx hb hK hP hD hS 2 0 rfl rfl (by unfold vp_in; decide) dX4_addNote_25 (fun H locs hP hD hS => ?_)
    rw [show ((2 : Int32)).toNatClampNeg = 2 from rfl] at hP hD
    have hP : va_P D vwCl [(nw, .inr (4, [.ref kk, .ref nk, .ref nd, .ref ne, .ref nm, .ref nn, .int (nI fi), .int (nI gl), .int (nI un), .int (nI mi), .int (nI 0)])), (nn, .inl (y 6, 6, .inr (.inr (.inr (.inr fn_))))), (t0, .inl (y 0, 5, .inl (upd (upd (upd t0f 0 x0) 1 x) 2 x2))), (t1, .inl (y 0, 5, .inl t1f)), (t2, .inl (y 0, 5, .inl t2f)), (t3, .inl (y 0, 5, .inl t3f)), (t4, .inl (y 0, 5, .inl t4f)), (t5, .inl (y 0, 5, .inl t5f))] H := hP
    have hD : va_D A [(nw, .inr (4, [.ref kk, .ref nk, .ref nd, .ref ne, .ref nm, .ref nn, .int (nI fi), .int (nI gl), .int (nI un), .int (nI mi), .int (nI 0)])), (nn, .inl (y 6, 6, .inr (.inr (.inr (.inr fn_))))), (t0, .inl (y 0, 5, .inl (upd (upd (upd t0f 0 x0) 1 x) 2 x2))), (t1, .inl (y 0, 5, .inl t1f)), (t2, .inl (y 0, 5, .inl t2f)), (t3, .inl (y 0, 5, .inl t3f)), (t4, .inl (y 0, 5, .inl t4f)), (t5, .inl (y 0, 5, .inl t5f))] := hD
    refine lv_aload hx hb dX4_addNote_26 (lv_at hl 0 rfl) ?_
    refine lv_iconst (v := 3) hx hb dX4_addNote_28 (by decide) ?_
    refine lv_iload hx hb dX4_addNote_29 (lv_at hl 5 rfl) ?_
    refine va_iast hx hb hK hP hD hS 2 0 rfl rfl (by unfold vp_in; decide) dX4_addNote_31 (fun H locs hP hD hS => ?_)
    rw [show ((3 : Int32)).toNatClampNeg = 3 from rfl] at hP hD
    have hP : va_P D vwCl [(nw, .inr (4, [.ref kk, .ref nk, .ref nd, .ref ne, .ref nm, .ref nn, .int (nI fi), .int (nI gl), .int (nI un), .int (nI mi), .int (nI 0)])), (nn, .inl (y 6, 6, .inr (.inr (.inr (.inr fn_))))), (t0, .inl (y 0, 5, .inl (upd (upd (upd (upd t0f 0 x0) 1 x) 2 x2) 3 x3))), (t1, .inl (y 0, 5, .inl t1f)), (t2, .inl (y 0, 5, .inl t2f)), (t3, .inl (y 0, 5, .inl t3f)), (t4, .inl (y 0, 5, .inl t4f)), (t5, .inl (y 0, 5, .inl t5f))] H := hP
    have hD : va_D A [(nw, .inr (4, [.ref kk, .ref nk, .ref nd, .ref ne, .ref nm, .ref nn, .int (nI fi), .int (nI gl), .int (nI un), .int (nI mi), .int (nI 0)])), (nn, .inl (y 6, 6, .inr (.inr (.inr (.inr fn_))))), (t0, .inl (y 0, 5, .inl (upd (upd (upd (upd t0f 0 x0) 1 x) 2 x2) 3 x3))), (t1, .inl (y 0, 5, .inl t1f)), (t2, .inl (y 0, 5, .inl t2f)), (t3, .inl (y 0, 5, .inl t3f)), (t4, .inl (y 0, 5, .inl t4f)), (t5, .inl (y 0, 5, .inl t5f))] := hD
    refine lv_aload hx hb dX4_addNote_32 (lv_at hl 0 rfl) ?_
    refine lv_iconst (v := 4) hx hb dX4_addNote_34 (by decide) ?_
    refine lv_iload hx hb dX4_addNote_35 (lv_at hl 6 rfl) ?_
    refine va_iast hx hb hK hP hD hS 2 0 rfl rfl (by unfold vp_in; decide) dX4_addNote_37 (fun H locs hP hD hS => ?_)
    rw [show ((4 : Int32)).toNatClampNeg = 4 from rfl] at hP hD
    have hP : va_P D vwCl [(nw, .inr (4, [.ref kk, .ref nk, .ref nd, .ref ne, .ref nm, .ref nn, .int (nI fi), .int (nI gl), .int (nI un), .int (nI mi), .int (nI 0)])), (nn, .inl (y 6, 6, .inr (.inr (.inr (.inr fn_))))), (t0, .inl (y 0, 5, .inl (upd (upd (upd (upd (upd t0f 0 x0) 1 x) 2 x2) 3 x3) 4 x4))), (t1, .inl (y 0, 5, .inl t1f)), (t2, .inl (y 0, 5, .inl t2f)), (t3, .inl (y 0, 5, .inl t3f)), (t4, .inl (y 0, 5, .inl t4f)), (t5, .inl (y 0, 5, .inl t5f))] H := hP
    have hD : va_D A [(nw, .inr (4, [.ref kk, .ref nk, .ref nd, .ref ne, .ref nm, .ref nn, .int (nI fi), .int (nI gl), .int (nI un), .int (nI mi), .int (nI 0)])), (nn, .inl (y 6, 6, .inr (.inr (.inr (.inr fn_))))), (t0, .inl (y 0, 5, .inl (upd (upd (upd (upd (upd t0f 0 x0) 1 x) 2 x2) 3 x3) 4 x4))), (t1, .inl (y 0, 5, .inl t1f)), (t2, .inl (y 0, 5, .inl t2f)), (t3, .inl (y 0, 5, .inl t3f)), (t4, .inl (y 0, 5, .inl t4f)), (t5, .inl (y 0, 5, .inl t5f))] := hD
    refine lv_aload_n hx hb dX4_addNote_38 rfl (lv_at hl 1 rfl) ?_
    refine lv_dup hx hb dX4_addNote_39 rfl ?_
    refine va_get (D := D) (ci := 4) (v := .int (nI 0)) (C := RX4) (T := TX4) (N := 11) hx hb hts iw4 hown hK hP 0 rfl rfl 10 (by decide) fw2 (fun _ h9 => h9) rfl dX4_addNote_40 ?_
    refine lv_iconst (v := 1) hx hb dX4_addNote_43 (by decide) ?_
    refine lv_iadd hx hb dX4_addNote_44 ?_
    rw [show (nI 0) + 1 = nI (1) from nI_add 0 1]
    refine lv_dup_x1 hx hb dX4_addNote_45 rfl rfl ?_
    refine va_put (D := D) (ci := 4) (v := .int (nI 1)) (ty := .int) (C := RX4) (T := TX4) (N := 11) hx hb hts iw4 tyX4 tyX4_ok nmX4 hown hK hP hD hS 0 rfl rfl 10 (by decide) fw2 (fun _ h9 => h9) rfl (by decide +kernel) rfl rfl (Nat.le_of_ble_eq_true rfl) dX4_addNote_46 (fun H locs hP hD hS => ?_)
    have hP : va_P D vwCl [(nw, .inr (4, [.ref kk, .ref nk, .ref nd, .ref ne, .ref nm, .ref nn, .int (nI fi), .int (nI gl), .int (nI un), .int (nI mi), .int (nI 1)])), (nn, .inl (y 6, 6, .inr (.inr (.inr (.inr fn_))))), (t0, .inl (y 0, 5, .inl (upd (upd (upd (upd (upd t0f 0 x0) 1 x) 2 x2) 3 x3) 4 x4))), (t1, .inl (y 0, 5, .inl t1f)), (t2, .inl (y 0, 5, .inl t2f)), (t3, .inl (y 0, 5, .inl t3f)), (t4, .inl (y 0, 5, .inl t4f)), (t5, .inl (y 0, 5, .inl t5f))] H := hP
    have hD : va_D A [(nw, .inr (4, [.ref kk, .ref nk, .ref nd, .ref ne, .ref nm, .ref nn, .int (nI fi), .int (nI gl), .int (nI un), .int (nI mi), .int (nI 1)])), (nn, .inl (y 6, 6, .inr (.inr (.inr (.inr fn_))))), (t0, .inl (y 0, 5, .inl (upd (upd (upd (upd (upd t0f 0 x0) 1 x) 2 x2) 3 x3) 4 x4))), (t1, .inl (y 0, 5, .inl t1f)), (t2, .inl (y 0, 5, .inl t2f)), (t3, .inl (y 0, 5, .inl t3f)), (t4, .inl (y 0, 5, .inl t4f)), (t5, .inl (y 0, 5, .inl t5f))] := hD
    exact W.iret (v := (nI 1)) hx hb hr (fun tZ ht hW => ⟨⟨(nI 1), (1, (upd (upd (upd (upd (upd t0f 0 x0) 1 x) 2 x2) 3 x3) 4 x4), t1f, t2f, t3f, t4f, t5f), rfl, by first | omega | (dsimp only; omega), by rw [ht]; exact hP.sub [0, 1, 2, 3, 4, 5, 6, 7] rfl, hD.sub [0, 1, 2, 3, 4, 5, 6, 7] (by decide) rfl⟩, hS.F ht⟩) hS.2.2 dX4_addNote_49
  · skip
    refine kw_aldQ hx hb hK hP 1 6 rfl rfl (vp_in_nI (by omega) (by decide)) dX4_addNote_8 ?_
    rw [nI_clamp (n := 1) (by omega), show va_rf (fn_ 1) = .ref t1 from congrArg va_rf hn1]
    refine lv_astore (lv' := [(6, .ref t1), (0, .ref nw), (1, .int x0), (2, .int x), (3, .int x2), (4, .int x3), (5, .int x4)]) hx hb dX4_addNote_9 hl (by decide) rfl (fun ls hl => ?_)
    refine lv_aload hx hb dX4_addNote_11 (lv_at hl 0 rfl) ?_
    refine lv_iconst (v := 0) hx hb dX4_addNote_13 (by decide) ?_
    refine lv_iload_n hx hb dX4_addNote_14 rfl (lv_at hl 2 rfl) ?_
    refine va_iast hx hb hK hP hD hS 3 0 rfl rfl (by unfold vp_in; decide) dX4_addNote_15 (fun H locs hP hD hS => ?_)
    rw [show ((0 : Int32)).toNatClampNeg = 0 from rfl] at hP hD
    have hP : va_P D vwCl [(nw, .inr (4, [.ref kk, .ref nk, .ref nd, .ref ne, .ref nm, .ref nn, .int (nI fi), .int (nI gl), .int (nI un), .int (nI mi), .int (nI 1)])), (nn, .inl (y 6, 6, .inr (.inr (.inr (.inr fn_))))), (t0, .inl (y 0, 5, .inl t0f)), (t1, .inl (y 0, 5, .inl (upd t1f 0 x0))), (t2, .inl (y 0, 5, .inl t2f)), (t3, .inl (y 0, 5, .inl t3f)), (t4, .inl (y 0, 5, .inl t4f)), (t5, .inl (y 0, 5, .inl t5f))] H := hP
    have hD : va_D A [(nw, .inr (4, [.ref kk, .ref nk, .ref nd, .ref ne, .ref nm, .ref nn, .int (nI fi), .int (nI gl), .int (nI un), .int (nI mi), .int (nI 1)])), (nn, .inl (y 6, 6, .inr (.inr (.inr (.inr fn_))))), (t0, .inl (y 0, 5, .inl t0f)), (t1, .inl (y 0, 5, .inl (upd t1f 0 x0))), (t2, .inl (y 0, 5, .inl t2f)), (t3, .inl (y 0, 5, .inl t3f)), (t4, .inl (y 0, 5, .inl t4f)), (t5, .inl (y 0, 5, .inl t5f))] := hD
    refine lv_aload hx hb dX4_addNote_16 (lv_at hl 0 rfl) ?_
    refine lv_iconst (v := 1) hx hb dX4_addNote_18 (by decide) ?_
    refine lv_iload_n hx hb dX4_addNote_19 rfl (lv_at hl 3 rfl) ?_
    refine va_iast hx hb hK hP hD hS 3 0 rfl rfl (by unfold vp_in; decide) dX4_addNote_20 (fun H locs hP hD hS => ?_)
    rw [show ((1 : Int32)).toNatClampNeg = 1 from rfl] at hP hD
    have hP : va_P D vwCl [(nw, .inr (4, [.ref kk, .ref nk, .ref nd, .ref ne, .ref nm, .ref nn, .int (nI fi), .int (nI gl), .int (nI un), .int (nI mi), .int (nI 1)])), (nn, .inl (y 6, 6, .inr (.inr (.inr (.inr fn_))))), (t0, .inl (y 0, 5, .inl t0f)), (t1, .inl (y 0, 5, .inl (upd (upd t1f 0 x0) 1 x))), (t2, .inl (y 0, 5, .inl t2f)), (t3, .inl (y 0, 5, .inl t3f)), (t4, .inl (y 0, 5, .inl t4f)), (t5, .inl (y 0, 5, .inl t5f))] H := hP
    have hD : va_D A [(nw, .inr (4, [.ref kk, .ref nk, .ref nd, .ref ne, .ref nm, .ref nn, .int (nI fi), .int (nI gl), .int (nI un), .int (nI mi), .int (nI 1)])), (nn, .inl (y 6, 6, .inr (.inr (.inr (.inr fn_))))), (t0, .inl (y 0, 5, .inl t0f)), (t1, .inl (y 0, 5, .inl (upd (upd t1f 0 x0) 1 x))), (t2, .inl (y 0, 5, .inl t2f)), (t3, .inl (y 0, 5, .inl t3f)), (t4, .inl (y 0, 5, .inl t4f)), (t5, .inl (y 0, 5, .inl t5f))] := hD
    refine lv_aload hx hb dX4_addNote_21 (lv_at hl 0 rfl) ?_
    refine lv_iconst (v := 2) hx hb dX4_addNote_23 (by decide) ?_
    refine lv_iload_n hx hb dX4_addNote_24 rfl (lv_at hl 4 rfl) ?_
    refine va_iast hx hb hK hP hD hS 3 0 rfl rfl (by unfold vp_in; decide) dX4_addNote_25 (fun H locs hP hD hS => ?_)
    rw [show ((2 : Int32)).toNatClampNeg = 2 from rfl] at hP hD
    have hP : va_P D vwCl [(nw, .inr (4, [.ref kk, .ref nk, .ref nd, .ref ne, .ref nm, .ref nn, .int (nI fi), .int (nI gl), .int (nI un), .int (nI mi), .int (nI 1)])), (nn, .inl (y 6, 6, .inr (.inr (.inr (.inr fn_))))), (t0, .inl (y 0, 5, .inl t0f)), (t1, .inl (y 0, 5, .inl (upd (upd (upd t1f 0 x0) 1 x) 2 x2))), (t2, .inl (y 0, 5, .inl t2f)), (t3, .inl (y 0, 5, .inl t3f)), (t4, .inl (y 0, 5, .inl t4f)), (t5, .inl (y 0, 5, .inl t5f))] H := hP
    have hD : va_D A [(nw, .inr (4, [.ref kk, .ref nk, .ref nd, .ref ne, .ref nm, .ref nn, .int (nI fi), .int (nI gl), .int (nI un), .int (nI mi), .int (nI 1)])), (nn, .inl (y 6, 6, .inr (.inr (.inr (.inr fn_))))), (t0, .inl (y 0, 5, .inl t0f)), (t1, .inl (y 0, 5, .inl (upd (upd (upd t1f 0 x0) 1 x) 2 x2))), (t2, .inl (y 0, 5, .inl t2f)), (t3, .inl (y 0, 5, .inl t3f)), (t4, .inl (y 0, 5, .inl t4f)), (t5, .inl (y 0, 5, .inl t5f))] := hD
    refine lv_aload hx hb dX4_addNote_26 (lv_at hl 0 rfl) ?_
    refine lv_iconst (v := 3) hx hb dX4_addNote_28 (by decide) ?_
    refine lv_iload hx hb dX4_addNote_29 (lv_at hl 5 rfl) ?_
    refine va_iast hx hb hK hP hD hS 3 0 rfl rfl (by unfold vp_in; decide) dX4_addNote_31 (fun H locs hP hD hS => ?_)
    rw [show ((3 : Int32)).toNatClampNeg = 3 from rfl] at hP hD
    have hP : va_P D vwCl [(nw, .inr (4, [.ref kk, .ref nk, .ref nd, .ref ne, .ref nm, .ref nn, .int (nI fi), .int (nI gl), .int (nI un), .int (nI mi), .int (nI 1)])), (nn, .inl (y 6, 6, .inr (.inr (.inr (.inr fn_))))), (t0, .inl (y 0, 5, .inl t0f)), (t1, .inl (y 0, 5, .inl (upd (upd (upd (upd t1f 0 x0) 1 x) 2 x2) 3 x3))), (t2, .inl (y 0, 5, .inl t2f)), (t3, .inl (y 0, 5, .inl t3f)), (t4, .inl (y 0, 5, .inl t4f)), (t5, .inl (y 0, 5, .inl t5f))] H := hP
    have hD : va_D A [(nw, .inr (4, [.ref kk, .ref nk, .ref nd, .ref ne, .ref nm, .ref nn, .int (nI fi), .int (nI gl), .int (nI un), .int (nI mi), .int (nI 1)])), (nn, .inl (y 6, 6, .inr (.inr (.inr (.inr fn_))))), (t0, .inl (y 0, 5, .inl t0f)), (t1, .inl (y 0, 5, .inl (upd (upd (upd (upd t1f 0 x0) 1 x) 2 x2) 3 x3))), (t2, .inl (y 0, 5, .inl t2f)), (t3, .inl (y 0, 5, .inl t3f)), (t4, .inl (y 0, 5, .inl t4f)), (t5, .inl (y 0, 5, .inl t5f))] := hD
    refine lv_aload hx hb dX4_addNote_32 (lv_at hl 0 rfl) ?_
    refine lv_iconst (v := 4) hx hb dX4_addNote_34 (by decide) ?_
    refine lv_iload hx hb dX4_addNote_35 (lv_at hl 6 rfl) ?_
    refine va_iast hx hb hK hP hD hS 3 0 rfl rfl (by unfold vp_in; decide) dX4_addNote_37 (fun H locs hP hD hS => ?_)
    rw [show ((4 : Int32)).toNatClampNeg = 4 from rfl] at hP hD
    have hP : va_P D vwCl [(nw, .inr (4, [.ref kk, .ref nk, .ref nd, .ref ne, .ref nm, .ref nn, .int (nI fi), .int (nI gl), .int (nI un), .int (nI mi), .int (nI 1)])), (nn, .inl (y 6, 6, .inr (.inr (.inr (.inr fn_))))), (t0, .inl (y 0, 5, .inl t0f)), (t1, .inl (y 0, 5, .inl (upd (upd (upd (upd (upd t1f 0 x0) 1 x) 2 x2) 3 x3) 4 x4))), (t2, .inl (y 0, 5, .inl t2f)), (t3, .inl (y 0, 5, .inl t3f)), (t4, .inl (y 0, 5, .inl t4f)), (t5, .inl (y 0, 5, .inl t5f))] H := hP
    have hD : va_D A [(nw, .inr (4, [.ref kk, .ref nk, .ref nd, .ref ne, .ref nm, .ref nn, .int (nI fi), .int (nI gl), .int (nI un), .int (nI mi), .int (nI 1)])), (nn, .inl (y 6, 6, .inr (.inr (.inr (.inr fn_))))), (t0, .inl (y 0, 5, .inl t0f)), (t1, .inl (y 0, 5, .inl (upd (upd (upd (upd (upd t1f 0 x0) 1 x) 2 x2) 3 x3) 4 x4))), (t2, .inl (y 0, 5, .inl t2f)), (t3, .inl (y 0, 5, .inl t3f)), (t4, .inl (y 0, 5, .inl t4f)), (t5, .inl (y 0, 5, .inl t5f))] := hD
    refine lv_aload_n hx hb dX4_addNote_38 rfl (lv_at hl 1 rfl) ?_
    refine lv_dup hx hb dX4_addNote_39 rfl ?_
    refine va_get (D := D) (ci := 4) (v := .int (nI 1)) (C := RX4) (T := TX4) (N := 11) hx hb hts iw4 hown hK hP 0 rfl rfl 10 (by decide) fw2 (fun _ h9 => h9) rfl dX4_addNote_40 ?_
    refine lv_iconst (v := 1) hx hb dX4_addNote_43 (by decide) ?_
    refine lv_iadd hx hb dX4_addNote_44 ?_
    rw [show (nI 1) + 1 = nI (2) from nI_add 1 1]
    refine lv_dup_x1 hx hb dX4_addNote_45 rfl rfl ?_
    refine va_put (D := D) (ci := 4) (v := .int (nI 2)) (ty := .int) (C := RX4) (T := TX4) (N := 11) hx hb hts iw4 tyX4 tyX4_ok nmX4 hown hK hP hD hS 0 rfl rfl 10 (by decide) fw2 (fun _ h9 => h9) rfl (by decide +kernel) rfl rfl (Nat.le_of_ble_eq_true rfl) dX4_addNote_46 (fun H locs hP hD hS => ?_)
    have hP : va_P D vwCl [(nw, .inr (4, [.ref kk, .ref nk, .ref nd, .ref ne, .ref nm, .ref nn, .int (nI fi), .int (nI gl), .int (nI un), .int (nI mi), .int (nI 2)])), (nn, .inl (y 6, 6, .inr (.inr (.inr (.inr fn_))))), (t0, .inl (y 0, 5, .inl t0f)), (t1, .inl (y 0, 5, .inl (upd (upd (upd (upd (upd t1f 0 x0) 1 x) 2 x2) 3 x3) 4 x4))), (t2, .inl (y 0, 5, .inl t2f)), (t3, .inl (y 0, 5, .inl t3f)), (t4, .inl (y 0, 5, .inl t4f)), (t5, .inl (y 0, 5, .inl t5f))] H := hP
    have hD : va_D A [(nw, .inr (4, [.ref kk, .ref nk, .ref nd, .ref ne, .ref nm, .ref nn, .int (nI fi), .int (nI gl), .int (nI un), .int (nI mi), .int (nI 2)])), (nn, .inl (y 6, 6, .inr (.inr (.inr (.inr fn_))))), (t0, .inl (y 0, 5, .inl t0f)), (t1, .inl (y 0, 5, .inl (upd (upd (upd (upd (upd t1f 0 x0) 1 x) 2 x2) 3 x3) 4 x4))), (t2, .inl (y 0, 5, .inl t2f)), (t3, .inl (y 0, 5, .inl t3f)), (t4, .inl (y 0, 5, .inl t4f)), (t5, .inl (y 0, 5, .inl t5f))] := hD
    exact W.iret (v := (nI 2)) hx hb hr (fun tZ ht hW => ⟨⟨(nI 2), (2, t0f, (upd (upd (upd (upd (upd t1f 0 x0) 1 x) 2 x2) 3 x3) 4 x4), t2f, t3f, t4f, t5f), rfl, by first | omega | (dsimp only; omega), by rw [ht]; exact hP.sub [0, 1, 2, 3, 4, 5, 6, 7] rfl, hD.sub [0, 1, 2, 3, 4, 5, 6, 7] (by decide) rfl⟩, hS.F ht⟩) hS.2.2 dX4_addNote_49
  · skip
    refine kw_aldQ hx hb hK hP 1 6 rfl rfl (vp_in_nI (by omega) (by decide)) dX4_addNote_8 ?_
    rw [nI_clamp (n := 2) (by omega), show va_rf (fn_ 2) = .ref t2 from congrArg va_rf hn2]
    refine lv_astore (lv' := [(6, .ref t2), (0, .ref nw), (1, .int x0), (2, .int x), (3, .int x2), (4, .int x3), (5, .int x4)]) hx hb dX4_addNote_9 hl (by decide) rfl (fun ls hl => ?_)
    refine lv_aload hx hb dX4_addNote_11 (lv_at hl 0 rfl) ?_
    refine lv_iconst (v := 0) hx hb dX4_addNote_13 (by decide) ?_
    refine lv_iload_n hx hb dX4_addNote_14 rfl (lv_at hl 2 rfl) ?_
    refine va_iast hx hb hK hP hD hS 4 0 rfl rfl (by unfold vp_in; decide) dX4_addNote_15 (fun H locs hP hD hS => ?_)
    rw [show ((0 : Int32)).toNatClampNeg = 0 from rfl] at hP hD
    have hP : va_P D vwCl [(nw, .inr (4, [.ref kk, .ref nk, .ref nd, .ref ne, .ref nm, .ref nn, .int (nI fi), .int (nI gl), .int (nI un), .int (nI mi), .int (nI 2)])), (nn, .inl (y 6, 6, .inr (.inr (.inr (.inr fn_))))), (t0, .inl (y 0, 5, .inl t0f)), (t1, .inl (y 0, 5, .inl t1f)), (t2, .inl (y 0, 5, .inl (upd t2f 0 x0))), (t3, .inl (y 0, 5, .inl t3f)), (t4, .inl (y 0, 5, .inl t4f)), (t5, .inl (y 0, 5, .inl t5f))] H := hP
    have hD : va_D A [(nw, .inr (4, [.ref kk, .ref nk, .ref nd, .ref ne, .ref nm, .ref nn, .int (nI fi), .int (nI gl), .int (nI un), .int (nI mi), .int (nI 2)])), (nn, .inl (y 6, 6, .inr (.inr (.inr (.inr fn_))))), (t0, .inl (y 0, 5, .inl t0f)), (t1, .inl (y 0, 5, .inl t1f)), (t2, .inl (y 0, 5, .inl (upd t2f 0 x0))), (t3, .inl (y 0, 5, .inl t3f)), (t4, .inl (y 0, 5, .inl t4f)), (t5, .inl (y 0, 5, .inl t5f))] := hD
    refine lv_aload hx hb dX4_addNote_16 (lv_at hl 0 rfl) ?_
    refine lv_iconst (v := 1) hx hb dX4_addNote_18 (by decide) ?_
    refine lv_iload_n hx hb dX4_addNote_19 rfl (lv_at hl 3 rfl) ?_
    refine va_iast hx hb hK hP hD hS 4 0 rfl rfl (by unfold vp_in; decide) dX4_addNote_20 (fun H locs hP hD hS => ?_)
    rw [show ((1 : Int32)).toNatClampNeg = 1 from rfl] at hP hD
    have hP : va_P D vwCl [(nw, .inr (4, [.ref kk, .ref nk, .ref nd, .ref ne, .ref nm, .ref nn, .int (nI fi), .int (nI gl), .int (nI un), .int (nI mi), .int (nI 2)])), (nn, .inl (y 6, 6, .inr (.inr (.inr (.inr fn_))))), (t0, .inl (y 0, 5, .inl t0f)), (t1, .inl (y 0, 5, .inl t1f)), (t2, .inl (y 0, 5, .inl (upd (upd t2f 0 x0) 1 x))), (t3, .inl (y 0, 5, .inl t3f)), (t4, .inl (y 0, 5, .inl t4f)), (t5, .inl (y 0, 5, .inl t5f))] H := hP
    have hD : va_D A [(nw, .inr (4, [.ref kk, .ref nk, .ref nd, .ref ne, .ref nm, .ref nn, .int (nI fi), .int (nI gl), .int (nI un), .int (nI mi), .int (nI 2)])), (nn, .inl (y 6, 6, .inr (.inr (.inr (.inr fn_))))), (t0, .inl (y 0, 5, .inl t0f)), (t1, .inl (y 0, 5, .inl t1f)), (t2, .inl (y 0, 5, .inl (upd (upd t2f 0 x0) 1 x))), (t3, .inl (y 0, 5, .inl t3f)), (t4, .inl (y 0, 5, .inl t4f)), (t5, .inl (y 0, 5, .inl t5f))] := hD
    refine lv_aload hx hb dX4_addNote_21 (lv_at hl 0 rfl) ?_
    refine lv_iconst (v := 2) hx hb dX4_addNote_23 (by decide) ?_
    refine lv_iload_n hx hb dX4_addNote_24 rfl (lv_at hl 4 rfl) ?_
    refine va_iast hx hb hK hP hD hS 4 0 rfl rfl (by unfold vp_in; decide) dX4_addNote_25 (fun H locs hP hD hS => ?_)
    rw [show ((2 : Int32)).toNatClampNeg = 2 from rfl] at hP hD
    have hP : va_P D vwCl [(nw, .inr (4, [.ref kk, .ref nk, .ref nd, .ref ne, .ref nm, .ref nn, .int (nI fi), .int (nI gl), .int (nI un), .int (nI mi), .int (nI 2)])), (nn, .inl (y 6, 6, .inr (.inr (.inr (.inr fn_))))), (t0, .inl (y 0, 5, .inl t0f)), (t1, .inl (y 0, 5, .inl t1f)), (t2, .inl (y 0, 5, .inl (upd (upd (upd t2f 0 x0) 1 x) 2 x2))), (t3, .inl (y 0, 5, .inl t3f)), (t4, .inl (y 0, 5, .inl t4f)), (t5, .inl (y 0, 5, .inl t5f))] H := hP
    have hD : va_D A [(nw, .inr (4, [.ref kk, .ref nk, .ref nd, .ref ne, .ref nm, .ref nn, .int (nI fi), .int (nI gl), .int (nI un), .int (nI mi), .int (nI 2)])), (nn, .inl (y 6, 6, .inr (.inr (.inr (.inr fn_))))), (t0, .inl (y 0, 5, .inl t0f)), (t1, .inl (y 0, 5, .inl t1f)), (t2, .inl (y 0, 5, .inl (upd (upd (upd t2f 0 x0) 1 x) 2 x2))), (t3, .inl (y 0, 5, .inl t3f)), (t4, .inl (y 0, 5, .inl t4f)), (t5, .inl (y 0, 5, .inl t5f))] := hD
    refine lv_aload hx hb dX4_addNote_26 (lv_at hl 0 rfl) ?_
    refine lv_iconst (v := 3) hx hb dX4_addNote_28 (by decide) ?_
    refine lv_iload hx hb dX4_addNote_29 (lv_at hl 5 rfl) ?_
    refine va_iast hx hb hK hP hD hS 4 0 rfl rfl (by unfold vp_in; decide) dX4_addNote_31 (fun H locs hP hD hS => ?_)
    rw [show ((3 : Int32)).toNatClampNeg = 3 from rfl] at hP hD
    have hP : va_P D vwCl [(nw, .inr (4, [.ref kk, .ref nk, .ref nd, .ref ne, .ref nm, .ref nn, .int (nI fi), .int (nI gl), .int (nI un), .int (nI mi), .int (nI 2)])), (nn, .inl (y 6, 6, .inr (.inr (.inr (.inr fn_))))), (t0, .inl (y 0, 5, .inl t0f)), (t1, .inl (y 0, 5, .inl t1f)), (t2, .inl (y 0, 5, .inl (upd (upd (upd (upd t2f 0 x0) 1 x) 2 x2) 3 x3))), (t3, .inl (y 0, 5, .inl t3f)), (t4, .inl (y 0, 5, .inl t4f)), (t5, .inl (y 0, 5, .inl t5f))] H := hP
    have hD : va_D A [(nw, .inr (4, [.ref kk, .ref nk, .ref nd, .ref ne, .ref nm, .ref nn, .int (nI fi), .int (nI gl), .int (nI un), .int (nI mi), .int (nI 2)])), (nn, .inl (y 6, 6, .inr (.inr (.inr (.inr fn_))))), (t0, .inl (y 0, 5, .inl t0f)), (t1, .inl (y 0, 5, .inl t1f)), (t2, .inl (y 0, 5, .inl (upd (upd (upd (upd t2f 0 x0) 1 x) 2 x2) 3 x3))), (t3, .inl (y 0, 5, .inl t3f)), (t4, .inl (y 0, 5, .inl t4f)), (t5, .inl (y 0, 5, .inl t5f))] := hD
    refine lv_aload hx hb dX4_addNote_32 (lv_at hl 0 rfl) ?_
    refine lv_iconst (v := 4) hx hb dX4_addNote_34 (by decide) ?_
    refine lv_iload hx hb dX4_addNote_35 (lv_at hl 6 rfl) ?_
    refine va_iast hx hb hK hP hD hS 4 0 rfl rfl (by unfold vp_in; decide) dX4_addNote_37 (fun H locs hP hD hS => ?_)
    rw [show ((4 : Int32)).toNatClampNeg = 4 from rfl] at hP hD
    have hP : va_P D vwCl [(nw, .inr (4, [.ref kk, .ref nk, .ref nd, .ref ne, .ref nm, .ref nn, .int (nI fi), .int (nI gl), .int (nI un), .int (nI mi), .int (nI 2)])), (nn, .inl (y 6, 6, .inr (.inr (.inr (.inr fn_))))), (t0, .inl (y 0, 5, .inl t0f)), (t1, .inl (y 0, 5, .inl t1f)), (t2, .inl (y 0, 5, .inl (upd (upd (upd (upd (upd t2f 0 x0) 1 x) 2 x2) 3 x3) 4 x4))), (t3, .inl (y 0, 5, .inl t3f)), (t4, .inl (y 0, 5, .inl t4f)), (t5, .inl (y 0, 5, .inl t5f))] H := hP
    have hD : va_D A [(nw, .inr (4, [.ref kk, .ref nk, .ref nd, .ref ne, .ref nm, .ref nn, .int (nI fi), .int (nI gl), .int (nI un), .int (nI mi), .int (nI 2)])), (nn, .inl (y 6, 6, .inr (.inr (.inr (.inr fn_))))), (t0, .inl (y 0, 5, .inl t0f)), (t1, .inl (y 0, 5, .inl t1f)), (t2, .inl (y 0, 5, .inl (upd (upd (upd (upd (upd t2f 0 x0) 1 x) 2 x2) 3 x3) 4 x4))), (t3, .inl (y 0, 5, .inl t3f)), (t4, .inl (y 0, 5, .inl t4f)), (t5, .inl (y 0, 5, .inl t5f))] := hD
    refine lv_aload_n hx hb dX4_addNote_38 rfl (lv_at hl 1 rfl) ?_
    refine lv_dup hx hb dX4_addNote_39 rfl ?_
    refine va_get (D := D) (ci := 4) (v := .int (nI 2)) (C := RX4) (T := TX4) (N := 11) hx hb hts iw4 hown hK hP 0 rfl rfl 10 (by decide) fw2 (fun _ h9 => h9) rfl dX4_addNote_40 ?_
    refine lv_iconst (v := 1) hx hb dX4_addNote_43 (by decide) ?_
    refine lv_iadd hx hb dX4_addNote_44 ?_
    rw [show (nI 2) + 1 = nI (3) from nI_add 2 1]
    refine lv_dup_x1 hx hb dX4_addNote_45 rfl rfl ?_
    refine va_put (D := D) (ci := 4) (v := .int (nI 3)) (ty := .int) (C := RX4) (T := TX4) (N := 11) hx hb hts iw4 tyX4 tyX4_ok nmX4 hown hK hP hD hS 0 rfl rfl 10 (by decide) fw2 (fun _ h9 => h9) rfl (by decide +kernel) rfl rfl (Nat.le_of_ble_eq_true rfl) dX4_addNote_46 (fun H locs hP hD hS => ?_)
    have hP : va_P D vwCl [(nw, .inr (4, [.ref kk, .ref nk, .ref nd, .ref ne, .ref nm, .ref nn, .int (nI fi), .int (nI gl), .int (nI un), .int (nI mi), .int (nI 3)])), (nn, .inl (y 6, 6, .inr (.inr (.inr (.inr fn_))))), (t0, .inl (y 0, 5, .inl t0f)), (t1, .inl (y 0, 5, .inl t1f)), (t2, .inl (y 0, 5, .inl (upd (upd (upd (upd (upd t2f 0 x0) 1 x) 2 x2) 3 x3) 4 x4))), (t3, .inl (y 0, 5, .inl t3f)), (t4, .inl (y 0, 5, .inl t4f)), (t5, .inl (y 0, 5, .inl t5f))] H := hP
    have hD : va_D A [(nw, .inr (4, [.ref kk, .ref nk, .ref nd, .ref ne, .ref nm, .ref nn, .int (nI fi), .int (nI gl), .int (nI un), .int (nI mi), .int (nI 3)])), (nn, .inl (y 6, 6, .inr (.inr (.inr (.inr fn_))))), (t0, .inl (y 0, 5, .inl t0f)), (t1, .inl (y 0, 5, .inl t1f)), (t2, .inl (y 0, 5, .inl (upd (upd (upd (upd (upd t2f 0 x0) 1 x) 2 x2) 3 x3) 4 x4))), (t3, .inl (y 0, 5, .inl t3f)), (t4, .inl (y 0, 5, .inl t4f)), (t5, .inl (y 0, 5, .inl t5f))] := hD
    exact W.iret (v := (nI 3)) hx hb hr (fun tZ ht hW => ⟨⟨(nI 3), (3, t0f, t1f, (upd (upd (upd (upd (upd t2f 0 x0) 1 x) 2 x2) 3 x3) 4 x4), t3f, t4f, t5f), rfl, by first | omega | (dsimp only; omega), by rw [ht]; exact hP.sub [0, 1, 2, 3, 4, 5, 6, 7] rfl, hD.sub [0, 1, 2, 3, 4, 5, 6, 7] (by decide) rfl⟩, hS.F ht⟩) hS.2.2 dX4_addNote_49
  · skip
    refine kw_aldQ hx hb hK hP 1 6 rfl rfl (vp_in_nI (by omega) (by decide)) dX4_addNote_8 ?_
    rw [nI_clamp (n := 3) (by omega), show va_rf (fn_ 3) = .ref t3 from congrArg va_rf hn3]
    refine lv_astore (lv' := [(6, .ref t3), (0, .ref nw), (1, .int x0), (2, .int x), (3, .int x2), (4, .int x3), (5, .int x4)]) hx hb dX4_addNote_9 hl (by decide) rfl (fun ls hl => ?_)
    refine lv_aload hx hb dX4_addNote_11 (lv_at hl 0 rfl) ?_
    refine lv_iconst (v := 0) hx hb dX4_addNote_13 (by decide) ?_
    refine lv_iload_n hx hb dX4_addNote_14 rfl (lv_at hl 2 rfl) ?_
    refine va_iast hx hb hK hP hD hS 5 0 rfl rfl (by unfold vp_in; decide) dX4_addNote_15 (fun H locs hP hD hS => ?_)
    rw [show ((0 : Int32)).toNatClampNeg = 0 from rfl] at hP hD
    have hP : va_P D vwCl [(nw, .inr (4, [.ref kk, .ref nk, .ref nd, .ref ne, .ref nm, .ref nn, .int (nI fi), .int (nI gl), .int (nI un), .int (nI mi), .int (nI 3)])), (nn, .inl (y 6, 6, .inr (.inr (.inr (.inr fn_))))), (t0, .inl (y 0, 5, .inl t0f)), (t1, .inl (y 0, 5, .inl t1f)), (t2, .inl (y 0, 5, .inl t2f)), (t3, .inl (y 0, 5, .inl (upd t3f 0 x0))), (t4, .inl (y 0, 5, .inl t4f)), (t5, .inl (y 0, 5, .inl t5f))] H := hP
    have hD : va_D A [(nw, .inr (4, [.ref kk, .ref nk, .ref nd, .ref ne, .ref nm, .ref nn, .int (nI fi), .int (nI gl), .int (nI un), .int (nI mi), .int (nI 3)])), (nn, .inl (y 6, 6, .inr (.inr (.inr (.inr fn_))))), (t0, .inl (y 0, 5, .inl t0f)), (t1, .inl (y 0, 5, .inl t1f)), (t2, .inl (y 0, 5, .inl t2f)), (t3, .inl (y 0, 5, .inl (upd t3f 0 x0))), (t4, .inl (y 0, 5, .inl t4f)), (t5, .inl (y 0, 5, .inl t5f))] := hD
    refine lv_aload hx hb dX4_addNote_16 (lv_at hl 0 rfl) ?_
    refine lv_iconst (v := 1) hx hb dX4_addNote_18 (by decide) ?_
    refine lv_iload_n hx hb dX4_addNote_19 rfl (lv_at hl 3 rfl) ?_
    refine va_iast hx hb hK hP hD hS 5 0 rfl rfl (by unfold vp_in; decide) dX4_addNote_20 (fun H locs hP hD hS => ?_)
    rw [show ((1 : Int32)).toNatClampNeg = 1 from rfl] at hP hD
    have hP : va_P D vwCl [(nw, .inr (4, [.ref kk, .ref nk, .ref nd, .ref ne, .ref nm, .ref nn, .int (nI fi), .int (nI gl), .int (nI un), .int (nI mi), .int (nI 3)])), (nn, .inl (y 6, 6, .inr (.inr (.inr (.inr fn_))))), (t0, .inl (y 0, 5, .inl t0f)), (t1, .inl (y 0, 5, .inl t1f)), (t2, .inl (y 0, 5, .inl t2f)), (t3, .inl (y 0, 5, .inl (upd (upd t3f 0 x0) 1 x))), (t4, .inl (y 0, 5, .inl t4f)), (t5, .inl (y 0, 5, .inl t5f))] H := hP
    have hD : va_D A [(nw, .inr (4, [.ref kk, .ref nk, .ref nd, .ref ne, .ref nm, .ref nn, .int (nI fi), .int (nI gl), .int (nI un), .int (nI mi), .int (nI 3)])), (nn, .inl (y 6, 6, .inr (.inr (.inr (.inr fn_))))), (t0, .inl (y 0, 5, .inl t0f)), (t1, .inl (y 0, 5, .inl t1f)), (t2, .inl (y 0, 5, .inl t2f)), (t3, .inl (y 0, 5, .inl (upd (upd t3f 0 x0) 1 x))), (t4, .inl (y 0, 5, .inl t4f)), (t5, .inl (y 0, 5, .inl t5f))] := hD
    refine lv_aload hx hb dX4_addNote_21 (lv_at hl 0 rfl) ?_
    refine lv_iconst (v := 2) hx hb dX4_addNote_23 (by decide) ?_
    refine lv_iload_n hx hb dX4_addNote_24 rfl (lv_at hl 4 rfl) ?_
    refine va_iast hx hb hK hP hD hS 5 0 rfl rfl (by unfold vp_in; decide) dX4_addNote_25 (fun H locs hP hD hS => ?_)
    rw [show ((2 : Int32)).toNatClampNeg = 2 from rfl] at hP hD
    have hP : va_P D vwCl [(nw, .inr (4, [.ref kk, .ref nk, .ref nd, .ref ne, .ref nm, .ref nn, .int (nI fi), .int (nI gl), .int (nI un), .int (nI mi), .int (nI 3)])), (nn, .inl (y 6, 6, .inr (.inr (.inr (.inr fn_))))), (t0, .inl (y 0, 5, .inl t0f)), (t1, .inl (y 0, 5, .inl t1f)), (t2, .inl (y 0, 5, .inl t2f)), (t3, .inl (y 0, 5, .inl (upd (upd (upd t3f 0 x0) 1 x) 2 x2))), (t4, .inl (y 0, 5, .inl t4f)), (t5, .inl (y 0, 5, .inl t5f))] H := hP
    have hD : va_D A [(nw, .inr (4, [.ref kk, .ref nk, .ref nd, .ref ne, .ref nm, .ref nn, .int (nI fi), .int (nI gl), .int (nI un), .int (nI mi), .int (nI 3)])), (nn, .inl (y 6, 6, .inr (.inr (.inr (.inr fn_))))), (t0, .inl (y 0, 5, .inl t0f)), (t1, .inl (y 0, 5, .inl t1f)), (t2, .inl (y 0, 5, .inl t2f)), (t3, .inl (y 0, 5, .inl (upd (upd (upd t3f 0 x0) 1 x) 2 x2))), (t4, .inl (y 0, 5, .inl t4f)), (t5, .inl (y 0, 5, .inl t5f))] := hD
    refine lv_aload hx hb dX4_addNote_26 (lv_at hl 0 rfl) ?_
    refine lv_iconst (v := 3) hx hb dX4_addNote_28 (by decide) ?_
    refine lv_iload hx hb dX4_addNote_29 (lv_at hl 5 rfl) ?_
    refine va_iast hx hb hK hP hD hS 5 0 rfl rfl (by unfold vp_in; decide) dX4_addNote_31 (fun H locs hP hD hS => ?_)
    rw [show ((3 : Int32)).toNatClampNeg = 3 from rfl] at hP hD
    have hP : va_P D vwCl [(nw, .inr (4, [.ref kk, .ref nk, .ref nd, .ref ne, .ref nm, .ref nn, .int (nI fi), .int (nI gl), .int (nI un), .int (nI mi), .int (nI 3)])), (nn, .inl (y 6, 6, .inr (.inr (.inr (.inr fn_))))), (t0, .inl (y 0, 5, .inl t0f)), (t1, .inl (y 0, 5, .inl t1f)), (t2, .inl (y 0, 5, .inl t2f)), (t3, .inl (y 0, 5, .inl (upd (upd (upd (upd t3f 0 x0) 1 x) 2 x2) 3 x3))), (t4, .inl (y 0, 5, .inl t4f)), (t5, .inl (y 0, 5, .inl t5f))] H := hP
    have hD : va_D A [(nw, .inr (4, [.ref kk, .ref nk, .ref nd, .ref ne, .ref nm, .ref nn, .int (nI fi), .int (nI gl), .int (nI un), .int (nI mi), .int (nI 3)])), (nn, .inl (y 6, 6, .inr (.inr (.inr (.inr fn_))))), (t0, .inl (y 0, 5, .inl t0f)), (t1, .inl (y 0, 5, .inl t1f)), (t2, .inl (y 0, 5, .inl t2f)), (t3, .inl (y 0, 5, .inl (upd (upd (upd (upd t3f 0 x0) 1 x) 2 x2) 3 x3))), (t4, .inl (y 0, 5, .inl t4f)), (t5, .inl (y 0, 5, .inl t5f))] := hD
    refine lv_aload hx hb dX4_addNote_32 (lv_at hl 0 rfl) ?_
    refine lv_iconst (v := 4) hx hb dX4_addNote_34 (by decide) ?_
    refine lv_iload hx hb dX4_addNote_35 (lv_at hl 6 rfl) ?_
    refine va_iast hx hb hK hP hD hS 5 0 rfl rfl (by unfold vp_in; decide) dX4_addNote_37 (fun H locs hP hD hS => ?_)
    rw [show ((4 : Int32)).toNatClampNeg = 4 from rfl] at hP hD
    have hP : va_P D vwCl [(nw, .inr (4, [.ref kk, .ref nk, .ref nd, .ref ne, .ref nm, .ref nn, .int (nI fi), .int (nI gl), .int (nI un), .int (nI mi), .int (nI 3)])), (nn, .inl (y 6, 6, .inr (.inr (.inr (.inr fn_))))), (t0, .inl (y 0, 5, .inl t0f)), (t1, .inl (y 0, 5, .inl t1f)), (t2, .inl (y 0, 5, .inl t2f)), (t3, .inl (y 0, 5, .inl (upd (upd (upd (upd (upd t3f 0 x0) 1 x) 2 x2) 3 x3) 4 x4))), (t4, .inl (y 0, 5, .inl t4f)), (t5, .inl (y 0, 5, .inl t5f))] H := hP
    have hD : va_D A [(nw, .inr (4, [.ref kk, .ref nk, .ref nd, .ref ne, .ref nm, .ref nn, .int (nI fi), .int (nI gl), .int (nI un), .int (nI mi), .int (nI 3)])), (nn, .inl (y 6, 6, .inr (.inr (.inr (.inr fn_))))), (t0, .inl (y 0, 5, .inl t0f)), (t1, .inl (y 0, 5, .inl t1f)), (t2, .inl (y 0, 5, .inl t2f)), (t3, .inl (y 0, 5, .inl (upd (upd (upd (upd (upd t3f 0 x0) 1 x) 2 x2) 3 x3) 4 x4))), (t4, .inl (y 0, 5, .inl t4f)), (t5, .inl (y 0, 5, .inl t5f))] := hD
    refine lv_aload_n hx hb dX4_addNote_38 rfl (lv_at hl 1 rfl) ?_
    refine lv_dup hx hb dX4_addNote_39 rfl ?_
    refine va_get (D := D) (ci := 4) (v := .int (nI 3)) (C := RX4) (T := TX4) (N := 11) hx hb hts iw4 hown hK hP 0 rfl rfl 10 (by decide) fw2 (fun _ h9 => h9) rfl dX4_addNote_40 ?_
    refine lv_iconst (v := 1) hx hb dX4_addNote_43 (by decide) ?_
    refine lv_iadd hx hb dX4_addNote_44 ?_
    rw [show (nI 3) + 1 = nI (4) from nI_add 3 1]
    refine lv_dup_x1 hx hb dX4_addNote_45 rfl rfl ?_
    refine va_put (D := D) (ci := 4) (v := .int (nI 4)) (ty := .int) (C := RX4) (T := TX4) (N := 11) hx hb hts iw4 tyX4 tyX4_ok nmX4 hown hK hP hD hS 0 rfl rfl 10 (by decide) fw2 (fun _ h9 => h9) rfl (by decide +kernel) rfl rfl (Nat.le_of_ble_eq_true rfl) dX4_addNote_46 (fun H locs hP hD hS => ?_)
    have hP : va_P D vwCl [(nw, .inr (4, [.ref kk, .ref nk, .ref nd, .ref ne, .ref nm, .ref nn, .int (nI fi), .int (nI gl), .int (nI un), .int (nI mi), .int (nI 4)])), (nn, .inl (y 6, 6, .inr (.inr (.inr (.inr fn_))))), (t0, .inl (y 0, 5, .inl t0f)), (t1, .inl (y 0, 5, .inl t1f)), (t2, .inl (y 0, 5, .inl t2f)), (t3, .inl (y 0, 5, .inl (upd (upd (upd (upd (upd t3f 0 x0) 1 x) 2 x2) 3 x3) 4 x4))), (t4, .inl (y 0, 5, .inl t4f)), (t5, .inl (y 0, 5, .inl t5f))] H := hP
    have hD : va_D A [(nw, .inr (4, [.ref kk, .ref nk, .ref nd, .ref ne, .ref nm, .ref nn, .int (nI fi), .int (nI gl), .int (nI un), .int (nI mi), .int (nI 4)])), (nn, .inl (y 6, 6, .inr (.inr (.inr (.inr fn_))))), (t0, .inl (y 0, 5, .inl t0f)), (t1, .inl (y 0, 5, .inl t1f)), (t2, .inl (y 0, 5, .inl t2f)), (t3, .inl (y 0, 5, .inl (upd (upd (upd (upd (upd t3f 0 x0) 1 x) 2 x2) 3 x3) 4 x4))), (t4, .inl (y 0, 5, .inl t4f)), (t5, .inl (y 0, 5, .inl t5f))] := hD
    exact W.iret (v := (nI 4)) hx hb hr (fun tZ ht hW => ⟨⟨(nI 4), (4, t0f, t1f, t2f, (upd (upd (upd (upd (upd t3f 0 x0) 1 x) 2 x2) 3 x3) 4 x4), t4f, t5f), rfl, by first | omega | (dsimp only; omega), by rw [ht]; exact hP.sub [0, 1, 2, 3, 4, 5, 6, 7] rfl, hD.sub [0, 1, 2, 3, 4, 5, 6, 7] (by decide) rfl⟩, hS.F ht⟩) hS.2.2 dX4_addNote_49
  · skip
    refine kw_aldQ hx hb hK hP 1 6 rfl rfl (vp_in_nI (by omega) (by decide)) dX4_addNote_8 ?_
    rw [nI_clamp (n := 4) (by omega), show va_rf (fn_ 4) = .ref t4 from congrArg va_rf hn4]
    refine lv_astore (lv' := [(6, .ref t4), (0, .ref nw), (1, .int x0), (2, .int x), (3, .int x2), (4, .int x3), (5, .int x4)]) hx hb dX4_addNote_9 hl (by decide) rfl (fun ls hl => ?_)
    refine lv_aload hx hb dX4_addNote_11 (lv_at hl 0 rfl) ?_
    refine lv_iconst (v := 0) hx hb dX4_addNote_13 (by decide) ?_
    refine lv_iload_n hx hb dX4_addNote_14 rfl (lv_at hl 2 rfl) ?_
    refine va_iast hx hb hK hP hD hS 6 0 rfl rfl (by unfold vp_in; decide) dX4_addNote_15 (fun H locs hP hD hS => ?_)
    rw [show ((0 : Int32)).toNatClampNeg = 0 from rfl] at hP hD
    have hP : va_P D vwCl [(nw, .inr (4, [.ref kk, .ref nk, .ref nd, .ref ne, .ref nm, .ref nn, .int (nI fi), .int (nI gl), .int (nI un), .int (nI mi), .int (nI 4)])), (nn, .inl (y 6, 6, .inr (.inr (.inr (.inr fn_))))), (t0, .inl (y 0, 5, .inl t0f)), (t1, .inl (y 0, 5, .inl t1f)), (t2, .inl (y 0, 5, .inl t2f)), (t3, .inl (y 0, 5, .inl t3f)), (t4, .inl (y 0, 5, .inl (upd t4f 0 x0))), (t5, .inl (y 0, 5, .inl t5f))] H := hP
    have hD : va_D A [(nw, .inr (4, [.ref kk, .ref nk, .ref nd, .ref ne, .ref nm, .ref nn, .int (nI fi), .int (nI gl), .int (nI un), .int (nI mi), .int (nI 4)])), (nn, .inl (y 6, 6, .inr (.inr (.inr (.inr fn_))))), (t0, .inl (y 0, 5, .inl t0f)), (t1, .inl (y 0, 5, .inl t1f)), (t2, .inl (y 0, 5, .inl t2f)), (t3, .inl (y 0, 5, .inl t3f)), (t4, .inl (y 0, 5, .inl (upd t4f 0 x0))), (t5, .inl (y 0, 5, .inl t5f))] := hD
    refine lv_aload hx hb dX4_addNote_16 (lv_at hl 0 rfl) ?_
    refine lv_iconst (v := 1) hx hb dX4_addNote_18 (by decide) ?_
    refine lv_iload_n hx hb dX4_addNote_19 rfl (lv_at hl 3 rfl) ?_
    refine va_iast hx hb hK hP hD hS 6 0 rfl rfl (by unfold vp_in; decide) dX4_addNote_20 (fun H locs hP hD hS => ?_)
    rw [show ((1 : Int32)).toNatClampNeg = 1 from rfl] at hP hD
    have hP : va_P D vwCl [(nw, .inr (4, [.ref kk, .ref nk, .ref nd, .ref ne, .ref nm, .ref nn, .int (nI fi), .int (nI gl), .int (nI un), .int (nI mi), .int (nI 4)])), (nn, .inl (y 6, 6, .inr (.inr (.inr (.inr fn_))))), (t0, .inl (y 0, 5, .inl t0f)), (t1, .inl (y 0, 5, .inl t1f)), (t2, .inl (y 0, 5, .inl t2f)), (t3, .inl (y 0, 5, .inl t3f)), (t4, .inl (y 0, 5, .inl (upd (upd t4f 0 x0) 1 x))), (t5, .inl (y 0, 5, .inl t5f))] H := hP
    have hD : va_D A [(nw, .inr (4, [.ref kk, .ref nk, .ref nd, .ref ne, .ref nm, .ref nn, .int (nI fi), .int (nI gl), .int (nI un), .int (nI mi), .int (nI 4)])), (nn, .inl (y 6, 6, .inr (.inr (.inr (.inr fn_))))), (t0, .inl (y 0, 5, .inl t0f)), (t1, .inl (y 0, 5, .inl t1f)), (t2, .inl (y 0, 5, .inl t2f)), (t3, .inl (y 0, 5, .inl t3f)), (t4, .inl (y 0, 5, .inl (upd (upd t4f 0 x0) 1 x))), (t5, .inl (y 0, 5, .inl t5f))] := hD
    refine lv_aload hx hb dX4_addNote_21 (lv_at hl 0 rfl) ?_
    refine lv_iconst (v := 2) hx hb dX4_addNote_23 (by decide) ?_
    refine lv_iload_n hx hb dX4_addNote_24 rfl (lv_at hl 4 rfl) ?_
    refine va_iast hx hb hK hP hD hS 6 0 rfl rfl (by unfold vp_in; decide) dX4_addNote_25 (fun H locs hP hD hS => ?_)
    rw [show ((2 : Int32)).toNatClampNeg = 2 from rfl] at hP hD
    have hP : va_P D vwCl [(nw, .inr (4, [.ref kk, .ref nk, .ref nd, .ref ne, .ref nm, .ref nn, .int (nI fi), .int (nI gl), .int (nI un), .int (nI mi), .int (nI 4)])), (nn, .inl (y 6, 6, .inr (.inr (.inr (.inr fn_))))), (t0, .inl (y 0, 5, .inl t0f)), (t1, .inl (y 0, 5, .inl t1f)), (t2, .inl (y 0, 5, .inl t2f)), (t3, .inl (y 0, 5, .inl t3f)), (t4, .inl (y 0, 5, .inl (upd (upd (upd t4f 0 x0) 1 x) 2 x2))), (t5, .inl (y 0, 5, .inl t5f))] H := hP
    have hD : va_D A [(nw, .inr (4, [.ref kk, .ref nk, .ref nd, .ref ne, .ref nm, .ref nn, .int (nI fi), .int (nI gl), .int (nI un), .int (nI mi), .int (nI 4)])), (nn, .inl (y 6, 6, .inr (.inr (.inr (.inr fn_))))), (t0, .inl (y 0, 5, .inl t0f)), (t1, .inl (y 0, 5, .inl t1f)), (t2, .inl (y 0, 5, .inl t2f)), (t3, .inl (y 0, 5, .inl t3f)), (t4, .inl (y 0, 5, .inl (upd (upd (upd t4f 0 x0) 1 x) 2 x2))), (t5, .inl (y 0, 5, .inl t5f))] := hD
    refine lv_aload hx hb dX4_addNote_26 (lv_at hl 0 rfl) ?_
    refine lv_iconst (v := 3) hx hb dX4_addNote_28 (by decide) ?_
    refine lv_iload hx hb dX4_addNote_29 (lv_at hl 5 rfl) ?_
    refine va_iast hx hb hK hP hD hS 6 0 rfl rfl (by unfold vp_in; decide) dX4_addNote_31 (fun H locs hP hD hS => ?_)
    rw [show ((3 : Int32)).toNatClampNeg = 3 from rfl] at hP hD
    have hP : va_P D vwCl [(nw, .inr (4, [.ref kk, .ref nk, .ref nd, .ref ne, .ref nm, .ref nn, .int (nI fi), .int (nI gl), .int (nI un), .int (nI mi), .int (nI 4)])), (nn, .inl (y 6, 6, .inr (.inr (.inr (.inr fn_))))), (t0, .inl (y 0, 5, .inl t0f)), (t1, .inl (y 0, 5, .inl t1f)), (t2, .inl (y 0, 5, .inl t2f)), (t3, .inl (y 0, 5, .inl t3f)), (t4, .inl (y 0, 5, .inl (upd (upd (upd (upd t4f 0 x0) 1 x) 2 x2) 3 x3))), (t5, .inl (y 0, 5, .inl t5f))] H := hP
    have hD : va_D A [(nw, .inr (4, [.ref kk, .ref nk, .ref nd, .ref ne, .ref nm, .ref nn, .int (nI fi), .int (nI gl), .int (nI un), .int (nI mi), .int (nI 4)])), (nn, .inl (y 6, 6, .inr (.inr (.inr (.inr fn_))))), (t0, .inl (y 0, 5, .inl t0f)), (t1, .inl (y 0, 5, .inl t1f)), (t2, .inl (y 0, 5, .inl t2f)), (t3, .inl (y 0, 5, .inl t3f)), (t4, .inl (y 0, 5, .inl (upd (upd (upd (upd t4f 0 x0) 1 x) 2 x2) 3 x3))), (t5, .inl (y 0, 5, .inl t5f))] := hD
    refine lv_aload hx hb dX4_addNote_32 (lv_at hl 0 rfl) ?_
    refine lv_iconst (v := 4) hx hb dX4_addNote_34 (by decide) ?_
    refine lv_iload hx hb dX4_addNote_35 (lv_at hl 6 rfl) ?_
    refine va_iast hx hb hK hP hD hS 6 0 rfl rfl (by unfold vp_in; decide) dX4_addNote_37 (fun H locs hP hD hS => ?_)
    rw [show ((4 : Int32)).toNatClampNeg = 4 from rfl] at hP hD
    have hP : va_P D vwCl [(nw, .inr (4, [.ref kk, .ref nk, .ref nd, .ref ne, .ref nm, .ref nn, .int (nI fi), .int (nI gl), .int (nI un), .int (nI mi), .int (nI 4)])), (nn, .inl (y 6, 6, .inr (.inr (.inr (.inr fn_))))), (t0, .inl (y 0, 5, .inl t0f)), (t1, .inl (y 0, 5, .inl t1f)), (t2, .inl (y 0, 5, .inl t2f)), (t3, .inl (y 0, 5, .inl t3f)), (t4, .inl (y 0, 5, .inl (upd (upd (upd (upd (upd t4f 0 x0) 1 x) 2 x2) 3 x3) 4 x4))), (t5, .inl (y 0, 5, .inl t5f))] H := hP
    have hD : va_D A [(nw, .inr (4, [.ref kk, .ref nk, .ref nd, .ref ne, .ref nm, .ref nn, .int (nI fi), .int (nI gl), .int (nI un), .int (nI mi), .int (nI 4)])), (nn, .inl (y 6, 6, .inr (.inr (.inr (.inr fn_))))), (t0, .inl (y 0, 5, .inl t0f)), (t1, .inl (y 0, 5, .inl t1f)), (t2, .inl (y 0, 5, .inl t2f)), (t3, .inl (y 0, 5, .inl t3f)), (t4, .inl (y 0, 5, .inl (upd (upd (upd (upd (upd t4f 0 x0) 1 x) 2 x2) 3 x3) 4 x4))), (t5, .inl (y 0, 5, .inl t5f))] := hD
    refine lv_aload_n hx hb dX4_addNote_38 rfl (lv_at hl 1 rfl) ?_
    refine lv_dup hx hb dX4_addNote_39 rfl ?_
    refine va_get (D := D) (ci := 4) (v := .int (nI 4)) (C := RX4) (T := TX4) (N := 11) hx hb hts iw4 hown hK hP 0 rfl rfl 10 (by decide) fw2 (fun _ h9 => h9) rfl dX4_addNote_40 ?_
    refine lv_iconst (v := 1) hx hb dX4_addNote_43 (by decide) ?_
    refine lv_iadd hx hb dX4_addNote_44 ?_
    rw [show (nI 4) + 1 = nI (5) from nI_add 4 1]
    refine lv_dup_x1 hx hb dX4_addNote_45 rfl rfl ?_
    refine va_put (D := D) (ci := 4) (v := .int (nI 5)) (ty := .int) (C := RX4) (T := TX4) (N := 11) hx hb hts iw4 tyX4 tyX4_ok nmX4 hown hK hP hD hS 0 rfl rfl 10 (by decide) fw2 (fun _ h9 => h9) rfl (by decide +kernel) rfl rfl (Nat.le_of_ble_eq_true rfl) dX4_addNote_46 (fun H locs hP hD hS => ?_)
    have hP : va_P D vwCl [(nw, .inr (4, [.ref kk, .ref nk, .ref nd, .ref ne, .ref nm, .ref nn, .int (nI fi), .int (nI gl), .int (nI un), .int (nI mi), .int (nI 5)])), (nn, .inl (y 6, 6, .inr (.inr (.inr (.inr fn_))))), (t0, .inl (y 0, 5, .inl t0f)), (t1, .inl (y 0, 5, .inl t1f)), (t2, .inl (y 0, 5, .inl t2f)), (t3, .inl (y 0, 5, .inl t3f)), (t4, .inl (y 0, 5, .inl (upd (upd (upd (upd (upd t4f 0 x0) 1 x) 2 x2) 3 x3) 4 x4))), (t5, .inl (y 0, 5, .inl t5f))] H := hP
    have hD : va_D A [(nw, .inr (4, [.ref kk, .ref nk, .ref nd, .ref ne, .ref nm, .ref nn, .int (nI fi), .int (nI gl), .int (nI un), .int (nI mi), .int (nI 5)])), (nn, .inl (y 6, 6, .inr (.inr (.inr (.inr fn_))))), (t0, .inl (y 0, 5, .inl t0f)), (t1, .inl (y 0, 5, .inl t1f)), (t2, .inl (y 0, 5, .inl t2f)), (t3, .inl (y 0, 5, .inl t3f)), (t4, .inl (y 0, 5, .inl (upd (upd (upd (upd (upd t4f 0 x0) 1 x) 2 x2) 3 x3) 4 x4))), (t5, .inl (y 0, 5, .inl t5f))] := hD
    exact W.iret (v := (nI 5)) hx hb hr (fun tZ ht hW => ⟨⟨(nI 5), (5, t0f, t1f, t2f, t3f, (upd (upd (upd (upd (upd t4f 0 x0) 1 x) 2 x2) 3 x3) 4 x4), t5f), rfl, by first | omega | (dsimp only; omega), by rw [ht]; exact hP.sub [0, 1, 2, 3, 4, 5, 6, 7] rfl, hD.sub [0, 1, 2, 3, 4, 5, 6, 7] (by decide) rfl⟩, hS.F ht⟩) hS.2.2 dX4_addNote_49
  · skip
    refine kw_aldQ hx hb hK hP 1 6 rfl rfl (vp_in_nI (by omega) (by decide)) dX4_addNote_8 ?_
    rw [nI_clamp (n := 5) (by omega), show va_rf (fn_ 5) = .ref t5 from congrArg va_rf hn5]
    refine lv_astore (lv' := [(6, .ref t5), (0, .ref nw), (1, .int x0), (2, .int x), (3, .int x2), (4, .int x3), (5, .int x4)]) hx hb dX4_addNote_9 hl (by decide) rfl (fun ls hl => ?_)
    refine lv_aload hx hb dX4_addNote_11 (lv_at hl 0 rfl) ?_
    refine lv_iconst (v := 0) hx hb dX4_addNote_13 (by decide) ?_
    refine lv_iload_n hx hb dX4_addNote_14 rfl (lv_at hl 2 rfl) ?_
    refine va_iast hx hb hK hP hD hS 7 0 rfl rfl (by unfold vp_in; decide) dX4_addNote_15 (fun H locs hP hD hS => ?_)
    rw [show ((0 : Int32)).toNatClampNeg = 0 from rfl] at hP hD
    have hP : va_P D vwCl [(nw, .inr (4, [.ref kk, .ref nk, .ref nd, .ref ne, .ref nm, .ref nn, .int (nI fi), .int (nI gl), .int (nI un), .int (nI mi), .int (nI 5)])), (nn, .inl (y 6, 6, .inr (.inr (.inr (.inr fn_))))), (t0, .inl (y 0, 5, .inl t0f)), (t1, .inl (y 0, 5, .inl t1f)), (t2, .inl (y 0, 5, .inl t2f)), (t3, .inl (y 0, 5, .inl t3f)), (t4, .inl (y 0, 5, .inl t4f)), (t5, .inl (y 0, 5, .inl (upd t5f 0 x0)))] H := hP
    have hD : va_D A [(nw, .inr (4, [.ref kk, .ref nk, .ref nd, .ref ne, .ref nm, .ref nn, .int (nI fi), .int (nI gl), .int (nI un), .int (nI mi), .int (nI 5)])), (nn, .inl (y 6, 6, .inr (.inr (.inr (.inr fn_))))), (t0, .inl (y 0, 5, .inl t0f)), (t1, .inl (y 0, 5, .inl t1f)), (t2, .inl (y 0, 5, .inl t2f)), (t3, .inl (y 0, 5, .inl t3f)), (t4, .inl (y 0, 5, .inl t4f)), (t5, .inl (y 0, 5, .inl (upd t5f 0 x0)))] := hD
    refine lv_aload hx hb dX4_addNote_16 (lv_at hl 0 rfl) ?_
    refine lv_iconst (v := 1) hx hb dX4_addNote_18 (by decide) ?_
    refine lv_iload_n hx hb dX4_addNote_19 rfl (lv_at hl 3 rfl) ?_
    refine va_iast hx hb hK hP hD hS 7 0 rfl rfl (by unfold vp_in; decide) dX4_addNote_20 (fun H locs hP hD hS => ?_)
    rw [show ((1 : Int32)).toNatClampNeg = 1 from rfl] at hP hD
    have hP : va_P D vwCl [(nw, .inr (4, [.ref kk, .ref nk, .ref nd, .ref ne, .ref nm, .ref nn, .int (nI fi), .int (nI gl), .int (nI un), .int (nI mi), .int (nI 5)])), (nn, .inl (y 6, 6, .inr (.inr (.inr (.inr fn_))))), (t0, .inl (y 0, 5, .inl t0f)), (t1, .inl (y 0, 5, .inl t1f)), (t2, .inl (y 0, 5, .inl t2f)), (t3, .inl (y 0, 5, .inl t3f)), (t4, .inl (y 0, 5, .inl t4f)), (t5, .inl (y 0, 5, .inl (upd (upd t5f 0 x0) 1 x)))] H := hP
    have hD : va_D A [(nw, .inr (4, [.ref kk, .ref nk, .ref nd, .ref ne, .ref nm, .ref nn, .int (nI fi), .int (nI gl), .int (nI un), .int (nI mi), .int (nI 5)])), (nn, .inl (y 6, 6, .inr (.inr (.inr (.inr fn_))))), (t0, .inl (y 0, 5, .inl t0f)), (t1, .inl (y 0, 5, .inl t1f)), (t2, .inl (y 0, 5, .inl t2f)), (t3, .inl (y 0, 5, .inl t3f)), (t4, .inl (y 0, 5, .inl t4f)), (t5, .inl (y 0, 5, .inl (upd (upd t5f 0 x0) 1 x)))] := hD
    refine lv_aload hx hb dX4_addNote_21 (lv_at hl 0 rfl) ?_
    refine lv_iconst (v := 2) hx hb dX4_addNote_23 (by decide) ?_
    refine lv_iload_n hx hb dX4_addNote_24 rfl (lv_at hl 4 rfl) ?_
    refine va_iast hx hb hK hP hD hS 7 0 rfl rfl (by unfold vp_in; decide) dX4_addNote_25 (fun H locs hP hD hS => ?_)
    rw [show ((2 : Int32)).toNatClampNeg = 2 from rfl] at hP hD
    have hP : va_P D vwCl [(nw, .inr (4, [.ref kk, .ref nk, .ref nd, .ref ne, .ref nm, .ref nn, .int (nI fi), .int (nI gl), .int (nI un), .int (nI mi), .int (nI 5)])), (nn, .inl (y 6, 6, .inr (.inr (.inr (.inr fn_))))), (t0, .inl (y 0, 5, .inl t0f)), (t1, .inl (y 0, 5, .inl t1f)), (t2, .inl (y 0, 5, .inl t2f)), (t3, .inl (y 0, 5, .inl t3f)), (t4, .inl (y 0, 5, .inl t4f)), (t5, .inl (y 0, 5, .inl (upd (upd (upd t5f 0 x0) 1 x) 2 x2)))] H := hP
    have hD : va_D A [(nw, .inr (4, [.ref kk, .ref nk, .ref nd, .ref ne, .ref nm, .ref nn, .int (nI fi), .int (nI gl), .int (nI un), .int (nI mi), .int (nI 5)])), (nn, .inl (y 6, 6, .inr (.inr (.inr (.inr fn_))))), (t0, .inl (y 0, 5, .inl t0f)), (t1, .inl (y 0, 5, .inl t1f)), (t2, .inl (y 0, 5, .inl t2f)), (t3, .inl (y 0, 5, .inl t3f)), (t4, .inl (y 0, 5, .inl t4f)), (t5, .inl (y 0, 5, .inl (upd (upd (upd t5f 0 x0) 1 x) 2 x2)))] := hD
    refine lv_aload hx hb dX4_addNote_26 (lv_at hl 0 rfl) ?_
    refine lv_iconst (v := 3) hx hb dX4_addNote_28 (by decide) ?_
    refine lv_iload hx hb dX4_addNote_29 (lv_at hl 5 rfl) ?_
    refine va_iast hx hb hK hP hD hS 7 0 rfl rfl (by unfold vp_in; decide) dX4_addNote_31 (fun H locs hP hD hS => ?_)
    rw [show ((3 : Int32)).toNatClampNeg = 3 from rfl] at hP hD
    have hP : va_P D vwCl [(nw, .inr (4, [.ref kk, .ref nk, .ref nd, .ref ne, .ref nm, .ref nn, .int (nI fi), .int (nI gl), .int (nI un), .int (nI mi), .int (nI 5)])), (nn, .inl (y 6, 6, .inr (.inr (.inr (.inr fn_))))), (t0, .inl (y 0, 5, .inl t0f)), (t1, .inl (y 0, 5, .inl t1f)), (t2, .inl (y 0, 5, .inl t2f)), (t3, .inl (y 0, 5, .inl t3f)), (t4, .inl (y 0, 5, .inl t4f)), (t5, .inl (y 0, 5, .inl (upd (upd (upd (upd t5f 0 x0) 1 x) 2 x2) 3 x3)))] H := hP
    have hD : va_D A [(nw, .inr (4, [.ref kk, .ref nk, .ref nd, .ref ne, .ref nm, .ref nn, .int (nI fi), .int (nI gl), .int (nI un), .int (nI mi), .int (nI 5)])), (nn, .inl (y 6, 6, .inr (.inr (.inr (.inr fn_))))), (t0, .inl (y 0, 5, .inl t0f)), (t1, .inl (y 0, 5, .inl t1f)), (t2, .inl (y 0, 5, .inl t2f)), (t3, .inl (y 0, 5, .inl t3f)), (t4, .inl (y 0, 5, .inl t4f)), (t5, .inl (y 0, 5, .inl (upd (upd (upd (upd t5f 0 x0) 1 x) 2 x2) 3 x3)))] := hD
    refine lv_aload hx hb dX4_addNote_32 (lv_at hl 0 rfl) ?_
    refine lv_iconst (v := 4) hx hb dX4_addNote_34 (by decide) ?_
    refine lv_iload hx hb dX4_addNote_35 (lv_at hl 6 rfl) ?_
    refine va_iast hx hb hK hP hD hS 7 0 rfl rfl (by unfold vp_in; decide) dX4_addNote_37 (fun H locs hP hD hS => ?_)
    rw [show ((4 : Int32)).toNatClampNeg = 4 from rfl] at hP hD
    have hP : va_P D vwCl [(nw, .inr (4, [.ref kk, .ref nk, .ref nd, .ref ne, .ref nm, .ref nn, .int (nI fi), .int (nI gl), .int (nI un), .int (nI mi), .int (nI 5)])), (nn, .inl (y 6, 6, .inr (.inr (.inr (.inr fn_))))), (t0, .inl (y 0, 5, .inl t0f)), (t1, .inl (y 0, 5, .inl t1f)), (t2, .inl (y 0, 5, .inl t2f)), (t3, .inl (y 0, 5, .inl t3f)), (t4, .inl (y 0, 5, .inl t4f)), (t5, .inl (y 0, 5, .inl (upd (upd (upd (upd (upd t5f 0 x0) 1 x) 2 x2) 3 x3) 4 x4)))] H := hP
    have hD : va_D A [(nw, .inr (4, [.ref kk, .ref nk, .ref nd, .ref ne, .ref nm, .ref nn, .int (nI fi), .int (nI gl), .int (nI un), .int (nI mi), .int (nI 5)])), (nn, .inl (y 6, 6, .inr (.inr (.inr (.inr fn_))))), (t0, .inl (y 0, 5, .inl t0f)), (t1, .inl (y 0, 5, .inl t1f)), (t2, .inl (y 0, 5, .inl t2f)), (t3, .inl (y 0, 5, .inl t3f)), (t4, .inl (y 0, 5, .inl t4f)), (t5, .inl (y 0, 5, .inl (upd (upd (upd (upd (upd t5f 0 x0) 1 x) 2 x2) 3 x3) 4 x4)))] := hD
    refine lv_aload_n hx hb dX4_addNote_38 rfl (lv_at hl 1 rfl) ?_
    refine lv_dup hx hb dX4_addNote_39 rfl ?_
    refine va_get (D := D) (ci := 4) (v := .int (nI 5)) (C := RX4) (T := TX4) (N := 11) hx hb hts iw4 hown hK hP 0 rfl rfl 10 (by decide) fw2 (fun _ h9 => h9) rfl dX4_addNote_40 ?_
    refine lv_iconst (v := 1) hx hb dX4_addNote_43 (by decide) ?_
    refine lv_iadd hx hb dX4_addNote_44 ?_
    rw [show (nI 5) + 1 = nI (6) from nI_add 5 1]
    refine lv_dup_x1 hx hb dX4_addNote_45 rfl rfl ?_
    refine va_put (D := D) (ci := 4) (v := .int (nI 6)) (ty := .int) (C := RX4) (T := TX4) (N := 11) hx hb hts iw4 tyX4 tyX4_ok nmX4 hown hK hP hD hS 0 rfl rfl 10 (by decide) fw2 (fun _ h9 => h9) rfl (by decide +kernel) rfl rfl (Nat.le_of_ble_eq_true rfl) dX4_addNote_46 (fun H locs hP hD hS => ?_)
    have hP : va_P D vwCl [(nw, .inr (4, [.ref kk, .ref nk, .ref nd, .ref ne, .ref nm, .ref nn, .int (nI fi), .int (nI gl), .int (nI un), .int (nI mi), .int (nI 6)])), (nn, .inl (y 6, 6, .inr (.inr (.inr (.inr fn_))))), (t0, .inl (y 0, 5, .inl t0f)), (t1, .inl (y 0, 5, .inl t1f)), (t2, .inl (y 0, 5, .inl t2f)), (t3, .inl (y 0, 5, .inl t3f)), (t4, .inl (y 0, 5, .inl t4f)), (t5, .inl (y 0, 5, .inl (upd (upd (upd (upd (upd t5f 0 x0) 1 x) 2 x2) 3 x3) 4 x4)))] H := hP
    have hD : va_D A [(nw, .inr (4, [.ref kk, .ref nk, .ref nd, .ref ne, .ref nm, .ref nn, .int (nI fi), .int (nI gl), .int (nI un), .int (nI mi), .int (nI 6)])), (nn, .inl (y 6, 6, .inr (.inr (.inr (.inr fn_))))), (t0, .inl (y 0, 5, .inl t0f)), (t1, .inl (y 0, 5, .inl t1f)), (t2, .inl (y 0, 5, .inl t2f)), (t3, .inl (y 0, 5, .inl t3f)), (t4, .inl (y 0, 5, .inl t4f)), (t5, .inl (y 0, 5, .inl (upd (upd (upd (upd (upd t5f 0 x0) 1 x) 2 x2) 3 x3) 4 x4)))] := hD
    exact W.iret (v := (nI 6)) hx hb hr (fun tZ ht hW => ⟨⟨(nI 6), (6, t0f, t1f, t2f, t3f, t4f, (upd (upd (upd (upd (upd t5f 0 x0) 1 x) 2 x2) 3 x3) 4 x4)), rfl, by first | omega | (dsimp only; omega), by rw [ht]; exact hP.sub [0, 1, 2, 3, 4, 5, 6, 7] rfl, hD.sub [0, 1, 2, 3, 4, 5, 6, 7] (by decide) rfl⟩, hS.F ht⟩) hS.2.2 dX4_addNote_49
