set_option maxHeartbeats 4000000 in
set_option maxRecDepth 100000 in
theorem ct_howMany0 (l : Launch) (D : va_G) (y : Nat → ClassId) (g : Nat) (kk : Nat) (nw : Nat) (im : Nat) (kp : Nat) (tx : Nat) (tr : Nat) (be : Nat) (sh : Nat) (sd : Nat) (rf : Nat) (nk : Nat) (nd : Nat) (ne : Nat) (nm : Nat) (nn : Nat) (nl : Nat) (na : Nat) (ns : Nat) (bys : Nat) (wo : Nat) (fs : Nat) (sc : Nat) : kw_Mi l yX10_howMany wsX10_howMany ({ frames := 1, cells := 0, slots := 0, locals := 40 }) D y [.ref g, .int 0] [(g, .inr (10, [.ref kk, .ref nw, .ref im, .ref kp, .ref tx, .ref tr, .ref be, .ref sh, .ref sd, .ref rf, .int 0, .int 1])), (nw, .inr (4, [.ref kk, .ref nk, .ref nd, .ref ne, .ref nm, .ref nn, .int 0, .int 0, .int 0, .int 0, .int 0])), (nd, .inr (1, [.ref nl, .ref na, .ref ns, .int 0, .int 0, .int 0])), (tx, .inr (7, [.ref bys, .int 0, .int 0, .int 0, .int 0, .int 0, .ref wo, .ref fs, .ref sc, .int 0, .int 0, .int 0]))] (fun (r : Int32) (u : Unit) => r = 0) (fun _ => [(g, .inr (10, [.ref kk, .ref nw, .ref im, .ref kp, .ref tx, .ref tr, .ref be, .ref sh, .ref sd, .ref rf, .int 0, .int 1])), (nw, .inr (4, [.ref kk, .ref nk, .ref nd, .ref ne, .ref nm, .ref nn, .int 0, .int 0, .int 0, .int 0, .int 0])), (nd, .inr (1, [.ref nl, .ref na, .ref ns, .int 0, .int 0, .int 0])), (tx, .inr (7, [.ref bys, .int 0, .int 0, .int 0, .int 0, .int 0, .ref wo, .ref fs, .ref sc, .int 0, .int 0, .int 0]))]) 0 0 := by
  refine kw_Mi.of (cc := cX10_howMany) (maxL := 2) (ret := (some .int)) (by decide) rfl ?_
  intro pZ eZ s mZ beZ meZ cZ A hE
  obtain ⟨hx, hb, hr, hml, hts, hown, hlocks, hin, hA, hP, hD, hK, hN⟩ := hE
  have hS : va_S A s.heap s.heap [] := va_S.rf
  have hl := lv_entry ([.ref g, .int 0]) (n := 2) (Nat.le_of_ble_eq_true rfl)
  rw [lg_entry_eq]
  generalize (lg_sl ([.ref g, .int 0]) ++ List.replicate (2 - (lg_sl ([.ref g, .int 0])).length) Slot.unset).toArray = ls at hl ⊢
  have hl : lv_has ls 2 [(0, .ref g), (1, .int 0)] := hl
  have fw1 := hts (.fieldLink RX10 36 "GleanDusk" "now" "LGleanDusk$Parish;") (List.mem_of_getElem? (i := 1) rfl)
  have fw2 := hts (.fieldLink RX10 94 "GleanDusk$Parish" "fields" "I") (List.mem_of_getElem? (i := 2) rfl)
  have i10 : ∀ w ∈ wsX100, w ∈ wsX10_howMany := fun _ h => List.mem_cons_of_mem _ (List.mem_append_left _ (List.mem_append_left _ (List.mem_append_left _ (List.mem_append_right _ h))))
  have i4 : ∀ w ∈ wsX40, w ∈ wsX10_howMany := fun _ h => List.mem_cons_of_mem _ (List.mem_append_left _ (List.mem_append_left _ (List.mem_append_right _ h)))
  refine lv_iload_n hx hb dX10_howMany_0 rfl (lv_at hl 1 rfl) ?_
  refine lv_tableIn (off := 47) (tgt := 48) hx hb dX10_howMany_1 (by decide) (by decide) (by decide +kernel) (by decide) ?_
  refine lv_aload_n hx hb dX10_howMany_48 rfl (lv_at hl 0 rfl) ?_
  refine va_get (D := D) (ci := 10) (v := .ref nw) (C := RX10) (T := TX10) (N := 12) hx hb hts i10 hown hK hP 0 rfl rfl 1 (by decide) fw1 (fun _ h9 => h9) rfl dX10_howMany_49 ?_
  refine va_get (D := D) (ci := 4) (v := .int 0) (C := RX4) (T := TX4) (N := 11) hx hb hts i4 hown hK hP 1 rfl rfl 6 (by decide) fw2 (fun _ h9 => h9) rfl dX10_howMany_52 ?_
  exact W.iret (v := 0) hx hb hr (fun tZ ht hW => ⟨⟨0, (), rfl, rfl, by rw [ht]; exact hP.sub [0, 1, 2, 3] rfl, hD.sub [0, 1, 2, 3] (by decide) rfl⟩, hS.F ht⟩) hS.2.2 dX10_howMany_55

set_option maxHeartbeats 4000000 in
set_option maxRecDepth 100000 in
theorem ct_howMany1 (l : Launch) (D : va_G) (y : Nat → ClassId) (g : Nat) (kk : Nat) (nw : Nat) (im : Nat) (kp : Nat) (tx : Nat) (tr : Nat) (be : Nat) (sh : Nat) (sd : Nat) (rf : Nat) (nk : Nat) (nd : Nat) (ne : Nat) (nm : Nat) (nn : Nat) (nl : Nat) (na : Nat) (ns : Nat) (bys : Nat) (wo : Nat) (fs : Nat) (sc : Nat) : kw_Mi l yX10_howMany wsX10_howMany ({ frames := 1, cells := 0, slots := 0, locals := 40 }) D y [.ref g, .int 1] [(g, .inr (10, [.ref kk, .ref nw, .ref im, .ref kp, .ref tx, .ref tr, .ref be, .ref sh, .ref sd, .ref rf, .int 0, .int 1])), (nw, .inr (4, [.ref kk, .ref nk, .ref nd, .ref ne, .ref nm, .ref nn, .int 0, .int 0, .int 0, .int 0, .int 0])), (nd, .inr (1, [.ref nl, .ref na, .ref ns, .int 0, .int 0, .int 0])), (tx, .inr (7, [.ref bys, .int 0, .int 0, .int 0, .int 0, .int 0, .ref wo, .ref fs, .ref sc, .int 0, .int 0, .int 0]))] (fun (r : Int32) (u : Unit) => r = 0) (fun _ => [(g, .inr (10, [.ref kk, .ref nw, .ref im, .ref kp, .ref tx, .ref tr, .ref be, .ref sh, .ref sd, .ref rf, .int 0, .int 1])), (nw, .inr (4, [.ref kk, .ref nk, .ref nd, .ref ne, .ref nm, .ref nn, .int 0, .int 0, .int 0, .int 0, .int 0])), (nd, .inr (1, [.ref nl, .ref na, .ref ns, .int 0, .int 0, .int 0])), (tx, .inr (7, [.ref bys, .int 0, .int 0, .int 0, .int 0, .int 0, .ref wo, .ref fs, .ref sc, .int 0, .int 0, .int 0]))]) 0 0 := by
  refine kw_Mi.of (cc := cX10_howMany) (maxL := 2) (ret := (some .int)) (by decide) rfl ?_
  intro pZ eZ s mZ beZ meZ cZ A hE
  obtain ⟨hx, hb, hr, hml, hts, hown, hlocks, hin, hA, hP, hD, hK, hN⟩ := hE
  have hS : va_S A s.heap s.heap [] := va_S.rf
  have hl := lv_entry ([.ref g, .int 1]) (n := 2) (Nat.le_of_ble_eq_true rfl)
  rw [lg_entry_eq]
  generalize (lg_sl ([.ref g, .int 1]) ++ List.replicate (2 - (lg_sl ([.ref g, .int 1])).length) Slot.unset).toArray = ls at hl ⊢
  have hl : lv_has ls 2 [(0, .ref g), (1, .int 1)] := hl
  have fw1 := hts (.fieldLink RX10 36 "GleanDusk" "now" "LGleanDusk$Parish;") (List.mem_of_getElem? (i := 1) rfl)
  have fw2 := hts (.fieldLink RX10 115 "GleanDusk$Parish" "gleaners" "I") (List.mem_of_getElem? (i := 3) rfl)
  have i10 : ∀ w ∈ wsX100, w ∈ wsX10_howMany := fun _ h => List.mem_cons_of_mem _ (List.mem_append_left _ (List.mem_append_left _ (List.mem_append_left _ (List.mem_append_right _ h))))
  have i4 : ∀ w ∈ wsX40, w ∈ wsX10_howMany := fun _ h => List.mem_cons_of_mem _ (List.mem_append_left _ (List.mem_append_left _ (List.mem_append_right _ h)))
  refine lv_iload_n hx hb dX10_howMany_0 rfl (lv_at hl 1 rfl) ?_
  refine lv_tableIn (off := 55) (tgt := 56) hx hb dX10_howMany_1 (by decide) (by decide) (by decide +kernel) (by decide) ?_
  refine lv_aload_n hx hb dX10_howMany_56 rfl (lv_at hl 0 rfl) ?_
  refine va_get (D := D) (ci := 10) (v := .ref nw) (C := RX10) (T := TX10) (N := 12) hx hb hts i10 hown hK hP 0 rfl rfl 1 (by decide) fw1 (fun _ h9 => h9) rfl dX10_howMany_57 ?_
  refine va_get (D := D) (ci := 4) (v := .int 0) (C := RX4) (T := TX4) (N := 11) hx hb hts i4 hown hK hP 1 rfl rfl 7 (by decide) fw2 (fun _ h9 => h9) rfl dX10_howMany_60 ?_
  exact W.iret (v := 0) hx hb hr (fun tZ ht hW => ⟨⟨0, (), rfl, rfl, by rw [ht]; exact hP.sub [0, 1, 2, 3] rfl, hD.sub [0, 1, 2, 3] (by decide) rfl⟩, hS.F ht⟩) hS.2.2 dX10_howMany_63

set_option maxHeartbeats 4000000 in
set_option maxRecDepth 100000 in
theorem ct_howMany2 (l : Launch) (D : va_G) (y : Nat → ClassId) (g : Nat) (kk : Nat) (nw : Nat) (im : Nat) (kp : Nat) (tx : Nat) (tr : Nat) (be : Nat) (sh : Nat) (sd : Nat) (rf : Nat) (nk : Nat) (nd : Nat) (ne : Nat) (nm : Nat) (nn : Nat) (nl : Nat) (na : Nat) (ns : Nat) (bys : Nat) (wo : Nat) (fs : Nat) (sc : Nat) : kw_Mi l yX10_howMany wsX10_howMany ({ frames := 1, cells := 0, slots := 0, locals := 40 }) D y [.ref g, .int 2] [(g, .inr (10, [.ref kk, .ref nw, .ref im, .ref kp, .ref tx, .ref tr, .ref be, .ref sh, .ref sd, .ref rf, .int 0, .int 1])), (nw, .inr (4, [.ref kk, .ref nk, .ref nd, .ref ne, .ref nm, .ref nn, .int 0, .int 0, .int 0, .int 0, .int 0])), (nd, .inr (1, [.ref nl, .ref na, .ref ns, .int 0, .int 0, .int 0])), (tx, .inr (7, [.ref bys, .int 0, .int 0, .int 0, .int 0, .int 0, .ref wo, .ref fs, .ref sc, .int 0, .int 0, .int 0]))] (fun (r : Int32) (u : Unit) => r = 0) (fun _ => [(g, .inr (10, [.ref kk, .ref nw, .ref im, .ref kp, .ref tx, .ref tr, .ref be, .ref sh, .ref sd, .ref rf, .int 0, .int 1])), (nw, .inr (4, [.ref kk, .ref nk, .ref nd, .ref ne, .ref nm, .ref nn, .int 0, .int 0, .int 0, .int 0, .int 0])), (nd, .inr (1, [.ref nl, .ref na, .ref ns, .int 0, .int 0, .int 0])), (tx, .inr (7, [.ref bys, .int 0, .int 0, .int 0, .int 0, .int 0, .ref wo, .ref fs, .ref sc, .int 0, .int 0, .int 0]))]) 0 0 := by
  refine kw_Mi.of (cc := cX10_howMany) (maxL := 2) (ret := (some .int)) (by decide) rfl ?_
  intro pZ eZ s mZ beZ meZ cZ A hE
  obtain ⟨hx, hb, hr, hml, hts, hown, hlocks, hin, hA, hP, hD, hK, hN⟩ := hE
  have hS : va_S A s.heap s.heap [] := va_S.rf
  have hl := lv_entry ([.ref g, .int 2]) (n := 2) (Nat.le_of_ble_eq_true rfl)
  rw [lg_entry_eq]
  generalize (lg_sl ([.ref g, .int 2]) ++ List.replicate (2 - (lg_sl ([.ref g, .int 2])).length) Slot.unset).toArray = ls at hl ⊢
  have hl : lv_has ls 2 [(0, .ref g), (1, .int 2)] := hl
  have fw1 := hts (.fieldLink RX10 36 "GleanDusk" "now" "LGleanDusk$Parish;") (List.mem_of_getElem? (i := 1) rfl)
  have fw2 := hts (.fieldLink RX10 140 "GleanDusk$Parish" "dusk" "LGleanDusk$Dusk;") (List.mem_of_getElem? (i := 4) rfl)
  have fw3 := hts (.fieldLink RX10 151 "GleanDusk$Dusk" "step" "I") (List.mem_of_getElem? (i := 5) rfl)
  have i10 : ∀ w ∈ wsX100, w ∈ wsX10_howMany := fun _ h => List.mem_cons_of_mem _ (List.mem_append_left _ (List.mem_append_left _ (List.mem_append_left _ (List.mem_append_right _ h))))
  have i4 : ∀ w ∈ wsX40, w ∈ wsX10_howMany := fun _ h => List.mem_cons_of_mem _ (List.mem_append_left _ (List.mem_append_left _ (List.mem_append_right _ h)))
  have i1 : ∀ w ∈ wsX10, w ∈ wsX10_howMany := fun _ h => List.mem_cons_of_mem _ (List.mem_append_left _ (List.mem_append_right _ h))
  refine lv_iload_n hx hb dX10_howMany_0 rfl (lv_at hl 1 rfl) ?_
  refine lv_tableIn (off := 63) (tgt := 64) hx hb dX10_howMany_1 (by decide) (by decide) (by decide +kernel) (by decide) ?_
  refine lv_aload_n hx hb dX10_howMany_64 rfl (lv_at hl 0 rfl) ?_
  refine va_get (D := D) (ci := 10) (v := .ref nw) (C := RX10) (T := TX10) (N := 12) hx hb hts i10 hown hK hP 0 rfl rfl 1 (by decide) fw1 (fun _ h9 => h9) rfl dX10_howMany_65 ?_
  refine va_get (D := D) (ci := 4) (v := .ref nd) (C := RX4) (T := TX4) (N := 11) hx hb hts i4 hown hK hP 1 rfl rfl 2 (by decide) fw2 (fun _ h9 => h9) rfl dX10_howMany_68 ?_
  refine va_get (D := D) (ci := 1) (v := .int 0) (C := RX1) (T := TX1) (N := 6) hx hb hts i1 hown hK hP 2 rfl rfl 3 (by decide) fw3 (fun _ h9 => h9) rfl dX10_howMany_71 ?_
  exact W.iret (v := 0) hx hb hr (fun tZ ht hW => ⟨⟨0, (), rfl, rfl, by rw [ht]; exact hP.sub [0, 1, 2, 3] rfl, hD.sub [0, 1, 2, 3] (by decide) rfl⟩, hS.F ht⟩) hS.2.2 dX10_howMany_74

set_option maxHeartbeats 4000000 in
set_option maxRecDepth 100000 in
theorem ct_howMany3 (l : Launch) (D : va_G) (y : Nat → ClassId) (g : Nat) (kk : Nat) (nw : Nat) (im : Nat) (kp : Nat) (tx : Nat) (tr : Nat) (be : Nat) (sh : Nat) (sd : Nat) (rf : Nat) (nk : Nat) (nd : Nat) (ne : Nat) (nm : Nat) (nn : Nat) (nl : Nat) (na : Nat) (ns : Nat) (bys : Nat) (wo : Nat) (fs : Nat) (sc : Nat) : kw_Mi l yX10_howMany wsX10_howMany ({ frames := 1, cells := 0, slots := 0, locals := 40 }) D y [.ref g, .int 3] [(g, .inr (10, [.ref kk, .ref nw, .ref im, .ref kp, .ref tx, .ref tr, .ref be, .ref sh, .ref sd, .ref rf, .int 0, .int 1])), (nw, .inr (4, [.ref kk, .ref nk, .ref nd, .ref ne, .ref nm, .ref nn, .int 0, .int 0, .int 0, .int 0, .int 0])), (nd, .inr (1, [.ref nl, .ref na, .ref ns, .int 0, .int 0, .int 0])), (tx, .inr (7, [.ref bys, .int 0, .int 0, .int 0, .int 0, .int 0, .ref wo, .ref fs, .ref sc, .int 0, .int 0, .int 0]))] (fun (r : Int32) (u : Unit) => r = 0) (fun _ => [(g, .inr (10, [.ref kk, .ref nw, .ref im, .ref kp, .ref tx, .ref tr, .ref be, .ref sh, .ref sd, .ref rf, .int 0, .int 1])), (nw, .inr (4, [.ref kk, .ref nk, .ref nd, .ref ne, .ref nm, .ref nn, .int 0, .int 0, .int 0, .int 0, .int 0])), (nd, .inr (1, [.ref nl, .ref na, .ref ns, .int 0, .int 0, .int 0])), (tx, .inr (7, [.ref bys, .int 0, .int 0, .int 0, .int 0, .int 0, .ref wo, .ref fs, .ref sc, .int 0, .int 0, .int 0]))]) 0 0 := by
  refine kw_Mi.of (cc := cX10_howMany) (maxL := 2) (ret := (some .int)) (by decide) rfl ?_
  intro pZ eZ s mZ beZ meZ cZ A hE
  obtain ⟨hx, hb, hr, hml, hts, hown, hlocks, hin, hA, hP, hD, hK, hN⟩ := hE
  have hS : va_S A s.heap s.heap [] := va_S.rf
  have hl := lv_entry ([.ref g, .int 3]) (n := 2) (Nat.le_of_ble_eq_true rfl)
  rw [lg_entry_eq]
  generalize (lg_sl ([.ref g, .int 3]) ++ List.replicate (2 - (lg_sl ([.ref g, .int 3])).length) Slot.unset).toArray = ls at hl ⊢
  have hl : lv_has ls 2 [(0, .ref g), (1, .int 3)] := hl
  have fw1 := hts (.fieldLink RX10 36 "GleanDusk" "now" "LGleanDusk$Parish;") (List.mem_of_getElem? (i := 1) rfl)
  have fw2 := hts (.fieldLink RX10 140 "GleanDusk$Parish" "dusk" "LGleanDusk$Dusk;") (List.mem_of_getElem? (i := 4) rfl)
  have fw3 := hts (.fieldLink RX10 173 "GleanDusk$Dusk" "cloud" "I") (List.mem_of_getElem? (i := 6) rfl)
  have i10 : ∀ w ∈ wsX100, w ∈ wsX10_howMany := fun _ h => List.mem_cons_of_mem _ (List.mem_append_left _ (List.mem_append_left _ (List.mem_append_left _ (List.mem_append_right _ h))))
  have i4 : ∀ w ∈ wsX40, w ∈ wsX10_howMany := fun _ h => List.mem_cons_of_mem _ (List.mem_append_left _ (List.mem_append_left _ (List.mem_append_right _ h)))
  have i1 : ∀ w ∈ wsX10, w ∈ wsX10_howMany := fun _ h => List.mem_cons_of_mem _ (List.mem_append_left _ (List.mem_append_right _ h))
  refine lv_iload_n hx hb dX10_howMany_0 rfl (lv_at hl 1 rfl) ?_
  refine lv_tableIn (off := 74) (tgt := 75) hx hb dX10_howMany_1 (by decide) (by decide) (by decide +kernel) (by decide) ?_
  refine lv_aload_n hx hb dX10_howMany_75 rfl (lv_at hl 0 rfl) ?_
  refine va_get (D := D) (ci := 10) (v := .ref nw) (C := RX10) (T := TX10) (N := 12) hx hb hts i10 hown hK hP 0 rfl rfl 1 (by decide) fw1 (fun _ h9 => h9) rfl dX10_howMany_76 ?_
  refine va_get (D := D) (ci := 4) (v := .ref nd) (C := RX4) (T := TX4) (N := 11) hx hb hts i4 hown hK hP 1 rfl rfl 2 (by decide) fw2 (fun _ h9 => h9) rfl dX10_howMany_79 ?_
  refine va_get (D := D) (ci := 1) (v := .int 0) (C := RX1) (T := TX1) (N := 6) hx hb hts i1 hown hK hP 2 rfl rfl 4 (by decide) fw3 (fun _ h9 => h9) rfl dX10_howMany_82 ?_
  exact W.iret (v := 0) hx hb hr (fun tZ ht hW => ⟨⟨0, (), rfl, rfl, by rw [ht]; exact hP.sub [0, 1, 2, 3] rfl, hD.sub [0, 1, 2, 3] (by decide) rfl⟩, hS.F ht⟩) hS.2.2 dX10_howMany_85

set_option maxHeartbeats 4000000 in
set_option maxRecDepth 100000 in
theorem ct_howMany4 (l : Launch) (D : va_G) (y : Nat → ClassId) (g : Nat) (kk : Nat) (nw : Nat) (im : Nat) (kp : Nat) (tx : Nat) (tr : Nat) (be : Nat) (sh : Nat) (sd : Nat) (rf : Nat) (nk : Nat) (nd : Nat) (ne : Nat) (nm : Nat) (nn : Nat) (nl : Nat) (na : Nat) (ns : Nat) (bys : Nat) (wo : Nat) (fs : Nat) (sc : Nat) : kw_Mi l yX10_howMany wsX10_howMany ({ frames := 1, cells := 0, slots := 0, locals := 40 }) D y [.ref g, .int 4] [(g, .inr (10, [.ref kk, .ref nw, .ref im, .ref kp, .ref tx, .ref tr, .ref be, .ref sh, .ref sd, .ref rf, .int 0, .int 1])), (nw, .inr (4, [.ref kk, .ref nk, .ref nd, .ref ne, .ref nm, .ref nn, .int 0, .int 0, .int 0, .int 0, .int 0])), (nd, .inr (1, [.ref nl, .ref na, .ref ns, .int 0, .int 0, .int 0])), (tx, .inr (7, [.ref bys, .int 0, .int 0, .int 0, .int 0, .int 0, .ref wo, .ref fs, .ref sc, .int 0, .int 0, .int 0]))] (fun (r : Int32) (u : Unit) => r = 0) (fun _ => [(g, .inr (10, [.ref kk, .ref nw, .ref im, .ref kp, .ref tx, .ref tr, .ref be, .ref sh, .ref sd, .ref rf, .int 0, .int 1])), (nw, .inr (4, [.ref kk, .ref nk, .ref nd, .ref ne, .ref nm, .ref nn, .int 0, .int 0, .int 0, .int 0, .int 0])), (nd, .inr (1, [.ref nl, .ref na, .ref ns, .int 0, .int 0, .int 0])), (tx, .inr (7, [.ref bys, .int 0, .int 0, .int 0, .int 0, .int 0, .ref wo, .ref fs, .ref sc, .int 0, .int 0, .int 0]))]) 0 0 := by
  refine kw_Mi.of (cc := cX10_howMany) (maxL := 2) (ret := (some .int)) (by decide) rfl ?_
  intro pZ eZ s mZ beZ meZ cZ A hE
  obtain ⟨hx, hb, hr, hml, hts, hown, hlocks, hin, hA, hP, hD, hK, hN⟩ := hE
  have hS : va_S A s.heap s.heap [] := va_S.rf
  have hl := lv_entry ([.ref g, .int 4]) (n := 2) (Nat.le_of_ble_eq_true rfl)
  rw [lg_entry_eq]
  generalize (lg_sl ([.ref g, .int 4]) ++ List.replicate (2 - (lg_sl ([.ref g, .int 4])).length) Slot.unset).toArray = ls at hl ⊢
  have hl : lv_has ls 2 [(0, .ref g), (1, .int 4)] := hl
  have fw1 := hts (.fieldLink RX10 36 "GleanDusk" "now" "LGleanDusk$Parish;") (List.mem_of_getElem? (i := 1) rfl)
  have fw2 := hts (.fieldLink RX10 140 "GleanDusk$Parish" "dusk" "LGleanDusk$Dusk;") (List.mem_of_getElem? (i := 4) rfl)
  have fw3 := hts (.fieldLink RX10 164 "GleanDusk$Dusk" "number" "I") (List.mem_of_getElem? (i := 7) rfl)
  have i10 : ∀ w ∈ wsX100, w ∈ wsX10_howMany := fun _ h => List.mem_cons_of_mem _ (List.mem_append_left _ (List.mem_append_left _ (List.mem_append_left _ (List.mem_append_right _ h))))
  have i4 : ∀ w ∈ wsX40, w ∈ wsX10_howMany := fun _ h => List.mem_cons_of_mem _ (List.mem_append_left _ (List.mem_append_left _ (List.mem_append_right _ h)))
  have i1 : ∀ w ∈ wsX10, w ∈ wsX10_howMany := fun _ h => List.mem_cons_of_mem _ (List.mem_append_left _ (List.mem_append_right _ h))
  refine lv_iload_n hx hb dX10_howMany_0 rfl (lv_at hl 1 rfl) ?_
  refine lv_tableIn (off := 85) (tgt := 86) hx hb dX10_howMany_1 (by decide) (by decide) (by decide +kernel) (by decide) ?_
  refine lv_aload_n hx hb dX10_howMany_86 rfl (lv_at hl 0 rfl) ?_
  refine va_get (D := D) (ci := 10) (v := .ref nw) (C := RX10) (T := TX10) (N := 12) hx hb hts i10 hown hK hP 0 rfl rfl 1 (by decide) fw1 (fun _ h9 => h9) rfl dX10_howMany_87 ?_
  refine va_get (D := D) (ci := 4) (v := .ref nd) (C := RX4) (T := TX4) (N := 11) hx hb hts i4 hown hK hP 1 rfl rfl 2 (by decide) fw2 (fun _ h9 => h9) rfl dX10_howMany_90 ?_
  refine va_get (D := D) (ci := 1) (v := .int 0) (C := RX1) (T := TX1) (N := 6) hx hb hts i1 hown hK hP 2 rfl rfl 5 (by decide) fw3 (fun _ h9 => h9) rfl dX10_howMany_93 ?_
  exact W.iret (v := 0) hx hb hr (fun tZ ht hW => ⟨⟨0, (), rfl, rfl, by rw [ht]; exact hP.sub [0, 1, 2, 3] rfl, hD.sub [0, 1, 2, 3] (by decide) rfl⟩, hS.F ht⟩) hS.2.2 dX10_howMany_96

set_option maxHeartbeats 4000000 in
set_option maxRecDepth 100000 in
theorem ct_howMany5 (l : Launch) (D : va_G) (y : Nat → ClassId) (g : Nat) (kk : Nat) (nw : Nat) (im : Nat) (kp : Nat) (tx : Nat) (tr : Nat) (be : Nat) (sh : Nat) (sd : Nat) (rf : Nat) (nk : Nat) (nd : Nat) (ne : Nat) (nm : Nat) (nn : Nat) (nl : Nat) (na : Nat) (ns : Nat) (bys : Nat) (wo : Nat) (fs : Nat) (sc : Nat) : kw_Mi l yX10_howMany wsX10_howMany ({ frames := 1, cells := 0, slots := 0, locals := 40 }) D y [.ref g, .int 5] [(g, .inr (10, [.ref kk, .ref nw, .ref im, .ref kp, .ref tx, .ref tr, .ref be, .ref sh, .ref sd, .ref rf, .int 0, .int 1])), (nw, .inr (4, [.ref kk, .ref nk, .ref nd, .ref ne, .ref nm, .ref nn, .int 0, .int 0, .int 0, .int 0, .int 0])), (nd, .inr (1, [.ref nl, .ref na, .ref ns, .int 0, .int 0, .int 0])), (tx, .inr (7, [.ref bys, .int 0, .int 0, .int 0, .int 0, .int 0, .ref wo, .ref fs, .ref sc, .int 0, .int 0, .int 0]))] (fun (r : Int32) (u : Unit) => r = 0) (fun _ => [(g, .inr (10, [.ref kk, .ref nw, .ref im, .ref kp, .ref tx, .ref tr, .ref be, .ref sh, .ref sd, .ref rf, .int 0, .int 1])), (nw, .inr (4, [.ref kk, .ref nk, .ref nd, .ref ne, .ref nm, .ref nn, .int 0, .int 0, .int 0, .int 0, .int 0])), (nd, .inr (1, [.ref nl, .ref na, .ref ns, .int 0, .int 0, .int 0])), (tx, .inr (7, [.ref bys, .int 0, .int 0, .int 0, .int 0, .int 0, .ref wo, .ref fs, .ref sc, .int 0, .int 0, .int 0]))]) 0 0 := by
  refine kw_Mi.of (cc := cX10_howMany) (maxL := 2) (ret := (some .int)) (by decide) rfl ?_
  intro pZ eZ s mZ beZ meZ cZ A hE
  obtain ⟨hx, hb, hr, hml, hts, hown, hlocks, hin, hA, hP, hD, hK, hN⟩ := hE
  have hS : va_S A s.heap s.heap [] := va_S.rf
  have hl := lv_entry ([.ref g, .int 5]) (n := 2) (Nat.le_of_ble_eq_true rfl)
  rw [lg_entry_eq]
  generalize (lg_sl ([.ref g, .int 5]) ++ List.replicate (2 - (lg_sl ([.ref g, .int 5])).length) Slot.unset).toArray = ls at hl ⊢
  have hl : lv_has ls 2 [(0, .ref g), (1, .int 5)] := hl
  have fw1 := hts (.fieldLink RX10 36 "GleanDusk" "now" "LGleanDusk$Parish;") (List.mem_of_getElem? (i := 1) rfl)
  have fw2 := hts (.fieldLink RX10 240 "GleanDusk$Parish" "missedCount" "I") (List.mem_of_getElem? (i := 8) rfl)
  have i10 : ∀ w ∈ wsX100, w ∈ wsX10_howMany := fun _ h => List.mem_cons_of_mem _ (List.mem_append_left _ (List.mem_append_left _ (List.mem_append_left _ (List.mem_append_right _ h))))
  have i4 : ∀ w ∈ wsX40, w ∈ wsX10_howMany := fun _ h => List.mem_cons_of_mem _ (List.mem_append_left _ (List.mem_append_left _ (List.mem_append_right _ h)))
  refine lv_iload_n hx hb dX10_howMany_0 rfl (lv_at hl 1 rfl) ?_
  refine lv_tableIn (off := 96) (tgt := 97) hx hb dX10_howMany_1 (by decide) (by decide) (by decide +kernel) (by decide) ?_
  refine lv_aload_n hx hb dX10_howMany_97 rfl (lv_at hl 0 rfl) ?_
  refine va_get (D := D) (ci := 10) (v := .ref nw) (C := RX10) (T := TX10) (N := 12) hx hb hts i10 hown hK hP 0 rfl rfl 1 (by decide) fw1 (fun _ h9 => h9) rfl dX10_howMany_98 ?_
  refine va_get (D := D) (ci := 4) (v := .int 0) (C := RX4) (T := TX4) (N := 11) hx hb hts i4 hown hK hP 1 rfl rfl 9 (by decide) fw2 (fun _ h9 => h9) rfl dX10_howMany_101 ?_
  exact W.iret (v := 0) hx hb hr (fun tZ ht hW => ⟨⟨0, (), rfl, rfl, by rw [ht]; exact hP.sub [0, 1, 2, 3] rfl, hD.sub [0, 1, 2, 3] (by decide) rfl⟩, hS.F ht⟩) hS.2.2 dX10_howMany_104

set_option maxHeartbeats 4000000 in
set_option maxRecDepth 100000 in
theorem ct_howMany6 (l : Launch) (D : va_G) (y : Nat → ClassId) (g : Nat) (kk : Nat) (nw : Nat) (im : Nat) (kp : Nat) (tx : Nat) (tr : Nat) (be : Nat) (sh : Nat) (sd : Nat) (rf : Nat) (nk : Nat) (nd : Nat) (ne : Nat) (nm : Nat) (nn : Nat) (nl : Nat) (na : Nat) (ns : Nat) (bys : Nat) (wo : Nat) (fs : Nat) (sc : Nat) : kw_Mi l yX10_howMany wsX10_howMany ({ frames := 1, cells := 0, slots := 0, locals := 40 }) D y [.ref g, .int 6] [(g, .inr (10, [.ref kk, .ref nw, .ref im, .ref kp, .ref tx, .ref tr, .ref be, .ref sh, .ref sd, .ref rf, .int 0, .int 1])), (nw, .inr (4, [.ref kk, .ref nk, .ref nd, .ref ne, .ref nm, .ref nn, .int 0, .int 0, .int 0, .int 0, .int 0])), (nd, .inr (1, [.ref nl, .ref na, .ref ns, .int 0, .int 0, .int 0])), (tx, .inr (7, [.ref bys, .int 0, .int 0, .int 0, .int 0, .int 0, .ref wo, .ref fs, .ref sc, .int 0, .int 0, .int 0]))] (fun (r : Int32) (u : Unit) => r = 0) (fun _ => [(g, .inr (10, [.ref kk, .ref nw, .ref im, .ref kp, .ref tx, .ref tr, .ref be, .ref sh, .ref sd, .ref rf, .int 0, .int 1])), (nw, .inr (4, [.ref kk, .ref nk, .ref nd, .ref ne, .ref nm, .ref nn, .int 0, .int 0, .int 0, .int 0, .int 0])), (nd, .inr (1, [.ref nl, .ref na, .ref ns, .int 0, .int 0, .int 0])), (tx, .inr (7, [.ref bys, .int 0, .int 0, .int 0, .int 0, .int 0, .ref wo, .ref fs, .ref sc, .int 0, .int 0, .int 0]))]) 0 0 := by
  refine kw_Mi.of (cc := cX10_howMany) (maxL := 2) (ret := (some .int)) (by decide) rfl ?_
  intro pZ eZ s mZ beZ meZ cZ A hE
  obtain ⟨hx, hb, hr, hml, hts, hown, hlocks, hin, hA, hP, hD, hK, hN⟩ := hE
  have hS : va_S A s.heap s.heap [] := va_S.rf
  have hl := lv_entry ([.ref g, .int 6]) (n := 2) (Nat.le_of_ble_eq_true rfl)
  rw [lg_entry_eq]
  generalize (lg_sl ([.ref g, .int 6]) ++ List.replicate (2 - (lg_sl ([.ref g, .int 6])).length) Slot.unset).toArray = ls at hl ⊢
  have hl : lv_has ls 2 [(0, .ref g), (1, .int 6)] := hl
  have fw1 := hts (.fieldLink RX10 36 "GleanDusk" "now" "LGleanDusk$Parish;") (List.mem_of_getElem? (i := 1) rfl)
  have fw2 := hts (.fieldLink RX10 250 "GleanDusk$Parish" "noteCount" "I") (List.mem_of_getElem? (i := 9) rfl)
  have i10 : ∀ w ∈ wsX100, w ∈ wsX10_howMany := fun _ h => List.mem_cons_of_mem _ (List.mem_append_left _ (List.mem_append_left _ (List.mem_append_left _ (List.mem_append_right _ h))))
  have i4 : ∀ w ∈ wsX40, w ∈ wsX10_howMany := fun _ h => List.mem_cons_of_mem _ (List.mem_append_left _ (List.mem_append_left _ (List.mem_append_right _ h)))
  refine lv_iload_n hx hb dX10_howMany_0 rfl (lv_at hl 1 rfl) ?_
  refine lv_tableIn (off := 104) (tgt := 105) hx hb dX10_howMany_1 (by decide) (by decide) (by decide +kernel) (by decide) ?_
  refine lv_aload_n hx hb dX10_howMany_105 rfl (lv_at hl 0 rfl) ?_
  refine va_get (D := D) (ci := 10) (v := .ref nw) (C := RX10) (T := TX10) (N := 12) hx hb hts i10 hown hK hP 0 rfl rfl 1 (by decide) fw1 (fun _ h9 => h9) rfl dX10_howMany_106 ?_
  refine va_get (D := D) (ci := 4) (v := .int 0) (C := RX4) (T := TX4) (N := 11) hx hb hts i4 hown hK hP 1 rfl rfl 10 (by decide) fw2 (fun _ h9 => h9) rfl dX10_howMany_109 ?_
  exact W.iret (v := 0) hx hb hr (fun tZ ht hW => ⟨⟨0, (), rfl, rfl, by rw [ht]; exact hP.sub [0, 1, 2, 3] rfl, hD.sub [0, 1, 2, 3] (by decide) rfl⟩, hS.F ht⟩) hS.2.2 dX10_howMany_112

set_option maxHeartbeats 4000000 in
set_option maxRecDepth 100000 in
theorem ct_howMany7 (l : Launch) (D : va_G) (y : Nat → ClassId) (g : Nat) (kk : Nat) (nw : Nat) (im : Nat) (kp : Nat) (tx : Nat) (tr : Nat) (be : Nat) (sh : Nat) (sd : Nat) (rf : Nat) (nk : Nat) (nd : Nat) (ne : Nat) (nm : Nat) (nn : Nat) (nl : Nat) (na : Nat) (ns : Nat) (bys : Nat) (wo : Nat) (fs : Nat) (sc : Nat) : kw_Mi l yX10_howMany wsX10_howMany ({ frames := 1, cells := 0, slots := 0, locals := 40 }) D y [.ref g, .int 7] [(g, .inr (10, [.ref kk, .ref nw, .ref im, .ref kp, .ref tx, .ref tr, .ref be, .ref sh, .ref sd, .ref rf, .int 0, .int 1])), (nw, .inr (4, [.ref kk, .ref nk, .ref nd, .ref ne, .ref nm, .ref nn, .int 0, .int 0, .int 0, .int 0, .int 0])), (nd, .inr (1, [.ref nl, .ref na, .ref ns, .int 0, .int 0, .int 0])), (tx, .inr (7, [.ref bys, .int 0, .int 0, .int 0, .int 0, .int 0, .ref wo, .ref fs, .ref sc, .int 0, .int 0, .int 0]))] (fun (r : Int32) (u : Unit) => r = 0) (fun _ => [(g, .inr (10, [.ref kk, .ref nw, .ref im, .ref kp, .ref tx, .ref tr, .ref be, .ref sh, .ref sd, .ref rf, .int 0, .int 1])), (nw, .inr (4, [.ref kk, .ref nk, .ref nd, .ref ne, .ref nm, .ref nn, .int 0, .int 0, .int 0, .int 0, .int 0])), (nd, .inr (1, [.ref nl, .ref na, .ref ns, .int 0, .int 0, .int 0])), (tx, .inr (7, [.ref bys, .int 0, .int 0, .int 0, .int 0, .int 0, .ref wo, .ref fs, .ref sc, .int 0, .int 0, .int 0]))]) 0 0 := by
  refine kw_Mi.of (cc := cX10_howMany) (maxL := 2) (ret := (some .int)) (by decide) rfl ?_
  intro pZ eZ s mZ beZ meZ cZ A hE
  obtain ⟨hx, hb, hr, hml, hts, hown, hlocks, hin, hA, hP, hD, hK, hN⟩ := hE
  have hS : va_S A s.heap s.heap [] := va_S.rf
  have hl := lv_entry ([.ref g, .int 7]) (n := 2) (Nat.le_of_ble_eq_true rfl)
  rw [lg_entry_eq]
  generalize (lg_sl ([.ref g, .int 7]) ++ List.replicate (2 - (lg_sl ([.ref g, .int 7])).length) Slot.unset).toArray = ls at hl ⊢
  have hl : lv_has ls 2 [(0, .ref g), (1, .int 7)] := hl
  have fw1 := hts (.fieldLink RX10 36 "GleanDusk" "now" "LGleanDusk$Parish;") (List.mem_of_getElem? (i := 1) rfl)
  have fw2 := hts (.fieldLink RX10 176 "GleanDusk$Parish" "undoable" "I") (List.mem_of_getElem? (i := 10) rfl)
  have i10 : ∀ w ∈ wsX100, w ∈ wsX10_howMany := fun _ h => List.mem_cons_of_mem _ (List.mem_append_left _ (List.mem_append_left _ (List.mem_append_left _ (List.mem_append_right _ h))))
  have i4 : ∀ w ∈ wsX40, w ∈ wsX10_howMany := fun _ h => List.mem_cons_of_mem _ (List.mem_append_left _ (List.mem_append_left _ (List.mem_append_right _ h)))
  refine lv_iload_n hx hb dX10_howMany_0 rfl (lv_at hl 1 rfl) ?_
  refine lv_tableIn (off := 112) (tgt := 113) hx hb dX10_howMany_1 (by decide) (by decide) (by decide +kernel) (by decide) ?_
  refine lv_aload_n hx hb dX10_howMany_113 rfl (lv_at hl 0 rfl) ?_
  refine va_get (D := D) (ci := 10) (v := .ref nw) (C := RX10) (T := TX10) (N := 12) hx hb hts i10 hown hK hP 0 rfl rfl 1 (by decide) fw1 (fun _ h9 => h9) rfl dX10_howMany_114 ?_
  refine va_get (D := D) (ci := 4) (v := .int 0) (C := RX4) (T := TX4) (N := 11) hx hb hts i4 hown hK hP 1 rfl rfl 8 (by decide) fw2 (fun _ h9 => h9) rfl dX10_howMany_117 ?_
  exact W.iret (v := 0) hx hb hr (fun tZ ht hW => ⟨⟨0, (), rfl, rfl, by rw [ht]; exact hP.sub [0, 1, 2, 3] rfl, hD.sub [0, 1, 2, 3] (by decide) rfl⟩, hS.F ht⟩) hS.2.2 dX10_howMany_120

set_option maxHeartbeats 4000000 in
set_option maxRecDepth 100000 in
theorem ct_howMany8 (l : Launch) (D : va_G) (y : Nat → ClassId) (g : Nat) (kk : Nat) (nw : Nat) (im : Nat) (kp : Nat) (tx : Nat) (tr : Nat) (be : Nat) (sh : Nat) (sd : Nat) (rf : Nat) (nk : Nat) (nd : Nat) (ne : Nat) (nm : Nat) (nn : Nat) (nl : Nat) (na : Nat) (ns : Nat) (bys : Nat) (wo : Nat) (fs : Nat) (sc : Nat) : kw_Mi l yX10_howMany wsX10_howMany ({ frames := 1, cells := 0, slots := 0, locals := 40 }) D y [.ref g, .int 8] [(g, .inr (10, [.ref kk, .ref nw, .ref im, .ref kp, .ref tx, .ref tr, .ref be, .ref sh, .ref sd, .ref rf, .int 0, .int 1])), (nw, .inr (4, [.ref kk, .ref nk, .ref nd, .ref ne, .ref nm, .ref nn, .int 0, .int 0, .int 0, .int 0, .int 0])), (nd, .inr (1, [.ref nl, .ref na, .ref ns, .int 0, .int 0, .int 0])), (tx, .inr (7, [.ref bys, .int 0, .int 0, .int 0, .int 0, .int 0, .ref wo, .ref fs, .ref sc, .int 0, .int 0, .int 0]))] (fun (r : Int32) (u : Unit) => r = 0) (fun _ => [(g, .inr (10, [.ref kk, .ref nw, .ref im, .ref kp, .ref tx, .ref tr, .ref be, .ref sh, .ref sd, .ref rf, .int 0, .int 1])), (nw, .inr (4, [.ref kk, .ref nk, .ref nd, .ref ne, .ref nm, .ref nn, .int 0, .int 0, .int 0, .int 0, .int 0])), (nd, .inr (1, [.ref nl, .ref na, .ref ns, .int 0, .int 0, .int 0])), (tx, .inr (7, [.ref bys, .int 0, .int 0, .int 0, .int 0, .int 0, .ref wo, .ref fs, .ref sc, .int 0, .int 0, .int 0]))]) 0 0 := by
  refine kw_Mi.of (cc := cX10_howMany) (maxL := 2) (ret := (some .int)) (by decide) rfl ?_
  intro pZ eZ s mZ beZ meZ cZ A hE
  obtain ⟨hx, hb, hr, hml, hts, hown, hlocks, hin, hA, hP, hD, hK, hN⟩ := hE
  have hS : va_S A s.heap s.heap [] := va_S.rf
  have hl := lv_entry ([.ref g, .int 8]) (n := 2) (Nat.le_of_ble_eq_true rfl)
  rw [lg_entry_eq]
  generalize (lg_sl ([.ref g, .int 8]) ++ List.replicate (2 - (lg_sl ([.ref g, .int 8])).length) Slot.unset).toArray = ls at hl ⊢
  have hl : lv_has ls 2 [(0, .ref g), (1, .int 8)] := hl
  have fw1 := hts (.fieldLink RX10 51 "GleanDusk" "text" "LGleanDusk$Text;") (List.mem_of_getElem? (i := 11) rfl)
  have fw2 := hts (.fieldLink RX10 122 "GleanDusk$Text" "length" "I") (List.mem_of_getElem? (i := 12) rfl)
  have i10 : ∀ w ∈ wsX100, w ∈ wsX10_howMany := fun _ h => List.mem_cons_of_mem _ (List.mem_append_left _ (List.mem_append_left _ (List.mem_append_left _ (List.mem_append_right _ h))))
  have i7 : ∀ w ∈ wsX70, w ∈ wsX10_howMany := fun _ h => List.mem_cons_of_mem _ (List.mem_append_right _ h)
  refine lv_iload_n hx hb dX10_howMany_0 rfl (lv_at hl 1 rfl) ?_
  refine lv_tableOut (tgt := 121) hx hb dX10_howMany_1 (by decide) (by decide) ?_
  refine lv_aload_n hx hb dX10_howMany_121 rfl (lv_at hl 0 rfl) ?_
  refine va_get (D := D) (ci := 10) (v := .ref tx) (C := RX10) (T := TX10) (N := 12) hx hb hts i10 hown hK hP 0 rfl rfl 4 (by decide) fw1 (fun _ h9 => h9) rfl dX10_howMany_122 ?_
  refine va_get (D := D) (ci := 7) (v := .int 0) (C := RX7) (T := TX7) (N := 12) hx hb hts i7 hown hK hP 3 rfl rfl 1 (by decide) fw2 (fun _ h9 => h9) rfl dX10_howMany_125 ?_
  exact W.iret (v := 0) hx hb hr (fun tZ ht hW => ⟨⟨0, (), rfl, rfl, by rw [ht]; exact hP.sub [0, 1, 2, 3] rfl, hD.sub [0, 1, 2, 3] (by decide) rfl⟩, hS.F ht⟩) hS.2.2 dX10_howMany_128

set_option maxHeartbeats 4000000 in
set_option maxRecDepth 100000 in
theorem ct_gather (l : Launch) (D : va_G) (y : Nat → ClassId) (nw : Nat) (kk : Nat) (nk : Nat) (nd : Nat) (ne : Nat) (nm : Nat) (nn : Nat) (d : Nat) (dl : Nat) (da : Nat) (ds : Nat) (st : Int32) (cl : Int32) (nu : Int32) (un : Int32) (NN : Nat) (hNN : NN < 2147483648): kw_Mi l yX4_gather wsX4_gather ({ frames := 1, cells := 0, slots := 0, locals := 40 }) D y [.ref nw, .ref d, .int (nI NN)] [(nw, .inr (4, [.ref kk, .ref nk, .ref nd, .ref ne, .ref nm, .ref nn, .int 0, .int 0, .int un, .int 0, .int 0])), (d, .inr (1, [.ref dl, .ref da, .ref ds, .int st, .int cl, .int nu]))] (fun (r : Int32) (u : Int32) => r = 0) (fun u => [(nw, .inr (4, [.ref kk, .ref nk, .ref nd, .ref ne, .ref nm, .ref nn, .int 0, .int 0, .int un, .int 0, .int 0])), (d, .inr (1, [.ref dl, .ref da, .ref ds, .int u, .int cl, .int nu]))]) 0 0 := by
  refine kw_Mi.of (cc := cX4_gather) (maxL := 6) (ret := (some .int)) (by decide) rfl ?_
  intro pZ eZ s mZ beZ meZ cZ A hE
  obtain ⟨hx, hb, hr, hml, hts, hown, hlocks, hin, hA, hP, hD, hK, hN⟩ := hE
  have hS : va_S A s.heap s.heap [] := va_S.rf
  have hl := lv_entry ([.ref nw, .ref d, .int (nI NN)]) (n := 6) (Nat.le_of_ble_eq_true rfl)
  rw [lg_entry_eq]
  generalize (lg_sl ([.ref nw, .ref d, .int (nI NN)]) ++ List.replicate (6 - (lg_sl ([.ref nw, .ref d, .int (nI NN)])).length) Slot.unset).toArray = ls at hl ⊢
  have hl : lv_has ls 6 [(0, .ref nw), (1, .ref d), (2, .int (nI NN))] := hl
  have fw1 := hts (.fieldLink RX4 38 "GleanDusk$Parish" "fields" "I") (List.mem_of_getElem? (i := 1) rfl)
  have fw2 := hts (.fieldLink RX4 54 "GleanDusk$Dusk" "step" "I") (List.mem_of_getElem? (i := 2) rfl)
  have i4 : ∀ w ∈ wsX40, w ∈ wsX4_gather := fun _ h => List.mem_cons_of_mem _ (List.mem_append_left _ (List.mem_append_right _ h))
  have i1 : ∀ w ∈ wsX10, w ∈ wsX4_gather := fun _ h => List.mem_cons_of_mem _ (List.mem_append_right _ h)
  refine lv_iconst (v := 0) hx hb dX4_gather_0 (by decide) ?_
  refine lv_istore_n (lv' := [(3, .int 0), (0, .ref nw), (1, .ref d), (2, .int (nI NN))]) hx hb dX4_gather_1 rfl hl (by decide) rfl (fun ls hl => ?_)
  refine lv_iconst (v := 0) hx hb dX4_gather_2 (by decide) ?_
  refine lv_istore (lv' := [(4, .int 0), (3, .int 0), (0, .ref nw), (1, .ref d), (2, .int (nI NN))]) hx hb dX4_gather_3 hl (by decide) rfl (fun ls hl => ?_)
  have lp1 : ∀ (fu9 j9 : Nat) (st9 : Int32) (H : Heap) (locs : List Loc) (ls : Array Slot), j9 ≤ NN → NN - j9 < fu9 → va_P D vwCl [(nw, .inr (4, [.ref kk, .ref nk, .ref nd, .ref ne, .ref nm, .ref nn, .int 0, .int 0, .int un, .int 0, .int 0])), (d, .inr (1, [.ref dl, .ref da, .ref ds, .int st9, .int cl, .int nu]))] H → va_D A [(nw, .inr (4, [.ref kk, .ref nk, .ref nd, .ref ne, .ref nm, .ref nn, .int 0, .int 0, .int un, .int 0, .int 0])), (d, .inr (1, [.ref dl, .ref da, .ref ds, .int st9, .int cl, .int nu]))] → va_S A s.heap H locs → lv_has ls 6 [(4, .int (nI j9)), (3, .int 0), (0, .ref nw), (1, .ref d), (2, .int (nI NN))] → W pZ l eZ ({ frames := 1, cells := 0, slots := 0, locals := 40 }) s mZ [.ref nw, .ref d, .int (nI NN)].toArray beZ meZ cZ H locs 0 0 (MQ beZ (va_Qi (fun (r : Int32) (u : Int32) => r = 0) (kw_B D (fun u => [(nw, .inr (4, [.ref kk, .ref nk, .ref nd, .ref ne, .ref nm, .ref nn, .int 0, .int 0, .int un, .int 0, .int 0])), (d, .inr (1, [.ref dl, .ref da, .ref ds, .int u, .int cl, .int nu]))]) A) A) [.ref nw, .ref d, .int (nI NN)].toArray s 0 0 A) (F0 mZ 5 ls []) := by
    intro fu9
    induction fu9 with
    | zero => intro j9 st9 H locs ls hj9 hf9; exact absurd hf9 (Nat.not_lt_zero _)
    | succ fu9 ih =>
      intro j9 st9 H locs ls hj9 hf9  hP hD hS hl
      refine lv_iload hx hb dX4_gather_5 (lv_at hl 0 rfl) ?_
      refine lv_iload_n hx hb dX4_gather_7 rfl (lv_at hl 4 rfl) ?_
      refine lv_icmp_ge (tgt := 62) hx hb dX4_gather_8 (by decide) (fun h2 => ?_) (fun h3 => ?_)
      · skip
        refine lv_iload_n hx hb dX4_gather_62 rfl (lv_at hl 1 rfl) ?_
        exact W.iret (v := 0) hx hb hr (fun tZ ht hW => ⟨⟨0, st9, rfl, rfl, by rw [ht]; exact hP.sub [0, 1] rfl, hD.sub [0, 1] (by decide) rfl⟩, hS.F ht⟩) hS.2.2 dX4_gather_63
      · skip
        refine lv_iconst (v := 0) hx hb dX4_gather_11 (by decide) ?_
        refine lv_istore (lv' := [(5, .int 0), (4, .int (nI j9)), (3, .int 0), (0, .ref nw), (1, .ref d), (2, .int (nI NN))]) hx hb dX4_gather_12 hl (by decide) rfl (fun ls hl => ?_)
        refine lv_iload hx hb dX4_gather_14 (lv_at hl 0 rfl) ?_
        refine lv_aload_n hx hb dX4_gather_16 rfl (lv_at hl 3 rfl) ?_
        refine va_get (D := D) (ci := 4) (v := .int 0) (C := RX4) (T := TX4) (N := 11) hx hb hts i4 hown hK hP 0 rfl rfl 6 (by decide) fw1 (fun _ h9 => h9) rfl dX4_gather_17 ?_
        refine lv_icmp_ge (tgt := 46) hx hb dX4_gather_20 (by decide) (fun _ => ?_) (fun h9 => absurd h9 (by decide))
        refine lv_aload_n hx hb dX4_gather_46 rfl (lv_at hl 4 rfl) ?_
        refine lv_dup hx hb dX4_gather_47 rfl ?_
        refine va_get (D := D) (ci := 1) (v := .int st9) (C := RX1) (T := TX1) (N := 6) hx hb hts i1 hown hK hP 1 rfl rfl 3 (by decide) fw2 (fun _ h9 => h9) rfl dX4_gather_48 ?_
        refine lv_iconst (v := 1) hx hb dX4_gather_51 (by decide) ?_
        refine lv_iadd hx hb dX4_gather_52 ?_
        refine va_put (D := D) (ci := 1) (v := .int (st9 + 1)) (ty := .int) (C := RX1) (T := TX1) (N := 6) hx hb hts i1 tyX1 tyX1_ok nmX1 hown hK hP hD hS 1 rfl rfl 3 (by decide) fw2 (fun _ h9 => h9) rfl (by decide +kernel) rfl rfl (Nat.le_of_ble_eq_true rfl) dX4_gather_53 (fun H locs hP hD hS => ?_)
        have hP : va_P D vwCl [(nw, .inr (4, [.ref kk, .ref nk, .ref nd, .ref ne, .ref nm, .ref nn, .int 0, .int 0, .int un, .int 0, .int 0])), (d, .inr (1, [.ref dl, .ref da, .ref ds, .int (st9 + 1), .int cl, .int nu]))] H := hP
        have hD : va_D A [(nw, .inr (4, [.ref kk, .ref nk, .ref nd, .ref ne, .ref nm, .ref nn, .int 0, .int 0, .int un, .int 0, .int 0])), (d, .inr (1, [.ref dl, .ref da, .ref ds, .int (st9 + 1), .int cl, .int nu]))] := hD
        refine lv_iinc (v := ((nI j9) + 1)) (lv' := [(4, .int ((nI j9) + 1)), (5, .int 0), (3, .int 0), (0, .ref nw), (1, .ref d), (2, .int (nI NN))]) hx hb dX4_gather_56 hl (k := 1) rfl (rfl) (by decide) rfl (fun ls hl => ?_)
        refine lv_goto (tgt := 5) hx hb dX4_gather_59 (by decide) ?_
        have hlt9 : j9 < NN := kw_nlt (nI_toInt (by omega)) (by omega) h3
        rw [nI_1 j9] at hl
        exact ih (j9 + 1) (st9 + 1) H locs ls (by omega) (by omega)  (hP.sub [0, 1] rfl) (hD.sub [0, 1] (by decide) rfl) hS (lv_sub hl [0, 2, 3, 4, 5] rfl)
  exact lp1 (NN + 1) 0 st _ _ _ (Nat.zero_le _) (by omega)  hP hD hS (lv_sub hl [0, 1, 2, 3, 4] rfl)
