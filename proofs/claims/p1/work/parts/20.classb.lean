set_option maxHeartbeats 4000000 in
set_option maxRecDepth 100000 in
theorem ct_storesOf (l : Launch) (D : va_G) (y : Nat → ClassId) (nw : Nat) (kk : Nat) (nk : Nat) (nd : Nat) (ne : Nat) (nm : Nat) (nn : Nat) (nl : Nat) (na : Nat) (ns : Nat) (w : Int32) : kw_Mi l yX4_storesOf wsX4_storesOf ({ frames := 1, cells := 0, slots := 0, locals := 40 }) D y [.ref nw, .int w] [(nw, .inr (4, [.ref kk, .ref nk, .ref nd, .ref ne, .ref nm, .ref nn, .int 0, .int 0, .int 0, .int 0, .int 0])), (nd, .inr (1, [.ref nl, .ref na, .ref ns, .int 0, .int 0, .int 0]))] (fun (r : Int32) (u : Unit) => r = 0) (fun _ => [(nw, .inr (4, [.ref kk, .ref nk, .ref nd, .ref ne, .ref nm, .ref nn, .int 0, .int 0, .int 0, .int 0, .int 0])), (nd, .inr (1, [.ref nl, .ref na, .ref ns, .int 0, .int 0, .int 0]))]) 0 0 := by
  refine kw_Mi.of (cc := cX4_storesOf) (maxL := 4) (ret := (some .int)) (by decide) rfl ?_
  intro pZ eZ s mZ beZ meZ cZ A hE
  obtain ⟨hx, hb, hr, hml, hts, hown, hlocks, hin, hA, hP, hD, hK, hN⟩ := hE
  have hS : va_S A s.heap s.heap [] := va_S.rf
  have hl := lv_entry ([.ref nw, .int w]) (n := 4) (Nat.le_of_ble_eq_true rfl)
  rw [lg_entry_eq]
  generalize (lg_sl ([.ref nw, .int w]) ++ List.replicate (4 - (lg_sl ([.ref nw, .int w])).length) Slot.unset).toArray = ls at hl ⊢
  have hl : lv_has ls 4 [(0, .ref nw), (1, .int w)] := hl
  have fw1 := hts (.fieldLink RX4 42 "GleanDusk$Parish" "gleaners" "I") (List.mem_of_getElem? (i := 1) rfl)
  have i4 : ∀ w ∈ wsX40, w ∈ wsX4_storesOf := fun _ h => List.mem_cons_of_mem _ (List.mem_append_left _ (List.mem_append_right _ h))
  refine lv_iconst (v := 0) hx hb dX4_storesOf_0 (by decide) ?_
  refine lv_istore_n (lv' := [(2, .int 0), (0, .ref nw), (1, .int w)]) hx hb dX4_storesOf_1 rfl hl (by decide) rfl (fun ls hl => ?_)
  refine lv_iconst (v := 0) hx hb dX4_storesOf_2 (by decide) ?_
  refine lv_istore_n (lv' := [(3, .int 0), (2, .int 0), (0, .ref nw), (1, .int w)]) hx hb dX4_storesOf_3 rfl hl (by decide) rfl (fun ls hl => ?_)
  refine lv_iload_n hx hb dX4_storesOf_4 rfl (lv_at hl 0 rfl) ?_
  refine lv_aload_n hx hb dX4_storesOf_5 rfl (lv_at hl 2 rfl) ?_
  refine va_get (D := D) (ci := 4) (v := .int 0) (C := RX4) (T := TX4) (N := 11) hx hb hts i4 hown hK hP 0 rfl rfl 7 (by decide) fw1 (fun _ h9 => h9) rfl dX4_storesOf_6 ?_
  refine lv_icmp_ge (tgt := 39) hx hb dX4_storesOf_9 (by decide) (fun _ => ?_) (fun h9 => absurd h9 (by decide))
  refine lv_iload_n hx hb dX4_storesOf_39 rfl (lv_at hl 1 rfl) ?_
  exact W.iret (v := 0) hx hb hr (fun tZ ht hW => ⟨⟨0, (), rfl, rfl, by rw [ht]; exact hP.sub [0, 1] rfl, hD.sub [0, 1] (by decide) rfl⟩, hS.F ht⟩) hS.2.2 dX4_storesOf_40

set_option maxHeartbeats 4000000 in
set_option maxRecDepth 100000 in
theorem ct_missedFit (l : Launch) (D : va_G) (y : Nat → ClassId) (nw : Nat) (kk : Nat) (nk : Nat) (nd : Nat) (ne : Nat) (nm : Nat) (nn : Nat) (c : Int32) : kw_Mi l yX4_missedFit wsX4_missedFit ({ frames := 1, cells := 0, slots := 0, locals := 40 }) D y [.ref nw, .int c] [(nw, .inr (4, [.ref kk, .ref nk, .ref nd, .ref ne, .ref nm, .ref nn, .int 0, .int 0, .int 0, .int 0, .int 0]))] (fun (r : Int32) (u : Unit) => r = 1) (fun _ => [(nw, .inr (4, [.ref kk, .ref nk, .ref nd, .ref ne, .ref nm, .ref nn, .int 0, .int 0, .int 0, .int 0, .int 0]))]) 0 0 := by
  refine kw_Mi.of (cc := cX4_missedFit) (maxL := 4) (ret := (some .boolean)) (by decide) rfl ?_
  intro pZ eZ s mZ beZ meZ cZ A hE
  obtain ⟨hx, hb, hr, hml, hts, hown, hlocks, hin, hA, hP, hD, hK, hN⟩ := hE
  have hS : va_S A s.heap s.heap [] := va_S.rf
  have hl := lv_entry ([.ref nw, .int c]) (n := 4) (Nat.le_of_ble_eq_true rfl)
  rw [lg_entry_eq]
  generalize (lg_sl ([.ref nw, .int c]) ++ List.replicate (4 - (lg_sl ([.ref nw, .int c])).length) Slot.unset).toArray = ls at hl ⊢
  have hl : lv_has ls 4 [(0, .ref nw), (1, .int c)] := hl
  have fw1 := hts (.fieldLink RX4 48 "GleanDusk$Parish" "missedCount" "I") (List.mem_of_getElem? (i := 1) rfl)
  have i4 : ∀ w ∈ wsX40, w ∈ wsX4_missedFit := fun _ h => List.mem_cons_of_mem _ (List.mem_append_right _ h)
  refine lv_iconst (v := 0) hx hb dX4_missedFit_0 (by decide) ?_
  refine lv_istore_n (lv' := [(2, .int 0), (0, .ref nw), (1, .int c)]) hx hb dX4_missedFit_1 rfl hl (by decide) rfl (fun ls hl => ?_)
  refine lv_iload_n hx hb dX4_missedFit_2 rfl (lv_at hl 0 rfl) ?_
  refine lv_aload_n hx hb dX4_missedFit_3 rfl (lv_at hl 1 rfl) ?_
  refine va_get (D := D) (ci := 4) (v := .int 0) (C := RX4) (T := TX4) (N := 11) hx hb hts i4 hown hK hP 0 rfl rfl 9 (by decide) fw1 (fun _ h9 => h9) rfl dX4_missedFit_4 ?_
  refine lv_icmp_ge (tgt := 54) hx hb dX4_missedFit_7 (by decide) (fun _ => ?_) (fun h9 => absurd h9 (by decide))
  refine lv_iconst (v := 1) hx hb dX4_missedFit_54 (by decide) ?_
  exact W.zret (v := 1) hx hb hr (by decide) (fun tZ ht hW => ⟨⟨1, (), rfl, rfl, by rw [ht]; exact hP.sub [0] rfl, hD.sub [0] (by decide) rfl⟩, hS.F ht⟩) hS.2.2 dX4_missedFit_55

set_option maxHeartbeats 4000000 in
set_option maxRecDepth 100000 in
theorem ct_fade (l : Launch) (D : va_G) (y : Nat → ClassId) (nw : Nat) (kk : Nat) (nk : Nat) (nd : Nat) (ne : Nat) (nm : Nat) (nn : Nat) (d : Nat) (dl : Nat) (da : Nat) (ds : Nat) (st : Int32) (cl : Int32) (nu : Int32) (un : Int32) : kw_Mv l yX4_fade wsX4_fade ({ frames := 1, cells := 0, slots := 0, locals := 40 }) D y [.ref nw, .ref d] [(nw, .inr (4, [.ref kk, .ref nk, .ref nd, .ref ne, .ref nm, .ref nn, .int 0, .int 0, .int un, .int 0, .int 0])), (d, .inr (1, [.ref dl, .ref da, .ref ds, .int st, .int cl, .int nu]))] (fun (u : Unit) => True) (fun _ => [(nw, .inr (4, [.ref kk, .ref nk, .ref nd, .ref ne, .ref nm, .ref nn, .int 0, .int 0, .int un, .int 0, .int 0])), (d, .inr (1, [.ref dl, .ref da, .ref ds, .int 0, .int cl, .int (if (nu + 1) < 999 then (nu + 1) else 999)]))]) 0 0 := by
  refine kw_Mv.of (cc := cX4_fade) (maxL := 3) (ret := none) (by decide) rfl ?_
  intro pZ eZ s mZ beZ meZ cZ A hE
  obtain ⟨hx, hb, hr, hml, hts, hown, hlocks, hin, hA, hP, hD, hK, hN⟩ := hE
  have hS : va_S A s.heap s.heap [] := va_S.rf
  have hl := lv_entry ([.ref nw, .ref d]) (n := 3) (Nat.le_of_ble_eq_true rfl)
  rw [lg_entry_eq]
  generalize (lg_sl ([.ref nw, .ref d]) ++ List.replicate (3 - (lg_sl ([.ref nw, .ref d])).length) Slot.unset).toArray = ls at hl ⊢
  have hl : lv_has ls 3 [(0, .ref nw), (1, .ref d)] := hl
  have fw1 := hts (.fieldLink RX4 42 "GleanDusk$Parish" "gleaners" "I") (List.mem_of_getElem? (i := 1) rfl)
  have fw2 := hts (.fieldLink RX4 38 "GleanDusk$Parish" "fields" "I") (List.mem_of_getElem? (i := 3) rfl)
  have fw3 := hts (.fieldLink RX4 60 "GleanDusk$Dusk" "number" "I") (List.mem_of_getElem? (i := 9) rfl)
  have fw4 := hts (.methodLink RX4 109 Lib.Math.min.name) (List.mem_of_getElem? (i := 5) rfl)
  have fw5 := hts (.static Lib.Math.min.name) (List.mem_of_getElem? (i := 6) rfl)
  have fw6 := hts (.initialized "java/lang/Math") (List.mem_of_getElem? (i := 7) rfl)
  have fw7 := hts (.code Lib.Math.min.name Lib.Math.min.code 2 (some .int)) (List.mem_of_getElem? (i := 8) rfl)
  have fw8 := hts (.fieldLink RX4 54 "GleanDusk$Dusk" "step" "I") (List.mem_of_getElem? (i := 10) rfl)
  have i4 : ∀ w ∈ wsX40, w ∈ wsX4_fade := fun _ h => List.mem_cons_of_mem _ (List.mem_append_left _ (List.mem_append_right _ h))
  have i1 : ∀ w ∈ wsX10, w ∈ wsX4_fade := fun _ h => List.mem_cons_of_mem _ (List.mem_append_right _ h)
  refine lv_iconst (v := 0) hx hb dX4_fade_0 (by decide) ?_
  refine lv_istore_n (lv' := [(2, .int 0), (0, .ref nw), (1, .ref d)]) hx hb dX4_fade_1 rfl hl (by decide) rfl (fun ls hl => ?_)
  refine lv_iload_n hx hb dX4_fade_2 rfl (lv_at hl 0 rfl) ?_
  refine lv_aload_n hx hb dX4_fade_3 rfl (lv_at hl 1 rfl) ?_
  refine va_get (D := D) (ci := 4) (v := .int 0) (C := RX4) (T := TX4) (N := 11) hx hb hts i4 hown hK hP 0 rfl rfl 7 (by decide) fw1 (fun _ h9 => h9) rfl dX4_fade_4 ?_
  refine lv_icmp_ge (tgt := 31) hx hb dX4_fade_7 (by decide) (fun _ => ?_) (fun h9 => absurd h9 (by decide))
  refine lv_iconst (v := 0) hx hb dX4_fade_31 (by decide) ?_
  refine lv_istore_n (lv' := [(2, .int 0), (0, .ref nw), (1, .ref d)]) hx hb dX4_fade_32 rfl hl (by decide) rfl (fun ls hl => ?_)
  refine lv_iload_n hx hb dX4_fade_33 rfl (lv_at hl 0 rfl) ?_
  refine lv_aload_n hx hb dX4_fade_34 rfl (lv_at hl 1 rfl) ?_
  refine va_get (D := D) (ci := 4) (v := .int 0) (C := RX4) (T := TX4) (N := 11) hx hb hts i4 hown hK hP 0 rfl rfl 6 (by decide) fw2 (fun _ h9 => h9) rfl dX4_fade_35 ?_
  refine lv_icmp_ge (tgt := 67) hx hb dX4_fade_38 (by decide) (fun _ => ?_) (fun h9 => absurd h9 (by decide))
  refine lv_aload_n hx hb dX4_fade_67 rfl (lv_at hl 2 rfl) ?_
  refine lv_sipush (v := 999) hx hb dX4_fade_68 (by decide) ?_
  refine lv_aload_n hx hb dX4_fade_71 rfl (lv_at hl 2 rfl) ?_
  refine va_get (D := D) (ci := 1) (v := .int nu) (C := RX1) (T := TX1) (N := 6) hx hb hts i1 hown hK hP 1 rfl rfl 5 (by decide) fw3 (fun _ h9 => h9) rfl dX4_fade_72 ?_
  refine lv_iconst (v := 1) hx hb dX4_fade_75 (by decide) ?_
  refine lv_iadd hx hb dX4_fade_76 ?_
  refine va_mmin hx hb (hml.trans hl.1.symm) hown fw4 fw5 fw6 fw7 (Nat.le_of_ble_eq_true rfl) (Nat.le_of_ble_eq_true rfl) (Nat.le_of_ble_eq_true rfl) (Nat.le_of_ble_eq_true rfl) dX4_fade_77 ?_
  refine va_put (D := D) (ci := 1) (v := .int (if (nu + 1) < 999 then (nu + 1) else 999)) (ty := .int) (C := RX1) (T := TX1) (N := 6) hx hb hts i1 tyX1 tyX1_ok nmX1 hown hK hP hD hS 1 rfl rfl 5 (by decide) fw3 (fun _ h9 => h9) rfl (by decide +kernel) rfl rfl (Nat.le_of_ble_eq_true rfl) dX4_fade_80 (fun H locs hP hD hS => ?_)
  have hP : va_P D vwCl [(nw, .inr (4, [.ref kk, .ref nk, .ref nd, .ref ne, .ref nm, .ref nn, .int 0, .int 0, .int un, .int 0, .int 0])), (d, .inr (1, [.ref dl, .ref da, .ref ds, .int st, .int cl, .int (if (nu + 1) < 999 then (nu + 1) else 999)]))] H := hP
  have hD : va_D A [(nw, .inr (4, [.ref kk, .ref nk, .ref nd, .ref ne, .ref nm, .ref nn, .int 0, .int 0, .int un, .int 0, .int 0])), (d, .inr (1, [.ref dl, .ref da, .ref ds, .int st, .int cl, .int (if (nu + 1) < 999 then (nu + 1) else 999)]))] := hD
  refine lv_aload_n hx hb dX4_fade_83 rfl (lv_at hl 2 rfl) ?_
  refine lv_iconst (v := 0) hx hb dX4_fade_84 (by decide) ?_
  refine va_put (D := D) (ci := 1) (v := .int 0) (ty := .int) (C := RX1) (T := TX1) (N := 6) hx hb hts i1 tyX1 tyX1_ok nmX1 hown hK hP hD hS 1 rfl rfl 3 (by decide) fw8 (fun _ h9 => h9) rfl (by decide +kernel) rfl rfl (Nat.le_of_ble_eq_true rfl) dX4_fade_85 (fun H locs hP hD hS => ?_)
  have hP : va_P D vwCl [(nw, .inr (4, [.ref kk, .ref nk, .ref nd, .ref ne, .ref nm, .ref nn, .int 0, .int 0, .int un, .int 0, .int 0])), (d, .inr (1, [.ref dl, .ref da, .ref ds, .int 0, .int cl, .int (if (nu + 1) < 999 then (nu + 1) else 999)]))] H := hP
  have hD : va_D A [(nw, .inr (4, [.ref kk, .ref nk, .ref nd, .ref ne, .ref nm, .ref nn, .int 0, .int 0, .int un, .int 0, .int 0])), (d, .inr (1, [.ref dl, .ref da, .ref ds, .int 0, .int cl, .int (if (nu + 1) < 999 then (nu + 1) else 999)]))] := hD
  exact W.vret hx hb hr (fun tZ ht hW => ⟨⟨(), rfl, trivial, by rw [ht]; exact hP.sub [0, 1] rfl, hD.sub [0, 1] (by decide) rfl⟩, hS.F ht⟩) hS.2.2 dX4_fade_88

set_option maxHeartbeats 4000000 in
set_option maxRecDepth 100000 in
theorem ct_par_become (l : Launch) (D : va_G) (y : Nat → ClassId) (nw : Nat) (kk : Nat) (nk : Nat) (nd : Nat) (ne : Nat) (nm : Nat) (nn : Nat) (nl : Nat) (na : Nat) (ns : Nat) (ii : Nat) (ki : Nat) (di : Nat) (ei : Nat) (mi : Nat) (ni : Nat) (li : Nat) (ai : Nat) (si : Nat) : kw_Mv l yX4_become wsX4_become ({ frames := 2, cells := 0, slots := 0, locals := 81 }) D y [.ref ii, .ref nw] [(ii, .inr (4, [.ref kk, .ref ki, .ref di, .ref ei, .ref mi, .ref ni, .int 0, .int 0, .int 0, .int 0, .int 0])), (ki, .inl (y 0, 6, .inl (fun _ => 0))), (di, .inr (1, [.ref li, .ref ai, .ref si, .int 0, .int 0, .int 0])), (li, .inl (y 0, 6, .inl (fun _ => 0))), (ai, .inl (y 0, 5, .inl (fun _ => 0))), (si, .inl (y 0, 5, .inl (fun _ => 0))), (nw, .inr (4, [.ref kk, .ref nk, .ref nd, .ref ne, .ref nm, .ref nn, .int 0, .int 0, .int 0, .int 0, .int 0])), (nk, .inl (y 0, 6, .inl (fun _ => 0))), (nd, .inr (1, [.ref nl, .ref na, .ref ns, .int 0, .int 0, .int 0])), (nl, .inl (y 0, 6, .inl (fun _ => 0))), (na, .inl (y 0, 5, .inl (fun _ => 0))), (ns, .inl (y 0, 5, .inl (fun _ => 0)))] (fun (u : Unit) => True) (fun _ => []) 0 0 := by
  refine kw_Mv.of (cc := cX4_become) (maxL := 3) (ret := none) (by decide) rfl ?_
  intro pZ eZ s mZ beZ meZ cZ A hE
  obtain ⟨hx, hb, hr, hml, hts, hown, hlocks, hin, hA, hP, hD, hK, hN⟩ := hE
  have hS : va_S A s.heap s.heap [] := va_S.rf
  have hl := lv_entry ([.ref ii, .ref nw]) (n := 3) (Nat.le_of_ble_eq_true rfl)
  rw [lg_entry_eq]
  generalize (lg_sl ([.ref ii, .ref nw]) ++ List.replicate (3 - (lg_sl ([.ref ii, .ref nw])).length) Slot.unset).toArray = ls at hl ⊢
  have hl : lv_has ls 3 [(0, .ref ii), (1, .ref nw)] := hl
  have fw1 := hts (.fieldLink RX4 9 "GleanDusk$Parish" "kind" "[I") (List.mem_of_getElem? (i := 1) rfl)
  have fw2 := hts (.methodLink RX4 63 arraycopyName) (List.mem_of_getElem? (i := 2) rfl)
  have fw3 := hts (.native arraycopyName) (List.mem_of_getElem? (i := 3) rfl)
  have fw4 := hts (.static arraycopyName) (List.mem_of_getElem? (i := 4) rfl)
  have fw5 := hts (.initialized "java/lang/System") (List.mem_of_getElem? (i := 5) rfl)
  have fw6 := hts (.fieldLink RX4 18 "GleanDusk$Parish" "dusk" "LGleanDusk$Dusk;") (List.mem_of_getElem? (i := 6) rfl)
  have fw7 := hts (.fieldLink RX4 45 "GleanDusk$Parish" "undoable" "I") (List.mem_of_getElem? (i := 7) rfl)
  have fw8 := hts (.fieldLink RX4 48 "GleanDusk$Parish" "missedCount" "I") (List.mem_of_getElem? (i := 9) rfl)
  have fw9 := hts (.fieldLink RX4 51 "GleanDusk$Parish" "noteCount" "I") (List.mem_of_getElem? (i := 11) rfl)
  have fw10 := hts (.fieldLink RX4 38 "GleanDusk$Parish" "fields" "I") (List.mem_of_getElem? (i := 13) rfl)
  have fw11 := hts (.fieldLink RX4 42 "GleanDusk$Parish" "gleaners" "I") (List.mem_of_getElem? (i := 14) rfl)
  have i4 : ∀ w ∈ wsX40, w ∈ wsX4_become := fun _ h => List.mem_cons_of_mem _ (List.mem_append_left _ (List.mem_append_right _ h))
  refine lv_aload_n hx hb dX4_become_0 rfl (lv_at hl 1 rfl) ?_
  refine va_get (D := D) (ci := 4) (v := .ref nk) (C := RX4) (T := TX4) (N := 11) hx hb hts i4 hown hK hP 6 rfl rfl 1 (by decide) fw1 (fun _ h9 => h9) rfl dX4_become_1 ?_
  refine lv_iconst (v := 0) hx hb dX4_become_4 (by decide) ?_
  refine lv_aload_n hx hb dX4_become_5 rfl (lv_at hl 0 rfl) ?_
  refine va_get (D := D) (ci := 4) (v := .ref ki) (C := RX4) (T := TX4) (N := 11) hx hb hts i4 hown hK hP 0 rfl rfl 1 (by decide) fw1 (fun _ h9 => h9) rfl dX4_become_6 ?_
  refine lv_iconst (v := 0) hx hb dX4_become_9 (by decide) ?_
  refine lv_bipush (v := 6) hx hb dX4_become_10 (by decide) ?_
  refine va_copyi hx hb (hml.trans hl.1.symm) hown fw2 fw3 fw4 fw5 hK hP hD hS 7 1 0 0 rfl rfl rfl rfl rfl (by decide) (by decide) (by decide) (by decide) (by decide) (fun _ _ => rfl) (Nat.le_of_ble_eq_true rfl) (Nat.le_of_ble_eq_true rfl) dX4_become_12 (fun H locs hP hD hS => ?_)
  rw [kw_cpy0] at hP hD
  have hP : va_P D vwCl [(ii, .inr (4, [.ref kk, .ref ki, .ref di, .ref ei, .ref mi, .ref ni, .int 0, .int 0, .int 0, .int 0, .int 0])), (ki, .inl (y 0, 6, .inl (fun _ => 0))), (di, .inr (1, [.ref li, .ref ai, .ref si, .int 0, .int 0, .int 0])), (li, .inl (y 0, 6, .inl (fun _ => 0))), (ai, .inl (y 0, 5, .inl (fun _ => 0))), (si, .inl (y 0, 5, .inl (fun _ => 0))), (nw, .inr (4, [.ref kk, .ref nk, .ref nd, .ref ne, .ref nm, .ref nn, .int 0, .int 0, .int 0, .int 0, .int 0])), (nk, .inl (y 0, 6, .inl (fun _ => 0))), (nd, .inr (1, [.ref nl, .ref na, .ref ns, .int 0, .int 0, .int 0])), (nl, .inl (y 0, 6, .inl (fun _ => 0))), (na, .inl (y 0, 5, .inl (fun _ => 0))), (ns, .inl (y 0, 5, .inl (fun _ => 0)))] H := hP
  have hD : va_D A [(ii, .inr (4, [.ref kk, .ref ki, .ref di, .ref ei, .ref mi, .ref ni, .int 0, .int 0, .int 0, .int 0, .int 0])), (ki, .inl (y 0, 6, .inl (fun _ => 0))), (di, .inr (1, [.ref li, .ref ai, .ref si, .int 0, .int 0, .int 0])), (li, .inl (y 0, 6, .inl (fun _ => 0))), (ai, .inl (y 0, 5, .inl (fun _ => 0))), (si, .inl (y 0, 5, .inl (fun _ => 0))), (nw, .inr (4, [.ref kk, .ref nk, .ref nd, .ref ne, .ref nm, .ref nn, .int 0, .int 0, .int 0, .int 0, .int 0])), (nk, .inl (y 0, 6, .inl (fun _ => 0))), (nd, .inr (1, [.ref nl, .ref na, .ref ns, .int 0, .int 0, .int 0])), (nl, .inl (y 0, 6, .inl (fun _ => 0))), (na, .inl (y 0, 5, .inl (fun _ => 0))), (ns, .inl (y 0, 5, .inl (fun _ => 0)))] := hD
  refine lv_aload_n hx hb dX4_become_15 rfl (lv_at hl 0 rfl) ?_
  refine va_get (D := D) (ci := 4) (v := .ref di) (C := RX4) (T := TX4) (N := 11) hx hb hts i4 hown hK hP 0 rfl rfl 2 (by decide) fw6 (fun _ h9 => h9) rfl dX4_become_16 ?_
  refine lv_aload_n hx hb dX4_become_19 rfl (lv_at hl 1 rfl) ?_
  refine va_get (D := D) (ci := 4) (v := .ref nd) (C := RX4) (T := TX4) (N := 11) hx hb hts i4 hown hK hP 6 rfl rfl 2 (by decide) fw6 (fun _ h9 => h9) rfl dX4_become_20 ?_
  have hs1 : kw_Split [(ii, .inr (4, [.ref kk, .ref ki, .ref di, .ref ei, .ref mi, .ref ni, .int 0, .int 0, .int 0, .int 0, .int 0])), (ki, .inl (y 0, 6, .inl (fun _ => 0))), (di, .inr (1, [.ref li, .ref ai, .ref si, .int 0, .int 0, .int 0])), (li, .inl (y 0, 6, .inl (fun _ => 0))), (ai, .inl (y 0, 5, .inl (fun _ => 0))), (si, .inl (y 0, 5, .inl (fun _ => 0))), (nw, .inr (4, [.ref kk, .ref nk, .ref nd, .ref ne, .ref nm, .ref nn, .int 0, .int 0, .int 0, .int 0, .int 0])), (nk, .inl (y 0, 6, .inl (fun _ => 0))), (nd, .inr (1, [.ref nl, .ref na, .ref ns, .int 0, .int 0, .int 0])), (nl, .inl (y 0, 6, .inl (fun _ => 0))), (na, .inl (y 0, 5, .inl (fun _ => 0))), (ns, .inl (y 0, 5, .inl (fun _ => 0)))] [(di, .inr (1, [.ref li, .ref ai, .ref si, .int 0, .int 0, .int 0])), (li, .inl (y 0, 6, .inl (fun _ => 0))), (ai, .inl (y 0, 5, .inl (fun _ => 0))), (si, .inl (y 0, 5, .inl (fun _ => 0))), (nd, .inr (1, [.ref nl, .ref na, .ref ns, .int 0, .int 0, .int 0])), (nl, .inl (y 0, 6, .inl (fun _ => 0))), (na, .inl (y 0, 5, .inl (fun _ => 0))), (ns, .inl (y 0, 5, .inl (fun _ => 0)))] [(ii, .inr (4, [.ref kk, .ref ki, .ref di, .ref ei, .ref mi, .ref ni, .int 0, .int 0, .int 0, .int 0, .int 0])), (ki, .inl (y 0, 6, .inl (fun _ => 0))), (nw, .inr (4, [.ref kk, .ref nk, .ref nd, .ref ne, .ref nm, .ref nn, .int 0, .int 0, .int 0, .int 0, .int 0])), (nk, .inl (y 0, 6, .inl (fun _ => 0)))] [2, 3, 4, 5, 8, 9, 10, 11] [0, 1, 6, 7] := ⟨rfl, rfl, rfl, rfl, rfl, by decide⟩
  refine kw_go_v hs1 hP hD hS hA (va_runV (As := [.ref nd]) (rest := []) ⟨hx, hb, hml, hown, hts⟩ (ct_dusk_become l D y di li ai si nd nl na ns 0 0 0 0 0 0  _) (cwV 1 hts gX4_become_X1_become rfl rfl rfl (by decide +kernel) ⟨Nat.le_of_ble_eq_true rfl, Nat.le_of_ble_eq_true rfl⟩) (kw_PreV (ci := 1) (q0 := 2) hs1 hP hD hK hN rfl rfl) rfl rfl hl.1 rfl (lv_room (Nat.le_of_ble_eq_true rfl)) dX4_become_23 ⟨Nat.le_of_ble_eq_true rfl, Nat.le_of_ble_eq_true rfl⟩) (fun u H locs hq hP hD hS => ?_)
  obtain - := hq
  have hP : va_P D vwCl [(ii, .inr (4, [.ref kk, .ref ki, .ref di, .ref ei, .ref mi, .ref ni, .int 0, .int 0, .int 0, .int 0, .int 0])), (ki, .inl (y 0, 6, .inl (fun _ => 0))), (nw, .inr (4, [.ref kk, .ref nk, .ref nd, .ref ne, .ref nm, .ref nn, .int 0, .int 0, .int 0, .int 0, .int 0])), (nk, .inl (y 0, 6, .inl (fun _ => 0))), (di, .inr (1, [.ref li, .ref ai, .ref si, .int 0, .int 0, .int 0])), (li, .inl (y 0, 6, .inl (fun _ => 0))), (ai, .inl (y 0, 5, .inl (fun _ => 0))), (si, .inl (y 0, 5, .inl (fun _ => 0))), (nd, .inr (1, [.ref nl, .ref na, .ref ns, .int 0, .int 0, .int 0])), (nl, .inl (y 0, 6, .inl (fun _ => 0))), (na, .inl (y 0, 5, .inl (fun _ => 0))), (ns, .inl (y 0, 5, .inl (fun _ => 0)))] H := hP
  have hD : va_D A [(ii, .inr (4, [.ref kk, .ref ki, .ref di, .ref ei, .ref mi, .ref ni, .int 0, .int 0, .int 0, .int 0, .int 0])), (ki, .inl (y 0, 6, .inl (fun _ => 0))), (nw, .inr (4, [.ref kk, .ref nk, .ref nd, .ref ne, .ref nm, .ref nn, .int 0, .int 0, .int 0, .int 0, .int 0])), (nk, .inl (y 0, 6, .inl (fun _ => 0))), (di, .inr (1, [.ref li, .ref ai, .ref si, .int 0, .int 0, .int 0])), (li, .inl (y 0, 6, .inl (fun _ => 0))), (ai, .inl (y 0, 5, .inl (fun _ => 0))), (si, .inl (y 0, 5, .inl (fun _ => 0))), (nd, .inr (1, [.ref nl, .ref na, .ref ns, .int 0, .int 0, .int 0])), (nl, .inl (y 0, 6, .inl (fun _ => 0))), (na, .inl (y 0, 5, .inl (fun _ => 0))), (ns, .inl (y 0, 5, .inl (fun _ => 0)))] := hD
  refine lv_iconst (v := 0) hx hb dX4_become_26 (by decide) ?_
  refine lv_istore_n (lv' := [(2, .int 0), (0, .ref ii), (1, .ref nw)]) hx hb dX4_become_27 rfl hl (by decide) rfl (fun ls hl => ?_)
  refine lv_iload_n hx hb dX4_become_28 rfl (lv_at hl 0 rfl) ?_
  refine lv_aload_n hx hb dX4_become_29 rfl (lv_at hl 2 rfl) ?_
  refine va_get (D := D) (ci := 4) (v := .int 0) (C := RX4) (T := TX4) (N := 11) hx hb hts i4 hown hK hP 2 rfl rfl 8 (by decide) fw7 (fun _ h9 => h9) rfl dX4_become_30 ?_
  refine lv_icmp_ge (tgt := 57) hx hb dX4_become_33 (by decide) (fun _ => ?_) (fun h9 => absurd h9 (by decide))
  refine lv_iconst (v := 0) hx hb dX4_become_57 (by decide) ?_
  refine lv_istore_n (lv' := [(2, .int 0), (0, .ref ii), (1, .ref nw)]) hx hb dX4_become_58 rfl hl (by decide) rfl (fun ls hl => ?_)
  refine lv_iload_n hx hb dX4_become_59 rfl (lv_at hl 0 rfl) ?_
  refine lv_aload_n hx hb dX4_become_60 rfl (lv_at hl 2 rfl) ?_
  refine va_get (D := D) (ci := 4) (v := .int 0) (C := RX4) (T := TX4) (N := 11) hx hb hts i4 hown hK hP 2 rfl rfl 9 (by decide) fw8 (fun _ h9 => h9) rfl dX4_become_61 ?_
  refine lv_icmp_ge (tgt := 91) hx hb dX4_become_64 (by decide) (fun _ => ?_) (fun h9 => absurd h9 (by decide))
  refine lv_iconst (v := 0) hx hb dX4_become_91 (by decide) ?_
  refine lv_istore_n (lv' := [(2, .int 0), (0, .ref ii), (1, .ref nw)]) hx hb dX4_become_92 rfl hl (by decide) rfl (fun ls hl => ?_)
  refine lv_iload_n hx hb dX4_become_93 rfl (lv_at hl 0 rfl) ?_
  refine lv_aload_n hx hb dX4_become_94 rfl (lv_at hl 2 rfl) ?_
  refine va_get (D := D) (ci := 4) (v := .int 0) (C := RX4) (T := TX4) (N := 11) hx hb hts i4 hown hK hP 2 rfl rfl 10 (by decide) fw9 (fun _ h9 => h9) rfl dX4_become_95 ?_
  refine lv_icmp_ge (tgt := 125) hx hb dX4_become_98 (by decide) (fun _ => ?_) (fun h9 => absurd h9 (by decide))
  refine lv_aload_n hx hb dX4_become_125 rfl (lv_at hl 1 rfl) ?_
  refine lv_aload_n hx hb dX4_become_126 rfl (lv_at hl 2 rfl) ?_
  refine va_get (D := D) (ci := 4) (v := .int 0) (C := RX4) (T := TX4) (N := 11) hx hb hts i4 hown hK hP 2 rfl rfl 6 (by decide) fw10 (fun _ h9 => h9) rfl dX4_become_127 ?_
  refine va_put (D := D) (ci := 4) (v := .int 0) (ty := .int) (C := RX4) (T := TX4) (N := 11) hx hb hts i4 tyX4 tyX4_ok nmX4 hown hK hP hD hS 0 rfl rfl 6 (by decide) fw10 (fun _ h9 => h9) rfl (by decide +kernel) rfl rfl (Nat.le_of_ble_eq_true rfl) dX4_become_130 (fun H locs hP hD hS => ?_)
  have hP : va_P D vwCl [(ii, .inr (4, [.ref kk, .ref ki, .ref di, .ref ei, .ref mi, .ref ni, .int 0, .int 0, .int 0, .int 0, .int 0])), (ki, .inl (y 0, 6, .inl (fun _ => 0))), (nw, .inr (4, [.ref kk, .ref nk, .ref nd, .ref ne, .ref nm, .ref nn, .int 0, .int 0, .int 0, .int 0, .int 0])), (nk, .inl (y 0, 6, .inl (fun _ => 0))), (di, .inr (1, [.ref li, .ref ai, .ref si, .int 0, .int 0, .int 0])), (li, .inl (y 0, 6, .inl (fun _ => 0))), (ai, .inl (y 0, 5, .inl (fun _ => 0))), (si, .inl (y 0, 5, .inl (fun _ => 0))), (nd, .inr (1, [.ref nl, .ref na, .ref ns, .int 0, .int 0, .int 0])), (nl, .inl (y 0, 6, .inl (fun _ => 0))), (na, .inl (y 0, 5, .inl (fun _ => 0))), (ns, .inl (y 0, 5, .inl (fun _ => 0)))] H := hP
  have hD : va_D A [(ii, .inr (4, [.ref kk, .ref ki, .ref di, .ref ei, .ref mi, .ref ni, .int 0, .int 0, .int 0, .int 0, .int 0])), (ki, .inl (y 0, 6, .inl (fun _ => 0))), (nw, .inr (4, [.ref kk, .ref nk, .ref nd, .ref ne, .ref nm, .ref nn, .int 0, .int 0, .int 0, .int 0, .int 0])), (nk, .inl (y 0, 6, .inl (fun _ => 0))), (di, .inr (1, [.ref li, .ref ai, .ref si, .int 0, .int 0, .int 0])), (li, .inl (y 0, 6, .inl (fun _ => 0))), (ai, .inl (y 0, 5, .inl (fun _ => 0))), (si, .inl (y 0, 5, .inl (fun _ => 0))), (nd, .inr (1, [.ref nl, .ref na, .ref ns, .int 0, .int 0, .int 0])), (nl, .inl (y 0, 6, .inl (fun _ => 0))), (na, .inl (y 0, 5, .inl (fun _ => 0))), (ns, .inl (y 0, 5, .inl (fun _ => 0)))] := hD
  refine lv_aload_n hx hb dX4_become_133 rfl (lv_at hl 1 rfl) ?_
  refine lv_aload_n hx hb dX4_become_134 rfl (lv_at hl 2 rfl) ?_
  refine va_get (D := D) (ci := 4) (v := .int 0) (C := RX4) (T := TX4) (N := 11) hx hb hts i4 hown hK hP 2 rfl rfl 7 (by decide) fw11 (fun _ h9 => h9) rfl dX4_become_135 ?_
  refine va_put (D := D) (ci := 4) (v := .int 0) (ty := .int) (C := RX4) (T := TX4) (N := 11) hx hb hts i4 tyX4 tyX4_ok nmX4 hown hK hP hD hS 0 rfl rfl 7 (by decide) fw11 (fun _ h9 => h9) rfl (by decide +kernel) rfl rfl (Nat.le_of_ble_eq_true rfl) dX4_become_138 (fun H locs hP hD hS => ?_)
  have hP : va_P D vwCl [(ii, .inr (4, [.ref kk, .ref ki, .ref di, .ref ei, .ref mi, .ref ni, .int 0, .int 0, .int 0, .int 0, .int 0])), (ki, .inl (y 0, 6, .inl (fun _ => 0))), (nw, .inr (4, [.ref kk, .ref nk, .ref nd, .ref ne, .ref nm, .ref nn, .int 0, .int 0, .int 0, .int 0, .int 0])), (nk, .inl (y 0, 6, .inl (fun _ => 0))), (di, .inr (1, [.ref li, .ref ai, .ref si, .int 0, .int 0, .int 0])), (li, .inl (y 0, 6, .inl (fun _ => 0))), (ai, .inl (y 0, 5, .inl (fun _ => 0))), (si, .inl (y 0, 5, .inl (fun _ => 0))), (nd, .inr (1, [.ref nl, .ref na, .ref ns, .int 0, .int 0, .int 0])), (nl, .inl (y 0, 6, .inl (fun _ => 0))), (na, .inl (y 0, 5, .inl (fun _ => 0))), (ns, .inl (y 0, 5, .inl (fun _ => 0)))] H := hP
  have hD : va_D A [(ii, .inr (4, [.ref kk, .ref ki, .ref di, .ref ei, .ref mi, .ref ni, .int 0, .int 0, .int 0, .int 0, .int 0])), (ki, .inl (y 0, 6, .inl (fun _ => 0))), (nw, .inr (4, [.ref kk, .ref nk, .ref nd, .ref ne, .ref nm, .ref nn, .int 0, .int 0, .int 0, .int 0, .int 0])), (nk, .inl (y 0, 6, .inl (fun _ => 0))), (di, .inr (1, [.ref li, .ref ai, .ref si, .int 0, .int 0, .int 0])), (li, .inl (y 0, 6, .inl (fun _ => 0))), (ai, .inl (y 0, 5, .inl (fun _ => 0))), (si, .inl (y 0, 5, .inl (fun _ => 0))), (nd, .inr (1, [.ref nl, .ref na, .ref ns, .int 0, .int 0, .int 0])), (nl, .inl (y 0, 6, .inl (fun _ => 0))), (na, .inl (y 0, 5, .inl (fun _ => 0))), (ns, .inl (y 0, 5, .inl (fun _ => 0)))] := hD
  refine lv_aload_n hx hb dX4_become_141 rfl (lv_at hl 1 rfl) ?_
  refine lv_aload_n hx hb dX4_become_142 rfl (lv_at hl 2 rfl) ?_
  refine va_get (D := D) (ci := 4) (v := .int 0) (C := RX4) (T := TX4) (N := 11) hx hb hts i4 hown hK hP 2 rfl rfl 8 (by decide) fw7 (fun _ h9 => h9) rfl dX4_become_143 ?_
  refine va_put (D := D) (ci := 4) (v := .int 0) (ty := .int) (C := RX4) (T := TX4) (N := 11) hx hb hts i4 tyX4 tyX4_ok nmX4 hown hK hP hD hS 0 rfl rfl 8 (by decide) fw7 (fun _ h9 => h9) rfl (by decide +kernel) rfl rfl (Nat.le_of_ble_eq_true rfl) dX4_become_146 (fun H locs hP hD hS => ?_)
  have hP : va_P D vwCl [(ii, .inr (4, [.ref kk, .ref ki, .ref di, .ref ei, .ref mi, .ref ni, .int 0, .int 0, .int 0, .int 0, .int 0])), (ki, .inl (y 0, 6, .inl (fun _ => 0))), (nw, .inr (4, [.ref kk, .ref nk, .ref nd, .ref ne, .ref nm, .ref nn, .int 0, .int 0, .int 0, .int 0, .int 0])), (nk, .inl (y 0, 6, .inl (fun _ => 0))), (di, .inr (1, [.ref li, .ref ai, .ref si, .int 0, .int 0, .int 0])), (li, .inl (y 0, 6, .inl (fun _ => 0))), (ai, .inl (y 0, 5, .inl (fun _ => 0))), (si, .inl (y 0, 5, .inl (fun _ => 0))), (nd, .inr (1, [.ref nl, .ref na, .ref ns, .int 0, .int 0, .int 0])), (nl, .inl (y 0, 6, .inl (fun _ => 0))), (na, .inl (y 0, 5, .inl (fun _ => 0))), (ns, .inl (y 0, 5, .inl (fun _ => 0)))] H := hP
  have hD : va_D A [(ii, .inr (4, [.ref kk, .ref ki, .ref di, .ref ei, .ref mi, .ref ni, .int 0, .int 0, .int 0, .int 0, .int 0])), (ki, .inl (y 0, 6, .inl (fun _ => 0))), (nw, .inr (4, [.ref kk, .ref nk, .ref nd, .ref ne, .ref nm, .ref nn, .int 0, .int 0, .int 0, .int 0, .int 0])), (nk, .inl (y 0, 6, .inl (fun _ => 0))), (di, .inr (1, [.ref li, .ref ai, .ref si, .int 0, .int 0, .int 0])), (li, .inl (y 0, 6, .inl (fun _ => 0))), (ai, .inl (y 0, 5, .inl (fun _ => 0))), (si, .inl (y 0, 5, .inl (fun _ => 0))), (nd, .inr (1, [.ref nl, .ref na, .ref ns, .int 0, .int 0, .int 0])), (nl, .inl (y 0, 6, .inl (fun _ => 0))), (na, .inl (y 0, 5, .inl (fun _ => 0))), (ns, .inl (y 0, 5, .inl (fun _ => 0)))] := hD
  refine lv_aload_n hx hb dX4_become_149 rfl (lv_at hl 1 rfl) ?_
  refine lv_aload_n hx hb dX4_become_150 rfl (lv_at hl 2 rfl) ?_
  refine va_get (D := D) (ci := 4) (v := .int 0) (C := RX4) (T := TX4) (N := 11) hx hb hts i4 hown hK hP 2 rfl rfl 9 (by decide) fw8 (fun _ h9 => h9) rfl dX4_become_151 ?_
  refine va_put (D := D) (ci := 4) (v := .int 0) (ty := .int) (C := RX4) (T := TX4) (N := 11) hx hb hts i4 tyX4 tyX4_ok nmX4 hown hK hP hD hS 0 rfl rfl 9 (by decide) fw8 (fun _ h9 => h9) rfl (by decide +kernel) rfl rfl (Nat.le_of_ble_eq_true rfl) dX4_become_154 (fun H locs hP hD hS => ?_)
  have hP : va_P D vwCl [(ii, .inr (4, [.ref kk, .ref ki, .ref di, .ref ei, .ref mi, .ref ni, .int 0, .int 0, .int 0, .int 0, .int 0])), (ki, .inl (y 0, 6, .inl (fun _ => 0))), (nw, .inr (4, [.ref kk, .ref nk, .ref nd, .ref ne, .ref nm, .ref nn, .int 0, .int 0, .int 0, .int 0, .int 0])), (nk, .inl (y 0, 6, .inl (fun _ => 0))), (di, .inr (1, [.ref li, .ref ai, .ref si, .int 0, .int 0, .int 0])), (li, .inl (y 0, 6, .inl (fun _ => 0))), (ai, .inl (y 0, 5, .inl (fun _ => 0))), (si, .inl (y 0, 5, .inl (fun _ => 0))), (nd, .inr (1, [.ref nl, .ref na, .ref ns, .int 0, .int 0, .int 0])), (nl, .inl (y 0, 6, .inl (fun _ => 0))), (na, .inl (y 0, 5, .inl (fun _ => 0))), (ns, .inl (y 0, 5, .inl (fun _ => 0)))] H := hP
  have hD : va_D A [(ii, .inr (4, [.ref kk, .ref ki, .ref di, .ref ei, .ref mi, .ref ni, .int 0, .int 0, .int 0, .int 0, .int 0])), (ki, .inl (y 0, 6, .inl (fun _ => 0))), (nw, .inr (4, [.ref kk, .ref nk, .ref nd, .ref ne, .ref nm, .ref nn, .int 0, .int 0, .int 0, .int 0, .int 0])), (nk, .inl (y 0, 6, .inl (fun _ => 0))), (di, .inr (1, [.ref li, .ref ai, .ref si, .int 0, .int 0, .int 0])), (li, .inl (y 0, 6, .inl (fun _ => 0))), (ai, .inl (y 0, 5, .inl (fun _ => 0))), (si, .inl (y 0, 5, .inl (fun _ => 0))), (nd, .inr (1, [.ref nl, .ref na, .ref ns, .int 0, .int 0, .int 0])), (nl, .inl (y 0, 6, .inl (fun _ => 0))), (na, .inl (y 0, 5, .inl (fun _ => 0))), (ns, .inl (y 0, 5, .inl (fun _ => 0)))] := hD
  refine lv_aload_n hx hb dX4_become_157 rfl (lv_at hl 1 rfl) ?_
  refine lv_aload_n hx hb dX4_become_158 rfl (lv_at hl 2 rfl) ?_
  refine va_get (D := D) (ci := 4) (v := .int 0) (C := RX4) (T := TX4) (N := 11) hx hb hts i4 hown hK hP 2 rfl rfl 10 (by decide) fw9 (fun _ h9 => h9) rfl dX4_become_159 ?_
  refine va_put (D := D) (ci := 4) (v := .int 0) (ty := .int) (C := RX4) (T := TX4) (N := 11) hx hb hts i4 tyX4 tyX4_ok nmX4 hown hK hP hD hS 0 rfl rfl 10 (by decide) fw9 (fun _ h9 => h9) rfl (by decide +kernel) rfl rfl (Nat.le_of_ble_eq_true rfl) dX4_become_162 (fun H locs hP hD hS => ?_)
  have hP : va_P D vwCl [(ii, .inr (4, [.ref kk, .ref ki, .ref di, .ref ei, .ref mi, .ref ni, .int 0, .int 0, .int 0, .int 0, .int 0])), (ki, .inl (y 0, 6, .inl (fun _ => 0))), (nw, .inr (4, [.ref kk, .ref nk, .ref nd, .ref ne, .ref nm, .ref nn, .int 0, .int 0, .int 0, .int 0, .int 0])), (nk, .inl (y 0, 6, .inl (fun _ => 0))), (di, .inr (1, [.ref li, .ref ai, .ref si, .int 0, .int 0, .int 0])), (li, .inl (y 0, 6, .inl (fun _ => 0))), (ai, .inl (y 0, 5, .inl (fun _ => 0))), (si, .inl (y 0, 5, .inl (fun _ => 0))), (nd, .inr (1, [.ref nl, .ref na, .ref ns, .int 0, .int 0, .int 0])), (nl, .inl (y 0, 6, .inl (fun _ => 0))), (na, .inl (y 0, 5, .inl (fun _ => 0))), (ns, .inl (y 0, 5, .inl (fun _ => 0)))] H := hP
  have hD : va_D A [(ii, .inr (4, [.ref kk, .ref ki, .ref di, .ref ei, .ref mi, .ref ni, .int 0, .int 0, .int 0, .int 0, .int 0])), (ki, .inl (y 0, 6, .inl (fun _ => 0))), (nw, .inr (4, [.ref kk, .ref nk, .ref nd, .ref ne, .ref nm, .ref nn, .int 0, .int 0, .int 0, .int 0, .int 0])), (nk, .inl (y 0, 6, .inl (fun _ => 0))), (di, .inr (1, [.ref li, .ref ai, .ref si, .int 0, .int 0, .int 0])), (li, .inl (y 0, 6, .inl (fun _ => 0))), (ai, .inl (y 0, 5, .inl (fun _ => 0))), (si, .inl (y 0, 5, .inl (fun _ => 0))), (nd, .inr (1, [.ref nl, .ref na, .ref ns, .int 0, .int 0, .int 0])), (nl, .inl (y 0, 6, .inl (fun _ => 0))), (na, .inl (y 0, 5, .inl (fun _ => 0))), (ns, .inl (y 0, 5, .inl (fun _ => 0)))] := hD
  exact W.vret hx hb hr (fun tZ ht hW => ⟨⟨(), rfl, trivial, by rw [ht]; exact hP.sub [] rfl, hD.sub [] (by decide) rfl⟩, hS.F ht⟩) hS.2.2 dX4_become_165

set_option maxHeartbeats 4000000 in
set_option maxRecDepth 100000 in
theorem ct_append (l : Launch) (D : va_G) (y : Nat → ClassId) (tx : Nat) (bys : Nat) (wo : Nat) (fs : Nat) (sc : Nat) (c : Int32) : kw_Mi l yX7_append wsX7_append ({ frames := 1, cells := 0, slots := 0, locals := 40 }) D y [.ref tx, .int c] [(tx, .inr (7, [.ref bys, .int 0, .int 0, .int 0, .int 0, .int 0, .ref wo, .ref fs, .ref sc, .int 0, .int 0, .int 0])), (bys, .inl (y 1, 150, .inl (fun _ => 0)))] (fun (r : Int32) (u : Unit) => r = 1) (fun _ => []) 0 0 := by
  refine kw_Mi.of (cc := cX7_append) (maxL := 2) (ret := (some .int)) (by decide) rfl ?_
  intro pZ eZ s mZ beZ meZ cZ A hE
  obtain ⟨hx, hb, hr, hml, hts, hown, hlocks, hin, hA, hP, hD, hK, hN⟩ := hE
  have hS : va_S A s.heap s.heap [] := va_S.rf
  have hl := lv_entry ([.ref tx, .int c]) (n := 2) (Nat.le_of_ble_eq_true rfl)
  rw [lg_entry_eq]
  generalize (lg_sl ([.ref tx, .int c]) ++ List.replicate (2 - (lg_sl ([.ref tx, .int c])).length) Slot.unset).toArray = ls at hl ⊢
  have hl : lv_has ls 2 [(0, .ref tx), (1, .int c)] := hl
  have fw1 := hts (.fieldLink RX7 9 "GleanDusk$Text" "bytes" "[B") (List.mem_of_getElem? (i := 1) rfl)
  have fw2 := hts (.fieldLink RX7 25 "GleanDusk$Text" "length" "I") (List.mem_of_getElem? (i := 2) rfl)
  have i7 : ∀ w ∈ wsX70, w ∈ wsX7_append := fun _ h => List.mem_cons_of_mem _ (List.mem_append_right _ h)
  refine lv_aload_n hx hb dX7_append_0 rfl (lv_at hl 0 rfl) ?_
  refine va_get (D := D) (ci := 7) (v := .ref bys) (C := RX7) (T := TX7) (N := 12) hx hb hts i7 hown hK hP 0 rfl rfl 0 (by decide) fw1 (fun _ h9 => h9) rfl dX7_append_1 ?_
  refine lv_aload_n hx hb dX7_append_4 rfl (lv_at hl 0 rfl) ?_
  refine va_get (D := D) (ci := 7) (v := .int 0) (C := RX7) (T := TX7) (N := 12) hx hb hts i7 hown hK hP 0 rfl rfl 1 (by decide) fw2 (fun _ h9 => h9) rfl dX7_append_5 ?_
  refine lv_iload_n hx hb dX7_append_8 rfl (lv_at hl 1 rfl) ?_
  refine lv_i2b (v := c.toInt8.toInt32) hx hb dX7_append_9 (rfl) ?_
  refine va_bast hx hb hK hP hD hS 1 1 rfl rfl (by unfold vp_in; decide) dX7_append_10 (fun H locs hP hD hS => ?_)
  have hP : va_P D vwCl [(tx, .inr (7, [.ref bys, .int 0, .int 0, .int 0, .int 0, .int 0, .ref wo, .ref fs, .ref sc, .int 0, .int 0, .int 0])), (bys, .inl (y 1, 150, .inl (upd (fun _ => 0) (0 : Int32).toNatClampNeg (vp_nar .byte c.toInt8.toInt32))))] H := hP
  have hD : va_D A [(tx, .inr (7, [.ref bys, .int 0, .int 0, .int 0, .int 0, .int 0, .ref wo, .ref fs, .ref sc, .int 0, .int 0, .int 0])), (bys, .inl (y 1, 150, .inl (upd (fun _ => 0) (0 : Int32).toNatClampNeg (vp_nar .byte c.toInt8.toInt32))))] := hD
  refine lv_aload_n hx hb dX7_append_11 rfl (lv_at hl 0 rfl) ?_
  refine lv_dup hx hb dX7_append_12 rfl ?_
  refine va_get (D := D) (ci := 7) (v := .int 0) (C := RX7) (T := TX7) (N := 12) hx hb hts i7 hown hK hP 0 rfl rfl 1 (by decide) fw2 (fun _ h9 => h9) rfl dX7_append_13 ?_
  refine lv_iconst (v := 1) hx hb dX7_append_16 (by decide) ?_
  refine lv_iadd hx hb dX7_append_17 ?_
  refine lv_topi (fun z1 hz1 => ?_)
  obtain rfl : z1 = 1 := hz1.trans (by first | rfl | decide | (simp [upd]; done))
  refine lv_dup_x1 hx hb dX7_append_18 rfl rfl ?_
  refine va_put (D := D) (ci := 7) (v := .int 1) (ty := .int) (C := RX7) (T := TX7) (N := 12) hx hb hts i7 tyX7 tyX7_ok nmX7 hown hK hP hD hS 0 rfl rfl 1 (by decide) fw2 (fun _ h9 => h9) rfl (by decide +kernel) rfl rfl (Nat.le_of_ble_eq_true rfl) dX7_append_19 (fun H locs hP hD hS => ?_)
  have hP : va_P D vwCl [(tx, .inr (7, [.ref bys, .int 1, .int 0, .int 0, .int 0, .int 0, .ref wo, .ref fs, .ref sc, .int 0, .int 0, .int 0])), (bys, .inl (y 1, 150, .inl (upd (fun _ => 0) (0 : Int32).toNatClampNeg (vp_nar .byte c.toInt8.toInt32))))] H := hP
  have hD : va_D A [(tx, .inr (7, [.ref bys, .int 1, .int 0, .int 0, .int 0, .int 0, .ref wo, .ref fs, .ref sc, .int 0, .int 0, .int 0])), (bys, .inl (y 1, 150, .inl (upd (fun _ => 0) (0 : Int32).toNatClampNeg (vp_nar .byte c.toInt8.toInt32))))] := hD
  exact W.iret (v := 1) hx hb hr (fun tZ ht hW => ⟨⟨1, (), rfl, rfl, by rw [ht]; exact hP.sub [] rfl, hD.sub [] (by decide) rfl⟩, hS.F ht⟩) hS.2.2 dX7_append_22

set_option maxHeartbeats 4000000 in
set_option maxRecDepth 100000 in
theorem ct_advance (l : Launch) (D : va_G) (y : Nat → ClassId) (tx : Nat) (bys : Nat) (wo : Nat) (fs : Nat) (sc : Nat) (to : Int32) (sta : Int32) (nu : Int32) (fi : Int32) (gl : Int32) (ste : Int32) : kw_Mv l yX7_advance wsX7_advance ({ frames := 1, cells := 0, slots := 0, locals := 40 }) D y [.ref tx] [(tx, .inr (7, [.ref bys, .int 0, .int to, .int sta, .int 0, .int nu, .ref wo, .ref fs, .ref sc, .int fi, .int gl, .int ste]))] (fun (u : Unit) => True) (fun _ => [(tx, .inr (7, [.ref bys, .int 0, .int 0, .int 0, .int 0, .int nu, .ref wo, .ref fs, .ref sc, .int fi, .int gl, .int ste]))]) 0 0 := by
  refine kw_Mv.of (cc := cX7_advance) (maxL := 1) (ret := none) (by decide) rfl ?_
  intro pZ eZ s mZ beZ meZ cZ A hE
  obtain ⟨hx, hb, hr, hml, hts, hown, hlocks, hin, hA, hP, hD, hK, hN⟩ := hE
  have hS : va_S A s.heap s.heap [] := va_S.rf
  have hl := lv_entry ([.ref tx]) (n := 1) (Nat.le_of_ble_eq_true rfl)
  rw [lg_entry_eq]
  generalize (lg_sl ([.ref tx]) ++ List.replicate (1 - (lg_sl ([.ref tx])).length) Slot.unset).toArray = ls at hl ⊢
  have hl : lv_has ls 1 [(0, .ref tx)] := hl
  have fw1 := hts (.fieldLink RX7 29 "GleanDusk$Text" "end" "I") (List.mem_of_getElem? (i := 1) rfl)
  have fw2 := hts (.fieldLink RX7 51 "GleanDusk$Text" "start" "I") (List.mem_of_getElem? (i := 2) rfl)
  have fw3 := hts (.fieldLink RX7 25 "GleanDusk$Text" "length" "I") (List.mem_of_getElem? (i := 3) rfl)
  have fw4 := hts (.fieldLink RX7 44 "GleanDusk$Text" "token" "I") (List.mem_of_getElem? (i := 5) rfl)
  have i7 : ∀ w ∈ wsX70, w ∈ wsX7_advance := fun _ h => List.mem_cons_of_mem _ (List.mem_append_right _ h)
  refine lv_aload_n hx hb dX7_advance_0 rfl (lv_at hl 0 rfl) ?_
  refine lv_aload_n hx hb dX7_advance_1 rfl (lv_at hl 0 rfl) ?_
  refine va_get (D := D) (ci := 7) (v := .int 0) (C := RX7) (T := TX7) (N := 12) hx hb hts i7 hown hK hP 0 rfl rfl 4 (by decide) fw1 (fun _ h9 => h9) rfl dX7_advance_2 ?_
  refine va_put (D := D) (ci := 7) (v := .int 0) (ty := .int) (C := RX7) (T := TX7) (N := 12) hx hb hts i7 tyX7 tyX7_ok nmX7 hown hK hP hD hS 0 rfl rfl 3 (by decide) fw2 (fun _ h9 => h9) rfl (by decide +kernel) rfl rfl (Nat.le_of_ble_eq_true rfl) dX7_advance_5 (fun H locs hP hD hS => ?_)
  have hP : va_P D vwCl [(tx, .inr (7, [.ref bys, .int 0, .int to, .int 0, .int 0, .int nu, .ref wo, .ref fs, .ref sc, .int fi, .int gl, .int ste]))] H := hP
  have hD : va_D A [(tx, .inr (7, [.ref bys, .int 0, .int to, .int 0, .int 0, .int nu, .ref wo, .ref fs, .ref sc, .int fi, .int gl, .int ste]))] := hD
  refine lv_aload_n hx hb dX7_advance_8 rfl (lv_at hl 0 rfl) ?_
  refine va_get (D := D) (ci := 7) (v := .int 0) (C := RX7) (T := TX7) (N := 12) hx hb hts i7 hown hK hP 0 rfl rfl 3 (by decide) fw2 (fun _ h9 => h9) rfl dX7_advance_9 ?_
  refine lv_aload_n hx hb dX7_advance_12 rfl (lv_at hl 0 rfl) ?_
  refine va_get (D := D) (ci := 7) (v := .int 0) (C := RX7) (T := TX7) (N := 12) hx hb hts i7 hown hK hP 0 rfl rfl 1 (by decide) fw3 (fun _ h9 => h9) rfl dX7_advance_13 ?_
  refine lv_icmp_ge (tgt := 46) hx hb dX7_advance_16 (by decide) (fun _ => ?_) (fun h9 => absurd h9 (by decide))
  refine lv_aload_n hx hb dX7_advance_46 rfl (lv_at hl 0 rfl) ?_
  refine lv_aload_n hx hb dX7_advance_47 rfl (lv_at hl 0 rfl) ?_
  refine va_get (D := D) (ci := 7) (v := .int 0) (C := RX7) (T := TX7) (N := 12) hx hb hts i7 hown hK hP 0 rfl rfl 3 (by decide) fw2 (fun _ h9 => h9) rfl dX7_advance_48 ?_
  refine va_put (D := D) (ci := 7) (v := .int 0) (ty := .int) (C := RX7) (T := TX7) (N := 12) hx hb hts i7 tyX7 tyX7_ok nmX7 hown hK hP hD hS 0 rfl rfl 4 (by decide) fw1 (fun _ h9 => h9) rfl (by decide +kernel) rfl rfl (Nat.le_of_ble_eq_true rfl) dX7_advance_51 (fun H locs hP hD hS => ?_)
  have hP : va_P D vwCl [(tx, .inr (7, [.ref bys, .int 0, .int to, .int 0, .int 0, .int nu, .ref wo, .ref fs, .ref sc, .int fi, .int gl, .int ste]))] H := hP
  have hD : va_D A [(tx, .inr (7, [.ref bys, .int 0, .int to, .int 0, .int 0, .int nu, .ref wo, .ref fs, .ref sc, .int fi, .int gl, .int ste]))] := hD
  refine lv_aload_n hx hb dX7_advance_54 rfl (lv_at hl 0 rfl) ?_
  refine va_get (D := D) (ci := 7) (v := .int 0) (C := RX7) (T := TX7) (N := 12) hx hb hts i7 hown hK hP 0 rfl rfl 3 (by decide) fw2 (fun _ h9 => h9) rfl dX7_advance_55 ?_
  refine lv_aload_n hx hb dX7_advance_58 rfl (lv_at hl 0 rfl) ?_
  refine va_get (D := D) (ci := 7) (v := .int 0) (C := RX7) (T := TX7) (N := 12) hx hb hts i7 hown hK hP 0 rfl rfl 1 (by decide) fw3 (fun _ h9 => h9) rfl dX7_advance_59 ?_
  refine lv_icmp_lt (tgt := 73) hx hb dX7_advance_62 (by decide) (fun h9 => absurd h9 (by decide)) (fun _ => ?_)
  refine lv_aload_n hx hb dX7_advance_65 rfl (lv_at hl 0 rfl) ?_
  refine lv_iconst (v := 0) hx hb dX7_advance_66 (by decide) ?_
  refine va_put (D := D) (ci := 7) (v := .int 0) (ty := .int) (C := RX7) (T := TX7) (N := 12) hx hb hts i7 tyX7 tyX7_ok nmX7 hown hK hP hD hS 0 rfl rfl 2 (by decide) fw4 (fun _ h9 => h9) rfl (by decide +kernel) rfl rfl (Nat.le_of_ble_eq_true rfl) dX7_advance_67 (fun H locs hP hD hS => ?_)
  have hP : va_P D vwCl [(tx, .inr (7, [.ref bys, .int 0, .int 0, .int 0, .int 0, .int nu, .ref wo, .ref fs, .ref sc, .int fi, .int gl, .int ste]))] H := hP
  have hD : va_D A [(tx, .inr (7, [.ref bys, .int 0, .int 0, .int 0, .int 0, .int nu, .ref wo, .ref fs, .ref sc, .int fi, .int gl, .int ste]))] := hD
  refine lv_goto (tgt := 121) hx hb dX7_advance_70 (by decide) ?_
  exact W.vret hx hb hr (fun tZ ht hW => ⟨⟨(), rfl, trivial, by rw [ht]; exact hP.sub [0] rfl, hD.sub [0] (by decide) rfl⟩, hS.F ht⟩) hS.2.2 dX7_advance_121

set_option maxHeartbeats 4000000 in
set_option maxRecDepth 100000 in
theorem ct_wordHere (l : Launch) (D : va_G) (y : Nat → ClassId) (tx : Nat) (bys : Nat) (wo : Nat) (fs : Nat) (sc : Nat) (sta : Int32) (nu : Int32) (fi : Int32) (gl : Int32) (ste : Int32) : kw_Mi l yX7_wordHere wsX7_wordHere ({ frames := 1, cells := 0, slots := 0, locals := 40 }) D y [.ref tx] [(tx, .inr (7, [.ref bys, .int 0, .int 0, .int sta, .int 0, .int nu, .ref wo, .ref fs, .ref sc, .int fi, .int gl, .int ste]))] (fun (r : Int32) (u : Unit) => r = (-1)) (fun _ => [(tx, .inr (7, [.ref bys, .int 0, .int 0, .int sta, .int 0, .int nu, .ref wo, .ref fs, .ref sc, .int fi, .int gl, .int ste]))]) 0 0 := by
  refine kw_Mi.of (cc := cX7_wordHere) (maxL := 1) (ret := (some .int)) (by decide) rfl ?_
  intro pZ eZ s mZ beZ meZ cZ A hE
  obtain ⟨hx, hb, hr, hml, hts, hown, hlocks, hin, hA, hP, hD, hK, hN⟩ := hE
  have hS : va_S A s.heap s.heap [] := va_S.rf
  have hl := lv_entry ([.ref tx]) (n := 1) (Nat.le_of_ble_eq_true rfl)
  rw [lg_entry_eq]
  generalize (lg_sl ([.ref tx]) ++ List.replicate (1 - (lg_sl ([.ref tx])).length) Slot.unset).toArray = ls at hl ⊢
  have hl : lv_has ls 1 [(0, .ref tx)] := hl
  have fw1 := hts (.fieldLink RX7 44 "GleanDusk$Text" "token" "I") (List.mem_of_getElem? (i := 1) rfl)
  have i7 : ∀ w ∈ wsX70, w ∈ wsX7_wordHere := fun _ h => List.mem_cons_of_mem _ (List.mem_append_right _ h)
  refine lv_aload_n hx hb dX7_wordHere_0 rfl (lv_at hl 0 rfl) ?_
  refine va_get (D := D) (ci := 7) (v := .int 0) (C := RX7) (T := TX7) (N := 12) hx hb hts i7 hown hK hP 0 rfl rfl 2 (by decide) fw1 (fun _ h9 => h9) rfl dX7_wordHere_1 ?_
  refine lv_iconst (v := 1) hx hb dX7_wordHere_4 (by decide) ?_
  refine lv_icmp_eq (tgt := 10) hx hb dX7_wordHere_5 (by decide) (fun h9 => absurd h9 (by decide)) (fun _ => ?_)
  refine lv_iconst (v := (-1)) hx hb dX7_wordHere_8 (by decide) ?_
  exact W.iret (v := (-1)) hx hb hr (fun tZ ht hW => ⟨⟨(-1), (), rfl, rfl, by rw [ht]; exact hP.sub [0] rfl, hD.sub [0] (by decide) rfl⟩, hS.F ht⟩) hS.2.2 dX7_wordHere_9

set_option maxHeartbeats 4000000 in
set_option maxRecDepth 100000 in
theorem ct_isItem (l : Launch) (D : va_G) (y : Nat → ClassId) (tx : Nat) (bys : Nat) (wo : Nat) (fs : Nat) (sc : Nat) (i : Int32) (sta : Int32) (nu : Int32) (fi : Int32) (gl : Int32) (ste : Int32) : kw_Mi l yX7_isItem wsX7_isItem ({ frames := 2, cells := 0, slots := 0, locals := 60 }) D y [.ref tx, .int i] [(tx, .inr (7, [.ref bys, .int 0, .int 0, .int sta, .int 0, .int nu, .ref wo, .ref fs, .ref sc, .int fi, .int gl, .int ste]))] (fun (r : Int32) (u : Unit) => r = 0) (fun _ => [(tx, .inr (7, [.ref bys, .int 0, .int 0, .int sta, .int 0, .int nu, .ref wo, .ref fs, .ref sc, .int fi, .int gl, .int ste]))]) 0 0 := by
  refine kw_Mi.of (cc := cX7_isItem) (maxL := 4) (ret := (some .boolean)) (by decide) rfl ?_
  intro pZ eZ s mZ beZ meZ cZ A hE
  obtain ⟨hx, hb, hr, hml, hts, hown, hlocks, hin, hA, hP, hD, hK, hN⟩ := hE
  have hS : va_S A s.heap s.heap [] := va_S.rf
  have hl := lv_entry ([.ref tx, .int i]) (n := 4) (Nat.le_of_ble_eq_true rfl)
  rw [lg_entry_eq]
  generalize (lg_sl ([.ref tx, .int i]) ++ List.replicate (4 - (lg_sl ([.ref tx, .int i])).length) Slot.unset).toArray = ls at hl ⊢
  have hl : lv_has ls 4 [(0, .ref tx), (1, .int i)] := hl
  refine lv_aload_n hx hb dX7_isItem_0 rfl (lv_at hl 0 rfl) ?_
  have hs1 : kw_Split [(tx, .inr (7, [.ref bys, .int 0, .int 0, .int sta, .int 0, .int nu, .ref wo, .ref fs, .ref sc, .int fi, .int gl, .int ste]))] [(tx, .inr (7, [.ref bys, .int 0, .int 0, .int sta, .int 0, .int nu, .ref wo, .ref fs, .ref sc, .int fi, .int gl, .int ste]))] [] [0] [] := ⟨rfl, rfl, rfl, rfl, rfl, by decide⟩
  refine kw_go_i hs1 hP hD hS hA (va_runV (As := []) (rest := []) ⟨hx, hb, hml, hown, hts⟩ (ct_wordHere l D y tx bys wo fs sc sta nu fi gl ste  _) (cwV 0 hts gX7_isItem_X7_wordHere rfl rfl rfl (by decide +kernel) ⟨Nat.le_of_ble_eq_true rfl, Nat.le_of_ble_eq_true rfl⟩) (kw_PreV (ci := 7) (q0 := 0) hs1 hP hD hK hN rfl rfl) rfl rfl hl.1 rfl (lv_room (Nat.le_of_ble_eq_true rfl)) dX7_isItem_1 ⟨Nat.le_of_ble_eq_true rfl, Nat.le_of_ble_eq_true rfl⟩) (fun r u H locs hq hP hD hS => ?_)
  obtain rfl := hq
  have hP : va_P D vwCl [(tx, .inr (7, [.ref bys, .int 0, .int 0, .int sta, .int 0, .int nu, .ref wo, .ref fs, .ref sc, .int fi, .int gl, .int ste]))] H := hP
  have hD : va_D A [(tx, .inr (7, [.ref bys, .int 0, .int 0, .int sta, .int 0, .int nu, .ref wo, .ref fs, .ref sc, .int fi, .int gl, .int ste]))] := hD
  refine lv_istore_n (lv' := [(2, .int (-1)), (0, .ref tx), (1, .int i)]) hx hb dX7_isItem_4 rfl hl (by decide) rfl (fun ls hl => ?_)
  refine lv_iload_n hx hb dX7_isItem_5 rfl (lv_at hl 0 rfl) ?_
  refine lv_iconst (v := (-1)) hx hb dX7_isItem_6 (by decide) ?_
  refine lv_icmp_eq (tgt := 31) hx hb dX7_isItem_7 (by decide) (fun _ => ?_) (fun h9 => absurd h9 (by decide))
  refine lv_iconst (v := 0) hx hb dX7_isItem_31 (by decide) ?_
  exact W.zret (v := 0) hx hb hr (by decide) (fun tZ ht hW => ⟨⟨0, (), rfl, rfl, by rw [ht]; exact hP.sub [0] rfl, hD.sub [0] (by decide) rfl⟩, hS.F ht⟩) hS.2.2 dX7_isItem_32

set_option maxHeartbeats 4000000 in
set_option maxRecDepth 100000 in
theorem ct_parse (l : Launch) (D : va_G) (y : Nat → ClassId) (tx : Nat) (bys : Nat) (wo : Nat) (fs : Nat) (sc : Nat) : kw_Mi l yX7_parse wsX7_parse ({ frames := 3, cells := 0, slots := 0, locals := 83 }) D y [.ref tx] [(tx, .inr (7, [.ref bys, .int 0, .int 0, .int 0, .int 0, .int 0, .ref wo, .ref fs, .ref sc, .int 0, .int 0, .int 0]))] (fun (r : Int32) (u : Unit) => r = (-10)) (fun _ => []) 0 0 := by
  refine kw_Mi.of (cc := cX7_parse) (maxL := 2) (ret := (some .int)) (by decide) rfl ?_
  intro pZ eZ s mZ beZ meZ cZ A hE
  obtain ⟨hx, hb, hr, hml, hts, hown, hlocks, hin, hA, hP, hD, hK, hN⟩ := hE
  have hS : va_S A s.heap s.heap [] := va_S.rf
  have hl := lv_entry ([.ref tx]) (n := 2) (Nat.le_of_ble_eq_true rfl)
  rw [lg_entry_eq]
  generalize (lg_sl ([.ref tx]) ++ List.replicate (2 - (lg_sl ([.ref tx])).length) Slot.unset).toArray = ls at hl ⊢
  have hl : lv_has ls 2 [(0, .ref tx)] := hl
  have fw1 := hts (.fieldLink RX7 29 "GleanDusk$Text" "end" "I") (List.mem_of_getElem? (i := 1) rfl)
  have fw2 := hts (.fieldLink RX7 32 "GleanDusk$Text" "fields" "I") (List.mem_of_getElem? (i := 2) rfl)
  have fw3 := hts (.fieldLink RX7 35 "GleanDusk$Text" "gleaners" "I") (List.mem_of_getElem? (i := 3) rfl)
  have fw4 := hts (.fieldLink RX7 38 "GleanDusk$Text" "steps" "I") (List.mem_of_getElem? (i := 4) rfl)
  have fw5 := hts (.fieldLink RX7 44 "GleanDusk$Text" "token" "I") (List.mem_of_getElem? (i := 5) rfl)
  have fw6 := hts (.fieldLink RX7 51 "GleanDusk$Text" "start" "I") (List.mem_of_getElem? (i := 6) rfl)
  have i7 : ∀ w ∈ wsX70, w ∈ wsX7_parse := fun _ h => List.mem_cons_of_mem _ (List.mem_append_right _ h)
  refine lv_aload_n hx hb dX7_parse_0 rfl (lv_at hl 0 rfl) ?_
  refine lv_iconst (v := 0) hx hb dX7_parse_1 (by decide) ?_
  refine va_put (D := D) (ci := 7) (v := .int 0) (ty := .int) (C := RX7) (T := TX7) (N := 12) hx hb hts i7 tyX7 tyX7_ok nmX7 hown hK hP hD hS 0 rfl rfl 4 (by decide) fw1 (fun _ h9 => h9) rfl (by decide +kernel) rfl rfl (Nat.le_of_ble_eq_true rfl) dX7_parse_2 (fun H locs hP hD hS => ?_)
  have hP : va_P D vwCl [(tx, .inr (7, [.ref bys, .int 0, .int 0, .int 0, .int 0, .int 0, .ref wo, .ref fs, .ref sc, .int 0, .int 0, .int 0]))] H := hP
  have hD : va_D A [(tx, .inr (7, [.ref bys, .int 0, .int 0, .int 0, .int 0, .int 0, .ref wo, .ref fs, .ref sc, .int 0, .int 0, .int 0]))] := hD
  refine lv_aload_n hx hb dX7_parse_5 rfl (lv_at hl 0 rfl) ?_
  refine lv_iconst (v := 0) hx hb dX7_parse_6 (by decide) ?_
  refine va_put (D := D) (ci := 7) (v := .int 0) (ty := .int) (C := RX7) (T := TX7) (N := 12) hx hb hts i7 tyX7 tyX7_ok nmX7 hown hK hP hD hS 0 rfl rfl 9 (by decide) fw2 (fun _ h9 => h9) rfl (by decide +kernel) rfl rfl (Nat.le_of_ble_eq_true rfl) dX7_parse_7 (fun H locs hP hD hS => ?_)
  have hP : va_P D vwCl [(tx, .inr (7, [.ref bys, .int 0, .int 0, .int 0, .int 0, .int 0, .ref wo, .ref fs, .ref sc, .int 0, .int 0, .int 0]))] H := hP
  have hD : va_D A [(tx, .inr (7, [.ref bys, .int 0, .int 0, .int 0, .int 0, .int 0, .ref wo, .ref fs, .ref sc, .int 0, .int 0, .int 0]))] := hD
  refine lv_aload_n hx hb dX7_parse_10 rfl (lv_at hl 0 rfl) ?_
  refine lv_iconst (v := 0) hx hb dX7_parse_11 (by decide) ?_
  refine va_put (D := D) (ci := 7) (v := .int 0) (ty := .int) (C := RX7) (T := TX7) (N := 12) hx hb hts i7 tyX7 tyX7_ok nmX7 hown hK hP hD hS 0 rfl rfl 10 (by decide) fw3 (fun _ h9 => h9) rfl (by decide +kernel) rfl rfl (Nat.le_of_ble_eq_true rfl) dX7_parse_12 (fun H locs hP hD hS => ?_)
  have hP : va_P D vwCl [(tx, .inr (7, [.ref bys, .int 0, .int 0, .int 0, .int 0, .int 0, .ref wo, .ref fs, .ref sc, .int 0, .int 0, .int 0]))] H := hP
  have hD : va_D A [(tx, .inr (7, [.ref bys, .int 0, .int 0, .int 0, .int 0, .int 0, .ref wo, .ref fs, .ref sc, .int 0, .int 0, .int 0]))] := hD
  refine lv_aload_n hx hb dX7_parse_15 rfl (lv_at hl 0 rfl) ?_
  refine lv_bipush (v := 12) hx hb dX7_parse_16 (by decide) ?_
  refine va_put (D := D) (ci := 7) (v := .int 12) (ty := .int) (C := RX7) (T := TX7) (N := 12) hx hb hts i7 tyX7 tyX7_ok nmX7 hown hK hP hD hS 0 rfl rfl 11 (by decide) fw4 (fun _ h9 => h9) rfl (by decide +kernel) rfl rfl (Nat.le_of_ble_eq_true rfl) dX7_parse_18 (fun H locs hP hD hS => ?_)
  have hP : va_P D vwCl [(tx, .inr (7, [.ref bys, .int 0, .int 0, .int 0, .int 0, .int 0, .ref wo, .ref fs, .ref sc, .int 0, .int 0, .int 12]))] H := hP
  have hD : va_D A [(tx, .inr (7, [.ref bys, .int 0, .int 0, .int 0, .int 0, .int 0, .ref wo, .ref fs, .ref sc, .int 0, .int 0, .int 12]))] := hD
  refine lv_iconst (v := 0) hx hb dX7_parse_21 (by decide) ?_
  refine lv_istore_n (lv' := [(1, .int 0), (0, .ref tx)]) hx hb dX7_parse_22 rfl hl (by decide) rfl (fun ls hl => ?_)
  refine lv_iload_n hx hb dX7_parse_23 rfl (lv_at hl 0 rfl) ?_
  refine lv_bipush (v := 25) hx hb dX7_parse_24 (by decide) ?_
  refine lv_icmp_ge (tgt := 78) hx hb dX7_parse_26 (by decide) (fun h9 => absurd h9 (by decide)) (fun _ => ?_)
  refine lv_aload_n hx hb dX7_parse_29 rfl (lv_at hl 1 rfl) ?_
  have hs1 : kw_Split [(tx, .inr (7, [.ref bys, .int 0, .int 0, .int 0, .int 0, .int 0, .ref wo, .ref fs, .ref sc, .int 0, .int 0, .int 12]))] [(tx, .inr (7, [.ref bys, .int 0, .int 0, .int 0, .int 0, .int 0, .ref wo, .ref fs, .ref sc, .int 0, .int 0, .int 12]))] [] [0] [] := ⟨rfl, rfl, rfl, rfl, rfl, by decide⟩
  refine kw_go_v hs1 hP hD hS hA (va_runV (As := []) (rest := []) ⟨hx, hb, hml, hown, hts⟩ (ct_advance l D y tx bys wo fs sc 0 0 0 0 0 12  _) (cwV 0 hts gX7_parse_X7_advance rfl rfl rfl (by decide +kernel) ⟨Nat.le_of_ble_eq_true rfl, Nat.le_of_ble_eq_true rfl⟩) (kw_PreV (ci := 7) (q0 := 0) hs1 hP hD hK hN rfl rfl) rfl rfl hl.1 rfl (lv_room (Nat.le_of_ble_eq_true rfl)) dX7_parse_30 ⟨Nat.le_of_ble_eq_true rfl, Nat.le_of_ble_eq_true rfl⟩) (fun u H locs hq hP hD hS => ?_)
  obtain - := hq
  have hP : va_P D vwCl [(tx, .inr (7, [.ref bys, .int 0, .int 0, .int 0, .int 0, .int 0, .ref wo, .ref fs, .ref sc, .int 0, .int 0, .int 12]))] H := hP
  have hD : va_D A [(tx, .inr (7, [.ref bys, .int 0, .int 0, .int 0, .int 0, .int 0, .ref wo, .ref fs, .ref sc, .int 0, .int 0, .int 12]))] := hD
  refine lv_aload_n hx hb dX7_parse_33 rfl (lv_at hl 1 rfl) ?_
  refine va_get (D := D) (ci := 7) (v := .int 0) (C := RX7) (T := TX7) (N := 12) hx hb hts i7 hown hK hP 0 rfl rfl 2 (by decide) fw5 (fun _ h9 => h9) rfl dX7_parse_34 ?_
  refine lv_if_ne (tgt := 46) hx hb dX7_parse_37 (by decide) (fun h9 => absurd h9 (by decide)) (fun _ => ?_)
  refine lv_iload_n hx hb dX7_parse_40 rfl (lv_at hl 0 rfl) ?_
  refine lv_if_le (tgt := 46) hx hb dX7_parse_41 (by decide) (fun _ => ?_) (fun h9 => absurd h9 (by decide))
  refine lv_aload_n hx hb dX7_parse_46 rfl (lv_at hl 1 rfl) ?_
  refine lv_iload_n hx hb dX7_parse_47 rfl (lv_at hl 0 rfl) ?_
  have hs2 : kw_Split [(tx, .inr (7, [.ref bys, .int 0, .int 0, .int 0, .int 0, .int 0, .ref wo, .ref fs, .ref sc, .int 0, .int 0, .int 12]))] [(tx, .inr (7, [.ref bys, .int 0, .int 0, .int 0, .int 0, .int 0, .ref wo, .ref fs, .ref sc, .int 0, .int 0, .int 12]))] [] [0] [] := ⟨rfl, rfl, rfl, rfl, rfl, by decide⟩
  refine kw_go_i hs2 hP hD hS hA (va_runV (As := [.int 0]) (rest := []) ⟨hx, hb, hml, hown, hts⟩ (ct_isItem l D y tx bys wo fs sc 0 0 0 0 0 12  _) (cwV 1 hts gX7_parse_X7_isItem rfl rfl rfl (by decide +kernel) ⟨Nat.le_of_ble_eq_true rfl, Nat.le_of_ble_eq_true rfl⟩) (kw_PreV (ci := 7) (q0 := 0) hs2 hP hD hK hN rfl rfl) rfl rfl hl.1 rfl (lv_room (Nat.le_of_ble_eq_true rfl)) dX7_parse_48 ⟨Nat.le_of_ble_eq_true rfl, Nat.le_of_ble_eq_true rfl⟩) (fun r u H locs hq hP hD hS => ?_)
  obtain rfl := hq
  have hP : va_P D vwCl [(tx, .inr (7, [.ref bys, .int 0, .int 0, .int 0, .int 0, .int 0, .ref wo, .ref fs, .ref sc, .int 0, .int 0, .int 12]))] H := hP
  have hD : va_D A [(tx, .inr (7, [.ref bys, .int 0, .int 0, .int 0, .int 0, .int 0, .ref wo, .ref fs, .ref sc, .int 0, .int 0, .int 12]))] := hD
  refine lv_if_ne (tgt := 57) hx hb dX7_parse_51 (by decide) (fun h9 => absurd h9 (by decide)) (fun _ => ?_)
  refine lv_goto (tgt := 78) hx hb dX7_parse_54 (by decide) ?_
  refine lv_bipush (v := (-10)) hx hb dX7_parse_78 (by decide) ?_
  refine lv_aload_n hx hb dX7_parse_80 rfl (lv_at hl 1 rfl) ?_
  refine va_get (D := D) (ci := 7) (v := .int 0) (C := RX7) (T := TX7) (N := 12) hx hb hts i7 hown hK hP 0 rfl rfl 3 (by decide) fw6 (fun _ h9 => h9) rfl dX7_parse_81 ?_
  refine lv_isub hx hb dX7_parse_84 ?_
  refine lv_topi (fun z3 hz3 => ?_)
  obtain rfl : z3 = (-10) := hz3.trans (by first | rfl | decide | (simp [upd]; done))
  exact W.iret (v := (-10)) hx hb hr (fun tZ ht hW => ⟨⟨(-10), (), rfl, rfl, by rw [ht]; exact hP.sub [] rfl, hD.sub [] (by decide) rfl⟩, hS.F ht⟩) hS.2.2 dX7_parse_85

set_option maxHeartbeats 4000000 in
set_option maxRecDepth 100000 in
theorem ct_mix (l : Launch) (D : va_G) (y : Nat → ClassId) (h : Int64) (v : Int64) : kw_Ml l yX10_mix wsX10_mix ({ frames := 1, cells := 0, slots := 0, locals := 40 }) D y [.long h, .long v] [] (fun (r : Int64) (u : Unit) => r = ((31 * h) + v)) (fun _ => []) 0 0 := by
  refine kw_Ml.of (cc := cX10_mix) (maxL := 4) (ret := (some .long)) (by decide) rfl ?_
  intro pZ eZ s mZ beZ meZ cZ A hE
  obtain ⟨hx, hb, hr, hml, hts, hown, hlocks, hin, hA, hP, hD, hK, hN⟩ := hE
  have hS : va_S A s.heap s.heap [] := va_S.rf
  have hl := lv_entry ([.long h, .long v]) (n := 4) (Nat.le_of_ble_eq_true rfl)
  rw [lg_entry_eq]
  generalize (lg_sl ([.long h, .long v]) ++ List.replicate (4 - (lg_sl ([.long h, .long v])).length) Slot.unset).toArray = ls at hl ⊢
  have hl : lv_has ls 4 [(0, .long h), (2, .long v)] := hl
  have fw1 := hts (.constantLong RX10 303 (31)) (List.mem_of_getElem? (i := 1) rfl)
  refine lv_ldc2 (v := 31) hx hb hown fw1 dX10_mix_0 ?_
  refine lv_lload_n hx hb dX10_mix_3 rfl (lv_at hl 0 rfl) ?_
  refine lv_lmul hx hb dX10_mix_4 ?_
  refine lv_lload_n hx hb dX10_mix_5 rfl (lv_at hl 1 rfl) ?_
  refine lv_ladd hx hb dX10_mix_6 ?_
  exact W.lret (v := ((31 * h) + v)) hx hb hr (fun tZ ht hW => ⟨⟨((31 * h) + v), (), rfl, rfl, by rw [ht]; exact hP.sub [] rfl, hD.sub [] (by decide) rfl⟩, hS.F ht⟩) hS.2.2 dX10_mix_7

set_option maxHeartbeats 4000000 in
set_option maxRecDepth 100000 in
theorem ct_showAll (l : Launch) (D : va_G) (y : Nat → ClassId) (g : Nat) (kk : Nat) (nw : Nat) (im : Nat) (kp : Nat) (tx : Nat) (tr : Nat) (be : Nat) (sh : Nat) (sd : Nat) (rf : Nat) (nk : Nat) (nd : Nat) (ne : Nat) (nm : Nat) (nn : Nat) (t : Int32) : kw_Mv l yX10_showAll wsX10_showAll ({ frames := 1, cells := 0, slots := 0, locals := 40 }) D y [.ref g, .int t] [(g, .inr (10, [.ref kk, .ref nw, .ref im, .ref kp, .ref tx, .ref tr, .ref be, .ref sh, .ref sd, .ref rf, .int 0, .int 1])), (nw, .inr (4, [.ref kk, .ref nk, .ref nd, .ref ne, .ref nm, .ref nn, .int 0, .int 0, .int 0, .int 0, .int 0]))] (fun (u : Unit) => True) (fun _ => [(g, .inr (10, [.ref kk, .ref nw, .ref im, .ref kp, .ref tx, .ref tr, .ref be, .ref sh, .ref sd, .ref rf, .int 0, .int 1])), (nw, .inr (4, [.ref kk, .ref nk, .ref nd, .ref ne, .ref nm, .ref nn, .int 0, .int 0, .int 0, .int 0, .int 0]))]) 0 0 := by
  refine kw_Mv.of (cc := cX10_showAll) (maxL := 3) (ret := none) (by decide) rfl ?_
  intro pZ eZ s mZ beZ meZ cZ A hE
  obtain ⟨hx, hb, hr, hml, hts, hown, hlocks, hin, hA, hP, hD, hK, hN⟩ := hE
  have hS : va_S A s.heap s.heap [] := va_S.rf
  have hl := lv_entry ([.ref g, .int t]) (n := 3) (Nat.le_of_ble_eq_true rfl)
  rw [lg_entry_eq]
  generalize (lg_sl ([.ref g, .int t]) ++ List.replicate (3 - (lg_sl ([.ref g, .int t])).length) Slot.unset).toArray = ls at hl ⊢
  have hl : lv_has ls 3 [(0, .ref g), (1, .int t)] := hl
  have fw1 := hts (.fieldLink RX10 36 "GleanDusk" "now" "LGleanDusk$Parish;") (List.mem_of_getElem? (i := 1) rfl)
  have fw2 := hts (.fieldLink RX10 94 "GleanDusk$Parish" "fields" "I") (List.mem_of_getElem? (i := 2) rfl)
  have i10 : ∀ w ∈ wsX100, w ∈ wsX10_showAll := fun _ h => List.mem_cons_of_mem _ (List.mem_append_left _ (List.mem_append_left _ (List.mem_append_right _ h)))
  have i4 : ∀ w ∈ wsX40, w ∈ wsX10_showAll := fun _ h => List.mem_cons_of_mem _ (List.mem_append_left _ (List.mem_append_right _ h))
  refine lv_iconst (v := 0) hx hb dX10_showAll_0 (by decide) ?_
  refine lv_istore_n (lv' := [(2, .int 0), (0, .ref g), (1, .int t)]) hx hb dX10_showAll_1 rfl hl (by decide) rfl (fun ls hl => ?_)
  refine lv_iload_n hx hb dX10_showAll_2 rfl (lv_at hl 0 rfl) ?_
  refine lv_aload_n hx hb dX10_showAll_3 rfl (lv_at hl 1 rfl) ?_
  refine va_get (D := D) (ci := 10) (v := .ref nw) (C := RX10) (T := TX10) (N := 12) hx hb hts i10 hown hK hP 0 rfl rfl 1 (by decide) fw1 (fun _ h9 => h9) rfl dX10_showAll_4 ?_
  refine va_get (D := D) (ci := 4) (v := .int 0) (C := RX4) (T := TX4) (N := 11) hx hb hts i4 hown hK hP 1 rfl rfl 6 (by decide) fw2 (fun _ h9 => h9) rfl dX10_showAll_7 ?_
  refine lv_icmp_ge (tgt := 41) hx hb dX10_showAll_10 (by decide) (fun _ => ?_) (fun h9 => absurd h9 (by decide))
  exact W.vret hx hb hr (fun tZ ht hW => ⟨⟨(), rfl, trivial, by rw [ht]; exact hP.sub [0, 1] rfl, hD.sub [0, 1] (by decide) rfl⟩, hS.F ht⟩) hS.2.2 dX10_showAll_41
