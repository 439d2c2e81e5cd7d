set_option maxHeartbeats 4000000 in
set_option maxRecDepth 100000 in
theorem gc_give (l : Launch) (D : va_G) (y : Nat → ClassId) (nw : Nat) (kk : Nat) (nk : Nat) (nd : Nat) (ne : Nat) (nm : Nat) (nn : Nat) (fi : Nat) (gl : Nat) (un : Nat) (mi : Nat) (no : Nat) (d : Nat) (dl : Nat) (da : Nat) (ds : Nat) (dst : Int32) (dcl : Int32) (dnu : Int32) (dfl : Nat → Int32) (dfa : Nat → Int32) (dfs : Nat → Int32) (k : Nat) (x : Int32) (hfi : fi ≤ 6) (hgl : gl ≤ 5) (hun : un ≤ 8) (hmi : mi ≤ 4) (hno : no ≤ 6) (hda : kw_bd 6 5 dfa) (hkk : k < 6) : kw_Mi l yX4_give wsX4_give ({ frames := 1, cells := 0, slots := 0, locals := 60 }) D y [.ref nw, .ref d, .int (nI k), .int x] [(nw, .inr (4, [.ref kk, .ref nk, .ref nd, .ref ne, .ref nm, .ref nn, .int (nI fi), .int (nI gl), .int (nI un), .int (nI mi), .int (nI no)])), (d, .inr (1, [.ref dl, .ref da, .ref ds, .int dst, .int dcl, .int dnu])), (dl, .inl (y 0, 6, .inl dfl)), (da, .inl (y 0, 5, .inl dfa)), (ds, .inl (y 0, 5, .inl dfs))] (fun (r : Int32) (u : (Nat → Int32) × (Nat → Int32)) => True) (fun u => [(nw, .inr (4, [.ref kk, .ref nk, .ref nd, .ref ne, .ref nm, .ref nn, .int (nI fi), .int (nI gl), .int (nI un), .int (nI mi), .int (nI no)])), (d, .inr (1, [.ref dl, .ref da, .ref ds, .int dst, .int dcl, .int dnu])), (dl, .inl (y 0, 6, .inl u.1)), (da, .inl (y 0, 5, .inl dfa)), (ds, .inl (y 0, 5, .inl u.2))]) 0 0 := by
  refine kw_Mi.of (cc := cX4_give) (maxL := 6) (ret := (some .int)) (by decide) rfl ?_
  intro pZ eZ s mZ beZ meZ cZ A hE
  obtain ⟨hx, hb, hr, hml, hts, hown, hlocks, hin, hA, hP, hD, hK, hN⟩ := hE
  have hS : va_S A s.heap s.heap [] := va_S.rf
  have hl := lv_entry ([.ref nw, .ref d, .int (nI k), .int x]) (n := 6) (Nat.le_of_ble_eq_true rfl)
  rw [lg_entry_eq]
  generalize (lg_sl ([.ref nw, .ref d, .int (nI k), .int x]) ++ List.replicate (6 - (lg_sl ([.ref nw, .ref d, .int (nI k), .int x])).length) Slot.unset).toArray = ls at hl ⊢
  have hl : lv_has ls 6 [(0, .ref nw), (1, .ref d), (2, .int (nI k)), (3, .int x)] := hl
  have fw1 := hts (.fieldLink RX4 42 "GleanDusk$Parish" "gleaners" "I") (List.mem_of_getElem? (i := 1) rfl)
  have fw2 := hts (.fieldLink RX4 77 "GleanDusk$Dusk" "light" "[I") (List.mem_of_getElem? (i := 8) rfl)
  have fw3 := hts (.methodLink RX4 115 Lib.Math.max.name) (List.mem_of_getElem? (i := 9) rfl)
  have fw4 := hts (.static Lib.Math.max.name) (List.mem_of_getElem? (i := 10) rfl)
  have fw5 := hts (.initialized "java/lang/Math") (List.mem_of_getElem? (i := 6) rfl)
  have fw6 := hts (.code Lib.Math.max.name Lib.Math.max.code 2 (some .int)) (List.mem_of_getElem? (i := 11) rfl)
  have fw7 := hts (.fieldLink RX4 80 "GleanDusk$Dusk" "at" "[I") (List.mem_of_getElem? (i := 2) rfl)
  have fw8 := hts (.fieldLink RX4 83 "GleanDusk$Dusk" "store" "[I") (List.mem_of_getElem? (i := 3) rfl)
  have fw9 := hts (.methodLink RX4 109 Lib.Math.min.name) (List.mem_of_getElem? (i := 4) rfl)
  have fw10 := hts (.static Lib.Math.min.name) (List.mem_of_getElem? (i := 5) rfl)
  have fw11 := hts (.code Lib.Math.min.name Lib.Math.min.code 2 (some .int)) (List.mem_of_getElem? (i := 7) rfl)
  have iw4 : ∀ w ∈ wsX40, w ∈ wsX4_give := fun _ h => List.mem_cons_of_mem _ (List.mem_append_left _ (List.mem_append_right _ h))
  have iw1 : ∀ w ∈ wsX10, w ∈ wsX4_give := fun _ h => List.mem_cons_of_mem _ (List.mem_append_right _ h)
  refine lv_iconst (v := 0) hx hb dX4_give_0 (by decide) ?_
  refine lv_istore (lv' := [(4, .int 0), (0, .ref nw), (1, .ref d), (2, .int (nI k)), (3, .int x)]) hx hb dX4_give_1 hl (by decide) rfl (fun ls hl => ?_)
  refine lv_iconst (v := 0) hx hb dX4_give_3 (by decide) ?_
  refine lv_istore (lv' := [(5, .int 0), (4, .int 0), (0, .ref nw), (1, .ref d), (2, .int (nI k)), (3, .int x)]) hx hb dX4_give_4 hl (by decide) rfl (fun ls hl => ?_)
  have lp17 : ∀ (fuj91 j91 : Nat) (x8 : Int32) (x9 : Nat → Int32) (H : Heap) (locs : List Loc) (ls : Array Slot), j91 ≤ gl → gl - j91 < fuj91 → va_P D vwCl [(nw, .inr (4, [.ref kk, .ref nk, .ref nd, .ref ne, .ref nm, .ref nn, .int (nI fi), .int (nI gl), .int (nI un), .int (nI mi), .int (nI no)])), (d, .inr (1, [.ref dl, .ref da, .ref ds, .int dst, .int dcl, .int dnu])), (dl, .inl (y 0, 6, .inl dfl)), (da, .inl (y 0, 5, .inl dfa)), (ds, .inl (y 0, 5, .inl x9))] H → va_D A [(nw, .inr (4, [.ref kk, .ref nk, .ref nd, .ref ne, .ref nm, .ref nn, .int (nI fi), .int (nI gl), .int (nI un), .int (nI mi), .int (nI no)])), (d, .inr (1, [.ref dl, .ref da, .ref ds, .int dst, .int dcl, .int dnu])), (dl, .inl (y 0, 6, .inl dfl)), (da, .inl (y 0, 5, .inl dfa)), (ds, .inl (y 0, 5, .inl x9))] → va_S A s.heap H locs → lv_has ls 6 [(5, .int (nI j91)), (4, .int x8), (0, .ref nw), (1, .ref d), (2, .int (nI k)), (3, .int x)] → W pZ l eZ ({ frames := 1, cells := 0, slots := 0, locals := 60 }) s mZ [.ref nw, .ref d, .int (nI k), .int x].toArray beZ meZ cZ H locs 0 0 (MQ beZ (va_Qi (fun (r : Int32) (u : (Nat → Int32) × (Nat → Int32)) => True) (kw_B D (fun u => [(nw, .inr (4, [.ref kk, .ref nk, .ref nd, .ref ne, .ref nm, .ref nn, .int (nI fi), .int (nI gl), .int (nI un), .int (nI mi), .int (nI no)])), (d, .inr (1, [.ref dl, .ref da, .ref ds, .int dst, .int dcl, .int dnu])), (dl, .inl (y 0, 6, .inl u.1)), (da, .inl (y 0, 5, .inl dfa)), (ds, .inl (y 0, 5, .inl u.2))]) A) A) [.ref nw, .ref d, .int (nI k), .int x].toArray s 0 0 A) (F0 mZ 6 ls []) := by
    intro fuj91
    induction fuj91 with
    | zero => intro j91 x8 x9 H locs ls hj9 hf9; exact absurd hf9 (Nat.not_lt_zero _)
    | succ fuj91 ihj91 =>
      intro j91 x8 x9 H locs ls hj91 hfj91  hP hD hS hl
      refine lv_iload hx hb dX4_give_6 (lv_at hl 0 rfl) ?_
      refine lv_aload_n hx hb dX4_give_8 rfl (lv_at hl 2 rfl) ?_
      refine va_get (D := D) (ci := 4) (v := .int (nI gl)) (C := RX4) (T := TX4) (N := 11) hx hb hts iw4 hown hK hP 0 rfl rfl 7 (by decide) fw1 (fun _ h9 => h9) rfl dX4_give_9 ?_
      refine lv_icmp_ge (tgt := 63) hx hb dX4_give_12 (by decide) (fun h18 => ?_) (fun h19 => ?_)
      · skip
        have h18 : gl ≤ j91 := (nI_leI (a := gl) (b := j91) (by omega) (by omega)).mp h18
        refine lv_aload_n hx hb dX4_give_63 rfl (lv_at hl 3 rfl) ?_
        refine va_get (D := D) (ci := 1) (v := .ref dl) (C := RX1) (T := TX1) (N := 6) hx hb hts iw1 hown hK hP 1 rfl rfl 0 (by decide) fw2 (fun _ h9 => h9) rfl dX4_give_64 ?_
        refine lv_iload_n hx hb dX4_give_67 rfl (lv_at hl 4 rfl) ?_
        refine lv_iconst (v := 0) hx hb dX4_give_68 (by decide) ?_
        refine lv_aload_n hx hb dX4_give_69 rfl (lv_at hl 3 rfl) ?_
        refine va_get (D := D) (ci := 1) (v := .ref dl) (C := RX1) (T := TX1) (N := 6) hx hb hts iw1 hown hK hP 1 rfl rfl 0 (by decide) fw2 (fun _ h9 => h9) rfl dX4_give_70 ?_
        refine lv_iload_n hx hb dX4_give_73 rfl (lv_at hl 4 rfl) ?_
        refine va_iald hx hb hK hP 2 0 rfl rfl (vp_in_nI (by omega) (by decide)) dX4_give_74 ?_
        rw [nI_clamp (n := k) (by omega)]
        refine lv_iload hx hb dX4_give_75 (lv_at hl 1 rfl) ?_
        refine lv_isub hx hb dX4_give_77 ?_
        refine va_mmax hx hb (hml.trans hl.1.symm) hown fw3 fw4 fw5 fw6 (Nat.le_of_ble_eq_true rfl) (Nat.le_of_ble_eq_true rfl) (Nat.le_of_ble_eq_true rfl) (Nat.le_of_ble_eq_true rfl) dX4_give_78 ?_
        refine va_iast hx hb hK hP hD hS 2 0 rfl rfl (vp_in_nI (by omega) (by decide)) dX4_give_81 (fun H locs hP hD hS => ?_)
        rw [nI_clamp (n := k) (by omega)] at hP hD
        have hP : va_P D vwCl [(nw, .inr (4, [.ref kk, .ref nk, .ref nd, .ref ne, .ref nm, .ref nn, .int (nI fi), .int (nI gl), .int (nI un), .int (nI mi), .int (nI no)])), (d, .inr (1, [.ref dl, .ref da, .ref ds, .int dst, .int dcl, .int dnu])), (dl, .inl (y 0, 6, .inl (upd dfl k (if 0 < ((dfl k) - x8) then ((dfl k) - x8) else 0)))), (da, .inl (y 0, 5, .inl dfa)), (ds, .inl (y 0, 5, .inl x9))] H := hP
        have hD : va_D A [(nw, .inr (4, [.ref kk, .ref nk, .ref nd, .ref ne, .ref nm, .ref nn, .int (nI fi), .int (nI gl), .int (nI un), .int (nI mi), .int (nI no)])), (d, .inr (1, [.ref dl, .ref da, .ref ds, .int dst, .int dcl, .int dnu])), (dl, .inl (y 0, 6, .inl (upd dfl k (if 0 < ((dfl k) - x8) then ((dfl k) - x8) else 0)))), (da, .inl (y 0, 5, .inl dfa)), (ds, .inl (y 0, 5, .inl x9))] := hD
        refine lv_iload hx hb dX4_give_82 (lv_at hl 1 rfl) ?_
        exact W.iret (v := x8) hx hb hr (fun tZ ht hW => ⟨⟨x8, ((upd dfl k (if 0 < ((dfl k) - x8) then ((dfl k) - x8) else 0)), x9), rfl, trivial, by rw [ht]; exact hP.sub [0, 1, 2, 3, 4] rfl, hD.sub [0, 1, 2, 3, 4] (by decide) rfl⟩, hS.F ht⟩) hS.2.2 dX4_give_84
      · skip
        have h19 : ¬ gl ≤ j91 := fun q9 => h19 ((nI_leI (a := gl) (b := j91) (by omega) (by omega)).mpr q9)
        refine lv_aload_n hx hb dX4_give_15 rfl (lv_at hl 3 rfl) ?_
        refine va_get (D := D) (ci := 1) (v := .ref da) (C := RX1) (T := TX1) (N := 6) hx hb hts iw1 hown hK hP 1 rfl rfl 1 (by decide) fw7 (fun _ h9 => h9) rfl dX4_give_16 ?_
        refine lv_iload hx hb dX4_give_19 (lv_at hl 0 rfl) ?_
        refine va_iald hx hb hK hP 3 0 rfl rfl (vp_in_nI (by omega) (by decide)) dX4_give_21 ?_
        rw [nI_clamp (n := j91) (by omega)]
        obtain ⟨w20, h21, h22⟩ := kw_bdv hda (k := j91) (by omega) (by decide)
        rw [h22]
        refine lv_iload_n hx hb dX4_give_22 rfl (lv_at hl 4 rfl) ?_
        refine lv_icmp_eq (tgt := 29) hx hb dX4_give_23 (by decide) (fun h23 => ?_) (fun h24 => ?_)
        · skip
          have h23 : w20 = k := (nI_eq (a := w20) (b := k) (by omega) (by omega)).mp h23
          refine lv_aload_n hx hb dX4_give_29 rfl (lv_at hl 3 rfl) ?_
          refine va_get (D := D) (ci := 1) (v := .ref ds) (C := RX1) (T := TX1) (N := 6) hx hb hts iw1 hown hK hP 1 rfl rfl 2 (by decide) fw8 (fun _ h9 => h9) rfl dX4_give_30 ?_
          refine lv_iload hx hb dX4_give_33 (lv_at hl 0 rfl) ?_
          refine lv_sipush (v := 999) hx hb dX4_give_35 (by decide) ?_
          refine lv_aload_n hx hb dX4_give_38 rfl (lv_at hl 3 rfl) ?_
          refine va_get (D := D) (ci := 1) (v := .ref ds) (C := RX1) (T := TX1) (N := 6) hx hb hts iw1 hown hK hP 1 rfl rfl 2 (by decide) fw8 (fun _ h9 => h9) rfl dX4_give_39 ?_
          refine lv_iload hx hb dX4_give_42 (lv_at hl 0 rfl) ?_
          refine va_iald hx hb hK hP 4 0 rfl rfl (vp_in_nI (by omega) (by decide)) dX4_give_44 ?_
          rw [nI_clamp (n := j91) (by omega)]
          refine lv_iload_n hx hb dX4_give_45 rfl (lv_at hl 5 rfl) ?_
          refine lv_iadd hx hb dX4_give_46 ?_
          refine va_mmin hx hb (hml.trans hl.1.symm) hown fw9 fw10 fw5 fw11 (Nat.le_of_ble_eq_true rfl) (Nat.le_of_ble_eq_true rfl) (Nat.le_of_ble_eq_true rfl) (Nat.le_of_ble_eq_true rfl) dX4_give_47 ?_
          refine va_iast hx hb hK hP hD hS 4 0 rfl rfl (vp_in_nI (by omega) (by decide)) dX4_give_50 (fun H locs hP hD hS => ?_)
          rw [nI_clamp (n := j91) (by omega)] at hP hD
          have hP : va_P D vwCl [(nw, .inr (4, [.ref kk, .ref nk, .ref nd, .ref ne, .ref nm, .ref nn, .int (nI fi), .int (nI gl), .int (nI un), .int (nI mi), .int (nI no)])), (d, .inr (1, [.ref dl, .ref da, .ref ds, .int dst, .int dcl, .int dnu])), (dl, .inl (y 0, 6, .inl dfl)), (da, .inl (y 0, 5, .inl dfa)), (ds, .inl (y 0, 5, .inl (upd x9 j91 (if ((x9 j91) + x) < 999 then ((x9 j91) + x) else 999))))] H := hP
          have hD : va_D A [(nw, .inr (4, [.ref kk, .ref nk, .ref nd, .ref ne, .ref nm, .ref nn, .int (nI fi), .int (nI gl), .int (nI un), .int (nI mi), .int (nI no)])), (d, .inr (1, [.ref dl, .ref da, .ref ds, .int dst, .int dcl, .int dnu])), (dl, .inl (y 0, 6, .inl dfl)), (da, .inl (y 0, 5, .inl dfa)), (ds, .inl (y 0, 5, .inl (upd x9 j91 (if ((x9 j91) + x) < 999 then ((x9 j91) + x) else 999))))] := hD
          refine lv_iload hx hb dX4_give_51 (lv_at hl 1 rfl) ?_
          refine lv_iload_n hx hb dX4_give_53 rfl (lv_at hl 5 rfl) ?_
          refine lv_iadd hx hb dX4_give_54 ?_
          refine lv_istore (lv' := [(4, .int (x8 + x)), (5, .int (nI j91)), (0, .ref nw), (1, .ref d), (2, .int (nI k)), (3, .int x)]) hx hb dX4_give_55 hl (by decide) rfl (fun ls hl => ?_)
          refine lv_iinc (v := (nI (j91 + 1))) (lv' := [(5, .int (nI (j91 + 1))), (4, .int (x8 + x)), (0, .ref nw), (1, .ref d), (2, .int (nI k)), (3, .int x)]) hx hb dX4_give_57 hl (k := 1) rfl (nI_1 j91) (by decide) rfl (fun ls hl => ?_)
          refine lv_goto (tgt := 6) hx hb dX4_give_60 (by decide) ?_
          exact ihj91 (j91 + 1) (x8 + x) (upd x9 j91 (if ((x9 j91) + x) < 999 then ((x9 j91) + x) else 999)) H locs ls (by omega) (by omega)  (hP.sub [0, 1, 2, 3, 4] rfl) (hD.sub [0, 1, 2, 3, 4] (by decide) rfl) hS (lv_sub hl [0, 1, 2, 3, 4, 5] rfl)
        · skip
          have h24 : ¬ w20 = k := fun q9 => h24 ((nI_eq (a := w20) (b := k) (by omega) (by omega)).mpr q9)
          refine lv_goto (tgt := 57) hx hb dX4_give_26 (by decide) ?_
          refine lv_iinc (v := (nI (j91 + 1))) (lv' := [(5, .int (nI (j91 + 1))), (4, .int x8), (0, .ref nw), (1, .ref d), (2, .int (nI k)), (3, .int x)]) hx hb dX4_give_57 hl (k := 0) rfl (nI_1 j91) (by decide) rfl (fun ls hl => ?_)
          refine lv_goto (tgt := 6) hx hb dX4_give_60 (by decide) ?_
          exact ihj91 (j91 + 1) x8 x9 H locs ls (by omega) (by omega)  (hP.sub [0, 1, 2, 3, 4] rfl) (hD.sub [0, 1, 2, 3, 4] (by decide) rfl) hS (lv_sub hl [0, 1, 2, 3, 4, 5] rfl)
  exact lp17 (gl + 1) 0 0 dfs _ _ _ (by omega) (by omega)  hP hD hS (lv_sub hl [0, 1, 2, 3, 4, 5] rfl)

set_option maxHeartbeats 4000000 in
set_option maxRecDepth 100000 in
theorem gc_fade (l : Launch) (D : va_G) (y : Nat → ClassId) (nw : Nat) (kk : Nat) (nk : Nat) (nd : Nat) (ne : Nat) (nm : Nat) (nn : Nat) (fi : Nat) (gl : Nat) (un : Nat) (mi : Nat) (no : Nat) (d : Nat) (dl : Nat) (da : Nat) (ds : Nat) (dst : Int32) (dcl : Int32) (dnu : Int32) (dfl : Nat → Int32) (dfa : Nat → Int32) (dfs : Nat → Int32) (hfi : fi ≤ 6) (hgl : gl ≤ 5) (hun : un ≤ 8) (hmi : mi ≤ 4) (hno : no ≤ 6) (hda : kw_bd 6 5 dfa) : kw_Mv l yX4_fade wsX4_fade ({ frames := 2, cells := 0, slots := 0, locals := 80 }) D y [.ref nw, .ref d] [(nw, .inr (4, [.ref kk, .ref nk, .ref nd, .ref ne, .ref nm, .ref nn, .int (nI fi), .int (nI gl), .int (nI un), .int (nI mi), .int (nI no)])), (d, .inr (1, [.ref dl, .ref da, .ref ds, .int dst, .int dcl, .int dnu])), (dl, .inl (y 0, 6, .inl dfl)), (da, .inl (y 0, 5, .inl dfa)), (ds, .inl (y 0, 5, .inl dfs))] (fun (u : (Nat → Int32) × (Nat → Int32)) => True) (fun u => [(nw, .inr (4, [.ref kk, .ref nk, .ref nd, .ref ne, .ref nm, .ref nn, .int (nI fi), .int (nI gl), .int (nI un), .int (nI mi), .int (nI no)])), (d, .inr (1, [.ref dl, .ref da, .ref ds, .int 0, .int dcl, .int (if (dnu + 1) < 999 then (dnu + 1) else 999)])), (dl, .inl (y 0, 6, .inl u.1)), (da, .inl (y 0, 5, .inl dfa)), (ds, .inl (y 0, 5, .inl u.2))]) 0 0 := by
  refine kw_Mv.of (cc := cX4_fade) (maxL := 3) (ret := none) (by decide) rfl ?_
  intro pZ eZ s mZ beZ meZ cZ A hE
  obtain ⟨hx, hb, hr, hml, hts, hown, hlocks, hin, hA, hP, hD, hK, hN⟩ := hE
  have hS : va_S A s.heap s.heap [] := va_S.rf
  have hl := lv_entry ([.ref nw, .ref d]) (n := 3) (Nat.le_of_ble_eq_true rfl)
  rw [lg_entry_eq]
  generalize (lg_sl ([.ref nw, .ref d]) ++ List.replicate (3 - (lg_sl ([.ref nw, .ref d])).length) Slot.unset).toArray = ls at hl ⊢
  have hl : lv_has ls 3 [(0, .ref nw), (1, .ref d)] := hl
  have fw1 := hts (.fieldLink RX4 42 "GleanDusk$Parish" "gleaners" "I") (List.mem_of_getElem? (i := 1) rfl)
  have fw2 := hts (.fieldLink RX4 38 "GleanDusk$Parish" "fields" "I") (List.mem_of_getElem? (i := 3) rfl)
  have fw3 := hts (.fieldLink RX4 60 "GleanDusk$Dusk" "number" "I") (List.mem_of_getElem? (i := 9) rfl)
  have fw4 := hts (.methodLink RX4 109 Lib.Math.min.name) (List.mem_of_getElem? (i := 5) rfl)
  have fw5 := hts (.static Lib.Math.min.name) (List.mem_of_getElem? (i := 6) rfl)
  have fw6 := hts (.initialized "java/lang/Math") (List.mem_of_getElem? (i := 7) rfl)
  have fw7 := hts (.code Lib.Math.min.name Lib.Math.min.code 2 (some .int)) (List.mem_of_getElem? (i := 8) rfl)
  have fw8 := hts (.fieldLink RX4 54 "GleanDusk$Dusk" "step" "I") (List.mem_of_getElem? (i := 10) rfl)
  have fw9 := hts (.fieldLink RX4 77 "GleanDusk$Dusk" "light" "[I") (List.mem_of_getElem? (i := 4) rfl)
  have fw10 := hts (.fieldLink RX4 83 "GleanDusk$Dusk" "store" "[I") (List.mem_of_getElem? (i := 2) rfl)
  have fw11 := hts (.initialized RX10) (List.mem_of_getElem? (i := 12) rfl)
  have fw12 := hts (.static yX10_faded) (List.mem_of_getElem? (i := 11) rfl)
  have iw4 : ∀ w ∈ wsX40, w ∈ wsX4_fade := fun _ h => List.mem_cons_of_mem _ (List.mem_append_left _ (List.mem_append_right _ h))
  have iw1 : ∀ w ∈ wsX10, w ∈ wsX4_fade := fun _ h => List.mem_cons_of_mem _ (List.mem_append_right _ h)
  refine lv_iconst (v := 0) hx hb dX4_fade_0 (by decide) ?_
  refine lv_istore_n (lv' := [(2, .int 0), (0, .ref nw), (1, .ref d)]) hx hb dX4_fade_1 rfl hl (by decide) rfl (fun ls hl => ?_)
  have lp28 : ∀ (fuj91 j91 : Nat) (x14 : Nat → Int32) (H : Heap) (locs : List Loc) (ls : Array Slot), j91 ≤ gl → gl - j91 < fuj91 → va_P D vwCl [(nw, .inr (4, [.ref kk, .ref nk, .ref nd, .ref ne, .ref nm, .ref nn, .int (nI fi), .int (nI gl), .int (nI un), .int (nI mi), .int (nI no)])), (d, .inr (1, [.ref dl, .ref da, .ref ds, .int dst, .int dcl, .int dnu])), (dl, .inl (y 0, 6, .inl dfl)), (da, .inl (y 0, 5, .inl dfa)), (ds, .inl (y 0, 5, .inl x14))] H → va_D A [(nw, .inr (4, [.ref kk, .ref nk, .ref nd, .ref ne, .ref nm, .ref nn, .int (nI fi), .int (nI gl), .int (nI un), .int (nI mi), .int (nI no)])), (d, .inr (1, [.ref dl, .ref da, .ref ds, .int dst, .int dcl, .int dnu])), (dl, .inl (y 0, 6, .inl dfl)), (da, .inl (y 0, 5, .inl dfa)), (ds, .inl (y 0, 5, .inl x14))] → va_S A s.heap H locs → lv_has ls 3 [(2, .int (nI j91)), (0, .ref nw), (1, .ref d)] → W pZ l eZ ({ frames := 2, cells := 0, slots := 0, locals := 80 }) s mZ [.ref nw, .ref d].toArray beZ meZ cZ H locs 0 0 (MQ beZ (va_Qv (fun (u : (Nat → Int32) × (Nat → Int32)) => True) (kw_B D (fun u => [(nw, .inr (4, [.ref kk, .ref nk, .ref nd, .ref ne, .ref nm, .ref nn, .int (nI fi), .int (nI gl), .int (nI un), .int (nI mi), .int (nI no)])), (d, .inr (1, [.ref dl, .ref da, .ref ds, .int 0, .int dcl, .int (if (dnu + 1) < 999 then (dnu + 1) else 999)])), (dl, .inl (y 0, 6, .inl u.1)), (da, .inl (y 0, 5, .inl dfa)), (ds, .inl (y 0, 5, .inl u.2))]) A) A) [.ref nw, .ref d].toArray s 0 0 A) (F0 mZ 2 ls []) := by
    intro fuj91
    induction fuj91 with
    | zero => intro j91 x14 H locs ls hj9 hf9; exact absurd hf9 (Nat.not_lt_zero _)
    | succ fuj91 ihj91 =>
      intro j91 x14 H locs ls hj91 hfj91  hP hD hS hl
      refine lv_iload_n hx hb dX4_fade_2 rfl (lv_at hl 0 rfl) ?_
      refine lv_aload_n hx hb dX4_fade_3 rfl (lv_at hl 1 rfl) ?_
      refine va_get (D := D) (ci := 4) (v := .int (nI gl)) (C := RX4) (T := TX4) (N := 11) hx hb hts iw4 hown hK hP 0 rfl rfl 7 (by decide) fw1 (fun _ h9 => h9) rfl dX4_fade_4 ?_
      refine lv_icmp_ge (tgt := 31) hx hb dX4_fade_7 (by decide) (fun h29 => ?_) (fun h30 => ?_)
      · skip
        have h29 : gl ≤ j91 := (nI_leI (a := gl) (b := j91) (by omega) (by omega)).mp h29
        refine lv_iconst (v := 0) hx hb dX4_fade_31 (by decide) ?_
        refine lv_istore_n (lv' := [(2, .int 0), (0, .ref nw), (1, .ref d)]) hx hb dX4_fade_32 rfl hl (by decide) rfl (fun ls hl => ?_)
        have lp36 : ∀ (fuj92 j92 : Nat) (x33 : Nat → Int32) (H : Heap) (locs : List Loc) (ls : Array Slot), j92 ≤ fi → fi - j92 < fuj92 → va_P D vwCl [(nw, .inr (4, [.ref kk, .ref nk, .ref nd, .ref ne, .ref nm, .ref nn, .int (nI fi), .int (nI gl), .int (nI un), .int (nI mi), .int (nI no)])), (d, .inr (1, [.ref dl, .ref da, .ref ds, .int dst, .int dcl, .int dnu])), (dl, .inl (y 0, 6, .inl x33)), (da, .inl (y 0, 5, .inl dfa)), (ds, .inl (y 0, 5, .inl x14))] H → va_D A [(nw, .inr (4, [.ref kk, .ref nk, .ref nd, .ref ne, .ref nm, .ref nn, .int (nI fi), .int (nI gl), .int (nI un), .int (nI mi), .int (nI no)])), (d, .inr (1, [.ref dl, .ref da, .ref ds, .int dst, .int dcl, .int dnu])), (dl, .inl (y 0, 6, .inl x33)), (da, .inl (y 0, 5, .inl dfa)), (ds, .inl (y 0, 5, .inl x14))] → va_S A s.heap H locs → lv_has ls 3 [(2, .int (nI j92)), (0, .ref nw), (1, .ref d)] → W pZ l eZ ({ frames := 2, cells := 0, slots := 0, locals := 80 }) s mZ [.ref nw, .ref d].toArray beZ meZ cZ H locs 0 0 (MQ beZ (va_Qv (fun (u : (Nat → Int32) × (Nat → Int32)) => True) (kw_B D (fun u => [(nw, .inr (4, [.ref kk, .ref nk, .ref nd, .ref ne, .ref nm, .ref nn, .int (nI fi), .int (nI gl), .int (nI un), .int (nI mi), .int (nI no)])), (d, .inr (1, [.ref dl, .ref da, .ref ds, .int 0, .int dcl, .int (if (dnu + 1) < 999 then (dnu + 1) else 999)])), (dl, .inl (y 0, 6, .inl u.1)), (da, .inl (y 0, 5, .inl dfa)), (ds, .inl (y 0, 5, .inl u.2))]) A) A) [.ref nw, .ref d].toArray s 0 0 A) (F0 mZ 33 ls []) := by
          intro fuj92
          induction fuj92 with
          | zero => intro j92 x33 H locs ls hj9 hf9; exact absurd hf9 (Nat.not_lt_zero _)
          | succ fuj92 ihj92 =>
            intro j92 x33 H locs ls hj92 hfj92  hP hD hS hl
            refine lv_iload_n hx hb dX4_fade_33 rfl (lv_at hl 0 rfl) ?_
            refine lv_aload_n hx hb dX4_fade_34 rfl (lv_at hl 1 rfl) ?_
            refine va_get (D := D) (ci := 4) (v := .int (nI fi)) (C := RX4) (T := TX4) (N := 11) hx hb hts iw4 hown hK hP 0 rfl rfl 6 (by decide) fw2 (fun _ h9 => h9) rfl dX4_fade_35 ?_
            refine lv_icmp_ge (tgt := 67) hx hb dX4_fade_38 (by decide) (fun h37 => ?_) (fun h38 => ?_)
            · skip
              have h37 : fi ≤ j92 := (nI_leI (a := fi) (b := j92) (by omega) (by omega)).mp h37
              refine lv_aload_n hx hb dX4_fade_67 rfl (lv_at hl 2 rfl) ?_
              refine lv_sipush (v := 999) hx hb dX4_fade_68 (by decide) ?_
              refine lv_aload_n hx hb dX4_fade_71 rfl (lv_at hl 2 rfl) ?_
              refine va_get (D := D) (ci := 1) (v := .int dnu) (C := RX1) (T := TX1) (N := 6) hx hb hts iw1 hown hK hP 1 rfl rfl 5 (by decide) fw3 (fun _ h9 => h9) rfl dX4_fade_72 ?_
              refine lv_iconst (v := 1) hx hb dX4_fade_75 (by decide) ?_
              refine lv_iadd hx hb dX4_fade_76 ?_
              refine va_mmin hx hb (hml.trans hl.1.symm) hown fw4 fw5 fw6 fw7 (Nat.le_of_ble_eq_true rfl) (Nat.le_of_ble_eq_true rfl) (Nat.le_of_ble_eq_true rfl) (Nat.le_of_ble_eq_true rfl) dX4_fade_77 ?_
              refine va_put (D := D) (ci := 1) (v := .int (if (dnu + 1) < 999 then (dnu + 1) else 999)) (ty := .int) (C := RX1) (T := TX1) (N := 6) hx hb hts iw1 tyX1 tyX1_ok nmX1 hown hK hP hD hS 1 rfl rfl 5 (by decide) fw3 (fun _ h9 => h9) rfl (by decide +kernel) rfl rfl (Nat.le_of_ble_eq_true rfl) dX4_fade_80 (fun H locs hP hD hS => ?_)
              have hP : va_P D vwCl [(nw, .inr (4, [.ref kk, .ref nk, .ref nd, .ref ne, .ref nm, .ref nn, .int (nI fi), .int (nI gl), .int (nI un), .int (nI mi), .int (nI no)])), (d, .inr (1, [.ref dl, .ref da, .ref ds, .int dst, .int dcl, .int (if (dnu + 1) < 999 then (dnu + 1) else 999)])), (dl, .inl (y 0, 6, .inl x33)), (da, .inl (y 0, 5, .inl dfa)), (ds, .inl (y 0, 5, .inl x14))] H := hP
              have hD : va_D A [(nw, .inr (4, [.ref kk, .ref nk, .ref nd, .ref ne, .ref nm, .ref nn, .int (nI fi), .int (nI gl), .int (nI un), .int (nI mi), .int (nI no)])), (d, .inr (1, [.ref dl, .ref da, .ref ds, .int dst, .int dcl, .int (if (dnu + 1) < 999 then (dnu + 1) else 999)])), (dl, .inl (y 0, 6, .inl x33)), (da, .inl (y 0, 5, .inl dfa)), (ds, .inl (y 0, 5, .inl x14))] := hD
              refine lv_aload_n hx hb dX4_fade_83 rfl (lv_at hl 2 rfl) ?_
              refine lv_iconst (v := 0) hx hb dX4_fade_84 (by decide) ?_
              refine va_put (D := D) (ci := 1) (v := .int 0) (ty := .int) (C := RX1) (T := TX1) (N := 6) hx hb hts iw1 tyX1 tyX1_ok nmX1 hown hK hP hD hS 1 rfl rfl 3 (by decide) fw8 (fun _ h9 => h9) rfl (by decide +kernel) rfl rfl (Nat.le_of_ble_eq_true rfl) dX4_fade_85 (fun H locs hP hD hS => ?_)
              have hP : va_P D vwCl [(nw, .inr (4, [.ref kk, .ref nk, .ref nd, .ref ne, .ref nm, .ref nn, .int (nI fi), .int (nI gl), .int (nI un), .int (nI mi), .int (nI no)])), (d, .inr (1, [.ref dl, .ref da, .ref ds, .int 0, .int dcl, .int (if (dnu + 1) < 999 then (dnu + 1) else 999)])), (dl, .inl (y 0, 6, .inl x33)), (da, .inl (y 0, 5, .inl dfa)), (ds, .inl (y 0, 5, .inl x14))] H := hP
              have hD : va_D A [(nw, .inr (4, [.ref kk, .ref nk, .ref nd, .ref ne, .ref nm, .ref nn, .int (nI fi), .int (nI gl), .int (nI un), .int (nI mi), .int (nI no)])), (d, .inr (1, [.ref dl, .ref da, .ref ds, .int 0, .int dcl, .int (if (dnu + 1) < 999 then (dnu + 1) else 999)])), (dl, .inl (y 0, 6, .inl x33)), (da, .inl (y 0, 5, .inl dfa)), (ds, .inl (y 0, 5, .inl x14))] := hD
              exact W.vret hx hb hr (fun tZ ht hW => ⟨⟨(x33, x14), rfl, trivial, by rw [ht]; exact hP.sub [0, 1, 2, 3, 4] rfl, hD.sub [0, 1, 2, 3, 4] (by decide) rfl⟩, hS.F ht⟩) hS.2.2 dX4_fade_88
            · skip
              have h38 : ¬ fi ≤ j92 := fun q9 => h38 ((nI_leI (a := fi) (b := j92) (by omega) (by omega)).mpr q9)
              refine lv_aload_n hx hb dX4_fade_41 rfl (lv_at hl 2 rfl) ?_
              refine va_get (D := D) (ci := 1) (v := .ref dl) (C := RX1) (T := TX1) (N := 6) hx hb hts iw1 hown hK hP 1 rfl rfl 0 (by decide) fw9 (fun _ h9 => h9) rfl dX4_fade_42 ?_
              refine lv_iload_n hx hb dX4_fade_45 rfl (lv_at hl 0 rfl) ?_
              refine lv_bipush (v := 60) hx hb dX4_fade_46 (by decide) ?_
              refine lv_aload_n hx hb dX4_fade_48 rfl (lv_at hl 2 rfl) ?_
              refine va_get (D := D) (ci := 1) (v := .ref dl) (C := RX1) (T := TX1) (N := 6) hx hb hts iw1 hown hK hP 1 rfl rfl 0 (by decide) fw9 (fun _ h9 => h9) rfl dX4_fade_49 ?_
              refine lv_iload_n hx hb dX4_fade_52 rfl (lv_at hl 0 rfl) ?_
              refine va_iald hx hb hK hP 2 0 rfl rfl (vp_in_nI (by omega) (by decide)) dX4_fade_53 ?_
              rw [nI_clamp (n := j92) (by omega)]
              refine lv_bipush (v := 20) hx hb dX4_fade_54 (by decide) ?_
              refine lv_iadd hx hb dX4_fade_56 ?_
              refine va_mmin hx hb (hml.trans hl.1.symm) hown fw4 fw5 fw6 fw7 (Nat.le_of_ble_eq_true rfl) (Nat.le_of_ble_eq_true rfl) (Nat.le_of_ble_eq_true rfl) (Nat.le_of_ble_eq_true rfl) dX4_fade_57 ?_
              refine va_iast hx hb hK hP hD hS 2 0 rfl rfl (vp_in_nI (by omega) (by decide)) dX4_fade_60 (fun H locs hP hD hS => ?_)
              rw [nI_clamp (n := j92) (by omega)] at hP hD
              have hP : va_P D vwCl [(nw, .inr (4, [.ref kk, .ref nk, .ref nd, .ref ne, .ref nm, .ref nn, .int (nI fi), .int (nI gl), .int (nI un), .int (nI mi), .int (nI no)])), (d, .inr (1, [.ref dl, .ref da, .ref ds, .int dst, .int dcl, .int dnu])), (dl, .inl (y 0, 6, .inl (upd x33 j92 (if ((x33 j92) + 20) < 60 then ((x33 j92) + 20) else 60)))), (da, .inl (y 0, 5, .inl dfa)), (ds, .inl (y 0, 5, .inl x14))] H := hP
              have hD : va_D A [(nw, .inr (4, [.ref kk, .ref nk, .ref nd, .ref ne, .ref nm, .ref nn, .int (nI fi), .int (nI gl), .int (nI un), .int (nI mi), .int (nI no)])), (d, .inr (1, [.ref dl, .ref da, .ref ds, .int dst, .int dcl, .int dnu])), (dl, .inl (y 0, 6, .inl (upd x33 j92 (if ((x33 j92) + 20) < 60 then ((x33 j92) + 20) else 60)))), (da, .inl (y 0, 5, .inl dfa)), (ds, .inl (y 0, 5, .inl x14))] := hD
              refine lv_iinc (v := (nI (j92 + 1))) (lv' := [(2, .int (nI (j92 + 1))), (0, .ref nw), (1, .ref d)]) hx hb dX4_fade_61 hl (k := 0) rfl (nI_1 j92) (by decide) rfl (fun ls hl => ?_)
              refine lv_goto (tgt := 33) hx hb dX4_fade_64 (by decide) ?_
              exact ihj92 (j92 + 1) (upd x33 j92 (if ((x33 j92) + 20) < 60 then ((x33 j92) + 20) else 60)) H locs ls (by omega) (by omega)  (hP.sub [0, 1, 2, 3, 4] rfl) (hD.sub [0, 1, 2, 3, 4] (by decide) rfl) hS (lv_sub hl [0, 1, 2] rfl)
        exact lp36 (fi + 1) 0 dfl _ _ _ (by omega) (by omega)  hP hD hS (lv_sub hl [0, 1, 2] rfl)
      · skip
        have h30 : ¬ gl ≤ j91 := fun q9 => h30 ((nI_leI (a := gl) (b := j91) (by omega) (by omega)).mpr q9)
        refine lv_aload_n hx hb dX4_fade_10 rfl (lv_at hl 2 rfl) ?_
        refine va_get (D := D) (ci := 1) (v := .ref ds) (C := RX1) (T := TX1) (N := 6) hx hb hts iw1 hown hK hP 1 rfl rfl 2 (by decide) fw10 (fun _ h9 => h9) rfl dX4_fade_11 ?_
        refine lv_iload_n hx hb dX4_fade_14 rfl (lv_at hl 0 rfl) ?_
        refine lv_aload_n hx hb dX4_fade_15 rfl (lv_at hl 2 rfl) ?_
        refine va_get (D := D) (ci := 1) (v := .ref ds) (C := RX1) (T := TX1) (N := 6) hx hb hts iw1 hown hK hP 1 rfl rfl 2 (by decide) fw10 (fun _ h9 => h9) rfl dX4_fade_16 ?_
        refine lv_iload_n hx hb dX4_fade_19 rfl (lv_at hl 0 rfl) ?_
        refine va_iald hx hb hK hP 4 0 rfl rfl (vp_in_nI (by omega) (by decide)) dX4_fade_20 ?_
        rw [nI_clamp (n := j91) (by omega)]
        have hs39 : kw_Split [(nw, .inr (4, [.ref kk, .ref nk, .ref nd, .ref ne, .ref nm, .ref nn, .int (nI fi), .int (nI gl), .int (nI un), .int (nI mi), .int (nI no)])), (d, .inr (1, [.ref dl, .ref da, .ref ds, .int dst, .int dcl, .int dnu])), (dl, .inl (y 0, 6, .inl dfl)), (da, .inl (y 0, 5, .inl dfa)), (ds, .inl (y 0, 5, .inl x14))] [] [(nw, .inr (4, [.ref kk, .ref nk, .ref nd, .ref ne, .ref nm, .ref nn, .int (nI fi), .int (nI gl), .int (nI un), .int (nI mi), .int (nI no)])), (d, .inr (1, [.ref dl, .ref da, .ref ds, .int dst, .int dcl, .int dnu])), (dl, .inl (y 0, 6, .inl dfl)), (da, .inl (y 0, 5, .inl dfa)), (ds, .inl (y 0, 5, .inl x14))] [] [0, 1, 2, 3, 4] := ⟨rfl, rfl, rfl, rfl, rfl, by decide⟩
        refine kw_go_i hs39 hP hD hS hA (va_runSN (As := [.int (x14 j91)]) (rest := [.int (nI j91), .ref ds]) ⟨hx, hb, hml, hown, hts⟩ (gc_faded l D y (x14 j91)  _) ⟨va_cnB 1 hts gX4_fade_X10_faded_n118 rfl rfl rfl (hN.1 ("GleanDusk$Parish", 118, yX10_faded) (List.mem_of_getElem? (i := 17) rfl)) fw11 (by decide +kernel) ⟨Nat.le_of_ble_eq_true rfl, Nat.le_of_ble_eq_true rfl⟩, fw12, trivial⟩ (kw_PreS hs39 hP hD hK hN) rfl rfl hl.1 rfl (lv_room (Nat.le_of_ble_eq_true rfl)) dX4_fade_21 ⟨Nat.le_of_ble_eq_true rfl, Nat.le_of_ble_eq_true rfl⟩) (fun r40 u41 H locs hq hP hD hS => ?_)
        obtain rfl := hq
        have hP : va_P D vwCl [(nw, .inr (4, [.ref kk, .ref nk, .ref nd, .ref ne, .ref nm, .ref nn, .int (nI fi), .int (nI gl), .int (nI un), .int (nI mi), .int (nI no)])), (d, .inr (1, [.ref dl, .ref da, .ref ds, .int dst, .int dcl, .int dnu])), (dl, .inl (y 0, 6, .inl dfl)), (da, .inl (y 0, 5, .inl dfa)), (ds, .inl (y 0, 5, .inl x14))] H := hP
        have hD : va_D A [(nw, .inr (4, [.ref kk, .ref nk, .ref nd, .ref ne, .ref nm, .ref nn, .int (nI fi), .int (nI gl), .int (nI un), .int (nI mi), .int (nI no)])), (d, .inr (1, [.ref dl, .ref da, .ref ds, .int dst, .int dcl, .int dnu])), (dl, .inl (y 0, 6, .inl dfl)), (da, .inl (y 0, 5, .inl dfa)), (ds, .inl (y 0, 5, .inl x14))] := hD
        refine va_iast hx hb hK hP hD hS 4 0 rfl rfl (vp_in_nI (by omega) (by decide)) dX4_fade_24 (fun H locs hP hD hS => ?_)
        rw [nI_clamp (n := j91) (by omega)] at hP hD
        have hP : va_P D vwCl [(nw, .inr (4, [.ref kk, .ref nk, .ref nd, .ref ne, .ref nm, .ref nn, .int (nI fi), .int (nI gl), .int (nI un), .int (nI mi), .int (nI no)])), (d, .inr (1, [.ref dl, .ref da, .ref ds, .int dst, .int dcl, .int dnu])), (dl, .inl (y 0, 6, .inl dfl)), (da, .inl (y 0, 5, .inl dfa)), (ds, .inl (y 0, 5, .inl (upd x14 j91 ((x14 j91) - (((x14 j91) + 3) / 4)))))] H := hP
        have hD : va_D A [(nw, .inr (4, [.ref kk, .ref nk, .ref nd, .ref ne, .ref nm, .ref nn, .int (nI fi), .int (nI gl), .int (nI un), .int (nI mi), .int (nI no)])), (d, .inr (1, [.ref dl, .ref da, .ref ds, .int dst, .int dcl, .int dnu])), (dl, .inl (y 0, 6, .inl dfl)), (da, .inl (y 0, 5, .inl dfa)), (ds, .inl (y 0, 5, .inl (upd x14 j91 ((x14 j91) - (((x14 j91) + 3) / 4)))))] := hD
        refine lv_iinc (v := (nI (j91 + 1))) (lv' := [(2, .int (nI (j91 + 1))), (0, .ref nw), (1, .ref d)]) hx hb dX4_fade_25 hl (k := 0) rfl (nI_1 j91) (by decide) rfl (fun ls hl => ?_)
        refine lv_goto (tgt := 2) hx hb dX4_fade_28 (by decide) ?_
        exact ihj91 (j91 + 1) (upd x14 j91 ((x14 j91) - (((x14 j91) + 3) / 4))) H locs ls (by omega) (by omega)  (hP.sub [0, 1, 2, 3, 4] rfl) (hD.sub [0, 1, 2, 3, 4] (by decide) rfl) hS (lv_sub hl [0, 1, 2] rfl)
  exact lp28 (gl + 1) 0 dfs _ _ _ (by omega) (by omega)  hP hD hS (lv_sub hl [0, 1, 2] rfl)

set_option maxHeartbeats 4000000 in
set_option maxRecDepth 100000 in
theorem gc_whoIsOn (l : Launch) (D : va_G) (y : Nat → ClassId) (nw : Nat) (kk : Nat) (nk : Nat) (nd : Nat) (ne : Nat) (nm : Nat) (nn : Nat) (fi : Nat) (gl : Nat) (un : Nat) (mi : Nat) (no : Nat) (nd : Nat) (nl : Nat) (na : Nat) (ns : Nat) (nst : Int32) (ncl : Int32) (nnu : Int32) (nfa : Nat → Int32) (x : Int32) (hfi : fi ≤ 6) (hgl : gl ≤ 5) (hun : un ≤ 8) (hmi : mi ≤ 4) (hno : no ≤ 6) (hna : kw_bd 6 5 nfa) : kw_Mi l yX4_whoIsOn wsX4_whoIsOn ({ frames := 1, cells := 0, slots := 0, locals := 60 }) D y [.ref nw, .int x] [(nw, .inr (4, [.ref kk, .ref nk, .ref nd, .ref ne, .ref nm, .ref nn, .int (nI fi), .int (nI gl), .int (nI un), .int (nI mi), .int (nI no)])), (nd, .inr (1, [.ref nl, .ref na, .ref ns, .int nst, .int ncl, .int nnu])), (na, .inl (y 0, 5, .inl nfa))] (fun (r : Int32) (u : Unit) => True) (fun _ => [(nw, .inr (4, [.ref kk, .ref nk, .ref nd, .ref ne, .ref nm, .ref nn, .int (nI fi), .int (nI gl), .int (nI un), .int (nI mi), .int (nI no)])), (nd, .inr (1, [.ref nl, .ref na, .ref ns, .int nst, .int ncl, .int nnu])), (na, .inl (y 0, 5, .inl nfa))]) 0 0 := by
  refine kw_Mi.of (cc := cX4_whoIsOn) (maxL := 4) (ret := (some .int)) (by decide) rfl ?_
  intro pZ eZ s mZ beZ meZ cZ A hE
  obtain ⟨hx, hb, hr, hml, hts, hown, hlocks, hin, hA, hP, hD, hK, hN⟩ := hE
  have hS : va_S A s.heap s.heap [] := va_S.rf
  have hl := lv_entry ([.ref nw, .int x]) (n := 4) (Nat.le_of_ble_eq_true rfl)
  rw [lg_entry_eq]
  generalize (lg_sl ([.ref nw, .int x]) ++ List.replicate (4 - (lg_sl ([.ref nw, .int x])).length) Slot.unset).toArray = ls at hl ⊢
  have hl : lv_has ls 4 [(0, .ref nw), (1, .int x)] := hl
  have fw1 := hts (.fieldLink RX4 42 "GleanDusk$Parish" "gleaners" "I") (List.mem_of_getElem? (i := 1) rfl)
  have fw2 := hts (.fieldLink RX4 18 "GleanDusk$Parish" "dusk" "LGleanDusk$Dusk;") (List.mem_of_getElem? (i := 2) rfl)
  have fw3 := hts (.fieldLink RX4 80 "GleanDusk$Dusk" "at" "[I") (List.mem_of_getElem? (i := 3) rfl)
  have iw4 : ∀ w ∈ wsX40, w ∈ wsX4_whoIsOn := fun _ h => List.mem_cons_of_mem _ (List.mem_append_left _ (List.mem_append_right _ h))
  have iw1 : ∀ w ∈ wsX10, w ∈ wsX4_whoIsOn := fun _ h => List.mem_cons_of_mem _ (List.mem_append_right _ h)
  refine lv_iconst (v := 0) hx hb dX4_whoIsOn_0 (by decide) ?_
  refine lv_istore_n (lv' := [(2, .int 0), (0, .ref nw), (1, .int x)]) hx hb dX4_whoIsOn_1 rfl hl (by decide) rfl (fun ls hl => ?_)
  refine lv_iconst (v := 0) hx hb dX4_whoIsOn_2 (by decide) ?_
  refine lv_istore_n (lv' := [(3, .int 0), (2, .int 0), (0, .ref nw), (1, .int x)]) hx hb dX4_whoIsOn_3 rfl hl (by decide) rfl (fun ls hl => ?_)
  have lp16 : ∀ (fuj91 j91 : Nat) (x8 : Int32) (H : Heap) (locs : List Loc) (ls : Array Slot), j91 ≤ gl → gl - j91 < fuj91 → va_P D vwCl [(nw, .inr (4, [.ref kk, .ref nk, .ref nd, .ref ne, .ref nm, .ref nn, .int (nI fi), .int (nI gl), .int (nI un), .int (nI mi), .int (nI no)])), (nd, .inr (1, [.ref nl, .ref na, .ref ns, .int nst, .int ncl, .int nnu])), (na, .inl (y 0, 5, .inl nfa))] H → va_D A [(nw, .inr (4, [.ref kk, .ref nk, .ref nd, .ref ne, .ref nm, .ref nn, .int (nI fi), .int (nI gl), .int (nI un), .int (nI mi), .int (nI no)])), (nd, .inr (1, [.ref nl, .ref na, .ref ns, .int nst, .int ncl, .int nnu])), (na, .inl (y 0, 5, .inl nfa))] → va_S A s.heap H locs → lv_has ls 4 [(3, .int (nI j91)), (2, .int x8), (0, .ref nw), (1, .int x)] → W pZ l eZ ({ frames := 1, cells := 0, slots := 0, locals := 60 }) s mZ [.ref nw, .int x].toArray beZ meZ cZ H locs 0 0 (MQ beZ (va_Qi (fun (r : Int32) (u : Unit) => True) (kw_B D (fun _ => [(nw, .inr (4, [.ref kk, .ref nk, .ref nd, .ref ne, .ref nm, .ref nn, .int (nI fi), .int (nI gl), .int (nI un), .int (nI mi), .int (nI no)])), (nd, .inr (1, [.ref nl, .ref na, .ref ns, .int nst, .int ncl, .int nnu])), (na, .inl (y 0, 5, .inl nfa))]) A) A) [.ref nw, .int x].toArray s 0 0 A) (F0 mZ 4 ls []) := by
    intro fuj91
    induction fuj91 with
    | zero => intro j91 x8 H locs ls hj9 hf9; exact absurd hf9 (Nat.not_lt_zero _)
    | succ fuj91 ihj91 =>
      intro j91 x8 H locs ls hj91 hfj91  hP hD hS hl
      refine lv_iload_n hx hb dX4_whoIsOn_4 rfl (lv_at hl 0 rfl) ?_
      refine lv_aload_n hx hb dX4_whoIsOn_5 rfl (lv_at hl 2 rfl) ?_
      refine va_get (D := D) (ci := 4) (v := .int (nI gl)) (C := RX4) (T := TX4) (N := 11) hx hb hts iw4 hown hK hP 0 rfl rfl 7 (by decide) fw1 (fun _ h9 => h9) rfl dX4_whoIsOn_6 ?_
      refine lv_icmp_ge (tgt := 37) hx hb dX4_whoIsOn_9 (by decide) (fun h17 => ?_) (fun h18 => ?_)
      · skip
        have h17 : gl ≤ j91 := (nI_leI (a := gl) (b := j91) (by omega) (by omega)).mp h17
        refine lv_iload_n hx hb dX4_whoIsOn_37 rfl (lv_at hl 1 rfl) ?_
        exact W.iret (v := x8) hx hb hr (fun tZ ht hW => ⟨⟨x8, (), rfl, trivial, by rw [ht]; exact hP.sub [0, 1, 2] rfl, hD.sub [0, 1, 2] (by decide) rfl⟩, hS.F ht⟩) hS.2.2 dX4_whoIsOn_38
      · skip
        have h18 : ¬ gl ≤ j91 := fun q9 => h18 ((nI_leI (a := gl) (b := j91) (by omega) (by omega)).mpr q9)
        refine lv_aload_n hx hb dX4_whoIsOn_12 rfl (lv_at hl 2 rfl) ?_
        refine va_get (D := D) (ci := 4) (v := .ref nd) (C := RX4) (T := TX4) (N := 11) hx hb hts iw4 hown hK hP 0 rfl rfl 2 (by decide) fw2 (fun _ h9 => h9) rfl dX4_whoIsOn_13 ?_
        refine va_get (D := D) (ci := 1) (v := .ref na) (C := RX1) (T := TX1) (N := 6) hx hb hts iw1 hown hK hP 1 rfl rfl 1 (by decide) fw3 (fun _ h9 => h9) rfl dX4_whoIsOn_16 ?_
        refine lv_iload_n hx hb dX4_whoIsOn_19 rfl (lv_at hl 0 rfl) ?_
        refine va_iald hx hb hK hP 2 0 rfl rfl (vp_in_nI (by omega) (by decide)) dX4_whoIsOn_20 ?_
        rw [nI_clamp (n := j91) (by omega)]
        obtain ⟨w19, h20, h21⟩ := kw_bdv hna (k := j91) (by omega) (by decide)
        rw [h21]
        refine lv_iload_n hx hb dX4_whoIsOn_21 rfl (lv_at hl 3 rfl) ?_
        refine lv_icmp_ne (tgt := 31) hx hb dX4_whoIsOn_22 (by decide) (fun h22 => ?_) (fun h23 => ?_)
        · skip
          refine lv_iinc (v := (nI (j91 + 1))) (lv' := [(3, .int (nI (j91 + 1))), (2, .int x8), (0, .ref nw), (1, .int x)]) hx hb dX4_whoIsOn_31 hl (k := 0) rfl (nI_1 j91) (by decide) rfl (fun ls hl => ?_)
          refine lv_goto (tgt := 4) hx hb dX4_whoIsOn_34 (by decide) ?_
          exact ihj91 (j91 + 1) x8 H locs ls (by omega) (by omega)  (hP.sub [0, 1, 2] rfl) (hD.sub [0, 1, 2] (by decide) rfl) hS (lv_sub hl [0, 1, 2, 3] rfl)
        · skip
          refine lv_iload_n hx hb dX4_whoIsOn_25 rfl (lv_at hl 1 rfl) ?_
          refine lv_iconst (v := 1) hx hb dX4_whoIsOn_26 (by decide) ?_
          refine lv_iload_n hx hb dX4_whoIsOn_27 rfl (lv_at hl 0 rfl) ?_
          refine lv_ishl hx hb dX4_whoIsOn_28 ?_
          refine lv_ior hx hb dX4_whoIsOn_29 ?_
          refine lv_istore_n (lv' := [(2, .int (x8 ||| (1 <<< ((nI j91) &&& 31)))), (3, .int (nI j91)), (0, .ref nw), (1, .int x)]) hx hb dX4_whoIsOn_30 rfl hl (by decide) rfl (fun ls hl => ?_)
          refine lv_iinc (v := (nI (j91 + 1))) (lv' := [(3, .int (nI (j91 + 1))), (2, .int (x8 ||| (1 <<< ((nI j91) &&& 31)))), (0, .ref nw), (1, .int x)]) hx hb dX4_whoIsOn_31 hl (k := 1) rfl (nI_1 j91) (by decide) rfl (fun ls hl => ?_)
          refine lv_goto (tgt := 4) hx hb dX4_whoIsOn_34 (by decide) ?_
          exact ihj91 (j91 + 1) (x8 ||| (1 <<< ((nI j91) &&& 31))) H locs ls (by omega) (by omega)  (hP.sub [0, 1, 2] rfl) (hD.sub [0, 1, 2] (by decide) rfl) hS (lv_sub hl [0, 1, 2, 3] rfl)
  exact lp16 (gl + 1) 0 0 _ _ _ (by omega) (by omega)  hP hD hS (lv_sub hl [0, 1, 2, 3] rfl)

set_option maxHeartbeats 4000000 in
set_option maxRecDepth 100000 in
theorem gc_storesOf (l : Launch) (D : va_G) (y : Nat → ClassId) (nw : Nat) (kk : Nat) (nk : Nat) (nd : Nat) (ne : Nat) (nm : Nat) (nn : Nat) (fi : Nat) (gl : Nat) (un : Nat) (mi : Nat) (no : Nat) (nd : Nat) (nl : Nat) (na : Nat) (ns : Nat) (nst : Int32) (ncl : Int32) (nnu : Int32) (nfs : Nat → Int32) (x : Int32) (hfi : fi ≤ 6) (hgl : gl ≤ 5) (hun : un ≤ 8) (hmi : mi ≤ 4) (hno : no ≤ 6) : kw_Mi l yX4_storesOf wsX4_storesOf ({ frames := 1, cells := 0, slots := 0, locals := 60 }) D y [.ref nw, .int x] [(nw, .inr (4, [.ref kk, .ref nk, .ref nd, .ref ne, .ref nm, .ref nn, .int (nI fi), .int (nI gl), .int (nI un), .int (nI mi), .int (nI no)])), (nd, .inr (1, [.ref nl, .ref na, .ref ns, .int nst, .int ncl, .int nnu])), (ns, .inl (y 0, 5, .inl nfs))] (fun (r : Int32) (u : Unit) => True) (fun _ => [(nw, .inr (4, [.ref kk, .ref nk, .ref nd, .ref ne, .ref nm, .ref nn, .int (nI fi), .int (nI gl), .int (nI un), .int (nI mi), .int (nI no)])), (nd, .inr (1, [.ref nl, .ref na, .ref ns, .int nst, .int ncl, .int nnu])), (ns, .inl (y 0, 5, .inl nfs))]) 0 0 := by
  refine kw_Mi.of (cc := cX4_storesOf) (maxL := 4) (ret := (some .int)) (by decide) rfl ?_
  intro pZ eZ s mZ beZ meZ cZ A hE
  obtain ⟨hx, hb, hr, hml, hts, hown, hlocks, hin, hA, hP, hD, hK, hN⟩ := hE
  have hS : va_S A s.heap s.heap [] := va_S.rf
  have hl := lv_entry ([.ref nw, .int x]) (n := 4) (Nat.le_of_ble_eq_true rfl)
  rw [lg_entry_eq]
  generalize (lg_sl ([.ref nw, .int x]) ++ List.replicate (4 - (lg_sl ([.ref nw, .int x])).length) Slot.unset).toArray = ls at hl ⊢
  have hl : lv_has ls 4 [(0, .ref nw), (1, .int x)] := hl
  have fw1 := hts (.fieldLink RX4 42 "GleanDusk$Parish" "gleaners" "I") (List.mem_of_getElem? (i := 1) rfl)
  have fw2 := hts (.fieldLink RX4 18 "GleanDusk$Parish" "dusk" "LGleanDusk$Dusk;") (List.mem_of_getElem? (i := 2) rfl)
  have fw3 := hts (.fieldLink RX4 83 "GleanDusk$Dusk" "store" "[I") (List.mem_of_getElem? (i := 3) rfl)
  have iw4 : ∀ w ∈ wsX40, w ∈ wsX4_storesOf := fun _ h => List.mem_cons_of_mem _ (List.mem_append_left _ (List.mem_append_right _ h))
  have iw1 : ∀ w ∈ wsX10, w ∈ wsX4_storesOf := fun _ h => List.mem_cons_of_mem _ (List.mem_append_right _ h)
  refine lv_iconst (v := 0) hx hb dX4_storesOf_0 (by decide) ?_
  refine lv_istore_n (lv' := [(2, .int 0), (0, .ref nw), (1, .int x)]) hx hb dX4_storesOf_1 rfl hl (by decide) rfl (fun ls hl => ?_)
  refine lv_iconst (v := 0) hx hb dX4_storesOf_2 (by decide) ?_
  refine lv_istore_n (lv' := [(3, .int 0), (2, .int 0), (0, .ref nw), (1, .int x)]) hx hb dX4_storesOf_3 rfl hl (by decide) rfl (fun ls hl => ?_)
  have lp10 : ∀ (fuj91 j91 : Nat) (x5 : Int32) (H : Heap) (locs : List Loc) (ls : Array Slot), j91 ≤ gl → gl - j91 < fuj91 → va_P D vwCl [(nw, .inr (4, [.ref kk, .ref nk, .ref nd, .ref ne, .ref nm, .ref nn, .int (nI fi), .int (nI gl), .int (nI un), .int (nI mi), .int (nI no)])), (nd, .inr (1, [.ref nl, .ref na, .ref ns, .int nst, .int ncl, .int nnu])), (ns, .inl (y 0, 5, .inl nfs))] H → va_D A [(nw, .inr (4, [.ref kk, .ref nk, .ref nd, .ref ne, .ref nm, .ref nn, .int (nI fi), .int (nI gl), .int (nI un), .int (nI mi), .int (nI no)])), (nd, .inr (1, [.ref nl, .ref na, .ref ns, .int nst, .int ncl, .int nnu])), (ns, .inl (y 0, 5, .inl nfs))] → va_S A s.heap H locs → lv_has ls 4 [(3, .int (nI j91)), (2, .int x5), (0, .ref nw), (1, .int x)] → W pZ l eZ ({ frames := 1, cells := 0, slots := 0, locals := 60 }) s mZ [.ref nw, .int x].toArray beZ meZ cZ H locs 0 0 (MQ beZ (va_Qi (fun (r : Int32) (u : Unit) => True) (kw_B D (fun _ => [(nw, .inr (4, [.ref kk, .ref nk, .ref nd, .ref ne, .ref nm, .ref nn, .int (nI fi), .int (nI gl), .int (nI un), .int (nI mi), .int (nI no)])), (nd, .inr (1, [.ref nl, .ref na, .ref ns, .int nst, .int ncl, .int nnu])), (ns, .inl (y 0, 5, .inl nfs))]) A) A) [.ref nw, .int x].toArray s 0 0 A) (F0 mZ 4 ls []) := by
    intro fuj91
    induction fuj91 with
    | zero => intro j91 x5 H locs ls hj9 hf9; exact absurd hf9 (Nat.not_lt_zero _)
    | succ fuj91 ihj91 =>
      intro j91 x5 H locs ls hj91 hfj91  hP hD hS hl
      refine lv_iload_n hx hb dX4_storesOf_4 rfl (lv_at hl 0 rfl) ?_
      refine lv_aload_n hx hb dX4_storesOf_5 rfl (lv_at hl 2 rfl) ?_
      refine va_get (D := D) (ci := 4) (v := .int (nI gl)) (C := RX4) (T := TX4) (N := 11) hx hb hts iw4 hown hK hP 0 rfl rfl 7 (by decide) fw1 (fun _ h9 => h9) rfl dX4_storesOf_6 ?_
      refine lv_icmp_ge (tgt := 39) hx hb dX4_storesOf_9 (by decide) (fun h11 => ?_) (fun h12 => ?_)
      · skip
        have h11 : gl ≤ j91 := (nI_leI (a := gl) (b := j91) (by omega) (by omega)).mp h11
        refine lv_iload_n hx hb dX4_storesOf_39 rfl (lv_at hl 1 rfl) ?_
        exact W.iret (v := x5) hx hb hr (fun tZ ht hW => ⟨⟨x5, (), rfl, trivial, by rw [ht]; exact hP.sub [0, 1, 2] rfl, hD.sub [0, 1, 2] (by decide) rfl⟩, hS.F ht⟩) hS.2.2 dX4_storesOf_40
      · skip
        have h12 : ¬ gl ≤ j91 := fun q9 => h12 ((nI_leI (a := gl) (b := j91) (by omega) (by omega)).mpr q9)
        refine lv_iload_n hx hb dX4_storesOf_12 rfl (lv_at hl 3 rfl) ?_
        refine lv_iload_n hx hb dX4_storesOf_13 rfl (lv_at hl 0 rfl) ?_
        refine lv_ishr hx hb dX4_storesOf_14 ?_
        refine lv_iconst (v := 1) hx hb dX4_storesOf_15 (by decide) ?_
        refine lv_iand hx hb dX4_storesOf_16 ?_
        refine lv_iconst (v := 1) hx hb dX4_storesOf_17 (by decide) ?_
        refine lv_icmp_ne (tgt := 33) hx hb dX4_storesOf_18 (by decide) (fun h13 => ?_) (fun h14 => ?_)
        · skip
          refine lv_iinc (v := (nI (j91 + 1))) (lv' := [(3, .int (nI (j91 + 1))), (2, .int x5), (0, .ref nw), (1, .int x)]) hx hb dX4_storesOf_33 hl (k := 0) rfl (nI_1 j91) (by decide) rfl (fun ls hl => ?_)
          refine lv_goto (tgt := 4) hx hb dX4_storesOf_36 (by decide) ?_
          exact ihj91 (j91 + 1) x5 H locs ls (by omega) (by omega)  (hP.sub [0, 1, 2] rfl) (hD.sub [0, 1, 2] (by decide) rfl) hS (lv_sub hl [0, 1, 2, 3] rfl)
        · skip
          refine lv_iload_n hx hb dX4_storesOf_21 rfl (lv_at hl 1 rfl) ?_
          refine lv_aload_n hx hb dX4_storesOf_22 rfl (lv_at hl 2 rfl) ?_
          refine va_get (D := D) (ci := 4) (v := .ref nd) (C := RX4) (T := TX4) (N := 11) hx hb hts iw4 hown hK hP 0 rfl rfl 2 (by decide) fw2 (fun _ h9 => h9) rfl dX4_storesOf_23 ?_
          refine va_get (D := D) (ci := 1) (v := .ref ns) (C := RX1) (T := TX1) (N := 6) hx hb hts iw1 hown hK hP 1 rfl rfl 2 (by decide) fw3 (fun _ h9 => h9) rfl dX4_storesOf_26 ?_
          refine lv_iload_n hx hb dX4_storesOf_29 rfl (lv_at hl 0 rfl) ?_
          refine va_iald hx hb hK hP 2 0 rfl rfl (vp_in_nI (by omega) (by decide)) dX4_storesOf_30 ?_
          rw [nI_clamp (n := j91) (by omega)]
          refine lv_iadd hx hb dX4_storesOf_31 ?_
          refine lv_istore_n (lv' := [(2, .int (x5 + (nfs j91))), (3, .int (nI j91)), (0, .ref nw), (1, .int x)]) hx hb dX4_storesOf_32 rfl hl (by decide) rfl (fun ls hl => ?_)
          refine lv_iinc (v := (nI (j91 + 1))) (lv' := [(3, .int (nI (j91 + 1))), (2, .int (x5 + (nfs j91))), (0, .ref nw), (1, .int x)]) hx hb dX4_storesOf_33 hl (k := 1) rfl (nI_1 j91) (by decide) rfl (fun ls hl => ?_)
          refine lv_goto (tgt := 4) hx hb dX4_storesOf_36 (by decide) ?_
          exact ihj91 (j91 + 1) (x5 + (nfs j91)) H locs ls (by omega) (by omega)  (hP.sub [0, 1, 2] rfl) (hD.sub [0, 1, 2] (by decide) rfl) hS (lv_sub hl [0, 1, 2, 3] rfl)
  exact lp10 (gl + 1) 0 0 _ _ _ (by omega) (by omega)  hP hD hS (lv_sub hl [0, 1, 2, 3] rfl)

set_option maxHeartbeats 4000000 in
set_option maxRecDepth 100000 in
theorem gc_Plain_on5 (l : Launch) (D : va_G) (y : Nat → ClassId) (o : Nat) (t : Int32) (l2 : Int32) (c2 : Int32)  : kw_Mi l yX5_sight wsX5_sight ({ frames := 1, cells := 0, slots := 0, locals := 60 }) D y [.ref o, .int t, .int l2, .int c2] [(o, .inr (5, []))] (fun (r : Int32) (u : Unit) => r = (if 0 < ((l2 - (2 * t)) - c2) then ((l2 - (2 * t)) - c2) else 0)) (fun _ => [(o, .inr (5, []))]) 0 0 := by
  refine kw_Mi.of (cc := cX5_sight) (maxL := 4) (ret := (some .int)) (by decide) rfl ?_
  intro pZ eZ s mZ beZ meZ cZ A hE
  obtain ⟨hx, hb, hr, hml, hts, hown, hlocks, hin, hA, hP, hD, hK, hN⟩ := hE
  have hS : va_S A s.heap s.heap [] := va_S.rf
  have hl := lv_entry ([.ref o, .int t, .int l2, .int c2]) (n := 4) (Nat.le_of_ble_eq_true rfl)
  rw [lg_entry_eq]
  generalize (lg_sl ([.ref o, .int t, .int l2, .int c2]) ++ List.replicate (4 - (lg_sl ([.ref o, .int t, .int l2, .int c2])).length) Slot.unset).toArray = ls at hl ⊢
  have hl : lv_has ls 4 [(0, .ref o), (1, .int t), (2, .int l2), (3, .int c2)] := hl
  have fw1 := hts (.methodLink RX5 7 Lib.Math.max.name) (List.mem_of_getElem? (i := 1) rfl)
  have fw2 := hts (.static Lib.Math.max.name) (List.mem_of_getElem? (i := 2) rfl)
  have fw3 := hts (.initialized "java/lang/Math") (List.mem_of_getElem? (i := 3) rfl)
  have fw4 := hts (.code Lib.Math.max.name Lib.Math.max.code 2 (some .int)) (List.mem_of_getElem? (i := 4) rfl)
  refine lv_iconst (v := 0) hx hb dX5_sight_0 (by decide) ?_
  refine lv_iload_n hx hb dX5_sight_1 rfl (lv_at hl 2 rfl) ?_
  refine lv_iconst (v := 2) hx hb dX5_sight_2 (by decide) ?_
  refine lv_iload_n hx hb dX5_sight_3 rfl (lv_at hl 1 rfl) ?_
  refine lv_imul hx hb dX5_sight_4 ?_
  refine lv_isub hx hb dX5_sight_5 ?_
  refine lv_iload_n hx hb dX5_sight_6 rfl (lv_at hl 3 rfl) ?_
  refine lv_isub hx hb dX5_sight_7 ?_
  refine va_mmax hx hb (hml.trans hl.1.symm) hown fw1 fw2 fw3 fw4 (Nat.le_of_ble_eq_true rfl) (Nat.le_of_ble_eq_true rfl) (Nat.le_of_ble_eq_true rfl) (Nat.le_of_ble_eq_true rfl) dX5_sight_8 ?_
  exact W.iret (v := (if 0 < ((l2 - (2 * t)) - c2) then ((l2 - (2 * t)) - c2) else 0)) hx hb hr (fun tZ ht hW => ⟨⟨(if 0 < ((l2 - (2 * t)) - c2) then ((l2 - (2 * t)) - c2) else 0), (), rfl, rfl, by rw [ht]; exact hP.sub [0] rfl, hD.sub [0] (by decide) rfl⟩, hS.F ht⟩) hS.2.2 dX5_sight_11

set_option maxHeartbeats 4000000 in
set_option maxRecDepth 100000 in
theorem gc_Plain_on8 (l : Launch) (D : va_G) (y : Nat → ClassId) (o : Nat) (t : Int32) (l2 : Int32) (c2 : Int32)  : kw_Mi l yX5_sight wsX5_sight ({ frames := 1, cells := 0, slots := 0, locals := 60 }) D y [.ref o, .int t, .int l2, .int c2] [(o, .inr (8, []))] (fun (r : Int32) (u : Unit) => r = (if 0 < ((l2 - (2 * t)) - c2) then ((l2 - (2 * t)) - c2) else 0)) (fun _ => [(o, .inr (8, []))]) 0 0 := by
  refine kw_Mi.of (cc := cX5_sight) (maxL := 4) (ret := (some .int)) (by decide) rfl ?_
  intro pZ eZ s mZ beZ meZ cZ A hE
  obtain ⟨hx, hb, hr, hml, hts, hown, hlocks, hin, hA, hP, hD, hK, hN⟩ := hE
  have hS : va_S A s.heap s.heap [] := va_S.rf
  have hl := lv_entry ([.ref o, .int t, .int l2, .int c2]) (n := 4) (Nat.le_of_ble_eq_true rfl)
  rw [lg_entry_eq]
  generalize (lg_sl ([.ref o, .int t, .int l2, .int c2]) ++ List.replicate (4 - (lg_sl ([.ref o, .int t, .int l2, .int c2])).length) Slot.unset).toArray = ls at hl ⊢
  have hl : lv_has ls 4 [(0, .ref o), (1, .int t), (2, .int l2), (3, .int c2)] := hl
  have fw1 := hts (.methodLink RX5 7 Lib.Math.max.name) (List.mem_of_getElem? (i := 1) rfl)
  have fw2 := hts (.static Lib.Math.max.name) (List.mem_of_getElem? (i := 2) rfl)
  have fw3 := hts (.initialized "java/lang/Math") (List.mem_of_getElem? (i := 3) rfl)
  have fw4 := hts (.code Lib.Math.max.name Lib.Math.max.code 2 (some .int)) (List.mem_of_getElem? (i := 4) rfl)
  refine lv_iconst (v := 0) hx hb dX5_sight_0 (by decide) ?_
  refine lv_iload_n hx hb dX5_sight_1 rfl (lv_at hl 2 rfl) ?_
  refine lv_iconst (v := 2) hx hb dX5_sight_2 (by decide) ?_
  refine lv_iload_n hx hb dX5_sight_3 rfl (lv_at hl 1 rfl) ?_
  refine lv_imul hx hb dX5_sight_4 ?_
  refine lv_isub hx hb dX5_sight_5 ?_
  refine lv_iload_n hx hb dX5_sight_6 rfl (lv_at hl 3 rfl) ?_
  refine lv_isub hx hb dX5_sight_7 ?_
  refine va_mmax hx hb (hml.trans hl.1.symm) hown fw1 fw2 fw3 fw4 (Nat.le_of_ble_eq_true rfl) (Nat.le_of_ble_eq_true rfl) (Nat.le_of_ble_eq_true rfl) (Nat.le_of_ble_eq_true rfl) dX5_sight_8 ?_
  exact W.iret (v := (if 0 < ((l2 - (2 * t)) - c2) then ((l2 - (2 * t)) - c2) else 0)) hx hb hr (fun tZ ht hW => ⟨⟨(if 0 < ((l2 - (2 * t)) - c2) then ((l2 - (2 * t)) - c2) else 0), (), rfl, rfl, by rw [ht]; exact hP.sub [0] rfl, hD.sub [0] (by decide) rfl⟩, hS.F ht⟩) hS.2.2 dX5_sight_11

set_option maxHeartbeats 4000000 in
set_option maxRecDepth 100000 in
theorem gc_Plain_on9 (l : Launch) (D : va_G) (y : Nat → ClassId) (o : Nat) (t : Int32) (l2 : Int32) (c2 : Int32)  : kw_Mi l yX5_sight wsX5_sight ({ frames := 1, cells := 0, slots := 0, locals := 60 }) D y [.ref o, .int t, .int l2, .int c2] [(o, .inr (9, []))] (fun (r : Int32) (u : Unit) => r = (if 0 < ((l2 - (2 * t)) - c2) then ((l2 - (2 * t)) - c2) else 0)) (fun _ => [(o, .inr (9, []))]) 0 0 := by
  refine kw_Mi.of (cc := cX5_sight) (maxL := 4) (ret := (some .int)) (by decide) rfl ?_
  intro pZ eZ s mZ beZ meZ cZ A hE
  obtain ⟨hx, hb, hr, hml, hts, hown, hlocks, hin, hA, hP, hD, hK, hN⟩ := hE
  have hS : va_S A s.heap s.heap [] := va_S.rf
  have hl := lv_entry ([.ref o, .int t, .int l2, .int c2]) (n := 4) (Nat.le_of_ble_eq_true rfl)
  rw [lg_entry_eq]
  generalize (lg_sl ([.ref o, .int t, .int l2, .int c2]) ++ List.replicate (4 - (lg_sl ([.ref o, .int t, .int l2, .int c2])).length) Slot.unset).toArray = ls at hl ⊢
  have hl : lv_has ls 4 [(0, .ref o), (1, .int t), (2, .int l2), (3, .int c2)] := hl
  have fw1 := hts (.methodLink RX5 7 Lib.Math.max.name) (List.mem_of_getElem? (i := 1) rfl)
  have fw2 := hts (.static Lib.Math.max.name) (List.mem_of_getElem? (i := 2) rfl)
  have fw3 := hts (.initialized "java/lang/Math") (List.mem_of_getElem? (i := 3) rfl)
  have fw4 := hts (.code Lib.Math.max.name Lib.Math.max.code 2 (some .int)) (List.mem_of_getElem? (i := 4) rfl)
  refine lv_iconst (v := 0) hx hb dX5_sight_0 (by decide) ?_
  refine lv_iload_n hx hb dX5_sight_1 rfl (lv_at hl 2 rfl) ?_
  refine lv_iconst (v := 2) hx hb dX5_sight_2 (by decide) ?_
  refine lv_iload_n hx hb dX5_sight_3 rfl (lv_at hl 1 rfl) ?_
  refine lv_imul hx hb dX5_sight_4 ?_
  refine lv_isub hx hb dX5_sight_5 ?_
  refine lv_iload_n hx hb dX5_sight_6 rfl (lv_at hl 3 rfl) ?_
  refine lv_isub hx hb dX5_sight_7 ?_
  refine va_mmax hx hb (hml.trans hl.1.symm) hown fw1 fw2 fw3 fw4 (Nat.le_of_ble_eq_true rfl) (Nat.le_of_ble_eq_true rfl) (Nat.le_of_ble_eq_true rfl) (Nat.le_of_ble_eq_true rfl) dX5_sight_8 ?_
  exact W.iret (v := (if 0 < ((l2 - (2 * t)) - c2) then ((l2 - (2 * t)) - c2) else 0)) hx hb hr (fun tZ ht hW => ⟨⟨(if 0 < ((l2 - (2 * t)) - c2) then ((l2 - (2 * t)) - c2) else 0), (), rfl, rfl, by rw [ht]; exact hP.sub [0] rfl, hD.sub [0] (by decide) rfl⟩, hS.F ht⟩) hS.2.2 dX5_sight_11

set_option maxHeartbeats 4000000 in
set_option maxRecDepth 100000 in
theorem gc_Plain_on6 (l : Launch) (D : va_G) (y : Nat → ClassId) (o : Nat) (t : Int32) (l2 : Int32) (c2 : Int32)  : kw_Mi l yX5_sight wsX5_sight ({ frames := 1, cells := 0, slots := 0, locals := 60 }) D y [.ref o, .int t, .int l2, .int c2] [(o, .inr (6, []))] (fun (r : Int32) (u : Unit) => r = (if 0 < ((l2 - (2 * t)) - c2) then ((l2 - (2 * t)) - c2) else 0)) (fun _ => [(o, .inr (6, []))]) 0 0 := by
  refine kw_Mi.of (cc := cX5_sight) (maxL := 4) (ret := (some .int)) (by decide) rfl ?_
  intro pZ eZ s mZ beZ meZ cZ A hE
  obtain ⟨hx, hb, hr, hml, hts, hown, hlocks, hin, hA, hP, hD, hK, hN⟩ := hE
  have hS : va_S A s.heap s.heap [] := va_S.rf
  have hl := lv_entry ([.ref o, .int t, .int l2, .int c2]) (n := 4) (Nat.le_of_ble_eq_true rfl)
  rw [lg_entry_eq]
  generalize (lg_sl ([.ref o, .int t, .int l2, .int c2]) ++ List.replicate (4 - (lg_sl ([.ref o, .int t, .int l2, .int c2])).length) Slot.unset).toArray = ls at hl ⊢
  have hl : lv_has ls 4 [(0, .ref o), (1, .int t), (2, .int l2), (3, .int c2)] := hl
  have fw1 := hts (.methodLink RX5 7 Lib.Math.max.name) (List.mem_of_getElem? (i := 1) rfl)
  have fw2 := hts (.static Lib.Math.max.name) (List.mem_of_getElem? (i := 2) rfl)
  have fw3 := hts (.initialized "java/lang/Math") (List.mem_of_getElem? (i := 3) rfl)
  have fw4 := hts (.code Lib.Math.max.name Lib.Math.max.code 2 (some .int)) (List.mem_of_getElem? (i := 4) rfl)
  refine lv_iconst (v := 0) hx hb dX5_sight_0 (by decide) ?_
  refine lv_iload_n hx hb dX5_sight_1 rfl (lv_at hl 2 rfl) ?_
  refine lv_iconst (v := 2) hx hb dX5_sight_2 (by decide) ?_
  refine lv_iload_n hx hb dX5_sight_3 rfl (lv_at hl 1 rfl) ?_
  refine lv_imul hx hb dX5_sight_4 ?_
  refine lv_isub hx hb dX5_sight_5 ?_
  refine lv_iload_n hx hb dX5_sight_6 rfl (lv_at hl 3 rfl) ?_
  refine lv_isub hx hb dX5_sight_7 ?_
  refine va_mmax hx hb (hml.trans hl.1.symm) hown fw1 fw2 fw3 fw4 (Nat.le_of_ble_eq_true rfl) (Nat.le_of_ble_eq_true rfl) (Nat.le_of_ble_eq_true rfl) (Nat.le_of_ble_eq_true rfl) dX5_sight_8 ?_
  exact W.iret (v := (if 0 < ((l2 - (2 * t)) - c2) then ((l2 - (2 * t)) - c2) else 0)) hx hb hr (fun tZ ht hW => ⟨⟨(if 0 < ((l2 - (2 * t)) - c2) then ((l2 - (2 * t)) - c2) else 0), (), rfl, rfl, by rw [ht]; exact hP.sub [0] rfl, hD.sub [0] (by decide) rfl⟩, hS.F ht⟩) hS.2.2 dX5_sight_11

set_option maxHeartbeats 4000000 in
set_option maxRecDepth 100000 in
theorem gc_Plain_on2 (l : Launch) (D : va_G) (y : Nat → ClassId) (o : Nat) (t : Int32) (l2 : Int32) (c2 : Int32)  : kw_Mi l yX5_sight wsX5_sight ({ frames := 1, cells := 0, slots := 0, locals := 60 }) D y [.ref o, .int t, .int l2, .int c2] [(o, .inr (2, []))] (fun (r : Int32) (u : Unit) => r = (if 0 < ((l2 - (2 * t)) - c2) then ((l2 - (2 * t)) - c2) else 0)) (fun _ => [(o, .inr (2, []))]) 0 0 := by
  refine kw_Mi.of (cc := cX5_sight) (maxL := 4) (ret := (some .int)) (by decide) rfl ?_
  intro pZ eZ s mZ beZ meZ cZ A hE
  obtain ⟨hx, hb, hr, hml, hts, hown, hlocks, hin, hA, hP, hD, hK, hN⟩ := hE
  have hS : va_S A s.heap s.heap [] := va_S.rf
  have hl := lv_entry ([.ref o, .int t, .int l2, .int c2]) (n := 4) (Nat.le_of_ble_eq_true rfl)
  rw [lg_entry_eq]
  generalize (lg_sl ([.ref o, .int t, .int l2, .int c2]) ++ List.replicate (4 - (lg_sl ([.ref o, .int t, .int l2, .int c2])).length) Slot.unset).toArray = ls at hl ⊢
  have hl : lv_has ls 4 [(0, .ref o), (1, .int t), (2, .int l2), (3, .int c2)] := hl
  have fw1 := hts (.methodLink RX5 7 Lib.Math.max.name) (List.mem_of_getElem? (i := 1) rfl)
  have fw2 := hts (.static Lib.Math.max.name) (List.mem_of_getElem? (i := 2) rfl)
  have fw3 := hts (.initialized "java/lang/Math") (List.mem_of_getElem? (i := 3) rfl)
  have fw4 := hts (.code Lib.Math.max.name Lib.Math.max.code 2 (some .int)) (List.mem_of_getElem? (i := 4) rfl)
  refine lv_iconst (v := 0) hx hb dX5_sight_0 (by decide) ?_
  refine lv_iload_n hx hb dX5_sight_1 rfl (lv_at hl 2 rfl) ?_
  refine lv_iconst (v := 2) hx hb dX5_sight_2 (by decide) ?_
  refine lv_iload_n hx hb dX5_sight_3 rfl (lv_at hl 1 rfl) ?_
  refine lv_imul hx hb dX5_sight_4 ?_
  refine lv_isub hx hb dX5_sight_5 ?_
  refine lv_iload_n hx hb dX5_sight_6 rfl (lv_at hl 3 rfl) ?_
  refine lv_isub hx hb dX5_sight_7 ?_
  refine va_mmax hx hb (hml.trans hl.1.symm) hown fw1 fw2 fw3 fw4 (Nat.le_of_ble_eq_true rfl) (Nat.le_of_ble_eq_true rfl) (Nat.le_of_ble_eq_true rfl) (Nat.le_of_ble_eq_true rfl) dX5_sight_8 ?_
  exact W.iret (v := (if 0 < ((l2 - (2 * t)) - c2) then ((l2 - (2 * t)) - c2) else 0)) hx hb hr (fun tZ ht hW => ⟨⟨(if 0 < ((l2 - (2 * t)) - c2) then ((l2 - (2 * t)) - c2) else 0), (), rfl, rfl, by rw [ht]; exact hP.sub [0] rfl, hD.sub [0] (by decide) rfl⟩, hS.F ht⟩) hS.2.2 dX5_sight_11

set_option maxHeartbeats 4000000 in
set_option maxRecDepth 100000 in
theorem gc_Plain_on3 (l : Launch) (D : va_G) (y : Nat → ClassId) (o : Nat) (t : Int32) (l2 : Int32) (c2 : Int32)  : kw_Mi l yX5_sight wsX5_sight ({ frames := 1, cells := 0, slots := 0, locals := 60 }) D y [.ref o, .int t, .int l2, .int c2] [(o, .inr (3, []))] (fun (r : Int32) (u : Unit) => r = (if 0 < ((l2 - (2 * t)) - c2) then ((l2 - (2 * t)) - c2) else 0)) (fun _ => [(o, .inr (3, []))]) 0 0 := by
  refine kw_Mi.of (cc := cX5_sight) (maxL := 4) (ret := (some .int)) (by decide) rfl ?_
  intro pZ eZ s mZ beZ meZ cZ A hE
  obtain ⟨hx, hb, hr, hml, hts, hown, hlocks, hin, hA, hP, hD, hK, hN⟩ := hE
  have hS : va_S A s.heap s.heap [] := va_S.rf
  have hl := lv_entry ([.ref o, .int t, .int l2, .int c2]) (n := 4) (Nat.le_of_ble_eq_true rfl)
  rw [lg_entry_eq]
  generalize (lg_sl ([.ref o, .int t, .int l2, .int c2]) ++ List.replicate (4 - (lg_sl ([.ref o, .int t, .int l2, .int c2])).length) Slot.unset).toArray = ls at hl ⊢
  have hl : lv_has ls 4 [(0, .ref o), (1, .int t), (2, .int l2), (3, .int c2)] := hl
  have fw1 := hts (.methodLink RX5 7 Lib.Math.max.name) (List.mem_of_getElem? (i := 1) rfl)
  have fw2 := hts (.static Lib.Math.max.name) (List.mem_of_getElem? (i := 2) rfl)
  have fw3 := hts (.initialized "java/lang/Math") (List.mem_of_getElem? (i := 3) rfl)
  have fw4 := hts (.code Lib.Math.max.name Lib.Math.max.code 2 (some .int)) (List.mem_of_getElem? (i := 4) rfl)
  refine lv_iconst (v := 0) hx hb dX5_sight_0 (by decide) ?_
  refine lv_iload_n hx hb dX5_sight_1 rfl (lv_at hl 2 rfl) ?_
  refine lv_iconst (v := 2) hx hb dX5_sight_2 (by decide) ?_
  refine lv_iload_n hx hb dX5_sight_3 rfl (lv_at hl 1 rfl) ?_
  refine lv_imul hx hb dX5_sight_4 ?_
  refine lv_isub hx hb dX5_sight_5 ?_
  refine lv_iload_n hx hb dX5_sight_6 rfl (lv_at hl 3 rfl) ?_
  refine lv_isub hx hb dX5_sight_7 ?_
  refine va_mmax hx hb (hml.trans hl.1.symm) hown fw1 fw2 fw3 fw4 (Nat.le_of_ble_eq_true rfl) (Nat.le_of_ble_eq_true rfl) (Nat.le_of_ble_eq_true rfl) (Nat.le_of_ble_eq_true rfl) dX5_sight_8 ?_
  exact W.iret (v := (if 0 < ((l2 - (2 * t)) - c2) then ((l2 - (2 * t)) - c2) else 0)) hx hb hr (fun tZ ht hW => ⟨⟨(if 0 < ((l2 - (2 * t)) - c2) then ((l2 - (2 * t)) - c2) else 0), (), rfl, rfl, by rw [ht]; exact hP.sub [0] rfl, hD.sub [0] (by decide) rfl⟩, hS.F ht⟩) hS.2.2 dX5_sight_11

set_option maxHeartbeats 4000000 in
set_option maxRecDepth 100000 in
theorem gc_West_on8 (l : Launch) (D : va_G) (y : Nat → ClassId) (o : Nat) (t : Int32) (l2 : Int32) (c2 : Int32)  : kw_Mi l yX8_sight wsX8_sight ({ frames := 2, cells := 0, slots := 0, locals := 83 }) D y [.ref o, .int t, .int l2, .int c2] [(o, .inr (8, []))] (fun (r : Int32) (u : Unit) => True) (fun _ => [(o, .inr (8, []))]) 0 0 := by
  refine kw_Mi.of (cc := cX8_sight) (maxL := 5) (ret := (some .int)) (by decide) rfl ?_
  intro pZ eZ s mZ beZ meZ cZ A hE
  obtain ⟨hx, hb, hr, hml, hts, hown, hlocks, hin, hA, hP, hD, hK, hN⟩ := hE
  have hS : va_S A s.heap s.heap [] := va_S.rf
  have hl := lv_entry ([.ref o, .int t, .int l2, .int c2]) (n := 5) (Nat.le_of_ble_eq_true rfl)
  rw [lg_entry_eq]
  generalize (lg_sl ([.ref o, .int t, .int l2, .int c2]) ++ List.replicate (5 - (lg_sl ([.ref o, .int t, .int l2, .int c2])).length) Slot.unset).toArray = ls at hl ⊢
  have hl : lv_has ls 5 [(0, .ref o), (1, .int t), (2, .int l2), (3, .int c2)] := hl
  refine lv_aload_n hx hb dX8_sight_0 rfl (lv_at hl 0 rfl) ?_
  refine lv_iload_n hx hb dX8_sight_1 rfl (lv_at hl 1 rfl) ?_
  refine lv_iload_n hx hb dX8_sight_2 rfl (lv_at hl 2 rfl) ?_
  refine lv_iload_n hx hb dX8_sight_3 rfl (lv_at hl 3 rfl) ?_
  have hs1 : kw_Split [(o, .inr (8, []))] [(o, .inr (8, []))] [] [0] [] := ⟨rfl, rfl, rfl, rfl, rfl, by decide⟩
  refine kw_go_i hs1 hP hD hS hA (va_runSU (As := [.int t, .int l2, .int c2]) (rest := []) (hK.1 8 _ rfl).2 ⟨hx, hb, hml, hown, hts⟩ (gc_Plain_on8 l D y o t l2 c2  _) (va_cwSU 3 hts gX8_sight_X5_sight_s7 rfl rfl rfl (by decide +kernel) ⟨Nat.le_of_ble_eq_true rfl, Nat.le_of_ble_eq_true rfl⟩) (kw_PreV (ci := 8) (q0 := 0) hs1 hP hD hK hN rfl rfl) rfl rfl hl.1 rfl (lv_room (Nat.le_of_ble_eq_true rfl)) dX8_sight_4 ⟨Nat.le_of_ble_eq_true rfl, Nat.le_of_ble_eq_true rfl⟩) (fun r2 u3 H locs hq hP hD hS => ?_)
  obtain rfl := hq
  have hP : va_P D vwCl [(o, .inr (8, []))] H := hP
  have hD : va_D A [(o, .inr (8, []))] := hD
  refine lv_istore (lv' := [(4, .int (if 0 < ((l2 - (2 * t)) - c2) then ((l2 - (2 * t)) - c2) else 0)), (0, .ref o), (1, .int t), (2, .int l2), (3, .int c2)]) hx hb dX8_sight_7 hl (by decide) rfl (fun ls hl => ?_)
  refine lv_iload_n hx hb dX8_sight_9 rfl (lv_at hl 2 rfl) ?_
  refine lv_bipush (v := 6) hx hb dX8_sight_10 (by decide) ?_
  refine lv_icmp_lt (tgt := 27) hx hb dX8_sight_12 (by decide) (fun h4 => ?_) (fun h5 => ?_)
  · skip
    refine lv_iload hx hb dX8_sight_27 (lv_at hl 0 rfl) ?_
    exact W.iret (v := (if 0 < ((l2 - (2 * t)) - c2) then ((l2 - (2 * t)) - c2) else 0)) hx hb hr (fun tZ ht hW => ⟨⟨(if 0 < ((l2 - (2 * t)) - c2) then ((l2 - (2 * t)) - c2) else 0), (), rfl, trivial, by rw [ht]; exact hP.sub [0] rfl, hD.sub [0] (by decide) rfl⟩, hS.F ht⟩) hS.2.2 dX8_sight_29
  · skip
    refine lv_iload_n hx hb dX8_sight_15 rfl (lv_at hl 3 rfl) ?_
    refine lv_iconst (v := 1) hx hb dX8_sight_16 (by decide) ?_
    refine lv_icmp_lt (tgt := 27) hx hb dX8_sight_17 (by decide) (fun h6 => ?_) (fun h7 => ?_)
    · skip
      refine lv_iload hx hb dX8_sight_27 (lv_at hl 0 rfl) ?_
      exact W.iret (v := (if 0 < ((l2 - (2 * t)) - c2) then ((l2 - (2 * t)) - c2) else 0)) hx hb hr (fun tZ ht hW => ⟨⟨(if 0 < ((l2 - (2 * t)) - c2) then ((l2 - (2 * t)) - c2) else 0), (), rfl, trivial, by rw [ht]; exact hP.sub [0] rfl, hD.sub [0] (by decide) rfl⟩, hS.F ht⟩) hS.2.2 dX8_sight_29
    · skip
      refine lv_iload hx hb dX8_sight_20 (lv_at hl 0 rfl) ?_
      refine lv_iload_n hx hb dX8_sight_22 rfl (lv_at hl 2 rfl) ?_
      refine lv_iadd hx hb dX8_sight_23 ?_
      refine lv_goto (tgt := 29) hx hb dX8_sight_24 (by decide) ?_
      exact W.iret (v := ((if 0 < ((l2 - (2 * t)) - c2) then ((l2 - (2 * t)) - c2) else 0) + t)) hx hb hr (fun tZ ht hW => ⟨⟨((if 0 < ((l2 - (2 * t)) - c2) then ((l2 - (2 * t)) - c2) else 0) + t), (), rfl, trivial, by rw [ht]; exact hP.sub [0] rfl, hD.sub [0] (by decide) rfl⟩, hS.F ht⟩) hS.2.2 dX8_sight_29

set_option maxHeartbeats 4000000 in
set_option maxRecDepth 100000 in
theorem gc_West_on2 (l : Launch) (D : va_G) (y : Nat → ClassId) (o : Nat) (t : Int32) (l2 : Int32) (c2 : Int32)  : kw_Mi l yX8_sight wsX8_sight ({ frames := 2, cells := 0, slots := 0, locals := 83 }) D y [.ref o, .int t, .int l2, .int c2] [(o, .inr (2, []))] (fun (r : Int32) (u : Unit) => True) (fun _ => [(o, .inr (2, []))]) 0 0 := by
  refine kw_Mi.of (cc := cX8_sight) (maxL := 5) (ret := (some .int)) (by decide) rfl ?_
  intro pZ eZ s mZ beZ meZ cZ A hE
  obtain ⟨hx, hb, hr, hml, hts, hown, hlocks, hin, hA, hP, hD, hK, hN⟩ := hE
  have hS : va_S A s.heap s.heap [] := va_S.rf
  have hl := lv_entry ([.ref o, .int t, .int l2, .int c2]) (n := 5) (Nat.le_of_ble_eq_true rfl)
  rw [lg_entry_eq]
  generalize (lg_sl ([.ref o, .int t, .int l2, .int c2]) ++ List.replicate (5 - (lg_sl ([.ref o, .int t, .int l2, .int c2])).length) Slot.unset).toArray = ls at hl ⊢
  have hl : lv_has ls 5 [(0, .ref o), (1, .int t), (2, .int l2), (3, .int c2)] := hl
  refine lv_aload_n hx hb dX8_sight_0 rfl (lv_at hl 0 rfl) ?_
  refine lv_iload_n hx hb dX8_sight_1 rfl (lv_at hl 1 rfl) ?_
  refine lv_iload_n hx hb dX8_sight_2 rfl (lv_at hl 2 rfl) ?_
  refine lv_iload_n hx hb dX8_sight_3 rfl (lv_at hl 3 rfl) ?_
  have hs1 : kw_Split [(o, .inr (2, []))] [(o, .inr (2, []))] [] [0] [] := ⟨rfl, rfl, rfl, rfl, rfl, by decide⟩
  refine kw_go_i hs1 hP hD hS hA (va_runSU (As := [.int t, .int l2, .int c2]) (rest := []) (hK.1 2 _ rfl).2 ⟨hx, hb, hml, hown, hts⟩ (gc_Plain_on2 l D y o t l2 c2  _) (va_cwSU 3 hts gX8_sight_X5_sight_s7 rfl rfl rfl (by decide +kernel) ⟨Nat.le_of_ble_eq_true rfl, Nat.le_of_ble_eq_true rfl⟩) (kw_PreV (ci := 2) (q0 := 0) hs1 hP hD hK hN rfl rfl) rfl rfl hl.1 rfl (lv_room (Nat.le_of_ble_eq_true rfl)) dX8_sight_4 ⟨Nat.le_of_ble_eq_true rfl, Nat.le_of_ble_eq_true rfl⟩) (fun r2 u3 H locs hq hP hD hS => ?_)
  obtain rfl := hq
  have hP : va_P D vwCl [(o, .inr (2, []))] H := hP
  have hD : va_D A [(o, .inr (2, []))] := hD
  refine lv_istore (lv' := [(4, .int (if 0 < ((l2 - (2 * t)) - c2) then ((l2 - (2 * t)) - c2) else 0)), (0, .ref o), (1, .int t), (2, .int l2), (3, .int c2)]) hx hb dX8_sight_7 hl (by decide) rfl (fun ls hl => ?_)
  refine lv_iload_n hx hb dX8_sight_9 rfl (lv_at hl 2 rfl) ?_
  refine lv_bipush (v := 6) hx hb dX8_sight_10 (by decide) ?_
  refine lv_icmp_lt (tgt := 27) hx hb dX8_sight_12 (by decide) (fun h4 => ?_) (fun h5 => ?_)
  · skip
    refine lv_iload hx hb dX8_sight_27 (lv_at hl 0 rfl) ?_
    exact W.iret (v := (if 0 < ((l2 - (2 * t)) - c2) then ((l2 - (2 * t)) - c2) else 0)) hx hb hr (fun tZ ht hW => ⟨⟨(if 0 < ((l2 - (2 * t)) - c2) then ((l2 - (2 * t)) - c2) else 0), (), rfl, trivial, by rw [ht]; exact hP.sub [0] rfl, hD.sub [0] (by decide) rfl⟩, hS.F ht⟩) hS.2.2 dX8_sight_29
  · skip
    refine lv_iload_n hx hb dX8_sight_15 rfl (lv_at hl 3 rfl) ?_
    refine lv_iconst (v := 1) hx hb dX8_sight_16 (by decide) ?_
    refine lv_icmp_lt (tgt := 27) hx hb dX8_sight_17 (by decide) (fun h6 => ?_) (fun h7 => ?_)
    · skip
      refine lv_iload hx hb dX8_sight_27 (lv_at hl 0 rfl) ?_
      exact W.iret (v := (if 0 < ((l2 - (2 * t)) - c2) then ((l2 - (2 * t)) - c2) else 0)) hx hb hr (fun tZ ht hW => ⟨⟨(if 0 < ((l2 - (2 * t)) - c2) then ((l2 - (2 * t)) - c2) else 0), (), rfl, trivial, by rw [ht]; exact hP.sub [0] rfl, hD.sub [0] (by decide) rfl⟩, hS.F ht⟩) hS.2.2 dX8_sight_29
    · skip
      refine lv_iload hx hb dX8_sight_20 (lv_at hl 0 rfl) ?_
      refine lv_iload_n hx hb dX8_sight_22 rfl (lv_at hl 2 rfl) ?_
      refine lv_iadd hx hb dX8_sight_23 ?_
      refine lv_goto (tgt := 29) hx hb dX8_sight_24 (by decide) ?_
      exact W.iret (v := ((if 0 < ((l2 - (2 * t)) - c2) then ((l2 - (2 * t)) - c2) else 0) + t)) hx hb hr (fun tZ ht hW => ⟨⟨((if 0 < ((l2 - (2 * t)) - c2) then ((l2 - (2 * t)) - c2) else 0) + t), (), rfl, trivial, by rw [ht]; exact hP.sub [0] rfl, hD.sub [0] (by decide) rfl⟩, hS.F ht⟩) hS.2.2 dX8_sight_29

set_option maxHeartbeats 4000000 in
set_option maxRecDepth 100000 in
theorem gc_Wood_on9 (l : Launch) (D : va_G) (y : Nat → ClassId) (o : Nat) (t : Int32) (l2 : Int32) (c2 : Int32)  : kw_Mi l yX9_sight wsX9_sight ({ frames := 2, cells := 0, slots := 0, locals := 83 }) D y [.ref o, .int t, .int l2, .int c2] [(o, .inr (9, []))] (fun (r : Int32) (u : Unit) => r = ((if 0 < ((l2 - (2 * t)) - c2) then ((l2 - (2 * t)) - c2) else 0) / 2)) (fun _ => [(o, .inr (9, []))]) 0 0 := by
  refine kw_Mi.of (cc := cX9_sight) (maxL := 4) (ret := (some .int)) (by decide) rfl ?_
  intro pZ eZ s mZ beZ meZ cZ A hE
  obtain ⟨hx, hb, hr, hml, hts, hown, hlocks, hin, hA, hP, hD, hK, hN⟩ := hE
  have hS : va_S A s.heap s.heap [] := va_S.rf
  have hl := lv_entry ([.ref o, .int t, .int l2, .int c2]) (n := 4) (Nat.le_of_ble_eq_true rfl)
  rw [lg_entry_eq]
  generalize (lg_sl ([.ref o, .int t, .int l2, .int c2]) ++ List.replicate (4 - (lg_sl ([.ref o, .int t, .int l2, .int c2])).length) Slot.unset).toArray = ls at hl ⊢
  have hl : lv_has ls 4 [(0, .ref o), (1, .int t), (2, .int l2), (3, .int c2)] := hl
  refine lv_aload_n hx hb dX9_sight_0 rfl (lv_at hl 0 rfl) ?_
  refine lv_iload_n hx hb dX9_sight_1 rfl (lv_at hl 1 rfl) ?_
  refine lv_iload_n hx hb dX9_sight_2 rfl (lv_at hl 2 rfl) ?_
  refine lv_iload_n hx hb dX9_sight_3 rfl (lv_at hl 3 rfl) ?_
  have hs1 : kw_Split [(o, .inr (9, []))] [(o, .inr (9, []))] [] [0] [] := ⟨rfl, rfl, rfl, rfl, rfl, by decide⟩
  refine kw_go_i hs1 hP hD hS hA (va_runSU (As := [.int t, .int l2, .int c2]) (rest := []) (hK.1 9 _ rfl).2 ⟨hx, hb, hml, hown, hts⟩ (gc_Plain_on9 l D y o t l2 c2  _) (va_cwSU 3 hts gX9_sight_X5_sight_s7 rfl rfl rfl (by decide +kernel) ⟨Nat.le_of_ble_eq_true rfl, Nat.le_of_ble_eq_true rfl⟩) (kw_PreV (ci := 9) (q0 := 0) hs1 hP hD hK hN rfl rfl) rfl rfl hl.1 rfl (lv_room (Nat.le_of_ble_eq_true rfl)) dX9_sight_4 ⟨Nat.le_of_ble_eq_true rfl, Nat.le_of_ble_eq_true rfl⟩) (fun r2 u3 H locs hq hP hD hS => ?_)
  obtain rfl := hq
  have hP : va_P D vwCl [(o, .inr (9, []))] H := hP
  have hD : va_D A [(o, .inr (9, []))] := hD
  refine lv_iconst (v := 2) hx hb dX9_sight_7 (by decide) ?_
  refine lv_idiv hx hb dX9_sight_8 (by decide) ?_
  exact W.iret (v := ((if 0 < ((l2 - (2 * t)) - c2) then ((l2 - (2 * t)) - c2) else 0) / 2)) hx hb hr (fun tZ ht hW => ⟨⟨((if 0 < ((l2 - (2 * t)) - c2) then ((l2 - (2 * t)) - c2) else 0) / 2), (), rfl, rfl, by rw [ht]; exact hP.sub [0] rfl, hD.sub [0] (by decide) rfl⟩, hS.F ht⟩) hS.2.2 dX9_sight_9

set_option maxHeartbeats 4000000 in
set_option maxRecDepth 100000 in
theorem gc_Wood_on3 (l : Launch) (D : va_G) (y : Nat → ClassId) (o : Nat) (t : Int32) (l2 : Int32) (c2 : Int32)  : kw_Mi l yX9_sight wsX9_sight ({ frames := 2, cells := 0, slots := 0, locals := 83 }) D y [.ref o, .int t, .int l2, .int c2] [(o, .inr (3, []))] (fun (r : Int32) (u : Unit) => r = ((if 0 < ((l2 - (2 * t)) - c2) then ((l2 - (2 * t)) - c2) else 0) / 2)) (fun _ => [(o, .inr (3, []))]) 0 0 := by
  refine kw_Mi.of (cc := cX9_sight) (maxL := 4) (ret := (some .int)) (by decide) rfl ?_
  intro pZ eZ s mZ beZ meZ cZ A hE
  obtain ⟨hx, hb, hr, hml, hts, hown, hlocks, hin, hA, hP, hD, hK, hN⟩ := hE
  have hS : va_S A s.heap s.heap [] := va_S.rf
  have hl := lv_entry ([.ref o, .int t, .int l2, .int c2]) (n := 4) (Nat.le_of_ble_eq_true rfl)
  rw [lg_entry_eq]
  generalize (lg_sl ([.ref o, .int t, .int l2, .int c2]) ++ List.replicate (4 - (lg_sl ([.ref o, .int t, .int l2, .int c2])).length) Slot.unset).toArray = ls at hl ⊢
  have hl : lv_has ls 4 [(0, .ref o), (1, .int t), (2, .int l2), (3, .int c2)] := hl
  refine lv_aload_n hx hb dX9_sight_0 rfl (lv_at hl 0 rfl) ?_
  refine lv_iload_n hx hb dX9_sight_1 rfl (lv_at hl 1 rfl) ?_
  refine lv_iload_n hx hb dX9_sight_2 rfl (lv_at hl 2 rfl) ?_
  refine lv_iload_n hx hb dX9_sight_3 rfl (lv_at hl 3 rfl) ?_
  have hs1 : kw_Split [(o, .inr (3, []))] [(o, .inr (3, []))] [] [0] [] := ⟨rfl, rfl, rfl, rfl, rfl, by decide⟩
  refine kw_go_i hs1 hP hD hS hA (va_runSU (As := [.int t, .int l2, .int c2]) (rest := []) (hK.1 3 _ rfl).2 ⟨hx, hb, hml, hown, hts⟩ (gc_Plain_on3 l D y o t l2 c2  _) (va_cwSU 3 hts gX9_sight_X5_sight_s7 rfl rfl rfl (by decide +kernel) ⟨Nat.le_of_ble_eq_true rfl, Nat.le_of_ble_eq_true rfl⟩) (kw_PreV (ci := 3) (q0 := 0) hs1 hP hD hK hN rfl rfl) rfl rfl hl.1 rfl (lv_room (Nat.le_of_ble_eq_true rfl)) dX9_sight_4 ⟨Nat.le_of_ble_eq_true rfl, Nat.le_of_ble_eq_true rfl⟩) (fun r2 u3 H locs hq hP hD hS => ?_)
  obtain rfl := hq
  have hP : va_P D vwCl [(o, .inr (3, []))] H := hP
  have hD : va_D A [(o, .inr (3, []))] := hD
  refine lv_iconst (v := 2) hx hb dX9_sight_7 (by decide) ?_
  refine lv_idiv hx hb dX9_sight_8 (by decide) ?_
  exact W.iret (v := ((if 0 < ((l2 - (2 * t)) - c2) then ((l2 - (2 * t)) - c2) else 0) / 2)) hx hb hr (fun tZ ht hW => ⟨⟨((if 0 < ((l2 - (2 * t)) - c2) then ((l2 - (2 * t)) - c2) else 0) / 2), (), rfl, rfl, by rw [ht]; exact hP.sub [0] rfl, hD.sub [0] (by decide) rfl⟩, hS.F ht⟩) hS.2.2 dX9_sight_9

set_option maxHeartbeats 4000000 in
set_option maxRecDepth 100000 in
theorem gc_Puddle_on6 (l : Launch) (D : va_G) (y : Nat → ClassId) (o : Nat) (t : Int32) (l2 : Int32) (c2 : Int32)  : kw_Mi l yX6_sight wsX6_sight ({ frames := 2, cells := 0, slots := 0, locals := 83 }) D y [.ref o, .int t, .int l2, .int c2] [(o, .inr (6, []))] (fun (r : Int32) (u : Unit) => r = (if ((if 0 < ((l2 - (2 * t)) - c2) then ((l2 - (2 * t)) - c2) else 0) + c2) < l2 then ((if 0 < ((l2 - (2 * t)) - c2) then ((l2 - (2 * t)) - c2) else 0) + c2) else l2)) (fun _ => [(o, .inr (6, []))]) 0 0 := by
  refine kw_Mi.of (cc := cX6_sight) (maxL := 4) (ret := (some .int)) (by decide) rfl ?_
  intro pZ eZ s mZ beZ meZ cZ A hE
  obtain ⟨hx, hb, hr, hml, hts, hown, hlocks, hin, hA, hP, hD, hK, hN⟩ := hE
  have hS : va_S A s.heap s.heap [] := va_S.rf
  have hl := lv_entry ([.ref o, .int t, .int l2, .int c2]) (n := 4) (Nat.le_of_ble_eq_true rfl)
  rw [lg_entry_eq]
  generalize (lg_sl ([.ref o, .int t, .int l2, .int c2]) ++ List.replicate (4 - (lg_sl ([.ref o, .int t, .int l2, .int c2])).length) Slot.unset).toArray = ls at hl ⊢
  have hl : lv_has ls 4 [(0, .ref o), (1, .int t), (2, .int l2), (3, .int c2)] := hl
  have fw1 := hts (.methodLink RX6 11 Lib.Math.min.name) (List.mem_of_getElem? (i := 1) rfl)
  have fw2 := hts (.static Lib.Math.min.name) (List.mem_of_getElem? (i := 2) rfl)
  have fw3 := hts (.initialized "java/lang/Math") (List.mem_of_getElem? (i := 3) rfl)
  have fw4 := hts (.code Lib.Math.min.name Lib.Math.min.code 2 (some .int)) (List.mem_of_getElem? (i := 4) rfl)
  refine lv_iload_n hx hb dX6_sight_0 rfl (lv_at hl 2 rfl) ?_
  refine lv_aload_n hx hb dX6_sight_1 rfl (lv_at hl 0 rfl) ?_
  refine lv_iload_n hx hb dX6_sight_2 rfl (lv_at hl 1 rfl) ?_
  refine lv_iload_n hx hb dX6_sight_3 rfl (lv_at hl 2 rfl) ?_
  refine lv_iload_n hx hb dX6_sight_4 rfl (lv_at hl 3 rfl) ?_
  have hs1 : kw_Split [(o, .inr (6, []))] [(o, .inr (6, []))] [] [0] [] := ⟨rfl, rfl, rfl, rfl, rfl, by decide⟩
  refine kw_go_i hs1 hP hD hS hA (va_runSU (As := [.int t, .int l2, .int c2]) (rest := [.int l2]) (hK.1 6 _ rfl).2 ⟨hx, hb, hml, hown, hts⟩ (gc_Plain_on6 l D y o t l2 c2  _) (va_cwSU 3 hts gX6_sight_X5_sight_s7 rfl rfl rfl (by decide +kernel) ⟨Nat.le_of_ble_eq_true rfl, Nat.le_of_ble_eq_true rfl⟩) (kw_PreV (ci := 6) (q0 := 0) hs1 hP hD hK hN rfl rfl) rfl rfl hl.1 rfl (lv_room (Nat.le_of_ble_eq_true rfl)) dX6_sight_5 ⟨Nat.le_of_ble_eq_true rfl, Nat.le_of_ble_eq_true rfl⟩) (fun r2 u3 H locs hq hP hD hS => ?_)
  obtain rfl := hq
  have hP : va_P D vwCl [(o, .inr (6, []))] H := hP
  have hD : va_D A [(o, .inr (6, []))] := hD
  refine lv_iload_n hx hb dX6_sight_8 rfl (lv_at hl 3 rfl) ?_
  refine lv_iadd hx hb dX6_sight_9 ?_
  refine va_mmin hx hb (hml.trans hl.1.symm) hown fw1 fw2 fw3 fw4 (Nat.le_of_ble_eq_true rfl) (Nat.le_of_ble_eq_true rfl) (Nat.le_of_ble_eq_true rfl) (Nat.le_of_ble_eq_true rfl) dX6_sight_10 ?_
  exact W.iret (v := (if ((if 0 < ((l2 - (2 * t)) - c2) then ((l2 - (2 * t)) - c2) else 0) + c2) < l2 then ((if 0 < ((l2 - (2 * t)) - c2) then ((l2 - (2 * t)) - c2) else 0) + c2) else l2)) hx hb hr (fun tZ ht hW => ⟨⟨(if ((if 0 < ((l2 - (2 * t)) - c2) then ((l2 - (2 * t)) - c2) else 0) + c2) < l2 then ((if 0 < ((l2 - (2 * t)) - c2) then ((l2 - (2 * t)) - c2) else 0) + c2) else l2), (), rfl, rfl, by rw [ht]; exact hP.sub [0] rfl, hD.sub [0] (by decide) rfl⟩, hS.F ht⟩) hS.2.2 dX6_sight_13

set_option maxHeartbeats 4000000 in
set_option maxRecDepth 100000 in
theorem gc_Hill_on2 (l : Launch) (D : va_G) (y : Nat → ClassId) (o : Nat) (t : Int32) (l2 : Int32) (c2 : Int32)  : kw_Mi l yX2_sight wsX2_sight ({ frames := 3, cells := 0, slots := 0, locals := 107 }) D y [.ref o, .int t, .int l2, .int c2] [(o, .inr (2, []))] (fun (r : Int32) (u : Unit) => True) (fun _ => [(o, .inr (2, []))]) 0 0 := by
  refine kw_Mi.of (cc := cX2_sight) (maxL := 4) (ret := (some .int)) (by decide) rfl ?_
  intro pZ eZ s mZ beZ meZ cZ A hE
  obtain ⟨hx, hb, hr, hml, hts, hown, hlocks, hin, hA, hP, hD, hK, hN⟩ := hE
  have hS : va_S A s.heap s.heap [] := va_S.rf
  have hl := lv_entry ([.ref o, .int t, .int l2, .int c2]) (n := 4) (Nat.le_of_ble_eq_true rfl)
  rw [lg_entry_eq]
  generalize (lg_sl ([.ref o, .int t, .int l2, .int c2]) ++ List.replicate (4 - (lg_sl ([.ref o, .int t, .int l2, .int c2])).length) Slot.unset).toArray = ls at hl ⊢
  have hl : lv_has ls 4 [(0, .ref o), (1, .int t), (2, .int l2), (3, .int c2)] := hl
  have fw1 := hts (.methodLink RX2 7 Lib.Math.max.name) (List.mem_of_getElem? (i := 1) rfl)
  have fw2 := hts (.static Lib.Math.max.name) (List.mem_of_getElem? (i := 2) rfl)
  have fw3 := hts (.initialized "java/lang/Math") (List.mem_of_getElem? (i := 3) rfl)
  have fw4 := hts (.code Lib.Math.max.name Lib.Math.max.code 2 (some .int)) (List.mem_of_getElem? (i := 4) rfl)
  refine lv_aload_n hx hb dX2_sight_0 rfl (lv_at hl 0 rfl) ?_
  refine lv_iload_n hx hb dX2_sight_1 rfl (lv_at hl 1 rfl) ?_
  refine lv_iload_n hx hb dX2_sight_2 rfl (lv_at hl 2 rfl) ?_
  refine lv_iconst (v := 0) hx hb dX2_sight_3 (by decide) ?_
  refine lv_iload_n hx hb dX2_sight_4 rfl (lv_at hl 3 rfl) ?_
  refine lv_iconst (v := 3) hx hb dX2_sight_5 (by decide) ?_
  refine lv_isub hx hb dX2_sight_6 ?_
  refine va_mmax hx hb (hml.trans hl.1.symm) hown fw1 fw2 fw3 fw4 (Nat.le_of_ble_eq_true rfl) (Nat.le_of_ble_eq_true rfl) (Nat.le_of_ble_eq_true rfl) (Nat.le_of_ble_eq_true rfl) dX2_sight_7 ?_
  have hs1 : kw_Split [(o, .inr (2, []))] [(o, .inr (2, []))] [] [0] [] := ⟨rfl, rfl, rfl, rfl, rfl, by decide⟩
  refine kw_go_i hs1 hP hD hS hA (va_runSU (As := [.int t, .int l2, .int (if 0 < (c2 - 3) then (c2 - 3) else 0)]) (rest := []) (hK.1 2 _ rfl).2 ⟨hx, hb, hml, hown, hts⟩ (gc_West_on2 l D y o t l2 (if 0 < (c2 - 3) then (c2 - 3) else 0)  _) (va_cwSU 3 hts gX2_sight_X8_sight_s13 rfl rfl rfl (by decide +kernel) ⟨Nat.le_of_ble_eq_true rfl, Nat.le_of_ble_eq_true rfl⟩) (kw_PreV (ci := 2) (q0 := 0) hs1 hP hD hK hN rfl rfl) rfl rfl hl.1 rfl (lv_room (Nat.le_of_ble_eq_true rfl)) dX2_sight_10 ⟨Nat.le_of_ble_eq_true rfl, Nat.le_of_ble_eq_true rfl⟩) (fun r2 u3 H locs hq hP hD hS => ?_)
  have hP : va_P D vwCl [(o, .inr (2, []))] H := hP
  have hD : va_D A [(o, .inr (2, []))] := hD
  exact W.iret (v := r2) hx hb hr (fun tZ ht hW => ⟨⟨r2, (), rfl, trivial, by rw [ht]; exact hP.sub [0] rfl, hD.sub [0] (by decide) rfl⟩, hS.F ht⟩) hS.2.2 dX2_sight_13

set_option maxHeartbeats 4000000 in
set_option maxRecDepth 100000 in
theorem gc_Lane_on3 (l : Launch) (D : va_G) (y : Nat → ClassId) (o : Nat) (t : Int32) (l2 : Int32) (c2 : Int32)  : kw_Mi l yX3_sight wsX3_sight ({ frames := 3, cells := 0, slots := 0, locals := 106 }) D y [.ref o, .int t, .int l2, .int c2] [(o, .inr (3, []))] (fun (r : Int32) (u : Unit) => True) (fun _ => [(o, .inr (3, []))]) 0 0 := by
  refine kw_Mi.of (cc := cX3_sight) (maxL := 4) (ret := (some .int)) (by decide) rfl ?_
  intro pZ eZ s mZ beZ meZ cZ A hE
  obtain ⟨hx, hb, hr, hml, hts, hown, hlocks, hin, hA, hP, hD, hK, hN⟩ := hE
  have hS : va_S A s.heap s.heap [] := va_S.rf
  have hl := lv_entry ([.ref o, .int t, .int l2, .int c2]) (n := 4) (Nat.le_of_ble_eq_true rfl)
  rw [lg_entry_eq]
  generalize (lg_sl ([.ref o, .int t, .int l2, .int c2]) ++ List.replicate (4 - (lg_sl ([.ref o, .int t, .int l2, .int c2])).length) Slot.unset).toArray = ls at hl ⊢
  have hl : lv_has ls 4 [(0, .ref o), (1, .int t), (2, .int l2), (3, .int c2)] := hl
  refine lv_iload_n hx hb dX3_sight_0 rfl (lv_at hl 1 rfl) ?_
  refine lv_bipush (v := 8) hx hb dX3_sight_1 (by decide) ?_
  refine lv_icmp_lt (tgt := 10) hx hb dX3_sight_3 (by decide) (fun h1 => ?_) (fun h2 => ?_)
  · skip
    refine lv_aload_n hx hb dX3_sight_10 rfl (lv_at hl 0 rfl) ?_
    refine lv_iload_n hx hb dX3_sight_11 rfl (lv_at hl 1 rfl) ?_
    refine lv_iload_n hx hb dX3_sight_12 rfl (lv_at hl 2 rfl) ?_
    refine lv_iload_n hx hb dX3_sight_13 rfl (lv_at hl 3 rfl) ?_
    have hs3 : kw_Split [(o, .inr (3, []))] [(o, .inr (3, []))] [] [0] [] := ⟨rfl, rfl, rfl, rfl, rfl, by decide⟩
    refine kw_go_i hs3 hP hD hS hA (va_runSU (As := [.int t, .int l2, .int c2]) (rest := []) (hK.1 3 _ rfl).2 ⟨hx, hb, hml, hown, hts⟩ (gc_Wood_on3 l D y o t l2 c2  _) (va_cwSU 3 hts gX3_sight_X9_sight_s7 rfl rfl rfl (by decide +kernel) ⟨Nat.le_of_ble_eq_true rfl, Nat.le_of_ble_eq_true rfl⟩) (kw_PreV (ci := 3) (q0 := 0) hs3 hP hD hK hN rfl rfl) rfl rfl hl.1 rfl (lv_room (Nat.le_of_ble_eq_true rfl)) dX3_sight_14 ⟨Nat.le_of_ble_eq_true rfl, Nat.le_of_ble_eq_true rfl⟩) (fun r4 u5 H locs hq hP hD hS => ?_)
    obtain rfl := hq
    have hP : va_P D vwCl [(o, .inr (3, []))] H := hP
    have hD : va_D A [(o, .inr (3, []))] := hD
    exact W.iret (v := ((if 0 < ((l2 - (2 * t)) - c2) then ((l2 - (2 * t)) - c2) else 0) / 2)) hx hb hr (fun tZ ht hW => ⟨⟨((if 0 < ((l2 - (2 * t)) - c2) then ((l2 - (2 * t)) - c2) else 0) / 2), (), rfl, trivial, by rw [ht]; exact hP.sub [0] rfl, hD.sub [0] (by decide) rfl⟩, hS.F ht⟩) hS.2.2 dX3_sight_17
  · skip
    refine lv_iconst (v := 0) hx hb dX3_sight_6 (by decide) ?_
    refine lv_goto (tgt := 17) hx hb dX3_sight_7 (by decide) ?_
    exact W.iret (v := 0) hx hb hr (fun tZ ht hW => ⟨⟨0, (), rfl, trivial, by rw [ht]; exact hP.sub [0] rfl, hD.sub [0] (by decide) rfl⟩, hS.F ht⟩) hS.2.2 dX3_sight_17
