set_option maxHeartbeats 4000000 in
set_option maxRecDepth 100000 in
theorem gc_notesFit_on3 (l : Launch) (D : va_G) (y : Nat → ClassId) (nw : Nat) (kk : Nat) (nk : Nat) (nd : Nat) (ne : Nat) (nm : Nat) (nn : Nat) (fi : Nat) (gl : Nat) (un : Nat) (mi : Nat) (no : Nat) (t0 : Nat) (t1 : Nat) (t2 : Nat) (t3 : Nat) (t4 : Nat) (t5 : Nat) (t0f : Nat → Int32) (t1f : Nat → Int32) (t2f : Nat → Int32) (t3f : Nat → Int32) (t4f : Nat → Int32) (t5f : Nat → Int32) (fn_ : Nat → Option Nat) (o : Nat) (x : Int32) (hfi : fi ≤ 6) (hgl : gl ≤ 5) (hun : un ≤ 8) (hmi : mi ≤ 4) (hno : no ≤ 6) (hn0 : fn_ 0 = some t0) (hn1 : fn_ 1 = some t1) (hn2 : fn_ 2 = some t2) (hn3 : fn_ 3 = some t3) (hn4 : fn_ 4 = some t4) (hn5 : fn_ 5 = some t5) : kw_Mi l yX4_notesFit wsX4_notesFit ({ frames := 4, cells := 0, slots := 0, locals := 129 }) D y [.ref nw, .int x, .ref o] [(nw, .inr (4, [.ref kk, .ref nk, .ref nd, .ref ne, .ref nm, .ref nn, .int (nI fi), .int (nI gl), .int (nI un), .int (nI mi), .int (nI no)])), (o, .inr (3, [])), (nn, .inl (y 6, 6, .inr (.inr (.inr (.inr fn_))))), (t0, .inl (y 0, 5, .inl t0f)), (t1, .inl (y 0, 5, .inl t1f)), (t2, .inl (y 0, 5, .inl t2f)), (t3, .inl (y 0, 5, .inl t3f)), (t4, .inl (y 0, 5, .inl t4f)), (t5, .inl (y 0, 5, .inl t5f))] (fun (r : Int32) (u : Unit) => (r = 0 ∨ r = 1)) (fun _ => [(nw, .inr (4, [.ref kk, .ref nk, .ref nd, .ref ne, .ref nm, .ref nn, .int (nI fi), .int (nI gl), .int (nI un), .int (nI mi), .int (nI no)])), (o, .inr (3, [])), (nn, .inl (y 6, 6, .inr (.inr (.inr (.inr fn_))))), (t0, .inl (y 0, 5, .inl t0f)), (t1, .inl (y 0, 5, .inl t1f)), (t2, .inl (y 0, 5, .inl t2f)), (t3, .inl (y 0, 5, .inl t3f)), (t4, .inl (y 0, 5, .inl t4f)), (t5, .inl (y 0, 5, .inl t5f))]) 0 0 := by
  refine kw_Mi.of (cc := cX4_notesFit) (maxL := 5) (ret := (some .boolean)) (by decide) rfl ?_
  intro pZ eZ s mZ beZ meZ cZ A hE
  obtain ⟨hx, hb, hr, hml, hts, hown, hlocks, hin, hA, hP, hD, hK, hN⟩ := hE
  have hS : va_S A s.heap s.heap [] := va_S.rf
  have hl := lv_entry ([.ref nw, .int x, .ref o]) (n := 5) (Nat.le_of_ble_eq_true rfl)
  rw [lg_entry_eq]
  generalize (lg_sl ([.ref nw, .int x, .ref o]) ++ List.replicate (5 - (lg_sl ([.ref nw, .int x, .ref o])).length) Slot.unset).toArray = ls at hl ⊢
  have hl : lv_has ls 5 [(0, .ref nw), (1, .int x), (2, .ref o)] := hl
  have fw1 := hts (.fieldLink RX4 51 "GleanDusk$Parish" "noteCount" "I") (List.mem_of_getElem? (i := 1) rfl)
  have fw2 := hts (.fieldLink RX4 31 "GleanDusk$Parish" "notes" "[[I") (List.mem_of_getElem? (i := 2) rfl)
  have iw4 : ∀ w ∈ wsX40, w ∈ wsX4_notesFit := fun _ h => List.mem_cons_of_mem _ (List.mem_append_right _ h)
  refine lv_iconst (v := 0) hx hb dX4_notesFit_0 (by decide) ?_
  refine lv_istore_n (lv' := [(3, .int 0), (0, .ref nw), (1, .int x), (2, .ref o)]) hx hb dX4_notesFit_1 rfl hl (by decide) rfl (fun ls hl => ?_)
  have lp45 : ∀ (fuj91 j91 : Nat)  (H : Heap) (locs : List Loc) (ls : Array Slot), j91 ≤ no → no - j91 < fuj91 → va_P D vwCl [(nw, .inr (4, [.ref kk, .ref nk, .ref nd, .ref ne, .ref nm, .ref nn, .int (nI fi), .int (nI gl), .int (nI un), .int (nI mi), .int (nI no)])), (o, .inr (3, [])), (nn, .inl (y 6, 6, .inr (.inr (.inr (.inr fn_))))), (t0, .inl (y 0, 5, .inl t0f)), (t1, .inl (y 0, 5, .inl t1f)), (t2, .inl (y 0, 5, .inl t2f)), (t3, .inl (y 0, 5, .inl t3f)), (t4, .inl (y 0, 5, .inl t4f)), (t5, .inl (y 0, 5, .inl t5f))] H → va_D A [(nw, .inr (4, [.ref kk, .ref nk, .ref nd, .ref ne, .ref nm, .ref nn, .int (nI fi), .int (nI gl), .int (nI un), .int (nI mi), .int (nI no)])), (o, .inr (3, [])), (nn, .inl (y 6, 6, .inr (.inr (.inr (.inr fn_))))), (t0, .inl (y 0, 5, .inl t0f)), (t1, .inl (y 0, 5, .inl t1f)), (t2, .inl (y 0, 5, .inl t2f)), (t3, .inl (y 0, 5, .inl t3f)), (t4, .inl (y 0, 5, .inl t4f)), (t5, .inl (y 0, 5, .inl t5f))] → va_S A s.heap H locs → lv_has ls 5 [(3, .int (nI j91)), (0, .ref nw), (1, .int x), (2, .ref o)] → W pZ l eZ ({ frames := 4, cells := 0, slots := 0, locals := 129 }) s mZ [.ref nw, .int x, .ref o].toArray beZ meZ cZ H locs 0 0 (MQ beZ (va_Qi (fun (r : Int32) (u : Unit) => (r = 0 ∨ r = 1)) (kw_B D (fun _ => [(nw, .inr (4, [.ref kk, .ref nk, .ref nd, .ref ne, .ref nm, .ref nn, .int (nI fi), .int (nI gl), .int (nI un), .int (nI mi), .int (nI no)])), (o, .inr (3, [])), (nn, .inl (y 6, 6, .inr (.inr (.inr (.inr fn_))))), (t0, .inl (y 0, 5, .inl t0f)), (t1, .inl (y 0, 5, .inl t1f)), (t2, .inl (y 0, 5, .inl t2f)), (t3, .inl (y 0, 5, .inl t3f)), (t4, .inl (y 0, 5, .inl t4f)), (t5, .inl (y 0, 5, .inl t5f))]) A) A) [.ref nw, .int x, .ref o].toArray s 0 0 A) (F0 mZ 2 ls []) := by
    intro fuj91
    induction fuj91 with
    | zero => intro j91  H locs ls hj9 hf9; exact absurd hf9 (Nat.not_lt_zero _)
    | succ fuj91 ihj91 =>
      intro j91  H locs ls hj91 hfj91  hP hD hS hl
      refine lv_iload_n hx hb dX4_notesFit_2 rfl (lv_at hl 0 rfl) ?_
      refine lv_aload_n hx hb dX4_notesFit_3 rfl (lv_at hl 1 rfl) ?_
      refine va_get (D := D) (ci := 4) (v := .int (nI no)) (C := RX4) (T := TX4) (N := 11) hx hb hts iw4 hown hK hP 0 rfl rfl 10 (by decide) fw1 (fun _ h9 => h9) rfl dX4_notesFit_4 ?_
      refine lv_icmp_ge (tgt := 57) hx hb dX4_notesFit_7 (by decide) (fun h46 => ?_) (fun h47 => ?_)
      · skip
        have h46 : no ≤ j91 := (nI_leI (a := no) (b := j91) (by omega) (by omega)).mp h46
        refine lv_iconst (v := 1) hx hb dX4_notesFit_57 (by decide) ?_
        exact W.zret (v := 1) hx hb hr (by decide) (fun tZ ht hW => ⟨⟨1, (), rfl, Or.inr rfl, by rw [ht]; exact hP.sub [0, 1, 2, 3, 4, 5, 6, 7, 8] rfl, hD.sub [0, 1, 2, 3, 4, 5, 6, 7, 8] (by decide) rfl⟩, hS.F ht⟩) hS.2.2 dX4_notesFit_58
      · skip
        have h47 : ¬ no ≤ j91 := fun q9 => h47 ((nI_leI (a := no) (b := j91) (by omega) (by omega)).mpr q9)
        refine lv_aload_n hx hb dX4_notesFit_10 rfl (lv_at hl 1 rfl) ?_
        refine va_get (D := D) (ci := 4) (v := .ref nn) (C := RX4) (T := TX4) (N := 11) hx hb hts iw4 hown hK hP 0 rfl rfl 5 (by decide) fw2 (fun _ h9 => h9) rfl dX4_notesFit_11 ?_
        refine lv_iload_n hx hb dX4_notesFit_14 rfl (lv_at hl 0 rfl) ?_
        rcases (show j91 = 0 ∨ j91 = 1 ∨ j91 = 2 ∨ j91 = 3 ∨ j91 = 4 ∨ j91 = 5 by omega) with rfl | rfl | rfl | rfl | rfl | rfl
        · skip
          refine kw_aldQ hx hb hK hP 2 6 rfl rfl (vp_in_nI (by omega) (by decide)) dX4_notesFit_15 ?_
          rw [nI_clamp (n := 0) (by omega), show va_rf (fn_ 0) = .ref t0 from congrArg va_rf hn0]
          refine lv_astore (lv' := [(4, .ref t0), (3, .int (nI 0)), (0, .ref nw), (1, .int x), (2, .ref o)]) hx hb dX4_notesFit_16 hl (by decide) rfl (fun ls hl => ?_)
          refine lv_aload hx hb dX4_notesFit_18 (lv_at hl 0 rfl) ?_
          refine lv_iconst (v := 0) hx hb dX4_notesFit_20 (by decide) ?_
          refine va_iald hx hb hK hP 3 0 rfl rfl (by unfold vp_in; decide) dX4_notesFit_21 ?_
          rw [show ((0 : Int32)).toNatClampNeg = 0 from rfl]
          refine lv_iload_n hx hb dX4_notesFit_22 rfl (lv_at hl 3 rfl) ?_
          refine lv_icmp_ne (tgt := 51) hx hb dX4_notesFit_23 (by decide) (fun h48 => ?_) (fun h49 => ?_)
          · skip
            refine lv_iinc (v := (nI 1)) (lv' := [(3, .int (nI 1)), (4, .ref t0), (0, .ref nw), (1, .int x), (2, .ref o)]) hx hb dX4_notesFit_51 hl (k := 1) rfl (nI_1 0) (by decide) rfl (fun ls hl => ?_)
            refine lv_goto (tgt := 2) hx hb dX4_notesFit_54 (by decide) ?_
            exact ihj91 1  H locs ls (by omega) (by omega)  (hP.sub [0, 1, 2, 3, 4, 5, 6, 7, 8] rfl) (hD.sub [0, 1, 2, 3, 4, 5, 6, 7, 8] (by decide) rfl) hS (lv_sub hl [0, 2, 3, 4] rfl)
          · skip
            refine lv_aload_n hx hb dX4_notesFit_26 rfl (lv_at hl 4 rfl) ?_
            refine lv_aload hx hb dX4_notesFit_27 (lv_at hl 0 rfl) ?_
            refine lv_iconst (v := 1) hx hb dX4_notesFit_29 (by decide) ?_
            refine va_iald hx hb hK hP 3 0 rfl rfl (by unfold vp_in; decide) dX4_notesFit_30 ?_
            rw [show ((1 : Int32)).toNatClampNeg = 1 from rfl]
            refine lv_aload hx hb dX4_notesFit_31 (lv_at hl 0 rfl) ?_
            refine lv_iconst (v := 2) hx hb dX4_notesFit_33 (by decide) ?_
            refine va_iald hx hb hK hP 3 0 rfl rfl (by unfold vp_in; decide) dX4_notesFit_34 ?_
            rw [show ((2 : Int32)).toNatClampNeg = 2 from rfl]
            refine lv_aload hx hb dX4_notesFit_35 (lv_at hl 0 rfl) ?_
            refine lv_iconst (v := 3) hx hb dX4_notesFit_37 (by decide) ?_
            refine va_iald hx hb hK hP 3 0 rfl rfl (by unfold vp_in; decide) dX4_notesFit_38 ?_
            rw [show ((3 : Int32)).toNatClampNeg = 3 from rfl]
            have hs50 : kw_Split [(nw, .inr (4, [.ref kk, .ref nk, .ref nd, .ref ne, .ref nm, .ref nn, .int (nI fi), .int (nI gl), .int (nI un), .int (nI mi), .int (nI no)])), (o, .inr (3, [])), (nn, .inl (y 6, 6, .inr (.inr (.inr (.inr fn_))))), (t0, .inl (y 0, 5, .inl t0f)), (t1, .inl (y 0, 5, .inl t1f)), (t2, .inl (y 0, 5, .inl t2f)), (t3, .inl (y 0, 5, .inl t3f)), (t4, .inl (y 0, 5, .inl t4f)), (t5, .inl (y 0, 5, .inl t5f))] [(o, .inr (3, []))] [(nw, .inr (4, [.ref kk, .ref nk, .ref nd, .ref ne, .ref nm, .ref nn, .int (nI fi), .int (nI gl), .int (nI un), .int (nI mi), .int (nI no)])), (nn, .inl (y 6, 6, .inr (.inr (.inr (.inr fn_))))), (t0, .inl (y 0, 5, .inl t0f)), (t1, .inl (y 0, 5, .inl t1f)), (t2, .inl (y 0, 5, .inl t2f)), (t3, .inl (y 0, 5, .inl t3f)), (t4, .inl (y 0, 5, .inl t4f)), (t5, .inl (y 0, 5, .inl t5f))] [1] [0, 2, 3, 4, 5, 6, 7, 8] := ⟨rfl, rfl, rfl, rfl, rfl, by decide⟩
            refine kw_go_i hs50 hP hD hS hA (va_runU (As := [.int (t0f 1), .int (t0f 2), .int (t0f 3)]) (rest := []) ⟨hx, hb, hml, hown, hts⟩ (gc_Lane_on3 l D y o (t0f 1) (t0f 2) (t0f 3)  _) (va_cwO 3 hts gX4_notesFit_X3_sight_u89X3 rfl rfl rfl (List.mem_of_getElem? (i := 24) rfl) (by decide +kernel) ⟨Nat.le_of_ble_eq_true rfl, Nat.le_of_ble_eq_true rfl⟩) (kw_PreV (ci := 3) (q0 := 1) hs50 hP hD hK hN rfl rfl) rfl rfl hl.1 rfl (lv_room (Nat.le_of_ble_eq_true rfl)) dX4_notesFit_39 ⟨Nat.le_of_ble_eq_true rfl, Nat.le_of_ble_eq_true rfl⟩) (fun r51 u52 H locs hq hP hD hS => ?_)
            have hP : va_P D vwCl [(nw, .inr (4, [.ref kk, .ref nk, .ref nd, .ref ne, .ref nm, .ref nn, .int (nI fi), .int (nI gl), .int (nI un), .int (nI mi), .int (nI no)])), (nn, .inl (y 6, 6, .inr (.inr (.inr (.inr fn_))))), (t0, .inl (y 0, 5, .inl t0f)), (t1, .inl (y 0, 5, .inl t1f)), (t2, .inl (y 0, 5, .inl t2f)), (t3, .inl (y 0, 5, .inl t3f)), (t4, .inl (y 0, 5, .inl t4f)), (t5, .inl (y 0, 5, .inl t5f)), (o, .inr (3, []))] H := hP
            have hD : va_D A [(nw, .inr (4, [.ref kk, .ref nk, .ref nd, .ref ne, .ref nm, .ref nn, .int (nI fi), .int (nI gl), .int (nI un), .int (nI mi), .int (nI no)])), (nn, .inl (y 6, 6, .inr (.inr (.inr (.inr fn_))))), (t0, .inl (y 0, 5, .inl t0f)), (t1, .inl (y 0, 5, .inl t1f)), (t2, .inl (y 0, 5, .inl t2f)), (t3, .inl (y 0, 5, .inl t3f)), (t4, .inl (y 0, 5, .inl t4f)), (t5, .inl (y 0, 5, .inl t5f)), (o, .inr (3, []))] := hD
            refine lv_aload hx hb dX4_notesFit_42 (lv_at hl 0 rfl) ?_
            refine lv_iconst (v := 4) hx hb dX4_notesFit_44 (by decide) ?_
            refine va_iald hx hb hK hP 2 0 rfl rfl (by unfold vp_in; decide) dX4_notesFit_45 ?_
            rw [show ((4 : Int32)).toNatClampNeg = 4 from rfl]
            refine lv_icmp_eq (tgt := 51) hx hb dX4_notesFit_46 (by decide) (fun h53 => ?_) (fun h54 => ?_)
            · skip
              refine lv_iinc (v := (nI 1)) (lv' := [(3, .int (nI 1)), (4, .ref t0), (0, .ref nw), (1, .int x), (2, .ref o)]) hx hb dX4_notesFit_51 hl (k := 1) rfl (nI_1 0) (by decide) rfl (fun ls hl => ?_)
              refine lv_goto (tgt := 2) hx hb dX4_notesFit_54 (by decide) ?_
              exact ihj91 1  H locs ls (by omega) (by omega)  (hP.sub [0, 8, 1, 2, 3, 4, 5, 6, 7] rfl) (hD.sub [0, 8, 1, 2, 3, 4, 5, 6, 7] (by decide) rfl) hS (lv_sub hl [0, 2, 3, 4] rfl)
            · skip
              refine lv_iconst (v := 0) hx hb dX4_notesFit_49 (by decide) ?_
              exact W.zret (v := 0) hx hb hr (by decide) (fun tZ ht hW => ⟨⟨0, (), rfl, Or.inl rfl, by rw [ht]; exact hP.sub [0, 8, 1, 2, 3, 4, 5, 6, 7] rfl, hD.sub [0, 8, 1, 2, 3, 4, 5, 6, 7] (by decide) rfl⟩, hS.F ht⟩) hS.2.2 dX4_notesFit_50
        · skip
          refine kw_aldQ hx hb hK hP 2 6 rfl rfl (vp_in_nI (by omega) (by decide)) dX4_notesFit_15 ?_
          rw [nI_clamp (n := 1) (by omega), show va_rf (fn_ 1) = .ref t1 from congrArg va_rf hn1]
          refine lv_astore (lv' := [(4, .ref t1), (3, .int (nI 1)), (0, .ref nw), (1, .int x), (2, .ref o)]) hx hb dX4_notesFit_16 hl (by decide) rfl (fun ls hl => ?_)
          refine lv_aload hx hb dX4_notesFit_18 (lv_at hl 0 rfl) ?_
          refine lv_iconst (v := 0) hx hb dX4_notesFit_20 (by decide) ?_
          refine va_iald hx hb hK hP 4 0 rfl rfl (by unfold vp_in; decide) dX4_notesFit_21 ?_
          rw [show ((0 : Int32)).toNatClampNeg = 0 from rfl]
          refine lv_iload_n hx hb dX4_notesFit_22 rfl (lv_at hl 3 rfl) ?_
          refine lv_icmp_ne (tgt := 51) hx hb dX4_notesFit_23 (by decide) (fun h55 => ?_) (fun h56 => ?_)
          · skip
            refine lv_iinc (v := (nI 2)) (lv' := [(3, .int (nI 2)), (4, .ref t1), (0, .ref nw), (1, .int x), (2, .ref o)]) hx hb dX4_notesFit_51 hl (k := 1) rfl (nI_1 1) (by decide) rfl (fun ls hl => ?_)
            refine lv_goto (tgt := 2) hx hb dX4_notesFit_54 (by decide) ?_
            exact ihj91 2  H locs ls (by omega) (by omega)  (hP.sub [0, 1, 2, 3, 4, 5, 6, 7, 8] rfl) (hD.sub [0, 1, 2, 3, 4, 5, 6, 7, 8] (by decide) rfl) hS (lv_sub hl [0, 2, 3, 4] rfl)
          · skip
            refine lv_aload_n hx hb dX4_notesFit_26 rfl (lv_at hl 4 rfl) ?_
            refine lv_aload hx hb dX4_notesFit_27 (lv_at hl 0 rfl) ?_
            refine lv_iconst (v := 1) hx hb dX4_notesFit_29 (by decide) ?_
            refine va_iald hx hb hK hP 4 0 rfl rfl (by unfold vp_in; decide) dX4_notesFit_30 ?_
            rw [show ((1 : Int32)).toNatClampNeg = 1 from rfl]
            refine lv_aload hx hb dX4_notesFit_31 (lv_at hl 0 rfl) ?_
            refine lv_iconst (v := 2) hx hb dX4_notesFit_33 (by decide) ?_
            refine va_iald hx hb hK hP 4 0 rfl rfl (by unfold vp_in; decide) dX4_notesFit_34 ?_
            rw [show ((2 : Int32)).toNatClampNeg = 2 from rfl]
            refine lv_aload hx hb dX4_notesFit_35 (lv_at hl 0 rfl) ?_
            refine lv_iconst (v := 3) hx hb dX4_notesFit_37 (by decide) ?_
            refine va_iald hx hb hK hP 4 0 rfl rfl (by unfold vp_in; decide) dX4_notesFit_38 ?_
            rw [show ((3 : Int32)).toNatClampNeg = 3 from rfl]
            have hs57 : kw_Split [(nw, .inr (4, [.ref kk, .ref nk, .ref nd, .ref ne, .ref nm, .ref nn, .int (nI fi), .int (nI gl), .int (nI un), .int (nI mi), .int (nI no)])), (o, .inr (3, [])), (nn, .inl (y 6, 6, .inr (.inr (.inr (.inr fn_))))), (t0, .inl (y 0, 5, .inl t0f)), (t1, .inl (y 0, 5, .inl t1f)), (t2, .inl (y 0, 5, .inl t2f)), (t3, .inl (y 0, 5, .inl t3f)), (t4, .inl (y 0, 5, .inl t4f)), (t5, .inl (y 0, 5, .inl t5f))] [(o, .inr (3, []))] [(nw, .inr (4, [.ref kk, .ref nk, .ref nd, .ref ne, .ref nm, .ref nn, .int (nI fi), .int (nI gl), .int (nI un), .int (nI mi), .int (nI no)])), (nn, .inl (y 6, 6, .inr (.inr (.inr (.inr fn_))))), (t0, .inl (y 0, 5, .inl t0f)), (t1, .inl (y 0, 5, .inl t1f)), (t2, .inl (y 0, 5, .inl t2f)), (t3, .inl (y 0, 5, .inl t3f)), (t4, .inl (y 0, 5, .inl t4f)), (t5, .inl (y 0, 5, .inl t5f))] [1] [0, 2, 3, 4, 5, 6, 7, 8] := ⟨rfl, rfl, rfl, rfl, rfl, by decide⟩
            refine kw_go_i hs57 hP hD hS hA (va_runU (As := [.int (t1f 1), .int (t1f 2), .int (t1f 3)]) (rest := []) ⟨hx, hb, hml, hown, hts⟩ (gc_Lane_on3 l D y o (t1f 1) (t1f 2) (t1f 3)  _) (va_cwO 3 hts gX4_notesFit_X3_sight_u89X3 rfl rfl rfl (List.mem_of_getElem? (i := 24) rfl) (by decide +kernel) ⟨Nat.le_of_ble_eq_true rfl, Nat.le_of_ble_eq_true rfl⟩) (kw_PreV (ci := 3) (q0 := 1) hs57 hP hD hK hN rfl rfl) rfl rfl hl.1 rfl (lv_room (Nat.le_of_ble_eq_true rfl)) dX4_notesFit_39 ⟨Nat.le_of_ble_eq_true rfl, Nat.le_of_ble_eq_true rfl⟩) (fun r58 u59 H locs hq hP hD hS => ?_)
            have hP : va_P D vwCl [(nw, .inr (4, [.ref kk, .ref nk, .ref nd, .ref ne, .ref nm, .ref nn, .int (nI fi), .int (nI gl), .int (nI un), .int (nI mi), .int (nI no)])), (nn, .inl (y 6, 6, .inr (.inr (.inr (.inr fn_))))), (t0, .inl (y 0, 5, .inl t0f)), (t1, .inl (y 0, 5, .inl t1f)), (t2, .inl (y 0, 5, .inl t2f)), (t3, .inl (y 0, 5, .inl t3f)), (t4, .inl (y 0, 5, .inl t4f)), (t5, .inl (y 0, 5, .inl t5f)), (o, .inr (3, []))] H := hP
            have hD : va_D A [(nw, .inr (4, [.ref kk, .ref nk, .ref nd, .ref ne, .ref nm, .ref nn, .int (nI fi), .int (nI gl), .int (nI un), .int (nI mi), .int (nI no)])), (nn, .inl (y 6, 6, .inr (.inr (.inr (.inr fn_))))), (t0, .inl (y 0, 5, .inl t0f)), (t1, .inl (y 0, 5, .inl t1f)), (t2, .inl (y 0, 5, .inl t2f)), (t3, .inl (y 0, 5, .inl t3f)), (t4, .inl (y 0, 5, .inl t4f)), (t5, .inl (y 0, 5, .inl t5f)), (o, .inr (3, []))] := hD
            refine lv_aload hx hb dX4_notesFit_42 (lv_at hl 0 rfl) ?_
            refine lv_iconst (v := 4) hx hb dX4_notesFit_44 (by decide) ?_
            refine va_iald hx hb hK hP 3 0 rfl rfl (by unfold vp_in; decide) dX4_notesFit_45 ?_
            rw [show ((4 : Int32)).toNatClampNeg = 4 from rfl]
            refine lv_icmp_eq (tgt := 51) hx hb dX4_notesFit_46 (by decide) (fun h60 => ?_) (fun h61 => ?_)
            · skip
              refine lv_iinc (v := (nI 2)) (lv' := [(3, .int (nI 2)), (4, .ref t1), (0, .ref nw), (1, .int x), (2, .ref o)]) hx hb dX4_notesFit_51 hl (k := 1) rfl (nI_1 1) (by decide) rfl (fun ls hl => ?_)
              refine lv_goto (tgt := 2) hx hb dX4_notesFit_54 (by decide) ?_
              exact ihj91 2  H locs ls (by omega) (by omega)  (hP.sub [0, 8, 1, 2, 3, 4, 5, 6, 7] rfl) (hD.sub [0, 8, 1, 2, 3, 4, 5, 6, 7] (by decide) rfl) hS (lv_sub hl [0, 2, 3, 4] rfl)
            · skip
              refine lv_iconst (v := 0) hx hb dX4_notesFit_49 (by decide) ?_
              exact W.zret (v := 0) hx hb hr (by decide) (fun tZ ht hW => ⟨⟨0, (), rfl, Or.inl rfl, by rw [ht]; exact hP.sub [0, 8, 1, 2, 3, 4, 5, 6, 7] rfl, hD.sub [0, 8, 1, 2, 3, 4, 5, 6, 7] (by decide) rfl⟩, hS.F ht⟩) hS.2.2 dX4_notesFit_50
        · skip
          refine kw_aldQ hx hb hK hP 2 6 rfl rfl (vp_in_nI (by omega) (by decide)) dX4_notesFit_15 ?_
          rw [nI_clamp (n := 2) (by omega), show va_rf (fn_ 2) = .ref t2 from congrArg va_rf hn2]
          refine lv_astore (lv' := [(4, .ref t2), (3, .int (nI 2)), (0, .ref nw), (1, .int x), (2, .ref o)]) hx hb dX4_notesFit_16 hl (by decide) rfl (fun ls hl => ?_)
          refine lv_aload hx hb dX4_notesFit_18 (lv_at hl 0 rfl) ?_
          refine lv_iconst (v := 0) hx hb dX4_notesFit_20 (by decide) ?_
          refine va_iald hx hb hK hP 5 0 rfl rfl (by unfold vp_in; decide) dX4_notesFit_21 ?_
          rw [show ((0 : Int32)).toNatClampNeg = 0 from rfl]
          refine lv_iload_n hx hb dX4_notesFit_22 rfl (lv_at hl 3 rfl) ?_
          refine lv_icmp_ne (tgt := 51) hx hb dX4_notesFit_23 (by decide) (fun h62 => ?_) (fun h63 => ?_)
          · skip
            refine lv_iinc (v := (nI 3)) (lv' := [(3, .int (nI 3)), (4, .ref t2), (0, .ref nw), (1, .int x), (2, .ref o)]) hx hb dX4_notesFit_51 hl (k := 1) rfl (nI_1 2) (by decide) rfl (fun ls hl => ?_)
            refine lv_goto (tgt := 2) hx hb dX4_notesFit_54 (by decide) ?_
            exact ihj91 3  H locs ls (by omega) (by omega)  (hP.sub [0, 1, 2, 3, 4, 5, 6, 7, 8] rfl) (hD.sub [0, 1, 2, 3, 4, 5, 6, 7, 8] (by decide) rfl) hS (lv_sub hl [0, 2, 3, 4] rfl)
          · skip
            refine lv_aload_n hx hb dX4_notesFit_26 rfl (lv_at hl 4 rfl) ?_
            refine lv_aload hx hb dX4_notesFit_27 (lv_at hl 0 rfl) ?_
            refine lv_iconst (v := 1) hx hb dX4_notesFit_29 (by decide) ?_
            refine va_iald hx hb hK hP 5 0 rfl rfl (by unfold vp_in; decide) dX4_notesFit_30 ?_
            rw [show ((1 : Int32)).toNatClampNeg = 1 from rfl]
            refine lv_aload hx hb dX4_notesFit_31 (lv_at hl 0 rfl) ?_
            refine lv_iconst (v := 2) hx hb dX4_notesFit_33 (by decide) ?_
            refine va_iald hx hb hK hP 5 0 rfl rfl (by unfold vp_in; decide) dX4_notesFit_34 ?_
            rw [show ((2 : Int32)).toNatClampNeg = 2 from rfl]
            refine lv_aload hx hb dX4_notesFit_35 (lv_at hl 0 rfl) ?_
            refine lv_iconst (v := 3) hx hb dX4_notesFit_37 (by decide) ?_
            refine va_iald hx hb hK hP 5 0 rfl rfl (by unfold vp_in; decide) dX4_notesFit_38 ?_
            rw [show ((3 : Int32)).toNatClampNeg = 3 from rfl]
            have hs64 : kw_Split [(nw, .inr (4, [.ref kk, .ref nk, .ref nd, .ref ne, .ref nm, .ref nn, .int (nI fi), .int (nI gl), .int (nI un), .int (nI mi), .int (nI no)])), (o, .inr (3, [])), (nn, .inl (y 6, 6, .inr (.inr (.inr (.inr fn_))))), (t0, .inl (y 0, 5, .inl t0f)), (t1, .inl (y 0, 5, .inl t1f)), (t2, .inl (y 0, 5, .inl t2f)), (t3, .inl (y 0, 5, .inl t3f)), (t4, .inl (y 0, 5, .inl t4f)), (t5, .inl (y 0, 5, .inl t5f))] [(o, .inr (3, []))] [(nw, .inr (4, [.ref kk, .ref nk, .ref nd, .ref ne, .ref nm, .ref nn, .int (nI fi), .int (nI gl), .int (nI un), .int (nI mi), .int (nI no)])), (nn, .inl (y 6, 6, .inr (.inr (.inr (.inr fn_))))), (t0, .inl (y 0, 5, .inl t0f)), (t1, .inl (y 0, 5, .inl t1f)), (t2, .inl (y 0, 5, .inl t2f)), (t3, .inl (y 0, 5, .inl t3f)), (t4, .inl (y 0, 5, .inl t4f)), (t5, .inl (y 0, 5, .inl t5f))] [1] [0, 2, 3, 4, 5, 6, 7, 8] := ⟨rfl, rfl, rfl, rfl, rfl, by decide⟩
            refine kw_go_i hs64 hP hD hS hA (va_runU (As := [.int (t2f 1), .int (t2f 2), .int (t2f 3)]) (rest := []) ⟨hx, hb, hml, hown, hts⟩ (gc_Lane_on3 l D y o (t2f 1) (t2f 2) (t2f 3)  _) (va_cwO 3 hts gX4_notesFit_X3_sight_u89X3 rfl rfl rfl (List.mem_of_getElem? (i := 24) rfl) (by decide +kernel) ⟨Nat.le_of_ble_eq_true rfl, Nat.le_of_ble_eq_true rfl⟩) (kw_PreV (ci := 3) (q0 := 1) hs64 hP hD hK hN rfl rfl) rfl rfl hl.1 rfl (lv_room (Nat.le_of_ble_eq_true rfl)) dX4_notesFit_39 ⟨Nat.le_of_ble_eq_true rfl, Nat.le_of_ble_eq_true rfl⟩) (fun r65 u66 H locs hq hP hD hS => ?_)
            have hP : va_P D vwCl [(nw, .inr (4, [.ref kk, .ref nk, .ref nd, .ref ne, .ref nm, .ref nn, .int (nI fi), .int (nI gl), .int (nI un), .int (nI mi), .int (nI no)])), (nn, .inl (y 6, 6, .inr (.inr (.inr (.inr fn_))))), (t0, .inl (y 0, 5, .inl t0f)), (t1, .inl (y 0, 5, .inl t1f)), (t2, .inl (y 0, 5, .inl t2f)), (t3, .inl (y 0, 5, .inl t3f)), (t4, .inl (y 0, 5, .inl t4f)), (t5, .inl (y 0, 5, .inl t5f)), (o, .inr (3, []))] H := hP
            have hD : va_D A [(nw, .inr (4, [.ref kk, .ref nk, .ref nd, .ref ne, .ref nm, .ref nn, .int (nI fi), .int (nI gl), .int (nI un), .int (nI mi), .int (nI no)])), (nn, .inl (y 6, 6, .inr (.inr (.inr (.inr fn_))))), (t0, .inl (y 0, 5, .inl t0f)), (t1, .inl (y 0, 5, .inl t1f)), (t2, .inl (y 0, 5, .inl t2f)), (t3, .inl (y 0, 5, .inl t3f)), (t4, .inl (y 0, 5, .inl t4f)), (t5, .inl (y 0, 5, .inl t5f)), (o, .inr (3, []))] := hD
            refine lv_aload hx hb dX4_notesFit_42 (lv_at hl 0 rfl) ?_
            refine lv_iconst (v := 4) hx hb dX4_notesFit_44 (by decide) ?_
            refine va_iald hx hb hK hP 4 0 rfl rfl (by unfold vp_in; decide) dX4_notesFit_45 ?_
            rw [show ((4 : Int32)).toNatClampNeg = 4 from rfl]
            refine lv_icmp_eq (tgt := 51) hx hb dX4_notesFit_46 (by decide) (fun h67 => ?_) (fun h68 => ?_)
            · skip
              refine lv_iinc (v := (nI 3)) (lv' := [(3, .int (nI 3)), (4, .ref t2), (0, .ref nw), (1, .int x), (2, .ref o)]) hx hb dX4_notesFit_51 hl (k := 1) rfl (nI_1 2) (by decide) rfl (fun ls hl => ?_)
              refine lv_goto (tgt := 2) hx hb dX4_notesFit_54 (by decide) ?_
              exact ihj91 3  H locs ls (by omega) (by omega)  (hP.sub [0, 8, 1, 2, 3, 4, 5, 6, 7] rfl) (hD.sub [0, 8, 1, 2, 3, 4, 5, 6, 7] (by decide) rfl) hS (lv_sub hl [0, 2, 3, 4] rfl)
            · skip
              refine lv_iconst (v := 0) hx hb dX4_notesFit_49 (by decide) ?_
              exact W.zret (v := 0) hx hb hr (by decide) (fun tZ ht hW => ⟨⟨0, (), rfl, Or.inl rfl, by rw [ht]; exact hP.sub [0, 8, 1, 2, 3, 4, 5, 6, 7] rfl, hD.sub [0, 8, 1, 2, 3, 4, 5, 6, 7] (by decide) rfl⟩, hS.F ht⟩) hS.2.2 dX4_notesFit_50
        · skip
          refine kw_aldQ hx hb hK hP 2 6 rfl rfl (vp_in_nI (by omega) (by decide)) dX4_notesFit_15 ?_
          rw [nI_clamp (n := 3) (by omega), show va_rf (fn_ 3) = .ref t3 from congrArg va_rf hn3]
          refine lv_astore (lv' := [(4, .ref t3), (3, .int (nI 3)), (0, .ref nw), (1, .int x), (2, .ref o)]) hx hb dX4_notesFit_16 hl (by decide) rfl (fun ls hl => ?_)
          refine lv_aload hx hb dX4_notesFit_18 (lv_at hl 0 rfl) ?_
          refine lv_iconst (v := 0) hx hb dX4_notesFit_20 (by decide) ?_
          refine va_iald hx hb hK hP 6 0 rfl rfl (by unfold vp_in; decide) dX4_notesFit_21 ?_
          rw [show ((0 : Int32)).toNatClampNeg = 0 from rfl]
          refine lv_iload_n hx hb dX4_notesFit_22 rfl (lv_at hl 3 rfl) ?_
          refine lv_icmp_ne (tgt := 51) hx hb dX4_notesFit_23 (by decide) (fun h69 => ?_) (fun h70 => ?_)
          · skip
            refine lv_iinc (v := (nI 4)) (lv' := [(3, .int (nI 4)), (4, .ref t3), (0, .ref nw), (1, .int x), (2, .ref o)]) hx hb dX4_notesFit_51 hl (k := 1) rfl (nI_1 3) (by decide) rfl (fun ls hl => ?_)
            refine lv_goto (tgt := 2) hx hb dX4_notesFit_54 (by decide) ?_
            exact ihj91 4  H locs ls (by omega) (by omega)  (hP.sub [0, 1, 2, 3, 4, 5, 6, 7, 8] rfl) (hD.sub [0, 1, 2, 3, 4, 5, 6, 7, 8] (by decide) rfl) hS (lv_sub hl [0, 2, 3, 4] rfl)
          · skip
            refine lv_aload_n hx hb dX4_notesFit_26 rfl (lv_at hl 4 rfl) ?_
            refine lv_aload hx hb dX4_notesFit_27 (lv_at hl 0 rfl) ?_
            refine lv_iconst (v := 1) hx hb dX4_notesFit_29 (by decide) ?_
            refine va_iald hx hb hK hP 6 0 rfl rfl (by unfold vp_in; decide) dX4_notesFit_30 ?_
            rw [show ((1 : Int32)).toNatClampNeg = 1 from rfl]
            refine lv_aload hx hb dX4_notesFit_31 (lv_at hl 0 rfl) ?_
            refine lv_iconst (v := 2) hx hb dX4_notesFit_33 (by decide) ?_
            refine va_iald hx hb hK hP 6 0 rfl rfl (by unfold vp_in; decide) dX4_notesFit_34 ?_
            rw [show ((2 : Int32)).toNatClampNeg = 2 from rfl]
            refine lv_aload hx hb dX4_notesFit_35 (lv_at hl 0 rfl) ?_
            refine lv_iconst (v := 3) hx hb dX4_notesFit_37 (by decide) ?_
            refine va_iald hx hb hK hP 6 0 rfl rfl (by unfold vp_in; decide) dX4_notesFit_38 ?_
            rw [show ((3 : Int32)).toNatClampNeg = 3 from rfl]
            have hs71 : kw_Split [(nw, .inr (4, [.ref kk, .ref nk, .ref nd, .ref ne, .ref nm, .ref nn, .int (nI fi), .int (nI gl), .int (nI un), .int (nI mi), .int (nI no)])), (o, .inr (3, [])), (nn, .inl (y 6, 6, .inr (.inr (.inr (.inr fn_))))), (t0, .inl (y 0, 5, .inl t0f)), (t1, .inl (y 0, 5, .inl t1f)), (t2, .inl (y 0, 5, .inl t2f)), (t3, .inl (y 0, 5, .inl t3f)), (t4, .inl (y 0, 5, .inl t4f)), (t5, .inl (y 0, 5, .inl t5f))] [(o, .inr (3, []))] [(nw, .inr (4, [.ref kk, .ref nk, .ref nd, .ref ne, .ref nm, .ref nn, .int (nI fi), .int (nI gl), .int (nI un), .int (nI mi), .int (nI no)])), (nn, .inl (y 6, 6, .inr (.inr (.inr (.inr fn_))))), (t0, .inl (y 0, 5, .inl t0f)), (t1, .inl (y 0, 5, .inl t1f)), (t2, .inl (y 0, 5, .inl t2f)), (t3, .inl (y 0, 5, .inl t3f)), (t4, .inl (y 0, 5, .inl t4f)), (t5, .inl (y 0, 5, .inl t5f))] [1] [0, 2, 3, 4, 5, 6, 7, 8] := ⟨rfl, rfl, rfl, rfl, rfl, by decide⟩
            refine kw_go_i hs71 hP hD hS hA (va_runU (As := [.int (t3f 1), .int (t3f 2), .int (t3f 3)]) (rest := []) ⟨hx, hb, hml, hown, hts⟩ (gc_Lane_on3 l D y o (t3f 1) (t3f 2) (t3f 3)  _) (va_cwO 3 hts gX4_notesFit_X3_sight_u89X3 rfl rfl rfl (List.mem_of_getElem? (i := 24) rfl) (by decide +kernel) ⟨Nat.le_of_ble_eq_true rfl, Nat.le_of_ble_eq_true rfl⟩) (kw_PreV (ci := 3) (q0 := 1) hs71 hP hD hK hN rfl rfl) rfl rfl hl.1 rfl (lv_room (Nat.le_of_ble_eq_true rfl)) dX4_notesFit_39 ⟨Nat.le_of_ble_eq_true rfl, Nat.le_of_ble_eq_true rfl⟩) (fun r72 u73 H locs hq hP hD hS => ?_)
            have hP : va_P D vwCl [(nw, .inr (4, [.ref kk, .ref nk, .ref nd, .ref ne, .ref nm, .ref nn, .int (nI fi), .int (nI gl), .int (nI un), .int (nI mi), .int (nI no)])), (nn, .inl (y 6, 6, .inr (.inr (.inr (.inr fn_))))), (t0, .inl (y 0, 5, .inl t0f)), (t1, .inl (y 0, 5, .inl t1f)), (t2, .inl (y 0, 5, .inl t2f)), (t3, .inl (y 0, 5, .inl t3f)), (t4, .inl (y 0, 5, .inl t4f)), (t5, .inl (y 0, 5, .inl t5f)), (o, .inr (3, []))] H := hP
            have hD : va_D A [(nw, .inr (4, [.ref kk, .ref nk, .ref nd, .ref ne, .ref nm, .ref nn, .int (nI fi), .int (nI gl), .int (nI un), .int (nI mi), .int (nI no)])), (nn, .inl (y 6, 6, .inr (.inr (.inr (.inr fn_))))), (t0, .inl (y 0, 5, .inl t0f)), (t1, .inl (y 0, 5, .inl t1f)), (t2, .inl (y 0, 5, .inl t2f)), (t3, .inl (y 0, 5, .inl t3f)), (t4, .inl (y 0, 5, .inl t4f)), (t5, .inl (y 0, 5, .inl t5f)), (o, .inr (3, []))] := hD
            refine lv_aload hx hb dX4_notesFit_42 (lv_at hl 0 rfl) ?_
            refine lv_iconst (v := 4) hx hb dX4_notesFit_44 (by decide) ?_
            refine va_iald hx hb hK hP 5 0 rfl rfl (by unfold vp_in; decide) dX4_notesFit_45 ?_
            rw [show ((4 : Int32)).toNatClampNeg = 4 from rfl]
            refine lv_icmp_eq (tgt := 51) hx hb dX4_notesFit_46 (by decide) (fun h74 => ?_) (fun h75 => ?_)
            · skip
              refine lv_iinc (v := (nI 4)) (lv' := [(3, .int (nI 4)), (4, .ref t3), (0, .ref nw), (1, .int x), (2, .ref o)]) hx hb dX4_notesFit_51 hl (k := 1) rfl (nI_1 3) (by decide) rfl (fun ls hl => ?_)
              refine lv_goto (tgt := 2) hx hb dX4_notesFit_54 (by decide) ?_
              exact ihj91 4  H locs ls (by omega) (by omega)  (hP.sub [0, 8, 1, 2, 3, 4, 5, 6, 7] rfl) (hD.sub [0, 8, 1, 2, 3, 4, 5, 6, 7] (by decide) rfl) hS (lv_sub hl [0, 2, 3, 4] rfl)
            · skip
              refine lv_iconst (v := 0) hx hb dX4_notesFit_49 (by decide) ?_
              exact W.zret (v := 0) hx hb hr (by decide) (fun tZ ht hW => ⟨⟨0, (), rfl, Or.inl rfl, by rw [ht]; exact hP.sub [0, 8, 1, 2, 3, 4, 5, 6, 7] rfl, hD.sub [0, 8, 1, 2, 3, 4, 5, 6, 7] (by decide) rfl⟩, hS.F ht⟩) hS.2.2 dX4_notesFit_50
        · skip
          refine kw_aldQ hx hb hK hP 2 6 rfl rfl (vp_in_nI (by omega) (by decide)) dX4_notesFit_15 ?_
          rw [nI_clamp (n := 4) (by omega), show va_rf (fn_ 4) = .ref t4 from congrArg va_rf hn4]
          refine lv_astore (lv' := [(4, .ref t4), (3, .int (nI 4)), (0, .ref nw), (1, .int x), (2, .ref o)]) hx hb dX4_notesFit_16 hl (by decide) rfl (fun ls hl => ?_)
          refine lv_aload hx hb dX4_notesFit_18 (lv_at hl 0 rfl) ?_
          refine lv_iconst (v := 0) hx hb dX4_notesFit_20 (by decide) ?_
          refine va_iald hx hb hK hP 7 0 rfl rfl (by unfold vp_in; decide) dX4_notesFit_21 ?_
          rw [show ((0 : Int32)).toNatClampNeg = 0 from rfl]
          refine lv_iload_n hx hb dX4_notesFit_22 rfl (lv_at hl 3 rfl) ?_
          refine lv_icmp_ne (tgt := 51) hx hb dX4_notesFit_23 (by decide) (fun h76 => ?_) (fun h77 => ?_)
          · skip
            refine lv_iinc (v := (nI 5)) (lv' := [(3, .int (nI 5)), (4, .ref t4), (0, .ref nw), (1, .int x), (2, .ref o)]) hx hb dX4_notesFit_51 hl (k := 1) rfl (nI_1 4) (by decide) rfl (fun ls hl => ?_)
            refine lv_goto (tgt := 2) hx hb dX4_notesFit_54 (by decide) ?_
            exact ihj91 5  H locs ls (by omega) (by omega)  (hP.sub [0, 1, 2, 3, 4, 5, 6, 7, 8] rfl) (hD.sub [0, 1, 2, 3, 4, 5, 6, 7, 8] (by decide) rfl) hS (lv_sub hl [0, 2, 3, 4] rfl)
          · skip
            refine lv_aload_n hx hb dX4_notesFit_26 rfl (lv_at hl 4 rfl) ?_
            refine lv_aload hx hb dX4_notesFit_27 (lv_at hl 0 rfl) ?_
            refine lv_iconst (v := 1) hx hb dX4_notesFit_29 (by decide) ?_
            refine va_iald hx hb hK hP 7 0 rfl rfl (by unfold vp_in; decide) dX4_notesFit_30 ?_
            rw [show ((1 : Int32)).toNatClampNeg = 1 from rfl]
            refine lv_aload hx hb dX4_notesFit_31 (lv_at hl 0 rfl) ?_
            refine lv_iconst (v := 2) hx hb dX4_notesFit_33 (by decide) ?_
            refine va_iald hx hb hK hP 7 0 rfl rfl (by unfold vp_in; decide) dX4_notesFit_34 ?_
            rw [show ((2 : Int32)).toNatClampNeg = 2 from rfl]
            refine lv_aload hx hb dX4_notesFit_35 (lv_at hl 0 rfl) ?_
            refine lv_iconst (v := 3) hx hb dX4_notesFit_37 (by decide) ?_
            refine va_iald hx hb hK hP 7 0 rfl rfl (by unfold vp_in; decide) dX4_notesFit_38 ?_
            rw [show ((3 : Int32)).toNatClampNeg = 3 from rfl]
            have hs78 : kw_Split [(nw, .inr (4, [.ref kk, .ref nk, .ref nd, .ref ne, .ref nm, .ref nn, .int (nI fi), .int (nI gl), .int (nI un), .int (nI mi), .int (nI no)])), (o, .inr (3, [])), (nn, .inl (y 6, 6, .inr (.inr (.inr (.inr fn_))))), (t0, .inl (y 0, 5, .inl t0f)), (t1, .inl (y 0, 5, .inl t1f)), (t2, .inl (y 0, 5, .inl t2f)), (t3, .inl (y 0, 5, .inl t3f)), (t4, .inl (y 0, 5, .inl t4f)), (t5, .inl (y 0, 5, .inl t5f))] [(o, .inr (3, []))] [(nw, .inr (4, [.ref kk, .ref nk, .ref nd, .ref ne, .ref nm, .ref nn, .int (nI fi), .int (nI gl), .int (nI un), .int (nI mi), .int (nI no)])), (nn, .inl (y 6, 6, .inr (.inr (.inr (.inr fn_))))), (t0, .inl (y 0, 5, .inl t0f)), (t1, .inl (y 0, 5, .inl t1f)), (t2, .inl (y 0, 5, .inl t2f)), (t3, .inl (y 0, 5, .inl t3f)), (t4, .inl (y 0, 5, .inl t4f)), (t5, .inl (y 0, 5, .inl t5f))] [1] [0, 2, 3, 4, 5, 6, 7, 8] := ⟨rfl, rfl, rfl, rfl, rfl, by decide⟩
            refine kw_go_i hs78 hP hD hS hA (va_runU (As := [.int (t4f 1), .int (t4f 2), .int (t4f 3)]) (rest := []) ⟨hx, hb, hml, hown, hts⟩ (gc_Lane_on3 l D y o (t4f 1) (t4f 2) (t4f 3)  _) (va_cwO 3 hts gX4_notesFit_X3_sight_u89X3 rfl rfl rfl (List.mem_of_getElem? (i := 24) rfl) (by decide +kernel) ⟨Nat.le_of_ble_eq_true rfl, Nat.le_of_ble_eq_true rfl⟩) (kw_PreV (ci := 3) (q0 := 1) hs78 hP hD hK hN rfl rfl) rfl rfl hl.1 rfl (lv_room (Nat.le_of_ble_eq_true rfl)) dX4_notesFit_39 ⟨Nat.le_of_ble_eq_true rfl, Nat.le_of_ble_eq_true rfl⟩) (fun r79 u80 H locs hq hP hD hS => ?_)
            have hP : va_P D vwCl [(nw, .inr (4, [.ref kk, .ref nk, .ref nd, .ref ne, .ref nm, .ref nn, .int (nI fi), .int (nI gl), .int (nI un), .int (nI mi), .int (nI no)])), (nn, .inl (y 6, 6, .inr (.inr (.inr (.inr fn_))))), (t0, .inl (y 0, 5, .inl t0f)), (t1, .inl (y 0, 5, .inl t1f)), (t2, .inl (y 0, 5, .inl t2f)), (t3, .inl (y 0, 5, .inl t3f)), (t4, .inl (y 0, 5, .inl t4f)), (t5, .inl (y 0, 5, .inl t5f)), (o, .inr (3, []))] H := hP
            have hD : va_D A [(nw, .inr (4, [.ref kk, .ref nk, .ref nd, .ref ne, .ref nm, .ref nn, .int (nI fi), .int (nI gl), .int (nI un), .int (nI mi), .int (nI no)])), (nn, .inl (y 6, 6, .inr (.inr (.inr (.inr fn_))))), (t0, .inl (y 0, 5, .inl t0f)), (t1, .inl (y 0, 5, .inl t1f)), (t2, .inl (y 0, 5, .inl t2f)), (t3, .inl (y 0, 5, .inl t3f)), (t4, .inl (y 0, 5, .inl t4f)), (t5, .inl (y 0, 5, .inl t5f)), (o, .inr (3, []))] := hD
            refine lv_aload hx hb dX4_notesFit_42 (lv_at hl 0 rfl) ?_
            refine lv_iconst (v := 4) hx hb dX4_notesFit_44 (by decide) ?_
            refine va_iald hx hb hK hP 6 0 rfl rfl (by unfold vp_in; decide) dX4_notesFit_45 ?_
            rw [show ((4 : Int32)).toNatClampNeg = 4 from rfl]
            refine lv_icmp_eq (tgt := 51) hx hb dX4_notesFit_46 (by decide) (fun h81 => ?_) (fun h82 => ?_)
            · skip
              refine lv_iinc (v := (nI 5)) (lv' := [(3, .int (nI 5)), (4, .ref t4), (0, .ref nw), (1, .int x), (2, .ref o)]) hx hb dX4_notesFit_51 hl (k := 1) rfl (nI_1 4) (by decide) rfl (fun ls hl => ?_)
              refine lv_goto (tgt := 2) hx hb dX4_notesFit_54 (by decide) ?_
              exact ihj91 5  H locs ls (by omega) (by omega)  (hP.sub [0, 8, 1, 2, 3, 4, 5, 6, 7] rfl) (hD.sub [0, 8, 1, 2, 3, 4, 5, 6, 7] (by decide) rfl) hS (lv_sub hl [0, 2, 3, 4] rfl)
            · skip
              refine lv_iconst (v := 0) hx hb dX4_notesFit_49 (by decide) ?_
              exact W.zret (v := 0) hx hb hr (by decide) (fun tZ ht hW => ⟨⟨0, (), rfl, Or.inl rfl, by rw [ht]; exact hP.sub [0, 8, 1, 2, 3, 4, 5, 6, 7] rfl, hD.sub [0, 8, 1, 2, 3, 4, 5, 6, 7] (by decide) rfl⟩, hS.F ht⟩) hS.2.2 dX4_notesFit_50
        · skip
          refine kw_aldQ hx hb hK hP 2 6 rfl rfl (vp_in_nI (by omega) (by decide)) dX4_notesFit_15 ?_
          rw [nI_clamp (n := 5) (by omega), show va_rf (fn_ 5) = .ref t5 from congrArg va_rf hn5]
          refine lv_astore (lv' := [(4, .ref t5), (3, .int (nI 5)), (0, .ref nw), (1, .int x), (2, .ref o)]) hx hb dX4_notesFit_16 hl (by decide) rfl (fun ls hl => ?_)
          refine lv_aload hx hb dX4_notesFit_18 (lv_at hl 0 rfl) ?_
          refine lv_iconst (v := 0) hx hb dX4_notesFit_20 (by decide) ?_
          refine va_iald hx hb hK hP 8 0 rfl rfl (by unfold vp_in; decide) dX4_notesFit_21 ?_
          rw [show ((0 : Int32)).toNatClampNeg = 0 from rfl]
          refine lv_iload_n hx hb dX4_notesFit_22 rfl (lv_at hl 3 rfl) ?_
          refine lv_icmp_ne (tgt := 51) hx hb dX4_notesFit_23 (by decide) (fun h83 => ?_) (fun h84 => ?_)
          · skip
            refine lv_iinc (v := (nI 6)) (lv' := [(3, .int (nI 6)), (4, .ref t5), (0, .ref nw), (1, .int x), (2, .ref o)]) hx hb dX4_notesFit_51 hl (k := 1) rfl (nI_1 5) (by decide) rfl (fun ls hl => ?_)
            refine lv_goto (tgt := 2) hx hb dX4_notesFit_54 (by decide) ?_
            exact ihj91 6  H locs ls (by omega) (by omega)  (hP.sub [0, 1, 2, 3, 4, 5, 6, 7, 8] rfl) (hD.sub [0, 1, 2, 3, 4, 5, 6, 7, 8] (by decide) rfl) hS (lv_sub hl [0, 2, 3, 4] rfl)
          · skip
            refine lv_aload_n hx hb dX4_notesFit_26 rfl (lv_at hl 4 rfl) ?_
            refine lv_aload hx hb dX4_notesFit_27 (lv_at hl 0 rfl) ?_
            refine lv_iconst (v := 1) hx hb dX4_notesFit_29 (by decide) ?_
            refine va_iald hx hb hK hP 8 0 rfl rfl (by unfold vp_in; decide) dX4_notesFit_30 ?_
            rw [show ((1 : Int32)).toNatClampNeg = 1 from rfl]
            refine lv_aload hx hb dX4_notesFit_31 (lv_at hl 0 rfl) ?_
            refine lv_iconst (v := 2) hx hb dX4_notesFit_33 (by decide) ?_
            refine va_iald hx hb hK hP 8 0 rfl rfl (by unfold vp_in; decide) dX4_notesFit_34 ?_
            rw [show ((2 : Int32)).toNatClampNeg = 2 from rfl]
            refine lv_aload hx hb dX4_notesFit_35 (lv_at hl 0 rfl) ?_
            refine lv_iconst (v := 3) hx hb dX4_notesFit_37 (by decide) ?_
            refine va_iald hx hb hK hP 8 0 rfl rfl (by unfold vp_in; decide) dX4_notesFit_38 ?_
            rw [show ((3 : Int32)).toNatClampNeg = 3 from rfl]
            have hs85 : kw_Split [(nw, .inr (4, [.ref kk, .ref nk, .ref nd, .ref ne, .ref nm, .ref nn, .int (nI fi), .int (nI gl), .int (nI un), .int (nI mi), .int (nI no)])), (o, .inr (3, [])), (nn, .inl (y 6, 6, .inr (.inr (.inr (.inr fn_))))), (t0, .inl (y 0, 5, .inl t0f)), (t1, .inl (y 0, 5, .inl t1f)), (t2, .inl (y 0, 5, .inl t2f)), (t3, .inl (y 0, 5, .inl t3f)), (t4, .inl (y 0, 5, .inl t4f)), (t5, .inl (y 0, 5, .inl t5f))] [(o, .inr (3, []))] [(nw, .inr (4, [.ref kk, .ref nk, .ref nd, .ref ne, .ref nm, .ref nn, .int (nI fi), .int (nI gl), .int (nI un), .int (nI mi), .int (nI no)])), (nn, .inl (y 6, 6, .inr (.inr (.inr (.inr fn_))))), (t0, .inl (y 0, 5, .inl t0f)), (t1, .inl (y 0, 5, .inl t1f)), (t2, .inl (y 0, 5, .inl t2f)), (t3, .inl (y 0, 5, .inl t3f)), (t4, .inl (y 0, 5, .inl t4f)), (t5, .inl (y 0, 5, .inl t5f))] [1] [0, 2, 3, 4, 5, 6, 7, 8] := ⟨rfl, rfl, rfl, rfl, rfl, by decide⟩
            refine kw_go_i hs85 hP hD hS hA (va_runU (As := [.int (t5f 1), .int (t5f 2), .int (t5f 3)]) (rest := []) ⟨hx, hb, hml, hown, hts⟩ (gc_Lane_on3 l D y o (t5f 1) (t5f 2) (t5f 3)  _) (va_cwO 3 hts gX4_notesFit_X3_sight_u89X3 rfl rfl rfl (List.mem_of_getElem? (i := 24) rfl) (by decide +kernel) ⟨Nat.le_of_ble_eq_true rfl, Nat.le_of_ble_eq_true rfl⟩) (kw_PreV (ci := 3) (q0 := 1) hs85 hP hD hK hN rfl rfl) rfl rfl hl.1 rfl (lv_room (Nat.le_of_ble_eq_true rfl)) dX4_notesFit_39 ⟨Nat.le_of_ble_eq_true rfl, Nat.le_of_ble_eq_true rfl⟩) (fun r86 u87 H locs hq hP hD hS => ?_)
            have hP : va_P D vwCl [(nw, .inr (4, [.ref kk, .ref nk, .ref nd, .ref ne, .ref nm, .ref nn, .int (nI fi), .int (nI gl), .int (nI un), .int (nI mi), .int (nI no)])), (nn, .inl (y 6, 6, .inr (.inr (.inr (.inr fn_))))), (t0, .inl (y 0, 5, .inl t0f)), (t1, .inl (y 0, 5, .inl t1f)), (t2, .inl (y 0, 5, .inl t2f)), (t3, .inl (y 0, 5, .inl t3f)), (t4, .inl (y 0, 5, .inl t4f)), (t5, .inl (y 0, 5, .inl t5f)), (o, .inr (3, []))] H := hP
            have hD : va_D A [(nw, .inr (4, [.ref kk, .ref nk, .ref nd, .ref ne, .ref nm, .ref nn, .int (nI fi), .int (nI gl), .int (nI un), .int (nI mi), .int (nI no)])), (nn, .inl (y 6, 6, .inr (.inr (.inr (.inr fn_))))), (t0, .inl (y 0, 5, .inl t0f)), (t1, .inl (y 0, 5, .inl t1f)), (t2, .inl (y 0, 5, .inl t2f)), (t3, .inl (y 0, 5, .inl t3f)), (t4, .inl (y 0, 5, .inl t4f)), (t5, .inl (y 0, 5, .inl t5f)), (o, .inr (3, []))] := hD
            refine lv_aload hx hb dX4_notesFit_42 (lv_at hl 0 rfl) ?_
            refine lv_iconst (v := 4) hx hb dX4_notesFit_44 (by decide) ?_
            refine va_iald hx hb hK hP 7 0 rfl rfl (by unfold vp_in; decide) dX4_notesFit_45 ?_
            rw [show ((4 : Int32)).toNatClampNeg = 4 from rfl]
            refine lv_icmp_eq (tgt := 51) hx hb dX4_notesFit_46 (by decide) (fun h88 => ?_) (fun h89 => ?_)
            · skip
              refine lv_iinc (v := (nI 6)) (lv' := [(3, .int (nI 6)), (4, .ref t5), (0, .ref nw), (1, .int x), (2, .ref o)]) hx hb dX4_notesFit_51 hl (k := 1) rfl (nI_1 5) (by decide) rfl (fun ls hl => ?_)
              refine lv_goto (tgt := 2) hx hb dX4_notesFit_54 (by decide) ?_
              exact ihj91 6  H locs ls (by omega) (by omega)  (hP.sub [0, 8, 1, 2, 3, 4, 5, 6, 7] rfl) (hD.sub [0, 8, 1, 2, 3, 4, 5, 6, 7] (by decide) rfl) hS (lv_sub hl [0, 2, 3, 4] rfl)
            · skip
              refine lv_iconst (v := 0) hx hb dX4_notesFit_49 (by decide) ?_
              exact W.zret (v := 0) hx hb hr (by decide) (fun tZ ht hW => ⟨⟨0, (), rfl, Or.inl rfl, by rw [ht]; exact hP.sub [0, 8, 1, 2, 3, 4, 5, 6, 7] rfl, hD.sub [0, 8, 1, 2, 3, 4, 5, 6, 7] (by decide) rfl⟩, hS.F ht⟩) hS.2.2 dX4_notesFit_50
  exact lp45 (no + 1) 0  _ _ _ (by omega) (by omega)  hP hD hS (lv_sub hl [0, 1, 2, 3] rfl)

set_option maxHeartbeats 4000000 in
set_option maxRecDepth 100000 in
theorem gc_kindsThatFit (l : Launch) (D : va_G) (y : Nat → ClassId) (nw : Nat) (kk : Nat) (nk : Nat) (nd : Nat) (ne : Nat) (nm : Nat) (nn : Nat) (fi : Nat) (gl : Nat) (un : Nat) (mi : Nat) (no : Nat) (t0 : Nat) (t1 : Nat) (t2 : Nat) (t3 : Nat) (t4 : Nat) (t5 : Nat) (t0f : Nat → Int32) (t1f : Nat → Int32) (t2f : Nat → Int32) (t3f : Nat → Int32) (t4f : Nat → Int32) (t5f : Nat → Int32) (fn_ : Nat → Option Nat) (k0 : Nat) (k1 : Nat) (k2 : Nat) (k3 : Nat) (k4 : Nat) (k5 : Nat) (fq : Nat → Option Nat) (x : Int32) (hfi : fi ≤ 6) (hgl : gl ≤ 5) (hun : un ≤ 8) (hmi : mi ≤ 4) (hno : no ≤ 6) (hn0 : fn_ 0 = some t0) (hn1 : fn_ 1 = some t1) (hn2 : fn_ 2 = some t2) (hn3 : fn_ 3 = some t3) (hn4 : fn_ 4 = some t4) (hn5 : fn_ 5 = some t5) (hq0 : fq 0 = some k0) (hq1 : fq 1 = some k1) (hq2 : fq 2 = some k2) (hq3 : fq 3 = some k3) (hq4 : fq 4 = some k4) (hq5 : fq 5 = some k5) : kw_Mi l yX4_kindsThatFit wsX4_kindsThatFit ({ frames := 5, cells := 0, slots := 0, locals := 154 }) D y [.ref nw, .int x] [(nw, .inr (4, [.ref kk, .ref nk, .ref nd, .ref ne, .ref nm, .ref nn, .int (nI fi), .int (nI gl), .int (nI un), .int (nI mi), .int (nI no)])), (kk, .inl (y 5, 6, .inr (.inr (.inr (.inr fq))))), (k0, .inr (5, [])), (k1, .inr (8, [])), (k2, .inr (9, [])), (k3, .inr (6, [])), (k4, .inr (2, [])), (k5, .inr (3, [])), (nn, .inl (y 6, 6, .inr (.inr (.inr (.inr fn_))))), (t0, .inl (y 0, 5, .inl t0f)), (t1, .inl (y 0, 5, .inl t1f)), (t2, .inl (y 0, 5, .inl t2f)), (t3, .inl (y 0, 5, .inl t3f)), (t4, .inl (y 0, 5, .inl t4f)), (t5, .inl (y 0, 5, .inl t5f))] (fun (r : Int32) (u : Unit) => True) (fun _ => [(nw, .inr (4, [.ref kk, .ref nk, .ref nd, .ref ne, .ref nm, .ref nn, .int (nI fi), .int (nI gl), .int (nI un), .int (nI mi), .int (nI no)])), (kk, .inl (y 5, 6, .inr (.inr (.inr (.inr fq))))), (k0, .inr (5, [])), (k1, .inr (8, [])), (k2, .inr (9, [])), (k3, .inr (6, [])), (k4, .inr (2, [])), (k5, .inr (3, [])), (nn, .inl (y 6, 6, .inr (.inr (.inr (.inr fn_))))), (t0, .inl (y 0, 5, .inl t0f)), (t1, .inl (y 0, 5, .inl t1f)), (t2, .inl (y 0, 5, .inl t2f)), (t3, .inl (y 0, 5, .inl t3f)), (t4, .inl (y 0, 5, .inl t4f)), (t5, .inl (y 0, 5, .inl t5f))]) 0 0 := by
  refine kw_Mi.of (cc := cX4_kindsThatFit) (maxL := 4) (ret := (some .int)) (by decide) rfl ?_
  intro pZ eZ s mZ beZ meZ cZ A hE
  obtain ⟨hx, hb, hr, hml, hts, hown, hlocks, hin, hA, hP, hD, hK, hN⟩ := hE
  have hS : va_S A s.heap s.heap [] := va_S.rf
  have hl := lv_entry ([.ref nw, .int x]) (n := 4) (Nat.le_of_ble_eq_true rfl)
  rw [lg_entry_eq]
  generalize (lg_sl ([.ref nw, .int x]) ++ List.replicate (4 - (lg_sl ([.ref nw, .int x])).length) Slot.unset).toArray = ls at hl ⊢
  have hl : lv_has ls 4 [(0, .ref nw), (1, .int x)] := hl
  have fw1 := hts (.fieldLink RX4 34 "GleanDusk$Parish" "kinds" "[LGleanDusk$Plain;") (List.mem_of_getElem? (i := 1) rfl)
  have iw4 : ∀ w ∈ wsX40, w ∈ wsX4_kindsThatFit := fun _ h => List.mem_cons_of_mem _ (List.mem_append_right _ h)
  refine lv_iconst (v := 0) hx hb dX4_kindsThatFit_0 (by decide) ?_
  refine lv_istore_n (lv' := [(2, .int 0), (0, .ref nw), (1, .int x)]) hx hb dX4_kindsThatFit_1 rfl hl (by decide) rfl (fun ls hl => ?_)
  refine lv_iconst (v := 0) hx hb dX4_kindsThatFit_2 (by decide) ?_
  refine lv_istore_n (lv' := [(3, .int 0), (2, .int 0), (0, .ref nw), (1, .int x)]) hx hb dX4_kindsThatFit_3 rfl hl (by decide) rfl (fun ls hl => ?_)
  have lp42 : ∀ (fuj91 j91 : Nat) (x21 : Int32) (H : Heap) (locs : List Loc) (ls : Array Slot), j91 ≤ 6 → 6 - j91 < fuj91 → va_P D vwCl [(nw, .inr (4, [.ref kk, .ref nk, .ref nd, .ref ne, .ref nm, .ref nn, .int (nI fi), .int (nI gl), .int (nI un), .int (nI mi), .int (nI no)])), (kk, .inl (y 5, 6, .inr (.inr (.inr (.inr fq))))), (k0, .inr (5, [])), (k1, .inr (8, [])), (k2, .inr (9, [])), (k3, .inr (6, [])), (k4, .inr (2, [])), (k5, .inr (3, [])), (nn, .inl (y 6, 6, .inr (.inr (.inr (.inr fn_))))), (t0, .inl (y 0, 5, .inl t0f)), (t1, .inl (y 0, 5, .inl t1f)), (t2, .inl (y 0, 5, .inl t2f)), (t3, .inl (y 0, 5, .inl t3f)), (t4, .inl (y 0, 5, .inl t4f)), (t5, .inl (y 0, 5, .inl t5f))] H → va_D A [(nw, .inr (4, [.ref kk, .ref nk, .ref nd, .ref ne, .ref nm, .ref nn, .int (nI fi), .int (nI gl), .int (nI un), .int (nI mi), .int (nI no)])), (kk, .inl (y 5, 6, .inr (.inr (.inr (.inr fq))))), (k0, .inr (5, [])), (k1, .inr (8, [])), (k2, .inr (9, [])), (k3, .inr (6, [])), (k4, .inr (2, [])), (k5, .inr (3, [])), (nn, .inl (y 6, 6, .inr (.inr (.inr (.inr fn_))))), (t0, .inl (y 0, 5, .inl t0f)), (t1, .inl (y 0, 5, .inl t1f)), (t2, .inl (y 0, 5, .inl t2f)), (t3, .inl (y 0, 5, .inl t3f)), (t4, .inl (y 0, 5, .inl t4f)), (t5, .inl (y 0, 5, .inl t5f))] → va_S A s.heap H locs → lv_has ls 4 [(3, .int (nI j91)), (2, .int x21), (0, .ref nw), (1, .int x)] → W pZ l eZ ({ frames := 5, cells := 0, slots := 0, locals := 154 }) s mZ [.ref nw, .int x].toArray beZ meZ cZ H locs 0 0 (MQ beZ (va_Qi (fun (r : Int32) (u : Unit) => True) (kw_B D (fun _ => [(nw, .inr (4, [.ref kk, .ref nk, .ref nd, .ref ne, .ref nm, .ref nn, .int (nI fi), .int (nI gl), .int (nI un), .int (nI mi), .int (nI no)])), (kk, .inl (y 5, 6, .inr (.inr (.inr (.inr fq))))), (k0, .inr (5, [])), (k1, .inr (8, [])), (k2, .inr (9, [])), (k3, .inr (6, [])), (k4, .inr (2, [])), (k5, .inr (3, [])), (nn, .inl (y 6, 6, .inr (.inr (.inr (.inr fn_))))), (t0, .inl (y 0, 5, .inl t0f)), (t1, .inl (y 0, 5, .inl t1f)), (t2, .inl (y 0, 5, .inl t2f)), (t3, .inl (y 0, 5, .inl t3f)), (t4, .inl (y 0, 5, .inl t4f)), (t5, .inl (y 0, 5, .inl t5f))]) A) A) [.ref nw, .int x].toArray s 0 0 A) (F0 mZ 4 ls []) := by
    intro fuj91
    induction fuj91 with
    | zero => intro j91 x21 H locs ls hj9 hf9; exact absurd hf9 (Nat.not_lt_zero _)
    | succ fuj91 ihj91 =>
      intro j91 x21 H locs ls hj91 hfj91  hP hD hS hl
      refine lv_iload_n hx hb dX4_kindsThatFit_4 rfl (lv_at hl 0 rfl) ?_
      refine lv_bipush (v := 6) hx hb dX4_kindsThatFit_5 (by decide) ?_
      refine lv_icmp_ge (tgt := 36) hx hb dX4_kindsThatFit_7 (by decide) (fun h43 => ?_) (fun h44 => ?_)
      · skip
        have h43 : 6 ≤ j91 := (nI_leI (a := 6) (b := j91) (by omega) (by omega)).mp h43
        refine lv_iload_n hx hb dX4_kindsThatFit_36 rfl (lv_at hl 1 rfl) ?_
        exact W.iret (v := x21) hx hb hr (fun tZ ht hW => ⟨⟨x21, (), rfl, trivial, by rw [ht]; exact hP.sub [0, 1, 2, 3, 4, 5, 6, 7, 8, 9, 10, 11, 12, 13, 14] rfl, hD.sub [0, 1, 2, 3, 4, 5, 6, 7, 8, 9, 10, 11, 12, 13, 14] (by decide) rfl⟩, hS.F ht⟩) hS.2.2 dX4_kindsThatFit_37
      · skip
        have h44 : ¬ 6 ≤ j91 := fun q9 => h44 ((nI_leI (a := 6) (b := j91) (by omega) (by omega)).mpr q9)
        refine lv_aload_n hx hb dX4_kindsThatFit_10 rfl (lv_at hl 2 rfl) ?_
        refine lv_iload_n hx hb dX4_kindsThatFit_11 rfl (lv_at hl 3 rfl) ?_
        refine lv_aload_n hx hb dX4_kindsThatFit_12 rfl (lv_at hl 2 rfl) ?_
        refine va_get (D := D) (ci := 4) (v := .ref kk) (C := RX4) (T := TX4) (N := 11) hx hb hts iw4 hown hK hP 0 rfl rfl 0 (by decide) fw1 (fun _ h9 => h9) rfl dX4_kindsThatFit_13 ?_
        refine lv_iload_n hx hb dX4_kindsThatFit_16 rfl (lv_at hl 0 rfl) ?_
        rcases (show j91 = 0 ∨ j91 = 1 ∨ j91 = 2 ∨ j91 = 3 ∨ j91 = 4 ∨ j91 = 5 by omega) with rfl | rfl | rfl | rfl | rfl | rfl
        · skip
          refine va_aldq hx hb hK hP 1 5 rfl rfl (vp_in_nI (by omega) (by decide)) dX4_kindsThatFit_17 ?_
          rw [nI_clamp (n := 0) (by omega), show va_rf (fq 0) = .ref k0 from congrArg va_rf hq0]
          have hs45 : kw_Split [(nw, .inr (4, [.ref kk, .ref nk, .ref nd, .ref ne, .ref nm, .ref nn, .int (nI fi), .int (nI gl), .int (nI un), .int (nI mi), .int (nI no)])), (kk, .inl (y 5, 6, .inr (.inr (.inr (.inr fq))))), (k0, .inr (5, [])), (k1, .inr (8, [])), (k2, .inr (9, [])), (k3, .inr (6, [])), (k4, .inr (2, [])), (k5, .inr (3, [])), (nn, .inl (y 6, 6, .inr (.inr (.inr (.inr fn_))))), (t0, .inl (y 0, 5, .inl t0f)), (t1, .inl (y 0, 5, .inl t1f)), (t2, .inl (y 0, 5, .inl t2f)), (t3, .inl (y 0, 5, .inl t3f)), (t4, .inl (y 0, 5, .inl t4f)), (t5, .inl (y 0, 5, .inl t5f))] [(nw, .inr (4, [.ref kk, .ref nk, .ref nd, .ref ne, .ref nm, .ref nn, .int (nI fi), .int (nI gl), .int (nI un), .int (nI mi), .int (nI no)])), (k0, .inr (5, [])), (nn, .inl (y 6, 6, .inr (.inr (.inr (.inr fn_))))), (t0, .inl (y 0, 5, .inl t0f)), (t1, .inl (y 0, 5, .inl t1f)), (t2, .inl (y 0, 5, .inl t2f)), (t3, .inl (y 0, 5, .inl t3f)), (t4, .inl (y 0, 5, .inl t4f)), (t5, .inl (y 0, 5, .inl t5f))] [(kk, .inl (y 5, 6, .inr (.inr (.inr (.inr fq))))), (k1, .inr (8, [])), (k2, .inr (9, [])), (k3, .inr (6, [])), (k4, .inr (2, [])), (k5, .inr (3, []))] [0, 2, 8, 9, 10, 11, 12, 13, 14] [1, 3, 4, 5, 6, 7] := ⟨rfl, rfl, rfl, rfl, rfl, by decide⟩
          refine kw_go_i hs45 hP hD hS hA (va_runV (As := [.int x, .ref k0]) (rest := []) ⟨hx, hb, hml, hown, hts⟩ (gc_notesFit_on5 l D y nw kk nk nd ne nm nn fi gl un mi no t0 t1 t2 t3 t4 t5 t0f t1f t2f t3f t4f t5f fn_ k0 x hfi hgl hun hmi hno hn0 hn1 hn2 hn3 hn4 hn5 _) (cwV 2 hts gX4_kindsThatFit_X4_notesFit rfl rfl rfl (by decide +kernel) ⟨Nat.le_of_ble_eq_true rfl, Nat.le_of_ble_eq_true rfl⟩) (kw_PreV (ci := 4) (q0 := 0) hs45 hP hD hK hN rfl rfl) rfl rfl hl.1 rfl (lv_room (Nat.le_of_ble_eq_true rfl)) dX4_kindsThatFit_18 ⟨Nat.le_of_ble_eq_true rfl, Nat.le_of_ble_eq_true rfl⟩) (fun r46 u47 H locs hq hP hD hS => ?_)
          obtain (rfl | rfl) := hq
          · skip
            have hP : va_P D vwCl [(kk, .inl (y 5, 6, .inr (.inr (.inr (.inr fq))))), (k1, .inr (8, [])), (k2, .inr (9, [])), (k3, .inr (6, [])), (k4, .inr (2, [])), (k5, .inr (3, [])), (nw, .inr (4, [.ref kk, .ref nk, .ref nd, .ref ne, .ref nm, .ref nn, .int (nI fi), .int (nI gl), .int (nI un), .int (nI mi), .int (nI no)])), (k0, .inr (5, [])), (nn, .inl (y 6, 6, .inr (.inr (.inr (.inr fn_))))), (t0, .inl (y 0, 5, .inl t0f)), (t1, .inl (y 0, 5, .inl t1f)), (t2, .inl (y 0, 5, .inl t2f)), (t3, .inl (y 0, 5, .inl t3f)), (t4, .inl (y 0, 5, .inl t4f)), (t5, .inl (y 0, 5, .inl t5f))] H := hP
            have hD : va_D A [(kk, .inl (y 5, 6, .inr (.inr (.inr (.inr fq))))), (k1, .inr (8, [])), (k2, .inr (9, [])), (k3, .inr (6, [])), (k4, .inr (2, [])), (k5, .inr (3, [])), (nw, .inr (4, [.ref kk, .ref nk, .ref nd, .ref ne, .ref nm, .ref nn, .int (nI fi), .int (nI gl), .int (nI un), .int (nI mi), .int (nI no)])), (k0, .inr (5, [])), (nn, .inl (y 6, 6, .inr (.inr (.inr (.inr fn_))))), (t0, .inl (y 0, 5, .inl t0f)), (t1, .inl (y 0, 5, .inl t1f)), (t2, .inl (y 0, 5, .inl t2f)), (t3, .inl (y 0, 5, .inl t3f)), (t4, .inl (y 0, 5, .inl t4f)), (t5, .inl (y 0, 5, .inl t5f))] := hD
            refine lv_if_eq (tgt := 30) hx hb dX4_kindsThatFit_21 (by decide) (fun _ => ?_) (fun h9 => absurd h9 (by decide))
            refine lv_iinc (v := (nI 1)) (lv' := [(3, .int (nI 1)), (2, .int x21), (0, .ref nw), (1, .int x)]) hx hb dX4_kindsThatFit_30 hl (k := 0) rfl (nI_1 0) (by decide) rfl (fun ls hl => ?_)
            refine lv_goto (tgt := 4) hx hb dX4_kindsThatFit_33 (by decide) ?_
            exact ihj91 1 x21 H locs ls (by omega) (by omega)  (hP.sub [6, 0, 7, 1, 2, 3, 4, 5, 8, 9, 10, 11, 12, 13, 14] rfl) (hD.sub [6, 0, 7, 1, 2, 3, 4, 5, 8, 9, 10, 11, 12, 13, 14] (by decide) rfl) hS (lv_sub hl [0, 1, 2, 3] rfl)
          · skip
            have hP : va_P D vwCl [(kk, .inl (y 5, 6, .inr (.inr (.inr (.inr fq))))), (k1, .inr (8, [])), (k2, .inr (9, [])), (k3, .inr (6, [])), (k4, .inr (2, [])), (k5, .inr (3, [])), (nw, .inr (4, [.ref kk, .ref nk, .ref nd, .ref ne, .ref nm, .ref nn, .int (nI fi), .int (nI gl), .int (nI un), .int (nI mi), .int (nI no)])), (k0, .inr (5, [])), (nn, .inl (y 6, 6, .inr (.inr (.inr (.inr fn_))))), (t0, .inl (y 0, 5, .inl t0f)), (t1, .inl (y 0, 5, .inl t1f)), (t2, .inl (y 0, 5, .inl t2f)), (t3, .inl (y 0, 5, .inl t3f)), (t4, .inl (y 0, 5, .inl t4f)), (t5, .inl (y 0, 5, .inl t5f))] H := hP
            have hD : va_D A [(kk, .inl (y 5, 6, .inr (.inr (.inr (.inr fq))))), (k1, .inr (8, [])), (k2, .inr (9, [])), (k3, .inr (6, [])), (k4, .inr (2, [])), (k5, .inr (3, [])), (nw, .inr (4, [.ref kk, .ref nk, .ref nd, .ref ne, .ref nm, .ref nn, .int (nI fi), .int (nI gl), .int (nI un), .int (nI mi), .int (nI no)])), (k0, .inr (5, [])), (nn, .inl (y 6, 6, .inr (.inr (.inr (.inr fn_))))), (t0, .inl (y 0, 5, .inl t0f)), (t1, .inl (y 0, 5, .inl t1f)), (t2, .inl (y 0, 5, .inl t2f)), (t3, .inl (y 0, 5, .inl t3f)), (t4, .inl (y 0, 5, .inl t4f)), (t5, .inl (y 0, 5, .inl t5f))] := hD
            refine lv_if_eq (tgt := 30) hx hb dX4_kindsThatFit_21 (by decide) (fun h9 => absurd h9 (by decide)) (fun _ => ?_)
            refine lv_iload_n hx hb dX4_kindsThatFit_24 rfl (lv_at hl 1 rfl) ?_
            refine lv_iconst (v := 1) hx hb dX4_kindsThatFit_25 (by decide) ?_
            refine lv_iload_n hx hb dX4_kindsThatFit_26 rfl (lv_at hl 0 rfl) ?_
            refine lv_ishl hx hb dX4_kindsThatFit_27 ?_
            refine lv_ior hx hb dX4_kindsThatFit_28 ?_
            refine lv_istore_n (lv' := [(2, .int (x21 ||| (1 <<< ((nI 0) &&& 31)))), (3, .int (nI 0)), (0, .ref nw), (1, .int x)]) hx hb dX4_kindsThatFit_29 rfl hl (by decide) rfl (fun ls hl => ?_)
            refine lv_iinc (v := (nI 1)) (lv' := [(3, .int (nI 1)), (2, .int (x21 ||| (1 <<< ((nI 0) &&& 31)))), (0, .ref nw), (1, .int x)]) hx hb dX4_kindsThatFit_30 hl (k := 1) rfl (nI_1 0) (by decide) rfl (fun ls hl => ?_)
            refine lv_goto (tgt := 4) hx hb dX4_kindsThatFit_33 (by decide) ?_
            exact ihj91 1 (x21 ||| (1 <<< ((nI 0) &&& 31))) H locs ls (by omega) (by omega)  (hP.sub [6, 0, 7, 1, 2, 3, 4, 5, 8, 9, 10, 11, 12, 13, 14] rfl) (hD.sub [6, 0, 7, 1, 2, 3, 4, 5, 8, 9, 10, 11, 12, 13, 14] (by decide) rfl) hS (lv_sub hl [0, 1, 2, 3] rfl)
        · skip
          refine va_aldq hx hb hK hP 1 5 rfl rfl (vp_in_nI (by omega) (by decide)) dX4_kindsThatFit_17 ?_
          rw [nI_clamp (n := 1) (by omega), show va_rf (fq 1) = .ref k1 from congrArg va_rf hq1]
          have hs48 : kw_Split [(nw, .inr (4, [.ref kk, .ref nk, .ref nd, .ref ne, .ref nm, .ref nn, .int (nI fi), .int (nI gl), .int (nI un), .int (nI mi), .int (nI no)])), (kk, .inl (y 5, 6, .inr (.inr (.inr (.inr fq))))), (k0, .inr (5, [])), (k1, .inr (8, [])), (k2, .inr (9, [])), (k3, .inr (6, [])), (k4, .inr (2, [])), (k5, .inr (3, [])), (nn, .inl (y 6, 6, .inr (.inr (.inr (.inr fn_))))), (t0, .inl (y 0, 5, .inl t0f)), (t1, .inl (y 0, 5, .inl t1f)), (t2, .inl (y 0, 5, .inl t2f)), (t3, .inl (y 0, 5, .inl t3f)), (t4, .inl (y 0, 5, .inl t4f)), (t5, .inl (y 0, 5, .inl t5f))] [(nw, .inr (4, [.ref kk, .ref nk, .ref nd, .ref ne, .ref nm, .ref nn, .int (nI fi), .int (nI gl), .int (nI un), .int (nI mi), .int (nI no)])), (k1, .inr (8, [])), (nn, .inl (y 6, 6, .inr (.inr (.inr (.inr fn_))))), (t0, .inl (y 0, 5, .inl t0f)), (t1, .inl (y 0, 5, .inl t1f)), (t2, .inl (y 0, 5, .inl t2f)), (t3, .inl (y 0, 5, .inl t3f)), (t4, .inl (y 0, 5, .inl t4f)), (t5, .inl (y 0, 5, .inl t5f))] [(kk, .inl (y 5, 6, .inr (.inr (.inr (.inr fq))))), (k0, .inr (5, [])), (k2, .inr (9, [])), (k3, .inr (6, [])), (k4, .inr (2, [])), (k5, .inr (3, []))] [0, 3, 8, 9, 10, 11, 12, 13, 14] [1, 2, 4, 5, 6, 7] := ⟨rfl, rfl, rfl, rfl, rfl, by decide⟩
          refine kw_go_i hs48 hP hD hS hA (va_runV (As := [.int x, .ref k1]) (rest := []) ⟨hx, hb, hml, hown, hts⟩ (gc_notesFit_on8 l D y nw kk nk nd ne nm nn fi gl un mi no t0 t1 t2 t3 t4 t5 t0f t1f t2f t3f t4f t5f fn_ k1 x hfi hgl hun hmi hno hn0 hn1 hn2 hn3 hn4 hn5 _) (cwV 2 hts gX4_kindsThatFit_X4_notesFit rfl rfl rfl (by decide +kernel) ⟨Nat.le_of_ble_eq_true rfl, Nat.le_of_ble_eq_true rfl⟩) (kw_PreV (ci := 4) (q0 := 0) hs48 hP hD hK hN rfl rfl) rfl rfl hl.1 rfl (lv_room (Nat.le_of_ble_eq_true rfl)) dX4_kindsThatFit_18 ⟨Nat.le_of_ble_eq_true rfl, Nat.le_of_ble_eq_true rfl⟩) (fun r49 u50 H locs hq hP hD hS => ?_)
          obtain (rfl | rfl) := hq
          · skip
            have hP : va_P D vwCl [(kk, .inl (y 5, 6, .inr (.inr (.inr (.inr fq))))), (k0, .inr (5, [])), (k2, .inr (9, [])), (k3, .inr (6, [])), (k4, .inr (2, [])), (k5, .inr (3, [])), (nw, .inr (4, [.ref kk, .ref nk, .ref nd, .ref ne, .ref nm, .ref nn, .int (nI fi), .int (nI gl), .int (nI un), .int (nI mi), .int (nI no)])), (k1, .inr (8, [])), (nn, .inl (y 6, 6, .inr (.inr (.inr (.inr fn_))))), (t0, .inl (y 0, 5, .inl t0f)), (t1, .inl (y 0, 5, .inl t1f)), (t2, .inl (y 0, 5, .inl t2f)), (t3, .inl (y 0, 5, .inl t3f)), (t4, .inl (y 0, 5, .inl t4f)), (t5, .inl (y 0, 5, .inl t5f))] H := hP
            have hD : va_D A [(kk, .inl (y 5, 6, .inr (.inr (.inr (.inr fq))))), (k0, .inr (5, [])), (k2, .inr (9, [])), (k3, .inr (6, [])), (k4, .inr (2, [])), (k5, .inr (3, [])), (nw, .inr (4, [.ref kk, .ref nk, .ref nd, .ref ne, .ref nm, .ref nn, .int (nI fi), .int (nI gl), .int (nI un), .int (nI mi), .int (nI no)])), (k1, .inr (8, [])), (nn, .inl (y 6, 6, .inr (.inr (.inr (.inr fn_))))), (t0, .inl (y 0, 5, .inl t0f)), (t1, .inl (y 0, 5, .inl t1f)), (t2, .inl (y 0, 5, .inl t2f)), (t3, .inl (y 0, 5, .inl t3f)), (t4, .inl (y 0, 5, .inl t4f)), (t5, .inl (y 0, 5, .inl t5f))] := hD
            refine lv_if_eq (tgt := 30) hx hb dX4_kindsThatFit_21 (by decide) (fun _ => ?_) (fun h9 => absurd h9 (by decide))
            refine lv_iinc (v := (nI 2)) (lv' := [(3, .int (nI 2)), (2, .int x21), (0, .ref nw), (1, .int x)]) hx hb dX4_kindsThatFit_30 hl (k := 0) rfl (nI_1 1) (by decide) rfl (fun ls hl => ?_)
            refine lv_goto (tgt := 4) hx hb dX4_kindsThatFit_33 (by decide) ?_
            exact ihj91 2 x21 H locs ls (by omega) (by omega)  (hP.sub [6, 0, 1, 7, 2, 3, 4, 5, 8, 9, 10, 11, 12, 13, 14] rfl) (hD.sub [6, 0, 1, 7, 2, 3, 4, 5, 8, 9, 10, 11, 12, 13, 14] (by decide) rfl) hS (lv_sub hl [0, 1, 2, 3] rfl)
          · skip
            have hP : va_P D vwCl [(kk, .inl (y 5, 6, .inr (.inr (.inr (.inr fq))))), (k0, .inr (5, [])), (k2, .inr (9, [])), (k3, .inr (6, [])), (k4, .inr (2, [])), (k5, .inr (3, [])), (nw, .inr (4, [.ref kk, .ref nk, .ref nd, .ref ne, .ref nm, .ref nn, .int (nI fi), .int (nI gl), .int (nI un), .int (nI mi), .int (nI no)])), (k1, .inr (8, [])), (nn, .inl (y 6, 6, .inr (.inr (.inr (.inr fn_))))), (t0, .inl (y 0, 5, .inl t0f)), (t1, .inl (y 0, 5, .inl t1f)), (t2, .inl (y 0, 5, .inl t2f)), (t3, .inl (y 0, 5, .inl t3f)), (t4, .inl (y 0, 5, .inl t4f)), (t5, .inl (y 0, 5, .inl t5f))] H := hP
            have hD : va_D A [(kk, .inl (y 5, 6, .inr (.inr (.inr (.inr fq))))), (k0, .inr (5, [])), (k2, .inr (9, [])), (k3, .inr (6, [])), (k4, .inr (2, [])), (k5, .inr (3, [])), (nw, .inr (4, [.ref kk, .ref nk, .ref nd, .ref ne, .ref nm, .ref nn, .int (nI fi), .int (nI gl), .int (nI un), .int (nI mi), .int (nI no)])), (k1, .inr (8, [])), (nn, .inl (y 6, 6, .inr (.inr (.inr (.inr fn_))))), (t0, .inl (y 0, 5, .inl t0f)), (t1, .inl (y 0, 5, .inl t1f)), (t2, .inl (y 0, 5, .inl t2f)), (t3, .inl (y 0, 5, .inl t3f)), (t4, .inl (y 0, 5, .inl t4f)), (t5, .inl (y 0, 5, .inl t5f))] := hD
            refine lv_if_eq (tgt := 30) hx hb dX4_kindsThatFit_21 (by decide) (fun h9 => absurd h9 (by decide)) (fun _ => ?_)
            refine lv_iload_n hx hb dX4_kindsThatFit_24 rfl (lv_at hl 1 rfl) ?_
            refine lv_iconst (v := 1) hx hb dX4_kindsThatFit_25 (by decide) ?_
            refine lv_iload_n hx hb dX4_kindsThatFit_26 rfl (lv_at hl 0 rfl) ?_
            refine lv_ishl hx hb dX4_kindsThatFit_27 ?_
            refine lv_ior hx hb dX4_kindsThatFit_28 ?_
            refine lv_istore_n (lv' := [(2, .int (x21 ||| (1 <<< ((nI 1) &&& 31)))), (3, .int (nI 1)), (0, .ref nw), (1, .int x)]) hx hb dX4_kindsThatFit_29 rfl hl (by decide) rfl (fun ls hl => ?_)
            refine lv_iinc (v := (nI 2)) (lv' := [(3, .int (nI 2)), (2, .int (x21 ||| (1 <<< ((nI 1) &&& 31)))), (0, .ref nw), (1, .int x)]) hx hb dX4_kindsThatFit_30 hl (k := 1) rfl (nI_1 1) (by decide) rfl (fun ls hl => ?_)
            refine lv_goto (tgt := 4) hx hb dX4_kindsThatFit_33 (by decide) ?_
            exact ihj91 2 (x21 ||| (1 <<< ((nI 1) &&& 31))) H locs ls (by omega) (by omega)  (hP.sub [6, 0, 1, 7, 2, 3, 4, 5, 8, 9, 10, 11, 12, 13, 14] rfl) (hD.sub [6, 0, 1, 7, 2, 3, 4, 5, 8, 9, 10, 11, 12, 13, 14] (by decide) rfl) hS (lv_sub hl [0, 1, 2, 3] rfl)
        · skip
          refine va_aldq hx hb hK hP 1 5 rfl rfl (vp_in_nI (by omega) (by decide)) dX4_kindsThatFit_17 ?_
          rw [nI_clamp (n := 2) (by omega), show va_rf (fq 2) = .ref k2 from congrArg va_rf hq2]
          have hs51 : kw_Split [(nw, .inr (4, [.ref kk, .ref nk, .ref nd, .ref ne, .ref nm, .ref nn, .int (nI fi), .int (nI gl), .int (nI un), .int (nI mi), .int (nI no)])), (kk, .inl (y 5, 6, .inr (.inr (.inr (.inr fq))))), (k0, .inr (5, [])), (k1, .inr (8, [])), (k2, .inr (9, [])), (k3, .inr (6, [])), (k4, .inr (2, [])), (k5, .inr (3, [])), (nn, .inl (y 6, 6, .inr (.inr (.inr (.inr fn_))))), (t0, .inl (y 0, 5, .inl t0f)), (t1, .inl (y 0, 5, .inl t1f)), (t2, .inl (y 0, 5, .inl t2f)), (t3, .inl (y 0, 5, .inl t3f)), (t4, .inl (y 0, 5, .inl t4f)), (t5, .inl (y 0, 5, .inl t5f))] [(nw, .inr (4, [.ref kk, .ref nk, .ref nd, .ref ne, .ref nm, .ref nn, .int (nI fi), .int (nI gl), .int (nI un), .int (nI mi), .int (nI no)])), (k2, .inr (9, [])), (nn, .inl (y 6, 6, .inr (.inr (.inr (.inr fn_))))), (t0, .inl (y 0, 5, .inl t0f)), (t1, .inl (y 0, 5, .inl t1f)), (t2, .inl (y 0, 5, .inl t2f)), (t3, .inl (y 0, 5, .inl t3f)), (t4, .inl (y 0, 5, .inl t4f)), (t5, .inl (y 0, 5, .inl t5f))] [(kk, .inl (y 5, 6, .inr (.inr (.inr (.inr fq))))), (k0, .inr (5, [])), (k1, .inr (8, [])), (k3, .inr (6, [])), (k4, .inr (2, [])), (k5, .inr (3, []))] [0, 4, 8, 9, 10, 11, 12, 13, 14] [1, 2, 3, 5, 6, 7] := ⟨rfl, rfl, rfl, rfl, rfl, by decide⟩
          refine kw_go_i hs51 hP hD hS hA (va_runV (As := [.int x, .ref k2]) (rest := []) ⟨hx, hb, hml, hown, hts⟩ (gc_notesFit_on9 l D y nw kk nk nd ne nm nn fi gl un mi no t0 t1 t2 t3 t4 t5 t0f t1f t2f t3f t4f t5f fn_ k2 x hfi hgl hun hmi hno hn0 hn1 hn2 hn3 hn4 hn5 _) (cwV 2 hts gX4_kindsThatFit_X4_notesFit rfl rfl rfl (by decide +kernel) ⟨Nat.le_of_ble_eq_true rfl, Nat.le_of_ble_eq_true rfl⟩) (kw_PreV (ci := 4) (q0 := 0) hs51 hP hD hK hN rfl rfl) rfl rfl hl.1 rfl (lv_room (Nat.le_of_ble_eq_true rfl)) dX4_kindsThatFit_18 ⟨Nat.le_of_ble_eq_true rfl, Nat.le_of_ble_eq_true rfl⟩) (fun r52 u53 H locs hq hP hD hS => ?_)
          obtain (rfl | rfl) := hq
          · skip
            have hP : va_P D vwCl [(kk, .inl (y 5, 6, .inr (.inr (.inr (.inr fq))))), (k0, .inr (5, [])), (k1, .inr (8, [])), (k3, .inr (6, [])), (k4, .inr (2, [])), (k5, .inr (3, [])), (nw, .inr (4, [.ref kk, .ref nk, .ref nd, .ref ne, .ref nm, .ref nn, .int (nI fi), .int (nI gl), .int (nI un), .int (nI mi), .int (nI no)])), (k2, .inr (9, [])), (nn, .inl (y 6, 6, .inr (.inr (.inr (.inr fn_))))), (t0, .inl (y 0, 5, .inl t0f)), (t1, .inl (y 0, 5, .inl t1f)), (t2, .inl (y 0, 5, .inl t2f)), (t3, .inl (y 0, 5, .inl t3f)), (t4, .inl (y 0, 5, .inl t4f)), (t5, .inl (y 0, 5, .inl t5f))] H := hP
            have hD : va_D A [(kk, .inl (y 5, 6, .inr (.inr (.inr (.inr fq))))), (k0, .inr (5, [])), (k1, .inr (8, [])), (k3, .inr (6, [])), (k4, .inr (2, [])), (k5, .inr (3, [])), (nw, .inr (4, [.ref kk, .ref nk, .ref nd, .ref ne, .ref nm, .ref nn, .int (nI fi), .int (nI gl), .int (nI un), .int (nI mi), .int (nI no)])), (k2, .inr (9, [])), (nn, .inl (y 6, 6, .inr (.inr (.inr (.inr fn_))))), (t0, .inl (y 0, 5, .inl t0f)), (t1, .inl (y 0, 5, .inl t1f)), (t2, .inl (y 0, 5, .inl t2f)), (t3, .inl (y 0, 5, .inl t3f)), (t4, .inl (y 0, 5, .inl t4f)), (t5, .inl (y 0, 5, .inl t5f))] := hD
            refine lv_if_eq (tgt := 30) hx hb dX4_kindsThatFit_21 (by decide) (fun _ => ?_) (fun h9 => absurd h9 (by decide))
            refine lv_iinc (v := (nI 3)) (lv' := [(3, .int (nI 3)), (2, .int x21), (0, .ref nw), (1, .int x)]) hx hb dX4_kindsThatFit_30 hl (k := 0) rfl (nI_1 2) (by decide) rfl (fun ls hl => ?_)
            refine lv_goto (tgt := 4) hx hb dX4_kindsThatFit_33 (by decide) ?_
            exact ihj91 3 x21 H locs ls (by omega) (by omega)  (hP.sub [6, 0, 1, 2, 7, 3, 4, 5, 8, 9, 10, 11, 12, 13, 14] rfl) (hD.sub [6, 0, 1, 2, 7, 3, 4, 5, 8, 9, 10, 11, 12, 13, 14] (by decide) rfl) hS (lv_sub hl [0, 1, 2, 3] rfl)
          · skip
            have hP : va_P D vwCl [(kk, .inl (y 5, 6, .inr (.inr (.inr (.inr fq))))), (k0, .inr (5, [])), (k1, .inr (8, [])), (k3, .inr (6, [])), (k4, .inr (2, [])), (k5, .inr (3, [])), (nw, .inr (4, [.ref kk, .ref nk, .ref nd, .ref ne, .ref nm, .ref nn, .int (nI fi), .int (nI gl), .int (nI un), .int (nI mi), .int (nI no)])), (k2, .inr (9, [])), (nn, .inl (y 6, 6, .inr (.inr (.inr (.inr fn_))))), (t0, .inl (y 0, 5, .inl t0f)), (t1, .inl (y 0, 5, .inl t1f)), (t2, .inl (y 0, 5, .inl t2f)), (t3, .inl (y 0, 5, .inl t3f)), (t4, .inl (y 0, 5, .inl t4f)), (t5, .inl (y 0, 5, .inl t5f))] H := hP
            have hD : va_D A [(kk, .inl (y 5, 6, .inr (.inr (.inr (.inr fq))))), (k0, .inr (5, [])), (k1, .inr (8, [])), (k3, .inr (6, [])), (k4, .inr (2, [])), (k5, .inr (3, [])), (nw, .inr (4, [.ref kk, .ref nk, .ref nd, .ref ne, .ref nm, .ref nn, .int (nI fi), .int (nI gl), .int (nI un), .int (nI mi), .int (nI no)])), (k2, .inr (9, [])), (nn, .inl (y 6, 6, .inr (.inr (.inr (.inr fn_))))), (t0, .inl (y 0, 5, .inl t0f)), (t1, .inl (y 0, 5, .inl t1f)), (t2, .inl (y 0, 5, .inl t2f)), (t3, .inl (y 0, 5, .inl t3f)), (t4, .inl (y 0, 5, .inl t4f)), (t5, .inl (y 0, 5, .inl t5f))] := hD
            refine lv_if_eq (tgt := 30) hx hb dX4_kindsThatFit_21 (by decide) (fun h9 => absurd h9 (by decide)) (fun _ => ?_)
            refine lv_iload_n hx hb dX4_kindsThatFit_24 rfl (lv_at hl 1 rfl) ?_
            refine lv_iconst (v := 1) hx hb dX4_kindsThatFit_25 (by decide) ?_
            refine lv_iload_n hx hb dX4_kindsThatFit_26 rfl (lv_at hl 0 rfl) ?_
            refine lv_ishl hx hb dX4_kindsThatFit_27 ?_
            refine lv_ior hx hb dX4_kindsThatFit_28 ?_
            refine lv_istore_n (lv' := [(2, .int (x21 ||| (1 <<< ((nI 2) &&& 31)))), (3, .int (nI 2)), (0, .ref nw), (1, .int x)]) hx hb dX4_kindsThatFit_29 rfl hl (by decide) rfl (fun ls hl => ?_)
            refine lv_iinc (v := (nI 3)) (lv' := [(3, .int (nI 3)), (2, .int (x21 ||| (1 <<< ((nI 2) &&& 31)))), (0, .ref nw), (1, .int x)]) hx hb dX4_kindsThatFit_30 hl (k := 1) rfl (nI_1 2) (by decide) rfl (fun ls hl => ?_)
            refine lv_goto (tgt := 4) hx hb dX4_kindsThatFit_33 (by decide) ?_
            exact ihj91 3 (x21 ||| (1 <<< ((nI 2) &&& 31))) H locs ls (by omega) (by omega)  (hP.sub [6, 0, 1, 2, 7, 3, 4, 5, 8, 9, 10, 11, 12, 13, 14] rfl) (hD.sub [6, 0, 1, 2, 7, 3, 4, 5, 8, 9, 10, 11, 12, 13, 14] (by decide) rfl) hS (lv_sub hl [0, 1, 2, 3] rfl)
        · skip
          refine va_aldq hx hb hK hP 1 5 rfl rfl (vp_in_nI (by omega) (by decide)) dX4_kindsThatFit_17 ?_
          rw [nI_clamp (n := 3) (by omega), show va_rf (fq 3) = .ref k3 from congrArg va_rf hq3]
          have hs54 : kw_Split [(nw, .inr (4, [.ref kk, .ref nk, .ref nd, .ref ne, .ref nm, .ref nn, .int (nI fi), .int (nI gl), .int (nI un), .int (nI mi), .int (nI no)])), (kk, .inl (y 5, 6, .inr (.inr (.inr (.inr fq))))), (k0, .inr (5, [])), (k1, .inr (8, [])), (k2, .inr (9, [])), (k3, .inr (6, [])), (k4, .inr (2, [])), (k5, .inr (3, [])), (nn, .inl (y 6, 6, .inr (.inr (.inr (.inr fn_))))), (t0, .inl (y 0, 5, .inl t0f)), (t1, .inl (y 0, 5, .inl t1f)), (t2, .inl (y 0, 5, .inl t2f)), (t3, .inl (y 0, 5, .inl t3f)), (t4, .inl (y 0, 5, .inl t4f)), (t5, .inl (y 0, 5, .inl t5f))] [(nw, .inr (4, [.ref kk, .ref nk, .ref nd, .ref ne, .ref nm, .ref nn, .int (nI fi), .int (nI gl), .int (nI un), .int (nI mi), .int (nI no)])), (k3, .inr (6, [])), (nn, .inl (y 6, 6, .inr (.inr (.inr (.inr fn_))))), (t0, .inl (y 0, 5, .inl t0f)), (t1, .inl (y 0, 5, .inl t1f)), (t2, .inl (y 0, 5, .inl t2f)), (t3, .inl (y 0, 5, .inl t3f)), (t4, .inl (y 0, 5, .inl t4f)), (t5, .inl (y 0, 5, .inl t5f))] [(kk, .inl (y 5, 6, .inr (.inr (.inr (.inr fq))))), (k0, .inr (5, [])), (k1, .inr (8, [])), (k2, .inr (9, [])), (k4, .inr (2, [])), (k5, .inr (3, []))] [0, 5, 8, 9, 10, 11, 12, 13, 14] [1, 2, 3, 4, 6, 7] := ⟨rfl, rfl, rfl, rfl, rfl, by decide⟩
          refine kw_go_i hs54 hP hD hS hA (va_runV (As := [.int x, .ref k3]) (rest := []) ⟨hx, hb, hml, hown, hts⟩ (gc_notesFit_on6 l D y nw kk nk nd ne nm nn fi gl un mi no t0 t1 t2 t3 t4 t5 t0f t1f t2f t3f t4f t5f fn_ k3 x hfi hgl hun hmi hno hn0 hn1 hn2 hn3 hn4 hn5 _) (cwV 2 hts gX4_kindsThatFit_X4_notesFit rfl rfl rfl (by decide +kernel) ⟨Nat.le_of_ble_eq_true rfl, Nat.le_of_ble_eq_true rfl⟩) (kw_PreV (ci := 4) (q0 := 0) hs54 hP hD hK hN rfl rfl) rfl rfl hl.1 rfl (lv_room (Nat.le_of_ble_eq_true rfl)) dX4_kindsThatFit_18 ⟨Nat.le_of_ble_eq_true rfl, Nat.le_of_ble_eq_true rfl⟩) (fun r55 u56 H locs hq hP hD hS => ?_)
          obtain (rfl | rfl) := hq
          · skip
            have hP : va_P D vwCl [(kk, .inl (y 5, 6, .inr (.inr (.inr (.inr fq))))), (k0, .inr (5, [])), (k1, .inr (8, [])), (k2, .inr (9, [])), (k4, .inr (2, [])), (k5, .inr (3, [])), (nw, .inr (4, [.ref kk, .ref nk, .ref nd, .ref ne, .ref nm, .ref nn, .int (nI fi), .int (nI gl), .int (nI un), .int (nI mi), .int (nI no)])), (k3, .inr (6, [])), (nn, .inl (y 6, 6, .inr (.inr (.inr (.inr fn_))))), (t0, .inl (y 0, 5, .inl t0f)), (t1, .inl (y 0, 5, .inl t1f)), (t2, .inl (y 0, 5, .inl t2f)), (t3, .inl (y 0, 5, .inl t3f)), (t4, .inl (y 0, 5, .inl t4f)), (t5, .inl (y 0, 5, .inl t5f))] H := hP
            have hD : va_D A [(kk, .inl (y 5, 6, .inr (.inr (.inr (.inr fq))))), (k0, .inr (5, [])), (k1, .inr (8, [])), (k2, .inr (9, [])), (k4, .inr (2, [])), (k5, .inr (3, [])), (nw, .inr (4, [.ref kk, .ref nk, .ref nd, .ref ne, .ref nm, .ref nn, .int (nI fi), .int (nI gl), .int (nI un), .int (nI mi), .int (nI no)])), (k3, .inr (6, [])), (nn, .inl (y 6, 6, .inr (.inr (.inr (.inr fn_))))), (t0, .inl (y 0, 5, .inl t0f)), (t1, .inl (y 0, 5, .inl t1f)), (t2, .inl (y 0, 5, .inl t2f)), (t3, .inl (y 0, 5, .inl t3f)), (t4, .inl (y 0, 5, .inl t4f)), (t5, .inl (y 0, 5, .inl t5f))] := hD
            refine lv_if_eq (tgt := 30) hx hb dX4_kindsThatFit_21 (by decide) (fun _ => ?_) (fun h9 => absurd h9 (by decide))
            refine lv_iinc (v := (nI 4)) (lv' := [(3, .int (nI 4)), (2, .int x21), (0, .ref nw), (1, .int x)]) hx hb dX4_kindsThatFit_30 hl (k := 0) rfl (nI_1 3) (by decide) rfl (fun ls hl => ?_)
            refine lv_goto (tgt := 4) hx hb dX4_kindsThatFit_33 (by decide) ?_
            exact ihj91 4 x21 H locs ls (by omega) (by omega)  (hP.sub [6, 0, 1, 2, 3, 7, 4, 5, 8, 9, 10, 11, 12, 13, 14] rfl) (hD.sub [6, 0, 1, 2, 3, 7, 4, 5, 8, 9, 10, 11, 12, 13, 14] (by decide) rfl) hS (lv_sub hl [0, 1, 2, 3] rfl)
          · skip
            have hP : va_P D vwCl [(kk, .inl (y 5, 6, .inr (.inr (.inr (.inr fq))))), (k0, .inr (5, [])), (k1, .inr (8, [])), (k2, .inr (9, [])), (k4, .inr (2, [])), (k5, .inr (3, [])), (nw, .inr (4, [.ref kk, .ref nk, .ref nd, .ref ne, .ref nm, .ref nn, .int (nI fi), .int (nI gl), .int (nI un), .int (nI mi), .int (nI no)])), (k3, .inr (6, [])), (nn, .inl (y 6, 6, .inr (.inr (.inr (.inr fn_))))), (t0, .inl (y 0, 5, .inl t0f)), (t1, .inl (y 0, 5, .inl t1f)), (t2, .inl (y 0, 5, .inl t2f)), (t3, .inl (y 0, 5, .inl t3f)), (t4, .inl (y 0, 5, .inl t4f)), (t5, .inl (y 0, 5, .inl t5f))] H := hP
            have hD : va_D A [(kk, .inl (y 5, 6, .inr (.inr (.inr (.inr fq))))), (k0, .inr (5, [])), (k1, .inr (8, [])), (k2, .inr (9, [])), (k4, .inr (2, [])), (k5, .inr (3, [])), (nw, .inr (4, [.ref kk, .ref nk, .ref nd, .ref ne, .ref nm, .ref nn, .int (nI fi), .int (nI gl), .int (nI un), .int (nI mi), .int (nI no)])), (k3, .inr (6, [])), (nn, .inl (y 6, 6, .inr (.inr (.inr (.inr fn_))))), (t0, .inl (y 0, 5, .inl t0f)), (t1, .inl (y 0, 5, .inl t1f)), (t2, .inl (y 0, 5, .inl t2f)), (t3, .inl (y 0, 5, .inl t3f)), (t4, .inl (y 0, 5, .inl t4f)), (t5, .inl (y 0, 5, .inl t5f))] := hD
            refine lv_if_eq (tgt := 30) hx hb dX4_kindsThatFit_21 (by decide) (fun h9 => absurd h9 (by decide)) (fun _ => ?_)
            refine lv_iload_n hx hb dX4_kindsThatFit_24 rfl (lv_at hl 1 rfl) ?_
            refine lv_iconst (v := 1) hx hb dX4_kindsThatFit_25 (by decide) ?_
            refine lv_iload_n hx hb dX4_kindsThatFit_26 rfl (lv_at hl 0 rfl) ?_
            refine lv_ishl hx hb dX4_kindsThatFit_27 ?_
            refine lv_ior hx hb dX4_kindsThatFit_28 ?_
            refine lv_istore_n (lv' := [(2, .int (x21 ||| (1 <<< ((nI 3) &&& 31)))), (3, .int (nI 3)), (0, .ref nw), (1, .int x)]) hx hb dX4_kindsThatFit_29 rfl hl (by decide) rfl (fun ls hl => ?_)
            refine lv_iinc (v := (nI 4)) (lv' := [(3, .int (nI 4)), (2, .int (x21 ||| (1 <<< ((nI 3) &&& 31)))), (0, .ref nw), (1, .int x)]) hx hb dX4_kindsThatFit_30 hl (k := 1) rfl (nI_1 3) (by decide) rfl (fun ls hl => ?_)
            refine lv_goto (tgt := 4) hx hb dX4_kindsThatFit_33 (by decide) ?_
            exact ihj91 4 (x21 ||| (1 <<< ((nI 3) &&& 31))) H locs ls (by omega) (by omega)  (hP.sub [6, 0, 1, 2, 3, 7, 4, 5, 8, 9, 10, 11, 12, 13, 14] rfl) (hD.sub [6, 0, 1, 2, 3, 7, 4, 5, 8, 9, 10, 11, 12, 13, 14] (by decide) rfl) hS (lv_sub hl [0, 1, 2, 3] rfl)
        · skip
          refine va_aldq hx hb hK hP 1 5 rfl rfl (vp_in_nI (by omega) (by decide)) dX4_kindsThatFit_17 ?_
          rw [nI_clamp (n := 4) (by omega), show va_rf (fq 4) = .ref k4 from congrArg va_rf hq4]
          have hs57 : kw_Split [(nw, .inr (4, [.ref kk, .ref nk, .ref nd, .ref ne, .ref nm, .ref nn, .int (nI fi), .int (nI gl), .int (nI un), .int (nI mi), .int (nI no)])), (kk, .inl (y 5, 6, .inr (.inr (.inr (.inr fq))))), (k0, .inr (5, [])), (k1, .inr (8, [])), (k2, .inr (9, [])), (k3, .inr (6, [])), (k4, .inr (2, [])), (k5, .inr (3, [])), (nn, .inl (y 6, 6, .inr (.inr (.inr (.inr fn_))))), (t0, .inl (y 0, 5, .inl t0f)), (t1, .inl (y 0, 5, .inl t1f)), (t2, .inl (y 0, 5, .inl t2f)), (t3, .inl (y 0, 5, .inl t3f)), (t4, .inl (y 0, 5, .inl t4f)), (t5, .inl (y 0, 5, .inl t5f))] [(nw, .inr (4, [.ref kk, .ref nk, .ref nd, .ref ne, .ref nm, .ref nn, .int (nI fi), .int (nI gl), .int (nI un), .int (nI mi), .int (nI no)])), (k4, .inr (2, [])), (nn, .inl (y 6, 6, .inr (.inr (.inr (.inr fn_))))), (t0, .inl (y 0, 5, .inl t0f)), (t1, .inl (y 0, 5, .inl t1f)), (t2, .inl (y 0, 5, .inl t2f)), (t3, .inl (y 0, 5, .inl t3f)), (t4, .inl (y 0, 5, .inl t4f)), (t5, .inl (y 0, 5, .inl t5f))] [(kk, .inl (y 5, 6, .inr (.inr (.inr (.inr fq))))), (k0, .inr (5, [])), (k1, .inr (8, [])), (k2, .inr (9, [])), (k3, .inr (6, [])), (k5, .inr (3, []))] [0, 6, 8, 9, 10, 11, 12, 13, 14] [1, 2, 3, 4, 5, 7] := ⟨rfl, rfl, rfl, rfl, rfl, by decide⟩
          refine kw_go_i hs57 hP hD hS hA (va_runV (As := [.int x, .ref k4]) (rest := []) ⟨hx, hb, hml, hown, hts⟩ (gc_notesFit_on2 l D y nw kk nk nd ne nm nn fi gl un mi no t0 t1 t2 t3 t4 t5 t0f t1f t2f t3f t4f t5f fn_ k4 x hfi hgl hun hmi hno hn0 hn1 hn2 hn3 hn4 hn5 _) (cwV 2 hts gX4_kindsThatFit_X4_notesFit rfl rfl rfl (by decide +kernel) ⟨Nat.le_of_ble_eq_true rfl, Nat.le_of_ble_eq_true rfl⟩) (kw_PreV (ci := 4) (q0 := 0) hs57 hP hD hK hN rfl rfl) rfl rfl hl.1 rfl (lv_room (Nat.le_of_ble_eq_true rfl)) dX4_kindsThatFit_18 ⟨Nat.le_of_ble_eq_true rfl, Nat.le_of_ble_eq_true rfl⟩) (fun r58 u59 H locs hq hP hD hS => ?_)
          obtain (rfl | rfl) := hq
          · skip
            have hP : va_P D vwCl [(kk, .inl (y 5, 6, .inr (.inr (.inr (.inr fq))))), (k0, .inr (5, [])), (k1, .inr (8, [])), (k2, .inr (9, [])), (k3, .inr (6, [])), (k5, .inr (3, [])), (nw, .inr (4, [.ref kk, .ref nk, .ref nd, .ref ne, .ref nm, .ref nn, .int (nI fi), .int (nI gl), .int (nI un), .int (nI mi), .int (nI no)])), (k4, .inr (2, [])), (nn, .inl (y 6, 6, .inr (.inr (.inr (.inr fn_))))), (t0, .inl (y 0, 5, .inl t0f)), (t1, .inl (y 0, 5, .inl t1f)), (t2, .inl (y 0, 5, .inl t2f)), (t3, .inl (y 0, 5, .inl t3f)), (t4, .inl (y 0, 5, .inl t4f)), (t5, .inl (y 0, 5, .inl t5f))] H := hP
            have hD : va_D A [(kk, .inl (y 5, 6, .inr (.inr (.inr (.inr fq))))), (k0, .inr (5, [])), (k1, .inr (8, [])), (k2, .inr (9, [])), (k3, .inr (6, [])), (k5, .inr (3, [])), (nw, .inr (4, [.ref kk, .ref nk, .ref nd, .ref ne, .ref nm, .ref nn, .int (nI fi), .int (nI gl), .int (nI un), .int (nI mi), .int (nI no)])), (k4, .inr (2, [])), (nn, .inl (y 6, 6, .inr (.inr (.inr (.inr fn_))))), (t0, .inl (y 0, 5, .inl t0f)), (t1, .inl (y 0, 5, .inl t1f)), (t2, .inl (y 0, 5, .inl t2f)), (t3, .inl (y 0, 5, .inl t3f)), (t4, .inl (y 0, 5, .inl t4f)), (t5, .inl (y 0, 5, .inl t5f))] := hD
            refine lv_if_eq (tgt := 30) hx hb dX4_kindsThatFit_21 (by decide) (fun _ => ?_) (fun h9 => absurd h9 (by decide))
            refine lv_iinc (v := (nI 5)) (lv' := [(3, .int (nI 5)), (2, .int x21), (0, .ref nw), (1, .int x)]) hx hb dX4_kindsThatFit_30 hl (k := 0) rfl (nI_1 4) (by decide) rfl (fun ls hl => ?_)
            refine lv_goto (tgt := 4) hx hb dX4_kindsThatFit_33 (by decide) ?_
            exact ihj91 5 x21 H locs ls (by omega) (by omega)  (hP.sub [6, 0, 1, 2, 3, 4, 7, 5, 8, 9, 10, 11, 12, 13, 14] rfl) (hD.sub [6, 0, 1, 2, 3, 4, 7, 5, 8, 9, 10, 11, 12, 13, 14] (by decide) rfl) hS (lv_sub hl [0, 1, 2, 3] rfl)
          · skip
            have hP : va_P D vwCl [(kk, .inl (y 5, 6, .inr (.inr (.inr (.inr fq))))), (k0, .inr (5, [])), (k1, .inr (8, [])), (k2, .inr (9, [])), (k3, .inr (6, [])), (k5, .inr (3, [])), (nw, .inr (4, [.ref kk, .ref nk, .ref nd, .ref ne, .ref nm, .ref nn, .int (nI fi), .int (nI gl), .int (nI un), .int (nI mi), .int (nI no)])), (k4, .inr (2, [])), (nn, .inl (y 6, 6, .inr (.inr (.inr (.inr fn_))))), (t0, .inl (y 0, 5, .inl t0f)), (t1, .inl (y 0, 5, .inl t1f)), (t2, .inl (y 0, 5, .inl t2f)), (t3, .inl (y 0, 5, .inl t3f)), (t4, .inl (y 0, 5, .inl t4f)), (t5, .inl (y 0, 5, .inl t5f))] H := hP
            have hD : va_D A [(kk, .inl (y 5, 6, .inr (.inr (.inr (.inr fq))))), (k0, .inr (5, [])), (k1, .inr (8, [])), (k2, .inr (9, [])), (k3, .inr (6, [])), (k5, .inr (3, [])), (nw, .inr (4, [.ref kk, .ref nk, .ref nd, .ref ne, .ref nm, .ref nn, .int (nI fi), .int (nI gl), .int (nI un), .int (nI mi), .int (nI no)])), (k4, .inr (2, [])), (nn, .inl (y 6, 6, .inr (.inr (.inr (.inr fn_))))), (t0, .inl (y 0, 5, .inl t0f)), (t1, .inl (y 0, 5, .inl t1f)), (t2, .inl (y 0, 5, .inl t2f)), (t3, .inl (y 0, 5, .inl t3f)), (t4, .inl (y 0, 5, .inl t4f)), (t5, .inl (y 0, 5, .inl t5f))] := hD
            refine lv_if_eq (tgt := 30) hx hb dX4_kindsThatFit_21 (by decide) (fun h9 => absurd h9 (by decide)) (fun _ => ?_)
            refine lv_iload_n hx hb dX4_kindsThatFit_24 rfl (lv_at hl 1 rfl) ?_
            refine lv_iconst (v := 1) hx hb dX4_kindsThatFit_25 (by decide) ?_
            refine lv_iload_n hx hb dX4_kindsThatFit_26 rfl (lv_at hl 0 rfl) ?_
            refine lv_ishl hx hb dX4_kindsThatFit_27 ?_
            refine lv_ior hx hb dX4_kindsThatFit_28 ?_
            refine lv_istore_n (lv' := [(2, .int (x21 ||| (1 <<< ((nI 4) &&& 31)))), (3, .int (nI 4)), (0, .ref nw), (1, .int x)]) hx hb dX4_kindsThatFit_29 rfl hl (by decide) rfl (fun ls hl => ?_)
            refine lv_iinc (v := (nI 5)) (lv' := [(3, .int (nI 5)), (2, .int (x21 ||| (1 <<< ((nI 4) &&& 31)))), (0, .ref nw), (1, .int x)]) hx hb dX4_kindsThatFit_30 hl (k := 1) rfl (nI_1 4) (by decide) rfl (fun ls hl => ?_)
            refine lv_goto (tgt := 4) hx hb dX4_kindsThatFit_33 (by decide) ?_
            exact ihj91 5 (x21 ||| (1 <<< ((nI 4) &&& 31))) H locs ls (by omega) (by omega)  (hP.sub [6, 0, 1, 2, 3, 4, 7, 5, 8, 9, 10, 11, 12, 13, 14] rfl) (hD.sub [6, 0, 1, 2, 3, 4, 7, 5, 8, 9, 10, 11, 12, 13, 14] (by decide) rfl) hS (lv_sub hl [0, 1, 2, 3] rfl)
        · skip
          refine va_aldq hx hb hK hP 1 5 rfl rfl (vp_in_nI (by omega) (by decide)) dX4_kindsThatFit_17 ?_
          rw [nI_clamp (n := 5) (by omega), show va_rf (fq 5) = .ref k5 from congrArg va_rf hq5]
          have hs60 : kw_Split [(nw, .inr (4, [.ref kk, .ref nk, .ref nd, .ref ne, .ref nm, .ref nn, .int (nI fi), .int (nI gl), .int (nI un), .int (nI mi), .int (nI no)])), (kk, .inl (y 5, 6, .inr (.inr (.inr (.inr fq))))), (k0, .inr (5, [])), (k1, .inr (8, [])), (k2, .inr (9, [])), (k3, .inr (6, [])), (k4, .inr (2, [])), (k5, .inr (3, [])), (nn, .inl (y 6, 6, .inr (.inr (.inr (.inr fn_))))), (t0, .inl (y 0, 5, .inl t0f)), (t1, .inl (y 0, 5, .inl t1f)), (t2, .inl (y 0, 5, .inl t2f)), (t3, .inl (y 0, 5, .inl t3f)), (t4, .inl (y 0, 5, .inl t4f)), (t5, .inl (y 0, 5, .inl t5f))] [(nw, .inr (4, [.ref kk, .ref nk, .ref nd, .ref ne, .ref nm, .ref nn, .int (nI fi), .int (nI gl), .int (nI un), .int (nI mi), .int (nI no)])), (k5, .inr (3, [])), (nn, .inl (y 6, 6, .inr (.inr (.inr (.inr fn_))))), (t0, .inl (y 0, 5, .inl t0f)), (t1, .inl (y 0, 5, .inl t1f)), (t2, .inl (y 0, 5, .inl t2f)), (t3, .inl (y 0, 5, .inl t3f)), (t4, .inl (y 0, 5, .inl t4f)), (t5, .inl (y 0, 5, .inl t5f))] [(kk, .inl (y 5, 6, .inr (.inr (.inr (.inr fq))))), (k0, .inr (5, [])), (k1, .inr (8, [])), (k2, .inr (9, [])), (k3, .inr (6, [])), (k4, .inr (2, []))] [0, 7, 8, 9, 10, 11, 12, 13, 14] [1, 2, 3, 4, 5, 6] := ⟨rfl, rfl, rfl, rfl, rfl, by decide⟩
          refine kw_go_i hs60 hP hD hS hA (va_runV (As := [.int x, .ref k5]) (rest := []) ⟨hx, hb, hml, hown, hts⟩ (gc_notesFit_on3 l D y nw kk nk nd ne nm nn fi gl un mi no t0 t1 t2 t3 t4 t5 t0f t1f t2f t3f t4f t5f fn_ k5 x hfi hgl hun hmi hno hn0 hn1 hn2 hn3 hn4 hn5 _) (cwV 2 hts gX4_kindsThatFit_X4_notesFit rfl rfl rfl (by decide +kernel) ⟨Nat.le_of_ble_eq_true rfl, Nat.le_of_ble_eq_true rfl⟩) (kw_PreV (ci := 4) (q0 := 0) hs60 hP hD hK hN rfl rfl) rfl rfl hl.1 rfl (lv_room (Nat.le_of_ble_eq_true rfl)) dX4_kindsThatFit_18 ⟨Nat.le_of_ble_eq_true rfl, Nat.le_of_ble_eq_true rfl⟩) (fun r61 u62 H locs hq hP hD hS => ?_)
          obtain (rfl | rfl) := hq
          · skip
            have hP : va_P D vwCl [(kk, .inl (y 5, 6, .inr (.inr (.inr (.inr fq))))), (k0, .inr (5, [])), (k1, .inr (8, [])), (k2, .inr (9, [])), (k3, .inr (6, [])), (k4, .inr (2, [])), (nw, .inr (4, [.ref kk, .ref nk, .ref nd, .ref ne, .ref nm, .ref nn, .int (nI fi), .int (nI gl), .int (nI un), .int (nI mi), .int (nI no)])), (k5, .inr (3, [])), (nn, .inl (y 6, 6, .inr (.inr (.inr (.inr fn_))))), (t0, .inl (y 0, 5, .inl t0f)), (t1, .inl (y 0, 5, .inl t1f)), (t2, .inl (y 0, 5, .inl t2f)), (t3, .inl (y 0, 5, .inl t3f)), (t4, .inl (y 0, 5, .inl t4f)), (t5, .inl (y 0, 5, .inl t5f))] H := hP
            have hD : va_D A [(kk, .inl (y 5, 6, .inr (.inr (.inr (.inr fq))))), (k0, .inr (5, [])), (k1, .inr (8, [])), (k2, .inr (9, [])), (k3, .inr (6, [])), (k4, .inr (2, [])), (nw, .inr (4, [.ref kk, .ref nk, .ref nd, .ref ne, .ref nm, .ref nn, .int (nI fi), .int (nI gl), .int (nI un), .int (nI mi), .int (nI no)])), (k5, .inr (3, [])), (nn, .inl (y 6, 6, .inr (.inr (.inr (.inr fn_))))), (t0, .inl (y 0, 5, .inl t0f)), (t1, .inl (y 0, 5, .inl t1f)), (t2, .inl (y 0, 5, .inl t2f)), (t3, .inl (y 0, 5, .inl t3f)), (t4, .inl (y 0, 5, .inl t4f)), (t5, .inl (y 0, 5, .inl t5f))] := hD
            refine lv_if_eq (tgt := 30) hx hb dX4_kindsThatFit_21 (by decide) (fun _ => ?_) (fun h9 => absurd h9 (by decide))
            refine lv_iinc (v := (nI 6)) (lv' := [(3, .int (nI 6)), (2, .int x21), (0, .ref nw), (1, .int x)]) hx hb dX4_kindsThatFit_30 hl (k := 0) rfl (nI_1 5) (by decide) rfl (fun ls hl => ?_)
            refine lv_goto (tgt := 4) hx hb dX4_kindsThatFit_33 (by decide) ?_
            exact ihj91 6 x21 H locs ls (by omega) (by omega)  (hP.sub [6, 0, 1, 2, 3, 4, 5, 7, 8, 9, 10, 11, 12, 13, 14] rfl) (hD.sub [6, 0, 1, 2, 3, 4, 5, 7, 8, 9, 10, 11, 12, 13, 14] (by decide) rfl) hS (lv_sub hl [0, 1, 2, 3] rfl)
          · skip
            have hP : va_P D vwCl [(kk, .inl (y 5, 6, .inr (.inr (.inr (.inr fq))))), (k0, .inr (5, [])), (k1, .inr (8, [])), (k2, .inr (9, [])), (k3, .inr (6, [])), (k4, .inr (2, [])), (nw, .inr (4, [.ref kk, .ref nk, .ref nd, .ref ne, .ref nm, .ref nn, .int (nI fi), .int (nI gl), .int (nI un), .int (nI mi), .int (nI no)])), (k5, .inr (3, [])), (nn, .inl (y 6, 6, .inr (.inr (.inr (.inr fn_))))), (t0, .inl (y 0, 5, .inl t0f)), (t1, .inl (y 0, 5, .inl t1f)), (t2, .inl (y 0, 5, .inl t2f)), (t3, .inl (y 0, 5, .inl t3f)), (t4, .inl (y 0, 5, .inl t4f)), (t5, .inl (y 0, 5, .inl t5f))] H := hP
            have hD : va_D A [(kk, .inl (y 5, 6, .inr (.inr (.inr (.inr fq))))), (k0, .inr (5, [])), (k1, .inr (8, [])), (k2, .inr (9, [])), (k3, .inr (6, [])), (k4, .inr (2, [])), (nw, .inr (4, [.ref kk, .ref nk, .ref nd, .ref ne, .ref nm, .ref nn, .int (nI fi), .int (nI gl), .int (nI un), .int (nI mi), .int (nI no)])), (k5, .inr (3, [])), (nn, .inl (y 6, 6, .inr (.inr (.inr (.inr fn_))))), (t0, .inl (y 0, 5, .inl t0f)), (t1, .inl (y 0, 5, .inl t1f)), (t2, .inl (y 0, 5, .inl t2f)), (t3, .inl (y 0, 5, .inl t3f)), (t4, .inl (y 0, 5, .inl t4f)), (t5, .inl (y 0, 5, .inl t5f))] := hD
            refine lv_if_eq (tgt := 30) hx hb dX4_kindsThatFit_21 (by decide) (fun h9 => absurd h9 (by decide)) (fun _ => ?_)
            refine lv_iload_n hx hb dX4_kindsThatFit_24 rfl (lv_at hl 1 rfl) ?_
            refine lv_iconst (v := 1) hx hb dX4_kindsThatFit_25 (by decide) ?_
            refine lv_iload_n hx hb dX4_kindsThatFit_26 rfl (lv_at hl 0 rfl) ?_
            refine lv_ishl hx hb dX4_kindsThatFit_27 ?_
            refine lv_ior hx hb dX4_kindsThatFit_28 ?_
            refine lv_istore_n (lv' := [(2, .int (x21 ||| (1 <<< ((nI 5) &&& 31)))), (3, .int (nI 5)), (0, .ref nw), (1, .int x)]) hx hb dX4_kindsThatFit_29 rfl hl (by decide) rfl (fun ls hl => ?_)
            refine lv_iinc (v := (nI 6)) (lv' := [(3, .int (nI 6)), (2, .int (x21 ||| (1 <<< ((nI 5) &&& 31)))), (0, .ref nw), (1, .int x)]) hx hb dX4_kindsThatFit_30 hl (k := 1) rfl (nI_1 5) (by decide) rfl (fun ls hl => ?_)
            refine lv_goto (tgt := 4) hx hb dX4_kindsThatFit_33 (by decide) ?_
            exact ihj91 6 (x21 ||| (1 <<< ((nI 5) &&& 31))) H locs ls (by omega) (by omega)  (hP.sub [6, 0, 1, 2, 3, 4, 5, 7, 8, 9, 10, 11, 12, 13, 14] rfl) (hD.sub [6, 0, 1, 2, 3, 4, 5, 7, 8, 9, 10, 11, 12, 13, 14] (by decide) rfl) hS (lv_sub hl [0, 1, 2, 3] rfl)
  exact lp42 (6 + 1) 0 0 _ _ _ (by omega) (by omega)  hP hD hS (lv_sub hl [0, 1, 2, 3] rfl)
