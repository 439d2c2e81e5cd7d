set_option maxHeartbeats 4000000 in
set_option maxRecDepth 100000 in
theorem gc_notesFit_on5 (l : Launch) (D : va_G) (y : Nat → ClassId) (nw : Nat) (kk : Nat) (nk : Nat) (nd : Nat) (ne : Nat) (nm : Nat) (nn : Nat) (fi : Nat) (gl : Nat) (un : Nat) (mi : Nat) (no : Nat) (t0 : Nat) (t1 : Nat) (t2 : Nat) (t3 : Nat) (t4 : Nat) (t5 : Nat) (t0f : Nat → Int32) (t1f : Nat → Int32) (t2f : Nat → Int32) (t3f : Nat → Int32) (t4f : Nat → Int32) (t5f : Nat → Int32) (fn_ : Nat → Option Nat) (o : Nat) (x : Int32) (hfi : fi ≤ 6) (hgl : gl ≤ 5) (hun : un ≤ 8) (hmi : mi ≤ 4) (hno : no ≤ 6) (hn0 : fn_ 0 = some t0) (hn1 : fn_ 1 = some t1) (hn2 : fn_ 2 = some t2) (hn3 : fn_ 3 = some t3) (hn4 : fn_ 4 = some t4) (hn5 : fn_ 5 = some t5) : kw_Mi l yX4_notesFit wsX4_notesFit ({ frames := 2, cells := 0, slots := 0, locals := 83 }) D y [.ref nw, .int x, .ref o] [(nw, .inr (4, [.ref kk, .ref nk, .ref nd, .ref ne, .ref nm, .ref nn, .int (nI fi), .int (nI gl), .int (nI un), .int (nI mi), .int (nI no)])), (o, .inr (5, [])), (nn, .inl (y 6, 6, .inr (.inr (.inr (.inr fn_))))), (t0, .inl (y 0, 5, .inl t0f)), (t1, .inl (y 0, 5, .inl t1f)), (t2, .inl (y 0, 5, .inl t2f)), (t3, .inl (y 0, 5, .inl t3f)), (t4, .inl (y 0, 5, .inl t4f)), (t5, .inl (y 0, 5, .inl t5f))] (fun (r : Int32) (u : Unit) => (r = 0 ∨ r = 1)) (fun _ => [(nw, .inr (4, [.ref kk, .ref nk, .ref nd, .ref ne, .ref nm, .ref nn, .int (nI fi), .int (nI gl), .int (nI un), .int (nI mi), .int (nI no)])), (o, .inr (5, [])), (nn, .inl (y 6, 6, .inr (.inr (.inr (.inr fn_))))), (t0, .inl (y 0, 5, .inl t0f)), (t1, .inl (y 0, 5, .inl t1f)), (t2, .inl (y 0, 5, .inl t2f)), (t3, .inl (y 0, 5, .inl t3f)), (t4, .inl (y 0, 5, .inl t4f)), (t5, .inl (y 0, 5, .inl t5f))]) 0 0 := by
  refine kw_Mi.of (cc := cX4_notesFit) (maxL := 5) (ret := (some .boolean)) (by decide) rfl ?_
  intro pZ eZ s mZ beZ meZ cZ A hE
  obtain ⟨hx, hb, hr, hml, hts, hown, hlocks, hin, hA, hP, hD, hK, hN⟩ := hE
  have hS : va_S A s.heap s.heap [] := va_S.rf
  have hl := lv_entry ([.ref nw, .int x, .ref o]) (n := 5) (Nat.le_of_ble_eq_true rfl)
  rw [lg_entry_eq]
  generalize (lg_sl ([.ref nw, .int x, .ref o]) ++ List.replicate (5 - (lg_sl ([.ref nw, .int x, .ref o])).length) Slot.unset).toArray = ls at hl ⊢
  have hl : lv_has ls 5 [(0, .ref nw), (1, .int x), (2, .ref o)] := hl
  have fw1 := hts (.fieldLink RX4 51 "GleanDusk$Parish" "noteCount" "I") (List.mem_of_getElem? (i := 1) rfl)
  have fw2 := hts (.fieldLink RX4 31 "GleanDusk$Parish" "notes" "[[I") (List.mem_of_getElem? (i := 2) rfl)
  have iw4 : ∀ w ∈ wsX40, w ∈ wsX4_notesFit := fun _ h => List.mem_cons_of_mem _ (List.mem_append_right _ h)
  refine lv_iconst (v := 0) hx hb dX4_notesFit_0 (by decide) ?_
  refine lv_istore_n (lv' := [(3, .int 0), (0, .ref nw), (1, .int x), (2, .ref o)]) hx hb dX4_notesFit_1 rfl hl (by decide) rfl (fun ls hl => ?_)
  have lp45 : ∀ (fuj91 j91 : Nat)  (H : Heap) (locs : List Loc) (ls : Array Slot), j91 ≤ no → no - j91 < fuj91 → va_P D vwCl [(nw, .inr (4, [.ref kk, .ref nk, .ref nd, .ref ne, .ref nm, .ref nn, .int (nI fi), .int (nI gl), .int (nI un), .int (nI mi), .int (nI no)])), (o, .inr (5, [])), (nn, .inl (y 6, 6, .inr (.inr (.inr (.inr fn_))))), (t0, .inl (y 0, 5, .inl t0f)), (t1, .inl (y 0, 5, .inl t1f)), (t2, .inl (y 0, 5, .inl t2f)), (t3, .inl (y 0, 5, .inl t3f)), (t4, .inl (y 0, 5, .inl t4f)), (t5, .inl (y 0, 5, .inl t5f))] H → va_D A [(nw, .inr (4, [.ref kk, .ref nk, .ref nd, .ref ne, .ref nm, .ref nn, .int (nI fi), .int (nI gl), .int (nI un), .int (nI mi), .int (nI no)])), (o, .inr (5, [])), (nn, .inl (y 6, 6, .inr (.inr (.inr (.inr fn_))))), (t0, .inl (y 0, 5, .inl t0f)), (t1, .inl (y 0, 5, .inl t1f)), (t2, .inl (y 0, 5, .inl t2f)), (t3, .inl (y 0, 5, .inl t3f)), (t4, .inl (y 0, 5, .inl t4f)), (t5, .inl (y 0, 5, .inl t5f))] → va_S A s.heap H locs → lv_has ls 5 [(3, .int (nI j91)), (0, .ref nw), (1, .int x), (2, .ref o)] → W pZ l eZ ({ frames := 2, cells := 0, slots := 0, locals := 83 }) s mZ [.ref nw, .int x, .ref o].toArray beZ meZ cZ H locs 0 0 (MQ beZ (va_Qi (fun (r : Int32) (u : Unit) => (r = 0 ∨ r = 1)) (kw_B D (fun _ => [(nw, .inr (4, [.ref kk, .ref nk, .ref nd, .ref ne, .ref nm, .ref nn, .int (nI fi), .int (nI gl), .int (nI un), .int (nI mi), .int (nI no)])), (o, .inr (5, [])), (nn, .inl (y 6, 6, .inr (.inr (.inr (.inr fn_))))), (t0, .inl (y 0, 5, .inl t0f)), (t1, .inl (y 0, 5, .inl t1f)), (t2, .inl (y 0, 5, .inl t2f)), (t3, .inl (y 0, 5, .inl t3f)), (t4, .inl (y 0, 5, .inl t4f)), (t5, .inl (y 0, 5, .inl t5f))]) A) A) [.ref nw, .int x, .ref o].toArray s 0 0 A) (F0 mZ 2 ls []) := by
    intro fuj91
    induction fuj91 with
    | zero => intro j91  H locs ls hj9 hf9; exact absurd hf9 (Nat.not_lt_zero _)
    | succ fuj91 ihj91 =>
      intro j91  H locs ls hj91 hfj91  hP hD hS hl
      refine lv_iload_n hx hb dX4_notesFit_2 rfl (lv_at hl 0 rfl) ?_
      refine lv_aload_n hx hb dX4_notesFit_3 rfl (lv_at hl 1 rfl) ?_
      refine va_get (D := D) (ci := 4) (v := .int (nI no)) (C := RX4) (T := TX4) (N := 11) hx hb hts iw4 hown hK hP 0 rfl rfl 10 (by decide) fw1 (fun _ h9 => h9) rfl dX4_notesFit_4 ?_
      refine lv_icmp_ge (tgt := 57) hx hb dX4_notesFit_7 (by decide) (fun h46 => ?_) (fun h47 => ?_)
      · skip
        have h46 : no ≤ j91 := (nI_leI (a := no) (b := j91) (by omega) (by omega)).mp h46
        refine lv_iconst (v := 1) hx hb dX4_notesFit_57 (by decide) ?_
        exact W.zret (v := 1) hx hb hr (by decide) (fun tZ ht hW => ⟨⟨1, (), rfl, Or.inr rfl, by rw [ht]; exact hP.sub [0, 1, 2, 3, 4, 5, 6, 7, 8] rfl, hD.sub [0, 1, 2, 3, 4, 5, 6, 7, 8] (by decide) rfl⟩, hS.F ht⟩) hS.2.2 dX4_notesFit_58
      · skip
        have h47 : ¬ no ≤ j91 := fun q9 => h47 ((nI_leI (a := no) (b := j91) (by omega) (by omega)).mpr q9)
        refine lv_aload_n hx hb dX4_notesFit_10 rfl (lv_at hl 1 rfl) ?_
        refine va_get (D := D) (ci := 4) (v := .ref nn) (C := RX4) (T := TX4) (N := 11) hx hb hts iw4 hown hK hP 0 rfl rfl 5 (by decide) fw2 (fun _ h9 => h9) rfl dX4_notesFit_11 ?_
        refine lv_iload_n hx hb dX4_notesFit_14 rfl (lv_at hl 0 rfl) ?_
        rcases (show j91 = 0 ∨ j91 = 1 ∨ j91 = 2 ∨ j91 = 3 ∨ j91 = 4 ∨ j91 = 5 by omega) with rfl | rfl | rfl | rfl | rfl | rfl
        · skip
          refine kw_aldQ hx hb hK hP 2 6 rfl rfl (vp_in_nI (by omega) (by decide)) dX4_notesFit_15 ?_
          rw [nI_clamp (n := 0) (by omega), show va_rf (fn_ 0) = .ref t0 from congrArg va_rf hn0]
          refine lv_astore (lv' := [(4, .ref t0), (3, .int (nI 0)), (0, .ref nw), (1, .int x), (2, .ref o)]) hx hb dX4_notesFit_16 hl (by decide) rfl (fun ls hl => ?_)
          refine lv_aload hx hb dX4_notesFit_18 (lv_at hl 0 rfl) ?_
          refine lv_iconst (v := 0) hx hb dX4_notesFit_20 (by decide) ?_
          refine va_iald hx hb hK hP 3 0 rfl rfl (by unfold vp_in; decide) dX4_notesFit_21 ?_
          rw [show ((0 : Int32)).toNatClampNeg = 0 from rfl]
          refine lv_iload_n hx hb dX4_notesFit_22 rfl (lv_at hl 3 rfl) ?_
          refine lv_icmp_ne (tgt := 51) hx hb dX4_notesFit_23 (by decide) (fun h48 => ?_) (fun h49 => ?_)
          · skip
            refine lv_iinc (v := (nI 1)) (lv' := [(3, .int (nI 1)), (4, .ref t0), (0, .ref nw), (1, .int x), (2, .ref o)]) hx hb dX4_notesFit_51 hl (k := 1) rfl (nI_1 0) (by decide) rfl (fun ls hl => ?_)
            refine lv_goto (tgt := 2) hx hb dX4_notesFit_54 (by decide) ?_
            exact ihj91 1  H locs ls (by omega) (by omega)  (hP.sub [0, 1, 2, 3, 4, 5, 6, 7, 8] rfl) (hD.sub [0, 1, 2, 3, 4, 5, 6, 7, 8] (by decide) rfl) hS (lv_sub hl [0, 2, 3, 4] rfl)
          · skip
            refine lv_aload_n hx hb dX4_notesFit_26 rfl (lv_at hl 4 rfl) ?_
            refine lv_aload hx hb dX4_notesFit_27 (lv_at hl 0 rfl) ?_
            refine lv_iconst (v := 1) hx hb dX4_notesFit_29 (by decide) ?_
            refine va_iald hx hb hK hP 3 0 rfl rfl (by unfold vp_in; decide) dX4_notesFit_30 ?_
            rw [show ((1 : Int32)).toNatClampNeg = 1 from rfl]
            refine lv_aload hx hb dX4_notesFit_31 (lv_at hl 0 rfl) ?_
            refine lv_iconst (v := 2) hx hb dX4_notesFit_33 (by decide) ?_
            refine va_iald hx hb hK hP 3 0 rfl rfl (by unfold vp_in; decide) dX4_notesFit_34 ?_
            rw [show ((2 : Int32)).toNatClampNeg = 2 from rfl]
            refine lv_aload hx hb dX4_notesFit_35 (lv_at hl 0 rfl) ?_
            refine lv_iconst (v := 3) hx hb dX4_notesFit_37 (by decide) ?_
            refine va_iald hx hb hK hP 3 0 rfl rfl (by unfold vp_in; decide) dX4_notesFit_38 ?_
            rw [show ((3 : Int32)).toNatClampNeg = 3 from rfl]
            have hs50 : kw_Split [(nw, .inr (4, [.ref kk, .ref nk, .ref nd, .ref ne, .ref nm, .ref nn, .int (nI fi), .int (nI gl), .int (nI un), .int (nI mi), .int (nI no)])), (o, .inr (5, [])), (nn, .inl (y 6, 6, .inr (.inr (.inr (.inr fn_))))), (t0, .inl (y 0, 5, .inl t0f)), (t1, .inl (y 0, 5, .inl t1f)), (t2, .inl (y 0, 5, .inl t2f)), (t3, .inl (y 0, 5, .inl t3f)), (t4, .inl (y 0, 5, .inl t4f)), (t5, .inl (y 0, 5, .inl t5f))] [(o, .inr (5, []))] [(nw, .inr (4, [.ref kk, .ref nk, .ref nd, .ref ne, .ref nm, .ref nn, .int (nI fi), .int (nI gl), .int (nI un), .int (nI mi), .int (nI no)])), (nn, .inl (y 6, 6, .inr (.inr (.inr (.inr fn_))))), (t0, .inl (y 0, 5, .inl t0f)), (t1, .inl (y 0, 5, .inl t1f)), (t2, .inl (y 0, 5, .inl t2f)), (t3, .inl (y 0, 5, .inl t3f)), (t4, .inl (y 0, 5, .inl t4f)), (t5, .inl (y 0, 5, .inl t5f))] [1] [0, 2, 3, 4, 5, 6, 7, 8] := ⟨rfl, rfl, rfl, rfl, rfl, by decide⟩
            refine kw_go_i hs50 hP hD hS hA (va_runV (As := [.int (t0f 1), .int (t0f 2), .int (t0f 3)]) (rest := []) ⟨hx, hb, hml, hown, hts⟩ (gc_Plain_on5 l D y o (t0f 1) (t0f 2) (t0f 3)  _) (cwV 3 hts gX4_notesFit_X5_sight rfl rfl rfl (by decide +kernel) ⟨Nat.le_of_ble_eq_true rfl, Nat.le_of_ble_eq_true rfl⟩) (kw_PreV (ci := 5) (q0 := 1) hs50 hP hD hK hN rfl rfl) rfl rfl hl.1 rfl (lv_room (Nat.le_of_ble_eq_true rfl)) dX4_notesFit_39 ⟨Nat.le_of_ble_eq_true rfl, Nat.le_of_ble_eq_true rfl⟩) (fun r51 u52 H locs hq hP hD hS => ?_)
            obtain rfl := hq
            have hP : va_P D vwCl [(nw, .inr (4, [.ref kk, .ref nk, .ref nd, .ref ne, .ref nm, .ref nn, .int (nI fi), .int (nI gl), .int (nI un), .int (nI mi), .int (nI no)])), (nn, .inl (y 6, 6, .inr (.inr (.inr (.inr fn_))))), (t0, .inl (y 0, 5, .inl t0f)), (t1, .inl (y 0, 5, .inl t1f)), (t2, .inl (y 0, 5, .inl t2f)), (t3, .inl (y 0, 5, .inl t3f)), (t4, .inl (y 0, 5, .inl t4f)), (t5, .inl (y 0, 5, .inl t5f)), (o, .inr (5, []))] H := hP
            have hD : va_D A [(nw, .inr (4, [.ref kk, .ref nk, .ref nd, .ref ne, .ref nm, .ref nn, .int (nI fi), .int (nI gl), .int (nI un), .int (nI mi), .int (nI no)])), (nn, .inl (y 6, 6, .inr (.inr (.inr (.inr fn_))))), (t0, .inl (y 0, 5, .inl t0f)), (t1, .inl (y 0, 5, .inl t1f)), (t2, .inl (y 0, 5, .inl t2f)), (t3, .inl (y 0, 5, .inl t3f)), (t4, .inl (y 0, 5, .inl t4f)), (t5, .inl (y 0, 5, .inl t5f)), (o, .inr (5, []))] := hD
            refine lv_aload hx hb dX4_notesFit_42 (lv_at hl 0 rfl) ?_
            refine lv_iconst (v := 4) hx hb dX4_notesFit_44 (by decide) ?_
            refine va_iald hx hb hK hP 2 0 rfl rfl (by unfold vp_in; decide) dX4_notesFit_45 ?_
            rw [show ((4 : Int32)).toNatClampNeg = 4 from rfl]
            refine lv_icmp_eq (tgt := 51) hx hb dX4_notesFit_46 (by decide) (fun h53 => ?_) (fun h54 => ?_)
            · skip
              refine lv_iinc (v := (nI 1)) (lv' := [(3, .int (nI 1)), (4, .ref t0), (0, .ref nw), (1, .int x), (2, .ref o)]) hx hb dX4_notesFit_51 hl (k := 1) rfl (nI_1 0) (by decide) rfl (fun ls hl => ?_)
              refine lv_goto (tgt := 2) hx hb dX4_notesFit_54 (by decide) ?_
              exact ihj91 1  H locs ls (by omega) (by omega)  (hP.sub [0, 8, 1, 2, 3, 4, 5, 6, 7] rfl) (hD.sub [0, 8, 1, 2, 3, 4, 5, 6, 7] (by decide) rfl) hS (lv_sub hl [0, 2, 3, 4] rfl)
            · skip
              refine lv_iconst (v := 0) hx hb dX4_notesFit_49 (by decide) ?_
              exact W.zret (v := 0) hx hb hr (by decide) (fun tZ ht hW => ⟨⟨0, (), rfl, Or.inl rfl, by rw [ht]; exact hP.sub [0, 8, 1, 2, 3, 4, 5, 6, 7] rfl, hD.sub [0, 8, 1, 2, 3, 4, 5, 6, 7] (by decide) rfl⟩, hS.F ht⟩) hS.2.2 dX4_notesFit_50
        · skip
          refine kw_aldQ hx hb hK hP 2 6 rfl rfl (vp_in_nI (by omega) (by decide)) dX4_notesFit_15 ?_
          rw [nI_clamp (n := 1) (by omega), show va_rf (fn_ 1) = .ref t1 from congrArg va_rf hn1]
          refine lv_astore (lv' := [(4, .ref t1), (3, .int (nI 1)), (0, .ref nw), (1, .int x), (2, .ref o)]) hx hb dX4_notesFit_16 hl (by decide) rfl (fun ls hl => ?_)
          refine lv_aload hx hb dX4_notesFit_18 (lv_at hl 0 rfl) ?_
          refine lv_iconst (v := 0) hx hb dX4_notesFit_20 (by decide) ?_
          refine va_iald hx hb hK hP 4 0 rfl rfl (by unfold vp_in; decide) dX4_notesFit_21 ?_
          rw [show ((0 : Int32)).toNatClampNeg = 0 from rfl]
          refine lv_iload_n hx hb dX4_notesFit_22 rfl (lv_at hl 3 rfl) ?_
          refine lv_icmp_ne (tgt := 51) hx hb dX4_notesFit_23 (by decide) (fun h55 => ?_) (fun h56 => ?_)
          · skip
            refine lv_iinc (v := (nI 2)) (lv' := [(3, .int (nI 2)), (4, .ref t1), (0, .ref nw), (1, .int x), (2, .ref o)]) hx hb dX4_notesFit_51 hl (k := 1) rfl (nI_1 1) (by decide) rfl (fun ls hl => ?_)
            refine lv_goto (tgt := 2) hx hb dX4_notesFit_54 (by decide) ?_
            exact ihj91 2  H locs ls (by omega) (by omega)  (hP.sub [0, 1, 2, 3, 4, 5, 6, 7, 8] rfl) (hD.sub [0, 1, 2, 3, 4, 5, 6, 7, 8] (by decide) rfl) hS (lv_sub hl [0, 2, 3, 4] rfl)
          · skip
            refine lv_aload_n hx hb dX4_notesFit_26 rfl (lv_at hl 4 rfl) ?_
            refine lv_aload hx hb dX4_notesFit_27 (lv_at hl 0 rfl) ?_
            refine lv_iconst (v := 1) hx hb dX4_notesFit_29 (by decide) ?_
            refine va_iald hx hb hK hP 4 0 rfl rfl (by unfold vp_in; decide) dX4_notesFit_30 ?_
            rw [show ((1 : Int32)).toNatClampNeg = 1 from rfl]
            refine lv_aload hx hb dX4_notesFit_31 (lv_at hl 0 rfl) ?_
            refine lv_iconst (v := 2) hx hb dX4_notesFit_33 (by decide) ?_
            refine va_iald hx hb hK hP 4 0 rfl rfl (by unfold vp_in; decide) dX4_notesFit_34 ?_
            rw [show ((2 : Int32)).toNatClampNeg = 2 from rfl]
            refine lv_aload hx hb dX4_notesFit_35 (lv_at hl 0 rfl) ?_
            refine lv_iconst (v := 3) hx hb dX4_notesFit_37 (by decide) ?_
            refine va_iald hx hb hK hP 4 0 rfl rfl (by unfold vp_in; decide) dX4_notesFit_38 ?_
            rw [show ((3 : Int32)).toNatClampNeg = 3 from rfl]
            have hs57 : kw_Split [(nw, .inr (4, [.ref kk, .ref nk, .ref nd, .ref ne, .ref nm, .ref nn, .int (nI fi), .int (nI gl), .int (nI un), .int (nI mi), .int (nI no)])), (o, .inr (5, [])), (nn, .inl (y 6, 6, .inr (.inr (.inr (.inr fn_))))), (t0, .inl (y 0, 5, .inl t0f)), (t1, .inl (y 0, 5, .inl t1f)), (t2, .inl (y 0, 5, .inl t2f)), (t3, .inl (y 0, 5, .inl t3f)), (t4, .inl (y 0, 5, .inl t4f)), (t5, .inl (y 0, 5, .inl t5f))] [(o, .inr (5, []))] [(nw, .inr (4, [.ref kk, .ref nk, .ref nd, .ref ne, .ref nm, .ref nn, .int (nI fi), .int (nI gl), .int (nI un), .int (nI mi), .int (nI no)])), (nn, .inl (y 6, 6, .inr (.inr (.inr (.inr fn_))))), (t0, .inl (y 0, 5, .inl t0f)), (t1, .inl (y 0, 5, .inl t1f)), (t2, .inl (y 0, 5, .inl t2f)), (t3, .inl (y 0, 5, .inl t3f)), (t4, .inl (y 0, 5, .inl t4f)), (t5, .inl (y 0, 5, .inl t5f))] [1] [0, 2, 3, 4, 5, 6, 7, 8] := ⟨rfl, rfl, rfl, rfl, rfl, by decide⟩
            refine kw_go_i hs57 hP hD hS hA (va_runV (As := [.int (t1f 1), .int (t1f 2), .int (t1f 3)]) (rest := []) ⟨hx, hb, hml, hown, hts⟩ (gc_Plain_on5 l D y o (t1f 1) (t1f 2) (t1f 3)  _) (cwV 3 hts gX4_notesFit_X5_sight rfl rfl rfl (by decide +kernel) ⟨Nat.le_of_ble_eq_true rfl, Nat.le_of_ble_eq_true rfl⟩) (kw_PreV (ci := 5) (q0 := 1) hs57 hP hD hK hN rfl rfl) rfl rfl hl.1 rfl (lv_room (Nat.le_of_ble_eq_true rfl)) dX4_notesFit_39 ⟨Nat.le_of_ble_eq_true rfl, Nat.le_of_ble_eq_true rfl⟩) (fun r58 u59 H locs hq hP hD hS => ?_)
            obtain rfl := hq
            have hP : va_P D vwCl [(nw, .inr (4, [.ref kk, .ref nk, .ref nd, .ref ne, .ref nm, .ref nn, .int (nI fi), .int (nI gl), .int (nI un), .int (nI mi), .int (nI no)])), (nn, .inl (y 6, 6, .inr (.inr (.inr (.inr fn_))))), (t0, .inl (y 0, 5, .inl t0f)), (t1, .inl (y 0, 5, .inl t1f)), (t2, .inl (y 0, 5, .inl t2f)), (t3, .inl (y 0, 5, .inl t3f)), (t4, .inl (y 0, 5, .inl t4f)), (t5, .inl (y 0, 5, .inl t5f)), (o, .inr (5, []))] H := hP
            have hD : va_D A [(nw, .inr (4, [.ref kk, .ref nk, .ref nd, .ref ne, .ref nm, .ref nn, .int (nI fi), .int (nI gl), .int (nI un), .int (nI mi), .int (nI no)])), (nn, .inl (y 6, 6, .inr (.inr (.inr (.inr fn_))))), (t0, .inl (y 0, 5, .inl t0f)), (t1, .inl (y 0, 5, .inl t1f)), (t2, .inl (y 0, 5, .inl t2f)), (t3, .inl (y 0, 5, .inl t3f)), (t4, .inl (y 0, 5, .inl t4f)), (t5, .inl (y 0, 5, .inl t5f)), (o, .inr (5, []))] := hD
            refine lv_aload hx hb dX4_notesFit_42 (lv_at hl 0 rfl) ?_
            refine lv_iconst (v := 4) hx hb dX4_notesFit_44 (by decide) ?_
            refine va_iald hx hb hK hP 3 0 rfl rfl (by unfold vp_in; decide) dX4_notesFit_45 ?_
            rw [show ((4 : Int32)).toNatClampNeg = 4 from rfl]
            refine lv_icmp_eq (tgt := 51) hx hb dX4_notesFit_46 (by decide) (fun h60 => ?_) (fun h61 => ?_)
            · skip
              refine lv_iinc (v := (nI 2)) (lv' := [(3, .int (nI 2)), (4, .ref t1), (0, .ref nw), (1, .int x), (2, .ref o)]) hx hb dX4_notesFit_51 hl (k := 1) rfl (nI_1 1) (by decide) rfl (fun ls hl => ?_)
              refine lv_goto (tgt := 2) hx hb dX4_notesFit_54 (by decide) ?_
              exact ihj91 2  H locs ls (by omega) (by omega)  (hP.sub [0, 8, 1, 2, 3, 4, 5, 6, 7] rfl) (hD.sub [0, 8, 1, 2, 3, 4, 5, 6, 7] (by decide) rfl) hS (lv_sub hl [0, 2, 3, 4] rfl)
            · skip
              refine lv_iconst (v := 0) hx hb dX4_notesFit_49 (by decide) ?_
              exact W.zret (v := 0) hx hb hr (by decide) (fun tZ ht hW => ⟨⟨0, (), rfl, Or.inl rfl, by rw [ht]; exact hP.sub [0, 8, 1, 2, 3, 4, 5, 6, 7] rfl, hD.sub [0, 8, 1, 2, 3, 4, 5, 6, 7] (by decide) rfl⟩, hS.F ht⟩) hS.2.2 dX4_notesFit_50
        · skip
          refine kw_aldQ hx hb hK hP 2 6 rfl rfl (vp_in_nI (by omega) (by decide)) dX4_notesFit_15 ?_
          rw [nI_clamp (n := 2) (by omega), show va_rf (fn_ 2) = .ref t2 from congrArg va_rf hn2]
          refine lv_astore (lv' := [(4, .ref t2), (3, .int (nI 2)), (0, .ref nw), (1, .int x), (2, .ref o)]) hx hb dX4_notesFit_16 hl (by decide) rfl (fun ls hl => ?_)
          refine lv_aload hx hb dX4_notesFit_18 (lv_at hl 0 rfl) ?_
          refine lv_iconst (v := 0) hx hb dX4_notesFit_20 (by decide) ?_
          refine va_iald hx hb hK hP 5 0 rfl rfl (by unfold vp_in; decide) dX4_notesFit_21 ?_
          rw [show ((0 : Int32)).toNatClampNeg = 0 from rfl]
          refine lv_iload_n hx hb dX4_notesFit_22 rfl (lv_at hl 3 rfl) ?_
          refine lv_icmp_ne (tgt := 51) hx hb dX4_notesFit_23 (by decide) (fun h62 => ?_) (fun h63 => ?_)
          · skip
            refine lv_iinc (v := (nI 3)) (lv' := [(3, .int (nI 3)), (4, .ref t2), (0, .ref nw), (1, .int x), (2, .ref o)]) hx hb dX4_notesFit_51 hl (k := 1) rfl (nI_1 2) (by decide) rfl (fun ls hl => ?_)
            refine lv_goto (tgt := 2) hx hb dX4_notesFit_54 (by decide) ?_
            exact ihj91 3  H locs ls (by omega) (by omega)  (hP.sub [0, 1, 2, 3, 4, 5, 6, 7, 8] rfl) (hD.sub [0, 1, 2, 3, 4, 5, 6, 7, 8] (by decide) rfl) hS (lv_sub hl [0, 2, 3, 4] rfl)
          · skip
            refine lv_aload_n hx hb dX4_notesFit_26 rfl (lv_at hl 4 rfl) ?_
            refine lv_aload hx hb dX4_notesFit_27 (lv_at hl 0 rfl) ?_
            refine lv_iconst (v := 1) hx hb dX4_notesFit_29 (by decide) ?_
            refine va_iald hx hb hK hP 5 0 rfl rfl (by unfold vp_in; decide) dX4_notesFit_30 ?_
            rw [show ((1 : Int32)).toNatClampNeg = 1 from rfl]
            refine lv_aload hx hb dX4_notesFit_31 (lv_at hl 0 rfl) ?_
            refine lv_iconst (v := 2) hx hb dX4_notesFit_33 (by decide) ?_
            refine va_iald hx hb hK hP 5 0 rfl rfl (by unfold vp_in; decide) dX4_notesFit_34 ?_
            rw [show ((2 : Int32)).toNatClampNeg = 2 from rfl]
            refine lv_aload hx hb dX4_notesFit_35 (lv_at hl 0 rfl) ?_
            refine lv_iconst (v := 3) hx hb dX4_notesFit_37 (by decide) ?_
            refine va_iald hx hb hK hP 5 0 rfl rfl (by unfold vp_in; decide) dX4_notesFit_38 ?_
            rw [show ((3 : Int32)).toNatClampNeg = 3 from rfl]
            have hs64 : kw_Split [(nw, .inr (4, [.ref kk, .ref nk, .ref nd, .ref ne, .ref nm, .ref nn, .int (nI fi), .int (nI gl), .int (nI un), .int (nI mi), .int (nI no)])), (o, .inr (5, [])), (nn, .inl (y 6, 6, .inr (.inr (.inr (.inr fn_))))), (t0, .inl (y 0, 5, .inl t0f)), (t1, .inl (y 0, 5, .inl t1f)), (t2, .inl (y 0, 5, .inl t2f)), (t3, .inl (y 0, 5, .inl t3f)), (t4, .inl (y 0, 5, .inl t4f)), (t5, .inl (y 0, 5, .inl t5f))] [(o, .inr (5, []))] [(nw, .inr (4, [.ref kk, .ref nk, .ref nd, .ref ne, .ref nm, .ref nn, .int (nI fi), .int (nI gl), .int (nI un), .int (nI mi), .int (nI no)])), (nn, .inl (y 6, 6, .inr (.inr (.inr (.inr fn_))))), (t0, .inl (y 0, 5, .inl t0f)), (t1, .inl (y 0, 5, .inl t1f)), (t2, .inl (y 0, 5, .inl t2f)), (t3, .inl (y 0, 5, .inl t3f)), (t4, .inl (y 0, 5, .inl t4f)), (t5, .inl (y 0, 5, .inl t5f))] [1] [0, 2, 3, 4, 5, 6, 7, 8] := ⟨rfl, rfl, rfl, rfl, rfl, by decide⟩
            refine kw_go_i hs64 hP hD hS hA (va_runV (As := [.int (t2f 1), .int (t2f 2), .int (t2f 3)]) (rest := []) ⟨hx, hb, hml, hown, hts⟩ (gc_Plain_on5 l D y o (t2f 1) (t2f 2) (t2f 3)  _) (cwV 3 hts gX4_notesFit_X5_sight rfl rfl rfl (by decide +kernel) ⟨Nat.le_of_ble_eq_true rfl, Nat.le_of_ble_eq_true rfl⟩) (kw_PreV (ci := 5) (q0 := 1) hs64 hP hD hK hN rfl rfl) rfl rfl hl.1 rfl (lv_room (Nat.le_of_ble_eq_true rfl)) dX4_notesFit_39 ⟨Nat.le_of_ble_eq_true rfl, Nat.le_of_ble_eq_true rfl⟩) (fun r65 u66 H locs hq hP hD hS => ?_)
            obtain rfl := hq
            have hP : va_P D vwCl [(nw, .inr (4, [.ref kk, .ref nk, .ref nd, .ref ne, .ref nm, .ref nn, .int (nI fi), .int (nI gl), .int (nI un), .int (nI mi), .int (nI no)])), (nn, .inl (y 6, 6, .inr (.inr (.inr (.inr fn_))))), (t0, .inl (y 0, 5, .inl t0f)), (t1, .inl (y 0, 5, .inl t1f)), (t2, .inl (y 0, 5, .inl t2f)), (t3, .inl (y 0, 5, .inl t3f)), (t4, .inl (y 0, 5, .inl t4f)), (t5, .inl (y 0, 5, .inl t5f)), (o, .inr (5, []))] H := hP
            have hD : va_D A [(nw, .inr (4, [.ref kk, .ref nk, .ref nd, .ref ne, .ref nm, .ref nn, .int (nI fi), .int (nI gl), .int (nI un), .int (nI mi), .int (nI no)])), (nn, .inl (y 6, 6, .inr (.inr (.inr (.inr fn_))))), (t0, .inl (y 0, 5, .inl t0f)), (t1, .inl (y 0, 5, .inl t1f)), (t2, .inl (y 0, 5, .inl t2f)), (t3, .inl (y 0, 5, .inl t3f)), (t4, .inl (y 0, 5, .inl t4f)), (t5, .inl (y 0, 5, .inl t5f)), (o, .inr (5, []))] := hD
            refine lv_aload hx hb dX4_notesFit_42 (lv_at hl 0 rfl) ?_
            refine lv_iconst (v := 4) hx hb dX4_notesFit_44 (by decide) ?_
            refine va_iald hx hb hK hP 4 0 rfl rfl (by unfold vp_in; decide) dX4_notesFit_45 ?_
            rw [show ((4 : Int32)).toNatClampNeg = 4 from rfl]
            refine lv_icmp_eq (tgt := 51) hx hb dX4_notesFit_46 (by decide) (fun h67 => ?_) (fun h68 => ?_)
            · skip
              refine lv_iinc (v := (nI 3)) (lv' := [(3, .int (nI 3)), (4, .ref t2), (0, .ref nw), (1, .int x), (2, .ref o)]) hx hb dX4_notesFit_51 hl (k := 1) rfl (nI_1 2) (by decide) rfl (fun ls hl => ?_)
              refine lv_goto (tgt := 2) hx hb dX4_notesFit_54 (by decide) ?_
              exact ihj91 3  H locs ls (by omega) (by omega)  (hP.sub [0, 8, 1, 2, 3, 4, 5, 6, 7] rfl) (hD.sub [0, 8, 1, 2, 3, 4, 5, 6, 7] (by decide) rfl) hS (lv_sub hl [0, 2, 3, 4] rfl)
            · skip
              refine lv_iconst (v := 0) hx hb dX4_notesFit_49 (by decide) ?_
              exact W.zret (v := 0) hx hb hr (by decide) (fun tZ ht hW => ⟨⟨0, (), rfl, Or.inl rfl, by rw [ht]; exact hP.sub [0, 8, 1, 2, 3, 4, 5, 6, 7] rfl, hD.sub [0, 8, 1, 2, 3, 4, 5, 6, 7] (by decide) rfl⟩, hS.F ht⟩) hS.2.2 dX4_notesFit_50
        · skip
          refine kw_aldQ hx hb hK hP 2 6 rfl rfl (vp_in_nI (by omega) (by decide)) dX4_notesFit_15 ?_
          rw [nI_clamp (n := 3) (by omega), show va_rf (fn_ 3) = .ref t3 from congrArg va_rf hn3]
          refine lv_astore (lv' := [(4, .ref t3), (3, .int (nI 3)), (0, .ref nw), (1, .int x), (2, .ref o)]) hx hb dX4_notesFit_16 hl (by decide) rfl (fun ls hl => ?_)
          refine lv_aload hx hb dX4_notesFit_18 (lv_at hl 0 rfl) ?_
          refine lv_iconst (v := 0) hx hb dX4_notesFit_20 (by decide) ?_
          refine va_iald hx hb hK hP 6 0 rfl rfl (by unfold vp_in; decide) dX4_notesFit_21 ?_
          rw [show ((0 : Int32)).toNatClampNeg = 0 from rfl]
          refine lv_iload_n hx hb dX4_notesFit_22 rfl (lv_at hl 3 rfl) ?_
          refine lv_icmp_ne (tgt := 51) hx hb dX4_notesFit_23 (by decide) (fun h69 => ?_) (fun h70 => ?_)
          · skip
            refine lv_iinc (v := (nI 4)) (lv' := [(3, .int (nI 4)), (4, .ref t3), (0, .ref nw), (1, .int x), (2, .ref o)]) hx hb dX4_notesFit_51 hl (k := 1) rfl (nI_1 3) (by decide) rfl (fun ls hl => ?_)
            refine lv_goto (tgt := 2) hx hb dX4_notesFit_54 (by decide) ?_
            exact ihj91 4  H locs ls (by omega) (by omega)  (hP.sub [0, 1, 2, 3, 4, 5, 6, 7, 8] rfl) (hD.sub [0, 1, 2, 3, 4, 5, 6, 7, 8] (by decide) rfl) hS (lv_sub hl [0, 2, 3, 4] rfl)
          · skip
            refine lv_aload_n hx hb dX4_notesFit_26 rfl (lv_at hl 4 rfl) ?_
            refine lv_aload hx hb dX4_notesFit_27 (lv_at hl 0 rfl) ?_
            refine lv_iconst (v := 1) hx hb dX4_notesFit_29 (by decide) ?_
            refine va_iald hx hb hK hP 6 0 rfl rfl (by unfold vp_in; decide) dX4_notesFit_30 ?_
            rw [show ((1 : Int32)).toNatClampNeg = 1 from rfl]
            refine lv_aload hx hb dX4_notesFit_31 (lv_at hl 0 rfl) ?_
            refine lv_iconst (v := 2) hx hb dX4_notesFit_33 (by decide) ?_
            refine va_iald hx hb hK hP 6 0 rfl rfl (by unfold vp_in; decide) dX4_notesFit_34 ?_
            rw [show ((2 : Int32)).toNatClampNeg = 2 from rfl]
            refine lv_aload hx hb dX4_notesFit_35 (lv_at hl 0 rfl) ?_
            refine lv_iconst (v := 3) hx hb dX4_notesFit_37 (by decide) ?_
            refine va_iald hx hb hK hP 6 0 rfl rfl (by unfold vp_in; decide) dX4_notesFit_38 ?_
            rw [show ((3 : Int32)).toNatClampNeg = 3 from rfl]
            have hs71 : kw_Split [(nw, .inr (4, [.ref kk, .ref nk, .ref nd, .ref ne, .ref nm, .ref nn, .int (nI fi), .int (nI gl), .int (nI un), .int (nI mi), .int (nI no)])), (o, .inr (5, [])), (nn, .inl (y 6, 6, .inr (.inr (.inr (.inr fn_))))), (t0, .inl (y 0, 5, .inl t0f)), (t1, .inl (y 0, 5, .inl t1f)), (t2, .inl (y 0, 5, .inl t2f)), (t3, .inl (y 0, 5, .inl t3f)), (t4, .inl (y 0, 5, .inl t4f)), (t5, .inl (y 0, 5, .inl t5f))] [(o, .inr (5, []))] [(nw, .inr (4, [.ref kk, .ref nk, .ref nd, .ref ne, .ref nm, .ref nn, .int (nI fi), .int (nI gl), .int (nI un), .int (nI mi), .int (nI no)])), (nn, .inl (y 6, 6, .inr (.inr (.inr (.inr fn_))))), (t0, .inl (y 0, 5, .inl t0f)), (t1, .inl (y 0, 5, .inl t1f)), (t2, .inl (y 0, 5, .inl t2f)), (t3, .inl (y 0, 5, .inl t3f)), (t4, .inl (y 0, 5, .inl t4f)), (t5, .inl (y 0, 5, .inl t5f))] [1] [0, 2, 3, 4, 5, 6, 7, 8] := ⟨rfl, rfl, rfl, rfl, rfl, by decide⟩
            refine kw_go_i hs71 hP hD hS hA (va_runV (As := [.int (t3f 1), .int (t3f 2), .int (t3f 3)]) (rest := []) ⟨hx, hb, hml, hown, hts⟩ (gc_Plain_on5 l D y o (t3f 1) (t3f 2) (t3f 3)  _) (cwV 3 hts gX4_notesFit_X5_sight rfl rfl rfl (by decide +kernel) ⟨Nat.le_of_ble_eq_true rfl, Nat.le_of_ble_eq_true rfl⟩) (kw_PreV (ci := 5) (q0 := 1) hs71 hP hD hK hN rfl rfl) rfl rfl hl.1 rfl (lv_room (Nat.le_of_ble_eq_true rfl)) dX4_notesFit_39 ⟨Nat.le_of_ble_eq_true rfl, Nat.le_of_ble_eq_true rfl⟩) (fun r72 u73 H locs hq hP hD hS => ?_)
            obtain rfl := hq
            have hP : va_P D vwCl [(nw, .inr (4, [.ref kk, .ref nk, .ref nd, .ref ne, .ref nm, .ref nn, .int (nI fi), .int (nI gl), .int (nI un), .int (nI mi), .int (nI no)])), (nn, .inl (y 6, 6, .inr (.inr (.inr (.inr fn_))))), (t0, .inl (y 0, 5, .inl t0f)), (t1, .inl (y 0, 5, .inl t1f)), (t2, .inl (y 0, 5, .inl t2f)), (t3, .inl (y 0, 5, .inl t3f)), (t4, .inl (y 0, 5, .inl t4f)), (t5, .inl (y 0, 5, .inl t5f)), (o, .inr (5, []))] H := hP
            have hD : va_D A [(nw, .inr (4, [.ref kk, .ref nk, .ref nd, .ref ne, .ref nm, .ref nn, .int (nI fi), .int (nI gl), .int (nI un), .int (nI mi), .int (nI no)])), (nn, .inl (y 6, 6, .inr (.inr (.inr (.inr fn_))))), (t0, .inl (y 0, 5, .inl t0f)), (t1, .inl (y 0, 5, .inl t1f)), (t2, .inl (y 0, 5, .inl t2f)), (t3, .inl (y 0, 5, .inl t3f)), (t4, .inl (y 0, 5, .inl t4f)), (t5, .inl (y 0, 5, .inl t5f)), (o, .inr (5, []))] := hD
            refine lv_aload hx hb dX4_notesFit_42 (lv_at hl 0 rfl) ?_
            refine lv_iconst (v := 4) hx hb dX4_notesFit_44 (by decide) ?_
            refine va_iald hx hb hK hP 5 0 rfl rfl (by unfold vp_in; decide) dX4_notesFit_45 ?_
            rw [show ((4 : Int32)).toNatClampNeg = 4 from rfl]
            refine lv_icmp_eq (tgt := 51) hx hb dX4_notesFit_46 (by decide) (fun h74 => ?_) (fun h75 => ?_)
            · skip
              refine lv_iinc (v := (nI 4)) (lv' := [(3, .int (nI 4)), (4, .ref t3), (0, .ref nw), (1, .int x), (2, .ref o)]) hx hb dX4_notesFit_51 hl (k := 1) rfl (nI_1 3) (by decide) rfl (fun ls hl => ?_)
              refine lv_goto (tgt := 2) hx hb dX4_notesFit_54 (by decide) ?_
              exact ihj91 4  H locs ls (by omega) (by omega)  (hP.sub [0, 8, 1, 2, 3, 4, 5, 6, 7] rfl) (hD.sub [0, 8, 1, 2, 3, 4, 5, 6, 7] (by decide) rfl) hS (lv_sub hl [0, 2, 3, 4] rfl)
            · skip
              refine lv_iconst (v := 0) hx hb dX4_notesFit_49 (by decide) ?_
              exact W.zret (v := 0) hx hb hr (by decide) (fun tZ ht hW => ⟨⟨0, (), rfl, Or.inl rfl, by rw [ht]; exact hP.sub [0, 8, 1, 2, 3, 4, 5, 6, 7] rfl, hD.sub [0, 8, 1, 2, 3, 4, 5, 6, 7] (by decide) rfl⟩, hS.F ht⟩) hS.2.2 dX4_notesFit_50
        · skip
          refine kw_aldQ hx hb hK hP 2 6 rfl rfl (vp_in_nI (by omega) (by decide)) dX4_notesFit_15 ?_
          rw [nI_clamp (n := 4) (by omega), show va_rf (fn_ 4) = .ref t4 from congrArg va_rf hn4]
          refine lv_astore (lv' := [(4, .ref t4), (3, .int (nI 4)), (0, .ref nw), (1, .int x), (2, .ref o)]) hx hb dX4_notesFit_16 hl (by decide) rfl (fun ls hl => ?_)
          refine lv_aload hx hb dX4_notesFit_18 (lv_at hl 0 rfl) ?_
          refine lv_iconst (v := 0) hx hb dX4_notesFit_20 (by decide) ?_
          refine va_iald hx hb hK hP 7 0 rfl rfl (by unfold vp_in; decide) dX4_notesFit_21 ?_
          rw [show ((0 : Int32)).toNatClampNeg = 0 from rfl]
          refine lv_iload_n hx hb dX4_notesFit_22 rfl (lv_at hl 3 rfl) ?_
          refine lv_icmp_ne (tgt := 51) hx hb dX4_notesFit_23 (by decide) (fun h76 => ?_) (fun h77 => ?_)
          · skip
            refine lv_iinc (v := (nI 5)) (lv' := [(3, .int (nI 5)), (4, .ref t4), (0, .ref nw), (1, .int x), (2, .ref o)]) hx hb dX4_notesFit_51 hl (k := 1) rfl (nI_1 4) (by decide) rfl (fun ls hl => ?_)
            refine lv_goto (tgt := 2) hx hb dX4_notesFit_54 (by decide) ?_
            exact ihj91 5  H locs ls (by omega) (by omega)  (hP.sub [0, 1, 2, 3, 4, 5, 6, 7, 8] rfl) (hD.sub [0, 1, 2, 3, 4, 5, 6, 7, 8] (by decide) rfl) hS (lv_sub hl [0, 2, 3, 4] rfl)
          · skip
            refine lv_aload_n hx hb dX4_notesFit_26 rfl (lv_at hl 4 rfl) ?_
            refine lv_aload hx hb dX4_notesFit_27 (lv_at hl 0 rfl) ?_
            refine lv_iconst (v := 1) hx hb dX4_notesFit_29 (by decide) ?_
            refine va_iald hx hb hK hP 7 0 rfl rfl (by unfold vp_in; decide) dX4_notesFit_30 ?_
            rw [show ((1 : Int32)).toNatClampNeg = 1 from rfl]
            refine lv_aload hx hb dX4_notesFit_31 (lv_at hl 0 rfl) ?_
            refine lv_iconst (v := 2) hx hb dX4_notesFit_33 (by decide) ?_
            refine va_iald hx hb hK hP 7 0 rfl rfl (by unfold vp_in; decide) dX4_notesFit_34 ?_
            rw [show ((2 : Int32)).toNatClampNeg = 2 from rfl]
            refine lv_aload hx hb dX4_notesFit_35 (lv_at hl 0 rfl) ?_
            refine lv_iconst (v := 3) hx hb dX4_notesFit_37 (by decide) ?_
            refine va_iald hx hb hK hP 7 0 rfl rfl (by unfold vp_in; decide) dX4_notesFit_38 ?_
            rw [show ((3 : Int32)).toNatClampNeg = 3 from rfl]
            have hs78 : kw_Split [(nw, .inr (4, [.ref kk, .ref nk, .ref nd, .ref ne, .ref nm, .ref nn, .int (nI fi), .int (nI gl), .int (nI un), .int (nI mi), .int (nI no)])), (o, .inr (5, [])), (nn, .inl (y 6, 6, .inr (.inr (.inr (.inr fn_))))), (t0, .inl (y 0, 5, .inl t0f)), (t1, .inl (y 0, 5, .inl t1f)), (t2, .inl (y 0, 5, .inl t2f)), (t3, .inl (y 0, 5, .inl t3f)), (t4, .inl (y 0, 5, .inl t4f)), (t5, .inl (y 0, 5, .inl t5f))] [(o, .inr (5, []))] [(nw, .inr (4, [.ref kk, .ref nk, .ref nd, .ref ne, .ref nm, .ref nn, .int (nI fi), .int (nI gl), .int (nI un), .int (nI mi), .int (nI no)])), (nn, .inl (y 6, 6, .inr (.inr (.inr (.inr fn_))))), (t0, .inl (y 0, 5, .inl t0f)), (t1, .inl (y 0, 5, .inl t1f)), (t2, .inl (y 0, 5, .inl t2f)), (t3, .inl (y 0, 5, .inl t3f)), (t4, .inl (y 0, 5, .inl t4f)), (t5, .inl (y 0, 5, .inl t5f))] [1] [0, 2, 3, 4, 5, 6, 7, 8] := ⟨rfl, rfl, rfl, rfl, rfl, by decide⟩
            refine kw_go_i hs78 hP hD hS hA (va_runV (As := [.int (t4f 1), .int (t4f 2), .int (t4f 3)]) (rest := []) ⟨hx, hb, hml, hown, hts⟩ (gc_Plain_on5 l D y o (t4f 1) (t4f 2) (t4f 3)  _) (cwV 3 hts gX4_notesFit_X5_sight rfl rfl rfl (by decide +kernel) ⟨Nat.le_of_ble_eq_true rfl, Nat.le_of_ble_eq_true rfl⟩) (kw_PreV (ci := 5) (q0 := 1) hs78 hP hD hK hN rfl rfl) rfl rfl hl.1 rfl (lv_room (Nat.le_of_ble_eq_true rfl)) dX4_notesFit_39 ⟨Nat.le_of_ble_eq_true rfl, Nat.le_of_ble_eq_true rfl⟩) (fun r79 u80 H locs hq hP hD hS => ?_)
            obtain rfl := hq
            have hP : va_P D vwCl [(nw, .inr (4, [.ref kk, .ref nk, .ref nd, .ref ne, .ref nm, .ref nn, .int (nI fi), .int (nI gl), .int (nI un), .int (nI mi), .int (nI no)])), (nn, .inl (y 6, 6, .inr (.inr (.inr (.inr fn_))))), (t0, .inl (y 0, 5, .inl t0f)), (t1, .inl (y 0, 5, .inl t1f)), (t2, .inl (y 0, 5, .inl t2f)), (t3, .inl (y 0, 5, .inl t3f)), (t4, .inl (y 0, 5, .inl t4f)), (t5, .inl (y 0, 5, .inl t5f)), (o, .inr (5, []))] H := hP
            have hD : va_D A [(nw, .inr (4, [.ref kk, .ref nk, .ref nd, .ref ne, .ref nm, .ref nn, .int (nI fi), .int (nI gl), .int (nI un), .int (nI mi), .int (nI no)])), (nn, .inl (y 6, 6, .inr (.inr (.inr (.inr fn_))))), (t0, .inl (y 0, 5, .inl t0f)), (t1, .inl (y 0, 5, .inl t1f)), (t2, .inl (y 0, 5, .inl t2f)), (t3, .inl (y 0, 5, .inl t3f)), (t4, .inl (y 0, 5, .inl t4f)), (t5, .inl (y 0, 5, .inl t5f)), (o, .inr (5, []))] := hD
            refine lv_aload hx hb dX4_notesFit_42 (lv_at hl 0 rfl) ?_
            refine lv_iconst (v := 4) hx hb dX4_notesFit_44 (by decide) ?_
            refine va_iald hx hb hK hP 6 0 rfl rfl (by unfold vp_in; decide) dX4_notesFit_45 ?_
            rw [show ((4 : Int32)).toNatClampNeg = 4 from rfl]
            refine lv_icmp_eq (tgt := 51) hx hb dX4_notesFit_46 (by decide) (fun h81 => ?_) (fun h82 => ?_)
            · skip
              refine lv_iinc (v := (nI 5)) (lv' := [(3, .int (nI 5)), (4, .ref t4), (0, .ref nw), (1, .int x), (2, .ref o)]) hx hb dX4_notesFit_51 hl (k := 1) rfl (nI_1 4) (by decide) rfl (fun ls hl => ?_)
              refine lv_goto (tgt := 2) hx hb dX4_notesFit_54 (by decide) ?_
              exact ihj91 5  H locs ls (by omega) (by omega)  (hP.sub [0, 8, 1, 2, 3, 4, 5, 6, 7] rfl) (hD.sub [0, 8, 1, 2, 3, 4, 5, 6, 7] (by decide) rfl) hS (lv_sub hl [0, 2, 3, 4] rfl)
            · skip
              refine lv_iconst (v := 0) hx hb dX4_notesFit_49 (by decide) ?_
              exact W.zret (v := 0) hx hb hr (by decide) (fun tZ ht hW => ⟨⟨0, (), rfl, Or.inl rfl, by rw [ht]; exact hP.sub [0, 8, 1, 2, 3, 4, 5, 6, 7] rfl, hD.sub [0, 8, 1, 2, 3, 4, 5, 6, 7] (by decide) rfl⟩, hS.F ht⟩) hS.2.2 dX4_notesFit_50
        · skip
          refine kw_aldQ hx hb hK hP 2 6 rfl rfl (vp_in_nI (by omega) (by decide)) dX4_notesFit_15 ?_
          rw [nI_clamp (n := 5) (by omega), show va_rf (fn_ 5) = .ref t5 from congrArg va_rf hn5]
          refine lv_astore (lv' := [(4, .ref t5), (3, .int (nI 5)), (0, .ref nw), (1, .int x), (2, .ref o)]) hx hb dX4_notesFit_16 hl (by decide) rfl (fun ls hl => ?_)
          refine lv_aload hx hb dX4_notesFit_18 (lv_at hl 0 rfl) ?_
          refine lv_iconst (v := 0) hx hb dX4_notesFit_20 (by decide) ?_
          refine va_iald hx hb hK hP 8 0 rfl rfl (by unfold vp_in; decide) dX4_notesFit_21 ?_
          rw [show ((0 : Int32)).toNatClampNeg = 0 from rfl]
          refine lv_iload_n hx hb dX4_notesFit_22 rfl (lv_at hl 3 rfl) ?_
          refine lv_icmp_ne (tgt := 51) hx hb dX4_notesFit_23 (by decide) (fun h83 => ?_) (fun h84 => ?_)
          · skip
            refine lv_iinc (v := (nI 6)) (lv' := [(3, .int (nI 6)), (4, .ref t5), (0, .ref nw), (1, .int x), (2, .ref o)]) hx hb dX4_notesFit_51 hl (k := 1) rfl (nI_1 5) (by decide) rfl (fun ls hl => ?_)
            refine lv_goto (tgt := 2) hx hb dX4_notesFit_54 (by decide) ?_
            exact ihj91 6  H locs ls (by omega) (by omega)  (hP.sub [0, 1, 2, 3, 4, 5, 6, 7, 8] rfl) (hD.sub [0, 1, 2, 3, 4, 5, 6, 7, 8] (by decide) rfl) hS (lv_sub hl [0, 2, 3, 4] rfl)
          · skip
            refine lv_aload_n hx hb dX4_notesFit_26 rfl (lv_at hl 4 rfl) ?_
            refine lv_aload hx hb dX4_notesFit_27 (lv_at hl 0 rfl) ?_
            refine lv_iconst (v := 1) hx hb dX4_notesFit_29 (by decide) ?_
            refine va_iald hx hb hK hP 8 0 rfl rfl (by unfold vp_in; decide) dX4_notesFit_30 ?_
            rw [show ((1 : Int32)).toNatClampNeg = 1 from rfl]
            refine lv_aload hx hb dX4_notesFit_31 (lv_at hl 0 rfl) ?_
            refine lv_iconst (v := 2) hx hb dX4_notesFit_33 (by decide) ?_
            refine va_iald hx hb hK hP 8 0 rfl rfl (by unfold vp_in; decide) dX4_notesFit_34 ?_
            rw [show ((2 : Int32)).toNatClampNeg = 2 from rfl]
            refine lv_aload hx hb dX4_notesFit_35 (lv_at hl 0 rfl) ?_
            refine lv_iconst (v := 3) hx hb dX4_notesFit_37 (by decide) ?_
            refine va_iald hx hb hK hP 8 0 rfl rfl (by unfold vp_in; decide) dX4_notesFit_38 ?_
            rw [show ((3 : Int32)).toNatClampNeg = 3 from rfl]
            have hs85 : kw_Split [(nw, .inr (4, [.ref kk, .ref nk, .ref nd, .ref ne, .ref nm, .ref nn, .int (nI fi), .int (nI gl), .int (nI un), .int (nI mi), .int (nI no)])), (o, .inr (5, [])), (nn, .inl (y 6, 6, .inr (.inr (.inr (.inr fn_))))), (t0, .inl (y 0, 5, .inl t0f)), (t1, .inl (y 0, 5, .inl t1f)), (t2, .inl (y 0, 5, .inl t2f)), (t3, .inl (y 0, 5, .inl t3f)), (t4, .inl (y 0, 5, .inl t4f)), (t5, .inl (y 0, 5, .inl t5f))] [(o, .inr (5, []))] [(nw, .inr (4, [.ref kk, .ref nk, .ref nd, .ref ne, .ref nm, .ref nn, .int (nI fi), .int (nI gl), .int (nI un), .int (nI mi), .int (nI no)])), (nn, .inl (y 6, 6, .inr (.inr (.inr (.inr fn_))))), (t0, .inl (y 0, 5, .inl t0f)), (t1, .inl (y 0, 5, .inl t1f)), (t2, .inl (y 0, 5, .inl t2f)), (t3, .inl (y 0, 5, .inl t3f)), (t4, .inl (y 0, 5, .inl t4f)), (t5, .inl (y 0, 5, .inl t5f))] [1] [0, 2, 3, 4, 5, 6, 7, 8] := ⟨rfl, rfl, rfl, rfl, rfl, by decide⟩
            refine kw_go_i hs85 hP hD hS hA (va_runV (As := [.int (t5f 1), .int (t5f 2), .int (t5f 3)]) (rest := []) ⟨hx, hb, hml, hown, hts⟩ (gc_Plain_on5 l D y o (t5f 1) (t5f 2) (t5f 3)  _) (cwV 3 hts gX4_notesFit_X5_sight rfl rfl rfl (by decide +kernel) ⟨Nat.le_of_ble_eq_true rfl, Nat.le_of_ble_eq_true rfl⟩) (kw_PreV (ci := 5) (q0 := 1) hs85 hP hD hK hN rfl rfl) rfl rfl hl.1 rfl (lv_room (Nat.le_of_ble_eq_true rfl)) dX4_notesFit_39 ⟨Nat.le_of_ble_eq_true rfl, Nat.le_of_ble_eq_true rfl⟩) (fun r86 u87 H locs hq hP hD hS => ?_)
            obtain rfl := hq
            have hP : va_P D vwCl [(nw, .inr (4, [.ref kk, .ref nk, .ref nd, .ref ne, .ref nm, .ref nn, .int (nI fi), .int (nI gl), .int (nI un), .int (nI mi), .int (nI no)])), (nn, .inl (y 6, 6, .inr (.inr (.inr (.inr fn_))))), (t0, .inl (y 0, 5, .inl t0f)), (t1, .inl (y 0, 5, .inl t1f)), (t2, .inl (y 0, 5, .inl t2f)), (t3, .inl (y 0, 5, .inl t3f)), (t4, .inl (y 0, 5, .inl t4f)), (t5, .inl (y 0, 5, .inl t5f)), (o, .inr (5, []))] H := hP
            have hD : va_D A [(nw, .inr (4, [.ref kk, .ref nk, .ref nd, .ref ne, .ref nm, .ref nn, .int (nI fi), .int (nI gl), .int (nI un), .int (nI mi), .int (nI no)])), (nn, .inl (y 6, 6, .inr (.inr (.inr (.inr fn_))))), (t0, .inl (y 0, 5, .inl t0f)), (t1, .inl (y 0, 5, .inl t1f)), (t2, .inl (y 0, 5, .inl t2f)), (t3, .inl (y 0, 5, .inl t3f)), (t4, .inl (y 0, 5, .inl t4f)), (t5, .inl (y 0, 5, .inl t5f)), (o, .inr (5, []))] := hD
            refine lv_aload hx hb dX4_notesFit_42 (lv_at hl 0 rfl) ?_
            refine lv_iconst (v := 4) hx hb dX4_notesFit_44 (by decide) ?_
            refine va_iald hx hb hK hP 7 0 rfl rfl (by unfold vp_in; decide) dX4_notesFit_45 ?_
            rw [show ((4 : Int32)).toNatClampNeg = 4 from rfl]
            refine lv_icmp_eq (tgt := 51) hx hb dX4_notesFit_46 (by decide) (fun h88 => ?_) (fun h89 => ?_)
            · skip
              refine lv_iinc (v := (nI 6)) (lv' := [(3, .int (nI 6)), (4, .ref t5), (0, .ref nw), (1, .int x), (2, .ref o)]) hx hb dX4_notesFit_51 hl (k := 1) rfl (nI_1 5) (by decide) rfl (fun ls hl => ?_)
              refine lv_goto (tgt := 2) hx hb dX4_notesFit_54 (by decide) ?_
              exact ihj91 6  H locs ls (by omega) (by omega)  (hP.sub [0, 8, 1, 2, 3, 4, 5, 6, 7] rfl) (hD.sub [0, 8, 1, 2, 3, 4, 5, 6, 7] (by decide) rfl) hS (lv_sub hl [0, 2, 3, 4] rfl)
            · skip
              refine lv_iconst (v := 0) hx hb dX4_notesFit_49 (by decide) ?_
              exact W.zret (v := 0) hx hb hr (by decide) (fun tZ ht hW => ⟨⟨0, (), rfl, Or.inl rfl, by rw [ht]; exact hP.sub [0, 8, 1, 2, 3, 4, 5, 6, 7] rfl, hD.sub [0, 8, 1, 2, 3, 4, 5, 6, 7] (by decide) rfl⟩, hS.F ht⟩) hS.2.2 dX4_notesFit_50
  exact lp45 (no + 1) 0  _ _ _ (by omega) (by omega)  hP hD hS (lv_sub hl [0, 1, 2, 3] rfl)

set_option maxHeartbeats 4000000 in
set_option maxRecDepth 100000 in
theorem gc_notesFit_on8 (l : Launch) (D : va_G) (y : Nat → ClassId) (nw : Nat) (kk : Nat) (nk : Nat) (nd : Nat) (ne : Nat) (nm : Nat) (nn : Nat) (fi : Nat) (gl : Nat) (un : Nat) (mi : Nat) (no : Nat) (t0 : Nat) (t1 : Nat) (t2 : Nat) (t3 : Nat) (t4 : Nat) (t5 : Nat) (t0f : Nat → Int32) (t1f : Nat → Int32) (t2f : Nat → Int32) (t3f : Nat → Int32) (t4f : Nat → Int32) (t5f : Nat → Int32) (fn_ : Nat → Option Nat) (o : Nat) (x : Int32) (hfi : fi ≤ 6) (hgl : gl ≤ 5) (hun : un ≤ 8) (hmi : mi ≤ 4) (hno : no ≤ 6) (hn0 : fn_ 0 = some t0) (hn1 : fn_ 1 = some t1) (hn2 : fn_ 2 = some t2) (hn3 : fn_ 3 = some t3) (hn4 : fn_ 4 = some t4) (hn5 : fn_ 5 = some t5) : kw_Mi l yX4_notesFit wsX4_notesFit ({ frames := 3, cells := 0, slots := 0, locals := 107 }) D y [.ref nw, .int x, .ref o] [(nw, .inr (4, [.ref kk, .ref nk, .ref nd, .ref ne, .ref nm, .ref nn, .int (nI fi), .int (nI gl), .int (nI un), .int (nI mi), .int (nI no)])), (o, .inr (8, [])), (nn, .inl (y 6, 6, .inr (.inr (.inr (.inr fn_))))), (t0, .inl (y 0, 5, .inl t0f)), (t1, .inl (y 0, 5, .inl t1f)), (t2, .inl (y 0, 5, .inl t2f)), (t3, .inl (y 0, 5, .inl t3f)), (t4, .inl (y 0, 5, .inl t4f)), (t5, .inl (y 0, 5, .inl t5f))] (fun (r : Int32) (u : Unit) => (r = 0 ∨ r = 1)) (fun _ => [(nw, .inr (4, [.ref kk, .ref nk, .ref nd, .ref ne, .ref nm, .ref nn, .int (nI fi), .int (nI gl), .int (nI un), .int (nI mi), .int (nI no)])), (o, .inr (8, [])), (nn, .inl (y 6, 6, .inr (.inr (.inr (.inr fn_))))), (t0, .inl (y 0, 5, .inl t0f)), (t1, .inl (y 0, 5, .inl t1f)), (t2, .inl (y 0, 5, .inl t2f)), (t3, .inl (y 0, 5, .inl t3f)), (t4, .inl (y 0, 5, .inl t4f)), (t5, .inl (y 0, 5, .inl t5f))]) 0 0 := by
  refine kw_Mi.of (cc := cX4_notesFit) (maxL := 5) (ret := (some .boolean)) (by decide) rfl ?_
  intro pZ eZ s mZ beZ meZ cZ A hE
  obtain ⟨hx, hb, hr, hml, hts, hown, hlocks, hin, hA, hP, hD, hK, hN⟩ := hE
  have hS : va_S A s.heap s.heap [] := va_S.rf
  have hl := lv_entry ([.ref nw, .int x, .ref o]) (n := 5) (Nat.le_of_ble_eq_true rfl)
  rw [lg_entry_eq]
  generalize (lg_sl ([.ref nw, .int x, .ref o]) ++ List.replicate (5 - (lg_sl ([.ref nw, .int x, .ref o])).length) Slot.unset).toArray = ls at hl ⊢
  have hl : lv_has ls 5 [(0, .ref nw), (1, .int x), (2, .ref o)] := hl
  have fw1 := hts (.fieldLink RX4 51 "GleanDusk$Parish" "noteCount" "I") (List.mem_of_getElem? (i := 1) rfl)
  have fw2 := hts (.fieldLink RX4 31 "GleanDusk$Parish" "notes" "[[I") (List.mem_of_getElem? (i := 2) rfl)
  have iw4 : ∀ w ∈ wsX40, w ∈ wsX4_notesFit := fun _ h => List.mem_cons_of_mem _ (List.mem_append_right _ h)
  refine lv_iconst (v := 0) hx hb dX4_notesFit_0 (by decide) ?_
  refine lv_istore_n (lv' := [(3, .int 0), (0, .ref nw), (1, .int x), (2, .ref o)]) hx hb dX4_notesFit_1 rfl hl (by decide) rfl (fun ls hl => ?_)
  have lp45 : ∀ (fuj91 j91 : Nat)  (H : Heap) (locs : List Loc) (ls : Array Slot), j91 ≤ no → no - j91 < fuj91 → va_P D vwCl [(nw, .inr (4, [.ref kk, .ref nk, .ref nd, .ref ne, .ref nm, .ref nn, .int (nI fi), .int (nI gl), .int (nI un), .int (nI mi), .int (nI no)])), (o, .inr (8, [])), (nn, .inl (y 6, 6, .inr (.inr (.inr (.inr fn_))))), (t0, .inl (y 0, 5, .inl t0f)), (t1, .inl (y 0, 5, .inl t1f)), (t2, .inl (y 0, 5, .inl t2f)), (t3, .inl (y 0, 5, .inl t3f)), (t4, .inl (y 0, 5, .inl t4f)), (t5, .inl (y 0, 5, .inl t5f))] H → va_D A [(nw, .inr (4, [.ref kk, .ref nk, .ref nd, .ref ne, .ref nm, .ref nn, .int (nI fi), .int (nI gl), .int (nI un), .int (nI mi), .int (nI no)])), (o, .inr (8, [])), (nn, .inl (y 6, 6, .inr (.inr (.inr (.inr fn_))))), (t0, .inl (y 0, 5, .inl t0f)), (t1, .inl (y 0, 5, .inl t1f)), (t2, .inl (y 0, 5, .inl t2f)), (t3, .inl (y 0, 5, .inl t3f)), (t4, .inl (y 0, 5, .inl t4f)), (t5, .inl (y 0, 5, .inl t5f))] → va_S A s.heap H locs → lv_has ls 5 [(3, .int (nI j91)), (0, .ref nw), (1, .int x), (2, .ref o)] → W pZ l eZ ({ frames := 3, cells := 0, slots := 0, locals := 107 }) s mZ [.ref nw, .int x, .ref o].toArray beZ meZ cZ H locs 0 0 (MQ beZ (va_Qi (fun (r : Int32) (u : Unit) => (r = 0 ∨ r = 1)) (kw_B D (fun _ => [(nw, .inr (4, [.ref kk, .ref nk, .ref nd, .ref ne, .ref nm, .ref nn, .int (nI fi), .int (nI gl), .int (nI un), .int (nI mi), .int (nI no)])), (o, .inr (8, [])), (nn, .inl (y 6, 6, .inr (.inr (.inr (.inr fn_))))), (t0, .inl (y 0, 5, .inl t0f)), (t1, .inl (y 0, 5, .inl t1f)), (t2, .inl (y 0, 5, .inl t2f)), (t3, .inl (y 0, 5, .inl t3f)), (t4, .inl (y 0, 5, .inl t4f)), (t5, .inl (y 0, 5, .inl t5f))]) A) A) [.ref nw, .int x, .ref o].toArray s 0 0 A) (F0 mZ 2 ls []) := by
    intro fuj91
    induction fuj91 with
    | zero => intro j91  H locs ls hj9 hf9; exact absurd hf9 (Nat.not_lt_zero _)
    | succ fuj91 ihj91 =>
      intro j91  H locs ls hj91 hfj91  hP hD hS hl
      refine lv_iload_n hx hb dX4_notesFit_2 rfl (lv_at hl 0 rfl) ?_
      refine lv_aload_n hx hb dX4_notesFit_3 rfl (lv_at hl 1 rfl) ?_
      refine va_get (D := D) (ci := 4) (v := .int (nI no)) (C := RX4) (T := TX4) (N := 11) hx hb hts iw4 hown hK hP 0 rfl rfl 10 (by decide) fw1 (fun _ h9 => h9) rfl dX4_notesFit_4 ?_
      refine lv_icmp_ge (tgt := 57) hx hb dX4_notesFit_7 (by decide) (fun h46 => ?_) (fun h47 => ?_)
      · skip
        have h46 : no ≤ j91 := (nI_leI (a := no) (b := j91) (by omega) (by omega)).mp h46
        refine lv_iconst (v := 1) hx hb dX4_notesFit_57 (by decide) ?_
        exact W.zret (v := 1) hx hb hr (by decide) (fun tZ ht hW => ⟨⟨1, (), rfl, Or.inr rfl, by rw [ht]; exact hP.sub [0, 1, 2, 3, 4, 5, 6, 7, 8] rfl, hD.sub [0, 1, 2, 3, 4, 5, 6, 7, 8] (by decide) rfl⟩, hS.F ht⟩) hS.2.2 dX4_notesFit_58
      · skip
        have h47 : ¬ no ≤ j91 := fun q9 => h47 ((nI_leI (a := no) (b := j91) (by omega) (by omega)).mpr q9)
        refine lv_aload_n hx hb dX4_notesFit_10 rfl (lv_at hl 1 rfl) ?_
        refine va_get (D := D) (ci := 4) (v := .ref nn) (C := RX4) (T := TX4) (N := 11) hx hb hts iw4 hown hK hP 0 rfl rfl 5 (by decide) fw2 (fun _ h9 => h9) rfl dX4_notesFit_11 ?_
        refine lv_iload_n hx hb dX4_notesFit_14 rfl (lv_at hl 0 rfl) ?_
        rcases (show j91 = 0 ∨ j91 = 1 ∨ j91 = 2 ∨ j91 = 3 ∨ j91 = 4 ∨ j91 = 5 by omega) with rfl | rfl | rfl | rfl | rfl | rfl
        · skip
          refine kw_aldQ hx hb hK hP 2 6 rfl rfl (vp_in_nI (by omega) (by decide)) dX4_notesFit_15 ?_
          rw [nI_clamp (n := 0) (by omega), show va_rf (fn_ 0) = .ref t0 from congrArg va_rf hn0]
          refine lv_astore (lv' := [(4, .ref t0), (3, .int (nI 0)), (0, .ref nw), (1, .int x), (2, .ref o)]) hx hb dX4_notesFit_16 hl (by decide) rfl (fun ls hl => ?_)
          refine lv_aload hx hb dX4_notesFit_18 (lv_at hl 0 rfl) ?_
          refine lv_iconst (v := 0) hx hb dX4_notesFit_20 (by decide) ?_
          refine va_iald hx hb hK hP 3 0 rfl rfl (by unfold vp_in; decide) dX4_notesFit_21 ?_
          rw [show ((0 : Int32)).toNatClampNeg = 0 from rfl]
          refine lv_iload_n hx hb dX4_notesFit_22 rfl (lv_at hl 3 rfl) ?_
          refine lv_icmp_ne (tgt := 51) hx hb dX4_notesFit_23 (by decide) (fun h48 => ?_) (fun h49 => ?_)
          · skip
            refine lv_iinc (v := (nI 1)) (lv' := [(3, .int (nI 1)), (4, .ref t0), (0, .ref nw), (1, .int x), (2, .ref o)]) hx hb dX4_notesFit_51 hl (k := 1) rfl (nI_1 0) (by decide) rfl (fun ls hl => ?_)
            refine lv_goto (tgt := 2) hx hb dX4_notesFit_54 (by decide) ?_
            exact ihj91 1  H locs ls (by omega) (by omega)  (hP.sub [0, 1, 2, 3, 4, 5, 6, 7, 8] rfl) (hD.sub [0, 1, 2, 3, 4, 5, 6, 7, 8] (by decide) rfl) hS (lv_sub hl [0, 2, 3, 4] rfl)
          · skip
            refine lv_aload_n hx hb dX4_notesFit_26 rfl (lv_at hl 4 rfl) ?_
            refine lv_aload hx hb dX4_notesFit_27 (lv_at hl 0 rfl) ?_
            refine lv_iconst (v := 1) hx hb dX4_notesFit_29 (by decide) ?_
            refine va_iald hx hb hK hP 3 0 rfl rfl (by unfold vp_in; decide) dX4_notesFit_30 ?_
            rw [show ((1 : Int32)).toNatClampNeg = 1 from rfl]
            refine lv_aload hx hb dX4_notesFit_31 (lv_at hl 0 rfl) ?_
            refine lv_iconst (v := 2) hx hb dX4_notesFit_33 (by decide) ?_
            refine va_iald hx hb hK hP 3 0 rfl rfl (by unfold vp_in; decide) dX4_notesFit_34 ?_
            rw [show ((2 : Int32)).toNatClampNeg = 2 from rfl]
            refine lv_aload hx hb dX4_notesFit_35 (lv_at hl 0 rfl) ?_
            refine lv_iconst (v := 3) hx hb dX4_notesFit_37 (by decide) ?_
            refine va_iald hx hb hK hP 3 0 rfl rfl (by unfold vp_in; decide) dX4_notesFit_38 ?_
            rw [show ((3 : Int32)).toNatClampNeg = 3 from rfl]
            have hs50 : kw_Split [(nw, .inr (4, [.ref kk, .ref nk, .ref nd, .ref ne, .ref nm, .ref nn, .int (nI fi), .int (nI gl), .int (nI un), .int (nI mi), .int (nI no)])), (o, .inr (8, [])), (nn, .inl (y 6, 6, .inr (.inr (.inr (.inr fn_))))), (t0, .inl (y 0, 5, .inl t0f)), (t1, .inl (y 0, 5, .inl t1f)), (t2, .inl (y 0, 5, .inl t2f)), (t3, .inl (y 0, 5, .inl t3f)), (t4, .inl (y 0, 5, .inl t4f)), (t5, .inl (y 0, 5, .inl t5f))] [(o, .inr (8, []))] [(nw, .inr (4, [.ref kk, .ref nk, .ref nd, .ref ne, .ref nm, .ref nn, .int (nI fi), .int (nI gl), .int (nI un), .int (nI mi), .int (nI no)])), (nn, .inl (y 6, 6, .inr (.inr (.inr (.inr fn_))))), (t0, .inl (y 0, 5, .inl t0f)), (t1, .inl (y 0, 5, .inl t1f)), (t2, .inl (y 0, 5, .inl t2f)), (t3, .inl (y 0, 5, .inl t3f)), (t4, .inl (y 0, 5, .inl t4f)), (t5, .inl (y 0, 5, .inl t5f))] [1] [0, 2, 3, 4, 5, 6, 7, 8] := ⟨rfl, rfl, rfl, rfl, rfl, by decide⟩
            refine kw_go_i hs50 hP hD hS hA (va_runU (As := [.int (t0f 1), .int (t0f 2), .int (t0f 3)]) (rest := []) ⟨hx, hb, hml, hown, hts⟩ (gc_West_on8 l D y o (t0f 1) (t0f 2) (t0f 3)  _) (va_cwO 3 hts gX4_notesFit_X8_sight_u89X8 rfl rfl rfl (List.mem_of_getElem? (i := 24) rfl) (by decide +kernel) ⟨Nat.le_of_ble_eq_true rfl, Nat.le_of_ble_eq_true rfl⟩) (kw_PreV (ci := 8) (q0 := 1) hs50 hP hD hK hN rfl rfl) rfl rfl hl.1 rfl (lv_room (Nat.le_of_ble_eq_true rfl)) dX4_notesFit_39 ⟨Nat.le_of_ble_eq_true rfl, Nat.le_of_ble_eq_true rfl⟩) (fun r51 u52 H locs hq hP hD hS => ?_)
            have hP : va_P D vwCl [(nw, .inr (4, [.ref kk, .ref nk, .ref nd, .ref ne, .ref nm, .ref nn, .int (nI fi), .int (nI gl), .int (nI un), .int (nI mi), .int (nI no)])), (nn, .inl (y 6, 6, .inr (.inr (.inr (.inr fn_))))), (t0, .inl (y 0, 5, .inl t0f)), (t1, .inl (y 0, 5, .inl t1f)), (t2, .inl (y 0, 5, .inl t2f)), (t3, .inl (y 0, 5, .inl t3f)), (t4, .inl (y 0, 5, .inl t4f)), (t5, .inl (y 0, 5, .inl t5f)), (o, .inr (8, []))] H := hP
            have hD : va_D A [(nw, .inr (4, [.ref kk, .ref nk, .ref nd, .ref ne, .ref nm, .ref nn, .int (nI fi), .int (nI gl), .int (nI un), .int (nI mi), .int (nI no)])), (nn, .inl (y 6, 6, .inr (.inr (.inr (.inr fn_))))), (t0, .inl (y 0, 5, .inl t0f)), (t1, .inl (y 0, 5, .inl t1f)), (t2, .inl (y 0, 5, .inl t2f)), (t3, .inl (y 0, 5, .inl t3f)), (t4, .inl (y 0, 5, .inl t4f)), (t5, .inl (y 0, 5, .inl t5f)), (o, .inr (8, []))] := hD
            refine lv_aload hx hb dX4_notesFit_42 (lv_at hl 0 rfl) ?_
            refine lv_iconst (v := 4) hx hb dX4_notesFit_44 (by decide) ?_
            refine va_iald hx hb hK hP 2 0 rfl rfl (by unfold vp_in; decide) dX4_notesFit_45 ?_
            rw [show ((4 : Int32)).toNatClampNeg = 4 from rfl]
            refine lv_icmp_eq (tgt := 51) hx hb dX4_notesFit_46 (by decide) (fun h53 => ?_) (fun h54 => ?_)
            · skip
              refine lv_iinc (v := (nI 1)) (lv' := [(3, .int (nI 1)), (4, .ref t0), (0, .ref nw), (1, .int x), (2, .ref o)]) hx hb dX4_notesFit_51 hl (k := 1) rfl (nI_1 0) (by decide) rfl (fun ls hl => ?_)
              refine lv_goto (tgt := 2) hx hb dX4_notesFit_54 (by decide) ?_
              exact ihj91 1  H locs ls (by omega) (by omega)  (hP.sub [0, 8, 1, 2, 3, 4, 5, 6, 7] rfl) (hD.sub [0, 8, 1, 2, 3, 4, 5, 6, 7] (by decide) rfl) hS (lv_sub hl [0, 2, 3, 4] rfl)
            · skip
              refine lv_iconst (v := 0) hx hb dX4_notesFit_49 (by decide) ?_
              exact W.zret (v := 0) hx hb hr (by decide) (fun tZ ht hW => ⟨⟨0, (), rfl, Or.inl rfl, by rw [ht]; exact hP.sub [0, 8, 1, 2, 3, 4, 5, 6, 7] rfl, hD.sub [0, 8, 1, 2, 3, 4, 5, 6, 7] (by decide) rfl⟩, hS.F ht⟩) hS.2.2 dX4_notesFit_50
        · skip
          refine kw_aldQ hx hb hK hP 2 6 rfl rfl (vp_in_nI (by omega) (by decide)) dX4_notesFit_15 ?_
          rw [nI_clamp (n := 1) (by omega), show va_rf (fn_ 1) = .ref t1 from congrArg va_rf hn1]
          refine lv_astore (lv' := [(4, .ref t1), (3, .int (nI 1)), (0, .ref nw), (1, .int x), (2, .ref o)]) hx hb dX4_notesFit_16 hl (by decide) rfl (fun ls hl => ?_)
          refine lv_aload hx hb dX4_notesFit_18 (lv_at hl 0 rfl) ?_
          refine lv_iconst (v := 0) hx hb dX4_notesFit_20 (by decide) ?_
          refine va_iald hx hb hK hP 4 0 rfl rfl (by unfold vp_in; decide) dX4_notesFit_21 ?_
          rw [show ((0 : Int32)).toNatClampNeg = 0 from rfl]
          refine lv_iload_n hx hb dX4_notesFit_22 rfl (lv_at hl 3 rfl) ?_
          refine lv_icmp_ne (tgt := 51) hx hb dX4_notesFit_23 (by decide) (fun h55 => ?_) (fun h56 => ?_)
          · skip
            refine lv_iinc (v := (nI 2)) (lv' := [(3, .int (nI 2)), (4, .ref t1), (0, .ref nw), (1, .int x), (2, .ref o)]) hx hb dX4_notesFit_51 hl (k := 1) rfl (nI_1 1) (by decide) rfl (fun ls hl => ?_)
            refine lv_goto (tgt := 2) hx hb dX4_notesFit_54 (by decide) ?_
            exact ihj91 2  H locs ls (by omega) (by omega)  (hP.sub [0, 1, 2, 3, 4, 5, 6, 7, 8] rfl) (hD.sub [0, 1, 2, 3, 4, 5, 6, 7, 8] (by decide) rfl) hS (lv_sub hl [0, 2, 3, 4] rfl)
          · skip
            refine lv_aload_n hx hb dX4_notesFit_26 rfl (lv_at hl 4 rfl) ?_
            refine lv_aload hx hb dX4_notesFit_27 (lv_at hl 0 rfl) ?_
            refine lv_iconst (v := 1) hx hb dX4_notesFit_29 (by decide) ?_
            refine va_iald hx hb hK hP 4 0 rfl rfl (by unfold vp_in; decide) dX4_notesFit_30 ?_
            rw [show ((1 : Int32)).toNatClampNeg = 1 from rfl]
            refine lv_aload hx hb dX4_notesFit_31 (lv_at hl 0 rfl) ?_
            refine lv_iconst (v := 2) hx hb dX4_notesFit_33 (by decide) ?_
            refine va_iald hx hb hK hP 4 0 rfl rfl (by unfold vp_in; decide) dX4_notesFit_34 ?_
            rw [show ((2 : Int32)).toNatClampNeg = 2 from rfl]
            refine lv_aload hx hb dX4_notesFit_35 (lv_at hl 0 rfl) ?_
            refine lv_iconst (v := 3) hx hb dX4_notesFit_37 (by decide) ?_
            refine va_iald hx hb hK hP 4 0 rfl rfl (by unfold vp_in; decide) dX4_notesFit_38 ?_
            rw [show ((3 : Int32)).toNatClampNeg = 3 from rfl]
            have hs57 : kw_Split [(nw, .inr (4, [.ref kk, .ref nk, .ref nd, .ref ne, .ref nm, .ref nn, .int (nI fi), .int (nI gl), .int (nI un), .int (nI mi), .int (nI no)])), (o, .inr (8, [])), (nn, .inl (y 6, 6, .inr (.inr (.inr (.inr fn_))))), (t0, .inl (y 0, 5, .inl t0f)), (t1, .inl (y 0, 5, .inl t1f)), (t2, .inl (y 0, 5, .inl t2f)), (t3, .inl (y 0, 5, .inl t3f)), (t4, .inl (y 0, 5, .inl t4f)), (t5, .inl (y 0, 5, .inl t5f))] [(o, .inr (8, []))] [(nw, .inr (4, [.ref kk, .ref nk, .ref nd, .ref ne, .ref nm, .ref nn, .int (nI fi), .int (nI gl), .int (nI un), .int (nI mi), .int (nI no)])), (nn, .inl (y 6, 6, .inr (.inr (.inr (.inr fn_))))), (t0, .inl (y 0, 5, .inl t0f)), (t1, .inl (y 0, 5, .inl t1f)), (t2, .inl (y 0, 5, .inl t2f)), (t3, .inl (y 0, 5, .inl t3f)), (t4, .inl (y 0, 5, .inl t4f)), (t5, .inl (y 0, 5, .inl t5f))] [1] [0, 2, 3, 4, 5, 6, 7, 8] := ⟨rfl, rfl, rfl, rfl, rfl, by decide⟩
            refine kw_go_i hs57 hP hD hS hA (va_runU (As := [.int (t1f 1), .int (t1f 2), .int (t1f 3)]) (rest := []) ⟨hx, hb, hml, hown, hts⟩ (gc_West_on8 l D y o (t1f 1) (t1f 2) (t1f 3)  _) (va_cwO 3 hts gX4_notesFit_X8_sight_u89X8 rfl rfl rfl (List.mem_of_getElem? (i := 24) rfl) (by decide +kernel) ⟨Nat.le_of_ble_eq_true rfl, Nat.le_of_ble_eq_true rfl⟩) (kw_PreV (ci := 8) (q0 := 1) hs57 hP hD hK hN rfl rfl) rfl rfl hl.1 rfl (lv_room (Nat.le_of_ble_eq_true rfl)) dX4_notesFit_39 ⟨Nat.le_of_ble_eq_true rfl, Nat.le_of_ble_eq_true rfl⟩) (fun r58 u59 H locs hq hP hD hS => ?_)
            have hP : va_P D vwCl [(nw, .inr (4, [.ref kk, .ref nk, .ref nd, .ref ne, .ref nm, .ref nn, .int (nI fi), .int (nI gl), .int (nI un), .int (nI mi), .int (nI no)])), (nn, .inl (y 6, 6, .inr (.inr (.inr (.inr fn_))))), (t0, .inl (y 0, 5, .inl t0f)), (t1, .inl (y 0, 5, .inl t1f)), (t2, .inl (y 0, 5, .inl t2f)), (t3, .inl (y 0, 5, .inl t3f)), (t4, .inl (y 0, 5, .inl t4f)), (t5, .inl (y 0, 5, .inl t5f)), (o, .inr (8, []))] H := hP
            have hD : va_D A [(nw, .inr (4, [.ref kk, .ref nk, .ref nd, .ref ne, .ref nm, .ref nn, .int (nI fi), .int (nI gl), .int (nI un), .int (nI mi), .int (nI no)])), (nn, .inl (y 6, 6, .inr (.inr (.inr (.inr fn_))))), (t0, .inl (y 0, 5, .inl t0f)), (t1, .inl (y 0, 5, .inl t1f)), (t2, .inl (y 0, 5, .inl t2f)), (t3, .inl (y 0, 5, .inl t3f)), (t4, .inl (y 0, 5, .inl t4f)), (t5, .inl (y 0, 5, .inl t5f)), (o, .inr (8, []))] := hD
            refine lv_aload hx hb dX4_notesFit_42 (lv_at hl 0 rfl) ?_
            refine lv_iconst (v := 4) hx hb dX4_notesFit_44 (by decide) ?_
            refine va_iald hx hb hK hP 3 0 rfl rfl (by unfold vp_in; decide) dX4_notesFit_45 ?_
            rw [show ((4 : Int32)).toNatClampNeg = 4 from rfl]
            refine lv_icmp_eq (tgt := 51) hx hb dX4_notesFit_46 (by decide) (fun h60 => ?_) (fun h61 => ?_)
            · skip
              refine lv_iinc (v := (nI 2)) (lv' := [(3, .int (nI 2)), (4, .ref t1), (0, .ref nw), (1, .int x), (2, .ref o)]) hx hb dX4_notesFit_51 hl (k := 1) rfl (nI_1 1) (by decide) rfl (fun ls hl => ?_)
              refine lv_goto (tgt := 2) hx hb dX4_notesFit_54 (by decide) ?_
              exact ihj91 2  H locs ls (by omega) (by omega)  (hP.sub [0, 8, 1, 2, 3, 4, 5, 6, 7] rfl) (hD.sub [0, 8, 1, 2, 3, 4, 5, 6, 7] (by decide) rfl) hS (lv_sub hl [0, 2, 3, 4] rfl)
            · skip
              refine lv_iconst (v := 0) hx hb dX4_notesFit_49 (by decide) ?_
              exact W.zret (v := 0) hx hb hr (by decide) (fun tZ ht hW => ⟨⟨0, (), rfl, Or.inl rfl, by rw [ht]; exact hP.sub [0, 8, 1, 2, 3, 4, 5, 6, 7] rfl, hD.sub [0, 8, 1, 2, 3, 4, 5, 6, 7] (by decide) rfl⟩, hS.F ht⟩) hS.2.2 dX4_notesFit_50
        · skip
          refine kw_aldQ hx hb hK hP 2 6 rfl rfl (vp_in_nI (by omega) (by decide)) dX4_notesFit_15 ?_
          rw [nI_clamp (n := 2) (by omega), show va_rf (fn_ 2) = .ref t2 from congrArg va_rf hn2]
          refine lv_astore (lv' := [(4, .ref t2), (3, .int (nI 2)), (0, .ref nw), (1, .int x), (2, .ref o)]) hx hb dX4_notesFit_16 hl (by decide) rfl (fun ls hl => ?_)
          refine lv_aload hx hb dX4_notesFit_18 (lv_at hl 0 rfl) ?_
          refine lv_iconst (v := 0) hx hb dX4_notesFit_20 (by decide) ?_
          refine va_iald hx hb hK hP 5 0 rfl rfl (by unfold vp_in; decide) dX4_notesFit_21 ?_
          rw [show ((0 : Int32)).toNatClampNeg = 0 from rfl]
          refine lv_iload_n hx hb dX4_notesFit_22 rfl (lv_at hl 3 rfl) ?_
          refine lv_icmp_ne (tgt := 51) hx hb dX4_notesFit_23 (by decide) (fun h62 => ?_) (fun h63 => ?_)
          · skip
            refine lv_iinc (v := (nI 3)) (lv' := [(3, .int (nI 3)), (4, .ref t2), (0, .ref nw), (1, .int x), (2, .ref o)]) hx hb dX4_notesFit_51 hl (k := 1) rfl (nI_1 2) (by decide) rfl (fun ls hl => ?_)
            refine lv_goto (tgt := 2) hx hb dX4_notesFit_54 (by decide) ?_
            exact ihj91 3  H locs ls (by omega) (by omega)  (hP.sub [0, 1, 2, 3, 4, 5, 6, 7, 8] rfl) (hD.sub [0, 1, 2, 3, 4, 5, 6, 7, 8] (by decide) rfl) hS (lv_sub hl [0, 2, 3, 4] rfl)
          · skip
            refine lv_aload_n hx hb dX4_notesFit_26 rfl (lv_at hl 4 rfl) ?_
            refine lv_aload hx hb dX4_notesFit_27 (lv_at hl 0 rfl) ?_
            refine lv_iconst (v := 1) hx hb dX4_notesFit_29 (by decide) ?_
            refine va_iald hx hb hK hP 5 0 rfl rfl (by unfold vp_in; decide) dX4_notesFit_30 ?_
            rw [show ((1 : Int32)).toNatClampNeg = 1 from rfl]
            refine lv_aload hx hb dX4_notesFit_31 (lv_at hl 0 rfl) ?_
            refine lv_iconst (v := 2) hx hb dX4_notesFit_33 (by decide) ?_
            refine va_iald hx hb hK hP 5 0 rfl rfl (by unfold vp_in; decide) dX4_notesFit_34 ?_
            rw [show ((2 : Int32)).toNatClampNeg = 2 from rfl]
            refine lv_aload hx hb dX4_notesFit_35 (lv_at hl 0 rfl) ?_
            refine lv_iconst (v := 3) hx hb dX4_notesFit_37 (by decide) ?_
            refine va_iald hx hb hK hP 5 0 rfl rfl (by unfold vp_in; decide) dX4_notesFit_38 ?_
            rw [show ((3 : Int32)).toNatClampNeg = 3 from rfl]
            have hs64 : kw_Split [(nw, .inr (4, [.ref kk, .ref nk, .ref nd, .ref ne, .ref nm, .ref nn, .int (nI fi), .int (nI gl), .int (nI un), .int (nI mi), .int (nI no)])), (o, .inr (8, [])), (nn, .inl (y 6, 6, .inr (.inr (.inr (.inr fn_))))), (t0, .inl (y 0, 5, .inl t0f)), (t1, .inl (y 0, 5, .inl t1f)), (t2, .inl (y 0, 5, .inl t2f)), (t3, .inl (y 0, 5, .inl t3f)), (t4, .inl (y 0, 5, .inl t4f)), (t5, .inl (y 0, 5, .inl t5f))] [(o, .inr (8, []))] [(nw, .inr (4, [.ref kk, .ref nk, .ref nd, .ref ne, .ref nm, .ref nn, .int (nI fi), .int (nI gl), .int (nI un), .int (nI mi), .int (nI no)])), (nn, .inl (y 6, 6, .inr (.inr (.inr (.inr fn_))))), (t0, .inl (y 0, 5, .inl t0f)), (t1, .inl (y 0, 5, .inl t1f)), (t2, .inl (y 0, 5, .inl t2f)), (t3, .inl (y 0, 5, .inl t3f)), (t4, .inl (y 0, 5, .inl t4f)), (t5, .inl (y 0, 5, .inl t5f))] [1] [0, 2, 3, 4, 5, 6, 7, 8] := ⟨rfl, rfl, rfl, rfl, rfl, by decide⟩
            refine kw_go_i hs64 hP hD hS hA (va_runU (As := [.int (t2f 1), .int (t2f 2), .int (t2f 3)]) (rest := []) ⟨hx, hb, hml, hown, hts⟩ (gc_West_on8 l D y o (t2f 1) (t2f 2) (t2f 3)  _) (va_cwO 3 hts gX4_notesFit_X8_sight_u89X8 rfl rfl rfl (List.mem_of_getElem? (i := 24) rfl) (by decide +kernel) ⟨Nat.le_of_ble_eq_true rfl, Nat.le_of_ble_eq_true rfl⟩) (kw_PreV (ci := 8) (q0 := 1) hs64 hP hD hK hN rfl rfl) rfl rfl hl.1 rfl (lv_room (Nat.le_of_ble_eq_true rfl)) dX4_notesFit_39 ⟨Nat.le_of_ble_eq_true rfl, Nat.le_of_ble_eq_true rfl⟩) (fun r65 u66 H locs hq hP hD hS => ?_)
            have hP : va_P D vwCl [(nw, .inr (4, [.ref kk, .ref nk, .ref nd, .ref ne, .ref nm, .ref nn, .int (nI fi), .int (nI gl), .int (nI un), .int (nI mi), .int (nI no)])), (nn, .inl (y 6, 6, .inr (.inr (.inr (.inr fn_))))), (t0, .inl (y 0, 5, .inl t0f)), (t1, .inl (y 0, 5, .inl t1f)), (t2, .inl (y 0, 5, .inl t2f)), (t3, .inl (y 0, 5, .inl t3f)), (t4, .inl (y 0, 5, .inl t4f)), (t5, .inl (y 0, 5, .inl t5f)), (o, .inr (8, []))] H := hP
            have hD : va_D A [(nw, .inr (4, [.ref kk, .ref nk, .ref nd, .ref ne, .ref nm, .ref nn, .int (nI fi), .int (nI gl), .int (nI un), .int (nI mi), .int (nI no)])), (nn, .inl (y 6, 6, .inr (.inr (.inr (.inr fn_))))), (t0, .inl (y 0, 5, .inl t0f)), (t1, .inl (y 0, 5, .inl t1f)), (t2, .inl (y 0, 5, .inl t2f)), (t3, .inl (y 0, 5, .inl t3f)), (t4, .inl (y 0, 5, .inl t4f)), (t5, .inl (y 0, 5, .inl t5f)), (o, .inr (8, []))] := hD
            refine lv_aload hx hb dX4_notesFit_42 (lv_at hl 0 rfl) ?_
            refine lv_iconst (v := 4) hx hb dX4_notesFit_44 (by decide) ?_
            refine va_iald hx hb hK hP 4 0 rfl rfl (by unfold vp_in; decide) dX4_notesFit_45 ?_
            rw [show ((4 : Int32)).toNatClampNeg = 4 from rfl]
            refine lv_icmp_eq (tgt := 51) hx hb dX4_notesFit_46 (by decide) (fun h67 => ?_) (fun h68 => ?_)
            · skip
              refine lv_iinc (v := (nI 3)) (lv' := [(3, .int (nI 3)), (4, .ref t2), (0, .ref nw), (1, .int x), (2, .ref o)]) hx hb dX4_notesFit_51 hl (k := 1) rfl (nI_1 2) (by decide) rfl (fun ls hl => ?_)
              refine lv_goto (tgt := 2) hx hb dX4_notesFit_54 (by decide) ?_
              exact ihj91 3  H locs ls (by omega) (by omega)  (hP.sub [0, 8, 1, 2, 3, 4, 5, 6, 7] rfl) (hD.sub [0, 8, 1, 2, 3, 4, 5, 6, 7] (by decide) rfl) hS (lv_sub hl [0, 2, 3, 4] rfl)
            · skip
              refine lv_iconst (v := 0) hx hb dX4_notesFit_49 (by decide) ?_
              exact W.zret (v := 0) hx hb hr (by decide) (fun tZ ht hW => ⟨⟨0, (), rfl, Or.inl rfl, by rw [ht]; exact hP.sub [0, 8, 1, 2, 3, 4, 5, 6, 7] rfl, hD.sub [0, 8, 1, 2, 3, 4, 5, 6, 7] (by decide) rfl⟩, hS.F ht⟩) hS.2.2 dX4_notesFit_50
        · skip
          refine kw_aldQ hx hb hK hP 2 6 rfl rfl (vp_in_nI (by omega) (by decide)) dX4_notesFit_15 ?_
          rw [nI_clamp (n := 3) (by omega), show va_rf (fn_ 3) = .ref t3 from congrArg va_rf hn3]
          refine lv_astore (lv' := [(4, .ref t3), (3, .int (nI 3)), (0, .ref nw), (1, .int x), (2, .ref o)]) hx hb dX4_notesFit_16 hl (by decide) rfl (fun ls hl => ?_)
          refine lv_aload hx hb dX4_notesFit_18 (lv_at hl 0 rfl) ?_
          refine lv_iconst (v := 0) hx hb dX4_notesFit_20 (by decide) ?_
          refine va_iald hx hb hK hP 6 0 rfl rfl (by unfold vp_in; decide) dX4_notesFit_21 ?_
          rw [show ((0 : Int32)).toNatClampNeg = 0 from rfl]
          refine lv_iload_n hx hb dX4_notesFit_22 rfl (lv_at hl 3 rfl) ?_
          refine lv_icmp_ne (tgt := 51) hx hb dX4_notesFit_23 (by decide) (fun h69 => ?_) (fun h70 => ?_)
          · skip
            refine lv_iinc (v := (nI 4)) (lv' := [(3, .int (nI 4)), (4, .ref t3), (0, .ref nw), (1, .int x), (2, .ref o)]) hx hb dX4_notesFit_51 hl (k := 1) rfl (nI_1 3) (by decide) rfl (fun ls hl => ?_)
            refine lv_goto (tgt := 2) hx hb dX4_notesFit_54 (by decide) ?_
            exact ihj91 4  H locs ls (by omega) (by omega)  (hP.sub [0, 1, 2, 3, 4, 5, 6, 7, 8] rfl) (hD.sub [0, 1, 2, 3, 4, 5, 6, 7, 8] (by decide) rfl) hS (lv_sub hl [0, 2, 3, 4] rfl)
          · skip
            refine lv_aload_n hx hb dX4_notesFit_26 rfl (lv_at hl 4 rfl) ?_
            refine lv_aload hx hb dX4_notesFit_27 (lv_at hl 0 rfl) ?_
            refine lv_iconst (v := 1) hx hb dX4_notesFit_29 (by decide) ?_
            refine va_iald hx hb hK hP 6 0 rfl rfl (by unfold vp_in; decide) dX4_notesFit_30 ?_
            rw [show ((1 : Int32)).toNatClampNeg = 1 from rfl]
            refine lv_aload hx hb dX4_notesFit_31 (lv_at hl 0 rfl) ?_
            refine lv_iconst (v := 2) hx hb dX4_notesFit_33 (by decide) ?_
            refine va_iald hx hb hK hP 6 0 rfl rfl (by unfold vp_in; decide) dX4_notesFit_34 ?_
            rw [show ((2 : Int32)).toNatClampNeg = 2 from rfl]
            refine lv_aload hx hb dX4_notesFit_35 (lv_at hl 0 rfl) ?_
            refine lv_iconst (v := 3) hx hb dX4_notesFit_37 (by decide) ?_
            refine va_iald hx hb hK hP 6 0 rfl rfl (by unfold vp_in; decide) dX4_notesFit_38 ?_
            rw [show ((3 : Int32)).toNatClampNeg = 3 from rfl]
            have hs71 : kw_Split [(nw, .inr (4, [.ref kk, .ref nk, .ref nd, .ref ne, .ref nm, .ref nn, .int (nI fi), .int (nI gl), .int (nI un), .int (nI mi), .int (nI no)])), (o, .inr (8, [])), (nn, .inl (y 6, 6, .inr (.inr (.inr (.inr fn_))))), (t0, .inl (y 0, 5, .inl t0f)), (t1, .inl (y 0, 5, .inl t1f)), (t2, .inl (y 0, 5, .inl t2f)), (t3, .inl (y 0, 5, .inl t3f)), (t4, .inl (y 0, 5, .inl t4f)), (t5, .inl (y 0, 5, .inl t5f))] [(o, .inr (8, []))] [(nw, .inr (4, [.ref kk, .ref nk, .ref nd, .ref ne, .ref nm, .ref nn, .int (nI fi), .int (nI gl), .int (nI un), .int (nI mi), .int (nI no)])), (nn, .inl (y 6, 6, .inr (.inr (.inr (.inr fn_))))), (t0, .inl (y 0, 5, .inl t0f)), (t1, .inl (y 0, 5, .inl t1f)), (t2, .inl (y 0, 5, .inl t2f)), (t3, .inl (y 0, 5, .inl t3f)), (t4, .inl (y 0, 5, .inl t4f)), (t5, .inl (y 0, 5, .inl t5f))] [1] [0, 2, 3, 4, 5, 6, 7, 8] := ⟨rfl, rfl, rfl, rfl, rfl, by decide⟩
            refine kw_go_i hs71 hP hD hS hA (va_runU (As := [.int (t3f 1), .int (t3f 2), .int (t3f 3)]) (rest := []) ⟨hx, hb, hml, hown, hts⟩ (gc_West_on8 l D y o (t3f 1) (t3f 2) (t3f 3)  _) (va_cwO 3 hts gX4_notesFit_X8_sight_u89X8 rfl rfl rfl (List.mem_of_getElem? (i := 24) rfl) (by decide +kernel) ⟨Nat.le_of_ble_eq_true rfl, Nat.le_of_ble_eq_true rfl⟩) (kw_PreV (ci := 8) (q0 := 1) hs71 hP hD hK hN rfl rfl) rfl rfl hl.1 rfl (lv_room (Nat.le_of_ble_eq_true rfl)) dX4_notesFit_39 ⟨Nat.le_of_ble_eq_true rfl, Nat.le_of_ble_eq_true rfl⟩) (fun r72 u73 H locs hq hP hD hS => ?_)
            have hP : va_P D vwCl [(nw, .inr (4, [.ref kk, .ref nk, .ref nd, .ref ne, .ref nm, .ref nn, .int (nI fi), .int (nI gl), .int (nI un), .int (nI mi), .int (nI no)])), (nn, .inl (y 6, 6, .inr (.inr (.inr (.inr fn_))))), (t0, .inl (y 0, 5, .inl t0f)), (t1, .inl (y 0, 5, .inl t1f)), (t2, .inl (y 0, 5, .inl t2f)), (t3, .inl (y 0, 5, .inl t3f)), (t4, .inl (y 0, 5, .inl t4f)), (t5, .inl (y 0, 5, .inl t5f)), (o, .inr (8, []))] H := hP
            have hD : va_D A [(nw, .inr (4, [.ref kk, .ref nk, .ref nd, .ref ne, .ref nm, .ref nn, .int (nI fi), .int (nI gl), .int (nI un), .int (nI mi), .int (nI no)])), (nn, .inl (y 6, 6, .inr (.inr (.inr (.inr fn_))))), (t0, .inl (y 0, 5, .inl t0f)), (t1, .inl (y 0, 5, .inl t1f)), (t2, .inl (y 0, 5, .inl t2f)), (t3, .inl (y 0, 5, .inl t3f)), (t4, .inl (y 0, 5, .inl t4f)), (t5, .inl (y 0, 5, .inl t5f)), (o, .inr (8, []))] := hD
            refine lv_aload hx hb dX4_notesFit_42 (lv_at hl 0 rfl) ?_
            refine lv_iconst (v := 4) hx hb dX4_notesFit_44 (by decide) ?_
            refine va_iald hx hb hK hP 5 0 rfl rfl (by unfold vp_in; decide) dX4_notesFit_45 ?_
            rw [show ((4 : Int32)).toNatClampNeg = 4 from rfl]
            refine lv_icmp_eq (tgt := 51) hx hb dX4_notesFit_46 (by decide) (fun h74 => ?_) (fun h75 => ?_)
            · skip
              refine lv_iinc (v := (nI 4)) (lv' := [(3, .int (nI 4)), (4, .ref t3), (0, .ref nw), (1, .int x), (2, .ref o)]) hx hb dX4_notesFit_51 hl (k := 1) rfl (nI_1 3) (by decide) rfl (fun ls hl => ?_)
              refine lv_goto (tgt := 2) hx hb dX4_notesFit_54 (by decide) ?_
              exact ihj91 4  H locs ls (by omega) (by omega)  (hP.sub [0, 8, 1, 2, 3, 4, 5, 6, 7] rfl) (hD.sub [0, 8, 1, 2, 3, 4, 5, 6, 7] (by decide) rfl) hS (lv_sub hl [0, 2, 3, 4] rfl)
            · skip
              refine lv_iconst (v := 0) hx hb dX4_notesFit_49 (by decide) ?_
              exact W.zret (v := 0) hx hb hr (by decide) (fun tZ ht hW => ⟨⟨0, (), rfl, Or.inl rfl, by rw [ht]; exact hP.sub [0, 8, 1, 2, 3, 4, 5, 6, 7] rfl, hD.sub [0, 8, 1, 2, 3, 4, 5, 6, 7] (by decide) rfl⟩, hS.F ht⟩) hS.2.2 dX4_notesFit_50
        · skip
          refine kw_aldQ hx hb hK hP 2 6 rfl rfl (vp_in_nI (by omega) (by decide)) dX4_notesFit_15 ?_
          rw [nI_clamp (n := 4) (by omega), show va_rf (fn_ 4) = .ref t4 from congrArg va_rf hn4]
          refine lv_astore (lv' := [(4, .ref t4), (3, .int (nI 4)), (0, .ref nw), (1, .int x), (2, .ref o)]) hx hb dX4_notesFit_16 hl (by decide) rfl (fun ls hl => ?_)
          refine lv_aload hx hb dX4_notesFit_18 (lv_at hl 0 rfl) ?_
          refine lv_iconst (v := 0) hx hb dX4_notesFit_20 (by decide) ?_
          refine va_iald hx hb hK hP 7 0 rfl rfl (by unfold vp_in; decide) dX4_notesFit_21 ?_
          rw [show ((0 : Int32)).toNatClampNeg = 0 from rfl]
          refine lv_iload_n hx hb dX4_notesFit_22 rfl (lv_at hl 3 rfl) ?_
          refine lv_icmp_ne (tgt := 51) hx hb dX4_notesFit_23 (by decide) (fun h76 => ?_) (fun h77 => ?_)
          · skip
            refine lv_iinc (v := (nI 5)) (lv' := [(3, .int (nI 5)), (4, .ref t4), (0, .ref nw), (1, .int x), (2, .ref o)]) hx hb dX4_notesFit_51 hl (k := 1) rfl (nI_1 4) (by decide) rfl (fun ls hl => ?_)
            refine lv_goto (tgt := 2) hx hb dX4_notesFit_54 (by decide) ?_
            exact ihj91 5  H locs ls (by omega) (by omega)  (hP.sub [0, 1, 2, 3, 4, 5, 6, 7, 8] rfl) (hD.sub [0, 1, 2, 3, 4, 5, 6, 7, 8] (by decide) rfl) hS (lv_sub hl [0, 2, 3, 4] rfl)
          · skip
            refine lv_aload_n hx hb dX4_notesFit_26 rfl (lv_at hl 4 rfl) ?_
            refine lv_aload hx hb dX4_notesFit_27 (lv_at hl 0 rfl) ?_
            refine lv_iconst (v := 1) hx hb dX4_notesFit_29 (by decide) ?_
            refine va_iald hx hb hK hP 7 0 rfl rfl (by unfold vp_in; decide) dX4_notesFit_30 ?_
            rw [show ((1 : Int32)).toNatClampNeg = 1 from rfl]
            refine lv_aload hx hb dX4_notesFit_31 (lv_at hl 0 rfl) ?_
            refine lv_iconst (v := 2) hx hb dX4_notesFit_33 (by decide) ?_
            refine va_iald hx hb hK hP 7 0 rfl rfl (by unfold vp_in; decide) dX4_notesFit_34 ?_
            rw [show ((2 : Int32)).toNatClampNeg = 2 from rfl]
            refine lv_aload hx hb dX4_notesFit_35 (lv_at hl 0 rfl) ?_
            refine lv_iconst (v := 3) hx hb dX4_notesFit_37 (by decide) ?_
            refine va_iald hx hb hK hP 7 0 rfl rfl (by unfold vp_in; decide) dX4_notesFit_38 ?_
            rw [show ((3 : Int32)).toNatClampNeg = 3 from rfl]
            have hs78 : kw_Split [(nw, .inr (4, [.ref kk, .ref nk, .ref nd, .ref ne, .ref nm, .ref nn, .int (nI fi), .int (nI gl), .int (nI un), .int (nI mi), .int (nI no)])), (o, .inr (8, [])), (nn, .inl (y 6, 6, .inr (.inr (.inr (.inr fn_))))), (t0, .inl (y 0, 5, .inl t0f)), (t1, .inl (y 0, 5, .inl t1f)), (t2, .inl (y 0, 5, .inl t2f)), (t3, .inl (y 0, 5, .inl t3f)), (t4, .inl (y 0, 5, .inl t4f)), (t5, .inl (y 0, 5, .inl t5f))] [(o, .inr (8, []))] [(nw, .inr (4, [.ref kk, .ref nk, .ref nd, .ref ne, .ref nm, .ref nn, .int (nI fi), .int (nI gl), .int (nI un), .int (nI mi), .int (nI no)])), (nn, .inl (y 6, 6, .inr (.inr (.inr (.inr fn_))))), (t0, .inl (y 0, 5, .inl t0f)), (t1, .inl (y 0, 5, .inl t1f)), (t2, .inl (y 0, 5, .inl t2f)), (t3, .inl (y 0, 5, .inl t3f)), (t4, .inl (y 0, 5, .inl t4f)), (t5, .inl (y 0, 5, .inl t5f))] [1] [0, 2, 3, 4, 5, 6, 7, 8] := ⟨rfl, rfl, rfl, rfl, rfl, by decide⟩
            refine kw_go_i hs78 hP hD hS hA (va_runU (As := [.int (t4f 1), .int (t4f 2), .int (t4f 3)]) (rest := []) ⟨hx, hb, hml, hown, hts⟩ (gc_West_on8 l D y o (t4f 1) (t4f 2) (t4f 3)  _) (va_cwO 3 hts gX4_notesFit_X8_sight_u89X8 rfl rfl rfl (List.mem_of_getElem? (i := 24) rfl) (by decide +kernel) ⟨Nat.le_of_ble_eq_true rfl, Nat.le_of_ble_eq_true rfl⟩) (kw_PreV (ci := 8) (q0 := 1) hs78 hP hD hK hN rfl rfl) rfl rfl hl.1 rfl (lv_room (Nat.le_of_ble_eq_true rfl)) dX4_notesFit_39 ⟨Nat.le_of_ble_eq_true rfl, Nat.le_of_ble_eq_true rfl⟩) (fun r79 u80 H locs hq hP hD hS => ?_)
            have hP : va_P D vwCl [(nw, .inr (4, [.ref kk, .ref nk, .ref nd, .ref ne, .ref nm, .ref nn, .int (nI fi), .int (nI gl), .int (nI un), .int (nI mi), .int (nI no)])), (nn, .inl (y 6, 6, .inr (.inr (.inr (.inr fn_))))), (t0, .inl (y 0, 5, .inl t0f)), (t1, .inl (y 0, 5, .inl t1f)), (t2, .inl (y 0, 5, .inl t2f)), (t3, .inl (y 0, 5, .inl t3f)), (t4, .inl (y 0, 5, .inl t4f)), (t5, .inl (y 0, 5, .inl t5f)), (o, .inr (8, []))] H := hP
            have hD : va_D A [(nw, .inr (4, [.ref kk, .ref nk, .ref nd, .ref ne, .ref nm, .ref nn, .int (nI fi), .int (nI gl), .int (nI un), .int (nI mi), .int (nI no)])), (nn, .inl (y 6, 6, .inr (.inr (.inr (.inr fn_))))), (t0, .inl (y 0, 5, .inl t0f)), (t1, .inl (y 0, 5, .inl t1f)), (t2, .inl (y 0, 5, .inl t2f)), (t3, .inl (y 0, 5, .inl t3f)), (t4, .inl (y 0, 5, .inl t4f)), (t5, .inl (y 0, 5, .inl t5f)), (o, .inr (8, []))] := hD
            refine lv_aload hx hb dX4_notesFit_42 (lv_at hl 0 rfl) ?_
            refine lv_iconst (v := 4) hx hb dX4_notesFit_44 (by decide) ?_
            refine va_iald hx hb hK hP 6 0 rfl rfl (by unfold vp_in; decide) dX4_notesFit_45 ?_
            rw [show ((4 : Int32)).toNatClampNeg = 4 from rfl]
            refine lv_icmp_eq (tgt := 51) hx hb dX4_notesFit_46 (by decide) (fun h81 => ?_) (fun h82 => ?_)
            · skip
              refine lv_iinc (v := (nI 5)) (lv' := [(3, .int (nI 5)), (4, .ref t4), (0, .ref nw), (1, .int x), (2, .ref o)]) hx hb dX4_notesFit_51 hl (k := 1) rfl (nI_1 4) (by decide) rfl (fun ls hl => ?_)
              refine lv_goto (tgt := 2) hx hb dX4_notesFit_54 (by decide) ?_
              exact ihj91 5  H locs ls (by omega) (by omega)  (hP.sub [0, 8, 1, 2, 3, 4, 5, 6, 7] rfl) (hD.sub [0, 8, 1, 2, 3, 4, 5, 6, 7] (by decide) rfl) hS (lv_sub hl [0, 2, 3, 4] rfl)
            · skip
              refine lv_iconst (v := 0) hx hb dX4_notesFit_49 (by decide) ?_
              exact W.zret (v := 0) hx hb hr (by decide) (fun tZ ht hW => ⟨⟨0, (), rfl, Or.inl rfl, by rw [ht]; exact hP.sub [0, 8, 1, 2, 3, 4, 5, 6, 7] rfl, hD.sub [0, 8, 1, 2, 3, 4, 5, 6, 7] (by decide) rfl⟩, hS.F ht⟩) hS.2.2 dX4_notesFit_50
        · skip
          refine kw_aldQ hx hb hK hP 2 6 rfl rfl (vp_in_nI (by omega) (by decide)) dX4_notesFit_15 ?_
          rw [nI_clamp (n := 5) (by omega), show va_rf (fn_ 5) = .ref t5 from congrArg va_rf hn5]
          refine lv_astore (lv' := [(4, .ref t5), (3, .int (nI 5)), (0, .ref nw), (1, .int x), (2, .ref o)]) hx hb dX4_notesFit_16 hl (by decide) rfl (fun ls hl => ?_)
          refine lv_aload hx hb dX4_notesFit_18 (lv_at hl 0 rfl) ?_
          refine lv_iconst (v := 0) hx hb dX4_notesFit_20 (by decide) ?_
          refine va_iald hx hb hK hP 8 0 rfl rfl (by unfold vp_in; decide) dX4_notesFit_21 ?_
          rw [show ((0 : Int32)).toNatClampNeg = 0 from rfl]
          refine lv_iload_n hx hb dX4_notesFit_22 rfl (lv_at hl 3 rfl) ?_
          refine lv_icmp_ne (tgt := 51) hx hb dX4_notesFit_23 (by decide) (fun h83 => ?_) (fun h84 => ?_)
          · skip
            refine lv_iinc (v := (nI 6)) (lv' := [(3, .int (nI 6)), (4, .ref t5), (0, .ref nw), (1, .int x), (2, .ref o)]) hx hb dX4_notesFit_51 hl (k := 1) rfl (nI_1 5) (by decide) rfl (fun ls hl => ?_)
            refine lv_goto (tgt := 2) hx hb dX4_notesFit_54 (by decide) ?_
            exact ihj91 6  H locs ls (by omega) (by omega)  (hP.sub [0, 1, 2, 3, 4, 5, 6, 7, 8] rfl) (hD.sub [0, 1, 2, 3, 4, 5, 6, 7, 8] (by decide) rfl) hS (lv_sub hl [0, 2, 3, 4] rfl)
          · skip
            refine lv_aload_n hx hb dX4_notesFit_26 rfl (lv_at hl 4 rfl) ?_
            refine lv_aload hx hb dX4_notesFit_27 (lv_at hl 0 rfl) ?_
            refine lv_iconst (v := 1) hx hb dX4_notesFit_29 (by decide) ?_
            refine va_iald hx hb hK hP 8 0 rfl rfl (by unfold vp_in; decide) dX4_notesFit_30 ?_
            rw [show ((1 : Int32)).toNatClampNeg = 1 from rfl]
            refine lv_aload hx hb dX4_notesFit_31 (lv_at hl 0 rfl) ?_
            refine lv_iconst (v := 2) hx hb dX4_notesFit_33 (by decide) ?_
            refine va_iald hx hb hK hP 8 0 rfl rfl (by unfold vp_in; decide) dX4_notesFit_34 ?_
            rw [show ((2 : Int32)).toNatClampNeg = 2 from rfl]
            refine lv_aload hx hb dX4_notesFit_35 (lv_at hl 0 rfl) ?_
            refine lv_iconst (v := 3) hx hb dX4_notesFit_37 (by decide) ?_
            refine va_iald hx hb hK hP 8 0 rfl rfl (by unfold vp_in; decide) dX4_notesFit_38 ?_
            rw [show ((3 : Int32)).toNatClampNeg = 3 from rfl]
            have hs85 : kw_Split [(nw, .inr (4, [.ref kk, .ref nk, .ref nd, .ref ne, .ref nm, .ref nn, .int (nI fi), .int (nI gl), .int (nI un), .int (nI mi), .int (nI no)])), (o, .inr (8, [])), (nn, .inl (y 6, 6, .inr (.inr (.inr (.inr fn_))))), (t0, .inl (y 0, 5, .inl t0f)), (t1, .inl (y 0, 5, .inl t1f)), (t2, .inl (y 0, 5, .inl t2f)), (t3, .inl (y 0, 5, .inl t3f)), (t4, .inl (y 0, 5, .inl t4f)), (t5, .inl (y 0, 5, .inl t5f))] [(o, .inr (8, []))] [(nw, .inr (4, [.ref kk, .ref nk, .ref nd, .ref ne, .ref nm, .ref nn, .int (nI fi), .int (nI gl), .int (nI un), .int (nI mi), .int (nI no)])), (nn, .inl (y 6, 6, .inr (.inr (.inr (.inr fn_))))), (t0, .inl (y 0, 5, .inl t0f)), (t1, .inl (y 0, 5, .inl t1f)), (t2, .inl (y 0, 5, .inl t2f)), (t3, .inl (y 0, 5, .inl t3f)), (t4, .inl (y 0, 5, .inl t4f)), (t5, .inl (y 0, 5, .inl t5f))] [1] [0, 2, 3, 4, 5, 6, 7, 8] := ⟨rfl, rfl, rfl, rfl, rfl, by decide⟩
            refine kw_go_i hs85 hP hD hS hA (va_runU (As := [.int (t5f 1), .int (t5f 2), .int (t5f 3)]) (rest := []) ⟨hx, hb, hml, hown, hts⟩ (gc_West_on8 l D y o (t5f 1) (t5f 2) (t5f 3)  _) (va_cwO 3 hts gX4_notesFit_X8_sight_u89X8 rfl rfl rfl (List.mem_of_getElem? (i := 24) rfl) (by decide +kernel) ⟨Nat.le_of_ble_eq_true rfl, Nat.le_of_ble_eq_true rfl⟩) (kw_PreV (ci := 8) (q0 := 1) hs85 hP hD hK hN rfl rfl) rfl rfl hl.1 rfl (lv_room (Nat.le_of_ble_eq_true rfl)) dX4_notesFit_39 ⟨Nat.le_of_ble_eq_true rfl, Nat.le_of_ble_eq_true rfl⟩) (fun r86 u87 H locs hq hP hD hS => ?_)
            have hP : va_P D vwCl [(nw, .inr (4, [.ref kk, .ref nk, .ref nd, .ref ne, .ref nm, .ref nn, .int (nI fi), .int (nI gl), .int (nI un), .int (nI mi), .int (nI no)])), (nn, .inl (y 6, 6, .inr (.inr (.inr (.inr fn_))))), (t0, .inl (y 0, 5, .inl t0f)), (t1, .inl (y 0, 5, .inl t1f)), (t2, .inl (y 0, 5, .inl t2f)), (t3, .inl (y 0, 5, .inl t3f)), (t4, .inl (y 0, 5, .inl t4f)), (t5, .inl (y 0, 5, .inl t5f)), (o, .inr (8, []))] H := hP
            have hD : va_D A [(nw, .inr (4, [.ref kk, .ref nk, .ref nd, .ref ne, .ref nm, .ref nn, .int (nI fi), .int (nI gl), .int (nI un), .int (nI mi), .int (nI no)])), (nn, .inl (y 6, 6, .inr (.inr (.inr (.inr fn_))))), (t0, .inl (y 0, 5, .inl t0f)), (t1, .inl (y 0, 5, .inl t1f)), (t2, .inl (y 0, 5, .inl t2f)), (t3, .inl (y 0, 5, .inl t3f)), (t4, .inl (y 0, 5, .inl t4f)), (t5, .inl (y 0, 5, .inl t5f)), (o, .inr (8, []))] := hD
            refine lv_aload hx hb dX4_notesFit_42 (lv_at hl 0 rfl) ?_
            refine lv_iconst (v := 4) hx hb dX4_notesFit_44 (by decide) ?_
            refine va_iald hx hb hK hP 7 0 rfl rfl (by unfold vp_in; decide) dX4_notesFit_45 ?_
            rw [show ((4 : Int32)).toNatClampNeg = 4 from rfl]
            refine lv_icmp_eq (tgt := 51) hx hb dX4_notesFit_46 (by decide) (fun h88 => ?_) (fun h89 => ?_)
            · skip
              refine lv_iinc (v := (nI 6)) (lv' := [(3, .int (nI 6)), (4, .ref t5), (0, .ref nw), (1, .int x), (2, .ref o)]) hx hb dX4_notesFit_51 hl (k := 1) rfl (nI_1 5) (by decide) rfl (fun ls hl => ?_)
              refine lv_goto (tgt := 2) hx hb dX4_notesFit_54 (by decide) ?_
              exact ihj91 6  H locs ls (by omega) (by omega)  (hP.sub [0, 8, 1, 2, 3, 4, 5, 6, 7] rfl) (hD.sub [0, 8, 1, 2, 3, 4, 5, 6, 7] (by decide) rfl) hS (lv_sub hl [0, 2, 3, 4] rfl)
            · skip
              refine lv_iconst (v := 0) hx hb dX4_notesFit_49 (by decide) ?_
              exact W.zret (v := 0) hx hb hr (by decide) (fun tZ ht hW => ⟨⟨0, (), rfl, Or.inl rfl, by rw [ht]; exact hP.sub [0, 8, 1, 2, 3, 4, 5, 6, 7] rfl, hD.sub [0, 8, 1, 2, 3, 4, 5, 6, 7] (by decide) rfl⟩, hS.F ht⟩) hS.2.2 dX4_notesFit_50
  exact lp45 (no + 1) 0  _ _ _ (by omega) (by omega)  hP hD hS (lv_sub hl [0, 1, 2, 3] rfl)

set_option maxHeartbeats 4000000 in
set_option maxRecDepth 100000 in
theorem gc_notesFit_on9 (l : Launch) (D : va_G) (y : Nat → ClassId) (nw : Nat) (kk : Nat) (nk : Nat) (nd : Nat) (ne : Nat) (nm : Nat) (nn : Nat) (fi : Nat) (gl : Nat) (un : Nat) (mi : Nat) (no : Nat) (t0 : Nat) (t1 : Nat) (t2 : Nat) (t3 : Nat) (t4 : Nat) (t5 : Nat) (t0f : Nat → Int32) (t1f : Nat → Int32) (t2f : Nat → Int32) (t3f : Nat → Int32) (t4f : Nat → Int32) (t5f : Nat → Int32) (fn_ : Nat → Option Nat) (o : Nat) (x : Int32) (hfi : fi ≤ 6) (hgl : gl ≤ 5) (hun : un ≤ 8) (hmi : mi ≤ 4) (hno : no ≤ 6) (hn0 : fn_ 0 = some t0) (hn1 : fn_ 1 = some t1) (hn2 : fn_ 2 = some t2) (hn3 : fn_ 3 = some t3) (hn4 : fn_ 4 = some t4) (hn5 : fn_ 5 = some t5) : kw_Mi l yX4_notesFit wsX4_notesFit ({ frames := 3, cells := 0, slots := 0, locals := 106 }) D y [.ref nw, .int x, .ref o] [(nw, .inr (4, [.ref kk, .ref nk, .ref nd, .ref ne, .ref nm, .ref nn, .int (nI fi), .int (nI gl), .int (nI un), .int (nI mi), .int (nI no)])), (o, .inr (9, [])), (nn, .inl (y 6, 6, .inr (.inr (.inr (.inr fn_))))), (t0, .inl (y 0, 5, .inl t0f)), (t1, .inl (y 0, 5, .inl t1f)), (t2, .inl (y 0, 5, .inl t2f)), (t3, .inl (y 0, 5, .inl t3f)), (t4, .inl (y 0, 5, .inl t4f)), (t5, .inl (y 0, 5, .inl t5f))] (fun (r : Int32) (u : Unit) => (r = 0 ∨ r = 1)) (fun _ => [(nw, .inr (4, [.ref kk, .ref nk, .ref nd, .ref ne, .ref nm, .ref nn, .int (nI fi), .int (nI gl), .int (nI un), .int (nI mi), .int (nI no)])), (o, .inr (9, [])), (nn, .inl (y 6, 6, .inr (.inr (.inr (.inr fn_))))), (t0, .inl (y 0, 5, .inl t0f)), (t1, .inl (y 0, 5, .inl t1f)), (t2, .inl (y 0, 5, .inl t2f)), (t3, .inl (y 0, 5, .inl t3f)), (t4, .inl (y 0, 5, .inl t4f)), (t5, .inl (y 0, 5, .inl t5f))]) 0 0 := by
  refine kw_Mi.of (cc := cX4_notesFit) (maxL := 5) (ret := (some .boolean)) (by decide) rfl ?_
  intro pZ eZ s mZ beZ meZ cZ A hE
  obtain ⟨hx, hb, hr, hml, hts, hown, hlocks, hin, hA, hP, hD, hK, hN⟩ := hE
  have hS : va_S A s.heap s.heap [] := va_S.rf
  have hl := lv_entry ([.ref nw, .int x, .ref o]) (n := 5) (Nat.le_of_ble_eq_true rfl)
  rw [lg_entry_eq]
  generalize (lg_sl ([.ref nw, .int x, .ref o]) ++ List.replicate (5 - (lg_sl ([.ref nw, .int x, .ref o])).length) Slot.unset).toArray = ls at hl ⊢
  have hl : lv_has ls 5 [(0, .ref nw), (1, .int x), (2, .ref o)] := hl
  have fw1 := hts (.fieldLink RX4 51 "GleanDusk$Parish" "noteCount" "I") (List.mem_of_getElem? (i := 1) rfl)
  have fw2 := hts (.fieldLink RX4 31 "GleanDusk$Parish" "notes" "[[I") (List.mem_of_getElem? (i := 2) rfl)
  have iw4 : ∀ w ∈ wsX40, w ∈ wsX4_notesFit := fun _ h => List.mem_cons_of_mem _ (List.mem_append_right _ h)
  refine lv_iconst (v := 0) hx hb dX4_notesFit_0 (by decide) ?_
  refine lv_istore_n (lv' := [(3, .int 0), (0, .ref nw), (1, .int x), (2, .ref o)]) hx hb dX4_notesFit_1 rfl hl (by decide) rfl (fun ls hl => ?_)
  have lp45 : ∀ (fuj91 j91 : Nat)  (H : Heap) (locs : List Loc) (ls : Array Slot), j91 ≤ no → no - j91 < fuj91 → va_P D vwCl [(nw, .inr (4, [.ref kk, .ref nk, .ref nd, .ref ne, .ref nm, .ref nn, .int (nI fi), .int (nI gl), .int (nI un), .int (nI mi), .int (nI no)])), (o, .inr (9, [])), (nn, .inl (y 6, 6, .inr (.inr (.inr (.inr fn_))))), (t0, .inl (y 0, 5, .inl t0f)), (t1, .inl (y 0, 5, .inl t1f)), (t2, .inl (y 0, 5, .inl t2f)), (t3, .inl (y 0, 5, .inl t3f)), (t4, .inl (y 0, 5, .inl t4f)), (t5, .inl (y 0, 5, .inl t5f))] H → va_D A [(nw, .inr (4, [.ref kk, .ref nk, .ref nd, .ref ne, .ref nm, .ref nn, .int (nI fi), .int (nI gl), .int (nI un), .int (nI mi), .int (nI no)])), (o, .inr (9, [])), (nn, .inl (y 6, 6, .inr (.inr (.inr (.inr fn_))))), (t0, .inl (y 0, 5, .inl t0f)), (t1, .inl (y 0, 5, .inl t1f)), (t2, .inl (y 0, 5, .inl t2f)), (t3, .inl (y 0, 5, .inl t3f)), (t4, .inl (y 0, 5, .inl t4f)), (t5, .inl (y 0, 5, .inl t5f))] → va_S A s.heap H locs → lv_has ls 5 [(3, .int (nI j91)), (0, .ref nw), (1, .int x), (2, .ref o)] → W pZ l eZ ({ frames := 3, cells := 0, slots := 0, locals := 106 }) s mZ [.ref nw, .int x, .ref o].toArray beZ meZ cZ H locs 0 0 (MQ beZ (va_Qi (fun (r : Int32) (u : Unit) => (r = 0 ∨ r = 1)) (kw_B D (fun _ => [(nw, .inr (4, [.ref kk, .ref nk, .ref nd, .ref ne, .ref nm, .ref nn, .int (nI fi), .int (nI gl), .int (nI un), .int (nI mi), .int (nI no)])), (o, .inr (9, [])), (nn, .inl (y 6, 6, .inr (.inr (.inr (.inr fn_))))), (t0, .inl (y 0, 5, .inl t0f)), (t1, .inl (y 0, 5, .inl t1f)), (t2, .inl (y 0, 5, .inl t2f)), (t3, .inl (y 0, 5, .inl t3f)), (t4, .inl (y 0, 5, .inl t4f)), (t5, .inl (y 0, 5, .inl t5f))]) A) A) [.ref nw, .int x, .ref o].toArray s 0 0 A) (F0 mZ 2 ls []) := by
    intro fuj91
    induction fuj91 with
    | zero => intro j91  H locs ls hj9 hf9; exact absurd hf9 (Nat.not_lt_zero _)
    | succ fuj91 ihj91 =>
      intro j91  H locs ls hj91 hfj91  hP hD hS hl
      refine lv_iload_n hx hb dX4_notesFit_2 rfl (lv_at hl 0 rfl) ?_
      refine lv_aload_n hx hb dX4_notesFit_3 rfl (lv_at hl 1 rfl) ?_
      refine va_get (D := D) (ci := 4) (v := .int (nI no)) (C := RX4) (T := TX4) (N := 11) hx hb hts iw4 hown hK hP 0 rfl rfl 10 (by decide) fw1 (fun _ h9 => h9) rfl dX4_notesFit_4 ?_
      refine lv_icmp_ge (tgt := 57) hx hb dX4_notesFit_7 (by decide) (fun h46 => ?_) (fun h47 => ?_)
      · skip
        have h46 : no ≤ j91 := (nI_leI (a := no) (b := j91) (by omega) (by omega)).mp h46
        refine lv_iconst (v := 1) hx hb dX4_notesFit_57 (by decide) ?_
        exact W.zret (v := 1) hx hb hr (by decide) (fun tZ ht hW => ⟨⟨1, (), rfl, Or.inr rfl, by rw [ht]; exact hP.sub [0, 1, 2, 3, 4, 5, 6, 7, 8] rfl, hD.sub [0, 1, 2, 3, 4, 5, 6, 7, 8] (by decide) rfl⟩, hS.F ht⟩) hS.2.2 dX4_notesFit_58
      · skip
        have h47 : ¬ no ≤ j91 := fun q9 => h47 ((nI_leI (a := no) (b := j91) (by omega) (by omega)).mpr q9)
        refine lv_aload_n hx hb dX4_notesFit_10 rfl (lv_at hl 1 rfl) ?_
        refine va_get (D := D) (ci := 4) (v := .ref nn) (C := RX4) (T := TX4) (N := 11) hx hb hts iw4 hown hK hP 0 rfl rfl 5 (by decide) fw2 (fun _ h9 => h9) rfl dX4_notesFit_11 ?_
        refine lv_iload_n hx hb dX4_notesFit_14 rfl (lv_at hl 0 rfl) ?_
        rcases (show j91 = 0 ∨ j91 = 1 ∨ j91 = 2 ∨ j91 = 3 ∨ j91 = 4 ∨ j91 = 5 by omega) with rfl | rfl | rfl | rfl | rfl | rfl
        · skip
          refine kw_aldQ hx hb hK hP 2 6 rfl rfl (vp_in_nI (by omega) (by decide)) dX4_notesFit_15 ?_
          rw [nI_clamp (n := 0) (by omega), show va_rf (fn_ 0) = .ref t0 from congrArg va_rf hn0]
          refine lv_astore (lv' := [(4, .ref t0), (3, .int (nI 0)), (0, .ref nw), (1, .int x), (2, .ref o)]) hx hb dX4_notesFit_16 hl (by decide) rfl (fun ls hl => ?_)
          refine lv_aload hx hb dX4_notesFit_18 (lv_at hl 0 rfl) ?_
          refine lv_iconst (v := 0) hx hb dX4_notesFit_20 (by decide) ?_
          refine va_iald hx hb hK hP 3 0 rfl rfl (by unfold vp_in; decide) dX4_notesFit_21 ?_
          rw [show ((0 : Int32)).toNatClampNeg = 0 from rfl]
          refine lv_iload_n hx hb dX4_notesFit_22 rfl (lv_at hl 3 rfl) ?_
          refine lv_icmp_ne (tgt := 51) hx hb dX4_notesFit_23 (by decide) (fun h48 => ?_) (fun h49 => ?_)
          · skip
            refine lv_iinc (v := (nI 1)) (lv' := [(3, .int (nI 1)), (4, .ref t0), (0, .ref nw), (1, .int x), (2, .ref o)]) hx hb dX4_notesFit_51 hl (k := 1) rfl (nI_1 0) (by decide) rfl (fun ls hl => ?_)
            refine lv_goto (tgt := 2) hx hb dX4_notesFit_54 (by decide) ?_
            exact ihj91 1  H locs ls (by omega) (by omega)  (hP.sub [0, 1, 2, 3, 4, 5, 6, 7, 8] rfl) (hD.sub [0, 1, 2, 3, 4, 5, 6, 7, 8] (by decide) rfl) hS (lv_sub hl [0, 2, 3, 4] rfl)
          · skip
            refine lv_aload_n hx hb dX4_notesFit_26 rfl (lv_at hl 4 rfl) ?_
            refine lv_aload hx hb dX4_notesFit_27 (lv_at hl 0 rfl) ?_
            refine lv_iconst (v := 1) hx hb dX4_notesFit_29 (by decide) ?_
            refine va_iald hx hb hK hP 3 0 rfl rfl (by unfold vp_in; decide) dX4_notesFit_30 ?_
            rw [show ((1 : Int32)).toNatClampNeg = 1 from rfl]
            refine lv_aload hx hb dX4_notesFit_31 (lv_at hl 0 rfl) ?_
            refine lv_iconst (v := 2) hx hb dX4_notesFit_33 (by decide) ?_
            refine va_iald hx hb hK hP 3 0 rfl rfl (by unfold vp_in; decide) dX4_notesFit_34 ?_
            rw [show ((2 : Int32)).toNatClampNeg = 2 from rfl]
            refine lv_aload hx hb dX4_notesFit_35 (lv_at hl 0 rfl) ?_
            refine lv_iconst (v := 3) hx hb dX4_notesFit_37 (by decide) ?_
            refine va_iald hx hb hK hP 3 0 rfl rfl (by unfold vp_in; decide) dX4_notesFit_38 ?_
            rw [show ((3 : Int32)).toNatClampNeg = 3 from rfl]
            have hs50 : kw_Split [(nw, .inr (4, [.ref kk, .ref nk, .ref nd, .ref ne, .ref nm, .ref nn, .int (nI fi), .int (nI gl), .int (nI un), .int (nI mi), .int (nI no)])), (o, .inr (9, [])), (nn, .inl (y 6, 6, .inr (.inr (.inr (.inr fn_))))), (t0, .inl (y 0, 5, .inl t0f)), (t1, .inl (y 0, 5, .inl t1f)), (t2, .inl (y 0, 5, .inl t2f)), (t3, .inl (y 0, 5, .inl t3f)), (t4, .inl (y 0, 5, .inl t4f)), (t5, .inl (y 0, 5, .inl t5f))] [(o, .inr (9, []))] [(nw, .inr (4, [.ref kk, .ref nk, .ref nd, .ref ne, .ref nm, .ref nn, .int (nI fi), .int (nI gl), .int (nI un), .int (nI mi), .int (nI no)])), (nn, .inl (y 6, 6, .inr (.inr (.inr (.inr fn_))))), (t0, .inl (y 0, 5, .inl t0f)), (t1, .inl (y 0, 5, .inl t1f)), (t2, .inl (y 0, 5, .inl t2f)), (t3, .inl (y 0, 5, .inl t3f)), (t4, .inl (y 0, 5, .inl t4f)), (t5, .inl (y 0, 5, .inl t5f))] [1] [0, 2, 3, 4, 5, 6, 7, 8] := ⟨rfl, rfl, rfl, rfl, rfl, by decide⟩
            refine kw_go_i hs50 hP hD hS hA (va_runU (As := [.int (t0f 1), .int (t0f 2), .int (t0f 3)]) (rest := []) ⟨hx, hb, hml, hown, hts⟩ (gc_Wood_on9 l D y o (t0f 1) (t0f 2) (t0f 3)  _) (va_cwO 3 hts gX4_notesFit_X9_sight_u89X9 rfl rfl rfl (List.mem_of_getElem? (i := 24) rfl) (by decide +kernel) ⟨Nat.le_of_ble_eq_true rfl, Nat.le_of_ble_eq_true rfl⟩) (kw_PreV (ci := 9) (q0 := 1) hs50 hP hD hK hN rfl rfl) rfl rfl hl.1 rfl (lv_room (Nat.le_of_ble_eq_true rfl)) dX4_notesFit_39 ⟨Nat.le_of_ble_eq_true rfl, Nat.le_of_ble_eq_true rfl⟩) (fun r51 u52 H locs hq hP hD hS => ?_)
            obtain rfl := hq
            have hP : va_P D vwCl [(nw, .inr (4, [.ref kk, .ref nk, .ref nd, .ref ne, .ref nm, .ref nn, .int (nI fi), .int (nI gl), .int (nI un), .int (nI mi), .int (nI no)])), (nn, .inl (y 6, 6, .inr (.inr (.inr (.inr fn_))))), (t0, .inl (y 0, 5, .inl t0f)), (t1, .inl (y 0, 5, .inl t1f)), (t2, .inl (y 0, 5, .inl t2f)), (t3, .inl (y 0, 5, .inl t3f)), (t4, .inl (y 0, 5, .inl t4f)), (t5, .inl (y 0, 5, .inl t5f)), (o, .inr (9, []))] H := hP
            have hD : va_D A [(nw, .inr (4, [.ref kk, .ref nk, .ref nd, .ref ne, .ref nm, .ref nn, .int (nI fi), .int (nI gl), .int (nI un), .int (nI mi), .int (nI no)])), (nn, .inl (y 6, 6, .inr (.inr (.inr (.inr fn_))))), (t0, .inl (y 0, 5, .inl t0f)), (t1, .inl (y 0, 5, .inl t1f)), (t2, .inl (y 0, 5, .inl t2f)), (t3, .inl (y 0, 5, .inl t3f)), (t4, .inl (y 0, 5, .inl t4f)), (t5, .inl (y 0, 5, .inl t5f)), (o, .inr (9, []))] := hD
            refine lv_aload hx hb dX4_notesFit_42 (lv_at hl 0 rfl) ?_
            refine lv_iconst (v := 4) hx hb dX4_notesFit_44 (by decide) ?_
            refine va_iald hx hb hK hP 2 0 rfl rfl (by unfold vp_in; decide) dX4_notesFit_45 ?_
            rw [show ((4 : Int32)).toNatClampNeg = 4 from rfl]
            refine lv_icmp_eq (tgt := 51) hx hb dX4_notesFit_46 (by decide) (fun h53 => ?_) (fun h54 => ?_)
            · skip
              refine lv_iinc (v := (nI 1)) (lv' := [(3, .int (nI 1)), (4, .ref t0), (0, .ref nw), (1, .int x), (2, .ref o)]) hx hb dX4_notesFit_51 hl (k := 1) rfl (nI_1 0) (by decide) rfl (fun ls hl => ?_)
              refine lv_goto (tgt := 2) hx hb dX4_notesFit_54 (by decide) ?_
              exact ihj91 1  H locs ls (by omega) (by omega)  (hP.sub [0, 8, 1, 2, 3, 4, 5, 6, 7] rfl) (hD.sub [0, 8, 1, 2, 3, 4, 5, 6, 7] (by decide) rfl) hS (lv_sub hl [0, 2, 3, 4] rfl)
            · skip
              refine lv_iconst (v := 0) hx hb dX4_notesFit_49 (by decide) ?_
              exact W.zret (v := 0) hx hb hr (by decide) (fun tZ ht hW => ⟨⟨0, (), rfl, Or.inl rfl, by rw [ht]; exact hP.sub [0, 8, 1, 2, 3, 4, 5, 6, 7] rfl, hD.sub [0, 8, 1, 2, 3, 4, 5, 6, 7] (by decide) rfl⟩, hS.F ht⟩) hS.2.2 dX4_notesFit_50
        · skip
          refine kw_aldQ hx hb hK hP 2 6 rfl rfl (vp_in_nI (by omega) (by decide)) dX4_notesFit_15 ?_
          rw [nI_clamp (n := 1) (by omega), show va_rf (fn_ 1) = .ref t1 from congrArg va_rf hn1]
          refine lv_astore (lv' := [(4, .ref t1), (3, .int (nI 1)), (0, .ref nw), (1, .int x), (2, .ref o)]) hx hb dX4_notesFit_16 hl (by decide) rfl (fun ls hl => ?_)
          refine lv_aload hx hb dX4_notesFit_18 (lv_at hl 0 rfl) ?_
          refine lv_iconst (v := 0) hx hb dX4_notesFit_20 (by decide) ?_
          refine va_iald hx hb hK hP 4 0 rfl rfl (by unfold vp_in; decide) dX4_notesFit_21 ?_
          rw [show ((0 : Int32)).toNatClampNeg = 0 from rfl]
          refine lv_iload_n hx hb dX4_notesFit_22 rfl (lv_at hl 3 rfl) ?_
          refine lv_icmp_ne (tgt := 51) hx hb dX4_notesFit_23 (by decide) (fun h55 => ?_) (fun h56 => ?_)
          · skip
            refine lv_iinc (v := (nI 2)) (lv' := [(3, .int (nI 2)), (4, .ref t1), (0, .ref nw), (1, .int x), (2, .ref o)]) hx hb dX4_notesFit_51 hl (k := 1) rfl (nI_1 1) (by decide) rfl (fun ls hl => ?_)
            refine lv_goto (tgt := 2) hx hb dX4_notesFit_54 (by decide) ?_
            exact ihj91 2  H locs ls (by omega) (by omega)  (hP.sub [0, 1, 2, 3, 4, 5, 6, 7, 8] rfl) (hD.sub [0, 1, 2, 3, 4, 5, 6, 7, 8] (by decide) rfl) hS (lv_sub hl [0, 2, 3, 4] rfl)
          · skip
            refine lv_aload_n hx hb dX4_notesFit_26 rfl (lv_at hl 4 rfl) ?_
            refine lv_aload hx hb dX4_notesFit_27 (lv_at hl 0 rfl) ?_
            refine lv_iconst (v := 1) hx hb dX4_notesFit_29 (by decide) ?_
            refine va_iald hx hb hK hP 4 0 rfl rfl (by unfold vp_in; decide) dX4_notesFit_30 ?_
            rw [show ((1 : Int32)).toNatClampNeg = 1 from rfl]
            refine lv_aload hx hb dX4_notesFit_31 (lv_at hl 0 rfl) ?_
            refine lv_iconst (v := 2) hx hb dX4_notesFit_33 (by decide) ?_
            refine va_iald hx hb hK hP 4 0 rfl rfl (by unfold vp_in; decide) dX4_notesFit_34 ?_
            rw [show ((2 : Int32)).toNatClampNeg = 2 from rfl]
            refine lv_aload hx hb dX4_notesFit_35 (lv_at hl 0 rfl) ?_
            refine lv_iconst (v := 3) hx hb dX4_notesFit_37 (by decide) ?_
            refine va_iald hx hb hK hP 4 0 rfl rfl (by unfold vp_in; decide) dX4_notesFit_38 ?_
            rw [show ((3 : Int32)).toNatClampNeg = 3 from rfl]
            have hs57 : kw_Split [(nw, .inr (4, [.ref kk, .ref nk, .ref nd, .ref ne, .ref nm, .ref nn, .int (nI fi), .int (nI gl), .int (nI un), .int (nI mi), .int (nI no)])), (o, .inr (9, [])), (nn, .inl (y 6, 6, .inr (.inr (.inr (.inr fn_))))), (t0, .inl (y 0, 5, .inl t0f)), (t1, .inl (y 0, 5, .inl t1f)), (t2, .inl (y 0, 5, .inl t2f)), (t3, .inl (y 0, 5, .inl t3f)), (t4, .inl (y 0, 5, .inl t4f)), (t5, .inl (y 0, 5, .inl t5f))] [(o, .inr (9, []))] [(nw, .inr (4, [.ref kk, .ref nk, .ref nd, .ref ne, .ref nm, .ref nn, .int (nI fi), .int (nI gl), .int (nI un), .int (nI mi), .int (nI no)])), (nn, .inl (y 6, 6, .inr (.inr (.inr (.inr fn_))))), (t0, .inl (y 0, 5, .inl t0f)), (t1, .inl (y 0, 5, .inl t1f)), (t2, .inl (y 0, 5, .inl t2f)), (t3, .inl (y 0, 5, .inl t3f)), (t4, .inl (y 0, 5, .inl t4f)), (t5, .inl (y 0, 5, .inl t5f))] [1] [0, 2, 3, 4, 5, 6, 7, 8] := ⟨rfl, rfl, rfl, rfl, rfl, by decide⟩
            refine kw_go_i hs57 hP hD hS hA (va_runU (As := [.int (t1f 1), .int (t1f 2), .int (t1f 3)]) (rest := []) ⟨hx, hb, hml, hown, hts⟩ (gc_Wood_on9 l D y o (t1f 1) (t1f 2) (t1f 3)  _) (va_cwO 3 hts gX4_notesFit_X9_sight_u89X9 rfl rfl rfl (List.mem_of_getElem? (i := 24) rfl) (by decide +kernel) ⟨Nat.le_of_ble_eq_true rfl, Nat.le_of_ble_eq_true rfl⟩) (kw_PreV (ci := 9) (q0 := 1) hs57 hP hD hK hN rfl rfl) rfl rfl hl.1 rfl (lv_room (Nat.le_of_ble_eq_true rfl)) dX4_notesFit_39 ⟨Nat.le_of_ble_eq_true rfl, Nat.le_of_ble_eq_true rfl⟩) (fun r58 u59 H locs hq hP hD hS => ?_)
            obtain rfl := hq
            have hP : va_P D vwCl [(nw, .inr (4, [.ref kk, .ref nk, .ref nd, .ref ne, .ref nm, .ref nn, .int (nI fi), .int (nI gl), .int (nI un), .int (nI mi), .int (nI no)])), (nn, .inl (y 6, 6, .inr (.inr (.inr (.inr fn_))))), (t0, .inl (y 0, 5, .inl t0f)), (t1, .inl (y 0, 5, .inl t1f)), (t2, .inl (y 0, 5, .inl t2f)), (t3, .inl (y 0, 5, .inl t3f)), (t4, .inl (y 0, 5, .inl t4f)), (t5, .inl (y 0, 5, .inl t5f)), (o, .inr (9, []))] H := hP
            have hD : va_D A [(nw, .inr (4, [.ref kk, .ref nk, .ref nd, .ref ne, .ref nm, .ref nn, .int (nI fi), .int (nI gl), .int (nI un), .int (nI mi), .int (nI no)])), (nn, .inl (y 6, 6, .inr (.inr (.inr (.inr fn_))))), (t0, .inl (y 0, 5, .inl t0f)), (t1, .inl (y 0, 5, .inl t1f)), (t2, .inl (y 0, 5, .inl t2f)), (t3, .inl (y 0, 5, .inl t3f)), (t4, .inl (y 0, 5, .inl t4f)), (t5, .inl (y 0, 5, .inl t5f)), (o, .inr (9, []))] := hD
            refine lv_aload hx hb dX4_notesFit_42 (lv_at hl 0 rfl) ?_
            refine lv_iconst (v := 4) hx hb dX4_notesFit_44 (by decide) ?_
            refine va_iald hx hb hK hP 3 0 rfl rfl (by unfold vp_in; decide) dX4_notesFit_45 ?_
            rw [show ((4 : Int32)).toNatClampNeg = 4 from rfl]
            refine lv_icmp_eq (tgt := 51) hx hb dX4_notesFit_46 (by decide) (fun h60 => ?_) (fun h61 => ?_)
            · skip
              refine lv_iinc (v := (nI 2)) (lv' := [(3, .int (nI 2)), (4, .ref t1), (0, .ref nw), (1, .int x), (2, .ref o)]) hx hb dX4_notesFit_51 hl (k := 1) rfl (nI_1 1) (by decide) rfl (fun ls hl => ?_)
              refine lv_goto (tgt := 2) hx hb dX4_notesFit_54 (by decide) ?_
              exact ihj91 2  H locs ls (by omega) (by omega)  (hP.sub [0, 8, 1, 2, 3, 4, 5, 6, 7] rfl) (hD.sub [0, 8, 1, 2, 3, 4, 5, 6, 7] (by decide) rfl) hS (lv_sub hl [0, 2, 3, 4] rfl)
            · skip
              refine lv_iconst (v := 0) hx hb dX4_notesFit_49 (by decide) ?_
              exact W.zret (v := 0) hx hb hr (by decide) (fun tZ ht hW => ⟨⟨0, (), rfl, Or.inl rfl, by rw [ht]; exact hP.sub [0, 8, 1, 2, 3, 4, 5, 6, 7] rfl, hD.sub [0, 8, 1, 2, 3, 4, 5, 6, 7] (by decide) rfl⟩, hS.F ht⟩) hS.2.2 dX4_notesFit_50
        · skip
          refine kw_aldQ hx hb hK hP 2 6 rfl rfl (vp_in_nI (by omega) (by decide)) dX4_notesFit_15 ?_
          rw [nI_clamp (n := 2) (by omega), show va_rf (fn_ 2) = .ref t2 from congrArg va_rf hn2]
          refine lv_astore (lv' := [(4, .ref t2), (3, .int (nI 2)), (0, .ref nw), (1, .int x), (2, .ref o)]) hx hb dX4_notesFit_16 hl (by decide) rfl (fun ls hl => ?_)
          refine lv_aload hx hb dX4_notesFit_18 (lv_at hl 0 rfl) ?_
          refine lv_iconst (v := 0) hx hb dX4_notesFit_20 (by decide) ?_
          refine va_iald hx hb hK hP 5 0 rfl rfl (by unfold vp_in; decide) dX4_notesFit_21 ?_
          rw [show ((0 : Int32)).toNatClampNeg = 0 from rfl]
          refine lv_iload_n hx hb dX4_notesFit_22 rfl (lv_at hl 3 rfl) ?_
          refine lv_icmp_ne (tgt := 51) hx hb dX4_notesFit_23 (by decide) (fun h62 => ?_) (fun h63 => ?_)
          · skip
            refine lv_iinc (v := (nI 3)) (lv' := [(3, .int (nI 3)), (4, .ref t2), (0, .ref nw), (1, .int x), (2, .ref o)]) hx hb dX4_notesFit_51 hl (k := 1) rfl (nI_1 2) (by decide) rfl (fun ls hl => ?_)
            refine lv_goto (tgt := 2) hx hb dX4_notesFit_54 (by decide) ?_
            exact ihj91 3  H locs ls (by omega) (by omega)  (hP.sub [0, 1, 2, 3, 4, 5, 6, 7, 8] rfl) (hD.sub [0, 1, 2, 3, 4, 5, 6, 7, 8] (by decide) rfl) hS (lv_sub hl [0, 2, 3, 4] rfl)
          · skip
            refine lv_aload_n hx hb dX4_notesFit_26 rfl (lv_at hl 4 rfl) ?_
            refine lv_aload hx hb dX4_notesFit_27 (lv_at hl 0 rfl) ?_
            refine lv_iconst (v := 1) hx hb dX4_notesFit_29 (by decide) ?_
            refine va_iald hx hb hK hP 5 0 rfl rfl (by unfold vp_in; decide) dX4_notesFit_30 ?_
            rw [show ((1 : Int32)).toNatClampNeg = 1 from rfl]
            refine lv_aload hx hb dX4_notesFit_31 (lv_at hl 0 rfl) ?_
            refine lv_iconst (v := 2) hx hb dX4_notesFit_33 (by decide) ?_
            refine va_iald hx hb hK hP 5 0 rfl rfl (by unfold vp_in; decide) dX4_notesFit_34 ?_
            rw [show ((2 : Int32)).toNatClampNeg = 2 from rfl]
            refine lv_aload hx hb dX4_notesFit_35 (lv_at hl 0 rfl) ?_
            refine lv_iconst (v := 3) hx hb dX4_notesFit_37 (by decide) ?_
            refine va_iald hx hb hK hP 5 0 rfl rfl (by unfold vp_in; decide) dX4_notesFit_38 ?_
            rw [show ((3 : Int32)).toNatClampNeg = 3 from rfl]
            have hs64 : kw_Split [(nw, .inr (4, [.ref kk, .ref nk, .ref nd, .ref ne, .ref nm, .ref nn, .int (nI fi), .int (nI gl), .int (nI un), .int (nI mi), .int (nI no)])), (o, .inr (9, [])), (nn, .inl (y 6, 6, .inr (.inr (.inr (.inr fn_))))), (t0, .inl (y 0, 5, .inl t0f)), (t1, .inl (y 0, 5, .inl t1f)), (t2, .inl (y 0, 5, .inl t2f)), (t3, .inl (y 0, 5, .inl t3f)), (t4, .inl (y 0, 5, .inl t4f)), (t5, .inl (y 0, 5, .inl t5f))] [(o, .inr (9, []))] [(nw, .inr (4, [.ref kk, .ref nk, .ref nd, .ref ne, .ref nm, .ref nn, .int (nI fi), .int (nI gl), .int (nI un), .int (nI mi), .int (nI no)])), (nn, .inl (y 6, 6, .inr (.inr (.inr (.inr fn_))))), (t0, .inl (y 0, 5, .inl t0f)), (t1, .inl (y 0, 5, .inl t1f)), (t2, .inl (y 0, 5, .inl t2f)), (t3, .inl (y 0, 5, .inl t3f)), (t4, .inl (y 0, 5, .inl t4f)), (t5, .inl (y 0, 5, .inl t5f))] [1] [0, 2, 3, 4, 5, 6, 7, 8] := ⟨rfl, rfl, rfl, rfl, rfl, by decide⟩
            refine kw_go_i hs64 hP hD hS hA (va_runU (As := [.int (t2f 1), .int (t2f 2), .int (t2f 3)]) (rest := []) ⟨hx, hb, hml, hown, hts⟩ (gc_Wood_on9 l D y o (t2f 1) (t2f 2) (t2f 3)  _) (va_cwO 3 hts gX4_notesFit_X9_sight_u89X9 rfl rfl rfl (List.mem_of_getElem? (i := 24) rfl) (by decide +kernel) ⟨Nat.le_of_ble_eq_true rfl, Nat.le_of_ble_eq_true rfl⟩) (kw_PreV (ci := 9) (q0 := 1) hs64 hP hD hK hN rfl rfl) rfl rfl hl.1 rfl (lv_room (Nat.le_of_ble_eq_true rfl)) dX4_notesFit_39 ⟨Nat.le_of_ble_eq_true rfl, Nat.le_of_ble_eq_true rfl⟩) (fun r65 u66 H locs hq hP hD hS => ?_)
            obtain rfl := hq
            have hP : va_P D vwCl [(nw, .inr (4, [.ref kk, .ref nk, .ref nd, .ref ne, .ref nm, .ref nn, .int (nI fi), .int (nI gl), .int (nI un), .int (nI mi), .int (nI no)])), (nn, .inl (y 6, 6, .inr (.inr (.inr (.inr fn_))))), (t0, .inl (y 0, 5, .inl t0f)), (t1, .inl (y 0, 5, .inl t1f)), (t2, .inl (y 0, 5, .inl t2f)), (t3, .inl (y 0, 5, .inl t3f)), (t4, .inl (y 0, 5, .inl t4f)), (t5, .inl (y 0, 5, .inl t5f)), (o, .inr (9, []))] H := hP
            have hD : va_D A [(nw, .inr (4, [.ref kk, .ref nk, .ref nd, .ref ne, .ref nm, .ref nn, .int (nI fi), .int (nI gl), .int (nI un), .int (nI mi), .int (nI no)])), (nn, .inl (y 6, 6, .inr (.inr (.inr (.inr fn_))))), (t0, .inl (y 0, 5, .inl t0f)), (t1, .inl (y 0, 5, .inl t1f)), (t2, .inl (y 0, 5, .inl t2f)), (t3, .inl (y 0, 5, .inl t3f)), (t4, .inl (y 0, 5, .inl t4f)), (t5, .inl (y 0, 5, .inl t5f)), (o, .inr (9, []))] := hD
            refine lv_aload hx hb dX4_notesFit_42 (lv_at hl 0 rfl) ?_
            refine lv_iconst (v := 4) hx hb dX4_notesFit_44 (by decide) ?_
            refine va_iald hx hb hK hP 4 0 rfl rfl (by unfold vp_in; decide) dX4_notesFit_45 ?_
            rw [show ((4 : Int32)).toNatClampNeg = 4 from rfl]
            refine lv_icmp_eq (tgt := 51) hx hb dX4_notesFit_46 (by decide) (fun h67 => ?_) (fun h68 => ?_)
            · skip
              refine lv_iinc (v := (nI 3)) (lv' := [(3, .int (nI 3)), (4, .ref t2), (0, .ref nw), (1, .int x), (2, .ref o)]) hx hb dX4_notesFit_51 hl (k := 1) rfl (nI_1 2) (by decide) rfl (fun ls hl => ?_)
              refine lv_goto (tgt := 2) hx hb dX4_notesFit_54 (by decide) ?_
              exact ihj91 3  H locs ls (by omega) (by omega)  (hP.sub [0, 8, 1, 2, 3, 4, 5, 6, 7] rfl) (hD.sub [0, 8, 1, 2, 3, 4, 5, 6, 7] (by decide) rfl) hS (lv_sub hl [0, 2, 3, 4] rfl)
            · skip
              refine lv_iconst (v := 0) hx hb dX4_notesFit_49 (by decide) ?_
              exact W.zret (v := 0) hx hb hr (by decide) (fun tZ ht hW => ⟨⟨0, (), rfl, Or.inl rfl, by rw [ht]; exact hP.sub [0, 8, 1, 2, 3, 4, 5, 6, 7] rfl, hD.sub [0, 8, 1, 2, 3, 4, 5, 6, 7] (by decide) rfl⟩, hS.F ht⟩) hS.2.2 dX4_notesFit_50
        · skip
          refine kw_aldQ hx hb hK hP 2 6 rfl rfl (vp_in_nI (by omega) (by decide)) dX4_notesFit_15 ?_
          rw [nI_clamp (n := 3) (by omega), show va_rf (fn_ 3) = .ref t3 from congrArg va_rf hn3]
          refine lv_astore (lv' := [(4, .ref t3), (3, .int (nI 3)), (0, .ref nw), (1, .int x), (2, .ref o)]) hx hb dX4_notesFit_16 hl (by decide) rfl (fun ls hl => ?_)
          refine lv_aload hx hb dX4_notesFit_18 (lv_at hl 0 rfl) ?_
          refine lv_iconst (v := 0) hx hb dX4_notesFit_20 (by decide) ?_
          refine va_iald hx hb hK hP 6 0 rfl rfl (by unfold vp_in; decide) dX4_notesFit_21 ?_
          rw [show ((0 : Int32)).toNatClampNeg = 0 from rfl]
          refine lv_iload_n hx hb dX4_notesFit_22 rfl (lv_at hl 3 rfl) ?_
          refine lv_icmp_ne (tgt := 51) hx hb dX4_notesFit_23 (by decide) (fun h69 => ?_) (fun h70 => ?_)
          · skip
            refine lv_iinc (v := (nI 4)) (lv' := [(3, .int (nI 4)), (4, .ref t3), (0, .ref nw), (1, .int x), (2, .ref o)]) hx hb dX4_notesFit_51 hl (k := 1) rfl (nI_1 3) (by decide) rfl (fun ls hl => ?_)
            refine lv_goto (tgt := 2) hx hb dX4_notesFit_54 (by decide) ?_
            exact ihj91 4  H locs ls (by omega) (by omega)  (hP.sub [0, 1, 2, 3, 4, 5, 6, 7, 8] rfl) (hD.sub [0, 1, 2, 3, 4, 5, 6, 7, 8] (by decide) rfl) hS (lv_sub hl [0, 2, 3, 4] rfl)
          · skip
            refine lv_aload_n hx hb dX4_notesFit_26 rfl (lv_at hl 4 rfl) ?_
            refine lv_aload hx hb dX4_notesFit_27 (lv_at hl 0 rfl) ?_
            refine lv_iconst (v := 1) hx hb dX4_notesFit_29 (by decide) ?_
            refine va_iald hx hb hK hP 6 0 rfl rfl (by unfold vp_in; decide) dX4_notesFit_30 ?_
            rw [show ((1 : Int32)).toNatClampNeg = 1 from rfl]
            refine lv_aload hx hb dX4_notesFit_31 (lv_at hl 0 rfl) ?_
            refine lv_iconst (v := 2) hx hb dX4_notesFit_33 (by decide) ?_
            refine va_iald hx hb hK hP 6 0 rfl rfl (by unfold vp_in; decide) dX4_notesFit_34 ?_
            rw [show ((2 : Int32)).toNatClampNeg = 2 from rfl]
            refine lv_aload hx hb dX4_notesFit_35 (lv_at hl 0 rfl) ?_
            refine lv_iconst (v := 3) hx hb dX4_notesFit_37 (by decide) ?_
            refine va_iald hx hb hK hP 6 0 rfl rfl (by unfold vp_in; decide) dX4_notesFit_38 ?_
            rw [show ((3 : Int32)).toNatClampNeg = 3 from rfl]
            have hs71 : kw_Split [(nw, .inr (4, [.ref kk, .ref nk, .ref nd, .ref ne, .ref nm, .ref nn, .int (nI fi), .int (nI gl), .int (nI un), .int (nI mi), .int (nI no)])), (o, .inr (9, [])), (nn, .inl (y 6, 6, .inr (.inr (.inr (.inr fn_))))), (t0, .inl (y 0, 5, .inl t0f)), (t1, .inl (y 0, 5, .inl t1f)), (t2, .inl (y 0, 5, .inl t2f)), (t3, .inl (y 0, 5, .inl t3f)), (t4, .inl (y 0, 5, .inl t4f)), (t5, .inl (y 0, 5, .inl t5f))] [(o, .inr (9, []))] [(nw, .inr (4, [.ref kk, .ref nk, .ref nd, .ref ne, .ref nm, .ref nn, .int (nI fi), .int (nI gl), .int (nI un), .int (nI mi), .int (nI no)])), (nn, .inl (y 6, 6, .inr (.inr (.inr (.inr fn_))))), (t0, .inl (y 0, 5, .inl t0f)), (t1, .inl (y 0, 5, .inl t1f)), (t2, .inl (y 0, 5, .inl t2f)), (t3, .inl (y 0, 5, .inl t3f)), (t4, .inl (y 0, 5, .inl t4f)), (t5, .inl (y 0, 5, .inl t5f))] [1] [0, 2, 3, 4, 5, 6, 7, 8] := ⟨rfl, rfl, rfl, rfl, rfl, by decide⟩
            refine kw_go_i hs71 hP hD hS hA (va_runU (As := [.int (t3f 1), .int (t3f 2), .int (t3f 3)]) (rest := []) ⟨hx, hb, hml, hown, hts⟩ (gc_Wood_on9 l D y o (t3f 1) (t3f 2) (t3f 3)  _) (va_cwO 3 hts gX4_notesFit_X9_sight_u89X9 rfl rfl rfl (List.mem_of_getElem? (i := 24) rfl) (by decide +kernel) ⟨Nat.le_of_ble_eq_true rfl, Nat.le_of_ble_eq_true rfl⟩) (kw_PreV (ci := 9) (q0 := 1) hs71 hP hD hK hN rfl rfl) rfl rfl hl.1 rfl (lv_room (Nat.le_of_ble_eq_true rfl)) dX4_notesFit_39 ⟨Nat.le_of_ble_eq_true rfl, Nat.le_of_ble_eq_true rfl⟩) (fun r72 u73 H locs hq hP hD hS => ?_)
            obtain rfl := hq
            have hP : va_P D vwCl [(nw, .inr (4, [.ref kk, .ref nk, .ref nd, .ref ne, .ref nm, .ref nn, .int (nI fi), .int (nI gl), .int (nI un), .int (nI mi), .int (nI no)])), (nn, .inl (y 6, 6, .inr (.inr (.inr (.inr fn_))))), (t0, .inl (y 0, 5, .inl t0f)), (t1, .inl (y 0, 5, .inl t1f)), (t2, .inl (y 0, 5, .inl t2f)), (t3, .inl (y 0, 5, .inl t3f)), (t4, .inl (y 0, 5, .inl t4f)), (t5, .inl (y 0, 5, .inl t5f)), (o, .inr (9, []))] H := hP
            have hD : va_D A [(nw, .inr (4, [.ref kk, .ref nk, .ref nd, .ref ne, .ref nm, .ref nn, .int (nI fi), .int (nI gl), .int (nI un), .int (nI mi), .int (nI no)])), (nn, .inl (y 6, 6, .inr (.inr (.inr (.inr fn_))))), (t0, .inl (y 0, 5, .inl t0f)), (t1, .inl (y 0, 5, .inl t1f)), (t2, .inl (y 0, 5, .inl t2f)), (t3, .inl (y 0, 5, .inl t3f)), (t4, .inl (y 0, 5, .inl t4f)), (t5, .inl (y 0, 5, .inl t5f)), (o, .inr (9, []))] := hD
            refine lv_aload hx hb dX4_notesFit_42 (lv_at hl 0 rfl) ?_
            refine lv_iconst (v := 4) hx hb dX4_notesFit_44 (by decide) ?_
            refine va_iald hx hb hK hP 5 0 rfl rfl (by unfold vp_in; decide) dX4_notesFit_45 ?_
            rw [show ((4 : Int32)).toNatClampNeg = 4 from rfl]
            refine lv_icmp_eq (tgt := 51) hx hb dX4_notesFit_46 (by decide) (fun h74 => ?_) (fun h75 => ?_)
            · skip
              refine lv_iinc (v := (nI 4)) (lv' := [(3, .int (nI 4)), (4, .ref t3), (0, .ref nw), (1, .int x), (2, .ref o)]) hx hb dX4_notesFit_51 hl (k := 1) rfl (nI_1 3) (by decide) rfl (fun ls hl => ?_)
              refine lv_goto (tgt := 2) hx hb dX4_notesFit_54 (by decide) ?_
              exact ihj91 4  H locs ls (by omega) (by omega)  (hP.sub [0, 8, 1, 2, 3, 4, 5, 6, 7] rfl) (hD.sub [0, 8, 1, 2, 3, 4, 5, 6, 7] (by decide) rfl) hS (lv_sub hl [0, 2, 3, 4] rfl)
            · skip
              refine lv_iconst (v := 0) hx hb dX4_notesFit_49 (by decide) ?_
              exact W.zret (v := 0) hx hb hr (by decide) (fun tZ ht hW => ⟨⟨0, (), rfl, Or.inl rfl, by rw [ht]; exact hP.sub [0, 8, 1, 2, 3, 4, 5, 6, 7] rfl, hD.sub [0, 8, 1, 2, 3, 4, 5, 6, 7] (by decide) rfl⟩, hS.F ht⟩) hS.2.2 dX4_notesFit_50
        · skip
          refine kw_aldQ hx hb hK hP 2 6 rfl rfl (vp_in_nI (by omega) (by decide)) dX4_notesFit_15 ?_
          rw [nI_clamp (n := 4) (by omega), show va_rf (fn_ 4) = .ref t4 from congrArg va_rf hn4]
          refine lv_astore (lv' := [(4, .ref t4), (3, .int (nI 4)), (0, .ref nw), (1, .int x), (2, .ref o)]) hx hb dX4_notesFit_16 hl (by decide) rfl (fun ls hl => ?_)
          refine lv_aload hx hb dX4_notesFit_18 (lv_at hl 0 rfl) ?_
          refine lv_iconst (v := 0) hx hb dX4_notesFit_20 (by decide) ?_
          refine va_iald hx hb hK hP 7 0 rfl rfl (by unfold vp_in; decide) dX4_notesFit_21 ?_
          rw [show ((0 : Int32)).toNatClampNeg = 0 from rfl]
          refine lv_iload_n hx hb dX4_notesFit_22 rfl (lv_at hl 3 rfl) ?_
          refine lv_icmp_ne (tgt := 51) hx hb dX4_notesFit_23 (by decide) (fun h76 => ?_) (fun h77 => ?_)
          · skip
            refine lv_iinc (v := (nI 5)) (lv' := [(3, .int (nI 5)), (4, .ref t4), (0, .ref nw), (1, .int x), (2, .ref o)]) hx hb dX4_notesFit_51 hl (k := 1) rfl (nI_1 4) (by decide) rfl (fun ls hl => ?_)
            refine lv_goto (tgt := 2) hx hb dX4_notesFit_54 (by decide) ?_
            exact ihj91 5  H locs ls (by omega) (by omega)  (hP.sub [0, 1, 2, 3, 4, 5, 6, 7, 8] rfl) (hD.sub [0, 1, 2, 3, 4, 5, 6, 7, 8] (by decide) rfl) hS (lv_sub hl [0, 2, 3, 4] rfl)
          · skip
            refine lv_aload_n hx hb dX4_notesFit_26 rfl (lv_at hl 4 rfl) ?_
            refine lv_aload hx hb dX4_notesFit_27 (lv_at hl 0 rfl) ?_
            refine lv_iconst (v := 1) hx hb dX4_notesFit_29 (by decide) ?_
            refine va_iald hx hb hK hP 7 0 rfl rfl (by unfold vp_in; decide) dX4_notesFit_30 ?_
            rw [show ((1 : Int32)).toNatClampNeg = 1 from rfl]
            refine lv_aload hx hb dX4_notesFit_31 (lv_at hl 0 rfl) ?_
            refine lv_iconst (v := 2) hx hb dX4_notesFit_33 (by decide) ?_
            refine va_iald hx hb hK hP 7 0 rfl rfl (by unfold vp_in; decide) dX4_notesFit_34 ?_
            rw [show ((2 : Int32)).toNatClampNeg = 2 from rfl]
            refine lv_aload hx hb dX4_notesFit_35 (lv_at hl 0 rfl) ?_
            refine lv_iconst (v := 3) hx hb dX4_notesFit_37 (by decide) ?_
            refine va_iald hx hb hK hP 7 0 rfl rfl (by unfold vp_in; decide) dX4_notesFit_38 ?_
            rw [show ((3 : Int32)).toNatClampNeg = 3 from rfl]
            have hs78 : kw_Split [(nw, .inr (4, [.ref kk, .ref nk, .ref nd, .ref ne, .ref nm, .ref nn, .int (nI fi), .int (nI gl), .int (nI un), .int (nI mi), .int (nI no)])), (o, .inr (9, [])), (nn, .inl (y 6, 6, .inr (.inr (.inr (.inr fn_))))), (t0, .inl (y 0, 5, .inl t0f)), (t1, .inl (y 0, 5, .inl t1f)), (t2, .inl (y 0, 5, .inl t2f)), (t3, .inl (y 0, 5, .inl t3f)), (t4, .inl (y 0, 5, .inl t4f)), (t5, .inl (y 0, 5, .inl t5f))] [(o, .inr (9, []))] [(nw, .inr (4, [.ref kk, .ref nk, .ref nd, .ref ne, .ref nm, .ref nn, .int (nI fi), .int (nI gl), .int (nI un), .int (nI mi), .int (nI no)])), (nn, .inl (y 6, 6, .inr (.inr (.inr (.inr fn_))))), (t0, .inl (y 0, 5, .inl t0f)), (t1, .inl (y 0, 5, .inl t1f)), (t2, .inl (y 0, 5, .inl t2f)), (t3, .inl (y 0, 5, .inl t3f)), (t4, .inl (y 0, 5, .inl t4f)), (t5, .inl (y 0, 5, .inl t5f))] [1] [0, 2, 3, 4, 5, 6, 7, 8] := ⟨rfl, rfl, rfl, rfl, rfl, by decide⟩
            refine kw_go_i hs78 hP hD hS hA (va_runU (As := [.int (t4f 1), .int (t4f 2), .int (t4f 3)]) (rest := []) ⟨hx, hb, hml, hown, hts⟩ (gc_Wood_on9 l D y o (t4f 1) (t4f 2) (t4f 3)  _) (va_cwO 3 hts gX4_notesFit_X9_sight_u89X9 rfl rfl rfl (List.mem_of_getElem? (i := 24) rfl) (by decide +kernel) ⟨Nat.le_of_ble_eq_true rfl, Nat.le_of_ble_eq_true rfl⟩) (kw_PreV (ci := 9) (q0 := 1) hs78 hP hD hK hN rfl rfl) rfl rfl hl.1 rfl (lv_room (Nat.le_of_ble_eq_true rfl)) dX4_notesFit_39 ⟨Nat.le_of_ble_eq_true rfl, Nat.le_of_ble_eq_true rfl⟩) (fun r79 u80 H locs hq hP hD hS => ?_)
            obtain rfl := hq
            have hP : va_P D vwCl [(nw, .inr (4, [.ref kk, .ref nk, .ref nd, .ref ne, .ref nm, .ref nn, .int (nI fi), .int (nI gl), .int (nI un), .int (nI mi), .int (nI no)])), (nn, .inl (y 6, 6, .inr (.inr (.inr (.inr fn_))))), (t0, .inl (y 0, 5, .inl t0f)), (t1, .inl (y 0, 5, .inl t1f)), (t2, .inl (y 0, 5, .inl t2f)), (t3, .inl (y 0, 5, .inl t3f)), (t4, .inl (y 0, 5, .inl t4f)), (t5, .inl (y 0, 5, .inl t5f)), (o, .inr (9, []))] H := hP
            have hD : va_D A [(nw, .inr (4, [.ref kk, .ref nk, .ref nd, .ref ne, .ref nm, .ref nn, .int (nI fi), .int (nI gl), .int (nI un), .int (nI mi), .int (nI no)])), (nn, .inl (y 6, 6, .inr (.inr (.inr (.inr fn_))))), (t0, .inl (y 0, 5, .inl t0f)), (t1, .inl (y 0, 5, .inl t1f)), (t2, .inl (y 0, 5, .inl t2f)), (t3, .inl (y 0, 5, .inl t3f)), (t4, .inl (y 0, 5, .inl t4f)), (t5, .inl (y 0, 5, .inl t5f)), (o, .inr (9, []))] := hD
            refine lv_aload hx hb dX4_notesFit_42 (lv_at hl 0 rfl) ?_
            refine lv_iconst (v := 4) hx hb dX4_notesFit_44 (by decide) ?_
            refine va_iald hx hb hK hP 6 0 rfl rfl (by unfold vp_in; decide) dX4_notesFit_45 ?_
            rw [show ((4 : Int32)).toNatClampNeg = 4 from rfl]
            refine lv_icmp_eq (tgt := 51) hx hb dX4_notesFit_46 (by decide) (fun h81 => ?_) (fun h82 => ?_)
            · skip
              refine lv_iinc (v := (nI 5)) (lv' := [(3, .int (nI 5)), (4, .ref t4), (0, .ref nw), (1, .int x), (2, .ref o)]) hx hb dX4_notesFit_51 hl (k := 1) rfl (nI_1 4) (by decide) rfl (fun ls hl => ?_)
              refine lv_goto (tgt := 2) hx hb dX4_notesFit_54 (by decide) ?_
              exact ihj91 5  H locs ls (by omega) (by omega)  (hP.sub [0, 8, 1, 2, 3, 4, 5, 6, 7] rfl) (hD.sub [0, 8, 1, 2, 3, 4, 5, 6, 7] (by decide) rfl) hS (lv_sub hl [0, 2, 3, 4] rfl)
            · skip
              refine lv_iconst (v := 0) hx hb dX4_notesFit_49 (by decide) ?_
              exact W.zret (v := 0) hx hb hr (by decide) (fun tZ ht hW => ⟨⟨0, (), rfl, Or.inl rfl, by rw [ht]; exact hP.sub [0, 8, 1, 2, 3, 4, 5, 6, 7] rfl, hD.sub [0, 8, 1, 2, 3, 4, 5, 6, 7] (by decide) rfl⟩, hS.F ht⟩) hS.2.2 dX4_notesFit_50
        · skip
          refine kw_aldQ hx hb hK hP 2 6 rfl rfl (vp_in_nI (by omega) (by decide)) dX4_notesFit_15 ?_
          rw [nI_clamp (n := 5) (by omega), show va_rf (fn_ 5) = .ref t5 from congrArg va_rf hn5]
          refine lv_astore (lv' := [(4, .ref t5), (3, .int (nI 5)), (0, .ref nw), (1, .int x), (2, .ref o)]) hx hb dX4_notesFit_16 hl (by decide) rfl (fun ls hl => ?_)
          refine lv_aload hx hb dX4_notesFit_18 (lv_at hl 0 rfl) ?_
          refine lv_iconst (v := 0) hx hb dX4_notesFit_20 (by decide) ?_
          refine va_iald hx hb hK hP 8 0 rfl rfl (by unfold vp_in; decide) dX4_notesFit_21 ?_
          rw [show ((0 : Int32)).toNatClampNeg = 0 from rfl]
          refine lv_iload_n hx hb dX4_notesFit_22 rfl (lv_at hl 3 rfl) ?_
          refine lv_icmp_ne (tgt := 51) hx hb dX4_notesFit_23 (by decide) (fun h83 => ?_) (fun h84 => ?_)
          · skip
            refine lv_iinc (v := (nI 6)) (lv' := [(3, .int (nI 6)), (4, .ref t5), (0, .ref nw), (1, .int x), (2, .ref o)]) hx hb dX4_notesFit_51 hl (k := 1) rfl (nI_1 5) (by decide) rfl (fun ls hl => ?_)
            refine lv_goto (tgt := 2) hx hb dX4_notesFit_54 (by decide) ?_
            exact ihj91 6  H locs ls (by omega) (by omega)  (hP.sub [0, 1, 2, 3, 4, 5, 6, 7, 8] rfl) (hD.sub [0, 1, 2, 3, 4, 5, 6, 7, 8] (by decide) rfl) hS (lv_sub hl [0, 2, 3, 4] rfl)
          · skip
            refine lv_aload_n hx hb dX4_notesFit_26 rfl (lv_at hl 4 rfl) ?_
            refine lv_aload hx hb dX4_notesFit_27 (lv_at hl 0 rfl) ?_
            refine lv_iconst (v := 1) hx hb dX4_notesFit_29 (by decide) ?_
            refine va_iald hx hb hK hP 8 0 rfl rfl (by unfold vp_in; decide) dX4_notesFit_30 ?_
            rw [show ((1 : Int32)).toNatClampNeg = 1 from rfl]
            refine lv_aload hx hb dX4_notesFit_31 (lv_at hl 0 rfl) ?_
            refine lv_iconst (v := 2) hx hb dX4_notesFit_33 (by decide) ?_
            refine va_iald hx hb hK hP 8 0 rfl rfl (by unfold vp_in; decide) dX4_notesFit_34 ?_
            rw [show ((2 : Int32)).toNatClampNeg = 2 from rfl]
            refine lv_aload hx hb dX4_notesFit_35 (lv_at hl 0 rfl) ?_
            refine lv_iconst (v := 3) hx hb dX4_notesFit_37 (by decide) ?_
            refine va_iald hx hb hK hP 8 0 rfl rfl (by unfold vp_in; decide) dX4_notesFit_38 ?_
            rw [show ((3 : Int32)).toNatClampNeg = 3 from rfl]
            have hs85 : kw_Split [(nw, .inr (4, [.ref kk, .ref nk, .ref nd, .ref ne, .ref nm, .ref nn, .int (nI fi), .int (nI gl), .int (nI un), .int (nI mi), .int (nI no)])), (o, .inr (9, [])), (nn, .inl (y 6, 6, .inr (.inr (.inr (.inr fn_))))), (t0, .inl (y 0, 5, .inl t0f)), (t1, .inl (y 0, 5, .inl t1f)), (t2, .inl (y 0, 5, .inl t2f)), (t3, .inl (y 0, 5, .inl t3f)), (t4, .inl (y 0, 5, .inl t4f)), (t5, .inl (y 0, 5, .inl t5f))] [(o, .inr (9, []))] [(nw, .inr (4, [.ref kk, .ref nk, .ref nd, .ref ne, .ref nm, .ref nn, .int (nI fi), .int (nI gl), .int (nI un), .int (nI mi), .int (nI no)])), (nn, .inl (y 6, 6, .inr (.inr (.inr (.inr fn_))))), (t0, .inl (y 0, 5, .inl t0f)), (t1, .inl (y 0, 5, .inl t1f)), (t2, .inl (y 0, 5, .inl t2f)), (t3, .inl (y 0, 5, .inl t3f)), (t4, .inl (y 0, 5, .inl t4f)), (t5, .inl (y 0, 5, .inl t5f))] [1] [0, 2, 3, 4, 5, 6, 7, 8] := ⟨rfl, rfl, rfl, rfl, rfl, by decide⟩
            refine kw_go_i hs85 hP hD hS hA (va_runU (As := [.int (t5f 1), .int (t5f 2), .int (t5f 3)]) (rest := []) ⟨hx, hb, hml, hown, hts⟩ (gc_Wood_on9 l D y o (t5f 1) (t5f 2) (t5f 3)  _) (va_cwO 3 hts gX4_notesFit_X9_sight_u89X9 rfl rfl rfl (List.mem_of_getElem? (i := 24) rfl) (by decide +kernel) ⟨Nat.le_of_ble_eq_true rfl, Nat.le_of_ble_eq_true rfl⟩) (kw_PreV (ci := 9) (q0 := 1) hs85 hP hD hK hN rfl rfl) rfl rfl hl.1 rfl (lv_room (Nat.le_of_ble_eq_true rfl)) dX4_notesFit_39 ⟨Nat.le_of_ble_eq_true rfl, Nat.le_of_ble_eq_true rfl⟩) (fun r86 u87 H locs hq hP hD hS => ?_)
            obtain rfl := hq
            have hP : va_P D vwCl [(nw, .inr (4, [.ref kk, .ref nk, .ref nd, .ref ne, .ref nm, .ref nn, .int (nI fi), .int (nI gl), .int (nI un), .int (nI mi), .int (nI no)])), (nn, .inl (y 6, 6, .inr (.inr (.inr (.inr fn_))))), (t0, .inl (y 0, 5, .inl t0f)), (t1, .inl (y 0, 5, .inl t1f)), (t2, .inl (y 0, 5, .inl t2f)), (t3, .inl (y 0, 5, .inl t3f)), (t4, .inl (y 0, 5, .inl t4f)), (t5, .inl (y 0, 5, .inl t5f)), (o, .inr (9, []))] H := hP
            have hD : va_D A [(nw, .inr (4, [.ref kk, .ref nk, .ref nd, .ref ne, .ref nm, .ref nn, .int (nI fi), .int (nI gl), .int (nI un), .int (nI mi), .int (nI no)])), (nn, .inl (y 6, 6, .inr (.inr (.inr (.inr fn_))))), (t0, .inl (y 0, 5, .inl t0f)), (t1, .inl (y 0, 5, .inl t1f)), (t2, .inl (y 0, 5, .inl t2f)), (t3, .inl (y 0, 5, .inl t3f)), (t4, .inl (y 0, 5, .inl t4f)), (t5, .inl (y 0, 5, .inl t5f)), (o, .inr (9, []))] := hD
            refine lv_aload hx hb dX4_notesFit_42 (lv_at hl 0 rfl) ?_
            refine lv_iconst (v := 4) hx hb dX4_notesFit_44 (by decide) ?_
            refine va_iald hx hb hK hP 7 0 rfl rfl (by unfold vp_in; decide) dX4_notesFit_45 ?_
            rw [show ((4 : Int32)).toNatClampNeg = 4 from rfl]
            refine lv_icmp_eq (tgt := 51) hx hb dX4_notesFit_46 (by decide) (fun h88 => ?_) (fun h89 => ?_)
            · skip
              refine lv_iinc (v := (nI 6)) (lv' := [(3, .int (nI 6)), (4, .ref t5), (0, .ref nw), (1, .int x), (2, .ref o)]) hx hb dX4_notesFit_51 hl (k := 1) rfl (nI_1 5) (by decide) rfl (fun ls hl => ?_)
              refine lv_goto (tgt := 2) hx hb dX4_notesFit_54 (by decide) ?_
              exact ihj91 6  H locs ls (by omega) (by omega)  (hP.sub [0, 8, 1, 2, 3, 4, 5, 6, 7] rfl) (hD.sub [0, 8, 1, 2, 3, 4, 5, 6, 7] (by decide) rfl) hS (lv_sub hl [0, 2, 3, 4] rfl)
            · skip
              refine lv_iconst (v := 0) hx hb dX4_notesFit_49 (by decide) ?_
              exact W.zret (v := 0) hx hb hr (by decide) (fun tZ ht hW => ⟨⟨0, (), rfl, Or.inl rfl, by rw [ht]; exact hP.sub [0, 8, 1, 2, 3, 4, 5, 6, 7] rfl, hD.sub [0, 8, 1, 2, 3, 4, 5, 6, 7] (by decide) rfl⟩, hS.F ht⟩) hS.2.2 dX4_notesFit_50
  exact lp45 (no + 1) 0  _ _ _ (by omega) (by omega)  hP hD hS (lv_sub hl [0, 1, 2, 3] rfl)

set_option maxHeartbeats 4000000 in
set_option maxRecDepth 100000 in
theorem gc_notesFit_on6 (l : Launch) (D : va_G) (y : Nat → ClassId) (nw : Nat) (kk : Nat) (nk : Nat) (nd : Nat) (ne : Nat) (nm : Nat) (nn : Nat) (fi : Nat) (gl : Nat) (un : Nat) (mi : Nat) (no : Nat) (t0 : Nat) (t1 : Nat) (t2 : Nat) (t3 : Nat) (t4 : Nat) (t5 : Nat) (t0f : Nat → Int32) (t1f : Nat → Int32) (t2f : Nat → Int32) (t3f : Nat → Int32) (t4f : Nat → Int32) (t5f : Nat → Int32) (fn_ : Nat → Option Nat) (o : Nat) (x : Int32) (hfi : fi ≤ 6) (hgl : gl ≤ 5) (hun : un ≤ 8) (hmi : mi ≤ 4) (hno : no ≤ 6) (hn0 : fn_ 0 = some t0) (hn1 : fn_ 1 = some t1) (hn2 : fn_ 2 = some t2) (hn3 : fn_ 3 = some t3) (hn4 : fn_ 4 = some t4) (hn5 : fn_ 5 = some t5) : kw_Mi l yX4_notesFit wsX4_notesFit ({ frames := 3, cells := 0, slots := 0, locals := 106 }) D y [.ref nw, .int x, .ref o] [(nw, .inr (4, [.ref kk, .ref nk, .ref nd, .ref ne, .ref nm, .ref nn, .int (nI fi), .int (nI gl), .int (nI un), .int (nI mi), .int (nI no)])), (o, .inr (6, [])), (nn, .inl (y 6, 6, .inr (.inr (.inr (.inr fn_))))), (t0, .inl (y 0, 5, .inl t0f)), (t1, .inl (y 0, 5, .inl t1f)), (t2, .inl (y 0, 5, .inl t2f)), (t3, .inl (y 0, 5, .inl t3f)), (t4, .inl (y 0, 5, .inl t4f)), (t5, .inl (y 0, 5, .inl t5f))] (fun (r : Int32) (u : Unit) => (r = 0 ∨ r = 1)) (fun _ => [(nw, .inr (4, [.ref kk, .ref nk, .ref nd, .ref ne, .ref nm, .ref nn, .int (nI fi), .int (nI gl), .int (nI un), .int (nI mi), .int (nI no)])), (o, .inr (6, [])), (nn, .inl (y 6, 6, .inr (.inr (.inr (.inr fn_))))), (t0, .inl (y 0, 5, .inl t0f)), (t1, .inl (y 0, 5, .inl t1f)), (t2, .inl (y 0, 5, .inl t2f)), (t3, .inl (y 0, 5, .inl t3f)), (t4, .inl (y 0, 5, .inl t4f)), (t5, .inl (y 0, 5, .inl t5f))]) 0 0 := by
  refine kw_Mi.of (cc := cX4_notesFit) (maxL := 5) (ret := (some .boolean)) (by decide) rfl ?_
  intro pZ eZ s mZ beZ meZ cZ A hE
  obtain ⟨hx, hb, hr, hml, hts, hown, hlocks, hin, hA, hP, hD, hK, hN⟩ := hE
  have hS : va_S A s.heap s.heap [] := va_S.rf
  have hl := lv_entry ([.ref nw, .int x, .ref o]) (n := 5) (Nat.le_of_ble_eq_true rfl)
  rw [lg_entry_eq]
  generalize (lg_sl ([.ref nw, .int x, .ref o]) ++ List.replicate (5 - (lg_sl ([.ref nw, .int x, .ref o])).length) Slot.unset).toArray = ls at hl ⊢
  have hl : lv_has ls 5 [(0, .ref nw), (1, .int x), (2, .ref o)] := hl
  have fw1 := hts (.fieldLink RX4 51 "GleanDusk$Parish" "noteCount" "I") (List.mem_of_getElem? (i := 1) rfl)
  have fw2 := hts (.fieldLink RX4 31 "GleanDusk$Parish" "notes" "[[I") (List.mem_of_getElem? (i := 2) rfl)
  have iw4 : ∀ w ∈ wsX40, w ∈ wsX4_notesFit := fun _ h => List.mem_cons_of_mem _ (List.mem_append_right _ h)
  refine lv_iconst (v := 0) hx hb dX4_notesFit_0 (by decide) ?_
  refine lv_istore_n (lv' := [(3, .int 0), (0, .ref nw), (1, .int x), (2, .ref o)]) hx hb dX4_notesFit_1 rfl hl (by decide) rfl (fun ls hl => ?_)
  have lp45 : ∀ (fuj91 j91 : Nat)  (H : Heap) (locs : List Loc) (ls : Array Slot), j91 ≤ no → no - j91 < fuj91 → va_P D vwCl [(nw, .inr (4, [.ref kk, .ref nk, .ref nd, .ref ne, .ref nm, .ref nn, .int (nI fi), .int (nI gl), .int (nI un), .int (nI mi), .int (nI no)])), (o, .inr (6, [])), (nn, .inl (y 6, 6, .inr (.inr (.inr (.inr fn_))))), (t0, .inl (y 0, 5, .inl t0f)), (t1, .inl (y 0, 5, .inl t1f)), (t2, .inl (y 0, 5, .inl t2f)), (t3, .inl (y 0, 5, .inl t3f)), (t4, .inl (y 0, 5, .inl t4f)), (t5, .inl (y 0, 5, .inl t5f))] H → va_D A [(nw, .inr (4, [.ref kk, .ref nk, .ref nd, .ref ne, .ref nm, .ref nn, .int (nI fi), .int (nI gl), .int (nI un), .int (nI mi), .int (nI no)])), (o, .inr (6, [])), (nn, .inl (y 6, 6, .inr (.inr (.inr (.inr fn_))))), (t0, .inl (y 0, 5, .inl t0f)), (t1, .inl (y 0, 5, .inl t1f)), (t2, .inl (y 0, 5, .inl t2f)), (t3, .inl (y 0, 5, .inl t3f)), (t4, .inl (y 0, 5, .inl t4f)), (t5, .inl (y 0, 5, .inl t5f))] → va_S A s.heap H locs → lv_has ls 5 [(3, .int (nI j91)), (0, .ref nw), (1, .int x), (2, .ref o)] → W pZ l eZ ({ frames := 3, cells := 0, slots := 0, locals := 106 }) s mZ [.ref nw, .int x, .ref o].toArray beZ meZ cZ H locs 0 0 (MQ beZ (va_Qi (fun (r : Int32) (u : Unit) => (r = 0 ∨ r = 1)) (kw_B D (fun _ => [(nw, .inr (4, [.ref kk, .ref nk, .ref nd, .ref ne, .ref nm, .ref nn, .int (nI fi), .int (nI gl), .int (nI un), .int (nI mi), .int (nI no)])), (o, .inr (6, [])), (nn, .inl (y 6, 6, .inr (.inr (.inr (.inr fn_))))), (t0, .inl (y 0, 5, .inl t0f)), (t1, .inl (y 0, 5, .inl t1f)), (t2, .inl (y 0, 5, .inl t2f)), (t3, .inl (y 0, 5, .inl t3f)), (t4, .inl (y 0, 5, .inl t4f)), (t5, .inl (y 0, 5, .inl t5f))]) A) A) [.ref nw, .int x, .ref o].toArray s 0 0 A) (F0 mZ 2 ls []) := by
    intro fuj91
    induction fuj91 with
    | zero => intro j91  H locs ls hj9 hf9; exact absurd hf9 (Nat.not_lt_zero _)
    | succ fuj91 ihj91 =>
      intro j91  H locs ls hj91 hfj91  hP hD hS hl
      refine lv_iload_n hx hb dX4_notesFit_2 rfl (lv_at hl 0 rfl) ?_
      refine lv_aload_n hx hb dX4_notesFit_3 rfl (lv_at hl 1 rfl) ?_
      refine va_get (D := D) (ci := 4) (v := .int (nI no)) (C := RX4) (T := TX4) (N := 11) hx hb hts iw4 hown hK hP 0 rfl rfl 10 (by decide) fw1 (fun _ h9 => h9) rfl dX4_notesFit_4 ?_
      refine lv_icmp_ge (tgt := 57) hx hb dX4_notesFit_7 (by decide) (fun h46 => ?_) (fun h47 => ?_)
      · skip
        have h46 : no ≤ j91 := (nI_leI (a := no) (b := j91) (by omega) (by omega)).mp h46
        refine lv_iconst (v := 1) hx hb dX4_notesFit_57 (by decide) ?_
        exact W.zret (v := 1) hx hb hr (by decide) (fun tZ ht hW => ⟨⟨1, (), rfl, Or.inr rfl, by rw [ht]; exact hP.sub [0, 1, 2, 3, 4, 5, 6, 7, 8] rfl, hD.sub [0, 1, 2, 3, 4, 5, 6, 7, 8] (by decide) rfl⟩, hS.F ht⟩) hS.2.2 dX4_notesFit_58
      · skip
        have h47 : ¬ no ≤ j91 := fun q9 => h47 ((nI_leI (a := no) (b := j91) (by omega) (by omega)).mpr q9)
        refine lv_aload_n hx hb dX4_notesFit_10 rfl (lv_at hl 1 rfl) ?_
        refine va_get (D := D) (ci := 4) (v := .ref nn) (C := RX4) (T := TX4) (N := 11) hx hb hts iw4 hown hK hP 0 rfl rfl 5 (by decide) fw2 (fun _ h9 => h9) rfl dX4_notesFit_11 ?_
        refine lv_iload_n hx hb dX4_notesFit_14 rfl (lv_at hl 0 rfl) ?_
        rcases (show j91 = 0 ∨ j91 = 1 ∨ j91 = 2 ∨ j91 = 3 ∨ j91 = 4 ∨ j91 = 5 by omega) with rfl | rfl | rfl | rfl | rfl | rfl
        · skip
          refine kw_aldQ hx hb hK hP 2 6 rfl rfl (vp_in_nI (by omega) (by decide)) dX4_notesFit_15 ?_
          rw [nI_clamp (n := 0) (by omega), show va_rf (fn_ 0) = .ref t0 from congrArg va_rf hn0]
          refine lv_astore (lv' := [(4, .ref t0), (3, .int (nI 0)), (0, .ref nw), (1, .int x), (2, .ref o)]) hx hb dX4_notesFit_16 hl (by decide) rfl (fun ls hl => ?_)
          refine lv_aload hx hb dX4_notesFit_18 (lv_at hl 0 rfl) ?_
          refine lv_iconst (v := 0) hx hb dX4_notesFit_20 (by decide) ?_
          refine va_iald hx hb hK hP 3 0 rfl rfl (by unfold vp_in; decide) dX4_notesFit_21 ?_
          rw [show ((0 : Int32)).toNatClampNeg = 0 from rfl]
          refine lv_iload_n hx hb dX4_notesFit_22 rfl (lv_at hl 3 rfl) ?_
          refine lv_icmp_ne (tgt := 51) hx hb dX4_notesFit_23 (by decide) (fun h48 => ?_) (fun h49 => ?_)
          · skip
            refine lv_iinc (v := (nI 1)) (lv' := [(3, .int (nI 1)), (4, .ref t0), (0, .ref nw), (1, .int x), (2, .ref o)]) hx hb dX4_notesFit_51 hl (k := 1) rfl (nI_1 0) (by decide) rfl (fun ls hl => ?_)
            refine lv_goto (tgt := 2) hx hb dX4_notesFit_54 (by decide) ?_
            exact ihj91 1  H locs ls (by omega) (by omega)  (hP.sub [0, 1, 2, 3, 4, 5, 6, 7, 8] rfl) (hD.sub [0, 1, 2, 3, 4, 5, 6, 7, 8] (by decide) rfl) hS (lv_sub hl [0, 2, 3, 4] rfl)
          · skip
            refine lv_aload_n hx hb dX4_notesFit_26 rfl (lv_at hl 4 rfl) ?_
            refine lv_aload hx hb dX4_notesFit_27 (lv_at hl 0 rfl) ?_
            refine lv_iconst (v := 1) hx hb dX4_notesFit_29 (by decide) ?_
            refine va_iald hx hb hK hP 3 0 rfl rfl (by unfold vp_in; decide) dX4_notesFit_30 ?_
            rw [show ((1 : Int32)).toNatClampNeg = 1 from rfl]
            refine lv_aload hx hb dX4_notesFit_31 (lv_at hl 0 rfl) ?_
            refine lv_iconst (v := 2) hx hb dX4_notesFit_33 (by decide) ?_
            refine va_iald hx hb hK hP 3 0 rfl rfl (by unfold vp_in; decide) dX4_notesFit_34 ?_
            rw [show ((2 : Int32)).toNatClampNeg = 2 from rfl]
            refine lv_aload hx hb dX4_notesFit_35 (lv_at hl 0 rfl) ?_
            refine lv_iconst (v := 3) hx hb dX4_notesFit_37 (by decide) ?_
            refine va_iald hx hb hK hP 3 0 rfl rfl (by unfold vp_in; decide) dX4_notesFit_38 ?_
            rw [show ((3 : Int32)).toNatClampNeg = 3 from rfl]
            have hs50 : kw_Split [(nw, .inr (4, [.ref kk, .ref nk, .ref nd, .ref ne, .ref nm, .ref nn, .int (nI fi), .int (nI gl), .int (nI un), .int (nI mi), .int (nI no)])), (o, .inr (6, [])), (nn, .inl (y 6, 6, .inr (.inr (.inr (.inr fn_))))), (t0, .inl (y 0, 5, .inl t0f)), (t1, .inl (y 0, 5, .inl t1f)), (t2, .inl (y 0, 5, .inl t2f)), (t3, .inl (y 0, 5, .inl t3f)), (t4, .inl (y 0, 5, .inl t4f)), (t5, .inl (y 0, 5, .inl t5f))] [(o, .inr (6, []))] [(nw, .inr (4, [.ref kk, .ref nk, .ref nd, .ref ne, .ref nm, .ref nn, .int (nI fi), .int (nI gl), .int (nI un), .int (nI mi), .int (nI no)])), (nn, .inl (y 6, 6, .inr (.inr (.inr (.inr fn_))))), (t0, .inl (y 0, 5, .inl t0f)), (t1, .inl (y 0, 5, .inl t1f)), (t2, .inl (y 0, 5, .inl t2f)), (t3, .inl (y 0, 5, .inl t3f)), (t4, .inl (y 0, 5, .inl t4f)), (t5, .inl (y 0, 5, .inl t5f))] [1] [0, 2, 3, 4, 5, 6, 7, 8] := ⟨rfl, rfl, rfl, rfl, rfl, by decide⟩
            refine kw_go_i hs50 hP hD hS hA (va_runU (As := [.int (t0f 1), .int (t0f 2), .int (t0f 3)]) (rest := []) ⟨hx, hb, hml, hown, hts⟩ (gc_Puddle_on6 l D y o (t0f 1) (t0f 2) (t0f 3)  _) (va_cwO 3 hts gX4_notesFit_X6_sight_u89X6 rfl rfl rfl (List.mem_of_getElem? (i := 24) rfl) (by decide +kernel) ⟨Nat.le_of_ble_eq_true rfl, Nat.le_of_ble_eq_true rfl⟩) (kw_PreV (ci := 6) (q0 := 1) hs50 hP hD hK hN rfl rfl) rfl rfl hl.1 rfl (lv_room (Nat.le_of_ble_eq_true rfl)) dX4_notesFit_39 ⟨Nat.le_of_ble_eq_true rfl, Nat.le_of_ble_eq_true rfl⟩) (fun r51 u52 H locs hq hP hD hS => ?_)
            obtain rfl := hq
            have hP : va_P D vwCl [(nw, .inr (4, [.ref kk, .ref nk, .ref nd, .ref ne, .ref nm, .ref nn, .int (nI fi), .int (nI gl), .int (nI un), .int (nI mi), .int (nI no)])), (nn, .inl (y 6, 6, .inr (.inr (.inr (.inr fn_))))), (t0, .inl (y 0, 5, .inl t0f)), (t1, .inl (y 0, 5, .inl t1f)), (t2, .inl (y 0, 5, .inl t2f)), (t3, .inl (y 0, 5, .inl t3f)), (t4, .inl (y 0, 5, .inl t4f)), (t5, .inl (y 0, 5, .inl t5f)), (o, .inr (6, []))] H := hP
            have hD : va_D A [(nw, .inr (4, [.ref kk, .ref nk, .ref nd, .ref ne, .ref nm, .ref nn, .int (nI fi), .int (nI gl), .int (nI un), .int (nI mi), .int (nI no)])), (nn, .inl (y 6, 6, .inr (.inr (.inr (.inr fn_))))), (t0, .inl (y 0, 5, .inl t0f)), (t1, .inl (y 0, 5, .inl t1f)), (t2, .inl (y 0, 5, .inl t2f)), (t3, .inl (y 0, 5, .inl t3f)), (t4, .inl (y 0, 5, .inl t4f)), (t5, .inl (y 0, 5, .inl t5f)), (o, .inr (6, []))] := hD
            refine lv_aload hx hb dX4_notesFit_42 (lv_at hl 0 rfl) ?_
            refine lv_iconst (v := 4) hx hb dX4_notesFit_44 (by decide) ?_
            refine va_iald hx hb hK hP 2 0 rfl rfl (by unfold vp_in; decide) dX4_notesFit_45 ?_
            rw [show ((4 : Int32)).toNatClampNeg = 4 from rfl]
            refine lv_icmp_eq (tgt := 51) hx hb dX4_notesFit_46 (by decide) (fun h53 => ?_) (fun h54 => ?_)
            · skip
              refine lv_iinc (v := (nI 1)) (lv' := [(3, .int (nI 1)), (4, .ref t0), (0, .ref nw), (1, .int x), (2, .ref o)]) hx hb dX4_notesFit_51 hl (k := 1) rfl (nI_1 0) (by decide) rfl (fun ls hl => ?_)
              refine lv_goto (tgt := 2) hx hb dX4_notesFit_54 (by decide) ?_
              exact ihj91 1  H locs ls (by omega) (by omega)  (hP.sub [0, 8, 1, 2, 3, 4, 5, 6, 7] rfl) (hD.sub [0, 8, 1, 2, 3, 4, 5, 6, 7] (by decide) rfl) hS (lv_sub hl [0, 2, 3, 4] rfl)
            · skip
              refine lv_iconst (v := 0) hx hb dX4_notesFit_49 (by decide) ?_
              exact W.zret (v := 0) hx hb hr (by decide) (fun tZ ht hW => ⟨⟨0, (), rfl, Or.inl rfl, by rw [ht]; exact hP.sub [0, 8, 1, 2, 3, 4, 5, 6, 7] rfl, hD.sub [0, 8, 1, 2, 3, 4, 5, 6, 7] (by decide) rfl⟩, hS.F ht⟩) hS.2.2 dX4_notesFit_50
        · skip
          refine kw_aldQ hx hb hK hP 2 6 rfl rfl (vp_in_nI (by omega) (by decide)) dX4_notesFit_15 ?_
          rw [nI_clamp (n := 1) (by omega), show va_rf (fn_ 1) = .ref t1 from congrArg va_rf hn1]
          refine lv_astore (lv' := [(4, .ref t1), (3, .int (nI 1)), (0, .ref nw), (1, .int x), (2, .ref o)]) hx hb dX4_notesFit_16 hl (by decide) rfl (fun ls hl => ?_)
          refine lv_aload hx hb dX4_notesFit_18 (lv_at hl 0 rfl) ?_
          refine lv_iconst (v := 0) hx hb dX4_notesFit_20 (by decide) ?_
          refine va_iald hx hb hK hP 4 0 rfl rfl (by unfold vp_in; decide) dX4_notesFit_21 ?_
          rw [show ((0 : Int32)).toNatClampNeg = 0 from rfl]
          refine lv_iload_n hx hb dX4_notesFit_22 rfl (lv_at hl 3 rfl) ?_
          refine lv_icmp_ne (tgt := 51) hx hb dX4_notesFit_23 (by decide) (fun h55 => ?_) (fun h56 => ?_)
          · skip
            refine lv_iinc (v := (nI 2)) (lv' := [(3, .int (nI 2)), (4, .ref t1), (0, .ref nw), (1, .int x), (2, .ref o)]) hx hb dX4_notesFit_51 hl (k := 1) rfl (nI_1 1) (by decide) rfl (fun ls hl => ?_)
            refine lv_goto (tgt := 2) hx hb dX4_notesFit_54 (by decide) ?_
            exact ihj91 2  H locs ls (by omega) (by omega)  (hP.sub [0, 1, 2, 3, 4, 5, 6, 7, 8] rfl) (hD.sub [0, 1, 2, 3, 4, 5, 6, 7, 8] (by decide) rfl) hS (lv_sub hl [0, 2, 3, 4] rfl)
          · skip
            refine lv_aload_n hx hb dX4_notesFit_26 rfl (lv_at hl 4 rfl) ?_
            refine lv_aload hx hb dX4_notesFit_27 (lv_at hl 0 rfl) ?_
            refine lv_iconst (v := 1) hx hb dX4_notesFit_29 (by decide) ?_
            refine va_iald hx hb hK hP 4 0 rfl rfl (by unfold vp_in; decide) dX4_notesFit_30 ?_
            rw [show ((1 : Int32)).toNatClampNeg = 1 from rfl]
            refine lv_aload hx hb dX4_notesFit_31 (lv_at hl 0 rfl) ?_
            refine lv_iconst (v := 2) hx hb dX4_notesFit_33 (by decide) ?_
            refine va_iald hx hb hK hP 4 0 rfl rfl (by unfold vp_in; decide) dX4_notesFit_34 ?_
            rw [show ((2 : Int32)).toNatClampNeg = 2 from rfl]
            refine lv_aload hx hb dX4_notesFit_35 (lv_at hl 0 rfl) ?_
            refine lv_iconst (v := 3) hx hb dX4_notesFit_37 (by decide) ?_
            refine va_iald hx hb hK hP 4 0 rfl rfl (by unfold vp_in; decide) dX4_notesFit_38 ?_
            rw [show ((3 : Int32)).toNatClampNeg = 3 from rfl]
            have hs57 : kw_Split [(nw, .inr (4, [.ref kk, .ref nk, .ref nd, .ref ne, .ref nm, .ref nn, .int (nI fi), .int (nI gl), .int (nI un), .int (nI mi), .int (nI no)])), (o, .inr (6, [])), (nn, .inl (y 6, 6, .inr (.inr (.inr (.inr fn_))))), (t0, .inl (y 0, 5, .inl t0f)), (t1, .inl (y 0, 5, .inl t1f)), (t2, .inl (y 0, 5, .inl t2f)), (t3, .inl (y 0, 5, .inl t3f)), (t4, .inl (y 0, 5, .inl t4f)), (t5, .inl (y 0, 5, .inl t5f))] [(o, .inr (6, []))] [(nw, .inr (4, [.ref kk, .ref nk, .ref nd, .ref ne, .ref nm, .ref nn, .int (nI fi), .int (nI gl), .int (nI un), .int (nI mi), .int (nI no)])), (nn, .inl (y 6, 6, .inr (.inr (.inr (.inr fn_))))), (t0, .inl (y 0, 5, .inl t0f)), (t1, .inl (y 0, 5, .inl t1f)), (t2, .inl (y 0, 5, .inl t2f)), (t3, .inl (y 0, 5, .inl t3f)), (t4, .inl (y 0, 5, .inl t4f)), (t5, .inl (y 0, 5, .inl t5f))] [1] [0, 2, 3, 4, 5, 6, 7, 8] := ⟨rfl, rfl, rfl, rfl, rfl, by decide⟩
            refine kw_go_i hs57 hP hD hS hA (va_runU (As := [.int (t1f 1), .int (t1f 2), .int (t1f 3)]) (rest := []) ⟨hx, hb, hml, hown, hts⟩ (gc_Puddle_on6 l D y o (t1f 1) (t1f 2) (t1f 3)  _) (va_cwO 3 hts gX4_notesFit_X6_sight_u89X6 rfl rfl rfl (List.mem_of_getElem? (i := 24) rfl) (by decide +kernel) ⟨Nat.le_of_ble_eq_true rfl, Nat.le_of_ble_eq_true rfl⟩) (kw_PreV (ci := 6) (q0 := 1) hs57 hP hD hK hN rfl rfl) rfl rfl hl.1 rfl (lv_room (Nat.le_of_ble_eq_true rfl)) dX4_notesFit_39 ⟨Nat.le_of_ble_eq_true rfl, Nat.le_of_ble_eq_true rfl⟩) (fun r58 u59 H locs hq hP hD hS => ?_)
            obtain rfl := hq
            have hP : va_P D vwCl [(nw, .inr (4, [.ref kk, .ref nk, .ref nd, .ref ne, .ref nm, .ref nn, .int (nI fi), .int (nI gl), .int (nI un), .int (nI mi), .int (nI no)])), (nn, .inl (y 6, 6, .inr (.inr (.inr (.inr fn_))))), (t0, .inl (y 0, 5, .inl t0f)), (t1, .inl (y 0, 5, .inl t1f)), (t2, .inl (y 0, 5, .inl t2f)), (t3, .inl (y 0, 5, .inl t3f)), (t4, .inl (y 0, 5, .inl t4f)), (t5, .inl (y 0, 5, .inl t5f)), (o, .inr (6, []))] H := hP
            have hD : va_D A [(nw, .inr (4, [.ref kk, .ref nk, .ref nd, .ref ne, .ref nm, .ref nn, .int (nI fi), .int (nI gl), .int (nI un), .int (nI mi), .int (nI no)])), (nn, .inl (y 6, 6, .inr (.inr (.inr (.inr fn_))))), (t0, .inl (y 0, 5, .inl t0f)), (t1, .inl (y 0, 5, .inl t1f)), (t2, .inl (y 0, 5, .inl t2f)), (t3, .inl (y 0, 5, .inl t3f)), (t4, .inl (y 0, 5, .inl t4f)), (t5, .inl (y 0, 5, .inl t5f)), (o, .inr (6, []))] := hD
            refine lv_aload hx hb dX4_notesFit_42 (lv_at hl 0 rfl) ?_
            refine lv_iconst (v := 4) hx hb dX4_notesFit_44 (by decide) ?_
            refine va_iald hx hb hK hP 3 0 rfl rfl (by unfold vp_in; decide) dX4_notesFit_45 ?_
            rw [show ((4 : Int32)).toNatClampNeg = 4 from rfl]
            refine lv_icmp_eq (tgt := 51) hx hb dX4_notesFit_46 (by decide) (fun h60 => ?_) (fun h61 => ?_)
            · skip
              refine lv_iinc (v := (nI 2)) (lv' := [(3, .int (nI 2)), (4, .ref t1), (0, .ref nw), (1, .int x), (2, .ref o)]) hx hb dX4_notesFit_51 hl (k := 1) rfl (nI_1 1) (by decide) rfl (fun ls hl => ?_)
              refine lv_goto (tgt := 2) hx hb dX4_notesFit_54 (by decide) ?_
              exact ihj91 2  H locs ls (by omega) (by omega)  (hP.sub [0, 8, 1, 2, 3, 4, 5, 6, 7] rfl) (hD.sub [0, 8, 1, 2, 3, 4, 5, 6, 7] (by decide) rfl) hS (lv_sub hl [0, 2, 3, 4] rfl)
            · skip
              refine lv_iconst (v := 0) hx hb dX4_notesFit_49 (by decide) ?_
              exact W.zret (v := 0) hx hb hr (by decide) (fun tZ ht hW => ⟨⟨0, (), rfl, Or.inl rfl, by rw [ht]; exact hP.sub [0, 8, 1, 2, 3, 4, 5, 6, 7] rfl, hD.sub [0, 8, 1, 2, 3, 4, 5, 6, 7] (by decide) rfl⟩, hS.F ht⟩) hS.2.2 dX4_notesFit_50
        · skip
          refine kw_aldQ hx hb hK hP 2 6 rfl rfl (vp_in_nI (by omega) (by decide)) dX4_notesFit_15 ?_
          rw [nI_clamp (n := 2) (by omega), show va_rf (fn_ 2) = .ref t2 from congrArg va_rf hn2]
          refine lv_astore (lv' := [(4, .ref t2), (3, .int (nI 2)), (0, .ref nw), (1, .int x), (2, .ref o)]) hx hb dX4_notesFit_16 hl (by decide) rfl (fun ls hl => ?_)
          refine lv_aload hx hb dX4_notesFit_18 (lv_at hl 0 rfl) ?_
          refine lv_iconst (v := 0) hx hb dX4_notesFit_20 (by decide) ?_
          refine va_iald hx hb hK hP 5 0 rfl rfl (by unfold vp_in; decide) dX4_notesFit_21 ?_
          rw [show ((0 : Int32)).toNatClampNeg = 0 from rfl]
          refine lv_iload_n hx hb dX4_notesFit_22 rfl (lv_at hl 3 rfl) ?_
          refine lv_icmp_ne (tgt := 51) hx hb dX4_notesFit_23 (by decide) (fun h62 => ?_) (fun h63 => ?_)
          · skip
            refine lv_iinc (v := (nI 3)) (lv' := [(3, .int (nI 3)), (4, .ref t2), (0, .ref nw), (1, .int x), (2, .ref o)]) hx hb dX4_notesFit_51 hl (k := 1) rfl (nI_1 2) (by decide) rfl (fun ls hl => ?_)
            refine lv_goto (tgt := 2) hx hb dX4_notesFit_54 (by decide) ?_
            exact ihj91 3  H locs ls (by omega) (by omega)  (hP.sub [0, 1, 2, 3, 4, 5, 6, 7, 8] rfl) (hD.sub [0, 1, 2, 3, 4, 5, 6, 7, 8] (by decide) rfl) hS (lv_sub hl [0, 2, 3, 4] rfl)
          · skip
            refine lv_aload_n hx hb dX4_notesFit_26 rfl (lv_at hl 4 rfl) ?_
            refine lv_aload hx hb dX4_notesFit_27 (lv_at hl 0 rfl) ?_
            refine lv_iconst (v := 1) hx hb dX4_notesFit_29 (by decide) ?_
            refine va_iald hx hb hK hP 5 0 rfl rfl (by unfold vp_in; decide) dX4_notesFit_30 ?_
            rw [show ((1 : Int32)).toNatClampNeg = 1 from rfl]
            refine lv_aload hx hb dX4_notesFit_31 (lv_at hl 0 rfl) ?_
            refine lv_iconst (v := 2) hx hb dX4_notesFit_33 (by decide) ?_
            refine va_iald hx hb hK hP 5 0 rfl rfl (by unfold vp_in; decide) dX4_notesFit_34 ?_
            rw [show ((2 : Int32)).toNatClampNeg = 2 from rfl]
            refine lv_aload hx hb dX4_notesFit_35 (lv_at hl 0 rfl) ?_
            refine lv_iconst (v := 3) hx hb dX4_notesFit_37 (by decide) ?_
            refine va_iald hx hb hK hP 5 0 rfl rfl (by unfold vp_in; decide) dX4_notesFit_38 ?_
            rw [show ((3 : Int32)).toNatClampNeg = 3 from rfl]
            have hs64 : kw_Split [(nw, .inr (4, [.ref kk, .ref nk, .ref nd, .ref ne, .ref nm, .ref nn, .int (nI fi), .int (nI gl), .int (nI un), .int (nI mi), .int (nI no)])), (o, .inr (6, [])), (nn, .inl (y 6, 6, .inr (.inr (.inr (.inr fn_))))), (t0, .inl (y 0, 5, .inl t0f)), (t1, .inl (y 0, 5, .inl t1f)), (t2, .inl (y 0, 5, .inl t2f)), (t3, .inl (y 0, 5, .inl t3f)), (t4, .inl (y 0, 5, .inl t4f)), (t5, .inl (y 0, 5, .inl t5f))] [(o, .inr (6, []))] [(nw, .inr (4, [.ref kk, .ref nk, .ref nd, .ref ne, .ref nm, .ref nn, .int (nI fi), .int (nI gl), .int (nI un), .int (nI mi), .int (nI no)])), (nn, .inl (y 6, 6, .inr (.inr (.inr (.inr fn_))))), (t0, .inl (y 0, 5, .inl t0f)), (t1, .inl (y 0, 5, .inl t1f)), (t2, .inl (y 0, 5, .inl t2f)), (t3, .inl (y 0, 5, .inl t3f)), (t4, .inl (y 0, 5, .inl t4f)), (t5, .inl (y 0, 5, .inl t5f))] [1] [0, 2, 3, 4, 5, 6, 7, 8] := ⟨rfl, rfl, rfl, rfl, rfl, by decide⟩
            refine kw_go_i hs64 hP hD hS hA (va_runU (As := [.int (t2f 1), .int (t2f 2), .int (t2f 3)]) (rest := []) ⟨hx, hb, hml, hown, hts⟩ (gc_Puddle_on6 l D y o (t2f 1) (t2f 2) (t2f 3)  _) (va_cwO 3 hts gX4_notesFit_X6_sight_u89X6 rfl rfl rfl (List.mem_of_getElem? (i := 24) rfl) (by decide +kernel) ⟨Nat.le_of_ble_eq_true rfl, Nat.le_of_ble_eq_true rfl⟩) (kw_PreV (ci := 6) (q0 := 1) hs64 hP hD hK hN rfl rfl) rfl rfl hl.1 rfl (lv_room (Nat.le_of_ble_eq_true rfl)) dX4_notesFit_39 ⟨Nat.le_of_ble_eq_true rfl, Nat.le_of_ble_eq_true rfl⟩) (fun r65 u66 H locs hq hP hD hS => ?_)
            obtain rfl := hq
            have hP : va_P D vwCl [(nw, .inr (4, [.ref kk, .ref nk, .ref nd, .ref ne, .ref nm, .ref nn, .int (nI fi), .int (nI gl), .int (nI un), .int (nI mi), .int (nI no)])), (nn, .inl (y 6, 6, .inr (.inr (.inr (.inr fn_))))), (t0, .inl (y 0, 5, .inl t0f)), (t1, .inl (y 0, 5, .inl t1f)), (t2, .inl (y 0, 5, .inl t2f)), (t3, .inl (y 0, 5, .inl t3f)), (t4, .inl (y 0, 5, .inl t4f)), (t5, .inl (y 0, 5, .inl t5f)), (o, .inr (6, []))] H := hP
            have hD : va_D A [(nw, .inr (4, [.ref kk, .ref nk, .ref nd, .ref ne, .ref nm, .ref nn, .int (nI fi), .int (nI gl), .int (nI un), .int (nI mi), .int (nI no)])), (nn, .inl (y 6, 6, .inr (.inr (.inr (.inr fn_))))), (t0, .inl (y 0, 5, .inl t0f)), (t1, .inl (y 0, 5, .inl t1f)), (t2, .inl (y 0, 5, .inl t2f)), (t3, .inl (y 0, 5, .inl t3f)), (t4, .inl (y 0, 5, .inl t4f)), (t5, .inl (y 0, 5, .inl t5f)), (o, .inr (6, []))] := hD
            refine lv_aload hx hb dX4_notesFit_42 (lv_at hl 0 rfl) ?_
            refine lv_iconst (v := 4) hx hb dX4_notesFit_44 (by decide) ?_
            refine va_iald hx hb hK hP 4 0 rfl rfl (by unfold vp_in; decide) dX4_notesFit_45 ?_
            rw [show ((4 : Int32)).toNatClampNeg = 4 from rfl]
            refine lv_icmp_eq (tgt := 51) hx hb dX4_notesFit_46 (by decide) (fun h67 => ?_) (fun h68 => ?_)
            · skip
              refine lv_iinc (v := (nI 3)) (lv' := [(3, .int (nI 3)), (4, .ref t2), (0, .ref nw), (1, .int x), (2, .ref o)]) hx hb dX4_notesFit_51 hl (k := 1) rfl (nI_1 2) (by decide) rfl (fun ls hl => ?_)
              refine lv_goto (tgt := 2) hx hb dX4_notesFit_54 (by decide) ?_
              exact ihj91 3  H locs ls (by omega) (by omega)  (hP.sub [0, 8, 1, 2, 3, 4, 5, 6, 7] rfl) (hD.sub [0, 8, 1, 2, 3, 4, 5, 6, 7] (by decide) rfl) hS (lv_sub hl [0, 2, 3, 4] rfl)
            · skip
              refine lv_iconst (v := 0) hx hb dX4_notesFit_49 (by decide) ?_
              exact W.zret (v := 0) hx hb hr (by decide) (fun tZ ht hW => ⟨⟨0, (), rfl, Or.inl rfl, by rw [ht]; exact hP.sub [0, 8, 1, 2, 3, 4, 5, 6, 7] rfl, hD.sub [0, 8, 1, 2, 3, 4, 5, 6, 7] (by decide) rfl⟩, hS.F ht⟩) hS.2.2 dX4_notesFit_50
        · skip
          refine kw_aldQ hx hb hK hP 2 6 rfl rfl (vp_in_nI (by omega) (by decide)) dX4_notesFit_15 ?_
          rw [nI_clamp (n := 3) (by omega), show va_rf (fn_ 3) = .ref t3 from congrArg va_rf hn3]
          refine lv_astore (lv' := [(4, .ref t3), (3, .int (nI 3)), (0, .ref nw), (1, .int x), (2, .ref o)]) hx hb dX4_notesFit_16 hl (by decide) rfl (fun ls hl => ?_)
          refine lv_aload hx hb dX4_notesFit_18 (lv_at hl 0 rfl) ?_
          refine lv_iconst (v := 0) hx hb dX4_notesFit_20 (by decide) ?_
          refine va_iald hx hb hK hP 6 0 rfl rfl (by unfold vp_in; decide) dX4_notesFit_21 ?_
          rw [show ((0 : Int32)).toNatClampNeg = 0 from rfl]
          refine lv_iload_n hx hb dX4_notesFit_22 rfl (lv_at hl 3 rfl) ?_
          refine lv_icmp_ne (tgt := 51) hx hb dX4_notesFit_23 (by decide) (fun h69 => ?_) (fun h70 => ?_)
          · skip
            refine lv_iinc (v := (nI 4)) (lv' := [(3, .int (nI 4)), (4, .ref t3), (0, .ref nw), (1, .int x), (2, .ref o)]) hx hb dX4_notesFit_51 hl (k := 1) rfl (nI_1 3) (by decide) rfl (fun ls hl => ?_)
            refine lv_goto (tgt := 2) hx hb dX4_notesFit_54 (by decide) ?_
            exact ihj91 4  H locs ls (by omega) (by omega)  (hP.sub [0, 1, 2, 3, 4, 5, 6, 7, 8] rfl) (hD.sub [0, 1, 2, 3, 4, 5, 6, 7, 8] (by decide) rfl) hS (lv_sub hl [0, 2, 3, 4] rfl)
          · skip
            refine lv_aload_n hx hb dX4_notesFit_26 rfl (lv_at hl 4 rfl) ?_
            refine lv_aload hx hb dX4_notesFit_27 (lv_at hl 0 rfl) ?_
            refine lv_iconst (v := 1) hx hb dX4_notesFit_29 (by decide) ?_
            refine va_iald hx hb hK hP 6 0 rfl rfl (by unfold vp_in; decide) dX4_notesFit_30 ?_
            rw [show ((1 : Int32)).toNatClampNeg = 1 from rfl]
            refine lv_aload hx hb dX4_notesFit_31 (lv_at hl 0 rfl) ?_
            refine lv_iconst (v := 2) hx hb dX4_notesFit_33 (by decide) ?_
            refine va_iald hx hb hK hP 6 0 rfl rfl (by unfold vp_in; decide) dX4_notesFit_34 ?_
            rw [show ((2 : Int32)).toNatClampNeg = 2 from rfl]
            refine lv_aload hx hb dX4_notesFit_35 (lv_at hl 0 rfl) ?_
            refine lv_iconst (v := 3) hx hb dX4_notesFit_37 (by decide) ?_
            refine va_iald hx hb hK hP 6 0 rfl rfl (by unfold vp_in; decide) dX4_notesFit_38 ?_
            rw [show ((3 : Int32)).toNatClampNeg = 3 from rfl]
            have hs71 : kw_Split [(nw, .inr (4, [.ref kk, .ref nk, .ref nd, .ref ne, .ref nm, .ref nn, .int (nI fi), .int (nI gl), .int (nI un), .int (nI mi), .int (nI no)])), (o, .inr (6, [])), (nn, .inl (y 6, 6, .inr (.inr (.inr (.inr fn_))))), (t0, .inl (y 0, 5, .inl t0f)), (t1, .inl (y 0, 5, .inl t1f)), (t2, .inl (y 0, 5, .inl t2f)), (t3, .inl (y 0, 5, .inl t3f)), (t4, .inl (y 0, 5, .inl t4f)), (t5, .inl (y 0, 5, .inl t5f))] [(o, .inr (6, []))] [(nw, .inr (4, [.ref kk, .ref nk, .ref nd, .ref ne, .ref nm, .ref nn, .int (nI fi), .int (nI gl), .int (nI un), .int (nI mi), .int (nI no)])), (nn, .inl (y 6, 6, .inr (.inr (.inr (.inr fn_))))), (t0, .inl (y 0, 5, .inl t0f)), (t1, .inl (y 0, 5, .inl t1f)), (t2, .inl (y 0, 5, .inl t2f)), (t3, .inl (y 0, 5, .inl t3f)), (t4, .inl (y 0, 5, .inl t4f)), (t5, .inl (y 0, 5, .inl t5f))] [1] [0, 2, 3, 4, 5, 6, 7, 8] := ⟨rfl, rfl, rfl, rfl, rfl, by decide⟩
            refine kw_go_i hs71 hP hD hS hA (va_runU (As := [.int (t3f 1), .int (t3f 2), .int (t3f 3)]) (rest := []) ⟨hx, hb, hml, hown, hts⟩ (gc_Puddle_on6 l D y o (t3f 1) (t3f 2) (t3f 3)  _) (va_cwO 3 hts gX4_notesFit_X6_sight_u89X6 rfl rfl rfl (List.mem_of_getElem? (i := 24) rfl) (by decide +kernel) ⟨Nat.le_of_ble_eq_true rfl, Nat.le_of_ble_eq_true rfl⟩) (kw_PreV (ci := 6) (q0 := 1) hs71 hP hD hK hN rfl rfl) rfl rfl hl.1 rfl (lv_room (Nat.le_of_ble_eq_true rfl)) dX4_notesFit_39 ⟨Nat.le_of_ble_eq_true rfl, Nat.le_of_ble_eq_true rfl⟩) (fun r72 u73 H locs hq hP hD hS => ?_)
            obtain rfl := hq
            have hP : va_P D vwCl [(nw, .inr (4, [.ref kk, .ref nk, .ref nd, .ref ne, .ref nm, .ref nn, .int (nI fi), .int (nI gl), .int (nI un), .int (nI mi), .int (nI no)])), (nn, .inl (y 6, 6, .inr (.inr (.inr (.inr fn_))))), (t0, .inl (y 0, 5, .inl t0f)), (t1, .inl (y 0, 5, .inl t1f)), (t2, .inl (y 0, 5, .inl t2f)), (t3, .inl (y 0, 5, .inl t3f)), (t4, .inl (y 0, 5, .inl t4f)), (t5, .inl (y 0, 5, .inl t5f)), (o, .inr (6, []))] H := hP
            have hD : va_D A [(nw, .inr (4, [.ref kk, .ref nk, .ref nd, .ref ne, .ref nm, .ref nn, .int (nI fi), .int (nI gl), .int (nI un), .int (nI mi), .int (nI no)])), (nn, .inl (y 6, 6, .inr (.inr (.inr (.inr fn_))))), (t0, .inl (y 0, 5, .inl t0f)), (t1, .inl (y 0, 5, .inl t1f)), (t2, .inl (y 0, 5, .inl t2f)), (t3, .inl (y 0, 5, .inl t3f)), (t4, .inl (y 0, 5, .inl t4f)), (t5, .inl (y 0, 5, .inl t5f)), (o, .inr (6, []))] := hD
            refine lv_aload hx hb dX4_notesFit_42 (lv_at hl 0 rfl) ?_
            refine lv_iconst (v := 4) hx hb dX4_notesFit_44 (by decide) ?_
            refine va_iald hx hb hK hP 5 0 rfl rfl (by unfold vp_in; decide) dX4_notesFit_45 ?_
            rw [show ((4 : Int32)).toNatClampNeg = 4 from rfl]
            refine lv_icmp_eq (tgt := 51) hx hb dX4_notesFit_46 (by decide) (fun h74 => ?_) (fun h75 => ?_)
            · skip
              refine lv_iinc (v := (nI 4)) (lv' := [(3, .int (nI 4)), (4, .ref t3), (0, .ref nw), (1, .int x), (2, .ref o)]) hx hb dX4_notesFit_51 hl (k := 1) rfl (nI_1 3) (by decide) rfl (fun ls hl => ?_)
              refine lv_goto (tgt := 2) hx hb dX4_notesFit_54 (by decide) ?_
              exact ihj91 4  H locs ls (by omega) (by omega)  (hP.sub [0, 8, 1, 2, 3, 4, 5, 6, 7] rfl) (hD.sub [0, 8, 1, 2, 3, 4, 5, 6, 7] (by decide) rfl) hS (lv_sub hl [0, 2, 3, 4] rfl)
            · skip
              refine lv_iconst (v := 0) hx hb dX4_notesFit_49 (by decide) ?_
              exact W.zret (v := 0) hx hb hr (by decide) (fun tZ ht hW => ⟨⟨0, (), rfl, Or.inl rfl, by rw [ht]; exact hP.sub [0, 8, 1, 2, 3, 4, 5, 6, 7] rfl, hD.sub [0, 8, 1, 2, 3, 4, 5, 6, 7] (by decide) rfl⟩, hS.F ht⟩) hS.2.2 dX4_notesFit_50
        · skip
          refine kw_aldQ hx hb hK hP 2 6 rfl rfl (vp_in_nI (by omega) (by decide)) dX4_notesFit_15 ?_
          rw [nI_clamp (n := 4) (by omega), show va_rf (fn_ 4) = .ref t4 from congrArg va_rf hn4]
          refine lv_astore (lv' := [(4, .ref t4), (3, .int (nI 4)), (0, .ref nw), (1, .int x), (2, .ref o)]) hx hb dX4_notesFit_16 hl (by decide) rfl (fun ls hl => ?_)
          refine lv_aload hx hb dX4_notesFit_18 (lv_at hl 0 rfl) ?_
          refine lv_iconst (v := 0) hx hb dX4_notesFit_20 (by decide) ?_
          refine va_iald hx hb hK hP 7 0 rfl rfl (by unfold vp_in; decide) dX4_notesFit_21 ?_
          rw [show ((0 : Int32)).toNatClampNeg = 0 from rfl]
          refine lv_iload_n hx hb dX4_notesFit_22 rfl (lv_at hl 3 rfl) ?_
          refine lv_icmp_ne (tgt := 51) hx hb dX4_notesFit_23 (by decide) (fun h76 => ?_) (fun h77 => ?_)
          · skip
            refine lv_iinc (v := (nI 5)) (lv' := [(3, .int (nI 5)), (4, .ref t4), (0, .ref nw), (1, .int x), (2, .ref o)]) hx hb dX4_notesFit_51 hl (k := 1) rfl (nI_1 4) (by decide) rfl (fun ls hl => ?_)
            refine lv_goto (tgt := 2) hx hb dX4_notesFit_54 (by decide) ?_
            exact ihj91 5  H locs ls (by omega) (by omega)  (hP.sub [0, 1, 2, 3, 4, 5, 6, 7, 8] rfl) (hD.sub [0, 1, 2, 3, 4, 5, 6, 7, 8] (by decide) rfl) hS (lv_sub hl [0, 2, 3, 4] rfl)
          · skip
            refine lv_aload_n hx hb dX4_notesFit_26 rfl (lv_at hl 4 rfl) ?_
            refine lv_aload hx hb dX4_notesFit_27 (lv_at hl 0 rfl) ?_
            refine lv_iconst (v := 1) hx hb dX4_notesFit_29 (by decide) ?_
            refine va_iald hx hb hK hP 7 0 rfl rfl (by unfold vp_in; decide) dX4_notesFit_30 ?_
            rw [show ((1 : Int32)).toNatClampNeg = 1 from rfl]
            refine lv_aload hx hb dX4_notesFit_31 (lv_at hl 0 rfl) ?_
            refine lv_iconst (v := 2) hx hb dX4_notesFit_33 (by decide) ?_
            refine va_iald hx hb hK hP 7 0 rfl rfl (by unfold vp_in; decide) dX4_notesFit_34 ?_
            rw [show ((2 : Int32)).toNatClampNeg = 2 from rfl]
            refine lv_aload hx hb dX4_notesFit_35 (lv_at hl 0 rfl) ?_
            refine lv_iconst (v := 3) hx hb dX4_notesFit_37 (by decide) ?_
            refine va_iald hx hb hK hP 7 0 rfl rfl (by unfold vp_in; decide) dX4_notesFit_38 ?_
            rw [show ((3 : Int32)).toNatClampNeg = 3 from rfl]
            have hs78 : kw_Split [(nw, .inr (4, [.ref kk, .ref nk, .ref nd, .ref ne, .ref nm, .ref nn, .int (nI fi), .int (nI gl), .int (nI un), .int (nI mi), .int (nI no)])), (o, .inr (6, [])), (nn, .inl (y 6, 6, .inr (.inr (.inr (.inr fn_))))), (t0, .inl (y 0, 5, .inl t0f)), (t1, .inl (y 0, 5, .inl t1f)), (t2, .inl (y 0, 5, .inl t2f)), (t3, .inl (y 0, 5, .inl t3f)), (t4, .inl (y 0, 5, .inl t4f)), (t5, .inl (y 0, 5, .inl t5f))] [(o, .inr (6, []))] [(nw, .inr (4, [.ref kk, .ref nk, .ref nd, .ref ne, .ref nm, .ref nn, .int (nI fi), .int (nI gl), .int (nI un), .int (nI mi), .int (nI no)])), (nn, .inl (y 6, 6, .inr (.inr (.inr (.inr fn_))))), (t0, .inl (y 0, 5, .inl t0f)), (t1, .inl (y 0, 5, .inl t1f)), (t2, .inl (y 0, 5, .inl t2f)), (t3, .inl (y 0, 5, .inl t3f)), (t4, .inl (y 0, 5, .inl t4f)), (t5, .inl (y 0, 5, .inl t5f))] [1] [0, 2, 3, 4, 5, 6, 7, 8] := ⟨rfl, rfl, rfl, rfl, rfl, by decide⟩
            refine kw_go_i hs78 hP hD hS hA (va_runU (As := [.int (t4f 1), .int (t4f 2), .int (t4f 3)]) (rest := []) ⟨hx, hb, hml, hown, hts⟩ (gc_Puddle_on6 l D y o (t4f 1) (t4f 2) (t4f 3)  _) (va_cwO 3 hts gX4_notesFit_X6_sight_u89X6 rfl rfl rfl (List.mem_of_getElem? (i := 24) rfl) (by decide +kernel) ⟨Nat.le_of_ble_eq_true rfl, Nat.le_of_ble_eq_true rfl⟩) (kw_PreV (ci := 6) (q0 := 1) hs78 hP hD hK hN rfl rfl) rfl rfl hl.1 rfl (lv_room (Nat.le_of_ble_eq_true rfl)) dX4_notesFit_39 ⟨Nat.le_of_ble_eq_true rfl, Nat.le_of_ble_eq_true rfl⟩) (fun r79 u80 H locs hq hP hD hS => ?_)
            obtain rfl := hq
            have hP : va_P D vwCl [(nw, .inr (4, [.ref kk, .ref nk, .ref nd, .ref ne, .ref nm, .ref nn, .int (nI fi), .int (nI gl), .int (nI un), .int (nI mi), .int (nI no)])), (nn, .inl (y 6, 6, .inr (.inr (.inr (.inr fn_))))), (t0, .inl (y 0, 5, .inl t0f)), (t1, .inl (y 0, 5, .inl t1f)), (t2, .inl (y 0, 5, .inl t2f)), (t3, .inl (y 0, 5, .inl t3f)), (t4, .inl (y 0, 5, .inl t4f)), (t5, .inl (y 0, 5, .inl t5f)), (o, .inr (6, []))] H := hP
            have hD : va_D A [(nw, .inr (4, [.ref kk, .ref nk, .ref nd, .ref ne, .ref nm, .ref nn, .int (nI fi), .int (nI gl), .int (nI un), .int (nI mi), .int (nI no)])), (nn, .inl (y 6, 6, .inr (.inr (.inr (.inr fn_))))), (t0, .inl (y 0, 5, .inl t0f)), (t1, .inl (y 0, 5, .inl t1f)), (t2, .inl (y 0, 5, .inl t2f)), (t3, .inl (y 0, 5, .inl t3f)), (t4, .inl (y 0, 5, .inl t4f)), (t5, .inl (y 0, 5, .inl t5f)), (o, .inr (6, []))] := hD
            refine lv_aload hx hb dX4_notesFit_42 (lv_at hl 0 rfl) ?_
            refine lv_iconst (v := 4) hx hb dX4_notesFit_44 (by decide) ?_
            refine va_iald hx hb hK hP 6 0 rfl rfl (by unfold vp_in; decide) dX4_notesFit_45 ?_
            rw [show ((4 : Int32)).toNatClampNeg = 4 from rfl]
            refine lv_icmp_eq (tgt := 51) hx hb dX4_notesFit_46 (by decide) (fun h81 => ?_) (fun h82 => ?_)
            · skip
              refine lv_iinc (v := (nI 5)) (lv' := [(3, .int (nI 5)), (4, .ref t4), (0, .ref nw), (1, .int x), (2, .ref o)]) hx hb dX4_notesFit_51 hl (k := 1) rfl (nI_1 4) (by decide) rfl (fun ls hl => ?_)
              refine lv_goto (tgt := 2) hx hb dX4_notesFit_54 (by decide) ?_
              exact ihj91 5  H locs ls (by omega) (by omega)  (hP.sub [0, 8, 1, 2, 3, 4, 5, 6, 7] rfl) (hD.sub [0, 8, 1, 2, 3, 4, 5, 6, 7] (by decide) rfl) hS (lv_sub hl [0, 2, 3, 4] rfl)
            · skip
              refine lv_iconst (v := 0) hx hb dX4_notesFit_49 (by decide) ?_
              exact W.zret (v := 0) hx hb hr (by decide) (fun tZ ht hW => ⟨⟨0, (), rfl, Or.inl rfl, by rw [ht]; exact hP.sub [0, 8, 1, 2, 3, 4, 5, 6, 7] rfl, hD.sub [0, 8, 1, 2, 3, 4, 5, 6, 7] (by decide) rfl⟩, hS.F ht⟩) hS.2.2 dX4_notesFit_50
        · skip
          refine kw_aldQ hx hb hK hP 2 6 rfl rfl (vp_in_nI (by omega) (by decide)) dX4_notesFit_15 ?_
          rw [nI_clamp (n := 5) (by omega), show va_rf (fn_ 5) = .ref t5 from congrArg va_rf hn5]
          refine lv_astore (lv' := [(4, .ref t5), (3, .int (nI 5)), (0, .ref nw), (1, .int x), (2, .ref o)]) hx hb dX4_notesFit_16 hl (by decide) rfl (fun ls hl => ?_)
          refine lv_aload hx hb dX4_notesFit_18 (lv_at hl 0 rfl) ?_
          refine lv_iconst (v := 0) hx hb dX4_notesFit_20 (by decide) ?_
          refine va_iald hx hb hK hP 8 0 rfl rfl (by unfold vp_in; decide) dX4_notesFit_21 ?_
          rw [show ((0 : Int32)).toNatClampNeg = 0 from rfl]
          refine lv_iload_n hx hb dX4_notesFit_22 rfl (lv_at hl 3 rfl) ?_
          refine lv_icmp_ne (tgt := 51) hx hb dX4_notesFit_23 (by decide) (fun h83 => ?_) (fun h84 => ?_)
          · skip
            refine lv_iinc (v := (nI 6)) (lv' := [(3, .int (nI 6)), (4, .ref t5), (0, .ref nw), (1, .int x), (2, .ref o)]) hx hb dX4_notesFit_51 hl (k := 1) rfl (nI_1 5) (by decide) rfl (fun ls hl => ?_)
            refine lv_goto (tgt := 2) hx hb dX4_notesFit_54 (by decide) ?_
            exact ihj91 6  H locs ls (by omega) (by omega)  (hP.sub [0, 1, 2, 3, 4, 5, 6, 7, 8] rfl) (hD.sub [0, 1, 2, 3, 4, 5, 6, 7, 8] (by decide) rfl) hS (lv_sub hl [0, 2, 3, 4] rfl)
          · skip
            refine lv_aload_n hx hb dX4_notesFit_26 rfl (lv_at hl 4 rfl) ?_
            refine lv_aload hx hb dX4_notesFit_27 (lv_at hl 0 rfl) ?_
            refine lv_iconst (v := 1) hx hb dX4_notesFit_29 (by decide) ?_
            refine va_iald hx hb hK hP 8 0 rfl rfl (by unfold vp_in; decide) dX4_notesFit_30 ?_
            rw [show ((1 : Int32)).toNatClampNeg = 1 from rfl]
            refine lv_aload hx hb dX4_notesFit_31 (lv_at hl 0 rfl) ?_
            refine lv_iconst (v := 2) hx hb dX4_notesFit_33 (by decide) ?_
            refine va_iald hx hb hK hP 8 0 rfl rfl (by unfold vp_in; decide) dX4_notesFit_34 ?_
            rw [show ((2 : Int32)).toNatClampNeg = 2 from rfl]
            refine lv_aload hx hb dX4_notesFit_35 (lv_at hl 0 rfl) ?_
            refine lv_iconst (v := 3) hx hb dX4_notesFit_37 (by decide) ?_
            refine va_iald hx hb hK hP 8 0 rfl rfl (by unfold vp_in; decide) dX4_notesFit_38 ?_
            rw [show ((3 : Int32)).toNatClampNeg = 3 from rfl]
            have hs85 : kw_Split [(nw, .inr (4, [.ref kk, .ref nk, .ref nd, .ref ne, .ref nm, .ref nn, .int (nI fi), .int (nI gl), .int (nI un), .int (nI mi), .int (nI no)])), (o, .inr (6, [])), (nn, .inl (y 6, 6, .inr (.inr (.inr (.inr fn_))))), (t0, .inl (y 0, 5, .inl t0f)), (t1, .inl (y 0, 5, .inl t1f)), (t2, .inl (y 0, 5, .inl t2f)), (t3, .inl (y 0, 5, .inl t3f)), (t4, .inl (y 0, 5, .inl t4f)), (t5, .inl (y 0, 5, .inl t5f))] [(o, .inr (6, []))] [(nw, .inr (4, [.ref kk, .ref nk, .ref nd, .ref ne, .ref nm, .ref nn, .int (nI fi), .int (nI gl), .int (nI un), .int (nI mi), .int (nI no)])), (nn, .inl (y 6, 6, .inr (.inr (.inr (.inr fn_))))), (t0, .inl (y 0, 5, .inl t0f)), (t1, .inl (y 0, 5, .inl t1f)), (t2, .inl (y 0, 5, .inl t2f)), (t3, .inl (y 0, 5, .inl t3f)), (t4, .inl (y 0, 5, .inl t4f)), (t5, .inl (y 0, 5, .inl t5f))] [1] [0, 2, 3, 4, 5, 6, 7, 8] := ⟨rfl, rfl, rfl, rfl, rfl, by decide⟩
            refine kw_go_i hs85 hP hD hS hA (va_runU (As := [.int (t5f 1), .int (t5f 2), .int (t5f 3)]) (rest := []) ⟨hx, hb, hml, hown, hts⟩ (gc_Puddle_on6 l D y o (t5f 1) (t5f 2) (t5f 3)  _) (va_cwO 3 hts gX4_notesFit_X6_sight_u89X6 rfl rfl rfl (List.mem_of_getElem? (i := 24) rfl) (by decide +kernel) ⟨Nat.le_of_ble_eq_true rfl, Nat.le_of_ble_eq_true rfl⟩) (kw_PreV (ci := 6) (q0 := 1) hs85 hP hD hK hN rfl rfl) rfl rfl hl.1 rfl (lv_room (Nat.le_of_ble_eq_true rfl)) dX4_notesFit_39 ⟨Nat.le_of_ble_eq_true rfl, Nat.le_of_ble_eq_true rfl⟩) (fun r86 u87 H locs hq hP hD hS => ?_)
            obtain rfl := hq
            have hP : va_P D vwCl [(nw, .inr (4, [.ref kk, .ref nk, .ref nd, .ref ne, .ref nm, .ref nn, .int (nI fi), .int (nI gl), .int (nI un), .int (nI mi), .int (nI no)])), (nn, .inl (y 6, 6, .inr (.inr (.inr (.inr fn_))))), (t0, .inl (y 0, 5, .inl t0f)), (t1, .inl (y 0, 5, .inl t1f)), (t2, .inl (y 0, 5, .inl t2f)), (t3, .inl (y 0, 5, .inl t3f)), (t4, .inl (y 0, 5, .inl t4f)), (t5, .inl (y 0, 5, .inl t5f)), (o, .inr (6, []))] H := hP
            have hD : va_D A [(nw, .inr (4, [.ref kk, .ref nk, .ref nd, .ref ne, .ref nm, .ref nn, .int (nI fi), .int (nI gl), .int (nI un), .int (nI mi), .int (nI no)])), (nn, .inl (y 6, 6, .inr (.inr (.inr (.inr fn_))))), (t0, .inl (y 0, 5, .inl t0f)), (t1, .inl (y 0, 5, .inl t1f)), (t2, .inl (y 0, 5, .inl t2f)), (t3, .inl (y 0, 5, .inl t3f)), (t4, .inl (y 0, 5, .inl t4f)), (t5, .inl (y 0, 5, .inl t5f)), (o, .inr (6, []))] := hD
            refine lv_aload hx hb dX4_notesFit_42 (lv_at hl 0 rfl) ?_
            refine lv_iconst (v := 4) hx hb dX4_notesFit_44 (by decide) ?_
            refine va_iald hx hb hK hP 7 0 rfl rfl (by unfold vp_in; decide) dX4_notesFit_45 ?_
            rw [show ((4 : Int32)).toNatClampNeg = 4 from rfl]
            refine lv_icmp_eq (tgt := 51) hx hb dX4_notesFit_46 (by decide) (fun h88 => ?_) (fun h89 => ?_)
            · skip
              refine lv_iinc (v := (nI 6)) (lv' := [(3, .int (nI 6)), (4, .ref t5), (0, .ref nw), (1, .int x), (2, .ref o)]) hx hb dX4_notesFit_51 hl (k := 1) rfl (nI_1 5) (by decide) rfl (fun ls hl => ?_)
              refine lv_goto (tgt := 2) hx hb dX4_notesFit_54 (by decide) ?_
              exact ihj91 6  H locs ls (by omega) (by omega)  (hP.sub [0, 8, 1, 2, 3, 4, 5, 6, 7] rfl) (hD.sub [0, 8, 1, 2, 3, 4, 5, 6, 7] (by decide) rfl) hS (lv_sub hl [0, 2, 3, 4] rfl)
            · skip
              refine lv_iconst (v := 0) hx hb dX4_notesFit_49 (by decide) ?_
              exact W.zret (v := 0) hx hb hr (by decide) (fun tZ ht hW => ⟨⟨0, (), rfl, Or.inl rfl, by rw [ht]; exact hP.sub [0, 8, 1, 2, 3, 4, 5, 6, 7] rfl, hD.sub [0, 8, 1, 2, 3, 4, 5, 6, 7] (by decide) rfl⟩, hS.F ht⟩) hS.2.2 dX4_notesFit_50
  exact lp45 (no + 1) 0  _ _ _ (by omega) (by omega)  hP hD hS (lv_sub hl [0, 1, 2, 3] rfl)

set_option maxHeartbeats 4000000 in
set_option maxRecDepth 100000 in
theorem gc_notesFit_on2 (l : Launch) (D : va_G) (y : Nat → ClassId) (nw : Nat) (kk : Nat) (nk : Nat) (nd : Nat) (ne : Nat) (nm : Nat) (nn : Nat) (fi : Nat) (gl : Nat) (un : Nat) (mi : Nat) (no : Nat) (t0 : Nat) (t1 : Nat) (t2 : Nat) (t3 : Nat) (t4 : Nat) (t5 : Nat) (t0f : Nat → Int32) (t1f : Nat → Int32) (t2f : Nat → Int32) (t3f : Nat → Int32) (t4f : Nat → Int32) (t5f : Nat → Int32) (fn_ : Nat → Option Nat) (o : Nat) (x : Int32) (hfi : fi ≤ 6) (hgl : gl ≤ 5) (hun : un ≤ 8) (hmi : mi ≤ 4) (hno : no ≤ 6) (hn0 : fn_ 0 = some t0) (hn1 : fn_ 1 = some t1) (hn2 : fn_ 2 = some t2) (hn3 : fn_ 3 = some t3) (hn4 : fn_ 4 = some t4) (hn5 : fn_ 5 = some t5) : kw_Mi l yX4_notesFit wsX4_notesFit ({ frames := 4, cells := 0, slots := 0, locals := 130 }) D y [.ref nw, .int x, .ref o] [(nw, .inr (4, [.ref kk, .ref nk, .ref nd, .ref ne, .ref nm, .ref nn, .int (nI fi), .int (nI gl), .int (nI un), .int (nI mi), .int (nI no)])), (o, .inr (2, [])), (nn, .inl (y 6, 6, .inr (.inr (.inr (.inr fn_))))), (t0, .inl (y 0, 5, .inl t0f)), (t1, .inl (y 0, 5, .inl t1f)), (t2, .inl (y 0, 5, .inl t2f)), (t3, .inl (y 0, 5, .inl t3f)), (t4, .inl (y 0, 5, .inl t4f)), (t5, .inl (y 0, 5, .inl t5f))] (fun (r : Int32) (u : Unit) => (r = 0 ∨ r = 1)) (fun _ => [(nw, .inr (4, [.ref kk, .ref nk, .ref nd, .ref ne, .ref nm, .ref nn, .int (nI fi), .int (nI gl), .int (nI un), .int (nI mi), .int (nI no)])), (o, .inr (2, [])), (nn, .inl (y 6, 6, .inr (.inr (.inr (.inr fn_))))), (t0, .inl (y 0, 5, .inl t0f)), (t1, .inl (y 0, 5, .inl t1f)), (t2, .inl (y 0, 5, .inl t2f)), (t3, .inl (y 0, 5, .inl t3f)), (t4, .inl (y 0, 5, .inl t4f)), (t5, .inl (y 0, 5, .inl t5f))]) 0 0 := by
  refine kw_Mi.of (cc := cX4_notesFit) (maxL := 5) (ret := (some .boolean)) (by decide) rfl ?_
  intro pZ eZ s mZ beZ meZ cZ A hE
  obtain ⟨hx, hb, hr, hml, hts, hown, hlocks, hin, hA, hP, hD, hK, hN⟩ := hE
  have hS : va_S A s.heap s.heap [] := va_S.rf
  have hl := lv_entry ([.ref nw, .int x, .ref o]) (n := 5) (Nat.le_of_ble_eq_true rfl)
  rw [lg_entry_eq]
  generalize (lg_sl ([.ref nw, .int x, .ref o]) ++ List.replicate (5 - (lg_sl ([.ref nw, .int x, .ref o])).length) Slot.unset).toArray = ls at hl ⊢
  have hl : lv_has ls 5 [(0, .ref nw), (1, .int x), (2, .ref o)] := hl
  have fw1 := hts (.fieldLink RX4 51 "GleanDusk$Parish" "noteCount" "I") (List.mem_of_getElem? (i := 1) rfl)
  have fw2 := hts (.fieldLink RX4 31 "GleanDusk$Parish" "notes" "[[I") (List.mem_of_getElem? (i := 2) rfl)
  have iw4 : ∀ w ∈ wsX40, w ∈ wsX4_notesFit := fun _ h => List.mem_cons_of_mem _ (List.mem_append_right _ h)
  refine lv_iconst (v := 0) hx hb dX4_notesFit_0 (by decide) ?_
  refine lv_istore_n (lv' := [(3, .int 0), (0, .ref nw), (1, .int x), (2, .ref o)]) hx hb dX4_notesFit_1 rfl hl (by decide) rfl (fun ls hl => ?_)
  have lp45 : ∀ (fuj91 j91 : Nat)  (H : Heap) (locs : List Loc) (ls : Array Slot), j91 ≤ no → no - j91 < fuj91 → va_P D vwCl [(nw, .inr (4, [.ref kk, .ref nk, .ref nd, .ref ne, .ref nm, .ref nn, .int (nI fi), .int (nI gl), .int (nI un), .int (nI mi), .int (nI no)])), (o, .inr (2, [])), (nn, .inl (y 6, 6, .inr (.inr (.inr (.inr fn_))))), (t0, .inl (y 0, 5, .inl t0f)), (t1, .inl (y 0, 5, .inl t1f)), (t2, .inl (y 0, 5, .inl t2f)), (t3, .inl (y 0, 5, .inl t3f)), (t4, .inl (y 0, 5, .inl t4f)), (t5, .inl (y 0, 5, .inl t5f))] H → va_D A [(nw, .inr (4, [.ref kk, .ref nk, .ref nd, .ref ne, .ref nm, .ref nn, .int (nI fi), .int (nI gl), .int (nI un), .int (nI mi), .int (nI no)])), (o, .inr (2, [])), (nn, .inl (y 6, 6, .inr (.inr (.inr (.inr fn_))))), (t0, .inl (y 0, 5, .inl t0f)), (t1, .inl (y 0, 5, .inl t1f)), (t2, .inl (y 0, 5, .inl t2f)), (t3, .inl (y 0, 5, .inl t3f)), (t4, .inl (y 0, 5, .inl t4f)), (t5, .inl (y 0, 5, .inl t5f))] → va_S A s.heap H locs → lv_has ls 5 [(3, .int (nI j91)), (0, .ref nw), (1, .int x), (2, .ref o)] → W pZ l eZ ({ frames := 4, cells := 0, slots := 0, locals := 130 }) s mZ [.ref nw, .int x, .ref o].toArray beZ meZ cZ H locs 0 0 (MQ beZ (va_Qi (fun (r : Int32) (u : Unit) => (r = 0 ∨ r = 1)) (kw_B D (fun _ => [(nw, .inr (4, [.ref kk, .ref nk, .ref nd, .ref ne, .ref nm, .ref nn, .int (nI fi), .int (nI gl), .int (nI un), .int (nI mi), .int (nI no)])), (o, .inr (2, [])), (nn, .inl (y 6, 6, .inr (.inr (.inr (.inr fn_))))), (t0, .inl (y 0, 5, .inl t0f)), (t1, .inl (y 0, 5, .inl t1f)), (t2, .inl (y 0, 5, .inl t2f)), (t3, .inl (y 0, 5, .inl t3f)), (t4, .inl (y 0, 5, .inl t4f)), (t5, .inl (y 0, 5, .inl t5f))]) A) A) [.ref nw, .int x, .ref o].toArray s 0 0 A) (F0 mZ 2 ls []) := by
    intro fuj91
    induction fuj91 with
    | zero => intro j91  H locs ls hj9 hf9; exact absurd hf9 (Nat.not_lt_zero _)
    | succ fuj91 ihj91 =>
      intro j91  H locs ls hj91 hfj91  hP hD hS hl
      refine lv_iload_n hx hb dX4_notesFit_2 rfl (lv_at hl 0 rfl) ?_
      refine lv_aload_n hx hb dX4_notesFit_3 rfl (lv_at hl 1 rfl) ?_
      refine va_get (D := D) (ci := 4) (v := .int (nI no)) (C := RX4) (T := TX4) (N := 11) hx hb hts iw4 hown hK hP 0 rfl rfl 10 (by decide) fw1 (fun _ h9 => h9) rfl dX4_notesFit_4 ?_
      refine lv_icmp_ge (tgt := 57) hx hb dX4_notesFit_7 (by decide) (fun h46 => ?_) (fun h47 => ?_)
      · skip
        have h46 : no ≤ j91 := (nI_leI (a := no) (b := j91) (by omega) (by omega)).mp h46
        refine lv_iconst (v := 1) hx hb dX4_notesFit_57 (by decide) ?_
        exact W.zret (v := 1) hx hb hr (by decide) (fun tZ ht hW => ⟨⟨1, (), rfl, Or.inr rfl, by rw [ht]; exact hP.sub [0, 1, 2, 3, 4, 5, 6, 7, 8] rfl, hD.sub [0, 1, 2, 3, 4, 5, 6, 7, 8] (by decide) rfl⟩, hS.F ht⟩) hS.2.2 dX4_notesFit_58
      · skip
        have h47 : ¬ no ≤ j91 := fun q9 => h47 ((nI_leI (a := no) (b := j91) (by omega) (by omega)).mpr q9)
        refine lv_aload_n hx hb dX4_notesFit_10 rfl (lv_at hl 1 rfl) ?_
        refine va_get (D := D) (ci := 4) (v := .ref nn) (C := RX4) (T := TX4) (N := 11) hx hb hts iw4 hown hK hP 0 rfl rfl 5 (by decide) fw2 (fun _ h9 => h9) rfl dX4_notesFit_11 ?_
        refine lv_iload_n hx hb dX4_notesFit_14 rfl (lv_at hl 0 rfl) ?_
        rcases (show j91 = 0 ∨ j91 = 1 ∨ j91 = 2 ∨ j91 = 3 ∨ j91 = 4 ∨ j91 = 5 by omega) with rfl | rfl | rfl | rfl | rfl | rfl
        · skip
          refine kw_aldQ hx hb hK hP 2 6 rfl rfl (vp_in_nI (by omega) (by decide)) dX4_notesFit_15 ?_
          rw [nI_clamp (n := 0) (by omega), show va_rf (fn_ 0) = .ref t0 from congrArg va_rf hn0]
          refine lv_astore (lv' := [(4, .ref t0), (3, .int (nI 0)), (0, .ref nw), (1, .int x), (2, .ref o)]) hx hb dX4_notesFit_16 hl (by decide) rfl (fun ls hl => ?_)
          refine lv_aload hx hb dX4_notesFit_18 (lv_at hl 0 rfl) ?_
          refine lv_iconst (v := 0) hx hb dX4_notesFit_20 (by decide) ?_
          refine va_iald hx hb hK hP 3 0 rfl rfl (by unfold vp_in; decide) dX4_notesFit_21 ?_
          rw [show ((0 : Int32)).toNatClampNeg = 0 from rfl]
          refine lv_iload_n hx hb dX4_notesFit_22 rfl (lv_at hl 3 rfl) ?_
          refine lv_icmp_ne (tgt := 51) hx hb dX4_notesFit_23 (by decide) (fun h48 => ?_) (fun h49 => ?_)
          · skip
            refine lv_iinc (v := (nI 1)) (lv' := [(3, .int (nI 1)), (4, .ref t0), (0, .ref nw), (1, .int x), (2, .ref o)]) hx hb dX4_notesFit_51 hl (k := 1) rfl (nI_1 0) (by decide) rfl (fun ls hl => ?_)
            refine lv_goto (tgt := 2) hx hb dX4_notesFit_54 (by decide) ?_
            exact ihj91 1  H locs ls (by omega) (by omega)  (hP.sub [0, 1, 2, 3, 4, 5, 6, 7, 8] rfl) (hD.sub [0, 1, 2, 3, 4, 5, 6, 7, 8] (by decide) rfl) hS (lv_sub hl [0, 2, 3, 4] rfl)
          · skip
            refine lv_aload_n hx hb dX4_notesFit_26 rfl (lv_at hl 4 rfl) ?_
            refine lv_aload hx hb dX4_notesFit_27 (lv_at hl 0 rfl) ?_
            refine lv_iconst (v := 1) hx hb dX4_notesFit_29 (by decide) ?_
            refine va_iald hx hb hK hP 3 0 rfl rfl (by unfold vp_in; decide) dX4_notesFit_30 ?_
            rw [show ((1 : Int32)).toNatClampNeg = 1 from rfl]
            refine lv_aload hx hb dX4_notesFit_31 (lv_at hl 0 rfl) ?_
            refine lv_iconst (v := 2) hx hb dX4_notesFit_33 (by decide) ?_
            refine va_iald hx hb hK hP 3 0 rfl rfl (by unfold vp_in; decide) dX4_notesFit_34 ?_
            rw [show ((2 : Int32)).toNatClampNeg = 2 from rfl]
            refine lv_aload hx hb dX4_notesFit_35 (lv_at hl 0 rfl) ?_
            refine lv_iconst (v := 3) hx hb dX4_notesFit_37 (by decide) ?_
            refine va_iald hx hb hK hP 3 0 rfl rfl (by unfold vp_in; decide) dX4_notesFit_38 ?_
            rw [show ((3 : Int32)).toNatClampNeg = 3 from rfl]
            have hs50 : kw_Split [(nw, .inr (4, [.ref kk, .ref nk, .ref nd, .ref ne, .ref nm, .ref nn, .int (nI fi), .int (nI gl), .int (nI un), .int (nI mi), .int (nI no)])), (o, .inr (2, [])), (nn, .inl (y 6, 6, .inr (.inr (.inr (.inr fn_))))), (t0, .inl (y 0, 5, .inl t0f)), (t1, .inl (y 0, 5, .inl t1f)), (t2, .inl (y 0, 5, .inl t2f)), (t3, .inl (y 0, 5, .inl t3f)), (t4, .inl (y 0, 5, .inl t4f)), (t5, .inl (y 0, 5, .inl t5f))] [(o, .inr (2, []))] [(nw, .inr (4, [.ref kk, .ref nk, .ref nd, .ref ne, .ref nm, .ref nn, .int (nI fi), .int (nI gl), .int (nI un), .int (nI mi), .int (nI no)])), (nn, .inl (y 6, 6, .inr (.inr (.inr (.inr fn_))))), (t0, .inl (y 0, 5, .inl t0f)), (t1, .inl (y 0, 5, .inl t1f)), (t2, .inl (y 0, 5, .inl t2f)), (t3, .inl (y 0, 5, .inl t3f)), (t4, .inl (y 0, 5, .inl t4f)), (t5, .inl (y 0, 5, .inl t5f))] [1] [0, 2, 3, 4, 5, 6, 7, 8] := ⟨rfl, rfl, rfl, rfl, rfl, by decide⟩
            refine kw_go_i hs50 hP hD hS hA (va_runU (As := [.int (t0f 1), .int (t0f 2), .int (t0f 3)]) (rest := []) ⟨hx, hb, hml, hown, hts⟩ (gc_Hill_on2 l D y o (t0f 1) (t0f 2) (t0f 3)  _) (va_cwO 3 hts gX4_notesFit_X2_sight_u89X2 rfl rfl rfl (List.mem_of_getElem? (i := 24) rfl) (by decide +kernel) ⟨Nat.le_of_ble_eq_true rfl, Nat.le_of_ble_eq_true rfl⟩) (kw_PreV (ci := 2) (q0 := 1) hs50 hP hD hK hN rfl rfl) rfl rfl hl.1 rfl (lv_room (Nat.le_of_ble_eq_true rfl)) dX4_notesFit_39 ⟨Nat.le_of_ble_eq_true rfl, Nat.le_of_ble_eq_true rfl⟩) (fun r51 u52 H locs hq hP hD hS => ?_)
            have hP : va_P D vwCl [(nw, .inr (4, [.ref kk, .ref nk, .ref nd, .ref ne, .ref nm, .ref nn, .int (nI fi), .int (nI gl), .int (nI un), .int (nI mi), .int (nI no)])), (nn, .inl (y 6, 6, .inr (.inr (.inr (.inr fn_))))), (t0, .inl (y 0, 5, .inl t0f)), (t1, .inl (y 0, 5, .inl t1f)), (t2, .inl (y 0, 5, .inl t2f)), (t3, .inl (y 0, 5, .inl t3f)), (t4, .inl (y 0, 5, .inl t4f)), (t5, .inl (y 0, 5, .inl t5f)), (o, .inr (2, []))] H := hP
            have hD : va_D A [(nw, .inr (4, [.ref kk, .ref nk, .ref nd, .ref ne, .ref nm, .ref nn, .int (nI fi), .int (nI gl), .int (nI un), .int (nI mi), .int (nI no)])), (nn, .inl (y 6, 6, .inr (.inr (.inr (.inr fn_))))), (t0, .inl (y 0, 5, .inl t0f)), (t1, .inl (y 0, 5, .inl t1f)), (t2, .inl (y 0, 5, .inl t2f)), (t3, .inl (y 0, 5, .inl t3f)), (t4, .inl (y 0, 5, .inl t4f)), (t5, .inl (y 0, 5, .inl t5f)), (o, .inr (2, []))] := hD
            refine lv_aload hx hb dX4_notesFit_42 (lv_at hl 0 rfl) ?_
            refine lv_iconst (v := 4) hx hb dX4_notesFit_44 (by decide) ?_
            refine va_iald hx hb hK hP 2 0 rfl rfl (by unfold vp_in; decide) dX4_notesFit_45 ?_
            rw [show ((4 : Int32)).toNatClampNeg = 4 from rfl]
            refine lv_icmp_eq (tgt := 51) hx hb dX4_notesFit_46 (by decide) (fun h53 => ?_) (fun h54 => ?_)
            · skip
              refine lv_iinc (v := (nI 1)) (lv' := [(3, .int (nI 1)), (4, .ref t0), (0, .ref nw), (1, .int x), (2, .ref o)]) hx hb dX4_notesFit_51 hl (k := 1) rfl (nI_1 0) (by decide) rfl (fun ls hl => ?_)
              refine lv_goto (tgt := 2) hx hb dX4_notesFit_54 (by decide) ?_
              exact ihj91 1  H locs ls (by omega) (by omega)  (hP.sub [0, 8, 1, 2, 3, 4, 5, 6, 7] rfl) (hD.sub [0, 8, 1, 2, 3, 4, 5, 6, 7] (by decide) rfl) hS (lv_sub hl [0, 2, 3, 4] rfl)
            · skip
              refine lv_iconst (v := 0) hx hb dX4_notesFit_49 (by decide) ?_
              exact W.zret (v := 0) hx hb hr (by decide) (fun tZ ht hW => ⟨⟨0, (), rfl, Or.inl rfl, by rw [ht]; exact hP.sub [0, 8, 1, 2, 3, 4, 5, 6, 7] rfl, hD.sub [0, 8, 1, 2, 3, 4, 5, 6, 7] (by decide) rfl⟩, hS.F ht⟩) hS.2.2 dX4_notesFit_50
        · skip
          refine kw_aldQ hx hb hK hP 2 6 rfl rfl (vp_in_nI (by omega) (by decide)) dX4_notesFit_15 ?_
          rw [nI_clamp (n := 1) (by omega), show va_rf (fn_ 1) = .ref t1 from congrArg va_rf hn1]
          refine lv_astore (lv' := [(4, .ref t1), (3, .int (nI 1)), (0, .ref nw), (1, .int x), (2, .ref o)]) hx hb dX4_notesFit_16 hl (by decide) rfl (fun ls hl => ?_)
          refine lv_aload hx hb dX4_notesFit_18 (lv_at hl 0 rfl) ?_
          refine lv_iconst (v := 0) hx hb dX4_notesFit_20 (by decide) ?_
          refine va_iald hx hb hK hP 4 0 rfl rfl (by unfold vp_in; decide) dX4_notesFit_21 ?_
          rw [show ((0 : Int32)).toNatClampNeg = 0 from rfl]
          refine lv_iload_n hx hb dX4_notesFit_22 rfl (lv_at hl 3 rfl) ?_
          refine lv_icmp_ne (tgt := 51) hx hb dX4_notesFit_23 (by decide) (fun h55 => ?_) (fun h56 => ?_)
          · skip
            refine lv_iinc (v := (nI 2)) (lv' := [(3, .int (nI 2)), (4, .ref t1), (0, .ref nw), (1, .int x), (2, .ref o)]) hx hb dX4_notesFit_51 hl (k := 1) rfl (nI_1 1) (by decide) rfl (fun ls hl => ?_)
            refine lv_goto (tgt := 2) hx hb dX4_notesFit_54 (by decide) ?_
            exact ihj91 2  H locs ls (by omega) (by omega)  (hP.sub [0, 1, 2, 3, 4, 5, 6, 7, 8] rfl) (hD.sub [0, 1, 2, 3, 4, 5, 6, 7, 8] (by decide) rfl) hS (lv_sub hl [0, 2, 3, 4] rfl)
          · skip
            refine lv_aload_n hx hb dX4_notesFit_26 rfl (lv_at hl 4 rfl) ?_
            refine lv_aload hx hb dX4_notesFit_27 (lv_at hl 0 rfl) ?_
            refine lv_iconst (v := 1) hx hb dX4_notesFit_29 (by decide) ?_
            refine va_iald hx hb hK hP 4 0 rfl rfl (by unfold vp_in; decide) dX4_notesFit_30 ?_
            rw [show ((1 : Int32)).toNatClampNeg = 1 from rfl]
            refine lv_aload hx hb dX4_notesFit_31 (lv_at hl 0 rfl) ?_
            refine lv_iconst (v := 2) hx hb dX4_notesFit_33 (by decide) ?_
            refine va_iald hx hb hK hP 4 0 rfl rfl (by unfold vp_in; decide) dX4_notesFit_34 ?_
            rw [show ((2 : Int32)).toNatClampNeg = 2 from rfl]
            refine lv_aload hx hb dX4_notesFit_35 (lv_at hl 0 rfl) ?_
            refine lv_iconst (v := 3) hx hb dX4_notesFit_37 (by decide) ?_
            refine va_iald hx hb hK hP 4 0 rfl rfl (by unfold vp_in; decide) dX4_notesFit_38 ?_
            rw [show ((3 : Int32)).toNatClampNeg = 3 from rfl]
            have hs57 : kw_Split [(nw, .inr (4, [.ref kk, .ref nk, .ref nd, .ref ne, .ref nm, .ref nn, .int (nI fi), .int (nI gl), .int (nI un), .int (nI mi), .int (nI no)])), (o, .inr (2, [])), (nn, .inl (y 6, 6, .inr (.inr (.inr (.inr fn_))))), (t0, .inl (y 0, 5, .inl t0f)), (t1, .inl (y 0, 5, .inl t1f)), (t2, .inl (y 0, 5, .inl t2f)), (t3, .inl (y 0, 5, .inl t3f)), (t4, .inl (y 0, 5, .inl t4f)), (t5, .inl (y 0, 5, .inl t5f))] [(o, .inr (2, []))] [(nw, .inr (4, [.ref kk, .ref nk, .ref nd, .ref ne, .ref nm, .ref nn, .int (nI fi), .int (nI gl), .int (nI un), .int (nI mi), .int (nI no)])), (nn, .inl (y 6, 6, .inr (.inr (.inr (.inr fn_))))), (t0, .inl (y 0, 5, .inl t0f)), (t1, .inl (y 0, 5, .inl t1f)), (t2, .inl (y 0, 5, .inl t2f)), (t3, .inl (y 0, 5, .inl t3f)), (t4, .inl (y 0, 5, .inl t4f)), (t5, .inl (y 0, 5, .inl t5f))] [1] [0, 2, 3, 4, 5, 6, 7, 8] := ⟨rfl, rfl, rfl, rfl, rfl, by decide⟩
            refine kw_go_i hs57 hP hD hS hA (va_runU (As := [.int (t1f 1), .int (t1f 2), .int (t1f 3)]) (rest := []) ⟨hx, hb, hml, hown, hts⟩ (gc_Hill_on2 l D y o (t1f 1) (t1f 2) (t1f 3)  _) (va_cwO 3 hts gX4_notesFit_X2_sight_u89X2 rfl rfl rfl (List.mem_of_getElem? (i := 24) rfl) (by decide +kernel) ⟨Nat.le_of_ble_eq_true rfl, Nat.le_of_ble_eq_true rfl⟩) (kw_PreV (ci := 2) (q0 := 1) hs57 hP hD hK hN rfl rfl) rfl rfl hl.1 rfl (lv_room (Nat.le_of_ble_eq_true rfl)) dX4_notesFit_39 ⟨Nat.le_of_ble_eq_true rfl, Nat.le_of_ble_eq_true rfl⟩) (fun r58 u59 H locs hq hP hD hS => ?_)
            have hP : va_P D vwCl [(nw, .inr (4, [.ref kk, .ref nk, .ref nd, .ref ne, .ref nm, .ref nn, .int (nI fi), .int (nI gl), .int (nI un), .int (nI mi), .int (nI no)])), (nn, .inl (y 6, 6, .inr (.inr (.inr (.inr fn_))))), (t0, .inl (y 0, 5, .inl t0f)), (t1, .inl (y 0, 5, .inl t1f)), (t2, .inl (y 0, 5, .inl t2f)), (t3, .inl (y 0, 5, .inl t3f)), (t4, .inl (y 0, 5, .inl t4f)), (t5, .inl (y 0, 5, .inl t5f)), (o, .inr (2, []))] H := hP
            have hD : va_D A [(nw, .inr (4, [.ref kk, .ref nk, .ref nd, .ref ne, .ref nm, .ref nn, .int (nI fi), .int (nI gl), .int (nI un), .int (nI mi), .int (nI no)])), (nn, .inl (y 6, 6, .inr (.inr (.inr (.inr fn_))))), (t0, .inl (y 0, 5, .inl t0f)), (t1, .inl (y 0, 5, .inl t1f)), (t2, .inl (y 0, 5, .inl t2f)), (t3, .inl (y 0, 5, .inl t3f)), (t4, .inl (y 0, 5, .inl t4f)), (t5, .inl (y 0, 5, .inl t5f)), (o, .inr (2, []))] := hD
            refine lv_aload hx hb dX4_notesFit_42 (lv_at hl 0 rfl) ?_
            refine lv_iconst (v := 4) hx hb dX4_notesFit_44 (by decide) ?_
            refine va_iald hx hb hK hP 3 0 rfl rfl (by unfold vp_in; decide) dX4_notesFit_45 ?_
            rw [show ((4 : Int32)).toNatClampNeg = 4 from rfl]
            refine lv_icmp_eq (tgt := 51) hx hb dX4_notesFit_46 (by decide) (fun h60 => ?_) (fun h61 => ?_)
            · skip
              refine lv_iinc (v := (nI 2)) (lv' := [(3, .int (nI 2)), (4, .ref t1), (0, .ref nw), (1, .int x), (2, .ref o)]) hx hb dX4_notesFit_51 hl (k := 1) rfl (nI_1 1) (by decide) rfl (fun ls hl => ?_)
              refine lv_goto (tgt := 2) hx hb dX4_notesFit_54 (by decide) ?_
              exact ihj91 2  H locs ls (by omega) (by omega)  (hP.sub [0, 8, 1, 2, 3, 4, 5, 6, 7] rfl) (hD.sub [0, 8, 1, 2, 3, 4, 5, 6, 7] (by decide) rfl) hS (lv_sub hl [0, 2, 3, 4] rfl)
            · skip
              refine lv_iconst (v := 0) hx hb dX4_notesFit_49 (by decide) ?_
              exact W.zret (v := 0) hx hb hr (by decide) (fun tZ ht hW => ⟨⟨0, (), rfl, Or.inl rfl, by rw [ht]; exact hP.sub [0, 8, 1, 2, 3, 4, 5, 6, 7] rfl, hD.sub [0, 8, 1, 2, 3, 4, 5, 6, 7] (by decide) rfl⟩, hS.F ht⟩) hS.2.2 dX4_notesFit_50
        · skip
          refine kw_aldQ hx hb hK hP 2 6 rfl rfl (vp_in_nI (by omega) (by decide)) dX4_notesFit_15 ?_
          rw [nI_clamp (n := 2) (by omega), show va_rf (fn_ 2) = .ref t2 from congrArg va_rf hn2]
          refine lv_astore (lv' := [(4, .ref t2), (3, .int (nI 2)), (0, .ref nw), (1, .int x), (2, .ref o)]) hx hb dX4_notesFit_16 hl (by decide) rfl (fun ls hl => ?_)
          refine lv_aload hx hb dX4_notesFit_18 (lv_at hl 0 rfl) ?_
          refine lv_iconst (v := 0) hx hb dX4_notesFit_20 (by decide) ?_
          refine va_iald hx hb hK hP 5 0 rfl rfl (by unfold vp_in; decide) dX4_notesFit_21 ?_
          rw [show ((0 : Int32)).toNatClampNeg = 0 from rfl]
          refine lv_iload_n hx hb dX4_notesFit_22 rfl (lv_at hl 3 rfl) ?_
          refine lv_icmp_ne (tgt := 51) hx hb dX4_notesFit_23 (by decide) (fun h62 => ?_) (fun h63 => ?_)
          · skip
            refine lv_iinc (v := (nI 3)) (lv' := [(3, .int (nI 3)), (4, .ref t2), (0, .ref nw), (1, .int x), (2, .ref o)]) hx hb dX4_notesFit_51 hl (k := 1) rfl (nI_1 2) (by decide) rfl (fun ls hl => ?_)
            refine lv_goto (tgt := 2) hx hb dX4_notesFit_54 (by decide) ?_
            exact ihj91 3  H locs ls (by omega) (by omega)  (hP.sub [0, 1, 2, 3, 4, 5, 6, 7, 8] rfl) (hD.sub [0, 1, 2, 3, 4, 5, 6, 7, 8] (by decide) rfl) hS (lv_sub hl [0, 2, 3, 4] rfl)
          · skip
            refine lv_aload_n hx hb dX4_notesFit_26 rfl (lv_at hl 4 rfl) ?_
            refine lv_aload hx hb dX4_notesFit_27 (lv_at hl 0 rfl) ?_
            refine lv_iconst (v := 1) hx hb dX4_notesFit_29 (by decide) ?_
            refine va_iald hx hb hK hP 5 0 rfl rfl (by unfold vp_in; decide) dX4_notesFit_30 ?_
            rw [show ((1 : Int32)).toNatClampNeg = 1 from rfl]
            refine lv_aload hx hb dX4_notesFit_31 (lv_at hl 0 rfl) ?_
            refine lv_iconst (v := 2) hx hb dX4_notesFit_33 (by decide) ?_
            refine va_iald hx hb hK hP 5 0 rfl rfl (by unfold vp_in; decide) dX4_notesFit_34 ?_
            rw [show ((2 : Int32)).toNatClampNeg = 2 from rfl]
            refine lv_aload hx hb dX4_notesFit_35 (lv_at hl 0 rfl) ?_
            refine lv_iconst (v := 3) hx hb dX4_notesFit_37 (by decide) ?_
            refine va_iald hx hb hK hP 5 0 rfl rfl (by unfold vp_in; decide) dX4_notesFit_38 ?_
            rw [show ((3 : Int32)).toNatClampNeg = 3 from rfl]
            have hs64 : kw_Split [(nw, .inr (4, [.ref kk, .ref nk, .ref nd, .ref ne, .ref nm, .ref nn, .int (nI fi), .int (nI gl), .int (nI un), .int (nI mi), .int (nI no)])), (o, .inr (2, [])), (nn, .inl (y 6, 6, .inr (.inr (.inr (.inr fn_))))), (t0, .inl (y 0, 5, .inl t0f)), (t1, .inl (y 0, 5, .inl t1f)), (t2, .inl (y 0, 5, .inl t2f)), (t3, .inl (y 0, 5, .inl t3f)), (t4, .inl (y 0, 5, .inl t4f)), (t5, .inl (y 0, 5, .inl t5f))] [(o, .inr (2, []))] [(nw, .inr (4, [.ref kk, .ref nk, .ref nd, .ref ne, .ref nm, .ref nn, .int (nI fi), .int (nI gl), .int (nI un), .int (nI mi), .int (nI no)])), (nn, .inl (y 6, 6, .inr (.inr (.inr (.inr fn_))))), (t0, .inl (y 0, 5, .inl t0f)), (t1, .inl (y 0, 5, .inl t1f)), (t2, .inl (y 0, 5, .inl t2f)), (t3, .inl (y 0, 5, .inl t3f)), (t4, .inl (y 0, 5, .inl t4f)), (t5, .inl (y 0, 5, .inl t5f))] [1] [0, 2, 3, 4, 5, 6, 7, 8] := ⟨rfl, rfl, rfl, rfl, rfl, by decide⟩
            refine kw_go_i hs64 hP hD hS hA (va_runU (As := [.int (t2f 1), .int (t2f 2), .int (t2f 3)]) (rest := []) ⟨hx, hb, hml, hown, hts⟩ (gc_Hill_on2 l D y o (t2f 1) (t2f 2) (t2f 3)  _) (va_cwO 3 hts gX4_notesFit_X2_sight_u89X2 rfl rfl rfl (List.mem_of_getElem? (i := 24) rfl) (by decide +kernel) ⟨Nat.le_of_ble_eq_true rfl, Nat.le_of_ble_eq_true rfl⟩) (kw_PreV (ci := 2) (q0 := 1) hs64 hP hD hK hN rfl rfl) rfl rfl hl.1 rfl (lv_room (Nat.le_of_ble_eq_true rfl)) dX4_notesFit_39 ⟨Nat.le_of_ble_eq_true rfl, Nat.le_of_ble_eq_true rfl⟩) (fun r65 u66 H locs hq hP hD hS => ?_)
            have hP : va_P D vwCl [(nw, .inr (4, [.ref kk, .ref nk, .ref nd, .ref ne, .ref nm, .ref nn, .int (nI fi), .int (nI gl), .int (nI un), .int (nI mi), .int (nI no)])), (nn, .inl (y 6, 6, .inr (.inr (.inr (.inr fn_))))), (t0, .inl (y 0, 5, .inl t0f)), (t1, .inl (y 0, 5, .inl t1f)), (t2, .inl (y 0, 5, .inl t2f)), (t3, .inl (y 0, 5, .inl t3f)), (t4, .inl (y 0, 5, .inl t4f)), (t5, .inl (y 0, 5, .inl t5f)), (o, .inr (2, []))] H := hP
            have hD : va_D A [(nw, .inr (4, [.ref kk, .ref nk, .ref nd, .ref ne, .ref nm, .ref nn, .int (nI fi), .int (nI gl), .int (nI un), .int (nI mi), .int (nI no)])), (nn, .inl (y 6, 6, .inr (.inr (.inr (.inr fn_))))), (t0, .inl (y 0, 5, .inl t0f)), (t1, .inl (y 0, 5, .inl t1f)), (t2, .inl (y 0, 5, .inl t2f)), (t3, .inl (y 0, 5, .inl t3f)), (t4, .inl (y 0, 5, .inl t4f)), (t5, .inl (y 0, 5, .inl t5f)), (o, .inr (2, []))] := hD
            refine lv_aload hx hb dX4_notesFit_42 (lv_at hl 0 rfl) ?_
            refine lv_iconst (v := 4) hx hb dX4_notesFit_44 (by decide) ?_
            refine va_iald hx hb hK hP 4 0 rfl rfl (by unfold vp_in; decide) dX4_notesFit_45 ?_
            rw [show ((4 : Int32)).toNatClampNeg = 4 from rfl]
            refine lv_icmp_eq (tgt := 51) hx hb dX4_notesFit_46 (by decide) (fun h67 => ?_) (fun h68 => ?_)
            · skip
              refine lv_iinc (v := (nI 3)) (lv' := [(3, .int (nI 3)), (4, .ref t2), (0, .ref nw), (1, .int x), (2, .ref o)]) hx hb dX4_notesFit_51 hl (k := 1) rfl (nI_1 2) (by decide) rfl (fun ls hl => ?_)
              refine lv_goto (tgt := 2) hx hb dX4_notesFit_54 (by decide) ?_
              exact ihj91 3  H locs ls (by omega) (by omega)  (hP.sub [0, 8, 1, 2, 3, 4, 5, 6, 7] rfl) (hD.sub [0, 8, 1, 2, 3, 4, 5, 6, 7] (by decide) rfl) hS (lv_sub hl [0, 2, 3, 4] rfl)
            · skip
              refine lv_iconst (v := 0) hx hb dX4_notesFit_49 (by decide) ?_
              exact W.zret (v := 0) hx hb hr (by decide) (fun tZ ht hW => ⟨⟨0, (), rfl, Or.inl rfl, by rw [ht]; exact hP.sub [0, 8, 1, 2, 3, 4, 5, 6, 7] rfl, hD.sub [0, 8, 1, 2, 3, 4, 5, 6, 7] (by decide) rfl⟩, hS.F ht⟩) hS.2.2 dX4_notesFit_50
        · skip
          refine kw_aldQ hx hb hK hP 2 6 rfl rfl (vp_in_nI (by omega) (by decide)) dX4_notesFit_15 ?_
          rw [nI_clamp (n := 3) (by omega), show va_rf (fn_ 3) = .ref t3 from congrArg va_rf hn3]
          refine lv_astore (lv' := [(4, .ref t3), (3, .int (nI 3)), (0, .ref nw), (1, .int x), (2, .ref o)]) hx hb dX4_notesFit_16 hl (by decide) rfl (fun ls hl => ?_)
          refine lv_aload hx hb dX4_notesFit_18 (lv_at hl 0 rfl) ?_
          refine lv_iconst (v := 0) hx hb dX4_notesFit_20 (by decide) ?_
          refine va_iald hx hb hK hP 6 0 rfl rfl (by unfold vp_in; decide) dX4_notesFit_21 ?_
          rw [show ((0 : Int32)).toNatClampNeg = 0 from rfl]
          refine lv_iload_n hx hb dX4_notesFit_22 rfl (lv_at hl 3 rfl) ?_
          refine lv_icmp_ne (tgt := 51) hx hb dX4_notesFit_23 (by decide) (fun h69 => ?_) (fun h70 => ?_)
          · skip
            refine lv_iinc (v := (nI 4)) (lv' := [(3, .int (nI 4)), (4, .ref t3), (0, .ref nw), (1, .int x), (2, .ref o)]) hx hb dX4_notesFit_51 hl (k := 1) rfl (nI_1 3) (by decide) rfl (fun ls hl => ?_)
            refine lv_goto (tgt := 2) hx hb dX4_notesFit_54 (by decide) ?_
            exact ihj91 4  H locs ls (by omega) (by omega)  (hP.sub [0, 1, 2, 3, 4, 5, 6, 7, 8] rfl) (hD.sub [0, 1, 2, 3, 4, 5, 6, 7, 8] (by decide) rfl) hS (lv_sub hl [0, 2, 3, 4] rfl)
          · skip
            refine lv_aload_n hx hb dX4_notesFit_26 rfl (lv_at hl 4 rfl) ?_
            refine lv_aload hx hb dX4_notesFit_27 (lv_at hl 0 rfl) ?_
            refine lv_iconst (v := 1) hx hb dX4_notesFit_29 (by decide) ?_
            refine va_iald hx hb hK hP 6 0 rfl rfl (by unfold vp_in; decide) dX4_notesFit_30 ?_
            rw [show ((1 : Int32)).toNatClampNeg = 1 from rfl]
            refine lv_aload hx hb dX4_notesFit_31 (lv_at hl 0 rfl) ?_
            refine lv_iconst (v := 2) hx hb dX4_notesFit_33 (by decide) ?_
            refine va_iald hx hb hK hP 6 0 rfl rfl (by unfold vp_in; decide) dX4_notesFit_34 ?_
            rw [show ((2 : Int32)).toNatClampNeg = 2 from rfl]
            refine lv_aload hx hb dX4_notesFit_35 (lv_at hl 0 rfl) ?_
            refine lv_iconst (v := 3) hx hb dX4_notesFit_37 (by decide) ?_
            refine va_iald hx hb hK hP 6 0 rfl rfl (by unfold vp_in; decide) dX4_notesFit_38 ?_
            rw [show ((3 : Int32)).toNatClampNeg = 3 from rfl]
            have hs71 : kw_Split [(nw, .inr (4, [.ref kk, .ref nk, .ref nd, .ref ne, .ref nm, .ref nn, .int (nI fi), .int (nI gl), .int (nI un), .int (nI mi), .int (nI no)])), (o, .inr (2, [])), (nn, .inl (y 6, 6, .inr (.inr (.inr (.inr fn_))))), (t0, .inl (y 0, 5, .inl t0f)), (t1, .inl (y 0, 5, .inl t1f)), (t2, .inl (y 0, 5, .inl t2f)), (t3, .inl (y 0, 5, .inl t3f)), (t4, .inl (y 0, 5, .inl t4f)), (t5, .inl (y 0, 5, .inl t5f))] [(o, .inr (2, []))] [(nw, .inr (4, [.ref kk, .ref nk, .ref nd, .ref ne, .ref nm, .ref nn, .int (nI fi), .int (nI gl), .int (nI un), .int (nI mi), .int (nI no)])), (nn, .inl (y 6, 6, .inr (.inr (.inr (.inr fn_))))), (t0, .inl (y 0, 5, .inl t0f)), (t1, .inl (y 0, 5, .inl t1f)), (t2, .inl (y 0, 5, .inl t2f)), (t3, .inl (y 0, 5, .inl t3f)), (t4, .inl (y 0, 5, .inl t4f)), (t5, .inl (y 0, 5, .inl t5f))] [1] [0, 2, 3, 4, 5, 6, 7, 8] := ⟨rfl, rfl, rfl, rfl, rfl, by decide⟩
            refine kw_go_i hs71 hP hD hS hA (va_runU (As := [.int (t3f 1), .int (t3f 2), .int (t3f 3)]) (rest := []) ⟨hx, hb, hml, hown, hts⟩ (gc_Hill_on2 l D y o (t3f 1) (t3f 2) (t3f 3)  _) (va_cwO 3 hts gX4_notesFit_X2_sight_u89X2 rfl rfl rfl (List.mem_of_getElem? (i := 24) rfl) (by decide +kernel) ⟨Nat.le_of_ble_eq_true rfl, Nat.le_of_ble_eq_true rfl⟩) (kw_PreV (ci := 2) (q0 := 1) hs71 hP hD hK hN rfl rfl) rfl rfl hl.1 rfl (lv_room (Nat.le_of_ble_eq_true rfl)) dX4_notesFit_39 ⟨Nat.le_of_ble_eq_true rfl, Nat.le_of_ble_eq_true rfl⟩) (fun r72 u73 H locs hq hP hD hS => ?_)
            have hP : va_P D vwCl [(nw, .inr (4, [.ref kk, .ref nk, .ref nd, .ref ne, .ref nm, .ref nn, .int (nI fi), .int (nI gl), .int (nI un), .int (nI mi), .int (nI no)])), (nn, .inl (y 6, 6, .inr (.inr (.inr (.inr fn_))))), (t0, .inl (y 0, 5, .inl t0f)), (t1, .inl (y 0, 5, .inl t1f)), (t2, .inl (y 0, 5, .inl t2f)), (t3, .inl (y 0, 5, .inl t3f)), (t4, .inl (y 0, 5, .inl t4f)), (t5, .inl (y 0, 5, .inl t5f)), (o, .inr (2, []))] H := hP
            have hD : va_D A [(nw, .inr (4, [.ref kk, .ref nk, .ref nd, .ref ne, .ref nm, .ref nn, .int (nI fi), .int (nI gl), .int (nI un), .int (nI mi), .int (nI no)])), (nn, .inl (y 6, 6, .inr (.inr (.inr (.inr fn_))))), (t0, .inl (y 0, 5, .inl t0f)), (t1, .inl (y 0, 5, .inl t1f)), (t2, .inl (y 0, 5, .inl t2f)), (t3, .inl (y 0, 5, .inl t3f)), (t4, .inl (y 0, 5, .inl t4f)), (t5, .inl (y 0, 5, .inl t5f)), (o, .inr (2, []))] := hD
            refine lv_aload hx hb dX4_notesFit_42 (lv_at hl 0 rfl) ?_
            refine lv_iconst (v := 4) hx hb dX4_notesFit_44 (by decide) ?_
            refine va_iald hx hb hK hP 5 0 rfl rfl (by unfold vp_in; decide) dX4_notesFit_45 ?_
            rw [show ((4 : Int32)).toNatClampNeg = 4 from rfl]
            refine lv_icmp_eq (tgt := 51) hx hb dX4_notesFit_46 (by decide) (fun h74 => ?_) (fun h75 => ?_)
            · skip
              refine lv_iinc (v := (nI 4)) (lv' := [(3, .int (nI 4)), (4, .ref t3), (0, .ref nw), (1, .int x), (2, .ref o)]) hx hb dX4_notesFit_51 hl (k := 1) rfl (nI_1 3) (by decide) rfl (fun ls hl => ?_)
              refine lv_goto (tgt := 2) hx hb dX4_notesFit_54 (by decide) ?_
              exact ihj91 4  H locs ls (by omega) (by omega)  (hP.sub [0, 8, 1, 2, 3, 4, 5, 6, 7] rfl) (hD.sub [0, 8, 1, 2, 3, 4, 5, 6, 7] (by decide) rfl) hS (lv_sub hl [0, 2, 3, 4] rfl)
            · skip
              refine lv_iconst (v := 0) hx hb dX4_notesFit_49 (by decide) ?_
              exact W.zret (v := 0) hx hb hr (by decide) (fun tZ ht hW => ⟨⟨0, (), rfl, Or.inl rfl, by rw [ht]; exact hP.sub [0, 8, 1, 2, 3, 4, 5, 6, 7] rfl, hD.sub [0, 8, 1, 2, 3, 4, 5, 6, 7] (by decide) rfl⟩, hS.F ht⟩) hS.2.2 dX4_notesFit_50
        · skip
          refine kw_aldQ hx hb hK hP 2 6 rfl rfl (vp_in_nI (by omega) (by decide)) dX4_notesFit_15 ?_
          rw [nI_clamp (n := 4) (by omega), show va_rf (fn_ 4) = .ref t4 from congrArg va_rf hn4]
          refine lv_astore (lv' := [(4, .ref t4), (3, .int (nI 4)), (0, .ref nw), (1, .int x), (2, .ref o)]) hx hb dX4_notesFit_16 hl (by decide) rfl (fun ls hl => ?_)
          refine lv_aload hx hb dX4_notesFit_18 (lv_at hl 0 rfl) ?_
          refine lv_iconst (v := 0) hx hb dX4_notesFit_20 (by decide) ?_
          refine va_iald hx hb hK hP 7 0 rfl rfl (by unfold vp_in; decide) dX4_notesFit_21 ?_
          rw [show ((0 : Int32)).toNatClampNeg = 0 from rfl]
          refine lv_iload_n hx hb dX4_notesFit_22 rfl (lv_at hl 3 rfl) ?_
          refine lv_icmp_ne (tgt := 51) hx hb dX4_notesFit_23 (by decide) (fun h76 => ?_) (fun h77 => ?_)
          · skip
            refine lv_iinc (v := (nI 5)) (lv' := [(3, .int (nI 5)), (4, .ref t4), (0, .ref nw), (1, .int x), (2, .ref o)]) hx hb dX4_notesFit_51 hl (k := 1) rfl (nI_1 4) (by decide) rfl (fun ls hl => ?_)
            refine lv_goto (tgt := 2) hx hb dX4_notesFit_54 (by decide) ?_
            exact ihj91 5  H locs ls (by omega) (by omega)  (hP.sub [0, 1, 2, 3, 4, 5, 6, 7, 8] rfl) (hD.sub [0, 1, 2, 3, 4, 5, 6, 7, 8] (by decide) rfl) hS (lv_sub hl [0, 2, 3, 4] rfl)
          · skip
            refine lv_aload_n hx hb dX4_notesFit_26 rfl (lv_at hl 4 rfl) ?_
            refine lv_aload hx hb dX4_notesFit_27 (lv_at hl 0 rfl) ?_
            refine lv_iconst (v := 1) hx hb dX4_notesFit_29 (by decide) ?_
            refine va_iald hx hb hK hP 7 0 rfl rfl (by unfold vp_in; decide) dX4_notesFit_30 ?_
            rw [show ((1 : Int32)).toNatClampNeg = 1 from rfl]
            refine lv_aload hx hb dX4_notesFit_31 (lv_at hl 0 rfl) ?_
            refine lv_iconst (v := 2) hx hb dX4_notesFit_33 (by decide) ?_
            refine va_iald hx hb hK hP 7 0 rfl rfl (by unfold vp_in; decide) dX4_notesFit_34 ?_
            rw [show ((2 : Int32)).toNatClampNeg = 2 from rfl]
            refine lv_aload hx hb dX4_notesFit_35 (lv_at hl 0 rfl) ?_
            refine lv_iconst (v := 3) hx hb dX4_notesFit_37 (by decide) ?_
            refine va_iald hx hb hK hP 7 0 rfl rfl (by unfold vp_in; decide) dX4_notesFit_38 ?_
            rw [show ((3 : Int32)).toNatClampNeg = 3 from rfl]
            have hs78 : kw_Split [(nw, .inr (4, [.ref kk, .ref nk, .ref nd, .ref ne, .ref nm, .ref nn, .int (nI fi), .int (nI gl), .int (nI un), .int (nI mi), .int (nI no)])), (o, .inr (2, [])), (nn, .inl (y 6, 6, .inr (.inr (.inr (.inr fn_))))), (t0, .inl (y 0, 5, .inl t0f)), (t1, .inl (y 0, 5, .inl t1f)), (t2, .inl (y 0, 5, .inl t2f)), (t3, .inl (y 0, 5, .inl t3f)), (t4, .inl (y 0, 5, .inl t4f)), (t5, .inl (y 0, 5, .inl t5f))] [(o, .inr (2, []))] [(nw, .inr (4, [.ref kk, .ref nk, .ref nd, .ref ne, .ref nm, .ref nn, .int (nI fi), .int (nI gl), .int (nI un), .int (nI mi), .int (nI no)])), (nn, .inl (y 6, 6, .inr (.inr (.inr (.inr fn_))))), (t0, .inl (y 0, 5, .inl t0f)), (t1, .inl (y 0, 5, .inl t1f)), (t2, .inl (y 0, 5, .inl t2f)), (t3, .inl (y 0, 5, .inl t3f)), (t4, .inl (y 0, 5, .inl t4f)), (t5, .inl (y 0, 5, .inl t5f))] [1] [0, 2, 3, 4, 5, 6, 7, 8] := ⟨rfl, rfl, rfl, rfl, rfl, by decide⟩
            refine kw_go_i hs78 hP hD hS hA (va_runU (As := [.int (t4f 1), .int (t4f 2), .int (t4f 3)]) (rest := []) ⟨hx, hb, hml, hown, hts⟩ (gc_Hill_on2 l D y o (t4f 1) (t4f 2) (t4f 3)  _) (va_cwO 3 hts gX4_notesFit_X2_sight_u89X2 rfl rfl rfl (List.mem_of_getElem? (i := 24) rfl) (by decide +kernel) ⟨Nat.le_of_ble_eq_true rfl, Nat.le_of_ble_eq_true rfl⟩) (kw_PreV (ci := 2) (q0 := 1) hs78 hP hD hK hN rfl rfl) rfl rfl hl.1 rfl (lv_room (Nat.le_of_ble_eq_true rfl)) dX4_notesFit_39 ⟨Nat.le_of_ble_eq_true rfl, Nat.le_of_ble_eq_true rfl⟩) (fun r79 u80 H locs hq hP hD hS => ?_)
            have hP : va_P D vwCl [(nw, .inr (4, [.ref kk, .ref nk, .ref nd, .ref ne, .ref nm, .ref nn, .int (nI fi), .int (nI gl), .int (nI un), .int (nI mi), .int (nI no)])), (nn, .inl (y 6, 6, .inr (.inr (.inr (.inr fn_))))), (t0, .inl (y 0, 5, .inl t0f)), (t1, .inl (y 0, 5, .inl t1f)), (t2, .inl (y 0, 5, .inl t2f)), (t3, .inl (y 0, 5, .inl t3f)), (t4, .inl (y 0, 5, .inl t4f)), (t5, .inl (y 0, 5, .inl t5f)), (o, .inr (2, []))] H := hP
            have hD : va_D A [(nw, .inr (4, [.ref kk, .ref nk, .ref nd, .ref ne, .ref nm, .ref nn, .int (nI fi), .int (nI gl), .int (nI un), .int (nI mi), .int (nI no)])), (nn, .inl (y 6, 6, .inr (.inr (.inr (.inr fn_))))), (t0, .inl (y 0, 5, .inl t0f)), (t1, .inl (y 0, 5, .inl t1f)), (t2, .inl (y 0, 5, .inl t2f)), (t3, .inl (y 0, 5, .inl t3f)), (t4, .inl (y 0, 5, .inl t4f)), (t5, .inl (y 0, 5, .inl t5f)), (o, .inr (2, []))] := hD
            refine lv_aload hx hb dX4_notesFit_42 (lv_at hl 0 rfl) ?_
            refine lv_iconst (v := 4) hx hb dX4_notesFit_44 (by decide) ?_
            refine va_iald hx hb hK hP 6 0 rfl rfl (by unfold vp_in; decide) dX4_notesFit_45 ?_
            rw [show ((4 : Int32)).toNatClampNeg = 4 from rfl]
            refine lv_icmp_eq (tgt := 51) hx hb dX4_notesFit_46 (by decide) (fun h81 => ?_) (fun h82 => ?_)
            · skip
              refine lv_iinc (v := (nI 5)) (lv' := [(3, .int (nI 5)), (4, .ref t4), (0, .ref nw), (1, .int x), (2, .ref o)]) hx hb dX4_notesFit_51 hl (k := 1) rfl (nI_1 4) (by decide) rfl (fun ls hl => ?_)
              refine lv_goto (tgt := 2) hx hb dX4_notesFit_54 (by decide) ?_
              exact ihj91 5  H locs ls (by omega) (by omega)  (hP.sub [0, 8, 1, 2, 3, 4, 5, 6, 7] rfl) (hD.sub [0, 8, 1, 2, 3, 4, 5, 6, 7] (by decide) rfl) hS (lv_sub hl [0, 2, 3, 4] rfl)
            · skip
              refine lv_iconst (v := 0) hx hb dX4_notesFit_49 (by decide) ?_
              exact W.zret (v := 0) hx hb hr (by decide) (fun tZ ht hW => ⟨⟨0, (), rfl, Or.inl rfl, by rw [ht]; exact hP.sub [0, 8, 1, 2, 3, 4, 5, 6, 7] rfl, hD.sub [0, 8, 1, 2, 3, 4, 5, 6, 7] (by decide) rfl⟩, hS.F ht⟩) hS.2.2 dX4_notesFit_50
        · skip
          refine kw_aldQ hx hb hK hP 2 6 rfl rfl (vp_in_nI (by omega) (by decide)) dX4_notesFit_15 ?_
          rw [nI_clamp (n := 5) (by omega), show va_rf (fn_ 5) = .ref t5 from congrArg va_rf hn5]
          refine lv_astore (lv' := [(4, .ref t5), (3, .int (nI 5)), (0, .ref nw), (1, .int x), (2, .ref o)]) hx hb dX4_notesFit_16 hl (by decide) rfl (fun ls hl => ?_)
          refine lv_aload hx hb dX4_notesFit_18 (lv_at hl 0 rfl) ?_
          refine lv_iconst (v := 0) hx hb dX4_notesFit_20 (by decide) ?_
          refine va_iald hx hb hK hP 8 0 rfl rfl (by unfold vp_in; decide) dX4_notesFit_21 ?_
          rw [show ((0 : Int32)).toNatClampNeg = 0 from rfl]
          refine lv_iload_n hx hb dX4_notesFit_22 rfl (lv_at hl 3 rfl) ?_
          refine lv_icmp_ne (tgt := 51) hx hb dX4_notesFit_23 (by decide) (fun h83 => ?_) (fun h84 => ?_)
          · skip
            refine lv_iinc (v := (nI 6)) (lv' := [(3, .int (nI 6)), (4, .ref t5), (0, .ref nw), (1, .int x), (2, .ref o)]) hx hb dX4_notesFit_51 hl (k := 1) rfl (nI_1 5) (by decide) rfl (fun ls hl => ?_)
            refine lv_goto (tgt := 2) hx hb dX4_notesFit_54 (by decide) ?_
            exact ihj91 6  H locs ls (by omega) (by omega)  (hP.sub [0, 1, 2, 3, 4, 5, 6, 7, 8] rfl) (hD.sub [0, 1, 2, 3, 4, 5, 6, 7, 8] (by decide) rfl) hS (lv_sub hl [0, 2, 3, 4] rfl)
          · skip
            refine lv_aload_n hx hb dX4_notesFit_26 rfl (lv_at hl 4 rfl) ?_
            refine lv_aload hx hb dX4_notesFit_27 (lv_at hl 0 rfl) ?_
            refine lv_iconst (v := 1) hx hb dX4_notesFit_29 (by decide) ?_
            refine va_iald hx hb hK hP 8 0 rfl rfl (by unfold vp_in; decide) dX4_notesFit_30 ?_
            rw [show ((1 : Int32)).toNatClampNeg = 1 from rfl]
            refine lv_aload hx hb dX4_notesFit_31 (lv_at hl 0 rfl) ?_
            refine lv_iconst (v := 2) hx hb dX4_notesFit_33 (by decide) ?_
            refine va_iald hx hb hK hP 8 0 rfl rfl (by unfold vp_in; decide) dX4_notesFit_34 ?_
            rw [show ((2 : Int32)).toNatClampNeg = 2 from rfl]
            refine lv_aload hx hb dX4_notesFit_35 (lv_at hl 0 rfl) ?_
            refine lv_iconst (v := 3) hx hb dX4_notesFit_37 (by decide) ?_
            refine va_iald hx hb hK hP 8 0 rfl rfl (by unfold vp_in; decide) dX4_notesFit_38 ?_
            rw [show ((3 : Int32)).toNatClampNeg = 3 from rfl]
            have hs85 : kw_Split [(nw, .inr (4, [.ref kk, .ref nk, .ref nd, .ref ne, .ref nm, .ref nn, .int (nI fi), .int (nI gl), .int (nI un), .int (nI mi), .int (nI no)])), (o, .inr (2, [])), (nn, .inl (y 6, 6, .inr (.inr (.inr (.inr fn_))))), (t0, .inl (y 0, 5, .inl t0f)), (t1, .inl (y 0, 5, .inl t1f)), (t2, .inl (y 0, 5, .inl t2f)), (t3, .inl (y 0, 5, .inl t3f)), (t4, .inl (y 0, 5, .inl t4f)), (t5, .inl (y 0, 5, .inl t5f))] [(o, .inr (2, []))] [(nw, .inr (4, [.ref kk, .ref nk, .ref nd, .ref ne, .ref nm, .ref nn, .int (nI fi), .int (nI gl), .int (nI un), .int (nI mi), .int (nI no)])), (nn, .inl (y 6, 6, .inr (.inr (.inr (.inr fn_))))), (t0, .inl (y 0, 5, .inl t0f)), (t1, .inl (y 0, 5, .inl t1f)), (t2, .inl (y 0, 5, .inl t2f)), (t3, .inl (y 0, 5, .inl t3f)), (t4, .inl (y 0, 5, .inl t4f)), (t5, .inl (y 0, 5, .inl t5f))] [1] [0, 2, 3, 4, 5, 6, 7, 8] := ⟨rfl, rfl, rfl, rfl, rfl, by decide⟩
            refine kw_go_i hs85 hP hD hS hA (va_runU (As := [.int (t5f 1), .int (t5f 2), .int (t5f 3)]) (rest := []) ⟨hx, hb, hml, hown, hts⟩ (gc_Hill_on2 l D y o (t5f 1) (t5f 2) (t5f 3)  _) (va_cwO 3 hts gX4_notesFit_X2_sight_u89X2 rfl rfl rfl (List.mem_of_getElem? (i := 24) rfl) (by decide +kernel) ⟨Nat.le_of_ble_eq_true rfl, Nat.le_of_ble_eq_true rfl⟩) (kw_PreV (ci := 2) (q0 := 1) hs85 hP hD hK hN rfl rfl) rfl rfl hl.1 rfl (lv_room (Nat.le_of_ble_eq_true rfl)) dX4_notesFit_39 ⟨Nat.le_of_ble_eq_true rfl, Nat.le_of_ble_eq_true rfl⟩) (fun r86 u87 H locs hq hP hD hS => ?_)
            have hP : va_P D vwCl [(nw, .inr (4, [.ref kk, .ref nk, .ref nd, .ref ne, .ref nm, .ref nn, .int (nI fi), .int (nI gl), .int (nI un), .int (nI mi), .int (nI no)])), (nn, .inl (y 6, 6, .inr (.inr (.inr (.inr fn_))))), (t0, .inl (y 0, 5, .inl t0f)), (t1, .inl (y 0, 5, .inl t1f)), (t2, .inl (y 0, 5, .inl t2f)), (t3, .inl (y 0, 5, .inl t3f)), (t4, .inl (y 0, 5, .inl t4f)), (t5, .inl (y 0, 5, .inl t5f)), (o, .inr (2, []))] H := hP
            have hD : va_D A [(nw, .inr (4, [.ref kk, .ref nk, .ref nd, .ref ne, .ref nm, .ref nn, .int (nI fi), .int (nI gl), .int (nI un), .int (nI mi), .int (nI no)])), (nn, .inl (y 6, 6, .inr (.inr (.inr (.inr fn_))))), (t0, .inl (y 0, 5, .inl t0f)), (t1, .inl (y 0, 5, .inl t1f)), (t2, .inl (y 0, 5, .inl t2f)), (t3, .inl (y 0, 5, .inl t3f)), (t4, .inl (y 0, 5, .inl t4f)), (t5, .inl (y 0, 5, .inl t5f)), (o, .inr (2, []))] := hD
            refine lv_aload hx hb dX4_notesFit_42 (lv_at hl 0 rfl) ?_
            refine lv_iconst (v := 4) hx hb dX4_notesFit_44 (by decide) ?_
            refine va_iald hx hb hK hP 7 0 rfl rfl (by unfold vp_in; decide) dX4_notesFit_45 ?_
            rw [show ((4 : Int32)).toNatClampNeg = 4 from rfl]
            refine lv_icmp_eq (tgt := 51) hx hb dX4_notesFit_46 (by decide) (fun h88 => ?_) (fun h89 => ?_)
            · skip
              refine lv_iinc (v := (nI 6)) (lv' := [(3, .int (nI 6)), (4, .ref t5), (0, .ref nw), (1, .int x), (2, .ref o)]) hx hb dX4_notesFit_51 hl (k := 1) rfl (nI_1 5) (by decide) rfl (fun ls hl => ?_)
              refine lv_goto (tgt := 2) hx hb dX4_notesFit_54 (by decide) ?_
              exact ihj91 6  H locs ls (by omega) (by omega)  (hP.sub [0, 8, 1, 2, 3, 4, 5, 6, 7] rfl) (hD.sub [0, 8, 1, 2, 3, 4, 5, 6, 7] (by decide) rfl) hS (lv_sub hl [0, 2, 3, 4] rfl)
            · skip
              refine lv_iconst (v := 0) hx hb dX4_notesFit_49 (by decide) ?_
              exact W.zret (v := 0) hx hb hr (by decide) (fun tZ ht hW => ⟨⟨0, (), rfl, Or.inl rfl, by rw [ht]; exact hP.sub [0, 8, 1, 2, 3, 4, 5, 6, 7] rfl, hD.sub [0, 8, 1, 2, 3, 4, 5, 6, 7] (by decide) rfl⟩, hS.F ht⟩) hS.2.2 dX4_notesFit_50
  exact lp45 (no + 1) 0  _ _ _ (by omega) (by omega)  hP hD hS (lv_sub hl [0, 1, 2, 3] rfl)
