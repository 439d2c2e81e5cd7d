set_option maxHeartbeats 4000000 in
set_option maxRecDepth 100000 in
theorem gb_missedFit (l : Launch) (D : va_G) (y : Nat → ClassId) (nw : Nat) (kk : Nat) (nk : Nat) (nd : Nat) (ne : Nat) (nm : Nat) (nn : Nat) (fi : Nat) (gl : Nat) (un : Nat) (mi : Nat) (no : Nat) (m0 : Nat) (m1 : Nat) (m2 : Nat) (m3 : Nat) (m0f : Nat → Int32) (m1f : Nat → Int32) (m2f : Nat → Int32) (m3f : Nat → Int32) (fm : Nat → Option Nat) (fk : Nat → Int32) (k0 : Nat) (k1 : Nat) (k2 : Nat) (k3 : Nat) (k4 : Nat) (k5 : Nat) (fq : Nat → Option Nat) (x : Int32) (f : Nat → Int32) (hfi : fi ≤ 6) (hgl : gl ≤ 5) (hun : un ≤ 8) (hmi : mi ≤ 4) (hno : no ≤ 6) (hk : kw_bd 6 6 fk) (hq0 : fq 0 = some k0) (hq1 : fq 1 = some k1) (hq2 : fq 2 = some k2) (hq3 : fq 3 = some k3) (hq4 : fq 4 = some k4) (hq5 : fq 5 = some k5) (hm0 : fm 0 = some m0) (hm1 : fm 1 = some m1) (hm2 : fm 2 = some m2) (hm3 : fm 3 = some m3) (hm0f : vp_in (m0f 0) 6) (hm1f : vp_in (m1f 0) 6) (hm2f : vp_in (m2f 0) 6) (hm3f : vp_in (m3f 0) 6) (hPM : kz_PM f fi mi fk m0f m1f m2f m3f) : kw_Mi l yX4_missedFit wsX4_missedFit ({ frames := 4, cells := 0, slots := 0, locals := 130 }) D y [.ref nw, .int x] [(nw, .inr (4, [.ref kk, .ref nk, .ref nd, .ref ne, .ref nm, .ref nn, .int (nI fi), .int (nI gl), .int (nI un), .int (nI mi), .int (nI no)])), (nk, .inl (y 0, 6, .inl fk)), (kk, .inl (y 5, 6, .inr (.inr (.inr (.inr fq))))), (k0, .inr (5, [])), (k1, .inr (8, [])), (k2, .inr (9, [])), (k3, .inr (6, [])), (k4, .inr (2, [])), (k5, .inr (3, [])), (nm, .inl (y 6, 4, .inr (.inr (.inr (.inr fm))))), (m0, .inl (y 0, 4, .inl m0f)), (m1, .inl (y 0, 4, .inl m1f)), (m2, .inl (y 0, 4, .inl m2f)), (m3, .inl (y 0, 4, .inl m3f))] (fun (r : Int32) (u : Unit) => (cl_ok f x mi = true ∧ r = 1) ∨ (¬ cl_ok f x mi = true ∧ r = 0)) (fun _ => [(nw, .inr (4, [.ref kk, .ref nk, .ref nd, .ref ne, .ref nm, .ref nn, .int (nI fi), .int (nI gl), .int (nI un), .int (nI mi), .int (nI no)])), (nk, .inl (y 0, 6, .inl fk)), (kk, .inl (y 5, 6, .inr (.inr (.inr (.inr fq))))), (k0, .inr (5, [])), (k1, .inr (8, [])), (k2, .inr (9, [])), (k3, .inr (6, [])), (k4, .inr (2, [])), (k5, .inr (3, [])), (nm, .inl (y 6, 4, .inr (.inr (.inr (.inr fm))))), (m0, .inl (y 0, 4, .inl m0f)), (m1, .inl (y 0, 4, .inl m1f)), (m2, .inl (y 0, 4, .inl m2f)), (m3, .inl (y 0, 4, .inl m3f))]) 0 0 := by
  refine kw_Mi.of (cc := cX4_missedFit) (maxL := 4) (ret := (some .boolean)) (by decide) rfl ?_
  intro pZ eZ s mZ beZ meZ cZ A hE
  obtain ⟨hx, hb, hr, hml, hts, hown, hlocks, hin, hA, hP, hD, hK, hN⟩ := hE
  have hS : va_S A s.heap s.heap [] := va_S.rf
  have hl := lv_entry ([.ref nw, .int x]) (n := 4) (Nat.le_of_ble_eq_true rfl)
  rw [lg_entry_eq]
  generalize (lg_sl ([.ref nw, .int x]) ++ List.replicate (4 - (lg_sl ([.ref nw, .int x])).length) Slot.unset).toArray = ls at hl ⊢
  have hl : lv_has ls 4 [(0, .ref nw), (1, .int x)] := hl
  have fw1 := hts (.fieldLink RX4 48 "GleanDusk$Parish" "missedCount" "I") (List.mem_of_getElem? (i := 1) rfl)
  have fw2 := hts (.fieldLink RX4 28 "GleanDusk$Parish" "missed" "[[I") (List.mem_of_getElem? (i := 2) rfl)
  have fw3 := hts (.fieldLink RX4 34 "GleanDusk$Parish" "kinds" "[LGleanDusk$Plain;") (List.mem_of_getElem? (i := 3) rfl)
  have fw4 := hts (.fieldLink RX4 9 "GleanDusk$Parish" "kind" "[I") (List.mem_of_getElem? (i := 4) rfl)
  have iw4 : ∀ w ∈ wsX40, w ∈ wsX4_missedFit := fun _ h => List.mem_cons_of_mem _ (List.mem_append_right _ h)
  refine lv_iconst (v := 0) hx hb dX4_missedFit_0 (by decide) ?_
  refine lv_istore_n (lv' := [(2, .int 0), (0, .ref nw), (1, .int x)]) hx hb dX4_missedFit_1 rfl hl (by decide) rfl (fun ls hl => ?_)
  have lp147 : ∀ (fuj91 j91 : Nat)  (H : Heap) (locs : List Loc) (ls : Array Slot), j91 ≤ mi → mi - j91 < fuj91 → cl_ok f x j91 = true → va_P D vwCl [(nw, .inr (4, [.ref kk, .ref nk, .ref nd, .ref ne, .ref nm, .ref nn, .int (nI fi), .int (nI gl), .int (nI un), .int (nI mi), .int (nI no)])), (nk, .inl (y 0, 6, .inl fk)), (kk, .inl (y 5, 6, .inr (.inr (.inr (.inr fq))))), (k0, .inr (5, [])), (k1, .inr (8, [])), (k2, .inr (9, [])), (k3, .inr (6, [])), (k4, .inr (2, [])), (k5, .inr (3, [])), (nm, .inl (y 6, 4, .inr (.inr (.inr (.inr fm))))), (m0, .inl (y 0, 4, .inl m0f)), (m1, .inl (y 0, 4, .inl m1f)), (m2, .inl (y 0, 4, .inl m2f)), (m3, .inl (y 0, 4, .inl m3f))] H → va_D A [(nw, .inr (4, [.ref kk, .ref nk, .ref nd, .ref ne, .ref nm, .ref nn, .int (nI fi), .int (nI gl), .int (nI un), .int (nI mi), .int (nI no)])), (nk, .inl (y 0, 6, .inl fk)), (kk, .inl (y 5, 6, .inr (.inr (.inr (.inr fq))))), (k0, .inr (5, [])), (k1, .inr (8, [])), (k2, .inr (9, [])), (k3, .inr (6, [])), (k4, .inr (2, [])), (k5, .inr (3, [])), (nm, .inl (y 6, 4, .inr (.inr (.inr (.inr fm))))), (m0, .inl (y 0, 4, .inl m0f)), (m1, .inl (y 0, 4, .inl m1f)), (m2, .inl (y 0, 4, .inl m2f)), (m3, .inl (y 0, 4, .inl m3f))] → va_S A s.heap H locs → lv_has ls 4 [(2, .int (nI j91)), (0, .ref nw), (1, .int x)] → W pZ l eZ ({ frames := 4, cells := 0, slots := 0, locals := 130 }) s mZ [.ref nw, .int x].toArray beZ meZ cZ H locs 0 0 (MQ beZ (va_Qi (fun (r : Int32) (u : Unit) => (cl_ok f x mi = true ∧ r = 1) ∨ (¬ cl_ok f x mi = true ∧ r = 0)) (kw_B D (fun _ => [(nw, .inr (4, [.ref kk, .ref nk, .ref nd, .ref ne, .ref nm, .ref nn, .int (nI fi), .int (nI gl), .int (nI un), .int (nI mi), .int (nI no)])), (nk, .inl (y 0, 6, .inl fk)), (kk, .inl (y 5, 6, .inr (.inr (.inr (.inr fq))))), (k0, .inr (5, [])), (k1, .inr (8, [])), (k2, .inr (9, [])), (k3, .inr (6, [])), (k4, .inr (2, [])), (k5, .inr (3, [])), (nm, .inl (y 6, 4, .inr (.inr (.inr (.inr fm))))), (m0, .inl (y 0, 4, .inl m0f)), (m1, .inl (y 0, 4, .inl m1f)), (m2, .inl (y 0, 4, .inl m2f)), (m3, .inl (y 0, 4, .inl m3f))]) A) A) [.ref nw, .int x].toArray s 0 0 A) (F0 mZ 2 ls []) := by
    intro fuj91
    induction fuj91 with
    | zero => intro j91  H locs ls hj9 hf9; exact absurd hf9 (Nat.not_lt_zero _)
    | succ fuj91 ihj91 =>
      intro j91  H locs ls hj91 hfj91 hI0_j91 hP hD hS hl
      refine lv_iload_n hx hb dX4_missedFit_2 rfl (lv_at hl 0 rfl) ?_
      refine lv_aload_n hx hb dX4_missedFit_3 rfl (lv_at hl 1 rfl) ?_
      refine va_get (D := D) (ci := 4) (v := .int (nI mi)) (C := RX4) (T := TX4) (N := 11) hx hb hts iw4 hown hK hP 0 rfl rfl 9 (by decide) fw1 (fun _ h9 => h9) rfl dX4_missedFit_4 ?_
      refine lv_icmp_ge (tgt := 54) hx hb dX4_missedFit_7 (by decide) (fun h148 => ?_) (fun h149 => ?_)
      · skip
        have h148 : mi ≤ j91 := (nI_leI (a := mi) (b := j91) (by omega) (by omega)).mp h148
        refine lv_iconst (v := 1) hx hb dX4_missedFit_54 (by decide) ?_
        exact W.zret (v := 1) hx hb hr (by decide) (fun tZ ht hW => ⟨⟨1, (), rfl, Or.inl ⟨(show j91 = mi by omega) ▸ hI0_j91, rfl⟩, by rw [ht]; exact hP.sub [0, 1, 2, 3, 4, 5, 6, 7, 8, 9, 10, 11, 12, 13] rfl, hD.sub [0, 1, 2, 3, 4, 5, 6, 7, 8, 9, 10, 11, 12, 13] (by decide) rfl⟩, hS.F ht⟩) hS.2.2 dX4_missedFit_55
      · skip
        have h149 : ¬ mi ≤ j91 := fun q9 => h149 ((nI_leI (a := mi) (b := j91) (by omega) (by omega)).mpr q9)
        refine lv_aload_n hx hb dX4_missedFit_10 rfl (lv_at hl 1 rfl) ?_
        refine va_get (D := D) (ci := 4) (v := .ref nm) (C := RX4) (T := TX4) (N := 11) hx hb hts iw4 hown hK hP 0 rfl rfl 4 (by decide) fw2 (fun _ h9 => h9) rfl dX4_missedFit_11 ?_
        refine lv_iload_n hx hb dX4_missedFit_14 rfl (lv_at hl 0 rfl) ?_
        rcases (show j91 = 0 ∨ j91 = 1 ∨ j91 = 2 ∨ j91 = 3 by omega) with rfl | rfl | rfl | rfl
        · skip
          refine kw_aldQ hx hb hK hP 9 6 rfl rfl (vp_in_nI (by omega) (by decide)) dX4_missedFit_15 ?_
          rw [nI_clamp (n := 0) (by omega), show va_rf (fm 0) = .ref m0 from congrArg va_rf hm0]
          refine lv_astore_n (lv' := [(3, .ref m0), (2, .int (nI 0)), (0, .ref nw), (1, .int x)]) hx hb dX4_missedFit_16 rfl hl (by decide) rfl (fun ls hl => ?_)
          refine lv_aload_n hx hb dX4_missedFit_17 rfl (lv_at hl 2 rfl) ?_
          refine va_get (D := D) (ci := 4) (v := .ref kk) (C := RX4) (T := TX4) (N := 11) hx hb hts iw4 hown hK hP 0 rfl rfl 0 (by decide) fw3 (fun _ h9 => h9) rfl dX4_missedFit_18 ?_
          refine lv_aload_n hx hb dX4_missedFit_21 rfl (lv_at hl 2 rfl) ?_
          refine va_get (D := D) (ci := 4) (v := .ref nk) (C := RX4) (T := TX4) (N := 11) hx hb hts iw4 hown hK hP 0 rfl rfl 1 (by decide) fw4 (fun _ h9 => h9) rfl dX4_missedFit_22 ?_
          refine lv_aload_n hx hb dX4_missedFit_25 rfl (lv_at hl 0 rfl) ?_
          refine lv_iconst (v := 0) hx hb dX4_missedFit_26 (by decide) ?_
          refine va_iald hx hb hK hP 10 0 rfl rfl (by unfold vp_in; decide) dX4_missedFit_27 ?_
          rw [show ((0 : Int32)).toNatClampNeg = 0 from rfl]
          obtain ⟨w150, h151, h152⟩ := vp_in_of hm0f (by decide)
          rw [h152]
          refine va_iald hx hb hK hP 1 0 rfl rfl (vp_in_nI (by omega) (by decide)) dX4_missedFit_28 ?_
          rw [nI_clamp (n := w150) (by omega)]
          obtain ⟨w153, h154, h155⟩ := kw_bdv hk (k := w150) (by omega) (by decide)
          rw [h155]
          rcases (show w153 = 0 ∨ w153 = 1 ∨ w153 = 2 ∨ w153 = 3 ∨ w153 = 4 ∨ w153 = 5 by omega) with rfl | rfl | rfl | rfl | rfl | rfl
          · skip
            refine va_aldq hx hb hK hP 2 5 rfl rfl (vp_in_nI (by omega) (by decide)) dX4_missedFit_29 ?_
            rw [nI_clamp (n := 0) (by omega), show va_rf (fq 0) = .ref k0 from congrArg va_rf hq0]
            refine lv_aload_n hx hb dX4_missedFit_30 rfl (lv_at hl 0 rfl) ?_
            refine lv_iconst (v := 1) hx hb dX4_missedFit_31 (by decide) ?_
            refine va_iald hx hb hK hP 10 0 rfl rfl (by unfold vp_in; decide) dX4_missedFit_32 ?_
            rw [show ((1 : Int32)).toNatClampNeg = 1 from rfl]
            refine lv_aload_n hx hb dX4_missedFit_33 rfl (lv_at hl 0 rfl) ?_
            refine lv_iconst (v := 2) hx hb dX4_missedFit_34 (by decide) ?_
            refine va_iald hx hb hK hP 10 0 rfl rfl (by unfold vp_in; decide) dX4_missedFit_35 ?_
            rw [show ((2 : Int32)).toNatClampNeg = 2 from rfl]
            refine lv_iload_n hx hb dX4_missedFit_36 rfl (lv_at hl 3 rfl) ?_
            have hs156 : kw_Split [(nw, .inr (4, [.ref kk, .ref nk, .ref nd, .ref ne, .ref nm, .ref nn, .int (nI fi), .int (nI gl), .int (nI un), .int (nI mi), .int (nI no)])), (nk, .inl (y 0, 6, .inl fk)), (kk, .inl (y 5, 6, .inr (.inr (.inr (.inr fq))))), (k0, .inr (5, [])), (k1, .inr (8, [])), (k2, .inr (9, [])), (k3, .inr (6, [])), (k4, .inr (2, [])), (k5, .inr (3, [])), (nm, .inl (y 6, 4, .inr (.inr (.inr (.inr fm))))), (m0, .inl (y 0, 4, .inl m0f)), (m1, .inl (y 0, 4, .inl m1f)), (m2, .inl (y 0, 4, .inl m2f)), (m3, .inl (y 0, 4, .inl m3f))] [(k0, .inr (5, []))] [(nw, .inr (4, [.ref kk, .ref nk, .ref nd, .ref ne, .ref nm, .ref nn, .int (nI fi), .int (nI gl), .int (nI un), .int (nI mi), .int (nI no)])), (nk, .inl (y 0, 6, .inl fk)), (kk, .inl (y 5, 6, .inr (.inr (.inr (.inr fq))))), (k1, .inr (8, [])), (k2, .inr (9, [])), (k3, .inr (6, [])), (k4, .inr (2, [])), (k5, .inr (3, [])), (nm, .inl (y 6, 4, .inr (.inr (.inr (.inr fm))))), (m0, .inl (y 0, 4, .inl m0f)), (m1, .inl (y 0, 4, .inl m1f)), (m2, .inl (y 0, 4, .inl m2f)), (m3, .inl (y 0, 4, .inl m3f))] [3] [0, 1, 2, 4, 5, 6, 7, 8, 9, 10, 11, 12, 13] := ⟨rfl, rfl, rfl, rfl, rfl, by decide⟩
            refine kw_go_i hs156 hP hD hS hA (va_runV (As := [.int (m0f 1), .int (m0f 2), .int x]) (rest := []) ⟨hx, hb, hml, hown, hts⟩ (gb_Plain_on5 l D y k0 (m0f 1) (m0f 2) x  _) (cwV 3 hts gX4_missedFit_X5_sight rfl rfl rfl (by decide +kernel) ⟨Nat.le_of_ble_eq_true rfl, Nat.le_of_ble_eq_true rfl⟩) (kw_PreV (ci := 5) (q0 := 3) hs156 hP hD hK hN rfl rfl) rfl rfl hl.1 rfl (lv_room (Nat.le_of_ble_eq_true rfl)) dX4_missedFit_37 ⟨Nat.le_of_ble_eq_true rfl, Nat.le_of_ble_eq_true rfl⟩) (fun r157 u158 H locs hq hP hD hS => ?_)
            obtain rfl := hq
            have hP : va_P D vwCl [(nw, .inr (4, [.ref kk, .ref nk, .ref nd, .ref ne, .ref nm, .ref nn, .int (nI fi), .int (nI gl), .int (nI un), .int (nI mi), .int (nI no)])), (nk, .inl (y 0, 6, .inl fk)), (kk, .inl (y 5, 6, .inr (.inr (.inr (.inr fq))))), (k1, .inr (8, [])), (k2, .inr (9, [])), (k3, .inr (6, [])), (k4, .inr (2, [])), (k5, .inr (3, [])), (nm, .inl (y 6, 4, .inr (.inr (.inr (.inr fm))))), (m0, .inl (y 0, 4, .inl m0f)), (m1, .inl (y 0, 4, .inl m1f)), (m2, .inl (y 0, 4, .inl m2f)), (m3, .inl (y 0, 4, .inl m3f)), (k0, .inr (5, []))] H := hP
            have hD : va_D A [(nw, .inr (4, [.ref kk, .ref nk, .ref nd, .ref ne, .ref nm, .ref nn, .int (nI fi), .int (nI gl), .int (nI un), .int (nI mi), .int (nI no)])), (nk, .inl (y 0, 6, .inl fk)), (kk, .inl (y 5, 6, .inr (.inr (.inr (.inr fq))))), (k1, .inr (8, [])), (k2, .inr (9, [])), (k3, .inr (6, [])), (k4, .inr (2, [])), (k5, .inr (3, [])), (nm, .inl (y 6, 4, .inr (.inr (.inr (.inr fm))))), (m0, .inl (y 0, 4, .inl m0f)), (m1, .inl (y 0, 4, .inl m1f)), (m2, .inl (y 0, 4, .inl m2f)), (m3, .inl (y 0, 4, .inl m3f)), (k0, .inr (5, []))] := hD
            refine lv_aload_n hx hb dX4_missedFit_40 rfl (lv_at hl 0 rfl) ?_
            refine lv_iconst (v := 3) hx hb dX4_missedFit_41 (by decide) ?_
            refine va_iald hx hb hK hP 9 0 rfl rfl (by unfold vp_in; decide) dX4_missedFit_42 ?_
            rw [show ((3 : Int32)).toNatClampNeg = 3 from rfl]
            refine lv_icmp_eq (tgt := 48) hx hb dX4_missedFit_43 (by decide) (fun h159 => ?_) (fun h160 => ?_)
            · skip
              refine lv_iinc (v := (nI 1)) (lv' := [(2, .int (nI 1)), (3, .ref m0), (0, .ref nw), (1, .int x)]) hx hb dX4_missedFit_48 hl (k := 1) rfl (nI_1 0) (by decide) rfl (fun ls hl => ?_)
              refine lv_goto (tgt := 2) hx hb dX4_missedFit_51 (by decide) ?_
              exact ihj91 1  H locs ls (by omega) (by omega) (cl_ok_s hI0_j91 (by rw [cl_row_i (hPM.2.1 (by omega)) hPM.1 hfi h152 (by omega) h155 (by decide)]; exact decide_eq_true h159)) (hP.sub [0, 1, 2, 13, 3, 4, 5, 6, 7, 8, 9, 10, 11, 12] rfl) (hD.sub [0, 1, 2, 13, 3, 4, 5, 6, 7, 8, 9, 10, 11, 12] (by decide) rfl) hS (lv_sub hl [0, 2, 3] rfl)
            · skip
              refine lv_iconst (v := 0) hx hb dX4_missedFit_46 (by decide) ?_
              exact W.zret (v := 0) hx hb hr (by decide) (fun tZ ht hW => ⟨⟨0, (), rfl, Or.inr (⟨cl_ok_f (j := 0) (by omega) (by rw [cl_row_i (hPM.2.1 (by omega)) hPM.1 hfi h152 (by omega) h155 (by decide)]; exact fun q9 => h160 (of_decide_eq_true q9)), rfl⟩), by rw [ht]; exact hP.sub [0, 1, 2, 13, 3, 4, 5, 6, 7, 8, 9, 10, 11, 12] rfl, hD.sub [0, 1, 2, 13, 3, 4, 5, 6, 7, 8, 9, 10, 11, 12] (by decide) rfl⟩, hS.F ht⟩) hS.2.2 dX4_missedFit_47
          · skip
            refine va_aldq hx hb hK hP 2 5 rfl rfl (vp_in_nI (by omega) (by decide)) dX4_missedFit_29 ?_
            rw [nI_clamp (n := 1) (by omega), show va_rf (fq 1) = .ref k1 from congrArg va_rf hq1]
            refine lv_aload_n hx hb dX4_missedFit_30 rfl (lv_at hl 0 rfl) ?_
            refine lv_iconst (v := 1) hx hb dX4_missedFit_31 (by decide) ?_
            refine va_iald hx hb hK hP 10 0 rfl rfl (by unfold vp_in; decide) dX4_missedFit_32 ?_
            rw [show ((1 : Int32)).toNatClampNeg = 1 from rfl]
            refine lv_aload_n hx hb dX4_missedFit_33 rfl (lv_at hl 0 rfl) ?_
            refine lv_iconst (v := 2) hx hb dX4_missedFit_34 (by decide) ?_
            refine va_iald hx hb hK hP 10 0 rfl rfl (by unfold vp_in; decide) dX4_missedFit_35 ?_
            rw [show ((2 : Int32)).toNatClampNeg = 2 from rfl]
            refine lv_iload_n hx hb dX4_missedFit_36 rfl (lv_at hl 3 rfl) ?_
            have hs161 : kw_Split [(nw, .inr (4, [.ref kk, .ref nk, .ref nd, .ref ne, .ref nm, .ref nn, .int (nI fi), .int (nI gl), .int (nI un), .int (nI mi), .int (nI no)])), (nk, .inl (y 0, 6, .inl fk)), (kk, .inl (y 5, 6, .inr (.inr (.inr (.inr fq))))), (k0, .inr (5, [])), (k1, .inr (8, [])), (k2, .inr (9, [])), (k3, .inr (6, [])), (k4, .inr (2, [])), (k5, .inr (3, [])), (nm, .inl (y 6, 4, .inr (.inr (.inr (.inr fm))))), (m0, .inl (y 0, 4, .inl m0f)), (m1, .inl (y 0, 4, .inl m1f)), (m2, .inl (y 0, 4, .inl m2f)), (m3, .inl (y 0, 4, .inl m3f))] [(k1, .inr (8, []))] [(nw, .inr (4, [.ref kk, .ref nk, .ref nd, .ref ne, .ref nm, .ref nn, .int (nI fi), .int (nI gl), .int (nI un), .int (nI mi), .int (nI no)])), (nk, .inl (y 0, 6, .inl fk)), (kk, .inl (y 5, 6, .inr (.inr (.inr (.inr fq))))), (k0, .inr (5, [])), (k2, .inr (9, [])), (k3, .inr (6, [])), (k4, .inr (2, [])), (k5, .inr (3, [])), (nm, .inl (y 6, 4, .inr (.inr (.inr (.inr fm))))), (m0, .inl (y 0, 4, .inl m0f)), (m1, .inl (y 0, 4, .inl m1f)), (m2, .inl (y 0, 4, .inl m2f)), (m3, .inl (y 0, 4, .inl m3f))] [4] [0, 1, 2, 3, 5, 6, 7, 8, 9, 10, 11, 12, 13] := ⟨rfl, rfl, rfl, rfl, rfl, by decide⟩
            refine kw_go_i hs161 hP hD hS hA (va_runU (As := [.int (m0f 1), .int (m0f 2), .int x]) (rest := []) ⟨hx, hb, hml, hown, hts⟩ (gb_West_on8 l D y k1 (m0f 1) (m0f 2) x  _) (va_cwO 3 hts gX4_missedFit_X8_sight_u89X8 rfl rfl rfl (List.mem_of_getElem? (i := 26) rfl) (by decide +kernel) ⟨Nat.le_of_ble_eq_true rfl, Nat.le_of_ble_eq_true rfl⟩) (kw_PreV (ci := 8) (q0 := 4) hs161 hP hD hK hN rfl rfl) rfl rfl hl.1 rfl (lv_room (Nat.le_of_ble_eq_true rfl)) dX4_missedFit_37 ⟨Nat.le_of_ble_eq_true rfl, Nat.le_of_ble_eq_true rfl⟩) (fun r162 u163 H locs hq hP hD hS => ?_)
            obtain rfl := hq
            have hP : va_P D vwCl [(nw, .inr (4, [.ref kk, .ref nk, .ref nd, .ref ne, .ref nm, .ref nn, .int (nI fi), .int (nI gl), .int (nI un), .int (nI mi), .int (nI no)])), (nk, .inl (y 0, 6, .inl fk)), (kk, .inl (y 5, 6, .inr (.inr (.inr (.inr fq))))), (k0, .inr (5, [])), (k2, .inr (9, [])), (k3, .inr (6, [])), (k4, .inr (2, [])), (k5, .inr (3, [])), (nm, .inl (y 6, 4, .inr (.inr (.inr (.inr fm))))), (m0, .inl (y 0, 4, .inl m0f)), (m1, .inl (y 0, 4, .inl m1f)), (m2, .inl (y 0, 4, .inl m2f)), (m3, .inl (y 0, 4, .inl m3f)), (k1, .inr (8, []))] H := hP
            have hD : va_D A [(nw, .inr (4, [.ref kk, .ref nk, .ref nd, .ref ne, .ref nm, .ref nn, .int (nI fi), .int (nI gl), .int (nI un), .int (nI mi), .int (nI no)])), (nk, .inl (y 0, 6, .inl fk)), (kk, .inl (y 5, 6, .inr (.inr (.inr (.inr fq))))), (k0, .inr (5, [])), (k2, .inr (9, [])), (k3, .inr (6, [])), (k4, .inr (2, [])), (k5, .inr (3, [])), (nm, .inl (y 6, 4, .inr (.inr (.inr (.inr fm))))), (m0, .inl (y 0, 4, .inl m0f)), (m1, .inl (y 0, 4, .inl m1f)), (m2, .inl (y 0, 4, .inl m2f)), (m3, .inl (y 0, 4, .inl m3f)), (k1, .inr (8, []))] := hD
            refine lv_aload_n hx hb dX4_missedFit_40 rfl (lv_at hl 0 rfl) ?_
            refine lv_iconst (v := 3) hx hb dX4_missedFit_41 (by decide) ?_
            refine va_iald hx hb hK hP 9 0 rfl rfl (by unfold vp_in; decide) dX4_missedFit_42 ?_
            rw [show ((3 : Int32)).toNatClampNeg = 3 from rfl]
            refine lv_icmp_eq (tgt := 48) hx hb dX4_missedFit_43 (by decide) (fun h164 => ?_) (fun h165 => ?_)
            · skip
              refine lv_iinc (v := (nI 1)) (lv' := [(2, .int (nI 1)), (3, .ref m0), (0, .ref nw), (1, .int x)]) hx hb dX4_missedFit_48 hl (k := 1) rfl (nI_1 0) (by decide) rfl (fun ls hl => ?_)
              refine lv_goto (tgt := 2) hx hb dX4_missedFit_51 (by decide) ?_
              exact ihj91 1  H locs ls (by omega) (by omega) (cl_ok_s hI0_j91 (by rw [cl_row_i (hPM.2.1 (by omega)) hPM.1 hfi h152 (by omega) h155 (by decide)]; exact decide_eq_true h164)) (hP.sub [0, 1, 2, 3, 13, 4, 5, 6, 7, 8, 9, 10, 11, 12] rfl) (hD.sub [0, 1, 2, 3, 13, 4, 5, 6, 7, 8, 9, 10, 11, 12] (by decide) rfl) hS (lv_sub hl [0, 2, 3] rfl)
            · skip
              refine lv_iconst (v := 0) hx hb dX4_missedFit_46 (by decide) ?_
              exact W.zret (v := 0) hx hb hr (by decide) (fun tZ ht hW => ⟨⟨0, (), rfl, Or.inr (⟨cl_ok_f (j := 0) (by omega) (by rw [cl_row_i (hPM.2.1 (by omega)) hPM.1 hfi h152 (by omega) h155 (by decide)]; exact fun q9 => h165 (of_decide_eq_true q9)), rfl⟩), by rw [ht]; exact hP.sub [0, 1, 2, 3, 13, 4, 5, 6, 7, 8, 9, 10, 11, 12] rfl, hD.sub [0, 1, 2, 3, 13, 4, 5, 6, 7, 8, 9, 10, 11, 12] (by decide) rfl⟩, hS.F ht⟩) hS.2.2 dX4_missedFit_47
          · skip
            refine va_aldq hx hb hK hP 2 5 rfl rfl (vp_in_nI (by omega) (by decide)) dX4_missedFit_29 ?_
            rw [nI_clamp (n := 2) (by omega), show va_rf (fq 2) = .ref k2 from congrArg va_rf hq2]
            refine lv_aload_n hx hb dX4_missedFit_30 rfl (lv_at hl 0 rfl) ?_
            refine lv_iconst (v := 1) hx hb dX4_missedFit_31 (by decide) ?_
            refine va_iald hx hb hK hP 10 0 rfl rfl (by unfold vp_in; decide) dX4_missedFit_32 ?_
            rw [show ((1 : Int32)).toNatClampNeg = 1 from rfl]
            refine lv_aload_n hx hb dX4_missedFit_33 rfl (lv_at hl 0 rfl) ?_
            refine lv_iconst (v := 2) hx hb dX4_missedFit_34 (by decide) ?_
            refine va_iald hx hb hK hP 10 0 rfl rfl (by unfold vp_in; decide) dX4_missedFit_35 ?_
            rw [show ((2 : Int32)).toNatClampNeg = 2 from rfl]
            refine lv_iload_n hx hb dX4_missedFit_36 rfl (lv_at hl 3 rfl) ?_
            have hs166 : kw_Split [(nw, .inr (4, [.ref kk, .ref nk, .ref nd, .ref ne, .ref nm, .ref nn, .int (nI fi), .int (nI gl), .int (nI un), .int (nI mi), .int (nI no)])), (nk, .inl (y 0, 6, .inl fk)), (kk, .inl (y 5, 6, .inr (.inr (.inr (.inr fq))))), (k0, .inr (5, [])), (k1, .inr (8, [])), (k2, .inr (9, [])), (k3, .inr (6, [])), (k4, .inr (2, [])), (k5, .inr (3, [])), (nm, .inl (y 6, 4, .inr (.inr (.inr (.inr fm))))), (m0, .inl (y 0, 4, .inl m0f)), (m1, .inl (y 0, 4, .inl m1f)), (m2, .inl (y 0, 4, .inl m2f)), (m3, .inl (y 0, 4, .inl m3f))] [(k2, .inr (9, []))] [(nw, .inr (4, [.ref kk, .ref nk, .ref nd, .ref ne, .ref nm, .ref nn, .int (nI fi), .int (nI gl), .int (nI un), .int (nI mi), .int (nI no)])), (nk, .inl (y 0, 6, .inl fk)), (kk, .inl (y 5, 6, .inr (.inr (.inr (.inr fq))))), (k0, .inr (5, [])), (k1, .inr (8, [])), (k3, .inr (6, [])), (k4, .inr (2, [])), (k5, .inr (3, [])), (nm, .inl (y 6, 4, .inr (.inr (.inr (.inr fm))))), (m0, .inl (y 0, 4, .inl m0f)), (m1, .inl (y 0, 4, .inl m1f)), (m2, .inl (y 0, 4, .inl m2f)), (m3, .inl (y 0, 4, .inl m3f))] [5] [0, 1, 2, 3, 4, 6, 7, 8, 9, 10, 11, 12, 13] := ⟨rfl, rfl, rfl, rfl, rfl, by decide⟩
            refine kw_go_i hs166 hP hD hS hA (va_runU (As := [.int (m0f 1), .int (m0f 2), .int x]) (rest := []) ⟨hx, hb, hml, hown, hts⟩ (gb_Wood_on9 l D y k2 (m0f 1) (m0f 2) x  _) (va_cwO 3 hts gX4_missedFit_X9_sight_u89X9 rfl rfl rfl (List.mem_of_getElem? (i := 26) rfl) (by decide +kernel) ⟨Nat.le_of_ble_eq_true rfl, Nat.le_of_ble_eq_true rfl⟩) (kw_PreV (ci := 9) (q0 := 5) hs166 hP hD hK hN rfl rfl) rfl rfl hl.1 rfl (lv_room (Nat.le_of_ble_eq_true rfl)) dX4_missedFit_37 ⟨Nat.le_of_ble_eq_true rfl, Nat.le_of_ble_eq_true rfl⟩) (fun r167 u168 H locs hq hP hD hS => ?_)
            obtain rfl := hq
            have hP : va_P D vwCl [(nw, .inr (4, [.ref kk, .ref nk, .ref nd, .ref ne, .ref nm, .ref nn, .int (nI fi), .int (nI gl), .int (nI un), .int (nI mi), .int (nI no)])), (nk, .inl (y 0, 6, .inl fk)), (kk, .inl (y 5, 6, .inr (.inr (.inr (.inr fq))))), (k0, .inr (5, [])), (k1, .inr (8, [])), (k3, .inr (6, [])), (k4, .inr (2, [])), (k5, .inr (3, [])), (nm, .inl (y 6, 4, .inr (.inr (.inr (.inr fm))))), (m0, .inl (y 0, 4, .inl m0f)), (m1, .inl (y 0, 4, .inl m1f)), (m2, .inl (y 0, 4, .inl m2f)), (m3, .inl (y 0, 4, .inl m3f)), (k2, .inr (9, []))] H := hP
            have hD : va_D A [(nw, .inr (4, [.ref kk, .ref nk, .ref nd, .ref ne, .ref nm, .ref nn, .int (nI fi), .int (nI gl), .int (nI un), .int (nI mi), .int (nI no)])), (nk, .inl (y 0, 6, .inl fk)), (kk, .inl (y 5, 6, .inr (.inr (.inr (.inr fq))))), (k0, .inr (5, [])), (k1, .inr (8, [])), (k3, .inr (6, [])), (k4, .inr (2, [])), (k5, .inr (3, [])), (nm, .inl (y 6, 4, .inr (.inr (.inr (.inr fm))))), (m0, .inl (y 0, 4, .inl m0f)), (m1, .inl (y 0, 4, .inl m1f)), (m2, .inl (y 0, 4, .inl m2f)), (m3, .inl (y 0, 4, .inl m3f)), (k2, .inr (9, []))] := hD
            refine lv_aload_n hx hb dX4_missedFit_40 rfl (lv_at hl 0 rfl) ?_
            refine lv_iconst (v := 3) hx hb dX4_missedFit_41 (by decide) ?_
            refine va_iald hx hb hK hP 9 0 rfl rfl (by unfold vp_in; decide) dX4_missedFit_42 ?_
            rw [show ((3 : Int32)).toNatClampNeg = 3 from rfl]
            refine lv_icmp_eq (tgt := 48) hx hb dX4_missedFit_43 (by decide) (fun h169 => ?_) (fun h170 => ?_)
            · skip
              refine lv_iinc (v := (nI 1)) (lv' := [(2, .int (nI 1)), (3, .ref m0), (0, .ref nw), (1, .int x)]) hx hb dX4_missedFit_48 hl (k := 1) rfl (nI_1 0) (by decide) rfl (fun ls hl => ?_)
              refine lv_goto (tgt := 2) hx hb dX4_missedFit_51 (by decide) ?_
              exact ihj91 1  H locs ls (by omega) (by omega) (cl_ok_s hI0_j91 (by rw [cl_row_i (hPM.2.1 (by omega)) hPM.1 hfi h152 (by omega) h155 (by decide)]; exact decide_eq_true h169)) (hP.sub [0, 1, 2, 3, 4, 13, 5, 6, 7, 8, 9, 10, 11, 12] rfl) (hD.sub [0, 1, 2, 3, 4, 13, 5, 6, 7, 8, 9, 10, 11, 12] (by decide) rfl) hS (lv_sub hl [0, 2, 3] rfl)
            · skip
              refine lv_iconst (v := 0) hx hb dX4_missedFit_46 (by decide) ?_
              exact W.zret (v := 0) hx hb hr (by decide) (fun tZ ht hW => ⟨⟨0, (), rfl, Or.inr (⟨cl_ok_f (j := 0) (by omega) (by rw [cl_row_i (hPM.2.1 (by omega)) hPM.1 hfi h152 (by omega) h155 (by decide)]; exact fun q9 => h170 (of_decide_eq_true q9)), rfl⟩), by rw [ht]; exact hP.sub [0, 1, 2, 3, 4, 13, 5, 6, 7, 8, 9, 10, 11, 12] rfl, hD.sub [0, 1, 2, 3, 4, 13, 5, 6, 7, 8, 9, 10, 11, 12] (by decide) rfl⟩, hS.F ht⟩) hS.2.2 dX4_missedFit_47
          · skip
            refine va_aldq hx hb hK hP 2 5 rfl rfl (vp_in_nI (by omega) (by decide)) dX4_missedFit_29 ?_
            rw [nI_clamp (n := 3) (by omega), show va_rf (fq 3) = .ref k3 from congrArg va_rf hq3]
            refine lv_aload_n hx hb dX4_missedFit_30 rfl (lv_at hl 0 rfl) ?_
            refine lv_iconst (v := 1) hx hb dX4_missedFit_31 (by decide) ?_
            refine va_iald hx hb hK hP 10 0 rfl rfl (by unfold vp_in; decide) dX4_missedFit_32 ?_
            rw [show ((1 : Int32)).toNatClampNeg = 1 from rfl]
            refine lv_aload_n hx hb dX4_missedFit_33 rfl (lv_at hl 0 rfl) ?_
            refine lv_iconst (v := 2) hx hb dX4_missedFit_34 (by decide) ?_
            refine va_iald hx hb hK hP 10 0 rfl rfl (by unfold vp_in; decide) dX4_missedFit_35 ?_
            rw [show ((2 : Int32)).toNatClampNeg = 2 from rfl]
            refine lv_iload_n hx hb dX4_missedFit_36 rfl (lv_at hl 3 rfl) ?_
            have hs171 : kw_Split [(nw, .inr (4, [.ref kk, .ref nk, .ref nd, .ref ne, .ref nm, .ref nn, .int (nI fi), .int (nI gl), .int (nI un), .int (nI mi), .int (nI no)])), (nk, .inl (y 0, 6, .inl fk)), (kk, .inl (y 5, 6, .inr (.inr (.inr (.inr fq))))), (k0, .inr (5, [])), (k1, .inr (8, [])), (k2, .inr (9, [])), (k3, .inr (6, [])), (k4, .inr (2, [])), (k5, .inr (3, [])), (nm, .inl (y 6, 4, .inr (.inr (.inr (.inr fm))))), (m0, .inl (y 0, 4, .inl m0f)), (m1, .inl (y 0, 4, .inl m1f)), (m2, .inl (y 0, 4, .inl m2f)), (m3, .inl (y 0, 4, .inl m3f))] [(k3, .inr (6, []))] [(nw, .inr (4, [.ref kk, .ref nk, .ref nd, .ref ne, .ref nm, .ref nn, .int (nI fi), .int (nI gl), .int (nI un), .int (nI mi), .int (nI no)])), (nk, .inl (y 0, 6, .inl fk)), (kk, .inl (y 5, 6, .inr (.inr (.inr (.inr fq))))), (k0, .inr (5, [])), (k1, .inr (8, [])), (k2, .inr (9, [])), (k4, .inr (2, [])), (k5, .inr (3, [])), (nm, .inl (y 6, 4, .inr (.inr (.inr (.inr fm))))), (m0, .inl (y 0, 4, .inl m0f)), (m1, .inl (y 0, 4, .inl m1f)), (m2, .inl (y 0, 4, .inl m2f)), (m3, .inl (y 0, 4, .inl m3f))] [6] [0, 1, 2, 3, 4, 5, 7, 8, 9, 10, 11, 12, 13] := ⟨rfl, rfl, rfl, rfl, rfl, by decide⟩
            refine kw_go_i hs171 hP hD hS hA (va_runU (As := [.int (m0f 1), .int (m0f 2), .int x]) (rest := []) ⟨hx, hb, hml, hown, hts⟩ (gb_Puddle_on6 l D y k3 (m0f 1) (m0f 2) x  _) (va_cwO 3 hts gX4_missedFit_X6_sight_u89X6 rfl rfl rfl (List.mem_of_getElem? (i := 26) rfl) (by decide +kernel) ⟨Nat.le_of_ble_eq_true rfl, Nat.le_of_ble_eq_true rfl⟩) (kw_PreV (ci := 6) (q0 := 6) hs171 hP hD hK hN rfl rfl) rfl rfl hl.1 rfl (lv_room (Nat.le_of_ble_eq_true rfl)) dX4_missedFit_37 ⟨Nat.le_of_ble_eq_true rfl, Nat.le_of_ble_eq_true rfl⟩) (fun r172 u173 H locs hq hP hD hS => ?_)
            obtain rfl := hq
            have hP : va_P D vwCl [(nw, .inr (4, [.ref kk, .ref nk, .ref nd, .ref ne, .ref nm, .ref nn, .int (nI fi), .int (nI gl), .int (nI un), .int (nI mi), .int (nI no)])), (nk, .inl (y 0, 6, .inl fk)), (kk, .inl (y 5, 6, .inr (.inr (.inr (.inr fq))))), (k0, .inr (5, [])), (k1, .inr (8, [])), (k2, .inr (9, [])), (k4, .inr (2, [])), (k5, .inr (3, [])), (nm, .inl (y 6, 4, .inr (.inr (.inr (.inr fm))))), (m0, .inl (y 0, 4, .inl m0f)), (m1, .inl (y 0, 4, .inl m1f)), (m2, .inl (y 0, 4, .inl m2f)), (m3, .inl (y 0, 4, .inl m3f)), (k3, .inr (6, []))] H := hP
            have hD : va_D A [(nw, .inr (4, [.ref kk, .ref nk, .ref nd, .ref ne, .ref nm, .ref nn, .int (nI fi), .int (nI gl), .int (nI un), .int (nI mi), .int (nI no)])), (nk, .inl (y 0, 6, .inl fk)), (kk, .inl (y 5, 6, .inr (.inr (.inr (.inr fq))))), (k0, .inr (5, [])), (k1, .inr (8, [])), (k2, .inr (9, [])), (k4, .inr (2, [])), (k5, .inr (3, [])), (nm, .inl (y 6, 4, .inr (.inr (.inr (.inr fm))))), (m0, .inl (y 0, 4, .inl m0f)), (m1, .inl (y 0, 4, .inl m1f)), (m2, .inl (y 0, 4, .inl m2f)), (m3, .inl (y 0, 4, .inl m3f)), (k3, .inr (6, []))] := hD
            refine lv_aload_n hx hb dX4_missedFit_40 rfl (lv_at hl 0 rfl) ?_
            refine lv_iconst (v := 3) hx hb dX4_missedFit_41 (by decide) ?_
            refine va_iald hx hb hK hP 9 0 rfl rfl (by unfold vp_in; decide) dX4_missedFit_42 ?_
            rw [show ((3 : Int32)).toNatClampNeg = 3 from rfl]
            refine lv_icmp_eq (tgt := 48) hx hb dX4_missedFit_43 (by decide) (fun h174 => ?_) (fun h175 => ?_)
            · skip
              refine lv_iinc (v := (nI 1)) (lv' := [(2, .int (nI 1)), (3, .ref m0), (0, .ref nw), (1, .int x)]) hx hb dX4_missedFit_48 hl (k := 1) rfl (nI_1 0) (by decide) rfl (fun ls hl => ?_)
              refine lv_goto (tgt := 2) hx hb dX4_missedFit_51 (by decide) ?_
              exact ihj91 1  H locs ls (by omega) (by omega) (cl_ok_s hI0_j91 (by rw [cl_row_i (hPM.2.1 (by omega)) hPM.1 hfi h152 (by omega) h155 (by decide)]; exact decide_eq_true h174)) (hP.sub [0, 1, 2, 3, 4, 5, 13, 6, 7, 8, 9, 10, 11, 12] rfl) (hD.sub [0, 1, 2, 3, 4, 5, 13, 6, 7, 8, 9, 10, 11, 12] (by decide) rfl) hS (lv_sub hl [0, 2, 3] rfl)
            · skip
              refine lv_iconst (v := 0) hx hb dX4_missedFit_46 (by decide) ?_
              exact W.zret (v := 0) hx hb hr (by decide) (fun tZ ht hW => ⟨⟨0, (), rfl, Or.inr (⟨cl_ok_f (j := 0) (by omega) (by rw [cl_row_i (hPM.2.1 (by omega)) hPM.1 hfi h152 (by omega) h155 (by decide)]; exact fun q9 => h175 (of_decide_eq_true q9)), rfl⟩), by rw [ht]; exact hP.sub [0, 1, 2, 3, 4, 5, 13, 6, 7, 8, 9, 10, 11, 12] rfl, hD.sub [0, 1, 2, 3, 4, 5, 13, 6, 7, 8, 9, 10, 11, 12] (by decide) rfl⟩, hS.F ht⟩) hS.2.2 dX4_missedFit_47
          · skip
            refine va_aldq hx hb hK hP 2 5 rfl rfl (vp_in_nI (by omega) (by decide)) dX4_missedFit_29 ?_
            rw [nI_clamp (n := 4) (by omega), show va_rf (fq 4) = .ref k4 from congrArg va_rf hq4]
            refine lv_aload_n hx hb dX4_missedFit_30 rfl (lv_at hl 0 rfl) ?_
            refine lv_iconst (v := 1) hx hb dX4_missedFit_31 (by decide) ?_
            refine va_iald hx hb hK hP 10 0 rfl rfl (by unfold vp_in; decide) dX4_missedFit_32 ?_
            rw [show ((1 : Int32)).toNatClampNeg = 1 from rfl]
            refine lv_aload_n hx hb dX4_missedFit_33 rfl (lv_at hl 0 rfl) ?_
            refine lv_iconst (v := 2) hx hb dX4_missedFit_34 (by decide) ?_
            refine va_iald hx hb hK hP 10 0 rfl rfl (by unfold vp_in; decide) dX4_missedFit_35 ?_
            rw [show ((2 : Int32)).toNatClampNeg = 2 from rfl]
            refine lv_iload_n hx hb dX4_missedFit_36 rfl (lv_at hl 3 rfl) ?_
            have hs176 : kw_Split [(nw, .inr (4, [.ref kk, .ref nk, .ref nd, .ref ne, .ref nm, .ref nn, .int (nI fi), .int (nI gl), .int (nI un), .int (nI mi), .int (nI no)])), (nk, .inl (y 0, 6, .inl fk)), (kk, .inl (y 5, 6, .inr (.inr (.inr (.inr fq))))), (k0, .inr (5, [])), (k1, .inr (8, [])), (k2, .inr (9, [])), (k3, .inr (6, [])), (k4, .inr (2, [])), (k5, .inr (3, [])), (nm, .inl (y 6, 4, .inr (.inr (.inr (.inr fm))))), (m0, .inl (y 0, 4, .inl m0f)), (m1, .inl (y 0, 4, .inl m1f)), (m2, .inl (y 0, 4, .inl m2f)), (m3, .inl (y 0, 4, .inl m3f))] [(k4, .inr (2, []))] [(nw, .inr (4, [.ref kk, .ref nk, .ref nd, .ref ne, .ref nm, .ref nn, .int (nI fi), .int (nI gl), .int (nI un), .int (nI mi), .int (nI no)])), (nk, .inl (y 0, 6, .inl fk)), (kk, .inl (y 5, 6, .inr (.inr (.inr (.inr fq))))), (k0, .inr (5, [])), (k1, .inr (8, [])), (k2, .inr (9, [])), (k3, .inr (6, [])), (k5, .inr (3, [])), (nm, .inl (y 6, 4, .inr (.inr (.inr (.inr fm))))), (m0, .inl (y 0, 4, .inl m0f)), (m1, .inl (y 0, 4, .inl m1f)), (m2, .inl (y 0, 4, .inl m2f)), (m3, .inl (y 0, 4, .inl m3f))] [7] [0, 1, 2, 3, 4, 5, 6, 8, 9, 10, 11, 12, 13] := ⟨rfl, rfl, rfl, rfl, rfl, by decide⟩
            refine kw_go_i hs176 hP hD hS hA (va_runU (As := [.int (m0f 1), .int (m0f 2), .int x]) (rest := []) ⟨hx, hb, hml, hown, hts⟩ (gb_Hill_on2 l D y k4 (m0f 1) (m0f 2) x  _) (va_cwO 3 hts gX4_missedFit_X2_sight_u89X2 rfl rfl rfl (List.mem_of_getElem? (i := 26) rfl) (by decide +kernel) ⟨Nat.le_of_ble_eq_true rfl, Nat.le_of_ble_eq_true rfl⟩) (kw_PreV (ci := 2) (q0 := 7) hs176 hP hD hK hN rfl rfl) rfl rfl hl.1 rfl (lv_room (Nat.le_of_ble_eq_true rfl)) dX4_missedFit_37 ⟨Nat.le_of_ble_eq_true rfl, Nat.le_of_ble_eq_true rfl⟩) (fun r177 u178 H locs hq hP hD hS => ?_)
            obtain rfl := hq
            have hP : va_P D vwCl [(nw, .inr (4, [.ref kk, .ref nk, .ref nd, .ref ne, .ref nm, .ref nn, .int (nI fi), .int (nI gl), .int (nI un), .int (nI mi), .int (nI no)])), (nk, .inl (y 0, 6, .inl fk)), (kk, .inl (y 5, 6, .inr (.inr (.inr (.inr fq))))), (k0, .inr (5, [])), (k1, .inr (8, [])), (k2, .inr (9, [])), (k3, .inr (6, [])), (k5, .inr (3, [])), (nm, .inl (y 6, 4, .inr (.inr (.inr (.inr fm))))), (m0, .inl (y 0, 4, .inl m0f)), (m1, .inl (y 0, 4, .inl m1f)), (m2, .inl (y 0, 4, .inl m2f)), (m3, .inl (y 0, 4, .inl m3f)), (k4, .inr (2, []))] H := hP
            have hD : va_D A [(nw, .inr (4, [.ref kk, .ref nk, .ref nd, .ref ne, .ref nm, .ref nn, .int (nI fi), .int (nI gl), .int (nI un), .int (nI mi), .int (nI no)])), (nk, .inl (y 0, 6, .inl fk)), (kk, .inl (y 5, 6, .inr (.inr (.inr (.inr fq))))), (k0, .inr (5, [])), (k1, .inr (8, [])), (k2, .inr (9, [])), (k3, .inr (6, [])), (k5, .inr (3, [])), (nm, .inl (y 6, 4, .inr (.inr (.inr (.inr fm))))), (m0, .inl (y 0, 4, .inl m0f)), (m1, .inl (y 0, 4, .inl m1f)), (m2, .inl (y 0, 4, .inl m2f)), (m3, .inl (y 0, 4, .inl m3f)), (k4, .inr (2, []))] := hD
            refine lv_aload_n hx hb dX4_missedFit_40 rfl (lv_at hl 0 rfl) ?_
            refine lv_iconst (v := 3) hx hb dX4_missedFit_41 (by decide) ?_
            refine va_iald hx hb hK hP 9 0 rfl rfl (by unfold vp_in; decide) dX4_missedFit_42 ?_
            rw [show ((3 : Int32)).toNatClampNeg = 3 from rfl]
            refine lv_icmp_eq (tgt := 48) hx hb dX4_missedFit_43 (by decide) (fun h179 => ?_) (fun h180 => ?_)
            · skip
              refine lv_iinc (v := (nI 1)) (lv' := [(2, .int (nI 1)), (3, .ref m0), (0, .ref nw), (1, .int x)]) hx hb dX4_missedFit_48 hl (k := 1) rfl (nI_1 0) (by decide) rfl (fun ls hl => ?_)
              refine lv_goto (tgt := 2) hx hb dX4_missedFit_51 (by decide) ?_
              exact ihj91 1  H locs ls (by omega) (by omega) (cl_ok_s hI0_j91 (by rw [cl_row_i (hPM.2.1 (by omega)) hPM.1 hfi h152 (by omega) h155 (by decide)]; exact decide_eq_true h179)) (hP.sub [0, 1, 2, 3, 4, 5, 6, 13, 7, 8, 9, 10, 11, 12] rfl) (hD.sub [0, 1, 2, 3, 4, 5, 6, 13, 7, 8, 9, 10, 11, 12] (by decide) rfl) hS (lv_sub hl [0, 2, 3] rfl)
            · skip
              refine lv_iconst (v := 0) hx hb dX4_missedFit_46 (by decide) ?_
              exact W.zret (v := 0) hx hb hr (by decide) (fun tZ ht hW => ⟨⟨0, (), rfl, Or.inr (⟨cl_ok_f (j := 0) (by omega) (by rw [cl_row_i (hPM.2.1 (by omega)) hPM.1 hfi h152 (by omega) h155 (by decide)]; exact fun q9 => h180 (of_decide_eq_true q9)), rfl⟩), by rw [ht]; exact hP.sub [0, 1, 2, 3, 4, 5, 6, 13, 7, 8, 9, 10, 11, 12] rfl, hD.sub [0, 1, 2, 3, 4, 5, 6, 13, 7, 8, 9, 10, 11, 12] (by decide) rfl⟩, hS.F ht⟩) hS.2.2 dX4_missedFit_47
          · skip
            refine va_aldq hx hb hK hP 2 5 rfl rfl (vp_in_nI (by omega) (by decide)) dX4_missedFit_29 ?_
            rw [nI_clamp (n := 5) (by omega), show va_rf (fq 5) = .ref k5 from congrArg va_rf hq5]
            refine lv_aload_n hx hb dX4_missedFit_30 rfl (lv_at hl 0 rfl) ?_
            refine lv_iconst (v := 1) hx hb dX4_missedFit_31 (by decide) ?_
            refine va_iald hx hb hK hP 10 0 rfl rfl (by unfold vp_in; decide) dX4_missedFit_32 ?_
            rw [show ((1 : Int32)).toNatClampNeg = 1 from rfl]
            refine lv_aload_n hx hb dX4_missedFit_33 rfl (lv_at hl 0 rfl) ?_
            refine lv_iconst (v := 2) hx hb dX4_missedFit_34 (by decide) ?_
            refine va_iald hx hb hK hP 10 0 rfl rfl (by unfold vp_in; decide) dX4_missedFit_35 ?_
            rw [show ((2 : Int32)).toNatClampNeg = 2 from rfl]
            refine lv_iload_n hx hb dX4_missedFit_36 rfl (lv_at hl 3 rfl) ?_
            have hs181 : kw_Split [(nw, .inr (4, [.ref kk, .ref nk, .ref nd, .ref ne, .ref nm, .ref nn, .int (nI fi), .int (nI gl), .int (nI un), .int (nI mi), .int (nI no)])), (nk, .inl (y 0, 6, .inl fk)), (kk, .inl (y 5, 6, .inr (.inr (.inr (.inr fq))))), (k0, .inr (5, [])), (k1, .inr (8, [])), (k2, .inr (9, [])), (k3, .inr (6, [])), (k4, .inr (2, [])), (k5, .inr (3, [])), (nm, .inl (y 6, 4, .inr (.inr (.inr (.inr fm))))), (m0, .inl (y 0, 4, .inl m0f)), (m1, .inl (y 0, 4, .inl m1f)), (m2, .inl (y 0, 4, .inl m2f)), (m3, .inl (y 0, 4, .inl m3f))] [(k5, .inr (3, []))] [(nw, .inr (4, [.ref kk, .ref nk, .ref nd, .ref ne, .ref nm, .ref nn, .int (nI fi), .int (nI gl), .int (nI un), .int (nI mi), .int (nI no)])), (nk, .inl (y 0, 6, .inl fk)), (kk, .inl (y 5, 6, .inr (.inr (.inr (.inr fq))))), (k0, .inr (5, [])), (k1, .inr (8, [])), (k2, .inr (9, [])), (k3, .inr (6, [])), (k4, .inr (2, [])), (nm, .inl (y 6, 4, .inr (.inr (.inr (.inr fm))))), (m0, .inl (y 0, 4, .inl m0f)), (m1, .inl (y 0, 4, .inl m1f)), (m2, .inl (y 0, 4, .inl m2f)), (m3, .inl (y 0, 4, .inl m3f))] [8] [0, 1, 2, 3, 4, 5, 6, 7, 9, 10, 11, 12, 13] := ⟨rfl, rfl, rfl, rfl, rfl, by decide⟩
            refine kw_go_i hs181 hP hD hS hA (va_runU (As := [.int (m0f 1), .int (m0f 2), .int x]) (rest := []) ⟨hx, hb, hml, hown, hts⟩ (gb_Lane_on3 l D y k5 (m0f 1) (m0f 2) x  _) (va_cwO 3 hts gX4_missedFit_X3_sight_u89X3 rfl rfl rfl (List.mem_of_getElem? (i := 26) rfl) (by decide +kernel) ⟨Nat.le_of_ble_eq_true rfl, Nat.le_of_ble_eq_true rfl⟩) (kw_PreV (ci := 3) (q0 := 8) hs181 hP hD hK hN rfl rfl) rfl rfl hl.1 rfl (lv_room (Nat.le_of_ble_eq_true rfl)) dX4_missedFit_37 ⟨Nat.le_of_ble_eq_true rfl, Nat.le_of_ble_eq_true rfl⟩) (fun r182 u183 H locs hq hP hD hS => ?_)
            obtain rfl := hq
            have hP : va_P D vwCl [(nw, .inr (4, [.ref kk, .ref nk, .ref nd, .ref ne, .ref nm, .ref nn, .int (nI fi), .int (nI gl), .int (nI un), .int (nI mi), .int (nI no)])), (nk, .inl (y 0, 6, .inl fk)), (kk, .inl (y 5, 6, .inr (.inr (.inr (.inr fq))))), (k0, .inr (5, [])), (k1, .inr (8, [])), (k2, .inr (9, [])), (k3, .inr (6, [])), (k4, .inr (2, [])), (nm, .inl (y 6, 4, .inr (.inr (.inr (.inr fm))))), (m0, .inl (y 0, 4, .inl m0f)), (m1, .inl (y 0, 4, .inl m1f)), (m2, .inl (y 0, 4, .inl m2f)), (m3, .inl (y 0, 4, .inl m3f)), (k5, .inr (3, []))] H := hP
            have hD : va_D A [(nw, .inr (4, [.ref kk, .ref nk, .ref nd, .ref ne, .ref nm, .ref nn, .int (nI fi), .int (nI gl), .int (nI un), .int (nI mi), .int (nI no)])), (nk, .inl (y 0, 6, .inl fk)), (kk, .inl (y 5, 6, .inr (.inr (.inr (.inr fq))))), (k0, .inr (5, [])), (k1, .inr (8, [])), (k2, .inr (9, [])), (k3, .inr (6, [])), (k4, .inr (2, [])), (nm, .inl (y 6, 4, .inr (.inr (.inr (.inr fm))))), (m0, .inl (y 0, 4, .inl m0f)), (m1, .inl (y 0, 4, .inl m1f)), (m2, .inl (y 0, 4, .inl m2f)), (m3, .inl (y 0, 4, .inl m3f)), (k5, .inr (3, []))] := hD
            refine lv_aload_n hx hb dX4_missedFit_40 rfl (lv_at hl 0 rfl) ?_
            refine lv_iconst (v := 3) hx hb dX4_missedFit_41 (by decide) ?_
            refine va_iald hx hb hK hP 9 0 rfl rfl (by unfold vp_in; decide) dX4_missedFit_42 ?_
            rw [show ((3 : Int32)).toNatClampNeg = 3 from rfl]
            refine lv_icmp_eq (tgt := 48) hx hb dX4_missedFit_43 (by decide) (fun h184 => ?_) (fun h185 => ?_)
            · skip
              refine lv_iinc (v := (nI 1)) (lv' := [(2, .int (nI 1)), (3, .ref m0), (0, .ref nw), (1, .int x)]) hx hb dX4_missedFit_48 hl (k := 1) rfl (nI_1 0) (by decide) rfl (fun ls hl => ?_)
              refine lv_goto (tgt := 2) hx hb dX4_missedFit_51 (by decide) ?_
              exact ihj91 1  H locs ls (by omega) (by omega) (cl_ok_s hI0_j91 (by rw [cl_row_i (hPM.2.1 (by omega)) hPM.1 hfi h152 (by omega) h155 (by decide)]; exact decide_eq_true h184)) (hP.sub [0, 1, 2, 3, 4, 5, 6, 7, 13, 8, 9, 10, 11, 12] rfl) (hD.sub [0, 1, 2, 3, 4, 5, 6, 7, 13, 8, 9, 10, 11, 12] (by decide) rfl) hS (lv_sub hl [0, 2, 3] rfl)
            · skip
              refine lv_iconst (v := 0) hx hb dX4_missedFit_46 (by decide) ?_
              exact W.zret (v := 0) hx hb hr (by decide) (fun tZ ht hW => ⟨⟨0, (), rfl, Or.inr (⟨cl_ok_f (j := 0) (by omega) (by rw [cl_row_i (hPM.2.1 (by omega)) hPM.1 hfi h152 (by omega) h155 (by decide)]; exact fun q9 => h185 (of_decide_eq_true q9)), rfl⟩), by rw [ht]; exact hP.sub [0, 1, 2, 3, 4, 5, 6, 7, 13, 8, 9, 10, 11, 12] rfl, hD.sub [0, 1, 2, 3, 4, 5, 6, 7, 13, 8, 9, 10, 11, 12] (by decide) rfl⟩, hS.F ht⟩) hS.2.2 dX4_missedFit_47
        · skip
          refine kw_aldQ hx hb hK hP 9 6 rfl rfl (vp_in_nI (by omega) (by decide)) dX4_missedFit_15 ?_
          rw [nI_clamp (n := 1) (by omega), show va_rf (fm 1) = .ref m1 from congrArg va_rf hm1]
          refine lv_astore_n (lv' := [(3, .ref m1), (2, .int (nI 1)), (0, .ref nw), (1, .int x)]) hx hb dX4_missedFit_16 rfl hl (by decide) rfl (fun ls hl => ?_)
          refine lv_aload_n hx hb dX4_missedFit_17 rfl (lv_at hl 2 rfl) ?_
          refine va_get (D := D) (ci := 4) (v := .ref kk) (C := RX4) (T := TX4) (N := 11) hx hb hts iw4 hown hK hP 0 rfl rfl 0 (by decide) fw3 (fun _ h9 => h9) rfl dX4_missedFit_18 ?_
          refine lv_aload_n hx hb dX4_missedFit_21 rfl (lv_at hl 2 rfl) ?_
          refine va_get (D := D) (ci := 4) (v := .ref nk) (C := RX4) (T := TX4) (N := 11) hx hb hts iw4 hown hK hP 0 rfl rfl 1 (by decide) fw4 (fun _ h9 => h9) rfl dX4_missedFit_22 ?_
          refine lv_aload_n hx hb dX4_missedFit_25 rfl (lv_at hl 0 rfl) ?_
          refine lv_iconst (v := 0) hx hb dX4_missedFit_26 (by decide) ?_
          refine va_iald hx hb hK hP 11 0 rfl rfl (by unfold vp_in; decide) dX4_missedFit_27 ?_
          rw [show ((0 : Int32)).toNatClampNeg = 0 from rfl]
          obtain ⟨w186, h187, h188⟩ := vp_in_of hm1f (by decide)
          rw [h188]
          refine va_iald hx hb hK hP 1 0 rfl rfl (vp_in_nI (by omega) (by decide)) dX4_missedFit_28 ?_
          rw [nI_clamp (n := w186) (by omega)]
          obtain ⟨w189, h190, h191⟩ := kw_bdv hk (k := w186) (by omega) (by decide)
          rw [h191]
          rcases (show w189 = 0 ∨ w189 = 1 ∨ w189 = 2 ∨ w189 = 3 ∨ w189 = 4 ∨ w189 = 5 by omega) with rfl | rfl | rfl | rfl | rfl | rfl
          · skip
            refine va_aldq hx hb hK hP 2 5 rfl rfl (vp_in_nI (by omega) (by decide)) dX4_missedFit_29 ?_
            rw [nI_clamp (n := 0) (by omega), show va_rf (fq 0) = .ref k0 from congrArg va_rf hq0]
            refine lv_aload_n hx hb dX4_missedFit_30 rfl (lv_at hl 0 rfl) ?_
            refine lv_iconst (v := 1) hx hb dX4_missedFit_31 (by decide) ?_
            refine va_iald hx hb hK hP 11 0 rfl rfl (by unfold vp_in; decide) dX4_missedFit_32 ?_
            rw [show ((1 : Int32)).toNatClampNeg = 1 from rfl]
            refine lv_aload_n hx hb dX4_missedFit_33 rfl (lv_at hl 0 rfl) ?_
            refine lv_iconst (v := 2) hx hb dX4_missedFit_34 (by decide) ?_
            refine va_iald hx hb hK hP 11 0 rfl rfl (by unfold vp_in; decide) dX4_missedFit_35 ?_
            rw [show ((2 : Int32)).toNatClampNeg = 2 from rfl]
            refine lv_iload_n hx hb dX4_missedFit_36 rfl (lv_at hl 3 rfl) ?_
            have hs192 : kw_Split [(nw, .inr (4, [.ref kk, .ref nk, .ref nd, .ref ne, .ref nm, .ref nn, .int (nI fi), .int (nI gl), .int (nI un), .int (nI mi), .int (nI no)])), (nk, .inl (y 0, 6, .inl fk)), (kk, .inl (y 5, 6, .inr (.inr (.inr (.inr fq))))), (k0, .inr (5, [])), (k1, .inr (8, [])), (k2, .inr (9, [])), (k3, .inr (6, [])), (k4, .inr (2, [])), (k5, .inr (3, [])), (nm, .inl (y 6, 4, .inr (.inr (.inr (.inr fm))))), (m0, .inl (y 0, 4, .inl m0f)), (m1, .inl (y 0, 4, .inl m1f)), (m2, .inl (y 0, 4, .inl m2f)), (m3, .inl (y 0, 4, .inl m3f))] [(k0, .inr (5, []))] [(nw, .inr (4, [.ref kk, .ref nk, .ref nd, .ref ne, .ref nm, .ref nn, .int (nI fi), .int (nI gl), .int (nI un), .int (nI mi), .int (nI no)])), (nk, .inl (y 0, 6, .inl fk)), (kk, .inl (y 5, 6, .inr (.inr (.inr (.inr fq))))), (k1, .inr (8, [])), (k2, .inr (9, [])), (k3, .inr (6, [])), (k4, .inr (2, [])), (k5, .inr (3, [])), (nm, .inl (y 6, 4, .inr (.inr (.inr (.inr fm))))), (m0, .inl (y 0, 4, .inl m0f)), (m1, .inl (y 0, 4, .inl m1f)), (m2, .inl (y 0, 4, .inl m2f)), (m3, .inl (y 0, 4, .inl m3f))] [3] [0, 1, 2, 4, 5, 6, 7, 8, 9, 10, 11, 12, 13] := ⟨rfl, rfl, rfl, rfl, rfl, by decide⟩
            refine kw_go_i hs192 hP hD hS hA (va_runV (As := [.int (m1f 1), .int (m1f 2), .int x]) (rest := []) ⟨hx, hb, hml, hown, hts⟩ (gb_Plain_on5 l D y k0 (m1f 1) (m1f 2) x  _) (cwV 3 hts gX4_missedFit_X5_sight rfl rfl rfl (by decide +kernel) ⟨Nat.le_of_ble_eq_true rfl, Nat.le_of_ble_eq_true rfl⟩) (kw_PreV (ci := 5) (q0 := 3) hs192 hP hD hK hN rfl rfl) rfl rfl hl.1 rfl (lv_room (Nat.le_of_ble_eq_true rfl)) dX4_missedFit_37 ⟨Nat.le_of_ble_eq_true rfl, Nat.le_of_ble_eq_true rfl⟩) (fun r193 u194 H locs hq hP hD hS => ?_)
            obtain rfl := hq
            have hP : va_P D vwCl [(nw, .inr (4, [.ref kk, .ref nk, .ref nd, .ref ne, .ref nm, .ref nn, .int (nI fi), .int (nI gl), .int (nI un), .int (nI mi), .int (nI no)])), (nk, .inl (y 0, 6, .inl fk)), (kk, .inl (y 5, 6, .inr (.inr (.inr (.inr fq))))), (k1, .inr (8, [])), (k2, .inr (9, [])), (k3, .inr (6, [])), (k4, .inr (2, [])), (k5, .inr (3, [])), (nm, .inl (y 6, 4, .inr (.inr (.inr (.inr fm))))), (m0, .inl (y 0, 4, .inl m0f)), (m1, .inl (y 0, 4, .inl m1f)), (m2, .inl (y 0, 4, .inl m2f)), (m3, .inl (y 0, 4, .inl m3f)), (k0, .inr (5, []))] H := hP
            have hD : va_D A [(nw, .inr (4, [.ref kk, .ref nk, .ref nd, .ref ne, .ref nm, .ref nn, .int (nI fi), .int (nI gl), .int (nI un), .int (nI mi), .int (nI no)])), (nk, .inl (y 0, 6, .inl fk)), (kk, .inl (y 5, 6, .inr (.inr (.inr (.inr fq))))), (k1, .inr (8, [])), (k2, .inr (9, [])), (k3, .inr (6, [])), (k4, .inr (2, [])), (k5, .inr (3, [])), (nm, .inl (y 6, 4, .inr (.inr (.inr (.inr fm))))), (m0, .inl (y 0, 4, .inl m0f)), (m1, .inl (y 0, 4, .inl m1f)), (m2, .inl (y 0, 4, .inl m2f)), (m3, .inl (y 0, 4, .inl m3f)), (k0, .inr (5, []))] := hD
            refine lv_aload_n hx hb dX4_missedFit_40 rfl (lv_at hl 0 rfl) ?_
            refine lv_iconst (v := 3) hx hb dX4_missedFit_41 (by decide) ?_
            refine va_iald hx hb hK hP 10 0 rfl rfl (by unfold vp_in; decide) dX4_missedFit_42 ?_
            rw [show ((3 : Int32)).toNatClampNeg = 3 from rfl]
            refine lv_icmp_eq (tgt := 48) hx hb dX4_missedFit_43 (by decide) (fun h195 => ?_) (fun h196 => ?_)
            · skip
              refine lv_iinc (v := (nI 2)) (lv' := [(2, .int (nI 2)), (3, .ref m1), (0, .ref nw), (1, .int x)]) hx hb dX4_missedFit_48 hl (k := 1) rfl (nI_1 1) (by decide) rfl (fun ls hl => ?_)
              refine lv_goto (tgt := 2) hx hb dX4_missedFit_51 (by decide) ?_
              exact ihj91 2  H locs ls (by omega) (by omega) (cl_ok_s hI0_j91 (by rw [cl_row_i (hPM.2.2.1 (by omega)) hPM.1 hfi h188 (by omega) h191 (by decide)]; exact decide_eq_true h195)) (hP.sub [0, 1, 2, 13, 3, 4, 5, 6, 7, 8, 9, 10, 11, 12] rfl) (hD.sub [0, 1, 2, 13, 3, 4, 5, 6, 7, 8, 9, 10, 11, 12] (by decide) rfl) hS (lv_sub hl [0, 2, 3] rfl)
            · skip
              refine lv_iconst (v := 0) hx hb dX4_missedFit_46 (by decide) ?_
              exact W.zret (v := 0) hx hb hr (by decide) (fun tZ ht hW => ⟨⟨0, (), rfl, Or.inr (⟨cl_ok_f (j := 1) (by omega) (by rw [cl_row_i (hPM.2.2.1 (by omega)) hPM.1 hfi h188 (by omega) h191 (by decide)]; exact fun q9 => h196 (of_decide_eq_true q9)), rfl⟩), by rw [ht]; exact hP.sub [0, 1, 2, 13, 3, 4, 5, 6, 7, 8, 9, 10, 11, 12] rfl, hD.sub [0, 1, 2, 13, 3, 4, 5, 6, 7, 8, 9, 10, 11, 12] (by decide) rfl⟩, hS.F ht⟩) hS.2.2 dX4_missedFit_47
          · skip
            refine va_aldq hx hb hK hP 2 5 rfl rfl (vp_in_nI (by omega) (by decide)) dX4_missedFit_29 ?_
            rw [nI_clamp (n := 1) (by omega), show va_rf (fq 1) = .ref k1 from congrArg va_rf hq1]
            refine lv_aload_n hx hb dX4_missedFit_30 rfl (lv_at hl 0 rfl) ?_
            refine lv_iconst (v := 1) hx hb dX4_missedFit_31 (by decide) ?_
            refine va_iald hx hb hK hP 11 0 rfl rfl (by unfold vp_in; decide) dX4_missedFit_32 ?_
            rw [show ((1 : Int32)).toNatClampNeg = 1 from rfl]
            refine lv_aload_n hx hb dX4_missedFit_33 rfl (lv_at hl 0 rfl) ?_
            refine lv_iconst (v := 2) hx hb dX4_missedFit_34 (by decide) ?_
            refine va_iald hx hb hK hP 11 0 rfl rfl (by unfold vp_in; decide) dX4_missedFit_35 ?_
            rw [show ((2 : Int32)).toNatClampNeg = 2 from rfl]
            refine lv_iload_n hx hb dX4_missedFit_36 rfl (lv_at hl 3 rfl) ?_
            have hs197 : kw_Split [(nw, .inr (4, [.ref kk, .ref nk, .ref nd, .ref ne, .ref nm, .ref nn, .int (nI fi), .int (nI gl), .int (nI un), .int (nI mi), .int (nI no)])), (nk, .inl (y 0, 6, .inl fk)), (kk, .inl (y 5, 6, .inr (.inr (.inr (.inr fq))))), (k0, .inr (5, [])), (k1, .inr (8, [])), (k2, .inr (9, [])), (k3, .inr (6, [])), (k4, .inr (2, [])), (k5, .inr (3, [])), (nm, .inl (y 6, 4, .inr (.inr (.inr (.inr fm))))), (m0, .inl (y 0, 4, .inl m0f)), (m1, .inl (y 0, 4, .inl m1f)), (m2, .inl (y 0, 4, .inl m2f)), (m3, .inl (y 0, 4, .inl m3f))] [(k1, .inr (8, []))] [(nw, .inr (4, [.ref kk, .ref nk, .ref nd, .ref ne, .ref nm, .ref nn, .int (nI fi), .int (nI gl), .int (nI un), .int (nI mi), .int (nI no)])), (nk, .inl (y 0, 6, .inl fk)), (kk, .inl (y 5, 6, .inr (.inr (.inr (.inr fq))))), (k0, .inr (5, [])), (k2, .inr (9, [])), (k3, .inr (6, [])), (k4, .inr (2, [])), (k5, .inr (3, [])), (nm, .inl (y 6, 4, .inr (.inr (.inr (.inr fm))))), (m0, .inl (y 0, 4, .inl m0f)), (m1, .inl (y 0, 4, .inl m1f)), (m2, .inl (y 0, 4, .inl m2f)), (m3, .inl (y 0, 4, .inl m3f))] [4] [0, 1, 2, 3, 5, 6, 7, 8, 9, 10, 11, 12, 13] := ⟨rfl, rfl, rfl, rfl, rfl, by decide⟩
            refine kw_go_i hs197 hP hD hS hA (va_runU (As := [.int (m1f 1), .int (m1f 2), .int x]) (rest := []) ⟨hx, hb, hml, hown, hts⟩ (gb_West_on8 l D y k1 (m1f 1) (m1f 2) x  _) (va_cwO 3 hts gX4_missedFit_X8_sight_u89X8 rfl rfl rfl (List.mem_of_getElem? (i := 26) rfl) (by decide +kernel) ⟨Nat.le_of_ble_eq_true rfl, Nat.le_of_ble_eq_true rfl⟩) (kw_PreV (ci := 8) (q0 := 4) hs197 hP hD hK hN rfl rfl) rfl rfl hl.1 rfl (lv_room (Nat.le_of_ble_eq_true rfl)) dX4_missedFit_37 ⟨Nat.le_of_ble_eq_true rfl, Nat.le_of_ble_eq_true rfl⟩) (fun r198 u199 H locs hq hP hD hS => ?_)
            obtain rfl := hq
            have hP : va_P D vwCl [(nw, .inr (4, [.ref kk, .ref nk, .ref nd, .ref ne, .ref nm, .ref nn, .int (nI fi), .int (nI gl), .int (nI un), .int (nI mi), .int (nI no)])), (nk, .inl (y 0, 6, .inl fk)), (kk, .inl (y 5, 6, .inr (.inr (.inr (.inr fq))))), (k0, .inr (5, [])), (k2, .inr (9, [])), (k3, .inr (6, [])), (k4, .inr (2, [])), (k5, .inr (3, [])), (nm, .inl (y 6, 4, .inr (.inr (.inr (.inr fm))))), (m0, .inl (y 0, 4, .inl m0f)), (m1, .inl (y 0, 4, .inl m1f)), (m2, .inl (y 0, 4, .inl m2f)), (m3, .inl (y 0, 4, .inl m3f)), (k1, .inr (8, []))] H := hP
            have hD : va_D A [(nw, .inr (4, [.ref kk, .ref nk, .ref nd, .ref ne, .ref nm, .ref nn, .int (nI fi), .int (nI gl), .int (nI un), .int (nI mi), .int (nI no)])), (nk, .inl (y 0, 6, .inl fk)), (kk, .inl (y 5, 6, .inr (.inr (.inr (.inr fq))))), (k0, .inr (5, [])), (k2, .inr (9, [])), (k3, .inr (6, [])), (k4, .inr (2, [])), (k5, .inr (3, [])), (nm, .inl (y 6, 4, .inr (.inr (.inr (.inr fm))))), (m0, .inl (y 0, 4, .inl m0f)), (m1, .inl (y 0, 4, .inl m1f)), (m2, .inl (y 0, 4, .inl m2f)), (m3, .inl (y 0, 4, .inl m3f)), (k1, .inr (8, []))] := hD
            refine lv_aload_n hx hb dX4_missedFit_40 rfl (lv_at hl 0 rfl) ?_
            refine lv_iconst (v := 3) hx hb dX4_missedFit_41 (by decide) ?_
            refine va_iald hx hb hK hP 10 0 rfl rfl (by unfold vp_in; decide) dX4_missedFit_42 ?_
            rw [show ((3 : Int32)).toNatClampNeg = 3 from rfl]
            refine lv_icmp_eq (tgt := 48) hx hb dX4_missedFit_43 (by decide) (fun h200 => ?_) (fun h201 => ?_)
            · skip
              refine lv_iinc (v := (nI 2)) (lv' := [(2, .int (nI 2)), (3, .ref m1), (0, .ref nw), (1, .int x)]) hx hb dX4_missedFit_48 hl (k := 1) rfl (nI_1 1) (by decide) rfl (fun ls hl => ?_)
              refine lv_goto (tgt := 2) hx hb dX4_missedFit_51 (by decide) ?_
              exact ihj91 2  H locs ls (by omega) (by omega) (cl_ok_s hI0_j91 (by rw [cl_row_i (hPM.2.2.1 (by omega)) hPM.1 hfi h188 (by omega) h191 (by decide)]; exact decide_eq_true h200)) (hP.sub [0, 1, 2, 3, 13, 4, 5, 6, 7, 8, 9, 10, 11, 12] rfl) (hD.sub [0, 1, 2, 3, 13, 4, 5, 6, 7, 8, 9, 10, 11, 12] (by decide) rfl) hS (lv_sub hl [0, 2, 3] rfl)
            · skip
              refine lv_iconst (v := 0) hx hb dX4_missedFit_46 (by decide) ?_
              exact W.zret (v := 0) hx hb hr (by decide) (fun tZ ht hW => ⟨⟨0, (), rfl, Or.inr (⟨cl_ok_f (j := 1) (by omega) (by rw [cl_row_i (hPM.2.2.1 (by omega)) hPM.1 hfi h188 (by omega) h191 (by decide)]; exact fun q9 => h201 (of_decide_eq_true q9)), rfl⟩), by rw [ht]; exact hP.sub [0, 1, 2, 3, 13, 4, 5, 6, 7, 8, 9, 10, 11, 12] rfl, hD.sub [0, 1, 2, 3, 13, 4, 5, 6, 7, 8, 9, 10, 11, 12] (by decide) rfl⟩, hS.F ht⟩) hS.2.2 dX4_missedFit_47
          · skip
            refine va_aldq hx hb hK hP 2 5 rfl rfl (vp_in_nI (by omega) (by decide)) dX4_missedFit_29 ?_
            rw [nI_clamp (n := 2) (by omega), show va_rf (fq 2) = .ref k2 from congrArg va_rf hq2]
            refine lv_aload_n hx hb dX4_missedFit_30 rfl (lv_at hl 0 rfl) ?_
            refine lv_iconst (v := 1) hx hb dX4_missedFit_31 (by decide) ?_
            refine va_iald hx hb hK hP 11 0 rfl rfl (by unfold vp_in; decide) dX4_missedFit_32 ?_
            rw [show ((1 : Int32)).toNatClampNeg = 1 from rfl]
            refine lv_aload_n hx hb dX4_missedFit_33 rfl (lv_at hl 0 rfl) ?_
            refine lv_iconst (v := 2) hx hb dX4_missedFit_34 (by decide) ?_
            refine va_iald hx hb hK hP 11 0 rfl rfl (by unfold vp_in; decide) dX4_missedFit_35 ?_
            rw [show ((2 : Int32)).toNatClampNeg = 2 from rfl]
            refine lv_iload_n hx hb dX4_missedFit_36 rfl (lv_at hl 3 rfl) ?_
            have hs202 : kw_Split [(nw, .inr (4, [.ref kk, .ref nk, .ref nd, .ref ne, .ref nm, .ref nn, .int (nI fi), .int (nI gl), .int (nI un), .int (nI mi), .int (nI no)])), (nk, .inl (y 0, 6, .inl fk)), (kk, .inl (y 5, 6, .inr (.inr (.inr (.inr fq))))), (k0, .inr (5, [])), (k1, .inr (8, [])), (k2, .inr (9, [])), (k3, .inr (6, [])), (k4, .inr (2, [])), (k5, .inr (3, [])), (nm, .inl (y 6, 4, .inr (.inr (.inr (.inr fm))))), (m0, .inl (y 0, 4, .inl m0f)), (m1, .inl (y 0, 4, .inl m1f)), (m2, .inl (y 0, 4, .inl m2f)), (m3, .inl (y 0, 4, .inl m3f))] [(k2, .inr (9, []))] [(nw, .inr (4, [.ref kk, .ref nk, .ref nd, .ref ne, .ref nm, .ref nn, .int (nI fi), .int (nI gl), .int (nI un), .int (nI mi), .int (nI no)])), (nk, .inl (y 0, 6, .inl fk)), (kk, .inl (y 5, 6, .inr (.inr (.inr (.inr fq))))), (k0, .inr (5, [])), (k1, .inr (8, [])), (k3, .inr (6, [])), (k4, .inr (2, [])), (k5, .inr (3, [])), (nm, .inl (y 6, 4, .inr (.inr (.inr (.inr fm))))), (m0, .inl (y 0, 4, .inl m0f)), (m1, .inl (y 0, 4, .inl m1f)), (m2, .inl (y 0, 4, .inl m2f)), (m3, .inl (y 0, 4, .inl m3f))] [5] [0, 1, 2, 3, 4, 6, 7, 8, 9, 10, 11, 12, 13] := ⟨rfl, rfl, rfl, rfl, rfl, by decide⟩
            refine kw_go_i hs202 hP hD hS hA (va_runU (As := [.int (m1f 1), .int (m1f 2), .int x]) (rest := []) ⟨hx, hb, hml, hown, hts⟩ (gb_Wood_on9 l D y k2 (m1f 1) (m1f 2) x  _) (va_cwO 3 hts gX4_missedFit_X9_sight_u89X9 rfl rfl rfl (List.mem_of_getElem? (i := 26) rfl) (by decide +kernel) ⟨Nat.le_of_ble_eq_true rfl, Nat.le_of_ble_eq_true rfl⟩) (kw_PreV (ci := 9) (q0 := 5) hs202 hP hD hK hN rfl rfl) rfl rfl hl.1 rfl (lv_room (Nat.le_of_ble_eq_true rfl)) dX4_missedFit_37 ⟨Nat.le_of_ble_eq_true rfl, Nat.le_of_ble_eq_true rfl⟩) (fun r203 u204 H locs hq hP hD hS => ?_)
            obtain rfl := hq
            have hP : va_P D vwCl [(nw, .inr (4, [.ref kk, .ref nk, .ref nd, .ref ne, .ref nm, .ref nn, .int (nI fi), .int (nI gl), .int (nI un), .int (nI mi), .int (nI no)])), (nk, .inl (y 0, 6, .inl fk)), (kk, .inl (y 5, 6, .inr (.inr (.inr (.inr fq))))), (k0, .inr (5, [])), (k1, .inr (8, [])), (k3, .inr (6, [])), (k4, .inr (2, [])), (k5, .inr (3, [])), (nm, .inl (y 6, 4, .inr (.inr (.inr (.inr fm))))), (m0, .inl (y 0, 4, .inl m0f)), (m1, .inl (y 0, 4, .inl m1f)), (m2, .inl (y 0, 4, .inl m2f)), (m3, .inl (y 0, 4, .inl m3f)), (k2, .inr (9, []))] H := hP
            have hD : va_D A [(nw, .inr (4, [.ref kk, .ref nk, .ref nd, .ref ne, .ref nm, .ref nn, .int (nI fi), .int (nI gl), .int (nI un), .int (nI mi), .int (nI no)])), (nk, .inl (y 0, 6, .inl fk)), (kk, .inl (y 5, 6, .inr (.inr (.inr (.inr fq))))), (k0, .inr (5, [])), (k1, .inr (8, [])), (k3, .inr (6, [])), (k4, .inr (2, [])), (k5, .inr (3, [])), (nm, .inl (y 6, 4, .inr (.inr (.inr (.inr fm))))), (m0, .inl (y 0, 4, .inl m0f)), (m1, .inl (y 0, 4, .inl m1f)), (m2, .inl (y 0, 4, .inl m2f)), (m3, .inl (y 0, 4, .inl m3f)), (k2, .inr (9, []))] := hD
            refine lv_aload_n hx hb dX4_missedFit_40 rfl (lv_at hl 0 rfl) ?_
            refine lv_iconst (v := 3) hx hb dX4_missedFit_41 (by decide) ?_
            refine va_iald hx hb hK hP 10 0 rfl rfl (by unfold vp_in; decide) dX4_missedFit_42 ?_
            rw [show ((3 : Int32)).toNatClampNeg = 3 from rfl]
            refine lv_icmp_eq (tgt := 48) hx hb dX4_missedFit_43 (by decide) (fun h205 => ?_) (fun h206 => ?_)
            · skip
              refine lv_iinc (v := (nI 2)) (lv' := [(2, .int (nI 2)), (3, .ref m1), (0, .ref nw), (1, .int x)]) hx hb dX4_missedFit_48 hl (k := 1) rfl (nI_1 1) (by decide) rfl (fun ls hl => ?_)
              refine lv_goto (tgt := 2) hx hb dX4_missedFit_51 (by decide) ?_
              exact ihj91 2  H locs ls (by omega) (by omega) (cl_ok_s hI0_j91 (by rw [cl_row_i (hPM.2.2.1 (by omega)) hPM.1 hfi h188 (by omega) h191 (by decide)]; exact decide_eq_true h205)) (hP.sub [0, 1, 2, 3, 4, 13, 5, 6, 7, 8, 9, 10, 11, 12] rfl) (hD.sub [0, 1, 2, 3, 4, 13, 5, 6, 7, 8, 9, 10, 11, 12] (by decide) rfl) hS (lv_sub hl [0, 2, 3] rfl)
            · skip
              refine lv_iconst (v := 0) hx hb dX4_missedFit_46 (by decide) ?_
              exact W.zret (v := 0) hx hb hr (by decide) (fun tZ ht hW => ⟨⟨0, (), rfl, Or.inr (⟨cl_ok_f (j := 1) (by omega) (by rw [cl_row_i (hPM.2.2.1 (by omega)) hPM.1 hfi h188 (by omega) h191 (by decide)]; exact fun q9 => h206 (of_decide_eq_true q9)), rfl⟩), by rw [ht]; exact hP.sub [0, 1, 2, 3, 4, 13, 5, 6, 7, 8, 9, 10, 11, 12] rfl, hD.sub [0, 1, 2, 3, 4, 13, 5, 6, 7, 8, 9, 10, 11, 12] (by decide) rfl⟩, hS.F ht⟩) hS.2.2 dX4_missedFit_47
          · skip
            refine va_aldq hx hb hK hP 2 5 rfl rfl (vp_in_nI (by omega) (by decide)) dX4_missedFit_29 ?_
            rw [nI_clamp (n := 3) (by omega), show va_rf (fq 3) = .ref k3 from congrArg va_rf hq3]
            refine lv_aload_n hx hb dX4_missedFit_30 rfl (lv_at hl 0 rfl) ?_
            refine lv_iconst (v := 1) hx hb dX4_missedFit_31 (by decide) ?_
            refine va_iald hx hb hK hP 11 0 rfl rfl (by unfold vp_in; decide) dX4_missedFit_32 ?_
            rw [show ((1 : Int32)).toNatClampNeg = 1 from rfl]
            refine lv_aload_n hx hb dX4_missedFit_33 rfl (lv_at hl 0 rfl) ?_
            refine lv_iconst (v := 2) hx hb dX4_missedFit_34 (by decide) ?_
            refine va_iald hx hb hK hP 11 0 rfl rfl (by unfold vp_in; decide) dX4_missedFit_35 ?_
            rw [show ((2 : Int32)).toNatClampNeg = 2 from rfl]
            refine lv_iload_n hx hb dX4_missedFit_36 rfl (lv_at hl 3 rfl) ?_
            have hs207 : kw_Split [(nw, .inr (4, [.ref kk, .ref nk, .ref nd, .ref ne, .ref nm, .ref nn, .int (nI fi), .int (nI gl), .int (nI un), .int (nI mi), .int (nI no)])), (nk, .inl (y 0, 6, .inl fk)), (kk, .inl (y 5, 6, .inr (.inr (.inr (.inr fq))))), (k0, .inr (5, [])), (k1, .inr (8, [])), (k2, .inr (9, [])), (k3, .inr (6, [])), (k4, .inr (2, [])), (k5, .inr (3, [])), (nm, .inl (y 6, 4, .inr (.inr (.inr (.inr fm))))), (m0, .inl (y 0, 4, .inl m0f)), (m1, .inl (y 0, 4, .inl m1f)), (m2, .inl (y 0, 4, .inl m2f)), (m3, .inl (y 0, 4, .inl m3f))] [(k3, .inr (6, []))] [(nw, .inr (4, [.ref kk, .ref nk, .ref nd, .ref ne, .ref nm, .ref nn, .int (nI fi), .int (nI gl), .int (nI un), .int (nI mi), .int (nI no)])), (nk, .inl (y 0, 6, .inl fk)), (kk, .inl (y 5, 6, .inr (.inr (.inr (.inr fq))))), (k0, .inr (5, [])), (k1, .inr (8, [])), (k2, .inr (9, [])), (k4, .inr (2, [])), (k5, .inr (3, [])), (nm, .inl (y 6, 4, .inr (.inr (.inr (.inr fm))))), (m0, .inl (y 0, 4, .inl m0f)), (m1, .inl (y 0, 4, .inl m1f)), (m2, .inl (y 0, 4, .inl m2f)), (m3, .inl (y 0, 4, .inl m3f))] [6] [0, 1, 2, 3, 4, 5, 7, 8, 9, 10, 11, 12, 13] := ⟨rfl, rfl, rfl, rfl, rfl, by decide⟩
            refine kw_go_i hs207 hP hD hS hA (va_runU (As := [.int (m1f 1), .int (m1f 2), .int x]) (rest := []) ⟨hx, hb, hml, hown, hts⟩ (gb_Puddle_on6 l D y k3 (m1f 1) (m1f 2) x  _) (va_cwO 3 hts gX4_missedFit_X6_sight_u89X6 rfl rfl rfl (List.mem_of_getElem? (i := 26) rfl) (by decide +kernel) ⟨Nat.le_of_ble_eq_true rfl, Nat.le_of_ble_eq_true rfl⟩) (kw_PreV (ci := 6) (q0 := 6) hs207 hP hD hK hN rfl rfl) rfl rfl hl.1 rfl (lv_room (Nat.le_of_ble_eq_true rfl)) dX4_missedFit_37 ⟨Nat.le_of_ble_eq_true rfl, Nat.le_of_ble_eq_true rfl⟩) (fun r208 u209 H locs hq hP hD hS => ?_)
            obtain rfl := hq
            have hP : va_P D vwCl [(nw, .inr (4, [.ref kk, .ref nk, .ref nd, .ref ne, .ref nm, .ref nn, .int (nI fi), .int (nI gl), .int (nI un), .int (nI mi), .int (nI no)])), (nk, .inl (y 0, 6, .inl fk)), (kk, .inl (y 5, 6, .inr (.inr (.inr (.inr fq))))), (k0, .inr (5, [])), (k1, .inr (8, [])), (k2, .inr (9, [])), (k4, .inr (2, [])), (k5, .inr (3, [])), (nm, .inl (y 6, 4, .inr (.inr (.inr (.inr fm))))), (m0, .inl (y 0, 4, .inl m0f)), (m1, .inl (y 0, 4, .inl m1f)), (m2, .inl (y 0, 4, .inl m2f)), (m3, .inl (y 0, 4, .inl m3f)), (k3, .inr (6, []))] H := hP
            have hD : va_D A [(nw, .inr (4, [.ref kk, .ref nk, .ref nd, .ref ne, .ref nm, .ref nn, .int (nI fi), .int (nI gl), .int (nI un), .int (nI mi), .int (nI no)])), (nk, .inl (y 0, 6, .inl fk)), (kk, .inl (y 5, 6, .inr (.inr (.inr (.inr fq))))), (k0, .inr (5, [])), (k1, .inr (8, [])), (k2, .inr (9, [])), (k4, .inr (2, [])), (k5, .inr (3, [])), (nm, .inl (y 6, 4, .inr (.inr (.inr (.inr fm))))), (m0, .inl (y 0, 4, .inl m0f)), (m1, .inl (y 0, 4, .inl m1f)), (m2, .inl (y 0, 4, .inl m2f)), (m3, .inl (y 0, 4, .inl m3f)), (k3, .inr (6, []))] := hD
            refine lv_aload_n hx hb dX4_missedFit_40 rfl (lv_at hl 0 rfl) ?_
            refine lv_iconst (v := 3) hx hb dX4_missedFit_41 (by decide) ?_
            refine va_iald hx hb hK hP 10 0 rfl rfl (by unfold vp_in; decide) dX4_missedFit_42 ?_
            rw [show ((3 : Int32)).toNatClampNeg = 3 from rfl]
            refine lv_icmp_eq (tgt := 48) hx hb dX4_missedFit_43 (by decide) (fun h210 => ?_) (fun h211 => ?_)
            · skip
              refine lv_iinc (v := (nI 2)) (lv' := [(2, .int (nI 2)), (3, .ref m1), (0, .ref nw), (1, .int x)]) hx hb dX4_missedFit_48 hl (k := 1) rfl (nI_1 1) (by decide) rfl (fun ls hl => ?_)
              refine lv_goto (tgt := 2) hx hb dX4_missedFit_51 (by decide) ?_
              exact ihj91 2  H locs ls (by omega) (by omega) (cl_ok_s hI0_j91 (by rw [cl_row_i (hPM.2.2.1 (by omega)) hPM.1 hfi h188 (by omega) h191 (by decide)]; exact decide_eq_true h210)) (hP.sub [0, 1, 2, 3, 4, 5, 13, 6, 7, 8, 9, 10, 11, 12] rfl) (hD.sub [0, 1, 2, 3, 4, 5, 13, 6, 7, 8, 9, 10, 11, 12] (by decide) rfl) hS (lv_sub hl [0, 2, 3] rfl)
            · skip
              refine lv_iconst (v := 0) hx hb dX4_missedFit_46 (by decide) ?_
              exact W.zret (v := 0) hx hb hr (by decide) (fun tZ ht hW => ⟨⟨0, (), rfl, Or.inr (⟨cl_ok_f (j := 1) (by omega) (by rw [cl_row_i (hPM.2.2.1 (by omega)) hPM.1 hfi h188 (by omega) h191 (by decide)]; exact fun q9 => h211 (of_decide_eq_true q9)), rfl⟩), by rw [ht]; exact hP.sub [0, 1, 2, 3, 4, 5, 13, 6, 7, 8, 9, 10, 11, 12] rfl, hD.sub [0, 1, 2, 3, 4, 5, 13, 6, 7, 8, 9, 10, 11, 12] (by decide) rfl⟩, hS.F ht⟩) hS.2.2 dX4_missedFit_47
          · skip
            refine va_aldq hx hb hK hP 2 5 rfl rfl (vp_in_nI (by omega) (by decide)) dX4_missedFit_29 ?_
            rw [nI_clamp (n := 4) (by omega), show va_rf (fq 4) = .ref k4 from congrArg va_rf hq4]
            refine lv_aload_n hx hb dX4_missedFit_30 rfl (lv_at hl 0 rfl) ?_
            refine lv_iconst (v := 1) hx hb dX4_missedFit_31 (by decide) ?_
            refine va_iald hx hb hK hP 11 0 rfl rfl (by unfold vp_in; decide) dX4_missedFit_32 ?_
            rw [show ((1 : Int32)).toNatClampNeg = 1 from rfl]
            refine lv_aload_n hx hb dX4_missedFit_33 rfl (lv_at hl 0 rfl) ?_
            refine lv_iconst (v := 2) hx hb dX4_missedFit_34 (by decide) ?_
            refine va_iald hx hb hK hP 11 0 rfl rfl (by unfold vp_in; decide) dX4_missedFit_35 ?_
            rw [show ((2 : Int32)).toNatClampNeg = 2 from rfl]
            refine lv_iload_n hx hb dX4_missedFit_36 rfl (lv_at hl 3 rfl) ?_
            have hs212 : kw_Split [(nw, .inr (4, [.ref kk, .ref nk, .ref nd, .ref ne, .ref nm, .ref nn, .int (nI fi), .int (nI gl), .int (nI un), .int (nI mi), .int (nI no)])), (nk, .inl (y 0, 6, .inl fk)), (kk, .inl (y 5, 6, .inr (.inr (.inr (.inr fq))))), (k0, .inr (5, [])), (k1, .inr (8, [])), (k2, .inr (9, [])), (k3, .inr (6, [])), (k4, .inr (2, [])), (k5, .inr (3, [])), (nm, .inl (y 6, 4, .inr (.inr (.inr (.inr fm))))), (m0, .inl (y 0, 4, .inl m0f)), (m1, .inl (y 0, 4, .inl m1f)), (m2, .inl (y 0, 4, .inl m2f)), (m3, .inl (y 0, 4, .inl m3f))] [(k4, .inr (2, []))] [(nw, .inr (4, [.ref kk, .ref nk, .ref nd, .ref ne, .ref nm, .ref nn, .int (nI fi), .int (nI gl), .int (nI un), .int (nI mi), .int (nI no)])), (nk, .inl (y 0, 6, .inl fk)), (kk, .inl (y 5, 6, .inr (.inr (.inr (.inr fq))))), (k0, .inr (5, [])), (k1, .inr (8, [])), (k2, .inr (9, [])), (k3, .inr (6, [])), (k5, .inr (3, [])), (nm, .inl (y 6, 4, .inr (.inr (.inr (.inr fm))))), (m0, .inl (y 0, 4, .inl m0f)), (m1, .inl (y 0, 4, .inl m1f)), (m2, .inl (y 0, 4, .inl m2f)), (m3, .inl (y 0, 4, .inl m3f))] [7] [0, 1, 2, 3, 4, 5, 6, 8, 9, 10, 11, 12, 13] := ⟨rfl, rfl, rfl, rfl, rfl, by decide⟩
            refine kw_go_i hs212 hP hD hS hA (va_runU (As := [.int (m1f 1), .int (m1f 2), .int x]) (rest := []) ⟨hx, hb, hml, hown, hts⟩ (gb_Hill_on2 l D y k4 (m1f 1) (m1f 2) x  _) (va_cwO 3 hts gX4_missedFit_X2_sight_u89X2 rfl rfl rfl (List.mem_of_getElem? (i := 26) rfl) (by decide +kernel) ⟨Nat.le_of_ble_eq_true rfl, Nat.le_of_ble_eq_true rfl⟩) (kw_PreV (ci := 2) (q0 := 7) hs212 hP hD hK hN rfl rfl) rfl rfl hl.1 rfl (lv_room (Nat.le_of_ble_eq_true rfl)) dX4_missedFit_37 ⟨Nat.le_of_ble_eq_true rfl, Nat.le_of_ble_eq_true rfl⟩) (fun r213 u214 H locs hq hP hD hS => ?_)
            obtain rfl := hq
            have hP : va_P D vwCl [(nw, .inr (4, [.ref kk, .ref nk, .ref nd, .ref ne, .ref nm, .ref nn, .int (nI fi), .int (nI gl), .int (nI un), .int (nI mi), .int (nI no)])), (nk, .inl (y 0, 6, .inl fk)), (kk, .inl (y 5, 6, .inr (.inr (.inr (.inr fq))))), (k0, .inr (5, [])), (k1, .inr (8, [])), (k2, .inr (9, [])), (k3, .inr (6, [])), (k5, .inr (3, [])), (nm, .inl (y 6, 4, .inr (.inr (.inr (.inr fm))))), (m0, .inl (y 0, 4, .inl m0f)), (m1, .inl (y 0, 4, .inl m1f)), (m2, .inl (y 0, 4, .inl m2f)), (m3, .inl (y 0, 4, .inl m3f)), (k4, .inr (2, []))] H := hP
            have hD : va_D A [(nw, .inr (4, [.ref kk, .ref nk, .ref nd, .ref ne, .ref nm, .ref nn, .int (nI fi), .int (nI gl), .int (nI un), .int (nI mi), .int (nI no)])), (nk, .inl (y 0, 6, .inl fk)), (kk, .inl (y 5, 6, .inr (.inr (.inr (.inr fq))))), (k0, .inr (5, [])), (k1, .inr (8, [])), (k2, .inr (9, [])), (k3, .inr (6, [])), (k5, .inr (3, [])), (nm, .inl (y 6, 4, .inr (.inr (.inr (.inr fm))))), (m0, .inl (y 0, 4, .inl m0f)), (m1, .inl (y 0, 4, .inl m1f)), (m2, .inl (y 0, 4, .inl m2f)), (m3, .inl (y 0, 4, .inl m3f)), (k4, .inr (2, []))] := hD
            refine lv_aload_n hx hb dX4_missedFit_40 rfl (lv_at hl 0 rfl) ?_
            refine lv_iconst (v := 3) hx hb dX4_missedFit_41 (by decide) ?_
            refine va_iald hx hb hK hP 10 0 rfl rfl (by unfold vp_in; decide) dX4_missedFit_42 ?_
            rw [show ((3 : Int32)).toNatClampNeg = 3 from rfl]
            refine lv_icmp_eq (tgt := 48) hx hb dX4_missedFit_43 (by decide) (fun h215 => ?_) (fun h216 => ?_)
            · skip
              refine lv_iinc (v := (nI 2)) (lv' := [(2, .int (nI 2)), (3, .ref m1), (0, .ref nw), (1, .int x)]) hx hb dX4_missedFit_48 hl (k := 1) rfl (nI_1 1) (by decide) rfl (fun ls hl => ?_)
              refine lv_goto (tgt := 2) hx hb dX4_missedFit_51 (by decide) ?_
              exact ihj91 2  H locs ls (by omega) (by omega) (cl_ok_s hI0_j91 (by rw [cl_row_i (hPM.2.2.1 (by omega)) hPM.1 hfi h188 (by omega) h191 (by decide)]; exact decide_eq_true h215)) (hP.sub [0, 1, 2, 3, 4, 5, 6, 13, 7, 8, 9, 10, 11, 12] rfl) (hD.sub [0, 1, 2, 3, 4, 5, 6, 13, 7, 8, 9, 10, 11, 12] (by decide) rfl) hS (lv_sub hl [0, 2, 3] rfl)
            · skip
              refine lv_iconst (v := 0) hx hb dX4_missedFit_46 (by decide) ?_
              exact W.zret (v := 0) hx hb hr (by decide) (fun tZ ht hW => ⟨⟨0, (), rfl, Or.inr (⟨cl_ok_f (j := 1) (by omega) (by rw [cl_row_i (hPM.2.2.1 (by omega)) hPM.1 hfi h188 (by omega) h191 (by decide)]; exact fun q9 => h216 (of_decide_eq_true q9)), rfl⟩), by rw [ht]; exact hP.sub [0, 1, 2, 3, 4, 5, 6, 13, 7, 8, 9, 10, 11, 12] rfl, hD.sub [0, 1, 2, 3, 4, 5, 6, 13, 7, 8, 9, 10, 11, 12] (by decide) rfl⟩, hS.F ht⟩) hS.2.2 dX4_missedFit_47
          · skip
            refine va_aldq hx hb hK hP 2 5 rfl rfl (vp_in_nI (by omega) (by decide)) dX4_missedFit_29 ?_
            rw [nI_clamp (n := 5) (by omega), show va_rf (fq 5) = .ref k5 from congrArg va_rf hq5]
            refine lv_aload_n hx hb dX4_missedFit_30 rfl (lv_at hl 0 rfl) ?_
            refine lv_iconst (v := 1) hx hb dX4_missedFit_31 (by decide) ?_
            refine va_iald hx hb hK hP 11 0 rfl rfl (by unfold vp_in; decide) dX4_missedFit_32 ?_
            rw [show ((1 : Int32)).toNatClampNeg = 1 from rfl]
            refine lv_aload_n hx hb dX4_missedFit_33 rfl (lv_at hl 0 rfl) ?_
            refine lv_iconst (v := 2) hx hb dX4_missedFit_34 (by decide) ?_
            refine va_iald hx hb hK hP 11 0 rfl rfl (by unfold vp_in; decide) dX4_missedFit_35 ?_
            rw [show ((2 : Int32)).toNatClampNeg = 2 from rfl]
            refine lv_iload_n hx hb dX4_missedFit_36 rfl (lv_at hl 3 rfl) ?_
            have hs217 : kw_Split [(nw, .inr (4, [.ref kk, .ref nk, .ref nd, .ref ne, .ref nm, .ref nn, .int (nI fi), .int (nI gl), .int (nI un), .int (nI mi), .int (nI no)])), (nk, .inl (y 0, 6, .inl fk)), (kk, .inl (y 5, 6, .inr (.inr (.inr (.inr fq))))), (k0, .inr (5, [])), (k1, .inr (8, [])), (k2, .inr (9, [])), (k3, .inr (6, [])), (k4, .inr (2, [])), (k5, .inr (3, [])), (nm, .inl (y 6, 4, .inr (.inr (.inr (.inr fm))))), (m0, .inl (y 0, 4, .inl m0f)), (m1, .inl (y 0, 4, .inl m1f)), (m2, .inl (y 0, 4, .inl m2f)), (m3, .inl (y 0, 4, .inl m3f))] [(k5, .inr (3, []))] [(nw, .inr (4, [.ref kk, .ref nk, .ref nd, .ref ne, .ref nm, .ref nn, .int (nI fi), .int (nI gl), .int (nI un), .int (nI mi), .int (nI no)])), (nk, .inl (y 0, 6, .inl fk)), (kk, .inl (y 5, 6, .inr (.inr (.inr (.inr fq))))), (k0, .inr (5, [])), (k1, .inr (8, [])), (k2, .inr (9, [])), (k3, .inr (6, [])), (k4, .inr (2, [])), (nm, .inl (y 6, 4, .inr (.inr (.inr (.inr fm))))), (m0, .inl (y 0, 4, .inl m0f)), (m1, .inl (y 0, 4, .inl m1f)), (m2, .inl (y 0, 4, .inl m2f)), (m3, .inl (y 0, 4, .inl m3f))] [8] [0, 1, 2, 3, 4, 5, 6, 7, 9, 10, 11, 12, 13] := ⟨rfl, rfl, rfl, rfl, rfl, by decide⟩
            refine kw_go_i hs217 hP hD hS hA (va_runU (As := [.int (m1f 1), .int (m1f 2), .int x]) (rest := []) ⟨hx, hb, hml, hown, hts⟩ (gb_Lane_on3 l D y k5 (m1f 1) (m1f 2) x  _) (va_cwO 3 hts gX4_missedFit_X3_sight_u89X3 rfl rfl rfl (List.mem_of_getElem? (i := 26) rfl) (by decide +kernel) ⟨Nat.le_of_ble_eq_true rfl, Nat.le_of_ble_eq_true rfl⟩) (kw_PreV (ci := 3) (q0 := 8) hs217 hP hD hK hN rfl rfl) rfl rfl hl.1 rfl (lv_room (Nat.le_of_ble_eq_true rfl)) dX4_missedFit_37 ⟨Nat.le_of_ble_eq_true rfl, Nat.le_of_ble_eq_true rfl⟩) (fun r218 u219 H locs hq hP hD hS => ?_)
            obtain rfl := hq
            have hP : va_P D vwCl [(nw, .inr (4, [.ref kk, .ref nk, .ref nd, .ref ne, .ref nm, .ref nn, .int (nI fi), .int (nI gl), .int (nI un), .int (nI mi), .int (nI no)])), (nk, .inl (y 0, 6, .inl fk)), (kk, .inl (y 5, 6, .inr (.inr (.inr (.inr fq))))), (k0, .inr (5, [])), (k1, .inr (8, [])), (k2, .inr (9, [])), (k3, .inr (6, [])), (k4, .inr (2, [])), (nm, .inl (y 6, 4, .inr (.inr (.inr (.inr fm))))), (m0, .inl (y 0, 4, .inl m0f)), (m1, .inl (y 0, 4, .inl m1f)), (m2, .inl (y 0, 4, .inl m2f)), (m3, .inl (y 0, 4, .inl m3f)), (k5, .inr (3, []))] H := hP
            have hD : va_D A [(nw, .inr (4, [.ref kk, .ref nk, .ref nd, .ref ne, .ref nm, .ref nn, .int (nI fi), .int (nI gl), .int (nI un), .int (nI mi), .int (nI no)])), (nk, .inl (y 0, 6, .inl fk)), (kk, .inl (y 5, 6, .inr (.inr (.inr (.inr fq))))), (k0, .inr (5, [])), (k1, .inr (8, [])), (k2, .inr (9, [])), (k3, .inr (6, [])), (k4, .inr (2, [])), (nm, .inl (y 6, 4, .inr (.inr (.inr (.inr fm))))), (m0, .inl (y 0, 4, .inl m0f)), (m1, .inl (y 0, 4, .inl m1f)), (m2, .inl (y 0, 4, .inl m2f)), (m3, .inl (y 0, 4, .inl m3f)), (k5, .inr (3, []))] := hD
            refine lv_aload_n hx hb dX4_missedFit_40 rfl (lv_at hl 0 rfl) ?_
            refine lv_iconst (v := 3) hx hb dX4_missedFit_41 (by decide) ?_
            refine va_iald hx hb hK hP 10 0 rfl rfl (by unfold vp_in; decide) dX4_missedFit_42 ?_
            rw [show ((3 : Int32)).toNatClampNeg = 3 from rfl]
            refine lv_icmp_eq (tgt := 48) hx hb dX4_missedFit_43 (by decide) (fun h220 => ?_) (fun h221 => ?_)
            · skip
              refine lv_iinc (v := (nI 2)) (lv' := [(2, .int (nI 2)), (3, .ref m1), (0, .ref nw), (1, .int x)]) hx hb dX4_missedFit_48 hl (k := 1) rfl (nI_1 1) (by decide) rfl (fun ls hl => ?_)
              refine lv_goto (tgt := 2) hx hb dX4_missedFit_51 (by decide) ?_
              exact ihj91 2  H locs ls (by omega) (by omega) (cl_ok_s hI0_j91 (by rw [cl_row_i (hPM.2.2.1 (by omega)) hPM.1 hfi h188 (by omega) h191 (by decide)]; exact decide_eq_true h220)) (hP.sub [0, 1, 2, 3, 4, 5, 6, 7, 13, 8, 9, 10, 11, 12] rfl) (hD.sub [0, 1, 2, 3, 4, 5, 6, 7, 13, 8, 9, 10, 11, 12] (by decide) rfl) hS (lv_sub hl [0, 2, 3] rfl)
            · skip
              refine lv_iconst (v := 0) hx hb dX4_missedFit_46 (by decide) ?_
              exact W.zret (v := 0) hx hb hr (by decide) (fun tZ ht hW => ⟨⟨0, (), rfl, Or.inr (⟨cl_ok_f (j := 1) (by omega) (by rw [cl_row_i (hPM.2.2.1 (by omega)) hPM.1 hfi h188 (by omega) h191 (by decide)]; exact fun q9 => h221 (of_decide_eq_true q9)), rfl⟩), by rw [ht]; exact hP.sub [0, 1, 2, 3, 4, 5, 6, 7, 13, 8, 9, 10, 11, 12] rfl, hD.sub [0, 1, 2, 3, 4, 5, 6, 7, 13, 8, 9, 10, 11, 12] (by decide) rfl⟩, hS.F ht⟩) hS.2.2 dX4_missedFit_47
        · skip
          refine kw_aldQ hx hb hK hP 9 6 rfl rfl (vp_in_nI (by omega) (by decide)) dX4_missedFit_15 ?_
          rw [nI_clamp (n := 2) (by omega), show va_rf (fm 2) = .ref m2 from congrArg va_rf hm2]
          refine lv_astore_n (lv' := [(3, .ref m2), (2, .int (nI 2)), (0, .ref nw), (1, .int x)]) hx hb dX4_missedFit_16 rfl hl (by decide) rfl (fun ls hl => ?_)
          refine lv_aload_n hx hb dX4_missedFit_17 rfl (lv_at hl 2 rfl) ?_
          refine va_get (D := D) (ci := 4) (v := .ref kk) (C := RX4) (T := TX4) (N := 11) hx hb hts iw4 hown hK hP 0 rfl rfl 0 (by decide) fw3 (fun _ h9 => h9) rfl dX4_missedFit_18 ?_
          refine lv_aload_n hx hb dX4_missedFit_21 rfl (lv_at hl 2 rfl) ?_
          refine va_get (D := D) (ci := 4) (v := .ref nk) (C := RX4) (T := TX4) (N := 11) hx hb hts iw4 hown hK hP 0 rfl rfl 1 (by decide) fw4 (fun _ h9 => h9) rfl dX4_missedFit_22 ?_
          refine lv_aload_n hx hb dX4_missedFit_25 rfl (lv_at hl 0 rfl) ?_
          refine lv_iconst (v := 0) hx hb dX4_missedFit_26 (by decide) ?_
          refine va_iald hx hb hK hP 12 0 rfl rfl (by unfold vp_in; decide) dX4_missedFit_27 ?_
          rw [show ((0 : Int32)).toNatClampNeg = 0 from rfl]
          obtain ⟨w222, h223, h224⟩ := vp_in_of hm2f (by decide)
          rw [h224]
          refine va_iald hx hb hK hP 1 0 rfl rfl (vp_in_nI (by omega) (by decide)) dX4_missedFit_28 ?_
          rw [nI_clamp (n := w222) (by omega)]
          obtain ⟨w225, h226, h227⟩ := kw_bdv hk (k := w222) (by omega) (by decide)
          rw [h227]
          rcases (show w225 = 0 ∨ w225 = 1 ∨ w225 = 2 ∨ w225 = 3 ∨ w225 = 4 ∨ w225 = 5 by omega) with rfl | rfl | rfl | rfl | rfl | rfl
          · skip
            refine va_aldq hx hb hK hP 2 5 rfl rfl (vp_in_nI (by omega) (by decide)) dX4_missedFit_29 ?_
            rw [nI_clamp (n := 0) (by omega), show va_rf (fq 0) = .ref k0 from congrArg va_rf hq0]
            refine lv_aload_n hx hb dX4_missedFit_30 rfl (lv_at hl 0 rfl) ?_
            refine lv_iconst (v := 1) hx hb dX4_missedFit_31 (by decide) ?_
            refine va_iald hx hb hK hP 12 0 rfl rfl (by unfold vp_in; decide) dX4_missedFit_32 ?_
            rw [show ((1 : Int32)).toNatClampNeg = 1 from rfl]
            refine lv_aload_n hx hb dX4_missedFit_33 rfl (lv_at hl 0 rfl) ?_
            refine lv_iconst (v := 2) hx hb dX4_missedFit_34 (by decide) ?_
            refine va_iald hx hb hK hP 12 0 rfl rfl (by unfold vp_in; decide) dX4_missedFit_35 ?_
            rw [show ((2 : Int32)).toNatClampNeg = 2 from rfl]
            refine lv_iload_n hx hb dX4_missedFit_36 rfl (lv_at hl 3 rfl) ?_
            have hs228 : kw_Split [(nw, .inr (4, [.ref kk, .ref nk, .ref nd, .ref ne, .ref nm, .ref nn, .int (nI fi), .int (nI gl), .int (nI un), .int (nI mi), .int (nI no)])), (nk, .inl (y 0, 6, .inl fk)), (kk, .inl (y 5, 6, .inr (.inr (.inr (.inr fq))))), (k0, .inr (5, [])), (k1, .inr (8, [])), (k2, .inr (9, [])), (k3, .inr (6, [])), (k4, .inr (2, [])), (k5, .inr (3, [])), (nm, .inl (y 6, 4, .inr (.inr (.inr (.inr fm))))), (m0, .inl (y 0, 4, .inl m0f)), (m1, .inl (y 0, 4, .inl m1f)), (m2, .inl (y 0, 4, .inl m2f)), (m3, .inl (y 0, 4, .inl m3f))] [(k0, .inr (5, []))] [(nw, .inr (4, [.ref kk, .ref nk, .ref nd, .ref ne, .ref nm, .ref nn, .int (nI fi), .int (nI gl), .int (nI un), .int (nI mi), .int (nI no)])), (nk, .inl (y 0, 6, .inl fk)), (kk, .inl (y 5, 6, .inr (.inr (.inr (.inr fq))))), (k1, .inr (8, [])), (k2, .inr (9, [])), (k3, .inr (6, [])), (k4, .inr (2, [])), (k5, .inr (3, [])), (nm, .inl (y 6, 4, .inr (.inr (.inr (.inr fm))))), (m0, .inl (y 0, 4, .inl m0f)), (m1, .inl (y 0, 4, .inl m1f)), (m2, .inl (y 0, 4, .inl m2f)), (m3, .inl (y 0, 4, .inl m3f))] [3] [0, 1, 2, 4, 5, 6, 7, 8, 9, 10, 11, 12, 13] := ⟨rfl, rfl, rfl, rfl, rfl, by decide⟩
            refine kw_go_i hs228 hP hD hS hA (va_runV (As := [.int (m2f 1), .int (m2f 2), .int x]) (rest := []) ⟨hx, hb, hml, hown, hts⟩ (gb_Plain_on5 l D y k0 (m2f 1) (m2f 2) x  _) (cwV 3 hts gX4_missedFit_X5_sight rfl rfl rfl (by decide +kernel) ⟨Nat.le_of_ble_eq_true rfl, Nat.le_of_ble_eq_true rfl⟩) (kw_PreV (ci := 5) (q0 := 3) hs228 hP hD hK hN rfl rfl) rfl rfl hl.1 rfl (lv_room (Nat.le_of_ble_eq_true rfl)) dX4_missedFit_37 ⟨Nat.le_of_ble_eq_true rfl, Nat.le_of_ble_eq_true rfl⟩) (fun r229 u230 H locs hq hP hD hS => ?_)
            obtain rfl := hq
            have hP : va_P D vwCl [(nw, .inr (4, [.ref kk, .ref nk, .ref nd, .ref ne, .ref nm, .ref nn, .int (nI fi), .int (nI gl), .int (nI un), .int (nI mi), .int (nI no)])), (nk, .inl (y 0, 6, .inl fk)), (kk, .inl (y 5, 6, .inr (.inr (.inr (.inr fq))))), (k1, .inr (8, [])), (k2, .inr (9, [])), (k3, .inr (6, [])), (k4, .inr (2, [])), (k5, .inr (3, [])), (nm, .inl (y 6, 4, .inr (.inr (.inr (.inr fm))))), (m0, .inl (y 0, 4, .inl m0f)), (m1, .inl (y 0, 4, .inl m1f)), (m2, .inl (y 0, 4, .inl m2f)), (m3, .inl (y 0, 4, .inl m3f)), (k0, .inr (5, []))] H := hP
            have hD : va_D A [(nw, .inr (4, [.ref kk, .ref nk, .ref nd, .ref ne, .ref nm, .ref nn, .int (nI fi), .int (nI gl), .int (nI un), .int (nI mi), .int (nI no)])), (nk, .inl (y 0, 6, .inl fk)), (kk, .inl (y 5, 6, .inr (.inr (.inr (.inr fq))))), (k1, .inr (8, [])), (k2, .inr (9, [])), (k3, .inr (6, [])), (k4, .inr (2, [])), (k5, .inr (3, [])), (nm, .inl (y 6, 4, .inr (.inr (.inr (.inr fm))))), (m0, .inl (y 0, 4, .inl m0f)), (m1, .inl (y 0, 4, .inl m1f)), (m2, .inl (y 0, 4, .inl m2f)), (m3, .inl (y 0, 4, .inl m3f)), (k0, .inr (5, []))] := hD
            refine lv_aload_n hx hb dX4_missedFit_40 rfl (lv_at hl 0 rfl) ?_
            refine lv_iconst (v := 3) hx hb dX4_missedFit_41 (by decide) ?_
            refine va_iald hx hb hK hP 11 0 rfl rfl (by unfold vp_in; decide) dX4_missedFit_42 ?_
            rw [show ((3 : Int32)).toNatClampNeg = 3 from rfl]
            refine lv_icmp_eq (tgt := 48) hx hb dX4_missedFit_43 (by decide) (fun h231 => ?_) (fun h232 => ?_)
            · skip
              refine lv_iinc (v := (nI 3)) (lv' := [(2, .int (nI 3)), (3, .ref m2), (0, .ref nw), (1, .int x)]) hx hb dX4_missedFit_48 hl (k := 1) rfl (nI_1 2) (by decide) rfl (fun ls hl => ?_)
              refine lv_goto (tgt := 2) hx hb dX4_missedFit_51 (by decide) ?_
              exact ihj91 3  H locs ls (by omega) (by omega) (cl_ok_s hI0_j91 (by rw [cl_row_i (hPM.2.2.2.1 (by omega)) hPM.1 hfi h224 (by omega) h227 (by decide)]; exact decide_eq_true h231)) (hP.sub [0, 1, 2, 13, 3, 4, 5, 6, 7, 8, 9, 10, 11, 12] rfl) (hD.sub [0, 1, 2, 13, 3, 4, 5, 6, 7, 8, 9, 10, 11, 12] (by decide) rfl) hS (lv_sub hl [0, 2, 3] rfl)
            · skip
              refine lv_iconst (v := 0) hx hb dX4_missedFit_46 (by decide) ?_
              exact W.zret (v := 0) hx hb hr (by decide) (fun tZ ht hW => ⟨⟨0, (), rfl, Or.inr (⟨cl_ok_f (j := 2) (by omega) (by rw [cl_row_i (hPM.2.2.2.1 (by omega)) hPM.1 hfi h224 (by omega) h227 (by decide)]; exact fun q9 => h232 (of_decide_eq_true q9)), rfl⟩), by rw [ht]; exact hP.sub [0, 1, 2, 13, 3, 4, 5, 6, 7, 8, 9, 10, 11, 12] rfl, hD.sub [0, 1, 2, 13, 3, 4, 5, 6, 7, 8, 9, 10, 11, 12] (by decide) rfl⟩, hS.F ht⟩) hS.2.2 dX4_missedFit_47
          · skip
            refine va_aldq hx hb hK hP 2 5 rfl rfl (vp_in_nI (by omega) (by decide)) dX4_missedFit_29 ?_
            rw [nI_clamp (n := 1) (by omega), show va_rf (fq 1) = .ref k1 from congrArg va_rf hq1]
            refine lv_aload_n hx hb dX4_missedFit_30 rfl (lv_at hl 0 rfl) ?_
            refine lv_iconst (v := 1) hx hb dX4_missedFit_31 (by decide) ?_
            refine va_iald hx hb hK hP 12 0 rfl rfl (by unfold vp_in; decide) dX4_missedFit_32 ?_
            rw [show ((1 : Int32)).toNatClampNeg = 1 from rfl]
            refine lv_aload_n hx hb dX4_missedFit_33 rfl (lv_at hl 0 rfl) ?_
            refine lv_iconst (v := 2) hx hb dX4_missedFit_34 (by decide) ?_
            refine va_iald hx hb hK hP 12 0 rfl rfl (by unfold vp_in; decide) dX4_missedFit_35 ?_
            rw [show ((2 : Int32)).toNatClampNeg = 2 from rfl]
            refine lv_iload_n hx hb dX4_missedFit_36 rfl (lv_at hl 3 rfl) ?_
            have hs233 : kw_Split [(nw, .inr (4, [.ref kk, .ref nk, .ref nd, .ref ne, .ref nm, .ref nn, .int (nI fi), .int (nI gl), .int (nI un), .int (nI mi), .int (nI no)])), (nk, .inl (y 0, 6, .inl fk)), (kk, .inl (y 5, 6, .inr (.inr (.inr (.inr fq))))), (k0, .inr (5, [])), (k1, .inr (8, [])), (k2, .inr (9, [])), (k3, .inr (6, [])), (k4, .inr (2, [])), (k5, .inr (3, [])), (nm, .inl (y 6, 4, .inr (.inr (.inr (.inr fm))))), (m0, .inl (y 0, 4, .inl m0f)), (m1, .inl (y 0, 4, .inl m1f)), (m2, .inl (y 0, 4, .inl m2f)), (m3, .inl (y 0, 4, .inl m3f))] [(k1, .inr (8, []))] [(nw, .inr (4, [.ref kk, .ref nk, .ref nd, .ref ne, .ref nm, .ref nn, .int (nI fi), .int (nI gl), .int (nI un), .int (nI mi), .int (nI no)])), (nk, .inl (y 0, 6, .inl fk)), (kk, .inl (y 5, 6, .inr (.inr (.inr (.inr fq))))), (k0, .inr (5, [])), (k2, .inr (9, [])), (k3, .inr (6, [])), (k4, .inr (2, [])), (k5, .inr (3, [])), (nm, .inl (y 6, 4, .inr (.inr (.inr (.inr fm))))), (m0, .inl (y 0, 4, .inl m0f)), (m1, .inl (y 0, 4, .inl m1f)), (m2, .inl (y 0, 4, .inl m2f)), (m3, .inl (y 0, 4, .inl m3f))] [4] [0, 1, 2, 3, 5, 6, 7, 8, 9, 10, 11, 12, 13] := ⟨rfl, rfl, rfl, rfl, rfl, by decide⟩
            refine kw_go_i hs233 hP hD hS hA (va_runU (As := [.int (m2f 1), .int (m2f 2), .int x]) (rest := []) ⟨hx, hb, hml, hown, hts⟩ (gb_West_on8 l D y k1 (m2f 1) (m2f 2) x  _) (va_cwO 3 hts gX4_missedFit_X8_sight_u89X8 rfl rfl rfl (List.mem_of_getElem? (i := 26) rfl) (by decide +kernel) ⟨Nat.le_of_ble_eq_true rfl, Nat.le_of_ble_eq_true rfl⟩) (kw_PreV (ci := 8) (q0 := 4) hs233 hP hD hK hN rfl rfl) rfl rfl hl.1 rfl (lv_room (Nat.le_of_ble_eq_true rfl)) dX4_missedFit_37 ⟨Nat.le_of_ble_eq_true rfl, Nat.le_of_ble_eq_true rfl⟩) (fun r234 u235 H locs hq hP hD hS => ?_)
            obtain rfl := hq
            have hP : va_P D vwCl [(nw, .inr (4, [.ref kk, .ref nk, .ref nd, .ref ne, .ref nm, .ref nn, .int (nI fi), .int (nI gl), .int (nI un), .int (nI mi), .int (nI no)])), (nk, .inl (y 0, 6, .inl fk)), (kk, .inl (y 5, 6, .inr (.inr (.inr (.inr fq))))), (k0, .inr (5, [])), (k2, .inr (9, [])), (k3, .inr (6, [])), (k4, .inr (2, [])), (k5, .inr (3, [])), (nm, .inl (y 6, 4, .inr (.inr (.inr (.inr fm))))), (m0, .inl (y 0, 4, .inl m0f)), (m1, .inl (y 0, 4, .inl m1f)), (m2, .inl (y 0, 4, .inl m2f)), (m3, .inl (y 0, 4, .inl m3f)), (k1, .inr (8, []))] H := hP
            have hD : va_D A [(nw, .inr (4, [.ref kk, .ref nk, .ref nd, .ref ne, .ref nm, .ref nn, .int (nI fi), .int (nI gl), .int (nI un), .int (nI mi), .int (nI no)])), (nk, .inl (y 0, 6, .inl fk)), (kk, .inl (y 5, 6, .inr (.inr (.inr (.inr fq))))), (k0, .inr (5, [])), (k2, .inr (9, [])), (k3, .inr (6, [])), (k4, .inr (2, [])), (k5, .inr (3, [])), (nm, .inl (y 6, 4, .inr (.inr (.inr (.inr fm))))), (m0, .inl (y 0, 4, .inl m0f)), (m1, .inl (y 0, 4, .inl m1f)), (m2, .inl (y 0, 4, .inl m2f)), (m3, .inl (y 0, 4, .inl m3f)), (k1, .inr (8, []))] := hD
            refine lv_aload_n hx hb dX4_missedFit_40 rfl (lv_at hl 0 rfl) ?_
            refine lv_iconst (v := 3) hx hb dX4_missedFit_41 (by decide) ?_
            refine va_iald hx hb hK hP 11 0 rfl rfl (by unfold vp_in; decide) dX4_missedFit_42 ?_
            rw [show ((3 : Int32)).toNatClampNeg = 3 from rfl]
            refine lv_icmp_eq (tgt := 48) hx hb dX4_missedFit_43 (by decide) (fun h236 => ?_) (fun h237 => ?_)
            · skip
              refine lv_iinc (v := (nI 3)) (lv' := [(2, .int (nI 3)), (3, .ref m2), (0, .ref nw), (1, .int x)]) hx hb dX4_missedFit_48 hl (k := 1) rfl (nI_1 2) (by decide) rfl (fun ls hl => ?_)
              refine lv_goto (tgt := 2) hx hb dX4_missedFit_51 (by decide) ?_
              exact ihj91 3  H locs ls (by omega) (by omega) (cl_ok_s hI0_j91 (by rw [cl_row_i (hPM.2.2.2.1 (by omega)) hPM.1 hfi h224 (by omega) h227 (by decide)]; exact decide_eq_true h236)) (hP.sub [0, 1, 2, 3, 13, 4, 5, 6, 7, 8, 9, 10, 11, 12] rfl) (hD.sub [0, 1, 2, 3, 13, 4, 5, 6, 7, 8, 9, 10, 11, 12] (by decide) rfl) hS (lv_sub hl [0, 2, 3] rfl)
            · skip
              refine lv_iconst (v := 0) hx hb dX4_missedFit_46 (by decide) ?_
              exact W.zret (v := 0) hx hb hr (by decide) (fun tZ ht hW => ⟨⟨0, (), rfl, Or.inr (⟨cl_ok_f (j := 2) (by omega) (by rw [cl_row_i (hPM.2.2.2.1 (by omega)) hPM.1 hfi h224 (by omega) h227 (by decide)]; exact fun q9 => h237 (of_decide_eq_true q9)), rfl⟩), by rw [ht]; exact hP.sub [0, 1, 2, 3, 13, 4, 5, 6, 7, 8, 9, 10, 11, 12] rfl, hD.sub [0, 1, 2, 3, 13, 4, 5, 6, 7, 8, 9, 10, 11, 12] (by decide) rfl⟩, hS.F ht⟩) hS.2.2 dX4_missedFit_47
          · skip
            refine va_aldq hx hb hK hP 2 5 rfl rfl (vp_in_nI (by omega) (by decide)) dX4_missedFit_29 ?_
            rw [nI_clamp (n := 2) (by omega), show va_rf (fq 2) = .ref k2 from congrArg va_rf hq2]
            refine lv_aload_n hx hb dX4_missedFit_30 rfl (lv_at hl 0 rfl) ?_
            refine lv_iconst (v := 1) hx hb dX4_missedFit_31 (by decide) ?_
            refine va_iald hx hb hK hP 12 0 rfl rfl (by unfold vp_in; decide) dX4_missedFit_32 ?_
            rw [show ((1 : Int32)).toNatClampNeg = 1 from rfl]
            refine lv_aload_n hx hb dX4_missedFit_33 rfl (lv_at hl 0 rfl) ?_
            refine lv_iconst (v := 2) hx hb dX4_missedFit_34 (by decide) ?_
            refine va_iald hx hb hK hP 12 0 rfl rfl (by unfold vp_in; decide) dX4_missedFit_35 ?_
            rw [show ((2 : Int32)).toNatClampNeg = 2 from rfl]
            refine lv_iload_n hx hb dX4_missedFit_36 rfl (lv_at hl 3 rfl) ?_
            have hs238 : kw_Split [(nw, .inr (4, [.ref kk, .ref nk, .ref nd, .ref ne, .ref nm, .ref nn, .int (nI fi), .int (nI gl), .int (nI un), .int (nI mi), .int (nI no)])), (nk, .inl (y 0, 6, .inl fk)), (kk, .inl (y 5, 6, .inr (.inr (.inr (.inr fq))))), (k0, .inr (5, [])), (k1, .inr (8, [])), (k2, .inr (9, [])), (k3, .inr (6, [])), (k4, .inr (2, [])), (k5, .inr (3, [])), (nm, .inl (y 6, 4, .inr (.inr (.inr (.inr fm))))), (m0, .inl (y 0, 4, .inl m0f)), (m1, .inl (y 0, 4, .inl m1f)), (m2, .inl (y 0, 4, .inl m2f)), (m3, .inl (y 0, 4, .inl m3f))] [(k2, .inr (9, []))] [(nw, .inr (4, [.ref kk, .ref nk, .ref nd, .ref ne, .ref nm, .ref nn, .int (nI fi), .int (nI gl), .int (nI un), .int (nI mi), .int (nI no)])), (nk, .inl (y 0, 6, .inl fk)), (kk, .inl (y 5, 6, .inr (.inr (.inr (.inr fq))))), (k0, .inr (5, [])), (k1, .inr (8, [])), (k3, .inr (6, [])), (k4, .inr (2, [])), (k5, .inr (3, [])), (nm, .inl (y 6, 4, .inr (.inr (.inr (.inr fm))))), (m0, .inl (y 0, 4, .inl m0f)), (m1, .inl (y 0, 4, .inl m1f)), (m2, .inl (y 0, 4, .inl m2f)), (m3, .inl (y 0, 4, .inl m3f))] [5] [0, 1, 2, 3, 4, 6, 7, 8, 9, 10, 11, 12, 13] := ⟨rfl, rfl, rfl, rfl, rfl, by decide⟩
            refine kw_go_i hs238 hP hD hS hA (va_runU (As := [.int (m2f 1), .int (m2f 2), .int x]) (rest := []) ⟨hx, hb, hml, hown, hts⟩ (gb_Wood_on9 l D y k2 (m2f 1) (m2f 2) x  _) (va_cwO 3 hts gX4_missedFit_X9_sight_u89X9 rfl rfl rfl (List.mem_of_getElem? (i := 26) rfl) (by decide +kernel) ⟨Nat.le_of_ble_eq_true rfl, Nat.le_of_ble_eq_true rfl⟩) (kw_PreV (ci := 9) (q0 := 5) hs238 hP hD hK hN rfl rfl) rfl rfl hl.1 rfl (lv_room (Nat.le_of_ble_eq_true rfl)) dX4_missedFit_37 ⟨Nat.le_of_ble_eq_true rfl, Nat.le_of_ble_eq_true rfl⟩) (fun r239 u240 H locs hq hP hD hS => ?_)
            obtain rfl := hq
            have hP : va_P D vwCl [(nw, .inr (4, [.ref kk, .ref nk, .ref nd, .ref ne, .ref nm, .ref nn, .int (nI fi), .int (nI gl), .int (nI un), .int (nI mi), .int (nI no)])), (nk, .inl (y 0, 6, .inl fk)), (kk, .inl (y 5, 6, .inr (.inr (.inr (.inr fq))))), (k0, .inr (5, [])), (k1, .inr (8, [])), (k3, .inr (6, [])), (k4, .inr (2, [])), (k5, .inr (3, [])), (nm, .inl (y 6, 4, .inr (.inr (.inr (.inr fm))))), (m0, .inl (y 0, 4, .inl m0f)), (m1, .inl (y 0, 4, .inl m1f)), (m2, .inl (y 0, 4, .inl m2f)), (m3, .inl (y 0, 4, .inl m3f)), (k2, .inr (9, []))] H := hP
            have hD : va_D A [(nw, .inr (4, [.ref kk, .ref nk, .ref nd, .ref ne, .ref nm, .ref nn, .int (nI fi), .int (nI gl), .int (nI un), .int (nI mi), .int (nI no)])), (nk, .inl (y 0, 6, .inl fk)), (kk, .inl (y 5, 6, .inr (.inr (.inr (.inr fq))))), (k0, .inr (5, [])), (k1, .inr (8, [])), (k3, .inr (6, [])), (k4, .inr (2, [])), (k5, .inr (3, [])), (nm, .inl (y 6, 4, .inr (.inr (.inr (.inr fm))))), (m0, .inl (y 0, 4, .inl m0f)), (m1, .inl (y 0, 4, .inl m1f)), (m2, .inl (y 0, 4, .inl m2f)), (m3, .inl (y 0, 4, .inl m3f)), (k2, .inr (9, []))] := hD
            refine lv_aload_n hx hb dX4_missedFit_40 rfl (lv_at hl 0 rfl) ?_
            refine lv_iconst (v := 3) hx hb dX4_missedFit_41 (by decide) ?_
            refine va_iald hx hb hK hP 11 0 rfl rfl (by unfold vp_in; decide) dX4_missedFit_42 ?_
            rw [show ((3 : Int32)).toNatClampNeg = 3 from rfl]
            refine lv_icmp_eq (tgt := 48) hx hb dX4_missedFit_43 (by decide) (fun h241 => ?_) (fun h242 => ?_)
            · skip
              refine lv_iinc (v := (nI 3)) (lv' := [(2, .int (nI 3)), (3, .ref m2), (0, .ref nw), (1, .int x)]) hx hb dX4_missedFit_48 hl (k := 1) rfl (nI_1 2) (by decide) rfl (fun ls hl => ?_)
              refine lv_goto (tgt := 2) hx hb dX4_missedFit_51 (by decide) ?_
              exact ihj91 3  H locs ls (by omega) (by omega) (cl_ok_s hI0_j91 (by rw [cl_row_i (hPM.2.2.2.1 (by omega)) hPM.1 hfi h224 (by omega) h227 (by decide)]; exact decide_eq_true h241)) (hP.sub [0, 1, 2, 3, 4, 13, 5, 6, 7, 8, 9, 10, 11, 12] rfl) (hD.sub [0, 1, 2, 3, 4, 13, 5, 6, 7, 8, 9, 10, 11, 12] (by decide) rfl) hS (lv_sub hl [0, 2, 3] rfl)
            · skip
              refine lv_iconst (v := 0) hx hb dX4_missedFit_46 (by decide) ?_
              exact W.zret (v := 0) hx hb hr (by decide) (fun tZ ht hW => ⟨⟨0, (), rfl, Or.inr (⟨cl_ok_f (j := 2) (by omega) (by rw [cl_row_i (hPM.2.2.2.1 (by omega)) hPM.1 hfi h224 (by omega) h227 (by decide)]; exact fun q9 => h242 (of_decide_eq_true q9)), rfl⟩), by rw [ht]; exact hP.sub [0, 1, 2, 3, 4, 13, 5, 6, 7, 8, 9, 10, 11, 12] rfl, hD.sub [0, 1, 2, 3, 4, 13, 5, 6, 7, 8, 9, 10, 11, 12] (by decide) rfl⟩, hS.F ht⟩) hS.2.2 dX4_missedFit_47
          · skip
            refine va_aldq hx hb hK hP 2 5 rfl rfl (vp_in_nI (by omega) (by decide)) dX4_missedFit_29 ?_
            rw [nI_clamp (n := 3) (by omega), show va_rf (fq 3) = .ref k3 from congrArg va_rf hq3]
            refine lv_aload_n hx hb dX4_missedFit_30 rfl (lv_at hl 0 rfl) ?_
            refine lv_iconst (v := 1) hx hb dX4_missedFit_31 (by decide) ?_
            refine va_iald hx hb hK hP 12 0 rfl rfl (by unfold vp_in; decide) dX4_missedFit_32 ?_
            rw [show ((1 : Int32)).toNatClampNeg = 1 from rfl]
            refine lv_aload_n hx hb dX4_missedFit_33 rfl (lv_at hl 0 rfl) ?_
            refine lv_iconst (v := 2) hx hb dX4_missedFit_34 (by decide) ?_
            refine va_iald hx hb hK hP 12 0 rfl rfl (by unfold vp_in; decide) dX4_missedFit_35 ?_
            rw [show ((2 : Int32)).toNatClampNeg = 2 from rfl]
            refine lv_iload_n hx hb dX4_missedFit_36 rfl (lv_at hl 3 rfl) ?_
            have hs243 : kw_Split [(nw, .inr (4, [.ref kk, .ref nk, .ref nd, .ref ne, .ref nm, .ref nn, .int (nI fi), .int (nI gl), .int (nI un), .int (nI mi), .int (nI no)])), (nk, .inl (y 0, 6, .inl fk)), (kk, .inl (y 5, 6, .inr (.inr (.inr (.inr fq))))), (k0, .inr (5, [])), (k1, .inr (8, [])), (k2, .inr (9, [])), (k3, .inr (6, [])), (k4, .inr (2, [])), (k5, .inr (3, [])), (nm, .inl (y 6, 4, .inr (.inr (.inr (.inr fm))))), (m0, .inl (y 0, 4, .inl m0f)), (m1, .inl (y 0, 4, .inl m1f)), (m2, .inl (y 0, 4, .inl m2f)), (m3, .inl (y 0, 4, .inl m3f))] [(k3, .inr (6, []))] [(nw, .inr (4, [.ref kk, .ref nk, .ref nd, .ref ne, .ref nm, .ref nn, .int (nI fi), .int (nI gl), .int (nI un), .int (nI mi), .int (nI no)])), (nk, .inl (y 0, 6, .inl fk)), (kk, .inl (y 5, 6, .inr (.inr (.inr (.inr fq))))), (k0, .inr (5, [])), (k1, .inr (8, [])), (k2, .inr (9, [])), (k4, .inr (2, [])), (k5, .inr (3, [])), (nm, .inl (y 6, 4, .inr (.inr (.inr (.inr fm))))), (m0, .inl (y 0, 4, .inl m0f)), (m1, .inl (y 0, 4, .inl m1f)), (m2, .inl (y 0, 4, .inl m2f)), (m3, .inl (y 0, 4, .inl m3f))] [6] [0, 1, 2, 3, 4, 5, 7, 8, 9, 10, 11, 12, 13] := ⟨rfl, rfl, rfl, rfl, rfl, by decide⟩
            refine kw_go_i hs243 hP hD hS hA (va_runU (As := [.int (m2f 1), .int (m2f 2), .int x]) (rest := []) ⟨hx, hb, hml, hown, hts⟩ (gb_Puddle_on6 l D y k3 (m2f 1) (m2f 2) x  _) (va_cwO 3 hts gX4_missedFit_X6_sight_u89X6 rfl rfl rfl (List.mem_of_getElem? (i := 26) rfl) (by decide +kernel) ⟨Nat.le_of_ble_eq_true rfl, Nat.le_of_ble_eq_true rfl⟩) (kw_PreV (ci := 6) (q0 := 6) hs243 hP hD hK hN rfl rfl) rfl rfl hl.1 rfl (lv_room (Nat.le_of_ble_eq_true rfl)) dX4_missedFit_37 ⟨Nat.le_of_ble_eq_true rfl, Nat.le_of_ble_eq_true rfl⟩) (fun r244 u245 H locs hq hP hD hS => ?_)
            obtain rfl := hq
            have hP : va_P D vwCl [(nw, .inr (4, [.ref kk, .ref nk, .ref nd, .ref ne, .ref nm, .ref nn, .int (nI fi), .int (nI gl), .int (nI un), .int (nI mi), .int (nI no)])), (nk, .inl (y 0, 6, .inl fk)), (kk, .inl (y 5, 6, .inr (.inr (.inr (.inr fq))))), (k0, .inr (5, [])), (k1, .inr (8, [])), (k2, .inr (9, [])), (k4, .inr (2, [])), (k5, .inr (3, [])), (nm, .inl (y 6, 4, .inr (.inr (.inr (.inr fm))))), (m0, .inl (y 0, 4, .inl m0f)), (m1, .inl (y 0, 4, .inl m1f)), (m2, .inl (y 0, 4, .inl m2f)), (m3, .inl (y 0, 4, .inl m3f)), (k3, .inr (6, []))] H := hP
            have hD : va_D A [(nw, .inr (4, [.ref kk, .ref nk, .ref nd, .ref ne, .ref nm, .ref nn, .int (nI fi), .int (nI gl), .int (nI un), .int (nI mi), .int (nI no)])), (nk, .inl (y 0, 6, .inl fk)), (kk, .inl (y 5, 6, .inr (.inr (.inr (.inr fq))))), (k0, .inr (5, [])), (k1, .inr (8, [])), (k2, .inr (9, [])), (k4, .inr (2, [])), (k5, .inr (3, [])), (nm, .inl (y 6, 4, .inr (.inr (.inr (.inr fm))))), (m0, .inl (y 0, 4, .inl m0f)), (m1, .inl (y 0, 4, .inl m1f)), (m2, .inl (y 0, 4, .inl m2f)), (m3, .inl (y 0, 4, .inl m3f)), (k3, .inr (6, []))] := hD
            refine lv_aload_n hx hb dX4_missedFit_40 rfl (lv_at hl 0 rfl) ?_
            refine lv_iconst (v := 3) hx hb dX4_missedFit_41 (by decide) ?_
            refine va_iald hx hb hK hP 11 0 rfl rfl (by unfold vp_in; decide) dX4_missedFit_42 ?_
            rw [show ((3 : Int32)).toNatClampNeg = 3 from rfl]
            refine lv_icmp_eq (tgt := 48) hx hb dX4_missedFit_43 (by decide) (fun h246 => ?_) (fun h247 => ?_)
            · skip
              refine lv_iinc (v := (nI 3)) (lv' := [(2, .int (nI 3)), (3, .ref m2), (0, .ref nw), (1, .int x)]) hx hb dX4_missedFit_48 hl (k := 1) rfl (nI_1 2) (by decide) rfl (fun ls hl => ?_)
              refine lv_goto (tgt := 2) hx hb dX4_missedFit_51 (by decide) ?_
              exact ihj91 3  H locs ls (by omega) (by omega) (cl_ok_s hI0_j91 (by rw [cl_row_i (hPM.2.2.2.1 (by omega)) hPM.1 hfi h224 (by omega) h227 (by decide)]; exact decide_eq_true h246)) (hP.sub [0, 1, 2, 3, 4, 5, 13, 6, 7, 8, 9, 10, 11, 12] rfl) (hD.sub [0, 1, 2, 3, 4, 5, 13, 6, 7, 8, 9, 10, 11, 12] (by decide) rfl) hS (lv_sub hl [0, 2, 3] rfl)
            · skip
              refine lv_iconst (v := 0) hx hb dX4_missedFit_46 (by decide) ?_
              exact W.zret (v := 0) hx hb hr (by decide) (fun tZ ht hW => ⟨⟨0, (), rfl, Or.inr (⟨cl_ok_f (j := 2) (by omega) (by rw [cl_row_i (hPM.2.2.2.1 (by omega)) hPM.1 hfi h224 (by omega) h227 (by decide)]; exact fun q9 => h247 (of_decide_eq_true q9)), rfl⟩), by rw [ht]; exact hP.sub [0, 1, 2, 3, 4, 5, 13, 6, 7, 8, 9, 10, 11, 12] rfl, hD.sub [0, 1, 2, 3, 4, 5, 13, 6, 7, 8, 9, 10, 11, 12] (by decide) rfl⟩, hS.F ht⟩) hS.2.2 dX4_missedFit_47
          · skip
            refine va_aldq hx hb hK hP 2 5 rfl rfl (vp_in_nI (by omega) (by decide)) dX4_missedFit_29 ?_
            rw [nI_clamp (n := 4) (by omega), show va_rf (fq 4) = .ref k4 from congrArg va_rf hq4]
            refine lv_aload_n hx hb dX4_missedFit_30 rfl (lv_at hl 0 rfl) ?_
            refine lv_iconst (v := 1) hx hb dX4_missedFit_31 (by decide) ?_
            refine va_iald hx hb hK hP 12 0 rfl rfl (by unfold vp_in; decide) dX4_missedFit_32 ?_
            rw [show ((1 : Int32)).toNatClampNeg = 1 from rfl]
            refine lv_aload_n hx hb dX4_missedFit_33 rfl (lv_at hl 0 rfl) ?_
            refine lv_iconst (v := 2) hx hb dX4_missedFit_34 (by decide) ?_
            refine va_iald hx hb hK hP 12 0 rfl rfl (by unfold vp_in; decide) dX4_missedFit_35 ?_
            rw [show ((2 : Int32)).toNatClampNeg = 2 from rfl]
            refine lv_iload_n hx hb dX4_missedFit_36 rfl (lv_at hl 3 rfl) ?_
            have hs248 : kw_Split [(nw, .inr (4, [.ref kk, .ref nk, .ref nd, .ref ne, .ref nm, .ref nn, .int (nI fi), .int (nI gl), .int (nI un), .int (nI mi), .int (nI no)])), (nk, .inl (y 0, 6, .inl fk)), (kk, .inl (y 5, 6, .inr (.inr (.inr (.inr fq))))), (k0, .inr (5, [])), (k1, .inr (8, [])), (k2, .inr (9, [])), (k3, .inr (6, [])), (k4, .inr (2, [])), (k5, .inr (3, [])), (nm, .inl (y 6, 4, .inr (.inr (.inr (.inr fm))))), (m0, .inl (y 0, 4, .inl m0f)), (m1, .inl (y 0, 4, .inl m1f)), (m2, .inl (y 0, 4, .inl m2f)), (m3, .inl (y 0, 4, .inl m3f))] [(k4, .inr (2, []))] [(nw, .inr (4, [.ref kk, .ref nk, .ref nd, .ref ne, .ref nm, .ref nn, .int (nI fi), .int (nI gl), .int (nI un), .int (nI mi), .int (nI no)])), (nk, .inl (y 0, 6, .inl fk)), (kk, .inl (y 5, 6, .inr (.inr (.inr (.inr fq))))), (k0, .inr (5, [])), (k1, .inr (8, [])), (k2, .inr (9, [])), (k3, .inr (6, [])), (k5, .inr (3, [])), (nm, .inl (y 6, 4, .inr (.inr (.inr (.inr fm))))), (m0, .inl (y 0, 4, .inl m0f)), (m1, .inl (y 0, 4, .inl m1f)), (m2, .inl (y 0, 4, .inl m2f)), (m3, .inl (y 0, 4, .inl m3f))] [7] [0, 1, 2, 3, 4, 5, 6, 8, 9, 10, 11, 12, 13] := ⟨rfl, rfl, rfl, rfl, rfl, by decide⟩
            refine kw_go_i hs248 hP hD hS hA (va_runU (As := [.int (m2f 1), .int (m2f 2), .int x]) (rest := []) ⟨hx, hb, hml, hown, hts⟩ (gb_Hill_on2 l D y k4 (m2f 1) (m2f 2) x  _) (va_cwO 3 hts gX4_missedFit_X2_sight_u89X2 rfl rfl rfl (List.mem_of_getElem? (i := 26) rfl) (by decide +kernel) ⟨Nat.le_of_ble_eq_true rfl, Nat.le_of_ble_eq_true rfl⟩) (kw_PreV (ci := 2) (q0 := 7) hs248 hP hD hK hN rfl rfl) rfl rfl hl.1 rfl (lv_room (Nat.le_of_ble_eq_true rfl)) dX4_missedFit_37 ⟨Nat.le_of_ble_eq_true rfl, Nat.le_of_ble_eq_true rfl⟩) (fun r249 u250 H locs hq hP hD hS => ?_)
            obtain rfl := hq
            have hP : va_P D vwCl [(nw, .inr (4, [.ref kk, .ref nk, .ref nd, .ref ne, .ref nm, .ref nn, .int (nI fi), .int (nI gl), .int (nI un), .int (nI mi), .int (nI no)])), (nk, .inl (y 0, 6, .inl fk)), (kk, .inl (y 5, 6, .inr (.inr (.inr (.inr fq))))), (k0, .inr (5, [])), (k1, .inr (8, [])), (k2, .inr (9, [])), (k3, .inr (6, [])), (k5, .inr (3, [])), (nm, .inl (y 6, 4, .inr (.inr (.inr (.inr fm))))), (m0, .inl (y 0, 4, .inl m0f)), (m1, .inl (y 0, 4, .inl m1f)), (m2, .inl (y 0, 4, .inl m2f)), (m3, .inl (y 0, 4, .inl m3f)), (k4, .inr (2, []))] H := hP
            have hD : va_D A [(nw, .inr (4, [.ref kk, .ref nk, .ref nd, .ref ne, .ref nm, .ref nn, .int (nI fi), .int (nI gl), .int (nI un), .int (nI mi), .int (nI no)])), (nk, .inl (y 0, 6, .inl fk)), (kk, .inl (y 5, 6, .inr (.inr (.inr (.inr fq))))), (k0, .inr (5, [])), (k1, .inr (8, [])), (k2, .inr (9, [])), (k3, .inr (6, [])), (k5, .inr (3, [])), (nm, .inl (y 6, 4, .inr (.inr (.inr (.inr fm))))), (m0, .inl (y 0, 4, .inl m0f)), (m1, .inl (y 0, 4, .inl m1f)), (m2, .inl (y 0, 4, .inl m2f)), (m3, .inl (y 0, 4, .inl m3f)), (k4, .inr (2, []))] := hD
            refine lv_aload_n hx hb dX4_missedFit_40 rfl (lv_at hl 0 rfl) ?_
            refine lv_iconst (v := 3) hx hb dX4_missedFit_41 (by decide) ?_
            refine va_iald hx hb hK hP 11 0 rfl rfl (by unfold vp_in; decide) dX4_missedFit_42 ?_
            rw [show ((3 : Int32)).toNatClampNeg = 3 from rfl]
            refine lv_icmp_eq (tgt := 48) hx hb dX4_missedFit_43 (by decide) (fun h251 => ?_) (fun h252 => ?_)
            · skip
              refine lv_iinc (v := (nI 3)) (lv' := [(2, .int (nI 3)), (3, .ref m2), (0, .ref nw), (1, .int x)]) hx hb dX4_missedFit_48 hl (k := 1) rfl (nI_1 2) (by decide) rfl (fun ls hl => ?_)
              refine lv_goto (tgt := 2) hx hb dX4_missedFit_51 (by decide) ?_
              exact ihj91 3  H locs ls (by omega) (by omega) (cl_ok_s hI0_j91 (by rw [cl_row_i (hPM.2.2.2.1 (by omega)) hPM.1 hfi h224 (by omega) h227 (by decide)]; exact decide_eq_true h251)) (hP.sub [0, 1, 2, 3, 4, 5, 6, 13, 7, 8, 9, 10, 11, 12] rfl) (hD.sub [0, 1, 2, 3, 4, 5, 6, 13, 7, 8, 9, 10, 11, 12] (by decide) rfl) hS (lv_sub hl [0, 2, 3] rfl)
            · skip
              refine lv_iconst (v := 0) hx hb dX4_missedFit_46 (by decide) ?_
              exact W.zret (v := 0) hx hb hr (by decide) (fun tZ ht hW => ⟨⟨0, (), rfl, Or.inr (⟨cl_ok_f (j := 2) (by omega) (by rw [cl_row_i (hPM.2.2.2.1 (by omega)) hPM.1 hfi h224 (by omega) h227 (by decide)]; exact fun q9 => h252 (of_decide_eq_true q9)), rfl⟩), by rw [ht]; exact hP.sub [0, 1, 2, 3, 4, 5, 6, 13, 7, 8, 9, 10, 11, 12] rfl, hD.sub [0, 1, 2, 3, 4, 5, 6, 13, 7, 8, 9, 10, 11, 12] (by decide) rfl⟩, hS.F ht⟩) hS.2.2 dX4_missedFit_47
          · skip
            refine va_aldq hx hb hK hP 2 5 rfl rfl (vp_in_nI (by omega) (by decide)) dX4_missedFit_29 ?_
            rw [nI_clamp (n := 5) (by omega), show va_rf (fq 5) = .ref k5 from congrArg va_rf hq5]
            refine lv_aload_n hx hb dX4_missedFit_30 rfl (lv_at hl 0 rfl) ?_
            refine lv_iconst (v := 1) hx hb dX4_missedFit_31 (by decide) ?_
            refine va_iald hx hb hK hP 12 0 rfl rfl (by unfold vp_in; decide) dX4_missedFit_32 ?_
            rw [show ((1 : Int32)).toNatClampNeg = 1 from rfl]
            refine lv_aload_n hx hb dX4_missedFit_33 rfl (lv_at hl 0 rfl) ?_
            refine lv_iconst (v := 2) hx hb dX4_missedFit_34 (by decide) ?_
            refine va_iald hx hb hK hP 12 0 rfl rfl (by unfold vp_in; decide) dX4_missedFit_35 ?_
            rw [show ((2 : Int32)).toNatClampNeg = 2 from rfl]
            refine lv_iload_n hx hb dX4_missedFit_36 rfl (lv_at hl 3 rfl) ?_
            have hs253 : kw_Split [(nw, .inr (4, [.ref kk, .ref nk, .ref nd, .ref ne, .ref nm, .ref nn, .int (nI fi), .int (nI gl), .int (nI un), .int (nI mi), .int (nI no)])), (nk, .inl (y 0, 6, .inl fk)), (kk, .inl (y 5, 6, .inr (.inr (.inr (.inr fq))))), (k0, .inr (5, [])), (k1, .inr (8, [])), (k2, .inr (9, [])), (k3, .inr (6, [])), (k4, .inr (2, [])), (k5, .inr (3, [])), (nm, .inl (y 6, 4, .inr (.inr (.inr (.inr fm))))), (m0, .inl (y 0, 4, .inl m0f)), (m1, .inl (y 0, 4, .inl m1f)), (m2, .inl (y 0, 4, .inl m2f)), (m3, .inl (y 0, 4, .inl m3f))] [(k5, .inr (3, []))] [(nw, .inr (4, [.ref kk, .ref nk, .ref nd, .ref ne, .ref nm, .ref nn, .int (nI fi), .int (nI gl), .int (nI un), .int (nI mi), .int (nI no)])), (nk, .inl (y 0, 6, .inl fk)), (kk, .inl (y 5, 6, .inr (.inr (.inr (.inr fq))))), (k0, .inr (5, [])), (k1, .inr (8, [])), (k2, .inr (9, [])), (k3, .inr (6, [])), (k4, .inr (2, [])), (nm, .inl (y 6, 4, .inr (.inr (.inr (.inr fm))))), (m0, .inl (y 0, 4, .inl m0f)), (m1, .inl (y 0, 4, .inl m1f)), (m2, .inl (y 0, 4, .inl m2f)), (m3, .inl (y 0, 4, .inl m3f))] [8] [0, 1, 2, 3, 4, 5, 6, 7, 9, 10, 11, 12, 13] := ⟨rfl, rfl, rfl, rfl, rfl, by decide⟩
            refine kw_go_i hs253 hP hD hS hA (va_runU (As := [.int (m2f 1), .int (m2f 2), .int x]) (rest := []) ⟨hx, hb, hml, hown, hts⟩ (gb_Lane_on3 l D y k5 (m2f 1) (m2f 2) x  _) (va_cwO 3 hts gX4_missedFit_X3_sight_u89X3 rfl rfl rfl (List.mem_of_getElem? (i := 26) rfl) (by decide +kernel) ⟨Nat.le_of_ble_eq_true rfl, Nat.le_of_ble_eq_true rfl⟩) (kw_PreV (ci := 3) (q0 := 8) hs253 hP hD hK hN rfl rfl) rfl rfl hl.1 rfl (lv_room (Nat.le_of_ble_eq_true rfl)) dX4_missedFit_37 ⟨Nat.le_of_ble_eq_true rfl, Nat.le_of_ble_eq_true rfl⟩) (fun r254 u255 H locs hq hP hD hS => ?_)
            obtain rfl := hq
            have hP : va_P D vwCl [(nw, .inr (4, [.ref kk, .ref nk, .ref nd, .ref ne, .ref nm, .ref nn, .int (nI fi), .int (nI gl), .int (nI un), .int (nI mi), .int (nI no)])), (nk, .inl (y 0, 6, .inl fk)), (kk, .inl (y 5, 6, .inr (.inr (.inr (.inr fq))))), (k0, .inr (5, [])), (k1, .inr (8, [])), (k2, .inr (9, [])), (k3, .inr (6, [])), (k4, .inr (2, [])), (nm, .inl (y 6, 4, .inr (.inr (.inr (.inr fm))))), (m0, .inl (y 0, 4, .inl m0f)), (m1, .inl (y 0, 4, .inl m1f)), (m2, .inl (y 0, 4, .inl m2f)), (m3, .inl (y 0, 4, .inl m3f)), (k5, .inr (3, []))] H := hP
            have hD : va_D A [(nw, .inr (4, [.ref kk, .ref nk, .ref nd, .ref ne, .ref nm, .ref nn, .int (nI fi), .int (nI gl), .int (nI un), .int (nI mi), .int (nI no)])), (nk, .inl (y 0, 6, .inl fk)), (kk, .inl (y 5, 6, .inr (.inr (.inr (.inr fq))))), (k0, .inr (5, [])), (k1, .inr (8, [])), (k2, .inr (9, [])), (k3, .inr (6, [])), (k4, .inr (2, [])), (nm, .inl (y 6, 4, .inr (.inr (.inr (.inr fm))))), (m0, .inl (y 0, 4, .inl m0f)), (m1, .inl (y 0, 4, .inl m1f)), (m2, .inl (y 0, 4, .inl m2f)), (m3, .inl (y 0, 4, .inl m3f)), (k5, .inr (3, []))] := hD
            refine lv_aload_n hx hb dX4_missedFit_40 rfl (lv_at hl 0 rfl) ?_
            refine lv_iconst (v := 3) hx hb dX4_missedFit_41 (by decide) ?_
            refine va_iald hx hb hK hP 11 0 rfl rfl (by unfold vp_in; decide) dX4_missedFit_42 ?_
            rw [show ((3 : Int32)).toNatClampNeg = 3 from rfl]
            refine lv_icmp_eq (tgt := 48) hx hb dX4_missedFit_43 (by decide) (fun h256 => ?_) (fun h257 => ?_)
            · skip
              refine lv_iinc (v := (nI 3)) (lv' := [(2, .int (nI 3)), (3, .ref m2), (0, .ref nw), (1, .int x)]) hx hb dX4_missedFit_48 hl (k := 1) rfl (nI_1 2) (by decide) rfl (fun ls hl => ?_)
              refine lv_goto (tgt := 2) hx hb dX4_missedFit_51 (by decide) ?_
              exact ihj91 3  H locs ls (by omega) (by omega) (cl_ok_s hI0_j91 (by rw [cl_row_i (hPM.2.2.2.1 (by omega)) hPM.1 hfi h224 (by omega) h227 (by decide)]; exact decide_eq_true h256)) (hP.sub [0, 1, 2, 3, 4, 5, 6, 7, 13, 8, 9, 10, 11, 12] rfl) (hD.sub [0, 1, 2, 3, 4, 5, 6, 7, 13, 8, 9, 10, 11, 12] (by decide) rfl) hS (lv_sub hl [0, 2, 3] rfl)
            · skip
              refine lv_iconst (v := 0) hx hb dX4_missedFit_46 (by decide) ?_
              exact W.zret (v := 0) hx hb hr (by decide) (fun tZ ht hW => ⟨⟨0, (), rfl, Or.inr (⟨cl_ok_f (j := 2) (by omega) (by rw [cl_row_i (hPM.2.2.2.1 (by omega)) hPM.1 hfi h224 (by omega) h227 (by decide)]; exact fun q9 => h257 (of_decide_eq_true q9)), rfl⟩), by rw [ht]; exact hP.sub [0, 1, 2, 3, 4, 5, 6, 7, 13, 8, 9, 10, 11, 12] rfl, hD.sub [0, 1, 2, 3, 4, 5, 6, 7, 13, 8, 9, 10, 11, 12] (by decide) rfl⟩, hS.F ht⟩) hS.2.2 dX4_missedFit_47
        · skip
          refine kw_aldQ hx hb hK hP 9 6 rfl rfl (vp_in_nI (by omega) (by decide)) dX4_missedFit_15 ?_
          rw [nI_clamp (n := 3) (by omega), show va_rf (fm 3) = .ref m3 from congrArg va_rf hm3]
          refine lv_astore_n (lv' := [(3, .ref m3), (2, .int (nI 3)), (0, .ref nw), (1, .int x)]) hx hb dX4_missedFit_16 rfl hl (by decide) rfl (fun ls hl => ?_)
          refine lv_aload_n hx hb dX4_missedFit_17 rfl (lv_at hl 2 rfl) ?_
          refine va_get (D := D) (ci := 4) (v := .ref kk) (C := RX4) (T := TX4) (N := 11) hx hb hts iw4 hown hK hP 0 rfl rfl 0 (by decide) fw3 (fun _ h9 => h9) rfl dX4_missedFit_18 ?_
          refine lv_aload_n hx hb dX4_missedFit_21 rfl (lv_at hl 2 rfl) ?_
          refine va_get (D := D) (ci := 4) (v := .ref nk) (C := RX4) (T := TX4) (N := 11) hx hb hts iw4 hown hK hP 0 rfl rfl 1 (by decide) fw4 (fun _ h9 => h9) rfl dX4_missedFit_22 ?_
          refine lv_aload_n hx hb dX4_missedFit_25 rfl (lv_at hl 0 rfl) ?_
          refine lv_iconst (v := 0) hx hb dX4_missedFit_26 (by decide) ?_
          refine va_iald hx hb hK hP 13 0 rfl rfl (by unfold vp_in; decide) dX4_missedFit_27 ?_
          rw [show ((0 : Int32)).toNatClampNeg = 0 from rfl]
          obtain ⟨w258, h259, h260⟩ := vp_in_of hm3f (by decide)
          rw [h260]
          refine va_iald hx hb hK hP 1 0 rfl rfl (vp_in_nI (by omega) (by decide)) dX4_missedFit_28 ?_
          rw [nI_clamp (n := w258) (by omega)]
          obtain ⟨w261, h262, h263⟩ := kw_bdv hk (k := w258) (by omega) (by decide)
          rw [h263]
          rcases (show w261 = 0 ∨ w261 = 1 ∨ w261 = 2 ∨ w261 = 3 ∨ w261 = 4 ∨ w261 = 5 by omega) with rfl | rfl | rfl | rfl | rfl | rfl
          · skip
            refine va_aldq hx hb hK hP 2 5 rfl rfl (vp_in_nI (by omega) (by decide)) dX4_missedFit_29 ?_
            rw [nI_clamp (n := 0) (by omega), show va_rf (fq 0) = .ref k0 from congrArg va_rf hq0]
            refine lv_aload_n hx hb dX4_missedFit_30 rfl (lv_at hl 0 rfl) ?_
            refine lv_iconst (v := 1) hx hb dX4_missedFit_31 (by decide) ?_
            refine va_iald hx hb hK hP 13 0 rfl rfl (by unfold vp_in; decide) dX4_missedFit_32 ?_
            rw [show ((1 : Int32)).toNatClampNeg = 1 from rfl]
            refine lv_aload_n hx hb dX4_missedFit_33 rfl (lv_at hl 0 rfl) ?_
            refine lv_iconst (v := 2) hx hb dX4_missedFit_34 (by decide) ?_
            refine va_iald hx hb hK hP 13 0 rfl rfl (by unfold vp_in; decide) dX4_missedFit_35 ?_
            rw [show ((2 : Int32)).toNatClampNeg = 2 from rfl]
            refine lv_iload_n hx hb dX4_missedFit_36 rfl (lv_at hl 3 rfl) ?_
            have hs264 : kw_Split [(nw, .inr (4, [.ref kk, .ref nk, .ref nd, .ref ne, .ref nm, .ref nn, .int (nI fi), .int (nI gl), .int (nI un), .int (nI mi), .int (nI no)])), (nk, .inl (y 0, 6, .inl fk)), (kk, .inl (y 5, 6, .inr (.inr (.inr (.inr fq))))), (k0, .inr (5, [])), (k1, .inr (8, [])), (k2, .inr (9, [])), (k3, .inr (6, [])), (k4, .inr (2, [])), (k5, .inr (3, [])), (nm, .inl (y 6, 4, .inr (.inr (.inr (.inr fm))))), (m0, .inl (y 0, 4, .inl m0f)), (m1, .inl (y 0, 4, .inl m1f)), (m2, .inl (y 0, 4, .inl m2f)), (m3, .inl (y 0, 4, .inl m3f))] [(k0, .inr (5, []))] [(nw, .inr (4, [.ref kk, .ref nk, .ref nd, .ref ne, .ref nm, .ref nn, .int (nI fi), .int (nI gl), .int (nI un), .int (nI mi), .int (nI no)])), (nk, .inl (y 0, 6, .inl fk)), (kk, .inl (y 5, 6, .inr (.inr (.inr (.inr fq))))), (k1, .inr (8, [])), (k2, .inr (9, [])), (k3, .inr (6, [])), (k4, .inr (2, [])), (k5, .inr (3, [])), (nm, .inl (y 6, 4, .inr (.inr (.inr (.inr fm))))), (m0, .inl (y 0, 4, .inl m0f)), (m1, .inl (y 0, 4, .inl m1f)), (m2, .inl (y 0, 4, .inl m2f)), (m3, .inl (y 0, 4, .inl m3f))] [3] [0, 1, 2, 4, 5, 6, 7, 8, 9, 10, 11, 12, 13] := ⟨rfl, rfl, rfl, rfl, rfl, by decide⟩
            refine kw_go_i hs264 hP hD hS hA (va_runV (As := [.int (m3f 1), .int (m3f 2), .int x]) (rest := []) ⟨hx, hb, hml, hown, hts⟩ (gb_Plain_on5 l D y k0 (m3f 1) (m3f 2) x  _) (cwV 3 hts gX4_missedFit_X5_sight rfl rfl rfl (by decide +kernel) ⟨Nat.le_of_ble_eq_true rfl, Nat.le_of_ble_eq_true rfl⟩) (kw_PreV (ci := 5) (q0 := 3) hs264 hP hD hK hN rfl rfl) rfl rfl hl.1 rfl (lv_room (Nat.le_of_ble_eq_true rfl)) dX4_missedFit_37 ⟨Nat.le_of_ble_eq_true rfl, Nat.le_of_ble_eq_true rfl⟩) (fun r265 u266 H locs hq hP hD hS => ?_)
            obtain rfl := hq
            have hP : va_P D vwCl [(nw, .inr (4, [.ref kk, .ref nk, .ref nd, .ref ne, .ref nm, .ref nn, .int (nI fi), .int (nI gl), .int (nI un), .int (nI mi), .int (nI no)])), (nk, .inl (y 0, 6, .inl fk)), (kk, .inl (y 5, 6, .inr (.inr (.inr (.inr fq))))), (k1, .inr (8, [])), (k2, .inr (9, [])), (k3, .inr (6, [])), (k4, .inr (2, [])), (k5, .inr (3, [])), (nm, .inl (y 6, 4, .inr (.inr (.inr (.inr fm))))), (m0, .inl (y 0, 4, .inl m0f)), (m1, .inl (y 0, 4, .inl m1f)), (m2, .inl (y 0, 4, .inl m2f)), (m3, .inl (y 0, 4, .inl m3f)), (k0, .inr (5, []))] H := hP
            have hD : va_D A [(nw, .inr (4, [.ref kk, .ref nk, .ref nd, .ref ne, .ref nm, .ref nn, .int (nI fi), .int (nI gl), .int (nI un), .int (nI mi), .int (nI no)])), (nk, .inl (y 0, 6, .inl fk)), (kk, .inl (y 5, 6, .inr (.inr (.inr (.inr fq))))), (k1, .inr (8, [])), (k2, .inr (9, [])), (k3, .inr (6, [])), (k4, .inr (2, [])), (k5, .inr (3, [])), (nm, .inl (y 6, 4, .inr (.inr (.inr (.inr fm))))), (m0, .inl (y 0, 4, .inl m0f)), (m1, .inl (y 0, 4, .inl m1f)), (m2, .inl (y 0, 4, .inl m2f)), (m3, .inl (y 0, 4, .inl m3f)), (k0, .inr (5, []))] := hD
            refine lv_aload_n hx hb dX4_missedFit_40 rfl (lv_at hl 0 rfl) ?_
            refine lv_iconst (v := 3) hx hb dX4_missedFit_41 (by decide) ?_
            refine va_iald hx hb hK hP 12 0 rfl rfl (by unfold vp_in; decide) dX4_missedFit_42 ?_
            rw [show ((3 : Int32)).toNatClampNeg = 3 from rfl]
            refine lv_icmp_eq (tgt := 48) hx hb dX4_missedFit_43 (by decide) (fun h267 => ?_) (fun h268 => ?_)
            · skip
              refine lv_iinc (v := (nI 4)) (lv' := [(2, .int (nI 4)), (3, .ref m3), (0, .ref nw), (1, .int x)]) hx hb dX4_missedFit_48 hl (k := 1) rfl (nI_1 3) (by decide) rfl (fun ls hl => ?_)
              refine lv_goto (tgt := 2) hx hb dX4_missedFit_51 (by decide) ?_
              exact ihj91 4  H locs ls (by omega) (by omega) (cl_ok_s hI0_j91 (by rw [cl_row_i (hPM.2.2.2.2 (by omega)) hPM.1 hfi h260 (by omega) h263 (by decide)]; exact decide_eq_true h267)) (hP.sub [0, 1, 2, 13, 3, 4, 5, 6, 7, 8, 9, 10, 11, 12] rfl) (hD.sub [0, 1, 2, 13, 3, 4, 5, 6, 7, 8, 9, 10, 11, 12] (by decide) rfl) hS (lv_sub hl [0, 2, 3] rfl)
            · skip
              refine lv_iconst (v := 0) hx hb dX4_missedFit_46 (by decide) ?_
              exact W.zret (v := 0) hx hb hr (by decide) (fun tZ ht hW => ⟨⟨0, (), rfl, Or.inr (⟨cl_ok_f (j := 3) (by omega) (by rw [cl_row_i (hPM.2.2.2.2 (by omega)) hPM.1 hfi h260 (by omega) h263 (by decide)]; exact fun q9 => h268 (of_decide_eq_true q9)), rfl⟩), by rw [ht]; exact hP.sub [0, 1, 2, 13, 3, 4, 5, 6, 7, 8, 9, 10, 11, 12] rfl, hD.sub [0, 1, 2, 13, 3, 4, 5, 6, 7, 8, 9, 10, 11, 12] (by decide) rfl⟩, hS.F ht⟩) hS.2.2 dX4_missedFit_47
          · skip
            refine va_aldq hx hb hK hP 2 5 rfl rfl (vp_in_nI (by omega) (by decide)) dX4_missedFit_29 ?_
            rw [nI_clamp (n := 1) (by omega), show va_rf (fq 1) = .ref k1 from congrArg va_rf hq1]
            refine lv_aload_n hx hb dX4_missedFit_30 rfl (lv_at hl 0 rfl) ?_
            refine lv_iconst (v := 1) hx hb dX4_missedFit_31 (by decide) ?_
            refine va_iald hx hb hK hP 13 0 rfl rfl (by unfold vp_in; decide) dX4_missedFit_32 ?_
            rw [show ((1 : Int32)).toNatClampNeg = 1 from rfl]
            refine lv_aload_n hx hb dX4_missedFit_33 rfl (lv_at hl 0 rfl) ?_
            refine lv_iconst (v := 2) hx hb dX4_missedFit_34 (by decide) ?_
            refine va_iald hx hb hK hP 13 0 rfl rfl (by unfold vp_in; decide) dX4_missedFit_35 ?_
            rw [show ((2 : Int32)).toNatClampNeg = 2 from rfl]
            refine lv_iload_n hx hb dX4_missedFit_36 rfl (lv_at hl 3 rfl) ?_
            have hs269 : kw_Split [(nw, .inr (4, [.ref kk, .ref nk, .ref nd, .ref ne, .ref nm, .ref nn, .int (nI fi), .int (nI gl), .int (nI un), .int (nI mi), .int (nI no)])), (nk, .inl (y 0, 6, .inl fk)), (kk, .inl (y 5, 6, .inr (.inr (.inr (.inr fq))))), (k0, .inr (5, [])), (k1, .inr (8, [])), (k2, .inr (9, [])), (k3, .inr (6, [])), (k4, .inr (2, [])), (k5, .inr (3, [])), (nm, .inl (y 6, 4, .inr (.inr (.inr (.inr fm))))), (m0, .inl (y 0, 4, .inl m0f)), (m1, .inl (y 0, 4, .inl m1f)), (m2, .inl (y 0, 4, .inl m2f)), (m3, .inl (y 0, 4, .inl m3f))] [(k1, .inr (8, []))] [(nw, .inr (4, [.ref kk, .ref nk, .ref nd, .ref ne, .ref nm, .ref nn, .int (nI fi), .int (nI gl), .int (nI un), .int (nI mi), .int (nI no)])), (nk, .inl (y 0, 6, .inl fk)), (kk, .inl (y 5, 6, .inr (.inr (.inr (.inr fq))))), (k0, .inr (5, [])), (k2, .inr (9, [])), (k3, .inr (6, [])), (k4, .inr (2, [])), (k5, .inr (3, [])), (nm, .inl (y 6, 4, .inr (.inr (.inr (.inr fm))))), (m0, .inl (y 0, 4, .inl m0f)), (m1, .inl (y 0, 4, .inl m1f)), (m2, .inl (y 0, 4, .inl m2f)), (m3, .inl (y 0, 4, .inl m3f))] [4] [0, 1, 2, 3, 5, 6, 7, 8, 9, 10, 11, 12, 13] := ⟨rfl, rfl, rfl, rfl, rfl, by decide⟩
            refine kw_go_i hs269 hP hD hS hA (va_runU (As := [.int (m3f 1), .int (m3f 2), .int x]) (rest := []) ⟨hx, hb, hml, hown, hts⟩ (gb_West_on8 l D y k1 (m3f 1) (m3f 2) x  _) (va_cwO 3 hts gX4_missedFit_X8_sight_u89X8 rfl rfl rfl (List.mem_of_getElem? (i := 26) rfl) (by decide +kernel) ⟨Nat.le_of_ble_eq_true rfl, Nat.le_of_ble_eq_true rfl⟩) (kw_PreV (ci := 8) (q0 := 4) hs269 hP hD hK hN rfl rfl) rfl rfl hl.1 rfl (lv_room (Nat.le_of_ble_eq_true rfl)) dX4_missedFit_37 ⟨Nat.le_of_ble_eq_true rfl, Nat.le_of_ble_eq_true rfl⟩) (fun r270 u271 H locs hq hP hD hS => ?_)
            obtain rfl := hq
            have hP : va_P D vwCl [(nw, .inr (4, [.ref kk, .ref nk, .ref nd, .ref ne, .ref nm, .ref nn, .int (nI fi), .int (nI gl), .int (nI un), .int (nI mi), .int (nI no)])), (nk, .inl (y 0, 6, .inl fk)), (kk, .inl (y 5, 6, .inr (.inr (.inr (.inr fq))))), (k0, .inr (5, [])), (k2, .inr (9, [])), (k3, .inr (6, [])), (k4, .inr (2, [])), (k5, .inr (3, [])), (nm, .inl (y 6, 4, .inr (.inr (.inr (.inr fm))))), (m0, .inl (y 0, 4, .inl m0f)), (m1, .inl (y 0, 4, .inl m1f)), (m2, .inl (y 0, 4, .inl m2f)), (m3, .inl (y 0, 4, .inl m3f)), (k1, .inr (8, []))] H := hP
            have hD : va_D A [(nw, .inr (4, [.ref kk, .ref nk, .ref nd, .ref ne, .ref nm, .ref nn, .int (nI fi), .int (nI gl), .int (nI un), .int (nI mi), .int (nI no)])), (nk, .inl (y 0, 6, .inl fk)), (kk, .inl (y 5, 6, .inr (.inr (.inr (.inr fq))))), (k0, .inr (5, [])), (k2, .inr (9, [])), (k3, .inr (6, [])), (k4, .inr (2, [])), (k5, .inr (3, [])), (nm, .inl (y 6, 4, .inr (.inr (.inr (.inr fm))))), (m0, .inl (y 0, 4, .inl m0f)), (m1, .inl (y 0, 4, .inl m1f)), (m2, .inl (y 0, 4, .inl m2f)), (m3, .inl (y 0, 4, .inl m3f)), (k1, .inr (8, []))] := hD
            refine lv_aload_n hx hb dX4_missedFit_40 rfl (lv_at hl 0 rfl) ?_
            refine lv_iconst (v := 3) hx hb dX4_missedFit_41 (by decide) ?_
            refine va_iald hx hb hK hP 12 0 rfl rfl (by unfold vp_in; decide) dX4_missedFit_42 ?_
            rw [show ((3 : Int32)).toNatClampNeg = 3 from rfl]
            refine lv_icmp_eq (tgt := 48) hx hb dX4_missedFit_43 (by decide) (fun h272 => ?_) (fun h273 => ?_)
            · skip
              refine lv_iinc (v := (nI 4)) (lv' := [(2, .int (nI 4)), (3, .ref m3), (0, .ref nw), (1, .int x)]) hx hb dX4_missedFit_48 hl (k := 1) rfl (nI_1 3) (by decide) rfl (fun ls hl => ?_)
              refine lv_goto (tgt := 2) hx hb dX4_missedFit_51 (by decide) ?_
              exact ihj91 4  H locs ls (by omega) (by omega) (cl_ok_s hI0_j91 (by rw [cl_row_i (hPM.2.2.2.2 (by omega)) hPM.1 hfi h260 (by omega) h263 (by decide)]; exact decide_eq_true h272)) (hP.sub [0, 1, 2, 3, 13, 4, 5, 6, 7, 8, 9, 10, 11, 12] rfl) (hD.sub [0, 1, 2, 3, 13, 4, 5, 6, 7, 8, 9, 10, 11, 12] (by decide) rfl) hS (lv_sub hl [0, 2, 3] rfl)
            · skip
              refine lv_iconst (v := 0) hx hb dX4_missedFit_46 (by decide) ?_
              exact W.zret (v := 0) hx hb hr (by decide) (fun tZ ht hW => ⟨⟨0, (), rfl, Or.inr (⟨cl_ok_f (j := 3) (by omega) (by rw [cl_row_i (hPM.2.2.2.2 (by omega)) hPM.1 hfi h260 (by omega) h263 (by decide)]; exact fun q9 => h273 (of_decide_eq_true q9)), rfl⟩), by rw [ht]; exact hP.sub [0, 1, 2, 3, 13, 4, 5, 6, 7, 8, 9, 10, 11, 12] rfl, hD.sub [0, 1, 2, 3, 13, 4, 5, 6, 7, 8, 9, 10, 11, 12] (by decide) rfl⟩, hS.F ht⟩) hS.2.2 dX4_missedFit_47
          · skip
            refine va_aldq hx hb hK hP 2 5 rfl rfl (vp_in_nI (by omega) (by decide)) dX4_missedFit_29 ?_
            rw [nI_clamp (n := 2) (by omega), show va_rf (fq 2) = .ref k2 from congrArg va_rf hq2]
            refine lv_aload_n hx hb dX4_missedFit_30 rfl (lv_at hl 0 rfl) ?_
            refine lv_iconst (v := 1) hx hb dX4_missedFit_31 (by decide) ?_
            refine va_iald hx hb hK hP 13 0 rfl rfl (by unfold vp_in; decide) dX4_missedFit_32 ?_
            rw [show ((1 : Int32)).toNatClampNeg = 1 from rfl]
            refine lv_aload_n hx hb dX4_missedFit_33 rfl (lv_at hl 0 rfl) ?_
            refine lv_iconst (v := 2) hx hb dX4_missedFit_34 (by decide) ?_
            refine va_iald hx hb hK hP 13 0 rfl rfl (by unfold vp_in; decide) dX4_missedFit_35 ?_
            rw [show ((2 : Int32)).toNatClampNeg = 2 from rfl]
            refine lv_iload_n hx hb dX4_missedFit_36 rfl (lv_at hl 3 rfl) ?_
            have hs274 : kw_Split [(nw, .inr (4, [.ref kk, .ref nk, .ref nd, .ref ne, .ref nm, .ref nn, .int (nI fi), .int (nI gl), .int (nI un), .int (nI mi), .int (nI no)])), (nk, .inl (y 0, 6, .inl fk)), (kk, .inl (y 5, 6, .inr (.inr (.inr (.inr fq))))), (k0, .inr (5, [])), (k1, .inr (8, [])), (k2, .inr (9, [])), (k3, .inr (6, [])), (k4, .inr (2, [])), (k5, .inr (3, [])), (nm, .inl (y 6, 4, .inr (.inr (.inr (.inr fm))))), (m0, .inl (y 0, 4, .inl m0f)), (m1, .inl (y 0, 4, .inl m1f)), (m2, .inl (y 0, 4, .inl m2f)), (m3, .inl (y 0, 4, .inl m3f))] [(k2, .inr (9, []))] [(nw, .inr (4, [.ref kk, .ref nk, .ref nd, .ref ne, .ref nm, .ref nn, .int (nI fi), .int (nI gl), .int (nI un), .int (nI mi), .int (nI no)])), (nk, .inl (y 0, 6, .inl fk)), (kk, .inl (y 5, 6, .inr (.inr (.inr (.inr fq))))), (k0, .inr (5, [])), (k1, .inr (8, [])), (k3, .inr (6, [])), (k4, .inr (2, [])), (k5, .inr (3, [])), (nm, .inl (y 6, 4, .inr (.inr (.inr (.inr fm))))), (m0, .inl (y 0, 4, .inl m0f)), (m1, .inl (y 0, 4, .inl m1f)), (m2, .inl (y 0, 4, .inl m2f)), (m3, .inl (y 0, 4, .inl m3f))] [5] [0, 1, 2, 3, 4, 6, 7, 8, 9, 10, 11, 12, 13] := ⟨rfl, rfl, rfl, rfl, rfl, by decide⟩
            refine kw_go_i hs274 hP hD hS hA (va_runU (As := [.int (m3f 1), .int (m3f 2), .int x]) (rest := []) ⟨hx, hb, hml, hown, hts⟩ (gb_Wood_on9 l D y k2 (m3f 1) (m3f 2) x  _) (va_cwO 3 hts gX4_missedFit_X9_sight_u89X9 rfl rfl rfl (List.mem_of_getElem? (i := 26) rfl) (by decide +kernel) ⟨Nat.le_of_ble_eq_true rfl, Nat.le_of_ble_eq_true rfl⟩) (kw_PreV (ci := 9) (q0 := 5) hs274 hP hD hK hN rfl rfl) rfl rfl hl.1 rfl (lv_room (Nat.le_of_ble_eq_true rfl)) dX4_missedFit_37 ⟨Nat.le_of_ble_eq_true rfl, Nat.le_of_ble_eq_true rfl⟩) (fun r275 u276 H locs hq hP hD hS => ?_)
            obtain rfl := hq
            have hP : va_P D vwCl [(nw, .inr (4, [.ref kk, .ref nk, .ref nd, .ref ne, .ref nm, .ref nn, .int (nI fi), .int (nI gl), .int (nI un), .int (nI mi), .int (nI no)])), (nk, .inl (y 0, 6, .inl fk)), (kk, .inl (y 5, 6, .inr (.inr (.inr (.inr fq))))), (k0, .inr (5, [])), (k1, .inr (8, [])), (k3, .inr (6, [])), (k4, .inr (2, [])), (k5, .inr (3, [])), (nm, .inl (y 6, 4, .inr (.inr (.inr (.inr fm))))), (m0, .inl (y 0, 4, .inl m0f)), (m1, .inl (y 0, 4, .inl m1f)), (m2, .inl (y 0, 4, .inl m2f)), (m3, .inl (y 0, 4, .inl m3f)), (k2, .inr (9, []))] H := hP
            have hD : va_D A [(nw, .inr (4, [.ref kk, .ref nk, .ref nd, .ref ne, .ref nm, .ref nn, .int (nI fi), .int (nI gl), .int (nI un), .int (nI mi), .int (nI no)])), (nk, .inl (y 0, 6, .inl fk)), (kk, .inl (y 5, 6, .inr (.inr (.inr (.inr fq))))), (k0, .inr (5, [])), (k1, .inr (8, [])), (k3, .inr (6, [])), (k4, .inr (2, [])), (k5, .inr (3, [])), (nm, .inl (y 6, 4, .inr (.inr (.inr (.inr fm))))), (m0, .inl (y 0, 4, .inl m0f)), (m1, .inl (y 0, 4, .inl m1f)), (m2, .inl (y 0, 4, .inl m2f)), (m3, .inl (y 0, 4, .inl m3f)), (k2, .inr (9, []))] := hD
            refine lv_aload_n hx hb dX4_missedFit_40 rfl (lv_at hl 0 rfl) ?_
            refine lv_iconst (v := 3) hx hb dX4_missedFit_41 (by decide) ?_
            refine va_iald hx hb hK hP 12 0 rfl rfl (by unfold vp_in; decide) dX4_missedFit_42 ?_
            rw [show ((3 : Int32)).toNatClampNeg = 3 from rfl]
            refine lv_icmp_eq (tgt := 48) hx hb dX4_missedFit_43 (by decide) (fun h277 => ?_) (fun h278 => ?_)
            · skip
              refine lv_iinc (v := (nI 4)) (lv' := [(2, .int (nI 4)), (3, .ref m3), (0, .ref nw), (1, .int x)]) hx hb dX4_missedFit_48 hl (k := 1) rfl (nI_1 3) (by decide) rfl (fun ls hl => ?_)
              refine lv_goto (tgt := 2) hx hb dX4_missedFit_51 (by decide) ?_
              exact ihj91 4  H locs ls (by omega) (by omega) (cl_ok_s hI0_j91 (by rw [cl_row_i (hPM.2.2.2.2 (by omega)) hPM.1 hfi h260 (by omega) h263 (by decide)]; exact decide_eq_true h277)) (hP.sub [0, 1, 2, 3, 4, 13, 5, 6, 7, 8, 9, 10, 11, 12] rfl) (hD.sub [0, 1, 2, 3, 4, 13, 5, 6, 7, 8, 9, 10, 11, 12] (by decide) rfl) hS (lv_sub hl [0, 2, 3] rfl)
            · skip
              refine lv_iconst (v := 0) hx hb dX4_missedFit_46 (by decide) ?_
              exact W.zret (v := 0) hx hb hr (by decide) (fun tZ ht hW => ⟨⟨0, (), rfl, Or.inr (⟨cl_ok_f (j := 3) (by omega) (by rw [cl_row_i (hPM.2.2.2.2 (by omega)) hPM.1 hfi h260 (by omega) h263 (by decide)]; exact fun q9 => h278 (of_decide_eq_true q9)), rfl⟩), by rw [ht]; exact hP.sub [0, 1, 2, 3, 4, 13, 5, 6, 7, 8, 9, 10, 11, 12] rfl, hD.sub [0, 1, 2, 3, 4, 13, 5, 6, 7, 8, 9, 10, 11, 12] (by decide) rfl⟩, hS.F ht⟩) hS.2.2 dX4_missedFit_47
          · skip
            refine va_aldq hx hb hK hP 2 5 rfl rfl (vp_in_nI (by omega) (by decide)) dX4_missedFit_29 ?_
            rw [nI_clamp (n := 3) (by omega), show va_rf (fq 3) = .ref k3 from congrArg va_rf hq3]
            refine lv_aload_n hx hb dX4_missedFit_30 rfl (lv_at hl 0 rfl) ?_
            refine lv_iconst (v := 1) hx hb dX4_missedFit_31 (by decide) ?_
            refine va_iald hx hb hK hP 13 0 rfl rfl (by unfold vp_in; decide) dX4_missedFit_32 ?_
            rw [show ((1 : Int32)).toNatClampNeg = 1 from rfl]
            refine lv_aload_n hx hb dX4_missedFit_33 rfl (lv_at hl 0 rfl) ?_
            refine lv_iconst (v := 2) hx hb dX4_missedFit_34 (by decide) ?_
            refine va_iald hx hb hK hP 13 0 rfl rfl (by unfold vp_in; decide) dX4_missedFit_35 ?_
            rw [show ((2 : Int32)).toNatClampNeg = 2 from rfl]
            refine lv_iload_n hx hb dX4_missedFit_36 rfl (lv_at hl 3 rfl) ?_
            have hs279 : kw_Split [(nw, .inr (4, [.ref kk, .ref nk, .ref nd, .ref ne, .ref nm, .ref nn, .int (nI fi), .int (nI gl), .int (nI un), .int (nI mi), .int (nI no)])), (nk, .inl (y 0, 6, .inl fk)), (kk, .inl (y 5, 6, .inr (.inr (.inr (.inr fq))))), (k0, .inr (5, [])), (k1, .inr (8, [])), (k2, .inr (9, [])), (k3, .inr (6, [])), (k4, .inr (2, [])), (k5, .inr (3, [])), (nm, .inl (y 6, 4, .inr (.inr (.inr (.inr fm))))), (m0, .inl (y 0, 4, .inl m0f)), (m1, .inl (y 0, 4, .inl m1f)), (m2, .inl (y 0, 4, .inl m2f)), (m3, .inl (y 0, 4, .inl m3f))] [(k3, .inr (6, []))] [(nw, .inr (4, [.ref kk, .ref nk, .ref nd, .ref ne, .ref nm, .ref nn, .int (nI fi), .int (nI gl), .int (nI un), .int (nI mi), .int (nI no)])), (nk, .inl (y 0, 6, .inl fk)), (kk, .inl (y 5, 6, .inr (.inr (.inr (.inr fq))))), (k0, .inr (5, [])), (k1, .inr (8, [])), (k2, .inr (9, [])), (k4, .inr (2, [])), (k5, .inr (3, [])), (nm, .inl (y 6, 4, .inr (.inr (.inr (.inr fm))))), (m0, .inl (y 0, 4, .inl m0f)), (m1, .inl (y 0, 4, .inl m1f)), (m2, .inl (y 0, 4, .inl m2f)), (m3, .inl (y 0, 4, .inl m3f))] [6] [0, 1, 2, 3, 4, 5, 7, 8, 9, 10, 11, 12, 13] := ⟨rfl, rfl, rfl, rfl, rfl, by decide⟩
            refine kw_go_i hs279 hP hD hS hA (va_runU (As := [.int (m3f 1), .int (m3f 2), .int x]) (rest := []) ⟨hx, hb, hml, hown, hts⟩ (gb_Puddle_on6 l D y k3 (m3f 1) (m3f 2) x  _) (va_cwO 3 hts gX4_missedFit_X6_sight_u89X6 rfl rfl rfl (List.mem_of_getElem? (i := 26) rfl) (by decide +kernel) ⟨Nat.le_of_ble_eq_true rfl, Nat.le_of_ble_eq_true rfl⟩) (kw_PreV (ci := 6) (q0 := 6) hs279 hP hD hK hN rfl rfl) rfl rfl hl.1 rfl (lv_room (Nat.le_of_ble_eq_true rfl)) dX4_missedFit_37 ⟨Nat.le_of_ble_eq_true rfl, Nat.le_of_ble_eq_true rfl⟩) (fun r280 u281 H locs hq hP hD hS => ?_)
            obtain rfl := hq
            have hP : va_P D vwCl [(nw, .inr (4, [.ref kk, .ref nk, .ref nd, .ref ne, .ref nm, .ref nn, .int (nI fi), .int (nI gl), .int (nI un), .int (nI mi), .int (nI no)])), (nk, .inl (y 0, 6, .inl fk)), (kk, .inl (y 5, 6, .inr (.inr (.inr (.inr fq))))), (k0, .inr (5, [])), (k1, .inr (8, [])), (k2, .inr (9, [])), (k4, .inr (2, [])), (k5, .inr (3, [])), (nm, .inl (y 6, 4, .inr (.inr (.inr (.inr fm))))), (m0, .inl (y 0, 4, .inl m0f)), (m1, .inl (y 0, 4, .inl m1f)), (m2, .inl (y 0, 4, .inl m2f)), (m3, .inl (y 0, 4, .inl m3f)), (k3, .inr (6, []))] H := hP
            have hD : va_D A [(nw, .inr (4, [.ref kk, .ref nk, .ref nd, .ref ne, .ref nm, .ref nn, .int (nI fi), .int (nI gl), .int (nI un), .int (nI mi), .int (nI no)])), (nk, .inl (y 0, 6, .inl fk)), (kk, .inl (y 5, 6, .inr (.inr (.inr (.inr fq))))), (k0, .inr (5, [])), (k1, .inr (8, [])), (k2, .inr (9, [])), (k4, .inr (2, [])), (k5, .inr (3, [])), (nm, .inl (y 6, 4, .inr (.inr (.inr (.inr fm))))), (m0, .inl (y 0, 4, .inl m0f)), (m1, .inl (y 0, 4, .inl m1f)), (m2, .inl (y 0, 4, .inl m2f)), (m3, .inl (y 0, 4, .inl m3f)), (k3, .inr (6, []))] := hD
            refine lv_aload_n hx hb dX4_missedFit_40 rfl (lv_at hl 0 rfl) ?_
            refine lv_iconst (v := 3) hx hb dX4_missedFit_41 (by decide) ?_
            refine va_iald hx hb hK hP 12 0 rfl rfl (by unfold vp_in; decide) dX4_missedFit_42 ?_
            rw [show ((3 : Int32)).toNatClampNeg = 3 from rfl]
            refine lv_icmp_eq (tgt := 48) hx hb dX4_missedFit_43 (by decide) (fun h282 => ?_) (fun h283 => ?_)
            · skip
              refine lv_iinc (v := (nI 4)) (lv' := [(2, .int (nI 4)), (3, .ref m3), (0, .ref nw), (1, .int x)]) hx hb dX4_missedFit_48 hl (k := 1) rfl (nI_1 3) (by decide) rfl (fun ls hl => ?_)
              refine lv_goto (tgt := 2) hx hb dX4_missedFit_51 (by decide) ?_
              exact ihj91 4  H locs ls (by omega) (by omega) (cl_ok_s hI0_j91 (by rw [cl_row_i (hPM.2.2.2.2 (by omega)) hPM.1 hfi h260 (by omega) h263 (by decide)]; exact decide_eq_true h282)) (hP.sub [0, 1, 2, 3, 4, 5, 13, 6, 7, 8, 9, 10, 11, 12] rfl) (hD.sub [0, 1, 2, 3, 4, 5, 13, 6, 7, 8, 9, 10, 11, 12] (by decide) rfl) hS (lv_sub hl [0, 2, 3] rfl)
            · skip
              refine lv_iconst (v := 0) hx hb dX4_missedFit_46 (by decide) ?_
              exact W.zret (v := 0) hx hb hr (by decide) (fun tZ ht hW => ⟨⟨0, (), rfl, Or.inr (⟨cl_ok_f (j := 3) (by omega) (by rw [cl_row_i (hPM.2.2.2.2 (by omega)) hPM.1 hfi h260 (by omega) h263 (by decide)]; exact fun q9 => h283 (of_decide_eq_true q9)), rfl⟩), by rw [ht]; exact hP.sub [0, 1, 2, 3, 4, 5, 13, 6, 7, 8, 9, 10, 11, 12] rfl, hD.sub [0, 1, 2, 3, 4, 5, 13, 6, 7, 8, 9, 10, 11, 12] (by decide) rfl⟩, hS.F ht⟩) hS.2.2 dX4_missedFit_47
          · skip
            refine va_aldq hx hb hK hP 2 5 rfl rfl (vp_in_nI (by omega) (by decide)) dX4_missedFit_29 ?_
            rw [nI_clamp (n := 4) (by omega), show va_rf (fq 4) = .ref k4 from congrArg va_rf hq4]
            refine lv_aload_n hx hb dX4_missedFit_30 rfl (lv_at hl 0 rfl) ?_
            refine lv_iconst (v := 1) hx hb dX4_missedFit_31 (by decide) ?_
            refine va_iald hx hb hK hP 13 0 rfl rfl (by unfold vp_in; decide) dX4_missedFit_32 ?_
            rw [show ((1 : Int32)).toNatClampNeg = 1 from rfl]
            refine lv_aload_n hx hb dX4_missedFit_33 rfl (lv_at hl 0 rfl) ?_
            refine lv_iconst (v := 2) hx hb dX4_missedFit_34 (by decide) ?_
            refine va_iald hx hb hK hP 13 0 rfl rfl (by unfold vp_in; decide) dX4_missedFit_35 ?_
            rw [show ((2 : Int32)).toNatClampNeg = 2 from rfl]
            refine lv_iload_n hx hb dX4_missedFit_36 rfl (lv_at hl 3 rfl) ?_
            have hs284 : kw_Split [(nw, .inr (4, [.ref kk, .ref nk, .ref nd, .ref ne, .ref nm, .ref nn, .int (nI fi), .int (nI gl), .int (nI un), .int (nI mi), .int (nI no)])), (nk, .inl (y 0, 6, .inl fk)), (kk, .inl (y 5, 6, .inr (.inr (.inr (.inr fq))))), (k0, .inr (5, [])), (k1, .inr (8, [])), (k2, .inr (9, [])), (k3, .inr (6, [])), (k4, .inr (2, [])), (k5, .inr (3, [])), (nm, .inl (y 6, 4, .inr (.inr (.inr (.inr fm))))), (m0, .inl (y 0, 4, .inl m0f)), (m1, .inl (y 0, 4, .inl m1f)), (m2, .inl (y 0, 4, .inl m2f)), (m3, .inl (y 0, 4, .inl m3f))] [(k4, .inr (2, []))] [(nw, .inr (4, [.ref kk, .ref nk, .ref nd, .ref ne, .ref nm, .ref nn, .int (nI fi), .int (nI gl), .int (nI un), .int (nI mi), .int (nI no)])), (nk, .inl (y 0, 6, .inl fk)), (kk, .inl (y 5, 6, .inr (.inr (.inr (.inr fq))))), (k0, .inr (5, [])), (k1, .inr (8, [])), (k2, .inr (9, [])), (k3, .inr (6, [])), (k5, .inr (3, [])), (nm, .inl (y 6, 4, .inr (.inr (.inr (.inr fm))))), (m0, .inl (y 0, 4, .inl m0f)), (m1, .inl (y 0, 4, .inl m1f)), (m2, .inl (y 0, 4, .inl m2f)), (m3, .inl (y 0, 4, .inl m3f))] [7] [0, 1, 2, 3, 4, 5, 6, 8, 9, 10, 11, 12, 13] := ⟨rfl, rfl, rfl, rfl, rfl, by decide⟩
            refine kw_go_i hs284 hP hD hS hA (va_runU (As := [.int (m3f 1), .int (m3f 2), .int x]) (rest := []) ⟨hx, hb, hml, hown, hts⟩ (gb_Hill_on2 l D y k4 (m3f 1) (m3f 2) x  _) (va_cwO 3 hts gX4_missedFit_X2_sight_u89X2 rfl rfl rfl (List.mem_of_getElem? (i := 26) rfl) (by decide +kernel) ⟨Nat.le_of_ble_eq_true rfl, Nat.le_of_ble_eq_true rfl⟩) (kw_PreV (ci := 2) (q0 := 7) hs284 hP hD hK hN rfl rfl) rfl rfl hl.1 rfl (lv_room (Nat.le_of_ble_eq_true rfl)) dX4_missedFit_37 ⟨Nat.le_of_ble_eq_true rfl, Nat.le_of_ble_eq_true rfl⟩) (fun r285 u286 H locs hq hP hD hS => ?_)
            obtain rfl := hq
            have hP : va_P D vwCl [(nw, .inr (4, [.ref kk, .ref nk, .ref nd, .ref ne, .ref nm, .ref nn, .int (nI fi), .int (nI gl), .int (nI un), .int (nI mi), .int (nI no)])), (nk, .inl (y 0, 6, .inl fk)), (kk, .inl (y 5, 6, .inr (.inr (.inr (.inr fq))))), (k0, .inr (5, [])), (k1, .inr (8, [])), (k2, .inr (9, [])), (k3, .inr (6, [])), (k5, .inr (3, [])), (nm, .inl (y 6, 4, .inr (.inr (.inr (.inr fm))))), (m0, .inl (y 0, 4, .inl m0f)), (m1, .inl (y 0, 4, .inl m1f)), (m2, .inl (y 0, 4, .inl m2f)), (m3, .inl (y 0, 4, .inl m3f)), (k4, .inr (2, []))] H := hP
            have hD : va_D A [(nw, .inr (4, [.ref kk, .ref nk, .ref nd, .ref ne, .ref nm, .ref nn, .int (nI fi), .int (nI gl), .int (nI un), .int (nI mi), .int (nI no)])), (nk, .inl (y 0, 6, .inl fk)), (kk, .inl (y 5, 6, .inr (.inr (.inr (.inr fq))))), (k0, .inr (5, [])), (k1, .inr (8, [])), (k2, .inr (9, [])), (k3, .inr (6, [])), (k5, .inr (3, [])), (nm, .inl (y 6, 4, .inr (.inr (.inr (.inr fm))))), (m0, .inl (y 0, 4, .inl m0f)), (m1, .inl (y 0, 4, .inl m1f)), (m2, .inl (y 0, 4, .inl m2f)), (m3, .inl (y 0, 4, .inl m3f)), (k4, .inr (2, []))] := hD
            refine lv_aload_n hx hb dX4_missedFit_40 rfl (lv_at hl 0 rfl) ?_
            refine lv_iconst (v := 3) hx hb dX4_missedFit_41 (by decide) ?_
            refine va_iald hx hb hK hP 12 0 rfl rfl (by unfold vp_in; decide) dX4_missedFit_42 ?_
            rw [show ((3 : Int32)).toNatClampNeg = 3 from rfl]
            refine lv_icmp_eq (tgt := 48) hx hb dX4_missedFit_43 (by decide) (fun h287 => ?_) (fun h288 => ?_)
            · skip
              refine lv_iinc (v := (nI 4)) (lv' := [(2, .int (nI 4)), (3, .ref m3), (0, .ref nw), (1, .int x)]) hx hb dX4_missedFit_48 hl (k := 1) rfl (nI_1 3) (by decide) rfl (fun ls hl => ?_)
              refine lv_goto (tgt := 2) hx hb dX4_missedFit_51 (by decide) ?_
              exact ihj91 4  H locs ls (by omega) (by omega) (cl_ok_s hI0_j91 (by rw [cl_row_i (hPM.2.2.2.2 (by omega)) hPM.1 hfi h260 (by omega) h263 (by decide)]; exact decide_eq_true h287)) (hP.sub [0, 1, 2, 3, 4, 5, 6, 13, 7, 8, 9, 10, 11, 12] rfl) (hD.sub [0, 1, 2, 3, 4, 5, 6, 13, 7, 8, 9, 10, 11, 12] (by decide) rfl) hS (lv_sub hl [0, 2, 3] rfl)
            · skip
              refine lv_iconst (v := 0) hx hb dX4_missedFit_46 (by decide) ?_
              exact W.zret (v := 0) hx hb hr (by decide) (fun tZ ht hW => ⟨⟨0, (), rfl, Or.inr (⟨cl_ok_f (j := 3) (by omega) (by rw [cl_row_i (hPM.2.2.2.2 (by omega)) hPM.1 hfi h260 (by omega) h263 (by decide)]; exact fun q9 => h288 (of_decide_eq_true q9)), rfl⟩), by rw [ht]; exact hP.sub [0, 1, 2, 3, 4, 5, 6, 13, 7, 8, 9, 10, 11, 12] rfl, hD.sub [0, 1, 2, 3, 4, 5, 6, 13, 7, 8, 9, 10, 11, 12] (by decide) rfl⟩, hS.F ht⟩) hS.2.2 dX4_missedFit_47
          · skip
            refine va_aldq hx hb hK hP 2 5 rfl rfl (vp_in_nI (by omega) (by decide)) dX4_missedFit_29 ?_
            rw [nI_clamp (n := 5) (by omega), show va_rf (fq 5) = .ref k5 from congrArg va_rf hq5]
            refine lv_aload_n hx hb dX4_missedFit_30 rfl (lv_at hl 0 rfl) ?_
            refine lv_iconst (v := 1) hx hb dX4_missedFit_31 (by decide) ?_
            refine va_iald hx hb hK hP 13 0 rfl rfl (by unfold vp_in; decide) dX4_missedFit_32 ?_
            rw [show ((1 : Int32)).toNatClampNeg = 1 from rfl]
            refine lv_aload_n hx hb dX4_missedFit_33 rfl (lv_at hl 0 rfl) ?_
            refine lv_iconst (v := 2) hx hb dX4_missedFit_34 (by decide) ?_
            refine va_iald hx hb hK hP 13 0 rfl rfl (by unfold vp_in; decide) dX4_missedFit_35 ?_
            rw [show ((2 : Int32)).toNatClampNeg = 2 from rfl]
            refine lv_iload_n hx hb dX4_missedFit_36 rfl (lv_at hl 3 rfl) ?_
            have hs289 : kw_Split [(nw, .inr (4, [.ref kk, .ref nk, .ref nd, .ref ne, .ref nm, .ref nn, .int (nI fi), .int (nI gl), .int (nI un), .int (nI mi), .int (nI no)])), (nk, .inl (y 0, 6, .inl fk)), (kk, .inl (y 5, 6, .inr (.inr (.inr (.inr fq))))), (k0, .inr (5, [])), (k1, .inr (8, [])), (k2, .inr (9, [])), (k3, .inr (6, [])), (k4, .inr (2, [])), (k5, .inr (3, [])), (nm, .inl (y 6, 4, .inr (.inr (.inr (.inr fm))))), (m0, .inl (y 0, 4, .inl m0f)), (m1, .inl (y 0, 4, .inl m1f)), (m2, .inl (y 0, 4, .inl m2f)), (m3, .inl (y 0, 4, .inl m3f))] [(k5, .inr (3, []))] [(nw, .inr (4, [.ref kk, .ref nk, .ref nd, .ref ne, .ref nm, .ref nn, .int (nI fi), .int (nI gl), .int (nI un), .int (nI mi), .int (nI no)])), (nk, .inl (y 0, 6, .inl fk)), (kk, .inl (y 5, 6, .inr (.inr (.inr (.inr fq))))), (k0, .inr (5, [])), (k1, .inr (8, [])), (k2, .inr (9, [])), (k3, .inr (6, [])), (k4, .inr (2, [])), (nm, .inl (y 6, 4, .inr (.inr (.inr (.inr fm))))), (m0, .inl (y 0, 4, .inl m0f)), (m1, .inl (y 0, 4, .inl m1f)), (m2, .inl (y 0, 4, .inl m2f)), (m3, .inl (y 0, 4, .inl m3f))] [8] [0, 1, 2, 3, 4, 5, 6, 7, 9, 10, 11, 12, 13] := ⟨rfl, rfl, rfl, rfl, rfl, by decide⟩
            refine kw_go_i hs289 hP hD hS hA (va_runU (As := [.int (m3f 1), .int (m3f 2), .int x]) (rest := []) ⟨hx, hb, hml, hown, hts⟩ (gb_Lane_on3 l D y k5 (m3f 1) (m3f 2) x  _) (va_cwO 3 hts gX4_missedFit_X3_sight_u89X3 rfl rfl rfl (List.mem_of_getElem? (i := 26) rfl) (by decide +kernel) ⟨Nat.le_of_ble_eq_true rfl, Nat.le_of_ble_eq_true rfl⟩) (kw_PreV (ci := 3) (q0 := 8) hs289 hP hD hK hN rfl rfl) rfl rfl hl.1 rfl (lv_room (Nat.le_of_ble_eq_true rfl)) dX4_missedFit_37 ⟨Nat.le_of_ble_eq_true rfl, Nat.le_of_ble_eq_true rfl⟩) (fun r290 u291 H locs hq hP hD hS => ?_)
            obtain rfl := hq
            have hP : va_P D vwCl [(nw, .inr (4, [.ref kk, .ref nk, .ref nd, .ref ne, .ref nm, .ref nn, .int (nI fi), .int (nI gl), .int (nI un), .int (nI mi), .int (nI no)])), (nk, .inl (y 0, 6, .inl fk)), (kk, .inl (y 5, 6, .inr (.inr (.inr (.inr fq))))), (k0, .inr (5, [])), (k1, .inr (8, [])), (k2, .inr (9, [])), (k3, .inr (6, [])), (k4, .inr (2, [])), (nm, .inl (y 6, 4, .inr (.inr (.inr (.inr fm))))), (m0, .inl (y 0, 4, .inl m0f)), (m1, .inl (y 0, 4, .inl m1f)), (m2, .inl (y 0, 4, .inl m2f)), (m3, .inl (y 0, 4, .inl m3f)), (k5, .inr (3, []))] H := hP
            have hD : va_D A [(nw, .inr (4, [.ref kk, .ref nk, .ref nd, .ref ne, .ref nm, .ref nn, .int (nI fi), .int (nI gl), .int (nI un), .int (nI mi), .int (nI no)])), (nk, .inl (y 0, 6, .inl fk)), (kk, .inl (y 5, 6, .inr (.inr (.inr (.inr fq))))), (k0, .inr (5, [])), (k1, .inr (8, [])), (k2, .inr (9, [])), (k3, .inr (6, [])), (k4, .inr (2, [])), (nm, .inl (y 6, 4, .inr (.inr (.inr (.inr fm))))), (m0, .inl (y 0, 4, .inl m0f)), (m1, .inl (y 0, 4, .inl m1f)), (m2, .inl (y 0, 4, .inl m2f)), (m3, .inl (y 0, 4, .inl m3f)), (k5, .inr (3, []))] := hD
            refine lv_aload_n hx hb dX4_missedFit_40 rfl (lv_at hl 0 rfl) ?_
            refine lv_iconst (v := 3) hx hb dX4_missedFit_41 (by decide) ?_
            refine va_iald hx hb hK hP 12 0 rfl rfl (by unfold vp_in; decide) dX4_missedFit_42 ?_
            rw [show ((3 : Int32)).toNatClampNeg = 3 from rfl]
            refine lv_icmp_eq (tgt := 48) hx hb dX4_missedFit_43 (by decide) (fun h292 => ?_) (fun h293 => ?_)
            · skip
              refine lv_iinc (v := (nI 4)) (lv' := [(2, .int (nI 4)), (3, .ref m3), (0, .ref nw), (1, .int x)]) hx hb dX4_missedFit_48 hl (k := 1) rfl (nI_1 3) (by decide) rfl (fun ls hl => ?_)
              refine lv_goto (tgt := 2) hx hb dX4_missedFit_51 (by decide) ?_
              exact ihj91 4  H locs ls (by omega) (by omega) (cl_ok_s hI0_j91 (by rw [cl_row_i (hPM.2.2.2.2 (by omega)) hPM.1 hfi h260 (by omega) h263 (by decide)]; exact decide_eq_true h292)) (hP.sub [0, 1, 2, 3, 4, 5, 6, 7, 13, 8, 9, 10, 11, 12] rfl) (hD.sub [0, 1, 2, 3, 4, 5, 6, 7, 13, 8, 9, 10, 11, 12] (by decide) rfl) hS (lv_sub hl [0, 2, 3] rfl)
            · skip
              refine lv_iconst (v := 0) hx hb dX4_missedFit_46 (by decide) ?_
              exact W.zret (v := 0) hx hb hr (by decide) (fun tZ ht hW => ⟨⟨0, (), rfl, Or.inr (⟨cl_ok_f (j := 3) (by omega) (by rw [cl_row_i (hPM.2.2.2.2 (by omega)) hPM.1 hfi h260 (by omega) h263 (by decide)]; exact fun q9 => h293 (of_decide_eq_true q9)), rfl⟩), by rw [ht]; exact hP.sub [0, 1, 2, 3, 4, 5, 6, 7, 13, 8, 9, 10, 11, 12] rfl, hD.sub [0, 1, 2, 3, 4, 5, 6, 7, 13, 8, 9, 10, 11, 12] (by decide) rfl⟩, hS.F ht⟩) hS.2.2 dX4_missedFit_47
  exact lp147 (mi + 1) 0  _ _ _ (by omega) (by omega) rfl hP hD hS (lv_sub hl [0, 1, 2] rfl)

set_option maxHeartbeats 4000000 in
set_option maxRecDepth 100000 in
theorem gp_b_clouds (l : Launch) (D : va_G) (y : Nat → ClassId) (g : Nat) (kk : Nat) (nw : Nat) (im : Nat) (kp : Nat) (tx : Nat) (tr : Nat) (be : Nat) (sh : Nat) (sd : Nat) (rf : Nat) (ab : Int32) (bl : Int32) (nk : Nat) (nd : Nat) (ne : Nat) (nm : Nat) (nn : Nat) (fi : Nat) (gl : Nat) (un : Nat) (mi : Nat) (no : Nat) (fk : Nat → Int32) (k0 : Nat) (k1 : Nat) (k2 : Nat) (k3 : Nat) (k4 : Nat) (k5 : Nat) (fq : Nat → Option Nat) (m0 : Nat) (m1 : Nat) (m2 : Nat) (m3 : Nat) (m0f : Nat → Int32) (m1f : Nat → Int32) (m2f : Nat → Int32) (m3f : Nat → Int32) (fm : Nat → Option Nat) (f : Nat → Int32) (hfi : fi ≤ 6) (hgl : gl ≤ 5) (hun : un ≤ 8) (hmi : mi ≤ 4) (hno : no ≤ 6) (hk : kw_bd 6 6 fk) (hq0 : fq 0 = some k0) (hq1 : fq 1 = some k1) (hq2 : fq 2 = some k2) (hq3 : fq 3 = some k3) (hq4 : fq 4 = some k4) (hq5 : fq 5 = some k5) (hm0 : fm 0 = some m0) (hm1 : fm 1 = some m1) (hm2 : fm 2 = some m2) (hm3 : fm 3 = some m3) (hm0f : vp_in (m0f 0) 6) (hm1f : vp_in (m1f 0) 6) (hm2f : vp_in (m2f 0) 6) (hm3f : vp_in (m3f 0) 6) (hPM : kz_PM f fi mi fk m0f m1f m2f m3f) : kw_Mi l yX10_clouds wsX10_clouds ({ frames := 5, cells := 0, slots := 0, locals := 153 }) D y [.ref g] [(g, .inr (10, [.ref kk, .ref nw, .ref im, .ref kp, .ref tx, .ref tr, .ref be, .ref sh, .ref sd, .ref rf, .int ab, .int bl])), (nw, .inr (4, [.ref kk, .ref nk, .ref nd, .ref ne, .ref nm, .ref nn, .int (nI fi), .int (nI gl), .int (nI un), .int (nI mi), .int (nI no)])), (nk, .inl (y 0, 6, .inl fk)), (kk, .inl (y 5, 6, .inr (.inr (.inr (.inr fq))))), (k0, .inr (5, [])), (k1, .inr (8, [])), (k2, .inr (9, [])), (k3, .inr (6, [])), (k4, .inr (2, [])), (k5, .inr (3, [])), (nm, .inl (y 6, 4, .inr (.inr (.inr (.inr fm))))), (m0, .inl (y 0, 4, .inl m0f)), (m1, .inl (y 0, 4, .inl m1f)), (m2, .inl (y 0, 4, .inl m2f)), (m3, .inl (y 0, 4, .inl m3f))] (fun (r : Int32) (u : Unit) => r = (cb (fun k => cl_ok f (nI k) mi) 10)) (fun _ => [(g, .inr (10, [.ref kk, .ref nw, .ref im, .ref kp, .ref tx, .ref tr, .ref be, .ref sh, .ref sd, .ref rf, .int ab, .int bl])), (nw, .inr (4, [.ref kk, .ref nk, .ref nd, .ref ne, .ref nm, .ref nn, .int (nI fi), .int (nI gl), .int (nI un), .int (nI mi), .int (nI no)])), (nk, .inl (y 0, 6, .inl fk)), (kk, .inl (y 5, 6, .inr (.inr (.inr (.inr fq))))), (k0, .inr (5, [])), (k1, .inr (8, [])), (k2, .inr (9, [])), (k3, .inr (6, [])), (k4, .inr (2, [])), (k5, .inr (3, [])), (nm, .inl (y 6, 4, .inr (.inr (.inr (.inr fm))))), (m0, .inl (y 0, 4, .inl m0f)), (m1, .inl (y 0, 4, .inl m1f)), (m2, .inl (y 0, 4, .inl m2f)), (m3, .inl (y 0, 4, .inl m3f))]) 0 0 := by
  refine kw_Mi.of (cc := cX10_clouds) (maxL := 3) (ret := (some .int)) (by decide) rfl ?_
  intro pZ eZ s mZ beZ meZ cZ A hE
  obtain ⟨hx, hb, hr, hml, hts, hown, hlocks, hin, hA, hP, hD, hK, hN⟩ := hE
  have hS : va_S A s.heap s.heap [] := va_S.rf
  have hl := lv_entry ([.ref g]) (n := 3) (Nat.le_of_ble_eq_true rfl)
  rw [lg_entry_eq]
  generalize (lg_sl ([.ref g]) ++ List.replicate (3 - (lg_sl ([.ref g])).length) Slot.unset).toArray = ls at hl ⊢
  have hl : lv_has ls 3 [(0, .ref g)] := hl
  have fw1 := hts (.fieldLink RX10 36 "GleanDusk" "now" "LGleanDusk$Parish;") (List.mem_of_getElem? (i := 1) rfl)
  have iw10 : ∀ w ∈ wsX100, w ∈ wsX10_clouds := fun _ h => List.mem_cons_of_mem _ (List.mem_append_left _ (List.mem_append_right _ h))
  refine lv_iconst (v := 0) hx hb dX10_clouds_0 (by decide) ?_
  refine lv_istore_n (lv' := [(1, .int 0), (0, .ref g)]) hx hb dX10_clouds_1 rfl hl (by decide) rfl (fun ls hl => ?_)
  refine lv_iconst (v := 0) hx hb dX10_clouds_2 (by decide) ?_
  refine lv_istore_n (lv' := [(2, .int 0), (1, .int 0), (0, .ref g)]) hx hb dX10_clouds_3 rfl hl (by decide) rfl (fun ls hl => ?_)
  have lp16 : ∀ (fuj91 j91 : Nat) (x8 : Int32) (H : Heap) (locs : List Loc) (ls : Array Slot), j91 ≤ 10 → 10 - j91 < fuj91 → x8 = cb (fun k => cl_ok f (nI k) mi) j91 → va_P D vwCl [(g, .inr (10, [.ref kk, .ref nw, .ref im, .ref kp, .ref tx, .ref tr, .ref be, .ref sh, .ref sd, .ref rf, .int ab, .int bl])), (nw, .inr (4, [.ref kk, .ref nk, .ref nd, .ref ne, .ref nm, .ref nn, .int (nI fi), .int (nI gl), .int (nI un), .int (nI mi), .int (nI no)])), (nk, .inl (y 0, 6, .inl fk)), (kk, .inl (y 5, 6, .inr (.inr (.inr (.inr fq))))), (k0, .inr (5, [])), (k1, .inr (8, [])), (k2, .inr (9, [])), (k3, .inr (6, [])), (k4, .inr (2, [])), (k5, .inr (3, [])), (nm, .inl (y 6, 4, .inr (.inr (.inr (.inr fm))))), (m0, .inl (y 0, 4, .inl m0f)), (m1, .inl (y 0, 4, .inl m1f)), (m2, .inl (y 0, 4, .inl m2f)), (m3, .inl (y 0, 4, .inl m3f))] H → va_D A [(g, .inr (10, [.ref kk, .ref nw, .ref im, .ref kp, .ref tx, .ref tr, .ref be, .ref sh, .ref sd, .ref rf, .int ab, .int bl])), (nw, .inr (4, [.ref kk, .ref nk, .ref nd, .ref ne, .ref nm, .ref nn, .int (nI fi), .int (nI gl), .int (nI un), .int (nI mi), .int (nI no)])), (nk, .inl (y 0, 6, .inl fk)), (kk, .inl (y 5, 6, .inr (.inr (.inr (.inr fq))))), (k0, .inr (5, [])), (k1, .inr (8, [])), (k2, .inr (9, [])), (k3, .inr (6, [])), (k4, .inr (2, [])), (k5, .inr (3, [])), (nm, .inl (y 6, 4, .inr (.inr (.inr (.inr fm))))), (m0, .inl (y 0, 4, .inl m0f)), (m1, .inl (y 0, 4, .inl m1f)), (m2, .inl (y 0, 4, .inl m2f)), (m3, .inl (y 0, 4, .inl m3f))] → va_S A s.heap H locs → lv_has ls 3 [(2, .int (nI j91)), (1, .int x8), (0, .ref g)] → W pZ l eZ ({ frames := 5, cells := 0, slots := 0, locals := 153 }) s mZ [.ref g].toArray beZ meZ cZ H locs 0 0 (MQ beZ (va_Qi (fun (r : Int32) (u : Unit) => r = (cb (fun k => cl_ok f (nI k) mi) 10)) (kw_B D (fun _ => [(g, .inr (10, [.ref kk, .ref nw, .ref im, .ref kp, .ref tx, .ref tr, .ref be, .ref sh, .ref sd, .ref rf, .int ab, .int bl])), (nw, .inr (4, [.ref kk, .ref nk, .ref nd, .ref ne, .ref nm, .ref nn, .int (nI fi), .int (nI gl), .int (nI un), .int (nI mi), .int (nI no)])), (nk, .inl (y 0, 6, .inl fk)), (kk, .inl (y 5, 6, .inr (.inr (.inr (.inr fq))))), (k0, .inr (5, [])), (k1, .inr (8, [])), (k2, .inr (9, [])), (k3, .inr (6, [])), (k4, .inr (2, [])), (k5, .inr (3, [])), (nm, .inl (y 6, 4, .inr (.inr (.inr (.inr fm))))), (m0, .inl (y 0, 4, .inl m0f)), (m1, .inl (y 0, 4, .inl m1f)), (m2, .inl (y 0, 4, .inl m2f)), (m3, .inl (y 0, 4, .inl m3f))]) A) A) [.ref g].toArray s 0 0 A) (F0 mZ 4 ls []) := by
    intro fuj91
    induction fuj91 with
    | zero => intro j91 x8 H locs ls hj9 hf9; exact absurd hf9 (Nat.not_lt_zero _)
    | succ fuj91 ihj91 =>
      intro j91 x8 H locs ls hj91 hfj91 hI0_j91 hP hD hS hl
      refine lv_iload_n hx hb dX10_clouds_4 rfl (lv_at hl 0 rfl) ?_
      refine lv_bipush (v := 10) hx hb dX10_clouds_5 (by decide) ?_
      refine lv_icmp_ge (tgt := 33) hx hb dX10_clouds_7 (by decide) (fun h17 => ?_) (fun h18 => ?_)
      · skip
        have h17 : 10 ≤ j91 := (nI_leI (a := 10) (b := j91) (by omega) (by omega)).mp h17
        refine lv_iload_n hx hb dX10_clouds_33 rfl (lv_at hl 1 rfl) ?_
        exact W.iret (v := x8) hx hb hr (fun tZ ht hW => ⟨⟨x8, (), rfl, (show j91 = 10 by omega) ▸ hI0_j91, by rw [ht]; exact hP.sub [0, 1, 2, 3, 4, 5, 6, 7, 8, 9, 10, 11, 12, 13, 14] rfl, hD.sub [0, 1, 2, 3, 4, 5, 6, 7, 8, 9, 10, 11, 12, 13, 14] (by decide) rfl⟩, hS.F ht⟩) hS.2.2 dX10_clouds_34
      · skip
        have h18 : ¬ 10 ≤ j91 := fun q9 => h18 ((nI_leI (a := 10) (b := j91) (by omega) (by omega)).mpr q9)
        refine lv_aload_n hx hb dX10_clouds_10 rfl (lv_at hl 2 rfl) ?_
        refine va_get (D := D) (ci := 10) (v := .ref nw) (C := RX10) (T := TX10) (N := 12) hx hb hts iw10 hown hK hP 0 rfl rfl 1 (by decide) fw1 (fun _ h9 => h9) rfl dX10_clouds_11 ?_
        refine lv_iload_n hx hb dX10_clouds_14 rfl (lv_at hl 0 rfl) ?_
        have hs19 : kw_Split [(g, .inr (10, [.ref kk, .ref nw, .ref im, .ref kp, .ref tx, .ref tr, .ref be, .ref sh, .ref sd, .ref rf, .int ab, .int bl])), (nw, .inr (4, [.ref kk, .ref nk, .ref nd, .ref ne, .ref nm, .ref nn, .int (nI fi), .int (nI gl), .int (nI un), .int (nI mi), .int (nI no)])), (nk, .inl (y 0, 6, .inl fk)), (kk, .inl (y 5, 6, .inr (.inr (.inr (.inr fq))))), (k0, .inr (5, [])), (k1, .inr (8, [])), (k2, .inr (9, [])), (k3, .inr (6, [])), (k4, .inr (2, [])), (k5, .inr (3, [])), (nm, .inl (y 6, 4, .inr (.inr (.inr (.inr fm))))), (m0, .inl (y 0, 4, .inl m0f)), (m1, .inl (y 0, 4, .inl m1f)), (m2, .inl (y 0, 4, .inl m2f)), (m3, .inl (y 0, 4, .inl m3f))] [(nw, .inr (4, [.ref kk, .ref nk, .ref nd, .ref ne, .ref nm, .ref nn, .int (nI fi), .int (nI gl), .int (nI un), .int (nI mi), .int (nI no)])), (nk, .inl (y 0, 6, .inl fk)), (kk, .inl (y 5, 6, .inr (.inr (.inr (.inr fq))))), (k0, .inr (5, [])), (k1, .inr (8, [])), (k2, .inr (9, [])), (k3, .inr (6, [])), (k4, .inr (2, [])), (k5, .inr (3, [])), (nm, .inl (y 6, 4, .inr (.inr (.inr (.inr fm))))), (m0, .inl (y 0, 4, .inl m0f)), (m1, .inl (y 0, 4, .inl m1f)), (m2, .inl (y 0, 4, .inl m2f)), (m3, .inl (y 0, 4, .inl m3f))] [(g, .inr (10, [.ref kk, .ref nw, .ref im, .ref kp, .ref tx, .ref tr, .ref be, .ref sh, .ref sd, .ref rf, .int ab, .int bl]))] [1, 2, 3, 4, 5, 6, 7, 8, 9, 10, 11, 12, 13, 14] [0] := ⟨rfl, rfl, rfl, rfl, rfl, by decide⟩
        refine kw_go_i hs19 hP hD hS hA (va_runV (As := [.int (nI j91)]) (rest := []) ⟨hx, hb, hml, hown, hts⟩ (gb_missedFit l D y nw kk nk nd ne nm nn fi gl un mi no m0 m1 m2 m3 m0f m1f m2f m3f fm fk k0 k1 k2 k3 k4 k5 fq (nI j91) f hfi hgl hun hmi hno hk hq0 hq1 hq2 hq3 hq4 hq5 hm0 hm1 hm2 hm3 hm0f hm1f hm2f hm3f hPM _) (cwV 1 hts gX10_clouds_X4_missedFit rfl rfl rfl (by decide +kernel) ⟨Nat.le_of_ble_eq_true rfl, Nat.le_of_ble_eq_true rfl⟩) (kw_PreV (ci := 4) (q0 := 1) hs19 hP hD hK hN rfl rfl) rfl rfl hl.1 rfl (lv_room (Nat.le_of_ble_eq_true rfl)) dX10_clouds_15 ⟨Nat.le_of_ble_eq_true rfl, Nat.le_of_ble_eq_true rfl⟩) (fun r20 u21 H locs hq hP hD hS => ?_)
        rcases hq with ⟨h22, rfl⟩ | ⟨h23, rfl⟩
        · skip
          have hP : va_P D vwCl [(g, .inr (10, [.ref kk, .ref nw, .ref im, .ref kp, .ref tx, .ref tr, .ref be, .ref sh, .ref sd, .ref rf, .int ab, .int bl])), (nw, .inr (4, [.ref kk, .ref nk, .ref nd, .ref ne, .ref nm, .ref nn, .int (nI fi), .int (nI gl), .int (nI un), .int (nI mi), .int (nI no)])), (nk, .inl (y 0, 6, .inl fk)), (kk, .inl (y 5, 6, .inr (.inr (.inr (.inr fq))))), (k0, .inr (5, [])), (k1, .inr (8, [])), (k2, .inr (9, [])), (k3, .inr (6, [])), (k4, .inr (2, [])), (k5, .inr (3, [])), (nm, .inl (y 6, 4, .inr (.inr (.inr (.inr fm))))), (m0, .inl (y 0, 4, .inl m0f)), (m1, .inl (y 0, 4, .inl m1f)), (m2, .inl (y 0, 4, .inl m2f)), (m3, .inl (y 0, 4, .inl m3f))] H := hP
          have hD : va_D A [(g, .inr (10, [.ref kk, .ref nw, .ref im, .ref kp, .ref tx, .ref tr, .ref be, .ref sh, .ref sd, .ref rf, .int ab, .int bl])), (nw, .inr (4, [.ref kk, .ref nk, .ref nd, .ref ne, .ref nm, .ref nn, .int (nI fi), .int (nI gl), .int (nI un), .int (nI mi), .int (nI no)])), (nk, .inl (y 0, 6, .inl fk)), (kk, .inl (y 5, 6, .inr (.inr (.inr (.inr fq))))), (k0, .inr (5, [])), (k1, .inr (8, [])), (k2, .inr (9, [])), (k3, .inr (6, [])), (k4, .inr (2, [])), (k5, .inr (3, [])), (nm, .inl (y 6, 4, .inr (.inr (.inr (.inr fm))))), (m0, .inl (y 0, 4, .inl m0f)), (m1, .inl (y 0, 4, .inl m1f)), (m2, .inl (y 0, 4, .inl m2f)), (m3, .inl (y 0, 4, .inl m3f))] := hD
          refine lv_if_eq (tgt := 27) hx hb dX10_clouds_18 (by decide) (fun h9 => absurd h9 (by decide)) (fun _ => ?_)
          refine lv_iload_n hx hb dX10_clouds_21 rfl (lv_at hl 1 rfl) ?_
          refine lv_iconst (v := 1) hx hb dX10_clouds_22 (by decide) ?_
          refine lv_iload_n hx hb dX10_clouds_23 rfl (lv_at hl 0 rfl) ?_
          refine lv_ishl hx hb dX10_clouds_24 ?_
          refine lv_ior hx hb dX10_clouds_25 ?_
          refine lv_istore_n (lv' := [(1, .int (x8 ||| (1 <<< ((nI j91) &&& 31)))), (2, .int (nI j91)), (0, .ref g)]) hx hb dX10_clouds_26 rfl hl (by decide) rfl (fun ls hl => ?_)
          refine lv_iinc (v := (nI (j91 + 1))) (lv' := [(2, .int (nI (j91 + 1))), (1, .int (x8 ||| (1 <<< ((nI j91) &&& 31)))), (0, .ref g)]) hx hb dX10_clouds_27 hl (k := 1) rfl (nI_1 j91) (by decide) rfl (fun ls hl => ?_)
          refine lv_goto (tgt := 4) hx hb dX10_clouds_30 (by decide) ?_
          exact ihj91 (j91 + 1) (x8 ||| (1 <<< ((nI j91) &&& 31))) H locs ls (by omega) (by omega) (cb_y hI0_j91 h22) (hP.sub [0, 1, 2, 3, 4, 5, 6, 7, 8, 9, 10, 11, 12, 13, 14] rfl) (hD.sub [0, 1, 2, 3, 4, 5, 6, 7, 8, 9, 10, 11, 12, 13, 14] (by decide) rfl) hS (lv_sub hl [0, 1, 2] rfl)
        · skip
          have hP : va_P D vwCl [(g, .inr (10, [.ref kk, .ref nw, .ref im, .ref kp, .ref tx, .ref tr, .ref be, .ref sh, .ref sd, .ref rf, .int ab, .int bl])), (nw, .inr (4, [.ref kk, .ref nk, .ref nd, .ref ne, .ref nm, .ref nn, .int (nI fi), .int (nI gl), .int (nI un), .int (nI mi), .int (nI no)])), (nk, .inl (y 0, 6, .inl fk)), (kk, .inl (y 5, 6, .inr (.inr (.inr (.inr fq))))), (k0, .inr (5, [])), (k1, .inr (8, [])), (k2, .inr (9, [])), (k3, .inr (6, [])), (k4, .inr (2, [])), (k5, .inr (3, [])), (nm, .inl (y 6, 4, .inr (.inr (.inr (.inr fm))))), (m0, .inl (y 0, 4, .inl m0f)), (m1, .inl (y 0, 4, .inl m1f)), (m2, .inl (y 0, 4, .inl m2f)), (m3, .inl (y 0, 4, .inl m3f))] H := hP
          have hD : va_D A [(g, .inr (10, [.ref kk, .ref nw, .ref im, .ref kp, .ref tx, .ref tr, .ref be, .ref sh, .ref sd, .ref rf, .int ab, .int bl])), (nw, .inr (4, [.ref kk, .ref nk, .ref nd, .ref ne, .ref nm, .ref nn, .int (nI fi), .int (nI gl), .int (nI un), .int (nI mi), .int (nI no)])), (nk, .inl (y 0, 6, .inl fk)), (kk, .inl (y 5, 6, .inr (.inr (.inr (.inr fq))))), (k0, .inr (5, [])), (k1, .inr (8, [])), (k2, .inr (9, [])), (k3, .inr (6, [])), (k4, .inr (2, [])), (k5, .inr (3, [])), (nm, .inl (y 6, 4, .inr (.inr (.inr (.inr fm))))), (m0, .inl (y 0, 4, .inl m0f)), (m1, .inl (y 0, 4, .inl m1f)), (m2, .inl (y 0, 4, .inl m2f)), (m3, .inl (y 0, 4, .inl m3f))] := hD
          refine lv_if_eq (tgt := 27) hx hb dX10_clouds_18 (by decide) (fun _ => ?_) (fun h9 => absurd h9 (by decide))
          refine lv_iinc (v := (nI (j91 + 1))) (lv' := [(2, .int (nI (j91 + 1))), (1, .int x8), (0, .ref g)]) hx hb dX10_clouds_27 hl (k := 0) rfl (nI_1 j91) (by decide) rfl (fun ls hl => ?_)
          refine lv_goto (tgt := 4) hx hb dX10_clouds_30 (by decide) ?_
          exact ihj91 (j91 + 1) x8 H locs ls (by omega) (by omega) (cb_n hI0_j91 h23) (hP.sub [0, 1, 2, 3, 4, 5, 6, 7, 8, 9, 10, 11, 12, 13, 14] rfl) (hD.sub [0, 1, 2, 3, 4, 5, 6, 7, 8, 9, 10, 11, 12, 13, 14] (by decide) rfl) hS (lv_sub hl [0, 1, 2] rfl)
  exact lp16 (10 + 1) 0 0 _ _ _ (by omega) (by omega) rfl hP hD hS (lv_sub hl [0, 1, 2] rfl)

set_option maxHeartbeats 4000000 in
set_option maxRecDepth 100000 in
theorem gb_notesFit_on5 (l : Launch) (D : va_G) (y : Nat → ClassId) (nw : Nat) (kk : Nat) (nk : Nat) (nd : Nat) (ne : Nat) (nm : Nat) (nn : Nat) (fi : Nat) (gl : Nat) (un : Nat) (mi : Nat) (no : Nat) (t0 : Nat) (t1 : Nat) (t2 : Nat) (t3 : Nat) (t4 : Nat) (t5 : Nat) (t0f : Nat → Int32) (t1f : Nat → Int32) (t2f : Nat → Int32) (t3f : Nat → Int32) (t4f : Nat → Int32) (t5f : Nat → Int32) (fn_ : Nat → Option Nat) (o : Nat) (x : Int32) (f : Nat → Int32) (hfi : fi ≤ 6) (hgl : gl ≤ 5) (hun : un ≤ 8) (hmi : mi ≤ 4) (hno : no ≤ 6) (hn0 : fn_ 0 = some t0) (hn1 : fn_ 1 = some t1) (hn2 : fn_ 2 = some t2) (hn3 : fn_ 3 = some t3) (hn4 : fn_ 4 = some t4) (hn5 : fn_ 5 = some t5) (hPN : kz_PN f no t0f t1f t2f t3f t4f t5f) : kw_Mi l yX4_notesFit wsX4_notesFit ({ frames := 2, cells := 0, slots := 0, locals := 83 }) D y [.ref nw, .int x, .ref o] [(nw, .inr (4, [.ref kk, .ref nk, .ref nd, .ref ne, .ref nm, .ref nn, .int (nI fi), .int (nI gl), .int (nI un), .int (nI mi), .int (nI no)])), (o, .inr (5, [])), (nn, .inl (y 6, 6, .inr (.inr (.inr (.inr fn_))))), (t0, .inl (y 0, 5, .inl t0f)), (t1, .inl (y 0, 5, .inl t1f)), (t2, .inl (y 0, 5, .inl t2f)), (t3, .inl (y 0, 5, .inl t3f)), (t4, .inl (y 0, 5, .inl t4f)), (t5, .inl (y 0, 5, .inl t5f))] (fun (r : Int32) (u : Unit) => (nt_ok f x 0 no = true ∧ r = 1) ∨ (¬ nt_ok f x 0 no = true ∧ r = 0)) (fun _ => [(nw, .inr (4, [.ref kk, .ref nk, .ref nd, .ref ne, .ref nm, .ref nn, .int (nI fi), .int (nI gl), .int (nI un), .int (nI mi), .int (nI no)])), (o, .inr (5, [])), (nn, .inl (y 6, 6, .inr (.inr (.inr (.inr fn_))))), (t0, .inl (y 0, 5, .inl t0f)), (t1, .inl (y 0, 5, .inl t1f)), (t2, .inl (y 0, 5, .inl t2f)), (t3, .inl (y 0, 5, .inl t3f)), (t4, .inl (y 0, 5, .inl t4f)), (t5, .inl (y 0, 5, .inl t5f))]) 0 0 := by
  refine kw_Mi.of (cc := cX4_notesFit) (maxL := 5) (ret := (some .boolean)) (by decide) rfl ?_
  intro pZ eZ s mZ beZ meZ cZ A hE
  obtain ⟨hx, hb, hr, hml, hts, hown, hlocks, hin, hA, hP, hD, hK, hN⟩ := hE
  have hS : va_S A s.heap s.heap [] := va_S.rf
  have hl := lv_entry ([.ref nw, .int x, .ref o]) (n := 5) (Nat.le_of_ble_eq_true rfl)
  rw [lg_entry_eq]
  generalize (lg_sl ([.ref nw, .int x, .ref o]) ++ List.replicate (5 - (lg_sl ([.ref nw, .int x, .ref o])).length) Slot.unset).toArray = ls at hl ⊢
  have hl : lv_has ls 5 [(0, .ref nw), (1, .int x), (2, .ref o)] := hl
  have fw1 := hts (.fieldLink RX4 51 "GleanDusk$Parish" "noteCount" "I") (List.mem_of_getElem? (i := 1) rfl)
  have fw2 := hts (.fieldLink RX4 31 "GleanDusk$Parish" "notes" "[[I") (List.mem_of_getElem? (i := 2) rfl)
  have iw4 : ∀ w ∈ wsX40, w ∈ wsX4_notesFit := fun _ h => List.mem_cons_of_mem _ (List.mem_append_right _ h)
  refine lv_iconst (v := 0) hx hb dX4_notesFit_0 (by decide) ?_
  refine lv_istore_n (lv' := [(3, .int 0), (0, .ref nw), (1, .int x), (2, .ref o)]) hx hb dX4_notesFit_1 rfl hl (by decide) rfl (fun ls hl => ?_)
  have lp45 : ∀ (fuj91 j91 : Nat)  (H : Heap) (locs : List Loc) (ls : Array Slot), j91 ≤ no → no - j91 < fuj91 → nt_ok f x 0 j91 = true → va_P D vwCl [(nw, .inr (4, [.ref kk, .ref nk, .ref nd, .ref ne, .ref nm, .ref nn, .int (nI fi), .int (nI gl), .int (nI un), .int (nI mi), .int (nI no)])), (o, .inr (5, [])), (nn, .inl (y 6, 6, .inr (.inr (.inr (.inr fn_))))), (t0, .inl (y 0, 5, .inl t0f)), (t1, .inl (y 0, 5, .inl t1f)), (t2, .inl (y 0, 5, .inl t2f)), (t3, .inl (y 0, 5, .inl t3f)), (t4, .inl (y 0, 5, .inl t4f)), (t5, .inl (y 0, 5, .inl t5f))] H → va_D A [(nw, .inr (4, [.ref kk, .ref nk, .ref nd, .ref ne, .ref nm, .ref nn, .int (nI fi), .int (nI gl), .int (nI un), .int (nI mi), .int (nI no)])), (o, .inr (5, [])), (nn, .inl (y 6, 6, .inr (.inr (.inr (.inr fn_))))), (t0, .inl (y 0, 5, .inl t0f)), (t1, .inl (y 0, 5, .inl t1f)), (t2, .inl (y 0, 5, .inl t2f)), (t3, .inl (y 0, 5, .inl t3f)), (t4, .inl (y 0, 5, .inl t4f)), (t5, .inl (y 0, 5, .inl t5f))] → va_S A s.heap H locs → lv_has ls 5 [(3, .int (nI j91)), (0, .ref nw), (1, .int x), (2, .ref o)] → W pZ l eZ ({ frames := 2, cells := 0, slots := 0, locals := 83 }) s mZ [.ref nw, .int x, .ref o].toArray beZ meZ cZ H locs 0 0 (MQ beZ (va_Qi (fun (r : Int32) (u : Unit) => (nt_ok f x 0 no = true ∧ r = 1) ∨ (¬ nt_ok f x 0 no = true ∧ r = 0)) (kw_B D (fun _ => [(nw, .inr (4, [.ref kk, .ref nk, .ref nd, .ref ne, .ref nm, .ref nn, .int (nI fi), .int (nI gl), .int (nI un), .int (nI mi), .int (nI no)])), (o, .inr (5, [])), (nn, .inl (y 6, 6, .inr (.inr (.inr (.inr fn_))))), (t0, .inl (y 0, 5, .inl t0f)), (t1, .inl (y 0, 5, .inl t1f)), (t2, .inl (y 0, 5, .inl t2f)), (t3, .inl (y 0, 5, .inl t3f)), (t4, .inl (y 0, 5, .inl t4f)), (t5, .inl (y 0, 5, .inl t5f))]) A) A) [.ref nw, .int x, .ref o].toArray s 0 0 A) (F0 mZ 2 ls []) := by
    intro fuj91
    induction fuj91 with
    | zero => intro j91  H locs ls hj9 hf9; exact absurd hf9 (Nat.not_lt_zero _)
    | succ fuj91 ihj91 =>
      intro j91  H locs ls hj91 hfj91 hI0_j91 hP hD hS hl
      refine lv_iload_n hx hb dX4_notesFit_2 rfl (lv_at hl 0 rfl) ?_
      refine lv_aload_n hx hb dX4_notesFit_3 rfl (lv_at hl 1 rfl) ?_
      refine va_get (D := D) (ci := 4) (v := .int (nI no)) (C := RX4) (T := TX4) (N := 11) hx hb hts iw4 hown hK hP 0 rfl rfl 10 (by decide) fw1 (fun _ h9 => h9) rfl dX4_notesFit_4 ?_
      refine lv_icmp_ge (tgt := 57) hx hb dX4_notesFit_7 (by decide) (fun h46 => ?_) (fun h47 => ?_)
      · skip
        have h46 : no ≤ j91 := (nI_leI (a := no) (b := j91) (by omega) (by omega)).mp h46
        refine lv_iconst (v := 1) hx hb dX4_notesFit_57 (by decide) ?_
        exact W.zret (v := 1) hx hb hr (by decide) (fun tZ ht hW => ⟨⟨1, (), rfl, Or.inl ⟨(show j91 = no by omega) ▸ hI0_j91, rfl⟩, by rw [ht]; exact hP.sub [0, 1, 2, 3, 4, 5, 6, 7, 8] rfl, hD.sub [0, 1, 2, 3, 4, 5, 6, 7, 8] (by decide) rfl⟩, hS.F ht⟩) hS.2.2 dX4_notesFit_58
      · skip
        have h47 : ¬ no ≤ j91 := fun q9 => h47 ((nI_leI (a := no) (b := j91) (by omega) (by omega)).mpr q9)
        refine lv_aload_n hx hb dX4_notesFit_10 rfl (lv_at hl 1 rfl) ?_
        refine va_get (D := D) (ci := 4) (v := .ref nn) (C := RX4) (T := TX4) (N := 11) hx hb hts iw4 hown hK hP 0 rfl rfl 5 (by decide) fw2 (fun _ h9 => h9) rfl dX4_notesFit_11 ?_
        refine lv_iload_n hx hb dX4_notesFit_14 rfl (lv_at hl 0 rfl) ?_
        rcases (show j91 = 0 ∨ j91 = 1 ∨ j91 = 2 ∨ j91 = 3 ∨ j91 = 4 ∨ j91 = 5 by omega) with rfl | rfl | rfl | rfl | rfl | rfl
        · skip
          refine kw_aldQ hx hb hK hP 2 6 rfl rfl (vp_in_nI (by omega) (by decide)) dX4_notesFit_15 ?_
          rw [nI_clamp (n := 0) (by omega), show va_rf (fn_ 0) = .ref t0 from congrArg va_rf hn0]
          refine lv_astore (lv' := [(4, .ref t0), (3, .int (nI 0)), (0, .ref nw), (1, .int x), (2, .ref o)]) hx hb dX4_notesFit_16 hl (by decide) rfl (fun ls hl => ?_)
          refine lv_aload hx hb dX4_notesFit_18 (lv_at hl 0 rfl) ?_
          refine lv_iconst (v := 0) hx hb dX4_notesFit_20 (by decide) ?_
          refine va_iald hx hb hK hP 3 0 rfl rfl (by unfold vp_in; decide) dX4_notesFit_21 ?_
          rw [show ((0 : Int32)).toNatClampNeg = 0 from rfl]
          refine lv_iload_n hx hb dX4_notesFit_22 rfl (lv_at hl 3 rfl) ?_
          refine lv_icmp_ne (tgt := 51) hx hb dX4_notesFit_23 (by decide) (fun h48 => ?_) (fun h49 => ?_)
          · skip
            refine lv_iinc (v := (nI 1)) (lv' := [(3, .int (nI 1)), (4, .ref t0), (0, .ref nw), (1, .int x), (2, .ref o)]) hx hb dX4_notesFit_51 hl (k := 1) rfl (nI_1 0) (by decide) rfl (fun ls hl => ?_)
            refine lv_goto (tgt := 2) hx hb dX4_notesFit_54 (by decide) ?_
            exact ihj91 1  H locs ls (by omega) (by omega) (nt_ok_s hI0_j91 (by rw [nt_row_i (hPN.1 (by omega))]; exact decide_eq_true (fun q9 => absurd q9 h48))) (hP.sub [0, 1, 2, 3, 4, 5, 6, 7, 8] rfl) (hD.sub [0, 1, 2, 3, 4, 5, 6, 7, 8] (by decide) rfl) hS (lv_sub hl [0, 2, 3, 4] rfl)
          · skip
            refine lv_aload_n hx hb dX4_notesFit_26 rfl (lv_at hl 4 rfl) ?_
            refine lv_aload hx hb dX4_notesFit_27 (lv_at hl 0 rfl) ?_
            refine lv_iconst (v := 1) hx hb dX4_notesFit_29 (by decide) ?_
            refine va_iald hx hb hK hP 3 0 rfl rfl (by unfold vp_in; decide) dX4_notesFit_30 ?_
            rw [show ((1 : Int32)).toNatClampNeg = 1 from rfl]
            refine lv_aload hx hb dX4_notesFit_31 (lv_at hl 0 rfl) ?_
            refine lv_iconst (v := 2) hx hb dX4_notesFit_33 (by decide) ?_
            refine va_iald hx hb hK hP 3 0 rfl rfl (by unfold vp_in; decide) dX4_notesFit_34 ?_
            rw [show ((2 : Int32)).toNatClampNeg = 2 from rfl]
            refine lv_aload hx hb dX4_notesFit_35 (lv_at hl 0 rfl) ?_
            refine lv_iconst (v := 3) hx hb dX4_notesFit_37 (by decide) ?_
            refine va_iald hx hb hK hP 3 0 rfl rfl (by unfold vp_in; decide) dX4_notesFit_38 ?_
            rw [show ((3 : Int32)).toNatClampNeg = 3 from rfl]
            have hs50 : kw_Split [(nw, .inr (4, [.ref kk, .ref nk, .ref nd, .ref ne, .ref nm, .ref nn, .int (nI fi), .int (nI gl), .int (nI un), .int (nI mi), .int (nI no)])), (o, .inr (5, [])), (nn, .inl (y 6, 6, .inr (.inr (.inr (.inr fn_))))), (t0, .inl (y 0, 5, .inl t0f)), (t1, .inl (y 0, 5, .inl t1f)), (t2, .inl (y 0, 5, .inl t2f)), (t3, .inl (y 0, 5, .inl t3f)), (t4, .inl (y 0, 5, .inl t4f)), (t5, .inl (y 0, 5, .inl t5f))] [(o, .inr (5, []))] [(nw, .inr (4, [.ref kk, .ref nk, .ref nd, .ref ne, .ref nm, .ref nn, .int (nI fi), .int (nI gl), .int (nI un), .int (nI mi), .int (nI no)])), (nn, .inl (y 6, 6, .inr (.inr (.inr (.inr fn_))))), (t0, .inl (y 0, 5, .inl t0f)), (t1, .inl (y 0, 5, .inl t1f)), (t2, .inl (y 0, 5, .inl t2f)), (t3, .inl (y 0, 5, .inl t3f)), (t4, .inl (y 0, 5, .inl t4f)), (t5, .inl (y 0, 5, .inl t5f))] [1] [0, 2, 3, 4, 5, 6, 7, 8] := ⟨rfl, rfl, rfl, rfl, rfl, by decide⟩
            refine kw_go_i hs50 hP hD hS hA (va_runV (As := [.int (t0f 1), .int (t0f 2), .int (t0f 3)]) (rest := []) ⟨hx, hb, hml, hown, hts⟩ (gb_Plain_on5 l D y o (t0f 1) (t0f 2) (t0f 3)  _) (cwV 3 hts gX4_notesFit_X5_sight rfl rfl rfl (by decide +kernel) ⟨Nat.le_of_ble_eq_true rfl, Nat.le_of_ble_eq_true rfl⟩) (kw_PreV (ci := 5) (q0 := 1) hs50 hP hD hK hN rfl rfl) rfl rfl hl.1 rfl (lv_room (Nat.le_of_ble_eq_true rfl)) dX4_notesFit_39 ⟨Nat.le_of_ble_eq_true rfl, Nat.le_of_ble_eq_true rfl⟩) (fun r51 u52 H locs hq hP hD hS => ?_)
            obtain rfl := hq
            have hP : va_P D vwCl [(nw, .inr (4, [.ref kk, .ref nk, .ref nd, .ref ne, .ref nm, .ref nn, .int (nI fi), .int (nI gl), .int (nI un), .int (nI mi), .int (nI no)])), (nn, .inl (y 6, 6, .inr (.inr (.inr (.inr fn_))))), (t0, .inl (y 0, 5, .inl t0f)), (t1, .inl (y 0, 5, .inl t1f)), (t2, .inl (y 0, 5, .inl t2f)), (t3, .inl (y 0, 5, .inl t3f)), (t4, .inl (y 0, 5, .inl t4f)), (t5, .inl (y 0, 5, .inl t5f)), (o, .inr (5, []))] H := hP
            have hD : va_D A [(nw, .inr (4, [.ref kk, .ref nk, .ref nd, .ref ne, .ref nm, .ref nn, .int (nI fi), .int (nI gl), .int (nI un), .int (nI mi), .int (nI no)])), (nn, .inl (y 6, 6, .inr (.inr (.inr (.inr fn_))))), (t0, .inl (y 0, 5, .inl t0f)), (t1, .inl (y 0, 5, .inl t1f)), (t2, .inl (y 0, 5, .inl t2f)), (t3, .inl (y 0, 5, .inl t3f)), (t4, .inl (y 0, 5, .inl t4f)), (t5, .inl (y 0, 5, .inl t5f)), (o, .inr (5, []))] := hD
            refine lv_aload hx hb dX4_notesFit_42 (lv_at hl 0 rfl) ?_
            refine lv_iconst (v := 4) hx hb dX4_notesFit_44 (by decide) ?_
            refine va_iald hx hb hK hP 2 0 rfl rfl (by unfold vp_in; decide) dX4_notesFit_45 ?_
            rw [show ((4 : Int32)).toNatClampNeg = 4 from rfl]
            refine lv_icmp_eq (tgt := 51) hx hb dX4_notesFit_46 (by decide) (fun h53 => ?_) (fun h54 => ?_)
            · skip
              refine lv_iinc (v := (nI 1)) (lv' := [(3, .int (nI 1)), (4, .ref t0), (0, .ref nw), (1, .int x), (2, .ref o)]) hx hb dX4_notesFit_51 hl (k := 1) rfl (nI_1 0) (by decide) rfl (fun ls hl => ?_)
              refine lv_goto (tgt := 2) hx hb dX4_notesFit_54 (by decide) ?_
              exact ihj91 1  H locs ls (by omega) (by omega) (nt_ok_s hI0_j91 (by rw [nt_row_i (hPN.1 (by omega))]; exact decide_eq_true (fun _ => h53))) (hP.sub [0, 8, 1, 2, 3, 4, 5, 6, 7] rfl) (hD.sub [0, 8, 1, 2, 3, 4, 5, 6, 7] (by decide) rfl) hS (lv_sub hl [0, 2, 3, 4] rfl)
            · skip
              refine lv_iconst (v := 0) hx hb dX4_notesFit_49 (by decide) ?_
              exact W.zret (v := 0) hx hb hr (by decide) (fun tZ ht hW => ⟨⟨0, (), rfl, Or.inr (⟨nt_ok_f (j := 0) (by omega) (by rw [nt_row_i (hPN.1 (by omega))]; exact fun q9 => h54 (of_decide_eq_true q9 h49)), rfl⟩), by rw [ht]; exact hP.sub [0, 8, 1, 2, 3, 4, 5, 6, 7] rfl, hD.sub [0, 8, 1, 2, 3, 4, 5, 6, 7] (by decide) rfl⟩, hS.F ht⟩) hS.2.2 dX4_notesFit_50
        · skip
          refine kw_aldQ hx hb hK hP 2 6 rfl rfl (vp_in_nI (by omega) (by decide)) dX4_notesFit_15 ?_
          rw [nI_clamp (n := 1) (by omega), show va_rf (fn_ 1) = .ref t1 from congrArg va_rf hn1]
          refine lv_astore (lv' := [(4, .ref t1), (3, .int (nI 1)), (0, .ref nw), (1, .int x), (2, .ref o)]) hx hb dX4_notesFit_16 hl (by decide) rfl (fun ls hl => ?_)
          refine lv_aload hx hb dX4_notesFit_18 (lv_at hl 0 rfl) ?_
          refine lv_iconst (v := 0) hx hb dX4_notesFit_20 (by decide) ?_
          refine va_iald hx hb hK hP 4 0 rfl rfl (by unfold vp_in; decide) dX4_notesFit_21 ?_
          rw [show ((0 : Int32)).toNatClampNeg = 0 from rfl]
          refine lv_iload_n hx hb dX4_notesFit_22 rfl (lv_at hl 3 rfl) ?_
          refine lv_icmp_ne (tgt := 51) hx hb dX4_notesFit_23 (by decide) (fun h55 => ?_) (fun h56 => ?_)
          · skip
            refine lv_iinc (v := (nI 2)) (lv' := [(3, .int (nI 2)), (4, .ref t1), (0, .ref nw), (1, .int x), (2, .ref o)]) hx hb dX4_notesFit_51 hl (k := 1) rfl (nI_1 1) (by decide) rfl (fun ls hl => ?_)
            refine lv_goto (tgt := 2) hx hb dX4_notesFit_54 (by decide) ?_
            exact ihj91 2  H locs ls (by omega) (by omega) (nt_ok_s hI0_j91 (by rw [nt_row_i (hPN.2.1 (by omega))]; exact decide_eq_true (fun q9 => absurd q9 h55))) (hP.sub [0, 1, 2, 3, 4, 5, 6, 7, 8] rfl) (hD.sub [0, 1, 2, 3, 4, 5, 6, 7, 8] (by decide) rfl) hS (lv_sub hl [0, 2, 3, 4] rfl)
          · skip
            refine lv_aload_n hx hb dX4_notesFit_26 rfl (lv_at hl 4 rfl) ?_
            refine lv_aload hx hb dX4_notesFit_27 (lv_at hl 0 rfl) ?_
            refine lv_iconst (v := 1) hx hb dX4_notesFit_29 (by decide) ?_
            refine va_iald hx hb hK hP 4 0 rfl rfl (by unfold vp_in; decide) dX4_notesFit_30 ?_
            rw [show ((1 : Int32)).toNatClampNeg = 1 from rfl]
            refine lv_aload hx hb dX4_notesFit_31 (lv_at hl 0 rfl) ?_
            refine lv_iconst (v := 2) hx hb dX4_notesFit_33 (by decide) ?_
            refine va_iald hx hb hK hP 4 0 rfl rfl (by unfold vp_in; decide) dX4_notesFit_34 ?_
            rw [show ((2 : Int32)).toNatClampNeg = 2 from rfl]
            refine lv_aload hx hb dX4_notesFit_35 (lv_at hl 0 rfl) ?_
            refine lv_iconst (v := 3) hx hb dX4_notesFit_37 (by decide) ?_
            refine va_iald hx hb hK hP 4 0 rfl rfl (by unfold vp_in; decide) dX4_notesFit_38 ?_
            rw [show ((3 : Int32)).toNatClampNeg = 3 from rfl]
            have hs57 : kw_Split [(nw, .inr (4, [.ref kk, .ref nk, .ref nd, .ref ne, .ref nm, .ref nn, .int (nI fi), .int (nI gl), .int (nI un), .int (nI mi), .int (nI no)])), (o, .inr (5, [])), (nn, .inl (y 6, 6, .inr (.inr (.inr (.inr fn_))))), (t0, .inl (y 0, 5, .inl t0f)), (t1, .inl (y 0, 5, .inl t1f)), (t2, .inl (y 0, 5, .inl t2f)), (t3, .inl (y 0, 5, .inl t3f)), (t4, .inl (y 0, 5, .inl t4f)), (t5, .inl (y 0, 5, .inl t5f))] [(o, .inr (5, []))] [(nw, .inr (4, [.ref kk, .ref nk, .ref nd, .ref ne, .ref nm, .ref nn, .int (nI fi), .int (nI gl), .int (nI un), .int (nI mi), .int (nI no)])), (nn, .inl (y 6, 6, .inr (.inr (.inr (.inr fn_))))), (t0, .inl (y 0, 5, .inl t0f)), (t1, .inl (y 0, 5, .inl t1f)), (t2, .inl (y 0, 5, .inl t2f)), (t3, .inl (y 0, 5, .inl t3f)), (t4, .inl (y 0, 5, .inl t4f)), (t5, .inl (y 0, 5, .inl t5f))] [1] [0, 2, 3, 4, 5, 6, 7, 8] := ⟨rfl, rfl, rfl, rfl, rfl, by decide⟩
            refine kw_go_i hs57 hP hD hS hA (va_runV (As := [.int (t1f 1), .int (t1f 2), .int (t1f 3)]) (rest := []) ⟨hx, hb, hml, hown, hts⟩ (gb_Plain_on5 l D y o (t1f 1) (t1f 2) (t1f 3)  _) (cwV 3 hts gX4_notesFit_X5_sight rfl rfl rfl (by decide +kernel) ⟨Nat.le_of_ble_eq_true rfl, Nat.le_of_ble_eq_true rfl⟩) (kw_PreV (ci := 5) (q0 := 1) hs57 hP hD hK hN rfl rfl) rfl rfl hl.1 rfl (lv_room (Nat.le_of_ble_eq_true rfl)) dX4_notesFit_39 ⟨Nat.le_of_ble_eq_true rfl, Nat.le_of_ble_eq_true rfl⟩) (fun r58 u59 H locs hq hP hD hS => ?_)
            obtain rfl := hq
            have hP : va_P D vwCl [(nw, .inr (4, [.ref kk, .ref nk, .ref nd, .ref ne, .ref nm, .ref nn, .int (nI fi), .int (nI gl), .int (nI un), .int (nI mi), .int (nI no)])), (nn, .inl (y 6, 6, .inr (.inr (.inr (.inr fn_))))), (t0, .inl (y 0, 5, .inl t0f)), (t1, .inl (y 0, 5, .inl t1f)), (t2, .inl (y 0, 5, .inl t2f)), (t3, .inl (y 0, 5, .inl t3f)), (t4, .inl (y 0, 5, .inl t4f)), (t5, .inl (y 0, 5, .inl t5f)), (o, .inr (5, []))] H := hP
            have hD : va_D A [(nw, .inr (4, [.ref kk, .ref nk, .ref nd, .ref ne, .ref nm, .ref nn, .int (nI fi), .int (nI gl), .int (nI un), .int (nI mi), .int (nI no)])), (nn, .inl (y 6, 6, .inr (.inr (.inr (.inr fn_))))), (t0, .inl (y 0, 5, .inl t0f)), (t1, .inl (y 0, 5, .inl t1f)), (t2, .inl (y 0, 5, .inl t2f)), (t3, .inl (y 0, 5, .inl t3f)), (t4, .inl (y 0, 5, .inl t4f)), (t5, .inl (y 0, 5, .inl t5f)), (o, .inr (5, []))] := hD
            refine lv_aload hx hb dX4_notesFit_42 (lv_at hl 0 rfl) ?_
            refine lv_iconst (v := 4) hx hb dX4_notesFit_44 (by decide) ?_
            refine va_iald hx hb hK hP 3 0 rfl rfl (by unfold vp_in; decide) dX4_notesFit_45 ?_
            rw [show ((4 : Int32)).toNatClampNeg = 4 from rfl]
            refine lv_icmp_eq (tgt := 51) hx hb dX4_notesFit_46 (by decide) (fun h60 => ?_) (fun h61 => ?_)
            · skip
              refine lv_iinc (v := (nI 2)) (lv' := [(3, .int (nI 2)), (4, .ref t1), (0, .ref nw), (1, .int x), (2, .ref o)]) hx hb dX4_notesFit_51 hl (k := 1) rfl (nI_1 1) (by decide) rfl (fun ls hl => ?_)
              refine lv_goto (tgt := 2) hx hb dX4_notesFit_54 (by decide) ?_
              exact ihj91 2  H locs ls (by omega) (by omega) (nt_ok_s hI0_j91 (by rw [nt_row_i (hPN.2.1 (by omega))]; exact decide_eq_true (fun _ => h60))) (hP.sub [0, 8, 1, 2, 3, 4, 5, 6, 7] rfl) (hD.sub [0, 8, 1, 2, 3, 4, 5, 6, 7] (by decide) rfl) hS (lv_sub hl [0, 2, 3, 4] rfl)
            · skip
              refine lv_iconst (v := 0) hx hb dX4_notesFit_49 (by decide) ?_
              exact W.zret (v := 0) hx hb hr (by decide) (fun tZ ht hW => ⟨⟨0, (), rfl, Or.inr (⟨nt_ok_f (j := 1) (by omega) (by rw [nt_row_i (hPN.2.1 (by omega))]; exact fun q9 => h61 (of_decide_eq_true q9 h56)), rfl⟩), by rw [ht]; exact hP.sub [0, 8, 1, 2, 3, 4, 5, 6, 7] rfl, hD.sub [0, 8, 1, 2, 3, 4, 5, 6, 7] (by decide) rfl⟩, hS.F ht⟩) hS.2.2 dX4_notesFit_50
        · skip
          refine kw_aldQ hx hb hK hP 2 6 rfl rfl (vp_in_nI (by omega) (by decide)) dX4_notesFit_15 ?_
          rw [nI_clamp (n := 2) (by omega), show va_rf (fn_ 2) = .ref t2 from congrArg va_rf hn2]
          refine lv_astore (lv' := [(4, .ref t2), (3, .int (nI 2)), (0, .ref nw), (1, .int x), (2, .ref o)]) hx hb dX4_notesFit_16 hl (by decide) rfl (fun ls hl => ?_)
          refine lv_aload hx hb dX4_notesFit_18 (lv_at hl 0 rfl) ?_
          refine lv_iconst (v := 0) hx hb dX4_notesFit_20 (by decide) ?_
          refine va_iald hx hb hK hP 5 0 rfl rfl (by unfold vp_in; decide) dX4_notesFit_21 ?_
          rw [show ((0 : Int32)).toNatClampNeg = 0 from rfl]
          refine lv_iload_n hx hb dX4_notesFit_22 rfl (lv_at hl 3 rfl) ?_
          refine lv_icmp_ne (tgt := 51) hx hb dX4_notesFit_23 (by decide) (fun h62 => ?_) (fun h63 => ?_)
          · skip
            refine lv_iinc (v := (nI 3)) (lv' := [(3, .int (nI 3)), (4, .ref t2), (0, .ref nw), (1, .int x), (2, .ref o)]) hx hb dX4_notesFit_51 hl (k := 1) rfl (nI_1 2) (by decide) rfl (fun ls hl => ?_)
            refine lv_goto (tgt := 2) hx hb dX4_notesFit_54 (by decide) ?_
            exact ihj91 3  H locs ls (by omega) (by omega) (nt_ok_s hI0_j91 (by rw [nt_row_i (hPN.2.2.1 (by omega))]; exact decide_eq_true (fun q9 => absurd q9 h62))) (hP.sub [0, 1, 2, 3, 4, 5, 6, 7, 8] rfl) (hD.sub [0, 1, 2, 3, 4, 5, 6, 7, 8] (by decide) rfl) hS (lv_sub hl [0, 2, 3, 4] rfl)
          · skip
            refine lv_aload_n hx hb dX4_notesFit_26 rfl (lv_at hl 4 rfl) ?_
            refine lv_aload hx hb dX4_notesFit_27 (lv_at hl 0 rfl) ?_
            refine lv_iconst (v := 1) hx hb dX4_notesFit_29 (by decide) ?_
            refine va_iald hx hb hK hP 5 0 rfl rfl (by unfold vp_in; decide) dX4_notesFit_30 ?_
            rw [show ((1 : Int32)).toNatClampNeg = 1 from rfl]
            refine lv_aload hx hb dX4_notesFit_31 (lv_at hl 0 rfl) ?_
            refine lv_iconst (v := 2) hx hb dX4_notesFit_33 (by decide) ?_
            refine va_iald hx hb hK hP 5 0 rfl rfl (by unfold vp_in; decide) dX4_notesFit_34 ?_
            rw [show ((2 : Int32)).toNatClampNeg = 2 from rfl]
            refine lv_aload hx hb dX4_notesFit_35 (lv_at hl 0 rfl) ?_
            refine lv_iconst (v := 3) hx hb dX4_notesFit_37 (by decide) ?_
            refine va_iald hx hb hK hP 5 0 rfl rfl (by unfold vp_in; decide) dX4_notesFit_38 ?_
            rw [show ((3 : Int32)).toNatClampNeg = 3 from rfl]
            have hs64 : kw_Split [(nw, .inr (4, [.ref kk, .ref nk, .ref nd, .ref ne, .ref nm, .ref nn, .int (nI fi), .int (nI gl), .int (nI un), .int (nI mi), .int (nI no)])), (o, .inr (5, [])), (nn, .inl (y 6, 6, .inr (.inr (.inr (.inr fn_))))), (t0, .inl (y 0, 5, .inl t0f)), (t1, .inl (y 0, 5, .inl t1f)), (t2, .inl (y 0, 5, .inl t2f)), (t3, .inl (y 0, 5, .inl t3f)), (t4, .inl (y 0, 5, .inl t4f)), (t5, .inl (y 0, 5, .inl t5f))] [(o, .inr (5, []))] [(nw, .inr (4, [.ref kk, .ref nk, .ref nd, .ref ne, .ref nm, .ref nn, .int (nI fi), .int (nI gl), .int (nI un), .int (nI mi), .int (nI no)])), (nn, .inl (y 6, 6, .inr (.inr (.inr (.inr fn_))))), (t0, .inl (y 0, 5, .inl t0f)), (t1, .inl (y 0, 5, .inl t1f)), (t2, .inl (y 0, 5, .inl t2f)), (t3, .inl (y 0, 5, .inl t3f)), (t4, .inl (y 0, 5, .inl t4f)), (t5, .inl (y 0, 5, .inl t5f))] [1] [0, 2, 3, 4, 5, 6, 7, 8] := ⟨rfl, rfl, rfl, rfl, rfl, by decide⟩
            refine kw_go_i hs64 hP hD hS hA (va_runV (As := [.int (t2f 1), .int (t2f 2), .int (t2f 3)]) (rest := []) ⟨hx, hb, hml, hown, hts⟩ (gb_Plain_on5 l D y o (t2f 1) (t2f 2) (t2f 3)  _) (cwV 3 hts gX4_notesFit_X5_sight rfl rfl rfl (by decide +kernel) ⟨Nat.le_of_ble_eq_true rfl, Nat.le_of_ble_eq_true rfl⟩) (kw_PreV (ci := 5) (q0 := 1) hs64 hP hD hK hN rfl rfl) rfl rfl hl.1 rfl (lv_room (Nat.le_of_ble_eq_true rfl)) dX4_notesFit_39 ⟨Nat.le_of_ble_eq_true rfl, Nat.le_of_ble_eq_true rfl⟩) (fun r65 u66 H locs hq hP hD hS => ?_)
            obtain rfl := hq
            have hP : va_P D vwCl [(nw, .inr (4, [.ref kk, .ref nk, .ref nd, .ref ne, .ref nm, .ref nn, .int (nI fi), .int (nI gl), .int (nI un), .int (nI mi), .int (nI no)])), (nn, .inl (y 6, 6, .inr (.inr (.inr (.inr fn_))))), (t0, .inl (y 0, 5, .inl t0f)), (t1, .inl (y 0, 5, .inl t1f)), (t2, .inl (y 0, 5, .inl t2f)), (t3, .inl (y 0, 5, .inl t3f)), (t4, .inl (y 0, 5, .inl t4f)), (t5, .inl (y 0, 5, .inl t5f)), (o, .inr (5, []))] H := hP
            have hD : va_D A [(nw, .inr (4, [.ref kk, .ref nk, .ref nd, .ref ne, .ref nm, .ref nn, .int (nI fi), .int (nI gl), .int (nI un), .int (nI mi), .int (nI no)])), (nn, .inl (y 6, 6, .inr (.inr (.inr (.inr fn_))))), (t0, .inl (y 0, 5, .inl t0f)), (t1, .inl (y 0, 5, .inl t1f)), (t2, .inl (y 0, 5, .inl t2f)), (t3, .inl (y 0, 5, .inl t3f)), (t4, .inl (y 0, 5, .inl t4f)), (t5, .inl (y 0, 5, .inl t5f)), (o, .inr (5, []))] := hD
            refine lv_aload hx hb dX4_notesFit_42 (lv_at hl 0 rfl) ?_
            refine lv_iconst (v := 4) hx hb dX4_notesFit_44 (by decide) ?_
            refine va_iald hx hb hK hP 4 0 rfl rfl (by unfold vp_in; decide) dX4_notesFit_45 ?_
            rw [show ((4 : Int32)).toNatClampNeg = 4 from rfl]
            refine lv_icmp_eq (tgt := 51) hx hb dX4_notesFit_46 (by decide) (fun h67 => ?_) (fun h68 => ?_)
            · skip
              refine lv_iinc (v := (nI 3)) (lv' := [(3, .int (nI 3)), (4, .ref t2), (0, .ref nw), (1, .int x), (2, .ref o)]) hx hb dX4_notesFit_51 hl (k := 1) rfl (nI_1 2) (by decide) rfl (fun ls hl => ?_)
              refine lv_goto (tgt := 2) hx hb dX4_notesFit_54 (by decide) ?_
              exact ihj91 3  H locs ls (by omega) (by omega) (nt_ok_s hI0_j91 (by rw [nt_row_i (hPN.2.2.1 (by omega))]; exact decide_eq_true (fun _ => h67))) (hP.sub [0, 8, 1, 2, 3, 4, 5, 6, 7] rfl) (hD.sub [0, 8, 1, 2, 3, 4, 5, 6, 7] (by decide) rfl) hS (lv_sub hl [0, 2, 3, 4] rfl)
            · skip
              refine lv_iconst (v := 0) hx hb dX4_notesFit_49 (by decide) ?_
              exact W.zret (v := 0) hx hb hr (by decide) (fun tZ ht hW => ⟨⟨0, (), rfl, Or.inr (⟨nt_ok_f (j := 2) (by omega) (by rw [nt_row_i (hPN.2.2.1 (by omega))]; exact fun q9 => h68 (of_decide_eq_true q9 h63)), rfl⟩), by rw [ht]; exact hP.sub [0, 8, 1, 2, 3, 4, 5, 6, 7] rfl, hD.sub [0, 8, 1, 2, 3, 4, 5, 6, 7] (by decide) rfl⟩, hS.F ht⟩) hS.2.2 dX4_notesFit_50
        · skip
          refine kw_aldQ hx hb hK hP 2 6 rfl rfl (vp_in_nI (by omega) (by decide)) dX4_notesFit_15 ?_
          rw [nI_clamp (n := 3) (by omega), show va_rf (fn_ 3) = .ref t3 from congrArg va_rf hn3]
          refine lv_astore (lv' := [(4, .ref t3), (3, .int (nI 3)), (0, .ref nw), (1, .int x), (2, .ref o)]) hx hb dX4_notesFit_16 hl (by decide) rfl (fun ls hl => ?_)
          refine lv_aload hx hb dX4_notesFit_18 (lv_at hl 0 rfl) ?_
          refine lv_iconst (v := 0) hx hb dX4_notesFit_20 (by decide) ?_
          refine va_iald hx hb hK hP 6 0 rfl rfl (by unfold vp_in; decide) dX4_notesFit_21 ?_
          rw [show ((0 : Int32)).toNatClampNeg = 0 from rfl]
          refine lv_iload_n hx hb dX4_notesFit_22 rfl (lv_at hl 3 rfl) ?_
          refine lv_icmp_ne (tgt := 51) hx hb dX4_notesFit_23 (by decide) (fun h69 => ?_) (fun h70 => ?_)
          · skip
            refine lv_iinc (v := (nI 4)) (lv' := [(3, .int (nI 4)), (4, .ref t3), (0, .ref nw), (1, .int x), (2, .ref o)]) hx hb dX4_notesFit_51 hl (k := 1) rfl (nI_1 3) (by decide) rfl (fun ls hl => ?_)
            refine lv_goto (tgt := 2) hx hb dX4_notesFit_54 (by decide) ?_
            exact ihj91 4  H locs ls (by omega) (by omega) (nt_ok_s hI0_j91 (by rw [nt_row_i (hPN.2.2.2.1 (by omega))]; exact decide_eq_true (fun q9 => absurd q9 h69))) (hP.sub [0, 1, 2, 3, 4, 5, 6, 7, 8] rfl) (hD.sub [0, 1, 2, 3, 4, 5, 6, 7, 8] (by decide) rfl) hS (lv_sub hl [0, 2, 3, 4] rfl)
          · skip
            refine lv_aload_n hx hb dX4_notesFit_26 rfl (lv_at hl 4 rfl) ?_
            refine lv_aload hx hb dX4_notesFit_27 (lv_at hl 0 rfl) ?_
            refine lv_iconst (v := 1) hx hb dX4_notesFit_29 (by decide) ?_
            refine va_iald hx hb hK hP 6 0 rfl rfl (by unfold vp_in; decide) dX4_notesFit_30 ?_
            rw [show ((1 : Int32)).toNatClampNeg = 1 from rfl]
            refine lv_aload hx hb dX4_notesFit_31 (lv_at hl 0 rfl) ?_
            refine lv_iconst (v := 2) hx hb dX4_notesFit_33 (by decide) ?_
            refine va_iald hx hb hK hP 6 0 rfl rfl (by unfold vp_in; decide) dX4_notesFit_34 ?_
            rw [show ((2 : Int32)).toNatClampNeg = 2 from rfl]
            refine lv_aload hx hb dX4_notesFit_35 (lv_at hl 0 rfl) ?_
            refine lv_iconst (v := 3) hx hb dX4_notesFit_37 (by decide) ?_
            refine va_iald hx hb hK hP 6 0 rfl rfl (by unfold vp_in; decide) dX4_notesFit_38 ?_
            rw [show ((3 : Int32)).toNatClampNeg = 3 from rfl]
            have hs71 : kw_Split [(nw, .inr (4, [.ref kk, .ref nk, .ref nd, .ref ne, .ref nm, .ref nn, .int (nI fi), .int (nI gl), .int (nI un), .int (nI mi), .int (nI no)])), (o, .inr (5, [])), (nn, .inl (y 6, 6, .inr (.inr (.inr (.inr fn_))))), (t0, .inl (y 0, 5, .inl t0f)), (t1, .inl (y 0, 5, .inl t1f)), (t2, .inl (y 0, 5, .inl t2f)), (t3, .inl (y 0, 5, .inl t3f)), (t4, .inl (y 0, 5, .inl t4f)), (t5, .inl (y 0, 5, .inl t5f))] [(o, .inr (5, []))] [(nw, .inr (4, [.ref kk, .ref nk, .ref nd, .ref ne, .ref nm, .ref nn, .int (nI fi), .int (nI gl), .int (nI un), .int (nI mi), .int (nI no)])), (nn, .inl (y 6, 6, .inr (.inr (.inr (.inr fn_))))), (t0, .inl (y 0, 5, .inl t0f)), (t1, .inl (y 0, 5, .inl t1f)), (t2, .inl (y 0, 5, .inl t2f)), (t3, .inl (y 0, 5, .inl t3f)), (t4, .inl (y 0, 5, .inl t4f)), (t5, .inl (y 0, 5, .inl t5f))] [1] [0, 2, 3, 4, 5, 6, 7, 8] := ⟨rfl, rfl, rfl, rfl, rfl, by decide⟩
            refine kw_go_i hs71 hP hD hS hA (va_runV (As := [.int (t3f 1), .int (t3f 2), .int (t3f 3)]) (rest := []) ⟨hx, hb, hml, hown, hts⟩ (gb_Plain_on5 l D y o (t3f 1) (t3f 2) (t3f 3)  _) (cwV 3 hts gX4_notesFit_X5_sight rfl rfl rfl (by decide +kernel) ⟨Nat.le_of_ble_eq_true rfl, Nat.le_of_ble_eq_true rfl⟩) (kw_PreV (ci := 5) (q0 := 1) hs71 hP hD hK hN rfl rfl) rfl rfl hl.1 rfl (lv_room (Nat.le_of_ble_eq_true rfl)) dX4_notesFit_39 ⟨Nat.le_of_ble_eq_true rfl, Nat.le_of_ble_eq_true rfl⟩) (fun r72 u73 H locs hq hP hD hS => ?_)
            obtain rfl := hq
            have hP : va_P D vwCl [(nw, .inr (4, [.ref kk, .ref nk, .ref nd, .ref ne, .ref nm, .ref nn, .int (nI fi), .int (nI gl), .int (nI un), .int (nI mi), .int (nI no)])), (nn, .inl (y 6, 6, .inr (.inr (.inr (.inr fn_))))), (t0, .inl (y 0, 5, .inl t0f)), (t1, .inl (y 0, 5, .inl t1f)), (t2, .inl (y 0, 5, .inl t2f)), (t3, .inl (y 0, 5, .inl t3f)), (t4, .inl (y 0, 5, .inl t4f)), (t5, .inl (y 0, 5, .inl t5f)), (o, .inr (5, []))] H := hP
            have hD : va_D A [(nw, .inr (4, [.ref kk, .ref nk, .ref nd, .ref ne, .ref nm, .ref nn, .int (nI fi), .int (nI gl), .int (nI un), .int (nI mi), .int (nI no)])), (nn, .inl (y 6, 6, .inr (.inr (.inr (.inr fn_))))), (t0, .inl (y 0, 5, .inl t0f)), (t1, .inl (y 0, 5, .inl t1f)), (t2, .inl (y 0, 5, .inl t2f)), (t3, .inl (y 0, 5, .inl t3f)), (t4, .inl (y 0, 5, .inl t4f)), (t5, .inl (y 0, 5, .inl t5f)), (o, .inr (5, []))] := hD
            refine lv_aload hx hb dX4_notesFit_42 (lv_at hl 0 rfl) ?_
            refine lv_iconst (v := 4) hx hb dX4_notesFit_44 (by decide) ?_
            refine va_iald hx hb hK hP 5 0 rfl rfl (by unfold vp_in; decide) dX4_notesFit_45 ?_
            rw [show ((4 : Int32)).toNatClampNeg = 4 from rfl]
            refine lv_icmp_eq (tgt := 51) hx hb dX4_notesFit_46 (by decide) (fun h74 => ?_) (fun h75 => ?_)
            · skip
              refine lv_iinc (v := (nI 4)) (lv' := [(3, .int (nI 4)), (4, .ref t3), (0, .ref nw), (1, .int x), (2, .ref o)]) hx hb dX4_notesFit_51 hl (k := 1) rfl (nI_1 3) (by decide) rfl (fun ls hl => ?_)
              refine lv_goto (tgt := 2) hx hb dX4_notesFit_54 (by decide) ?_
              exact ihj91 4  H locs ls (by omega) (by omega) (nt_ok_s hI0_j91 (by rw [nt_row_i (hPN.2.2.2.1 (by omega))]; exact decide_eq_true (fun _ => h74))) (hP.sub [0, 8, 1, 2, 3, 4, 5, 6, 7] rfl) (hD.sub [0, 8, 1, 2, 3, 4, 5, 6, 7] (by decide) rfl) hS (lv_sub hl [0, 2, 3, 4] rfl)
            · skip
              refine lv_iconst (v := 0) hx hb dX4_notesFit_49 (by decide) ?_
              exact W.zret (v := 0) hx hb hr (by decide) (fun tZ ht hW => ⟨⟨0, (), rfl, Or.inr (⟨nt_ok_f (j := 3) (by omega) (by rw [nt_row_i (hPN.2.2.2.1 (by omega))]; exact fun q9 => h75 (of_decide_eq_true q9 h70)), rfl⟩), by rw [ht]; exact hP.sub [0, 8, 1, 2, 3, 4, 5, 6, 7] rfl, hD.sub [0, 8, 1, 2, 3, 4, 5, 6, 7] (by decide) rfl⟩, hS.F ht⟩) hS.2.2 dX4_notesFit_50
        · skip
          refine kw_aldQ hx hb hK hP 2 6 rfl rfl (vp_in_nI (by omega) (by decide)) dX4_notesFit_15 ?_
          rw [nI_clamp (n := 4) (by omega), show va_rf (fn_ 4) = .ref t4 from congrArg va_rf hn4]
          refine lv_astore (lv' := [(4, .ref t4), (3, .int (nI 4)), (0, .ref nw), (1, .int x), (2, .ref o)]) hx hb dX4_notesFit_16 hl (by decide) rfl (fun ls hl => ?_)
          refine lv_aload hx hb dX4_notesFit_18 (lv_at hl 0 rfl) ?_
          refine lv_iconst (v := 0) hx hb dX4_notesFit_20 (by decide) ?_
          refine va_iald hx hb hK hP 7 0 rfl rfl (by unfold vp_in; decide) dX4_notesFit_21 ?_
          rw [show ((0 : Int32)).toNatClampNeg = 0 from rfl]
          refine lv_iload_n hx hb dX4_notesFit_22 rfl (lv_at hl 3 rfl) ?_
          refine lv_icmp_ne (tgt := 51) hx hb dX4_notesFit_23 (by decide) (fun h76 => ?_) (fun h77 => ?_)
          · skip
            refine lv_iinc (v := (nI 5)) (lv' := [(3, .int (nI 5)), (4, .ref t4), (0, .ref nw), (1, .int x), (2, .ref o)]) hx hb dX4_notesFit_51 hl (k := 1) rfl (nI_1 4) (by decide) rfl (fun ls hl => ?_)
            refine lv_goto (tgt := 2) hx hb dX4_notesFit_54 (by decide) ?_
            exact ihj91 5  H locs ls (by omega) (by omega) (nt_ok_s hI0_j91 (by rw [nt_row_i (hPN.2.2.2.2.1 (by omega))]; exact decide_eq_true (fun q9 => absurd q9 h76))) (hP.sub [0, 1, 2, 3, 4, 5, 6, 7, 8] rfl) (hD.sub [0, 1, 2, 3, 4, 5, 6, 7, 8] (by decide) rfl) hS (lv_sub hl [0, 2, 3, 4] rfl)
          · skip
            refine lv_aload_n hx hb dX4_notesFit_26 rfl (lv_at hl 4 rfl) ?_
            refine lv_aload hx hb dX4_notesFit_27 (lv_at hl 0 rfl) ?_
            refine lv_iconst (v := 1) hx hb dX4_notesFit_29 (by decide) ?_
            refine va_iald hx hb hK hP 7 0 rfl rfl (by unfold vp_in; decide) dX4_notesFit_30 ?_
            rw [show ((1 : Int32)).toNatClampNeg = 1 from rfl]
            refine lv_aload hx hb dX4_notesFit_31 (lv_at hl 0 rfl) ?_
            refine lv_iconst (v := 2) hx hb dX4_notesFit_33 (by decide) ?_
            refine va_iald hx hb hK hP 7 0 rfl rfl (by unfold vp_in; decide) dX4_notesFit_34 ?_
            rw [show ((2 : Int32)).toNatClampNeg = 2 from rfl]
            refine lv_aload hx hb dX4_notesFit_35 (lv_at hl 0 rfl) ?_
            refine lv_iconst (v := 3) hx hb dX4_notesFit_37 (by decide) ?_
            refine va_iald hx hb hK hP 7 0 rfl rfl (by unfold vp_in; decide) dX4_notesFit_38 ?_
            rw [show ((3 : Int32)).toNatClampNeg = 3 from rfl]
            have hs78 : kw_Split [(nw, .inr (4, [.ref kk, .ref nk, .ref nd, .ref ne, .ref nm, .ref nn, .int (nI fi), .int (nI gl), .int (nI un), .int (nI mi), .int (nI no)])), (o, .inr (5, [])), (nn, .inl (y 6, 6, .inr (.inr (.inr (.inr fn_))))), (t0, .inl (y 0, 5, .inl t0f)), (t1, .inl (y 0, 5, .inl t1f)), (t2, .inl (y 0, 5, .inl t2f)), (t3, .inl (y 0, 5, .inl t3f)), (t4, .inl (y 0, 5, .inl t4f)), (t5, .inl (y 0, 5, .inl t5f))] [(o, .inr (5, []))] [(nw, .inr (4, [.ref kk, .ref nk, .ref nd, .ref ne, .ref nm, .ref nn, .int (nI fi), .int (nI gl), .int (nI un), .int (nI mi), .int (nI no)])), (nn, .inl (y 6, 6, .inr (.inr (.inr (.inr fn_))))), (t0, .inl (y 0, 5, .inl t0f)), (t1, .inl (y 0, 5, .inl t1f)), (t2, .inl (y 0, 5, .inl t2f)), (t3, .inl (y 0, 5, .inl t3f)), (t4, .inl (y 0, 5, .inl t4f)), (t5, .inl (y 0, 5, .inl t5f))] [1] [0, 2, 3, 4, 5, 6, 7, 8] := ⟨rfl, rfl, rfl, rfl, rfl, by decide⟩
            refine kw_go_i hs78 hP hD hS hA (va_runV (As := [.int (t4f 1), .int (t4f 2), .int (t4f 3)]) (rest := []) ⟨hx, hb, hml, hown, hts⟩ (gb_Plain_on5 l D y o (t4f 1) (t4f 2) (t4f 3)  _) (cwV 3 hts gX4_notesFit_X5_sight rfl rfl rfl (by decide +kernel) ⟨Nat.le_of_ble_eq_true rfl, Nat.le_of_ble_eq_true rfl⟩) (kw_PreV (ci := 5) (q0 := 1) hs78 hP hD hK hN rfl rfl) rfl rfl hl.1 rfl (lv_room (Nat.le_of_ble_eq_true rfl)) dX4_notesFit_39 ⟨Nat.le_of_ble_eq_true rfl, Nat.le_of_ble_eq_true rfl⟩) (fun r79 u80 H locs hq hP hD hS => ?_)
            obtain rfl := hq
            have hP : va_P D vwCl [(nw, .inr (4, [.ref kk, .ref nk, .ref nd, .ref ne, .ref nm, .ref nn, .int (nI fi), .int (nI gl), .int (nI un), .int (nI mi), .int (nI no)])), (nn, .inl (y 6, 6, .inr (.inr (.inr (.inr fn_))))), (t0, .inl (y 0, 5, .inl t0f)), (t1, .inl (y 0, 5, .inl t1f)), (t2, .inl (y 0, 5, .inl t2f)), (t3, .inl (y 0, 5, .inl t3f)), (t4, .inl (y 0, 5, .inl t4f)), (t5, .inl (y 0, 5, .inl t5f)), (o, .inr (5, []))] H := hP
            have hD : va_D A [(nw, .inr (4, [.ref kk, .ref nk, .ref nd, .ref ne, .ref nm, .ref nn, .int (nI fi), .int (nI gl), .int (nI un), .int (nI mi), .int (nI no)])), (nn, .inl (y 6, 6, .inr (.inr (.inr (.inr fn_))))), (t0, .inl (y 0, 5, .inl t0f)), (t1, .inl (y 0, 5, .inl t1f)), (t2, .inl (y 0, 5, .inl t2f)), (t3, .inl (y 0, 5, .inl t3f)), (t4, .inl (y 0, 5, .inl t4f)), (t5, .inl (y 0, 5, .inl t5f)), (o, .inr (5, []))] := hD
            refine lv_aload hx hb dX4_notesFit_42 (lv_at hl 0 rfl) ?_
            refine lv_iconst (v := 4) hx hb dX4_notesFit_44 (by decide) ?_
            refine va_iald hx hb hK hP 6 0 rfl rfl (by unfold vp_in; decide) dX4_notesFit_45 ?_
            rw [show ((4 : Int32)).toNatClampNeg = 4 from rfl]
            refine lv_icmp_eq (tgt := 51) hx hb dX4_notesFit_46 (by decide) (fun h81 => ?_) (fun h82 => ?_)
            · skip
              refine lv_iinc (v := (nI 5)) (lv' := [(3, .int (nI 5)), (4, .ref t4), (0, .ref nw), (1, .int x), (2, .ref o)]) hx hb dX4_notesFit_51 hl (k := 1) rfl (nI_1 4) (by decide) rfl (fun ls hl => ?_)
              refine lv_goto (tgt := 2) hx hb dX4_notesFit_54 (by decide) ?_
              exact ihj91 5  H locs ls (by omega) (by omega) (nt_ok_s hI0_j91 (by rw [nt_row_i (hPN.2.2.2.2.1 (by omega))]; exact decide_eq_true (fun _ => h81))) (hP.sub [0, 8, 1, 2, 3, 4, 5, 6, 7] rfl) (hD.sub [0, 8, 1, 2, 3, 4, 5, 6, 7] (by decide) rfl) hS (lv_sub hl [0, 2, 3, 4] rfl)
            · skip
              refine lv_iconst (v := 0) hx hb dX4_notesFit_49 (by decide) ?_
              exact W.zret (v := 0) hx hb hr (by decide) (fun tZ ht hW => ⟨⟨0, (), rfl, Or.inr (⟨nt_ok_f (j := 4) (by omega) (by rw [nt_row_i (hPN.2.2.2.2.1 (by omega))]; exact fun q9 => h82 (of_decide_eq_true q9 h77)), rfl⟩), by rw [ht]; exact hP.sub [0, 8, 1, 2, 3, 4, 5, 6, 7] rfl, hD.sub [0, 8, 1, 2, 3, 4, 5, 6, 7] (by decide) rfl⟩, hS.F ht⟩) hS.2.2 dX4_notesFit_50
        · skip
          refine kw_aldQ hx hb hK hP 2 6 rfl rfl (vp_in_nI (by omega) (by decide)) dX4_notesFit_15 ?_
          rw [nI_clamp (n := 5) (by omega), show va_rf (fn_ 5) = .ref t5 from congrArg va_rf hn5]
          refine lv_astore (lv' := [(4, .ref t5), (3, .int (nI 5)), (0, .ref nw), (1, .int x), (2, .ref o)]) hx hb dX4_notesFit_16 hl (by decide) rfl (fun ls hl => ?_)
          refine lv_aload hx hb dX4_notesFit_18 (lv_at hl 0 rfl) ?_
          refine lv_iconst (v := 0) hx hb dX4_notesFit_20 (by decide) ?_
          refine va_iald hx hb hK hP 8 0 rfl rfl (by unfold vp_in; decide) dX4_notesFit_21 ?_
          rw [show ((0 : Int32)).toNatClampNeg = 0 from rfl]
          refine lv_iload_n hx hb dX4_notesFit_22 rfl (lv_at hl 3 rfl) ?_
          refine lv_icmp_ne (tgt := 51) hx hb dX4_notesFit_23 (by decide) (fun h83 => ?_) (fun h84 => ?_)
          · skip
            refine lv_iinc (v := (nI 6)) (lv' := [(3, .int (nI 6)), (4, .ref t5), (0, .ref nw), (1, .int x), (2, .ref o)]) hx hb dX4_notesFit_51 hl (k := 1) rfl (nI_1 5) (by decide) rfl (fun ls hl => ?_)
            refine lv_goto (tgt := 2) hx hb dX4_notesFit_54 (by decide) ?_
            exact ihj91 6  H locs ls (by omega) (by omega) (nt_ok_s hI0_j91 (by rw [nt_row_i (hPN.2.2.2.2.2 (by omega))]; exact decide_eq_true (fun q9 => absurd q9 h83))) (hP.sub [0, 1, 2, 3, 4, 5, 6, 7, 8] rfl) (hD.sub [0, 1, 2, 3, 4, 5, 6, 7, 8] (by decide) rfl) hS (lv_sub hl [0, 2, 3, 4] rfl)
          · skip
            refine lv_aload_n hx hb dX4_notesFit_26 rfl (lv_at hl 4 rfl) ?_
            refine lv_aload hx hb dX4_notesFit_27 (lv_at hl 0 rfl) ?_
            refine lv_iconst (v := 1) hx hb dX4_notesFit_29 (by decide) ?_
            refine va_iald hx hb hK hP 8 0 rfl rfl (by unfold vp_in; decide) dX4_notesFit_30 ?_
            rw [show ((1 : Int32)).toNatClampNeg = 1 from rfl]
            refine lv_aload hx hb dX4_notesFit_31 (lv_at hl 0 rfl) ?_
            refine lv_iconst (v := 2) hx hb dX4_notesFit_33 (by decide) ?_
            refine va_iald hx hb hK hP 8 0 rfl rfl (by unfold vp_in; decide) dX4_notesFit_34 ?_
            rw [show ((2 : Int32)).toNatClampNeg = 2 from rfl]
            refine lv_aload hx hb dX4_notesFit_35 (lv_at hl 0 rfl) ?_
            refine lv_iconst (v := 3) hx hb dX4_notesFit_37 (by decide) ?_
            refine va_iald hx hb hK hP 8 0 rfl rfl (by unfold vp_in; decide) dX4_notesFit_38 ?_
            rw [show ((3 : Int32)).toNatClampNeg = 3 from rfl]
            have hs85 : kw_Split [(nw, .inr (4, [.ref kk, .ref nk, .ref nd, .ref ne, .ref nm, .ref nn, .int (nI fi), .int (nI gl), .int (nI un), .int (nI mi), .int (nI no)])), (o, .inr (5, [])), (nn, .inl (y 6, 6, .inr (.inr (.inr (.inr fn_))))), (t0, .inl (y 0, 5, .inl t0f)), (t1, .inl (y 0, 5, .inl t1f)), (t2, .inl (y 0, 5, .inl t2f)), (t3, .inl (y 0, 5, .inl t3f)), (t4, .inl (y 0, 5, .inl t4f)), (t5, .inl (y 0, 5, .inl t5f))] [(o, .inr (5, []))] [(nw, .inr (4, [.ref kk, .ref nk, .ref nd, .ref ne, .ref nm, .ref nn, .int (nI fi), .int (nI gl), .int (nI un), .int (nI mi), .int (nI no)])), (nn, .inl (y 6, 6, .inr (.inr (.inr (.inr fn_))))), (t0, .inl (y 0, 5, .inl t0f)), (t1, .inl (y 0, 5, .inl t1f)), (t2, .inl (y 0, 5, .inl t2f)), (t3, .inl (y 0, 5, .inl t3f)), (t4, .inl (y 0, 5, .inl t4f)), (t5, .inl (y 0, 5, .inl t5f))] [1] [0, 2, 3, 4, 5, 6, 7, 8] := ⟨rfl, rfl, rfl, rfl, rfl, by decide⟩
            refine kw_go_i hs85 hP hD hS hA (va_runV (As := [.int (t5f 1), .int (t5f 2), .int (t5f 3)]) (rest := []) ⟨hx, hb, hml, hown, hts⟩ (gb_Plain_on5 l D y o (t5f 1) (t5f 2) (t5f 3)  _) (cwV 3 hts gX4_notesFit_X5_sight rfl rfl rfl (by decide +kernel) ⟨Nat.le_of_ble_eq_true rfl, Nat.le_of_ble_eq_true rfl⟩) (kw_PreV (ci := 5) (q0 := 1) hs85 hP hD hK hN rfl rfl) rfl rfl hl.1 rfl (lv_room (Nat.le_of_ble_eq_true rfl)) dX4_notesFit_39 ⟨Nat.le_of_ble_eq_true rfl, Nat.le_of_ble_eq_true rfl⟩) (fun r86 u87 H locs hq hP hD hS => ?_)
            obtain rfl := hq
            have hP : va_P D vwCl [(nw, .inr (4, [.ref kk, .ref nk, .ref nd, .ref ne, .ref nm, .ref nn, .int (nI fi), .int (nI gl), .int (nI un), .int (nI mi), .int (nI no)])), (nn, .inl (y 6, 6, .inr (.inr (.inr (.inr fn_))))), (t0, .inl (y 0, 5, .inl t0f)), (t1, .inl (y 0, 5, .inl t1f)), (t2, .inl (y 0, 5, .inl t2f)), (t3, .inl (y 0, 5, .inl t3f)), (t4, .inl (y 0, 5, .inl t4f)), (t5, .inl (y 0, 5, .inl t5f)), (o, .inr (5, []))] H := hP
            have hD : va_D A [(nw, .inr (4, [.ref kk, .ref nk, .ref nd, .ref ne, .ref nm, .ref nn, .int (nI fi), .int (nI gl), .int (nI un), .int (nI mi), .int (nI no)])), (nn, .inl (y 6, 6, .inr (.inr (.inr (.inr fn_))))), (t0, .inl (y 0, 5, .inl t0f)), (t1, .inl (y 0, 5, .inl t1f)), (t2, .inl (y 0, 5, .inl t2f)), (t3, .inl (y 0, 5, .inl t3f)), (t4, .inl (y 0, 5, .inl t4f)), (t5, .inl (y 0, 5, .inl t5f)), (o, .inr (5, []))] := hD
            refine lv_aload hx hb dX4_notesFit_42 (lv_at hl 0 rfl) ?_
            refine lv_iconst (v := 4) hx hb dX4_notesFit_44 (by decide) ?_
            refine va_iald hx hb hK hP 7 0 rfl rfl (by unfold vp_in; decide) dX4_notesFit_45 ?_
            rw [show ((4 : Int32)).toNatClampNeg = 4 from rfl]
            refine lv_icmp_eq (tgt := 51) hx hb dX4_notesFit_46 (by decide) (fun h88 => ?_) (fun h89 => ?_)
            · skip
              refine lv_iinc (v := (nI 6)) (lv' := [(3, .int (nI 6)), (4, .ref t5), (0, .ref nw), (1, .int x), (2, .ref o)]) hx hb dX4_notesFit_51 hl (k := 1) rfl (nI_1 5) (by decide) rfl (fun ls hl => ?_)
              refine lv_goto (tgt := 2) hx hb dX4_notesFit_54 (by decide) ?_
              exact ihj91 6  H locs ls (by omega) (by omega) (nt_ok_s hI0_j91 (by rw [nt_row_i (hPN.2.2.2.2.2 (by omega))]; exact decide_eq_true (fun _ => h88))) (hP.sub [0, 8, 1, 2, 3, 4, 5, 6, 7] rfl) (hD.sub [0, 8, 1, 2, 3, 4, 5, 6, 7] (by decide) rfl) hS (lv_sub hl [0, 2, 3, 4] rfl)
            · skip
              refine lv_iconst (v := 0) hx hb dX4_notesFit_49 (by decide) ?_
              exact W.zret (v := 0) hx hb hr (by decide) (fun tZ ht hW => ⟨⟨0, (), rfl, Or.inr (⟨nt_ok_f (j := 5) (by omega) (by rw [nt_row_i (hPN.2.2.2.2.2 (by omega))]; exact fun q9 => h89 (of_decide_eq_true q9 h84)), rfl⟩), by rw [ht]; exact hP.sub [0, 8, 1, 2, 3, 4, 5, 6, 7] rfl, hD.sub [0, 8, 1, 2, 3, 4, 5, 6, 7] (by decide) rfl⟩, hS.F ht⟩) hS.2.2 dX4_notesFit_50
  exact lp45 (no + 1) 0  _ _ _ (by omega) (by omega) rfl hP hD hS (lv_sub hl [0, 1, 2, 3] rfl)

set_option maxHeartbeats 4000000 in
set_option maxRecDepth 100000 in
theorem gb_notesFit_on8 (l : Launch) (D : va_G) (y : Nat → ClassId) (nw : Nat) (kk : Nat) (nk : Nat) (nd : Nat) (ne : Nat) (nm : Nat) (nn : Nat) (fi : Nat) (gl : Nat) (un : Nat) (mi : Nat) (no : Nat) (t0 : Nat) (t1 : Nat) (t2 : Nat) (t3 : Nat) (t4 : Nat) (t5 : Nat) (t0f : Nat → Int32) (t1f : Nat → Int32) (t2f : Nat → Int32) (t3f : Nat → Int32) (t4f : Nat → Int32) (t5f : Nat → Int32) (fn_ : Nat → Option Nat) (o : Nat) (x : Int32) (f : Nat → Int32) (hfi : fi ≤ 6) (hgl : gl ≤ 5) (hun : un ≤ 8) (hmi : mi ≤ 4) (hno : no ≤ 6) (hn0 : fn_ 0 = some t0) (hn1 : fn_ 1 = some t1) (hn2 : fn_ 2 = some t2) (hn3 : fn_ 3 = some t3) (hn4 : fn_ 4 = some t4) (hn5 : fn_ 5 = some t5) (hPN : kz_PN f no t0f t1f t2f t3f t4f t5f) : kw_Mi l yX4_notesFit wsX4_notesFit ({ frames := 3, cells := 0, slots := 0, locals := 107 }) D y [.ref nw, .int x, .ref o] [(nw, .inr (4, [.ref kk, .ref nk, .ref nd, .ref ne, .ref nm, .ref nn, .int (nI fi), .int (nI gl), .int (nI un), .int (nI mi), .int (nI no)])), (o, .inr (8, [])), (nn, .inl (y 6, 6, .inr (.inr (.inr (.inr fn_))))), (t0, .inl (y 0, 5, .inl t0f)), (t1, .inl (y 0, 5, .inl t1f)), (t2, .inl (y 0, 5, .inl t2f)), (t3, .inl (y 0, 5, .inl t3f)), (t4, .inl (y 0, 5, .inl t4f)), (t5, .inl (y 0, 5, .inl t5f))] (fun (r : Int32) (u : Unit) => (nt_ok f x 1 no = true ∧ r = 1) ∨ (¬ nt_ok f x 1 no = true ∧ r = 0)) (fun _ => [(nw, .inr (4, [.ref kk, .ref nk, .ref nd, .ref ne, .ref nm, .ref nn, .int (nI fi), .int (nI gl), .int (nI un), .int (nI mi), .int (nI no)])), (o, .inr (8, [])), (nn, .inl (y 6, 6, .inr (.inr (.inr (.inr fn_))))), (t0, .inl (y 0, 5, .inl t0f)), (t1, .inl (y 0, 5, .inl t1f)), (t2, .inl (y 0, 5, .inl t2f)), (t3, .inl (y 0, 5, .inl t3f)), (t4, .inl (y 0, 5, .inl t4f)), (t5, .inl (y 0, 5, .inl t5f))]) 0 0 := by
  refine kw_Mi.of (cc := cX4_notesFit) (maxL := 5) (ret := (some .boolean)) (by decide) rfl ?_
  intro pZ eZ s mZ beZ meZ cZ A hE
  obtain ⟨hx, hb, hr, hml, hts, hown, hlocks, hin, hA, hP, hD, hK, hN⟩ := hE
  have hS : va_S A s.heap s.heap [] := va_S.rf
  have hl := lv_entry ([.ref nw, .int x, .ref o]) (n := 5) (Nat.le_of_ble_eq_true rfl)
  rw [lg_entry_eq]
  generalize (lg_sl ([.ref nw, .int x, .ref o]) ++ List.replicate (5 - (lg_sl ([.ref nw, .int x, .ref o])).length) Slot.unset).toArray = ls at hl ⊢
  have hl : lv_has ls 5 [(0, .ref nw), (1, .int x), (2, .ref o)] := hl
  have fw1 := hts (.fieldLink RX4 51 "GleanDusk$Parish" "noteCount" "I") (List.mem_of_getElem? (i := 1) rfl)
  have fw2 := hts (.fieldLink RX4 31 "GleanDusk$Parish" "notes" "[[I") (List.mem_of_getElem? (i := 2) rfl)
  have iw4 : ∀ w ∈ wsX40, w ∈ wsX4_notesFit := fun _ h => List.mem_cons_of_mem _ (List.mem_append_right _ h)
  refine lv_iconst (v := 0) hx hb dX4_notesFit_0 (by decide) ?_
  refine lv_istore_n (lv' := [(3, .int 0), (0, .ref nw), (1, .int x), (2, .ref o)]) hx hb dX4_notesFit_1 rfl hl (by decide) rfl (fun ls hl => ?_)
  have lp45 : ∀ (fuj91 j91 : Nat)  (H : Heap) (locs : List Loc) (ls : Array Slot), j91 ≤ no → no - j91 < fuj91 → nt_ok f x 1 j91 = true → va_P D vwCl [(nw, .inr (4, [.ref kk, .ref nk, .ref nd, .ref ne, .ref nm, .ref nn, .int (nI fi), .int (nI gl), .int (nI un), .int (nI mi), .int (nI no)])), (o, .inr (8, [])), (nn, .inl (y 6, 6, .inr (.inr (.inr (.inr fn_))))), (t0, .inl (y 0, 5, .inl t0f)), (t1, .inl (y 0, 5, .inl t1f)), (t2, .inl (y 0, 5, .inl t2f)), (t3, .inl (y 0, 5, .inl t3f)), (t4, .inl (y 0, 5, .inl t4f)), (t5, .inl (y 0, 5, .inl t5f))] H → va_D A [(nw, .inr (4, [.ref kk, .ref nk, .ref nd, .ref ne, .ref nm, .ref nn, .int (nI fi), .int (nI gl), .int (nI un), .int (nI mi), .int (nI no)])), (o, .inr (8, [])), (nn, .inl (y 6, 6, .inr (.inr (.inr (.inr fn_))))), (t0, .inl (y 0, 5, .inl t0f)), (t1, .inl (y 0, 5, .inl t1f)), (t2, .inl (y 0, 5, .inl t2f)), (t3, .inl (y 0, 5, .inl t3f)), (t4, .inl (y 0, 5, .inl t4f)), (t5, .inl (y 0, 5, .inl t5f))] → va_S A s.heap H locs → lv_has ls 5 [(3, .int (nI j91)), (0, .ref nw), (1, .int x), (2, .ref o)] → W pZ l eZ ({ frames := 3, cells := 0, slots := 0, locals := 107 }) s mZ [.ref nw, .int x, .ref o].toArray beZ meZ cZ H locs 0 0 (MQ beZ (va_Qi (fun (r : Int32) (u : Unit) => (nt_ok f x 1 no = true ∧ r = 1) ∨ (¬ nt_ok f x 1 no = true ∧ r = 0)) (kw_B D (fun _ => [(nw, .inr (4, [.ref kk, .ref nk, .ref nd, .ref ne, .ref nm, .ref nn, .int (nI fi), .int (nI gl), .int (nI un), .int (nI mi), .int (nI no)])), (o, .inr (8, [])), (nn, .inl (y 6, 6, .inr (.inr (.inr (.inr fn_))))), (t0, .inl (y 0, 5, .inl t0f)), (t1, .inl (y 0, 5, .inl t1f)), (t2, .inl (y 0, 5, .inl t2f)), (t3, .inl (y 0, 5, .inl t3f)), (t4, .inl (y 0, 5, .inl t4f)), (t5, .inl (y 0, 5, .inl t5f))]) A) A) [.ref nw, .int x, .ref o].toArray s 0 0 A) (F0 mZ 2 ls []) := by
    intro fuj91
    induction fuj91 with
    | zero => intro j91  H locs ls hj9 hf9; exact absurd hf9 (Nat.not_lt_zero _)
    | succ fuj91 ihj91 =>
      intro j91  H locs ls hj91 hfj91 hI0_j91 hP hD hS hl
      refine lv_iload_n hx hb dX4_notesFit_2 rfl (lv_at hl 0 rfl) ?_
      refine lv_aload_n hx hb dX4_notesFit_3 rfl (lv_at hl 1 rfl) ?_
      refine va_get (D := D) (ci := 4) (v := .int (nI no)) (C := RX4) (T := TX4) (N := 11) hx hb hts iw4 hown hK hP 0 rfl rfl 10 (by decide) fw1 (fun _ h9 => h9) rfl dX4_notesFit_4 ?_
      refine lv_icmp_ge (tgt := 57) hx hb dX4_notesFit_7 (by decide) (fun h46 => ?_) (fun h47 => ?_)
      · skip
        have h46 : no ≤ j91 := (nI_leI (a := no) (b := j91) (by omega) (by omega)).mp h46
        refine lv_iconst (v := 1) hx hb dX4_notesFit_57 (by decide) ?_
        exact W.zret (v := 1) hx hb hr (by decide) (fun tZ ht hW => ⟨⟨1, (), rfl, Or.inl ⟨(show j91 = no by omega) ▸ hI0_j91, rfl⟩, by rw [ht]; exact hP.sub [0, 1, 2, 3, 4, 5, 6, 7, 8] rfl, hD.sub [0, 1, 2, 3, 4, 5, 6, 7, 8] (by decide) rfl⟩, hS.F ht⟩) hS.2.2 dX4_notesFit_58
      · skip
        have h47 : ¬ no ≤ j91 := fun q9 => h47 ((nI_leI (a := no) (b := j91) (by omega) (by omega)).mpr q9)
        refine lv_aload_n hx hb dX4_notesFit_10 rfl (lv_at hl 1 rfl) ?_
        refine va_get (D := D) (ci := 4) (v := .ref nn) (C := RX4) (T := TX4) (N := 11) hx hb hts iw4 hown hK hP 0 rfl rfl 5 (by decide) fw2 (fun _ h9 => h9) rfl dX4_notesFit_11 ?_
        refine lv_iload_n hx hb dX4_notesFit_14 rfl (lv_at hl 0 rfl) ?_
        rcases (show j91 = 0 ∨ j91 = 1 ∨ j91 = 2 ∨ j91 = 3 ∨ j91 = 4 ∨ j91 = 5 by omega) with rfl | rfl | rfl | rfl | rfl | rfl
        · skip
          refine kw_aldQ hx hb hK hP 2 6 rfl rfl (vp_in_nI (by omega) (by decide)) dX4_notesFit_15 ?_
          rw [nI_clamp (n := 0) (by omega), show va_rf (fn_ 0) = .ref t0 from congrArg va_rf hn0]
          refine lv_astore (lv' := [(4, .ref t0), (3, .int (nI 0)), (0, .ref nw), (1, .int x), (2, .ref o)]) hx hb dX4_notesFit_16 hl (by decide) rfl (fun ls hl => ?_)
          refine lv_aload hx hb dX4_notesFit_18 (lv_at hl 0 rfl) ?_
          refine lv_iconst (v := 0) hx hb dX4_notesFit_20 (by decide) ?_
          refine va_iald hx hb hK hP 3 0 rfl rfl (by unfold vp_in; decide) dX4_notesFit_21 ?_
          rw [show ((0 : Int32)).toNatClampNeg = 0 from rfl]
          refine lv_iload_n hx hb dX4_notesFit_22 rfl (lv_at hl 3 rfl) ?_
          refine lv_icmp_ne (tgt := 51) hx hb dX4_notesFit_23 (by decide) (fun h48 => ?_) (fun h49 => ?_)
          · skip
            refine lv_iinc (v := (nI 1)) (lv' := [(3, .int (nI 1)), (4, .ref t0), (0, .ref nw), (1, .int x), (2, .ref o)]) hx hb dX4_notesFit_51 hl (k := 1) rfl (nI_1 0) (by decide) rfl (fun ls hl => ?_)
            refine lv_goto (tgt := 2) hx hb dX4_notesFit_54 (by decide) ?_
            exact ihj91 1  H locs ls (by omega) (by omega) (nt_ok_s hI0_j91 (by rw [nt_row_i (hPN.1 (by omega))]; exact decide_eq_true (fun q9 => absurd q9 h48))) (hP.sub [0, 1, 2, 3, 4, 5, 6, 7, 8] rfl) (hD.sub [0, 1, 2, 3, 4, 5, 6, 7, 8] (by decide) rfl) hS (lv_sub hl [0, 2, 3, 4] rfl)
          · skip
            refine lv_aload_n hx hb dX4_notesFit_26 rfl (lv_at hl 4 rfl) ?_
            refine lv_aload hx hb dX4_notesFit_27 (lv_at hl 0 rfl) ?_
            refine lv_iconst (v := 1) hx hb dX4_notesFit_29 (by decide) ?_
            refine va_iald hx hb hK hP 3 0 rfl rfl (by unfold vp_in; decide) dX4_notesFit_30 ?_
            rw [show ((1 : Int32)).toNatClampNeg = 1 from rfl]
            refine lv_aload hx hb dX4_notesFit_31 (lv_at hl 0 rfl) ?_
            refine lv_iconst (v := 2) hx hb dX4_notesFit_33 (by decide) ?_
            refine va_iald hx hb hK hP 3 0 rfl rfl (by unfold vp_in; decide) dX4_notesFit_34 ?_
            rw [show ((2 : Int32)).toNatClampNeg = 2 from rfl]
            refine lv_aload hx hb dX4_notesFit_35 (lv_at hl 0 rfl) ?_
            refine lv_iconst (v := 3) hx hb dX4_notesFit_37 (by decide) ?_
            refine va_iald hx hb hK hP 3 0 rfl rfl (by unfold vp_in; decide) dX4_notesFit_38 ?_
            rw [show ((3 : Int32)).toNatClampNeg = 3 from rfl]
            have hs50 : kw_Split [(nw, .inr (4, [.ref kk, .ref nk, .ref nd, .ref ne, .ref nm, .ref nn, .int (nI fi), .int (nI gl), .int (nI un), .int (nI mi), .int (nI no)])), (o, .inr (8, [])), (nn, .inl (y 6, 6, .inr (.inr (.inr (.inr fn_))))), (t0, .inl (y 0, 5, .inl t0f)), (t1, .inl (y 0, 5, .inl t1f)), (t2, .inl (y 0, 5, .inl t2f)), (t3, .inl (y 0, 5, .inl t3f)), (t4, .inl (y 0, 5, .inl t4f)), (t5, .inl (y 0, 5, .inl t5f))] [(o, .inr (8, []))] [(nw, .inr (4, [.ref kk, .ref nk, .ref nd, .ref ne, .ref nm, .ref nn, .int (nI fi), .int (nI gl), .int (nI un), .int (nI mi), .int (nI no)])), (nn, .inl (y 6, 6, .inr (.inr (.inr (.inr fn_))))), (t0, .inl (y 0, 5, .inl t0f)), (t1, .inl (y 0, 5, .inl t1f)), (t2, .inl (y 0, 5, .inl t2f)), (t3, .inl (y 0, 5, .inl t3f)), (t4, .inl (y 0, 5, .inl t4f)), (t5, .inl (y 0, 5, .inl t5f))] [1] [0, 2, 3, 4, 5, 6, 7, 8] := ⟨rfl, rfl, rfl, rfl, rfl, by decide⟩
            refine kw_go_i hs50 hP hD hS hA (va_runU (As := [.int (t0f 1), .int (t0f 2), .int (t0f 3)]) (rest := []) ⟨hx, hb, hml, hown, hts⟩ (gb_West_on8 l D y o (t0f 1) (t0f 2) (t0f 3)  _) (va_cwO 3 hts gX4_notesFit_X8_sight_u89X8 rfl rfl rfl (List.mem_of_getElem? (i := 24) rfl) (by decide +kernel) ⟨Nat.le_of_ble_eq_true rfl, Nat.le_of_ble_eq_true rfl⟩) (kw_PreV (ci := 8) (q0 := 1) hs50 hP hD hK hN rfl rfl) rfl rfl hl.1 rfl (lv_room (Nat.le_of_ble_eq_true rfl)) dX4_notesFit_39 ⟨Nat.le_of_ble_eq_true rfl, Nat.le_of_ble_eq_true rfl⟩) (fun r51 u52 H locs hq hP hD hS => ?_)
            obtain rfl := hq
            have hP : va_P D vwCl [(nw, .inr (4, [.ref kk, .ref nk, .ref nd, .ref ne, .ref nm, .ref nn, .int (nI fi), .int (nI gl), .int (nI un), .int (nI mi), .int (nI no)])), (nn, .inl (y 6, 6, .inr (.inr (.inr (.inr fn_))))), (t0, .inl (y 0, 5, .inl t0f)), (t1, .inl (y 0, 5, .inl t1f)), (t2, .inl (y 0, 5, .inl t2f)), (t3, .inl (y 0, 5, .inl t3f)), (t4, .inl (y 0, 5, .inl t4f)), (t5, .inl (y 0, 5, .inl t5f)), (o, .inr (8, []))] H := hP
            have hD : va_D A [(nw, .inr (4, [.ref kk, .ref nk, .ref nd, .ref ne, .ref nm, .ref nn, .int (nI fi), .int (nI gl), .int (nI un), .int (nI mi), .int (nI no)])), (nn, .inl (y 6, 6, .inr (.inr (.inr (.inr fn_))))), (t0, .inl (y 0, 5, .inl t0f)), (t1, .inl (y 0, 5, .inl t1f)), (t2, .inl (y 0, 5, .inl t2f)), (t3, .inl (y 0, 5, .inl t3f)), (t4, .inl (y 0, 5, .inl t4f)), (t5, .inl (y 0, 5, .inl t5f)), (o, .inr (8, []))] := hD
            refine lv_aload hx hb dX4_notesFit_42 (lv_at hl 0 rfl) ?_
            refine lv_iconst (v := 4) hx hb dX4_notesFit_44 (by decide) ?_
            refine va_iald hx hb hK hP 2 0 rfl rfl (by unfold vp_in; decide) dX4_notesFit_45 ?_
            rw [show ((4 : Int32)).toNatClampNeg = 4 from rfl]
            refine lv_icmp_eq (tgt := 51) hx hb dX4_notesFit_46 (by decide) (fun h53 => ?_) (fun h54 => ?_)
            · skip
              refine lv_iinc (v := (nI 1)) (lv' := [(3, .int (nI 1)), (4, .ref t0), (0, .ref nw), (1, .int x), (2, .ref o)]) hx hb dX4_notesFit_51 hl (k := 1) rfl (nI_1 0) (by decide) rfl (fun ls hl => ?_)
              refine lv_goto (tgt := 2) hx hb dX4_notesFit_54 (by decide) ?_
              exact ihj91 1  H locs ls (by omega) (by omega) (nt_ok_s hI0_j91 (by rw [nt_row_i (hPN.1 (by omega))]; exact decide_eq_true (fun _ => h53))) (hP.sub [0, 8, 1, 2, 3, 4, 5, 6, 7] rfl) (hD.sub [0, 8, 1, 2, 3, 4, 5, 6, 7] (by decide) rfl) hS (lv_sub hl [0, 2, 3, 4] rfl)
            · skip
              refine lv_iconst (v := 0) hx hb dX4_notesFit_49 (by decide) ?_
              exact W.zret (v := 0) hx hb hr (by decide) (fun tZ ht hW => ⟨⟨0, (), rfl, Or.inr (⟨nt_ok_f (j := 0) (by omega) (by rw [nt_row_i (hPN.1 (by omega))]; exact fun q9 => h54 (of_decide_eq_true q9 h49)), rfl⟩), by rw [ht]; exact hP.sub [0, 8, 1, 2, 3, 4, 5, 6, 7] rfl, hD.sub [0, 8, 1, 2, 3, 4, 5, 6, 7] (by decide) rfl⟩, hS.F ht⟩) hS.2.2 dX4_notesFit_50
        · skip
          refine kw_aldQ hx hb hK hP 2 6 rfl rfl (vp_in_nI (by omega) (by decide)) dX4_notesFit_15 ?_
          rw [nI_clamp (n := 1) (by omega), show va_rf (fn_ 1) = .ref t1 from congrArg va_rf hn1]
          refine lv_astore (lv' := [(4, .ref t1), (3, .int (nI 1)), (0, .ref nw), (1, .int x), (2, .ref o)]) hx hb dX4_notesFit_16 hl (by decide) rfl (fun ls hl => ?_)
          refine lv_aload hx hb dX4_notesFit_18 (lv_at hl 0 rfl) ?_
          refine lv_iconst (v := 0) hx hb dX4_notesFit_20 (by decide) ?_
          refine va_iald hx hb hK hP 4 0 rfl rfl (by unfold vp_in; decide) dX4_notesFit_21 ?_
          rw [show ((0 : Int32)).toNatClampNeg = 0 from rfl]
          refine lv_iload_n hx hb dX4_notesFit_22 rfl (lv_at hl 3 rfl) ?_
          refine lv_icmp_ne (tgt := 51) hx hb dX4_notesFit_23 (by decide) (fun h55 => ?_) (fun h56 => ?_)
          · skip
            refine lv_iinc (v := (nI 2)) (lv' := [(3, .int (nI 2)), (4, .ref t1), (0, .ref nw), (1, .int x), (2, .ref o)]) hx hb dX4_notesFit_51 hl (k := 1) rfl (nI_1 1) (by decide) rfl (fun ls hl => ?_)
            refine lv_goto (tgt := 2) hx hb dX4_notesFit_54 (by decide) ?_
            exact ihj91 2  H locs ls (by omega) (by omega) (nt_ok_s hI0_j91 (by rw [nt_row_i (hPN.2.1 (by omega))]; exact decide_eq_true (fun q9 => absurd q9 h55))) (hP.sub [0, 1, 2, 3, 4, 5, 6, 7, 8] rfl) (hD.sub [0, 1, 2, 3, 4, 5, 6, 7, 8] (by decide) rfl) hS (lv_sub hl [0, 2, 3, 4] rfl)
          · skip
            refine lv_aload_n hx hb dX4_notesFit_26 rfl (lv_at hl 4 rfl) ?_
            refine lv_aload hx hb dX4_notesFit_27 (lv_at hl 0 rfl) ?_
            refine lv_iconst (v := 1) hx hb dX4_notesFit_29 (by decide) ?_
            refine va_iald hx hb hK hP 4 0 rfl rfl (by unfold vp_in; decide) dX4_notesFit_30 ?_
            rw [show ((1 : Int32)).toNatClampNeg = 1 from rfl]
            refine lv_aload hx hb dX4_notesFit_31 (lv_at hl 0 rfl) ?_
            refine lv_iconst (v := 2) hx hb dX4_notesFit_33 (by decide) ?_
            refine va_iald hx hb hK hP 4 0 rfl rfl (by unfold vp_in; decide) dX4_notesFit_34 ?_
            rw [show ((2 : Int32)).toNatClampNeg = 2 from rfl]
            refine lv_aload hx hb dX4_notesFit_35 (lv_at hl 0 rfl) ?_
            refine lv_iconst (v := 3) hx hb dX4_notesFit_37 (by decide) ?_
            refine va_iald hx hb hK hP 4 0 rfl rfl (by unfold vp_in; decide) dX4_notesFit_38 ?_
            rw [show ((3 : Int32)).toNatClampNeg = 3 from rfl]
            have hs57 : kw_Split [(nw, .inr (4, [.ref kk, .ref nk, .ref nd, .ref ne, .ref nm, .ref nn, .int (nI fi), .int (nI gl), .int (nI un), .int (nI mi), .int (nI no)])), (o, .inr (8, [])), (nn, .inl (y 6, 6, .inr (.inr (.inr (.inr fn_))))), (t0, .inl (y 0, 5, .inl t0f)), (t1, .inl (y 0, 5, .inl t1f)), (t2, .inl (y 0, 5, .inl t2f)), (t3, .inl (y 0, 5, .inl t3f)), (t4, .inl (y 0, 5, .inl t4f)), (t5, .inl (y 0, 5, .inl t5f))] [(o, .inr (8, []))] [(nw, .inr (4, [.ref kk, .ref nk, .ref nd, .ref ne, .ref nm, .ref nn, .int (nI fi), .int (nI gl), .int (nI un), .int (nI mi), .int (nI no)])), (nn, .inl (y 6, 6, .inr (.inr (.inr (.inr fn_))))), (t0, .inl (y 0, 5, .inl t0f)), (t1, .inl (y 0, 5, .inl t1f)), (t2, .inl (y 0, 5, .inl t2f)), (t3, .inl (y 0, 5, .inl t3f)), (t4, .inl (y 0, 5, .inl t4f)), (t5, .inl (y 0, 5, .inl t5f))] [1] [0, 2, 3, 4, 5, 6, 7, 8] := ⟨rfl, rfl, rfl, rfl, rfl, by decide⟩
            refine kw_go_i hs57 hP hD hS hA (va_runU (As := [.int (t1f 1), .int (t1f 2), .int (t1f 3)]) (rest := []) ⟨hx, hb, hml, hown, hts⟩ (gb_West_on8 l D y o (t1f 1) (t1f 2) (t1f 3)  _) (va_cwO 3 hts gX4_notesFit_X8_sight_u89X8 rfl rfl rfl (List.mem_of_getElem? (i := 24) rfl) (by decide +kernel) ⟨Nat.le_of_ble_eq_true rfl, Nat.le_of_ble_eq_true rfl⟩) (kw_PreV (ci := 8) (q0 := 1) hs57 hP hD hK hN rfl rfl) rfl rfl hl.1 rfl (lv_room (Nat.le_of_ble_eq_true rfl)) dX4_notesFit_39 ⟨Nat.le_of_ble_eq_true rfl, Nat.le_of_ble_eq_true rfl⟩) (fun r58 u59 H locs hq hP hD hS => ?_)
            obtain rfl := hq
            have hP : va_P D vwCl [(nw, .inr (4, [.ref kk, .ref nk, .ref nd, .ref ne, .ref nm, .ref nn, .int (nI fi), .int (nI gl), .int (nI un), .int (nI mi), .int (nI no)])), (nn, .inl (y 6, 6, .inr (.inr (.inr (.inr fn_))))), (t0, .inl (y 0, 5, .inl t0f)), (t1, .inl (y 0, 5, .inl t1f)), (t2, .inl (y 0, 5, .inl t2f)), (t3, .inl (y 0, 5, .inl t3f)), (t4, .inl (y 0, 5, .inl t4f)), (t5, .inl (y 0, 5, .inl t5f)), (o, .inr (8, []))] H := hP
            have hD : va_D A [(nw, .inr (4, [.ref kk, .ref nk, .ref nd, .ref ne, .ref nm, .ref nn, .int (nI fi), .int (nI gl), .int (nI un), .int (nI mi), .int (nI no)])), (nn, .inl (y 6, 6, .inr (.inr (.inr (.inr fn_))))), (t0, .inl (y 0, 5, .inl t0f)), (t1, .inl (y 0, 5, .inl t1f)), (t2, .inl (y 0, 5, .inl t2f)), (t3, .inl (y 0, 5, .inl t3f)), (t4, .inl (y 0, 5, .inl t4f)), (t5, .inl (y 0, 5, .inl t5f)), (o, .inr (8, []))] := hD
            refine lv_aload hx hb dX4_notesFit_42 (lv_at hl 0 rfl) ?_
            refine lv_iconst (v := 4) hx hb dX4_notesFit_44 (by decide) ?_
            refine va_iald hx hb hK hP 3 0 rfl rfl (by unfold vp_in; decide) dX4_notesFit_45 ?_
            rw [show ((4 : Int32)).toNatClampNeg = 4 from rfl]
            refine lv_icmp_eq (tgt := 51) hx hb dX4_notesFit_46 (by decide) (fun h60 => ?_) (fun h61 => ?_)
            · skip
              refine lv_iinc (v := (nI 2)) (lv' := [(3, .int (nI 2)), (4, .ref t1), (0, .ref nw), (1, .int x), (2, .ref o)]) hx hb dX4_notesFit_51 hl (k := 1) rfl (nI_1 1) (by decide) rfl (fun ls hl => ?_)
              refine lv_goto (tgt := 2) hx hb dX4_notesFit_54 (by decide) ?_
              exact ihj91 2  H locs ls (by omega) (by omega) (nt_ok_s hI0_j91 (by rw [nt_row_i (hPN.2.1 (by omega))]; exact decide_eq_true (fun _ => h60))) (hP.sub [0, 8, 1, 2, 3, 4, 5, 6, 7] rfl) (hD.sub [0, 8, 1, 2, 3, 4, 5, 6, 7] (by decide) rfl) hS (lv_sub hl [0, 2, 3, 4] rfl)
            · skip
              refine lv_iconst (v := 0) hx hb dX4_notesFit_49 (by decide) ?_
              exact W.zret (v := 0) hx hb hr (by decide) (fun tZ ht hW => ⟨⟨0, (), rfl, Or.inr (⟨nt_ok_f (j := 1) (by omega) (by rw [nt_row_i (hPN.2.1 (by omega))]; exact fun q9 => h61 (of_decide_eq_true q9 h56)), rfl⟩), by rw [ht]; exact hP.sub [0, 8, 1, 2, 3, 4, 5, 6, 7] rfl, hD.sub [0, 8, 1, 2, 3, 4, 5, 6, 7] (by decide) rfl⟩, hS.F ht⟩) hS.2.2 dX4_notesFit_50
        · skip
          refine kw_aldQ hx hb hK hP 2 6 rfl rfl (vp_in_nI (by omega) (by decide)) dX4_notesFit_15 ?_
          rw [nI_clamp (n := 2) (by omega), show va_rf (fn_ 2) = .ref t2 from congrArg va_rf hn2]
          refine lv_astore (lv' := [(4, .ref t2), (3, .int (nI 2)), (0, .ref nw), (1, .int x), (2, .ref o)]) hx hb dX4_notesFit_16 hl (by decide) rfl (fun ls hl => ?_)
          refine lv_aload hx hb dX4_notesFit_18 (lv_at hl 0 rfl) ?_
          refine lv_iconst (v := 0) hx hb dX4_notesFit_20 (by decide) ?_
          refine va_iald hx hb hK hP 5 0 rfl rfl (by unfold vp_in; decide) dX4_notesFit_21 ?_
          rw [show ((0 : Int32)).toNatClampNeg = 0 from rfl]
          refine lv_iload_n hx hb dX4_notesFit_22 rfl (lv_at hl 3 rfl) ?_
          refine lv_icmp_ne (tgt := 51) hx hb dX4_notesFit_23 (by decide) (fun h62 => ?_) (fun h63 => ?_)
          · skip
            refine lv_iinc (v := (nI 3)) (lv' := [(3, .int (nI 3)), (4, .ref t2), (0, .ref nw), (1, .int x), (2, .ref o)]) hx hb dX4_notesFit_51 hl (k := 1) rfl (nI_1 2) (by decide) rfl (fun ls hl => ?_)
            refine lv_goto (tgt := 2) hx hb dX4_notesFit_54 (by decide) ?_
            exact ihj91 3  H locs ls (by omega) (by omega) (nt_ok_s hI0_j91 (by rw [nt_row_i (hPN.2.2.1 (by omega))]; exact decide_eq_true (fun q9 => absurd q9 h62))) (hP.sub [0, 1, 2, 3, 4, 5, 6, 7, 8] rfl) (hD.sub [0, 1, 2, 3, 4, 5, 6, 7, 8] (by decide) rfl) hS (lv_sub hl [0, 2, 3, 4] rfl)
          · skip
            refine lv_aload_n hx hb dX4_notesFit_26 rfl (lv_at hl 4 rfl) ?_
            refine lv_aload hx hb dX4_notesFit_27 (lv_at hl 0 rfl) ?_
            refine lv_iconst (v := 1) hx hb dX4_notesFit_29 (by decide) ?_
            refine va_iald hx hb hK hP 5 0 rfl rfl (by unfold vp_in; decide) dX4_notesFit_30 ?_
            rw [show ((1 : Int32)).toNatClampNeg = 1 from rfl]
            refine lv_aload hx hb dX4_notesFit_31 (lv_at hl 0 rfl) ?_
            refine lv_iconst (v := 2) hx hb dX4_notesFit_33 (by decide) ?_
            refine va_iald hx hb hK hP 5 0 rfl rfl (by unfold vp_in; decide) dX4_notesFit_34 ?_
            rw [show ((2 : Int32)).toNatClampNeg = 2 from rfl]
            refine lv_aload hx hb dX4_notesFit_35 (lv_at hl 0 rfl) ?_
            refine lv_iconst (v := 3) hx hb dX4_notesFit_37 (by decide) ?_
            refine va_iald hx hb hK hP 5 0 rfl rfl (by unfold vp_in; decide) dX4_notesFit_38 ?_
            rw [show ((3 : Int32)).toNatClampNeg = 3 from rfl]
            have hs64 : kw_Split [(nw, .inr (4, [.ref kk, .ref nk, .ref nd, .ref ne, .ref nm, .ref nn, .int (nI fi), .int (nI gl), .int (nI un), .int (nI mi), .int (nI no)])), (o, .inr (8, [])), (nn, .inl (y 6, 6, .inr (.inr (.inr (.inr fn_))))), (t0, .inl (y 0, 5, .inl t0f)), (t1, .inl (y 0, 5, .inl t1f)), (t2, .inl (y 0, 5, .inl t2f)), (t3, .inl (y 0, 5, .inl t3f)), (t4, .inl (y 0, 5, .inl t4f)), (t5, .inl (y 0, 5, .inl t5f))] [(o, .inr (8, []))] [(nw, .inr (4, [.ref kk, .ref nk, .ref nd, .ref ne, .ref nm, .ref nn, .int (nI fi), .int (nI gl), .int (nI un), .int (nI mi), .int (nI no)])), (nn, .inl (y 6, 6, .inr (.inr (.inr (.inr fn_))))), (t0, .inl (y 0, 5, .inl t0f)), (t1, .inl (y 0, 5, .inl t1f)), (t2, .inl (y 0, 5, .inl t2f)), (t3, .inl (y 0, 5, .inl t3f)), (t4, .inl (y 0, 5, .inl t4f)), (t5, .inl (y 0, 5, .inl t5f))] [1] [0, 2, 3, 4, 5, 6, 7, 8] := ⟨rfl, rfl, rfl, rfl, rfl, by decide⟩
            refine kw_go_i hs64 hP hD hS hA (va_runU (As := [.int (t2f 1), .int (t2f 2), .int (t2f 3)]) (rest := []) ⟨hx, hb, hml, hown, hts⟩ (gb_West_on8 l D y o (t2f 1) (t2f 2) (t2f 3)  _) (va_cwO 3 hts gX4_notesFit_X8_sight_u89X8 rfl rfl rfl (List.mem_of_getElem? (i := 24) rfl) (by decide +kernel) ⟨Nat.le_of_ble_eq_true rfl, Nat.le_of_ble_eq_true rfl⟩) (kw_PreV (ci := 8) (q0 := 1) hs64 hP hD hK hN rfl rfl) rfl rfl hl.1 rfl (lv_room (Nat.le_of_ble_eq_true rfl)) dX4_notesFit_39 ⟨Nat.le_of_ble_eq_true rfl, Nat.le_of_ble_eq_true rfl⟩) (fun r65 u66 H locs hq hP hD hS => ?_)
            obtain rfl := hq
            have hP : va_P D vwCl [(nw, .inr (4, [.ref kk, .ref nk, .ref nd, .ref ne, .ref nm, .ref nn, .int (nI fi), .int (nI gl), .int (nI un), .int (nI mi), .int (nI no)])), (nn, .inl (y 6, 6, .inr (.inr (.inr (.inr fn_))))), (t0, .inl (y 0, 5, .inl t0f)), (t1, .inl (y 0, 5, .inl t1f)), (t2, .inl (y 0, 5, .inl t2f)), (t3, .inl (y 0, 5, .inl t3f)), (t4, .inl (y 0, 5, .inl t4f)), (t5, .inl (y 0, 5, .inl t5f)), (o, .inr (8, []))] H := hP
            have hD : va_D A [(nw, .inr (4, [.ref kk, .ref nk, .ref nd, .ref ne, .ref nm, .ref nn, .int (nI fi), .int (nI gl), .int (nI un), .int (nI mi), .int (nI no)])), (nn, .inl (y 6, 6, .inr (.inr (.inr (.inr fn_))))), (t0, .inl (y 0, 5, .inl t0f)), (t1, .inl (y 0, 5, .inl t1f)), (t2, .inl (y 0, 5, .inl t2f)), (t3, .inl (y 0, 5, .inl t3f)), (t4, .inl (y 0, 5, .inl t4f)), (t5, .inl (y 0, 5, .inl t5f)), (o, .inr (8, []))] := hD
            refine lv_aload hx hb dX4_notesFit_42 (lv_at hl 0 rfl) ?_
            refine lv_iconst (v := 4) hx hb dX4_notesFit_44 (by decide) ?_
            refine va_iald hx hb hK hP 4 0 rfl rfl (by unfold vp_in; decide) dX4_notesFit_45 ?_
            rw [show ((4 : Int32)).toNatClampNeg = 4 from rfl]
            refine lv_icmp_eq (tgt := 51) hx hb dX4_notesFit_46 (by decide) (fun h67 => ?_) (fun h68 => ?_)
            · skip
              refine lv_iinc (v := (nI 3)) (lv' := [(3, .int (nI 3)), (4, .ref t2), (0, .ref nw), (1, .int x), (2, .ref o)]) hx hb dX4_notesFit_51 hl (k := 1) rfl (nI_1 2) (by decide) rfl (fun ls hl => ?_)
              refine lv_goto (tgt := 2) hx hb dX4_notesFit_54 (by decide) ?_
              exact ihj91 3  H locs ls (by omega) (by omega) (nt_ok_s hI0_j91 (by rw [nt_row_i (hPN.2.2.1 (by omega))]; exact decide_eq_true (fun _ => h67))) (hP.sub [0, 8, 1, 2, 3, 4, 5, 6, 7] rfl) (hD.sub [0, 8, 1, 2, 3, 4, 5, 6, 7] (by decide) rfl) hS (lv_sub hl [0, 2, 3, 4] rfl)
            · skip
              refine lv_iconst (v := 0) hx hb dX4_notesFit_49 (by decide) ?_
              exact W.zret (v := 0) hx hb hr (by decide) (fun tZ ht hW => ⟨⟨0, (), rfl, Or.inr (⟨nt_ok_f (j := 2) (by omega) (by rw [nt_row_i (hPN.2.2.1 (by omega))]; exact fun q9 => h68 (of_decide_eq_true q9 h63)), rfl⟩), by rw [ht]; exact hP.sub [0, 8, 1, 2, 3, 4, 5, 6, 7] rfl, hD.sub [0, 8, 1, 2, 3, 4, 5, 6, 7] (by decide) rfl⟩, hS.F ht⟩) hS.2.2 dX4_notesFit_50
        · skip
          refine kw_aldQ hx hb hK hP 2 6 rfl rfl (vp_in_nI (by omega) (by decide)) dX4_notesFit_15 ?_
          rw [nI_clamp (n := 3) (by omega), show va_rf (fn_ 3) = .ref t3 from congrArg va_rf hn3]
          refine lv_astore (lv' := [(4, .ref t3), (3, .int (nI 3)), (0, .ref nw), (1, .int x), (2, .ref o)]) hx hb dX4_notesFit_16 hl (by decide) rfl (fun ls hl => ?_)
          refine lv_aload hx hb dX4_notesFit_18 (lv_at hl 0 rfl) ?_
          refine lv_iconst (v := 0) hx hb dX4_notesFit_20 (by decide) ?_
          refine va_iald hx hb hK hP 6 0 rfl rfl (by unfold vp_in; decide) dX4_notesFit_21 ?_
          rw [show ((0 : Int32)).toNatClampNeg = 0 from rfl]
          refine lv_iload_n hx hb dX4_notesFit_22 rfl (lv_at hl 3 rfl) ?_
          refine lv_icmp_ne (tgt := 51) hx hb dX4_notesFit_23 (by decide) (fun h69 => ?_) (fun h70 => ?_)
          · skip
            refine lv_iinc (v := (nI 4)) (lv' := [(3, .int (nI 4)), (4, .ref t3), (0, .ref nw), (1, .int x), (2, .ref o)]) hx hb dX4_notesFit_51 hl (k := 1) rfl (nI_1 3) (by decide) rfl (fun ls hl => ?_)
            refine lv_goto (tgt := 2) hx hb dX4_notesFit_54 (by decide) ?_
            exact ihj91 4  H locs ls (by omega) (by omega) (nt_ok_s hI0_j91 (by rw [nt_row_i (hPN.2.2.2.1 (by omega))]; exact decide_eq_true (fun q9 => absurd q9 h69))) (hP.sub [0, 1, 2, 3, 4, 5, 6, 7, 8] rfl) (hD.sub [0, 1, 2, 3, 4, 5, 6, 7, 8] (by decide) rfl) hS (lv_sub hl [0, 2, 3, 4] rfl)
          · skip
            refine lv_aload_n hx hb dX4_notesFit_26 rfl (lv_at hl 4 rfl) ?_
            refine lv_aload hx hb dX4_notesFit_27 (lv_at hl 0 rfl) ?_
            refine lv_iconst (v := 1) hx hb dX4_notesFit_29 (by decide) ?_
            refine va_iald hx hb hK hP 6 0 rfl rfl (by unfold vp_in; decide) dX4_notesFit_30 ?_
            rw [show ((1 : Int32)).toNatClampNeg = 1 from rfl]
            refine lv_aload hx hb dX4_notesFit_31 (lv_at hl 0 rfl) ?_
            refine lv_iconst (v := 2) hx hb dX4_notesFit_33 (by decide) ?_
            refine va_iald hx hb hK hP 6 0 rfl rfl (by unfold vp_in; decide) dX4_notesFit_34 ?_
            rw [show ((2 : Int32)).toNatClampNeg = 2 from rfl]
            refine lv_aload hx hb dX4_notesFit_35 (lv_at hl 0 rfl) ?_
            refine lv_iconst (v := 3) hx hb dX4_notesFit_37 (by decide) ?_
            refine va_iald hx hb hK hP 6 0 rfl rfl (by unfold vp_in; decide) dX4_notesFit_38 ?_
            rw [show ((3 : Int32)).toNatClampNeg = 3 from rfl]
            have hs71 : kw_Split [(nw, .inr (4, [.ref kk, .ref nk, .ref nd, .ref ne, .ref nm, .ref nn, .int (nI fi), .int (nI gl), .int (nI un), .int (nI mi), .int (nI no)])), (o, .inr (8, [])), (nn, .inl (y 6, 6, .inr (.inr (.inr (.inr fn_))))), (t0, .inl (y 0, 5, .inl t0f)), (t1, .inl (y 0, 5, .inl t1f)), (t2, .inl (y 0, 5, .inl t2f)), (t3, .inl (y 0, 5, .inl t3f)), (t4, .inl (y 0, 5, .inl t4f)), (t5, .inl (y 0, 5, .inl t5f))] [(o, .inr (8, []))] [(nw, .inr (4, [.ref kk, .ref nk, .ref nd, .ref ne, .ref nm, .ref nn, .int (nI fi), .int (nI gl), .int (nI un), .int (nI mi), .int (nI no)])), (nn, .inl (y 6, 6, .inr (.inr (.inr (.inr fn_))))), (t0, .inl (y 0, 5, .inl t0f)), (t1, .inl (y 0, 5, .inl t1f)), (t2, .inl (y 0, 5, .inl t2f)), (t3, .inl (y 0, 5, .inl t3f)), (t4, .inl (y 0, 5, .inl t4f)), (t5, .inl (y 0, 5, .inl t5f))] [1] [0, 2, 3, 4, 5, 6, 7, 8] := ⟨rfl, rfl, rfl, rfl, rfl, by decide⟩
            refine kw_go_i hs71 hP hD hS hA (va_runU (As := [.int (t3f 1), .int (t3f 2), .int (t3f 3)]) (rest := []) ⟨hx, hb, hml, hown, hts⟩ (gb_West_on8 l D y o (t3f 1) (t3f 2) (t3f 3)  _) (va_cwO 3 hts gX4_notesFit_X8_sight_u89X8 rfl rfl rfl (List.mem_of_getElem? (i := 24) rfl) (by decide +kernel) ⟨Nat.le_of_ble_eq_true rfl, Nat.le_of_ble_eq_true rfl⟩) (kw_PreV (ci := 8) (q0 := 1) hs71 hP hD hK hN rfl rfl) rfl rfl hl.1 rfl (lv_room (Nat.le_of_ble_eq_true rfl)) dX4_notesFit_39 ⟨Nat.le_of_ble_eq_true rfl, Nat.le_of_ble_eq_true rfl⟩) (fun r72 u73 H locs hq hP hD hS => ?_)
            obtain rfl := hq
            have hP : va_P D vwCl [(nw, .inr (4, [.ref kk, .ref nk, .ref nd, .ref ne, .ref nm, .ref nn, .int (nI fi), .int (nI gl), .int (nI un), .int (nI mi), .int (nI no)])), (nn, .inl (y 6, 6, .inr (.inr (.inr (.inr fn_))))), (t0, .inl (y 0, 5, .inl t0f)), (t1, .inl (y 0, 5, .inl t1f)), (t2, .inl (y 0, 5, .inl t2f)), (t3, .inl (y 0, 5, .inl t3f)), (t4, .inl (y 0, 5, .inl t4f)), (t5, .inl (y 0, 5, .inl t5f)), (o, .inr (8, []))] H := hP
            have hD : va_D A [(nw, .inr (4, [.ref kk, .ref nk, .ref nd, .ref ne, .ref nm, .ref nn, .int (nI fi), .int (nI gl), .int (nI un), .int (nI mi), .int (nI no)])), (nn, .inl (y 6, 6, .inr (.inr (.inr (.inr fn_))))), (t0, .inl (y 0, 5, .inl t0f)), (t1, .inl (y 0, 5, .inl t1f)), (t2, .inl (y 0, 5, .inl t2f)), (t3, .inl (y 0, 5, .inl t3f)), (t4, .inl (y 0, 5, .inl t4f)), (t5, .inl (y 0, 5, .inl t5f)), (o, .inr (8, []))] := hD
            refine lv_aload hx hb dX4_notesFit_42 (lv_at hl 0 rfl) ?_
            refine lv_iconst (v := 4) hx hb dX4_notesFit_44 (by decide) ?_
            refine va_iald hx hb hK hP 5 0 rfl rfl (by unfold vp_in; decide) dX4_notesFit_45 ?_
            rw [show ((4 : Int32)).toNatClampNeg = 4 from rfl]
            refine lv_icmp_eq (tgt := 51) hx hb dX4_notesFit_46 (by decide) (fun h74 => ?_) (fun h75 => ?_)
            · skip
              refine lv_iinc (v := (nI 4)) (lv' := [(3, .int (nI 4)), (4, .ref t3), (0, .ref nw), (1, .int x), (2, .ref o)]) hx hb dX4_notesFit_51 hl (k := 1) rfl (nI_1 3) (by decide) rfl (fun ls hl => ?_)
              refine lv_goto (tgt := 2) hx hb dX4_notesFit_54 (by decide) ?_
              exact ihj91 4  H locs ls (by omega) (by omega) (nt_ok_s hI0_j91 (by rw [nt_row_i (hPN.2.2.2.1 (by omega))]; exact decide_eq_true (fun _ => h74))) (hP.sub [0, 8, 1, 2, 3, 4, 5, 6, 7] rfl) (hD.sub [0, 8, 1, 2, 3, 4, 5, 6, 7] (by decide) rfl) hS (lv_sub hl [0, 2, 3, 4] rfl)
            · skip
              refine lv_iconst (v := 0) hx hb dX4_notesFit_49 (by decide) ?_
              exact W.zret (v := 0) hx hb hr (by decide) (fun tZ ht hW => ⟨⟨0, (), rfl, Or.inr (⟨nt_ok_f (j := 3) (by omega) (by rw [nt_row_i (hPN.2.2.2.1 (by omega))]; exact fun q9 => h75 (of_decide_eq_true q9 h70)), rfl⟩), by rw [ht]; exact hP.sub [0, 8, 1, 2, 3, 4, 5, 6, 7] rfl, hD.sub [0, 8, 1, 2, 3, 4, 5, 6, 7] (by decide) rfl⟩, hS.F ht⟩) hS.2.2 dX4_notesFit_50
        · skip
          refine kw_aldQ hx hb hK hP 2 6 rfl rfl (vp_in_nI (by omega) (by decide)) dX4_notesFit_15 ?_
          rw [nI_clamp (n := 4) (by omega), show va_rf (fn_ 4) = .ref t4 from congrArg va_rf hn4]
          refine lv_astore (lv' := [(4, .ref t4), (3, .int (nI 4)), (0, .ref nw), (1, .int x), (2, .ref o)]) hx hb dX4_notesFit_16 hl (by decide) rfl (fun ls hl => ?_)
          refine lv_aload hx hb dX4_notesFit_18 (lv_at hl 0 rfl) ?_
          refine lv_iconst (v := 0) hx hb dX4_notesFit_20 (by decide) ?_
          refine va_iald hx hb hK hP 7 0 rfl rfl (by unfold vp_in; decide) dX4_notesFit_21 ?_
          rw [show ((0 : Int32)).toNatClampNeg = 0 from rfl]
          refine lv_iload_n hx hb dX4_notesFit_22 rfl (lv_at hl 3 rfl) ?_
          refine lv_icmp_ne (tgt := 51) hx hb dX4_notesFit_23 (by decide) (fun h76 => ?_) (fun h77 => ?_)
          · skip
            refine lv_iinc (v := (nI 5)) (lv' := [(3, .int (nI 5)), (4, .ref t4), (0, .ref nw), (1, .int x), (2, .ref o)]) hx hb dX4_notesFit_51 hl (k := 1) rfl (nI_1 4) (by decide) rfl (fun ls hl => ?_)
            refine lv_goto (tgt := 2) hx hb dX4_notesFit_54 (by decide) ?_
            exact ihj91 5  H locs ls (by omega) (by omega) (nt_ok_s hI0_j91 (by rw [nt_row_i (hPN.2.2.2.2.1 (by omega))]; exact decide_eq_true (fun q9 => absurd q9 h76))) (hP.sub [0, 1, 2, 3, 4, 5, 6, 7, 8] rfl) (hD.sub [0, 1, 2, 3, 4, 5, 6, 7, 8] (by decide) rfl) hS (lv_sub hl [0, 2, 3, 4] rfl)
          · skip
            refine lv_aload_n hx hb dX4_notesFit_26 rfl (lv_at hl 4 rfl) ?_
            refine lv_aload hx hb dX4_notesFit_27 (lv_at hl 0 rfl) ?_
            refine lv_iconst (v := 1) hx hb dX4_notesFit_29 (by decide) ?_
            refine va_iald hx hb hK hP 7 0 rfl rfl (by unfold vp_in; decide) dX4_notesFit_30 ?_
            rw [show ((1 : Int32)).toNatClampNeg = 1 from rfl]
            refine lv_aload hx hb dX4_notesFit_31 (lv_at hl 0 rfl) ?_
            refine lv_iconst (v := 2) hx hb dX4_notesFit_33 (by decide) ?_
            refine va_iald hx hb hK hP 7 0 rfl rfl (by unfold vp_in; decide) dX4_notesFit_34 ?_
            rw [show ((2 : Int32)).toNatClampNeg = 2 from rfl]
            refine lv_aload hx hb dX4_notesFit_35 (lv_at hl 0 rfl) ?_
            refine lv_iconst (v := 3) hx hb dX4_notesFit_37 (by decide) ?_
            refine va_iald hx hb hK hP 7 0 rfl rfl (by unfold vp_in; decide) dX4_notesFit_38 ?_
            rw [show ((3 : Int32)).toNatClampNeg = 3 from rfl]
            have hs78 : kw_Split [(nw, .inr (4, [.ref kk, .ref nk, .ref nd, .ref ne, .ref nm, .ref nn, .int (nI fi), .int (nI gl), .int (nI un), .int (nI mi), .int (nI no)])), (o, .inr (8, [])), (nn, .inl (y 6, 6, .inr (.inr (.inr (.inr fn_))))), (t0, .inl (y 0, 5, .inl t0f)), (t1, .inl (y 0, 5, .inl t1f)), (t2, .inl (y 0, 5, .inl t2f)), (t3, .inl (y 0, 5, .inl t3f)), (t4, .inl (y 0, 5, .inl t4f)), (t5, .inl (y 0, 5, .inl t5f))] [(o, .inr (8, []))] [(nw, .inr (4, [.ref kk, .ref nk, .ref nd, .ref ne, .ref nm, .ref nn, .int (nI fi), .int (nI gl), .int (nI un), .int (nI mi), .int (nI no)])), (nn, .inl (y 6, 6, .inr (.inr (.inr (.inr fn_))))), (t0, .inl (y 0, 5, .inl t0f)), (t1, .inl (y 0, 5, .inl t1f)), (t2, .inl (y 0, 5, .inl t2f)), (t3, .inl (y 0, 5, .inl t3f)), (t4, .inl (y 0, 5, .inl t4f)), (t5, .inl (y 0, 5, .inl t5f))] [1] [0, 2, 3, 4, 5, 6, 7, 8] := ⟨rfl, rfl, rfl, rfl, rfl, by decide⟩
            refine kw_go_i hs78 hP hD hS hA (va_runU (As := [.int (t4f 1), .int (t4f 2), .int (t4f 3)]) (rest := []) ⟨hx, hb, hml, hown, hts⟩ (gb_West_on8 l D y o (t4f 1) (t4f 2) (t4f 3)  _) (va_cwO 3 hts gX4_notesFit_X8_sight_u89X8 rfl rfl rfl (List.mem_of_getElem? (i := 24) rfl) (by decide +kernel) ⟨Nat.le_of_ble_eq_true rfl, Nat.le_of_ble_eq_true rfl⟩) (kw_PreV (ci := 8) (q0 := 1) hs78 hP hD hK hN rfl rfl) rfl rfl hl.1 rfl (lv_room (Nat.le_of_ble_eq_true rfl)) dX4_notesFit_39 ⟨Nat.le_of_ble_eq_true rfl, Nat.le_of_ble_eq_true rfl⟩) (fun r79 u80 H locs hq hP hD hS => ?_)
            obtain rfl := hq
            have hP : va_P D vwCl [(nw, .inr (4, [.ref kk, .ref nk, .ref nd, .ref ne, .ref nm, .ref nn, .int (nI fi), .int (nI gl), .int (nI un), .int (nI mi), .int (nI no)])), (nn, .inl (y 6, 6, .inr (.inr (.inr (.inr fn_))))), (t0, .inl (y 0, 5, .inl t0f)), (t1, .inl (y 0, 5, .inl t1f)), (t2, .inl (y 0, 5, .inl t2f)), (t3, .inl (y 0, 5, .inl t3f)), (t4, .inl (y 0, 5, .inl t4f)), (t5, .inl (y 0, 5, .inl t5f)), (o, .inr (8, []))] H := hP
            have hD : va_D A [(nw, .inr (4, [.ref kk, .ref nk, .ref nd, .ref ne, .ref nm, .ref nn, .int (nI fi), .int (nI gl), .int (nI un), .int (nI mi), .int (nI no)])), (nn, .inl (y 6, 6, .inr (.inr (.inr (.inr fn_))))), (t0, .inl (y 0, 5, .inl t0f)), (t1, .inl (y 0, 5, .inl t1f)), (t2, .inl (y 0, 5, .inl t2f)), (t3, .inl (y 0, 5, .inl t3f)), (t4, .inl (y 0, 5, .inl t4f)), (t5, .inl (y 0, 5, .inl t5f)), (o, .inr (8, []))] := hD
            refine lv_aload hx hb dX4_notesFit_42 (lv_at hl 0 rfl) ?_
            refine lv_iconst (v := 4) hx hb dX4_notesFit_44 (by decide) ?_
            refine va_iald hx hb hK hP 6 0 rfl rfl (by unfold vp_in; decide) dX4_notesFit_45 ?_
            rw [show ((4 : Int32)).toNatClampNeg = 4 from rfl]
            refine lv_icmp_eq (tgt := 51) hx hb dX4_notesFit_46 (by decide) (fun h81 => ?_) (fun h82 => ?_)
            · skip
              refine lv_iinc (v := (nI 5)) (lv' := [(3, .int (nI 5)), (4, .ref t4), (0, .ref nw), (1, .int x), (2, .ref o)]) hx hb dX4_notesFit_51 hl (k := 1) rfl (nI_1 4) (by decide) rfl (fun ls hl => ?_)
              refine lv_goto (tgt := 2) hx hb dX4_notesFit_54 (by decide) ?_
              exact ihj91 5  H locs ls (by omega) (by omega) (nt_ok_s hI0_j91 (by rw [nt_row_i (hPN.2.2.2.2.1 (by omega))]; exact decide_eq_true (fun _ => h81))) (hP.sub [0, 8, 1, 2, 3, 4, 5, 6, 7] rfl) (hD.sub [0, 8, 1, 2, 3, 4, 5, 6, 7] (by decide) rfl) hS (lv_sub hl [0, 2, 3, 4] rfl)
            · skip
              refine lv_iconst (v := 0) hx hb dX4_notesFit_49 (by decide) ?_
              exact W.zret (v := 0) hx hb hr (by decide) (fun tZ ht hW => ⟨⟨0, (), rfl, Or.inr (⟨nt_ok_f (j := 4) (by omega) (by rw [nt_row_i (hPN.2.2.2.2.1 (by omega))]; exact fun q9 => h82 (of_decide_eq_true q9 h77)), rfl⟩), by rw [ht]; exact hP.sub [0, 8, 1, 2, 3, 4, 5, 6, 7] rfl, hD.sub [0, 8, 1, 2, 3, 4, 5, 6, 7] (by decide) rfl⟩, hS.F ht⟩) hS.2.2 dX4_notesFit_50
        · skip
          refine kw_aldQ hx hb hK hP 2 6 rfl rfl (vp_in_nI (by omega) (by decide)) dX4_notesFit_15 ?_
          rw [nI_clamp (n := 5) (by omega), show va_rf (fn_ 5) = .ref t5 from congrArg va_rf hn5]
          refine lv_astore (lv' := [(4, .ref t5), (3, .int (nI 5)), (0, .ref nw), (1, .int x), (2, .ref o)]) hx hb dX4_notesFit_16 hl (by decide) rfl (fun ls hl => ?_)
          refine lv_aload hx hb dX4_notesFit_18 (lv_at hl 0 rfl) ?_
          refine lv_iconst (v := 0) hx hb dX4_notesFit_20 (by decide) ?_
          refine va_iald hx hb hK hP 8 0 rfl rfl (by unfold vp_in; decide) dX4_notesFit_21 ?_
          rw [show ((0 : Int32)).toNatClampNeg = 0 from rfl]
          refine lv_iload_n hx hb dX4_notesFit_22 rfl (lv_at hl 3 rfl) ?_
          refine lv_icmp_ne (tgt := 51) hx hb dX4_notesFit_23 (by decide) (fun h83 => ?_) (fun h84 => ?_)
          · skip
            refine lv_iinc (v := (nI 6)) (lv' := [(3, .int (nI 6)), (4, .ref t5), (0, .ref nw), (1, .int x), (2, .ref o)]) hx hb dX4_notesFit_51 hl (k := 1) rfl (nI_1 5) (by decide) rfl (fun ls hl => ?_)
            refine lv_goto (tgt := 2) hx hb dX4_notesFit_54 (by decide) ?_
            exact ihj91 6  H locs ls (by omega) (by omega) (nt_ok_s hI0_j91 (by rw [nt_row_i (hPN.2.2.2.2.2 (by omega))]; exact decide_eq_true (fun q9 => absurd q9 h83))) (hP.sub [0, 1, 2, 3, 4, 5, 6, 7, 8] rfl) (hD.sub [0, 1, 2, 3, 4, 5, 6, 7, 8] (by decide) rfl) hS (lv_sub hl [0, 2, 3, 4] rfl)
          · skip
            refine lv_aload_n hx hb dX4_notesFit_26 rfl (lv_at hl 4 rfl) ?_
            refine lv_aload hx hb dX4_notesFit_27 (lv_at hl 0 rfl) ?_
            refine lv_iconst (v := 1) hx hb dX4_notesFit_29 (by decide) ?_
            refine va_iald hx hb hK hP 8 0 rfl rfl (by unfold vp_in; decide) dX4_notesFit_30 ?_
            rw [show ((1 : Int32)).toNatClampNeg = 1 from rfl]
            refine lv_aload hx hb dX4_notesFit_31 (lv_at hl 0 rfl) ?_
            refine lv_iconst (v := 2) hx hb dX4_notesFit_33 (by decide) ?_
            refine va_iald hx hb hK hP 8 0 rfl rfl (by unfold vp_in; decide) dX4_notesFit_34 ?_
            rw [show ((2 : Int32)).toNatClampNeg = 2 from rfl]
            refine lv_aload hx hb dX4_notesFit_35 (lv_at hl 0 rfl) ?_
            refine lv_iconst (v := 3) hx hb dX4_notesFit_37 (by decide) ?_
            refine va_iald hx hb hK hP 8 0 rfl rfl (by unfold vp_in; decide) dX4_notesFit_38 ?_
            rw [show ((3 : Int32)).toNatClampNeg = 3 from rfl]
            have hs85 : kw_Split [(nw, .inr (4, [.ref kk, .ref nk, .ref nd, .ref ne, .ref nm, .ref nn, .int (nI fi), .int (nI gl), .int (nI un), .int (nI mi), .int (nI no)])), (o, .inr (8, [])), (nn, .inl (y 6, 6, .inr (.inr (.inr (.inr fn_))))), (t0, .inl (y 0, 5, .inl t0f)), (t1, .inl (y 0, 5, .inl t1f)), (t2, .inl (y 0, 5, .inl t2f)), (t3, .inl (y 0, 5, .inl t3f)), (t4, .inl (y 0, 5, .inl t4f)), (t5, .inl (y 0, 5, .inl t5f))] [(o, .inr (8, []))] [(nw, .inr (4, [.ref kk, .ref nk, .ref nd, .ref ne, .ref nm, .ref nn, .int (nI fi), .int (nI gl), .int (nI un), .int (nI mi), .int (nI no)])), (nn, .inl (y 6, 6, .inr (.inr (.inr (.inr fn_))))), (t0, .inl (y 0, 5, .inl t0f)), (t1, .inl (y 0, 5, .inl t1f)), (t2, .inl (y 0, 5, .inl t2f)), (t3, .inl (y 0, 5, .inl t3f)), (t4, .inl (y 0, 5, .inl t4f)), (t5, .inl (y 0, 5, .inl t5f))] [1] [0, 2, 3, 4, 5, 6, 7, 8] := ⟨rfl, rfl, rfl, rfl, rfl, by decide⟩
            refine kw_go_i hs85 hP hD hS hA (va_runU (As := [.int (t5f 1), .int (t5f 2), .int (t5f 3)]) (rest := []) ⟨hx, hb, hml, hown, hts⟩ (gb_West_on8 l D y o (t5f 1) (t5f 2) (t5f 3)  _) (va_cwO 3 hts gX4_notesFit_X8_sight_u89X8 rfl rfl rfl (List.mem_of_getElem? (i := 24) rfl) (by decide +kernel) ⟨Nat.le_of_ble_eq_true rfl, Nat.le_of_ble_eq_true rfl⟩) (kw_PreV (ci := 8) (q0 := 1) hs85 hP hD hK hN rfl rfl) rfl rfl hl.1 rfl (lv_room (Nat.le_of_ble_eq_true rfl)) dX4_notesFit_39 ⟨Nat.le_of_ble_eq_true rfl, Nat.le_of_ble_eq_true rfl⟩) (fun r86 u87 H locs hq hP hD hS => ?_)
            obtain rfl := hq
            have hP : va_P D vwCl [(nw, .inr (4, [.ref kk, .ref nk, .ref nd, .ref ne, .ref nm, .ref nn, .int (nI fi), .int (nI gl), .int (nI un), .int (nI mi), .int (nI no)])), (nn, .inl (y 6, 6, .inr (.inr (.inr (.inr fn_))))), (t0, .inl (y 0, 5, .inl t0f)), (t1, .inl (y 0, 5, .inl t1f)), (t2, .inl (y 0, 5, .inl t2f)), (t3, .inl (y 0, 5, .inl t3f)), (t4, .inl (y 0, 5, .inl t4f)), (t5, .inl (y 0, 5, .inl t5f)), (o, .inr (8, []))] H := hP
            have hD : va_D A [(nw, .inr (4, [.ref kk, .ref nk, .ref nd, .ref ne, .ref nm, .ref nn, .int (nI fi), .int (nI gl), .int (nI un), .int (nI mi), .int (nI no)])), (nn, .inl (y 6, 6, .inr (.inr (.inr (.inr fn_))))), (t0, .inl (y 0, 5, .inl t0f)), (t1, .inl (y 0, 5, .inl t1f)), (t2, .inl (y 0, 5, .inl t2f)), (t3, .inl (y 0, 5, .inl t3f)), (t4, .inl (y 0, 5, .inl t4f)), (t5, .inl (y 0, 5, .inl t5f)), (o, .inr (8, []))] := hD
            refine lv_aload hx hb dX4_notesFit_42 (lv_at hl 0 rfl) ?_
            refine lv_iconst (v := 4) hx hb dX4_notesFit_44 (by decide) ?_
            refine va_iald hx hb hK hP 7 0 rfl rfl (by unfold vp_in; decide) dX4_notesFit_45 ?_
            rw [show ((4 : Int32)).toNatClampNeg = 4 from rfl]
            refine lv_icmp_eq (tgt := 51) hx hb dX4_notesFit_46 (by decide) (fun h88 => ?_) (fun h89 => ?_)
            · skip
              refine lv_iinc (v := (nI 6)) (lv' := [(3, .int (nI 6)), (4, .ref t5), (0, .ref nw), (1, .int x), (2, .ref o)]) hx hb dX4_notesFit_51 hl (k := 1) rfl (nI_1 5) (by decide) rfl (fun ls hl => ?_)
              refine lv_goto (tgt := 2) hx hb dX4_notesFit_54 (by decide) ?_
              exact ihj91 6  H locs ls (by omega) (by omega) (nt_ok_s hI0_j91 (by rw [nt_row_i (hPN.2.2.2.2.2 (by omega))]; exact decide_eq_true (fun _ => h88))) (hP.sub [0, 8, 1, 2, 3, 4, 5, 6, 7] rfl) (hD.sub [0, 8, 1, 2, 3, 4, 5, 6, 7] (by decide) rfl) hS (lv_sub hl [0, 2, 3, 4] rfl)
            · skip
              refine lv_iconst (v := 0) hx hb dX4_notesFit_49 (by decide) ?_
              exact W.zret (v := 0) hx hb hr (by decide) (fun tZ ht hW => ⟨⟨0, (), rfl, Or.inr (⟨nt_ok_f (j := 5) (by omega) (by rw [nt_row_i (hPN.2.2.2.2.2 (by omega))]; exact fun q9 => h89 (of_decide_eq_true q9 h84)), rfl⟩), by rw [ht]; exact hP.sub [0, 8, 1, 2, 3, 4, 5, 6, 7] rfl, hD.sub [0, 8, 1, 2, 3, 4, 5, 6, 7] (by decide) rfl⟩, hS.F ht⟩) hS.2.2 dX4_notesFit_50
  exact lp45 (no + 1) 0  _ _ _ (by omega) (by omega) rfl hP hD hS (lv_sub hl [0, 1, 2, 3] rfl)
