set_option maxHeartbeats 4000000 in
set_option maxRecDepth 100000 in
theorem gq_from (l : Launch) (D : va_G) (y : Nat → ClassId) (mo : Nat) (to : Nat) (ke : Nat) (ik : Nat) (mrf : Nat) (ha : Nat) (r0 : Nat) (mbr : Nat) (mbp : Nat) (mby : Nat) (an : Nat) (va : Nat) (mab : Int64) (mbl : Int64) (bl : Nat) (ta : Nat) (tl : Nat) (tk : Nat) (vv : Int32) (frf : Nat → Int32) (ft : Nat → Int32) (fi : Nat) (gl : Nat) (mi : Nat) (no : Nat) (un : Nat) (fke : Nat → Int32) (fik : Nat → Int32) (k : Nat) (hk0_ : ft 0 = (nI fi)) (hk1_ : ft 1 = (nI gl)) (hk2_ : ft 2 = (nI mi)) (hk3_ : ft 3 = (nI no)) (hk4_ : ft 4 = (nI un)) (hkt : kr_t 228 ft) (hfi : fi ≤ 6) (hgl : gl ≤ 5) (hmi : mi ≤ 4) (hno : no ≤ 6) (hun : un ≤ 8) (hgf : (gl = 0 ∨ 0 < fi)) (hK0 : kr_K fke) (hK1 : kr_K (fun p => fke (p + 228))) (hA1 : k < 2) : kw_Mi l yX11_from wsX11_from ({ frames := 2, cells := 0, slots := 0, locals := 85 }) D y [.ref mo, .int (nI k)] [(mo, .inr (11, [.ref to, .ref ke, .ref ik, .ref mrf, .long mab, .long mbl, .ref ha, .ref r0, .ref mbr, .ref mbp, .ref mby, .int (nI bl), .int (nI ta), .int (nI tl), .int (nI tk), .int vv, .ref an, .ref va])), (mrf, .inl (y 0, 3, .inl frf)), (to, .inl (y 0, 228, .inl ft)), (ke, .inl (y 0, 456, .inl fke)), (ik, .inl (y 2, 2, .inl fik))] (fun (r : Int32) (u : (Nat → Int32) × (Nat → Int32) × Nat × Nat × Nat × Nat × Nat) => kr_t 228 u.2.1 ∧ u.2.2.1 ≤ 6 ∧ u.2.1 0 = (nI u.2.2.1) ∧ u.2.2.2.1 ≤ 5 ∧ u.2.1 1 = (nI u.2.2.2.1) ∧ u.2.2.2.2.1 ≤ 4 ∧ u.2.1 2 = (nI u.2.2.2.2.1) ∧ u.2.2.2.2.2.1 ≤ 6 ∧ u.2.1 3 = (nI u.2.2.2.2.2.1) ∧ u.2.2.2.2.2.2 ≤ 8 ∧ u.2.1 4 = (nI u.2.2.2.2.2.2) ∧ (u.2.2.2.1 = 0 ∨ 0 < u.2.2.1)) (fun u => [(mo, .inr (11, [.ref to, .ref ke, .ref ik, .ref mrf, .long mab, .long mbl, .ref ha, .ref r0, .ref mbr, .ref mbp, .ref mby, .int (nI bl), .int (nI ta), .int (nI tl), .int (nI tk), .int vv, .ref an, .ref va])), (mrf, .inl (y 0, 3, .inl u.1)), (to, .inl (y 0, 228, .inl u.2.1)), (ke, .inl (y 0, 456, .inl fke)), (ik, .inl (y 2, 2, .inl fik))]) 0 0 := by
  refine kw_Mi.of (cc := cX11_from) (maxL := 3) (ret := (some .int)) (by decide) rfl ?_
  intro pZ eZ s mZ beZ meZ cZ A hE
  obtain ⟨hx, hb, hr, hml, hts, hown, hlocks, hin, hA, hP, hD, hK, hN⟩ := hE
  have hS : va_S A s.heap s.heap [] := va_S.rf
  have hl := lv_entry ([.ref mo, .int (nI k)]) (n := 3) (Nat.le_of_ble_eq_true rfl)
  rw [lg_entry_eq]
  generalize (lg_sl ([.ref mo, .int (nI k)]) ++ List.replicate (3 - (lg_sl ([.ref mo, .int (nI k)])).length) Slot.unset).toArray = ls at hl ⊢
  have hl : lv_has ls 3 [(0, .ref mo), (1, .int (nI k))] := hl
  have fw1 := hts (.fieldLink RX11 16 "GleanDuskModel" "isKept" "[Z") (List.mem_of_getElem? (i := 1) rfl)
  have fw2 := hts (.fieldLink RX11 7 "GleanDuskModel" "told" "[I") (List.mem_of_getElem? (i := 2) rfl)
  have fw3 := hts (.fieldLink RX11 13 "GleanDuskModel" "kept" "[I") (List.mem_of_getElem? (i := 3) rfl)
  have iw11 : ∀ w ∈ wsX110, w ∈ wsX11_from := fun _ h => List.mem_cons_of_mem _ (List.mem_append_right _ h)
  refine lv_iload_n hx hb dX11_from_0 rfl (lv_at hl 1 rfl) ?_
  refine lv_i2l (v := (nI k).toInt64) hx hb dX11_from_1 (rfl) ?_
  refine lv_lconst (v := 0) hx hb dX11_from_2 (by decide) ?_
  refine lv_lconst (v := 1) hx hb dX11_from_3 (by decide) ?_
  have hs1 : kw_Split [(mo, .inr (11, [.ref to, .ref ke, .ref ik, .ref mrf, .long mab, .long mbl, .ref ha, .ref r0, .ref mbr, .ref mbp, .ref mby, .int (nI bl), .int (nI ta), .int (nI tl), .int (nI tk), .int vv, .ref an, .ref va])), (mrf, .inl (y 0, 3, .inl frf)), (to, .inl (y 0, 228, .inl ft)), (ke, .inl (y 0, 456, .inl fke)), (ik, .inl (y 2, 2, .inl fik))] [] [(mo, .inr (11, [.ref to, .ref ke, .ref ik, .ref mrf, .long mab, .long mbl, .ref ha, .ref r0, .ref mbr, .ref mbp, .ref mby, .int (nI bl), .int (nI ta), .int (nI tl), .int (nI tk), .int vv, .ref an, .ref va])), (mrf, .inl (y 0, 3, .inl frf)), (to, .inl (y 0, 228, .inl ft)), (ke, .inl (y 0, 456, .inl fke)), (ik, .inl (y 2, 2, .inl fik))] [] [0, 1, 2, 3, 4] := ⟨rfl, rfl, rfl, rfl, rfl, by decide⟩
  refine kw_go_i hs1 hP hD hS hA (va_runS (As := [.long ((nI k).toInt64), .long 0, .long 1]) (rest := []) ⟨hx, hb, hml, hown, hts⟩ (gr_in l D y (nI k) 0 1 (by omega) (by omega) _) (va_cwS 3 hts gX11_from_X11_in rfl rfl rfl (by decide +kernel) ⟨Nat.le_of_ble_eq_true rfl, Nat.le_of_ble_eq_true rfl⟩) (kw_PreS hs1 hP hD hK hN) rfl rfl hl.1 rfl (lv_room (Nat.le_of_ble_eq_true rfl)) dX11_from_4 ⟨Nat.le_of_ble_eq_true rfl, Nat.le_of_ble_eq_true rfl⟩) (fun r2 u3 H locs hq hP hD hS => ?_)
  rcases hq with ⟨j4, h5, h6, h7, rfl⟩ | ⟨h8, rfl⟩
  · skip
    have h7 : k = j4 := (nI_eq (a := k) (b := j4) (by omega) (by omega)).mp h7
    have hP : va_P D vwCl [(mo, .inr (11, [.ref to, .ref ke, .ref ik, .ref mrf, .long mab, .long mbl, .ref ha, .ref r0, .ref mbr, .ref mbp, .ref mby, .int (nI bl), .int (nI ta), .int (nI tl), .int (nI tk), .int vv, .ref an, .ref va])), (mrf, .inl (y 0, 3, .inl frf)), (to, .inl (y 0, 228, .inl ft)), (ke, .inl (y 0, 456, .inl fke)), (ik, .inl (y 2, 2, .inl fik))] H := hP
    have hD : va_D A [(mo, .inr (11, [.ref to, .ref ke, .ref ik, .ref mrf, .long mab, .long mbl, .ref ha, .ref r0, .ref mbr, .ref mbp, .ref mby, .int (nI bl), .int (nI ta), .int (nI tl), .int (nI tk), .int vv, .ref an, .ref va])), (mrf, .inl (y 0, 3, .inl frf)), (to, .inl (y 0, 228, .inl ft)), (ke, .inl (y 0, 456, .inl fke)), (ik, .inl (y 2, 2, .inl fik))] := hD
    refine lv_if_ne (tgt := 17) hx hb dX11_from_7 (by decide) (fun _ => ?_) (fun h9 => absurd h9 (by decide))
    rcases (show k = 0 ∨ k = 1 by omega) with rfl | rfl
    · skip
      refine lv_aload_n hx hb dX11_from_17 rfl (lv_at hl 0 rfl) ?_
      refine va_get (D := D) (ci := 11) (v := .ref ik) (C := RX11) (T := TX11) (N := 18) hx hb hts iw11 hown hK hP 0 rfl rfl 2 (by decide) fw1 (fun _ h9 => h9) rfl dX11_from_18 ?_
      refine lv_iload_n hx hb dX11_from_21 rfl (lv_at hl 1 rfl) ?_
      refine va_zald hx hb hK hP 4 2 rfl rfl (vp_in_nI (by omega) (by decide)) dX11_from_22 ?_
      rw [nI_clamp (n := 0) (by omega)]
      refine lv_if_ne (tgt := 31) hx hb dX11_from_23 (by decide) (fun h9 => ?_) (fun h10 => ?_)
      · skip
        refine lv_iconst (v := 0) hx hb dX11_from_31 (by decide) ?_
        refine lv_istore_n (lv' := [(2, .int 0), (0, .ref mo), (1, .int (nI 0))]) hx hb dX11_from_32 rfl hl (by decide) rfl (fun ls hl => ?_)
        have lp62 : ∀ (fuj91 j91 : Nat) (x36 : Nat → Int32) (H : Heap) (locs : List Loc) (ls : Array Slot), j91 ≤ 228 → 228 - j91 < fuj91 → x36 = kr_cp ft fke j91 → va_P D vwCl [(mo, .inr (11, [.ref to, .ref ke, .ref ik, .ref mrf, .long mab, .long mbl, .ref ha, .ref r0, .ref mbr, .ref mbp, .ref mby, .int (nI bl), .int (nI ta), .int (nI tl), .int (nI tk), .int vv, .ref an, .ref va])), (mrf, .inl (y 0, 3, .inl frf)), (to, .inl (y 0, 228, .inl x36)), (ke, .inl (y 0, 456, .inl fke)), (ik, .inl (y 2, 2, .inl fik))] H → va_D A [(mo, .inr (11, [.ref to, .ref ke, .ref ik, .ref mrf, .long mab, .long mbl, .ref ha, .ref r0, .ref mbr, .ref mbp, .ref mby, .int (nI bl), .int (nI ta), .int (nI tl), .int (nI tk), .int vv, .ref an, .ref va])), (mrf, .inl (y 0, 3, .inl frf)), (to, .inl (y 0, 228, .inl x36)), (ke, .inl (y 0, 456, .inl fke)), (ik, .inl (y 2, 2, .inl fik))] → va_S A s.heap H locs → lv_has ls 3 [(2, .int (nI j91)), (0, .ref mo), (1, .int (nI 0))] → W pZ l eZ ({ frames := 2, cells := 0, slots := 0, locals := 85 }) s mZ [.ref mo, .int (nI 0)].toArray beZ meZ cZ H locs 0 0 (MQ beZ (va_Qi (fun (r : Int32) (u : (Nat → Int32) × (Nat → Int32) × Nat × Nat × Nat × Nat × Nat) => kr_t 228 u.2.1 ∧ u.2.2.1 ≤ 6 ∧ u.2.1 0 = (nI u.2.2.1) ∧ u.2.2.2.1 ≤ 5 ∧ u.2.1 1 = (nI u.2.2.2.1) ∧ u.2.2.2.2.1 ≤ 4 ∧ u.2.1 2 = (nI u.2.2.2.2.1) ∧ u.2.2.2.2.2.1 ≤ 6 ∧ u.2.1 3 = (nI u.2.2.2.2.2.1) ∧ u.2.2.2.2.2.2 ≤ 8 ∧ u.2.1 4 = (nI u.2.2.2.2.2.2) ∧ (u.2.2.2.1 = 0 ∨ 0 < u.2.2.1)) (kw_B D (fun u => [(mo, .inr (11, [.ref to, .ref ke, .ref ik, .ref mrf, .long mab, .long mbl, .ref ha, .ref r0, .ref mbr, .ref mbp, .ref mby, .int (nI bl), .int (nI ta), .int (nI tl), .int (nI tk), .int vv, .ref an, .ref va])), (mrf, .inl (y 0, 3, .inl u.1)), (to, .inl (y 0, 228, .inl u.2.1)), (ke, .inl (y 0, 456, .inl fke)), (ik, .inl (y 2, 2, .inl fik))]) A) A) [.ref mo, .int (nI 0)].toArray s 0 0 A) (F0 mZ 33 ls []) := by
          intro fuj91
          induction fuj91 with
          | zero => intro j91 x36 H locs ls hj9 hf9; exact absurd hf9 (Nat.not_lt_zero _)
          | succ fuj91 ihj91 =>
            intro j91 x36 H locs ls hj91 hfj91 hI0_j91 hP hD hS hl
            refine lv_iload_n hx hb dX11_from_33 rfl (lv_at hl 0 rfl) ?_
            refine lv_sipush (v := 228) hx hb dX11_from_34 (by decide) ?_
            refine lv_icmp_ge (tgt := 64) hx hb dX11_from_37 (by decide) (fun h63 => ?_) (fun h64 => ?_)
            · skip
              have h63 : 228 ≤ j91 := (nI_leI (a := 228) (b := j91) (by omega) (by omega)).mp h63
              obtain rfl : j91 = 228 := by omega
              subst hI0_j91
              have hP : va_P D vwCl [(mo, .inr (11, [.ref to, .ref ke, .ref ik, .ref mrf, .long mab, .long mbl, .ref ha, .ref r0, .ref mbr, .ref mbp, .ref mby, .int (nI bl), .int (nI ta), .int (nI tl), .int (nI tk), .int vv, .ref an, .ref va])), (mrf, .inl (y 0, 3, .inl frf)), (to, .inl (y 0, 228, .inl (kr_cp ft fke 228))), (ke, .inl (y 0, 456, .inl fke)), (ik, .inl (y 2, 2, .inl fik))] H := hP
              have hD : va_D A [(mo, .inr (11, [.ref to, .ref ke, .ref ik, .ref mrf, .long mab, .long mbl, .ref ha, .ref r0, .ref mbr, .ref mbp, .ref mby, .int (nI bl), .int (nI ta), .int (nI tl), .int (nI tk), .int vv, .ref an, .ref va])), (mrf, .inl (y 0, 3, .inl frf)), (to, .inl (y 0, 228, .inl (kr_cp ft fke 228))), (ke, .inl (y 0, 456, .inl fke)), (ik, .inl (y 2, 2, .inl fik))] := hD
              obtain ⟨q65, q66, q67, q68, q69, h70, h71, h72, h73, h74, h75, h76, h77, h78, h79, h80, h81⟩ := hK0
              have hr82 : kr_t 228 (kr_cp ft fke 228) := kr_cpt h81 hkt (by decide)
              have hk83 : (kr_cp ft fke 228) 0 = (nI q65) := (kr_cp_lt (by decide)).trans h70
              have hk84 : (kr_cp ft fke 228) 1 = (nI q66) := (kr_cp_lt (by decide)).trans h71
              have hk85 : (kr_cp ft fke 228) 2 = (nI q67) := (kr_cp_lt (by decide)).trans h72
              have hk86 : (kr_cp ft fke 228) 3 = (nI q68) := (kr_cp_lt (by decide)).trans h73
              have hk87 : (kr_cp ft fke 228) 4 = (nI q69) := (kr_cp_lt (by decide)).trans h74
              refine lv_iconst (v := 1) hx hb dX11_from_64 (by decide) ?_
              exact W.iret (v := 1) hx hb hr (fun tZ ht hW => ⟨⟨1, (frf, (kr_cp ft fke 228), q65, q66, q67, q68, q69), rfl, ⟨hr82, by first | omega | (dsimp only; omega), hk83, by first | omega | (dsimp only; omega), hk84, by first | omega | (dsimp only; omega), hk85, by first | omega | (dsimp only; omega), hk86, by first | omega | (dsimp only; omega), hk87, by first | omega | (dsimp only; omega)⟩, by rw [ht]; exact hP.sub [0, 1, 2, 3, 4] rfl, hD.sub [0, 1, 2, 3, 4] (by decide) rfl⟩, hS.F ht⟩) hS.2.2 dX11_from_65
            · skip
              have h64 : ¬ 228 ≤ j91 := fun q9 => h64 ((nI_leI (a := 228) (b := j91) (by omega) (by omega)).mpr q9)
              refine lv_aload_n hx hb dX11_from_40 rfl (lv_at hl 1 rfl) ?_
              refine va_get (D := D) (ci := 11) (v := .ref to) (C := RX11) (T := TX11) (N := 18) hx hb hts iw11 hown hK hP 0 rfl rfl 0 (by decide) fw2 (fun _ h9 => h9) rfl dX11_from_41 ?_
              refine lv_iload_n hx hb dX11_from_44 rfl (lv_at hl 0 rfl) ?_
              refine lv_aload_n hx hb dX11_from_45 rfl (lv_at hl 1 rfl) ?_
              refine va_get (D := D) (ci := 11) (v := .ref ke) (C := RX11) (T := TX11) (N := 18) hx hb hts iw11 hown hK hP 0 rfl rfl 1 (by decide) fw3 (fun _ h9 => h9) rfl dX11_from_46 ?_
              refine lv_sipush (v := 228) hx hb dX11_from_49 (by decide) ?_
              refine lv_iload_n hx hb dX11_from_52 rfl (lv_at hl 2 rfl) ?_
              refine lv_imul hx hb dX11_from_53 ?_
              rw [show 228 * (nI 0) = nI (0) from pk_mul 228 0]
              refine lv_iload_n hx hb dX11_from_54 rfl (lv_at hl 0 rfl) ?_
              refine lv_iadd hx hb dX11_from_55 ?_
              rw [show (nI 0) + (nI j91) = nI (j91) from (nI_add 0 j91).trans (congrArg nI (by omega))]
              refine va_iald hx hb hK hP 3 0 rfl rfl (vp_in_nI (by omega) (by decide)) dX11_from_56 ?_
              rw [nI_clamp (n := j91) (by omega)]
              refine va_iast hx hb hK hP hD hS 2 0 rfl rfl (vp_in_nI (by omega) (by decide)) dX11_from_57 (fun H locs hP hD hS => ?_)
              rw [nI_clamp (n := j91) (by omega)] at hP hD
              have hP : va_P D vwCl [(mo, .inr (11, [.ref to, .ref ke, .ref ik, .ref mrf, .long mab, .long mbl, .ref ha, .ref r0, .ref mbr, .ref mbp, .ref mby, .int (nI bl), .int (nI ta), .int (nI tl), .int (nI tk), .int vv, .ref an, .ref va])), (mrf, .inl (y 0, 3, .inl frf)), (to, .inl (y 0, 228, .inl (upd x36 j91 (fke j91)))), (ke, .inl (y 0, 456, .inl fke)), (ik, .inl (y 2, 2, .inl fik))] H := hP
              have hD : va_D A [(mo, .inr (11, [.ref to, .ref ke, .ref ik, .ref mrf, .long mab, .long mbl, .ref ha, .ref r0, .ref mbr, .ref mbp, .ref mby, .int (nI bl), .int (nI ta), .int (nI tl), .int (nI tk), .int vv, .ref an, .ref va])), (mrf, .inl (y 0, 3, .inl frf)), (to, .inl (y 0, 228, .inl (upd x36 j91 (fke j91)))), (ke, .inl (y 0, 456, .inl fke)), (ik, .inl (y 2, 2, .inl fik))] := hD
              refine lv_iinc (v := (nI (j91 + 1))) (lv' := [(2, .int (nI (j91 + 1))), (0, .ref mo), (1, .int (nI 0))]) hx hb dX11_from_58 hl (k := 0) rfl (nI_1 j91) (by decide) rfl (fun ls hl => ?_)
              refine lv_goto (tgt := 33) hx hb dX11_from_61 (by decide) ?_
              exact ihj91 (j91 + 1) (upd x36 j91 (fke j91)) H locs ls (by omega) (by omega) (by rw [hI0_j91]; exact kr_cpS) (hP.sub [0, 1, 2, 3, 4] rfl) (hD.sub [0, 1, 2, 3, 4] (by decide) rfl) hS (lv_sub hl [0, 1, 2] rfl)
        exact lp62 (228 + 1) 0 ft _ _ _ (by omega) (by omega) kr_cp0 hP hD hS (lv_sub hl [0, 1, 2] rfl)
      · skip
        refine lv_aload_n hx hb dX11_from_26 rfl (lv_at hl 0 rfl) ?_
        have hs88 : kw_Split [(mo, .inr (11, [.ref to, .ref ke, .ref ik, .ref mrf, .long mab, .long mbl, .ref ha, .ref r0, .ref mbr, .ref mbp, .ref mby, .int (nI bl), .int (nI ta), .int (nI tl), .int (nI tk), .int vv, .ref an, .ref va])), (mrf, .inl (y 0, 3, .inl frf)), (to, .inl (y 0, 228, .inl ft)), (ke, .inl (y 0, 456, .inl fke)), (ik, .inl (y 2, 2, .inl fik))] [(mo, .inr (11, [.ref to, .ref ke, .ref ik, .ref mrf, .long mab, .long mbl, .ref ha, .ref r0, .ref mbr, .ref mbp, .ref mby, .int (nI bl), .int (nI ta), .int (nI tl), .int (nI tk), .int vv, .ref an, .ref va])), (mrf, .inl (y 0, 3, .inl frf))] [(to, .inl (y 0, 228, .inl ft)), (ke, .inl (y 0, 456, .inl fke)), (ik, .inl (y 2, 2, .inl fik))] [0, 1] [2, 3, 4] := ⟨rfl, rfl, rfl, rfl, rfl, by decide⟩
        refine kw_go_i hs88 hP hD hS hA (va_runV (As := []) (rest := []) ⟨hx, hb, hml, hown, hts⟩ (gr_no l D y mo to ke ik mrf ha r0 mbr mbp mby an va mab mbl bl ta tl tk vv frf  _) (cwV 0 hts gX11_from_X11_no rfl rfl rfl (by decide +kernel) ⟨Nat.le_of_ble_eq_true rfl, Nat.le_of_ble_eq_true rfl⟩) (kw_PreV (ci := 11) (q0 := 0) hs88 hP hD hK hN rfl rfl) rfl rfl hl.1 rfl (lv_room (Nat.le_of_ble_eq_true rfl)) dX11_from_27 ⟨Nat.le_of_ble_eq_true rfl, Nat.le_of_ble_eq_true rfl⟩) (fun r89 u90 H locs hq hP hD hS => ?_)
        obtain rfl := hq
        have hP : va_P D vwCl [(to, .inl (y 0, 228, .inl ft)), (ke, .inl (y 0, 456, .inl fke)), (ik, .inl (y 2, 2, .inl fik)), (mo, .inr (11, [.ref to, .ref ke, .ref ik, .ref mrf, .long mab, .long mbl, .ref ha, .ref r0, .ref mbr, .ref mbp, .ref mby, .int (nI bl), .int (nI ta), .int (nI tl), .int (nI tk), .int vv, .ref an, .ref va])), (mrf, .inl (y 0, 3, .inl (upd frf 1 ((frf 1) + 1))))] H := hP
        have hD : va_D A [(to, .inl (y 0, 228, .inl ft)), (ke, .inl (y 0, 456, .inl fke)), (ik, .inl (y 2, 2, .inl fik)), (mo, .inr (11, [.ref to, .ref ke, .ref ik, .ref mrf, .long mab, .long mbl, .ref ha, .ref r0, .ref mbr, .ref mbp, .ref mby, .int (nI bl), .int (nI ta), .int (nI tl), .int (nI tk), .int vv, .ref an, .ref va])), (mrf, .inl (y 0, 3, .inl (upd frf 1 ((frf 1) + 1))))] := hD
        exact W.iret (v := (-3)) hx hb hr (fun tZ ht hW => ⟨⟨(-3), ((upd frf 1 ((frf 1) + 1)), ft, fi, gl, mi, no, un), rfl, ⟨hkt, by first | omega | (dsimp only; omega), hk0_, by first | omega | (dsimp only; omega), hk1_, by first | omega | (dsimp only; omega), hk2_, by first | omega | (dsimp only; omega), hk3_, by first | omega | (dsimp only; omega), hk4_, by first | omega | (dsimp only; omega)⟩, by rw [ht]; exact hP.sub [3, 4, 0, 1, 2] rfl, hD.sub [3, 4, 0, 1, 2] (by decide) rfl⟩, hS.F ht⟩) hS.2.2 dX11_from_30
    · skip
      refine lv_aload_n hx hb dX11_from_17 rfl (lv_at hl 0 rfl) ?_
      refine va_get (D := D) (ci := 11) (v := .ref ik) (C := RX11) (T := TX11) (N := 18) hx hb hts iw11 hown hK hP 0 rfl rfl 2 (by decide) fw1 (fun _ h9 => h9) rfl dX11_from_18 ?_
      refine lv_iload_n hx hb dX11_from_21 rfl (lv_at hl 1 rfl) ?_
      refine va_zald hx hb hK hP 4 2 rfl rfl (vp_in_nI (by omega) (by decide)) dX11_from_22 ?_
      rw [nI_clamp (n := 1) (by omega)]
      refine lv_if_ne (tgt := 31) hx hb dX11_from_23 (by decide) (fun h91 => ?_) (fun h92 => ?_)
      · skip
        refine lv_iconst (v := 0) hx hb dX11_from_31 (by decide) ?_
        refine lv_istore_n (lv' := [(2, .int 0), (0, .ref mo), (1, .int (nI 1))]) hx hb dX11_from_32 rfl hl (by decide) rfl (fun ls hl => ?_)
        have lp144 : ∀ (fuj91 j91 : Nat) (x118 : Nat → Int32) (H : Heap) (locs : List Loc) (ls : Array Slot), j91 ≤ 228 → 228 - j91 < fuj91 → x118 = kr_cp ft (fun p => fke (p + 228)) j91 → va_P D vwCl [(mo, .inr (11, [.ref to, .ref ke, .ref ik, .ref mrf, .long mab, .long mbl, .ref ha, .ref r0, .ref mbr, .ref mbp, .ref mby, .int (nI bl), .int (nI ta), .int (nI tl), .int (nI tk), .int vv, .ref an, .ref va])), (mrf, .inl (y 0, 3, .inl frf)), (to, .inl (y 0, 228, .inl x118)), (ke, .inl (y 0, 456, .inl fke)), (ik, .inl (y 2, 2, .inl fik))] H → va_D A [(mo, .inr (11, [.ref to, .ref ke, .ref ik, .ref mrf, .long mab, .long mbl, .ref ha, .ref r0, .ref mbr, .ref mbp, .ref mby, .int (nI bl), .int (nI ta), .int (nI tl), .int (nI tk), .int vv, .ref an, .ref va])), (mrf, .inl (y 0, 3, .inl frf)), (to, .inl (y 0, 228, .inl x118)), (ke, .inl (y 0, 456, .inl fke)), (ik, .inl (y 2, 2, .inl fik))] → va_S A s.heap H locs → lv_has ls 3 [(2, .int (nI j91)), (0, .ref mo), (1, .int (nI 1))] → W pZ l eZ ({ frames := 2, cells := 0, slots := 0, locals := 85 }) s mZ [.ref mo, .int (nI 1)].toArray beZ meZ cZ H locs 0 0 (MQ beZ (va_Qi (fun (r : Int32) (u : (Nat → Int32) × (Nat → Int32) × Nat × Nat × Nat × Nat × Nat) => kr_t 228 u.2.1 ∧ u.2.2.1 ≤ 6 ∧ u.2.1 0 = (nI u.2.2.1) ∧ u.2.2.2.1 ≤ 5 ∧ u.2.1 1 = (nI u.2.2.2.1) ∧ u.2.2.2.2.1 ≤ 4 ∧ u.2.1 2 = (nI u.2.2.2.2.1) ∧ u.2.2.2.2.2.1 ≤ 6 ∧ u.2.1 3 = (nI u.2.2.2.2.2.1) ∧ u.2.2.2.2.2.2 ≤ 8 ∧ u.2.1 4 = (nI u.2.2.2.2.2.2) ∧ (u.2.2.2.1 = 0 ∨ 0 < u.2.2.1)) (kw_B D (fun u => [(mo, .inr (11, [.ref to, .ref ke, .ref ik, .ref mrf, .long mab, .long mbl, .ref ha, .ref r0, .ref mbr, .ref mbp, .ref mby, .int (nI bl), .int (nI ta), .int (nI tl), .int (nI tk), .int vv, .ref an, .ref va])), (mrf, .inl (y 0, 3, .inl u.1)), (to, .inl (y 0, 228, .inl u.2.1)), (ke, .inl (y 0, 456, .inl fke)), (ik, .inl (y 2, 2, .inl fik))]) A) A) [.ref mo, .int (nI 1)].toArray s 0 0 A) (F0 mZ 33 ls []) := by
          intro fuj91
          induction fuj91 with
          | zero => intro j91 x118 H locs ls hj9 hf9; exact absurd hf9 (Nat.not_lt_zero _)
          | succ fuj91 ihj91 =>
            intro j91 x118 H locs ls hj91 hfj91 hI0_j91 hP hD hS hl
            refine lv_iload_n hx hb dX11_from_33 rfl (lv_at hl 0 rfl) ?_
            refine lv_sipush (v := 228) hx hb dX11_from_34 (by decide) ?_
            refine lv_icmp_ge (tgt := 64) hx hb dX11_from_37 (by decide) (fun h145 => ?_) (fun h146 => ?_)
            · skip
              have h145 : 228 ≤ j91 := (nI_leI (a := 228) (b := j91) (by omega) (by omega)).mp h145
              obtain rfl : j91 = 228 := by omega
              subst hI0_j91
              have hP : va_P D vwCl [(mo, .inr (11, [.ref to, .ref ke, .ref ik, .ref mrf, .long mab, .long mbl, .ref ha, .ref r0, .ref mbr, .ref mbp, .ref mby, .int (nI bl), .int (nI ta), .int (nI tl), .int (nI tk), .int vv, .ref an, .ref va])), (mrf, .inl (y 0, 3, .inl frf)), (to, .inl (y 0, 228, .inl (kr_cp ft (fun p => fke (p + 228)) 228))), (ke, .inl (y 0, 456, .inl fke)), (ik, .inl (y 2, 2, .inl fik))] H := hP
              have hD : va_D A [(mo, .inr (11, [.ref to, .ref ke, .ref ik, .ref mrf, .long mab, .long mbl, .ref ha, .ref r0, .ref mbr, .ref mbp, .ref mby, .int (nI bl), .int (nI ta), .int (nI tl), .int (nI tk), .int vv, .ref an, .ref va])), (mrf, .inl (y 0, 3, .inl frf)), (to, .inl (y 0, 228, .inl (kr_cp ft (fun p => fke (p + 228)) 228))), (ke, .inl (y 0, 456, .inl fke)), (ik, .inl (y 2, 2, .inl fik))] := hD
              obtain ⟨q147, q148, q149, q150, q151, h152, h153, h154, h155, h156, h157, h158, h159, h160, h161, h162, h163⟩ := hK1
              have hr164 : kr_t 228 (kr_cp ft (fun p => fke (p + 228)) 228) := kr_cpt h163 hkt (by decide)
              have hk165 : (kr_cp ft (fun p => fke (p + 228)) 228) 0 = (nI q147) := (kr_cp_lt (by decide)).trans h152
              have hk166 : (kr_cp ft (fun p => fke (p + 228)) 228) 1 = (nI q148) := (kr_cp_lt (by decide)).trans h153
              have hk167 : (kr_cp ft (fun p => fke (p + 228)) 228) 2 = (nI q149) := (kr_cp_lt (by decide)).trans h154
              have hk168 : (kr_cp ft (fun p => fke (p + 228)) 228) 3 = (nI q150) := (kr_cp_lt (by decide)).trans h155
              have hk169 : (kr_cp ft (fun p => fke (p + 228)) 228) 4 = (nI q151) := (kr_cp_lt (by decide)).trans h156
              refine lv_iconst (v := 1) hx hb dX11_from_64 (by decide) ?_
              exact W.iret (v := 1) hx hb hr (fun tZ ht hW => ⟨⟨1, (frf, (kr_cp ft (fun p => fke (p + 228)) 228), q147, q148, q149, q150, q151), rfl, ⟨hr164, by first | omega | (dsimp only; omega), hk165, by first | omega | (dsimp only; omega), hk166, by first | omega | (dsimp only; omega), hk167, by first | omega | (dsimp only; omega), hk168, by first | omega | (dsimp only; omega), hk169, by first | omega | (dsimp only; omega)⟩, by rw [ht]; exact hP.sub [0, 1, 2, 3, 4] rfl, hD.sub [0, 1, 2, 3, 4] (by decide) rfl⟩, hS.F ht⟩) hS.2.2 dX11_from_65
            · skip
              have h146 : ¬ 228 ≤ j91 := fun q9 => h146 ((nI_leI (a := 228) (b := j91) (by omega) (by omega)).mpr q9)
              refine lv_aload_n hx hb dX11_from_40 rfl (lv_at hl 1 rfl) ?_
              refine va_get (D := D) (ci := 11) (v := .ref to) (C := RX11) (T := TX11) (N := 18) hx hb hts iw11 hown hK hP 0 rfl rfl 0 (by decide) fw2 (fun _ h9 => h9) rfl dX11_from_41 ?_
              refine lv_iload_n hx hb dX11_from_44 rfl (lv_at hl 0 rfl) ?_
              refine lv_aload_n hx hb dX11_from_45 rfl (lv_at hl 1 rfl) ?_
              refine va_get (D := D) (ci := 11) (v := .ref ke) (C := RX11) (T := TX11) (N := 18) hx hb hts iw11 hown hK hP 0 rfl rfl 1 (by decide) fw3 (fun _ h9 => h9) rfl dX11_from_46 ?_
              refine lv_sipush (v := 228) hx hb dX11_from_49 (by decide) ?_
              refine lv_iload_n hx hb dX11_from_52 rfl (lv_at hl 2 rfl) ?_
              refine lv_imul hx hb dX11_from_53 ?_
              rw [show 228 * (nI 1) = nI (228) from pk_mul 228 1]
              refine lv_iload_n hx hb dX11_from_54 rfl (lv_at hl 0 rfl) ?_
              refine lv_iadd hx hb dX11_from_55 ?_
              rw [show (nI 228) + (nI j91) = nI (j91 + 228) from (nI_add 228 j91).trans (congrArg nI (by omega))]
              refine va_iald hx hb hK hP 3 0 rfl rfl (vp_in_nI (by omega) (by decide)) dX11_from_56 ?_
              rw [nI_clamp (n := (j91 + 228)) (by omega)]
              refine va_iast hx hb hK hP hD hS 2 0 rfl rfl (vp_in_nI (by omega) (by decide)) dX11_from_57 (fun H locs hP hD hS => ?_)
              rw [nI_clamp (n := j91) (by omega)] at hP hD
              have hP : va_P D vwCl [(mo, .inr (11, [.ref to, .ref ke, .ref ik, .ref mrf, .long mab, .long mbl, .ref ha, .ref r0, .ref mbr, .ref mbp, .ref mby, .int (nI bl), .int (nI ta), .int (nI tl), .int (nI tk), .int vv, .ref an, .ref va])), (mrf, .inl (y 0, 3, .inl frf)), (to, .inl (y 0, 228, .inl (upd x118 j91 (fke (j91 + 228))))), (ke, .inl (y 0, 456, .inl fke)), (ik, .inl (y 2, 2, .inl fik))] H := hP
              have hD : va_D A [(mo, .inr (11, [.ref to, .ref ke, .ref ik, .ref mrf, .long mab, .long mbl, .ref ha, .ref r0, .ref mbr, .ref mbp, .ref mby, .int (nI bl), .int (nI ta), .int (nI tl), .int (nI tk), .int vv, .ref an, .ref va])), (mrf, .inl (y 0, 3, .inl frf)), (to, .inl (y 0, 228, .inl (upd x118 j91 (fke (j91 + 228))))), (ke, .inl (y 0, 456, .inl fke)), (ik, .inl (y 2, 2, .inl fik))] := hD
              refine lv_iinc (v := (nI (j91 + 1))) (lv' := [(2, .int (nI (j91 + 1))), (0, .ref mo), (1, .int (nI 1))]) hx hb dX11_from_58 hl (k := 0) rfl (nI_1 j91) (by decide) rfl (fun ls hl => ?_)
              refine lv_goto (tgt := 33) hx hb dX11_from_61 (by decide) ?_
              exact ihj91 (j91 + 1) (upd x118 j91 (fke (j91 + 228))) H locs ls (by omega) (by omega) (by rw [hI0_j91]; exact kr_cpS) (hP.sub [0, 1, 2, 3, 4] rfl) (hD.sub [0, 1, 2, 3, 4] (by decide) rfl) hS (lv_sub hl [0, 1, 2] rfl)
        exact lp144 (228 + 1) 0 ft _ _ _ (by omega) (by omega) kr_cp0 hP hD hS (lv_sub hl [0, 1, 2] rfl)
      · skip
        refine lv_aload_n hx hb dX11_from_26 rfl (lv_at hl 0 rfl) ?_
        have hs170 : kw_Split [(mo, .inr (11, [.ref to, .ref ke, .ref ik, .ref mrf, .long mab, .long mbl, .ref ha, .ref r0, .ref mbr, .ref mbp, .ref mby, .int (nI bl), .int (nI ta), .int (nI tl), .int (nI tk), .int vv, .ref an, .ref va])), (mrf, .inl (y 0, 3, .inl frf)), (to, .inl (y 0, 228, .inl ft)), (ke, .inl (y 0, 456, .inl fke)), (ik, .inl (y 2, 2, .inl fik))] [(mo, .inr (11, [.ref to, .ref ke, .ref ik, .ref mrf, .long mab, .long mbl, .ref ha, .ref r0, .ref mbr, .ref mbp, .ref mby, .int (nI bl), .int (nI ta), .int (nI tl), .int (nI tk), .int vv, .ref an, .ref va])), (mrf, .inl (y 0, 3, .inl frf))] [(to, .inl (y 0, 228, .inl ft)), (ke, .inl (y 0, 456, .inl fke)), (ik, .inl (y 2, 2, .inl fik))] [0, 1] [2, 3, 4] := ⟨rfl, rfl, rfl, rfl, rfl, by decide⟩
        refine kw_go_i hs170 hP hD hS hA (va_runV (As := []) (rest := []) ⟨hx, hb, hml, hown, hts⟩ (gr_no l D y mo to ke ik mrf ha r0 mbr mbp mby an va mab mbl bl ta tl tk vv frf  _) (cwV 0 hts gX11_from_X11_no rfl rfl rfl (by decide +kernel) ⟨Nat.le_of_ble_eq_true rfl, Nat.le_of_ble_eq_true rfl⟩) (kw_PreV (ci := 11) (q0 := 0) hs170 hP hD hK hN rfl rfl) rfl rfl hl.1 rfl (lv_room (Nat.le_of_ble_eq_true rfl)) dX11_from_27 ⟨Nat.le_of_ble_eq_true rfl, Nat.le_of_ble_eq_true rfl⟩) (fun r171 u172 H locs hq hP hD hS => ?_)
        obtain rfl := hq
        have hP : va_P D vwCl [(to, .inl (y 0, 228, .inl ft)), (ke, .inl (y 0, 456, .inl fke)), (ik, .inl (y 2, 2, .inl fik)), (mo, .inr (11, [.ref to, .ref ke, .ref ik, .ref mrf, .long mab, .long mbl, .ref ha, .ref r0, .ref mbr, .ref mbp, .ref mby, .int (nI bl), .int (nI ta), .int (nI tl), .int (nI tk), .int vv, .ref an, .ref va])), (mrf, .inl (y 0, 3, .inl (upd frf 1 ((frf 1) + 1))))] H := hP
        have hD : va_D A [(to, .inl (y 0, 228, .inl ft)), (ke, .inl (y 0, 456, .inl fke)), (ik, .inl (y 2, 2, .inl fik)), (mo, .inr (11, [.ref to, .ref ke, .ref ik, .ref mrf, .long mab, .long mbl, .ref ha, .ref r0, .ref mbr, .ref mbp, .ref mby, .int (nI bl), .int (nI ta), .int (nI tl), .int (nI tk), .int vv, .ref an, .ref va])), (mrf, .inl (y 0, 3, .inl (upd frf 1 ((frf 1) + 1))))] := hD
        exact W.iret (v := (-3)) hx hb hr (fun tZ ht hW => ⟨⟨(-3), ((upd frf 1 ((frf 1) + 1)), ft, fi, gl, mi, no, un), rfl, ⟨hkt, by first | omega | (dsimp only; omega), hk0_, by first | omega | (dsimp only; omega), hk1_, by first | omega | (dsimp only; omega), hk2_, by first | omega | (dsimp only; omega), hk3_, by first | omega | (dsimp only; omega), hk4_, by first | omega | (dsimp only; omega)⟩, by rw [ht]; exact hP.sub [3, 4, 0, 1, 2] rfl, hD.sub [3, 4, 0, 1, 2] (by decide) rfl⟩, hS.F ht⟩) hS.2.2 dX11_from_30
  · skip
    exact absurd ⟨k, by omega, by omega, rfl⟩ h8

set_option maxHeartbeats 4000000 in
set_option maxRecDepth 100000 in
theorem gr_isSmall (l : Launch) (D : va_G) (y : Nat → ClassId) (x : Int32)  : kw_Mi l yX11_isSmall wsX11_isSmall ({ frames := 2, cells := 0, slots := 0, locals := 85 }) D y [.int x] [] (fun (r : Int32) (u : Unit) => (r = 0 ∨ r = 1)) (fun _ => []) 0 0 := by
  refine kw_Mi.of (cc := cX11_isSmall) (maxL := 1) (ret := (some .boolean)) (by decide) rfl ?_
  intro pZ eZ s mZ beZ meZ cZ A hE
  obtain ⟨hx, hb, hr, hml, hts, hown, hlocks, hin, hA, hP, hD, hK, hN⟩ := hE
  have hS : va_S A s.heap s.heap [] := va_S.rf
  have hl := lv_entry ([.int x]) (n := 1) (Nat.le_of_ble_eq_true rfl)
  rw [lg_entry_eq]
  generalize (lg_sl ([.int x]) ++ List.replicate (1 - (lg_sl ([.int x])).length) Slot.unset).toArray = ls at hl ⊢
  have hl : lv_has ls 1 [(0, .int x)] := hl
  have fw1 := hts (.constantLong RX11 214 (97)) (List.mem_of_getElem? (i := 1) rfl)
  have fw2 := hts (.constantLong RX11 216 (122)) (List.mem_of_getElem? (i := 2) rfl)
  refine lv_iload_n hx hb dX11_isSmall_0 rfl (lv_at hl 0 rfl) ?_
  refine lv_i2l (v := x.toInt64) hx hb dX11_isSmall_1 (rfl) ?_
  refine lv_ldc2 (v := 97) hx hb hown fw1 dX11_isSmall_2 ?_
  refine lv_ldc2 (v := 122) hx hb hown fw2 dX11_isSmall_5 ?_
  have hs1 : kw_Split [] [] [] [] [] := ⟨rfl, rfl, rfl, rfl, rfl, by decide⟩
  refine kw_go_i hs1 hP hD hS hA (va_runS (As := [.long x.toInt64, .long 97, .long 122]) (rest := []) ⟨hx, hb, hml, hown, hts⟩ (gr_in l D y x 97 122 (by omega) (by omega) _) (va_cwS 3 hts gX11_isSmall_X11_in rfl rfl rfl (by decide +kernel) ⟨Nat.le_of_ble_eq_true rfl, Nat.le_of_ble_eq_true rfl⟩) (kw_PreS hs1 hP hD hK hN) rfl rfl hl.1 rfl (lv_room (Nat.le_of_ble_eq_true rfl)) dX11_isSmall_8 ⟨Nat.le_of_ble_eq_true rfl, Nat.le_of_ble_eq_true rfl⟩) (fun r2 u3 H locs hq hP hD hS => ?_)
  rcases hq with ⟨j4, h5, h6, rfl, rfl⟩ | ⟨h7, rfl⟩
  · skip
    have hP : va_P D vwCl [] H := hP
    have hD : va_D A [] := hD
    exact W.zret (v := 1) hx hb hr (by decide) (fun tZ ht hW => ⟨⟨1, (), rfl, Or.inr rfl, by rw [ht]; exact hP.sub [] rfl, hD.sub [] (by decide) rfl⟩, hS.F ht⟩) hS.2.2 dX11_isSmall_11
  · skip
    have hP : va_P D vwCl [] H := hP
    have hD : va_D A [] := hD
    exact W.zret (v := 0) hx hb hr (by decide) (fun tZ ht hW => ⟨⟨0, (), rfl, Or.inl rfl, by rw [ht]; exact hP.sub [] rfl, hD.sub [] (by decide) rfl⟩, hS.F ht⟩) hS.2.2 dX11_isSmall_11

set_option maxHeartbeats 4000000 in
set_option maxRecDepth 100000 in
theorem gr_isFigure (l : Launch) (D : va_G) (y : Nat → ClassId) (x : Int32)  : kw_Mi l yX11_isFigure wsX11_isFigure ({ frames := 2, cells := 0, slots := 0, locals := 85 }) D y [.int x] [] (fun (r : Int32) (u : Unit) => (r = 0 ∨ r = 1)) (fun _ => []) 0 0 := by
  refine kw_Mi.of (cc := cX11_isFigure) (maxL := 1) (ret := (some .boolean)) (by decide) rfl ?_
  intro pZ eZ s mZ beZ meZ cZ A hE
  obtain ⟨hx, hb, hr, hml, hts, hown, hlocks, hin, hA, hP, hD, hK, hN⟩ := hE
  have hS : va_S A s.heap s.heap [] := va_S.rf
  have hl := lv_entry ([.int x]) (n := 1) (Nat.le_of_ble_eq_true rfl)
  rw [lg_entry_eq]
  generalize (lg_sl ([.int x]) ++ List.replicate (1 - (lg_sl ([.int x])).length) Slot.unset).toArray = ls at hl ⊢
  have hl : lv_has ls 1 [(0, .int x)] := hl
  have fw1 := hts (.constantLong RX11 218 (48)) (List.mem_of_getElem? (i := 1) rfl)
  have fw2 := hts (.constantLong RX11 220 (57)) (List.mem_of_getElem? (i := 2) rfl)
  refine lv_iload_n hx hb dX11_isFigure_0 rfl (lv_at hl 0 rfl) ?_
  refine lv_i2l (v := x.toInt64) hx hb dX11_isFigure_1 (rfl) ?_
  refine lv_ldc2 (v := 48) hx hb hown fw1 dX11_isFigure_2 ?_
  refine lv_ldc2 (v := 57) hx hb hown fw2 dX11_isFigure_5 ?_
  have hs1 : kw_Split [] [] [] [] [] := ⟨rfl, rfl, rfl, rfl, rfl, by decide⟩
  refine kw_go_i hs1 hP hD hS hA (va_runS (As := [.long x.toInt64, .long 48, .long 57]) (rest := []) ⟨hx, hb, hml, hown, hts⟩ (gr_in l D y x 48 57 (by omega) (by omega) _) (va_cwS 3 hts gX11_isFigure_X11_in rfl rfl rfl (by decide +kernel) ⟨Nat.le_of_ble_eq_true rfl, Nat.le_of_ble_eq_true rfl⟩) (kw_PreS hs1 hP hD hK hN) rfl rfl hl.1 rfl (lv_room (Nat.le_of_ble_eq_true rfl)) dX11_isFigure_8 ⟨Nat.le_of_ble_eq_true rfl, Nat.le_of_ble_eq_true rfl⟩) (fun r2 u3 H locs hq hP hD hS => ?_)
  rcases hq with ⟨j4, h5, h6, rfl, rfl⟩ | ⟨h7, rfl⟩
  · skip
    have hP : va_P D vwCl [] H := hP
    have hD : va_D A [] := hD
    exact W.zret (v := 1) hx hb hr (by decide) (fun tZ ht hW => ⟨⟨1, (), rfl, Or.inr rfl, by rw [ht]; exact hP.sub [] rfl, hD.sub [] (by decide) rfl⟩, hS.F ht⟩) hS.2.2 dX11_isFigure_11
  · skip
    have hP : va_P D vwCl [] H := hP
    have hD : va_D A [] := hD
    exact W.zret (v := 0) hx hb hr (by decide) (fun tZ ht hW => ⟨⟨0, (), rfl, Or.inl rfl, by rw [ht]; exact hP.sub [] rfl, hD.sub [] (by decide) rfl⟩, hS.F ht⟩) hS.2.2 dX11_isFigure_11
