set_option maxHeartbeats 4000000 in
set_option maxRecDepth 100000 in
theorem gs_passNumber (l : Launch) (D : va_G) (y : Nat → ClassId) (tx : Nat) (bys : Nat) (wo : Nat) (fs : Nat) (sc : Nat) (ln : Nat) (sta : Nat) (tok : Int32) (num : Int32) (tfi : Int32) (tgl : Int32) (tst : Int32) (fby : Nat → Int32) (hln : ln ≤ 150) (hlt : sta < ln) (hf1 : ks_f (fby sta) = true) : kw_Mv l yX7_passNumber wsX7_passNumber ({ frames := 2, cells := 0, slots := 0, locals := 80 }) D y [.ref tx] [(tx, .inr (7, [.ref bys, .int (nI ln), .int tok, .int (nI sta), .int (nI sta), .int num, .ref wo, .ref fs, .ref sc, .int tfi, .int tgl, .int tst])), (bys, .inl (y 1, 150, .inl fby))] (fun (u : Int32 × Nat × Int32) => u.2.1 ≤ ln ∧ sta ≤ u.2.1 ∧ kz_Ts fby ln sta u.1 u.2.1 u.2.2) (fun u => [(tx, .inr (7, [.ref bys, .int (nI ln), .int u.1, .int (nI sta), .int (nI u.2.1), .int u.2.2, .ref wo, .ref fs, .ref sc, .int tfi, .int tgl, .int tst])), (bys, .inl (y 1, 150, .inl fby))]) 0 0 := by
  refine kw_Mv.of (cc := cX7_passNumber) (maxL := 1) (ret := none) (by decide) rfl ?_
  intro pZ eZ s mZ beZ meZ cZ A hE
  obtain ⟨hx, hb, hr, hml, hts, hown, hlocks, hin, hA, hP, hD, hK, hN⟩ := hE
  have hS : va_S A s.heap s.heap [] := va_S.rf
  have hl := lv_entry ([.ref tx]) (n := 1) (Nat.le_of_ble_eq_true rfl)
  rw [lg_entry_eq]
  generalize (lg_sl ([.ref tx]) ++ List.replicate (1 - (lg_sl ([.ref tx])).length) Slot.unset).toArray = ls at hl ⊢
  have hl : lv_has ls 1 [(0, .ref tx)] := hl
  have fw1 := hts (.fieldLink RX7 62 "GleanDusk$Text" "number" "I") (List.mem_of_getElem? (i := 1) rfl)
  have fw2 := hts (.fieldLink RX7 29 "GleanDusk$Text" "end" "I") (List.mem_of_getElem? (i := 2) rfl)
  have fw3 := hts (.fieldLink RX7 25 "GleanDusk$Text" "length" "I") (List.mem_of_getElem? (i := 3) rfl)
  have fw4 := hts (.fieldLink RX7 51 "GleanDusk$Text" "start" "I") (List.mem_of_getElem? (i := 5) rfl)
  have fw5 := hts (.fieldLink RX7 44 "GleanDusk$Text" "token" "I") (List.mem_of_getElem? (i := 6) rfl)
  have fw6 := hts (.fieldLink RX7 9 "GleanDusk$Text" "bytes" "[B") (List.mem_of_getElem? (i := 4) rfl)
  have iw7 : ∀ w ∈ wsX70, w ∈ wsX7_passNumber := fun _ h => List.mem_cons_of_mem _ (List.mem_append_right _ h)
  refine lv_aload_n hx hb dX7_passNumber_0 rfl (lv_at hl 0 rfl) ?_
  refine lv_iconst (v := 0) hx hb dX7_passNumber_1 (by decide) ?_
  refine va_put (D := D) (ci := 7) (v := .int 0) (ty := .int) (C := RX7) (T := TX7) (N := 12) hx hb hts iw7 tyX7 tyX7_ok nmX7 hown hK hP hD hS 0 rfl rfl 5 (by decide) fw1 (fun _ h9 => h9) rfl (by decide +kernel) rfl rfl (Nat.le_of_ble_eq_true rfl) dX7_passNumber_2 (fun H locs hP hD hS => ?_)
  have hP : va_P D vwCl [(tx, .inr (7, [.ref bys, .int (nI ln), .int tok, .int (nI sta), .int (nI sta), .int 0, .ref wo, .ref fs, .ref sc, .int tfi, .int tgl, .int tst])), (bys, .inl (y 1, 150, .inl fby))] H := hP
  have hD : va_D A [(tx, .inr (7, [.ref bys, .int (nI ln), .int tok, .int (nI sta), .int (nI sta), .int 0, .ref wo, .ref fs, .ref sc, .int tfi, .int tgl, .int tst])), (bys, .inl (y 1, 150, .inl fby))] := hD
  have lp37 : ∀ (fuj91 j91 : Nat) (x19 : Nat) (H : Heap) (locs : List Loc) (ls : Array Slot), j91 ≤ ln → ln - j91 < fuj91 → x19 ≤ 99 → sta ≤ j91 → ks_to ks_f fby ln sta = ks_to ks_f fby ln j91 → x19 = ks_val fby sta j91 → (j91 - sta < 2 → x19 ≤ 9) → (j91 - sta < 1 → x19 = 0) → va_P D vwCl [(tx, .inr (7, [.ref bys, .int (nI ln), .int tok, .int (nI sta), .int (nI j91), .int (nI x19), .ref wo, .ref fs, .ref sc, .int tfi, .int tgl, .int tst])), (bys, .inl (y 1, 150, .inl fby))] H → va_D A [(tx, .inr (7, [.ref bys, .int (nI ln), .int tok, .int (nI sta), .int (nI j91), .int (nI x19), .ref wo, .ref fs, .ref sc, .int tfi, .int tgl, .int tst])), (bys, .inl (y 1, 150, .inl fby))] → va_S A s.heap H locs → lv_has ls 1 [(0, .ref tx)] → W pZ l eZ ({ frames := 2, cells := 0, slots := 0, locals := 80 }) s mZ [.ref tx].toArray beZ meZ cZ H locs 0 0 (MQ beZ (va_Qv (fun (u : Int32 × Nat × Int32) => u.2.1 ≤ ln ∧ sta ≤ u.2.1 ∧ kz_Ts fby ln sta u.1 u.2.1 u.2.2) (kw_B D (fun u => [(tx, .inr (7, [.ref bys, .int (nI ln), .int u.1, .int (nI sta), .int (nI u.2.1), .int u.2.2, .ref wo, .ref fs, .ref sc, .int tfi, .int tgl, .int tst])), (bys, .inl (y 1, 150, .inl fby))]) A) A) [.ref tx].toArray s 0 0 A) (F0 mZ 5 ls []) := by
    intro fuj91
    induction fuj91 with
    | zero => intro j91 x19 H locs ls hj9 hf9; exact absurd hf9 (Nat.not_lt_zero _)
    | succ fuj91 ihj91 =>
      intro j91 x19 H locs ls hj91 hfj91 hn_x19 hlo_j91 hI0_j91 hI1_j91 hI2_j91 hI3_j91 hP hD hS hl
      refine lv_aload_n hx hb dX7_passNumber_5 rfl (lv_at hl 0 rfl) ?_
      refine va_get (D := D) (ci := 7) (v := .int (nI j91)) (C := RX7) (T := TX7) (N := 12) hx hb hts iw7 hown hK hP 0 rfl rfl 4 (by decide) fw2 (fun _ h9 => h9) rfl dX7_passNumber_6 ?_
      refine lv_aload_n hx hb dX7_passNumber_9 rfl (lv_at hl 0 rfl) ?_
      refine va_get (D := D) (ci := 7) (v := .int (nI ln)) (C := RX7) (T := TX7) (N := 12) hx hb hts iw7 hown hK hP 0 rfl rfl 1 (by decide) fw3 (fun _ h9 => h9) rfl dX7_passNumber_10 ?_
      refine lv_icmp_ge (tgt := 81) hx hb dX7_passNumber_13 (by decide) (fun h38 => ?_) (fun h39 => ?_)
      · skip
        have h38 : ln ≤ j91 := (nI_leI (a := ln) (b := j91) (by omega) (by omega)).mp h38
        refine lv_aload_n hx hb dX7_passNumber_81 rfl (lv_at hl 0 rfl) ?_
        refine lv_aload_n hx hb dX7_passNumber_82 rfl (lv_at hl 0 rfl) ?_
        refine va_get (D := D) (ci := 7) (v := .int (nI j91)) (C := RX7) (T := TX7) (N := 12) hx hb hts iw7 hown hK hP 0 rfl rfl 4 (by decide) fw2 (fun _ h9 => h9) rfl dX7_passNumber_83 ?_
        refine lv_aload_n hx hb dX7_passNumber_86 rfl (lv_at hl 0 rfl) ?_
        refine va_get (D := D) (ci := 7) (v := .int (nI sta)) (C := RX7) (T := TX7) (N := 12) hx hb hts iw7 hown hK hP 0 rfl rfl 3 (by decide) fw4 (fun _ h9 => h9) rfl dX7_passNumber_87 ?_
        refine lv_isub hx hb dX7_passNumber_90 ?_
        rw [show (nI j91) - (nI sta) = nI (j91 - sta) from pk_sub (a := j91) (b := sta) (by omega)]
        refine lv_iconst (v := 2) hx hb dX7_passNumber_91 (by decide) ?_
        refine lv_icmp_gt (tgt := 99) hx hb dX7_passNumber_92 (by decide) (fun h40 => ?_) (fun h41 => ?_)
        · skip
          have h40 : 2 < (j91 - sta) := (nI_ltI (a := 2) (b := (j91 - sta)) (by omega) (by omega)).mp h40
          refine lv_iconst (v := 4) hx hb dX7_passNumber_99 (by decide) ?_
          refine va_put (D := D) (ci := 7) (v := .int 4) (ty := .int) (C := RX7) (T := TX7) (N := 12) hx hb hts iw7 tyX7 tyX7_ok nmX7 hown hK hP hD hS 0 rfl rfl 2 (by decide) fw5 (fun _ h9 => h9) rfl (by decide +kernel) rfl rfl (Nat.le_of_ble_eq_true rfl) dX7_passNumber_100 (fun H locs hP hD hS => ?_)
          have hP : va_P D vwCl [(tx, .inr (7, [.ref bys, .int (nI ln), .int 4, .int (nI sta), .int (nI j91), .int (nI x19), .ref wo, .ref fs, .ref sc, .int tfi, .int tgl, .int tst])), (bys, .inl (y 1, 150, .inl fby))] H := hP
          have hD : va_D A [(tx, .inr (7, [.ref bys, .int (nI ln), .int 4, .int (nI sta), .int (nI j91), .int (nI x19), .ref wo, .ref fs, .ref sc, .int tfi, .int tgl, .int tst])), (bys, .inl (y 1, 150, .inl fby))] := hD
          exact W.vret hx hb hr (fun tZ ht hW => ⟨⟨(4, j91, (nI x19)), rfl, ⟨by first | omega | (dsimp only; omega), by first | omega | (dsimp only; omega), kz_Ts.mk (by rw [if_neg (by first | omega | (dsimp only; omega))]; rfl) (kz_Tn_f hlt hf1 (ks_s3 hI0_j91 (by first | omega | (dsimp only; omega))) hI1_j91 (by first | omega | (dsimp only; omega)))⟩, by rw [ht]; exact hP.sub [0, 1] rfl, hD.sub [0, 1] (by decide) rfl⟩, hS.F ht⟩) hS.2.2 dX7_passNumber_103
        · skip
          have h41 : ¬ 2 < (j91 - sta) := fun q9 => h41 ((nI_ltI (a := 2) (b := (j91 - sta)) (by omega) (by omega)).mpr q9)
          refine lv_iconst (v := 2) hx hb dX7_passNumber_95 (by decide) ?_
          refine lv_goto (tgt := 100) hx hb dX7_passNumber_96 (by decide) ?_
          refine va_put (D := D) (ci := 7) (v := .int 2) (ty := .int) (C := RX7) (T := TX7) (N := 12) hx hb hts iw7 tyX7 tyX7_ok nmX7 hown hK hP hD hS 0 rfl rfl 2 (by decide) fw5 (fun _ h9 => h9) rfl (by decide +kernel) rfl rfl (Nat.le_of_ble_eq_true rfl) dX7_passNumber_100 (fun H locs hP hD hS => ?_)
          have hP : va_P D vwCl [(tx, .inr (7, [.ref bys, .int (nI ln), .int 2, .int (nI sta), .int (nI j91), .int (nI x19), .ref wo, .ref fs, .ref sc, .int tfi, .int tgl, .int tst])), (bys, .inl (y 1, 150, .inl fby))] H := hP
          have hD : va_D A [(tx, .inr (7, [.ref bys, .int (nI ln), .int 2, .int (nI sta), .int (nI j91), .int (nI x19), .ref wo, .ref fs, .ref sc, .int tfi, .int tgl, .int tst])), (bys, .inl (y 1, 150, .inl fby))] := hD
          exact W.vret hx hb hr (fun tZ ht hW => ⟨⟨(2, j91, (nI x19)), rfl, ⟨by first | omega | (dsimp only; omega), by first | omega | (dsimp only; omega), kz_Ts.mk (by rw [if_pos (by first | omega | (dsimp only; omega))]; rfl) (kz_Tn_f hlt hf1 (ks_s3 hI0_j91 (by first | omega | (dsimp only; omega))) hI1_j91 (by first | omega | (dsimp only; omega)))⟩, by rw [ht]; exact hP.sub [0, 1] rfl, hD.sub [0, 1] (by decide) rfl⟩, hS.F ht⟩) hS.2.2 dX7_passNumber_103
      · skip
        have h39 : ¬ ln ≤ j91 := fun q9 => h39 ((nI_leI (a := ln) (b := j91) (by omega) (by omega)).mpr q9)
        refine lv_aload_n hx hb dX7_passNumber_16 rfl (lv_at hl 0 rfl) ?_
        refine va_get (D := D) (ci := 7) (v := .ref bys) (C := RX7) (T := TX7) (N := 12) hx hb hts iw7 hown hK hP 0 rfl rfl 0 (by decide) fw6 (fun _ h9 => h9) rfl dX7_passNumber_17 ?_
        refine lv_aload_n hx hb dX7_passNumber_20 rfl (lv_at hl 0 rfl) ?_
        refine va_get (D := D) (ci := 7) (v := .int (nI j91)) (C := RX7) (T := TX7) (N := 12) hx hb hts iw7 hown hK hP 0 rfl rfl 4 (by decide) fw2 (fun _ h9 => h9) rfl dX7_passNumber_21 ?_
        refine va_bald hx hb hK hP 1 1 rfl rfl (vp_in_nI (by omega) (by decide)) dX7_passNumber_24 ?_
        rw [nI_clamp (n := j91) (by omega)]
        have hs42 : kw_Split [(tx, .inr (7, [.ref bys, .int (nI ln), .int tok, .int (nI sta), .int (nI j91), .int (nI x19), .ref wo, .ref fs, .ref sc, .int tfi, .int tgl, .int tst])), (bys, .inl (y 1, 150, .inl fby))] [] [(tx, .inr (7, [.ref bys, .int (nI ln), .int tok, .int (nI sta), .int (nI j91), .int (nI x19), .ref wo, .ref fs, .ref sc, .int tfi, .int tgl, .int tst])), (bys, .inl (y 1, 150, .inl fby))] [] [0, 1] := ⟨rfl, rfl, rfl, rfl, rfl, by decide⟩
        refine kw_go_i hs42 hP hD hS hA (va_runS (As := [.int (fby j91)]) (rest := []) ⟨hx, hb, hml, hown, hts⟩ (gs_isFigure l D y (fby j91)  _) (va_cwS 1 hts gX7_passNumber_X7_isFigure rfl rfl rfl (by decide +kernel) ⟨Nat.le_of_ble_eq_true rfl, Nat.le_of_ble_eq_true rfl⟩) (kw_PreS hs42 hP hD hK hN) rfl rfl hl.1 rfl (lv_room (Nat.le_of_ble_eq_true rfl)) dX7_passNumber_25 ⟨Nat.le_of_ble_eq_true rfl, Nat.le_of_ble_eq_true rfl⟩) (fun r43 u44 H locs hq hP hD hS => ?_)
        rcases hq with ⟨h45, rfl⟩ | ⟨h46, rfl⟩
        · skip
          have hP : va_P D vwCl [(tx, .inr (7, [.ref bys, .int (nI ln), .int tok, .int (nI sta), .int (nI j91), .int (nI x19), .ref wo, .ref fs, .ref sc, .int tfi, .int tgl, .int tst])), (bys, .inl (y 1, 150, .inl fby))] H := hP
          have hD : va_D A [(tx, .inr (7, [.ref bys, .int (nI ln), .int tok, .int (nI sta), .int (nI j91), .int (nI x19), .ref wo, .ref fs, .ref sc, .int tfi, .int tgl, .int tst])), (bys, .inl (y 1, 150, .inl fby))] := hD
          refine lv_if_eq (tgt := 81) hx hb dX7_passNumber_28 (by decide) (fun h9 => absurd h9 (by decide)) (fun _ => ?_)
          refine lv_aload_n hx hb dX7_passNumber_31 rfl (lv_at hl 0 rfl) ?_
          refine va_get (D := D) (ci := 7) (v := .int (nI j91)) (C := RX7) (T := TX7) (N := 12) hx hb hts iw7 hown hK hP 0 rfl rfl 4 (by decide) fw2 (fun _ h9 => h9) rfl dX7_passNumber_32 ?_
          refine lv_aload_n hx hb dX7_passNumber_35 rfl (lv_at hl 0 rfl) ?_
          refine va_get (D := D) (ci := 7) (v := .int (nI sta)) (C := RX7) (T := TX7) (N := 12) hx hb hts iw7 hown hK hP 0 rfl rfl 3 (by decide) fw4 (fun _ h9 => h9) rfl dX7_passNumber_36 ?_
          refine lv_isub hx hb dX7_passNumber_39 ?_
          rw [show (nI j91) - (nI sta) = nI (j91 - sta) from pk_sub (a := j91) (b := sta) (by omega)]
          refine lv_iconst (v := 2) hx hb dX7_passNumber_40 (by decide) ?_
          refine lv_icmp_ge (tgt := 68) hx hb dX7_passNumber_41 (by decide) (fun h47 => ?_) (fun h48 => ?_)
          · skip
            have h47 : 2 ≤ (j91 - sta) := (nI_leI (a := 2) (b := (j91 - sta)) (by omega) (by omega)).mp h47
            refine lv_aload_n hx hb dX7_passNumber_68 rfl (lv_at hl 0 rfl) ?_
            refine lv_dup hx hb dX7_passNumber_69 rfl ?_
            refine va_get (D := D) (ci := 7) (v := .int (nI j91)) (C := RX7) (T := TX7) (N := 12) hx hb hts iw7 hown hK hP 0 rfl rfl 4 (by decide) fw2 (fun _ h9 => h9) rfl dX7_passNumber_70 ?_
            refine lv_iconst (v := 1) hx hb dX7_passNumber_73 (by decide) ?_
            refine lv_iadd hx hb dX7_passNumber_74 ?_
            rw [show (nI j91) + 1 = nI (j91 + 1) from nI_add j91 1]
            refine va_put (D := D) (ci := 7) (v := .int (nI (j91 + 1))) (ty := .int) (C := RX7) (T := TX7) (N := 12) hx hb hts iw7 tyX7 tyX7_ok nmX7 hown hK hP hD hS 0 rfl rfl 4 (by decide) fw2 (fun _ h9 => h9) rfl (by decide +kernel) rfl rfl (Nat.le_of_ble_eq_true rfl) dX7_passNumber_75 (fun H locs hP hD hS => ?_)
            have hP : va_P D vwCl [(tx, .inr (7, [.ref bys, .int (nI ln), .int tok, .int (nI sta), .int (nI (j91 + 1)), .int (nI x19), .ref wo, .ref fs, .ref sc, .int tfi, .int tgl, .int tst])), (bys, .inl (y 1, 150, .inl fby))] H := hP
            have hD : va_D A [(tx, .inr (7, [.ref bys, .int (nI ln), .int tok, .int (nI sta), .int (nI (j91 + 1)), .int (nI x19), .ref wo, .ref fs, .ref sc, .int tfi, .int tgl, .int tst])), (bys, .inl (y 1, 150, .inl fby))] := hD
            refine lv_goto (tgt := 5) hx hb dX7_passNumber_78 (by decide) ?_
            exact ihj91 (j91 + 1) x19 H locs ls (by omega) (by omega) (by omega) (by omega) (hI0_j91.trans (ks_to_step (by omega) h45)) (ks_valN hI1_j91 (by omega)) (by omega) (by omega) (hP.sub [0, 1] rfl) (hD.sub [0, 1] (by decide) rfl) hS (lv_sub hl [0] rfl)
          · skip
            have h48 : ¬ 2 ≤ (j91 - sta) := fun q9 => h48 ((nI_leI (a := 2) (b := (j91 - sta)) (by omega) (by omega)).mpr q9)
            refine lv_aload_n hx hb dX7_passNumber_44 rfl (lv_at hl 0 rfl) ?_
            refine lv_bipush (v := 10) hx hb dX7_passNumber_45 (by decide) ?_
            refine lv_aload_n hx hb dX7_passNumber_47 rfl (lv_at hl 0 rfl) ?_
            refine va_get (D := D) (ci := 7) (v := .int (nI x19)) (C := RX7) (T := TX7) (N := 12) hx hb hts iw7 hown hK hP 0 rfl rfl 5 (by decide) fw1 (fun _ h9 => h9) rfl dX7_passNumber_48 ?_
            refine lv_imul hx hb dX7_passNumber_51 ?_
            rw [show 10 * (nI x19) = nI (10 * x19) from pk_mul 10 x19]
            refine lv_aload_n hx hb dX7_passNumber_52 rfl (lv_at hl 0 rfl) ?_
            refine va_get (D := D) (ci := 7) (v := .ref bys) (C := RX7) (T := TX7) (N := 12) hx hb hts iw7 hown hK hP 0 rfl rfl 0 (by decide) fw6 (fun _ h9 => h9) rfl dX7_passNumber_53 ?_
            refine lv_aload_n hx hb dX7_passNumber_56 rfl (lv_at hl 0 rfl) ?_
            refine va_get (D := D) (ci := 7) (v := .int (nI j91)) (C := RX7) (T := TX7) (N := 12) hx hb hts iw7 hown hK hP 0 rfl rfl 4 (by decide) fw2 (fun _ h9 => h9) rfl dX7_passNumber_57 ?_
            refine va_bald hx hb hK hP 1 1 rfl rfl (vp_in_nI (by omega) (by decide)) dX7_passNumber_60 ?_
            rw [nI_clamp (n := j91) (by omega)]
            obtain ⟨w49, h50, h51, h52⟩ := ks_fj h45
            rw [h52]
            refine lv_iadd hx hb dX7_passNumber_61 ?_
            rw [show (nI (10 * x19)) + (nI w49) = nI ((10 * x19) + w49) from nI_add (10 * x19) w49]
            refine lv_bipush (v := 48) hx hb dX7_passNumber_62 (by decide) ?_
            refine lv_isub hx hb dX7_passNumber_64 ?_
            rw [show (nI ((10 * x19) + w49)) - 48 = nI (((10 * x19) + w49) - 48) from pk_sub (a := ((10 * x19) + w49)) (b := 48) (by omega)]
            refine va_put (D := D) (ci := 7) (v := .int (nI (((10 * x19) + w49) - 48))) (ty := .int) (C := RX7) (T := TX7) (N := 12) hx hb hts iw7 tyX7 tyX7_ok nmX7 hown hK hP hD hS 0 rfl rfl 5 (by decide) fw1 (fun _ h9 => h9) rfl (by decide +kernel) rfl rfl (Nat.le_of_ble_eq_true rfl) dX7_passNumber_65 (fun H locs hP hD hS => ?_)
            have hP : va_P D vwCl [(tx, .inr (7, [.ref bys, .int (nI ln), .int tok, .int (nI sta), .int (nI j91), .int (nI (((10 * x19) + w49) - 48)), .ref wo, .ref fs, .ref sc, .int tfi, .int tgl, .int tst])), (bys, .inl (y 1, 150, .inl fby))] H := hP
            have hD : va_D A [(tx, .inr (7, [.ref bys, .int (nI ln), .int tok, .int (nI sta), .int (nI j91), .int (nI (((10 * x19) + w49) - 48)), .ref wo, .ref fs, .ref sc, .int tfi, .int tgl, .int tst])), (bys, .inl (y 1, 150, .inl fby))] := hD
            refine lv_aload_n hx hb dX7_passNumber_68 rfl (lv_at hl 0 rfl) ?_
            refine lv_dup hx hb dX7_passNumber_69 rfl ?_
            refine va_get (D := D) (ci := 7) (v := .int (nI j91)) (C := RX7) (T := TX7) (N := 12) hx hb hts iw7 hown hK hP 0 rfl rfl 4 (by decide) fw2 (fun _ h9 => h9) rfl dX7_passNumber_70 ?_
            refine lv_iconst (v := 1) hx hb dX7_passNumber_73 (by decide) ?_
            refine lv_iadd hx hb dX7_passNumber_74 ?_
            rw [show (nI j91) + 1 = nI (j91 + 1) from nI_add j91 1]
            refine va_put (D := D) (ci := 7) (v := .int (nI (j91 + 1))) (ty := .int) (C := RX7) (T := TX7) (N := 12) hx hb hts iw7 tyX7 tyX7_ok nmX7 hown hK hP hD hS 0 rfl rfl 4 (by decide) fw2 (fun _ h9 => h9) rfl (by decide +kernel) rfl rfl (Nat.le_of_ble_eq_true rfl) dX7_passNumber_75 (fun H locs hP hD hS => ?_)
            have hP : va_P D vwCl [(tx, .inr (7, [.ref bys, .int (nI ln), .int tok, .int (nI sta), .int (nI (j91 + 1)), .int (nI (((10 * x19) + w49) - 48)), .ref wo, .ref fs, .ref sc, .int tfi, .int tgl, .int tst])), (bys, .inl (y 1, 150, .inl fby))] H := hP
            have hD : va_D A [(tx, .inr (7, [.ref bys, .int (nI ln), .int tok, .int (nI sta), .int (nI (j91 + 1)), .int (nI (((10 * x19) + w49) - 48)), .ref wo, .ref fs, .ref sc, .int tfi, .int tgl, .int tst])), (bys, .inl (y 1, 150, .inl fby))] := hD
            refine lv_goto (tgt := 5) hx hb dX7_passNumber_78 (by decide) ?_
            exact ihj91 (j91 + 1) (((10 * x19) + w49) - 48) H locs ls (by omega) (by omega) (by omega) (by omega) (hI0_j91.trans (ks_to_step (by omega) h45)) (ks_valS hI1_j91 (by omega) (by omega) h52 h50 h51) (by omega) (by omega) (hP.sub [0, 1] rfl) (hD.sub [0, 1] (by decide) rfl) hS (lv_sub hl [0] rfl)
        · skip
          have hP : va_P D vwCl [(tx, .inr (7, [.ref bys, .int (nI ln), .int tok, .int (nI sta), .int (nI j91), .int (nI x19), .ref wo, .ref fs, .ref sc, .int tfi, .int tgl, .int tst])), (bys, .inl (y 1, 150, .inl fby))] H := hP
          have hD : va_D A [(tx, .inr (7, [.ref bys, .int (nI ln), .int tok, .int (nI sta), .int (nI j91), .int (nI x19), .ref wo, .ref fs, .ref sc, .int tfi, .int tgl, .int tst])), (bys, .inl (y 1, 150, .inl fby))] := hD
          refine lv_if_eq (tgt := 81) hx hb dX7_passNumber_28 (by decide) (fun _ => ?_) (fun h9 => absurd h9 (by decide))
          refine lv_aload_n hx hb dX7_passNumber_81 rfl (lv_at hl 0 rfl) ?_
          refine lv_aload_n hx hb dX7_passNumber_82 rfl (lv_at hl 0 rfl) ?_
          refine va_get (D := D) (ci := 7) (v := .int (nI j91)) (C := RX7) (T := TX7) (N := 12) hx hb hts iw7 hown hK hP 0 rfl rfl 4 (by decide) fw2 (fun _ h9 => h9) rfl dX7_passNumber_83 ?_
          refine lv_aload_n hx hb dX7_passNumber_86 rfl (lv_at hl 0 rfl) ?_
          refine va_get (D := D) (ci := 7) (v := .int (nI sta)) (C := RX7) (T := TX7) (N := 12) hx hb hts iw7 hown hK hP 0 rfl rfl 3 (by decide) fw4 (fun _ h9 => h9) rfl dX7_passNumber_87 ?_
          refine lv_isub hx hb dX7_passNumber_90 ?_
          rw [show (nI j91) - (nI sta) = nI (j91 - sta) from pk_sub (a := j91) (b := sta) (by omega)]
          refine lv_iconst (v := 2) hx hb dX7_passNumber_91 (by decide) ?_
          refine lv_icmp_gt (tgt := 99) hx hb dX7_passNumber_92 (by decide) (fun h53 => ?_) (fun h54 => ?_)
          · skip
            have h53 : 2 < (j91 - sta) := (nI_ltI (a := 2) (b := (j91 - sta)) (by omega) (by omega)).mp h53
            refine lv_iconst (v := 4) hx hb dX7_passNumber_99 (by decide) ?_
            refine va_put (D := D) (ci := 7) (v := .int 4) (ty := .int) (C := RX7) (T := TX7) (N := 12) hx hb hts iw7 tyX7 tyX7_ok nmX7 hown hK hP hD hS 0 rfl rfl 2 (by decide) fw5 (fun _ h9 => h9) rfl (by decide +kernel) rfl rfl (Nat.le_of_ble_eq_true rfl) dX7_passNumber_100 (fun H locs hP hD hS => ?_)
            have hP : va_P D vwCl [(tx, .inr (7, [.ref bys, .int (nI ln), .int 4, .int (nI sta), .int (nI j91), .int (nI x19), .ref wo, .ref fs, .ref sc, .int tfi, .int tgl, .int tst])), (bys, .inl (y 1, 150, .inl fby))] H := hP
            have hD : va_D A [(tx, .inr (7, [.ref bys, .int (nI ln), .int 4, .int (nI sta), .int (nI j91), .int (nI x19), .ref wo, .ref fs, .ref sc, .int tfi, .int tgl, .int tst])), (bys, .inl (y 1, 150, .inl fby))] := hD
            exact W.vret hx hb hr (fun tZ ht hW => ⟨⟨(4, j91, (nI x19)), rfl, ⟨by first | omega | (dsimp only; omega), by first | omega | (dsimp only; omega), kz_Ts.mk (by rw [if_neg (by first | omega | (dsimp only; omega))]; rfl) (kz_Tn_f hlt hf1 (ks_s2 hI0_j91 h46) hI1_j91 (by first | omega | (dsimp only; omega)))⟩, by rw [ht]; exact hP.sub [0, 1] rfl, hD.sub [0, 1] (by decide) rfl⟩, hS.F ht⟩) hS.2.2 dX7_passNumber_103
          · skip
            have h54 : ¬ 2 < (j91 - sta) := fun q9 => h54 ((nI_ltI (a := 2) (b := (j91 - sta)) (by omega) (by omega)).mpr q9)
            refine lv_iconst (v := 2) hx hb dX7_passNumber_95 (by decide) ?_
            refine lv_goto (tgt := 100) hx hb dX7_passNumber_96 (by decide) ?_
            refine va_put (D := D) (ci := 7) (v := .int 2) (ty := .int) (C := RX7) (T := TX7) (N := 12) hx hb hts iw7 tyX7 tyX7_ok nmX7 hown hK hP hD hS 0 rfl rfl 2 (by decide) fw5 (fun _ h9 => h9) rfl (by decide +kernel) rfl rfl (Nat.le_of_ble_eq_true rfl) dX7_passNumber_100 (fun H locs hP hD hS => ?_)
            have hP : va_P D vwCl [(tx, .inr (7, [.ref bys, .int (nI ln), .int 2, .int (nI sta), .int (nI j91), .int (nI x19), .ref wo, .ref fs, .ref sc, .int tfi, .int tgl, .int tst])), (bys, .inl (y 1, 150, .inl fby))] H := hP
            have hD : va_D A [(tx, .inr (7, [.ref bys, .int (nI ln), .int 2, .int (nI sta), .int (nI j91), .int (nI x19), .ref wo, .ref fs, .ref sc, .int tfi, .int tgl, .int tst])), (bys, .inl (y 1, 150, .inl fby))] := hD
            exact W.vret hx hb hr (fun tZ ht hW => ⟨⟨(2, j91, (nI x19)), rfl, ⟨by first | omega | (dsimp only; omega), by first | omega | (dsimp only; omega), kz_Ts.mk (by rw [if_pos (by first | omega | (dsimp only; omega))]; rfl) (kz_Tn_f hlt hf1 (ks_s2 hI0_j91 h46) hI1_j91 (by first | omega | (dsimp only; omega)))⟩, by rw [ht]; exact hP.sub [0, 1] rfl, hD.sub [0, 1] (by decide) rfl⟩, hS.F ht⟩) hS.2.2 dX7_passNumber_103
  exact lp37 (ln + 1) sta 0 _ _ _ (by omega) (by omega) (by omega) (by omega) rfl ks_val0 (by omega) (by omega) hP hD hS (lv_sub hl [0] rfl)

set_option maxHeartbeats 4000000 in
set_option maxRecDepth 100000 in
theorem gs_passSign (l : Launch) (D : va_G) (y : Nat → ClassId) (tx : Nat) (bys : Nat) (wo : Nat) (fs : Nat) (sc : Nat) (ln : Nat) (sta : Nat) (tok : Int32) (num : Int32) (tfi : Int32) (tgl : Int32) (tst : Int32) (fby : Nat → Int32) (hln : ln ≤ 150) (hlt : sta < ln) (hl1 : ¬ ks_l (fby sta) = true) (hf1 : ¬ ks_f (fby sta) = true) : kw_Mv l yX7_passSign wsX7_passSign ({ frames := 1, cells := 0, slots := 0, locals := 60 }) D y [.ref tx] [(tx, .inr (7, [.ref bys, .int (nI ln), .int tok, .int (nI sta), .int (nI sta), .int num, .ref wo, .ref fs, .ref sc, .int tfi, .int tgl, .int tst])), (bys, .inl (y 1, 150, .inl fby))] (fun (u : Int32) => kz_Ts fby ln sta u (sta + 1) num) (fun u => [(tx, .inr (7, [.ref bys, .int (nI ln), .int u, .int (nI sta), .int (nI (sta + 1)), .int num, .ref wo, .ref fs, .ref sc, .int tfi, .int tgl, .int tst])), (bys, .inl (y 1, 150, .inl fby))]) 0 0 := by
  refine kw_Mv.of (cc := cX7_passSign) (maxL := 1) (ret := none) (by decide) rfl ?_
  intro pZ eZ s mZ beZ meZ cZ A hE
  obtain ⟨hx, hb, hr, hml, hts, hown, hlocks, hin, hA, hP, hD, hK, hN⟩ := hE
  have hS : va_S A s.heap s.heap [] := va_S.rf
  have hl := lv_entry ([.ref tx]) (n := 1) (Nat.le_of_ble_eq_true rfl)
  rw [lg_entry_eq]
  generalize (lg_sl ([.ref tx]) ++ List.replicate (1 - (lg_sl ([.ref tx])).length) Slot.unset).toArray = ls at hl ⊢
  have hl : lv_has ls 1 [(0, .ref tx)] := hl
  have fw1 := hts (.fieldLink RX7 9 "GleanDusk$Text" "bytes" "[B") (List.mem_of_getElem? (i := 1) rfl)
  have fw2 := hts (.fieldLink RX7 51 "GleanDusk$Text" "start" "I") (List.mem_of_getElem? (i := 2) rfl)
  have fw3 := hts (.fieldLink RX7 44 "GleanDusk$Text" "token" "I") (List.mem_of_getElem? (i := 3) rfl)
  have fw4 := hts (.fieldLink RX7 29 "GleanDusk$Text" "end" "I") (List.mem_of_getElem? (i := 4) rfl)
  have iw7 : ∀ w ∈ wsX70, w ∈ wsX7_passSign := fun _ h => List.mem_cons_of_mem _ (List.mem_append_right _ h)
  refine lv_aload_n hx hb dX7_passSign_0 rfl (lv_at hl 0 rfl) ?_
  refine lv_aload_n hx hb dX7_passSign_1 rfl (lv_at hl 0 rfl) ?_
  refine va_get (D := D) (ci := 7) (v := .ref bys) (C := RX7) (T := TX7) (N := 12) hx hb hts iw7 hown hK hP 0 rfl rfl 0 (by decide) fw1 (fun _ h9 => h9) rfl dX7_passSign_2 ?_
  refine lv_aload_n hx hb dX7_passSign_5 rfl (lv_at hl 0 rfl) ?_
  refine va_get (D := D) (ci := 7) (v := .int (nI sta)) (C := RX7) (T := TX7) (N := 12) hx hb hts iw7 hown hK hP 0 rfl rfl 3 (by decide) fw2 (fun _ h9 => h9) rfl dX7_passSign_6 ?_
  refine va_bald hx hb hK hP 1 1 rfl rfl (vp_in_nI (by omega) (by decide)) dX7_passSign_9 ?_
  rw [nI_clamp (n := sta) (by omega)]
  refine lv_bipush (v := 59) hx hb dX7_passSign_10 (by decide) ?_
  refine lv_icmp_ne (tgt := 19) hx hb dX7_passSign_12 (by decide) (fun h1 => ?_) (fun h2 => ?_)
  · skip
    refine lv_iconst (v := 4) hx hb dX7_passSign_19 (by decide) ?_
    refine va_put (D := D) (ci := 7) (v := .int 4) (ty := .int) (C := RX7) (T := TX7) (N := 12) hx hb hts iw7 tyX7 tyX7_ok nmX7 hown hK hP hD hS 0 rfl rfl 2 (by decide) fw3 (fun _ h9 => h9) rfl (by decide +kernel) rfl rfl (Nat.le_of_ble_eq_true rfl) dX7_passSign_20 (fun H locs hP hD hS => ?_)
    have hP : va_P D vwCl [(tx, .inr (7, [.ref bys, .int (nI ln), .int 4, .int (nI sta), .int (nI sta), .int num, .ref wo, .ref fs, .ref sc, .int tfi, .int tgl, .int tst])), (bys, .inl (y 1, 150, .inl fby))] H := hP
    have hD : va_D A [(tx, .inr (7, [.ref bys, .int (nI ln), .int 4, .int (nI sta), .int (nI sta), .int num, .ref wo, .ref fs, .ref sc, .int tfi, .int tgl, .int tst])), (bys, .inl (y 1, 150, .inl fby))] := hD
    refine lv_aload_n hx hb dX7_passSign_23 rfl (lv_at hl 0 rfl) ?_
    refine lv_dup hx hb dX7_passSign_24 rfl ?_
    refine va_get (D := D) (ci := 7) (v := .int (nI sta)) (C := RX7) (T := TX7) (N := 12) hx hb hts iw7 hown hK hP 0 rfl rfl 4 (by decide) fw4 (fun _ h9 => h9) rfl dX7_passSign_25 ?_
    refine lv_iconst (v := 1) hx hb dX7_passSign_28 (by decide) ?_
    refine lv_iadd hx hb dX7_passSign_29 ?_
    rw [show (nI sta) + 1 = nI (sta + 1) from nI_add sta 1]
    refine va_put (D := D) (ci := 7) (v := .int (nI (sta + 1))) (ty := .int) (C := RX7) (T := TX7) (N := 12) hx hb hts iw7 tyX7 tyX7_ok nmX7 hown hK hP hD hS 0 rfl rfl 4 (by decide) fw4 (fun _ h9 => h9) rfl (by decide +kernel) rfl rfl (Nat.le_of_ble_eq_true rfl) dX7_passSign_30 (fun H locs hP hD hS => ?_)
    have hP : va_P D vwCl [(tx, .inr (7, [.ref bys, .int (nI ln), .int 4, .int (nI sta), .int (nI (sta + 1)), .int num, .ref wo, .ref fs, .ref sc, .int tfi, .int tgl, .int tst])), (bys, .inl (y 1, 150, .inl fby))] H := hP
    have hD : va_D A [(tx, .inr (7, [.ref bys, .int (nI ln), .int 4, .int (nI sta), .int (nI (sta + 1)), .int num, .ref wo, .ref fs, .ref sc, .int tfi, .int tgl, .int tst])), (bys, .inl (y 1, 150, .inl fby))] := hD
    exact W.vret hx hb hr (fun tZ ht hW => ⟨⟨(4), rfl, kz_Ts.mk (k := 4) rfl (kz_Tn_s hlt hl1 hf1 (by rw [if_neg h1])), by rw [ht]; exact hP.sub [0, 1] rfl, hD.sub [0, 1] (by decide) rfl⟩, hS.F ht⟩) hS.2.2 dX7_passSign_33
  · skip
    refine lv_iconst (v := 3) hx hb dX7_passSign_15 (by decide) ?_
    refine lv_goto (tgt := 20) hx hb dX7_passSign_16 (by decide) ?_
    refine va_put (D := D) (ci := 7) (v := .int 3) (ty := .int) (C := RX7) (T := TX7) (N := 12) hx hb hts iw7 tyX7 tyX7_ok nmX7 hown hK hP hD hS 0 rfl rfl 2 (by decide) fw3 (fun _ h9 => h9) rfl (by decide +kernel) rfl rfl (Nat.le_of_ble_eq_true rfl) dX7_passSign_20 (fun H locs hP hD hS => ?_)
    have hP : va_P D vwCl [(tx, .inr (7, [.ref bys, .int (nI ln), .int 3, .int (nI sta), .int (nI sta), .int num, .ref wo, .ref fs, .ref sc, .int tfi, .int tgl, .int tst])), (bys, .inl (y 1, 150, .inl fby))] H := hP
    have hD : va_D A [(tx, .inr (7, [.ref bys, .int (nI ln), .int 3, .int (nI sta), .int (nI sta), .int num, .ref wo, .ref fs, .ref sc, .int tfi, .int tgl, .int tst])), (bys, .inl (y 1, 150, .inl fby))] := hD
    refine lv_aload_n hx hb dX7_passSign_23 rfl (lv_at hl 0 rfl) ?_
    refine lv_dup hx hb dX7_passSign_24 rfl ?_
    refine va_get (D := D) (ci := 7) (v := .int (nI sta)) (C := RX7) (T := TX7) (N := 12) hx hb hts iw7 hown hK hP 0 rfl rfl 4 (by decide) fw4 (fun _ h9 => h9) rfl dX7_passSign_25 ?_
    refine lv_iconst (v := 1) hx hb dX7_passSign_28 (by decide) ?_
    refine lv_iadd hx hb dX7_passSign_29 ?_
    rw [show (nI sta) + 1 = nI (sta + 1) from nI_add sta 1]
    refine va_put (D := D) (ci := 7) (v := .int (nI (sta + 1))) (ty := .int) (C := RX7) (T := TX7) (N := 12) hx hb hts iw7 tyX7 tyX7_ok nmX7 hown hK hP hD hS 0 rfl rfl 4 (by decide) fw4 (fun _ h9 => h9) rfl (by decide +kernel) rfl rfl (Nat.le_of_ble_eq_true rfl) dX7_passSign_30 (fun H locs hP hD hS => ?_)
    have hP : va_P D vwCl [(tx, .inr (7, [.ref bys, .int (nI ln), .int 3, .int (nI sta), .int (nI (sta + 1)), .int num, .ref wo, .ref fs, .ref sc, .int tfi, .int tgl, .int tst])), (bys, .inl (y 1, 150, .inl fby))] H := hP
    have hD : va_D A [(tx, .inr (7, [.ref bys, .int (nI ln), .int 3, .int (nI sta), .int (nI (sta + 1)), .int num, .ref wo, .ref fs, .ref sc, .int tfi, .int tgl, .int tst])), (bys, .inl (y 1, 150, .inl fby))] := hD
    exact W.vret hx hb hr (fun tZ ht hW => ⟨⟨(3), rfl, kz_Ts.mk (k := 3) rfl (kz_Tn_s hlt hl1 hf1 (by rw [if_pos h2])), by rw [ht]; exact hP.sub [0, 1] rfl, hD.sub [0, 1] (by decide) rfl⟩, hS.F ht⟩) hS.2.2 dX7_passSign_33

set_option maxHeartbeats 4000000 in
set_option maxRecDepth 100000 in
theorem gs_advance (l : Launch) (D : va_G) (y : Nat → ClassId) (tx : Nat) (bys : Nat) (wo : Nat) (fs : Nat) (sc : Nat) (ln : Nat) (sta : Nat) (en : Nat) (tok : Int32) (num : Int32) (tfi : Int32) (tgl : Int32) (tst : Int32) (fby : Nat → Int32) (hln : ln ≤ 150) (hen : en ≤ ln) : kw_Mv l yX7_advance wsX7_advance ({ frames := 3, cells := 0, slots := 0, locals := 100 }) D y [.ref tx] [(tx, .inr (7, [.ref bys, .int (nI ln), .int tok, .int (nI sta), .int (nI en), .int num, .ref wo, .ref fs, .ref sc, .int tfi, .int tgl, .int tst])), (bys, .inl (y 1, 150, .inl fby))] (fun (u : Int32 × Nat × Nat × Int32) => u.2.1 ≤ ln ∧ u.2.2.1 ≤ ln ∧ en ≤ u.2.1 ∧ u.2.1 ≤ u.2.2.1 ∧ kz_T fby ln en u.1 u.2.1 u.2.2.1 u.2.2.2) (fun u => [(tx, .inr (7, [.ref bys, .int (nI ln), .int u.1, .int (nI u.2.1), .int (nI u.2.2.1), .int u.2.2.2, .ref wo, .ref fs, .ref sc, .int tfi, .int tgl, .int tst])), (bys, .inl (y 1, 150, .inl fby))]) 0 0 := by
  refine kw_Mv.of (cc := cX7_advance) (maxL := 1) (ret := none) (by decide) rfl ?_
  intro pZ eZ s mZ beZ meZ cZ A hE
  obtain ⟨hx, hb, hr, hml, hts, hown, hlocks, hin, hA, hP, hD, hK, hN⟩ := hE
  have hS : va_S A s.heap s.heap [] := va_S.rf
  have hl := lv_entry ([.ref tx]) (n := 1) (Nat.le_of_ble_eq_true rfl)
  rw [lg_entry_eq]
  generalize (lg_sl ([.ref tx]) ++ List.replicate (1 - (lg_sl ([.ref tx])).length) Slot.unset).toArray = ls at hl ⊢
  have hl : lv_has ls 1 [(0, .ref tx)] := hl
  have fw1 := hts (.fieldLink RX7 29 "GleanDusk$Text" "end" "I") (List.mem_of_getElem? (i := 1) rfl)
  have fw2 := hts (.fieldLink RX7 51 "GleanDusk$Text" "start" "I") (List.mem_of_getElem? (i := 2) rfl)
  have fw3 := hts (.fieldLink RX7 25 "GleanDusk$Text" "length" "I") (List.mem_of_getElem? (i := 3) rfl)
  have fw4 := hts (.fieldLink RX7 44 "GleanDusk$Text" "token" "I") (List.mem_of_getElem? (i := 5) rfl)
  have fw5 := hts (.fieldLink RX7 9 "GleanDusk$Text" "bytes" "[B") (List.mem_of_getElem? (i := 4) rfl)
  have iw7 : ∀ w ∈ wsX70, w ∈ wsX7_advance := fun _ h => List.mem_cons_of_mem _ (List.mem_append_right _ h)
  refine lv_aload_n hx hb dX7_advance_0 rfl (lv_at hl 0 rfl) ?_
  refine lv_aload_n hx hb dX7_advance_1 rfl (lv_at hl 0 rfl) ?_
  refine va_get (D := D) (ci := 7) (v := .int (nI en)) (C := RX7) (T := TX7) (N := 12) hx hb hts iw7 hown hK hP 0 rfl rfl 4 (by decide) fw1 (fun _ h9 => h9) rfl dX7_advance_2 ?_
  refine va_put (D := D) (ci := 7) (v := .int (nI en)) (ty := .int) (C := RX7) (T := TX7) (N := 12) hx hb hts iw7 tyX7 tyX7_ok nmX7 hown hK hP hD hS 0 rfl rfl 3 (by decide) fw2 (fun _ h9 => h9) rfl (by decide +kernel) rfl rfl (Nat.le_of_ble_eq_true rfl) dX7_advance_5 (fun H locs hP hD hS => ?_)
  have hP : va_P D vwCl [(tx, .inr (7, [.ref bys, .int (nI ln), .int tok, .int (nI en), .int (nI en), .int num, .ref wo, .ref fs, .ref sc, .int tfi, .int tgl, .int tst])), (bys, .inl (y 1, 150, .inl fby))] H := hP
  have hD : va_D A [(tx, .inr (7, [.ref bys, .int (nI ln), .int tok, .int (nI en), .int (nI en), .int num, .ref wo, .ref fs, .ref sc, .int tfi, .int tgl, .int tst])), (bys, .inl (y 1, 150, .inl fby))] := hD
  have lp40 : ∀ (fuj91 j91 : Nat)  (H : Heap) (locs : List Loc) (ls : Array Slot), j91 ≤ ln → ln - j91 < fuj91 → en ≤ j91 → ks_to ks_b fby ln en = ks_to ks_b fby ln j91 → va_P D vwCl [(tx, .inr (7, [.ref bys, .int (nI ln), .int tok, .int (nI j91), .int (nI en), .int num, .ref wo, .ref fs, .ref sc, .int tfi, .int tgl, .int tst])), (bys, .inl (y 1, 150, .inl fby))] H → va_D A [(tx, .inr (7, [.ref bys, .int (nI ln), .int tok, .int (nI j91), .int (nI en), .int num, .ref wo, .ref fs, .ref sc, .int tfi, .int tgl, .int tst])), (bys, .inl (y 1, 150, .inl fby))] → va_S A s.heap H locs → lv_has ls 1 [(0, .ref tx)] → W pZ l eZ ({ frames := 3, cells := 0, slots := 0, locals := 100 }) s mZ [.ref tx].toArray beZ meZ cZ H locs 0 0 (MQ beZ (va_Qv (fun (u : Int32 × Nat × Nat × Int32) => u.2.1 ≤ ln ∧ u.2.2.1 ≤ ln ∧ en ≤ u.2.1 ∧ u.2.1 ≤ u.2.2.1 ∧ kz_T fby ln en u.1 u.2.1 u.2.2.1 u.2.2.2) (kw_B D (fun u => [(tx, .inr (7, [.ref bys, .int (nI ln), .int u.1, .int (nI u.2.1), .int (nI u.2.2.1), .int u.2.2.2, .ref wo, .ref fs, .ref sc, .int tfi, .int tgl, .int tst])), (bys, .inl (y 1, 150, .inl fby))]) A) A) [.ref tx].toArray s 0 0 A) (F0 mZ 8 ls []) := by
    intro fuj91
    induction fuj91 with
    | zero => intro j91  H locs ls hj9 hf9; exact absurd hf9 (Nat.not_lt_zero _)
    | succ fuj91 ihj91 =>
      intro j91  H locs ls hj91 hfj91 hlo_j91 hI0_j91 hP hD hS hl
      refine lv_aload_n hx hb dX7_advance_8 rfl (lv_at hl 0 rfl) ?_
      refine va_get (D := D) (ci := 7) (v := .int (nI j91)) (C := RX7) (T := TX7) (N := 12) hx hb hts iw7 hown hK hP 0 rfl rfl 3 (by decide) fw2 (fun _ h9 => h9) rfl dX7_advance_9 ?_
      refine lv_aload_n hx hb dX7_advance_12 rfl (lv_at hl 0 rfl) ?_
      refine va_get (D := D) (ci := 7) (v := .int (nI ln)) (C := RX7) (T := TX7) (N := 12) hx hb hts iw7 hown hK hP 0 rfl rfl 1 (by decide) fw3 (fun _ h9 => h9) rfl dX7_advance_13 ?_
      refine lv_icmp_ge (tgt := 46) hx hb dX7_advance_16 (by decide) (fun h41 => ?_) (fun h42 => ?_)
      · skip
        have h41 : ln ≤ j91 := (nI_leI (a := ln) (b := j91) (by omega) (by omega)).mp h41
        refine lv_aload_n hx hb dX7_advance_46 rfl (lv_at hl 0 rfl) ?_
        refine lv_aload_n hx hb dX7_advance_47 rfl (lv_at hl 0 rfl) ?_
        refine va_get (D := D) (ci := 7) (v := .int (nI j91)) (C := RX7) (T := TX7) (N := 12) hx hb hts iw7 hown hK hP 0 rfl rfl 3 (by decide) fw2 (fun _ h9 => h9) rfl dX7_advance_48 ?_
        refine va_put (D := D) (ci := 7) (v := .int (nI j91)) (ty := .int) (C := RX7) (T := TX7) (N := 12) hx hb hts iw7 tyX7 tyX7_ok nmX7 hown hK hP hD hS 0 rfl rfl 4 (by decide) fw1 (fun _ h9 => h9) rfl (by decide +kernel) rfl rfl (Nat.le_of_ble_eq_true rfl) dX7_advance_51 (fun H locs hP hD hS => ?_)
        have hP : va_P D vwCl [(tx, .inr (7, [.ref bys, .int (nI ln), .int tok, .int (nI j91), .int (nI j91), .int num, .ref wo, .ref fs, .ref sc, .int tfi, .int tgl, .int tst])), (bys, .inl (y 1, 150, .inl fby))] H := hP
        have hD : va_D A [(tx, .inr (7, [.ref bys, .int (nI ln), .int tok, .int (nI j91), .int (nI j91), .int num, .ref wo, .ref fs, .ref sc, .int tfi, .int tgl, .int tst])), (bys, .inl (y 1, 150, .inl fby))] := hD
        refine lv_aload_n hx hb dX7_advance_54 rfl (lv_at hl 0 rfl) ?_
        refine va_get (D := D) (ci := 7) (v := .int (nI j91)) (C := RX7) (T := TX7) (N := 12) hx hb hts iw7 hown hK hP 0 rfl rfl 3 (by decide) fw2 (fun _ h9 => h9) rfl dX7_advance_55 ?_
        refine lv_aload_n hx hb dX7_advance_58 rfl (lv_at hl 0 rfl) ?_
        refine va_get (D := D) (ci := 7) (v := .int (nI ln)) (C := RX7) (T := TX7) (N := 12) hx hb hts iw7 hown hK hP 0 rfl rfl 1 (by decide) fw3 (fun _ h9 => h9) rfl dX7_advance_59 ?_
        refine lv_icmp_lt (tgt := 73) hx hb dX7_advance_62 (by decide) (fun h43 => ?_) (fun h44 => ?_)
        · skip
          have h43 : j91 < ln := (nI_ltI (a := j91) (b := ln) (by omega) (by omega)).mp h43
          exact absurd h43 (by omega)
        · skip
          have h44 : ¬ j91 < ln := fun q9 => h44 ((nI_ltI (a := j91) (b := ln) (by omega) (by omega)).mpr q9)
          refine lv_aload_n hx hb dX7_advance_65 rfl (lv_at hl 0 rfl) ?_
          refine lv_iconst (v := 0) hx hb dX7_advance_66 (by decide) ?_
          refine va_put (D := D) (ci := 7) (v := .int 0) (ty := .int) (C := RX7) (T := TX7) (N := 12) hx hb hts iw7 tyX7 tyX7_ok nmX7 hown hK hP hD hS 0 rfl rfl 2 (by decide) fw4 (fun _ h9 => h9) rfl (by decide +kernel) rfl rfl (Nat.le_of_ble_eq_true rfl) dX7_advance_67 (fun H locs hP hD hS => ?_)
          have hP : va_P D vwCl [(tx, .inr (7, [.ref bys, .int (nI ln), .int 0, .int (nI j91), .int (nI j91), .int num, .ref wo, .ref fs, .ref sc, .int tfi, .int tgl, .int tst])), (bys, .inl (y 1, 150, .inl fby))] H := hP
          have hD : va_D A [(tx, .inr (7, [.ref bys, .int (nI ln), .int 0, .int (nI j91), .int (nI j91), .int num, .ref wo, .ref fs, .ref sc, .int tfi, .int tgl, .int tst])), (bys, .inl (y 1, 150, .inl fby))] := hD
          refine lv_goto (tgt := 121) hx hb dX7_advance_70 (by decide) ?_
          exact W.vret hx hb hr (fun tZ ht hW => ⟨⟨(0, j91, j91, num), rfl, ⟨by first | omega | (dsimp only; omega), by first | omega | (dsimp only; omega), by first | omega | (dsimp only; omega), by first | omega | (dsimp only; omega), kz_T.mk (ks_s3 hI0_j91 (by first | omega | (dsimp only; omega))) (kz_Ts.mk (k := 0) rfl (kz_Tn_e (by first | omega | (dsimp only; omega))))⟩, by rw [ht]; exact hP.sub [0, 1] rfl, hD.sub [0, 1] (by decide) rfl⟩, hS.F ht⟩) hS.2.2 dX7_advance_121
      · skip
        have h42 : ¬ ln ≤ j91 := fun q9 => h42 ((nI_leI (a := ln) (b := j91) (by omega) (by omega)).mpr q9)
        refine lv_aload_n hx hb dX7_advance_19 rfl (lv_at hl 0 rfl) ?_
        refine va_get (D := D) (ci := 7) (v := .ref bys) (C := RX7) (T := TX7) (N := 12) hx hb hts iw7 hown hK hP 0 rfl rfl 0 (by decide) fw5 (fun _ h9 => h9) rfl dX7_advance_20 ?_
        refine lv_aload_n hx hb dX7_advance_23 rfl (lv_at hl 0 rfl) ?_
        refine va_get (D := D) (ci := 7) (v := .int (nI j91)) (C := RX7) (T := TX7) (N := 12) hx hb hts iw7 hown hK hP 0 rfl rfl 3 (by decide) fw2 (fun _ h9 => h9) rfl dX7_advance_24 ?_
        refine va_bald hx hb hK hP 1 1 rfl rfl (vp_in_nI (by omega) (by decide)) dX7_advance_27 ?_
        rw [nI_clamp (n := j91) (by omega)]
        refine lv_bipush (v := 32) hx hb dX7_advance_28 (by decide) ?_
        refine lv_icmp_ne (tgt := 46) hx hb dX7_advance_30 (by decide) (fun h45 => ?_) (fun h46 => ?_)
        · skip
          refine lv_aload_n hx hb dX7_advance_46 rfl (lv_at hl 0 rfl) ?_
          refine lv_aload_n hx hb dX7_advance_47 rfl (lv_at hl 0 rfl) ?_
          refine va_get (D := D) (ci := 7) (v := .int (nI j91)) (C := RX7) (T := TX7) (N := 12) hx hb hts iw7 hown hK hP 0 rfl rfl 3 (by decide) fw2 (fun _ h9 => h9) rfl dX7_advance_48 ?_
          refine va_put (D := D) (ci := 7) (v := .int (nI j91)) (ty := .int) (C := RX7) (T := TX7) (N := 12) hx hb hts iw7 tyX7 tyX7_ok nmX7 hown hK hP hD hS 0 rfl rfl 4 (by decide) fw1 (fun _ h9 => h9) rfl (by decide +kernel) rfl rfl (Nat.le_of_ble_eq_true rfl) dX7_advance_51 (fun H locs hP hD hS => ?_)
          have hP : va_P D vwCl [(tx, .inr (7, [.ref bys, .int (nI ln), .int tok, .int (nI j91), .int (nI j91), .int num, .ref wo, .ref fs, .ref sc, .int tfi, .int tgl, .int tst])), (bys, .inl (y 1, 150, .inl fby))] H := hP
          have hD : va_D A [(tx, .inr (7, [.ref bys, .int (nI ln), .int tok, .int (nI j91), .int (nI j91), .int num, .ref wo, .ref fs, .ref sc, .int tfi, .int tgl, .int tst])), (bys, .inl (y 1, 150, .inl fby))] := hD
          refine lv_aload_n hx hb dX7_advance_54 rfl (lv_at hl 0 rfl) ?_
          refine va_get (D := D) (ci := 7) (v := .int (nI j91)) (C := RX7) (T := TX7) (N := 12) hx hb hts iw7 hown hK hP 0 rfl rfl 3 (by decide) fw2 (fun _ h9 => h9) rfl dX7_advance_55 ?_
          refine lv_aload_n hx hb dX7_advance_58 rfl (lv_at hl 0 rfl) ?_
          refine va_get (D := D) (ci := 7) (v := .int (nI ln)) (C := RX7) (T := TX7) (N := 12) hx hb hts iw7 hown hK hP 0 rfl rfl 1 (by decide) fw3 (fun _ h9 => h9) rfl dX7_advance_59 ?_
          refine lv_icmp_lt (tgt := 73) hx hb dX7_advance_62 (by decide) (fun h47 => ?_) (fun h48 => ?_)
          · skip
            have h47 : j91 < ln := (nI_ltI (a := j91) (b := ln) (by omega) (by omega)).mp h47
            refine lv_aload_n hx hb dX7_advance_73 rfl (lv_at hl 0 rfl) ?_
            refine va_get (D := D) (ci := 7) (v := .ref bys) (C := RX7) (T := TX7) (N := 12) hx hb hts iw7 hown hK hP 0 rfl rfl 0 (by decide) fw5 (fun _ h9 => h9) rfl dX7_advance_74 ?_
            refine lv_aload_n hx hb dX7_advance_77 rfl (lv_at hl 0 rfl) ?_
            refine va_get (D := D) (ci := 7) (v := .int (nI j91)) (C := RX7) (T := TX7) (N := 12) hx hb hts iw7 hown hK hP 0 rfl rfl 3 (by decide) fw2 (fun _ h9 => h9) rfl dX7_advance_78 ?_
            refine va_bald hx hb hK hP 1 1 rfl rfl (vp_in_nI (by omega) (by decide)) dX7_advance_81 ?_
            rw [nI_clamp (n := j91) (by omega)]
            have hs49 : kw_Split [(tx, .inr (7, [.ref bys, .int (nI ln), .int tok, .int (nI j91), .int (nI j91), .int num, .ref wo, .ref fs, .ref sc, .int tfi, .int tgl, .int tst])), (bys, .inl (y 1, 150, .inl fby))] [] [(tx, .inr (7, [.ref bys, .int (nI ln), .int tok, .int (nI j91), .int (nI j91), .int num, .ref wo, .ref fs, .ref sc, .int tfi, .int tgl, .int tst])), (bys, .inl (y 1, 150, .inl fby))] [] [0, 1] := ⟨rfl, rfl, rfl, rfl, rfl, by decide⟩
            refine kw_go_i hs49 hP hD hS hA (va_runS (As := [.int (fby j91)]) (rest := []) ⟨hx, hb, hml, hown, hts⟩ (gs_isLetter l D y (fby j91)  _) (va_cwS 1 hts gX7_advance_X7_isLetter rfl rfl rfl (by decide +kernel) ⟨Nat.le_of_ble_eq_true rfl, Nat.le_of_ble_eq_true rfl⟩) (kw_PreS hs49 hP hD hK hN) rfl rfl hl.1 rfl (lv_room (Nat.le_of_ble_eq_true rfl)) dX7_advance_82 ⟨Nat.le_of_ble_eq_true rfl, Nat.le_of_ble_eq_true rfl⟩) (fun r50 u51 H locs hq hP hD hS => ?_)
            rcases hq with ⟨h52, rfl⟩ | ⟨h53, rfl⟩
            · skip
              have hP : va_P D vwCl [(tx, .inr (7, [.ref bys, .int (nI ln), .int tok, .int (nI j91), .int (nI j91), .int num, .ref wo, .ref fs, .ref sc, .int tfi, .int tgl, .int tst])), (bys, .inl (y 1, 150, .inl fby))] H := hP
              have hD : va_D A [(tx, .inr (7, [.ref bys, .int (nI ln), .int tok, .int (nI j91), .int (nI j91), .int num, .ref wo, .ref fs, .ref sc, .int tfi, .int tgl, .int tst])), (bys, .inl (y 1, 150, .inl fby))] := hD
              refine lv_if_eq (tgt := 95) hx hb dX7_advance_85 (by decide) (fun h9 => absurd h9 (by decide)) (fun _ => ?_)
              refine lv_aload_n hx hb dX7_advance_88 rfl (lv_at hl 0 rfl) ?_
              have hs54 : kw_Split [(tx, .inr (7, [.ref bys, .int (nI ln), .int tok, .int (nI j91), .int (nI j91), .int num, .ref wo, .ref fs, .ref sc, .int tfi, .int tgl, .int tst])), (bys, .inl (y 1, 150, .inl fby))] [(tx, .inr (7, [.ref bys, .int (nI ln), .int tok, .int (nI j91), .int (nI j91), .int num, .ref wo, .ref fs, .ref sc, .int tfi, .int tgl, .int tst])), (bys, .inl (y 1, 150, .inl fby))] [] [0, 1] [] := ⟨rfl, rfl, rfl, rfl, rfl, by decide⟩
              refine kw_go_v hs54 hP hD hS hA (va_runV (As := []) (rest := []) ⟨hx, hb, hml, hown, hts⟩ (gs_passWord l D y tx bys wo fs sc ln j91 tok num tfi tgl tst fby hln (by omega) h52 _) (cwV 0 hts gX7_advance_X7_passWord rfl rfl rfl (by decide +kernel) ⟨Nat.le_of_ble_eq_true rfl, Nat.le_of_ble_eq_true rfl⟩) (kw_PreV (ci := 7) (q0 := 0) hs54 hP hD hK hN rfl rfl) rfl rfl hl.1 rfl (lv_room (Nat.le_of_ble_eq_true rfl)) dX7_advance_89 ⟨Nat.le_of_ble_eq_true rfl, Nat.le_of_ble_eq_true rfl⟩) (fun u56 H locs hq hP hD hS => ?_)
              obtain ⟨v57, rfl⟩ : ∃ z, z = u56 := ⟨_, rfl⟩
              try dsimp only at hq
              obtain ⟨h58, h59, h60⟩ := hq
              have hP : va_P D vwCl [(tx, .inr (7, [.ref bys, .int (nI ln), .int 1, .int (nI j91), .int (nI v57), .int num, .ref wo, .ref fs, .ref sc, .int tfi, .int tgl, .int tst])), (bys, .inl (y 1, 150, .inl fby))] H := hP
              have hD : va_D A [(tx, .inr (7, [.ref bys, .int (nI ln), .int 1, .int (nI j91), .int (nI v57), .int num, .ref wo, .ref fs, .ref sc, .int tfi, .int tgl, .int tst])), (bys, .inl (y 1, 150, .inl fby))] := hD
              refine lv_goto (tgt := 121) hx hb dX7_advance_92 (by decide) ?_
              exact W.vret hx hb hr (fun tZ ht hW => ⟨⟨(1, j91, v57, num), rfl, ⟨by first | omega | (dsimp only; omega), by first | omega | (dsimp only; omega), by first | omega | (dsimp only; omega), by first | omega | (dsimp only; omega), kz_T.mk (ks_s2 hI0_j91 (ks_b_n h45)) h60⟩, by rw [ht]; exact hP.sub [0, 1] rfl, hD.sub [0, 1] (by decide) rfl⟩, hS.F ht⟩) hS.2.2 dX7_advance_121
            · skip
              have hP : va_P D vwCl [(tx, .inr (7, [.ref bys, .int (nI ln), .int tok, .int (nI j91), .int (nI j91), .int num, .ref wo, .ref fs, .ref sc, .int tfi, .int tgl, .int tst])), (bys, .inl (y 1, 150, .inl fby))] H := hP
              have hD : va_D A [(tx, .inr (7, [.ref bys, .int (nI ln), .int tok, .int (nI j91), .int (nI j91), .int num, .ref wo, .ref fs, .ref sc, .int tfi, .int tgl, .int tst])), (bys, .inl (y 1, 150, .inl fby))] := hD
              refine lv_if_eq (tgt := 95) hx hb dX7_advance_85 (by decide) (fun _ => ?_) (fun h9 => absurd h9 (by decide))
              refine lv_aload_n hx hb dX7_advance_95 rfl (lv_at hl 0 rfl) ?_
              refine va_get (D := D) (ci := 7) (v := .ref bys) (C := RX7) (T := TX7) (N := 12) hx hb hts iw7 hown hK hP 0 rfl rfl 0 (by decide) fw5 (fun _ h9 => h9) rfl dX7_advance_96 ?_
              refine lv_aload_n hx hb dX7_advance_99 rfl (lv_at hl 0 rfl) ?_
              refine va_get (D := D) (ci := 7) (v := .int (nI j91)) (C := RX7) (T := TX7) (N := 12) hx hb hts iw7 hown hK hP 0 rfl rfl 3 (by decide) fw2 (fun _ h9 => h9) rfl dX7_advance_100 ?_
              refine va_bald hx hb hK hP 1 1 rfl rfl (vp_in_nI (by omega) (by decide)) dX7_advance_103 ?_
              rw [nI_clamp (n := j91) (by omega)]
              have hs61 : kw_Split [(tx, .inr (7, [.ref bys, .int (nI ln), .int tok, .int (nI j91), .int (nI j91), .int num, .ref wo, .ref fs, .ref sc, .int tfi, .int tgl, .int tst])), (bys, .inl (y 1, 150, .inl fby))] [] [(tx, .inr (7, [.ref bys, .int (nI ln), .int tok, .int (nI j91), .int (nI j91), .int num, .ref wo, .ref fs, .ref sc, .int tfi, .int tgl, .int tst])), (bys, .inl (y 1, 150, .inl fby))] [] [0, 1] := ⟨rfl, rfl, rfl, rfl, rfl, by decide⟩
              refine kw_go_i hs61 hP hD hS hA (va_runS (As := [.int (fby j91)]) (rest := []) ⟨hx, hb, hml, hown, hts⟩ (gs_isFigure l D y (fby j91)  _) (va_cwS 1 hts gX7_advance_X7_isFigure rfl rfl rfl (by decide +kernel) ⟨Nat.le_of_ble_eq_true rfl, Nat.le_of_ble_eq_true rfl⟩) (kw_PreS hs61 hP hD hK hN) rfl rfl hl.1 rfl (lv_room (Nat.le_of_ble_eq_true rfl)) dX7_advance_104 ⟨Nat.le_of_ble_eq_true rfl, Nat.le_of_ble_eq_true rfl⟩) (fun r62 u63 H locs hq hP hD hS => ?_)
              rcases hq with ⟨h64, rfl⟩ | ⟨h65, rfl⟩
              · skip
                have hP : va_P D vwCl [(tx, .inr (7, [.ref bys, .int (nI ln), .int tok, .int (nI j91), .int (nI j91), .int num, .ref wo, .ref fs, .ref sc, .int tfi, .int tgl, .int tst])), (bys, .inl (y 1, 150, .inl fby))] H := hP
                have hD : va_D A [(tx, .inr (7, [.ref bys, .int (nI ln), .int tok, .int (nI j91), .int (nI j91), .int num, .ref wo, .ref fs, .ref sc, .int tfi, .int tgl, .int tst])), (bys, .inl (y 1, 150, .inl fby))] := hD
                refine lv_if_eq (tgt := 117) hx hb dX7_advance_107 (by decide) (fun h9 => absurd h9 (by decide)) (fun _ => ?_)
                refine lv_aload_n hx hb dX7_advance_110 rfl (lv_at hl 0 rfl) ?_
                have hs66 : kw_Split [(tx, .inr (7, [.ref bys, .int (nI ln), .int tok, .int (nI j91), .int (nI j91), .int num, .ref wo, .ref fs, .ref sc, .int tfi, .int tgl, .int tst])), (bys, .inl (y 1, 150, .inl fby))] [(tx, .inr (7, [.ref bys, .int (nI ln), .int tok, .int (nI j91), .int (nI j91), .int num, .ref wo, .ref fs, .ref sc, .int tfi, .int tgl, .int tst])), (bys, .inl (y 1, 150, .inl fby))] [] [0, 1] [] := ⟨rfl, rfl, rfl, rfl, rfl, by decide⟩
                refine kw_go_v hs66 hP hD hS hA (va_runV (As := []) (rest := []) ⟨hx, hb, hml, hown, hts⟩ (gs_passNumber l D y tx bys wo fs sc ln j91 tok num tfi tgl tst fby hln (by omega) h64 _) (cwV 0 hts gX7_advance_X7_passNumber rfl rfl rfl (by decide +kernel) ⟨Nat.le_of_ble_eq_true rfl, Nat.le_of_ble_eq_true rfl⟩) (kw_PreV (ci := 7) (q0 := 0) hs66 hP hD hK hN rfl rfl) rfl rfl hl.1 rfl (lv_room (Nat.le_of_ble_eq_true rfl)) dX7_advance_111 ⟨Nat.le_of_ble_eq_true rfl, Nat.le_of_ble_eq_true rfl⟩) (fun u68 H locs hq hP hD hS => ?_)
                obtain ⟨v69, v70, v71⟩ := u68
                try dsimp only at hq
                obtain ⟨h72, h73, h74⟩ := hq
                have hP : va_P D vwCl [(tx, .inr (7, [.ref bys, .int (nI ln), .int v69, .int (nI j91), .int (nI v70), .int v71, .ref wo, .ref fs, .ref sc, .int tfi, .int tgl, .int tst])), (bys, .inl (y 1, 150, .inl fby))] H := hP
                have hD : va_D A [(tx, .inr (7, [.ref bys, .int (nI ln), .int v69, .int (nI j91), .int (nI v70), .int v71, .ref wo, .ref fs, .ref sc, .int tfi, .int tgl, .int tst])), (bys, .inl (y 1, 150, .inl fby))] := hD
                refine lv_goto (tgt := 121) hx hb dX7_advance_114 (by decide) ?_
                exact W.vret hx hb hr (fun tZ ht hW => ⟨⟨(v69, j91, v70, v71), rfl, ⟨by first | omega | (dsimp only; omega), by first | omega | (dsimp only; omega), by first | omega | (dsimp only; omega), by first | omega | (dsimp only; omega), kz_T.mk (ks_s2 hI0_j91 (ks_b_n h45)) h74⟩, by rw [ht]; exact hP.sub [0, 1] rfl, hD.sub [0, 1] (by decide) rfl⟩, hS.F ht⟩) hS.2.2 dX7_advance_121
              · skip
                have hP : va_P D vwCl [(tx, .inr (7, [.ref bys, .int (nI ln), .int tok, .int (nI j91), .int (nI j91), .int num, .ref wo, .ref fs, .ref sc, .int tfi, .int tgl, .int tst])), (bys, .inl (y 1, 150, .inl fby))] H := hP
                have hD : va_D A [(tx, .inr (7, [.ref bys, .int (nI ln), .int tok, .int (nI j91), .int (nI j91), .int num, .ref wo, .ref fs, .ref sc, .int tfi, .int tgl, .int tst])), (bys, .inl (y 1, 150, .inl fby))] := hD
                refine lv_if_eq (tgt := 117) hx hb dX7_advance_107 (by decide) (fun _ => ?_) (fun h9 => absurd h9 (by decide))
                refine lv_aload_n hx hb dX7_advance_117 rfl (lv_at hl 0 rfl) ?_
                have hs75 : kw_Split [(tx, .inr (7, [.ref bys, .int (nI ln), .int tok, .int (nI j91), .int (nI j91), .int num, .ref wo, .ref fs, .ref sc, .int tfi, .int tgl, .int tst])), (bys, .inl (y 1, 150, .inl fby))] [(tx, .inr (7, [.ref bys, .int (nI ln), .int tok, .int (nI j91), .int (nI j91), .int num, .ref wo, .ref fs, .ref sc, .int tfi, .int tgl, .int tst])), (bys, .inl (y 1, 150, .inl fby))] [] [0, 1] [] := ⟨rfl, rfl, rfl, rfl, rfl, by decide⟩
                refine kw_go_v hs75 hP hD hS hA (va_runV (As := []) (rest := []) ⟨hx, hb, hml, hown, hts⟩ (gs_passSign l D y tx bys wo fs sc ln j91 tok num tfi tgl tst fby hln (by omega) h53 h65 _) (cwV 0 hts gX7_advance_X7_passSign rfl rfl rfl (by decide +kernel) ⟨Nat.le_of_ble_eq_true rfl, Nat.le_of_ble_eq_true rfl⟩) (kw_PreV (ci := 7) (q0 := 0) hs75 hP hD hK hN rfl rfl) rfl rfl hl.1 rfl (lv_room (Nat.le_of_ble_eq_true rfl)) dX7_advance_118 ⟨Nat.le_of_ble_eq_true rfl, Nat.le_of_ble_eq_true rfl⟩) (fun u77 H locs hq hP hD hS => ?_)
                obtain ⟨v78, rfl⟩ : ∃ z, z = u77 := ⟨_, rfl⟩
                try dsimp only at hq
                have h79 := hq
                have hP : va_P D vwCl [(tx, .inr (7, [.ref bys, .int (nI ln), .int v78, .int (nI j91), .int (nI (j91 + 1)), .int num, .ref wo, .ref fs, .ref sc, .int tfi, .int tgl, .int tst])), (bys, .inl (y 1, 150, .inl fby))] H := hP
                have hD : va_D A [(tx, .inr (7, [.ref bys, .int (nI ln), .int v78, .int (nI j91), .int (nI (j91 + 1)), .int num, .ref wo, .ref fs, .ref sc, .int tfi, .int tgl, .int tst])), (bys, .inl (y 1, 150, .inl fby))] := hD
                exact W.vret hx hb hr (fun tZ ht hW => ⟨⟨(v78, j91, j91 + 1, num), rfl, ⟨by first | omega | (dsimp only; omega), by first | omega | (dsimp only; omega), by first | omega | (dsimp only; omega), by first | omega | (dsimp only; omega), kz_T.mk (ks_s2 hI0_j91 (ks_b_n h45)) h79⟩, by rw [ht]; exact hP.sub [0, 1] rfl, hD.sub [0, 1] (by decide) rfl⟩, hS.F ht⟩) hS.2.2 dX7_advance_121
          · skip
            have h48 : ¬ j91 < ln := fun q9 => h48 ((nI_ltI (a := j91) (b := ln) (by omega) (by omega)).mpr q9)
            refine lv_aload_n hx hb dX7_advance_65 rfl (lv_at hl 0 rfl) ?_
            refine lv_iconst (v := 0) hx hb dX7_advance_66 (by decide) ?_
            refine va_put (D := D) (ci := 7) (v := .int 0) (ty := .int) (C := RX7) (T := TX7) (N := 12) hx hb hts iw7 tyX7 tyX7_ok nmX7 hown hK hP hD hS 0 rfl rfl 2 (by decide) fw4 (fun _ h9 => h9) rfl (by decide +kernel) rfl rfl (Nat.le_of_ble_eq_true rfl) dX7_advance_67 (fun H locs hP hD hS => ?_)
            have hP : va_P D vwCl [(tx, .inr (7, [.ref bys, .int (nI ln), .int 0, .int (nI j91), .int (nI j91), .int num, .ref wo, .ref fs, .ref sc, .int tfi, .int tgl, .int tst])), (bys, .inl (y 1, 150, .inl fby))] H := hP
            have hD : va_D A [(tx, .inr (7, [.ref bys, .int (nI ln), .int 0, .int (nI j91), .int (nI j91), .int num, .ref wo, .ref fs, .ref sc, .int tfi, .int tgl, .int tst])), (bys, .inl (y 1, 150, .inl fby))] := hD
            refine lv_goto (tgt := 121) hx hb dX7_advance_70 (by decide) ?_
            exact W.vret hx hb hr (fun tZ ht hW => ⟨⟨(0, j91, j91, num), rfl, ⟨by first | omega | (dsimp only; omega), by first | omega | (dsimp only; omega), by first | omega | (dsimp only; omega), by first | omega | (dsimp only; omega), kz_T.mk (ks_s2 hI0_j91 (ks_b_n h45)) (kz_Ts.mk (k := 0) rfl (kz_Tn_e (by first | omega | (dsimp only; omega))))⟩, by rw [ht]; exact hP.sub [0, 1] rfl, hD.sub [0, 1] (by decide) rfl⟩, hS.F ht⟩) hS.2.2 dX7_advance_121
        · skip
          refine lv_aload_n hx hb dX7_advance_33 rfl (lv_at hl 0 rfl) ?_
          refine lv_dup hx hb dX7_advance_34 rfl ?_
          refine va_get (D := D) (ci := 7) (v := .int (nI j91)) (C := RX7) (T := TX7) (N := 12) hx hb hts iw7 hown hK hP 0 rfl rfl 3 (by decide) fw2 (fun _ h9 => h9) rfl dX7_advance_35 ?_
          refine lv_iconst (v := 1) hx hb dX7_advance_38 (by decide) ?_
          refine lv_iadd hx hb dX7_advance_39 ?_
          rw [show (nI j91) + 1 = nI (j91 + 1) from nI_add j91 1]
          refine va_put (D := D) (ci := 7) (v := .int (nI (j91 + 1))) (ty := .int) (C := RX7) (T := TX7) (N := 12) hx hb hts iw7 tyX7 tyX7_ok nmX7 hown hK hP hD hS 0 rfl rfl 3 (by decide) fw2 (fun _ h9 => h9) rfl (by decide +kernel) rfl rfl (Nat.le_of_ble_eq_true rfl) dX7_advance_40 (fun H locs hP hD hS => ?_)
          have hP : va_P D vwCl [(tx, .inr (7, [.ref bys, .int (nI ln), .int tok, .int (nI (j91 + 1)), .int (nI en), .int num, .ref wo, .ref fs, .ref sc, .int tfi, .int tgl, .int tst])), (bys, .inl (y 1, 150, .inl fby))] H := hP
          have hD : va_D A [(tx, .inr (7, [.ref bys, .int (nI ln), .int tok, .int (nI (j91 + 1)), .int (nI en), .int num, .ref wo, .ref fs, .ref sc, .int tfi, .int tgl, .int tst])), (bys, .inl (y 1, 150, .inl fby))] := hD
          refine lv_goto (tgt := 8) hx hb dX7_advance_43 (by decide) ?_
          exact ihj91 (j91 + 1)  H locs ls (by omega) (by omega) (by omega) (hI0_j91.trans (ks_to_step (by omega) (ks_b_mk h46))) (hP.sub [0, 1] rfl) (hD.sub [0, 1] (by decide) rfl) hS (lv_sub hl [0] rfl)
  exact lp40 (ln + 1) en  _ _ _ (by omega) (by omega) (by omega) rfl hP hD hS (lv_sub hl [0] rfl)

set_option maxHeartbeats 4000000 in
set_option maxRecDepth 100000 in
theorem gs_takes (l : Launch) (D : va_G) (y : Nat → ClassId) (tx : Nat) (bys : Nat) (wo : Nat) (fs : Nat) (sc : Nat) (ln : Nat) (sta : Nat) (en : Nat) (tok : Int32) (num : Int32) (tfi : Int32) (tgl : Int32) (tst : Int32) (fby : Nat → Int32) (rw : Nat) (frw : Nat → Int32) (k : Nat) (a : Nat) (b : Nat) (hln : ln ≤ 150) (hen : en ≤ ln) (hk : k < 25) (hab : a < 100) (hbb : b < 100) : kw_Mi l yX7_takes wsX7_takes ({ frames := 4, cells := 0, slots := 0, locals := 120 }) D y [.ref tx, .ref rw, .int (nI k), .int (nI a), .int (nI b)] [(tx, .inr (7, [.ref bys, .int (nI ln), .int tok, .int (nI sta), .int (nI en), .int num, .ref wo, .ref fs, .ref sc, .int tfi, .int tgl, .int tst])), (bys, .inl (y 1, 150, .inl fby)), (rw, .inl (y 0, 25, .inl frw))] (fun (r : Int32) (u : Int32 × (Nat → Int32)) => (r = 0 ∨ r = 1) ∧ ks_S fby ln en ≤ ks_E fby ln en ∧ ks_E fby ln en ≤ ln ∧ en ≤ ks_S fby ln en ∧ (r = 1 → ks_nm fby ln en a b = true ∧ u.2 = upd frw k (nI (ks_V fby ln en)) ∧ u.1 = nI (ks_V fby ln en)) ∧ (r = 0 → ¬ ks_nm fby ln en a b = true)) (fun u => [(tx, .inr (7, [.ref bys, .int (nI ln), .int (nI (ks_K fby ln en)), .int (nI (ks_S fby ln en)), .int (nI (ks_E fby ln en)), .int u.1, .ref wo, .ref fs, .ref sc, .int tfi, .int tgl, .int tst])), (bys, .inl (y 1, 150, .inl fby)), (rw, .inl (y 0, 25, .inl u.2))]) 0 0 := by
  refine kw_Mi.of (cc := cX7_takes) (maxL := 5) (ret := (some .boolean)) (by decide) rfl ?_
  intro pZ eZ s mZ beZ meZ cZ A hE
  obtain ⟨hx, hb, hr, hml, hts, hown, hlocks, hin, hA, hP, hD, hK, hN⟩ := hE
  have hS : va_S A s.heap s.heap [] := va_S.rf
  have hl := lv_entry ([.ref tx, .ref rw, .int (nI k), .int (nI a), .int (nI b)]) (n := 5) (Nat.le_of_ble_eq_true rfl)
  rw [lg_entry_eq]
  generalize (lg_sl ([.ref tx, .ref rw, .int (nI k), .int (nI a), .int (nI b)]) ++ List.replicate (5 - (lg_sl ([.ref tx, .ref rw, .int (nI k), .int (nI a), .int (nI b)])).length) Slot.unset).toArray = ls at hl ⊢
  have hl : lv_has ls 5 [(0, .ref tx), (1, .ref rw), (2, .int (nI k)), (3, .int (nI a)), (4, .int (nI b))] := hl
  have fw1 := hts (.fieldLink RX7 44 "GleanDusk$Text" "token" "I") (List.mem_of_getElem? (i := 1) rfl)
  have fw2 := hts (.fieldLink RX7 62 "GleanDusk$Text" "number" "I") (List.mem_of_getElem? (i := 2) rfl)
  have fw3 := hts (.initialized RX10) (List.mem_of_getElem? (i := 31) rfl)
  have fw4 := hts (.static yX10_isIn) (List.mem_of_getElem? (i := 30) rfl)
  have iw7 : ∀ w ∈ wsX70, w ∈ wsX7_takes := fun _ h => List.mem_cons_of_mem _ (List.mem_append_right _ h)
  refine lv_aload_n hx hb dX7_takes_0 rfl (lv_at hl 0 rfl) ?_
  have hs1 : kw_Split [(tx, .inr (7, [.ref bys, .int (nI ln), .int tok, .int (nI sta), .int (nI en), .int num, .ref wo, .ref fs, .ref sc, .int tfi, .int tgl, .int tst])), (bys, .inl (y 1, 150, .inl fby)), (rw, .inl (y 0, 25, .inl frw))] [(tx, .inr (7, [.ref bys, .int (nI ln), .int tok, .int (nI sta), .int (nI en), .int num, .ref wo, .ref fs, .ref sc, .int tfi, .int tgl, .int tst])), (bys, .inl (y 1, 150, .inl fby))] [(rw, .inl (y 0, 25, .inl frw))] [0, 1] [2] := ⟨rfl, rfl, rfl, rfl, rfl, by decide⟩
  refine kw_go_v hs1 hP hD hS hA (va_runV (As := []) (rest := []) ⟨hx, hb, hml, hown, hts⟩ (gs_advance l D y tx bys wo fs sc ln sta en tok num tfi tgl tst fby hln hen _) (cwV 0 hts gX7_takes_X7_advance rfl rfl rfl (by decide +kernel) ⟨Nat.le_of_ble_eq_true rfl, Nat.le_of_ble_eq_true rfl⟩) (kw_PreV (ci := 7) (q0 := 0) hs1 hP hD hK hN rfl rfl) rfl rfl hl.1 rfl (lv_room (Nat.le_of_ble_eq_true rfl)) dX7_takes_1 ⟨Nat.le_of_ble_eq_true rfl, Nat.le_of_ble_eq_true rfl⟩) (fun u3 H locs hq hP hD hS => ?_)
  obtain ⟨v4, v5, v6, v7⟩ := u3
  try dsimp only at hq
  obtain ⟨h8, h9, h10, h11, h12⟩ := hq
  have hP : va_P D vwCl [(rw, .inl (y 0, 25, .inl frw)), (tx, .inr (7, [.ref bys, .int (nI ln), .int v4, .int (nI v5), .int (nI v6), .int v7, .ref wo, .ref fs, .ref sc, .int tfi, .int tgl, .int tst])), (bys, .inl (y 1, 150, .inl fby))] H := hP
  have hD : va_D A [(rw, .inl (y 0, 25, .inl frw)), (tx, .inr (7, [.ref bys, .int (nI ln), .int v4, .int (nI v5), .int (nI v6), .int v7, .ref wo, .ref fs, .ref sc, .int tfi, .int tgl, .int tst])), (bys, .inl (y 1, 150, .inl fby))] := hD
  obtain ⟨rfl, rfl, rfl, hn13⟩ := h12
  have hk14 := ks_K4 fby ln en
  have hP : va_P D vwCl [(rw, .inl (y 0, 25, .inl frw)), (tx, .inr (7, [.ref bys, .int (nI ln), .int (nI (ks_K fby ln en)), .int (nI (ks_S fby ln en)), .int (nI (ks_E fby ln en)), .int v7, .ref wo, .ref fs, .ref sc, .int tfi, .int tgl, .int tst])), (bys, .inl (y 1, 150, .inl fby))] H := hP
  have hD : va_D A [(rw, .inl (y 0, 25, .inl frw)), (tx, .inr (7, [.ref bys, .int (nI ln), .int (nI (ks_K fby ln en)), .int (nI (ks_S fby ln en)), .int (nI (ks_E fby ln en)), .int v7, .ref wo, .ref fs, .ref sc, .int tfi, .int tgl, .int tst])), (bys, .inl (y 1, 150, .inl fby))] := hD
  refine lv_aload_n hx hb dX7_takes_4 rfl (lv_at hl 0 rfl) ?_
  refine va_get (D := D) (ci := 7) (v := .int (nI (ks_K fby ln en))) (C := RX7) (T := TX7) (N := 12) hx hb hts iw7 hown hK hP 1 rfl rfl 2 (by decide) fw1 (fun _ h9 => h9) rfl dX7_takes_5 ?_
  refine lv_iconst (v := 2) hx hb dX7_takes_8 (by decide) ?_
  refine lv_icmp_ne (tgt := 25) hx hb dX7_takes_9 (by decide) (fun h15 => ?_) (fun h16 => ?_)
  · skip
    have h15 : ¬ (ks_K fby ln en) = 2 := fun q9 => h15 ((nI_eq (a := (ks_K fby ln en)) (b := 2) (by omega) (by omega)).mpr q9)
    refine lv_iconst (v := 0) hx hb dX7_takes_25 (by decide) ?_
    exact W.zret (v := 0) hx hb hr (by decide) (fun tZ ht hW => ⟨⟨0, (v7, frw), rfl, ⟨Or.inl rfl, by first | omega | (dsimp only; omega), by first | omega | (dsimp only; omega), by first | omega | (dsimp only; omega), (fun h9 => absurd h9 (by decide)), (fun _ => ks_nm_k h15)⟩, by rw [ht]; exact hP.sub [1, 2, 0] rfl, hD.sub [1, 2, 0] (by decide) rfl⟩, hS.F ht⟩) hS.2.2 dX7_takes_26
  · skip
    have h16 : (ks_K fby ln en) = 2 := (nI_eq (a := (ks_K fby ln en)) (b := 2) (by omega) (by omega)).mp h16
    obtain ⟨rfl, h17⟩ := hn13 h16
    have hP : va_P D vwCl [(rw, .inl (y 0, 25, .inl frw)), (tx, .inr (7, [.ref bys, .int (nI ln), .int (nI (ks_K fby ln en)), .int (nI (ks_S fby ln en)), .int (nI (ks_E fby ln en)), .int (nI (ks_V fby ln en)), .ref wo, .ref fs, .ref sc, .int tfi, .int tgl, .int tst])), (bys, .inl (y 1, 150, .inl fby))] H := hP
    have hD : va_D A [(rw, .inl (y 0, 25, .inl frw)), (tx, .inr (7, [.ref bys, .int (nI ln), .int (nI (ks_K fby ln en)), .int (nI (ks_S fby ln en)), .int (nI (ks_E fby ln en)), .int (nI (ks_V fby ln en)), .ref wo, .ref fs, .ref sc, .int tfi, .int tgl, .int tst])), (bys, .inl (y 1, 150, .inl fby))] := hD
    refine lv_aload_n hx hb dX7_takes_12 rfl (lv_at hl 0 rfl) ?_
    refine va_get (D := D) (ci := 7) (v := .int (nI (ks_V fby ln en))) (C := RX7) (T := TX7) (N := 12) hx hb hts iw7 hown hK hP 1 rfl rfl 5 (by decide) fw2 (fun _ h9 => h9) rfl dX7_takes_13 ?_
    refine lv_iload_n hx hb dX7_takes_16 rfl (lv_at hl 3 rfl) ?_
    refine lv_iload hx hb dX7_takes_17 (lv_at hl 4 rfl) ?_
    have hs18 : kw_Split [(rw, .inl (y 0, 25, .inl frw)), (tx, .inr (7, [.ref bys, .int (nI ln), .int (nI (ks_K fby ln en)), .int (nI (ks_S fby ln en)), .int (nI (ks_E fby ln en)), .int (nI (ks_V fby ln en)), .ref wo, .ref fs, .ref sc, .int tfi, .int tgl, .int tst])), (bys, .inl (y 1, 150, .inl fby))] [] [(rw, .inl (y 0, 25, .inl frw)), (tx, .inr (7, [.ref bys, .int (nI ln), .int (nI (ks_K fby ln en)), .int (nI (ks_S fby ln en)), .int (nI (ks_E fby ln en)), .int (nI (ks_V fby ln en)), .ref wo, .ref fs, .ref sc, .int tfi, .int tgl, .int tst])), (bys, .inl (y 1, 150, .inl fby))] [] [0, 1, 2] := ⟨rfl, rfl, rfl, rfl, rfl, by decide⟩
    refine kw_go_i hs18 hP hD hS hA (va_runSN (As := [.int (nI (ks_V fby ln en)), .int (nI a), .int (nI b)]) (rest := []) ⟨hx, hb, hml, hown, hts⟩ (gc_isIn l D y (nI (ks_V fby ln en)) a b (by omega) (by omega) _) ⟨va_cnB 3 hts gX7_takes_X10_isIn_n85 rfl rfl rfl (hN.1 ("GleanDusk$Text", 85, yX10_isIn) (List.mem_of_getElem? (i := 16) rfl)) fw3 (by decide +kernel) ⟨Nat.le_of_ble_eq_true rfl, Nat.le_of_ble_eq_true rfl⟩, fw4, trivial⟩ (kw_PreS hs18 hP hD hK hN) rfl rfl hl.1 rfl (lv_room (Nat.le_of_ble_eq_true rfl)) dX7_takes_19 ⟨Nat.le_of_ble_eq_true rfl, Nat.le_of_ble_eq_true rfl⟩) (fun r19 u20 H locs hq hP hD hS => ?_)
    rcases hq with ⟨j21, h22, h23, h24, rfl⟩ | ⟨h25, rfl⟩
    · skip
      have h24 : (ks_V fby ln en) = j21 := (nI_eq (a := (ks_V fby ln en)) (b := j21) (by omega) (by omega)).mp h24
      have hP : va_P D vwCl [(rw, .inl (y 0, 25, .inl frw)), (tx, .inr (7, [.ref bys, .int (nI ln), .int (nI (ks_K fby ln en)), .int (nI (ks_S fby ln en)), .int (nI (ks_E fby ln en)), .int (nI (ks_V fby ln en)), .ref wo, .ref fs, .ref sc, .int tfi, .int tgl, .int tst])), (bys, .inl (y 1, 150, .inl fby))] H := hP
      have hD : va_D A [(rw, .inl (y 0, 25, .inl frw)), (tx, .inr (7, [.ref bys, .int (nI ln), .int (nI (ks_K fby ln en)), .int (nI (ks_S fby ln en)), .int (nI (ks_E fby ln en)), .int (nI (ks_V fby ln en)), .ref wo, .ref fs, .ref sc, .int tfi, .int tgl, .int tst])), (bys, .inl (y 1, 150, .inl fby))] := hD
      refine lv_if_ne (tgt := 27) hx hb dX7_takes_22 (by decide) (fun _ => ?_) (fun h9 => absurd h9 (by decide))
      refine lv_aload_n hx hb dX7_takes_27 rfl (lv_at hl 1 rfl) ?_
      refine lv_iload_n hx hb dX7_takes_28 rfl (lv_at hl 2 rfl) ?_
      refine lv_aload_n hx hb dX7_takes_29 rfl (lv_at hl 0 rfl) ?_
      refine va_get (D := D) (ci := 7) (v := .int (nI (ks_V fby ln en))) (C := RX7) (T := TX7) (N := 12) hx hb hts iw7 hown hK hP 1 rfl rfl 5 (by decide) fw2 (fun _ h9 => h9) rfl dX7_takes_30 ?_
      refine va_iast hx hb hK hP hD hS 0 0 rfl rfl (vp_in_nI (by omega) (by decide)) dX7_takes_33 (fun H locs hP hD hS => ?_)
      rw [nI_clamp (n := k) (by omega)] at hP hD
      have hP : va_P D vwCl [(rw, .inl (y 0, 25, .inl (upd frw k (nI (ks_V fby ln en))))), (tx, .inr (7, [.ref bys, .int (nI ln), .int (nI (ks_K fby ln en)), .int (nI (ks_S fby ln en)), .int (nI (ks_E fby ln en)), .int (nI (ks_V fby ln en)), .ref wo, .ref fs, .ref sc, .int tfi, .int tgl, .int tst])), (bys, .inl (y 1, 150, .inl fby))] H := hP
      have hD : va_D A [(rw, .inl (y 0, 25, .inl (upd frw k (nI (ks_V fby ln en))))), (tx, .inr (7, [.ref bys, .int (nI ln), .int (nI (ks_K fby ln en)), .int (nI (ks_S fby ln en)), .int (nI (ks_E fby ln en)), .int (nI (ks_V fby ln en)), .ref wo, .ref fs, .ref sc, .int tfi, .int tgl, .int tst])), (bys, .inl (y 1, 150, .inl fby))] := hD
      refine lv_iconst (v := 1) hx hb dX7_takes_34 (by decide) ?_
      exact W.zret (v := 1) hx hb hr (by decide) (fun tZ ht hW => ⟨⟨1, ((nI (ks_V fby ln en)), (upd frw k (nI (ks_V fby ln en)))), rfl, ⟨Or.inr rfl, by first | omega | (dsimp only; omega), by first | omega | (dsimp only; omega), by first | omega | (dsimp only; omega), (fun _ => ⟨ks_nm_mk h16 (by first | omega | (dsimp only; omega)) (by first | omega | (dsimp only; omega)), rfl, rfl⟩), (fun h9 => absurd h9 (by decide))⟩, by rw [ht]; exact hP.sub [1, 2, 0] rfl, hD.sub [1, 2, 0] (by decide) rfl⟩, hS.F ht⟩) hS.2.2 dX7_takes_35
    · skip
      have hP : va_P D vwCl [(rw, .inl (y 0, 25, .inl frw)), (tx, .inr (7, [.ref bys, .int (nI ln), .int (nI (ks_K fby ln en)), .int (nI (ks_S fby ln en)), .int (nI (ks_E fby ln en)), .int (nI (ks_V fby ln en)), .ref wo, .ref fs, .ref sc, .int tfi, .int tgl, .int tst])), (bys, .inl (y 1, 150, .inl fby))] H := hP
      have hD : va_D A [(rw, .inl (y 0, 25, .inl frw)), (tx, .inr (7, [.ref bys, .int (nI ln), .int (nI (ks_K fby ln en)), .int (nI (ks_S fby ln en)), .int (nI (ks_E fby ln en)), .int (nI (ks_V fby ln en)), .ref wo, .ref fs, .ref sc, .int tfi, .int tgl, .int tst])), (bys, .inl (y 1, 150, .inl fby))] := hD
      refine lv_if_ne (tgt := 27) hx hb dX7_takes_22 (by decide) (fun h9 => absurd h9 (by decide)) (fun _ => ?_)
      refine lv_iconst (v := 0) hx hb dX7_takes_25 (by decide) ?_
      exact W.zret (v := 0) hx hb hr (by decide) (fun tZ ht hW => ⟨⟨0, ((nI (ks_V fby ln en)), frw), rfl, ⟨Or.inl rfl, by first | omega | (dsimp only; omega), by first | omega | (dsimp only; omega), by first | omega | (dsimp only; omega), (fun h9 => absurd h9 (by decide)), (fun _ => ks_nm_o h25)⟩, by rw [ht]; exact hP.sub [1, 2, 0] rfl, hD.sub [1, 2, 0] (by decide) rfl⟩, hS.F ht⟩) hS.2.2 dX7_takes_26

set_option maxHeartbeats 4000000 in
set_option maxRecDepth 100000 in
theorem gs_takesN (l : Launch) (D : va_G) (y : Nat → ClassId) (tx : Nat) (bys : Nat) (wo : Nat) (fs : Nat) (sc : Nat) (ln : Nat) (sta : Nat) (en : Nat) (tok : Int32) (num : Int32) (tfi : Int32) (tgl : Int32) (tst : Int32) (fby : Nat → Int32) (rw : Nat) (frw : Nat → Int32) (k : Nat) (hln : ln ≤ 150) (hen : en ≤ ln) (hk : k < 25) : kw_Mi l yX7_takes wsX7_takes ({ frames := 4, cells := 0, slots := 0, locals := 120 }) D y [.ref tx, .ref rw, .int (nI k), .int 0, .int (-1)] [(tx, .inr (7, [.ref bys, .int (nI ln), .int tok, .int (nI sta), .int (nI en), .int num, .ref wo, .ref fs, .ref sc, .int tfi, .int tgl, .int tst])), (bys, .inl (y 1, 150, .inl fby)), (rw, .inl (y 0, 25, .inl frw))] (fun (r : Int32) (u : Int32) => ks_S fby ln en ≤ ks_E fby ln en ∧ ks_E fby ln en ≤ ln ∧ en ≤ ks_S fby ln en ∧ r = 0) (fun u => [(tx, .inr (7, [.ref bys, .int (nI ln), .int (nI (ks_K fby ln en)), .int (nI (ks_S fby ln en)), .int (nI (ks_E fby ln en)), .int u, .ref wo, .ref fs, .ref sc, .int tfi, .int tgl, .int tst])), (bys, .inl (y 1, 150, .inl fby)), (rw, .inl (y 0, 25, .inl frw))]) 0 0 := by
  refine kw_Mi.of (cc := cX7_takes) (maxL := 5) (ret := (some .boolean)) (by decide) rfl ?_
  intro pZ eZ s mZ beZ meZ cZ A hE
  obtain ⟨hx, hb, hr, hml, hts, hown, hlocks, hin, hA, hP, hD, hK, hN⟩ := hE
  have hS : va_S A s.heap s.heap [] := va_S.rf
  have hl := lv_entry ([.ref tx, .ref rw, .int (nI k), .int 0, .int (-1)]) (n := 5) (Nat.le_of_ble_eq_true rfl)
  rw [lg_entry_eq]
  generalize (lg_sl ([.ref tx, .ref rw, .int (nI k), .int 0, .int (-1)]) ++ List.replicate (5 - (lg_sl ([.ref tx, .ref rw, .int (nI k), .int 0, .int (-1)])).length) Slot.unset).toArray = ls at hl ⊢
  have hl : lv_has ls 5 [(0, .ref tx), (1, .ref rw), (2, .int (nI k)), (3, .int 0), (4, .int (-1))] := hl
  have fw1 := hts (.fieldLink RX7 44 "GleanDusk$Text" "token" "I") (List.mem_of_getElem? (i := 1) rfl)
  have fw2 := hts (.fieldLink RX7 62 "GleanDusk$Text" "number" "I") (List.mem_of_getElem? (i := 2) rfl)
  have fw3 := hts (.initialized RX10) (List.mem_of_getElem? (i := 31) rfl)
  have fw4 := hts (.static yX10_isIn) (List.mem_of_getElem? (i := 30) rfl)
  have iw7 : ∀ w ∈ wsX70, w ∈ wsX7_takes := fun _ h => List.mem_cons_of_mem _ (List.mem_append_right _ h)
  refine lv_aload_n hx hb dX7_takes_0 rfl (lv_at hl 0 rfl) ?_
  have hs1 : kw_Split [(tx, .inr (7, [.ref bys, .int (nI ln), .int tok, .int (nI sta), .int (nI en), .int num, .ref wo, .ref fs, .ref sc, .int tfi, .int tgl, .int tst])), (bys, .inl (y 1, 150, .inl fby)), (rw, .inl (y 0, 25, .inl frw))] [(tx, .inr (7, [.ref bys, .int (nI ln), .int tok, .int (nI sta), .int (nI en), .int num, .ref wo, .ref fs, .ref sc, .int tfi, .int tgl, .int tst])), (bys, .inl (y 1, 150, .inl fby))] [(rw, .inl (y 0, 25, .inl frw))] [0, 1] [2] := ⟨rfl, rfl, rfl, rfl, rfl, by decide⟩
  refine kw_go_v hs1 hP hD hS hA (va_runV (As := []) (rest := []) ⟨hx, hb, hml, hown, hts⟩ (gs_advance l D y tx bys wo fs sc ln sta en tok num tfi tgl tst fby hln hen _) (cwV 0 hts gX7_takes_X7_advance rfl rfl rfl (by decide +kernel) ⟨Nat.le_of_ble_eq_true rfl, Nat.le_of_ble_eq_true rfl⟩) (kw_PreV (ci := 7) (q0 := 0) hs1 hP hD hK hN rfl rfl) rfl rfl hl.1 rfl (lv_room (Nat.le_of_ble_eq_true rfl)) dX7_takes_1 ⟨Nat.le_of_ble_eq_true rfl, Nat.le_of_ble_eq_true rfl⟩) (fun u3 H locs hq hP hD hS => ?_)
  obtain ⟨v4, v5, v6, v7⟩ := u3
  try dsimp only at hq
  obtain ⟨h8, h9, h10, h11, h12⟩ := hq
  have hP : va_P D vwCl [(rw, .inl (y 0, 25, .inl frw)), (tx, .inr (7, [.ref bys, .int (nI ln), .int v4, .int (nI v5), .int (nI v6), .int v7, .ref wo, .ref fs, .ref sc, .int tfi, .int tgl, .int tst])), (bys, .inl (y 1, 150, .inl fby))] H := hP
  have hD : va_D A [(rw, .inl (y 0, 25, .inl frw)), (tx, .inr (7, [.ref bys, .int (nI ln), .int v4, .int (nI v5), .int (nI v6), .int v7, .ref wo, .ref fs, .ref sc, .int tfi, .int tgl, .int tst])), (bys, .inl (y 1, 150, .inl fby))] := hD
  obtain ⟨rfl, rfl, rfl, hn13⟩ := h12
  have hk14 := ks_K4 fby ln en
  have hP : va_P D vwCl [(rw, .inl (y 0, 25, .inl frw)), (tx, .inr (7, [.ref bys, .int (nI ln), .int (nI (ks_K fby ln en)), .int (nI (ks_S fby ln en)), .int (nI (ks_E fby ln en)), .int v7, .ref wo, .ref fs, .ref sc, .int tfi, .int tgl, .int tst])), (bys, .inl (y 1, 150, .inl fby))] H := hP
  have hD : va_D A [(rw, .inl (y 0, 25, .inl frw)), (tx, .inr (7, [.ref bys, .int (nI ln), .int (nI (ks_K fby ln en)), .int (nI (ks_S fby ln en)), .int (nI (ks_E fby ln en)), .int v7, .ref wo, .ref fs, .ref sc, .int tfi, .int tgl, .int tst])), (bys, .inl (y 1, 150, .inl fby))] := hD
  refine lv_aload_n hx hb dX7_takes_4 rfl (lv_at hl 0 rfl) ?_
  refine va_get (D := D) (ci := 7) (v := .int (nI (ks_K fby ln en))) (C := RX7) (T := TX7) (N := 12) hx hb hts iw7 hown hK hP 1 rfl rfl 2 (by decide) fw1 (fun _ h9 => h9) rfl dX7_takes_5 ?_
  refine lv_iconst (v := 2) hx hb dX7_takes_8 (by decide) ?_
  refine lv_icmp_ne (tgt := 25) hx hb dX7_takes_9 (by decide) (fun h15 => ?_) (fun h16 => ?_)
  · skip
    have h15 : ¬ (ks_K fby ln en) = 2 := fun q9 => h15 ((nI_eq (a := (ks_K fby ln en)) (b := 2) (by omega) (by omega)).mpr q9)
    refine lv_iconst (v := 0) hx hb dX7_takes_25 (by decide) ?_
    exact W.zret (v := 0) hx hb hr (by decide) (fun tZ ht hW => ⟨⟨0, (v7), rfl, ⟨by first | omega | (dsimp only; omega), by first | omega | (dsimp only; omega), by first | omega | (dsimp only; omega), rfl⟩, by rw [ht]; exact hP.sub [1, 2, 0] rfl, hD.sub [1, 2, 0] (by decide) rfl⟩, hS.F ht⟩) hS.2.2 dX7_takes_26
  · skip
    have h16 : (ks_K fby ln en) = 2 := (nI_eq (a := (ks_K fby ln en)) (b := 2) (by omega) (by omega)).mp h16
    refine lv_aload_n hx hb dX7_takes_12 rfl (lv_at hl 0 rfl) ?_
    refine va_get (D := D) (ci := 7) (v := .int v7) (C := RX7) (T := TX7) (N := 12) hx hb hts iw7 hown hK hP 1 rfl rfl 5 (by decide) fw2 (fun _ h9 => h9) rfl dX7_takes_13 ?_
    refine lv_iload_n hx hb dX7_takes_16 rfl (lv_at hl 3 rfl) ?_
    refine lv_iload hx hb dX7_takes_17 (lv_at hl 4 rfl) ?_
    have hs17 : kw_Split [(rw, .inl (y 0, 25, .inl frw)), (tx, .inr (7, [.ref bys, .int (nI ln), .int (nI (ks_K fby ln en)), .int (nI (ks_S fby ln en)), .int (nI (ks_E fby ln en)), .int v7, .ref wo, .ref fs, .ref sc, .int tfi, .int tgl, .int tst])), (bys, .inl (y 1, 150, .inl fby))] [] [(rw, .inl (y 0, 25, .inl frw)), (tx, .inr (7, [.ref bys, .int (nI ln), .int (nI (ks_K fby ln en)), .int (nI (ks_S fby ln en)), .int (nI (ks_E fby ln en)), .int v7, .ref wo, .ref fs, .ref sc, .int tfi, .int tgl, .int tst])), (bys, .inl (y 1, 150, .inl fby))] [] [0, 1, 2] := ⟨rfl, rfl, rfl, rfl, rfl, by decide⟩
    refine kw_go_i hs17 hP hD hS hA (va_runSN (As := [.int v7, .int 0, .int (-1)]) (rest := []) ⟨hx, hb, hml, hown, hts⟩ (gt_isInN l D y v7  _) ⟨va_cnB 3 hts gX7_takes_X10_isIn_n85 rfl rfl rfl (hN.1 ("GleanDusk$Text", 85, yX10_isIn) (List.mem_of_getElem? (i := 16) rfl)) fw3 (by decide +kernel) ⟨Nat.le_of_ble_eq_true rfl, Nat.le_of_ble_eq_true rfl⟩, fw4, trivial⟩ (kw_PreS hs17 hP hD hK hN) rfl rfl hl.1 rfl (lv_room (Nat.le_of_ble_eq_true rfl)) dX7_takes_19 ⟨Nat.le_of_ble_eq_true rfl, Nat.le_of_ble_eq_true rfl⟩) (fun r18 u19 H locs hq hP hD hS => ?_)
    obtain rfl := hq
    have hP : va_P D vwCl [(rw, .inl (y 0, 25, .inl frw)), (tx, .inr (7, [.ref bys, .int (nI ln), .int (nI (ks_K fby ln en)), .int (nI (ks_S fby ln en)), .int (nI (ks_E fby ln en)), .int v7, .ref wo, .ref fs, .ref sc, .int tfi, .int tgl, .int tst])), (bys, .inl (y 1, 150, .inl fby))] H := hP
    have hD : va_D A [(rw, .inl (y 0, 25, .inl frw)), (tx, .inr (7, [.ref bys, .int (nI ln), .int (nI (ks_K fby ln en)), .int (nI (ks_S fby ln en)), .int (nI (ks_E fby ln en)), .int v7, .ref wo, .ref fs, .ref sc, .int tfi, .int tgl, .int tst])), (bys, .inl (y 1, 150, .inl fby))] := hD
    refine lv_if_ne (tgt := 27) hx hb dX7_takes_22 (by decide) (fun h9 => absurd h9 (by decide)) (fun _ => ?_)
    refine lv_iconst (v := 0) hx hb dX7_takes_25 (by decide) ?_
    exact W.zret (v := 0) hx hb hr (by decide) (fun tZ ht hW => ⟨⟨0, (v7), rfl, ⟨by first | omega | (dsimp only; omega), by first | omega | (dsimp only; omega), by first | omega | (dsimp only; omega), rfl⟩, by rw [ht]; exact hP.sub [1, 2, 0] rfl, hD.sub [1, 2, 0] (by decide) rfl⟩, hS.F ht⟩) hS.2.2 dX7_takes_26

set_option maxHeartbeats 4000000 in
set_option maxRecDepth 100000 in
theorem gs_lcharAt0 (l : Launch) (D : va_G) (y : Nat → ClassId) (aK : Nat → Nat) (aV : Nat → Nat) (k : Nat) (hA1 : k < 6) : kz_Mi l yJ1_charAt_3b067 wsJ1_charAt_3b067 ({ frames := 3, cells := 0, slots := 0, locals := 103 }) D y [.ref (aV 0), .int (nI k)] [] aK aV (fun (r : Int32) (u : Unit) => kz_ch r ∧ r = (kz_w 0 k)) (fun _ => []) 0 0 := by
  refine kz_Mi.of (cc := cJ1_charAt_3b067) (maxL := 2) (ret := (some .char)) (by decide) rfl ?_
  intro pZ eZ s mZ beZ meZ cZ A hE
  obtain ⟨hx, hb, hr, hml, hts, hown, hlocks, hin, hA, hP, hD, hK, hN, hZ⟩ := hE
  have hS : va_S A s.heap s.heap [] := va_S.rf
  have hl := lv_entry ([.ref (aV 0), .int (nI k)]) (n := 2) (Nat.le_of_ble_eq_true rfl)
  rw [lg_entry_eq]
  generalize (lg_sl ([.ref (aV 0), .int (nI k)]) ++ List.replicate (2 - (lg_sl ([.ref (aV 0), .int (nI k)])).length) Slot.unset).toArray = ls at hl ⊢
  have hl : lv_has ls 2 [(0, .ref (aV 0)), (1, .int (nI k))] := hl
  rcases (show k = 0 ∨ k = 1 ∨ k = 2 ∨ k = 3 ∨ k = 4 ∨ k = 5 by omega) with rfl | rfl | rfl | rfl | rfl | rfl
  · skip
    refine lv_iload_n hx hb dJ1_charAt_3b067_0 rfl (lv_at hl 1 rfl) ?_
    refine lv_aload_n hx hb dJ1_charAt_3b067_1 rfl (lv_at hl 0 rfl) ?_
    refine va_tlen hx hb (hZ.1.1 0 (by decide)).2.2.2 hS (v := 6) (by decide) dJ1_charAt_3b067_2 ?_
    have hs1 : kw_Split [] [] [] [] [] := ⟨rfl, rfl, rfl, rfl, rfl, by decide⟩
    refine kw_go_v hs1 hP hD hS hA (va_runS (As := [.int (nI 0), .int 6]) (rest := []) ⟨hx, hb, hml, hown, hts⟩ (gj_checkIndex l D y aK aV 0 6 hA1 (by omega) _) (va_cwS 2 hts gJ1_charAt_3b067_J0_checkIndex_df160 rfl rfl rfl (by decide +kernel) ⟨Nat.le_of_ble_eq_true rfl, Nat.le_of_ble_eq_true rfl⟩) (kz_PreS hs1 hP hD hK hN hZ hS hA) rfl rfl hl.1 rfl (lv_room (Nat.le_of_ble_eq_true rfl)) dJ1_charAt_3b067_3 ⟨Nat.le_of_ble_eq_true rfl, Nat.le_of_ble_eq_true rfl⟩) (fun u3 H locs hq hP hD hS => ?_)
    have hP : va_P D vwCl [] H := hP
    have hD : va_D A [] := hD
    refine lv_aload_n hx hb dJ1_charAt_3b067_6 rfl (lv_at hl 0 rfl) ?_
    refine lv_iload_n hx hb dJ1_charAt_3b067_7 rfl (lv_at hl 1 rfl) ?_
    refine va_tb hx hb (hZ.1.1 0 (by decide)).2.2.2 hS (i := (nI 0)) (by unfold vp_in; decide) (v := .int 112) rfl dJ1_charAt_3b067_8 ?_
    refine lv_sipush (v := 255) hx hb dJ1_charAt_3b067_9 (by decide) ?_
    refine lv_iand hx hb dJ1_charAt_3b067_12 ?_
    refine lv_topi (fun z4 hz4 => ?_)
    obtain rfl : z4 = 112 := hz4.trans (by decide)
    refine lv_i2c (v := 112) hx hb dJ1_charAt_3b067_13 (by decide) ?_
    exact W.zret (v := 112) hx hb hr (by decide) (fun tZ ht hW => ⟨⟨112, (), rfl, ⟨(show narrow .char (.int 112) = .int 112 from by decide), rfl⟩, by rw [ht]; exact hP.sub [] rfl, hD.sub [] (by decide) rfl⟩, hS.F ht⟩) hS.2.2 dJ1_charAt_3b067_14
  · skip
    refine lv_iload_n hx hb dJ1_charAt_3b067_0 rfl (lv_at hl 1 rfl) ?_
    refine lv_aload_n hx hb dJ1_charAt_3b067_1 rfl (lv_at hl 0 rfl) ?_
    refine va_tlen hx hb (hZ.1.1 0 (by decide)).2.2.2 hS (v := 6) (by decide) dJ1_charAt_3b067_2 ?_
    have hs5 : kw_Split [] [] [] [] [] := ⟨rfl, rfl, rfl, rfl, rfl, by decide⟩
    refine kw_go_v hs5 hP hD hS hA (va_runS (As := [.int (nI 1), .int 6]) (rest := []) ⟨hx, hb, hml, hown, hts⟩ (gj_checkIndex l D y aK aV 1 6 hA1 (by omega) _) (va_cwS 2 hts gJ1_charAt_3b067_J0_checkIndex_df160 rfl rfl rfl (by decide +kernel) ⟨Nat.le_of_ble_eq_true rfl, Nat.le_of_ble_eq_true rfl⟩) (kz_PreS hs5 hP hD hK hN hZ hS hA) rfl rfl hl.1 rfl (lv_room (Nat.le_of_ble_eq_true rfl)) dJ1_charAt_3b067_3 ⟨Nat.le_of_ble_eq_true rfl, Nat.le_of_ble_eq_true rfl⟩) (fun u7 H locs hq hP hD hS => ?_)
    have hP : va_P D vwCl [] H := hP
    have hD : va_D A [] := hD
    refine lv_aload_n hx hb dJ1_charAt_3b067_6 rfl (lv_at hl 0 rfl) ?_
    refine lv_iload_n hx hb dJ1_charAt_3b067_7 rfl (lv_at hl 1 rfl) ?_
    refine va_tb hx hb (hZ.1.1 0 (by decide)).2.2.2 hS (i := (nI 1)) (by unfold vp_in; decide) (v := .int 97) rfl dJ1_charAt_3b067_8 ?_
    refine lv_sipush (v := 255) hx hb dJ1_charAt_3b067_9 (by decide) ?_
    refine lv_iand hx hb dJ1_charAt_3b067_12 ?_
    refine lv_topi (fun z8 hz8 => ?_)
    obtain rfl : z8 = 97 := hz8.trans (by decide)
    refine lv_i2c (v := 97) hx hb dJ1_charAt_3b067_13 (by decide) ?_
    exact W.zret (v := 97) hx hb hr (by decide) (fun tZ ht hW => ⟨⟨97, (), rfl, ⟨(show narrow .char (.int 97) = .int 97 from by decide), rfl⟩, by rw [ht]; exact hP.sub [] rfl, hD.sub [] (by decide) rfl⟩, hS.F ht⟩) hS.2.2 dJ1_charAt_3b067_14
  · skip
    refine lv_iload_n hx hb dJ1_charAt_3b067_0 rfl (lv_at hl 1 rfl) ?_
    refine lv_aload_n hx hb dJ1_charAt_3b067_1 rfl (lv_at hl 0 rfl) ?_
    refine va_tlen hx hb (hZ.1.1 0 (by decide)).2.2.2 hS (v := 6) (by decide) dJ1_charAt_3b067_2 ?_
    have hs9 : kw_Split [] [] [] [] [] := ⟨rfl, rfl, rfl, rfl, rfl, by decide⟩
    refine kw_go_v hs9 hP hD hS hA (va_runS (As := [.int (nI 2), .int 6]) (rest := []) ⟨hx, hb, hml, hown, hts⟩ (gj_checkIndex l D y aK aV 2 6 hA1 (by omega) _) (va_cwS 2 hts gJ1_charAt_3b067_J0_checkIndex_df160 rfl rfl rfl (by decide +kernel) ⟨Nat.le_of_ble_eq_true rfl, Nat.le_of_ble_eq_true rfl⟩) (kz_PreS hs9 hP hD hK hN hZ hS hA) rfl rfl hl.1 rfl (lv_room (Nat.le_of_ble_eq_true rfl)) dJ1_charAt_3b067_3 ⟨Nat.le_of_ble_eq_true rfl, Nat.le_of_ble_eq_true rfl⟩) (fun u11 H locs hq hP hD hS => ?_)
    have hP : va_P D vwCl [] H := hP
    have hD : va_D A [] := hD
    refine lv_aload_n hx hb dJ1_charAt_3b067_6 rfl (lv_at hl 0 rfl) ?_
    refine lv_iload_n hx hb dJ1_charAt_3b067_7 rfl (lv_at hl 1 rfl) ?_
    refine va_tb hx hb (hZ.1.1 0 (by decide)).2.2.2 hS (i := (nI 2)) (by unfold vp_in; decide) (v := .int 114) rfl dJ1_charAt_3b067_8 ?_
    refine lv_sipush (v := 255) hx hb dJ1_charAt_3b067_9 (by decide) ?_
    refine lv_iand hx hb dJ1_charAt_3b067_12 ?_
    refine lv_topi (fun z12 hz12 => ?_)
    obtain rfl : z12 = 114 := hz12.trans (by decide)
    refine lv_i2c (v := 114) hx hb dJ1_charAt_3b067_13 (by decide) ?_
    exact W.zret (v := 114) hx hb hr (by decide) (fun tZ ht hW => ⟨⟨114, (), rfl, ⟨(show narrow .char (.int 114) = .int 114 from by decide), rfl⟩, by rw [ht]; exact hP.sub [] rfl, hD.sub [] (by decide) rfl⟩, hS.F ht⟩) hS.2.2 dJ1_charAt_3b067_14
  · skip
    refine lv_iload_n hx hb dJ1_charAt_3b067_0 rfl (lv_at hl 1 rfl) ?_
    refine lv_aload_n hx hb dJ1_charAt_3b067_1 rfl (lv_at hl 0 rfl) ?_
    refine va_tlen hx hb (hZ.1.1 0 (by decide)).2.2.2 hS (v := 6) (by decide) dJ1_charAt_3b067_2 ?_
    have hs13 : kw_Split [] [] [] [] [] := ⟨rfl, rfl, rfl, rfl, rfl, by decide⟩
    refine kw_go_v hs13 hP hD hS hA (va_runS (As := [.int (nI 3), .int 6]) (rest := []) ⟨hx, hb, hml, hown, hts⟩ (gj_checkIndex l D y aK aV 3 6 hA1 (by omega) _) (va_cwS 2 hts gJ1_charAt_3b067_J0_checkIndex_df160 rfl rfl rfl (by decide +kernel) ⟨Nat.le_of_ble_eq_true rfl, Nat.le_of_ble_eq_true rfl⟩) (kz_PreS hs13 hP hD hK hN hZ hS hA) rfl rfl hl.1 rfl (lv_room (Nat.le_of_ble_eq_true rfl)) dJ1_charAt_3b067_3 ⟨Nat.le_of_ble_eq_true rfl, Nat.le_of_ble_eq_true rfl⟩) (fun u15 H locs hq hP hD hS => ?_)
    have hP : va_P D vwCl [] H := hP
    have hD : va_D A [] := hD
    refine lv_aload_n hx hb dJ1_charAt_3b067_6 rfl (lv_at hl 0 rfl) ?_
    refine lv_iload_n hx hb dJ1_charAt_3b067_7 rfl (lv_at hl 1 rfl) ?_
    refine va_tb hx hb (hZ.1.1 0 (by decide)).2.2.2 hS (i := (nI 3)) (by unfold vp_in; decide) (v := .int 105) rfl dJ1_charAt_3b067_8 ?_
    refine lv_sipush (v := 255) hx hb dJ1_charAt_3b067_9 (by decide) ?_
    refine lv_iand hx hb dJ1_charAt_3b067_12 ?_
    refine lv_topi (fun z16 hz16 => ?_)
    obtain rfl : z16 = 105 := hz16.trans (by decide)
    refine lv_i2c (v := 105) hx hb dJ1_charAt_3b067_13 (by decide) ?_
    exact W.zret (v := 105) hx hb hr (by decide) (fun tZ ht hW => ⟨⟨105, (), rfl, ⟨(show narrow .char (.int 105) = .int 105 from by decide), rfl⟩, by rw [ht]; exact hP.sub [] rfl, hD.sub [] (by decide) rfl⟩, hS.F ht⟩) hS.2.2 dJ1_charAt_3b067_14
  · skip
    refine lv_iload_n hx hb dJ1_charAt_3b067_0 rfl (lv_at hl 1 rfl) ?_
    refine lv_aload_n hx hb dJ1_charAt_3b067_1 rfl (lv_at hl 0 rfl) ?_
    refine va_tlen hx hb (hZ.1.1 0 (by decide)).2.2.2 hS (v := 6) (by decide) dJ1_charAt_3b067_2 ?_
    have hs17 : kw_Split [] [] [] [] [] := ⟨rfl, rfl, rfl, rfl, rfl, by decide⟩
    refine kw_go_v hs17 hP hD hS hA (va_runS (As := [.int (nI 4), .int 6]) (rest := []) ⟨hx, hb, hml, hown, hts⟩ (gj_checkIndex l D y aK aV 4 6 hA1 (by omega) _) (va_cwS 2 hts gJ1_charAt_3b067_J0_checkIndex_df160 rfl rfl rfl (by decide +kernel) ⟨Nat.le_of_ble_eq_true rfl, Nat.le_of_ble_eq_true rfl⟩) (kz_PreS hs17 hP hD hK hN hZ hS hA) rfl rfl hl.1 rfl (lv_room (Nat.le_of_ble_eq_true rfl)) dJ1_charAt_3b067_3 ⟨Nat.le_of_ble_eq_true rfl, Nat.le_of_ble_eq_true rfl⟩) (fun u19 H locs hq hP hD hS => ?_)
    have hP : va_P D vwCl [] H := hP
    have hD : va_D A [] := hD
    refine lv_aload_n hx hb dJ1_charAt_3b067_6 rfl (lv_at hl 0 rfl) ?_
    refine lv_iload_n hx hb dJ1_charAt_3b067_7 rfl (lv_at hl 1 rfl) ?_
    refine va_tb hx hb (hZ.1.1 0 (by decide)).2.2.2 hS (i := (nI 4)) (by unfold vp_in; decide) (v := .int 115) rfl dJ1_charAt_3b067_8 ?_
    refine lv_sipush (v := 255) hx hb dJ1_charAt_3b067_9 (by decide) ?_
    refine lv_iand hx hb dJ1_charAt_3b067_12 ?_
    refine lv_topi (fun z20 hz20 => ?_)
    obtain rfl : z20 = 115 := hz20.trans (by decide)
    refine lv_i2c (v := 115) hx hb dJ1_charAt_3b067_13 (by decide) ?_
    exact W.zret (v := 115) hx hb hr (by decide) (fun tZ ht hW => ⟨⟨115, (), rfl, ⟨(show narrow .char (.int 115) = .int 115 from by decide), rfl⟩, by rw [ht]; exact hP.sub [] rfl, hD.sub [] (by decide) rfl⟩, hS.F ht⟩) hS.2.2 dJ1_charAt_3b067_14
  · skip
    refine lv_iload_n hx hb dJ1_charAt_3b067_0 rfl (lv_at hl 1 rfl) ?_
    refine lv_aload_n hx hb dJ1_charAt_3b067_1 rfl (lv_at hl 0 rfl) ?_
    refine va_tlen hx hb (hZ.1.1 0 (by decide)).2.2.2 hS (v := 6) (by decide) dJ1_charAt_3b067_2 ?_
    have hs21 : kw_Split [] [] [] [] [] := ⟨rfl, rfl, rfl, rfl, rfl, by decide⟩
    refine kw_go_v hs21 hP hD hS hA (va_runS (As := [.int (nI 5), .int 6]) (rest := []) ⟨hx, hb, hml, hown, hts⟩ (gj_checkIndex l D y aK aV 5 6 hA1 (by omega) _) (va_cwS 2 hts gJ1_charAt_3b067_J0_checkIndex_df160 rfl rfl rfl (by decide +kernel) ⟨Nat.le_of_ble_eq_true rfl, Nat.le_of_ble_eq_true rfl⟩) (kz_PreS hs21 hP hD hK hN hZ hS hA) rfl rfl hl.1 rfl (lv_room (Nat.le_of_ble_eq_true rfl)) dJ1_charAt_3b067_3 ⟨Nat.le_of_ble_eq_true rfl, Nat.le_of_ble_eq_true rfl⟩) (fun u23 H locs hq hP hD hS => ?_)
    have hP : va_P D vwCl [] H := hP
    have hD : va_D A [] := hD
    refine lv_aload_n hx hb dJ1_charAt_3b067_6 rfl (lv_at hl 0 rfl) ?_
    refine lv_iload_n hx hb dJ1_charAt_3b067_7 rfl (lv_at hl 1 rfl) ?_
    refine va_tb hx hb (hZ.1.1 0 (by decide)).2.2.2 hS (i := (nI 5)) (by unfold vp_in; decide) (v := .int 104) rfl dJ1_charAt_3b067_8 ?_
    refine lv_sipush (v := 255) hx hb dJ1_charAt_3b067_9 (by decide) ?_
    refine lv_iand hx hb dJ1_charAt_3b067_12 ?_
    refine lv_topi (fun z24 hz24 => ?_)
    obtain rfl : z24 = 104 := hz24.trans (by decide)
    refine lv_i2c (v := 104) hx hb dJ1_charAt_3b067_13 (by decide) ?_
    exact W.zret (v := 104) hx hb hr (by decide) (fun tZ ht hW => ⟨⟨104, (), rfl, ⟨(show narrow .char (.int 104) = .int 104 from by decide), rfl⟩, by rw [ht]; exact hP.sub [] rfl, hD.sub [] (by decide) rfl⟩, hS.F ht⟩) hS.2.2 dJ1_charAt_3b067_14

set_option maxHeartbeats 4000000 in
set_option maxRecDepth 100000 in
theorem gs_charAt0 (l : Launch) (D : va_G) (y : Nat → ClassId) (aK : Nat → Nat) (aV : Nat → Nat) (k : Nat) (hA1 : k < 6) : kz_Mi l yJ0_charAt_5068e wsJ0_charAt_5068e ({ frames := 4, cells := 0, slots := 0, locals := 124 }) D y [.ref (aK 0), .int (nI k)] [] aK aV (fun (r : Int32) (u : Unit) => r = (kz_w 0 k)) (fun _ => []) 0 0 := by
  refine kz_Mi.of (cc := cJ0_charAt_5068e) (maxL := 2) (ret := (some .char)) (by decide) rfl ?_
  intro pZ eZ s mZ beZ meZ cZ A hE
  obtain ⟨hx, hb, hr, hml, hts, hown, hlocks, hin, hA, hP, hD, hK, hN, hZ⟩ := hE
  have hS : va_S A s.heap s.heap [] := va_S.rf
  have hl := lv_entry ([.ref (aK 0), .int (nI k)]) (n := 2) (Nat.le_of_ble_eq_true rfl)
  rw [lg_entry_eq]
  generalize (lg_sl ([.ref (aK 0), .int (nI k)]) ++ List.replicate (2 - (lg_sl ([.ref (aK 0), .int (nI k)])).length) Slot.unset).toArray = ls at hl ⊢
  have hl : lv_has ls 2 [(0, .ref (aK 0)), (1, .int (nI k))] := hl
  have fw1 := hts (.fieldLink RJ0 9 "java/lang/String" "value" "[B") (List.mem_of_getElem? (i := 1) rfl)
  refine lv_aload_n hx hb dJ0_charAt_5068e_0 rfl (lv_at hl 0 rfl) ?_
  have hs1 : kw_Split [] [] [] [] [] := ⟨rfl, rfl, rfl, rfl, rfl, by decide⟩
  refine kw_go_i hs1 hP hD hS hA (va_runV (As := []) (rest := []) ⟨hx, hb, hml, hown, hts⟩ (gj_isLatin10 l D y aK aV  _) (cwV 0 hts gJ0_charAt_5068e_J0_isLatin1_aae02 rfl rfl rfl (by decide +kernel) ⟨Nat.le_of_ble_eq_true rfl, Nat.le_of_ble_eq_true rfl⟩) (kz_PreK (i := 0) hs1 hP hD hK hN (by decide) hZ hS hA) rfl rfl hl.1 rfl (lv_room (Nat.le_of_ble_eq_true rfl)) dJ0_charAt_5068e_1 ⟨Nat.le_of_ble_eq_true rfl, Nat.le_of_ble_eq_true rfl⟩) (fun r2 u3 H locs hq hP hD hS => ?_)
  obtain rfl := hq
  have hP : va_P D vwCl [] H := hP
  have hD : va_D A [] := hD
  refine lv_if_eq (tgt := 16) hx hb dJ0_charAt_5068e_4 (by decide) (fun h9 => absurd h9 (by decide)) (fun _ => ?_)
  refine lv_aload_n hx hb dJ0_charAt_5068e_7 rfl (lv_at hl 0 rfl) ?_
  refine vk_getf hx hb (hZ.1.1 0 (by decide)).2.2.1 hS hown fw1 (fun _ h9 => h9) dJ0_charAt_5068e_8 ?_
  refine lv_iload_n hx hb dJ0_charAt_5068e_11 rfl (lv_at hl 1 rfl) ?_
  have hs4 : kw_Split [] [] [] [] [] := ⟨rfl, rfl, rfl, rfl, rfl, by decide⟩
  refine kw_go_i hs4 hP hD hS hA (va_runS (As := [.ref (aV 0), .int (nI k)]) (rest := []) ⟨hx, hb, hml, hown, hts⟩ (gs_lcharAt0 l D y aK aV k hA1 _) (va_cwS 2 hts gJ0_charAt_5068e_J1_charAt_3b067 rfl rfl rfl (by decide +kernel) ⟨Nat.le_of_ble_eq_true rfl, Nat.le_of_ble_eq_true rfl⟩) (kz_PreS hs4 hP hD hK hN hZ hS hA) rfl rfl hl.1 rfl (lv_room (Nat.le_of_ble_eq_true rfl)) dJ0_charAt_5068e_12 ⟨Nat.le_of_ble_eq_true rfl, Nat.le_of_ble_eq_true rfl⟩) (fun r5 u6 H locs hq hP hD hS => ?_)
  obtain ⟨h7, rfl⟩ := hq
  have hP : va_P D vwCl [] H := hP
  have hD : va_D A [] := hD
  exact W.zret (v := (kz_w 0 k)) hx hb hr h7 (fun tZ ht hW => ⟨⟨(kz_w 0 k), (), rfl, rfl, by rw [ht]; exact hP.sub [] rfl, hD.sub [] (by decide) rfl⟩, hS.F ht⟩) hS.2.2 dJ0_charAt_5068e_15

set_option maxHeartbeats 4000000 in
set_option maxRecDepth 100000 in
theorem gs_lcharAt1 (l : Launch) (D : va_G) (y : Nat → ClassId) (aK : Nat → Nat) (aV : Nat → Nat) (k : Nat) (hA1 : k < 5) : kz_Mi l yJ1_charAt_3b067 wsJ1_charAt_3b067 ({ frames := 3, cells := 0, slots := 0, locals := 103 }) D y [.ref (aV 1), .int (nI k)] [] aK aV (fun (r : Int32) (u : Unit) => kz_ch r ∧ r = (kz_w 1 k)) (fun _ => []) 0 0 := by
  refine kz_Mi.of (cc := cJ1_charAt_3b067) (maxL := 2) (ret := (some .char)) (by decide) rfl ?_
  intro pZ eZ s mZ beZ meZ cZ A hE
  obtain ⟨hx, hb, hr, hml, hts, hown, hlocks, hin, hA, hP, hD, hK, hN, hZ⟩ := hE
  have hS : va_S A s.heap s.heap [] := va_S.rf
  have hl := lv_entry ([.ref (aV 1), .int (nI k)]) (n := 2) (Nat.le_of_ble_eq_true rfl)
  rw [lg_entry_eq]
  generalize (lg_sl ([.ref (aV 1), .int (nI k)]) ++ List.replicate (2 - (lg_sl ([.ref (aV 1), .int (nI k)])).length) Slot.unset).toArray = ls at hl ⊢
  have hl : lv_has ls 2 [(0, .ref (aV 1)), (1, .int (nI k))] := hl
  rcases (show k = 0 ∨ k = 1 ∨ k = 2 ∨ k = 3 ∨ k = 4 by omega) with rfl | rfl | rfl | rfl | rfl
  · skip
    refine lv_iload_n hx hb dJ1_charAt_3b067_0 rfl (lv_at hl 1 rfl) ?_
    refine lv_aload_n hx hb dJ1_charAt_3b067_1 rfl (lv_at hl 0 rfl) ?_
    refine va_tlen hx hb (hZ.1.1 1 (by decide)).2.2.2 hS (v := 5) (by decide) dJ1_charAt_3b067_2 ?_
    have hs1 : kw_Split [] [] [] [] [] := ⟨rfl, rfl, rfl, rfl, rfl, by decide⟩
    refine kw_go_v hs1 hP hD hS hA (va_runS (As := [.int (nI 0), .int 5]) (rest := []) ⟨hx, hb, hml, hown, hts⟩ (gj_checkIndex l D y aK aV 0 5 hA1 (by omega) _) (va_cwS 2 hts gJ1_charAt_3b067_J0_checkIndex_df160 rfl rfl rfl (by decide +kernel) ⟨Nat.le_of_ble_eq_true rfl, Nat.le_of_ble_eq_true rfl⟩) (kz_PreS hs1 hP hD hK hN hZ hS hA) rfl rfl hl.1 rfl (lv_room (Nat.le_of_ble_eq_true rfl)) dJ1_charAt_3b067_3 ⟨Nat.le_of_ble_eq_true rfl, Nat.le_of_ble_eq_true rfl⟩) (fun u3 H locs hq hP hD hS => ?_)
    have hP : va_P D vwCl [] H := hP
    have hD : va_D A [] := hD
    refine lv_aload_n hx hb dJ1_charAt_3b067_6 rfl (lv_at hl 0 rfl) ?_
    refine lv_iload_n hx hb dJ1_charAt_3b067_7 rfl (lv_at hl 1 rfl) ?_
    refine va_tb hx hb (hZ.1.1 1 (by decide)).2.2.2 hS (i := (nI 0)) (by unfold vp_in; decide) (v := .int 102) rfl dJ1_charAt_3b067_8 ?_
    refine lv_sipush (v := 255) hx hb dJ1_charAt_3b067_9 (by decide) ?_
    refine lv_iand hx hb dJ1_charAt_3b067_12 ?_
    refine lv_topi (fun z4 hz4 => ?_)
    obtain rfl : z4 = 102 := hz4.trans (by decide)
    refine lv_i2c (v := 102) hx hb dJ1_charAt_3b067_13 (by decide) ?_
    exact W.zret (v := 102) hx hb hr (by decide) (fun tZ ht hW => ⟨⟨102, (), rfl, ⟨(show narrow .char (.int 102) = .int 102 from by decide), rfl⟩, by rw [ht]; exact hP.sub [] rfl, hD.sub [] (by decide) rfl⟩, hS.F ht⟩) hS.2.2 dJ1_charAt_3b067_14
  · skip
    refine lv_iload_n hx hb dJ1_charAt_3b067_0 rfl (lv_at hl 1 rfl) ?_
    refine lv_aload_n hx hb dJ1_charAt_3b067_1 rfl (lv_at hl 0 rfl) ?_
    refine va_tlen hx hb (hZ.1.1 1 (by decide)).2.2.2 hS (v := 5) (by decide) dJ1_charAt_3b067_2 ?_
    have hs5 : kw_Split [] [] [] [] [] := ⟨rfl, rfl, rfl, rfl, rfl, by decide⟩
    refine kw_go_v hs5 hP hD hS hA (va_runS (As := [.int (nI 1), .int 5]) (rest := []) ⟨hx, hb, hml, hown, hts⟩ (gj_checkIndex l D y aK aV 1 5 hA1 (by omega) _) (va_cwS 2 hts gJ1_charAt_3b067_J0_checkIndex_df160 rfl rfl rfl (by decide +kernel) ⟨Nat.le_of_ble_eq_true rfl, Nat.le_of_ble_eq_true rfl⟩) (kz_PreS hs5 hP hD hK hN hZ hS hA) rfl rfl hl.1 rfl (lv_room (Nat.le_of_ble_eq_true rfl)) dJ1_charAt_3b067_3 ⟨Nat.le_of_ble_eq_true rfl, Nat.le_of_ble_eq_true rfl⟩) (fun u7 H locs hq hP hD hS => ?_)
    have hP : va_P D vwCl [] H := hP
    have hD : va_D A [] := hD
    refine lv_aload_n hx hb dJ1_charAt_3b067_6 rfl (lv_at hl 0 rfl) ?_
    refine lv_iload_n hx hb dJ1_charAt_3b067_7 rfl (lv_at hl 1 rfl) ?_
    refine va_tb hx hb (hZ.1.1 1 (by decide)).2.2.2 hS (i := (nI 1)) (by unfold vp_in; decide) (v := .int 105) rfl dJ1_charAt_3b067_8 ?_
    refine lv_sipush (v := 255) hx hb dJ1_charAt_3b067_9 (by decide) ?_
    refine lv_iand hx hb dJ1_charAt_3b067_12 ?_
    refine lv_topi (fun z8 hz8 => ?_)
    obtain rfl : z8 = 105 := hz8.trans (by decide)
    refine lv_i2c (v := 105) hx hb dJ1_charAt_3b067_13 (by decide) ?_
    exact W.zret (v := 105) hx hb hr (by decide) (fun tZ ht hW => ⟨⟨105, (), rfl, ⟨(show narrow .char (.int 105) = .int 105 from by decide), rfl⟩, by rw [ht]; exact hP.sub [] rfl, hD.sub [] (by decide) rfl⟩, hS.F ht⟩) hS.2.2 dJ1_charAt_3b067_14
  · skip
    refine lv_iload_n hx hb dJ1_charAt_3b067_0 rfl (lv_at hl 1 rfl) ?_
    refine lv_aload_n hx hb dJ1_charAt_3b067_1 rfl (lv_at hl 0 rfl) ?_
    refine va_tlen hx hb (hZ.1.1 1 (by decide)).2.2.2 hS (v := 5) (by decide) dJ1_charAt_3b067_2 ?_
    have hs9 : kw_Split [] [] [] [] [] := ⟨rfl, rfl, rfl, rfl, rfl, by decide⟩
    refine kw_go_v hs9 hP hD hS hA (va_runS (As := [.int (nI 2), .int 5]) (rest := []) ⟨hx, hb, hml, hown, hts⟩ (gj_checkIndex l D y aK aV 2 5 hA1 (by omega) _) (va_cwS 2 hts gJ1_charAt_3b067_J0_checkIndex_df160 rfl rfl rfl (by decide +kernel) ⟨Nat.le_of_ble_eq_true rfl, Nat.le_of_ble_eq_true rfl⟩) (kz_PreS hs9 hP hD hK hN hZ hS hA) rfl rfl hl.1 rfl (lv_room (Nat.le_of_ble_eq_true rfl)) dJ1_charAt_3b067_3 ⟨Nat.le_of_ble_eq_true rfl, Nat.le_of_ble_eq_true rfl⟩) (fun u11 H locs hq hP hD hS => ?_)
    have hP : va_P D vwCl [] H := hP
    have hD : va_D A [] := hD
    refine lv_aload_n hx hb dJ1_charAt_3b067_6 rfl (lv_at hl 0 rfl) ?_
    refine lv_iload_n hx hb dJ1_charAt_3b067_7 rfl (lv_at hl 1 rfl) ?_
    refine va_tb hx hb (hZ.1.1 1 (by decide)).2.2.2 hS (i := (nI 2)) (by unfold vp_in; decide) (v := .int 101) rfl dJ1_charAt_3b067_8 ?_
    refine lv_sipush (v := 255) hx hb dJ1_charAt_3b067_9 (by decide) ?_
    refine lv_iand hx hb dJ1_charAt_3b067_12 ?_
    refine lv_topi (fun z12 hz12 => ?_)
    obtain rfl : z12 = 101 := hz12.trans (by decide)
    refine lv_i2c (v := 101) hx hb dJ1_charAt_3b067_13 (by decide) ?_
    exact W.zret (v := 101) hx hb hr (by decide) (fun tZ ht hW => ⟨⟨101, (), rfl, ⟨(show narrow .char (.int 101) = .int 101 from by decide), rfl⟩, by rw [ht]; exact hP.sub [] rfl, hD.sub [] (by decide) rfl⟩, hS.F ht⟩) hS.2.2 dJ1_charAt_3b067_14
  · skip
    refine lv_iload_n hx hb dJ1_charAt_3b067_0 rfl (lv_at hl 1 rfl) ?_
    refine lv_aload_n hx hb dJ1_charAt_3b067_1 rfl (lv_at hl 0 rfl) ?_
    refine va_tlen hx hb (hZ.1.1 1 (by decide)).2.2.2 hS (v := 5) (by decide) dJ1_charAt_3b067_2 ?_
    have hs13 : kw_Split [] [] [] [] [] := ⟨rfl, rfl, rfl, rfl, rfl, by decide⟩
    refine kw_go_v hs13 hP hD hS hA (va_runS (As := [.int (nI 3), .int 5]) (rest := []) ⟨hx, hb, hml, hown, hts⟩ (gj_checkIndex l D y aK aV 3 5 hA1 (by omega) _) (va_cwS 2 hts gJ1_charAt_3b067_J0_checkIndex_df160 rfl rfl rfl (by decide +kernel) ⟨Nat.le_of_ble_eq_true rfl, Nat.le_of_ble_eq_true rfl⟩) (kz_PreS hs13 hP hD hK hN hZ hS hA) rfl rfl hl.1 rfl (lv_room (Nat.le_of_ble_eq_true rfl)) dJ1_charAt_3b067_3 ⟨Nat.le_of_ble_eq_true rfl, Nat.le_of_ble_eq_true rfl⟩) (fun u15 H locs hq hP hD hS => ?_)
    have hP : va_P D vwCl [] H := hP
    have hD : va_D A [] := hD
    refine lv_aload_n hx hb dJ1_charAt_3b067_6 rfl (lv_at hl 0 rfl) ?_
    refine lv_iload_n hx hb dJ1_charAt_3b067_7 rfl (lv_at hl 1 rfl) ?_
    refine va_tb hx hb (hZ.1.1 1 (by decide)).2.2.2 hS (i := (nI 3)) (by unfold vp_in; decide) (v := .int 108) rfl dJ1_charAt_3b067_8 ?_
    refine lv_sipush (v := 255) hx hb dJ1_charAt_3b067_9 (by decide) ?_
    refine lv_iand hx hb dJ1_charAt_3b067_12 ?_
    refine lv_topi (fun z16 hz16 => ?_)
    obtain rfl : z16 = 108 := hz16.trans (by decide)
    refine lv_i2c (v := 108) hx hb dJ1_charAt_3b067_13 (by decide) ?_
    exact W.zret (v := 108) hx hb hr (by decide) (fun tZ ht hW => ⟨⟨108, (), rfl, ⟨(show narrow .char (.int 108) = .int 108 from by decide), rfl⟩, by rw [ht]; exact hP.sub [] rfl, hD.sub [] (by decide) rfl⟩, hS.F ht⟩) hS.2.2 dJ1_charAt_3b067_14
  · skip
    refine lv_iload_n hx hb dJ1_charAt_3b067_0 rfl (lv_at hl 1 rfl) ?_
    refine lv_aload_n hx hb dJ1_charAt_3b067_1 rfl (lv_at hl 0 rfl) ?_
    refine va_tlen hx hb (hZ.1.1 1 (by decide)).2.2.2 hS (v := 5) (by decide) dJ1_charAt_3b067_2 ?_
    have hs17 : kw_Split [] [] [] [] [] := ⟨rfl, rfl, rfl, rfl, rfl, by decide⟩
    refine kw_go_v hs17 hP hD hS hA (va_runS (As := [.int (nI 4), .int 5]) (rest := []) ⟨hx, hb, hml, hown, hts⟩ (gj_checkIndex l D y aK aV 4 5 hA1 (by omega) _) (va_cwS 2 hts gJ1_charAt_3b067_J0_checkIndex_df160 rfl rfl rfl (by decide +kernel) ⟨Nat.le_of_ble_eq_true rfl, Nat.le_of_ble_eq_true rfl⟩) (kz_PreS hs17 hP hD hK hN hZ hS hA) rfl rfl hl.1 rfl (lv_room (Nat.le_of_ble_eq_true rfl)) dJ1_charAt_3b067_3 ⟨Nat.le_of_ble_eq_true rfl, Nat.le_of_ble_eq_true rfl⟩) (fun u19 H locs hq hP hD hS => ?_)
    have hP : va_P D vwCl [] H := hP
    have hD : va_D A [] := hD
    refine lv_aload_n hx hb dJ1_charAt_3b067_6 rfl (lv_at hl 0 rfl) ?_
    refine lv_iload_n hx hb dJ1_charAt_3b067_7 rfl (lv_at hl 1 rfl) ?_
    refine va_tb hx hb (hZ.1.1 1 (by decide)).2.2.2 hS (i := (nI 4)) (by unfold vp_in; decide) (v := .int 100) rfl dJ1_charAt_3b067_8 ?_
    refine lv_sipush (v := 255) hx hb dJ1_charAt_3b067_9 (by decide) ?_
    refine lv_iand hx hb dJ1_charAt_3b067_12 ?_
    refine lv_topi (fun z20 hz20 => ?_)
    obtain rfl : z20 = 100 := hz20.trans (by decide)
    refine lv_i2c (v := 100) hx hb dJ1_charAt_3b067_13 (by decide) ?_
    exact W.zret (v := 100) hx hb hr (by decide) (fun tZ ht hW => ⟨⟨100, (), rfl, ⟨(show narrow .char (.int 100) = .int 100 from by decide), rfl⟩, by rw [ht]; exact hP.sub [] rfl, hD.sub [] (by decide) rfl⟩, hS.F ht⟩) hS.2.2 dJ1_charAt_3b067_14

set_option maxHeartbeats 4000000 in
set_option maxRecDepth 100000 in
theorem gs_charAt1 (l : Launch) (D : va_G) (y : Nat → ClassId) (aK : Nat → Nat) (aV : Nat → Nat) (k : Nat) (hA1 : k < 5) : kz_Mi l yJ0_charAt_5068e wsJ0_charAt_5068e ({ frames := 4, cells := 0, slots := 0, locals := 124 }) D y [.ref (aK 1), .int (nI k)] [] aK aV (fun (r : Int32) (u : Unit) => r = (kz_w 1 k)) (fun _ => []) 0 0 := by
  refine kz_Mi.of (cc := cJ0_charAt_5068e) (maxL := 2) (ret := (some .char)) (by decide) rfl ?_
  intro pZ eZ s mZ beZ meZ cZ A hE
  obtain ⟨hx, hb, hr, hml, hts, hown, hlocks, hin, hA, hP, hD, hK, hN, hZ⟩ := hE
  have hS : va_S A s.heap s.heap [] := va_S.rf
  have hl := lv_entry ([.ref (aK 1), .int (nI k)]) (n := 2) (Nat.le_of_ble_eq_true rfl)
  rw [lg_entry_eq]
  generalize (lg_sl ([.ref (aK 1), .int (nI k)]) ++ List.replicate (2 - (lg_sl ([.ref (aK 1), .int (nI k)])).length) Slot.unset).toArray = ls at hl ⊢
  have hl : lv_has ls 2 [(0, .ref (aK 1)), (1, .int (nI k))] := hl
  have fw1 := hts (.fieldLink RJ0 9 "java/lang/String" "value" "[B") (List.mem_of_getElem? (i := 1) rfl)
  refine lv_aload_n hx hb dJ0_charAt_5068e_0 rfl (lv_at hl 0 rfl) ?_
  have hs1 : kw_Split [] [] [] [] [] := ⟨rfl, rfl, rfl, rfl, rfl, by decide⟩
  refine kw_go_i hs1 hP hD hS hA (va_runV (As := []) (rest := []) ⟨hx, hb, hml, hown, hts⟩ (gj_isLatin11 l D y aK aV  _) (cwV 0 hts gJ0_charAt_5068e_J0_isLatin1_aae02 rfl rfl rfl (by decide +kernel) ⟨Nat.le_of_ble_eq_true rfl, Nat.le_of_ble_eq_true rfl⟩) (kz_PreK (i := 1) hs1 hP hD hK hN (by decide) hZ hS hA) rfl rfl hl.1 rfl (lv_room (Nat.le_of_ble_eq_true rfl)) dJ0_charAt_5068e_1 ⟨Nat.le_of_ble_eq_true rfl, Nat.le_of_ble_eq_true rfl⟩) (fun r2 u3 H locs hq hP hD hS => ?_)
  obtain rfl := hq
  have hP : va_P D vwCl [] H := hP
  have hD : va_D A [] := hD
  refine lv_if_eq (tgt := 16) hx hb dJ0_charAt_5068e_4 (by decide) (fun h9 => absurd h9 (by decide)) (fun _ => ?_)
  refine lv_aload_n hx hb dJ0_charAt_5068e_7 rfl (lv_at hl 0 rfl) ?_
  refine vk_getf hx hb (hZ.1.1 1 (by decide)).2.2.1 hS hown fw1 (fun _ h9 => h9) dJ0_charAt_5068e_8 ?_
  refine lv_iload_n hx hb dJ0_charAt_5068e_11 rfl (lv_at hl 1 rfl) ?_
  have hs4 : kw_Split [] [] [] [] [] := ⟨rfl, rfl, rfl, rfl, rfl, by decide⟩
  refine kw_go_i hs4 hP hD hS hA (va_runS (As := [.ref (aV 1), .int (nI k)]) (rest := []) ⟨hx, hb, hml, hown, hts⟩ (gs_lcharAt1 l D y aK aV k hA1 _) (va_cwS 2 hts gJ0_charAt_5068e_J1_charAt_3b067 rfl rfl rfl (by decide +kernel) ⟨Nat.le_of_ble_eq_true rfl, Nat.le_of_ble_eq_true rfl⟩) (kz_PreS hs4 hP hD hK hN hZ hS hA) rfl rfl hl.1 rfl (lv_room (Nat.le_of_ble_eq_true rfl)) dJ0_charAt_5068e_12 ⟨Nat.le_of_ble_eq_true rfl, Nat.le_of_ble_eq_true rfl⟩) (fun r5 u6 H locs hq hP hD hS => ?_)
  obtain ⟨h7, rfl⟩ := hq
  have hP : va_P D vwCl [] H := hP
  have hD : va_D A [] := hD
  exact W.zret (v := (kz_w 1 k)) hx hb hr h7 (fun tZ ht hW => ⟨⟨(kz_w 1 k), (), rfl, rfl, by rw [ht]; exact hP.sub [] rfl, hD.sub [] (by decide) rfl⟩, hS.F ht⟩) hS.2.2 dJ0_charAt_5068e_15

set_option maxHeartbeats 4000000 in
set_option maxRecDepth 100000 in
theorem gs_lcharAt2 (l : Launch) (D : va_G) (y : Nat → ClassId) (aK : Nat → Nat) (aV : Nat → Nat) (k : Nat) (hA1 : k < 7) : kz_Mi l yJ1_charAt_3b067 wsJ1_charAt_3b067 ({ frames := 3, cells := 0, slots := 0, locals := 103 }) D y [.ref (aV 2), .int (nI k)] [] aK aV (fun (r : Int32) (u : Unit) => kz_ch r ∧ r = (kz_w 2 k)) (fun _ => []) 0 0 := by
  refine kz_Mi.of (cc := cJ1_charAt_3b067) (maxL := 2) (ret := (some .char)) (by decide) rfl ?_
  intro pZ eZ s mZ beZ meZ cZ A hE
  obtain ⟨hx, hb, hr, hml, hts, hown, hlocks, hin, hA, hP, hD, hK, hN, hZ⟩ := hE
  have hS : va_S A s.heap s.heap [] := va_S.rf
  have hl := lv_entry ([.ref (aV 2), .int (nI k)]) (n := 2) (Nat.le_of_ble_eq_true rfl)
  rw [lg_entry_eq]
  generalize (lg_sl ([.ref (aV 2), .int (nI k)]) ++ List.replicate (2 - (lg_sl ([.ref (aV 2), .int (nI k)])).length) Slot.unset).toArray = ls at hl ⊢
  have hl : lv_has ls 2 [(0, .ref (aV 2)), (1, .int (nI k))] := hl
  rcases (show k = 0 ∨ k = 1 ∨ k = 2 ∨ k = 3 ∨ k = 4 ∨ k = 5 ∨ k = 6 by omega) with rfl | rfl | rfl | rfl | rfl | rfl | rfl
  · skip
    refine lv_iload_n hx hb dJ1_charAt_3b067_0 rfl (lv_at hl 1 rfl) ?_
    refine lv_aload_n hx hb dJ1_charAt_3b067_1 rfl (lv_at hl 0 rfl) ?_
    refine va_tlen hx hb (hZ.1.1 2 (by decide)).2.2.2 hS (v := 7) (by decide) dJ1_charAt_3b067_2 ?_
    have hs1 : kw_Split [] [] [] [] [] := ⟨rfl, rfl, rfl, rfl, rfl, by decide⟩
    refine kw_go_v hs1 hP hD hS hA (va_runS (As := [.int (nI 0), .int 7]) (rest := []) ⟨hx, hb, hml, hown, hts⟩ (gj_checkIndex l D y aK aV 0 7 hA1 (by omega) _) (va_cwS 2 hts gJ1_charAt_3b067_J0_checkIndex_df160 rfl rfl rfl (by decide +kernel) ⟨Nat.le_of_ble_eq_true rfl, Nat.le_of_ble_eq_true rfl⟩) (kz_PreS hs1 hP hD hK hN hZ hS hA) rfl rfl hl.1 rfl (lv_room (Nat.le_of_ble_eq_true rfl)) dJ1_charAt_3b067_3 ⟨Nat.le_of_ble_eq_true rfl, Nat.le_of_ble_eq_true rfl⟩) (fun u3 H locs hq hP hD hS => ?_)
    have hP : va_P D vwCl [] H := hP
    have hD : va_D A [] := hD
    refine lv_aload_n hx hb dJ1_charAt_3b067_6 rfl (lv_at hl 0 rfl) ?_
    refine lv_iload_n hx hb dJ1_charAt_3b067_7 rfl (lv_at hl 1 rfl) ?_
    refine va_tb hx hb (hZ.1.1 2 (by decide)).2.2.2 hS (i := (nI 0)) (by unfold vp_in; decide) (v := .int 103) rfl dJ1_charAt_3b067_8 ?_
    refine lv_sipush (v := 255) hx hb dJ1_charAt_3b067_9 (by decide) ?_
    refine lv_iand hx hb dJ1_charAt_3b067_12 ?_
    refine lv_topi (fun z4 hz4 => ?_)
    obtain rfl : z4 = 103 := hz4.trans (by decide)
    refine lv_i2c (v := 103) hx hb dJ1_charAt_3b067_13 (by decide) ?_
    exact W.zret (v := 103) hx hb hr (by decide) (fun tZ ht hW => ⟨⟨103, (), rfl, ⟨(show narrow .char (.int 103) = .int 103 from by decide), rfl⟩, by rw [ht]; exact hP.sub [] rfl, hD.sub [] (by decide) rfl⟩, hS.F ht⟩) hS.2.2 dJ1_charAt_3b067_14
  · skip
    refine lv_iload_n hx hb dJ1_charAt_3b067_0 rfl (lv_at hl 1 rfl) ?_
    refine lv_aload_n hx hb dJ1_charAt_3b067_1 rfl (lv_at hl 0 rfl) ?_
    refine va_tlen hx hb (hZ.1.1 2 (by decide)).2.2.2 hS (v := 7) (by decide) dJ1_charAt_3b067_2 ?_
    have hs5 : kw_Split [] [] [] [] [] := ⟨rfl, rfl, rfl, rfl, rfl, by decide⟩
    refine kw_go_v hs5 hP hD hS hA (va_runS (As := [.int (nI 1), .int 7]) (rest := []) ⟨hx, hb, hml, hown, hts⟩ (gj_checkIndex l D y aK aV 1 7 hA1 (by omega) _) (va_cwS 2 hts gJ1_charAt_3b067_J0_checkIndex_df160 rfl rfl rfl (by decide +kernel) ⟨Nat.le_of_ble_eq_true rfl, Nat.le_of_ble_eq_true rfl⟩) (kz_PreS hs5 hP hD hK hN hZ hS hA) rfl rfl hl.1 rfl (lv_room (Nat.le_of_ble_eq_true rfl)) dJ1_charAt_3b067_3 ⟨Nat.le_of_ble_eq_true rfl, Nat.le_of_ble_eq_true rfl⟩) (fun u7 H locs hq hP hD hS => ?_)
    have hP : va_P D vwCl [] H := hP
    have hD : va_D A [] := hD
    refine lv_aload_n hx hb dJ1_charAt_3b067_6 rfl (lv_at hl 0 rfl) ?_
    refine lv_iload_n hx hb dJ1_charAt_3b067_7 rfl (lv_at hl 1 rfl) ?_
    refine va_tb hx hb (hZ.1.1 2 (by decide)).2.2.2 hS (i := (nI 1)) (by unfold vp_in; decide) (v := .int 108) rfl dJ1_charAt_3b067_8 ?_
    refine lv_sipush (v := 255) hx hb dJ1_charAt_3b067_9 (by decide) ?_
    refine lv_iand hx hb dJ1_charAt_3b067_12 ?_
    refine lv_topi (fun z8 hz8 => ?_)
    obtain rfl : z8 = 108 := hz8.trans (by decide)
    refine lv_i2c (v := 108) hx hb dJ1_charAt_3b067_13 (by decide) ?_
    exact W.zret (v := 108) hx hb hr (by decide) (fun tZ ht hW => ⟨⟨108, (), rfl, ⟨(show narrow .char (.int 108) = .int 108 from by decide), rfl⟩, by rw [ht]; exact hP.sub [] rfl, hD.sub [] (by decide) rfl⟩, hS.F ht⟩) hS.2.2 dJ1_charAt_3b067_14
  · skip
    refine lv_iload_n hx hb dJ1_charAt_3b067_0 rfl (lv_at hl 1 rfl) ?_
    refine lv_aload_n hx hb dJ1_charAt_3b067_1 rfl (lv_at hl 0 rfl) ?_
    refine va_tlen hx hb (hZ.1.1 2 (by decide)).2.2.2 hS (v := 7) (by decide) dJ1_charAt_3b067_2 ?_
    have hs9 : kw_Split [] [] [] [] [] := ⟨rfl, rfl, rfl, rfl, rfl, by decide⟩
    refine kw_go_v hs9 hP hD hS hA (va_runS (As := [.int (nI 2), .int 7]) (rest := []) ⟨hx, hb, hml, hown, hts⟩ (gj_checkIndex l D y aK aV 2 7 hA1 (by omega) _) (va_cwS 2 hts gJ1_charAt_3b067_J0_checkIndex_df160 rfl rfl rfl (by decide +kernel) ⟨Nat.le_of_ble_eq_true rfl, Nat.le_of_ble_eq_true rfl⟩) (kz_PreS hs9 hP hD hK hN hZ hS hA) rfl rfl hl.1 rfl (lv_room (Nat.le_of_ble_eq_true rfl)) dJ1_charAt_3b067_3 ⟨Nat.le_of_ble_eq_true rfl, Nat.le_of_ble_eq_true rfl⟩) (fun u11 H locs hq hP hD hS => ?_)
    have hP : va_P D vwCl [] H := hP
    have hD : va_D A [] := hD
    refine lv_aload_n hx hb dJ1_charAt_3b067_6 rfl (lv_at hl 0 rfl) ?_
    refine lv_iload_n hx hb dJ1_charAt_3b067_7 rfl (lv_at hl 1 rfl) ?_
    refine va_tb hx hb (hZ.1.1 2 (by decide)).2.2.2 hS (i := (nI 2)) (by unfold vp_in; decide) (v := .int 101) rfl dJ1_charAt_3b067_8 ?_
    refine lv_sipush (v := 255) hx hb dJ1_charAt_3b067_9 (by decide) ?_
    refine lv_iand hx hb dJ1_charAt_3b067_12 ?_
    refine lv_topi (fun z12 hz12 => ?_)
    obtain rfl : z12 = 101 := hz12.trans (by decide)
    refine lv_i2c (v := 101) hx hb dJ1_charAt_3b067_13 (by decide) ?_
    exact W.zret (v := 101) hx hb hr (by decide) (fun tZ ht hW => ⟨⟨101, (), rfl, ⟨(show narrow .char (.int 101) = .int 101 from by decide), rfl⟩, by rw [ht]; exact hP.sub [] rfl, hD.sub [] (by decide) rfl⟩, hS.F ht⟩) hS.2.2 dJ1_charAt_3b067_14
  · skip
    refine lv_iload_n hx hb dJ1_charAt_3b067_0 rfl (lv_at hl 1 rfl) ?_
    refine lv_aload_n hx hb dJ1_charAt_3b067_1 rfl (lv_at hl 0 rfl) ?_
    refine va_tlen hx hb (hZ.1.1 2 (by decide)).2.2.2 hS (v := 7) (by decide) dJ1_charAt_3b067_2 ?_
    have hs13 : kw_Split [] [] [] [] [] := ⟨rfl, rfl, rfl, rfl, rfl, by decide⟩
    refine kw_go_v hs13 hP hD hS hA (va_runS (As := [.int (nI 3), .int 7]) (rest := []) ⟨hx, hb, hml, hown, hts⟩ (gj_checkIndex l D y aK aV 3 7 hA1 (by omega) _) (va_cwS 2 hts gJ1_charAt_3b067_J0_checkIndex_df160 rfl rfl rfl (by decide +kernel) ⟨Nat.le_of_ble_eq_true rfl, Nat.le_of_ble_eq_true rfl⟩) (kz_PreS hs13 hP hD hK hN hZ hS hA) rfl rfl hl.1 rfl (lv_room (Nat.le_of_ble_eq_true rfl)) dJ1_charAt_3b067_3 ⟨Nat.le_of_ble_eq_true rfl, Nat.le_of_ble_eq_true rfl⟩) (fun u15 H locs hq hP hD hS => ?_)
    have hP : va_P D vwCl [] H := hP
    have hD : va_D A [] := hD
    refine lv_aload_n hx hb dJ1_charAt_3b067_6 rfl (lv_at hl 0 rfl) ?_
    refine lv_iload_n hx hb dJ1_charAt_3b067_7 rfl (lv_at hl 1 rfl) ?_
    refine va_tb hx hb (hZ.1.1 2 (by decide)).2.2.2 hS (i := (nI 3)) (by unfold vp_in; decide) (v := .int 97) rfl dJ1_charAt_3b067_8 ?_
    refine lv_sipush (v := 255) hx hb dJ1_charAt_3b067_9 (by decide) ?_
    refine lv_iand hx hb dJ1_charAt_3b067_12 ?_
    refine lv_topi (fun z16 hz16 => ?_)
    obtain rfl : z16 = 97 := hz16.trans (by decide)
    refine lv_i2c (v := 97) hx hb dJ1_charAt_3b067_13 (by decide) ?_
    exact W.zret (v := 97) hx hb hr (by decide) (fun tZ ht hW => ⟨⟨97, (), rfl, ⟨(show narrow .char (.int 97) = .int 97 from by decide), rfl⟩, by rw [ht]; exact hP.sub [] rfl, hD.sub [] (by decide) rfl⟩, hS.F ht⟩) hS.2.2 dJ1_charAt_3b067_14
  · skip
    refine lv_iload_n hx hb dJ1_charAt_3b067_0 rfl (lv_at hl 1 rfl) ?_
    refine lv_aload_n hx hb dJ1_charAt_3b067_1 rfl (lv_at hl 0 rfl) ?_
    refine va_tlen hx hb (hZ.1.1 2 (by decide)).2.2.2 hS (v := 7) (by decide) dJ1_charAt_3b067_2 ?_
    have hs17 : kw_Split [] [] [] [] [] := ⟨rfl, rfl, rfl, rfl, rfl, by decide⟩
    refine kw_go_v hs17 hP hD hS hA (va_runS (As := [.int (nI 4), .int 7]) (rest := []) ⟨hx, hb, hml, hown, hts⟩ (gj_checkIndex l D y aK aV 4 7 hA1 (by omega) _) (va_cwS 2 hts gJ1_charAt_3b067_J0_checkIndex_df160 rfl rfl rfl (by decide +kernel) ⟨Nat.le_of_ble_eq_true rfl, Nat.le_of_ble_eq_true rfl⟩) (kz_PreS hs17 hP hD hK hN hZ hS hA) rfl rfl hl.1 rfl (lv_room (Nat.le_of_ble_eq_true rfl)) dJ1_charAt_3b067_3 ⟨Nat.le_of_ble_eq_true rfl, Nat.le_of_ble_eq_true rfl⟩) (fun u19 H locs hq hP hD hS => ?_)
    have hP : va_P D vwCl [] H := hP
    have hD : va_D A [] := hD
    refine lv_aload_n hx hb dJ1_charAt_3b067_6 rfl (lv_at hl 0 rfl) ?_
    refine lv_iload_n hx hb dJ1_charAt_3b067_7 rfl (lv_at hl 1 rfl) ?_
    refine va_tb hx hb (hZ.1.1 2 (by decide)).2.2.2 hS (i := (nI 4)) (by unfold vp_in; decide) (v := .int 110) rfl dJ1_charAt_3b067_8 ?_
    refine lv_sipush (v := 255) hx hb dJ1_charAt_3b067_9 (by decide) ?_
    refine lv_iand hx hb dJ1_charAt_3b067_12 ?_
    refine lv_topi (fun z20 hz20 => ?_)
    obtain rfl : z20 = 110 := hz20.trans (by decide)
    refine lv_i2c (v := 110) hx hb dJ1_charAt_3b067_13 (by decide) ?_
    exact W.zret (v := 110) hx hb hr (by decide) (fun tZ ht hW => ⟨⟨110, (), rfl, ⟨(show narrow .char (.int 110) = .int 110 from by decide), rfl⟩, by rw [ht]; exact hP.sub [] rfl, hD.sub [] (by decide) rfl⟩, hS.F ht⟩) hS.2.2 dJ1_charAt_3b067_14
  · skip
    refine lv_iload_n hx hb dJ1_charAt_3b067_0 rfl (lv_at hl 1 rfl) ?_
    refine lv_aload_n hx hb dJ1_charAt_3b067_1 rfl (lv_at hl 0 rfl) ?_
    refine va_tlen hx hb (hZ.1.1 2 (by decide)).2.2.2 hS (v := 7) (by decide) dJ1_charAt_3b067_2 ?_
    have hs21 : kw_Split [] [] [] [] [] := ⟨rfl, rfl, rfl, rfl, rfl, by decide⟩
    refine kw_go_v hs21 hP hD hS hA (va_runS (As := [.int (nI 5), .int 7]) (rest := []) ⟨hx, hb, hml, hown, hts⟩ (gj_checkIndex l D y aK aV 5 7 hA1 (by omega) _) (va_cwS 2 hts gJ1_charAt_3b067_J0_checkIndex_df160 rfl rfl rfl (by decide +kernel) ⟨Nat.le_of_ble_eq_true rfl, Nat.le_of_ble_eq_true rfl⟩) (kz_PreS hs21 hP hD hK hN hZ hS hA) rfl rfl hl.1 rfl (lv_room (Nat.le_of_ble_eq_true rfl)) dJ1_charAt_3b067_3 ⟨Nat.le_of_ble_eq_true rfl, Nat.le_of_ble_eq_true rfl⟩) (fun u23 H locs hq hP hD hS => ?_)
    have hP : va_P D vwCl [] H := hP
    have hD : va_D A [] := hD
    refine lv_aload_n hx hb dJ1_charAt_3b067_6 rfl (lv_at hl 0 rfl) ?_
    refine lv_iload_n hx hb dJ1_charAt_3b067_7 rfl (lv_at hl 1 rfl) ?_
    refine va_tb hx hb (hZ.1.1 2 (by decide)).2.2.2 hS (i := (nI 5)) (by unfold vp_in; decide) (v := .int 101) rfl dJ1_charAt_3b067_8 ?_
    refine lv_sipush (v := 255) hx hb dJ1_charAt_3b067_9 (by decide) ?_
    refine lv_iand hx hb dJ1_charAt_3b067_12 ?_
    refine lv_topi (fun z24 hz24 => ?_)
    obtain rfl : z24 = 101 := hz24.trans (by decide)
    refine lv_i2c (v := 101) hx hb dJ1_charAt_3b067_13 (by decide) ?_
    exact W.zret (v := 101) hx hb hr (by decide) (fun tZ ht hW => ⟨⟨101, (), rfl, ⟨(show narrow .char (.int 101) = .int 101 from by decide), rfl⟩, by rw [ht]; exact hP.sub [] rfl, hD.sub [] (by decide) rfl⟩, hS.F ht⟩) hS.2.2 dJ1_charAt_3b067_14
  · skip
    refine lv_iload_n hx hb dJ1_charAt_3b067_0 rfl (lv_at hl 1 rfl) ?_
    refine lv_aload_n hx hb dJ1_charAt_3b067_1 rfl (lv_at hl 0 rfl) ?_
    refine va_tlen hx hb (hZ.1.1 2 (by decide)).2.2.2 hS (v := 7) (by decide) dJ1_charAt_3b067_2 ?_
    have hs25 : kw_Split [] [] [] [] [] := ⟨rfl, rfl, rfl, rfl, rfl, by decide⟩
    refine kw_go_v hs25 hP hD hS hA (va_runS (As := [.int (nI 6), .int 7]) (rest := []) ⟨hx, hb, hml, hown, hts⟩ (gj_checkIndex l D y aK aV 6 7 hA1 (by omega) _) (va_cwS 2 hts gJ1_charAt_3b067_J0_checkIndex_df160 rfl rfl rfl (by decide +kernel) ⟨Nat.le_of_ble_eq_true rfl, Nat.le_of_ble_eq_true rfl⟩) (kz_PreS hs25 hP hD hK hN hZ hS hA) rfl rfl hl.1 rfl (lv_room (Nat.le_of_ble_eq_true rfl)) dJ1_charAt_3b067_3 ⟨Nat.le_of_ble_eq_true rfl, Nat.le_of_ble_eq_true rfl⟩) (fun u27 H locs hq hP hD hS => ?_)
    have hP : va_P D vwCl [] H := hP
    have hD : va_D A [] := hD
    refine lv_aload_n hx hb dJ1_charAt_3b067_6 rfl (lv_at hl 0 rfl) ?_
    refine lv_iload_n hx hb dJ1_charAt_3b067_7 rfl (lv_at hl 1 rfl) ?_
    refine va_tb hx hb (hZ.1.1 2 (by decide)).2.2.2 hS (i := (nI 6)) (by unfold vp_in; decide) (v := .int 114) rfl dJ1_charAt_3b067_8 ?_
    refine lv_sipush (v := 255) hx hb dJ1_charAt_3b067_9 (by decide) ?_
    refine lv_iand hx hb dJ1_charAt_3b067_12 ?_
    refine lv_topi (fun z28 hz28 => ?_)
    obtain rfl : z28 = 114 := hz28.trans (by decide)
    refine lv_i2c (v := 114) hx hb dJ1_charAt_3b067_13 (by decide) ?_
    exact W.zret (v := 114) hx hb hr (by decide) (fun tZ ht hW => ⟨⟨114, (), rfl, ⟨(show narrow .char (.int 114) = .int 114 from by decide), rfl⟩, by rw [ht]; exact hP.sub [] rfl, hD.sub [] (by decide) rfl⟩, hS.F ht⟩) hS.2.2 dJ1_charAt_3b067_14

set_option maxHeartbeats 4000000 in
set_option maxRecDepth 100000 in
theorem gs_charAt2 (l : Launch) (D : va_G) (y : Nat → ClassId) (aK : Nat → Nat) (aV : Nat → Nat) (k : Nat) (hA1 : k < 7) : kz_Mi l yJ0_charAt_5068e wsJ0_charAt_5068e ({ frames := 4, cells := 0, slots := 0, locals := 124 }) D y [.ref (aK 2), .int (nI k)] [] aK aV (fun (r : Int32) (u : Unit) => r = (kz_w 2 k)) (fun _ => []) 0 0 := by
  refine kz_Mi.of (cc := cJ0_charAt_5068e) (maxL := 2) (ret := (some .char)) (by decide) rfl ?_
  intro pZ eZ s mZ beZ meZ cZ A hE
  obtain ⟨hx, hb, hr, hml, hts, hown, hlocks, hin, hA, hP, hD, hK, hN, hZ⟩ := hE
  have hS : va_S A s.heap s.heap [] := va_S.rf
  have hl := lv_entry ([.ref (aK 2), .int (nI k)]) (n := 2) (Nat.le_of_ble_eq_true rfl)
  rw [lg_entry_eq]
  generalize (lg_sl ([.ref (aK 2), .int (nI k)]) ++ List.replicate (2 - (lg_sl ([.ref (aK 2), .int (nI k)])).length) Slot.unset).toArray = ls at hl ⊢
  have hl : lv_has ls 2 [(0, .ref (aK 2)), (1, .int (nI k))] := hl
  have fw1 := hts (.fieldLink RJ0 9 "java/lang/String" "value" "[B") (List.mem_of_getElem? (i := 1) rfl)
  refine lv_aload_n hx hb dJ0_charAt_5068e_0 rfl (lv_at hl 0 rfl) ?_
  have hs1 : kw_Split [] [] [] [] [] := ⟨rfl, rfl, rfl, rfl, rfl, by decide⟩
  refine kw_go_i hs1 hP hD hS hA (va_runV (As := []) (rest := []) ⟨hx, hb, hml, hown, hts⟩ (gj_isLatin12 l D y aK aV  _) (cwV 0 hts gJ0_charAt_5068e_J0_isLatin1_aae02 rfl rfl rfl (by decide +kernel) ⟨Nat.le_of_ble_eq_true rfl, Nat.le_of_ble_eq_true rfl⟩) (kz_PreK (i := 2) hs1 hP hD hK hN (by decide) hZ hS hA) rfl rfl hl.1 rfl (lv_room (Nat.le_of_ble_eq_true rfl)) dJ0_charAt_5068e_1 ⟨Nat.le_of_ble_eq_true rfl, Nat.le_of_ble_eq_true rfl⟩) (fun r2 u3 H locs hq hP hD hS => ?_)
  obtain rfl := hq
  have hP : va_P D vwCl [] H := hP
  have hD : va_D A [] := hD
  refine lv_if_eq (tgt := 16) hx hb dJ0_charAt_5068e_4 (by decide) (fun h9 => absurd h9 (by decide)) (fun _ => ?_)
  refine lv_aload_n hx hb dJ0_charAt_5068e_7 rfl (lv_at hl 0 rfl) ?_
  refine vk_getf hx hb (hZ.1.1 2 (by decide)).2.2.1 hS hown fw1 (fun _ h9 => h9) dJ0_charAt_5068e_8 ?_
  refine lv_iload_n hx hb dJ0_charAt_5068e_11 rfl (lv_at hl 1 rfl) ?_
  have hs4 : kw_Split [] [] [] [] [] := ⟨rfl, rfl, rfl, rfl, rfl, by decide⟩
  refine kw_go_i hs4 hP hD hS hA (va_runS (As := [.ref (aV 2), .int (nI k)]) (rest := []) ⟨hx, hb, hml, hown, hts⟩ (gs_lcharAt2 l D y aK aV k hA1 _) (va_cwS 2 hts gJ0_charAt_5068e_J1_charAt_3b067 rfl rfl rfl (by decide +kernel) ⟨Nat.le_of_ble_eq_true rfl, Nat.le_of_ble_eq_true rfl⟩) (kz_PreS hs4 hP hD hK hN hZ hS hA) rfl rfl hl.1 rfl (lv_room (Nat.le_of_ble_eq_true rfl)) dJ0_charAt_5068e_12 ⟨Nat.le_of_ble_eq_true rfl, Nat.le_of_ble_eq_true rfl⟩) (fun r5 u6 H locs hq hP hD hS => ?_)
  obtain ⟨h7, rfl⟩ := hq
  have hP : va_P D vwCl [] H := hP
  have hD : va_D A [] := hD
  exact W.zret (v := (kz_w 2 k)) hx hb hr h7 (fun tZ ht hW => ⟨⟨(kz_w 2 k), (), rfl, rfl, by rw [ht]; exact hP.sub [] rfl, hD.sub [] (by decide) rfl⟩, hS.F ht⟩) hS.2.2 dJ0_charAt_5068e_15

set_option maxHeartbeats 4000000 in
set_option maxRecDepth 100000 in
theorem gs_lcharAt3 (l : Launch) (D : va_G) (y : Nat → ClassId) (aK : Nat → Nat) (aV : Nat → Nat) (k : Nat) (hA1 : k < 5) : kz_Mi l yJ1_charAt_3b067 wsJ1_charAt_3b067 ({ frames := 3, cells := 0, slots := 0, locals := 103 }) D y [.ref (aV 3), .int (nI k)] [] aK aV (fun (r : Int32) (u : Unit) => kz_ch r ∧ r = (kz_w 3 k)) (fun _ => []) 0 0 := by
  refine kz_Mi.of (cc := cJ1_charAt_3b067) (maxL := 2) (ret := (some .char)) (by decide) rfl ?_
  intro pZ eZ s mZ beZ meZ cZ A hE
  obtain ⟨hx, hb, hr, hml, hts, hown, hlocks, hin, hA, hP, hD, hK, hN, hZ⟩ := hE
  have hS : va_S A s.heap s.heap [] := va_S.rf
  have hl := lv_entry ([.ref (aV 3), .int (nI k)]) (n := 2) (Nat.le_of_ble_eq_true rfl)
  rw [lg_entry_eq]
  generalize (lg_sl ([.ref (aV 3), .int (nI k)]) ++ List.replicate (2 - (lg_sl ([.ref (aV 3), .int (nI k)])).length) Slot.unset).toArray = ls at hl ⊢
  have hl : lv_has ls 2 [(0, .ref (aV 3)), (1, .int (nI k))] := hl
  rcases (show k = 0 ∨ k = 1 ∨ k = 2 ∨ k = 3 ∨ k = 4 by omega) with rfl | rfl | rfl | rfl | rfl
  · skip
    refine lv_iload_n hx hb dJ1_charAt_3b067_0 rfl (lv_at hl 1 rfl) ?_
    refine lv_aload_n hx hb dJ1_charAt_3b067_1 rfl (lv_at hl 0 rfl) ?_
    refine va_tlen hx hb (hZ.1.1 3 (by decide)).2.2.2 hS (v := 5) (by decide) dJ1_charAt_3b067_2 ?_
    have hs1 : kw_Split [] [] [] [] [] := ⟨rfl, rfl, rfl, rfl, rfl, by decide⟩
    refine kw_go_v hs1 hP hD hS hA (va_runS (As := [.int (nI 0), .int 5]) (rest := []) ⟨hx, hb, hml, hown, hts⟩ (gj_checkIndex l D y aK aV 0 5 hA1 (by omega) _) (va_cwS 2 hts gJ1_charAt_3b067_J0_checkIndex_df160 rfl rfl rfl (by decide +kernel) ⟨Nat.le_of_ble_eq_true rfl, Nat.le_of_ble_eq_true rfl⟩) (kz_PreS hs1 hP hD hK hN hZ hS hA) rfl rfl hl.1 rfl (lv_room (Nat.le_of_ble_eq_true rfl)) dJ1_charAt_3b067_3 ⟨Nat.le_of_ble_eq_true rfl, Nat.le_of_ble_eq_true rfl⟩) (fun u3 H locs hq hP hD hS => ?_)
    have hP : va_P D vwCl [] H := hP
    have hD : va_D A [] := hD
    refine lv_aload_n hx hb dJ1_charAt_3b067_6 rfl (lv_at hl 0 rfl) ?_
    refine lv_iload_n hx hb dJ1_charAt_3b067_7 rfl (lv_at hl 1 rfl) ?_
    refine va_tb hx hb (hZ.1.1 3 (by decide)).2.2.2 hS (i := (nI 0)) (by unfold vp_in; decide) (v := .int 103) rfl dJ1_charAt_3b067_8 ?_
    refine lv_sipush (v := 255) hx hb dJ1_charAt_3b067_9 (by decide) ?_
    refine lv_iand hx hb dJ1_charAt_3b067_12 ?_
    refine lv_topi (fun z4 hz4 => ?_)
    obtain rfl : z4 = 103 := hz4.trans (by decide)
    refine lv_i2c (v := 103) hx hb dJ1_charAt_3b067_13 (by decide) ?_
    exact W.zret (v := 103) hx hb hr (by decide) (fun tZ ht hW => ⟨⟨103, (), rfl, ⟨(show narrow .char (.int 103) = .int 103 from by decide), rfl⟩, by rw [ht]; exact hP.sub [] rfl, hD.sub [] (by decide) rfl⟩, hS.F ht⟩) hS.2.2 dJ1_charAt_3b067_14
  · skip
    refine lv_iload_n hx hb dJ1_charAt_3b067_0 rfl (lv_at hl 1 rfl) ?_
    refine lv_aload_n hx hb dJ1_charAt_3b067_1 rfl (lv_at hl 0 rfl) ?_
    refine va_tlen hx hb (hZ.1.1 3 (by decide)).2.2.2 hS (v := 5) (by decide) dJ1_charAt_3b067_2 ?_
    have hs5 : kw_Split [] [] [] [] [] := ⟨rfl, rfl, rfl, rfl, rfl, by decide⟩
    refine kw_go_v hs5 hP hD hS hA (va_runS (As := [.int (nI 1), .int 5]) (rest := []) ⟨hx, hb, hml, hown, hts⟩ (gj_checkIndex l D y aK aV 1 5 hA1 (by omega) _) (va_cwS 2 hts gJ1_charAt_3b067_J0_checkIndex_df160 rfl rfl rfl (by decide +kernel) ⟨Nat.le_of_ble_eq_true rfl, Nat.le_of_ble_eq_true rfl⟩) (kz_PreS hs5 hP hD hK hN hZ hS hA) rfl rfl hl.1 rfl (lv_room (Nat.le_of_ble_eq_true rfl)) dJ1_charAt_3b067_3 ⟨Nat.le_of_ble_eq_true rfl, Nat.le_of_ble_eq_true rfl⟩) (fun u7 H locs hq hP hD hS => ?_)
    have hP : va_P D vwCl [] H := hP
    have hD : va_D A [] := hD
    refine lv_aload_n hx hb dJ1_charAt_3b067_6 rfl (lv_at hl 0 rfl) ?_
    refine lv_iload_n hx hb dJ1_charAt_3b067_7 rfl (lv_at hl 1 rfl) ?_
    refine va_tb hx hb (hZ.1.1 3 (by decide)).2.2.2 hS (i := (nI 1)) (by unfold vp_in; decide) (v := .int 108) rfl dJ1_charAt_3b067_8 ?_
    refine lv_sipush (v := 255) hx hb dJ1_charAt_3b067_9 (by decide) ?_
    refine lv_iand hx hb dJ1_charAt_3b067_12 ?_
    refine lv_topi (fun z8 hz8 => ?_)
    obtain rfl : z8 = 108 := hz8.trans (by decide)
    refine lv_i2c (v := 108) hx hb dJ1_charAt_3b067_13 (by decide) ?_
    exact W.zret (v := 108) hx hb hr (by decide) (fun tZ ht hW => ⟨⟨108, (), rfl, ⟨(show narrow .char (.int 108) = .int 108 from by decide), rfl⟩, by rw [ht]; exact hP.sub [] rfl, hD.sub [] (by decide) rfl⟩, hS.F ht⟩) hS.2.2 dJ1_charAt_3b067_14
  · skip
    refine lv_iload_n hx hb dJ1_charAt_3b067_0 rfl (lv_at hl 1 rfl) ?_
    refine lv_aload_n hx hb dJ1_charAt_3b067_1 rfl (lv_at hl 0 rfl) ?_
    refine va_tlen hx hb (hZ.1.1 3 (by decide)).2.2.2 hS (v := 5) (by decide) dJ1_charAt_3b067_2 ?_
    have hs9 : kw_Split [] [] [] [] [] := ⟨rfl, rfl, rfl, rfl, rfl, by decide⟩
    refine kw_go_v hs9 hP hD hS hA (va_runS (As := [.int (nI 2), .int 5]) (rest := []) ⟨hx, hb, hml, hown, hts⟩ (gj_checkIndex l D y aK aV 2 5 hA1 (by omega) _) (va_cwS 2 hts gJ1_charAt_3b067_J0_checkIndex_df160 rfl rfl rfl (by decide +kernel) ⟨Nat.le_of_ble_eq_true rfl, Nat.le_of_ble_eq_true rfl⟩) (kz_PreS hs9 hP hD hK hN hZ hS hA) rfl rfl hl.1 rfl (lv_room (Nat.le_of_ble_eq_true rfl)) dJ1_charAt_3b067_3 ⟨Nat.le_of_ble_eq_true rfl, Nat.le_of_ble_eq_true rfl⟩) (fun u11 H locs hq hP hD hS => ?_)
    have hP : va_P D vwCl [] H := hP
    have hD : va_D A [] := hD
    refine lv_aload_n hx hb dJ1_charAt_3b067_6 rfl (lv_at hl 0 rfl) ?_
    refine lv_iload_n hx hb dJ1_charAt_3b067_7 rfl (lv_at hl 1 rfl) ?_
    refine va_tb hx hb (hZ.1.1 3 (by decide)).2.2.2 hS (i := (nI 2)) (by unfold vp_in; decide) (v := .int 101) rfl dJ1_charAt_3b067_8 ?_
    refine lv_sipush (v := 255) hx hb dJ1_charAt_3b067_9 (by decide) ?_
    refine lv_iand hx hb dJ1_charAt_3b067_12 ?_
    refine lv_topi (fun z12 hz12 => ?_)
    obtain rfl : z12 = 101 := hz12.trans (by decide)
    refine lv_i2c (v := 101) hx hb dJ1_charAt_3b067_13 (by decide) ?_
    exact W.zret (v := 101) hx hb hr (by decide) (fun tZ ht hW => ⟨⟨101, (), rfl, ⟨(show narrow .char (.int 101) = .int 101 from by decide), rfl⟩, by rw [ht]; exact hP.sub [] rfl, hD.sub [] (by decide) rfl⟩, hS.F ht⟩) hS.2.2 dJ1_charAt_3b067_14
  · skip
    refine lv_iload_n hx hb dJ1_charAt_3b067_0 rfl (lv_at hl 1 rfl) ?_
    refine lv_aload_n hx hb dJ1_charAt_3b067_1 rfl (lv_at hl 0 rfl) ?_
    refine va_tlen hx hb (hZ.1.1 3 (by decide)).2.2.2 hS (v := 5) (by decide) dJ1_charAt_3b067_2 ?_
    have hs13 : kw_Split [] [] [] [] [] := ⟨rfl, rfl, rfl, rfl, rfl, by decide⟩
    refine kw_go_v hs13 hP hD hS hA (va_runS (As := [.int (nI 3), .int 5]) (rest := []) ⟨hx, hb, hml, hown, hts⟩ (gj_checkIndex l D y aK aV 3 5 hA1 (by omega) _) (va_cwS 2 hts gJ1_charAt_3b067_J0_checkIndex_df160 rfl rfl rfl (by decide +kernel) ⟨Nat.le_of_ble_eq_true rfl, Nat.le_of_ble_eq_true rfl⟩) (kz_PreS hs13 hP hD hK hN hZ hS hA) rfl rfl hl.1 rfl (lv_room (Nat.le_of_ble_eq_true rfl)) dJ1_charAt_3b067_3 ⟨Nat.le_of_ble_eq_true rfl, Nat.le_of_ble_eq_true rfl⟩) (fun u15 H locs hq hP hD hS => ?_)
    have hP : va_P D vwCl [] H := hP
    have hD : va_D A [] := hD
    refine lv_aload_n hx hb dJ1_charAt_3b067_6 rfl (lv_at hl 0 rfl) ?_
    refine lv_iload_n hx hb dJ1_charAt_3b067_7 rfl (lv_at hl 1 rfl) ?_
    refine va_tb hx hb (hZ.1.1 3 (by decide)).2.2.2 hS (i := (nI 3)) (by unfold vp_in; decide) (v := .int 97) rfl dJ1_charAt_3b067_8 ?_
    refine lv_sipush (v := 255) hx hb dJ1_charAt_3b067_9 (by decide) ?_
    refine lv_iand hx hb dJ1_charAt_3b067_12 ?_
    refine lv_topi (fun z16 hz16 => ?_)
    obtain rfl : z16 = 97 := hz16.trans (by decide)
    refine lv_i2c (v := 97) hx hb dJ1_charAt_3b067_13 (by decide) ?_
    exact W.zret (v := 97) hx hb hr (by decide) (fun tZ ht hW => ⟨⟨97, (), rfl, ⟨(show narrow .char (.int 97) = .int 97 from by decide), rfl⟩, by rw [ht]; exact hP.sub [] rfl, hD.sub [] (by decide) rfl⟩, hS.F ht⟩) hS.2.2 dJ1_charAt_3b067_14
  · skip
    refine lv_iload_n hx hb dJ1_charAt_3b067_0 rfl (lv_at hl 1 rfl) ?_
    refine lv_aload_n hx hb dJ1_charAt_3b067_1 rfl (lv_at hl 0 rfl) ?_
    refine va_tlen hx hb (hZ.1.1 3 (by decide)).2.2.2 hS (v := 5) (by decide) dJ1_charAt_3b067_2 ?_
    have hs17 : kw_Split [] [] [] [] [] := ⟨rfl, rfl, rfl, rfl, rfl, by decide⟩
    refine kw_go_v hs17 hP hD hS hA (va_runS (As := [.int (nI 4), .int 5]) (rest := []) ⟨hx, hb, hml, hown, hts⟩ (gj_checkIndex l D y aK aV 4 5 hA1 (by omega) _) (va_cwS 2 hts gJ1_charAt_3b067_J0_checkIndex_df160 rfl rfl rfl (by decide +kernel) ⟨Nat.le_of_ble_eq_true rfl, Nat.le_of_ble_eq_true rfl⟩) (kz_PreS hs17 hP hD hK hN hZ hS hA) rfl rfl hl.1 rfl (lv_room (Nat.le_of_ble_eq_true rfl)) dJ1_charAt_3b067_3 ⟨Nat.le_of_ble_eq_true rfl, Nat.le_of_ble_eq_true rfl⟩) (fun u19 H locs hq hP hD hS => ?_)
    have hP : va_P D vwCl [] H := hP
    have hD : va_D A [] := hD
    refine lv_aload_n hx hb dJ1_charAt_3b067_6 rfl (lv_at hl 0 rfl) ?_
    refine lv_iload_n hx hb dJ1_charAt_3b067_7 rfl (lv_at hl 1 rfl) ?_
    refine va_tb hx hb (hZ.1.1 3 (by decide)).2.2.2 hS (i := (nI 4)) (by unfold vp_in; decide) (v := .int 110) rfl dJ1_charAt_3b067_8 ?_
    refine lv_sipush (v := 255) hx hb dJ1_charAt_3b067_9 (by decide) ?_
    refine lv_iand hx hb dJ1_charAt_3b067_12 ?_
    refine lv_topi (fun z20 hz20 => ?_)
    obtain rfl : z20 = 110 := hz20.trans (by decide)
    refine lv_i2c (v := 110) hx hb dJ1_charAt_3b067_13 (by decide) ?_
    exact W.zret (v := 110) hx hb hr (by decide) (fun tZ ht hW => ⟨⟨110, (), rfl, ⟨(show narrow .char (.int 110) = .int 110 from by decide), rfl⟩, by rw [ht]; exact hP.sub [] rfl, hD.sub [] (by decide) rfl⟩, hS.F ht⟩) hS.2.2 dJ1_charAt_3b067_14

set_option maxHeartbeats 4000000 in
set_option maxRecDepth 100000 in
theorem gs_charAt3 (l : Launch) (D : va_G) (y : Nat → ClassId) (aK : Nat → Nat) (aV : Nat → Nat) (k : Nat) (hA1 : k < 5) : kz_Mi l yJ0_charAt_5068e wsJ0_charAt_5068e ({ frames := 4, cells := 0, slots := 0, locals := 124 }) D y [.ref (aK 3), .int (nI k)] [] aK aV (fun (r : Int32) (u : Unit) => r = (kz_w 3 k)) (fun _ => []) 0 0 := by
  refine kz_Mi.of (cc := cJ0_charAt_5068e) (maxL := 2) (ret := (some .char)) (by decide) rfl ?_
  intro pZ eZ s mZ beZ meZ cZ A hE
  obtain ⟨hx, hb, hr, hml, hts, hown, hlocks, hin, hA, hP, hD, hK, hN, hZ⟩ := hE
  have hS : va_S A s.heap s.heap [] := va_S.rf
  have hl := lv_entry ([.ref (aK 3), .int (nI k)]) (n := 2) (Nat.le_of_ble_eq_true rfl)
  rw [lg_entry_eq]
  generalize (lg_sl ([.ref (aK 3), .int (nI k)]) ++ List.replicate (2 - (lg_sl ([.ref (aK 3), .int (nI k)])).length) Slot.unset).toArray = ls at hl ⊢
  have hl : lv_has ls 2 [(0, .ref (aK 3)), (1, .int (nI k))] := hl
  have fw1 := hts (.fieldLink RJ0 9 "java/lang/String" "value" "[B") (List.mem_of_getElem? (i := 1) rfl)
  refine lv_aload_n hx hb dJ0_charAt_5068e_0 rfl (lv_at hl 0 rfl) ?_
  have hs1 : kw_Split [] [] [] [] [] := ⟨rfl, rfl, rfl, rfl, rfl, by decide⟩
  refine kw_go_i hs1 hP hD hS hA (va_runV (As := []) (rest := []) ⟨hx, hb, hml, hown, hts⟩ (gj_isLatin13 l D y aK aV  _) (cwV 0 hts gJ0_charAt_5068e_J0_isLatin1_aae02 rfl rfl rfl (by decide +kernel) ⟨Nat.le_of_ble_eq_true rfl, Nat.le_of_ble_eq_true rfl⟩) (kz_PreK (i := 3) hs1 hP hD hK hN (by decide) hZ hS hA) rfl rfl hl.1 rfl (lv_room (Nat.le_of_ble_eq_true rfl)) dJ0_charAt_5068e_1 ⟨Nat.le_of_ble_eq_true rfl, Nat.le_of_ble_eq_true rfl⟩) (fun r2 u3 H locs hq hP hD hS => ?_)
  obtain rfl := hq
  have hP : va_P D vwCl [] H := hP
  have hD : va_D A [] := hD
  refine lv_if_eq (tgt := 16) hx hb dJ0_charAt_5068e_4 (by decide) (fun h9 => absurd h9 (by decide)) (fun _ => ?_)
  refine lv_aload_n hx hb dJ0_charAt_5068e_7 rfl (lv_at hl 0 rfl) ?_
  refine vk_getf hx hb (hZ.1.1 3 (by decide)).2.2.1 hS hown fw1 (fun _ h9 => h9) dJ0_charAt_5068e_8 ?_
  refine lv_iload_n hx hb dJ0_charAt_5068e_11 rfl (lv_at hl 1 rfl) ?_
  have hs4 : kw_Split [] [] [] [] [] := ⟨rfl, rfl, rfl, rfl, rfl, by decide⟩
  refine kw_go_i hs4 hP hD hS hA (va_runS (As := [.ref (aV 3), .int (nI k)]) (rest := []) ⟨hx, hb, hml, hown, hts⟩ (gs_lcharAt3 l D y aK aV k hA1 _) (va_cwS 2 hts gJ0_charAt_5068e_J1_charAt_3b067 rfl rfl rfl (by decide +kernel) ⟨Nat.le_of_ble_eq_true rfl, Nat.le_of_ble_eq_true rfl⟩) (kz_PreS hs4 hP hD hK hN hZ hS hA) rfl rfl hl.1 rfl (lv_room (Nat.le_of_ble_eq_true rfl)) dJ0_charAt_5068e_12 ⟨Nat.le_of_ble_eq_true rfl, Nat.le_of_ble_eq_true rfl⟩) (fun r5 u6 H locs hq hP hD hS => ?_)
  obtain ⟨h7, rfl⟩ := hq
  have hP : va_P D vwCl [] H := hP
  have hD : va_D A [] := hD
  exact W.zret (v := (kz_w 3 k)) hx hb hr h7 (fun tZ ht hW => ⟨⟨(kz_w 3 k), (), rfl, rfl, by rw [ht]; exact hP.sub [] rfl, hD.sub [] (by decide) rfl⟩, hS.F ht⟩) hS.2.2 dJ0_charAt_5068e_15

set_option maxHeartbeats 4000000 in
set_option maxRecDepth 100000 in
theorem gs_isWord0 (l : Launch) (D : va_G) (y : Nat → ClassId) (aK : Nat → Nat) (aV : Nat → Nat) (tx : Nat) (bys : Nat) (wo : Nat) (fs : Nat) (sc : Nat) (ln : Nat) (sta : Nat) (en : Nat) (tok : Int32) (num : Int32) (tfi : Int32) (tgl : Int32) (tst : Int32) (fby : Nat → Int32) (hln : ln ≤ 150) (hen : en ≤ ln) (hse : sta ≤ en) : kz_Mi l yX7_isWord wsX7_isWord ({ frames := 5, cells := 0, slots := 0, locals := 145 }) D y [.ref tx, .ref (aK 0)] [(tx, .inr (7, [.ref bys, .int (nI ln), .int tok, .int (nI sta), .int (nI en), .int num, .ref wo, .ref fs, .ref sc, .int tfi, .int tgl, .int tst])), (bys, .inl (y 1, 150, .inl fby))] aK aV (fun (r : Int32) (u : Unit) => (ks_e0 fby sta en = true ∧ r = 1) ∨ (¬ ks_e0 fby sta en = true ∧ r = 0)) (fun _ => [(tx, .inr (7, [.ref bys, .int (nI ln), .int tok, .int (nI sta), .int (nI en), .int num, .ref wo, .ref fs, .ref sc, .int tfi, .int tgl, .int tst])), (bys, .inl (y 1, 150, .inl fby))]) 0 0 := by
  refine kz_Mi.of (cc := cX7_isWord) (maxL := 3) (ret := (some .boolean)) (by decide) rfl ?_
  intro pZ eZ s mZ beZ meZ cZ A hE
  obtain ⟨hx, hb, hr, hml, hts, hown, hlocks, hin, hA, hP, hD, hK, hN, hZ⟩ := hE
  have hS : va_S A s.heap s.heap [] := va_S.rf
  have hl := lv_entry ([.ref tx, .ref (aK 0)]) (n := 3) (Nat.le_of_ble_eq_true rfl)
  rw [lg_entry_eq]
  generalize (lg_sl ([.ref tx, .ref (aK 0)]) ++ List.replicate (3 - (lg_sl ([.ref tx, .ref (aK 0)])).length) Slot.unset).toArray = ls at hl ⊢
  have hl : lv_has ls 3 [(0, .ref tx), (1, .ref (aK 0))] := hl
  have fw1 := hts (.fieldLink RX7 29 "GleanDusk$Text" "end" "I") (List.mem_of_getElem? (i := 1) rfl)
  have fw2 := hts (.fieldLink RX7 51 "GleanDusk$Text" "start" "I") (List.mem_of_getElem? (i := 2) rfl)
  have fw3 := hts (.fieldLink RX7 9 "GleanDusk$Text" "bytes" "[B") (List.mem_of_getElem? (i := 3) rfl)
  have iw7 : ∀ w ∈ wsX70, w ∈ wsX7_isWord := fun _ h => List.mem_cons_of_mem _ (List.mem_append_right _ h)
  refine lv_aload_n hx hb dX7_isWord_0 rfl (lv_at hl 0 rfl) ?_
  refine va_get (D := D) (ci := 7) (v := .int (nI en)) (C := RX7) (T := TX7) (N := 12) hx hb hts iw7 hown hK hP 0 rfl rfl 4 (by decide) fw1 (fun _ h9 => h9) rfl dX7_isWord_1 ?_
  refine lv_aload_n hx hb dX7_isWord_4 rfl (lv_at hl 0 rfl) ?_
  refine va_get (D := D) (ci := 7) (v := .int (nI sta)) (C := RX7) (T := TX7) (N := 12) hx hb hts iw7 hown hK hP 0 rfl rfl 3 (by decide) fw2 (fun _ h9 => h9) rfl dX7_isWord_5 ?_
  refine lv_isub hx hb dX7_isWord_8 ?_
  rw [show (nI en) - (nI sta) = nI (en - sta) from pk_sub (a := en) (b := sta) (by omega)]
  refine lv_aload_n hx hb dX7_isWord_9 rfl (lv_at hl 1 rfl) ?_
  have hs1 : kw_Split [(tx, .inr (7, [.ref bys, .int (nI ln), .int tok, .int (nI sta), .int (nI en), .int num, .ref wo, .ref fs, .ref sc, .int tfi, .int tgl, .int tst])), (bys, .inl (y 1, 150, .inl fby))] [] [(tx, .inr (7, [.ref bys, .int (nI ln), .int tok, .int (nI sta), .int (nI en), .int num, .ref wo, .ref fs, .ref sc, .int tfi, .int tgl, .int tst])), (bys, .inl (y 1, 150, .inl fby))] [] [0, 1] := ⟨rfl, rfl, rfl, rfl, rfl, by decide⟩
  refine kw_go_i hs1 hP hD hS hA (va_runV (As := []) (rest := [.int (nI (en - sta))]) ⟨hx, hb, hml, hown, hts⟩ (gj_length0 l D y aK aV  _) (cwV 0 hts gX7_isWord_J0_length_8abf5 rfl rfl rfl (by decide +kernel) ⟨Nat.le_of_ble_eq_true rfl, Nat.le_of_ble_eq_true rfl⟩) (kz_PreK (i := 0) hs1 hP hD hK hN (by decide) hZ hS hA) rfl rfl hl.1 rfl (lv_room (Nat.le_of_ble_eq_true rfl)) dX7_isWord_10 ⟨Nat.le_of_ble_eq_true rfl, Nat.le_of_ble_eq_true rfl⟩) (fun r2 u3 H locs hq hP hD hS => ?_)
  obtain rfl := hq
  have hP : va_P D vwCl [(tx, .inr (7, [.ref bys, .int (nI ln), .int tok, .int (nI sta), .int (nI en), .int num, .ref wo, .ref fs, .ref sc, .int tfi, .int tgl, .int tst])), (bys, .inl (y 1, 150, .inl fby))] H := hP
  have hD : va_D A [(tx, .inr (7, [.ref bys, .int (nI ln), .int tok, .int (nI sta), .int (nI en), .int num, .ref wo, .ref fs, .ref sc, .int tfi, .int tgl, .int tst])), (bys, .inl (y 1, 150, .inl fby))] := hD
  refine lv_icmp_eq (tgt := 18) hx hb dX7_isWord_13 (by decide) (fun h4 => ?_) (fun h5 => ?_)
  · skip
    have h4 : (en - sta) = 6 := (nI_eq (a := (en - sta)) (b := 6) (by omega) (by omega)).mp h4
    refine lv_iconst (v := 0) hx hb dX7_isWord_18 (by decide) ?_
    refine lv_istore_n (lv' := [(2, .int 0), (0, .ref tx), (1, .ref (aK 0))]) hx hb dX7_isWord_19 rfl hl (by decide) rfl (fun ls hl => ?_)
    refine lv_iload_n hx hb dX7_isWord_20 rfl (lv_at hl 0 rfl) ?_
    refine lv_aload_n hx hb dX7_isWord_21 rfl (lv_at hl 2 rfl) ?_
    have hs6 : kw_Split [(tx, .inr (7, [.ref bys, .int (nI ln), .int tok, .int (nI sta), .int (nI en), .int num, .ref wo, .ref fs, .ref sc, .int tfi, .int tgl, .int tst])), (bys, .inl (y 1, 150, .inl fby))] [] [(tx, .inr (7, [.ref bys, .int (nI ln), .int tok, .int (nI sta), .int (nI en), .int num, .ref wo, .ref fs, .ref sc, .int tfi, .int tgl, .int tst])), (bys, .inl (y 1, 150, .inl fby))] [] [0, 1] := ⟨rfl, rfl, rfl, rfl, rfl, by decide⟩
    refine kw_go_i hs6 hP hD hS hA (va_runV (As := []) (rest := [.int 0]) ⟨hx, hb, hml, hown, hts⟩ (gj_length0 l D y aK aV  _) (cwV 0 hts gX7_isWord_J0_length_8abf5 rfl rfl rfl (by decide +kernel) ⟨Nat.le_of_ble_eq_true rfl, Nat.le_of_ble_eq_true rfl⟩) (kz_PreK (i := 0) hs6 hP hD hK hN (by decide) hZ hS hA) rfl rfl hl.1 rfl (lv_room (Nat.le_of_ble_eq_true rfl)) dX7_isWord_22 ⟨Nat.le_of_ble_eq_true rfl, Nat.le_of_ble_eq_true rfl⟩) (fun r7 u8 H locs hq hP hD hS => ?_)
    obtain rfl := hq
    have hP : va_P D vwCl [(tx, .inr (7, [.ref bys, .int (nI ln), .int tok, .int (nI sta), .int (nI en), .int num, .ref wo, .ref fs, .ref sc, .int tfi, .int tgl, .int tst])), (bys, .inl (y 1, 150, .inl fby))] H := hP
    have hD : va_D A [(tx, .inr (7, [.ref bys, .int (nI ln), .int tok, .int (nI sta), .int (nI en), .int num, .ref wo, .ref fs, .ref sc, .int tfi, .int tgl, .int tst])), (bys, .inl (y 1, 150, .inl fby))] := hD
    refine lv_icmp_ge (tgt := 55) hx hb dX7_isWord_25 (by decide) (fun h9 => absurd h9 (by decide)) (fun _ => ?_)
    refine lv_aload_n hx hb dX7_isWord_28 rfl (lv_at hl 1 rfl) ?_
    refine va_get (D := D) (ci := 7) (v := .ref bys) (C := RX7) (T := TX7) (N := 12) hx hb hts iw7 hown hK hP 0 rfl rfl 0 (by decide) fw3 (fun _ h9 => h9) rfl dX7_isWord_29 ?_
    refine lv_aload_n hx hb dX7_isWord_32 rfl (lv_at hl 1 rfl) ?_
    refine va_get (D := D) (ci := 7) (v := .int (nI sta)) (C := RX7) (T := TX7) (N := 12) hx hb hts iw7 hown hK hP 0 rfl rfl 3 (by decide) fw2 (fun _ h9 => h9) rfl dX7_isWord_33 ?_
    refine lv_iload_n hx hb dX7_isWord_36 rfl (lv_at hl 0 rfl) ?_
    refine lv_iadd hx hb dX7_isWord_37 ?_
    rw [show (nI sta) + 0 = nI (sta) from nI_add sta 0]
    refine va_bald hx hb hK hP 1 1 rfl rfl (vp_in_nI (by omega) (by decide)) dX7_isWord_38 ?_
    rw [nI_clamp (n := sta) (by omega)]
    refine lv_aload_n hx hb dX7_isWord_39 rfl (lv_at hl 2 rfl) ?_
    refine lv_iload_n hx hb dX7_isWord_40 rfl (lv_at hl 0 rfl) ?_
    have hs9 : kw_Split [(tx, .inr (7, [.ref bys, .int (nI ln), .int tok, .int (nI sta), .int (nI en), .int num, .ref wo, .ref fs, .ref sc, .int tfi, .int tgl, .int tst])), (bys, .inl (y 1, 150, .inl fby))] [] [(tx, .inr (7, [.ref bys, .int (nI ln), .int tok, .int (nI sta), .int (nI en), .int num, .ref wo, .ref fs, .ref sc, .int tfi, .int tgl, .int tst])), (bys, .inl (y 1, 150, .inl fby))] [] [0, 1] := ⟨rfl, rfl, rfl, rfl, rfl, by decide⟩
    refine kw_go_i hs9 hP hD hS hA (va_runV (As := [.int 0]) (rest := [.int (fby sta)]) ⟨hx, hb, hml, hown, hts⟩ (gs_charAt0 l D y aK aV 0 (by omega) _) (cwV 1 hts gX7_isWord_J0_charAt_5068e rfl rfl rfl (by decide +kernel) ⟨Nat.le_of_ble_eq_true rfl, Nat.le_of_ble_eq_true rfl⟩) (kz_PreK (i := 0) hs9 hP hD hK hN (by decide) hZ hS hA) rfl rfl hl.1 rfl (lv_room (Nat.le_of_ble_eq_true rfl)) dX7_isWord_41 ⟨Nat.le_of_ble_eq_true rfl, Nat.le_of_ble_eq_true rfl⟩) (fun r10 u11 H locs hq hP hD hS => ?_)
    obtain rfl := hq
    rw [show kz_w 0 0 = 112 from rfl]
    have hP : va_P D vwCl [(tx, .inr (7, [.ref bys, .int (nI ln), .int tok, .int (nI sta), .int (nI en), .int num, .ref wo, .ref fs, .ref sc, .int tfi, .int tgl, .int tst])), (bys, .inl (y 1, 150, .inl fby))] H := hP
    have hD : va_D A [(tx, .inr (7, [.ref bys, .int (nI ln), .int tok, .int (nI sta), .int (nI en), .int num, .ref wo, .ref fs, .ref sc, .int tfi, .int tgl, .int tst])), (bys, .inl (y 1, 150, .inl fby))] := hD
    refine lv_icmp_eq (tgt := 49) hx hb dX7_isWord_44 (by decide) (fun h12 => ?_) (fun h13 => ?_)
    · skip
      refine lv_iinc (v := 1) (lv' := [(2, .int 1), (0, .ref tx), (1, .ref (aK 0))]) hx hb dX7_isWord_49 hl (k := 0) rfl (by decide) (by decide) rfl (fun ls hl => ?_)
      refine lv_goto (tgt := 20) hx hb dX7_isWord_52 (by decide) ?_
      refine lv_iload_n hx hb dX7_isWord_20 rfl (lv_at hl 0 rfl) ?_
      refine lv_aload_n hx hb dX7_isWord_21 rfl (lv_at hl 2 rfl) ?_
      have hs14 : kw_Split [(tx, .inr (7, [.ref bys, .int (nI ln), .int tok, .int (nI sta), .int (nI en), .int num, .ref wo, .ref fs, .ref sc, .int tfi, .int tgl, .int tst])), (bys, .inl (y 1, 150, .inl fby))] [] [(tx, .inr (7, [.ref bys, .int (nI ln), .int tok, .int (nI sta), .int (nI en), .int num, .ref wo, .ref fs, .ref sc, .int tfi, .int tgl, .int tst])), (bys, .inl (y 1, 150, .inl fby))] [] [0, 1] := ⟨rfl, rfl, rfl, rfl, rfl, by decide⟩
      refine kw_go_i hs14 hP hD hS hA (va_runV (As := []) (rest := [.int 1]) ⟨hx, hb, hml, hown, hts⟩ (gj_length0 l D y aK aV  _) (cwV 0 hts gX7_isWord_J0_length_8abf5 rfl rfl rfl (by decide +kernel) ⟨Nat.le_of_ble_eq_true rfl, Nat.le_of_ble_eq_true rfl⟩) (kz_PreK (i := 0) hs14 hP hD hK hN (by decide) hZ hS hA) rfl rfl hl.1 rfl (lv_room (Nat.le_of_ble_eq_true rfl)) dX7_isWord_22 ⟨Nat.le_of_ble_eq_true rfl, Nat.le_of_ble_eq_true rfl⟩) (fun r15 u16 H locs hq hP hD hS => ?_)
      obtain rfl := hq
      have hP : va_P D vwCl [(tx, .inr (7, [.ref bys, .int (nI ln), .int tok, .int (nI sta), .int (nI en), .int num, .ref wo, .ref fs, .ref sc, .int tfi, .int tgl, .int tst])), (bys, .inl (y 1, 150, .inl fby))] H := hP
      have hD : va_D A [(tx, .inr (7, [.ref bys, .int (nI ln), .int tok, .int (nI sta), .int (nI en), .int num, .ref wo, .ref fs, .ref sc, .int tfi, .int tgl, .int tst])), (bys, .inl (y 1, 150, .inl fby))] := hD
      refine lv_icmp_ge (tgt := 55) hx hb dX7_isWord_25 (by decide) (fun h9 => absurd h9 (by decide)) (fun _ => ?_)
      refine lv_aload_n hx hb dX7_isWord_28 rfl (lv_at hl 1 rfl) ?_
      refine va_get (D := D) (ci := 7) (v := .ref bys) (C := RX7) (T := TX7) (N := 12) hx hb hts iw7 hown hK hP 0 rfl rfl 0 (by decide) fw3 (fun _ h9 => h9) rfl dX7_isWord_29 ?_
      refine lv_aload_n hx hb dX7_isWord_32 rfl (lv_at hl 1 rfl) ?_
      refine va_get (D := D) (ci := 7) (v := .int (nI sta)) (C := RX7) (T := TX7) (N := 12) hx hb hts iw7 hown hK hP 0 rfl rfl 3 (by decide) fw2 (fun _ h9 => h9) rfl dX7_isWord_33 ?_
      refine lv_iload_n hx hb dX7_isWord_36 rfl (lv_at hl 0 rfl) ?_
      refine lv_iadd hx hb dX7_isWord_37 ?_
      rw [show (nI sta) + 1 = nI (sta + 1) from nI_add sta 1]
      refine va_bald hx hb hK hP 1 1 rfl rfl (vp_in_nI (by omega) (by decide)) dX7_isWord_38 ?_
      rw [nI_clamp (n := (sta + 1)) (by omega)]
      refine lv_aload_n hx hb dX7_isWord_39 rfl (lv_at hl 2 rfl) ?_
      refine lv_iload_n hx hb dX7_isWord_40 rfl (lv_at hl 0 rfl) ?_
      have hs17 : kw_Split [(tx, .inr (7, [.ref bys, .int (nI ln), .int tok, .int (nI sta), .int (nI en), .int num, .ref wo, .ref fs, .ref sc, .int tfi, .int tgl, .int tst])), (bys, .inl (y 1, 150, .inl fby))] [] [(tx, .inr (7, [.ref bys, .int (nI ln), .int tok, .int (nI sta), .int (nI en), .int num, .ref wo, .ref fs, .ref sc, .int tfi, .int tgl, .int tst])), (bys, .inl (y 1, 150, .inl fby))] [] [0, 1] := ⟨rfl, rfl, rfl, rfl, rfl, by decide⟩
      refine kw_go_i hs17 hP hD hS hA (va_runV (As := [.int 1]) (rest := [.int (fby (sta + 1))]) ⟨hx, hb, hml, hown, hts⟩ (gs_charAt0 l D y aK aV 1 (by omega) _) (cwV 1 hts gX7_isWord_J0_charAt_5068e rfl rfl rfl (by decide +kernel) ⟨Nat.le_of_ble_eq_true rfl, Nat.le_of_ble_eq_true rfl⟩) (kz_PreK (i := 0) hs17 hP hD hK hN (by decide) hZ hS hA) rfl rfl hl.1 rfl (lv_room (Nat.le_of_ble_eq_true rfl)) dX7_isWord_41 ⟨Nat.le_of_ble_eq_true rfl, Nat.le_of_ble_eq_true rfl⟩) (fun r18 u19 H locs hq hP hD hS => ?_)
      obtain rfl := hq
      rw [show kz_w 0 1 = 97 from rfl]
      have hP : va_P D vwCl [(tx, .inr (7, [.ref bys, .int (nI ln), .int tok, .int (nI sta), .int (nI en), .int num, .ref wo, .ref fs, .ref sc, .int tfi, .int tgl, .int tst])), (bys, .inl (y 1, 150, .inl fby))] H := hP
      have hD : va_D A [(tx, .inr (7, [.ref bys, .int (nI ln), .int tok, .int (nI sta), .int (nI en), .int num, .ref wo, .ref fs, .ref sc, .int tfi, .int tgl, .int tst])), (bys, .inl (y 1, 150, .inl fby))] := hD
      refine lv_icmp_eq (tgt := 49) hx hb dX7_isWord_44 (by decide) (fun h20 => ?_) (fun h21 => ?_)
      · skip
        refine lv_iinc (v := 2) (lv' := [(2, .int 2), (0, .ref tx), (1, .ref (aK 0))]) hx hb dX7_isWord_49 hl (k := 0) rfl (by decide) (by decide) rfl (fun ls hl => ?_)
        refine lv_goto (tgt := 20) hx hb dX7_isWord_52 (by decide) ?_
        refine lv_iload_n hx hb dX7_isWord_20 rfl (lv_at hl 0 rfl) ?_
        refine lv_aload_n hx hb dX7_isWord_21 rfl (lv_at hl 2 rfl) ?_
        have hs22 : kw_Split [(tx, .inr (7, [.ref bys, .int (nI ln), .int tok, .int (nI sta), .int (nI en), .int num, .ref wo, .ref fs, .ref sc, .int tfi, .int tgl, .int tst])), (bys, .inl (y 1, 150, .inl fby))] [] [(tx, .inr (7, [.ref bys, .int (nI ln), .int tok, .int (nI sta), .int (nI en), .int num, .ref wo, .ref fs, .ref sc, .int tfi, .int tgl, .int tst])), (bys, .inl (y 1, 150, .inl fby))] [] [0, 1] := ⟨rfl, rfl, rfl, rfl, rfl, by decide⟩
        refine kw_go_i hs22 hP hD hS hA (va_runV (As := []) (rest := [.int 2]) ⟨hx, hb, hml, hown, hts⟩ (gj_length0 l D y aK aV  _) (cwV 0 hts gX7_isWord_J0_length_8abf5 rfl rfl rfl (by decide +kernel) ⟨Nat.le_of_ble_eq_true rfl, Nat.le_of_ble_eq_true rfl⟩) (kz_PreK (i := 0) hs22 hP hD hK hN (by decide) hZ hS hA) rfl rfl hl.1 rfl (lv_room (Nat.le_of_ble_eq_true rfl)) dX7_isWord_22 ⟨Nat.le_of_ble_eq_true rfl, Nat.le_of_ble_eq_true rfl⟩) (fun r23 u24 H locs hq hP hD hS => ?_)
        obtain rfl := hq
        have hP : va_P D vwCl [(tx, .inr (7, [.ref bys, .int (nI ln), .int tok, .int (nI sta), .int (nI en), .int num, .ref wo, .ref fs, .ref sc, .int tfi, .int tgl, .int tst])), (bys, .inl (y 1, 150, .inl fby))] H := hP
        have hD : va_D A [(tx, .inr (7, [.ref bys, .int (nI ln), .int tok, .int (nI sta), .int (nI en), .int num, .ref wo, .ref fs, .ref sc, .int tfi, .int tgl, .int tst])), (bys, .inl (y 1, 150, .inl fby))] := hD
        refine lv_icmp_ge (tgt := 55) hx hb dX7_isWord_25 (by decide) (fun h9 => absurd h9 (by decide)) (fun _ => ?_)
        refine lv_aload_n hx hb dX7_isWord_28 rfl (lv_at hl 1 rfl) ?_
        refine va_get (D := D) (ci := 7) (v := .ref bys) (C := RX7) (T := TX7) (N := 12) hx hb hts iw7 hown hK hP 0 rfl rfl 0 (by decide) fw3 (fun _ h9 => h9) rfl dX7_isWord_29 ?_
        refine lv_aload_n hx hb dX7_isWord_32 rfl (lv_at hl 1 rfl) ?_
        refine va_get (D := D) (ci := 7) (v := .int (nI sta)) (C := RX7) (T := TX7) (N := 12) hx hb hts iw7 hown hK hP 0 rfl rfl 3 (by decide) fw2 (fun _ h9 => h9) rfl dX7_isWord_33 ?_
        refine lv_iload_n hx hb dX7_isWord_36 rfl (lv_at hl 0 rfl) ?_
        refine lv_iadd hx hb dX7_isWord_37 ?_
        rw [show (nI sta) + 2 = nI (sta + 2) from nI_add sta 2]
        refine va_bald hx hb hK hP 1 1 rfl rfl (vp_in_nI (by omega) (by decide)) dX7_isWord_38 ?_
        rw [nI_clamp (n := (sta + 2)) (by omega)]
        refine lv_aload_n hx hb dX7_isWord_39 rfl (lv_at hl 2 rfl) ?_
        refine lv_iload_n hx hb dX7_isWord_40 rfl (lv_at hl 0 rfl) ?_
        have hs25 : kw_Split [(tx, .inr (7, [.ref bys, .int (nI ln), .int tok, .int (nI sta), .int (nI en), .int num, .ref wo, .ref fs, .ref sc, .int tfi, .int tgl, .int tst])), (bys, .inl (y 1, 150, .inl fby))] [] [(tx, .inr (7, [.ref bys, .int (nI ln), .int tok, .int (nI sta), .int (nI en), .int num, .ref wo, .ref fs, .ref sc, .int tfi, .int tgl, .int tst])), (bys, .inl (y 1, 150, .inl fby))] [] [0, 1] := ⟨rfl, rfl, rfl, rfl, rfl, by decide⟩
        refine kw_go_i hs25 hP hD hS hA (va_runV (As := [.int 2]) (rest := [.int (fby (sta + 2))]) ⟨hx, hb, hml, hown, hts⟩ (gs_charAt0 l D y aK aV 2 (by omega) _) (cwV 1 hts gX7_isWord_J0_charAt_5068e rfl rfl rfl (by decide +kernel) ⟨Nat.le_of_ble_eq_true rfl, Nat.le_of_ble_eq_true rfl⟩) (kz_PreK (i := 0) hs25 hP hD hK hN (by decide) hZ hS hA) rfl rfl hl.1 rfl (lv_room (Nat.le_of_ble_eq_true rfl)) dX7_isWord_41 ⟨Nat.le_of_ble_eq_true rfl, Nat.le_of_ble_eq_true rfl⟩) (fun r26 u27 H locs hq hP hD hS => ?_)
        obtain rfl := hq
        rw [show kz_w 0 2 = 114 from rfl]
        have hP : va_P D vwCl [(tx, .inr (7, [.ref bys, .int (nI ln), .int tok, .int (nI sta), .int (nI en), .int num, .ref wo, .ref fs, .ref sc, .int tfi, .int tgl, .int tst])), (bys, .inl (y 1, 150, .inl fby))] H := hP
        have hD : va_D A [(tx, .inr (7, [.ref bys, .int (nI ln), .int tok, .int (nI sta), .int (nI en), .int num, .ref wo, .ref fs, .ref sc, .int tfi, .int tgl, .int tst])), (bys, .inl (y 1, 150, .inl fby))] := hD
        refine lv_icmp_eq (tgt := 49) hx hb dX7_isWord_44 (by decide) (fun h28 => ?_) (fun h29 => ?_)
        · skip
          refine lv_iinc (v := 3) (lv' := [(2, .int 3), (0, .ref tx), (1, .ref (aK 0))]) hx hb dX7_isWord_49 hl (k := 0) rfl (by decide) (by decide) rfl (fun ls hl => ?_)
          refine lv_goto (tgt := 20) hx hb dX7_isWord_52 (by decide) ?_
          refine lv_iload_n hx hb dX7_isWord_20 rfl (lv_at hl 0 rfl) ?_
          refine lv_aload_n hx hb dX7_isWord_21 rfl (lv_at hl 2 rfl) ?_
          have hs30 : kw_Split [(tx, .inr (7, [.ref bys, .int (nI ln), .int tok, .int (nI sta), .int (nI en), .int num, .ref wo, .ref fs, .ref sc, .int tfi, .int tgl, .int tst])), (bys, .inl (y 1, 150, .inl fby))] [] [(tx, .inr (7, [.ref bys, .int (nI ln), .int tok, .int (nI sta), .int (nI en), .int num, .ref wo, .ref fs, .ref sc, .int tfi, .int tgl, .int tst])), (bys, .inl (y 1, 150, .inl fby))] [] [0, 1] := ⟨rfl, rfl, rfl, rfl, rfl, by decide⟩
          refine kw_go_i hs30 hP hD hS hA (va_runV (As := []) (rest := [.int 3]) ⟨hx, hb, hml, hown, hts⟩ (gj_length0 l D y aK aV  _) (cwV 0 hts gX7_isWord_J0_length_8abf5 rfl rfl rfl (by decide +kernel) ⟨Nat.le_of_ble_eq_true rfl, Nat.le_of_ble_eq_true rfl⟩) (kz_PreK (i := 0) hs30 hP hD hK hN (by decide) hZ hS hA) rfl rfl hl.1 rfl (lv_room (Nat.le_of_ble_eq_true rfl)) dX7_isWord_22 ⟨Nat.le_of_ble_eq_true rfl, Nat.le_of_ble_eq_true rfl⟩) (fun r31 u32 H locs hq hP hD hS => ?_)
          obtain rfl := hq
          have hP : va_P D vwCl [(tx, .inr (7, [.ref bys, .int (nI ln), .int tok, .int (nI sta), .int (nI en), .int num, .ref wo, .ref fs, .ref sc, .int tfi, .int tgl, .int tst])), (bys, .inl (y 1, 150, .inl fby))] H := hP
          have hD : va_D A [(tx, .inr (7, [.ref bys, .int (nI ln), .int tok, .int (nI sta), .int (nI en), .int num, .ref wo, .ref fs, .ref sc, .int tfi, .int tgl, .int tst])), (bys, .inl (y 1, 150, .inl fby))] := hD
          refine lv_icmp_ge (tgt := 55) hx hb dX7_isWord_25 (by decide) (fun h9 => absurd h9 (by decide)) (fun _ => ?_)
          refine lv_aload_n hx hb dX7_isWord_28 rfl (lv_at hl 1 rfl) ?_
          refine va_get (D := D) (ci := 7) (v := .ref bys) (C := RX7) (T := TX7) (N := 12) hx hb hts iw7 hown hK hP 0 rfl rfl 0 (by decide) fw3 (fun _ h9 => h9) rfl dX7_isWord_29 ?_
          refine lv_aload_n hx hb dX7_isWord_32 rfl (lv_at hl 1 rfl) ?_
          refine va_get (D := D) (ci := 7) (v := .int (nI sta)) (C := RX7) (T := TX7) (N := 12) hx hb hts iw7 hown hK hP 0 rfl rfl 3 (by decide) fw2 (fun _ h9 => h9) rfl dX7_isWord_33 ?_
          refine lv_iload_n hx hb dX7_isWord_36 rfl (lv_at hl 0 rfl) ?_
          refine lv_iadd hx hb dX7_isWord_37 ?_
          rw [show (nI sta) + 3 = nI (sta + 3) from nI_add sta 3]
          refine va_bald hx hb hK hP 1 1 rfl rfl (vp_in_nI (by omega) (by decide)) dX7_isWord_38 ?_
          rw [nI_clamp (n := (sta + 3)) (by omega)]
          refine lv_aload_n hx hb dX7_isWord_39 rfl (lv_at hl 2 rfl) ?_
          refine lv_iload_n hx hb dX7_isWord_40 rfl (lv_at hl 0 rfl) ?_
          have hs33 : kw_Split [(tx, .inr (7, [.ref bys, .int (nI ln), .int tok, .int (nI sta), .int (nI en), .int num, .ref wo, .ref fs, .ref sc, .int tfi, .int tgl, .int tst])), (bys, .inl (y 1, 150, .inl fby))] [] [(tx, .inr (7, [.ref bys, .int (nI ln), .int tok, .int (nI sta), .int (nI en), .int num, .ref wo, .ref fs, .ref sc, .int tfi, .int tgl, .int tst])), (bys, .inl (y 1, 150, .inl fby))] [] [0, 1] := ⟨rfl, rfl, rfl, rfl, rfl, by decide⟩
          refine kw_go_i hs33 hP hD hS hA (va_runV (As := [.int 3]) (rest := [.int (fby (sta + 3))]) ⟨hx, hb, hml, hown, hts⟩ (gs_charAt0 l D y aK aV 3 (by omega) _) (cwV 1 hts gX7_isWord_J0_charAt_5068e rfl rfl rfl (by decide +kernel) ⟨Nat.le_of_ble_eq_true rfl, Nat.le_of_ble_eq_true rfl⟩) (kz_PreK (i := 0) hs33 hP hD hK hN (by decide) hZ hS hA) rfl rfl hl.1 rfl (lv_room (Nat.le_of_ble_eq_true rfl)) dX7_isWord_41 ⟨Nat.le_of_ble_eq_true rfl, Nat.le_of_ble_eq_true rfl⟩) (fun r34 u35 H locs hq hP hD hS => ?_)
          obtain rfl := hq
          rw [show kz_w 0 3 = 105 from rfl]
          have hP : va_P D vwCl [(tx, .inr (7, [.ref bys, .int (nI ln), .int tok, .int (nI sta), .int (nI en), .int num, .ref wo, .ref fs, .ref sc, .int tfi, .int tgl, .int tst])), (bys, .inl (y 1, 150, .inl fby))] H := hP
          have hD : va_D A [(tx, .inr (7, [.ref bys, .int (nI ln), .int tok, .int (nI sta), .int (nI en), .int num, .ref wo, .ref fs, .ref sc, .int tfi, .int tgl, .int tst])), (bys, .inl (y 1, 150, .inl fby))] := hD
          refine lv_icmp_eq (tgt := 49) hx hb dX7_isWord_44 (by decide) (fun h36 => ?_) (fun h37 => ?_)
          · skip
            refine lv_iinc (v := 4) (lv' := [(2, .int 4), (0, .ref tx), (1, .ref (aK 0))]) hx hb dX7_isWord_49 hl (k := 0) rfl (by decide) (by decide) rfl (fun ls hl => ?_)
            refine lv_goto (tgt := 20) hx hb dX7_isWord_52 (by decide) ?_
            refine lv_iload_n hx hb dX7_isWord_20 rfl (lv_at hl 0 rfl) ?_
            refine lv_aload_n hx hb dX7_isWord_21 rfl (lv_at hl 2 rfl) ?_
            have hs38 : kw_Split [(tx, .inr (7, [.ref bys, .int (nI ln), .int tok, .int (nI sta), .int (nI en), .int num, .ref wo, .ref fs, .ref sc, .int tfi, .int tgl, .int tst])), (bys, .inl (y 1, 150, .inl fby))] [] [(tx, .inr (7, [.ref bys, .int (nI ln), .int tok, .int (nI sta), .int (nI en), .int num, .ref wo, .ref fs, .ref sc, .int tfi, .int tgl, .int tst])), (bys, .inl (y 1, 150, .inl fby))] [] [0, 1] := ⟨rfl, rfl, rfl, rfl, rfl, by decide⟩
            refine kw_go_i hs38 hP hD hS hA (va_runV (As := []) (rest := [.int 4]) ⟨hx, hb, hml, hown, hts⟩ (gj_length0 l D y aK aV  _) (cwV 0 hts gX7_isWord_J0_length_8abf5 rfl rfl rfl (by decide +kernel) ⟨Nat.le_of_ble_eq_true rfl, Nat.le_of_ble_eq_true rfl⟩) (kz_PreK (i := 0) hs38 hP hD hK hN (by decide) hZ hS hA) rfl rfl hl.1 rfl (lv_room (Nat.le_of_ble_eq_true rfl)) dX7_isWord_22 ⟨Nat.le_of_ble_eq_true rfl, Nat.le_of_ble_eq_true rfl⟩) (fun r39 u40 H locs hq hP hD hS => ?_)
            obtain rfl := hq
            have hP : va_P D vwCl [(tx, .inr (7, [.ref bys, .int (nI ln), .int tok, .int (nI sta), .int (nI en), .int num, .ref wo, .ref fs, .ref sc, .int tfi, .int tgl, .int tst])), (bys, .inl (y 1, 150, .inl fby))] H := hP
            have hD : va_D A [(tx, .inr (7, [.ref bys, .int (nI ln), .int tok, .int (nI sta), .int (nI en), .int num, .ref wo, .ref fs, .ref sc, .int tfi, .int tgl, .int tst])), (bys, .inl (y 1, 150, .inl fby))] := hD
            refine lv_icmp_ge (tgt := 55) hx hb dX7_isWord_25 (by decide) (fun h9 => absurd h9 (by decide)) (fun _ => ?_)
            refine lv_aload_n hx hb dX7_isWord_28 rfl (lv_at hl 1 rfl) ?_
            refine va_get (D := D) (ci := 7) (v := .ref bys) (C := RX7) (T := TX7) (N := 12) hx hb hts iw7 hown hK hP 0 rfl rfl 0 (by decide) fw3 (fun _ h9 => h9) rfl dX7_isWord_29 ?_
            refine lv_aload_n hx hb dX7_isWord_32 rfl (lv_at hl 1 rfl) ?_
            refine va_get (D := D) (ci := 7) (v := .int (nI sta)) (C := RX7) (T := TX7) (N := 12) hx hb hts iw7 hown hK hP 0 rfl rfl 3 (by decide) fw2 (fun _ h9 => h9) rfl dX7_isWord_33 ?_
            refine lv_iload_n hx hb dX7_isWord_36 rfl (lv_at hl 0 rfl) ?_
            refine lv_iadd hx hb dX7_isWord_37 ?_
            rw [show (nI sta) + 4 = nI (sta + 4) from nI_add sta 4]
            refine va_bald hx hb hK hP 1 1 rfl rfl (vp_in_nI (by omega) (by decide)) dX7_isWord_38 ?_
            rw [nI_clamp (n := (sta + 4)) (by omega)]
            refine lv_aload_n hx hb dX7_isWord_39 rfl (lv_at hl 2 rfl) ?_
            refine lv_iload_n hx hb dX7_isWord_40 rfl (lv_at hl 0 rfl) ?_
            have hs41 : kw_Split [(tx, .inr (7, [.ref bys, .int (nI ln), .int tok, .int (nI sta), .int (nI en), .int num, .ref wo, .ref fs, .ref sc, .int tfi, .int tgl, .int tst])), (bys, .inl (y 1, 150, .inl fby))] [] [(tx, .inr (7, [.ref bys, .int (nI ln), .int tok, .int (nI sta), .int (nI en), .int num, .ref wo, .ref fs, .ref sc, .int tfi, .int tgl, .int tst])), (bys, .inl (y 1, 150, .inl fby))] [] [0, 1] := ⟨rfl, rfl, rfl, rfl, rfl, by decide⟩
            refine kw_go_i hs41 hP hD hS hA (va_runV (As := [.int 4]) (rest := [.int (fby (sta + 4))]) ⟨hx, hb, hml, hown, hts⟩ (gs_charAt0 l D y aK aV 4 (by omega) _) (cwV 1 hts gX7_isWord_J0_charAt_5068e rfl rfl rfl (by decide +kernel) ⟨Nat.le_of_ble_eq_true rfl, Nat.le_of_ble_eq_true rfl⟩) (kz_PreK (i := 0) hs41 hP hD hK hN (by decide) hZ hS hA) rfl rfl hl.1 rfl (lv_room (Nat.le_of_ble_eq_true rfl)) dX7_isWord_41 ⟨Nat.le_of_ble_eq_true rfl, Nat.le_of_ble_eq_true rfl⟩) (fun r42 u43 H locs hq hP hD hS => ?_)
            obtain rfl := hq
            rw [show kz_w 0 4 = 115 from rfl]
            have hP : va_P D vwCl [(tx, .inr (7, [.ref bys, .int (nI ln), .int tok, .int (nI sta), .int (nI en), .int num, .ref wo, .ref fs, .ref sc, .int tfi, .int tgl, .int tst])), (bys, .inl (y 1, 150, .inl fby))] H := hP
            have hD : va_D A [(tx, .inr (7, [.ref bys, .int (nI ln), .int tok, .int (nI sta), .int (nI en), .int num, .ref wo, .ref fs, .ref sc, .int tfi, .int tgl, .int tst])), (bys, .inl (y 1, 150, .inl fby))] := hD
            refine lv_icmp_eq (tgt := 49) hx hb dX7_isWord_44 (by decide) (fun h44 => ?_) (fun h45 => ?_)
            · skip
              refine lv_iinc (v := 5) (lv' := [(2, .int 5), (0, .ref tx), (1, .ref (aK 0))]) hx hb dX7_isWord_49 hl (k := 0) rfl (by decide) (by decide) rfl (fun ls hl => ?_)
              refine lv_goto (tgt := 20) hx hb dX7_isWord_52 (by decide) ?_
              refine lv_iload_n hx hb dX7_isWord_20 rfl (lv_at hl 0 rfl) ?_
              refine lv_aload_n hx hb dX7_isWord_21 rfl (lv_at hl 2 rfl) ?_
              have hs46 : kw_Split [(tx, .inr (7, [.ref bys, .int (nI ln), .int tok, .int (nI sta), .int (nI en), .int num, .ref wo, .ref fs, .ref sc, .int tfi, .int tgl, .int tst])), (bys, .inl (y 1, 150, .inl fby))] [] [(tx, .inr (7, [.ref bys, .int (nI ln), .int tok, .int (nI sta), .int (nI en), .int num, .ref wo, .ref fs, .ref sc, .int tfi, .int tgl, .int tst])), (bys, .inl (y 1, 150, .inl fby))] [] [0, 1] := ⟨rfl, rfl, rfl, rfl, rfl, by decide⟩
              refine kw_go_i hs46 hP hD hS hA (va_runV (As := []) (rest := [.int 5]) ⟨hx, hb, hml, hown, hts⟩ (gj_length0 l D y aK aV  _) (cwV 0 hts gX7_isWord_J0_length_8abf5 rfl rfl rfl (by decide +kernel) ⟨Nat.le_of_ble_eq_true rfl, Nat.le_of_ble_eq_true rfl⟩) (kz_PreK (i := 0) hs46 hP hD hK hN (by decide) hZ hS hA) rfl rfl hl.1 rfl (lv_room (Nat.le_of_ble_eq_true rfl)) dX7_isWord_22 ⟨Nat.le_of_ble_eq_true rfl, Nat.le_of_ble_eq_true rfl⟩) (fun r47 u48 H locs hq hP hD hS => ?_)
              obtain rfl := hq
              have hP : va_P D vwCl [(tx, .inr (7, [.ref bys, .int (nI ln), .int tok, .int (nI sta), .int (nI en), .int num, .ref wo, .ref fs, .ref sc, .int tfi, .int tgl, .int tst])), (bys, .inl (y 1, 150, .inl fby))] H := hP
              have hD : va_D A [(tx, .inr (7, [.ref bys, .int (nI ln), .int tok, .int (nI sta), .int (nI en), .int num, .ref wo, .ref fs, .ref sc, .int tfi, .int tgl, .int tst])), (bys, .inl (y 1, 150, .inl fby))] := hD
              refine lv_icmp_ge (tgt := 55) hx hb dX7_isWord_25 (by decide) (fun h9 => absurd h9 (by decide)) (fun _ => ?_)
              refine lv_aload_n hx hb dX7_isWord_28 rfl (lv_at hl 1 rfl) ?_
              refine va_get (D := D) (ci := 7) (v := .ref bys) (C := RX7) (T := TX7) (N := 12) hx hb hts iw7 hown hK hP 0 rfl rfl 0 (by decide) fw3 (fun _ h9 => h9) rfl dX7_isWord_29 ?_
              refine lv_aload_n hx hb dX7_isWord_32 rfl (lv_at hl 1 rfl) ?_
              refine va_get (D := D) (ci := 7) (v := .int (nI sta)) (C := RX7) (T := TX7) (N := 12) hx hb hts iw7 hown hK hP 0 rfl rfl 3 (by decide) fw2 (fun _ h9 => h9) rfl dX7_isWord_33 ?_
              refine lv_iload_n hx hb dX7_isWord_36 rfl (lv_at hl 0 rfl) ?_
              refine lv_iadd hx hb dX7_isWord_37 ?_
              rw [show (nI sta) + 5 = nI (sta + 5) from nI_add sta 5]
              refine va_bald hx hb hK hP 1 1 rfl rfl (vp_in_nI (by omega) (by decide)) dX7_isWord_38 ?_
              rw [nI_clamp (n := (sta + 5)) (by omega)]
              refine lv_aload_n hx hb dX7_isWord_39 rfl (lv_at hl 2 rfl) ?_
              refine lv_iload_n hx hb dX7_isWord_40 rfl (lv_at hl 0 rfl) ?_
              have hs49 : kw_Split [(tx, .inr (7, [.ref bys, .int (nI ln), .int tok, .int (nI sta), .int (nI en), .int num, .ref wo, .ref fs, .ref sc, .int tfi, .int tgl, .int tst])), (bys, .inl (y 1, 150, .inl fby))] [] [(tx, .inr (7, [.ref bys, .int (nI ln), .int tok, .int (nI sta), .int (nI en), .int num, .ref wo, .ref fs, .ref sc, .int tfi, .int tgl, .int tst])), (bys, .inl (y 1, 150, .inl fby))] [] [0, 1] := ⟨rfl, rfl, rfl, rfl, rfl, by decide⟩
              refine kw_go_i hs49 hP hD hS hA (va_runV (As := [.int 5]) (rest := [.int (fby (sta + 5))]) ⟨hx, hb, hml, hown, hts⟩ (gs_charAt0 l D y aK aV 5 (by omega) _) (cwV 1 hts gX7_isWord_J0_charAt_5068e rfl rfl rfl (by decide +kernel) ⟨Nat.le_of_ble_eq_true rfl, Nat.le_of_ble_eq_true rfl⟩) (kz_PreK (i := 0) hs49 hP hD hK hN (by decide) hZ hS hA) rfl rfl hl.1 rfl (lv_room (Nat.le_of_ble_eq_true rfl)) dX7_isWord_41 ⟨Nat.le_of_ble_eq_true rfl, Nat.le_of_ble_eq_true rfl⟩) (fun r50 u51 H locs hq hP hD hS => ?_)
              obtain rfl := hq
              rw [show kz_w 0 5 = 104 from rfl]
              have hP : va_P D vwCl [(tx, .inr (7, [.ref bys, .int (nI ln), .int tok, .int (nI sta), .int (nI en), .int num, .ref wo, .ref fs, .ref sc, .int tfi, .int tgl, .int tst])), (bys, .inl (y 1, 150, .inl fby))] H := hP
              have hD : va_D A [(tx, .inr (7, [.ref bys, .int (nI ln), .int tok, .int (nI sta), .int (nI en), .int num, .ref wo, .ref fs, .ref sc, .int tfi, .int tgl, .int tst])), (bys, .inl (y 1, 150, .inl fby))] := hD
              refine lv_icmp_eq (tgt := 49) hx hb dX7_isWord_44 (by decide) (fun h52 => ?_) (fun h53 => ?_)
              · skip
                refine lv_iinc (v := 6) (lv' := [(2, .int 6), (0, .ref tx), (1, .ref (aK 0))]) hx hb dX7_isWord_49 hl (k := 0) rfl (by decide) (by decide) rfl (fun ls hl => ?_)
                refine lv_goto (tgt := 20) hx hb dX7_isWord_52 (by decide) ?_
                refine lv_iload_n hx hb dX7_isWord_20 rfl (lv_at hl 0 rfl) ?_
                refine lv_aload_n hx hb dX7_isWord_21 rfl (lv_at hl 2 rfl) ?_
                have hs54 : kw_Split [(tx, .inr (7, [.ref bys, .int (nI ln), .int tok, .int (nI sta), .int (nI en), .int num, .ref wo, .ref fs, .ref sc, .int tfi, .int tgl, .int tst])), (bys, .inl (y 1, 150, .inl fby))] [] [(tx, .inr (7, [.ref bys, .int (nI ln), .int tok, .int (nI sta), .int (nI en), .int num, .ref wo, .ref fs, .ref sc, .int tfi, .int tgl, .int tst])), (bys, .inl (y 1, 150, .inl fby))] [] [0, 1] := ⟨rfl, rfl, rfl, rfl, rfl, by decide⟩
                refine kw_go_i hs54 hP hD hS hA (va_runV (As := []) (rest := [.int 6]) ⟨hx, hb, hml, hown, hts⟩ (gj_length0 l D y aK aV  _) (cwV 0 hts gX7_isWord_J0_length_8abf5 rfl rfl rfl (by decide +kernel) ⟨Nat.le_of_ble_eq_true rfl, Nat.le_of_ble_eq_true rfl⟩) (kz_PreK (i := 0) hs54 hP hD hK hN (by decide) hZ hS hA) rfl rfl hl.1 rfl (lv_room (Nat.le_of_ble_eq_true rfl)) dX7_isWord_22 ⟨Nat.le_of_ble_eq_true rfl, Nat.le_of_ble_eq_true rfl⟩) (fun r55 u56 H locs hq hP hD hS => ?_)
                obtain rfl := hq
                have hP : va_P D vwCl [(tx, .inr (7, [.ref bys, .int (nI ln), .int tok, .int (nI sta), .int (nI en), .int num, .ref wo, .ref fs, .ref sc, .int tfi, .int tgl, .int tst])), (bys, .inl (y 1, 150, .inl fby))] H := hP
                have hD : va_D A [(tx, .inr (7, [.ref bys, .int (nI ln), .int tok, .int (nI sta), .int (nI en), .int num, .ref wo, .ref fs, .ref sc, .int tfi, .int tgl, .int tst])), (bys, .inl (y 1, 150, .inl fby))] := hD
                refine lv_icmp_ge (tgt := 55) hx hb dX7_isWord_25 (by decide) (fun _ => ?_) (fun h9 => absurd h9 (by decide))
                refine lv_iconst (v := 1) hx hb dX7_isWord_55 (by decide) ?_
                exact W.zret (v := 1) hx hb hr (by decide) (fun tZ ht hW => ⟨⟨1, (), rfl, Or.inl ⟨decide_eq_true ⟨by omega, h12, h20, h28, h36, h44, h52⟩, rfl⟩, by rw [ht]; exact hP.sub [0, 1] rfl, hD.sub [0, 1] (by decide) rfl⟩, hS.F ht⟩) hS.2.2 dX7_isWord_56
              · skip
                refine lv_iconst (v := 0) hx hb dX7_isWord_47 (by decide) ?_
                exact W.zret (v := 0) hx hb hr (by decide) (fun tZ ht hW => ⟨⟨0, (), rfl, Or.inr (⟨fun q9 => absurd (of_decide_eq_true q9).2.2.2.2.2.2 h53, rfl⟩), by rw [ht]; exact hP.sub [0, 1] rfl, hD.sub [0, 1] (by decide) rfl⟩, hS.F ht⟩) hS.2.2 dX7_isWord_48
            · skip
              refine lv_iconst (v := 0) hx hb dX7_isWord_47 (by decide) ?_
              exact W.zret (v := 0) hx hb hr (by decide) (fun tZ ht hW => ⟨⟨0, (), rfl, Or.inr (⟨fun q9 => absurd (of_decide_eq_true q9).2.2.2.2.2.1 h45, rfl⟩), by rw [ht]; exact hP.sub [0, 1] rfl, hD.sub [0, 1] (by decide) rfl⟩, hS.F ht⟩) hS.2.2 dX7_isWord_48
          · skip
            refine lv_iconst (v := 0) hx hb dX7_isWord_47 (by decide) ?_
            exact W.zret (v := 0) hx hb hr (by decide) (fun tZ ht hW => ⟨⟨0, (), rfl, Or.inr (⟨fun q9 => absurd (of_decide_eq_true q9).2.2.2.2.1 h37, rfl⟩), by rw [ht]; exact hP.sub [0, 1] rfl, hD.sub [0, 1] (by decide) rfl⟩, hS.F ht⟩) hS.2.2 dX7_isWord_48
        · skip
          refine lv_iconst (v := 0) hx hb dX7_isWord_47 (by decide) ?_
          exact W.zret (v := 0) hx hb hr (by decide) (fun tZ ht hW => ⟨⟨0, (), rfl, Or.inr (⟨fun q9 => absurd (of_decide_eq_true q9).2.2.2.1 h29, rfl⟩), by rw [ht]; exact hP.sub [0, 1] rfl, hD.sub [0, 1] (by decide) rfl⟩, hS.F ht⟩) hS.2.2 dX7_isWord_48
      · skip
        refine lv_iconst (v := 0) hx hb dX7_isWord_47 (by decide) ?_
        exact W.zret (v := 0) hx hb hr (by decide) (fun tZ ht hW => ⟨⟨0, (), rfl, Or.inr (⟨fun q9 => absurd (of_decide_eq_true q9).2.2.1 h21, rfl⟩), by rw [ht]; exact hP.sub [0, 1] rfl, hD.sub [0, 1] (by decide) rfl⟩, hS.F ht⟩) hS.2.2 dX7_isWord_48
    · skip
      refine lv_iconst (v := 0) hx hb dX7_isWord_47 (by decide) ?_
      exact W.zret (v := 0) hx hb hr (by decide) (fun tZ ht hW => ⟨⟨0, (), rfl, Or.inr (⟨fun q9 => absurd (of_decide_eq_true q9).2.1 h13, rfl⟩), by rw [ht]; exact hP.sub [0, 1] rfl, hD.sub [0, 1] (by decide) rfl⟩, hS.F ht⟩) hS.2.2 dX7_isWord_48
  · skip
    have h5 : ¬ (en - sta) = 6 := fun q9 => h5 ((nI_eq (a := (en - sta)) (b := 6) (by omega) (by omega)).mpr q9)
    refine lv_iconst (v := 0) hx hb dX7_isWord_16 (by decide) ?_
    exact W.zret (v := 0) hx hb hr (by decide) (fun tZ ht hW => ⟨⟨0, (), rfl, Or.inr (⟨fun q9 => absurd (of_decide_eq_true q9).1 (by omega), rfl⟩), by rw [ht]; exact hP.sub [0, 1] rfl, hD.sub [0, 1] (by decide) rfl⟩, hS.F ht⟩) hS.2.2 dX7_isWord_17

set_option maxHeartbeats 4000000 in
set_option maxRecDepth 100000 in
theorem gs_isWord1 (l : Launch) (D : va_G) (y : Nat → ClassId) (aK : Nat → Nat) (aV : Nat → Nat) (tx : Nat) (bys : Nat) (wo : Nat) (fs : Nat) (sc : Nat) (ln : Nat) (sta : Nat) (en : Nat) (tok : Int32) (num : Int32) (tfi : Int32) (tgl : Int32) (tst : Int32) (fby : Nat → Int32) (hln : ln ≤ 150) (hen : en ≤ ln) (hse : sta ≤ en) : kz_Mi l yX7_isWord wsX7_isWord ({ frames := 5, cells := 0, slots := 0, locals := 145 }) D y [.ref tx, .ref (aK 1)] [(tx, .inr (7, [.ref bys, .int (nI ln), .int tok, .int (nI sta), .int (nI en), .int num, .ref wo, .ref fs, .ref sc, .int tfi, .int tgl, .int tst])), (bys, .inl (y 1, 150, .inl fby))] aK aV (fun (r : Int32) (u : Unit) => (ks_e1 fby sta en = true ∧ r = 1) ∨ (¬ ks_e1 fby sta en = true ∧ r = 0)) (fun _ => [(tx, .inr (7, [.ref bys, .int (nI ln), .int tok, .int (nI sta), .int (nI en), .int num, .ref wo, .ref fs, .ref sc, .int tfi, .int tgl, .int tst])), (bys, .inl (y 1, 150, .inl fby))]) 0 0 := by
  refine kz_Mi.of (cc := cX7_isWord) (maxL := 3) (ret := (some .boolean)) (by decide) rfl ?_
  intro pZ eZ s mZ beZ meZ cZ A hE
  obtain ⟨hx, hb, hr, hml, hts, hown, hlocks, hin, hA, hP, hD, hK, hN, hZ⟩ := hE
  have hS : va_S A s.heap s.heap [] := va_S.rf
  have hl := lv_entry ([.ref tx, .ref (aK 1)]) (n := 3) (Nat.le_of_ble_eq_true rfl)
  rw [lg_entry_eq]
  generalize (lg_sl ([.ref tx, .ref (aK 1)]) ++ List.replicate (3 - (lg_sl ([.ref tx, .ref (aK 1)])).length) Slot.unset).toArray = ls at hl ⊢
  have hl : lv_has ls 3 [(0, .ref tx), (1, .ref (aK 1))] := hl
  have fw1 := hts (.fieldLink RX7 29 "GleanDusk$Text" "end" "I") (List.mem_of_getElem? (i := 1) rfl)
  have fw2 := hts (.fieldLink RX7 51 "GleanDusk$Text" "start" "I") (List.mem_of_getElem? (i := 2) rfl)
  have fw3 := hts (.fieldLink RX7 9 "GleanDusk$Text" "bytes" "[B") (List.mem_of_getElem? (i := 3) rfl)
  have iw7 : ∀ w ∈ wsX70, w ∈ wsX7_isWord := fun _ h => List.mem_cons_of_mem _ (List.mem_append_right _ h)
  refine lv_aload_n hx hb dX7_isWord_0 rfl (lv_at hl 0 rfl) ?_
  refine va_get (D := D) (ci := 7) (v := .int (nI en)) (C := RX7) (T := TX7) (N := 12) hx hb hts iw7 hown hK hP 0 rfl rfl 4 (by decide) fw1 (fun _ h9 => h9) rfl dX7_isWord_1 ?_
  refine lv_aload_n hx hb dX7_isWord_4 rfl (lv_at hl 0 rfl) ?_
  refine va_get (D := D) (ci := 7) (v := .int (nI sta)) (C := RX7) (T := TX7) (N := 12) hx hb hts iw7 hown hK hP 0 rfl rfl 3 (by decide) fw2 (fun _ h9 => h9) rfl dX7_isWord_5 ?_
  refine lv_isub hx hb dX7_isWord_8 ?_
  rw [show (nI en) - (nI sta) = nI (en - sta) from pk_sub (a := en) (b := sta) (by omega)]
  refine lv_aload_n hx hb dX7_isWord_9 rfl (lv_at hl 1 rfl) ?_
  have hs1 : kw_Split [(tx, .inr (7, [.ref bys, .int (nI ln), .int tok, .int (nI sta), .int (nI en), .int num, .ref wo, .ref fs, .ref sc, .int tfi, .int tgl, .int tst])), (bys, .inl (y 1, 150, .inl fby))] [] [(tx, .inr (7, [.ref bys, .int (nI ln), .int tok, .int (nI sta), .int (nI en), .int num, .ref wo, .ref fs, .ref sc, .int tfi, .int tgl, .int tst])), (bys, .inl (y 1, 150, .inl fby))] [] [0, 1] := ⟨rfl, rfl, rfl, rfl, rfl, by decide⟩
  refine kw_go_i hs1 hP hD hS hA (va_runV (As := []) (rest := [.int (nI (en - sta))]) ⟨hx, hb, hml, hown, hts⟩ (gj_length1 l D y aK aV  _) (cwV 0 hts gX7_isWord_J0_length_8abf5 rfl rfl rfl (by decide +kernel) ⟨Nat.le_of_ble_eq_true rfl, Nat.le_of_ble_eq_true rfl⟩) (kz_PreK (i := 1) hs1 hP hD hK hN (by decide) hZ hS hA) rfl rfl hl.1 rfl (lv_room (Nat.le_of_ble_eq_true rfl)) dX7_isWord_10 ⟨Nat.le_of_ble_eq_true rfl, Nat.le_of_ble_eq_true rfl⟩) (fun r2 u3 H locs hq hP hD hS => ?_)
  obtain rfl := hq
  have hP : va_P D vwCl [(tx, .inr (7, [.ref bys, .int (nI ln), .int tok, .int (nI sta), .int (nI en), .int num, .ref wo, .ref fs, .ref sc, .int tfi, .int tgl, .int tst])), (bys, .inl (y 1, 150, .inl fby))] H := hP
  have hD : va_D A [(tx, .inr (7, [.ref bys, .int (nI ln), .int tok, .int (nI sta), .int (nI en), .int num, .ref wo, .ref fs, .ref sc, .int tfi, .int tgl, .int tst])), (bys, .inl (y 1, 150, .inl fby))] := hD
  refine lv_icmp_eq (tgt := 18) hx hb dX7_isWord_13 (by decide) (fun h4 => ?_) (fun h5 => ?_)
  · skip
    have h4 : (en - sta) = 5 := (nI_eq (a := (en - sta)) (b := 5) (by omega) (by omega)).mp h4
    refine lv_iconst (v := 0) hx hb dX7_isWord_18 (by decide) ?_
    refine lv_istore_n (lv' := [(2, .int 0), (0, .ref tx), (1, .ref (aK 1))]) hx hb dX7_isWord_19 rfl hl (by decide) rfl (fun ls hl => ?_)
    refine lv_iload_n hx hb dX7_isWord_20 rfl (lv_at hl 0 rfl) ?_
    refine lv_aload_n hx hb dX7_isWord_21 rfl (lv_at hl 2 rfl) ?_
    have hs6 : kw_Split [(tx, .inr (7, [.ref bys, .int (nI ln), .int tok, .int (nI sta), .int (nI en), .int num, .ref wo, .ref fs, .ref sc, .int tfi, .int tgl, .int tst])), (bys, .inl (y 1, 150, .inl fby))] [] [(tx, .inr (7, [.ref bys, .int (nI ln), .int tok, .int (nI sta), .int (nI en), .int num, .ref wo, .ref fs, .ref sc, .int tfi, .int tgl, .int tst])), (bys, .inl (y 1, 150, .inl fby))] [] [0, 1] := ⟨rfl, rfl, rfl, rfl, rfl, by decide⟩
    refine kw_go_i hs6 hP hD hS hA (va_runV (As := []) (rest := [.int 0]) ⟨hx, hb, hml, hown, hts⟩ (gj_length1 l D y aK aV  _) (cwV 0 hts gX7_isWord_J0_length_8abf5 rfl rfl rfl (by decide +kernel) ⟨Nat.le_of_ble_eq_true rfl, Nat.le_of_ble_eq_true rfl⟩) (kz_PreK (i := 1) hs6 hP hD hK hN (by decide) hZ hS hA) rfl rfl hl.1 rfl (lv_room (Nat.le_of_ble_eq_true rfl)) dX7_isWord_22 ⟨Nat.le_of_ble_eq_true rfl, Nat.le_of_ble_eq_true rfl⟩) (fun r7 u8 H locs hq hP hD hS => ?_)
    obtain rfl := hq
    have hP : va_P D vwCl [(tx, .inr (7, [.ref bys, .int (nI ln), .int tok, .int (nI sta), .int (nI en), .int num, .ref wo, .ref fs, .ref sc, .int tfi, .int tgl, .int tst])), (bys, .inl (y 1, 150, .inl fby))] H := hP
    have hD : va_D A [(tx, .inr (7, [.ref bys, .int (nI ln), .int tok, .int (nI sta), .int (nI en), .int num, .ref wo, .ref fs, .ref sc, .int tfi, .int tgl, .int tst])), (bys, .inl (y 1, 150, .inl fby))] := hD
    refine lv_icmp_ge (tgt := 55) hx hb dX7_isWord_25 (by decide) (fun h9 => absurd h9 (by decide)) (fun _ => ?_)
    refine lv_aload_n hx hb dX7_isWord_28 rfl (lv_at hl 1 rfl) ?_
    refine va_get (D := D) (ci := 7) (v := .ref bys) (C := RX7) (T := TX7) (N := 12) hx hb hts iw7 hown hK hP 0 rfl rfl 0 (by decide) fw3 (fun _ h9 => h9) rfl dX7_isWord_29 ?_
    refine lv_aload_n hx hb dX7_isWord_32 rfl (lv_at hl 1 rfl) ?_
    refine va_get (D := D) (ci := 7) (v := .int (nI sta)) (C := RX7) (T := TX7) (N := 12) hx hb hts iw7 hown hK hP 0 rfl rfl 3 (by decide) fw2 (fun _ h9 => h9) rfl dX7_isWord_33 ?_
    refine lv_iload_n hx hb dX7_isWord_36 rfl (lv_at hl 0 rfl) ?_
    refine lv_iadd hx hb dX7_isWord_37 ?_
    rw [show (nI sta) + 0 = nI (sta) from nI_add sta 0]
    refine va_bald hx hb hK hP 1 1 rfl rfl (vp_in_nI (by omega) (by decide)) dX7_isWord_38 ?_
    rw [nI_clamp (n := sta) (by omega)]
    refine lv_aload_n hx hb dX7_isWord_39 rfl (lv_at hl 2 rfl) ?_
    refine lv_iload_n hx hb dX7_isWord_40 rfl (lv_at hl 0 rfl) ?_
    have hs9 : kw_Split [(tx, .inr (7, [.ref bys, .int (nI ln), .int tok, .int (nI sta), .int (nI en), .int num, .ref wo, .ref fs, .ref sc, .int tfi, .int tgl, .int tst])), (bys, .inl (y 1, 150, .inl fby))] [] [(tx, .inr (7, [.ref bys, .int (nI ln), .int tok, .int (nI sta), .int (nI en), .int num, .ref wo, .ref fs, .ref sc, .int tfi, .int tgl, .int tst])), (bys, .inl (y 1, 150, .inl fby))] [] [0, 1] := ⟨rfl, rfl, rfl, rfl, rfl, by decide⟩
    refine kw_go_i hs9 hP hD hS hA (va_runV (As := [.int 0]) (rest := [.int (fby sta)]) ⟨hx, hb, hml, hown, hts⟩ (gs_charAt1 l D y aK aV 0 (by omega) _) (cwV 1 hts gX7_isWord_J0_charAt_5068e rfl rfl rfl (by decide +kernel) ⟨Nat.le_of_ble_eq_true rfl, Nat.le_of_ble_eq_true rfl⟩) (kz_PreK (i := 1) hs9 hP hD hK hN (by decide) hZ hS hA) rfl rfl hl.1 rfl (lv_room (Nat.le_of_ble_eq_true rfl)) dX7_isWord_41 ⟨Nat.le_of_ble_eq_true rfl, Nat.le_of_ble_eq_true rfl⟩) (fun r10 u11 H locs hq hP hD hS => ?_)
    obtain rfl := hq
    rw [show kz_w 1 0 = 102 from rfl]
    have hP : va_P D vwCl [(tx, .inr (7, [.ref bys, .int (nI ln), .int tok, .int (nI sta), .int (nI en), .int num, .ref wo, .ref fs, .ref sc, .int tfi, .int tgl, .int tst])), (bys, .inl (y 1, 150, .inl fby))] H := hP
    have hD : va_D A [(tx, .inr (7, [.ref bys, .int (nI ln), .int tok, .int (nI sta), .int (nI en), .int num, .ref wo, .ref fs, .ref sc, .int tfi, .int tgl, .int tst])), (bys, .inl (y 1, 150, .inl fby))] := hD
    refine lv_icmp_eq (tgt := 49) hx hb dX7_isWord_44 (by decide) (fun h12 => ?_) (fun h13 => ?_)
    · skip
      refine lv_iinc (v := 1) (lv' := [(2, .int 1), (0, .ref tx), (1, .ref (aK 1))]) hx hb dX7_isWord_49 hl (k := 0) rfl (by decide) (by decide) rfl (fun ls hl => ?_)
      refine lv_goto (tgt := 20) hx hb dX7_isWord_52 (by decide) ?_
      refine lv_iload_n hx hb dX7_isWord_20 rfl (lv_at hl 0 rfl) ?_
      refine lv_aload_n hx hb dX7_isWord_21 rfl (lv_at hl 2 rfl) ?_
      have hs14 : kw_Split [(tx, .inr (7, [.ref bys, .int (nI ln), .int tok, .int (nI sta), .int (nI en), .int num, .ref wo, .ref fs, .ref sc, .int tfi, .int tgl, .int tst])), (bys, .inl (y 1, 150, .inl fby))] [] [(tx, .inr (7, [.ref bys, .int (nI ln), .int tok, .int (nI sta), .int (nI en), .int num, .ref wo, .ref fs, .ref sc, .int tfi, .int tgl, .int tst])), (bys, .inl (y 1, 150, .inl fby))] [] [0, 1] := ⟨rfl, rfl, rfl, rfl, rfl, by decide⟩
      refine kw_go_i hs14 hP hD hS hA (va_runV (As := []) (rest := [.int 1]) ⟨hx, hb, hml, hown, hts⟩ (gj_length1 l D y aK aV  _) (cwV 0 hts gX7_isWord_J0_length_8abf5 rfl rfl rfl (by decide +kernel) ⟨Nat.le_of_ble_eq_true rfl, Nat.le_of_ble_eq_true rfl⟩) (kz_PreK (i := 1) hs14 hP hD hK hN (by decide) hZ hS hA) rfl rfl hl.1 rfl (lv_room (Nat.le_of_ble_eq_true rfl)) dX7_isWord_22 ⟨Nat.le_of_ble_eq_true rfl, Nat.le_of_ble_eq_true rfl⟩) (fun r15 u16 H locs hq hP hD hS => ?_)
      obtain rfl := hq
      have hP : va_P D vwCl [(tx, .inr (7, [.ref bys, .int (nI ln), .int tok, .int (nI sta), .int (nI en), .int num, .ref wo, .ref fs, .ref sc, .int tfi, .int tgl, .int tst])), (bys, .inl (y 1, 150, .inl fby))] H := hP
      have hD : va_D A [(tx, .inr (7, [.ref bys, .int (nI ln), .int tok, .int (nI sta), .int (nI en), .int num, .ref wo, .ref fs, .ref sc, .int tfi, .int tgl, .int tst])), (bys, .inl (y 1, 150, .inl fby))] := hD
      refine lv_icmp_ge (tgt := 55) hx hb dX7_isWord_25 (by decide) (fun h9 => absurd h9 (by decide)) (fun _ => ?_)
      refine lv_aload_n hx hb dX7_isWord_28 rfl (lv_at hl 1 rfl) ?_
      refine va_get (D := D) (ci := 7) (v := .ref bys) (C := RX7) (T := TX7) (N := 12) hx hb hts iw7 hown hK hP 0 rfl rfl 0 (by decide) fw3 (fun _ h9 => h9) rfl dX7_isWord_29 ?_
      refine lv_aload_n hx hb dX7_isWord_32 rfl (lv_at hl 1 rfl) ?_
      refine va_get (D := D) (ci := 7) (v := .int (nI sta)) (C := RX7) (T := TX7) (N := 12) hx hb hts iw7 hown hK hP 0 rfl rfl 3 (by decide) fw2 (fun _ h9 => h9) rfl dX7_isWord_33 ?_
      refine lv_iload_n hx hb dX7_isWord_36 rfl (lv_at hl 0 rfl) ?_
      refine lv_iadd hx hb dX7_isWord_37 ?_
      rw [show (nI sta) + 1 = nI (sta + 1) from nI_add sta 1]
      refine va_bald hx hb hK hP 1 1 rfl rfl (vp_in_nI (by omega) (by decide)) dX7_isWord_38 ?_
      rw [nI_clamp (n := (sta + 1)) (by omega)]
      refine lv_aload_n hx hb dX7_isWord_39 rfl (lv_at hl 2 rfl) ?_
      refine lv_iload_n hx hb dX7_isWord_40 rfl (lv_at hl 0 rfl) ?_
      have hs17 : kw_Split [(tx, .inr (7, [.ref bys, .int (nI ln), .int tok, .int (nI sta), .int (nI en), .int num, .ref wo, .ref fs, .ref sc, .int tfi, .int tgl, .int tst])), (bys, .inl (y 1, 150, .inl fby))] [] [(tx, .inr (7, [.ref bys, .int (nI ln), .int tok, .int (nI sta), .int (nI en), .int num, .ref wo, .ref fs, .ref sc, .int tfi, .int tgl, .int tst])), (bys, .inl (y 1, 150, .inl fby))] [] [0, 1] := ⟨rfl, rfl, rfl, rfl, rfl, by decide⟩
      refine kw_go_i hs17 hP hD hS hA (va_runV (As := [.int 1]) (rest := [.int (fby (sta + 1))]) ⟨hx, hb, hml, hown, hts⟩ (gs_charAt1 l D y aK aV 1 (by omega) _) (cwV 1 hts gX7_isWord_J0_charAt_5068e rfl rfl rfl (by decide +kernel) ⟨Nat.le_of_ble_eq_true rfl, Nat.le_of_ble_eq_true rfl⟩) (kz_PreK (i := 1) hs17 hP hD hK hN (by decide) hZ hS hA) rfl rfl hl.1 rfl (lv_room (Nat.le_of_ble_eq_true rfl)) dX7_isWord_41 ⟨Nat.le_of_ble_eq_true rfl, Nat.le_of_ble_eq_true rfl⟩) (fun r18 u19 H locs hq hP hD hS => ?_)
      obtain rfl := hq
      rw [show kz_w 1 1 = 105 from rfl]
      have hP : va_P D vwCl [(tx, .inr (7, [.ref bys, .int (nI ln), .int tok, .int (nI sta), .int (nI en), .int num, .ref wo, .ref fs, .ref sc, .int tfi, .int tgl, .int tst])), (bys, .inl (y 1, 150, .inl fby))] H := hP
      have hD : va_D A [(tx, .inr (7, [.ref bys, .int (nI ln), .int tok, .int (nI sta), .int (nI en), .int num, .ref wo, .ref fs, .ref sc, .int tfi, .int tgl, .int tst])), (bys, .inl (y 1, 150, .inl fby))] := hD
      refine lv_icmp_eq (tgt := 49) hx hb dX7_isWord_44 (by decide) (fun h20 => ?_) (fun h21 => ?_)
      · skip
        refine lv_iinc (v := 2) (lv' := [(2, .int 2), (0, .ref tx), (1, .ref (aK 1))]) hx hb dX7_isWord_49 hl (k := 0) rfl (by decide) (by decide) rfl (fun ls hl => ?_)
        refine lv_goto (tgt := 20) hx hb dX7_isWord_52 (by decide) ?_
        refine lv_iload_n hx hb dX7_isWord_20 rfl (lv_at hl 0 rfl) ?_
        refine lv_aload_n hx hb dX7_isWord_21 rfl (lv_at hl 2 rfl) ?_
        have hs22 : kw_Split [(tx, .inr (7, [.ref bys, .int (nI ln), .int tok, .int (nI sta), .int (nI en), .int num, .ref wo, .ref fs, .ref sc, .int tfi, .int tgl, .int tst])), (bys, .inl (y 1, 150, .inl fby))] [] [(tx, .inr (7, [.ref bys, .int (nI ln), .int tok, .int (nI sta), .int (nI en), .int num, .ref wo, .ref fs, .ref sc, .int tfi, .int tgl, .int tst])), (bys, .inl (y 1, 150, .inl fby))] [] [0, 1] := ⟨rfl, rfl, rfl, rfl, rfl, by decide⟩
        refine kw_go_i hs22 hP hD hS hA (va_runV (As := []) (rest := [.int 2]) ⟨hx, hb, hml, hown, hts⟩ (gj_length1 l D y aK aV  _) (cwV 0 hts gX7_isWord_J0_length_8abf5 rfl rfl rfl (by decide +kernel) ⟨Nat.le_of_ble_eq_true rfl, Nat.le_of_ble_eq_true rfl⟩) (kz_PreK (i := 1) hs22 hP hD hK hN (by decide) hZ hS hA) rfl rfl hl.1 rfl (lv_room (Nat.le_of_ble_eq_true rfl)) dX7_isWord_22 ⟨Nat.le_of_ble_eq_true rfl, Nat.le_of_ble_eq_true rfl⟩) (fun r23 u24 H locs hq hP hD hS => ?_)
        obtain rfl := hq
        have hP : va_P D vwCl [(tx, .inr (7, [.ref bys, .int (nI ln), .int tok, .int (nI sta), .int (nI en), .int num, .ref wo, .ref fs, .ref sc, .int tfi, .int tgl, .int tst])), (bys, .inl (y 1, 150, .inl fby))] H := hP
        have hD : va_D A [(tx, .inr (7, [.ref bys, .int (nI ln), .int tok, .int (nI sta), .int (nI en), .int num, .ref wo, .ref fs, .ref sc, .int tfi, .int tgl, .int tst])), (bys, .inl (y 1, 150, .inl fby))] := hD
        refine lv_icmp_ge (tgt := 55) hx hb dX7_isWord_25 (by decide) (fun h9 => absurd h9 (by decide)) (fun _ => ?_)
        refine lv_aload_n hx hb dX7_isWord_28 rfl (lv_at hl 1 rfl) ?_
        refine va_get (D := D) (ci := 7) (v := .ref bys) (C := RX7) (T := TX7) (N := 12) hx hb hts iw7 hown hK hP 0 rfl rfl 0 (by decide) fw3 (fun _ h9 => h9) rfl dX7_isWord_29 ?_
        refine lv_aload_n hx hb dX7_isWord_32 rfl (lv_at hl 1 rfl) ?_
        refine va_get (D := D) (ci := 7) (v := .int (nI sta)) (C := RX7) (T := TX7) (N := 12) hx hb hts iw7 hown hK hP 0 rfl rfl 3 (by decide) fw2 (fun _ h9 => h9) rfl dX7_isWord_33 ?_
        refine lv_iload_n hx hb dX7_isWord_36 rfl (lv_at hl 0 rfl) ?_
        refine lv_iadd hx hb dX7_isWord_37 ?_
        rw [show (nI sta) + 2 = nI (sta + 2) from nI_add sta 2]
        refine va_bald hx hb hK hP 1 1 rfl rfl (vp_in_nI (by omega) (by decide)) dX7_isWord_38 ?_
        rw [nI_clamp (n := (sta + 2)) (by omega)]
        refine lv_aload_n hx hb dX7_isWord_39 rfl (lv_at hl 2 rfl) ?_
        refine lv_iload_n hx hb dX7_isWord_40 rfl (lv_at hl 0 rfl) ?_
        have hs25 : kw_Split [(tx, .inr (7, [.ref bys, .int (nI ln), .int tok, .int (nI sta), .int (nI en), .int num, .ref wo, .ref fs, .ref sc, .int tfi, .int tgl, .int tst])), (bys, .inl (y 1, 150, .inl fby))] [] [(tx, .inr (7, [.ref bys, .int (nI ln), .int tok, .int (nI sta), .int (nI en), .int num, .ref wo, .ref fs, .ref sc, .int tfi, .int tgl, .int tst])), (bys, .inl (y 1, 150, .inl fby))] [] [0, 1] := ⟨rfl, rfl, rfl, rfl, rfl, by decide⟩
        refine kw_go_i hs25 hP hD hS hA (va_runV (As := [.int 2]) (rest := [.int (fby (sta + 2))]) ⟨hx, hb, hml, hown, hts⟩ (gs_charAt1 l D y aK aV 2 (by omega) _) (cwV 1 hts gX7_isWord_J0_charAt_5068e rfl rfl rfl (by decide +kernel) ⟨Nat.le_of_ble_eq_true rfl, Nat.le_of_ble_eq_true rfl⟩) (kz_PreK (i := 1) hs25 hP hD hK hN (by decide) hZ hS hA) rfl rfl hl.1 rfl (lv_room (Nat.le_of_ble_eq_true rfl)) dX7_isWord_41 ⟨Nat.le_of_ble_eq_true rfl, Nat.le_of_ble_eq_true rfl⟩) (fun r26 u27 H locs hq hP hD hS => ?_)
        obtain rfl := hq
        rw [show kz_w 1 2 = 101 from rfl]
        have hP : va_P D vwCl [(tx, .inr (7, [.ref bys, .int (nI ln), .int tok, .int (nI sta), .int (nI en), .int num, .ref wo, .ref fs, .ref sc, .int tfi, .int tgl, .int tst])), (bys, .inl (y 1, 150, .inl fby))] H := hP
        have hD : va_D A [(tx, .inr (7, [.ref bys, .int (nI ln), .int tok, .int (nI sta), .int (nI en), .int num, .ref wo, .ref fs, .ref sc, .int tfi, .int tgl, .int tst])), (bys, .inl (y 1, 150, .inl fby))] := hD
        refine lv_icmp_eq (tgt := 49) hx hb dX7_isWord_44 (by decide) (fun h28 => ?_) (fun h29 => ?_)
        · skip
          refine lv_iinc (v := 3) (lv' := [(2, .int 3), (0, .ref tx), (1, .ref (aK 1))]) hx hb dX7_isWord_49 hl (k := 0) rfl (by decide) (by decide) rfl (fun ls hl => ?_)
          refine lv_goto (tgt := 20) hx hb dX7_isWord_52 (by decide) ?_
          refine lv_iload_n hx hb dX7_isWord_20 rfl (lv_at hl 0 rfl) ?_
          refine lv_aload_n hx hb dX7_isWord_21 rfl (lv_at hl 2 rfl) ?_
          have hs30 : kw_Split [(tx, .inr (7, [.ref bys, .int (nI ln), .int tok, .int (nI sta), .int (nI en), .int num, .ref wo, .ref fs, .ref sc, .int tfi, .int tgl, .int tst])), (bys, .inl (y 1, 150, .inl fby))] [] [(tx, .inr (7, [.ref bys, .int (nI ln), .int tok, .int (nI sta), .int (nI en), .int num, .ref wo, .ref fs, .ref sc, .int tfi, .int tgl, .int tst])), (bys, .inl (y 1, 150, .inl fby))] [] [0, 1] := ⟨rfl, rfl, rfl, rfl, rfl, by decide⟩
          refine kw_go_i hs30 hP hD hS hA (va_runV (As := []) (rest := [.int 3]) ⟨hx, hb, hml, hown, hts⟩ (gj_length1 l D y aK aV  _) (cwV 0 hts gX7_isWord_J0_length_8abf5 rfl rfl rfl (by decide +kernel) ⟨Nat.le_of_ble_eq_true rfl, Nat.le_of_ble_eq_true rfl⟩) (kz_PreK (i := 1) hs30 hP hD hK hN (by decide) hZ hS hA) rfl rfl hl.1 rfl (lv_room (Nat.le_of_ble_eq_true rfl)) dX7_isWord_22 ⟨Nat.le_of_ble_eq_true rfl, Nat.le_of_ble_eq_true rfl⟩) (fun r31 u32 H locs hq hP hD hS => ?_)
          obtain rfl := hq
          have hP : va_P D vwCl [(tx, .inr (7, [.ref bys, .int (nI ln), .int tok, .int (nI sta), .int (nI en), .int num, .ref wo, .ref fs, .ref sc, .int tfi, .int tgl, .int tst])), (bys, .inl (y 1, 150, .inl fby))] H := hP
          have hD : va_D A [(tx, .inr (7, [.ref bys, .int (nI ln), .int tok, .int (nI sta), .int (nI en), .int num, .ref wo, .ref fs, .ref sc, .int tfi, .int tgl, .int tst])), (bys, .inl (y 1, 150, .inl fby))] := hD
          refine lv_icmp_ge (tgt := 55) hx hb dX7_isWord_25 (by decide) (fun h9 => absurd h9 (by decide)) (fun _ => ?_)
          refine lv_aload_n hx hb dX7_isWord_28 rfl (lv_at hl 1 rfl) ?_
          refine va_get (D := D) (ci := 7) (v := .ref bys) (C := RX7) (T := TX7) (N := 12) hx hb hts iw7 hown hK hP 0 rfl rfl 0 (by decide) fw3 (fun _ h9 => h9) rfl dX7_isWord_29 ?_
          refine lv_aload_n hx hb dX7_isWord_32 rfl (lv_at hl 1 rfl) ?_
          refine va_get (D := D) (ci := 7) (v := .int (nI sta)) (C := RX7) (T := TX7) (N := 12) hx hb hts iw7 hown hK hP 0 rfl rfl 3 (by decide) fw2 (fun _ h9 => h9) rfl dX7_isWord_33 ?_
          refine lv_iload_n hx hb dX7_isWord_36 rfl (lv_at hl 0 rfl) ?_
          refine lv_iadd hx hb dX7_isWord_37 ?_
          rw [show (nI sta) + 3 = nI (sta + 3) from nI_add sta 3]
          refine va_bald hx hb hK hP 1 1 rfl rfl (vp_in_nI (by omega) (by decide)) dX7_isWord_38 ?_
          rw [nI_clamp (n := (sta + 3)) (by omega)]
          refine lv_aload_n hx hb dX7_isWord_39 rfl (lv_at hl 2 rfl) ?_
          refine lv_iload_n hx hb dX7_isWord_40 rfl (lv_at hl 0 rfl) ?_
          have hs33 : kw_Split [(tx, .inr (7, [.ref bys, .int (nI ln), .int tok, .int (nI sta), .int (nI en), .int num, .ref wo, .ref fs, .ref sc, .int tfi, .int tgl, .int tst])), (bys, .inl (y 1, 150, .inl fby))] [] [(tx, .inr (7, [.ref bys, .int (nI ln), .int tok, .int (nI sta), .int (nI en), .int num, .ref wo, .ref fs, .ref sc, .int tfi, .int tgl, .int tst])), (bys, .inl (y 1, 150, .inl fby))] [] [0, 1] := ⟨rfl, rfl, rfl, rfl, rfl, by decide⟩
          refine kw_go_i hs33 hP hD hS hA (va_runV (As := [.int 3]) (rest := [.int (fby (sta + 3))]) ⟨hx, hb, hml, hown, hts⟩ (gs_charAt1 l D y aK aV 3 (by omega) _) (cwV 1 hts gX7_isWord_J0_charAt_5068e rfl rfl rfl (by decide +kernel) ⟨Nat.le_of_ble_eq_true rfl, Nat.le_of_ble_eq_true rfl⟩) (kz_PreK (i := 1) hs33 hP hD hK hN (by decide) hZ hS hA) rfl rfl hl.1 rfl (lv_room (Nat.le_of_ble_eq_true rfl)) dX7_isWord_41 ⟨Nat.le_of_ble_eq_true rfl, Nat.le_of_ble_eq_true rfl⟩) (fun r34 u35 H locs hq hP hD hS => ?_)
          obtain rfl := hq
          rw [show kz_w 1 3 = 108 from rfl]
          have hP : va_P D vwCl [(tx, .inr (7, [.ref bys, .int (nI ln), .int tok, .int (nI sta), .int (nI en), .int num, .ref wo, .ref fs, .ref sc, .int tfi, .int tgl, .int tst])), (bys, .inl (y 1, 150, .inl fby))] H := hP
          have hD : va_D A [(tx, .inr (7, [.ref bys, .int (nI ln), .int tok, .int (nI sta), .int (nI en), .int num, .ref wo, .ref fs, .ref sc, .int tfi, .int tgl, .int tst])), (bys, .inl (y 1, 150, .inl fby))] := hD
          refine lv_icmp_eq (tgt := 49) hx hb dX7_isWord_44 (by decide) (fun h36 => ?_) (fun h37 => ?_)
          · skip
            refine lv_iinc (v := 4) (lv' := [(2, .int 4), (0, .ref tx), (1, .ref (aK 1))]) hx hb dX7_isWord_49 hl (k := 0) rfl (by decide) (by decide) rfl (fun ls hl => ?_)
            refine lv_goto (tgt := 20) hx hb dX7_isWord_52 (by decide) ?_
            refine lv_iload_n hx hb dX7_isWord_20 rfl (lv_at hl 0 rfl) ?_
            refine lv_aload_n hx hb dX7_isWord_21 rfl (lv_at hl 2 rfl) ?_
            have hs38 : kw_Split [(tx, .inr (7, [.ref bys, .int (nI ln), .int tok, .int (nI sta), .int (nI en), .int num, .ref wo, .ref fs, .ref sc, .int tfi, .int tgl, .int tst])), (bys, .inl (y 1, 150, .inl fby))] [] [(tx, .inr (7, [.ref bys, .int (nI ln), .int tok, .int (nI sta), .int (nI en), .int num, .ref wo, .ref fs, .ref sc, .int tfi, .int tgl, .int tst])), (bys, .inl (y 1, 150, .inl fby))] [] [0, 1] := ⟨rfl, rfl, rfl, rfl, rfl, by decide⟩
            refine kw_go_i hs38 hP hD hS hA (va_runV (As := []) (rest := [.int 4]) ⟨hx, hb, hml, hown, hts⟩ (gj_length1 l D y aK aV  _) (cwV 0 hts gX7_isWord_J0_length_8abf5 rfl rfl rfl (by decide +kernel) ⟨Nat.le_of_ble_eq_true rfl, Nat.le_of_ble_eq_true rfl⟩) (kz_PreK (i := 1) hs38 hP hD hK hN (by decide) hZ hS hA) rfl rfl hl.1 rfl (lv_room (Nat.le_of_ble_eq_true rfl)) dX7_isWord_22 ⟨Nat.le_of_ble_eq_true rfl, Nat.le_of_ble_eq_true rfl⟩) (fun r39 u40 H locs hq hP hD hS => ?_)
            obtain rfl := hq
            have hP : va_P D vwCl [(tx, .inr (7, [.ref bys, .int (nI ln), .int tok, .int (nI sta), .int (nI en), .int num, .ref wo, .ref fs, .ref sc, .int tfi, .int tgl, .int tst])), (bys, .inl (y 1, 150, .inl fby))] H := hP
            have hD : va_D A [(tx, .inr (7, [.ref bys, .int (nI ln), .int tok, .int (nI sta), .int (nI en), .int num, .ref wo, .ref fs, .ref sc, .int tfi, .int tgl, .int tst])), (bys, .inl (y 1, 150, .inl fby))] := hD
            refine lv_icmp_ge (tgt := 55) hx hb dX7_isWord_25 (by decide) (fun h9 => absurd h9 (by decide)) (fun _ => ?_)
            refine lv_aload_n hx hb dX7_isWord_28 rfl (lv_at hl 1 rfl) ?_
            refine va_get (D := D) (ci := 7) (v := .ref bys) (C := RX7) (T := TX7) (N := 12) hx hb hts iw7 hown hK hP 0 rfl rfl 0 (by decide) fw3 (fun _ h9 => h9) rfl dX7_isWord_29 ?_
            refine lv_aload_n hx hb dX7_isWord_32 rfl (lv_at hl 1 rfl) ?_
            refine va_get (D := D) (ci := 7) (v := .int (nI sta)) (C := RX7) (T := TX7) (N := 12) hx hb hts iw7 hown hK hP 0 rfl rfl 3 (by decide) fw2 (fun _ h9 => h9) rfl dX7_isWord_33 ?_
            refine lv_iload_n hx hb dX7_isWord_36 rfl (lv_at hl 0 rfl) ?_
            refine lv_iadd hx hb dX7_isWord_37 ?_
            rw [show (nI sta) + 4 = nI (sta + 4) from nI_add sta 4]
            refine va_bald hx hb hK hP 1 1 rfl rfl (vp_in_nI (by omega) (by decide)) dX7_isWord_38 ?_
            rw [nI_clamp (n := (sta + 4)) (by omega)]
            refine lv_aload_n hx hb dX7_isWord_39 rfl (lv_at hl 2 rfl) ?_
            refine lv_iload_n hx hb dX7_isWord_40 rfl (lv_at hl 0 rfl) ?_
            have hs41 : kw_Split [(tx, .inr (7, [.ref bys, .int (nI ln), .int tok, .int (nI sta), .int (nI en), .int num, .ref wo, .ref fs, .ref sc, .int tfi, .int tgl, .int tst])), (bys, .inl (y 1, 150, .inl fby))] [] [(tx, .inr (7, [.ref bys, .int (nI ln), .int tok, .int (nI sta), .int (nI en), .int num, .ref wo, .ref fs, .ref sc, .int tfi, .int tgl, .int tst])), (bys, .inl (y 1, 150, .inl fby))] [] [0, 1] := ⟨rfl, rfl, rfl, rfl, rfl, by decide⟩
            refine kw_go_i hs41 hP hD hS hA (va_runV (As := [.int 4]) (rest := [.int (fby (sta + 4))]) ⟨hx, hb, hml, hown, hts⟩ (gs_charAt1 l D y aK aV 4 (by omega) _) (cwV 1 hts gX7_isWord_J0_charAt_5068e rfl rfl rfl (by decide +kernel) ⟨Nat.le_of_ble_eq_true rfl, Nat.le_of_ble_eq_true rfl⟩) (kz_PreK (i := 1) hs41 hP hD hK hN (by decide) hZ hS hA) rfl rfl hl.1 rfl (lv_room (Nat.le_of_ble_eq_true rfl)) dX7_isWord_41 ⟨Nat.le_of_ble_eq_true rfl, Nat.le_of_ble_eq_true rfl⟩) (fun r42 u43 H locs hq hP hD hS => ?_)
            obtain rfl := hq
            rw [show kz_w 1 4 = 100 from rfl]
            have hP : va_P D vwCl [(tx, .inr (7, [.ref bys, .int (nI ln), .int tok, .int (nI sta), .int (nI en), .int num, .ref wo, .ref fs, .ref sc, .int tfi, .int tgl, .int tst])), (bys, .inl (y 1, 150, .inl fby))] H := hP
            have hD : va_D A [(tx, .inr (7, [.ref bys, .int (nI ln), .int tok, .int (nI sta), .int (nI en), .int num, .ref wo, .ref fs, .ref sc, .int tfi, .int tgl, .int tst])), (bys, .inl (y 1, 150, .inl fby))] := hD
            refine lv_icmp_eq (tgt := 49) hx hb dX7_isWord_44 (by decide) (fun h44 => ?_) (fun h45 => ?_)
            · skip
              refine lv_iinc (v := 5) (lv' := [(2, .int 5), (0, .ref tx), (1, .ref (aK 1))]) hx hb dX7_isWord_49 hl (k := 0) rfl (by decide) (by decide) rfl (fun ls hl => ?_)
              refine lv_goto (tgt := 20) hx hb dX7_isWord_52 (by decide) ?_
              refine lv_iload_n hx hb dX7_isWord_20 rfl (lv_at hl 0 rfl) ?_
              refine lv_aload_n hx hb dX7_isWord_21 rfl (lv_at hl 2 rfl) ?_
              have hs46 : kw_Split [(tx, .inr (7, [.ref bys, .int (nI ln), .int tok, .int (nI sta), .int (nI en), .int num, .ref wo, .ref fs, .ref sc, .int tfi, .int tgl, .int tst])), (bys, .inl (y 1, 150, .inl fby))] [] [(tx, .inr (7, [.ref bys, .int (nI ln), .int tok, .int (nI sta), .int (nI en), .int num, .ref wo, .ref fs, .ref sc, .int tfi, .int tgl, .int tst])), (bys, .inl (y 1, 150, .inl fby))] [] [0, 1] := ⟨rfl, rfl, rfl, rfl, rfl, by decide⟩
              refine kw_go_i hs46 hP hD hS hA (va_runV (As := []) (rest := [.int 5]) ⟨hx, hb, hml, hown, hts⟩ (gj_length1 l D y aK aV  _) (cwV 0 hts gX7_isWord_J0_length_8abf5 rfl rfl rfl (by decide +kernel) ⟨Nat.le_of_ble_eq_true rfl, Nat.le_of_ble_eq_true rfl⟩) (kz_PreK (i := 1) hs46 hP hD hK hN (by decide) hZ hS hA) rfl rfl hl.1 rfl (lv_room (Nat.le_of_ble_eq_true rfl)) dX7_isWord_22 ⟨Nat.le_of_ble_eq_true rfl, Nat.le_of_ble_eq_true rfl⟩) (fun r47 u48 H locs hq hP hD hS => ?_)
              obtain rfl := hq
              have hP : va_P D vwCl [(tx, .inr (7, [.ref bys, .int (nI ln), .int tok, .int (nI sta), .int (nI en), .int num, .ref wo, .ref fs, .ref sc, .int tfi, .int tgl, .int tst])), (bys, .inl (y 1, 150, .inl fby))] H := hP
              have hD : va_D A [(tx, .inr (7, [.ref bys, .int (nI ln), .int tok, .int (nI sta), .int (nI en), .int num, .ref wo, .ref fs, .ref sc, .int tfi, .int tgl, .int tst])), (bys, .inl (y 1, 150, .inl fby))] := hD
              refine lv_icmp_ge (tgt := 55) hx hb dX7_isWord_25 (by decide) (fun _ => ?_) (fun h9 => absurd h9 (by decide))
              refine lv_iconst (v := 1) hx hb dX7_isWord_55 (by decide) ?_
              exact W.zret (v := 1) hx hb hr (by decide) (fun tZ ht hW => ⟨⟨1, (), rfl, Or.inl ⟨decide_eq_true ⟨by omega, h12, h20, h28, h36, h44⟩, rfl⟩, by rw [ht]; exact hP.sub [0, 1] rfl, hD.sub [0, 1] (by decide) rfl⟩, hS.F ht⟩) hS.2.2 dX7_isWord_56
            · skip
              refine lv_iconst (v := 0) hx hb dX7_isWord_47 (by decide) ?_
              exact W.zret (v := 0) hx hb hr (by decide) (fun tZ ht hW => ⟨⟨0, (), rfl, Or.inr (⟨fun q9 => absurd (of_decide_eq_true q9).2.2.2.2.2 h45, rfl⟩), by rw [ht]; exact hP.sub [0, 1] rfl, hD.sub [0, 1] (by decide) rfl⟩, hS.F ht⟩) hS.2.2 dX7_isWord_48
          · skip
            refine lv_iconst (v := 0) hx hb dX7_isWord_47 (by decide) ?_
            exact W.zret (v := 0) hx hb hr (by decide) (fun tZ ht hW => ⟨⟨0, (), rfl, Or.inr (⟨fun q9 => absurd (of_decide_eq_true q9).2.2.2.2.1 h37, rfl⟩), by rw [ht]; exact hP.sub [0, 1] rfl, hD.sub [0, 1] (by decide) rfl⟩, hS.F ht⟩) hS.2.2 dX7_isWord_48
        · skip
          refine lv_iconst (v := 0) hx hb dX7_isWord_47 (by decide) ?_
          exact W.zret (v := 0) hx hb hr (by decide) (fun tZ ht hW => ⟨⟨0, (), rfl, Or.inr (⟨fun q9 => absurd (of_decide_eq_true q9).2.2.2.1 h29, rfl⟩), by rw [ht]; exact hP.sub [0, 1] rfl, hD.sub [0, 1] (by decide) rfl⟩, hS.F ht⟩) hS.2.2 dX7_isWord_48
      · skip
        refine lv_iconst (v := 0) hx hb dX7_isWord_47 (by decide) ?_
        exact W.zret (v := 0) hx hb hr (by decide) (fun tZ ht hW => ⟨⟨0, (), rfl, Or.inr (⟨fun q9 => absurd (of_decide_eq_true q9).2.2.1 h21, rfl⟩), by rw [ht]; exact hP.sub [0, 1] rfl, hD.sub [0, 1] (by decide) rfl⟩, hS.F ht⟩) hS.2.2 dX7_isWord_48
    · skip
      refine lv_iconst (v := 0) hx hb dX7_isWord_47 (by decide) ?_
      exact W.zret (v := 0) hx hb hr (by decide) (fun tZ ht hW => ⟨⟨0, (), rfl, Or.inr (⟨fun q9 => absurd (of_decide_eq_true q9).2.1 h13, rfl⟩), by rw [ht]; exact hP.sub [0, 1] rfl, hD.sub [0, 1] (by decide) rfl⟩, hS.F ht⟩) hS.2.2 dX7_isWord_48
  · skip
    have h5 : ¬ (en - sta) = 5 := fun q9 => h5 ((nI_eq (a := (en - sta)) (b := 5) (by omega) (by omega)).mpr q9)
    refine lv_iconst (v := 0) hx hb dX7_isWord_16 (by decide) ?_
    exact W.zret (v := 0) hx hb hr (by decide) (fun tZ ht hW => ⟨⟨0, (), rfl, Or.inr (⟨fun q9 => absurd (of_decide_eq_true q9).1 (by omega), rfl⟩), by rw [ht]; exact hP.sub [0, 1] rfl, hD.sub [0, 1] (by decide) rfl⟩, hS.F ht⟩) hS.2.2 dX7_isWord_17

set_option maxHeartbeats 4000000 in
set_option maxRecDepth 100000 in
theorem gs_isWord2 (l : Launch) (D : va_G) (y : Nat → ClassId) (aK : Nat → Nat) (aV : Nat → Nat) (tx : Nat) (bys : Nat) (wo : Nat) (fs : Nat) (sc : Nat) (ln : Nat) (sta : Nat) (en : Nat) (tok : Int32) (num : Int32) (tfi : Int32) (tgl : Int32) (tst : Int32) (fby : Nat → Int32) (hln : ln ≤ 150) (hen : en ≤ ln) (hse : sta ≤ en) : kz_Mi l yX7_isWord wsX7_isWord ({ frames := 5, cells := 0, slots := 0, locals := 145 }) D y [.ref tx, .ref (aK 2)] [(tx, .inr (7, [.ref bys, .int (nI ln), .int tok, .int (nI sta), .int (nI en), .int num, .ref wo, .ref fs, .ref sc, .int tfi, .int tgl, .int tst])), (bys, .inl (y 1, 150, .inl fby))] aK aV (fun (r : Int32) (u : Unit) => (ks_e2 fby sta en = true ∧ r = 1) ∨ (¬ ks_e2 fby sta en = true ∧ r = 0)) (fun _ => [(tx, .inr (7, [.ref bys, .int (nI ln), .int tok, .int (nI sta), .int (nI en), .int num, .ref wo, .ref fs, .ref sc, .int tfi, .int tgl, .int tst])), (bys, .inl (y 1, 150, .inl fby))]) 0 0 := by
  refine kz_Mi.of (cc := cX7_isWord) (maxL := 3) (ret := (some .boolean)) (by decide) rfl ?_
  intro pZ eZ s mZ beZ meZ cZ A hE
  obtain ⟨hx, hb, hr, hml, hts, hown, hlocks, hin, hA, hP, hD, hK, hN, hZ⟩ := hE
  have hS : va_S A s.heap s.heap [] := va_S.rf
  have hl := lv_entry ([.ref tx, .ref (aK 2)]) (n := 3) (Nat.le_of_ble_eq_true rfl)
  rw [lg_entry_eq]
  generalize (lg_sl ([.ref tx, .ref (aK 2)]) ++ List.replicate (3 - (lg_sl ([.ref tx, .ref (aK 2)])).length) Slot.unset).toArray = ls at hl ⊢
  have hl : lv_has ls 3 [(0, .ref tx), (1, .ref (aK 2))] := hl
  have fw1 := hts (.fieldLink RX7 29 "GleanDusk$Text" "end" "I") (List.mem_of_getElem? (i := 1) rfl)
  have fw2 := hts (.fieldLink RX7 51 "GleanDusk$Text" "start" "I") (List.mem_of_getElem? (i := 2) rfl)
  have fw3 := hts (.fieldLink RX7 9 "GleanDusk$Text" "bytes" "[B") (List.mem_of_getElem? (i := 3) rfl)
  have iw7 : ∀ w ∈ wsX70, w ∈ wsX7_isWord := fun _ h => List.mem_cons_of_mem _ (List.mem_append_right _ h)
  refine lv_aload_n hx hb dX7_isWord_0 rfl (lv_at hl 0 rfl) ?_
  refine va_get (D := D) (ci := 7) (v := .int (nI en)) (C := RX7) (T := TX7) (N := 12) hx hb hts iw7 hown hK hP 0 rfl rfl 4 (by decide) fw1 (fun _ h9 => h9) rfl dX7_isWord_1 ?_
  refine lv_aload_n hx hb dX7_isWord_4 rfl (lv_at hl 0 rfl) ?_
  refine va_get (D := D) (ci := 7) (v := .int (nI sta)) (C := RX7) (T := TX7) (N := 12) hx hb hts iw7 hown hK hP 0 rfl rfl 3 (by decide) fw2 (fun _ h9 => h9) rfl dX7_isWord_5 ?_
  refine lv_isub hx hb dX7_isWord_8 ?_
  rw [show (nI en) - (nI sta) = nI (en - sta) from pk_sub (a := en) (b := sta) (by omega)]
  refine lv_aload_n hx hb dX7_isWord_9 rfl (lv_at hl 1 rfl) ?_
  have hs1 : kw_Split [(tx, .inr (7, [.ref bys, .int (nI ln), .int tok, .int (nI sta), .int (nI en), .int num, .ref wo, .ref fs, .ref sc, .int tfi, .int tgl, .int tst])), (bys, .inl (y 1, 150, .inl fby))] [] [(tx, .inr (7, [.ref bys, .int (nI ln), .int tok, .int (nI sta), .int (nI en), .int num, .ref wo, .ref fs, .ref sc, .int tfi, .int tgl, .int tst])), (bys, .inl (y 1, 150, .inl fby))] [] [0, 1] := ⟨rfl, rfl, rfl, rfl, rfl, by decide⟩
  refine kw_go_i hs1 hP hD hS hA (va_runV (As := []) (rest := [.int (nI (en - sta))]) ⟨hx, hb, hml, hown, hts⟩ (gj_length2 l D y aK aV  _) (cwV 0 hts gX7_isWord_J0_length_8abf5 rfl rfl rfl (by decide +kernel) ⟨Nat.le_of_ble_eq_true rfl, Nat.le_of_ble_eq_true rfl⟩) (kz_PreK (i := 2) hs1 hP hD hK hN (by decide) hZ hS hA) rfl rfl hl.1 rfl (lv_room (Nat.le_of_ble_eq_true rfl)) dX7_isWord_10 ⟨Nat.le_of_ble_eq_true rfl, Nat.le_of_ble_eq_true rfl⟩) (fun r2 u3 H locs hq hP hD hS => ?_)
  obtain rfl := hq
  have hP : va_P D vwCl [(tx, .inr (7, [.ref bys, .int (nI ln), .int tok, .int (nI sta), .int (nI en), .int num, .ref wo, .ref fs, .ref sc, .int tfi, .int tgl, .int tst])), (bys, .inl (y 1, 150, .inl fby))] H := hP
  have hD : va_D A [(tx, .inr (7, [.ref bys, .int (nI ln), .int tok, .int (nI sta), .int (nI en), .int num, .ref wo, .ref fs, .ref sc, .int tfi, .int tgl, .int tst])), (bys, .inl (y 1, 150, .inl fby))] := hD
  refine lv_icmp_eq (tgt := 18) hx hb dX7_isWord_13 (by decide) (fun h4 => ?_) (fun h5 => ?_)
  · skip
    have h4 : (en - sta) = 7 := (nI_eq (a := (en - sta)) (b := 7) (by omega) (by omega)).mp h4
    refine lv_iconst (v := 0) hx hb dX7_isWord_18 (by decide) ?_
    refine lv_istore_n (lv' := [(2, .int 0), (0, .ref tx), (1, .ref (aK 2))]) hx hb dX7_isWord_19 rfl hl (by decide) rfl (fun ls hl => ?_)
    refine lv_iload_n hx hb dX7_isWord_20 rfl (lv_at hl 0 rfl) ?_
    refine lv_aload_n hx hb dX7_isWord_21 rfl (lv_at hl 2 rfl) ?_
    have hs6 : kw_Split [(tx, .inr (7, [.ref bys, .int (nI ln), .int tok, .int (nI sta), .int (nI en), .int num, .ref wo, .ref fs, .ref sc, .int tfi, .int tgl, .int tst])), (bys, .inl (y 1, 150, .inl fby))] [] [(tx, .inr (7, [.ref bys, .int (nI ln), .int tok, .int (nI sta), .int (nI en), .int num, .ref wo, .ref fs, .ref sc, .int tfi, .int tgl, .int tst])), (bys, .inl (y 1, 150, .inl fby))] [] [0, 1] := ⟨rfl, rfl, rfl, rfl, rfl, by decide⟩
    refine kw_go_i hs6 hP hD hS hA (va_runV (As := []) (rest := [.int 0]) ⟨hx, hb, hml, hown, hts⟩ (gj_length2 l D y aK aV  _) (cwV 0 hts gX7_isWord_J0_length_8abf5 rfl rfl rfl (by decide +kernel) ⟨Nat.le_of_ble_eq_true rfl, Nat.le_of_ble_eq_true rfl⟩) (kz_PreK (i := 2) hs6 hP hD hK hN (by decide) hZ hS hA) rfl rfl hl.1 rfl (lv_room (Nat.le_of_ble_eq_true rfl)) dX7_isWord_22 ⟨Nat.le_of_ble_eq_true rfl, Nat.le_of_ble_eq_true rfl⟩) (fun r7 u8 H locs hq hP hD hS => ?_)
    obtain rfl := hq
    have hP : va_P D vwCl [(tx, .inr (7, [.ref bys, .int (nI ln), .int tok, .int (nI sta), .int (nI en), .int num, .ref wo, .ref fs, .ref sc, .int tfi, .int tgl, .int tst])), (bys, .inl (y 1, 150, .inl fby))] H := hP
    have hD : va_D A [(tx, .inr (7, [.ref bys, .int (nI ln), .int tok, .int (nI sta), .int (nI en), .int num, .ref wo, .ref fs, .ref sc, .int tfi, .int tgl, .int tst])), (bys, .inl (y 1, 150, .inl fby))] := hD
    refine lv_icmp_ge (tgt := 55) hx hb dX7_isWord_25 (by decide) (fun h9 => absurd h9 (by decide)) (fun _ => ?_)
    refine lv_aload_n hx hb dX7_isWord_28 rfl (lv_at hl 1 rfl) ?_
    refine va_get (D := D) (ci := 7) (v := .ref bys) (C := RX7) (T := TX7) (N := 12) hx hb hts iw7 hown hK hP 0 rfl rfl 0 (by decide) fw3 (fun _ h9 => h9) rfl dX7_isWord_29 ?_
    refine lv_aload_n hx hb dX7_isWord_32 rfl (lv_at hl 1 rfl) ?_
    refine va_get (D := D) (ci := 7) (v := .int (nI sta)) (C := RX7) (T := TX7) (N := 12) hx hb hts iw7 hown hK hP 0 rfl rfl 3 (by decide) fw2 (fun _ h9 => h9) rfl dX7_isWord_33 ?_
    refine lv_iload_n hx hb dX7_isWord_36 rfl (lv_at hl 0 rfl) ?_
    refine lv_iadd hx hb dX7_isWord_37 ?_
    rw [show (nI sta) + 0 = nI (sta) from nI_add sta 0]
    refine va_bald hx hb hK hP 1 1 rfl rfl (vp_in_nI (by omega) (by decide)) dX7_isWord_38 ?_
    rw [nI_clamp (n := sta) (by omega)]
    refine lv_aload_n hx hb dX7_isWord_39 rfl (lv_at hl 2 rfl) ?_
    refine lv_iload_n hx hb dX7_isWord_40 rfl (lv_at hl 0 rfl) ?_
    have hs9 : kw_Split [(tx, .inr (7, [.ref bys, .int (nI ln), .int tok, .int (nI sta), .int (nI en), .int num, .ref wo, .ref fs, .ref sc, .int tfi, .int tgl, .int tst])), (bys, .inl (y 1, 150, .inl fby))] [] [(tx, .inr (7, [.ref bys, .int (nI ln), .int tok, .int (nI sta), .int (nI en), .int num, .ref wo, .ref fs, .ref sc, .int tfi, .int tgl, .int tst])), (bys, .inl (y 1, 150, .inl fby))] [] [0, 1] := ⟨rfl, rfl, rfl, rfl, rfl, by decide⟩
    refine kw_go_i hs9 hP hD hS hA (va_runV (As := [.int 0]) (rest := [.int (fby sta)]) ⟨hx, hb, hml, hown, hts⟩ (gs_charAt2 l D y aK aV 0 (by omega) _) (cwV 1 hts gX7_isWord_J0_charAt_5068e rfl rfl rfl (by decide +kernel) ⟨Nat.le_of_ble_eq_true rfl, Nat.le_of_ble_eq_true rfl⟩) (kz_PreK (i := 2) hs9 hP hD hK hN (by decide) hZ hS hA) rfl rfl hl.1 rfl (lv_room (Nat.le_of_ble_eq_true rfl)) dX7_isWord_41 ⟨Nat.le_of_ble_eq_true rfl, Nat.le_of_ble_eq_true rfl⟩) (fun r10 u11 H locs hq hP hD hS => ?_)
    obtain rfl := hq
    rw [show kz_w 2 0 = 103 from rfl]
    have hP : va_P D vwCl [(tx, .inr (7, [.ref bys, .int (nI ln), .int tok, .int (nI sta), .int (nI en), .int num, .ref wo, .ref fs, .ref sc, .int tfi, .int tgl, .int tst])), (bys, .inl (y 1, 150, .inl fby))] H := hP
    have hD : va_D A [(tx, .inr (7, [.ref bys, .int (nI ln), .int tok, .int (nI sta), .int (nI en), .int num, .ref wo, .ref fs, .ref sc, .int tfi, .int tgl, .int tst])), (bys, .inl (y 1, 150, .inl fby))] := hD
    refine lv_icmp_eq (tgt := 49) hx hb dX7_isWord_44 (by decide) (fun h12 => ?_) (fun h13 => ?_)
    · skip
      refine lv_iinc (v := 1) (lv' := [(2, .int 1), (0, .ref tx), (1, .ref (aK 2))]) hx hb dX7_isWord_49 hl (k := 0) rfl (by decide) (by decide) rfl (fun ls hl => ?_)
      refine lv_goto (tgt := 20) hx hb dX7_isWord_52 (by decide) ?_
      refine lv_iload_n hx hb dX7_isWord_20 rfl (lv_at hl 0 rfl) ?_
      refine lv_aload_n hx hb dX7_isWord_21 rfl (lv_at hl 2 rfl) ?_
      have hs14 : kw_Split [(tx, .inr (7, [.ref bys, .int (nI ln), .int tok, .int (nI sta), .int (nI en), .int num, .ref wo, .ref fs, .ref sc, .int tfi, .int tgl, .int tst])), (bys, .inl (y 1, 150, .inl fby))] [] [(tx, .inr (7, [.ref bys, .int (nI ln), .int tok, .int (nI sta), .int (nI en), .int num, .ref wo, .ref fs, .ref sc, .int tfi, .int tgl, .int tst])), (bys, .inl (y 1, 150, .inl fby))] [] [0, 1] := ⟨rfl, rfl, rfl, rfl, rfl, by decide⟩
      refine kw_go_i hs14 hP hD hS hA (va_runV (As := []) (rest := [.int 1]) ⟨hx, hb, hml, hown, hts⟩ (gj_length2 l D y aK aV  _) (cwV 0 hts gX7_isWord_J0_length_8abf5 rfl rfl rfl (by decide +kernel) ⟨Nat.le_of_ble_eq_true rfl, Nat.le_of_ble_eq_true rfl⟩) (kz_PreK (i := 2) hs14 hP hD hK hN (by decide) hZ hS hA) rfl rfl hl.1 rfl (lv_room (Nat.le_of_ble_eq_true rfl)) dX7_isWord_22 ⟨Nat.le_of_ble_eq_true rfl, Nat.le_of_ble_eq_true rfl⟩) (fun r15 u16 H locs hq hP hD hS => ?_)
      obtain rfl := hq
      have hP : va_P D vwCl [(tx, .inr (7, [.ref bys, .int (nI ln), .int tok, .int (nI sta), .int (nI en), .int num, .ref wo, .ref fs, .ref sc, .int tfi, .int tgl, .int tst])), (bys, .inl (y 1, 150, .inl fby))] H := hP
      have hD : va_D A [(tx, .inr (7, [.ref bys, .int (nI ln), .int tok, .int (nI sta), .int (nI en), .int num, .ref wo, .ref fs, .ref sc, .int tfi, .int tgl, .int tst])), (bys, .inl (y 1, 150, .inl fby))] := hD
      refine lv_icmp_ge (tgt := 55) hx hb dX7_isWord_25 (by decide) (fun h9 => absurd h9 (by decide)) (fun _ => ?_)
      refine lv_aload_n hx hb dX7_isWord_28 rfl (lv_at hl 1 rfl) ?_
      refine va_get (D := D) (ci := 7) (v := .ref bys) (C := RX7) (T := TX7) (N := 12) hx hb hts iw7 hown hK hP 0 rfl rfl 0 (by decide) fw3 (fun _ h9 => h9) rfl dX7_isWord_29 ?_
      refine lv_aload_n hx hb dX7_isWord_32 rfl (lv_at hl 1 rfl) ?_
      refine va_get (D := D) (ci := 7) (v := .int (nI sta)) (C := RX7) (T := TX7) (N := 12) hx hb hts iw7 hown hK hP 0 rfl rfl 3 (by decide) fw2 (fun _ h9 => h9) rfl dX7_isWord_33 ?_
      refine lv_iload_n hx hb dX7_isWord_36 rfl (lv_at hl 0 rfl) ?_
      refine lv_iadd hx hb dX7_isWord_37 ?_
      rw [show (nI sta) + 1 = nI (sta + 1) from nI_add sta 1]
      refine va_bald hx hb hK hP 1 1 rfl rfl (vp_in_nI (by omega) (by decide)) dX7_isWord_38 ?_
      rw [nI_clamp (n := (sta + 1)) (by omega)]
      refine lv_aload_n hx hb dX7_isWord_39 rfl (lv_at hl 2 rfl) ?_
      refine lv_iload_n hx hb dX7_isWord_40 rfl (lv_at hl 0 rfl) ?_
      have hs17 : kw_Split [(tx, .inr (7, [.ref bys, .int (nI ln), .int tok, .int (nI sta), .int (nI en), .int num, .ref wo, .ref fs, .ref sc, .int tfi, .int tgl, .int tst])), (bys, .inl (y 1, 150, .inl fby))] [] [(tx, .inr (7, [.ref bys, .int (nI ln), .int tok, .int (nI sta), .int (nI en), .int num, .ref wo, .ref fs, .ref sc, .int tfi, .int tgl, .int tst])), (bys, .inl (y 1, 150, .inl fby))] [] [0, 1] := ⟨rfl, rfl, rfl, rfl, rfl, by decide⟩
      refine kw_go_i hs17 hP hD hS hA (va_runV (As := [.int 1]) (rest := [.int (fby (sta + 1))]) ⟨hx, hb, hml, hown, hts⟩ (gs_charAt2 l D y aK aV 1 (by omega) _) (cwV 1 hts gX7_isWord_J0_charAt_5068e rfl rfl rfl (by decide +kernel) ⟨Nat.le_of_ble_eq_true rfl, Nat.le_of_ble_eq_true rfl⟩) (kz_PreK (i := 2) hs17 hP hD hK hN (by decide) hZ hS hA) rfl rfl hl.1 rfl (lv_room (Nat.le_of_ble_eq_true rfl)) dX7_isWord_41 ⟨Nat.le_of_ble_eq_true rfl, Nat.le_of_ble_eq_true rfl⟩) (fun r18 u19 H locs hq hP hD hS => ?_)
      obtain rfl := hq
      rw [show kz_w 2 1 = 108 from rfl]
      have hP : va_P D vwCl [(tx, .inr (7, [.ref bys, .int (nI ln), .int tok, .int (nI sta), .int (nI en), .int num, .ref wo, .ref fs, .ref sc, .int tfi, .int tgl, .int tst])), (bys, .inl (y 1, 150, .inl fby))] H := hP
      have hD : va_D A [(tx, .inr (7, [.ref bys, .int (nI ln), .int tok, .int (nI sta), .int (nI en), .int num, .ref wo, .ref fs, .ref sc, .int tfi, .int tgl, .int tst])), (bys, .inl (y 1, 150, .inl fby))] := hD
      refine lv_icmp_eq (tgt := 49) hx hb dX7_isWord_44 (by decide) (fun h20 => ?_) (fun h21 => ?_)
      · skip
        refine lv_iinc (v := 2) (lv' := [(2, .int 2), (0, .ref tx), (1, .ref (aK 2))]) hx hb dX7_isWord_49 hl (k := 0) rfl (by decide) (by decide) rfl (fun ls hl => ?_)
        refine lv_goto (tgt := 20) hx hb dX7_isWord_52 (by decide) ?_
        refine lv_iload_n hx hb dX7_isWord_20 rfl (lv_at hl 0 rfl) ?_
        refine lv_aload_n hx hb dX7_isWord_21 rfl (lv_at hl 2 rfl) ?_
        have hs22 : kw_Split [(tx, .inr (7, [.ref bys, .int (nI ln), .int tok, .int (nI sta), .int (nI en), .int num, .ref wo, .ref fs, .ref sc, .int tfi, .int tgl, .int tst])), (bys, .inl (y 1, 150, .inl fby))] [] [(tx, .inr (7, [.ref bys, .int (nI ln), .int tok, .int (nI sta), .int (nI en), .int num, .ref wo, .ref fs, .ref sc, .int tfi, .int tgl, .int tst])), (bys, .inl (y 1, 150, .inl fby))] [] [0, 1] := ⟨rfl, rfl, rfl, rfl, rfl, by decide⟩
        refine kw_go_i hs22 hP hD hS hA (va_runV (As := []) (rest := [.int 2]) ⟨hx, hb, hml, hown, hts⟩ (gj_length2 l D y aK aV  _) (cwV 0 hts gX7_isWord_J0_length_8abf5 rfl rfl rfl (by decide +kernel) ⟨Nat.le_of_ble_eq_true rfl, Nat.le_of_ble_eq_true rfl⟩) (kz_PreK (i := 2) hs22 hP hD hK hN (by decide) hZ hS hA) rfl rfl hl.1 rfl (lv_room (Nat.le_of_ble_eq_true rfl)) dX7_isWord_22 ⟨Nat.le_of_ble_eq_true rfl, Nat.le_of_ble_eq_true rfl⟩) (fun r23 u24 H locs hq hP hD hS => ?_)
        obtain rfl := hq
        have hP : va_P D vwCl [(tx, .inr (7, [.ref bys, .int (nI ln), .int tok, .int (nI sta), .int (nI en), .int num, .ref wo, .ref fs, .ref sc, .int tfi, .int tgl, .int tst])), (bys, .inl (y 1, 150, .inl fby))] H := hP
        have hD : va_D A [(tx, .inr (7, [.ref bys, .int (nI ln), .int tok, .int (nI sta), .int (nI en), .int num, .ref wo, .ref fs, .ref sc, .int tfi, .int tgl, .int tst])), (bys, .inl (y 1, 150, .inl fby))] := hD
        refine lv_icmp_ge (tgt := 55) hx hb dX7_isWord_25 (by decide) (fun h9 => absurd h9 (by decide)) (fun _ => ?_)
        refine lv_aload_n hx hb dX7_isWord_28 rfl (lv_at hl 1 rfl) ?_
        refine va_get (D := D) (ci := 7) (v := .ref bys) (C := RX7) (T := TX7) (N := 12) hx hb hts iw7 hown hK hP 0 rfl rfl 0 (by decide) fw3 (fun _ h9 => h9) rfl dX7_isWord_29 ?_
        refine lv_aload_n hx hb dX7_isWord_32 rfl (lv_at hl 1 rfl) ?_
        refine va_get (D := D) (ci := 7) (v := .int (nI sta)) (C := RX7) (T := TX7) (N := 12) hx hb hts iw7 hown hK hP 0 rfl rfl 3 (by decide) fw2 (fun _ h9 => h9) rfl dX7_isWord_33 ?_
        refine lv_iload_n hx hb dX7_isWord_36 rfl (lv_at hl 0 rfl) ?_
        refine lv_iadd hx hb dX7_isWord_37 ?_
        rw [show (nI sta) + 2 = nI (sta + 2) from nI_add sta 2]
        refine va_bald hx hb hK hP 1 1 rfl rfl (vp_in_nI (by omega) (by decide)) dX7_isWord_38 ?_
        rw [nI_clamp (n := (sta + 2)) (by omega)]
        refine lv_aload_n hx hb dX7_isWord_39 rfl (lv_at hl 2 rfl) ?_
        refine lv_iload_n hx hb dX7_isWord_40 rfl (lv_at hl 0 rfl) ?_
        have hs25 : kw_Split [(tx, .inr (7, [.ref bys, .int (nI ln), .int tok, .int (nI sta), .int (nI en), .int num, .ref wo, .ref fs, .ref sc, .int tfi, .int tgl, .int tst])), (bys, .inl (y 1, 150, .inl fby))] [] [(tx, .inr (7, [.ref bys, .int (nI ln), .int tok, .int (nI sta), .int (nI en), .int num, .ref wo, .ref fs, .ref sc, .int tfi, .int tgl, .int tst])), (bys, .inl (y 1, 150, .inl fby))] [] [0, 1] := ⟨rfl, rfl, rfl, rfl, rfl, by decide⟩
        refine kw_go_i hs25 hP hD hS hA (va_runV (As := [.int 2]) (rest := [.int (fby (sta + 2))]) ⟨hx, hb, hml, hown, hts⟩ (gs_charAt2 l D y aK aV 2 (by omega) _) (cwV 1 hts gX7_isWord_J0_charAt_5068e rfl rfl rfl (by decide +kernel) ⟨Nat.le_of_ble_eq_true rfl, Nat.le_of_ble_eq_true rfl⟩) (kz_PreK (i := 2) hs25 hP hD hK hN (by decide) hZ hS hA) rfl rfl hl.1 rfl (lv_room (Nat.le_of_ble_eq_true rfl)) dX7_isWord_41 ⟨Nat.le_of_ble_eq_true rfl, Nat.le_of_ble_eq_true rfl⟩) (fun r26 u27 H locs hq hP hD hS => ?_)
        obtain rfl := hq
        rw [show kz_w 2 2 = 101 from rfl]
        have hP : va_P D vwCl [(tx, .inr (7, [.ref bys, .int (nI ln), .int tok, .int (nI sta), .int (nI en), .int num, .ref wo, .ref fs, .ref sc, .int tfi, .int tgl, .int tst])), (bys, .inl (y 1, 150, .inl fby))] H := hP
        have hD : va_D A [(tx, .inr (7, [.ref bys, .int (nI ln), .int tok, .int (nI sta), .int (nI en), .int num, .ref wo, .ref fs, .ref sc, .int tfi, .int tgl, .int tst])), (bys, .inl (y 1, 150, .inl fby))] := hD
        refine lv_icmp_eq (tgt := 49) hx hb dX7_isWord_44 (by decide) (fun h28 => ?_) (fun h29 => ?_)
        · skip
          refine lv_iinc (v := 3) (lv' := [(2, .int 3), (0, .ref tx), (1, .ref (aK 2))]) hx hb dX7_isWord_49 hl (k := 0) rfl (by decide) (by decide) rfl (fun ls hl => ?_)
          refine lv_goto (tgt := 20) hx hb dX7_isWord_52 (by decide) ?_
          refine lv_iload_n hx hb dX7_isWord_20 rfl (lv_at hl 0 rfl) ?_
          refine lv_aload_n hx hb dX7_isWord_21 rfl (lv_at hl 2 rfl) ?_
          have hs30 : kw_Split [(tx, .inr (7, [.ref bys, .int (nI ln), .int tok, .int (nI sta), .int (nI en), .int num, .ref wo, .ref fs, .ref sc, .int tfi, .int tgl, .int tst])), (bys, .inl (y 1, 150, .inl fby))] [] [(tx, .inr (7, [.ref bys, .int (nI ln), .int tok, .int (nI sta), .int (nI en), .int num, .ref wo, .ref fs, .ref sc, .int tfi, .int tgl, .int tst])), (bys, .inl (y 1, 150, .inl fby))] [] [0, 1] := ⟨rfl, rfl, rfl, rfl, rfl, by decide⟩
          refine kw_go_i hs30 hP hD hS hA (va_runV (As := []) (rest := [.int 3]) ⟨hx, hb, hml, hown, hts⟩ (gj_length2 l D y aK aV  _) (cwV 0 hts gX7_isWord_J0_length_8abf5 rfl rfl rfl (by decide +kernel) ⟨Nat.le_of_ble_eq_true rfl, Nat.le_of_ble_eq_true rfl⟩) (kz_PreK (i := 2) hs30 hP hD hK hN (by decide) hZ hS hA) rfl rfl hl.1 rfl (lv_room (Nat.le_of_ble_eq_true rfl)) dX7_isWord_22 ⟨Nat.le_of_ble_eq_true rfl, Nat.le_of_ble_eq_true rfl⟩) (fun r31 u32 H locs hq hP hD hS => ?_)
          obtain rfl := hq
          have hP : va_P D vwCl [(tx, .inr (7, [.ref bys, .int (nI ln), .int tok, .int (nI sta), .int (nI en), .int num, .ref wo, .ref fs, .ref sc, .int tfi, .int tgl, .int tst])), (bys, .inl (y 1, 150, .inl fby))] H := hP
          have hD : va_D A [(tx, .inr (7, [.ref bys, .int (nI ln), .int tok, .int (nI sta), .int (nI en), .int num, .ref wo, .ref fs, .ref sc, .int tfi, .int tgl, .int tst])), (bys, .inl (y 1, 150, .inl fby))] := hD
          refine lv_icmp_ge (tgt := 55) hx hb dX7_isWord_25 (by decide) (fun h9 => absurd h9 (by decide)) (fun _ => ?_)
          refine lv_aload_n hx hb dX7_isWord_28 rfl (lv_at hl 1 rfl) ?_
          refine va_get (D := D) (ci := 7) (v := .ref bys) (C := RX7) (T := TX7) (N := 12) hx hb hts iw7 hown hK hP 0 rfl rfl 0 (by decide) fw3 (fun _ h9 => h9) rfl dX7_isWord_29 ?_
          refine lv_aload_n hx hb dX7_isWord_32 rfl (lv_at hl 1 rfl) ?_
          refine va_get (D := D) (ci := 7) (v := .int (nI sta)) (C := RX7) (T := TX7) (N := 12) hx hb hts iw7 hown hK hP 0 rfl rfl 3 (by decide) fw2 (fun _ h9 => h9) rfl dX7_isWord_33 ?_
          refine lv_iload_n hx hb dX7_isWord_36 rfl (lv_at hl 0 rfl) ?_
          refine lv_iadd hx hb dX7_isWord_37 ?_
          rw [show (nI sta) + 3 = nI (sta + 3) from nI_add sta 3]
          refine va_bald hx hb hK hP 1 1 rfl rfl (vp_in_nI (by omega) (by decide)) dX7_isWord_38 ?_
          rw [nI_clamp (n := (sta + 3)) (by omega)]
          refine lv_aload_n hx hb dX7_isWord_39 rfl (lv_at hl 2 rfl) ?_
          refine lv_iload_n hx hb dX7_isWord_40 rfl (lv_at hl 0 rfl) ?_
          have hs33 : kw_Split [(tx, .inr (7, [.ref bys, .int (nI ln), .int tok, .int (nI sta), .int (nI en), .int num, .ref wo, .ref fs, .ref sc, .int tfi, .int tgl, .int tst])), (bys, .inl (y 1, 150, .inl fby))] [] [(tx, .inr (7, [.ref bys, .int (nI ln), .int tok, .int (nI sta), .int (nI en), .int num, .ref wo, .ref fs, .ref sc, .int tfi, .int tgl, .int tst])), (bys, .inl (y 1, 150, .inl fby))] [] [0, 1] := ⟨rfl, rfl, rfl, rfl, rfl, by decide⟩
          refine kw_go_i hs33 hP hD hS hA (va_runV (As := [.int 3]) (rest := [.int (fby (sta + 3))]) ⟨hx, hb, hml, hown, hts⟩ (gs_charAt2 l D y aK aV 3 (by omega) _) (cwV 1 hts gX7_isWord_J0_charAt_5068e rfl rfl rfl (by decide +kernel) ⟨Nat.le_of_ble_eq_true rfl, Nat.le_of_ble_eq_true rfl⟩) (kz_PreK (i := 2) hs33 hP hD hK hN (by decide) hZ hS hA) rfl rfl hl.1 rfl (lv_room (Nat.le_of_ble_eq_true rfl)) dX7_isWord_41 ⟨Nat.le_of_ble_eq_true rfl, Nat.le_of_ble_eq_true rfl⟩) (fun r34 u35 H locs hq hP hD hS => ?_)
          obtain rfl := hq
          rw [show kz_w 2 3 = 97 from rfl]
          have hP : va_P D vwCl [(tx, .inr (7, [.ref bys, .int (nI ln), .int tok, .int (nI sta), .int (nI en), .int num, .ref wo, .ref fs, .ref sc, .int tfi, .int tgl, .int tst])), (bys, .inl (y 1, 150, .inl fby))] H := hP
          have hD : va_D A [(tx, .inr (7, [.ref bys, .int (nI ln), .int tok, .int (nI sta), .int (nI en), .int num, .ref wo, .ref fs, .ref sc, .int tfi, .int tgl, .int tst])), (bys, .inl (y 1, 150, .inl fby))] := hD
          refine lv_icmp_eq (tgt := 49) hx hb dX7_isWord_44 (by decide) (fun h36 => ?_) (fun h37 => ?_)
          · skip
            refine lv_iinc (v := 4) (lv' := [(2, .int 4), (0, .ref tx), (1, .ref (aK 2))]) hx hb dX7_isWord_49 hl (k := 0) rfl (by decide) (by decide) rfl (fun ls hl => ?_)
            refine lv_goto (tgt := 20) hx hb dX7_isWord_52 (by decide) ?_
            refine lv_iload_n hx hb dX7_isWord_20 rfl (lv_at hl 0 rfl) ?_
            refine lv_aload_n hx hb dX7_isWord_21 rfl (lv_at hl 2 rfl) ?_
            have hs38 : kw_Split [(tx, .inr (7, [.ref bys, .int (nI ln), .int tok, .int (nI sta), .int (nI en), .int num, .ref wo, .ref fs, .ref sc, .int tfi, .int tgl, .int tst])), (bys, .inl (y 1, 150, .inl fby))] [] [(tx, .inr (7, [.ref bys, .int (nI ln), .int tok, .int (nI sta), .int (nI en), .int num, .ref wo, .ref fs, .ref sc, .int tfi, .int tgl, .int tst])), (bys, .inl (y 1, 150, .inl fby))] [] [0, 1] := ⟨rfl, rfl, rfl, rfl, rfl, by decide⟩
            refine kw_go_i hs38 hP hD hS hA (va_runV (As := []) (rest := [.int 4]) ⟨hx, hb, hml, hown, hts⟩ (gj_length2 l D y aK aV  _) (cwV 0 hts gX7_isWord_J0_length_8abf5 rfl rfl rfl (by decide +kernel) ⟨Nat.le_of_ble_eq_true rfl, Nat.le_of_ble_eq_true rfl⟩) (kz_PreK (i := 2) hs38 hP hD hK hN (by decide) hZ hS hA) rfl rfl hl.1 rfl (lv_room (Nat.le_of_ble_eq_true rfl)) dX7_isWord_22 ⟨Nat.le_of_ble_eq_true rfl, Nat.le_of_ble_eq_true rfl⟩) (fun r39 u40 H locs hq hP hD hS => ?_)
            obtain rfl := hq
            have hP : va_P D vwCl [(tx, .inr (7, [.ref bys, .int (nI ln), .int tok, .int (nI sta), .int (nI en), .int num, .ref wo, .ref fs, .ref sc, .int tfi, .int tgl, .int tst])), (bys, .inl (y 1, 150, .inl fby))] H := hP
            have hD : va_D A [(tx, .inr (7, [.ref bys, .int (nI ln), .int tok, .int (nI sta), .int (nI en), .int num, .ref wo, .ref fs, .ref sc, .int tfi, .int tgl, .int tst])), (bys, .inl (y 1, 150, .inl fby))] := hD
            refine lv_icmp_ge (tgt := 55) hx hb dX7_isWord_25 (by decide) (fun h9 => absurd h9 (by decide)) (fun _ => ?_)
            refine lv_aload_n hx hb dX7_isWord_28 rfl (lv_at hl 1 rfl) ?_
            refine va_get (D := D) (ci := 7) (v := .ref bys) (C := RX7) (T := TX7) (N := 12) hx hb hts iw7 hown hK hP 0 rfl rfl 0 (by decide) fw3 (fun _ h9 => h9) rfl dX7_isWord_29 ?_
            refine lv_aload_n hx hb dX7_isWord_32 rfl (lv_at hl 1 rfl) ?_
            refine va_get (D := D) (ci := 7) (v := .int (nI sta)) (C := RX7) (T := TX7) (N := 12) hx hb hts iw7 hown hK hP 0 rfl rfl 3 (by decide) fw2 (fun _ h9 => h9) rfl dX7_isWord_33 ?_
            refine lv_iload_n hx hb dX7_isWord_36 rfl (lv_at hl 0 rfl) ?_
            refine lv_iadd hx hb dX7_isWord_37 ?_
            rw [show (nI sta) + 4 = nI (sta + 4) from nI_add sta 4]
            refine va_bald hx hb hK hP 1 1 rfl rfl (vp_in_nI (by omega) (by decide)) dX7_isWord_38 ?_
            rw [nI_clamp (n := (sta + 4)) (by omega)]
            refine lv_aload_n hx hb dX7_isWord_39 rfl (lv_at hl 2 rfl) ?_
            refine lv_iload_n hx hb dX7_isWord_40 rfl (lv_at hl 0 rfl) ?_
            have hs41 : kw_Split [(tx, .inr (7, [.ref bys, .int (nI ln), .int tok, .int (nI sta), .int (nI en), .int num, .ref wo, .ref fs, .ref sc, .int tfi, .int tgl, .int tst])), (bys, .inl (y 1, 150, .inl fby))] [] [(tx, .inr (7, [.ref bys, .int (nI ln), .int tok, .int (nI sta), .int (nI en), .int num, .ref wo, .ref fs, .ref sc, .int tfi, .int tgl, .int tst])), (bys, .inl (y 1, 150, .inl fby))] [] [0, 1] := ⟨rfl, rfl, rfl, rfl, rfl, by decide⟩
            refine kw_go_i hs41 hP hD hS hA (va_runV (As := [.int 4]) (rest := [.int (fby (sta + 4))]) ⟨hx, hb, hml, hown, hts⟩ (gs_charAt2 l D y aK aV 4 (by omega) _) (cwV 1 hts gX7_isWord_J0_charAt_5068e rfl rfl rfl (by decide +kernel) ⟨Nat.le_of_ble_eq_true rfl, Nat.le_of_ble_eq_true rfl⟩) (kz_PreK (i := 2) hs41 hP hD hK hN (by decide) hZ hS hA) rfl rfl hl.1 rfl (lv_room (Nat.le_of_ble_eq_true rfl)) dX7_isWord_41 ⟨Nat.le_of_ble_eq_true rfl, Nat.le_of_ble_eq_true rfl⟩) (fun r42 u43 H locs hq hP hD hS => ?_)
            obtain rfl := hq
            rw [show kz_w 2 4 = 110 from rfl]
            have hP : va_P D vwCl [(tx, .inr (7, [.ref bys, .int (nI ln), .int tok, .int (nI sta), .int (nI en), .int num, .ref wo, .ref fs, .ref sc, .int tfi, .int tgl, .int tst])), (bys, .inl (y 1, 150, .inl fby))] H := hP
            have hD : va_D A [(tx, .inr (7, [.ref bys, .int (nI ln), .int tok, .int (nI sta), .int (nI en), .int num, .ref wo, .ref fs, .ref sc, .int tfi, .int tgl, .int tst])), (bys, .inl (y 1, 150, .inl fby))] := hD
            refine lv_icmp_eq (tgt := 49) hx hb dX7_isWord_44 (by decide) (fun h44 => ?_) (fun h45 => ?_)
            · skip
              refine lv_iinc (v := 5) (lv' := [(2, .int 5), (0, .ref tx), (1, .ref (aK 2))]) hx hb dX7_isWord_49 hl (k := 0) rfl (by decide) (by decide) rfl (fun ls hl => ?_)
              refine lv_goto (tgt := 20) hx hb dX7_isWord_52 (by decide) ?_
              refine lv_iload_n hx hb dX7_isWord_20 rfl (lv_at hl 0 rfl) ?_
              refine lv_aload_n hx hb dX7_isWord_21 rfl (lv_at hl 2 rfl) ?_
              have hs46 : kw_Split [(tx, .inr (7, [.ref bys, .int (nI ln), .int tok, .int (nI sta), .int (nI en), .int num, .ref wo, .ref fs, .ref sc, .int tfi, .int tgl, .int tst])), (bys, .inl (y 1, 150, .inl fby))] [] [(tx, .inr (7, [.ref bys, .int (nI ln), .int tok, .int (nI sta), .int (nI en), .int num, .ref wo, .ref fs, .ref sc, .int tfi, .int tgl, .int tst])), (bys, .inl (y 1, 150, .inl fby))] [] [0, 1] := ⟨rfl, rfl, rfl, rfl, rfl, by decide⟩
              refine kw_go_i hs46 hP hD hS hA (va_runV (As := []) (rest := [.int 5]) ⟨hx, hb, hml, hown, hts⟩ (gj_length2 l D y aK aV  _) (cwV 0 hts gX7_isWord_J0_length_8abf5 rfl rfl rfl (by decide +kernel) ⟨Nat.le_of_ble_eq_true rfl, Nat.le_of_ble_eq_true rfl⟩) (kz_PreK (i := 2) hs46 hP hD hK hN (by decide) hZ hS hA) rfl rfl hl.1 rfl (lv_room (Nat.le_of_ble_eq_true rfl)) dX7_isWord_22 ⟨Nat.le_of_ble_eq_true rfl, Nat.le_of_ble_eq_true rfl⟩) (fun r47 u48 H locs hq hP hD hS => ?_)
              obtain rfl := hq
              have hP : va_P D vwCl [(tx, .inr (7, [.ref bys, .int (nI ln), .int tok, .int (nI sta), .int (nI en), .int num, .ref wo, .ref fs, .ref sc, .int tfi, .int tgl, .int tst])), (bys, .inl (y 1, 150, .inl fby))] H := hP
              have hD : va_D A [(tx, .inr (7, [.ref bys, .int (nI ln), .int tok, .int (nI sta), .int (nI en), .int num, .ref wo, .ref fs, .ref sc, .int tfi, .int tgl, .int tst])), (bys, .inl (y 1, 150, .inl fby))] := hD
              refine lv_icmp_ge (tgt := 55) hx hb dX7_isWord_25 (by decide) (fun h9 => absurd h9 (by decide)) (fun _ => ?_)
              refine lv_aload_n hx hb dX7_isWord_28 rfl (lv_at hl 1 rfl) ?_
              refine va_get (D := D) (ci := 7) (v := .ref bys) (C := RX7) (T := TX7) (N := 12) hx hb hts iw7 hown hK hP 0 rfl rfl 0 (by decide) fw3 (fun _ h9 => h9) rfl dX7_isWord_29 ?_
              refine lv_aload_n hx hb dX7_isWord_32 rfl (lv_at hl 1 rfl) ?_
              refine va_get (D := D) (ci := 7) (v := .int (nI sta)) (C := RX7) (T := TX7) (N := 12) hx hb hts iw7 hown hK hP 0 rfl rfl 3 (by decide) fw2 (fun _ h9 => h9) rfl dX7_isWord_33 ?_
              refine lv_iload_n hx hb dX7_isWord_36 rfl (lv_at hl 0 rfl) ?_
              refine lv_iadd hx hb dX7_isWord_37 ?_
              rw [show (nI sta) + 5 = nI (sta + 5) from nI_add sta 5]
              refine va_bald hx hb hK hP 1 1 rfl rfl (vp_in_nI (by omega) (by decide)) dX7_isWord_38 ?_
              rw [nI_clamp (n := (sta + 5)) (by omega)]
              refine lv_aload_n hx hb dX7_isWord_39 rfl (lv_at hl 2 rfl) ?_
              refine lv_iload_n hx hb dX7_isWord_40 rfl (lv_at hl 0 rfl) ?_
              have hs49 : kw_Split [(tx, .inr (7, [.ref bys, .int (nI ln), .int tok, .int (nI sta), .int (nI en), .int num, .ref wo, .ref fs, .ref sc, .int tfi, .int tgl, .int tst])), (bys, .inl (y 1, 150, .inl fby))] [] [(tx, .inr (7, [.ref bys, .int (nI ln), .int tok, .int (nI sta), .int (nI en), .int num, .ref wo, .ref fs, .ref sc, .int tfi, .int tgl, .int tst])), (bys, .inl (y 1, 150, .inl fby))] [] [0, 1] := ⟨rfl, rfl, rfl, rfl, rfl, by decide⟩
              refine kw_go_i hs49 hP hD hS hA (va_runV (As := [.int 5]) (rest := [.int (fby (sta + 5))]) ⟨hx, hb, hml, hown, hts⟩ (gs_charAt2 l D y aK aV 5 (by omega) _) (cwV 1 hts gX7_isWord_J0_charAt_5068e rfl rfl rfl (by decide +kernel) ⟨Nat.le_of_ble_eq_true rfl, Nat.le_of_ble_eq_true rfl⟩) (kz_PreK (i := 2) hs49 hP hD hK hN (by decide) hZ hS hA) rfl rfl hl.1 rfl (lv_room (Nat.le_of_ble_eq_true rfl)) dX7_isWord_41 ⟨Nat.le_of_ble_eq_true rfl, Nat.le_of_ble_eq_true rfl⟩) (fun r50 u51 H locs hq hP hD hS => ?_)
              obtain rfl := hq
              rw [show kz_w 2 5 = 101 from rfl]
              have hP : va_P D vwCl [(tx, .inr (7, [.ref bys, .int (nI ln), .int tok, .int (nI sta), .int (nI en), .int num, .ref wo, .ref fs, .ref sc, .int tfi, .int tgl, .int tst])), (bys, .inl (y 1, 150, .inl fby))] H := hP
              have hD : va_D A [(tx, .inr (7, [.ref bys, .int (nI ln), .int tok, .int (nI sta), .int (nI en), .int num, .ref wo, .ref fs, .ref sc, .int tfi, .int tgl, .int tst])), (bys, .inl (y 1, 150, .inl fby))] := hD
              refine lv_icmp_eq (tgt := 49) hx hb dX7_isWord_44 (by decide) (fun h52 => ?_) (fun h53 => ?_)
              · skip
                refine lv_iinc (v := 6) (lv' := [(2, .int 6), (0, .ref tx), (1, .ref (aK 2))]) hx hb dX7_isWord_49 hl (k := 0) rfl (by decide) (by decide) rfl (fun ls hl => ?_)
                refine lv_goto (tgt := 20) hx hb dX7_isWord_52 (by decide) ?_
                refine lv_iload_n hx hb dX7_isWord_20 rfl (lv_at hl 0 rfl) ?_
                refine lv_aload_n hx hb dX7_isWord_21 rfl (lv_at hl 2 rfl) ?_
                have hs54 : kw_Split [(tx, .inr (7, [.ref bys, .int (nI ln), .int tok, .int (nI sta), .int (nI en), .int num, .ref wo, .ref fs, .ref sc, .int tfi, .int tgl, .int tst])), (bys, .inl (y 1, 150, .inl fby))] [] [(tx, .inr (7, [.ref bys, .int (nI ln), .int tok, .int (nI sta), .int (nI en), .int num, .ref wo, .ref fs, .ref sc, .int tfi, .int tgl, .int tst])), (bys, .inl (y 1, 150, .inl fby))] [] [0, 1] := ⟨rfl, rfl, rfl, rfl, rfl, by decide⟩
                refine kw_go_i hs54 hP hD hS hA (va_runV (As := []) (rest := [.int 6]) ⟨hx, hb, hml, hown, hts⟩ (gj_length2 l D y aK aV  _) (cwV 0 hts gX7_isWord_J0_length_8abf5 rfl rfl rfl (by decide +kernel) ⟨Nat.le_of_ble_eq_true rfl, Nat.le_of_ble_eq_true rfl⟩) (kz_PreK (i := 2) hs54 hP hD hK hN (by decide) hZ hS hA) rfl rfl hl.1 rfl (lv_room (Nat.le_of_ble_eq_true rfl)) dX7_isWord_22 ⟨Nat.le_of_ble_eq_true rfl, Nat.le_of_ble_eq_true rfl⟩) (fun r55 u56 H locs hq hP hD hS => ?_)
                obtain rfl := hq
                have hP : va_P D vwCl [(tx, .inr (7, [.ref bys, .int (nI ln), .int tok, .int (nI sta), .int (nI en), .int num, .ref wo, .ref fs, .ref sc, .int tfi, .int tgl, .int tst])), (bys, .inl (y 1, 150, .inl fby))] H := hP
                have hD : va_D A [(tx, .inr (7, [.ref bys, .int (nI ln), .int tok, .int (nI sta), .int (nI en), .int num, .ref wo, .ref fs, .ref sc, .int tfi, .int tgl, .int tst])), (bys, .inl (y 1, 150, .inl fby))] := hD
                refine lv_icmp_ge (tgt := 55) hx hb dX7_isWord_25 (by decide) (fun h9 => absurd h9 (by decide)) (fun _ => ?_)
                refine lv_aload_n hx hb dX7_isWord_28 rfl (lv_at hl 1 rfl) ?_
                refine va_get (D := D) (ci := 7) (v := .ref bys) (C := RX7) (T := TX7) (N := 12) hx hb hts iw7 hown hK hP 0 rfl rfl 0 (by decide) fw3 (fun _ h9 => h9) rfl dX7_isWord_29 ?_
                refine lv_aload_n hx hb dX7_isWord_32 rfl (lv_at hl 1 rfl) ?_
                refine va_get (D := D) (ci := 7) (v := .int (nI sta)) (C := RX7) (T := TX7) (N := 12) hx hb hts iw7 hown hK hP 0 rfl rfl 3 (by decide) fw2 (fun _ h9 => h9) rfl dX7_isWord_33 ?_
                refine lv_iload_n hx hb dX7_isWord_36 rfl (lv_at hl 0 rfl) ?_
                refine lv_iadd hx hb dX7_isWord_37 ?_
                rw [show (nI sta) + 6 = nI (sta + 6) from nI_add sta 6]
                refine va_bald hx hb hK hP 1 1 rfl rfl (vp_in_nI (by omega) (by decide)) dX7_isWord_38 ?_
                rw [nI_clamp (n := (sta + 6)) (by omega)]
                refine lv_aload_n hx hb dX7_isWord_39 rfl (lv_at hl 2 rfl) ?_
                refine lv_iload_n hx hb dX7_isWord_40 rfl (lv_at hl 0 rfl) ?_
                have hs57 : kw_Split [(tx, .inr (7, [.ref bys, .int (nI ln), .int tok, .int (nI sta), .int (nI en), .int num, .ref wo, .ref fs, .ref sc, .int tfi, .int tgl, .int tst])), (bys, .inl (y 1, 150, .inl fby))] [] [(tx, .inr (7, [.ref bys, .int (nI ln), .int tok, .int (nI sta), .int (nI en), .int num, .ref wo, .ref fs, .ref sc, .int tfi, .int tgl, .int tst])), (bys, .inl (y 1, 150, .inl fby))] [] [0, 1] := ⟨rfl, rfl, rfl, rfl, rfl, by decide⟩
                refine kw_go_i hs57 hP hD hS hA (va_runV (As := [.int 6]) (rest := [.int (fby (sta + 6))]) ⟨hx, hb, hml, hown, hts⟩ (gs_charAt2 l D y aK aV 6 (by omega) _) (cwV 1 hts gX7_isWord_J0_charAt_5068e rfl rfl rfl (by decide +kernel) ⟨Nat.le_of_ble_eq_true rfl, Nat.le_of_ble_eq_true rfl⟩) (kz_PreK (i := 2) hs57 hP hD hK hN (by decide) hZ hS hA) rfl rfl hl.1 rfl (lv_room (Nat.le_of_ble_eq_true rfl)) dX7_isWord_41 ⟨Nat.le_of_ble_eq_true rfl, Nat.le_of_ble_eq_true rfl⟩) (fun r58 u59 H locs hq hP hD hS => ?_)
                obtain rfl := hq
                rw [show kz_w 2 6 = 114 from rfl]
                have hP : va_P D vwCl [(tx, .inr (7, [.ref bys, .int (nI ln), .int tok, .int (nI sta), .int (nI en), .int num, .ref wo, .ref fs, .ref sc, .int tfi, .int tgl, .int tst])), (bys, .inl (y 1, 150, .inl fby))] H := hP
                have hD : va_D A [(tx, .inr (7, [.ref bys, .int (nI ln), .int tok, .int (nI sta), .int (nI en), .int num, .ref wo, .ref fs, .ref sc, .int tfi, .int tgl, .int tst])), (bys, .inl (y 1, 150, .inl fby))] := hD
                refine lv_icmp_eq (tgt := 49) hx hb dX7_isWord_44 (by decide) (fun h60 => ?_) (fun h61 => ?_)
                · skip
                  refine lv_iinc (v := 7) (lv' := [(2, .int 7), (0, .ref tx), (1, .ref (aK 2))]) hx hb dX7_isWord_49 hl (k := 0) rfl (by decide) (by decide) rfl (fun ls hl => ?_)
                  refine lv_goto (tgt := 20) hx hb dX7_isWord_52 (by decide) ?_
                  refine lv_iload_n hx hb dX7_isWord_20 rfl (lv_at hl 0 rfl) ?_
                  refine lv_aload_n hx hb dX7_isWord_21 rfl (lv_at hl 2 rfl) ?_
                  have hs62 : kw_Split [(tx, .inr (7, [.ref bys, .int (nI ln), .int tok, .int (nI sta), .int (nI en), .int num, .ref wo, .ref fs, .ref sc, .int tfi, .int tgl, .int tst])), (bys, .inl (y 1, 150, .inl fby))] [] [(tx, .inr (7, [.ref bys, .int (nI ln), .int tok, .int (nI sta), .int (nI en), .int num, .ref wo, .ref fs, .ref sc, .int tfi, .int tgl, .int tst])), (bys, .inl (y 1, 150, .inl fby))] [] [0, 1] := ⟨rfl, rfl, rfl, rfl, rfl, by decide⟩
                  refine kw_go_i hs62 hP hD hS hA (va_runV (As := []) (rest := [.int 7]) ⟨hx, hb, hml, hown, hts⟩ (gj_length2 l D y aK aV  _) (cwV 0 hts gX7_isWord_J0_length_8abf5 rfl rfl rfl (by decide +kernel) ⟨Nat.le_of_ble_eq_true rfl, Nat.le_of_ble_eq_true rfl⟩) (kz_PreK (i := 2) hs62 hP hD hK hN (by decide) hZ hS hA) rfl rfl hl.1 rfl (lv_room (Nat.le_of_ble_eq_true rfl)) dX7_isWord_22 ⟨Nat.le_of_ble_eq_true rfl, Nat.le_of_ble_eq_true rfl⟩) (fun r63 u64 H locs hq hP hD hS => ?_)
                  obtain rfl := hq
                  have hP : va_P D vwCl [(tx, .inr (7, [.ref bys, .int (nI ln), .int tok, .int (nI sta), .int (nI en), .int num, .ref wo, .ref fs, .ref sc, .int tfi, .int tgl, .int tst])), (bys, .inl (y 1, 150, .inl fby))] H := hP
                  have hD : va_D A [(tx, .inr (7, [.ref bys, .int (nI ln), .int tok, .int (nI sta), .int (nI en), .int num, .ref wo, .ref fs, .ref sc, .int tfi, .int tgl, .int tst])), (bys, .inl (y 1, 150, .inl fby))] := hD
                  refine lv_icmp_ge (tgt := 55) hx hb dX7_isWord_25 (by decide) (fun _ => ?_) (fun h9 => absurd h9 (by decide))
                  refine lv_iconst (v := 1) hx hb dX7_isWord_55 (by decide) ?_
                  exact W.zret (v := 1) hx hb hr (by decide) (fun tZ ht hW => ⟨⟨1, (), rfl, Or.inl ⟨decide_eq_true ⟨by omega, h12, h20, h28, h36, h44, h52, h60⟩, rfl⟩, by rw [ht]; exact hP.sub [0, 1] rfl, hD.sub [0, 1] (by decide) rfl⟩, hS.F ht⟩) hS.2.2 dX7_isWord_56
                · skip
                  refine lv_iconst (v := 0) hx hb dX7_isWord_47 (by decide) ?_
                  exact W.zret (v := 0) hx hb hr (by decide) (fun tZ ht hW => ⟨⟨0, (), rfl, Or.inr (⟨fun q9 => absurd (of_decide_eq_true q9).2.2.2.2.2.2.2 h61, rfl⟩), by rw [ht]; exact hP.sub [0, 1] rfl, hD.sub [0, 1] (by decide) rfl⟩, hS.F ht⟩) hS.2.2 dX7_isWord_48
              · skip
                refine lv_iconst (v := 0) hx hb dX7_isWord_47 (by decide) ?_
                exact W.zret (v := 0) hx hb hr (by decide) (fun tZ ht hW => ⟨⟨0, (), rfl, Or.inr (⟨fun q9 => absurd (of_decide_eq_true q9).2.2.2.2.2.2.1 h53, rfl⟩), by rw [ht]; exact hP.sub [0, 1] rfl, hD.sub [0, 1] (by decide) rfl⟩, hS.F ht⟩) hS.2.2 dX7_isWord_48
            · skip
              refine lv_iconst (v := 0) hx hb dX7_isWord_47 (by decide) ?_
              exact W.zret (v := 0) hx hb hr (by decide) (fun tZ ht hW => ⟨⟨0, (), rfl, Or.inr (⟨fun q9 => absurd (of_decide_eq_true q9).2.2.2.2.2.1 h45, rfl⟩), by rw [ht]; exact hP.sub [0, 1] rfl, hD.sub [0, 1] (by decide) rfl⟩, hS.F ht⟩) hS.2.2 dX7_isWord_48
          · skip
            refine lv_iconst (v := 0) hx hb dX7_isWord_47 (by decide) ?_
            exact W.zret (v := 0) hx hb hr (by decide) (fun tZ ht hW => ⟨⟨0, (), rfl, Or.inr (⟨fun q9 => absurd (of_decide_eq_true q9).2.2.2.2.1 h37, rfl⟩), by rw [ht]; exact hP.sub [0, 1] rfl, hD.sub [0, 1] (by decide) rfl⟩, hS.F ht⟩) hS.2.2 dX7_isWord_48
        · skip
          refine lv_iconst (v := 0) hx hb dX7_isWord_47 (by decide) ?_
          exact W.zret (v := 0) hx hb hr (by decide) (fun tZ ht hW => ⟨⟨0, (), rfl, Or.inr (⟨fun q9 => absurd (of_decide_eq_true q9).2.2.2.1 h29, rfl⟩), by rw [ht]; exact hP.sub [0, 1] rfl, hD.sub [0, 1] (by decide) rfl⟩, hS.F ht⟩) hS.2.2 dX7_isWord_48
      · skip
        refine lv_iconst (v := 0) hx hb dX7_isWord_47 (by decide) ?_
        exact W.zret (v := 0) hx hb hr (by decide) (fun tZ ht hW => ⟨⟨0, (), rfl, Or.inr (⟨fun q9 => absurd (of_decide_eq_true q9).2.2.1 h21, rfl⟩), by rw [ht]; exact hP.sub [0, 1] rfl, hD.sub [0, 1] (by decide) rfl⟩, hS.F ht⟩) hS.2.2 dX7_isWord_48
    · skip
      refine lv_iconst (v := 0) hx hb dX7_isWord_47 (by decide) ?_
      exact W.zret (v := 0) hx hb hr (by decide) (fun tZ ht hW => ⟨⟨0, (), rfl, Or.inr (⟨fun q9 => absurd (of_decide_eq_true q9).2.1 h13, rfl⟩), by rw [ht]; exact hP.sub [0, 1] rfl, hD.sub [0, 1] (by decide) rfl⟩, hS.F ht⟩) hS.2.2 dX7_isWord_48
  · skip
    have h5 : ¬ (en - sta) = 7 := fun q9 => h5 ((nI_eq (a := (en - sta)) (b := 7) (by omega) (by omega)).mpr q9)
    refine lv_iconst (v := 0) hx hb dX7_isWord_16 (by decide) ?_
    exact W.zret (v := 0) hx hb hr (by decide) (fun tZ ht hW => ⟨⟨0, (), rfl, Or.inr (⟨fun q9 => absurd (of_decide_eq_true q9).1 (by omega), rfl⟩), by rw [ht]; exact hP.sub [0, 1] rfl, hD.sub [0, 1] (by decide) rfl⟩, hS.F ht⟩) hS.2.2 dX7_isWord_17
