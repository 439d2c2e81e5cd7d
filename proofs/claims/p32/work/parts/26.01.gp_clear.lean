set_option maxHeartbeats 4000000 in
set_option maxRecDepth 100000 in
theorem gp_clear (l : Launch) (D : va_G) (y : Nat → ClassId) (g : Nat) (kk : Nat) (nw : Nat) (im : Nat) (kp : Nat) (tx : Nat) (tr : Nat) (be : Nat) (sh : Nat) (sd : Nat) (rf : Nat) (ab : Int32) (bl : Int32) (bys : Nat) (wo : Nat) (fs : Nat) (sc : Nat) (ln : Nat) (sta : Nat) (en : Nat) (tok : Int32) (num : Int32) (tfi : Int32) (tgl : Int32) (tst : Int32) (hln : ln ≤ 150) (hs9 : sta ≤ 150) (he9 : en ≤ 150) : kw_Mi l yX10_clear wsX10_clear ({ frames := 1, cells := 0, slots := 0, locals := 60 }) D y [.ref g] [(g, .inr (10, [.ref kk, .ref nw, .ref im, .ref kp, .ref tx, .ref tr, .ref be, .ref sh, .ref sd, .ref rf, .int ab, .int bl])), (tx, .inr (7, [.ref bys, .int (nI ln), .int tok, .int (nI sta), .int (nI en), .int num, .ref wo, .ref fs, .ref sc, .int tfi, .int tgl, .int tst]))] (fun (r : Int32) (u : Unit) => r = (nI ln)) (fun _ => [(g, .inr (10, [.ref kk, .ref nw, .ref im, .ref kp, .ref tx, .ref tr, .ref be, .ref sh, .ref sd, .ref rf, .int ab, .int bl])), (tx, .inr (7, [.ref bys, .int 0, .int tok, .int (nI sta), .int (nI en), .int num, .ref wo, .ref fs, .ref sc, .int tfi, .int tgl, .int tst]))]) 0 0 := by
  refine kw_Mi.of (cc := cX10_clear) (maxL := 2) (ret := (some .int)) (by decide) rfl ?_
  intro pZ eZ s mZ beZ meZ cZ A hE
  obtain ⟨hx, hb, hr, hml, hts, hown, hlocks, hin, hA, hP, hD, hK, hN⟩ := hE
  have hS : va_S A s.heap s.heap [] := va_S.rf
  have hl := lv_entry ([.ref g]) (n := 2) (Nat.le_of_ble_eq_true rfl)
  rw [lg_entry_eq]
  generalize (lg_sl ([.ref g]) ++ List.replicate (2 - (lg_sl ([.ref g])).length) Slot.unset).toArray = ls at hl ⊢
  have hl : lv_has ls 2 [(0, .ref g)] := hl
  have fw1 := hts (.fieldLink RX10 51 "GleanDusk" "text" "LGleanDusk$Text;") (List.mem_of_getElem? (i := 1) rfl)
  have fw2 := hts (.fieldLink RX10 122 "GleanDusk$Text" "length" "I") (List.mem_of_getElem? (i := 2) rfl)
  have iw10 : ∀ w ∈ wsX100, w ∈ wsX10_clear := fun _ h => List.mem_cons_of_mem _ (List.mem_append_left _ (List.mem_append_right _ h))
  have iw7 : ∀ w ∈ wsX70, w ∈ wsX10_clear := fun _ h => List.mem_cons_of_mem _ (List.mem_append_right _ h)
  refine lv_aload_n hx hb dX10_clear_0 rfl (lv_at hl 0 rfl) ?_
  refine va_get (D := D) (ci := 10) (v := .ref tx) (C := RX10) (T := TX10) (N := 12) hx hb hts iw10 hown hK hP 0 rfl rfl 4 (by decide) fw1 (fun _ h9 => h9) rfl dX10_clear_1 ?_
  refine va_get (D := D) (ci := 7) (v := .int (nI ln)) (C := RX7) (T := TX7) (N := 12) hx hb hts iw7 hown hK hP 1 rfl rfl 1 (by decide) fw2 (fun _ h9 => h9) rfl dX10_clear_4 ?_
  refine lv_istore_n (lv' := [(1, .int (nI ln)), (0, .ref g)]) hx hb dX10_clear_7 rfl hl (by decide) rfl (fun ls hl => ?_)
  refine lv_aload_n hx hb dX10_clear_8 rfl (lv_at hl 1 rfl) ?_
  refine va_get (D := D) (ci := 10) (v := .ref tx) (C := RX10) (T := TX10) (N := 12) hx hb hts iw10 hown hK hP 0 rfl rfl 4 (by decide) fw1 (fun _ h9 => h9) rfl dX10_clear_9 ?_
  refine lv_iconst (v := 0) hx hb dX10_clear_12 (by decide) ?_
  refine va_put (D := D) (ci := 7) (v := .int 0) (ty := .int) (C := RX7) (T := TX7) (N := 12) hx hb hts iw7 tyX7 tyX7_ok nmX7 hown hK hP hD hS 1 rfl rfl 1 (by decide) fw2 (fun _ h9 => h9) rfl (by decide +kernel) rfl rfl (Nat.le_of_ble_eq_true rfl) dX10_clear_13 (fun H locs hP hD hS => ?_)
  have hP : va_P D vwCl [(g, .inr (10, [.ref kk, .ref nw, .ref im, .ref kp, .ref tx, .ref tr, .ref be, .ref sh, .ref sd, .ref rf, .int ab, .int bl])), (tx, .inr (7, [.ref bys, .int 0, .int tok, .int (nI sta), .int (nI en), .int num, .ref wo, .ref fs, .ref sc, .int tfi, .int tgl, .int tst]))] H := hP
  have hD : va_D A [(g, .inr (10, [.ref kk, .ref nw, .ref im, .ref kp, .ref tx, .ref tr, .ref be, .ref sh, .ref sd, .ref rf, .int ab, .int bl])), (tx, .inr (7, [.ref bys, .int 0, .int tok, .int (nI sta), .int (nI en), .int num, .ref wo, .ref fs, .ref sc, .int tfi, .int tgl, .int tst]))] := hD
  refine lv_iload_n hx hb dX10_clear_16 rfl (lv_at hl 0 rfl) ?_
  exact W.iret (v := (nI ln)) hx hb hr (fun tZ ht hW => ⟨⟨(nI ln), (), rfl, rfl, by rw [ht]; exact hP.sub [0, 1] rfl, hD.sub [0, 1] (by decide) rfl⟩, hS.F ht⟩) hS.2.2 dX10_clear_17

set_option maxHeartbeats 4000000 in
set_option maxRecDepth 100000 in
theorem gt_parse (l : Launch) (D : va_G) (y : Nat → ClassId) (aK : Nat → Nat) (aV : Nat → Nat) (tx : Nat) (bys : Nat) (wo : Nat) (fs : Nat) (sc : Nat) (ln : Nat) (sta : Nat) (en : Nat) (tok : Int32) (num : Int32) (tfi : Int32) (tgl : Int32) (tst : Int32) (fby : Nat → Int32) (fwo : Nat → Int32) (ffs : Nat → Int32) (fsc : Nat → Int32) (hln : ln ≤ 150) (hs9 : sta ≤ 150) (he9 : en ≤ 150) : kz_Mi l yX7_parse wsX7_parse ({ frames := 8, cells := 0, slots := 0, locals := 210 }) D y [.ref tx] [(tx, .inr (7, [.ref bys, .int (nI ln), .int tok, .int (nI sta), .int (nI en), .int num, .ref wo, .ref fs, .ref sc, .int tfi, .int tgl, .int tst])), (bys, .inl (y 1, 150, .inl fby)), (wo, .inl (y 0, 25, .inl fwo)), (fs, .inl (y 0, 25, .inl ffs)), (sc, .inl (y 0, 25, .inl fsc))] aK aV (fun (r : Int32) (u : Int32 × Nat × Nat × Int32 × Int32 × Int32 × Int32 × (Nat → Int32) × (Nat → Int32) × (Nat → Int32)) => u.2.1 ≤ 150 ∧ u.2.2.1 ≤ 150 ∧ kz_pq u.2.2.2.2.2.2.2.1 u.2.2.2.2.2.2.2.2.1 r) (fun u => [(tx, .inr (7, [.ref bys, .int (nI ln), .int u.1, .int (nI u.2.1), .int (nI u.2.2.1), .int u.2.2.2.1, .ref wo, .ref fs, .ref sc, .int u.2.2.2.2.1, .int u.2.2.2.2.2.1, .int u.2.2.2.2.2.2.1])), (bys, .inl (y 1, 150, .inl fby)), (wo, .inl (y 0, 25, .inl u.2.2.2.2.2.2.2.1)), (fs, .inl (y 0, 25, .inl u.2.2.2.2.2.2.2.2.1)), (sc, .inl (y 0, 25, .inl u.2.2.2.2.2.2.2.2.2))]) 0 0 := by
  refine kz_Mi.of (cc := cX7_parse) (maxL := 2) (ret := (some .int)) (by decide) rfl ?_
  intro pZ eZ s mZ beZ meZ cZ A hE
  obtain ⟨hx, hb, hr, hml, hts, hown, hlocks, hin, hA, hP, hD, hK, hN, hZ⟩ := hE
  have hS : va_S A s.heap s.heap [] := va_S.rf
  have hl := lv_entry ([.ref tx]) (n := 2) (Nat.le_of_ble_eq_true rfl)
  rw [lg_entry_eq]
  generalize (lg_sl ([.ref tx]) ++ List.replicate (2 - (lg_sl ([.ref tx])).length) Slot.unset).toArray = ls at hl ⊢
  have hl : lv_has ls 2 [(0, .ref tx)] := hl
  have fw1 := hts (.fieldLink RX7 29 "GleanDusk$Text" "end" "I") (List.mem_of_getElem? (i := 1) rfl)
  have fw2 := hts (.fieldLink RX7 32 "GleanDusk$Text" "fields" "I") (List.mem_of_getElem? (i := 2) rfl)
  have fw3 := hts (.fieldLink RX7 35 "GleanDusk$Text" "gleaners" "I") (List.mem_of_getElem? (i := 3) rfl)
  have fw4 := hts (.fieldLink RX7 38 "GleanDusk$Text" "steps" "I") (List.mem_of_getElem? (i := 4) rfl)
  have fw5 := hts (.fieldLink RX7 51 "GleanDusk$Text" "start" "I") (List.mem_of_getElem? (i := 6) rfl)
  have fw6 := hts (.fieldLink RX7 44 "GleanDusk$Text" "token" "I") (List.mem_of_getElem? (i := 5) rfl)
  have iw7 : ∀ w ∈ wsX70, w ∈ wsX7_parse := fun _ h => List.mem_cons_of_mem _ (List.mem_append_right _ h)
  refine lv_aload_n hx hb dX7_parse_0 rfl (lv_at hl 0 rfl) ?_
  refine lv_iconst (v := 0) hx hb dX7_parse_1 (by decide) ?_
  refine va_put (D := D) (ci := 7) (v := .int 0) (ty := .int) (C := RX7) (T := TX7) (N := 12) hx hb hts iw7 tyX7 tyX7_ok nmX7 hown hK hP hD hS 0 rfl rfl 4 (by decide) fw1 (fun _ h9 => h9) rfl (by decide +kernel) rfl rfl (Nat.le_of_ble_eq_true rfl) dX7_parse_2 (fun H locs hP hD hS => ?_)
  have hP : va_P D vwCl [(tx, .inr (7, [.ref bys, .int (nI ln), .int tok, .int (nI sta), .int 0, .int num, .ref wo, .ref fs, .ref sc, .int tfi, .int tgl, .int tst])), (bys, .inl (y 1, 150, .inl fby)), (wo, .inl (y 0, 25, .inl fwo)), (fs, .inl (y 0, 25, .inl ffs)), (sc, .inl (y 0, 25, .inl fsc))] H := hP
  have hD : va_D A [(tx, .inr (7, [.ref bys, .int (nI ln), .int tok, .int (nI sta), .int 0, .int num, .ref wo, .ref fs, .ref sc, .int tfi, .int tgl, .int tst])), (bys, .inl (y 1, 150, .inl fby)), (wo, .inl (y 0, 25, .inl fwo)), (fs, .inl (y 0, 25, .inl ffs)), (sc, .inl (y 0, 25, .inl fsc))] := hD
  refine lv_aload_n hx hb dX7_parse_5 rfl (lv_at hl 0 rfl) ?_
  refine lv_iconst (v := 0) hx hb dX7_parse_6 (by decide) ?_
  refine va_put (D := D) (ci := 7) (v := .int 0) (ty := .int) (C := RX7) (T := TX7) (N := 12) hx hb hts iw7 tyX7 tyX7_ok nmX7 hown hK hP hD hS 0 rfl rfl 9 (by decide) fw2 (fun _ h9 => h9) rfl (by decide +kernel) rfl rfl (Nat.le_of_ble_eq_true rfl) dX7_parse_7 (fun H locs hP hD hS => ?_)
  have hP : va_P D vwCl [(tx, .inr (7, [.ref bys, .int (nI ln), .int tok, .int (nI sta), .int 0, .int num, .ref wo, .ref fs, .ref sc, .int 0, .int tgl, .int tst])), (bys, .inl (y 1, 150, .inl fby)), (wo, .inl (y 0, 25, .inl fwo)), (fs, .inl (y 0, 25, .inl ffs)), (sc, .inl (y 0, 25, .inl fsc))] H := hP
  have hD : va_D A [(tx, .inr (7, [.ref bys, .int (nI ln), .int tok, .int (nI sta), .int 0, .int num, .ref wo, .ref fs, .ref sc, .int 0, .int tgl, .int tst])), (bys, .inl (y 1, 150, .inl fby)), (wo, .inl (y 0, 25, .inl fwo)), (fs, .inl (y 0, 25, .inl ffs)), (sc, .inl (y 0, 25, .inl fsc))] := hD
  refine lv_aload_n hx hb dX7_parse_10 rfl (lv_at hl 0 rfl) ?_
  refine lv_iconst (v := 0) hx hb dX7_parse_11 (by decide) ?_
  refine va_put (D := D) (ci := 7) (v := .int 0) (ty := .int) (C := RX7) (T := TX7) (N := 12) hx hb hts iw7 tyX7 tyX7_ok nmX7 hown hK hP hD hS 0 rfl rfl 10 (by decide) fw3 (fun _ h9 => h9) rfl (by decide +kernel) rfl rfl (Nat.le_of_ble_eq_true rfl) dX7_parse_12 (fun H locs hP hD hS => ?_)
  have hP : va_P D vwCl [(tx, .inr (7, [.ref bys, .int (nI ln), .int tok, .int (nI sta), .int 0, .int num, .ref wo, .ref fs, .ref sc, .int 0, .int 0, .int tst])), (bys, .inl (y 1, 150, .inl fby)), (wo, .inl (y 0, 25, .inl fwo)), (fs, .inl (y 0, 25, .inl ffs)), (sc, .inl (y 0, 25, .inl fsc))] H := hP
  have hD : va_D A [(tx, .inr (7, [.ref bys, .int (nI ln), .int tok, .int (nI sta), .int 0, .int num, .ref wo, .ref fs, .ref sc, .int 0, .int 0, .int tst])), (bys, .inl (y 1, 150, .inl fby)), (wo, .inl (y 0, 25, .inl fwo)), (fs, .inl (y 0, 25, .inl ffs)), (sc, .inl (y 0, 25, .inl fsc))] := hD
  refine lv_aload_n hx hb dX7_parse_15 rfl (lv_at hl 0 rfl) ?_
  refine lv_bipush (v := 12) hx hb dX7_parse_16 (by decide) ?_
  refine va_put (D := D) (ci := 7) (v := .int 12) (ty := .int) (C := RX7) (T := TX7) (N := 12) hx hb hts iw7 tyX7 tyX7_ok nmX7 hown hK hP hD hS 0 rfl rfl 11 (by decide) fw4 (fun _ h9 => h9) rfl (by decide +kernel) rfl rfl (Nat.le_of_ble_eq_true rfl) dX7_parse_18 (fun H locs hP hD hS => ?_)
  have hP : va_P D vwCl [(tx, .inr (7, [.ref bys, .int (nI ln), .int tok, .int (nI sta), .int 0, .int num, .ref wo, .ref fs, .ref sc, .int 0, .int 0, .int 12])), (bys, .inl (y 1, 150, .inl fby)), (wo, .inl (y 0, 25, .inl fwo)), (fs, .inl (y 0, 25, .inl ffs)), (sc, .inl (y 0, 25, .inl fsc))] H := hP
  have hD : va_D A [(tx, .inr (7, [.ref bys, .int (nI ln), .int tok, .int (nI sta), .int 0, .int num, .ref wo, .ref fs, .ref sc, .int 0, .int 0, .int 12])), (bys, .inl (y 1, 150, .inl fby)), (wo, .inl (y 0, 25, .inl fwo)), (fs, .inl (y 0, 25, .inl ffs)), (sc, .inl (y 0, 25, .inl fsc))] := hD
  refine lv_iconst (v := 0) hx hb dX7_parse_21 (by decide) ?_
  refine lv_istore_n (lv' := [(1, .int 0), (0, .ref tx)]) hx hb dX7_parse_22 rfl hl (by decide) rfl (fun ls hl => ?_)
  have lp187 : ∀ (fuj91 j91 : Nat) (x89 : Int32) (x90 : Nat) (x91 : Nat) (x92 : Int32) (x93 : Nat) (x94 : Nat) (x95 : Nat) (x96 : Nat → Int32) (x97 : Nat → Int32) (x98 : Nat → Int32) (H : Heap) (locs : List Loc) (ls : Array Slot), j91 ≤ 25 → 25 - j91 < fuj91 → x90 ≤ 150 → x91 ≤ ln → x93 ≤ 6 → x94 ≤ 5 → x95 ≤ 12 → kz_ok x96 x97 j91 x93 x94 → va_P D vwCl [(tx, .inr (7, [.ref bys, .int (nI ln), .int x89, .int (nI x90), .int (nI x91), .int x92, .ref wo, .ref fs, .ref sc, .int (nI x93), .int (nI x94), .int (nI x95)])), (bys, .inl (y 1, 150, .inl fby)), (wo, .inl (y 0, 25, .inl x96)), (fs, .inl (y 0, 25, .inl x97)), (sc, .inl (y 0, 25, .inl x98))] H → va_D A [(tx, .inr (7, [.ref bys, .int (nI ln), .int x89, .int (nI x90), .int (nI x91), .int x92, .ref wo, .ref fs, .ref sc, .int (nI x93), .int (nI x94), .int (nI x95)])), (bys, .inl (y 1, 150, .inl fby)), (wo, .inl (y 0, 25, .inl x96)), (fs, .inl (y 0, 25, .inl x97)), (sc, .inl (y 0, 25, .inl x98))] → va_S A s.heap H locs → lv_has ls 2 [(1, .int (nI j91)), (0, .ref tx)] → W pZ l eZ ({ frames := 8, cells := 0, slots := 0, locals := 210 }) s mZ [.ref tx].toArray beZ meZ cZ H locs 0 0 (MQ beZ (va_Qi (fun (r : Int32) (u : Int32 × Nat × Nat × Int32 × Int32 × Int32 × Int32 × (Nat → Int32) × (Nat → Int32) × (Nat → Int32)) => u.2.1 ≤ 150 ∧ u.2.2.1 ≤ 150 ∧ kz_pq u.2.2.2.2.2.2.2.1 u.2.2.2.2.2.2.2.2.1 r) (kw_B D (fun u => [(tx, .inr (7, [.ref bys, .int (nI ln), .int u.1, .int (nI u.2.1), .int (nI u.2.2.1), .int u.2.2.2.1, .ref wo, .ref fs, .ref sc, .int u.2.2.2.2.1, .int u.2.2.2.2.2.1, .int u.2.2.2.2.2.2.1])), (bys, .inl (y 1, 150, .inl fby)), (wo, .inl (y 0, 25, .inl u.2.2.2.2.2.2.2.1)), (fs, .inl (y 0, 25, .inl u.2.2.2.2.2.2.2.2.1)), (sc, .inl (y 0, 25, .inl u.2.2.2.2.2.2.2.2.2))]) A) A) [.ref tx].toArray s 0 0 A) (F0 mZ 23 ls []) := by
    intro fuj91
    induction fuj91 with
    | zero => intro j91 x89 x90 x91 x92 x93 x94 x95 x96 x97 x98 H locs ls hj9 hf9; exact absurd hf9 (Nat.not_lt_zero _)
    | succ fuj91 ihj91 =>
      intro j91 x89 x90 x91 x92 x93 x94 x95 x96 x97 x98 H locs ls hj91 hfj91 hn_x90 hn_x91 hn_x93 hn_x94 hn_x95 hI0_j91 hP hD hS hl
      refine lv_iload_n hx hb dX7_parse_23 rfl (lv_at hl 0 rfl) ?_
      refine lv_bipush (v := 25) hx hb dX7_parse_24 (by decide) ?_
      refine lv_icmp_ge (tgt := 78) hx hb dX7_parse_26 (by decide) (fun h188 => ?_) (fun h189 => ?_)
      · skip
        have h188 : 25 ≤ j91 := (nI_leI (a := 25) (b := j91) (by omega) (by omega)).mp h188
        refine lv_bipush (v := (-10)) hx hb dX7_parse_78 (by decide) ?_
        refine lv_aload_n hx hb dX7_parse_80 rfl (lv_at hl 1 rfl) ?_
        refine va_get (D := D) (ci := 7) (v := .int (nI x90)) (C := RX7) (T := TX7) (N := 12) hx hb hts iw7 hown hK hP 0 rfl rfl 3 (by decide) fw5 (fun _ h9 => h9) rfl dX7_parse_81 ?_
        refine lv_isub hx hb dX7_parse_84 ?_
        exact W.iret (v := ((-10) - (nI x90))) hx hb hr (fun tZ ht hW => ⟨⟨((-10) - (nI x90)), (x89, x90, x91, x92, (nI x93), (nI x94), (nI x95), x96, x97, x98), rfl, ⟨by first | omega | (dsimp only; omega), by first | omega | (dsimp only; omega), kz_pq.neg (kz_tenneg (by omega))⟩, by rw [ht]; exact hP.sub [0, 1, 2, 3, 4] rfl, hD.sub [0, 1, 2, 3, 4] (by decide) rfl⟩, hS.F ht⟩) hS.2.2 dX7_parse_85
      · skip
        have h189 : ¬ 25 ≤ j91 := fun q9 => h189 ((nI_leI (a := 25) (b := j91) (by omega) (by omega)).mpr q9)
        refine lv_aload_n hx hb dX7_parse_29 rfl (lv_at hl 1 rfl) ?_
        have hs190 : kw_Split [(tx, .inr (7, [.ref bys, .int (nI ln), .int x89, .int (nI x90), .int (nI x91), .int x92, .ref wo, .ref fs, .ref sc, .int (nI x93), .int (nI x94), .int (nI x95)])), (bys, .inl (y 1, 150, .inl fby)), (wo, .inl (y 0, 25, .inl x96)), (fs, .inl (y 0, 25, .inl x97)), (sc, .inl (y 0, 25, .inl x98))] [(tx, .inr (7, [.ref bys, .int (nI ln), .int x89, .int (nI x90), .int (nI x91), .int x92, .ref wo, .ref fs, .ref sc, .int (nI x93), .int (nI x94), .int (nI x95)])), (bys, .inl (y 1, 150, .inl fby))] [(wo, .inl (y 0, 25, .inl x96)), (fs, .inl (y 0, 25, .inl x97)), (sc, .inl (y 0, 25, .inl x98))] [0, 1] [2, 3, 4] := ⟨rfl, rfl, rfl, rfl, rfl, by decide⟩
        refine kw_go_v hs190 hP hD hS hA (va_runV (As := []) (rest := []) ⟨hx, hb, hml, hown, hts⟩ (gt_advance l D y tx bys wo fs sc ln x90 x91 x89 x92 (nI x93) (nI x94) (nI x95) fby hln (by omega) _) (cwV 0 hts gX7_parse_X7_advance rfl rfl rfl (by decide +kernel) ⟨Nat.le_of_ble_eq_true rfl, Nat.le_of_ble_eq_true rfl⟩) (kw_PreV (ci := 7) (q0 := 0) hs190 hP hD hK hN rfl rfl) rfl rfl hl.1 rfl (lv_room (Nat.le_of_ble_eq_true rfl)) dX7_parse_30 ⟨Nat.le_of_ble_eq_true rfl, Nat.le_of_ble_eq_true rfl⟩) (fun u192 H locs hq hP hD hS => ?_)
        obtain ⟨v193, v194, v195, v196⟩ := u192
        try dsimp only at hq
        obtain ⟨h197, h198, h199⟩ := hq
        have hP : va_P D vwCl [(wo, .inl (y 0, 25, .inl x96)), (fs, .inl (y 0, 25, .inl x97)), (sc, .inl (y 0, 25, .inl x98)), (tx, .inr (7, [.ref bys, .int (nI ln), .int v193, .int (nI v194), .int (nI v195), .int v196, .ref wo, .ref fs, .ref sc, .int (nI x93), .int (nI x94), .int (nI x95)])), (bys, .inl (y 1, 150, .inl fby))] H := hP
        have hD : va_D A [(wo, .inl (y 0, 25, .inl x96)), (fs, .inl (y 0, 25, .inl x97)), (sc, .inl (y 0, 25, .inl x98)), (tx, .inr (7, [.ref bys, .int (nI ln), .int v193, .int (nI v194), .int (nI v195), .int v196, .ref wo, .ref fs, .ref sc, .int (nI x93), .int (nI x94), .int (nI x95)])), (bys, .inl (y 1, 150, .inl fby))] := hD
        refine lv_aload_n hx hb dX7_parse_33 rfl (lv_at hl 1 rfl) ?_
        refine va_get (D := D) (ci := 7) (v := .int v193) (C := RX7) (T := TX7) (N := 12) hx hb hts iw7 hown hK hP 3 rfl rfl 2 (by decide) fw6 (fun _ h9 => h9) rfl dX7_parse_34 ?_
        refine lv_if_ne (tgt := 46) hx hb dX7_parse_37 (by decide) (fun h200 => ?_) (fun h201 => ?_)
        · skip
          refine lv_aload_n hx hb dX7_parse_46 rfl (lv_at hl 1 rfl) ?_
          refine lv_iload_n hx hb dX7_parse_47 rfl (lv_at hl 0 rfl) ?_
          have hs202 : kw_Split [(wo, .inl (y 0, 25, .inl x96)), (fs, .inl (y 0, 25, .inl x97)), (sc, .inl (y 0, 25, .inl x98)), (tx, .inr (7, [.ref bys, .int (nI ln), .int v193, .int (nI v194), .int (nI v195), .int v196, .ref wo, .ref fs, .ref sc, .int (nI x93), .int (nI x94), .int (nI x95)])), (bys, .inl (y 1, 150, .inl fby))] [(tx, .inr (7, [.ref bys, .int (nI ln), .int v193, .int (nI v194), .int (nI v195), .int v196, .ref wo, .ref fs, .ref sc, .int (nI x93), .int (nI x94), .int (nI x95)])), (bys, .inl (y 1, 150, .inl fby)), (wo, .inl (y 0, 25, .inl x96)), (fs, .inl (y 0, 25, .inl x97)), (sc, .inl (y 0, 25, .inl x98))] [] [3, 4, 0, 1, 2] [] := ⟨rfl, rfl, rfl, rfl, rfl, by decide⟩
          refine kw_go_i hs202 hP hD hS hA (va_runV (As := [.int (nI j91)]) (rest := []) ⟨hx, hb, hml, hown, hts⟩ (gt_isItem l D y aK aV tx bys wo fs sc ln v194 v195 x93 x94 x95 v193 v196 fby x96 x97 x98 j91 hln (by omega) (by omega) (by omega) hI0_j91 (by omega) (by omega) (by omega) _) (cwV 1 hts gX7_parse_X7_isItem rfl rfl rfl (by decide +kernel) ⟨Nat.le_of_ble_eq_true rfl, Nat.le_of_ble_eq_true rfl⟩) (kz_PreV (ci := 7) (q0 := 3) hs202 hP hD hK hN rfl rfl hZ hS hA) rfl rfl hl.1 rfl (lv_room (Nat.le_of_ble_eq_true rfl)) dX7_parse_48 ⟨Nat.le_of_ble_eq_true rfl, Nat.le_of_ble_eq_true rfl⟩) (fun r203 u204 H locs hq hP hD hS => ?_)
          obtain ⟨v205, v206, v207, v208, v209, v210, v211, v212, v213, v214⟩ := u204
          try dsimp only at hq
          obtain ⟨h215, h216, h217, h218, h219, (rfl | rfl), h220, h221⟩ := hq
          · skip
            have hP : va_P D vwCl [(tx, .inr (7, [.ref bys, .int (nI ln), .int v205, .int (nI v206), .int (nI v207), .int v208, .ref wo, .ref fs, .ref sc, .int (nI v209), .int (nI v210), .int (nI v211)])), (bys, .inl (y 1, 150, .inl fby)), (wo, .inl (y 0, 25, .inl v212)), (fs, .inl (y 0, 25, .inl v213)), (sc, .inl (y 0, 25, .inl v214))] H := hP
            have hD : va_D A [(tx, .inr (7, [.ref bys, .int (nI ln), .int v205, .int (nI v206), .int (nI v207), .int v208, .ref wo, .ref fs, .ref sc, .int (nI v209), .int (nI v210), .int (nI v211)])), (bys, .inl (y 1, 150, .inl fby)), (wo, .inl (y 0, 25, .inl v212)), (fs, .inl (y 0, 25, .inl v213)), (sc, .inl (y 0, 25, .inl v214))] := hD
            refine lv_if_ne (tgt := 57) hx hb dX7_parse_51 (by decide) (fun h9 => absurd h9 (by decide)) (fun _ => ?_)
            refine lv_goto (tgt := 78) hx hb dX7_parse_54 (by decide) ?_
            refine lv_bipush (v := (-10)) hx hb dX7_parse_78 (by decide) ?_
            refine lv_aload_n hx hb dX7_parse_80 rfl (lv_at hl 1 rfl) ?_
            refine va_get (D := D) (ci := 7) (v := .int (nI v206)) (C := RX7) (T := TX7) (N := 12) hx hb hts iw7 hown hK hP 0 rfl rfl 3 (by decide) fw5 (fun _ h9 => h9) rfl dX7_parse_81 ?_
            refine lv_isub hx hb dX7_parse_84 ?_
            exact W.iret (v := ((-10) - (nI v206))) hx hb hr (fun tZ ht hW => ⟨⟨((-10) - (nI v206)), (v205, v206, v207, v208, (nI v209), (nI v210), (nI v211), v212, v213, v214), rfl, ⟨by first | omega | (dsimp only; omega), by first | omega | (dsimp only; omega), kz_pq.neg (kz_tenneg (by omega))⟩, by rw [ht]; exact hP.sub [0, 1, 2, 3, 4] rfl, hD.sub [0, 1, 2, 3, 4] (by decide) rfl⟩, hS.F ht⟩) hS.2.2 dX7_parse_85
          · skip
            have hP : va_P D vwCl [(tx, .inr (7, [.ref bys, .int (nI ln), .int v205, .int (nI v206), .int (nI v207), .int v208, .ref wo, .ref fs, .ref sc, .int (nI v209), .int (nI v210), .int (nI v211)])), (bys, .inl (y 1, 150, .inl fby)), (wo, .inl (y 0, 25, .inl v212)), (fs, .inl (y 0, 25, .inl v213)), (sc, .inl (y 0, 25, .inl v214))] H := hP
            have hD : va_D A [(tx, .inr (7, [.ref bys, .int (nI ln), .int v205, .int (nI v206), .int (nI v207), .int v208, .ref wo, .ref fs, .ref sc, .int (nI v209), .int (nI v210), .int (nI v211)])), (bys, .inl (y 1, 150, .inl fby)), (wo, .inl (y 0, 25, .inl v212)), (fs, .inl (y 0, 25, .inl v213)), (sc, .inl (y 0, 25, .inl v214))] := hD
            have h221 : kz_ok v212 v213 (j91 + 1) v209 v210 := h221 rfl
            refine lv_if_ne (tgt := 57) hx hb dX7_parse_51 (by decide) (fun _ => ?_) (fun h9 => absurd h9 (by decide))
            have hm222 : x93 ≤ 6 := hI0_j91.2.2.1
            have hm223 : x94 ≤ 5 := hI0_j91.2.2.2.1
            have hm224 : v209 ≤ 6 := h221.2.2.1
            have hm225 : v210 ≤ 5 := h221.2.2.2.1
            refine lv_aload_n hx hb dX7_parse_57 rfl (lv_at hl 1 rfl) ?_
            have hs226 : kw_Split [(tx, .inr (7, [.ref bys, .int (nI ln), .int v205, .int (nI v206), .int (nI v207), .int v208, .ref wo, .ref fs, .ref sc, .int (nI v209), .int (nI v210), .int (nI v211)])), (bys, .inl (y 1, 150, .inl fby)), (wo, .inl (y 0, 25, .inl v212)), (fs, .inl (y 0, 25, .inl v213)), (sc, .inl (y 0, 25, .inl v214))] [(tx, .inr (7, [.ref bys, .int (nI ln), .int v205, .int (nI v206), .int (nI v207), .int v208, .ref wo, .ref fs, .ref sc, .int (nI v209), .int (nI v210), .int (nI v211)])), (bys, .inl (y 1, 150, .inl fby))] [(wo, .inl (y 0, 25, .inl v212)), (fs, .inl (y 0, 25, .inl v213)), (sc, .inl (y 0, 25, .inl v214))] [0, 1] [2, 3, 4] := ⟨rfl, rfl, rfl, rfl, rfl, by decide⟩
            refine kw_go_v hs226 hP hD hS hA (va_runV (As := []) (rest := []) ⟨hx, hb, hml, hown, hts⟩ (gt_advance l D y tx bys wo fs sc ln v206 v207 v205 v208 (nI v209) (nI v210) (nI v211) fby hln (by omega) _) (cwV 0 hts gX7_parse_X7_advance rfl rfl rfl (by decide +kernel) ⟨Nat.le_of_ble_eq_true rfl, Nat.le_of_ble_eq_true rfl⟩) (kw_PreV (ci := 7) (q0 := 0) hs226 hP hD hK hN rfl rfl) rfl rfl hl.1 rfl (lv_room (Nat.le_of_ble_eq_true rfl)) dX7_parse_58 ⟨Nat.le_of_ble_eq_true rfl, Nat.le_of_ble_eq_true rfl⟩) (fun u228 H locs hq hP hD hS => ?_)
            obtain ⟨v229, v230, v231, v232⟩ := u228
            try dsimp only at hq
            obtain ⟨h233, h234, h235⟩ := hq
            have hP : va_P D vwCl [(wo, .inl (y 0, 25, .inl v212)), (fs, .inl (y 0, 25, .inl v213)), (sc, .inl (y 0, 25, .inl v214)), (tx, .inr (7, [.ref bys, .int (nI ln), .int v229, .int (nI v230), .int (nI v231), .int v232, .ref wo, .ref fs, .ref sc, .int (nI v209), .int (nI v210), .int (nI v211)])), (bys, .inl (y 1, 150, .inl fby))] H := hP
            have hD : va_D A [(wo, .inl (y 0, 25, .inl v212)), (fs, .inl (y 0, 25, .inl v213)), (sc, .inl (y 0, 25, .inl v214)), (tx, .inr (7, [.ref bys, .int (nI ln), .int v229, .int (nI v230), .int (nI v231), .int v232, .ref wo, .ref fs, .ref sc, .int (nI v209), .int (nI v210), .int (nI v211)])), (bys, .inl (y 1, 150, .inl fby))] := hD
            refine lv_aload_n hx hb dX7_parse_61 rfl (lv_at hl 1 rfl) ?_
            refine va_get (D := D) (ci := 7) (v := .int v229) (C := RX7) (T := TX7) (N := 12) hx hb hts iw7 hown hK hP 3 rfl rfl 2 (by decide) fw6 (fun _ h9 => h9) rfl dX7_parse_62 ?_
            refine lv_iconst (v := 3) hx hb dX7_parse_65 (by decide) ?_
            refine lv_icmp_eq (tgt := 72) hx hb dX7_parse_66 (by decide) (fun h236 => ?_) (fun h237 => ?_)
            · skip
              refine lv_iinc (v := (nI (j91 + 1))) (lv' := [(1, .int (nI (j91 + 1))), (0, .ref tx)]) hx hb dX7_parse_72 hl (k := 0) rfl (nI_1 j91) (by decide) rfl (fun ls hl => ?_)
              refine lv_goto (tgt := 23) hx hb dX7_parse_75 (by decide) ?_
              exact ihj91 (j91 + 1) v229 v230 v231 v232 v209 v210 v211 v212 v213 v214 H locs ls (by omega) (by omega) (by omega) (by omega) (by omega) (by omega) (by omega) h221 (hP.sub [3, 4, 0, 1, 2] rfl) (hD.sub [3, 4, 0, 1, 2] (by decide) rfl) hS (lv_sub hl [0, 1] rfl)
            · skip
              refine lv_goto (tgt := 78) hx hb dX7_parse_69 (by decide) ?_
              refine lv_bipush (v := (-10)) hx hb dX7_parse_78 (by decide) ?_
              refine lv_aload_n hx hb dX7_parse_80 rfl (lv_at hl 1 rfl) ?_
              refine va_get (D := D) (ci := 7) (v := .int (nI v230)) (C := RX7) (T := TX7) (N := 12) hx hb hts iw7 hown hK hP 3 rfl rfl 3 (by decide) fw5 (fun _ h9 => h9) rfl dX7_parse_81 ?_
              refine lv_isub hx hb dX7_parse_84 ?_
              exact W.iret (v := ((-10) - (nI v230))) hx hb hr (fun tZ ht hW => ⟨⟨((-10) - (nI v230)), (v229, v230, v231, v232, (nI v209), (nI v210), (nI v211), v212, v213, v214), rfl, ⟨by first | omega | (dsimp only; omega), by first | omega | (dsimp only; omega), kz_pq.neg (kz_tenneg (by omega))⟩, by rw [ht]; exact hP.sub [3, 4, 0, 1, 2] rfl, hD.sub [3, 4, 0, 1, 2] (by decide) rfl⟩, hS.F ht⟩) hS.2.2 dX7_parse_85
        · skip
          refine lv_iload_n hx hb dX7_parse_40 rfl (lv_at hl 0 rfl) ?_
          refine lv_if_le (tgt := 46) hx hb dX7_parse_41 (by decide) (fun h238 => ?_) (fun h239 => ?_)
          · skip
            have h238 : j91 ≤ 0 := (nI_leI (a := j91) (b := 0) (by omega) (by omega)).mp h238
            refine lv_aload_n hx hb dX7_parse_46 rfl (lv_at hl 1 rfl) ?_
            refine lv_iload_n hx hb dX7_parse_47 rfl (lv_at hl 0 rfl) ?_
            have hs240 : kw_Split [(wo, .inl (y 0, 25, .inl x96)), (fs, .inl (y 0, 25, .inl x97)), (sc, .inl (y 0, 25, .inl x98)), (tx, .inr (7, [.ref bys, .int (nI ln), .int v193, .int (nI v194), .int (nI v195), .int v196, .ref wo, .ref fs, .ref sc, .int (nI x93), .int (nI x94), .int (nI x95)])), (bys, .inl (y 1, 150, .inl fby))] [(tx, .inr (7, [.ref bys, .int (nI ln), .int v193, .int (nI v194), .int (nI v195), .int v196, .ref wo, .ref fs, .ref sc, .int (nI x93), .int (nI x94), .int (nI x95)])), (bys, .inl (y 1, 150, .inl fby)), (wo, .inl (y 0, 25, .inl x96)), (fs, .inl (y 0, 25, .inl x97)), (sc, .inl (y 0, 25, .inl x98))] [] [3, 4, 0, 1, 2] [] := ⟨rfl, rfl, rfl, rfl, rfl, by decide⟩
            refine kw_go_i hs240 hP hD hS hA (va_runV (As := [.int (nI j91)]) (rest := []) ⟨hx, hb, hml, hown, hts⟩ (gt_isItem l D y aK aV tx bys wo fs sc ln v194 v195 x93 x94 x95 v193 v196 fby x96 x97 x98 j91 hln (by omega) (by omega) (by omega) hI0_j91 (by omega) (by omega) (by omega) _) (cwV 1 hts gX7_parse_X7_isItem rfl rfl rfl (by decide +kernel) ⟨Nat.le_of_ble_eq_true rfl, Nat.le_of_ble_eq_true rfl⟩) (kz_PreV (ci := 7) (q0 := 3) hs240 hP hD hK hN rfl rfl hZ hS hA) rfl rfl hl.1 rfl (lv_room (Nat.le_of_ble_eq_true rfl)) dX7_parse_48 ⟨Nat.le_of_ble_eq_true rfl, Nat.le_of_ble_eq_true rfl⟩) (fun r241 u242 H locs hq hP hD hS => ?_)
            obtain ⟨v243, v244, v245, v246, v247, v248, v249, v250, v251, v252⟩ := u242
            try dsimp only at hq
            obtain ⟨h253, h254, h255, h256, h257, (rfl | rfl), h258, h259⟩ := hq
            · skip
              have hP : va_P D vwCl [(tx, .inr (7, [.ref bys, .int (nI ln), .int v243, .int (nI v244), .int (nI v245), .int v246, .ref wo, .ref fs, .ref sc, .int (nI v247), .int (nI v248), .int (nI v249)])), (bys, .inl (y 1, 150, .inl fby)), (wo, .inl (y 0, 25, .inl v250)), (fs, .inl (y 0, 25, .inl v251)), (sc, .inl (y 0, 25, .inl v252))] H := hP
              have hD : va_D A [(tx, .inr (7, [.ref bys, .int (nI ln), .int v243, .int (nI v244), .int (nI v245), .int v246, .ref wo, .ref fs, .ref sc, .int (nI v247), .int (nI v248), .int (nI v249)])), (bys, .inl (y 1, 150, .inl fby)), (wo, .inl (y 0, 25, .inl v250)), (fs, .inl (y 0, 25, .inl v251)), (sc, .inl (y 0, 25, .inl v252))] := hD
              refine lv_if_ne (tgt := 57) hx hb dX7_parse_51 (by decide) (fun h9 => absurd h9 (by decide)) (fun _ => ?_)
              refine lv_goto (tgt := 78) hx hb dX7_parse_54 (by decide) ?_
              refine lv_bipush (v := (-10)) hx hb dX7_parse_78 (by decide) ?_
              refine lv_aload_n hx hb dX7_parse_80 rfl (lv_at hl 1 rfl) ?_
              refine va_get (D := D) (ci := 7) (v := .int (nI v244)) (C := RX7) (T := TX7) (N := 12) hx hb hts iw7 hown hK hP 0 rfl rfl 3 (by decide) fw5 (fun _ h9 => h9) rfl dX7_parse_81 ?_
              refine lv_isub hx hb dX7_parse_84 ?_
              exact W.iret (v := ((-10) - (nI v244))) hx hb hr (fun tZ ht hW => ⟨⟨((-10) - (nI v244)), (v243, v244, v245, v246, (nI v247), (nI v248), (nI v249), v250, v251, v252), rfl, ⟨by first | omega | (dsimp only; omega), by first | omega | (dsimp only; omega), kz_pq.neg (kz_tenneg (by omega))⟩, by rw [ht]; exact hP.sub [0, 1, 2, 3, 4] rfl, hD.sub [0, 1, 2, 3, 4] (by decide) rfl⟩, hS.F ht⟩) hS.2.2 dX7_parse_85
            · skip
              have hP : va_P D vwCl [(tx, .inr (7, [.ref bys, .int (nI ln), .int v243, .int (nI v244), .int (nI v245), .int v246, .ref wo, .ref fs, .ref sc, .int (nI v247), .int (nI v248), .int (nI v249)])), (bys, .inl (y 1, 150, .inl fby)), (wo, .inl (y 0, 25, .inl v250)), (fs, .inl (y 0, 25, .inl v251)), (sc, .inl (y 0, 25, .inl v252))] H := hP
              have hD : va_D A [(tx, .inr (7, [.ref bys, .int (nI ln), .int v243, .int (nI v244), .int (nI v245), .int v246, .ref wo, .ref fs, .ref sc, .int (nI v247), .int (nI v248), .int (nI v249)])), (bys, .inl (y 1, 150, .inl fby)), (wo, .inl (y 0, 25, .inl v250)), (fs, .inl (y 0, 25, .inl v251)), (sc, .inl (y 0, 25, .inl v252))] := hD
              have h259 : kz_ok v250 v251 (j91 + 1) v247 v248 := h259 rfl
              refine lv_if_ne (tgt := 57) hx hb dX7_parse_51 (by decide) (fun _ => ?_) (fun h9 => absurd h9 (by decide))
              have hm260 : x93 ≤ 6 := hI0_j91.2.2.1
              have hm261 : x94 ≤ 5 := hI0_j91.2.2.2.1
              have hm262 : v247 ≤ 6 := h259.2.2.1
              have hm263 : v248 ≤ 5 := h259.2.2.2.1
              refine lv_aload_n hx hb dX7_parse_57 rfl (lv_at hl 1 rfl) ?_
              have hs264 : kw_Split [(tx, .inr (7, [.ref bys, .int (nI ln), .int v243, .int (nI v244), .int (nI v245), .int v246, .ref wo, .ref fs, .ref sc, .int (nI v247), .int (nI v248), .int (nI v249)])), (bys, .inl (y 1, 150, .inl fby)), (wo, .inl (y 0, 25, .inl v250)), (fs, .inl (y 0, 25, .inl v251)), (sc, .inl (y 0, 25, .inl v252))] [(tx, .inr (7, [.ref bys, .int (nI ln), .int v243, .int (nI v244), .int (nI v245), .int v246, .ref wo, .ref fs, .ref sc, .int (nI v247), .int (nI v248), .int (nI v249)])), (bys, .inl (y 1, 150, .inl fby))] [(wo, .inl (y 0, 25, .inl v250)), (fs, .inl (y 0, 25, .inl v251)), (sc, .inl (y 0, 25, .inl v252))] [0, 1] [2, 3, 4] := ⟨rfl, rfl, rfl, rfl, rfl, by decide⟩
              refine kw_go_v hs264 hP hD hS hA (va_runV (As := []) (rest := []) ⟨hx, hb, hml, hown, hts⟩ (gt_advance l D y tx bys wo fs sc ln v244 v245 v243 v246 (nI v247) (nI v248) (nI v249) fby hln (by omega) _) (cwV 0 hts gX7_parse_X7_advance rfl rfl rfl (by decide +kernel) ⟨Nat.le_of_ble_eq_true rfl, Nat.le_of_ble_eq_true rfl⟩) (kw_PreV (ci := 7) (q0 := 0) hs264 hP hD hK hN rfl rfl) rfl rfl hl.1 rfl (lv_room (Nat.le_of_ble_eq_true rfl)) dX7_parse_58 ⟨Nat.le_of_ble_eq_true rfl, Nat.le_of_ble_eq_true rfl⟩) (fun u266 H locs hq hP hD hS => ?_)
              obtain ⟨v267, v268, v269, v270⟩ := u266
              try dsimp only at hq
              obtain ⟨h271, h272, h273⟩ := hq
              have hP : va_P D vwCl [(wo, .inl (y 0, 25, .inl v250)), (fs, .inl (y 0, 25, .inl v251)), (sc, .inl (y 0, 25, .inl v252)), (tx, .inr (7, [.ref bys, .int (nI ln), .int v267, .int (nI v268), .int (nI v269), .int v270, .ref wo, .ref fs, .ref sc, .int (nI v247), .int (nI v248), .int (nI v249)])), (bys, .inl (y 1, 150, .inl fby))] H := hP
              have hD : va_D A [(wo, .inl (y 0, 25, .inl v250)), (fs, .inl (y 0, 25, .inl v251)), (sc, .inl (y 0, 25, .inl v252)), (tx, .inr (7, [.ref bys, .int (nI ln), .int v267, .int (nI v268), .int (nI v269), .int v270, .ref wo, .ref fs, .ref sc, .int (nI v247), .int (nI v248), .int (nI v249)])), (bys, .inl (y 1, 150, .inl fby))] := hD
              refine lv_aload_n hx hb dX7_parse_61 rfl (lv_at hl 1 rfl) ?_
              refine va_get (D := D) (ci := 7) (v := .int v267) (C := RX7) (T := TX7) (N := 12) hx hb hts iw7 hown hK hP 3 rfl rfl 2 (by decide) fw6 (fun _ h9 => h9) rfl dX7_parse_62 ?_
              refine lv_iconst (v := 3) hx hb dX7_parse_65 (by decide) ?_
              refine lv_icmp_eq (tgt := 72) hx hb dX7_parse_66 (by decide) (fun h274 => ?_) (fun h275 => ?_)
              · skip
                refine lv_iinc (v := (nI (j91 + 1))) (lv' := [(1, .int (nI (j91 + 1))), (0, .ref tx)]) hx hb dX7_parse_72 hl (k := 0) rfl (nI_1 j91) (by decide) rfl (fun ls hl => ?_)
                refine lv_goto (tgt := 23) hx hb dX7_parse_75 (by decide) ?_
                exact ihj91 (j91 + 1) v267 v268 v269 v270 v247 v248 v249 v250 v251 v252 H locs ls (by omega) (by omega) (by omega) (by omega) (by omega) (by omega) (by omega) h259 (hP.sub [3, 4, 0, 1, 2] rfl) (hD.sub [3, 4, 0, 1, 2] (by decide) rfl) hS (lv_sub hl [0, 1] rfl)
              · skip
                refine lv_goto (tgt := 78) hx hb dX7_parse_69 (by decide) ?_
                refine lv_bipush (v := (-10)) hx hb dX7_parse_78 (by decide) ?_
                refine lv_aload_n hx hb dX7_parse_80 rfl (lv_at hl 1 rfl) ?_
                refine va_get (D := D) (ci := 7) (v := .int (nI v268)) (C := RX7) (T := TX7) (N := 12) hx hb hts iw7 hown hK hP 3 rfl rfl 3 (by decide) fw5 (fun _ h9 => h9) rfl dX7_parse_81 ?_
                refine lv_isub hx hb dX7_parse_84 ?_
                exact W.iret (v := ((-10) - (nI v268))) hx hb hr (fun tZ ht hW => ⟨⟨((-10) - (nI v268)), (v267, v268, v269, v270, (nI v247), (nI v248), (nI v249), v250, v251, v252), rfl, ⟨by first | omega | (dsimp only; omega), by first | omega | (dsimp only; omega), kz_pq.neg (kz_tenneg (by omega))⟩, by rw [ht]; exact hP.sub [3, 4, 0, 1, 2] rfl, hD.sub [3, 4, 0, 1, 2] (by decide) rfl⟩, hS.F ht⟩) hS.2.2 dX7_parse_85
          · skip
            have h239 : ¬ j91 ≤ 0 := fun q9 => h239 ((nI_leI (a := j91) (b := 0) (by omega) (by omega)).mpr q9)
            refine lv_iload_n hx hb dX7_parse_44 rfl (lv_at hl 0 rfl) ?_
            exact W.iret (v := (nI j91)) hx hb hr (fun tZ ht hW => ⟨⟨(nI j91), (v193, v194, v195, v196, (nI x93), (nI x94), (nI x95), x96, x97, x98), rfl, ⟨by first | omega | (dsimp only; omega), by first | omega | (dsimp only; omega), kz_pq.mk (by omega) (by omega) hI0_j91⟩, by rw [ht]; exact hP.sub [3, 4, 0, 1, 2] rfl, hD.sub [3, 4, 0, 1, 2] (by decide) rfl⟩, hS.F ht⟩) hS.2.2 dX7_parse_45
  exact lp187 (25 + 1) 0 tok sta 0 num 0 0 12 fwo ffs fsc _ _ _ (by omega) (by omega) (by omega) (by omega) (by omega) (by omega) (by omega) (kz_ok_0 _ _) hP hD hS (lv_sub hl [0, 1] rfl)
