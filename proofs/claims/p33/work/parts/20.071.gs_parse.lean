set_option maxHeartbeats 4000000 in
set_option maxRecDepth 100000 in
theorem gs_parse (l : Launch) (D : va_G) (y : Nat → ClassId) (aK : Nat → Nat) (aV : Nat → Nat) (tx : Nat) (bys : Nat) (wo : Nat) (fs : Nat) (sc : Nat) (ln : Nat) (sta : Nat) (en : Nat) (tok : Int32) (num : Int32) (tfi : Int32) (tgl : Int32) (tst : Int32) (fby : Nat → Int32) (fwo : Nat → Int32) (ffs : Nat → Int32) (fsc : Nat → Int32) (hln : ln ≤ 150) (hTs : sta ≤ 150) (hTe : en ≤ 150) : kz_Mi l yX7_parse wsX7_parse ({ frames := 8, cells := 0, slots := 0, locals := 210 }) D y [.ref tx] [(tx, .inr (7, [.ref bys, .int (nI ln), .int tok, .int (nI sta), .int (nI en), .int num, .ref wo, .ref fs, .ref sc, .int tfi, .int tgl, .int tst])), (bys, .inl (y 1, 150, .inl fby)), (wo, .inl (y 0, 25, .inl fwo)), (fs, .inl (y 0, 25, .inl ffs)), (sc, .inl (y 0, 25, .inl fsc))] aK aV (fun (r : Int32) (u : Int32 × Nat × Nat × Int32 × Int32 × Int32 × Int32 × (Nat → Int32) × (Nat → Int32) × (Nat → Int32)) => u.2.1 ≤ 150 ∧ u.2.2.1 ≤ 150 ∧ kz_pR fby ln u.2.2.2.2.2.2.2.1 u.2.2.2.2.2.2.2.2.1 r) (fun u => [(tx, .inr (7, [.ref bys, .int (nI ln), .int u.1, .int (nI u.2.1), .int (nI u.2.2.1), .int u.2.2.2.1, .ref wo, .ref fs, .ref sc, .int u.2.2.2.2.1, .int u.2.2.2.2.2.1, .int u.2.2.2.2.2.2.1])), (bys, .inl (y 1, 150, .inl fby)), (wo, .inl (y 0, 25, .inl u.2.2.2.2.2.2.2.1)), (fs, .inl (y 0, 25, .inl u.2.2.2.2.2.2.2.2.1)), (sc, .inl (y 0, 25, .inl u.2.2.2.2.2.2.2.2.2))]) 0 0 := by
  refine kz_Mi.of (cc := cX7_parse) (maxL := 2) (ret := (some .int)) (by decide) rfl ?_
  intro pZ eZ s mZ beZ meZ cZ A hE
  obtain ⟨hx, hb, hr, hml, hts, hown, hlocks, hin, hA, hP, hD, hK, hN, hZ⟩ := hE
  have hS : va_S A s.heap s.heap [] := va_S.rf
  have hl := lv_entry ([.ref tx]) (n := 2) (Nat.le_of_ble_eq_true rfl)
  rw [lg_entry_eq]
  generalize (lg_sl ([.ref tx]) ++ List.replicate (2 - (lg_sl ([.ref tx])).length) Slot.unset).toArray = ls at hl ⊢
  have hl : lv_has ls 2 [(0, .ref tx)] := hl
  have fw1 := hts (.fieldLink RX7 29 "GleanDusk$Text" "end" "I") (List.mem_of_getElem? (i := 1) rfl)
  have fw2 := hts (.fieldLink RX7 32 "GleanDusk$Text" "fields" "I") (List.mem_of_getElem? (i := 2) rfl)
  have fw3 := hts (.fieldLink RX7 35 "GleanDusk$Text" "gleaners" "I") (List.mem_of_getElem? (i := 3) rfl)
  have fw4 := hts (.fieldLink RX7 38 "GleanDusk$Text" "steps" "I") (List.mem_of_getElem? (i := 4) rfl)
  have fw5 := hts (.fieldLink RX7 44 "GleanDusk$Text" "token" "I") (List.mem_of_getElem? (i := 5) rfl)
  have fw6 := hts (.fieldLink RX7 51 "GleanDusk$Text" "start" "I") (List.mem_of_getElem? (i := 6) rfl)
  have iw7 : ∀ w ∈ wsX70, w ∈ wsX7_parse := fun _ h => List.mem_cons_of_mem _ (List.mem_append_right _ h)
  refine lv_aload_n hx hb dX7_parse_0 rfl (lv_at hl 0 rfl) ?_
  refine lv_iconst (v := 0) hx hb dX7_parse_1 (by decide) ?_
  refine va_put (D := D) (ci := 7) (v := .int 0) (ty := .int) (C := RX7) (T := TX7) (N := 12) hx hb hts iw7 tyX7 tyX7_ok nmX7 hown hK hP hD hS 0 rfl rfl 4 (by decide) fw1 (fun _ h9 => h9) rfl (by decide +kernel) rfl rfl (Nat.le_of_ble_eq_true rfl) dX7_parse_2 (fun H locs hP hD hS => ?_)
  have hP : va_P D vwCl [(tx, .inr (7, [.ref bys, .int (nI ln), .int tok, .int (nI sta), .int 0, .int num, .ref wo, .ref fs, .ref sc, .int tfi, .int tgl, .int tst])), (bys, .inl (y 1, 150, .inl fby)), (wo, .inl (y 0, 25, .inl fwo)), (fs, .inl (y 0, 25, .inl ffs)), (sc, .inl (y 0, 25, .inl fsc))] H := hP
  have hD : va_D A [(tx, .inr (7, [.ref bys, .int (nI ln), .int tok, .int (nI sta), .int 0, .int num, .ref wo, .ref fs, .ref sc, .int tfi, .int tgl, .int tst])), (bys, .inl (y 1, 150, .inl fby)), (wo, .inl (y 0, 25, .inl fwo)), (fs, .inl (y 0, 25, .inl ffs)), (sc, .inl (y 0, 25, .inl fsc))] := hD
  refine lv_aload_n hx hb dX7_parse_5 rfl (lv_at hl 0 rfl) ?_
  refine lv_iconst (v := 0) hx hb dX7_parse_6 (by decide) ?_
  refine va_put (D := D) (ci := 7) (v := .int 0) (ty := .int) (C := RX7) (T := TX7) (N := 12) hx hb hts iw7 tyX7 tyX7_ok nmX7 hown hK hP hD hS 0 rfl rfl 9 (by decide) fw2 (fun _ h9 => h9) rfl (by decide +kernel) rfl rfl (Nat.le_of_ble_eq_true rfl) dX7_parse_7 (fun H locs hP hD hS => ?_)
  have hP : va_P D vwCl [(tx, .inr (7, [.ref bys, .int (nI ln), .int tok, .int (nI sta), .int 0, .int num, .ref wo, .ref fs, .ref sc, .int 0, .int tgl, .int tst])), (bys, .inl (y 1, 150, .inl fby)), (wo, .inl (y 0, 25, .inl fwo)), (fs, .inl (y 0, 25, .inl ffs)), (sc, .inl (y 0, 25, .inl fsc))] H := hP
  have hD : va_D A [(tx, .inr (7, [.ref bys, .int (nI ln), .int tok, .int (nI sta), .int 0, .int num, .ref wo, .ref fs, .ref sc, .int 0, .int tgl, .int tst])), (bys, .inl (y 1, 150, .inl fby)), (wo, .inl (y 0, 25, .inl fwo)), (fs, .inl (y 0, 25, .inl ffs)), (sc, .inl (y 0, 25, .inl fsc))] := hD
  refine lv_aload_n hx hb dX7_parse_10 rfl (lv_at hl 0 rfl) ?_
  refine lv_iconst (v := 0) hx hb dX7_parse_11 (by decide) ?_
  refine va_put (D := D) (ci := 7) (v := .int 0) (ty := .int) (C := RX7) (T := TX7) (N := 12) hx hb hts iw7 tyX7 tyX7_ok nmX7 hown hK hP hD hS 0 rfl rfl 10 (by decide) fw3 (fun _ h9 => h9) rfl (by decide +kernel) rfl rfl (Nat.le_of_ble_eq_true rfl) dX7_parse_12 (fun H locs hP hD hS => ?_)
  have hP : va_P D vwCl [(tx, .inr (7, [.ref bys, .int (nI ln), .int tok, .int (nI sta), .int 0, .int num, .ref wo, .ref fs, .ref sc, .int 0, .int 0, .int tst])), (bys, .inl (y 1, 150, .inl fby)), (wo, .inl (y 0, 25, .inl fwo)), (fs, .inl (y 0, 25, .inl ffs)), (sc, .inl (y 0, 25, .inl fsc))] H := hP
  have hD : va_D A [(tx, .inr (7, [.ref bys, .int (nI ln), .int tok, .int (nI sta), .int 0, .int num, .ref wo, .ref fs, .ref sc, .int 0, .int 0, .int tst])), (bys, .inl (y 1, 150, .inl fby)), (wo, .inl (y 0, 25, .inl fwo)), (fs, .inl (y 0, 25, .inl ffs)), (sc, .inl (y 0, 25, .inl fsc))] := hD
  refine lv_aload_n hx hb dX7_parse_15 rfl (lv_at hl 0 rfl) ?_
  refine lv_bipush (v := 12) hx hb dX7_parse_16 (by decide) ?_
  refine va_put (D := D) (ci := 7) (v := .int 12) (ty := .int) (C := RX7) (T := TX7) (N := 12) hx hb hts iw7 tyX7 tyX7_ok nmX7 hown hK hP hD hS 0 rfl rfl 11 (by decide) fw4 (fun _ h9 => h9) rfl (by decide +kernel) rfl rfl (Nat.le_of_ble_eq_true rfl) dX7_parse_18 (fun H locs hP hD hS => ?_)
  have hP : va_P D vwCl [(tx, .inr (7, [.ref bys, .int (nI ln), .int tok, .int (nI sta), .int 0, .int num, .ref wo, .ref fs, .ref sc, .int 0, .int 0, .int 12])), (bys, .inl (y 1, 150, .inl fby)), (wo, .inl (y 0, 25, .inl fwo)), (fs, .inl (y 0, 25, .inl ffs)), (sc, .inl (y 0, 25, .inl fsc))] H := hP
  have hD : va_D A [(tx, .inr (7, [.ref bys, .int (nI ln), .int tok, .int (nI sta), .int 0, .int num, .ref wo, .ref fs, .ref sc, .int 0, .int 0, .int 12])), (bys, .inl (y 1, 150, .inl fby)), (wo, .inl (y 0, 25, .inl fwo)), (fs, .inl (y 0, 25, .inl ffs)), (sc, .inl (y 0, 25, .inl fsc))] := hD
  refine lv_iconst (v := 0) hx hb dX7_parse_21 (by decide) ?_
  refine lv_istore_n (lv' := [(1, .int 0), (0, .ref tx)]) hx hb dX7_parse_22 rfl hl (by decide) rfl (fun ls hl => ?_)
  refine lv_iload_n hx hb dX7_parse_23 rfl (lv_at hl 0 rfl) ?_
  refine lv_bipush (v := 25) hx hb dX7_parse_24 (by decide) ?_
  refine lv_icmp_ge (tgt := 78) hx hb dX7_parse_26 (by decide) (fun h9 => absurd h9 (by decide)) (fun _ => ?_)
  refine lv_aload_n hx hb dX7_parse_29 rfl (lv_at hl 1 rfl) ?_
  have hs1 : kw_Split [(tx, .inr (7, [.ref bys, .int (nI ln), .int tok, .int (nI sta), .int 0, .int num, .ref wo, .ref fs, .ref sc, .int 0, .int 0, .int 12])), (bys, .inl (y 1, 150, .inl fby)), (wo, .inl (y 0, 25, .inl fwo)), (fs, .inl (y 0, 25, .inl ffs)), (sc, .inl (y 0, 25, .inl fsc))] [(tx, .inr (7, [.ref bys, .int (nI ln), .int tok, .int (nI sta), .int 0, .int num, .ref wo, .ref fs, .ref sc, .int 0, .int 0, .int 12])), (bys, .inl (y 1, 150, .inl fby))] [(wo, .inl (y 0, 25, .inl fwo)), (fs, .inl (y 0, 25, .inl ffs)), (sc, .inl (y 0, 25, .inl fsc))] [0, 1] [2, 3, 4] := ⟨rfl, rfl, rfl, rfl, rfl, by decide⟩
  refine kw_go_v hs1 hP hD hS hA (va_runV (As := []) (rest := []) ⟨hx, hb, hml, hown, hts⟩ (gs_advance l D y tx bys wo fs sc ln sta 0 tok num 0 0 12 fby hln (by omega) _) (cwV 0 hts gX7_parse_X7_advance rfl rfl rfl (by decide +kernel) ⟨Nat.le_of_ble_eq_true rfl, Nat.le_of_ble_eq_true rfl⟩) (kw_PreV (ci := 7) (q0 := 0) hs1 hP hD hK hN rfl rfl) rfl rfl hl.1 rfl (lv_room (Nat.le_of_ble_eq_true rfl)) dX7_parse_30 ⟨Nat.le_of_ble_eq_true rfl, Nat.le_of_ble_eq_true rfl⟩) (fun u3 H locs hq hP hD hS => ?_)
  obtain ⟨v4, v5, v6, v7⟩ := u3
  try dsimp only at hq
  obtain ⟨h8, h9, h10, h11, h12⟩ := hq
  have hP : va_P D vwCl [(wo, .inl (y 0, 25, .inl fwo)), (fs, .inl (y 0, 25, .inl ffs)), (sc, .inl (y 0, 25, .inl fsc)), (tx, .inr (7, [.ref bys, .int (nI ln), .int v4, .int (nI v5), .int (nI v6), .int v7, .ref wo, .ref fs, .ref sc, .int 0, .int 0, .int 12])), (bys, .inl (y 1, 150, .inl fby))] H := hP
  have hD : va_D A [(wo, .inl (y 0, 25, .inl fwo)), (fs, .inl (y 0, 25, .inl ffs)), (sc, .inl (y 0, 25, .inl fsc)), (tx, .inr (7, [.ref bys, .int (nI ln), .int v4, .int (nI v5), .int (nI v6), .int v7, .ref wo, .ref fs, .ref sc, .int 0, .int 0, .int 12])), (bys, .inl (y 1, 150, .inl fby))] := hD
  obtain ⟨rfl, rfl, rfl, hn13⟩ := h12
  have hk14 := ks_K4 fby ln 0
  have hP : va_P D vwCl [(wo, .inl (y 0, 25, .inl fwo)), (fs, .inl (y 0, 25, .inl ffs)), (sc, .inl (y 0, 25, .inl fsc)), (tx, .inr (7, [.ref bys, .int (nI ln), .int (nI (ks_K fby ln 0)), .int (nI (ks_S fby ln 0)), .int (nI (ks_E fby ln 0)), .int v7, .ref wo, .ref fs, .ref sc, .int 0, .int 0, .int 12])), (bys, .inl (y 1, 150, .inl fby))] H := hP
  have hD : va_D A [(wo, .inl (y 0, 25, .inl fwo)), (fs, .inl (y 0, 25, .inl ffs)), (sc, .inl (y 0, 25, .inl fsc)), (tx, .inr (7, [.ref bys, .int (nI ln), .int (nI (ks_K fby ln 0)), .int (nI (ks_S fby ln 0)), .int (nI (ks_E fby ln 0)), .int v7, .ref wo, .ref fs, .ref sc, .int 0, .int 0, .int 12])), (bys, .inl (y 1, 150, .inl fby))] := hD
  refine lv_aload_n hx hb dX7_parse_33 rfl (lv_at hl 1 rfl) ?_
  refine va_get (D := D) (ci := 7) (v := .int (nI (ks_K fby ln 0))) (C := RX7) (T := TX7) (N := 12) hx hb hts iw7 hown hK hP 3 rfl rfl 2 (by decide) fw5 (fun _ h9 => h9) rfl dX7_parse_34 ?_
  refine lv_if_ne (tgt := 46) hx hb dX7_parse_37 (by decide) (fun h15 => ?_) (fun h16 => ?_)
  · skip
    have h15 : ¬ (ks_K fby ln 0) = 0 := fun q9 => h15 ((nI_eq (a := (ks_K fby ln 0)) (b := 0) (by omega) (by omega)).mpr q9)
    refine lv_aload_n hx hb dX7_parse_46 rfl (lv_at hl 1 rfl) ?_
    refine lv_iload_n hx hb dX7_parse_47 rfl (lv_at hl 0 rfl) ?_
    have hs17 : kw_Split [(wo, .inl (y 0, 25, .inl fwo)), (fs, .inl (y 0, 25, .inl ffs)), (sc, .inl (y 0, 25, .inl fsc)), (tx, .inr (7, [.ref bys, .int (nI ln), .int (nI (ks_K fby ln 0)), .int (nI (ks_S fby ln 0)), .int (nI (ks_E fby ln 0)), .int v7, .ref wo, .ref fs, .ref sc, .int 0, .int 0, .int 12])), (bys, .inl (y 1, 150, .inl fby))] [(tx, .inr (7, [.ref bys, .int (nI ln), .int (nI (ks_K fby ln 0)), .int (nI (ks_S fby ln 0)), .int (nI (ks_E fby ln 0)), .int v7, .ref wo, .ref fs, .ref sc, .int 0, .int 0, .int 12])), (bys, .inl (y 1, 150, .inl fby)), (wo, .inl (y 0, 25, .inl fwo)), (fs, .inl (y 0, 25, .inl ffs)), (sc, .inl (y 0, 25, .inl fsc))] [] [3, 4, 0, 1, 2] [] := ⟨rfl, rfl, rfl, rfl, rfl, by decide⟩
    refine kw_go_i hs17 hP hD hS hA (va_runV (As := [.int 0]) (rest := []) ⟨hx, hb, hml, hown, hts⟩ (gs_isItem0 l D y aK aV tx bys wo fs sc ln (ks_K fby ln 0) (ks_S fby ln 0) (ks_E fby ln 0) 0 0 12 v7 fby fwo ffs fsc hln (by omega) (by omega) (by omega) _) (cwV 1 hts gX7_parse_X7_isItem rfl rfl rfl (by decide +kernel) ⟨Nat.le_of_ble_eq_true rfl, Nat.le_of_ble_eq_true rfl⟩) (kz_PreV (ci := 7) (q0 := 3) hs17 hP hD hK hN rfl rfl hZ hS hA) rfl rfl hl.1 rfl (lv_room (Nat.le_of_ble_eq_true rfl)) dX7_parse_48 ⟨Nat.le_of_ble_eq_true rfl, Nat.le_of_ble_eq_true rfl⟩) (fun r18 u19 H locs hq hP hD hS => ?_)
    obtain ⟨v20, v21, v22, v23, v24, v25⟩ := u19
    try dsimp only at hq
    obtain ⟨h26, h27, (rfl | rfl), h28, h29⟩ := hq
    · skip
      have hP : va_P D vwCl [(tx, .inr (7, [.ref bys, .int (nI ln), .int v20, .int (nI v21), .int (nI v22), .int v23, .ref wo, .ref fs, .ref sc, .int (nI 0), .int (nI 0), .int (nI 12)])), (bys, .inl (y 1, 150, .inl fby)), (wo, .inl (y 0, 25, .inl v24)), (fs, .inl (y 0, 25, .inl v25)), (sc, .inl (y 0, 25, .inl fsc))] H := hP
      have hD : va_D A [(tx, .inr (7, [.ref bys, .int (nI ln), .int v20, .int (nI v21), .int (nI v22), .int v23, .ref wo, .ref fs, .ref sc, .int (nI 0), .int (nI 0), .int (nI 12)])), (bys, .inl (y 1, 150, .inl fby)), (wo, .inl (y 0, 25, .inl v24)), (fs, .inl (y 0, 25, .inl v25)), (sc, .inl (y 0, 25, .inl fsc))] := hD
      have h28 : ks_it0 fby ln (ks_K fby ln 0) (ks_S fby ln 0) (ks_E fby ln 0) = ks_flt v21 := h28 rfl
      refine lv_if_ne (tgt := 57) hx hb dX7_parse_51 (by decide) (fun h9 => absurd h9 (by decide)) (fun _ => ?_)
      refine lv_goto (tgt := 78) hx hb dX7_parse_54 (by decide) ?_
      refine lv_bipush (v := (-10)) hx hb dX7_parse_78 (by decide) ?_
      refine lv_aload_n hx hb dX7_parse_80 rfl (lv_at hl 1 rfl) ?_
      refine va_get (D := D) (ci := 7) (v := .int (nI v21)) (C := RX7) (T := TX7) (N := 12) hx hb hts iw7 hown hK hP 0 rfl rfl 3 (by decide) fw6 (fun _ h9 => h9) rfl dX7_parse_81 ?_
      refine lv_isub hx hb dX7_parse_84 ?_
      exact W.iret (v := ((-10) - (nI v21))) hx hb hr (fun tZ ht hW => ⟨⟨((-10) - (nI v21)), (v20, v21, v22, v23, (nI 0), (nI 0), (nI 12), v24, v25, fsc), rfl, ⟨by first | omega | (dsimp only; omega), by first | omega | (dsimp only; omega), kz_pR.flt (ks_readF h28) (by first | omega | (dsimp only; omega))⟩, by rw [ht]; exact hP.sub [0, 1, 2, 3, 4] rfl, hD.sub [0, 1, 2, 3, 4] (by decide) rfl⟩, hS.F ht⟩) hS.2.2 dX7_parse_85
    · skip
      have hP : va_P D vwCl [(tx, .inr (7, [.ref bys, .int (nI ln), .int v20, .int (nI v21), .int (nI v22), .int v23, .ref wo, .ref fs, .ref sc, .int (nI 0), .int (nI 0), .int (nI 12)])), (bys, .inl (y 1, 150, .inl fby)), (wo, .inl (y 0, 25, .inl v24)), (fs, .inl (y 0, 25, .inl v25)), (sc, .inl (y 0, 25, .inl fsc))] H := hP
      have hD : va_D A [(tx, .inr (7, [.ref bys, .int (nI ln), .int v20, .int (nI v21), .int (nI v22), .int v23, .ref wo, .ref fs, .ref sc, .int (nI 0), .int (nI 0), .int (nI 12)])), (bys, .inl (y 1, 150, .inl fby)), (wo, .inl (y 0, 25, .inl v24)), (fs, .inl (y 0, 25, .inl v25)), (sc, .inl (y 0, 25, .inl fsc))] := hD
      have h29 : kz_g0 fby ln (ks_K fby ln 0) (ks_S fby ln 0) (ks_E fby ln 0) v22 v24 v25 := h29 rfl
      refine lv_if_ne (tgt := 57) hx hb dX7_parse_51 (by decide) (fun _ => ?_) (fun h9 => absurd h9 (by decide))
      refine lv_aload_n hx hb dX7_parse_57 rfl (lv_at hl 1 rfl) ?_
      have hs30 : kw_Split [(tx, .inr (7, [.ref bys, .int (nI ln), .int v20, .int (nI v21), .int (nI v22), .int v23, .ref wo, .ref fs, .ref sc, .int (nI 0), .int (nI 0), .int (nI 12)])), (bys, .inl (y 1, 150, .inl fby)), (wo, .inl (y 0, 25, .inl v24)), (fs, .inl (y 0, 25, .inl v25)), (sc, .inl (y 0, 25, .inl fsc))] [(tx, .inr (7, [.ref bys, .int (nI ln), .int v20, .int (nI v21), .int (nI v22), .int v23, .ref wo, .ref fs, .ref sc, .int (nI 0), .int (nI 0), .int (nI 12)])), (bys, .inl (y 1, 150, .inl fby))] [(wo, .inl (y 0, 25, .inl v24)), (fs, .inl (y 0, 25, .inl v25)), (sc, .inl (y 0, 25, .inl fsc))] [0, 1] [2, 3, 4] := ⟨rfl, rfl, rfl, rfl, rfl, by decide⟩
      refine kw_go_v hs30 hP hD hS hA (va_runV (As := []) (rest := []) ⟨hx, hb, hml, hown, hts⟩ (gs_advance l D y tx bys wo fs sc ln v21 v22 v20 v23 (nI 0) (nI 0) (nI 12) fby hln (by omega) _) (cwV 0 hts gX7_parse_X7_advance rfl rfl rfl (by decide +kernel) ⟨Nat.le_of_ble_eq_true rfl, Nat.le_of_ble_eq_true rfl⟩) (kw_PreV (ci := 7) (q0 := 0) hs30 hP hD hK hN rfl rfl) rfl rfl hl.1 rfl (lv_room (Nat.le_of_ble_eq_true rfl)) dX7_parse_58 ⟨Nat.le_of_ble_eq_true rfl, Nat.le_of_ble_eq_true rfl⟩) (fun u32 H locs hq hP hD hS => ?_)
      obtain ⟨v33, v34, v35, v36⟩ := u32
      try dsimp only at hq
      obtain ⟨h37, h38, h39, h40, h41⟩ := hq
      have hP : va_P D vwCl [(wo, .inl (y 0, 25, .inl v24)), (fs, .inl (y 0, 25, .inl v25)), (sc, .inl (y 0, 25, .inl fsc)), (tx, .inr (7, [.ref bys, .int (nI ln), .int v33, .int (nI v34), .int (nI v35), .int v36, .ref wo, .ref fs, .ref sc, .int (nI 0), .int (nI 0), .int (nI 12)])), (bys, .inl (y 1, 150, .inl fby))] H := hP
      have hD : va_D A [(wo, .inl (y 0, 25, .inl v24)), (fs, .inl (y 0, 25, .inl v25)), (sc, .inl (y 0, 25, .inl fsc)), (tx, .inr (7, [.ref bys, .int (nI ln), .int v33, .int (nI v34), .int (nI v35), .int v36, .ref wo, .ref fs, .ref sc, .int (nI 0), .int (nI 0), .int (nI 12)])), (bys, .inl (y 1, 150, .inl fby))] := hD
      obtain ⟨rfl, rfl, rfl, hn42⟩ := h41
      have hk43 := ks_K4 fby ln v22
      have hP : va_P D vwCl [(wo, .inl (y 0, 25, .inl v24)), (fs, .inl (y 0, 25, .inl v25)), (sc, .inl (y 0, 25, .inl fsc)), (tx, .inr (7, [.ref bys, .int (nI ln), .int (nI (ks_K fby ln v22)), .int (nI (ks_S fby ln v22)), .int (nI (ks_E fby ln v22)), .int v36, .ref wo, .ref fs, .ref sc, .int (nI 0), .int (nI 0), .int (nI 12)])), (bys, .inl (y 1, 150, .inl fby))] H := hP
      have hD : va_D A [(wo, .inl (y 0, 25, .inl v24)), (fs, .inl (y 0, 25, .inl v25)), (sc, .inl (y 0, 25, .inl fsc)), (tx, .inr (7, [.ref bys, .int (nI ln), .int (nI (ks_K fby ln v22)), .int (nI (ks_S fby ln v22)), .int (nI (ks_E fby ln v22)), .int v36, .ref wo, .ref fs, .ref sc, .int (nI 0), .int (nI 0), .int (nI 12)])), (bys, .inl (y 1, 150, .inl fby))] := hD
      refine lv_aload_n hx hb dX7_parse_61 rfl (lv_at hl 1 rfl) ?_
      refine va_get (D := D) (ci := 7) (v := .int (nI (ks_K fby ln v22))) (C := RX7) (T := TX7) (N := 12) hx hb hts iw7 hown hK hP 3 rfl rfl 2 (by decide) fw5 (fun _ h9 => h9) rfl dX7_parse_62 ?_
      refine lv_iconst (v := 3) hx hb dX7_parse_65 (by decide) ?_
      refine lv_icmp_eq (tgt := 72) hx hb dX7_parse_66 (by decide) (fun h44 => ?_) (fun h45 => ?_)
      · skip
        have h44 : (ks_K fby ln v22) = 3 := (nI_eq (a := (ks_K fby ln v22)) (b := 3) (by omega) (by omega)).mp h44
        refine lv_iinc (v := 1) (lv' := [(1, .int 1), (0, .ref tx)]) hx hb dX7_parse_72 hl (k := 0) rfl (by decide) (by decide) rfl (fun ls hl => ?_)
        refine lv_goto (tgt := 23) hx hb dX7_parse_75 (by decide) ?_
        have lp172 : ∀ (fuj91 j91 : Nat) (x104 : Nat → Int32) (x105 : Nat → Int32) (x106 : Nat → Int32) (x107 : Int32) (x108 : Nat) (x109 : Nat) (x110 : Int32) (x111 : Nat) (x112 : Nat) (x113 : Nat) (H : Heap) (locs : List Loc) (ls : Array Slot), j91 ≤ 25 → 25 - j91 < fuj91 → x108 ≤ 150 → x109 ≤ ln → x111 ≤ 6 → x112 ≤ 5 → x113 ≤ 12 → 1 ≤ j91 → kz_LI fby ln x109 j91 x111 x112 x113 x104 x105 → va_P D vwCl [(wo, .inl (y 0, 25, .inl x104)), (fs, .inl (y 0, 25, .inl x105)), (sc, .inl (y 0, 25, .inl x106)), (tx, .inr (7, [.ref bys, .int (nI ln), .int x107, .int (nI x108), .int (nI x109), .int x110, .ref wo, .ref fs, .ref sc, .int (nI x111), .int (nI x112), .int (nI x113)])), (bys, .inl (y 1, 150, .inl fby))] H → va_D A [(wo, .inl (y 0, 25, .inl x104)), (fs, .inl (y 0, 25, .inl x105)), (sc, .inl (y 0, 25, .inl x106)), (tx, .inr (7, [.ref bys, .int (nI ln), .int x107, .int (nI x108), .int (nI x109), .int x110, .ref wo, .ref fs, .ref sc, .int (nI x111), .int (nI x112), .int (nI x113)])), (bys, .inl (y 1, 150, .inl fby))] → va_S A s.heap H locs → lv_has ls 2 [(1, .int (nI j91)), (0, .ref tx)] → W pZ l eZ ({ frames := 8, cells := 0, slots := 0, locals := 210 }) s mZ [.ref tx].toArray beZ meZ cZ H locs 0 0 (MQ beZ (va_Qi (fun (r : Int32) (u : Int32 × Nat × Nat × Int32 × Int32 × Int32 × Int32 × (Nat → Int32) × (Nat → Int32) × (Nat → Int32)) => u.2.1 ≤ 150 ∧ u.2.2.1 ≤ 150 ∧ kz_pR fby ln u.2.2.2.2.2.2.2.1 u.2.2.2.2.2.2.2.2.1 r) (kw_B D (fun u => [(tx, .inr (7, [.ref bys, .int (nI ln), .int u.1, .int (nI u.2.1), .int (nI u.2.2.1), .int u.2.2.2.1, .ref wo, .ref fs, .ref sc, .int u.2.2.2.2.1, .int u.2.2.2.2.2.1, .int u.2.2.2.2.2.2.1])), (bys, .inl (y 1, 150, .inl fby)), (wo, .inl (y 0, 25, .inl u.2.2.2.2.2.2.2.1)), (fs, .inl (y 0, 25, .inl u.2.2.2.2.2.2.2.2.1)), (sc, .inl (y 0, 25, .inl u.2.2.2.2.2.2.2.2.2))]) A) A) [.ref tx].toArray s 0 0 A) (F0 mZ 23 ls []) := by
          intro fuj91
          induction fuj91 with
          | zero => intro j91 x104 x105 x106 x107 x108 x109 x110 x111 x112 x113 H locs ls hj9 hf9; exact absurd hf9 (Nat.not_lt_zero _)
          | succ fuj91 ihj91 =>
            intro j91 x104 x105 x106 x107 x108 x109 x110 x111 x112 x113 H locs ls hj91 hfj91 hn_x108 hn_x109 hn_x111 hn_x112 hn_x113 hlo_j91 hI0_j91 hP hD hS hl
            refine lv_iload_n hx hb dX7_parse_23 rfl (lv_at hl 0 rfl) ?_
            refine lv_bipush (v := 25) hx hb dX7_parse_24 (by decide) ?_
            refine lv_icmp_ge (tgt := 78) hx hb dX7_parse_26 (by decide) (fun h173 => ?_) (fun h174 => ?_)
            · skip
              have h173 : 25 ≤ j91 := (nI_leI (a := 25) (b := j91) (by omega) (by omega)).mp h173
              refine lv_bipush (v := (-10)) hx hb dX7_parse_78 (by decide) ?_
              refine lv_aload_n hx hb dX7_parse_80 rfl (lv_at hl 1 rfl) ?_
              refine va_get (D := D) (ci := 7) (v := .int (nI x108)) (C := RX7) (T := TX7) (N := 12) hx hb hts iw7 hown hK hP 3 rfl rfl 3 (by decide) fw6 (fun _ h9 => h9) rfl dX7_parse_81 ?_
              refine lv_isub hx hb dX7_parse_84 ?_
              exact W.iret (v := ((-10) - (nI x108))) hx hb hr (fun tZ ht hW => ⟨⟨((-10) - (nI x108)), (x107, x108, x109, x110, (nI x111), (nI x112), (nI x113), x104, x105, x106), rfl, ⟨by first | omega | (dsimp only; omega), by first | omega | (dsimp only; omega), by obtain ⟨_, _, _, h79⟩ := hI0_j91; exfalso; omega⟩, by rw [ht]; exact hP.sub [3, 4, 0, 1, 2] rfl, hD.sub [3, 4, 0, 1, 2] (by decide) rfl⟩, hS.F ht⟩) hS.2.2 dX7_parse_85
            · skip
              have h174 : ¬ 25 ≤ j91 := fun q9 => h174 ((nI_leI (a := 25) (b := j91) (by omega) (by omega)).mpr q9)
              obtain ⟨kd9, hL9, hO9, h79⟩ := hI0_j91
              refine lv_aload_n hx hb dX7_parse_29 rfl (lv_at hl 1 rfl) ?_
              have hs175 : kw_Split [(wo, .inl (y 0, 25, .inl x104)), (fs, .inl (y 0, 25, .inl x105)), (sc, .inl (y 0, 25, .inl x106)), (tx, .inr (7, [.ref bys, .int (nI ln), .int x107, .int (nI x108), .int (nI x109), .int x110, .ref wo, .ref fs, .ref sc, .int (nI x111), .int (nI x112), .int (nI x113)])), (bys, .inl (y 1, 150, .inl fby))] [(tx, .inr (7, [.ref bys, .int (nI ln), .int x107, .int (nI x108), .int (nI x109), .int x110, .ref wo, .ref fs, .ref sc, .int (nI x111), .int (nI x112), .int (nI x113)])), (bys, .inl (y 1, 150, .inl fby))] [(wo, .inl (y 0, 25, .inl x104)), (fs, .inl (y 0, 25, .inl x105)), (sc, .inl (y 0, 25, .inl x106))] [3, 4] [0, 1, 2] := ⟨rfl, rfl, rfl, rfl, rfl, by decide⟩
              refine kw_go_v hs175 hP hD hS hA (va_runV (As := []) (rest := []) ⟨hx, hb, hml, hown, hts⟩ (gs_advance l D y tx bys wo fs sc ln x108 x109 x107 x110 (nI x111) (nI x112) (nI x113) fby hln (by omega) _) (cwV 0 hts gX7_parse_X7_advance rfl rfl rfl (by decide +kernel) ⟨Nat.le_of_ble_eq_true rfl, Nat.le_of_ble_eq_true rfl⟩) (kw_PreV (ci := 7) (q0 := 3) hs175 hP hD hK hN rfl rfl) rfl rfl hl.1 rfl (lv_room (Nat.le_of_ble_eq_true rfl)) dX7_parse_30 ⟨Nat.le_of_ble_eq_true rfl, Nat.le_of_ble_eq_true rfl⟩) (fun u177 H locs hq hP hD hS => ?_)
              obtain ⟨v178, v179, v180, v181⟩ := u177
              try dsimp only at hq
              obtain ⟨h182, h183, h184, h185, h186⟩ := hq
              have hP : va_P D vwCl [(wo, .inl (y 0, 25, .inl x104)), (fs, .inl (y 0, 25, .inl x105)), (sc, .inl (y 0, 25, .inl x106)), (tx, .inr (7, [.ref bys, .int (nI ln), .int v178, .int (nI v179), .int (nI v180), .int v181, .ref wo, .ref fs, .ref sc, .int (nI x111), .int (nI x112), .int (nI x113)])), (bys, .inl (y 1, 150, .inl fby))] H := hP
              have hD : va_D A [(wo, .inl (y 0, 25, .inl x104)), (fs, .inl (y 0, 25, .inl x105)), (sc, .inl (y 0, 25, .inl x106)), (tx, .inr (7, [.ref bys, .int (nI ln), .int v178, .int (nI v179), .int (nI v180), .int v181, .ref wo, .ref fs, .ref sc, .int (nI x111), .int (nI x112), .int (nI x113)])), (bys, .inl (y 1, 150, .inl fby))] := hD
              obtain ⟨rfl, rfl, rfl, hn187⟩ := h186
              have hk188 := ks_K4 fby ln x109
              have hP : va_P D vwCl [(wo, .inl (y 0, 25, .inl x104)), (fs, .inl (y 0, 25, .inl x105)), (sc, .inl (y 0, 25, .inl x106)), (tx, .inr (7, [.ref bys, .int (nI ln), .int (nI (ks_K fby ln x109)), .int (nI (ks_S fby ln x109)), .int (nI (ks_E fby ln x109)), .int v181, .ref wo, .ref fs, .ref sc, .int (nI x111), .int (nI x112), .int (nI x113)])), (bys, .inl (y 1, 150, .inl fby))] H := hP
              have hD : va_D A [(wo, .inl (y 0, 25, .inl x104)), (fs, .inl (y 0, 25, .inl x105)), (sc, .inl (y 0, 25, .inl x106)), (tx, .inr (7, [.ref bys, .int (nI ln), .int (nI (ks_K fby ln x109)), .int (nI (ks_S fby ln x109)), .int (nI (ks_E fby ln x109)), .int v181, .ref wo, .ref fs, .ref sc, .int (nI x111), .int (nI x112), .int (nI x113)])), (bys, .inl (y 1, 150, .inl fby))] := hD
              refine lv_aload_n hx hb dX7_parse_33 rfl (lv_at hl 1 rfl) ?_
              refine va_get (D := D) (ci := 7) (v := .int (nI (ks_K fby ln x109))) (C := RX7) (T := TX7) (N := 12) hx hb hts iw7 hown hK hP 3 rfl rfl 2 (by decide) fw5 (fun _ h9 => h9) rfl dX7_parse_34 ?_
              refine lv_if_ne (tgt := 46) hx hb dX7_parse_37 (by decide) (fun h189 => ?_) (fun h190 => ?_)
              · skip
                have h189 : ¬ (ks_K fby ln x109) = 0 := fun q9 => h189 ((nI_eq (a := (ks_K fby ln x109)) (b := 0) (by omega) (by omega)).mpr q9)
                refine lv_aload_n hx hb dX7_parse_46 rfl (lv_at hl 1 rfl) ?_
                refine lv_iload_n hx hb dX7_parse_47 rfl (lv_at hl 0 rfl) ?_
                have hs191 : kw_Split [(wo, .inl (y 0, 25, .inl x104)), (fs, .inl (y 0, 25, .inl x105)), (sc, .inl (y 0, 25, .inl x106)), (tx, .inr (7, [.ref bys, .int (nI ln), .int (nI (ks_K fby ln x109)), .int (nI (ks_S fby ln x109)), .int (nI (ks_E fby ln x109)), .int v181, .ref wo, .ref fs, .ref sc, .int (nI x111), .int (nI x112), .int (nI x113)])), (bys, .inl (y 1, 150, .inl fby))] [(tx, .inr (7, [.ref bys, .int (nI ln), .int (nI (ks_K fby ln x109)), .int (nI (ks_S fby ln x109)), .int (nI (ks_E fby ln x109)), .int v181, .ref wo, .ref fs, .ref sc, .int (nI x111), .int (nI x112), .int (nI x113)])), (bys, .inl (y 1, 150, .inl fby)), (wo, .inl (y 0, 25, .inl x104)), (fs, .inl (y 0, 25, .inl x105)), (sc, .inl (y 0, 25, .inl x106))] [] [3, 4, 0, 1, 2] [] := ⟨rfl, rfl, rfl, rfl, rfl, by decide⟩
                refine kw_go_i hs191 hP hD hS hA (va_runV (As := [.int (nI j91)]) (rest := []) ⟨hx, hb, hml, hown, hts⟩ (gs_isItem l D y aK aV tx bys wo fs sc ln (ks_K fby ln x109) (ks_S fby ln x109) (ks_E fby ln x109) x111 x112 x113 v181 fby x104 x105 x106 j91 kd9 hln (by omega) (by omega) (by omega) (by omega) (by omega) hO9 (by omega) (by omega) (by omega) _) (cwV 1 hts gX7_parse_X7_isItem rfl rfl rfl (by decide +kernel) ⟨Nat.le_of_ble_eq_true rfl, Nat.le_of_ble_eq_true rfl⟩) (kz_PreV (ci := 7) (q0 := 3) hs191 hP hD hK hN rfl rfl hZ hS hA) rfl rfl hl.1 rfl (lv_room (Nat.le_of_ble_eq_true rfl)) dX7_parse_48 ⟨Nat.le_of_ble_eq_true rfl, Nat.le_of_ble_eq_true rfl⟩) (fun r192 u193 H locs hq hP hD hS => ?_)
                obtain ⟨v194, v195, v196, v197, v198, v199, v200, v201, v202, v203⟩ := u193
                try dsimp only at hq
                obtain ⟨h204, h205, h206, h207, h208, (rfl | rfl), h209, h210⟩ := hq
                · skip
                  have hP : va_P D vwCl [(tx, .inr (7, [.ref bys, .int (nI ln), .int v194, .int (nI v195), .int (nI v196), .int v197, .ref wo, .ref fs, .ref sc, .int (nI v198), .int (nI v199), .int (nI v200)])), (bys, .inl (y 1, 150, .inl fby)), (wo, .inl (y 0, 25, .inl v201)), (fs, .inl (y 0, 25, .inl v202)), (sc, .inl (y 0, 25, .inl v203))] H := hP
                  have hD : va_D A [(tx, .inr (7, [.ref bys, .int (nI ln), .int v194, .int (nI v195), .int (nI v196), .int v197, .ref wo, .ref fs, .ref sc, .int (nI v198), .int (nI v199), .int (nI v200)])), (bys, .inl (y 1, 150, .inl fby)), (wo, .inl (y 0, 25, .inl v201)), (fs, .inl (y 0, 25, .inl v202)), (sc, .inl (y 0, 25, .inl v203))] := hD
                  have h209 : ks_it fby ln (ks_K fby ln x109) (ks_S fby ln x109) (ks_E fby ln x109) x111 x112 x113 kd9 = ks_flt v195 := h209 rfl
                  refine lv_if_ne (tgt := 57) hx hb dX7_parse_51 (by decide) (fun h9 => absurd h9 (by decide)) (fun _ => ?_)
                  refine lv_goto (tgt := 78) hx hb dX7_parse_54 (by decide) ?_
                  refine lv_bipush (v := (-10)) hx hb dX7_parse_78 (by decide) ?_
                  refine lv_aload_n hx hb dX7_parse_80 rfl (lv_at hl 1 rfl) ?_
                  refine va_get (D := D) (ci := 7) (v := .int (nI v195)) (C := RX7) (T := TX7) (N := 12) hx hb hts iw7 hown hK hP 0 rfl rfl 3 (by decide) fw6 (fun _ h9 => h9) rfl dX7_parse_81 ?_
                  refine lv_isub hx hb dX7_parse_84 ?_
                  exact W.iret (v := ((-10) - (nI v195))) hx hb hr (fun tZ ht hW => ⟨⟨((-10) - (nI v195)), (v194, v195, v196, v197, (nI v198), (nI v199), (nI v200), v201, v202, v203), rfl, ⟨by first | omega | (dsimp only; omega), by first | omega | (dsimp only; omega), kz_pR.flt (hL9.trans (ks_loopF h189 h209)) (by first | omega | (dsimp only; omega))⟩, by rw [ht]; exact hP.sub [0, 1, 2, 3, 4] rfl, hD.sub [0, 1, 2, 3, 4] (by decide) rfl⟩, hS.F ht⟩) hS.2.2 dX7_parse_85
                · skip
                  have hP : va_P D vwCl [(tx, .inr (7, [.ref bys, .int (nI ln), .int v194, .int (nI v195), .int (nI v196), .int v197, .ref wo, .ref fs, .ref sc, .int (nI v198), .int (nI v199), .int (nI v200)])), (bys, .inl (y 1, 150, .inl fby)), (wo, .inl (y 0, 25, .inl v201)), (fs, .inl (y 0, 25, .inl v202)), (sc, .inl (y 0, 25, .inl v203))] H := hP
                  have hD : va_D A [(tx, .inr (7, [.ref bys, .int (nI ln), .int v194, .int (nI v195), .int (nI v196), .int v197, .ref wo, .ref fs, .ref sc, .int (nI v198), .int (nI v199), .int (nI v200)])), (bys, .inl (y 1, 150, .inl fby)), (wo, .inl (y 0, 25, .inl v201)), (fs, .inl (y 0, 25, .inl v202)), (sc, .inl (y 0, 25, .inl v203))] := hD
                  have h210 : kz_g1 fby ln (ks_K fby ln x109) (ks_S fby ln x109) (ks_E fby ln x109) x111 x112 x113 kd9 v196 v198 v199 v200 v201 v202 (j91 + 1) := h210 rfl
                  refine lv_if_ne (tgt := 57) hx hb dX7_parse_51 (by decide) (fun _ => ?_) (fun h9 => absurd h9 (by decide))
                  obtain ⟨hm211, hm212⟩ := kz_g1.b h210
                  refine lv_aload_n hx hb dX7_parse_57 rfl (lv_at hl 1 rfl) ?_
                  have hs213 : kw_Split [(tx, .inr (7, [.ref bys, .int (nI ln), .int v194, .int (nI v195), .int (nI v196), .int v197, .ref wo, .ref fs, .ref sc, .int (nI v198), .int (nI v199), .int (nI v200)])), (bys, .inl (y 1, 150, .inl fby)), (wo, .inl (y 0, 25, .inl v201)), (fs, .inl (y 0, 25, .inl v202)), (sc, .inl (y 0, 25, .inl v203))] [(tx, .inr (7, [.ref bys, .int (nI ln), .int v194, .int (nI v195), .int (nI v196), .int v197, .ref wo, .ref fs, .ref sc, .int (nI v198), .int (nI v199), .int (nI v200)])), (bys, .inl (y 1, 150, .inl fby))] [(wo, .inl (y 0, 25, .inl v201)), (fs, .inl (y 0, 25, .inl v202)), (sc, .inl (y 0, 25, .inl v203))] [0, 1] [2, 3, 4] := ⟨rfl, rfl, rfl, rfl, rfl, by decide⟩
                  refine kw_go_v hs213 hP hD hS hA (va_runV (As := []) (rest := []) ⟨hx, hb, hml, hown, hts⟩ (gs_advance l D y tx bys wo fs sc ln v195 v196 v194 v197 (nI v198) (nI v199) (nI v200) fby hln (by omega) _) (cwV 0 hts gX7_parse_X7_advance rfl rfl rfl (by decide +kernel) ⟨Nat.le_of_ble_eq_true rfl, Nat.le_of_ble_eq_true rfl⟩) (kw_PreV (ci := 7) (q0 := 0) hs213 hP hD hK hN rfl rfl) rfl rfl hl.1 rfl (lv_room (Nat.le_of_ble_eq_true rfl)) dX7_parse_58 ⟨Nat.le_of_ble_eq_true rfl, Nat.le_of_ble_eq_true rfl⟩) (fun u215 H locs hq hP hD hS => ?_)
                  obtain ⟨v216, v217, v218, v219⟩ := u215
                  try dsimp only at hq
                  obtain ⟨h220, h221, h222, h223, h224⟩ := hq
                  have hP : va_P D vwCl [(wo, .inl (y 0, 25, .inl v201)), (fs, .inl (y 0, 25, .inl v202)), (sc, .inl (y 0, 25, .inl v203)), (tx, .inr (7, [.ref bys, .int (nI ln), .int v216, .int (nI v217), .int (nI v218), .int v219, .ref wo, .ref fs, .ref sc, .int (nI v198), .int (nI v199), .int (nI v200)])), (bys, .inl (y 1, 150, .inl fby))] H := hP
                  have hD : va_D A [(wo, .inl (y 0, 25, .inl v201)), (fs, .inl (y 0, 25, .inl v202)), (sc, .inl (y 0, 25, .inl v203)), (tx, .inr (7, [.ref bys, .int (nI ln), .int v216, .int (nI v217), .int (nI v218), .int v219, .ref wo, .ref fs, .ref sc, .int (nI v198), .int (nI v199), .int (nI v200)])), (bys, .inl (y 1, 150, .inl fby))] := hD
                  obtain ⟨rfl, rfl, rfl, hn225⟩ := h224
                  have hk226 := ks_K4 fby ln v196
                  have hP : va_P D vwCl [(wo, .inl (y 0, 25, .inl v201)), (fs, .inl (y 0, 25, .inl v202)), (sc, .inl (y 0, 25, .inl v203)), (tx, .inr (7, [.ref bys, .int (nI ln), .int (nI (ks_K fby ln v196)), .int (nI (ks_S fby ln v196)), .int (nI (ks_E fby ln v196)), .int v219, .ref wo, .ref fs, .ref sc, .int (nI v198), .int (nI v199), .int (nI v200)])), (bys, .inl (y 1, 150, .inl fby))] H := hP
                  have hD : va_D A [(wo, .inl (y 0, 25, .inl v201)), (fs, .inl (y 0, 25, .inl v202)), (sc, .inl (y 0, 25, .inl v203)), (tx, .inr (7, [.ref bys, .int (nI ln), .int (nI (ks_K fby ln v196)), .int (nI (ks_S fby ln v196)), .int (nI (ks_E fby ln v196)), .int v219, .ref wo, .ref fs, .ref sc, .int (nI v198), .int (nI v199), .int (nI v200)])), (bys, .inl (y 1, 150, .inl fby))] := hD
                  refine lv_aload_n hx hb dX7_parse_61 rfl (lv_at hl 1 rfl) ?_
                  refine va_get (D := D) (ci := 7) (v := .int (nI (ks_K fby ln v196))) (C := RX7) (T := TX7) (N := 12) hx hb hts iw7 hown hK hP 3 rfl rfl 2 (by decide) fw5 (fun _ h9 => h9) rfl dX7_parse_62 ?_
                  refine lv_iconst (v := 3) hx hb dX7_parse_65 (by decide) ?_
                  refine lv_icmp_eq (tgt := 72) hx hb dX7_parse_66 (by decide) (fun h227 => ?_) (fun h228 => ?_)
                  · skip
                    have h227 : (ks_K fby ln v196) = 3 := (nI_eq (a := (ks_K fby ln v196)) (b := 3) (by omega) (by omega)).mp h227
                    refine lv_iinc (v := (nI (j91 + 1))) (lv' := [(1, .int (nI (j91 + 1))), (0, .ref tx)]) hx hb dX7_parse_72 hl (k := 0) rfl (nI_1 j91) (by decide) rfl (fun ls hl => ?_)
                    refine lv_goto (tgt := 23) hx hb dX7_parse_75 (by decide) ?_
                    exact ihj91 (j91 + 1) v201 v202 v203 (nI (ks_K fby ln v196)) (ks_S fby ln v196) (ks_E fby ln v196) v219 v198 v199 v200 H locs ls (by omega) (by omega) (by omega) (by omega) (by omega) (by omega) (by omega) (by omega) (kz_LI.next hL9 h79 (by omega) h189 h210 (by omega) h227) (hP.sub [0, 1, 2, 3, 4] rfl) (hD.sub [0, 1, 2, 3, 4] (by decide) rfl) hS (lv_sub hl [0, 1] rfl)
                  · skip
                    have h228 : ¬ (ks_K fby ln v196) = 3 := fun q9 => h228 ((nI_eq (a := (ks_K fby ln v196)) (b := 3) (by omega) (by omega)).mpr q9)
                    refine lv_goto (tgt := 78) hx hb dX7_parse_69 (by decide) ?_
                    refine lv_bipush (v := (-10)) hx hb dX7_parse_78 (by decide) ?_
                    refine lv_aload_n hx hb dX7_parse_80 rfl (lv_at hl 1 rfl) ?_
                    refine va_get (D := D) (ci := 7) (v := .int (nI (ks_S fby ln v196))) (C := RX7) (T := TX7) (N := 12) hx hb hts iw7 hown hK hP 3 rfl rfl 3 (by decide) fw6 (fun _ h9 => h9) rfl dX7_parse_81 ?_
                    refine lv_isub hx hb dX7_parse_84 ?_
                    exact W.iret (v := ((-10) - (nI (ks_S fby ln v196)))) hx hb hr (fun tZ ht hW => ⟨⟨((-10) - (nI (ks_S fby ln v196))), ((nI (ks_K fby ln v196)), ks_S fby ln v196, ks_E fby ln v196, v219, (nI v198), (nI v199), (nI v200), v201, v202, v203), rfl, ⟨by first | omega | (dsimp only; omega), by first | omega | (dsimp only; omega), kz_pR.nos hL9 h189 h210 h228 (by first | omega | (dsimp only; omega))⟩, by rw [ht]; exact hP.sub [3, 4, 0, 1, 2] rfl, hD.sub [3, 4, 0, 1, 2] (by decide) rfl⟩, hS.F ht⟩) hS.2.2 dX7_parse_85
              · skip
                have h190 : (ks_K fby ln x109) = 0 := (nI_eq (a := (ks_K fby ln x109)) (b := 0) (by omega) (by omega)).mp h190
                refine lv_iload_n hx hb dX7_parse_40 rfl (lv_at hl 0 rfl) ?_
                refine lv_if_le (tgt := 46) hx hb dX7_parse_41 (by decide) (fun h229 => ?_) (fun h230 => ?_)
                · skip
                  have h229 : j91 ≤ 0 := (nI_leI (a := j91) (b := 0) (by omega) (by omega)).mp h229
                  exact absurd h229 (by omega)
                · skip
                  have h230 : ¬ j91 ≤ 0 := fun q9 => h230 ((nI_leI (a := j91) (b := 0) (by omega) (by omega)).mpr q9)
                  refine lv_iload_n hx hb dX7_parse_44 rfl (lv_at hl 0 rfl) ?_
                  exact W.iret (v := (nI j91)) hx hb hr (fun tZ ht hW => ⟨⟨(nI j91), ((nI (ks_K fby ln x109)), ks_S fby ln x109, ks_E fby ln x109, v181, (nI x111), (nI x112), (nI x113), x104, x105, x106), rfl, ⟨by first | omega | (dsimp only; omega), by first | omega | (dsimp only; omega), kz_pR.ok hL9 h190 hO9 (by first | omega | (dsimp only; omega)) (by first | omega | (dsimp only; omega))⟩, by rw [ht]; exact hP.sub [3, 4, 0, 1, 2] rfl, hD.sub [3, 4, 0, 1, 2] (by decide) rfl⟩, hS.F ht⟩) hS.2.2 dX7_parse_45
        exact lp172 (25 + 1) 1 v24 v25 fsc (nI (ks_K fby ln v22)) (ks_S fby ln v22) (ks_E fby ln v22) v36 0 0 12 _ _ _ (by omega) (by omega) (by omega) (by omega) (by omega) (by omega) (by omega) (by omega) (kz_LI.first h29 (by omega) h44) hP hD hS (lv_sub hl [0, 1] rfl)
      · skip
        have h45 : ¬ (ks_K fby ln v22) = 3 := fun q9 => h45 ((nI_eq (a := (ks_K fby ln v22)) (b := 3) (by omega) (by omega)).mpr q9)
        refine lv_goto (tgt := 78) hx hb dX7_parse_69 (by decide) ?_
        refine lv_bipush (v := (-10)) hx hb dX7_parse_78 (by decide) ?_
        refine lv_aload_n hx hb dX7_parse_80 rfl (lv_at hl 1 rfl) ?_
        refine va_get (D := D) (ci := 7) (v := .int (nI (ks_S fby ln v22))) (C := RX7) (T := TX7) (N := 12) hx hb hts iw7 hown hK hP 3 rfl rfl 3 (by decide) fw6 (fun _ h9 => h9) rfl dX7_parse_81 ?_
        refine lv_isub hx hb dX7_parse_84 ?_
        exact W.iret (v := ((-10) - (nI (ks_S fby ln v22)))) hx hb hr (fun tZ ht hW => ⟨⟨((-10) - (nI (ks_S fby ln v22))), ((nI (ks_K fby ln v22)), ks_S fby ln v22, ks_E fby ln v22, v36, (nI 0), (nI 0), (nI 12), v24, v25, fsc), rfl, ⟨by first | omega | (dsimp only; omega), by first | omega | (dsimp only; omega), kz_pR.flt (ks_readS h29.1 h45) (by first | omega | (dsimp only; omega))⟩, by rw [ht]; exact hP.sub [3, 4, 0, 1, 2] rfl, hD.sub [3, 4, 0, 1, 2] (by decide) rfl⟩, hS.F ht⟩) hS.2.2 dX7_parse_85
  · skip
    have h16 : (ks_K fby ln 0) = 0 := (nI_eq (a := (ks_K fby ln 0)) (b := 0) (by omega) (by omega)).mp h16
    refine lv_iload_n hx hb dX7_parse_40 rfl (lv_at hl 0 rfl) ?_
    refine lv_if_le (tgt := 46) hx hb dX7_parse_41 (by decide) (fun _ => ?_) (fun h9 => absurd h9 (by decide))
    refine lv_aload_n hx hb dX7_parse_46 rfl (lv_at hl 1 rfl) ?_
    refine lv_iload_n hx hb dX7_parse_47 rfl (lv_at hl 0 rfl) ?_
    have hs231 : kw_Split [(wo, .inl (y 0, 25, .inl fwo)), (fs, .inl (y 0, 25, .inl ffs)), (sc, .inl (y 0, 25, .inl fsc)), (tx, .inr (7, [.ref bys, .int (nI ln), .int (nI (ks_K fby ln 0)), .int (nI (ks_S fby ln 0)), .int (nI (ks_E fby ln 0)), .int v7, .ref wo, .ref fs, .ref sc, .int 0, .int 0, .int 12])), (bys, .inl (y 1, 150, .inl fby))] [(tx, .inr (7, [.ref bys, .int (nI ln), .int (nI (ks_K fby ln 0)), .int (nI (ks_S fby ln 0)), .int (nI (ks_E fby ln 0)), .int v7, .ref wo, .ref fs, .ref sc, .int 0, .int 0, .int 12])), (bys, .inl (y 1, 150, .inl fby)), (wo, .inl (y 0, 25, .inl fwo)), (fs, .inl (y 0, 25, .inl ffs)), (sc, .inl (y 0, 25, .inl fsc))] [] [3, 4, 0, 1, 2] [] := ⟨rfl, rfl, rfl, rfl, rfl, by decide⟩
    refine kw_go_i hs231 hP hD hS hA (va_runV (As := [.int 0]) (rest := []) ⟨hx, hb, hml, hown, hts⟩ (gs_isItem0 l D y aK aV tx bys wo fs sc ln (ks_K fby ln 0) (ks_S fby ln 0) (ks_E fby ln 0) 0 0 12 v7 fby fwo ffs fsc hln (by omega) (by omega) (by omega) _) (cwV 1 hts gX7_parse_X7_isItem rfl rfl rfl (by decide +kernel) ⟨Nat.le_of_ble_eq_true rfl, Nat.le_of_ble_eq_true rfl⟩) (kz_PreV (ci := 7) (q0 := 3) hs231 hP hD hK hN rfl rfl hZ hS hA) rfl rfl hl.1 rfl (lv_room (Nat.le_of_ble_eq_true rfl)) dX7_parse_48 ⟨Nat.le_of_ble_eq_true rfl, Nat.le_of_ble_eq_true rfl⟩) (fun r232 u233 H locs hq hP hD hS => ?_)
    obtain ⟨v234, v235, v236, v237, v238, v239⟩ := u233
    try dsimp only at hq
    obtain ⟨h240, h241, (rfl | rfl), h242, h243⟩ := hq
    · skip
      have hP : va_P D vwCl [(tx, .inr (7, [.ref bys, .int (nI ln), .int v234, .int (nI v235), .int (nI v236), .int v237, .ref wo, .ref fs, .ref sc, .int (nI 0), .int (nI 0), .int (nI 12)])), (bys, .inl (y 1, 150, .inl fby)), (wo, .inl (y 0, 25, .inl v238)), (fs, .inl (y 0, 25, .inl v239)), (sc, .inl (y 0, 25, .inl fsc))] H := hP
      have hD : va_D A [(tx, .inr (7, [.ref bys, .int (nI ln), .int v234, .int (nI v235), .int (nI v236), .int v237, .ref wo, .ref fs, .ref sc, .int (nI 0), .int (nI 0), .int (nI 12)])), (bys, .inl (y 1, 150, .inl fby)), (wo, .inl (y 0, 25, .inl v238)), (fs, .inl (y 0, 25, .inl v239)), (sc, .inl (y 0, 25, .inl fsc))] := hD
      have h242 : ks_it0 fby ln (ks_K fby ln 0) (ks_S fby ln 0) (ks_E fby ln 0) = ks_flt v235 := h242 rfl
      refine lv_if_ne (tgt := 57) hx hb dX7_parse_51 (by decide) (fun h9 => absurd h9 (by decide)) (fun _ => ?_)
      refine lv_goto (tgt := 78) hx hb dX7_parse_54 (by decide) ?_
      refine lv_bipush (v := (-10)) hx hb dX7_parse_78 (by decide) ?_
      refine lv_aload_n hx hb dX7_parse_80 rfl (lv_at hl 1 rfl) ?_
      refine va_get (D := D) (ci := 7) (v := .int (nI v235)) (C := RX7) (T := TX7) (N := 12) hx hb hts iw7 hown hK hP 0 rfl rfl 3 (by decide) fw6 (fun _ h9 => h9) rfl dX7_parse_81 ?_
      refine lv_isub hx hb dX7_parse_84 ?_
      exact W.iret (v := ((-10) - (nI v235))) hx hb hr (fun tZ ht hW => ⟨⟨((-10) - (nI v235)), (v234, v235, v236, v237, (nI 0), (nI 0), (nI 12), v238, v239, fsc), rfl, ⟨by first | omega | (dsimp only; omega), by first | omega | (dsimp only; omega), kz_pR.flt (ks_readF h242) (by first | omega | (dsimp only; omega))⟩, by rw [ht]; exact hP.sub [0, 1, 2, 3, 4] rfl, hD.sub [0, 1, 2, 3, 4] (by decide) rfl⟩, hS.F ht⟩) hS.2.2 dX7_parse_85
    · skip
      have hP : va_P D vwCl [(tx, .inr (7, [.ref bys, .int (nI ln), .int v234, .int (nI v235), .int (nI v236), .int v237, .ref wo, .ref fs, .ref sc, .int (nI 0), .int (nI 0), .int (nI 12)])), (bys, .inl (y 1, 150, .inl fby)), (wo, .inl (y 0, 25, .inl v238)), (fs, .inl (y 0, 25, .inl v239)), (sc, .inl (y 0, 25, .inl fsc))] H := hP
      have hD : va_D A [(tx, .inr (7, [.ref bys, .int (nI ln), .int v234, .int (nI v235), .int (nI v236), .int v237, .ref wo, .ref fs, .ref sc, .int (nI 0), .int (nI 0), .int (nI 12)])), (bys, .inl (y 1, 150, .inl fby)), (wo, .inl (y 0, 25, .inl v238)), (fs, .inl (y 0, 25, .inl v239)), (sc, .inl (y 0, 25, .inl fsc))] := hD
      have h243 : kz_g0 fby ln (ks_K fby ln 0) (ks_S fby ln 0) (ks_E fby ln 0) v236 v238 v239 := h243 rfl
      refine lv_if_ne (tgt := 57) hx hb dX7_parse_51 (by decide) (fun _ => ?_) (fun h9 => absurd h9 (by decide))
      refine lv_aload_n hx hb dX7_parse_57 rfl (lv_at hl 1 rfl) ?_
      have hs244 : kw_Split [(tx, .inr (7, [.ref bys, .int (nI ln), .int v234, .int (nI v235), .int (nI v236), .int v237, .ref wo, .ref fs, .ref sc, .int (nI 0), .int (nI 0), .int (nI 12)])), (bys, .inl (y 1, 150, .inl fby)), (wo, .inl (y 0, 25, .inl v238)), (fs, .inl (y 0, 25, .inl v239)), (sc, .inl (y 0, 25, .inl fsc))] [(tx, .inr (7, [.ref bys, .int (nI ln), .int v234, .int (nI v235), .int (nI v236), .int v237, .ref wo, .ref fs, .ref sc, .int (nI 0), .int (nI 0), .int (nI 12)])), (bys, .inl (y 1, 150, .inl fby))] [(wo, .inl (y 0, 25, .inl v238)), (fs, .inl (y 0, 25, .inl v239)), (sc, .inl (y 0, 25, .inl fsc))] [0, 1] [2, 3, 4] := ⟨rfl, rfl, rfl, rfl, rfl, by decide⟩
      refine kw_go_v hs244 hP hD hS hA (va_runV (As := []) (rest := []) ⟨hx, hb, hml, hown, hts⟩ (gs_advance l D y tx bys wo fs sc ln v235 v236 v234 v237 (nI 0) (nI 0) (nI 12) fby hln (by omega) _) (cwV 0 hts gX7_parse_X7_advance rfl rfl rfl (by decide +kernel) ⟨Nat.le_of_ble_eq_true rfl, Nat.le_of_ble_eq_true rfl⟩) (kw_PreV (ci := 7) (q0 := 0) hs244 hP hD hK hN rfl rfl) rfl rfl hl.1 rfl (lv_room (Nat.le_of_ble_eq_true rfl)) dX7_parse_58 ⟨Nat.le_of_ble_eq_true rfl, Nat.le_of_ble_eq_true rfl⟩) (fun u246 H locs hq hP hD hS => ?_)
      obtain ⟨v247, v248, v249, v250⟩ := u246
      try dsimp only at hq
      obtain ⟨h251, h252, h253, h254, h255⟩ := hq
      have hP : va_P D vwCl [(wo, .inl (y 0, 25, .inl v238)), (fs, .inl (y 0, 25, .inl v239)), (sc, .inl (y 0, 25, .inl fsc)), (tx, .inr (7, [.ref bys, .int (nI ln), .int v247, .int (nI v248), .int (nI v249), .int v250, .ref wo, .ref fs, .ref sc, .int (nI 0), .int (nI 0), .int (nI 12)])), (bys, .inl (y 1, 150, .inl fby))] H := hP
      have hD : va_D A [(wo, .inl (y 0, 25, .inl v238)), (fs, .inl (y 0, 25, .inl v239)), (sc, .inl (y 0, 25, .inl fsc)), (tx, .inr (7, [.ref bys, .int (nI ln), .int v247, .int (nI v248), .int (nI v249), .int v250, .ref wo, .ref fs, .ref sc, .int (nI 0), .int (nI 0), .int (nI 12)])), (bys, .inl (y 1, 150, .inl fby))] := hD
      obtain ⟨rfl, rfl, rfl, hn256⟩ := h255
      have hk257 := ks_K4 fby ln v236
      have hP : va_P D vwCl [(wo, .inl (y 0, 25, .inl v238)), (fs, .inl (y 0, 25, .inl v239)), (sc, .inl (y 0, 25, .inl fsc)), (tx, .inr (7, [.ref bys, .int (nI ln), .int (nI (ks_K fby ln v236)), .int (nI (ks_S fby ln v236)), .int (nI (ks_E fby ln v236)), .int v250, .ref wo, .ref fs, .ref sc, .int (nI 0), .int (nI 0), .int (nI 12)])), (bys, .inl (y 1, 150, .inl fby))] H := hP
      have hD : va_D A [(wo, .inl (y 0, 25, .inl v238)), (fs, .inl (y 0, 25, .inl v239)), (sc, .inl (y 0, 25, .inl fsc)), (tx, .inr (7, [.ref bys, .int (nI ln), .int (nI (ks_K fby ln v236)), .int (nI (ks_S fby ln v236)), .int (nI (ks_E fby ln v236)), .int v250, .ref wo, .ref fs, .ref sc, .int (nI 0), .int (nI 0), .int (nI 12)])), (bys, .inl (y 1, 150, .inl fby))] := hD
      refine lv_aload_n hx hb dX7_parse_61 rfl (lv_at hl 1 rfl) ?_
      refine va_get (D := D) (ci := 7) (v := .int (nI (ks_K fby ln v236))) (C := RX7) (T := TX7) (N := 12) hx hb hts iw7 hown hK hP 3 rfl rfl 2 (by decide) fw5 (fun _ h9 => h9) rfl dX7_parse_62 ?_
      refine lv_iconst (v := 3) hx hb dX7_parse_65 (by decide) ?_
      refine lv_icmp_eq (tgt := 72) hx hb dX7_parse_66 (by decide) (fun h258 => ?_) (fun h259 => ?_)
      · skip
        have h258 : (ks_K fby ln v236) = 3 := (nI_eq (a := (ks_K fby ln v236)) (b := 3) (by omega) (by omega)).mp h258
        refine lv_iinc (v := 1) (lv' := [(1, .int 1), (0, .ref tx)]) hx hb dX7_parse_72 hl (k := 0) rfl (by decide) (by decide) rfl (fun ls hl => ?_)
        refine lv_goto (tgt := 23) hx hb dX7_parse_75 (by decide) ?_
        have lp386 : ∀ (fuj91 j91 : Nat) (x318 : Nat → Int32) (x319 : Nat → Int32) (x320 : Nat → Int32) (x321 : Int32) (x322 : Nat) (x323 : Nat) (x324 : Int32) (x325 : Nat) (x326 : Nat) (x327 : Nat) (H : Heap) (locs : List Loc) (ls : Array Slot), j91 ≤ 25 → 25 - j91 < fuj91 → x322 ≤ 150 → x323 ≤ ln → x325 ≤ 6 → x326 ≤ 5 → x327 ≤ 12 → 1 ≤ j91 → kz_LI fby ln x323 j91 x325 x326 x327 x318 x319 → va_P D vwCl [(wo, .inl (y 0, 25, .inl x318)), (fs, .inl (y 0, 25, .inl x319)), (sc, .inl (y 0, 25, .inl x320)), (tx, .inr (7, [.ref bys, .int (nI ln), .int x321, .int (nI x322), .int (nI x323), .int x324, .ref wo, .ref fs, .ref sc, .int (nI x325), .int (nI x326), .int (nI x327)])), (bys, .inl (y 1, 150, .inl fby))] H → va_D A [(wo, .inl (y 0, 25, .inl x318)), (fs, .inl (y 0, 25, .inl x319)), (sc, .inl (y 0, 25, .inl x320)), (tx, .inr (7, [.ref bys, .int (nI ln), .int x321, .int (nI x322), .int (nI x323), .int x324, .ref wo, .ref fs, .ref sc, .int (nI x325), .int (nI x326), .int (nI x327)])), (bys, .inl (y 1, 150, .inl fby))] → va_S A s.heap H locs → lv_has ls 2 [(1, .int (nI j91)), (0, .ref tx)] → W pZ l eZ ({ frames := 8, cells := 0, slots := 0, locals := 210 }) s mZ [.ref tx].toArray beZ meZ cZ H locs 0 0 (MQ beZ (va_Qi (fun (r : Int32) (u : Int32 × Nat × Nat × Int32 × Int32 × Int32 × Int32 × (Nat → Int32) × (Nat → Int32) × (Nat → Int32)) => u.2.1 ≤ 150 ∧ u.2.2.1 ≤ 150 ∧ kz_pR fby ln u.2.2.2.2.2.2.2.1 u.2.2.2.2.2.2.2.2.1 r) (kw_B D (fun u => [(tx, .inr (7, [.ref bys, .int (nI ln), .int u.1, .int (nI u.2.1), .int (nI u.2.2.1), .int u.2.2.2.1, .ref wo, .ref fs, .ref sc, .int u.2.2.2.2.1, .int u.2.2.2.2.2.1, .int u.2.2.2.2.2.2.1])), (bys, .inl (y 1, 150, .inl fby)), (wo, .inl (y 0, 25, .inl u.2.2.2.2.2.2.2.1)), (fs, .inl (y 0, 25, .inl u.2.2.2.2.2.2.2.2.1)), (sc, .inl (y 0, 25, .inl u.2.2.2.2.2.2.2.2.2))]) A) A) [.ref tx].toArray s 0 0 A) (F0 mZ 23 ls []) := by
          intro fuj91
          induction fuj91 with
          | zero => intro j91 x318 x319 x320 x321 x322 x323 x324 x325 x326 x327 H locs ls hj9 hf9; exact absurd hf9 (Nat.not_lt_zero _)
          | succ fuj91 ihj91 =>
            intro j91 x318 x319 x320 x321 x322 x323 x324 x325 x326 x327 H locs ls hj91 hfj91 hn_x322 hn_x323 hn_x325 hn_x326 hn_x327 hlo_j91 hI0_j91 hP hD hS hl
            refine lv_iload_n hx hb dX7_parse_23 rfl (lv_at hl 0 rfl) ?_
            refine lv_bipush (v := 25) hx hb dX7_parse_24 (by decide) ?_
            refine lv_icmp_ge (tgt := 78) hx hb dX7_parse_26 (by decide) (fun h387 => ?_) (fun h388 => ?_)
            · skip
              have h387 : 25 ≤ j91 := (nI_leI (a := 25) (b := j91) (by omega) (by omega)).mp h387
              refine lv_bipush (v := (-10)) hx hb dX7_parse_78 (by decide) ?_
              refine lv_aload_n hx hb dX7_parse_80 rfl (lv_at hl 1 rfl) ?_
              refine va_get (D := D) (ci := 7) (v := .int (nI x322)) (C := RX7) (T := TX7) (N := 12) hx hb hts iw7 hown hK hP 3 rfl rfl 3 (by decide) fw6 (fun _ h9 => h9) rfl dX7_parse_81 ?_
              refine lv_isub hx hb dX7_parse_84 ?_
              exact W.iret (v := ((-10) - (nI x322))) hx hb hr (fun tZ ht hW => ⟨⟨((-10) - (nI x322)), (x321, x322, x323, x324, (nI x325), (nI x326), (nI x327), x318, x319, x320), rfl, ⟨by first | omega | (dsimp only; omega), by first | omega | (dsimp only; omega), by obtain ⟨_, _, _, h79⟩ := hI0_j91; exfalso; omega⟩, by rw [ht]; exact hP.sub [3, 4, 0, 1, 2] rfl, hD.sub [3, 4, 0, 1, 2] (by decide) rfl⟩, hS.F ht⟩) hS.2.2 dX7_parse_85
            · skip
              have h388 : ¬ 25 ≤ j91 := fun q9 => h388 ((nI_leI (a := 25) (b := j91) (by omega) (by omega)).mpr q9)
              obtain ⟨kd9, hL9, hO9, h79⟩ := hI0_j91
              refine lv_aload_n hx hb dX7_parse_29 rfl (lv_at hl 1 rfl) ?_
              have hs389 : kw_Split [(wo, .inl (y 0, 25, .inl x318)), (fs, .inl (y 0, 25, .inl x319)), (sc, .inl (y 0, 25, .inl x320)), (tx, .inr (7, [.ref bys, .int (nI ln), .int x321, .int (nI x322), .int (nI x323), .int x324, .ref wo, .ref fs, .ref sc, .int (nI x325), .int (nI x326), .int (nI x327)])), (bys, .inl (y 1, 150, .inl fby))] [(tx, .inr (7, [.ref bys, .int (nI ln), .int x321, .int (nI x322), .int (nI x323), .int x324, .ref wo, .ref fs, .ref sc, .int (nI x325), .int (nI x326), .int (nI x327)])), (bys, .inl (y 1, 150, .inl fby))] [(wo, .inl (y 0, 25, .inl x318)), (fs, .inl (y 0, 25, .inl x319)), (sc, .inl (y 0, 25, .inl x320))] [3, 4] [0, 1, 2] := ⟨rfl, rfl, rfl, rfl, rfl, by decide⟩
              refine kw_go_v hs389 hP hD hS hA (va_runV (As := []) (rest := []) ⟨hx, hb, hml, hown, hts⟩ (gs_advance l D y tx bys wo fs sc ln x322 x323 x321 x324 (nI x325) (nI x326) (nI x327) fby hln (by omega) _) (cwV 0 hts gX7_parse_X7_advance rfl rfl rfl (by decide +kernel) ⟨Nat.le_of_ble_eq_true rfl, Nat.le_of_ble_eq_true rfl⟩) (kw_PreV (ci := 7) (q0 := 3) hs389 hP hD hK hN rfl rfl) rfl rfl hl.1 rfl (lv_room (Nat.le_of_ble_eq_true rfl)) dX7_parse_30 ⟨Nat.le_of_ble_eq_true rfl, Nat.le_of_ble_eq_true rfl⟩) (fun u391 H locs hq hP hD hS => ?_)
              obtain ⟨v392, v393, v394, v395⟩ := u391
              try dsimp only at hq
              obtain ⟨h396, h397, h398, h399, h400⟩ := hq
              have hP : va_P D vwCl [(wo, .inl (y 0, 25, .inl x318)), (fs, .inl (y 0, 25, .inl x319)), (sc, .inl (y 0, 25, .inl x320)), (tx, .inr (7, [.ref bys, .int (nI ln), .int v392, .int (nI v393), .int (nI v394), .int v395, .ref wo, .ref fs, .ref sc, .int (nI x325), .int (nI x326), .int (nI x327)])), (bys, .inl (y 1, 150, .inl fby))] H := hP
              have hD : va_D A [(wo, .inl (y 0, 25, .inl x318)), (fs, .inl (y 0, 25, .inl x319)), (sc, .inl (y 0, 25, .inl x320)), (tx, .inr (7, [.ref bys, .int (nI ln), .int v392, .int (nI v393), .int (nI v394), .int v395, .ref wo, .ref fs, .ref sc, .int (nI x325), .int (nI x326), .int (nI x327)])), (bys, .inl (y 1, 150, .inl fby))] := hD
              obtain ⟨rfl, rfl, rfl, hn401⟩ := h400
              have hk402 := ks_K4 fby ln x323
              have hP : va_P D vwCl [(wo, .inl (y 0, 25, .inl x318)), (fs, .inl (y 0, 25, .inl x319)), (sc, .inl (y 0, 25, .inl x320)), (tx, .inr (7, [.ref bys, .int (nI ln), .int (nI (ks_K fby ln x323)), .int (nI (ks_S fby ln x323)), .int (nI (ks_E fby ln x323)), .int v395, .ref wo, .ref fs, .ref sc, .int (nI x325), .int (nI x326), .int (nI x327)])), (bys, .inl (y 1, 150, .inl fby))] H := hP
              have hD : va_D A [(wo, .inl (y 0, 25, .inl x318)), (fs, .inl (y 0, 25, .inl x319)), (sc, .inl (y 0, 25, .inl x320)), (tx, .inr (7, [.ref bys, .int (nI ln), .int (nI (ks_K fby ln x323)), .int (nI (ks_S fby ln x323)), .int (nI (ks_E fby ln x323)), .int v395, .ref wo, .ref fs, .ref sc, .int (nI x325), .int (nI x326), .int (nI x327)])), (bys, .inl (y 1, 150, .inl fby))] := hD
              refine lv_aload_n hx hb dX7_parse_33 rfl (lv_at hl 1 rfl) ?_
              refine va_get (D := D) (ci := 7) (v := .int (nI (ks_K fby ln x323))) (C := RX7) (T := TX7) (N := 12) hx hb hts iw7 hown hK hP 3 rfl rfl 2 (by decide) fw5 (fun _ h9 => h9) rfl dX7_parse_34 ?_
              refine lv_if_ne (tgt := 46) hx hb dX7_parse_37 (by decide) (fun h403 => ?_) (fun h404 => ?_)
              · skip
                have h403 : ¬ (ks_K fby ln x323) = 0 := fun q9 => h403 ((nI_eq (a := (ks_K fby ln x323)) (b := 0) (by omega) (by omega)).mpr q9)
                refine lv_aload_n hx hb dX7_parse_46 rfl (lv_at hl 1 rfl) ?_
                refine lv_iload_n hx hb dX7_parse_47 rfl (lv_at hl 0 rfl) ?_
                have hs405 : kw_Split [(wo, .inl (y 0, 25, .inl x318)), (fs, .inl (y 0, 25, .inl x319)), (sc, .inl (y 0, 25, .inl x320)), (tx, .inr (7, [.ref bys, .int (nI ln), .int (nI (ks_K fby ln x323)), .int (nI (ks_S fby ln x323)), .int (nI (ks_E fby ln x323)), .int v395, .ref wo, .ref fs, .ref sc, .int (nI x325), .int (nI x326), .int (nI x327)])), (bys, .inl (y 1, 150, .inl fby))] [(tx, .inr (7, [.ref bys, .int (nI ln), .int (nI (ks_K fby ln x323)), .int (nI (ks_S fby ln x323)), .int (nI (ks_E fby ln x323)), .int v395, .ref wo, .ref fs, .ref sc, .int (nI x325), .int (nI x326), .int (nI x327)])), (bys, .inl (y 1, 150, .inl fby)), (wo, .inl (y 0, 25, .inl x318)), (fs, .inl (y 0, 25, .inl x319)), (sc, .inl (y 0, 25, .inl x320))] [] [3, 4, 0, 1, 2] [] := ⟨rfl, rfl, rfl, rfl, rfl, by decide⟩
                refine kw_go_i hs405 hP hD hS hA (va_runV (As := [.int (nI j91)]) (rest := []) ⟨hx, hb, hml, hown, hts⟩ (gs_isItem l D y aK aV tx bys wo fs sc ln (ks_K fby ln x323) (ks_S fby ln x323) (ks_E fby ln x323) x325 x326 x327 v395 fby x318 x319 x320 j91 kd9 hln (by omega) (by omega) (by omega) (by omega) (by omega) hO9 (by omega) (by omega) (by omega) _) (cwV 1 hts gX7_parse_X7_isItem rfl rfl rfl (by decide +kernel) ⟨Nat.le_of_ble_eq_true rfl, Nat.le_of_ble_eq_true rfl⟩) (kz_PreV (ci := 7) (q0 := 3) hs405 hP hD hK hN rfl rfl hZ hS hA) rfl rfl hl.1 rfl (lv_room (Nat.le_of_ble_eq_true rfl)) dX7_parse_48 ⟨Nat.le_of_ble_eq_true rfl, Nat.le_of_ble_eq_true rfl⟩) (fun r406 u407 H locs hq hP hD hS => ?_)
                obtain ⟨v408, v409, v410, v411, v412, v413, v414, v415, v416, v417⟩ := u407
                try dsimp only at hq
                obtain ⟨h418, h419, h420, h421, h422, (rfl | rfl), h423, h424⟩ := hq
                · skip
                  have hP : va_P D vwCl [(tx, .inr (7, [.ref bys, .int (nI ln), .int v408, .int (nI v409), .int (nI v410), .int v411, .ref wo, .ref fs, .ref sc, .int (nI v412), .int (nI v413), .int (nI v414)])), (bys, .inl (y 1, 150, .inl fby)), (wo, .inl (y 0, 25, .inl v415)), (fs, .inl (y 0, 25, .inl v416)), (sc, .inl (y 0, 25, .inl v417))] H := hP
                  have hD : va_D A [(tx, .inr (7, [.ref bys, .int (nI ln), .int v408, .int (nI v409), .int (nI v410), .int v411, .ref wo, .ref fs, .ref sc, .int (nI v412), .int (nI v413), .int (nI v414)])), (bys, .inl (y 1, 150, .inl fby)), (wo, .inl (y 0, 25, .inl v415)), (fs, .inl (y 0, 25, .inl v416)), (sc, .inl (y 0, 25, .inl v417))] := hD
                  have h423 : ks_it fby ln (ks_K fby ln x323) (ks_S fby ln x323) (ks_E fby ln x323) x325 x326 x327 kd9 = ks_flt v409 := h423 rfl
                  refine lv_if_ne (tgt := 57) hx hb dX7_parse_51 (by decide) (fun h9 => absurd h9 (by decide)) (fun _ => ?_)
                  refine lv_goto (tgt := 78) hx hb dX7_parse_54 (by decide) ?_
                  refine lv_bipush (v := (-10)) hx hb dX7_parse_78 (by decide) ?_
                  refine lv_aload_n hx hb dX7_parse_80 rfl (lv_at hl 1 rfl) ?_
                  refine va_get (D := D) (ci := 7) (v := .int (nI v409)) (C := RX7) (T := TX7) (N := 12) hx hb hts iw7 hown hK hP 0 rfl rfl 3 (by decide) fw6 (fun _ h9 => h9) rfl dX7_parse_81 ?_
                  refine lv_isub hx hb dX7_parse_84 ?_
                  exact W.iret (v := ((-10) - (nI v409))) hx hb hr (fun tZ ht hW => ⟨⟨((-10) - (nI v409)), (v408, v409, v410, v411, (nI v412), (nI v413), (nI v414), v415, v416, v417), rfl, ⟨by first | omega | (dsimp only; omega), by first | omega | (dsimp only; omega), kz_pR.flt (hL9.trans (ks_loopF h403 h423)) (by first | omega | (dsimp only; omega))⟩, by rw [ht]; exact hP.sub [0, 1, 2, 3, 4] rfl, hD.sub [0, 1, 2, 3, 4] (by decide) rfl⟩, hS.F ht⟩) hS.2.2 dX7_parse_85
                · skip
                  have hP : va_P D vwCl [(tx, .inr (7, [.ref bys, .int (nI ln), .int v408, .int (nI v409), .int (nI v410), .int v411, .ref wo, .ref fs, .ref sc, .int (nI v412), .int (nI v413), .int (nI v414)])), (bys, .inl (y 1, 150, .inl fby)), (wo, .inl (y 0, 25, .inl v415)), (fs, .inl (y 0, 25, .inl v416)), (sc, .inl (y 0, 25, .inl v417))] H := hP
                  have hD : va_D A [(tx, .inr (7, [.ref bys, .int (nI ln), .int v408, .int (nI v409), .int (nI v410), .int v411, .ref wo, .ref fs, .ref sc, .int (nI v412), .int (nI v413), .int (nI v414)])), (bys, .inl (y 1, 150, .inl fby)), (wo, .inl (y 0, 25, .inl v415)), (fs, .inl (y 0, 25, .inl v416)), (sc, .inl (y 0, 25, .inl v417))] := hD
                  have h424 : kz_g1 fby ln (ks_K fby ln x323) (ks_S fby ln x323) (ks_E fby ln x323) x325 x326 x327 kd9 v410 v412 v413 v414 v415 v416 (j91 + 1) := h424 rfl
                  refine lv_if_ne (tgt := 57) hx hb dX7_parse_51 (by decide) (fun _ => ?_) (fun h9 => absurd h9 (by decide))
                  obtain ⟨hm425, hm426⟩ := kz_g1.b h424
                  refine lv_aload_n hx hb dX7_parse_57 rfl (lv_at hl 1 rfl) ?_
                  have hs427 : kw_Split [(tx, .inr (7, [.ref bys, .int (nI ln), .int v408, .int (nI v409), .int (nI v410), .int v411, .ref wo, .ref fs, .ref sc, .int (nI v412), .int (nI v413), .int (nI v414)])), (bys, .inl (y 1, 150, .inl fby)), (wo, .inl (y 0, 25, .inl v415)), (fs, .inl (y 0, 25, .inl v416)), (sc, .inl (y 0, 25, .inl v417))] [(tx, .inr (7, [.ref bys, .int (nI ln), .int v408, .int (nI v409), .int (nI v410), .int v411, .ref wo, .ref fs, .ref sc, .int (nI v412), .int (nI v413), .int (nI v414)])), (bys, .inl (y 1, 150, .inl fby))] [(wo, .inl (y 0, 25, .inl v415)), (fs, .inl (y 0, 25, .inl v416)), (sc, .inl (y 0, 25, .inl v417))] [0, 1] [2, 3, 4] := ⟨rfl, rfl, rfl, rfl, rfl, by decide⟩
                  refine kw_go_v hs427 hP hD hS hA (va_runV (As := []) (rest := []) ⟨hx, hb, hml, hown, hts⟩ (gs_advance l D y tx bys wo fs sc ln v409 v410 v408 v411 (nI v412) (nI v413) (nI v414) fby hln (by omega) _) (cwV 0 hts gX7_parse_X7_advance rfl rfl rfl (by decide +kernel) ⟨Nat.le_of_ble_eq_true rfl, Nat.le_of_ble_eq_true rfl⟩) (kw_PreV (ci := 7) (q0 := 0) hs427 hP hD hK hN rfl rfl) rfl rfl hl.1 rfl (lv_room (Nat.le_of_ble_eq_true rfl)) dX7_parse_58 ⟨Nat.le_of_ble_eq_true rfl, Nat.le_of_ble_eq_true rfl⟩) (fun u429 H locs hq hP hD hS => ?_)
                  obtain ⟨v430, v431, v432, v433⟩ := u429
                  try dsimp only at hq
                  obtain ⟨h434, h435, h436, h437, h438⟩ := hq
                  have hP : va_P D vwCl [(wo, .inl (y 0, 25, .inl v415)), (fs, .inl (y 0, 25, .inl v416)), (sc, .inl (y 0, 25, .inl v417)), (tx, .inr (7, [.ref bys, .int (nI ln), .int v430, .int (nI v431), .int (nI v432), .int v433, .ref wo, .ref fs, .ref sc, .int (nI v412), .int (nI v413), .int (nI v414)])), (bys, .inl (y 1, 150, .inl fby))] H := hP
                  have hD : va_D A [(wo, .inl (y 0, 25, .inl v415)), (fs, .inl (y 0, 25, .inl v416)), (sc, .inl (y 0, 25, .inl v417)), (tx, .inr (7, [.ref bys, .int (nI ln), .int v430, .int (nI v431), .int (nI v432), .int v433, .ref wo, .ref fs, .ref sc, .int (nI v412), .int (nI v413), .int (nI v414)])), (bys, .inl (y 1, 150, .inl fby))] := hD
                  obtain ⟨rfl, rfl, rfl, hn439⟩ := h438
                  have hk440 := ks_K4 fby ln v410
                  have hP : va_P D vwCl [(wo, .inl (y 0, 25, .inl v415)), (fs, .inl (y 0, 25, .inl v416)), (sc, .inl (y 0, 25, .inl v417)), (tx, .inr (7, [.ref bys, .int (nI ln), .int (nI (ks_K fby ln v410)), .int (nI (ks_S fby ln v410)), .int (nI (ks_E fby ln v410)), .int v433, .ref wo, .ref fs, .ref sc, .int (nI v412), .int (nI v413), .int (nI v414)])), (bys, .inl (y 1, 150, .inl fby))] H := hP
                  have hD : va_D A [(wo, .inl (y 0, 25, .inl v415)), (fs, .inl (y 0, 25, .inl v416)), (sc, .inl (y 0, 25, .inl v417)), (tx, .inr (7, [.ref bys, .int (nI ln), .int (nI (ks_K fby ln v410)), .int (nI (ks_S fby ln v410)), .int (nI (ks_E fby ln v410)), .int v433, .ref wo, .ref fs, .ref sc, .int (nI v412), .int (nI v413), .int (nI v414)])), (bys, .inl (y 1, 150, .inl fby))] := hD
                  refine lv_aload_n hx hb dX7_parse_61 rfl (lv_at hl 1 rfl) ?_
                  refine va_get (D := D) (ci := 7) (v := .int (nI (ks_K fby ln v410))) (C := RX7) (T := TX7) (N := 12) hx hb hts iw7 hown hK hP 3 rfl rfl 2 (by decide) fw5 (fun _ h9 => h9) rfl dX7_parse_62 ?_
                  refine lv_iconst (v := 3) hx hb dX7_parse_65 (by decide) ?_
                  refine lv_icmp_eq (tgt := 72) hx hb dX7_parse_66 (by decide) (fun h441 => ?_) (fun h442 => ?_)
                  · skip
                    have h441 : (ks_K fby ln v410) = 3 := (nI_eq (a := (ks_K fby ln v410)) (b := 3) (by omega) (by omega)).mp h441
                    refine lv_iinc (v := (nI (j91 + 1))) (lv' := [(1, .int (nI (j91 + 1))), (0, .ref tx)]) hx hb dX7_parse_72 hl (k := 0) rfl (nI_1 j91) (by decide) rfl (fun ls hl => ?_)
                    refine lv_goto (tgt := 23) hx hb dX7_parse_75 (by decide) ?_
                    exact ihj91 (j91 + 1) v415 v416 v417 (nI (ks_K fby ln v410)) (ks_S fby ln v410) (ks_E fby ln v410) v433 v412 v413 v414 H locs ls (by omega) (by omega) (by omega) (by omega) (by omega) (by omega) (by omega) (by omega) (kz_LI.next hL9 h79 (by omega) h403 h424 (by omega) h441) (hP.sub [0, 1, 2, 3, 4] rfl) (hD.sub [0, 1, 2, 3, 4] (by decide) rfl) hS (lv_sub hl [0, 1] rfl)
                  · skip
                    have h442 : ¬ (ks_K fby ln v410) = 3 := fun q9 => h442 ((nI_eq (a := (ks_K fby ln v410)) (b := 3) (by omega) (by omega)).mpr q9)
                    refine lv_goto (tgt := 78) hx hb dX7_parse_69 (by decide) ?_
                    refine lv_bipush (v := (-10)) hx hb dX7_parse_78 (by decide) ?_
                    refine lv_aload_n hx hb dX7_parse_80 rfl (lv_at hl 1 rfl) ?_
                    refine va_get (D := D) (ci := 7) (v := .int (nI (ks_S fby ln v410))) (C := RX7) (T := TX7) (N := 12) hx hb hts iw7 hown hK hP 3 rfl rfl 3 (by decide) fw6 (fun _ h9 => h9) rfl dX7_parse_81 ?_
                    refine lv_isub hx hb dX7_parse_84 ?_
                    exact W.iret (v := ((-10) - (nI (ks_S fby ln v410)))) hx hb hr (fun tZ ht hW => ⟨⟨((-10) - (nI (ks_S fby ln v410))), ((nI (ks_K fby ln v410)), ks_S fby ln v410, ks_E fby ln v410, v433, (nI v412), (nI v413), (nI v414), v415, v416, v417), rfl, ⟨by first | omega | (dsimp only; omega), by first | omega | (dsimp only; omega), kz_pR.nos hL9 h403 h424 h442 (by first | omega | (dsimp only; omega))⟩, by rw [ht]; exact hP.sub [3, 4, 0, 1, 2] rfl, hD.sub [3, 4, 0, 1, 2] (by decide) rfl⟩, hS.F ht⟩) hS.2.2 dX7_parse_85
              · skip
                have h404 : (ks_K fby ln x323) = 0 := (nI_eq (a := (ks_K fby ln x323)) (b := 0) (by omega) (by omega)).mp h404
                refine lv_iload_n hx hb dX7_parse_40 rfl (lv_at hl 0 rfl) ?_
                refine lv_if_le (tgt := 46) hx hb dX7_parse_41 (by decide) (fun h443 => ?_) (fun h444 => ?_)
                · skip
                  have h443 : j91 ≤ 0 := (nI_leI (a := j91) (b := 0) (by omega) (by omega)).mp h443
                  exact absurd h443 (by omega)
                · skip
                  have h444 : ¬ j91 ≤ 0 := fun q9 => h444 ((nI_leI (a := j91) (b := 0) (by omega) (by omega)).mpr q9)
                  refine lv_iload_n hx hb dX7_parse_44 rfl (lv_at hl 0 rfl) ?_
                  exact W.iret (v := (nI j91)) hx hb hr (fun tZ ht hW => ⟨⟨(nI j91), ((nI (ks_K fby ln x323)), ks_S fby ln x323, ks_E fby ln x323, v395, (nI x325), (nI x326), (nI x327), x318, x319, x320), rfl, ⟨by first | omega | (dsimp only; omega), by first | omega | (dsimp only; omega), kz_pR.ok hL9 h404 hO9 (by first | omega | (dsimp only; omega)) (by first | omega | (dsimp only; omega))⟩, by rw [ht]; exact hP.sub [3, 4, 0, 1, 2] rfl, hD.sub [3, 4, 0, 1, 2] (by decide) rfl⟩, hS.F ht⟩) hS.2.2 dX7_parse_45
        exact lp386 (25 + 1) 1 v238 v239 fsc (nI (ks_K fby ln v236)) (ks_S fby ln v236) (ks_E fby ln v236) v250 0 0 12 _ _ _ (by omega) (by omega) (by omega) (by omega) (by omega) (by omega) (by omega) (by omega) (kz_LI.first h243 (by omega) h258) hP hD hS (lv_sub hl [0, 1] rfl)
      · skip
        have h259 : ¬ (ks_K fby ln v236) = 3 := fun q9 => h259 ((nI_eq (a := (ks_K fby ln v236)) (b := 3) (by omega) (by omega)).mpr q9)
        refine lv_goto (tgt := 78) hx hb dX7_parse_69 (by decide) ?_
        refine lv_bipush (v := (-10)) hx hb dX7_parse_78 (by decide) ?_
        refine lv_aload_n hx hb dX7_parse_80 rfl (lv_at hl 1 rfl) ?_
        refine va_get (D := D) (ci := 7) (v := .int (nI (ks_S fby ln v236))) (C := RX7) (T := TX7) (N := 12) hx hb hts iw7 hown hK hP 3 rfl rfl 3 (by decide) fw6 (fun _ h9 => h9) rfl dX7_parse_81 ?_
        refine lv_isub hx hb dX7_parse_84 ?_
        exact W.iret (v := ((-10) - (nI (ks_S fby ln v236)))) hx hb hr (fun tZ ht hW => ⟨⟨((-10) - (nI (ks_S fby ln v236))), ((nI (ks_K fby ln v236)), ks_S fby ln v236, ks_E fby ln v236, v250, (nI 0), (nI 0), (nI 12), v238, v239, fsc), rfl, ⟨by first | omega | (dsimp only; omega), by first | omega | (dsimp only; omega), kz_pR.flt (ks_readS h243.1 h259) (by first | omega | (dsimp only; omega))⟩, by rw [ht]; exact hP.sub [3, 4, 0, 1, 2] rfl, hD.sub [3, 4, 0, 1, 2] (by decide) rfl⟩, hS.F ht⟩) hS.2.2 dX7_parse_85

set_option maxHeartbeats 4000000 in
set_option maxRecDepth 100000 in
theorem gp_sread_bad (l : Launch) (D : va_G) (y : Nat → ClassId) (aK : Nat → Nat) (aV : Nat → Nat) (g : Nat) (kk : Nat) (nw : Nat) (im : Nat) (kp : Nat) (tx : Nat) (tr : Nat) (be : Nat) (sh : Nat) (sd : Nat) (rf : Nat) (ab : Int32) (bl : Int32) (nk : Nat) (nd : Nat) (ne : Nat) (nm : Nat) (nn : Nat) (fi : Nat) (gl : Nat) (un : Nat) (mi : Nat) (no : Nat) (nd : Nat) (nl : Nat) (na : Nat) (ns : Nat) (nst : Int32) (ncl : Int32) (nnu : Int32) (nfl : Nat → Int32) (nfa : Nat → Int32) (nfs : Nat → Int32) (fk : Nat → Int32) (k0 : Nat) (k1 : Nat) (k2 : Nat) (k3 : Nat) (k4 : Nat) (k5 : Nat) (fq : Nat → Option Nat) (bys : Nat) (wo : Nat) (fs : Nat) (sc : Nat) (ln : Nat) (sta : Nat) (en : Nat) (tok : Int32) (num : Int32) (tfi : Int32) (tgl : Int32) (tst : Int32) (fby : Nat → Int32) (fwo : Nat → Int32) (ffs : Nat → Int32) (fsc : Nat → Int32) (q : Nat) (hfi : fi ≤ 6) (hgl : gl ≤ 5) (hun : un ≤ 8) (hmi : mi ≤ 4) (hno : no ≤ 6) (hk : kw_bd 6 6 fk) (hna : kw_bd 6 5 nfa) (hq0 : fq 0 = some k0) (hq1 : fq 1 = some k1) (hq2 : fq 2 = some k2) (hq3 : fq 3 = some k3) (hq4 : fq 4 = some k4) (hq5 : fq 5 = some k5) (hln : ln ≤ 150) (hTs : sta ≤ 150) (hTe : en ≤ 150) (hA1 : ks_read fby ln = ks_flt q) : kz_Mi l yX10_read wsX10_read ({ frames := 9, cells := 0, slots := 0, locals := 231 }) D y [.ref g] [(g, .inr (10, [.ref kk, .ref nw, .ref im, .ref kp, .ref tx, .ref tr, .ref be, .ref sh, .ref sd, .ref rf, .int ab, .int bl])), (nw, .inr (4, [.ref kk, .ref nk, .ref nd, .ref ne, .ref nm, .ref nn, .int (nI fi), .int (nI gl), .int (nI un), .int (nI mi), .int (nI no)])), (nk, .inl (y 0, 6, .inl fk)), (nd, .inr (1, [.ref nl, .ref na, .ref ns, .int nst, .int ncl, .int nnu])), (nl, .inl (y 0, 6, .inl nfl)), (na, .inl (y 0, 5, .inl nfa)), (ns, .inl (y 0, 5, .inl nfs)), (kk, .inl (y 5, 6, .inr (.inr (.inr (.inr fq))))), (k0, .inr (5, [])), (k1, .inr (8, [])), (k2, .inr (9, [])), (k3, .inr (6, [])), (k4, .inr (2, [])), (k5, .inr (3, [])), (tx, .inr (7, [.ref bys, .int (nI ln), .int tok, .int (nI sta), .int (nI en), .int num, .ref wo, .ref fs, .ref sc, .int tfi, .int tgl, .int tst])), (bys, .inl (y 1, 150, .inl fby)), (wo, .inl (y 0, 25, .inl fwo)), (fs, .inl (y 0, 25, .inl ffs)), (sc, .inl (y 0, 25, .inl fsc))] aK aV (fun (r : Int32) (u : Int32 × Nat × Nat × Int32 × Int32 × Int32 × Int32 × (Nat → Int32) × (Nat → Int32) × (Nat → Int32)) => u.2.1 ≤ 150 ∧ u.2.2.1 ≤ 150 ∧ r = ((-10) - (nI q))) (fun u => [(g, .inr (10, [.ref kk, .ref nw, .ref im, .ref kp, .ref tx, .ref tr, .ref be, .ref sh, .ref sd, .ref rf, .int ab, .int bl])), (nw, .inr (4, [.ref kk, .ref nk, .ref nd, .ref ne, .ref nm, .ref nn, .int (nI fi), .int (nI gl), .int (nI un), .int (nI mi), .int (nI no)])), (nk, .inl (y 0, 6, .inl fk)), (nd, .inr (1, [.ref nl, .ref na, .ref ns, .int nst, .int ncl, .int nnu])), (nl, .inl (y 0, 6, .inl nfl)), (na, .inl (y 0, 5, .inl nfa)), (ns, .inl (y 0, 5, .inl nfs)), (kk, .inl (y 5, 6, .inr (.inr (.inr (.inr fq))))), (k0, .inr (5, [])), (k1, .inr (8, [])), (k2, .inr (9, [])), (k3, .inr (6, [])), (k4, .inr (2, [])), (k5, .inr (3, [])), (tx, .inr (7, [.ref bys, .int (nI ln), .int u.1, .int (nI u.2.1), .int (nI u.2.2.1), .int u.2.2.2.1, .ref wo, .ref fs, .ref sc, .int u.2.2.2.2.1, .int u.2.2.2.2.2.1, .int u.2.2.2.2.2.2.1])), (bys, .inl (y 1, 150, .inl fby)), (wo, .inl (y 0, 25, .inl u.2.2.2.2.2.2.2.1)), (fs, .inl (y 0, 25, .inl u.2.2.2.2.2.2.2.2.1)), (sc, .inl (y 0, 25, .inl u.2.2.2.2.2.2.2.2.2))]) 0 0 := by
  refine kz_Mi.of (cc := cX10_read) (maxL := 3) (ret := (some .int)) (by decide) rfl ?_
  intro pZ eZ s mZ beZ meZ cZ A hE
  obtain ⟨hx, hb, hr, hml, hts, hown, hlocks, hin, hA, hP, hD, hK, hN, hZ⟩ := hE
  have hS : va_S A s.heap s.heap [] := va_S.rf
  have hl := lv_entry ([.ref g]) (n := 3) (Nat.le_of_ble_eq_true rfl)
  rw [lg_entry_eq]
  generalize (lg_sl ([.ref g]) ++ List.replicate (3 - (lg_sl ([.ref g])).length) Slot.unset).toArray = ls at hl ⊢
  have hl : lv_has ls 3 [(0, .ref g)] := hl
  have fw1 := hts (.fieldLink RX10 51 "GleanDusk" "text" "LGleanDusk$Text;") (List.mem_of_getElem? (i := 1) rfl)
  have iw10 : ∀ w ∈ wsX100, w ∈ wsX10_read := fun _ h => List.mem_cons_of_mem _ (List.mem_append_left _ (List.mem_append_left _ (List.mem_append_left _ (List.mem_append_right _ h))))
  refine lv_aload_n hx hb dX10_read_0 rfl (lv_at hl 0 rfl) ?_
  refine va_get (D := D) (ci := 10) (v := .ref tx) (C := RX10) (T := TX10) (N := 12) hx hb hts iw10 hown hK hP 0 rfl rfl 4 (by decide) fw1 (fun _ h9 => h9) rfl dX10_read_1 ?_
  have hs1 : kw_Split [(g, .inr (10, [.ref kk, .ref nw, .ref im, .ref kp, .ref tx, .ref tr, .ref be, .ref sh, .ref sd, .ref rf, .int ab, .int bl])), (nw, .inr (4, [.ref kk, .ref nk, .ref nd, .ref ne, .ref nm, .ref nn, .int (nI fi), .int (nI gl), .int (nI un), .int (nI mi), .int (nI no)])), (nk, .inl (y 0, 6, .inl fk)), (nd, .inr (1, [.ref nl, .ref na, .ref ns, .int nst, .int ncl, .int nnu])), (nl, .inl (y 0, 6, .inl nfl)), (na, .inl (y 0, 5, .inl nfa)), (ns, .inl (y 0, 5, .inl nfs)), (kk, .inl (y 5, 6, .inr (.inr (.inr (.inr fq))))), (k0, .inr (5, [])), (k1, .inr (8, [])), (k2, .inr (9, [])), (k3, .inr (6, [])), (k4, .inr (2, [])), (k5, .inr (3, [])), (tx, .inr (7, [.ref bys, .int (nI ln), .int tok, .int (nI sta), .int (nI en), .int num, .ref wo, .ref fs, .ref sc, .int tfi, .int tgl, .int tst])), (bys, .inl (y 1, 150, .inl fby)), (wo, .inl (y 0, 25, .inl fwo)), (fs, .inl (y 0, 25, .inl ffs)), (sc, .inl (y 0, 25, .inl fsc))] [(tx, .inr (7, [.ref bys, .int (nI ln), .int tok, .int (nI sta), .int (nI en), .int num, .ref wo, .ref fs, .ref sc, .int tfi, .int tgl, .int tst])), (bys, .inl (y 1, 150, .inl fby)), (wo, .inl (y 0, 25, .inl fwo)), (fs, .inl (y 0, 25, .inl ffs)), (sc, .inl (y 0, 25, .inl fsc))] [(g, .inr (10, [.ref kk, .ref nw, .ref im, .ref kp, .ref tx, .ref tr, .ref be, .ref sh, .ref sd, .ref rf, .int ab, .int bl])), (nw, .inr (4, [.ref kk, .ref nk, .ref nd, .ref ne, .ref nm, .ref nn, .int (nI fi), .int (nI gl), .int (nI un), .int (nI mi), .int (nI no)])), (nk, .inl (y 0, 6, .inl fk)), (nd, .inr (1, [.ref nl, .ref na, .ref ns, .int nst, .int ncl, .int nnu])), (nl, .inl (y 0, 6, .inl nfl)), (na, .inl (y 0, 5, .inl nfa)), (ns, .inl (y 0, 5, .inl nfs)), (kk, .inl (y 5, 6, .inr (.inr (.inr (.inr fq))))), (k0, .inr (5, [])), (k1, .inr (8, [])), (k2, .inr (9, [])), (k3, .inr (6, [])), (k4, .inr (2, [])), (k5, .inr (3, []))] [14, 15, 16, 17, 18] [0, 1, 2, 3, 4, 5, 6, 7, 8, 9, 10, 11, 12, 13] := ⟨rfl, rfl, rfl, rfl, rfl, by decide⟩
  refine kw_go_i hs1 hP hD hS hA (va_runV (As := []) (rest := []) ⟨hx, hb, hml, hown, hts⟩ (gs_parse l D y aK aV tx bys wo fs sc ln sta en tok num tfi tgl tst fby fwo ffs fsc hln hTs hTe _) (cwV 0 hts gX10_read_X7_parse rfl rfl rfl (by decide +kernel) ⟨Nat.le_of_ble_eq_true rfl, Nat.le_of_ble_eq_true rfl⟩) (kz_PreV (ci := 7) (q0 := 14) hs1 hP hD hK hN rfl rfl hZ hS hA) rfl rfl hl.1 rfl (lv_room (Nat.le_of_ble_eq_true rfl)) dX10_read_4 ⟨Nat.le_of_ble_eq_true rfl, Nat.le_of_ble_eq_true rfl⟩) (fun r2 u3 H locs hq hP hD hS => ?_)
  obtain ⟨v4, v5, v6, v7, v8, v9, v10, v11, v12, v13⟩ := u3
  try dsimp only at hq
  obtain ⟨h14, h15, h16⟩ := hq
  have hP : va_P D vwCl [(g, .inr (10, [.ref kk, .ref nw, .ref im, .ref kp, .ref tx, .ref tr, .ref be, .ref sh, .ref sd, .ref rf, .int ab, .int bl])), (nw, .inr (4, [.ref kk, .ref nk, .ref nd, .ref ne, .ref nm, .ref nn, .int (nI fi), .int (nI gl), .int (nI un), .int (nI mi), .int (nI no)])), (nk, .inl (y 0, 6, .inl fk)), (nd, .inr (1, [.ref nl, .ref na, .ref ns, .int nst, .int ncl, .int nnu])), (nl, .inl (y 0, 6, .inl nfl)), (na, .inl (y 0, 5, .inl nfa)), (ns, .inl (y 0, 5, .inl nfs)), (kk, .inl (y 5, 6, .inr (.inr (.inr (.inr fq))))), (k0, .inr (5, [])), (k1, .inr (8, [])), (k2, .inr (9, [])), (k3, .inr (6, [])), (k4, .inr (2, [])), (k5, .inr (3, [])), (tx, .inr (7, [.ref bys, .int (nI ln), .int v4, .int (nI v5), .int (nI v6), .int v7, .ref wo, .ref fs, .ref sc, .int v8, .int v9, .int v10])), (bys, .inl (y 1, 150, .inl fby)), (wo, .inl (y 0, 25, .inl v11)), (fs, .inl (y 0, 25, .inl v12)), (sc, .inl (y 0, 25, .inl v13))] H := hP
  have hD : va_D A [(g, .inr (10, [.ref kk, .ref nw, .ref im, .ref kp, .ref tx, .ref tr, .ref be, .ref sh, .ref sd, .ref rf, .int ab, .int bl])), (nw, .inr (4, [.ref kk, .ref nk, .ref nd, .ref ne, .ref nm, .ref nn, .int (nI fi), .int (nI gl), .int (nI un), .int (nI mi), .int (nI no)])), (nk, .inl (y 0, 6, .inl fk)), (nd, .inr (1, [.ref nl, .ref na, .ref ns, .int nst, .int ncl, .int nnu])), (nl, .inl (y 0, 6, .inl nfl)), (na, .inl (y 0, 5, .inl nfa)), (ns, .inl (y 0, 5, .inl nfs)), (kk, .inl (y 5, 6, .inr (.inr (.inr (.inr fq))))), (k0, .inr (5, [])), (k1, .inr (8, [])), (k2, .inr (9, [])), (k3, .inr (6, [])), (k4, .inr (2, [])), (k5, .inr (3, [])), (tx, .inr (7, [.ref bys, .int (nI ln), .int v4, .int (nI v5), .int (nI v6), .int v7, .ref wo, .ref fs, .ref sc, .int v8, .int v9, .int v10])), (bys, .inl (y 1, 150, .inl fby)), (wo, .inl (y 0, 25, .inl v11)), (fs, .inl (y 0, 25, .inl v12)), (sc, .inl (y 0, 25, .inl v13))] := hD
  rcases h16 with ⟨q9, hq9, rfl, hf9⟩ | ⟨m9, a9, b9, t9, kd9, h09, h25, hO9, rfl, hk9⟩
  · skip
    obtain rfl : q = q9 := ks_flt_inj (hA1.symm.trans hf9)
    have hng : ¬ 0 ≤ ((-10) - (nI q)) := kz_nle (kz_tenneg (by omega))
    refine lv_istore_n (lv' := [(1, .int ((-10) - (nI q))), (0, .ref g)]) hx hb dX10_read_7 rfl hl (by decide) rfl (fun ls hl => ?_)
    refine lv_iload_n hx hb dX10_read_8 rfl (lv_at hl 0 rfl) ?_
    refine lv_if_ge (tgt := 14) hx hb dX10_read_9 (by decide) (fun h17 => ?_) (fun h18 => ?_)
    · skip
      exact absurd h17 hng
    · skip
      refine lv_iload_n hx hb dX10_read_12 rfl (lv_at hl 0 rfl) ?_
      exact W.iret (v := ((-10) - (nI q))) hx hb hr (fun tZ ht hW => ⟨⟨((-10) - (nI q)), (v4, v5, v6, v7, v8, v9, v10, v11, v12, v13), rfl, ⟨by first | omega | (dsimp only; omega), by first | omega | (dsimp only; omega), rfl⟩, by rw [ht]; exact hP.sub [0, 1, 2, 3, 4, 5, 6, 7, 8, 9, 10, 11, 12, 13, 14, 15, 16, 17, 18] rfl, hD.sub [0, 1, 2, 3, 4, 5, 6, 7, 8, 9, 10, 11, 12, 13, 14, 15, 16, 17, 18] (by decide) rfl⟩, hS.F ht⟩) hS.2.2 dX10_read_13
  · skip
    exact (ks_ne (hA1.symm.trans hk9)).elim
