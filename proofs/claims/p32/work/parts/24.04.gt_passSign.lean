set_option maxHeartbeats 4000000 in
set_option maxRecDepth 100000 in
theorem gt_passSign (l : Launch) (D : va_G) (y : Nat → ClassId) (tx : Nat) (bys : Nat) (wo : Nat) (fs : Nat) (sc : Nat) (ln : Nat) (sta : Nat) (en : Nat) (tok : Int32) (num : Int32) (tfi : Int32) (tgl : Int32) (tst : Int32) (fby : Nat → Int32) (hln : ln ≤ 150) (hA1 : sta < ln) (hA2 : en < ln) (hse : sta ≤ en) : kw_Mv l yX7_passSign wsX7_passSign ({ frames := 1, cells := 0, slots := 0, locals := 60 }) D y [.ref tx] [(tx, .inr (7, [.ref bys, .int (nI ln), .int tok, .int (nI sta), .int (nI en), .int num, .ref wo, .ref fs, .ref sc, .int tfi, .int tgl, .int tst])), (bys, .inl (y 1, 150, .inl fby))] (fun (u : Int32) => sta ≤ (en + 1)) (fun u => [(tx, .inr (7, [.ref bys, .int (nI ln), .int u, .int (nI sta), .int (nI (en + 1)), .int num, .ref wo, .ref fs, .ref sc, .int tfi, .int tgl, .int tst])), (bys, .inl (y 1, 150, .inl fby))]) 0 0 := by
  refine kw_Mv.of (cc := cX7_passSign) (maxL := 1) (ret := none) (by decide) rfl ?_
  intro pZ eZ s mZ beZ meZ cZ A hE
  obtain ⟨hx, hb, hr, hml, hts, hown, hlocks, hin, hA, hP, hD, hK, hN⟩ := hE
  have hS : va_S A s.heap s.heap [] := va_S.rf
  have hl := lv_entry ([.ref tx]) (n := 1) (Nat.le_of_ble_eq_true rfl)
  rw [lg_entry_eq]
  generalize (lg_sl ([.ref tx]) ++ List.replicate (1 - (lg_sl ([.ref tx])).length) Slot.unset).toArray = ls at hl ⊢
  have hl : lv_has ls 1 [(0, .ref tx)] := hl
  have fw1 := hts (.fieldLink RX7 9 "GleanDusk$Text" "bytes" "[B") (List.mem_of_getElem? (i := 1) rfl)
  have fw2 := hts (.fieldLink RX7 51 "GleanDusk$Text" "start" "I") (List.mem_of_getElem? (i := 2) rfl)
  have fw3 := hts (.fieldLink RX7 44 "GleanDusk$Text" "token" "I") (List.mem_of_getElem? (i := 3) rfl)
  have fw4 := hts (.fieldLink RX7 29 "GleanDusk$Text" "end" "I") (List.mem_of_getElem? (i := 4) rfl)
  have iw7 : ∀ w ∈ wsX70, w ∈ wsX7_passSign := fun _ h => List.mem_cons_of_mem _ (List.mem_append_right _ h)
  refine lv_aload_n hx hb dX7_passSign_0 rfl (lv_at hl 0 rfl) ?_
  refine lv_aload_n hx hb dX7_passSign_1 rfl (lv_at hl 0 rfl) ?_
  refine va_get (D := D) (ci := 7) (v := .ref bys) (C := RX7) (T := TX7) (N := 12) hx hb hts iw7 hown hK hP 0 rfl rfl 0 (by decide) fw1 (fun _ h9 => h9) rfl dX7_passSign_2 ?_
  refine lv_aload_n hx hb dX7_passSign_5 rfl (lv_at hl 0 rfl) ?_
  refine va_get (D := D) (ci := 7) (v := .int (nI sta)) (C := RX7) (T := TX7) (N := 12) hx hb hts iw7 hown hK hP 0 rfl rfl 3 (by decide) fw2 (fun _ h9 => h9) rfl dX7_passSign_6 ?_
  refine va_bald hx hb hK hP 1 1 rfl rfl (vp_in_nI (by omega) (by decide)) dX7_passSign_9 ?_
  rw [nI_clamp (n := sta) (by omega)]
  refine lv_bipush (v := 59) hx hb dX7_passSign_10 (by decide) ?_
  refine lv_icmp_ne (tgt := 19) hx hb dX7_passSign_12 (by decide) (fun h1 => ?_) (fun h2 => ?_)
  · skip
    refine lv_iconst (v := 4) hx hb dX7_passSign_19 (by decide) ?_
    refine va_put (D := D) (ci := 7) (v := .int 4) (ty := .int) (C := RX7) (T := TX7) (N := 12) hx hb hts iw7 tyX7 tyX7_ok nmX7 hown hK hP hD hS 0 rfl rfl 2 (by decide) fw3 (fun _ h9 => h9) rfl (by decide +kernel) rfl rfl (Nat.le_of_ble_eq_true rfl) dX7_passSign_20 (fun H locs hP hD hS => ?_)
    have hP : va_P D vwCl [(tx, .inr (7, [.ref bys, .int (nI ln), .int 4, .int (nI sta), .int (nI en), .int num, .ref wo, .ref fs, .ref sc, .int tfi, .int tgl, .int tst])), (bys, .inl (y 1, 150, .inl fby))] H := hP
    have hD : va_D A [(tx, .inr (7, [.ref bys, .int (nI ln), .int 4, .int (nI sta), .int (nI en), .int num, .ref wo, .ref fs, .ref sc, .int tfi, .int tgl, .int tst])), (bys, .inl (y 1, 150, .inl fby))] := hD
    refine lv_aload_n hx hb dX7_passSign_23 rfl (lv_at hl 0 rfl) ?_
    refine lv_dup hx hb dX7_passSign_24 rfl ?_
    refine va_get (D := D) (ci := 7) (v := .int (nI en)) (C := RX7) (T := TX7) (N := 12) hx hb hts iw7 hown hK hP 0 rfl rfl 4 (by decide) fw4 (fun _ h9 => h9) rfl dX7_passSign_25 ?_
    refine lv_iconst (v := 1) hx hb dX7_passSign_28 (by decide) ?_
    refine lv_iadd hx hb dX7_passSign_29 ?_
    rw [show (nI en) + 1 = nI (en + 1) from nI_add en 1]
    refine va_put (D := D) (ci := 7) (v := .int (nI (en + 1))) (ty := .int) (C := RX7) (T := TX7) (N := 12) hx hb hts iw7 tyX7 tyX7_ok nmX7 hown hK hP hD hS 0 rfl rfl 4 (by decide) fw4 (fun _ h9 => h9) rfl (by decide +kernel) rfl rfl (Nat.le_of_ble_eq_true rfl) dX7_passSign_30 (fun H locs hP hD hS => ?_)
    have hP : va_P D vwCl [(tx, .inr (7, [.ref bys, .int (nI ln), .int 4, .int (nI sta), .int (nI (en + 1)), .int num, .ref wo, .ref fs, .ref sc, .int tfi, .int tgl, .int tst])), (bys, .inl (y 1, 150, .inl fby))] H := hP
    have hD : va_D A [(tx, .inr (7, [.ref bys, .int (nI ln), .int 4, .int (nI sta), .int (nI (en + 1)), .int num, .ref wo, .ref fs, .ref sc, .int tfi, .int tgl, .int tst])), (bys, .inl (y 1, 150, .inl fby))] := hD
    exact W.vret hx hb hr (fun tZ ht hW => ⟨⟨(4), rfl, by first | omega | (dsimp only; omega), by rw [ht]; exact hP.sub [0, 1] rfl, hD.sub [0, 1] (by decide) rfl⟩, hS.F ht⟩) hS.2.2 dX7_passSign_33
  · skip
    refine lv_iconst (v := 3) hx hb dX7_passSign_15 (by decide) ?_
    refine lv_goto (tgt := 20) hx hb dX7_passSign_16 (by decide) ?_
    refine va_put (D := D) (ci := 7) (v := .int 3) (ty := .int) (C := RX7) (T := TX7) (N := 12) hx hb hts iw7 tyX7 tyX7_ok nmX7 hown hK hP hD hS 0 rfl rfl 2 (by decide) fw3 (fun _ h9 => h9) rfl (by decide +kernel) rfl rfl (Nat.le_of_ble_eq_true rfl) dX7_passSign_20 (fun H locs hP hD hS => ?_)
    have hP : va_P D vwCl [(tx, .inr (7, [.ref bys, .int (nI ln), .int 3, .int (nI sta), .int (nI en), .int num, .ref wo, .ref fs, .ref sc, .int tfi, .int tgl, .int tst])), (bys, .inl (y 1, 150, .inl fby))] H := hP
    have hD : va_D A [(tx, .inr (7, [.ref bys, .int (nI ln), .int 3, .int (nI sta), .int (nI en), .int num, .ref wo, .ref fs, .ref sc, .int tfi, .int tgl, .int tst])), (bys, .inl (y 1, 150, .inl fby))] := hD
    refine lv_aload_n hx hb dX7_passSign_23 rfl (lv_at hl 0 rfl) ?_
    refine lv_dup hx hb dX7_passSign_24 rfl ?_
    refine va_get (D := D) (ci := 7) (v := .int (nI en)) (C := RX7) (T := TX7) (N := 12) hx hb hts iw7 hown hK hP 0 rfl rfl 4 (by decide) fw4 (fun _ h9 => h9) rfl dX7_passSign_25 ?_
    refine lv_iconst (v := 1) hx hb dX7_passSign_28 (by decide) ?_
    refine lv_iadd hx hb dX7_passSign_29 ?_
    rw [show (nI en) + 1 = nI (en + 1) from nI_add en 1]
    refine va_put (D := D) (ci := 7) (v := .int (nI (en + 1))) (ty := .int) (C := RX7) (T := TX7) (N := 12) hx hb hts iw7 tyX7 tyX7_ok nmX7 hown hK hP hD hS 0 rfl rfl 4 (by decide) fw4 (fun _ h9 => h9) rfl (by decide +kernel) rfl rfl (Nat.le_of_ble_eq_true rfl) dX7_passSign_30 (fun H locs hP hD hS => ?_)
    have hP : va_P D vwCl [(tx, .inr (7, [.ref bys, .int (nI ln), .int 3, .int (nI sta), .int (nI (en + 1)), .int num, .ref wo, .ref fs, .ref sc, .int tfi, .int tgl, .int tst])), (bys, .inl (y 1, 150, .inl fby))] H := hP
    have hD : va_D A [(tx, .inr (7, [.ref bys, .int (nI ln), .int 3, .int (nI sta), .int (nI (en + 1)), .int num, .ref wo, .ref fs, .ref sc, .int tfi, .int tgl, .int tst])), (bys, .inl (y 1, 150, .inl fby))] := hD
    exact W.vret hx hb hr (fun tZ ht hW => ⟨⟨(3), rfl, by first | omega | (dsimp only; omega), by rw [ht]; exact hP.sub [0, 1] rfl, hD.sub [0, 1] (by decide) rfl⟩, hS.F ht⟩) hS.2.2 dX7_passSign_33
