set_option maxHeartbeats 4000000 in
set_option maxRecDepth 100000 in
theorem gt_isFigure (l : Launch) (D : va_G) (y : Nat → ClassId) (x : Int32)  : kw_Mi l yX7_isFigure wsX7_isFigure ({ frames := 1, cells := 0, slots := 0, locals := 60 }) D y [.int x] [] (fun (r : Int32) (u : Unit) => (r = 0 ∨ r = 1)) (fun _ => []) 0 0 := by
  refine kw_Mi.of (cc := cX7_isFigure) (maxL := 1) (ret := (some .boolean)) (by decide) rfl ?_
  intro pZ eZ s mZ beZ meZ cZ A hE
  obtain ⟨hx, hb, hr, hml, hts, hown, hlocks, hin, hA, hP, hD, hK, hN⟩ := hE
  have hS : va_S A s.heap s.heap [] := va_S.rf
  have hl := lv_entry ([.int x]) (n := 1) (Nat.le_of_ble_eq_true rfl)
  rw [lg_entry_eq]
  generalize (lg_sl ([.int x]) ++ List.replicate (1 - (lg_sl ([.int x])).length) Slot.unset).toArray = ls at hl ⊢
  have hl : lv_has ls 1 [(0, .int x)] := hl
  refine lv_iload_n hx hb dX7_isFigure_0 rfl (lv_at hl 0 rfl) ?_
  refine lv_bipush (v := 48) hx hb dX7_isFigure_1 (by decide) ?_
  refine lv_icmp_lt (tgt := 16) hx hb dX7_isFigure_3 (by decide) (fun h1 => ?_) (fun h2 => ?_)
  · skip
    refine lv_iconst (v := 0) hx hb dX7_isFigure_16 (by decide) ?_
    exact W.zret (v := 0) hx hb hr (by decide) (fun tZ ht hW => ⟨⟨0, (), rfl, Or.inl rfl, by rw [ht]; exact hP.sub [] rfl, hD.sub [] (by decide) rfl⟩, hS.F ht⟩) hS.2.2 dX7_isFigure_17
  · skip
    refine lv_iload_n hx hb dX7_isFigure_6 rfl (lv_at hl 0 rfl) ?_
    refine lv_bipush (v := 57) hx hb dX7_isFigure_7 (by decide) ?_
    refine lv_icmp_gt (tgt := 16) hx hb dX7_isFigure_9 (by decide) (fun h3 => ?_) (fun h4 => ?_)
    · skip
      refine lv_iconst (v := 0) hx hb dX7_isFigure_16 (by decide) ?_
      exact W.zret (v := 0) hx hb hr (by decide) (fun tZ ht hW => ⟨⟨0, (), rfl, Or.inl rfl, by rw [ht]; exact hP.sub [] rfl, hD.sub [] (by decide) rfl⟩, hS.F ht⟩) hS.2.2 dX7_isFigure_17
    · skip
      refine lv_iconst (v := 1) hx hb dX7_isFigure_12 (by decide) ?_
      refine lv_goto (tgt := 17) hx hb dX7_isFigure_13 (by decide) ?_
      exact W.zret (v := 1) hx hb hr (by decide) (fun tZ ht hW => ⟨⟨1, (), rfl, Or.inr rfl, by rw [ht]; exact hP.sub [] rfl, hD.sub [] (by decide) rfl⟩, hS.F ht⟩) hS.2.2 dX7_isFigure_17

set_option maxHeartbeats 4000000 in
set_option maxRecDepth 100000 in
theorem gt_append (l : Launch) (D : va_G) (y : Nat → ClassId) (tx : Nat) (bys : Nat) (wo : Nat) (fs : Nat) (sc : Nat) (ln : Nat) (sta : Nat) (en : Nat) (tok : Int32) (num : Int32) (tfi : Int32) (tgl : Int32) (tst : Int32) (fby : Nat → Int32) (x : Int32) (hln : ln ≤ 150) (hlt : ln < 150) : kw_Mi l yX7_append wsX7_append ({ frames := 1, cells := 0, slots := 0, locals := 60 }) D y [.ref tx, .int x] [(tx, .inr (7, [.ref bys, .int (nI ln), .int tok, .int (nI sta), .int (nI en), .int num, .ref wo, .ref fs, .ref sc, .int tfi, .int tgl, .int tst])), (bys, .inl (y 1, 150, .inl fby))] (fun (r : Int32) (u : Unit) => r = (nI (ln + 1))) (fun _ => [(tx, .inr (7, [.ref bys, .int (nI (ln + 1)), .int tok, .int (nI sta), .int (nI en), .int num, .ref wo, .ref fs, .ref sc, .int tfi, .int tgl, .int tst])), (bys, .inl (y 1, 150, .inl (upd fby ln (vp_nar .byte x.toInt8.toInt32))))]) 0 0 := by
  refine kw_Mi.of (cc := cX7_append) (maxL := 2) (ret := (some .int)) (by decide) rfl ?_
  intro pZ eZ s mZ beZ meZ cZ A hE
  obtain ⟨hx, hb, hr, hml, hts, hown, hlocks, hin, hA, hP, hD, hK, hN⟩ := hE
  have hS : va_S A s.heap s.heap [] := va_S.rf
  have hl := lv_entry ([.ref tx, .int x]) (n := 2) (Nat.le_of_ble_eq_true rfl)
  rw [lg_entry_eq]
  generalize (lg_sl ([.ref tx, .int x]) ++ List.replicate (2 - (lg_sl ([.ref tx, .int x])).length) Slot.unset).toArray = ls at hl ⊢
  have hl : lv_has ls 2 [(0, .ref tx), (1, .int x)] := hl
  have fw1 := hts (.fieldLink RX7 9 "GleanDusk$Text" "bytes" "[B") (List.mem_of_getElem? (i := 1) rfl)
  have fw2 := hts (.fieldLink RX7 25 "GleanDusk$Text" "length" "I") (List.mem_of_getElem? (i := 2) rfl)
  have iw7 : ∀ w ∈ wsX70, w ∈ wsX7_append := fun _ h => List.mem_cons_of_mem _ (List.mem_append_right _ h)
  refine lv_aload_n hx hb dX7_append_0 rfl (lv_at hl 0 rfl) ?_
  refine va_get (D := D) (ci := 7) (v := .ref bys) (C := RX7) (T := TX7) (N := 12) hx hb hts iw7 hown hK hP 0 rfl rfl 0 (by decide) fw1 (fun _ h9 => h9) rfl dX7_append_1 ?_
  refine lv_aload_n hx hb dX7_append_4 rfl (lv_at hl 0 rfl) ?_
  refine va_get (D := D) (ci := 7) (v := .int (nI ln)) (C := RX7) (T := TX7) (N := 12) hx hb hts iw7 hown hK hP 0 rfl rfl 1 (by decide) fw2 (fun _ h9 => h9) rfl dX7_append_5 ?_
  refine lv_iload_n hx hb dX7_append_8 rfl (lv_at hl 1 rfl) ?_
  refine lv_i2b (v := x.toInt8.toInt32) hx hb dX7_append_9 (rfl) ?_
  refine va_bast hx hb hK hP hD hS 1 1 rfl rfl (vp_in_nI (by omega) (by decide)) dX7_append_10 (fun H locs hP hD hS => ?_)
  rw [nI_clamp (n := ln) (by omega)] at hP hD
  have hP : va_P D vwCl [(tx, .inr (7, [.ref bys, .int (nI ln), .int tok, .int (nI sta), .int (nI en), .int num, .ref wo, .ref fs, .ref sc, .int tfi, .int tgl, .int tst])), (bys, .inl (y 1, 150, .inl (upd fby ln (vp_nar .byte x.toInt8.toInt32))))] H := hP
  have hD : va_D A [(tx, .inr (7, [.ref bys, .int (nI ln), .int tok, .int (nI sta), .int (nI en), .int num, .ref wo, .ref fs, .ref sc, .int tfi, .int tgl, .int tst])), (bys, .inl (y 1, 150, .inl (upd fby ln (vp_nar .byte x.toInt8.toInt32))))] := hD
  refine lv_aload_n hx hb dX7_append_11 rfl (lv_at hl 0 rfl) ?_
  refine lv_dup hx hb dX7_append_12 rfl ?_
  refine va_get (D := D) (ci := 7) (v := .int (nI ln)) (C := RX7) (T := TX7) (N := 12) hx hb hts iw7 hown hK hP 0 rfl rfl 1 (by decide) fw2 (fun _ h9 => h9) rfl dX7_append_13 ?_
  refine lv_iconst (v := 1) hx hb dX7_append_16 (by decide) ?_
  refine lv_iadd hx hb dX7_append_17 ?_
  rw [show (nI ln) + 1 = nI (ln + 1) from nI_add ln 1]
  refine lv_dup_x1 hx hb dX7_append_18 rfl rfl ?_
  refine va_put (D := D) (ci := 7) (v := .int (nI (ln + 1))) (ty := .int) (C := RX7) (T := TX7) (N := 12) hx hb hts iw7 tyX7 tyX7_ok nmX7 hown hK hP hD hS 0 rfl rfl 1 (by decide) fw2 (fun _ h9 => h9) rfl (by decide +kernel) rfl rfl (Nat.le_of_ble_eq_true rfl) dX7_append_19 (fun H locs hP hD hS => ?_)
  have hP : va_P D vwCl [(tx, .inr (7, [.ref bys, .int (nI (ln + 1)), .int tok, .int (nI sta), .int (nI en), .int num, .ref wo, .ref fs, .ref sc, .int tfi, .int tgl, .int tst])), (bys, .inl (y 1, 150, .inl (upd fby ln (vp_nar .byte x.toInt8.toInt32))))] H := hP
  have hD : va_D A [(tx, .inr (7, [.ref bys, .int (nI (ln + 1)), .int tok, .int (nI sta), .int (nI en), .int num, .ref wo, .ref fs, .ref sc, .int tfi, .int tgl, .int tst])), (bys, .inl (y 1, 150, .inl (upd fby ln (vp_nar .byte x.toInt8.toInt32))))] := hD
  exact W.iret (v := (nI (ln + 1))) hx hb hr (fun tZ ht hW => ⟨⟨(nI (ln + 1)), (), rfl, rfl, by rw [ht]; exact hP.sub [0, 1] rfl, hD.sub [0, 1] (by decide) rfl⟩, hS.F ht⟩) hS.2.2 dX7_append_22

set_option maxHeartbeats 4000000 in
set_option maxRecDepth 100000 in
theorem gt_passWord (l : Launch) (D : va_G) (y : Nat → ClassId) (tx : Nat) (bys : Nat) (wo : Nat) (fs : Nat) (sc : Nat) (ln : Nat) (sta : Nat) (en : Nat) (tok : Int32) (num : Int32) (tfi : Int32) (tgl : Int32) (tst : Int32) (fby : Nat → Int32) (hln : ln ≤ 150) (hen : en ≤ ln) (hse : sta ≤ en) : kw_Mv l yX7_passWord wsX7_passWord ({ frames := 2, cells := 0, slots := 0, locals := 80 }) D y [.ref tx] [(tx, .inr (7, [.ref bys, .int (nI ln), .int tok, .int (nI sta), .int (nI en), .int num, .ref wo, .ref fs, .ref sc, .int tfi, .int tgl, .int tst])), (bys, .inl (y 1, 150, .inl fby))] (fun (u : Nat) => u ≤ ln ∧ sta ≤ u) (fun u => [(tx, .inr (7, [.ref bys, .int (nI ln), .int 1, .int (nI sta), .int (nI u), .int num, .ref wo, .ref fs, .ref sc, .int tfi, .int tgl, .int tst])), (bys, .inl (y 1, 150, .inl fby))]) 0 0 := by
  refine kw_Mv.of (cc := cX7_passWord) (maxL := 1) (ret := none) (by decide) rfl ?_
  intro pZ eZ s mZ beZ meZ cZ A hE
  obtain ⟨hx, hb, hr, hml, hts, hown, hlocks, hin, hA, hP, hD, hK, hN⟩ := hE
  have hS : va_S A s.heap s.heap [] := va_S.rf
  have hl := lv_entry ([.ref tx]) (n := 1) (Nat.le_of_ble_eq_true rfl)
  rw [lg_entry_eq]
  generalize (lg_sl ([.ref tx]) ++ List.replicate (1 - (lg_sl ([.ref tx])).length) Slot.unset).toArray = ls at hl ⊢
  have hl : lv_has ls 1 [(0, .ref tx)] := hl
  have fw1 := hts (.fieldLink RX7 44 "GleanDusk$Text" "token" "I") (List.mem_of_getElem? (i := 1) rfl)
  have fw2 := hts (.fieldLink RX7 29 "GleanDusk$Text" "end" "I") (List.mem_of_getElem? (i := 2) rfl)
  have fw3 := hts (.fieldLink RX7 25 "GleanDusk$Text" "length" "I") (List.mem_of_getElem? (i := 3) rfl)
  have fw4 := hts (.fieldLink RX7 9 "GleanDusk$Text" "bytes" "[B") (List.mem_of_getElem? (i := 4) rfl)
  have iw7 : ∀ w ∈ wsX70, w ∈ wsX7_passWord := fun _ h => List.mem_cons_of_mem _ (List.mem_append_right _ h)
  refine lv_aload_n hx hb dX7_passWord_0 rfl (lv_at hl 0 rfl) ?_
  refine lv_iconst (v := 1) hx hb dX7_passWord_1 (by decide) ?_
  refine va_put (D := D) (ci := 7) (v := .int 1) (ty := .int) (C := RX7) (T := TX7) (N := 12) hx hb hts iw7 tyX7 tyX7_ok nmX7 hown hK hP hD hS 0 rfl rfl 2 (by decide) fw1 (fun _ h9 => h9) rfl (by decide +kernel) rfl rfl (Nat.le_of_ble_eq_true rfl) dX7_passWord_2 (fun H locs hP hD hS => ?_)
  have hP : va_P D vwCl [(tx, .inr (7, [.ref bys, .int (nI ln), .int 1, .int (nI sta), .int (nI en), .int num, .ref wo, .ref fs, .ref sc, .int tfi, .int tgl, .int tst])), (bys, .inl (y 1, 150, .inl fby))] H := hP
  have hD : va_D A [(tx, .inr (7, [.ref bys, .int (nI ln), .int 1, .int (nI sta), .int (nI en), .int num, .ref wo, .ref fs, .ref sc, .int tfi, .int tgl, .int tst])), (bys, .inl (y 1, 150, .inl fby))] := hD
  have lp6 : ∀ (fuj91 j91 : Nat)  (H : Heap) (locs : List Loc) (ls : Array Slot), j91 ≤ ln → ln - j91 < fuj91 → en ≤ j91 → va_P D vwCl [(tx, .inr (7, [.ref bys, .int (nI ln), .int 1, .int (nI sta), .int (nI j91), .int num, .ref wo, .ref fs, .ref sc, .int tfi, .int tgl, .int tst])), (bys, .inl (y 1, 150, .inl fby))] H → va_D A [(tx, .inr (7, [.ref bys, .int (nI ln), .int 1, .int (nI sta), .int (nI j91), .int num, .ref wo, .ref fs, .ref sc, .int tfi, .int tgl, .int tst])), (bys, .inl (y 1, 150, .inl fby))] → va_S A s.heap H locs → lv_has ls 1 [(0, .ref tx)] → W pZ l eZ ({ frames := 2, cells := 0, slots := 0, locals := 80 }) s mZ [.ref tx].toArray beZ meZ cZ H locs 0 0 (MQ beZ (va_Qv (fun (u : Nat) => u ≤ ln ∧ sta ≤ u) (kw_B D (fun u => [(tx, .inr (7, [.ref bys, .int (nI ln), .int 1, .int (nI sta), .int (nI u), .int num, .ref wo, .ref fs, .ref sc, .int tfi, .int tgl, .int tst])), (bys, .inl (y 1, 150, .inl fby))]) A) A) [.ref tx].toArray s 0 0 A) (F0 mZ 5 ls []) := by
    intro fuj91
    induction fuj91 with
    | zero => intro j91  H locs ls hj9 hf9; exact absurd hf9 (Nat.not_lt_zero _)
    | succ fuj91 ihj91 =>
      intro j91  H locs ls hj91 hfj91 hlo_j91 hP hD hS hl
      refine lv_aload_n hx hb dX7_passWord_5 rfl (lv_at hl 0 rfl) ?_
      refine va_get (D := D) (ci := 7) (v := .int (nI j91)) (C := RX7) (T := TX7) (N := 12) hx hb hts iw7 hown hK hP 0 rfl rfl 4 (by decide) fw2 (fun _ h9 => h9) rfl dX7_passWord_6 ?_
      refine lv_aload_n hx hb dX7_passWord_9 rfl (lv_at hl 0 rfl) ?_
      refine va_get (D := D) (ci := 7) (v := .int (nI ln)) (C := RX7) (T := TX7) (N := 12) hx hb hts iw7 hown hK hP 0 rfl rfl 1 (by decide) fw3 (fun _ h9 => h9) rfl dX7_passWord_10 ?_
      refine lv_icmp_ge (tgt := 44) hx hb dX7_passWord_13 (by decide) (fun h7 => ?_) (fun h8 => ?_)
      · skip
        have h7 : ln ≤ j91 := (nI_leI (a := ln) (b := j91) (by omega) (by omega)).mp h7
        exact W.vret hx hb hr (fun tZ ht hW => ⟨⟨(j91), rfl, ⟨by first | omega | (dsimp only; omega), by first | omega | (dsimp only; omega)⟩, by rw [ht]; exact hP.sub [0, 1] rfl, hD.sub [0, 1] (by decide) rfl⟩, hS.F ht⟩) hS.2.2 dX7_passWord_44
      · skip
        have h8 : ¬ ln ≤ j91 := fun q9 => h8 ((nI_leI (a := ln) (b := j91) (by omega) (by omega)).mpr q9)
        refine lv_aload_n hx hb dX7_passWord_16 rfl (lv_at hl 0 rfl) ?_
        refine va_get (D := D) (ci := 7) (v := .ref bys) (C := RX7) (T := TX7) (N := 12) hx hb hts iw7 hown hK hP 0 rfl rfl 0 (by decide) fw4 (fun _ h9 => h9) rfl dX7_passWord_17 ?_
        refine lv_aload_n hx hb dX7_passWord_20 rfl (lv_at hl 0 rfl) ?_
        refine va_get (D := D) (ci := 7) (v := .int (nI j91)) (C := RX7) (T := TX7) (N := 12) hx hb hts iw7 hown hK hP 0 rfl rfl 4 (by decide) fw2 (fun _ h9 => h9) rfl dX7_passWord_21 ?_
        refine va_bald hx hb hK hP 1 1 rfl rfl (vp_in_nI (by omega) (by decide)) dX7_passWord_24 ?_
        rw [nI_clamp (n := j91) (by omega)]
        have hs9 : kw_Split [(tx, .inr (7, [.ref bys, .int (nI ln), .int 1, .int (nI sta), .int (nI j91), .int num, .ref wo, .ref fs, .ref sc, .int tfi, .int tgl, .int tst])), (bys, .inl (y 1, 150, .inl fby))] [] [(tx, .inr (7, [.ref bys, .int (nI ln), .int 1, .int (nI sta), .int (nI j91), .int num, .ref wo, .ref fs, .ref sc, .int tfi, .int tgl, .int tst])), (bys, .inl (y 1, 150, .inl fby))] [] [0, 1] := ⟨rfl, rfl, rfl, rfl, rfl, by decide⟩
        refine kw_go_i hs9 hP hD hS hA (va_runS (As := [.int (fby j91)]) (rest := []) ⟨hx, hb, hml, hown, hts⟩ (gt_isLetter l D y (fby j91)  _) (va_cwS 1 hts gX7_passWord_X7_isLetter rfl rfl rfl (by decide +kernel) ⟨Nat.le_of_ble_eq_true rfl, Nat.le_of_ble_eq_true rfl⟩) (kw_PreS hs9 hP hD hK hN) rfl rfl hl.1 rfl (lv_room (Nat.le_of_ble_eq_true rfl)) dX7_passWord_25 ⟨Nat.le_of_ble_eq_true rfl, Nat.le_of_ble_eq_true rfl⟩) (fun r10 u11 H locs hq hP hD hS => ?_)
        obtain (rfl | rfl) := hq
        · skip
          have hP : va_P D vwCl [(tx, .inr (7, [.ref bys, .int (nI ln), .int 1, .int (nI sta), .int (nI j91), .int num, .ref wo, .ref fs, .ref sc, .int tfi, .int tgl, .int tst])), (bys, .inl (y 1, 150, .inl fby))] H := hP
          have hD : va_D A [(tx, .inr (7, [.ref bys, .int (nI ln), .int 1, .int (nI sta), .int (nI j91), .int num, .ref wo, .ref fs, .ref sc, .int tfi, .int tgl, .int tst])), (bys, .inl (y 1, 150, .inl fby))] := hD
          refine lv_if_eq (tgt := 44) hx hb dX7_passWord_28 (by decide) (fun _ => ?_) (fun h9 => absurd h9 (by decide))
          exact W.vret hx hb hr (fun tZ ht hW => ⟨⟨(j91), rfl, ⟨by first | omega | (dsimp only; omega), by first | omega | (dsimp only; omega)⟩, by rw [ht]; exact hP.sub [0, 1] rfl, hD.sub [0, 1] (by decide) rfl⟩, hS.F ht⟩) hS.2.2 dX7_passWord_44
        · skip
          have hP : va_P D vwCl [(tx, .inr (7, [.ref bys, .int (nI ln), .int 1, .int (nI sta), .int (nI j91), .int num, .ref wo, .ref fs, .ref sc, .int tfi, .int tgl, .int tst])), (bys, .inl (y 1, 150, .inl fby))] H := hP
          have hD : va_D A [(tx, .inr (7, [.ref bys, .int (nI ln), .int 1, .int (nI sta), .int (nI j91), .int num, .ref wo, .ref fs, .ref sc, .int tfi, .int tgl, .int tst])), (bys, .inl (y 1, 150, .inl fby))] := hD
          refine lv_if_eq (tgt := 44) hx hb dX7_passWord_28 (by decide) (fun h9 => absurd h9 (by decide)) (fun _ => ?_)
          refine lv_aload_n hx hb dX7_passWord_31 rfl (lv_at hl 0 rfl) ?_
          refine lv_dup hx hb dX7_passWord_32 rfl ?_
          refine va_get (D := D) (ci := 7) (v := .int (nI j91)) (C := RX7) (T := TX7) (N := 12) hx hb hts iw7 hown hK hP 0 rfl rfl 4 (by decide) fw2 (fun _ h9 => h9) rfl dX7_passWord_33 ?_
          refine lv_iconst (v := 1) hx hb dX7_passWord_36 (by decide) ?_
          refine lv_iadd hx hb dX7_passWord_37 ?_
          rw [show (nI j91) + 1 = nI (j91 + 1) from nI_add j91 1]
          refine va_put (D := D) (ci := 7) (v := .int (nI (j91 + 1))) (ty := .int) (C := RX7) (T := TX7) (N := 12) hx hb hts iw7 tyX7 tyX7_ok nmX7 hown hK hP hD hS 0 rfl rfl 4 (by decide) fw2 (fun _ h9 => h9) rfl (by decide +kernel) rfl rfl (Nat.le_of_ble_eq_true rfl) dX7_passWord_38 (fun H locs hP hD hS => ?_)
          have hP : va_P D vwCl [(tx, .inr (7, [.ref bys, .int (nI ln), .int 1, .int (nI sta), .int (nI (j91 + 1)), .int num, .ref wo, .ref fs, .ref sc, .int tfi, .int tgl, .int tst])), (bys, .inl (y 1, 150, .inl fby))] H := hP
          have hD : va_D A [(tx, .inr (7, [.ref bys, .int (nI ln), .int 1, .int (nI sta), .int (nI (j91 + 1)), .int num, .ref wo, .ref fs, .ref sc, .int tfi, .int tgl, .int tst])), (bys, .inl (y 1, 150, .inl fby))] := hD
          refine lv_goto (tgt := 5) hx hb dX7_passWord_41 (by decide) ?_
          exact ihj91 (j91 + 1)  H locs ls (by omega) (by omega) (by omega) (hP.sub [0, 1] rfl) (hD.sub [0, 1] (by decide) rfl) hS (lv_sub hl [0] rfl)
  exact lp6 (ln + 1) en  _ _ _ (by omega) (by omega) (by omega) hP hD hS (lv_sub hl [0] rfl)

set_option maxHeartbeats 4000000 in
set_option maxRecDepth 100000 in
theorem gt_passNumber (l : Launch) (D : va_G) (y : Nat → ClassId) (tx : Nat) (bys : Nat) (wo : Nat) (fs : Nat) (sc : Nat) (ln : Nat) (sta : Nat) (en : Nat) (tok : Int32) (num : Int32) (tfi : Int32) (tgl : Int32) (tst : Int32) (fby : Nat → Int32) (hln : ln ≤ 150) (hen : en ≤ ln) (hse : sta ≤ en) : kw_Mv l yX7_passNumber wsX7_passNumber ({ frames := 2, cells := 0, slots := 0, locals := 80 }) D y [.ref tx] [(tx, .inr (7, [.ref bys, .int (nI ln), .int tok, .int (nI sta), .int (nI en), .int num, .ref wo, .ref fs, .ref sc, .int tfi, .int tgl, .int tst])), (bys, .inl (y 1, 150, .inl fby))] (fun (u : Int32 × Nat × Int32) => u.2.1 ≤ ln ∧ sta ≤ u.2.1) (fun u => [(tx, .inr (7, [.ref bys, .int (nI ln), .int u.1, .int (nI sta), .int (nI u.2.1), .int u.2.2, .ref wo, .ref fs, .ref sc, .int tfi, .int tgl, .int tst])), (bys, .inl (y 1, 150, .inl fby))]) 0 0 := by
  refine kw_Mv.of (cc := cX7_passNumber) (maxL := 1) (ret := none) (by decide) rfl ?_
  intro pZ eZ s mZ beZ meZ cZ A hE
  obtain ⟨hx, hb, hr, hml, hts, hown, hlocks, hin, hA, hP, hD, hK, hN⟩ := hE
  have hS : va_S A s.heap s.heap [] := va_S.rf
  have hl := lv_entry ([.ref tx]) (n := 1) (Nat.le_of_ble_eq_true rfl)
  rw [lg_entry_eq]
  generalize (lg_sl ([.ref tx]) ++ List.replicate (1 - (lg_sl ([.ref tx])).length) Slot.unset).toArray = ls at hl ⊢
  have hl : lv_has ls 1 [(0, .ref tx)] := hl
  have fw1 := hts (.fieldLink RX7 62 "GleanDusk$Text" "number" "I") (List.mem_of_getElem? (i := 1) rfl)
  have fw2 := hts (.fieldLink RX7 29 "GleanDusk$Text" "end" "I") (List.mem_of_getElem? (i := 2) rfl)
  have fw3 := hts (.fieldLink RX7 25 "GleanDusk$Text" "length" "I") (List.mem_of_getElem? (i := 3) rfl)
  have fw4 := hts (.fieldLink RX7 51 "GleanDusk$Text" "start" "I") (List.mem_of_getElem? (i := 5) rfl)
  have fw5 := hts (.fieldLink RX7 44 "GleanDusk$Text" "token" "I") (List.mem_of_getElem? (i := 6) rfl)
  have fw6 := hts (.fieldLink RX7 9 "GleanDusk$Text" "bytes" "[B") (List.mem_of_getElem? (i := 4) rfl)
  have iw7 : ∀ w ∈ wsX70, w ∈ wsX7_passNumber := fun _ h => List.mem_cons_of_mem _ (List.mem_append_right _ h)
  refine lv_aload_n hx hb dX7_passNumber_0 rfl (lv_at hl 0 rfl) ?_
  refine lv_iconst (v := 0) hx hb dX7_passNumber_1 (by decide) ?_
  refine va_put (D := D) (ci := 7) (v := .int 0) (ty := .int) (C := RX7) (T := TX7) (N := 12) hx hb hts iw7 tyX7 tyX7_ok nmX7 hown hK hP hD hS 0 rfl rfl 5 (by decide) fw1 (fun _ h9 => h9) rfl (by decide +kernel) rfl rfl (Nat.le_of_ble_eq_true rfl) dX7_passNumber_2 (fun H locs hP hD hS => ?_)
  have hP : va_P D vwCl [(tx, .inr (7, [.ref bys, .int (nI ln), .int tok, .int (nI sta), .int (nI en), .int 0, .ref wo, .ref fs, .ref sc, .int tfi, .int tgl, .int tst])), (bys, .inl (y 1, 150, .inl fby))] H := hP
  have hD : va_D A [(tx, .inr (7, [.ref bys, .int (nI ln), .int tok, .int (nI sta), .int (nI en), .int 0, .ref wo, .ref fs, .ref sc, .int tfi, .int tgl, .int tst])), (bys, .inl (y 1, 150, .inl fby))] := hD
  have lp25 : ∀ (fuj91 j91 : Nat) (x13 : Int32) (H : Heap) (locs : List Loc) (ls : Array Slot), j91 ≤ ln → ln - j91 < fuj91 → en ≤ j91 → va_P D vwCl [(tx, .inr (7, [.ref bys, .int (nI ln), .int tok, .int (nI sta), .int (nI j91), .int x13, .ref wo, .ref fs, .ref sc, .int tfi, .int tgl, .int tst])), (bys, .inl (y 1, 150, .inl fby))] H → va_D A [(tx, .inr (7, [.ref bys, .int (nI ln), .int tok, .int (nI sta), .int (nI j91), .int x13, .ref wo, .ref fs, .ref sc, .int tfi, .int tgl, .int tst])), (bys, .inl (y 1, 150, .inl fby))] → va_S A s.heap H locs → lv_has ls 1 [(0, .ref tx)] → W pZ l eZ ({ frames := 2, cells := 0, slots := 0, locals := 80 }) s mZ [.ref tx].toArray beZ meZ cZ H locs 0 0 (MQ beZ (va_Qv (fun (u : Int32 × Nat × Int32) => u.2.1 ≤ ln ∧ sta ≤ u.2.1) (kw_B D (fun u => [(tx, .inr (7, [.ref bys, .int (nI ln), .int u.1, .int (nI sta), .int (nI u.2.1), .int u.2.2, .ref wo, .ref fs, .ref sc, .int tfi, .int tgl, .int tst])), (bys, .inl (y 1, 150, .inl fby))]) A) A) [.ref tx].toArray s 0 0 A) (F0 mZ 5 ls []) := by
    intro fuj91
    induction fuj91 with
    | zero => intro j91 x13 H locs ls hj9 hf9; exact absurd hf9 (Nat.not_lt_zero _)
    | succ fuj91 ihj91 =>
      intro j91 x13 H locs ls hj91 hfj91 hlo_j91 hP hD hS hl
      refine lv_aload_n hx hb dX7_passNumber_5 rfl (lv_at hl 0 rfl) ?_
      refine va_get (D := D) (ci := 7) (v := .int (nI j91)) (C := RX7) (T := TX7) (N := 12) hx hb hts iw7 hown hK hP 0 rfl rfl 4 (by decide) fw2 (fun _ h9 => h9) rfl dX7_passNumber_6 ?_
      refine lv_aload_n hx hb dX7_passNumber_9 rfl (lv_at hl 0 rfl) ?_
      refine va_get (D := D) (ci := 7) (v := .int (nI ln)) (C := RX7) (T := TX7) (N := 12) hx hb hts iw7 hown hK hP 0 rfl rfl 1 (by decide) fw3 (fun _ h9 => h9) rfl dX7_passNumber_10 ?_
      refine lv_icmp_ge (tgt := 81) hx hb dX7_passNumber_13 (by decide) (fun h26 => ?_) (fun h27 => ?_)
      · skip
        have h26 : ln ≤ j91 := (nI_leI (a := ln) (b := j91) (by omega) (by omega)).mp h26
        refine lv_aload_n hx hb dX7_passNumber_81 rfl (lv_at hl 0 rfl) ?_
        refine lv_aload_n hx hb dX7_passNumber_82 rfl (lv_at hl 0 rfl) ?_
        refine va_get (D := D) (ci := 7) (v := .int (nI j91)) (C := RX7) (T := TX7) (N := 12) hx hb hts iw7 hown hK hP 0 rfl rfl 4 (by decide) fw2 (fun _ h9 => h9) rfl dX7_passNumber_83 ?_
        refine lv_aload_n hx hb dX7_passNumber_86 rfl (lv_at hl 0 rfl) ?_
        refine va_get (D := D) (ci := 7) (v := .int (nI sta)) (C := RX7) (T := TX7) (N := 12) hx hb hts iw7 hown hK hP 0 rfl rfl 3 (by decide) fw4 (fun _ h9 => h9) rfl dX7_passNumber_87 ?_
        refine lv_isub hx hb dX7_passNumber_90 ?_
        refine lv_iconst (v := 2) hx hb dX7_passNumber_91 (by decide) ?_
        refine lv_icmp_gt (tgt := 99) hx hb dX7_passNumber_92 (by decide) (fun h28 => ?_) (fun h29 => ?_)
        · skip
          refine lv_iconst (v := 4) hx hb dX7_passNumber_99 (by decide) ?_
          refine va_put (D := D) (ci := 7) (v := .int 4) (ty := .int) (C := RX7) (T := TX7) (N := 12) hx hb hts iw7 tyX7 tyX7_ok nmX7 hown hK hP hD hS 0 rfl rfl 2 (by decide) fw5 (fun _ h9 => h9) rfl (by decide +kernel) rfl rfl (Nat.le_of_ble_eq_true rfl) dX7_passNumber_100 (fun H locs hP hD hS => ?_)
          have hP : va_P D vwCl [(tx, .inr (7, [.ref bys, .int (nI ln), .int 4, .int (nI sta), .int (nI j91), .int x13, .ref wo, .ref fs, .ref sc, .int tfi, .int tgl, .int tst])), (bys, .inl (y 1, 150, .inl fby))] H := hP
          have hD : va_D A [(tx, .inr (7, [.ref bys, .int (nI ln), .int 4, .int (nI sta), .int (nI j91), .int x13, .ref wo, .ref fs, .ref sc, .int tfi, .int tgl, .int tst])), (bys, .inl (y 1, 150, .inl fby))] := hD
          exact W.vret hx hb hr (fun tZ ht hW => ⟨⟨(4, j91, x13), rfl, ⟨by first | omega | (dsimp only; omega), by first | omega | (dsimp only; omega)⟩, by rw [ht]; exact hP.sub [0, 1] rfl, hD.sub [0, 1] (by decide) rfl⟩, hS.F ht⟩) hS.2.2 dX7_passNumber_103
        · skip
          refine lv_iconst (v := 2) hx hb dX7_passNumber_95 (by decide) ?_
          refine lv_goto (tgt := 100) hx hb dX7_passNumber_96 (by decide) ?_
          refine va_put (D := D) (ci := 7) (v := .int 2) (ty := .int) (C := RX7) (T := TX7) (N := 12) hx hb hts iw7 tyX7 tyX7_ok nmX7 hown hK hP hD hS 0 rfl rfl 2 (by decide) fw5 (fun _ h9 => h9) rfl (by decide +kernel) rfl rfl (Nat.le_of_ble_eq_true rfl) dX7_passNumber_100 (fun H locs hP hD hS => ?_)
          have hP : va_P D vwCl [(tx, .inr (7, [.ref bys, .int (nI ln), .int 2, .int (nI sta), .int (nI j91), .int x13, .ref wo, .ref fs, .ref sc, .int tfi, .int tgl, .int tst])), (bys, .inl (y 1, 150, .inl fby))] H := hP
          have hD : va_D A [(tx, .inr (7, [.ref bys, .int (nI ln), .int 2, .int (nI sta), .int (nI j91), .int x13, .ref wo, .ref fs, .ref sc, .int tfi, .int tgl, .int tst])), (bys, .inl (y 1, 150, .inl fby))] := hD
          exact W.vret hx hb hr (fun tZ ht hW => ⟨⟨(2, j91, x13), rfl, ⟨by first | omega | (dsimp only; omega), by first | omega | (dsimp only; omega)⟩, by rw [ht]; exact hP.sub [0, 1] rfl, hD.sub [0, 1] (by decide) rfl⟩, hS.F ht⟩) hS.2.2 dX7_passNumber_103
      · skip
        have h27 : ¬ ln ≤ j91 := fun q9 => h27 ((nI_leI (a := ln) (b := j91) (by omega) (by omega)).mpr q9)
        refine lv_aload_n hx hb dX7_passNumber_16 rfl (lv_at hl 0 rfl) ?_
        refine va_get (D := D) (ci := 7) (v := .ref bys) (C := RX7) (T := TX7) (N := 12) hx hb hts iw7 hown hK hP 0 rfl rfl 0 (by decide) fw6 (fun _ h9 => h9) rfl dX7_passNumber_17 ?_
        refine lv_aload_n hx hb dX7_passNumber_20 rfl (lv_at hl 0 rfl) ?_
        refine va_get (D := D) (ci := 7) (v := .int (nI j91)) (C := RX7) (T := TX7) (N := 12) hx hb hts iw7 hown hK hP 0 rfl rfl 4 (by decide) fw2 (fun _ h9 => h9) rfl dX7_passNumber_21 ?_
        refine va_bald hx hb hK hP 1 1 rfl rfl (vp_in_nI (by omega) (by decide)) dX7_passNumber_24 ?_
        rw [nI_clamp (n := j91) (by omega)]
        have hs30 : kw_Split [(tx, .inr (7, [.ref bys, .int (nI ln), .int tok, .int (nI sta), .int (nI j91), .int x13, .ref wo, .ref fs, .ref sc, .int tfi, .int tgl, .int tst])), (bys, .inl (y 1, 150, .inl fby))] [] [(tx, .inr (7, [.ref bys, .int (nI ln), .int tok, .int (nI sta), .int (nI j91), .int x13, .ref wo, .ref fs, .ref sc, .int tfi, .int tgl, .int tst])), (bys, .inl (y 1, 150, .inl fby))] [] [0, 1] := ⟨rfl, rfl, rfl, rfl, rfl, by decide⟩
        refine kw_go_i hs30 hP hD hS hA (va_runS (As := [.int (fby j91)]) (rest := []) ⟨hx, hb, hml, hown, hts⟩ (gt_isFigure l D y (fby j91)  _) (va_cwS 1 hts gX7_passNumber_X7_isFigure rfl rfl rfl (by decide +kernel) ⟨Nat.le_of_ble_eq_true rfl, Nat.le_of_ble_eq_true rfl⟩) (kw_PreS hs30 hP hD hK hN) rfl rfl hl.1 rfl (lv_room (Nat.le_of_ble_eq_true rfl)) dX7_passNumber_25 ⟨Nat.le_of_ble_eq_true rfl, Nat.le_of_ble_eq_true rfl⟩) (fun r31 u32 H locs hq hP hD hS => ?_)
        obtain (rfl | rfl) := hq
        · skip
          have hP : va_P D vwCl [(tx, .inr (7, [.ref bys, .int (nI ln), .int tok, .int (nI sta), .int (nI j91), .int x13, .ref wo, .ref fs, .ref sc, .int tfi, .int tgl, .int tst])), (bys, .inl (y 1, 150, .inl fby))] H := hP
          have hD : va_D A [(tx, .inr (7, [.ref bys, .int (nI ln), .int tok, .int (nI sta), .int (nI j91), .int x13, .ref wo, .ref fs, .ref sc, .int tfi, .int tgl, .int tst])), (bys, .inl (y 1, 150, .inl fby))] := hD
          refine lv_if_eq (tgt := 81) hx hb dX7_passNumber_28 (by decide) (fun _ => ?_) (fun h9 => absurd h9 (by decide))
          refine lv_aload_n hx hb dX7_passNumber_81 rfl (lv_at hl 0 rfl) ?_
          refine lv_aload_n hx hb dX7_passNumber_82 rfl (lv_at hl 0 rfl) ?_
          refine va_get (D := D) (ci := 7) (v := .int (nI j91)) (C := RX7) (T := TX7) (N := 12) hx hb hts iw7 hown hK hP 0 rfl rfl 4 (by decide) fw2 (fun _ h9 => h9) rfl dX7_passNumber_83 ?_
          refine lv_aload_n hx hb dX7_passNumber_86 rfl (lv_at hl 0 rfl) ?_
          refine va_get (D := D) (ci := 7) (v := .int (nI sta)) (C := RX7) (T := TX7) (N := 12) hx hb hts iw7 hown hK hP 0 rfl rfl 3 (by decide) fw4 (fun _ h9 => h9) rfl dX7_passNumber_87 ?_
          refine lv_isub hx hb dX7_passNumber_90 ?_
          refine lv_iconst (v := 2) hx hb dX7_passNumber_91 (by decide) ?_
          refine lv_icmp_gt (tgt := 99) hx hb dX7_passNumber_92 (by decide) (fun h33 => ?_) (fun h34 => ?_)
          · skip
            refine lv_iconst (v := 4) hx hb dX7_passNumber_99 (by decide) ?_
            refine va_put (D := D) (ci := 7) (v := .int 4) (ty := .int) (C := RX7) (T := TX7) (N := 12) hx hb hts iw7 tyX7 tyX7_ok nmX7 hown hK hP hD hS 0 rfl rfl 2 (by decide) fw5 (fun _ h9 => h9) rfl (by decide +kernel) rfl rfl (Nat.le_of_ble_eq_true rfl) dX7_passNumber_100 (fun H locs hP hD hS => ?_)
            have hP : va_P D vwCl [(tx, .inr (7, [.ref bys, .int (nI ln), .int 4, .int (nI sta), .int (nI j91), .int x13, .ref wo, .ref fs, .ref sc, .int tfi, .int tgl, .int tst])), (bys, .inl (y 1, 150, .inl fby))] H := hP
            have hD : va_D A [(tx, .inr (7, [.ref bys, .int (nI ln), .int 4, .int (nI sta), .int (nI j91), .int x13, .ref wo, .ref fs, .ref sc, .int tfi, .int tgl, .int tst])), (bys, .inl (y 1, 150, .inl fby))] := hD
            exact W.vret hx hb hr (fun tZ ht hW => ⟨⟨(4, j91, x13), rfl, ⟨by first | omega | (dsimp only; omega), by first | omega | (dsimp only; omega)⟩, by rw [ht]; exact hP.sub [0, 1] rfl, hD.sub [0, 1] (by decide) rfl⟩, hS.F ht⟩) hS.2.2 dX7_passNumber_103
          · skip
            refine lv_iconst (v := 2) hx hb dX7_passNumber_95 (by decide) ?_
            refine lv_goto (tgt := 100) hx hb dX7_passNumber_96 (by decide) ?_
            refine va_put (D := D) (ci := 7) (v := .int 2) (ty := .int) (C := RX7) (T := TX7) (N := 12) hx hb hts iw7 tyX7 tyX7_ok nmX7 hown hK hP hD hS 0 rfl rfl 2 (by decide) fw5 (fun _ h9 => h9) rfl (by decide +kernel) rfl rfl (Nat.le_of_ble_eq_true rfl) dX7_passNumber_100 (fun H locs hP hD hS => ?_)
            have hP : va_P D vwCl [(tx, .inr (7, [.ref bys, .int (nI ln), .int 2, .int (nI sta), .int (nI j91), .int x13, .ref wo, .ref fs, .ref sc, .int tfi, .int tgl, .int tst])), (bys, .inl (y 1, 150, .inl fby))] H := hP
            have hD : va_D A [(tx, .inr (7, [.ref bys, .int (nI ln), .int 2, .int (nI sta), .int (nI j91), .int x13, .ref wo, .ref fs, .ref sc, .int tfi, .int tgl, .int tst])), (bys, .inl (y 1, 150, .inl fby))] := hD
            exact W.vret hx hb hr (fun tZ ht hW => ⟨⟨(2, j91, x13), rfl, ⟨by first | omega | (dsimp only; omega), by first | omega | (dsimp only; omega)⟩, by rw [ht]; exact hP.sub [0, 1] rfl, hD.sub [0, 1] (by decide) rfl⟩, hS.F ht⟩) hS.2.2 dX7_passNumber_103
        · skip
          have hP : va_P D vwCl [(tx, .inr (7, [.ref bys, .int (nI ln), .int tok, .int (nI sta), .int (nI j91), .int x13, .ref wo, .ref fs, .ref sc, .int tfi, .int tgl, .int tst])), (bys, .inl (y 1, 150, .inl fby))] H := hP
          have hD : va_D A [(tx, .inr (7, [.ref bys, .int (nI ln), .int tok, .int (nI sta), .int (nI j91), .int x13, .ref wo, .ref fs, .ref sc, .int tfi, .int tgl, .int tst])), (bys, .inl (y 1, 150, .inl fby))] := hD
          refine lv_if_eq (tgt := 81) hx hb dX7_passNumber_28 (by decide) (fun h9 => absurd h9 (by decide)) (fun _ => ?_)
          refine lv_aload_n hx hb dX7_passNumber_31 rfl (lv_at hl 0 rfl) ?_
          refine va_get (D := D) (ci := 7) (v := .int (nI j91)) (C := RX7) (T := TX7) (N := 12) hx hb hts iw7 hown hK hP 0 rfl rfl 4 (by decide) fw2 (fun _ h9 => h9) rfl dX7_passNumber_32 ?_
          refine lv_aload_n hx hb dX7_passNumber_35 rfl (lv_at hl 0 rfl) ?_
          refine va_get (D := D) (ci := 7) (v := .int (nI sta)) (C := RX7) (T := TX7) (N := 12) hx hb hts iw7 hown hK hP 0 rfl rfl 3 (by decide) fw4 (fun _ h9 => h9) rfl dX7_passNumber_36 ?_
          refine lv_isub hx hb dX7_passNumber_39 ?_
          refine lv_iconst (v := 2) hx hb dX7_passNumber_40 (by decide) ?_
          refine lv_icmp_ge (tgt := 68) hx hb dX7_passNumber_41 (by decide) (fun h35 => ?_) (fun h36 => ?_)
          · skip
            refine lv_aload_n hx hb dX7_passNumber_68 rfl (lv_at hl 0 rfl) ?_
            refine lv_dup hx hb dX7_passNumber_69 rfl ?_
            refine va_get (D := D) (ci := 7) (v := .int (nI j91)) (C := RX7) (T := TX7) (N := 12) hx hb hts iw7 hown hK hP 0 rfl rfl 4 (by decide) fw2 (fun _ h9 => h9) rfl dX7_passNumber_70 ?_
            refine lv_iconst (v := 1) hx hb dX7_passNumber_73 (by decide) ?_
            refine lv_iadd hx hb dX7_passNumber_74 ?_
            rw [show (nI j91) + 1 = nI (j91 + 1) from nI_add j91 1]
            refine va_put (D := D) (ci := 7) (v := .int (nI (j91 + 1))) (ty := .int) (C := RX7) (T := TX7) (N := 12) hx hb hts iw7 tyX7 tyX7_ok nmX7 hown hK hP hD hS 0 rfl rfl 4 (by decide) fw2 (fun _ h9 => h9) rfl (by decide +kernel) rfl rfl (Nat.le_of_ble_eq_true rfl) dX7_passNumber_75 (fun H locs hP hD hS => ?_)
            have hP : va_P D vwCl [(tx, .inr (7, [.ref bys, .int (nI ln), .int tok, .int (nI sta), .int (nI (j91 + 1)), .int x13, .ref wo, .ref fs, .ref sc, .int tfi, .int tgl, .int tst])), (bys, .inl (y 1, 150, .inl fby))] H := hP
            have hD : va_D A [(tx, .inr (7, [.ref bys, .int (nI ln), .int tok, .int (nI sta), .int (nI (j91 + 1)), .int x13, .ref wo, .ref fs, .ref sc, .int tfi, .int tgl, .int tst])), (bys, .inl (y 1, 150, .inl fby))] := hD
            refine lv_goto (tgt := 5) hx hb dX7_passNumber_78 (by decide) ?_
            exact ihj91 (j91 + 1) x13 H locs ls (by omega) (by omega) (by omega) (hP.sub [0, 1] rfl) (hD.sub [0, 1] (by decide) rfl) hS (lv_sub hl [0] rfl)
          · skip
            refine lv_aload_n hx hb dX7_passNumber_44 rfl (lv_at hl 0 rfl) ?_
            refine lv_bipush (v := 10) hx hb dX7_passNumber_45 (by decide) ?_
            refine lv_aload_n hx hb dX7_passNumber_47 rfl (lv_at hl 0 rfl) ?_
            refine va_get (D := D) (ci := 7) (v := .int x13) (C := RX7) (T := TX7) (N := 12) hx hb hts iw7 hown hK hP 0 rfl rfl 5 (by decide) fw1 (fun _ h9 => h9) rfl dX7_passNumber_48 ?_
            refine lv_imul hx hb dX7_passNumber_51 ?_
            refine lv_aload_n hx hb dX7_passNumber_52 rfl (lv_at hl 0 rfl) ?_
            refine va_get (D := D) (ci := 7) (v := .ref bys) (C := RX7) (T := TX7) (N := 12) hx hb hts iw7 hown hK hP 0 rfl rfl 0 (by decide) fw6 (fun _ h9 => h9) rfl dX7_passNumber_53 ?_
            refine lv_aload_n hx hb dX7_passNumber_56 rfl (lv_at hl 0 rfl) ?_
            refine va_get (D := D) (ci := 7) (v := .int (nI j91)) (C := RX7) (T := TX7) (N := 12) hx hb hts iw7 hown hK hP 0 rfl rfl 4 (by decide) fw2 (fun _ h9 => h9) rfl dX7_passNumber_57 ?_
            refine va_bald hx hb hK hP 1 1 rfl rfl (vp_in_nI (by omega) (by decide)) dX7_passNumber_60 ?_
            rw [nI_clamp (n := j91) (by omega)]
            refine lv_iadd hx hb dX7_passNumber_61 ?_
            refine lv_bipush (v := 48) hx hb dX7_passNumber_62 (by decide) ?_
            refine lv_isub hx hb dX7_passNumber_64 ?_
            refine va_put (D := D) (ci := 7) (v := .int (((10 * x13) + (fby j91)) - 48)) (ty := .int) (C := RX7) (T := TX7) (N := 12) hx hb hts iw7 tyX7 tyX7_ok nmX7 hown hK hP hD hS 0 rfl rfl 5 (by decide) fw1 (fun _ h9 => h9) rfl (by decide +kernel) rfl rfl (Nat.le_of_ble_eq_true rfl) dX7_passNumber_65 (fun H locs hP hD hS => ?_)
            have hP : va_P D vwCl [(tx, .inr (7, [.ref bys, .int (nI ln), .int tok, .int (nI sta), .int (nI j91), .int (((10 * x13) + (fby j91)) - 48), .ref wo, .ref fs, .ref sc, .int tfi, .int tgl, .int tst])), (bys, .inl (y 1, 150, .inl fby))] H := hP
            have hD : va_D A [(tx, .inr (7, [.ref bys, .int (nI ln), .int tok, .int (nI sta), .int (nI j91), .int (((10 * x13) + (fby j91)) - 48), .ref wo, .ref fs, .ref sc, .int tfi, .int tgl, .int tst])), (bys, .inl (y 1, 150, .inl fby))] := hD
            refine lv_aload_n hx hb dX7_passNumber_68 rfl (lv_at hl 0 rfl) ?_
            refine lv_dup hx hb dX7_passNumber_69 rfl ?_
            refine va_get (D := D) (ci := 7) (v := .int (nI j91)) (C := RX7) (T := TX7) (N := 12) hx hb hts iw7 hown hK hP 0 rfl rfl 4 (by decide) fw2 (fun _ h9 => h9) rfl dX7_passNumber_70 ?_
            refine lv_iconst (v := 1) hx hb dX7_passNumber_73 (by decide) ?_
            refine lv_iadd hx hb dX7_passNumber_74 ?_
            rw [show (nI j91) + 1 = nI (j91 + 1) from nI_add j91 1]
            refine va_put (D := D) (ci := 7) (v := .int (nI (j91 + 1))) (ty := .int) (C := RX7) (T := TX7) (N := 12) hx hb hts iw7 tyX7 tyX7_ok nmX7 hown hK hP hD hS 0 rfl rfl 4 (by decide) fw2 (fun _ h9 => h9) rfl (by decide +kernel) rfl rfl (Nat.le_of_ble_eq_true rfl) dX7_passNumber_75 (fun H locs hP hD hS => ?_)
            have hP : va_P D vwCl [(tx, .inr (7, [.ref bys, .int (nI ln), .int tok, .int (nI sta), .int (nI (j91 + 1)), .int (((10 * x13) + (fby j91)) - 48), .ref wo, .ref fs, .ref sc, .int tfi, .int tgl, .int tst])), (bys, .inl (y 1, 150, .inl fby))] H := hP
            have hD : va_D A [(tx, .inr (7, [.ref bys, .int (nI ln), .int tok, .int (nI sta), .int (nI (j91 + 1)), .int (((10 * x13) + (fby j91)) - 48), .ref wo, .ref fs, .ref sc, .int tfi, .int tgl, .int tst])), (bys, .inl (y 1, 150, .inl fby))] := hD
            refine lv_goto (tgt := 5) hx hb dX7_passNumber_78 (by decide) ?_
            exact ihj91 (j91 + 1) (((10 * x13) + (fby j91)) - 48) H locs ls (by omega) (by omega) (by omega) (hP.sub [0, 1] rfl) (hD.sub [0, 1] (by decide) rfl) hS (lv_sub hl [0] rfl)
  exact lp25 (ln + 1) en 0 _ _ _ (by omega) (by omega) (by omega) hP hD hS (lv_sub hl [0] rfl)
