set_option maxHeartbeats 4000000 in
set_option maxRecDepth 100000 in
theorem gt_isItem (l : Launch) (D : va_G) (y : Nat → ClassId) (aK : Nat → Nat) (aV : Nat → Nat) (tx : Nat) (bys : Nat) (wo : Nat) (fs : Nat) (sc : Nat) (ln : Nat) (sta : Nat) (en : Nat) (tfi : Nat) (tgl : Nat) (tst : Nat) (tok : Int32) (num : Int32) (fby : Nat → Int32) (fwo : Nat → Int32) (ffs : Nat → Int32) (fsc : Nat → Int32) (k : Nat) (hln : ln ≤ 150) (hen : en ≤ ln) (hse : sta ≤ en) (hk : k < 25) (hok : kz_ok fwo ffs k tfi tgl) (ht6 : tfi ≤ 6) (hg5 : tgl ≤ 5) (ht12 : tst ≤ 12) : kz_Mi l yX7_isItem wsX7_isItem ({ frames := 7, cells := 0, slots := 0, locals := 187 }) D y [.ref tx, .int (nI k)] [(tx, .inr (7, [.ref bys, .int (nI ln), .int tok, .int (nI sta), .int (nI en), .int num, .ref wo, .ref fs, .ref sc, .int (nI tfi), .int (nI tgl), .int (nI tst)])), (bys, .inl (y 1, 150, .inl fby)), (wo, .inl (y 0, 25, .inl fwo)), (fs, .inl (y 0, 25, .inl ffs)), (sc, .inl (y 0, 25, .inl fsc))] aK aV (fun (r : Int32) (u : Int32 × Nat × Nat × Int32 × Nat × Nat × Nat × (Nat → Int32) × (Nat → Int32) × (Nat → Int32)) => u.2.1 ≤ ln ∧ u.2.2.1 ≤ ln ∧ u.2.2.2.2.1 ≤ 7 ∧ u.2.2.2.2.2.1 ≤ 6 ∧ u.2.2.2.2.2.2.1 ≤ 12 ∧ (r = 0 ∨ r = 1) ∧ u.2.1 ≤ u.2.2.1 ∧ (r = 1 → kz_ok u.2.2.2.2.2.2.2.1 u.2.2.2.2.2.2.2.2.1 (k + 1) u.2.2.2.2.1 u.2.2.2.2.2.1)) (fun u => [(tx, .inr (7, [.ref bys, .int (nI ln), .int u.1, .int (nI u.2.1), .int (nI u.2.2.1), .int u.2.2.2.1, .ref wo, .ref fs, .ref sc, .int (nI u.2.2.2.2.1), .int (nI u.2.2.2.2.2.1), .int (nI u.2.2.2.2.2.2.1)])), (bys, .inl (y 1, 150, .inl fby)), (wo, .inl (y 0, 25, .inl u.2.2.2.2.2.2.2.1)), (fs, .inl (y 0, 25, .inl u.2.2.2.2.2.2.2.2.1)), (sc, .inl (y 0, 25, .inl u.2.2.2.2.2.2.2.2.2))]) 0 0 := by
  refine kz_Mi.of (cc := cX7_isItem) (maxL := 4) (ret := (some .boolean)) (by decide) rfl ?_
  intro pZ eZ s mZ beZ meZ cZ A hE
  obtain ⟨hx, hb, hr, hml, hts, hown, hlocks, hin, hA, hP, hD, hK, hN, hZ⟩ := hE
  have hS : va_S A s.heap s.heap [] := va_S.rf
  have hl := lv_entry ([.ref tx, .int (nI k)]) (n := 4) (Nat.le_of_ble_eq_true rfl)
  rw [lg_entry_eq]
  generalize (lg_sl ([.ref tx, .int (nI k)]) ++ List.replicate (4 - (lg_sl ([.ref tx, .int (nI k)])).length) Slot.unset).toArray = ls at hl ⊢
  have hl : lv_has ls 4 [(0, .ref tx), (1, .int (nI k))] := hl
  have fw1 := hts (.fieldLink RX7 15 "GleanDusk$Text" "words" "[I") (List.mem_of_getElem? (i := 1) rfl)
  have fw2 := hts (.fieldLink RX7 19 "GleanDusk$Text" "first" "[I") (List.mem_of_getElem? (i := 2) rfl)
  have fw3 := hts (.fieldLink RX7 32 "GleanDusk$Text" "fields" "I") (List.mem_of_getElem? (i := 3) rfl)
  have fw4 := hts (.fieldLink RX7 22 "GleanDusk$Text" "second" "[I") (List.mem_of_getElem? (i := 4) rfl)
  have fw5 := hts (.fieldLink RX7 35 "GleanDusk$Text" "gleaners" "I") (List.mem_of_getElem? (i := 5) rfl)
  have fw6 := hts (.fieldLink RX7 38 "GleanDusk$Text" "steps" "I") (List.mem_of_getElem? (i := 6) rfl)
  have fw7 := hts (.fieldLink RX7 62 "GleanDusk$Text" "number" "I") (List.mem_of_getElem? (i := 7) rfl)
  have iw7 : ∀ w ∈ wsX70, w ∈ wsX7_isItem := fun _ h => List.mem_cons_of_mem _ (List.mem_append_right _ h)
  refine lv_aload_n hx hb dX7_isItem_0 rfl (lv_at hl 0 rfl) ?_
  have hs1 : kw_Split [(tx, .inr (7, [.ref bys, .int (nI ln), .int tok, .int (nI sta), .int (nI en), .int num, .ref wo, .ref fs, .ref sc, .int (nI tfi), .int (nI tgl), .int (nI tst)])), (bys, .inl (y 1, 150, .inl fby)), (wo, .inl (y 0, 25, .inl fwo)), (fs, .inl (y 0, 25, .inl ffs)), (sc, .inl (y 0, 25, .inl fsc))] [(tx, .inr (7, [.ref bys, .int (nI ln), .int tok, .int (nI sta), .int (nI en), .int num, .ref wo, .ref fs, .ref sc, .int (nI tfi), .int (nI tgl), .int (nI tst)])), (bys, .inl (y 1, 150, .inl fby))] [(wo, .inl (y 0, 25, .inl fwo)), (fs, .inl (y 0, 25, .inl ffs)), (sc, .inl (y 0, 25, .inl fsc))] [0, 1] [2, 3, 4] := ⟨rfl, rfl, rfl, rfl, rfl, by decide⟩
  refine kw_go_i hs1 hP hD hS hA (va_runV (As := []) (rest := []) ⟨hx, hb, hml, hown, hts⟩ (gt_wordHere l D y aK aV tx bys wo fs sc ln sta en tok num (nI tfi) (nI tgl) (nI tst) fby hln hen hse _) (cwV 0 hts gX7_isItem_X7_wordHere rfl rfl rfl (by decide +kernel) ⟨Nat.le_of_ble_eq_true rfl, Nat.le_of_ble_eq_true rfl⟩) (kz_PreV (ci := 7) (q0 := 0) hs1 hP hD hK hN rfl rfl hZ hS hA) rfl rfl hl.1 rfl (lv_room (Nat.le_of_ble_eq_true rfl)) dX7_isItem_1 ⟨Nat.le_of_ble_eq_true rfl, Nat.le_of_ble_eq_true rfl⟩) (fun r2 u3 H locs hq hP hD hS => ?_)
  rcases hq with rfl | rfl | rfl | rfl | rfl
  · skip
    have hP : va_P D vwCl [(wo, .inl (y 0, 25, .inl fwo)), (fs, .inl (y 0, 25, .inl ffs)), (sc, .inl (y 0, 25, .inl fsc)), (tx, .inr (7, [.ref bys, .int (nI ln), .int tok, .int (nI sta), .int (nI en), .int num, .ref wo, .ref fs, .ref sc, .int (nI tfi), .int (nI tgl), .int (nI tst)])), (bys, .inl (y 1, 150, .inl fby))] H := hP
    have hD : va_D A [(wo, .inl (y 0, 25, .inl fwo)), (fs, .inl (y 0, 25, .inl ffs)), (sc, .inl (y 0, 25, .inl fsc)), (tx, .inr (7, [.ref bys, .int (nI ln), .int tok, .int (nI sta), .int (nI en), .int num, .ref wo, .ref fs, .ref sc, .int (nI tfi), .int (nI tgl), .int (nI tst)])), (bys, .inl (y 1, 150, .inl fby))] := hD
    refine lv_istore_n (lv' := [(2, .int (-1)), (0, .ref tx), (1, .int (nI k))]) hx hb dX7_isItem_4 rfl hl (by decide) rfl (fun ls hl => ?_)
    refine lv_iload_n hx hb dX7_isItem_5 rfl (lv_at hl 0 rfl) ?_
    refine lv_iconst (v := (-1)) hx hb dX7_isItem_6 (by decide) ?_
    refine lv_icmp_eq (tgt := 31) hx hb dX7_isItem_7 (by decide) (fun _ => ?_) (fun h9 => absurd h9 (by decide))
    refine lv_iconst (v := 0) hx hb dX7_isItem_31 (by decide) ?_
    exact W.zret (v := 0) hx hb hr (by decide) (fun tZ ht hW => ⟨⟨0, (tok, sta, en, num, tfi, tgl, tst, fwo, ffs, fsc), rfl, ⟨by first | omega | (dsimp only; omega), by first | omega | (dsimp only; omega), by first | omega | (dsimp only; omega), by first | omega | (dsimp only; omega), by first | omega | (dsimp only; omega), Or.inl rfl, by first | omega | (dsimp only; omega), (fun h9 => absurd h9 (by decide))⟩, by rw [ht]; exact hP.sub [3, 4, 0, 1, 2] rfl, hD.sub [3, 4, 0, 1, 2] (by decide) rfl⟩, hS.F ht⟩) hS.2.2 dX7_isItem_32
  · skip
    have hP : va_P D vwCl [(wo, .inl (y 0, 25, .inl fwo)), (fs, .inl (y 0, 25, .inl ffs)), (sc, .inl (y 0, 25, .inl fsc)), (tx, .inr (7, [.ref bys, .int (nI ln), .int tok, .int (nI sta), .int (nI en), .int num, .ref wo, .ref fs, .ref sc, .int (nI tfi), .int (nI tgl), .int (nI tst)])), (bys, .inl (y 1, 150, .inl fby))] H := hP
    have hD : va_D A [(wo, .inl (y 0, 25, .inl fwo)), (fs, .inl (y 0, 25, .inl ffs)), (sc, .inl (y 0, 25, .inl fsc)), (tx, .inr (7, [.ref bys, .int (nI ln), .int tok, .int (nI sta), .int (nI en), .int num, .ref wo, .ref fs, .ref sc, .int (nI tfi), .int (nI tgl), .int (nI tst)])), (bys, .inl (y 1, 150, .inl fby))] := hD
    refine lv_istore_n (lv' := [(2, .int 0), (0, .ref tx), (1, .int (nI k))]) hx hb dX7_isItem_4 rfl hl (by decide) rfl (fun ls hl => ?_)
    refine lv_iload_n hx hb dX7_isItem_5 rfl (lv_at hl 0 rfl) ?_
    refine lv_iconst (v := (-1)) hx hb dX7_isItem_6 (by decide) ?_
    refine lv_icmp_eq (tgt := 31) hx hb dX7_isItem_7 (by decide) (fun h9 => absurd h9 (by decide)) (fun _ => ?_)
    refine lv_iload_n hx hb dX7_isItem_10 rfl (lv_at hl 0 rfl) ?_
    refine lv_if_ne (tgt := 18) hx hb dX7_isItem_11 (by decide) (fun h9 => absurd h9 (by decide)) (fun _ => ?_)
    refine lv_iconst (v := 1) hx hb dX7_isItem_14 (by decide) ?_
    refine lv_goto (tgt := 19) hx hb dX7_isItem_15 (by decide) ?_
    refine lv_iload_n hx hb dX7_isItem_19 rfl (lv_at hl 2 rfl) ?_
    refine lv_if_ne (tgt := 27) hx hb dX7_isItem_20 (by decide) (fun h4 => ?_) (fun h5 => ?_)
    · skip
      have h4 : ¬ k = 0 := fun q9 => h4 ((nI_eq (a := k) (b := 0) (by omega) (by omega)).mpr q9)
      refine lv_iconst (v := 0) hx hb dX7_isItem_27 (by decide) ?_
      refine lv_icmp_eq (tgt := 33) hx hb dX7_isItem_28 (by decide) (fun h9 => absurd h9 (by decide)) (fun _ => ?_)
      refine lv_iconst (v := 0) hx hb dX7_isItem_31 (by decide) ?_
      exact W.zret (v := 0) hx hb hr (by decide) (fun tZ ht hW => ⟨⟨0, (tok, sta, en, num, tfi, tgl, tst, fwo, ffs, fsc), rfl, ⟨by first | omega | (dsimp only; omega), by first | omega | (dsimp only; omega), by first | omega | (dsimp only; omega), by first | omega | (dsimp only; omega), by first | omega | (dsimp only; omega), Or.inl rfl, by first | omega | (dsimp only; omega), (fun h9 => absurd h9 (by decide))⟩, by rw [ht]; exact hP.sub [3, 4, 0, 1, 2] rfl, hD.sub [3, 4, 0, 1, 2] (by decide) rfl⟩, hS.F ht⟩) hS.2.2 dX7_isItem_32
    · skip
      have h5 : k = 0 := (nI_eq (a := k) (b := 0) (by omega) (by omega)).mp h5
      refine lv_iconst (v := 1) hx hb dX7_isItem_23 (by decide) ?_
      refine lv_goto (tgt := 28) hx hb dX7_isItem_24 (by decide) ?_
      refine lv_icmp_eq (tgt := 33) hx hb dX7_isItem_28 (by decide) (fun _ => ?_) (fun h9 => absurd h9 (by decide))
      refine lv_aload_n hx hb dX7_isItem_33 rfl (lv_at hl 1 rfl) ?_
      refine va_get (D := D) (ci := 7) (v := .ref wo) (C := RX7) (T := TX7) (N := 12) hx hb hts iw7 hown hK hP 3 rfl rfl 6 (by decide) fw1 (fun _ h9 => h9) rfl dX7_isItem_34 ?_
      refine lv_iload_n hx hb dX7_isItem_37 rfl (lv_at hl 2 rfl) ?_
      refine lv_iload_n hx hb dX7_isItem_38 rfl (lv_at hl 0 rfl) ?_
      refine va_iast hx hb hK hP hD hS 0 0 rfl rfl (vp_in_nI (by omega) (by decide)) dX7_isItem_39 (fun H locs hP hD hS => ?_)
      rw [nI_clamp (n := k) (by omega)] at hP hD
      have hP : va_P D vwCl [(wo, .inl (y 0, 25, .inl (upd fwo k 0))), (fs, .inl (y 0, 25, .inl ffs)), (sc, .inl (y 0, 25, .inl fsc)), (tx, .inr (7, [.ref bys, .int (nI ln), .int tok, .int (nI sta), .int (nI en), .int num, .ref wo, .ref fs, .ref sc, .int (nI tfi), .int (nI tgl), .int (nI tst)])), (bys, .inl (y 1, 150, .inl fby))] H := hP
      have hD : va_D A [(wo, .inl (y 0, 25, .inl (upd fwo k 0))), (fs, .inl (y 0, 25, .inl ffs)), (sc, .inl (y 0, 25, .inl fsc)), (tx, .inr (7, [.ref bys, .int (nI ln), .int tok, .int (nI sta), .int (nI en), .int num, .ref wo, .ref fs, .ref sc, .int (nI tfi), .int (nI tgl), .int (nI tst)])), (bys, .inl (y 1, 150, .inl fby))] := hD
      refine lv_iload_n hx hb dX7_isItem_40 rfl (lv_at hl 0 rfl) ?_
      refine lv_tableIn (off := 27) (tgt := 68) hx hb dX7_isItem_41 (by decide) (by decide) (by decide +kernel) (by decide) ?_
      refine lv_aload_n hx hb dX7_isItem_68 rfl (lv_at hl 1 rfl) ?_
      refine lv_aload_n hx hb dX7_isItem_69 rfl (lv_at hl 1 rfl) ?_
      refine va_get (D := D) (ci := 7) (v := .ref fs) (C := RX7) (T := TX7) (N := 12) hx hb hts iw7 hown hK hP 3 rfl rfl 7 (by decide) fw2 (fun _ h9 => h9) rfl dX7_isItem_70 ?_
      refine lv_iload_n hx hb dX7_isItem_73 rfl (lv_at hl 2 rfl) ?_
      refine lv_iconst (v := 0) hx hb dX7_isItem_74 (by decide) ?_
      refine lv_bipush (v := 9) hx hb dX7_isItem_75 (by decide) ?_
      have hs6 : kw_Split [(wo, .inl (y 0, 25, .inl (upd fwo k 0))), (fs, .inl (y 0, 25, .inl ffs)), (sc, .inl (y 0, 25, .inl fsc)), (tx, .inr (7, [.ref bys, .int (nI ln), .int tok, .int (nI sta), .int (nI en), .int num, .ref wo, .ref fs, .ref sc, .int (nI tfi), .int (nI tgl), .int (nI tst)])), (bys, .inl (y 1, 150, .inl fby))] [(tx, .inr (7, [.ref bys, .int (nI ln), .int tok, .int (nI sta), .int (nI en), .int num, .ref wo, .ref fs, .ref sc, .int (nI tfi), .int (nI tgl), .int (nI tst)])), (bys, .inl (y 1, 150, .inl fby)), (fs, .inl (y 0, 25, .inl ffs))] [(wo, .inl (y 0, 25, .inl (upd fwo k 0))), (sc, .inl (y 0, 25, .inl fsc))] [3, 4, 1] [0, 2] := ⟨rfl, rfl, rfl, rfl, rfl, by decide⟩
      refine kw_go_i hs6 hP hD hS hA (va_runV (As := [.ref fs, .int (nI k), .int 0, .int 9]) (rest := []) ⟨hx, hb, hml, hown, hts⟩ (gt_takes l D y tx bys wo fs sc ln sta en tok num (nI tfi) (nI tgl) (nI tst) fby fs ffs k 0 9 hln hen hk (by omega) (by omega) _) (cwV 4 hts gX7_isItem_X7_takes rfl rfl rfl (by decide +kernel) ⟨Nat.le_of_ble_eq_true rfl, Nat.le_of_ble_eq_true rfl⟩) (kw_PreV (ci := 7) (q0 := 3) hs6 hP hD hK hN rfl rfl) rfl rfl hl.1 rfl (lv_room (Nat.le_of_ble_eq_true rfl)) dX7_isItem_77 ⟨Nat.le_of_ble_eq_true rfl, Nat.le_of_ble_eq_true rfl⟩) (fun r7 u8 H locs hq hP hD hS => ?_)
      obtain ⟨v9, v10, v11, v12, v13⟩ := u8
      try dsimp only at hq
      obtain ⟨h14, h15, (rfl | rfl), h16, h17⟩ := hq
      · skip
        have hP : va_P D vwCl [(wo, .inl (y 0, 25, .inl (upd fwo k 0))), (sc, .inl (y 0, 25, .inl fsc)), (tx, .inr (7, [.ref bys, .int (nI ln), .int v9, .int (nI v10), .int (nI v11), .int v12, .ref wo, .ref fs, .ref sc, .int (nI tfi), .int (nI tgl), .int (nI tst)])), (bys, .inl (y 1, 150, .inl fby)), (fs, .inl (y 0, 25, .inl v13))] H := hP
        have hD : va_D A [(wo, .inl (y 0, 25, .inl (upd fwo k 0))), (sc, .inl (y 0, 25, .inl fsc)), (tx, .inr (7, [.ref bys, .int (nI ln), .int v9, .int (nI v10), .int (nI v11), .int v12, .ref wo, .ref fs, .ref sc, .int (nI tfi), .int (nI tgl), .int (nI tst)])), (bys, .inl (y 1, 150, .inl fby)), (fs, .inl (y 0, 25, .inl v13))] := hD
        exact W.zret (v := 0) hx hb hr (by decide) (fun tZ ht hW => ⟨⟨0, (v9, v10, v11, v12, tfi, tgl, tst, (upd fwo k 0), v13, fsc), rfl, ⟨by first | omega | (dsimp only; omega), by first | omega | (dsimp only; omega), by first | omega | (dsimp only; omega), by first | omega | (dsimp only; omega), by first | omega | (dsimp only; omega), Or.inl rfl, by first | omega | (dsimp only; omega), (fun h9 => absurd h9 (by decide))⟩, by rw [ht]; exact hP.sub [2, 3, 0, 4, 1] rfl, hD.sub [2, 3, 0, 4, 1] (by decide) rfl⟩, hS.F ht⟩) hS.2.2 dX7_isItem_80
      · skip
        have hP : va_P D vwCl [(wo, .inl (y 0, 25, .inl (upd fwo k 0))), (sc, .inl (y 0, 25, .inl fsc)), (tx, .inr (7, [.ref bys, .int (nI ln), .int v9, .int (nI v10), .int (nI v11), .int v12, .ref wo, .ref fs, .ref sc, .int (nI tfi), .int (nI tgl), .int (nI tst)])), (bys, .inl (y 1, 150, .inl fby)), (fs, .inl (y 0, 25, .inl v13))] H := hP
        have hD : va_D A [(wo, .inl (y 0, 25, .inl (upd fwo k 0))), (sc, .inl (y 0, 25, .inl fsc)), (tx, .inr (7, [.ref bys, .int (nI ln), .int v9, .int (nI v10), .int (nI v11), .int v12, .ref wo, .ref fs, .ref sc, .int (nI tfi), .int (nI tgl), .int (nI tst)])), (bys, .inl (y 1, 150, .inl fby)), (fs, .inl (y 0, 25, .inl v13))] := hD
        have h17 : kz_tk ffs k v13 v12 0 9 := h17 rfl
        obtain ⟨zk18, h19, h20, rfl, rfl⟩ := h17
        have hP : va_P D vwCl [(wo, .inl (y 0, 25, .inl (upd fwo k 0))), (sc, .inl (y 0, 25, .inl fsc)), (tx, .inr (7, [.ref bys, .int (nI ln), .int v9, .int (nI v10), .int (nI v11), .int (nI zk18), .ref wo, .ref fs, .ref sc, .int (nI tfi), .int (nI tgl), .int (nI tst)])), (bys, .inl (y 1, 150, .inl fby)), (fs, .inl (y 0, 25, .inl (upd ffs k (nI zk18))))] H := hP
        have hD : va_D A [(wo, .inl (y 0, 25, .inl (upd fwo k 0))), (sc, .inl (y 0, 25, .inl fsc)), (tx, .inr (7, [.ref bys, .int (nI ln), .int v9, .int (nI v10), .int (nI v11), .int (nI zk18), .ref wo, .ref fs, .ref sc, .int (nI tfi), .int (nI tgl), .int (nI tst)])), (bys, .inl (y 1, 150, .inl fby)), (fs, .inl (y 0, 25, .inl (upd ffs k (nI zk18))))] := hD
        exact W.zret (v := 1) hx hb hr (by decide) (fun tZ ht hW => ⟨⟨1, (v9, v10, v11, (nI zk18), tfi, tgl, tst, (upd fwo k 0), (upd ffs k (nI zk18)), fsc), rfl, ⟨by first | omega | (dsimp only; omega), by first | omega | (dsimp only; omega), by first | omega | (dsimp only; omega), by first | omega | (dsimp only; omega), by first | omega | (dsimp only; omega), Or.inr rfl, by first | omega | (dsimp only; omega), (fun _ => kz_ok_n hok (by decide) (by decide))⟩, by rw [ht]; exact hP.sub [2, 3, 0, 4, 1] rfl, hD.sub [2, 3, 0, 4, 1] (by decide) rfl⟩, hS.F ht⟩) hS.2.2 dX7_isItem_80
  · skip
    have hP : va_P D vwCl [(wo, .inl (y 0, 25, .inl fwo)), (fs, .inl (y 0, 25, .inl ffs)), (sc, .inl (y 0, 25, .inl fsc)), (tx, .inr (7, [.ref bys, .int (nI ln), .int tok, .int (nI sta), .int (nI en), .int num, .ref wo, .ref fs, .ref sc, .int (nI tfi), .int (nI tgl), .int (nI tst)])), (bys, .inl (y 1, 150, .inl fby))] H := hP
    have hD : va_D A [(wo, .inl (y 0, 25, .inl fwo)), (fs, .inl (y 0, 25, .inl ffs)), (sc, .inl (y 0, 25, .inl fsc)), (tx, .inr (7, [.ref bys, .int (nI ln), .int tok, .int (nI sta), .int (nI en), .int num, .ref wo, .ref fs, .ref sc, .int (nI tfi), .int (nI tgl), .int (nI tst)])), (bys, .inl (y 1, 150, .inl fby))] := hD
    refine lv_istore_n (lv' := [(2, .int 1), (0, .ref tx), (1, .int (nI k))]) hx hb dX7_isItem_4 rfl hl (by decide) rfl (fun ls hl => ?_)
    refine lv_iload_n hx hb dX7_isItem_5 rfl (lv_at hl 0 rfl) ?_
    refine lv_iconst (v := (-1)) hx hb dX7_isItem_6 (by decide) ?_
    refine lv_icmp_eq (tgt := 31) hx hb dX7_isItem_7 (by decide) (fun h9 => absurd h9 (by decide)) (fun _ => ?_)
    refine lv_iload_n hx hb dX7_isItem_10 rfl (lv_at hl 0 rfl) ?_
    refine lv_if_ne (tgt := 18) hx hb dX7_isItem_11 (by decide) (fun _ => ?_) (fun h9 => absurd h9 (by decide))
    refine lv_iconst (v := 0) hx hb dX7_isItem_18 (by decide) ?_
    refine lv_iload_n hx hb dX7_isItem_19 rfl (lv_at hl 2 rfl) ?_
    refine lv_if_ne (tgt := 27) hx hb dX7_isItem_20 (by decide) (fun h21 => ?_) (fun h22 => ?_)
    · skip
      have h21 : ¬ k = 0 := fun q9 => h21 ((nI_eq (a := k) (b := 0) (by omega) (by omega)).mpr q9)
      refine lv_iconst (v := 0) hx hb dX7_isItem_27 (by decide) ?_
      refine lv_icmp_eq (tgt := 33) hx hb dX7_isItem_28 (by decide) (fun _ => ?_) (fun h9 => absurd h9 (by decide))
      refine lv_aload_n hx hb dX7_isItem_33 rfl (lv_at hl 1 rfl) ?_
      refine va_get (D := D) (ci := 7) (v := .ref wo) (C := RX7) (T := TX7) (N := 12) hx hb hts iw7 hown hK hP 3 rfl rfl 6 (by decide) fw1 (fun _ h9 => h9) rfl dX7_isItem_34 ?_
      refine lv_iload_n hx hb dX7_isItem_37 rfl (lv_at hl 2 rfl) ?_
      refine lv_iload_n hx hb dX7_isItem_38 rfl (lv_at hl 0 rfl) ?_
      refine va_iast hx hb hK hP hD hS 0 0 rfl rfl (vp_in_nI (by omega) (by decide)) dX7_isItem_39 (fun H locs hP hD hS => ?_)
      rw [nI_clamp (n := k) (by omega)] at hP hD
      have hP : va_P D vwCl [(wo, .inl (y 0, 25, .inl (upd fwo k 1))), (fs, .inl (y 0, 25, .inl ffs)), (sc, .inl (y 0, 25, .inl fsc)), (tx, .inr (7, [.ref bys, .int (nI ln), .int tok, .int (nI sta), .int (nI en), .int num, .ref wo, .ref fs, .ref sc, .int (nI tfi), .int (nI tgl), .int (nI tst)])), (bys, .inl (y 1, 150, .inl fby))] H := hP
      have hD : va_D A [(wo, .inl (y 0, 25, .inl (upd fwo k 1))), (fs, .inl (y 0, 25, .inl ffs)), (sc, .inl (y 0, 25, .inl fsc)), (tx, .inr (7, [.ref bys, .int (nI ln), .int tok, .int (nI sta), .int (nI en), .int num, .ref wo, .ref fs, .ref sc, .int (nI tfi), .int (nI tgl), .int (nI tst)])), (bys, .inl (y 1, 150, .inl fby))] := hD
      refine lv_iload_n hx hb dX7_isItem_40 rfl (lv_at hl 0 rfl) ?_
      refine lv_tableIn (off := 40) (tgt := 81) hx hb dX7_isItem_41 (by decide) (by decide) (by decide +kernel) (by decide) ?_
      refine lv_aload_n hx hb dX7_isItem_81 rfl (lv_at hl 1 rfl) ?_
      refine lv_dup hx hb dX7_isItem_82 rfl ?_
      refine va_get (D := D) (ci := 7) (v := .int (nI tfi)) (C := RX7) (T := TX7) (N := 12) hx hb hts iw7 hown hK hP 3 rfl rfl 9 (by decide) fw3 (fun _ h9 => h9) rfl dX7_isItem_83 ?_
      refine lv_iconst (v := 1) hx hb dX7_isItem_86 (by decide) ?_
      refine lv_iadd hx hb dX7_isItem_87 ?_
      rw [show (nI tfi) + 1 = nI (tfi + 1) from nI_add tfi 1]
      refine va_put (D := D) (ci := 7) (v := .int (nI (tfi + 1))) (ty := .int) (C := RX7) (T := TX7) (N := 12) hx hb hts iw7 tyX7 tyX7_ok nmX7 hown hK hP hD hS 3 rfl rfl 9 (by decide) fw3 (fun _ h9 => h9) rfl (by decide +kernel) rfl rfl (Nat.le_of_ble_eq_true rfl) dX7_isItem_88 (fun H locs hP hD hS => ?_)
      have hP : va_P D vwCl [(wo, .inl (y 0, 25, .inl (upd fwo k 1))), (fs, .inl (y 0, 25, .inl ffs)), (sc, .inl (y 0, 25, .inl fsc)), (tx, .inr (7, [.ref bys, .int (nI ln), .int tok, .int (nI sta), .int (nI en), .int num, .ref wo, .ref fs, .ref sc, .int (nI (tfi + 1)), .int (nI tgl), .int (nI tst)])), (bys, .inl (y 1, 150, .inl fby))] H := hP
      have hD : va_D A [(wo, .inl (y 0, 25, .inl (upd fwo k 1))), (fs, .inl (y 0, 25, .inl ffs)), (sc, .inl (y 0, 25, .inl fsc)), (tx, .inr (7, [.ref bys, .int (nI ln), .int tok, .int (nI sta), .int (nI en), .int num, .ref wo, .ref fs, .ref sc, .int (nI (tfi + 1)), .int (nI tgl), .int (nI tst)])), (bys, .inl (y 1, 150, .inl fby))] := hD
      refine lv_aload_n hx hb dX7_isItem_91 rfl (lv_at hl 1 rfl) ?_
      refine va_get (D := D) (ci := 7) (v := .int (nI (tfi + 1))) (C := RX7) (T := TX7) (N := 12) hx hb hts iw7 hown hK hP 3 rfl rfl 9 (by decide) fw3 (fun _ h9 => h9) rfl dX7_isItem_92 ?_
      refine lv_bipush (v := 6) hx hb dX7_isItem_95 (by decide) ?_
      refine lv_icmp_gt (tgt := 133) hx hb dX7_isItem_97 (by decide) (fun h23 => ?_) (fun h24 => ?_)
      · skip
        have h23 : 6 < (tfi + 1) := (nI_ltI (a := 6) (b := (tfi + 1)) (by omega) (by omega)).mp h23
        refine lv_iconst (v := 0) hx hb dX7_isItem_133 (by decide) ?_
        exact W.zret (v := 0) hx hb hr (by decide) (fun tZ ht hW => ⟨⟨0, (tok, sta, en, num, tfi + 1, tgl, tst, (upd fwo k 1), ffs, fsc), rfl, ⟨by first | omega | (dsimp only; omega), by first | omega | (dsimp only; omega), by first | omega | (dsimp only; omega), by first | omega | (dsimp only; omega), by first | omega | (dsimp only; omega), Or.inl rfl, by first | omega | (dsimp only; omega), (fun h9 => absurd h9 (by decide))⟩, by rw [ht]; exact hP.sub [3, 4, 0, 1, 2] rfl, hD.sub [3, 4, 0, 1, 2] (by decide) rfl⟩, hS.F ht⟩) hS.2.2 dX7_isItem_134
      · skip
        have h24 : ¬ 6 < (tfi + 1) := fun q9 => h24 ((nI_ltI (a := 6) (b := (tfi + 1)) (by omega) (by omega)).mpr q9)
        refine lv_aload_n hx hb dX7_isItem_100 rfl (lv_at hl 1 rfl) ?_
        refine lv_aload_n hx hb dX7_isItem_101 rfl (lv_at hl 1 rfl) ?_
        refine va_get (D := D) (ci := 7) (v := .ref fs) (C := RX7) (T := TX7) (N := 12) hx hb hts iw7 hown hK hP 3 rfl rfl 7 (by decide) fw2 (fun _ h9 => h9) rfl dX7_isItem_102 ?_
        refine lv_iload_n hx hb dX7_isItem_105 rfl (lv_at hl 2 rfl) ?_
        refine lv_iconst (v := 0) hx hb dX7_isItem_106 (by decide) ?_
        refine lv_iconst (v := 5) hx hb dX7_isItem_107 (by decide) ?_
        have hs25 : kw_Split [(wo, .inl (y 0, 25, .inl (upd fwo k 1))), (fs, .inl (y 0, 25, .inl ffs)), (sc, .inl (y 0, 25, .inl fsc)), (tx, .inr (7, [.ref bys, .int (nI ln), .int tok, .int (nI sta), .int (nI en), .int num, .ref wo, .ref fs, .ref sc, .int (nI (tfi + 1)), .int (nI tgl), .int (nI tst)])), (bys, .inl (y 1, 150, .inl fby))] [(tx, .inr (7, [.ref bys, .int (nI ln), .int tok, .int (nI sta), .int (nI en), .int num, .ref wo, .ref fs, .ref sc, .int (nI (tfi + 1)), .int (nI tgl), .int (nI tst)])), (bys, .inl (y 1, 150, .inl fby)), (fs, .inl (y 0, 25, .inl ffs))] [(wo, .inl (y 0, 25, .inl (upd fwo k 1))), (sc, .inl (y 0, 25, .inl fsc))] [3, 4, 1] [0, 2] := ⟨rfl, rfl, rfl, rfl, rfl, by decide⟩
        refine kw_go_i hs25 hP hD hS hA (va_runV (As := [.ref fs, .int (nI k), .int 0, .int 5]) (rest := []) ⟨hx, hb, hml, hown, hts⟩ (gt_takes l D y tx bys wo fs sc ln sta en tok num (nI (tfi + 1)) (nI tgl) (nI tst) fby fs ffs k 0 5 hln hen hk (by omega) (by omega) _) (cwV 4 hts gX7_isItem_X7_takes rfl rfl rfl (by decide +kernel) ⟨Nat.le_of_ble_eq_true rfl, Nat.le_of_ble_eq_true rfl⟩) (kw_PreV (ci := 7) (q0 := 3) hs25 hP hD hK hN rfl rfl) rfl rfl hl.1 rfl (lv_room (Nat.le_of_ble_eq_true rfl)) dX7_isItem_108 ⟨Nat.le_of_ble_eq_true rfl, Nat.le_of_ble_eq_true rfl⟩) (fun r26 u27 H locs hq hP hD hS => ?_)
        obtain ⟨v28, v29, v30, v31, v32⟩ := u27
        try dsimp only at hq
        obtain ⟨h33, h34, (rfl | rfl), h35, h36⟩ := hq
        · skip
          have hP : va_P D vwCl [(wo, .inl (y 0, 25, .inl (upd fwo k 1))), (sc, .inl (y 0, 25, .inl fsc)), (tx, .inr (7, [.ref bys, .int (nI ln), .int v28, .int (nI v29), .int (nI v30), .int v31, .ref wo, .ref fs, .ref sc, .int (nI (tfi + 1)), .int (nI tgl), .int (nI tst)])), (bys, .inl (y 1, 150, .inl fby)), (fs, .inl (y 0, 25, .inl v32))] H := hP
          have hD : va_D A [(wo, .inl (y 0, 25, .inl (upd fwo k 1))), (sc, .inl (y 0, 25, .inl fsc)), (tx, .inr (7, [.ref bys, .int (nI ln), .int v28, .int (nI v29), .int (nI v30), .int v31, .ref wo, .ref fs, .ref sc, .int (nI (tfi + 1)), .int (nI tgl), .int (nI tst)])), (bys, .inl (y 1, 150, .inl fby)), (fs, .inl (y 0, 25, .inl v32))] := hD
          refine lv_if_eq (tgt := 133) hx hb dX7_isItem_111 (by decide) (fun _ => ?_) (fun h9 => absurd h9 (by decide))
          refine lv_iconst (v := 0) hx hb dX7_isItem_133 (by decide) ?_
          exact W.zret (v := 0) hx hb hr (by decide) (fun tZ ht hW => ⟨⟨0, (v28, v29, v30, v31, tfi + 1, tgl, tst, (upd fwo k 1), v32, fsc), rfl, ⟨by first | omega | (dsimp only; omega), by first | omega | (dsimp only; omega), by first | omega | (dsimp only; omega), by first | omega | (dsimp only; omega), by first | omega | (dsimp only; omega), Or.inl rfl, by first | omega | (dsimp only; omega), (fun h9 => absurd h9 (by decide))⟩, by rw [ht]; exact hP.sub [2, 3, 0, 4, 1] rfl, hD.sub [2, 3, 0, 4, 1] (by decide) rfl⟩, hS.F ht⟩) hS.2.2 dX7_isItem_134
        · skip
          have hP : va_P D vwCl [(wo, .inl (y 0, 25, .inl (upd fwo k 1))), (sc, .inl (y 0, 25, .inl fsc)), (tx, .inr (7, [.ref bys, .int (nI ln), .int v28, .int (nI v29), .int (nI v30), .int v31, .ref wo, .ref fs, .ref sc, .int (nI (tfi + 1)), .int (nI tgl), .int (nI tst)])), (bys, .inl (y 1, 150, .inl fby)), (fs, .inl (y 0, 25, .inl v32))] H := hP
          have hD : va_D A [(wo, .inl (y 0, 25, .inl (upd fwo k 1))), (sc, .inl (y 0, 25, .inl fsc)), (tx, .inr (7, [.ref bys, .int (nI ln), .int v28, .int (nI v29), .int (nI v30), .int v31, .ref wo, .ref fs, .ref sc, .int (nI (tfi + 1)), .int (nI tgl), .int (nI tst)])), (bys, .inl (y 1, 150, .inl fby)), (fs, .inl (y 0, 25, .inl v32))] := hD
          have h36 : kz_tk ffs k v32 v31 0 5 := h36 rfl
          obtain ⟨zk37, h38, h39, rfl, rfl⟩ := h36
          have hP : va_P D vwCl [(wo, .inl (y 0, 25, .inl (upd fwo k 1))), (sc, .inl (y 0, 25, .inl fsc)), (tx, .inr (7, [.ref bys, .int (nI ln), .int v28, .int (nI v29), .int (nI v30), .int (nI zk37), .ref wo, .ref fs, .ref sc, .int (nI (tfi + 1)), .int (nI tgl), .int (nI tst)])), (bys, .inl (y 1, 150, .inl fby)), (fs, .inl (y 0, 25, .inl (upd ffs k (nI zk37))))] H := hP
          have hD : va_D A [(wo, .inl (y 0, 25, .inl (upd fwo k 1))), (sc, .inl (y 0, 25, .inl fsc)), (tx, .inr (7, [.ref bys, .int (nI ln), .int v28, .int (nI v29), .int (nI v30), .int (nI zk37), .ref wo, .ref fs, .ref sc, .int (nI (tfi + 1)), .int (nI tgl), .int (nI tst)])), (bys, .inl (y 1, 150, .inl fby)), (fs, .inl (y 0, 25, .inl (upd ffs k (nI zk37))))] := hD
          refine lv_if_eq (tgt := 133) hx hb dX7_isItem_111 (by decide) (fun h9 => absurd h9 (by decide)) (fun _ => ?_)
          refine lv_aload_n hx hb dX7_isItem_114 rfl (lv_at hl 1 rfl) ?_
          refine lv_aload_n hx hb dX7_isItem_115 rfl (lv_at hl 1 rfl) ?_
          refine va_get (D := D) (ci := 7) (v := .ref sc) (C := RX7) (T := TX7) (N := 12) hx hb hts iw7 hown hK hP 2 rfl rfl 8 (by decide) fw4 (fun _ h9 => h9) rfl dX7_isItem_116 ?_
          refine lv_iload_n hx hb dX7_isItem_119 rfl (lv_at hl 2 rfl) ?_
          refine lv_iconst (v := 0) hx hb dX7_isItem_120 (by decide) ?_
          refine lv_bipush (v := 60) hx hb dX7_isItem_121 (by decide) ?_
          have hs40 : kw_Split [(wo, .inl (y 0, 25, .inl (upd fwo k 1))), (sc, .inl (y 0, 25, .inl fsc)), (tx, .inr (7, [.ref bys, .int (nI ln), .int v28, .int (nI v29), .int (nI v30), .int (nI zk37), .ref wo, .ref fs, .ref sc, .int (nI (tfi + 1)), .int (nI tgl), .int (nI tst)])), (bys, .inl (y 1, 150, .inl fby)), (fs, .inl (y 0, 25, .inl (upd ffs k (nI zk37))))] [(tx, .inr (7, [.ref bys, .int (nI ln), .int v28, .int (nI v29), .int (nI v30), .int (nI zk37), .ref wo, .ref fs, .ref sc, .int (nI (tfi + 1)), .int (nI tgl), .int (nI tst)])), (bys, .inl (y 1, 150, .inl fby)), (sc, .inl (y 0, 25, .inl fsc))] [(wo, .inl (y 0, 25, .inl (upd fwo k 1))), (fs, .inl (y 0, 25, .inl (upd ffs k (nI zk37))))] [2, 3, 1] [0, 4] := ⟨rfl, rfl, rfl, rfl, rfl, by decide⟩
          refine kw_go_i hs40 hP hD hS hA (va_runV (As := [.ref sc, .int (nI k), .int 0, .int 60]) (rest := []) ⟨hx, hb, hml, hown, hts⟩ (gt_takes l D y tx bys wo fs sc ln v29 v30 v28 (nI zk37) (nI (tfi + 1)) (nI tgl) (nI tst) fby sc fsc k 0 60 hln (by omega) hk (by omega) (by omega) _) (cwV 4 hts gX7_isItem_X7_takes rfl rfl rfl (by decide +kernel) ⟨Nat.le_of_ble_eq_true rfl, Nat.le_of_ble_eq_true rfl⟩) (kw_PreV (ci := 7) (q0 := 2) hs40 hP hD hK hN rfl rfl) rfl rfl hl.1 rfl (lv_room (Nat.le_of_ble_eq_true rfl)) dX7_isItem_123 ⟨Nat.le_of_ble_eq_true rfl, Nat.le_of_ble_eq_true rfl⟩) (fun r41 u42 H locs hq hP hD hS => ?_)
          obtain ⟨v43, v44, v45, v46, v47⟩ := u42
          try dsimp only at hq
          obtain ⟨h48, h49, (rfl | rfl), h50, h51⟩ := hq
          · skip
            have hP : va_P D vwCl [(wo, .inl (y 0, 25, .inl (upd fwo k 1))), (fs, .inl (y 0, 25, .inl (upd ffs k (nI zk37)))), (tx, .inr (7, [.ref bys, .int (nI ln), .int v43, .int (nI v44), .int (nI v45), .int v46, .ref wo, .ref fs, .ref sc, .int (nI (tfi + 1)), .int (nI tgl), .int (nI tst)])), (bys, .inl (y 1, 150, .inl fby)), (sc, .inl (y 0, 25, .inl v47))] H := hP
            have hD : va_D A [(wo, .inl (y 0, 25, .inl (upd fwo k 1))), (fs, .inl (y 0, 25, .inl (upd ffs k (nI zk37)))), (tx, .inr (7, [.ref bys, .int (nI ln), .int v43, .int (nI v44), .int (nI v45), .int v46, .ref wo, .ref fs, .ref sc, .int (nI (tfi + 1)), .int (nI tgl), .int (nI tst)])), (bys, .inl (y 1, 150, .inl fby)), (sc, .inl (y 0, 25, .inl v47))] := hD
            refine lv_if_eq (tgt := 133) hx hb dX7_isItem_126 (by decide) (fun _ => ?_) (fun h9 => absurd h9 (by decide))
            refine lv_iconst (v := 0) hx hb dX7_isItem_133 (by decide) ?_
            exact W.zret (v := 0) hx hb hr (by decide) (fun tZ ht hW => ⟨⟨0, (v43, v44, v45, v46, tfi + 1, tgl, tst, (upd fwo k 1), (upd ffs k (nI zk37)), v47), rfl, ⟨by first | omega | (dsimp only; omega), by first | omega | (dsimp only; omega), by first | omega | (dsimp only; omega), by first | omega | (dsimp only; omega), by first | omega | (dsimp only; omega), Or.inl rfl, by first | omega | (dsimp only; omega), (fun h9 => absurd h9 (by decide))⟩, by rw [ht]; exact hP.sub [2, 3, 0, 1, 4] rfl, hD.sub [2, 3, 0, 1, 4] (by decide) rfl⟩, hS.F ht⟩) hS.2.2 dX7_isItem_134
          · skip
            have hP : va_P D vwCl [(wo, .inl (y 0, 25, .inl (upd fwo k 1))), (fs, .inl (y 0, 25, .inl (upd ffs k (nI zk37)))), (tx, .inr (7, [.ref bys, .int (nI ln), .int v43, .int (nI v44), .int (nI v45), .int v46, .ref wo, .ref fs, .ref sc, .int (nI (tfi + 1)), .int (nI tgl), .int (nI tst)])), (bys, .inl (y 1, 150, .inl fby)), (sc, .inl (y 0, 25, .inl v47))] H := hP
            have hD : va_D A [(wo, .inl (y 0, 25, .inl (upd fwo k 1))), (fs, .inl (y 0, 25, .inl (upd ffs k (nI zk37)))), (tx, .inr (7, [.ref bys, .int (nI ln), .int v43, .int (nI v44), .int (nI v45), .int v46, .ref wo, .ref fs, .ref sc, .int (nI (tfi + 1)), .int (nI tgl), .int (nI tst)])), (bys, .inl (y 1, 150, .inl fby)), (sc, .inl (y 0, 25, .inl v47))] := hD
            have h51 : kz_tk fsc k v47 v46 0 60 := h51 rfl
            obtain ⟨zk52, h53, h54, rfl, rfl⟩ := h51
            have hP : va_P D vwCl [(wo, .inl (y 0, 25, .inl (upd fwo k 1))), (fs, .inl (y 0, 25, .inl (upd ffs k (nI zk37)))), (tx, .inr (7, [.ref bys, .int (nI ln), .int v43, .int (nI v44), .int (nI v45), .int (nI zk52), .ref wo, .ref fs, .ref sc, .int (nI (tfi + 1)), .int (nI tgl), .int (nI tst)])), (bys, .inl (y 1, 150, .inl fby)), (sc, .inl (y 0, 25, .inl (upd fsc k (nI zk52))))] H := hP
            have hD : va_D A [(wo, .inl (y 0, 25, .inl (upd fwo k 1))), (fs, .inl (y 0, 25, .inl (upd ffs k (nI zk37)))), (tx, .inr (7, [.ref bys, .int (nI ln), .int v43, .int (nI v44), .int (nI v45), .int (nI zk52), .ref wo, .ref fs, .ref sc, .int (nI (tfi + 1)), .int (nI tgl), .int (nI tst)])), (bys, .inl (y 1, 150, .inl fby)), (sc, .inl (y 0, 25, .inl (upd fsc k (nI zk52))))] := hD
            refine lv_if_eq (tgt := 133) hx hb dX7_isItem_126 (by decide) (fun h9 => absurd h9 (by decide)) (fun _ => ?_)
            refine lv_iconst (v := 1) hx hb dX7_isItem_129 (by decide) ?_
            refine lv_goto (tgt := 134) hx hb dX7_isItem_130 (by decide) ?_
            exact W.zret (v := 1) hx hb hr (by decide) (fun tZ ht hW => ⟨⟨1, (v43, v44, v45, (nI zk52), tfi + 1, tgl, tst, (upd fwo k 1), (upd ffs k (nI zk37)), (upd fsc k (nI zk52))), rfl, ⟨by first | omega | (dsimp only; omega), by first | omega | (dsimp only; omega), by first | omega | (dsimp only; omega), by first | omega | (dsimp only; omega), by first | omega | (dsimp only; omega), Or.inr rfl, by first | omega | (dsimp only; omega), (fun _ => kz_ok_1 hok (by omega) (vp_in_nI (by omega) (by decide)))⟩, by rw [ht]; exact hP.sub [2, 3, 0, 1, 4] rfl, hD.sub [2, 3, 0, 1, 4] (by decide) rfl⟩, hS.F ht⟩) hS.2.2 dX7_isItem_134
    · skip
      have h22 : k = 0 := (nI_eq (a := k) (b := 0) (by omega) (by omega)).mp h22
      refine lv_iconst (v := 1) hx hb dX7_isItem_23 (by decide) ?_
      refine lv_goto (tgt := 28) hx hb dX7_isItem_24 (by decide) ?_
      refine lv_icmp_eq (tgt := 33) hx hb dX7_isItem_28 (by decide) (fun h9 => absurd h9 (by decide)) (fun _ => ?_)
      refine lv_iconst (v := 0) hx hb dX7_isItem_31 (by decide) ?_
      exact W.zret (v := 0) hx hb hr (by decide) (fun tZ ht hW => ⟨⟨0, (tok, sta, en, num, tfi, tgl, tst, fwo, ffs, fsc), rfl, ⟨by first | omega | (dsimp only; omega), by first | omega | (dsimp only; omega), by first | omega | (dsimp only; omega), by first | omega | (dsimp only; omega), by first | omega | (dsimp only; omega), Or.inl rfl, by first | omega | (dsimp only; omega), (fun h9 => absurd h9 (by decide))⟩, by rw [ht]; exact hP.sub [3, 4, 0, 1, 2] rfl, hD.sub [3, 4, 0, 1, 2] (by decide) rfl⟩, hS.F ht⟩) hS.2.2 dX7_isItem_32
  · skip
    have hP : va_P D vwCl [(wo, .inl (y 0, 25, .inl fwo)), (fs, .inl (y 0, 25, .inl ffs)), (sc, .inl (y 0, 25, .inl fsc)), (tx, .inr (7, [.ref bys, .int (nI ln), .int tok, .int (nI sta), .int (nI en), .int num, .ref wo, .ref fs, .ref sc, .int (nI tfi), .int (nI tgl), .int (nI tst)])), (bys, .inl (y 1, 150, .inl fby))] H := hP
    have hD : va_D A [(wo, .inl (y 0, 25, .inl fwo)), (fs, .inl (y 0, 25, .inl ffs)), (sc, .inl (y 0, 25, .inl fsc)), (tx, .inr (7, [.ref bys, .int (nI ln), .int tok, .int (nI sta), .int (nI en), .int num, .ref wo, .ref fs, .ref sc, .int (nI tfi), .int (nI tgl), .int (nI tst)])), (bys, .inl (y 1, 150, .inl fby))] := hD
    refine lv_istore_n (lv' := [(2, .int 2), (0, .ref tx), (1, .int (nI k))]) hx hb dX7_isItem_4 rfl hl (by decide) rfl (fun ls hl => ?_)
    refine lv_iload_n hx hb dX7_isItem_5 rfl (lv_at hl 0 rfl) ?_
    refine lv_iconst (v := (-1)) hx hb dX7_isItem_6 (by decide) ?_
    refine lv_icmp_eq (tgt := 31) hx hb dX7_isItem_7 (by decide) (fun h9 => absurd h9 (by decide)) (fun _ => ?_)
    refine lv_iload_n hx hb dX7_isItem_10 rfl (lv_at hl 0 rfl) ?_
    refine lv_if_ne (tgt := 18) hx hb dX7_isItem_11 (by decide) (fun _ => ?_) (fun h9 => absurd h9 (by decide))
    refine lv_iconst (v := 0) hx hb dX7_isItem_18 (by decide) ?_
    refine lv_iload_n hx hb dX7_isItem_19 rfl (lv_at hl 2 rfl) ?_
    refine lv_if_ne (tgt := 27) hx hb dX7_isItem_20 (by decide) (fun h55 => ?_) (fun h56 => ?_)
    · skip
      have h55 : ¬ k = 0 := fun q9 => h55 ((nI_eq (a := k) (b := 0) (by omega) (by omega)).mpr q9)
      refine lv_iconst (v := 0) hx hb dX7_isItem_27 (by decide) ?_
      refine lv_icmp_eq (tgt := 33) hx hb dX7_isItem_28 (by decide) (fun _ => ?_) (fun h9 => absurd h9 (by decide))
      refine lv_aload_n hx hb dX7_isItem_33 rfl (lv_at hl 1 rfl) ?_
      refine va_get (D := D) (ci := 7) (v := .ref wo) (C := RX7) (T := TX7) (N := 12) hx hb hts iw7 hown hK hP 3 rfl rfl 6 (by decide) fw1 (fun _ h9 => h9) rfl dX7_isItem_34 ?_
      refine lv_iload_n hx hb dX7_isItem_37 rfl (lv_at hl 2 rfl) ?_
      refine lv_iload_n hx hb dX7_isItem_38 rfl (lv_at hl 0 rfl) ?_
      refine va_iast hx hb hK hP hD hS 0 0 rfl rfl (vp_in_nI (by omega) (by decide)) dX7_isItem_39 (fun H locs hP hD hS => ?_)
      rw [nI_clamp (n := k) (by omega)] at hP hD
      have hP : va_P D vwCl [(wo, .inl (y 0, 25, .inl (upd fwo k 2))), (fs, .inl (y 0, 25, .inl ffs)), (sc, .inl (y 0, 25, .inl fsc)), (tx, .inr (7, [.ref bys, .int (nI ln), .int tok, .int (nI sta), .int (nI en), .int num, .ref wo, .ref fs, .ref sc, .int (nI tfi), .int (nI tgl), .int (nI tst)])), (bys, .inl (y 1, 150, .inl fby))] H := hP
      have hD : va_D A [(wo, .inl (y 0, 25, .inl (upd fwo k 2))), (fs, .inl (y 0, 25, .inl ffs)), (sc, .inl (y 0, 25, .inl fsc)), (tx, .inr (7, [.ref bys, .int (nI ln), .int tok, .int (nI sta), .int (nI en), .int num, .ref wo, .ref fs, .ref sc, .int (nI tfi), .int (nI tgl), .int (nI tst)])), (bys, .inl (y 1, 150, .inl fby))] := hD
      refine lv_iload_n hx hb dX7_isItem_40 rfl (lv_at hl 0 rfl) ?_
      refine lv_tableIn (off := 94) (tgt := 135) hx hb dX7_isItem_41 (by decide) (by decide) (by decide +kernel) (by decide) ?_
      refine lv_aload_n hx hb dX7_isItem_135 rfl (lv_at hl 1 rfl) ?_
      refine lv_dup hx hb dX7_isItem_136 rfl ?_
      refine va_get (D := D) (ci := 7) (v := .int (nI tgl)) (C := RX7) (T := TX7) (N := 12) hx hb hts iw7 hown hK hP 3 rfl rfl 10 (by decide) fw5 (fun _ h9 => h9) rfl dX7_isItem_137 ?_
      refine lv_iconst (v := 1) hx hb dX7_isItem_140 (by decide) ?_
      refine lv_iadd hx hb dX7_isItem_141 ?_
      rw [show (nI tgl) + 1 = nI (tgl + 1) from nI_add tgl 1]
      refine va_put (D := D) (ci := 7) (v := .int (nI (tgl + 1))) (ty := .int) (C := RX7) (T := TX7) (N := 12) hx hb hts iw7 tyX7 tyX7_ok nmX7 hown hK hP hD hS 3 rfl rfl 10 (by decide) fw5 (fun _ h9 => h9) rfl (by decide +kernel) rfl rfl (Nat.le_of_ble_eq_true rfl) dX7_isItem_142 (fun H locs hP hD hS => ?_)
      have hP : va_P D vwCl [(wo, .inl (y 0, 25, .inl (upd fwo k 2))), (fs, .inl (y 0, 25, .inl ffs)), (sc, .inl (y 0, 25, .inl fsc)), (tx, .inr (7, [.ref bys, .int (nI ln), .int tok, .int (nI sta), .int (nI en), .int num, .ref wo, .ref fs, .ref sc, .int (nI tfi), .int (nI (tgl + 1)), .int (nI tst)])), (bys, .inl (y 1, 150, .inl fby))] H := hP
      have hD : va_D A [(wo, .inl (y 0, 25, .inl (upd fwo k 2))), (fs, .inl (y 0, 25, .inl ffs)), (sc, .inl (y 0, 25, .inl fsc)), (tx, .inr (7, [.ref bys, .int (nI ln), .int tok, .int (nI sta), .int (nI en), .int num, .ref wo, .ref fs, .ref sc, .int (nI tfi), .int (nI (tgl + 1)), .int (nI tst)])), (bys, .inl (y 1, 150, .inl fby))] := hD
      refine lv_aload_n hx hb dX7_isItem_145 rfl (lv_at hl 1 rfl) ?_
      refine va_get (D := D) (ci := 7) (v := .int (nI (tgl + 1))) (C := RX7) (T := TX7) (N := 12) hx hb hts iw7 hown hK hP 3 rfl rfl 10 (by decide) fw5 (fun _ h9 => h9) rfl dX7_isItem_146 ?_
      refine lv_iconst (v := 5) hx hb dX7_isItem_149 (by decide) ?_
      refine lv_icmp_gt (tgt := 176) hx hb dX7_isItem_150 (by decide) (fun h57 => ?_) (fun h58 => ?_)
      · skip
        have h57 : 5 < (tgl + 1) := (nI_ltI (a := 5) (b := (tgl + 1)) (by omega) (by omega)).mp h57
        refine lv_iconst (v := 0) hx hb dX7_isItem_176 (by decide) ?_
        exact W.zret (v := 0) hx hb hr (by decide) (fun tZ ht hW => ⟨⟨0, (tok, sta, en, num, tfi, tgl + 1, tst, (upd fwo k 2), ffs, fsc), rfl, ⟨by first | omega | (dsimp only; omega), by first | omega | (dsimp only; omega), by first | omega | (dsimp only; omega), by first | omega | (dsimp only; omega), by first | omega | (dsimp only; omega), Or.inl rfl, by first | omega | (dsimp only; omega), (fun h9 => absurd h9 (by decide))⟩, by rw [ht]; exact hP.sub [3, 4, 0, 1, 2] rfl, hD.sub [3, 4, 0, 1, 2] (by decide) rfl⟩, hS.F ht⟩) hS.2.2 dX7_isItem_177
      · skip
        have h58 : ¬ 5 < (tgl + 1) := fun q9 => h58 ((nI_ltI (a := 5) (b := (tgl + 1)) (by omega) (by omega)).mpr q9)
        refine lv_aload_n hx hb dX7_isItem_153 rfl (lv_at hl 1 rfl) ?_
        refine lv_aload_n hx hb dX7_isItem_154 rfl (lv_at hl 1 rfl) ?_
        refine va_get (D := D) (ci := 7) (v := .ref fs) (C := RX7) (T := TX7) (N := 12) hx hb hts iw7 hown hK hP 3 rfl rfl 7 (by decide) fw2 (fun _ h9 => h9) rfl dX7_isItem_155 ?_
        refine lv_iload_n hx hb dX7_isItem_158 rfl (lv_at hl 2 rfl) ?_
        refine lv_iconst (v := 0) hx hb dX7_isItem_159 (by decide) ?_
        rcases (show tfi = 0 ∨ ∃ tq, tfi = tq + 1 from by rcases tfi with _ | z; exact Or.inl rfl; exact Or.inr ⟨z, rfl⟩) with rfl | ⟨tq, rfl⟩
        · skip
          refine lv_aload_n hx hb dX7_isItem_160 rfl (lv_at hl 1 rfl) ?_
          refine va_get (D := D) (ci := 7) (v := .int (nI 0)) (C := RX7) (T := TX7) (N := 12) hx hb hts iw7 hown hK hP 3 rfl rfl 9 (by decide) fw3 (fun _ h9 => h9) rfl dX7_isItem_161 ?_
          refine lv_iconst (v := 1) hx hb dX7_isItem_164 (by decide) ?_
          refine lv_isub hx hb dX7_isItem_165 ?_
          rw [show (nI 0) - 1 = (-1) from by decide]
          have hs59 : kw_Split [(wo, .inl (y 0, 25, .inl (upd fwo k 2))), (fs, .inl (y 0, 25, .inl ffs)), (sc, .inl (y 0, 25, .inl fsc)), (tx, .inr (7, [.ref bys, .int (nI ln), .int tok, .int (nI sta), .int (nI en), .int num, .ref wo, .ref fs, .ref sc, .int (nI 0), .int (nI (tgl + 1)), .int (nI tst)])), (bys, .inl (y 1, 150, .inl fby))] [(tx, .inr (7, [.ref bys, .int (nI ln), .int tok, .int (nI sta), .int (nI en), .int num, .ref wo, .ref fs, .ref sc, .int (nI 0), .int (nI (tgl + 1)), .int (nI tst)])), (bys, .inl (y 1, 150, .inl fby)), (fs, .inl (y 0, 25, .inl ffs))] [(wo, .inl (y 0, 25, .inl (upd fwo k 2))), (sc, .inl (y 0, 25, .inl fsc))] [3, 4, 1] [0, 2] := ⟨rfl, rfl, rfl, rfl, rfl, by decide⟩
          refine kw_go_i hs59 hP hD hS hA (va_runV (As := [.ref fs, .int (nI k), .int 0, .int (-1)]) (rest := []) ⟨hx, hb, hml, hown, hts⟩ (gt_takesN l D y tx bys wo fs sc ln sta en tok num (nI 0) (nI (tgl + 1)) (nI tst) fby fs ffs k hln hen hk _) (cwV 4 hts gX7_isItem_X7_takes rfl rfl rfl (by decide +kernel) ⟨Nat.le_of_ble_eq_true rfl, Nat.le_of_ble_eq_true rfl⟩) (kw_PreV (ci := 7) (q0 := 3) hs59 hP hD hK hN rfl rfl) rfl rfl hl.1 rfl (lv_room (Nat.le_of_ble_eq_true rfl)) dX7_isItem_166 ⟨Nat.le_of_ble_eq_true rfl, Nat.le_of_ble_eq_true rfl⟩) (fun r60 u61 H locs hq hP hD hS => ?_)
          obtain ⟨v62, v63, v64, v65⟩ := u61
          try dsimp only at hq
          obtain ⟨h66, h67, h68, rfl⟩ := hq
          have hP : va_P D vwCl [(wo, .inl (y 0, 25, .inl (upd fwo k 2))), (sc, .inl (y 0, 25, .inl fsc)), (tx, .inr (7, [.ref bys, .int (nI ln), .int v62, .int (nI v63), .int (nI v64), .int v65, .ref wo, .ref fs, .ref sc, .int (nI 0), .int (nI (tgl + 1)), .int (nI tst)])), (bys, .inl (y 1, 150, .inl fby)), (fs, .inl (y 0, 25, .inl ffs))] H := hP
          have hD : va_D A [(wo, .inl (y 0, 25, .inl (upd fwo k 2))), (sc, .inl (y 0, 25, .inl fsc)), (tx, .inr (7, [.ref bys, .int (nI ln), .int v62, .int (nI v63), .int (nI v64), .int v65, .ref wo, .ref fs, .ref sc, .int (nI 0), .int (nI (tgl + 1)), .int (nI tst)])), (bys, .inl (y 1, 150, .inl fby)), (fs, .inl (y 0, 25, .inl ffs))] := hD
          refine lv_if_eq (tgt := 176) hx hb dX7_isItem_169 (by decide) (fun _ => ?_) (fun h9 => absurd h9 (by decide))
          refine lv_iconst (v := 0) hx hb dX7_isItem_176 (by decide) ?_
          exact W.zret (v := 0) hx hb hr (by decide) (fun tZ ht hW => ⟨⟨0, (v62, v63, v64, v65, 0, tgl + 1, tst, (upd fwo k 2), ffs, fsc), rfl, ⟨by first | omega | (dsimp only; omega), by first | omega | (dsimp only; omega), by first | omega | (dsimp only; omega), by first | omega | (dsimp only; omega), by first | omega | (dsimp only; omega), Or.inl rfl, by first | omega | (dsimp only; omega), (fun h9 => absurd h9 (by decide))⟩, by rw [ht]; exact hP.sub [2, 3, 0, 4, 1] rfl, hD.sub [2, 3, 0, 4, 1] (by decide) rfl⟩, hS.F ht⟩) hS.2.2 dX7_isItem_177
        · skip
          refine lv_aload_n hx hb dX7_isItem_160 rfl (lv_at hl 1 rfl) ?_
          refine va_get (D := D) (ci := 7) (v := .int (nI (tq + 1))) (C := RX7) (T := TX7) (N := 12) hx hb hts iw7 hown hK hP 3 rfl rfl 9 (by decide) fw3 (fun _ h9 => h9) rfl dX7_isItem_161 ?_
          refine lv_iconst (v := 1) hx hb dX7_isItem_164 (by decide) ?_
          refine lv_isub hx hb dX7_isItem_165 ?_
          rw [show (nI (tq + 1)) - 1 = nI (tq) from pk_sub (a := (tq + 1)) (b := 1) (by omega)]
          have hs69 : kw_Split [(wo, .inl (y 0, 25, .inl (upd fwo k 2))), (fs, .inl (y 0, 25, .inl ffs)), (sc, .inl (y 0, 25, .inl fsc)), (tx, .inr (7, [.ref bys, .int (nI ln), .int tok, .int (nI sta), .int (nI en), .int num, .ref wo, .ref fs, .ref sc, .int (nI (tq + 1)), .int (nI (tgl + 1)), .int (nI tst)])), (bys, .inl (y 1, 150, .inl fby))] [(tx, .inr (7, [.ref bys, .int (nI ln), .int tok, .int (nI sta), .int (nI en), .int num, .ref wo, .ref fs, .ref sc, .int (nI (tq + 1)), .int (nI (tgl + 1)), .int (nI tst)])), (bys, .inl (y 1, 150, .inl fby)), (fs, .inl (y 0, 25, .inl ffs))] [(wo, .inl (y 0, 25, .inl (upd fwo k 2))), (sc, .inl (y 0, 25, .inl fsc))] [3, 4, 1] [0, 2] := ⟨rfl, rfl, rfl, rfl, rfl, by decide⟩
          refine kw_go_i hs69 hP hD hS hA (va_runV (As := [.ref fs, .int (nI k), .int 0, .int (nI tq)]) (rest := []) ⟨hx, hb, hml, hown, hts⟩ (gt_takes l D y tx bys wo fs sc ln sta en tok num (nI (tq + 1)) (nI (tgl + 1)) (nI tst) fby fs ffs k 0 tq hln hen hk (by omega) (by omega) _) (cwV 4 hts gX7_isItem_X7_takes rfl rfl rfl (by decide +kernel) ⟨Nat.le_of_ble_eq_true rfl, Nat.le_of_ble_eq_true rfl⟩) (kw_PreV (ci := 7) (q0 := 3) hs69 hP hD hK hN rfl rfl) rfl rfl hl.1 rfl (lv_room (Nat.le_of_ble_eq_true rfl)) dX7_isItem_166 ⟨Nat.le_of_ble_eq_true rfl, Nat.le_of_ble_eq_true rfl⟩) (fun r70 u71 H locs hq hP hD hS => ?_)
          obtain ⟨v72, v73, v74, v75, v76⟩ := u71
          try dsimp only at hq
          obtain ⟨h77, h78, (rfl | rfl), h79, h80⟩ := hq
          · skip
            have hP : va_P D vwCl [(wo, .inl (y 0, 25, .inl (upd fwo k 2))), (sc, .inl (y 0, 25, .inl fsc)), (tx, .inr (7, [.ref bys, .int (nI ln), .int v72, .int (nI v73), .int (nI v74), .int v75, .ref wo, .ref fs, .ref sc, .int (nI (tq + 1)), .int (nI (tgl + 1)), .int (nI tst)])), (bys, .inl (y 1, 150, .inl fby)), (fs, .inl (y 0, 25, .inl v76))] H := hP
            have hD : va_D A [(wo, .inl (y 0, 25, .inl (upd fwo k 2))), (sc, .inl (y 0, 25, .inl fsc)), (tx, .inr (7, [.ref bys, .int (nI ln), .int v72, .int (nI v73), .int (nI v74), .int v75, .ref wo, .ref fs, .ref sc, .int (nI (tq + 1)), .int (nI (tgl + 1)), .int (nI tst)])), (bys, .inl (y 1, 150, .inl fby)), (fs, .inl (y 0, 25, .inl v76))] := hD
            refine lv_if_eq (tgt := 176) hx hb dX7_isItem_169 (by decide) (fun _ => ?_) (fun h9 => absurd h9 (by decide))
            refine lv_iconst (v := 0) hx hb dX7_isItem_176 (by decide) ?_
            exact W.zret (v := 0) hx hb hr (by decide) (fun tZ ht hW => ⟨⟨0, (v72, v73, v74, v75, tq + 1, tgl + 1, tst, (upd fwo k 2), v76, fsc), rfl, ⟨by first | omega | (dsimp only; omega), by first | omega | (dsimp only; omega), by first | omega | (dsimp only; omega), by first | omega | (dsimp only; omega), by first | omega | (dsimp only; omega), Or.inl rfl, by first | omega | (dsimp only; omega), (fun h9 => absurd h9 (by decide))⟩, by rw [ht]; exact hP.sub [2, 3, 0, 4, 1] rfl, hD.sub [2, 3, 0, 4, 1] (by decide) rfl⟩, hS.F ht⟩) hS.2.2 dX7_isItem_177
          · skip
            have hP : va_P D vwCl [(wo, .inl (y 0, 25, .inl (upd fwo k 2))), (sc, .inl (y 0, 25, .inl fsc)), (tx, .inr (7, [.ref bys, .int (nI ln), .int v72, .int (nI v73), .int (nI v74), .int v75, .ref wo, .ref fs, .ref sc, .int (nI (tq + 1)), .int (nI (tgl + 1)), .int (nI tst)])), (bys, .inl (y 1, 150, .inl fby)), (fs, .inl (y 0, 25, .inl v76))] H := hP
            have hD : va_D A [(wo, .inl (y 0, 25, .inl (upd fwo k 2))), (sc, .inl (y 0, 25, .inl fsc)), (tx, .inr (7, [.ref bys, .int (nI ln), .int v72, .int (nI v73), .int (nI v74), .int v75, .ref wo, .ref fs, .ref sc, .int (nI (tq + 1)), .int (nI (tgl + 1)), .int (nI tst)])), (bys, .inl (y 1, 150, .inl fby)), (fs, .inl (y 0, 25, .inl v76))] := hD
            have h80 : kz_tk ffs k v76 v75 0 tq := h80 rfl
            obtain ⟨zk81, h82, h83, rfl, rfl⟩ := h80
            have hP : va_P D vwCl [(wo, .inl (y 0, 25, .inl (upd fwo k 2))), (sc, .inl (y 0, 25, .inl fsc)), (tx, .inr (7, [.ref bys, .int (nI ln), .int v72, .int (nI v73), .int (nI v74), .int (nI zk81), .ref wo, .ref fs, .ref sc, .int (nI (tq + 1)), .int (nI (tgl + 1)), .int (nI tst)])), (bys, .inl (y 1, 150, .inl fby)), (fs, .inl (y 0, 25, .inl (upd ffs k (nI zk81))))] H := hP
            have hD : va_D A [(wo, .inl (y 0, 25, .inl (upd fwo k 2))), (sc, .inl (y 0, 25, .inl fsc)), (tx, .inr (7, [.ref bys, .int (nI ln), .int v72, .int (nI v73), .int (nI v74), .int (nI zk81), .ref wo, .ref fs, .ref sc, .int (nI (tq + 1)), .int (nI (tgl + 1)), .int (nI tst)])), (bys, .inl (y 1, 150, .inl fby)), (fs, .inl (y 0, 25, .inl (upd ffs k (nI zk81))))] := hD
            refine lv_if_eq (tgt := 176) hx hb dX7_isItem_169 (by decide) (fun h9 => absurd h9 (by decide)) (fun _ => ?_)
            refine lv_iconst (v := 1) hx hb dX7_isItem_172 (by decide) ?_
            refine lv_goto (tgt := 177) hx hb dX7_isItem_173 (by decide) ?_
            exact W.zret (v := 1) hx hb hr (by decide) (fun tZ ht hW => ⟨⟨1, (v72, v73, v74, (nI zk81), tq + 1, tgl + 1, tst, (upd fwo k 2), (upd ffs k (nI zk81)), fsc), rfl, ⟨by first | omega | (dsimp only; omega), by first | omega | (dsimp only; omega), by first | omega | (dsimp only; omega), by first | omega | (dsimp only; omega), by first | omega | (dsimp only; omega), Or.inr rfl, by first | omega | (dsimp only; omega), (fun _ => kz_ok_2 hok (by omega) (vp_in_nI (by omega) (by decide)))⟩, by rw [ht]; exact hP.sub [2, 3, 0, 4, 1] rfl, hD.sub [2, 3, 0, 4, 1] (by decide) rfl⟩, hS.F ht⟩) hS.2.2 dX7_isItem_177
    · skip
      have h56 : k = 0 := (nI_eq (a := k) (b := 0) (by omega) (by omega)).mp h56
      refine lv_iconst (v := 1) hx hb dX7_isItem_23 (by decide) ?_
      refine lv_goto (tgt := 28) hx hb dX7_isItem_24 (by decide) ?_
      refine lv_icmp_eq (tgt := 33) hx hb dX7_isItem_28 (by decide) (fun h9 => absurd h9 (by decide)) (fun _ => ?_)
      refine lv_iconst (v := 0) hx hb dX7_isItem_31 (by decide) ?_
      exact W.zret (v := 0) hx hb hr (by decide) (fun tZ ht hW => ⟨⟨0, (tok, sta, en, num, tfi, tgl, tst, fwo, ffs, fsc), rfl, ⟨by first | omega | (dsimp only; omega), by first | omega | (dsimp only; omega), by first | omega | (dsimp only; omega), by first | omega | (dsimp only; omega), by first | omega | (dsimp only; omega), Or.inl rfl, by first | omega | (dsimp only; omega), (fun h9 => absurd h9 (by decide))⟩, by rw [ht]; exact hP.sub [3, 4, 0, 1, 2] rfl, hD.sub [3, 4, 0, 1, 2] (by decide) rfl⟩, hS.F ht⟩) hS.2.2 dX7_isItem_32
  · skip
    have hP : va_P D vwCl [(wo, .inl (y 0, 25, .inl fwo)), (fs, .inl (y 0, 25, .inl ffs)), (sc, .inl (y 0, 25, .inl fsc)), (tx, .inr (7, [.ref bys, .int (nI ln), .int tok, .int (nI sta), .int (nI en), .int num, .ref wo, .ref fs, .ref sc, .int (nI tfi), .int (nI tgl), .int (nI tst)])), (bys, .inl (y 1, 150, .inl fby))] H := hP
    have hD : va_D A [(wo, .inl (y 0, 25, .inl fwo)), (fs, .inl (y 0, 25, .inl ffs)), (sc, .inl (y 0, 25, .inl fsc)), (tx, .inr (7, [.ref bys, .int (nI ln), .int tok, .int (nI sta), .int (nI en), .int num, .ref wo, .ref fs, .ref sc, .int (nI tfi), .int (nI tgl), .int (nI tst)])), (bys, .inl (y 1, 150, .inl fby))] := hD
    refine lv_istore_n (lv' := [(2, .int 3), (0, .ref tx), (1, .int (nI k))]) hx hb dX7_isItem_4 rfl hl (by decide) rfl (fun ls hl => ?_)
    refine lv_iload_n hx hb dX7_isItem_5 rfl (lv_at hl 0 rfl) ?_
    refine lv_iconst (v := (-1)) hx hb dX7_isItem_6 (by decide) ?_
    refine lv_icmp_eq (tgt := 31) hx hb dX7_isItem_7 (by decide) (fun h9 => absurd h9 (by decide)) (fun _ => ?_)
    refine lv_iload_n hx hb dX7_isItem_10 rfl (lv_at hl 0 rfl) ?_
    refine lv_if_ne (tgt := 18) hx hb dX7_isItem_11 (by decide) (fun _ => ?_) (fun h9 => absurd h9 (by decide))
    refine lv_iconst (v := 0) hx hb dX7_isItem_18 (by decide) ?_
    refine lv_iload_n hx hb dX7_isItem_19 rfl (lv_at hl 2 rfl) ?_
    refine lv_if_ne (tgt := 27) hx hb dX7_isItem_20 (by decide) (fun h84 => ?_) (fun h85 => ?_)
    · skip
      have h84 : ¬ k = 0 := fun q9 => h84 ((nI_eq (a := k) (b := 0) (by omega) (by omega)).mpr q9)
      refine lv_iconst (v := 0) hx hb dX7_isItem_27 (by decide) ?_
      refine lv_icmp_eq (tgt := 33) hx hb dX7_isItem_28 (by decide) (fun _ => ?_) (fun h9 => absurd h9 (by decide))
      refine lv_aload_n hx hb dX7_isItem_33 rfl (lv_at hl 1 rfl) ?_
      refine va_get (D := D) (ci := 7) (v := .ref wo) (C := RX7) (T := TX7) (N := 12) hx hb hts iw7 hown hK hP 3 rfl rfl 6 (by decide) fw1 (fun _ h9 => h9) rfl dX7_isItem_34 ?_
      refine lv_iload_n hx hb dX7_isItem_37 rfl (lv_at hl 2 rfl) ?_
      refine lv_iload_n hx hb dX7_isItem_38 rfl (lv_at hl 0 rfl) ?_
      refine va_iast hx hb hK hP hD hS 0 0 rfl rfl (vp_in_nI (by omega) (by decide)) dX7_isItem_39 (fun H locs hP hD hS => ?_)
      rw [nI_clamp (n := k) (by omega)] at hP hD
      have hP : va_P D vwCl [(wo, .inl (y 0, 25, .inl (upd fwo k 3))), (fs, .inl (y 0, 25, .inl ffs)), (sc, .inl (y 0, 25, .inl fsc)), (tx, .inr (7, [.ref bys, .int (nI ln), .int tok, .int (nI sta), .int (nI en), .int num, .ref wo, .ref fs, .ref sc, .int (nI tfi), .int (nI tgl), .int (nI tst)])), (bys, .inl (y 1, 150, .inl fby))] H := hP
      have hD : va_D A [(wo, .inl (y 0, 25, .inl (upd fwo k 3))), (fs, .inl (y 0, 25, .inl ffs)), (sc, .inl (y 0, 25, .inl fsc)), (tx, .inr (7, [.ref bys, .int (nI ln), .int tok, .int (nI sta), .int (nI en), .int num, .ref wo, .ref fs, .ref sc, .int (nI tfi), .int (nI tgl), .int (nI tst)])), (bys, .inl (y 1, 150, .inl fby))] := hD
      refine lv_iload_n hx hb dX7_isItem_40 rfl (lv_at hl 0 rfl) ?_
      refine lv_tableOut (tgt := 178) hx hb dX7_isItem_41 (by decide) (by decide) ?_
      refine lv_aload_n hx hb dX7_isItem_178 rfl (lv_at hl 1 rfl) ?_
      refine lv_aload_n hx hb dX7_isItem_179 rfl (lv_at hl 1 rfl) ?_
      refine va_get (D := D) (ci := 7) (v := .ref fs) (C := RX7) (T := TX7) (N := 12) hx hb hts iw7 hown hK hP 3 rfl rfl 7 (by decide) fw2 (fun _ h9 => h9) rfl dX7_isItem_180 ?_
      refine lv_iload_n hx hb dX7_isItem_183 rfl (lv_at hl 2 rfl) ?_
      refine lv_iconst (v := 1) hx hb dX7_isItem_184 (by decide) ?_
      refine lv_aload_n hx hb dX7_isItem_185 rfl (lv_at hl 1 rfl) ?_
      refine va_get (D := D) (ci := 7) (v := .int (nI tst)) (C := RX7) (T := TX7) (N := 12) hx hb hts iw7 hown hK hP 3 rfl rfl 11 (by decide) fw6 (fun _ h9 => h9) rfl dX7_isItem_186 ?_
      have hs86 : kw_Split [(wo, .inl (y 0, 25, .inl (upd fwo k 3))), (fs, .inl (y 0, 25, .inl ffs)), (sc, .inl (y 0, 25, .inl fsc)), (tx, .inr (7, [.ref bys, .int (nI ln), .int tok, .int (nI sta), .int (nI en), .int num, .ref wo, .ref fs, .ref sc, .int (nI tfi), .int (nI tgl), .int (nI tst)])), (bys, .inl (y 1, 150, .inl fby))] [(tx, .inr (7, [.ref bys, .int (nI ln), .int tok, .int (nI sta), .int (nI en), .int num, .ref wo, .ref fs, .ref sc, .int (nI tfi), .int (nI tgl), .int (nI tst)])), (bys, .inl (y 1, 150, .inl fby)), (fs, .inl (y 0, 25, .inl ffs))] [(wo, .inl (y 0, 25, .inl (upd fwo k 3))), (sc, .inl (y 0, 25, .inl fsc))] [3, 4, 1] [0, 2] := ⟨rfl, rfl, rfl, rfl, rfl, by decide⟩
      refine kw_go_i hs86 hP hD hS hA (va_runV (As := [.ref fs, .int (nI k), .int 1, .int (nI tst)]) (rest := []) ⟨hx, hb, hml, hown, hts⟩ (gt_takes l D y tx bys wo fs sc ln sta en tok num (nI tfi) (nI tgl) (nI tst) fby fs ffs k 1 tst hln hen hk (by omega) (by omega) _) (cwV 4 hts gX7_isItem_X7_takes rfl rfl rfl (by decide +kernel) ⟨Nat.le_of_ble_eq_true rfl, Nat.le_of_ble_eq_true rfl⟩) (kw_PreV (ci := 7) (q0 := 3) hs86 hP hD hK hN rfl rfl) rfl rfl hl.1 rfl (lv_room (Nat.le_of_ble_eq_true rfl)) dX7_isItem_189 ⟨Nat.le_of_ble_eq_true rfl, Nat.le_of_ble_eq_true rfl⟩) (fun r87 u88 H locs hq hP hD hS => ?_)
      obtain ⟨v89, v90, v91, v92, v93⟩ := u88
      try dsimp only at hq
      obtain ⟨h94, h95, (rfl | rfl), h96, h97⟩ := hq
      · skip
        have hP : va_P D vwCl [(wo, .inl (y 0, 25, .inl (upd fwo k 3))), (sc, .inl (y 0, 25, .inl fsc)), (tx, .inr (7, [.ref bys, .int (nI ln), .int v89, .int (nI v90), .int (nI v91), .int v92, .ref wo, .ref fs, .ref sc, .int (nI tfi), .int (nI tgl), .int (nI tst)])), (bys, .inl (y 1, 150, .inl fby)), (fs, .inl (y 0, 25, .inl v93))] H := hP
        have hD : va_D A [(wo, .inl (y 0, 25, .inl (upd fwo k 3))), (sc, .inl (y 0, 25, .inl fsc)), (tx, .inr (7, [.ref bys, .int (nI ln), .int v89, .int (nI v90), .int (nI v91), .int v92, .ref wo, .ref fs, .ref sc, .int (nI tfi), .int (nI tgl), .int (nI tst)])), (bys, .inl (y 1, 150, .inl fby)), (fs, .inl (y 0, 25, .inl v93))] := hD
        refine lv_istore_n (lv' := [(3, .int 0), (2, .int 3), (0, .ref tx), (1, .int (nI k))]) hx hb dX7_isItem_192 rfl hl (by decide) rfl (fun ls hl => ?_)
        refine lv_iload_n hx hb dX7_isItem_193 rfl (lv_at hl 0 rfl) ?_
        refine lv_if_eq (tgt := 210) hx hb dX7_isItem_194 (by decide) (fun _ => ?_) (fun h9 => absurd h9 (by decide))
        refine lv_iload_n hx hb dX7_isItem_210 rfl (lv_at hl 0 rfl) ?_
        exact W.zret (v := 0) hx hb hr (by decide) (fun tZ ht hW => ⟨⟨0, (v89, v90, v91, v92, tfi, tgl, tst, (upd fwo k 3), v93, fsc), rfl, ⟨by first | omega | (dsimp only; omega), by first | omega | (dsimp only; omega), by first | omega | (dsimp only; omega), by first | omega | (dsimp only; omega), by first | omega | (dsimp only; omega), Or.inl rfl, by first | omega | (dsimp only; omega), (fun h9 => absurd h9 (by decide))⟩, by rw [ht]; exact hP.sub [2, 3, 0, 4, 1] rfl, hD.sub [2, 3, 0, 4, 1] (by decide) rfl⟩, hS.F ht⟩) hS.2.2 dX7_isItem_211
      · skip
        have hP : va_P D vwCl [(wo, .inl (y 0, 25, .inl (upd fwo k 3))), (sc, .inl (y 0, 25, .inl fsc)), (tx, .inr (7, [.ref bys, .int (nI ln), .int v89, .int (nI v90), .int (nI v91), .int v92, .ref wo, .ref fs, .ref sc, .int (nI tfi), .int (nI tgl), .int (nI tst)])), (bys, .inl (y 1, 150, .inl fby)), (fs, .inl (y 0, 25, .inl v93))] H := hP
        have hD : va_D A [(wo, .inl (y 0, 25, .inl (upd fwo k 3))), (sc, .inl (y 0, 25, .inl fsc)), (tx, .inr (7, [.ref bys, .int (nI ln), .int v89, .int (nI v90), .int (nI v91), .int v92, .ref wo, .ref fs, .ref sc, .int (nI tfi), .int (nI tgl), .int (nI tst)])), (bys, .inl (y 1, 150, .inl fby)), (fs, .inl (y 0, 25, .inl v93))] := hD
        have h97 : kz_tk ffs k v93 v92 1 tst := h97 rfl
        obtain ⟨zk98, h99, h100, rfl, rfl⟩ := h97
        have hP : va_P D vwCl [(wo, .inl (y 0, 25, .inl (upd fwo k 3))), (sc, .inl (y 0, 25, .inl fsc)), (tx, .inr (7, [.ref bys, .int (nI ln), .int v89, .int (nI v90), .int (nI v91), .int (nI zk98), .ref wo, .ref fs, .ref sc, .int (nI tfi), .int (nI tgl), .int (nI tst)])), (bys, .inl (y 1, 150, .inl fby)), (fs, .inl (y 0, 25, .inl (upd ffs k (nI zk98))))] H := hP
        have hD : va_D A [(wo, .inl (y 0, 25, .inl (upd fwo k 3))), (sc, .inl (y 0, 25, .inl fsc)), (tx, .inr (7, [.ref bys, .int (nI ln), .int v89, .int (nI v90), .int (nI v91), .int (nI zk98), .ref wo, .ref fs, .ref sc, .int (nI tfi), .int (nI tgl), .int (nI tst)])), (bys, .inl (y 1, 150, .inl fby)), (fs, .inl (y 0, 25, .inl (upd ffs k (nI zk98))))] := hD
        refine lv_istore_n (lv' := [(3, .int 1), (2, .int 3), (0, .ref tx), (1, .int (nI k))]) hx hb dX7_isItem_192 rfl hl (by decide) rfl (fun ls hl => ?_)
        refine lv_iload_n hx hb dX7_isItem_193 rfl (lv_at hl 0 rfl) ?_
        refine lv_if_eq (tgt := 210) hx hb dX7_isItem_194 (by decide) (fun h9 => absurd h9 (by decide)) (fun _ => ?_)
        refine lv_aload_n hx hb dX7_isItem_197 rfl (lv_at hl 2 rfl) ?_
        refine lv_dup hx hb dX7_isItem_198 rfl ?_
        refine va_get (D := D) (ci := 7) (v := .int (nI tst)) (C := RX7) (T := TX7) (N := 12) hx hb hts iw7 hown hK hP 2 rfl rfl 11 (by decide) fw6 (fun _ h9 => h9) rfl dX7_isItem_199 ?_
        refine lv_aload_n hx hb dX7_isItem_202 rfl (lv_at hl 2 rfl) ?_
        refine va_get (D := D) (ci := 7) (v := .int (nI zk98)) (C := RX7) (T := TX7) (N := 12) hx hb hts iw7 hown hK hP 2 rfl rfl 5 (by decide) fw7 (fun _ h9 => h9) rfl dX7_isItem_203 ?_
        refine lv_isub hx hb dX7_isItem_206 ?_
        rw [show (nI tst) - (nI zk98) = nI (tst - zk98) from pk_sub (a := tst) (b := zk98) (by omega)]
        refine va_put (D := D) (ci := 7) (v := .int (nI (tst - zk98))) (ty := .int) (C := RX7) (T := TX7) (N := 12) hx hb hts iw7 tyX7 tyX7_ok nmX7 hown hK hP hD hS 2 rfl rfl 11 (by decide) fw6 (fun _ h9 => h9) rfl (by decide +kernel) rfl rfl (Nat.le_of_ble_eq_true rfl) dX7_isItem_207 (fun H locs hP hD hS => ?_)
        have hP : va_P D vwCl [(wo, .inl (y 0, 25, .inl (upd fwo k 3))), (sc, .inl (y 0, 25, .inl fsc)), (tx, .inr (7, [.ref bys, .int (nI ln), .int v89, .int (nI v90), .int (nI v91), .int (nI zk98), .ref wo, .ref fs, .ref sc, .int (nI tfi), .int (nI tgl), .int (nI (tst - zk98))])), (bys, .inl (y 1, 150, .inl fby)), (fs, .inl (y 0, 25, .inl (upd ffs k (nI zk98))))] H := hP
        have hD : va_D A [(wo, .inl (y 0, 25, .inl (upd fwo k 3))), (sc, .inl (y 0, 25, .inl fsc)), (tx, .inr (7, [.ref bys, .int (nI ln), .int v89, .int (nI v90), .int (nI v91), .int (nI zk98), .ref wo, .ref fs, .ref sc, .int (nI tfi), .int (nI tgl), .int (nI (tst - zk98))])), (bys, .inl (y 1, 150, .inl fby)), (fs, .inl (y 0, 25, .inl (upd ffs k (nI zk98))))] := hD
        refine lv_iload_n hx hb dX7_isItem_210 rfl (lv_at hl 0 rfl) ?_
        exact W.zret (v := 1) hx hb hr (by decide) (fun tZ ht hW => ⟨⟨1, (v89, v90, v91, (nI zk98), tfi, tgl, tst - zk98, (upd fwo k 3), (upd ffs k (nI zk98)), fsc), rfl, ⟨by first | omega | (dsimp only; omega), by first | omega | (dsimp only; omega), by first | omega | (dsimp only; omega), by first | omega | (dsimp only; omega), by first | omega | (dsimp only; omega), Or.inr rfl, by first | omega | (dsimp only; omega), (fun _ => kz_ok_n hok (by decide) (by decide))⟩, by rw [ht]; exact hP.sub [2, 3, 0, 4, 1] rfl, hD.sub [2, 3, 0, 4, 1] (by decide) rfl⟩, hS.F ht⟩) hS.2.2 dX7_isItem_211
    · skip
      have h85 : k = 0 := (nI_eq (a := k) (b := 0) (by omega) (by omega)).mp h85
      refine lv_iconst (v := 1) hx hb dX7_isItem_23 (by decide) ?_
      refine lv_goto (tgt := 28) hx hb dX7_isItem_24 (by decide) ?_
      refine lv_icmp_eq (tgt := 33) hx hb dX7_isItem_28 (by decide) (fun h9 => absurd h9 (by decide)) (fun _ => ?_)
      refine lv_iconst (v := 0) hx hb dX7_isItem_31 (by decide) ?_
      exact W.zret (v := 0) hx hb hr (by decide) (fun tZ ht hW => ⟨⟨0, (tok, sta, en, num, tfi, tgl, tst, fwo, ffs, fsc), rfl, ⟨by first | omega | (dsimp only; omega), by first | omega | (dsimp only; omega), by first | omega | (dsimp only; omega), by first | omega | (dsimp only; omega), by first | omega | (dsimp only; omega), Or.inl rfl, by first | omega | (dsimp only; omega), (fun h9 => absurd h9 (by decide))⟩, by rw [ht]; exact hP.sub [3, 4, 0, 1, 2] rfl, hD.sub [3, 4, 0, 1, 2] (by decide) rfl⟩, hS.F ht⟩) hS.2.2 dX7_isItem_32
