set_option maxHeartbeats 4000000 in
set_option maxRecDepth 100000 in
theorem gs_isWord3 (l : Launch) (D : va_G) (y : Nat → ClassId) (aK : Nat → Nat) (aV : Nat → Nat) (tx : Nat) (bys : Nat) (wo : Nat) (fs : Nat) (sc : Nat) (ln : Nat) (sta : Nat) (en : Nat) (tok : Int32) (num : Int32) (tfi : Int32) (tgl : Int32) (tst : Int32) (fby : Nat → Int32) (hln : ln ≤ 150) (hen : en ≤ ln) (hse : sta ≤ en) : kz_Mi l yX7_isWord wsX7_isWord ({ frames := 5, cells := 0, slots := 0, locals := 145 }) D y [.ref tx, .ref (aK 3)] [(tx, .inr (7, [.ref bys, .int (nI ln), .int tok, .int (nI sta), .int (nI en), .int num, .ref wo, .ref fs, .ref sc, .int tfi, .int tgl, .int tst])), (bys, .inl (y 1, 150, .inl fby))] aK aV (fun (r : Int32) (u : Unit) => (ks_e3 fby sta en = true ∧ r = 1) ∨ (¬ ks_e3 fby sta en = true ∧ r = 0)) (fun _ => [(tx, .inr (7, [.ref bys, .int (nI ln), .int tok, .int (nI sta), .int (nI en), .int num, .ref wo, .ref fs, .ref sc, .int tfi, .int tgl, .int tst])), (bys, .inl (y 1, 150, .inl fby))]) 0 0 := by
  refine kz_Mi.of (cc := cX7_isWord) (maxL := 3) (ret := (some .boolean)) (by decide) rfl ?_
  intro pZ eZ s mZ beZ meZ cZ A hE
  obtain ⟨hx, hb, hr, hml, hts, hown, hlocks, hin, hA, hP, hD, hK, hN, hZ⟩ := hE
  have hS : va_S A s.heap s.heap [] := va_S.rf
  have hl := lv_entry ([.ref tx, .ref (aK 3)]) (n := 3) (Nat.le_of_ble_eq_true rfl)
  rw [lg_entry_eq]
  generalize (lg_sl ([.ref tx, .ref (aK 3)]) ++ List.replicate (3 - (lg_sl ([.ref tx, .ref (aK 3)])).length) Slot.unset).toArray = ls at hl ⊢
  have hl : lv_has ls 3 [(0, .ref tx), (1, .ref (aK 3))] := hl
  have fw1 := hts (.fieldLink RX7 29 "GleanDusk$Text" "end" "I") (List.mem_of_getElem? (i := 1) rfl)
  have fw2 := hts (.fieldLink RX7 51 "GleanDusk$Text" "start" "I") (List.mem_of_getElem? (i := 2) rfl)
  have fw3 := hts (.fieldLink RX7 9 "GleanDusk$Text" "bytes" "[B") (List.mem_of_getElem? (i := 3) rfl)
  have iw7 : ∀ w ∈ wsX70, w ∈ wsX7_isWord := fun _ h => List.mem_cons_of_mem _ (List.mem_append_right _ h)
  refine lv_aload_n hx hb dX7_isWord_0 rfl (lv_at hl 0 rfl) ?_
  refine va_get (D := D) (ci := 7) (v := .int (nI en)) (C := RX7) (T := TX7) (N := 12) hx hb hts iw7 hown hK hP 0 rfl rfl 4 (by decide) fw1 (fun _ h9 => h9) rfl dX7_isWord_1 ?_
  refine lv_aload_n hx hb dX7_isWord_4 rfl (lv_at hl 0 rfl) ?_
  refine va_get (D := D) (ci := 7) (v := .int (nI sta)) (C := RX7) (T := TX7) (N := 12) hx hb hts iw7 hown hK hP 0 rfl rfl 3 (by decide) fw2 (fun _ h9 => h9) rfl dX7_isWord_5 ?_
  refine lv_isub hx hb dX7_isWord_8 ?_
  rw [show (nI en) - (nI sta) = nI (en - sta) from pk_sub (a := en) (b := sta) (by omega)]
  refine lv_aload_n hx hb dX7_isWord_9 rfl (lv_at hl 1 rfl) ?_
  have hs1 : kw_Split [(tx, .inr (7, [.ref bys, .int (nI ln), .int tok, .int (nI sta), .int (nI en), .int num, .ref wo, .ref fs, .ref sc, .int tfi, .int tgl, .int tst])), (bys, .inl (y 1, 150, .inl fby))] [] [(tx, .inr (7, [.ref bys, .int (nI ln), .int tok, .int (nI sta), .int (nI en), .int num, .ref wo, .ref fs, .ref sc, .int tfi, .int tgl, .int tst])), (bys, .inl (y 1, 150, .inl fby))] [] [0, 1] := ⟨rfl, rfl, rfl, rfl, rfl, by decide⟩
  refine kw_go_i hs1 hP hD hS hA (va_runV (As := []) (rest := [.int (nI (en - sta))]) ⟨hx, hb, hml, hown, hts⟩ (gj_length3 l D y aK aV  _) (cwV 0 hts gX7_isWord_J0_length_8abf5 rfl rfl rfl (by decide +kernel) ⟨Nat.le_of_ble_eq_true rfl, Nat.le_of_ble_eq_true rfl⟩) (kz_PreK (i := 3) hs1 hP hD hK hN (by decide) hZ hS hA) rfl rfl hl.1 rfl (lv_room (Nat.le_of_ble_eq_true rfl)) dX7_isWord_10 ⟨Nat.le_of_ble_eq_true rfl, Nat.le_of_ble_eq_true rfl⟩) (fun r2 u3 H locs hq hP hD hS => ?_)
  obtain rfl := hq
  have hP : va_P D vwCl [(tx, .inr (7, [.ref bys, .int (nI ln), .int tok, .int (nI sta), .int (nI en), .int num, .ref wo, .ref fs, .ref sc, .int tfi, .int tgl, .int tst])), (bys, .inl (y 1, 150, .inl fby))] H := hP
  have hD : va_D A [(tx, .inr (7, [.ref bys, .int (nI ln), .int tok, .int (nI sta), .int (nI en), .int num, .ref wo, .ref fs, .ref sc, .int tfi, .int tgl, .int tst])), (bys, .inl (y 1, 150, .inl fby))] := hD
  refine lv_icmp_eq (tgt := 18) hx hb dX7_isWord_13 (by decide) (fun h4 => ?_) (fun h5 => ?_)
  · skip
    have h4 : (en - sta) = 5 := (nI_eq (a := (en - sta)) (b := 5) (by omega) (by omega)).mp h4
    refine lv_iconst (v := 0) hx hb dX7_isWord_18 (by decide) ?_
    refine lv_istore_n (lv' := [(2, .int 0), (0, .ref tx), (1, .ref (aK 3))]) hx hb dX7_isWord_19 rfl hl (by decide) rfl (fun ls hl => ?_)
    refine lv_iload_n hx hb dX7_isWord_20 rfl (lv_at hl 0 rfl) ?_
    refine lv_aload_n hx hb dX7_isWord_21 rfl (lv_at hl 2 rfl) ?_
    have hs6 : kw_Split [(tx, .inr (7, [.ref bys, .int (nI ln), .int tok, .int (nI sta), .int (nI en), .int num, .ref wo, .ref fs, .ref sc, .int tfi, .int tgl, .int tst])), (bys, .inl (y 1, 150, .inl fby))] [] [(tx, .inr (7, [.ref bys, .int (nI ln), .int tok, .int (nI sta), .int (nI en), .int num, .ref wo, .ref fs, .ref sc, .int tfi, .int tgl, .int tst])), (bys, .inl (y 1, 150, .inl fby))] [] [0, 1] := ⟨rfl, rfl, rfl, rfl, rfl, by decide⟩
    refine kw_go_i hs6 hP hD hS hA (va_runV (As := []) (rest := [.int 0]) ⟨hx, hb, hml, hown, hts⟩ (gj_length3 l D y aK aV  _) (cwV 0 hts gX7_isWord_J0_length_8abf5 rfl rfl rfl (by decide +kernel) ⟨Nat.le_of_ble_eq_true rfl, Nat.le_of_ble_eq_true rfl⟩) (kz_PreK (i := 3) hs6 hP hD hK hN (by decide) hZ hS hA) rfl rfl hl.1 rfl (lv_room (Nat.le_of_ble_eq_true rfl)) dX7_isWord_22 ⟨Nat.le_of_ble_eq_true rfl, Nat.le_of_ble_eq_true rfl⟩) (fun r7 u8 H locs hq hP hD hS => ?_)
    obtain rfl := hq
    have hP : va_P D vwCl [(tx, .inr (7, [.ref bys, .int (nI ln), .int tok, .int (nI sta), .int (nI en), .int num, .ref wo, .ref fs, .ref sc, .int tfi, .int tgl, .int tst])), (bys, .inl (y 1, 150, .inl fby))] H := hP
    have hD : va_D A [(tx, .inr (7, [.ref bys, .int (nI ln), .int tok, .int (nI sta), .int (nI en), .int num, .ref wo, .ref fs, .ref sc, .int tfi, .int tgl, .int tst])), (bys, .inl (y 1, 150, .inl fby))] := hD
    refine lv_icmp_ge (tgt := 55) hx hb dX7_isWord_25 (by decide) (fun h9 => absurd h9 (by decide)) (fun _ => ?_)
    refine lv_aload_n hx hb dX7_isWord_28 rfl (lv_at hl 1 rfl) ?_
    refine va_get (D := D) (ci := 7) (v := .ref bys) (C := RX7) (T := TX7) (N := 12) hx hb hts iw7 hown hK hP 0 rfl rfl 0 (by decide) fw3 (fun _ h9 => h9) rfl dX7_isWord_29 ?_
    refine lv_aload_n hx hb dX7_isWord_32 rfl (lv_at hl 1 rfl) ?_
    refine va_get (D := D) (ci := 7) (v := .int (nI sta)) (C := RX7) (T := TX7) (N := 12) hx hb hts iw7 hown hK hP 0 rfl rfl 3 (by decide) fw2 (fun _ h9 => h9) rfl dX7_isWord_33 ?_
    refine lv_iload_n hx hb dX7_isWord_36 rfl (lv_at hl 0 rfl) ?_
    refine lv_iadd hx hb dX7_isWord_37 ?_
    rw [show (nI sta) + 0 = nI (sta) from nI_add sta 0]
    refine va_bald hx hb hK hP 1 1 rfl rfl (vp_in_nI (by omega) (by decide)) dX7_isWord_38 ?_
    rw [nI_clamp (n := sta) (by omega)]
    refine lv_aload_n hx hb dX7_isWord_39 rfl (lv_at hl 2 rfl) ?_
    refine lv_iload_n hx hb dX7_isWord_40 rfl (lv_at hl 0 rfl) ?_
    have hs9 : kw_Split [(tx, .inr (7, [.ref bys, .int (nI ln), .int tok, .int (nI sta), .int (nI en), .int num, .ref wo, .ref fs, .ref sc, .int tfi, .int tgl, .int tst])), (bys, .inl (y 1, 150, .inl fby))] [] [(tx, .inr (7, [.ref bys, .int (nI ln), .int tok, .int (nI sta), .int (nI en), .int num, .ref wo, .ref fs, .ref sc, .int tfi, .int tgl, .int tst])), (bys, .inl (y 1, 150, .inl fby))] [] [0, 1] := ⟨rfl, rfl, rfl, rfl, rfl, by decide⟩
    refine kw_go_i hs9 hP hD hS hA (va_runV (As := [.int 0]) (rest := [.int (fby sta)]) ⟨hx, hb, hml, hown, hts⟩ (gs_charAt3 l D y aK aV 0 (by omega) _) (cwV 1 hts gX7_isWord_J0_charAt_5068e rfl rfl rfl (by decide +kernel) ⟨Nat.le_of_ble_eq_true rfl, Nat.le_of_ble_eq_true rfl⟩) (kz_PreK (i := 3) hs9 hP hD hK hN (by decide) hZ hS hA) rfl rfl hl.1 rfl (lv_room (Nat.le_of_ble_eq_true rfl)) dX7_isWord_41 ⟨Nat.le_of_ble_eq_true rfl, Nat.le_of_ble_eq_true rfl⟩) (fun r10 u11 H locs hq hP hD hS => ?_)
    obtain rfl := hq
    rw [show kz_w 3 0 = 103 from rfl]
    have hP : va_P D vwCl [(tx, .inr (7, [.ref bys, .int (nI ln), .int tok, .int (nI sta), .int (nI en), .int num, .ref wo, .ref fs, .ref sc, .int tfi, .int tgl, .int tst])), (bys, .inl (y 1, 150, .inl fby))] H := hP
    have hD : va_D A [(tx, .inr (7, [.ref bys, .int (nI ln), .int tok, .int (nI sta), .int (nI en), .int num, .ref wo, .ref fs, .ref sc, .int tfi, .int tgl, .int tst])), (bys, .inl (y 1, 150, .inl fby))] := hD
    refine lv_icmp_eq (tgt := 49) hx hb dX7_isWord_44 (by decide) (fun h12 => ?_) (fun h13 => ?_)
    · skip
      refine lv_iinc (v := 1) (lv' := [(2, .int 1), (0, .ref tx), (1, .ref (aK 3))]) hx hb dX7_isWord_49 hl (k := 0) rfl (by decide) (by decide) rfl (fun ls hl => ?_)
      refine lv_goto (tgt := 20) hx hb dX7_isWord_52 (by decide) ?_
      refine lv_iload_n hx hb dX7_isWord_20 rfl (lv_at hl 0 rfl) ?_
      refine lv_aload_n hx hb dX7_isWord_21 rfl (lv_at hl 2 rfl) ?_
      have hs14 : kw_Split [(tx, .inr (7, [.ref bys, .int (nI ln), .int tok, .int (nI sta), .int (nI en), .int num, .ref wo, .ref fs, .ref sc, .int tfi, .int tgl, .int tst])), (bys, .inl (y 1, 150, .inl fby))] [] [(tx, .inr (7, [.ref bys, .int (nI ln), .int tok, .int (nI sta), .int (nI en), .int num, .ref wo, .ref fs, .ref sc, .int tfi, .int tgl, .int tst])), (bys, .inl (y 1, 150, .inl fby))] [] [0, 1] := ⟨rfl, rfl, rfl, rfl, rfl, by decide⟩
      refine kw_go_i hs14 hP hD hS hA (va_runV (As := []) (rest := [.int 1]) ⟨hx, hb, hml, hown, hts⟩ (gj_length3 l D y aK aV  _) (cwV 0 hts gX7_isWord_J0_length_8abf5 rfl rfl rfl (by decide +kernel) ⟨Nat.le_of_ble_eq_true rfl, Nat.le_of_ble_eq_true rfl⟩) (kz_PreK (i := 3) hs14 hP hD hK hN (by decide) hZ hS hA) rfl rfl hl.1 rfl (lv_room (Nat.le_of_ble_eq_true rfl)) dX7_isWord_22 ⟨Nat.le_of_ble_eq_true rfl, Nat.le_of_ble_eq_true rfl⟩) (fun r15 u16 H locs hq hP hD hS => ?_)
      obtain rfl := hq
      have hP : va_P D vwCl [(tx, .inr (7, [.ref bys, .int (nI ln), .int tok, .int (nI sta), .int (nI en), .int num, .ref wo, .ref fs, .ref sc, .int tfi, .int tgl, .int tst])), (bys, .inl (y 1, 150, .inl fby))] H := hP
      have hD : va_D A [(tx, .inr (7, [.ref bys, .int (nI ln), .int tok, .int (nI sta), .int (nI en), .int num, .ref wo, .ref fs, .ref sc, .int tfi, .int tgl, .int tst])), (bys, .inl (y 1, 150, .inl fby))] := hD
      refine lv_icmp_ge (tgt := 55) hx hb dX7_isWord_25 (by decide) (fun h9 => absurd h9 (by decide)) (fun _ => ?_)
      refine lv_aload_n hx hb dX7_isWord_28 rfl (lv_at hl 1 rfl) ?_
      refine va_get (D := D) (ci := 7) (v := .ref bys) (C := RX7) (T := TX7) (N := 12) hx hb hts iw7 hown hK hP 0 rfl rfl 0 (by decide) fw3 (fun _ h9 => h9) rfl dX7_isWord_29 ?_
      refine lv_aload_n hx hb dX7_isWord_32 rfl (lv_at hl 1 rfl) ?_
      refine va_get (D := D) (ci := 7) (v := .int (nI sta)) (C := RX7) (T := TX7) (N := 12) hx hb hts iw7 hown hK hP 0 rfl rfl 3 (by decide) fw2 (fun _ h9 => h9) rfl dX7_isWord_33 ?_
      refine lv_iload_n hx hb dX7_isWord_36 rfl (lv_at hl 0 rfl) ?_
      refine lv_iadd hx hb dX7_isWord_37 ?_
      rw [show (nI sta) + 1 = nI (sta + 1) from nI_add sta 1]
      refine va_bald hx hb hK hP 1 1 rfl rfl (vp_in_nI (by omega) (by decide)) dX7_isWord_38 ?_
      rw [nI_clamp (n := (sta + 1)) (by omega)]
      refine lv_aload_n hx hb dX7_isWord_39 rfl (lv_at hl 2 rfl) ?_
      refine lv_iload_n hx hb dX7_isWord_40 rfl (lv_at hl 0 rfl) ?_
      have hs17 : kw_Split [(tx, .inr (7, [.ref bys, .int (nI ln), .int tok, .int (nI sta), .int (nI en), .int num, .ref wo, .ref fs, .ref sc, .int tfi, .int tgl, .int tst])), (bys, .inl (y 1, 150, .inl fby))] [] [(tx, .inr (7, [.ref bys, .int (nI ln), .int tok, .int (nI sta), .int (nI en), .int num, .ref wo, .ref fs, .ref sc, .int tfi, .int tgl, .int tst])), (bys, .inl (y 1, 150, .inl fby))] [] [0, 1] := ⟨rfl, rfl, rfl, rfl, rfl, by decide⟩
      refine kw_go_i hs17 hP hD hS hA (va_runV (As := [.int 1]) (rest := [.int (fby (sta + 1))]) ⟨hx, hb, hml, hown, hts⟩ (gs_charAt3 l D y aK aV 1 (by omega) _) (cwV 1 hts gX7_isWord_J0_charAt_5068e rfl rfl rfl (by decide +kernel) ⟨Nat.le_of_ble_eq_true rfl, Nat.le_of_ble_eq_true rfl⟩) (kz_PreK (i := 3) hs17 hP hD hK hN (by decide) hZ hS hA) rfl rfl hl.1 rfl (lv_room (Nat.le_of_ble_eq_true rfl)) dX7_isWord_41 ⟨Nat.le_of_ble_eq_true rfl, Nat.le_of_ble_eq_true rfl⟩) (fun r18 u19 H locs hq hP hD hS => ?_)
      obtain rfl := hq
      rw [show kz_w 3 1 = 108 from rfl]
      have hP : va_P D vwCl [(tx, .inr (7, [.ref bys, .int (nI ln), .int tok, .int (nI sta), .int (nI en), .int num, .ref wo, .ref fs, .ref sc, .int tfi, .int tgl, .int tst])), (bys, .inl (y 1, 150, .inl fby))] H := hP
      have hD : va_D A [(tx, .inr (7, [.ref bys, .int (nI ln), .int tok, .int (nI sta), .int (nI en), .int num, .ref wo, .ref fs, .ref sc, .int tfi, .int tgl, .int tst])), (bys, .inl (y 1, 150, .inl fby))] := hD
      refine lv_icmp_eq (tgt := 49) hx hb dX7_isWord_44 (by decide) (fun h20 => ?_) (fun h21 => ?_)
      · skip
        refine lv_iinc (v := 2) (lv' := [(2, .int 2), (0, .ref tx), (1, .ref (aK 3))]) hx hb dX7_isWord_49 hl (k := 0) rfl (by decide) (by decide) rfl (fun ls hl => ?_)
        refine lv_goto (tgt := 20) hx hb dX7_isWord_52 (by decide) ?_
        refine lv_iload_n hx hb dX7_isWord_20 rfl (lv_at hl 0 rfl) ?_
        refine lv_aload_n hx hb dX7_isWord_21 rfl (lv_at hl 2 rfl) ?_
        have hs22 : kw_Split [(tx, .inr (7, [.ref bys, .int (nI ln), .int tok, .int (nI sta), .int (nI en), .int num, .ref wo, .ref fs, .ref sc, .int tfi, .int tgl, .int tst])), (bys, .inl (y 1, 150, .inl fby))] [] [(tx, .inr (7, [.ref bys, .int (nI ln), .int tok, .int (nI sta), .int (nI en), .int num, .ref wo, .ref fs, .ref sc, .int tfi, .int tgl, .int tst])), (bys, .inl (y 1, 150, .inl fby))] [] [0, 1] := ⟨rfl, rfl, rfl, rfl, rfl, by decide⟩
        refine kw_go_i hs22 hP hD hS hA (va_runV (As := []) (rest := [.int 2]) ⟨hx, hb, hml, hown, hts⟩ (gj_length3 l D y aK aV  _) (cwV 0 hts gX7_isWord_J0_length_8abf5 rfl rfl rfl (by decide +kernel) ⟨Nat.le_of_ble_eq_true rfl, Nat.le_of_ble_eq_true rfl⟩) (kz_PreK (i := 3) hs22 hP hD hK hN (by decide) hZ hS hA) rfl rfl hl.1 rfl (lv_room (Nat.le_of_ble_eq_true rfl)) dX7_isWord_22 ⟨Nat.le_of_ble_eq_true rfl, Nat.le_of_ble_eq_true rfl⟩) (fun r23 u24 H locs hq hP hD hS => ?_)
        obtain rfl := hq
        have hP : va_P D vwCl [(tx, .inr (7, [.ref bys, .int (nI ln), .int tok, .int (nI sta), .int (nI en), .int num, .ref wo, .ref fs, .ref sc, .int tfi, .int tgl, .int tst])), (bys, .inl (y 1, 150, .inl fby))] H := hP
        have hD : va_D A [(tx, .inr (7, [.ref bys, .int (nI ln), .int tok, .int (nI sta), .int (nI en), .int num, .ref wo, .ref fs, .ref sc, .int tfi, .int tgl, .int tst])), (bys, .inl (y 1, 150, .inl fby))] := hD
        refine lv_icmp_ge (tgt := 55) hx hb dX7_isWord_25 (by decide) (fun h9 => absurd h9 (by decide)) (fun _ => ?_)
        refine lv_aload_n hx hb dX7_isWord_28 rfl (lv_at hl 1 rfl) ?_
        refine va_get (D := D) (ci := 7) (v := .ref bys) (C := RX7) (T := TX7) (N := 12) hx hb hts iw7 hown hK hP 0 rfl rfl 0 (by decide) fw3 (fun _ h9 => h9) rfl dX7_isWord_29 ?_
        refine lv_aload_n hx hb dX7_isWord_32 rfl (lv_at hl 1 rfl) ?_
        refine va_get (D := D) (ci := 7) (v := .int (nI sta)) (C := RX7) (T := TX7) (N := 12) hx hb hts iw7 hown hK hP 0 rfl rfl 3 (by decide) fw2 (fun _ h9 => h9) rfl dX7_isWord_33 ?_
        refine lv_iload_n hx hb dX7_isWord_36 rfl (lv_at hl 0 rfl) ?_
        refine lv_iadd hx hb dX7_isWord_37 ?_
        rw [show (nI sta) + 2 = nI (sta + 2) from nI_add sta 2]
        refine va_bald hx hb hK hP 1 1 rfl rfl (vp_in_nI (by omega) (by decide)) dX7_isWord_38 ?_
        rw [nI_clamp (n := (sta + 2)) (by omega)]
        refine lv_aload_n hx hb dX7_isWord_39 rfl (lv_at hl 2 rfl) ?_
        refine lv_iload_n hx hb dX7_isWord_40 rfl (lv_at hl 0 rfl) ?_
        have hs25 : kw_Split [(tx, .inr (7, [.ref bys, .int (nI ln), .int tok, .int (nI sta), .int (nI en), .int num, .ref wo, .ref fs, .ref sc, .int tfi, .int tgl, .int tst])), (bys, .inl (y 1, 150, .inl fby))] [] [(tx, .inr (7, [.ref bys, .int (nI ln), .int tok, .int (nI sta), .int (nI en), .int num, .ref wo, .ref fs, .ref sc, .int tfi, .int tgl, .int tst])), (bys, .inl (y 1, 150, .inl fby))] [] [0, 1] := ⟨rfl, rfl, rfl, rfl, rfl, by decide⟩
        refine kw_go_i hs25 hP hD hS hA (va_runV (As := [.int 2]) (rest := [.int (fby (sta + 2))]) ⟨hx, hb, hml, hown, hts⟩ (gs_charAt3 l D y aK aV 2 (by omega) _) (cwV 1 hts gX7_isWord_J0_charAt_5068e rfl rfl rfl (by decide +kernel) ⟨Nat.le_of_ble_eq_true rfl, Nat.le_of_ble_eq_true rfl⟩) (kz_PreK (i := 3) hs25 hP hD hK hN (by decide) hZ hS hA) rfl rfl hl.1 rfl (lv_room (Nat.le_of_ble_eq_true rfl)) dX7_isWord_41 ⟨Nat.le_of_ble_eq_true rfl, Nat.le_of_ble_eq_true rfl⟩) (fun r26 u27 H locs hq hP hD hS => ?_)
        obtain rfl := hq
        rw [show kz_w 3 2 = 101 from rfl]
        have hP : va_P D vwCl [(tx, .inr (7, [.ref bys, .int (nI ln), .int tok, .int (nI sta), .int (nI en), .int num, .ref wo, .ref fs, .ref sc, .int tfi, .int tgl, .int tst])), (bys, .inl (y 1, 150, .inl fby))] H := hP
        have hD : va_D A [(tx, .inr (7, [.ref bys, .int (nI ln), .int tok, .int (nI sta), .int (nI en), .int num, .ref wo, .ref fs, .ref sc, .int tfi, .int tgl, .int tst])), (bys, .inl (y 1, 150, .inl fby))] := hD
        refine lv_icmp_eq (tgt := 49) hx hb dX7_isWord_44 (by decide) (fun h28 => ?_) (fun h29 => ?_)
        · skip
          refine lv_iinc (v := 3) (lv' := [(2, .int 3), (0, .ref tx), (1, .ref (aK 3))]) hx hb dX7_isWord_49 hl (k := 0) rfl (by decide) (by decide) rfl (fun ls hl => ?_)
          refine lv_goto (tgt := 20) hx hb dX7_isWord_52 (by decide) ?_
          refine lv_iload_n hx hb dX7_isWord_20 rfl (lv_at hl 0 rfl) ?_
          refine lv_aload_n hx hb dX7_isWord_21 rfl (lv_at hl 2 rfl) ?_
          have hs30 : kw_Split [(tx, .inr (7, [.ref bys, .int (nI ln), .int tok, .int (nI sta), .int (nI en), .int num, .ref wo, .ref fs, .ref sc, .int tfi, .int tgl, .int tst])), (bys, .inl (y 1, 150, .inl fby))] [] [(tx, .inr (7, [.ref bys, .int (nI ln), .int tok, .int (nI sta), .int (nI en), .int num, .ref wo, .ref fs, .ref sc, .int tfi, .int tgl, .int tst])), (bys, .inl (y 1, 150, .inl fby))] [] [0, 1] := ⟨rfl, rfl, rfl, rfl, rfl, by decide⟩
          refine kw_go_i hs30 hP hD hS hA (va_runV (As := []) (rest := [.int 3]) ⟨hx, hb, hml, hown, hts⟩ (gj_length3 l D y aK aV  _) (cwV 0 hts gX7_isWord_J0_length_8abf5 rfl rfl rfl (by decide +kernel) ⟨Nat.le_of_ble_eq_true rfl, Nat.le_of_ble_eq_true rfl⟩) (kz_PreK (i := 3) hs30 hP hD hK hN (by decide) hZ hS hA) rfl rfl hl.1 rfl (lv_room (Nat.le_of_ble_eq_true rfl)) dX7_isWord_22 ⟨Nat.le_of_ble_eq_true rfl, Nat.le_of_ble_eq_true rfl⟩) (fun r31 u32 H locs hq hP hD hS => ?_)
          obtain rfl := hq
          have hP : va_P D vwCl [(tx, .inr (7, [.ref bys, .int (nI ln), .int tok, .int (nI sta), .int (nI en), .int num, .ref wo, .ref fs, .ref sc, .int tfi, .int tgl, .int tst])), (bys, .inl (y 1, 150, .inl fby))] H := hP
          have hD : va_D A [(tx, .inr (7, [.ref bys, .int (nI ln), .int tok, .int (nI sta), .int (nI en), .int num, .ref wo, .ref fs, .ref sc, .int tfi, .int tgl, .int tst])), (bys, .inl (y 1, 150, .inl fby))] := hD
          refine lv_icmp_ge (tgt := 55) hx hb dX7_isWord_25 (by decide) (fun h9 => absurd h9 (by decide)) (fun _ => ?_)
          refine lv_aload_n hx hb dX7_isWord_28 rfl (lv_at hl 1 rfl) ?_
          refine va_get (D := D) (ci := 7) (v := .ref bys) (C := RX7) (T := TX7) (N := 12) hx hb hts iw7 hown hK hP 0 rfl rfl 0 (by decide) fw3 (fun _ h9 => h9) rfl dX7_isWord_29 ?_
          refine lv_aload_n hx hb dX7_isWord_32 rfl (lv_at hl 1 rfl) ?_
          refine va_get (D := D) (ci := 7) (v := .int (nI sta)) (C := RX7) (T := TX7) (N := 12) hx hb hts iw7 hown hK hP 0 rfl rfl 3 (by decide) fw2 (fun _ h9 => h9) rfl dX7_isWord_33 ?_
          refine lv_iload_n hx hb dX7_isWord_36 rfl (lv_at hl 0 rfl) ?_
          refine lv_iadd hx hb dX7_isWord_37 ?_
          rw [show (nI sta) + 3 = nI (sta + 3) from nI_add sta 3]
          refine va_bald hx hb hK hP 1 1 rfl rfl (vp_in_nI (by omega) (by decide)) dX7_isWord_38 ?_
          rw [nI_clamp (n := (sta + 3)) (by omega)]
          refine lv_aload_n hx hb dX7_isWord_39 rfl (lv_at hl 2 rfl) ?_
          refine lv_iload_n hx hb dX7_isWord_40 rfl (lv_at hl 0 rfl) ?_
          have hs33 : kw_Split [(tx, .inr (7, [.ref bys, .int (nI ln), .int tok, .int (nI sta), .int (nI en), .int num, .ref wo, .ref fs, .ref sc, .int tfi, .int tgl, .int tst])), (bys, .inl (y 1, 150, .inl fby))] [] [(tx, .inr (7, [.ref bys, .int (nI ln), .int tok, .int (nI sta), .int (nI en), .int num, .ref wo, .ref fs, .ref sc, .int tfi, .int tgl, .int tst])), (bys, .inl (y 1, 150, .inl fby))] [] [0, 1] := ⟨rfl, rfl, rfl, rfl, rfl, by decide⟩
          refine kw_go_i hs33 hP hD hS hA (va_runV (As := [.int 3]) (rest := [.int (fby (sta + 3))]) ⟨hx, hb, hml, hown, hts⟩ (gs_charAt3 l D y aK aV 3 (by omega) _) (cwV 1 hts gX7_isWord_J0_charAt_5068e rfl rfl rfl (by decide +kernel) ⟨Nat.le_of_ble_eq_true rfl, Nat.le_of_ble_eq_true rfl⟩) (kz_PreK (i := 3) hs33 hP hD hK hN (by decide) hZ hS hA) rfl rfl hl.1 rfl (lv_room (Nat.le_of_ble_eq_true rfl)) dX7_isWord_41 ⟨Nat.le_of_ble_eq_true rfl, Nat.le_of_ble_eq_true rfl⟩) (fun r34 u35 H locs hq hP hD hS => ?_)
          obtain rfl := hq
          rw [show kz_w 3 3 = 97 from rfl]
          have hP : va_P D vwCl [(tx, .inr (7, [.ref bys, .int (nI ln), .int tok, .int (nI sta), .int (nI en), .int num, .ref wo, .ref fs, .ref sc, .int tfi, .int tgl, .int tst])), (bys, .inl (y 1, 150, .inl fby))] H := hP
          have hD : va_D A [(tx, .inr (7, [.ref bys, .int (nI ln), .int tok, .int (nI sta), .int (nI en), .int num, .ref wo, .ref fs, .ref sc, .int tfi, .int tgl, .int tst])), (bys, .inl (y 1, 150, .inl fby))] := hD
          refine lv_icmp_eq (tgt := 49) hx hb dX7_isWord_44 (by decide) (fun h36 => ?_) (fun h37 => ?_)
          · skip
            refine lv_iinc (v := 4) (lv' := [(2, .int 4), (0, .ref tx), (1, .ref (aK 3))]) hx hb dX7_isWord_49 hl (k := 0) rfl (by decide) (by decide) rfl (fun ls hl => ?_)
            refine lv_goto (tgt := 20) hx hb dX7_isWord_52 (by decide) ?_
            refine lv_iload_n hx hb dX7_isWord_20 rfl (lv_at hl 0 rfl) ?_
            refine lv_aload_n hx hb dX7_isWord_21 rfl (lv_at hl 2 rfl) ?_
            have hs38 : kw_Split [(tx, .inr (7, [.ref bys, .int (nI ln), .int tok, .int (nI sta), .int (nI en), .int num, .ref wo, .ref fs, .ref sc, .int tfi, .int tgl, .int tst])), (bys, .inl (y 1, 150, .inl fby))] [] [(tx, .inr (7, [.ref bys, .int (nI ln), .int tok, .int (nI sta), .int (nI en), .int num, .ref wo, .ref fs, .ref sc, .int tfi, .int tgl, .int tst])), (bys, .inl (y 1, 150, .inl fby))] [] [0, 1] := ⟨rfl, rfl, rfl, rfl, rfl, by decide⟩
            refine kw_go_i hs38 hP hD hS hA (va_runV (As := []) (rest := [.int 4]) ⟨hx, hb, hml, hown, hts⟩ (gj_length3 l D y aK aV  _) (cwV 0 hts gX7_isWord_J0_length_8abf5 rfl rfl rfl (by decide +kernel) ⟨Nat.le_of_ble_eq_true rfl, Nat.le_of_ble_eq_true rfl⟩) (kz_PreK (i := 3) hs38 hP hD hK hN (by decide) hZ hS hA) rfl rfl hl.1 rfl (lv_room (Nat.le_of_ble_eq_true rfl)) dX7_isWord_22 ⟨Nat.le_of_ble_eq_true rfl, Nat.le_of_ble_eq_true rfl⟩) (fun r39 u40 H locs hq hP hD hS => ?_)
            obtain rfl := hq
            have hP : va_P D vwCl [(tx, .inr (7, [.ref bys, .int (nI ln), .int tok, .int (nI sta), .int (nI en), .int num, .ref wo, .ref fs, .ref sc, .int tfi, .int tgl, .int tst])), (bys, .inl (y 1, 150, .inl fby))] H := hP
            have hD : va_D A [(tx, .inr (7, [.ref bys, .int (nI ln), .int tok, .int (nI sta), .int (nI en), .int num, .ref wo, .ref fs, .ref sc, .int tfi, .int tgl, .int tst])), (bys, .inl (y 1, 150, .inl fby))] := hD
            refine lv_icmp_ge (tgt := 55) hx hb dX7_isWord_25 (by decide) (fun h9 => absurd h9 (by decide)) (fun _ => ?_)
            refine lv_aload_n hx hb dX7_isWord_28 rfl (lv_at hl 1 rfl) ?_
            refine va_get (D := D) (ci := 7) (v := .ref bys) (C := RX7) (T := TX7) (N := 12) hx hb hts iw7 hown hK hP 0 rfl rfl 0 (by decide) fw3 (fun _ h9 => h9) rfl dX7_isWord_29 ?_
            refine lv_aload_n hx hb dX7_isWord_32 rfl (lv_at hl 1 rfl) ?_
            refine va_get (D := D) (ci := 7) (v := .int (nI sta)) (C := RX7) (T := TX7) (N := 12) hx hb hts iw7 hown hK hP 0 rfl rfl 3 (by decide) fw2 (fun _ h9 => h9) rfl dX7_isWord_33 ?_
            refine lv_iload_n hx hb dX7_isWord_36 rfl (lv_at hl 0 rfl) ?_
            refine lv_iadd hx hb dX7_isWord_37 ?_
            rw [show (nI sta) + 4 = nI (sta + 4) from nI_add sta 4]
            refine va_bald hx hb hK hP 1 1 rfl rfl (vp_in_nI (by omega) (by decide)) dX7_isWord_38 ?_
            rw [nI_clamp (n := (sta + 4)) (by omega)]
            refine lv_aload_n hx hb dX7_isWord_39 rfl (lv_at hl 2 rfl) ?_
            refine lv_iload_n hx hb dX7_isWord_40 rfl (lv_at hl 0 rfl) ?_
            have hs41 : kw_Split [(tx, .inr (7, [.ref bys, .int (nI ln), .int tok, .int (nI sta), .int (nI en), .int num, .ref wo, .ref fs, .ref sc, .int tfi, .int tgl, .int tst])), (bys, .inl (y 1, 150, .inl fby))] [] [(tx, .inr (7, [.ref bys, .int (nI ln), .int tok, .int (nI sta), .int (nI en), .int num, .ref wo, .ref fs, .ref sc, .int tfi, .int tgl, .int tst])), (bys, .inl (y 1, 150, .inl fby))] [] [0, 1] := ⟨rfl, rfl, rfl, rfl, rfl, by decide⟩
            refine kw_go_i hs41 hP hD hS hA (va_runV (As := [.int 4]) (rest := [.int (fby (sta + 4))]) ⟨hx, hb, hml, hown, hts⟩ (gs_charAt3 l D y aK aV 4 (by omega) _) (cwV 1 hts gX7_isWord_J0_charAt_5068e rfl rfl rfl (by decide +kernel) ⟨Nat.le_of_ble_eq_true rfl, Nat.le_of_ble_eq_true rfl⟩) (kz_PreK (i := 3) hs41 hP hD hK hN (by decide) hZ hS hA) rfl rfl hl.1 rfl (lv_room (Nat.le_of_ble_eq_true rfl)) dX7_isWord_41 ⟨Nat.le_of_ble_eq_true rfl, Nat.le_of_ble_eq_true rfl⟩) (fun r42 u43 H locs hq hP hD hS => ?_)
            obtain rfl := hq
            rw [show kz_w 3 4 = 110 from rfl]
            have hP : va_P D vwCl [(tx, .inr (7, [.ref bys, .int (nI ln), .int tok, .int (nI sta), .int (nI en), .int num, .ref wo, .ref fs, .ref sc, .int tfi, .int tgl, .int tst])), (bys, .inl (y 1, 150, .inl fby))] H := hP
            have hD : va_D A [(tx, .inr (7, [.ref bys, .int (nI ln), .int tok, .int (nI sta), .int (nI en), .int num, .ref wo, .ref fs, .ref sc, .int tfi, .int tgl, .int tst])), (bys, .inl (y 1, 150, .inl fby))] := hD
            refine lv_icmp_eq (tgt := 49) hx hb dX7_isWord_44 (by decide) (fun h44 => ?_) (fun h45 => ?_)
            · skip
              refine lv_iinc (v := 5) (lv' := [(2, .int 5), (0, .ref tx), (1, .ref (aK 3))]) hx hb dX7_isWord_49 hl (k := 0) rfl (by decide) (by decide) rfl (fun ls hl => ?_)
              refine lv_goto (tgt := 20) hx hb dX7_isWord_52 (by decide) ?_
              refine lv_iload_n hx hb dX7_isWord_20 rfl (lv_at hl 0 rfl) ?_
              refine lv_aload_n hx hb dX7_isWord_21 rfl (lv_at hl 2 rfl) ?_
              have hs46 : kw_Split [(tx, .inr (7, [.ref bys, .int (nI ln), .int tok, .int (nI sta), .int (nI en), .int num, .ref wo, .ref fs, .ref sc, .int tfi, .int tgl, .int tst])), (bys, .inl (y 1, 150, .inl fby))] [] [(tx, .inr (7, [.ref bys, .int (nI ln), .int tok, .int (nI sta), .int (nI en), .int num, .ref wo, .ref fs, .ref sc, .int tfi, .int tgl, .int tst])), (bys, .inl (y 1, 150, .inl fby))] [] [0, 1] := ⟨rfl, rfl, rfl, rfl, rfl, by decide⟩
              refine kw_go_i hs46 hP hD hS hA (va_runV (As := []) (rest := [.int 5]) ⟨hx, hb, hml, hown, hts⟩ (gj_length3 l D y aK aV  _) (cwV 0 hts gX7_isWord_J0_length_8abf5 rfl rfl rfl (by decide +kernel) ⟨Nat.le_of_ble_eq_true rfl, Nat.le_of_ble_eq_true rfl⟩) (kz_PreK (i := 3) hs46 hP hD hK hN (by decide) hZ hS hA) rfl rfl hl.1 rfl (lv_room (Nat.le_of_ble_eq_true rfl)) dX7_isWord_22 ⟨Nat.le_of_ble_eq_true rfl, Nat.le_of_ble_eq_true rfl⟩) (fun r47 u48 H locs hq hP hD hS => ?_)
              obtain rfl := hq
              have hP : va_P D vwCl [(tx, .inr (7, [.ref bys, .int (nI ln), .int tok, .int (nI sta), .int (nI en), .int num, .ref wo, .ref fs, .ref sc, .int tfi, .int tgl, .int tst])), (bys, .inl (y 1, 150, .inl fby))] H := hP
              have hD : va_D A [(tx, .inr (7, [.ref bys, .int (nI ln), .int tok, .int (nI sta), .int (nI en), .int num, .ref wo, .ref fs, .ref sc, .int tfi, .int tgl, .int tst])), (bys, .inl (y 1, 150, .inl fby))] := hD
              refine lv_icmp_ge (tgt := 55) hx hb dX7_isWord_25 (by decide) (fun _ => ?_) (fun h9 => absurd h9 (by decide))
              refine lv_iconst (v := 1) hx hb dX7_isWord_55 (by decide) ?_
              exact W.zret (v := 1) hx hb hr (by decide) (fun tZ ht hW => ⟨⟨1, (), rfl, Or.inl ⟨decide_eq_true ⟨by omega, h12, h20, h28, h36, h44⟩, rfl⟩, by rw [ht]; exact hP.sub [0, 1] rfl, hD.sub [0, 1] (by decide) rfl⟩, hS.F ht⟩) hS.2.2 dX7_isWord_56
            · skip
              refine lv_iconst (v := 0) hx hb dX7_isWord_47 (by decide) ?_
              exact W.zret (v := 0) hx hb hr (by decide) (fun tZ ht hW => ⟨⟨0, (), rfl, Or.inr (⟨fun q9 => absurd (of_decide_eq_true q9).2.2.2.2.2 h45, rfl⟩), by rw [ht]; exact hP.sub [0, 1] rfl, hD.sub [0, 1] (by decide) rfl⟩, hS.F ht⟩) hS.2.2 dX7_isWord_48
          · skip
            refine lv_iconst (v := 0) hx hb dX7_isWord_47 (by decide) ?_
            exact W.zret (v := 0) hx hb hr (by decide) (fun tZ ht hW => ⟨⟨0, (), rfl, Or.inr (⟨fun q9 => absurd (of_decide_eq_true q9).2.2.2.2.1 h37, rfl⟩), by rw [ht]; exact hP.sub [0, 1] rfl, hD.sub [0, 1] (by decide) rfl⟩, hS.F ht⟩) hS.2.2 dX7_isWord_48
        · skip
          refine lv_iconst (v := 0) hx hb dX7_isWord_47 (by decide) ?_
          exact W.zret (v := 0) hx hb hr (by decide) (fun tZ ht hW => ⟨⟨0, (), rfl, Or.inr (⟨fun q9 => absurd (of_decide_eq_true q9).2.2.2.1 h29, rfl⟩), by rw [ht]; exact hP.sub [0, 1] rfl, hD.sub [0, 1] (by decide) rfl⟩, hS.F ht⟩) hS.2.2 dX7_isWord_48
      · skip
        refine lv_iconst (v := 0) hx hb dX7_isWord_47 (by decide) ?_
        exact W.zret (v := 0) hx hb hr (by decide) (fun tZ ht hW => ⟨⟨0, (), rfl, Or.inr (⟨fun q9 => absurd (of_decide_eq_true q9).2.2.1 h21, rfl⟩), by rw [ht]; exact hP.sub [0, 1] rfl, hD.sub [0, 1] (by decide) rfl⟩, hS.F ht⟩) hS.2.2 dX7_isWord_48
    · skip
      refine lv_iconst (v := 0) hx hb dX7_isWord_47 (by decide) ?_
      exact W.zret (v := 0) hx hb hr (by decide) (fun tZ ht hW => ⟨⟨0, (), rfl, Or.inr (⟨fun q9 => absurd (of_decide_eq_true q9).2.1 h13, rfl⟩), by rw [ht]; exact hP.sub [0, 1] rfl, hD.sub [0, 1] (by decide) rfl⟩, hS.F ht⟩) hS.2.2 dX7_isWord_48
  · skip
    have h5 : ¬ (en - sta) = 5 := fun q9 => h5 ((nI_eq (a := (en - sta)) (b := 5) (by omega) (by omega)).mpr q9)
    refine lv_iconst (v := 0) hx hb dX7_isWord_16 (by decide) ?_
    exact W.zret (v := 0) hx hb hr (by decide) (fun tZ ht hW => ⟨⟨0, (), rfl, Or.inr (⟨fun q9 => absurd (of_decide_eq_true q9).1 (by omega), rfl⟩), by rw [ht]; exact hP.sub [0, 1] rfl, hD.sub [0, 1] (by decide) rfl⟩, hS.F ht⟩) hS.2.2 dX7_isWord_17

set_option maxHeartbeats 4000000 in
set_option maxRecDepth 100000 in
theorem gs_wordHere (l : Launch) (D : va_G) (y : Nat → ClassId) (aK : Nat → Nat) (aV : Nat → Nat) (tx : Nat) (bys : Nat) (wo : Nat) (fs : Nat) (sc : Nat) (tk : Nat) (ln : Nat) (sta : Nat) (en : Nat) (num : Int32) (tfi : Int32) (tgl : Int32) (tst : Int32) (fby : Nat → Int32) (hln : ln ≤ 150) (hen : en ≤ ln) (hse : sta ≤ en) (htk : tk ≤ 4) : kz_Mi l yX7_wordHere wsX7_wordHere ({ frames := 6, cells := 0, slots := 0, locals := 167 }) D y [.ref tx] [(tx, .inr (7, [.ref bys, .int (nI ln), .int (nI tk), .int (nI sta), .int (nI en), .int num, .ref wo, .ref fs, .ref sc, .int tfi, .int tgl, .int tst])), (bys, .inl (y 1, 150, .inl fby))] aK aV (fun (r : Int32) (u : Unit) => (¬ ks_w0 fby tk sta en = true ∧ ¬ ks_w1 fby tk sta en = true ∧ ¬ ks_w2 fby tk sta en = true ∧ ¬ ks_w3 fby tk sta en = true ∧ r = (-1)) ∨ (ks_w0 fby tk sta en = true ∧ r = 0) ∨ (ks_w1 fby tk sta en = true ∧ r = 1) ∨ (ks_w2 fby tk sta en = true ∧ ¬ ks_w1 fby tk sta en = true ∧ r = 2) ∨ (ks_w3 fby tk sta en = true ∧ ¬ ks_w1 fby tk sta en = true ∧ ¬ ks_w2 fby tk sta en = true ∧ r = 3)) (fun _ => [(tx, .inr (7, [.ref bys, .int (nI ln), .int (nI tk), .int (nI sta), .int (nI en), .int num, .ref wo, .ref fs, .ref sc, .int tfi, .int tgl, .int tst])), (bys, .inl (y 1, 150, .inl fby))]) 0 0 := by
  refine kz_Mi.of (cc := cX7_wordHere) (maxL := 1) (ret := (some .int)) (by decide) rfl ?_
  intro pZ eZ s mZ beZ meZ cZ A hE
  obtain ⟨hx, hb, hr, hml, hts, hown, hlocks, hin, hA, hP, hD, hK, hN, hZ⟩ := hE
  have hS : va_S A s.heap s.heap [] := va_S.rf
  have hl := lv_entry ([.ref tx]) (n := 1) (Nat.le_of_ble_eq_true rfl)
  rw [lg_entry_eq]
  generalize (lg_sl ([.ref tx]) ++ List.replicate (1 - (lg_sl ([.ref tx])).length) Slot.unset).toArray = ls at hl ⊢
  have hl : lv_has ls 1 [(0, .ref tx)] := hl
  have fw1 := hts (.fieldLink RX7 44 "GleanDusk$Text" "token" "I") (List.mem_of_getElem? (i := 1) rfl)
  have iw7 : ∀ w ∈ wsX70, w ∈ wsX7_wordHere := fun _ h => List.mem_cons_of_mem _ (List.mem_append_right _ h)
  refine lv_aload_n hx hb dX7_wordHere_0 rfl (lv_at hl 0 rfl) ?_
  refine va_get (D := D) (ci := 7) (v := .int (nI tk)) (C := RX7) (T := TX7) (N := 12) hx hb hts iw7 hown hK hP 0 rfl rfl 2 (by decide) fw1 (fun _ h9 => h9) rfl dX7_wordHere_1 ?_
  refine lv_iconst (v := 1) hx hb dX7_wordHere_4 (by decide) ?_
  refine lv_icmp_eq (tgt := 10) hx hb dX7_wordHere_5 (by decide) (fun h1 => ?_) (fun h2 => ?_)
  · skip
    have h1 : tk = 1 := (nI_eq (a := tk) (b := 1) (by omega) (by omega)).mp h1
    refine lv_aload_n hx hb dX7_wordHere_10 rfl (lv_at hl 0 rfl) ?_
    refine va_ldcS hx hb hown hZ.2.2.2.1 dX7_wordHere_11 ?_
    have hs3 : kw_Split [(tx, .inr (7, [.ref bys, .int (nI ln), .int (nI tk), .int (nI sta), .int (nI en), .int num, .ref wo, .ref fs, .ref sc, .int tfi, .int tgl, .int tst])), (bys, .inl (y 1, 150, .inl fby))] [(tx, .inr (7, [.ref bys, .int (nI ln), .int (nI tk), .int (nI sta), .int (nI en), .int num, .ref wo, .ref fs, .ref sc, .int tfi, .int tgl, .int tst])), (bys, .inl (y 1, 150, .inl fby))] [] [0, 1] [] := ⟨rfl, rfl, rfl, rfl, rfl, by decide⟩
    refine kw_go_i hs3 hP hD hS hA (va_runV (As := [.ref (aK 0)]) (rest := []) ⟨hx, hb, hml, hown, hts⟩ (gs_isWord0 l D y aK aV tx bys wo fs sc ln sta en (nI tk) num tfi tgl tst fby hln hen hse _) (cwV 1 hts gX7_wordHere_X7_isWord rfl rfl rfl (by decide +kernel) ⟨Nat.le_of_ble_eq_true rfl, Nat.le_of_ble_eq_true rfl⟩) (kz_PreV (ci := 7) (q0 := 0) hs3 hP hD hK hN rfl rfl hZ hS hA) rfl rfl hl.1 rfl (lv_room (Nat.le_of_ble_eq_true rfl)) dX7_wordHere_13 ⟨Nat.le_of_ble_eq_true rfl, Nat.le_of_ble_eq_true rfl⟩) (fun r4 u5 H locs hq hP hD hS => ?_)
    rcases hq with ⟨h6, rfl⟩ | ⟨h7, rfl⟩
    · skip
      have hP : va_P D vwCl [(tx, .inr (7, [.ref bys, .int (nI ln), .int (nI tk), .int (nI sta), .int (nI en), .int num, .ref wo, .ref fs, .ref sc, .int tfi, .int tgl, .int tst])), (bys, .inl (y 1, 150, .inl fby))] H := hP
      have hD : va_D A [(tx, .inr (7, [.ref bys, .int (nI ln), .int (nI tk), .int (nI sta), .int (nI en), .int num, .ref wo, .ref fs, .ref sc, .int tfi, .int tgl, .int tst])), (bys, .inl (y 1, 150, .inl fby))] := hD
      refine lv_if_eq (tgt := 21) hx hb dX7_wordHere_16 (by decide) (fun h9 => absurd h9 (by decide)) (fun _ => ?_)
      refine lv_iconst (v := 0) hx hb dX7_wordHere_19 (by decide) ?_
      exact W.iret (v := 0) hx hb hr (fun tZ ht hW => ⟨⟨0, (), rfl, Or.inr (Or.inl ⟨ks_and h1 h6, rfl⟩), by rw [ht]; exact hP.sub [0, 1] rfl, hD.sub [0, 1] (by decide) rfl⟩, hS.F ht⟩) hS.2.2 dX7_wordHere_20
    · skip
      have hP : va_P D vwCl [(tx, .inr (7, [.ref bys, .int (nI ln), .int (nI tk), .int (nI sta), .int (nI en), .int num, .ref wo, .ref fs, .ref sc, .int tfi, .int tgl, .int tst])), (bys, .inl (y 1, 150, .inl fby))] H := hP
      have hD : va_D A [(tx, .inr (7, [.ref bys, .int (nI ln), .int (nI tk), .int (nI sta), .int (nI en), .int num, .ref wo, .ref fs, .ref sc, .int tfi, .int tgl, .int tst])), (bys, .inl (y 1, 150, .inl fby))] := hD
      refine lv_if_eq (tgt := 21) hx hb dX7_wordHere_16 (by decide) (fun _ => ?_) (fun h9 => absurd h9 (by decide))
      refine lv_aload_n hx hb dX7_wordHere_21 rfl (lv_at hl 0 rfl) ?_
      refine va_ldcS hx hb hown hZ.2.2.2.2.1 dX7_wordHere_22 ?_
      have hs8 : kw_Split [(tx, .inr (7, [.ref bys, .int (nI ln), .int (nI tk), .int (nI sta), .int (nI en), .int num, .ref wo, .ref fs, .ref sc, .int tfi, .int tgl, .int tst])), (bys, .inl (y 1, 150, .inl fby))] [(tx, .inr (7, [.ref bys, .int (nI ln), .int (nI tk), .int (nI sta), .int (nI en), .int num, .ref wo, .ref fs, .ref sc, .int tfi, .int tgl, .int tst])), (bys, .inl (y 1, 150, .inl fby))] [] [0, 1] [] := ⟨rfl, rfl, rfl, rfl, rfl, by decide⟩
      refine kw_go_i hs8 hP hD hS hA (va_runV (As := [.ref (aK 1)]) (rest := []) ⟨hx, hb, hml, hown, hts⟩ (gs_isWord1 l D y aK aV tx bys wo fs sc ln sta en (nI tk) num tfi tgl tst fby hln hen hse _) (cwV 1 hts gX7_wordHere_X7_isWord rfl rfl rfl (by decide +kernel) ⟨Nat.le_of_ble_eq_true rfl, Nat.le_of_ble_eq_true rfl⟩) (kz_PreV (ci := 7) (q0 := 0) hs8 hP hD hK hN rfl rfl hZ hS hA) rfl rfl hl.1 rfl (lv_room (Nat.le_of_ble_eq_true rfl)) dX7_wordHere_24 ⟨Nat.le_of_ble_eq_true rfl, Nat.le_of_ble_eq_true rfl⟩) (fun r9 u10 H locs hq hP hD hS => ?_)
      rcases hq with ⟨h11, rfl⟩ | ⟨h12, rfl⟩
      · skip
        have hP : va_P D vwCl [(tx, .inr (7, [.ref bys, .int (nI ln), .int (nI tk), .int (nI sta), .int (nI en), .int num, .ref wo, .ref fs, .ref sc, .int tfi, .int tgl, .int tst])), (bys, .inl (y 1, 150, .inl fby))] H := hP
        have hD : va_D A [(tx, .inr (7, [.ref bys, .int (nI ln), .int (nI tk), .int (nI sta), .int (nI en), .int num, .ref wo, .ref fs, .ref sc, .int tfi, .int tgl, .int tst])), (bys, .inl (y 1, 150, .inl fby))] := hD
        refine lv_if_eq (tgt := 32) hx hb dX7_wordHere_27 (by decide) (fun h9 => absurd h9 (by decide)) (fun _ => ?_)
        refine lv_iconst (v := 1) hx hb dX7_wordHere_30 (by decide) ?_
        exact W.iret (v := 1) hx hb hr (fun tZ ht hW => ⟨⟨1, (), rfl, Or.inr (Or.inr (Or.inl ⟨ks_and h1 h11, rfl⟩)), by rw [ht]; exact hP.sub [0, 1] rfl, hD.sub [0, 1] (by decide) rfl⟩, hS.F ht⟩) hS.2.2 dX7_wordHere_31
      · skip
        have hP : va_P D vwCl [(tx, .inr (7, [.ref bys, .int (nI ln), .int (nI tk), .int (nI sta), .int (nI en), .int num, .ref wo, .ref fs, .ref sc, .int tfi, .int tgl, .int tst])), (bys, .inl (y 1, 150, .inl fby))] H := hP
        have hD : va_D A [(tx, .inr (7, [.ref bys, .int (nI ln), .int (nI tk), .int (nI sta), .int (nI en), .int num, .ref wo, .ref fs, .ref sc, .int tfi, .int tgl, .int tst])), (bys, .inl (y 1, 150, .inl fby))] := hD
        refine lv_if_eq (tgt := 32) hx hb dX7_wordHere_27 (by decide) (fun _ => ?_) (fun h9 => absurd h9 (by decide))
        refine lv_aload_n hx hb dX7_wordHere_32 rfl (lv_at hl 0 rfl) ?_
        refine va_ldcS hx hb hown hZ.2.2.2.2.2.1 dX7_wordHere_33 ?_
        have hs13 : kw_Split [(tx, .inr (7, [.ref bys, .int (nI ln), .int (nI tk), .int (nI sta), .int (nI en), .int num, .ref wo, .ref fs, .ref sc, .int tfi, .int tgl, .int tst])), (bys, .inl (y 1, 150, .inl fby))] [(tx, .inr (7, [.ref bys, .int (nI ln), .int (nI tk), .int (nI sta), .int (nI en), .int num, .ref wo, .ref fs, .ref sc, .int tfi, .int tgl, .int tst])), (bys, .inl (y 1, 150, .inl fby))] [] [0, 1] [] := ⟨rfl, rfl, rfl, rfl, rfl, by decide⟩
        refine kw_go_i hs13 hP hD hS hA (va_runV (As := [.ref (aK 2)]) (rest := []) ⟨hx, hb, hml, hown, hts⟩ (gs_isWord2 l D y aK aV tx bys wo fs sc ln sta en (nI tk) num tfi tgl tst fby hln hen hse _) (cwV 1 hts gX7_wordHere_X7_isWord rfl rfl rfl (by decide +kernel) ⟨Nat.le_of_ble_eq_true rfl, Nat.le_of_ble_eq_true rfl⟩) (kz_PreV (ci := 7) (q0 := 0) hs13 hP hD hK hN rfl rfl hZ hS hA) rfl rfl hl.1 rfl (lv_room (Nat.le_of_ble_eq_true rfl)) dX7_wordHere_35 ⟨Nat.le_of_ble_eq_true rfl, Nat.le_of_ble_eq_true rfl⟩) (fun r14 u15 H locs hq hP hD hS => ?_)
        rcases hq with ⟨h16, rfl⟩ | ⟨h17, rfl⟩
        · skip
          have hP : va_P D vwCl [(tx, .inr (7, [.ref bys, .int (nI ln), .int (nI tk), .int (nI sta), .int (nI en), .int num, .ref wo, .ref fs, .ref sc, .int tfi, .int tgl, .int tst])), (bys, .inl (y 1, 150, .inl fby))] H := hP
          have hD : va_D A [(tx, .inr (7, [.ref bys, .int (nI ln), .int (nI tk), .int (nI sta), .int (nI en), .int num, .ref wo, .ref fs, .ref sc, .int tfi, .int tgl, .int tst])), (bys, .inl (y 1, 150, .inl fby))] := hD
          refine lv_if_eq (tgt := 43) hx hb dX7_wordHere_38 (by decide) (fun h9 => absurd h9 (by decide)) (fun _ => ?_)
          refine lv_iconst (v := 2) hx hb dX7_wordHere_41 (by decide) ?_
          exact W.iret (v := 2) hx hb hr (fun tZ ht hW => ⟨⟨2, (), rfl, Or.inr (Or.inr (Or.inr (Or.inl ⟨ks_and h1 h16, ks_no2 h12, rfl⟩))), by rw [ht]; exact hP.sub [0, 1] rfl, hD.sub [0, 1] (by decide) rfl⟩, hS.F ht⟩) hS.2.2 dX7_wordHere_42
        · skip
          have hP : va_P D vwCl [(tx, .inr (7, [.ref bys, .int (nI ln), .int (nI tk), .int (nI sta), .int (nI en), .int num, .ref wo, .ref fs, .ref sc, .int tfi, .int tgl, .int tst])), (bys, .inl (y 1, 150, .inl fby))] H := hP
          have hD : va_D A [(tx, .inr (7, [.ref bys, .int (nI ln), .int (nI tk), .int (nI sta), .int (nI en), .int num, .ref wo, .ref fs, .ref sc, .int tfi, .int tgl, .int tst])), (bys, .inl (y 1, 150, .inl fby))] := hD
          refine lv_if_eq (tgt := 43) hx hb dX7_wordHere_38 (by decide) (fun _ => ?_) (fun h9 => absurd h9 (by decide))
          refine lv_aload_n hx hb dX7_wordHere_43 rfl (lv_at hl 0 rfl) ?_
          refine va_ldcS hx hb hown hZ.2.2.2.2.2.2 dX7_wordHere_44 ?_
          have hs18 : kw_Split [(tx, .inr (7, [.ref bys, .int (nI ln), .int (nI tk), .int (nI sta), .int (nI en), .int num, .ref wo, .ref fs, .ref sc, .int tfi, .int tgl, .int tst])), (bys, .inl (y 1, 150, .inl fby))] [(tx, .inr (7, [.ref bys, .int (nI ln), .int (nI tk), .int (nI sta), .int (nI en), .int num, .ref wo, .ref fs, .ref sc, .int tfi, .int tgl, .int tst])), (bys, .inl (y 1, 150, .inl fby))] [] [0, 1] [] := ⟨rfl, rfl, rfl, rfl, rfl, by decide⟩
          refine kw_go_i hs18 hP hD hS hA (va_runV (As := [.ref (aK 3)]) (rest := []) ⟨hx, hb, hml, hown, hts⟩ (gs_isWord3 l D y aK aV tx bys wo fs sc ln sta en (nI tk) num tfi tgl tst fby hln hen hse _) (cwV 1 hts gX7_wordHere_X7_isWord rfl rfl rfl (by decide +kernel) ⟨Nat.le_of_ble_eq_true rfl, Nat.le_of_ble_eq_true rfl⟩) (kz_PreV (ci := 7) (q0 := 0) hs18 hP hD hK hN rfl rfl hZ hS hA) rfl rfl hl.1 rfl (lv_room (Nat.le_of_ble_eq_true rfl)) dX7_wordHere_46 ⟨Nat.le_of_ble_eq_true rfl, Nat.le_of_ble_eq_true rfl⟩) (fun r19 u20 H locs hq hP hD hS => ?_)
          rcases hq with ⟨h21, rfl⟩ | ⟨h22, rfl⟩
          · skip
            have hP : va_P D vwCl [(tx, .inr (7, [.ref bys, .int (nI ln), .int (nI tk), .int (nI sta), .int (nI en), .int num, .ref wo, .ref fs, .ref sc, .int tfi, .int tgl, .int tst])), (bys, .inl (y 1, 150, .inl fby))] H := hP
            have hD : va_D A [(tx, .inr (7, [.ref bys, .int (nI ln), .int (nI tk), .int (nI sta), .int (nI en), .int num, .ref wo, .ref fs, .ref sc, .int tfi, .int tgl, .int tst])), (bys, .inl (y 1, 150, .inl fby))] := hD
            refine lv_if_eq (tgt := 56) hx hb dX7_wordHere_49 (by decide) (fun h9 => absurd h9 (by decide)) (fun _ => ?_)
            refine lv_iconst (v := 3) hx hb dX7_wordHere_52 (by decide) ?_
            refine lv_goto (tgt := 57) hx hb dX7_wordHere_53 (by decide) ?_
            exact W.iret (v := 3) hx hb hr (fun tZ ht hW => ⟨⟨3, (), rfl, Or.inr (Or.inr (Or.inr (Or.inr (⟨ks_and h1 h21, ks_no2 h12, ks_no2 h17, rfl⟩)))), by rw [ht]; exact hP.sub [0, 1] rfl, hD.sub [0, 1] (by decide) rfl⟩, hS.F ht⟩) hS.2.2 dX7_wordHere_57
          · skip
            have hP : va_P D vwCl [(tx, .inr (7, [.ref bys, .int (nI ln), .int (nI tk), .int (nI sta), .int (nI en), .int num, .ref wo, .ref fs, .ref sc, .int tfi, .int tgl, .int tst])), (bys, .inl (y 1, 150, .inl fby))] H := hP
            have hD : va_D A [(tx, .inr (7, [.ref bys, .int (nI ln), .int (nI tk), .int (nI sta), .int (nI en), .int num, .ref wo, .ref fs, .ref sc, .int tfi, .int tgl, .int tst])), (bys, .inl (y 1, 150, .inl fby))] := hD
            refine lv_if_eq (tgt := 56) hx hb dX7_wordHere_49 (by decide) (fun _ => ?_) (fun h9 => absurd h9 (by decide))
            refine lv_iconst (v := (-1)) hx hb dX7_wordHere_56 (by decide) ?_
            exact W.iret (v := (-1)) hx hb hr (fun tZ ht hW => ⟨⟨(-1), (), rfl, Or.inl ⟨ks_no2 h7, ks_no2 h12, ks_no2 h17, ks_no2 h22, rfl⟩, by rw [ht]; exact hP.sub [0, 1] rfl, hD.sub [0, 1] (by decide) rfl⟩, hS.F ht⟩) hS.2.2 dX7_wordHere_57
  · skip
    have h2 : ¬ tk = 1 := fun q9 => h2 ((nI_eq (a := tk) (b := 1) (by omega) (by omega)).mpr q9)
    refine lv_iconst (v := (-1)) hx hb dX7_wordHere_8 (by decide) ?_
    exact W.iret (v := (-1)) hx hb hr (fun tZ ht hW => ⟨⟨(-1), (), rfl, Or.inl ⟨ks_no h2, ks_no h2, ks_no h2, ks_no h2, rfl⟩, by rw [ht]; exact hP.sub [0, 1] rfl, hD.sub [0, 1] (by decide) rfl⟩, hS.F ht⟩) hS.2.2 dX7_wordHere_9

set_option maxHeartbeats 4000000 in
set_option maxRecDepth 100000 in
theorem gs_isItem (l : Launch) (D : va_G) (y : Nat → ClassId) (aK : Nat → Nat) (aV : Nat → Nat) (tx : Nat) (bys : Nat) (wo : Nat) (fs : Nat) (sc : Nat) (ln : Nat) (tk : Nat) (sta : Nat) (en : Nat) (tfi : Nat) (tgl : Nat) (tst : Nat) (num : Int32) (fby : Nat → Int32) (fwo : Nat → Int32) (ffs : Nat → Int32) (fsc : Nat → Int32) (k : Nat) (kd : Nat → Int32) (hln : ln ≤ 150) (hen : en ≤ ln) (hse : sta ≤ en) (htk : tk ≤ 4) (hk : k < 25) (hk1 : 1 ≤ k) (hok : kz_oE fwo ffs k tfi tgl kd) (ht6 : tfi ≤ 6) (hg5 : tgl ≤ 5) (ht12 : tst ≤ 12) : kz_Mi l yX7_isItem wsX7_isItem ({ frames := 7, cells := 0, slots := 0, locals := 187 }) D y [.ref tx, .int (nI k)] [(tx, .inr (7, [.ref bys, .int (nI ln), .int (nI tk), .int (nI sta), .int (nI en), .int num, .ref wo, .ref fs, .ref sc, .int (nI tfi), .int (nI tgl), .int (nI tst)])), (bys, .inl (y 1, 150, .inl fby)), (wo, .inl (y 0, 25, .inl fwo)), (fs, .inl (y 0, 25, .inl ffs)), (sc, .inl (y 0, 25, .inl fsc))] aK aV (fun (r : Int32) (u : Int32 × Nat × Nat × Int32 × Nat × Nat × Nat × (Nat → Int32) × (Nat → Int32) × (Nat → Int32)) => u.2.1 ≤ ln ∧ u.2.2.1 ≤ ln ∧ u.2.2.2.2.1 ≤ 7 ∧ u.2.2.2.2.2.1 ≤ 6 ∧ u.2.2.2.2.2.2.1 ≤ 12 ∧ (r = 0 ∨ r = 1) ∧ (r = 0 → ks_it fby ln tk sta en tfi tgl tst kd = ks_flt u.2.1) ∧ (r = 1 → kz_g1 fby ln tk sta en tfi tgl tst kd u.2.2.1 u.2.2.2.2.1 u.2.2.2.2.2.1 u.2.2.2.2.2.2.1 u.2.2.2.2.2.2.2.1 u.2.2.2.2.2.2.2.2.1 (k + 1))) (fun u => [(tx, .inr (7, [.ref bys, .int (nI ln), .int u.1, .int (nI u.2.1), .int (nI u.2.2.1), .int u.2.2.2.1, .ref wo, .ref fs, .ref sc, .int (nI u.2.2.2.2.1), .int (nI u.2.2.2.2.2.1), .int (nI u.2.2.2.2.2.2.1)])), (bys, .inl (y 1, 150, .inl fby)), (wo, .inl (y 0, 25, .inl u.2.2.2.2.2.2.2.1)), (fs, .inl (y 0, 25, .inl u.2.2.2.2.2.2.2.2.1)), (sc, .inl (y 0, 25, .inl u.2.2.2.2.2.2.2.2.2))]) 0 0 := by
  refine kz_Mi.of (cc := cX7_isItem) (maxL := 4) (ret := (some .boolean)) (by decide) rfl ?_
  intro pZ eZ s mZ beZ meZ cZ A hE
  obtain ⟨hx, hb, hr, hml, hts, hown, hlocks, hin, hA, hP, hD, hK, hN, hZ⟩ := hE
  have hS : va_S A s.heap s.heap [] := va_S.rf
  have hl := lv_entry ([.ref tx, .int (nI k)]) (n := 4) (Nat.le_of_ble_eq_true rfl)
  rw [lg_entry_eq]
  generalize (lg_sl ([.ref tx, .int (nI k)]) ++ List.replicate (4 - (lg_sl ([.ref tx, .int (nI k)])).length) Slot.unset).toArray = ls at hl ⊢
  have hl : lv_has ls 4 [(0, .ref tx), (1, .int (nI k))] := hl
  have fw1 := hts (.fieldLink RX7 15 "GleanDusk$Text" "words" "[I") (List.mem_of_getElem? (i := 1) rfl)
  have fw2 := hts (.fieldLink RX7 32 "GleanDusk$Text" "fields" "I") (List.mem_of_getElem? (i := 3) rfl)
  have fw3 := hts (.fieldLink RX7 19 "GleanDusk$Text" "first" "[I") (List.mem_of_getElem? (i := 2) rfl)
  have fw4 := hts (.fieldLink RX7 22 "GleanDusk$Text" "second" "[I") (List.mem_of_getElem? (i := 4) rfl)
  have fw5 := hts (.fieldLink RX7 35 "GleanDusk$Text" "gleaners" "I") (List.mem_of_getElem? (i := 5) rfl)
  have fw6 := hts (.fieldLink RX7 38 "GleanDusk$Text" "steps" "I") (List.mem_of_getElem? (i := 6) rfl)
  have fw7 := hts (.fieldLink RX7 62 "GleanDusk$Text" "number" "I") (List.mem_of_getElem? (i := 7) rfl)
  have iw7 : ∀ w ∈ wsX70, w ∈ wsX7_isItem := fun _ h => List.mem_cons_of_mem _ (List.mem_append_right _ h)
  refine lv_aload_n hx hb dX7_isItem_0 rfl (lv_at hl 0 rfl) ?_
  have hs1 : kw_Split [(tx, .inr (7, [.ref bys, .int (nI ln), .int (nI tk), .int (nI sta), .int (nI en), .int num, .ref wo, .ref fs, .ref sc, .int (nI tfi), .int (nI tgl), .int (nI tst)])), (bys, .inl (y 1, 150, .inl fby)), (wo, .inl (y 0, 25, .inl fwo)), (fs, .inl (y 0, 25, .inl ffs)), (sc, .inl (y 0, 25, .inl fsc))] [(tx, .inr (7, [.ref bys, .int (nI ln), .int (nI tk), .int (nI sta), .int (nI en), .int num, .ref wo, .ref fs, .ref sc, .int (nI tfi), .int (nI tgl), .int (nI tst)])), (bys, .inl (y 1, 150, .inl fby))] [(wo, .inl (y 0, 25, .inl fwo)), (fs, .inl (y 0, 25, .inl ffs)), (sc, .inl (y 0, 25, .inl fsc))] [0, 1] [2, 3, 4] := ⟨rfl, rfl, rfl, rfl, rfl, by decide⟩
  refine kw_go_i hs1 hP hD hS hA (va_runV (As := []) (rest := []) ⟨hx, hb, hml, hown, hts⟩ (gs_wordHere l D y aK aV tx bys wo fs sc tk ln sta en num (nI tfi) (nI tgl) (nI tst) fby hln hen hse htk _) (cwV 0 hts gX7_isItem_X7_wordHere rfl rfl rfl (by decide +kernel) ⟨Nat.le_of_ble_eq_true rfl, Nat.le_of_ble_eq_true rfl⟩) (kz_PreV (ci := 7) (q0 := 0) hs1 hP hD hK hN rfl rfl hZ hS hA) rfl rfl hl.1 rfl (lv_room (Nat.le_of_ble_eq_true rfl)) dX7_isItem_1 ⟨Nat.le_of_ble_eq_true rfl, Nat.le_of_ble_eq_true rfl⟩) (fun r2 u3 H locs hq hP hD hS => ?_)
  rcases hq with ⟨h4, h5, h6, h7, rfl⟩ | ⟨h8, rfl⟩ | ⟨h9, rfl⟩ | ⟨h10, h11, rfl⟩ | ⟨h12, h13, h14, rfl⟩
  · skip
    have hP : va_P D vwCl [(wo, .inl (y 0, 25, .inl fwo)), (fs, .inl (y 0, 25, .inl ffs)), (sc, .inl (y 0, 25, .inl fsc)), (tx, .inr (7, [.ref bys, .int (nI ln), .int (nI tk), .int (nI sta), .int (nI en), .int num, .ref wo, .ref fs, .ref sc, .int (nI tfi), .int (nI tgl), .int (nI tst)])), (bys, .inl (y 1, 150, .inl fby))] H := hP
    have hD : va_D A [(wo, .inl (y 0, 25, .inl fwo)), (fs, .inl (y 0, 25, .inl ffs)), (sc, .inl (y 0, 25, .inl fsc)), (tx, .inr (7, [.ref bys, .int (nI ln), .int (nI tk), .int (nI sta), .int (nI en), .int num, .ref wo, .ref fs, .ref sc, .int (nI tfi), .int (nI tgl), .int (nI tst)])), (bys, .inl (y 1, 150, .inl fby))] := hD
    refine lv_istore_n (lv' := [(2, .int (-1)), (0, .ref tx), (1, .int (nI k))]) hx hb dX7_isItem_4 rfl hl (by decide) rfl (fun ls hl => ?_)
    refine lv_iload_n hx hb dX7_isItem_5 rfl (lv_at hl 0 rfl) ?_
    refine lv_iconst (v := (-1)) hx hb dX7_isItem_6 (by decide) ?_
    refine lv_icmp_eq (tgt := 31) hx hb dX7_isItem_7 (by decide) (fun _ => ?_) (fun h9 => absurd h9 (by decide))
    refine lv_iconst (v := 0) hx hb dX7_isItem_31 (by decide) ?_
    exact W.zret (v := 0) hx hb hr (by decide) (fun tZ ht hW => ⟨⟨0, ((nI tk), sta, en, num, tfi, tgl, tst, fwo, ffs, fsc), rfl, ⟨by first | omega | (dsimp only; omega), by first | omega | (dsimp only; omega), by first | omega | (dsimp only; omega), by first | omega | (dsimp only; omega), by first | omega | (dsimp only; omega), Or.inl rfl, (fun _ => ks_itN h5 h6 h7), (fun h9 => absurd h9 (by decide))⟩, by rw [ht]; exact hP.sub [3, 4, 0, 1, 2] rfl, hD.sub [3, 4, 0, 1, 2] (by decide) rfl⟩, hS.F ht⟩) hS.2.2 dX7_isItem_32
  · skip
    have hP : va_P D vwCl [(wo, .inl (y 0, 25, .inl fwo)), (fs, .inl (y 0, 25, .inl ffs)), (sc, .inl (y 0, 25, .inl fsc)), (tx, .inr (7, [.ref bys, .int (nI ln), .int (nI tk), .int (nI sta), .int (nI en), .int num, .ref wo, .ref fs, .ref sc, .int (nI tfi), .int (nI tgl), .int (nI tst)])), (bys, .inl (y 1, 150, .inl fby))] H := hP
    have hD : va_D A [(wo, .inl (y 0, 25, .inl fwo)), (fs, .inl (y 0, 25, .inl ffs)), (sc, .inl (y 0, 25, .inl fsc)), (tx, .inr (7, [.ref bys, .int (nI ln), .int (nI tk), .int (nI sta), .int (nI en), .int num, .ref wo, .ref fs, .ref sc, .int (nI tfi), .int (nI tgl), .int (nI tst)])), (bys, .inl (y 1, 150, .inl fby))] := hD
    refine lv_istore_n (lv' := [(2, .int 0), (0, .ref tx), (1, .int (nI k))]) hx hb dX7_isItem_4 rfl hl (by decide) rfl (fun ls hl => ?_)
    refine lv_iload_n hx hb dX7_isItem_5 rfl (lv_at hl 0 rfl) ?_
    refine lv_iconst (v := (-1)) hx hb dX7_isItem_6 (by decide) ?_
    refine lv_icmp_eq (tgt := 31) hx hb dX7_isItem_7 (by decide) (fun h9 => absurd h9 (by decide)) (fun _ => ?_)
    refine lv_iload_n hx hb dX7_isItem_10 rfl (lv_at hl 0 rfl) ?_
    refine lv_if_ne (tgt := 18) hx hb dX7_isItem_11 (by decide) (fun h9 => absurd h9 (by decide)) (fun _ => ?_)
    refine lv_iconst (v := 1) hx hb dX7_isItem_14 (by decide) ?_
    refine lv_goto (tgt := 19) hx hb dX7_isItem_15 (by decide) ?_
    refine lv_iload_n hx hb dX7_isItem_19 rfl (lv_at hl 2 rfl) ?_
    refine lv_if_ne (tgt := 27) hx hb dX7_isItem_20 (by decide) (fun h15 => ?_) (fun h16 => ?_)
    · skip
      have h15 : ¬ k = 0 := fun q9 => h15 ((nI_eq (a := k) (b := 0) (by omega) (by omega)).mpr q9)
      refine lv_iconst (v := 0) hx hb dX7_isItem_27 (by decide) ?_
      refine lv_icmp_eq (tgt := 33) hx hb dX7_isItem_28 (by decide) (fun h9 => absurd h9 (by decide)) (fun _ => ?_)
      refine lv_iconst (v := 0) hx hb dX7_isItem_31 (by decide) ?_
      exact W.zret (v := 0) hx hb hr (by decide) (fun tZ ht hW => ⟨⟨0, ((nI tk), sta, en, num, tfi, tgl, tst, fwo, ffs, fsc), rfl, ⟨by first | omega | (dsimp only; omega), by first | omega | (dsimp only; omega), by first | omega | (dsimp only; omega), by first | omega | (dsimp only; omega), by first | omega | (dsimp only; omega), Or.inl rfl, (fun _ => ks_itN (ks_n01 h8) (ks_n02 h8) (ks_n03 h8)), (fun h9 => absurd h9 (by decide))⟩, by rw [ht]; exact hP.sub [3, 4, 0, 1, 2] rfl, hD.sub [3, 4, 0, 1, 2] (by decide) rfl⟩, hS.F ht⟩) hS.2.2 dX7_isItem_32
    · skip
      have h16 : k = 0 := (nI_eq (a := k) (b := 0) (by omega) (by omega)).mp h16
      exact absurd h16 (by omega)
  · skip
    have hP : va_P D vwCl [(wo, .inl (y 0, 25, .inl fwo)), (fs, .inl (y 0, 25, .inl ffs)), (sc, .inl (y 0, 25, .inl fsc)), (tx, .inr (7, [.ref bys, .int (nI ln), .int (nI tk), .int (nI sta), .int (nI en), .int num, .ref wo, .ref fs, .ref sc, .int (nI tfi), .int (nI tgl), .int (nI tst)])), (bys, .inl (y 1, 150, .inl fby))] H := hP
    have hD : va_D A [(wo, .inl (y 0, 25, .inl fwo)), (fs, .inl (y 0, 25, .inl ffs)), (sc, .inl (y 0, 25, .inl fsc)), (tx, .inr (7, [.ref bys, .int (nI ln), .int (nI tk), .int (nI sta), .int (nI en), .int num, .ref wo, .ref fs, .ref sc, .int (nI tfi), .int (nI tgl), .int (nI tst)])), (bys, .inl (y 1, 150, .inl fby))] := hD
    refine lv_istore_n (lv' := [(2, .int 1), (0, .ref tx), (1, .int (nI k))]) hx hb dX7_isItem_4 rfl hl (by decide) rfl (fun ls hl => ?_)
    refine lv_iload_n hx hb dX7_isItem_5 rfl (lv_at hl 0 rfl) ?_
    refine lv_iconst (v := (-1)) hx hb dX7_isItem_6 (by decide) ?_
    refine lv_icmp_eq (tgt := 31) hx hb dX7_isItem_7 (by decide) (fun h9 => absurd h9 (by decide)) (fun _ => ?_)
    refine lv_iload_n hx hb dX7_isItem_10 rfl (lv_at hl 0 rfl) ?_
    refine lv_if_ne (tgt := 18) hx hb dX7_isItem_11 (by decide) (fun _ => ?_) (fun h9 => absurd h9 (by decide))
    refine lv_iconst (v := 0) hx hb dX7_isItem_18 (by decide) ?_
    refine lv_iload_n hx hb dX7_isItem_19 rfl (lv_at hl 2 rfl) ?_
    refine lv_if_ne (tgt := 27) hx hb dX7_isItem_20 (by decide) (fun h17 => ?_) (fun h18 => ?_)
    · skip
      have h17 : ¬ k = 0 := fun q9 => h17 ((nI_eq (a := k) (b := 0) (by omega) (by omega)).mpr q9)
      refine lv_iconst (v := 0) hx hb dX7_isItem_27 (by decide) ?_
      refine lv_icmp_eq (tgt := 33) hx hb dX7_isItem_28 (by decide) (fun _ => ?_) (fun h9 => absurd h9 (by decide))
      refine lv_aload_n hx hb dX7_isItem_33 rfl (lv_at hl 1 rfl) ?_
      refine va_get (D := D) (ci := 7) (v := .ref wo) (C := RX7) (T := TX7) (N := 12) hx hb hts iw7 hown hK hP 3 rfl rfl 6 (by decide) fw1 (fun _ h9 => h9) rfl dX7_isItem_34 ?_
      refine lv_iload_n hx hb dX7_isItem_37 rfl (lv_at hl 2 rfl) ?_
      refine lv_iload_n hx hb dX7_isItem_38 rfl (lv_at hl 0 rfl) ?_
      refine va_iast hx hb hK hP hD hS 0 0 rfl rfl (vp_in_nI (by omega) (by decide)) dX7_isItem_39 (fun H locs hP hD hS => ?_)
      rw [nI_clamp (n := k) (by omega)] at hP hD
      have hP : va_P D vwCl [(wo, .inl (y 0, 25, .inl (upd fwo k 1))), (fs, .inl (y 0, 25, .inl ffs)), (sc, .inl (y 0, 25, .inl fsc)), (tx, .inr (7, [.ref bys, .int (nI ln), .int (nI tk), .int (nI sta), .int (nI en), .int num, .ref wo, .ref fs, .ref sc, .int (nI tfi), .int (nI tgl), .int (nI tst)])), (bys, .inl (y 1, 150, .inl fby))] H := hP
      have hD : va_D A [(wo, .inl (y 0, 25, .inl (upd fwo k 1))), (fs, .inl (y 0, 25, .inl ffs)), (sc, .inl (y 0, 25, .inl fsc)), (tx, .inr (7, [.ref bys, .int (nI ln), .int (nI tk), .int (nI sta), .int (nI en), .int num, .ref wo, .ref fs, .ref sc, .int (nI tfi), .int (nI tgl), .int (nI tst)])), (bys, .inl (y 1, 150, .inl fby))] := hD
      refine lv_iload_n hx hb dX7_isItem_40 rfl (lv_at hl 0 rfl) ?_
      refine lv_tableIn (off := 40) (tgt := 81) hx hb dX7_isItem_41 (by decide) (by decide) (by decide +kernel) (by decide) ?_
      refine lv_aload_n hx hb dX7_isItem_81 rfl (lv_at hl 1 rfl) ?_
      refine lv_dup hx hb dX7_isItem_82 rfl ?_
      refine va_get (D := D) (ci := 7) (v := .int (nI tfi)) (C := RX7) (T := TX7) (N := 12) hx hb hts iw7 hown hK hP 3 rfl rfl 9 (by decide) fw2 (fun _ h9 => h9) rfl dX7_isItem_83 ?_
      refine lv_iconst (v := 1) hx hb dX7_isItem_86 (by decide) ?_
      refine lv_iadd hx hb dX7_isItem_87 ?_
      rw [show (nI tfi) + 1 = nI (tfi + 1) from nI_add tfi 1]
      refine va_put (D := D) (ci := 7) (v := .int (nI (tfi + 1))) (ty := .int) (C := RX7) (T := TX7) (N := 12) hx hb hts iw7 tyX7 tyX7_ok nmX7 hown hK hP hD hS 3 rfl rfl 9 (by decide) fw2 (fun _ h9 => h9) rfl (by decide +kernel) rfl rfl (Nat.le_of_ble_eq_true rfl) dX7_isItem_88 (fun H locs hP hD hS => ?_)
      have hP : va_P D vwCl [(wo, .inl (y 0, 25, .inl (upd fwo k 1))), (fs, .inl (y 0, 25, .inl ffs)), (sc, .inl (y 0, 25, .inl fsc)), (tx, .inr (7, [.ref bys, .int (nI ln), .int (nI tk), .int (nI sta), .int (nI en), .int num, .ref wo, .ref fs, .ref sc, .int (nI (tfi + 1)), .int (nI tgl), .int (nI tst)])), (bys, .inl (y 1, 150, .inl fby))] H := hP
      have hD : va_D A [(wo, .inl (y 0, 25, .inl (upd fwo k 1))), (fs, .inl (y 0, 25, .inl ffs)), (sc, .inl (y 0, 25, .inl fsc)), (tx, .inr (7, [.ref bys, .int (nI ln), .int (nI tk), .int (nI sta), .int (nI en), .int num, .ref wo, .ref fs, .ref sc, .int (nI (tfi + 1)), .int (nI tgl), .int (nI tst)])), (bys, .inl (y 1, 150, .inl fby))] := hD
      refine lv_aload_n hx hb dX7_isItem_91 rfl (lv_at hl 1 rfl) ?_
      refine va_get (D := D) (ci := 7) (v := .int (nI (tfi + 1))) (C := RX7) (T := TX7) (N := 12) hx hb hts iw7 hown hK hP 3 rfl rfl 9 (by decide) fw2 (fun _ h9 => h9) rfl dX7_isItem_92 ?_
      refine lv_bipush (v := 6) hx hb dX7_isItem_95 (by decide) ?_
      refine lv_icmp_gt (tgt := 133) hx hb dX7_isItem_97 (by decide) (fun h19 => ?_) (fun h20 => ?_)
      · skip
        have h19 : 6 < (tfi + 1) := (nI_ltI (a := 6) (b := (tfi + 1)) (by omega) (by omega)).mp h19
        refine lv_iconst (v := 0) hx hb dX7_isItem_133 (by decide) ?_
        exact W.zret (v := 0) hx hb hr (by decide) (fun tZ ht hW => ⟨⟨0, ((nI tk), sta, en, num, tfi + 1, tgl, tst, (upd fwo k 1), ffs, fsc), rfl, ⟨by first | omega | (dsimp only; omega), by first | omega | (dsimp only; omega), by first | omega | (dsimp only; omega), by first | omega | (dsimp only; omega), by first | omega | (dsimp only; omega), Or.inl rfl, (fun _ => (ks_it1 h9).trans (ks_fld6 (by first | omega | (dsimp only; omega)))), (fun h9 => absurd h9 (by decide))⟩, by rw [ht]; exact hP.sub [3, 4, 0, 1, 2] rfl, hD.sub [3, 4, 0, 1, 2] (by decide) rfl⟩, hS.F ht⟩) hS.2.2 dX7_isItem_134
      · skip
        have h20 : ¬ 6 < (tfi + 1) := fun q9 => h20 ((nI_ltI (a := 6) (b := (tfi + 1)) (by omega) (by omega)).mpr q9)
        refine lv_aload_n hx hb dX7_isItem_100 rfl (lv_at hl 1 rfl) ?_
        refine lv_aload_n hx hb dX7_isItem_101 rfl (lv_at hl 1 rfl) ?_
        refine va_get (D := D) (ci := 7) (v := .ref fs) (C := RX7) (T := TX7) (N := 12) hx hb hts iw7 hown hK hP 3 rfl rfl 7 (by decide) fw3 (fun _ h9 => h9) rfl dX7_isItem_102 ?_
        refine lv_iload_n hx hb dX7_isItem_105 rfl (lv_at hl 2 rfl) ?_
        refine lv_iconst (v := 0) hx hb dX7_isItem_106 (by decide) ?_
        refine lv_iconst (v := 5) hx hb dX7_isItem_107 (by decide) ?_
        have hs21 : kw_Split [(wo, .inl (y 0, 25, .inl (upd fwo k 1))), (fs, .inl (y 0, 25, .inl ffs)), (sc, .inl (y 0, 25, .inl fsc)), (tx, .inr (7, [.ref bys, .int (nI ln), .int (nI tk), .int (nI sta), .int (nI en), .int num, .ref wo, .ref fs, .ref sc, .int (nI (tfi + 1)), .int (nI tgl), .int (nI tst)])), (bys, .inl (y 1, 150, .inl fby))] [(tx, .inr (7, [.ref bys, .int (nI ln), .int (nI tk), .int (nI sta), .int (nI en), .int num, .ref wo, .ref fs, .ref sc, .int (nI (tfi + 1)), .int (nI tgl), .int (nI tst)])), (bys, .inl (y 1, 150, .inl fby)), (fs, .inl (y 0, 25, .inl ffs))] [(wo, .inl (y 0, 25, .inl (upd fwo k 1))), (sc, .inl (y 0, 25, .inl fsc))] [3, 4, 1] [0, 2] := ⟨rfl, rfl, rfl, rfl, rfl, by decide⟩
        refine kw_go_i hs21 hP hD hS hA (va_runV (As := [.ref fs, .int (nI k), .int 0, .int 5]) (rest := []) ⟨hx, hb, hml, hown, hts⟩ (gs_takes l D y tx bys wo fs sc ln sta en (nI tk) num (nI (tfi + 1)) (nI tgl) (nI tst) fby fs ffs k 0 5 hln hen hk (by omega) (by omega) _) (cwV 4 hts gX7_isItem_X7_takes rfl rfl rfl (by decide +kernel) ⟨Nat.le_of_ble_eq_true rfl, Nat.le_of_ble_eq_true rfl⟩) (kw_PreV (ci := 7) (q0 := 3) hs21 hP hD hK hN rfl rfl) rfl rfl hl.1 rfl (lv_room (Nat.le_of_ble_eq_true rfl)) dX7_isItem_108 ⟨Nat.le_of_ble_eq_true rfl, Nat.le_of_ble_eq_true rfl⟩) (fun r22 u23 H locs hq hP hD hS => ?_)
        obtain ⟨v24, v25⟩ := u23
        try dsimp only at hq
        obtain ⟨(rfl | rfl), h26, h27, h28, h29, h30⟩ := hq
        · skip
          have hP : va_P D vwCl [(wo, .inl (y 0, 25, .inl (upd fwo k 1))), (sc, .inl (y 0, 25, .inl fsc)), (tx, .inr (7, [.ref bys, .int (nI ln), .int (nI (ks_K fby ln en)), .int (nI (ks_S fby ln en)), .int (nI (ks_E fby ln en)), .int v24, .ref wo, .ref fs, .ref sc, .int (nI (tfi + 1)), .int (nI tgl), .int (nI tst)])), (bys, .inl (y 1, 150, .inl fby)), (fs, .inl (y 0, 25, .inl v25))] H := hP
          have hD : va_D A [(wo, .inl (y 0, 25, .inl (upd fwo k 1))), (sc, .inl (y 0, 25, .inl fsc)), (tx, .inr (7, [.ref bys, .int (nI ln), .int (nI (ks_K fby ln en)), .int (nI (ks_S fby ln en)), .int (nI (ks_E fby ln en)), .int v24, .ref wo, .ref fs, .ref sc, .int (nI (tfi + 1)), .int (nI tgl), .int (nI tst)])), (bys, .inl (y 1, 150, .inl fby)), (fs, .inl (y 0, 25, .inl v25))] := hD
          have h30 : ¬ ks_nm fby ln en 0 5 = true := h30 rfl
          refine lv_if_eq (tgt := 133) hx hb dX7_isItem_111 (by decide) (fun _ => ?_) (fun h9 => absurd h9 (by decide))
          refine lv_iconst (v := 0) hx hb dX7_isItem_133 (by decide) ?_
          exact W.zret (v := 0) hx hb hr (by decide) (fun tZ ht hW => ⟨⟨0, ((nI (ks_K fby ln en)), ks_S fby ln en, ks_E fby ln en, v24, tfi + 1, tgl, tst, (upd fwo k 1), v25, fsc), rfl, ⟨by first | omega | (dsimp only; omega), by first | omega | (dsimp only; omega), by first | omega | (dsimp only; omega), by first | omega | (dsimp only; omega), by first | omega | (dsimp only; omega), Or.inl rfl, (fun _ => (ks_it1 h9).trans (ks_fldA (by first | omega | (dsimp only; omega)) h30)), (fun h9 => absurd h9 (by decide))⟩, by rw [ht]; exact hP.sub [2, 3, 0, 4, 1] rfl, hD.sub [2, 3, 0, 4, 1] (by decide) rfl⟩, hS.F ht⟩) hS.2.2 dX7_isItem_134
        · skip
          have hP : va_P D vwCl [(wo, .inl (y 0, 25, .inl (upd fwo k 1))), (sc, .inl (y 0, 25, .inl fsc)), (tx, .inr (7, [.ref bys, .int (nI ln), .int (nI (ks_K fby ln en)), .int (nI (ks_S fby ln en)), .int (nI (ks_E fby ln en)), .int v24, .ref wo, .ref fs, .ref sc, .int (nI (tfi + 1)), .int (nI tgl), .int (nI tst)])), (bys, .inl (y 1, 150, .inl fby)), (fs, .inl (y 0, 25, .inl v25))] H := hP
          have hD : va_D A [(wo, .inl (y 0, 25, .inl (upd fwo k 1))), (sc, .inl (y 0, 25, .inl fsc)), (tx, .inr (7, [.ref bys, .int (nI ln), .int (nI (ks_K fby ln en)), .int (nI (ks_S fby ln en)), .int (nI (ks_E fby ln en)), .int v24, .ref wo, .ref fs, .ref sc, .int (nI (tfi + 1)), .int (nI tgl), .int (nI tst)])), (bys, .inl (y 1, 150, .inl fby)), (fs, .inl (y 0, 25, .inl v25))] := hD
          have h29 : ks_nm fby ln en 0 5 = true ∧ v25 = upd ffs k (nI (ks_V fby ln en)) ∧ v24 = nI (ks_V fby ln en) := h29 rfl
          obtain ⟨h31, h32, h33⟩ := h29
          have h32 := h32.symm
          subst h32
          have h33 := h33.symm
          subst h33
          have hP : va_P D vwCl [(wo, .inl (y 0, 25, .inl (upd fwo k 1))), (sc, .inl (y 0, 25, .inl fsc)), (tx, .inr (7, [.ref bys, .int (nI ln), .int (nI (ks_K fby ln en)), .int (nI (ks_S fby ln en)), .int (nI (ks_E fby ln en)), .int (nI (ks_V fby ln en)), .ref wo, .ref fs, .ref sc, .int (nI (tfi + 1)), .int (nI tgl), .int (nI tst)])), (bys, .inl (y 1, 150, .inl fby)), (fs, .inl (y 0, 25, .inl (upd ffs k (nI (ks_V fby ln en)))))] H := hP
          have hD : va_D A [(wo, .inl (y 0, 25, .inl (upd fwo k 1))), (sc, .inl (y 0, 25, .inl fsc)), (tx, .inr (7, [.ref bys, .int (nI ln), .int (nI (ks_K fby ln en)), .int (nI (ks_S fby ln en)), .int (nI (ks_E fby ln en)), .int (nI (ks_V fby ln en)), .ref wo, .ref fs, .ref sc, .int (nI (tfi + 1)), .int (nI tgl), .int (nI tst)])), (bys, .inl (y 1, 150, .inl fby)), (fs, .inl (y 0, 25, .inl (upd ffs k (nI (ks_V fby ln en)))))] := hD
          refine lv_if_eq (tgt := 133) hx hb dX7_isItem_111 (by decide) (fun h9 => absurd h9 (by decide)) (fun _ => ?_)
          refine lv_aload_n hx hb dX7_isItem_114 rfl (lv_at hl 1 rfl) ?_
          refine lv_aload_n hx hb dX7_isItem_115 rfl (lv_at hl 1 rfl) ?_
          refine va_get (D := D) (ci := 7) (v := .ref sc) (C := RX7) (T := TX7) (N := 12) hx hb hts iw7 hown hK hP 2 rfl rfl 8 (by decide) fw4 (fun _ h9 => h9) rfl dX7_isItem_116 ?_
          refine lv_iload_n hx hb dX7_isItem_119 rfl (lv_at hl 2 rfl) ?_
          refine lv_iconst (v := 0) hx hb dX7_isItem_120 (by decide) ?_
          refine lv_bipush (v := 60) hx hb dX7_isItem_121 (by decide) ?_
          have hs34 : kw_Split [(wo, .inl (y 0, 25, .inl (upd fwo k 1))), (sc, .inl (y 0, 25, .inl fsc)), (tx, .inr (7, [.ref bys, .int (nI ln), .int (nI (ks_K fby ln en)), .int (nI (ks_S fby ln en)), .int (nI (ks_E fby ln en)), .int (nI (ks_V fby ln en)), .ref wo, .ref fs, .ref sc, .int (nI (tfi + 1)), .int (nI tgl), .int (nI tst)])), (bys, .inl (y 1, 150, .inl fby)), (fs, .inl (y 0, 25, .inl (upd ffs k (nI (ks_V fby ln en)))))] [(tx, .inr (7, [.ref bys, .int (nI ln), .int (nI (ks_K fby ln en)), .int (nI (ks_S fby ln en)), .int (nI (ks_E fby ln en)), .int (nI (ks_V fby ln en)), .ref wo, .ref fs, .ref sc, .int (nI (tfi + 1)), .int (nI tgl), .int (nI tst)])), (bys, .inl (y 1, 150, .inl fby)), (sc, .inl (y 0, 25, .inl fsc))] [(wo, .inl (y 0, 25, .inl (upd fwo k 1))), (fs, .inl (y 0, 25, .inl (upd ffs k (nI (ks_V fby ln en)))))] [2, 3, 1] [0, 4] := ⟨rfl, rfl, rfl, rfl, rfl, by decide⟩
          refine kw_go_i hs34 hP hD hS hA (va_runV (As := [.ref sc, .int (nI k), .int 0, .int 60]) (rest := []) ⟨hx, hb, hml, hown, hts⟩ (gs_takes l D y tx bys wo fs sc ln (ks_S fby ln en) (ks_E fby ln en) (nI (ks_K fby ln en)) (nI (ks_V fby ln en)) (nI (tfi + 1)) (nI tgl) (nI tst) fby sc fsc k 0 60 hln (by omega) hk (by omega) (by omega) _) (cwV 4 hts gX7_isItem_X7_takes rfl rfl rfl (by decide +kernel) ⟨Nat.le_of_ble_eq_true rfl, Nat.le_of_ble_eq_true rfl⟩) (kw_PreV (ci := 7) (q0 := 2) hs34 hP hD hK hN rfl rfl) rfl rfl hl.1 rfl (lv_room (Nat.le_of_ble_eq_true rfl)) dX7_isItem_123 ⟨Nat.le_of_ble_eq_true rfl, Nat.le_of_ble_eq_true rfl⟩) (fun r35 u36 H locs hq hP hD hS => ?_)
          obtain ⟨v37, v38⟩ := u36
          try dsimp only at hq
          obtain ⟨(rfl | rfl), h39, h40, h41, h42, h43⟩ := hq
          · skip
            have hP : va_P D vwCl [(wo, .inl (y 0, 25, .inl (upd fwo k 1))), (fs, .inl (y 0, 25, .inl (upd ffs k (nI (ks_V fby ln en))))), (tx, .inr (7, [.ref bys, .int (nI ln), .int (nI (ks_K fby ln (ks_E fby ln en))), .int (nI (ks_S fby ln (ks_E fby ln en))), .int (nI (ks_E fby ln (ks_E fby ln en))), .int v37, .ref wo, .ref fs, .ref sc, .int (nI (tfi + 1)), .int (nI tgl), .int (nI tst)])), (bys, .inl (y 1, 150, .inl fby)), (sc, .inl (y 0, 25, .inl v38))] H := hP
            have hD : va_D A [(wo, .inl (y 0, 25, .inl (upd fwo k 1))), (fs, .inl (y 0, 25, .inl (upd ffs k (nI (ks_V fby ln en))))), (tx, .inr (7, [.ref bys, .int (nI ln), .int (nI (ks_K fby ln (ks_E fby ln en))), .int (nI (ks_S fby ln (ks_E fby ln en))), .int (nI (ks_E fby ln (ks_E fby ln en))), .int v37, .ref wo, .ref fs, .ref sc, .int (nI (tfi + 1)), .int (nI tgl), .int (nI tst)])), (bys, .inl (y 1, 150, .inl fby)), (sc, .inl (y 0, 25, .inl v38))] := hD
            have h43 : ¬ ks_nm fby ln (ks_E fby ln en) 0 60 = true := h43 rfl
            refine lv_if_eq (tgt := 133) hx hb dX7_isItem_126 (by decide) (fun _ => ?_) (fun h9 => absurd h9 (by decide))
            refine lv_iconst (v := 0) hx hb dX7_isItem_133 (by decide) ?_
            exact W.zret (v := 0) hx hb hr (by decide) (fun tZ ht hW => ⟨⟨0, ((nI (ks_K fby ln (ks_E fby ln en))), ks_S fby ln (ks_E fby ln en), ks_E fby ln (ks_E fby ln en), v37, tfi + 1, tgl, tst, (upd fwo k 1), (upd ffs k (nI (ks_V fby ln en))), v38), rfl, ⟨by first | omega | (dsimp only; omega), by first | omega | (dsimp only; omega), by first | omega | (dsimp only; omega), by first | omega | (dsimp only; omega), by first | omega | (dsimp only; omega), Or.inl rfl, (fun _ => (ks_it1 h9).trans (ks_fldB (by first | omega | (dsimp only; omega)) h31 h43)), (fun h9 => absurd h9 (by decide))⟩, by rw [ht]; exact hP.sub [2, 3, 0, 1, 4] rfl, hD.sub [2, 3, 0, 1, 4] (by decide) rfl⟩, hS.F ht⟩) hS.2.2 dX7_isItem_134
          · skip
            have hP : va_P D vwCl [(wo, .inl (y 0, 25, .inl (upd fwo k 1))), (fs, .inl (y 0, 25, .inl (upd ffs k (nI (ks_V fby ln en))))), (tx, .inr (7, [.ref bys, .int (nI ln), .int (nI (ks_K fby ln (ks_E fby ln en))), .int (nI (ks_S fby ln (ks_E fby ln en))), .int (nI (ks_E fby ln (ks_E fby ln en))), .int v37, .ref wo, .ref fs, .ref sc, .int (nI (tfi + 1)), .int (nI tgl), .int (nI tst)])), (bys, .inl (y 1, 150, .inl fby)), (sc, .inl (y 0, 25, .inl v38))] H := hP
            have hD : va_D A [(wo, .inl (y 0, 25, .inl (upd fwo k 1))), (fs, .inl (y 0, 25, .inl (upd ffs k (nI (ks_V fby ln en))))), (tx, .inr (7, [.ref bys, .int (nI ln), .int (nI (ks_K fby ln (ks_E fby ln en))), .int (nI (ks_S fby ln (ks_E fby ln en))), .int (nI (ks_E fby ln (ks_E fby ln en))), .int v37, .ref wo, .ref fs, .ref sc, .int (nI (tfi + 1)), .int (nI tgl), .int (nI tst)])), (bys, .inl (y 1, 150, .inl fby)), (sc, .inl (y 0, 25, .inl v38))] := hD
            have h42 : ks_nm fby ln (ks_E fby ln en) 0 60 = true ∧ v38 = upd fsc k (nI (ks_V fby ln (ks_E fby ln en))) ∧ v37 = nI (ks_V fby ln (ks_E fby ln en)) := h42 rfl
            obtain ⟨h44, h45, h46⟩ := h42
            have h45 := h45.symm
            subst h45
            have h46 := h46.symm
            subst h46
            have hP : va_P D vwCl [(wo, .inl (y 0, 25, .inl (upd fwo k 1))), (fs, .inl (y 0, 25, .inl (upd ffs k (nI (ks_V fby ln en))))), (tx, .inr (7, [.ref bys, .int (nI ln), .int (nI (ks_K fby ln (ks_E fby ln en))), .int (nI (ks_S fby ln (ks_E fby ln en))), .int (nI (ks_E fby ln (ks_E fby ln en))), .int (nI (ks_V fby ln (ks_E fby ln en))), .ref wo, .ref fs, .ref sc, .int (nI (tfi + 1)), .int (nI tgl), .int (nI tst)])), (bys, .inl (y 1, 150, .inl fby)), (sc, .inl (y 0, 25, .inl (upd fsc k (nI (ks_V fby ln (ks_E fby ln en))))))] H := hP
            have hD : va_D A [(wo, .inl (y 0, 25, .inl (upd fwo k 1))), (fs, .inl (y 0, 25, .inl (upd ffs k (nI (ks_V fby ln en))))), (tx, .inr (7, [.ref bys, .int (nI ln), .int (nI (ks_K fby ln (ks_E fby ln en))), .int (nI (ks_S fby ln (ks_E fby ln en))), .int (nI (ks_E fby ln (ks_E fby ln en))), .int (nI (ks_V fby ln (ks_E fby ln en))), .ref wo, .ref fs, .ref sc, .int (nI (tfi + 1)), .int (nI tgl), .int (nI tst)])), (bys, .inl (y 1, 150, .inl fby)), (sc, .inl (y 0, 25, .inl (upd fsc k (nI (ks_V fby ln (ks_E fby ln en))))))] := hD
            refine lv_if_eq (tgt := 133) hx hb dX7_isItem_126 (by decide) (fun h9 => absurd h9 (by decide)) (fun _ => ?_)
            refine lv_iconst (v := 1) hx hb dX7_isItem_129 (by decide) ?_
            refine lv_goto (tgt := 134) hx hb dX7_isItem_130 (by decide) ?_
            exact W.zret (v := 1) hx hb hr (by decide) (fun tZ ht hW => ⟨⟨1, ((nI (ks_K fby ln (ks_E fby ln en))), ks_S fby ln (ks_E fby ln en), ks_E fby ln (ks_E fby ln en), (nI (ks_V fby ln (ks_E fby ln en))), tfi + 1, tgl, tst, (upd fwo k 1), (upd ffs k (nI (ks_V fby ln en))), (upd fsc k (nI (ks_V fby ln (ks_E fby ln en))))), rfl, ⟨by first | omega | (dsimp only; omega), by first | omega | (dsimp only; omega), by first | omega | (dsimp only; omega), by first | omega | (dsimp only; omega), by first | omega | (dsimp only; omega), Or.inr rfl, (fun h9 => absurd h9 (by decide)), (fun _ => kz_g1.mk ((ks_it1 h9).trans (ks_fldC (by first | omega | (dsimp only; omega)) h31 h44)) (kz_oE_1 hok (by first | omega | (dsimp only; omega)) (by first | omega | (dsimp only; omega)) (vp_in_nI (by have q9 := (ks_nm_v h31).2.2; first | omega | (dsimp only; omega)) (by decide))) (by have q1 := (ks_len1 h9).2; have q2 := ks_nm_E (by first | omega | (dsimp only; omega)) h31; have q3 := ks_nm_E (by first | omega | (dsimp only; omega)) h44; first | omega | (dsimp only; omega)))⟩, by rw [ht]; exact hP.sub [2, 3, 0, 1, 4] rfl, hD.sub [2, 3, 0, 1, 4] (by decide) rfl⟩, hS.F ht⟩) hS.2.2 dX7_isItem_134
    · skip
      have h18 : k = 0 := (nI_eq (a := k) (b := 0) (by omega) (by omega)).mp h18
      exact absurd h18 (by omega)
  · skip
    have hP : va_P D vwCl [(wo, .inl (y 0, 25, .inl fwo)), (fs, .inl (y 0, 25, .inl ffs)), (sc, .inl (y 0, 25, .inl fsc)), (tx, .inr (7, [.ref bys, .int (nI ln), .int (nI tk), .int (nI sta), .int (nI en), .int num, .ref wo, .ref fs, .ref sc, .int (nI tfi), .int (nI tgl), .int (nI tst)])), (bys, .inl (y 1, 150, .inl fby))] H := hP
    have hD : va_D A [(wo, .inl (y 0, 25, .inl fwo)), (fs, .inl (y 0, 25, .inl ffs)), (sc, .inl (y 0, 25, .inl fsc)), (tx, .inr (7, [.ref bys, .int (nI ln), .int (nI tk), .int (nI sta), .int (nI en), .int num, .ref wo, .ref fs, .ref sc, .int (nI tfi), .int (nI tgl), .int (nI tst)])), (bys, .inl (y 1, 150, .inl fby))] := hD
    refine lv_istore_n (lv' := [(2, .int 2), (0, .ref tx), (1, .int (nI k))]) hx hb dX7_isItem_4 rfl hl (by decide) rfl (fun ls hl => ?_)
    refine lv_iload_n hx hb dX7_isItem_5 rfl (lv_at hl 0 rfl) ?_
    refine lv_iconst (v := (-1)) hx hb dX7_isItem_6 (by decide) ?_
    refine lv_icmp_eq (tgt := 31) hx hb dX7_isItem_7 (by decide) (fun h9 => absurd h9 (by decide)) (fun _ => ?_)
    refine lv_iload_n hx hb dX7_isItem_10 rfl (lv_at hl 0 rfl) ?_
    refine lv_if_ne (tgt := 18) hx hb dX7_isItem_11 (by decide) (fun _ => ?_) (fun h9 => absurd h9 (by decide))
    refine lv_iconst (v := 0) hx hb dX7_isItem_18 (by decide) ?_
    refine lv_iload_n hx hb dX7_isItem_19 rfl (lv_at hl 2 rfl) ?_
    refine lv_if_ne (tgt := 27) hx hb dX7_isItem_20 (by decide) (fun h47 => ?_) (fun h48 => ?_)
    · skip
      have h47 : ¬ k = 0 := fun q9 => h47 ((nI_eq (a := k) (b := 0) (by omega) (by omega)).mpr q9)
      refine lv_iconst (v := 0) hx hb dX7_isItem_27 (by decide) ?_
      refine lv_icmp_eq (tgt := 33) hx hb dX7_isItem_28 (by decide) (fun _ => ?_) (fun h9 => absurd h9 (by decide))
      refine lv_aload_n hx hb dX7_isItem_33 rfl (lv_at hl 1 rfl) ?_
      refine va_get (D := D) (ci := 7) (v := .ref wo) (C := RX7) (T := TX7) (N := 12) hx hb hts iw7 hown hK hP 3 rfl rfl 6 (by decide) fw1 (fun _ h9 => h9) rfl dX7_isItem_34 ?_
      refine lv_iload_n hx hb dX7_isItem_37 rfl (lv_at hl 2 rfl) ?_
      refine lv_iload_n hx hb dX7_isItem_38 rfl (lv_at hl 0 rfl) ?_
      refine va_iast hx hb hK hP hD hS 0 0 rfl rfl (vp_in_nI (by omega) (by decide)) dX7_isItem_39 (fun H locs hP hD hS => ?_)
      rw [nI_clamp (n := k) (by omega)] at hP hD
      have hP : va_P D vwCl [(wo, .inl (y 0, 25, .inl (upd fwo k 2))), (fs, .inl (y 0, 25, .inl ffs)), (sc, .inl (y 0, 25, .inl fsc)), (tx, .inr (7, [.ref bys, .int (nI ln), .int (nI tk), .int (nI sta), .int (nI en), .int num, .ref wo, .ref fs, .ref sc, .int (nI tfi), .int (nI tgl), .int (nI tst)])), (bys, .inl (y 1, 150, .inl fby))] H := hP
      have hD : va_D A [(wo, .inl (y 0, 25, .inl (upd fwo k 2))), (fs, .inl (y 0, 25, .inl ffs)), (sc, .inl (y 0, 25, .inl fsc)), (tx, .inr (7, [.ref bys, .int (nI ln), .int (nI tk), .int (nI sta), .int (nI en), .int num, .ref wo, .ref fs, .ref sc, .int (nI tfi), .int (nI tgl), .int (nI tst)])), (bys, .inl (y 1, 150, .inl fby))] := hD
      refine lv_iload_n hx hb dX7_isItem_40 rfl (lv_at hl 0 rfl) ?_
      refine lv_tableIn (off := 94) (tgt := 135) hx hb dX7_isItem_41 (by decide) (by decide) (by decide +kernel) (by decide) ?_
      refine lv_aload_n hx hb dX7_isItem_135 rfl (lv_at hl 1 rfl) ?_
      refine lv_dup hx hb dX7_isItem_136 rfl ?_
      refine va_get (D := D) (ci := 7) (v := .int (nI tgl)) (C := RX7) (T := TX7) (N := 12) hx hb hts iw7 hown hK hP 3 rfl rfl 10 (by decide) fw5 (fun _ h9 => h9) rfl dX7_isItem_137 ?_
      refine lv_iconst (v := 1) hx hb dX7_isItem_140 (by decide) ?_
      refine lv_iadd hx hb dX7_isItem_141 ?_
      rw [show (nI tgl) + 1 = nI (tgl + 1) from nI_add tgl 1]
      refine va_put (D := D) (ci := 7) (v := .int (nI (tgl + 1))) (ty := .int) (C := RX7) (T := TX7) (N := 12) hx hb hts iw7 tyX7 tyX7_ok nmX7 hown hK hP hD hS 3 rfl rfl 10 (by decide) fw5 (fun _ h9 => h9) rfl (by decide +kernel) rfl rfl (Nat.le_of_ble_eq_true rfl) dX7_isItem_142 (fun H locs hP hD hS => ?_)
      have hP : va_P D vwCl [(wo, .inl (y 0, 25, .inl (upd fwo k 2))), (fs, .inl (y 0, 25, .inl ffs)), (sc, .inl (y 0, 25, .inl fsc)), (tx, .inr (7, [.ref bys, .int (nI ln), .int (nI tk), .int (nI sta), .int (nI en), .int num, .ref wo, .ref fs, .ref sc, .int (nI tfi), .int (nI (tgl + 1)), .int (nI tst)])), (bys, .inl (y 1, 150, .inl fby))] H := hP
      have hD : va_D A [(wo, .inl (y 0, 25, .inl (upd fwo k 2))), (fs, .inl (y 0, 25, .inl ffs)), (sc, .inl (y 0, 25, .inl fsc)), (tx, .inr (7, [.ref bys, .int (nI ln), .int (nI tk), .int (nI sta), .int (nI en), .int num, .ref wo, .ref fs, .ref sc, .int (nI tfi), .int (nI (tgl + 1)), .int (nI tst)])), (bys, .inl (y 1, 150, .inl fby))] := hD
      refine lv_aload_n hx hb dX7_isItem_145 rfl (lv_at hl 1 rfl) ?_
      refine va_get (D := D) (ci := 7) (v := .int (nI (tgl + 1))) (C := RX7) (T := TX7) (N := 12) hx hb hts iw7 hown hK hP 3 rfl rfl 10 (by decide) fw5 (fun _ h9 => h9) rfl dX7_isItem_146 ?_
      refine lv_iconst (v := 5) hx hb dX7_isItem_149 (by decide) ?_
      refine lv_icmp_gt (tgt := 176) hx hb dX7_isItem_150 (by decide) (fun h49 => ?_) (fun h50 => ?_)
      · skip
        have h49 : 5 < (tgl + 1) := (nI_ltI (a := 5) (b := (tgl + 1)) (by omega) (by omega)).mp h49
        refine lv_iconst (v := 0) hx hb dX7_isItem_176 (by decide) ?_
        exact W.zret (v := 0) hx hb hr (by decide) (fun tZ ht hW => ⟨⟨0, ((nI tk), sta, en, num, tfi, tgl + 1, tst, (upd fwo k 2), ffs, fsc), rfl, ⟨by first | omega | (dsimp only; omega), by first | omega | (dsimp only; omega), by first | omega | (dsimp only; omega), by first | omega | (dsimp only; omega), by first | omega | (dsimp only; omega), Or.inl rfl, (fun _ => (ks_it2 h11 h10).trans (ks_glr5 (by first | omega | (dsimp only; omega)))), (fun h9 => absurd h9 (by decide))⟩, by rw [ht]; exact hP.sub [3, 4, 0, 1, 2] rfl, hD.sub [3, 4, 0, 1, 2] (by decide) rfl⟩, hS.F ht⟩) hS.2.2 dX7_isItem_177
      · skip
        have h50 : ¬ 5 < (tgl + 1) := fun q9 => h50 ((nI_ltI (a := 5) (b := (tgl + 1)) (by omega) (by omega)).mpr q9)
        refine lv_aload_n hx hb dX7_isItem_153 rfl (lv_at hl 1 rfl) ?_
        refine lv_aload_n hx hb dX7_isItem_154 rfl (lv_at hl 1 rfl) ?_
        refine va_get (D := D) (ci := 7) (v := .ref fs) (C := RX7) (T := TX7) (N := 12) hx hb hts iw7 hown hK hP 3 rfl rfl 7 (by decide) fw3 (fun _ h9 => h9) rfl dX7_isItem_155 ?_
        refine lv_iload_n hx hb dX7_isItem_158 rfl (lv_at hl 2 rfl) ?_
        refine lv_iconst (v := 0) hx hb dX7_isItem_159 (by decide) ?_
        rcases (show tfi = 0 ∨ ∃ tq, tfi = tq + 1 from by rcases tfi with _ | z; exact Or.inl rfl; exact Or.inr ⟨z, rfl⟩) with rfl | ⟨tq, rfl⟩
        · skip
          refine lv_aload_n hx hb dX7_isItem_160 rfl (lv_at hl 1 rfl) ?_
          refine va_get (D := D) (ci := 7) (v := .int (nI 0)) (C := RX7) (T := TX7) (N := 12) hx hb hts iw7 hown hK hP 3 rfl rfl 9 (by decide) fw2 (fun _ h9 => h9) rfl dX7_isItem_161 ?_
          refine lv_iconst (v := 1) hx hb dX7_isItem_164 (by decide) ?_
          refine lv_isub hx hb dX7_isItem_165 ?_
          rw [show (nI 0) - 1 = (-1) from by decide]
          have hs51 : kw_Split [(wo, .inl (y 0, 25, .inl (upd fwo k 2))), (fs, .inl (y 0, 25, .inl ffs)), (sc, .inl (y 0, 25, .inl fsc)), (tx, .inr (7, [.ref bys, .int (nI ln), .int (nI tk), .int (nI sta), .int (nI en), .int num, .ref wo, .ref fs, .ref sc, .int (nI 0), .int (nI (tgl + 1)), .int (nI tst)])), (bys, .inl (y 1, 150, .inl fby))] [(tx, .inr (7, [.ref bys, .int (nI ln), .int (nI tk), .int (nI sta), .int (nI en), .int num, .ref wo, .ref fs, .ref sc, .int (nI 0), .int (nI (tgl + 1)), .int (nI tst)])), (bys, .inl (y 1, 150, .inl fby)), (fs, .inl (y 0, 25, .inl ffs))] [(wo, .inl (y 0, 25, .inl (upd fwo k 2))), (sc, .inl (y 0, 25, .inl fsc))] [3, 4, 1] [0, 2] := ⟨rfl, rfl, rfl, rfl, rfl, by decide⟩
          refine kw_go_i hs51 hP hD hS hA (va_runV (As := [.ref fs, .int (nI k), .int 0, .int (-1)]) (rest := []) ⟨hx, hb, hml, hown, hts⟩ (gs_takesN l D y tx bys wo fs sc ln sta en (nI tk) num (nI 0) (nI (tgl + 1)) (nI tst) fby fs ffs k hln hen hk _) (cwV 4 hts gX7_isItem_X7_takes rfl rfl rfl (by decide +kernel) ⟨Nat.le_of_ble_eq_true rfl, Nat.le_of_ble_eq_true rfl⟩) (kw_PreV (ci := 7) (q0 := 3) hs51 hP hD hK hN rfl rfl) rfl rfl hl.1 rfl (lv_room (Nat.le_of_ble_eq_true rfl)) dX7_isItem_166 ⟨Nat.le_of_ble_eq_true rfl, Nat.le_of_ble_eq_true rfl⟩) (fun r52 u53 H locs hq hP hD hS => ?_)
          obtain ⟨v54, rfl⟩ : ∃ z, z = u53 := ⟨_, rfl⟩
          try dsimp only at hq
          obtain ⟨h55, h56, h57, rfl⟩ := hq
          have hP : va_P D vwCl [(wo, .inl (y 0, 25, .inl (upd fwo k 2))), (sc, .inl (y 0, 25, .inl fsc)), (tx, .inr (7, [.ref bys, .int (nI ln), .int (nI (ks_K fby ln en)), .int (nI (ks_S fby ln en)), .int (nI (ks_E fby ln en)), .int v54, .ref wo, .ref fs, .ref sc, .int (nI 0), .int (nI (tgl + 1)), .int (nI tst)])), (bys, .inl (y 1, 150, .inl fby)), (fs, .inl (y 0, 25, .inl ffs))] H := hP
          have hD : va_D A [(wo, .inl (y 0, 25, .inl (upd fwo k 2))), (sc, .inl (y 0, 25, .inl fsc)), (tx, .inr (7, [.ref bys, .int (nI ln), .int (nI (ks_K fby ln en)), .int (nI (ks_S fby ln en)), .int (nI (ks_E fby ln en)), .int v54, .ref wo, .ref fs, .ref sc, .int (nI 0), .int (nI (tgl + 1)), .int (nI tst)])), (bys, .inl (y 1, 150, .inl fby)), (fs, .inl (y 0, 25, .inl ffs))] := hD
          refine lv_if_eq (tgt := 176) hx hb dX7_isItem_169 (by decide) (fun _ => ?_) (fun h9 => absurd h9 (by decide))
          refine lv_iconst (v := 0) hx hb dX7_isItem_176 (by decide) ?_
          exact W.zret (v := 0) hx hb hr (by decide) (fun tZ ht hW => ⟨⟨0, ((nI (ks_K fby ln en)), ks_S fby ln en, ks_E fby ln en, v54, 0, tgl + 1, tst, (upd fwo k 2), ffs, fsc), rfl, ⟨by first | omega | (dsimp only; omega), by first | omega | (dsimp only; omega), by first | omega | (dsimp only; omega), by first | omega | (dsimp only; omega), by first | omega | (dsimp only; omega), Or.inl rfl, (fun _ => (ks_it2 h11 h10).trans (ks_glrZ (by first | omega | (dsimp only; omega)) rfl)), (fun h9 => absurd h9 (by decide))⟩, by rw [ht]; exact hP.sub [2, 3, 0, 4, 1] rfl, hD.sub [2, 3, 0, 4, 1] (by decide) rfl⟩, hS.F ht⟩) hS.2.2 dX7_isItem_177
        · skip
          refine lv_aload_n hx hb dX7_isItem_160 rfl (lv_at hl 1 rfl) ?_
          refine va_get (D := D) (ci := 7) (v := .int (nI (tq + 1))) (C := RX7) (T := TX7) (N := 12) hx hb hts iw7 hown hK hP 3 rfl rfl 9 (by decide) fw2 (fun _ h9 => h9) rfl dX7_isItem_161 ?_
          refine lv_iconst (v := 1) hx hb dX7_isItem_164 (by decide) ?_
          refine lv_isub hx hb dX7_isItem_165 ?_
          rw [show (nI (tq + 1)) - 1 = nI (tq) from pk_sub (a := (tq + 1)) (b := 1) (by omega)]
          have hs58 : kw_Split [(wo, .inl (y 0, 25, .inl (upd fwo k 2))), (fs, .inl (y 0, 25, .inl ffs)), (sc, .inl (y 0, 25, .inl fsc)), (tx, .inr (7, [.ref bys, .int (nI ln), .int (nI tk), .int (nI sta), .int (nI en), .int num, .ref wo, .ref fs, .ref sc, .int (nI (tq + 1)), .int (nI (tgl + 1)), .int (nI tst)])), (bys, .inl (y 1, 150, .inl fby))] [(tx, .inr (7, [.ref bys, .int (nI ln), .int (nI tk), .int (nI sta), .int (nI en), .int num, .ref wo, .ref fs, .ref sc, .int (nI (tq + 1)), .int (nI (tgl + 1)), .int (nI tst)])), (bys, .inl (y 1, 150, .inl fby)), (fs, .inl (y 0, 25, .inl ffs))] [(wo, .inl (y 0, 25, .inl (upd fwo k 2))), (sc, .inl (y 0, 25, .inl fsc))] [3, 4, 1] [0, 2] := ⟨rfl, rfl, rfl, rfl, rfl, by decide⟩
          refine kw_go_i hs58 hP hD hS hA (va_runV (As := [.ref fs, .int (nI k), .int 0, .int (nI tq)]) (rest := []) ⟨hx, hb, hml, hown, hts⟩ (gs_takes l D y tx bys wo fs sc ln sta en (nI tk) num (nI (tq + 1)) (nI (tgl + 1)) (nI tst) fby fs ffs k 0 tq hln hen hk (by omega) (by omega) _) (cwV 4 hts gX7_isItem_X7_takes rfl rfl rfl (by decide +kernel) ⟨Nat.le_of_ble_eq_true rfl, Nat.le_of_ble_eq_true rfl⟩) (kw_PreV (ci := 7) (q0 := 3) hs58 hP hD hK hN rfl rfl) rfl rfl hl.1 rfl (lv_room (Nat.le_of_ble_eq_true rfl)) dX7_isItem_166 ⟨Nat.le_of_ble_eq_true rfl, Nat.le_of_ble_eq_true rfl⟩) (fun r59 u60 H locs hq hP hD hS => ?_)
          obtain ⟨v61, v62⟩ := u60
          try dsimp only at hq
          obtain ⟨(rfl | rfl), h63, h64, h65, h66, h67⟩ := hq
          · skip
            have hP : va_P D vwCl [(wo, .inl (y 0, 25, .inl (upd fwo k 2))), (sc, .inl (y 0, 25, .inl fsc)), (tx, .inr (7, [.ref bys, .int (nI ln), .int (nI (ks_K fby ln en)), .int (nI (ks_S fby ln en)), .int (nI (ks_E fby ln en)), .int v61, .ref wo, .ref fs, .ref sc, .int (nI (tq + 1)), .int (nI (tgl + 1)), .int (nI tst)])), (bys, .inl (y 1, 150, .inl fby)), (fs, .inl (y 0, 25, .inl v62))] H := hP
            have hD : va_D A [(wo, .inl (y 0, 25, .inl (upd fwo k 2))), (sc, .inl (y 0, 25, .inl fsc)), (tx, .inr (7, [.ref bys, .int (nI ln), .int (nI (ks_K fby ln en)), .int (nI (ks_S fby ln en)), .int (nI (ks_E fby ln en)), .int v61, .ref wo, .ref fs, .ref sc, .int (nI (tq + 1)), .int (nI (tgl + 1)), .int (nI tst)])), (bys, .inl (y 1, 150, .inl fby)), (fs, .inl (y 0, 25, .inl v62))] := hD
            have h67 : ¬ ks_nm fby ln en 0 tq = true := h67 rfl
            refine lv_if_eq (tgt := 176) hx hb dX7_isItem_169 (by decide) (fun _ => ?_) (fun h9 => absurd h9 (by decide))
            refine lv_iconst (v := 0) hx hb dX7_isItem_176 (by decide) ?_
            exact W.zret (v := 0) hx hb hr (by decide) (fun tZ ht hW => ⟨⟨0, ((nI (ks_K fby ln en)), ks_S fby ln en, ks_E fby ln en, v61, tq + 1, tgl + 1, tst, (upd fwo k 2), v62, fsc), rfl, ⟨by first | omega | (dsimp only; omega), by first | omega | (dsimp only; omega), by first | omega | (dsimp only; omega), by first | omega | (dsimp only; omega), by first | omega | (dsimp only; omega), Or.inl rfl, (fun _ => (ks_it2 h11 h10).trans (ks_glrA (by first | omega | (dsimp only; omega)) h67)), (fun h9 => absurd h9 (by decide))⟩, by rw [ht]; exact hP.sub [2, 3, 0, 4, 1] rfl, hD.sub [2, 3, 0, 4, 1] (by decide) rfl⟩, hS.F ht⟩) hS.2.2 dX7_isItem_177
          · skip
            have hP : va_P D vwCl [(wo, .inl (y 0, 25, .inl (upd fwo k 2))), (sc, .inl (y 0, 25, .inl fsc)), (tx, .inr (7, [.ref bys, .int (nI ln), .int (nI (ks_K fby ln en)), .int (nI (ks_S fby ln en)), .int (nI (ks_E fby ln en)), .int v61, .ref wo, .ref fs, .ref sc, .int (nI (tq + 1)), .int (nI (tgl + 1)), .int (nI tst)])), (bys, .inl (y 1, 150, .inl fby)), (fs, .inl (y 0, 25, .inl v62))] H := hP
            have hD : va_D A [(wo, .inl (y 0, 25, .inl (upd fwo k 2))), (sc, .inl (y 0, 25, .inl fsc)), (tx, .inr (7, [.ref bys, .int (nI ln), .int (nI (ks_K fby ln en)), .int (nI (ks_S fby ln en)), .int (nI (ks_E fby ln en)), .int v61, .ref wo, .ref fs, .ref sc, .int (nI (tq + 1)), .int (nI (tgl + 1)), .int (nI tst)])), (bys, .inl (y 1, 150, .inl fby)), (fs, .inl (y 0, 25, .inl v62))] := hD
            have h66 : ks_nm fby ln en 0 tq = true ∧ v62 = upd ffs k (nI (ks_V fby ln en)) ∧ v61 = nI (ks_V fby ln en) := h66 rfl
            obtain ⟨h68, h69, h70⟩ := h66
            have h69 := h69.symm
            subst h69
            have h70 := h70.symm
            subst h70
            have hP : va_P D vwCl [(wo, .inl (y 0, 25, .inl (upd fwo k 2))), (sc, .inl (y 0, 25, .inl fsc)), (tx, .inr (7, [.ref bys, .int (nI ln), .int (nI (ks_K fby ln en)), .int (nI (ks_S fby ln en)), .int (nI (ks_E fby ln en)), .int (nI (ks_V fby ln en)), .ref wo, .ref fs, .ref sc, .int (nI (tq + 1)), .int (nI (tgl + 1)), .int (nI tst)])), (bys, .inl (y 1, 150, .inl fby)), (fs, .inl (y 0, 25, .inl (upd ffs k (nI (ks_V fby ln en)))))] H := hP
            have hD : va_D A [(wo, .inl (y 0, 25, .inl (upd fwo k 2))), (sc, .inl (y 0, 25, .inl fsc)), (tx, .inr (7, [.ref bys, .int (nI ln), .int (nI (ks_K fby ln en)), .int (nI (ks_S fby ln en)), .int (nI (ks_E fby ln en)), .int (nI (ks_V fby ln en)), .ref wo, .ref fs, .ref sc, .int (nI (tq + 1)), .int (nI (tgl + 1)), .int (nI tst)])), (bys, .inl (y 1, 150, .inl fby)), (fs, .inl (y 0, 25, .inl (upd ffs k (nI (ks_V fby ln en)))))] := hD
            refine lv_if_eq (tgt := 176) hx hb dX7_isItem_169 (by decide) (fun h9 => absurd h9 (by decide)) (fun _ => ?_)
            refine lv_iconst (v := 1) hx hb dX7_isItem_172 (by decide) ?_
            refine lv_goto (tgt := 177) hx hb dX7_isItem_173 (by decide) ?_
            exact W.zret (v := 1) hx hb hr (by decide) (fun tZ ht hW => ⟨⟨1, ((nI (ks_K fby ln en)), ks_S fby ln en, ks_E fby ln en, (nI (ks_V fby ln en)), tq + 1, tgl + 1, tst, (upd fwo k 2), (upd ffs k (nI (ks_V fby ln en))), fsc), rfl, ⟨by first | omega | (dsimp only; omega), by first | omega | (dsimp only; omega), by first | omega | (dsimp only; omega), by first | omega | (dsimp only; omega), by first | omega | (dsimp only; omega), Or.inr rfl, (fun h9 => absurd h9 (by decide)), (fun _ => kz_g1.mk ((ks_it2 h11 h10).trans (ks_glrB (by first | omega | (dsimp only; omega)) (by first | omega | (dsimp only; omega)) h68)) (kz_oE_2 hok (by first | omega | (dsimp only; omega)) (by first | omega | (dsimp only; omega)) (vp_in_nI (by have q9 := (ks_nm_v h68).2.2; first | omega | (dsimp only; omega)) (by decide))) (by have q1 := (ks_len2 h10).2; have q2 := ks_nm_E (by first | omega | (dsimp only; omega)) h68; first | omega | (dsimp only; omega)))⟩, by rw [ht]; exact hP.sub [2, 3, 0, 4, 1] rfl, hD.sub [2, 3, 0, 4, 1] (by decide) rfl⟩, hS.F ht⟩) hS.2.2 dX7_isItem_177
    · skip
      have h48 : k = 0 := (nI_eq (a := k) (b := 0) (by omega) (by omega)).mp h48
      exact absurd h48 (by omega)
  · skip
    have hP : va_P D vwCl [(wo, .inl (y 0, 25, .inl fwo)), (fs, .inl (y 0, 25, .inl ffs)), (sc, .inl (y 0, 25, .inl fsc)), (tx, .inr (7, [.ref bys, .int (nI ln), .int (nI tk), .int (nI sta), .int (nI en), .int num, .ref wo, .ref fs, .ref sc, .int (nI tfi), .int (nI tgl), .int (nI tst)])), (bys, .inl (y 1, 150, .inl fby))] H := hP
    have hD : va_D A [(wo, .inl (y 0, 25, .inl fwo)), (fs, .inl (y 0, 25, .inl ffs)), (sc, .inl (y 0, 25, .inl fsc)), (tx, .inr (7, [.ref bys, .int (nI ln), .int (nI tk), .int (nI sta), .int (nI en), .int num, .ref wo, .ref fs, .ref sc, .int (nI tfi), .int (nI tgl), .int (nI tst)])), (bys, .inl (y 1, 150, .inl fby))] := hD
    refine lv_istore_n (lv' := [(2, .int 3), (0, .ref tx), (1, .int (nI k))]) hx hb dX7_isItem_4 rfl hl (by decide) rfl (fun ls hl => ?_)
    refine lv_iload_n hx hb dX7_isItem_5 rfl (lv_at hl 0 rfl) ?_
    refine lv_iconst (v := (-1)) hx hb dX7_isItem_6 (by decide) ?_
    refine lv_icmp_eq (tgt := 31) hx hb dX7_isItem_7 (by decide) (fun h9 => absurd h9 (by decide)) (fun _ => ?_)
    refine lv_iload_n hx hb dX7_isItem_10 rfl (lv_at hl 0 rfl) ?_
    refine lv_if_ne (tgt := 18) hx hb dX7_isItem_11 (by decide) (fun _ => ?_) (fun h9 => absurd h9 (by decide))
    refine lv_iconst (v := 0) hx hb dX7_isItem_18 (by decide) ?_
    refine lv_iload_n hx hb dX7_isItem_19 rfl (lv_at hl 2 rfl) ?_
    refine lv_if_ne (tgt := 27) hx hb dX7_isItem_20 (by decide) (fun h71 => ?_) (fun h72 => ?_)
    · skip
      have h71 : ¬ k = 0 := fun q9 => h71 ((nI_eq (a := k) (b := 0) (by omega) (by omega)).mpr q9)
      refine lv_iconst (v := 0) hx hb dX7_isItem_27 (by decide) ?_
      refine lv_icmp_eq (tgt := 33) hx hb dX7_isItem_28 (by decide) (fun _ => ?_) (fun h9 => absurd h9 (by decide))
      refine lv_aload_n hx hb dX7_isItem_33 rfl (lv_at hl 1 rfl) ?_
      refine va_get (D := D) (ci := 7) (v := .ref wo) (C := RX7) (T := TX7) (N := 12) hx hb hts iw7 hown hK hP 3 rfl rfl 6 (by decide) fw1 (fun _ h9 => h9) rfl dX7_isItem_34 ?_
      refine lv_iload_n hx hb dX7_isItem_37 rfl (lv_at hl 2 rfl) ?_
      refine lv_iload_n hx hb dX7_isItem_38 rfl (lv_at hl 0 rfl) ?_
      refine va_iast hx hb hK hP hD hS 0 0 rfl rfl (vp_in_nI (by omega) (by decide)) dX7_isItem_39 (fun H locs hP hD hS => ?_)
      rw [nI_clamp (n := k) (by omega)] at hP hD
      have hP : va_P D vwCl [(wo, .inl (y 0, 25, .inl (upd fwo k 3))), (fs, .inl (y 0, 25, .inl ffs)), (sc, .inl (y 0, 25, .inl fsc)), (tx, .inr (7, [.ref bys, .int (nI ln), .int (nI tk), .int (nI sta), .int (nI en), .int num, .ref wo, .ref fs, .ref sc, .int (nI tfi), .int (nI tgl), .int (nI tst)])), (bys, .inl (y 1, 150, .inl fby))] H := hP
      have hD : va_D A [(wo, .inl (y 0, 25, .inl (upd fwo k 3))), (fs, .inl (y 0, 25, .inl ffs)), (sc, .inl (y 0, 25, .inl fsc)), (tx, .inr (7, [.ref bys, .int (nI ln), .int (nI tk), .int (nI sta), .int (nI en), .int num, .ref wo, .ref fs, .ref sc, .int (nI tfi), .int (nI tgl), .int (nI tst)])), (bys, .inl (y 1, 150, .inl fby))] := hD
      refine lv_iload_n hx hb dX7_isItem_40 rfl (lv_at hl 0 rfl) ?_
      refine lv_tableOut (tgt := 178) hx hb dX7_isItem_41 (by decide) (by decide) ?_
      refine lv_aload_n hx hb dX7_isItem_178 rfl (lv_at hl 1 rfl) ?_
      refine lv_aload_n hx hb dX7_isItem_179 rfl (lv_at hl 1 rfl) ?_
      refine va_get (D := D) (ci := 7) (v := .ref fs) (C := RX7) (T := TX7) (N := 12) hx hb hts iw7 hown hK hP 3 rfl rfl 7 (by decide) fw3 (fun _ h9 => h9) rfl dX7_isItem_180 ?_
      refine lv_iload_n hx hb dX7_isItem_183 rfl (lv_at hl 2 rfl) ?_
      refine lv_iconst (v := 1) hx hb dX7_isItem_184 (by decide) ?_
      refine lv_aload_n hx hb dX7_isItem_185 rfl (lv_at hl 1 rfl) ?_
      refine va_get (D := D) (ci := 7) (v := .int (nI tst)) (C := RX7) (T := TX7) (N := 12) hx hb hts iw7 hown hK hP 3 rfl rfl 11 (by decide) fw6 (fun _ h9 => h9) rfl dX7_isItem_186 ?_
      have hs73 : kw_Split [(wo, .inl (y 0, 25, .inl (upd fwo k 3))), (fs, .inl (y 0, 25, .inl ffs)), (sc, .inl (y 0, 25, .inl fsc)), (tx, .inr (7, [.ref bys, .int (nI ln), .int (nI tk), .int (nI sta), .int (nI en), .int num, .ref wo, .ref fs, .ref sc, .int (nI tfi), .int (nI tgl), .int (nI tst)])), (bys, .inl (y 1, 150, .inl fby))] [(tx, .inr (7, [.ref bys, .int (nI ln), .int (nI tk), .int (nI sta), .int (nI en), .int num, .ref wo, .ref fs, .ref sc, .int (nI tfi), .int (nI tgl), .int (nI tst)])), (bys, .inl (y 1, 150, .inl fby)), (fs, .inl (y 0, 25, .inl ffs))] [(wo, .inl (y 0, 25, .inl (upd fwo k 3))), (sc, .inl (y 0, 25, .inl fsc))] [3, 4, 1] [0, 2] := ⟨rfl, rfl, rfl, rfl, rfl, by decide⟩
      refine kw_go_i hs73 hP hD hS hA (va_runV (As := [.ref fs, .int (nI k), .int 1, .int (nI tst)]) (rest := []) ⟨hx, hb, hml, hown, hts⟩ (gs_takes l D y tx bys wo fs sc ln sta en (nI tk) num (nI tfi) (nI tgl) (nI tst) fby fs ffs k 1 tst hln hen hk (by omega) (by omega) _) (cwV 4 hts gX7_isItem_X7_takes rfl rfl rfl (by decide +kernel) ⟨Nat.le_of_ble_eq_true rfl, Nat.le_of_ble_eq_true rfl⟩) (kw_PreV (ci := 7) (q0 := 3) hs73 hP hD hK hN rfl rfl) rfl rfl hl.1 rfl (lv_room (Nat.le_of_ble_eq_true rfl)) dX7_isItem_189 ⟨Nat.le_of_ble_eq_true rfl, Nat.le_of_ble_eq_true rfl⟩) (fun r74 u75 H locs hq hP hD hS => ?_)
      obtain ⟨v76, v77⟩ := u75
      try dsimp only at hq
      obtain ⟨(rfl | rfl), h78, h79, h80, h81, h82⟩ := hq
      · skip
        have hP : va_P D vwCl [(wo, .inl (y 0, 25, .inl (upd fwo k 3))), (sc, .inl (y 0, 25, .inl fsc)), (tx, .inr (7, [.ref bys, .int (nI ln), .int (nI (ks_K fby ln en)), .int (nI (ks_S fby ln en)), .int (nI (ks_E fby ln en)), .int v76, .ref wo, .ref fs, .ref sc, .int (nI tfi), .int (nI tgl), .int (nI tst)])), (bys, .inl (y 1, 150, .inl fby)), (fs, .inl (y 0, 25, .inl v77))] H := hP
        have hD : va_D A [(wo, .inl (y 0, 25, .inl (upd fwo k 3))), (sc, .inl (y 0, 25, .inl fsc)), (tx, .inr (7, [.ref bys, .int (nI ln), .int (nI (ks_K fby ln en)), .int (nI (ks_S fby ln en)), .int (nI (ks_E fby ln en)), .int v76, .ref wo, .ref fs, .ref sc, .int (nI tfi), .int (nI tgl), .int (nI tst)])), (bys, .inl (y 1, 150, .inl fby)), (fs, .inl (y 0, 25, .inl v77))] := hD
        have h82 : ¬ ks_nm fby ln en 1 tst = true := h82 rfl
        refine lv_istore_n (lv' := [(3, .int 0), (2, .int 3), (0, .ref tx), (1, .int (nI k))]) hx hb dX7_isItem_192 rfl hl (by decide) rfl (fun ls hl => ?_)
        refine lv_iload_n hx hb dX7_isItem_193 rfl (lv_at hl 0 rfl) ?_
        refine lv_if_eq (tgt := 210) hx hb dX7_isItem_194 (by decide) (fun _ => ?_) (fun h9 => absurd h9 (by decide))
        refine lv_iload_n hx hb dX7_isItem_210 rfl (lv_at hl 0 rfl) ?_
        exact W.zret (v := 0) hx hb hr (by decide) (fun tZ ht hW => ⟨⟨0, ((nI (ks_K fby ln en)), ks_S fby ln en, ks_E fby ln en, v76, tfi, tgl, tst, (upd fwo k 3), v77, fsc), rfl, ⟨by first | omega | (dsimp only; omega), by first | omega | (dsimp only; omega), by first | omega | (dsimp only; omega), by first | omega | (dsimp only; omega), by first | omega | (dsimp only; omega), Or.inl rfl, (fun _ => (ks_it3 h13 h14 h12).trans (ks_glnA h82)), (fun h9 => absurd h9 (by decide))⟩, by rw [ht]; exact hP.sub [2, 3, 0, 4, 1] rfl, hD.sub [2, 3, 0, 4, 1] (by decide) rfl⟩, hS.F ht⟩) hS.2.2 dX7_isItem_211
      · skip
        have hP : va_P D vwCl [(wo, .inl (y 0, 25, .inl (upd fwo k 3))), (sc, .inl (y 0, 25, .inl fsc)), (tx, .inr (7, [.ref bys, .int (nI ln), .int (nI (ks_K fby ln en)), .int (nI (ks_S fby ln en)), .int (nI (ks_E fby ln en)), .int v76, .ref wo, .ref fs, .ref sc, .int (nI tfi), .int (nI tgl), .int (nI tst)])), (bys, .inl (y 1, 150, .inl fby)), (fs, .inl (y 0, 25, .inl v77))] H := hP
        have hD : va_D A [(wo, .inl (y 0, 25, .inl (upd fwo k 3))), (sc, .inl (y 0, 25, .inl fsc)), (tx, .inr (7, [.ref bys, .int (nI ln), .int (nI (ks_K fby ln en)), .int (nI (ks_S fby ln en)), .int (nI (ks_E fby ln en)), .int v76, .ref wo, .ref fs, .ref sc, .int (nI tfi), .int (nI tgl), .int (nI tst)])), (bys, .inl (y 1, 150, .inl fby)), (fs, .inl (y 0, 25, .inl v77))] := hD
        have h81 : ks_nm fby ln en 1 tst = true ∧ v77 = upd ffs k (nI (ks_V fby ln en)) ∧ v76 = nI (ks_V fby ln en) := h81 rfl
        obtain ⟨h83, h84, h85⟩ := h81
        have h84 := h84.symm
        subst h84
        have h85 := h85.symm
        subst h85
        have hP : va_P D vwCl [(wo, .inl (y 0, 25, .inl (upd fwo k 3))), (sc, .inl (y 0, 25, .inl fsc)), (tx, .inr (7, [.ref bys, .int (nI ln), .int (nI (ks_K fby ln en)), .int (nI (ks_S fby ln en)), .int (nI (ks_E fby ln en)), .int (nI (ks_V fby ln en)), .ref wo, .ref fs, .ref sc, .int (nI tfi), .int (nI tgl), .int (nI tst)])), (bys, .inl (y 1, 150, .inl fby)), (fs, .inl (y 0, 25, .inl (upd ffs k (nI (ks_V fby ln en)))))] H := hP
        have hD : va_D A [(wo, .inl (y 0, 25, .inl (upd fwo k 3))), (sc, .inl (y 0, 25, .inl fsc)), (tx, .inr (7, [.ref bys, .int (nI ln), .int (nI (ks_K fby ln en)), .int (nI (ks_S fby ln en)), .int (nI (ks_E fby ln en)), .int (nI (ks_V fby ln en)), .ref wo, .ref fs, .ref sc, .int (nI tfi), .int (nI tgl), .int (nI tst)])), (bys, .inl (y 1, 150, .inl fby)), (fs, .inl (y 0, 25, .inl (upd ffs k (nI (ks_V fby ln en)))))] := hD
        refine lv_istore_n (lv' := [(3, .int 1), (2, .int 3), (0, .ref tx), (1, .int (nI k))]) hx hb dX7_isItem_192 rfl hl (by decide) rfl (fun ls hl => ?_)
        refine lv_iload_n hx hb dX7_isItem_193 rfl (lv_at hl 0 rfl) ?_
        refine lv_if_eq (tgt := 210) hx hb dX7_isItem_194 (by decide) (fun h9 => absurd h9 (by decide)) (fun _ => ?_)
        refine lv_aload_n hx hb dX7_isItem_197 rfl (lv_at hl 2 rfl) ?_
        refine lv_dup hx hb dX7_isItem_198 rfl ?_
        refine va_get (D := D) (ci := 7) (v := .int (nI tst)) (C := RX7) (T := TX7) (N := 12) hx hb hts iw7 hown hK hP 2 rfl rfl 11 (by decide) fw6 (fun _ h9 => h9) rfl dX7_isItem_199 ?_
        refine lv_aload_n hx hb dX7_isItem_202 rfl (lv_at hl 2 rfl) ?_
        refine va_get (D := D) (ci := 7) (v := .int (nI (ks_V fby ln en))) (C := RX7) (T := TX7) (N := 12) hx hb hts iw7 hown hK hP 2 rfl rfl 5 (by decide) fw7 (fun _ h9 => h9) rfl dX7_isItem_203 ?_
        have hq86 := (ks_nm_v h83).2.2
        refine lv_isub hx hb dX7_isItem_206 ?_
        rw [show (nI tst) - (nI (ks_V fby ln en)) = nI (tst - (ks_V fby ln en)) from pk_sub (a := tst) (b := (ks_V fby ln en)) (by omega)]
        refine va_put (D := D) (ci := 7) (v := .int (nI (tst - (ks_V fby ln en)))) (ty := .int) (C := RX7) (T := TX7) (N := 12) hx hb hts iw7 tyX7 tyX7_ok nmX7 hown hK hP hD hS 2 rfl rfl 11 (by decide) fw6 (fun _ h9 => h9) rfl (by decide +kernel) rfl rfl (Nat.le_of_ble_eq_true rfl) dX7_isItem_207 (fun H locs hP hD hS => ?_)
        have hP : va_P D vwCl [(wo, .inl (y 0, 25, .inl (upd fwo k 3))), (sc, .inl (y 0, 25, .inl fsc)), (tx, .inr (7, [.ref bys, .int (nI ln), .int (nI (ks_K fby ln en)), .int (nI (ks_S fby ln en)), .int (nI (ks_E fby ln en)), .int (nI (ks_V fby ln en)), .ref wo, .ref fs, .ref sc, .int (nI tfi), .int (nI tgl), .int (nI (tst - (ks_V fby ln en)))])), (bys, .inl (y 1, 150, .inl fby)), (fs, .inl (y 0, 25, .inl (upd ffs k (nI (ks_V fby ln en)))))] H := hP
        have hD : va_D A [(wo, .inl (y 0, 25, .inl (upd fwo k 3))), (sc, .inl (y 0, 25, .inl fsc)), (tx, .inr (7, [.ref bys, .int (nI ln), .int (nI (ks_K fby ln en)), .int (nI (ks_S fby ln en)), .int (nI (ks_E fby ln en)), .int (nI (ks_V fby ln en)), .ref wo, .ref fs, .ref sc, .int (nI tfi), .int (nI tgl), .int (nI (tst - (ks_V fby ln en)))])), (bys, .inl (y 1, 150, .inl fby)), (fs, .inl (y 0, 25, .inl (upd ffs k (nI (ks_V fby ln en)))))] := hD
        refine lv_iload_n hx hb dX7_isItem_210 rfl (lv_at hl 0 rfl) ?_
        exact W.zret (v := 1) hx hb hr (by decide) (fun tZ ht hW => ⟨⟨1, ((nI (ks_K fby ln en)), ks_S fby ln en, ks_E fby ln en, (nI (ks_V fby ln en)), tfi, tgl, tst - (ks_V fby ln en), (upd fwo k 3), (upd ffs k (nI (ks_V fby ln en))), fsc), rfl, ⟨by first | omega | (dsimp only; omega), by first | omega | (dsimp only; omega), by first | omega | (dsimp only; omega), by first | omega | (dsimp only; omega), by first | omega | (dsimp only; omega), Or.inr rfl, (fun h9 => absurd h9 (by decide)), (fun _ => kz_g1.mk ((ks_it3 h13 h14 h12).trans (ks_glnB h83)) (kz_oE_n hok (by first | omega | (dsimp only; omega)) (by decide) (by decide)) (by have q1 := (ks_len3 h12).2; have q2 := ks_nm_E (by first | omega | (dsimp only; omega)) h83; first | omega | (dsimp only; omega)))⟩, by rw [ht]; exact hP.sub [2, 3, 0, 4, 1] rfl, hD.sub [2, 3, 0, 4, 1] (by decide) rfl⟩, hS.F ht⟩) hS.2.2 dX7_isItem_211
    · skip
      have h72 : k = 0 := (nI_eq (a := k) (b := 0) (by omega) (by omega)).mp h72
      exact absurd h72 (by omega)

set_option maxHeartbeats 4000000 in
set_option maxRecDepth 100000 in
theorem gs_isItem0 (l : Launch) (D : va_G) (y : Nat → ClassId) (aK : Nat → Nat) (aV : Nat → Nat) (tx : Nat) (bys : Nat) (wo : Nat) (fs : Nat) (sc : Nat) (ln : Nat) (tk : Nat) (sta : Nat) (en : Nat) (tfi : Nat) (tgl : Nat) (tst : Nat) (num : Int32) (fby : Nat → Int32) (fwo : Nat → Int32) (ffs : Nat → Int32) (fsc : Nat → Int32) (hln : ln ≤ 150) (hen : en ≤ ln) (hse : sta ≤ en) (htk : tk ≤ 4) : kz_Mi l yX7_isItem wsX7_isItem ({ frames := 7, cells := 0, slots := 0, locals := 187 }) D y [.ref tx, .int 0] [(tx, .inr (7, [.ref bys, .int (nI ln), .int (nI tk), .int (nI sta), .int (nI en), .int num, .ref wo, .ref fs, .ref sc, .int (nI tfi), .int (nI tgl), .int (nI tst)])), (bys, .inl (y 1, 150, .inl fby)), (wo, .inl (y 0, 25, .inl fwo)), (fs, .inl (y 0, 25, .inl ffs)), (sc, .inl (y 0, 25, .inl fsc))] aK aV (fun (r : Int32) (u : Int32 × Nat × Nat × Int32 × (Nat → Int32) × (Nat → Int32)) => u.2.1 ≤ ln ∧ u.2.2.1 ≤ ln ∧ (r = 0 ∨ r = 1) ∧ (r = 0 → ks_it0 fby ln tk sta en = ks_flt u.2.1) ∧ (r = 1 → kz_g0 fby ln tk sta en u.2.2.1 u.2.2.2.2.1 u.2.2.2.2.2)) (fun u => [(tx, .inr (7, [.ref bys, .int (nI ln), .int u.1, .int (nI u.2.1), .int (nI u.2.2.1), .int u.2.2.2.1, .ref wo, .ref fs, .ref sc, .int (nI tfi), .int (nI tgl), .int (nI tst)])), (bys, .inl (y 1, 150, .inl fby)), (wo, .inl (y 0, 25, .inl u.2.2.2.2.1)), (fs, .inl (y 0, 25, .inl u.2.2.2.2.2)), (sc, .inl (y 0, 25, .inl fsc))]) 0 0 := by
  refine kz_Mi.of (cc := cX7_isItem) (maxL := 4) (ret := (some .boolean)) (by decide) rfl ?_
  intro pZ eZ s mZ beZ meZ cZ A hE
  obtain ⟨hx, hb, hr, hml, hts, hown, hlocks, hin, hA, hP, hD, hK, hN, hZ⟩ := hE
  have hS : va_S A s.heap s.heap [] := va_S.rf
  have hl := lv_entry ([.ref tx, .int 0]) (n := 4) (Nat.le_of_ble_eq_true rfl)
  rw [lg_entry_eq]
  generalize (lg_sl ([.ref tx, .int 0]) ++ List.replicate (4 - (lg_sl ([.ref tx, .int 0])).length) Slot.unset).toArray = ls at hl ⊢
  have hl : lv_has ls 4 [(0, .ref tx), (1, .int 0)] := hl
  have fw1 := hts (.fieldLink RX7 15 "GleanDusk$Text" "words" "[I") (List.mem_of_getElem? (i := 1) rfl)
  have fw2 := hts (.fieldLink RX7 19 "GleanDusk$Text" "first" "[I") (List.mem_of_getElem? (i := 2) rfl)
  have iw7 : ∀ w ∈ wsX70, w ∈ wsX7_isItem := fun _ h => List.mem_cons_of_mem _ (List.mem_append_right _ h)
  refine lv_aload_n hx hb dX7_isItem_0 rfl (lv_at hl 0 rfl) ?_
  have hs1 : kw_Split [(tx, .inr (7, [.ref bys, .int (nI ln), .int (nI tk), .int (nI sta), .int (nI en), .int num, .ref wo, .ref fs, .ref sc, .int (nI tfi), .int (nI tgl), .int (nI tst)])), (bys, .inl (y 1, 150, .inl fby)), (wo, .inl (y 0, 25, .inl fwo)), (fs, .inl (y 0, 25, .inl ffs)), (sc, .inl (y 0, 25, .inl fsc))] [(tx, .inr (7, [.ref bys, .int (nI ln), .int (nI tk), .int (nI sta), .int (nI en), .int num, .ref wo, .ref fs, .ref sc, .int (nI tfi), .int (nI tgl), .int (nI tst)])), (bys, .inl (y 1, 150, .inl fby))] [(wo, .inl (y 0, 25, .inl fwo)), (fs, .inl (y 0, 25, .inl ffs)), (sc, .inl (y 0, 25, .inl fsc))] [0, 1] [2, 3, 4] := ⟨rfl, rfl, rfl, rfl, rfl, by decide⟩
  refine kw_go_i hs1 hP hD hS hA (va_runV (As := []) (rest := []) ⟨hx, hb, hml, hown, hts⟩ (gs_wordHere l D y aK aV tx bys wo fs sc tk ln sta en num (nI tfi) (nI tgl) (nI tst) fby hln hen hse htk _) (cwV 0 hts gX7_isItem_X7_wordHere rfl rfl rfl (by decide +kernel) ⟨Nat.le_of_ble_eq_true rfl, Nat.le_of_ble_eq_true rfl⟩) (kz_PreV (ci := 7) (q0 := 0) hs1 hP hD hK hN rfl rfl hZ hS hA) rfl rfl hl.1 rfl (lv_room (Nat.le_of_ble_eq_true rfl)) dX7_isItem_1 ⟨Nat.le_of_ble_eq_true rfl, Nat.le_of_ble_eq_true rfl⟩) (fun r2 u3 H locs hq hP hD hS => ?_)
  rcases hq with ⟨h4, h5, h6, h7, rfl⟩ | ⟨h8, rfl⟩ | ⟨h9, rfl⟩ | ⟨h10, h11, rfl⟩ | ⟨h12, h13, h14, rfl⟩
  · skip
    have hP : va_P D vwCl [(wo, .inl (y 0, 25, .inl fwo)), (fs, .inl (y 0, 25, .inl ffs)), (sc, .inl (y 0, 25, .inl fsc)), (tx, .inr (7, [.ref bys, .int (nI ln), .int (nI tk), .int (nI sta), .int (nI en), .int num, .ref wo, .ref fs, .ref sc, .int (nI tfi), .int (nI tgl), .int (nI tst)])), (bys, .inl (y 1, 150, .inl fby))] H := hP
    have hD : va_D A [(wo, .inl (y 0, 25, .inl fwo)), (fs, .inl (y 0, 25, .inl ffs)), (sc, .inl (y 0, 25, .inl fsc)), (tx, .inr (7, [.ref bys, .int (nI ln), .int (nI tk), .int (nI sta), .int (nI en), .int num, .ref wo, .ref fs, .ref sc, .int (nI tfi), .int (nI tgl), .int (nI tst)])), (bys, .inl (y 1, 150, .inl fby))] := hD
    refine lv_istore_n (lv' := [(2, .int (-1)), (0, .ref tx), (1, .int 0)]) hx hb dX7_isItem_4 rfl hl (by decide) rfl (fun ls hl => ?_)
    refine lv_iload_n hx hb dX7_isItem_5 rfl (lv_at hl 0 rfl) ?_
    refine lv_iconst (v := (-1)) hx hb dX7_isItem_6 (by decide) ?_
    refine lv_icmp_eq (tgt := 31) hx hb dX7_isItem_7 (by decide) (fun _ => ?_) (fun h9 => absurd h9 (by decide))
    refine lv_iconst (v := 0) hx hb dX7_isItem_31 (by decide) ?_
    exact W.zret (v := 0) hx hb hr (by decide) (fun tZ ht hW => ⟨⟨0, ((nI tk), sta, en, num, fwo, ffs), rfl, ⟨by first | omega | (dsimp only; omega), by first | omega | (dsimp only; omega), Or.inl rfl, (fun _ => ks_it0A h4), (fun h9 => absurd h9 (by decide))⟩, by rw [ht]; exact hP.sub [3, 4, 0, 1, 2] rfl, hD.sub [3, 4, 0, 1, 2] (by decide) rfl⟩, hS.F ht⟩) hS.2.2 dX7_isItem_32
  · skip
    have hP : va_P D vwCl [(wo, .inl (y 0, 25, .inl fwo)), (fs, .inl (y 0, 25, .inl ffs)), (sc, .inl (y 0, 25, .inl fsc)), (tx, .inr (7, [.ref bys, .int (nI ln), .int (nI tk), .int (nI sta), .int (nI en), .int num, .ref wo, .ref fs, .ref sc, .int (nI tfi), .int (nI tgl), .int (nI tst)])), (bys, .inl (y 1, 150, .inl fby))] H := hP
    have hD : va_D A [(wo, .inl (y 0, 25, .inl fwo)), (fs, .inl (y 0, 25, .inl ffs)), (sc, .inl (y 0, 25, .inl fsc)), (tx, .inr (7, [.ref bys, .int (nI ln), .int (nI tk), .int (nI sta), .int (nI en), .int num, .ref wo, .ref fs, .ref sc, .int (nI tfi), .int (nI tgl), .int (nI tst)])), (bys, .inl (y 1, 150, .inl fby))] := hD
    refine lv_istore_n (lv' := [(2, .int 0), (0, .ref tx), (1, .int 0)]) hx hb dX7_isItem_4 rfl hl (by decide) rfl (fun ls hl => ?_)
    refine lv_iload_n hx hb dX7_isItem_5 rfl (lv_at hl 0 rfl) ?_
    refine lv_iconst (v := (-1)) hx hb dX7_isItem_6 (by decide) ?_
    refine lv_icmp_eq (tgt := 31) hx hb dX7_isItem_7 (by decide) (fun h9 => absurd h9 (by decide)) (fun _ => ?_)
    refine lv_iload_n hx hb dX7_isItem_10 rfl (lv_at hl 0 rfl) ?_
    refine lv_if_ne (tgt := 18) hx hb dX7_isItem_11 (by decide) (fun h9 => absurd h9 (by decide)) (fun _ => ?_)
    refine lv_iconst (v := 1) hx hb dX7_isItem_14 (by decide) ?_
    refine lv_goto (tgt := 19) hx hb dX7_isItem_15 (by decide) ?_
    refine lv_iload_n hx hb dX7_isItem_19 rfl (lv_at hl 2 rfl) ?_
    refine lv_if_ne (tgt := 27) hx hb dX7_isItem_20 (by decide) (fun h9 => absurd h9 (by decide)) (fun _ => ?_)
    refine lv_iconst (v := 1) hx hb dX7_isItem_23 (by decide) ?_
    refine lv_goto (tgt := 28) hx hb dX7_isItem_24 (by decide) ?_
    refine lv_icmp_eq (tgt := 33) hx hb dX7_isItem_28 (by decide) (fun _ => ?_) (fun h9 => absurd h9 (by decide))
    refine lv_aload_n hx hb dX7_isItem_33 rfl (lv_at hl 1 rfl) ?_
    refine va_get (D := D) (ci := 7) (v := .ref wo) (C := RX7) (T := TX7) (N := 12) hx hb hts iw7 hown hK hP 3 rfl rfl 6 (by decide) fw1 (fun _ h9 => h9) rfl dX7_isItem_34 ?_
    refine lv_iload_n hx hb dX7_isItem_37 rfl (lv_at hl 2 rfl) ?_
    refine lv_iload_n hx hb dX7_isItem_38 rfl (lv_at hl 0 rfl) ?_
    refine va_iast hx hb hK hP hD hS 0 0 rfl rfl (by unfold vp_in; decide) dX7_isItem_39 (fun H locs hP hD hS => ?_)
    rw [show ((0 : Int32)).toNatClampNeg = 0 from rfl] at hP hD
    have hP : va_P D vwCl [(wo, .inl (y 0, 25, .inl (upd fwo 0 0))), (fs, .inl (y 0, 25, .inl ffs)), (sc, .inl (y 0, 25, .inl fsc)), (tx, .inr (7, [.ref bys, .int (nI ln), .int (nI tk), .int (nI sta), .int (nI en), .int num, .ref wo, .ref fs, .ref sc, .int (nI tfi), .int (nI tgl), .int (nI tst)])), (bys, .inl (y 1, 150, .inl fby))] H := hP
    have hD : va_D A [(wo, .inl (y 0, 25, .inl (upd fwo 0 0))), (fs, .inl (y 0, 25, .inl ffs)), (sc, .inl (y 0, 25, .inl fsc)), (tx, .inr (7, [.ref bys, .int (nI ln), .int (nI tk), .int (nI sta), .int (nI en), .int num, .ref wo, .ref fs, .ref sc, .int (nI tfi), .int (nI tgl), .int (nI tst)])), (bys, .inl (y 1, 150, .inl fby))] := hD
    refine lv_iload_n hx hb dX7_isItem_40 rfl (lv_at hl 0 rfl) ?_
    refine lv_tableIn (off := 27) (tgt := 68) hx hb dX7_isItem_41 (by decide) (by decide) (by decide +kernel) (by decide) ?_
    refine lv_aload_n hx hb dX7_isItem_68 rfl (lv_at hl 1 rfl) ?_
    refine lv_aload_n hx hb dX7_isItem_69 rfl (lv_at hl 1 rfl) ?_
    refine va_get (D := D) (ci := 7) (v := .ref fs) (C := RX7) (T := TX7) (N := 12) hx hb hts iw7 hown hK hP 3 rfl rfl 7 (by decide) fw2 (fun _ h9 => h9) rfl dX7_isItem_70 ?_
    refine lv_iload_n hx hb dX7_isItem_73 rfl (lv_at hl 2 rfl) ?_
    refine lv_iconst (v := 0) hx hb dX7_isItem_74 (by decide) ?_
    refine lv_bipush (v := 9) hx hb dX7_isItem_75 (by decide) ?_
    have hs15 : kw_Split [(wo, .inl (y 0, 25, .inl (upd fwo 0 0))), (fs, .inl (y 0, 25, .inl ffs)), (sc, .inl (y 0, 25, .inl fsc)), (tx, .inr (7, [.ref bys, .int (nI ln), .int (nI tk), .int (nI sta), .int (nI en), .int num, .ref wo, .ref fs, .ref sc, .int (nI tfi), .int (nI tgl), .int (nI tst)])), (bys, .inl (y 1, 150, .inl fby))] [(tx, .inr (7, [.ref bys, .int (nI ln), .int (nI tk), .int (nI sta), .int (nI en), .int num, .ref wo, .ref fs, .ref sc, .int (nI tfi), .int (nI tgl), .int (nI tst)])), (bys, .inl (y 1, 150, .inl fby)), (fs, .inl (y 0, 25, .inl ffs))] [(wo, .inl (y 0, 25, .inl (upd fwo 0 0))), (sc, .inl (y 0, 25, .inl fsc))] [3, 4, 1] [0, 2] := ⟨rfl, rfl, rfl, rfl, rfl, by decide⟩
    refine kw_go_i hs15 hP hD hS hA (va_runV (As := [.ref fs, .int 0, .int 0, .int 9]) (rest := []) ⟨hx, hb, hml, hown, hts⟩ (gs_takes l D y tx bys wo fs sc ln sta en (nI tk) num (nI tfi) (nI tgl) (nI tst) fby fs ffs 0 0 9 hln hen (by omega) (by omega) (by omega) _) (cwV 4 hts gX7_isItem_X7_takes rfl rfl rfl (by decide +kernel) ⟨Nat.le_of_ble_eq_true rfl, Nat.le_of_ble_eq_true rfl⟩) (kw_PreV (ci := 7) (q0 := 3) hs15 hP hD hK hN rfl rfl) rfl rfl hl.1 rfl (lv_room (Nat.le_of_ble_eq_true rfl)) dX7_isItem_77 ⟨Nat.le_of_ble_eq_true rfl, Nat.le_of_ble_eq_true rfl⟩) (fun r16 u17 H locs hq hP hD hS => ?_)
    obtain ⟨v18, v19⟩ := u17
    try dsimp only at hq
    obtain ⟨(rfl | rfl), h20, h21, h22, h23, h24⟩ := hq
    · skip
      have hP : va_P D vwCl [(wo, .inl (y 0, 25, .inl (upd fwo 0 0))), (sc, .inl (y 0, 25, .inl fsc)), (tx, .inr (7, [.ref bys, .int (nI ln), .int (nI (ks_K fby ln en)), .int (nI (ks_S fby ln en)), .int (nI (ks_E fby ln en)), .int v18, .ref wo, .ref fs, .ref sc, .int (nI tfi), .int (nI tgl), .int (nI tst)])), (bys, .inl (y 1, 150, .inl fby)), (fs, .inl (y 0, 25, .inl v19))] H := hP
      have hD : va_D A [(wo, .inl (y 0, 25, .inl (upd fwo 0 0))), (sc, .inl (y 0, 25, .inl fsc)), (tx, .inr (7, [.ref bys, .int (nI ln), .int (nI (ks_K fby ln en)), .int (nI (ks_S fby ln en)), .int (nI (ks_E fby ln en)), .int v18, .ref wo, .ref fs, .ref sc, .int (nI tfi), .int (nI tgl), .int (nI tst)])), (bys, .inl (y 1, 150, .inl fby)), (fs, .inl (y 0, 25, .inl v19))] := hD
      have h24 : ¬ ks_nm fby ln en 0 9 = true := h24 rfl
      exact W.zret (v := 0) hx hb hr (by decide) (fun tZ ht hW => ⟨⟨0, ((nI (ks_K fby ln en)), ks_S fby ln en, ks_E fby ln en, v18, (upd fwo 0 0), v19), rfl, ⟨by first | omega | (dsimp only; omega), by first | omega | (dsimp only; omega), Or.inl rfl, (fun _ => ks_it0B h8 h24), (fun h9 => absurd h9 (by decide))⟩, by rw [ht]; exact hP.sub [2, 3, 0, 4, 1] rfl, hD.sub [2, 3, 0, 4, 1] (by decide) rfl⟩, hS.F ht⟩) hS.2.2 dX7_isItem_80
    · skip
      have hP : va_P D vwCl [(wo, .inl (y 0, 25, .inl (upd fwo 0 0))), (sc, .inl (y 0, 25, .inl fsc)), (tx, .inr (7, [.ref bys, .int (nI ln), .int (nI (ks_K fby ln en)), .int (nI (ks_S fby ln en)), .int (nI (ks_E fby ln en)), .int v18, .ref wo, .ref fs, .ref sc, .int (nI tfi), .int (nI tgl), .int (nI tst)])), (bys, .inl (y 1, 150, .inl fby)), (fs, .inl (y 0, 25, .inl v19))] H := hP
      have hD : va_D A [(wo, .inl (y 0, 25, .inl (upd fwo 0 0))), (sc, .inl (y 0, 25, .inl fsc)), (tx, .inr (7, [.ref bys, .int (nI ln), .int (nI (ks_K fby ln en)), .int (nI (ks_S fby ln en)), .int (nI (ks_E fby ln en)), .int v18, .ref wo, .ref fs, .ref sc, .int (nI tfi), .int (nI tgl), .int (nI tst)])), (bys, .inl (y 1, 150, .inl fby)), (fs, .inl (y 0, 25, .inl v19))] := hD
      have h23 : ks_nm fby ln en 0 9 = true ∧ v19 = upd ffs 0 (nI (ks_V fby ln en)) ∧ v18 = nI (ks_V fby ln en) := h23 rfl
      obtain ⟨h25, h26, h27⟩ := h23
      have h26 := h26.symm
      subst h26
      have h27 := h27.symm
      subst h27
      have hP : va_P D vwCl [(wo, .inl (y 0, 25, .inl (upd fwo 0 0))), (sc, .inl (y 0, 25, .inl fsc)), (tx, .inr (7, [.ref bys, .int (nI ln), .int (nI (ks_K fby ln en)), .int (nI (ks_S fby ln en)), .int (nI (ks_E fby ln en)), .int (nI (ks_V fby ln en)), .ref wo, .ref fs, .ref sc, .int (nI tfi), .int (nI tgl), .int (nI tst)])), (bys, .inl (y 1, 150, .inl fby)), (fs, .inl (y 0, 25, .inl (upd ffs 0 (nI (ks_V fby ln en)))))] H := hP
      have hD : va_D A [(wo, .inl (y 0, 25, .inl (upd fwo 0 0))), (sc, .inl (y 0, 25, .inl fsc)), (tx, .inr (7, [.ref bys, .int (nI ln), .int (nI (ks_K fby ln en)), .int (nI (ks_S fby ln en)), .int (nI (ks_E fby ln en)), .int (nI (ks_V fby ln en)), .ref wo, .ref fs, .ref sc, .int (nI tfi), .int (nI tgl), .int (nI tst)])), (bys, .inl (y 1, 150, .inl fby)), (fs, .inl (y 0, 25, .inl (upd ffs 0 (nI (ks_V fby ln en)))))] := hD
      exact W.zret (v := 1) hx hb hr (by decide) (fun tZ ht hW => ⟨⟨1, ((nI (ks_K fby ln en)), ks_S fby ln en, ks_E fby ln en, (nI (ks_V fby ln en)), (upd fwo 0 0), (upd ffs 0 (nI (ks_V fby ln en)))), rfl, ⟨by first | omega | (dsimp only; omega), by first | omega | (dsimp only; omega), Or.inr rfl, (fun h9 => absurd h9 (by decide)), (fun _ => kz_g0.mk (ks_it0C h8 h25) kz_oE_0 (by have q1 := (ks_len0 h8).2; have q2 := ks_nm_E (by first | omega | (dsimp only; omega)) h25; first | omega | (dsimp only; omega)))⟩, by rw [ht]; exact hP.sub [2, 3, 0, 4, 1] rfl, hD.sub [2, 3, 0, 4, 1] (by decide) rfl⟩, hS.F ht⟩) hS.2.2 dX7_isItem_80
  · skip
    have hP : va_P D vwCl [(wo, .inl (y 0, 25, .inl fwo)), (fs, .inl (y 0, 25, .inl ffs)), (sc, .inl (y 0, 25, .inl fsc)), (tx, .inr (7, [.ref bys, .int (nI ln), .int (nI tk), .int (nI sta), .int (nI en), .int num, .ref wo, .ref fs, .ref sc, .int (nI tfi), .int (nI tgl), .int (nI tst)])), (bys, .inl (y 1, 150, .inl fby))] H := hP
    have hD : va_D A [(wo, .inl (y 0, 25, .inl fwo)), (fs, .inl (y 0, 25, .inl ffs)), (sc, .inl (y 0, 25, .inl fsc)), (tx, .inr (7, [.ref bys, .int (nI ln), .int (nI tk), .int (nI sta), .int (nI en), .int num, .ref wo, .ref fs, .ref sc, .int (nI tfi), .int (nI tgl), .int (nI tst)])), (bys, .inl (y 1, 150, .inl fby))] := hD
    refine lv_istore_n (lv' := [(2, .int 1), (0, .ref tx), (1, .int 0)]) hx hb dX7_isItem_4 rfl hl (by decide) rfl (fun ls hl => ?_)
    refine lv_iload_n hx hb dX7_isItem_5 rfl (lv_at hl 0 rfl) ?_
    refine lv_iconst (v := (-1)) hx hb dX7_isItem_6 (by decide) ?_
    refine lv_icmp_eq (tgt := 31) hx hb dX7_isItem_7 (by decide) (fun h9 => absurd h9 (by decide)) (fun _ => ?_)
    refine lv_iload_n hx hb dX7_isItem_10 rfl (lv_at hl 0 rfl) ?_
    refine lv_if_ne (tgt := 18) hx hb dX7_isItem_11 (by decide) (fun _ => ?_) (fun h9 => absurd h9 (by decide))
    refine lv_iconst (v := 0) hx hb dX7_isItem_18 (by decide) ?_
    refine lv_iload_n hx hb dX7_isItem_19 rfl (lv_at hl 2 rfl) ?_
    refine lv_if_ne (tgt := 27) hx hb dX7_isItem_20 (by decide) (fun h9 => absurd h9 (by decide)) (fun _ => ?_)
    refine lv_iconst (v := 1) hx hb dX7_isItem_23 (by decide) ?_
    refine lv_goto (tgt := 28) hx hb dX7_isItem_24 (by decide) ?_
    refine lv_icmp_eq (tgt := 33) hx hb dX7_isItem_28 (by decide) (fun h9 => absurd h9 (by decide)) (fun _ => ?_)
    refine lv_iconst (v := 0) hx hb dX7_isItem_31 (by decide) ?_
    exact W.zret (v := 0) hx hb hr (by decide) (fun tZ ht hW => ⟨⟨0, ((nI tk), sta, en, num, fwo, ffs), rfl, ⟨by first | omega | (dsimp only; omega), by first | omega | (dsimp only; omega), Or.inl rfl, (fun _ => ks_it0A (fun q9 => ks_n01 q9 h9)), (fun h9 => absurd h9 (by decide))⟩, by rw [ht]; exact hP.sub [3, 4, 0, 1, 2] rfl, hD.sub [3, 4, 0, 1, 2] (by decide) rfl⟩, hS.F ht⟩) hS.2.2 dX7_isItem_32
  · skip
    have hP : va_P D vwCl [(wo, .inl (y 0, 25, .inl fwo)), (fs, .inl (y 0, 25, .inl ffs)), (sc, .inl (y 0, 25, .inl fsc)), (tx, .inr (7, [.ref bys, .int (nI ln), .int (nI tk), .int (nI sta), .int (nI en), .int num, .ref wo, .ref fs, .ref sc, .int (nI tfi), .int (nI tgl), .int (nI tst)])), (bys, .inl (y 1, 150, .inl fby))] H := hP
    have hD : va_D A [(wo, .inl (y 0, 25, .inl fwo)), (fs, .inl (y 0, 25, .inl ffs)), (sc, .inl (y 0, 25, .inl fsc)), (tx, .inr (7, [.ref bys, .int (nI ln), .int (nI tk), .int (nI sta), .int (nI en), .int num, .ref wo, .ref fs, .ref sc, .int (nI tfi), .int (nI tgl), .int (nI tst)])), (bys, .inl (y 1, 150, .inl fby))] := hD
    refine lv_istore_n (lv' := [(2, .int 2), (0, .ref tx), (1, .int 0)]) hx hb dX7_isItem_4 rfl hl (by decide) rfl (fun ls hl => ?_)
    refine lv_iload_n hx hb dX7_isItem_5 rfl (lv_at hl 0 rfl) ?_
    refine lv_iconst (v := (-1)) hx hb dX7_isItem_6 (by decide) ?_
    refine lv_icmp_eq (tgt := 31) hx hb dX7_isItem_7 (by decide) (fun h9 => absurd h9 (by decide)) (fun _ => ?_)
    refine lv_iload_n hx hb dX7_isItem_10 rfl (lv_at hl 0 rfl) ?_
    refine lv_if_ne (tgt := 18) hx hb dX7_isItem_11 (by decide) (fun _ => ?_) (fun h9 => absurd h9 (by decide))
    refine lv_iconst (v := 0) hx hb dX7_isItem_18 (by decide) ?_
    refine lv_iload_n hx hb dX7_isItem_19 rfl (lv_at hl 2 rfl) ?_
    refine lv_if_ne (tgt := 27) hx hb dX7_isItem_20 (by decide) (fun h9 => absurd h9 (by decide)) (fun _ => ?_)
    refine lv_iconst (v := 1) hx hb dX7_isItem_23 (by decide) ?_
    refine lv_goto (tgt := 28) hx hb dX7_isItem_24 (by decide) ?_
    refine lv_icmp_eq (tgt := 33) hx hb dX7_isItem_28 (by decide) (fun h9 => absurd h9 (by decide)) (fun _ => ?_)
    refine lv_iconst (v := 0) hx hb dX7_isItem_31 (by decide) ?_
    exact W.zret (v := 0) hx hb hr (by decide) (fun tZ ht hW => ⟨⟨0, ((nI tk), sta, en, num, fwo, ffs), rfl, ⟨by first | omega | (dsimp only; omega), by first | omega | (dsimp only; omega), Or.inl rfl, (fun _ => ks_it0A (fun q9 => ks_n02 q9 h10)), (fun h9 => absurd h9 (by decide))⟩, by rw [ht]; exact hP.sub [3, 4, 0, 1, 2] rfl, hD.sub [3, 4, 0, 1, 2] (by decide) rfl⟩, hS.F ht⟩) hS.2.2 dX7_isItem_32
  · skip
    have hP : va_P D vwCl [(wo, .inl (y 0, 25, .inl fwo)), (fs, .inl (y 0, 25, .inl ffs)), (sc, .inl (y 0, 25, .inl fsc)), (tx, .inr (7, [.ref bys, .int (nI ln), .int (nI tk), .int (nI sta), .int (nI en), .int num, .ref wo, .ref fs, .ref sc, .int (nI tfi), .int (nI tgl), .int (nI tst)])), (bys, .inl (y 1, 150, .inl fby))] H := hP
    have hD : va_D A [(wo, .inl (y 0, 25, .inl fwo)), (fs, .inl (y 0, 25, .inl ffs)), (sc, .inl (y 0, 25, .inl fsc)), (tx, .inr (7, [.ref bys, .int (nI ln), .int (nI tk), .int (nI sta), .int (nI en), .int num, .ref wo, .ref fs, .ref sc, .int (nI tfi), .int (nI tgl), .int (nI tst)])), (bys, .inl (y 1, 150, .inl fby))] := hD
    refine lv_istore_n (lv' := [(2, .int 3), (0, .ref tx), (1, .int 0)]) hx hb dX7_isItem_4 rfl hl (by decide) rfl (fun ls hl => ?_)
    refine lv_iload_n hx hb dX7_isItem_5 rfl (lv_at hl 0 rfl) ?_
    refine lv_iconst (v := (-1)) hx hb dX7_isItem_6 (by decide) ?_
    refine lv_icmp_eq (tgt := 31) hx hb dX7_isItem_7 (by decide) (fun h9 => absurd h9 (by decide)) (fun _ => ?_)
    refine lv_iload_n hx hb dX7_isItem_10 rfl (lv_at hl 0 rfl) ?_
    refine lv_if_ne (tgt := 18) hx hb dX7_isItem_11 (by decide) (fun _ => ?_) (fun h9 => absurd h9 (by decide))
    refine lv_iconst (v := 0) hx hb dX7_isItem_18 (by decide) ?_
    refine lv_iload_n hx hb dX7_isItem_19 rfl (lv_at hl 2 rfl) ?_
    refine lv_if_ne (tgt := 27) hx hb dX7_isItem_20 (by decide) (fun h9 => absurd h9 (by decide)) (fun _ => ?_)
    refine lv_iconst (v := 1) hx hb dX7_isItem_23 (by decide) ?_
    refine lv_goto (tgt := 28) hx hb dX7_isItem_24 (by decide) ?_
    refine lv_icmp_eq (tgt := 33) hx hb dX7_isItem_28 (by decide) (fun h9 => absurd h9 (by decide)) (fun _ => ?_)
    refine lv_iconst (v := 0) hx hb dX7_isItem_31 (by decide) ?_
    exact W.zret (v := 0) hx hb hr (by decide) (fun tZ ht hW => ⟨⟨0, ((nI tk), sta, en, num, fwo, ffs), rfl, ⟨by first | omega | (dsimp only; omega), by first | omega | (dsimp only; omega), Or.inl rfl, (fun _ => ks_it0A (fun q9 => ks_n03 q9 h12)), (fun h9 => absurd h9 (by decide))⟩, by rw [ht]; exact hP.sub [3, 4, 0, 1, 2] rfl, hD.sub [3, 4, 0, 1, 2] (by decide) rfl⟩, hS.F ht⟩) hS.2.2 dX7_isItem_32

set_option maxHeartbeats 4000000 in
set_option maxRecDepth 100000 in
theorem gs_parse (l : Launch) (D : va_G) (y : Nat → ClassId) (aK : Nat → Nat) (aV : Nat → Nat) (tx : Nat) (bys : Nat) (wo : Nat) (fs : Nat) (sc : Nat) (ln : Nat) (sta : Nat) (en : Nat) (tok : Int32) (num : Int32) (tfi : Int32) (tgl : Int32) (tst : Int32) (fby : Nat → Int32) (fwo : Nat → Int32) (ffs : Nat → Int32) (fsc : Nat → Int32) (hln : ln ≤ 150) (hTs : sta ≤ 150) (hTe : en ≤ 150) : kz_Mi l yX7_parse wsX7_parse ({ frames := 8, cells := 0, slots := 0, locals := 210 }) D y [.ref tx] [(tx, .inr (7, [.ref bys, .int (nI ln), .int tok, .int (nI sta), .int (nI en), .int num, .ref wo, .ref fs, .ref sc, .int tfi, .int tgl, .int tst])), (bys, .inl (y 1, 150, .inl fby)), (wo, .inl (y 0, 25, .inl fwo)), (fs, .inl (y 0, 25, .inl ffs)), (sc, .inl (y 0, 25, .inl fsc))] aK aV (fun (r : Int32) (u : Int32 × Nat × Nat × Int32 × Int32 × Int32 × Int32 × (Nat → Int32) × (Nat → Int32) × (Nat → Int32)) => u.2.1 ≤ 150 ∧ u.2.2.1 ≤ 150 ∧ kz_pR fby ln u.2.2.2.2.2.2.2.1 u.2.2.2.2.2.2.2.2.1 r) (fun u => [(tx, .inr (7, [.ref bys, .int (nI ln), .int u.1, .int (nI u.2.1), .int (nI u.2.2.1), .int u.2.2.2.1, .ref wo, .ref fs, .ref sc, .int u.2.2.2.2.1, .int u.2.2.2.2.2.1, .int u.2.2.2.2.2.2.1])), (bys, .inl (y 1, 150, .inl fby)), (wo, .inl (y 0, 25, .inl u.2.2.2.2.2.2.2.1)), (fs, .inl (y 0, 25, .inl u.2.2.2.2.2.2.2.2.1)), (sc, .inl (y 0, 25, .inl u.2.2.2.2.2.2.2.2.2))]) 0 0 := by
  refine kz_Mi.of (cc := cX7_parse) (maxL := 2) (ret := (some .int)) (by decide) rfl ?_
  intro pZ eZ s mZ beZ meZ cZ A hE
  obtain ⟨hx, hb, hr, hml, hts, hown, hlocks, hin, hA, hP, hD, hK, hN, hZ⟩ := hE
  have hS : va_S A s.heap s.heap [] := va_S.rf
  have hl := lv_entry ([.ref tx]) (n := 2) (Nat.le_of_ble_eq_true rfl)
  rw [lg_entry_eq]
  generalize (lg_sl ([.ref tx]) ++ List.replicate (2 - (lg_sl ([.ref tx])).length) Slot.unset).toArray = ls at hl ⊢
  have hl : lv_has ls 2 [(0, .ref tx)] := hl
  have fw1 := hts (.fieldLink RX7 29 "GleanDusk$Text" "end" "I") (List.mem_of_getElem? (i := 1) rfl)
  have fw2 := hts (.fieldLink RX7 32 "GleanDusk$Text" "fields" "I") (List.mem_of_getElem? (i := 2) rfl)
  have fw3 := hts (.fieldLink RX7 35 "GleanDusk$Text" "gleaners" "I") (List.mem_of_getElem? (i := 3) rfl)
  have fw4 := hts (.fieldLink RX7 38 "GleanDusk$Text" "steps" "I") (List.mem_of_getElem? (i := 4) rfl)
  have fw5 := hts (.fieldLink RX7 44 "GleanDusk$Text" "token" "I") (List.mem_of_getElem? (i := 5) rfl)
  have fw6 := hts (.fieldLink RX7 51 "GleanDusk$Text" "start" "I") (List.mem_of_getElem? (i := 6) rfl)
  have iw7 : ∀ w ∈ wsX70, w ∈ wsX7_parse := fun _ h => List.mem_cons_of_mem _ (List.mem_append_right _ h)
  refine lv_aload_n hx hb dX7_parse_0 rfl (lv_at hl 0 rfl) ?_
  refine lv_iconst (v := 0) hx hb dX7_parse_1 (by decide) ?_
  refine va_put (D := D) (ci := 7) (v := .int 0) (ty := .int) (C := RX7) (T := TX7) (N := 12) hx hb hts iw7 tyX7 tyX7_ok nmX7 hown hK hP hD hS 0 rfl rfl 4 (by decide) fw1 (fun _ h9 => h9) rfl (by decide +kernel) rfl rfl (Nat.le_of_ble_eq_true rfl) dX7_parse_2 (fun H locs hP hD hS => ?_)
  have hP : va_P D vwCl [(tx, .inr (7, [.ref bys, .int (nI ln), .int tok, .int (nI sta), .int 0, .int num, .ref wo, .ref fs, .ref sc, .int tfi, .int tgl, .int tst])), (bys, .inl (y 1, 150, .inl fby)), (wo, .inl (y 0, 25, .inl fwo)), (fs, .inl (y 0, 25, .inl ffs)), (sc, .inl (y 0, 25, .inl fsc))] H := hP
  have hD : va_D A [(tx, .inr (7, [.ref bys, .int (nI ln), .int tok, .int (nI sta), .int 0, .int num, .ref wo, .ref fs, .ref sc, .int tfi, .int tgl, .int tst])), (bys, .inl (y 1, 150, .inl fby)), (wo, .inl (y 0, 25, .inl fwo)), (fs, .inl (y 0, 25, .inl ffs)), (sc, .inl (y 0, 25, .inl fsc))] := hD
  refine lv_aload_n hx hb dX7_parse_5 rfl (lv_at hl 0 rfl) ?_
  refine lv_iconst (v := 0) hx hb dX7_parse_6 (by decide) ?_
  refine va_put (D := D) (ci := 7) (v := .int 0) (ty := .int) (C := RX7) (T := TX7) (N := 12) hx hb hts iw7 tyX7 tyX7_ok nmX7 hown hK hP hD hS 0 rfl rfl 9 (by decide) fw2 (fun _ h9 => h9) rfl (by decide +kernel) rfl rfl (Nat.le_of_ble_eq_true rfl) dX7_parse_7 (fun H locs hP hD hS => ?_)
  have hP : va_P D vwCl [(tx, .inr (7, [.ref bys, .int (nI ln), .int tok, .int (nI sta), .int 0, .int num, .ref wo, .ref fs, .ref sc, .int 0, .int tgl, .int tst])), (bys, .inl (y 1, 150, .inl fby)), (wo, .inl (y 0, 25, .inl fwo)), (fs, .inl (y 0, 25, .inl ffs)), (sc, .inl (y 0, 25, .inl fsc))] H := hP
  have hD : va_D A [(tx, .inr (7, [.ref bys, .int (nI ln), .int tok, .int (nI sta), .int 0, .int num, .ref wo, .ref fs, .ref sc, .int 0, .int tgl, .int tst])), (bys, .inl (y 1, 150, .inl fby)), (wo, .inl (y 0, 25, .inl fwo)), (fs, .inl (y 0, 25, .inl ffs)), (sc, .inl (y 0, 25, .inl fsc))] := hD
  refine lv_aload_n hx hb dX7_parse_10 rfl (lv_at hl 0 rfl) ?_
  refine lv_iconst (v := 0) hx hb dX7_parse_11 (by decide) ?_
  refine va_put (D := D) (ci := 7) (v := .int 0) (ty := .int) (C := RX7) (T := TX7) (N := 12) hx hb hts iw7 tyX7 tyX7_ok nmX7 hown hK hP hD hS 0 rfl rfl 10 (by decide) fw3 (fun _ h9 => h9) rfl (by decide +kernel) rfl rfl (Nat.le_of_ble_eq_true rfl) dX7_parse_12 (fun H locs hP hD hS => ?_)
  have hP : va_P D vwCl [(tx, .inr (7, [.ref bys, .int (nI ln), .int tok, .int (nI sta), .int 0, .int num, .ref wo, .ref fs, .ref sc, .int 0, .int 0, .int tst])), (bys, .inl (y 1, 150, .inl fby)), (wo, .inl (y 0, 25, .inl fwo)), (fs, .inl (y 0, 25, .inl ffs)), (sc, .inl (y 0, 25, .inl fsc))] H := hP
  have hD : va_D A [(tx, .inr (7, [.ref bys, .int (nI ln), .int tok, .int (nI sta), .int 0, .int num, .ref wo, .ref fs, .ref sc, .int 0, .int 0, .int tst])), (bys, .inl (y 1, 150, .inl fby)), (wo, .inl (y 0, 25, .inl fwo)), (fs, .inl (y 0, 25, .inl ffs)), (sc, .inl (y 0, 25, .inl fsc))] := hD
  refine lv_aload_n hx hb dX7_parse_15 rfl (lv_at hl 0 rfl) ?_
  refine lv_bipush (v := 12) hx hb dX7_parse_16 (by decide) ?_
  refine va_put (D := D) (ci := 7) (v := .int 12) (ty := .int) (C := RX7) (T := TX7) (N := 12) hx hb hts iw7 tyX7 tyX7_ok nmX7 hown hK hP hD hS 0 rfl rfl 11 (by decide) fw4 (fun _ h9 => h9) rfl (by decide +kernel) rfl rfl (Nat.le_of_ble_eq_true rfl) dX7_parse_18 (fun H locs hP hD hS => ?_)
  have hP : va_P D vwCl [(tx, .inr (7, [.ref bys, .int (nI ln), .int tok, .int (nI sta), .int 0, .int num, .ref wo, .ref fs, .ref sc, .int 0, .int 0, .int 12])), (bys, .inl (y 1, 150, .inl fby)), (wo, .inl (y 0, 25, .inl fwo)), (fs, .inl (y 0, 25, .inl ffs)), (sc, .inl (y 0, 25, .inl fsc))] H := hP
  have hD : va_D A [(tx, .inr (7, [.ref bys, .int (nI ln), .int tok, .int (nI sta), .int 0, .int num, .ref wo, .ref fs, .ref sc, .int 0, .int 0, .int 12])), (bys, .inl (y 1, 150, .inl fby)), (wo, .inl (y 0, 25, .inl fwo)), (fs, .inl (y 0, 25, .inl ffs)), (sc, .inl (y 0, 25, .inl fsc))] := hD
  refine lv_iconst (v := 0) hx hb dX7_parse_21 (by decide) ?_
  refine lv_istore_n (lv' := [(1, .int 0), (0, .ref tx)]) hx hb dX7_parse_22 rfl hl (by decide) rfl (fun ls hl => ?_)
  refine lv_iload_n hx hb dX7_parse_23 rfl (lv_at hl 0 rfl) ?_
  refine lv_bipush (v := 25) hx hb dX7_parse_24 (by decide) ?_
  refine lv_icmp_ge (tgt := 78) hx hb dX7_parse_26 (by decide) (fun h9 => absurd h9 (by decide)) (fun _ => ?_)
  refine lv_aload_n hx hb dX7_parse_29 rfl (lv_at hl 1 rfl) ?_
  have hs1 : kw_Split [(tx, .inr (7, [.ref bys, .int (nI ln), .int tok, .int (nI sta), .int 0, .int num, .ref wo, .ref fs, .ref sc, .int 0, .int 0, .int 12])), (bys, .inl (y 1, 150, .inl fby)), (wo, .inl (y 0, 25, .inl fwo)), (fs, .inl (y 0, 25, .inl ffs)), (sc, .inl (y 0, 25, .inl fsc))] [(tx, .inr (7, [.ref bys, .int (nI ln), .int tok, .int (nI sta), .int 0, .int num, .ref wo, .ref fs, .ref sc, .int 0, .int 0, .int 12])), (bys, .inl (y 1, 150, .inl fby))] [(wo, .inl (y 0, 25, .inl fwo)), (fs, .inl (y 0, 25, .inl ffs)), (sc, .inl (y 0, 25, .inl fsc))] [0, 1] [2, 3, 4] := ⟨rfl, rfl, rfl, rfl, rfl, by decide⟩
  refine kw_go_v hs1 hP hD hS hA (va_runV (As := []) (rest := []) ⟨hx, hb, hml, hown, hts⟩ (gs_advance l D y tx bys wo fs sc ln sta 0 tok num 0 0 12 fby hln (by omega) _) (cwV 0 hts gX7_parse_X7_advance rfl rfl rfl (by decide +kernel) ⟨Nat.le_of_ble_eq_true rfl, Nat.le_of_ble_eq_true rfl⟩) (kw_PreV (ci := 7) (q0 := 0) hs1 hP hD hK hN rfl rfl) rfl rfl hl.1 rfl (lv_room (Nat.le_of_ble_eq_true rfl)) dX7_parse_30 ⟨Nat.le_of_ble_eq_true rfl, Nat.le_of_ble_eq_true rfl⟩) (fun u3 H locs hq hP hD hS => ?_)
  obtain ⟨v4, v5, v6, v7⟩ := u3
  try dsimp only at hq
  obtain ⟨h8, h9, h10, h11, h12⟩ := hq
  have hP : va_P D vwCl [(wo, .inl (y 0, 25, .inl fwo)), (fs, .inl (y 0, 25, .inl ffs)), (sc, .inl (y 0, 25, .inl fsc)), (tx, .inr (7, [.ref bys, .int (nI ln), .int v4, .int (nI v5), .int (nI v6), .int v7, .ref wo, .ref fs, .ref sc, .int 0, .int 0, .int 12])), (bys, .inl (y 1, 150, .inl fby))] H := hP
  have hD : va_D A [(wo, .inl (y 0, 25, .inl fwo)), (fs, .inl (y 0, 25, .inl ffs)), (sc, .inl (y 0, 25, .inl fsc)), (tx, .inr (7, [.ref bys, .int (nI ln), .int v4, .int (nI v5), .int (nI v6), .int v7, .ref wo, .ref fs, .ref sc, .int 0, .int 0, .int 12])), (bys, .inl (y 1, 150, .inl fby))] := hD
  obtain ⟨rfl, rfl, rfl, hn13⟩ := h12
  have hk14 := ks_K4 fby ln 0
  have hP : va_P D vwCl [(wo, .inl (y 0, 25, .inl fwo)), (fs, .inl (y 0, 25, .inl ffs)), (sc, .inl (y 0, 25, .inl fsc)), (tx, .inr (7, [.ref bys, .int (nI ln), .int (nI (ks_K fby ln 0)), .int (nI (ks_S fby ln 0)), .int (nI (ks_E fby ln 0)), .int v7, .ref wo, .ref fs, .ref sc, .int 0, .int 0, .int 12])), (bys, .inl (y 1, 150, .inl fby))] H := hP
  have hD : va_D A [(wo, .inl (y 0, 25, .inl fwo)), (fs, .inl (y 0, 25, .inl ffs)), (sc, .inl (y 0, 25, .inl fsc)), (tx, .inr (7, [.ref bys, .int (nI ln), .int (nI (ks_K fby ln 0)), .int (nI (ks_S fby ln 0)), .int (nI (ks_E fby ln 0)), .int v7, .ref wo, .ref fs, .ref sc, .int 0, .int 0, .int 12])), (bys, .inl (y 1, 150, .inl fby))] := hD
  refine lv_aload_n hx hb dX7_parse_33 rfl (lv_at hl 1 rfl) ?_
  refine va_get (D := D) (ci := 7) (v := .int (nI (ks_K fby ln 0))) (C := RX7) (T := TX7) (N := 12) hx hb hts iw7 hown hK hP 3 rfl rfl 2 (by decide) fw5 (fun _ h9 => h9) rfl dX7_parse_34 ?_
  refine lv_if_ne (tgt := 46) hx hb dX7_parse_37 (by decide) (fun h15 => ?_) (fun h16 => ?_)
  · skip
    have h15 : ¬ (ks_K fby ln 0) = 0 := fun q9 => h15 ((nI_eq (a := (ks_K fby ln 0)) (b := 0) (by omega) (by omega)).mpr q9)
    refine lv_aload_n hx hb dX7_parse_46 rfl (lv_at hl 1 rfl) ?_
    refine lv_iload_n hx hb dX7_parse_47 rfl (lv_at hl 0 rfl) ?_
    have hs17 : kw_Split [(wo, .inl (y 0, 25, .inl fwo)), (fs, .inl (y 0, 25, .inl ffs)), (sc, .inl (y 0, 25, .inl fsc)), (tx, .inr (7, [.ref bys, .int (nI ln), .int (nI (ks_K fby ln 0)), .int (nI (ks_S fby ln 0)), .int (nI (ks_E fby ln 0)), .int v7, .ref wo, .ref fs, .ref sc, .int 0, .int 0, .int 12])), (bys, .inl (y 1, 150, .inl fby))] [(tx, .inr (7, [.ref bys, .int (nI ln), .int (nI (ks_K fby ln 0)), .int (nI (ks_S fby ln 0)), .int (nI (ks_E fby ln 0)), .int v7, .ref wo, .ref fs, .ref sc, .int 0, .int 0, .int 12])), (bys, .inl (y 1, 150, .inl fby)), (wo, .inl (y 0, 25, .inl fwo)), (fs, .inl (y 0, 25, .inl ffs)), (sc, .inl (y 0, 25, .inl fsc))] [] [3, 4, 0, 1, 2] [] := ⟨rfl, rfl, rfl, rfl, rfl, by decide⟩
    refine kw_go_i hs17 hP hD hS hA (va_runV (As := [.int 0]) (rest := []) ⟨hx, hb, hml, hown, hts⟩ (gs_isItem0 l D y aK aV tx bys wo fs sc ln (ks_K fby ln 0) (ks_S fby ln 0) (ks_E fby ln 0) 0 0 12 v7 fby fwo ffs fsc hln (by omega) (by omega) (by omega) _) (cwV 1 hts gX7_parse_X7_isItem rfl rfl rfl (by decide +kernel) ⟨Nat.le_of_ble_eq_true rfl, Nat.le_of_ble_eq_true rfl⟩) (kz_PreV (ci := 7) (q0 := 3) hs17 hP hD hK hN rfl rfl hZ hS hA) rfl rfl hl.1 rfl (lv_room (Nat.le_of_ble_eq_true rfl)) dX7_parse_48 ⟨Nat.le_of_ble_eq_true rfl, Nat.le_of_ble_eq_true rfl⟩) (fun r18 u19 H locs hq hP hD hS => ?_)
    obtain ⟨v20, v21, v22, v23, v24, v25⟩ := u19
    try dsimp only at hq
    obtain ⟨h26, h27, (rfl | rfl), h28, h29⟩ := hq
    · skip
      have hP : va_P D vwCl [(tx, .inr (7, [.ref bys, .int (nI ln), .int v20, .int (nI v21), .int (nI v22), .int v23, .ref wo, .ref fs, .ref sc, .int (nI 0), .int (nI 0), .int (nI 12)])), (bys, .inl (y 1, 150, .inl fby)), (wo, .inl (y 0, 25, .inl v24)), (fs, .inl (y 0, 25, .inl v25)), (sc, .inl (y 0, 25, .inl fsc))] H := hP
      have hD : va_D A [(tx, .inr (7, [.ref bys, .int (nI ln), .int v20, .int (nI v21), .int (nI v22), .int v23, .ref wo, .ref fs, .ref sc, .int (nI 0), .int (nI 0), .int (nI 12)])), (bys, .inl (y 1, 150, .inl fby)), (wo, .inl (y 0, 25, .inl v24)), (fs, .inl (y 0, 25, .inl v25)), (sc, .inl (y 0, 25, .inl fsc))] := hD
      have h28 : ks_it0 fby ln (ks_K fby ln 0) (ks_S fby ln 0) (ks_E fby ln 0) = ks_flt v21 := h28 rfl
      refine lv_if_ne (tgt := 57) hx hb dX7_parse_51 (by decide) (fun h9 => absurd h9 (by decide)) (fun _ => ?_)
      refine lv_goto (tgt := 78) hx hb dX7_parse_54 (by decide) ?_
      refine lv_bipush (v := (-10)) hx hb dX7_parse_78 (by decide) ?_
      refine lv_aload_n hx hb dX7_parse_80 rfl (lv_at hl 1 rfl) ?_
      refine va_get (D := D) (ci := 7) (v := .int (nI v21)) (C := RX7) (T := TX7) (N := 12) hx hb hts iw7 hown hK hP 0 rfl rfl 3 (by decide) fw6 (fun _ h9 => h9) rfl dX7_parse_81 ?_
      refine lv_isub hx hb dX7_parse_84 ?_
      exact W.iret (v := ((-10) - (nI v21))) hx hb hr (fun tZ ht hW => ⟨⟨((-10) - (nI v21)), (v20, v21, v22, v23, (nI 0), (nI 0), (nI 12), v24, v25, fsc), rfl, ⟨by first | omega | (dsimp only; omega), by first | omega | (dsimp only; omega), kz_pR.flt (ks_readF h28) (by first | omega | (dsimp only; omega))⟩, by rw [ht]; exact hP.sub [0, 1, 2, 3, 4] rfl, hD.sub [0, 1, 2, 3, 4] (by decide) rfl⟩, hS.F ht⟩) hS.2.2 dX7_parse_85
    · skip
      have hP : va_P D vwCl [(tx, .inr (7, [.ref bys, .int (nI ln), .int v20, .int (nI v21), .int (nI v22), .int v23, .ref wo, .ref fs, .ref sc, .int (nI 0), .int (nI 0), .int (nI 12)])), (bys, .inl (y 1, 150, .inl fby)), (wo, .inl (y 0, 25, .inl v24)), (fs, .inl (y 0, 25, .inl v25)), (sc, .inl (y 0, 25, .inl fsc))] H := hP
      have hD : va_D A [(tx, .inr (7, [.ref bys, .int (nI ln), .int v20, .int (nI v21), .int (nI v22), .int v23, .ref wo, .ref fs, .ref sc, .int (nI 0), .int (nI 0), .int (nI 12)])), (bys, .inl (y 1, 150, .inl fby)), (wo, .inl (y 0, 25, .inl v24)), (fs, .inl (y 0, 25, .inl v25)), (sc, .inl (y 0, 25, .inl fsc))] := hD
      have h29 : kz_g0 fby ln (ks_K fby ln 0) (ks_S fby ln 0) (ks_E fby ln 0) v22 v24 v25 := h29 rfl
      refine lv_if_ne (tgt := 57) hx hb dX7_parse_51 (by decide) (fun _ => ?_) (fun h9 => absurd h9 (by decide))
      refine lv_aload_n hx hb dX7_parse_57 rfl (lv_at hl 1 rfl) ?_
      have hs30 : kw_Split [(tx, .inr (7, [.ref bys, .int (nI ln), .int v20, .int (nI v21), .int (nI v22), .int v23, .ref wo, .ref fs, .ref sc, .int (nI 0), .int (nI 0), .int (nI 12)])), (bys, .inl (y 1, 150, .inl fby)), (wo, .inl (y 0, 25, .inl v24)), (fs, .inl (y 0, 25, .inl v25)), (sc, .inl (y 0, 25, .inl fsc))] [(tx, .inr (7, [.ref bys, .int (nI ln), .int v20, .int (nI v21), .int (nI v22), .int v23, .ref wo, .ref fs, .ref sc, .int (nI 0), .int (nI 0), .int (nI 12)])), (bys, .inl (y 1, 150, .inl fby))] [(wo, .inl (y 0, 25, .inl v24)), (fs, .inl (y 0, 25, .inl v25)), (sc, .inl (y 0, 25, .inl fsc))] [0, 1] [2, 3, 4] := ⟨rfl, rfl, rfl, rfl, rfl, by decide⟩
      refine kw_go_v hs30 hP hD hS hA (va_runV (As := []) (rest := []) ⟨hx, hb, hml, hown, hts⟩ (gs_advance l D y tx bys wo fs sc ln v21 v22 v20 v23 (nI 0) (nI 0) (nI 12) fby hln (by omega) _) (cwV 0 hts gX7_parse_X7_advance rfl rfl rfl (by decide +kernel) ⟨Nat.le_of_ble_eq_true rfl, Nat.le_of_ble_eq_true rfl⟩) (kw_PreV (ci := 7) (q0 := 0) hs30 hP hD hK hN rfl rfl) rfl rfl hl.1 rfl (lv_room (Nat.le_of_ble_eq_true rfl)) dX7_parse_58 ⟨Nat.le_of_ble_eq_true rfl, Nat.le_of_ble_eq_true rfl⟩) (fun u32 H locs hq hP hD hS => ?_)
      obtain ⟨v33, v34, v35, v36⟩ := u32
      try dsimp only at hq
      obtain ⟨h37, h38, h39, h40, h41⟩ := hq
      have hP : va_P D vwCl [(wo, .inl (y 0, 25, .inl v24)), (fs, .inl (y 0, 25, .inl v25)), (sc, .inl (y 0, 25, .inl fsc)), (tx, .inr (7, [.ref bys, .int (nI ln), .int v33, .int (nI v34), .int (nI v35), .int v36, .ref wo, .ref fs, .ref sc, .int (nI 0), .int (nI 0), .int (nI 12)])), (bys, .inl (y 1, 150, .inl fby))] H := hP
      have hD : va_D A [(wo, .inl (y 0, 25, .inl v24)), (fs, .inl (y 0, 25, .inl v25)), (sc, .inl (y 0, 25, .inl fsc)), (tx, .inr (7, [.ref bys, .int (nI ln), .int v33, .int (nI v34), .int (nI v35), .int v36, .ref wo, .ref fs, .ref sc, .int (nI 0), .int (nI 0), .int (nI 12)])), (bys, .inl (y 1, 150, .inl fby))] := hD
      obtain ⟨rfl, rfl, rfl, hn42⟩ := h41
      have hk43 := ks_K4 fby ln v22
      have hP : va_P D vwCl [(wo, .inl (y 0, 25, .inl v24)), (fs, .inl (y 0, 25, .inl v25)), (sc, .inl (y 0, 25, .inl fsc)), (tx, .inr (7, [.ref bys, .int (nI ln), .int (nI (ks_K fby ln v22)), .int (nI (ks_S fby ln v22)), .int (nI (ks_E fby ln v22)), .int v36, .ref wo, .ref fs, .ref sc, .int (nI 0), .int (nI 0), .int (nI 12)])), (bys, .inl (y 1, 150, .inl fby))] H := hP
      have hD : va_D A [(wo, .inl (y 0, 25, .inl v24)), (fs, .inl (y 0, 25, .inl v25)), (sc, .inl (y 0, 25, .inl fsc)), (tx, .inr (7, [.ref bys, .int (nI ln), .int (nI (ks_K fby ln v22)), .int (nI (ks_S fby ln v22)), .int (nI (ks_E fby ln v22)), .int v36, .ref wo, .ref fs, .ref sc, .int (nI 0), .int (nI 0), .int (nI 12)])), (bys, .inl (y 1, 150, .inl fby))] := hD
      refine lv_aload_n hx hb dX7_parse_61 rfl (lv_at hl 1 rfl) ?_
      refine va_get (D := D) (ci := 7) (v := .int (nI (ks_K fby ln v22))) (C := RX7) (T := TX7) (N := 12) hx hb hts iw7 hown hK hP 3 rfl rfl 2 (by decide) fw5 (fun _ h9 => h9) rfl dX7_parse_62 ?_
      refine lv_iconst (v := 3) hx hb dX7_parse_65 (by decide) ?_
      refine lv_icmp_eq (tgt := 72) hx hb dX7_parse_66 (by decide) (fun h44 => ?_) (fun h45 => ?_)
      · skip
        have h44 : (ks_K fby ln v22) = 3 := (nI_eq (a := (ks_K fby ln v22)) (b := 3) (by omega) (by omega)).mp h44
        refine lv_iinc (v := 1) (lv' := [(1, .int 1), (0, .ref tx)]) hx hb dX7_parse_72 hl (k := 0) rfl (by decide) (by decide) rfl (fun ls hl => ?_)
        refine lv_goto (tgt := 23) hx hb dX7_parse_75 (by decide) ?_
        have lp172 : ∀ (fuj91 j91 : Nat) (x104 : Nat → Int32) (x105 : Nat → Int32) (x106 : Nat → Int32) (x107 : Int32) (x108 : Nat) (x109 : Nat) (x110 : Int32) (x111 : Nat) (x112 : Nat) (x113 : Nat) (H : Heap) (locs : List Loc) (ls : Array Slot), j91 ≤ 25 → 25 - j91 < fuj91 → x108 ≤ 150 → x109 ≤ ln → x111 ≤ 6 → x112 ≤ 5 → x113 ≤ 12 → 1 ≤ j91 → kz_LI fby ln x109 j91 x111 x112 x113 x104 x105 → va_P D vwCl [(wo, .inl (y 0, 25, .inl x104)), (fs, .inl (y 0, 25, .inl x105)), (sc, .inl (y 0, 25, .inl x106)), (tx, .inr (7, [.ref bys, .int (nI ln), .int x107, .int (nI x108), .int (nI x109), .int x110, .ref wo, .ref fs, .ref sc, .int (nI x111), .int (nI x112), .int (nI x113)])), (bys, .inl (y 1, 150, .inl fby))] H → va_D A [(wo, .inl (y 0, 25, .inl x104)), (fs, .inl (y 0, 25, .inl x105)), (sc, .inl (y 0, 25, .inl x106)), (tx, .inr (7, [.ref bys, .int (nI ln), .int x107, .int (nI x108), .int (nI x109), .int x110, .ref wo, .ref fs, .ref sc, .int (nI x111), .int (nI x112), .int (nI x113)])), (bys, .inl (y 1, 150, .inl fby))] → va_S A s.heap H locs → lv_has ls 2 [(1, .int (nI j91)), (0, .ref tx)] → W pZ l eZ ({ frames := 8, cells := 0, slots := 0, locals := 210 }) s mZ [.ref tx].toArray beZ meZ cZ H locs 0 0 (MQ beZ (va_Qi (fun (r : Int32) (u : Int32 × Nat × Nat × Int32 × Int32 × Int32 × Int32 × (Nat → Int32) × (Nat → Int32) × (Nat → Int32)) => u.2.1 ≤ 150 ∧ u.2.2.1 ≤ 150 ∧ kz_pR fby ln u.2.2.2.2.2.2.2.1 u.2.2.2.2.2.2.2.2.1 r) (kw_B D (fun u => [(tx, .inr (7, [.ref bys, .int (nI ln), .int u.1, .int (nI u.2.1), .int (nI u.2.2.1), .int u.2.2.2.1, .ref wo, .ref fs, .ref sc, .int u.2.2.2.2.1, .int u.2.2.2.2.2.1, .int u.2.2.2.2.2.2.1])), (bys, .inl (y 1, 150, .inl fby)), (wo, .inl (y 0, 25, .inl u.2.2.2.2.2.2.2.1)), (fs, .inl (y 0, 25, .inl u.2.2.2.2.2.2.2.2.1)), (sc, .inl (y 0, 25, .inl u.2.2.2.2.2.2.2.2.2))]) A) A) [.ref tx].toArray s 0 0 A) (F0 mZ 23 ls []) := by
          intro fuj91
          induction fuj91 with
          | zero => intro j91 x104 x105 x106 x107 x108 x109 x110 x111 x112 x113 H locs ls hj9 hf9; exact absurd hf9 (Nat.not_lt_zero _)
          | succ fuj91 ihj91 =>
            intro j91 x104 x105 x106 x107 x108 x109 x110 x111 x112 x113 H locs ls hj91 hfj91 hn_x108 hn_x109 hn_x111 hn_x112 hn_x113 hlo_j91 hI0_j91 hP hD hS hl
            refine lv_iload_n hx hb dX7_parse_23 rfl (lv_at hl 0 rfl) ?_
            refine lv_bipush (v := 25) hx hb dX7_parse_24 (by decide) ?_
            refine lv_icmp_ge (tgt := 78) hx hb dX7_parse_26 (by decide) (fun h173 => ?_) (fun h174 => ?_)
            · skip
              have h173 : 25 ≤ j91 := (nI_leI (a := 25) (b := j91) (by omega) (by omega)).mp h173
              refine lv_bipush (v := (-10)) hx hb dX7_parse_78 (by decide) ?_
              refine lv_aload_n hx hb dX7_parse_80 rfl (lv_at hl 1 rfl) ?_
              refine va_get (D := D) (ci := 7) (v := .int (nI x108)) (C := RX7) (T := TX7) (N := 12) hx hb hts iw7 hown hK hP 3 rfl rfl 3 (by decide) fw6 (fun _ h9 => h9) rfl dX7_parse_81 ?_
              refine lv_isub hx hb dX7_parse_84 ?_
              exact W.iret (v := ((-10) - (nI x108))) hx hb hr (fun tZ ht hW => ⟨⟨((-10) - (nI x108)), (x107, x108, x109, x110, (nI x111), (nI x112), (nI x113), x104, x105, x106), rfl, ⟨by first | omega | (dsimp only; omega), by first | omega | (dsimp only; omega), by obtain ⟨_, _, _, h79⟩ := hI0_j91; exfalso; omega⟩, by rw [ht]; exact hP.sub [3, 4, 0, 1, 2] rfl, hD.sub [3, 4, 0, 1, 2] (by decide) rfl⟩, hS.F ht⟩) hS.2.2 dX7_parse_85
            · skip
              have h174 : ¬ 25 ≤ j91 := fun q9 => h174 ((nI_leI (a := 25) (b := j91) (by omega) (by omega)).mpr q9)
              obtain ⟨kd9, hL9, hO9, h79⟩ := hI0_j91
              refine lv_aload_n hx hb dX7_parse_29 rfl (lv_at hl 1 rfl) ?_
              have hs175 : kw_Split [(wo, .inl (y 0, 25, .inl x104)), (fs, .inl (y 0, 25, .inl x105)), (sc, .inl (y 0, 25, .inl x106)), (tx, .inr (7, [.ref bys, .int (nI ln), .int x107, .int (nI x108), .int (nI x109), .int x110, .ref wo, .ref fs, .ref sc, .int (nI x111), .int (nI x112), .int (nI x113)])), (bys, .inl (y 1, 150, .inl fby))] [(tx, .inr (7, [.ref bys, .int (nI ln), .int x107, .int (nI x108), .int (nI x109), .int x110, .ref wo, .ref fs, .ref sc, .int (nI x111), .int (nI x112), .int (nI x113)])), (bys, .inl (y 1, 150, .inl fby))] [(wo, .inl (y 0, 25, .inl x104)), (fs, .inl (y 0, 25, .inl x105)), (sc, .inl (y 0, 25, .inl x106))] [3, 4] [0, 1, 2] := ⟨rfl, rfl, rfl, rfl, rfl, by decide⟩
              refine kw_go_v hs175 hP hD hS hA (va_runV (As := []) (rest := []) ⟨hx, hb, hml, hown, hts⟩ (gs_advance l D y tx bys wo fs sc ln x108 x109 x107 x110 (nI x111) (nI x112) (nI x113) fby hln (by omega) _) (cwV 0 hts gX7_parse_X7_advance rfl rfl rfl (by decide +kernel) ⟨Nat.le_of_ble_eq_true rfl, Nat.le_of_ble_eq_true rfl⟩) (kw_PreV (ci := 7) (q0 := 3) hs175 hP hD hK hN rfl rfl) rfl rfl hl.1 rfl (lv_room (Nat.le_of_ble_eq_true rfl)) dX7_parse_30 ⟨Nat.le_of_ble_eq_true rfl, Nat.le_of_ble_eq_true rfl⟩) (fun u177 H locs hq hP hD hS => ?_)
              obtain ⟨v178, v179, v180, v181⟩ := u177
              try dsimp only at hq
              obtain ⟨h182, h183, h184, h185, h186⟩ := hq
              have hP : va_P D vwCl [(wo, .inl (y 0, 25, .inl x104)), (fs, .inl (y 0, 25, .inl x105)), (sc, .inl (y 0, 25, .inl x106)), (tx, .inr (7, [.ref bys, .int (nI ln), .int v178, .int (nI v179), .int (nI v180), .int v181, .ref wo, .ref fs, .ref sc, .int (nI x111), .int (nI x112), .int (nI x113)])), (bys, .inl (y 1, 150, .inl fby))] H := hP
              have hD : va_D A [(wo, .inl (y 0, 25, .inl x104)), (fs, .inl (y 0, 25, .inl x105)), (sc, .inl (y 0, 25, .inl x106)), (tx, .inr (7, [.ref bys, .int (nI ln), .int v178, .int (nI v179), .int (nI v180), .int v181, .ref wo, .ref fs, .ref sc, .int (nI x111), .int (nI x112), .int (nI x113)])), (bys, .inl (y 1, 150, .inl fby))] := hD
              obtain ⟨rfl, rfl, rfl, hn187⟩ := h186
              have hk188 := ks_K4 fby ln x109
              have hP : va_P D vwCl [(wo, .inl (y 0, 25, .inl x104)), (fs, .inl (y 0, 25, .inl x105)), (sc, .inl (y 0, 25, .inl x106)), (tx, .inr (7, [.ref bys, .int (nI ln), .int (nI (ks_K fby ln x109)), .int (nI (ks_S fby ln x109)), .int (nI (ks_E fby ln x109)), .int v181, .ref wo, .ref fs, .ref sc, .int (nI x111), .int (nI x112), .int (nI x113)])), (bys, .inl (y 1, 150, .inl fby))] H := hP
              have hD : va_D A [(wo, .inl (y 0, 25, .inl x104)), (fs, .inl (y 0, 25, .inl x105)), (sc, .inl (y 0, 25, .inl x106)), (tx, .inr (7, [.ref bys, .int (nI ln), .int (nI (ks_K fby ln x109)), .int (nI (ks_S fby ln x109)), .int (nI (ks_E fby ln x109)), .int v181, .ref wo, .ref fs, .ref sc, .int (nI x111), .int (nI x112), .int (nI x113)])), (bys, .inl (y 1, 150, .inl fby))] := hD
              refine lv_aload_n hx hb dX7_parse_33 rfl (lv_at hl 1 rfl) ?_
              refine va_get (D := D) (ci := 7) (v := .int (nI (ks_K fby ln x109))) (C := RX7) (T := TX7) (N := 12) hx hb hts iw7 hown hK hP 3 rfl rfl 2 (by decide) fw5 (fun _ h9 => h9) rfl dX7_parse_34 ?_
              refine lv_if_ne (tgt := 46) hx hb dX7_parse_37 (by decide) (fun h189 => ?_) (fun h190 => ?_)
              · skip
                have h189 : ¬ (ks_K fby ln x109) = 0 := fun q9 => h189 ((nI_eq (a := (ks_K fby ln x109)) (b := 0) (by omega) (by omega)).mpr q9)
                refine lv_aload_n hx hb dX7_parse_46 rfl (lv_at hl 1 rfl) ?_
                refine lv_iload_n hx hb dX7_parse_47 rfl (lv_at hl 0 rfl) ?_
                have hs191 : kw_Split [(wo, .inl (y 0, 25, .inl x104)), (fs, .inl (y 0, 25, .inl x105)), (sc, .inl (y 0, 25, .inl x106)), (tx, .inr (7, [.ref bys, .int (nI ln), .int (nI (ks_K fby ln x109)), .int (nI (ks_S fby ln x109)), .int (nI (ks_E fby ln x109)), .int v181, .ref wo, .ref fs, .ref sc, .int (nI x111), .int (nI x112), .int (nI x113)])), (bys, .inl (y 1, 150, .inl fby))] [(tx, .inr (7, [.ref bys, .int (nI ln), .int (nI (ks_K fby ln x109)), .int (nI (ks_S fby ln x109)), .int (nI (ks_E fby ln x109)), .int v181, .ref wo, .ref fs, .ref sc, .int (nI x111), .int (nI x112), .int (nI x113)])), (bys, .inl (y 1, 150, .inl fby)), (wo, .inl (y 0, 25, .inl x104)), (fs, .inl (y 0, 25, .inl x105)), (sc, .inl (y 0, 25, .inl x106))] [] [3, 4, 0, 1, 2] [] := ⟨rfl, rfl, rfl, rfl, rfl, by decide⟩
                refine kw_go_i hs191 hP hD hS hA (va_runV (As := [.int (nI j91)]) (rest := []) ⟨hx, hb, hml, hown, hts⟩ (gs_isItem l D y aK aV tx bys wo fs sc ln (ks_K fby ln x109) (ks_S fby ln x109) (ks_E fby ln x109) x111 x112 x113 v181 fby x104 x105 x106 j91 kd9 hln (by omega) (by omega) (by omega) (by omega) (by omega) hO9 (by omega) (by omega) (by omega) _) (cwV 1 hts gX7_parse_X7_isItem rfl rfl rfl (by decide +kernel) ⟨Nat.le_of_ble_eq_true rfl, Nat.le_of_ble_eq_true rfl⟩) (kz_PreV (ci := 7) (q0 := 3) hs191 hP hD hK hN rfl rfl hZ hS hA) rfl rfl hl.1 rfl (lv_room (Nat.le_of_ble_eq_true rfl)) dX7_parse_48 ⟨Nat.le_of_ble_eq_true rfl, Nat.le_of_ble_eq_true rfl⟩) (fun r192 u193 H locs hq hP hD hS => ?_)
                obtain ⟨v194, v195, v196, v197, v198, v199, v200, v201, v202, v203⟩ := u193
                try dsimp only at hq
                obtain ⟨h204, h205, h206, h207, h208, (rfl | rfl), h209, h210⟩ := hq
                · skip
                  have hP : va_P D vwCl [(tx, .inr (7, [.ref bys, .int (nI ln), .int v194, .int (nI v195), .int (nI v196), .int v197, .ref wo, .ref fs, .ref sc, .int (nI v198), .int (nI v199), .int (nI v200)])), (bys, .inl (y 1, 150, .inl fby)), (wo, .inl (y 0, 25, .inl v201)), (fs, .inl (y 0, 25, .inl v202)), (sc, .inl (y 0, 25, .inl v203))] H := hP
                  have hD : va_D A [(tx, .inr (7, [.ref bys, .int (nI ln), .int v194, .int (nI v195), .int (nI v196), .int v197, .ref wo, .ref fs, .ref sc, .int (nI v198), .int (nI v199), .int (nI v200)])), (bys, .inl (y 1, 150, .inl fby)), (wo, .inl (y 0, 25, .inl v201)), (fs, .inl (y 0, 25, .inl v202)), (sc, .inl (y 0, 25, .inl v203))] := hD
                  have h209 : ks_it fby ln (ks_K fby ln x109) (ks_S fby ln x109) (ks_E fby ln x109) x111 x112 x113 kd9 = ks_flt v195 := h209 rfl
                  refine lv_if_ne (tgt := 57) hx hb dX7_parse_51 (by decide) (fun h9 => absurd h9 (by decide)) (fun _ => ?_)
                  refine lv_goto (tgt := 78) hx hb dX7_parse_54 (by decide) ?_
                  refine lv_bipush (v := (-10)) hx hb dX7_parse_78 (by decide) ?_
                  refine lv_aload_n hx hb dX7_parse_80 rfl (lv_at hl 1 rfl) ?_
                  refine va_get (D := D) (ci := 7) (v := .int (nI v195)) (C := RX7) (T := TX7) (N := 12) hx hb hts iw7 hown hK hP 0 rfl rfl 3 (by decide) fw6 (fun _ h9 => h9) rfl dX7_parse_81 ?_
                  refine lv_isub hx hb dX7_parse_84 ?_
                  exact W.iret (v := ((-10) - (nI v195))) hx hb hr (fun tZ ht hW => ⟨⟨((-10) - (nI v195)), (v194, v195, v196, v197, (nI v198), (nI v199), (nI v200), v201, v202, v203), rfl, ⟨by first | omega | (dsimp only; omega), by first | omega | (dsimp only; omega), kz_pR.flt (hL9.trans (ks_loopF h189 h209)) (by first | omega | (dsimp only; omega))⟩, by rw [ht]; exact hP.sub [0, 1, 2, 3, 4] rfl, hD.sub [0, 1, 2, 3, 4] (by decide) rfl⟩, hS.F ht⟩) hS.2.2 dX7_parse_85
                · skip
                  have hP : va_P D vwCl [(tx, .inr (7, [.ref bys, .int (nI ln), .int v194, .int (nI v195), .int (nI v196), .int v197, .ref wo, .ref fs, .ref sc, .int (nI v198), .int (nI v199), .int (nI v200)])), (bys, .inl (y 1, 150, .inl fby)), (wo, .inl (y 0, 25, .inl v201)), (fs, .inl (y 0, 25, .inl v202)), (sc, .inl (y 0, 25, .inl v203))] H := hP
                  have hD : va_D A [(tx, .inr (7, [.ref bys, .int (nI ln), .int v194, .int (nI v195), .int (nI v196), .int v197, .ref wo, .ref fs, .ref sc, .int (nI v198), .int (nI v199), .int (nI v200)])), (bys, .inl (y 1, 150, .inl fby)), (wo, .inl (y 0, 25, .inl v201)), (fs, .inl (y 0, 25, .inl v202)), (sc, .inl (y 0, 25, .inl v203))] := hD
                  have h210 : kz_g1 fby ln (ks_K fby ln x109) (ks_S fby ln x109) (ks_E fby ln x109) x111 x112 x113 kd9 v196 v198 v199 v200 v201 v202 (j91 + 1) := h210 rfl
                  refine lv_if_ne (tgt := 57) hx hb dX7_parse_51 (by decide) (fun _ => ?_) (fun h9 => absurd h9 (by decide))
                  obtain ⟨hm211, hm212⟩ := kz_g1.b h210
                  refine lv_aload_n hx hb dX7_parse_57 rfl (lv_at hl 1 rfl) ?_
                  have hs213 : kw_Split [(tx, .inr (7, [.ref bys, .int (nI ln), .int v194, .int (nI v195), .int (nI v196), .int v197, .ref wo, .ref fs, .ref sc, .int (nI v198), .int (nI v199), .int (nI v200)])), (bys, .inl (y 1, 150, .inl fby)), (wo, .inl (y 0, 25, .inl v201)), (fs, .inl (y 0, 25, .inl v202)), (sc, .inl (y 0, 25, .inl v203))] [(tx, .inr (7, [.ref bys, .int (nI ln), .int v194, .int (nI v195), .int (nI v196), .int v197, .ref wo, .ref fs, .ref sc, .int (nI v198), .int (nI v199), .int (nI v200)])), (bys, .inl (y 1, 150, .inl fby))] [(wo, .inl (y 0, 25, .inl v201)), (fs, .inl (y 0, 25, .inl v202)), (sc, .inl (y 0, 25, .inl v203))] [0, 1] [2, 3, 4] := ⟨rfl, rfl, rfl, rfl, rfl, by decide⟩
                  refine kw_go_v hs213 hP hD hS hA (va_runV (As := []) (rest := []) ⟨hx, hb, hml, hown, hts⟩ (gs_advance l D y tx bys wo fs sc ln v195 v196 v194 v197 (nI v198) (nI v199) (nI v200) fby hln (by omega) _) (cwV 0 hts gX7_parse_X7_advance rfl rfl rfl (by decide +kernel) ⟨Nat.le_of_ble_eq_true rfl, Nat.le_of_ble_eq_true rfl⟩) (kw_PreV (ci := 7) (q0 := 0) hs213 hP hD hK hN rfl rfl) rfl rfl hl.1 rfl (lv_room (Nat.le_of_ble_eq_true rfl)) dX7_parse_58 ⟨Nat.le_of_ble_eq_true rfl, Nat.le_of_ble_eq_true rfl⟩) (fun u215 H locs hq hP hD hS => ?_)
                  obtain ⟨v216, v217, v218, v219⟩ := u215
                  try dsimp only at hq
                  obtain ⟨h220, h221, h222, h223, h224⟩ := hq
                  have hP : va_P D vwCl [(wo, .inl (y 0, 25, .inl v201)), (fs, .inl (y 0, 25, .inl v202)), (sc, .inl (y 0, 25, .inl v203)), (tx, .inr (7, [.ref bys, .int (nI ln), .int v216, .int (nI v217), .int (nI v218), .int v219, .ref wo, .ref fs, .ref sc, .int (nI v198), .int (nI v199), .int (nI v200)])), (bys, .inl (y 1, 150, .inl fby))] H := hP
                  have hD : va_D A [(wo, .inl (y 0, 25, .inl v201)), (fs, .inl (y 0, 25, .inl v202)), (sc, .inl (y 0, 25, .inl v203)), (tx, .inr (7, [.ref bys, .int (nI ln), .int v216, .int (nI v217), .int (nI v218), .int v219, .ref wo, .ref fs, .ref sc, .int (nI v198), .int (nI v199), .int (nI v200)])), (bys, .inl (y 1, 150, .inl fby))] := hD
                  obtain ⟨rfl, rfl, rfl, hn225⟩ := h224
                  have hk226 := ks_K4 fby ln v196
                  have hP : va_P D vwCl [(wo, .inl (y 0, 25, .inl v201)), (fs, .inl (y 0, 25, .inl v202)), (sc, .inl (y 0, 25, .inl v203)), (tx, .inr (7, [.ref bys, .int (nI ln), .int (nI (ks_K fby ln v196)), .int (nI (ks_S fby ln v196)), .int (nI (ks_E fby ln v196)), .int v219, .ref wo, .ref fs, .ref sc, .int (nI v198), .int (nI v199), .int (nI v200)])), (bys, .inl (y 1, 150, .inl fby))] H := hP
                  have hD : va_D A [(wo, .inl (y 0, 25, .inl v201)), (fs, .inl (y 0, 25, .inl v202)), (sc, .inl (y 0, 25, .inl v203)), (tx, .inr (7, [.ref bys, .int (nI ln), .int (nI (ks_K fby ln v196)), .int (nI (ks_S fby ln v196)), .int (nI (ks_E fby ln v196)), .int v219, .ref wo, .ref fs, .ref sc, .int (nI v198), .int (nI v199), .int (nI v200)])), (bys, .inl (y 1, 150, .inl fby))] := hD
                  refine lv_aload_n hx hb dX7_parse_61 rfl (lv_at hl 1 rfl) ?_
                  refine va_get (D := D) (ci := 7) (v := .int (nI (ks_K fby ln v196))) (C := RX7) (T := TX7) (N := 12) hx hb hts iw7 hown hK hP 3 rfl rfl 2 (by decide) fw5 (fun _ h9 => h9) rfl dX7_parse_62 ?_
                  refine lv_iconst (v := 3) hx hb dX7_parse_65 (by decide) ?_
                  refine lv_icmp_eq (tgt := 72) hx hb dX7_parse_66 (by decide) (fun h227 => ?_) (fun h228 => ?_)
                  · skip
                    have h227 : (ks_K fby ln v196) = 3 := (nI_eq (a := (ks_K fby ln v196)) (b := 3) (by omega) (by omega)).mp h227
                    refine lv_iinc (v := (nI (j91 + 1))) (lv' := [(1, .int (nI (j91 + 1))), (0, .ref tx)]) hx hb dX7_parse_72 hl (k := 0) rfl (nI_1 j91) (by decide) rfl (fun ls hl => ?_)
                    refine lv_goto (tgt := 23) hx hb dX7_parse_75 (by decide) ?_
                    exact ihj91 (j91 + 1) v201 v202 v203 (nI (ks_K fby ln v196)) (ks_S fby ln v196) (ks_E fby ln v196) v219 v198 v199 v200 H locs ls (by omega) (by omega) (by omega) (by omega) (by omega) (by omega) (by omega) (by omega) (kz_LI.next hL9 h79 (by omega) h189 h210 (by omega) h227) (hP.sub [0, 1, 2, 3, 4] rfl) (hD.sub [0, 1, 2, 3, 4] (by decide) rfl) hS (lv_sub hl [0, 1] rfl)
                  · skip
                    have h228 : ¬ (ks_K fby ln v196) = 3 := fun q9 => h228 ((nI_eq (a := (ks_K fby ln v196)) (b := 3) (by omega) (by omega)).mpr q9)
                    refine lv_goto (tgt := 78) hx hb dX7_parse_69 (by decide) ?_
                    refine lv_bipush (v := (-10)) hx hb dX7_parse_78 (by decide) ?_
                    refine lv_aload_n hx hb dX7_parse_80 rfl (lv_at hl 1 rfl) ?_
                    refine va_get (D := D) (ci := 7) (v := .int (nI (ks_S fby ln v196))) (C := RX7) (T := TX7) (N := 12) hx hb hts iw7 hown hK hP 3 rfl rfl 3 (by decide) fw6 (fun _ h9 => h9) rfl dX7_parse_81 ?_
                    refine lv_isub hx hb dX7_parse_84 ?_
                    exact W.iret (v := ((-10) - (nI (ks_S fby ln v196)))) hx hb hr (fun tZ ht hW => ⟨⟨((-10) - (nI (ks_S fby ln v196))), ((nI (ks_K fby ln v196)), ks_S fby ln v196, ks_E fby ln v196, v219, (nI v198), (nI v199), (nI v200), v201, v202, v203), rfl, ⟨by first | omega | (dsimp only; omega), by first | omega | (dsimp only; omega), kz_pR.nos hL9 h189 h210 h228 (by first | omega | (dsimp only; omega))⟩, by rw [ht]; exact hP.sub [3, 4, 0, 1, 2] rfl, hD.sub [3, 4, 0, 1, 2] (by decide) rfl⟩, hS.F ht⟩) hS.2.2 dX7_parse_85
              · skip
                have h190 : (ks_K fby ln x109) = 0 := (nI_eq (a := (ks_K fby ln x109)) (b := 0) (by omega) (by omega)).mp h190
                refine lv_iload_n hx hb dX7_parse_40 rfl (lv_at hl 0 rfl) ?_
                refine lv_if_le (tgt := 46) hx hb dX7_parse_41 (by decide) (fun h229 => ?_) (fun h230 => ?_)
                · skip
                  have h229 : j91 ≤ 0 := (nI_leI (a := j91) (b := 0) (by omega) (by omega)).mp h229
                  exact absurd h229 (by omega)
                · skip
                  have h230 : ¬ j91 ≤ 0 := fun q9 => h230 ((nI_leI (a := j91) (b := 0) (by omega) (by omega)).mpr q9)
                  refine lv_iload_n hx hb dX7_parse_44 rfl (lv_at hl 0 rfl) ?_
                  exact W.iret (v := (nI j91)) hx hb hr (fun tZ ht hW => ⟨⟨(nI j91), ((nI (ks_K fby ln x109)), ks_S fby ln x109, ks_E fby ln x109, v181, (nI x111), (nI x112), (nI x113), x104, x105, x106), rfl, ⟨by first | omega | (dsimp only; omega), by first | omega | (dsimp only; omega), kz_pR.ok hL9 h190 hO9 (by first | omega | (dsimp only; omega)) (by first | omega | (dsimp only; omega))⟩, by rw [ht]; exact hP.sub [3, 4, 0, 1, 2] rfl, hD.sub [3, 4, 0, 1, 2] (by decide) rfl⟩, hS.F ht⟩) hS.2.2 dX7_parse_45
        exact lp172 (25 + 1) 1 v24 v25 fsc (nI (ks_K fby ln v22)) (ks_S fby ln v22) (ks_E fby ln v22) v36 0 0 12 _ _ _ (by omega) (by omega) (by omega) (by omega) (by omega) (by omega) (by omega) (by omega) (kz_LI.first h29 (by omega) h44) hP hD hS (lv_sub hl [0, 1] rfl)
      · skip
        have h45 : ¬ (ks_K fby ln v22) = 3 := fun q9 => h45 ((nI_eq (a := (ks_K fby ln v22)) (b := 3) (by omega) (by omega)).mpr q9)
        refine lv_goto (tgt := 78) hx hb dX7_parse_69 (by decide) ?_
        refine lv_bipush (v := (-10)) hx hb dX7_parse_78 (by decide) ?_
        refine lv_aload_n hx hb dX7_parse_80 rfl (lv_at hl 1 rfl) ?_
        refine va_get (D := D) (ci := 7) (v := .int (nI (ks_S fby ln v22))) (C := RX7) (T := TX7) (N := 12) hx hb hts iw7 hown hK hP 3 rfl rfl 3 (by decide) fw6 (fun _ h9 => h9) rfl dX7_parse_81 ?_
        refine lv_isub hx hb dX7_parse_84 ?_
        exact W.iret (v := ((-10) - (nI (ks_S fby ln v22)))) hx hb hr (fun tZ ht hW => ⟨⟨((-10) - (nI (ks_S fby ln v22))), ((nI (ks_K fby ln v22)), ks_S fby ln v22, ks_E fby ln v22, v36, (nI 0), (nI 0), (nI 12), v24, v25, fsc), rfl, ⟨by first | omega | (dsimp only; omega), by first | omega | (dsimp only; omega), kz_pR.flt (ks_readS h29.1 h45) (by first | omega | (dsimp only; omega))⟩, by rw [ht]; exact hP.sub [3, 4, 0, 1, 2] rfl, hD.sub [3, 4, 0, 1, 2] (by decide) rfl⟩, hS.F ht⟩) hS.2.2 dX7_parse_85
  · skip
    have h16 : (ks_K fby ln 0) = 0 := (nI_eq (a := (ks_K fby ln 0)) (b := 0) (by omega) (by omega)).mp h16
    refine lv_iload_n hx hb dX7_parse_40 rfl (lv_at hl 0 rfl) ?_
    refine lv_if_le (tgt := 46) hx hb dX7_parse_41 (by decide) (fun _ => ?_) (fun h9 => absurd h9 (by decide))
    refine lv_aload_n hx hb dX7_parse_46 rfl (lv_at hl 1 rfl) ?_
    refine lv_iload_n hx hb dX7_parse_47 rfl (lv_at hl 0 rfl) ?_
    have hs231 : kw_Split [(wo, .inl (y 0, 25, .inl fwo)), (fs, .inl (y 0, 25, .inl ffs)), (sc, .inl (y 0, 25, .inl fsc)), (tx, .inr (7, [.ref bys, .int (nI ln), .int (nI (ks_K fby ln 0)), .int (nI (ks_S fby ln 0)), .int (nI (ks_E fby ln 0)), .int v7, .ref wo, .ref fs, .ref sc, .int 0, .int 0, .int 12])), (bys, .inl (y 1, 150, .inl fby))] [(tx, .inr (7, [.ref bys, .int (nI ln), .int (nI (ks_K fby ln 0)), .int (nI (ks_S fby ln 0)), .int (nI (ks_E fby ln 0)), .int v7, .ref wo, .ref fs, .ref sc, .int 0, .int 0, .int 12])), (bys, .inl (y 1, 150, .inl fby)), (wo, .inl (y 0, 25, .inl fwo)), (fs, .inl (y 0, 25, .inl ffs)), (sc, .inl (y 0, 25, .inl fsc))] [] [3, 4, 0, 1, 2] [] := ⟨rfl, rfl, rfl, rfl, rfl, by decide⟩
    refine kw_go_i hs231 hP hD hS hA (va_runV (As := [.int 0]) (rest := []) ⟨hx, hb, hml, hown, hts⟩ (gs_isItem0 l D y aK aV tx bys wo fs sc ln (ks_K fby ln 0) (ks_S fby ln 0) (ks_E fby ln 0) 0 0 12 v7 fby fwo ffs fsc hln (by omega) (by omega) (by omega) _) (cwV 1 hts gX7_parse_X7_isItem rfl rfl rfl (by decide +kernel) ⟨Nat.le_of_ble_eq_true rfl, Nat.le_of_ble_eq_true rfl⟩) (kz_PreV (ci := 7) (q0 := 3) hs231 hP hD hK hN rfl rfl hZ hS hA) rfl rfl hl.1 rfl (lv_room (Nat.le_of_ble_eq_true rfl)) dX7_parse_48 ⟨Nat.le_of_ble_eq_true rfl, Nat.le_of_ble_eq_true rfl⟩) (fun r232 u233 H locs hq hP hD hS => ?_)
    obtain ⟨v234, v235, v236, v237, v238, v239⟩ := u233
    try dsimp only at hq
    obtain ⟨h240, h241, (rfl | rfl), h242, h243⟩ := hq
    · skip
      have hP : va_P D vwCl [(tx, .inr (7, [.ref bys, .int (nI ln), .int v234, .int (nI v235), .int (nI v236), .int v237, .ref wo, .ref fs, .ref sc, .int (nI 0), .int (nI 0), .int (nI 12)])), (bys, .inl (y 1, 150, .inl fby)), (wo, .inl (y 0, 25, .inl v238)), (fs, .inl (y 0, 25, .inl v239)), (sc, .inl (y 0, 25, .inl fsc))] H := hP
      have hD : va_D A [(tx, .inr (7, [.ref bys, .int (nI ln), .int v234, .int (nI v235), .int (nI v236), .int v237, .ref wo, .ref fs, .ref sc, .int (nI 0), .int (nI 0), .int (nI 12)])), (bys, .inl (y 1, 150, .inl fby)), (wo, .inl (y 0, 25, .inl v238)), (fs, .inl (y 0, 25, .inl v239)), (sc, .inl (y 0, 25, .inl fsc))] := hD
      have h242 : ks_it0 fby ln (ks_K fby ln 0) (ks_S fby ln 0) (ks_E fby ln 0) = ks_flt v235 := h242 rfl
      refine lv_if_ne (tgt := 57) hx hb dX7_parse_51 (by decide) (fun h9 => absurd h9 (by decide)) (fun _ => ?_)
      refine lv_goto (tgt := 78) hx hb dX7_parse_54 (by decide) ?_
      refine lv_bipush (v := (-10)) hx hb dX7_parse_78 (by decide) ?_
      refine lv_aload_n hx hb dX7_parse_80 rfl (lv_at hl 1 rfl) ?_
      refine va_get (D := D) (ci := 7) (v := .int (nI v235)) (C := RX7) (T := TX7) (N := 12) hx hb hts iw7 hown hK hP 0 rfl rfl 3 (by decide) fw6 (fun _ h9 => h9) rfl dX7_parse_81 ?_
      refine lv_isub hx hb dX7_parse_84 ?_
      exact W.iret (v := ((-10) - (nI v235))) hx hb hr (fun tZ ht hW => ⟨⟨((-10) - (nI v235)), (v234, v235, v236, v237, (nI 0), (nI 0), (nI 12), v238, v239, fsc), rfl, ⟨by first | omega | (dsimp only; omega), by first | omega | (dsimp only; omega), kz_pR.flt (ks_readF h242) (by first | omega | (dsimp only; omega))⟩, by rw [ht]; exact hP.sub [0, 1, 2, 3, 4] rfl, hD.sub [0, 1, 2, 3, 4] (by decide) rfl⟩, hS.F ht⟩) hS.2.2 dX7_parse_85
    · skip
      have hP : va_P D vwCl [(tx, .inr (7, [.ref bys, .int (nI ln), .int v234, .int (nI v235), .int (nI v236), .int v237, .ref wo, .ref fs, .ref sc, .int (nI 0), .int (nI 0), .int (nI 12)])), (bys, .inl (y 1, 150, .inl fby)), (wo, .inl (y 0, 25, .inl v238)), (fs, .inl (y 0, 25, .inl v239)), (sc, .inl (y 0, 25, .inl fsc))] H := hP
      have hD : va_D A [(tx, .inr (7, [.ref bys, .int (nI ln), .int v234, .int (nI v235), .int (nI v236), .int v237, .ref wo, .ref fs, .ref sc, .int (nI 0), .int (nI 0), .int (nI 12)])), (bys, .inl (y 1, 150, .inl fby)), (wo, .inl (y 0, 25, .inl v238)), (fs, .inl (y 0, 25, .inl v239)), (sc, .inl (y 0, 25, .inl fsc))] := hD
      have h243 : kz_g0 fby ln (ks_K fby ln 0) (ks_S fby ln 0) (ks_E fby ln 0) v236 v238 v239 := h243 rfl
      refine lv_if_ne (tgt := 57) hx hb dX7_parse_51 (by decide) (fun _ => ?_) (fun h9 => absurd h9 (by decide))
      refine lv_aload_n hx hb dX7_parse_57 rfl (lv_at hl 1 rfl) ?_
      have hs244 : kw_Split [(tx, .inr (7, [.ref bys, .int (nI ln), .int v234, .int (nI v235), .int (nI v236), .int v237, .ref wo, .ref fs, .ref sc, .int (nI 0), .int (nI 0), .int (nI 12)])), (bys, .inl (y 1, 150, .inl fby)), (wo, .inl (y 0, 25, .inl v238)), (fs, .inl (y 0, 25, .inl v239)), (sc, .inl (y 0, 25, .inl fsc))] [(tx, .inr (7, [.ref bys, .int (nI ln), .int v234, .int (nI v235), .int (nI v236), .int v237, .ref wo, .ref fs, .ref sc, .int (nI 0), .int (nI 0), .int (nI 12)])), (bys, .inl (y 1, 150, .inl fby))] [(wo, .inl (y 0, 25, .inl v238)), (fs, .inl (y 0, 25, .inl v239)), (sc, .inl (y 0, 25, .inl fsc))] [0, 1] [2, 3, 4] := ⟨rfl, rfl, rfl, rfl, rfl, by decide⟩
      refine kw_go_v hs244 hP hD hS hA (va_runV (As := []) (rest := []) ⟨hx, hb, hml, hown, hts⟩ (gs_advance l D y tx bys wo fs sc ln v235 v236 v234 v237 (nI 0) (nI 0) (nI 12) fby hln (by omega) _) (cwV 0 hts gX7_parse_X7_advance rfl rfl rfl (by decide +kernel) ⟨Nat.le_of_ble_eq_true rfl, Nat.le_of_ble_eq_true rfl⟩) (kw_PreV (ci := 7) (q0 := 0) hs244 hP hD hK hN rfl rfl) rfl rfl hl.1 rfl (lv_room (Nat.le_of_ble_eq_true rfl)) dX7_parse_58 ⟨Nat.le_of_ble_eq_true rfl, Nat.le_of_ble_eq_true rfl⟩) (fun u246 H locs hq hP hD hS => ?_)
      obtain ⟨v247, v248, v249, v250⟩ := u246
      try dsimp only at hq
      obtain ⟨h251, h252, h253, h254, h255⟩ := hq
      have hP : va_P D vwCl [(wo, .inl (y 0, 25, .inl v238)), (fs, .inl (y 0, 25, .inl v239)), (sc, .inl (y 0, 25, .inl fsc)), (tx, .inr (7, [.ref bys, .int (nI ln), .int v247, .int (nI v248), .int (nI v249), .int v250, .ref wo, .ref fs, .ref sc, .int (nI 0), .int (nI 0), .int (nI 12)])), (bys, .inl (y 1, 150, .inl fby))] H := hP
      have hD : va_D A [(wo, .inl (y 0, 25, .inl v238)), (fs, .inl (y 0, 25, .inl v239)), (sc, .inl (y 0, 25, .inl fsc)), (tx, .inr (7, [.ref bys, .int (nI ln), .int v247, .int (nI v248), .int (nI v249), .int v250, .ref wo, .ref fs, .ref sc, .int (nI 0), .int (nI 0), .int (nI 12)])), (bys, .inl (y 1, 150, .inl fby))] := hD
      obtain ⟨rfl, rfl, rfl, hn256⟩ := h255
      have hk257 := ks_K4 fby ln v236
      have hP : va_P D vwCl [(wo, .inl (y 0, 25, .inl v238)), (fs, .inl (y 0, 25, .inl v239)), (sc, .inl (y 0, 25, .inl fsc)), (tx, .inr (7, [.ref bys, .int (nI ln), .int (nI (ks_K fby ln v236)), .int (nI (ks_S fby ln v236)), .int (nI (ks_E fby ln v236)), .int v250, .ref wo, .ref fs, .ref sc, .int (nI 0), .int (nI 0), .int (nI 12)])), (bys, .inl (y 1, 150, .inl fby))] H := hP
      have hD : va_D A [(wo, .inl (y 0, 25, .inl v238)), (fs, .inl (y 0, 25, .inl v239)), (sc, .inl (y 0, 25, .inl fsc)), (tx, .inr (7, [.ref bys, .int (nI ln), .int (nI (ks_K fby ln v236)), .int (nI (ks_S fby ln v236)), .int (nI (ks_E fby ln v236)), .int v250, .ref wo, .ref fs, .ref sc, .int (nI 0), .int (nI 0), .int (nI 12)])), (bys, .inl (y 1, 150, .inl fby))] := hD
      refine lv_aload_n hx hb dX7_parse_61 rfl (lv_at hl 1 rfl) ?_
      refine va_get (D := D) (ci := 7) (v := .int (nI (ks_K fby ln v236))) (C := RX7) (T := TX7) (N := 12) hx hb hts iw7 hown hK hP 3 rfl rfl 2 (by decide) fw5 (fun _ h9 => h9) rfl dX7_parse_62 ?_
      refine lv_iconst (v := 3) hx hb dX7_parse_65 (by decide) ?_
      refine lv_icmp_eq (tgt := 72) hx hb dX7_parse_66 (by decide) (fun h258 => ?_) (fun h259 => ?_)
      · skip
        have h258 : (ks_K fby ln v236) = 3 := (nI_eq (a := (ks_K fby ln v236)) (b := 3) (by omega) (by omega)).mp h258
        refine lv_iinc (v := 1) (lv' := [(1, .int 1), (0, .ref tx)]) hx hb dX7_parse_72 hl (k := 0) rfl (by decide) (by decide) rfl (fun ls hl => ?_)
        refine lv_goto (tgt := 23) hx hb dX7_parse_75 (by decide) ?_
        have lp386 : ∀ (fuj91 j91 : Nat) (x318 : Nat → Int32) (x319 : Nat → Int32) (x320 : Nat → Int32) (x321 : Int32) (x322 : Nat) (x323 : Nat) (x324 : Int32) (x325 : Nat) (x326 : Nat) (x327 : Nat) (H : Heap) (locs : List Loc) (ls : Array Slot), j91 ≤ 25 → 25 - j91 < fuj91 → x322 ≤ 150 → x323 ≤ ln → x325 ≤ 6 → x326 ≤ 5 → x327 ≤ 12 → 1 ≤ j91 → kz_LI fby ln x323 j91 x325 x326 x327 x318 x319 → va_P D vwCl [(wo, .inl (y 0, 25, .inl x318)), (fs, .inl (y 0, 25, .inl x319)), (sc, .inl (y 0, 25, .inl x320)), (tx, .inr (7, [.ref bys, .int (nI ln), .int x321, .int (nI x322), .int (nI x323), .int x324, .ref wo, .ref fs, .ref sc, .int (nI x325), .int (nI x326), .int (nI x327)])), (bys, .inl (y 1, 150, .inl fby))] H → va_D A [(wo, .inl (y 0, 25, .inl x318)), (fs, .inl (y 0, 25, .inl x319)), (sc, .inl (y 0, 25, .inl x320)), (tx, .inr (7, [.ref bys, .int (nI ln), .int x321, .int (nI x322), .int (nI x323), .int x324, .ref wo, .ref fs, .ref sc, .int (nI x325), .int (nI x326), .int (nI x327)])), (bys, .inl (y 1, 150, .inl fby))] → va_S A s.heap H locs → lv_has ls 2 [(1, .int (nI j91)), (0, .ref tx)] → W pZ l eZ ({ frames := 8, cells := 0, slots := 0, locals := 210 }) s mZ [.ref tx].toArray beZ meZ cZ H locs 0 0 (MQ beZ (va_Qi (fun (r : Int32) (u : Int32 × Nat × Nat × Int32 × Int32 × Int32 × Int32 × (Nat → Int32) × (Nat → Int32) × (Nat → Int32)) => u.2.1 ≤ 150 ∧ u.2.2.1 ≤ 150 ∧ kz_pR fby ln u.2.2.2.2.2.2.2.1 u.2.2.2.2.2.2.2.2.1 r) (kw_B D (fun u => [(tx, .inr (7, [.ref bys, .int (nI ln), .int u.1, .int (nI u.2.1), .int (nI u.2.2.1), .int u.2.2.2.1, .ref wo, .ref fs, .ref sc, .int u.2.2.2.2.1, .int u.2.2.2.2.2.1, .int u.2.2.2.2.2.2.1])), (bys, .inl (y 1, 150, .inl fby)), (wo, .inl (y 0, 25, .inl u.2.2.2.2.2.2.2.1)), (fs, .inl (y 0, 25, .inl u.2.2.2.2.2.2.2.2.1)), (sc, .inl (y 0, 25, .inl u.2.2.2.2.2.2.2.2.2))]) A) A) [.ref tx].toArray s 0 0 A) (F0 mZ 23 ls []) := by
          intro fuj91
          induction fuj91 with
          | zero => intro j91 x318 x319 x320 x321 x322 x323 x324 x325 x326 x327 H locs ls hj9 hf9; exact absurd hf9 (Nat.not_lt_zero _)
          | succ fuj91 ihj91 =>
            intro j91 x318 x319 x320 x321 x322 x323 x324 x325 x326 x327 H locs ls hj91 hfj91 hn_x322 hn_x323 hn_x325 hn_x326 hn_x327 hlo_j91 hI0_j91 hP hD hS hl
            refine lv_iload_n hx hb dX7_parse_23 rfl (lv_at hl 0 rfl) ?_
            refine lv_bipush (v := 25) hx hb dX7_parse_24 (by decide) ?_
            refine lv_icmp_ge (tgt := 78) hx hb dX7_parse_26 (by decide) (fun h387 => ?_) (fun h388 => ?_)
            · skip
              have h387 : 25 ≤ j91 := (nI_leI (a := 25) (b := j91) (by omega) (by omega)).mp h387
              refine lv_bipush (v := (-10)) hx hb dX7_parse_78 (by decide) ?_
              refine lv_aload_n hx hb dX7_parse_80 rfl (lv_at hl 1 rfl) ?_
              refine va_get (D := D) (ci := 7) (v := .int (nI x322)) (C := RX7) (T := TX7) (N := 12) hx hb hts iw7 hown hK hP 3 rfl rfl 3 (by decide) fw6 (fun _ h9 => h9) rfl dX7_parse_81 ?_
              refine lv_isub hx hb dX7_parse_84 ?_
              exact W.iret (v := ((-10) - (nI x322))) hx hb hr (fun tZ ht hW => ⟨⟨((-10) - (nI x322)), (x321, x322, x323, x324, (nI x325), (nI x326), (nI x327), x318, x319, x320), rfl, ⟨by first | omega | (dsimp only; omega), by first | omega | (dsimp only; omega), by obtain ⟨_, _, _, h79⟩ := hI0_j91; exfalso; omega⟩, by rw [ht]; exact hP.sub [3, 4, 0, 1, 2] rfl, hD.sub [3, 4, 0, 1, 2] (by decide) rfl⟩, hS.F ht⟩) hS.2.2 dX7_parse_85
            · skip
              have h388 : ¬ 25 ≤ j91 := fun q9 => h388 ((nI_leI (a := 25) (b := j91) (by omega) (by omega)).mpr q9)
              obtain ⟨kd9, hL9, hO9, h79⟩ := hI0_j91
              refine lv_aload_n hx hb dX7_parse_29 rfl (lv_at hl 1 rfl) ?_
              have hs389 : kw_Split [(wo, .inl (y 0, 25, .inl x318)), (fs, .inl (y 0, 25, .inl x319)), (sc, .inl (y 0, 25, .inl x320)), (tx, .inr (7, [.ref bys, .int (nI ln), .int x321, .int (nI x322), .int (nI x323), .int x324, .ref wo, .ref fs, .ref sc, .int (nI x325), .int (nI x326), .int (nI x327)])), (bys, .inl (y 1, 150, .inl fby))] [(tx, .inr (7, [.ref bys, .int (nI ln), .int x321, .int (nI x322), .int (nI x323), .int x324, .ref wo, .ref fs, .ref sc, .int (nI x325), .int (nI x326), .int (nI x327)])), (bys, .inl (y 1, 150, .inl fby))] [(wo, .inl (y 0, 25, .inl x318)), (fs, .inl (y 0, 25, .inl x319)), (sc, .inl (y 0, 25, .inl x320))] [3, 4] [0, 1, 2] := ⟨rfl, rfl, rfl, rfl, rfl, by decide⟩
              refine kw_go_v hs389 hP hD hS hA (va_runV (As := []) (rest := []) ⟨hx, hb, hml, hown, hts⟩ (gs_advance l D y tx bys wo fs sc ln x322 x323 x321 x324 (nI x325) (nI x326) (nI x327) fby hln (by omega) _) (cwV 0 hts gX7_parse_X7_advance rfl rfl rfl (by decide +kernel) ⟨Nat.le_of_ble_eq_true rfl, Nat.le_of_ble_eq_true rfl⟩) (kw_PreV (ci := 7) (q0 := 3) hs389 hP hD hK hN rfl rfl) rfl rfl hl.1 rfl (lv_room (Nat.le_of_ble_eq_true rfl)) dX7_parse_30 ⟨Nat.le_of_ble_eq_true rfl, Nat.le_of_ble_eq_true rfl⟩) (fun u391 H locs hq hP hD hS => ?_)
              obtain ⟨v392, v393, v394, v395⟩ := u391
              try dsimp only at hq
              obtain ⟨h396, h397, h398, h399, h400⟩ := hq
              have hP : va_P D vwCl [(wo, .inl (y 0, 25, .inl x318)), (fs, .inl (y 0, 25, .inl x319)), (sc, .inl (y 0, 25, .inl x320)), (tx, .inr (7, [.ref bys, .int (nI ln), .int v392, .int (nI v393), .int (nI v394), .int v395, .ref wo, .ref fs, .ref sc, .int (nI x325), .int (nI x326), .int (nI x327)])), (bys, .inl (y 1, 150, .inl fby))] H := hP
              have hD : va_D A [(wo, .inl (y 0, 25, .inl x318)), (fs, .inl (y 0, 25, .inl x319)), (sc, .inl (y 0, 25, .inl x320)), (tx, .inr (7, [.ref bys, .int (nI ln), .int v392, .int (nI v393), .int (nI v394), .int v395, .ref wo, .ref fs, .ref sc, .int (nI x325), .int (nI x326), .int (nI x327)])), (bys, .inl (y 1, 150, .inl fby))] := hD
              obtain ⟨rfl, rfl, rfl, hn401⟩ := h400
              have hk402 := ks_K4 fby ln x323
              have hP : va_P D vwCl [(wo, .inl (y 0, 25, .inl x318)), (fs, .inl (y 0, 25, .inl x319)), (sc, .inl (y 0, 25, .inl x320)), (tx, .inr (7, [.ref bys, .int (nI ln), .int (nI (ks_K fby ln x323)), .int (nI (ks_S fby ln x323)), .int (nI (ks_E fby ln x323)), .int v395, .ref wo, .ref fs, .ref sc, .int (nI x325), .int (nI x326), .int (nI x327)])), (bys, .inl (y 1, 150, .inl fby))] H := hP
              have hD : va_D A [(wo, .inl (y 0, 25, .inl x318)), (fs, .inl (y 0, 25, .inl x319)), (sc, .inl (y 0, 25, .inl x320)), (tx, .inr (7, [.ref bys, .int (nI ln), .int (nI (ks_K fby ln x323)), .int (nI (ks_S fby ln x323)), .int (nI (ks_E fby ln x323)), .int v395, .ref wo, .ref fs, .ref sc, .int (nI x325), .int (nI x326), .int (nI x327)])), (bys, .inl (y 1, 150, .inl fby))] := hD
              refine lv_aload_n hx hb dX7_parse_33 rfl (lv_at hl 1 rfl) ?_
              refine va_get (D := D) (ci := 7) (v := .int (nI (ks_K fby ln x323))) (C := RX7) (T := TX7) (N := 12) hx hb hts iw7 hown hK hP 3 rfl rfl 2 (by decide) fw5 (fun _ h9 => h9) rfl dX7_parse_34 ?_
              refine lv_if_ne (tgt := 46) hx hb dX7_parse_37 (by decide) (fun h403 => ?_) (fun h404 => ?_)
              · skip
                have h403 : ¬ (ks_K fby ln x323) = 0 := fun q9 => h403 ((nI_eq (a := (ks_K fby ln x323)) (b := 0) (by omega) (by omega)).mpr q9)
                refine lv_aload_n hx hb dX7_parse_46 rfl (lv_at hl 1 rfl) ?_
                refine lv_iload_n hx hb dX7_parse_47 rfl (lv_at hl 0 rfl) ?_
                have hs405 : kw_Split [(wo, .inl (y 0, 25, .inl x318)), (fs, .inl (y 0, 25, .inl x319)), (sc, .inl (y 0, 25, .inl x320)), (tx, .inr (7, [.ref bys, .int (nI ln), .int (nI (ks_K fby ln x323)), .int (nI (ks_S fby ln x323)), .int (nI (ks_E fby ln x323)), .int v395, .ref wo, .ref fs, .ref sc, .int (nI x325), .int (nI x326), .int (nI x327)])), (bys, .inl (y 1, 150, .inl fby))] [(tx, .inr (7, [.ref bys, .int (nI ln), .int (nI (ks_K fby ln x323)), .int (nI (ks_S fby ln x323)), .int (nI (ks_E fby ln x323)), .int v395, .ref wo, .ref fs, .ref sc, .int (nI x325), .int (nI x326), .int (nI x327)])), (bys, .inl (y 1, 150, .inl fby)), (wo, .inl (y 0, 25, .inl x318)), (fs, .inl (y 0, 25, .inl x319)), (sc, .inl (y 0, 25, .inl x320))] [] [3, 4, 0, 1, 2] [] := ⟨rfl, rfl, rfl, rfl, rfl, by decide⟩
                refine kw_go_i hs405 hP hD hS hA (va_runV (As := [.int (nI j91)]) (rest := []) ⟨hx, hb, hml, hown, hts⟩ (gs_isItem l D y aK aV tx bys wo fs sc ln (ks_K fby ln x323) (ks_S fby ln x323) (ks_E fby ln x323) x325 x326 x327 v395 fby x318 x319 x320 j91 kd9 hln (by omega) (by omega) (by omega) (by omega) (by omega) hO9 (by omega) (by omega) (by omega) _) (cwV 1 hts gX7_parse_X7_isItem rfl rfl rfl (by decide +kernel) ⟨Nat.le_of_ble_eq_true rfl, Nat.le_of_ble_eq_true rfl⟩) (kz_PreV (ci := 7) (q0 := 3) hs405 hP hD hK hN rfl rfl hZ hS hA) rfl rfl hl.1 rfl (lv_room (Nat.le_of_ble_eq_true rfl)) dX7_parse_48 ⟨Nat.le_of_ble_eq_true rfl, Nat.le_of_ble_eq_true rfl⟩) (fun r406 u407 H locs hq hP hD hS => ?_)
                obtain ⟨v408, v409, v410, v411, v412, v413, v414, v415, v416, v417⟩ := u407
                try dsimp only at hq
                obtain ⟨h418, h419, h420, h421, h422, (rfl | rfl), h423, h424⟩ := hq
                · skip
                  have hP : va_P D vwCl [(tx, .inr (7, [.ref bys, .int (nI ln), .int v408, .int (nI v409), .int (nI v410), .int v411, .ref wo, .ref fs, .ref sc, .int (nI v412), .int (nI v413), .int (nI v414)])), (bys, .inl (y 1, 150, .inl fby)), (wo, .inl (y 0, 25, .inl v415)), (fs, .inl (y 0, 25, .inl v416)), (sc, .inl (y 0, 25, .inl v417))] H := hP
                  have hD : va_D A [(tx, .inr (7, [.ref bys, .int (nI ln), .int v408, .int (nI v409), .int (nI v410), .int v411, .ref wo, .ref fs, .ref sc, .int (nI v412), .int (nI v413), .int (nI v414)])), (bys, .inl (y 1, 150, .inl fby)), (wo, .inl (y 0, 25, .inl v415)), (fs, .inl (y 0, 25, .inl v416)), (sc, .inl (y 0, 25, .inl v417))] := hD
                  have h423 : ks_it fby ln (ks_K fby ln x323) (ks_S fby ln x323) (ks_E fby ln x323) x325 x326 x327 kd9 = ks_flt v409 := h423 rfl
                  refine lv_if_ne (tgt := 57) hx hb dX7_parse_51 (by decide) (fun h9 => absurd h9 (by decide)) (fun _ => ?_)
                  refine lv_goto (tgt := 78) hx hb dX7_parse_54 (by decide) ?_
                  refine lv_bipush (v := (-10)) hx hb dX7_parse_78 (by decide) ?_
                  refine lv_aload_n hx hb dX7_parse_80 rfl (lv_at hl 1 rfl) ?_
                  refine va_get (D := D) (ci := 7) (v := .int (nI v409)) (C := RX7) (T := TX7) (N := 12) hx hb hts iw7 hown hK hP 0 rfl rfl 3 (by decide) fw6 (fun _ h9 => h9) rfl dX7_parse_81 ?_
                  refine lv_isub hx hb dX7_parse_84 ?_
                  exact W.iret (v := ((-10) - (nI v409))) hx hb hr (fun tZ ht hW => ⟨⟨((-10) - (nI v409)), (v408, v409, v410, v411, (nI v412), (nI v413), (nI v414), v415, v416, v417), rfl, ⟨by first | omega | (dsimp only; omega), by first | omega | (dsimp only; omega), kz_pR.flt (hL9.trans (ks_loopF h403 h423)) (by first | omega | (dsimp only; omega))⟩, by rw [ht]; exact hP.sub [0, 1, 2, 3, 4] rfl, hD.sub [0, 1, 2, 3, 4] (by decide) rfl⟩, hS.F ht⟩) hS.2.2 dX7_parse_85
                · skip
                  have hP : va_P D vwCl [(tx, .inr (7, [.ref bys, .int (nI ln), .int v408, .int (nI v409), .int (nI v410), .int v411, .ref wo, .ref fs, .ref sc, .int (nI v412), .int (nI v413), .int (nI v414)])), (bys, .inl (y 1, 150, .inl fby)), (wo, .inl (y 0, 25, .inl v415)), (fs, .inl (y 0, 25, .inl v416)), (sc, .inl (y 0, 25, .inl v417))] H := hP
                  have hD : va_D A [(tx, .inr (7, [.ref bys, .int (nI ln), .int v408, .int (nI v409), .int (nI v410), .int v411, .ref wo, .ref fs, .ref sc, .int (nI v412), .int (nI v413), .int (nI v414)])), (bys, .inl (y 1, 150, .inl fby)), (wo, .inl (y 0, 25, .inl v415)), (fs, .inl (y 0, 25, .inl v416)), (sc, .inl (y 0, 25, .inl v417))] := hD
                  have h424 : kz_g1 fby ln (ks_K fby ln x323) (ks_S fby ln x323) (ks_E fby ln x323) x325 x326 x327 kd9 v410 v412 v413 v414 v415 v416 (j91 + 1) := h424 rfl
                  refine lv_if_ne (tgt := 57) hx hb dX7_parse_51 (by decide) (fun _ => ?_) (fun h9 => absurd h9 (by decide))
                  obtain ⟨hm425, hm426⟩ := kz_g1.b h424
                  refine lv_aload_n hx hb dX7_parse_57 rfl (lv_at hl 1 rfl) ?_
                  have hs427 : kw_Split [(tx, .inr (7, [.ref bys, .int (nI ln), .int v408, .int (nI v409), .int (nI v410), .int v411, .ref wo, .ref fs, .ref sc, .int (nI v412), .int (nI v413), .int (nI v414)])), (bys, .inl (y 1, 150, .inl fby)), (wo, .inl (y 0, 25, .inl v415)), (fs, .inl (y 0, 25, .inl v416)), (sc, .inl (y 0, 25, .inl v417))] [(tx, .inr (7, [.ref bys, .int (nI ln), .int v408, .int (nI v409), .int (nI v410), .int v411, .ref wo, .ref fs, .ref sc, .int (nI v412), .int (nI v413), .int (nI v414)])), (bys, .inl (y 1, 150, .inl fby))] [(wo, .inl (y 0, 25, .inl v415)), (fs, .inl (y 0, 25, .inl v416)), (sc, .inl (y 0, 25, .inl v417))] [0, 1] [2, 3, 4] := ⟨rfl, rfl, rfl, rfl, rfl, by decide⟩
                  refine kw_go_v hs427 hP hD hS hA (va_runV (As := []) (rest := []) ⟨hx, hb, hml, hown, hts⟩ (gs_advance l D y tx bys wo fs sc ln v409 v410 v408 v411 (nI v412) (nI v413) (nI v414) fby hln (by omega) _) (cwV 0 hts gX7_parse_X7_advance rfl rfl rfl (by decide +kernel) ⟨Nat.le_of_ble_eq_true rfl, Nat.le_of_ble_eq_true rfl⟩) (kw_PreV (ci := 7) (q0 := 0) hs427 hP hD hK hN rfl rfl) rfl rfl hl.1 rfl (lv_room (Nat.le_of_ble_eq_true rfl)) dX7_parse_58 ⟨Nat.le_of_ble_eq_true rfl, Nat.le_of_ble_eq_true rfl⟩) (fun u429 H locs hq hP hD hS => ?_)
                  obtain ⟨v430, v431, v432, v433⟩ := u429
                  try dsimp only at hq
                  obtain ⟨h434, h435, h436, h437, h438⟩ := hq
                  have hP : va_P D vwCl [(wo, .inl (y 0, 25, .inl v415)), (fs, .inl (y 0, 25, .inl v416)), (sc, .inl (y 0, 25, .inl v417)), (tx, .inr (7, [.ref bys, .int (nI ln), .int v430, .int (nI v431), .int (nI v432), .int v433, .ref wo, .ref fs, .ref sc, .int (nI v412), .int (nI v413), .int (nI v414)])), (bys, .inl (y 1, 150, .inl fby))] H := hP
                  have hD : va_D A [(wo, .inl (y 0, 25, .inl v415)), (fs, .inl (y 0, 25, .inl v416)), (sc, .inl (y 0, 25, .inl v417)), (tx, .inr (7, [.ref bys, .int (nI ln), .int v430, .int (nI v431), .int (nI v432), .int v433, .ref wo, .ref fs, .ref sc, .int (nI v412), .int (nI v413), .int (nI v414)])), (bys, .inl (y 1, 150, .inl fby))] := hD
                  obtain ⟨rfl, rfl, rfl, hn439⟩ := h438
                  have hk440 := ks_K4 fby ln v410
                  have hP : va_P D vwCl [(wo, .inl (y 0, 25, .inl v415)), (fs, .inl (y 0, 25, .inl v416)), (sc, .inl (y 0, 25, .inl v417)), (tx, .inr (7, [.ref bys, .int (nI ln), .int (nI (ks_K fby ln v410)), .int (nI (ks_S fby ln v410)), .int (nI (ks_E fby ln v410)), .int v433, .ref wo, .ref fs, .ref sc, .int (nI v412), .int (nI v413), .int (nI v414)])), (bys, .inl (y 1, 150, .inl fby))] H := hP
                  have hD : va_D A [(wo, .inl (y 0, 25, .inl v415)), (fs, .inl (y 0, 25, .inl v416)), (sc, .inl (y 0, 25, .inl v417)), (tx, .inr (7, [.ref bys, .int (nI ln), .int (nI (ks_K fby ln v410)), .int (nI (ks_S fby ln v410)), .int (nI (ks_E fby ln v410)), .int v433, .ref wo, .ref fs, .ref sc, .int (nI v412), .int (nI v413), .int (nI v414)])), (bys, .inl (y 1, 150, .inl fby))] := hD
                  refine lv_aload_n hx hb dX7_parse_61 rfl (lv_at hl 1 rfl) ?_
                  refine va_get (D := D) (ci := 7) (v := .int (nI (ks_K fby ln v410))) (C := RX7) (T := TX7) (N := 12) hx hb hts iw7 hown hK hP 3 rfl rfl 2 (by decide) fw5 (fun _ h9 => h9) rfl dX7_parse_62 ?_
                  refine lv_iconst (v := 3) hx hb dX7_parse_65 (by decide) ?_
                  refine lv_icmp_eq (tgt := 72) hx hb dX7_parse_66 (by decide) (fun h441 => ?_) (fun h442 => ?_)
                  · skip
                    have h441 : (ks_K fby ln v410) = 3 := (nI_eq (a := (ks_K fby ln v410)) (b := 3) (by omega) (by omega)).mp h441
                    refine lv_iinc (v := (nI (j91 + 1))) (lv' := [(1, .int (nI (j91 + 1))), (0, .ref tx)]) hx hb dX7_parse_72 hl (k := 0) rfl (nI_1 j91) (by decide) rfl (fun ls hl => ?_)
                    refine lv_goto (tgt := 23) hx hb dX7_parse_75 (by decide) ?_
                    exact ihj91 (j91 + 1) v415 v416 v417 (nI (ks_K fby ln v410)) (ks_S fby ln v410) (ks_E fby ln v410) v433 v412 v413 v414 H locs ls (by omega) (by omega) (by omega) (by omega) (by omega) (by omega) (by omega) (by omega) (kz_LI.next hL9 h79 (by omega) h403 h424 (by omega) h441) (hP.sub [0, 1, 2, 3, 4] rfl) (hD.sub [0, 1, 2, 3, 4] (by decide) rfl) hS (lv_sub hl [0, 1] rfl)
                  · skip
                    have h442 : ¬ (ks_K fby ln v410) = 3 := fun q9 => h442 ((nI_eq (a := (ks_K fby ln v410)) (b := 3) (by omega) (by omega)).mpr q9)
                    refine lv_goto (tgt := 78) hx hb dX7_parse_69 (by decide) ?_
                    refine lv_bipush (v := (-10)) hx hb dX7_parse_78 (by decide) ?_
                    refine lv_aload_n hx hb dX7_parse_80 rfl (lv_at hl 1 rfl) ?_
                    refine va_get (D := D) (ci := 7) (v := .int (nI (ks_S fby ln v410))) (C := RX7) (T := TX7) (N := 12) hx hb hts iw7 hown hK hP 3 rfl rfl 3 (by decide) fw6 (fun _ h9 => h9) rfl dX7_parse_81 ?_
                    refine lv_isub hx hb dX7_parse_84 ?_
                    exact W.iret (v := ((-10) - (nI (ks_S fby ln v410)))) hx hb hr (fun tZ ht hW => ⟨⟨((-10) - (nI (ks_S fby ln v410))), ((nI (ks_K fby ln v410)), ks_S fby ln v410, ks_E fby ln v410, v433, (nI v412), (nI v413), (nI v414), v415, v416, v417), rfl, ⟨by first | omega | (dsimp only; omega), by first | omega | (dsimp only; omega), kz_pR.nos hL9 h403 h424 h442 (by first | omega | (dsimp only; omega))⟩, by rw [ht]; exact hP.sub [3, 4, 0, 1, 2] rfl, hD.sub [3, 4, 0, 1, 2] (by decide) rfl⟩, hS.F ht⟩) hS.2.2 dX7_parse_85
              · skip
                have h404 : (ks_K fby ln x323) = 0 := (nI_eq (a := (ks_K fby ln x323)) (b := 0) (by omega) (by omega)).mp h404
                refine lv_iload_n hx hb dX7_parse_40 rfl (lv_at hl 0 rfl) ?_
                refine lv_if_le (tgt := 46) hx hb dX7_parse_41 (by decide) (fun h443 => ?_) (fun h444 => ?_)
                · skip
                  have h443 : j91 ≤ 0 := (nI_leI (a := j91) (b := 0) (by omega) (by omega)).mp h443
                  exact absurd h443 (by omega)
                · skip
                  have h444 : ¬ j91 ≤ 0 := fun q9 => h444 ((nI_leI (a := j91) (b := 0) (by omega) (by omega)).mpr q9)
                  refine lv_iload_n hx hb dX7_parse_44 rfl (lv_at hl 0 rfl) ?_
                  exact W.iret (v := (nI j91)) hx hb hr (fun tZ ht hW => ⟨⟨(nI j91), ((nI (ks_K fby ln x323)), ks_S fby ln x323, ks_E fby ln x323, v395, (nI x325), (nI x326), (nI x327), x318, x319, x320), rfl, ⟨by first | omega | (dsimp only; omega), by first | omega | (dsimp only; omega), kz_pR.ok hL9 h404 hO9 (by first | omega | (dsimp only; omega)) (by first | omega | (dsimp only; omega))⟩, by rw [ht]; exact hP.sub [3, 4, 0, 1, 2] rfl, hD.sub [3, 4, 0, 1, 2] (by decide) rfl⟩, hS.F ht⟩) hS.2.2 dX7_parse_45
        exact lp386 (25 + 1) 1 v238 v239 fsc (nI (ks_K fby ln v236)) (ks_S fby ln v236) (ks_E fby ln v236) v250 0 0 12 _ _ _ (by omega) (by omega) (by omega) (by omega) (by omega) (by omega) (by omega) (by omega) (kz_LI.first h243 (by omega) h258) hP hD hS (lv_sub hl [0, 1] rfl)
      · skip
        have h259 : ¬ (ks_K fby ln v236) = 3 := fun q9 => h259 ((nI_eq (a := (ks_K fby ln v236)) (b := 3) (by omega) (by omega)).mpr q9)
        refine lv_goto (tgt := 78) hx hb dX7_parse_69 (by decide) ?_
        refine lv_bipush (v := (-10)) hx hb dX7_parse_78 (by decide) ?_
        refine lv_aload_n hx hb dX7_parse_80 rfl (lv_at hl 1 rfl) ?_
        refine va_get (D := D) (ci := 7) (v := .int (nI (ks_S fby ln v236))) (C := RX7) (T := TX7) (N := 12) hx hb hts iw7 hown hK hP 3 rfl rfl 3 (by decide) fw6 (fun _ h9 => h9) rfl dX7_parse_81 ?_
        refine lv_isub hx hb dX7_parse_84 ?_
        exact W.iret (v := ((-10) - (nI (ks_S fby ln v236)))) hx hb hr (fun tZ ht hW => ⟨⟨((-10) - (nI (ks_S fby ln v236))), ((nI (ks_K fby ln v236)), ks_S fby ln v236, ks_E fby ln v236, v250, (nI 0), (nI 0), (nI 12), v238, v239, fsc), rfl, ⟨by first | omega | (dsimp only; omega), by first | omega | (dsimp only; omega), kz_pR.flt (ks_readS h243.1 h259) (by first | omega | (dsimp only; omega))⟩, by rw [ht]; exact hP.sub [3, 4, 0, 1, 2] rfl, hD.sub [3, 4, 0, 1, 2] (by decide) rfl⟩, hS.F ht⟩) hS.2.2 dX7_parse_85

set_option maxHeartbeats 4000000 in
set_option maxRecDepth 100000 in
theorem gp_sread_bad (l : Launch) (D : va_G) (y : Nat → ClassId) (aK : Nat → Nat) (aV : Nat → Nat) (g : Nat) (kk : Nat) (nw : Nat) (im : Nat) (kp : Nat) (tx : Nat) (tr : Nat) (be : Nat) (sh : Nat) (sd : Nat) (rf : Nat) (ab : Int32) (bl : Int32) (nk : Nat) (nd : Nat) (ne : Nat) (nm : Nat) (nn : Nat) (fi : Nat) (gl : Nat) (un : Nat) (mi : Nat) (no : Nat) (nd : Nat) (nl : Nat) (na : Nat) (ns : Nat) (nst : Int32) (ncl : Int32) (nnu : Int32) (nfl : Nat → Int32) (nfa : Nat → Int32) (nfs : Nat → Int32) (fk : Nat → Int32) (k0 : Nat) (k1 : Nat) (k2 : Nat) (k3 : Nat) (k4 : Nat) (k5 : Nat) (fq : Nat → Option Nat) (bys : Nat) (wo : Nat) (fs : Nat) (sc : Nat) (ln : Nat) (sta : Nat) (en : Nat) (tok : Int32) (num : Int32) (tfi : Int32) (tgl : Int32) (tst : Int32) (fby : Nat → Int32) (fwo : Nat → Int32) (ffs : Nat → Int32) (fsc : Nat → Int32) (q : Nat) (hfi : fi ≤ 6) (hgl : gl ≤ 5) (hun : un ≤ 8) (hmi : mi ≤ 4) (hno : no ≤ 6) (hk : kw_bd 6 6 fk) (hna : kw_bd 6 5 nfa) (hq0 : fq 0 = some k0) (hq1 : fq 1 = some k1) (hq2 : fq 2 = some k2) (hq3 : fq 3 = some k3) (hq4 : fq 4 = some k4) (hq5 : fq 5 = some k5) (hln : ln ≤ 150) (hTs : sta ≤ 150) (hTe : en ≤ 150) (hA1 : ks_read fby ln = ks_flt q) : kz_Mi l yX10_read wsX10_read ({ frames := 9, cells := 0, slots := 0, locals := 231 }) D y [.ref g] [(g, .inr (10, [.ref kk, .ref nw, .ref im, .ref kp, .ref tx, .ref tr, .ref be, .ref sh, .ref sd, .ref rf, .int ab, .int bl])), (nw, .inr (4, [.ref kk, .ref nk, .ref nd, .ref ne, .ref nm, .ref nn, .int (nI fi), .int (nI gl), .int (nI un), .int (nI mi), .int (nI no)])), (nk, .inl (y 0, 6, .inl fk)), (nd, .inr (1, [.ref nl, .ref na, .ref ns, .int nst, .int ncl, .int nnu])), (nl, .inl (y 0, 6, .inl nfl)), (na, .inl (y 0, 5, .inl nfa)), (ns, .inl (y 0, 5, .inl nfs)), (kk, .inl (y 5, 6, .inr (.inr (.inr (.inr fq))))), (k0, .inr (5, [])), (k1, .inr (8, [])), (k2, .inr (9, [])), (k3, .inr (6, [])), (k4, .inr (2, [])), (k5, .inr (3, [])), (tx, .inr (7, [.ref bys, .int (nI ln), .int tok, .int (nI sta), .int (nI en), .int num, .ref wo, .ref fs, .ref sc, .int tfi, .int tgl, .int tst])), (bys, .inl (y 1, 150, .inl fby)), (wo, .inl (y 0, 25, .inl fwo)), (fs, .inl (y 0, 25, .inl ffs)), (sc, .inl (y 0, 25, .inl fsc))] aK aV (fun (r : Int32) (u : Int32 × Nat × Nat × Int32 × Int32 × Int32 × Int32 × (Nat → Int32) × (Nat → Int32) × (Nat → Int32)) => u.2.1 ≤ 150 ∧ u.2.2.1 ≤ 150 ∧ r = ((-10) - (nI q))) (fun u => [(g, .inr (10, [.ref kk, .ref nw, .ref im, .ref kp, .ref tx, .ref tr, .ref be, .ref sh, .ref sd, .ref rf, .int ab, .int bl])), (nw, .inr (4, [.ref kk, .ref nk, .ref nd, .ref ne, .ref nm, .ref nn, .int (nI fi), .int (nI gl), .int (nI un), .int (nI mi), .int (nI no)])), (nk, .inl (y 0, 6, .inl fk)), (nd, .inr (1, [.ref nl, .ref na, .ref ns, .int nst, .int ncl, .int nnu])), (nl, .inl (y 0, 6, .inl nfl)), (na, .inl (y 0, 5, .inl nfa)), (ns, .inl (y 0, 5, .inl nfs)), (kk, .inl (y 5, 6, .inr (.inr (.inr (.inr fq))))), (k0, .inr (5, [])), (k1, .inr (8, [])), (k2, .inr (9, [])), (k3, .inr (6, [])), (k4, .inr (2, [])), (k5, .inr (3, [])), (tx, .inr (7, [.ref bys, .int (nI ln), .int u.1, .int (nI u.2.1), .int (nI u.2.2.1), .int u.2.2.2.1, .ref wo, .ref fs, .ref sc, .int u.2.2.2.2.1, .int u.2.2.2.2.2.1, .int u.2.2.2.2.2.2.1])), (bys, .inl (y 1, 150, .inl fby)), (wo, .inl (y 0, 25, .inl u.2.2.2.2.2.2.2.1)), (fs, .inl (y 0, 25, .inl u.2.2.2.2.2.2.2.2.1)), (sc, .inl (y 0, 25, .inl u.2.2.2.2.2.2.2.2.2))]) 0 0 := by
  refine kz_Mi.of (cc := cX10_read) (maxL := 3) (ret := (some .int)) (by decide) rfl ?_
  intro pZ eZ s mZ beZ meZ cZ A hE
  obtain ⟨hx, hb, hr, hml, hts, hown, hlocks, hin, hA, hP, hD, hK, hN, hZ⟩ := hE
  have hS : va_S A s.heap s.heap [] := va_S.rf
  have hl := lv_entry ([.ref g]) (n := 3) (Nat.le_of_ble_eq_true rfl)
  rw [lg_entry_eq]
  generalize (lg_sl ([.ref g]) ++ List.replicate (3 - (lg_sl ([.ref g])).length) Slot.unset).toArray = ls at hl ⊢
  have hl : lv_has ls 3 [(0, .ref g)] := hl
  have fw1 := hts (.fieldLink RX10 51 "GleanDusk" "text" "LGleanDusk$Text;") (List.mem_of_getElem? (i := 1) rfl)
  have iw10 : ∀ w ∈ wsX100, w ∈ wsX10_read := fun _ h => List.mem_cons_of_mem _ (List.mem_append_left _ (List.mem_append_left _ (List.mem_append_left _ (List.mem_append_right _ h))))
  refine lv_aload_n hx hb dX10_read_0 rfl (lv_at hl 0 rfl) ?_
  refine va_get (D := D) (ci := 10) (v := .ref tx) (C := RX10) (T := TX10) (N := 12) hx hb hts iw10 hown hK hP 0 rfl rfl 4 (by decide) fw1 (fun _ h9 => h9) rfl dX10_read_1 ?_
  have hs1 : kw_Split [(g, .inr (10, [.ref kk, .ref nw, .ref im, .ref kp, .ref tx, .ref tr, .ref be, .ref sh, .ref sd, .ref rf, .int ab, .int bl])), (nw, .inr (4, [.ref kk, .ref nk, .ref nd, .ref ne, .ref nm, .ref nn, .int (nI fi), .int (nI gl), .int (nI un), .int (nI mi), .int (nI no)])), (nk, .inl (y 0, 6, .inl fk)), (nd, .inr (1, [.ref nl, .ref na, .ref ns, .int nst, .int ncl, .int nnu])), (nl, .inl (y 0, 6, .inl nfl)), (na, .inl (y 0, 5, .inl nfa)), (ns, .inl (y 0, 5, .inl nfs)), (kk, .inl (y 5, 6, .inr (.inr (.inr (.inr fq))))), (k0, .inr (5, [])), (k1, .inr (8, [])), (k2, .inr (9, [])), (k3, .inr (6, [])), (k4, .inr (2, [])), (k5, .inr (3, [])), (tx, .inr (7, [.ref bys, .int (nI ln), .int tok, .int (nI sta), .int (nI en), .int num, .ref wo, .ref fs, .ref sc, .int tfi, .int tgl, .int tst])), (bys, .inl (y 1, 150, .inl fby)), (wo, .inl (y 0, 25, .inl fwo)), (fs, .inl (y 0, 25, .inl ffs)), (sc, .inl (y 0, 25, .inl fsc))] [(tx, .inr (7, [.ref bys, .int (nI ln), .int tok, .int (nI sta), .int (nI en), .int num, .ref wo, .ref fs, .ref sc, .int tfi, .int tgl, .int tst])), (bys, .inl (y 1, 150, .inl fby)), (wo, .inl (y 0, 25, .inl fwo)), (fs, .inl (y 0, 25, .inl ffs)), (sc, .inl (y 0, 25, .inl fsc))] [(g, .inr (10, [.ref kk, .ref nw, .ref im, .ref kp, .ref tx, .ref tr, .ref be, .ref sh, .ref sd, .ref rf, .int ab, .int bl])), (nw, .inr (4, [.ref kk, .ref nk, .ref nd, .ref ne, .ref nm, .ref nn, .int (nI fi), .int (nI gl), .int (nI un), .int (nI mi), .int (nI no)])), (nk, .inl (y 0, 6, .inl fk)), (nd, .inr (1, [.ref nl, .ref na, .ref ns, .int nst, .int ncl, .int nnu])), (nl, .inl (y 0, 6, .inl nfl)), (na, .inl (y 0, 5, .inl nfa)), (ns, .inl (y 0, 5, .inl nfs)), (kk, .inl (y 5, 6, .inr (.inr (.inr (.inr fq))))), (k0, .inr (5, [])), (k1, .inr (8, [])), (k2, .inr (9, [])), (k3, .inr (6, [])), (k4, .inr (2, [])), (k5, .inr (3, []))] [14, 15, 16, 17, 18] [0, 1, 2, 3, 4, 5, 6, 7, 8, 9, 10, 11, 12, 13] := ⟨rfl, rfl, rfl, rfl, rfl, by decide⟩
  refine kw_go_i hs1 hP hD hS hA (va_runV (As := []) (rest := []) ⟨hx, hb, hml, hown, hts⟩ (gs_parse l D y aK aV tx bys wo fs sc ln sta en tok num tfi tgl tst fby fwo ffs fsc hln hTs hTe _) (cwV 0 hts gX10_read_X7_parse rfl rfl rfl (by decide +kernel) ⟨Nat.le_of_ble_eq_true rfl, Nat.le_of_ble_eq_true rfl⟩) (kz_PreV (ci := 7) (q0 := 14) hs1 hP hD hK hN rfl rfl hZ hS hA) rfl rfl hl.1 rfl (lv_room (Nat.le_of_ble_eq_true rfl)) dX10_read_4 ⟨Nat.le_of_ble_eq_true rfl, Nat.le_of_ble_eq_true rfl⟩) (fun r2 u3 H locs hq hP hD hS => ?_)
  obtain ⟨v4, v5, v6, v7, v8, v9, v10, v11, v12, v13⟩ := u3
  try dsimp only at hq
  obtain ⟨h14, h15, h16⟩ := hq
  have hP : va_P D vwCl [(g, .inr (10, [.ref kk, .ref nw, .ref im, .ref kp, .ref tx, .ref tr, .ref be, .ref sh, .ref sd, .ref rf, .int ab, .int bl])), (nw, .inr (4, [.ref kk, .ref nk, .ref nd, .ref ne, .ref nm, .ref nn, .int (nI fi), .int (nI gl), .int (nI un), .int (nI mi), .int (nI no)])), (nk, .inl (y 0, 6, .inl fk)), (nd, .inr (1, [.ref nl, .ref na, .ref ns, .int nst, .int ncl, .int nnu])), (nl, .inl (y 0, 6, .inl nfl)), (na, .inl (y 0, 5, .inl nfa)), (ns, .inl (y 0, 5, .inl nfs)), (kk, .inl (y 5, 6, .inr (.inr (.inr (.inr fq))))), (k0, .inr (5, [])), (k1, .inr (8, [])), (k2, .inr (9, [])), (k3, .inr (6, [])), (k4, .inr (2, [])), (k5, .inr (3, [])), (tx, .inr (7, [.ref bys, .int (nI ln), .int v4, .int (nI v5), .int (nI v6), .int v7, .ref wo, .ref fs, .ref sc, .int v8, .int v9, .int v10])), (bys, .inl (y 1, 150, .inl fby)), (wo, .inl (y 0, 25, .inl v11)), (fs, .inl (y 0, 25, .inl v12)), (sc, .inl (y 0, 25, .inl v13))] H := hP
  have hD : va_D A [(g, .inr (10, [.ref kk, .ref nw, .ref im, .ref kp, .ref tx, .ref tr, .ref be, .ref sh, .ref sd, .ref rf, .int ab, .int bl])), (nw, .inr (4, [.ref kk, .ref nk, .ref nd, .ref ne, .ref nm, .ref nn, .int (nI fi), .int (nI gl), .int (nI un), .int (nI mi), .int (nI no)])), (nk, .inl (y 0, 6, .inl fk)), (nd, .inr (1, [.ref nl, .ref na, .ref ns, .int nst, .int ncl, .int nnu])), (nl, .inl (y 0, 6, .inl nfl)), (na, .inl (y 0, 5, .inl nfa)), (ns, .inl (y 0, 5, .inl nfs)), (kk, .inl (y 5, 6, .inr (.inr (.inr (.inr fq))))), (k0, .inr (5, [])), (k1, .inr (8, [])), (k2, .inr (9, [])), (k3, .inr (6, [])), (k4, .inr (2, [])), (k5, .inr (3, [])), (tx, .inr (7, [.ref bys, .int (nI ln), .int v4, .int (nI v5), .int (nI v6), .int v7, .ref wo, .ref fs, .ref sc, .int v8, .int v9, .int v10])), (bys, .inl (y 1, 150, .inl fby)), (wo, .inl (y 0, 25, .inl v11)), (fs, .inl (y 0, 25, .inl v12)), (sc, .inl (y 0, 25, .inl v13))] := hD
  rcases h16 with ⟨q9, hq9, rfl, hf9⟩ | ⟨m9, a9, b9, t9, kd9, h09, h25, hO9, rfl, hk9⟩
  · skip
    obtain rfl : q = q9 := ks_flt_inj (hA1.symm.trans hf9)
    have hng : ¬ 0 ≤ ((-10) - (nI q)) := kz_nle (kz_tenneg (by omega))
    refine lv_istore_n (lv' := [(1, .int ((-10) - (nI q))), (0, .ref g)]) hx hb dX10_read_7 rfl hl (by decide) rfl (fun ls hl => ?_)
    refine lv_iload_n hx hb dX10_read_8 rfl (lv_at hl 0 rfl) ?_
    refine lv_if_ge (tgt := 14) hx hb dX10_read_9 (by decide) (fun h17 => ?_) (fun h18 => ?_)
    · skip
      exact absurd h17 hng
    · skip
      refine lv_iload_n hx hb dX10_read_12 rfl (lv_at hl 0 rfl) ?_
      exact W.iret (v := ((-10) - (nI q))) hx hb hr (fun tZ ht hW => ⟨⟨((-10) - (nI q)), (v4, v5, v6, v7, v8, v9, v10, v11, v12, v13), rfl, ⟨by first | omega | (dsimp only; omega), by first | omega | (dsimp only; omega), rfl⟩, by rw [ht]; exact hP.sub [0, 1, 2, 3, 4, 5, 6, 7, 8, 9, 10, 11, 12, 13, 14, 15, 16, 17, 18] rfl, hD.sub [0, 1, 2, 3, 4, 5, 6, 7, 8, 9, 10, 11, 12, 13, 14, 15, 16, 17, 18] (by decide) rfl⟩, hS.F ht⟩) hS.2.2 dX10_read_13
  · skip
    exact (ks_ne (hA1.symm.trans hk9)).elim

set_option maxHeartbeats 4000000 in
set_option maxRecDepth 100000 in
theorem gp_sread_ok (l : Launch) (D : va_G) (y : Nat → ClassId) (aK : Nat → Nat) (aV : Nat → Nat) (g : Nat) (kk : Nat) (nw : Nat) (im : Nat) (kp : Nat) (tx : Nat) (tr : Nat) (be : Nat) (sh : Nat) (sd : Nat) (rf : Nat) (ab : Int32) (bl : Int32) (nk : Nat) (nd : Nat) (ne : Nat) (nm : Nat) (nn : Nat) (fi : Nat) (gl : Nat) (un : Nat) (mi : Nat) (no : Nat) (nd : Nat) (nl : Nat) (na : Nat) (ns : Nat) (nst : Int32) (ncl : Int32) (nnu : Int32) (nfl : Nat → Int32) (nfa : Nat → Int32) (nfs : Nat → Int32) (fk : Nat → Int32) (k0 : Nat) (k1 : Nat) (k2 : Nat) (k3 : Nat) (k4 : Nat) (k5 : Nat) (fq : Nat → Option Nat) (bys : Nat) (wo : Nat) (fs : Nat) (sc : Nat) (ln : Nat) (sta : Nat) (en : Nat) (tok : Int32) (num : Int32) (tfi : Int32) (tgl : Int32) (tst : Int32) (fby : Nat → Int32) (fwo : Nat → Int32) (ffs : Nat → Int32) (fsc : Nat → Int32) (m : Nat) (a : Nat) (b : Nat) (t : Nat) (kd : Nat → Int32) (hfi : fi ≤ 6) (hgl : gl ≤ 5) (hun : un ≤ 8) (hmi : mi ≤ 4) (hno : no ≤ 6) (hk : kw_bd 6 6 fk) (hna : kw_bd 6 5 nfa) (hq0 : fq 0 = some k0) (hq1 : fq 1 = some k1) (hq2 : fq 2 = some k2) (hq3 : fq 3 = some k3) (hq4 : fq 4 = some k4) (hq5 : fq 5 = some k5) (hln : ln ≤ 150) (hTs : sta ≤ 150) (hTe : en ≤ 150) (hA1 : ks_read fby ln = ks_ok m a b t kd) : kz_Mi l yX10_read wsX10_read ({ frames := 9, cells := 0, slots := 0, locals := 231 }) D y [.ref g] [(g, .inr (10, [.ref kk, .ref nw, .ref im, .ref kp, .ref tx, .ref tr, .ref be, .ref sh, .ref sd, .ref rf, .int ab, .int bl])), (nw, .inr (4, [.ref kk, .ref nk, .ref nd, .ref ne, .ref nm, .ref nn, .int (nI fi), .int (nI gl), .int (nI un), .int (nI mi), .int (nI no)])), (nk, .inl (y 0, 6, .inl fk)), (nd, .inr (1, [.ref nl, .ref na, .ref ns, .int nst, .int ncl, .int nnu])), (nl, .inl (y 0, 6, .inl nfl)), (na, .inl (y 0, 5, .inl nfa)), (ns, .inl (y 0, 5, .inl nfs)), (kk, .inl (y 5, 6, .inr (.inr (.inr (.inr fq))))), (k0, .inr (5, [])), (k1, .inr (8, [])), (k2, .inr (9, [])), (k3, .inr (6, [])), (k4, .inr (2, [])), (k5, .inr (3, [])), (tx, .inr (7, [.ref bys, .int (nI ln), .int tok, .int (nI sta), .int (nI en), .int num, .ref wo, .ref fs, .ref sc, .int tfi, .int tgl, .int tst])), (bys, .inl (y 1, 150, .inl fby)), (wo, .inl (y 0, 25, .inl fwo)), (fs, .inl (y 0, 25, .inl ffs)), (sc, .inl (y 0, 25, .inl fsc))] aK aV (fun (r : Int32) (u : (Nat → Int32) × Int32 × Int32 × (Nat → Int32) × (Nat → Int32) × (Nat → Int32) × Int32 × Nat × Nat × Int32 × Int32 × Int32 × Int32 × (Nat → Int32) × (Nat → Int32) × (Nat → Int32)) => kw_bd 6 6 u.1 ∧ kw_bd 6 5 u.2.2.2.2.1 ∧ u.2.2.2.2.2.2.2.1 ≤ 150 ∧ u.2.2.2.2.2.2.2.2.1 ≤ 150 ∧ kz_kc u.1 a kd ∧ a ≤ 6 ∧ b ≤ 5 ∧ r = (nI m)) (fun u => [(g, .inr (10, [.ref kk, .ref nw, .ref im, .ref kp, .ref tx, .ref tr, .ref be, .ref sh, .ref sd, .ref rf, .int ab, .int bl])), (nw, .inr (4, [.ref kk, .ref nk, .ref nd, .ref ne, .ref nm, .ref nn, .int (nI a), .int (nI b), .int 0, .int 0, .int 0])), (nk, .inl (y 0, 6, .inl u.1)), (nd, .inr (1, [.ref nl, .ref na, .ref ns, .int u.2.1, .int u.2.2.1, .int 0])), (nl, .inl (y 0, 6, .inl u.2.2.2.1)), (na, .inl (y 0, 5, .inl u.2.2.2.2.1)), (ns, .inl (y 0, 5, .inl u.2.2.2.2.2.1)), (kk, .inl (y 5, 6, .inr (.inr (.inr (.inr fq))))), (k0, .inr (5, [])), (k1, .inr (8, [])), (k2, .inr (9, [])), (k3, .inr (6, [])), (k4, .inr (2, [])), (k5, .inr (3, [])), (tx, .inr (7, [.ref bys, .int (nI ln), .int u.2.2.2.2.2.2.1, .int (nI u.2.2.2.2.2.2.2.1), .int (nI u.2.2.2.2.2.2.2.2.1), .int u.2.2.2.2.2.2.2.2.2.1, .ref wo, .ref fs, .ref sc, .int u.2.2.2.2.2.2.2.2.2.2.1, .int u.2.2.2.2.2.2.2.2.2.2.2.1, .int u.2.2.2.2.2.2.2.2.2.2.2.2.1])), (bys, .inl (y 1, 150, .inl fby)), (wo, .inl (y 0, 25, .inl u.2.2.2.2.2.2.2.2.2.2.2.2.2.1)), (fs, .inl (y 0, 25, .inl u.2.2.2.2.2.2.2.2.2.2.2.2.2.2.1)), (sc, .inl (y 0, 25, .inl u.2.2.2.2.2.2.2.2.2.2.2.2.2.2.2))]) 0 0 := by
  refine kz_Mi.of (cc := cX10_read) (maxL := 3) (ret := (some .int)) (by decide) rfl ?_
  intro pZ eZ s mZ beZ meZ cZ A hE
  obtain ⟨hx, hb, hr, hml, hts, hown, hlocks, hin, hA, hP, hD, hK, hN, hZ⟩ := hE
  have hS : va_S A s.heap s.heap [] := va_S.rf
  have hl := lv_entry ([.ref g]) (n := 3) (Nat.le_of_ble_eq_true rfl)
  rw [lg_entry_eq]
  generalize (lg_sl ([.ref g]) ++ List.replicate (3 - (lg_sl ([.ref g])).length) Slot.unset).toArray = ls at hl ⊢
  have hl : lv_has ls 3 [(0, .ref g)] := hl
  have fw1 := hts (.fieldLink RX10 51 "GleanDusk" "text" "LGleanDusk$Text;") (List.mem_of_getElem? (i := 1) rfl)
  have fw2 := hts (.fieldLink RX10 36 "GleanDusk" "now" "LGleanDusk$Parish;") (List.mem_of_getElem? (i := 2) rfl)
  have fw3 := hts (.fieldLink RX10 131 "GleanDusk$Text" "first" "[I") (List.mem_of_getElem? (i := 3) rfl)
  have fw4 := hts (.fieldLink RX10 134 "GleanDusk$Text" "words" "[I") (List.mem_of_getElem? (i := 4) rfl)
  have fw5 := hts (.fieldLink RX10 140 "GleanDusk$Parish" "dusk" "LGleanDusk$Dusk;") (List.mem_of_getElem? (i := 6) rfl)
  have fw6 := hts (.fieldLink RX10 137 "GleanDusk$Text" "second" "[I") (List.mem_of_getElem? (i := 5) rfl)
  have iw10 : ∀ w ∈ wsX100, w ∈ wsX10_read := fun _ h => List.mem_cons_of_mem _ (List.mem_append_left _ (List.mem_append_left _ (List.mem_append_left _ (List.mem_append_right _ h))))
  have iw7 : ∀ w ∈ wsX70, w ∈ wsX10_read := fun _ h => List.mem_cons_of_mem _ (List.mem_append_left _ (List.mem_append_left _ (List.mem_append_right _ h)))
  have iw4 : ∀ w ∈ wsX40, w ∈ wsX10_read := fun _ h => List.mem_cons_of_mem _ (List.mem_append_left _ (List.mem_append_right _ h))
  refine lv_aload_n hx hb dX10_read_0 rfl (lv_at hl 0 rfl) ?_
  refine va_get (D := D) (ci := 10) (v := .ref tx) (C := RX10) (T := TX10) (N := 12) hx hb hts iw10 hown hK hP 0 rfl rfl 4 (by decide) fw1 (fun _ h9 => h9) rfl dX10_read_1 ?_
  have hs1 : kw_Split [(g, .inr (10, [.ref kk, .ref nw, .ref im, .ref kp, .ref tx, .ref tr, .ref be, .ref sh, .ref sd, .ref rf, .int ab, .int bl])), (nw, .inr (4, [.ref kk, .ref nk, .ref nd, .ref ne, .ref nm, .ref nn, .int (nI fi), .int (nI gl), .int (nI un), .int (nI mi), .int (nI no)])), (nk, .inl (y 0, 6, .inl fk)), (nd, .inr (1, [.ref nl, .ref na, .ref ns, .int nst, .int ncl, .int nnu])), (nl, .inl (y 0, 6, .inl nfl)), (na, .inl (y 0, 5, .inl nfa)), (ns, .inl (y 0, 5, .inl nfs)), (kk, .inl (y 5, 6, .inr (.inr (.inr (.inr fq))))), (k0, .inr (5, [])), (k1, .inr (8, [])), (k2, .inr (9, [])), (k3, .inr (6, [])), (k4, .inr (2, [])), (k5, .inr (3, [])), (tx, .inr (7, [.ref bys, .int (nI ln), .int tok, .int (nI sta), .int (nI en), .int num, .ref wo, .ref fs, .ref sc, .int tfi, .int tgl, .int tst])), (bys, .inl (y 1, 150, .inl fby)), (wo, .inl (y 0, 25, .inl fwo)), (fs, .inl (y 0, 25, .inl ffs)), (sc, .inl (y 0, 25, .inl fsc))] [(tx, .inr (7, [.ref bys, .int (nI ln), .int tok, .int (nI sta), .int (nI en), .int num, .ref wo, .ref fs, .ref sc, .int tfi, .int tgl, .int tst])), (bys, .inl (y 1, 150, .inl fby)), (wo, .inl (y 0, 25, .inl fwo)), (fs, .inl (y 0, 25, .inl ffs)), (sc, .inl (y 0, 25, .inl fsc))] [(g, .inr (10, [.ref kk, .ref nw, .ref im, .ref kp, .ref tx, .ref tr, .ref be, .ref sh, .ref sd, .ref rf, .int ab, .int bl])), (nw, .inr (4, [.ref kk, .ref nk, .ref nd, .ref ne, .ref nm, .ref nn, .int (nI fi), .int (nI gl), .int (nI un), .int (nI mi), .int (nI no)])), (nk, .inl (y 0, 6, .inl fk)), (nd, .inr (1, [.ref nl, .ref na, .ref ns, .int nst, .int ncl, .int nnu])), (nl, .inl (y 0, 6, .inl nfl)), (na, .inl (y 0, 5, .inl nfa)), (ns, .inl (y 0, 5, .inl nfs)), (kk, .inl (y 5, 6, .inr (.inr (.inr (.inr fq))))), (k0, .inr (5, [])), (k1, .inr (8, [])), (k2, .inr (9, [])), (k3, .inr (6, [])), (k4, .inr (2, [])), (k5, .inr (3, []))] [14, 15, 16, 17, 18] [0, 1, 2, 3, 4, 5, 6, 7, 8, 9, 10, 11, 12, 13] := ⟨rfl, rfl, rfl, rfl, rfl, by decide⟩
  refine kw_go_i hs1 hP hD hS hA (va_runV (As := []) (rest := []) ⟨hx, hb, hml, hown, hts⟩ (gs_parse l D y aK aV tx bys wo fs sc ln sta en tok num tfi tgl tst fby fwo ffs fsc hln hTs hTe _) (cwV 0 hts gX10_read_X7_parse rfl rfl rfl (by decide +kernel) ⟨Nat.le_of_ble_eq_true rfl, Nat.le_of_ble_eq_true rfl⟩) (kz_PreV (ci := 7) (q0 := 14) hs1 hP hD hK hN rfl rfl hZ hS hA) rfl rfl hl.1 rfl (lv_room (Nat.le_of_ble_eq_true rfl)) dX10_read_4 ⟨Nat.le_of_ble_eq_true rfl, Nat.le_of_ble_eq_true rfl⟩) (fun r2 u3 H locs hq hP hD hS => ?_)
  obtain ⟨v4, v5, v6, v7, v8, v9, v10, v11, v12, v13⟩ := u3
  try dsimp only at hq
  obtain ⟨h14, h15, h16⟩ := hq
  have hP : va_P D vwCl [(g, .inr (10, [.ref kk, .ref nw, .ref im, .ref kp, .ref tx, .ref tr, .ref be, .ref sh, .ref sd, .ref rf, .int ab, .int bl])), (nw, .inr (4, [.ref kk, .ref nk, .ref nd, .ref ne, .ref nm, .ref nn, .int (nI fi), .int (nI gl), .int (nI un), .int (nI mi), .int (nI no)])), (nk, .inl (y 0, 6, .inl fk)), (nd, .inr (1, [.ref nl, .ref na, .ref ns, .int nst, .int ncl, .int nnu])), (nl, .inl (y 0, 6, .inl nfl)), (na, .inl (y 0, 5, .inl nfa)), (ns, .inl (y 0, 5, .inl nfs)), (kk, .inl (y 5, 6, .inr (.inr (.inr (.inr fq))))), (k0, .inr (5, [])), (k1, .inr (8, [])), (k2, .inr (9, [])), (k3, .inr (6, [])), (k4, .inr (2, [])), (k5, .inr (3, [])), (tx, .inr (7, [.ref bys, .int (nI ln), .int v4, .int (nI v5), .int (nI v6), .int v7, .ref wo, .ref fs, .ref sc, .int v8, .int v9, .int v10])), (bys, .inl (y 1, 150, .inl fby)), (wo, .inl (y 0, 25, .inl v11)), (fs, .inl (y 0, 25, .inl v12)), (sc, .inl (y 0, 25, .inl v13))] H := hP
  have hD : va_D A [(g, .inr (10, [.ref kk, .ref nw, .ref im, .ref kp, .ref tx, .ref tr, .ref be, .ref sh, .ref sd, .ref rf, .int ab, .int bl])), (nw, .inr (4, [.ref kk, .ref nk, .ref nd, .ref ne, .ref nm, .ref nn, .int (nI fi), .int (nI gl), .int (nI un), .int (nI mi), .int (nI no)])), (nk, .inl (y 0, 6, .inl fk)), (nd, .inr (1, [.ref nl, .ref na, .ref ns, .int nst, .int ncl, .int nnu])), (nl, .inl (y 0, 6, .inl nfl)), (na, .inl (y 0, 5, .inl nfa)), (ns, .inl (y 0, 5, .inl nfs)), (kk, .inl (y 5, 6, .inr (.inr (.inr (.inr fq))))), (k0, .inr (5, [])), (k1, .inr (8, [])), (k2, .inr (9, [])), (k3, .inr (6, [])), (k4, .inr (2, [])), (k5, .inr (3, [])), (tx, .inr (7, [.ref bys, .int (nI ln), .int v4, .int (nI v5), .int (nI v6), .int v7, .ref wo, .ref fs, .ref sc, .int v8, .int v9, .int v10])), (bys, .inl (y 1, 150, .inl fby)), (wo, .inl (y 0, 25, .inl v11)), (fs, .inl (y 0, 25, .inl v12)), (sc, .inl (y 0, 25, .inl v13))] := hD
  rcases h16 with ⟨q9, hq9, rfl, hf9⟩ | ⟨m9, a9, b9, t9, kd9, h09, h25, hO9, rfl, hk9⟩
  · skip
    exact (ks_ne (hf9.symm.trans hA1)).elim
  · skip
    obtain ⟨e1, e2, e3, e4, e5⟩ := ks_ok_inj (hA1.symm.trans hk9)
    subst e1
    subst e2
    subst e3
    subst e4
    subst e5
    refine lv_istore_n (lv' := [(1, .int (nI m)), (0, .ref g)]) hx hb dX10_read_7 rfl hl (by decide) rfl (fun ls hl => ?_)
    refine lv_iload_n hx hb dX10_read_8 rfl (lv_at hl 0 rfl) ?_
    refine lv_if_ge (tgt := 14) hx hb dX10_read_9 (by decide) (fun h17 => ?_) (fun h18 => ?_)
    · skip
      have h17 : 0 ≤ m := (nI_leI (a := 0) (b := m) (by omega) (by omega)).mp h17
      refine lv_aload_n hx hb dX10_read_14 rfl (lv_at hl 1 rfl) ?_
      refine va_get (D := D) (ci := 10) (v := .ref nw) (C := RX10) (T := TX10) (N := 12) hx hb hts iw10 hown hK hP 0 rfl rfl 1 (by decide) fw2 (fun _ h9 => h9) rfl dX10_read_15 ?_
      refine lv_aload_n hx hb dX10_read_18 rfl (lv_at hl 1 rfl) ?_
      refine va_get (D := D) (ci := 10) (v := .ref tx) (C := RX10) (T := TX10) (N := 12) hx hb hts iw10 hown hK hP 0 rfl rfl 4 (by decide) fw1 (fun _ h9 => h9) rfl dX10_read_19 ?_
      refine va_get (D := D) (ci := 7) (v := .ref fs) (C := RX7) (T := TX7) (N := 12) hx hb hts iw7 hown hK hP 14 rfl rfl 7 (by decide) fw3 (fun _ h9 => h9) rfl dX10_read_22 ?_
      refine lv_iconst (v := 0) hx hb dX10_read_25 (by decide) ?_
      refine va_iald hx hb hK hP 17 0 rfl rfl (by unfold vp_in; decide) dX10_read_26 ?_
      rw [show ((0 : Int32)).toNatClampNeg = 0 from rfl]
      have hs19 : kw_Split [(g, .inr (10, [.ref kk, .ref nw, .ref im, .ref kp, .ref tx, .ref tr, .ref be, .ref sh, .ref sd, .ref rf, .int ab, .int bl])), (nw, .inr (4, [.ref kk, .ref nk, .ref nd, .ref ne, .ref nm, .ref nn, .int (nI fi), .int (nI gl), .int (nI un), .int (nI mi), .int (nI no)])), (nk, .inl (y 0, 6, .inl fk)), (nd, .inr (1, [.ref nl, .ref na, .ref ns, .int nst, .int ncl, .int nnu])), (nl, .inl (y 0, 6, .inl nfl)), (na, .inl (y 0, 5, .inl nfa)), (ns, .inl (y 0, 5, .inl nfs)), (kk, .inl (y 5, 6, .inr (.inr (.inr (.inr fq))))), (k0, .inr (5, [])), (k1, .inr (8, [])), (k2, .inr (9, [])), (k3, .inr (6, [])), (k4, .inr (2, [])), (k5, .inr (3, [])), (tx, .inr (7, [.ref bys, .int (nI ln), .int v4, .int (nI v5), .int (nI v6), .int v7, .ref wo, .ref fs, .ref sc, .int v8, .int v9, .int v10])), (bys, .inl (y 1, 150, .inl fby)), (wo, .inl (y 0, 25, .inl v11)), (fs, .inl (y 0, 25, .inl v12)), (sc, .inl (y 0, 25, .inl v13))] [(nw, .inr (4, [.ref kk, .ref nk, .ref nd, .ref ne, .ref nm, .ref nn, .int (nI fi), .int (nI gl), .int (nI un), .int (nI mi), .int (nI no)])), (nd, .inr (1, [.ref nl, .ref na, .ref ns, .int nst, .int ncl, .int nnu]))] [(g, .inr (10, [.ref kk, .ref nw, .ref im, .ref kp, .ref tx, .ref tr, .ref be, .ref sh, .ref sd, .ref rf, .int ab, .int bl])), (nk, .inl (y 0, 6, .inl fk)), (nl, .inl (y 0, 6, .inl nfl)), (na, .inl (y 0, 5, .inl nfa)), (ns, .inl (y 0, 5, .inl nfs)), (kk, .inl (y 5, 6, .inr (.inr (.inr (.inr fq))))), (k0, .inr (5, [])), (k1, .inr (8, [])), (k2, .inr (9, [])), (k3, .inr (6, [])), (k4, .inr (2, [])), (k5, .inr (3, [])), (tx, .inr (7, [.ref bys, .int (nI ln), .int v4, .int (nI v5), .int (nI v6), .int v7, .ref wo, .ref fs, .ref sc, .int v8, .int v9, .int v10])), (bys, .inl (y 1, 150, .inl fby)), (wo, .inl (y 0, 25, .inl v11)), (fs, .inl (y 0, 25, .inl v12)), (sc, .inl (y 0, 25, .inl v13))] [1, 3] [0, 2, 4, 5, 6, 7, 8, 9, 10, 11, 12, 13, 14, 15, 16, 17, 18] := ⟨rfl, rfl, rfl, rfl, rfl, by decide⟩
      refine kw_go_v hs19 hP hD hS hA (va_runV (As := [.int (v12 0)]) (rest := []) ⟨hx, hb, hml, hown, hts⟩ (gc_begin l D y nw kk nk nd ne nm nn fi gl un mi no (v12 0) nd nl na ns nst ncl nnu hfi hgl hun hmi hno _) (cwV 1 hts gX10_read_X4_begin rfl rfl rfl (by decide +kernel) ⟨Nat.le_of_ble_eq_true rfl, Nat.le_of_ble_eq_true rfl⟩) (kw_PreV (ci := 4) (q0 := 1) hs19 hP hD hK hN rfl rfl) rfl rfl hl.1 rfl (lv_room (Nat.le_of_ble_eq_true rfl)) dX10_read_27 ⟨Nat.le_of_ble_eq_true rfl, Nat.le_of_ble_eq_true rfl⟩) (fun u21 H locs hq hP hD hS => ?_)
      have hP : va_P D vwCl [(g, .inr (10, [.ref kk, .ref nw, .ref im, .ref kp, .ref tx, .ref tr, .ref be, .ref sh, .ref sd, .ref rf, .int ab, .int bl])), (nk, .inl (y 0, 6, .inl fk)), (nl, .inl (y 0, 6, .inl nfl)), (na, .inl (y 0, 5, .inl nfa)), (ns, .inl (y 0, 5, .inl nfs)), (kk, .inl (y 5, 6, .inr (.inr (.inr (.inr fq))))), (k0, .inr (5, [])), (k1, .inr (8, [])), (k2, .inr (9, [])), (k3, .inr (6, [])), (k4, .inr (2, [])), (k5, .inr (3, [])), (tx, .inr (7, [.ref bys, .int (nI ln), .int v4, .int (nI v5), .int (nI v6), .int v7, .ref wo, .ref fs, .ref sc, .int v8, .int v9, .int v10])), (bys, .inl (y 1, 150, .inl fby)), (wo, .inl (y 0, 25, .inl v11)), (fs, .inl (y 0, 25, .inl v12)), (sc, .inl (y 0, 25, .inl v13)), (nw, .inr (4, [.ref kk, .ref nk, .ref nd, .ref ne, .ref nm, .ref nn, .int 0, .int 0, .int 0, .int 0, .int 0])), (nd, .inr (1, [.ref nl, .ref na, .ref ns, .int 0, .int (v12 0), .int 0]))] H := hP
      have hD : va_D A [(g, .inr (10, [.ref kk, .ref nw, .ref im, .ref kp, .ref tx, .ref tr, .ref be, .ref sh, .ref sd, .ref rf, .int ab, .int bl])), (nk, .inl (y 0, 6, .inl fk)), (nl, .inl (y 0, 6, .inl nfl)), (na, .inl (y 0, 5, .inl nfa)), (ns, .inl (y 0, 5, .inl nfs)), (kk, .inl (y 5, 6, .inr (.inr (.inr (.inr fq))))), (k0, .inr (5, [])), (k1, .inr (8, [])), (k2, .inr (9, [])), (k3, .inr (6, [])), (k4, .inr (2, [])), (k5, .inr (3, [])), (tx, .inr (7, [.ref bys, .int (nI ln), .int v4, .int (nI v5), .int (nI v6), .int v7, .ref wo, .ref fs, .ref sc, .int v8, .int v9, .int v10])), (bys, .inl (y 1, 150, .inl fby)), (wo, .inl (y 0, 25, .inl v11)), (fs, .inl (y 0, 25, .inl v12)), (sc, .inl (y 0, 25, .inl v13)), (nw, .inr (4, [.ref kk, .ref nk, .ref nd, .ref ne, .ref nm, .ref nn, .int 0, .int 0, .int 0, .int 0, .int 0])), (nd, .inr (1, [.ref nl, .ref na, .ref ns, .int 0, .int (v12 0), .int 0]))] := hD
      refine lv_iconst (v := 1) hx hb dX10_read_30 (by decide) ?_
      refine lv_istore_n (lv' := [(2, .int 1), (1, .int (nI m)), (0, .ref g)]) hx hb dX10_read_31 rfl hl (by decide) rfl (fun ls hl => ?_)
      have lp87 : ∀ (fuj91 j91 : Nat) (x50 : Nat → Int32) (x51 : Nat → Int32) (x52 : Int32) (x53 : Nat → Int32) (x55 : Nat) (x56 : Nat → Int32) (x58 : Nat) (H : Heap) (locs : List Loc) (ls : Array Slot), j91 ≤ m → m - j91 < fuj91 → kw_bd 6 5 x53 → kw_bd 6 6 x56 → x55 ≤ 5 → x58 ≤ 6 → kz_rE v11 j91 x58 x55 x56 kd → va_P D vwCl [(g, .inr (10, [.ref kk, .ref nw, .ref im, .ref kp, .ref tx, .ref tr, .ref be, .ref sh, .ref sd, .ref rf, .int ab, .int bl])), (nk, .inl (y 0, 6, .inl x56)), (nl, .inl (y 0, 6, .inl x50)), (na, .inl (y 0, 5, .inl x53)), (ns, .inl (y 0, 5, .inl x51)), (kk, .inl (y 5, 6, .inr (.inr (.inr (.inr fq))))), (k0, .inr (5, [])), (k1, .inr (8, [])), (k2, .inr (9, [])), (k3, .inr (6, [])), (k4, .inr (2, [])), (k5, .inr (3, [])), (tx, .inr (7, [.ref bys, .int (nI ln), .int v4, .int (nI v5), .int (nI v6), .int v7, .ref wo, .ref fs, .ref sc, .int v8, .int v9, .int v10])), (bys, .inl (y 1, 150, .inl fby)), (wo, .inl (y 0, 25, .inl v11)), (fs, .inl (y 0, 25, .inl v12)), (sc, .inl (y 0, 25, .inl v13)), (nw, .inr (4, [.ref kk, .ref nk, .ref nd, .ref ne, .ref nm, .ref nn, .int (nI x58), .int (nI x55), .int 0, .int 0, .int 0])), (nd, .inr (1, [.ref nl, .ref na, .ref ns, .int x52, .int (v12 0), .int 0]))] H → va_D A [(g, .inr (10, [.ref kk, .ref nw, .ref im, .ref kp, .ref tx, .ref tr, .ref be, .ref sh, .ref sd, .ref rf, .int ab, .int bl])), (nk, .inl (y 0, 6, .inl x56)), (nl, .inl (y 0, 6, .inl x50)), (na, .inl (y 0, 5, .inl x53)), (ns, .inl (y 0, 5, .inl x51)), (kk, .inl (y 5, 6, .inr (.inr (.inr (.inr fq))))), (k0, .inr (5, [])), (k1, .inr (8, [])), (k2, .inr (9, [])), (k3, .inr (6, [])), (k4, .inr (2, [])), (k5, .inr (3, [])), (tx, .inr (7, [.ref bys, .int (nI ln), .int v4, .int (nI v5), .int (nI v6), .int v7, .ref wo, .ref fs, .ref sc, .int v8, .int v9, .int v10])), (bys, .inl (y 1, 150, .inl fby)), (wo, .inl (y 0, 25, .inl v11)), (fs, .inl (y 0, 25, .inl v12)), (sc, .inl (y 0, 25, .inl v13)), (nw, .inr (4, [.ref kk, .ref nk, .ref nd, .ref ne, .ref nm, .ref nn, .int (nI x58), .int (nI x55), .int 0, .int 0, .int 0])), (nd, .inr (1, [.ref nl, .ref na, .ref ns, .int x52, .int (v12 0), .int 0]))] → va_S A s.heap H locs → lv_has ls 3 [(2, .int (nI j91)), (1, .int (nI m)), (0, .ref g)] → W pZ l eZ ({ frames := 9, cells := 0, slots := 0, locals := 231 }) s mZ [.ref g].toArray beZ meZ cZ H locs 0 0 (MQ beZ (va_Qi (fun (r : Int32) (u : (Nat → Int32) × Int32 × Int32 × (Nat → Int32) × (Nat → Int32) × (Nat → Int32) × Int32 × Nat × Nat × Int32 × Int32 × Int32 × Int32 × (Nat → Int32) × (Nat → Int32) × (Nat → Int32)) => kw_bd 6 6 u.1 ∧ kw_bd 6 5 u.2.2.2.2.1 ∧ u.2.2.2.2.2.2.2.1 ≤ 150 ∧ u.2.2.2.2.2.2.2.2.1 ≤ 150 ∧ kz_kc u.1 a kd ∧ a ≤ 6 ∧ b ≤ 5 ∧ r = (nI m)) (kw_B D (fun u => [(g, .inr (10, [.ref kk, .ref nw, .ref im, .ref kp, .ref tx, .ref tr, .ref be, .ref sh, .ref sd, .ref rf, .int ab, .int bl])), (nw, .inr (4, [.ref kk, .ref nk, .ref nd, .ref ne, .ref nm, .ref nn, .int (nI a), .int (nI b), .int 0, .int 0, .int 0])), (nk, .inl (y 0, 6, .inl u.1)), (nd, .inr (1, [.ref nl, .ref na, .ref ns, .int u.2.1, .int u.2.2.1, .int 0])), (nl, .inl (y 0, 6, .inl u.2.2.2.1)), (na, .inl (y 0, 5, .inl u.2.2.2.2.1)), (ns, .inl (y 0, 5, .inl u.2.2.2.2.2.1)), (kk, .inl (y 5, 6, .inr (.inr (.inr (.inr fq))))), (k0, .inr (5, [])), (k1, .inr (8, [])), (k2, .inr (9, [])), (k3, .inr (6, [])), (k4, .inr (2, [])), (k5, .inr (3, [])), (tx, .inr (7, [.ref bys, .int (nI ln), .int u.2.2.2.2.2.2.1, .int (nI u.2.2.2.2.2.2.2.1), .int (nI u.2.2.2.2.2.2.2.2.1), .int u.2.2.2.2.2.2.2.2.2.1, .ref wo, .ref fs, .ref sc, .int u.2.2.2.2.2.2.2.2.2.2.1, .int u.2.2.2.2.2.2.2.2.2.2.2.1, .int u.2.2.2.2.2.2.2.2.2.2.2.2.1])), (bys, .inl (y 1, 150, .inl fby)), (wo, .inl (y 0, 25, .inl u.2.2.2.2.2.2.2.2.2.2.2.2.2.1)), (fs, .inl (y 0, 25, .inl u.2.2.2.2.2.2.2.2.2.2.2.2.2.2.1)), (sc, .inl (y 0, 25, .inl u.2.2.2.2.2.2.2.2.2.2.2.2.2.2.2))]) A) A) [.ref g].toArray s 0 0 A) (F0 mZ 32 ls []) := by
        intro fuj91
        induction fuj91 with
        | zero => intro j91 x50 x51 x52 x53 x55 x56 x58 H locs ls hj9 hf9; exact absurd hf9 (Nat.not_lt_zero _)
        | succ fuj91 ihj91 =>
          intro j91 x50 x51 x52 x53 x55 x56 x58 H locs ls hj91 hfj91 hb54 hb57 hn_x55 hn_x58 hI0_j91 hP hD hS hl
          refine lv_iload_n hx hb dX10_read_32 rfl (lv_at hl 0 rfl) ?_
          refine lv_iload_n hx hb dX10_read_33 rfl (lv_at hl 1 rfl) ?_
          refine lv_icmp_ge (tgt := 142) hx hb dX10_read_34 (by decide) (fun h88 => ?_) (fun h89 => ?_)
          · skip
            have h88 : m ≤ j91 := (nI_leI (a := m) (b := j91) (by omega) (by omega)).mp h88
            have e7 : j91 = m := by omega
            have hE7 : kz_rE v11 m x58 x55 x56 kd := e7 ▸ hI0_j91
            obtain ⟨e8, e9⟩ := kz_rEz hO9 hE7
            subst e8
            subst e9
            have hP : va_P D vwCl [(g, .inr (10, [.ref kk, .ref nw, .ref im, .ref kp, .ref tx, .ref tr, .ref be, .ref sh, .ref sd, .ref rf, .int ab, .int bl])), (nk, .inl (y 0, 6, .inl x56)), (nl, .inl (y 0, 6, .inl x50)), (na, .inl (y 0, 5, .inl x53)), (ns, .inl (y 0, 5, .inl x51)), (kk, .inl (y 5, 6, .inr (.inr (.inr (.inr fq))))), (k0, .inr (5, [])), (k1, .inr (8, [])), (k2, .inr (9, [])), (k3, .inr (6, [])), (k4, .inr (2, [])), (k5, .inr (3, [])), (tx, .inr (7, [.ref bys, .int (nI ln), .int v4, .int (nI v5), .int (nI v6), .int v7, .ref wo, .ref fs, .ref sc, .int v8, .int v9, .int v10])), (bys, .inl (y 1, 150, .inl fby)), (wo, .inl (y 0, 25, .inl v11)), (fs, .inl (y 0, 25, .inl v12)), (sc, .inl (y 0, 25, .inl v13)), (nw, .inr (4, [.ref kk, .ref nk, .ref nd, .ref ne, .ref nm, .ref nn, .int (nI a), .int (nI b), .int 0, .int 0, .int 0])), (nd, .inr (1, [.ref nl, .ref na, .ref ns, .int x52, .int (v12 0), .int 0]))] H := hP
            have hD : va_D A [(g, .inr (10, [.ref kk, .ref nw, .ref im, .ref kp, .ref tx, .ref tr, .ref be, .ref sh, .ref sd, .ref rf, .int ab, .int bl])), (nk, .inl (y 0, 6, .inl x56)), (nl, .inl (y 0, 6, .inl x50)), (na, .inl (y 0, 5, .inl x53)), (ns, .inl (y 0, 5, .inl x51)), (kk, .inl (y 5, 6, .inr (.inr (.inr (.inr fq))))), (k0, .inr (5, [])), (k1, .inr (8, [])), (k2, .inr (9, [])), (k3, .inr (6, [])), (k4, .inr (2, [])), (k5, .inr (3, [])), (tx, .inr (7, [.ref bys, .int (nI ln), .int v4, .int (nI v5), .int (nI v6), .int v7, .ref wo, .ref fs, .ref sc, .int v8, .int v9, .int v10])), (bys, .inl (y 1, 150, .inl fby)), (wo, .inl (y 0, 25, .inl v11)), (fs, .inl (y 0, 25, .inl v12)), (sc, .inl (y 0, 25, .inl v13)), (nw, .inr (4, [.ref kk, .ref nk, .ref nd, .ref ne, .ref nm, .ref nn, .int (nI a), .int (nI b), .int 0, .int 0, .int 0])), (nd, .inr (1, [.ref nl, .ref na, .ref ns, .int x52, .int (v12 0), .int 0]))] := hD
            refine lv_iload_n hx hb dX10_read_142 rfl (lv_at hl 1 rfl) ?_
            exact W.iret (v := (nI m)) hx hb hr (fun tZ ht hW => ⟨⟨(nI m), (x56, x52, (v12 0), x50, x53, x51, v4, v5, v6, v7, v8, v9, v10, v11, v12, v13), rfl, ⟨hb57, hb54, by first | omega | (dsimp only; omega), by first | omega | (dsimp only; omega), (hI0_j91).2.2, hO9.1.2.2.1, hO9.1.2.2.2.1, rfl⟩, by rw [ht]; exact hP.sub [0, 17, 1, 18, 2, 3, 4, 5, 6, 7, 8, 9, 10, 11, 12, 13, 14, 15, 16] rfl, hD.sub [0, 17, 1, 18, 2, 3, 4, 5, 6, 7, 8, 9, 10, 11, 12, 13, 14, 15, 16] (by decide) rfl⟩, hS.F ht⟩) hS.2.2 dX10_read_143
          · skip
            have h89 : ¬ m ≤ j91 := fun q9 => h89 ((nI_leI (a := m) (b := j91) (by omega) (by omega)).mpr q9)
            refine lv_aload_n hx hb dX10_read_37 rfl (lv_at hl 2 rfl) ?_
            refine va_get (D := D) (ci := 10) (v := .ref tx) (C := RX10) (T := TX10) (N := 12) hx hb hts iw10 hown hK hP 0 rfl rfl 4 (by decide) fw1 (fun _ h9 => h9) rfl dX10_read_38 ?_
            refine va_get (D := D) (ci := 7) (v := .ref wo) (C := RX7) (T := TX7) (N := 12) hx hb hts iw7 hown hK hP 12 rfl rfl 6 (by decide) fw4 (fun _ h9 => h9) rfl dX10_read_41 ?_
            refine lv_iload_n hx hb dX10_read_44 rfl (lv_at hl 0 rfl) ?_
            refine va_iald hx hb hK hP 14 0 rfl rfl (vp_in_nI (by omega) (by decide)) dX10_read_45 ?_
            rw [nI_clamp (n := j91) (by omega)]
            refine lv_iconst (v := 1) hx hb dX10_read_46 (by decide) ?_
            refine lv_icmp_ne (tgt := 79) hx hb dX10_read_47 (by decide) (fun h90 => ?_) (fun h91 => ?_)
            · skip
              refine lv_aload_n hx hb dX10_read_79 rfl (lv_at hl 2 rfl) ?_
              refine va_get (D := D) (ci := 10) (v := .ref tx) (C := RX10) (T := TX10) (N := 12) hx hb hts iw10 hown hK hP 0 rfl rfl 4 (by decide) fw1 (fun _ h9 => h9) rfl dX10_read_80 ?_
              refine va_get (D := D) (ci := 7) (v := .ref wo) (C := RX7) (T := TX7) (N := 12) hx hb hts iw7 hown hK hP 12 rfl rfl 6 (by decide) fw4 (fun _ h9 => h9) rfl dX10_read_83 ?_
              refine lv_iload_n hx hb dX10_read_86 rfl (lv_at hl 0 rfl) ?_
              refine va_iald hx hb hK hP 14 0 rfl rfl (vp_in_nI (by omega) (by decide)) dX10_read_87 ?_
              rw [nI_clamp (n := j91) (by omega)]
              refine lv_iconst (v := 2) hx hb dX10_read_88 (by decide) ?_
              refine lv_icmp_ne (tgt := 112) hx hb dX10_read_89 (by decide) (fun h92 => ?_) (fun h93 => ?_)
              · skip
                refine lv_aload_n hx hb dX10_read_112 rfl (lv_at hl 2 rfl) ?_
                refine va_get (D := D) (ci := 10) (v := .ref nw) (C := RX10) (T := TX10) (N := 12) hx hb hts iw10 hown hK hP 0 rfl rfl 1 (by decide) fw2 (fun _ h9 => h9) rfl dX10_read_113 ?_
                refine lv_aload_n hx hb dX10_read_116 rfl (lv_at hl 2 rfl) ?_
                refine va_get (D := D) (ci := 10) (v := .ref nw) (C := RX10) (T := TX10) (N := 12) hx hb hts iw10 hown hK hP 0 rfl rfl 1 (by decide) fw2 (fun _ h9 => h9) rfl dX10_read_117 ?_
                refine va_get (D := D) (ci := 4) (v := .ref nd) (C := RX4) (T := TX4) (N := 11) hx hb hts iw4 hown hK hP 17 rfl rfl 2 (by decide) fw5 (fun _ h9 => h9) rfl dX10_read_120 ?_
                refine lv_aload_n hx hb dX10_read_123 rfl (lv_at hl 2 rfl) ?_
                refine va_get (D := D) (ci := 10) (v := .ref tx) (C := RX10) (T := TX10) (N := 12) hx hb hts iw10 hown hK hP 0 rfl rfl 4 (by decide) fw1 (fun _ h9 => h9) rfl dX10_read_124 ?_
                refine va_get (D := D) (ci := 7) (v := .ref fs) (C := RX7) (T := TX7) (N := 12) hx hb hts iw7 hown hK hP 12 rfl rfl 7 (by decide) fw3 (fun _ h9 => h9) rfl dX10_read_127 ?_
                refine lv_iload_n hx hb dX10_read_130 rfl (lv_at hl 0 rfl) ?_
                refine va_iald hx hb hK hP 15 0 rfl rfl (vp_in_nI (by omega) (by decide)) dX10_read_131 ?_
                rw [nI_clamp (n := j91) (by omega)]
                have hs94 : kw_Split [(g, .inr (10, [.ref kk, .ref nw, .ref im, .ref kp, .ref tx, .ref tr, .ref be, .ref sh, .ref sd, .ref rf, .int ab, .int bl])), (nk, .inl (y 0, 6, .inl x56)), (nl, .inl (y 0, 6, .inl x50)), (na, .inl (y 0, 5, .inl x53)), (ns, .inl (y 0, 5, .inl x51)), (kk, .inl (y 5, 6, .inr (.inr (.inr (.inr fq))))), (k0, .inr (5, [])), (k1, .inr (8, [])), (k2, .inr (9, [])), (k3, .inr (6, [])), (k4, .inr (2, [])), (k5, .inr (3, [])), (tx, .inr (7, [.ref bys, .int (nI ln), .int v4, .int (nI v5), .int (nI v6), .int v7, .ref wo, .ref fs, .ref sc, .int v8, .int v9, .int v10])), (bys, .inl (y 1, 150, .inl fby)), (wo, .inl (y 0, 25, .inl v11)), (fs, .inl (y 0, 25, .inl v12)), (sc, .inl (y 0, 25, .inl v13)), (nw, .inr (4, [.ref kk, .ref nk, .ref nd, .ref ne, .ref nm, .ref nn, .int (nI x58), .int (nI x55), .int 0, .int 0, .int 0])), (nd, .inr (1, [.ref nl, .ref na, .ref ns, .int x52, .int (v12 0), .int 0]))] [(nw, .inr (4, [.ref kk, .ref nk, .ref nd, .ref ne, .ref nm, .ref nn, .int (nI x58), .int (nI x55), .int 0, .int 0, .int 0])), (nk, .inl (y 0, 6, .inl x56)), (nd, .inr (1, [.ref nl, .ref na, .ref ns, .int x52, .int (v12 0), .int 0])), (nl, .inl (y 0, 6, .inl x50)), (na, .inl (y 0, 5, .inl x53)), (ns, .inl (y 0, 5, .inl x51)), (kk, .inl (y 5, 6, .inr (.inr (.inr (.inr fq))))), (k0, .inr (5, [])), (k1, .inr (8, [])), (k2, .inr (9, [])), (k3, .inr (6, [])), (k4, .inr (2, [])), (k5, .inr (3, []))] [(g, .inr (10, [.ref kk, .ref nw, .ref im, .ref kp, .ref tx, .ref tr, .ref be, .ref sh, .ref sd, .ref rf, .int ab, .int bl])), (tx, .inr (7, [.ref bys, .int (nI ln), .int v4, .int (nI v5), .int (nI v6), .int v7, .ref wo, .ref fs, .ref sc, .int v8, .int v9, .int v10])), (bys, .inl (y 1, 150, .inl fby)), (wo, .inl (y 0, 25, .inl v11)), (fs, .inl (y 0, 25, .inl v12)), (sc, .inl (y 0, 25, .inl v13))] [17, 1, 18, 2, 3, 4, 5, 6, 7, 8, 9, 10, 11] [0, 12, 13, 14, 15, 16] := ⟨rfl, rfl, rfl, rfl, rfl, by decide⟩
                refine kw_go_i hs94 hP hD hS hA (va_runV (As := [.ref nd, .int (v12 j91)]) (rest := []) ⟨hx, hb, hml, hown, hts⟩ (gc_gather l D y nw kk nk nd ne nm nn x58 x55 0 0 0 nd nl na ns x52 (v12 0) 0 x50 x53 x51 x56 k0 k1 k2 k3 k4 k5 fq (v12 j91) (by omega) (by omega) (by omega) (by omega) (by omega) hb57 hb54 hq0 hq1 hq2 hq3 hq4 hq5 _) (cwV 2 hts gX10_read_X4_gather rfl rfl rfl (by decide +kernel) ⟨Nat.le_of_ble_eq_true rfl, Nat.le_of_ble_eq_true rfl⟩) (kw_PreV (ci := 4) (q0 := 17) hs94 hP hD hK hN rfl rfl) rfl rfl hl.1 rfl (lv_room (Nat.le_of_ble_eq_true rfl)) dX10_read_132 ⟨Nat.le_of_ble_eq_true rfl, Nat.le_of_ble_eq_true rfl⟩) (fun r95 u96 H locs hq hP hD hS => ?_)
                obtain ⟨v97, v98, v99⟩ := u96
                have hP : va_P D vwCl [(g, .inr (10, [.ref kk, .ref nw, .ref im, .ref kp, .ref tx, .ref tr, .ref be, .ref sh, .ref sd, .ref rf, .int ab, .int bl])), (tx, .inr (7, [.ref bys, .int (nI ln), .int v4, .int (nI v5), .int (nI v6), .int v7, .ref wo, .ref fs, .ref sc, .int v8, .int v9, .int v10])), (bys, .inl (y 1, 150, .inl fby)), (wo, .inl (y 0, 25, .inl v11)), (fs, .inl (y 0, 25, .inl v12)), (sc, .inl (y 0, 25, .inl v13)), (nw, .inr (4, [.ref kk, .ref nk, .ref nd, .ref ne, .ref nm, .ref nn, .int (nI x58), .int (nI x55), .int (nI 0), .int (nI 0), .int (nI 0)])), (nk, .inl (y 0, 6, .inl x56)), (nd, .inr (1, [.ref nl, .ref na, .ref ns, .int v97, .int (v12 0), .int 0])), (nl, .inl (y 0, 6, .inl v98)), (na, .inl (y 0, 5, .inl x53)), (ns, .inl (y 0, 5, .inl v99)), (kk, .inl (y 5, 6, .inr (.inr (.inr (.inr fq))))), (k0, .inr (5, [])), (k1, .inr (8, [])), (k2, .inr (9, [])), (k3, .inr (6, [])), (k4, .inr (2, [])), (k5, .inr (3, []))] H := hP
                have hD : va_D A [(g, .inr (10, [.ref kk, .ref nw, .ref im, .ref kp, .ref tx, .ref tr, .ref be, .ref sh, .ref sd, .ref rf, .int ab, .int bl])), (tx, .inr (7, [.ref bys, .int (nI ln), .int v4, .int (nI v5), .int (nI v6), .int v7, .ref wo, .ref fs, .ref sc, .int v8, .int v9, .int v10])), (bys, .inl (y 1, 150, .inl fby)), (wo, .inl (y 0, 25, .inl v11)), (fs, .inl (y 0, 25, .inl v12)), (sc, .inl (y 0, 25, .inl v13)), (nw, .inr (4, [.ref kk, .ref nk, .ref nd, .ref ne, .ref nm, .ref nn, .int (nI x58), .int (nI x55), .int (nI 0), .int (nI 0), .int (nI 0)])), (nk, .inl (y 0, 6, .inl x56)), (nd, .inr (1, [.ref nl, .ref na, .ref ns, .int v97, .int (v12 0), .int 0])), (nl, .inl (y 0, 6, .inl v98)), (na, .inl (y 0, 5, .inl x53)), (ns, .inl (y 0, 5, .inl v99)), (kk, .inl (y 5, 6, .inr (.inr (.inr (.inr fq))))), (k0, .inr (5, [])), (k1, .inr (8, [])), (k2, .inr (9, [])), (k3, .inr (6, [])), (k4, .inr (2, [])), (k5, .inr (3, []))] := hD
                refine lv_pop hx hb dX10_read_135 rfl ?_
                refine lv_iinc (v := (nI (j91 + 1))) (lv' := [(2, .int (nI (j91 + 1))), (1, .int (nI m)), (0, .ref g)]) hx hb dX10_read_136 hl (k := 0) rfl (nI_1 j91) (by decide) rfl (fun ls hl => ?_)
                refine lv_goto (tgt := 32) hx hb dX10_read_139 (by decide) ?_
                exact ihj91 (j91 + 1) v98 v99 v97 x53 x55 x56 x58 H locs ls (by omega) (by omega) hb54 hb57 (by omega) (by omega) (kz_rEn hI0_j91 h90 h92) (hP.sub [0, 7, 9, 10, 11, 12, 13, 14, 15, 16, 17, 18, 1, 2, 3, 4, 5, 6, 8] rfl) (hD.sub [0, 7, 9, 10, 11, 12, 13, 14, 15, 16, 17, 18, 1, 2, 3, 4, 5, 6, 8] (by decide) rfl) hS (lv_sub hl [0, 1, 2] rfl)
              · skip
                refine lv_aload_n hx hb dX10_read_92 rfl (lv_at hl 2 rfl) ?_
                refine va_get (D := D) (ci := 10) (v := .ref nw) (C := RX10) (T := TX10) (N := 12) hx hb hts iw10 hown hK hP 0 rfl rfl 1 (by decide) fw2 (fun _ h9 => h9) rfl dX10_read_93 ?_
                refine lv_aload_n hx hb dX10_read_96 rfl (lv_at hl 2 rfl) ?_
                refine va_get (D := D) (ci := 10) (v := .ref tx) (C := RX10) (T := TX10) (N := 12) hx hb hts iw10 hown hK hP 0 rfl rfl 4 (by decide) fw1 (fun _ h9 => h9) rfl dX10_read_97 ?_
                refine va_get (D := D) (ci := 7) (v := .ref fs) (C := RX7) (T := TX7) (N := 12) hx hb hts iw7 hown hK hP 12 rfl rfl 7 (by decide) fw3 (fun _ h9 => h9) rfl dX10_read_100 ?_
                refine lv_iload_n hx hb dX10_read_103 rfl (lv_at hl 0 rfl) ?_
                refine va_iald hx hb hK hP 15 0 rfl rfl (vp_in_nI (by omega) (by decide)) dX10_read_104 ?_
                rw [nI_clamp (n := j91) (by omega)]
                have hf102 : x55 < 5 := kz_rEb hO9 (by omega) hI0_j91 h93
                obtain ⟨z100, hz103, e101⟩ := kz_fs hO9.1 (by omega) (Or.inr h93)
                rw [e101]
                have hs104 : kw_Split [(g, .inr (10, [.ref kk, .ref nw, .ref im, .ref kp, .ref tx, .ref tr, .ref be, .ref sh, .ref sd, .ref rf, .int ab, .int bl])), (nk, .inl (y 0, 6, .inl x56)), (nl, .inl (y 0, 6, .inl x50)), (na, .inl (y 0, 5, .inl x53)), (ns, .inl (y 0, 5, .inl x51)), (kk, .inl (y 5, 6, .inr (.inr (.inr (.inr fq))))), (k0, .inr (5, [])), (k1, .inr (8, [])), (k2, .inr (9, [])), (k3, .inr (6, [])), (k4, .inr (2, [])), (k5, .inr (3, [])), (tx, .inr (7, [.ref bys, .int (nI ln), .int v4, .int (nI v5), .int (nI v6), .int v7, .ref wo, .ref fs, .ref sc, .int v8, .int v9, .int v10])), (bys, .inl (y 1, 150, .inl fby)), (wo, .inl (y 0, 25, .inl v11)), (fs, .inl (y 0, 25, .inl v12)), (sc, .inl (y 0, 25, .inl v13)), (nw, .inr (4, [.ref kk, .ref nk, .ref nd, .ref ne, .ref nm, .ref nn, .int (nI x58), .int (nI x55), .int 0, .int 0, .int 0])), (nd, .inr (1, [.ref nl, .ref na, .ref ns, .int x52, .int (v12 0), .int 0]))] [(nw, .inr (4, [.ref kk, .ref nk, .ref nd, .ref ne, .ref nm, .ref nn, .int (nI x58), .int (nI x55), .int 0, .int 0, .int 0])), (nd, .inr (1, [.ref nl, .ref na, .ref ns, .int x52, .int (v12 0), .int 0])), (na, .inl (y 0, 5, .inl x53)), (ns, .inl (y 0, 5, .inl x51))] [(g, .inr (10, [.ref kk, .ref nw, .ref im, .ref kp, .ref tx, .ref tr, .ref be, .ref sh, .ref sd, .ref rf, .int ab, .int bl])), (nk, .inl (y 0, 6, .inl x56)), (nl, .inl (y 0, 6, .inl x50)), (kk, .inl (y 5, 6, .inr (.inr (.inr (.inr fq))))), (k0, .inr (5, [])), (k1, .inr (8, [])), (k2, .inr (9, [])), (k3, .inr (6, [])), (k4, .inr (2, [])), (k5, .inr (3, [])), (tx, .inr (7, [.ref bys, .int (nI ln), .int v4, .int (nI v5), .int (nI v6), .int v7, .ref wo, .ref fs, .ref sc, .int v8, .int v9, .int v10])), (bys, .inl (y 1, 150, .inl fby)), (wo, .inl (y 0, 25, .inl v11)), (fs, .inl (y 0, 25, .inl v12)), (sc, .inl (y 0, 25, .inl v13))] [17, 18, 3, 4] [0, 1, 2, 5, 6, 7, 8, 9, 10, 11, 12, 13, 14, 15, 16] := ⟨rfl, rfl, rfl, rfl, rfl, by decide⟩
                refine kw_go_i hs104 hP hD hS hA (va_runV (As := [.int (nI z100)]) (rest := []) ⟨hx, hb, hml, hown, hts⟩ (gc_addGleaner l D y nw kk nk nd ne nm nn x58 x55 0 0 0 z100 nd nl na ns x52 (v12 0) 0 x53 x51 (by omega) (by omega) (by omega) (by omega) (by omega) hb54 (by omega) (by omega) _) (cwV 1 hts gX10_read_X4_addGleaner rfl rfl rfl (by decide +kernel) ⟨Nat.le_of_ble_eq_true rfl, Nat.le_of_ble_eq_true rfl⟩) (kw_PreV (ci := 4) (q0 := 17) hs104 hP hD hK hN rfl rfl) rfl rfl hl.1 rfl (lv_room (Nat.le_of_ble_eq_true rfl)) dX10_read_105 ⟨Nat.le_of_ble_eq_true rfl, Nat.le_of_ble_eq_true rfl⟩) (fun r105 u106 H locs hq hP hD hS => ?_)
                obtain ⟨h107, rfl⟩ := hq
                have hP : va_P D vwCl [(g, .inr (10, [.ref kk, .ref nw, .ref im, .ref kp, .ref tx, .ref tr, .ref be, .ref sh, .ref sd, .ref rf, .int ab, .int bl])), (nk, .inl (y 0, 6, .inl x56)), (nl, .inl (y 0, 6, .inl x50)), (kk, .inl (y 5, 6, .inr (.inr (.inr (.inr fq))))), (k0, .inr (5, [])), (k1, .inr (8, [])), (k2, .inr (9, [])), (k3, .inr (6, [])), (k4, .inr (2, [])), (k5, .inr (3, [])), (tx, .inr (7, [.ref bys, .int (nI ln), .int v4, .int (nI v5), .int (nI v6), .int v7, .ref wo, .ref fs, .ref sc, .int v8, .int v9, .int v10])), (bys, .inl (y 1, 150, .inl fby)), (wo, .inl (y 0, 25, .inl v11)), (fs, .inl (y 0, 25, .inl v12)), (sc, .inl (y 0, 25, .inl v13)), (nw, .inr (4, [.ref kk, .ref nk, .ref nd, .ref ne, .ref nm, .ref nn, .int (nI x58), .int (nI (x55 + 1)), .int 0, .int (nI 0), .int (nI 0)])), (nd, .inr (1, [.ref nl, .ref na, .ref ns, .int x52, .int (v12 0), .int 0])), (na, .inl (y 0, 5, .inl (upd x53 x55 (nI z100)))), (ns, .inl (y 0, 5, .inl (upd x51 x55 0)))] H := hP
                have hD : va_D A [(g, .inr (10, [.ref kk, .ref nw, .ref im, .ref kp, .ref tx, .ref tr, .ref be, .ref sh, .ref sd, .ref rf, .int ab, .int bl])), (nk, .inl (y 0, 6, .inl x56)), (nl, .inl (y 0, 6, .inl x50)), (kk, .inl (y 5, 6, .inr (.inr (.inr (.inr fq))))), (k0, .inr (5, [])), (k1, .inr (8, [])), (k2, .inr (9, [])), (k3, .inr (6, [])), (k4, .inr (2, [])), (k5, .inr (3, [])), (tx, .inr (7, [.ref bys, .int (nI ln), .int v4, .int (nI v5), .int (nI v6), .int v7, .ref wo, .ref fs, .ref sc, .int v8, .int v9, .int v10])), (bys, .inl (y 1, 150, .inl fby)), (wo, .inl (y 0, 25, .inl v11)), (fs, .inl (y 0, 25, .inl v12)), (sc, .inl (y 0, 25, .inl v13)), (nw, .inr (4, [.ref kk, .ref nk, .ref nd, .ref ne, .ref nm, .ref nn, .int (nI x58), .int (nI (x55 + 1)), .int 0, .int (nI 0), .int (nI 0)])), (nd, .inr (1, [.ref nl, .ref na, .ref ns, .int x52, .int (v12 0), .int 0])), (na, .inl (y 0, 5, .inl (upd x53 x55 (nI z100)))), (ns, .inl (y 0, 5, .inl (upd x51 x55 0)))] := hD
                refine lv_pop hx hb dX10_read_108 rfl ?_
                refine lv_goto (tgt := 136) hx hb dX10_read_109 (by decide) ?_
                refine lv_iinc (v := (nI (j91 + 1))) (lv' := [(2, .int (nI (j91 + 1))), (1, .int (nI m)), (0, .ref g)]) hx hb dX10_read_136 hl (k := 0) rfl (nI_1 j91) (by decide) rfl (fun ls hl => ?_)
                refine lv_goto (tgt := 32) hx hb dX10_read_139 (by decide) ?_
                exact ihj91 (j91 + 1) x50 (upd x51 x55 0) x52 (upd x53 x55 (nI z100)) (x55 + 1) x56 x58 H locs ls (by omega) (by omega) h107 hb57 (by omega) (by omega) (kz_rE2 hI0_j91 h93) (hP.sub [0, 1, 2, 17, 18, 3, 4, 5, 6, 7, 8, 9, 10, 11, 12, 13, 14, 15, 16] rfl) (hD.sub [0, 1, 2, 17, 18, 3, 4, 5, 6, 7, 8, 9, 10, 11, 12, 13, 14, 15, 16] (by decide) rfl) hS (lv_sub hl [0, 1, 2] rfl)
            · skip
              refine lv_aload_n hx hb dX10_read_50 rfl (lv_at hl 2 rfl) ?_
              refine va_get (D := D) (ci := 10) (v := .ref nw) (C := RX10) (T := TX10) (N := 12) hx hb hts iw10 hown hK hP 0 rfl rfl 1 (by decide) fw2 (fun _ h9 => h9) rfl dX10_read_51 ?_
              refine lv_aload_n hx hb dX10_read_54 rfl (lv_at hl 2 rfl) ?_
              refine va_get (D := D) (ci := 10) (v := .ref tx) (C := RX10) (T := TX10) (N := 12) hx hb hts iw10 hown hK hP 0 rfl rfl 4 (by decide) fw1 (fun _ h9 => h9) rfl dX10_read_55 ?_
              refine va_get (D := D) (ci := 7) (v := .ref fs) (C := RX7) (T := TX7) (N := 12) hx hb hts iw7 hown hK hP 12 rfl rfl 7 (by decide) fw3 (fun _ h9 => h9) rfl dX10_read_58 ?_
              refine lv_iload_n hx hb dX10_read_61 rfl (lv_at hl 0 rfl) ?_
              refine va_iald hx hb hK hP 15 0 rfl rfl (vp_in_nI (by omega) (by decide)) dX10_read_62 ?_
              rw [nI_clamp (n := j91) (by omega)]
              refine lv_aload_n hx hb dX10_read_63 rfl (lv_at hl 2 rfl) ?_
              refine va_get (D := D) (ci := 10) (v := .ref tx) (C := RX10) (T := TX10) (N := 12) hx hb hts iw10 hown hK hP 0 rfl rfl 4 (by decide) fw1 (fun _ h9 => h9) rfl dX10_read_64 ?_
              refine va_get (D := D) (ci := 7) (v := .ref sc) (C := RX7) (T := TX7) (N := 12) hx hb hts iw7 hown hK hP 12 rfl rfl 8 (by decide) fw6 (fun _ h9 => h9) rfl dX10_read_67 ?_
              refine lv_iload_n hx hb dX10_read_70 rfl (lv_at hl 0 rfl) ?_
              refine va_iald hx hb hK hP 16 0 rfl rfl (vp_in_nI (by omega) (by decide)) dX10_read_71 ?_
              rw [nI_clamp (n := j91) (by omega)]
              have hf110 : x58 < 6 := kz_rEa hO9 (by omega) hI0_j91 h91
              obtain ⟨z108, hz111, e109⟩ := kz_fs hO9.1 (by omega) (Or.inl h91)
              rw [e109]
              have hs112 : kw_Split [(g, .inr (10, [.ref kk, .ref nw, .ref im, .ref kp, .ref tx, .ref tr, .ref be, .ref sh, .ref sd, .ref rf, .int ab, .int bl])), (nk, .inl (y 0, 6, .inl x56)), (nl, .inl (y 0, 6, .inl x50)), (na, .inl (y 0, 5, .inl x53)), (ns, .inl (y 0, 5, .inl x51)), (kk, .inl (y 5, 6, .inr (.inr (.inr (.inr fq))))), (k0, .inr (5, [])), (k1, .inr (8, [])), (k2, .inr (9, [])), (k3, .inr (6, [])), (k4, .inr (2, [])), (k5, .inr (3, [])), (tx, .inr (7, [.ref bys, .int (nI ln), .int v4, .int (nI v5), .int (nI v6), .int v7, .ref wo, .ref fs, .ref sc, .int v8, .int v9, .int v10])), (bys, .inl (y 1, 150, .inl fby)), (wo, .inl (y 0, 25, .inl v11)), (fs, .inl (y 0, 25, .inl v12)), (sc, .inl (y 0, 25, .inl v13)), (nw, .inr (4, [.ref kk, .ref nk, .ref nd, .ref ne, .ref nm, .ref nn, .int (nI x58), .int (nI x55), .int 0, .int 0, .int 0])), (nd, .inr (1, [.ref nl, .ref na, .ref ns, .int x52, .int (v12 0), .int 0]))] [(nw, .inr (4, [.ref kk, .ref nk, .ref nd, .ref ne, .ref nm, .ref nn, .int (nI x58), .int (nI x55), .int 0, .int 0, .int 0])), (nk, .inl (y 0, 6, .inl x56)), (nd, .inr (1, [.ref nl, .ref na, .ref ns, .int x52, .int (v12 0), .int 0])), (nl, .inl (y 0, 6, .inl x50))] [(g, .inr (10, [.ref kk, .ref nw, .ref im, .ref kp, .ref tx, .ref tr, .ref be, .ref sh, .ref sd, .ref rf, .int ab, .int bl])), (na, .inl (y 0, 5, .inl x53)), (ns, .inl (y 0, 5, .inl x51)), (kk, .inl (y 5, 6, .inr (.inr (.inr (.inr fq))))), (k0, .inr (5, [])), (k1, .inr (8, [])), (k2, .inr (9, [])), (k3, .inr (6, [])), (k4, .inr (2, [])), (k5, .inr (3, [])), (tx, .inr (7, [.ref bys, .int (nI ln), .int v4, .int (nI v5), .int (nI v6), .int v7, .ref wo, .ref fs, .ref sc, .int v8, .int v9, .int v10])), (bys, .inl (y 1, 150, .inl fby)), (wo, .inl (y 0, 25, .inl v11)), (fs, .inl (y 0, 25, .inl v12)), (sc, .inl (y 0, 25, .inl v13))] [17, 1, 18, 2] [0, 3, 4, 5, 6, 7, 8, 9, 10, 11, 12, 13, 14, 15, 16] := ⟨rfl, rfl, rfl, rfl, rfl, by decide⟩
              refine kw_go_i hs112 hP hD hS hA (va_runV (As := [.int (nI z108), .int (v13 j91)]) (rest := []) ⟨hx, hb, hml, hown, hts⟩ (gc_addField l D y nw kk nk nd ne nm nn x58 x55 0 0 0 z108 (v13 j91) nd nl na ns x52 (v12 0) 0 x50 x56 (by omega) (by omega) (by omega) (by omega) (by omega) hb57 (by omega) (by omega) _) (cwV 2 hts gX10_read_X4_addField rfl rfl rfl (by decide +kernel) ⟨Nat.le_of_ble_eq_true rfl, Nat.le_of_ble_eq_true rfl⟩) (kw_PreV (ci := 4) (q0 := 17) hs112 hP hD hK hN rfl rfl) rfl rfl hl.1 rfl (lv_room (Nat.le_of_ble_eq_true rfl)) dX10_read_72 ⟨Nat.le_of_ble_eq_true rfl, Nat.le_of_ble_eq_true rfl⟩) (fun r113 u114 H locs hq hP hD hS => ?_)
              obtain ⟨h115, rfl⟩ := hq
              have hP : va_P D vwCl [(g, .inr (10, [.ref kk, .ref nw, .ref im, .ref kp, .ref tx, .ref tr, .ref be, .ref sh, .ref sd, .ref rf, .int ab, .int bl])), (na, .inl (y 0, 5, .inl x53)), (ns, .inl (y 0, 5, .inl x51)), (kk, .inl (y 5, 6, .inr (.inr (.inr (.inr fq))))), (k0, .inr (5, [])), (k1, .inr (8, [])), (k2, .inr (9, [])), (k3, .inr (6, [])), (k4, .inr (2, [])), (k5, .inr (3, [])), (tx, .inr (7, [.ref bys, .int (nI ln), .int v4, .int (nI v5), .int (nI v6), .int v7, .ref wo, .ref fs, .ref sc, .int v8, .int v9, .int v10])), (bys, .inl (y 1, 150, .inl fby)), (wo, .inl (y 0, 25, .inl v11)), (fs, .inl (y 0, 25, .inl v12)), (sc, .inl (y 0, 25, .inl v13)), (nw, .inr (4, [.ref kk, .ref nk, .ref nd, .ref ne, .ref nm, .ref nn, .int (nI (x58 + 1)), .int (nI x55), .int 0, .int (nI 0), .int (nI 0)])), (nk, .inl (y 0, 6, .inl (upd x56 x58 (nI z108)))), (nd, .inr (1, [.ref nl, .ref na, .ref ns, .int x52, .int (v12 0), .int 0])), (nl, .inl (y 0, 6, .inl (upd x50 x58 (v13 j91))))] H := hP
              have hD : va_D A [(g, .inr (10, [.ref kk, .ref nw, .ref im, .ref kp, .ref tx, .ref tr, .ref be, .ref sh, .ref sd, .ref rf, .int ab, .int bl])), (na, .inl (y 0, 5, .inl x53)), (ns, .inl (y 0, 5, .inl x51)), (kk, .inl (y 5, 6, .inr (.inr (.inr (.inr fq))))), (k0, .inr (5, [])), (k1, .inr (8, [])), (k2, .inr (9, [])), (k3, .inr (6, [])), (k4, .inr (2, [])), (k5, .inr (3, [])), (tx, .inr (7, [.ref bys, .int (nI ln), .int v4, .int (nI v5), .int (nI v6), .int v7, .ref wo, .ref fs, .ref sc, .int v8, .int v9, .int v10])), (bys, .inl (y 1, 150, .inl fby)), (wo, .inl (y 0, 25, .inl v11)), (fs, .inl (y 0, 25, .inl v12)), (sc, .inl (y 0, 25, .inl v13)), (nw, .inr (4, [.ref kk, .ref nk, .ref nd, .ref ne, .ref nm, .ref nn, .int (nI (x58 + 1)), .int (nI x55), .int 0, .int (nI 0), .int (nI 0)])), (nk, .inl (y 0, 6, .inl (upd x56 x58 (nI z108)))), (nd, .inr (1, [.ref nl, .ref na, .ref ns, .int x52, .int (v12 0), .int 0])), (nl, .inl (y 0, 6, .inl (upd x50 x58 (v13 j91))))] := hD
              refine lv_pop hx hb dX10_read_75 rfl ?_
              refine lv_goto (tgt := 136) hx hb dX10_read_76 (by decide) ?_
              refine lv_iinc (v := (nI (j91 + 1))) (lv' := [(2, .int (nI (j91 + 1))), (1, .int (nI m)), (0, .ref g)]) hx hb dX10_read_136 hl (k := 0) rfl (nI_1 j91) (by decide) rfl (fun ls hl => ?_)
              refine lv_goto (tgt := 32) hx hb dX10_read_139 (by decide) ?_
              exact ihj91 (j91 + 1) (upd x50 x58 (v13 j91)) x51 x52 x53 x55 (upd x56 x58 (nI z108)) (x58 + 1) H locs ls (by omega) (by omega) hb54 h115 (by omega) (by omega) (kz_rE1 hO9 (by omega) hI0_j91 h91 e109) (hP.sub [0, 16, 18, 1, 2, 3, 4, 5, 6, 7, 8, 9, 10, 11, 12, 13, 14, 15, 17] rfl) (hD.sub [0, 16, 18, 1, 2, 3, 4, 5, 6, 7, 8, 9, 10, 11, 12, 13, 14, 15, 17] (by decide) rfl) hS (lv_sub hl [0, 1, 2] rfl)
      exact lp87 (m + 1) 1 nfl nfs 0 nfa 0 fk 0 _ _ _ (by omega) (by omega) hna hk (by omega) (by omega) (kz_rE0 hO9 (by omega)) hP hD hS (lv_sub hl [0, 1, 2] rfl)
    · skip
      have h18 : ¬ 0 ≤ m := fun q9 => h18 ((nI_leI (a := 0) (b := m) (by omega) (by omega)).mpr q9)
      exact absurd h18 (by omega)
