set_option maxHeartbeats 4000000 in
set_option maxRecDepth 100000 in
theorem gs_isWord0 (l : Launch) (D : va_G) (y : Nat → ClassId) (aK : Nat → Nat) (aV : Nat → Nat) (tx : Nat) (bys : Nat) (wo : Nat) (fs : Nat) (sc : Nat) (ln : Nat) (sta : Nat) (en : Nat) (tok : Int32) (num : Int32) (tfi : Int32) (tgl : Int32) (tst : Int32) (fby : Nat → Int32) (hln : ln ≤ 150) (hen : en ≤ ln) (hse : sta ≤ en) : kz_Mi l yX7_isWord wsX7_isWord ({ frames := 5, cells := 0, slots := 0, locals := 145 }) D y [.ref tx, .ref (aK 0)] [(tx, .inr (7, [.ref bys, .int (nI ln), .int tok, .int (nI sta), .int (nI en), .int num, .ref wo, .ref fs, .ref sc, .int tfi, .int tgl, .int tst])), (bys, .inl (y 1, 150, .inl fby))] aK aV (fun (r : Int32) (u : Unit) => (ks_e0 fby sta en = true ∧ r = 1) ∨ (¬ ks_e0 fby sta en = true ∧ r = 0)) (fun _ => [(tx, .inr (7, [.ref bys, .int (nI ln), .int tok, .int (nI sta), .int (nI en), .int num, .ref wo, .ref fs, .ref sc, .int tfi, .int tgl, .int tst])), (bys, .inl (y 1, 150, .inl fby))]) 0 0 := by
  refine kz_Mi.of (cc := cX7_isWord) (maxL := 3) (ret := (some .boolean)) (by decide) rfl ?_
  intro pZ eZ s mZ beZ meZ cZ A hE
  obtain ⟨hx, hb, hr, hml, hts, hown, hlocks, hin, hA, hP, hD, hK, hN, hZ⟩ := hE
  have hS : va_S A s.heap s.heap [] := va_S.rf
  have hl := lv_entry ([.ref tx, .ref (aK 0)]) (n := 3) (Nat.le_of_ble_eq_true rfl)
  rw [lg_entry_eq]
  generalize (lg_sl ([.ref tx, .ref (aK 0)]) ++ List.replicate (3 - (lg_sl ([.ref tx, .ref (aK 0)])).length) Slot.unset).toArray = ls at hl ⊢
  have hl : lv_has ls 3 [(0, .ref tx), (1, .ref (aK 0))] := hl
  have fw1 := hts (.fieldLink RX7 29 "GleanDusk$Text" "end" "I") (List.mem_of_getElem? (i := 1) rfl)
  have fw2 := hts (.fieldLink RX7 51 "GleanDusk$Text" "start" "I") (List.mem_of_getElem? (i := 2) rfl)
  have fw3 := hts (.fieldLink RX7 9 "GleanDusk$Text" "bytes" "[B") (List.mem_of_getElem? (i := 3) rfl)
  have iw7 : ∀ w ∈ wsX70, w ∈ wsX7_isWord := fun _ h => List.mem_cons_of_mem _ (List.mem_append_right _ h)
  refine lv_aload_n hx hb dX7_isWord_0 rfl (lv_at hl 0 rfl) ?_
  refine va_get (D := D) (ci := 7) (v := .int (nI en)) (C := RX7) (T := TX7) (N := 12) hx hb hts iw7 hown hK hP 0 rfl rfl 4 (by decide) fw1 (fun _ h9 => h9) rfl dX7_isWord_1 ?_
  refine lv_aload_n hx hb dX7_isWord_4 rfl (lv_at hl 0 rfl) ?_
  refine va_get (D := D) (ci := 7) (v := .int (nI sta)) (C := RX7) (T := TX7) (N := 12) hx hb hts iw7 hown hK hP 0 rfl rfl 3 (by decide) fw2 (fun _ h9 => h9) rfl dX7_isWord_5 ?_
  refine lv_isub hx hb dX7_isWord_8 ?_
  rw [show (nI en) - (nI sta) = nI (en - sta) from pk_sub (a := en) (b := sta) (by omega)]
  refine lv_aload_n hx hb dX7_isWord_9 rfl (lv_at hl 1 rfl) ?_
  have hs1 : kw_Split [(tx, .inr (7, [.ref bys, .int (nI ln), .int tok, .int (nI sta), .int (nI en), .int num, .ref wo, .ref fs, .ref sc, .int tfi, .int tgl, .int tst])), (bys, .inl (y 1, 150, .inl fby))] [] [(tx, .inr (7, [.ref bys, .int (nI ln), .int tok, .int (nI sta), .int (nI en), .int num, .ref wo, .ref fs, .ref sc, .int tfi, .int tgl, .int tst])), (bys, .inl (y 1, 150, .inl fby))] [] [0, 1] := ⟨rfl, rfl, rfl, rfl, rfl, by decide⟩
  refine kw_go_i hs1 hP hD hS hA (va_runV (As := []) (rest := [.int (nI (en - sta))]) ⟨hx, hb, hml, hown, hts⟩ (gj_length0 l D y aK aV  _) (cwV 0 hts gX7_isWord_J0_length_8abf5 rfl rfl rfl (by decide +kernel) ⟨Nat.le_of_ble_eq_true rfl, Nat.le_of_ble_eq_true rfl⟩) (kz_PreK (i := 0) hs1 hP hD hK hN (by decide) hZ hS hA) rfl rfl hl.1 rfl (lv_room (Nat.le_of_ble_eq_true rfl)) dX7_isWord_10 ⟨Nat.le_of_ble_eq_true rfl, Nat.le_of_ble_eq_true rfl⟩) (fun r2 u3 H locs hq hP hD hS => ?_)
  obtain rfl := hq
  have hP : va_P D vwCl [(tx, .inr (7, [.ref bys, .int (nI ln), .int tok, .int (nI sta), .int (nI en), .int num, .ref wo, .ref fs, .ref sc, .int tfi, .int tgl, .int tst])), (bys, .inl (y 1, 150, .inl fby))] H := hP
  have hD : va_D A [(tx, .inr (7, [.ref bys, .int (nI ln), .int tok, .int (nI sta), .int (nI en), .int num, .ref wo, .ref fs, .ref sc, .int tfi, .int tgl, .int tst])), (bys, .inl (y 1, 150, .inl fby))] := hD
  refine lv_icmp_eq (tgt := 18) hx hb dX7_isWord_13 (by decide) (fun h4 => ?_) (fun h5 => ?_)
  · skip
    have h4 : (en - sta) = 6 := (nI_eq (a := (en - sta)) (b := 6) (by omega) (by omega)).mp h4
    refine lv_iconst (v := 0) hx hb dX7_isWord_18 (by decide) ?_
    refine lv_istore_n (lv' := [(2, .int 0), (0, .ref tx), (1, .ref (aK 0))]) hx hb dX7_isWord_19 rfl hl (by decide) rfl (fun ls hl => ?_)
    refine lv_iload_n hx hb dX7_isWord_20 rfl (lv_at hl 0 rfl) ?_
    refine lv_aload_n hx hb dX7_isWord_21 rfl (lv_at hl 2 rfl) ?_
    have hs6 : kw_Split [(tx, .inr (7, [.ref bys, .int (nI ln), .int tok, .int (nI sta), .int (nI en), .int num, .ref wo, .ref fs, .ref sc, .int tfi, .int tgl, .int tst])), (bys, .inl (y 1, 150, .inl fby))] [] [(tx, .inr (7, [.ref bys, .int (nI ln), .int tok, .int (nI sta), .int (nI en), .int num, .ref wo, .ref fs, .ref sc, .int tfi, .int tgl, .int tst])), (bys, .inl (y 1, 150, .inl fby))] [] [0, 1] := ⟨rfl, rfl, rfl, rfl, rfl, by decide⟩
    refine kw_go_i hs6 hP hD hS hA (va_runV (As := []) (rest := [.int 0]) ⟨hx, hb, hml, hown, hts⟩ (gj_length0 l D y aK aV  _) (cwV 0 hts gX7_isWord_J0_length_8abf5 rfl rfl rfl (by decide +kernel) ⟨Nat.le_of_ble_eq_true rfl, Nat.le_of_ble_eq_true rfl⟩) (kz_PreK (i := 0) hs6 hP hD hK hN (by decide) hZ hS hA) rfl rfl hl.1 rfl (lv_room (Nat.le_of_ble_eq_true rfl)) dX7_isWord_22 ⟨Nat.le_of_ble_eq_true rfl, Nat.le_of_ble_eq_true rfl⟩) (fun r7 u8 H locs hq hP hD hS => ?_)
    obtain rfl := hq
    have hP : va_P D vwCl [(tx, .inr (7, [.ref bys, .int (nI ln), .int tok, .int (nI sta), .int (nI en), .int num, .ref wo, .ref fs, .ref sc, .int tfi, .int tgl, .int tst])), (bys, .inl (y 1, 150, .inl fby))] H := hP
    have hD : va_D A [(tx, .inr (7, [.ref bys, .int (nI ln), .int tok, .int (nI sta), .int (nI en), .int num, .ref wo, .ref fs, .ref sc, .int tfi, .int tgl, .int tst])), (bys, .inl (y 1, 150, .inl fby))] := hD
    refine lv_icmp_ge (tgt := 55) hx hb dX7_isWord_25 (by decide) (fun h9 => absurd h9 (by decide)) (fun _ => ?_)
    refine lv_aload_n hx hb dX7_isWord_28 rfl (lv_at hl 1 rfl) ?_
    refine va_get (D := D) (ci := 7) (v := .ref bys) (C := RX7) (T := TX7) (N := 12) hx hb hts iw7 hown hK hP 0 rfl rfl 0 (by decide) fw3 (fun _ h9 => h9) rfl dX7_isWord_29 ?_
    refine lv_aload_n hx hb dX7_isWord_32 rfl (lv_at hl 1 rfl) ?_
    refine va_get (D := D) (ci := 7) (v := .int (nI sta)) (C := RX7) (T := TX7) (N := 12) hx hb hts iw7 hown hK hP 0 rfl rfl 3 (by decide) fw2 (fun _ h9 => h9) rfl dX7_isWord_33 ?_
    refine lv_iload_n hx hb dX7_isWord_36 rfl (lv_at hl 0 rfl) ?_
    refine lv_iadd hx hb dX7_isWord_37 ?_
    rw [show (nI sta) + 0 = nI (sta) from nI_add sta 0]
    refine va_bald hx hb hK hP 1 1 rfl rfl (vp_in_nI (by omega) (by decide)) dX7_isWord_38 ?_
    rw [nI_clamp (n := sta) (by omega)]
    refine lv_aload_n hx hb dX7_isWord_39 rfl (lv_at hl 2 rfl) ?_
    refine lv_iload_n hx hb dX7_isWord_40 rfl (lv_at hl 0 rfl) ?_
    have hs9 : kw_Split [(tx, .inr (7, [.ref bys, .int (nI ln), .int tok, .int (nI sta), .int (nI en), .int num, .ref wo, .ref fs, .ref sc, .int tfi, .int tgl, .int tst])), (bys, .inl (y 1, 150, .inl fby))] [] [(tx, .inr (7, [.ref bys, .int (nI ln), .int tok, .int (nI sta), .int (nI en), .int num, .ref wo, .ref fs, .ref sc, .int tfi, .int tgl, .int tst])), (bys, .inl (y 1, 150, .inl fby))] [] [0, 1] := ⟨rfl, rfl, rfl, rfl, rfl, by decide⟩
    refine kw_go_i hs9 hP hD hS hA (va_runV (As := [.int 0]) (rest := [.int (fby sta)]) ⟨hx, hb, hml, hown, hts⟩ (gs_charAt0 l D y aK aV 0 (by omega) _) (cwV 1 hts gX7_isWord_J0_charAt_5068e rfl rfl rfl (by decide +kernel) ⟨Nat.le_of_ble_eq_true rfl, Nat.le_of_ble_eq_true rfl⟩) (kz_PreK (i := 0) hs9 hP hD hK hN (by decide) hZ hS hA) rfl rfl hl.1 rfl (lv_room (Nat.le_of_ble_eq_true rfl)) dX7_isWord_41 ⟨Nat.le_of_ble_eq_true rfl, Nat.le_of_ble_eq_true rfl⟩) (fun r10 u11 H locs hq hP hD hS => ?_)
    obtain rfl := hq
    rw [show kz_w 0 0 = 112 from rfl]
    have hP : va_P D vwCl [(tx, .inr (7, [.ref bys, .int (nI ln), .int tok, .int (nI sta), .int (nI en), .int num, .ref wo, .ref fs, .ref sc, .int tfi, .int tgl, .int tst])), (bys, .inl (y 1, 150, .inl fby))] H := hP
    have hD : va_D A [(tx, .inr (7, [.ref bys, .int (nI ln), .int tok, .int (nI sta), .int (nI en), .int num, .ref wo, .ref fs, .ref sc, .int tfi, .int tgl, .int tst])), (bys, .inl (y 1, 150, .inl fby))] := hD
    refine lv_icmp_eq (tgt := 49) hx hb dX7_isWord_44 (by decide) (fun h12 => ?_) (fun h13 => ?_)
    · skip
      refine lv_iinc (v := 1) (lv' := [(2, .int 1), (0, .ref tx), (1, .ref (aK 0))]) hx hb dX7_isWord_49 hl (k := 0) rfl (by decide) (by decide) rfl (fun ls hl => ?_)
      refine lv_goto (tgt := 20) hx hb dX7_isWord_52 (by decide) ?_
      refine lv_iload_n hx hb dX7_isWord_20 rfl (lv_at hl 0 rfl) ?_
      refine lv_aload_n hx hb dX7_isWord_21 rfl (lv_at hl 2 rfl) ?_
      have hs14 : kw_Split [(tx, .inr (7, [.ref bys, .int (nI ln), .int tok, .int (nI sta), .int (nI en), .int num, .ref wo, .ref fs, .ref sc, .int tfi, .int tgl, .int tst])), (bys, .inl (y 1, 150, .inl fby))] [] [(tx, .inr (7, [.ref bys, .int (nI ln), .int tok, .int (nI sta), .int (nI en), .int num, .ref wo, .ref fs, .ref sc, .int tfi, .int tgl, .int tst])), (bys, .inl (y 1, 150, .inl fby))] [] [0, 1] := ⟨rfl, rfl, rfl, rfl, rfl, by decide⟩
      refine kw_go_i hs14 hP hD hS hA (va_runV (As := []) (rest := [.int 1]) ⟨hx, hb, hml, hown, hts⟩ (gj_length0 l D y aK aV  _) (cwV 0 hts gX7_isWord_J0_length_8abf5 rfl rfl rfl (by decide +kernel) ⟨Nat.le_of_ble_eq_true rfl, Nat.le_of_ble_eq_true rfl⟩) (kz_PreK (i := 0) hs14 hP hD hK hN (by decide) hZ hS hA) rfl rfl hl.1 rfl (lv_room (Nat.le_of_ble_eq_true rfl)) dX7_isWord_22 ⟨Nat.le_of_ble_eq_true rfl, Nat.le_of_ble_eq_true rfl⟩) (fun r15 u16 H locs hq hP hD hS => ?_)
      obtain rfl := hq
      have hP : va_P D vwCl [(tx, .inr (7, [.ref bys, .int (nI ln), .int tok, .int (nI sta), .int (nI en), .int num, .ref wo, .ref fs, .ref sc, .int tfi, .int tgl, .int tst])), (bys, .inl (y 1, 150, .inl fby))] H := hP
      have hD : va_D A [(tx, .inr (7, [.ref bys, .int (nI ln), .int tok, .int (nI sta), .int (nI en), .int num, .ref wo, .ref fs, .ref sc, .int tfi, .int tgl, .int tst])), (bys, .inl (y 1, 150, .inl fby))] := hD
      refine lv_icmp_ge (tgt := 55) hx hb dX7_isWord_25 (by decide) (fun h9 => absurd h9 (by decide)) (fun _ => ?_)
      refine lv_aload_n hx hb dX7_isWord_28 rfl (lv_at hl 1 rfl) ?_
      refine va_get (D := D) (ci := 7) (v := .ref bys) (C := RX7) (T := TX7) (N := 12) hx hb hts iw7 hown hK hP 0 rfl rfl 0 (by decide) fw3 (fun _ h9 => h9) rfl dX7_isWord_29 ?_
      refine lv_aload_n hx hb dX7_isWord_32 rfl (lv_at hl 1 rfl) ?_
      refine va_get (D := D) (ci := 7) (v := .int (nI sta)) (C := RX7) (T := TX7) (N := 12) hx hb hts iw7 hown hK hP 0 rfl rfl 3 (by decide) fw2 (fun _ h9 => h9) rfl dX7_isWord_33 ?_
      refine lv_iload_n hx hb dX7_isWord_36 rfl (lv_at hl 0 rfl) ?_
      refine lv_iadd hx hb dX7_isWord_37 ?_
      rw [show (nI sta) + 1 = nI (sta + 1) from nI_add sta 1]
      refine va_bald hx hb hK hP 1 1 rfl rfl (vp_in_nI (by omega) (by decide)) dX7_isWord_38 ?_
      rw [nI_clamp (n := (sta + 1)) (by omega)]
      refine lv_aload_n hx hb dX7_isWord_39 rfl (lv_at hl 2 rfl) ?_
      refine lv_iload_n hx hb dX7_isWord_40 rfl (lv_at hl 0 rfl) ?_
      have hs17 : kw_Split [(tx, .inr (7, [.ref bys, .int (nI ln), .int tok, .int (nI sta), .int (nI en), .int num, .ref wo, .ref fs, .ref sc, .int tfi, .int tgl, .int tst])), (bys, .inl (y 1, 150, .inl fby))] [] [(tx, .inr (7, [.ref bys, .int (nI ln), .int tok, .int (nI sta), .int (nI en), .int num, .ref wo, .ref fs, .ref sc, .int tfi, .int tgl, .int tst])), (bys, .inl (y 1, 150, .inl fby))] [] [0, 1] := ⟨rfl, rfl, rfl, rfl, rfl, by decide⟩
      refine kw_go_i hs17 hP hD hS hA (va_runV (As := [.int 1]) (rest := [.int (fby (sta + 1))]) ⟨hx, hb, hml, hown, hts⟩ (gs_charAt0 l D y aK aV 1 (by omega) _) (cwV 1 hts gX7_isWord_J0_charAt_5068e rfl rfl rfl (by decide +kernel) ⟨Nat.le_of_ble_eq_true rfl, Nat.le_of_ble_eq_true rfl⟩) (kz_PreK (i := 0) hs17 hP hD hK hN (by decide) hZ hS hA) rfl rfl hl.1 rfl (lv_room (Nat.le_of_ble_eq_true rfl)) dX7_isWord_41 ⟨Nat.le_of_ble_eq_true rfl, Nat.le_of_ble_eq_true rfl⟩) (fun r18 u19 H locs hq hP hD hS => ?_)
      obtain rfl := hq
      rw [show kz_w 0 1 = 97 from rfl]
      have hP : va_P D vwCl [(tx, .inr (7, [.ref bys, .int (nI ln), .int tok, .int (nI sta), .int (nI en), .int num, .ref wo, .ref fs, .ref sc, .int tfi, .int tgl, .int tst])), (bys, .inl (y 1, 150, .inl fby))] H := hP
      have hD : va_D A [(tx, .inr (7, [.ref bys, .int (nI ln), .int tok, .int (nI sta), .int (nI en), .int num, .ref wo, .ref fs, .ref sc, .int tfi, .int tgl, .int tst])), (bys, .inl (y 1, 150, .inl fby))] := hD
      refine lv_icmp_eq (tgt := 49) hx hb dX7_isWord_44 (by decide) (fun h20 => ?_) (fun h21 => ?_)
      · skip
        refine lv_iinc (v := 2) (lv' := [(2, .int 2), (0, .ref tx), (1, .ref (aK 0))]) hx hb dX7_isWord_49 hl (k := 0) rfl (by decide) (by decide) rfl (fun ls hl => ?_)
        refine lv_goto (tgt := 20) hx hb dX7_isWord_52 (by decide) ?_
        refine lv_iload_n hx hb dX7_isWord_20 rfl (lv_at hl 0 rfl) ?_
        refine lv_aload_n hx hb dX7_isWord_21 rfl (lv_at hl 2 rfl) ?_
        have hs22 : kw_Split [(tx, .inr (7, [.ref bys, .int (nI ln), .int tok, .int (nI sta), .int (nI en), .int num, .ref wo, .ref fs, .ref sc, .int tfi, .int tgl, .int tst])), (bys, .inl (y 1, 150, .inl fby))] [] [(tx, .inr (7, [.ref bys, .int (nI ln), .int tok, .int (nI sta), .int (nI en), .int num, .ref wo, .ref fs, .ref sc, .int tfi, .int tgl, .int tst])), (bys, .inl (y 1, 150, .inl fby))] [] [0, 1] := ⟨rfl, rfl, rfl, rfl, rfl, by decide⟩
        refine kw_go_i hs22 hP hD hS hA (va_runV (As := []) (rest := [.int 2]) ⟨hx, hb, hml, hown, hts⟩ (gj_length0 l D y aK aV  _) (cwV 0 hts gX7_isWord_J0_length_8abf5 rfl rfl rfl (by decide +kernel) ⟨Nat.le_of_ble_eq_true rfl, Nat.le_of_ble_eq_true rfl⟩) (kz_PreK (i := 0) hs22 hP hD hK hN (by decide) hZ hS hA) rfl rfl hl.1 rfl (lv_room (Nat.le_of_ble_eq_true rfl)) dX7_isWord_22 ⟨Nat.le_of_ble_eq_true rfl, Nat.le_of_ble_eq_true rfl⟩) (fun r23 u24 H locs hq hP hD hS => ?_)
        obtain rfl := hq
        have hP : va_P D vwCl [(tx, .inr (7, [.ref bys, .int (nI ln), .int tok, .int (nI sta), .int (nI en), .int num, .ref wo, .ref fs, .ref sc, .int tfi, .int tgl, .int tst])), (bys, .inl (y 1, 150, .inl fby))] H := hP
        have hD : va_D A [(tx, .inr (7, [.ref bys, .int (nI ln), .int tok, .int (nI sta), .int (nI en), .int num, .ref wo, .ref fs, .ref sc, .int tfi, .int tgl, .int tst])), (bys, .inl (y 1, 150, .inl fby))] := hD
        refine lv_icmp_ge (tgt := 55) hx hb dX7_isWord_25 (by decide) (fun h9 => absurd h9 (by decide)) (fun _ => ?_)
        refine lv_aload_n hx hb dX7_isWord_28 rfl (lv_at hl 1 rfl) ?_
        refine va_get (D := D) (ci := 7) (v := .ref bys) (C := RX7) (T := TX7) (N := 12) hx hb hts iw7 hown hK hP 0 rfl rfl 0 (by decide) fw3 (fun _ h9 => h9) rfl dX7_isWord_29 ?_
        refine lv_aload_n hx hb dX7_isWord_32 rfl (lv_at hl 1 rfl) ?_
        refine va_get (D := D) (ci := 7) (v := .int (nI sta)) (C := RX7) (T := TX7) (N := 12) hx hb hts iw7 hown hK hP 0 rfl rfl 3 (by decide) fw2 (fun _ h9 => h9) rfl dX7_isWord_33 ?_
        refine lv_iload_n hx hb dX7_isWord_36 rfl (lv_at hl 0 rfl) ?_
        refine lv_iadd hx hb dX7_isWord_37 ?_
        rw [show (nI sta) + 2 = nI (sta + 2) from nI_add sta 2]
        refine va_bald hx hb hK hP 1 1 rfl rfl (vp_in_nI (by omega) (by decide)) dX7_isWord_38 ?_
        rw [nI_clamp (n := (sta + 2)) (by omega)]
        refine lv_aload_n hx hb dX7_isWord_39 rfl (lv_at hl 2 rfl) ?_
        refine lv_iload_n hx hb dX7_isWord_40 rfl (lv_at hl 0 rfl) ?_
        have hs25 : kw_Split [(tx, .inr (7, [.ref bys, .int (nI ln), .int tok, .int (nI sta), .int (nI en), .int num, .ref wo, .ref fs, .ref sc, .int tfi, .int tgl, .int tst])), (bys, .inl (y 1, 150, .inl fby))] [] [(tx, .inr (7, [.ref bys, .int (nI ln), .int tok, .int (nI sta), .int (nI en), .int num, .ref wo, .ref fs, .ref sc, .int tfi, .int tgl, .int tst])), (bys, .inl (y 1, 150, .inl fby))] [] [0, 1] := ⟨rfl, rfl, rfl, rfl, rfl, by decide⟩
        refine kw_go_i hs25 hP hD hS hA (va_runV (As := [.int 2]) (rest := [.int (fby (sta + 2))]) ⟨hx, hb, hml, hown, hts⟩ (gs_charAt0 l D y aK aV 2 (by omega) _) (cwV 1 hts gX7_isWord_J0_charAt_5068e rfl rfl rfl (by decide +kernel) ⟨Nat.le_of_ble_eq_true rfl, Nat.le_of_ble_eq_true rfl⟩) (kz_PreK (i := 0) hs25 hP hD hK hN (by decide) hZ hS hA) rfl rfl hl.1 rfl (lv_room (Nat.le_of_ble_eq_true rfl)) dX7_isWord_41 ⟨Nat.le_of_ble_eq_true rfl, Nat.le_of_ble_eq_true rfl⟩) (fun r26 u27 H locs hq hP hD hS => ?_)
        obtain rfl := hq
        rw [show kz_w 0 2 = 114 from rfl]
        have hP : va_P D vwCl [(tx, .inr (7, [.ref bys, .int (nI ln), .int tok, .int (nI sta), .int (nI en), .int num, .ref wo, .ref fs, .ref sc, .int tfi, .int tgl, .int tst])), (bys, .inl (y 1, 150, .inl fby))] H := hP
        have hD : va_D A [(tx, .inr (7, [.ref bys, .int (nI ln), .int tok, .int (nI sta), .int (nI en), .int num, .ref wo, .ref fs, .ref sc, .int tfi, .int tgl, .int tst])), (bys, .inl (y 1, 150, .inl fby))] := hD
        refine lv_icmp_eq (tgt := 49) hx hb dX7_isWord_44 (by decide) (fun h28 => ?_) (fun h29 => ?_)
        · skip
          refine lv_iinc (v := 3) (lv' := [(2, .int 3), (0, .ref tx), (1, .ref (aK 0))]) hx hb dX7_isWord_49 hl (k := 0) rfl (by decide) (by decide) rfl (fun ls hl => ?_)
          refine lv_goto (tgt := 20) hx hb dX7_isWord_52 (by decide) ?_
          refine lv_iload_n hx hb dX7_isWord_20 rfl (lv_at hl 0 rfl) ?_
          refine lv_aload_n hx hb dX7_isWord_21 rfl (lv_at hl 2 rfl) ?_
          have hs30 : kw_Split [(tx, .inr (7, [.ref bys, .int (nI ln), .int tok, .int (nI sta), .int (nI en), .int num, .ref wo, .ref fs, .ref sc, .int tfi, .int tgl, .int tst])), (bys, .inl (y 1, 150, .inl fby))] [] [(tx, .inr (7, [.ref bys, .int (nI ln), .int tok, .int (nI sta), .int (nI en), .int num, .ref wo, .ref fs, .ref sc, .int tfi, .int tgl, .int tst])), (bys, .inl (y 1, 150, .inl fby))] [] [0, 1] := ⟨rfl, rfl, rfl, rfl, rfl, by decide⟩
          refine kw_go_i hs30 hP hD hS hA (va_runV (As := []) (rest := [.int 3]) ⟨hx, hb, hml, hown, hts⟩ (gj_length0 l D y aK aV  _) (cwV 0 hts gX7_isWord_J0_length_8abf5 rfl rfl rfl (by decide +kernel) ⟨Nat.le_of_ble_eq_true rfl, Nat.le_of_ble_eq_true rfl⟩) (kz_PreK (i := 0) hs30 hP hD hK hN (by decide) hZ hS hA) rfl rfl hl.1 rfl (lv_room (Nat.le_of_ble_eq_true rfl)) dX7_isWord_22 ⟨Nat.le_of_ble_eq_true rfl, Nat.le_of_ble_eq_true rfl⟩) (fun r31 u32 H locs hq hP hD hS => ?_)
          obtain rfl := hq
          have hP : va_P D vwCl [(tx, .inr (7, [.ref bys, .int (nI ln), .int tok, .int (nI sta), .int (nI en), .int num, .ref wo, .ref fs, .ref sc, .int tfi, .int tgl, .int tst])), (bys, .inl (y 1, 150, .inl fby))] H := hP
          have hD : va_D A [(tx, .inr (7, [.ref bys, .int (nI ln), .int tok, .int (nI sta), .int (nI en), .int num, .ref wo, .ref fs, .ref sc, .int tfi, .int tgl, .int tst])), (bys, .inl (y 1, 150, .inl fby))] := hD
          refine lv_icmp_ge (tgt := 55) hx hb dX7_isWord_25 (by decide) (fun h9 => absurd h9 (by decide)) (fun _ => ?_)
          refine lv_aload_n hx hb dX7_isWord_28 rfl (lv_at hl 1 rfl) ?_
          refine va_get (D := D) (ci := 7) (v := .ref bys) (C := RX7) (T := TX7) (N := 12) hx hb hts iw7 hown hK hP 0 rfl rfl 0 (by decide) fw3 (fun _ h9 => h9) rfl dX7_isWord_29 ?_
          refine lv_aload_n hx hb dX7_isWord_32 rfl (lv_at hl 1 rfl) ?_
          refine va_get (D := D) (ci := 7) (v := .int (nI sta)) (C := RX7) (T := TX7) (N := 12) hx hb hts iw7 hown hK hP 0 rfl rfl 3 (by decide) fw2 (fun _ h9 => h9) rfl dX7_isWord_33 ?_
          refine lv_iload_n hx hb dX7_isWord_36 rfl (lv_at hl 0 rfl) ?_
          refine lv_iadd hx hb dX7_isWord_37 ?_
          rw [show (nI sta) + 3 = nI (sta + 3) from nI_add sta 3]
          refine va_bald hx hb hK hP 1 1 rfl rfl (vp_in_nI (by omega) (by decide)) dX7_isWord_38 ?_
          rw [nI_clamp (n := (sta + 3)) (by omega)]
          refine lv_aload_n hx hb dX7_isWord_39 rfl (lv_at hl 2 rfl) ?_
          refine lv_iload_n hx hb dX7_isWord_40 rfl (lv_at hl 0 rfl) ?_
          have hs33 : kw_Split [(tx, .inr (7, [.ref bys, .int (nI ln), .int tok, .int (nI sta), .int (nI en), .int num, .ref wo, .ref fs, .ref sc, .int tfi, .int tgl, .int tst])), (bys, .inl (y 1, 150, .inl fby))] [] [(tx, .inr (7, [.ref bys, .int (nI ln), .int tok, .int (nI sta), .int (nI en), .int num, .ref wo, .ref fs, .ref sc, .int tfi, .int tgl, .int tst])), (bys, .inl (y 1, 150, .inl fby))] [] [0, 1] := ⟨rfl, rfl, rfl, rfl, rfl, by decide⟩
          refine kw_go_i hs33 hP hD hS hA (va_runV (As := [.int 3]) (rest := [.int (fby (sta + 3))]) ⟨hx, hb, hml, hown, hts⟩ (gs_charAt0 l D y aK aV 3 (by omega) _) (cwV 1 hts gX7_isWord_J0_charAt_5068e rfl rfl rfl (by decide +kernel) ⟨Nat.le_of_ble_eq_true rfl, Nat.le_of_ble_eq_true rfl⟩) (kz_PreK (i := 0) hs33 hP hD hK hN (by decide) hZ hS hA) rfl rfl hl.1 rfl (lv_room (Nat.le_of_ble_eq_true rfl)) dX7_isWord_41 ⟨Nat.le_of_ble_eq_true rfl, Nat.le_of_ble_eq_true rfl⟩) (fun r34 u35 H locs hq hP hD hS => ?_)
          obtain rfl := hq
          rw [show kz_w 0 3 = 105 from rfl]
          have hP : va_P D vwCl [(tx, .inr (7, [.ref bys, .int (nI ln), .int tok, .int (nI sta), .int (nI en), .int num, .ref wo, .ref fs, .ref sc, .int tfi, .int tgl, .int tst])), (bys, .inl (y 1, 150, .inl fby))] H := hP
          have hD : va_D A [(tx, .inr (7, [.ref bys, .int (nI ln), .int tok, .int (nI sta), .int (nI en), .int num, .ref wo, .ref fs, .ref sc, .int tfi, .int tgl, .int tst])), (bys, .inl (y 1, 150, .inl fby))] := hD
          refine lv_icmp_eq (tgt := 49) hx hb dX7_isWord_44 (by decide) (fun h36 => ?_) (fun h37 => ?_)
          · skip
            refine lv_iinc (v := 4) (lv' := [(2, .int 4), (0, .ref tx), (1, .ref (aK 0))]) hx hb dX7_isWord_49 hl (k := 0) rfl (by decide) (by decide) rfl (fun ls hl => ?_)
            refine lv_goto (tgt := 20) hx hb dX7_isWord_52 (by decide) ?_
            refine lv_iload_n hx hb dX7_isWord_20 rfl (lv_at hl 0 rfl) ?_
            refine lv_aload_n hx hb dX7_isWord_21 rfl (lv_at hl 2 rfl) ?_
            have hs38 : kw_Split [(tx, .inr (7, [.ref bys, .int (nI ln), .int tok, .int (nI sta), .int (nI en), .int num, .ref wo, .ref fs, .ref sc, .int tfi, .int tgl, .int tst])), (bys, .inl (y 1, 150, .inl fby))] [] [(tx, .inr (7, [.ref bys, .int (nI ln), .int tok, .int (nI sta), .int (nI en), .int num, .ref wo, .ref fs, .ref sc, .int tfi, .int tgl, .int tst])), (bys, .inl (y 1, 150, .inl fby))] [] [0, 1] := ⟨rfl, rfl, rfl, rfl, rfl, by decide⟩
            refine kw_go_i hs38 hP hD hS hA (va_runV (As := []) (rest := [.int 4]) ⟨hx, hb, hml, hown, hts⟩ (gj_length0 l D y aK aV  _) (cwV 0 hts gX7_isWord_J0_length_8abf5 rfl rfl rfl (by decide +kernel) ⟨Nat.le_of_ble_eq_true rfl, Nat.le_of_ble_eq_true rfl⟩) (kz_PreK (i := 0) hs38 hP hD hK hN (by decide) hZ hS hA) rfl rfl hl.1 rfl (lv_room (Nat.le_of_ble_eq_true rfl)) dX7_isWord_22 ⟨Nat.le_of_ble_eq_true rfl, Nat.le_of_ble_eq_true rfl⟩) (fun r39 u40 H locs hq hP hD hS => ?_)
            obtain rfl := hq
            have hP : va_P D vwCl [(tx, .inr (7, [.ref bys, .int (nI ln), .int tok, .int (nI sta), .int (nI en), .int num, .ref wo, .ref fs, .ref sc, .int tfi, .int tgl, .int tst])), (bys, .inl (y 1, 150, .inl fby))] H := hP
            have hD : va_D A [(tx, .inr (7, [.ref bys, .int (nI ln), .int tok, .int (nI sta), .int (nI en), .int num, .ref wo, .ref fs, .ref sc, .int tfi, .int tgl, .int tst])), (bys, .inl (y 1, 150, .inl fby))] := hD
            refine lv_icmp_ge (tgt := 55) hx hb dX7_isWord_25 (by decide) (fun h9 => absurd h9 (by decide)) (fun _ => ?_)
            refine lv_aload_n hx hb dX7_isWord_28 rfl (lv_at hl 1 rfl) ?_
            refine va_get (D := D) (ci := 7) (v := .ref bys) (C := RX7) (T := TX7) (N := 12) hx hb hts iw7 hown hK hP 0 rfl rfl 0 (by decide) fw3 (fun _ h9 => h9) rfl dX7_isWord_29 ?_
            refine lv_aload_n hx hb dX7_isWord_32 rfl (lv_at hl 1 rfl) ?_
            refine va_get (D := D) (ci := 7) (v := .int (nI sta)) (C := RX7) (T := TX7) (N := 12) hx hb hts iw7 hown hK hP 0 rfl rfl 3 (by decide) fw2 (fun _ h9 => h9) rfl dX7_isWord_33 ?_
            refine lv_iload_n hx hb dX7_isWord_36 rfl (lv_at hl 0 rfl) ?_
            refine lv_iadd hx hb dX7_isWord_37 ?_
            rw [show (nI sta) + 4 = nI (sta + 4) from nI_add sta 4]
            refine va_bald hx hb hK hP 1 1 rfl rfl (vp_in_nI (by omega) (by decide)) dX7_isWord_38 ?_
            rw [nI_clamp (n := (sta + 4)) (by omega)]
            refine lv_aload_n hx hb dX7_isWord_39 rfl (lv_at hl 2 rfl) ?_
            refine lv_iload_n hx hb dX7_isWord_40 rfl (lv_at hl 0 rfl) ?_
            have hs41 : kw_Split [(tx, .inr (7, [.ref bys, .int (nI ln), .int tok, .int (nI sta), .int (nI en), .int num, .ref wo, .ref fs, .ref sc, .int tfi, .int tgl, .int tst])), (bys, .inl (y 1, 150, .inl fby))] [] [(tx, .inr (7, [.ref bys, .int (nI ln), .int tok, .int (nI sta), .int (nI en), .int num, .ref wo, .ref fs, .ref sc, .int tfi, .int tgl, .int tst])), (bys, .inl (y 1, 150, .inl fby))] [] [0, 1] := ⟨rfl, rfl, rfl, rfl, rfl, by decide⟩
            refine kw_go_i hs41 hP hD hS hA (va_runV (As := [.int 4]) (rest := [.int (fby (sta + 4))]) ⟨hx, hb, hml, hown, hts⟩ (gs_charAt0 l D y aK aV 4 (by omega) _) (cwV 1 hts gX7_isWord_J0_charAt_5068e rfl rfl rfl (by decide +kernel) ⟨Nat.le_of_ble_eq_true rfl, Nat.le_of_ble_eq_true rfl⟩) (kz_PreK (i := 0) hs41 hP hD hK hN (by decide) hZ hS hA) rfl rfl hl.1 rfl (lv_room (Nat.le_of_ble_eq_true rfl)) dX7_isWord_41 ⟨Nat.le_of_ble_eq_true rfl, Nat.le_of_ble_eq_true rfl⟩) (fun r42 u43 H locs hq hP hD hS => ?_)
            obtain rfl := hq
            rw [show kz_w 0 4 = 115 from rfl]
            have hP : va_P D vwCl [(tx, .inr (7, [.ref bys, .int (nI ln), .int tok, .int (nI sta), .int (nI en), .int num, .ref wo, .ref fs, .ref sc, .int tfi, .int tgl, .int tst])), (bys, .inl (y 1, 150, .inl fby))] H := hP
            have hD : va_D A [(tx, .inr (7, [.ref bys, .int (nI ln), .int tok, .int (nI sta), .int (nI en), .int num, .ref wo, .ref fs, .ref sc, .int tfi, .int tgl, .int tst])), (bys, .inl (y 1, 150, .inl fby))] := hD
            refine lv_icmp_eq (tgt := 49) hx hb dX7_isWord_44 (by decide) (fun h44 => ?_) (fun h45 => ?_)
            · skip
              refine lv_iinc (v := 5) (lv' := [(2, .int 5), (0, .ref tx), (1, .ref (aK 0))]) hx hb dX7_isWord_49 hl (k := 0) rfl (by decide) (by decide) rfl (fun ls hl => ?_)
              refine lv_goto (tgt := 20) hx hb dX7_isWord_52 (by decide) ?_
              refine lv_iload_n hx hb dX7_isWord_20 rfl (lv_at hl 0 rfl) ?_
              refine lv_aload_n hx hb dX7_isWord_21 rfl (lv_at hl 2 rfl) ?_
              have hs46 : kw_Split [(tx, .inr (7, [.ref bys, .int (nI ln), .int tok, .int (nI sta), .int (nI en), .int num, .ref wo, .ref fs, .ref sc, .int tfi, .int tgl, .int tst])), (bys, .inl (y 1, 150, .inl fby))] [] [(tx, .inr (7, [.ref bys, .int (nI ln), .int tok, .int (nI sta), .int (nI en), .int num, .ref wo, .ref fs, .ref sc, .int tfi, .int tgl, .int tst])), (bys, .inl (y 1, 150, .inl fby))] [] [0, 1] := ⟨rfl, rfl, rfl, rfl, rfl, by decide⟩
              refine kw_go_i hs46 hP hD hS hA (va_runV (As := []) (rest := [.int 5]) ⟨hx, hb, hml, hown, hts⟩ (gj_length0 l D y aK aV  _) (cwV 0 hts gX7_isWord_J0_length_8abf5 rfl rfl rfl (by decide +kernel) ⟨Nat.le_of_ble_eq_true rfl, Nat.le_of_ble_eq_true rfl⟩) (kz_PreK (i := 0) hs46 hP hD hK hN (by decide) hZ hS hA) rfl rfl hl.1 rfl (lv_room (Nat.le_of_ble_eq_true rfl)) dX7_isWord_22 ⟨Nat.le_of_ble_eq_true rfl, Nat.le_of_ble_eq_true rfl⟩) (fun r47 u48 H locs hq hP hD hS => ?_)
              obtain rfl := hq
              have hP : va_P D vwCl [(tx, .inr (7, [.ref bys, .int (nI ln), .int tok, .int (nI sta), .int (nI en), .int num, .ref wo, .ref fs, .ref sc, .int tfi, .int tgl, .int tst])), (bys, .inl (y 1, 150, .inl fby))] H := hP
              have hD : va_D A [(tx, .inr (7, [.ref bys, .int (nI ln), .int tok, .int (nI sta), .int (nI en), .int num, .ref wo, .ref fs, .ref sc, .int tfi, .int tgl, .int tst])), (bys, .inl (y 1, 150, .inl fby))] := hD
              refine lv_icmp_ge (tgt := 55) hx hb dX7_isWord_25 (by decide) (fun h9 => absurd h9 (by decide)) (fun _ => ?_)
              refine lv_aload_n hx hb dX7_isWord_28 rfl (lv_at hl 1 rfl) ?_
              refine va_get (D := D) (ci := 7) (v := .ref bys) (C := RX7) (T := TX7) (N := 12) hx hb hts iw7 hown hK hP 0 rfl rfl 0 (by decide) fw3 (fun _ h9 => h9) rfl dX7_isWord_29 ?_
              refine lv_aload_n hx hb dX7_isWord_32 rfl (lv_at hl 1 rfl) ?_
              refine va_get (D := D) (ci := 7) (v := .int (nI sta)) (C := RX7) (T := TX7) (N := 12) hx hb hts iw7 hown hK hP 0 rfl rfl 3 (by decide) fw2 (fun _ h9 => h9) rfl dX7_isWord_33 ?_
              refine lv_iload_n hx hb dX7_isWord_36 rfl (lv_at hl 0 rfl) ?_
              refine lv_iadd hx hb dX7_isWord_37 ?_
              rw [show (nI sta) + 5 = nI (sta + 5) from nI_add sta 5]
              refine va_bald hx hb hK hP 1 1 rfl rfl (vp_in_nI (by omega) (by decide)) dX7_isWord_38 ?_
              rw [nI_clamp (n := (sta + 5)) (by omega)]
              refine lv_aload_n hx hb dX7_isWord_39 rfl (lv_at hl 2 rfl) ?_
              refine lv_iload_n hx hb dX7_isWord_40 rfl (lv_at hl 0 rfl) ?_
              have hs49 : kw_Split [(tx, .inr (7, [.ref bys, .int (nI ln), .int tok, .int (nI sta), .int (nI en), .int num, .ref wo, .ref fs, .ref sc, .int tfi, .int tgl, .int tst])), (bys, .inl (y 1, 150, .inl fby))] [] [(tx, .inr (7, [.ref bys, .int (nI ln), .int tok, .int (nI sta), .int (nI en), .int num, .ref wo, .ref fs, .ref sc, .int tfi, .int tgl, .int tst])), (bys, .inl (y 1, 150, .inl fby))] [] [0, 1] := ⟨rfl, rfl, rfl, rfl, rfl, by decide⟩
              refine kw_go_i hs49 hP hD hS hA (va_runV (As := [.int 5]) (rest := [.int (fby (sta + 5))]) ⟨hx, hb, hml, hown, hts⟩ (gs_charAt0 l D y aK aV 5 (by omega) _) (cwV 1 hts gX7_isWord_J0_charAt_5068e rfl rfl rfl (by decide +kernel) ⟨Nat.le_of_ble_eq_true rfl, Nat.le_of_ble_eq_true rfl⟩) (kz_PreK (i := 0) hs49 hP hD hK hN (by decide) hZ hS hA) rfl rfl hl.1 rfl (lv_room (Nat.le_of_ble_eq_true rfl)) dX7_isWord_41 ⟨Nat.le_of_ble_eq_true rfl, Nat.le_of_ble_eq_true rfl⟩) (fun r50 u51 H locs hq hP hD hS => ?_)
              obtain rfl := hq
              rw [show kz_w 0 5 = 104 from rfl]
              have hP : va_P D vwCl [(tx, .inr (7, [.ref bys, .int (nI ln), .int tok, .int (nI sta), .int (nI en), .int num, .ref wo, .ref fs, .ref sc, .int tfi, .int tgl, .int tst])), (bys, .inl (y 1, 150, .inl fby))] H := hP
              have hD : va_D A [(tx, .inr (7, [.ref bys, .int (nI ln), .int tok, .int (nI sta), .int (nI en), .int num, .ref wo, .ref fs, .ref sc, .int tfi, .int tgl, .int tst])), (bys, .inl (y 1, 150, .inl fby))] := hD
              refine lv_icmp_eq (tgt := 49) hx hb dX7_isWord_44 (by decide) (fun h52 => ?_) (fun h53 => ?_)
              · skip
                refine lv_iinc (v := 6) (lv' := [(2, .int 6), (0, .ref tx), (1, .ref (aK 0))]) hx hb dX7_isWord_49 hl (k := 0) rfl (by decide) (by decide) rfl (fun ls hl => ?_)
                refine lv_goto (tgt := 20) hx hb dX7_isWord_52 (by decide) ?_
                refine lv_iload_n hx hb dX7_isWord_20 rfl (lv_at hl 0 rfl) ?_
                refine lv_aload_n hx hb dX7_isWord_21 rfl (lv_at hl 2 rfl) ?_
                have hs54 : kw_Split [(tx, .inr (7, [.ref bys, .int (nI ln), .int tok, .int (nI sta), .int (nI en), .int num, .ref wo, .ref fs, .ref sc, .int tfi, .int tgl, .int tst])), (bys, .inl (y 1, 150, .inl fby))] [] [(tx, .inr (7, [.ref bys, .int (nI ln), .int tok, .int (nI sta), .int (nI en), .int num, .ref wo, .ref fs, .ref sc, .int tfi, .int tgl, .int tst])), (bys, .inl (y 1, 150, .inl fby))] [] [0, 1] := ⟨rfl, rfl, rfl, rfl, rfl, by decide⟩
                refine kw_go_i hs54 hP hD hS hA (va_runV (As := []) (rest := [.int 6]) ⟨hx, hb, hml, hown, hts⟩ (gj_length0 l D y aK aV  _) (cwV 0 hts gX7_isWord_J0_length_8abf5 rfl rfl rfl (by decide +kernel) ⟨Nat.le_of_ble_eq_true rfl, Nat.le_of_ble_eq_true rfl⟩) (kz_PreK (i := 0) hs54 hP hD hK hN (by decide) hZ hS hA) rfl rfl hl.1 rfl (lv_room (Nat.le_of_ble_eq_true rfl)) dX7_isWord_22 ⟨Nat.le_of_ble_eq_true rfl, Nat.le_of_ble_eq_true rfl⟩) (fun r55 u56 H locs hq hP hD hS => ?_)
                obtain rfl := hq
                have hP : va_P D vwCl [(tx, .inr (7, [.ref bys, .int (nI ln), .int tok, .int (nI sta), .int (nI en), .int num, .ref wo, .ref fs, .ref sc, .int tfi, .int tgl, .int tst])), (bys, .inl (y 1, 150, .inl fby))] H := hP
                have hD : va_D A [(tx, .inr (7, [.ref bys, .int (nI ln), .int tok, .int (nI sta), .int (nI en), .int num, .ref wo, .ref fs, .ref sc, .int tfi, .int tgl, .int tst])), (bys, .inl (y 1, 150, .inl fby))] := hD
                refine lv_icmp_ge (tgt := 55) hx hb dX7_isWord_25 (by decide) (fun _ => ?_) (fun h9 => absurd h9 (by decide))
                refine lv_iconst (v := 1) hx hb dX7_isWord_55 (by decide) ?_
                exact W.zret (v := 1) hx hb hr (by decide) (fun tZ ht hW => ⟨⟨1, (), rfl, Or.inl ⟨decide_eq_true ⟨by omega, h12, h20, h28, h36, h44, h52⟩, rfl⟩, by rw [ht]; exact hP.sub [0, 1] rfl, hD.sub [0, 1] (by decide) rfl⟩, hS.F ht⟩) hS.2.2 dX7_isWord_56
              · skip
                refine lv_iconst (v := 0) hx hb dX7_isWord_47 (by decide) ?_
                exact W.zret (v := 0) hx hb hr (by decide) (fun tZ ht hW => ⟨⟨0, (), rfl, Or.inr (⟨fun q9 => absurd (of_decide_eq_true q9).2.2.2.2.2.2 h53, rfl⟩), by rw [ht]; exact hP.sub [0, 1] rfl, hD.sub [0, 1] (by decide) rfl⟩, hS.F ht⟩) hS.2.2 dX7_isWord_48
            · skip
              refine lv_iconst (v := 0) hx hb dX7_isWord_47 (by decide) ?_
              exact W.zret (v := 0) hx hb hr (by decide) (fun tZ ht hW => ⟨⟨0, (), rfl, Or.inr (⟨fun q9 => absurd (of_decide_eq_true q9).2.2.2.2.2.1 h45, rfl⟩), by rw [ht]; exact hP.sub [0, 1] rfl, hD.sub [0, 1] (by decide) rfl⟩, hS.F ht⟩) hS.2.2 dX7_isWord_48
          · skip
            refine lv_iconst (v := 0) hx hb dX7_isWord_47 (by decide) ?_
            exact W.zret (v := 0) hx hb hr (by decide) (fun tZ ht hW => ⟨⟨0, (), rfl, Or.inr (⟨fun q9 => absurd (of_decide_eq_true q9).2.2.2.2.1 h37, rfl⟩), by rw [ht]; exact hP.sub [0, 1] rfl, hD.sub [0, 1] (by decide) rfl⟩, hS.F ht⟩) hS.2.2 dX7_isWord_48
        · skip
          refine lv_iconst (v := 0) hx hb dX7_isWord_47 (by decide) ?_
          exact W.zret (v := 0) hx hb hr (by decide) (fun tZ ht hW => ⟨⟨0, (), rfl, Or.inr (⟨fun q9 => absurd (of_decide_eq_true q9).2.2.2.1 h29, rfl⟩), by rw [ht]; exact hP.sub [0, 1] rfl, hD.sub [0, 1] (by decide) rfl⟩, hS.F ht⟩) hS.2.2 dX7_isWord_48
      · skip
        refine lv_iconst (v := 0) hx hb dX7_isWord_47 (by decide) ?_
        exact W.zret (v := 0) hx hb hr (by decide) (fun tZ ht hW => ⟨⟨0, (), rfl, Or.inr (⟨fun q9 => absurd (of_decide_eq_true q9).2.2.1 h21, rfl⟩), by rw [ht]; exact hP.sub [0, 1] rfl, hD.sub [0, 1] (by decide) rfl⟩, hS.F ht⟩) hS.2.2 dX7_isWord_48
    · skip
      refine lv_iconst (v := 0) hx hb dX7_isWord_47 (by decide) ?_
      exact W.zret (v := 0) hx hb hr (by decide) (fun tZ ht hW => ⟨⟨0, (), rfl, Or.inr (⟨fun q9 => absurd (of_decide_eq_true q9).2.1 h13, rfl⟩), by rw [ht]; exact hP.sub [0, 1] rfl, hD.sub [0, 1] (by decide) rfl⟩, hS.F ht⟩) hS.2.2 dX7_isWord_48
  · skip
    have h5 : ¬ (en - sta) = 6 := fun q9 => h5 ((nI_eq (a := (en - sta)) (b := 6) (by omega) (by omega)).mpr q9)
    refine lv_iconst (v := 0) hx hb dX7_isWord_16 (by decide) ?_
    exact W.zret (v := 0) hx hb hr (by decide) (fun tZ ht hW => ⟨⟨0, (), rfl, Or.inr (⟨fun q9 => absurd (of_decide_eq_true q9).1 (by omega), rfl⟩), by rw [ht]; exact hP.sub [0, 1] rfl, hD.sub [0, 1] (by decide) rfl⟩, hS.F ht⟩) hS.2.2 dX7_isWord_17

set_option maxHeartbeats 4000000 in
set_option maxRecDepth 100000 in
theorem gs_isWord1 (l : Launch) (D : va_G) (y : Nat → ClassId) (aK : Nat → Nat) (aV : Nat → Nat) (tx : Nat) (bys : Nat) (wo : Nat) (fs : Nat) (sc : Nat) (ln : Nat) (sta : Nat) (en : Nat) (tok : Int32) (num : Int32) (tfi : Int32) (tgl : Int32) (tst : Int32) (fby : Nat → Int32) (hln : ln ≤ 150) (hen : en ≤ ln) (hse : sta ≤ en) : kz_Mi l yX7_isWord wsX7_isWord ({ frames := 5, cells := 0, slots := 0, locals := 145 }) D y [.ref tx, .ref (aK 1)] [(tx, .inr (7, [.ref bys, .int (nI ln), .int tok, .int (nI sta), .int (nI en), .int num, .ref wo, .ref fs, .ref sc, .int tfi, .int tgl, .int tst])), (bys, .inl (y 1, 150, .inl fby))] aK aV (fun (r : Int32) (u : Unit) => (ks_e1 fby sta en = true ∧ r = 1) ∨ (¬ ks_e1 fby sta en = true ∧ r = 0)) (fun _ => [(tx, .inr (7, [.ref bys, .int (nI ln), .int tok, .int (nI sta), .int (nI en), .int num, .ref wo, .ref fs, .ref sc, .int tfi, .int tgl, .int tst])), (bys, .inl (y 1, 150, .inl fby))]) 0 0 := by
  refine kz_Mi.of (cc := cX7_isWord) (maxL := 3) (ret := (some .boolean)) (by decide) rfl ?_
  intro pZ eZ s mZ beZ meZ cZ A hE
  obtain ⟨hx, hb, hr, hml, hts, hown, hlocks, hin, hA, hP, hD, hK, hN, hZ⟩ := hE
  have hS : va_S A s.heap s.heap [] := va_S.rf
  have hl := lv_entry ([.ref tx, .ref (aK 1)]) (n := 3) (Nat.le_of_ble_eq_true rfl)
  rw [lg_entry_eq]
  generalize (lg_sl ([.ref tx, .ref (aK 1)]) ++ List.replicate (3 - (lg_sl ([.ref tx, .ref (aK 1)])).length) Slot.unset).toArray = ls at hl ⊢
  have hl : lv_has ls 3 [(0, .ref tx), (1, .ref (aK 1))] := hl
  have fw1 := hts (.fieldLink RX7 29 "GleanDusk$Text" "end" "I") (List.mem_of_getElem? (i := 1) rfl)
  have fw2 := hts (.fieldLink RX7 51 "GleanDusk$Text" "start" "I") (List.mem_of_getElem? (i := 2) rfl)
  have fw3 := hts (.fieldLink RX7 9 "GleanDusk$Text" "bytes" "[B") (List.mem_of_getElem? (i := 3) rfl)
  have iw7 : ∀ w ∈ wsX70, w ∈ wsX7_isWord := fun _ h => List.mem_cons_of_mem _ (List.mem_append_right _ h)
  refine lv_aload_n hx hb dX7_isWord_0 rfl (lv_at hl 0 rfl) ?_
  refine va_get (D := D) (ci := 7) (v := .int (nI en)) (C := RX7) (T := TX7) (N := 12) hx hb hts iw7 hown hK hP 0 rfl rfl 4 (by decide) fw1 (fun _ h9 => h9) rfl dX7_isWord_1 ?_
  refine lv_aload_n hx hb dX7_isWord_4 rfl (lv_at hl 0 rfl) ?_
  refine va_get (D := D) (ci := 7) (v := .int (nI sta)) (C := RX7) (T := TX7) (N := 12) hx hb hts iw7 hown hK hP 0 rfl rfl 3 (by decide) fw2 (fun _ h9 => h9) rfl dX7_isWord_5 ?_
  refine lv_isub hx hb dX7_isWord_8 ?_
  rw [show (nI en) - (nI sta) = nI (en - sta) from pk_sub (a := en) (b := sta) (by omega)]
  refine lv_aload_n hx hb dX7_isWord_9 rfl (lv_at hl 1 rfl) ?_
  have hs1 : kw_Split [(tx, .inr (7, [.ref bys, .int (nI ln), .int tok, .int (nI sta), .int (nI en), .int num, .ref wo, .ref fs, .ref sc, .int tfi, .int tgl, .int tst])), (bys, .inl (y 1, 150, .inl fby))] [] [(tx, .inr (7, [.ref bys, .int (nI ln), .int tok, .int (nI sta), .int (nI en), .int num, .ref wo, .ref fs, .ref sc, .int tfi, .int tgl, .int tst])), (bys, .inl (y 1, 150, .inl fby))] [] [0, 1] := ⟨rfl, rfl, rfl, rfl, rfl, by decide⟩
  refine kw_go_i hs1 hP hD hS hA (va_runV (As := []) (rest := [.int (nI (en - sta))]) ⟨hx, hb, hml, hown, hts⟩ (gj_length1 l D y aK aV  _) (cwV 0 hts gX7_isWord_J0_length_8abf5 rfl rfl rfl (by decide +kernel) ⟨Nat.le_of_ble_eq_true rfl, Nat.le_of_ble_eq_true rfl⟩) (kz_PreK (i := 1) hs1 hP hD hK hN (by decide) hZ hS hA) rfl rfl hl.1 rfl (lv_room (Nat.le_of_ble_eq_true rfl)) dX7_isWord_10 ⟨Nat.le_of_ble_eq_true rfl, Nat.le_of_ble_eq_true rfl⟩) (fun r2 u3 H locs hq hP hD hS => ?_)
  obtain rfl := hq
  have hP : va_P D vwCl [(tx, .inr (7, [.ref bys, .int (nI ln), .int tok, .int (nI sta), .int (nI en), .int num, .ref wo, .ref fs, .ref sc, .int tfi, .int tgl, .int tst])), (bys, .inl (y 1, 150, .inl fby))] H := hP
  have hD : va_D A [(tx, .inr (7, [.ref bys, .int (nI ln), .int tok, .int (nI sta), .int (nI en), .int num, .ref wo, .ref fs, .ref sc, .int tfi, .int tgl, .int tst])), (bys, .inl (y 1, 150, .inl fby))] := hD
  refine lv_icmp_eq (tgt := 18) hx hb dX7_isWord_13 (by decide) (fun h4 => ?_) (fun h5 => ?_)
  · skip
    have h4 : (en - sta) = 5 := (nI_eq (a := (en - sta)) (b := 5) (by omega) (by omega)).mp h4
    refine lv_iconst (v := 0) hx hb dX7_isWord_18 (by decide) ?_
    refine lv_istore_n (lv' := [(2, .int 0), (0, .ref tx), (1, .ref (aK 1))]) hx hb dX7_isWord_19 rfl hl (by decide) rfl (fun ls hl => ?_)
    refine lv_iload_n hx hb dX7_isWord_20 rfl (lv_at hl 0 rfl) ?_
    refine lv_aload_n hx hb dX7_isWord_21 rfl (lv_at hl 2 rfl) ?_
    have hs6 : kw_Split [(tx, .inr (7, [.ref bys, .int (nI ln), .int tok, .int (nI sta), .int (nI en), .int num, .ref wo, .ref fs, .ref sc, .int tfi, .int tgl, .int tst])), (bys, .inl (y 1, 150, .inl fby))] [] [(tx, .inr (7, [.ref bys, .int (nI ln), .int tok, .int (nI sta), .int (nI en), .int num, .ref wo, .ref fs, .ref sc, .int tfi, .int tgl, .int tst])), (bys, .inl (y 1, 150, .inl fby))] [] [0, 1] := ⟨rfl, rfl, rfl, rfl, rfl, by decide⟩
    refine kw_go_i hs6 hP hD hS hA (va_runV (As := []) (rest := [.int 0]) ⟨hx, hb, hml, hown, hts⟩ (gj_length1 l D y aK aV  _) (cwV 0 hts gX7_isWord_J0_length_8abf5 rfl rfl rfl (by decide +kernel) ⟨Nat.le_of_ble_eq_true rfl, Nat.le_of_ble_eq_true rfl⟩) (kz_PreK (i := 1) hs6 hP hD hK hN (by decide) hZ hS hA) rfl rfl hl.1 rfl (lv_room (Nat.le_of_ble_eq_true rfl)) dX7_isWord_22 ⟨Nat.le_of_ble_eq_true rfl, Nat.le_of_ble_eq_true rfl⟩) (fun r7 u8 H locs hq hP hD hS => ?_)
    obtain rfl := hq
    have hP : va_P D vwCl [(tx, .inr (7, [.ref bys, .int (nI ln), .int tok, .int (nI sta), .int (nI en), .int num, .ref wo, .ref fs, .ref sc, .int tfi, .int tgl, .int tst])), (bys, .inl (y 1, 150, .inl fby))] H := hP
    have hD : va_D A [(tx, .inr (7, [.ref bys, .int (nI ln), .int tok, .int (nI sta), .int (nI en), .int num, .ref wo, .ref fs, .ref sc, .int tfi, .int tgl, .int tst])), (bys, .inl (y 1, 150, .inl fby))] := hD
    refine lv_icmp_ge (tgt := 55) hx hb dX7_isWord_25 (by decide) (fun h9 => absurd h9 (by decide)) (fun _ => ?_)
    refine lv_aload_n hx hb dX7_isWord_28 rfl (lv_at hl 1 rfl) ?_
    refine va_get (D := D) (ci := 7) (v := .ref bys) (C := RX7) (T := TX7) (N := 12) hx hb hts iw7 hown hK hP 0 rfl rfl 0 (by decide) fw3 (fun _ h9 => h9) rfl dX7_isWord_29 ?_
    refine lv_aload_n hx hb dX7_isWord_32 rfl (lv_at hl 1 rfl) ?_
    refine va_get (D := D) (ci := 7) (v := .int (nI sta)) (C := RX7) (T := TX7) (N := 12) hx hb hts iw7 hown hK hP 0 rfl rfl 3 (by decide) fw2 (fun _ h9 => h9) rfl dX7_isWord_33 ?_
    refine lv_iload_n hx hb dX7_isWord_36 rfl (lv_at hl 0 rfl) ?_
    refine lv_iadd hx hb dX7_isWord_37 ?_
    rw [show (nI sta) + 0 = nI (sta) from nI_add sta 0]
    refine va_bald hx hb hK hP 1 1 rfl rfl (vp_in_nI (by omega) (by decide)) dX7_isWord_38 ?_
    rw [nI_clamp (n := sta) (by omega)]
    refine lv_aload_n hx hb dX7_isWord_39 rfl (lv_at hl 2 rfl) ?_
    refine lv_iload_n hx hb dX7_isWord_40 rfl (lv_at hl 0 rfl) ?_
    have hs9 : kw_Split [(tx, .inr (7, [.ref bys, .int (nI ln), .int tok, .int (nI sta), .int (nI en), .int num, .ref wo, .ref fs, .ref sc, .int tfi, .int tgl, .int tst])), (bys, .inl (y 1, 150, .inl fby))] [] [(tx, .inr (7, [.ref bys, .int (nI ln), .int tok, .int (nI sta), .int (nI en), .int num, .ref wo, .ref fs, .ref sc, .int tfi, .int tgl, .int tst])), (bys, .inl (y 1, 150, .inl fby))] [] [0, 1] := ⟨rfl, rfl, rfl, rfl, rfl, by decide⟩
    refine kw_go_i hs9 hP hD hS hA (va_runV (As := [.int 0]) (rest := [.int (fby sta)]) ⟨hx, hb, hml, hown, hts⟩ (gs_charAt1 l D y aK aV 0 (by omega) _) (cwV 1 hts gX7_isWord_J0_charAt_5068e rfl rfl rfl (by decide +kernel) ⟨Nat.le_of_ble_eq_true rfl, Nat.le_of_ble_eq_true rfl⟩) (kz_PreK (i := 1) hs9 hP hD hK hN (by decide) hZ hS hA) rfl rfl hl.1 rfl (lv_room (Nat.le_of_ble_eq_true rfl)) dX7_isWord_41 ⟨Nat.le_of_ble_eq_true rfl, Nat.le_of_ble_eq_true rfl⟩) (fun r10 u11 H locs hq hP hD hS => ?_)
    obtain rfl := hq
    rw [show kz_w 1 0 = 102 from rfl]
    have hP : va_P D vwCl [(tx, .inr (7, [.ref bys, .int (nI ln), .int tok, .int (nI sta), .int (nI en), .int num, .ref wo, .ref fs, .ref sc, .int tfi, .int tgl, .int tst])), (bys, .inl (y 1, 150, .inl fby))] H := hP
    have hD : va_D A [(tx, .inr (7, [.ref bys, .int (nI ln), .int tok, .int (nI sta), .int (nI en), .int num, .ref wo, .ref fs, .ref sc, .int tfi, .int tgl, .int tst])), (bys, .inl (y 1, 150, .inl fby))] := hD
    refine lv_icmp_eq (tgt := 49) hx hb dX7_isWord_44 (by decide) (fun h12 => ?_) (fun h13 => ?_)
    · skip
      refine lv_iinc (v := 1) (lv' := [(2, .int 1), (0, .ref tx), (1, .ref (aK 1))]) hx hb dX7_isWord_49 hl (k := 0) rfl (by decide) (by decide) rfl (fun ls hl => ?_)
      refine lv_goto (tgt := 20) hx hb dX7_isWord_52 (by decide) ?_
      refine lv_iload_n hx hb dX7_isWord_20 rfl (lv_at hl 0 rfl) ?_
      refine lv_aload_n hx hb dX7_isWord_21 rfl (lv_at hl 2 rfl) ?_
      have hs14 : kw_Split [(tx, .inr (7, [.ref bys, .int (nI ln), .int tok, .int (nI sta), .int (nI en), .int num, .ref wo, .ref fs, .ref sc, .int tfi, .int tgl, .int tst])), (bys, .inl (y 1, 150, .inl fby))] [] [(tx, .inr (7, [.ref bys, .int (nI ln), .int tok, .int (nI sta), .int (nI en), .int num, .ref wo, .ref fs, .ref sc, .int tfi, .int tgl, .int tst])), (bys, .inl (y 1, 150, .inl fby))] [] [0, 1] := ⟨rfl, rfl, rfl, rfl, rfl, by decide⟩
      refine kw_go_i hs14 hP hD hS hA (va_runV (As := []) (rest := [.int 1]) ⟨hx, hb, hml, hown, hts⟩ (gj_length1 l D y aK aV  _) (cwV 0 hts gX7_isWord_J0_length_8abf5 rfl rfl rfl (by decide +kernel) ⟨Nat.le_of_ble_eq_true rfl, Nat.le_of_ble_eq_true rfl⟩) (kz_PreK (i := 1) hs14 hP hD hK hN (by decide) hZ hS hA) rfl rfl hl.1 rfl (lv_room (Nat.le_of_ble_eq_true rfl)) dX7_isWord_22 ⟨Nat.le_of_ble_eq_true rfl, Nat.le_of_ble_eq_true rfl⟩) (fun r15 u16 H locs hq hP hD hS => ?_)
      obtain rfl := hq
      have hP : va_P D vwCl [(tx, .inr (7, [.ref bys, .int (nI ln), .int tok, .int (nI sta), .int (nI en), .int num, .ref wo, .ref fs, .ref sc, .int tfi, .int tgl, .int tst])), (bys, .inl (y 1, 150, .inl fby))] H := hP
      have hD : va_D A [(tx, .inr (7, [.ref bys, .int (nI ln), .int tok, .int (nI sta), .int (nI en), .int num, .ref wo, .ref fs, .ref sc, .int tfi, .int tgl, .int tst])), (bys, .inl (y 1, 150, .inl fby))] := hD
      refine lv_icmp_ge (tgt := 55) hx hb dX7_isWord_25 (by decide) (fun h9 => absurd h9 (by decide)) (fun _ => ?_)
      refine lv_aload_n hx hb dX7_isWord_28 rfl (lv_at hl 1 rfl) ?_
      refine va_get (D := D) (ci := 7) (v := .ref bys) (C := RX7) (T := TX7) (N := 12) hx hb hts iw7 hown hK hP 0 rfl rfl 0 (by decide) fw3 (fun _ h9 => h9) rfl dX7_isWord_29 ?_
      refine lv_aload_n hx hb dX7_isWord_32 rfl (lv_at hl 1 rfl) ?_
      refine va_get (D := D) (ci := 7) (v := .int (nI sta)) (C := RX7) (T := TX7) (N := 12) hx hb hts iw7 hown hK hP 0 rfl rfl 3 (by decide) fw2 (fun _ h9 => h9) rfl dX7_isWord_33 ?_
      refine lv_iload_n hx hb dX7_isWord_36 rfl (lv_at hl 0 rfl) ?_
      refine lv_iadd hx hb dX7_isWord_37 ?_
      rw [show (nI sta) + 1 = nI (sta + 1) from nI_add sta 1]
      refine va_bald hx hb hK hP 1 1 rfl rfl (vp_in_nI (by omega) (by decide)) dX7_isWord_38 ?_
      rw [nI_clamp (n := (sta + 1)) (by omega)]
      refine lv_aload_n hx hb dX7_isWord_39 rfl (lv_at hl 2 rfl) ?_
      refine lv_iload_n hx hb dX7_isWord_40 rfl (lv_at hl 0 rfl) ?_
      have hs17 : kw_Split [(tx, .inr (7, [.ref bys, .int (nI ln), .int tok, .int (nI sta), .int (nI en), .int num, .ref wo, .ref fs, .ref sc, .int tfi, .int tgl, .int tst])), (bys, .inl (y 1, 150, .inl fby))] [] [(tx, .inr (7, [.ref bys, .int (nI ln), .int tok, .int (nI sta), .int (nI en), .int num, .ref wo, .ref fs, .ref sc, .int tfi, .int tgl, .int tst])), (bys, .inl (y 1, 150, .inl fby))] [] [0, 1] := ⟨rfl, rfl, rfl, rfl, rfl, by decide⟩
      refine kw_go_i hs17 hP hD hS hA (va_runV (As := [.int 1]) (rest := [.int (fby (sta + 1))]) ⟨hx, hb, hml, hown, hts⟩ (gs_charAt1 l D y aK aV 1 (by omega) _) (cwV 1 hts gX7_isWord_J0_charAt_5068e rfl rfl rfl (by decide +kernel) ⟨Nat.le_of_ble_eq_true rfl, Nat.le_of_ble_eq_true rfl⟩) (kz_PreK (i := 1) hs17 hP hD hK hN (by decide) hZ hS hA) rfl rfl hl.1 rfl (lv_room (Nat.le_of_ble_eq_true rfl)) dX7_isWord_41 ⟨Nat.le_of_ble_eq_true rfl, Nat.le_of_ble_eq_true rfl⟩) (fun r18 u19 H locs hq hP hD hS => ?_)
      obtain rfl := hq
      rw [show kz_w 1 1 = 105 from rfl]
      have hP : va_P D vwCl [(tx, .inr (7, [.ref bys, .int (nI ln), .int tok, .int (nI sta), .int (nI en), .int num, .ref wo, .ref fs, .ref sc, .int tfi, .int tgl, .int tst])), (bys, .inl (y 1, 150, .inl fby))] H := hP
      have hD : va_D A [(tx, .inr (7, [.ref bys, .int (nI ln), .int tok, .int (nI sta), .int (nI en), .int num, .ref wo, .ref fs, .ref sc, .int tfi, .int tgl, .int tst])), (bys, .inl (y 1, 150, .inl fby))] := hD
      refine lv_icmp_eq (tgt := 49) hx hb dX7_isWord_44 (by decide) (fun h20 => ?_) (fun h21 => ?_)
      · skip
        refine lv_iinc (v := 2) (lv' := [(2, .int 2), (0, .ref tx), (1, .ref (aK 1))]) hx hb dX7_isWord_49 hl (k := 0) rfl (by decide) (by decide) rfl (fun ls hl => ?_)
        refine lv_goto (tgt := 20) hx hb dX7_isWord_52 (by decide) ?_
        refine lv_iload_n hx hb dX7_isWord_20 rfl (lv_at hl 0 rfl) ?_
        refine lv_aload_n hx hb dX7_isWord_21 rfl (lv_at hl 2 rfl) ?_
        have hs22 : kw_Split [(tx, .inr (7, [.ref bys, .int (nI ln), .int tok, .int (nI sta), .int (nI en), .int num, .ref wo, .ref fs, .ref sc, .int tfi, .int tgl, .int tst])), (bys, .inl (y 1, 150, .inl fby))] [] [(tx, .inr (7, [.ref bys, .int (nI ln), .int tok, .int (nI sta), .int (nI en), .int num, .ref wo, .ref fs, .ref sc, .int tfi, .int tgl, .int tst])), (bys, .inl (y 1, 150, .inl fby))] [] [0, 1] := ⟨rfl, rfl, rfl, rfl, rfl, by decide⟩
        refine kw_go_i hs22 hP hD hS hA (va_runV (As := []) (rest := [.int 2]) ⟨hx, hb, hml, hown, hts⟩ (gj_length1 l D y aK aV  _) (cwV 0 hts gX7_isWord_J0_length_8abf5 rfl rfl rfl (by decide +kernel) ⟨Nat.le_of_ble_eq_true rfl, Nat.le_of_ble_eq_true rfl⟩) (kz_PreK (i := 1) hs22 hP hD hK hN (by decide) hZ hS hA) rfl rfl hl.1 rfl (lv_room (Nat.le_of_ble_eq_true rfl)) dX7_isWord_22 ⟨Nat.le_of_ble_eq_true rfl, Nat.le_of_ble_eq_true rfl⟩) (fun r23 u24 H locs hq hP hD hS => ?_)
        obtain rfl := hq
        have hP : va_P D vwCl [(tx, .inr (7, [.ref bys, .int (nI ln), .int tok, .int (nI sta), .int (nI en), .int num, .ref wo, .ref fs, .ref sc, .int tfi, .int tgl, .int tst])), (bys, .inl (y 1, 150, .inl fby))] H := hP
        have hD : va_D A [(tx, .inr (7, [.ref bys, .int (nI ln), .int tok, .int (nI sta), .int (nI en), .int num, .ref wo, .ref fs, .ref sc, .int tfi, .int tgl, .int tst])), (bys, .inl (y 1, 150, .inl fby))] := hD
        refine lv_icmp_ge (tgt := 55) hx hb dX7_isWord_25 (by decide) (fun h9 => absurd h9 (by decide)) (fun _ => ?_)
        refine lv_aload_n hx hb dX7_isWord_28 rfl (lv_at hl 1 rfl) ?_
        refine va_get (D := D) (ci := 7) (v := .ref bys) (C := RX7) (T := TX7) (N := 12) hx hb hts iw7 hown hK hP 0 rfl rfl 0 (by decide) fw3 (fun _ h9 => h9) rfl dX7_isWord_29 ?_
        refine lv_aload_n hx hb dX7_isWord_32 rfl (lv_at hl 1 rfl) ?_
        refine va_get (D := D) (ci := 7) (v := .int (nI sta)) (C := RX7) (T := TX7) (N := 12) hx hb hts iw7 hown hK hP 0 rfl rfl 3 (by decide) fw2 (fun _ h9 => h9) rfl dX7_isWord_33 ?_
        refine lv_iload_n hx hb dX7_isWord_36 rfl (lv_at hl 0 rfl) ?_
        refine lv_iadd hx hb dX7_isWord_37 ?_
        rw [show (nI sta) + 2 = nI (sta + 2) from nI_add sta 2]
        refine va_bald hx hb hK hP 1 1 rfl rfl (vp_in_nI (by omega) (by decide)) dX7_isWord_38 ?_
        rw [nI_clamp (n := (sta + 2)) (by omega)]
        refine lv_aload_n hx hb dX7_isWord_39 rfl (lv_at hl 2 rfl) ?_
        refine lv_iload_n hx hb dX7_isWord_40 rfl (lv_at hl 0 rfl) ?_
        have hs25 : kw_Split [(tx, .inr (7, [.ref bys, .int (nI ln), .int tok, .int (nI sta), .int (nI en), .int num, .ref wo, .ref fs, .ref sc, .int tfi, .int tgl, .int tst])), (bys, .inl (y 1, 150, .inl fby))] [] [(tx, .inr (7, [.ref bys, .int (nI ln), .int tok, .int (nI sta), .int (nI en), .int num, .ref wo, .ref fs, .ref sc, .int tfi, .int tgl, .int tst])), (bys, .inl (y 1, 150, .inl fby))] [] [0, 1] := ⟨rfl, rfl, rfl, rfl, rfl, by decide⟩
        refine kw_go_i hs25 hP hD hS hA (va_runV (As := [.int 2]) (rest := [.int (fby (sta + 2))]) ⟨hx, hb, hml, hown, hts⟩ (gs_charAt1 l D y aK aV 2 (by omega) _) (cwV 1 hts gX7_isWord_J0_charAt_5068e rfl rfl rfl (by decide +kernel) ⟨Nat.le_of_ble_eq_true rfl, Nat.le_of_ble_eq_true rfl⟩) (kz_PreK (i := 1) hs25 hP hD hK hN (by decide) hZ hS hA) rfl rfl hl.1 rfl (lv_room (Nat.le_of_ble_eq_true rfl)) dX7_isWord_41 ⟨Nat.le_of_ble_eq_true rfl, Nat.le_of_ble_eq_true rfl⟩) (fun r26 u27 H locs hq hP hD hS => ?_)
        obtain rfl := hq
        rw [show kz_w 1 2 = 101 from rfl]
        have hP : va_P D vwCl [(tx, .inr (7, [.ref bys, .int (nI ln), .int tok, .int (nI sta), .int (nI en), .int num, .ref wo, .ref fs, .ref sc, .int tfi, .int tgl, .int tst])), (bys, .inl (y 1, 150, .inl fby))] H := hP
        have hD : va_D A [(tx, .inr (7, [.ref bys, .int (nI ln), .int tok, .int (nI sta), .int (nI en), .int num, .ref wo, .ref fs, .ref sc, .int tfi, .int tgl, .int tst])), (bys, .inl (y 1, 150, .inl fby))] := hD
        refine lv_icmp_eq (tgt := 49) hx hb dX7_isWord_44 (by decide) (fun h28 => ?_) (fun h29 => ?_)
        · skip
          refine lv_iinc (v := 3) (lv' := [(2, .int 3), (0, .ref tx), (1, .ref (aK 1))]) hx hb dX7_isWord_49 hl (k := 0) rfl (by decide) (by decide) rfl (fun ls hl => ?_)
          refine lv_goto (tgt := 20) hx hb dX7_isWord_52 (by decide) ?_
          refine lv_iload_n hx hb dX7_isWord_20 rfl (lv_at hl 0 rfl) ?_
          refine lv_aload_n hx hb dX7_isWord_21 rfl (lv_at hl 2 rfl) ?_
          have hs30 : kw_Split [(tx, .inr (7, [.ref bys, .int (nI ln), .int tok, .int (nI sta), .int (nI en), .int num, .ref wo, .ref fs, .ref sc, .int tfi, .int tgl, .int tst])), (bys, .inl (y 1, 150, .inl fby))] [] [(tx, .inr (7, [.ref bys, .int (nI ln), .int tok, .int (nI sta), .int (nI en), .int num, .ref wo, .ref fs, .ref sc, .int tfi, .int tgl, .int tst])), (bys, .inl (y 1, 150, .inl fby))] [] [0, 1] := ⟨rfl, rfl, rfl, rfl, rfl, by decide⟩
          refine kw_go_i hs30 hP hD hS hA (va_runV (As := []) (rest := [.int 3]) ⟨hx, hb, hml, hown, hts⟩ (gj_length1 l D y aK aV  _) (cwV 0 hts gX7_isWord_J0_length_8abf5 rfl rfl rfl (by decide +kernel) ⟨Nat.le_of_ble_eq_true rfl, Nat.le_of_ble_eq_true rfl⟩) (kz_PreK (i := 1) hs30 hP hD hK hN (by decide) hZ hS hA) rfl rfl hl.1 rfl (lv_room (Nat.le_of_ble_eq_true rfl)) dX7_isWord_22 ⟨Nat.le_of_ble_eq_true rfl, Nat.le_of_ble_eq_true rfl⟩) (fun r31 u32 H locs hq hP hD hS => ?_)
          obtain rfl := hq
          have hP : va_P D vwCl [(tx, .inr (7, [.ref bys, .int (nI ln), .int tok, .int (nI sta), .int (nI en), .int num, .ref wo, .ref fs, .ref sc, .int tfi, .int tgl, .int tst])), (bys, .inl (y 1, 150, .inl fby))] H := hP
          have hD : va_D A [(tx, .inr (7, [.ref bys, .int (nI ln), .int tok, .int (nI sta), .int (nI en), .int num, .ref wo, .ref fs, .ref sc, .int tfi, .int tgl, .int tst])), (bys, .inl (y 1, 150, .inl fby))] := hD
          refine lv_icmp_ge (tgt := 55) hx hb dX7_isWord_25 (by decide) (fun h9 => absurd h9 (by decide)) (fun _ => ?_)
          refine lv_aload_n hx hb dX7_isWord_28 rfl (lv_at hl 1 rfl) ?_
          refine va_get (D := D) (ci := 7) (v := .ref bys) (C := RX7) (T := TX7) (N := 12) hx hb hts iw7 hown hK hP 0 rfl rfl 0 (by decide) fw3 (fun _ h9 => h9) rfl dX7_isWord_29 ?_
          refine lv_aload_n hx hb dX7_isWord_32 rfl (lv_at hl 1 rfl) ?_
          refine va_get (D := D) (ci := 7) (v := .int (nI sta)) (C := RX7) (T := TX7) (N := 12) hx hb hts iw7 hown hK hP 0 rfl rfl 3 (by decide) fw2 (fun _ h9 => h9) rfl dX7_isWord_33 ?_
          refine lv_iload_n hx hb dX7_isWord_36 rfl (lv_at hl 0 rfl) ?_
          refine lv_iadd hx hb dX7_isWord_37 ?_
          rw [show (nI sta) + 3 = nI (sta + 3) from nI_add sta 3]
          refine va_bald hx hb hK hP 1 1 rfl rfl (vp_in_nI (by omega) (by decide)) dX7_isWord_38 ?_
          rw [nI_clamp (n := (sta + 3)) (by omega)]
          refine lv_aload_n hx hb dX7_isWord_39 rfl (lv_at hl 2 rfl) ?_
          refine lv_iload_n hx hb dX7_isWord_40 rfl (lv_at hl 0 rfl) ?_
          have hs33 : kw_Split [(tx, .inr (7, [.ref bys, .int (nI ln), .int tok, .int (nI sta), .int (nI en), .int num, .ref wo, .ref fs, .ref sc, .int tfi, .int tgl, .int tst])), (bys, .inl (y 1, 150, .inl fby))] [] [(tx, .inr (7, [.ref bys, .int (nI ln), .int tok, .int (nI sta), .int (nI en), .int num, .ref wo, .ref fs, .ref sc, .int tfi, .int tgl, .int tst])), (bys, .inl (y 1, 150, .inl fby))] [] [0, 1] := ⟨rfl, rfl, rfl, rfl, rfl, by decide⟩
          refine kw_go_i hs33 hP hD hS hA (va_runV (As := [.int 3]) (rest := [.int (fby (sta + 3))]) ⟨hx, hb, hml, hown, hts⟩ (gs_charAt1 l D y aK aV 3 (by omega) _) (cwV 1 hts gX7_isWord_J0_charAt_5068e rfl rfl rfl (by decide +kernel) ⟨Nat.le_of_ble_eq_true rfl, Nat.le_of_ble_eq_true rfl⟩) (kz_PreK (i := 1) hs33 hP hD hK hN (by decide) hZ hS hA) rfl rfl hl.1 rfl (lv_room (Nat.le_of_ble_eq_true rfl)) dX7_isWord_41 ⟨Nat.le_of_ble_eq_true rfl, Nat.le_of_ble_eq_true rfl⟩) (fun r34 u35 H locs hq hP hD hS => ?_)
          obtain rfl := hq
          rw [show kz_w 1 3 = 108 from rfl]
          have hP : va_P D vwCl [(tx, .inr (7, [.ref bys, .int (nI ln), .int tok, .int (nI sta), .int (nI en), .int num, .ref wo, .ref fs, .ref sc, .int tfi, .int tgl, .int tst])), (bys, .inl (y 1, 150, .inl fby))] H := hP
          have hD : va_D A [(tx, .inr (7, [.ref bys, .int (nI ln), .int tok, .int (nI sta), .int (nI en), .int num, .ref wo, .ref fs, .ref sc, .int tfi, .int tgl, .int tst])), (bys, .inl (y 1, 150, .inl fby))] := hD
          refine lv_icmp_eq (tgt := 49) hx hb dX7_isWord_44 (by decide) (fun h36 => ?_) (fun h37 => ?_)
          · skip
            refine lv_iinc (v := 4) (lv' := [(2, .int 4), (0, .ref tx), (1, .ref (aK 1))]) hx hb dX7_isWord_49 hl (k := 0) rfl (by decide) (by decide) rfl (fun ls hl => ?_)
            refine lv_goto (tgt := 20) hx hb dX7_isWord_52 (by decide) ?_
            refine lv_iload_n hx hb dX7_isWord_20 rfl (lv_at hl 0 rfl) ?_
            refine lv_aload_n hx hb dX7_isWord_21 rfl (lv_at hl 2 rfl) ?_
            have hs38 : kw_Split [(tx, .inr (7, [.ref bys, .int (nI ln), .int tok, .int (nI sta), .int (nI en), .int num, .ref wo, .ref fs, .ref sc, .int tfi, .int tgl, .int tst])), (bys, .inl (y 1, 150, .inl fby))] [] [(tx, .inr (7, [.ref bys, .int (nI ln), .int tok, .int (nI sta), .int (nI en), .int num, .ref wo, .ref fs, .ref sc, .int tfi, .int tgl, .int tst])), (bys, .inl (y 1, 150, .inl fby))] [] [0, 1] := ⟨rfl, rfl, rfl, rfl, rfl, by decide⟩
            refine kw_go_i hs38 hP hD hS hA (va_runV (As := []) (rest := [.int 4]) ⟨hx, hb, hml, hown, hts⟩ (gj_length1 l D y aK aV  _) (cwV 0 hts gX7_isWord_J0_length_8abf5 rfl rfl rfl (by decide +kernel) ⟨Nat.le_of_ble_eq_true rfl, Nat.le_of_ble_eq_true rfl⟩) (kz_PreK (i := 1) hs38 hP hD hK hN (by decide) hZ hS hA) rfl rfl hl.1 rfl (lv_room (Nat.le_of_ble_eq_true rfl)) dX7_isWord_22 ⟨Nat.le_of_ble_eq_true rfl, Nat.le_of_ble_eq_true rfl⟩) (fun r39 u40 H locs hq hP hD hS => ?_)
            obtain rfl := hq
            have hP : va_P D vwCl [(tx, .inr (7, [.ref bys, .int (nI ln), .int tok, .int (nI sta), .int (nI en), .int num, .ref wo, .ref fs, .ref sc, .int tfi, .int tgl, .int tst])), (bys, .inl (y 1, 150, .inl fby))] H := hP
            have hD : va_D A [(tx, .inr (7, [.ref bys, .int (nI ln), .int tok, .int (nI sta), .int (nI en), .int num, .ref wo, .ref fs, .ref sc, .int tfi, .int tgl, .int tst])), (bys, .inl (y 1, 150, .inl fby))] := hD
            refine lv_icmp_ge (tgt := 55) hx hb dX7_isWord_25 (by decide) (fun h9 => absurd h9 (by decide)) (fun _ => ?_)
            refine lv_aload_n hx hb dX7_isWord_28 rfl (lv_at hl 1 rfl) ?_
            refine va_get (D := D) (ci := 7) (v := .ref bys) (C := RX7) (T := TX7) (N := 12) hx hb hts iw7 hown hK hP 0 rfl rfl 0 (by decide) fw3 (fun _ h9 => h9) rfl dX7_isWord_29 ?_
            refine lv_aload_n hx hb dX7_isWord_32 rfl (lv_at hl 1 rfl) ?_
            refine va_get (D := D) (ci := 7) (v := .int (nI sta)) (C := RX7) (T := TX7) (N := 12) hx hb hts iw7 hown hK hP 0 rfl rfl 3 (by decide) fw2 (fun _ h9 => h9) rfl dX7_isWord_33 ?_
            refine lv_iload_n hx hb dX7_isWord_36 rfl (lv_at hl 0 rfl) ?_
            refine lv_iadd hx hb dX7_isWord_37 ?_
            rw [show (nI sta) + 4 = nI (sta + 4) from nI_add sta 4]
            refine va_bald hx hb hK hP 1 1 rfl rfl (vp_in_nI (by omega) (by decide)) dX7_isWord_38 ?_
            rw [nI_clamp (n := (sta + 4)) (by omega)]
            refine lv_aload_n hx hb dX7_isWord_39 rfl (lv_at hl 2 rfl) ?_
            refine lv_iload_n hx hb dX7_isWord_40 rfl (lv_at hl 0 rfl) ?_
            have hs41 : kw_Split [(tx, .inr (7, [.ref bys, .int (nI ln), .int tok, .int (nI sta), .int (nI en), .int num, .ref wo, .ref fs, .ref sc, .int tfi, .int tgl, .int tst])), (bys, .inl (y 1, 150, .inl fby))] [] [(tx, .inr (7, [.ref bys, .int (nI ln), .int tok, .int (nI sta), .int (nI en), .int num, .ref wo, .ref fs, .ref sc, .int tfi, .int tgl, .int tst])), (bys, .inl (y 1, 150, .inl fby))] [] [0, 1] := ⟨rfl, rfl, rfl, rfl, rfl, by decide⟩
            refine kw_go_i hs41 hP hD hS hA (va_runV (As := [.int 4]) (rest := [.int (fby (sta + 4))]) ⟨hx, hb, hml, hown, hts⟩ (gs_charAt1 l D y aK aV 4 (by omega) _) (cwV 1 hts gX7_isWord_J0_charAt_5068e rfl rfl rfl (by decide +kernel) ⟨Nat.le_of_ble_eq_true rfl, Nat.le_of_ble_eq_true rfl⟩) (kz_PreK (i := 1) hs41 hP hD hK hN (by decide) hZ hS hA) rfl rfl hl.1 rfl (lv_room (Nat.le_of_ble_eq_true rfl)) dX7_isWord_41 ⟨Nat.le_of_ble_eq_true rfl, Nat.le_of_ble_eq_true rfl⟩) (fun r42 u43 H locs hq hP hD hS => ?_)
            obtain rfl := hq
            rw [show kz_w 1 4 = 100 from rfl]
            have hP : va_P D vwCl [(tx, .inr (7, [.ref bys, .int (nI ln), .int tok, .int (nI sta), .int (nI en), .int num, .ref wo, .ref fs, .ref sc, .int tfi, .int tgl, .int tst])), (bys, .inl (y 1, 150, .inl fby))] H := hP
            have hD : va_D A [(tx, .inr (7, [.ref bys, .int (nI ln), .int tok, .int (nI sta), .int (nI en), .int num, .ref wo, .ref fs, .ref sc, .int tfi, .int tgl, .int tst])), (bys, .inl (y 1, 150, .inl fby))] := hD
            refine lv_icmp_eq (tgt := 49) hx hb dX7_isWord_44 (by decide) (fun h44 => ?_) (fun h45 => ?_)
            · skip
              refine lv_iinc (v := 5) (lv' := [(2, .int 5), (0, .ref tx), (1, .ref (aK 1))]) hx hb dX7_isWord_49 hl (k := 0) rfl (by decide) (by decide) rfl (fun ls hl => ?_)
              refine lv_goto (tgt := 20) hx hb dX7_isWord_52 (by decide) ?_
              refine lv_iload_n hx hb dX7_isWord_20 rfl (lv_at hl 0 rfl) ?_
              refine lv_aload_n hx hb dX7_isWord_21 rfl (lv_at hl 2 rfl) ?_
              have hs46 : kw_Split [(tx, .inr (7, [.ref bys, .int (nI ln), .int tok, .int (nI sta), .int (nI en), .int num, .ref wo, .ref fs, .ref sc, .int tfi, .int tgl, .int tst])), (bys, .inl (y 1, 150, .inl fby))] [] [(tx, .inr (7, [.ref bys, .int (nI ln), .int tok, .int (nI sta), .int (nI en), .int num, .ref wo, .ref fs, .ref sc, .int tfi, .int tgl, .int tst])), (bys, .inl (y 1, 150, .inl fby))] [] [0, 1] := ⟨rfl, rfl, rfl, rfl, rfl, by decide⟩
              refine kw_go_i hs46 hP hD hS hA (va_runV (As := []) (rest := [.int 5]) ⟨hx, hb, hml, hown, hts⟩ (gj_length1 l D y aK aV  _) (cwV 0 hts gX7_isWord_J0_length_8abf5 rfl rfl rfl (by decide +kernel) ⟨Nat.le_of_ble_eq_true rfl, Nat.le_of_ble_eq_true rfl⟩) (kz_PreK (i := 1) hs46 hP hD hK hN (by decide) hZ hS hA) rfl rfl hl.1 rfl (lv_room (Nat.le_of_ble_eq_true rfl)) dX7_isWord_22 ⟨Nat.le_of_ble_eq_true rfl, Nat.le_of_ble_eq_true rfl⟩) (fun r47 u48 H locs hq hP hD hS => ?_)
              obtain rfl := hq
              have hP : va_P D vwCl [(tx, .inr (7, [.ref bys, .int (nI ln), .int tok, .int (nI sta), .int (nI en), .int num, .ref wo, .ref fs, .ref sc, .int tfi, .int tgl, .int tst])), (bys, .inl (y 1, 150, .inl fby))] H := hP
              have hD : va_D A [(tx, .inr (7, [.ref bys, .int (nI ln), .int tok, .int (nI sta), .int (nI en), .int num, .ref wo, .ref fs, .ref sc, .int tfi, .int tgl, .int tst])), (bys, .inl (y 1, 150, .inl fby))] := hD
              refine lv_icmp_ge (tgt := 55) hx hb dX7_isWord_25 (by decide) (fun _ => ?_) (fun h9 => absurd h9 (by decide))
              refine lv_iconst (v := 1) hx hb dX7_isWord_55 (by decide) ?_
              exact W.zret (v := 1) hx hb hr (by decide) (fun tZ ht hW => ⟨⟨1, (), rfl, Or.inl ⟨decide_eq_true ⟨by omega, h12, h20, h28, h36, h44⟩, rfl⟩, by rw [ht]; exact hP.sub [0, 1] rfl, hD.sub [0, 1] (by decide) rfl⟩, hS.F ht⟩) hS.2.2 dX7_isWord_56
            · skip
              refine lv_iconst (v := 0) hx hb dX7_isWord_47 (by decide) ?_
              exact W.zret (v := 0) hx hb hr (by decide) (fun tZ ht hW => ⟨⟨0, (), rfl, Or.inr (⟨fun q9 => absurd (of_decide_eq_true q9).2.2.2.2.2 h45, rfl⟩), by rw [ht]; exact hP.sub [0, 1] rfl, hD.sub [0, 1] (by decide) rfl⟩, hS.F ht⟩) hS.2.2 dX7_isWord_48
          · skip
            refine lv_iconst (v := 0) hx hb dX7_isWord_47 (by decide) ?_
            exact W.zret (v := 0) hx hb hr (by decide) (fun tZ ht hW => ⟨⟨0, (), rfl, Or.inr (⟨fun q9 => absurd (of_decide_eq_true q9).2.2.2.2.1 h37, rfl⟩), by rw [ht]; exact hP.sub [0, 1] rfl, hD.sub [0, 1] (by decide) rfl⟩, hS.F ht⟩) hS.2.2 dX7_isWord_48
        · skip
          refine lv_iconst (v := 0) hx hb dX7_isWord_47 (by decide) ?_
          exact W.zret (v := 0) hx hb hr (by decide) (fun tZ ht hW => ⟨⟨0, (), rfl, Or.inr (⟨fun q9 => absurd (of_decide_eq_true q9).2.2.2.1 h29, rfl⟩), by rw [ht]; exact hP.sub [0, 1] rfl, hD.sub [0, 1] (by decide) rfl⟩, hS.F ht⟩) hS.2.2 dX7_isWord_48
      · skip
        refine lv_iconst (v := 0) hx hb dX7_isWord_47 (by decide) ?_
        exact W.zret (v := 0) hx hb hr (by decide) (fun tZ ht hW => ⟨⟨0, (), rfl, Or.inr (⟨fun q9 => absurd (of_decide_eq_true q9).2.2.1 h21, rfl⟩), by rw [ht]; exact hP.sub [0, 1] rfl, hD.sub [0, 1] (by decide) rfl⟩, hS.F ht⟩) hS.2.2 dX7_isWord_48
    · skip
      refine lv_iconst (v := 0) hx hb dX7_isWord_47 (by decide) ?_
      exact W.zret (v := 0) hx hb hr (by decide) (fun tZ ht hW => ⟨⟨0, (), rfl, Or.inr (⟨fun q9 => absurd (of_decide_eq_true q9).2.1 h13, rfl⟩), by rw [ht]; exact hP.sub [0, 1] rfl, hD.sub [0, 1] (by decide) rfl⟩, hS.F ht⟩) hS.2.2 dX7_isWord_48
  · skip
    have h5 : ¬ (en - sta) = 5 := fun q9 => h5 ((nI_eq (a := (en - sta)) (b := 5) (by omega) (by omega)).mpr q9)
    refine lv_iconst (v := 0) hx hb dX7_isWord_16 (by decide) ?_
    exact W.zret (v := 0) hx hb hr (by decide) (fun tZ ht hW => ⟨⟨0, (), rfl, Or.inr (⟨fun q9 => absurd (of_decide_eq_true q9).1 (by omega), rfl⟩), by rw [ht]; exact hP.sub [0, 1] rfl, hD.sub [0, 1] (by decide) rfl⟩, hS.F ht⟩) hS.2.2 dX7_isWord_17

set_option maxHeartbeats 4000000 in
set_option maxRecDepth 100000 in
theorem gs_isWord2 (l : Launch) (D : va_G) (y : Nat → ClassId) (aK : Nat → Nat) (aV : Nat → Nat) (tx : Nat) (bys : Nat) (wo : Nat) (fs : Nat) (sc : Nat) (ln : Nat) (sta : Nat) (en : Nat) (tok : Int32) (num : Int32) (tfi : Int32) (tgl : Int32) (tst : Int32) (fby : Nat → Int32) (hln : ln ≤ 150) (hen : en ≤ ln) (hse : sta ≤ en) : kz_Mi l yX7_isWord wsX7_isWord ({ frames := 5, cells := 0, slots := 0, locals := 145 }) D y [.ref tx, .ref (aK 2)] [(tx, .inr (7, [.ref bys, .int (nI ln), .int tok, .int (nI sta), .int (nI en), .int num, .ref wo, .ref fs, .ref sc, .int tfi, .int tgl, .int tst])), (bys, .inl (y 1, 150, .inl fby))] aK aV (fun (r : Int32) (u : Unit) => (ks_e2 fby sta en = true ∧ r = 1) ∨ (¬ ks_e2 fby sta en = true ∧ r = 0)) (fun _ => [(tx, .inr (7, [.ref bys, .int (nI ln), .int tok, .int (nI sta), .int (nI en), .int num, .ref wo, .ref fs, .ref sc, .int tfi, .int tgl, .int tst])), (bys, .inl (y 1, 150, .inl fby))]) 0 0 := by
  refine kz_Mi.of (cc := cX7_isWord) (maxL := 3) (ret := (some .boolean)) (by decide) rfl ?_
  intro pZ eZ s mZ beZ meZ cZ A hE
  obtain ⟨hx, hb, hr, hml, hts, hown, hlocks, hin, hA, hP, hD, hK, hN, hZ⟩ := hE
  have hS : va_S A s.heap s.heap [] := va_S.rf
  have hl := lv_entry ([.ref tx, .ref (aK 2)]) (n := 3) (Nat.le_of_ble_eq_true rfl)
  rw [lg_entry_eq]
  generalize (lg_sl ([.ref tx, .ref (aK 2)]) ++ List.replicate (3 - (lg_sl ([.ref tx, .ref (aK 2)])).length) Slot.unset).toArray = ls at hl ⊢
  have hl : lv_has ls 3 [(0, .ref tx), (1, .ref (aK 2))] := hl
  have fw1 := hts (.fieldLink RX7 29 "GleanDusk$Text" "end" "I") (List.mem_of_getElem? (i := 1) rfl)
  have fw2 := hts (.fieldLink RX7 51 "GleanDusk$Text" "start" "I") (List.mem_of_getElem? (i := 2) rfl)
  have fw3 := hts (.fieldLink RX7 9 "GleanDusk$Text" "bytes" "[B") (List.mem_of_getElem? (i := 3) rfl)
  have iw7 : ∀ w ∈ wsX70, w ∈ wsX7_isWord := fun _ h => List.mem_cons_of_mem _ (List.mem_append_right _ h)
  refine lv_aload_n hx hb dX7_isWord_0 rfl (lv_at hl 0 rfl) ?_
  refine va_get (D := D) (ci := 7) (v := .int (nI en)) (C := RX7) (T := TX7) (N := 12) hx hb hts iw7 hown hK hP 0 rfl rfl 4 (by decide) fw1 (fun _ h9 => h9) rfl dX7_isWord_1 ?_
  refine lv_aload_n hx hb dX7_isWord_4 rfl (lv_at hl 0 rfl) ?_
  refine va_get (D := D) (ci := 7) (v := .int (nI sta)) (C := RX7) (T := TX7) (N := 12) hx hb hts iw7 hown hK hP 0 rfl rfl 3 (by decide) fw2 (fun _ h9 => h9) rfl dX7_isWord_5 ?_
  refine lv_isub hx hb dX7_isWord_8 ?_
  rw [show (nI en) - (nI sta) = nI (en - sta) from pk_sub (a := en) (b := sta) (by omega)]
  refine lv_aload_n hx hb dX7_isWord_9 rfl (lv_at hl 1 rfl) ?_
  have hs1 : kw_Split [(tx, .inr (7, [.ref bys, .int (nI ln), .int tok, .int (nI sta), .int (nI en), .int num, .ref wo, .ref fs, .ref sc, .int tfi, .int tgl, .int tst])), (bys, .inl (y 1, 150, .inl fby))] [] [(tx, .inr (7, [.ref bys, .int (nI ln), .int tok, .int (nI sta), .int (nI en), .int num, .ref wo, .ref fs, .ref sc, .int tfi, .int tgl, .int tst])), (bys, .inl (y 1, 150, .inl fby))] [] [0, 1] := ⟨rfl, rfl, rfl, rfl, rfl, by decide⟩
  refine kw_go_i hs1 hP hD hS hA (va_runV (As := []) (rest := [.int (nI (en - sta))]) ⟨hx, hb, hml, hown, hts⟩ (gj_length2 l D y aK aV  _) (cwV 0 hts gX7_isWord_J0_length_8abf5 rfl rfl rfl (by decide +kernel) ⟨Nat.le_of_ble_eq_true rfl, Nat.le_of_ble_eq_true rfl⟩) (kz_PreK (i := 2) hs1 hP hD hK hN (by decide) hZ hS hA) rfl rfl hl.1 rfl (lv_room (Nat.le_of_ble_eq_true rfl)) dX7_isWord_10 ⟨Nat.le_of_ble_eq_true rfl, Nat.le_of_ble_eq_true rfl⟩) (fun r2 u3 H locs hq hP hD hS => ?_)
  obtain rfl := hq
  have hP : va_P D vwCl [(tx, .inr (7, [.ref bys, .int (nI ln), .int tok, .int (nI sta), .int (nI en), .int num, .ref wo, .ref fs, .ref sc, .int tfi, .int tgl, .int tst])), (bys, .inl (y 1, 150, .inl fby))] H := hP
  have hD : va_D A [(tx, .inr (7, [.ref bys, .int (nI ln), .int tok, .int (nI sta), .int (nI en), .int num, .ref wo, .ref fs, .ref sc, .int tfi, .int tgl, .int tst])), (bys, .inl (y 1, 150, .inl fby))] := hD
  refine lv_icmp_eq (tgt := 18) hx hb dX7_isWord_13 (by decide) (fun h4 => ?_) (fun h5 => ?_)
  · skip
    have h4 : (en - sta) = 7 := (nI_eq (a := (en - sta)) (b := 7) (by omega) (by omega)).mp h4
    refine lv_iconst (v := 0) hx hb dX7_isWord_18 (by decide) ?_
    refine lv_istore_n (lv' := [(2, .int 0), (0, .ref tx), (1, .ref (aK 2))]) hx hb dX7_isWord_19 rfl hl (by decide) rfl (fun ls hl => ?_)
    refine lv_iload_n hx hb dX7_isWord_20 rfl (lv_at hl 0 rfl) ?_
    refine lv_aload_n hx hb dX7_isWord_21 rfl (lv_at hl 2 rfl) ?_
    have hs6 : kw_Split [(tx, .inr (7, [.ref bys, .int (nI ln), .int tok, .int (nI sta), .int (nI en), .int num, .ref wo, .ref fs, .ref sc, .int tfi, .int tgl, .int tst])), (bys, .inl (y 1, 150, .inl fby))] [] [(tx, .inr (7, [.ref bys, .int (nI ln), .int tok, .int (nI sta), .int (nI en), .int num, .ref wo, .ref fs, .ref sc, .int tfi, .int tgl, .int tst])), (bys, .inl (y 1, 150, .inl fby))] [] [0, 1] := ⟨rfl, rfl, rfl, rfl, rfl, by decide⟩
    refine kw_go_i hs6 hP hD hS hA (va_runV (As := []) (rest := [.int 0]) ⟨hx, hb, hml, hown, hts⟩ (gj_length2 l D y aK aV  _) (cwV 0 hts gX7_isWord_J0_length_8abf5 rfl rfl rfl (by decide +kernel) ⟨Nat.le_of_ble_eq_true rfl, Nat.le_of_ble_eq_true rfl⟩) (kz_PreK (i := 2) hs6 hP hD hK hN (by decide) hZ hS hA) rfl rfl hl.1 rfl (lv_room (Nat.le_of_ble_eq_true rfl)) dX7_isWord_22 ⟨Nat.le_of_ble_eq_true rfl, Nat.le_of_ble_eq_true rfl⟩) (fun r7 u8 H locs hq hP hD hS => ?_)
    obtain rfl := hq
    have hP : va_P D vwCl [(tx, .inr (7, [.ref bys, .int (nI ln), .int tok, .int (nI sta), .int (nI en), .int num, .ref wo, .ref fs, .ref sc, .int tfi, .int tgl, .int tst])), (bys, .inl (y 1, 150, .inl fby))] H := hP
    have hD : va_D A [(tx, .inr (7, [.ref bys, .int (nI ln), .int tok, .int (nI sta), .int (nI en), .int num, .ref wo, .ref fs, .ref sc, .int tfi, .int tgl, .int tst])), (bys, .inl (y 1, 150, .inl fby))] := hD
    refine lv_icmp_ge (tgt := 55) hx hb dX7_isWord_25 (by decide) (fun h9 => absurd h9 (by decide)) (fun _ => ?_)
    refine lv_aload_n hx hb dX7_isWord_28 rfl (lv_at hl 1 rfl) ?_
    refine va_get (D := D) (ci := 7) (v := .ref bys) (C := RX7) (T := TX7) (N := 12) hx hb hts iw7 hown hK hP 0 rfl rfl 0 (by decide) fw3 (fun _ h9 => h9) rfl dX7_isWord_29 ?_
    refine lv_aload_n hx hb dX7_isWord_32 rfl (lv_at hl 1 rfl) ?_
    refine va_get (D := D) (ci := 7) (v := .int (nI sta)) (C := RX7) (T := TX7) (N := 12) hx hb hts iw7 hown hK hP 0 rfl rfl 3 (by decide) fw2 (fun _ h9 => h9) rfl dX7_isWord_33 ?_
    refine lv_iload_n hx hb dX7_isWord_36 rfl (lv_at hl 0 rfl) ?_
    refine lv_iadd hx hb dX7_isWord_37 ?_
    rw [show (nI sta) + 0 = nI (sta) from nI_add sta 0]
    refine va_bald hx hb hK hP 1 1 rfl rfl (vp_in_nI (by omega) (by decide)) dX7_isWord_38 ?_
    rw [nI_clamp (n := sta) (by omega)]
    refine lv_aload_n hx hb dX7_isWord_39 rfl (lv_at hl 2 rfl) ?_
    refine lv_iload_n hx hb dX7_isWord_40 rfl (lv_at hl 0 rfl) ?_
    have hs9 : kw_Split [(tx, .inr (7, [.ref bys, .int (nI ln), .int tok, .int (nI sta), .int (nI en), .int num, .ref wo, .ref fs, .ref sc, .int tfi, .int tgl, .int tst])), (bys, .inl (y 1, 150, .inl fby))] [] [(tx, .inr (7, [.ref bys, .int (nI ln), .int tok, .int (nI sta), .int (nI en), .int num, .ref wo, .ref fs, .ref sc, .int tfi, .int tgl, .int tst])), (bys, .inl (y 1, 150, .inl fby))] [] [0, 1] := ⟨rfl, rfl, rfl, rfl, rfl, by decide⟩
    refine kw_go_i hs9 hP hD hS hA (va_runV (As := [.int 0]) (rest := [.int (fby sta)]) ⟨hx, hb, hml, hown, hts⟩ (gs_charAt2 l D y aK aV 0 (by omega) _) (cwV 1 hts gX7_isWord_J0_charAt_5068e rfl rfl rfl (by decide +kernel) ⟨Nat.le_of_ble_eq_true rfl, Nat.le_of_ble_eq_true rfl⟩) (kz_PreK (i := 2) hs9 hP hD hK hN (by decide) hZ hS hA) rfl rfl hl.1 rfl (lv_room (Nat.le_of_ble_eq_true rfl)) dX7_isWord_41 ⟨Nat.le_of_ble_eq_true rfl, Nat.le_of_ble_eq_true rfl⟩) (fun r10 u11 H locs hq hP hD hS => ?_)
    obtain rfl := hq
    rw [show kz_w 2 0 = 103 from rfl]
    have hP : va_P D vwCl [(tx, .inr (7, [.ref bys, .int (nI ln), .int tok, .int (nI sta), .int (nI en), .int num, .ref wo, .ref fs, .ref sc, .int tfi, .int tgl, .int tst])), (bys, .inl (y 1, 150, .inl fby))] H := hP
    have hD : va_D A [(tx, .inr (7, [.ref bys, .int (nI ln), .int tok, .int (nI sta), .int (nI en), .int num, .ref wo, .ref fs, .ref sc, .int tfi, .int tgl, .int tst])), (bys, .inl (y 1, 150, .inl fby))] := hD
    refine lv_icmp_eq (tgt := 49) hx hb dX7_isWord_44 (by decide) (fun h12 => ?_) (fun h13 => ?_)
    · skip
      refine lv_iinc (v := 1) (lv' := [(2, .int 1), (0, .ref tx), (1, .ref (aK 2))]) hx hb dX7_isWord_49 hl (k := 0) rfl (by decide) (by decide) rfl (fun ls hl => ?_)
      refine lv_goto (tgt := 20) hx hb dX7_isWord_52 (by decide) ?_
      refine lv_iload_n hx hb dX7_isWord_20 rfl (lv_at hl 0 rfl) ?_
      refine lv_aload_n hx hb dX7_isWord_21 rfl (lv_at hl 2 rfl) ?_
      have hs14 : kw_Split [(tx, .inr (7, [.ref bys, .int (nI ln), .int tok, .int (nI sta), .int (nI en), .int num, .ref wo, .ref fs, .ref sc, .int tfi, .int tgl, .int tst])), (bys, .inl (y 1, 150, .inl fby))] [] [(tx, .inr (7, [.ref bys, .int (nI ln), .int tok, .int (nI sta), .int (nI en), .int num, .ref wo, .ref fs, .ref sc, .int tfi, .int tgl, .int tst])), (bys, .inl (y 1, 150, .inl fby))] [] [0, 1] := ⟨rfl, rfl, rfl, rfl, rfl, by decide⟩
      refine kw_go_i hs14 hP hD hS hA (va_runV (As := []) (rest := [.int 1]) ⟨hx, hb, hml, hown, hts⟩ (gj_length2 l D y aK aV  _) (cwV 0 hts gX7_isWord_J0_length_8abf5 rfl rfl rfl (by decide +kernel) ⟨Nat.le_of_ble_eq_true rfl, Nat.le_of_ble_eq_true rfl⟩) (kz_PreK (i := 2) hs14 hP hD hK hN (by decide) hZ hS hA) rfl rfl hl.1 rfl (lv_room (Nat.le_of_ble_eq_true rfl)) dX7_isWord_22 ⟨Nat.le_of_ble_eq_true rfl, Nat.le_of_ble_eq_true rfl⟩) (fun r15 u16 H locs hq hP hD hS => ?_)
      obtain rfl := hq
      have hP : va_P D vwCl [(tx, .inr (7, [.ref bys, .int (nI ln), .int tok, .int (nI sta), .int (nI en), .int num, .ref wo, .ref fs, .ref sc, .int tfi, .int tgl, .int tst])), (bys, .inl (y 1, 150, .inl fby))] H := hP
      have hD : va_D A [(tx, .inr (7, [.ref bys, .int (nI ln), .int tok, .int (nI sta), .int (nI en), .int num, .ref wo, .ref fs, .ref sc, .int tfi, .int tgl, .int tst])), (bys, .inl (y 1, 150, .inl fby))] := hD
      refine lv_icmp_ge (tgt := 55) hx hb dX7_isWord_25 (by decide) (fun h9 => absurd h9 (by decide)) (fun _ => ?_)
      refine lv_aload_n hx hb dX7_isWord_28 rfl (lv_at hl 1 rfl) ?_
      refine va_get (D := D) (ci := 7) (v := .ref bys) (C := RX7) (T := TX7) (N := 12) hx hb hts iw7 hown hK hP 0 rfl rfl 0 (by decide) fw3 (fun _ h9 => h9) rfl dX7_isWord_29 ?_
      refine lv_aload_n hx hb dX7_isWord_32 rfl (lv_at hl 1 rfl) ?_
      refine va_get (D := D) (ci := 7) (v := .int (nI sta)) (C := RX7) (T := TX7) (N := 12) hx hb hts iw7 hown hK hP 0 rfl rfl 3 (by decide) fw2 (fun _ h9 => h9) rfl dX7_isWord_33 ?_
      refine lv_iload_n hx hb dX7_isWord_36 rfl (lv_at hl 0 rfl) ?_
      refine lv_iadd hx hb dX7_isWord_37 ?_
      rw [show (nI sta) + 1 = nI (sta + 1) from nI_add sta 1]
      refine va_bald hx hb hK hP 1 1 rfl rfl (vp_in_nI (by omega) (by decide)) dX7_isWord_38 ?_
      rw [nI_clamp (n := (sta + 1)) (by omega)]
      refine lv_aload_n hx hb dX7_isWord_39 rfl (lv_at hl 2 rfl) ?_
      refine lv_iload_n hx hb dX7_isWord_40 rfl (lv_at hl 0 rfl) ?_
      have hs17 : kw_Split [(tx, .inr (7, [.ref bys, .int (nI ln), .int tok, .int (nI sta), .int (nI en), .int num, .ref wo, .ref fs, .ref sc, .int tfi, .int tgl, .int tst])), (bys, .inl (y 1, 150, .inl fby))] [] [(tx, .inr (7, [.ref bys, .int (nI ln), .int tok, .int (nI sta), .int (nI en), .int num, .ref wo, .ref fs, .ref sc, .int tfi, .int tgl, .int tst])), (bys, .inl (y 1, 150, .inl fby))] [] [0, 1] := ⟨rfl, rfl, rfl, rfl, rfl, by decide⟩
      refine kw_go_i hs17 hP hD hS hA (va_runV (As := [.int 1]) (rest := [.int (fby (sta + 1))]) ⟨hx, hb, hml, hown, hts⟩ (gs_charAt2 l D y aK aV 1 (by omega) _) (cwV 1 hts gX7_isWord_J0_charAt_5068e rfl rfl rfl (by decide +kernel) ⟨Nat.le_of_ble_eq_true rfl, Nat.le_of_ble_eq_true rfl⟩) (kz_PreK (i := 2) hs17 hP hD hK hN (by decide) hZ hS hA) rfl rfl hl.1 rfl (lv_room (Nat.le_of_ble_eq_true rfl)) dX7_isWord_41 ⟨Nat.le_of_ble_eq_true rfl, Nat.le_of_ble_eq_true rfl⟩) (fun r18 u19 H locs hq hP hD hS => ?_)
      obtain rfl := hq
      rw [show kz_w 2 1 = 108 from rfl]
      have hP : va_P D vwCl [(tx, .inr (7, [.ref bys, .int (nI ln), .int tok, .int (nI sta), .int (nI en), .int num, .ref wo, .ref fs, .ref sc, .int tfi, .int tgl, .int tst])), (bys, .inl (y 1, 150, .inl fby))] H := hP
      have hD : va_D A [(tx, .inr (7, [.ref bys, .int (nI ln), .int tok, .int (nI sta), .int (nI en), .int num, .ref wo, .ref fs, .ref sc, .int tfi, .int tgl, .int tst])), (bys, .inl (y 1, 150, .inl fby))] := hD
      refine lv_icmp_eq (tgt := 49) hx hb dX7_isWord_44 (by decide) (fun h20 => ?_) (fun h21 => ?_)
      · skip
        refine lv_iinc (v := 2) (lv' := [(2, .int 2), (0, .ref tx), (1, .ref (aK 2))]) hx hb dX7_isWord_49 hl (k := 0) rfl (by decide) (by decide) rfl (fun ls hl => ?_)
        refine lv_goto (tgt := 20) hx hb dX7_isWord_52 (by decide) ?_
        refine lv_iload_n hx hb dX7_isWord_20 rfl (lv_at hl 0 rfl) ?_
        refine lv_aload_n hx hb dX7_isWord_21 rfl (lv_at hl 2 rfl) ?_
        have hs22 : kw_Split [(tx, .inr (7, [.ref bys, .int (nI ln), .int tok, .int (nI sta), .int (nI en), .int num, .ref wo, .ref fs, .ref sc, .int tfi, .int tgl, .int tst])), (bys, .inl (y 1, 150, .inl fby))] [] [(tx, .inr (7, [.ref bys, .int (nI ln), .int tok, .int (nI sta), .int (nI en), .int num, .ref wo, .ref fs, .ref sc, .int tfi, .int tgl, .int tst])), (bys, .inl (y 1, 150, .inl fby))] [] [0, 1] := ⟨rfl, rfl, rfl, rfl, rfl, by decide⟩
        refine kw_go_i hs22 hP hD hS hA (va_runV (As := []) (rest := [.int 2]) ⟨hx, hb, hml, hown, hts⟩ (gj_length2 l D y aK aV  _) (cwV 0 hts gX7_isWord_J0_length_8abf5 rfl rfl rfl (by decide +kernel) ⟨Nat.le_of_ble_eq_true rfl, Nat.le_of_ble_eq_true rfl⟩) (kz_PreK (i := 2) hs22 hP hD hK hN (by decide) hZ hS hA) rfl rfl hl.1 rfl (lv_room (Nat.le_of_ble_eq_true rfl)) dX7_isWord_22 ⟨Nat.le_of_ble_eq_true rfl, Nat.le_of_ble_eq_true rfl⟩) (fun r23 u24 H locs hq hP hD hS => ?_)
        obtain rfl := hq
        have hP : va_P D vwCl [(tx, .inr (7, [.ref bys, .int (nI ln), .int tok, .int (nI sta), .int (nI en), .int num, .ref wo, .ref fs, .ref sc, .int tfi, .int tgl, .int tst])), (bys, .inl (y 1, 150, .inl fby))] H := hP
        have hD : va_D A [(tx, .inr (7, [.ref bys, .int (nI ln), .int tok, .int (nI sta), .int (nI en), .int num, .ref wo, .ref fs, .ref sc, .int tfi, .int tgl, .int tst])), (bys, .inl (y 1, 150, .inl fby))] := hD
        refine lv_icmp_ge (tgt := 55) hx hb dX7_isWord_25 (by decide) (fun h9 => absurd h9 (by decide)) (fun _ => ?_)
        refine lv_aload_n hx hb dX7_isWord_28 rfl (lv_at hl 1 rfl) ?_
        refine va_get (D := D) (ci := 7) (v := .ref bys) (C := RX7) (T := TX7) (N := 12) hx hb hts iw7 hown hK hP 0 rfl rfl 0 (by decide) fw3 (fun _ h9 => h9) rfl dX7_isWord_29 ?_
        refine lv_aload_n hx hb dX7_isWord_32 rfl (lv_at hl 1 rfl) ?_
        refine va_get (D := D) (ci := 7) (v := .int (nI sta)) (C := RX7) (T := TX7) (N := 12) hx hb hts iw7 hown hK hP 0 rfl rfl 3 (by decide) fw2 (fun _ h9 => h9) rfl dX7_isWord_33 ?_
        refine lv_iload_n hx hb dX7_isWord_36 rfl (lv_at hl 0 rfl) ?_
        refine lv_iadd hx hb dX7_isWord_37 ?_
        rw [show (nI sta) + 2 = nI (sta + 2) from nI_add sta 2]
        refine va_bald hx hb hK hP 1 1 rfl rfl (vp_in_nI (by omega) (by decide)) dX7_isWord_38 ?_
        rw [nI_clamp (n := (sta + 2)) (by omega)]
        refine lv_aload_n hx hb dX7_isWord_39 rfl (lv_at hl 2 rfl) ?_
        refine lv_iload_n hx hb dX7_isWord_40 rfl (lv_at hl 0 rfl) ?_
        have hs25 : kw_Split [(tx, .inr (7, [.ref bys, .int (nI ln), .int tok, .int (nI sta), .int (nI en), .int num, .ref wo, .ref fs, .ref sc, .int tfi, .int tgl, .int tst])), (bys, .inl (y 1, 150, .inl fby))] [] [(tx, .inr (7, [.ref bys, .int (nI ln), .int tok, .int (nI sta), .int (nI en), .int num, .ref wo, .ref fs, .ref sc, .int tfi, .int tgl, .int tst])), (bys, .inl (y 1, 150, .inl fby))] [] [0, 1] := ⟨rfl, rfl, rfl, rfl, rfl, by decide⟩
        refine kw_go_i hs25 hP hD hS hA (va_runV (As := [.int 2]) (rest := [.int (fby (sta + 2))]) ⟨hx, hb, hml, hown, hts⟩ (gs_charAt2 l D y aK aV 2 (by omega) _) (cwV 1 hts gX7_isWord_J0_charAt_5068e rfl rfl rfl (by decide +kernel) ⟨Nat.le_of_ble_eq_true rfl, Nat.le_of_ble_eq_true rfl⟩) (kz_PreK (i := 2) hs25 hP hD hK hN (by decide) hZ hS hA) rfl rfl hl.1 rfl (lv_room (Nat.le_of_ble_eq_true rfl)) dX7_isWord_41 ⟨Nat.le_of_ble_eq_true rfl, Nat.le_of_ble_eq_true rfl⟩) (fun r26 u27 H locs hq hP hD hS => ?_)
        obtain rfl := hq
        rw [show kz_w 2 2 = 101 from rfl]
        have hP : va_P D vwCl [(tx, .inr (7, [.ref bys, .int (nI ln), .int tok, .int (nI sta), .int (nI en), .int num, .ref wo, .ref fs, .ref sc, .int tfi, .int tgl, .int tst])), (bys, .inl (y 1, 150, .inl fby))] H := hP
        have hD : va_D A [(tx, .inr (7, [.ref bys, .int (nI ln), .int tok, .int (nI sta), .int (nI en), .int num, .ref wo, .ref fs, .ref sc, .int tfi, .int tgl, .int tst])), (bys, .inl (y 1, 150, .inl fby))] := hD
        refine lv_icmp_eq (tgt := 49) hx hb dX7_isWord_44 (by decide) (fun h28 => ?_) (fun h29 => ?_)
        · skip
          refine lv_iinc (v := 3) (lv' := [(2, .int 3), (0, .ref tx), (1, .ref (aK 2))]) hx hb dX7_isWord_49 hl (k := 0) rfl (by decide) (by decide) rfl (fun ls hl => ?_)
          refine lv_goto (tgt := 20) hx hb dX7_isWord_52 (by decide) ?_
          refine lv_iload_n hx hb dX7_isWord_20 rfl (lv_at hl 0 rfl) ?_
          refine lv_aload_n hx hb dX7_isWord_21 rfl (lv_at hl 2 rfl) ?_
          have hs30 : kw_Split [(tx, .inr (7, [.ref bys, .int (nI ln), .int tok, .int (nI sta), .int (nI en), .int num, .ref wo, .ref fs, .ref sc, .int tfi, .int tgl, .int tst])), (bys, .inl (y 1, 150, .inl fby))] [] [(tx, .inr (7, [.ref bys, .int (nI ln), .int tok, .int (nI sta), .int (nI en), .int num, .ref wo, .ref fs, .ref sc, .int tfi, .int tgl, .int tst])), (bys, .inl (y 1, 150, .inl fby))] [] [0, 1] := ⟨rfl, rfl, rfl, rfl, rfl, by decide⟩
          refine kw_go_i hs30 hP hD hS hA (va_runV (As := []) (rest := [.int 3]) ⟨hx, hb, hml, hown, hts⟩ (gj_length2 l D y aK aV  _) (cwV 0 hts gX7_isWord_J0_length_8abf5 rfl rfl rfl (by decide +kernel) ⟨Nat.le_of_ble_eq_true rfl, Nat.le_of_ble_eq_true rfl⟩) (kz_PreK (i := 2) hs30 hP hD hK hN (by decide) hZ hS hA) rfl rfl hl.1 rfl (lv_room (Nat.le_of_ble_eq_true rfl)) dX7_isWord_22 ⟨Nat.le_of_ble_eq_true rfl, Nat.le_of_ble_eq_true rfl⟩) (fun r31 u32 H locs hq hP hD hS => ?_)
          obtain rfl := hq
          have hP : va_P D vwCl [(tx, .inr (7, [.ref bys, .int (nI ln), .int tok, .int (nI sta), .int (nI en), .int num, .ref wo, .ref fs, .ref sc, .int tfi, .int tgl, .int tst])), (bys, .inl (y 1, 150, .inl fby))] H := hP
          have hD : va_D A [(tx, .inr (7, [.ref bys, .int (nI ln), .int tok, .int (nI sta), .int (nI en), .int num, .ref wo, .ref fs, .ref sc, .int tfi, .int tgl, .int tst])), (bys, .inl (y 1, 150, .inl fby))] := hD
          refine lv_icmp_ge (tgt := 55) hx hb dX7_isWord_25 (by decide) (fun h9 => absurd h9 (by decide)) (fun _ => ?_)
          refine lv_aload_n hx hb dX7_isWord_28 rfl (lv_at hl 1 rfl) ?_
          refine va_get (D := D) (ci := 7) (v := .ref bys) (C := RX7) (T := TX7) (N := 12) hx hb hts iw7 hown hK hP 0 rfl rfl 0 (by decide) fw3 (fun _ h9 => h9) rfl dX7_isWord_29 ?_
          refine lv_aload_n hx hb dX7_isWord_32 rfl (lv_at hl 1 rfl) ?_
          refine va_get (D := D) (ci := 7) (v := .int (nI sta)) (C := RX7) (T := TX7) (N := 12) hx hb hts iw7 hown hK hP 0 rfl rfl 3 (by decide) fw2 (fun _ h9 => h9) rfl dX7_isWord_33 ?_
          refine lv_iload_n hx hb dX7_isWord_36 rfl (lv_at hl 0 rfl) ?_
          refine lv_iadd hx hb dX7_isWord_37 ?_
          rw [show (nI sta) + 3 = nI (sta + 3) from nI_add sta 3]
          refine va_bald hx hb hK hP 1 1 rfl rfl (vp_in_nI (by omega) (by decide)) dX7_isWord_38 ?_
          rw [nI_clamp (n := (sta + 3)) (by omega)]
          refine lv_aload_n hx hb dX7_isWord_39 rfl (lv_at hl 2 rfl) ?_
          refine lv_iload_n hx hb dX7_isWord_40 rfl (lv_at hl 0 rfl) ?_
          have hs33 : kw_Split [(tx, .inr (7, [.ref bys, .int (nI ln), .int tok, .int (nI sta), .int (nI en), .int num, .ref wo, .ref fs, .ref sc, .int tfi, .int tgl, .int tst])), (bys, .inl (y 1, 150, .inl fby))] [] [(tx, .inr (7, [.ref bys, .int (nI ln), .int tok, .int (nI sta), .int (nI en), .int num, .ref wo, .ref fs, .ref sc, .int tfi, .int tgl, .int tst])), (bys, .inl (y 1, 150, .inl fby))] [] [0, 1] := ⟨rfl, rfl, rfl, rfl, rfl, by decide⟩
          refine kw_go_i hs33 hP hD hS hA (va_runV (As := [.int 3]) (rest := [.int (fby (sta + 3))]) ⟨hx, hb, hml, hown, hts⟩ (gs_charAt2 l D y aK aV 3 (by omega) _) (cwV 1 hts gX7_isWord_J0_charAt_5068e rfl rfl rfl (by decide +kernel) ⟨Nat.le_of_ble_eq_true rfl, Nat.le_of_ble_eq_true rfl⟩) (kz_PreK (i := 2) hs33 hP hD hK hN (by decide) hZ hS hA) rfl rfl hl.1 rfl (lv_room (Nat.le_of_ble_eq_true rfl)) dX7_isWord_41 ⟨Nat.le_of_ble_eq_true rfl, Nat.le_of_ble_eq_true rfl⟩) (fun r34 u35 H locs hq hP hD hS => ?_)
          obtain rfl := hq
          rw [show kz_w 2 3 = 97 from rfl]
          have hP : va_P D vwCl [(tx, .inr (7, [.ref bys, .int (nI ln), .int tok, .int (nI sta), .int (nI en), .int num, .ref wo, .ref fs, .ref sc, .int tfi, .int tgl, .int tst])), (bys, .inl (y 1, 150, .inl fby))] H := hP
          have hD : va_D A [(tx, .inr (7, [.ref bys, .int (nI ln), .int tok, .int (nI sta), .int (nI en), .int num, .ref wo, .ref fs, .ref sc, .int tfi, .int tgl, .int tst])), (bys, .inl (y 1, 150, .inl fby))] := hD
          refine lv_icmp_eq (tgt := 49) hx hb dX7_isWord_44 (by decide) (fun h36 => ?_) (fun h37 => ?_)
          · skip
            refine lv_iinc (v := 4) (lv' := [(2, .int 4), (0, .ref tx), (1, .ref (aK 2))]) hx hb dX7_isWord_49 hl (k := 0) rfl (by decide) (by decide) rfl (fun ls hl => ?_)
            refine lv_goto (tgt := 20) hx hb dX7_isWord_52 (by decide) ?_
            refine lv_iload_n hx hb dX7_isWord_20 rfl (lv_at hl 0 rfl) ?_
            refine lv_aload_n hx hb dX7_isWord_21 rfl (lv_at hl 2 rfl) ?_
            have hs38 : kw_Split [(tx, .inr (7, [.ref bys, .int (nI ln), .int tok, .int (nI sta), .int (nI en), .int num, .ref wo, .ref fs, .ref sc, .int tfi, .int tgl, .int tst])), (bys, .inl (y 1, 150, .inl fby))] [] [(tx, .inr (7, [.ref bys, .int (nI ln), .int tok, .int (nI sta), .int (nI en), .int num, .ref wo, .ref fs, .ref sc, .int tfi, .int tgl, .int tst])), (bys, .inl (y 1, 150, .inl fby))] [] [0, 1] := ⟨rfl, rfl, rfl, rfl, rfl, by decide⟩
            refine kw_go_i hs38 hP hD hS hA (va_runV (As := []) (rest := [.int 4]) ⟨hx, hb, hml, hown, hts⟩ (gj_length2 l D y aK aV  _) (cwV 0 hts gX7_isWord_J0_length_8abf5 rfl rfl rfl (by decide +kernel) ⟨Nat.le_of_ble_eq_true rfl, Nat.le_of_ble_eq_true rfl⟩) (kz_PreK (i := 2) hs38 hP hD hK hN (by decide) hZ hS hA) rfl rfl hl.1 rfl (lv_room (Nat.le_of_ble_eq_true rfl)) dX7_isWord_22 ⟨Nat.le_of_ble_eq_true rfl, Nat.le_of_ble_eq_true rfl⟩) (fun r39 u40 H locs hq hP hD hS => ?_)
            obtain rfl := hq
            have hP : va_P D vwCl [(tx, .inr (7, [.ref bys, .int (nI ln), .int tok, .int (nI sta), .int (nI en), .int num, .ref wo, .ref fs, .ref sc, .int tfi, .int tgl, .int tst])), (bys, .inl (y 1, 150, .inl fby))] H := hP
            have hD : va_D A [(tx, .inr (7, [.ref bys, .int (nI ln), .int tok, .int (nI sta), .int (nI en), .int num, .ref wo, .ref fs, .ref sc, .int tfi, .int tgl, .int tst])), (bys, .inl (y 1, 150, .inl fby))] := hD
            refine lv_icmp_ge (tgt := 55) hx hb dX7_isWord_25 (by decide) (fun h9 => absurd h9 (by decide)) (fun _ => ?_)
            refine lv_aload_n hx hb dX7_isWord_28 rfl (lv_at hl 1 rfl) ?_
            refine va_get (D := D) (ci := 7) (v := .ref bys) (C := RX7) (T := TX7) (N := 12) hx hb hts iw7 hown hK hP 0 rfl rfl 0 (by decide) fw3 (fun _ h9 => h9) rfl dX7_isWord_29 ?_
            refine lv_aload_n hx hb dX7_isWord_32 rfl (lv_at hl 1 rfl) ?_
            refine va_get (D := D) (ci := 7) (v := .int (nI sta)) (C := RX7) (T := TX7) (N := 12) hx hb hts iw7 hown hK hP 0 rfl rfl 3 (by decide) fw2 (fun _ h9 => h9) rfl dX7_isWord_33 ?_
            refine lv_iload_n hx hb dX7_isWord_36 rfl (lv_at hl 0 rfl) ?_
            refine lv_iadd hx hb dX7_isWord_37 ?_
            rw [show (nI sta) + 4 = nI (sta + 4) from nI_add sta 4]
            refine va_bald hx hb hK hP 1 1 rfl rfl (vp_in_nI (by omega) (by decide)) dX7_isWord_38 ?_
            rw [nI_clamp (n := (sta + 4)) (by omega)]
            refine lv_aload_n hx hb dX7_isWord_39 rfl (lv_at hl 2 rfl) ?_
            refine lv_iload_n hx hb dX7_isWord_40 rfl (lv_at hl 0 rfl) ?_
            have hs41 : kw_Split [(tx, .inr (7, [.ref bys, .int (nI ln), .int tok, .int (nI sta), .int (nI en), .int num, .ref wo, .ref fs, .ref sc, .int tfi, .int tgl, .int tst])), (bys, .inl (y 1, 150, .inl fby))] [] [(tx, .inr (7, [.ref bys, .int (nI ln), .int tok, .int (nI sta), .int (nI en), .int num, .ref wo, .ref fs, .ref sc, .int tfi, .int tgl, .int tst])), (bys, .inl (y 1, 150, .inl fby))] [] [0, 1] := ⟨rfl, rfl, rfl, rfl, rfl, by decide⟩
            refine kw_go_i hs41 hP hD hS hA (va_runV (As := [.int 4]) (rest := [.int (fby (sta + 4))]) ⟨hx, hb, hml, hown, hts⟩ (gs_charAt2 l D y aK aV 4 (by omega) _) (cwV 1 hts gX7_isWord_J0_charAt_5068e rfl rfl rfl (by decide +kernel) ⟨Nat.le_of_ble_eq_true rfl, Nat.le_of_ble_eq_true rfl⟩) (kz_PreK (i := 2) hs41 hP hD hK hN (by decide) hZ hS hA) rfl rfl hl.1 rfl (lv_room (Nat.le_of_ble_eq_true rfl)) dX7_isWord_41 ⟨Nat.le_of_ble_eq_true rfl, Nat.le_of_ble_eq_true rfl⟩) (fun r42 u43 H locs hq hP hD hS => ?_)
            obtain rfl := hq
            rw [show kz_w 2 4 = 110 from rfl]
            have hP : va_P D vwCl [(tx, .inr (7, [.ref bys, .int (nI ln), .int tok, .int (nI sta), .int (nI en), .int num, .ref wo, .ref fs, .ref sc, .int tfi, .int tgl, .int tst])), (bys, .inl (y 1, 150, .inl fby))] H := hP
            have hD : va_D A [(tx, .inr (7, [.ref bys, .int (nI ln), .int tok, .int (nI sta), .int (nI en), .int num, .ref wo, .ref fs, .ref sc, .int tfi, .int tgl, .int tst])), (bys, .inl (y 1, 150, .inl fby))] := hD
            refine lv_icmp_eq (tgt := 49) hx hb dX7_isWord_44 (by decide) (fun h44 => ?_) (fun h45 => ?_)
            · skip
              refine lv_iinc (v := 5) (lv' := [(2, .int 5), (0, .ref tx), (1, .ref (aK 2))]) hx hb dX7_isWord_49 hl (k := 0) rfl (by decide) (by decide) rfl (fun ls hl => ?_)
              refine lv_goto (tgt := 20) hx hb dX7_isWord_52 (by decide) ?_
              refine lv_iload_n hx hb dX7_isWord_20 rfl (lv_at hl 0 rfl) ?_
              refine lv_aload_n hx hb dX7_isWord_21 rfl (lv_at hl 2 rfl) ?_
              have hs46 : kw_Split [(tx, .inr (7, [.ref bys, .int (nI ln), .int tok, .int (nI sta), .int (nI en), .int num, .ref wo, .ref fs, .ref sc, .int tfi, .int tgl, .int tst])), (bys, .inl (y 1, 150, .inl fby))] [] [(tx, .inr (7, [.ref bys, .int (nI ln), .int tok, .int (nI sta), .int (nI en), .int num, .ref wo, .ref fs, .ref sc, .int tfi, .int tgl, .int tst])), (bys, .inl (y 1, 150, .inl fby))] [] [0, 1] := ⟨rfl, rfl, rfl, rfl, rfl, by decide⟩
              refine kw_go_i hs46 hP hD hS hA (va_runV (As := []) (rest := [.int 5]) ⟨hx, hb, hml, hown, hts⟩ (gj_length2 l D y aK aV  _) (cwV 0 hts gX7_isWord_J0_length_8abf5 rfl rfl rfl (by decide +kernel) ⟨Nat.le_of_ble_eq_true rfl, Nat.le_of_ble_eq_true rfl⟩) (kz_PreK (i := 2) hs46 hP hD hK hN (by decide) hZ hS hA) rfl rfl hl.1 rfl (lv_room (Nat.le_of_ble_eq_true rfl)) dX7_isWord_22 ⟨Nat.le_of_ble_eq_true rfl, Nat.le_of_ble_eq_true rfl⟩) (fun r47 u48 H locs hq hP hD hS => ?_)
              obtain rfl := hq
              have hP : va_P D vwCl [(tx, .inr (7, [.ref bys, .int (nI ln), .int tok, .int (nI sta), .int (nI en), .int num, .ref wo, .ref fs, .ref sc, .int tfi, .int tgl, .int tst])), (bys, .inl (y 1, 150, .inl fby))] H := hP
              have hD : va_D A [(tx, .inr (7, [.ref bys, .int (nI ln), .int tok, .int (nI sta), .int (nI en), .int num, .ref wo, .ref fs, .ref sc, .int tfi, .int tgl, .int tst])), (bys, .inl (y 1, 150, .inl fby))] := hD
              refine lv_icmp_ge (tgt := 55) hx hb dX7_isWord_25 (by decide) (fun h9 => absurd h9 (by decide)) (fun _ => ?_)
              refine lv_aload_n hx hb dX7_isWord_28 rfl (lv_at hl 1 rfl) ?_
              refine va_get (D := D) (ci := 7) (v := .ref bys) (C := RX7) (T := TX7) (N := 12) hx hb hts iw7 hown hK hP 0 rfl rfl 0 (by decide) fw3 (fun _ h9 => h9) rfl dX7_isWord_29 ?_
              refine lv_aload_n hx hb dX7_isWord_32 rfl (lv_at hl 1 rfl) ?_
              refine va_get (D := D) (ci := 7) (v := .int (nI sta)) (C := RX7) (T := TX7) (N := 12) hx hb hts iw7 hown hK hP 0 rfl rfl 3 (by decide) fw2 (fun _ h9 => h9) rfl dX7_isWord_33 ?_
              refine lv_iload_n hx hb dX7_isWord_36 rfl (lv_at hl 0 rfl) ?_
              refine lv_iadd hx hb dX7_isWord_37 ?_
              rw [show (nI sta) + 5 = nI (sta + 5) from nI_add sta 5]
              refine va_bald hx hb hK hP 1 1 rfl rfl (vp_in_nI (by omega) (by decide)) dX7_isWord_38 ?_
              rw [nI_clamp (n := (sta + 5)) (by omega)]
              refine lv_aload_n hx hb dX7_isWord_39 rfl (lv_at hl 2 rfl) ?_
              refine lv_iload_n hx hb dX7_isWord_40 rfl (lv_at hl 0 rfl) ?_
              have hs49 : kw_Split [(tx, .inr (7, [.ref bys, .int (nI ln), .int tok, .int (nI sta), .int (nI en), .int num, .ref wo, .ref fs, .ref sc, .int tfi, .int tgl, .int tst])), (bys, .inl (y 1, 150, .inl fby))] [] [(tx, .inr (7, [.ref bys, .int (nI ln), .int tok, .int (nI sta), .int (nI en), .int num, .ref wo, .ref fs, .ref sc, .int tfi, .int tgl, .int tst])), (bys, .inl (y 1, 150, .inl fby))] [] [0, 1] := ⟨rfl, rfl, rfl, rfl, rfl, by decide⟩
              refine kw_go_i hs49 hP hD hS hA (va_runV (As := [.int 5]) (rest := [.int (fby (sta + 5))]) ⟨hx, hb, hml, hown, hts⟩ (gs_charAt2 l D y aK aV 5 (by omega) _) (cwV 1 hts gX7_isWord_J0_charAt_5068e rfl rfl rfl (by decide +kernel) ⟨Nat.le_of_ble_eq_true rfl, Nat.le_of_ble_eq_true rfl⟩) (kz_PreK (i := 2) hs49 hP hD hK hN (by decide) hZ hS hA) rfl rfl hl.1 rfl (lv_room (Nat.le_of_ble_eq_true rfl)) dX7_isWord_41 ⟨Nat.le_of_ble_eq_true rfl, Nat.le_of_ble_eq_true rfl⟩) (fun r50 u51 H locs hq hP hD hS => ?_)
              obtain rfl := hq
              rw [show kz_w 2 5 = 101 from rfl]
              have hP : va_P D vwCl [(tx, .inr (7, [.ref bys, .int (nI ln), .int tok, .int (nI sta), .int (nI en), .int num, .ref wo, .ref fs, .ref sc, .int tfi, .int tgl, .int tst])), (bys, .inl (y 1, 150, .inl fby))] H := hP
              have hD : va_D A [(tx, .inr (7, [.ref bys, .int (nI ln), .int tok, .int (nI sta), .int (nI en), .int num, .ref wo, .ref fs, .ref sc, .int tfi, .int tgl, .int tst])), (bys, .inl (y 1, 150, .inl fby))] := hD
              refine lv_icmp_eq (tgt := 49) hx hb dX7_isWord_44 (by decide) (fun h52 => ?_) (fun h53 => ?_)
              · skip
                refine lv_iinc (v := 6) (lv' := [(2, .int 6), (0, .ref tx), (1, .ref (aK 2))]) hx hb dX7_isWord_49 hl (k := 0) rfl (by decide) (by decide) rfl (fun ls hl => ?_)
                refine lv_goto (tgt := 20) hx hb dX7_isWord_52 (by decide) ?_
                refine lv_iload_n hx hb dX7_isWord_20 rfl (lv_at hl 0 rfl) ?_
                refine lv_aload_n hx hb dX7_isWord_21 rfl (lv_at hl 2 rfl) ?_
                have hs54 : kw_Split [(tx, .inr (7, [.ref bys, .int (nI ln), .int tok, .int (nI sta), .int (nI en), .int num, .ref wo, .ref fs, .ref sc, .int tfi, .int tgl, .int tst])), (bys, .inl (y 1, 150, .inl fby))] [] [(tx, .inr (7, [.ref bys, .int (nI ln), .int tok, .int (nI sta), .int (nI en), .int num, .ref wo, .ref fs, .ref sc, .int tfi, .int tgl, .int tst])), (bys, .inl (y 1, 150, .inl fby))] [] [0, 1] := ⟨rfl, rfl, rfl, rfl, rfl, by decide⟩
                refine kw_go_i hs54 hP hD hS hA (va_runV (As := []) (rest := [.int 6]) ⟨hx, hb, hml, hown, hts⟩ (gj_length2 l D y aK aV  _) (cwV 0 hts gX7_isWord_J0_length_8abf5 rfl rfl rfl (by decide +kernel) ⟨Nat.le_of_ble_eq_true rfl, Nat.le_of_ble_eq_true rfl⟩) (kz_PreK (i := 2) hs54 hP hD hK hN (by decide) hZ hS hA) rfl rfl hl.1 rfl (lv_room (Nat.le_of_ble_eq_true rfl)) dX7_isWord_22 ⟨Nat.le_of_ble_eq_true rfl, Nat.le_of_ble_eq_true rfl⟩) (fun r55 u56 H locs hq hP hD hS => ?_)
                obtain rfl := hq
                have hP : va_P D vwCl [(tx, .inr (7, [.ref bys, .int (nI ln), .int tok, .int (nI sta), .int (nI en), .int num, .ref wo, .ref fs, .ref sc, .int tfi, .int tgl, .int tst])), (bys, .inl (y 1, 150, .inl fby))] H := hP
                have hD : va_D A [(tx, .inr (7, [.ref bys, .int (nI ln), .int tok, .int (nI sta), .int (nI en), .int num, .ref wo, .ref fs, .ref sc, .int tfi, .int tgl, .int tst])), (bys, .inl (y 1, 150, .inl fby))] := hD
                refine lv_icmp_ge (tgt := 55) hx hb dX7_isWord_25 (by decide) (fun h9 => absurd h9 (by decide)) (fun _ => ?_)
                refine lv_aload_n hx hb dX7_isWord_28 rfl (lv_at hl 1 rfl) ?_
                refine va_get (D := D) (ci := 7) (v := .ref bys) (C := RX7) (T := TX7) (N := 12) hx hb hts iw7 hown hK hP 0 rfl rfl 0 (by decide) fw3 (fun _ h9 => h9) rfl dX7_isWord_29 ?_
                refine lv_aload_n hx hb dX7_isWord_32 rfl (lv_at hl 1 rfl) ?_
                refine va_get (D := D) (ci := 7) (v := .int (nI sta)) (C := RX7) (T := TX7) (N := 12) hx hb hts iw7 hown hK hP 0 rfl rfl 3 (by decide) fw2 (fun _ h9 => h9) rfl dX7_isWord_33 ?_
                refine lv_iload_n hx hb dX7_isWord_36 rfl (lv_at hl 0 rfl) ?_
                refine lv_iadd hx hb dX7_isWord_37 ?_
                rw [show (nI sta) + 6 = nI (sta + 6) from nI_add sta 6]
                refine va_bald hx hb hK hP 1 1 rfl rfl (vp_in_nI (by omega) (by decide)) dX7_isWord_38 ?_
                rw [nI_clamp (n := (sta + 6)) (by omega)]
                refine lv_aload_n hx hb dX7_isWord_39 rfl (lv_at hl 2 rfl) ?_
                refine lv_iload_n hx hb dX7_isWord_40 rfl (lv_at hl 0 rfl) ?_
                have hs57 : kw_Split [(tx, .inr (7, [.ref bys, .int (nI ln), .int tok, .int (nI sta), .int (nI en), .int num, .ref wo, .ref fs, .ref sc, .int tfi, .int tgl, .int tst])), (bys, .inl (y 1, 150, .inl fby))] [] [(tx, .inr (7, [.ref bys, .int (nI ln), .int tok, .int (nI sta), .int (nI en), .int num, .ref wo, .ref fs, .ref sc, .int tfi, .int tgl, .int tst])), (bys, .inl (y 1, 150, .inl fby))] [] [0, 1] := ⟨rfl, rfl, rfl, rfl, rfl, by decide⟩
                refine kw_go_i hs57 hP hD hS hA (va_runV (As := [.int 6]) (rest := [.int (fby (sta + 6))]) ⟨hx, hb, hml, hown, hts⟩ (gs_charAt2 l D y aK aV 6 (by omega) _) (cwV 1 hts gX7_isWord_J0_charAt_5068e rfl rfl rfl (by decide +kernel) ⟨Nat.le_of_ble_eq_true rfl, Nat.le_of_ble_eq_true rfl⟩) (kz_PreK (i := 2) hs57 hP hD hK hN (by decide) hZ hS hA) rfl rfl hl.1 rfl (lv_room (Nat.le_of_ble_eq_true rfl)) dX7_isWord_41 ⟨Nat.le_of_ble_eq_true rfl, Nat.le_of_ble_eq_true rfl⟩) (fun r58 u59 H locs hq hP hD hS => ?_)
                obtain rfl := hq
                rw [show kz_w 2 6 = 114 from rfl]
                have hP : va_P D vwCl [(tx, .inr (7, [.ref bys, .int (nI ln), .int tok, .int (nI sta), .int (nI en), .int num, .ref wo, .ref fs, .ref sc, .int tfi, .int tgl, .int tst])), (bys, .inl (y 1, 150, .inl fby))] H := hP
                have hD : va_D A [(tx, .inr (7, [.ref bys, .int (nI ln), .int tok, .int (nI sta), .int (nI en), .int num, .ref wo, .ref fs, .ref sc, .int tfi, .int tgl, .int tst])), (bys, .inl (y 1, 150, .inl fby))] := hD
                refine lv_icmp_eq (tgt := 49) hx hb dX7_isWord_44 (by decide) (fun h60 => ?_) (fun h61 => ?_)
                · skip
                  refine lv_iinc (v := 7) (lv' := [(2, .int 7), (0, .ref tx), (1, .ref (aK 2))]) hx hb dX7_isWord_49 hl (k := 0) rfl (by decide) (by decide) rfl (fun ls hl => ?_)
                  refine lv_goto (tgt := 20) hx hb dX7_isWord_52 (by decide) ?_
                  refine lv_iload_n hx hb dX7_isWord_20 rfl (lv_at hl 0 rfl) ?_
                  refine lv_aload_n hx hb dX7_isWord_21 rfl (lv_at hl 2 rfl) ?_
                  have hs62 : kw_Split [(tx, .inr (7, [.ref bys, .int (nI ln), .int tok, .int (nI sta), .int (nI en), .int num, .ref wo, .ref fs, .ref sc, .int tfi, .int tgl, .int tst])), (bys, .inl (y 1, 150, .inl fby))] [] [(tx, .inr (7, [.ref bys, .int (nI ln), .int tok, .int (nI sta), .int (nI en), .int num, .ref wo, .ref fs, .ref sc, .int tfi, .int tgl, .int tst])), (bys, .inl (y 1, 150, .inl fby))] [] [0, 1] := ⟨rfl, rfl, rfl, rfl, rfl, by decide⟩
                  refine kw_go_i hs62 hP hD hS hA (va_runV (As := []) (rest := [.int 7]) ⟨hx, hb, hml, hown, hts⟩ (gj_length2 l D y aK aV  _) (cwV 0 hts gX7_isWord_J0_length_8abf5 rfl rfl rfl (by decide +kernel) ⟨Nat.le_of_ble_eq_true rfl, Nat.le_of_ble_eq_true rfl⟩) (kz_PreK (i := 2) hs62 hP hD hK hN (by decide) hZ hS hA) rfl rfl hl.1 rfl (lv_room (Nat.le_of_ble_eq_true rfl)) dX7_isWord_22 ⟨Nat.le_of_ble_eq_true rfl, Nat.le_of_ble_eq_true rfl⟩) (fun r63 u64 H locs hq hP hD hS => ?_)
                  obtain rfl := hq
                  have hP : va_P D vwCl [(tx, .inr (7, [.ref bys, .int (nI ln), .int tok, .int (nI sta), .int (nI en), .int num, .ref wo, .ref fs, .ref sc, .int tfi, .int tgl, .int tst])), (bys, .inl (y 1, 150, .inl fby))] H := hP
                  have hD : va_D A [(tx, .inr (7, [.ref bys, .int (nI ln), .int tok, .int (nI sta), .int (nI en), .int num, .ref wo, .ref fs, .ref sc, .int tfi, .int tgl, .int tst])), (bys, .inl (y 1, 150, .inl fby))] := hD
                  refine lv_icmp_ge (tgt := 55) hx hb dX7_isWord_25 (by decide) (fun _ => ?_) (fun h9 => absurd h9 (by decide))
                  refine lv_iconst (v := 1) hx hb dX7_isWord_55 (by decide) ?_
                  exact W.zret (v := 1) hx hb hr (by decide) (fun tZ ht hW => ⟨⟨1, (), rfl, Or.inl ⟨decide_eq_true ⟨by omega, h12, h20, h28, h36, h44, h52, h60⟩, rfl⟩, by rw [ht]; exact hP.sub [0, 1] rfl, hD.sub [0, 1] (by decide) rfl⟩, hS.F ht⟩) hS.2.2 dX7_isWord_56
                · skip
                  refine lv_iconst (v := 0) hx hb dX7_isWord_47 (by decide) ?_
                  exact W.zret (v := 0) hx hb hr (by decide) (fun tZ ht hW => ⟨⟨0, (), rfl, Or.inr (⟨fun q9 => absurd (of_decide_eq_true q9).2.2.2.2.2.2.2 h61, rfl⟩), by rw [ht]; exact hP.sub [0, 1] rfl, hD.sub [0, 1] (by decide) rfl⟩, hS.F ht⟩) hS.2.2 dX7_isWord_48
              · skip
                refine lv_iconst (v := 0) hx hb dX7_isWord_47 (by decide) ?_
                exact W.zret (v := 0) hx hb hr (by decide) (fun tZ ht hW => ⟨⟨0, (), rfl, Or.inr (⟨fun q9 => absurd (of_decide_eq_true q9).2.2.2.2.2.2.1 h53, rfl⟩), by rw [ht]; exact hP.sub [0, 1] rfl, hD.sub [0, 1] (by decide) rfl⟩, hS.F ht⟩) hS.2.2 dX7_isWord_48
            · skip
              refine lv_iconst (v := 0) hx hb dX7_isWord_47 (by decide) ?_
              exact W.zret (v := 0) hx hb hr (by decide) (fun tZ ht hW => ⟨⟨0, (), rfl, Or.inr (⟨fun q9 => absurd (of_decide_eq_true q9).2.2.2.2.2.1 h45, rfl⟩), by rw [ht]; exact hP.sub [0, 1] rfl, hD.sub [0, 1] (by decide) rfl⟩, hS.F ht⟩) hS.2.2 dX7_isWord_48
          · skip
            refine lv_iconst (v := 0) hx hb dX7_isWord_47 (by decide) ?_
            exact W.zret (v := 0) hx hb hr (by decide) (fun tZ ht hW => ⟨⟨0, (), rfl, Or.inr (⟨fun q9 => absurd (of_decide_eq_true q9).2.2.2.2.1 h37, rfl⟩), by rw [ht]; exact hP.sub [0, 1] rfl, hD.sub [0, 1] (by decide) rfl⟩, hS.F ht⟩) hS.2.2 dX7_isWord_48
        · skip
          refine lv_iconst (v := 0) hx hb dX7_isWord_47 (by decide) ?_
          exact W.zret (v := 0) hx hb hr (by decide) (fun tZ ht hW => ⟨⟨0, (), rfl, Or.inr (⟨fun q9 => absurd (of_decide_eq_true q9).2.2.2.1 h29, rfl⟩), by rw [ht]; exact hP.sub [0, 1] rfl, hD.sub [0, 1] (by decide) rfl⟩, hS.F ht⟩) hS.2.2 dX7_isWord_48
      · skip
        refine lv_iconst (v := 0) hx hb dX7_isWord_47 (by decide) ?_
        exact W.zret (v := 0) hx hb hr (by decide) (fun tZ ht hW => ⟨⟨0, (), rfl, Or.inr (⟨fun q9 => absurd (of_decide_eq_true q9).2.2.1 h21, rfl⟩), by rw [ht]; exact hP.sub [0, 1] rfl, hD.sub [0, 1] (by decide) rfl⟩, hS.F ht⟩) hS.2.2 dX7_isWord_48
    · skip
      refine lv_iconst (v := 0) hx hb dX7_isWord_47 (by decide) ?_
      exact W.zret (v := 0) hx hb hr (by decide) (fun tZ ht hW => ⟨⟨0, (), rfl, Or.inr (⟨fun q9 => absurd (of_decide_eq_true q9).2.1 h13, rfl⟩), by rw [ht]; exact hP.sub [0, 1] rfl, hD.sub [0, 1] (by decide) rfl⟩, hS.F ht⟩) hS.2.2 dX7_isWord_48
  · skip
    have h5 : ¬ (en - sta) = 7 := fun q9 => h5 ((nI_eq (a := (en - sta)) (b := 7) (by omega) (by omega)).mpr q9)
    refine lv_iconst (v := 0) hx hb dX7_isWord_16 (by decide) ?_
    exact W.zret (v := 0) hx hb hr (by decide) (fun tZ ht hW => ⟨⟨0, (), rfl, Or.inr (⟨fun q9 => absurd (of_decide_eq_true q9).1 (by omega), rfl⟩), by rw [ht]; exact hP.sub [0, 1] rfl, hD.sub [0, 1] (by decide) rfl⟩, hS.F ht⟩) hS.2.2 dX7_isWord_17

set_option maxHeartbeats 4000000 in
set_option maxRecDepth 100000 in
theorem gs_isWord3 (l : Launch) (D : va_G) (y : Nat → ClassId) (aK : Nat → Nat) (aV : Nat → Nat) (tx : Nat) (bys : Nat) (wo : Nat) (fs : Nat) (sc : Nat) (ln : Nat) (sta : Nat) (en : Nat) (tok : Int32) (num : Int32) (tfi : Int32) (tgl : Int32) (tst : Int32) (fby : Nat → Int32) (hln : ln ≤ 150) (hen : en ≤ ln) (hse : sta ≤ en) : kz_Mi l yX7_isWord wsX7_isWord ({ frames := 5, cells := 0, slots := 0, locals := 145 }) D y [.ref tx, .ref (aK 3)] [(tx, .inr (7, [.ref bys, .int (nI ln), .int tok, .int (nI sta), .int (nI en), .int num, .ref wo, .ref fs, .ref sc, .int tfi, .int tgl, .int tst])), (bys, .inl (y 1, 150, .inl fby))] aK aV (fun (r : Int32) (u : Unit) => (ks_e3 fby sta en = true ∧ r = 1) ∨ (¬ ks_e3 fby sta en = true ∧ r = 0)) (fun _ => [(tx, .inr (7, [.ref bys, .int (nI ln), .int tok, .int (nI sta), .int (nI en), .int num, .ref wo, .ref fs, .ref sc, .int tfi, .int tgl, .int tst])), (bys, .inl (y 1, 150, .inl fby))]) 0 0 := by
  refine kz_Mi.of (cc := cX7_isWord) (maxL := 3) (ret := (some .boolean)) (by decide) rfl ?_
  intro pZ eZ s mZ beZ meZ cZ A hE
  obtain ⟨hx, hb, hr, hml, hts, hown, hlocks, hin, hA, hP, hD, hK, hN, hZ⟩ := hE
  have hS : va_S A s.heap s.heap [] := va_S.rf
  have hl := lv_entry ([.ref tx, .ref (aK 3)]) (n := 3) (Nat.le_of_ble_eq_true rfl)
  rw [lg_entry_eq]
  generalize (lg_sl ([.ref tx, .ref (aK 3)]) ++ List.replicate (3 - (lg_sl ([.ref tx, .ref (aK 3)])).length) Slot.unset).toArray = ls at hl ⊢
  have hl : lv_has ls 3 [(0, .ref tx), (1, .ref (aK 3))] := hl
  have fw1 := hts (.fieldLink RX7 29 "GleanDusk$Text" "end" "I") (List.mem_of_getElem? (i := 1) rfl)
  have fw2 := hts (.fieldLink RX7 51 "GleanDusk$Text" "start" "I") (List.mem_of_getElem? (i := 2) rfl)
  have fw3 := hts (.fieldLink RX7 9 "GleanDusk$Text" "bytes" "[B") (List.mem_of_getElem? (i := 3) rfl)
  have iw7 : ∀ w ∈ wsX70, w ∈ wsX7_isWord := fun _ h => List.mem_cons_of_mem _ (List.mem_append_right _ h)
  refine lv_aload_n hx hb dX7_isWord_0 rfl (lv_at hl 0 rfl) ?_
  refine va_get (D := D) (ci := 7) (v := .int (nI en)) (C := RX7) (T := TX7) (N := 12) hx hb hts iw7 hown hK hP 0 rfl rfl 4 (by decide) fw1 (fun _ h9 => h9) rfl dX7_isWord_1 ?_
  refine lv_aload_n hx hb dX7_isWord_4 rfl (lv_at hl 0 rfl) ?_
  refine va_get (D := D) (ci := 7) (v := .int (nI sta)) (C := RX7) (T := TX7) (N := 12) hx hb hts iw7 hown hK hP 0 rfl rfl 3 (by decide) fw2 (fun _ h9 => h9) rfl dX7_isWord_5 ?_
  refine lv_isub hx hb dX7_isWord_8 ?_
  rw [show (nI en) - (nI sta) = nI (en - sta) from pk_sub (a := en) (b := sta) (by omega)]
  refine lv_aload_n hx hb dX7_isWord_9 rfl (lv_at hl 1 rfl) ?_
  have hs1 : kw_Split [(tx, .inr (7, [.ref bys, .int (nI ln), .int tok, .int (nI sta), .int (nI en), .int num, .ref wo, .ref fs, .ref sc, .int tfi, .int tgl, .int tst])), (bys, .inl (y 1, 150, .inl fby))] [] [(tx, .inr (7, [.ref bys, .int (nI ln), .int tok, .int (nI sta), .int (nI en), .int num, .ref wo, .ref fs, .ref sc, .int tfi, .int tgl, .int tst])), (bys, .inl (y 1, 150, .inl fby))] [] [0, 1] := ⟨rfl, rfl, rfl, rfl, rfl, by decide⟩
  refine kw_go_i hs1 hP hD hS hA (va_runV (As := []) (rest := [.int (nI (en - sta))]) ⟨hx, hb, hml, hown, hts⟩ (gj_length3 l D y aK aV  _) (cwV 0 hts gX7_isWord_J0_length_8abf5 rfl rfl rfl (by decide +kernel) ⟨Nat.le_of_ble_eq_true rfl, Nat.le_of_ble_eq_true rfl⟩) (kz_PreK (i := 3) hs1 hP hD hK hN (by decide) hZ hS hA) rfl rfl hl.1 rfl (lv_room (Nat.le_of_ble_eq_true rfl)) dX7_isWord_10 ⟨Nat.le_of_ble_eq_true rfl, Nat.le_of_ble_eq_true rfl⟩) (fun r2 u3 H locs hq hP hD hS => ?_)
  obtain rfl := hq
  have hP : va_P D vwCl [(tx, .inr (7, [.ref bys, .int (nI ln), .int tok, .int (nI sta), .int (nI en), .int num, .ref wo, .ref fs, .ref sc, .int tfi, .int tgl, .int tst])), (bys, .inl (y 1, 150, .inl fby))] H := hP
  have hD : va_D A [(tx, .inr (7, [.ref bys, .int (nI ln), .int tok, .int (nI sta), .int (nI en), .int num, .ref wo, .ref fs, .ref sc, .int tfi, .int tgl, .int tst])), (bys, .inl (y 1, 150, .inl fby))] := hD
  refine lv_icmp_eq (tgt := 18) hx hb dX7_isWord_13 (by decide) (fun h4 => ?_) (fun h5 => ?_)
  · skip
    have h4 : (en - sta) = 5 := (nI_eq (a := (en - sta)) (b := 5) (by omega) (by omega)).mp h4
    refine lv_iconst (v := 0) hx hb dX7_isWord_18 (by decide) ?_
    refine lv_istore_n (lv' := [(2, .int 0), (0, .ref tx), (1, .ref (aK 3))]) hx hb dX7_isWord_19 rfl hl (by decide) rfl (fun ls hl => ?_)
    refine lv_iload_n hx hb dX7_isWord_20 rfl (lv_at hl 0 rfl) ?_
    refine lv_aload_n hx hb dX7_isWord_21 rfl (lv_at hl 2 rfl) ?_
    have hs6 : kw_Split [(tx, .inr (7, [.ref bys, .int (nI ln), .int tok, .int (nI sta), .int (nI en), .int num, .ref wo, .ref fs, .ref sc, .int tfi, .int tgl, .int tst])), (bys, .inl (y 1, 150, .inl fby))] [] [(tx, .inr (7, [.ref bys, .int (nI ln), .int tok, .int (nI sta), .int (nI en), .int num, .ref wo, .ref fs, .ref sc, .int tfi, .int tgl, .int tst])), (bys, .inl (y 1, 150, .inl fby))] [] [0, 1] := ⟨rfl, rfl, rfl, rfl, rfl, by decide⟩
    refine kw_go_i hs6 hP hD hS hA (va_runV (As := []) (rest := [.int 0]) ⟨hx, hb, hml, hown, hts⟩ (gj_length3 l D y aK aV  _) (cwV 0 hts gX7_isWord_J0_length_8abf5 rfl rfl rfl (by decide +kernel) ⟨Nat.le_of_ble_eq_true rfl, Nat.le_of_ble_eq_true rfl⟩) (kz_PreK (i := 3) hs6 hP hD hK hN (by decide) hZ hS hA) rfl rfl hl.1 rfl (lv_room (Nat.le_of_ble_eq_true rfl)) dX7_isWord_22 ⟨Nat.le_of_ble_eq_true rfl, Nat.le_of_ble_eq_true rfl⟩) (fun r7 u8 H locs hq hP hD hS => ?_)
    obtain rfl := hq
    have hP : va_P D vwCl [(tx, .inr (7, [.ref bys, .int (nI ln), .int tok, .int (nI sta), .int (nI en), .int num, .ref wo, .ref fs, .ref sc, .int tfi, .int tgl, .int tst])), (bys, .inl (y 1, 150, .inl fby))] H := hP
    have hD : va_D A [(tx, .inr (7, [.ref bys, .int (nI ln), .int tok, .int (nI sta), .int (nI en), .int num, .ref wo, .ref fs, .ref sc, .int tfi, .int tgl, .int tst])), (bys, .inl (y 1, 150, .inl fby))] := hD
    refine lv_icmp_ge (tgt := 55) hx hb dX7_isWord_25 (by decide) (fun h9 => absurd h9 (by decide)) (fun _ => ?_)
    refine lv_aload_n hx hb dX7_isWord_28 rfl (lv_at hl 1 rfl) ?_
    refine va_get (D := D) (ci := 7) (v := .ref bys) (C := RX7) (T := TX7) (N := 12) hx hb hts iw7 hown hK hP 0 rfl rfl 0 (by decide) fw3 (fun _ h9 => h9) rfl dX7_isWord_29 ?_
    refine lv_aload_n hx hb dX7_isWord_32 rfl (lv_at hl 1 rfl) ?_
    refine va_get (D := D) (ci := 7) (v := .int (nI sta)) (C := RX7) (T := TX7) (N := 12) hx hb hts iw7 hown hK hP 0 rfl rfl 3 (by decide) fw2 (fun _ h9 => h9) rfl dX7_isWord_33 ?_
    refine lv_iload_n hx hb dX7_isWord_36 rfl (lv_at hl 0 rfl) ?_
    refine lv_iadd hx hb dX7_isWord_37 ?_
    rw [show (nI sta) + 0 = nI (sta) from nI_add sta 0]
    refine va_bald hx hb hK hP 1 1 rfl rfl (vp_in_nI (by omega) (by decide)) dX7_isWord_38 ?_
    rw [nI_clamp (n := sta) (by omega)]
    refine lv_aload_n hx hb dX7_isWord_39 rfl (lv_at hl 2 rfl) ?_
    refine lv_iload_n hx hb dX7_isWord_40 rfl (lv_at hl 0 rfl) ?_
    have hs9 : kw_Split [(tx, .inr (7, [.ref bys, .int (nI ln), .int tok, .int (nI sta), .int (nI en), .int num, .ref wo, .ref fs, .ref sc, .int tfi, .int tgl, .int tst])), (bys, .inl (y 1, 150, .inl fby))] [] [(tx, .inr (7, [.ref bys, .int (nI ln), .int tok, .int (nI sta), .int (nI en), .int num, .ref wo, .ref fs, .ref sc, .int tfi, .int tgl, .int tst])), (bys, .inl (y 1, 150, .inl fby))] [] [0, 1] := ⟨rfl, rfl, rfl, rfl, rfl, by decide⟩
    refine kw_go_i hs9 hP hD hS hA (va_runV (As := [.int 0]) (rest := [.int (fby sta)]) ⟨hx, hb, hml, hown, hts⟩ (gs_charAt3 l D y aK aV 0 (by omega) _) (cwV 1 hts gX7_isWord_J0_charAt_5068e rfl rfl rfl (by decide +kernel) ⟨Nat.le_of_ble_eq_true rfl, Nat.le_of_ble_eq_true rfl⟩) (kz_PreK (i := 3) hs9 hP hD hK hN (by decide) hZ hS hA) rfl rfl hl.1 rfl (lv_room (Nat.le_of_ble_eq_true rfl)) dX7_isWord_41 ⟨Nat.le_of_ble_eq_true rfl, Nat.le_of_ble_eq_true rfl⟩) (fun r10 u11 H locs hq hP hD hS => ?_)
    obtain rfl := hq
    rw [show kz_w 3 0 = 103 from rfl]
    have hP : va_P D vwCl [(tx, .inr (7, [.ref bys, .int (nI ln), .int tok, .int (nI sta), .int (nI en), .int num, .ref wo, .ref fs, .ref sc, .int tfi, .int tgl, .int tst])), (bys, .inl (y 1, 150, .inl fby))] H := hP
    have hD : va_D A [(tx, .inr (7, [.ref bys, .int (nI ln), .int tok, .int (nI sta), .int (nI en), .int num, .ref wo, .ref fs, .ref sc, .int tfi, .int tgl, .int tst])), (bys, .inl (y 1, 150, .inl fby))] := hD
    refine lv_icmp_eq (tgt := 49) hx hb dX7_isWord_44 (by decide) (fun h12 => ?_) (fun h13 => ?_)
    · skip
      refine lv_iinc (v := 1) (lv' := [(2, .int 1), (0, .ref tx), (1, .ref (aK 3))]) hx hb dX7_isWord_49 hl (k := 0) rfl (by decide) (by decide) rfl (fun ls hl => ?_)
      refine lv_goto (tgt := 20) hx hb dX7_isWord_52 (by decide) ?_
      refine lv_iload_n hx hb dX7_isWord_20 rfl (lv_at hl 0 rfl) ?_
      refine lv_aload_n hx hb dX7_isWord_21 rfl (lv_at hl 2 rfl) ?_
      have hs14 : kw_Split [(tx, .inr (7, [.ref bys, .int (nI ln), .int tok, .int (nI sta), .int (nI en), .int num, .ref wo, .ref fs, .ref sc, .int tfi, .int tgl, .int tst])), (bys, .inl (y 1, 150, .inl fby))] [] [(tx, .inr (7, [.ref bys, .int (nI ln), .int tok, .int (nI sta), .int (nI en), .int num, .ref wo, .ref fs, .ref sc, .int tfi, .int tgl, .int tst])), (bys, .inl (y 1, 150, .inl fby))] [] [0, 1] := ⟨rfl, rfl, rfl, rfl, rfl, by decide⟩
      refine kw_go_i hs14 hP hD hS hA (va_runV (As := []) (rest := [.int 1]) ⟨hx, hb, hml, hown, hts⟩ (gj_length3 l D y aK aV  _) (cwV 0 hts gX7_isWord_J0_length_8abf5 rfl rfl rfl (by decide +kernel) ⟨Nat.le_of_ble_eq_true rfl, Nat.le_of_ble_eq_true rfl⟩) (kz_PreK (i := 3) hs14 hP hD hK hN (by decide) hZ hS hA) rfl rfl hl.1 rfl (lv_room (Nat.le_of_ble_eq_true rfl)) dX7_isWord_22 ⟨Nat.le_of_ble_eq_true rfl, Nat.le_of_ble_eq_true rfl⟩) (fun r15 u16 H locs hq hP hD hS => ?_)
      obtain rfl := hq
      have hP : va_P D vwCl [(tx, .inr (7, [.ref bys, .int (nI ln), .int tok, .int (nI sta), .int (nI en), .int num, .ref wo, .ref fs, .ref sc, .int tfi, .int tgl, .int tst])), (bys, .inl (y 1, 150, .inl fby))] H := hP
      have hD : va_D A [(tx, .inr (7, [.ref bys, .int (nI ln), .int tok, .int (nI sta), .int (nI en), .int num, .ref wo, .ref fs, .ref sc, .int tfi, .int tgl, .int tst])), (bys, .inl (y 1, 150, .inl fby))] := hD
      refine lv_icmp_ge (tgt := 55) hx hb dX7_isWord_25 (by decide) (fun h9 => absurd h9 (by decide)) (fun _ => ?_)
      refine lv_aload_n hx hb dX7_isWord_28 rfl (lv_at hl 1 rfl) ?_
      refine va_get (D := D) (ci := 7) (v := .ref bys) (C := RX7) (T := TX7) (N := 12) hx hb hts iw7 hown hK hP 0 rfl rfl 0 (by decide) fw3 (fun _ h9 => h9) rfl dX7_isWord_29 ?_
      refine lv_aload_n hx hb dX7_isWord_32 rfl (lv_at hl 1 rfl) ?_
      refine va_get (D := D) (ci := 7) (v := .int (nI sta)) (C := RX7) (T := TX7) (N := 12) hx hb hts iw7 hown hK hP 0 rfl rfl 3 (by decide) fw2 (fun _ h9 => h9) rfl dX7_isWord_33 ?_
      refine lv_iload_n hx hb dX7_isWord_36 rfl (lv_at hl 0 rfl) ?_
      refine lv_iadd hx hb dX7_isWord_37 ?_
      rw [show (nI sta) + 1 = nI (sta + 1) from nI_add sta 1]
      refine va_bald hx hb hK hP 1 1 rfl rfl (vp_in_nI (by omega) (by decide)) dX7_isWord_38 ?_
      rw [nI_clamp (n := (sta + 1)) (by omega)]
      refine lv_aload_n hx hb dX7_isWord_39 rfl (lv_at hl 2 rfl) ?_
      refine lv_iload_n hx hb dX7_isWord_40 rfl (lv_at hl 0 rfl) ?_
      have hs17 : kw_Split [(tx, .inr (7, [.ref bys, .int (nI ln), .int tok, .int (nI sta), .int (nI en), .int num, .ref wo, .ref fs, .ref sc, .int tfi, .int tgl, .int tst])), (bys, .inl (y 1, 150, .inl fby))] [] [(tx, .inr (7, [.ref bys, .int (nI ln), .int tok, .int (nI sta), .int (nI en), .int num, .ref wo, .ref fs, .ref sc, .int tfi, .int tgl, .int tst])), (bys, .inl (y 1, 150, .inl fby))] [] [0, 1] := ⟨rfl, rfl, rfl, rfl, rfl, by decide⟩
      refine kw_go_i hs17 hP hD hS hA (va_runV (As := [.int 1]) (rest := [.int (fby (sta + 1))]) ⟨hx, hb, hml, hown, hts⟩ (gs_charAt3 l D y aK aV 1 (by omega) _) (cwV 1 hts gX7_isWord_J0_charAt_5068e rfl rfl rfl (by decide +kernel) ⟨Nat.le_of_ble_eq_true rfl, Nat.le_of_ble_eq_true rfl⟩) (kz_PreK (i := 3) hs17 hP hD hK hN (by decide) hZ hS hA) rfl rfl hl.1 rfl (lv_room (Nat.le_of_ble_eq_true rfl)) dX7_isWord_41 ⟨Nat.le_of_ble_eq_true rfl, Nat.le_of_ble_eq_true rfl⟩) (fun r18 u19 H locs hq hP hD hS => ?_)
      obtain rfl := hq
      rw [show kz_w 3 1 = 108 from rfl]
      have hP : va_P D vwCl [(tx, .inr (7, [.ref bys, .int (nI ln), .int tok, .int (nI sta), .int (nI en), .int num, .ref wo, .ref fs, .ref sc, .int tfi, .int tgl, .int tst])), (bys, .inl (y 1, 150, .inl fby))] H := hP
      have hD : va_D A [(tx, .inr (7, [.ref bys, .int (nI ln), .int tok, .int (nI sta), .int (nI en), .int num, .ref wo, .ref fs, .ref sc, .int tfi, .int tgl, .int tst])), (bys, .inl (y 1, 150, .inl fby))] := hD
      refine lv_icmp_eq (tgt := 49) hx hb dX7_isWord_44 (by decide) (fun h20 => ?_) (fun h21 => ?_)
      · skip
        refine lv_iinc (v := 2) (lv' := [(2, .int 2), (0, .ref tx), (1, .ref (aK 3))]) hx hb dX7_isWord_49 hl (k := 0) rfl (by decide) (by decide) rfl (fun ls hl => ?_)
        refine lv_goto (tgt := 20) hx hb dX7_isWord_52 (by decide) ?_
        refine lv_iload_n hx hb dX7_isWord_20 rfl (lv_at hl 0 rfl) ?_
        refine lv_aload_n hx hb dX7_isWord_21 rfl (lv_at hl 2 rfl) ?_
        have hs22 : kw_Split [(tx, .inr (7, [.ref bys, .int (nI ln), .int tok, .int (nI sta), .int (nI en), .int num, .ref wo, .ref fs, .ref sc, .int tfi, .int tgl, .int tst])), (bys, .inl (y 1, 150, .inl fby))] [] [(tx, .inr (7, [.ref bys, .int (nI ln), .int tok, .int (nI sta), .int (nI en), .int num, .ref wo, .ref fs, .ref sc, .int tfi, .int tgl, .int tst])), (bys, .inl (y 1, 150, .inl fby))] [] [0, 1] := ⟨rfl, rfl, rfl, rfl, rfl, by decide⟩
        refine kw_go_i hs22 hP hD hS hA (va_runV (As := []) (rest := [.int 2]) ⟨hx, hb, hml, hown, hts⟩ (gj_length3 l D y aK aV  _) (cwV 0 hts gX7_isWord_J0_length_8abf5 rfl rfl rfl (by decide +kernel) ⟨Nat.le_of_ble_eq_true rfl, Nat.le_of_ble_eq_true rfl⟩) (kz_PreK (i := 3) hs22 hP hD hK hN (by decide) hZ hS hA) rfl rfl hl.1 rfl (lv_room (Nat.le_of_ble_eq_true rfl)) dX7_isWord_22 ⟨Nat.le_of_ble_eq_true rfl, Nat.le_of_ble_eq_true rfl⟩) (fun r23 u24 H locs hq hP hD hS => ?_)
        obtain rfl := hq
        have hP : va_P D vwCl [(tx, .inr (7, [.ref bys, .int (nI ln), .int tok, .int (nI sta), .int (nI en), .int num, .ref wo, .ref fs, .ref sc, .int tfi, .int tgl, .int tst])), (bys, .inl (y 1, 150, .inl fby))] H := hP
        have hD : va_D A [(tx, .inr (7, [.ref bys, .int (nI ln), .int tok, .int (nI sta), .int (nI en), .int num, .ref wo, .ref fs, .ref sc, .int tfi, .int tgl, .int tst])), (bys, .inl (y 1, 150, .inl fby))] := hD
        refine lv_icmp_ge (tgt := 55) hx hb dX7_isWord_25 (by decide) (fun h9 => absurd h9 (by decide)) (fun _ => ?_)
        refine lv_aload_n hx hb dX7_isWord_28 rfl (lv_at hl 1 rfl) ?_
        refine va_get (D := D) (ci := 7) (v := .ref bys) (C := RX7) (T := TX7) (N := 12) hx hb hts iw7 hown hK hP 0 rfl rfl 0 (by decide) fw3 (fun _ h9 => h9) rfl dX7_isWord_29 ?_
        refine lv_aload_n hx hb dX7_isWord_32 rfl (lv_at hl 1 rfl) ?_
        refine va_get (D := D) (ci := 7) (v := .int (nI sta)) (C := RX7) (T := TX7) (N := 12) hx hb hts iw7 hown hK hP 0 rfl rfl 3 (by decide) fw2 (fun _ h9 => h9) rfl dX7_isWord_33 ?_
        refine lv_iload_n hx hb dX7_isWord_36 rfl (lv_at hl 0 rfl) ?_
        refine lv_iadd hx hb dX7_isWord_37 ?_
        rw [show (nI sta) + 2 = nI (sta + 2) from nI_add sta 2]
        refine va_bald hx hb hK hP 1 1 rfl rfl (vp_in_nI (by omega) (by decide)) dX7_isWord_38 ?_
        rw [nI_clamp (n := (sta + 2)) (by omega)]
        refine lv_aload_n hx hb dX7_isWord_39 rfl (lv_at hl 2 rfl) ?_
        refine lv_iload_n hx hb dX7_isWord_40 rfl (lv_at hl 0 rfl) ?_
        have hs25 : kw_Split [(tx, .inr (7, [.ref bys, .int (nI ln), .int tok, .int (nI sta), .int (nI en), .int num, .ref wo, .ref fs, .ref sc, .int tfi, .int tgl, .int tst])), (bys, .inl (y 1, 150, .inl fby))] [] [(tx, .inr (7, [.ref bys, .int (nI ln), .int tok, .int (nI sta), .int (nI en), .int num, .ref wo, .ref fs, .ref sc, .int tfi, .int tgl, .int tst])), (bys, .inl (y 1, 150, .inl fby))] [] [0, 1] := ⟨rfl, rfl, rfl, rfl, rfl, by decide⟩
        refine kw_go_i hs25 hP hD hS hA (va_runV (As := [.int 2]) (rest := [.int (fby (sta + 2))]) ⟨hx, hb, hml, hown, hts⟩ (gs_charAt3 l D y aK aV 2 (by omega) _) (cwV 1 hts gX7_isWord_J0_charAt_5068e rfl rfl rfl (by decide +kernel) ⟨Nat.le_of_ble_eq_true rfl, Nat.le_of_ble_eq_true rfl⟩) (kz_PreK (i := 3) hs25 hP hD hK hN (by decide) hZ hS hA) rfl rfl hl.1 rfl (lv_room (Nat.le_of_ble_eq_true rfl)) dX7_isWord_41 ⟨Nat.le_of_ble_eq_true rfl, Nat.le_of_ble_eq_true rfl⟩) (fun r26 u27 H locs hq hP hD hS => ?_)
        obtain rfl := hq
        rw [show kz_w 3 2 = 101 from rfl]
        have hP : va_P D vwCl [(tx, .inr (7, [.ref bys, .int (nI ln), .int tok, .int (nI sta), .int (nI en), .int num, .ref wo, .ref fs, .ref sc, .int tfi, .int tgl, .int tst])), (bys, .inl (y 1, 150, .inl fby))] H := hP
        have hD : va_D A [(tx, .inr (7, [.ref bys, .int (nI ln), .int tok, .int (nI sta), .int (nI en), .int num, .ref wo, .ref fs, .ref sc, .int tfi, .int tgl, .int tst])), (bys, .inl (y 1, 150, .inl fby))] := hD
        refine lv_icmp_eq (tgt := 49) hx hb dX7_isWord_44 (by decide) (fun h28 => ?_) (fun h29 => ?_)
        · skip
          refine lv_iinc (v := 3) (lv' := [(2, .int 3), (0, .ref tx), (1, .ref (aK 3))]) hx hb dX7_isWord_49 hl (k := 0) rfl (by decide) (by decide) rfl (fun ls hl => ?_)
          refine lv_goto (tgt := 20) hx hb dX7_isWord_52 (by decide) ?_
          refine lv_iload_n hx hb dX7_isWord_20 rfl (lv_at hl 0 rfl) ?_
          refine lv_aload_n hx hb dX7_isWord_21 rfl (lv_at hl 2 rfl) ?_
          have hs30 : kw_Split [(tx, .inr (7, [.ref bys, .int (nI ln), .int tok, .int (nI sta), .int (nI en), .int num, .ref wo, .ref fs, .ref sc, .int tfi, .int tgl, .int tst])), (bys, .inl (y 1, 150, .inl fby))] [] [(tx, .inr (7, [.ref bys, .int (nI ln), .int tok, .int (nI sta), .int (nI en), .int num, .ref wo, .ref fs, .ref sc, .int tfi, .int tgl, .int tst])), (bys, .inl (y 1, 150, .inl fby))] [] [0, 1] := ⟨rfl, rfl, rfl, rfl, rfl, by decide⟩
          refine kw_go_i hs30 hP hD hS hA (va_runV (As := []) (rest := [.int 3]) ⟨hx, hb, hml, hown, hts⟩ (gj_length3 l D y aK aV  _) (cwV 0 hts gX7_isWord_J0_length_8abf5 rfl rfl rfl (by decide +kernel) ⟨Nat.le_of_ble_eq_true rfl, Nat.le_of_ble_eq_true rfl⟩) (kz_PreK (i := 3) hs30 hP hD hK hN (by decide) hZ hS hA) rfl rfl hl.1 rfl (lv_room (Nat.le_of_ble_eq_true rfl)) dX7_isWord_22 ⟨Nat.le_of_ble_eq_true rfl, Nat.le_of_ble_eq_true rfl⟩) (fun r31 u32 H locs hq hP hD hS => ?_)
          obtain rfl := hq
          have hP : va_P D vwCl [(tx, .inr (7, [.ref bys, .int (nI ln), .int tok, .int (nI sta), .int (nI en), .int num, .ref wo, .ref fs, .ref sc, .int tfi, .int tgl, .int tst])), (bys, .inl (y 1, 150, .inl fby))] H := hP
          have hD : va_D A [(tx, .inr (7, [.ref bys, .int (nI ln), .int tok, .int (nI sta), .int (nI en), .int num, .ref wo, .ref fs, .ref sc, .int tfi, .int tgl, .int tst])), (bys, .inl (y 1, 150, .inl fby))] := hD
          refine lv_icmp_ge (tgt := 55) hx hb dX7_isWord_25 (by decide) (fun h9 => absurd h9 (by decide)) (fun _ => ?_)
          refine lv_aload_n hx hb dX7_isWord_28 rfl (lv_at hl 1 rfl) ?_
          refine va_get (D := D) (ci := 7) (v := .ref bys) (C := RX7) (T := TX7) (N := 12) hx hb hts iw7 hown hK hP 0 rfl rfl 0 (by decide) fw3 (fun _ h9 => h9) rfl dX7_isWord_29 ?_
          refine lv_aload_n hx hb dX7_isWord_32 rfl (lv_at hl 1 rfl) ?_
          refine va_get (D := D) (ci := 7) (v := .int (nI sta)) (C := RX7) (T := TX7) (N := 12) hx hb hts iw7 hown hK hP 0 rfl rfl 3 (by decide) fw2 (fun _ h9 => h9) rfl dX7_isWord_33 ?_
          refine lv_iload_n hx hb dX7_isWord_36 rfl (lv_at hl 0 rfl) ?_
          refine lv_iadd hx hb dX7_isWord_37 ?_
          rw [show (nI sta) + 3 = nI (sta + 3) from nI_add sta 3]
          refine va_bald hx hb hK hP 1 1 rfl rfl (vp_in_nI (by omega) (by decide)) dX7_isWord_38 ?_
          rw [nI_clamp (n := (sta + 3)) (by omega)]
          refine lv_aload_n hx hb dX7_isWord_39 rfl (lv_at hl 2 rfl) ?_
          refine lv_iload_n hx hb dX7_isWord_40 rfl (lv_at hl 0 rfl) ?_
          have hs33 : kw_Split [(tx, .inr (7, [.ref bys, .int (nI ln), .int tok, .int (nI sta), .int (nI en), .int num, .ref wo, .ref fs, .ref sc, .int tfi, .int tgl, .int tst])), (bys, .inl (y 1, 150, .inl fby))] [] [(tx, .inr (7, [.ref bys, .int (nI ln), .int tok, .int (nI sta), .int (nI en), .int num, .ref wo, .ref fs, .ref sc, .int tfi, .int tgl, .int tst])), (bys, .inl (y 1, 150, .inl fby))] [] [0, 1] := ⟨rfl, rfl, rfl, rfl, rfl, by decide⟩
          refine kw_go_i hs33 hP hD hS hA (va_runV (As := [.int 3]) (rest := [.int (fby (sta + 3))]) ⟨hx, hb, hml, hown, hts⟩ (gs_charAt3 l D y aK aV 3 (by omega) _) (cwV 1 hts gX7_isWord_J0_charAt_5068e rfl rfl rfl (by decide +kernel) ⟨Nat.le_of_ble_eq_true rfl, Nat.le_of_ble_eq_true rfl⟩) (kz_PreK (i := 3) hs33 hP hD hK hN (by decide) hZ hS hA) rfl rfl hl.1 rfl (lv_room (Nat.le_of_ble_eq_true rfl)) dX7_isWord_41 ⟨Nat.le_of_ble_eq_true rfl, Nat.le_of_ble_eq_true rfl⟩) (fun r34 u35 H locs hq hP hD hS => ?_)
          obtain rfl := hq
          rw [show kz_w 3 3 = 97 from rfl]
          have hP : va_P D vwCl [(tx, .inr (7, [.ref bys, .int (nI ln), .int tok, .int (nI sta), .int (nI en), .int num, .ref wo, .ref fs, .ref sc, .int tfi, .int tgl, .int tst])), (bys, .inl (y 1, 150, .inl fby))] H := hP
          have hD : va_D A [(tx, .inr (7, [.ref bys, .int (nI ln), .int tok, .int (nI sta), .int (nI en), .int num, .ref wo, .ref fs, .ref sc, .int tfi, .int tgl, .int tst])), (bys, .inl (y 1, 150, .inl fby))] := hD
          refine lv_icmp_eq (tgt := 49) hx hb dX7_isWord_44 (by decide) (fun h36 => ?_) (fun h37 => ?_)
          · skip
            refine lv_iinc (v := 4) (lv' := [(2, .int 4), (0, .ref tx), (1, .ref (aK 3))]) hx hb dX7_isWord_49 hl (k := 0) rfl (by decide) (by decide) rfl (fun ls hl => ?_)
            refine lv_goto (tgt := 20) hx hb dX7_isWord_52 (by decide) ?_
            refine lv_iload_n hx hb dX7_isWord_20 rfl (lv_at hl 0 rfl) ?_
            refine lv_aload_n hx hb dX7_isWord_21 rfl (lv_at hl 2 rfl) ?_
            have hs38 : kw_Split [(tx, .inr (7, [.ref bys, .int (nI ln), .int tok, .int (nI sta), .int (nI en), .int num, .ref wo, .ref fs, .ref sc, .int tfi, .int tgl, .int tst])), (bys, .inl (y 1, 150, .inl fby))] [] [(tx, .inr (7, [.ref bys, .int (nI ln), .int tok, .int (nI sta), .int (nI en), .int num, .ref wo, .ref fs, .ref sc, .int tfi, .int tgl, .int tst])), (bys, .inl (y 1, 150, .inl fby))] [] [0, 1] := ⟨rfl, rfl, rfl, rfl, rfl, by decide⟩
            refine kw_go_i hs38 hP hD hS hA (va_runV (As := []) (rest := [.int 4]) ⟨hx, hb, hml, hown, hts⟩ (gj_length3 l D y aK aV  _) (cwV 0 hts gX7_isWord_J0_length_8abf5 rfl rfl rfl (by decide +kernel) ⟨Nat.le_of_ble_eq_true rfl, Nat.le_of_ble_eq_true rfl⟩) (kz_PreK (i := 3) hs38 hP hD hK hN (by decide) hZ hS hA) rfl rfl hl.1 rfl (lv_room (Nat.le_of_ble_eq_true rfl)) dX7_isWord_22 ⟨Nat.le_of_ble_eq_true rfl, Nat.le_of_ble_eq_true rfl⟩) (fun r39 u40 H locs hq hP hD hS => ?_)
            obtain rfl := hq
            have hP : va_P D vwCl [(tx, .inr (7, [.ref bys, .int (nI ln), .int tok, .int (nI sta), .int (nI en), .int num, .ref wo, .ref fs, .ref sc, .int tfi, .int tgl, .int tst])), (bys, .inl (y 1, 150, .inl fby))] H := hP
            have hD : va_D A [(tx, .inr (7, [.ref bys, .int (nI ln), .int tok, .int (nI sta), .int (nI en), .int num, .ref wo, .ref fs, .ref sc, .int tfi, .int tgl, .int tst])), (bys, .inl (y 1, 150, .inl fby))] := hD
            refine lv_icmp_ge (tgt := 55) hx hb dX7_isWord_25 (by decide) (fun h9 => absurd h9 (by decide)) (fun _ => ?_)
            refine lv_aload_n hx hb dX7_isWord_28 rfl (lv_at hl 1 rfl) ?_
            refine va_get (D := D) (ci := 7) (v := .ref bys) (C := RX7) (T := TX7) (N := 12) hx hb hts iw7 hown hK hP 0 rfl rfl 0 (by decide) fw3 (fun _ h9 => h9) rfl dX7_isWord_29 ?_
            refine lv_aload_n hx hb dX7_isWord_32 rfl (lv_at hl 1 rfl) ?_
            refine va_get (D := D) (ci := 7) (v := .int (nI sta)) (C := RX7) (T := TX7) (N := 12) hx hb hts iw7 hown hK hP 0 rfl rfl 3 (by decide) fw2 (fun _ h9 => h9) rfl dX7_isWord_33 ?_
            refine lv_iload_n hx hb dX7_isWord_36 rfl (lv_at hl 0 rfl) ?_
            refine lv_iadd hx hb dX7_isWord_37 ?_
            rw [show (nI sta) + 4 = nI (sta + 4) from nI_add sta 4]
            refine va_bald hx hb hK hP 1 1 rfl rfl (vp_in_nI (by omega) (by decide)) dX7_isWord_38 ?_
            rw [nI_clamp (n := (sta + 4)) (by omega)]
            refine lv_aload_n hx hb dX7_isWord_39 rfl (lv_at hl 2 rfl) ?_
            refine lv_iload_n hx hb dX7_isWord_40 rfl (lv_at hl 0 rfl) ?_
            have hs41 : kw_Split [(tx, .inr (7, [.ref bys, .int (nI ln), .int tok, .int (nI sta), .int (nI en), .int num, .ref wo, .ref fs, .ref sc, .int tfi, .int tgl, .int tst])), (bys, .inl (y 1, 150, .inl fby))] [] [(tx, .inr (7, [.ref bys, .int (nI ln), .int tok, .int (nI sta), .int (nI en), .int num, .ref wo, .ref fs, .ref sc, .int tfi, .int tgl, .int tst])), (bys, .inl (y 1, 150, .inl fby))] [] [0, 1] := ⟨rfl, rfl, rfl, rfl, rfl, by decide⟩
            refine kw_go_i hs41 hP hD hS hA (va_runV (As := [.int 4]) (rest := [.int (fby (sta + 4))]) ⟨hx, hb, hml, hown, hts⟩ (gs_charAt3 l D y aK aV 4 (by omega) _) (cwV 1 hts gX7_isWord_J0_charAt_5068e rfl rfl rfl (by decide +kernel) ⟨Nat.le_of_ble_eq_true rfl, Nat.le_of_ble_eq_true rfl⟩) (kz_PreK (i := 3) hs41 hP hD hK hN (by decide) hZ hS hA) rfl rfl hl.1 rfl (lv_room (Nat.le_of_ble_eq_true rfl)) dX7_isWord_41 ⟨Nat.le_of_ble_eq_true rfl, Nat.le_of_ble_eq_true rfl⟩) (fun r42 u43 H locs hq hP hD hS => ?_)
            obtain rfl := hq
            rw [show kz_w 3 4 = 110 from rfl]
            have hP : va_P D vwCl [(tx, .inr (7, [.ref bys, .int (nI ln), .int tok, .int (nI sta), .int (nI en), .int num, .ref wo, .ref fs, .ref sc, .int tfi, .int tgl, .int tst])), (bys, .inl (y 1, 150, .inl fby))] H := hP
            have hD : va_D A [(tx, .inr (7, [.ref bys, .int (nI ln), .int tok, .int (nI sta), .int (nI en), .int num, .ref wo, .ref fs, .ref sc, .int tfi, .int tgl, .int tst])), (bys, .inl (y 1, 150, .inl fby))] := hD
            refine lv_icmp_eq (tgt := 49) hx hb dX7_isWord_44 (by decide) (fun h44 => ?_) (fun h45 => ?_)
            · skip
              refine lv_iinc (v := 5) (lv' := [(2, .int 5), (0, .ref tx), (1, .ref (aK 3))]) hx hb dX7_isWord_49 hl (k := 0) rfl (by decide) (by decide) rfl (fun ls hl => ?_)
              refine lv_goto (tgt := 20) hx hb dX7_isWord_52 (by decide) ?_
              refine lv_iload_n hx hb dX7_isWord_20 rfl (lv_at hl 0 rfl) ?_
              refine lv_aload_n hx hb dX7_isWord_21 rfl (lv_at hl 2 rfl) ?_
              have hs46 : kw_Split [(tx, .inr (7, [.ref bys, .int (nI ln), .int tok, .int (nI sta), .int (nI en), .int num, .ref wo, .ref fs, .ref sc, .int tfi, .int tgl, .int tst])), (bys, .inl (y 1, 150, .inl fby))] [] [(tx, .inr (7, [.ref bys, .int (nI ln), .int tok, .int (nI sta), .int (nI en), .int num, .ref wo, .ref fs, .ref sc, .int tfi, .int tgl, .int tst])), (bys, .inl (y 1, 150, .inl fby))] [] [0, 1] := ⟨rfl, rfl, rfl, rfl, rfl, by decide⟩
              refine kw_go_i hs46 hP hD hS hA (va_runV (As := []) (rest := [.int 5]) ⟨hx, hb, hml, hown, hts⟩ (gj_length3 l D y aK aV  _) (cwV 0 hts gX7_isWord_J0_length_8abf5 rfl rfl rfl (by decide +kernel) ⟨Nat.le_of_ble_eq_true rfl, Nat.le_of_ble_eq_true rfl⟩) (kz_PreK (i := 3) hs46 hP hD hK hN (by decide) hZ hS hA) rfl rfl hl.1 rfl (lv_room (Nat.le_of_ble_eq_true rfl)) dX7_isWord_22 ⟨Nat.le_of_ble_eq_true rfl, Nat.le_of_ble_eq_true rfl⟩) (fun r47 u48 H locs hq hP hD hS => ?_)
              obtain rfl := hq
              have hP : va_P D vwCl [(tx, .inr (7, [.ref bys, .int (nI ln), .int tok, .int (nI sta), .int (nI en), .int num, .ref wo, .ref fs, .ref sc, .int tfi, .int tgl, .int tst])), (bys, .inl (y 1, 150, .inl fby))] H := hP
              have hD : va_D A [(tx, .inr (7, [.ref bys, .int (nI ln), .int tok, .int (nI sta), .int (nI en), .int num, .ref wo, .ref fs, .ref sc, .int tfi, .int tgl, .int tst])), (bys, .inl (y 1, 150, .inl fby))] := hD
              refine lv_icmp_ge (tgt := 55) hx hb dX7_isWord_25 (by decide) (fun _ => ?_) (fun h9 => absurd h9 (by decide))
              refine lv_iconst (v := 1) hx hb dX7_isWord_55 (by decide) ?_
              exact W.zret (v := 1) hx hb hr (by decide) (fun tZ ht hW => ⟨⟨1, (), rfl, Or.inl ⟨decide_eq_true ⟨by omega, h12, h20, h28, h36, h44⟩, rfl⟩, by rw [ht]; exact hP.sub [0, 1] rfl, hD.sub [0, 1] (by decide) rfl⟩, hS.F ht⟩) hS.2.2 dX7_isWord_56
            · skip
              refine lv_iconst (v := 0) hx hb dX7_isWord_47 (by decide) ?_
              exact W.zret (v := 0) hx hb hr (by decide) (fun tZ ht hW => ⟨⟨0, (), rfl, Or.inr (⟨fun q9 => absurd (of_decide_eq_true q9).2.2.2.2.2 h45, rfl⟩), by rw [ht]; exact hP.sub [0, 1] rfl, hD.sub [0, 1] (by decide) rfl⟩, hS.F ht⟩) hS.2.2 dX7_isWord_48
          · skip
            refine lv_iconst (v := 0) hx hb dX7_isWord_47 (by decide) ?_
            exact W.zret (v := 0) hx hb hr (by decide) (fun tZ ht hW => ⟨⟨0, (), rfl, Or.inr (⟨fun q9 => absurd (of_decide_eq_true q9).2.2.2.2.1 h37, rfl⟩), by rw [ht]; exact hP.sub [0, 1] rfl, hD.sub [0, 1] (by decide) rfl⟩, hS.F ht⟩) hS.2.2 dX7_isWord_48
        · skip
          refine lv_iconst (v := 0) hx hb dX7_isWord_47 (by decide) ?_
          exact W.zret (v := 0) hx hb hr (by decide) (fun tZ ht hW => ⟨⟨0, (), rfl, Or.inr (⟨fun q9 => absurd (of_decide_eq_true q9).2.2.2.1 h29, rfl⟩), by rw [ht]; exact hP.sub [0, 1] rfl, hD.sub [0, 1] (by decide) rfl⟩, hS.F ht⟩) hS.2.2 dX7_isWord_48
      · skip
        refine lv_iconst (v := 0) hx hb dX7_isWord_47 (by decide) ?_
        exact W.zret (v := 0) hx hb hr (by decide) (fun tZ ht hW => ⟨⟨0, (), rfl, Or.inr (⟨fun q9 => absurd (of_decide_eq_true q9).2.2.1 h21, rfl⟩), by rw [ht]; exact hP.sub [0, 1] rfl, hD.sub [0, 1] (by decide) rfl⟩, hS.F ht⟩) hS.2.2 dX7_isWord_48
    · skip
      refine lv_iconst (v := 0) hx hb dX7_isWord_47 (by decide) ?_
      exact W.zret (v := 0) hx hb hr (by decide) (fun tZ ht hW => ⟨⟨0, (), rfl, Or.inr (⟨fun q9 => absurd (of_decide_eq_true q9).2.1 h13, rfl⟩), by rw [ht]; exact hP.sub [0, 1] rfl, hD.sub [0, 1] (by decide) rfl⟩, hS.F ht⟩) hS.2.2 dX7_isWord_48
  · skip
    have h5 : ¬ (en - sta) = 5 := fun q9 => h5 ((nI_eq (a := (en - sta)) (b := 5) (by omega) (by omega)).mpr q9)
    refine lv_iconst (v := 0) hx hb dX7_isWord_16 (by decide) ?_
    exact W.zret (v := 0) hx hb hr (by decide) (fun tZ ht hW => ⟨⟨0, (), rfl, Or.inr (⟨fun q9 => absurd (of_decide_eq_true q9).1 (by omega), rfl⟩), by rw [ht]; exact hP.sub [0, 1] rfl, hD.sub [0, 1] (by decide) rfl⟩, hS.F ht⟩) hS.2.2 dX7_isWord_17

set_option maxHeartbeats 4000000 in
set_option maxRecDepth 100000 in
theorem gs_wordHere (l : Launch) (D : va_G) (y : Nat → ClassId) (aK : Nat → Nat) (aV : Nat → Nat) (tx : Nat) (bys : Nat) (wo : Nat) (fs : Nat) (sc : Nat) (tk : Nat) (ln : Nat) (sta : Nat) (en : Nat) (num : Int32) (tfi : Int32) (tgl : Int32) (tst : Int32) (fby : Nat → Int32) (hln : ln ≤ 150) (hen : en ≤ ln) (hse : sta ≤ en) (htk : tk ≤ 4) : kz_Mi l yX7_wordHere wsX7_wordHere ({ frames := 6, cells := 0, slots := 0, locals := 167 }) D y [.ref tx] [(tx, .inr (7, [.ref bys, .int (nI ln), .int (nI tk), .int (nI sta), .int (nI en), .int num, .ref wo, .ref fs, .ref sc, .int tfi, .int tgl, .int tst])), (bys, .inl (y 1, 150, .inl fby))] aK aV (fun (r : Int32) (u : Unit) => (¬ ks_w0 fby tk sta en = true ∧ ¬ ks_w1 fby tk sta en = true ∧ ¬ ks_w2 fby tk sta en = true ∧ ¬ ks_w3 fby tk sta en = true ∧ r = (-1)) ∨ (ks_w0 fby tk sta en = true ∧ r = 0) ∨ (ks_w1 fby tk sta en = true ∧ r = 1) ∨ (ks_w2 fby tk sta en = true ∧ ¬ ks_w1 fby tk sta en = true ∧ r = 2) ∨ (ks_w3 fby tk sta en = true ∧ ¬ ks_w1 fby tk sta en = true ∧ ¬ ks_w2 fby tk sta en = true ∧ r = 3)) (fun _ => [(tx, .inr (7, [.ref bys, .int (nI ln), .int (nI tk), .int (nI sta), .int (nI en), .int num, .ref wo, .ref fs, .ref sc, .int tfi, .int tgl, .int tst])), (bys, .inl (y 1, 150, .inl fby))]) 0 0 := by
  refine kz_Mi.of (cc := cX7_wordHere) (maxL := 1) (ret := (some .int)) (by decide) rfl ?_
  intro pZ eZ s mZ beZ meZ cZ A hE
  obtain ⟨hx, hb, hr, hml, hts, hown, hlocks, hin, hA, hP, hD, hK, hN, hZ⟩ := hE
  have hS : va_S A s.heap s.heap [] := va_S.rf
  have hl := lv_entry ([.ref tx]) (n := 1) (Nat.le_of_ble_eq_true rfl)
  rw [lg_entry_eq]
  generalize (lg_sl ([.ref tx]) ++ List.replicate (1 - (lg_sl ([.ref tx])).length) Slot.unset).toArray = ls at hl ⊢
  have hl : lv_has ls 1 [(0, .ref tx)] := hl
  have fw1 := hts (.fieldLink RX7 44 "GleanDusk$Text" "token" "I") (List.mem_of_getElem? (i := 1) rfl)
  have iw7 : ∀ w ∈ wsX70, w ∈ wsX7_wordHere := fun _ h => List.mem_cons_of_mem _ (List.mem_append_right _ h)
  refine lv_aload_n hx hb dX7_wordHere_0 rfl (lv_at hl 0 rfl) ?_
  refine va_get (D := D) (ci := 7) (v := .int (nI tk)) (C := RX7) (T := TX7) (N := 12) hx hb hts iw7 hown hK hP 0 rfl rfl 2 (by decide) fw1 (fun _ h9 => h9) rfl dX7_wordHere_1 ?_
  refine lv_iconst (v := 1) hx hb dX7_wordHere_4 (by decide) ?_
  refine lv_icmp_eq (tgt := 10) hx hb dX7_wordHere_5 (by decide) (fun h1 => ?_) (fun h2 => ?_)
  · skip
    have h1 : tk = 1 := (nI_eq (a := tk) (b := 1) (by omega) (by omega)).mp h1
    refine lv_aload_n hx hb dX7_wordHere_10 rfl (lv_at hl 0 rfl) ?_
    refine va_ldcS hx hb hown hZ.2.2.2.1 dX7_wordHere_11 ?_
    have hs3 : kw_Split [(tx, .inr (7, [.ref bys, .int (nI ln), .int (nI tk), .int (nI sta), .int (nI en), .int num, .ref wo, .ref fs, .ref sc, .int tfi, .int tgl, .int tst])), (bys, .inl (y 1, 150, .inl fby))] [(tx, .inr (7, [.ref bys, .int (nI ln), .int (nI tk), .int (nI sta), .int (nI en), .int num, .ref wo, .ref fs, .ref sc, .int tfi, .int tgl, .int tst])), (bys, .inl (y 1, 150, .inl fby))] [] [0, 1] [] := ⟨rfl, rfl, rfl, rfl, rfl, by decide⟩
    refine kw_go_i hs3 hP hD hS hA (va_runV (As := [.ref (aK 0)]) (rest := []) ⟨hx, hb, hml, hown, hts⟩ (gs_isWord0 l D y aK aV tx bys wo fs sc ln sta en (nI tk) num tfi tgl tst fby hln hen hse _) (cwV 1 hts gX7_wordHere_X7_isWord rfl rfl rfl (by decide +kernel) ⟨Nat.le_of_ble_eq_true rfl, Nat.le_of_ble_eq_true rfl⟩) (kz_PreV (ci := 7) (q0 := 0) hs3 hP hD hK hN rfl rfl hZ hS hA) rfl rfl hl.1 rfl (lv_room (Nat.le_of_ble_eq_true rfl)) dX7_wordHere_13 ⟨Nat.le_of_ble_eq_true rfl, Nat.le_of_ble_eq_true rfl⟩) (fun r4 u5 H locs hq hP hD hS => ?_)
    rcases hq with ⟨h6, rfl⟩ | ⟨h7, rfl⟩
    · skip
      have hP : va_P D vwCl [(tx, .inr (7, [.ref bys, .int (nI ln), .int (nI tk), .int (nI sta), .int (nI en), .int num, .ref wo, .ref fs, .ref sc, .int tfi, .int tgl, .int tst])), (bys, .inl (y 1, 150, .inl fby))] H := hP
      have hD : va_D A [(tx, .inr (7, [.ref bys, .int (nI ln), .int (nI tk), .int (nI sta), .int (nI en), .int num, .ref wo, .ref fs, .ref sc, .int tfi, .int tgl, .int tst])), (bys, .inl (y 1, 150, .inl fby))] := hD
      refine lv_if_eq (tgt := 21) hx hb dX7_wordHere_16 (by decide) (fun h9 => absurd h9 (by decide)) (fun _ => ?_)
      refine lv_iconst (v := 0) hx hb dX7_wordHere_19 (by decide) ?_
      exact W.iret (v := 0) hx hb hr (fun tZ ht hW => ⟨⟨0, (), rfl, Or.inr (Or.inl ⟨ks_and h1 h6, rfl⟩), by rw [ht]; exact hP.sub [0, 1] rfl, hD.sub [0, 1] (by decide) rfl⟩, hS.F ht⟩) hS.2.2 dX7_wordHere_20
    · skip
      have hP : va_P D vwCl [(tx, .inr (7, [.ref bys, .int (nI ln), .int (nI tk), .int (nI sta), .int (nI en), .int num, .ref wo, .ref fs, .ref sc, .int tfi, .int tgl, .int tst])), (bys, .inl (y 1, 150, .inl fby))] H := hP
      have hD : va_D A [(tx, .inr (7, [.ref bys, .int (nI ln), .int (nI tk), .int (nI sta), .int (nI en), .int num, .ref wo, .ref fs, .ref sc, .int tfi, .int tgl, .int tst])), (bys, .inl (y 1, 150, .inl fby))] := hD
      refine lv_if_eq (tgt := 21) hx hb dX7_wordHere_16 (by decide) (fun _ => ?_) (fun h9 => absurd h9 (by decide))
      refine lv_aload_n hx hb dX7_wordHere_21 rfl (lv_at hl 0 rfl) ?_
      refine va_ldcS hx hb hown hZ.2.2.2.2.1 dX7_wordHere_22 ?_
      have hs8 : kw_Split [(tx, .inr (7, [.ref bys, .int (nI ln), .int (nI tk), .int (nI sta), .int (nI en), .int num, .ref wo, .ref fs, .ref sc, .int tfi, .int tgl, .int tst])), (bys, .inl (y 1, 150, .inl fby))] [(tx, .inr (7, [.ref bys, .int (nI ln), .int (nI tk), .int (nI sta), .int (nI en), .int num, .ref wo, .ref fs, .ref sc, .int tfi, .int tgl, .int tst])), (bys, .inl (y 1, 150, .inl fby))] [] [0, 1] [] := ⟨rfl, rfl, rfl, rfl, rfl, by decide⟩
      refine kw_go_i hs8 hP hD hS hA (va_runV (As := [.ref (aK 1)]) (rest := []) ⟨hx, hb, hml, hown, hts⟩ (gs_isWord1 l D y aK aV tx bys wo fs sc ln sta en (nI tk) num tfi tgl tst fby hln hen hse _) (cwV 1 hts gX7_wordHere_X7_isWord rfl rfl rfl (by decide +kernel) ⟨Nat.le_of_ble_eq_true rfl, Nat.le_of_ble_eq_true rfl⟩) (kz_PreV (ci := 7) (q0 := 0) hs8 hP hD hK hN rfl rfl hZ hS hA) rfl rfl hl.1 rfl (lv_room (Nat.le_of_ble_eq_true rfl)) dX7_wordHere_24 ⟨Nat.le_of_ble_eq_true rfl, Nat.le_of_ble_eq_true rfl⟩) (fun r9 u10 H locs hq hP hD hS => ?_)
      rcases hq with ⟨h11, rfl⟩ | ⟨h12, rfl⟩
      · skip
        have hP : va_P D vwCl [(tx, .inr (7, [.ref bys, .int (nI ln), .int (nI tk), .int (nI sta), .int (nI en), .int num, .ref wo, .ref fs, .ref sc, .int tfi, .int tgl, .int tst])), (bys, .inl (y 1, 150, .inl fby))] H := hP
        have hD : va_D A [(tx, .inr (7, [.ref bys, .int (nI ln), .int (nI tk), .int (nI sta), .int (nI en), .int num, .ref wo, .ref fs, .ref sc, .int tfi, .int tgl, .int tst])), (bys, .inl (y 1, 150, .inl fby))] := hD
        refine lv_if_eq (tgt := 32) hx hb dX7_wordHere_27 (by decide) (fun h9 => absurd h9 (by decide)) (fun _ => ?_)
        refine lv_iconst (v := 1) hx hb dX7_wordHere_30 (by decide) ?_
        exact W.iret (v := 1) hx hb hr (fun tZ ht hW => ⟨⟨1, (), rfl, Or.inr (Or.inr (Or.inl ⟨ks_and h1 h11, rfl⟩)), by rw [ht]; exact hP.sub [0, 1] rfl, hD.sub [0, 1] (by decide) rfl⟩, hS.F ht⟩) hS.2.2 dX7_wordHere_31
      · skip
        have hP : va_P D vwCl [(tx, .inr (7, [.ref bys, .int (nI ln), .int (nI tk), .int (nI sta), .int (nI en), .int num, .ref wo, .ref fs, .ref sc, .int tfi, .int tgl, .int tst])), (bys, .inl (y 1, 150, .inl fby))] H := hP
        have hD : va_D A [(tx, .inr (7, [.ref bys, .int (nI ln), .int (nI tk), .int (nI sta), .int (nI en), .int num, .ref wo, .ref fs, .ref sc, .int tfi, .int tgl, .int tst])), (bys, .inl (y 1, 150, .inl fby))] := hD
        refine lv_if_eq (tgt := 32) hx hb dX7_wordHere_27 (by decide) (fun _ => ?_) (fun h9 => absurd h9 (by decide))
        refine lv_aload_n hx hb dX7_wordHere_32 rfl (lv_at hl 0 rfl) ?_
        refine va_ldcS hx hb hown hZ.2.2.2.2.2.1 dX7_wordHere_33 ?_
        have hs13 : kw_Split [(tx, .inr (7, [.ref bys, .int (nI ln), .int (nI tk), .int (nI sta), .int (nI en), .int num, .ref wo, .ref fs, .ref sc, .int tfi, .int tgl, .int tst])), (bys, .inl (y 1, 150, .inl fby))] [(tx, .inr (7, [.ref bys, .int (nI ln), .int (nI tk), .int (nI sta), .int (nI en), .int num, .ref wo, .ref fs, .ref sc, .int tfi, .int tgl, .int tst])), (bys, .inl (y 1, 150, .inl fby))] [] [0, 1] [] := ⟨rfl, rfl, rfl, rfl, rfl, by decide⟩
        refine kw_go_i hs13 hP hD hS hA (va_runV (As := [.ref (aK 2)]) (rest := []) ⟨hx, hb, hml, hown, hts⟩ (gs_isWord2 l D y aK aV tx bys wo fs sc ln sta en (nI tk) num tfi tgl tst fby hln hen hse _) (cwV 1 hts gX7_wordHere_X7_isWord rfl rfl rfl (by decide +kernel) ⟨Nat.le_of_ble_eq_true rfl, Nat.le_of_ble_eq_true rfl⟩) (kz_PreV (ci := 7) (q0 := 0) hs13 hP hD hK hN rfl rfl hZ hS hA) rfl rfl hl.1 rfl (lv_room (Nat.le_of_ble_eq_true rfl)) dX7_wordHere_35 ⟨Nat.le_of_ble_eq_true rfl, Nat.le_of_ble_eq_true rfl⟩) (fun r14 u15 H locs hq hP hD hS => ?_)
        rcases hq with ⟨h16, rfl⟩ | ⟨h17, rfl⟩
        · skip
          have hP : va_P D vwCl [(tx, .inr (7, [.ref bys, .int (nI ln), .int (nI tk), .int (nI sta), .int (nI en), .int num, .ref wo, .ref fs, .ref sc, .int tfi, .int tgl, .int tst])), (bys, .inl (y 1, 150, .inl fby))] H := hP
          have hD : va_D A [(tx, .inr (7, [.ref bys, .int (nI ln), .int (nI tk), .int (nI sta), .int (nI en), .int num, .ref wo, .ref fs, .ref sc, .int tfi, .int tgl, .int tst])), (bys, .inl (y 1, 150, .inl fby))] := hD
          refine lv_if_eq (tgt := 43) hx hb dX7_wordHere_38 (by decide) (fun h9 => absurd h9 (by decide)) (fun _ => ?_)
          refine lv_iconst (v := 2) hx hb dX7_wordHere_41 (by decide) ?_
          exact W.iret (v := 2) hx hb hr (fun tZ ht hW => ⟨⟨2, (), rfl, Or.inr (Or.inr (Or.inr (Or.inl ⟨ks_and h1 h16, ks_no2 h12, rfl⟩))), by rw [ht]; exact hP.sub [0, 1] rfl, hD.sub [0, 1] (by decide) rfl⟩, hS.F ht⟩) hS.2.2 dX7_wordHere_42
        · skip
          have hP : va_P D vwCl [(tx, .inr (7, [.ref bys, .int (nI ln), .int (nI tk), .int (nI sta), .int (nI en), .int num, .ref wo, .ref fs, .ref sc, .int tfi, .int tgl, .int tst])), (bys, .inl (y 1, 150, .inl fby))] H := hP
          have hD : va_D A [(tx, .inr (7, [.ref bys, .int (nI ln), .int (nI tk), .int (nI sta), .int (nI en), .int num, .ref wo, .ref fs, .ref sc, .int tfi, .int tgl, .int tst])), (bys, .inl (y 1, 150, .inl fby))] := hD
          refine lv_if_eq (tgt := 43) hx hb dX7_wordHere_38 (by decide) (fun _ => ?_) (fun h9 => absurd h9 (by decide))
          refine lv_aload_n hx hb dX7_wordHere_43 rfl (lv_at hl 0 rfl) ?_
          refine va_ldcS hx hb hown hZ.2.2.2.2.2.2 dX7_wordHere_44 ?_
          have hs18 : kw_Split [(tx, .inr (7, [.ref bys, .int (nI ln), .int (nI tk), .int (nI sta), .int (nI en), .int num, .ref wo, .ref fs, .ref sc, .int tfi, .int tgl, .int tst])), (bys, .inl (y 1, 150, .inl fby))] [(tx, .inr (7, [.ref bys, .int (nI ln), .int (nI tk), .int (nI sta), .int (nI en), .int num, .ref wo, .ref fs, .ref sc, .int tfi, .int tgl, .int tst])), (bys, .inl (y 1, 150, .inl fby))] [] [0, 1] [] := ⟨rfl, rfl, rfl, rfl, rfl, by decide⟩
          refine kw_go_i hs18 hP hD hS hA (va_runV (As := [.ref (aK 3)]) (rest := []) ⟨hx, hb, hml, hown, hts⟩ (gs_isWord3 l D y aK aV tx bys wo fs sc ln sta en (nI tk) num tfi tgl tst fby hln hen hse _) (cwV 1 hts gX7_wordHere_X7_isWord rfl rfl rfl (by decide +kernel) ⟨Nat.le_of_ble_eq_true rfl, Nat.le_of_ble_eq_true rfl⟩) (kz_PreV (ci := 7) (q0 := 0) hs18 hP hD hK hN rfl rfl hZ hS hA) rfl rfl hl.1 rfl (lv_room (Nat.le_of_ble_eq_true rfl)) dX7_wordHere_46 ⟨Nat.le_of_ble_eq_true rfl, Nat.le_of_ble_eq_true rfl⟩) (fun r19 u20 H locs hq hP hD hS => ?_)
          rcases hq with ⟨h21, rfl⟩ | ⟨h22, rfl⟩
          · skip
            have hP : va_P D vwCl [(tx, .inr (7, [.ref bys, .int (nI ln), .int (nI tk), .int (nI sta), .int (nI en), .int num, .ref wo, .ref fs, .ref sc, .int tfi, .int tgl, .int tst])), (bys, .inl (y 1, 150, .inl fby))] H := hP
            have hD : va_D A [(tx, .inr (7, [.ref bys, .int (nI ln), .int (nI tk), .int (nI sta), .int (nI en), .int num, .ref wo, .ref fs, .ref sc, .int tfi, .int tgl, .int tst])), (bys, .inl (y 1, 150, .inl fby))] := hD
            refine lv_if_eq (tgt := 56) hx hb dX7_wordHere_49 (by decide) (fun h9 => absurd h9 (by decide)) (fun _ => ?_)
            refine lv_iconst (v := 3) hx hb dX7_wordHere_52 (by decide) ?_
            refine lv_goto (tgt := 57) hx hb dX7_wordHere_53 (by decide) ?_
            exact W.iret (v := 3) hx hb hr (fun tZ ht hW => ⟨⟨3, (), rfl, Or.inr (Or.inr (Or.inr (Or.inr (⟨ks_and h1 h21, ks_no2 h12, ks_no2 h17, rfl⟩)))), by rw [ht]; exact hP.sub [0, 1] rfl, hD.sub [0, 1] (by decide) rfl⟩, hS.F ht⟩) hS.2.2 dX7_wordHere_57
          · skip
            have hP : va_P D vwCl [(tx, .inr (7, [.ref bys, .int (nI ln), .int (nI tk), .int (nI sta), .int (nI en), .int num, .ref wo, .ref fs, .ref sc, .int tfi, .int tgl, .int tst])), (bys, .inl (y 1, 150, .inl fby))] H := hP
            have hD : va_D A [(tx, .inr (7, [.ref bys, .int (nI ln), .int (nI tk), .int (nI sta), .int (nI en), .int num, .ref wo, .ref fs, .ref sc, .int tfi, .int tgl, .int tst])), (bys, .inl (y 1, 150, .inl fby))] := hD
            refine lv_if_eq (tgt := 56) hx hb dX7_wordHere_49 (by decide) (fun _ => ?_) (fun h9 => absurd h9 (by decide))
            refine lv_iconst (v := (-1)) hx hb dX7_wordHere_56 (by decide) ?_
            exact W.iret (v := (-1)) hx hb hr (fun tZ ht hW => ⟨⟨(-1), (), rfl, Or.inl ⟨ks_no2 h7, ks_no2 h12, ks_no2 h17, ks_no2 h22, rfl⟩, by rw [ht]; exact hP.sub [0, 1] rfl, hD.sub [0, 1] (by decide) rfl⟩, hS.F ht⟩) hS.2.2 dX7_wordHere_57
  · skip
    have h2 : ¬ tk = 1 := fun q9 => h2 ((nI_eq (a := tk) (b := 1) (by omega) (by omega)).mpr q9)
    refine lv_iconst (v := (-1)) hx hb dX7_wordHere_8 (by decide) ?_
    exact W.iret (v := (-1)) hx hb hr (fun tZ ht hW => ⟨⟨(-1), (), rfl, Or.inl ⟨ks_no h2, ks_no h2, ks_no h2, ks_no h2, rfl⟩, by rw [ht]; exact hP.sub [0, 1] rfl, hD.sub [0, 1] (by decide) rfl⟩, hS.F ht⟩) hS.2.2 dX7_wordHere_9

set_option maxHeartbeats 4000000 in
set_option maxRecDepth 100000 in
theorem gs_isItem (l : Launch) (D : va_G) (y : Nat → ClassId) (aK : Nat → Nat) (aV : Nat → Nat) (tx : Nat) (bys : Nat) (wo : Nat) (fs : Nat) (sc : Nat) (ln : Nat) (tk : Nat) (sta : Nat) (en : Nat) (tfi : Nat) (tgl : Nat) (tst : Nat) (num : Int32) (fby : Nat → Int32) (fwo : Nat → Int32) (ffs : Nat → Int32) (fsc : Nat → Int32) (k : Nat) (kd : Nat → Int32) (hln : ln ≤ 150) (hen : en ≤ ln) (hse : sta ≤ en) (htk : tk ≤ 4) (hk : k < 25) (hk1 : 1 ≤ k) (hok : kz_oE fwo ffs k tfi tgl kd) (ht6 : tfi ≤ 6) (hg5 : tgl ≤ 5) (ht12 : tst ≤ 12) : kz_Mi l yX7_isItem wsX7_isItem ({ frames := 7, cells := 0, slots := 0, locals := 187 }) D y [.ref tx, .int (nI k)] [(tx, .inr (7, [.ref bys, .int (nI ln), .int (nI tk), .int (nI sta), .int (nI en), .int num, .ref wo, .ref fs, .ref sc, .int (nI tfi), .int (nI tgl), .int (nI tst)])), (bys, .inl (y 1, 150, .inl fby)), (wo, .inl (y 0, 25, .inl fwo)), (fs, .inl (y 0, 25, .inl ffs)), (sc, .inl (y 0, 25, .inl fsc))] aK aV (fun (r : Int32) (u : Int32 × Nat × Nat × Int32 × Nat × Nat × Nat × (Nat → Int32) × (Nat → Int32) × (Nat → Int32)) => u.2.1 ≤ ln ∧ u.2.2.1 ≤ ln ∧ u.2.2.2.2.1 ≤ 7 ∧ u.2.2.2.2.2.1 ≤ 6 ∧ u.2.2.2.2.2.2.1 ≤ 12 ∧ (r = 0 ∨ r = 1) ∧ (r = 0 → ks_it fby ln tk sta en tfi tgl tst kd = ks_flt u.2.1) ∧ (r = 1 → kz_g1 fby ln tk sta en tfi tgl tst kd u.2.2.1 u.2.2.2.2.1 u.2.2.2.2.2.1 u.2.2.2.2.2.2.1 u.2.2.2.2.2.2.2.1 u.2.2.2.2.2.2.2.2.1 (k + 1))) (fun u => [(tx, .inr (7, [.ref bys, .int (nI ln), .int u.1, .int (nI u.2.1), .int (nI u.2.2.1), .int u.2.2.2.1, .ref wo, .ref fs, .ref sc, .int (nI u.2.2.2.2.1), .int (nI u.2.2.2.2.2.1), .int (nI u.2.2.2.2.2.2.1)])), (bys, .inl (y 1, 150, .inl fby)), (wo, .inl (y 0, 25, .inl u.2.2.2.2.2.2.2.1)), (fs, .inl (y 0, 25, .inl u.2.2.2.2.2.2.2.2.1)), (sc, .inl (y 0, 25, .inl u.2.2.2.2.2.2.2.2.2))]) 0 0 := by
  refine kz_Mi.of (cc := cX7_isItem) (maxL := 4) (ret := (some .boolean)) (by decide) rfl ?_
  intro pZ eZ s mZ beZ meZ cZ A hE
  obtain ⟨hx, hb, hr, hml, hts, hown, hlocks, hin, hA, hP, hD, hK, hN, hZ⟩ := hE
  have hS : va_S A s.heap s.heap [] := va_S.rf
  have hl := lv_entry ([.ref tx, .int (nI k)]) (n := 4) (Nat.le_of_ble_eq_true rfl)
  rw [lg_entry_eq]
  generalize (lg_sl ([.ref tx, .int (nI k)]) ++ List.replicate (4 - (lg_sl ([.ref tx, .int (nI k)])).length) Slot.unset).toArray = ls at hl ⊢
  have hl : lv_has ls 4 [(0, .ref tx), (1, .int (nI k))] := hl
  have fw1 := hts (.fieldLink RX7 15 "GleanDusk$Text" "words" "[I") (List.mem_of_getElem? (i := 1) rfl)
  have fw2 := hts (.fieldLink RX7 32 "GleanDusk$Text" "fields" "I") (List.mem_of_getElem? (i := 3) rfl)
  have fw3 := hts (.fieldLink RX7 19 "GleanDusk$Text" "first" "[I") (List.mem_of_getElem? (i := 2) rfl)
  have fw4 := hts (.fieldLink RX7 22 "GleanDusk$Text" "second" "[I") (List.mem_of_getElem? (i := 4) rfl)
  have fw5 := hts (.fieldLink RX7 35 "GleanDusk$Text" "gleaners" "I") (List.mem_of_getElem? (i := 5) rfl)
  have fw6 := hts (.fieldLink RX7 38 "GleanDusk$Text" "steps" "I") (List.mem_of_getElem? (i := 6) rfl)
  have fw7 := hts (.fieldLink RX7 62 "GleanDusk$Text" "number" "I") (List.mem_of_getElem? (i := 7) rfl)
  have iw7 : ∀ w ∈ wsX70, w ∈ wsX7_isItem := fun _ h => List.mem_cons_of_mem _ (List.mem_append_right _ h)
  refine lv_aload_n hx hb dX7_isItem_0 rfl (lv_at hl 0 rfl) ?_
  have hs1 : kw_Split [(tx, .inr (7, [.ref bys, .int (nI ln), .int (nI tk), .int (nI sta), .int (nI en), .int num, .ref wo, .ref fs, .ref sc, .int (nI tfi), .int (nI tgl), .int (nI tst)])), (bys, .inl (y 1, 150, .inl fby)), (wo, .inl (y 0, 25, .inl fwo)), (fs, .inl (y 0, 25, .inl ffs)), (sc, .inl (y 0, 25, .inl fsc))] [(tx, .inr (7, [.ref bys, .int (nI ln), .int (nI tk), .int (nI sta), .int (nI en), .int num, .ref wo, .ref fs, .ref sc, .int (nI tfi), .int (nI tgl), .int (nI tst)])), (bys, .inl (y 1, 150, .inl fby))] [(wo, .inl (y 0, 25, .inl fwo)), (fs, .inl (y 0, 25, .inl ffs)), (sc, .inl (y 0, 25, .inl fsc))] [0, 1] [2, 3, 4] := ⟨rfl, rfl, rfl, rfl, rfl, by decide⟩
  refine kw_go_i hs1 hP hD hS hA (va_runV (As := []) (rest := []) ⟨hx, hb, hml, hown, hts⟩ (gs_wordHere l D y aK aV tx bys wo fs sc tk ln sta en num (nI tfi) (nI tgl) (nI tst) fby hln hen hse htk _) (cwV 0 hts gX7_isItem_X7_wordHere rfl rfl rfl (by decide +kernel) ⟨Nat.le_of_ble_eq_true rfl, Nat.le_of_ble_eq_true rfl⟩) (kz_PreV (ci := 7) (q0 := 0) hs1 hP hD hK hN rfl rfl hZ hS hA) rfl rfl hl.1 rfl (lv_room (Nat.le_of_ble_eq_true rfl)) dX7_isItem_1 ⟨Nat.le_of_ble_eq_true rfl, Nat.le_of_ble_eq_true rfl⟩) (fun r2 u3 H locs hq hP hD hS => ?_)
  rcases hq with ⟨h4, h5, h6, h7, rfl⟩ | ⟨h8, rfl⟩ | ⟨h9, rfl⟩ | ⟨h10, h11, rfl⟩ | ⟨h12, h13, h14, rfl⟩
  · skip
    have hP : va_P D vwCl [(wo, .inl (y 0, 25, .inl fwo)), (fs, .inl (y 0, 25, .inl ffs)), (sc, .inl (y 0, 25, .inl fsc)), (tx, .inr (7, [.ref bys, .int (nI ln), .int (nI tk), .int (nI sta), .int (nI en), .int num, .ref wo, .ref fs, .ref sc, .int (nI tfi), .int (nI tgl), .int (nI tst)])), (bys, .inl (y 1, 150, .inl fby))] H := hP
    have hD : va_D A [(wo, .inl (y 0, 25, .inl fwo)), (fs, .inl (y 0, 25, .inl ffs)), (sc, .inl (y 0, 25, .inl fsc)), (tx, .inr (7, [.ref bys, .int (nI ln), .int (nI tk), .int (nI sta), .int (nI en), .int num, .ref wo, .ref fs, .ref sc, .int (nI tfi), .int (nI tgl), .int (nI tst)])), (bys, .inl (y 1, 150, .inl fby))] := hD
    refine lv_istore_n (lv' := [(2, .int (-1)), (0, .ref tx), (1, .int (nI k))]) hx hb dX7_isItem_4 rfl hl (by decide) rfl (fun ls hl => ?_)
    refine lv_iload_n hx hb dX7_isItem_5 rfl (lv_at hl 0 rfl) ?_
    refine lv_iconst (v := (-1)) hx hb dX7_isItem_6 (by decide) ?_
    refine lv_icmp_eq (tgt := 31) hx hb dX7_isItem_7 (by decide) (fun _ => ?_) (fun h9 => absurd h9 (by decide))
    refine lv_iconst (v := 0) hx hb dX7_isItem_31 (by decide) ?_
    exact W.zret (v := 0) hx hb hr (by decide) (fun tZ ht hW => ⟨⟨0, ((nI tk), sta, en, num, tfi, tgl, tst, fwo, ffs, fsc), rfl, ⟨by first | omega | (dsimp only; omega), by first | omega | (dsimp only; omega), by first | omega | (dsimp only; omega), by first | omega | (dsimp only; omega), by first | omega | (dsimp only; omega), Or.inl rfl, (fun _ => ks_itN h5 h6 h7), (fun h9 => absurd h9 (by decide))⟩, by rw [ht]; exact hP.sub [3, 4, 0, 1, 2] rfl, hD.sub [3, 4, 0, 1, 2] (by decide) rfl⟩, hS.F ht⟩) hS.2.2 dX7_isItem_32
  · skip
    have hP : va_P D vwCl [(wo, .inl (y 0, 25, .inl fwo)), (fs, .inl (y 0, 25, .inl ffs)), (sc, .inl (y 0, 25, .inl fsc)), (tx, .inr (7, [.ref bys, .int (nI ln), .int (nI tk), .int (nI sta), .int (nI en), .int num, .ref wo, .ref fs, .ref sc, .int (nI tfi), .int (nI tgl), .int (nI tst)])), (bys, .inl (y 1, 150, .inl fby))] H := hP
    have hD : va_D A [(wo, .inl (y 0, 25, .inl fwo)), (fs, .inl (y 0, 25, .inl ffs)), (sc, .inl (y 0, 25, .inl fsc)), (tx, .inr (7, [.ref bys, .int (nI ln), .int (nI tk), .int (nI sta), .int (nI en), .int num, .ref wo, .ref fs, .ref sc, .int (nI tfi), .int (nI tgl), .int (nI tst)])), (bys, .inl (y 1, 150, .inl fby))] := hD
    refine lv_istore_n (lv' := [(2, .int 0), (0, .ref tx), (1, .int (nI k))]) hx hb dX7_isItem_4 rfl hl (by decide) rfl (fun ls hl => ?_)
    refine lv_iload_n hx hb dX7_isItem_5 rfl (lv_at hl 0 rfl) ?_
    refine lv_iconst (v := (-1)) hx hb dX7_isItem_6 (by decide) ?_
    refine lv_icmp_eq (tgt := 31) hx hb dX7_isItem_7 (by decide) (fun h9 => absurd h9 (by decide)) (fun _ => ?_)
    refine lv_iload_n hx hb dX7_isItem_10 rfl (lv_at hl 0 rfl) ?_
    refine lv_if_ne (tgt := 18) hx hb dX7_isItem_11 (by decide) (fun h9 => absurd h9 (by decide)) (fun _ => ?_)
    refine lv_iconst (v := 1) hx hb dX7_isItem_14 (by decide) ?_
    refine lv_goto (tgt := 19) hx hb dX7_isItem_15 (by decide) ?_
    refine lv_iload_n hx hb dX7_isItem_19 rfl (lv_at hl 2 rfl) ?_
    refine lv_if_ne (tgt := 27) hx hb dX7_isItem_20 (by decide) (fun h15 => ?_) (fun h16 => ?_)
    · skip
      have h15 : ¬ k = 0 := fun q9 => h15 ((nI_eq (a := k) (b := 0) (by omega) (by omega)).mpr q9)
      refine lv_iconst (v := 0) hx hb dX7_isItem_27 (by decide) ?_
      refine lv_icmp_eq (tgt := 33) hx hb dX7_isItem_28 (by decide) (fun h9 => absurd h9 (by decide)) (fun _ => ?_)
      refine lv_iconst (v := 0) hx hb dX7_isItem_31 (by decide) ?_
      exact W.zret (v := 0) hx hb hr (by decide) (fun tZ ht hW => ⟨⟨0, ((nI tk), sta, en, num, tfi, tgl, tst, fwo, ffs, fsc), rfl, ⟨by first | omega | (dsimp only; omega), by first | omega | (dsimp only; omega), by first | omega | (dsimp only; omega), by first | omega | (dsimp only; omega), by first | omega | (dsimp only; omega), Or.inl rfl, (fun _ => ks_itN (ks_n01 h8) (ks_n02 h8) (ks_n03 h8)), (fun h9 => absurd h9 (by decide))⟩, by rw [ht]; exact hP.sub [3, 4, 0, 1, 2] rfl, hD.sub [3, 4, 0, 1, 2] (by decide) rfl⟩, hS.F ht⟩) hS.2.2 dX7_isItem_32
    · skip
      have h16 : k = 0 := (nI_eq (a := k) (b := 0) (by omega) (by omega)).mp h16
      exact absurd h16 (by omega)
  · skip
    have hP : va_P D vwCl [(wo, .inl (y 0, 25, .inl fwo)), (fs, .inl (y 0, 25, .inl ffs)), (sc, .inl (y 0, 25, .inl fsc)), (tx, .inr (7, [.ref bys, .int (nI ln), .int (nI tk), .int (nI sta), .int (nI en), .int num, .ref wo, .ref fs, .ref sc, .int (nI tfi), .int (nI tgl), .int (nI tst)])), (bys, .inl (y 1, 150, .inl fby))] H := hP
    have hD : va_D A [(wo, .inl (y 0, 25, .inl fwo)), (fs, .inl (y 0, 25, .inl ffs)), (sc, .inl (y 0, 25, .inl fsc)), (tx, .inr (7, [.ref bys, .int (nI ln), .int (nI tk), .int (nI sta), .int (nI en), .int num, .ref wo, .ref fs, .ref sc, .int (nI tfi), .int (nI tgl), .int (nI tst)])), (bys, .inl (y 1, 150, .inl fby))] := hD
    refine lv_istore_n (lv' := [(2, .int 1), (0, .ref tx), (1, .int (nI k))]) hx hb dX7_isItem_4 rfl hl (by decide) rfl (fun ls hl => ?_)
    refine lv_iload_n hx hb dX7_isItem_5 rfl (lv_at hl 0 rfl) ?_
    refine lv_iconst (v := (-1)) hx hb dX7_isItem_6 (by decide) ?_
    refine lv_icmp_eq (tgt := 31) hx hb dX7_isItem_7 (by decide) (fun h9 => absurd h9 (by decide)) (fun _ => ?_)
    refine lv_iload_n hx hb dX7_isItem_10 rfl (lv_at hl 0 rfl) ?_
    refine lv_if_ne (tgt := 18) hx hb dX7_isItem_11 (by decide) (fun _ => ?_) (fun h9 => absurd h9 (by decide))
    refine lv_iconst (v := 0) hx hb dX7_isItem_18 (by decide) ?_
    refine lv_iload_n hx hb dX7_isItem_19 rfl (lv_at hl 2 rfl) ?_
    refine lv_if_ne (tgt := 27) hx hb dX7_isItem_20 (by decide) (fun h17 => ?_) (fun h18 => ?_)
    · skip
      have h17 : ¬ k = 0 := fun q9 => h17 ((nI_eq (a := k) (b := 0) (by omega) (by omega)).mpr q9)
      refine lv_iconst (v := 0) hx hb dX7_isItem_27 (by decide) ?_
      refine lv_icmp_eq (tgt := 33) hx hb dX7_isItem_28 (by decide) (fun _ => ?_) (fun h9 => absurd h9 (by decide))
      refine lv_aload_n hx hb dX7_isItem_33 rfl (lv_at hl 1 rfl) ?_
      refine va_get (D := D) (ci := 7) (v := .ref wo) (C := RX7) (T := TX7) (N := 12) hx hb hts iw7 hown hK hP 3 rfl rfl 6 (by decide) fw1 (fun _ h9 => h9) rfl dX7_isItem_34 ?_
      refine lv_iload_n hx hb dX7_isItem_37 rfl (lv_at hl 2 rfl) ?_
      refine lv_iload_n hx hb dX7_isItem_38 rfl (lv_at hl 0 rfl) ?_
      refine va_iast hx hb hK hP hD hS 0 0 rfl rfl (vp_in_nI (by omega) (by decide)) dX7_isItem_39 (fun H locs hP hD hS => ?_)
      rw [nI_clamp (n := k) (by omega)] at hP hD
      have hP : va_P D vwCl [(wo, .inl (y 0, 25, .inl (upd fwo k 1))), (fs, .inl (y 0, 25, .inl ffs)), (sc, .inl (y 0, 25, .inl fsc)), (tx, .inr (7, [.ref bys, .int (nI ln), .int (nI tk), .int (nI sta), .int (nI en), .int num, .ref wo, .ref fs, .ref sc, .int (nI tfi), .int (nI tgl), .int (nI tst)])), (bys, .inl (y 1, 150, .inl fby))] H := hP
      have hD : va_D A [(wo, .inl (y 0, 25, .inl (upd fwo k 1))), (fs, .inl (y 0, 25, .inl ffs)), (sc, .inl (y 0, 25, .inl fsc)), (tx, .inr (7, [.ref bys, .int (nI ln), .int (nI tk), .int (nI sta), .int (nI en), .int num, .ref wo, .ref fs, .ref sc, .int (nI tfi), .int (nI tgl), .int (nI tst)])), (bys, .inl (y 1, 150, .inl fby))] := hD
      refine lv_iload_n hx hb dX7_isItem_40 rfl (lv_at hl 0 rfl) ?_
      refine lv_tableIn (off := 40) (tgt := 81) hx hb dX7_isItem_41 (by decide) (by decide) (by decide +kernel) (by decide) ?_
      refine lv_aload_n hx hb dX7_isItem_81 rfl (lv_at hl 1 rfl) ?_
      refine lv_dup hx hb dX7_isItem_82 rfl ?_
      refine va_get (D := D) (ci := 7) (v := .int (nI tfi)) (C := RX7) (T := TX7) (N := 12) hx hb hts iw7 hown hK hP 3 rfl rfl 9 (by decide) fw2 (fun _ h9 => h9) rfl dX7_isItem_83 ?_
      refine lv_iconst (v := 1) hx hb dX7_isItem_86 (by decide) ?_
      refine lv_iadd hx hb dX7_isItem_87 ?_
      rw [show (nI tfi) + 1 = nI (tfi + 1) from nI_add tfi 1]
      refine va_put (D := D) (ci := 7) (v := .int (nI (tfi + 1))) (ty := .int) (C := RX7) (T := TX7) (N := 12) hx hb hts iw7 tyX7 tyX7_ok nmX7 hown hK hP hD hS 3 rfl rfl 9 (by decide) fw2 (fun _ h9 => h9) rfl (by decide +kernel) rfl rfl (Nat.le_of_ble_eq_true rfl) dX7_isItem_88 (fun H locs hP hD hS => ?_)
      have hP : va_P D vwCl [(wo, .inl (y 0, 25, .inl (upd fwo k 1))), (fs, .inl (y 0, 25, .inl ffs)), (sc, .inl (y 0, 25, .inl fsc)), (tx, .inr (7, [.ref bys, .int (nI ln), .int (nI tk), .int (nI sta), .int (nI en), .int num, .ref wo, .ref fs, .ref sc, .int (nI (tfi + 1)), .int (nI tgl), .int (nI tst)])), (bys, .inl (y 1, 150, .inl fby))] H := hP
      have hD : va_D A [(wo, .inl (y 0, 25, .inl (upd fwo k 1))), (fs, .inl (y 0, 25, .inl ffs)), (sc, .inl (y 0, 25, .inl fsc)), (tx, .inr (7, [.ref bys, .int (nI ln), .int (nI tk), .int (nI sta), .int (nI en), .int num, .ref wo, .ref fs, .ref sc, .int (nI (tfi + 1)), .int (nI tgl), .int (nI tst)])), (bys, .inl (y 1, 150, .inl fby))] := hD
      refine lv_aload_n hx hb dX7_isItem_91 rfl (lv_at hl 1 rfl) ?_
      refine va_get (D := D) (ci := 7) (v := .int (nI (tfi + 1))) (C := RX7) (T := TX7) (N := 12) hx hb hts iw7 hown hK hP 3 rfl rfl 9 (by decide) fw2 (fun _ h9 => h9) rfl dX7_isItem_92 ?_
      refine lv_bipush (v := 6) hx hb dX7_isItem_95 (by decide) ?_
      refine lv_icmp_gt (tgt := 133) hx hb dX7_isItem_97 (by decide) (fun h19 => ?_) (fun h20 => ?_)
      · skip
        have h19 : 6 < (tfi + 1) := (nI_ltI (a := 6) (b := (tfi + 1)) (by omega) (by omega)).mp h19
        refine lv_iconst (v := 0) hx hb dX7_isItem_133 (by decide) ?_
        exact W.zret (v := 0) hx hb hr (by decide) (fun tZ ht hW => ⟨⟨0, ((nI tk), sta, en, num, tfi + 1, tgl, tst, (upd fwo k 1), ffs, fsc), rfl, ⟨by first | omega | (dsimp only; omega), by first | omega | (dsimp only; omega), by first | omega | (dsimp only; omega), by first | omega | (dsimp only; omega), by first | omega | (dsimp only; omega), Or.inl rfl, (fun _ => (ks_it1 h9).trans (ks_fld6 (by first | omega | (dsimp only; omega)))), (fun h9 => absurd h9 (by decide))⟩, by rw [ht]; exact hP.sub [3, 4, 0, 1, 2] rfl, hD.sub [3, 4, 0, 1, 2] (by decide) rfl⟩, hS.F ht⟩) hS.2.2 dX7_isItem_134
      · skip
        have h20 : ¬ 6 < (tfi + 1) := fun q9 => h20 ((nI_ltI (a := 6) (b := (tfi + 1)) (by omega) (by omega)).mpr q9)
        refine lv_aload_n hx hb dX7_isItem_100 rfl (lv_at hl 1 rfl) ?_
        refine lv_aload_n hx hb dX7_isItem_101 rfl (lv_at hl 1 rfl) ?_
        refine va_get (D := D) (ci := 7) (v := .ref fs) (C := RX7) (T := TX7) (N := 12) hx hb hts iw7 hown hK hP 3 rfl rfl 7 (by decide) fw3 (fun _ h9 => h9) rfl dX7_isItem_102 ?_
        refine lv_iload_n hx hb dX7_isItem_105 rfl (lv_at hl 2 rfl) ?_
        refine lv_iconst (v := 0) hx hb dX7_isItem_106 (by decide) ?_
        refine lv_iconst (v := 5) hx hb dX7_isItem_107 (by decide) ?_
        have hs21 : kw_Split [(wo, .inl (y 0, 25, .inl (upd fwo k 1))), (fs, .inl (y 0, 25, .inl ffs)), (sc, .inl (y 0, 25, .inl fsc)), (tx, .inr (7, [.ref bys, .int (nI ln), .int (nI tk), .int (nI sta), .int (nI en), .int num, .ref wo, .ref fs, .ref sc, .int (nI (tfi + 1)), .int (nI tgl), .int (nI tst)])), (bys, .inl (y 1, 150, .inl fby))] [(tx, .inr (7, [.ref bys, .int (nI ln), .int (nI tk), .int (nI sta), .int (nI en), .int num, .ref wo, .ref fs, .ref sc, .int (nI (tfi + 1)), .int (nI tgl), .int (nI tst)])), (bys, .inl (y 1, 150, .inl fby)), (fs, .inl (y 0, 25, .inl ffs))] [(wo, .inl (y 0, 25, .inl (upd fwo k 1))), (sc, .inl (y 0, 25, .inl fsc))] [3, 4, 1] [0, 2] := ⟨rfl, rfl, rfl, rfl, rfl, by decide⟩
        refine kw_go_i hs21 hP hD hS hA (va_runV (As := [.ref fs, .int (nI k), .int 0, .int 5]) (rest := []) ⟨hx, hb, hml, hown, hts⟩ (gs_takes l D y tx bys wo fs sc ln sta en (nI tk) num (nI (tfi + 1)) (nI tgl) (nI tst) fby fs ffs k 0 5 hln hen hk (by omega) (by omega) _) (cwV 4 hts gX7_isItem_X7_takes rfl rfl rfl (by decide +kernel) ⟨Nat.le_of_ble_eq_true rfl, Nat.le_of_ble_eq_true rfl⟩) (kw_PreV (ci := 7) (q0 := 3) hs21 hP hD hK hN rfl rfl) rfl rfl hl.1 rfl (lv_room (Nat.le_of_ble_eq_true rfl)) dX7_isItem_108 ⟨Nat.le_of_ble_eq_true rfl, Nat.le_of_ble_eq_true rfl⟩) (fun r22 u23 H locs hq hP hD hS => ?_)
        obtain ⟨v24, v25⟩ := u23
        try dsimp only at hq
        obtain ⟨(rfl | rfl), h26, h27, h28, h29, h30⟩ := hq
        · skip
          have hP : va_P D vwCl [(wo, .inl (y 0, 25, .inl (upd fwo k 1))), (sc, .inl (y 0, 25, .inl fsc)), (tx, .inr (7, [.ref bys, .int (nI ln), .int (nI (ks_K fby ln en)), .int (nI (ks_S fby ln en)), .int (nI (ks_E fby ln en)), .int v24, .ref wo, .ref fs, .ref sc, .int (nI (tfi + 1)), .int (nI tgl), .int (nI tst)])), (bys, .inl (y 1, 150, .inl fby)), (fs, .inl (y 0, 25, .inl v25))] H := hP
          have hD : va_D A [(wo, .inl (y 0, 25, .inl (upd fwo k 1))), (sc, .inl (y 0, 25, .inl fsc)), (tx, .inr (7, [.ref bys, .int (nI ln), .int (nI (ks_K fby ln en)), .int (nI (ks_S fby ln en)), .int (nI (ks_E fby ln en)), .int v24, .ref wo, .ref fs, .ref sc, .int (nI (tfi + 1)), .int (nI tgl), .int (nI tst)])), (bys, .inl (y 1, 150, .inl fby)), (fs, .inl (y 0, 25, .inl v25))] := hD
          have h30 : ¬ ks_nm fby ln en 0 5 = true := h30 rfl
          refine lv_if_eq (tgt := 133) hx hb dX7_isItem_111 (by decide) (fun _ => ?_) (fun h9 => absurd h9 (by decide))
          refine lv_iconst (v := 0) hx hb dX7_isItem_133 (by decide) ?_
          exact W.zret (v := 0) hx hb hr (by decide) (fun tZ ht hW => ⟨⟨0, ((nI (ks_K fby ln en)), ks_S fby ln en, ks_E fby ln en, v24, tfi + 1, tgl, tst, (upd fwo k 1), v25, fsc), rfl, ⟨by first | omega | (dsimp only; omega), by first | omega | (dsimp only; omega), by first | omega | (dsimp only; omega), by first | omega | (dsimp only; omega), by first | omega | (dsimp only; omega), Or.inl rfl, (fun _ => (ks_it1 h9).trans (ks_fldA (by first | omega | (dsimp only; omega)) h30)), (fun h9 => absurd h9 (by decide))⟩, by rw [ht]; exact hP.sub [2, 3, 0, 4, 1] rfl, hD.sub [2, 3, 0, 4, 1] (by decide) rfl⟩, hS.F ht⟩) hS.2.2 dX7_isItem_134
        · skip
          have hP : va_P D vwCl [(wo, .inl (y 0, 25, .inl (upd fwo k 1))), (sc, .inl (y 0, 25, .inl fsc)), (tx, .inr (7, [.ref bys, .int (nI ln), .int (nI (ks_K fby ln en)), .int (nI (ks_S fby ln en)), .int (nI (ks_E fby ln en)), .int v24, .ref wo, .ref fs, .ref sc, .int (nI (tfi + 1)), .int (nI tgl), .int (nI tst)])), (bys, .inl (y 1, 150, .inl fby)), (fs, .inl (y 0, 25, .inl v25))] H := hP
          have hD : va_D A [(wo, .inl (y 0, 25, .inl (upd fwo k 1))), (sc, .inl (y 0, 25, .inl fsc)), (tx, .inr (7, [.ref bys, .int (nI ln), .int (nI (ks_K fby ln en)), .int (nI (ks_S fby ln en)), .int (nI (ks_E fby ln en)), .int v24, .ref wo, .ref fs, .ref sc, .int (nI (tfi + 1)), .int (nI tgl), .int (nI tst)])), (bys, .inl (y 1, 150, .inl fby)), (fs, .inl (y 0, 25, .inl v25))] := hD
          have h29 : ks_nm fby ln en 0 5 = true ∧ v25 = upd ffs k (nI (ks_V fby ln en)) ∧ v24 = nI (ks_V fby ln en) := h29 rfl
          obtain ⟨h31, h32, h33⟩ := h29
          have h32 := h32.symm
          subst h32
          have h33 := h33.symm
          subst h33
          have hP : va_P D vwCl [(wo, .inl (y 0, 25, .inl (upd fwo k 1))), (sc, .inl (y 0, 25, .inl fsc)), (tx, .inr (7, [.ref bys, .int (nI ln), .int (nI (ks_K fby ln en)), .int (nI (ks_S fby ln en)), .int (nI (ks_E fby ln en)), .int (nI (ks_V fby ln en)), .ref wo, .ref fs, .ref sc, .int (nI (tfi + 1)), .int (nI tgl), .int (nI tst)])), (bys, .inl (y 1, 150, .inl fby)), (fs, .inl (y 0, 25, .inl (upd ffs k (nI (ks_V fby ln en)))))] H := hP
          have hD : va_D A [(wo, .inl (y 0, 25, .inl (upd fwo k 1))), (sc, .inl (y 0, 25, .inl fsc)), (tx, .inr (7, [.ref bys, .int (nI ln), .int (nI (ks_K fby ln en)), .int (nI (ks_S fby ln en)), .int (nI (ks_E fby ln en)), .int (nI (ks_V fby ln en)), .ref wo, .ref fs, .ref sc, .int (nI (tfi + 1)), .int (nI tgl), .int (nI tst)])), (bys, .inl (y 1, 150, .inl fby)), (fs, .inl (y 0, 25, .inl (upd ffs k (nI (ks_V fby ln en)))))] := hD
          refine lv_if_eq (tgt := 133) hx hb dX7_isItem_111 (by decide) (fun h9 => absurd h9 (by decide)) (fun _ => ?_)
          refine lv_aload_n hx hb dX7_isItem_114 rfl (lv_at hl 1 rfl) ?_
          refine lv_aload_n hx hb dX7_isItem_115 rfl (lv_at hl 1 rfl) ?_
          refine va_get (D := D) (ci := 7) (v := .ref sc) (C := RX7) (T := TX7) (N := 12) hx hb hts iw7 hown hK hP 2 rfl rfl 8 (by decide) fw4 (fun _ h9 => h9) rfl dX7_isItem_116 ?_
          refine lv_iload_n hx hb dX7_isItem_119 rfl (lv_at hl 2 rfl) ?_
          refine lv_iconst (v := 0) hx hb dX7_isItem_120 (by decide) ?_
          refine lv_bipush (v := 60) hx hb dX7_isItem_121 (by decide) ?_
          have hs34 : kw_Split [(wo, .inl (y 0, 25, .inl (upd fwo k 1))), (sc, .inl (y 0, 25, .inl fsc)), (tx, .inr (7, [.ref bys, .int (nI ln), .int (nI (ks_K fby ln en)), .int (nI (ks_S fby ln en)), .int (nI (ks_E fby ln en)), .int (nI (ks_V fby ln en)), .ref wo, .ref fs, .ref sc, .int (nI (tfi + 1)), .int (nI tgl), .int (nI tst)])), (bys, .inl (y 1, 150, .inl fby)), (fs, .inl (y 0, 25, .inl (upd ffs k (nI (ks_V fby ln en)))))] [(tx, .inr (7, [.ref bys, .int (nI ln), .int (nI (ks_K fby ln en)), .int (nI (ks_S fby ln en)), .int (nI (ks_E fby ln en)), .int (nI (ks_V fby ln en)), .ref wo, .ref fs, .ref sc, .int (nI (tfi + 1)), .int (nI tgl), .int (nI tst)])), (bys, .inl (y 1, 150, .inl fby)), (sc, .inl (y 0, 25, .inl fsc))] [(wo, .inl (y 0, 25, .inl (upd fwo k 1))), (fs, .inl (y 0, 25, .inl (upd ffs k (nI (ks_V fby ln en)))))] [2, 3, 1] [0, 4] := ⟨rfl, rfl, rfl, rfl, rfl, by decide⟩
          refine kw_go_i hs34 hP hD hS hA (va_runV (As := [.ref sc, .int (nI k), .int 0, .int 60]) (rest := []) ⟨hx, hb, hml, hown, hts⟩ (gs_takes l D y tx bys wo fs sc ln (ks_S fby ln en) (ks_E fby ln en) (nI (ks_K fby ln en)) (nI (ks_V fby ln en)) (nI (tfi + 1)) (nI tgl) (nI tst) fby sc fsc k 0 60 hln (by omega) hk (by omega) (by omega) _) (cwV 4 hts gX7_isItem_X7_takes rfl rfl rfl (by decide +kernel) ⟨Nat.le_of_ble_eq_true rfl, Nat.le_of_ble_eq_true rfl⟩) (kw_PreV (ci := 7) (q0 := 2) hs34 hP hD hK hN rfl rfl) rfl rfl hl.1 rfl (lv_room (Nat.le_of_ble_eq_true rfl)) dX7_isItem_123 ⟨Nat.le_of_ble_eq_true rfl, Nat.le_of_ble_eq_true rfl⟩) (fun r35 u36 H locs hq hP hD hS => ?_)
          obtain ⟨v37, v38⟩ := u36
          try dsimp only at hq
          obtain ⟨(rfl | rfl), h39, h40, h41, h42, h43⟩ := hq
          · skip
            have hP : va_P D vwCl [(wo, .inl (y 0, 25, .inl (upd fwo k 1))), (fs, .inl (y 0, 25, .inl (upd ffs k (nI (ks_V fby ln en))))), (tx, .inr (7, [.ref bys, .int (nI ln), .int (nI (ks_K fby ln (ks_E fby ln en))), .int (nI (ks_S fby ln (ks_E fby ln en))), .int (nI (ks_E fby ln (ks_E fby ln en))), .int v37, .ref wo, .ref fs, .ref sc, .int (nI (tfi + 1)), .int (nI tgl), .int (nI tst)])), (bys, .inl (y 1, 150, .inl fby)), (sc, .inl (y 0, 25, .inl v38))] H := hP
            have hD : va_D A [(wo, .inl (y 0, 25, .inl (upd fwo k 1))), (fs, .inl (y 0, 25, .inl (upd ffs k (nI (ks_V fby ln en))))), (tx, .inr (7, [.ref bys, .int (nI ln), .int (nI (ks_K fby ln (ks_E fby ln en))), .int (nI (ks_S fby ln (ks_E fby ln en))), .int (nI (ks_E fby ln (ks_E fby ln en))), .int v37, .ref wo, .ref fs, .ref sc, .int (nI (tfi + 1)), .int (nI tgl), .int (nI tst)])), (bys, .inl (y 1, 150, .inl fby)), (sc, .inl (y 0, 25, .inl v38))] := hD
            have h43 : ¬ ks_nm fby ln (ks_E fby ln en) 0 60 = true := h43 rfl
            refine lv_if_eq (tgt := 133) hx hb dX7_isItem_126 (by decide) (fun _ => ?_) (fun h9 => absurd h9 (by decide))
            refine lv_iconst (v := 0) hx hb dX7_isItem_133 (by decide) ?_
            exact W.zret (v := 0) hx hb hr (by decide) (fun tZ ht hW => ⟨⟨0, ((nI (ks_K fby ln (ks_E fby ln en))), ks_S fby ln (ks_E fby ln en), ks_E fby ln (ks_E fby ln en), v37, tfi + 1, tgl, tst, (upd fwo k 1), (upd ffs k (nI (ks_V fby ln en))), v38), rfl, ⟨by first | omega | (dsimp only; omega), by first | omega | (dsimp only; omega), by first | omega | (dsimp only; omega), by first | omega | (dsimp only; omega), by first | omega | (dsimp only; omega), Or.inl rfl, (fun _ => (ks_it1 h9).trans (ks_fldB (by first | omega | (dsimp only; omega)) h31 h43)), (fun h9 => absurd h9 (by decide))⟩, by rw [ht]; exact hP.sub [2, 3, 0, 1, 4] rfl, hD.sub [2, 3, 0, 1, 4] (by decide) rfl⟩, hS.F ht⟩) hS.2.2 dX7_isItem_134
          · skip
            have hP : va_P D vwCl [(wo, .inl (y 0, 25, .inl (upd fwo k 1))), (fs, .inl (y 0, 25, .inl (upd ffs k (nI (ks_V fby ln en))))), (tx, .inr (7, [.ref bys, .int (nI ln), .int (nI (ks_K fby ln (ks_E fby ln en))), .int (nI (ks_S fby ln (ks_E fby ln en))), .int (nI (ks_E fby ln (ks_E fby ln en))), .int v37, .ref wo, .ref fs, .ref sc, .int (nI (tfi + 1)), .int (nI tgl), .int (nI tst)])), (bys, .inl (y 1, 150, .inl fby)), (sc, .inl (y 0, 25, .inl v38))] H := hP
            have hD : va_D A [(wo, .inl (y 0, 25, .inl (upd fwo k 1))), (fs, .inl (y 0, 25, .inl (upd ffs k (nI (ks_V fby ln en))))), (tx, .inr (7, [.ref bys, .int (nI ln), .int (nI (ks_K fby ln (ks_E fby ln en))), .int (nI (ks_S fby ln (ks_E fby ln en))), .int (nI (ks_E fby ln (ks_E fby ln en))), .int v37, .ref wo, .ref fs, .ref sc, .int (nI (tfi + 1)), .int (nI tgl), .int (nI tst)])), (bys, .inl (y 1, 150, .inl fby)), (sc, .inl (y 0, 25, .inl v38))] := hD
            have h42 : ks_nm fby ln (ks_E fby ln en) 0 60 = true ∧ v38 = upd fsc k (nI (ks_V fby ln (ks_E fby ln en))) ∧ v37 = nI (ks_V fby ln (ks_E fby ln en)) := h42 rfl
            obtain ⟨h44, h45, h46⟩ := h42
            have h45 := h45.symm
            subst h45
            have h46 := h46.symm
            subst h46
            have hP : va_P D vwCl [(wo, .inl (y 0, 25, .inl (upd fwo k 1))), (fs, .inl (y 0, 25, .inl (upd ffs k (nI (ks_V fby ln en))))), (tx, .inr (7, [.ref bys, .int (nI ln), .int (nI (ks_K fby ln (ks_E fby ln en))), .int (nI (ks_S fby ln (ks_E fby ln en))), .int (nI (ks_E fby ln (ks_E fby ln en))), .int (nI (ks_V fby ln (ks_E fby ln en))), .ref wo, .ref fs, .ref sc, .int (nI (tfi + 1)), .int (nI tgl), .int (nI tst)])), (bys, .inl (y 1, 150, .inl fby)), (sc, .inl (y 0, 25, .inl (upd fsc k (nI (ks_V fby ln (ks_E fby ln en))))))] H := hP
            have hD : va_D A [(wo, .inl (y 0, 25, .inl (upd fwo k 1))), (fs, .inl (y 0, 25, .inl (upd ffs k (nI (ks_V fby ln en))))), (tx, .inr (7, [.ref bys, .int (nI ln), .int (nI (ks_K fby ln (ks_E fby ln en))), .int (nI (ks_S fby ln (ks_E fby ln en))), .int (nI (ks_E fby ln (ks_E fby ln en))), .int (nI (ks_V fby ln (ks_E fby ln en))), .ref wo, .ref fs, .ref sc, .int (nI (tfi + 1)), .int (nI tgl), .int (nI tst)])), (bys, .inl (y 1, 150, .inl fby)), (sc, .inl (y 0, 25, .inl (upd fsc k (nI (ks_V fby ln (ks_E fby ln en))))))] := hD
            refine lv_if_eq (tgt := 133) hx hb dX7_isItem_126 (by decide) (fun h9 => absurd h9 (by decide)) (fun _ => ?_)
            refine lv_iconst (v := 1) hx hb dX7_isItem_129 (by decide) ?_
            refine lv_goto (tgt := 134) hx hb dX7_isItem_130 (by decide) ?_
            exact W.zret (v := 1) hx hb hr (by decide) (fun tZ ht hW => ⟨⟨1, ((nI (ks_K fby ln (ks_E fby ln en))), ks_S fby ln (ks_E fby ln en), ks_E fby ln (ks_E fby ln en), (nI (ks_V fby ln (ks_E fby ln en))), tfi + 1, tgl, tst, (upd fwo k 1), (upd ffs k (nI (ks_V fby ln en))), (upd fsc k (nI (ks_V fby ln (ks_E fby ln en))))), rfl, ⟨by first | omega | (dsimp only; omega), by first | omega | (dsimp only; omega), by first | omega | (dsimp only; omega), by first | omega | (dsimp only; omega), by first | omega | (dsimp only; omega), Or.inr rfl, (fun h9 => absurd h9 (by decide)), (fun _ => kz_g1.mk ((ks_it1 h9).trans (ks_fldC (by first | omega | (dsimp only; omega)) h31 h44)) (kz_oE_1 hok (by first | omega | (dsimp only; omega)) (by first | omega | (dsimp only; omega)) (vp_in_nI (by have q9 := (ks_nm_v h31).2.2; first | omega | (dsimp only; omega)) (by decide))) (by have q1 := (ks_len1 h9).2; have q2 := ks_nm_E (by first | omega | (dsimp only; omega)) h31; have q3 := ks_nm_E (by first | omega | (dsimp only; omega)) h44; first | omega | (dsimp only; omega)))⟩, by rw [ht]; exact hP.sub [2, 3, 0, 1, 4] rfl, hD.sub [2, 3, 0, 1, 4] (by decide) rfl⟩, hS.F ht⟩) hS.2.2 dX7_isItem_134
    · skip
      have h18 : k = 0 := (nI_eq (a := k) (b := 0) (by omega) (by omega)).mp h18
      exact absurd h18 (by omega)
  · skip
    have hP : va_P D vwCl [(wo, .inl (y 0, 25, .inl fwo)), (fs, .inl (y 0, 25, .inl ffs)), (sc, .inl (y 0, 25, .inl fsc)), (tx, .inr (7, [.ref bys, .int (nI ln), .int (nI tk), .int (nI sta), .int (nI en), .int num, .ref wo, .ref fs, .ref sc, .int (nI tfi), .int (nI tgl), .int (nI tst)])), (bys, .inl (y 1, 150, .inl fby))] H := hP
    have hD : va_D A [(wo, .inl (y 0, 25, .inl fwo)), (fs, .inl (y 0, 25, .inl ffs)), (sc, .inl (y 0, 25, .inl fsc)), (tx, .inr (7, [.ref bys, .int (nI ln), .int (nI tk), .int (nI sta), .int (nI en), .int num, .ref wo, .ref fs, .ref sc, .int (nI tfi), .int (nI tgl), .int (nI tst)])), (bys, .inl (y 1, 150, .inl fby))] := hD
    refine lv_istore_n (lv' := [(2, .int 2), (0, .ref tx), (1, .int (nI k))]) hx hb dX7_isItem_4 rfl hl (by decide) rfl (fun ls hl => ?_)
    refine lv_iload_n hx hb dX7_isItem_5 rfl (lv_at hl 0 rfl) ?_
    refine lv_iconst (v := (-1)) hx hb dX7_isItem_6 (by decide) ?_
    refine lv_icmp_eq (tgt := 31) hx hb dX7_isItem_7 (by decide) (fun h9 => absurd h9 (by decide)) (fun _ => ?_)
    refine lv_iload_n hx hb dX7_isItem_10 rfl (lv_at hl 0 rfl) ?_
    refine lv_if_ne (tgt := 18) hx hb dX7_isItem_11 (by decide) (fun _ => ?_) (fun h9 => absurd h9 (by decide))
    refine lv_iconst (v := 0) hx hb dX7_isItem_18 (by decide) ?_
    refine lv_iload_n hx hb dX7_isItem_19 rfl (lv_at hl 2 rfl) ?_
    refine lv_if_ne (tgt := 27) hx hb dX7_isItem_20 (by decide) (fun h47 => ?_) (fun h48 => ?_)
    · skip
      have h47 : ¬ k = 0 := fun q9 => h47 ((nI_eq (a := k) (b := 0) (by omega) (by omega)).mpr q9)
      refine lv_iconst (v := 0) hx hb dX7_isItem_27 (by decide) ?_
      refine lv_icmp_eq (tgt := 33) hx hb dX7_isItem_28 (by decide) (fun _ => ?_) (fun h9 => absurd h9 (by decide))
      refine lv_aload_n hx hb dX7_isItem_33 rfl (lv_at hl 1 rfl) ?_
      refine va_get (D := D) (ci := 7) (v := .ref wo) (C := RX7) (T := TX7) (N := 12) hx hb hts iw7 hown hK hP 3 rfl rfl 6 (by decide) fw1 (fun _ h9 => h9) rfl dX7_isItem_34 ?_
      refine lv_iload_n hx hb dX7_isItem_37 rfl (lv_at hl 2 rfl) ?_
      refine lv_iload_n hx hb dX7_isItem_38 rfl (lv_at hl 0 rfl) ?_
      refine va_iast hx hb hK hP hD hS 0 0 rfl rfl (vp_in_nI (by omega) (by decide)) dX7_isItem_39 (fun H locs hP hD hS => ?_)
      rw [nI_clamp (n := k) (by omega)] at hP hD
      have hP : va_P D vwCl [(wo, .inl (y 0, 25, .inl (upd fwo k 2))), (fs, .inl (y 0, 25, .inl ffs)), (sc, .inl (y 0, 25, .inl fsc)), (tx, .inr (7, [.ref bys, .int (nI ln), .int (nI tk), .int (nI sta), .int (nI en), .int num, .ref wo, .ref fs, .ref sc, .int (nI tfi), .int (nI tgl), .int (nI tst)])), (bys, .inl (y 1, 150, .inl fby))] H := hP
      have hD : va_D A [(wo, .inl (y 0, 25, .inl (upd fwo k 2))), (fs, .inl (y 0, 25, .inl ffs)), (sc, .inl (y 0, 25, .inl fsc)), (tx, .inr (7, [.ref bys, .int (nI ln), .int (nI tk), .int (nI sta), .int (nI en), .int num, .ref wo, .ref fs, .ref sc, .int (nI tfi), .int (nI tgl), .int (nI tst)])), (bys, .inl (y 1, 150, .inl fby))] := hD
      refine lv_iload_n hx hb dX7_isItem_40 rfl (lv_at hl 0 rfl) ?_
      refine lv_tableIn (off := 94) (tgt := 135) hx hb dX7_isItem_41 (by decide) (by decide) (by decide +kernel) (by decide) ?_
      refine lv_aload_n hx hb dX7_isItem_135 rfl (lv_at hl 1 rfl) ?_
      refine lv_dup hx hb dX7_isItem_136 rfl ?_
      refine va_get (D := D) (ci := 7) (v := .int (nI tgl)) (C := RX7) (T := TX7) (N := 12) hx hb hts iw7 hown hK hP 3 rfl rfl 10 (by decide) fw5 (fun _ h9 => h9) rfl dX7_isItem_137 ?_
      refine lv_iconst (v := 1) hx hb dX7_isItem_140 (by decide) ?_
      refine lv_iadd hx hb dX7_isItem_141 ?_
      rw [show (nI tgl) + 1 = nI (tgl + 1) from nI_add tgl 1]
      refine va_put (D := D) (ci := 7) (v := .int (nI (tgl + 1))) (ty := .int) (C := RX7) (T := TX7) (N := 12) hx hb hts iw7 tyX7 tyX7_ok nmX7 hown hK hP hD hS 3 rfl rfl 10 (by decide) fw5 (fun _ h9 => h9) rfl (by decide +kernel) rfl rfl (Nat.le_of_ble_eq_true rfl) dX7_isItem_142 (fun H locs hP hD hS => ?_)
      have hP : va_P D vwCl [(wo, .inl (y 0, 25, .inl (upd fwo k 2))), (fs, .inl (y 0, 25, .inl ffs)), (sc, .inl (y 0, 25, .inl fsc)), (tx, .inr (7, [.ref bys, .int (nI ln), .int (nI tk), .int (nI sta), .int (nI en), .int num, .ref wo, .ref fs, .ref sc, .int (nI tfi), .int (nI (tgl + 1)), .int (nI tst)])), (bys, .inl (y 1, 150, .inl fby))] H := hP
      have hD : va_D A [(wo, .inl (y 0, 25, .inl (upd fwo k 2))), (fs, .inl (y 0, 25, .inl ffs)), (sc, .inl (y 0, 25, .inl fsc)), (tx, .inr (7, [.ref bys, .int (nI ln), .int (nI tk), .int (nI sta), .int (nI en), .int num, .ref wo, .ref fs, .ref sc, .int (nI tfi), .int (nI (tgl + 1)), .int (nI tst)])), (bys, .inl (y 1, 150, .inl fby))] := hD
      refine lv_aload_n hx hb dX7_isItem_145 rfl (lv_at hl 1 rfl) ?_
      refine va_get (D := D) (ci := 7) (v := .int (nI (tgl + 1))) (C := RX7) (T := TX7) (N := 12) hx hb hts iw7 hown hK hP 3 rfl rfl 10 (by decide) fw5 (fun _ h9 => h9) rfl dX7_isItem_146 ?_
      refine lv_iconst (v := 5) hx hb dX7_isItem_149 (by decide) ?_
      refine lv_icmp_gt (tgt := 176) hx hb dX7_isItem_150 (by decide) (fun h49 => ?_) (fun h50 => ?_)
      · skip
        have h49 : 5 < (tgl + 1) := (nI_ltI (a := 5) (b := (tgl + 1)) (by omega) (by omega)).mp h49
        refine lv_iconst (v := 0) hx hb dX7_isItem_176 (by decide) ?_
        exact W.zret (v := 0) hx hb hr (by decide) (fun tZ ht hW => ⟨⟨0, ((nI tk), sta, en, num, tfi, tgl + 1, tst, (upd fwo k 2), ffs, fsc), rfl, ⟨by first | omega | (dsimp only; omega), by first | omega | (dsimp only; omega), by first | omega | (dsimp only; omega), by first | omega | (dsimp only; omega), by first | omega | (dsimp only; omega), Or.inl rfl, (fun _ => (ks_it2 h11 h10).trans (ks_glr5 (by first | omega | (dsimp only; omega)))), (fun h9 => absurd h9 (by decide))⟩, by rw [ht]; exact hP.sub [3, 4, 0, 1, 2] rfl, hD.sub [3, 4, 0, 1, 2] (by decide) rfl⟩, hS.F ht⟩) hS.2.2 dX7_isItem_177
      · skip
        have h50 : ¬ 5 < (tgl + 1) := fun q9 => h50 ((nI_ltI (a := 5) (b := (tgl + 1)) (by omega) (by omega)).mpr q9)
        refine lv_aload_n hx hb dX7_isItem_153 rfl (lv_at hl 1 rfl) ?_
        refine lv_aload_n hx hb dX7_isItem_154 rfl (lv_at hl 1 rfl) ?_
        refine va_get (D := D) (ci := 7) (v := .ref fs) (C := RX7) (T := TX7) (N := 12) hx hb hts iw7 hown hK hP 3 rfl rfl 7 (by decide) fw3 (fun _ h9 => h9) rfl dX7_isItem_155 ?_
        refine lv_iload_n hx hb dX7_isItem_158 rfl (lv_at hl 2 rfl) ?_
        refine lv_iconst (v := 0) hx hb dX7_isItem_159 (by decide) ?_
        rcases (show tfi = 0 ∨ ∃ tq, tfi = tq + 1 from by rcases tfi with _ | z; exact Or.inl rfl; exact Or.inr ⟨z, rfl⟩) with rfl | ⟨tq, rfl⟩
        · skip
          refine lv_aload_n hx hb dX7_isItem_160 rfl (lv_at hl 1 rfl) ?_
          refine va_get (D := D) (ci := 7) (v := .int (nI 0)) (C := RX7) (T := TX7) (N := 12) hx hb hts iw7 hown hK hP 3 rfl rfl 9 (by decide) fw2 (fun _ h9 => h9) rfl dX7_isItem_161 ?_
          refine lv_iconst (v := 1) hx hb dX7_isItem_164 (by decide) ?_
          refine lv_isub hx hb dX7_isItem_165 ?_
          rw [show (nI 0) - 1 = (-1) from by decide]
          have hs51 : kw_Split [(wo, .inl (y 0, 25, .inl (upd fwo k 2))), (fs, .inl (y 0, 25, .inl ffs)), (sc, .inl (y 0, 25, .inl fsc)), (tx, .inr (7, [.ref bys, .int (nI ln), .int (nI tk), .int (nI sta), .int (nI en), .int num, .ref wo, .ref fs, .ref sc, .int (nI 0), .int (nI (tgl + 1)), .int (nI tst)])), (bys, .inl (y 1, 150, .inl fby))] [(tx, .inr (7, [.ref bys, .int (nI ln), .int (nI tk), .int (nI sta), .int (nI en), .int num, .ref wo, .ref fs, .ref sc, .int (nI 0), .int (nI (tgl + 1)), .int (nI tst)])), (bys, .inl (y 1, 150, .inl fby)), (fs, .inl (y 0, 25, .inl ffs))] [(wo, .inl (y 0, 25, .inl (upd fwo k 2))), (sc, .inl (y 0, 25, .inl fsc))] [3, 4, 1] [0, 2] := ⟨rfl, rfl, rfl, rfl, rfl, by decide⟩
          refine kw_go_i hs51 hP hD hS hA (va_runV (As := [.ref fs, .int (nI k), .int 0, .int (-1)]) (rest := []) ⟨hx, hb, hml, hown, hts⟩ (gs_takesN l D y tx bys wo fs sc ln sta en (nI tk) num (nI 0) (nI (tgl + 1)) (nI tst) fby fs ffs k hln hen hk _) (cwV 4 hts gX7_isItem_X7_takes rfl rfl rfl (by decide +kernel) ⟨Nat.le_of_ble_eq_true rfl, Nat.le_of_ble_eq_true rfl⟩) (kw_PreV (ci := 7) (q0 := 3) hs51 hP hD hK hN rfl rfl) rfl rfl hl.1 rfl (lv_room (Nat.le_of_ble_eq_true rfl)) dX7_isItem_166 ⟨Nat.le_of_ble_eq_true rfl, Nat.le_of_ble_eq_true rfl⟩) (fun r52 u53 H locs hq hP hD hS => ?_)
          obtain ⟨v54, rfl⟩ : ∃ z, z = u53 := ⟨_, rfl⟩
          try dsimp only at hq
          obtain ⟨h55, h56, h57, rfl⟩ := hq
          have hP : va_P D vwCl [(wo, .inl (y 0, 25, .inl (upd fwo k 2))), (sc, .inl (y 0, 25, .inl fsc)), (tx, .inr (7, [.ref bys, .int (nI ln), .int (nI (ks_K fby ln en)), .int (nI (ks_S fby ln en)), .int (nI (ks_E fby ln en)), .int v54, .ref wo, .ref fs, .ref sc, .int (nI 0), .int (nI (tgl + 1)), .int (nI tst)])), (bys, .inl (y 1, 150, .inl fby)), (fs, .inl (y 0, 25, .inl ffs))] H := hP
          have hD : va_D A [(wo, .inl (y 0, 25, .inl (upd fwo k 2))), (sc, .inl (y 0, 25, .inl fsc)), (tx, .inr (7, [.ref bys, .int (nI ln), .int (nI (ks_K fby ln en)), .int (nI (ks_S fby ln en)), .int (nI (ks_E fby ln en)), .int v54, .ref wo, .ref fs, .ref sc, .int (nI 0), .int (nI (tgl + 1)), .int (nI tst)])), (bys, .inl (y 1, 150, .inl fby)), (fs, .inl (y 0, 25, .inl ffs))] := hD
          refine lv_if_eq (tgt := 176) hx hb dX7_isItem_169 (by decide) (fun _ => ?_) (fun h9 => absurd h9 (by decide))
          refine lv_iconst (v := 0) hx hb dX7_isItem_176 (by decide) ?_
          exact W.zret (v := 0) hx hb hr (by decide) (fun tZ ht hW => ⟨⟨0, ((nI (ks_K fby ln en)), ks_S fby ln en, ks_E fby ln en, v54, 0, tgl + 1, tst, (upd fwo k 2), ffs, fsc), rfl, ⟨by first | omega | (dsimp only; omega), by first | omega | (dsimp only; omega), by first | omega | (dsimp only; omega), by first | omega | (dsimp only; omega), by first | omega | (dsimp only; omega), Or.inl rfl, (fun _ => (ks_it2 h11 h10).trans (ks_glrZ (by first | omega | (dsimp only; omega)) rfl)), (fun h9 => absurd h9 (by decide))⟩, by rw [ht]; exact hP.sub [2, 3, 0, 4, 1] rfl, hD.sub [2, 3, 0, 4, 1] (by decide) rfl⟩, hS.F ht⟩) hS.2.2 dX7_isItem_177
        · skip
          refine lv_aload_n hx hb dX7_isItem_160 rfl (lv_at hl 1 rfl) ?_
          refine va_get (D := D) (ci := 7) (v := .int (nI (tq + 1))) (C := RX7) (T := TX7) (N := 12) hx hb hts iw7 hown hK hP 3 rfl rfl 9 (by decide) fw2 (fun _ h9 => h9) rfl dX7_isItem_161 ?_
          refine lv_iconst (v := 1) hx hb dX7_isItem_164 (by decide) ?_
          refine lv_isub hx hb dX7_isItem_165 ?_
          rw [show (nI (tq + 1)) - 1 = nI (tq) from pk_sub (a := (tq + 1)) (b := 1) (by omega)]
          have hs58 : kw_Split [(wo, .inl (y 0, 25, .inl (upd fwo k 2))), (fs, .inl (y 0, 25, .inl ffs)), (sc, .inl (y 0, 25, .inl fsc)), (tx, .inr (7, [.ref bys, .int (nI ln), .int (nI tk), .int (nI sta), .int (nI en), .int num, .ref wo, .ref fs, .ref sc, .int (nI (tq + 1)), .int (nI (tgl + 1)), .int (nI tst)])), (bys, .inl (y 1, 150, .inl fby))] [(tx, .inr (7, [.ref bys, .int (nI ln), .int (nI tk), .int (nI sta), .int (nI en), .int num, .ref wo, .ref fs, .ref sc, .int (nI (tq + 1)), .int (nI (tgl + 1)), .int (nI tst)])), (bys, .inl (y 1, 150, .inl fby)), (fs, .inl (y 0, 25, .inl ffs))] [(wo, .inl (y 0, 25, .inl (upd fwo k 2))), (sc, .inl (y 0, 25, .inl fsc))] [3, 4, 1] [0, 2] := ⟨rfl, rfl, rfl, rfl, rfl, by decide⟩
          refine kw_go_i hs58 hP hD hS hA (va_runV (As := [.ref fs, .int (nI k), .int 0, .int (nI tq)]) (rest := []) ⟨hx, hb, hml, hown, hts⟩ (gs_takes l D y tx bys wo fs sc ln sta en (nI tk) num (nI (tq + 1)) (nI (tgl + 1)) (nI tst) fby fs ffs k 0 tq hln hen hk (by omega) (by omega) _) (cwV 4 hts gX7_isItem_X7_takes rfl rfl rfl (by decide +kernel) ⟨Nat.le_of_ble_eq_true rfl, Nat.le_of_ble_eq_true rfl⟩) (kw_PreV (ci := 7) (q0 := 3) hs58 hP hD hK hN rfl rfl) rfl rfl hl.1 rfl (lv_room (Nat.le_of_ble_eq_true rfl)) dX7_isItem_166 ⟨Nat.le_of_ble_eq_true rfl, Nat.le_of_ble_eq_true rfl⟩) (fun r59 u60 H locs hq hP hD hS => ?_)
          obtain ⟨v61, v62⟩ := u60
          try dsimp only at hq
          obtain ⟨(rfl | rfl), h63, h64, h65, h66, h67⟩ := hq
          · skip
            have hP : va_P D vwCl [(wo, .inl (y 0, 25, .inl (upd fwo k 2))), (sc, .inl (y 0, 25, .inl fsc)), (tx, .inr (7, [.ref bys, .int (nI ln), .int (nI (ks_K fby ln en)), .int (nI (ks_S fby ln en)), .int (nI (ks_E fby ln en)), .int v61, .ref wo, .ref fs, .ref sc, .int (nI (tq + 1)), .int (nI (tgl + 1)), .int (nI tst)])), (bys, .inl (y 1, 150, .inl fby)), (fs, .inl (y 0, 25, .inl v62))] H := hP
            have hD : va_D A [(wo, .inl (y 0, 25, .inl (upd fwo k 2))), (sc, .inl (y 0, 25, .inl fsc)), (tx, .inr (7, [.ref bys, .int (nI ln), .int (nI (ks_K fby ln en)), .int (nI (ks_S fby ln en)), .int (nI (ks_E fby ln en)), .int v61, .ref wo, .ref fs, .ref sc, .int (nI (tq + 1)), .int (nI (tgl + 1)), .int (nI tst)])), (bys, .inl (y 1, 150, .inl fby)), (fs, .inl (y 0, 25, .inl v62))] := hD
            have h67 : ¬ ks_nm fby ln en 0 tq = true := h67 rfl
            refine lv_if_eq (tgt := 176) hx hb dX7_isItem_169 (by decide) (fun _ => ?_) (fun h9 => absurd h9 (by decide))
            refine lv_iconst (v := 0) hx hb dX7_isItem_176 (by decide) ?_
            exact W.zret (v := 0) hx hb hr (by decide) (fun tZ ht hW => ⟨⟨0, ((nI (ks_K fby ln en)), ks_S fby ln en, ks_E fby ln en, v61, tq + 1, tgl + 1, tst, (upd fwo k 2), v62, fsc), rfl, ⟨by first | omega | (dsimp only; omega), by first | omega | (dsimp only; omega), by first | omega | (dsimp only; omega), by first | omega | (dsimp only; omega), by first | omega | (dsimp only; omega), Or.inl rfl, (fun _ => (ks_it2 h11 h10).trans (ks_glrA (by first | omega | (dsimp only; omega)) h67)), (fun h9 => absurd h9 (by decide))⟩, by rw [ht]; exact hP.sub [2, 3, 0, 4, 1] rfl, hD.sub [2, 3, 0, 4, 1] (by decide) rfl⟩, hS.F ht⟩) hS.2.2 dX7_isItem_177
          · skip
            have hP : va_P D vwCl [(wo, .inl (y 0, 25, .inl (upd fwo k 2))), (sc, .inl (y 0, 25, .inl fsc)), (tx, .inr (7, [.ref bys, .int (nI ln), .int (nI (ks_K fby ln en)), .int (nI (ks_S fby ln en)), .int (nI (ks_E fby ln en)), .int v61, .ref wo, .ref fs, .ref sc, .int (nI (tq + 1)), .int (nI (tgl + 1)), .int (nI tst)])), (bys, .inl (y 1, 150, .inl fby)), (fs, .inl (y 0, 25, .inl v62))] H := hP
            have hD : va_D A [(wo, .inl (y 0, 25, .inl (upd fwo k 2))), (sc, .inl (y 0, 25, .inl fsc)), (tx, .inr (7, [.ref bys, .int (nI ln), .int (nI (ks_K fby ln en)), .int (nI (ks_S fby ln en)), .int (nI (ks_E fby ln en)), .int v61, .ref wo, .ref fs, .ref sc, .int (nI (tq + 1)), .int (nI (tgl + 1)), .int (nI tst)])), (bys, .inl (y 1, 150, .inl fby)), (fs, .inl (y 0, 25, .inl v62))] := hD
            have h66 : ks_nm fby ln en 0 tq = true ∧ v62 = upd ffs k (nI (ks_V fby ln en)) ∧ v61 = nI (ks_V fby ln en) := h66 rfl
            obtain ⟨h68, h69, h70⟩ := h66
            have h69 := h69.symm
            subst h69
            have h70 := h70.symm
            subst h70
            have hP : va_P D vwCl [(wo, .inl (y 0, 25, .inl (upd fwo k 2))), (sc, .inl (y 0, 25, .inl fsc)), (tx, .inr (7, [.ref bys, .int (nI ln), .int (nI (ks_K fby ln en)), .int (nI (ks_S fby ln en)), .int (nI (ks_E fby ln en)), .int (nI (ks_V fby ln en)), .ref wo, .ref fs, .ref sc, .int (nI (tq + 1)), .int (nI (tgl + 1)), .int (nI tst)])), (bys, .inl (y 1, 150, .inl fby)), (fs, .inl (y 0, 25, .inl (upd ffs k (nI (ks_V fby ln en)))))] H := hP
            have hD : va_D A [(wo, .inl (y 0, 25, .inl (upd fwo k 2))), (sc, .inl (y 0, 25, .inl fsc)), (tx, .inr (7, [.ref bys, .int (nI ln), .int (nI (ks_K fby ln en)), .int (nI (ks_S fby ln en)), .int (nI (ks_E fby ln en)), .int (nI (ks_V fby ln en)), .ref wo, .ref fs, .ref sc, .int (nI (tq + 1)), .int (nI (tgl + 1)), .int (nI tst)])), (bys, .inl (y 1, 150, .inl fby)), (fs, .inl (y 0, 25, .inl (upd ffs k (nI (ks_V fby ln en)))))] := hD
            refine lv_if_eq (tgt := 176) hx hb dX7_isItem_169 (by decide) (fun h9 => absurd h9 (by decide)) (fun _ => ?_)
            refine lv_iconst (v := 1) hx hb dX7_isItem_172 (by decide) ?_
            refine lv_goto (tgt := 177) hx hb dX7_isItem_173 (by decide) ?_
            exact W.zret (v := 1) hx hb hr (by decide) (fun tZ ht hW => ⟨⟨1, ((nI (ks_K fby ln en)), ks_S fby ln en, ks_E fby ln en, (nI (ks_V fby ln en)), tq + 1, tgl + 1, tst, (upd fwo k 2), (upd ffs k (nI (ks_V fby ln en))), fsc), rfl, ⟨by first | omega | (dsimp only; omega), by first | omega | (dsimp only; omega), by first | omega | (dsimp only; omega), by first | omega | (dsimp only; omega), by first | omega | (dsimp only; omega), Or.inr rfl, (fun h9 => absurd h9 (by decide)), (fun _ => kz_g1.mk ((ks_it2 h11 h10).trans (ks_glrB (by first | omega | (dsimp only; omega)) (by first | omega | (dsimp only; omega)) h68)) (kz_oE_2 hok (by first | omega | (dsimp only; omega)) (by first | omega | (dsimp only; omega)) (vp_in_nI (by have q9 := (ks_nm_v h68).2.2; first | omega | (dsimp only; omega)) (by decide))) (by have q1 := (ks_len2 h10).2; have q2 := ks_nm_E (by first | omega | (dsimp only; omega)) h68; first | omega | (dsimp only; omega)))⟩, by rw [ht]; exact hP.sub [2, 3, 0, 4, 1] rfl, hD.sub [2, 3, 0, 4, 1] (by decide) rfl⟩, hS.F ht⟩) hS.2.2 dX7_isItem_177
    · skip
      have h48 : k = 0 := (nI_eq (a := k) (b := 0) (by omega) (by omega)).mp h48
      exact absurd h48 (by omega)
  · skip
    have hP : va_P D vwCl [(wo, .inl (y 0, 25, .inl fwo)), (fs, .inl (y 0, 25, .inl ffs)), (sc, .inl (y 0, 25, .inl fsc)), (tx, .inr (7, [.ref bys, .int (nI ln), .int (nI tk), .int (nI sta), .int (nI en), .int num, .ref wo, .ref fs, .ref sc, .int (nI tfi), .int (nI tgl), .int (nI tst)])), (bys, .inl (y 1, 150, .inl fby))] H := hP
    have hD : va_D A [(wo, .inl (y 0, 25, .inl fwo)), (fs, .inl (y 0, 25, .inl ffs)), (sc, .inl (y 0, 25, .inl fsc)), (tx, .inr (7, [.ref bys, .int (nI ln), .int (nI tk), .int (nI sta), .int (nI en), .int num, .ref wo, .ref fs, .ref sc, .int (nI tfi), .int (nI tgl), .int (nI tst)])), (bys, .inl (y 1, 150, .inl fby))] := hD
    refine lv_istore_n (lv' := [(2, .int 3), (0, .ref tx), (1, .int (nI k))]) hx hb dX7_isItem_4 rfl hl (by decide) rfl (fun ls hl => ?_)
    refine lv_iload_n hx hb dX7_isItem_5 rfl (lv_at hl 0 rfl) ?_
    refine lv_iconst (v := (-1)) hx hb dX7_isItem_6 (by decide) ?_
    refine lv_icmp_eq (tgt := 31) hx hb dX7_isItem_7 (by decide) (fun h9 => absurd h9 (by decide)) (fun _ => ?_)
    refine lv_iload_n hx hb dX7_isItem_10 rfl (lv_at hl 0 rfl) ?_
    refine lv_if_ne (tgt := 18) hx hb dX7_isItem_11 (by decide) (fun _ => ?_) (fun h9 => absurd h9 (by decide))
    refine lv_iconst (v := 0) hx hb dX7_isItem_18 (by decide) ?_
    refine lv_iload_n hx hb dX7_isItem_19 rfl (lv_at hl 2 rfl) ?_
    refine lv_if_ne (tgt := 27) hx hb dX7_isItem_20 (by decide) (fun h71 => ?_) (fun h72 => ?_)
    · skip
      have h71 : ¬ k = 0 := fun q9 => h71 ((nI_eq (a := k) (b := 0) (by omega) (by omega)).mpr q9)
      refine lv_iconst (v := 0) hx hb dX7_isItem_27 (by decide) ?_
      refine lv_icmp_eq (tgt := 33) hx hb dX7_isItem_28 (by decide) (fun _ => ?_) (fun h9 => absurd h9 (by decide))
      refine lv_aload_n hx hb dX7_isItem_33 rfl (lv_at hl 1 rfl) ?_
      refine va_get (D := D) (ci := 7) (v := .ref wo) (C := RX7) (T := TX7) (N := 12) hx hb hts iw7 hown hK hP 3 rfl rfl 6 (by decide) fw1 (fun _ h9 => h9) rfl dX7_isItem_34 ?_
      refine lv_iload_n hx hb dX7_isItem_37 rfl (lv_at hl 2 rfl) ?_
      refine lv_iload_n hx hb dX7_isItem_38 rfl (lv_at hl 0 rfl) ?_
      refine va_iast hx hb hK hP hD hS 0 0 rfl rfl (vp_in_nI (by omega) (by decide)) dX7_isItem_39 (fun H locs hP hD hS => ?_)
      rw [nI_clamp (n := k) (by omega)] at hP hD
      have hP : va_P D vwCl [(wo, .inl (y 0, 25, .inl (upd fwo k 3))), (fs, .inl (y 0, 25, .inl ffs)), (sc, .inl (y 0, 25, .inl fsc)), (tx, .inr (7, [.ref bys, .int (nI ln), .int (nI tk), .int (nI sta), .int (nI en), .int num, .ref wo, .ref fs, .ref sc, .int (nI tfi), .int (nI tgl), .int (nI tst)])), (bys, .inl (y 1, 150, .inl fby))] H := hP
      have hD : va_D A [(wo, .inl (y 0, 25, .inl (upd fwo k 3))), (fs, .inl (y 0, 25, .inl ffs)), (sc, .inl (y 0, 25, .inl fsc)), (tx, .inr (7, [.ref bys, .int (nI ln), .int (nI tk), .int (nI sta), .int (nI en), .int num, .ref wo, .ref fs, .ref sc, .int (nI tfi), .int (nI tgl), .int (nI tst)])), (bys, .inl (y 1, 150, .inl fby))] := hD
      refine lv_iload_n hx hb dX7_isItem_40 rfl (lv_at hl 0 rfl) ?_
      refine lv_tableOut (tgt := 178) hx hb dX7_isItem_41 (by decide) (by decide) ?_
      refine lv_aload_n hx hb dX7_isItem_178 rfl (lv_at hl 1 rfl) ?_
      refine lv_aload_n hx hb dX7_isItem_179 rfl (lv_at hl 1 rfl) ?_
      refine va_get (D := D) (ci := 7) (v := .ref fs) (C := RX7) (T := TX7) (N := 12) hx hb hts iw7 hown hK hP 3 rfl rfl 7 (by decide) fw3 (fun _ h9 => h9) rfl dX7_isItem_180 ?_
      refine lv_iload_n hx hb dX7_isItem_183 rfl (lv_at hl 2 rfl) ?_
      refine lv_iconst (v := 1) hx hb dX7_isItem_184 (by decide) ?_
      refine lv_aload_n hx hb dX7_isItem_185 rfl (lv_at hl 1 rfl) ?_
      refine va_get (D := D) (ci := 7) (v := .int (nI tst)) (C := RX7) (T := TX7) (N := 12) hx hb hts iw7 hown hK hP 3 rfl rfl 11 (by decide) fw6 (fun _ h9 => h9) rfl dX7_isItem_186 ?_
      have hs73 : kw_Split [(wo, .inl (y 0, 25, .inl (upd fwo k 3))), (fs, .inl (y 0, 25, .inl ffs)), (sc, .inl (y 0, 25, .inl fsc)), (tx, .inr (7, [.ref bys, .int (nI ln), .int (nI tk), .int (nI sta), .int (nI en), .int num, .ref wo, .ref fs, .ref sc, .int (nI tfi), .int (nI tgl), .int (nI tst)])), (bys, .inl (y 1, 150, .inl fby))] [(tx, .inr (7, [.ref bys, .int (nI ln), .int (nI tk), .int (nI sta), .int (nI en), .int num, .ref wo, .ref fs, .ref sc, .int (nI tfi), .int (nI tgl), .int (nI tst)])), (bys, .inl (y 1, 150, .inl fby)), (fs, .inl (y 0, 25, .inl ffs))] [(wo, .inl (y 0, 25, .inl (upd fwo k 3))), (sc, .inl (y 0, 25, .inl fsc))] [3, 4, 1] [0, 2] := ⟨rfl, rfl, rfl, rfl, rfl, by decide⟩
      refine kw_go_i hs73 hP hD hS hA (va_runV (As := [.ref fs, .int (nI k), .int 1, .int (nI tst)]) (rest := []) ⟨hx, hb, hml, hown, hts⟩ (gs_takes l D y tx bys wo fs sc ln sta en (nI tk) num (nI tfi) (nI tgl) (nI tst) fby fs ffs k 1 tst hln hen hk (by omega) (by omega) _) (cwV 4 hts gX7_isItem_X7_takes rfl rfl rfl (by decide +kernel) ⟨Nat.le_of_ble_eq_true rfl, Nat.le_of_ble_eq_true rfl⟩) (kw_PreV (ci := 7) (q0 := 3) hs73 hP hD hK hN rfl rfl) rfl rfl hl.1 rfl (lv_room (Nat.le_of_ble_eq_true rfl)) dX7_isItem_189 ⟨Nat.le_of_ble_eq_true rfl, Nat.le_of_ble_eq_true rfl⟩) (fun r74 u75 H locs hq hP hD hS => ?_)
      obtain ⟨v76, v77⟩ := u75
      try dsimp only at hq
      obtain ⟨(rfl | rfl), h78, h79, h80, h81, h82⟩ := hq
      · skip
        have hP : va_P D vwCl [(wo, .inl (y 0, 25, .inl (upd fwo k 3))), (sc, .inl (y 0, 25, .inl fsc)), (tx, .inr (7, [.ref bys, .int (nI ln), .int (nI (ks_K fby ln en)), .int (nI (ks_S fby ln en)), .int (nI (ks_E fby ln en)), .int v76, .ref wo, .ref fs, .ref sc, .int (nI tfi), .int (nI tgl), .int (nI tst)])), (bys, .inl (y 1, 150, .inl fby)), (fs, .inl (y 0, 25, .inl v77))] H := hP
        have hD : va_D A [(wo, .inl (y 0, 25, .inl (upd fwo k 3))), (sc, .inl (y 0, 25, .inl fsc)), (tx, .inr (7, [.ref bys, .int (nI ln), .int (nI (ks_K fby ln en)), .int (nI (ks_S fby ln en)), .int (nI (ks_E fby ln en)), .int v76, .ref wo, .ref fs, .ref sc, .int (nI tfi), .int (nI tgl), .int (nI tst)])), (bys, .inl (y 1, 150, .inl fby)), (fs, .inl (y 0, 25, .inl v77))] := hD
        have h82 : ¬ ks_nm fby ln en 1 tst = true := h82 rfl
        refine lv_istore_n (lv' := [(3, .int 0), (2, .int 3), (0, .ref tx), (1, .int (nI k))]) hx hb dX7_isItem_192 rfl hl (by decide) rfl (fun ls hl => ?_)
        refine lv_iload_n hx hb dX7_isItem_193 rfl (lv_at hl 0 rfl) ?_
        refine lv_if_eq (tgt := 210) hx hb dX7_isItem_194 (by decide) (fun _ => ?_) (fun h9 => absurd h9 (by decide))
        refine lv_iload_n hx hb dX7_isItem_210 rfl (lv_at hl 0 rfl) ?_
        exact W.zret (v := 0) hx hb hr (by decide) (fun tZ ht hW => ⟨⟨0, ((nI (ks_K fby ln en)), ks_S fby ln en, ks_E fby ln en, v76, tfi, tgl, tst, (upd fwo k 3), v77, fsc), rfl, ⟨by first | omega | (dsimp only; omega), by first | omega | (dsimp only; omega), by first | omega | (dsimp only; omega), by first | omega | (dsimp only; omega), by first | omega | (dsimp only; omega), Or.inl rfl, (fun _ => (ks_it3 h13 h14 h12).trans (ks_glnA h82)), (fun h9 => absurd h9 (by decide))⟩, by rw [ht]; exact hP.sub [2, 3, 0, 4, 1] rfl, hD.sub [2, 3, 0, 4, 1] (by decide) rfl⟩, hS.F ht⟩) hS.2.2 dX7_isItem_211
      · skip
        have hP : va_P D vwCl [(wo, .inl (y 0, 25, .inl (upd fwo k 3))), (sc, .inl (y 0, 25, .inl fsc)), (tx, .inr (7, [.ref bys, .int (nI ln), .int (nI (ks_K fby ln en)), .int (nI (ks_S fby ln en)), .int (nI (ks_E fby ln en)), .int v76, .ref wo, .ref fs, .ref sc, .int (nI tfi), .int (nI tgl), .int (nI tst)])), (bys, .inl (y 1, 150, .inl fby)), (fs, .inl (y 0, 25, .inl v77))] H := hP
        have hD : va_D A [(wo, .inl (y 0, 25, .inl (upd fwo k 3))), (sc, .inl (y 0, 25, .inl fsc)), (tx, .inr (7, [.ref bys, .int (nI ln), .int (nI (ks_K fby ln en)), .int (nI (ks_S fby ln en)), .int (nI (ks_E fby ln en)), .int v76, .ref wo, .ref fs, .ref sc, .int (nI tfi), .int (nI tgl), .int (nI tst)])), (bys, .inl (y 1, 150, .inl fby)), (fs, .inl (y 0, 25, .inl v77))] := hD
        have h81 : ks_nm fby ln en 1 tst = true ∧ v77 = upd ffs k (nI (ks_V fby ln en)) ∧ v76 = nI (ks_V fby ln en) := h81 rfl
        obtain ⟨h83, h84, h85⟩ := h81
        have h84 := h84.symm
        subst h84
        have h85 := h85.symm
        subst h85
        have hP : va_P D vwCl [(wo, .inl (y 0, 25, .inl (upd fwo k 3))), (sc, .inl (y 0, 25, .inl fsc)), (tx, .inr (7, [.ref bys, .int (nI ln), .int (nI (ks_K fby ln en)), .int (nI (ks_S fby ln en)), .int (nI (ks_E fby ln en)), .int (nI (ks_V fby ln en)), .ref wo, .ref fs, .ref sc, .int (nI tfi), .int (nI tgl), .int (nI tst)])), (bys, .inl (y 1, 150, .inl fby)), (fs, .inl (y 0, 25, .inl (upd ffs k (nI (ks_V fby ln en)))))] H := hP
        have hD : va_D A [(wo, .inl (y 0, 25, .inl (upd fwo k 3))), (sc, .inl (y 0, 25, .inl fsc)), (tx, .inr (7, [.ref bys, .int (nI ln), .int (nI (ks_K fby ln en)), .int (nI (ks_S fby ln en)), .int (nI (ks_E fby ln en)), .int (nI (ks_V fby ln en)), .ref wo, .ref fs, .ref sc, .int (nI tfi), .int (nI tgl), .int (nI tst)])), (bys, .inl (y 1, 150, .inl fby)), (fs, .inl (y 0, 25, .inl (upd ffs k (nI (ks_V fby ln en)))))] := hD
        refine lv_istore_n (lv' := [(3, .int 1), (2, .int 3), (0, .ref tx), (1, .int (nI k))]) hx hb dX7_isItem_192 rfl hl (by decide) rfl (fun ls hl => ?_)
        refine lv_iload_n hx hb dX7_isItem_193 rfl (lv_at hl 0 rfl) ?_
        refine lv_if_eq (tgt := 210) hx hb dX7_isItem_194 (by decide) (fun h9 => absurd h9 (by decide)) (fun _ => ?_)
        refine lv_aload_n hx hb dX7_isItem_197 rfl (lv_at hl 2 rfl) ?_
        refine lv_dup hx hb dX7_isItem_198 rfl ?_
        refine va_get (D := D) (ci := 7) (v := .int (nI tst)) (C := RX7) (T := TX7) (N := 12) hx hb hts iw7 hown hK hP 2 rfl rfl 11 (by decide) fw6 (fun _ h9 => h9) rfl dX7_isItem_199 ?_
        refine lv_aload_n hx hb dX7_isItem_202 rfl (lv_at hl 2 rfl) ?_
        refine va_get (D := D) (ci := 7) (v := .int (nI (ks_V fby ln en))) (C := RX7) (T := TX7) (N := 12) hx hb hts iw7 hown hK hP 2 rfl rfl 5 (by decide) fw7 (fun _ h9 => h9) rfl dX7_isItem_203 ?_
        have hq86 := (ks_nm_v h83).2.2
        refine lv_isub hx hb dX7_isItem_206 ?_
        rw [show (nI tst) - (nI (ks_V fby ln en)) = nI (tst - (ks_V fby ln en)) from pk_sub (a := tst) (b := (ks_V fby ln en)) (by omega)]
        refine va_put (D := D) (ci := 7) (v := .int (nI (tst - (ks_V fby ln en)))) (ty := .int) (C := RX7) (T := TX7) (N := 12) hx hb hts iw7 tyX7 tyX7_ok nmX7 hown hK hP hD hS 2 rfl rfl 11 (by decide) fw6 (fun _ h9 => h9) rfl (by decide +kernel) rfl rfl (Nat.le_of_ble_eq_true rfl) dX7_isItem_207 (fun H locs hP hD hS => ?_)
        have hP : va_P D vwCl [(wo, .inl (y 0, 25, .inl (upd fwo k 3))), (sc, .inl (y 0, 25, .inl fsc)), (tx, .inr (7, [.ref bys, .int (nI ln), .int (nI (ks_K fby ln en)), .int (nI (ks_S fby ln en)), .int (nI (ks_E fby ln en)), .int (nI (ks_V fby ln en)), .ref wo, .ref fs, .ref sc, .int (nI tfi), .int (nI tgl), .int (nI (tst - (ks_V fby ln en)))])), (bys, .inl (y 1, 150, .inl fby)), (fs, .inl (y 0, 25, .inl (upd ffs k (nI (ks_V fby ln en)))))] H := hP
        have hD : va_D A [(wo, .inl (y 0, 25, .inl (upd fwo k 3))), (sc, .inl (y 0, 25, .inl fsc)), (tx, .inr (7, [.ref bys, .int (nI ln), .int (nI (ks_K fby ln en)), .int (nI (ks_S fby ln en)), .int (nI (ks_E fby ln en)), .int (nI (ks_V fby ln en)), .ref wo, .ref fs, .ref sc, .int (nI tfi), .int (nI tgl), .int (nI (tst - (ks_V fby ln en)))])), (bys, .inl (y 1, 150, .inl fby)), (fs, .inl (y 0, 25, .inl (upd ffs k (nI (ks_V fby ln en)))))] := hD
        refine lv_iload_n hx hb dX7_isItem_210 rfl (lv_at hl 0 rfl) ?_
        exact W.zret (v := 1) hx hb hr (by decide) (fun tZ ht hW => ⟨⟨1, ((nI (ks_K fby ln en)), ks_S fby ln en, ks_E fby ln en, (nI (ks_V fby ln en)), tfi, tgl, tst - (ks_V fby ln en), (upd fwo k 3), (upd ffs k (nI (ks_V fby ln en))), fsc), rfl, ⟨by first | omega | (dsimp only; omega), by first | omega | (dsimp only; omega), by first | omega | (dsimp only; omega), by first | omega | (dsimp only; omega), by first | omega | (dsimp only; omega), Or.inr rfl, (fun h9 => absurd h9 (by decide)), (fun _ => kz_g1.mk ((ks_it3 h13 h14 h12).trans (ks_glnB h83)) (kz_oE_n hok (by first | omega | (dsimp only; omega)) (by decide) (by decide)) (by have q1 := (ks_len3 h12).2; have q2 := ks_nm_E (by first | omega | (dsimp only; omega)) h83; first | omega | (dsimp only; omega)))⟩, by rw [ht]; exact hP.sub [2, 3, 0, 4, 1] rfl, hD.sub [2, 3, 0, 4, 1] (by decide) rfl⟩, hS.F ht⟩) hS.2.2 dX7_isItem_211
    · skip
      have h72 : k = 0 := (nI_eq (a := k) (b := 0) (by omega) (by omega)).mp h72
      exact absurd h72 (by omega)

set_option maxHeartbeats 4000000 in
set_option maxRecDepth 100000 in
theorem gs_isItem0 (l : Launch) (D : va_G) (y : Nat → ClassId) (aK : Nat → Nat) (aV : Nat → Nat) (tx : Nat) (bys : Nat) (wo : Nat) (fs : Nat) (sc : Nat) (ln : Nat) (tk : Nat) (sta : Nat) (en : Nat) (tfi : Nat) (tgl : Nat) (tst : Nat) (num : Int32) (fby : Nat → Int32) (fwo : Nat → Int32) (ffs : Nat → Int32) (fsc : Nat → Int32) (hln : ln ≤ 150) (hen : en ≤ ln) (hse : sta ≤ en) (htk : tk ≤ 4) : kz_Mi l yX7_isItem wsX7_isItem ({ frames := 7, cells := 0, slots := 0, locals := 187 }) D y [.ref tx, .int 0] [(tx, .inr (7, [.ref bys, .int (nI ln), .int (nI tk), .int (nI sta), .int (nI en), .int num, .ref wo, .ref fs, .ref sc, .int (nI tfi), .int (nI tgl), .int (nI tst)])), (bys, .inl (y 1, 150, .inl fby)), (wo, .inl (y 0, 25, .inl fwo)), (fs, .inl (y 0, 25, .inl ffs)), (sc, .inl (y 0, 25, .inl fsc))] aK aV (fun (r : Int32) (u : Int32 × Nat × Nat × Int32 × (Nat → Int32) × (Nat → Int32)) => u.2.1 ≤ ln ∧ u.2.2.1 ≤ ln ∧ (r = 0 ∨ r = 1) ∧ (r = 0 → ks_it0 fby ln tk sta en = ks_flt u.2.1) ∧ (r = 1 → kz_g0 fby ln tk sta en u.2.2.1 u.2.2.2.2.1 u.2.2.2.2.2)) (fun u => [(tx, .inr (7, [.ref bys, .int (nI ln), .int u.1, .int (nI u.2.1), .int (nI u.2.2.1), .int u.2.2.2.1, .ref wo, .ref fs, .ref sc, .int (nI tfi), .int (nI tgl), .int (nI tst)])), (bys, .inl (y 1, 150, .inl fby)), (wo, .inl (y 0, 25, .inl u.2.2.2.2.1)), (fs, .inl (y 0, 25, .inl u.2.2.2.2.2)), (sc, .inl (y 0, 25, .inl fsc))]) 0 0 := by
  refine kz_Mi.of (cc := cX7_isItem) (maxL := 4) (ret := (some .boolean)) (by decide) rfl ?_
  intro pZ eZ s mZ beZ meZ cZ A hE
  obtain ⟨hx, hb, hr, hml, hts, hown, hlocks, hin, hA, hP, hD, hK, hN, hZ⟩ := hE
  have hS : va_S A s.heap s.heap [] := va_S.rf
  have hl := lv_entry ([.ref tx, .int 0]) (n := 4) (Nat.le_of_ble_eq_true rfl)
  rw [lg_entry_eq]
  generalize (lg_sl ([.ref tx, .int 0]) ++ List.replicate (4 - (lg_sl ([.ref tx, .int 0])).length) Slot.unset).toArray = ls at hl ⊢
  have hl : lv_has ls 4 [(0, .ref tx), (1, .int 0)] := hl
  have fw1 := hts (.fieldLink RX7 15 "GleanDusk$Text" "words" "[I") (List.mem_of_getElem? (i := 1) rfl)
  have fw2 := hts (.fieldLink RX7 19 "GleanDusk$Text" "first" "[I") (List.mem_of_getElem? (i := 2) rfl)
  have iw7 : ∀ w ∈ wsX70, w ∈ wsX7_isItem := fun _ h => List.mem_cons_of_mem _ (List.mem_append_right _ h)
  refine lv_aload_n hx hb dX7_isItem_0 rfl (lv_at hl 0 rfl) ?_
  have hs1 : kw_Split [(tx, .inr (7, [.ref bys, .int (nI ln), .int (nI tk), .int (nI sta), .int (nI en), .int num, .ref wo, .ref fs, .ref sc, .int (nI tfi), .int (nI tgl), .int (nI tst)])), (bys, .inl (y 1, 150, .inl fby)), (wo, .inl (y 0, 25, .inl fwo)), (fs, .inl (y 0, 25, .inl ffs)), (sc, .inl (y 0, 25, .inl fsc))] [(tx, .inr (7, [.ref bys, .int (nI ln), .int (nI tk), .int (nI sta), .int (nI en), .int num, .ref wo, .ref fs, .ref sc, .int (nI tfi), .int (nI tgl), .int (nI tst)])), (bys, .inl (y 1, 150, .inl fby))] [(wo, .inl (y 0, 25, .inl fwo)), (fs, .inl (y 0, 25, .inl ffs)), (sc, .inl (y 0, 25, .inl fsc))] [0, 1] [2, 3, 4] := ⟨rfl, rfl, rfl, rfl, rfl, by decide⟩
  refine kw_go_i hs1 hP hD hS hA (va_runV (As := []) (rest := []) ⟨hx, hb, hml, hown, hts⟩ (gs_wordHere l D y aK aV tx bys wo fs sc tk ln sta en num (nI tfi) (nI tgl) (nI tst) fby hln hen hse htk _) (cwV 0 hts gX7_isItem_X7_wordHere rfl rfl rfl (by decide +kernel) ⟨Nat.le_of_ble_eq_true rfl, Nat.le_of_ble_eq_true rfl⟩) (kz_PreV (ci := 7) (q0 := 0) hs1 hP hD hK hN rfl rfl hZ hS hA) rfl rfl hl.1 rfl (lv_room (Nat.le_of_ble_eq_true rfl)) dX7_isItem_1 ⟨Nat.le_of_ble_eq_true rfl, Nat.le_of_ble_eq_true rfl⟩) (fun r2 u3 H locs hq hP hD hS => ?_)
  rcases hq with ⟨h4, h5, h6, h7, rfl⟩ | ⟨h8, rfl⟩ | ⟨h9, rfl⟩ | ⟨h10, h11, rfl⟩ | ⟨h12, h13, h14, rfl⟩
  · skip
    have hP : va_P D vwCl [(wo, .inl (y 0, 25, .inl fwo)), (fs, .inl (y 0, 25, .inl ffs)), (sc, .inl (y 0, 25, .inl fsc)), (tx, .inr (7, [.ref bys, .int (nI ln), .int (nI tk), .int (nI sta), .int (nI en), .int num, .ref wo, .ref fs, .ref sc, .int (nI tfi), .int (nI tgl), .int (nI tst)])), (bys, .inl (y 1, 150, .inl fby))] H := hP
    have hD : va_D A [(wo, .inl (y 0, 25, .inl fwo)), (fs, .inl (y 0, 25, .inl ffs)), (sc, .inl (y 0, 25, .inl fsc)), (tx, .inr (7, [.ref bys, .int (nI ln), .int (nI tk), .int (nI sta), .int (nI en), .int num, .ref wo, .ref fs, .ref sc, .int (nI tfi), .int (nI tgl), .int (nI tst)])), (bys, .inl (y 1, 150, .inl fby))] := hD
    refine lv_istore_n (lv' := [(2, .int (-1)), (0, .ref tx), (1, .int 0)]) hx hb dX7_isItem_4 rfl hl (by decide) rfl (fun ls hl => ?_)
    refine lv_iload_n hx hb dX7_isItem_5 rfl (lv_at hl 0 rfl) ?_
    refine lv_iconst (v := (-1)) hx hb dX7_isItem_6 (by decide) ?_
    refine lv_icmp_eq (tgt := 31) hx hb dX7_isItem_7 (by decide) (fun _ => ?_) (fun h9 => absurd h9 (by decide))
    refine lv_iconst (v := 0) hx hb dX7_isItem_31 (by decide) ?_
    exact W.zret (v := 0) hx hb hr (by decide) (fun tZ ht hW => ⟨⟨0, ((nI tk), sta, en, num, fwo, ffs), rfl, ⟨by first | omega | (dsimp only; omega), by first | omega | (dsimp only; omega), Or.inl rfl, (fun _ => ks_it0A h4), (fun h9 => absurd h9 (by decide))⟩, by rw [ht]; exact hP.sub [3, 4, 0, 1, 2] rfl, hD.sub [3, 4, 0, 1, 2] (by decide) rfl⟩, hS.F ht⟩) hS.2.2 dX7_isItem_32
  · skip
    have hP : va_P D vwCl [(wo, .inl (y 0, 25, .inl fwo)), (fs, .inl (y 0, 25, .inl ffs)), (sc, .inl (y 0, 25, .inl fsc)), (tx, .inr (7, [.ref bys, .int (nI ln), .int (nI tk), .int (nI sta), .int (nI en), .int num, .ref wo, .ref fs, .ref sc, .int (nI tfi), .int (nI tgl), .int (nI tst)])), (bys, .inl (y 1, 150, .inl fby))] H := hP
    have hD : va_D A [(wo, .inl (y 0, 25, .inl fwo)), (fs, .inl (y 0, 25, .inl ffs)), (sc, .inl (y 0, 25, .inl fsc)), (tx, .inr (7, [.ref bys, .int (nI ln), .int (nI tk), .int (nI sta), .int (nI en), .int num, .ref wo, .ref fs, .ref sc, .int (nI tfi), .int (nI tgl), .int (nI tst)])), (bys, .inl (y 1, 150, .inl fby))] := hD
    refine lv_istore_n (lv' := [(2, .int 0), (0, .ref tx), (1, .int 0)]) hx hb dX7_isItem_4 rfl hl (by decide) rfl (fun ls hl => ?_)
    refine lv_iload_n hx hb dX7_isItem_5 rfl (lv_at hl 0 rfl) ?_
    refine lv_iconst (v := (-1)) hx hb dX7_isItem_6 (by decide) ?_
    refine lv_icmp_eq (tgt := 31) hx hb dX7_isItem_7 (by decide) (fun h9 => absurd h9 (by decide)) (fun _ => ?_)
    refine lv_iload_n hx hb dX7_isItem_10 rfl (lv_at hl 0 rfl) ?_
    refine lv_if_ne (tgt := 18) hx hb dX7_isItem_11 (by decide) (fun h9 => absurd h9 (by decide)) (fun _ => ?_)
    refine lv_iconst (v := 1) hx hb dX7_isItem_14 (by decide) ?_
    refine lv_goto (tgt := 19) hx hb dX7_isItem_15 (by decide) ?_
    refine lv_iload_n hx hb dX7_isItem_19 rfl (lv_at hl 2 rfl) ?_
    refine lv_if_ne (tgt := 27) hx hb dX7_isItem_20 (by decide) (fun h9 => absurd h9 (by decide)) (fun _ => ?_)
    refine lv_iconst (v := 1) hx hb dX7_isItem_23 (by decide) ?_
    refine lv_goto (tgt := 28) hx hb dX7_isItem_24 (by decide) ?_
    refine lv_icmp_eq (tgt := 33) hx hb dX7_isItem_28 (by decide) (fun _ => ?_) (fun h9 => absurd h9 (by decide))
    refine lv_aload_n hx hb dX7_isItem_33 rfl (lv_at hl 1 rfl) ?_
    refine va_get (D := D) (ci := 7) (v := .ref wo) (C := RX7) (T := TX7) (N := 12) hx hb hts iw7 hown hK hP 3 rfl rfl 6 (by decide) fw1 (fun _ h9 => h9) rfl dX7_isItem_34 ?_
    refine lv_iload_n hx hb dX7_isItem_37 rfl (lv_at hl 2 rfl) ?_
    refine lv_iload_n hx hb dX7_isItem_38 rfl (lv_at hl 0 rfl) ?_
    refine va_iast hx hb hK hP hD hS 0 0 rfl rfl (by unfold vp_in; decide) dX7_isItem_39 (fun H locs hP hD hS => ?_)
    rw [show ((0 : Int32)).toNatClampNeg = 0 from rfl] at hP hD
    have hP : va_P D vwCl [(wo, .inl (y 0, 25, .inl (upd fwo 0 0))), (fs, .inl (y 0, 25, .inl ffs)), (sc, .inl (y 0, 25, .inl fsc)), (tx, .inr (7, [.ref bys, .int (nI ln), .int (nI tk), .int (nI sta), .int (nI en), .int num, .ref wo, .ref fs, .ref sc, .int (nI tfi), .int (nI tgl), .int (nI tst)])), (bys, .inl (y 1, 150, .inl fby))] H := hP
    have hD : va_D A [(wo, .inl (y 0, 25, .inl (upd fwo 0 0))), (fs, .inl (y 0, 25, .inl ffs)), (sc, .inl (y 0, 25, .inl fsc)), (tx, .inr (7, [.ref bys, .int (nI ln), .int (nI tk), .int (nI sta), .int (nI en), .int num, .ref wo, .ref fs, .ref sc, .int (nI tfi), .int (nI tgl), .int (nI tst)])), (bys, .inl (y 1, 150, .inl fby))] := hD
    refine lv_iload_n hx hb dX7_isItem_40 rfl (lv_at hl 0 rfl) ?_
    refine lv_tableIn (off := 27) (tgt := 68) hx hb dX7_isItem_41 (by decide) (by decide) (by decide +kernel) (by decide) ?_
    refine lv_aload_n hx hb dX7_isItem_68 rfl (lv_at hl 1 rfl) ?_
    refine lv_aload_n hx hb dX7_isItem_69 rfl (lv_at hl 1 rfl) ?_
    refine va_get (D := D) (ci := 7) (v := .ref fs) (C := RX7) (T := TX7) (N := 12) hx hb hts iw7 hown hK hP 3 rfl rfl 7 (by decide) fw2 (fun _ h9 => h9) rfl dX7_isItem_70 ?_
    refine lv_iload_n hx hb dX7_isItem_73 rfl (lv_at hl 2 rfl) ?_
    refine lv_iconst (v := 0) hx hb dX7_isItem_74 (by decide) ?_
    refine lv_bipush (v := 9) hx hb dX7_isItem_75 (by decide) ?_
    have hs15 : kw_Split [(wo, .inl (y 0, 25, .inl (upd fwo 0 0))), (fs, .inl (y 0, 25, .inl ffs)), (sc, .inl (y 0, 25, .inl fsc)), (tx, .inr (7, [.ref bys, .int (nI ln), .int (nI tk), .int (nI sta), .int (nI en), .int num, .ref wo, .ref fs, .ref sc, .int (nI tfi), .int (nI tgl), .int (nI tst)])), (bys, .inl (y 1, 150, .inl fby))] [(tx, .inr (7, [.ref bys, .int (nI ln), .int (nI tk), .int (nI sta), .int (nI en), .int num, .ref wo, .ref fs, .ref sc, .int (nI tfi), .int (nI tgl), .int (nI tst)])), (bys, .inl (y 1, 150, .inl fby)), (fs, .inl (y 0, 25, .inl ffs))] [(wo, .inl (y 0, 25, .inl (upd fwo 0 0))), (sc, .inl (y 0, 25, .inl fsc))] [3, 4, 1] [0, 2] := ⟨rfl, rfl, rfl, rfl, rfl, by decide⟩
    refine kw_go_i hs15 hP hD hS hA (va_runV (As := [.ref fs, .int 0, .int 0, .int 9]) (rest := []) ⟨hx, hb, hml, hown, hts⟩ (gs_takes l D y tx bys wo fs sc ln sta en (nI tk) num (nI tfi) (nI tgl) (nI tst) fby fs ffs 0 0 9 hln hen (by omega) (by omega) (by omega) _) (cwV 4 hts gX7_isItem_X7_takes rfl rfl rfl (by decide +kernel) ⟨Nat.le_of_ble_eq_true rfl, Nat.le_of_ble_eq_true rfl⟩) (kw_PreV (ci := 7) (q0 := 3) hs15 hP hD hK hN rfl rfl) rfl rfl hl.1 rfl (lv_room (Nat.le_of_ble_eq_true rfl)) dX7_isItem_77 ⟨Nat.le_of_ble_eq_true rfl, Nat.le_of_ble_eq_true rfl⟩) (fun r16 u17 H locs hq hP hD hS => ?_)
    obtain ⟨v18, v19⟩ := u17
    try dsimp only at hq
    obtain ⟨(rfl | rfl), h20, h21, h22, h23, h24⟩ := hq
    · skip
      have hP : va_P D vwCl [(wo, .inl (y 0, 25, .inl (upd fwo 0 0))), (sc, .inl (y 0, 25, .inl fsc)), (tx, .inr (7, [.ref bys, .int (nI ln), .int (nI (ks_K fby ln en)), .int (nI (ks_S fby ln en)), .int (nI (ks_E fby ln en)), .int v18, .ref wo, .ref fs, .ref sc, .int (nI tfi), .int (nI tgl), .int (nI tst)])), (bys, .inl (y 1, 150, .inl fby)), (fs, .inl (y 0, 25, .inl v19))] H := hP
      have hD : va_D A [(wo, .inl (y 0, 25, .inl (upd fwo 0 0))), (sc, .inl (y 0, 25, .inl fsc)), (tx, .inr (7, [.ref bys, .int (nI ln), .int (nI (ks_K fby ln en)), .int (nI (ks_S fby ln en)), .int (nI (ks_E fby ln en)), .int v18, .ref wo, .ref fs, .ref sc, .int (nI tfi), .int (nI tgl), .int (nI tst)])), (bys, .inl (y 1, 150, .inl fby)), (fs, .inl (y 0, 25, .inl v19))] := hD
      have h24 : ¬ ks_nm fby ln en 0 9 = true := h24 rfl
      exact W.zret (v := 0) hx hb hr (by decide) (fun tZ ht hW => ⟨⟨0, ((nI (ks_K fby ln en)), ks_S fby ln en, ks_E fby ln en, v18, (upd fwo 0 0), v19), rfl, ⟨by first | omega | (dsimp only; omega), by first | omega | (dsimp only; omega), Or.inl rfl, (fun _ => ks_it0B h8 h24), (fun h9 => absurd h9 (by decide))⟩, by rw [ht]; exact hP.sub [2, 3, 0, 4, 1] rfl, hD.sub [2, 3, 0, 4, 1] (by decide) rfl⟩, hS.F ht⟩) hS.2.2 dX7_isItem_80
    · skip
      have hP : va_P D vwCl [(wo, .inl (y 0, 25, .inl (upd fwo 0 0))), (sc, .inl (y 0, 25, .inl fsc)), (tx, .inr (7, [.ref bys, .int (nI ln), .int (nI (ks_K fby ln en)), .int (nI (ks_S fby ln en)), .int (nI (ks_E fby ln en)), .int v18, .ref wo, .ref fs, .ref sc, .int (nI tfi), .int (nI tgl), .int (nI tst)])), (bys, .inl (y 1, 150, .inl fby)), (fs, .inl (y 0, 25, .inl v19))] H := hP
      have hD : va_D A [(wo, .inl (y 0, 25, .inl (upd fwo 0 0))), (sc, .inl (y 0, 25, .inl fsc)), (tx, .inr (7, [.ref bys, .int (nI ln), .int (nI (ks_K fby ln en)), .int (nI (ks_S fby ln en)), .int (nI (ks_E fby ln en)), .int v18, .ref wo, .ref fs, .ref sc, .int (nI tfi), .int (nI tgl), .int (nI tst)])), (bys, .inl (y 1, 150, .inl fby)), (fs, .inl (y 0, 25, .inl v19))] := hD
      have h23 : ks_nm fby ln en 0 9 = true ∧ v19 = upd ffs 0 (nI (ks_V fby ln en)) ∧ v18 = nI (ks_V fby ln en) := h23 rfl
      obtain ⟨h25, h26, h27⟩ := h23
      have h26 := h26.symm
      subst h26
      have h27 := h27.symm
      subst h27
      have hP : va_P D vwCl [(wo, .inl (y 0, 25, .inl (upd fwo 0 0))), (sc, .inl (y 0, 25, .inl fsc)), (tx, .inr (7, [.ref bys, .int (nI ln), .int (nI (ks_K fby ln en)), .int (nI (ks_S fby ln en)), .int (nI (ks_E fby ln en)), .int (nI (ks_V fby ln en)), .ref wo, .ref fs, .ref sc, .int (nI tfi), .int (nI tgl), .int (nI tst)])), (bys, .inl (y 1, 150, .inl fby)), (fs, .inl (y 0, 25, .inl (upd ffs 0 (nI (ks_V fby ln en)))))] H := hP
      have hD : va_D A [(wo, .inl (y 0, 25, .inl (upd fwo 0 0))), (sc, .inl (y 0, 25, .inl fsc)), (tx, .inr (7, [.ref bys, .int (nI ln), .int (nI (ks_K fby ln en)), .int (nI (ks_S fby ln en)), .int (nI (ks_E fby ln en)), .int (nI (ks_V fby ln en)), .ref wo, .ref fs, .ref sc, .int (nI tfi), .int (nI tgl), .int (nI tst)])), (bys, .inl (y 1, 150, .inl fby)), (fs, .inl (y 0, 25, .inl (upd ffs 0 (nI (ks_V fby ln en)))))] := hD
      exact W.zret (v := 1) hx hb hr (by decide) (fun tZ ht hW => ⟨⟨1, ((nI (ks_K fby ln en)), ks_S fby ln en, ks_E fby ln en, (nI (ks_V fby ln en)), (upd fwo 0 0), (upd ffs 0 (nI (ks_V fby ln en)))), rfl, ⟨by first | omega | (dsimp only; omega), by first | omega | (dsimp only; omega), Or.inr rfl, (fun h9 => absurd h9 (by decide)), (fun _ => kz_g0.mk (ks_it0C h8 h25) kz_oE_0 (by have q1 := (ks_len0 h8).2; have q2 := ks_nm_E (by first | omega | (dsimp only; omega)) h25; first | omega | (dsimp only; omega)))⟩, by rw [ht]; exact hP.sub [2, 3, 0, 4, 1] rfl, hD.sub [2, 3, 0, 4, 1] (by decide) rfl⟩, hS.F ht⟩) hS.2.2 dX7_isItem_80
  · skip
    have hP : va_P D vwCl [(wo, .inl (y 0, 25, .inl fwo)), (fs, .inl (y 0, 25, .inl ffs)), (sc, .inl (y 0, 25, .inl fsc)), (tx, .inr (7, [.ref bys, .int (nI ln), .int (nI tk), .int (nI sta), .int (nI en), .int num, .ref wo, .ref fs, .ref sc, .int (nI tfi), .int (nI tgl), .int (nI tst)])), (bys, .inl (y 1, 150, .inl fby))] H := hP
    have hD : va_D A [(wo, .inl (y 0, 25, .inl fwo)), (fs, .inl (y 0, 25, .inl ffs)), (sc, .inl (y 0, 25, .inl fsc)), (tx, .inr (7, [.ref bys, .int (nI ln), .int (nI tk), .int (nI sta), .int (nI en), .int num, .ref wo, .ref fs, .ref sc, .int (nI tfi), .int (nI tgl), .int (nI tst)])), (bys, .inl (y 1, 150, .inl fby))] := hD
    refine lv_istore_n (lv' := [(2, .int 1), (0, .ref tx), (1, .int 0)]) hx hb dX7_isItem_4 rfl hl (by decide) rfl (fun ls hl => ?_)
    refine lv_iload_n hx hb dX7_isItem_5 rfl (lv_at hl 0 rfl) ?_
    refine lv_iconst (v := (-1)) hx hb dX7_isItem_6 (by decide) ?_
    refine lv_icmp_eq (tgt := 31) hx hb dX7_isItem_7 (by decide) (fun h9 => absurd h9 (by decide)) (fun _ => ?_)
    refine lv_iload_n hx hb dX7_isItem_10 rfl (lv_at hl 0 rfl) ?_
    refine lv_if_ne (tgt := 18) hx hb dX7_isItem_11 (by decide) (fun _ => ?_) (fun h9 => absurd h9 (by decide))
    refine lv_iconst (v := 0) hx hb dX7_isItem_18 (by decide) ?_
    refine lv_iload_n hx hb dX7_isItem_19 rfl (lv_at hl 2 rfl) ?_
    refine lv_if_ne (tgt := 27) hx hb dX7_isItem_20 (by decide) (fun h9 => absurd h9 (by decide)) (fun _ => ?_)
    refine lv_iconst (v := 1) hx hb dX7_isItem_23 (by decide) ?_
    refine lv_goto (tgt := 28) hx hb dX7_isItem_24 (by decide) ?_
    refine lv_icmp_eq (tgt := 33) hx hb dX7_isItem_28 (by decide) (fun h9 => absurd h9 (by decide)) (fun _ => ?_)
    refine lv_iconst (v := 0) hx hb dX7_isItem_31 (by decide) ?_
    exact W.zret (v := 0) hx hb hr (by decide) (fun tZ ht hW => ⟨⟨0, ((nI tk), sta, en, num, fwo, ffs), rfl, ⟨by first | omega | (dsimp only; omega), by first | omega | (dsimp only; omega), Or.inl rfl, (fun _ => ks_it0A (fun q9 => ks_n01 q9 h9)), (fun h9 => absurd h9 (by decide))⟩, by rw [ht]; exact hP.sub [3, 4, 0, 1, 2] rfl, hD.sub [3, 4, 0, 1, 2] (by decide) rfl⟩, hS.F ht⟩) hS.2.2 dX7_isItem_32
  · skip
    have hP : va_P D vwCl [(wo, .inl (y 0, 25, .inl fwo)), (fs, .inl (y 0, 25, .inl ffs)), (sc, .inl (y 0, 25, .inl fsc)), (tx, .inr (7, [.ref bys, .int (nI ln), .int (nI tk), .int (nI sta), .int (nI en), .int num, .ref wo, .ref fs, .ref sc, .int (nI tfi), .int (nI tgl), .int (nI tst)])), (bys, .inl (y 1, 150, .inl fby))] H := hP
    have hD : va_D A [(wo, .inl (y 0, 25, .inl fwo)), (fs, .inl (y 0, 25, .inl ffs)), (sc, .inl (y 0, 25, .inl fsc)), (tx, .inr (7, [.ref bys, .int (nI ln), .int (nI tk), .int (nI sta), .int (nI en), .int num, .ref wo, .ref fs, .ref sc, .int (nI tfi), .int (nI tgl), .int (nI tst)])), (bys, .inl (y 1, 150, .inl fby))] := hD
    refine lv_istore_n (lv' := [(2, .int 2), (0, .ref tx), (1, .int 0)]) hx hb dX7_isItem_4 rfl hl (by decide) rfl (fun ls hl => ?_)
    refine lv_iload_n hx hb dX7_isItem_5 rfl (lv_at hl 0 rfl) ?_
    refine lv_iconst (v := (-1)) hx hb dX7_isItem_6 (by decide) ?_
    refine lv_icmp_eq (tgt := 31) hx hb dX7_isItem_7 (by decide) (fun h9 => absurd h9 (by decide)) (fun _ => ?_)
    refine lv_iload_n hx hb dX7_isItem_10 rfl (lv_at hl 0 rfl) ?_
    refine lv_if_ne (tgt := 18) hx hb dX7_isItem_11 (by decide) (fun _ => ?_) (fun h9 => absurd h9 (by decide))
    refine lv_iconst (v := 0) hx hb dX7_isItem_18 (by decide) ?_
    refine lv_iload_n hx hb dX7_isItem_19 rfl (lv_at hl 2 rfl) ?_
    refine lv_if_ne (tgt := 27) hx hb dX7_isItem_20 (by decide) (fun h9 => absurd h9 (by decide)) (fun _ => ?_)
    refine lv_iconst (v := 1) hx hb dX7_isItem_23 (by decide) ?_
    refine lv_goto (tgt := 28) hx hb dX7_isItem_24 (by decide) ?_
    refine lv_icmp_eq (tgt := 33) hx hb dX7_isItem_28 (by decide) (fun h9 => absurd h9 (by decide)) (fun _ => ?_)
    refine lv_iconst (v := 0) hx hb dX7_isItem_31 (by decide) ?_
    exact W.zret (v := 0) hx hb hr (by decide) (fun tZ ht hW => ⟨⟨0, ((nI tk), sta, en, num, fwo, ffs), rfl, ⟨by first | omega | (dsimp only; omega), by first | omega | (dsimp only; omega), Or.inl rfl, (fun _ => ks_it0A (fun q9 => ks_n02 q9 h10)), (fun h9 => absurd h9 (by decide))⟩, by rw [ht]; exact hP.sub [3, 4, 0, 1, 2] rfl, hD.sub [3, 4, 0, 1, 2] (by decide) rfl⟩, hS.F ht⟩) hS.2.2 dX7_isItem_32
  · skip
    have hP : va_P D vwCl [(wo, .inl (y 0, 25, .inl fwo)), (fs, .inl (y 0, 25, .inl ffs)), (sc, .inl (y 0, 25, .inl fsc)), (tx, .inr (7, [.ref bys, .int (nI ln), .int (nI tk), .int (nI sta), .int (nI en), .int num, .ref wo, .ref fs, .ref sc, .int (nI tfi), .int (nI tgl), .int (nI tst)])), (bys, .inl (y 1, 150, .inl fby))] H := hP
    have hD : va_D A [(wo, .inl (y 0, 25, .inl fwo)), (fs, .inl (y 0, 25, .inl ffs)), (sc, .inl (y 0, 25, .inl fsc)), (tx, .inr (7, [.ref bys, .int (nI ln), .int (nI tk), .int (nI sta), .int (nI en), .int num, .ref wo, .ref fs, .ref sc, .int (nI tfi), .int (nI tgl), .int (nI tst)])), (bys, .inl (y 1, 150, .inl fby))] := hD
    refine lv_istore_n (lv' := [(2, .int 3), (0, .ref tx), (1, .int 0)]) hx hb dX7_isItem_4 rfl hl (by decide) rfl (fun ls hl => ?_)
    refine lv_iload_n hx hb dX7_isItem_5 rfl (lv_at hl 0 rfl) ?_
    refine lv_iconst (v := (-1)) hx hb dX7_isItem_6 (by decide) ?_
    refine lv_icmp_eq (tgt := 31) hx hb dX7_isItem_7 (by decide) (fun h9 => absurd h9 (by decide)) (fun _ => ?_)
    refine lv_iload_n hx hb dX7_isItem_10 rfl (lv_at hl 0 rfl) ?_
    refine lv_if_ne (tgt := 18) hx hb dX7_isItem_11 (by decide) (fun _ => ?_) (fun h9 => absurd h9 (by decide))
    refine lv_iconst (v := 0) hx hb dX7_isItem_18 (by decide) ?_
    refine lv_iload_n hx hb dX7_isItem_19 rfl (lv_at hl 2 rfl) ?_
    refine lv_if_ne (tgt := 27) hx hb dX7_isItem_20 (by decide) (fun h9 => absurd h9 (by decide)) (fun _ => ?_)
    refine lv_iconst (v := 1) hx hb dX7_isItem_23 (by decide) ?_
    refine lv_goto (tgt := 28) hx hb dX7_isItem_24 (by decide) ?_
    refine lv_icmp_eq (tgt := 33) hx hb dX7_isItem_28 (by decide) (fun h9 => absurd h9 (by decide)) (fun _ => ?_)
    refine lv_iconst (v := 0) hx hb dX7_isItem_31 (by decide) ?_
    exact W.zret (v := 0) hx hb hr (by decide) (fun tZ ht hW => ⟨⟨0, ((nI tk), sta, en, num, fwo, ffs), rfl, ⟨by first | omega | (dsimp only; omega), by first | omega | (dsimp only; omega), Or.inl rfl, (fun _ => ks_it0A (fun q9 => ks_n03 q9 h12)), (fun h9 => absurd h9 (by decide))⟩, by rw [ht]; exact hP.sub [3, 4, 0, 1, 2] rfl, hD.sub [3, 4, 0, 1, 2] (by decide) rfl⟩, hS.F ht⟩) hS.2.2 dX7_isItem_32
