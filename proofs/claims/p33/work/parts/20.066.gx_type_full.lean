set_option maxHeartbeats 4000000 in
set_option maxRecDepth 100000 in
theorem gx_type_full (l : Launch) (D : va_G) (y : Nat → ClassId) (g : Nat) (kk : Nat) (nw : Nat) (im : Nat) (kp : Nat) (tx : Nat) (tr : Nat) (be : Nat) (sh : Nat) (sd : Nat) (rf : Nat) (ab : Int32) (bl : Int32) (frf : Nat → Int32) (bys : Nat) (wo : Nat) (fs : Nat) (sc : Nat) (ln : Nat) (sta : Nat) (en : Nat) (tok : Int32) (num : Int32) (tfi : Int32) (tgl : Int32) (tst : Int32) (k : Nat) (hln : ln ≤ 150) (hTs : sta ≤ 150) (hTe : en ≤ 150) (hA1 : k < 128) (hA2 : 150 ≤ ln) : kw_Mi l yX10_type wsX10_type ({ frames := 2, cells := 0, slots := 0, locals := 81 }) D y [.ref g, .int (nI k)] [(g, .inr (10, [.ref kk, .ref nw, .ref im, .ref kp, .ref tx, .ref tr, .ref be, .ref sh, .ref sd, .ref rf, .int ab, .int bl])), (rf, .inl (y 0, 3, .inl frf)), (tx, .inr (7, [.ref bys, .int (nI ln), .int tok, .int (nI sta), .int (nI en), .int num, .ref wo, .ref fs, .ref sc, .int tfi, .int tgl, .int tst]))] (fun (r : Int32) (u : Unit) => r = (-4)) (fun _ => [(g, .inr (10, [.ref kk, .ref nw, .ref im, .ref kp, .ref tx, .ref tr, .ref be, .ref sh, .ref sd, .ref rf, .int ab, .int bl])), (rf, .inl (y 0, 3, .inl (upd frf 2 ((frf 2) + 1)))), (tx, .inr (7, [.ref bys, .int (nI ln), .int tok, .int (nI sta), .int (nI en), .int num, .ref wo, .ref fs, .ref sc, .int tfi, .int tgl, .int tst]))]) 0 0 := by
  refine kw_Mi.of (cc := cX10_type) (maxL := 2) (ret := (some .int)) (by decide) rfl ?_
  intro pZ eZ s mZ beZ meZ cZ A hE
  obtain ⟨hx, hb, hr, hml, hts, hown, hlocks, hin, hA, hP, hD, hK, hN⟩ := hE
  have hS : va_S A s.heap s.heap [] := va_S.rf
  have hl := lv_entry ([.ref g, .int (nI k)]) (n := 2) (Nat.le_of_ble_eq_true rfl)
  rw [lg_entry_eq]
  generalize (lg_sl ([.ref g, .int (nI k)]) ++ List.replicate (2 - (lg_sl ([.ref g, .int (nI k)])).length) Slot.unset).toArray = ls at hl ⊢
  have hl : lv_has ls 2 [(0, .ref g), (1, .int (nI k))] := hl
  have fw1 := hts (.fieldLink RX10 51 "GleanDusk" "text" "LGleanDusk$Text;") (List.mem_of_getElem? (i := 1) rfl)
  have fw2 := hts (.fieldLink RX10 122 "GleanDusk$Text" "length" "I") (List.mem_of_getElem? (i := 2) rfl)
  have iw10 : ∀ w ∈ wsX100, w ∈ wsX10_type := fun _ h => List.mem_cons_of_mem _ (List.mem_append_left _ (List.mem_append_right _ h))
  have iw7 : ∀ w ∈ wsX70, w ∈ wsX10_type := fun _ h => List.mem_cons_of_mem _ (List.mem_append_right _ h)
  refine lv_iload_n hx hb dX10_type_0 rfl (lv_at hl 1 rfl) ?_
  refine lv_sipush (v := 128) hx hb dX10_type_1 (by decide) ?_
  have hs1 : kw_Split [(g, .inr (10, [.ref kk, .ref nw, .ref im, .ref kp, .ref tx, .ref tr, .ref be, .ref sh, .ref sd, .ref rf, .int ab, .int bl])), (rf, .inl (y 0, 3, .inl frf)), (tx, .inr (7, [.ref bys, .int (nI ln), .int tok, .int (nI sta), .int (nI en), .int num, .ref wo, .ref fs, .ref sc, .int tfi, .int tgl, .int tst]))] [] [(g, .inr (10, [.ref kk, .ref nw, .ref im, .ref kp, .ref tx, .ref tr, .ref be, .ref sh, .ref sd, .ref rf, .int ab, .int bl])), (rf, .inl (y 0, 3, .inl frf)), (tx, .inr (7, [.ref bys, .int (nI ln), .int tok, .int (nI sta), .int (nI en), .int num, .ref wo, .ref fs, .ref sc, .int tfi, .int tgl, .int tst]))] [] [0, 1, 2] := ⟨rfl, rfl, rfl, rfl, rfl, by decide⟩
  refine kw_go_i hs1 hP hD hS hA (va_runS (As := [.int (nI k), .int 128]) (rest := []) ⟨hx, hb, hml, hown, hts⟩ (gc_isBelow l D y (nI k) 128 (by omega) _) (va_cwS 2 hts gX10_type_X10_isBelow rfl rfl rfl (by decide +kernel) ⟨Nat.le_of_ble_eq_true rfl, Nat.le_of_ble_eq_true rfl⟩) (kw_PreS hs1 hP hD hK hN) rfl rfl hl.1 rfl (lv_room (Nat.le_of_ble_eq_true rfl)) dX10_type_4 ⟨Nat.le_of_ble_eq_true rfl, Nat.le_of_ble_eq_true rfl⟩) (fun r2 u3 H locs hq hP hD hS => ?_)
  rcases hq with ⟨j4, h5, h6, rfl⟩ | ⟨h7, rfl⟩
  · skip
    have h6 : k = j4 := (nI_eq (a := k) (b := j4) (by omega) (by omega)).mp h6
    have hP : va_P D vwCl [(g, .inr (10, [.ref kk, .ref nw, .ref im, .ref kp, .ref tx, .ref tr, .ref be, .ref sh, .ref sd, .ref rf, .int ab, .int bl])), (rf, .inl (y 0, 3, .inl frf)), (tx, .inr (7, [.ref bys, .int (nI ln), .int tok, .int (nI sta), .int (nI en), .int num, .ref wo, .ref fs, .ref sc, .int tfi, .int tgl, .int tst]))] H := hP
    have hD : va_D A [(g, .inr (10, [.ref kk, .ref nw, .ref im, .ref kp, .ref tx, .ref tr, .ref be, .ref sh, .ref sd, .ref rf, .int ab, .int bl])), (rf, .inl (y 0, 3, .inl frf)), (tx, .inr (7, [.ref bys, .int (nI ln), .int tok, .int (nI sta), .int (nI en), .int num, .ref wo, .ref fs, .ref sc, .int tfi, .int tgl, .int tst]))] := hD
    refine lv_if_ne (tgt := 15) hx hb dX10_type_7 (by decide) (fun _ => ?_) (fun h9 => absurd h9 (by decide))
    refine lv_aload_n hx hb dX10_type_15 rfl (lv_at hl 0 rfl) ?_
    refine va_get (D := D) (ci := 10) (v := .ref tx) (C := RX10) (T := TX10) (N := 12) hx hb hts iw10 hown hK hP 0 rfl rfl 4 (by decide) fw1 (fun _ h9 => h9) rfl dX10_type_16 ?_
    refine va_get (D := D) (ci := 7) (v := .int (nI ln)) (C := RX7) (T := TX7) (N := 12) hx hb hts iw7 hown hK hP 2 rfl rfl 1 (by decide) fw2 (fun _ h9 => h9) rfl dX10_type_19 ?_
    refine lv_sipush (v := 150) hx hb dX10_type_22 (by decide) ?_
    refine lv_icmp_lt (tgt := 33) hx hb dX10_type_25 (by decide) (fun h8 => ?_) (fun h9 => ?_)
    · skip
      have h8 : ln < 150 := (nI_ltI (a := ln) (b := 150) (by omega) (by omega)).mp h8
      exact absurd h8 (by omega)
    · skip
      have h9 : ¬ ln < 150 := fun q9 => h9 ((nI_ltI (a := ln) (b := 150) (by omega) (by omega)).mpr q9)
      refine lv_aload_n hx hb dX10_type_28 rfl (lv_at hl 0 rfl) ?_
      have hs10 : kw_Split [(g, .inr (10, [.ref kk, .ref nw, .ref im, .ref kp, .ref tx, .ref tr, .ref be, .ref sh, .ref sd, .ref rf, .int ab, .int bl])), (rf, .inl (y 0, 3, .inl frf)), (tx, .inr (7, [.ref bys, .int (nI ln), .int tok, .int (nI sta), .int (nI en), .int num, .ref wo, .ref fs, .ref sc, .int tfi, .int tgl, .int tst]))] [(g, .inr (10, [.ref kk, .ref nw, .ref im, .ref kp, .ref tx, .ref tr, .ref be, .ref sh, .ref sd, .ref rf, .int ab, .int bl])), (rf, .inl (y 0, 3, .inl frf))] [(tx, .inr (7, [.ref bys, .int (nI ln), .int tok, .int (nI sta), .int (nI en), .int num, .ref wo, .ref fs, .ref sc, .int tfi, .int tgl, .int tst]))] [0, 1] [2] := ⟨rfl, rfl, rfl, rfl, rfl, by decide⟩
      refine kw_go_i hs10 hP hD hS hA (va_runV (As := []) (rest := []) ⟨hx, hb, hml, hown, hts⟩ (gc_refuseFull l D y g kk nw im kp tx tr be sh sd rf ab bl frf  _) (cwV 0 hts gX10_type_X10_refuseFull rfl rfl rfl (by decide +kernel) ⟨Nat.le_of_ble_eq_true rfl, Nat.le_of_ble_eq_true rfl⟩) (kw_PreV (ci := 10) (q0 := 0) hs10 hP hD hK hN rfl rfl) rfl rfl hl.1 rfl (lv_room (Nat.le_of_ble_eq_true rfl)) dX10_type_29 ⟨Nat.le_of_ble_eq_true rfl, Nat.le_of_ble_eq_true rfl⟩) (fun r11 u12 H locs hq hP hD hS => ?_)
      obtain rfl := hq
      have hP : va_P D vwCl [(tx, .inr (7, [.ref bys, .int (nI ln), .int tok, .int (nI sta), .int (nI en), .int num, .ref wo, .ref fs, .ref sc, .int tfi, .int tgl, .int tst])), (g, .inr (10, [.ref kk, .ref nw, .ref im, .ref kp, .ref tx, .ref tr, .ref be, .ref sh, .ref sd, .ref rf, .int ab, .int bl])), (rf, .inl (y 0, 3, .inl (upd frf 2 ((frf 2) + 1))))] H := hP
      have hD : va_D A [(tx, .inr (7, [.ref bys, .int (nI ln), .int tok, .int (nI sta), .int (nI en), .int num, .ref wo, .ref fs, .ref sc, .int tfi, .int tgl, .int tst])), (g, .inr (10, [.ref kk, .ref nw, .ref im, .ref kp, .ref tx, .ref tr, .ref be, .ref sh, .ref sd, .ref rf, .int ab, .int bl])), (rf, .inl (y 0, 3, .inl (upd frf 2 ((frf 2) + 1))))] := hD
      exact W.iret (v := (-4)) hx hb hr (fun tZ ht hW => ⟨⟨(-4), (), rfl, rfl, by rw [ht]; exact hP.sub [1, 2, 0] rfl, hD.sub [1, 2, 0] (by decide) rfl⟩, hS.F ht⟩) hS.2.2 dX10_type_32
  · skip
    exact absurd ⟨k, by omega, rfl⟩ h7

set_option maxHeartbeats 4000000 in
set_option maxRecDepth 100000 in
theorem gy_type_bad (l : Launch) (D : va_G) (y : Nat → ClassId) (mo : Nat) (to : Nat) (ke : Nat) (ik : Nat) (mrf : Nat) (ha : Nat) (r0 : Nat) (mbr : Nat) (mbp : Nat) (mby : Nat) (an : Nat) (va : Nat) (mab : Int64) (mbl : Int64) (bl : Nat) (ta : Nat) (tl : Nat) (tk : Nat) (vv : Int32) (frf : Nat → Int32) (x : Int32) (hA1 : (¬ ∃ j : Nat, 0 ≤ j ∧ j ≤ 127 ∧ x = nI j)) : kw_Mi l yX11_type wsX11_type ({ frames := 2, cells := 0, slots := 0, locals := 85 }) D y [.ref mo, .int x] [(mo, .inr (11, [.ref to, .ref ke, .ref ik, .ref mrf, .long mab, .long mbl, .ref ha, .ref r0, .ref mbr, .ref mbp, .ref mby, .int (nI bl), .int (nI ta), .int (nI tl), .int (nI tk), .int vv, .ref an, .ref va])), (mrf, .inl (y 0, 3, .inl frf))] (fun (r : Int32) (u : Unit) => r = (-2)) (fun _ => [(mo, .inr (11, [.ref to, .ref ke, .ref ik, .ref mrf, .long mab, .long mbl, .ref ha, .ref r0, .ref mbr, .ref mbp, .ref mby, .int (nI bl), .int (nI ta), .int (nI tl), .int (nI tk), .int vv, .ref an, .ref va])), (mrf, .inl (y 0, 3, .inl (upd frf 0 ((frf 0) + 1))))]) 0 0 := by
  refine kw_Mi.of (cc := cX11_type) (maxL := 2) (ret := (some .int)) (by decide) rfl ?_
  intro pZ eZ s mZ beZ meZ cZ A hE
  obtain ⟨hx, hb, hr, hml, hts, hown, hlocks, hin, hA, hP, hD, hK, hN⟩ := hE
  have hS : va_S A s.heap s.heap [] := va_S.rf
  have hl := lv_entry ([.ref mo, .int x]) (n := 2) (Nat.le_of_ble_eq_true rfl)
  rw [lg_entry_eq]
  generalize (lg_sl ([.ref mo, .int x]) ++ List.replicate (2 - (lg_sl ([.ref mo, .int x])).length) Slot.unset).toArray = ls at hl ⊢
  have hl : lv_has ls 2 [(0, .ref mo), (1, .int x)] := hl
  have fw1 := hts (.constantLong RX11 208 (127)) (List.mem_of_getElem? (i := 1) rfl)
  refine lv_iload_n hx hb dX11_type_0 rfl (lv_at hl 1 rfl) ?_
  refine lv_i2l (v := x.toInt64) hx hb dX11_type_1 (rfl) ?_
  refine lv_lconst (v := 0) hx hb dX11_type_2 (by decide) ?_
  refine lv_ldc2 (v := 127) hx hb hown fw1 dX11_type_3 ?_
  have hs1 : kw_Split [(mo, .inr (11, [.ref to, .ref ke, .ref ik, .ref mrf, .long mab, .long mbl, .ref ha, .ref r0, .ref mbr, .ref mbp, .ref mby, .int (nI bl), .int (nI ta), .int (nI tl), .int (nI tk), .int vv, .ref an, .ref va])), (mrf, .inl (y 0, 3, .inl frf))] [] [(mo, .inr (11, [.ref to, .ref ke, .ref ik, .ref mrf, .long mab, .long mbl, .ref ha, .ref r0, .ref mbr, .ref mbp, .ref mby, .int (nI bl), .int (nI ta), .int (nI tl), .int (nI tk), .int vv, .ref an, .ref va])), (mrf, .inl (y 0, 3, .inl frf))] [] [0, 1] := ⟨rfl, rfl, rfl, rfl, rfl, by decide⟩
  refine kw_go_i hs1 hP hD hS hA (va_runS (As := [.long x.toInt64, .long 0, .long 127]) (rest := []) ⟨hx, hb, hml, hown, hts⟩ (gr_in l D y x 0 127 (by omega) (by omega) _) (va_cwS 3 hts gX11_type_X11_in rfl rfl rfl (by decide +kernel) ⟨Nat.le_of_ble_eq_true rfl, Nat.le_of_ble_eq_true rfl⟩) (kw_PreS hs1 hP hD hK hN) rfl rfl hl.1 rfl (lv_room (Nat.le_of_ble_eq_true rfl)) dX11_type_6 ⟨Nat.le_of_ble_eq_true rfl, Nat.le_of_ble_eq_true rfl⟩) (fun r2 u3 H locs hq hP hD hS => ?_)
  rcases hq with ⟨j4, h5, h6, rfl, rfl⟩ | ⟨h7, rfl⟩
  · skip
    exact absurd ⟨j4, h5, h6, rfl⟩ hA1
  · skip
    have hP : va_P D vwCl [(mo, .inr (11, [.ref to, .ref ke, .ref ik, .ref mrf, .long mab, .long mbl, .ref ha, .ref r0, .ref mbr, .ref mbp, .ref mby, .int (nI bl), .int (nI ta), .int (nI tl), .int (nI tk), .int vv, .ref an, .ref va])), (mrf, .inl (y 0, 3, .inl frf))] H := hP
    have hD : va_D A [(mo, .inr (11, [.ref to, .ref ke, .ref ik, .ref mrf, .long mab, .long mbl, .ref ha, .ref r0, .ref mbr, .ref mbp, .ref mby, .int (nI bl), .int (nI ta), .int (nI tl), .int (nI tk), .int vv, .ref an, .ref va])), (mrf, .inl (y 0, 3, .inl frf))] := hD
    refine lv_if_ne (tgt := 19) hx hb dX11_type_9 (by decide) (fun h9 => absurd h9 (by decide)) (fun _ => ?_)
    refine lv_aload_n hx hb dX11_type_12 rfl (lv_at hl 0 rfl) ?_
    refine lv_bipush (v := (-2)) hx hb dX11_type_13 (by decide) ?_
    have hs8 : kw_Split [(mo, .inr (11, [.ref to, .ref ke, .ref ik, .ref mrf, .long mab, .long mbl, .ref ha, .ref r0, .ref mbr, .ref mbp, .ref mby, .int (nI bl), .int (nI ta), .int (nI tl), .int (nI tk), .int vv, .ref an, .ref va])), (mrf, .inl (y 0, 3, .inl frf))] [(mo, .inr (11, [.ref to, .ref ke, .ref ik, .ref mrf, .long mab, .long mbl, .ref ha, .ref r0, .ref mbr, .ref mbp, .ref mby, .int (nI bl), .int (nI ta), .int (nI tl), .int (nI tk), .int vv, .ref an, .ref va])), (mrf, .inl (y 0, 3, .inl frf))] [] [0, 1] [] := ⟨rfl, rfl, rfl, rfl, rfl, by decide⟩
    refine kw_go_i hs8 hP hD hS hA (va_runV (As := [.int (-2)]) (rest := []) ⟨hx, hb, hml, hown, hts⟩ (gr_bad l D y mo to ke ik mrf ha r0 mbr mbp mby an va mab mbl bl ta tl tk vv frf (-2)  _) (cwV 1 hts gX11_type_X11_bad rfl rfl rfl (by decide +kernel) ⟨Nat.le_of_ble_eq_true rfl, Nat.le_of_ble_eq_true rfl⟩) (kw_PreV (ci := 11) (q0 := 0) hs8 hP hD hK hN rfl rfl) rfl rfl hl.1 rfl (lv_room (Nat.le_of_ble_eq_true rfl)) dX11_type_15 ⟨Nat.le_of_ble_eq_true rfl, Nat.le_of_ble_eq_true rfl⟩) (fun r9 u10 H locs hq hP hD hS => ?_)
    obtain rfl := hq
    have hP : va_P D vwCl [(mo, .inr (11, [.ref to, .ref ke, .ref ik, .ref mrf, .long mab, .long mbl, .ref ha, .ref r0, .ref mbr, .ref mbp, .ref mby, .int (nI bl), .int (nI ta), .int (nI tl), .int (nI tk), .int vv, .ref an, .ref va])), (mrf, .inl (y 0, 3, .inl (upd frf 0 ((frf 0) + 1))))] H := hP
    have hD : va_D A [(mo, .inr (11, [.ref to, .ref ke, .ref ik, .ref mrf, .long mab, .long mbl, .ref ha, .ref r0, .ref mbr, .ref mbp, .ref mby, .int (nI bl), .int (nI ta), .int (nI tl), .int (nI tk), .int vv, .ref an, .ref va])), (mrf, .inl (y 0, 3, .inl (upd frf 0 ((frf 0) + 1))))] := hD
    exact W.iret (v := (-2)) hx hb hr (fun tZ ht hW => ⟨⟨(-2), (), rfl, rfl, by rw [ht]; exact hP.sub [0, 1] rfl, hD.sub [0, 1] (by decide) rfl⟩, hS.F ht⟩) hS.2.2 dX11_type_18

set_option maxHeartbeats 4000000 in
set_option maxRecDepth 100000 in
theorem gy_type_full (l : Launch) (D : va_G) (y : Nat → ClassId) (mo : Nat) (to : Nat) (ke : Nat) (ik : Nat) (mrf : Nat) (ha : Nat) (r0 : Nat) (mbr : Nat) (mbp : Nat) (mby : Nat) (an : Nat) (va : Nat) (mab : Int64) (mbl : Int64) (bl : Nat) (ta : Nat) (tl : Nat) (tk : Nat) (vv : Int32) (frf : Nat → Int32) (k : Nat) (hbl : bl ≤ 150) (hA1 : k < 128) (hA2 : bl = 150) : kw_Mi l yX11_type wsX11_type ({ frames := 2, cells := 0, slots := 0, locals := 85 }) D y [.ref mo, .int (nI k)] [(mo, .inr (11, [.ref to, .ref ke, .ref ik, .ref mrf, .long mab, .long mbl, .ref ha, .ref r0, .ref mbr, .ref mbp, .ref mby, .int (nI bl), .int (nI ta), .int (nI tl), .int (nI tk), .int vv, .ref an, .ref va])), (mrf, .inl (y 0, 3, .inl frf))] (fun (r : Int32) (u : Unit) => r = (-4)) (fun _ => [(mo, .inr (11, [.ref to, .ref ke, .ref ik, .ref mrf, .long mab, .long mbl, .ref ha, .ref r0, .ref mbr, .ref mbp, .ref mby, .int (nI bl), .int (nI ta), .int (nI tl), .int (nI tk), .int vv, .ref an, .ref va])), (mrf, .inl (y 0, 3, .inl (upd frf 2 ((frf 2) + 1))))]) 0 0 := by
  refine kw_Mi.of (cc := cX11_type) (maxL := 2) (ret := (some .int)) (by decide) rfl ?_
  intro pZ eZ s mZ beZ meZ cZ A hE
  obtain ⟨hx, hb, hr, hml, hts, hown, hlocks, hin, hA, hP, hD, hK, hN⟩ := hE
  have hS : va_S A s.heap s.heap [] := va_S.rf
  have hl := lv_entry ([.ref mo, .int (nI k)]) (n := 2) (Nat.le_of_ble_eq_true rfl)
  rw [lg_entry_eq]
  generalize (lg_sl ([.ref mo, .int (nI k)]) ++ List.replicate (2 - (lg_sl ([.ref mo, .int (nI k)])).length) Slot.unset).toArray = ls at hl ⊢
  have hl : lv_has ls 2 [(0, .ref mo), (1, .int (nI k))] := hl
  have fw1 := hts (.constantLong RX11 208 (127)) (List.mem_of_getElem? (i := 1) rfl)
  have fw2 := hts (.fieldLink RX11 210 "GleanDuskModel" "bytesLong" "I") (List.mem_of_getElem? (i := 2) rfl)
  have iw11 : ∀ w ∈ wsX110, w ∈ wsX11_type := fun _ h => List.mem_cons_of_mem _ (List.mem_append_right _ h)
  refine lv_iload_n hx hb dX11_type_0 rfl (lv_at hl 1 rfl) ?_
  refine lv_i2l (v := (nI k).toInt64) hx hb dX11_type_1 (rfl) ?_
  refine lv_lconst (v := 0) hx hb dX11_type_2 (by decide) ?_
  refine lv_ldc2 (v := 127) hx hb hown fw1 dX11_type_3 ?_
  have hs1 : kw_Split [(mo, .inr (11, [.ref to, .ref ke, .ref ik, .ref mrf, .long mab, .long mbl, .ref ha, .ref r0, .ref mbr, .ref mbp, .ref mby, .int (nI bl), .int (nI ta), .int (nI tl), .int (nI tk), .int vv, .ref an, .ref va])), (mrf, .inl (y 0, 3, .inl frf))] [] [(mo, .inr (11, [.ref to, .ref ke, .ref ik, .ref mrf, .long mab, .long mbl, .ref ha, .ref r0, .ref mbr, .ref mbp, .ref mby, .int (nI bl), .int (nI ta), .int (nI tl), .int (nI tk), .int vv, .ref an, .ref va])), (mrf, .inl (y 0, 3, .inl frf))] [] [0, 1] := ⟨rfl, rfl, rfl, rfl, rfl, by decide⟩
  refine kw_go_i hs1 hP hD hS hA (va_runS (As := [.long ((nI k).toInt64), .long 0, .long 127]) (rest := []) ⟨hx, hb, hml, hown, hts⟩ (gr_in l D y (nI k) 0 127 (by omega) (by omega) _) (va_cwS 3 hts gX11_type_X11_in rfl rfl rfl (by decide +kernel) ⟨Nat.le_of_ble_eq_true rfl, Nat.le_of_ble_eq_true rfl⟩) (kw_PreS hs1 hP hD hK hN) rfl rfl hl.1 rfl (lv_room (Nat.le_of_ble_eq_true rfl)) dX11_type_6 ⟨Nat.le_of_ble_eq_true rfl, Nat.le_of_ble_eq_true rfl⟩) (fun r2 u3 H locs hq hP hD hS => ?_)
  rcases hq with ⟨j4, h5, h6, h7, rfl⟩ | ⟨h8, rfl⟩
  · skip
    have h7 : k = j4 := (nI_eq (a := k) (b := j4) (by omega) (by omega)).mp h7
    have hP : va_P D vwCl [(mo, .inr (11, [.ref to, .ref ke, .ref ik, .ref mrf, .long mab, .long mbl, .ref ha, .ref r0, .ref mbr, .ref mbp, .ref mby, .int (nI bl), .int (nI ta), .int (nI tl), .int (nI tk), .int vv, .ref an, .ref va])), (mrf, .inl (y 0, 3, .inl frf))] H := hP
    have hD : va_D A [(mo, .inr (11, [.ref to, .ref ke, .ref ik, .ref mrf, .long mab, .long mbl, .ref ha, .ref r0, .ref mbr, .ref mbp, .ref mby, .int (nI bl), .int (nI ta), .int (nI tl), .int (nI tk), .int vv, .ref an, .ref va])), (mrf, .inl (y 0, 3, .inl frf))] := hD
    refine lv_if_ne (tgt := 19) hx hb dX11_type_9 (by decide) (fun _ => ?_) (fun h9 => absurd h9 (by decide))
    refine lv_aload_n hx hb dX11_type_19 rfl (lv_at hl 0 rfl) ?_
    refine va_get (D := D) (ci := 11) (v := .int (nI bl)) (C := RX11) (T := TX11) (N := 18) hx hb hts iw11 hown hK hP 0 rfl rfl 11 (by decide) fw2 (fun _ h9 => h9) rfl dX11_type_20 ?_
    refine lv_sipush (v := 150) hx hb dX11_type_23 (by decide) ?_
    refine lv_icmp_ne (tgt := 34) hx hb dX11_type_26 (by decide) (fun h9 => ?_) (fun h10 => ?_)
    · skip
      have h9 : ¬ bl = 150 := fun q9 => h9 ((nI_eq (a := bl) (b := 150) (by omega) (by omega)).mpr q9)
      exact absurd h9 (by omega)
    · skip
      have h10 : bl = 150 := (nI_eq (a := bl) (b := 150) (by omega) (by omega)).mp h10
      refine lv_aload_n hx hb dX11_type_29 rfl (lv_at hl 0 rfl) ?_
      have hs11 : kw_Split [(mo, .inr (11, [.ref to, .ref ke, .ref ik, .ref mrf, .long mab, .long mbl, .ref ha, .ref r0, .ref mbr, .ref mbp, .ref mby, .int (nI bl), .int (nI ta), .int (nI tl), .int (nI tk), .int vv, .ref an, .ref va])), (mrf, .inl (y 0, 3, .inl frf))] [(mo, .inr (11, [.ref to, .ref ke, .ref ik, .ref mrf, .long mab, .long mbl, .ref ha, .ref r0, .ref mbr, .ref mbp, .ref mby, .int (nI bl), .int (nI ta), .int (nI tl), .int (nI tk), .int vv, .ref an, .ref va])), (mrf, .inl (y 0, 3, .inl frf))] [] [0, 1] [] := ⟨rfl, rfl, rfl, rfl, rfl, by decide⟩
      refine kw_go_i hs11 hP hD hS hA (va_runV (As := []) (rest := []) ⟨hx, hb, hml, hown, hts⟩ (gr_full l D y mo to ke ik mrf ha r0 mbr mbp mby an va mab mbl bl ta tl tk vv frf  _) (cwV 0 hts gX11_type_X11_full rfl rfl rfl (by decide +kernel) ⟨Nat.le_of_ble_eq_true rfl, Nat.le_of_ble_eq_true rfl⟩) (kw_PreV (ci := 11) (q0 := 0) hs11 hP hD hK hN rfl rfl) rfl rfl hl.1 rfl (lv_room (Nat.le_of_ble_eq_true rfl)) dX11_type_30 ⟨Nat.le_of_ble_eq_true rfl, Nat.le_of_ble_eq_true rfl⟩) (fun r12 u13 H locs hq hP hD hS => ?_)
      obtain rfl := hq
      have hP : va_P D vwCl [(mo, .inr (11, [.ref to, .ref ke, .ref ik, .ref mrf, .long mab, .long mbl, .ref ha, .ref r0, .ref mbr, .ref mbp, .ref mby, .int (nI bl), .int (nI ta), .int (nI tl), .int (nI tk), .int vv, .ref an, .ref va])), (mrf, .inl (y 0, 3, .inl (upd frf 2 ((frf 2) + 1))))] H := hP
      have hD : va_D A [(mo, .inr (11, [.ref to, .ref ke, .ref ik, .ref mrf, .long mab, .long mbl, .ref ha, .ref r0, .ref mbr, .ref mbp, .ref mby, .int (nI bl), .int (nI ta), .int (nI tl), .int (nI tk), .int vv, .ref an, .ref va])), (mrf, .inl (y 0, 3, .inl (upd frf 2 ((frf 2) + 1))))] := hD
      exact W.iret (v := (-4)) hx hb hr (fun tZ ht hW => ⟨⟨(-4), (), rfl, rfl, by rw [ht]; exact hP.sub [0, 1] rfl, hD.sub [0, 1] (by decide) rfl⟩, hS.F ht⟩) hS.2.2 dX11_type_33
  · skip
    exact absurd ⟨k, by omega, by omega, rfl⟩ h8

set_option maxHeartbeats 4000000 in
set_option maxRecDepth 100000 in
theorem gy_type_ok (l : Launch) (D : va_G) (y : Nat → ClassId) (mo : Nat) (to : Nat) (ke : Nat) (ik : Nat) (mrf : Nat) (ha : Nat) (r0 : Nat) (mbr : Nat) (mbp : Nat) (mby : Nat) (an : Nat) (va : Nat) (mab : Int64) (mbl : Int64) (bl : Nat) (ta : Nat) (tl : Nat) (tk : Nat) (vv : Int32) (frf : Nat → Int32) (fmb : Nat → Int32) (k : Nat) (hbl : bl ≤ 150) (hA1 : k < 128) (hA2 : ¬ bl = 150) : kw_Mi l yX11_type wsX11_type ({ frames := 2, cells := 0, slots := 0, locals := 85 }) D y [.ref mo, .int (nI k)] [(mo, .inr (11, [.ref to, .ref ke, .ref ik, .ref mrf, .long mab, .long mbl, .ref ha, .ref r0, .ref mbr, .ref mbp, .ref mby, .int (nI bl), .int (nI ta), .int (nI tl), .int (nI tk), .int vv, .ref an, .ref va])), (mrf, .inl (y 0, 3, .inl frf)), (mby, .inl (y 0, 150, .inl fmb))] (fun (r : Int32) (u : Unit) => r = (nI (bl + 1))) (fun _ => [(mo, .inr (11, [.ref to, .ref ke, .ref ik, .ref mrf, .long mab, .long mbl, .ref ha, .ref r0, .ref mbr, .ref mbp, .ref mby, .int (nI (bl + 1)), .int (nI ta), .int (nI tl), .int (nI tk), .int vv, .ref an, .ref va])), (mrf, .inl (y 0, 3, .inl frf)), (mby, .inl (y 0, 150, .inl (upd fmb bl (nI k))))]) 0 0 := by
  refine kw_Mi.of (cc := cX11_type) (maxL := 2) (ret := (some .int)) (by decide) rfl ?_
  intro pZ eZ s mZ beZ meZ cZ A hE
  obtain ⟨hx, hb, hr, hml, hts, hown, hlocks, hin, hA, hP, hD, hK, hN⟩ := hE
  have hS : va_S A s.heap s.heap [] := va_S.rf
  have hl := lv_entry ([.ref mo, .int (nI k)]) (n := 2) (Nat.le_of_ble_eq_true rfl)
  rw [lg_entry_eq]
  generalize (lg_sl ([.ref mo, .int (nI k)]) ++ List.replicate (2 - (lg_sl ([.ref mo, .int (nI k)])).length) Slot.unset).toArray = ls at hl ⊢
  have hl : lv_has ls 2 [(0, .ref mo), (1, .int (nI k))] := hl
  have fw1 := hts (.constantLong RX11 208 (127)) (List.mem_of_getElem? (i := 1) rfl)
  have fw2 := hts (.fieldLink RX11 210 "GleanDuskModel" "bytesLong" "I") (List.mem_of_getElem? (i := 2) rfl)
  have fw3 := hts (.fieldLink RX11 39 "GleanDuskModel" "bytes" "[I") (List.mem_of_getElem? (i := 3) rfl)
  have iw11 : ∀ w ∈ wsX110, w ∈ wsX11_type := fun _ h => List.mem_cons_of_mem _ (List.mem_append_right _ h)
  refine lv_iload_n hx hb dX11_type_0 rfl (lv_at hl 1 rfl) ?_
  refine lv_i2l (v := (nI k).toInt64) hx hb dX11_type_1 (rfl) ?_
  refine lv_lconst (v := 0) hx hb dX11_type_2 (by decide) ?_
  refine lv_ldc2 (v := 127) hx hb hown fw1 dX11_type_3 ?_
  have hs1 : kw_Split [(mo, .inr (11, [.ref to, .ref ke, .ref ik, .ref mrf, .long mab, .long mbl, .ref ha, .ref r0, .ref mbr, .ref mbp, .ref mby, .int (nI bl), .int (nI ta), .int (nI tl), .int (nI tk), .int vv, .ref an, .ref va])), (mrf, .inl (y 0, 3, .inl frf)), (mby, .inl (y 0, 150, .inl fmb))] [] [(mo, .inr (11, [.ref to, .ref ke, .ref ik, .ref mrf, .long mab, .long mbl, .ref ha, .ref r0, .ref mbr, .ref mbp, .ref mby, .int (nI bl), .int (nI ta), .int (nI tl), .int (nI tk), .int vv, .ref an, .ref va])), (mrf, .inl (y 0, 3, .inl frf)), (mby, .inl (y 0, 150, .inl fmb))] [] [0, 1, 2] := ⟨rfl, rfl, rfl, rfl, rfl, by decide⟩
  refine kw_go_i hs1 hP hD hS hA (va_runS (As := [.long ((nI k).toInt64), .long 0, .long 127]) (rest := []) ⟨hx, hb, hml, hown, hts⟩ (gr_in l D y (nI k) 0 127 (by omega) (by omega) _) (va_cwS 3 hts gX11_type_X11_in rfl rfl rfl (by decide +kernel) ⟨Nat.le_of_ble_eq_true rfl, Nat.le_of_ble_eq_true rfl⟩) (kw_PreS hs1 hP hD hK hN) rfl rfl hl.1 rfl (lv_room (Nat.le_of_ble_eq_true rfl)) dX11_type_6 ⟨Nat.le_of_ble_eq_true rfl, Nat.le_of_ble_eq_true rfl⟩) (fun r2 u3 H locs hq hP hD hS => ?_)
  rcases hq with ⟨j4, h5, h6, h7, rfl⟩ | ⟨h8, rfl⟩
  · skip
    have h7 : k = j4 := (nI_eq (a := k) (b := j4) (by omega) (by omega)).mp h7
    have hP : va_P D vwCl [(mo, .inr (11, [.ref to, .ref ke, .ref ik, .ref mrf, .long mab, .long mbl, .ref ha, .ref r0, .ref mbr, .ref mbp, .ref mby, .int (nI bl), .int (nI ta), .int (nI tl), .int (nI tk), .int vv, .ref an, .ref va])), (mrf, .inl (y 0, 3, .inl frf)), (mby, .inl (y 0, 150, .inl fmb))] H := hP
    have hD : va_D A [(mo, .inr (11, [.ref to, .ref ke, .ref ik, .ref mrf, .long mab, .long mbl, .ref ha, .ref r0, .ref mbr, .ref mbp, .ref mby, .int (nI bl), .int (nI ta), .int (nI tl), .int (nI tk), .int vv, .ref an, .ref va])), (mrf, .inl (y 0, 3, .inl frf)), (mby, .inl (y 0, 150, .inl fmb))] := hD
    refine lv_if_ne (tgt := 19) hx hb dX11_type_9 (by decide) (fun _ => ?_) (fun h9 => absurd h9 (by decide))
    refine lv_aload_n hx hb dX11_type_19 rfl (lv_at hl 0 rfl) ?_
    refine va_get (D := D) (ci := 11) (v := .int (nI bl)) (C := RX11) (T := TX11) (N := 18) hx hb hts iw11 hown hK hP 0 rfl rfl 11 (by decide) fw2 (fun _ h9 => h9) rfl dX11_type_20 ?_
    refine lv_sipush (v := 150) hx hb dX11_type_23 (by decide) ?_
    refine lv_icmp_ne (tgt := 34) hx hb dX11_type_26 (by decide) (fun h9 => ?_) (fun h10 => ?_)
    · skip
      have h9 : ¬ bl = 150 := fun q9 => h9 ((nI_eq (a := bl) (b := 150) (by omega) (by omega)).mpr q9)
      refine lv_aload_n hx hb dX11_type_34 rfl (lv_at hl 0 rfl) ?_
      refine va_get (D := D) (ci := 11) (v := .ref mby) (C := RX11) (T := TX11) (N := 18) hx hb hts iw11 hown hK hP 0 rfl rfl 10 (by decide) fw3 (fun _ h9 => h9) rfl dX11_type_35 ?_
      refine lv_aload_n hx hb dX11_type_38 rfl (lv_at hl 0 rfl) ?_
      refine va_get (D := D) (ci := 11) (v := .int (nI bl)) (C := RX11) (T := TX11) (N := 18) hx hb hts iw11 hown hK hP 0 rfl rfl 11 (by decide) fw2 (fun _ h9 => h9) rfl dX11_type_39 ?_
      refine lv_iload_n hx hb dX11_type_42 rfl (lv_at hl 1 rfl) ?_
      refine va_iast hx hb hK hP hD hS 2 0 rfl rfl (vp_in_nI (by omega) (by decide)) dX11_type_43 (fun H locs hP hD hS => ?_)
      rw [nI_clamp (n := bl) (by omega)] at hP hD
      have hP : va_P D vwCl [(mo, .inr (11, [.ref to, .ref ke, .ref ik, .ref mrf, .long mab, .long mbl, .ref ha, .ref r0, .ref mbr, .ref mbp, .ref mby, .int (nI bl), .int (nI ta), .int (nI tl), .int (nI tk), .int vv, .ref an, .ref va])), (mrf, .inl (y 0, 3, .inl frf)), (mby, .inl (y 0, 150, .inl (upd fmb bl (nI k))))] H := hP
      have hD : va_D A [(mo, .inr (11, [.ref to, .ref ke, .ref ik, .ref mrf, .long mab, .long mbl, .ref ha, .ref r0, .ref mbr, .ref mbp, .ref mby, .int (nI bl), .int (nI ta), .int (nI tl), .int (nI tk), .int vv, .ref an, .ref va])), (mrf, .inl (y 0, 3, .inl frf)), (mby, .inl (y 0, 150, .inl (upd fmb bl (nI k))))] := hD
      refine lv_aload_n hx hb dX11_type_44 rfl (lv_at hl 0 rfl) ?_
      refine lv_dup hx hb dX11_type_45 rfl ?_
      refine va_get (D := D) (ci := 11) (v := .int (nI bl)) (C := RX11) (T := TX11) (N := 18) hx hb hts iw11 hown hK hP 0 rfl rfl 11 (by decide) fw2 (fun _ h9 => h9) rfl dX11_type_46 ?_
      refine lv_iconst (v := 1) hx hb dX11_type_49 (by decide) ?_
      refine lv_iadd hx hb dX11_type_50 ?_
      rw [show (nI bl) + 1 = nI (bl + 1) from nI_add bl 1]
      refine va_put (D := D) (ci := 11) (v := .int (nI (bl + 1))) (ty := .int) (C := RX11) (T := TX11) (N := 18) hx hb hts iw11 tyX11 tyX11_ok nmX11 hown hK hP hD hS 0 rfl rfl 11 (by decide) fw2 (fun _ h9 => h9) rfl (by decide +kernel) rfl rfl (Nat.le_of_ble_eq_true rfl) dX11_type_51 (fun H locs hP hD hS => ?_)
      have hP : va_P D vwCl [(mo, .inr (11, [.ref to, .ref ke, .ref ik, .ref mrf, .long mab, .long mbl, .ref ha, .ref r0, .ref mbr, .ref mbp, .ref mby, .int (nI (bl + 1)), .int (nI ta), .int (nI tl), .int (nI tk), .int vv, .ref an, .ref va])), (mrf, .inl (y 0, 3, .inl frf)), (mby, .inl (y 0, 150, .inl (upd fmb bl (nI k))))] H := hP
      have hD : va_D A [(mo, .inr (11, [.ref to, .ref ke, .ref ik, .ref mrf, .long mab, .long mbl, .ref ha, .ref r0, .ref mbr, .ref mbp, .ref mby, .int (nI (bl + 1)), .int (nI ta), .int (nI tl), .int (nI tk), .int vv, .ref an, .ref va])), (mrf, .inl (y 0, 3, .inl frf)), (mby, .inl (y 0, 150, .inl (upd fmb bl (nI k))))] := hD
      refine lv_aload_n hx hb dX11_type_54 rfl (lv_at hl 0 rfl) ?_
      refine va_get (D := D) (ci := 11) (v := .int (nI (bl + 1))) (C := RX11) (T := TX11) (N := 18) hx hb hts iw11 hown hK hP 0 rfl rfl 11 (by decide) fw2 (fun _ h9 => h9) rfl dX11_type_55 ?_
      exact W.iret (v := (nI (bl + 1))) hx hb hr (fun tZ ht hW => ⟨⟨(nI (bl + 1)), (), rfl, rfl, by rw [ht]; exact hP.sub [0, 1, 2] rfl, hD.sub [0, 1, 2] (by decide) rfl⟩, hS.F ht⟩) hS.2.2 dX11_type_58
    · skip
      have h10 : bl = 150 := (nI_eq (a := bl) (b := 150) (by omega) (by omega)).mp h10
      exact absurd h10 (by omega)
  · skip
    exact absurd ⟨k, by omega, by omega, rfl⟩ h8

set_option maxHeartbeats 4000000 in
set_option maxRecDepth 100000 in
theorem gs_isLetter (l : Launch) (D : va_G) (y : Nat → ClassId) (x : Int32)  : kw_Mi l yX7_isLetter wsX7_isLetter ({ frames := 1, cells := 0, slots := 0, locals := 60 }) D y [.int x] [] (fun (r : Int32) (u : Unit) => (ks_l x = true ∧ r = 1) ∨ (¬ ks_l x = true ∧ r = 0)) (fun _ => []) 0 0 := by
  refine kw_Mi.of (cc := cX7_isLetter) (maxL := 1) (ret := (some .boolean)) (by decide) rfl ?_
  intro pZ eZ s mZ beZ meZ cZ A hE
  obtain ⟨hx, hb, hr, hml, hts, hown, hlocks, hin, hA, hP, hD, hK, hN⟩ := hE
  have hS : va_S A s.heap s.heap [] := va_S.rf
  have hl := lv_entry ([.int x]) (n := 1) (Nat.le_of_ble_eq_true rfl)
  rw [lg_entry_eq]
  generalize (lg_sl ([.int x]) ++ List.replicate (1 - (lg_sl ([.int x])).length) Slot.unset).toArray = ls at hl ⊢
  have hl : lv_has ls 1 [(0, .int x)] := hl
  refine lv_iload_n hx hb dX7_isLetter_0 rfl (lv_at hl 0 rfl) ?_
  refine lv_bipush (v := 97) hx hb dX7_isLetter_1 (by decide) ?_
  refine lv_icmp_lt (tgt := 16) hx hb dX7_isLetter_3 (by decide) (fun h1 => ?_) (fun h2 => ?_)
  · skip
    refine lv_iconst (v := 0) hx hb dX7_isLetter_16 (by decide) ?_
    exact W.zret (v := 0) hx hb hr (by decide) (fun tZ ht hW => ⟨⟨0, (), rfl, Or.inr (⟨ks_l_n1 h1, rfl⟩), by rw [ht]; exact hP.sub [] rfl, hD.sub [] (by decide) rfl⟩, hS.F ht⟩) hS.2.2 dX7_isLetter_17
  · skip
    refine lv_iload_n hx hb dX7_isLetter_6 rfl (lv_at hl 0 rfl) ?_
    refine lv_bipush (v := 122) hx hb dX7_isLetter_7 (by decide) ?_
    refine lv_icmp_gt (tgt := 16) hx hb dX7_isLetter_9 (by decide) (fun h3 => ?_) (fun h4 => ?_)
    · skip
      refine lv_iconst (v := 0) hx hb dX7_isLetter_16 (by decide) ?_
      exact W.zret (v := 0) hx hb hr (by decide) (fun tZ ht hW => ⟨⟨0, (), rfl, Or.inr (⟨ks_l_n2 h3, rfl⟩), by rw [ht]; exact hP.sub [] rfl, hD.sub [] (by decide) rfl⟩, hS.F ht⟩) hS.2.2 dX7_isLetter_17
    · skip
      refine lv_iconst (v := 1) hx hb dX7_isLetter_12 (by decide) ?_
      refine lv_goto (tgt := 17) hx hb dX7_isLetter_13 (by decide) ?_
      exact W.zret (v := 1) hx hb hr (by decide) (fun tZ ht hW => ⟨⟨1, (), rfl, Or.inl ⟨ks_l_mk h2 h4, rfl⟩, by rw [ht]; exact hP.sub [] rfl, hD.sub [] (by decide) rfl⟩, hS.F ht⟩) hS.2.2 dX7_isLetter_17

set_option maxHeartbeats 4000000 in
set_option maxRecDepth 100000 in
theorem gs_isFigure (l : Launch) (D : va_G) (y : Nat → ClassId) (x : Int32)  : kw_Mi l yX7_isFigure wsX7_isFigure ({ frames := 1, cells := 0, slots := 0, locals := 60 }) D y [.int x] [] (fun (r : Int32) (u : Unit) => (ks_f x = true ∧ r = 1) ∨ (¬ ks_f x = true ∧ r = 0)) (fun _ => []) 0 0 := by
  refine kw_Mi.of (cc := cX7_isFigure) (maxL := 1) (ret := (some .boolean)) (by decide) rfl ?_
  intro pZ eZ s mZ beZ meZ cZ A hE
  obtain ⟨hx, hb, hr, hml, hts, hown, hlocks, hin, hA, hP, hD, hK, hN⟩ := hE
  have hS : va_S A s.heap s.heap [] := va_S.rf
  have hl := lv_entry ([.int x]) (n := 1) (Nat.le_of_ble_eq_true rfl)
  rw [lg_entry_eq]
  generalize (lg_sl ([.int x]) ++ List.replicate (1 - (lg_sl ([.int x])).length) Slot.unset).toArray = ls at hl ⊢
  have hl : lv_has ls 1 [(0, .int x)] := hl
  refine lv_iload_n hx hb dX7_isFigure_0 rfl (lv_at hl 0 rfl) ?_
  refine lv_bipush (v := 48) hx hb dX7_isFigure_1 (by decide) ?_
  refine lv_icmp_lt (tgt := 16) hx hb dX7_isFigure_3 (by decide) (fun h1 => ?_) (fun h2 => ?_)
  · skip
    refine lv_iconst (v := 0) hx hb dX7_isFigure_16 (by decide) ?_
    exact W.zret (v := 0) hx hb hr (by decide) (fun tZ ht hW => ⟨⟨0, (), rfl, Or.inr (⟨ks_f_n1 h1, rfl⟩), by rw [ht]; exact hP.sub [] rfl, hD.sub [] (by decide) rfl⟩, hS.F ht⟩) hS.2.2 dX7_isFigure_17
  · skip
    refine lv_iload_n hx hb dX7_isFigure_6 rfl (lv_at hl 0 rfl) ?_
    refine lv_bipush (v := 57) hx hb dX7_isFigure_7 (by decide) ?_
    refine lv_icmp_gt (tgt := 16) hx hb dX7_isFigure_9 (by decide) (fun h3 => ?_) (fun h4 => ?_)
    · skip
      refine lv_iconst (v := 0) hx hb dX7_isFigure_16 (by decide) ?_
      exact W.zret (v := 0) hx hb hr (by decide) (fun tZ ht hW => ⟨⟨0, (), rfl, Or.inr (⟨ks_f_n2 h3, rfl⟩), by rw [ht]; exact hP.sub [] rfl, hD.sub [] (by decide) rfl⟩, hS.F ht⟩) hS.2.2 dX7_isFigure_17
    · skip
      refine lv_iconst (v := 1) hx hb dX7_isFigure_12 (by decide) ?_
      refine lv_goto (tgt := 17) hx hb dX7_isFigure_13 (by decide) ?_
      exact W.zret (v := 1) hx hb hr (by decide) (fun tZ ht hW => ⟨⟨1, (), rfl, Or.inl ⟨ks_f_mk h2 h4, rfl⟩, by rw [ht]; exact hP.sub [] rfl, hD.sub [] (by decide) rfl⟩, hS.F ht⟩) hS.2.2 dX7_isFigure_17

set_option maxHeartbeats 4000000 in
set_option maxRecDepth 100000 in
theorem gs_passWord (l : Launch) (D : va_G) (y : Nat → ClassId) (tx : Nat) (bys : Nat) (wo : Nat) (fs : Nat) (sc : Nat) (ln : Nat) (sta : Nat) (tok : Int32) (num : Int32) (tfi : Int32) (tgl : Int32) (tst : Int32) (fby : Nat → Int32) (hln : ln ≤ 150) (hlt : sta < ln) (hl1 : ks_l (fby sta) = true) : kw_Mv l yX7_passWord wsX7_passWord ({ frames := 2, cells := 0, slots := 0, locals := 80 }) D y [.ref tx] [(tx, .inr (7, [.ref bys, .int (nI ln), .int tok, .int (nI sta), .int (nI sta), .int num, .ref wo, .ref fs, .ref sc, .int tfi, .int tgl, .int tst])), (bys, .inl (y 1, 150, .inl fby))] (fun (u : Nat) => u ≤ ln ∧ sta ≤ u ∧ kz_Ts fby ln sta 1 u num) (fun u => [(tx, .inr (7, [.ref bys, .int (nI ln), .int 1, .int (nI sta), .int (nI u), .int num, .ref wo, .ref fs, .ref sc, .int tfi, .int tgl, .int tst])), (bys, .inl (y 1, 150, .inl fby))]) 0 0 := by
  refine kw_Mv.of (cc := cX7_passWord) (maxL := 1) (ret := none) (by decide) rfl ?_
  intro pZ eZ s mZ beZ meZ cZ A hE
  obtain ⟨hx, hb, hr, hml, hts, hown, hlocks, hin, hA, hP, hD, hK, hN⟩ := hE
  have hS : va_S A s.heap s.heap [] := va_S.rf
  have hl := lv_entry ([.ref tx]) (n := 1) (Nat.le_of_ble_eq_true rfl)
  rw [lg_entry_eq]
  generalize (lg_sl ([.ref tx]) ++ List.replicate (1 - (lg_sl ([.ref tx])).length) Slot.unset).toArray = ls at hl ⊢
  have hl : lv_has ls 1 [(0, .ref tx)] := hl
  have fw1 := hts (.fieldLink RX7 44 "GleanDusk$Text" "token" "I") (List.mem_of_getElem? (i := 1) rfl)
  have fw2 := hts (.fieldLink RX7 29 "GleanDusk$Text" "end" "I") (List.mem_of_getElem? (i := 2) rfl)
  have fw3 := hts (.fieldLink RX7 25 "GleanDusk$Text" "length" "I") (List.mem_of_getElem? (i := 3) rfl)
  have fw4 := hts (.fieldLink RX7 9 "GleanDusk$Text" "bytes" "[B") (List.mem_of_getElem? (i := 4) rfl)
  have iw7 : ∀ w ∈ wsX70, w ∈ wsX7_passWord := fun _ h => List.mem_cons_of_mem _ (List.mem_append_right _ h)
  refine lv_aload_n hx hb dX7_passWord_0 rfl (lv_at hl 0 rfl) ?_
  refine lv_iconst (v := 1) hx hb dX7_passWord_1 (by decide) ?_
  refine va_put (D := D) (ci := 7) (v := .int 1) (ty := .int) (C := RX7) (T := TX7) (N := 12) hx hb hts iw7 tyX7 tyX7_ok nmX7 hown hK hP hD hS 0 rfl rfl 2 (by decide) fw1 (fun _ h9 => h9) rfl (by decide +kernel) rfl rfl (Nat.le_of_ble_eq_true rfl) dX7_passWord_2 (fun H locs hP hD hS => ?_)
  have hP : va_P D vwCl [(tx, .inr (7, [.ref bys, .int (nI ln), .int 1, .int (nI sta), .int (nI sta), .int num, .ref wo, .ref fs, .ref sc, .int tfi, .int tgl, .int tst])), (bys, .inl (y 1, 150, .inl fby))] H := hP
  have hD : va_D A [(tx, .inr (7, [.ref bys, .int (nI ln), .int 1, .int (nI sta), .int (nI sta), .int num, .ref wo, .ref fs, .ref sc, .int tfi, .int tgl, .int tst])), (bys, .inl (y 1, 150, .inl fby))] := hD
  have lp8 : ∀ (fuj91 j91 : Nat)  (H : Heap) (locs : List Loc) (ls : Array Slot), j91 ≤ ln → ln - j91 < fuj91 → sta ≤ j91 → ks_to ks_l fby ln sta = ks_to ks_l fby ln j91 → va_P D vwCl [(tx, .inr (7, [.ref bys, .int (nI ln), .int 1, .int (nI sta), .int (nI j91), .int num, .ref wo, .ref fs, .ref sc, .int tfi, .int tgl, .int tst])), (bys, .inl (y 1, 150, .inl fby))] H → va_D A [(tx, .inr (7, [.ref bys, .int (nI ln), .int 1, .int (nI sta), .int (nI j91), .int num, .ref wo, .ref fs, .ref sc, .int tfi, .int tgl, .int tst])), (bys, .inl (y 1, 150, .inl fby))] → va_S A s.heap H locs → lv_has ls 1 [(0, .ref tx)] → W pZ l eZ ({ frames := 2, cells := 0, slots := 0, locals := 80 }) s mZ [.ref tx].toArray beZ meZ cZ H locs 0 0 (MQ beZ (va_Qv (fun (u : Nat) => u ≤ ln ∧ sta ≤ u ∧ kz_Ts fby ln sta 1 u num) (kw_B D (fun u => [(tx, .inr (7, [.ref bys, .int (nI ln), .int 1, .int (nI sta), .int (nI u), .int num, .ref wo, .ref fs, .ref sc, .int tfi, .int tgl, .int tst])), (bys, .inl (y 1, 150, .inl fby))]) A) A) [.ref tx].toArray s 0 0 A) (F0 mZ 5 ls []) := by
    intro fuj91
    induction fuj91 with
    | zero => intro j91  H locs ls hj9 hf9; exact absurd hf9 (Nat.not_lt_zero _)
    | succ fuj91 ihj91 =>
      intro j91  H locs ls hj91 hfj91 hlo_j91 hI0_j91 hP hD hS hl
      refine lv_aload_n hx hb dX7_passWord_5 rfl (lv_at hl 0 rfl) ?_
      refine va_get (D := D) (ci := 7) (v := .int (nI j91)) (C := RX7) (T := TX7) (N := 12) hx hb hts iw7 hown hK hP 0 rfl rfl 4 (by decide) fw2 (fun _ h9 => h9) rfl dX7_passWord_6 ?_
      refine lv_aload_n hx hb dX7_passWord_9 rfl (lv_at hl 0 rfl) ?_
      refine va_get (D := D) (ci := 7) (v := .int (nI ln)) (C := RX7) (T := TX7) (N := 12) hx hb hts iw7 hown hK hP 0 rfl rfl 1 (by decide) fw3 (fun _ h9 => h9) rfl dX7_passWord_10 ?_
      refine lv_icmp_ge (tgt := 44) hx hb dX7_passWord_13 (by decide) (fun h9 => ?_) (fun h10 => ?_)
      · skip
        have h9 : ln ≤ j91 := (nI_leI (a := ln) (b := j91) (by omega) (by omega)).mp h9
        exact W.vret hx hb hr (fun tZ ht hW => ⟨⟨(j91), rfl, ⟨by first | omega | (dsimp only; omega), by first | omega | (dsimp only; omega), kz_Ts.mk (k := 1) rfl (kz_Tn_l hlt hl1 (ks_s3 hI0_j91 (by first | omega | (dsimp only; omega))))⟩, by rw [ht]; exact hP.sub [0, 1] rfl, hD.sub [0, 1] (by decide) rfl⟩, hS.F ht⟩) hS.2.2 dX7_passWord_44
      · skip
        have h10 : ¬ ln ≤ j91 := fun q9 => h10 ((nI_leI (a := ln) (b := j91) (by omega) (by omega)).mpr q9)
        refine lv_aload_n hx hb dX7_passWord_16 rfl (lv_at hl 0 rfl) ?_
        refine va_get (D := D) (ci := 7) (v := .ref bys) (C := RX7) (T := TX7) (N := 12) hx hb hts iw7 hown hK hP 0 rfl rfl 0 (by decide) fw4 (fun _ h9 => h9) rfl dX7_passWord_17 ?_
        refine lv_aload_n hx hb dX7_passWord_20 rfl (lv_at hl 0 rfl) ?_
        refine va_get (D := D) (ci := 7) (v := .int (nI j91)) (C := RX7) (T := TX7) (N := 12) hx hb hts iw7 hown hK hP 0 rfl rfl 4 (by decide) fw2 (fun _ h9 => h9) rfl dX7_passWord_21 ?_
        refine va_bald hx hb hK hP 1 1 rfl rfl (vp_in_nI (by omega) (by decide)) dX7_passWord_24 ?_
        rw [nI_clamp (n := j91) (by omega)]
        have hs11 : kw_Split [(tx, .inr (7, [.ref bys, .int (nI ln), .int 1, .int (nI sta), .int (nI j91), .int num, .ref wo, .ref fs, .ref sc, .int tfi, .int tgl, .int tst])), (bys, .inl (y 1, 150, .inl fby))] [] [(tx, .inr (7, [.ref bys, .int (nI ln), .int 1, .int (nI sta), .int (nI j91), .int num, .ref wo, .ref fs, .ref sc, .int tfi, .int tgl, .int tst])), (bys, .inl (y 1, 150, .inl fby))] [] [0, 1] := ⟨rfl, rfl, rfl, rfl, rfl, by decide⟩
        refine kw_go_i hs11 hP hD hS hA (va_runS (As := [.int (fby j91)]) (rest := []) ⟨hx, hb, hml, hown, hts⟩ (gs_isLetter l D y (fby j91)  _) (va_cwS 1 hts gX7_passWord_X7_isLetter rfl rfl rfl (by decide +kernel) ⟨Nat.le_of_ble_eq_true rfl, Nat.le_of_ble_eq_true rfl⟩) (kw_PreS hs11 hP hD hK hN) rfl rfl hl.1 rfl (lv_room (Nat.le_of_ble_eq_true rfl)) dX7_passWord_25 ⟨Nat.le_of_ble_eq_true rfl, Nat.le_of_ble_eq_true rfl⟩) (fun r12 u13 H locs hq hP hD hS => ?_)
        rcases hq with ⟨h14, rfl⟩ | ⟨h15, rfl⟩
        · skip
          have hP : va_P D vwCl [(tx, .inr (7, [.ref bys, .int (nI ln), .int 1, .int (nI sta), .int (nI j91), .int num, .ref wo, .ref fs, .ref sc, .int tfi, .int tgl, .int tst])), (bys, .inl (y 1, 150, .inl fby))] H := hP
          have hD : va_D A [(tx, .inr (7, [.ref bys, .int (nI ln), .int 1, .int (nI sta), .int (nI j91), .int num, .ref wo, .ref fs, .ref sc, .int tfi, .int tgl, .int tst])), (bys, .inl (y 1, 150, .inl fby))] := hD
          refine lv_if_eq (tgt := 44) hx hb dX7_passWord_28 (by decide) (fun h9 => absurd h9 (by decide)) (fun _ => ?_)
          refine lv_aload_n hx hb dX7_passWord_31 rfl (lv_at hl 0 rfl) ?_
          refine lv_dup hx hb dX7_passWord_32 rfl ?_
          refine va_get (D := D) (ci := 7) (v := .int (nI j91)) (C := RX7) (T := TX7) (N := 12) hx hb hts iw7 hown hK hP 0 rfl rfl 4 (by decide) fw2 (fun _ h9 => h9) rfl dX7_passWord_33 ?_
          refine lv_iconst (v := 1) hx hb dX7_passWord_36 (by decide) ?_
          refine lv_iadd hx hb dX7_passWord_37 ?_
          rw [show (nI j91) + 1 = nI (j91 + 1) from nI_add j91 1]
          refine va_put (D := D) (ci := 7) (v := .int (nI (j91 + 1))) (ty := .int) (C := RX7) (T := TX7) (N := 12) hx hb hts iw7 tyX7 tyX7_ok nmX7 hown hK hP hD hS 0 rfl rfl 4 (by decide) fw2 (fun _ h9 => h9) rfl (by decide +kernel) rfl rfl (Nat.le_of_ble_eq_true rfl) dX7_passWord_38 (fun H locs hP hD hS => ?_)
          have hP : va_P D vwCl [(tx, .inr (7, [.ref bys, .int (nI ln), .int 1, .int (nI sta), .int (nI (j91 + 1)), .int num, .ref wo, .ref fs, .ref sc, .int tfi, .int tgl, .int tst])), (bys, .inl (y 1, 150, .inl fby))] H := hP
          have hD : va_D A [(tx, .inr (7, [.ref bys, .int (nI ln), .int 1, .int (nI sta), .int (nI (j91 + 1)), .int num, .ref wo, .ref fs, .ref sc, .int tfi, .int tgl, .int tst])), (bys, .inl (y 1, 150, .inl fby))] := hD
          refine lv_goto (tgt := 5) hx hb dX7_passWord_41 (by decide) ?_
          exact ihj91 (j91 + 1)  H locs ls (by omega) (by omega) (by omega) (hI0_j91.trans (ks_to_step (by omega) h14)) (hP.sub [0, 1] rfl) (hD.sub [0, 1] (by decide) rfl) hS (lv_sub hl [0] rfl)
        · skip
          have hP : va_P D vwCl [(tx, .inr (7, [.ref bys, .int (nI ln), .int 1, .int (nI sta), .int (nI j91), .int num, .ref wo, .ref fs, .ref sc, .int tfi, .int tgl, .int tst])), (bys, .inl (y 1, 150, .inl fby))] H := hP
          have hD : va_D A [(tx, .inr (7, [.ref bys, .int (nI ln), .int 1, .int (nI sta), .int (nI j91), .int num, .ref wo, .ref fs, .ref sc, .int tfi, .int tgl, .int tst])), (bys, .inl (y 1, 150, .inl fby))] := hD
          refine lv_if_eq (tgt := 44) hx hb dX7_passWord_28 (by decide) (fun _ => ?_) (fun h9 => absurd h9 (by decide))
          exact W.vret hx hb hr (fun tZ ht hW => ⟨⟨(j91), rfl, ⟨by first | omega | (dsimp only; omega), by first | omega | (dsimp only; omega), kz_Ts.mk (k := 1) rfl (kz_Tn_l hlt hl1 (ks_s2 hI0_j91 h15))⟩, by rw [ht]; exact hP.sub [0, 1] rfl, hD.sub [0, 1] (by decide) rfl⟩, hS.F ht⟩) hS.2.2 dX7_passWord_44
  exact lp8 (ln + 1) sta  _ _ _ (by omega) (by omega) (by omega) rfl hP hD hS (lv_sub hl [0] rfl)

set_option maxHeartbeats 4000000 in
set_option maxRecDepth 100000 in
theorem gs_passNumber (l : Launch) (D : va_G) (y : Nat → ClassId) (tx : Nat) (bys : Nat) (wo : Nat) (fs : Nat) (sc : Nat) (ln : Nat) (sta : Nat) (tok : Int32) (num : Int32) (tfi : Int32) (tgl : Int32) (tst : Int32) (fby : Nat → Int32) (hln : ln ≤ 150) (hlt : sta < ln) (hf1 : ks_f (fby sta) = true) : kw_Mv l yX7_passNumber wsX7_passNumber ({ frames := 2, cells := 0, slots := 0, locals := 80 }) D y [.ref tx] [(tx, .inr (7, [.ref bys, .int (nI ln), .int tok, .int (nI sta), .int (nI sta), .int num, .ref wo, .ref fs, .ref sc, .int tfi, .int tgl, .int tst])), (bys, .inl (y 1, 150, .inl fby))] (fun (u : Int32 × Nat × Int32) => u.2.1 ≤ ln ∧ sta ≤ u.2.1 ∧ kz_Ts fby ln sta u.1 u.2.1 u.2.2) (fun u => [(tx, .inr (7, [.ref bys, .int (nI ln), .int u.1, .int (nI sta), .int (nI u.2.1), .int u.2.2, .ref wo, .ref fs, .ref sc, .int tfi, .int tgl, .int tst])), (bys, .inl (y 1, 150, .inl fby))]) 0 0 := by
  refine kw_Mv.of (cc := cX7_passNumber) (maxL := 1) (ret := none) (by decide) rfl ?_
  intro pZ eZ s mZ beZ meZ cZ A hE
  obtain ⟨hx, hb, hr, hml, hts, hown, hlocks, hin, hA, hP, hD, hK, hN⟩ := hE
  have hS : va_S A s.heap s.heap [] := va_S.rf
  have hl := lv_entry ([.ref tx]) (n := 1) (Nat.le_of_ble_eq_true rfl)
  rw [lg_entry_eq]
  generalize (lg_sl ([.ref tx]) ++ List.replicate (1 - (lg_sl ([.ref tx])).length) Slot.unset).toArray = ls at hl ⊢
  have hl : lv_has ls 1 [(0, .ref tx)] := hl
  have fw1 := hts (.fieldLink RX7 62 "GleanDusk$Text" "number" "I") (List.mem_of_getElem? (i := 1) rfl)
  have fw2 := hts (.fieldLink RX7 29 "GleanDusk$Text" "end" "I") (List.mem_of_getElem? (i := 2) rfl)
  have fw3 := hts (.fieldLink RX7 25 "GleanDusk$Text" "length" "I") (List.mem_of_getElem? (i := 3) rfl)
  have fw4 := hts (.fieldLink RX7 51 "GleanDusk$Text" "start" "I") (List.mem_of_getElem? (i := 5) rfl)
  have fw5 := hts (.fieldLink RX7 44 "GleanDusk$Text" "token" "I") (List.mem_of_getElem? (i := 6) rfl)
  have fw6 := hts (.fieldLink RX7 9 "GleanDusk$Text" "bytes" "[B") (List.mem_of_getElem? (i := 4) rfl)
  have iw7 : ∀ w ∈ wsX70, w ∈ wsX7_passNumber := fun _ h => List.mem_cons_of_mem _ (List.mem_append_right _ h)
  refine lv_aload_n hx hb dX7_passNumber_0 rfl (lv_at hl 0 rfl) ?_
  refine lv_iconst (v := 0) hx hb dX7_passNumber_1 (by decide) ?_
  refine va_put (D := D) (ci := 7) (v := .int 0) (ty := .int) (C := RX7) (T := TX7) (N := 12) hx hb hts iw7 tyX7 tyX7_ok nmX7 hown hK hP hD hS 0 rfl rfl 5 (by decide) fw1 (fun _ h9 => h9) rfl (by decide +kernel) rfl rfl (Nat.le_of_ble_eq_true rfl) dX7_passNumber_2 (fun H locs hP hD hS => ?_)
  have hP : va_P D vwCl [(tx, .inr (7, [.ref bys, .int (nI ln), .int tok, .int (nI sta), .int (nI sta), .int 0, .ref wo, .ref fs, .ref sc, .int tfi, .int tgl, .int tst])), (bys, .inl (y 1, 150, .inl fby))] H := hP
  have hD : va_D A [(tx, .inr (7, [.ref bys, .int (nI ln), .int tok, .int (nI sta), .int (nI sta), .int 0, .ref wo, .ref fs, .ref sc, .int tfi, .int tgl, .int tst])), (bys, .inl (y 1, 150, .inl fby))] := hD
  have lp37 : ∀ (fuj91 j91 : Nat) (x19 : Nat) (H : Heap) (locs : List Loc) (ls : Array Slot), j91 ≤ ln → ln - j91 < fuj91 → x19 ≤ 99 → sta ≤ j91 → ks_to ks_f fby ln sta = ks_to ks_f fby ln j91 → x19 = ks_val fby sta j91 → (j91 - sta < 2 → x19 ≤ 9) → (j91 - sta < 1 → x19 = 0) → va_P D vwCl [(tx, .inr (7, [.ref bys, .int (nI ln), .int tok, .int (nI sta), .int (nI j91), .int (nI x19), .ref wo, .ref fs, .ref sc, .int tfi, .int tgl, .int tst])), (bys, .inl (y 1, 150, .inl fby))] H → va_D A [(tx, .inr (7, [.ref bys, .int (nI ln), .int tok, .int (nI sta), .int (nI j91), .int (nI x19), .ref wo, .ref fs, .ref sc, .int tfi, .int tgl, .int tst])), (bys, .inl (y 1, 150, .inl fby))] → va_S A s.heap H locs → lv_has ls 1 [(0, .ref tx)] → W pZ l eZ ({ frames := 2, cells := 0, slots := 0, locals := 80 }) s mZ [.ref tx].toArray beZ meZ cZ H locs 0 0 (MQ beZ (va_Qv (fun (u : Int32 × Nat × Int32) => u.2.1 ≤ ln ∧ sta ≤ u.2.1 ∧ kz_Ts fby ln sta u.1 u.2.1 u.2.2) (kw_B D (fun u => [(tx, .inr (7, [.ref bys, .int (nI ln), .int u.1, .int (nI sta), .int (nI u.2.1), .int u.2.2, .ref wo, .ref fs, .ref sc, .int tfi, .int tgl, .int tst])), (bys, .inl (y 1, 150, .inl fby))]) A) A) [.ref tx].toArray s 0 0 A) (F0 mZ 5 ls []) := by
    intro fuj91
    induction fuj91 with
    | zero => intro j91 x19 H locs ls hj9 hf9; exact absurd hf9 (Nat.not_lt_zero _)
    | succ fuj91 ihj91 =>
      intro j91 x19 H locs ls hj91 hfj91 hn_x19 hlo_j91 hI0_j91 hI1_j91 hI2_j91 hI3_j91 hP hD hS hl
      refine lv_aload_n hx hb dX7_passNumber_5 rfl (lv_at hl 0 rfl) ?_
      refine va_get (D := D) (ci := 7) (v := .int (nI j91)) (C := RX7) (T := TX7) (N := 12) hx hb hts iw7 hown hK hP 0 rfl rfl 4 (by decide) fw2 (fun _ h9 => h9) rfl dX7_passNumber_6 ?_
      refine lv_aload_n hx hb dX7_passNumber_9 rfl (lv_at hl 0 rfl) ?_
      refine va_get (D := D) (ci := 7) (v := .int (nI ln)) (C := RX7) (T := TX7) (N := 12) hx hb hts iw7 hown hK hP 0 rfl rfl 1 (by decide) fw3 (fun _ h9 => h9) rfl dX7_passNumber_10 ?_
      refine lv_icmp_ge (tgt := 81) hx hb dX7_passNumber_13 (by decide) (fun h38 => ?_) (fun h39 => ?_)
      · skip
        have h38 : ln ≤ j91 := (nI_leI (a := ln) (b := j91) (by omega) (by omega)).mp h38
        refine lv_aload_n hx hb dX7_passNumber_81 rfl (lv_at hl 0 rfl) ?_
        refine lv_aload_n hx hb dX7_passNumber_82 rfl (lv_at hl 0 rfl) ?_
        refine va_get (D := D) (ci := 7) (v := .int (nI j91)) (C := RX7) (T := TX7) (N := 12) hx hb hts iw7 hown hK hP 0 rfl rfl 4 (by decide) fw2 (fun _ h9 => h9) rfl dX7_passNumber_83 ?_
        refine lv_aload_n hx hb dX7_passNumber_86 rfl (lv_at hl 0 rfl) ?_
        refine va_get (D := D) (ci := 7) (v := .int (nI sta)) (C := RX7) (T := TX7) (N := 12) hx hb hts iw7 hown hK hP 0 rfl rfl 3 (by decide) fw4 (fun _ h9 => h9) rfl dX7_passNumber_87 ?_
        refine lv_isub hx hb dX7_passNumber_90 ?_
        rw [show (nI j91) - (nI sta) = nI (j91 - sta) from pk_sub (a := j91) (b := sta) (by omega)]
        refine lv_iconst (v := 2) hx hb dX7_passNumber_91 (by decide) ?_
        refine lv_icmp_gt (tgt := 99) hx hb dX7_passNumber_92 (by decide) (fun h40 => ?_) (fun h41 => ?_)
        · skip
          have h40 : 2 < (j91 - sta) := (nI_ltI (a := 2) (b := (j91 - sta)) (by omega) (by omega)).mp h40
          refine lv_iconst (v := 4) hx hb dX7_passNumber_99 (by decide) ?_
          refine va_put (D := D) (ci := 7) (v := .int 4) (ty := .int) (C := RX7) (T := TX7) (N := 12) hx hb hts iw7 tyX7 tyX7_ok nmX7 hown hK hP hD hS 0 rfl rfl 2 (by decide) fw5 (fun _ h9 => h9) rfl (by decide +kernel) rfl rfl (Nat.le_of_ble_eq_true rfl) dX7_passNumber_100 (fun H locs hP hD hS => ?_)
          have hP : va_P D vwCl [(tx, .inr (7, [.ref bys, .int (nI ln), .int 4, .int (nI sta), .int (nI j91), .int (nI x19), .ref wo, .ref fs, .ref sc, .int tfi, .int tgl, .int tst])), (bys, .inl (y 1, 150, .inl fby))] H := hP
          have hD : va_D A [(tx, .inr (7, [.ref bys, .int (nI ln), .int 4, .int (nI sta), .int (nI j91), .int (nI x19), .ref wo, .ref fs, .ref sc, .int tfi, .int tgl, .int tst])), (bys, .inl (y 1, 150, .inl fby))] := hD
          exact W.vret hx hb hr (fun tZ ht hW => ⟨⟨(4, j91, (nI x19)), rfl, ⟨by first | omega | (dsimp only; omega), by first | omega | (dsimp only; omega), kz_Ts.mk (by rw [if_neg (by first | omega | (dsimp only; omega))]; rfl) (kz_Tn_f hlt hf1 (ks_s3 hI0_j91 (by first | omega | (dsimp only; omega))) hI1_j91 (by first | omega | (dsimp only; omega)))⟩, by rw [ht]; exact hP.sub [0, 1] rfl, hD.sub [0, 1] (by decide) rfl⟩, hS.F ht⟩) hS.2.2 dX7_passNumber_103
        · skip
          have h41 : ¬ 2 < (j91 - sta) := fun q9 => h41 ((nI_ltI (a := 2) (b := (j91 - sta)) (by omega) (by omega)).mpr q9)
          refine lv_iconst (v := 2) hx hb dX7_passNumber_95 (by decide) ?_
          refine lv_goto (tgt := 100) hx hb dX7_passNumber_96 (by decide) ?_
          refine va_put (D := D) (ci := 7) (v := .int 2) (ty := .int) (C := RX7) (T := TX7) (N := 12) hx hb hts iw7 tyX7 tyX7_ok nmX7 hown hK hP hD hS 0 rfl rfl 2 (by decide) fw5 (fun _ h9 => h9) rfl (by decide +kernel) rfl rfl (Nat.le_of_ble_eq_true rfl) dX7_passNumber_100 (fun H locs hP hD hS => ?_)
          have hP : va_P D vwCl [(tx, .inr (7, [.ref bys, .int (nI ln), .int 2, .int (nI sta), .int (nI j91), .int (nI x19), .ref wo, .ref fs, .ref sc, .int tfi, .int tgl, .int tst])), (bys, .inl (y 1, 150, .inl fby))] H := hP
          have hD : va_D A [(tx, .inr (7, [.ref bys, .int (nI ln), .int 2, .int (nI sta), .int (nI j91), .int (nI x19), .ref wo, .ref fs, .ref sc, .int tfi, .int tgl, .int tst])), (bys, .inl (y 1, 150, .inl fby))] := hD
          exact W.vret hx hb hr (fun tZ ht hW => ⟨⟨(2, j91, (nI x19)), rfl, ⟨by first | omega | (dsimp only; omega), by first | omega | (dsimp only; omega), kz_Ts.mk (by rw [if_pos (by first | omega | (dsimp only; omega))]; rfl) (kz_Tn_f hlt hf1 (ks_s3 hI0_j91 (by first | omega | (dsimp only; omega))) hI1_j91 (by first | omega | (dsimp only; omega)))⟩, by rw [ht]; exact hP.sub [0, 1] rfl, hD.sub [0, 1] (by decide) rfl⟩, hS.F ht⟩) hS.2.2 dX7_passNumber_103
      · skip
        have h39 : ¬ ln ≤ j91 := fun q9 => h39 ((nI_leI (a := ln) (b := j91) (by omega) (by omega)).mpr q9)
        refine lv_aload_n hx hb dX7_passNumber_16 rfl (lv_at hl 0 rfl) ?_
        refine va_get (D := D) (ci := 7) (v := .ref bys) (C := RX7) (T := TX7) (N := 12) hx hb hts iw7 hown hK hP 0 rfl rfl 0 (by decide) fw6 (fun _ h9 => h9) rfl dX7_passNumber_17 ?_
        refine lv_aload_n hx hb dX7_passNumber_20 rfl (lv_at hl 0 rfl) ?_
        refine va_get (D := D) (ci := 7) (v := .int (nI j91)) (C := RX7) (T := TX7) (N := 12) hx hb hts iw7 hown hK hP 0 rfl rfl 4 (by decide) fw2 (fun _ h9 => h9) rfl dX7_passNumber_21 ?_
        refine va_bald hx hb hK hP 1 1 rfl rfl (vp_in_nI (by omega) (by decide)) dX7_passNumber_24 ?_
        rw [nI_clamp (n := j91) (by omega)]
        have hs42 : kw_Split [(tx, .inr (7, [.ref bys, .int (nI ln), .int tok, .int (nI sta), .int (nI j91), .int (nI x19), .ref wo, .ref fs, .ref sc, .int tfi, .int tgl, .int tst])), (bys, .inl (y 1, 150, .inl fby))] [] [(tx, .inr (7, [.ref bys, .int (nI ln), .int tok, .int (nI sta), .int (nI j91), .int (nI x19), .ref wo, .ref fs, .ref sc, .int tfi, .int tgl, .int tst])), (bys, .inl (y 1, 150, .inl fby))] [] [0, 1] := ⟨rfl, rfl, rfl, rfl, rfl, by decide⟩
        refine kw_go_i hs42 hP hD hS hA (va_runS (As := [.int (fby j91)]) (rest := []) ⟨hx, hb, hml, hown, hts⟩ (gs_isFigure l D y (fby j91)  _) (va_cwS 1 hts gX7_passNumber_X7_isFigure rfl rfl rfl (by decide +kernel) ⟨Nat.le_of_ble_eq_true rfl, Nat.le_of_ble_eq_true rfl⟩) (kw_PreS hs42 hP hD hK hN) rfl rfl hl.1 rfl (lv_room (Nat.le_of_ble_eq_true rfl)) dX7_passNumber_25 ⟨Nat.le_of_ble_eq_true rfl, Nat.le_of_ble_eq_true rfl⟩) (fun r43 u44 H locs hq hP hD hS => ?_)
        rcases hq with ⟨h45, rfl⟩ | ⟨h46, rfl⟩
        · skip
          have hP : va_P D vwCl [(tx, .inr (7, [.ref bys, .int (nI ln), .int tok, .int (nI sta), .int (nI j91), .int (nI x19), .ref wo, .ref fs, .ref sc, .int tfi, .int tgl, .int tst])), (bys, .inl (y 1, 150, .inl fby))] H := hP
          have hD : va_D A [(tx, .inr (7, [.ref bys, .int (nI ln), .int tok, .int (nI sta), .int (nI j91), .int (nI x19), .ref wo, .ref fs, .ref sc, .int tfi, .int tgl, .int tst])), (bys, .inl (y 1, 150, .inl fby))] := hD
          refine lv_if_eq (tgt := 81) hx hb dX7_passNumber_28 (by decide) (fun h9 => absurd h9 (by decide)) (fun _ => ?_)
          refine lv_aload_n hx hb dX7_passNumber_31 rfl (lv_at hl 0 rfl) ?_
          refine va_get (D := D) (ci := 7) (v := .int (nI j91)) (C := RX7) (T := TX7) (N := 12) hx hb hts iw7 hown hK hP 0 rfl rfl 4 (by decide) fw2 (fun _ h9 => h9) rfl dX7_passNumber_32 ?_
          refine lv_aload_n hx hb dX7_passNumber_35 rfl (lv_at hl 0 rfl) ?_
          refine va_get (D := D) (ci := 7) (v := .int (nI sta)) (C := RX7) (T := TX7) (N := 12) hx hb hts iw7 hown hK hP 0 rfl rfl 3 (by decide) fw4 (fun _ h9 => h9) rfl dX7_passNumber_36 ?_
          refine lv_isub hx hb dX7_passNumber_39 ?_
          rw [show (nI j91) - (nI sta) = nI (j91 - sta) from pk_sub (a := j91) (b := sta) (by omega)]
          refine lv_iconst (v := 2) hx hb dX7_passNumber_40 (by decide) ?_
          refine lv_icmp_ge (tgt := 68) hx hb dX7_passNumber_41 (by decide) (fun h47 => ?_) (fun h48 => ?_)
          · skip
            have h47 : 2 ≤ (j91 - sta) := (nI_leI (a := 2) (b := (j91 - sta)) (by omega) (by omega)).mp h47
            refine lv_aload_n hx hb dX7_passNumber_68 rfl (lv_at hl 0 rfl) ?_
            refine lv_dup hx hb dX7_passNumber_69 rfl ?_
            refine va_get (D := D) (ci := 7) (v := .int (nI j91)) (C := RX7) (T := TX7) (N := 12) hx hb hts iw7 hown hK hP 0 rfl rfl 4 (by decide) fw2 (fun _ h9 => h9) rfl dX7_passNumber_70 ?_
            refine lv_iconst (v := 1) hx hb dX7_passNumber_73 (by decide) ?_
            refine lv_iadd hx hb dX7_passNumber_74 ?_
            rw [show (nI j91) + 1 = nI (j91 + 1) from nI_add j91 1]
            refine va_put (D := D) (ci := 7) (v := .int (nI (j91 + 1))) (ty := .int) (C := RX7) (T := TX7) (N := 12) hx hb hts iw7 tyX7 tyX7_ok nmX7 hown hK hP hD hS 0 rfl rfl 4 (by decide) fw2 (fun _ h9 => h9) rfl (by decide +kernel) rfl rfl (Nat.le_of_ble_eq_true rfl) dX7_passNumber_75 (fun H locs hP hD hS => ?_)
            have hP : va_P D vwCl [(tx, .inr (7, [.ref bys, .int (nI ln), .int tok, .int (nI sta), .int (nI (j91 + 1)), .int (nI x19), .ref wo, .ref fs, .ref sc, .int tfi, .int tgl, .int tst])), (bys, .inl (y 1, 150, .inl fby))] H := hP
            have hD : va_D A [(tx, .inr (7, [.ref bys, .int (nI ln), .int tok, .int (nI sta), .int (nI (j91 + 1)), .int (nI x19), .ref wo, .ref fs, .ref sc, .int tfi, .int tgl, .int tst])), (bys, .inl (y 1, 150, .inl fby))] := hD
            refine lv_goto (tgt := 5) hx hb dX7_passNumber_78 (by decide) ?_
            exact ihj91 (j91 + 1) x19 H locs ls (by omega) (by omega) (by omega) (by omega) (hI0_j91.trans (ks_to_step (by omega) h45)) (ks_valN hI1_j91 (by omega)) (by omega) (by omega) (hP.sub [0, 1] rfl) (hD.sub [0, 1] (by decide) rfl) hS (lv_sub hl [0] rfl)
          · skip
            have h48 : ¬ 2 ≤ (j91 - sta) := fun q9 => h48 ((nI_leI (a := 2) (b := (j91 - sta)) (by omega) (by omega)).mpr q9)
            refine lv_aload_n hx hb dX7_passNumber_44 rfl (lv_at hl 0 rfl) ?_
            refine lv_bipush (v := 10) hx hb dX7_passNumber_45 (by decide) ?_
            refine lv_aload_n hx hb dX7_passNumber_47 rfl (lv_at hl 0 rfl) ?_
            refine va_get (D := D) (ci := 7) (v := .int (nI x19)) (C := RX7) (T := TX7) (N := 12) hx hb hts iw7 hown hK hP 0 rfl rfl 5 (by decide) fw1 (fun _ h9 => h9) rfl dX7_passNumber_48 ?_
            refine lv_imul hx hb dX7_passNumber_51 ?_
            rw [show 10 * (nI x19) = nI (10 * x19) from pk_mul 10 x19]
            refine lv_aload_n hx hb dX7_passNumber_52 rfl (lv_at hl 0 rfl) ?_
            refine va_get (D := D) (ci := 7) (v := .ref bys) (C := RX7) (T := TX7) (N := 12) hx hb hts iw7 hown hK hP 0 rfl rfl 0 (by decide) fw6 (fun _ h9 => h9) rfl dX7_passNumber_53 ?_
            refine lv_aload_n hx hb dX7_passNumber_56 rfl (lv_at hl 0 rfl) ?_
            refine va_get (D := D) (ci := 7) (v := .int (nI j91)) (C := RX7) (T := TX7) (N := 12) hx hb hts iw7 hown hK hP 0 rfl rfl 4 (by decide) fw2 (fun _ h9 => h9) rfl dX7_passNumber_57 ?_
            refine va_bald hx hb hK hP 1 1 rfl rfl (vp_in_nI (by omega) (by decide)) dX7_passNumber_60 ?_
            rw [nI_clamp (n := j91) (by omega)]
            obtain ⟨w49, h50, h51, h52⟩ := ks_fj h45
            rw [h52]
            refine lv_iadd hx hb dX7_passNumber_61 ?_
            rw [show (nI (10 * x19)) + (nI w49) = nI ((10 * x19) + w49) from nI_add (10 * x19) w49]
            refine lv_bipush (v := 48) hx hb dX7_passNumber_62 (by decide) ?_
            refine lv_isub hx hb dX7_passNumber_64 ?_
            rw [show (nI ((10 * x19) + w49)) - 48 = nI (((10 * x19) + w49) - 48) from pk_sub (a := ((10 * x19) + w49)) (b := 48) (by omega)]
            refine va_put (D := D) (ci := 7) (v := .int (nI (((10 * x19) + w49) - 48))) (ty := .int) (C := RX7) (T := TX7) (N := 12) hx hb hts iw7 tyX7 tyX7_ok nmX7 hown hK hP hD hS 0 rfl rfl 5 (by decide) fw1 (fun _ h9 => h9) rfl (by decide +kernel) rfl rfl (Nat.le_of_ble_eq_true rfl) dX7_passNumber_65 (fun H locs hP hD hS => ?_)
            have hP : va_P D vwCl [(tx, .inr (7, [.ref bys, .int (nI ln), .int tok, .int (nI sta), .int (nI j91), .int (nI (((10 * x19) + w49) - 48)), .ref wo, .ref fs, .ref sc, .int tfi, .int tgl, .int tst])), (bys, .inl (y 1, 150, .inl fby))] H := hP
            have hD : va_D A [(tx, .inr (7, [.ref bys, .int (nI ln), .int tok, .int (nI sta), .int (nI j91), .int (nI (((10 * x19) + w49) - 48)), .ref wo, .ref fs, .ref sc, .int tfi, .int tgl, .int tst])), (bys, .inl (y 1, 150, .inl fby))] := hD
            refine lv_aload_n hx hb dX7_passNumber_68 rfl (lv_at hl 0 rfl) ?_
            refine lv_dup hx hb dX7_passNumber_69 rfl ?_
            refine va_get (D := D) (ci := 7) (v := .int (nI j91)) (C := RX7) (T := TX7) (N := 12) hx hb hts iw7 hown hK hP 0 rfl rfl 4 (by decide) fw2 (fun _ h9 => h9) rfl dX7_passNumber_70 ?_
            refine lv_iconst (v := 1) hx hb dX7_passNumber_73 (by decide) ?_
            refine lv_iadd hx hb dX7_passNumber_74 ?_
            rw [show (nI j91) + 1 = nI (j91 + 1) from nI_add j91 1]
            refine va_put (D := D) (ci := 7) (v := .int (nI (j91 + 1))) (ty := .int) (C := RX7) (T := TX7) (N := 12) hx hb hts iw7 tyX7 tyX7_ok nmX7 hown hK hP hD hS 0 rfl rfl 4 (by decide) fw2 (fun _ h9 => h9) rfl (by decide +kernel) rfl rfl (Nat.le_of_ble_eq_true rfl) dX7_passNumber_75 (fun H locs hP hD hS => ?_)
            have hP : va_P D vwCl [(tx, .inr (7, [.ref bys, .int (nI ln), .int tok, .int (nI sta), .int (nI (j91 + 1)), .int (nI (((10 * x19) + w49) - 48)), .ref wo, .ref fs, .ref sc, .int tfi, .int tgl, .int tst])), (bys, .inl (y 1, 150, .inl fby))] H := hP
            have hD : va_D A [(tx, .inr (7, [.ref bys, .int (nI ln), .int tok, .int (nI sta), .int (nI (j91 + 1)), .int (nI (((10 * x19) + w49) - 48)), .ref wo, .ref fs, .ref sc, .int tfi, .int tgl, .int tst])), (bys, .inl (y 1, 150, .inl fby))] := hD
            refine lv_goto (tgt := 5) hx hb dX7_passNumber_78 (by decide) ?_
            exact ihj91 (j91 + 1) (((10 * x19) + w49) - 48) H locs ls (by omega) (by omega) (by omega) (by omega) (hI0_j91.trans (ks_to_step (by omega) h45)) (ks_valS hI1_j91 (by omega) (by omega) h52 h50 h51) (by omega) (by omega) (hP.sub [0, 1] rfl) (hD.sub [0, 1] (by decide) rfl) hS (lv_sub hl [0] rfl)
        · skip
          have hP : va_P D vwCl [(tx, .inr (7, [.ref bys, .int (nI ln), .int tok, .int (nI sta), .int (nI j91), .int (nI x19), .ref wo, .ref fs, .ref sc, .int tfi, .int tgl, .int tst])), (bys, .inl (y 1, 150, .inl fby))] H := hP
          have hD : va_D A [(tx, .inr (7, [.ref bys, .int (nI ln), .int tok, .int (nI sta), .int (nI j91), .int (nI x19), .ref wo, .ref fs, .ref sc, .int tfi, .int tgl, .int tst])), (bys, .inl (y 1, 150, .inl fby))] := hD
          refine lv_if_eq (tgt := 81) hx hb dX7_passNumber_28 (by decide) (fun _ => ?_) (fun h9 => absurd h9 (by decide))
          refine lv_aload_n hx hb dX7_passNumber_81 rfl (lv_at hl 0 rfl) ?_
          refine lv_aload_n hx hb dX7_passNumber_82 rfl (lv_at hl 0 rfl) ?_
          refine va_get (D := D) (ci := 7) (v := .int (nI j91)) (C := RX7) (T := TX7) (N := 12) hx hb hts iw7 hown hK hP 0 rfl rfl 4 (by decide) fw2 (fun _ h9 => h9) rfl dX7_passNumber_83 ?_
          refine lv_aload_n hx hb dX7_passNumber_86 rfl (lv_at hl 0 rfl) ?_
          refine va_get (D := D) (ci := 7) (v := .int (nI sta)) (C := RX7) (T := TX7) (N := 12) hx hb hts iw7 hown hK hP 0 rfl rfl 3 (by decide) fw4 (fun _ h9 => h9) rfl dX7_passNumber_87 ?_
          refine lv_isub hx hb dX7_passNumber_90 ?_
          rw [show (nI j91) - (nI sta) = nI (j91 - sta) from pk_sub (a := j91) (b := sta) (by omega)]
          refine lv_iconst (v := 2) hx hb dX7_passNumber_91 (by decide) ?_
          refine lv_icmp_gt (tgt := 99) hx hb dX7_passNumber_92 (by decide) (fun h53 => ?_) (fun h54 => ?_)
          · skip
            have h53 : 2 < (j91 - sta) := (nI_ltI (a := 2) (b := (j91 - sta)) (by omega) (by omega)).mp h53
            refine lv_iconst (v := 4) hx hb dX7_passNumber_99 (by decide) ?_
            refine va_put (D := D) (ci := 7) (v := .int 4) (ty := .int) (C := RX7) (T := TX7) (N := 12) hx hb hts iw7 tyX7 tyX7_ok nmX7 hown hK hP hD hS 0 rfl rfl 2 (by decide) fw5 (fun _ h9 => h9) rfl (by decide +kernel) rfl rfl (Nat.le_of_ble_eq_true rfl) dX7_passNumber_100 (fun H locs hP hD hS => ?_)
            have hP : va_P D vwCl [(tx, .inr (7, [.ref bys, .int (nI ln), .int 4, .int (nI sta), .int (nI j91), .int (nI x19), .ref wo, .ref fs, .ref sc, .int tfi, .int tgl, .int tst])), (bys, .inl (y 1, 150, .inl fby))] H := hP
            have hD : va_D A [(tx, .inr (7, [.ref bys, .int (nI ln), .int 4, .int (nI sta), .int (nI j91), .int (nI x19), .ref wo, .ref fs, .ref sc, .int tfi, .int tgl, .int tst])), (bys, .inl (y 1, 150, .inl fby))] := hD
            exact W.vret hx hb hr (fun tZ ht hW => ⟨⟨(4, j91, (nI x19)), rfl, ⟨by first | omega | (dsimp only; omega), by first | omega | (dsimp only; omega), kz_Ts.mk (by rw [if_neg (by first | omega | (dsimp only; omega))]; rfl) (kz_Tn_f hlt hf1 (ks_s2 hI0_j91 h46) hI1_j91 (by first | omega | (dsimp only; omega)))⟩, by rw [ht]; exact hP.sub [0, 1] rfl, hD.sub [0, 1] (by decide) rfl⟩, hS.F ht⟩) hS.2.2 dX7_passNumber_103
          · skip
            have h54 : ¬ 2 < (j91 - sta) := fun q9 => h54 ((nI_ltI (a := 2) (b := (j91 - sta)) (by omega) (by omega)).mpr q9)
            refine lv_iconst (v := 2) hx hb dX7_passNumber_95 (by decide) ?_
            refine lv_goto (tgt := 100) hx hb dX7_passNumber_96 (by decide) ?_
            refine va_put (D := D) (ci := 7) (v := .int 2) (ty := .int) (C := RX7) (T := TX7) (N := 12) hx hb hts iw7 tyX7 tyX7_ok nmX7 hown hK hP hD hS 0 rfl rfl 2 (by decide) fw5 (fun _ h9 => h9) rfl (by decide +kernel) rfl rfl (Nat.le_of_ble_eq_true rfl) dX7_passNumber_100 (fun H locs hP hD hS => ?_)
            have hP : va_P D vwCl [(tx, .inr (7, [.ref bys, .int (nI ln), .int 2, .int (nI sta), .int (nI j91), .int (nI x19), .ref wo, .ref fs, .ref sc, .int tfi, .int tgl, .int tst])), (bys, .inl (y 1, 150, .inl fby))] H := hP
            have hD : va_D A [(tx, .inr (7, [.ref bys, .int (nI ln), .int 2, .int (nI sta), .int (nI j91), .int (nI x19), .ref wo, .ref fs, .ref sc, .int tfi, .int tgl, .int tst])), (bys, .inl (y 1, 150, .inl fby))] := hD
            exact W.vret hx hb hr (fun tZ ht hW => ⟨⟨(2, j91, (nI x19)), rfl, ⟨by first | omega | (dsimp only; omega), by first | omega | (dsimp only; omega), kz_Ts.mk (by rw [if_pos (by first | omega | (dsimp only; omega))]; rfl) (kz_Tn_f hlt hf1 (ks_s2 hI0_j91 h46) hI1_j91 (by first | omega | (dsimp only; omega)))⟩, by rw [ht]; exact hP.sub [0, 1] rfl, hD.sub [0, 1] (by decide) rfl⟩, hS.F ht⟩) hS.2.2 dX7_passNumber_103
  exact lp37 (ln + 1) sta 0 _ _ _ (by omega) (by omega) (by omega) (by omega) rfl ks_val0 (by omega) (by omega) hP hD hS (lv_sub hl [0] rfl)

set_option maxHeartbeats 4000000 in
set_option maxRecDepth 100000 in
theorem gs_passSign (l : Launch) (D : va_G) (y : Nat → ClassId) (tx : Nat) (bys : Nat) (wo : Nat) (fs : Nat) (sc : Nat) (ln : Nat) (sta : Nat) (tok : Int32) (num : Int32) (tfi : Int32) (tgl : Int32) (tst : Int32) (fby : Nat → Int32) (hln : ln ≤ 150) (hlt : sta < ln) (hl1 : ¬ ks_l (fby sta) = true) (hf1 : ¬ ks_f (fby sta) = true) : kw_Mv l yX7_passSign wsX7_passSign ({ frames := 1, cells := 0, slots := 0, locals := 60 }) D y [.ref tx] [(tx, .inr (7, [.ref bys, .int (nI ln), .int tok, .int (nI sta), .int (nI sta), .int num, .ref wo, .ref fs, .ref sc, .int tfi, .int tgl, .int tst])), (bys, .inl (y 1, 150, .inl fby))] (fun (u : Int32) => kz_Ts fby ln sta u (sta + 1) num) (fun u => [(tx, .inr (7, [.ref bys, .int (nI ln), .int u, .int (nI sta), .int (nI (sta + 1)), .int num, .ref wo, .ref fs, .ref sc, .int tfi, .int tgl, .int tst])), (bys, .inl (y 1, 150, .inl fby))]) 0 0 := by
  refine kw_Mv.of (cc := cX7_passSign) (maxL := 1) (ret := none) (by decide) rfl ?_
  intro pZ eZ s mZ beZ meZ cZ A hE
  obtain ⟨hx, hb, hr, hml, hts, hown, hlocks, hin, hA, hP, hD, hK, hN⟩ := hE
  have hS : va_S A s.heap s.heap [] := va_S.rf
  have hl := lv_entry ([.ref tx]) (n := 1) (Nat.le_of_ble_eq_true rfl)
  rw [lg_entry_eq]
  generalize (lg_sl ([.ref tx]) ++ List.replicate (1 - (lg_sl ([.ref tx])).length) Slot.unset).toArray = ls at hl ⊢
  have hl : lv_has ls 1 [(0, .ref tx)] := hl
  have fw1 := hts (.fieldLink RX7 9 "GleanDusk$Text" "bytes" "[B") (List.mem_of_getElem? (i := 1) rfl)
  have fw2 := hts (.fieldLink RX7 51 "GleanDusk$Text" "start" "I") (List.mem_of_getElem? (i := 2) rfl)
  have fw3 := hts (.fieldLink RX7 44 "GleanDusk$Text" "token" "I") (List.mem_of_getElem? (i := 3) rfl)
  have fw4 := hts (.fieldLink RX7 29 "GleanDusk$Text" "end" "I") (List.mem_of_getElem? (i := 4) rfl)
  have iw7 : ∀ w ∈ wsX70, w ∈ wsX7_passSign := fun _ h => List.mem_cons_of_mem _ (List.mem_append_right _ h)
  refine lv_aload_n hx hb dX7_passSign_0 rfl (lv_at hl 0 rfl) ?_
  refine lv_aload_n hx hb dX7_passSign_1 rfl (lv_at hl 0 rfl) ?_
  refine va_get (D := D) (ci := 7) (v := .ref bys) (C := RX7) (T := TX7) (N := 12) hx hb hts iw7 hown hK hP 0 rfl rfl 0 (by decide) fw1 (fun _ h9 => h9) rfl dX7_passSign_2 ?_
  refine lv_aload_n hx hb dX7_passSign_5 rfl (lv_at hl 0 rfl) ?_
  refine va_get (D := D) (ci := 7) (v := .int (nI sta)) (C := RX7) (T := TX7) (N := 12) hx hb hts iw7 hown hK hP 0 rfl rfl 3 (by decide) fw2 (fun _ h9 => h9) rfl dX7_passSign_6 ?_
  refine va_bald hx hb hK hP 1 1 rfl rfl (vp_in_nI (by omega) (by decide)) dX7_passSign_9 ?_
  rw [nI_clamp (n := sta) (by omega)]
  refine lv_bipush (v := 59) hx hb dX7_passSign_10 (by decide) ?_
  refine lv_icmp_ne (tgt := 19) hx hb dX7_passSign_12 (by decide) (fun h1 => ?_) (fun h2 => ?_)
  · skip
    refine lv_iconst (v := 4) hx hb dX7_passSign_19 (by decide) ?_
    refine va_put (D := D) (ci := 7) (v := .int 4) (ty := .int) (C := RX7) (T := TX7) (N := 12) hx hb hts iw7 tyX7 tyX7_ok nmX7 hown hK hP hD hS 0 rfl rfl 2 (by decide) fw3 (fun _ h9 => h9) rfl (by decide +kernel) rfl rfl (Nat.le_of_ble_eq_true rfl) dX7_passSign_20 (fun H locs hP hD hS => ?_)
    have hP : va_P D vwCl [(tx, .inr (7, [.ref bys, .int (nI ln), .int 4, .int (nI sta), .int (nI sta), .int num, .ref wo, .ref fs, .ref sc, .int tfi, .int tgl, .int tst])), (bys, .inl (y 1, 150, .inl fby))] H := hP
    have hD : va_D A [(tx, .inr (7, [.ref bys, .int (nI ln), .int 4, .int (nI sta), .int (nI sta), .int num, .ref wo, .ref fs, .ref sc, .int tfi, .int tgl, .int tst])), (bys, .inl (y 1, 150, .inl fby))] := hD
    refine lv_aload_n hx hb dX7_passSign_23 rfl (lv_at hl 0 rfl) ?_
    refine lv_dup hx hb dX7_passSign_24 rfl ?_
    refine va_get (D := D) (ci := 7) (v := .int (nI sta)) (C := RX7) (T := TX7) (N := 12) hx hb hts iw7 hown hK hP 0 rfl rfl 4 (by decide) fw4 (fun _ h9 => h9) rfl dX7_passSign_25 ?_
    refine lv_iconst (v := 1) hx hb dX7_passSign_28 (by decide) ?_
    refine lv_iadd hx hb dX7_passSign_29 ?_
    rw [show (nI sta) + 1 = nI (sta + 1) from nI_add sta 1]
    refine va_put (D := D) (ci := 7) (v := .int (nI (sta + 1))) (ty := .int) (C := RX7) (T := TX7) (N := 12) hx hb hts iw7 tyX7 tyX7_ok nmX7 hown hK hP hD hS 0 rfl rfl 4 (by decide) fw4 (fun _ h9 => h9) rfl (by decide +kernel) rfl rfl (Nat.le_of_ble_eq_true rfl) dX7_passSign_30 (fun H locs hP hD hS => ?_)
    have hP : va_P D vwCl [(tx, .inr (7, [.ref bys, .int (nI ln), .int 4, .int (nI sta), .int (nI (sta + 1)), .int num, .ref wo, .ref fs, .ref sc, .int tfi, .int tgl, .int tst])), (bys, .inl (y 1, 150, .inl fby))] H := hP
    have hD : va_D A [(tx, .inr (7, [.ref bys, .int (nI ln), .int 4, .int (nI sta), .int (nI (sta + 1)), .int num, .ref wo, .ref fs, .ref sc, .int tfi, .int tgl, .int tst])), (bys, .inl (y 1, 150, .inl fby))] := hD
    exact W.vret hx hb hr (fun tZ ht hW => ⟨⟨(4), rfl, kz_Ts.mk (k := 4) rfl (kz_Tn_s hlt hl1 hf1 (by rw [if_neg h1])), by rw [ht]; exact hP.sub [0, 1] rfl, hD.sub [0, 1] (by decide) rfl⟩, hS.F ht⟩) hS.2.2 dX7_passSign_33
  · skip
    refine lv_iconst (v := 3) hx hb dX7_passSign_15 (by decide) ?_
    refine lv_goto (tgt := 20) hx hb dX7_passSign_16 (by decide) ?_
    refine va_put (D := D) (ci := 7) (v := .int 3) (ty := .int) (C := RX7) (T := TX7) (N := 12) hx hb hts iw7 tyX7 tyX7_ok nmX7 hown hK hP hD hS 0 rfl rfl 2 (by decide) fw3 (fun _ h9 => h9) rfl (by decide +kernel) rfl rfl (Nat.le_of_ble_eq_true rfl) dX7_passSign_20 (fun H locs hP hD hS => ?_)
    have hP : va_P D vwCl [(tx, .inr (7, [.ref bys, .int (nI ln), .int 3, .int (nI sta), .int (nI sta), .int num, .ref wo, .ref fs, .ref sc, .int tfi, .int tgl, .int tst])), (bys, .inl (y 1, 150, .inl fby))] H := hP
    have hD : va_D A [(tx, .inr (7, [.ref bys, .int (nI ln), .int 3, .int (nI sta), .int (nI sta), .int num, .ref wo, .ref fs, .ref sc, .int tfi, .int tgl, .int tst])), (bys, .inl (y 1, 150, .inl fby))] := hD
    refine lv_aload_n hx hb dX7_passSign_23 rfl (lv_at hl 0 rfl) ?_
    refine lv_dup hx hb dX7_passSign_24 rfl ?_
    refine va_get (D := D) (ci := 7) (v := .int (nI sta)) (C := RX7) (T := TX7) (N := 12) hx hb hts iw7 hown hK hP 0 rfl rfl 4 (by decide) fw4 (fun _ h9 => h9) rfl dX7_passSign_25 ?_
    refine lv_iconst (v := 1) hx hb dX7_passSign_28 (by decide) ?_
    refine lv_iadd hx hb dX7_passSign_29 ?_
    rw [show (nI sta) + 1 = nI (sta + 1) from nI_add sta 1]
    refine va_put (D := D) (ci := 7) (v := .int (nI (sta + 1))) (ty := .int) (C := RX7) (T := TX7) (N := 12) hx hb hts iw7 tyX7 tyX7_ok nmX7 hown hK hP hD hS 0 rfl rfl 4 (by decide) fw4 (fun _ h9 => h9) rfl (by decide +kernel) rfl rfl (Nat.le_of_ble_eq_true rfl) dX7_passSign_30 (fun H locs hP hD hS => ?_)
    have hP : va_P D vwCl [(tx, .inr (7, [.ref bys, .int (nI ln), .int 3, .int (nI sta), .int (nI (sta + 1)), .int num, .ref wo, .ref fs, .ref sc, .int tfi, .int tgl, .int tst])), (bys, .inl (y 1, 150, .inl fby))] H := hP
    have hD : va_D A [(tx, .inr (7, [.ref bys, .int (nI ln), .int 3, .int (nI sta), .int (nI (sta + 1)), .int num, .ref wo, .ref fs, .ref sc, .int tfi, .int tgl, .int tst])), (bys, .inl (y 1, 150, .inl fby))] := hD
    exact W.vret hx hb hr (fun tZ ht hW => ⟨⟨(3), rfl, kz_Ts.mk (k := 3) rfl (kz_Tn_s hlt hl1 hf1 (by rw [if_pos h2])), by rw [ht]; exact hP.sub [0, 1] rfl, hD.sub [0, 1] (by decide) rfl⟩, hS.F ht⟩) hS.2.2 dX7_passSign_33
