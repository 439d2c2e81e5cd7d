set_option maxHeartbeats 4000000 in
set_option maxRecDepth 100000 in
theorem gq_places (l : Launch) (D : va_G) (y : Nat → ClassId) (mo : Nat) (to : Nat) (ke : Nat) (ik : Nat) (mrf : Nat) (ha : Nat) (r0 : Nat) (mbr : Nat) (mbp : Nat) (mby : Nat) (an : Nat) (va : Nat) (mab : Int64) (mbl : Int64) (bl : Nat) (ta : Nat) (tl : Nat) (tk : Nat) (vv : Int32) (frf : Nat → Int32) (ft : Nat → Int32) (fi : Nat) (gl : Nat) (mi : Nat) (no : Nat) (un : Nat) (fh : Nat → Int32) (fbp : Nat → Int32) (x : Int32) (x2 : Int32) (hk0_ : ft 0 = (nI fi)) (hk1_ : ft 1 = (nI gl)) (hk2_ : ft 2 = (nI mi)) (hk3_ : ft 3 = (nI no)) (hk4_ : ft 4 = (nI un)) (hkt : kr_t 228 ft) (hfi : fi ≤ 6) (hgl : gl ≤ 5) (hmi : mi ≤ 4) (hno : no ≤ 6) (hun : un ≤ 8) (hgf : (gl = 0 ∨ 0 < fi)) (hkh : kr_t 30 fh) : kw_Mi l yX11_places wsX11_places ({ frames := 7, cells := 0, slots := 0, locals := 199 }) D y [.ref mo, .int x, .int x2] [(mo, .inr (11, [.ref to, .ref ke, .ref ik, .ref mrf, .long mab, .long mbl, .ref ha, .ref r0, .ref mbr, .ref mbp, .ref mby, .int (nI bl), .int (nI ta), .int (nI tl), .int (nI tk), .int vv, .ref an, .ref va])), (mrf, .inl (y 0, 3, .inl frf)), (to, .inl (y 0, 228, .inl ft)), (ha, .inl (y 0, 30, .inl fh)), (mbp, .inl (y 0, 5, .inl fbp))] (fun (r : Int32) (u : (Nat → Int32) × (Nat → Int32) × (Nat → Int32)) => kr_t 30 u.2.1 ∧ (gl = 0 ∨ 0 < fi)) (fun u => [(mo, .inr (11, [.ref to, .ref ke, .ref ik, .ref mrf, .long mab, .long mbl, .ref ha, .ref r0, .ref mbr, .ref mbp, .ref mby, .int (nI bl), .int (nI ta), .int (nI tl), .int (nI tk), .int vv, .ref an, .ref va])), (mrf, .inl (y 0, 3, .inl u.1)), (to, .inl (y 0, 228, .inl ft)), (ha, .inl (y 0, 30, .inl u.2.1)), (mbp, .inl (y 0, 5, .inl u.2.2))]) 0 0 := by
  refine kw_Mi.of (cc := cX11_places) (maxL := 8) (ret := (some .int)) (by decide) rfl ?_
  intro pZ eZ s mZ beZ meZ cZ A hE
  obtain ⟨hx, hb, hr, hml, hts, hown, hlocks, hin, hA, hP, hD, hK, hN⟩ := hE
  have hS : va_S A s.heap s.heap [] := va_S.rf
  have hl := lv_entry ([.ref mo, .int x, .int x2]) (n := 8) (Nat.le_of_ble_eq_true rfl)
  rw [lg_entry_eq]
  generalize (lg_sl ([.ref mo, .int x, .int x2]) ++ List.replicate (8 - (lg_sl ([.ref mo, .int x, .int x2])).length) Slot.unset).toArray = ls at hl ⊢
  have hl : lv_has ls 8 [(0, .ref mo), (1, .int x), (2, .int x2)] := hl
  have fw1 := hts (.constantLong RX11 159 (-1)) (List.mem_of_getElem? (i := 1) rfl)
  have fw2 := hts (.fieldLink RX11 36 "GleanDuskModel" "bestPlaces" "[I") (List.mem_of_getElem? (i := 2) rfl)
  have fw3 := hts (.fieldLink RX11 27 "GleanDuskModel" "hand" "[I") (List.mem_of_getElem? (i := 3) rfl)
  have iw11 : ∀ w ∈ wsX110, w ∈ wsX11_places := fun _ h => List.mem_cons_of_mem _ (List.mem_append_right _ h)
  refine lv_iload_n hx hb dX11_places_0 rfl (lv_at hl 1 rfl) ?_
  refine lv_i2l (v := x.toInt64) hx hb dX11_places_1 (rfl) ?_
  refine lv_lconst (v := 0) hx hb dX11_places_2 (by decide) ?_
  refine lv_lconst (v := 1) hx hb dX11_places_3 (by decide) ?_
  have hs1 : kw_Split [(mo, .inr (11, [.ref to, .ref ke, .ref ik, .ref mrf, .long mab, .long mbl, .ref ha, .ref r0, .ref mbr, .ref mbp, .ref mby, .int (nI bl), .int (nI ta), .int (nI tl), .int (nI tk), .int vv, .ref an, .ref va])), (mrf, .inl (y 0, 3, .inl frf)), (to, .inl (y 0, 228, .inl ft)), (ha, .inl (y 0, 30, .inl fh)), (mbp, .inl (y 0, 5, .inl fbp))] [] [(mo, .inr (11, [.ref to, .ref ke, .ref ik, .ref mrf, .long mab, .long mbl, .ref ha, .ref r0, .ref mbr, .ref mbp, .ref mby, .int (nI bl), .int (nI ta), .int (nI tl), .int (nI tk), .int vv, .ref an, .ref va])), (mrf, .inl (y 0, 3, .inl frf)), (to, .inl (y 0, 228, .inl ft)), (ha, .inl (y 0, 30, .inl fh)), (mbp, .inl (y 0, 5, .inl fbp))] [] [0, 1, 2, 3, 4] := ⟨rfl, rfl, rfl, rfl, rfl, by decide⟩
  refine kw_go_i hs1 hP hD hS hA (va_runS (As := [.long x.toInt64, .long 0, .long 1]) (rest := []) ⟨hx, hb, hml, hown, hts⟩ (gr_in l D y x 0 1 (by omega) (by omega) _) (va_cwS 3 hts gX11_places_X11_in rfl rfl rfl (by decide +kernel) ⟨Nat.le_of_ble_eq_true rfl, Nat.le_of_ble_eq_true rfl⟩) (kw_PreS hs1 hP hD hK hN) rfl rfl hl.1 rfl (lv_room (Nat.le_of_ble_eq_true rfl)) dX11_places_4 ⟨Nat.le_of_ble_eq_true rfl, Nat.le_of_ble_eq_true rfl⟩) (fun r2 u3 H locs hq hP hD hS => ?_)
  rcases hq with ⟨j4, h5, h6, rfl, rfl⟩ | ⟨h7, rfl⟩
  · skip
    have hP : va_P D vwCl [(mo, .inr (11, [.ref to, .ref ke, .ref ik, .ref mrf, .long mab, .long mbl, .ref ha, .ref r0, .ref mbr, .ref mbp, .ref mby, .int (nI bl), .int (nI ta), .int (nI tl), .int (nI tk), .int vv, .ref an, .ref va])), (mrf, .inl (y 0, 3, .inl frf)), (to, .inl (y 0, 228, .inl ft)), (ha, .inl (y 0, 30, .inl fh)), (mbp, .inl (y 0, 5, .inl fbp))] H := hP
    have hD : va_D A [(mo, .inr (11, [.ref to, .ref ke, .ref ik, .ref mrf, .long mab, .long mbl, .ref ha, .ref r0, .ref mbr, .ref mbp, .ref mby, .int (nI bl), .int (nI ta), .int (nI tl), .int (nI tk), .int vv, .ref an, .ref va])), (mrf, .inl (y 0, 3, .inl frf)), (to, .inl (y 0, 228, .inl ft)), (ha, .inl (y 0, 30, .inl fh)), (mbp, .inl (y 0, 5, .inl fbp))] := hD
    refine lv_if_eq (tgt := 28) hx hb dX11_places_7 (by decide) (fun h9 => absurd h9 (by decide)) (fun _ => ?_)
    refine lv_iload_n hx hb dX11_places_10 rfl (lv_at hl 2 rfl) ?_
    refine lv_i2l (v := x2.toInt64) hx hb dX11_places_11 (rfl) ?_
    refine lv_ldc2 (v := (-1)) hx hb hown fw1 dX11_places_12 ?_
    refine lv_aload_n hx hb dX11_places_15 rfl (lv_at hl 0 rfl) ?_
    have hs8 : kw_Split [(mo, .inr (11, [.ref to, .ref ke, .ref ik, .ref mrf, .long mab, .long mbl, .ref ha, .ref r0, .ref mbr, .ref mbp, .ref mby, .int (nI bl), .int (nI ta), .int (nI tl), .int (nI tk), .int vv, .ref an, .ref va])), (mrf, .inl (y 0, 3, .inl frf)), (to, .inl (y 0, 228, .inl ft)), (ha, .inl (y 0, 30, .inl fh)), (mbp, .inl (y 0, 5, .inl fbp))] [(mo, .inr (11, [.ref to, .ref ke, .ref ik, .ref mrf, .long mab, .long mbl, .ref ha, .ref r0, .ref mbr, .ref mbp, .ref mby, .int (nI bl), .int (nI ta), .int (nI tl), .int (nI tk), .int vv, .ref an, .ref va])), (to, .inl (y 0, 228, .inl ft))] [(mrf, .inl (y 0, 3, .inl frf)), (ha, .inl (y 0, 30, .inl fh)), (mbp, .inl (y 0, 5, .inl fbp))] [0, 2] [1, 3, 4] := ⟨rfl, rfl, rfl, rfl, rfl, by decide⟩
    refine kw_go_i hs8 hP hD hS hA (va_runV (As := []) (rest := [.long (-1), .long x2.toInt64]) ⟨hx, hb, hml, hown, hts⟩ (gr_manyGleaners l D y mo to ke ik mrf ha r0 mbr mbp mby an va mab mbl bl ta tl tk vv ft fi gl mi no un hk0_ hk1_ hk2_ hk3_ hk4_ hkt hfi hgl hmi hno hun _) (cwV 0 hts gX11_places_X11_manyGleaners rfl rfl rfl (by decide +kernel) ⟨Nat.le_of_ble_eq_true rfl, Nat.le_of_ble_eq_true rfl⟩) (kw_PreV (ci := 11) (q0 := 0) hs8 hP hD hK hN rfl rfl) rfl rfl hl.1 rfl (lv_room (Nat.le_of_ble_eq_true rfl)) dX11_places_16 ⟨Nat.le_of_ble_eq_true rfl, Nat.le_of_ble_eq_true rfl⟩) (fun r9 u10 H locs hq hP hD hS => ?_)
    obtain rfl := hq
    have hP : va_P D vwCl [(mrf, .inl (y 0, 3, .inl frf)), (ha, .inl (y 0, 30, .inl fh)), (mbp, .inl (y 0, 5, .inl fbp)), (mo, .inr (11, [.ref to, .ref ke, .ref ik, .ref mrf, .long mab, .long mbl, .ref ha, .ref r0, .ref mbr, .ref mbp, .ref mby, .int (nI bl), .int (nI ta), .int (nI tl), .int (nI tk), .int vv, .ref an, .ref va])), (to, .inl (y 0, 228, .inl ft))] H := hP
    have hD : va_D A [(mrf, .inl (y 0, 3, .inl frf)), (ha, .inl (y 0, 30, .inl fh)), (mbp, .inl (y 0, 5, .inl fbp)), (mo, .inr (11, [.ref to, .ref ke, .ref ik, .ref mrf, .long mab, .long mbl, .ref ha, .ref r0, .ref mbr, .ref mbp, .ref mby, .int (nI bl), .int (nI ta), .int (nI tl), .int (nI tk), .int vv, .ref an, .ref va])), (to, .inl (y 0, 228, .inl ft))] := hD
    refine lv_iconst (v := 1) hx hb dX11_places_19 (by decide) ?_
    refine lv_isub hx hb dX11_places_20 ?_
    refine lv_i2l (v := ((nI gl) - 1).toInt64) hx hb dX11_places_21 (rfl) ?_
    have hs11 : kw_Split [(mrf, .inl (y 0, 3, .inl frf)), (ha, .inl (y 0, 30, .inl fh)), (mbp, .inl (y 0, 5, .inl fbp)), (mo, .inr (11, [.ref to, .ref ke, .ref ik, .ref mrf, .long mab, .long mbl, .ref ha, .ref r0, .ref mbr, .ref mbp, .ref mby, .int (nI bl), .int (nI ta), .int (nI tl), .int (nI tk), .int vv, .ref an, .ref va])), (to, .inl (y 0, 228, .inl ft))] [] [(mrf, .inl (y 0, 3, .inl frf)), (ha, .inl (y 0, 30, .inl fh)), (mbp, .inl (y 0, 5, .inl fbp)), (mo, .inr (11, [.ref to, .ref ke, .ref ik, .ref mrf, .long mab, .long mbl, .ref ha, .ref r0, .ref mbr, .ref mbp, .ref mby, .int (nI bl), .int (nI ta), .int (nI tl), .int (nI tk), .int vv, .ref an, .ref va])), (to, .inl (y 0, 228, .inl ft))] [] [0, 1, 2, 3, 4] := ⟨rfl, rfl, rfl, rfl, rfl, by decide⟩
    refine kw_go_i hs11 hP hD hS hA (va_runS (As := [.long x2.toInt64, .long (-1), .long (((nI gl) - 1).toInt64)]) (rest := []) ⟨hx, hb, hml, hown, hts⟩ (gr_inM l D y x2 gl (by omega) _) (va_cwS 3 hts gX11_places_X11_in rfl rfl rfl (by decide +kernel) ⟨Nat.le_of_ble_eq_true rfl, Nat.le_of_ble_eq_true rfl⟩) (kw_PreS hs11 hP hD hK hN) rfl rfl hl.1 rfl (lv_room (Nat.le_of_ble_eq_true rfl)) dX11_places_22 ⟨Nat.le_of_ble_eq_true rfl, Nat.le_of_ble_eq_true rfl⟩) (fun r12 u13 H locs hq hP hD hS => ?_)
    rcases hq with ⟨h14, rfl⟩ | rfl
    · skip
      have hP : va_P D vwCl [(mrf, .inl (y 0, 3, .inl frf)), (ha, .inl (y 0, 30, .inl fh)), (mbp, .inl (y 0, 5, .inl fbp)), (mo, .inr (11, [.ref to, .ref ke, .ref ik, .ref mrf, .long mab, .long mbl, .ref ha, .ref r0, .ref mbr, .ref mbp, .ref mby, .int (nI bl), .int (nI ta), .int (nI tl), .int (nI tk), .int vv, .ref an, .ref va])), (to, .inl (y 0, 228, .inl ft))] H := hP
      have hD : va_D A [(mrf, .inl (y 0, 3, .inl frf)), (ha, .inl (y 0, 30, .inl fh)), (mbp, .inl (y 0, 5, .inl fbp)), (mo, .inr (11, [.ref to, .ref ke, .ref ik, .ref mrf, .long mab, .long mbl, .ref ha, .ref r0, .ref mbr, .ref mbp, .ref mby, .int (nI bl), .int (nI ta), .int (nI tl), .int (nI tk), .int vv, .ref an, .ref va])), (to, .inl (y 0, 228, .inl ft))] := hD
      refine lv_if_ne (tgt := 35) hx hb dX11_places_25 (by decide) (fun _ => ?_) (fun h9 => absurd h9 (by decide))
      rcases h14 with rfl | ⟨j15, h16, rfl⟩
      · skip
        refine lv_iconst (v := 1) hx hb dX11_places_35 (by decide) ?_
        refine lv_istore_n (lv' := [(3, .int 1), (0, .ref mo), (1, .int (nI j4)), (2, .int (-1))]) hx hb dX11_places_36 rfl hl (by decide) rfl (fun ls hl => ?_)
        refine lv_aload_n hx hb dX11_places_37 rfl (lv_at hl 1 rfl) ?_
        have hs17 : kw_Split [(mrf, .inl (y 0, 3, .inl frf)), (ha, .inl (y 0, 30, .inl fh)), (mbp, .inl (y 0, 5, .inl fbp)), (mo, .inr (11, [.ref to, .ref ke, .ref ik, .ref mrf, .long mab, .long mbl, .ref ha, .ref r0, .ref mbr, .ref mbp, .ref mby, .int (nI bl), .int (nI ta), .int (nI tl), .int (nI tk), .int vv, .ref an, .ref va])), (to, .inl (y 0, 228, .inl ft))] [(mo, .inr (11, [.ref to, .ref ke, .ref ik, .ref mrf, .long mab, .long mbl, .ref ha, .ref r0, .ref mbr, .ref mbp, .ref mby, .int (nI bl), .int (nI ta), .int (nI tl), .int (nI tk), .int vv, .ref an, .ref va])), (to, .inl (y 0, 228, .inl ft))] [(mrf, .inl (y 0, 3, .inl frf)), (ha, .inl (y 0, 30, .inl fh)), (mbp, .inl (y 0, 5, .inl fbp))] [3, 4] [0, 1, 2] := ⟨rfl, rfl, rfl, rfl, rfl, by decide⟩
        refine kw_go_i hs17 hP hD hS hA (va_runV (As := []) (rest := []) ⟨hx, hb, hml, hown, hts⟩ (gr_manyGleaners l D y mo to ke ik mrf ha r0 mbr mbp mby an va mab mbl bl ta tl tk vv ft fi gl mi no un hk0_ hk1_ hk2_ hk3_ hk4_ hkt hfi hgl hmi hno hun _) (cwV 0 hts gX11_places_X11_manyGleaners rfl rfl rfl (by decide +kernel) ⟨Nat.le_of_ble_eq_true rfl, Nat.le_of_ble_eq_true rfl⟩) (kw_PreV (ci := 11) (q0 := 3) hs17 hP hD hK hN rfl rfl) rfl rfl hl.1 rfl (lv_room (Nat.le_of_ble_eq_true rfl)) dX11_places_38 ⟨Nat.le_of_ble_eq_true rfl, Nat.le_of_ble_eq_true rfl⟩) (fun r18 u19 H locs hq hP hD hS => ?_)
        obtain rfl := hq
        have hP : va_P D vwCl [(mrf, .inl (y 0, 3, .inl frf)), (ha, .inl (y 0, 30, .inl fh)), (mbp, .inl (y 0, 5, .inl fbp)), (mo, .inr (11, [.ref to, .ref ke, .ref ik, .ref mrf, .long mab, .long mbl, .ref ha, .ref r0, .ref mbr, .ref mbp, .ref mby, .int (nI bl), .int (nI ta), .int (nI tl), .int (nI tk), .int vv, .ref an, .ref va])), (to, .inl (y 0, 228, .inl ft))] H := hP
        have hD : va_D A [(mrf, .inl (y 0, 3, .inl frf)), (ha, .inl (y 0, 30, .inl fh)), (mbp, .inl (y 0, 5, .inl fbp)), (mo, .inr (11, [.ref to, .ref ke, .ref ik, .ref mrf, .long mab, .long mbl, .ref ha, .ref r0, .ref mbr, .ref mbp, .ref mby, .int (nI bl), .int (nI ta), .int (nI tl), .int (nI tk), .int vv, .ref an, .ref va])), (to, .inl (y 0, 228, .inl ft))] := hD
        refine lv_if_ne (tgt := 48) hx hb dX11_places_41 (by decide) (fun h20 => ?_) (fun h21 => ?_)
        · skip
          have h20 : ¬ gl = 0 := fun q9 => h20 ((nI_eq (a := gl) (b := 0) (by omega) (by omega)).mpr q9)
          refine lv_iconst (v := (-1)) hx hb dX11_places_48 (by decide) ?_
          refine lv_istore (lv' := [(4, .int (-1)), (3, .int 1), (0, .ref mo), (1, .int (nI j4)), (2, .int (-1))]) hx hb dX11_places_49 hl (by decide) rfl (fun ls hl => ?_)
          refine lv_aload_n hx hb dX11_places_51 rfl (lv_at hl 2 rfl) ?_
          have hs22 : kw_Split [(mrf, .inl (y 0, 3, .inl frf)), (ha, .inl (y 0, 30, .inl fh)), (mbp, .inl (y 0, 5, .inl fbp)), (mo, .inr (11, [.ref to, .ref ke, .ref ik, .ref mrf, .long mab, .long mbl, .ref ha, .ref r0, .ref mbr, .ref mbp, .ref mby, .int (nI bl), .int (nI ta), .int (nI tl), .int (nI tk), .int vv, .ref an, .ref va])), (to, .inl (y 0, 228, .inl ft))] [(mo, .inr (11, [.ref to, .ref ke, .ref ik, .ref mrf, .long mab, .long mbl, .ref ha, .ref r0, .ref mbr, .ref mbp, .ref mby, .int (nI bl), .int (nI ta), .int (nI tl), .int (nI tk), .int vv, .ref an, .ref va])), (to, .inl (y 0, 228, .inl ft)), (ha, .inl (y 0, 30, .inl fh))] [(mrf, .inl (y 0, 3, .inl frf)), (mbp, .inl (y 0, 5, .inl fbp))] [3, 4, 1] [0, 2] := ⟨rfl, rfl, rfl, rfl, rfl, by decide⟩
          refine kw_go_v hs22 hP hD hS hA (va_runV (As := []) (rest := []) ⟨hx, hb, hml, hown, hts⟩ (gr_layHand l D y mo to ke ik mrf ha r0 mbr mbp mby an va mab mbl bl ta tl tk vv ft fi gl mi no un fh hk0_ hk1_ hk2_ hk3_ hk4_ hkt hfi hgl hmi hno hun hkh _) (cwV 0 hts gX11_places_X11_layHand rfl rfl rfl (by decide +kernel) ⟨Nat.le_of_ble_eq_true rfl, Nat.le_of_ble_eq_true rfl⟩) (kw_PreV (ci := 11) (q0 := 3) hs22 hP hD hK hN rfl rfl) rfl rfl hl.1 rfl (lv_room (Nat.le_of_ble_eq_true rfl)) dX11_places_52 ⟨Nat.le_of_ble_eq_true rfl, Nat.le_of_ble_eq_true rfl⟩) (fun u24 H locs hq hP hD hS => ?_)
          have h25 := hq
          have hk26 : (kr_cp fh ft 30) 0 = (nI fi) := ((kr_cp_lt (by decide)).trans hk0_)
          have hk27 : (kr_cp fh ft 30) 1 = (nI gl) := ((kr_cp_lt (by decide)).trans hk1_)
          have hP : va_P D vwCl [(mrf, .inl (y 0, 3, .inl frf)), (mbp, .inl (y 0, 5, .inl fbp)), (mo, .inr (11, [.ref to, .ref ke, .ref ik, .ref mrf, .long mab, .long mbl, .ref ha, .ref r0, .ref mbr, .ref mbp, .ref mby, .int (nI bl), .int (nI ta), .int (nI tl), .int (nI tk), .int vv, .ref an, .ref va])), (to, .inl (y 0, 228, .inl ft)), (ha, .inl (y 0, 30, .inl (kr_cp fh ft 30)))] H := hP
          have hD : va_D A [(mrf, .inl (y 0, 3, .inl frf)), (mbp, .inl (y 0, 5, .inl fbp)), (mo, .inr (11, [.ref to, .ref ke, .ref ik, .ref mrf, .long mab, .long mbl, .ref ha, .ref r0, .ref mbr, .ref mbp, .ref mby, .int (nI bl), .int (nI ta), .int (nI tl), .int (nI tk), .int vv, .ref an, .ref va])), (to, .inl (y 0, 228, .inl ft)), (ha, .inl (y 0, 30, .inl (kr_cp fh ft 30)))] := hD
          refine lv_iconst (v := 0) hx hb dX11_places_55 (by decide) ?_
          refine lv_istore (lv' := [(5, .int 0), (4, .int (-1)), (3, .int 1), (0, .ref mo), (1, .int (nI j4)), (2, .int (-1))]) hx hb dX11_places_56 hl (by decide) rfl (fun ls hl => ?_)
          have lp405 : ∀ (fuj91 j91 : Nat) (x214 : Int32) (H : Heap) (locs : List Loc) (ls : Array Slot), j91 ≤ gl → gl - j91 < fuj91 → va_P D vwCl [(mrf, .inl (y 0, 3, .inl frf)), (mbp, .inl (y 0, 5, .inl fbp)), (mo, .inr (11, [.ref to, .ref ke, .ref ik, .ref mrf, .long mab, .long mbl, .ref ha, .ref r0, .ref mbr, .ref mbp, .ref mby, .int (nI bl), .int (nI ta), .int (nI tl), .int (nI tk), .int vv, .ref an, .ref va])), (to, .inl (y 0, 228, .inl ft)), (ha, .inl (y 0, 30, .inl (kr_cp fh ft 30)))] H → va_D A [(mrf, .inl (y 0, 3, .inl frf)), (mbp, .inl (y 0, 5, .inl fbp)), (mo, .inr (11, [.ref to, .ref ke, .ref ik, .ref mrf, .long mab, .long mbl, .ref ha, .ref r0, .ref mbr, .ref mbp, .ref mby, .int (nI bl), .int (nI ta), .int (nI tl), .int (nI tk), .int vv, .ref an, .ref va])), (to, .inl (y 0, 228, .inl ft)), (ha, .inl (y 0, 30, .inl (kr_cp fh ft 30)))] → va_S A s.heap H locs → lv_has ls 8 [(5, .int (nI j91)), (4, .int (-1)), (3, .int x214), (0, .ref mo), (1, .int (nI j4)), (2, .int (-1))] → W pZ l eZ ({ frames := 7, cells := 0, slots := 0, locals := 199 }) s mZ [.ref mo, .int (nI j4), .int (-1)].toArray beZ meZ cZ H locs 0 0 (MQ beZ (va_Qi (fun (r : Int32) (u : (Nat → Int32) × (Nat → Int32) × (Nat → Int32)) => kr_t 30 u.2.1 ∧ (gl = 0 ∨ 0 < fi)) (kw_B D (fun u => [(mo, .inr (11, [.ref to, .ref ke, .ref ik, .ref mrf, .long mab, .long mbl, .ref ha, .ref r0, .ref mbr, .ref mbp, .ref mby, .int (nI bl), .int (nI ta), .int (nI tl), .int (nI tk), .int vv, .ref an, .ref va])), (mrf, .inl (y 0, 3, .inl u.1)), (to, .inl (y 0, 228, .inl ft)), (ha, .inl (y 0, 30, .inl u.2.1)), (mbp, .inl (y 0, 5, .inl u.2.2))]) A) A) [.ref mo, .int (nI j4), .int (-1)].toArray s 0 0 A) (F0 mZ 58 ls []) := by
            intro fuj91
            induction fuj91 with
            | zero => intro j91 x214 H locs ls hj9 hf9; exact absurd hf9 (Nat.not_lt_zero _)
            | succ fuj91 ihj91 =>
              intro j91 x214 H locs ls hj91 hfj91  hP hD hS hl
              refine lv_iload hx hb dX11_places_58 (lv_at hl 0 rfl) ?_
              refine lv_aload_n hx hb dX11_places_60 rfl (lv_at hl 3 rfl) ?_
              have hs406 : kw_Split [(mrf, .inl (y 0, 3, .inl frf)), (mbp, .inl (y 0, 5, .inl fbp)), (mo, .inr (11, [.ref to, .ref ke, .ref ik, .ref mrf, .long mab, .long mbl, .ref ha, .ref r0, .ref mbr, .ref mbp, .ref mby, .int (nI bl), .int (nI ta), .int (nI tl), .int (nI tk), .int vv, .ref an, .ref va])), (to, .inl (y 0, 228, .inl ft)), (ha, .inl (y 0, 30, .inl (kr_cp fh ft 30)))] [(mo, .inr (11, [.ref to, .ref ke, .ref ik, .ref mrf, .long mab, .long mbl, .ref ha, .ref r0, .ref mbr, .ref mbp, .ref mby, .int (nI bl), .int (nI ta), .int (nI tl), .int (nI tk), .int vv, .ref an, .ref va])), (to, .inl (y 0, 228, .inl ft))] [(mrf, .inl (y 0, 3, .inl frf)), (mbp, .inl (y 0, 5, .inl fbp)), (ha, .inl (y 0, 30, .inl (kr_cp fh ft 30)))] [2, 3] [0, 1, 4] := ⟨rfl, rfl, rfl, rfl, rfl, by decide⟩
              refine kw_go_i hs406 hP hD hS hA (va_runV (As := []) (rest := [.int (nI j91)]) ⟨hx, hb, hml, hown, hts⟩ (gr_manyGleaners l D y mo to ke ik mrf ha r0 mbr mbp mby an va mab mbl bl ta tl tk vv ft fi gl mi no un hk0_ hk1_ hk2_ hk3_ hk4_ hkt hfi hgl hmi hno hun _) (cwV 0 hts gX11_places_X11_manyGleaners rfl rfl rfl (by decide +kernel) ⟨Nat.le_of_ble_eq_true rfl, Nat.le_of_ble_eq_true rfl⟩) (kw_PreV (ci := 11) (q0 := 2) hs406 hP hD hK hN rfl rfl) rfl rfl hl.1 rfl (lv_room (Nat.le_of_ble_eq_true rfl)) dX11_places_61 ⟨Nat.le_of_ble_eq_true rfl, Nat.le_of_ble_eq_true rfl⟩) (fun r407 u408 H locs hq hP hD hS => ?_)
              obtain rfl := hq
              have hP : va_P D vwCl [(mrf, .inl (y 0, 3, .inl frf)), (mbp, .inl (y 0, 5, .inl fbp)), (ha, .inl (y 0, 30, .inl (kr_cp fh ft 30))), (mo, .inr (11, [.ref to, .ref ke, .ref ik, .ref mrf, .long mab, .long mbl, .ref ha, .ref r0, .ref mbr, .ref mbp, .ref mby, .int (nI bl), .int (nI ta), .int (nI tl), .int (nI tk), .int vv, .ref an, .ref va])), (to, .inl (y 0, 228, .inl ft))] H := hP
              have hD : va_D A [(mrf, .inl (y 0, 3, .inl frf)), (mbp, .inl (y 0, 5, .inl fbp)), (ha, .inl (y 0, 30, .inl (kr_cp fh ft 30))), (mo, .inr (11, [.ref to, .ref ke, .ref ik, .ref mrf, .long mab, .long mbl, .ref ha, .ref r0, .ref mbr, .ref mbp, .ref mby, .int (nI bl), .int (nI ta), .int (nI tl), .int (nI tk), .int vv, .ref an, .ref va])), (to, .inl (y 0, 228, .inl ft))] := hD
              refine lv_icmp_ge (tgt := 80) hx hb dX11_places_64 (by decide) (fun h409 => ?_) (fun h410 => ?_)
              · skip
                have h409 : gl ≤ j91 := (nI_leI (a := gl) (b := j91) (by omega) (by omega)).mp h409
                rcases kw_nn x214 with h411 | ⟨NN, hNN, rfl⟩
                · skip
                  have h412 : x214 ≤ 0 := Int32.le_of_lt h411
                  refine lv_iconst (v := 0) hx hb dX11_places_80 (by decide) ?_
                  refine lv_istore (lv' := [(5, .int 0), (4, .int (-1)), (3, .int x214), (0, .ref mo), (1, .int (nI j4)), (2, .int (-1))]) hx hb dX11_places_81 hl (by decide) rfl (fun ls hl => ?_)
                  refine lv_iload hx hb dX11_places_83 (lv_at hl 0 rfl) ?_
                  refine lv_iload_n hx hb dX11_places_85 rfl (lv_at hl 2 rfl) ?_
                  refine lv_icmp_ge (tgt := 169) hx hb dX11_places_86 (by decide) (fun h413 => ?_) (fun h414 => ?_)
                  · skip
                    refine lv_iload_n hx hb dX11_places_169 rfl (lv_at hl 5 rfl) ?_
                    refine lv_iconst (v := (-1)) hx hb dX11_places_170 (by decide) ?_
                    refine lv_icmp_ne (tgt := 179) hx hb dX11_places_171 (by decide) (fun h9 => absurd h9 (by decide)) (fun _ => ?_)
                    refine lv_iload hx hb dX11_places_174 (lv_at hl 1 rfl) ?_
                    refine lv_goto (tgt := 185) hx hb dX11_places_176 (by decide) ?_
                    exact W.iret (v := (-1)) hx hb hr (fun tZ ht hW => ⟨⟨(-1), (frf, (kr_cp fh ft 30), fbp), rfl, ⟨h25, by first | omega | (dsimp only; omega)⟩, by rw [ht]; exact hP.sub [3, 0, 4, 2, 1] rfl, hD.sub [3, 0, 4, 2, 1] (by decide) rfl⟩, hS.F ht⟩) hS.2.2 dX11_places_185
                  · skip
                    exact absurd h412 h414
                · skip
                  refine lv_iconst (v := 0) hx hb dX11_places_80 (by decide) ?_
                  refine lv_istore (lv' := [(5, .int 0), (4, .int (-1)), (3, .int (nI NN)), (0, .ref mo), (1, .int (nI j4)), (2, .int (-1))]) hx hb dX11_places_81 hl (by decide) rfl (fun ls hl => ?_)
                  have lp534 : ∀ (fuj92 j92 : Nat) (x473 : Nat → Int32) (x474 : Int32) (x475 : Nat → Int32) (H : Heap) (locs : List Loc) (ls : Array Slot), j92 ≤ NN → NN - j92 < fuj92 → kr_t 30 x473 → x473 0 = (nI fi) → x473 1 = (nI gl) → va_P D vwCl [(mrf, .inl (y 0, 3, .inl frf)), (mbp, .inl (y 0, 5, .inl x475)), (ha, .inl (y 0, 30, .inl x473)), (mo, .inr (11, [.ref to, .ref ke, .ref ik, .ref mrf, .long mab, .long mbl, .ref ha, .ref r0, .ref mbr, .ref mbp, .ref mby, .int (nI bl), .int (nI ta), .int (nI tl), .int (nI tk), .int vv, .ref an, .ref va])), (to, .inl (y 0, 228, .inl ft))] H → va_D A [(mrf, .inl (y 0, 3, .inl frf)), (mbp, .inl (y 0, 5, .inl x475)), (ha, .inl (y 0, 30, .inl x473)), (mo, .inr (11, [.ref to, .ref ke, .ref ik, .ref mrf, .long mab, .long mbl, .ref ha, .ref r0, .ref mbr, .ref mbp, .ref mby, .int (nI bl), .int (nI ta), .int (nI tl), .int (nI tk), .int vv, .ref an, .ref va])), (to, .inl (y 0, 228, .inl ft))] → va_S A s.heap H locs → lv_has ls 8 [(5, .int (nI j92)), (4, .int x474), (3, .int (nI NN)), (0, .ref mo), (1, .int (nI j4)), (2, .int (-1))] → W pZ l eZ ({ frames := 7, cells := 0, slots := 0, locals := 199 }) s mZ [.ref mo, .int (nI j4), .int (-1)].toArray beZ meZ cZ H locs 0 0 (MQ beZ (va_Qi (fun (r : Int32) (u : (Nat → Int32) × (Nat → Int32) × (Nat → Int32)) => kr_t 30 u.2.1 ∧ (gl = 0 ∨ 0 < fi)) (kw_B D (fun u => [(mo, .inr (11, [.ref to, .ref ke, .ref ik, .ref mrf, .long mab, .long mbl, .ref ha, .ref r0, .ref mbr, .ref mbp, .ref mby, .int (nI bl), .int (nI ta), .int (nI tl), .int (nI tk), .int vv, .ref an, .ref va])), (mrf, .inl (y 0, 3, .inl u.1)), (to, .inl (y 0, 228, .inl ft)), (ha, .inl (y 0, 30, .inl u.2.1)), (mbp, .inl (y 0, 5, .inl u.2.2))]) A) A) [.ref mo, .int (nI j4), .int (-1)].toArray s 0 0 A) (F0 mZ 83 ls []) := by
                    intro fuj92
                    induction fuj92 with
                    | zero => intro j92 x473 x474 x475 H locs ls hj9 hf9; exact absurd hf9 (Nat.not_lt_zero _)
                    | succ fuj92 ihj92 =>
                      intro j92 x473 x474 x475 H locs ls hj92 hfj92 hr_x473 hk_x473_0 hk_x473_1 hP hD hS hl
                      refine lv_iload hx hb dX11_places_83 (lv_at hl 0 rfl) ?_
                      refine lv_iload_n hx hb dX11_places_85 rfl (lv_at hl 2 rfl) ?_
                      refine lv_icmp_ge (tgt := 169) hx hb dX11_places_86 (by decide) (fun h535 => ?_) (fun h536 => ?_)
                      · skip
                        have h535 : NN ≤ j92 := (nI_leI (a := NN) (b := j92) (by omega) (by omega)).mp h535
                        refine lv_iload_n hx hb dX11_places_169 rfl (lv_at hl 5 rfl) ?_
                        refine lv_iconst (v := (-1)) hx hb dX11_places_170 (by decide) ?_
                        refine lv_icmp_ne (tgt := 179) hx hb dX11_places_171 (by decide) (fun h9 => absurd h9 (by decide)) (fun _ => ?_)
                        refine lv_iload hx hb dX11_places_174 (lv_at hl 1 rfl) ?_
                        refine lv_goto (tgt := 185) hx hb dX11_places_176 (by decide) ?_
                        exact W.iret (v := x474) hx hb hr (fun tZ ht hW => ⟨⟨x474, (frf, x473, x475), rfl, ⟨hr_x473, by first | omega | (dsimp only; omega)⟩, by rw [ht]; exact hP.sub [3, 0, 4, 2, 1] rfl, hD.sub [3, 0, 4, 2, 1] (by decide) rfl⟩, hS.F ht⟩) hS.2.2 dX11_places_185
                      · skip
                        have h536 : ¬ NN ≤ j92 := fun q9 => h536 ((nI_leI (a := NN) (b := j92) (by omega) (by omega)).mpr q9)
                        refine lv_aload_n hx hb dX11_places_89 rfl (lv_at hl 3 rfl) ?_
                        have hs537 : kw_Split [(mrf, .inl (y 0, 3, .inl frf)), (mbp, .inl (y 0, 5, .inl x475)), (ha, .inl (y 0, 30, .inl x473)), (mo, .inr (11, [.ref to, .ref ke, .ref ik, .ref mrf, .long mab, .long mbl, .ref ha, .ref r0, .ref mbr, .ref mbp, .ref mby, .int (nI bl), .int (nI ta), .int (nI tl), .int (nI tk), .int vv, .ref an, .ref va])), (to, .inl (y 0, 228, .inl ft))] [(mo, .inr (11, [.ref to, .ref ke, .ref ik, .ref mrf, .long mab, .long mbl, .ref ha, .ref r0, .ref mbr, .ref mbp, .ref mby, .int (nI bl), .int (nI ta), .int (nI tl), .int (nI tk), .int vv, .ref an, .ref va])), (to, .inl (y 0, 228, .inl ft))] [(mrf, .inl (y 0, 3, .inl frf)), (mbp, .inl (y 0, 5, .inl x475)), (ha, .inl (y 0, 30, .inl x473))] [3, 4] [0, 1, 2] := ⟨rfl, rfl, rfl, rfl, rfl, by decide⟩
                        refine kw_go_i hs537 hP hD hS hA (va_runV (As := []) (rest := []) ⟨hx, hb, hml, hown, hts⟩ (gr_manyGleaners l D y mo to ke ik mrf ha r0 mbr mbp mby an va mab mbl bl ta tl tk vv ft fi gl mi no un hk0_ hk1_ hk2_ hk3_ hk4_ hkt hfi hgl hmi hno hun _) (cwV 0 hts gX11_places_X11_manyGleaners rfl rfl rfl (by decide +kernel) ⟨Nat.le_of_ble_eq_true rfl, Nat.le_of_ble_eq_true rfl⟩) (kw_PreV (ci := 11) (q0 := 3) hs537 hP hD hK hN rfl rfl) rfl rfl hl.1 rfl (lv_room (Nat.le_of_ble_eq_true rfl)) dX11_places_90 ⟨Nat.le_of_ble_eq_true rfl, Nat.le_of_ble_eq_true rfl⟩) (fun r538 u539 H locs hq hP hD hS => ?_)
                        obtain rfl := hq
                        have hP : va_P D vwCl [(mrf, .inl (y 0, 3, .inl frf)), (mbp, .inl (y 0, 5, .inl x475)), (ha, .inl (y 0, 30, .inl x473)), (mo, .inr (11, [.ref to, .ref ke, .ref ik, .ref mrf, .long mab, .long mbl, .ref ha, .ref r0, .ref mbr, .ref mbp, .ref mby, .int (nI bl), .int (nI ta), .int (nI tl), .int (nI tk), .int vv, .ref an, .ref va])), (to, .inl (y 0, 228, .inl ft))] H := hP
                        have hD : va_D A [(mrf, .inl (y 0, 3, .inl frf)), (mbp, .inl (y 0, 5, .inl x475)), (ha, .inl (y 0, 30, .inl x473)), (mo, .inr (11, [.ref to, .ref ke, .ref ik, .ref mrf, .long mab, .long mbl, .ref ha, .ref r0, .ref mbr, .ref mbp, .ref mby, .int (nI bl), .int (nI ta), .int (nI tl), .int (nI tk), .int vv, .ref an, .ref va])), (to, .inl (y 0, 228, .inl ft))] := hD
                        refine lv_if_le (tgt := 169) hx hb dX11_places_93 (by decide) (fun h540 => ?_) (fun h541 => ?_)
                        · skip
                          have h540 : gl ≤ 0 := (nI_leI (a := gl) (b := 0) (by omega) (by omega)).mp h540
                          refine lv_iload_n hx hb dX11_places_169 rfl (lv_at hl 5 rfl) ?_
                          refine lv_iconst (v := (-1)) hx hb dX11_places_170 (by decide) ?_
                          refine lv_icmp_ne (tgt := 179) hx hb dX11_places_171 (by decide) (fun h9 => absurd h9 (by decide)) (fun _ => ?_)
                          refine lv_iload hx hb dX11_places_174 (lv_at hl 1 rfl) ?_
                          refine lv_goto (tgt := 185) hx hb dX11_places_176 (by decide) ?_
                          exact W.iret (v := x474) hx hb hr (fun tZ ht hW => ⟨⟨x474, (frf, x473, x475), rfl, ⟨hr_x473, by first | omega | (dsimp only; omega)⟩, by rw [ht]; exact hP.sub [3, 0, 4, 2, 1] rfl, hD.sub [3, 0, 4, 2, 1] (by decide) rfl⟩, hS.F ht⟩) hS.2.2 dX11_places_185
                        · skip
                          have h541 : ¬ gl ≤ 0 := fun q9 => h541 ((nI_leI (a := gl) (b := 0) (by omega) (by omega)).mpr q9)
                          refine lv_aload_n hx hb dX11_places_96 rfl (lv_at hl 3 rfl) ?_
                          refine lv_iload hx hb dX11_places_97 (lv_at hl 0 rfl) ?_
                          refine lv_iload_n hx hb dX11_places_99 rfl (lv_at hl 4 rfl) ?_
                          have hs542 : kw_Split [(mrf, .inl (y 0, 3, .inl frf)), (mbp, .inl (y 0, 5, .inl x475)), (ha, .inl (y 0, 30, .inl x473)), (mo, .inr (11, [.ref to, .ref ke, .ref ik, .ref mrf, .long mab, .long mbl, .ref ha, .ref r0, .ref mbr, .ref mbp, .ref mby, .int (nI bl), .int (nI ta), .int (nI tl), .int (nI tk), .int vv, .ref an, .ref va])), (to, .inl (y 0, 228, .inl ft))] [(mo, .inr (11, [.ref to, .ref ke, .ref ik, .ref mrf, .long mab, .long mbl, .ref ha, .ref r0, .ref mbr, .ref mbp, .ref mby, .int (nI bl), .int (nI ta), .int (nI tl), .int (nI tk), .int vv, .ref an, .ref va])), (to, .inl (y 0, 228, .inl ft)), (ha, .inl (y 0, 30, .inl x473))] [(mrf, .inl (y 0, 3, .inl frf)), (mbp, .inl (y 0, 5, .inl x475))] [3, 4, 2] [0, 1] := ⟨rfl, rfl, rfl, rfl, rfl, by decide⟩
                          refine kw_go_i hs542 hP hD hS hA (va_runV (As := [.int (nI j92), .int (nI j4)]) (rest := []) ⟨hx, hb, hml, hown, hts⟩ (gr_placesBy l D y mo to ke ik mrf ha r0 mbr mbp mby an va mab mbl bl ta tl tk vv ft fi gl mi no un x473 j92 (nI j4) hk0_ hk1_ hk2_ hk3_ hk4_ hkt hfi hgl hmi hno hun hgf hr_x473 hk_x473_0 hk_x473_1 (by omega) (by omega) _) (cwV 2 hts gX11_places_X11_placesBy rfl rfl rfl (by decide +kernel) ⟨Nat.le_of_ble_eq_true rfl, Nat.le_of_ble_eq_true rfl⟩) (kw_PreV (ci := 11) (q0 := 3) hs542 hP hD hK hN rfl rfl) rfl rfl hl.1 rfl (lv_room (Nat.le_of_ble_eq_true rfl)) dX11_places_100 ⟨Nat.le_of_ble_eq_true rfl, Nat.le_of_ble_eq_true rfl⟩) (fun r543 u544 H locs hq hP hD hS => ?_)
                          obtain ⟨v545, rfl⟩ : ∃ z, z = u544 := ⟨_, rfl⟩
                          try dsimp only at hq
                          obtain ⟨h546, h547, h548⟩ := hq
                          have hP : va_P D vwCl [(mrf, .inl (y 0, 3, .inl frf)), (mbp, .inl (y 0, 5, .inl x475)), (mo, .inr (11, [.ref to, .ref ke, .ref ik, .ref mrf, .long mab, .long mbl, .ref ha, .ref r0, .ref mbr, .ref mbp, .ref mby, .int (nI bl), .int (nI ta), .int (nI tl), .int (nI tk), .int vv, .ref an, .ref va])), (to, .inl (y 0, 228, .inl ft)), (ha, .inl (y 0, 30, .inl v545))] H := hP
                          have hD : va_D A [(mrf, .inl (y 0, 3, .inl frf)), (mbp, .inl (y 0, 5, .inl x475)), (mo, .inr (11, [.ref to, .ref ke, .ref ik, .ref mrf, .long mab, .long mbl, .ref ha, .ref r0, .ref mbr, .ref mbp, .ref mby, .int (nI bl), .int (nI ta), .int (nI tl), .int (nI tk), .int vv, .ref an, .ref va])), (to, .inl (y 0, 228, .inl ft)), (ha, .inl (y 0, 30, .inl v545))] := hD
                          refine lv_istore (lv' := [(6, .int r543), (5, .int (nI j92)), (4, .int x474), (3, .int (nI NN)), (0, .ref mo), (1, .int (nI j4)), (2, .int (-1))]) hx hb dX11_places_103 hl (by decide) rfl (fun ls hl => ?_)
                          refine lv_iconst (v := 0) hx hb dX11_places_105 (by decide) ?_
                          refine lv_istore (lv' := [(7, .int 0), (6, .int r543), (5, .int (nI j92)), (4, .int x474), (3, .int (nI NN)), (0, .ref mo), (1, .int (nI j4)), (2, .int (-1))]) hx hb dX11_places_106 hl (by decide) rfl (fun ls hl => ?_)
                          have lp578 : ∀ (fuj93 j93 : Nat) (x563 : Nat → Int32) (H : Heap) (locs : List Loc) (ls : Array Slot), j93 ≤ gl → gl - j93 < fuj93 → va_P D vwCl [(mrf, .inl (y 0, 3, .inl frf)), (mbp, .inl (y 0, 5, .inl x563)), (mo, .inr (11, [.ref to, .ref ke, .ref ik, .ref mrf, .long mab, .long mbl, .ref ha, .ref r0, .ref mbr, .ref mbp, .ref mby, .int (nI bl), .int (nI ta), .int (nI tl), .int (nI tk), .int vv, .ref an, .ref va])), (to, .inl (y 0, 228, .inl ft)), (ha, .inl (y 0, 30, .inl v545))] H → va_D A [(mrf, .inl (y 0, 3, .inl frf)), (mbp, .inl (y 0, 5, .inl x563)), (mo, .inr (11, [.ref to, .ref ke, .ref ik, .ref mrf, .long mab, .long mbl, .ref ha, .ref r0, .ref mbr, .ref mbp, .ref mby, .int (nI bl), .int (nI ta), .int (nI tl), .int (nI tk), .int vv, .ref an, .ref va])), (to, .inl (y 0, 228, .inl ft)), (ha, .inl (y 0, 30, .inl v545))] → va_S A s.heap H locs → lv_has ls 8 [(7, .int (nI j93)), (6, .int r543), (5, .int (nI j92)), (4, .int x474), (3, .int (nI NN)), (0, .ref mo), (1, .int (nI j4)), (2, .int (-1))] → W pZ l eZ ({ frames := 7, cells := 0, slots := 0, locals := 199 }) s mZ [.ref mo, .int (nI j4), .int (-1)].toArray beZ meZ cZ H locs 0 0 (MQ beZ (va_Qi (fun (r : Int32) (u : (Nat → Int32) × (Nat → Int32) × (Nat → Int32)) => kr_t 30 u.2.1 ∧ (gl = 0 ∨ 0 < fi)) (kw_B D (fun u => [(mo, .inr (11, [.ref to, .ref ke, .ref ik, .ref mrf, .long mab, .long mbl, .ref ha, .ref r0, .ref mbr, .ref mbp, .ref mby, .int (nI bl), .int (nI ta), .int (nI tl), .int (nI tk), .int vv, .ref an, .ref va])), (mrf, .inl (y 0, 3, .inl u.1)), (to, .inl (y 0, 228, .inl ft)), (ha, .inl (y 0, 30, .inl u.2.1)), (mbp, .inl (y 0, 5, .inl u.2.2))]) A) A) [.ref mo, .int (nI j4), .int (-1)].toArray s 0 0 A) (F0 mZ 108 ls []) := by
                            intro fuj93
                            induction fuj93 with
                            | zero => intro j93 x563 H locs ls hj9 hf9; exact absurd hf9 (Nat.not_lt_zero _)
                            | succ fuj93 ihj93 =>
                              intro j93 x563 H locs ls hj93 hfj93  hP hD hS hl
                              refine lv_iload hx hb dX11_places_108 (lv_at hl 0 rfl) ?_
                              refine lv_aload_n hx hb dX11_places_110 rfl (lv_at hl 5 rfl) ?_
                              have hs579 : kw_Split [(mrf, .inl (y 0, 3, .inl frf)), (mbp, .inl (y 0, 5, .inl x563)), (mo, .inr (11, [.ref to, .ref ke, .ref ik, .ref mrf, .long mab, .long mbl, .ref ha, .ref r0, .ref mbr, .ref mbp, .ref mby, .int (nI bl), .int (nI ta), .int (nI tl), .int (nI tk), .int vv, .ref an, .ref va])), (to, .inl (y 0, 228, .inl ft)), (ha, .inl (y 0, 30, .inl v545))] [(mo, .inr (11, [.ref to, .ref ke, .ref ik, .ref mrf, .long mab, .long mbl, .ref ha, .ref r0, .ref mbr, .ref mbp, .ref mby, .int (nI bl), .int (nI ta), .int (nI tl), .int (nI tk), .int vv, .ref an, .ref va])), (to, .inl (y 0, 228, .inl ft))] [(mrf, .inl (y 0, 3, .inl frf)), (mbp, .inl (y 0, 5, .inl x563)), (ha, .inl (y 0, 30, .inl v545))] [2, 3] [0, 1, 4] := ⟨rfl, rfl, rfl, rfl, rfl, by decide⟩
                              refine kw_go_i hs579 hP hD hS hA (va_runV (As := []) (rest := [.int (nI j93)]) ⟨hx, hb, hml, hown, hts⟩ (gr_manyGleaners l D y mo to ke ik mrf ha r0 mbr mbp mby an va mab mbl bl ta tl tk vv ft fi gl mi no un hk0_ hk1_ hk2_ hk3_ hk4_ hkt hfi hgl hmi hno hun _) (cwV 0 hts gX11_places_X11_manyGleaners rfl rfl rfl (by decide +kernel) ⟨Nat.le_of_ble_eq_true rfl, Nat.le_of_ble_eq_true rfl⟩) (kw_PreV (ci := 11) (q0 := 2) hs579 hP hD hK hN rfl rfl) rfl rfl hl.1 rfl (lv_room (Nat.le_of_ble_eq_true rfl)) dX11_places_111 ⟨Nat.le_of_ble_eq_true rfl, Nat.le_of_ble_eq_true rfl⟩) (fun r580 u581 H locs hq hP hD hS => ?_)
                              obtain rfl := hq
                              have hP : va_P D vwCl [(mrf, .inl (y 0, 3, .inl frf)), (mbp, .inl (y 0, 5, .inl x563)), (ha, .inl (y 0, 30, .inl v545)), (mo, .inr (11, [.ref to, .ref ke, .ref ik, .ref mrf, .long mab, .long mbl, .ref ha, .ref r0, .ref mbr, .ref mbp, .ref mby, .int (nI bl), .int (nI ta), .int (nI tl), .int (nI tk), .int vv, .ref an, .ref va])), (to, .inl (y 0, 228, .inl ft))] H := hP
                              have hD : va_D A [(mrf, .inl (y 0, 3, .inl frf)), (mbp, .inl (y 0, 5, .inl x563)), (ha, .inl (y 0, 30, .inl v545)), (mo, .inr (11, [.ref to, .ref ke, .ref ik, .ref mrf, .long mab, .long mbl, .ref ha, .ref r0, .ref mbr, .ref mbp, .ref mby, .int (nI bl), .int (nI ta), .int (nI tl), .int (nI tk), .int vv, .ref an, .ref va])), (to, .inl (y 0, 228, .inl ft))] := hD
                              refine lv_icmp_ge (tgt := 147) hx hb dX11_places_114 (by decide) (fun h582 => ?_) (fun h583 => ?_)
                              · skip
                                have h582 : gl ≤ j93 := (nI_leI (a := gl) (b := j93) (by omega) (by omega)).mp h582
                                refine lv_iload hx hb dX11_places_147 (lv_at hl 1 rfl) ?_
                                refine lv_iload hx hb dX11_places_149 (lv_at hl 3 rfl) ?_
                                refine lv_icmp_le (tgt := 159) hx hb dX11_places_151 (by decide) (fun h584 => ?_) (fun h585 => ?_)
                                · skip
                                  refine lv_iload hx hb dX11_places_159 (lv_at hl 3 rfl) ?_
                                  refine lv_istore (lv' := [(4, .int x474), (7, .int (nI j93)), (6, .int r543), (5, .int (nI j92)), (3, .int (nI NN)), (0, .ref mo), (1, .int (nI j4)), (2, .int (-1))]) hx hb dX11_places_161 hl (by decide) rfl (fun ls hl => ?_)
                                  refine lv_iinc (v := (nI (j92 + 1))) (lv' := [(5, .int (nI (j92 + 1))), (4, .int x474), (7, .int (nI j93)), (6, .int r543), (3, .int (nI NN)), (0, .ref mo), (1, .int (nI j4)), (2, .int (-1))]) hx hb dX11_places_163 hl (k := 3) rfl (nI_1 j92) (by decide) rfl (fun ls hl => ?_)
                                  refine lv_goto (tgt := 83) hx hb dX11_places_166 (by decide) ?_
                                  exact ihj92 (j92 + 1) v545 x474 x563 H locs ls (by omega) (by omega) h546 h547 h548 (hP.sub [0, 1, 2, 3, 4] rfl) (hD.sub [0, 1, 2, 3, 4] (by decide) rfl) hS (lv_sub hl [0, 1, 4, 5, 6, 7] rfl)
                                · skip
                                  refine lv_iload hx hb dX11_places_154 (lv_at hl 1 rfl) ?_
                                  refine lv_goto (tgt := 161) hx hb dX11_places_156 (by decide) ?_
                                  refine lv_istore (lv' := [(4, .int r543), (7, .int (nI j93)), (6, .int r543), (5, .int (nI j92)), (3, .int (nI NN)), (0, .ref mo), (1, .int (nI j4)), (2, .int (-1))]) hx hb dX11_places_161 hl (by decide) rfl (fun ls hl => ?_)
                                  refine lv_iinc (v := (nI (j92 + 1))) (lv' := [(5, .int (nI (j92 + 1))), (4, .int r543), (7, .int (nI j93)), (6, .int r543), (3, .int (nI NN)), (0, .ref mo), (1, .int (nI j4)), (2, .int (-1))]) hx hb dX11_places_163 hl (k := 3) rfl (nI_1 j92) (by decide) rfl (fun ls hl => ?_)
                                  refine lv_goto (tgt := 83) hx hb dX11_places_166 (by decide) ?_
                                  exact ihj92 (j92 + 1) v545 r543 x563 H locs ls (by omega) (by omega) h546 h547 h548 (hP.sub [0, 1, 2, 3, 4] rfl) (hD.sub [0, 1, 2, 3, 4] (by decide) rfl) hS (lv_sub hl [0, 1, 4, 5, 6, 7] rfl)
                              · skip
                                have h583 : ¬ gl ≤ j93 := fun q9 => h583 ((nI_leI (a := gl) (b := j93) (by omega) (by omega)).mpr q9)
                                refine lv_iload hx hb dX11_places_117 (lv_at hl 1 rfl) ?_
                                refine lv_iload hx hb dX11_places_119 (lv_at hl 3 rfl) ?_
                                refine lv_icmp_le (tgt := 147) hx hb dX11_places_121 (by decide) (fun h586 => ?_) (fun h587 => ?_)
                                · skip
                                  refine lv_iload hx hb dX11_places_147 (lv_at hl 1 rfl) ?_
                                  refine lv_iload hx hb dX11_places_149 (lv_at hl 3 rfl) ?_
                                  refine lv_icmp_le (tgt := 159) hx hb dX11_places_151 (by decide) (fun h588 => ?_) (fun h589 => ?_)
                                  · skip
                                    refine lv_iload hx hb dX11_places_159 (lv_at hl 3 rfl) ?_
                                    refine lv_istore (lv' := [(4, .int x474), (7, .int (nI j93)), (6, .int r543), (5, .int (nI j92)), (3, .int (nI NN)), (0, .ref mo), (1, .int (nI j4)), (2, .int (-1))]) hx hb dX11_places_161 hl (by decide) rfl (fun ls hl => ?_)
                                    refine lv_iinc (v := (nI (j92 + 1))) (lv' := [(5, .int (nI (j92 + 1))), (4, .int x474), (7, .int (nI j93)), (6, .int r543), (3, .int (nI NN)), (0, .ref mo), (1, .int (nI j4)), (2, .int (-1))]) hx hb dX11_places_163 hl (k := 3) rfl (nI_1 j92) (by decide) rfl (fun ls hl => ?_)
                                    refine lv_goto (tgt := 83) hx hb dX11_places_166 (by decide) ?_
                                    exact ihj92 (j92 + 1) v545 x474 x563 H locs ls (by omega) (by omega) h546 h547 h548 (hP.sub [0, 1, 2, 3, 4] rfl) (hD.sub [0, 1, 2, 3, 4] (by decide) rfl) hS (lv_sub hl [0, 1, 4, 5, 6, 7] rfl)
                                  · skip
                                    exact absurd h586 h589
                                · skip
                                  refine lv_aload_n hx hb dX11_places_124 rfl (lv_at hl 5 rfl) ?_
                                  refine va_get (D := D) (ci := 11) (v := .ref mbp) (C := RX11) (T := TX11) (N := 18) hx hb hts iw11 hown hK hP 3 rfl rfl 9 (by decide) fw2 (fun _ h9 => h9) rfl dX11_places_125 ?_
                                  refine lv_iload hx hb dX11_places_128 (lv_at hl 0 rfl) ?_
                                  refine lv_aload_n hx hb dX11_places_130 rfl (lv_at hl 5 rfl) ?_
                                  refine va_get (D := D) (ci := 11) (v := .ref ha) (C := RX11) (T := TX11) (N := 18) hx hb hts iw11 hown hK hP 3 rfl rfl 6 (by decide) fw3 (fun _ h9 => h9) rfl dX11_places_131 ?_
                                  refine lv_bipush (v := 11) hx hb dX11_places_134 (by decide) ?_
                                  refine lv_iload hx hb dX11_places_136 (lv_at hl 0 rfl) ?_
                                  refine lv_iadd hx hb dX11_places_138 ?_
                                  rw [show 11 + (nI j93) = nI (j93 + 11) from (nI_add 11 j93).trans (congrArg nI (by omega))]
                                  refine va_iald hx hb hK hP 2 0 rfl rfl (vp_in_nI (by omega) (by decide)) dX11_places_139 ?_
                                  rw [nI_clamp (n := (j93 + 11)) (by omega)]
                                  obtain ⟨w590, h591, h592⟩ := kr_at h546 (p := (j93 + 11)) (by omega) (by unfold kr_a; omega)
                                  rw [h592]
                                  refine va_iast hx hb hK hP hD hS 1 0 rfl rfl (vp_in_nI (by omega) (by decide)) dX11_places_140 (fun H locs hP hD hS => ?_)
                                  rw [nI_clamp (n := j93) (by omega)] at hP hD
                                  have hP : va_P D vwCl [(mrf, .inl (y 0, 3, .inl frf)), (mbp, .inl (y 0, 5, .inl (upd x563 j93 (nI w590)))), (ha, .inl (y 0, 30, .inl v545)), (mo, .inr (11, [.ref to, .ref ke, .ref ik, .ref mrf, .long mab, .long mbl, .ref ha, .ref r0, .ref mbr, .ref mbp, .ref mby, .int (nI bl), .int (nI ta), .int (nI tl), .int (nI tk), .int vv, .ref an, .ref va])), (to, .inl (y 0, 228, .inl ft))] H := hP
                                  have hD : va_D A [(mrf, .inl (y 0, 3, .inl frf)), (mbp, .inl (y 0, 5, .inl (upd x563 j93 (nI w590)))), (ha, .inl (y 0, 30, .inl v545)), (mo, .inr (11, [.ref to, .ref ke, .ref ik, .ref mrf, .long mab, .long mbl, .ref ha, .ref r0, .ref mbr, .ref mbp, .ref mby, .int (nI bl), .int (nI ta), .int (nI tl), .int (nI tk), .int vv, .ref an, .ref va])), (to, .inl (y 0, 228, .inl ft))] := hD
                                  refine lv_iinc (v := (nI (j93 + 1))) (lv' := [(7, .int (nI (j93 + 1))), (6, .int r543), (5, .int (nI j92)), (4, .int x474), (3, .int (nI NN)), (0, .ref mo), (1, .int (nI j4)), (2, .int (-1))]) hx hb dX11_places_141 hl (k := 0) rfl (nI_1 j93) (by decide) rfl (fun ls hl => ?_)
                                  refine lv_goto (tgt := 108) hx hb dX11_places_144 (by decide) ?_
                                  exact ihj93 (j93 + 1) (upd x563 j93 (nI w590)) H locs ls (by omega) (by omega)  (hP.sub [0, 1, 3, 4, 2] rfl) (hD.sub [0, 1, 3, 4, 2] (by decide) rfl) hS (lv_sub hl [0, 1, 2, 3, 4, 5, 6, 7] rfl)
                          exact lp578 (gl + 1) 0 x475 _ _ _ (by omega) (by omega)  hP hD hS (lv_sub hl [0, 1, 2, 3, 4, 5, 6, 7] rfl)
                  exact lp534 (NN + 1) 0 (kr_cp fh ft 30) (-1) fbp _ _ _ (by omega) (by omega) h25 hk26 hk27 hP hD hS (lv_sub hl [0, 1, 2, 3, 4, 5] rfl)
              · skip
                have h410 : ¬ gl ≤ j91 := fun q9 => h410 ((nI_leI (a := gl) (b := j91) (by omega) (by omega)).mpr q9)
                refine lv_iload_n hx hb dX11_places_67 rfl (lv_at hl 2 rfl) ?_
                refine lv_aload_n hx hb dX11_places_68 rfl (lv_at hl 3 rfl) ?_
                have hs593 : kw_Split [(mrf, .inl (y 0, 3, .inl frf)), (mbp, .inl (y 0, 5, .inl fbp)), (ha, .inl (y 0, 30, .inl (kr_cp fh ft 30))), (mo, .inr (11, [.ref to, .ref ke, .ref ik, .ref mrf, .long mab, .long mbl, .ref ha, .ref r0, .ref mbr, .ref mbp, .ref mby, .int (nI bl), .int (nI ta), .int (nI tl), .int (nI tk), .int vv, .ref an, .ref va])), (to, .inl (y 0, 228, .inl ft))] [(mo, .inr (11, [.ref to, .ref ke, .ref ik, .ref mrf, .long mab, .long mbl, .ref ha, .ref r0, .ref mbr, .ref mbp, .ref mby, .int (nI bl), .int (nI ta), .int (nI tl), .int (nI tk), .int vv, .ref an, .ref va])), (to, .inl (y 0, 228, .inl ft))] [(mrf, .inl (y 0, 3, .inl frf)), (mbp, .inl (y 0, 5, .inl fbp)), (ha, .inl (y 0, 30, .inl (kr_cp fh ft 30)))] [3, 4] [0, 1, 2] := ⟨rfl, rfl, rfl, rfl, rfl, by decide⟩
                refine kw_go_i hs593 hP hD hS hA (va_runV (As := []) (rest := [.int x214]) ⟨hx, hb, hml, hown, hts⟩ (gr_many l D y mo to ke ik mrf ha r0 mbr mbp mby an va mab mbl bl ta tl tk vv ft fi gl mi no un hk0_ hk1_ hk2_ hk3_ hk4_ hkt hfi hgl hmi hno hun _) (cwV 0 hts gX11_places_X11_many rfl rfl rfl (by decide +kernel) ⟨Nat.le_of_ble_eq_true rfl, Nat.le_of_ble_eq_true rfl⟩) (kw_PreV (ci := 11) (q0 := 3) hs593 hP hD hK hN rfl rfl) rfl rfl hl.1 rfl (lv_room (Nat.le_of_ble_eq_true rfl)) dX11_places_69 ⟨Nat.le_of_ble_eq_true rfl, Nat.le_of_ble_eq_true rfl⟩) (fun r594 u595 H locs hq hP hD hS => ?_)
                obtain rfl := hq
                have hP : va_P D vwCl [(mrf, .inl (y 0, 3, .inl frf)), (mbp, .inl (y 0, 5, .inl fbp)), (ha, .inl (y 0, 30, .inl (kr_cp fh ft 30))), (mo, .inr (11, [.ref to, .ref ke, .ref ik, .ref mrf, .long mab, .long mbl, .ref ha, .ref r0, .ref mbr, .ref mbp, .ref mby, .int (nI bl), .int (nI ta), .int (nI tl), .int (nI tk), .int vv, .ref an, .ref va])), (to, .inl (y 0, 228, .inl ft))] H := hP
                have hD : va_D A [(mrf, .inl (y 0, 3, .inl frf)), (mbp, .inl (y 0, 5, .inl fbp)), (ha, .inl (y 0, 30, .inl (kr_cp fh ft 30))), (mo, .inr (11, [.ref to, .ref ke, .ref ik, .ref mrf, .long mab, .long mbl, .ref ha, .ref r0, .ref mbr, .ref mbp, .ref mby, .int (nI bl), .int (nI ta), .int (nI tl), .int (nI tk), .int vv, .ref an, .ref va])), (to, .inl (y 0, 228, .inl ft))] := hD
                refine lv_imul hx hb dX11_places_72 ?_
                refine lv_istore_n (lv' := [(3, .int (x214 * (nI fi))), (5, .int (nI j91)), (4, .int (-1)), (0, .ref mo), (1, .int (nI j4)), (2, .int (-1))]) hx hb dX11_places_73 rfl hl (by decide) rfl (fun ls hl => ?_)
                refine lv_iinc (v := (nI (j91 + 1))) (lv' := [(5, .int (nI (j91 + 1))), (3, .int (x214 * (nI fi))), (4, .int (-1)), (0, .ref mo), (1, .int (nI j4)), (2, .int (-1))]) hx hb dX11_places_74 hl (k := 1) rfl (nI_1 j91) (by decide) rfl (fun ls hl => ?_)
                refine lv_goto (tgt := 58) hx hb dX11_places_77 (by decide) ?_
                exact ihj91 (j91 + 1) (x214 * (nI fi)) H locs ls (by omega) (by omega)  (hP.sub [0, 1, 3, 4, 2] rfl) (hD.sub [0, 1, 3, 4, 2] (by decide) rfl) hS (lv_sub hl [0, 2, 1, 3, 4, 5] rfl)
          exact lp405 (gl + 1) 0 1 _ _ _ (by omega) (by omega)  hP hD hS (lv_sub hl [0, 1, 2, 3, 4, 5] rfl)
        · skip
          have h21 : gl = 0 := (nI_eq (a := gl) (b := 0) (by omega) (by omega)).mp h21
          refine lv_iconst (v := 0) hx hb dX11_places_44 (by decide) ?_
          refine lv_goto (tgt := 49) hx hb dX11_places_45 (by decide) ?_
          refine lv_istore (lv' := [(4, .int 0), (3, .int 1), (0, .ref mo), (1, .int (nI j4)), (2, .int (-1))]) hx hb dX11_places_49 hl (by decide) rfl (fun ls hl => ?_)
          refine lv_aload_n hx hb dX11_places_51 rfl (lv_at hl 2 rfl) ?_
          have hs596 : kw_Split [(mrf, .inl (y 0, 3, .inl frf)), (ha, .inl (y 0, 30, .inl fh)), (mbp, .inl (y 0, 5, .inl fbp)), (mo, .inr (11, [.ref to, .ref ke, .ref ik, .ref mrf, .long mab, .long mbl, .ref ha, .ref r0, .ref mbr, .ref mbp, .ref mby, .int (nI bl), .int (nI ta), .int (nI tl), .int (nI tk), .int vv, .ref an, .ref va])), (to, .inl (y 0, 228, .inl ft))] [(mo, .inr (11, [.ref to, .ref ke, .ref ik, .ref mrf, .long mab, .long mbl, .ref ha, .ref r0, .ref mbr, .ref mbp, .ref mby, .int (nI bl), .int (nI ta), .int (nI tl), .int (nI tk), .int vv, .ref an, .ref va])), (to, .inl (y 0, 228, .inl ft)), (ha, .inl (y 0, 30, .inl fh))] [(mrf, .inl (y 0, 3, .inl frf)), (mbp, .inl (y 0, 5, .inl fbp))] [3, 4, 1] [0, 2] := ⟨rfl, rfl, rfl, rfl, rfl, by decide⟩
          refine kw_go_v hs596 hP hD hS hA (va_runV (As := []) (rest := []) ⟨hx, hb, hml, hown, hts⟩ (gr_layHand l D y mo to ke ik mrf ha r0 mbr mbp mby an va mab mbl bl ta tl tk vv ft fi gl mi no un fh hk0_ hk1_ hk2_ hk3_ hk4_ hkt hfi hgl hmi hno hun hkh _) (cwV 0 hts gX11_places_X11_layHand rfl rfl rfl (by decide +kernel) ⟨Nat.le_of_ble_eq_true rfl, Nat.le_of_ble_eq_true rfl⟩) (kw_PreV (ci := 11) (q0 := 3) hs596 hP hD hK hN rfl rfl) rfl rfl hl.1 rfl (lv_room (Nat.le_of_ble_eq_true rfl)) dX11_places_52 ⟨Nat.le_of_ble_eq_true rfl, Nat.le_of_ble_eq_true rfl⟩) (fun u598 H locs hq hP hD hS => ?_)
          have h599 := hq
          have hk600 : (kr_cp fh ft 30) 0 = (nI fi) := ((kr_cp_lt (by decide)).trans hk0_)
          have hk601 : (kr_cp fh ft 30) 1 = (nI gl) := ((kr_cp_lt (by decide)).trans hk1_)
          have hP : va_P D vwCl [(mrf, .inl (y 0, 3, .inl frf)), (mbp, .inl (y 0, 5, .inl fbp)), (mo, .inr (11, [.ref to, .ref ke, .ref ik, .ref mrf, .long mab, .long mbl, .ref ha, .ref r0, .ref mbr, .ref mbp, .ref mby, .int (nI bl), .int (nI ta), .int (nI tl), .int (nI tk), .int vv, .ref an, .ref va])), (to, .inl (y 0, 228, .inl ft)), (ha, .inl (y 0, 30, .inl (kr_cp fh ft 30)))] H := hP
          have hD : va_D A [(mrf, .inl (y 0, 3, .inl frf)), (mbp, .inl (y 0, 5, .inl fbp)), (mo, .inr (11, [.ref to, .ref ke, .ref ik, .ref mrf, .long mab, .long mbl, .ref ha, .ref r0, .ref mbr, .ref mbp, .ref mby, .int (nI bl), .int (nI ta), .int (nI tl), .int (nI tk), .int vv, .ref an, .ref va])), (to, .inl (y 0, 228, .inl ft)), (ha, .inl (y 0, 30, .inl (kr_cp fh ft 30)))] := hD
          refine lv_iconst (v := 0) hx hb dX11_places_55 (by decide) ?_
          refine lv_istore (lv' := [(5, .int 0), (4, .int 0), (3, .int 1), (0, .ref mo), (1, .int (nI j4)), (2, .int (-1))]) hx hb dX11_places_56 hl (by decide) rfl (fun ls hl => ?_)
          have lp979 : ∀ (fuj91 j91 : Nat) (x788 : Int32) (H : Heap) (locs : List Loc) (ls : Array Slot), j91 ≤ gl → gl - j91 < fuj91 → va_P D vwCl [(mrf, .inl (y 0, 3, .inl frf)), (mbp, .inl (y 0, 5, .inl fbp)), (mo, .inr (11, [.ref to, .ref ke, .ref ik, .ref mrf, .long mab, .long mbl, .ref ha, .ref r0, .ref mbr, .ref mbp, .ref mby, .int (nI bl), .int (nI ta), .int (nI tl), .int (nI tk), .int vv, .ref an, .ref va])), (to, .inl (y 0, 228, .inl ft)), (ha, .inl (y 0, 30, .inl (kr_cp fh ft 30)))] H → va_D A [(mrf, .inl (y 0, 3, .inl frf)), (mbp, .inl (y 0, 5, .inl fbp)), (mo, .inr (11, [.ref to, .ref ke, .ref ik, .ref mrf, .long mab, .long mbl, .ref ha, .ref r0, .ref mbr, .ref mbp, .ref mby, .int (nI bl), .int (nI ta), .int (nI tl), .int (nI tk), .int vv, .ref an, .ref va])), (to, .inl (y 0, 228, .inl ft)), (ha, .inl (y 0, 30, .inl (kr_cp fh ft 30)))] → va_S A s.heap H locs → lv_has ls 8 [(5, .int (nI j91)), (4, .int 0), (3, .int x788), (0, .ref mo), (1, .int (nI j4)), (2, .int (-1))] → W pZ l eZ ({ frames := 7, cells := 0, slots := 0, locals := 199 }) s mZ [.ref mo, .int (nI j4), .int (-1)].toArray beZ meZ cZ H locs 0 0 (MQ beZ (va_Qi (fun (r : Int32) (u : (Nat → Int32) × (Nat → Int32) × (Nat → Int32)) => kr_t 30 u.2.1 ∧ (gl = 0 ∨ 0 < fi)) (kw_B D (fun u => [(mo, .inr (11, [.ref to, .ref ke, .ref ik, .ref mrf, .long mab, .long mbl, .ref ha, .ref r0, .ref mbr, .ref mbp, .ref mby, .int (nI bl), .int (nI ta), .int (nI tl), .int (nI tk), .int vv, .ref an, .ref va])), (mrf, .inl (y 0, 3, .inl u.1)), (to, .inl (y 0, 228, .inl ft)), (ha, .inl (y 0, 30, .inl u.2.1)), (mbp, .inl (y 0, 5, .inl u.2.2))]) A) A) [.ref mo, .int (nI j4), .int (-1)].toArray s 0 0 A) (F0 mZ 58 ls []) := by
            intro fuj91
            induction fuj91 with
            | zero => intro j91 x788 H locs ls hj9 hf9; exact absurd hf9 (Nat.not_lt_zero _)
            | succ fuj91 ihj91 =>
              intro j91 x788 H locs ls hj91 hfj91  hP hD hS hl
              refine lv_iload hx hb dX11_places_58 (lv_at hl 0 rfl) ?_
              refine lv_aload_n hx hb dX11_places_60 rfl (lv_at hl 3 rfl) ?_
              have hs980 : kw_Split [(mrf, .inl (y 0, 3, .inl frf)), (mbp, .inl (y 0, 5, .inl fbp)), (mo, .inr (11, [.ref to, .ref ke, .ref ik, .ref mrf, .long mab, .long mbl, .ref ha, .ref r0, .ref mbr, .ref mbp, .ref mby, .int (nI bl), .int (nI ta), .int (nI tl), .int (nI tk), .int vv, .ref an, .ref va])), (to, .inl (y 0, 228, .inl ft)), (ha, .inl (y 0, 30, .inl (kr_cp fh ft 30)))] [(mo, .inr (11, [.ref to, .ref ke, .ref ik, .ref mrf, .long mab, .long mbl, .ref ha, .ref r0, .ref mbr, .ref mbp, .ref mby, .int (nI bl), .int (nI ta), .int (nI tl), .int (nI tk), .int vv, .ref an, .ref va])), (to, .inl (y 0, 228, .inl ft))] [(mrf, .inl (y 0, 3, .inl frf)), (mbp, .inl (y 0, 5, .inl fbp)), (ha, .inl (y 0, 30, .inl (kr_cp fh ft 30)))] [2, 3] [0, 1, 4] := ⟨rfl, rfl, rfl, rfl, rfl, by decide⟩
              refine kw_go_i hs980 hP hD hS hA (va_runV (As := []) (rest := [.int (nI j91)]) ⟨hx, hb, hml, hown, hts⟩ (gr_manyGleaners l D y mo to ke ik mrf ha r0 mbr mbp mby an va mab mbl bl ta tl tk vv ft fi gl mi no un hk0_ hk1_ hk2_ hk3_ hk4_ hkt hfi hgl hmi hno hun _) (cwV 0 hts gX11_places_X11_manyGleaners rfl rfl rfl (by decide +kernel) ⟨Nat.le_of_ble_eq_true rfl, Nat.le_of_ble_eq_true rfl⟩) (kw_PreV (ci := 11) (q0 := 2) hs980 hP hD hK hN rfl rfl) rfl rfl hl.1 rfl (lv_room (Nat.le_of_ble_eq_true rfl)) dX11_places_61 ⟨Nat.le_of_ble_eq_true rfl, Nat.le_of_ble_eq_true rfl⟩) (fun r981 u982 H locs hq hP hD hS => ?_)
              obtain rfl := hq
              have hP : va_P D vwCl [(mrf, .inl (y 0, 3, .inl frf)), (mbp, .inl (y 0, 5, .inl fbp)), (ha, .inl (y 0, 30, .inl (kr_cp fh ft 30))), (mo, .inr (11, [.ref to, .ref ke, .ref ik, .ref mrf, .long mab, .long mbl, .ref ha, .ref r0, .ref mbr, .ref mbp, .ref mby, .int (nI bl), .int (nI ta), .int (nI tl), .int (nI tk), .int vv, .ref an, .ref va])), (to, .inl (y 0, 228, .inl ft))] H := hP
              have hD : va_D A [(mrf, .inl (y 0, 3, .inl frf)), (mbp, .inl (y 0, 5, .inl fbp)), (ha, .inl (y 0, 30, .inl (kr_cp fh ft 30))), (mo, .inr (11, [.ref to, .ref ke, .ref ik, .ref mrf, .long mab, .long mbl, .ref ha, .ref r0, .ref mbr, .ref mbp, .ref mby, .int (nI bl), .int (nI ta), .int (nI tl), .int (nI tk), .int vv, .ref an, .ref va])), (to, .inl (y 0, 228, .inl ft))] := hD
              refine lv_icmp_ge (tgt := 80) hx hb dX11_places_64 (by decide) (fun h983 => ?_) (fun h984 => ?_)
              · skip
                have h983 : gl ≤ j91 := (nI_leI (a := gl) (b := j91) (by omega) (by omega)).mp h983
                rcases kw_nn x788 with h985 | ⟨NN, hNN, rfl⟩
                · skip
                  have h986 : x788 ≤ 0 := Int32.le_of_lt h985
                  refine lv_iconst (v := 0) hx hb dX11_places_80 (by decide) ?_
                  refine lv_istore (lv' := [(5, .int 0), (4, .int 0), (3, .int x788), (0, .ref mo), (1, .int (nI j4)), (2, .int (-1))]) hx hb dX11_places_81 hl (by decide) rfl (fun ls hl => ?_)
                  refine lv_iload hx hb dX11_places_83 (lv_at hl 0 rfl) ?_
                  refine lv_iload_n hx hb dX11_places_85 rfl (lv_at hl 2 rfl) ?_
                  refine lv_icmp_ge (tgt := 169) hx hb dX11_places_86 (by decide) (fun h987 => ?_) (fun h988 => ?_)
                  · skip
                    refine lv_iload_n hx hb dX11_places_169 rfl (lv_at hl 5 rfl) ?_
                    refine lv_iconst (v := (-1)) hx hb dX11_places_170 (by decide) ?_
                    refine lv_icmp_ne (tgt := 179) hx hb dX11_places_171 (by decide) (fun h9 => absurd h9 (by decide)) (fun _ => ?_)
                    refine lv_iload hx hb dX11_places_174 (lv_at hl 1 rfl) ?_
                    refine lv_goto (tgt := 185) hx hb dX11_places_176 (by decide) ?_
                    exact W.iret (v := 0) hx hb hr (fun tZ ht hW => ⟨⟨0, (frf, (kr_cp fh ft 30), fbp), rfl, ⟨h599, by first | omega | (dsimp only; omega)⟩, by rw [ht]; exact hP.sub [3, 0, 4, 2, 1] rfl, hD.sub [3, 0, 4, 2, 1] (by decide) rfl⟩, hS.F ht⟩) hS.2.2 dX11_places_185
                  · skip
                    exact absurd h986 h988
                · skip
                  refine lv_iconst (v := 0) hx hb dX11_places_80 (by decide) ?_
                  refine lv_istore (lv' := [(5, .int 0), (4, .int 0), (3, .int (nI NN)), (0, .ref mo), (1, .int (nI j4)), (2, .int (-1))]) hx hb dX11_places_81 hl (by decide) rfl (fun ls hl => ?_)
                  have lp1108 : ∀ (fuj92 j92 : Nat) (x1047 : Nat → Int32) (x1048 : Int32) (x1049 : Nat → Int32) (H : Heap) (locs : List Loc) (ls : Array Slot), j92 ≤ NN → NN - j92 < fuj92 → kr_t 30 x1047 → x1047 0 = (nI fi) → x1047 1 = (nI gl) → va_P D vwCl [(mrf, .inl (y 0, 3, .inl frf)), (mbp, .inl (y 0, 5, .inl x1049)), (ha, .inl (y 0, 30, .inl x1047)), (mo, .inr (11, [.ref to, .ref ke, .ref ik, .ref mrf, .long mab, .long mbl, .ref ha, .ref r0, .ref mbr, .ref mbp, .ref mby, .int (nI bl), .int (nI ta), .int (nI tl), .int (nI tk), .int vv, .ref an, .ref va])), (to, .inl (y 0, 228, .inl ft))] H → va_D A [(mrf, .inl (y 0, 3, .inl frf)), (mbp, .inl (y 0, 5, .inl x1049)), (ha, .inl (y 0, 30, .inl x1047)), (mo, .inr (11, [.ref to, .ref ke, .ref ik, .ref mrf, .long mab, .long mbl, .ref ha, .ref r0, .ref mbr, .ref mbp, .ref mby, .int (nI bl), .int (nI ta), .int (nI tl), .int (nI tk), .int vv, .ref an, .ref va])), (to, .inl (y 0, 228, .inl ft))] → va_S A s.heap H locs → lv_has ls 8 [(5, .int (nI j92)), (4, .int x1048), (3, .int (nI NN)), (0, .ref mo), (1, .int (nI j4)), (2, .int (-1))] → W pZ l eZ ({ frames := 7, cells := 0, slots := 0, locals := 199 }) s mZ [.ref mo, .int (nI j4), .int (-1)].toArray beZ meZ cZ H locs 0 0 (MQ beZ (va_Qi (fun (r : Int32) (u : (Nat → Int32) × (Nat → Int32) × (Nat → Int32)) => kr_t 30 u.2.1 ∧ (gl = 0 ∨ 0 < fi)) (kw_B D (fun u => [(mo, .inr (11, [.ref to, .ref ke, .ref ik, .ref mrf, .long mab, .long mbl, .ref ha, .ref r0, .ref mbr, .ref mbp, .ref mby, .int (nI bl), .int (nI ta), .int (nI tl), .int (nI tk), .int vv, .ref an, .ref va])), (mrf, .inl (y 0, 3, .inl u.1)), (to, .inl (y 0, 228, .inl ft)), (ha, .inl (y 0, 30, .inl u.2.1)), (mbp, .inl (y 0, 5, .inl u.2.2))]) A) A) [.ref mo, .int (nI j4), .int (-1)].toArray s 0 0 A) (F0 mZ 83 ls []) := by
                    intro fuj92
                    induction fuj92 with
                    | zero => intro j92 x1047 x1048 x1049 H locs ls hj9 hf9; exact absurd hf9 (Nat.not_lt_zero _)
                    | succ fuj92 ihj92 =>
                      intro j92 x1047 x1048 x1049 H locs ls hj92 hfj92 hr_x1047 hk_x1047_0 hk_x1047_1 hP hD hS hl
                      refine lv_iload hx hb dX11_places_83 (lv_at hl 0 rfl) ?_
                      refine lv_iload_n hx hb dX11_places_85 rfl (lv_at hl 2 rfl) ?_
                      refine lv_icmp_ge (tgt := 169) hx hb dX11_places_86 (by decide) (fun h1109 => ?_) (fun h1110 => ?_)
                      · skip
                        have h1109 : NN ≤ j92 := (nI_leI (a := NN) (b := j92) (by omega) (by omega)).mp h1109
                        refine lv_iload_n hx hb dX11_places_169 rfl (lv_at hl 5 rfl) ?_
                        refine lv_iconst (v := (-1)) hx hb dX11_places_170 (by decide) ?_
                        refine lv_icmp_ne (tgt := 179) hx hb dX11_places_171 (by decide) (fun h9 => absurd h9 (by decide)) (fun _ => ?_)
                        refine lv_iload hx hb dX11_places_174 (lv_at hl 1 rfl) ?_
                        refine lv_goto (tgt := 185) hx hb dX11_places_176 (by decide) ?_
                        exact W.iret (v := x1048) hx hb hr (fun tZ ht hW => ⟨⟨x1048, (frf, x1047, x1049), rfl, ⟨hr_x1047, by first | omega | (dsimp only; omega)⟩, by rw [ht]; exact hP.sub [3, 0, 4, 2, 1] rfl, hD.sub [3, 0, 4, 2, 1] (by decide) rfl⟩, hS.F ht⟩) hS.2.2 dX11_places_185
                      · skip
                        have h1110 : ¬ NN ≤ j92 := fun q9 => h1110 ((nI_leI (a := NN) (b := j92) (by omega) (by omega)).mpr q9)
                        refine lv_aload_n hx hb dX11_places_89 rfl (lv_at hl 3 rfl) ?_
                        have hs1111 : kw_Split [(mrf, .inl (y 0, 3, .inl frf)), (mbp, .inl (y 0, 5, .inl x1049)), (ha, .inl (y 0, 30, .inl x1047)), (mo, .inr (11, [.ref to, .ref ke, .ref ik, .ref mrf, .long mab, .long mbl, .ref ha, .ref r0, .ref mbr, .ref mbp, .ref mby, .int (nI bl), .int (nI ta), .int (nI tl), .int (nI tk), .int vv, .ref an, .ref va])), (to, .inl (y 0, 228, .inl ft))] [(mo, .inr (11, [.ref to, .ref ke, .ref ik, .ref mrf, .long mab, .long mbl, .ref ha, .ref r0, .ref mbr, .ref mbp, .ref mby, .int (nI bl), .int (nI ta), .int (nI tl), .int (nI tk), .int vv, .ref an, .ref va])), (to, .inl (y 0, 228, .inl ft))] [(mrf, .inl (y 0, 3, .inl frf)), (mbp, .inl (y 0, 5, .inl x1049)), (ha, .inl (y 0, 30, .inl x1047))] [3, 4] [0, 1, 2] := ⟨rfl, rfl, rfl, rfl, rfl, by decide⟩
                        refine kw_go_i hs1111 hP hD hS hA (va_runV (As := []) (rest := []) ⟨hx, hb, hml, hown, hts⟩ (gr_manyGleaners l D y mo to ke ik mrf ha r0 mbr mbp mby an va mab mbl bl ta tl tk vv ft fi gl mi no un hk0_ hk1_ hk2_ hk3_ hk4_ hkt hfi hgl hmi hno hun _) (cwV 0 hts gX11_places_X11_manyGleaners rfl rfl rfl (by decide +kernel) ⟨Nat.le_of_ble_eq_true rfl, Nat.le_of_ble_eq_true rfl⟩) (kw_PreV (ci := 11) (q0 := 3) hs1111 hP hD hK hN rfl rfl) rfl rfl hl.1 rfl (lv_room (Nat.le_of_ble_eq_true rfl)) dX11_places_90 ⟨Nat.le_of_ble_eq_true rfl, Nat.le_of_ble_eq_true rfl⟩) (fun r1112 u1113 H locs hq hP hD hS => ?_)
                        obtain rfl := hq
                        have hP : va_P D vwCl [(mrf, .inl (y 0, 3, .inl frf)), (mbp, .inl (y 0, 5, .inl x1049)), (ha, .inl (y 0, 30, .inl x1047)), (mo, .inr (11, [.ref to, .ref ke, .ref ik, .ref mrf, .long mab, .long mbl, .ref ha, .ref r0, .ref mbr, .ref mbp, .ref mby, .int (nI bl), .int (nI ta), .int (nI tl), .int (nI tk), .int vv, .ref an, .ref va])), (to, .inl (y 0, 228, .inl ft))] H := hP
                        have hD : va_D A [(mrf, .inl (y 0, 3, .inl frf)), (mbp, .inl (y 0, 5, .inl x1049)), (ha, .inl (y 0, 30, .inl x1047)), (mo, .inr (11, [.ref to, .ref ke, .ref ik, .ref mrf, .long mab, .long mbl, .ref ha, .ref r0, .ref mbr, .ref mbp, .ref mby, .int (nI bl), .int (nI ta), .int (nI tl), .int (nI tk), .int vv, .ref an, .ref va])), (to, .inl (y 0, 228, .inl ft))] := hD
                        refine lv_if_le (tgt := 169) hx hb dX11_places_93 (by decide) (fun h1114 => ?_) (fun h1115 => ?_)
                        · skip
                          have h1114 : gl ≤ 0 := (nI_leI (a := gl) (b := 0) (by omega) (by omega)).mp h1114
                          refine lv_iload_n hx hb dX11_places_169 rfl (lv_at hl 5 rfl) ?_
                          refine lv_iconst (v := (-1)) hx hb dX11_places_170 (by decide) ?_
                          refine lv_icmp_ne (tgt := 179) hx hb dX11_places_171 (by decide) (fun h9 => absurd h9 (by decide)) (fun _ => ?_)
                          refine lv_iload hx hb dX11_places_174 (lv_at hl 1 rfl) ?_
                          refine lv_goto (tgt := 185) hx hb dX11_places_176 (by decide) ?_
                          exact W.iret (v := x1048) hx hb hr (fun tZ ht hW => ⟨⟨x1048, (frf, x1047, x1049), rfl, ⟨hr_x1047, by first | omega | (dsimp only; omega)⟩, by rw [ht]; exact hP.sub [3, 0, 4, 2, 1] rfl, hD.sub [3, 0, 4, 2, 1] (by decide) rfl⟩, hS.F ht⟩) hS.2.2 dX11_places_185
                        · skip
                          have h1115 : ¬ gl ≤ 0 := fun q9 => h1115 ((nI_leI (a := gl) (b := 0) (by omega) (by omega)).mpr q9)
                          refine lv_aload_n hx hb dX11_places_96 rfl (lv_at hl 3 rfl) ?_
                          refine lv_iload hx hb dX11_places_97 (lv_at hl 0 rfl) ?_
                          refine lv_iload_n hx hb dX11_places_99 rfl (lv_at hl 4 rfl) ?_
                          have hs1116 : kw_Split [(mrf, .inl (y 0, 3, .inl frf)), (mbp, .inl (y 0, 5, .inl x1049)), (ha, .inl (y 0, 30, .inl x1047)), (mo, .inr (11, [.ref to, .ref ke, .ref ik, .ref mrf, .long mab, .long mbl, .ref ha, .ref r0, .ref mbr, .ref mbp, .ref mby, .int (nI bl), .int (nI ta), .int (nI tl), .int (nI tk), .int vv, .ref an, .ref va])), (to, .inl (y 0, 228, .inl ft))] [(mo, .inr (11, [.ref to, .ref ke, .ref ik, .ref mrf, .long mab, .long mbl, .ref ha, .ref r0, .ref mbr, .ref mbp, .ref mby, .int (nI bl), .int (nI ta), .int (nI tl), .int (nI tk), .int vv, .ref an, .ref va])), (to, .inl (y 0, 228, .inl ft)), (ha, .inl (y 0, 30, .inl x1047))] [(mrf, .inl (y 0, 3, .inl frf)), (mbp, .inl (y 0, 5, .inl x1049))] [3, 4, 2] [0, 1] := ⟨rfl, rfl, rfl, rfl, rfl, by decide⟩
                          refine kw_go_i hs1116 hP hD hS hA (va_runV (As := [.int (nI j92), .int (nI j4)]) (rest := []) ⟨hx, hb, hml, hown, hts⟩ (gr_placesBy l D y mo to ke ik mrf ha r0 mbr mbp mby an va mab mbl bl ta tl tk vv ft fi gl mi no un x1047 j92 (nI j4) hk0_ hk1_ hk2_ hk3_ hk4_ hkt hfi hgl hmi hno hun hgf hr_x1047 hk_x1047_0 hk_x1047_1 (by omega) (by omega) _) (cwV 2 hts gX11_places_X11_placesBy rfl rfl rfl (by decide +kernel) ⟨Nat.le_of_ble_eq_true rfl, Nat.le_of_ble_eq_true rfl⟩) (kw_PreV (ci := 11) (q0 := 3) hs1116 hP hD hK hN rfl rfl) rfl rfl hl.1 rfl (lv_room (Nat.le_of_ble_eq_true rfl)) dX11_places_100 ⟨Nat.le_of_ble_eq_true rfl, Nat.le_of_ble_eq_true rfl⟩) (fun r1117 u1118 H locs hq hP hD hS => ?_)
                          obtain ⟨v1119, rfl⟩ : ∃ z, z = u1118 := ⟨_, rfl⟩
                          try dsimp only at hq
                          obtain ⟨h1120, h1121, h1122⟩ := hq
                          have hP : va_P D vwCl [(mrf, .inl (y 0, 3, .inl frf)), (mbp, .inl (y 0, 5, .inl x1049)), (mo, .inr (11, [.ref to, .ref ke, .ref ik, .ref mrf, .long mab, .long mbl, .ref ha, .ref r0, .ref mbr, .ref mbp, .ref mby, .int (nI bl), .int (nI ta), .int (nI tl), .int (nI tk), .int vv, .ref an, .ref va])), (to, .inl (y 0, 228, .inl ft)), (ha, .inl (y 0, 30, .inl v1119))] H := hP
                          have hD : va_D A [(mrf, .inl (y 0, 3, .inl frf)), (mbp, .inl (y 0, 5, .inl x1049)), (mo, .inr (11, [.ref to, .ref ke, .ref ik, .ref mrf, .long mab, .long mbl, .ref ha, .ref r0, .ref mbr, .ref mbp, .ref mby, .int (nI bl), .int (nI ta), .int (nI tl), .int (nI tk), .int vv, .ref an, .ref va])), (to, .inl (y 0, 228, .inl ft)), (ha, .inl (y 0, 30, .inl v1119))] := hD
                          refine lv_istore (lv' := [(6, .int r1117), (5, .int (nI j92)), (4, .int x1048), (3, .int (nI NN)), (0, .ref mo), (1, .int (nI j4)), (2, .int (-1))]) hx hb dX11_places_103 hl (by decide) rfl (fun ls hl => ?_)
                          refine lv_iconst (v := 0) hx hb dX11_places_105 (by decide) ?_
                          refine lv_istore (lv' := [(7, .int 0), (6, .int r1117), (5, .int (nI j92)), (4, .int x1048), (3, .int (nI NN)), (0, .ref mo), (1, .int (nI j4)), (2, .int (-1))]) hx hb dX11_places_106 hl (by decide) rfl (fun ls hl => ?_)
                          have lp1152 : ∀ (fuj93 j93 : Nat) (x1137 : Nat → Int32) (H : Heap) (locs : List Loc) (ls : Array Slot), j93 ≤ gl → gl - j93 < fuj93 → va_P D vwCl [(mrf, .inl (y 0, 3, .inl frf)), (mbp, .inl (y 0, 5, .inl x1137)), (mo, .inr (11, [.ref to, .ref ke, .ref ik, .ref mrf, .long mab, .long mbl, .ref ha, .ref r0, .ref mbr, .ref mbp, .ref mby, .int (nI bl), .int (nI ta), .int (nI tl), .int (nI tk), .int vv, .ref an, .ref va])), (to, .inl (y 0, 228, .inl ft)), (ha, .inl (y 0, 30, .inl v1119))] H → va_D A [(mrf, .inl (y 0, 3, .inl frf)), (mbp, .inl (y 0, 5, .inl x1137)), (mo, .inr (11, [.ref to, .ref ke, .ref ik, .ref mrf, .long mab, .long mbl, .ref ha, .ref r0, .ref mbr, .ref mbp, .ref mby, .int (nI bl), .int (nI ta), .int (nI tl), .int (nI tk), .int vv, .ref an, .ref va])), (to, .inl (y 0, 228, .inl ft)), (ha, .inl (y 0, 30, .inl v1119))] → va_S A s.heap H locs → lv_has ls 8 [(7, .int (nI j93)), (6, .int r1117), (5, .int (nI j92)), (4, .int x1048), (3, .int (nI NN)), (0, .ref mo), (1, .int (nI j4)), (2, .int (-1))] → W pZ l eZ ({ frames := 7, cells := 0, slots := 0, locals := 199 }) s mZ [.ref mo, .int (nI j4), .int (-1)].toArray beZ meZ cZ H locs 0 0 (MQ beZ (va_Qi (fun (r : Int32) (u : (Nat → Int32) × (Nat → Int32) × (Nat → Int32)) => kr_t 30 u.2.1 ∧ (gl = 0 ∨ 0 < fi)) (kw_B D (fun u => [(mo, .inr (11, [.ref to, .ref ke, .ref ik, .ref mrf, .long mab, .long mbl, .ref ha, .ref r0, .ref mbr, .ref mbp, .ref mby, .int (nI bl), .int (nI ta), .int (nI tl), .int (nI tk), .int vv, .ref an, .ref va])), (mrf, .inl (y 0, 3, .inl u.1)), (to, .inl (y 0, 228, .inl ft)), (ha, .inl (y 0, 30, .inl u.2.1)), (mbp, .inl (y 0, 5, .inl u.2.2))]) A) A) [.ref mo, .int (nI j4), .int (-1)].toArray s 0 0 A) (F0 mZ 108 ls []) := by
                            intro fuj93
                            induction fuj93 with
                            | zero => intro j93 x1137 H locs ls hj9 hf9; exact absurd hf9 (Nat.not_lt_zero _)
                            | succ fuj93 ihj93 =>
                              intro j93 x1137 H locs ls hj93 hfj93  hP hD hS hl
                              refine lv_iload hx hb dX11_places_108 (lv_at hl 0 rfl) ?_
                              refine lv_aload_n hx hb dX11_places_110 rfl (lv_at hl 5 rfl) ?_
                              have hs1153 : kw_Split [(mrf, .inl (y 0, 3, .inl frf)), (mbp, .inl (y 0, 5, .inl x1137)), (mo, .inr (11, [.ref to, .ref ke, .ref ik, .ref mrf, .long mab, .long mbl, .ref ha, .ref r0, .ref mbr, .ref mbp, .ref mby, .int (nI bl), .int (nI ta), .int (nI tl), .int (nI tk), .int vv, .ref an, .ref va])), (to, .inl (y 0, 228, .inl ft)), (ha, .inl (y 0, 30, .inl v1119))] [(mo, .inr (11, [.ref to, .ref ke, .ref ik, .ref mrf, .long mab, .long mbl, .ref ha, .ref r0, .ref mbr, .ref mbp, .ref mby, .int (nI bl), .int (nI ta), .int (nI tl), .int (nI tk), .int vv, .ref an, .ref va])), (to, .inl (y 0, 228, .inl ft))] [(mrf, .inl (y 0, 3, .inl frf)), (mbp, .inl (y 0, 5, .inl x1137)), (ha, .inl (y 0, 30, .inl v1119))] [2, 3] [0, 1, 4] := ⟨rfl, rfl, rfl, rfl, rfl, by decide⟩
                              refine kw_go_i hs1153 hP hD hS hA (va_runV (As := []) (rest := [.int (nI j93)]) ⟨hx, hb, hml, hown, hts⟩ (gr_manyGleaners l D y mo to ke ik mrf ha r0 mbr mbp mby an va mab mbl bl ta tl tk vv ft fi gl mi no un hk0_ hk1_ hk2_ hk3_ hk4_ hkt hfi hgl hmi hno hun _) (cwV 0 hts gX11_places_X11_manyGleaners rfl rfl rfl (by decide +kernel) ⟨Nat.le_of_ble_eq_true rfl, Nat.le_of_ble_eq_true rfl⟩) (kw_PreV (ci := 11) (q0 := 2) hs1153 hP hD hK hN rfl rfl) rfl rfl hl.1 rfl (lv_room (Nat.le_of_ble_eq_true rfl)) dX11_places_111 ⟨Nat.le_of_ble_eq_true rfl, Nat.le_of_ble_eq_true rfl⟩) (fun r1154 u1155 H locs hq hP hD hS => ?_)
                              obtain rfl := hq
                              have hP : va_P D vwCl [(mrf, .inl (y 0, 3, .inl frf)), (mbp, .inl (y 0, 5, .inl x1137)), (ha, .inl (y 0, 30, .inl v1119)), (mo, .inr (11, [.ref to, .ref ke, .ref ik, .ref mrf, .long mab, .long mbl, .ref ha, .ref r0, .ref mbr, .ref mbp, .ref mby, .int (nI bl), .int (nI ta), .int (nI tl), .int (nI tk), .int vv, .ref an, .ref va])), (to, .inl (y 0, 228, .inl ft))] H := hP
                              have hD : va_D A [(mrf, .inl (y 0, 3, .inl frf)), (mbp, .inl (y 0, 5, .inl x1137)), (ha, .inl (y 0, 30, .inl v1119)), (mo, .inr (11, [.ref to, .ref ke, .ref ik, .ref mrf, .long mab, .long mbl, .ref ha, .ref r0, .ref mbr, .ref mbp, .ref mby, .int (nI bl), .int (nI ta), .int (nI tl), .int (nI tk), .int vv, .ref an, .ref va])), (to, .inl (y 0, 228, .inl ft))] := hD
                              refine lv_icmp_ge (tgt := 147) hx hb dX11_places_114 (by decide) (fun h1156 => ?_) (fun h1157 => ?_)
                              · skip
                                have h1156 : gl ≤ j93 := (nI_leI (a := gl) (b := j93) (by omega) (by omega)).mp h1156
                                refine lv_iload hx hb dX11_places_147 (lv_at hl 1 rfl) ?_
                                refine lv_iload hx hb dX11_places_149 (lv_at hl 3 rfl) ?_
                                refine lv_icmp_le (tgt := 159) hx hb dX11_places_151 (by decide) (fun h1158 => ?_) (fun h1159 => ?_)
                                · skip
                                  refine lv_iload hx hb dX11_places_159 (lv_at hl 3 rfl) ?_
                                  refine lv_istore (lv' := [(4, .int x1048), (7, .int (nI j93)), (6, .int r1117), (5, .int (nI j92)), (3, .int (nI NN)), (0, .ref mo), (1, .int (nI j4)), (2, .int (-1))]) hx hb dX11_places_161 hl (by decide) rfl (fun ls hl => ?_)
                                  refine lv_iinc (v := (nI (j92 + 1))) (lv' := [(5, .int (nI (j92 + 1))), (4, .int x1048), (7, .int (nI j93)), (6, .int r1117), (3, .int (nI NN)), (0, .ref mo), (1, .int (nI j4)), (2, .int (-1))]) hx hb dX11_places_163 hl (k := 3) rfl (nI_1 j92) (by decide) rfl (fun ls hl => ?_)
                                  refine lv_goto (tgt := 83) hx hb dX11_places_166 (by decide) ?_
                                  exact ihj92 (j92 + 1) v1119 x1048 x1137 H locs ls (by omega) (by omega) h1120 h1121 h1122 (hP.sub [0, 1, 2, 3, 4] rfl) (hD.sub [0, 1, 2, 3, 4] (by decide) rfl) hS (lv_sub hl [0, 1, 4, 5, 6, 7] rfl)
                                · skip
                                  refine lv_iload hx hb dX11_places_154 (lv_at hl 1 rfl) ?_
                                  refine lv_goto (tgt := 161) hx hb dX11_places_156 (by decide) ?_
                                  refine lv_istore (lv' := [(4, .int r1117), (7, .int (nI j93)), (6, .int r1117), (5, .int (nI j92)), (3, .int (nI NN)), (0, .ref mo), (1, .int (nI j4)), (2, .int (-1))]) hx hb dX11_places_161 hl (by decide) rfl (fun ls hl => ?_)
                                  refine lv_iinc (v := (nI (j92 + 1))) (lv' := [(5, .int (nI (j92 + 1))), (4, .int r1117), (7, .int (nI j93)), (6, .int r1117), (3, .int (nI NN)), (0, .ref mo), (1, .int (nI j4)), (2, .int (-1))]) hx hb dX11_places_163 hl (k := 3) rfl (nI_1 j92) (by decide) rfl (fun ls hl => ?_)
                                  refine lv_goto (tgt := 83) hx hb dX11_places_166 (by decide) ?_
                                  exact ihj92 (j92 + 1) v1119 r1117 x1137 H locs ls (by omega) (by omega) h1120 h1121 h1122 (hP.sub [0, 1, 2, 3, 4] rfl) (hD.sub [0, 1, 2, 3, 4] (by decide) rfl) hS (lv_sub hl [0, 1, 4, 5, 6, 7] rfl)
                              · skip
                                have h1157 : ¬ gl ≤ j93 := fun q9 => h1157 ((nI_leI (a := gl) (b := j93) (by omega) (by omega)).mpr q9)
                                refine lv_iload hx hb dX11_places_117 (lv_at hl 1 rfl) ?_
                                refine lv_iload hx hb dX11_places_119 (lv_at hl 3 rfl) ?_
                                refine lv_icmp_le (tgt := 147) hx hb dX11_places_121 (by decide) (fun h1160 => ?_) (fun h1161 => ?_)
                                · skip
                                  refine lv_iload hx hb dX11_places_147 (lv_at hl 1 rfl) ?_
                                  refine lv_iload hx hb dX11_places_149 (lv_at hl 3 rfl) ?_
                                  refine lv_icmp_le (tgt := 159) hx hb dX11_places_151 (by decide) (fun h1162 => ?_) (fun h1163 => ?_)
                                  · skip
                                    refine lv_iload hx hb dX11_places_159 (lv_at hl 3 rfl) ?_
                                    refine lv_istore (lv' := [(4, .int x1048), (7, .int (nI j93)), (6, .int r1117), (5, .int (nI j92)), (3, .int (nI NN)), (0, .ref mo), (1, .int (nI j4)), (2, .int (-1))]) hx hb dX11_places_161 hl (by decide) rfl (fun ls hl => ?_)
                                    refine lv_iinc (v := (nI (j92 + 1))) (lv' := [(5, .int (nI (j92 + 1))), (4, .int x1048), (7, .int (nI j93)), (6, .int r1117), (3, .int (nI NN)), (0, .ref mo), (1, .int (nI j4)), (2, .int (-1))]) hx hb dX11_places_163 hl (k := 3) rfl (nI_1 j92) (by decide) rfl (fun ls hl => ?_)
                                    refine lv_goto (tgt := 83) hx hb dX11_places_166 (by decide) ?_
                                    exact ihj92 (j92 + 1) v1119 x1048 x1137 H locs ls (by omega) (by omega) h1120 h1121 h1122 (hP.sub [0, 1, 2, 3, 4] rfl) (hD.sub [0, 1, 2, 3, 4] (by decide) rfl) hS (lv_sub hl [0, 1, 4, 5, 6, 7] rfl)
                                  · skip
                                    exact absurd h1160 h1163
                                · skip
                                  refine lv_aload_n hx hb dX11_places_124 rfl (lv_at hl 5 rfl) ?_
                                  refine va_get (D := D) (ci := 11) (v := .ref mbp) (C := RX11) (T := TX11) (N := 18) hx hb hts iw11 hown hK hP 3 rfl rfl 9 (by decide) fw2 (fun _ h9 => h9) rfl dX11_places_125 ?_
                                  refine lv_iload hx hb dX11_places_128 (lv_at hl 0 rfl) ?_
                                  refine lv_aload_n hx hb dX11_places_130 rfl (lv_at hl 5 rfl) ?_
                                  refine va_get (D := D) (ci := 11) (v := .ref ha) (C := RX11) (T := TX11) (N := 18) hx hb hts iw11 hown hK hP 3 rfl rfl 6 (by decide) fw3 (fun _ h9 => h9) rfl dX11_places_131 ?_
                                  refine lv_bipush (v := 11) hx hb dX11_places_134 (by decide) ?_
                                  refine lv_iload hx hb dX11_places_136 (lv_at hl 0 rfl) ?_
                                  refine lv_iadd hx hb dX11_places_138 ?_
                                  rw [show 11 + (nI j93) = nI (j93 + 11) from (nI_add 11 j93).trans (congrArg nI (by omega))]
                                  refine va_iald hx hb hK hP 2 0 rfl rfl (vp_in_nI (by omega) (by decide)) dX11_places_139 ?_
                                  rw [nI_clamp (n := (j93 + 11)) (by omega)]
                                  obtain ⟨w1164, h1165, h1166⟩ := kr_at h1120 (p := (j93 + 11)) (by omega) (by unfold kr_a; omega)
                                  rw [h1166]
                                  refine va_iast hx hb hK hP hD hS 1 0 rfl rfl (vp_in_nI (by omega) (by decide)) dX11_places_140 (fun H locs hP hD hS => ?_)
                                  rw [nI_clamp (n := j93) (by omega)] at hP hD
                                  have hP : va_P D vwCl [(mrf, .inl (y 0, 3, .inl frf)), (mbp, .inl (y 0, 5, .inl (upd x1137 j93 (nI w1164)))), (ha, .inl (y 0, 30, .inl v1119)), (mo, .inr (11, [.ref to, .ref ke, .ref ik, .ref mrf, .long mab, .long mbl, .ref ha, .ref r0, .ref mbr, .ref mbp, .ref mby, .int (nI bl), .int (nI ta), .int (nI tl), .int (nI tk), .int vv, .ref an, .ref va])), (to, .inl (y 0, 228, .inl ft))] H := hP
                                  have hD : va_D A [(mrf, .inl (y 0, 3, .inl frf)), (mbp, .inl (y 0, 5, .inl (upd x1137 j93 (nI w1164)))), (ha, .inl (y 0, 30, .inl v1119)), (mo, .inr (11, [.ref to, .ref ke, .ref ik, .ref mrf, .long mab, .long mbl, .ref ha, .ref r0, .ref mbr, .ref mbp, .ref mby, .int (nI bl), .int (nI ta), .int (nI tl), .int (nI tk), .int vv, .ref an, .ref va])), (to, .inl (y 0, 228, .inl ft))] := hD
                                  refine lv_iinc (v := (nI (j93 + 1))) (lv' := [(7, .int (nI (j93 + 1))), (6, .int r1117), (5, .int (nI j92)), (4, .int x1048), (3, .int (nI NN)), (0, .ref mo), (1, .int (nI j4)), (2, .int (-1))]) hx hb dX11_places_141 hl (k := 0) rfl (nI_1 j93) (by decide) rfl (fun ls hl => ?_)
                                  refine lv_goto (tgt := 108) hx hb dX11_places_144 (by decide) ?_
                                  exact ihj93 (j93 + 1) (upd x1137 j93 (nI w1164)) H locs ls (by omega) (by omega)  (hP.sub [0, 1, 3, 4, 2] rfl) (hD.sub [0, 1, 3, 4, 2] (by decide) rfl) hS (lv_sub hl [0, 1, 2, 3, 4, 5, 6, 7] rfl)
                          exact lp1152 (gl + 1) 0 x1049 _ _ _ (by omega) (by omega)  hP hD hS (lv_sub hl [0, 1, 2, 3, 4, 5, 6, 7] rfl)
                  exact lp1108 (NN + 1) 0 (kr_cp fh ft 30) 0 fbp _ _ _ (by omega) (by omega) h599 hk600 hk601 hP hD hS (lv_sub hl [0, 1, 2, 3, 4, 5] rfl)
              · skip
                have h984 : ¬ gl ≤ j91 := fun q9 => h984 ((nI_leI (a := gl) (b := j91) (by omega) (by omega)).mpr q9)
                refine lv_iload_n hx hb dX11_places_67 rfl (lv_at hl 2 rfl) ?_
                refine lv_aload_n hx hb dX11_places_68 rfl (lv_at hl 3 rfl) ?_
                have hs1167 : kw_Split [(mrf, .inl (y 0, 3, .inl frf)), (mbp, .inl (y 0, 5, .inl fbp)), (ha, .inl (y 0, 30, .inl (kr_cp fh ft 30))), (mo, .inr (11, [.ref to, .ref ke, .ref ik, .ref mrf, .long mab, .long mbl, .ref ha, .ref r0, .ref mbr, .ref mbp, .ref mby, .int (nI bl), .int (nI ta), .int (nI tl), .int (nI tk), .int vv, .ref an, .ref va])), (to, .inl (y 0, 228, .inl ft))] [(mo, .inr (11, [.ref to, .ref ke, .ref ik, .ref mrf, .long mab, .long mbl, .ref ha, .ref r0, .ref mbr, .ref mbp, .ref mby, .int (nI bl), .int (nI ta), .int (nI tl), .int (nI tk), .int vv, .ref an, .ref va])), (to, .inl (y 0, 228, .inl ft))] [(mrf, .inl (y 0, 3, .inl frf)), (mbp, .inl (y 0, 5, .inl fbp)), (ha, .inl (y 0, 30, .inl (kr_cp fh ft 30)))] [3, 4] [0, 1, 2] := ⟨rfl, rfl, rfl, rfl, rfl, by decide⟩
                refine kw_go_i hs1167 hP hD hS hA (va_runV (As := []) (rest := [.int x788]) ⟨hx, hb, hml, hown, hts⟩ (gr_many l D y mo to ke ik mrf ha r0 mbr mbp mby an va mab mbl bl ta tl tk vv ft fi gl mi no un hk0_ hk1_ hk2_ hk3_ hk4_ hkt hfi hgl hmi hno hun _) (cwV 0 hts gX11_places_X11_many rfl rfl rfl (by decide +kernel) ⟨Nat.le_of_ble_eq_true rfl, Nat.le_of_ble_eq_true rfl⟩) (kw_PreV (ci := 11) (q0 := 3) hs1167 hP hD hK hN rfl rfl) rfl rfl hl.1 rfl (lv_room (Nat.le_of_ble_eq_true rfl)) dX11_places_69 ⟨Nat.le_of_ble_eq_true rfl, Nat.le_of_ble_eq_true rfl⟩) (fun r1168 u1169 H locs hq hP hD hS => ?_)
                obtain rfl := hq
                have hP : va_P D vwCl [(mrf, .inl (y 0, 3, .inl frf)), (mbp, .inl (y 0, 5, .inl fbp)), (ha, .inl (y 0, 30, .inl (kr_cp fh ft 30))), (mo, .inr (11, [.ref to, .ref ke, .ref ik, .ref mrf, .long mab, .long mbl, .ref ha, .ref r0, .ref mbr, .ref mbp, .ref mby, .int (nI bl), .int (nI ta), .int (nI tl), .int (nI tk), .int vv, .ref an, .ref va])), (to, .inl (y 0, 228, .inl ft))] H := hP
                have hD : va_D A [(mrf, .inl (y 0, 3, .inl frf)), (mbp, .inl (y 0, 5, .inl fbp)), (ha, .inl (y 0, 30, .inl (kr_cp fh ft 30))), (mo, .inr (11, [.ref to, .ref ke, .ref ik, .ref mrf, .long mab, .long mbl, .ref ha, .ref r0, .ref mbr, .ref mbp, .ref mby, .int (nI bl), .int (nI ta), .int (nI tl), .int (nI tk), .int vv, .ref an, .ref va])), (to, .inl (y 0, 228, .inl ft))] := hD
                refine lv_imul hx hb dX11_places_72 ?_
                refine lv_istore_n (lv' := [(3, .int (x788 * (nI fi))), (5, .int (nI j91)), (4, .int 0), (0, .ref mo), (1, .int (nI j4)), (2, .int (-1))]) hx hb dX11_places_73 rfl hl (by decide) rfl (fun ls hl => ?_)
                refine lv_iinc (v := (nI (j91 + 1))) (lv' := [(5, .int (nI (j91 + 1))), (3, .int (x788 * (nI fi))), (4, .int 0), (0, .ref mo), (1, .int (nI j4)), (2, .int (-1))]) hx hb dX11_places_74 hl (k := 1) rfl (nI_1 j91) (by decide) rfl (fun ls hl => ?_)
                refine lv_goto (tgt := 58) hx hb dX11_places_77 (by decide) ?_
                exact ihj91 (j91 + 1) (x788 * (nI fi)) H locs ls (by omega) (by omega)  (hP.sub [0, 1, 3, 4, 2] rfl) (hD.sub [0, 1, 3, 4, 2] (by decide) rfl) hS (lv_sub hl [0, 2, 1, 3, 4, 5] rfl)
          exact lp979 (gl + 1) 0 1 _ _ _ (by omega) (by omega)  hP hD hS (lv_sub hl [0, 1, 2, 3, 4, 5] rfl)
      · skip
        refine lv_iconst (v := 1) hx hb dX11_places_35 (by decide) ?_
        refine lv_istore_n (lv' := [(3, .int 1), (0, .ref mo), (1, .int (nI j4)), (2, .int (nI j15))]) hx hb dX11_places_36 rfl hl (by decide) rfl (fun ls hl => ?_)
        refine lv_aload_n hx hb dX11_places_37 rfl (lv_at hl 1 rfl) ?_
        have hs1170 : kw_Split [(mrf, .inl (y 0, 3, .inl frf)), (ha, .inl (y 0, 30, .inl fh)), (mbp, .inl (y 0, 5, .inl fbp)), (mo, .inr (11, [.ref to, .ref ke, .ref ik, .ref mrf, .long mab, .long mbl, .ref ha, .ref r0, .ref mbr, .ref mbp, .ref mby, .int (nI bl), .int (nI ta), .int (nI tl), .int (nI tk), .int vv, .ref an, .ref va])), (to, .inl (y 0, 228, .inl ft))] [(mo, .inr (11, [.ref to, .ref ke, .ref ik, .ref mrf, .long mab, .long mbl, .ref ha, .ref r0, .ref mbr, .ref mbp, .ref mby, .int (nI bl), .int (nI ta), .int (nI tl), .int (nI tk), .int vv, .ref an, .ref va])), (to, .inl (y 0, 228, .inl ft))] [(mrf, .inl (y 0, 3, .inl frf)), (ha, .inl (y 0, 30, .inl fh)), (mbp, .inl (y 0, 5, .inl fbp))] [3, 4] [0, 1, 2] := ⟨rfl, rfl, rfl, rfl, rfl, by decide⟩
        refine kw_go_i hs1170 hP hD hS hA (va_runV (As := []) (rest := []) ⟨hx, hb, hml, hown, hts⟩ (gr_manyGleaners l D y mo to ke ik mrf ha r0 mbr mbp mby an va mab mbl bl ta tl tk vv ft fi gl mi no un hk0_ hk1_ hk2_ hk3_ hk4_ hkt hfi hgl hmi hno hun _) (cwV 0 hts gX11_places_X11_manyGleaners rfl rfl rfl (by decide +kernel) ⟨Nat.le_of_ble_eq_true rfl, Nat.le_of_ble_eq_true rfl⟩) (kw_PreV (ci := 11) (q0 := 3) hs1170 hP hD hK hN rfl rfl) rfl rfl hl.1 rfl (lv_room (Nat.le_of_ble_eq_true rfl)) dX11_places_38 ⟨Nat.le_of_ble_eq_true rfl, Nat.le_of_ble_eq_true rfl⟩) (fun r1171 u1172 H locs hq hP hD hS => ?_)
        obtain rfl := hq
        have hP : va_P D vwCl [(mrf, .inl (y 0, 3, .inl frf)), (ha, .inl (y 0, 30, .inl fh)), (mbp, .inl (y 0, 5, .inl fbp)), (mo, .inr (11, [.ref to, .ref ke, .ref ik, .ref mrf, .long mab, .long mbl, .ref ha, .ref r0, .ref mbr, .ref mbp, .ref mby, .int (nI bl), .int (nI ta), .int (nI tl), .int (nI tk), .int vv, .ref an, .ref va])), (to, .inl (y 0, 228, .inl ft))] H := hP
        have hD : va_D A [(mrf, .inl (y 0, 3, .inl frf)), (ha, .inl (y 0, 30, .inl fh)), (mbp, .inl (y 0, 5, .inl fbp)), (mo, .inr (11, [.ref to, .ref ke, .ref ik, .ref mrf, .long mab, .long mbl, .ref ha, .ref r0, .ref mbr, .ref mbp, .ref mby, .int (nI bl), .int (nI ta), .int (nI tl), .int (nI tk), .int vv, .ref an, .ref va])), (to, .inl (y 0, 228, .inl ft))] := hD
        refine lv_if_ne (tgt := 48) hx hb dX11_places_41 (by decide) (fun h1173 => ?_) (fun h1174 => ?_)
        · skip
          have h1173 : ¬ gl = 0 := fun q9 => h1173 ((nI_eq (a := gl) (b := 0) (by omega) (by omega)).mpr q9)
          refine lv_iconst (v := (-1)) hx hb dX11_places_48 (by decide) ?_
          refine lv_istore (lv' := [(4, .int (-1)), (3, .int 1), (0, .ref mo), (1, .int (nI j4)), (2, .int (nI j15))]) hx hb dX11_places_49 hl (by decide) rfl (fun ls hl => ?_)
          refine lv_aload_n hx hb dX11_places_51 rfl (lv_at hl 2 rfl) ?_
          have hs1175 : kw_Split [(mrf, .inl (y 0, 3, .inl frf)), (ha, .inl (y 0, 30, .inl fh)), (mbp, .inl (y 0, 5, .inl fbp)), (mo, .inr (11, [.ref to, .ref ke, .ref ik, .ref mrf, .long mab, .long mbl, .ref ha, .ref r0, .ref mbr, .ref mbp, .ref mby, .int (nI bl), .int (nI ta), .int (nI tl), .int (nI tk), .int vv, .ref an, .ref va])), (to, .inl (y 0, 228, .inl ft))] [(mo, .inr (11, [.ref to, .ref ke, .ref ik, .ref mrf, .long mab, .long mbl, .ref ha, .ref r0, .ref mbr, .ref mbp, .ref mby, .int (nI bl), .int (nI ta), .int (nI tl), .int (nI tk), .int vv, .ref an, .ref va])), (to, .inl (y 0, 228, .inl ft)), (ha, .inl (y 0, 30, .inl fh))] [(mrf, .inl (y 0, 3, .inl frf)), (mbp, .inl (y 0, 5, .inl fbp))] [3, 4, 1] [0, 2] := ⟨rfl, rfl, rfl, rfl, rfl, by decide⟩
          refine kw_go_v hs1175 hP hD hS hA (va_runV (As := []) (rest := []) ⟨hx, hb, hml, hown, hts⟩ (gr_layHand l D y mo to ke ik mrf ha r0 mbr mbp mby an va mab mbl bl ta tl tk vv ft fi gl mi no un fh hk0_ hk1_ hk2_ hk3_ hk4_ hkt hfi hgl hmi hno hun hkh _) (cwV 0 hts gX11_places_X11_layHand rfl rfl rfl (by decide +kernel) ⟨Nat.le_of_ble_eq_true rfl, Nat.le_of_ble_eq_true rfl⟩) (kw_PreV (ci := 11) (q0 := 3) hs1175 hP hD hK hN rfl rfl) rfl rfl hl.1 rfl (lv_room (Nat.le_of_ble_eq_true rfl)) dX11_places_52 ⟨Nat.le_of_ble_eq_true rfl, Nat.le_of_ble_eq_true rfl⟩) (fun u1177 H locs hq hP hD hS => ?_)
          have h1178 := hq
          have hk1179 : (kr_cp fh ft 30) 0 = (nI fi) := ((kr_cp_lt (by decide)).trans hk0_)
          have hk1180 : (kr_cp fh ft 30) 1 = (nI gl) := ((kr_cp_lt (by decide)).trans hk1_)
          have hP : va_P D vwCl [(mrf, .inl (y 0, 3, .inl frf)), (mbp, .inl (y 0, 5, .inl fbp)), (mo, .inr (11, [.ref to, .ref ke, .ref ik, .ref mrf, .long mab, .long mbl, .ref ha, .ref r0, .ref mbr, .ref mbp, .ref mby, .int (nI bl), .int (nI ta), .int (nI tl), .int (nI tk), .int vv, .ref an, .ref va])), (to, .inl (y 0, 228, .inl ft)), (ha, .inl (y 0, 30, .inl (kr_cp fh ft 30)))] H := hP
          have hD : va_D A [(mrf, .inl (y 0, 3, .inl frf)), (mbp, .inl (y 0, 5, .inl fbp)), (mo, .inr (11, [.ref to, .ref ke, .ref ik, .ref mrf, .long mab, .long mbl, .ref ha, .ref r0, .ref mbr, .ref mbp, .ref mby, .int (nI bl), .int (nI ta), .int (nI tl), .int (nI tk), .int vv, .ref an, .ref va])), (to, .inl (y 0, 228, .inl ft)), (ha, .inl (y 0, 30, .inl (kr_cp fh ft 30)))] := hD
          refine lv_iconst (v := 0) hx hb dX11_places_55 (by decide) ?_
          refine lv_istore (lv' := [(5, .int 0), (4, .int (-1)), (3, .int 1), (0, .ref mo), (1, .int (nI j4)), (2, .int (nI j15))]) hx hb dX11_places_56 hl (by decide) rfl (fun ls hl => ?_)
          have lp1584 : ∀ (fuj91 j91 : Nat) (x1379 : Int32) (H : Heap) (locs : List Loc) (ls : Array Slot), j91 ≤ gl → gl - j91 < fuj91 → va_P D vwCl [(mrf, .inl (y 0, 3, .inl frf)), (mbp, .inl (y 0, 5, .inl fbp)), (mo, .inr (11, [.ref to, .ref ke, .ref ik, .ref mrf, .long mab, .long mbl, .ref ha, .ref r0, .ref mbr, .ref mbp, .ref mby, .int (nI bl), .int (nI ta), .int (nI tl), .int (nI tk), .int vv, .ref an, .ref va])), (to, .inl (y 0, 228, .inl ft)), (ha, .inl (y 0, 30, .inl (kr_cp fh ft 30)))] H → va_D A [(mrf, .inl (y 0, 3, .inl frf)), (mbp, .inl (y 0, 5, .inl fbp)), (mo, .inr (11, [.ref to, .ref ke, .ref ik, .ref mrf, .long mab, .long mbl, .ref ha, .ref r0, .ref mbr, .ref mbp, .ref mby, .int (nI bl), .int (nI ta), .int (nI tl), .int (nI tk), .int vv, .ref an, .ref va])), (to, .inl (y 0, 228, .inl ft)), (ha, .inl (y 0, 30, .inl (kr_cp fh ft 30)))] → va_S A s.heap H locs → lv_has ls 8 [(5, .int (nI j91)), (4, .int (-1)), (3, .int x1379), (0, .ref mo), (1, .int (nI j4)), (2, .int (nI j15))] → W pZ l eZ ({ frames := 7, cells := 0, slots := 0, locals := 199 }) s mZ [.ref mo, .int (nI j4), .int (nI j15)].toArray beZ meZ cZ H locs 0 0 (MQ beZ (va_Qi (fun (r : Int32) (u : (Nat → Int32) × (Nat → Int32) × (Nat → Int32)) => kr_t 30 u.2.1 ∧ (gl = 0 ∨ 0 < fi)) (kw_B D (fun u => [(mo, .inr (11, [.ref to, .ref ke, .ref ik, .ref mrf, .long mab, .long mbl, .ref ha, .ref r0, .ref mbr, .ref mbp, .ref mby, .int (nI bl), .int (nI ta), .int (nI tl), .int (nI tk), .int vv, .ref an, .ref va])), (mrf, .inl (y 0, 3, .inl u.1)), (to, .inl (y 0, 228, .inl ft)), (ha, .inl (y 0, 30, .inl u.2.1)), (mbp, .inl (y 0, 5, .inl u.2.2))]) A) A) [.ref mo, .int (nI j4), .int (nI j15)].toArray s 0 0 A) (F0 mZ 58 ls []) := by
            intro fuj91
            induction fuj91 with
            | zero => intro j91 x1379 H locs ls hj9 hf9; exact absurd hf9 (Nat.not_lt_zero _)
            | succ fuj91 ihj91 =>
              intro j91 x1379 H locs ls hj91 hfj91  hP hD hS hl
              refine lv_iload hx hb dX11_places_58 (lv_at hl 0 rfl) ?_
              refine lv_aload_n hx hb dX11_places_60 rfl (lv_at hl 3 rfl) ?_
              have hs1585 : kw_Split [(mrf, .inl (y 0, 3, .inl frf)), (mbp, .inl (y 0, 5, .inl fbp)), (mo, .inr (11, [.ref to, .ref ke, .ref ik, .ref mrf, .long mab, .long mbl, .ref ha, .ref r0, .ref mbr, .ref mbp, .ref mby, .int (nI bl), .int (nI ta), .int (nI tl), .int (nI tk), .int vv, .ref an, .ref va])), (to, .inl (y 0, 228, .inl ft)), (ha, .inl (y 0, 30, .inl (kr_cp fh ft 30)))] [(mo, .inr (11, [.ref to, .ref ke, .ref ik, .ref mrf, .long mab, .long mbl, .ref ha, .ref r0, .ref mbr, .ref mbp, .ref mby, .int (nI bl), .int (nI ta), .int (nI tl), .int (nI tk), .int vv, .ref an, .ref va])), (to, .inl (y 0, 228, .inl ft))] [(mrf, .inl (y 0, 3, .inl frf)), (mbp, .inl (y 0, 5, .inl fbp)), (ha, .inl (y 0, 30, .inl (kr_cp fh ft 30)))] [2, 3] [0, 1, 4] := ⟨rfl, rfl, rfl, rfl, rfl, by decide⟩
              refine kw_go_i hs1585 hP hD hS hA (va_runV (As := []) (rest := [.int (nI j91)]) ⟨hx, hb, hml, hown, hts⟩ (gr_manyGleaners l D y mo to ke ik mrf ha r0 mbr mbp mby an va mab mbl bl ta tl tk vv ft fi gl mi no un hk0_ hk1_ hk2_ hk3_ hk4_ hkt hfi hgl hmi hno hun _) (cwV 0 hts gX11_places_X11_manyGleaners rfl rfl rfl (by decide +kernel) ⟨Nat.le_of_ble_eq_true rfl, Nat.le_of_ble_eq_true rfl⟩) (kw_PreV (ci := 11) (q0 := 2) hs1585 hP hD hK hN rfl rfl) rfl rfl hl.1 rfl (lv_room (Nat.le_of_ble_eq_true rfl)) dX11_places_61 ⟨Nat.le_of_ble_eq_true rfl, Nat.le_of_ble_eq_true rfl⟩) (fun r1586 u1587 H locs hq hP hD hS => ?_)
              obtain rfl := hq
              have hP : va_P D vwCl [(mrf, .inl (y 0, 3, .inl frf)), (mbp, .inl (y 0, 5, .inl fbp)), (ha, .inl (y 0, 30, .inl (kr_cp fh ft 30))), (mo, .inr (11, [.ref to, .ref ke, .ref ik, .ref mrf, .long mab, .long mbl, .ref ha, .ref r0, .ref mbr, .ref mbp, .ref mby, .int (nI bl), .int (nI ta), .int (nI tl), .int (nI tk), .int vv, .ref an, .ref va])), (to, .inl (y 0, 228, .inl ft))] H := hP
              have hD : va_D A [(mrf, .inl (y 0, 3, .inl frf)), (mbp, .inl (y 0, 5, .inl fbp)), (ha, .inl (y 0, 30, .inl (kr_cp fh ft 30))), (mo, .inr (11, [.ref to, .ref ke, .ref ik, .ref mrf, .long mab, .long mbl, .ref ha, .ref r0, .ref mbr, .ref mbp, .ref mby, .int (nI bl), .int (nI ta), .int (nI tl), .int (nI tk), .int vv, .ref an, .ref va])), (to, .inl (y 0, 228, .inl ft))] := hD
              refine lv_icmp_ge (tgt := 80) hx hb dX11_places_64 (by decide) (fun h1588 => ?_) (fun h1589 => ?_)
              · skip
                have h1588 : gl ≤ j91 := (nI_leI (a := gl) (b := j91) (by omega) (by omega)).mp h1588
                rcases kw_nn x1379 with h1590 | ⟨NN, hNN, rfl⟩
                · skip
                  have h1591 : x1379 ≤ 0 := Int32.le_of_lt h1590
                  refine lv_iconst (v := 0) hx hb dX11_places_80 (by decide) ?_
                  refine lv_istore (lv' := [(5, .int 0), (4, .int (-1)), (3, .int x1379), (0, .ref mo), (1, .int (nI j4)), (2, .int (nI j15))]) hx hb dX11_places_81 hl (by decide) rfl (fun ls hl => ?_)
                  refine lv_iload hx hb dX11_places_83 (lv_at hl 0 rfl) ?_
                  refine lv_iload_n hx hb dX11_places_85 rfl (lv_at hl 2 rfl) ?_
                  refine lv_icmp_ge (tgt := 169) hx hb dX11_places_86 (by decide) (fun h1592 => ?_) (fun h1593 => ?_)
                  · skip
                    refine lv_iload_n hx hb dX11_places_169 rfl (lv_at hl 5 rfl) ?_
                    refine lv_iconst (v := (-1)) hx hb dX11_places_170 (by decide) ?_
                    refine lv_icmp_ne (tgt := 179) hx hb dX11_places_171 (by decide) (fun h1594 => ?_) (fun h1595 => ?_)
                    · skip
                      refine lv_aload_n hx hb dX11_places_179 rfl (lv_at hl 3 rfl) ?_
                      refine va_get (D := D) (ci := 11) (v := .ref mbp) (C := RX11) (T := TX11) (N := 18) hx hb hts iw11 hown hK hP 3 rfl rfl 9 (by decide) fw2 (fun _ h9 => h9) rfl dX11_places_180 ?_
                      refine lv_iload_n hx hb dX11_places_183 rfl (lv_at hl 5 rfl) ?_
                      refine va_iald hx hb hK hP 1 0 rfl rfl (vp_in_nI (by omega) (by decide)) dX11_places_184 ?_
                      rw [nI_clamp (n := j15) (by omega)]
                      exact W.iret (v := (fbp j15)) hx hb hr (fun tZ ht hW => ⟨⟨(fbp j15), (frf, (kr_cp fh ft 30), fbp), rfl, ⟨h1178, by first | omega | (dsimp only; omega)⟩, by rw [ht]; exact hP.sub [3, 0, 4, 2, 1] rfl, hD.sub [3, 0, 4, 2, 1] (by decide) rfl⟩, hS.F ht⟩) hS.2.2 dX11_places_185
                    · skip
                      refine lv_iload hx hb dX11_places_174 (lv_at hl 1 rfl) ?_
                      refine lv_goto (tgt := 185) hx hb dX11_places_176 (by decide) ?_
                      exact W.iret (v := (-1)) hx hb hr (fun tZ ht hW => ⟨⟨(-1), (frf, (kr_cp fh ft 30), fbp), rfl, ⟨h1178, by first | omega | (dsimp only; omega)⟩, by rw [ht]; exact hP.sub [3, 0, 4, 2, 1] rfl, hD.sub [3, 0, 4, 2, 1] (by decide) rfl⟩, hS.F ht⟩) hS.2.2 dX11_places_185
                  · skip
                    exact absurd h1591 h1593
                · skip
                  refine lv_iconst (v := 0) hx hb dX11_places_80 (by decide) ?_
                  refine lv_istore (lv' := [(5, .int 0), (4, .int (-1)), (3, .int (nI NN)), (0, .ref mo), (1, .int (nI j4)), (2, .int (nI j15))]) hx hb dX11_places_81 hl (by decide) rfl (fun ls hl => ?_)
                  have lp1723 : ∀ (fuj92 j92 : Nat) (x1658 : Nat → Int32) (x1659 : Int32) (x1660 : Nat → Int32) (H : Heap) (locs : List Loc) (ls : Array Slot), j92 ≤ NN → NN - j92 < fuj92 → kr_t 30 x1658 → x1658 0 = (nI fi) → x1658 1 = (nI gl) → va_P D vwCl [(mrf, .inl (y 0, 3, .inl frf)), (mbp, .inl (y 0, 5, .inl x1660)), (ha, .inl (y 0, 30, .inl x1658)), (mo, .inr (11, [.ref to, .ref ke, .ref ik, .ref mrf, .long mab, .long mbl, .ref ha, .ref r0, .ref mbr, .ref mbp, .ref mby, .int (nI bl), .int (nI ta), .int (nI tl), .int (nI tk), .int vv, .ref an, .ref va])), (to, .inl (y 0, 228, .inl ft))] H → va_D A [(mrf, .inl (y 0, 3, .inl frf)), (mbp, .inl (y 0, 5, .inl x1660)), (ha, .inl (y 0, 30, .inl x1658)), (mo, .inr (11, [.ref to, .ref ke, .ref ik, .ref mrf, .long mab, .long mbl, .ref ha, .ref r0, .ref mbr, .ref mbp, .ref mby, .int (nI bl), .int (nI ta), .int (nI tl), .int (nI tk), .int vv, .ref an, .ref va])), (to, .inl (y 0, 228, .inl ft))] → va_S A s.heap H locs → lv_has ls 8 [(5, .int (nI j92)), (4, .int x1659), (3, .int (nI NN)), (0, .ref mo), (1, .int (nI j4)), (2, .int (nI j15))] → W pZ l eZ ({ frames := 7, cells := 0, slots := 0, locals := 199 }) s mZ [.ref mo, .int (nI j4), .int (nI j15)].toArray beZ meZ cZ H locs 0 0 (MQ beZ (va_Qi (fun (r : Int32) (u : (Nat → Int32) × (Nat → Int32) × (Nat → Int32)) => kr_t 30 u.2.1 ∧ (gl = 0 ∨ 0 < fi)) (kw_B D (fun u => [(mo, .inr (11, [.ref to, .ref ke, .ref ik, .ref mrf, .long mab, .long mbl, .ref ha, .ref r0, .ref mbr, .ref mbp, .ref mby, .int (nI bl), .int (nI ta), .int (nI tl), .int (nI tk), .int vv, .ref an, .ref va])), (mrf, .inl (y 0, 3, .inl u.1)), (to, .inl (y 0, 228, .inl ft)), (ha, .inl (y 0, 30, .inl u.2.1)), (mbp, .inl (y 0, 5, .inl u.2.2))]) A) A) [.ref mo, .int (nI j4), .int (nI j15)].toArray s 0 0 A) (F0 mZ 83 ls []) := by
                    intro fuj92
                    induction fuj92 with
                    | zero => intro j92 x1658 x1659 x1660 H locs ls hj9 hf9; exact absurd hf9 (Nat.not_lt_zero _)
                    | succ fuj92 ihj92 =>
                      intro j92 x1658 x1659 x1660 H locs ls hj92 hfj92 hr_x1658 hk_x1658_0 hk_x1658_1 hP hD hS hl
                      refine lv_iload hx hb dX11_places_83 (lv_at hl 0 rfl) ?_
                      refine lv_iload_n hx hb dX11_places_85 rfl (lv_at hl 2 rfl) ?_
                      refine lv_icmp_ge (tgt := 169) hx hb dX11_places_86 (by decide) (fun h1724 => ?_) (fun h1725 => ?_)
                      · skip
                        have h1724 : NN ≤ j92 := (nI_leI (a := NN) (b := j92) (by omega) (by omega)).mp h1724
                        refine lv_iload_n hx hb dX11_places_169 rfl (lv_at hl 5 rfl) ?_
                        refine lv_iconst (v := (-1)) hx hb dX11_places_170 (by decide) ?_
                        refine lv_icmp_ne (tgt := 179) hx hb dX11_places_171 (by decide) (fun h1726 => ?_) (fun h1727 => ?_)
                        · skip
                          refine lv_aload_n hx hb dX11_places_179 rfl (lv_at hl 3 rfl) ?_
                          refine va_get (D := D) (ci := 11) (v := .ref mbp) (C := RX11) (T := TX11) (N := 18) hx hb hts iw11 hown hK hP 3 rfl rfl 9 (by decide) fw2 (fun _ h9 => h9) rfl dX11_places_180 ?_
                          refine lv_iload_n hx hb dX11_places_183 rfl (lv_at hl 5 rfl) ?_
                          refine va_iald hx hb hK hP 1 0 rfl rfl (vp_in_nI (by omega) (by decide)) dX11_places_184 ?_
                          rw [nI_clamp (n := j15) (by omega)]
                          exact W.iret (v := (x1660 j15)) hx hb hr (fun tZ ht hW => ⟨⟨(x1660 j15), (frf, x1658, x1660), rfl, ⟨hr_x1658, by first | omega | (dsimp only; omega)⟩, by rw [ht]; exact hP.sub [3, 0, 4, 2, 1] rfl, hD.sub [3, 0, 4, 2, 1] (by decide) rfl⟩, hS.F ht⟩) hS.2.2 dX11_places_185
                        · skip
                          refine lv_iload hx hb dX11_places_174 (lv_at hl 1 rfl) ?_
                          refine lv_goto (tgt := 185) hx hb dX11_places_176 (by decide) ?_
                          exact W.iret (v := x1659) hx hb hr (fun tZ ht hW => ⟨⟨x1659, (frf, x1658, x1660), rfl, ⟨hr_x1658, by first | omega | (dsimp only; omega)⟩, by rw [ht]; exact hP.sub [3, 0, 4, 2, 1] rfl, hD.sub [3, 0, 4, 2, 1] (by decide) rfl⟩, hS.F ht⟩) hS.2.2 dX11_places_185
                      · skip
                        have h1725 : ¬ NN ≤ j92 := fun q9 => h1725 ((nI_leI (a := NN) (b := j92) (by omega) (by omega)).mpr q9)
                        refine lv_aload_n hx hb dX11_places_89 rfl (lv_at hl 3 rfl) ?_
                        have hs1728 : kw_Split [(mrf, .inl (y 0, 3, .inl frf)), (mbp, .inl (y 0, 5, .inl x1660)), (ha, .inl (y 0, 30, .inl x1658)), (mo, .inr (11, [.ref to, .ref ke, .ref ik, .ref mrf, .long mab, .long mbl, .ref ha, .ref r0, .ref mbr, .ref mbp, .ref mby, .int (nI bl), .int (nI ta), .int (nI tl), .int (nI tk), .int vv, .ref an, .ref va])), (to, .inl (y 0, 228, .inl ft))] [(mo, .inr (11, [.ref to, .ref ke, .ref ik, .ref mrf, .long mab, .long mbl, .ref ha, .ref r0, .ref mbr, .ref mbp, .ref mby, .int (nI bl), .int (nI ta), .int (nI tl), .int (nI tk), .int vv, .ref an, .ref va])), (to, .inl (y 0, 228, .inl ft))] [(mrf, .inl (y 0, 3, .inl frf)), (mbp, .inl (y 0, 5, .inl x1660)), (ha, .inl (y 0, 30, .inl x1658))] [3, 4] [0, 1, 2] := ⟨rfl, rfl, rfl, rfl, rfl, by decide⟩
                        refine kw_go_i hs1728 hP hD hS hA (va_runV (As := []) (rest := []) ⟨hx, hb, hml, hown, hts⟩ (gr_manyGleaners l D y mo to ke ik mrf ha r0 mbr mbp mby an va mab mbl bl ta tl tk vv ft fi gl mi no un hk0_ hk1_ hk2_ hk3_ hk4_ hkt hfi hgl hmi hno hun _) (cwV 0 hts gX11_places_X11_manyGleaners rfl rfl rfl (by decide +kernel) ⟨Nat.le_of_ble_eq_true rfl, Nat.le_of_ble_eq_true rfl⟩) (kw_PreV (ci := 11) (q0 := 3) hs1728 hP hD hK hN rfl rfl) rfl rfl hl.1 rfl (lv_room (Nat.le_of_ble_eq_true rfl)) dX11_places_90 ⟨Nat.le_of_ble_eq_true rfl, Nat.le_of_ble_eq_true rfl⟩) (fun r1729 u1730 H locs hq hP hD hS => ?_)
                        obtain rfl := hq
                        have hP : va_P D vwCl [(mrf, .inl (y 0, 3, .inl frf)), (mbp, .inl (y 0, 5, .inl x1660)), (ha, .inl (y 0, 30, .inl x1658)), (mo, .inr (11, [.ref to, .ref ke, .ref ik, .ref mrf, .long mab, .long mbl, .ref ha, .ref r0, .ref mbr, .ref mbp, .ref mby, .int (nI bl), .int (nI ta), .int (nI tl), .int (nI tk), .int vv, .ref an, .ref va])), (to, .inl (y 0, 228, .inl ft))] H := hP
                        have hD : va_D A [(mrf, .inl (y 0, 3, .inl frf)), (mbp, .inl (y 0, 5, .inl x1660)), (ha, .inl (y 0, 30, .inl x1658)), (mo, .inr (11, [.ref to, .ref ke, .ref ik, .ref mrf, .long mab, .long mbl, .ref ha, .ref r0, .ref mbr, .ref mbp, .ref mby, .int (nI bl), .int (nI ta), .int (nI tl), .int (nI tk), .int vv, .ref an, .ref va])), (to, .inl (y 0, 228, .inl ft))] := hD
                        refine lv_if_le (tgt := 169) hx hb dX11_places_93 (by decide) (fun h1731 => ?_) (fun h1732 => ?_)
                        · skip
                          have h1731 : gl ≤ 0 := (nI_leI (a := gl) (b := 0) (by omega) (by omega)).mp h1731
                          refine lv_iload_n hx hb dX11_places_169 rfl (lv_at hl 5 rfl) ?_
                          refine lv_iconst (v := (-1)) hx hb dX11_places_170 (by decide) ?_
                          refine lv_icmp_ne (tgt := 179) hx hb dX11_places_171 (by decide) (fun h1733 => ?_) (fun h1734 => ?_)
                          · skip
                            refine lv_aload_n hx hb dX11_places_179 rfl (lv_at hl 3 rfl) ?_
                            refine va_get (D := D) (ci := 11) (v := .ref mbp) (C := RX11) (T := TX11) (N := 18) hx hb hts iw11 hown hK hP 3 rfl rfl 9 (by decide) fw2 (fun _ h9 => h9) rfl dX11_places_180 ?_
                            refine lv_iload_n hx hb dX11_places_183 rfl (lv_at hl 5 rfl) ?_
                            refine va_iald hx hb hK hP 1 0 rfl rfl (vp_in_nI (by omega) (by decide)) dX11_places_184 ?_
                            rw [nI_clamp (n := j15) (by omega)]
                            exact W.iret (v := (x1660 j15)) hx hb hr (fun tZ ht hW => ⟨⟨(x1660 j15), (frf, x1658, x1660), rfl, ⟨hr_x1658, by first | omega | (dsimp only; omega)⟩, by rw [ht]; exact hP.sub [3, 0, 4, 2, 1] rfl, hD.sub [3, 0, 4, 2, 1] (by decide) rfl⟩, hS.F ht⟩) hS.2.2 dX11_places_185
                          · skip
                            refine lv_iload hx hb dX11_places_174 (lv_at hl 1 rfl) ?_
                            refine lv_goto (tgt := 185) hx hb dX11_places_176 (by decide) ?_
                            exact W.iret (v := x1659) hx hb hr (fun tZ ht hW => ⟨⟨x1659, (frf, x1658, x1660), rfl, ⟨hr_x1658, by first | omega | (dsimp only; omega)⟩, by rw [ht]; exact hP.sub [3, 0, 4, 2, 1] rfl, hD.sub [3, 0, 4, 2, 1] (by decide) rfl⟩, hS.F ht⟩) hS.2.2 dX11_places_185
                        · skip
                          have h1732 : ¬ gl ≤ 0 := fun q9 => h1732 ((nI_leI (a := gl) (b := 0) (by omega) (by omega)).mpr q9)
                          refine lv_aload_n hx hb dX11_places_96 rfl (lv_at hl 3 rfl) ?_
                          refine lv_iload hx hb dX11_places_97 (lv_at hl 0 rfl) ?_
                          refine lv_iload_n hx hb dX11_places_99 rfl (lv_at hl 4 rfl) ?_
                          have hs1735 : kw_Split [(mrf, .inl (y 0, 3, .inl frf)), (mbp, .inl (y 0, 5, .inl x1660)), (ha, .inl (y 0, 30, .inl x1658)), (mo, .inr (11, [.ref to, .ref ke, .ref ik, .ref mrf, .long mab, .long mbl, .ref ha, .ref r0, .ref mbr, .ref mbp, .ref mby, .int (nI bl), .int (nI ta), .int (nI tl), .int (nI tk), .int vv, .ref an, .ref va])), (to, .inl (y 0, 228, .inl ft))] [(mo, .inr (11, [.ref to, .ref ke, .ref ik, .ref mrf, .long mab, .long mbl, .ref ha, .ref r0, .ref mbr, .ref mbp, .ref mby, .int (nI bl), .int (nI ta), .int (nI tl), .int (nI tk), .int vv, .ref an, .ref va])), (to, .inl (y 0, 228, .inl ft)), (ha, .inl (y 0, 30, .inl x1658))] [(mrf, .inl (y 0, 3, .inl frf)), (mbp, .inl (y 0, 5, .inl x1660))] [3, 4, 2] [0, 1] := ⟨rfl, rfl, rfl, rfl, rfl, by decide⟩
                          refine kw_go_i hs1735 hP hD hS hA (va_runV (As := [.int (nI j92), .int (nI j4)]) (rest := []) ⟨hx, hb, hml, hown, hts⟩ (gr_placesBy l D y mo to ke ik mrf ha r0 mbr mbp mby an va mab mbl bl ta tl tk vv ft fi gl mi no un x1658 j92 (nI j4) hk0_ hk1_ hk2_ hk3_ hk4_ hkt hfi hgl hmi hno hun hgf hr_x1658 hk_x1658_0 hk_x1658_1 (by omega) (by omega) _) (cwV 2 hts gX11_places_X11_placesBy rfl rfl rfl (by decide +kernel) ⟨Nat.le_of_ble_eq_true rfl, Nat.le_of_ble_eq_true rfl⟩) (kw_PreV (ci := 11) (q0 := 3) hs1735 hP hD hK hN rfl rfl) rfl rfl hl.1 rfl (lv_room (Nat.le_of_ble_eq_true rfl)) dX11_places_100 ⟨Nat.le_of_ble_eq_true rfl, Nat.le_of_ble_eq_true rfl⟩) (fun r1736 u1737 H locs hq hP hD hS => ?_)
                          obtain ⟨v1738, rfl⟩ : ∃ z, z = u1737 := ⟨_, rfl⟩
                          try dsimp only at hq
                          obtain ⟨h1739, h1740, h1741⟩ := hq
                          have hP : va_P D vwCl [(mrf, .inl (y 0, 3, .inl frf)), (mbp, .inl (y 0, 5, .inl x1660)), (mo, .inr (11, [.ref to, .ref ke, .ref ik, .ref mrf, .long mab, .long mbl, .ref ha, .ref r0, .ref mbr, .ref mbp, .ref mby, .int (nI bl), .int (nI ta), .int (nI tl), .int (nI tk), .int vv, .ref an, .ref va])), (to, .inl (y 0, 228, .inl ft)), (ha, .inl (y 0, 30, .inl v1738))] H := hP
                          have hD : va_D A [(mrf, .inl (y 0, 3, .inl frf)), (mbp, .inl (y 0, 5, .inl x1660)), (mo, .inr (11, [.ref to, .ref ke, .ref ik, .ref mrf, .long mab, .long mbl, .ref ha, .ref r0, .ref mbr, .ref mbp, .ref mby, .int (nI bl), .int (nI ta), .int (nI tl), .int (nI tk), .int vv, .ref an, .ref va])), (to, .inl (y 0, 228, .inl ft)), (ha, .inl (y 0, 30, .inl v1738))] := hD
                          refine lv_istore (lv' := [(6, .int r1736), (5, .int (nI j92)), (4, .int x1659), (3, .int (nI NN)), (0, .ref mo), (1, .int (nI j4)), (2, .int (nI j15))]) hx hb dX11_places_103 hl (by decide) rfl (fun ls hl => ?_)
                          refine lv_iconst (v := 0) hx hb dX11_places_105 (by decide) ?_
                          refine lv_istore (lv' := [(7, .int 0), (6, .int r1736), (5, .int (nI j92)), (4, .int x1659), (3, .int (nI NN)), (0, .ref mo), (1, .int (nI j4)), (2, .int (nI j15))]) hx hb dX11_places_106 hl (by decide) rfl (fun ls hl => ?_)
                          have lp1771 : ∀ (fuj93 j93 : Nat) (x1756 : Nat → Int32) (H : Heap) (locs : List Loc) (ls : Array Slot), j93 ≤ gl → gl - j93 < fuj93 → va_P D vwCl [(mrf, .inl (y 0, 3, .inl frf)), (mbp, .inl (y 0, 5, .inl x1756)), (mo, .inr (11, [.ref to, .ref ke, .ref ik, .ref mrf, .long mab, .long mbl, .ref ha, .ref r0, .ref mbr, .ref mbp, .ref mby, .int (nI bl), .int (nI ta), .int (nI tl), .int (nI tk), .int vv, .ref an, .ref va])), (to, .inl (y 0, 228, .inl ft)), (ha, .inl (y 0, 30, .inl v1738))] H → va_D A [(mrf, .inl (y 0, 3, .inl frf)), (mbp, .inl (y 0, 5, .inl x1756)), (mo, .inr (11, [.ref to, .ref ke, .ref ik, .ref mrf, .long mab, .long mbl, .ref ha, .ref r0, .ref mbr, .ref mbp, .ref mby, .int (nI bl), .int (nI ta), .int (nI tl), .int (nI tk), .int vv, .ref an, .ref va])), (to, .inl (y 0, 228, .inl ft)), (ha, .inl (y 0, 30, .inl v1738))] → va_S A s.heap H locs → lv_has ls 8 [(7, .int (nI j93)), (6, .int r1736), (5, .int (nI j92)), (4, .int x1659), (3, .int (nI NN)), (0, .ref mo), (1, .int (nI j4)), (2, .int (nI j15))] → W pZ l eZ ({ frames := 7, cells := 0, slots := 0, locals := 199 }) s mZ [.ref mo, .int (nI j4), .int (nI j15)].toArray beZ meZ cZ H locs 0 0 (MQ beZ (va_Qi (fun (r : Int32) (u : (Nat → Int32) × (Nat → Int32) × (Nat → Int32)) => kr_t 30 u.2.1 ∧ (gl = 0 ∨ 0 < fi)) (kw_B D (fun u => [(mo, .inr (11, [.ref to, .ref ke, .ref ik, .ref mrf, .long mab, .long mbl, .ref ha, .ref r0, .ref mbr, .ref mbp, .ref mby, .int (nI bl), .int (nI ta), .int (nI tl), .int (nI tk), .int vv, .ref an, .ref va])), (mrf, .inl (y 0, 3, .inl u.1)), (to, .inl (y 0, 228, .inl ft)), (ha, .inl (y 0, 30, .inl u.2.1)), (mbp, .inl (y 0, 5, .inl u.2.2))]) A) A) [.ref mo, .int (nI j4), .int (nI j15)].toArray s 0 0 A) (F0 mZ 108 ls []) := by
                            intro fuj93
                            induction fuj93 with
                            | zero => intro j93 x1756 H locs ls hj9 hf9; exact absurd hf9 (Nat.not_lt_zero _)
                            | succ fuj93 ihj93 =>
                              intro j93 x1756 H locs ls hj93 hfj93  hP hD hS hl
                              refine lv_iload hx hb dX11_places_108 (lv_at hl 0 rfl) ?_
                              refine lv_aload_n hx hb dX11_places_110 rfl (lv_at hl 5 rfl) ?_
                              have hs1772 : kw_Split [(mrf, .inl (y 0, 3, .inl frf)), (mbp, .inl (y 0, 5, .inl x1756)), (mo, .inr (11, [.ref to, .ref ke, .ref ik, .ref mrf, .long mab, .long mbl, .ref ha, .ref r0, .ref mbr, .ref mbp, .ref mby, .int (nI bl), .int (nI ta), .int (nI tl), .int (nI tk), .int vv, .ref an, .ref va])), (to, .inl (y 0, 228, .inl ft)), (ha, .inl (y 0, 30, .inl v1738))] [(mo, .inr (11, [.ref to, .ref ke, .ref ik, .ref mrf, .long mab, .long mbl, .ref ha, .ref r0, .ref mbr, .ref mbp, .ref mby, .int (nI bl), .int (nI ta), .int (nI tl), .int (nI tk), .int vv, .ref an, .ref va])), (to, .inl (y 0, 228, .inl ft))] [(mrf, .inl (y 0, 3, .inl frf)), (mbp, .inl (y 0, 5, .inl x1756)), (ha, .inl (y 0, 30, .inl v1738))] [2, 3] [0, 1, 4] := ⟨rfl, rfl, rfl, rfl, rfl, by decide⟩
                              refine kw_go_i hs1772 hP hD hS hA (va_runV (As := []) (rest := [.int (nI j93)]) ⟨hx, hb, hml, hown, hts⟩ (gr_manyGleaners l D y mo to ke ik mrf ha r0 mbr mbp mby an va mab mbl bl ta tl tk vv ft fi gl mi no un hk0_ hk1_ hk2_ hk3_ hk4_ hkt hfi hgl hmi hno hun _) (cwV 0 hts gX11_places_X11_manyGleaners rfl rfl rfl (by decide +kernel) ⟨Nat.le_of_ble_eq_true rfl, Nat.le_of_ble_eq_true rfl⟩) (kw_PreV (ci := 11) (q0 := 2) hs1772 hP hD hK hN rfl rfl) rfl rfl hl.1 rfl (lv_room (Nat.le_of_ble_eq_true rfl)) dX11_places_111 ⟨Nat.le_of_ble_eq_true rfl, Nat.le_of_ble_eq_true rfl⟩) (fun r1773 u1774 H locs hq hP hD hS => ?_)
                              obtain rfl := hq
                              have hP : va_P D vwCl [(mrf, .inl (y 0, 3, .inl frf)), (mbp, .inl (y 0, 5, .inl x1756)), (ha, .inl (y 0, 30, .inl v1738)), (mo, .inr (11, [.ref to, .ref ke, .ref ik, .ref mrf, .long mab, .long mbl, .ref ha, .ref r0, .ref mbr, .ref mbp, .ref mby, .int (nI bl), .int (nI ta), .int (nI tl), .int (nI tk), .int vv, .ref an, .ref va])), (to, .inl (y 0, 228, .inl ft))] H := hP
                              have hD : va_D A [(mrf, .inl (y 0, 3, .inl frf)), (mbp, .inl (y 0, 5, .inl x1756)), (ha, .inl (y 0, 30, .inl v1738)), (mo, .inr (11, [.ref to, .ref ke, .ref ik, .ref mrf, .long mab, .long mbl, .ref ha, .ref r0, .ref mbr, .ref mbp, .ref mby, .int (nI bl), .int (nI ta), .int (nI tl), .int (nI tk), .int vv, .ref an, .ref va])), (to, .inl (y 0, 228, .inl ft))] := hD
                              refine lv_icmp_ge (tgt := 147) hx hb dX11_places_114 (by decide) (fun h1775 => ?_) (fun h1776 => ?_)
                              · skip
                                have h1775 : gl ≤ j93 := (nI_leI (a := gl) (b := j93) (by omega) (by omega)).mp h1775
                                refine lv_iload hx hb dX11_places_147 (lv_at hl 1 rfl) ?_
                                refine lv_iload hx hb dX11_places_149 (lv_at hl 3 rfl) ?_
                                refine lv_icmp_le (tgt := 159) hx hb dX11_places_151 (by decide) (fun h1777 => ?_) (fun h1778 => ?_)
                                · skip
                                  refine lv_iload hx hb dX11_places_159 (lv_at hl 3 rfl) ?_
                                  refine lv_istore (lv' := [(4, .int x1659), (7, .int (nI j93)), (6, .int r1736), (5, .int (nI j92)), (3, .int (nI NN)), (0, .ref mo), (1, .int (nI j4)), (2, .int (nI j15))]) hx hb dX11_places_161 hl (by decide) rfl (fun ls hl => ?_)
                                  refine lv_iinc (v := (nI (j92 + 1))) (lv' := [(5, .int (nI (j92 + 1))), (4, .int x1659), (7, .int (nI j93)), (6, .int r1736), (3, .int (nI NN)), (0, .ref mo), (1, .int (nI j4)), (2, .int (nI j15))]) hx hb dX11_places_163 hl (k := 3) rfl (nI_1 j92) (by decide) rfl (fun ls hl => ?_)
                                  refine lv_goto (tgt := 83) hx hb dX11_places_166 (by decide) ?_
                                  exact ihj92 (j92 + 1) v1738 x1659 x1756 H locs ls (by omega) (by omega) h1739 h1740 h1741 (hP.sub [0, 1, 2, 3, 4] rfl) (hD.sub [0, 1, 2, 3, 4] (by decide) rfl) hS (lv_sub hl [0, 1, 4, 5, 6, 7] rfl)
                                · skip
                                  refine lv_iload hx hb dX11_places_154 (lv_at hl 1 rfl) ?_
                                  refine lv_goto (tgt := 161) hx hb dX11_places_156 (by decide) ?_
                                  refine lv_istore (lv' := [(4, .int r1736), (7, .int (nI j93)), (6, .int r1736), (5, .int (nI j92)), (3, .int (nI NN)), (0, .ref mo), (1, .int (nI j4)), (2, .int (nI j15))]) hx hb dX11_places_161 hl (by decide) rfl (fun ls hl => ?_)
                                  refine lv_iinc (v := (nI (j92 + 1))) (lv' := [(5, .int (nI (j92 + 1))), (4, .int r1736), (7, .int (nI j93)), (6, .int r1736), (3, .int (nI NN)), (0, .ref mo), (1, .int (nI j4)), (2, .int (nI j15))]) hx hb dX11_places_163 hl (k := 3) rfl (nI_1 j92) (by decide) rfl (fun ls hl => ?_)
                                  refine lv_goto (tgt := 83) hx hb dX11_places_166 (by decide) ?_
                                  exact ihj92 (j92 + 1) v1738 r1736 x1756 H locs ls (by omega) (by omega) h1739 h1740 h1741 (hP.sub [0, 1, 2, 3, 4] rfl) (hD.sub [0, 1, 2, 3, 4] (by decide) rfl) hS (lv_sub hl [0, 1, 4, 5, 6, 7] rfl)
                              · skip
                                have h1776 : ¬ gl ≤ j93 := fun q9 => h1776 ((nI_leI (a := gl) (b := j93) (by omega) (by omega)).mpr q9)
                                refine lv_iload hx hb dX11_places_117 (lv_at hl 1 rfl) ?_
                                refine lv_iload hx hb dX11_places_119 (lv_at hl 3 rfl) ?_
                                refine lv_icmp_le (tgt := 147) hx hb dX11_places_121 (by decide) (fun h1779 => ?_) (fun h1780 => ?_)
                                · skip
                                  refine lv_iload hx hb dX11_places_147 (lv_at hl 1 rfl) ?_
                                  refine lv_iload hx hb dX11_places_149 (lv_at hl 3 rfl) ?_
                                  refine lv_icmp_le (tgt := 159) hx hb dX11_places_151 (by decide) (fun h1781 => ?_) (fun h1782 => ?_)
                                  · skip
                                    refine lv_iload hx hb dX11_places_159 (lv_at hl 3 rfl) ?_
                                    refine lv_istore (lv' := [(4, .int x1659), (7, .int (nI j93)), (6, .int r1736), (5, .int (nI j92)), (3, .int (nI NN)), (0, .ref mo), (1, .int (nI j4)), (2, .int (nI j15))]) hx hb dX11_places_161 hl (by decide) rfl (fun ls hl => ?_)
                                    refine lv_iinc (v := (nI (j92 + 1))) (lv' := [(5, .int (nI (j92 + 1))), (4, .int x1659), (7, .int (nI j93)), (6, .int r1736), (3, .int (nI NN)), (0, .ref mo), (1, .int (nI j4)), (2, .int (nI j15))]) hx hb dX11_places_163 hl (k := 3) rfl (nI_1 j92) (by decide) rfl (fun ls hl => ?_)
                                    refine lv_goto (tgt := 83) hx hb dX11_places_166 (by decide) ?_
                                    exact ihj92 (j92 + 1) v1738 x1659 x1756 H locs ls (by omega) (by omega) h1739 h1740 h1741 (hP.sub [0, 1, 2, 3, 4] rfl) (hD.sub [0, 1, 2, 3, 4] (by decide) rfl) hS (lv_sub hl [0, 1, 4, 5, 6, 7] rfl)
                                  · skip
                                    exact absurd h1779 h1782
                                · skip
                                  refine lv_aload_n hx hb dX11_places_124 rfl (lv_at hl 5 rfl) ?_
                                  refine va_get (D := D) (ci := 11) (v := .ref mbp) (C := RX11) (T := TX11) (N := 18) hx hb hts iw11 hown hK hP 3 rfl rfl 9 (by decide) fw2 (fun _ h9 => h9) rfl dX11_places_125 ?_
                                  refine lv_iload hx hb dX11_places_128 (lv_at hl 0 rfl) ?_
                                  refine lv_aload_n hx hb dX11_places_130 rfl (lv_at hl 5 rfl) ?_
                                  refine va_get (D := D) (ci := 11) (v := .ref ha) (C := RX11) (T := TX11) (N := 18) hx hb hts iw11 hown hK hP 3 rfl rfl 6 (by decide) fw3 (fun _ h9 => h9) rfl dX11_places_131 ?_
                                  refine lv_bipush (v := 11) hx hb dX11_places_134 (by decide) ?_
                                  refine lv_iload hx hb dX11_places_136 (lv_at hl 0 rfl) ?_
                                  refine lv_iadd hx hb dX11_places_138 ?_
                                  rw [show 11 + (nI j93) = nI (j93 + 11) from (nI_add 11 j93).trans (congrArg nI (by omega))]
                                  refine va_iald hx hb hK hP 2 0 rfl rfl (vp_in_nI (by omega) (by decide)) dX11_places_139 ?_
                                  rw [nI_clamp (n := (j93 + 11)) (by omega)]
                                  obtain ⟨w1783, h1784, h1785⟩ := kr_at h1739 (p := (j93 + 11)) (by omega) (by unfold kr_a; omega)
                                  rw [h1785]
                                  refine va_iast hx hb hK hP hD hS 1 0 rfl rfl (vp_in_nI (by omega) (by decide)) dX11_places_140 (fun H locs hP hD hS => ?_)
                                  rw [nI_clamp (n := j93) (by omega)] at hP hD
                                  have hP : va_P D vwCl [(mrf, .inl (y 0, 3, .inl frf)), (mbp, .inl (y 0, 5, .inl (upd x1756 j93 (nI w1783)))), (ha, .inl (y 0, 30, .inl v1738)), (mo, .inr (11, [.ref to, .ref ke, .ref ik, .ref mrf, .long mab, .long mbl, .ref ha, .ref r0, .ref mbr, .ref mbp, .ref mby, .int (nI bl), .int (nI ta), .int (nI tl), .int (nI tk), .int vv, .ref an, .ref va])), (to, .inl (y 0, 228, .inl ft))] H := hP
                                  have hD : va_D A [(mrf, .inl (y 0, 3, .inl frf)), (mbp, .inl (y 0, 5, .inl (upd x1756 j93 (nI w1783)))), (ha, .inl (y 0, 30, .inl v1738)), (mo, .inr (11, [.ref to, .ref ke, .ref ik, .ref mrf, .long mab, .long mbl, .ref ha, .ref r0, .ref mbr, .ref mbp, .ref mby, .int (nI bl), .int (nI ta), .int (nI tl), .int (nI tk), .int vv, .ref an, .ref va])), (to, .inl (y 0, 228, .inl ft))] := hD
                                  refine lv_iinc (v := (nI (j93 + 1))) (lv' := [(7, .int (nI (j93 + 1))), (6, .int r1736), (5, .int (nI j92)), (4, .int x1659), (3, .int (nI NN)), (0, .ref mo), (1, .int (nI j4)), (2, .int (nI j15))]) hx hb dX11_places_141 hl (k := 0) rfl (nI_1 j93) (by decide) rfl (fun ls hl => ?_)
                                  refine lv_goto (tgt := 108) hx hb dX11_places_144 (by decide) ?_
                                  exact ihj93 (j93 + 1) (upd x1756 j93 (nI w1783)) H locs ls (by omega) (by omega)  (hP.sub [0, 1, 3, 4, 2] rfl) (hD.sub [0, 1, 3, 4, 2] (by decide) rfl) hS (lv_sub hl [0, 1, 2, 3, 4, 5, 6, 7] rfl)
                          exact lp1771 (gl + 1) 0 x1660 _ _ _ (by omega) (by omega)  hP hD hS (lv_sub hl [0, 1, 2, 3, 4, 5, 6, 7] rfl)
                  exact lp1723 (NN + 1) 0 (kr_cp fh ft 30) (-1) fbp _ _ _ (by omega) (by omega) h1178 hk1179 hk1180 hP hD hS (lv_sub hl [0, 1, 2, 3, 4, 5] rfl)
              · skip
                have h1589 : ¬ gl ≤ j91 := fun q9 => h1589 ((nI_leI (a := gl) (b := j91) (by omega) (by omega)).mpr q9)
                refine lv_iload_n hx hb dX11_places_67 rfl (lv_at hl 2 rfl) ?_
                refine lv_aload_n hx hb dX11_places_68 rfl (lv_at hl 3 rfl) ?_
                have hs1786 : kw_Split [(mrf, .inl (y 0, 3, .inl frf)), (mbp, .inl (y 0, 5, .inl fbp)), (ha, .inl (y 0, 30, .inl (kr_cp fh ft 30))), (mo, .inr (11, [.ref to, .ref ke, .ref ik, .ref mrf, .long mab, .long mbl, .ref ha, .ref r0, .ref mbr, .ref mbp, .ref mby, .int (nI bl), .int (nI ta), .int (nI tl), .int (nI tk), .int vv, .ref an, .ref va])), (to, .inl (y 0, 228, .inl ft))] [(mo, .inr (11, [.ref to, .ref ke, .ref ik, .ref mrf, .long mab, .long mbl, .ref ha, .ref r0, .ref mbr, .ref mbp, .ref mby, .int (nI bl), .int (nI ta), .int (nI tl), .int (nI tk), .int vv, .ref an, .ref va])), (to, .inl (y 0, 228, .inl ft))] [(mrf, .inl (y 0, 3, .inl frf)), (mbp, .inl (y 0, 5, .inl fbp)), (ha, .inl (y 0, 30, .inl (kr_cp fh ft 30)))] [3, 4] [0, 1, 2] := ⟨rfl, rfl, rfl, rfl, rfl, by decide⟩
                refine kw_go_i hs1786 hP hD hS hA (va_runV (As := []) (rest := [.int x1379]) ⟨hx, hb, hml, hown, hts⟩ (gr_many l D y mo to ke ik mrf ha r0 mbr mbp mby an va mab mbl bl ta tl tk vv ft fi gl mi no un hk0_ hk1_ hk2_ hk3_ hk4_ hkt hfi hgl hmi hno hun _) (cwV 0 hts gX11_places_X11_many rfl rfl rfl (by decide +kernel) ⟨Nat.le_of_ble_eq_true rfl, Nat.le_of_ble_eq_true rfl⟩) (kw_PreV (ci := 11) (q0 := 3) hs1786 hP hD hK hN rfl rfl) rfl rfl hl.1 rfl (lv_room (Nat.le_of_ble_eq_true rfl)) dX11_places_69 ⟨Nat.le_of_ble_eq_true rfl, Nat.le_of_ble_eq_true rfl⟩) (fun r1787 u1788 H locs hq hP hD hS => ?_)
                obtain rfl := hq
                have hP : va_P D vwCl [(mrf, .inl (y 0, 3, .inl frf)), (mbp, .inl (y 0, 5, .inl fbp)), (ha, .inl (y 0, 30, .inl (kr_cp fh ft 30))), (mo, .inr (11, [.ref to, .ref ke, .ref ik, .ref mrf, .long mab, .long mbl, .ref ha, .ref r0, .ref mbr, .ref mbp, .ref mby, .int (nI bl), .int (nI ta), .int (nI tl), .int (nI tk), .int vv, .ref an, .ref va])), (to, .inl (y 0, 228, .inl ft))] H := hP
                have hD : va_D A [(mrf, .inl (y 0, 3, .inl frf)), (mbp, .inl (y 0, 5, .inl fbp)), (ha, .inl (y 0, 30, .inl (kr_cp fh ft 30))), (mo, .inr (11, [.ref to, .ref ke, .ref ik, .ref mrf, .long mab, .long mbl, .ref ha, .ref r0, .ref mbr, .ref mbp, .ref mby, .int (nI bl), .int (nI ta), .int (nI tl), .int (nI tk), .int vv, .ref an, .ref va])), (to, .inl (y 0, 228, .inl ft))] := hD
                refine lv_imul hx hb dX11_places_72 ?_
                refine lv_istore_n (lv' := [(3, .int (x1379 * (nI fi))), (5, .int (nI j91)), (4, .int (-1)), (0, .ref mo), (1, .int (nI j4)), (2, .int (nI j15))]) hx hb dX11_places_73 rfl hl (by decide) rfl (fun ls hl => ?_)
                refine lv_iinc (v := (nI (j91 + 1))) (lv' := [(5, .int (nI (j91 + 1))), (3, .int (x1379 * (nI fi))), (4, .int (-1)), (0, .ref mo), (1, .int (nI j4)), (2, .int (nI j15))]) hx hb dX11_places_74 hl (k := 1) rfl (nI_1 j91) (by decide) rfl (fun ls hl => ?_)
                refine lv_goto (tgt := 58) hx hb dX11_places_77 (by decide) ?_
                exact ihj91 (j91 + 1) (x1379 * (nI fi)) H locs ls (by omega) (by omega)  (hP.sub [0, 1, 3, 4, 2] rfl) (hD.sub [0, 1, 3, 4, 2] (by decide) rfl) hS (lv_sub hl [0, 2, 1, 3, 4, 5] rfl)
          exact lp1584 (gl + 1) 0 1 _ _ _ (by omega) (by omega)  hP hD hS (lv_sub hl [0, 1, 2, 3, 4, 5] rfl)
        · skip
          have h1174 : gl = 0 := (nI_eq (a := gl) (b := 0) (by omega) (by omega)).mp h1174
          refine lv_iconst (v := 0) hx hb dX11_places_44 (by decide) ?_
          refine lv_goto (tgt := 49) hx hb dX11_places_45 (by decide) ?_
          refine lv_istore (lv' := [(4, .int 0), (3, .int 1), (0, .ref mo), (1, .int (nI j4)), (2, .int (nI j15))]) hx hb dX11_places_49 hl (by decide) rfl (fun ls hl => ?_)
          refine lv_aload_n hx hb dX11_places_51 rfl (lv_at hl 2 rfl) ?_
          have hs1789 : kw_Split [(mrf, .inl (y 0, 3, .inl frf)), (ha, .inl (y 0, 30, .inl fh)), (mbp, .inl (y 0, 5, .inl fbp)), (mo, .inr (11, [.ref to, .ref ke, .ref ik, .ref mrf, .long mab, .long mbl, .ref ha, .ref r0, .ref mbr, .ref mbp, .ref mby, .int (nI bl), .int (nI ta), .int (nI tl), .int (nI tk), .int vv, .ref an, .ref va])), (to, .inl (y 0, 228, .inl ft))] [(mo, .inr (11, [.ref to, .ref ke, .ref ik, .ref mrf, .long mab, .long mbl, .ref ha, .ref r0, .ref mbr, .ref mbp, .ref mby, .int (nI bl), .int (nI ta), .int (nI tl), .int (nI tk), .int vv, .ref an, .ref va])), (to, .inl (y 0, 228, .inl ft)), (ha, .inl (y 0, 30, .inl fh))] [(mrf, .inl (y 0, 3, .inl frf)), (mbp, .inl (y 0, 5, .inl fbp))] [3, 4, 1] [0, 2] := ⟨rfl, rfl, rfl, rfl, rfl, by decide⟩
          refine kw_go_v hs1789 hP hD hS hA (va_runV (As := []) (rest := []) ⟨hx, hb, hml, hown, hts⟩ (gr_layHand l D y mo to ke ik mrf ha r0 mbr mbp mby an va mab mbl bl ta tl tk vv ft fi gl mi no un fh hk0_ hk1_ hk2_ hk3_ hk4_ hkt hfi hgl hmi hno hun hkh _) (cwV 0 hts gX11_places_X11_layHand rfl rfl rfl (by decide +kernel) ⟨Nat.le_of_ble_eq_true rfl, Nat.le_of_ble_eq_true rfl⟩) (kw_PreV (ci := 11) (q0 := 3) hs1789 hP hD hK hN rfl rfl) rfl rfl hl.1 rfl (lv_room (Nat.le_of_ble_eq_true rfl)) dX11_places_52 ⟨Nat.le_of_ble_eq_true rfl, Nat.le_of_ble_eq_true rfl⟩) (fun u1791 H locs hq hP hD hS => ?_)
          have h1792 := hq
          have hk1793 : (kr_cp fh ft 30) 0 = (nI fi) := ((kr_cp_lt (by decide)).trans hk0_)
          have hk1794 : (kr_cp fh ft 30) 1 = (nI gl) := ((kr_cp_lt (by decide)).trans hk1_)
          have hP : va_P D vwCl [(mrf, .inl (y 0, 3, .inl frf)), (mbp, .inl (y 0, 5, .inl fbp)), (mo, .inr (11, [.ref to, .ref ke, .ref ik, .ref mrf, .long mab, .long mbl, .ref ha, .ref r0, .ref mbr, .ref mbp, .ref mby, .int (nI bl), .int (nI ta), .int (nI tl), .int (nI tk), .int vv, .ref an, .ref va])), (to, .inl (y 0, 228, .inl ft)), (ha, .inl (y 0, 30, .inl (kr_cp fh ft 30)))] H := hP
          have hD : va_D A [(mrf, .inl (y 0, 3, .inl frf)), (mbp, .inl (y 0, 5, .inl fbp)), (mo, .inr (11, [.ref to, .ref ke, .ref ik, .ref mrf, .long mab, .long mbl, .ref ha, .ref r0, .ref mbr, .ref mbp, .ref mby, .int (nI bl), .int (nI ta), .int (nI tl), .int (nI tk), .int vv, .ref an, .ref va])), (to, .inl (y 0, 228, .inl ft)), (ha, .inl (y 0, 30, .inl (kr_cp fh ft 30)))] := hD
          refine lv_iconst (v := 0) hx hb dX11_places_55 (by decide) ?_
          refine lv_istore (lv' := [(5, .int 0), (4, .int 0), (3, .int 1), (0, .ref mo), (1, .int (nI j4)), (2, .int (nI j15))]) hx hb dX11_places_56 hl (by decide) rfl (fun ls hl => ?_)
          have lp2198 : ∀ (fuj91 j91 : Nat) (x1993 : Int32) (H : Heap) (locs : List Loc) (ls : Array Slot), j91 ≤ gl → gl - j91 < fuj91 → va_P D vwCl [(mrf, .inl (y 0, 3, .inl frf)), (mbp, .inl (y 0, 5, .inl fbp)), (mo, .inr (11, [.ref to, .ref ke, .ref ik, .ref mrf, .long mab, .long mbl, .ref ha, .ref r0, .ref mbr, .ref mbp, .ref mby, .int (nI bl), .int (nI ta), .int (nI tl), .int (nI tk), .int vv, .ref an, .ref va])), (to, .inl (y 0, 228, .inl ft)), (ha, .inl (y 0, 30, .inl (kr_cp fh ft 30)))] H → va_D A [(mrf, .inl (y 0, 3, .inl frf)), (mbp, .inl (y 0, 5, .inl fbp)), (mo, .inr (11, [.ref to, .ref ke, .ref ik, .ref mrf, .long mab, .long mbl, .ref ha, .ref r0, .ref mbr, .ref mbp, .ref mby, .int (nI bl), .int (nI ta), .int (nI tl), .int (nI tk), .int vv, .ref an, .ref va])), (to, .inl (y 0, 228, .inl ft)), (ha, .inl (y 0, 30, .inl (kr_cp fh ft 30)))] → va_S A s.heap H locs → lv_has ls 8 [(5, .int (nI j91)), (4, .int 0), (3, .int x1993), (0, .ref mo), (1, .int (nI j4)), (2, .int (nI j15))] → W pZ l eZ ({ frames := 7, cells := 0, slots := 0, locals := 199 }) s mZ [.ref mo, .int (nI j4), .int (nI j15)].toArray beZ meZ cZ H locs 0 0 (MQ beZ (va_Qi (fun (r : Int32) (u : (Nat → Int32) × (Nat → Int32) × (Nat → Int32)) => kr_t 30 u.2.1 ∧ (gl = 0 ∨ 0 < fi)) (kw_B D (fun u => [(mo, .inr (11, [.ref to, .ref ke, .ref ik, .ref mrf, .long mab, .long mbl, .ref ha, .ref r0, .ref mbr, .ref mbp, .ref mby, .int (nI bl), .int (nI ta), .int (nI tl), .int (nI tk), .int vv, .ref an, .ref va])), (mrf, .inl (y 0, 3, .inl u.1)), (to, .inl (y 0, 228, .inl ft)), (ha, .inl (y 0, 30, .inl u.2.1)), (mbp, .inl (y 0, 5, .inl u.2.2))]) A) A) [.ref mo, .int (nI j4), .int (nI j15)].toArray s 0 0 A) (F0 mZ 58 ls []) := by
            intro fuj91
            induction fuj91 with
            | zero => intro j91 x1993 H locs ls hj9 hf9; exact absurd hf9 (Nat.not_lt_zero _)
            | succ fuj91 ihj91 =>
              intro j91 x1993 H locs ls hj91 hfj91  hP hD hS hl
              refine lv_iload hx hb dX11_places_58 (lv_at hl 0 rfl) ?_
              refine lv_aload_n hx hb dX11_places_60 rfl (lv_at hl 3 rfl) ?_
              have hs2199 : kw_Split [(mrf, .inl (y 0, 3, .inl frf)), (mbp, .inl (y 0, 5, .inl fbp)), (mo, .inr (11, [.ref to, .ref ke, .ref ik, .ref mrf, .long mab, .long mbl, .ref ha, .ref r0, .ref mbr, .ref mbp, .ref mby, .int (nI bl), .int (nI ta), .int (nI tl), .int (nI tk), .int vv, .ref an, .ref va])), (to, .inl (y 0, 228, .inl ft)), (ha, .inl (y 0, 30, .inl (kr_cp fh ft 30)))] [(mo, .inr (11, [.ref to, .ref ke, .ref ik, .ref mrf, .long mab, .long mbl, .ref ha, .ref r0, .ref mbr, .ref mbp, .ref mby, .int (nI bl), .int (nI ta), .int (nI tl), .int (nI tk), .int vv, .ref an, .ref va])), (to, .inl (y 0, 228, .inl ft))] [(mrf, .inl (y 0, 3, .inl frf)), (mbp, .inl (y 0, 5, .inl fbp)), (ha, .inl (y 0, 30, .inl (kr_cp fh ft 30)))] [2, 3] [0, 1, 4] := ⟨rfl, rfl, rfl, rfl, rfl, by decide⟩
              refine kw_go_i hs2199 hP hD hS hA (va_runV (As := []) (rest := [.int (nI j91)]) ⟨hx, hb, hml, hown, hts⟩ (gr_manyGleaners l D y mo to ke ik mrf ha r0 mbr mbp mby an va mab mbl bl ta tl tk vv ft fi gl mi no un hk0_ hk1_ hk2_ hk3_ hk4_ hkt hfi hgl hmi hno hun _) (cwV 0 hts gX11_places_X11_manyGleaners rfl rfl rfl (by decide +kernel) ⟨Nat.le_of_ble_eq_true rfl, Nat.le_of_ble_eq_true rfl⟩) (kw_PreV (ci := 11) (q0 := 2) hs2199 hP hD hK hN rfl rfl) rfl rfl hl.1 rfl (lv_room (Nat.le_of_ble_eq_true rfl)) dX11_places_61 ⟨Nat.le_of_ble_eq_true rfl, Nat.le_of_ble_eq_true rfl⟩) (fun r2200 u2201 H locs hq hP hD hS => ?_)
              obtain rfl := hq
              have hP : va_P D vwCl [(mrf, .inl (y 0, 3, .inl frf)), (mbp, .inl (y 0, 5, .inl fbp)), (ha, .inl (y 0, 30, .inl (kr_cp fh ft 30))), (mo, .inr (11, [.ref to, .ref ke, .ref ik, .ref mrf, .long mab, .long mbl, .ref ha, .ref r0, .ref mbr, .ref mbp, .ref mby, .int (nI bl), .int (nI ta), .int (nI tl), .int (nI tk), .int vv, .ref an, .ref va])), (to, .inl (y 0, 228, .inl ft))] H := hP
              have hD : va_D A [(mrf, .inl (y 0, 3, .inl frf)), (mbp, .inl (y 0, 5, .inl fbp)), (ha, .inl (y 0, 30, .inl (kr_cp fh ft 30))), (mo, .inr (11, [.ref to, .ref ke, .ref ik, .ref mrf, .long mab, .long mbl, .ref ha, .ref r0, .ref mbr, .ref mbp, .ref mby, .int (nI bl), .int (nI ta), .int (nI tl), .int (nI tk), .int vv, .ref an, .ref va])), (to, .inl (y 0, 228, .inl ft))] := hD
              refine lv_icmp_ge (tgt := 80) hx hb dX11_places_64 (by decide) (fun h2202 => ?_) (fun h2203 => ?_)
              · skip
                have h2202 : gl ≤ j91 := (nI_leI (a := gl) (b := j91) (by omega) (by omega)).mp h2202
                rcases kw_nn x1993 with h2204 | ⟨NN, hNN, rfl⟩
                · skip
                  have h2205 : x1993 ≤ 0 := Int32.le_of_lt h2204
                  refine lv_iconst (v := 0) hx hb dX11_places_80 (by decide) ?_
                  refine lv_istore (lv' := [(5, .int 0), (4, .int 0), (3, .int x1993), (0, .ref mo), (1, .int (nI j4)), (2, .int (nI j15))]) hx hb dX11_places_81 hl (by decide) rfl (fun ls hl => ?_)
                  refine lv_iload hx hb dX11_places_83 (lv_at hl 0 rfl) ?_
                  refine lv_iload_n hx hb dX11_places_85 rfl (lv_at hl 2 rfl) ?_
                  refine lv_icmp_ge (tgt := 169) hx hb dX11_places_86 (by decide) (fun h2206 => ?_) (fun h2207 => ?_)
                  · skip
                    refine lv_iload_n hx hb dX11_places_169 rfl (lv_at hl 5 rfl) ?_
                    refine lv_iconst (v := (-1)) hx hb dX11_places_170 (by decide) ?_
                    refine lv_icmp_ne (tgt := 179) hx hb dX11_places_171 (by decide) (fun h2208 => ?_) (fun h2209 => ?_)
                    · skip
                      refine lv_aload_n hx hb dX11_places_179 rfl (lv_at hl 3 rfl) ?_
                      refine va_get (D := D) (ci := 11) (v := .ref mbp) (C := RX11) (T := TX11) (N := 18) hx hb hts iw11 hown hK hP 3 rfl rfl 9 (by decide) fw2 (fun _ h9 => h9) rfl dX11_places_180 ?_
                      refine lv_iload_n hx hb dX11_places_183 rfl (lv_at hl 5 rfl) ?_
                      refine va_iald hx hb hK hP 1 0 rfl rfl (vp_in_nI (by omega) (by decide)) dX11_places_184 ?_
                      rw [nI_clamp (n := j15) (by omega)]
                      exact W.iret (v := (fbp j15)) hx hb hr (fun tZ ht hW => ⟨⟨(fbp j15), (frf, (kr_cp fh ft 30), fbp), rfl, ⟨h1792, by first | omega | (dsimp only; omega)⟩, by rw [ht]; exact hP.sub [3, 0, 4, 2, 1] rfl, hD.sub [3, 0, 4, 2, 1] (by decide) rfl⟩, hS.F ht⟩) hS.2.2 dX11_places_185
                    · skip
                      refine lv_iload hx hb dX11_places_174 (lv_at hl 1 rfl) ?_
                      refine lv_goto (tgt := 185) hx hb dX11_places_176 (by decide) ?_
                      exact W.iret (v := 0) hx hb hr (fun tZ ht hW => ⟨⟨0, (frf, (kr_cp fh ft 30), fbp), rfl, ⟨h1792, by first | omega | (dsimp only; omega)⟩, by rw [ht]; exact hP.sub [3, 0, 4, 2, 1] rfl, hD.sub [3, 0, 4, 2, 1] (by decide) rfl⟩, hS.F ht⟩) hS.2.2 dX11_places_185
                  · skip
                    exact absurd h2205 h2207
                · skip
                  refine lv_iconst (v := 0) hx hb dX11_places_80 (by decide) ?_
                  refine lv_istore (lv' := [(5, .int 0), (4, .int 0), (3, .int (nI NN)), (0, .ref mo), (1, .int (nI j4)), (2, .int (nI j15))]) hx hb dX11_places_81 hl (by decide) rfl (fun ls hl => ?_)
                  have lp2337 : ∀ (fuj92 j92 : Nat) (x2272 : Nat → Int32) (x2273 : Int32) (x2274 : Nat → Int32) (H : Heap) (locs : List Loc) (ls : Array Slot), j92 ≤ NN → NN - j92 < fuj92 → kr_t 30 x2272 → x2272 0 = (nI fi) → x2272 1 = (nI gl) → va_P D vwCl [(mrf, .inl (y 0, 3, .inl frf)), (mbp, .inl (y 0, 5, .inl x2274)), (ha, .inl (y 0, 30, .inl x2272)), (mo, .inr (11, [.ref to, .ref ke, .ref ik, .ref mrf, .long mab, .long mbl, .ref ha, .ref r0, .ref mbr, .ref mbp, .ref mby, .int (nI bl), .int (nI ta), .int (nI tl), .int (nI tk), .int vv, .ref an, .ref va])), (to, .inl (y 0, 228, .inl ft))] H → va_D A [(mrf, .inl (y 0, 3, .inl frf)), (mbp, .inl (y 0, 5, .inl x2274)), (ha, .inl (y 0, 30, .inl x2272)), (mo, .inr (11, [.ref to, .ref ke, .ref ik, .ref mrf, .long mab, .long mbl, .ref ha, .ref r0, .ref mbr, .ref mbp, .ref mby, .int (nI bl), .int (nI ta), .int (nI tl), .int (nI tk), .int vv, .ref an, .ref va])), (to, .inl (y 0, 228, .inl ft))] → va_S A s.heap H locs → lv_has ls 8 [(5, .int (nI j92)), (4, .int x2273), (3, .int (nI NN)), (0, .ref mo), (1, .int (nI j4)), (2, .int (nI j15))] → W pZ l eZ ({ frames := 7, cells := 0, slots := 0, locals := 199 }) s mZ [.ref mo, .int (nI j4), .int (nI j15)].toArray beZ meZ cZ H locs 0 0 (MQ beZ (va_Qi (fun (r : Int32) (u : (Nat → Int32) × (Nat → Int32) × (Nat → Int32)) => kr_t 30 u.2.1 ∧ (gl = 0 ∨ 0 < fi)) (kw_B D (fun u => [(mo, .inr (11, [.ref to, .ref ke, .ref ik, .ref mrf, .long mab, .long mbl, .ref ha, .ref r0, .ref mbr, .ref mbp, .ref mby, .int (nI bl), .int (nI ta), .int (nI tl), .int (nI tk), .int vv, .ref an, .ref va])), (mrf, .inl (y 0, 3, .inl u.1)), (to, .inl (y 0, 228, .inl ft)), (ha, .inl (y 0, 30, .inl u.2.1)), (mbp, .inl (y 0, 5, .inl u.2.2))]) A) A) [.ref mo, .int (nI j4), .int (nI j15)].toArray s 0 0 A) (F0 mZ 83 ls []) := by
                    intro fuj92
                    induction fuj92 with
                    | zero => intro j92 x2272 x2273 x2274 H locs ls hj9 hf9; exact absurd hf9 (Nat.not_lt_zero _)
                    | succ fuj92 ihj92 =>
                      intro j92 x2272 x2273 x2274 H locs ls hj92 hfj92 hr_x2272 hk_x2272_0 hk_x2272_1 hP hD hS hl
                      refine lv_iload hx hb dX11_places_83 (lv_at hl 0 rfl) ?_
                      refine lv_iload_n hx hb dX11_places_85 rfl (lv_at hl 2 rfl) ?_
                      refine lv_icmp_ge (tgt := 169) hx hb dX11_places_86 (by decide) (fun h2338 => ?_) (fun h2339 => ?_)
                      · skip
                        have h2338 : NN ≤ j92 := (nI_leI (a := NN) (b := j92) (by omega) (by omega)).mp h2338
                        refine lv_iload_n hx hb dX11_places_169 rfl (lv_at hl 5 rfl) ?_
                        refine lv_iconst (v := (-1)) hx hb dX11_places_170 (by decide) ?_
                        refine lv_icmp_ne (tgt := 179) hx hb dX11_places_171 (by decide) (fun h2340 => ?_) (fun h2341 => ?_)
                        · skip
                          refine lv_aload_n hx hb dX11_places_179 rfl (lv_at hl 3 rfl) ?_
                          refine va_get (D := D) (ci := 11) (v := .ref mbp) (C := RX11) (T := TX11) (N := 18) hx hb hts iw11 hown hK hP 3 rfl rfl 9 (by decide) fw2 (fun _ h9 => h9) rfl dX11_places_180 ?_
                          refine lv_iload_n hx hb dX11_places_183 rfl (lv_at hl 5 rfl) ?_
                          refine va_iald hx hb hK hP 1 0 rfl rfl (vp_in_nI (by omega) (by decide)) dX11_places_184 ?_
                          rw [nI_clamp (n := j15) (by omega)]
                          exact W.iret (v := (x2274 j15)) hx hb hr (fun tZ ht hW => ⟨⟨(x2274 j15), (frf, x2272, x2274), rfl, ⟨hr_x2272, by first | omega | (dsimp only; omega)⟩, by rw [ht]; exact hP.sub [3, 0, 4, 2, 1] rfl, hD.sub [3, 0, 4, 2, 1] (by decide) rfl⟩, hS.F ht⟩) hS.2.2 dX11_places_185
                        · skip
                          refine lv_iload hx hb dX11_places_174 (lv_at hl 1 rfl) ?_
                          refine lv_goto (tgt := 185) hx hb dX11_places_176 (by decide) ?_
                          exact W.iret (v := x2273) hx hb hr (fun tZ ht hW => ⟨⟨x2273, (frf, x2272, x2274), rfl, ⟨hr_x2272, by first | omega | (dsimp only; omega)⟩, by rw [ht]; exact hP.sub [3, 0, 4, 2, 1] rfl, hD.sub [3, 0, 4, 2, 1] (by decide) rfl⟩, hS.F ht⟩) hS.2.2 dX11_places_185
                      · skip
                        have h2339 : ¬ NN ≤ j92 := fun q9 => h2339 ((nI_leI (a := NN) (b := j92) (by omega) (by omega)).mpr q9)
                        refine lv_aload_n hx hb dX11_places_89 rfl (lv_at hl 3 rfl) ?_
                        have hs2342 : kw_Split [(mrf, .inl (y 0, 3, .inl frf)), (mbp, .inl (y 0, 5, .inl x2274)), (ha, .inl (y 0, 30, .inl x2272)), (mo, .inr (11, [.ref to, .ref ke, .ref ik, .ref mrf, .long mab, .long mbl, .ref ha, .ref r0, .ref mbr, .ref mbp, .ref mby, .int (nI bl), .int (nI ta), .int (nI tl), .int (nI tk), .int vv, .ref an, .ref va])), (to, .inl (y 0, 228, .inl ft))] [(mo, .inr (11, [.ref to, .ref ke, .ref ik, .ref mrf, .long mab, .long mbl, .ref ha, .ref r0, .ref mbr, .ref mbp, .ref mby, .int (nI bl), .int (nI ta), .int (nI tl), .int (nI tk), .int vv, .ref an, .ref va])), (to, .inl (y 0, 228, .inl ft))] [(mrf, .inl (y 0, 3, .inl frf)), (mbp, .inl (y 0, 5, .inl x2274)), (ha, .inl (y 0, 30, .inl x2272))] [3, 4] [0, 1, 2] := ⟨rfl, rfl, rfl, rfl, rfl, by decide⟩
                        refine kw_go_i hs2342 hP hD hS hA (va_runV (As := []) (rest := []) ⟨hx, hb, hml, hown, hts⟩ (gr_manyGleaners l D y mo to ke ik mrf ha r0 mbr mbp mby an va mab mbl bl ta tl tk vv ft fi gl mi no un hk0_ hk1_ hk2_ hk3_ hk4_ hkt hfi hgl hmi hno hun _) (cwV 0 hts gX11_places_X11_manyGleaners rfl rfl rfl (by decide +kernel) ⟨Nat.le_of_ble_eq_true rfl, Nat.le_of_ble_eq_true rfl⟩) (kw_PreV (ci := 11) (q0 := 3) hs2342 hP hD hK hN rfl rfl) rfl rfl hl.1 rfl (lv_room (Nat.le_of_ble_eq_true rfl)) dX11_places_90 ⟨Nat.le_of_ble_eq_true rfl, Nat.le_of_ble_eq_true rfl⟩) (fun r2343 u2344 H locs hq hP hD hS => ?_)
                        obtain rfl := hq
                        have hP : va_P D vwCl [(mrf, .inl (y 0, 3, .inl frf)), (mbp, .inl (y 0, 5, .inl x2274)), (ha, .inl (y 0, 30, .inl x2272)), (mo, .inr (11, [.ref to, .ref ke, .ref ik, .ref mrf, .long mab, .long mbl, .ref ha, .ref r0, .ref mbr, .ref mbp, .ref mby, .int (nI bl), .int (nI ta), .int (nI tl), .int (nI tk), .int vv, .ref an, .ref va])), (to, .inl (y 0, 228, .inl ft))] H := hP
                        have hD : va_D A [(mrf, .inl (y 0, 3, .inl frf)), (mbp, .inl (y 0, 5, .inl x2274)), (ha, .inl (y 0, 30, .inl x2272)), (mo, .inr (11, [.ref to, .ref ke, .ref ik, .ref mrf, .long mab, .long mbl, .ref ha, .ref r0, .ref mbr, .ref mbp, .ref mby, .int (nI bl), .int (nI ta), .int (nI tl), .int (nI tk), .int vv, .ref an, .ref va])), (to, .inl (y 0, 228, .inl ft))] := hD
                        refine lv_if_le (tgt := 169) hx hb dX11_places_93 (by decide) (fun h2345 => ?_) (fun h2346 => ?_)
                        · skip
                          have h2345 : gl ≤ 0 := (nI_leI (a := gl) (b := 0) (by omega) (by omega)).mp h2345
                          refine lv_iload_n hx hb dX11_places_169 rfl (lv_at hl 5 rfl) ?_
                          refine lv_iconst (v := (-1)) hx hb dX11_places_170 (by decide) ?_
                          refine lv_icmp_ne (tgt := 179) hx hb dX11_places_171 (by decide) (fun h2347 => ?_) (fun h2348 => ?_)
                          · skip
                            refine lv_aload_n hx hb dX11_places_179 rfl (lv_at hl 3 rfl) ?_
                            refine va_get (D := D) (ci := 11) (v := .ref mbp) (C := RX11) (T := TX11) (N := 18) hx hb hts iw11 hown hK hP 3 rfl rfl 9 (by decide) fw2 (fun _ h9 => h9) rfl dX11_places_180 ?_
                            refine lv_iload_n hx hb dX11_places_183 rfl (lv_at hl 5 rfl) ?_
                            refine va_iald hx hb hK hP 1 0 rfl rfl (vp_in_nI (by omega) (by decide)) dX11_places_184 ?_
                            rw [nI_clamp (n := j15) (by omega)]
                            exact W.iret (v := (x2274 j15)) hx hb hr (fun tZ ht hW => ⟨⟨(x2274 j15), (frf, x2272, x2274), rfl, ⟨hr_x2272, by first | omega | (dsimp only; omega)⟩, by rw [ht]; exact hP.sub [3, 0, 4, 2, 1] rfl, hD.sub [3, 0, 4, 2, 1] (by decide) rfl⟩, hS.F ht⟩) hS.2.2 dX11_places_185
                          · skip
                            refine lv_iload hx hb dX11_places_174 (lv_at hl 1 rfl) ?_
                            refine lv_goto (tgt := 185) hx hb dX11_places_176 (by decide) ?_
                            exact W.iret (v := x2273) hx hb hr (fun tZ ht hW => ⟨⟨x2273, (frf, x2272, x2274), rfl, ⟨hr_x2272, by first | omega | (dsimp only; omega)⟩, by rw [ht]; exact hP.sub [3, 0, 4, 2, 1] rfl, hD.sub [3, 0, 4, 2, 1] (by decide) rfl⟩, hS.F ht⟩) hS.2.2 dX11_places_185
                        · skip
                          have h2346 : ¬ gl ≤ 0 := fun q9 => h2346 ((nI_leI (a := gl) (b := 0) (by omega) (by omega)).mpr q9)
                          refine lv_aload_n hx hb dX11_places_96 rfl (lv_at hl 3 rfl) ?_
                          refine lv_iload hx hb dX11_places_97 (lv_at hl 0 rfl) ?_
                          refine lv_iload_n hx hb dX11_places_99 rfl (lv_at hl 4 rfl) ?_
                          have hs2349 : kw_Split [(mrf, .inl (y 0, 3, .inl frf)), (mbp, .inl (y 0, 5, .inl x2274)), (ha, .inl (y 0, 30, .inl x2272)), (mo, .inr (11, [.ref to, .ref ke, .ref ik, .ref mrf, .long mab, .long mbl, .ref ha, .ref r0, .ref mbr, .ref mbp, .ref mby, .int (nI bl), .int (nI ta), .int (nI tl), .int (nI tk), .int vv, .ref an, .ref va])), (to, .inl (y 0, 228, .inl ft))] [(mo, .inr (11, [.ref to, .ref ke, .ref ik, .ref mrf, .long mab, .long mbl, .ref ha, .ref r0, .ref mbr, .ref mbp, .ref mby, .int (nI bl), .int (nI ta), .int (nI tl), .int (nI tk), .int vv, .ref an, .ref va])), (to, .inl (y 0, 228, .inl ft)), (ha, .inl (y 0, 30, .inl x2272))] [(mrf, .inl (y 0, 3, .inl frf)), (mbp, .inl (y 0, 5, .inl x2274))] [3, 4, 2] [0, 1] := ⟨rfl, rfl, rfl, rfl, rfl, by decide⟩
                          refine kw_go_i hs2349 hP hD hS hA (va_runV (As := [.int (nI j92), .int (nI j4)]) (rest := []) ⟨hx, hb, hml, hown, hts⟩ (gr_placesBy l D y mo to ke ik mrf ha r0 mbr mbp mby an va mab mbl bl ta tl tk vv ft fi gl mi no un x2272 j92 (nI j4) hk0_ hk1_ hk2_ hk3_ hk4_ hkt hfi hgl hmi hno hun hgf hr_x2272 hk_x2272_0 hk_x2272_1 (by omega) (by omega) _) (cwV 2 hts gX11_places_X11_placesBy rfl rfl rfl (by decide +kernel) ⟨Nat.le_of_ble_eq_true rfl, Nat.le_of_ble_eq_true rfl⟩) (kw_PreV (ci := 11) (q0 := 3) hs2349 hP hD hK hN rfl rfl) rfl rfl hl.1 rfl (lv_room (Nat.le_of_ble_eq_true rfl)) dX11_places_100 ⟨Nat.le_of_ble_eq_true rfl, Nat.le_of_ble_eq_true rfl⟩) (fun r2350 u2351 H locs hq hP hD hS => ?_)
                          obtain ⟨v2352, rfl⟩ : ∃ z, z = u2351 := ⟨_, rfl⟩
                          try dsimp only at hq
                          obtain ⟨h2353, h2354, h2355⟩ := hq
                          have hP : va_P D vwCl [(mrf, .inl (y 0, 3, .inl frf)), (mbp, .inl (y 0, 5, .inl x2274)), (mo, .inr (11, [.ref to, .ref ke, .ref ik, .ref mrf, .long mab, .long mbl, .ref ha, .ref r0, .ref mbr, .ref mbp, .ref mby, .int (nI bl), .int (nI ta), .int (nI tl), .int (nI tk), .int vv, .ref an, .ref va])), (to, .inl (y 0, 228, .inl ft)), (ha, .inl (y 0, 30, .inl v2352))] H := hP
                          have hD : va_D A [(mrf, .inl (y 0, 3, .inl frf)), (mbp, .inl (y 0, 5, .inl x2274)), (mo, .inr (11, [.ref to, .ref ke, .ref ik, .ref mrf, .long mab, .long mbl, .ref ha, .ref r0, .ref mbr, .ref mbp, .ref mby, .int (nI bl), .int (nI ta), .int (nI tl), .int (nI tk), .int vv, .ref an, .ref va])), (to, .inl (y 0, 228, .inl ft)), (ha, .inl (y 0, 30, .inl v2352))] := hD
                          refine lv_istore (lv' := [(6, .int r2350), (5, .int (nI j92)), (4, .int x2273), (3, .int (nI NN)), (0, .ref mo), (1, .int (nI j4)), (2, .int (nI j15))]) hx hb dX11_places_103 hl (by decide) rfl (fun ls hl => ?_)
                          refine lv_iconst (v := 0) hx hb dX11_places_105 (by decide) ?_
                          refine lv_istore (lv' := [(7, .int 0), (6, .int r2350), (5, .int (nI j92)), (4, .int x2273), (3, .int (nI NN)), (0, .ref mo), (1, .int (nI j4)), (2, .int (nI j15))]) hx hb dX11_places_106 hl (by decide) rfl (fun ls hl => ?_)
                          have lp2385 : ∀ (fuj93 j93 : Nat) (x2370 : Nat → Int32) (H : Heap) (locs : List Loc) (ls : Array Slot), j93 ≤ gl → gl - j93 < fuj93 → va_P D vwCl [(mrf, .inl (y 0, 3, .inl frf)), (mbp, .inl (y 0, 5, .inl x2370)), (mo, .inr (11, [.ref to, .ref ke, .ref ik, .ref mrf, .long mab, .long mbl, .ref ha, .ref r0, .ref mbr, .ref mbp, .ref mby, .int (nI bl), .int (nI ta), .int (nI tl), .int (nI tk), .int vv, .ref an, .ref va])), (to, .inl (y 0, 228, .inl ft)), (ha, .inl (y 0, 30, .inl v2352))] H → va_D A [(mrf, .inl (y 0, 3, .inl frf)), (mbp, .inl (y 0, 5, .inl x2370)), (mo, .inr (11, [.ref to, .ref ke, .ref ik, .ref mrf, .long mab, .long mbl, .ref ha, .ref r0, .ref mbr, .ref mbp, .ref mby, .int (nI bl), .int (nI ta), .int (nI tl), .int (nI tk), .int vv, .ref an, .ref va])), (to, .inl (y 0, 228, .inl ft)), (ha, .inl (y 0, 30, .inl v2352))] → va_S A s.heap H locs → lv_has ls 8 [(7, .int (nI j93)), (6, .int r2350), (5, .int (nI j92)), (4, .int x2273), (3, .int (nI NN)), (0, .ref mo), (1, .int (nI j4)), (2, .int (nI j15))] → W pZ l eZ ({ frames := 7, cells := 0, slots := 0, locals := 199 }) s mZ [.ref mo, .int (nI j4), .int (nI j15)].toArray beZ meZ cZ H locs 0 0 (MQ beZ (va_Qi (fun (r : Int32) (u : (Nat → Int32) × (Nat → Int32) × (Nat → Int32)) => kr_t 30 u.2.1 ∧ (gl = 0 ∨ 0 < fi)) (kw_B D (fun u => [(mo, .inr (11, [.ref to, .ref ke, .ref ik, .ref mrf, .long mab, .long mbl, .ref ha, .ref r0, .ref mbr, .ref mbp, .ref mby, .int (nI bl), .int (nI ta), .int (nI tl), .int (nI tk), .int vv, .ref an, .ref va])), (mrf, .inl (y 0, 3, .inl u.1)), (to, .inl (y 0, 228, .inl ft)), (ha, .inl (y 0, 30, .inl u.2.1)), (mbp, .inl (y 0, 5, .inl u.2.2))]) A) A) [.ref mo, .int (nI j4), .int (nI j15)].toArray s 0 0 A) (F0 mZ 108 ls []) := by
                            intro fuj93
                            induction fuj93 with
                            | zero => intro j93 x2370 H locs ls hj9 hf9; exact absurd hf9 (Nat.not_lt_zero _)
                            | succ fuj93 ihj93 =>
                              intro j93 x2370 H locs ls hj93 hfj93  hP hD hS hl
                              refine lv_iload hx hb dX11_places_108 (lv_at hl 0 rfl) ?_
                              refine lv_aload_n hx hb dX11_places_110 rfl (lv_at hl 5 rfl) ?_
                              have hs2386 : kw_Split [(mrf, .inl (y 0, 3, .inl frf)), (mbp, .inl (y 0, 5, .inl x2370)), (mo, .inr (11, [.ref to, .ref ke, .ref ik, .ref mrf, .long mab, .long mbl, .ref ha, .ref r0, .ref mbr, .ref mbp, .ref mby, .int (nI bl), .int (nI ta), .int (nI tl), .int (nI tk), .int vv, .ref an, .ref va])), (to, .inl (y 0, 228, .inl ft)), (ha, .inl (y 0, 30, .inl v2352))] [(mo, .inr (11, [.ref to, .ref ke, .ref ik, .ref mrf, .long mab, .long mbl, .ref ha, .ref r0, .ref mbr, .ref mbp, .ref mby, .int (nI bl), .int (nI ta), .int (nI tl), .int (nI tk), .int vv, .ref an, .ref va])), (to, .inl (y 0, 228, .inl ft))] [(mrf, .inl (y 0, 3, .inl frf)), (mbp, .inl (y 0, 5, .inl x2370)), (ha, .inl (y 0, 30, .inl v2352))] [2, 3] [0, 1, 4] := ⟨rfl, rfl, rfl, rfl, rfl, by decide⟩
                              refine kw_go_i hs2386 hP hD hS hA (va_runV (As := []) (rest := [.int (nI j93)]) ⟨hx, hb, hml, hown, hts⟩ (gr_manyGleaners l D y mo to ke ik mrf ha r0 mbr mbp mby an va mab mbl bl ta tl tk vv ft fi gl mi no un hk0_ hk1_ hk2_ hk3_ hk4_ hkt hfi hgl hmi hno hun _) (cwV 0 hts gX11_places_X11_manyGleaners rfl rfl rfl (by decide +kernel) ⟨Nat.le_of_ble_eq_true rfl, Nat.le_of_ble_eq_true rfl⟩) (kw_PreV (ci := 11) (q0 := 2) hs2386 hP hD hK hN rfl rfl) rfl rfl hl.1 rfl (lv_room (Nat.le_of_ble_eq_true rfl)) dX11_places_111 ⟨Nat.le_of_ble_eq_true rfl, Nat.le_of_ble_eq_true rfl⟩) (fun r2387 u2388 H locs hq hP hD hS => ?_)
                              obtain rfl := hq
                              have hP : va_P D vwCl [(mrf, .inl (y 0, 3, .inl frf)), (mbp, .inl (y 0, 5, .inl x2370)), (ha, .inl (y 0, 30, .inl v2352)), (mo, .inr (11, [.ref to, .ref ke, .ref ik, .ref mrf, .long mab, .long mbl, .ref ha, .ref r0, .ref mbr, .ref mbp, .ref mby, .int (nI bl), .int (nI ta), .int (nI tl), .int (nI tk), .int vv, .ref an, .ref va])), (to, .inl (y 0, 228, .inl ft))] H := hP
                              have hD : va_D A [(mrf, .inl (y 0, 3, .inl frf)), (mbp, .inl (y 0, 5, .inl x2370)), (ha, .inl (y 0, 30, .inl v2352)), (mo, .inr (11, [.ref to, .ref ke, .ref ik, .ref mrf, .long mab, .long mbl, .ref ha, .ref r0, .ref mbr, .ref mbp, .ref mby, .int (nI bl), .int (nI ta), .int (nI tl), .int (nI tk), .int vv, .ref an, .ref va])), (to, .inl (y 0, 228, .inl ft))] := hD
                              refine lv_icmp_ge (tgt := 147) hx hb dX11_places_114 (by decide) (fun h2389 => ?_) (fun h2390 => ?_)
                              · skip
                                have h2389 : gl ≤ j93 := (nI_leI (a := gl) (b := j93) (by omega) (by omega)).mp h2389
                                refine lv_iload hx hb dX11_places_147 (lv_at hl 1 rfl) ?_
                                refine lv_iload hx hb dX11_places_149 (lv_at hl 3 rfl) ?_
                                refine lv_icmp_le (tgt := 159) hx hb dX11_places_151 (by decide) (fun h2391 => ?_) (fun h2392 => ?_)
                                · skip
                                  refine lv_iload hx hb dX11_places_159 (lv_at hl 3 rfl) ?_
                                  refine lv_istore (lv' := [(4, .int x2273), (7, .int (nI j93)), (6, .int r2350), (5, .int (nI j92)), (3, .int (nI NN)), (0, .ref mo), (1, .int (nI j4)), (2, .int (nI j15))]) hx hb dX11_places_161 hl (by decide) rfl (fun ls hl => ?_)
                                  refine lv_iinc (v := (nI (j92 + 1))) (lv' := [(5, .int (nI (j92 + 1))), (4, .int x2273), (7, .int (nI j93)), (6, .int r2350), (3, .int (nI NN)), (0, .ref mo), (1, .int (nI j4)), (2, .int (nI j15))]) hx hb dX11_places_163 hl (k := 3) rfl (nI_1 j92) (by decide) rfl (fun ls hl => ?_)
                                  refine lv_goto (tgt := 83) hx hb dX11_places_166 (by decide) ?_
                                  exact ihj92 (j92 + 1) v2352 x2273 x2370 H locs ls (by omega) (by omega) h2353 h2354 h2355 (hP.sub [0, 1, 2, 3, 4] rfl) (hD.sub [0, 1, 2, 3, 4] (by decide) rfl) hS (lv_sub hl [0, 1, 4, 5, 6, 7] rfl)
                                · skip
                                  refine lv_iload hx hb dX11_places_154 (lv_at hl 1 rfl) ?_
                                  refine lv_goto (tgt := 161) hx hb dX11_places_156 (by decide) ?_
                                  refine lv_istore (lv' := [(4, .int r2350), (7, .int (nI j93)), (6, .int r2350), (5, .int (nI j92)), (3, .int (nI NN)), (0, .ref mo), (1, .int (nI j4)), (2, .int (nI j15))]) hx hb dX11_places_161 hl (by decide) rfl (fun ls hl => ?_)
                                  refine lv_iinc (v := (nI (j92 + 1))) (lv' := [(5, .int (nI (j92 + 1))), (4, .int r2350), (7, .int (nI j93)), (6, .int r2350), (3, .int (nI NN)), (0, .ref mo), (1, .int (nI j4)), (2, .int (nI j15))]) hx hb dX11_places_163 hl (k := 3) rfl (nI_1 j92) (by decide) rfl (fun ls hl => ?_)
                                  refine lv_goto (tgt := 83) hx hb dX11_places_166 (by decide) ?_
                                  exact ihj92 (j92 + 1) v2352 r2350 x2370 H locs ls (by omega) (by omega) h2353 h2354 h2355 (hP.sub [0, 1, 2, 3, 4] rfl) (hD.sub [0, 1, 2, 3, 4] (by decide) rfl) hS (lv_sub hl [0, 1, 4, 5, 6, 7] rfl)
                              · skip
                                have h2390 : ¬ gl ≤ j93 := fun q9 => h2390 ((nI_leI (a := gl) (b := j93) (by omega) (by omega)).mpr q9)
                                refine lv_iload hx hb dX11_places_117 (lv_at hl 1 rfl) ?_
                                refine lv_iload hx hb dX11_places_119 (lv_at hl 3 rfl) ?_
                                refine lv_icmp_le (tgt := 147) hx hb dX11_places_121 (by decide) (fun h2393 => ?_) (fun h2394 => ?_)
                                · skip
                                  refine lv_iload hx hb dX11_places_147 (lv_at hl 1 rfl) ?_
                                  refine lv_iload hx hb dX11_places_149 (lv_at hl 3 rfl) ?_
                                  refine lv_icmp_le (tgt := 159) hx hb dX11_places_151 (by decide) (fun h2395 => ?_) (fun h2396 => ?_)
                                  · skip
                                    refine lv_iload hx hb dX11_places_159 (lv_at hl 3 rfl) ?_
                                    refine lv_istore (lv' := [(4, .int x2273), (7, .int (nI j93)), (6, .int r2350), (5, .int (nI j92)), (3, .int (nI NN)), (0, .ref mo), (1, .int (nI j4)), (2, .int (nI j15))]) hx hb dX11_places_161 hl (by decide) rfl (fun ls hl => ?_)
                                    refine lv_iinc (v := (nI (j92 + 1))) (lv' := [(5, .int (nI (j92 + 1))), (4, .int x2273), (7, .int (nI j93)), (6, .int r2350), (3, .int (nI NN)), (0, .ref mo), (1, .int (nI j4)), (2, .int (nI j15))]) hx hb dX11_places_163 hl (k := 3) rfl (nI_1 j92) (by decide) rfl (fun ls hl => ?_)
                                    refine lv_goto (tgt := 83) hx hb dX11_places_166 (by decide) ?_
                                    exact ihj92 (j92 + 1) v2352 x2273 x2370 H locs ls (by omega) (by omega) h2353 h2354 h2355 (hP.sub [0, 1, 2, 3, 4] rfl) (hD.sub [0, 1, 2, 3, 4] (by decide) rfl) hS (lv_sub hl [0, 1, 4, 5, 6, 7] rfl)
                                  · skip
                                    exact absurd h2393 h2396
                                · skip
                                  refine lv_aload_n hx hb dX11_places_124 rfl (lv_at hl 5 rfl) ?_
                                  refine va_get (D := D) (ci := 11) (v := .ref mbp) (C := RX11) (T := TX11) (N := 18) hx hb hts iw11 hown hK hP 3 rfl rfl 9 (by decide) fw2 (fun _ h9 => h9) rfl dX11_places_125 ?_
                                  refine lv_iload hx hb dX11_places_128 (lv_at hl 0 rfl) ?_
                                  refine lv_aload_n hx hb dX11_places_130 rfl (lv_at hl 5 rfl) ?_
                                  refine va_get (D := D) (ci := 11) (v := .ref ha) (C := RX11) (T := TX11) (N := 18) hx hb hts iw11 hown hK hP 3 rfl rfl 6 (by decide) fw3 (fun _ h9 => h9) rfl dX11_places_131 ?_
                                  refine lv_bipush (v := 11) hx hb dX11_places_134 (by decide) ?_
                                  refine lv_iload hx hb dX11_places_136 (lv_at hl 0 rfl) ?_
                                  refine lv_iadd hx hb dX11_places_138 ?_
                                  rw [show 11 + (nI j93) = nI (j93 + 11) from (nI_add 11 j93).trans (congrArg nI (by omega))]
                                  refine va_iald hx hb hK hP 2 0 rfl rfl (vp_in_nI (by omega) (by decide)) dX11_places_139 ?_
                                  rw [nI_clamp (n := (j93 + 11)) (by omega)]
                                  obtain ⟨w2397, h2398, h2399⟩ := kr_at h2353 (p := (j93 + 11)) (by omega) (by unfold kr_a; omega)
                                  rw [h2399]
                                  refine va_iast hx hb hK hP hD hS 1 0 rfl rfl (vp_in_nI (by omega) (by decide)) dX11_places_140 (fun H locs hP hD hS => ?_)
                                  rw [nI_clamp (n := j93) (by omega)] at hP hD
                                  have hP : va_P D vwCl [(mrf, .inl (y 0, 3, .inl frf)), (mbp, .inl (y 0, 5, .inl (upd x2370 j93 (nI w2397)))), (ha, .inl (y 0, 30, .inl v2352)), (mo, .inr (11, [.ref to, .ref ke, .ref ik, .ref mrf, .long mab, .long mbl, .ref ha, .ref r0, .ref mbr, .ref mbp, .ref mby, .int (nI bl), .int (nI ta), .int (nI tl), .int (nI tk), .int vv, .ref an, .ref va])), (to, .inl (y 0, 228, .inl ft))] H := hP
                                  have hD : va_D A [(mrf, .inl (y 0, 3, .inl frf)), (mbp, .inl (y 0, 5, .inl (upd x2370 j93 (nI w2397)))), (ha, .inl (y 0, 30, .inl v2352)), (mo, .inr (11, [.ref to, .ref ke, .ref ik, .ref mrf, .long mab, .long mbl, .ref ha, .ref r0, .ref mbr, .ref mbp, .ref mby, .int (nI bl), .int (nI ta), .int (nI tl), .int (nI tk), .int vv, .ref an, .ref va])), (to, .inl (y 0, 228, .inl ft))] := hD
                                  refine lv_iinc (v := (nI (j93 + 1))) (lv' := [(7, .int (nI (j93 + 1))), (6, .int r2350), (5, .int (nI j92)), (4, .int x2273), (3, .int (nI NN)), (0, .ref mo), (1, .int (nI j4)), (2, .int (nI j15))]) hx hb dX11_places_141 hl (k := 0) rfl (nI_1 j93) (by decide) rfl (fun ls hl => ?_)
                                  refine lv_goto (tgt := 108) hx hb dX11_places_144 (by decide) ?_
                                  exact ihj93 (j93 + 1) (upd x2370 j93 (nI w2397)) H locs ls (by omega) (by omega)  (hP.sub [0, 1, 3, 4, 2] rfl) (hD.sub [0, 1, 3, 4, 2] (by decide) rfl) hS (lv_sub hl [0, 1, 2, 3, 4, 5, 6, 7] rfl)
                          exact lp2385 (gl + 1) 0 x2274 _ _ _ (by omega) (by omega)  hP hD hS (lv_sub hl [0, 1, 2, 3, 4, 5, 6, 7] rfl)
                  exact lp2337 (NN + 1) 0 (kr_cp fh ft 30) 0 fbp _ _ _ (by omega) (by omega) h1792 hk1793 hk1794 hP hD hS (lv_sub hl [0, 1, 2, 3, 4, 5] rfl)
              · skip
                have h2203 : ¬ gl ≤ j91 := fun q9 => h2203 ((nI_leI (a := gl) (b := j91) (by omega) (by omega)).mpr q9)
                refine lv_iload_n hx hb dX11_places_67 rfl (lv_at hl 2 rfl) ?_
                refine lv_aload_n hx hb dX11_places_68 rfl (lv_at hl 3 rfl) ?_
                have hs2400 : kw_Split [(mrf, .inl (y 0, 3, .inl frf)), (mbp, .inl (y 0, 5, .inl fbp)), (ha, .inl (y 0, 30, .inl (kr_cp fh ft 30))), (mo, .inr (11, [.ref to, .ref ke, .ref ik, .ref mrf, .long mab, .long mbl, .ref ha, .ref r0, .ref mbr, .ref mbp, .ref mby, .int (nI bl), .int (nI ta), .int (nI tl), .int (nI tk), .int vv, .ref an, .ref va])), (to, .inl (y 0, 228, .inl ft))] [(mo, .inr (11, [.ref to, .ref ke, .ref ik, .ref mrf, .long mab, .long mbl, .ref ha, .ref r0, .ref mbr, .ref mbp, .ref mby, .int (nI bl), .int (nI ta), .int (nI tl), .int (nI tk), .int vv, .ref an, .ref va])), (to, .inl (y 0, 228, .inl ft))] [(mrf, .inl (y 0, 3, .inl frf)), (mbp, .inl (y 0, 5, .inl fbp)), (ha, .inl (y 0, 30, .inl (kr_cp fh ft 30)))] [3, 4] [0, 1, 2] := ⟨rfl, rfl, rfl, rfl, rfl, by decide⟩
                refine kw_go_i hs2400 hP hD hS hA (va_runV (As := []) (rest := [.int x1993]) ⟨hx, hb, hml, hown, hts⟩ (gr_many l D y mo to ke ik mrf ha r0 mbr mbp mby an va mab mbl bl ta tl tk vv ft fi gl mi no un hk0_ hk1_ hk2_ hk3_ hk4_ hkt hfi hgl hmi hno hun _) (cwV 0 hts gX11_places_X11_many rfl rfl rfl (by decide +kernel) ⟨Nat.le_of_ble_eq_true rfl, Nat.le_of_ble_eq_true rfl⟩) (kw_PreV (ci := 11) (q0 := 3) hs2400 hP hD hK hN rfl rfl) rfl rfl hl.1 rfl (lv_room (Nat.le_of_ble_eq_true rfl)) dX11_places_69 ⟨Nat.le_of_ble_eq_true rfl, Nat.le_of_ble_eq_true rfl⟩) (fun r2401 u2402 H locs hq hP hD hS => ?_)
                obtain rfl := hq
                have hP : va_P D vwCl [(mrf, .inl (y 0, 3, .inl frf)), (mbp, .inl (y 0, 5, .inl fbp)), (ha, .inl (y 0, 30, .inl (kr_cp fh ft 30))), (mo, .inr (11, [.ref to, .ref ke, .ref ik, .ref mrf, .long mab, .long mbl, .ref ha, .ref r0, .ref mbr, .ref mbp, .ref mby, .int (nI bl), .int (nI ta), .int (nI tl), .int (nI tk), .int vv, .ref an, .ref va])), (to, .inl (y 0, 228, .inl ft))] H := hP
                have hD : va_D A [(mrf, .inl (y 0, 3, .inl frf)), (mbp, .inl (y 0, 5, .inl fbp)), (ha, .inl (y 0, 30, .inl (kr_cp fh ft 30))), (mo, .inr (11, [.ref to, .ref ke, .ref ik, .ref mrf, .long mab, .long mbl, .ref ha, .ref r0, .ref mbr, .ref mbp, .ref mby, .int (nI bl), .int (nI ta), .int (nI tl), .int (nI tk), .int vv, .ref an, .ref va])), (to, .inl (y 0, 228, .inl ft))] := hD
                refine lv_imul hx hb dX11_places_72 ?_
                refine lv_istore_n (lv' := [(3, .int (x1993 * (nI fi))), (5, .int (nI j91)), (4, .int 0), (0, .ref mo), (1, .int (nI j4)), (2, .int (nI j15))]) hx hb dX11_places_73 rfl hl (by decide) rfl (fun ls hl => ?_)
                refine lv_iinc (v := (nI (j91 + 1))) (lv' := [(5, .int (nI (j91 + 1))), (3, .int (x1993 * (nI fi))), (4, .int 0), (0, .ref mo), (1, .int (nI j4)), (2, .int (nI j15))]) hx hb dX11_places_74 hl (k := 1) rfl (nI_1 j91) (by decide) rfl (fun ls hl => ?_)
                refine lv_goto (tgt := 58) hx hb dX11_places_77 (by decide) ?_
                exact ihj91 (j91 + 1) (x1993 * (nI fi)) H locs ls (by omega) (by omega)  (hP.sub [0, 1, 3, 4, 2] rfl) (hD.sub [0, 1, 3, 4, 2] (by decide) rfl) hS (lv_sub hl [0, 2, 1, 3, 4, 5] rfl)
          exact lp2198 (gl + 1) 0 1 _ _ _ (by omega) (by omega)  hP hD hS (lv_sub hl [0, 1, 2, 3, 4, 5] rfl)
    · skip
      have hP : va_P D vwCl [(mrf, .inl (y 0, 3, .inl frf)), (ha, .inl (y 0, 30, .inl fh)), (mbp, .inl (y 0, 5, .inl fbp)), (mo, .inr (11, [.ref to, .ref ke, .ref ik, .ref mrf, .long mab, .long mbl, .ref ha, .ref r0, .ref mbr, .ref mbp, .ref mby, .int (nI bl), .int (nI ta), .int (nI tl), .int (nI tk), .int vv, .ref an, .ref va])), (to, .inl (y 0, 228, .inl ft))] H := hP
      have hD : va_D A [(mrf, .inl (y 0, 3, .inl frf)), (ha, .inl (y 0, 30, .inl fh)), (mbp, .inl (y 0, 5, .inl fbp)), (mo, .inr (11, [.ref to, .ref ke, .ref ik, .ref mrf, .long mab, .long mbl, .ref ha, .ref r0, .ref mbr, .ref mbp, .ref mby, .int (nI bl), .int (nI ta), .int (nI tl), .int (nI tk), .int vv, .ref an, .ref va])), (to, .inl (y 0, 228, .inl ft))] := hD
      refine lv_if_ne (tgt := 35) hx hb dX11_places_25 (by decide) (fun h9 => absurd h9 (by decide)) (fun _ => ?_)
      refine lv_aload_n hx hb dX11_places_28 rfl (lv_at hl 0 rfl) ?_
      refine lv_bipush (v := (-10)) hx hb dX11_places_29 (by decide) ?_
      have hs2403 : kw_Split [(mrf, .inl (y 0, 3, .inl frf)), (ha, .inl (y 0, 30, .inl fh)), (mbp, .inl (y 0, 5, .inl fbp)), (mo, .inr (11, [.ref to, .ref ke, .ref ik, .ref mrf, .long mab, .long mbl, .ref ha, .ref r0, .ref mbr, .ref mbp, .ref mby, .int (nI bl), .int (nI ta), .int (nI tl), .int (nI tk), .int vv, .ref an, .ref va])), (to, .inl (y 0, 228, .inl ft))] [(mo, .inr (11, [.ref to, .ref ke, .ref ik, .ref mrf, .long mab, .long mbl, .ref ha, .ref r0, .ref mbr, .ref mbp, .ref mby, .int (nI bl), .int (nI ta), .int (nI tl), .int (nI tk), .int vv, .ref an, .ref va])), (mrf, .inl (y 0, 3, .inl frf))] [(ha, .inl (y 0, 30, .inl fh)), (mbp, .inl (y 0, 5, .inl fbp)), (to, .inl (y 0, 228, .inl ft))] [3, 0] [1, 2, 4] := ⟨rfl, rfl, rfl, rfl, rfl, by decide⟩
      refine kw_go_i hs2403 hP hD hS hA (va_runV (As := [.int (-10)]) (rest := []) ⟨hx, hb, hml, hown, hts⟩ (gr_bad l D y mo to ke ik mrf ha r0 mbr mbp mby an va mab mbl bl ta tl tk vv frf (-10)  _) (cwV 1 hts gX11_places_X11_bad rfl rfl rfl (by decide +kernel) ⟨Nat.le_of_ble_eq_true rfl, Nat.le_of_ble_eq_true rfl⟩) (kw_PreV (ci := 11) (q0 := 3) hs2403 hP hD hK hN rfl rfl) rfl rfl hl.1 rfl (lv_room (Nat.le_of_ble_eq_true rfl)) dX11_places_31 ⟨Nat.le_of_ble_eq_true rfl, Nat.le_of_ble_eq_true rfl⟩) (fun r2404 u2405 H locs hq hP hD hS => ?_)
      obtain rfl := hq
      have hP : va_P D vwCl [(ha, .inl (y 0, 30, .inl fh)), (mbp, .inl (y 0, 5, .inl fbp)), (to, .inl (y 0, 228, .inl ft)), (mo, .inr (11, [.ref to, .ref ke, .ref ik, .ref mrf, .long mab, .long mbl, .ref ha, .ref r0, .ref mbr, .ref mbp, .ref mby, .int (nI bl), .int (nI ta), .int (nI tl), .int (nI tk), .int vv, .ref an, .ref va])), (mrf, .inl (y 0, 3, .inl (upd frf 0 ((frf 0) + 1))))] H := hP
      have hD : va_D A [(ha, .inl (y 0, 30, .inl fh)), (mbp, .inl (y 0, 5, .inl fbp)), (to, .inl (y 0, 228, .inl ft)), (mo, .inr (11, [.ref to, .ref ke, .ref ik, .ref mrf, .long mab, .long mbl, .ref ha, .ref r0, .ref mbr, .ref mbp, .ref mby, .int (nI bl), .int (nI ta), .int (nI tl), .int (nI tk), .int vv, .ref an, .ref va])), (mrf, .inl (y 0, 3, .inl (upd frf 0 ((frf 0) + 1))))] := hD
      exact W.iret (v := (-10)) hx hb hr (fun tZ ht hW => ⟨⟨(-10), ((upd frf 0 ((frf 0) + 1)), fh, fbp), rfl, ⟨hkh, by first | omega | (dsimp only; omega)⟩, by rw [ht]; exact hP.sub [3, 4, 2, 0, 1] rfl, hD.sub [3, 4, 2, 0, 1] (by decide) rfl⟩, hS.F ht⟩) hS.2.2 dX11_places_34
  · skip
    have hP : va_P D vwCl [(mo, .inr (11, [.ref to, .ref ke, .ref ik, .ref mrf, .long mab, .long mbl, .ref ha, .ref r0, .ref mbr, .ref mbp, .ref mby, .int (nI bl), .int (nI ta), .int (nI tl), .int (nI tk), .int vv, .ref an, .ref va])), (mrf, .inl (y 0, 3, .inl frf)), (to, .inl (y 0, 228, .inl ft)), (ha, .inl (y 0, 30, .inl fh)), (mbp, .inl (y 0, 5, .inl fbp))] H := hP
    have hD : va_D A [(mo, .inr (11, [.ref to, .ref ke, .ref ik, .ref mrf, .long mab, .long mbl, .ref ha, .ref r0, .ref mbr, .ref mbp, .ref mby, .int (nI bl), .int (nI ta), .int (nI tl), .int (nI tk), .int vv, .ref an, .ref va])), (mrf, .inl (y 0, 3, .inl frf)), (to, .inl (y 0, 228, .inl ft)), (ha, .inl (y 0, 30, .inl fh)), (mbp, .inl (y 0, 5, .inl fbp))] := hD
    refine lv_if_eq (tgt := 28) hx hb dX11_places_7 (by decide) (fun _ => ?_) (fun h9 => absurd h9 (by decide))
    refine lv_aload_n hx hb dX11_places_28 rfl (lv_at hl 0 rfl) ?_
    refine lv_bipush (v := (-10)) hx hb dX11_places_29 (by decide) ?_
    have hs2406 : kw_Split [(mo, .inr (11, [.ref to, .ref ke, .ref ik, .ref mrf, .long mab, .long mbl, .ref ha, .ref r0, .ref mbr, .ref mbp, .ref mby, .int (nI bl), .int (nI ta), .int (nI tl), .int (nI tk), .int vv, .ref an, .ref va])), (mrf, .inl (y 0, 3, .inl frf)), (to, .inl (y 0, 228, .inl ft)), (ha, .inl (y 0, 30, .inl fh)), (mbp, .inl (y 0, 5, .inl fbp))] [(mo, .inr (11, [.ref to, .ref ke, .ref ik, .ref mrf, .long mab, .long mbl, .ref ha, .ref r0, .ref mbr, .ref mbp, .ref mby, .int (nI bl), .int (nI ta), .int (nI tl), .int (nI tk), .int vv, .ref an, .ref va])), (mrf, .inl (y 0, 3, .inl frf))] [(to, .inl (y 0, 228, .inl ft)), (ha, .inl (y 0, 30, .inl fh)), (mbp, .inl (y 0, 5, .inl fbp))] [0, 1] [2, 3, 4] := ⟨rfl, rfl, rfl, rfl, rfl, by decide⟩
    refine kw_go_i hs2406 hP hD hS hA (va_runV (As := [.int (-10)]) (rest := []) ⟨hx, hb, hml, hown, hts⟩ (gr_bad l D y mo to ke ik mrf ha r0 mbr mbp mby an va mab mbl bl ta tl tk vv frf (-10)  _) (cwV 1 hts gX11_places_X11_bad rfl rfl rfl (by decide +kernel) ⟨Nat.le_of_ble_eq_true rfl, Nat.le_of_ble_eq_true rfl⟩) (kw_PreV (ci := 11) (q0 := 0) hs2406 hP hD hK hN rfl rfl) rfl rfl hl.1 rfl (lv_room (Nat.le_of_ble_eq_true rfl)) dX11_places_31 ⟨Nat.le_of_ble_eq_true rfl, Nat.le_of_ble_eq_true rfl⟩) (fun r2407 u2408 H locs hq hP hD hS => ?_)
    obtain rfl := hq
    have hP : va_P D vwCl [(to, .inl (y 0, 228, .inl ft)), (ha, .inl (y 0, 30, .inl fh)), (mbp, .inl (y 0, 5, .inl fbp)), (mo, .inr (11, [.ref to, .ref ke, .ref ik, .ref mrf, .long mab, .long mbl, .ref ha, .ref r0, .ref mbr, .ref mbp, .ref mby, .int (nI bl), .int (nI ta), .int (nI tl), .int (nI tk), .int vv, .ref an, .ref va])), (mrf, .inl (y 0, 3, .inl (upd frf 0 ((frf 0) + 1))))] H := hP
    have hD : va_D A [(to, .inl (y 0, 228, .inl ft)), (ha, .inl (y 0, 30, .inl fh)), (mbp, .inl (y 0, 5, .inl fbp)), (mo, .inr (11, [.ref to, .ref ke, .ref ik, .ref mrf, .long mab, .long mbl, .ref ha, .ref r0, .ref mbr, .ref mbp, .ref mby, .int (nI bl), .int (nI ta), .int (nI tl), .int (nI tk), .int vv, .ref an, .ref va])), (mrf, .inl (y 0, 3, .inl (upd frf 0 ((frf 0) + 1))))] := hD
    exact W.iret (v := (-10)) hx hb hr (fun tZ ht hW => ⟨⟨(-10), ((upd frf 0 ((frf 0) + 1)), fh, fbp), rfl, ⟨hkh, by first | omega | (dsimp only; omega)⟩, by rw [ht]; exact hP.sub [3, 4, 0, 1, 2] rfl, hD.sub [3, 4, 0, 1, 2] (by decide) rfl⟩, hS.F ht⟩) hS.2.2 dX11_places_34

set_option maxHeartbeats 4000000 in
set_option maxRecDepth 100000 in
theorem gq_image_bad (l : Launch) (D : va_G) (y : Nat → ClassId) (mo : Nat) (to : Nat) (ke : Nat) (ik : Nat) (mrf : Nat) (ha : Nat) (r0 : Nat) (mbr : Nat) (mbp : Nat) (mby : Nat) (an : Nat) (va : Nat) (mab : Int64) (mbl : Int64) (bl : Nat) (ta : Nat) (tl : Nat) (tk : Nat) (vv : Int32) (frf : Nat → Int32) (x : Int32) (hA1 : (¬ ∃ j : Nat, 0 ≤ j ∧ j ≤ 1 ∧ x = nI j)) : kw_Mi l yX11_image wsX11_image ({ frames := 2, cells := 0, slots := 0, locals := 85 }) D y [.ref mo, .int x] [(mo, .inr (11, [.ref to, .ref ke, .ref ik, .ref mrf, .long mab, .long mbl, .ref ha, .ref r0, .ref mbr, .ref mbp, .ref mby, .int (nI bl), .int (nI ta), .int (nI tl), .int (nI tk), .int vv, .ref an, .ref va])), (mrf, .inl (y 0, 3, .inl frf))] (fun (r : Int32) (u : Unit) => r = (-2)) (fun _ => [(mo, .inr (11, [.ref to, .ref ke, .ref ik, .ref mrf, .long mab, .long mbl, .ref ha, .ref r0, .ref mbr, .ref mbp, .ref mby, .int (nI bl), .int (nI ta), .int (nI tl), .int (nI tk), .int vv, .ref an, .ref va])), (mrf, .inl (y 0, 3, .inl (upd frf 0 ((frf 0) + 1))))]) 0 0 := by
  refine kw_Mi.of (cc := cX11_image) (maxL := 3) (ret := (some .int)) (by decide) rfl ?_
  intro pZ eZ s mZ beZ meZ cZ A hE
  obtain ⟨hx, hb, hr, hml, hts, hown, hlocks, hin, hA, hP, hD, hK, hN⟩ := hE
  have hS : va_S A s.heap s.heap [] := va_S.rf
  have hl := lv_entry ([.ref mo, .int x]) (n := 3) (Nat.le_of_ble_eq_true rfl)
  rw [lg_entry_eq]
  generalize (lg_sl ([.ref mo, .int x]) ++ List.replicate (3 - (lg_sl ([.ref mo, .int x])).length) Slot.unset).toArray = ls at hl ⊢
  have hl : lv_has ls 3 [(0, .ref mo), (1, .int x)] := hl
  refine lv_iload_n hx hb dX11_image_0 rfl (lv_at hl 1 rfl) ?_
  refine lv_i2l (v := x.toInt64) hx hb dX11_image_1 (rfl) ?_
  refine lv_lconst (v := 0) hx hb dX11_image_2 (by decide) ?_
  refine lv_lconst (v := 1) hx hb dX11_image_3 (by decide) ?_
  have hs1 : kw_Split [(mo, .inr (11, [.ref to, .ref ke, .ref ik, .ref mrf, .long mab, .long mbl, .ref ha, .ref r0, .ref mbr, .ref mbp, .ref mby, .int (nI bl), .int (nI ta), .int (nI tl), .int (nI tk), .int vv, .ref an, .ref va])), (mrf, .inl (y 0, 3, .inl frf))] [] [(mo, .inr (11, [.ref to, .ref ke, .ref ik, .ref mrf, .long mab, .long mbl, .ref ha, .ref r0, .ref mbr, .ref mbp, .ref mby, .int (nI bl), .int (nI ta), .int (nI tl), .int (nI tk), .int vv, .ref an, .ref va])), (mrf, .inl (y 0, 3, .inl frf))] [] [0, 1] := ⟨rfl, rfl, rfl, rfl, rfl, by decide⟩
  refine kw_go_i hs1 hP hD hS hA (va_runS (As := [.long x.toInt64, .long 0, .long 1]) (rest := []) ⟨hx, hb, hml, hown, hts⟩ (gr_in l D y x 0 1 (by omega) (by omega) _) (va_cwS 3 hts gX11_image_X11_in rfl rfl rfl (by decide +kernel) ⟨Nat.le_of_ble_eq_true rfl, Nat.le_of_ble_eq_true rfl⟩) (kw_PreS hs1 hP hD hK hN) rfl rfl hl.1 rfl (lv_room (Nat.le_of_ble_eq_true rfl)) dX11_image_4 ⟨Nat.le_of_ble_eq_true rfl, Nat.le_of_ble_eq_true rfl⟩) (fun r2 u3 H locs hq hP hD hS => ?_)
  rcases hq with ⟨j4, h5, h6, rfl, rfl⟩ | ⟨h7, rfl⟩
  · skip
    exact absurd ⟨j4, h5, h6, rfl⟩ hA1
  · skip
    have hP : va_P D vwCl [(mo, .inr (11, [.ref to, .ref ke, .ref ik, .ref mrf, .long mab, .long mbl, .ref ha, .ref r0, .ref mbr, .ref mbp, .ref mby, .int (nI bl), .int (nI ta), .int (nI tl), .int (nI tk), .int vv, .ref an, .ref va])), (mrf, .inl (y 0, 3, .inl frf))] H := hP
    have hD : va_D A [(mo, .inr (11, [.ref to, .ref ke, .ref ik, .ref mrf, .long mab, .long mbl, .ref ha, .ref r0, .ref mbr, .ref mbp, .ref mby, .int (nI bl), .int (nI ta), .int (nI tl), .int (nI tk), .int vv, .ref an, .ref va])), (mrf, .inl (y 0, 3, .inl frf))] := hD
    refine lv_if_ne (tgt := 17) hx hb dX11_image_7 (by decide) (fun h9 => absurd h9 (by decide)) (fun _ => ?_)
    refine lv_aload_n hx hb dX11_image_10 rfl (lv_at hl 0 rfl) ?_
    refine lv_bipush (v := (-2)) hx hb dX11_image_11 (by decide) ?_
    have hs8 : kw_Split [(mo, .inr (11, [.ref to, .ref ke, .ref ik, .ref mrf, .long mab, .long mbl, .ref ha, .ref r0, .ref mbr, .ref mbp, .ref mby, .int (nI bl), .int (nI ta), .int (nI tl), .int (nI tk), .int vv, .ref an, .ref va])), (mrf, .inl (y 0, 3, .inl frf))] [(mo, .inr (11, [.ref to, .ref ke, .ref ik, .ref mrf, .long mab, .long mbl, .ref ha, .ref r0, .ref mbr, .ref mbp, .ref mby, .int (nI bl), .int (nI ta), .int (nI tl), .int (nI tk), .int vv, .ref an, .ref va])), (mrf, .inl (y 0, 3, .inl frf))] [] [0, 1] [] := ⟨rfl, rfl, rfl, rfl, rfl, by decide⟩
    refine kw_go_i hs8 hP hD hS hA (va_runV (As := [.int (-2)]) (rest := []) ⟨hx, hb, hml, hown, hts⟩ (gr_bad l D y mo to ke ik mrf ha r0 mbr mbp mby an va mab mbl bl ta tl tk vv frf (-2)  _) (cwV 1 hts gX11_image_X11_bad rfl rfl rfl (by decide +kernel) ⟨Nat.le_of_ble_eq_true rfl, Nat.le_of_ble_eq_true rfl⟩) (kw_PreV (ci := 11) (q0 := 0) hs8 hP hD hK hN rfl rfl) rfl rfl hl.1 rfl (lv_room (Nat.le_of_ble_eq_true rfl)) dX11_image_13 ⟨Nat.le_of_ble_eq_true rfl, Nat.le_of_ble_eq_true rfl⟩) (fun r9 u10 H locs hq hP hD hS => ?_)
    obtain rfl := hq
    have hP : va_P D vwCl [(mo, .inr (11, [.ref to, .ref ke, .ref ik, .ref mrf, .long mab, .long mbl, .ref ha, .ref r0, .ref mbr, .ref mbp, .ref mby, .int (nI bl), .int (nI ta), .int (nI tl), .int (nI tk), .int vv, .ref an, .ref va])), (mrf, .inl (y 0, 3, .inl (upd frf 0 ((frf 0) + 1))))] H := hP
    have hD : va_D A [(mo, .inr (11, [.ref to, .ref ke, .ref ik, .ref mrf, .long mab, .long mbl, .ref ha, .ref r0, .ref mbr, .ref mbp, .ref mby, .int (nI bl), .int (nI ta), .int (nI tl), .int (nI tk), .int vv, .ref an, .ref va])), (mrf, .inl (y 0, 3, .inl (upd frf 0 ((frf 0) + 1))))] := hD
    exact W.iret (v := (-2)) hx hb hr (fun tZ ht hW => ⟨⟨(-2), (), rfl, rfl, by rw [ht]; exact hP.sub [0, 1] rfl, hD.sub [0, 1] (by decide) rfl⟩, hS.F ht⟩) hS.2.2 dX11_image_16

set_option maxHeartbeats 4000000 in
set_option maxRecDepth 100000 in
theorem gq_from_bad (l : Launch) (D : va_G) (y : Nat → ClassId) (mo : Nat) (to : Nat) (ke : Nat) (ik : Nat) (mrf : Nat) (ha : Nat) (r0 : Nat) (mbr : Nat) (mbp : Nat) (mby : Nat) (an : Nat) (va : Nat) (mab : Int64) (mbl : Int64) (bl : Nat) (ta : Nat) (tl : Nat) (tk : Nat) (vv : Int32) (frf : Nat → Int32) (x : Int32) (hA1 : (¬ ∃ j : Nat, 0 ≤ j ∧ j ≤ 1 ∧ x = nI j)) : kw_Mi l yX11_from wsX11_from ({ frames := 2, cells := 0, slots := 0, locals := 85 }) D y [.ref mo, .int x] [(mo, .inr (11, [.ref to, .ref ke, .ref ik, .ref mrf, .long mab, .long mbl, .ref ha, .ref r0, .ref mbr, .ref mbp, .ref mby, .int (nI bl), .int (nI ta), .int (nI tl), .int (nI tk), .int vv, .ref an, .ref va])), (mrf, .inl (y 0, 3, .inl frf))] (fun (r : Int32) (u : Unit) => r = (-2)) (fun _ => [(mo, .inr (11, [.ref to, .ref ke, .ref ik, .ref mrf, .long mab, .long mbl, .ref ha, .ref r0, .ref mbr, .ref mbp, .ref mby, .int (nI bl), .int (nI ta), .int (nI tl), .int (nI tk), .int vv, .ref an, .ref va])), (mrf, .inl (y 0, 3, .inl (upd frf 0 ((frf 0) + 1))))]) 0 0 := by
  refine kw_Mi.of (cc := cX11_from) (maxL := 3) (ret := (some .int)) (by decide) rfl ?_
  intro pZ eZ s mZ beZ meZ cZ A hE
  obtain ⟨hx, hb, hr, hml, hts, hown, hlocks, hin, hA, hP, hD, hK, hN⟩ := hE
  have hS : va_S A s.heap s.heap [] := va_S.rf
  have hl := lv_entry ([.ref mo, .int x]) (n := 3) (Nat.le_of_ble_eq_true rfl)
  rw [lg_entry_eq]
  generalize (lg_sl ([.ref mo, .int x]) ++ List.replicate (3 - (lg_sl ([.ref mo, .int x])).length) Slot.unset).toArray = ls at hl ⊢
  have hl : lv_has ls 3 [(0, .ref mo), (1, .int x)] := hl
  refine lv_iload_n hx hb dX11_from_0 rfl (lv_at hl 1 rfl) ?_
  refine lv_i2l (v := x.toInt64) hx hb dX11_from_1 (rfl) ?_
  refine lv_lconst (v := 0) hx hb dX11_from_2 (by decide) ?_
  refine lv_lconst (v := 1) hx hb dX11_from_3 (by decide) ?_
  have hs1 : kw_Split [(mo, .inr (11, [.ref to, .ref ke, .ref ik, .ref mrf, .long mab, .long mbl, .ref ha, .ref r0, .ref mbr, .ref mbp, .ref mby, .int (nI bl), .int (nI ta), .int (nI tl), .int (nI tk), .int vv, .ref an, .ref va])), (mrf, .inl (y 0, 3, .inl frf))] [] [(mo, .inr (11, [.ref to, .ref ke, .ref ik, .ref mrf, .long mab, .long mbl, .ref ha, .ref r0, .ref mbr, .ref mbp, .ref mby, .int (nI bl), .int (nI ta), .int (nI tl), .int (nI tk), .int vv, .ref an, .ref va])), (mrf, .inl (y 0, 3, .inl frf))] [] [0, 1] := ⟨rfl, rfl, rfl, rfl, rfl, by decide⟩
  refine kw_go_i hs1 hP hD hS hA (va_runS (As := [.long x.toInt64, .long 0, .long 1]) (rest := []) ⟨hx, hb, hml, hown, hts⟩ (gr_in l D y x 0 1 (by omega) (by omega) _) (va_cwS 3 hts gX11_from_X11_in rfl rfl rfl (by decide +kernel) ⟨Nat.le_of_ble_eq_true rfl, Nat.le_of_ble_eq_true rfl⟩) (kw_PreS hs1 hP hD hK hN) rfl rfl hl.1 rfl (lv_room (Nat.le_of_ble_eq_true rfl)) dX11_from_4 ⟨Nat.le_of_ble_eq_true rfl, Nat.le_of_ble_eq_true rfl⟩) (fun r2 u3 H locs hq hP hD hS => ?_)
  rcases hq with ⟨j4, h5, h6, rfl, rfl⟩ | ⟨h7, rfl⟩
  · skip
    exact absurd ⟨j4, h5, h6, rfl⟩ hA1
  · skip
    have hP : va_P D vwCl [(mo, .inr (11, [.ref to, .ref ke, .ref ik, .ref mrf, .long mab, .long mbl, .ref ha, .ref r0, .ref mbr, .ref mbp, .ref mby, .int (nI bl), .int (nI ta), .int (nI tl), .int (nI tk), .int vv, .ref an, .ref va])), (mrf, .inl (y 0, 3, .inl frf))] H := hP
    have hD : va_D A [(mo, .inr (11, [.ref to, .ref ke, .ref ik, .ref mrf, .long mab, .long mbl, .ref ha, .ref r0, .ref mbr, .ref mbp, .ref mby, .int (nI bl), .int (nI ta), .int (nI tl), .int (nI tk), .int vv, .ref an, .ref va])), (mrf, .inl (y 0, 3, .inl frf))] := hD
    refine lv_if_ne (tgt := 17) hx hb dX11_from_7 (by decide) (fun h9 => absurd h9 (by decide)) (fun _ => ?_)
    refine lv_aload_n hx hb dX11_from_10 rfl (lv_at hl 0 rfl) ?_
    refine lv_bipush (v := (-2)) hx hb dX11_from_11 (by decide) ?_
    have hs8 : kw_Split [(mo, .inr (11, [.ref to, .ref ke, .ref ik, .ref mrf, .long mab, .long mbl, .ref ha, .ref r0, .ref mbr, .ref mbp, .ref mby, .int (nI bl), .int (nI ta), .int (nI tl), .int (nI tk), .int vv, .ref an, .ref va])), (mrf, .inl (y 0, 3, .inl frf))] [(mo, .inr (11, [.ref to, .ref ke, .ref ik, .ref mrf, .long mab, .long mbl, .ref ha, .ref r0, .ref mbr, .ref mbp, .ref mby, .int (nI bl), .int (nI ta), .int (nI tl), .int (nI tk), .int vv, .ref an, .ref va])), (mrf, .inl (y 0, 3, .inl frf))] [] [0, 1] [] := ⟨rfl, rfl, rfl, rfl, rfl, by decide⟩
    refine kw_go_i hs8 hP hD hS hA (va_runV (As := [.int (-2)]) (rest := []) ⟨hx, hb, hml, hown, hts⟩ (gr_bad l D y mo to ke ik mrf ha r0 mbr mbp mby an va mab mbl bl ta tl tk vv frf (-2)  _) (cwV 1 hts gX11_from_X11_bad rfl rfl rfl (by decide +kernel) ⟨Nat.le_of_ble_eq_true rfl, Nat.le_of_ble_eq_true rfl⟩) (kw_PreV (ci := 11) (q0 := 0) hs8 hP hD hK hN rfl rfl) rfl rfl hl.1 rfl (lv_room (Nat.le_of_ble_eq_true rfl)) dX11_from_13 ⟨Nat.le_of_ble_eq_true rfl, Nat.le_of_ble_eq_true rfl⟩) (fun r9 u10 H locs hq hP hD hS => ?_)
    obtain rfl := hq
    have hP : va_P D vwCl [(mo, .inr (11, [.ref to, .ref ke, .ref ik, .ref mrf, .long mab, .long mbl, .ref ha, .ref r0, .ref mbr, .ref mbp, .ref mby, .int (nI bl), .int (nI ta), .int (nI tl), .int (nI tk), .int vv, .ref an, .ref va])), (mrf, .inl (y 0, 3, .inl (upd frf 0 ((frf 0) + 1))))] H := hP
    have hD : va_D A [(mo, .inr (11, [.ref to, .ref ke, .ref ik, .ref mrf, .long mab, .long mbl, .ref ha, .ref r0, .ref mbr, .ref mbp, .ref mby, .int (nI bl), .int (nI ta), .int (nI tl), .int (nI tk), .int vv, .ref an, .ref va])), (mrf, .inl (y 0, 3, .inl (upd frf 0 ((frf 0) + 1))))] := hD
    exact W.iret (v := (-2)) hx hb hr (fun tZ ht hW => ⟨⟨(-2), (), rfl, rfl, by rw [ht]; exact hP.sub [0, 1] rfl, hD.sub [0, 1] (by decide) rfl⟩, hS.F ht⟩) hS.2.2 dX11_from_16

set_option maxHeartbeats 4000000 in
set_option maxRecDepth 100000 in
theorem gn_Plain_on5 (l : Launch) (D : va_G) (y : Nat → ClassId) (o : Nat)  : kw_Mv l yX5_init wsX5_init ({ frames := 1, cells := 0, slots := 0, locals := 60 }) D y [.ref o] [(o, .inr (5, []))] (fun (u : Unit) => True) (fun _ => [(o, .inr (5, []))]) 0 0 := by
  refine kw_Mv.of (cc := cX5_init) (maxL := 1) (ret := none) (by decide) rfl ?_
  intro pZ eZ s mZ beZ meZ cZ A hE
  obtain ⟨hx, hb, hr, hml, hts, hown, hlocks, hin, hA, hP, hD, hK, hN⟩ := hE
  have hS : va_S A s.heap s.heap [] := va_S.rf
  have hl := lv_entry ([.ref o]) (n := 1) (Nat.le_of_ble_eq_true rfl)
  rw [lg_entry_eq]
  generalize (lg_sl ([.ref o]) ++ List.replicate (1 - (lg_sl ([.ref o])).length) Slot.unset).toArray = ls at hl ⊢
  have hl : lv_has ls 1 [(0, .ref o)] := hl
  have fw1 := hts (.methodLink RX5 1 objectInit) (List.mem_of_getElem? (i := 1) rfl)
  have fw2 := hts (.instanceMethod objectInit) (List.mem_of_getElem? (i := 2) rfl)
  have fw3 := hts (.code objectInit ⟨#[0xb1]⟩ 1 none) (List.mem_of_getElem? (i := 3) rfl)
  refine lv_aload_n hx hb dX5_init_0 rfl (lv_at hl 0 rfl) ?_
  refine W.objInit hx hb hown fw1 fw2 fw3 rfl (by rw [hml]; exact hl.1) rfl dX5_init_1 (Nat.le_of_ble_eq_true rfl) (Nat.le_of_ble_eq_true rfl) ?_
  refine W.eq (g2 := F0 mZ 4 ls []) rfl ?_
  exact W.vret hx hb hr (fun tZ ht hW => ⟨⟨(), rfl, trivial, by rw [ht]; exact hP.sub [0] rfl, hD.sub [0] (by decide) rfl⟩, hS.F ht⟩) hS.2.2 dX5_init_4

set_option maxHeartbeats 4000000 in
set_option maxRecDepth 100000 in
theorem gn_Plain_on8 (l : Launch) (D : va_G) (y : Nat → ClassId) (o : Nat)  : kw_Mv l yX5_init wsX5_init ({ frames := 1, cells := 0, slots := 0, locals := 60 }) D y [.ref o] [(o, .inr (8, []))] (fun (u : Unit) => True) (fun _ => [(o, .inr (8, []))]) 0 0 := by
  refine kw_Mv.of (cc := cX5_init) (maxL := 1) (ret := none) (by decide) rfl ?_
  intro pZ eZ s mZ beZ meZ cZ A hE
  obtain ⟨hx, hb, hr, hml, hts, hown, hlocks, hin, hA, hP, hD, hK, hN⟩ := hE
  have hS : va_S A s.heap s.heap [] := va_S.rf
  have hl := lv_entry ([.ref o]) (n := 1) (Nat.le_of_ble_eq_true rfl)
  rw [lg_entry_eq]
  generalize (lg_sl ([.ref o]) ++ List.replicate (1 - (lg_sl ([.ref o])).length) Slot.unset).toArray = ls at hl ⊢
  have hl : lv_has ls 1 [(0, .ref o)] := hl
  have fw1 := hts (.methodLink RX5 1 objectInit) (List.mem_of_getElem? (i := 1) rfl)
  have fw2 := hts (.instanceMethod objectInit) (List.mem_of_getElem? (i := 2) rfl)
  have fw3 := hts (.code objectInit ⟨#[0xb1]⟩ 1 none) (List.mem_of_getElem? (i := 3) rfl)
  refine lv_aload_n hx hb dX5_init_0 rfl (lv_at hl 0 rfl) ?_
  refine W.objInit hx hb hown fw1 fw2 fw3 rfl (by rw [hml]; exact hl.1) rfl dX5_init_1 (Nat.le_of_ble_eq_true rfl) (Nat.le_of_ble_eq_true rfl) ?_
  refine W.eq (g2 := F0 mZ 4 ls []) rfl ?_
  exact W.vret hx hb hr (fun tZ ht hW => ⟨⟨(), rfl, trivial, by rw [ht]; exact hP.sub [0] rfl, hD.sub [0] (by decide) rfl⟩, hS.F ht⟩) hS.2.2 dX5_init_4

set_option maxHeartbeats 4000000 in
set_option maxRecDepth 100000 in
theorem gn_Plain_on9 (l : Launch) (D : va_G) (y : Nat → ClassId) (o : Nat)  : kw_Mv l yX5_init wsX5_init ({ frames := 1, cells := 0, slots := 0, locals := 60 }) D y [.ref o] [(o, .inr (9, []))] (fun (u : Unit) => True) (fun _ => [(o, .inr (9, []))]) 0 0 := by
  refine kw_Mv.of (cc := cX5_init) (maxL := 1) (ret := none) (by decide) rfl ?_
  intro pZ eZ s mZ beZ meZ cZ A hE
  obtain ⟨hx, hb, hr, hml, hts, hown, hlocks, hin, hA, hP, hD, hK, hN⟩ := hE
  have hS : va_S A s.heap s.heap [] := va_S.rf
  have hl := lv_entry ([.ref o]) (n := 1) (Nat.le_of_ble_eq_true rfl)
  rw [lg_entry_eq]
  generalize (lg_sl ([.ref o]) ++ List.replicate (1 - (lg_sl ([.ref o])).length) Slot.unset).toArray = ls at hl ⊢
  have hl : lv_has ls 1 [(0, .ref o)] := hl
  have fw1 := hts (.methodLink RX5 1 objectInit) (List.mem_of_getElem? (i := 1) rfl)
  have fw2 := hts (.instanceMethod objectInit) (List.mem_of_getElem? (i := 2) rfl)
  have fw3 := hts (.code objectInit ⟨#[0xb1]⟩ 1 none) (List.mem_of_getElem? (i := 3) rfl)
  refine lv_aload_n hx hb dX5_init_0 rfl (lv_at hl 0 rfl) ?_
  refine W.objInit hx hb hown fw1 fw2 fw3 rfl (by rw [hml]; exact hl.1) rfl dX5_init_1 (Nat.le_of_ble_eq_true rfl) (Nat.le_of_ble_eq_true rfl) ?_
  refine W.eq (g2 := F0 mZ 4 ls []) rfl ?_
  exact W.vret hx hb hr (fun tZ ht hW => ⟨⟨(), rfl, trivial, by rw [ht]; exact hP.sub [0] rfl, hD.sub [0] (by decide) rfl⟩, hS.F ht⟩) hS.2.2 dX5_init_4

set_option maxHeartbeats 4000000 in
set_option maxRecDepth 100000 in
theorem gn_Plain_on6 (l : Launch) (D : va_G) (y : Nat → ClassId) (o : Nat)  : kw_Mv l yX5_init wsX5_init ({ frames := 1, cells := 0, slots := 0, locals := 60 }) D y [.ref o] [(o, .inr (6, []))] (fun (u : Unit) => True) (fun _ => [(o, .inr (6, []))]) 0 0 := by
  refine kw_Mv.of (cc := cX5_init) (maxL := 1) (ret := none) (by decide) rfl ?_
  intro pZ eZ s mZ beZ meZ cZ A hE
  obtain ⟨hx, hb, hr, hml, hts, hown, hlocks, hin, hA, hP, hD, hK, hN⟩ := hE
  have hS : va_S A s.heap s.heap [] := va_S.rf
  have hl := lv_entry ([.ref o]) (n := 1) (Nat.le_of_ble_eq_true rfl)
  rw [lg_entry_eq]
  generalize (lg_sl ([.ref o]) ++ List.replicate (1 - (lg_sl ([.ref o])).length) Slot.unset).toArray = ls at hl ⊢
  have hl : lv_has ls 1 [(0, .ref o)] := hl
  have fw1 := hts (.methodLink RX5 1 objectInit) (List.mem_of_getElem? (i := 1) rfl)
  have fw2 := hts (.instanceMethod objectInit) (List.mem_of_getElem? (i := 2) rfl)
  have fw3 := hts (.code objectInit ⟨#[0xb1]⟩ 1 none) (List.mem_of_getElem? (i := 3) rfl)
  refine lv_aload_n hx hb dX5_init_0 rfl (lv_at hl 0 rfl) ?_
  refine W.objInit hx hb hown fw1 fw2 fw3 rfl (by rw [hml]; exact hl.1) rfl dX5_init_1 (Nat.le_of_ble_eq_true rfl) (Nat.le_of_ble_eq_true rfl) ?_
  refine W.eq (g2 := F0 mZ 4 ls []) rfl ?_
  exact W.vret hx hb hr (fun tZ ht hW => ⟨⟨(), rfl, trivial, by rw [ht]; exact hP.sub [0] rfl, hD.sub [0] (by decide) rfl⟩, hS.F ht⟩) hS.2.2 dX5_init_4

set_option maxHeartbeats 4000000 in
set_option maxRecDepth 100000 in
theorem gn_Plain_on2 (l : Launch) (D : va_G) (y : Nat → ClassId) (o : Nat)  : kw_Mv l yX5_init wsX5_init ({ frames := 1, cells := 0, slots := 0, locals := 60 }) D y [.ref o] [(o, .inr (2, []))] (fun (u : Unit) => True) (fun _ => [(o, .inr (2, []))]) 0 0 := by
  refine kw_Mv.of (cc := cX5_init) (maxL := 1) (ret := none) (by decide) rfl ?_
  intro pZ eZ s mZ beZ meZ cZ A hE
  obtain ⟨hx, hb, hr, hml, hts, hown, hlocks, hin, hA, hP, hD, hK, hN⟩ := hE
  have hS : va_S A s.heap s.heap [] := va_S.rf
  have hl := lv_entry ([.ref o]) (n := 1) (Nat.le_of_ble_eq_true rfl)
  rw [lg_entry_eq]
  generalize (lg_sl ([.ref o]) ++ List.replicate (1 - (lg_sl ([.ref o])).length) Slot.unset).toArray = ls at hl ⊢
  have hl : lv_has ls 1 [(0, .ref o)] := hl
  have fw1 := hts (.methodLink RX5 1 objectInit) (List.mem_of_getElem? (i := 1) rfl)
  have fw2 := hts (.instanceMethod objectInit) (List.mem_of_getElem? (i := 2) rfl)
  have fw3 := hts (.code objectInit ⟨#[0xb1]⟩ 1 none) (List.mem_of_getElem? (i := 3) rfl)
  refine lv_aload_n hx hb dX5_init_0 rfl (lv_at hl 0 rfl) ?_
  refine W.objInit hx hb hown fw1 fw2 fw3 rfl (by rw [hml]; exact hl.1) rfl dX5_init_1 (Nat.le_of_ble_eq_true rfl) (Nat.le_of_ble_eq_true rfl) ?_
  refine W.eq (g2 := F0 mZ 4 ls []) rfl ?_
  exact W.vret hx hb hr (fun tZ ht hW => ⟨⟨(), rfl, trivial, by rw [ht]; exact hP.sub [0] rfl, hD.sub [0] (by decide) rfl⟩, hS.F ht⟩) hS.2.2 dX5_init_4

set_option maxHeartbeats 4000000 in
set_option maxRecDepth 100000 in
theorem gn_Plain_on3 (l : Launch) (D : va_G) (y : Nat → ClassId) (o : Nat)  : kw_Mv l yX5_init wsX5_init ({ frames := 1, cells := 0, slots := 0, locals := 60 }) D y [.ref o] [(o, .inr (3, []))] (fun (u : Unit) => True) (fun _ => [(o, .inr (3, []))]) 0 0 := by
  refine kw_Mv.of (cc := cX5_init) (maxL := 1) (ret := none) (by decide) rfl ?_
  intro pZ eZ s mZ beZ meZ cZ A hE
  obtain ⟨hx, hb, hr, hml, hts, hown, hlocks, hin, hA, hP, hD, hK, hN⟩ := hE
  have hS : va_S A s.heap s.heap [] := va_S.rf
  have hl := lv_entry ([.ref o]) (n := 1) (Nat.le_of_ble_eq_true rfl)
  rw [lg_entry_eq]
  generalize (lg_sl ([.ref o]) ++ List.replicate (1 - (lg_sl ([.ref o])).length) Slot.unset).toArray = ls at hl ⊢
  have hl : lv_has ls 1 [(0, .ref o)] := hl
  have fw1 := hts (.methodLink RX5 1 objectInit) (List.mem_of_getElem? (i := 1) rfl)
  have fw2 := hts (.instanceMethod objectInit) (List.mem_of_getElem? (i := 2) rfl)
  have fw3 := hts (.code objectInit ⟨#[0xb1]⟩ 1 none) (List.mem_of_getElem? (i := 3) rfl)
  refine lv_aload_n hx hb dX5_init_0 rfl (lv_at hl 0 rfl) ?_
  refine W.objInit hx hb hown fw1 fw2 fw3 rfl (by rw [hml]; exact hl.1) rfl dX5_init_1 (Nat.le_of_ble_eq_true rfl) (Nat.le_of_ble_eq_true rfl) ?_
  refine W.eq (g2 := F0 mZ 4 ls []) rfl ?_
  exact W.vret hx hb hr (fun tZ ht hW => ⟨⟨(), rfl, trivial, by rw [ht]; exact hP.sub [0] rfl, hD.sub [0] (by decide) rfl⟩, hS.F ht⟩) hS.2.2 dX5_init_4

set_option maxHeartbeats 4000000 in
set_option maxRecDepth 100000 in
theorem gn_West_on8 (l : Launch) (D : va_G) (y : Nat → ClassId) (o : Nat)  : kw_Mv l yX8_init wsX8_init ({ frames := 2, cells := 0, slots := 0, locals := 80 }) D y [.ref o] [(o, .inr (8, []))] (fun (u : Unit) => True) (fun _ => [(o, .inr (8, []))]) 0 0 := by
  refine kw_Mv.of (cc := cX8_init) (maxL := 1) (ret := none) (by decide) rfl ?_
  intro pZ eZ s mZ beZ meZ cZ A hE
  obtain ⟨hx, hb, hr, hml, hts, hown, hlocks, hin, hA, hP, hD, hK, hN⟩ := hE
  have hS : va_S A s.heap s.heap [] := va_S.rf
  have hl := lv_entry ([.ref o]) (n := 1) (Nat.le_of_ble_eq_true rfl)
  rw [lg_entry_eq]
  generalize (lg_sl ([.ref o]) ++ List.replicate (1 - (lg_sl ([.ref o])).length) Slot.unset).toArray = ls at hl ⊢
  have hl : lv_has ls 1 [(0, .ref o)] := hl
  have fw1 := hts (.initialized RX5) (List.mem_of_getElem? (i := 2) rfl)
  have fw2 := hts (.instanceMethod yX5_init) (List.mem_of_getElem? (i := 1) rfl)
  refine lv_aload_n hx hb dX8_init_0 rfl (lv_at hl 0 rfl) ?_
  have hs1 : kw_Split [(o, .inr (8, []))] [(o, .inr (8, []))] [] [0] [] := ⟨rfl, rfl, rfl, rfl, rfl, by decide⟩
  refine kw_go_v hs1 hP hD hS hA (va_runIN (As := []) (rest := []) ⟨hx, hb, hml, hown, hts⟩ (gn_Plain_on8 l D y o  _) ⟨va_cnB 0 hts gX8_init_X5_init_n1 rfl rfl rfl (hN.1 ("GleanDusk$West", 1, yX5_init) (List.mem_of_getElem? (i := 2) rfl)) fw1 (by decide +kernel) ⟨Nat.le_of_ble_eq_true rfl, Nat.le_of_ble_eq_true rfl⟩, rfl, fw2⟩ (kw_PreI hs1 hP hD hK hN) rfl rfl hl.1 rfl (lv_room (Nat.le_of_ble_eq_true rfl)) dX8_init_1 ⟨Nat.le_of_ble_eq_true rfl, Nat.le_of_ble_eq_true rfl⟩) (fun u3 H locs hq hP hD hS => ?_)
  have hP : va_P D vwCl [(o, .inr (8, []))] H := hP
  have hD : va_D A [(o, .inr (8, []))] := hD
  exact W.vret hx hb hr (fun tZ ht hW => ⟨⟨(), rfl, trivial, by rw [ht]; exact hP.sub [0] rfl, hD.sub [0] (by decide) rfl⟩, hS.F ht⟩) hS.2.2 dX8_init_4

set_option maxHeartbeats 4000000 in
set_option maxRecDepth 100000 in
theorem gn_West_on2 (l : Launch) (D : va_G) (y : Nat → ClassId) (o : Nat)  : kw_Mv l yX8_init wsX8_init ({ frames := 2, cells := 0, slots := 0, locals := 80 }) D y [.ref o] [(o, .inr (2, []))] (fun (u : Unit) => True) (fun _ => [(o, .inr (2, []))]) 0 0 := by
  refine kw_Mv.of (cc := cX8_init) (maxL := 1) (ret := none) (by decide) rfl ?_
  intro pZ eZ s mZ beZ meZ cZ A hE
  obtain ⟨hx, hb, hr, hml, hts, hown, hlocks, hin, hA, hP, hD, hK, hN⟩ := hE
  have hS : va_S A s.heap s.heap [] := va_S.rf
  have hl := lv_entry ([.ref o]) (n := 1) (Nat.le_of_ble_eq_true rfl)
  rw [lg_entry_eq]
  generalize (lg_sl ([.ref o]) ++ List.replicate (1 - (lg_sl ([.ref o])).length) Slot.unset).toArray = ls at hl ⊢
  have hl : lv_has ls 1 [(0, .ref o)] := hl
  have fw1 := hts (.initialized RX5) (List.mem_of_getElem? (i := 2) rfl)
  have fw2 := hts (.instanceMethod yX5_init) (List.mem_of_getElem? (i := 1) rfl)
  refine lv_aload_n hx hb dX8_init_0 rfl (lv_at hl 0 rfl) ?_
  have hs1 : kw_Split [(o, .inr (2, []))] [(o, .inr (2, []))] [] [0] [] := ⟨rfl, rfl, rfl, rfl, rfl, by decide⟩
  refine kw_go_v hs1 hP hD hS hA (va_runIN (As := []) (rest := []) ⟨hx, hb, hml, hown, hts⟩ (gn_Plain_on2 l D y o  _) ⟨va_cnB 0 hts gX8_init_X5_init_n1 rfl rfl rfl (hN.1 ("GleanDusk$West", 1, yX5_init) (List.mem_of_getElem? (i := 2) rfl)) fw1 (by decide +kernel) ⟨Nat.le_of_ble_eq_true rfl, Nat.le_of_ble_eq_true rfl⟩, rfl, fw2⟩ (kw_PreI hs1 hP hD hK hN) rfl rfl hl.1 rfl (lv_room (Nat.le_of_ble_eq_true rfl)) dX8_init_1 ⟨Nat.le_of_ble_eq_true rfl, Nat.le_of_ble_eq_true rfl⟩) (fun u3 H locs hq hP hD hS => ?_)
  have hP : va_P D vwCl [(o, .inr (2, []))] H := hP
  have hD : va_D A [(o, .inr (2, []))] := hD
  exact W.vret hx hb hr (fun tZ ht hW => ⟨⟨(), rfl, trivial, by rw [ht]; exact hP.sub [0] rfl, hD.sub [0] (by decide) rfl⟩, hS.F ht⟩) hS.2.2 dX8_init_4

set_option maxHeartbeats 4000000 in
set_option maxRecDepth 100000 in
theorem gn_Wood_on9 (l : Launch) (D : va_G) (y : Nat → ClassId) (o : Nat)  : kw_Mv l yX9_init wsX9_init ({ frames := 2, cells := 0, slots := 0, locals := 80 }) D y [.ref o] [(o, .inr (9, []))] (fun (u : Unit) => True) (fun _ => [(o, .inr (9, []))]) 0 0 := by
  refine kw_Mv.of (cc := cX9_init) (maxL := 1) (ret := none) (by decide) rfl ?_
  intro pZ eZ s mZ beZ meZ cZ A hE
  obtain ⟨hx, hb, hr, hml, hts, hown, hlocks, hin, hA, hP, hD, hK, hN⟩ := hE
  have hS : va_S A s.heap s.heap [] := va_S.rf
  have hl := lv_entry ([.ref o]) (n := 1) (Nat.le_of_ble_eq_true rfl)
  rw [lg_entry_eq]
  generalize (lg_sl ([.ref o]) ++ List.replicate (1 - (lg_sl ([.ref o])).length) Slot.unset).toArray = ls at hl ⊢
  have hl : lv_has ls 1 [(0, .ref o)] := hl
  have fw1 := hts (.initialized RX5) (List.mem_of_getElem? (i := 2) rfl)
  have fw2 := hts (.instanceMethod yX5_init) (List.mem_of_getElem? (i := 1) rfl)
  refine lv_aload_n hx hb dX9_init_0 rfl (lv_at hl 0 rfl) ?_
  have hs1 : kw_Split [(o, .inr (9, []))] [(o, .inr (9, []))] [] [0] [] := ⟨rfl, rfl, rfl, rfl, rfl, by decide⟩
  refine kw_go_v hs1 hP hD hS hA (va_runIN (As := []) (rest := []) ⟨hx, hb, hml, hown, hts⟩ (gn_Plain_on9 l D y o  _) ⟨va_cnB 0 hts gX9_init_X5_init_n1 rfl rfl rfl (hN.1 ("GleanDusk$Wood", 1, yX5_init) (List.mem_of_getElem? (i := 4) rfl)) fw1 (by decide +kernel) ⟨Nat.le_of_ble_eq_true rfl, Nat.le_of_ble_eq_true rfl⟩, rfl, fw2⟩ (kw_PreI hs1 hP hD hK hN) rfl rfl hl.1 rfl (lv_room (Nat.le_of_ble_eq_true rfl)) dX9_init_1 ⟨Nat.le_of_ble_eq_true rfl, Nat.le_of_ble_eq_true rfl⟩) (fun u3 H locs hq hP hD hS => ?_)
  have hP : va_P D vwCl [(o, .inr (9, []))] H := hP
  have hD : va_D A [(o, .inr (9, []))] := hD
  exact W.vret hx hb hr (fun tZ ht hW => ⟨⟨(), rfl, trivial, by rw [ht]; exact hP.sub [0] rfl, hD.sub [0] (by decide) rfl⟩, hS.F ht⟩) hS.2.2 dX9_init_4

set_option maxHeartbeats 4000000 in
set_option maxRecDepth 100000 in
theorem gn_Wood_on3 (l : Launch) (D : va_G) (y : Nat → ClassId) (o : Nat)  : kw_Mv l yX9_init wsX9_init ({ frames := 2, cells := 0, slots := 0, locals := 80 }) D y [.ref o] [(o, .inr (3, []))] (fun (u : Unit) => True) (fun _ => [(o, .inr (3, []))]) 0 0 := by
  refine kw_Mv.of (cc := cX9_init) (maxL := 1) (ret := none) (by decide) rfl ?_
  intro pZ eZ s mZ beZ meZ cZ A hE
  obtain ⟨hx, hb, hr, hml, hts, hown, hlocks, hin, hA, hP, hD, hK, hN⟩ := hE
  have hS : va_S A s.heap s.heap [] := va_S.rf
  have hl := lv_entry ([.ref o]) (n := 1) (Nat.le_of_ble_eq_true rfl)
  rw [lg_entry_eq]
  generalize (lg_sl ([.ref o]) ++ List.replicate (1 - (lg_sl ([.ref o])).length) Slot.unset).toArray = ls at hl ⊢
  have hl : lv_has ls 1 [(0, .ref o)] := hl
  have fw1 := hts (.initialized RX5) (List.mem_of_getElem? (i := 2) rfl)
  have fw2 := hts (.instanceMethod yX5_init) (List.mem_of_getElem? (i := 1) rfl)
  refine lv_aload_n hx hb dX9_init_0 rfl (lv_at hl 0 rfl) ?_
  have hs1 : kw_Split [(o, .inr (3, []))] [(o, .inr (3, []))] [] [0] [] := ⟨rfl, rfl, rfl, rfl, rfl, by decide⟩
  refine kw_go_v hs1 hP hD hS hA (va_runIN (As := []) (rest := []) ⟨hx, hb, hml, hown, hts⟩ (gn_Plain_on3 l D y o  _) ⟨va_cnB 0 hts gX9_init_X5_init_n1 rfl rfl rfl (hN.1 ("GleanDusk$Wood", 1, yX5_init) (List.mem_of_getElem? (i := 4) rfl)) fw1 (by decide +kernel) ⟨Nat.le_of_ble_eq_true rfl, Nat.le_of_ble_eq_true rfl⟩, rfl, fw2⟩ (kw_PreI hs1 hP hD hK hN) rfl rfl hl.1 rfl (lv_room (Nat.le_of_ble_eq_true rfl)) dX9_init_1 ⟨Nat.le_of_ble_eq_true rfl, Nat.le_of_ble_eq_true rfl⟩) (fun u3 H locs hq hP hD hS => ?_)
  have hP : va_P D vwCl [(o, .inr (3, []))] H := hP
  have hD : va_D A [(o, .inr (3, []))] := hD
  exact W.vret hx hb hr (fun tZ ht hW => ⟨⟨(), rfl, trivial, by rw [ht]; exact hP.sub [0] rfl, hD.sub [0] (by decide) rfl⟩, hS.F ht⟩) hS.2.2 dX9_init_4

set_option maxHeartbeats 4000000 in
set_option maxRecDepth 100000 in
theorem gn_Puddle_on6 (l : Launch) (D : va_G) (y : Nat → ClassId) (o : Nat)  : kw_Mv l yX6_init wsX6_init ({ frames := 2, cells := 0, slots := 0, locals := 80 }) D y [.ref o] [(o, .inr (6, []))] (fun (u : Unit) => True) (fun _ => [(o, .inr (6, []))]) 0 0 := by
  refine kw_Mv.of (cc := cX6_init) (maxL := 1) (ret := none) (by decide) rfl ?_
  intro pZ eZ s mZ beZ meZ cZ A hE
  obtain ⟨hx, hb, hr, hml, hts, hown, hlocks, hin, hA, hP, hD, hK, hN⟩ := hE
  have hS : va_S A s.heap s.heap [] := va_S.rf
  have hl := lv_entry ([.ref o]) (n := 1) (Nat.le_of_ble_eq_true rfl)
  rw [lg_entry_eq]
  generalize (lg_sl ([.ref o]) ++ List.replicate (1 - (lg_sl ([.ref o])).length) Slot.unset).toArray = ls at hl ⊢
  have hl : lv_has ls 1 [(0, .ref o)] := hl
  have fw1 := hts (.initialized RX5) (List.mem_of_getElem? (i := 2) rfl)
  have fw2 := hts (.instanceMethod yX5_init) (List.mem_of_getElem? (i := 1) rfl)
  refine lv_aload_n hx hb dX6_init_0 rfl (lv_at hl 0 rfl) ?_
  have hs1 : kw_Split [(o, .inr (6, []))] [(o, .inr (6, []))] [] [0] [] := ⟨rfl, rfl, rfl, rfl, rfl, by decide⟩
  refine kw_go_v hs1 hP hD hS hA (va_runIN (As := []) (rest := []) ⟨hx, hb, hml, hown, hts⟩ (gn_Plain_on6 l D y o  _) ⟨va_cnB 0 hts gX6_init_X5_init_n1 rfl rfl rfl (hN.1 ("GleanDusk$Puddle", 1, yX5_init) (List.mem_of_getElem? (i := 6) rfl)) fw1 (by decide +kernel) ⟨Nat.le_of_ble_eq_true rfl, Nat.le_of_ble_eq_true rfl⟩, rfl, fw2⟩ (kw_PreI hs1 hP hD hK hN) rfl rfl hl.1 rfl (lv_room (Nat.le_of_ble_eq_true rfl)) dX6_init_1 ⟨Nat.le_of_ble_eq_true rfl, Nat.le_of_ble_eq_true rfl⟩) (fun u3 H locs hq hP hD hS => ?_)
  have hP : va_P D vwCl [(o, .inr (6, []))] H := hP
  have hD : va_D A [(o, .inr (6, []))] := hD
  exact W.vret hx hb hr (fun tZ ht hW => ⟨⟨(), rfl, trivial, by rw [ht]; exact hP.sub [0] rfl, hD.sub [0] (by decide) rfl⟩, hS.F ht⟩) hS.2.2 dX6_init_4

set_option maxHeartbeats 4000000 in
set_option maxRecDepth 100000 in
theorem gn_Hill_on2 (l : Launch) (D : va_G) (y : Nat → ClassId) (o : Nat)  : kw_Mv l yX2_init wsX2_init ({ frames := 3, cells := 0, slots := 0, locals := 100 }) D y [.ref o] [(o, .inr (2, []))] (fun (u : Unit) => True) (fun _ => [(o, .inr (2, []))]) 0 0 := by
  refine kw_Mv.of (cc := cX2_init) (maxL := 1) (ret := none) (by decide) rfl ?_
  intro pZ eZ s mZ beZ meZ cZ A hE
  obtain ⟨hx, hb, hr, hml, hts, hown, hlocks, hin, hA, hP, hD, hK, hN⟩ := hE
  have hS : va_S A s.heap s.heap [] := va_S.rf
  have hl := lv_entry ([.ref o]) (n := 1) (Nat.le_of_ble_eq_true rfl)
  rw [lg_entry_eq]
  generalize (lg_sl ([.ref o]) ++ List.replicate (1 - (lg_sl ([.ref o])).length) Slot.unset).toArray = ls at hl ⊢
  have hl : lv_has ls 1 [(0, .ref o)] := hl
  have fw1 := hts (.initialized RX8) (List.mem_of_getElem? (i := 2) rfl)
  have fw2 := hts (.instanceMethod yX8_init) (List.mem_of_getElem? (i := 1) rfl)
  refine lv_aload_n hx hb dX2_init_0 rfl (lv_at hl 0 rfl) ?_
  have hs1 : kw_Split [(o, .inr (2, []))] [(o, .inr (2, []))] [] [0] [] := ⟨rfl, rfl, rfl, rfl, rfl, by decide⟩
  refine kw_go_v hs1 hP hD hS hA (va_runIN (As := []) (rest := []) ⟨hx, hb, hml, hown, hts⟩ (gn_West_on2 l D y o  _) ⟨va_cnB 0 hts gX2_init_X8_init_n1 rfl rfl rfl (hN.1 ("GleanDusk$Hill", 1, yX8_init) (List.mem_of_getElem? (i := 8) rfl)) fw1 (by decide +kernel) ⟨Nat.le_of_ble_eq_true rfl, Nat.le_of_ble_eq_true rfl⟩, rfl, fw2⟩ (kw_PreI hs1 hP hD hK hN) rfl rfl hl.1 rfl (lv_room (Nat.le_of_ble_eq_true rfl)) dX2_init_1 ⟨Nat.le_of_ble_eq_true rfl, Nat.le_of_ble_eq_true rfl⟩) (fun u3 H locs hq hP hD hS => ?_)
  have hP : va_P D vwCl [(o, .inr (2, []))] H := hP
  have hD : va_D A [(o, .inr (2, []))] := hD
  exact W.vret hx hb hr (fun tZ ht hW => ⟨⟨(), rfl, trivial, by rw [ht]; exact hP.sub [0] rfl, hD.sub [0] (by decide) rfl⟩, hS.F ht⟩) hS.2.2 dX2_init_4

set_option maxHeartbeats 4000000 in
set_option maxRecDepth 100000 in
theorem gn_Lane_on3 (l : Launch) (D : va_G) (y : Nat → ClassId) (o : Nat)  : kw_Mv l yX3_init wsX3_init ({ frames := 3, cells := 0, slots := 0, locals := 100 }) D y [.ref o] [(o, .inr (3, []))] (fun (u : Unit) => True) (fun _ => [(o, .inr (3, []))]) 0 0 := by
  refine kw_Mv.of (cc := cX3_init) (maxL := 1) (ret := none) (by decide) rfl ?_
  intro pZ eZ s mZ beZ meZ cZ A hE
  obtain ⟨hx, hb, hr, hml, hts, hown, hlocks, hin, hA, hP, hD, hK, hN⟩ := hE
  have hS : va_S A s.heap s.heap [] := va_S.rf
  have hl := lv_entry ([.ref o]) (n := 1) (Nat.le_of_ble_eq_true rfl)
  rw [lg_entry_eq]
  generalize (lg_sl ([.ref o]) ++ List.replicate (1 - (lg_sl ([.ref o])).length) Slot.unset).toArray = ls at hl ⊢
  have hl : lv_has ls 1 [(0, .ref o)] := hl
  have fw1 := hts (.initialized RX9) (List.mem_of_getElem? (i := 2) rfl)
  have fw2 := hts (.instanceMethod yX9_init) (List.mem_of_getElem? (i := 1) rfl)
  refine lv_aload_n hx hb dX3_init_0 rfl (lv_at hl 0 rfl) ?_
  have hs1 : kw_Split [(o, .inr (3, []))] [(o, .inr (3, []))] [] [0] [] := ⟨rfl, rfl, rfl, rfl, rfl, by decide⟩
  refine kw_go_v hs1 hP hD hS hA (va_runIN (As := []) (rest := []) ⟨hx, hb, hml, hown, hts⟩ (gn_Wood_on3 l D y o  _) ⟨va_cnB 0 hts gX3_init_X9_init_n1 rfl rfl rfl (hN.1 ("GleanDusk$Lane", 1, yX9_init) (List.mem_of_getElem? (i := 10) rfl)) fw1 (by decide +kernel) ⟨Nat.le_of_ble_eq_true rfl, Nat.le_of_ble_eq_true rfl⟩, rfl, fw2⟩ (kw_PreI hs1 hP hD hK hN) rfl rfl hl.1 rfl (lv_room (Nat.le_of_ble_eq_true rfl)) dX3_init_1 ⟨Nat.le_of_ble_eq_true rfl, Nat.le_of_ble_eq_true rfl⟩) (fun u3 H locs hq hP hD hS => ?_)
  have hP : va_P D vwCl [(o, .inr (3, []))] H := hP
  have hD : va_D A [(o, .inr (3, []))] := hD
  exact W.vret hx hb hr (fun tZ ht hW => ⟨⟨(), rfl, trivial, by rw [ht]; exact hP.sub [0] rfl, hD.sub [0] (by decide) rfl⟩, hS.F ht⟩) hS.2.2 dX3_init_4

set_option maxHeartbeats 4000000 in
set_option maxRecDepth 100000 in
theorem gn_Best (l : Launch) (D : va_G) (y : Nat → ClassId) (o : Nat)  : kw_Mv l yX0_init wsX0_init ({ frames := 1, cells := 2, slots := 12, locals := 60 }) D y [.ref o] [(o, .inr (0, [.null, .null, .int 0]))] (fun (u : Nat → Nat) => True) (fun u => [(o, .inr (0, [.ref (u 0), .ref (u 1), .int 0])), ((u 0), .inl (y 0, 6, .inl (fun _ => 0))), ((u 1), .inl (y 0, 6, .inl (fun _ => 0)))]) 2 12 := by
  refine kw_Mv.of (cc := cX0_init) (maxL := 1) (ret := none) (by decide) rfl ?_
  intro pZ eZ s mZ beZ meZ cZ A hE
  obtain ⟨hx, hb, hr, hml, hts, hown, hlocks, hin, hA, hP, hD, hK, hN⟩ := hE
  have hS : va_S A s.heap s.heap [] := va_S.rf
  have hl := lv_entry ([.ref o]) (n := 1) (Nat.le_of_ble_eq_true rfl)
  rw [lg_entry_eq]
  generalize (lg_sl ([.ref o]) ++ List.replicate (1 - (lg_sl ([.ref o])).length) Slot.unset).toArray = ls at hl ⊢
  have hl : lv_has ls 1 [(0, .ref o)] := hl
  have fw1 := hts (.methodLink RX0 3 objectInit) (List.mem_of_getElem? (i := 1) rfl)
  have fw2 := hts (.instanceMethod objectInit) (List.mem_of_getElem? (i := 2) rfl)
  have fw3 := hts (.code objectInit ⟨#[0xb1]⟩ 1 none) (List.mem_of_getElem? (i := 3) rfl)
  have fw4 := hts (.arrayClass .int) (List.mem_of_getElem? (i := 4) rfl)
  have fw5 := hts (.fieldLink RX0 9 "GleanDusk$Best" "row" "[I") (List.mem_of_getElem? (i := 5) rfl)
  have fw6 := hts (.fieldLink RX0 15 "GleanDusk$Best" "first" "[I") (List.mem_of_getElem? (i := 6) rfl)
  have iw0 : ∀ w ∈ wsX00, w ∈ wsX0_init := fun _ h => List.mem_cons_of_mem _ (List.mem_append_right _ h)
  refine lv_aload_n hx hb dX0_init_0 rfl (lv_at hl 0 rfl) ?_
  refine W.objInit hx hb hown fw1 fw2 fw3 rfl (by rw [hml]; exact hl.1) rfl dX0_init_1 (Nat.le_of_ble_eq_true rfl) (Nat.le_of_ble_eq_true rfl) ?_
  refine W.eq (g2 := F0 mZ 4 ls []) rfl ?_
  refine lv_aload_n hx hb dX0_init_4 rfl (lv_at hl 0 rfl) ?_
  refine lv_bipush (v := 6) hx hb dX0_init_5 (by decide) ?_
  refine va_newa (atype := .int) (ty := .int) (N' := 6) (a0 := (6, .inl (fun _ => 0))) hx hb fw4 rfl hK hP hD hS hA (fun _ => rfl) (by decide) (by decide) (by decide) (Nat.le_of_ble_eq_true rfl) (Nat.le_of_ble_eq_true rfl) dX0_init_7 (fun q1 cA H hK9 hP hD hS => ?_)
  obtain rfl : cA = y 0 := kw_cls hK9 (i := 7) (j := 0) rfl rfl
  have hP : va_P D vwCl [(o, .inr (0, [.null, .null, .int 0])), (q1, .inl (y 0, 6, .inl (fun _ => 0)))] H := hP
  have hD : va_D A [(o, .inr (0, [.null, .null, .int 0])), (q1, .inl (y 0, 6, .inl (fun _ => 0)))] := hD
  refine W.widen (k := 1) (n := 6) (Nat.le_of_ble_eq_true rfl) (Nat.le_of_ble_eq_true rfl) ?_
  refine va_putF (D := D) (ci := 0) (v := .ref q1) (ty := .array .int) (C := RX0) (T := TX0) (N := 3) hx hb hts iw0 tyX0 tyX0_ok nmX0 hown hK hP hD hS 0 rfl rfl 0 (by decide) fw5 (fun _ h9 => h9) rfl hin rfl (by decide +kernel) rfl rfl (Nat.le_of_ble_eq_true rfl) dX0_init_9 (fun H locs hP hD hS => ?_)
  have hP : va_P D vwCl [(o, .inr (0, [.ref q1, .null, .int 0])), (q1, .inl (y 0, 6, .inl (fun _ => 0)))] H := hP
  have hD : va_D A [(o, .inr (0, [.ref q1, .null, .int 0])), (q1, .inl (y 0, 6, .inl (fun _ => 0)))] := hD
  refine lv_aload_n hx hb dX0_init_12 rfl (lv_at hl 0 rfl) ?_
  refine lv_bipush (v := 6) hx hb dX0_init_13 (by decide) ?_
  refine va_newa (atype := .int) (ty := .int) (N' := 6) (a0 := (6, .inl (fun _ => 0))) hx hb fw4 rfl hK hP hD hS hA (fun _ => rfl) (by decide) (by decide) (by decide) (Nat.le_of_ble_eq_true rfl) (Nat.le_of_ble_eq_true rfl) dX0_init_15 (fun q2 cA H hK9 hP hD hS => ?_)
  obtain rfl : cA = y 0 := kw_cls hK9 (i := 7) (j := 0) rfl rfl
  have hP : va_P D vwCl [(o, .inr (0, [.ref q1, .null, .int 0])), (q1, .inl (y 0, 6, .inl (fun _ => 0))), (q2, .inl (y 0, 6, .inl (fun _ => 0)))] H := hP
  have hD : va_D A [(o, .inr (0, [.ref q1, .null, .int 0])), (q1, .inl (y 0, 6, .inl (fun _ => 0))), (q2, .inl (y 0, 6, .inl (fun _ => 0)))] := hD
  refine W.widen (k := 2) (n := 12) (Nat.le_of_ble_eq_true rfl) (Nat.le_of_ble_eq_true rfl) ?_
  refine va_putF (D := D) (ci := 0) (v := .ref q2) (ty := .array .int) (C := RX0) (T := TX0) (N := 3) hx hb hts iw0 tyX0 tyX0_ok nmX0 hown hK hP hD hS 0 rfl rfl 1 (by decide) fw6 (fun _ h9 => h9) rfl hin rfl (by decide +kernel) rfl rfl (Nat.le_of_ble_eq_true rfl) dX0_init_17 (fun H locs hP hD hS => ?_)
  have hP : va_P D vwCl [(o, .inr (0, [.ref q1, .ref q2, .int 0])), (q1, .inl (y 0, 6, .inl (fun _ => 0))), (q2, .inl (y 0, 6, .inl (fun _ => 0)))] H := hP
  have hD : va_D A [(o, .inr (0, [.ref q1, .ref q2, .int 0])), (q1, .inl (y 0, 6, .inl (fun _ => 0))), (q2, .inl (y 0, 6, .inl (fun _ => 0)))] := hD
  refine W.widen (k := 2) (n := 12) (Nat.le_of_ble_eq_true rfl) (Nat.le_of_ble_eq_true rfl) ?_
  exact W.vret hx hb hr (fun tZ ht hW => ⟨⟨(fun k => [q1, q2].getD k 0), rfl, trivial, by rw [ht]; exact hP.sub [0, 1, 2] rfl, hD.sub [0, 1, 2] (by decide) rfl⟩, hS.F ht⟩) hS.2.2 dX0_init_20

set_option maxHeartbeats 4000000 in
set_option maxRecDepth 100000 in
theorem gn_Dusk (l : Launch) (D : va_G) (y : Nat → ClassId) (o : Nat)  : kw_Mv l yX1_init wsX1_init ({ frames := 1, cells := 3, slots := 16, locals := 60 }) D y [.ref o] [(o, .inr (1, [.null, .null, .null, .int 0, .int 0, .int 0]))] (fun (u : Nat → Nat) => True) (fun u => [(o, .inr (1, [.ref (u 0), .ref (u 1), .ref (u 2), .int 0, .int 0, .int 0])), ((u 0), .inl (y 0, 6, .inl (fun _ => 0))), ((u 1), .inl (y 0, 5, .inl (fun _ => 0))), ((u 2), .inl (y 0, 5, .inl (fun _ => 0)))]) 3 16 := by
  refine kw_Mv.of (cc := cX1_init) (maxL := 1) (ret := none) (by decide) rfl ?_
  intro pZ eZ s mZ beZ meZ cZ A hE
  obtain ⟨hx, hb, hr, hml, hts, hown, hlocks, hin, hA, hP, hD, hK, hN⟩ := hE
  have hS : va_S A s.heap s.heap [] := va_S.rf
  have hl := lv_entry ([.ref o]) (n := 1) (Nat.le_of_ble_eq_true rfl)
  rw [lg_entry_eq]
  generalize (lg_sl ([.ref o]) ++ List.replicate (1 - (lg_sl ([.ref o])).length) Slot.unset).toArray = ls at hl ⊢
  have hl : lv_has ls 1 [(0, .ref o)] := hl
  have fw1 := hts (.methodLink RX1 3 objectInit) (List.mem_of_getElem? (i := 1) rfl)
  have fw2 := hts (.instanceMethod objectInit) (List.mem_of_getElem? (i := 2) rfl)
  have fw3 := hts (.code objectInit ⟨#[0xb1]⟩ 1 none) (List.mem_of_getElem? (i := 3) rfl)
  have fw4 := hts (.arrayClass .int) (List.mem_of_getElem? (i := 4) rfl)
  have fw5 := hts (.fieldLink RX1 9 "GleanDusk$Dusk" "light" "[I") (List.mem_of_getElem? (i := 5) rfl)
  have fw6 := hts (.fieldLink RX1 15 "GleanDusk$Dusk" "at" "[I") (List.mem_of_getElem? (i := 6) rfl)
  have fw7 := hts (.fieldLink RX1 18 "GleanDusk$Dusk" "store" "[I") (List.mem_of_getElem? (i := 7) rfl)
  have iw1 : ∀ w ∈ wsX10, w ∈ wsX1_init := fun _ h => List.mem_cons_of_mem _ (List.mem_append_right _ h)
  refine lv_aload_n hx hb dX1_init_0 rfl (lv_at hl 0 rfl) ?_
  refine W.objInit hx hb hown fw1 fw2 fw3 rfl (by rw [hml]; exact hl.1) rfl dX1_init_1 (Nat.le_of_ble_eq_true rfl) (Nat.le_of_ble_eq_true rfl) ?_
  refine W.eq (g2 := F0 mZ 4 ls []) rfl ?_
  refine lv_aload_n hx hb dX1_init_4 rfl (lv_at hl 0 rfl) ?_
  refine lv_bipush (v := 6) hx hb dX1_init_5 (by decide) ?_
  refine va_newa (atype := .int) (ty := .int) (N' := 6) (a0 := (6, .inl (fun _ => 0))) hx hb fw4 rfl hK hP hD hS hA (fun _ => rfl) (by decide) (by decide) (by decide) (Nat.le_of_ble_eq_true rfl) (Nat.le_of_ble_eq_true rfl) dX1_init_7 (fun q1 cA H hK9 hP hD hS => ?_)
  obtain rfl : cA = y 0 := kw_cls hK9 (i := 7) (j := 0) rfl rfl
  have hP : va_P D vwCl [(o, .inr (1, [.null, .null, .null, .int 0, .int 0, .int 0])), (q1, .inl (y 0, 6, .inl (fun _ => 0)))] H := hP
  have hD : va_D A [(o, .inr (1, [.null, .null, .null, .int 0, .int 0, .int 0])), (q1, .inl (y 0, 6, .inl (fun _ => 0)))] := hD
  refine W.widen (k := 1) (n := 6) (Nat.le_of_ble_eq_true rfl) (Nat.le_of_ble_eq_true rfl) ?_
  refine va_putF (D := D) (ci := 1) (v := .ref q1) (ty := .array .int) (C := RX1) (T := TX1) (N := 6) hx hb hts iw1 tyX1 tyX1_ok nmX1 hown hK hP hD hS 0 rfl rfl 0 (by decide) fw5 (fun _ h9 => h9) rfl hin rfl (by decide +kernel) rfl rfl (Nat.le_of_ble_eq_true rfl) dX1_init_9 (fun H locs hP hD hS => ?_)
  have hP : va_P D vwCl [(o, .inr (1, [.ref q1, .null, .null, .int 0, .int 0, .int 0])), (q1, .inl (y 0, 6, .inl (fun _ => 0)))] H := hP
  have hD : va_D A [(o, .inr (1, [.ref q1, .null, .null, .int 0, .int 0, .int 0])), (q1, .inl (y 0, 6, .inl (fun _ => 0)))] := hD
  refine lv_aload_n hx hb dX1_init_12 rfl (lv_at hl 0 rfl) ?_
  refine lv_iconst (v := 5) hx hb dX1_init_13 (by decide) ?_
  refine va_newa (atype := .int) (ty := .int) (N' := 5) (a0 := (5, .inl (fun _ => 0))) hx hb fw4 rfl hK hP hD hS hA (fun _ => rfl) (by decide) (by decide) (by decide) (Nat.le_of_ble_eq_true rfl) (Nat.le_of_ble_eq_true rfl) dX1_init_14 (fun q2 cA H hK9 hP hD hS => ?_)
  obtain rfl : cA = y 0 := kw_cls hK9 (i := 7) (j := 0) rfl rfl
  have hP : va_P D vwCl [(o, .inr (1, [.ref q1, .null, .null, .int 0, .int 0, .int 0])), (q1, .inl (y 0, 6, .inl (fun _ => 0))), (q2, .inl (y 0, 5, .inl (fun _ => 0)))] H := hP
  have hD : va_D A [(o, .inr (1, [.ref q1, .null, .null, .int 0, .int 0, .int 0])), (q1, .inl (y 0, 6, .inl (fun _ => 0))), (q2, .inl (y 0, 5, .inl (fun _ => 0)))] := hD
  refine W.widen (k := 2) (n := 11) (Nat.le_of_ble_eq_true rfl) (Nat.le_of_ble_eq_true rfl) ?_
  refine va_putF (D := D) (ci := 1) (v := .ref q2) (ty := .array .int) (C := RX1) (T := TX1) (N := 6) hx hb hts iw1 tyX1 tyX1_ok nmX1 hown hK hP hD hS 0 rfl rfl 1 (by decide) fw6 (fun _ h9 => h9) rfl hin rfl (by decide +kernel) rfl rfl (Nat.le_of_ble_eq_true rfl) dX1_init_16 (fun H locs hP hD hS => ?_)
  have hP : va_P D vwCl [(o, .inr (1, [.ref q1, .ref q2, .null, .int 0, .int 0, .int 0])), (q1, .inl (y 0, 6, .inl (fun _ => 0))), (q2, .inl (y 0, 5, .inl (fun _ => 0)))] H := hP
  have hD : va_D A [(o, .inr (1, [.ref q1, .ref q2, .null, .int 0, .int 0, .int 0])), (q1, .inl (y 0, 6, .inl (fun _ => 0))), (q2, .inl (y 0, 5, .inl (fun _ => 0)))] := hD
  refine lv_aload_n hx hb dX1_init_19 rfl (lv_at hl 0 rfl) ?_
  refine lv_iconst (v := 5) hx hb dX1_init_20 (by decide) ?_
  refine va_newa (atype := .int) (ty := .int) (N' := 5) (a0 := (5, .inl (fun _ => 0))) hx hb fw4 rfl hK hP hD hS hA (fun _ => rfl) (by decide) (by decide) (by decide) (Nat.le_of_ble_eq_true rfl) (Nat.le_of_ble_eq_true rfl) dX1_init_21 (fun q3 cA H hK9 hP hD hS => ?_)
  obtain rfl : cA = y 0 := kw_cls hK9 (i := 7) (j := 0) rfl rfl
  have hP : va_P D vwCl [(o, .inr (1, [.ref q1, .ref q2, .null, .int 0, .int 0, .int 0])), (q1, .inl (y 0, 6, .inl (fun _ => 0))), (q2, .inl (y 0, 5, .inl (fun _ => 0))), (q3, .inl (y 0, 5, .inl (fun _ => 0)))] H := hP
  have hD : va_D A [(o, .inr (1, [.ref q1, .ref q2, .null, .int 0, .int 0, .int 0])), (q1, .inl (y 0, 6, .inl (fun _ => 0))), (q2, .inl (y 0, 5, .inl (fun _ => 0))), (q3, .inl (y 0, 5, .inl (fun _ => 0)))] := hD
  refine W.widen (k := 3) (n := 16) (Nat.le_of_ble_eq_true rfl) (Nat.le_of_ble_eq_true rfl) ?_
  refine va_putF (D := D) (ci := 1) (v := .ref q3) (ty := .array .int) (C := RX1) (T := TX1) (N := 6) hx hb hts iw1 tyX1 tyX1_ok nmX1 hown hK hP hD hS 0 rfl rfl 2 (by decide) fw7 (fun _ h9 => h9) rfl hin rfl (by decide +kernel) rfl rfl (Nat.le_of_ble_eq_true rfl) dX1_init_23 (fun H locs hP hD hS => ?_)
  have hP : va_P D vwCl [(o, .inr (1, [.ref q1, .ref q2, .ref q3, .int 0, .int 0, .int 0])), (q1, .inl (y 0, 6, .inl (fun _ => 0))), (q2, .inl (y 0, 5, .inl (fun _ => 0))), (q3, .inl (y 0, 5, .inl (fun _ => 0)))] H := hP
  have hD : va_D A [(o, .inr (1, [.ref q1, .ref q2, .ref q3, .int 0, .int 0, .int 0])), (q1, .inl (y 0, 6, .inl (fun _ => 0))), (q2, .inl (y 0, 5, .inl (fun _ => 0))), (q3, .inl (y 0, 5, .inl (fun _ => 0)))] := hD
  refine W.widen (k := 3) (n := 16) (Nat.le_of_ble_eq_true rfl) (Nat.le_of_ble_eq_true rfl) ?_
  exact W.vret hx hb hr (fun tZ ht hW => ⟨⟨(fun k => [q1, q2, q3].getD k 0), rfl, trivial, by rw [ht]; exact hP.sub [0, 1, 2, 3] rfl, hD.sub [0, 1, 2, 3] (by decide) rfl⟩, hS.F ht⟩) hS.2.2 dX1_init_26

set_option maxHeartbeats 4000000 in
set_option maxRecDepth 100000 in
theorem gn_Text (l : Launch) (D : va_G) (y : Nat → ClassId) (o : Nat)  : kw_Mv l yX7_init wsX7_init ({ frames := 1, cells := 4, slots := 225, locals := 60 }) D y [.ref o] [(o, .inr (7, [.null, .int 0, .int 0, .int 0, .int 0, .int 0, .null, .null, .null, .int 0, .int 0, .int 0]))] (fun (u : Nat → Nat) => True) (fun u => [(o, .inr (7, [.ref (u 0), .int 0, .int 0, .int 0, .int 0, .int 0, .ref (u 1), .ref (u 2), .ref (u 3), .int 0, .int 0, .int 0])), ((u 0), .inl (y 1, 150, .inl (fun _ => 0))), ((u 1), .inl (y 0, 25, .inl (fun _ => 0))), ((u 2), .inl (y 0, 25, .inl (fun _ => 0))), ((u 3), .inl (y 0, 25, .inl (fun _ => 0)))]) 4 225 := by
  refine kw_Mv.of (cc := cX7_init) (maxL := 1) (ret := none) (by decide) rfl ?_
  intro pZ eZ s mZ beZ meZ cZ A hE
  obtain ⟨hx, hb, hr, hml, hts, hown, hlocks, hin, hA, hP, hD, hK, hN⟩ := hE
  have hS : va_S A s.heap s.heap [] := va_S.rf
  have hl := lv_entry ([.ref o]) (n := 1) (Nat.le_of_ble_eq_true rfl)
  rw [lg_entry_eq]
  generalize (lg_sl ([.ref o]) ++ List.replicate (1 - (lg_sl ([.ref o])).length) Slot.unset).toArray = ls at hl ⊢
  have hl : lv_has ls 1 [(0, .ref o)] := hl
  have fw1 := hts (.methodLink RX7 3 objectInit) (List.mem_of_getElem? (i := 1) rfl)
  have fw2 := hts (.instanceMethod objectInit) (List.mem_of_getElem? (i := 2) rfl)
  have fw3 := hts (.code objectInit ⟨#[0xb1]⟩ 1 none) (List.mem_of_getElem? (i := 3) rfl)
  have fw4 := hts (.arrayClass .byte) (List.mem_of_getElem? (i := 4) rfl)
  have fw5 := hts (.fieldLink RX7 9 "GleanDusk$Text" "bytes" "[B") (List.mem_of_getElem? (i := 5) rfl)
  have fw6 := hts (.arrayClass .int) (List.mem_of_getElem? (i := 6) rfl)
  have fw7 := hts (.fieldLink RX7 15 "GleanDusk$Text" "words" "[I") (List.mem_of_getElem? (i := 7) rfl)
  have fw8 := hts (.fieldLink RX7 19 "GleanDusk$Text" "first" "[I") (List.mem_of_getElem? (i := 8) rfl)
  have fw9 := hts (.fieldLink RX7 22 "GleanDusk$Text" "second" "[I") (List.mem_of_getElem? (i := 9) rfl)
  have iw7 : ∀ w ∈ wsX70, w ∈ wsX7_init := fun _ h => List.mem_cons_of_mem _ (List.mem_append_right _ h)
  refine lv_aload_n hx hb dX7_init_0 rfl (lv_at hl 0 rfl) ?_
  refine W.objInit hx hb hown fw1 fw2 fw3 rfl (by rw [hml]; exact hl.1) rfl dX7_init_1 (Nat.le_of_ble_eq_true rfl) (Nat.le_of_ble_eq_true rfl) ?_
  refine W.eq (g2 := F0 mZ 4 ls []) rfl ?_
  refine lv_aload_n hx hb dX7_init_4 rfl (lv_at hl 0 rfl) ?_
  refine lv_sipush (v := 150) hx hb dX7_init_5 (by decide) ?_
  refine va_newa (atype := .byte) (ty := .byte) (N' := 150) (a0 := (150, .inl (fun _ => 0))) hx hb fw4 rfl hK hP hD hS hA (fun _ => rfl) (by decide) (by decide) (by decide) (Nat.le_of_ble_eq_true rfl) (Nat.le_of_ble_eq_true rfl) dX7_init_8 (fun q1 cA H hK9 hP hD hS => ?_)
  obtain rfl : cA = y 1 := kw_cls hK9 (i := 7) (j := 1) rfl rfl
  have hP : va_P D vwCl [(o, .inr (7, [.null, .int 0, .int 0, .int 0, .int 0, .int 0, .null, .null, .null, .int 0, .int 0, .int 0])), (q1, .inl (y 1, 150, .inl (fun _ => 0)))] H := hP
  have hD : va_D A [(o, .inr (7, [.null, .int 0, .int 0, .int 0, .int 0, .int 0, .null, .null, .null, .int 0, .int 0, .int 0])), (q1, .inl (y 1, 150, .inl (fun _ => 0)))] := hD
  refine W.widen (k := 1) (n := 150) (Nat.le_of_ble_eq_true rfl) (Nat.le_of_ble_eq_true rfl) ?_
  refine va_putF (D := D) (ci := 7) (v := .ref q1) (ty := .array .byte) (C := RX7) (T := TX7) (N := 12) hx hb hts iw7 tyX7 tyX7_ok nmX7 hown hK hP hD hS 0 rfl rfl 0 (by decide) fw5 (fun _ h9 => h9) rfl hin rfl (by decide +kernel) rfl rfl (Nat.le_of_ble_eq_true rfl) dX7_init_10 (fun H locs hP hD hS => ?_)
  have hP : va_P D vwCl [(o, .inr (7, [.ref q1, .int 0, .int 0, .int 0, .int 0, .int 0, .null, .null, .null, .int 0, .int 0, .int 0])), (q1, .inl (y 1, 150, .inl (fun _ => 0)))] H := hP
  have hD : va_D A [(o, .inr (7, [.ref q1, .int 0, .int 0, .int 0, .int 0, .int 0, .null, .null, .null, .int 0, .int 0, .int 0])), (q1, .inl (y 1, 150, .inl (fun _ => 0)))] := hD
  refine lv_aload_n hx hb dX7_init_13 rfl (lv_at hl 0 rfl) ?_
  refine lv_bipush (v := 25) hx hb dX7_init_14 (by decide) ?_
  refine va_newa (atype := .int) (ty := .int) (N' := 25) (a0 := (25, .inl (fun _ => 0))) hx hb fw6 rfl hK hP hD hS hA (fun _ => rfl) (by decide) (by decide) (by decide) (Nat.le_of_ble_eq_true rfl) (Nat.le_of_ble_eq_true rfl) dX7_init_16 (fun q2 cA H hK9 hP hD hS => ?_)
  obtain rfl : cA = y 0 := kw_cls hK9 (i := 7) (j := 0) rfl rfl
  have hP : va_P D vwCl [(o, .inr (7, [.ref q1, .int 0, .int 0, .int 0, .int 0, .int 0, .null, .null, .null, .int 0, .int 0, .int 0])), (q1, .inl (y 1, 150, .inl (fun _ => 0))), (q2, .inl (y 0, 25, .inl (fun _ => 0)))] H := hP
  have hD : va_D A [(o, .inr (7, [.ref q1, .int 0, .int 0, .int 0, .int 0, .int 0, .null, .null, .null, .int 0, .int 0, .int 0])), (q1, .inl (y 1, 150, .inl (fun _ => 0))), (q2, .inl (y 0, 25, .inl (fun _ => 0)))] := hD
  refine W.widen (k := 2) (n := 175) (Nat.le_of_ble_eq_true rfl) (Nat.le_of_ble_eq_true rfl) ?_
  refine va_putF (D := D) (ci := 7) (v := .ref q2) (ty := .array .int) (C := RX7) (T := TX7) (N := 12) hx hb hts iw7 tyX7 tyX7_ok nmX7 hown hK hP hD hS 0 rfl rfl 6 (by decide) fw7 (fun _ h9 => h9) rfl hin rfl (by decide +kernel) rfl rfl (Nat.le_of_ble_eq_true rfl) dX7_init_18 (fun H locs hP hD hS => ?_)
  have hP : va_P D vwCl [(o, .inr (7, [.ref q1, .int 0, .int 0, .int 0, .int 0, .int 0, .ref q2, .null, .null, .int 0, .int 0, .int 0])), (q1, .inl (y 1, 150, .inl (fun _ => 0))), (q2, .inl (y 0, 25, .inl (fun _ => 0)))] H := hP
  have hD : va_D A [(o, .inr (7, [.ref q1, .int 0, .int 0, .int 0, .int 0, .int 0, .ref q2, .null, .null, .int 0, .int 0, .int 0])), (q1, .inl (y 1, 150, .inl (fun _ => 0))), (q2, .inl (y 0, 25, .inl (fun _ => 0)))] := hD
  refine lv_aload_n hx hb dX7_init_21 rfl (lv_at hl 0 rfl) ?_
  refine lv_bipush (v := 25) hx hb dX7_init_22 (by decide) ?_
  refine va_newa (atype := .int) (ty := .int) (N' := 25) (a0 := (25, .inl (fun _ => 0))) hx hb fw6 rfl hK hP hD hS hA (fun _ => rfl) (by decide) (by decide) (by decide) (Nat.le_of_ble_eq_true rfl) (Nat.le_of_ble_eq_true rfl) dX7_init_24 (fun q3 cA H hK9 hP hD hS => ?_)
  obtain rfl : cA = y 0 := kw_cls hK9 (i := 7) (j := 0) rfl rfl
  have hP : va_P D vwCl [(o, .inr (7, [.ref q1, .int 0, .int 0, .int 0, .int 0, .int 0, .ref q2, .null, .null, .int 0, .int 0, .int 0])), (q1, .inl (y 1, 150, .inl (fun _ => 0))), (q2, .inl (y 0, 25, .inl (fun _ => 0))), (q3, .inl (y 0, 25, .inl (fun _ => 0)))] H := hP
  have hD : va_D A [(o, .inr (7, [.ref q1, .int 0, .int 0, .int 0, .int 0, .int 0, .ref q2, .null, .null, .int 0, .int 0, .int 0])), (q1, .inl (y 1, 150, .inl (fun _ => 0))), (q2, .inl (y 0, 25, .inl (fun _ => 0))), (q3, .inl (y 0, 25, .inl (fun _ => 0)))] := hD
  refine W.widen (k := 3) (n := 200) (Nat.le_of_ble_eq_true rfl) (Nat.le_of_ble_eq_true rfl) ?_
  refine va_putF (D := D) (ci := 7) (v := .ref q3) (ty := .array .int) (C := RX7) (T := TX7) (N := 12) hx hb hts iw7 tyX7 tyX7_ok nmX7 hown hK hP hD hS 0 rfl rfl 7 (by decide) fw8 (fun _ h9 => h9) rfl hin rfl (by decide +kernel) rfl rfl (Nat.le_of_ble_eq_true rfl) dX7_init_26 (fun H locs hP hD hS => ?_)
  have hP : va_P D vwCl [(o, .inr (7, [.ref q1, .int 0, .int 0, .int 0, .int 0, .int 0, .ref q2, .ref q3, .null, .int 0, .int 0, .int 0])), (q1, .inl (y 1, 150, .inl (fun _ => 0))), (q2, .inl (y 0, 25, .inl (fun _ => 0))), (q3, .inl (y 0, 25, .inl (fun _ => 0)))] H := hP
  have hD : va_D A [(o, .inr (7, [.ref q1, .int 0, .int 0, .int 0, .int 0, .int 0, .ref q2, .ref q3, .null, .int 0, .int 0, .int 0])), (q1, .inl (y 1, 150, .inl (fun _ => 0))), (q2, .inl (y 0, 25, .inl (fun _ => 0))), (q3, .inl (y 0, 25, .inl (fun _ => 0)))] := hD
  refine lv_aload_n hx hb dX7_init_29 rfl (lv_at hl 0 rfl) ?_
  refine lv_bipush (v := 25) hx hb dX7_init_30 (by decide) ?_
  refine va_newa (atype := .int) (ty := .int) (N' := 25) (a0 := (25, .inl (fun _ => 0))) hx hb fw6 rfl hK hP hD hS hA (fun _ => rfl) (by decide) (by decide) (by decide) (Nat.le_of_ble_eq_true rfl) (Nat.le_of_ble_eq_true rfl) dX7_init_32 (fun q4 cA H hK9 hP hD hS => ?_)
  obtain rfl : cA = y 0 := kw_cls hK9 (i := 7) (j := 0) rfl rfl
  have hP : va_P D vwCl [(o, .inr (7, [.ref q1, .int 0, .int 0, .int 0, .int 0, .int 0, .ref q2, .ref q3, .null, .int 0, .int 0, .int 0])), (q1, .inl (y 1, 150, .inl (fun _ => 0))), (q2, .inl (y 0, 25, .inl (fun _ => 0))), (q3, .inl (y 0, 25, .inl (fun _ => 0))), (q4, .inl (y 0, 25, .inl (fun _ => 0)))] H := hP
  have hD : va_D A [(o, .inr (7, [.ref q1, .int 0, .int 0, .int 0, .int 0, .int 0, .ref q2, .ref q3, .null, .int 0, .int 0, .int 0])), (q1, .inl (y 1, 150, .inl (fun _ => 0))), (q2, .inl (y 0, 25, .inl (fun _ => 0))), (q3, .inl (y 0, 25, .inl (fun _ => 0))), (q4, .inl (y 0, 25, .inl (fun _ => 0)))] := hD
  refine W.widen (k := 4) (n := 225) (Nat.le_of_ble_eq_true rfl) (Nat.le_of_ble_eq_true rfl) ?_
  refine va_putF (D := D) (ci := 7) (v := .ref q4) (ty := .array .int) (C := RX7) (T := TX7) (N := 12) hx hb hts iw7 tyX7 tyX7_ok nmX7 hown hK hP hD hS 0 rfl rfl 8 (by decide) fw9 (fun _ h9 => h9) rfl hin rfl (by decide +kernel) rfl rfl (Nat.le_of_ble_eq_true rfl) dX7_init_34 (fun H locs hP hD hS => ?_)
  have hP : va_P D vwCl [(o, .inr (7, [.ref q1, .int 0, .int 0, .int 0, .int 0, .int 0, .ref q2, .ref q3, .ref q4, .int 0, .int 0, .int 0])), (q1, .inl (y 1, 150, .inl (fun _ => 0))), (q2, .inl (y 0, 25, .inl (fun _ => 0))), (q3, .inl (y 0, 25, .inl (fun _ => 0))), (q4, .inl (y 0, 25, .inl (fun _ => 0)))] H := hP
  have hD : va_D A [(o, .inr (7, [.ref q1, .int 0, .int 0, .int 0, .int 0, .int 0, .ref q2, .ref q3, .ref q4, .int 0, .int 0, .int 0])), (q1, .inl (y 1, 150, .inl (fun _ => 0))), (q2, .inl (y 0, 25, .inl (fun _ => 0))), (q3, .inl (y 0, 25, .inl (fun _ => 0))), (q4, .inl (y 0, 25, .inl (fun _ => 0)))] := hD
  refine W.widen (k := 4) (n := 225) (Nat.le_of_ble_eq_true rfl) (Nat.le_of_ble_eq_true rfl) ?_
  exact W.vret hx hb hr (fun tZ ht hW => ⟨⟨(fun k => [q1, q2, q3, q4].getD k 0), rfl, trivial, by rw [ht]; exact hP.sub [0, 1, 2, 3, 4] rfl, hD.sub [0, 1, 2, 3, 4] (by decide) rfl⟩, hS.F ht⟩) hS.2.2 dX7_init_37
