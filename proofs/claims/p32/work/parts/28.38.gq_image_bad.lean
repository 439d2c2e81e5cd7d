set_option maxHeartbeats 4000000 in
set_option maxRecDepth 100000 in
theorem gq_image_bad (l : Launch) (D : va_G) (y : Nat → ClassId) (mo : Nat) (to : Nat) (ke : Nat) (ik : Nat) (mrf : Nat) (ha : Nat) (r0 : Nat) (mbr : Nat) (mbp : Nat) (mby : Nat) (an : Nat) (va : Nat) (mab : Int64) (mbl : Int64) (bl : Nat) (ta : Nat) (tl : Nat) (tk : Nat) (vv : Int32) (frf : Nat → Int32) (x : Int32) (hA1 : (¬ ∃ j : Nat, 0 ≤ j ∧ j ≤ 1 ∧ x = nI j)) : kw_Mi l yX11_image wsX11_image ({ frames := 2, cells := 0, slots := 0, locals := 85 }) D y [.ref mo, .int x] [(mo, .inr (11, [.ref to, .ref ke, .ref ik, .ref mrf, .long mab, .long mbl, .ref ha, .ref r0, .ref mbr, .ref mbp, .ref mby, .int (nI bl), .int (nI ta), .int (nI tl), .int (nI tk), .int vv, .ref an, .ref va])), (mrf, .inl (y 0, 3, .inl frf))] (fun (r : Int32) (u : Unit) => r = (-2)) (fun _ => [(mo, .inr (11, [.ref to, .ref ke, .ref ik, .ref mrf, .long mab, .long mbl, .ref ha, .ref r0, .ref mbr, .ref mbp, .ref mby, .int (nI bl), .int (nI ta), .int (nI tl), .int (nI tk), .int vv, .ref an, .ref va])), (mrf, .inl (y 0, 3, .inl (upd frf 0 ((frf 0) + 1))))]) 0 0 := by
  refine kw_Mi.of (cc := cX11_image) (maxL := 3) (ret := (some .int)) (by decide) rfl ?_
  intro pZ eZ s mZ beZ meZ cZ A hE
  obtain ⟨hx, hb, hr, hml, hts, hown, hlocks, hin, hA, hP, hD, hK, hN⟩ := hE
  have hS : va_S A s.heap s.heap [] := va_S.rf
  have hl := lv_entry ([.ref mo, .int x]) (n := 3) (Nat.le_of_ble_eq_true rfl)
  rw [lg_entry_eq]
  generalize (lg_sl ([.ref mo, .int x]) ++ List.replicate (3 - (lg_sl ([.ref mo, .int x])).length) Slot.unset).toArray = ls at hl ⊢
  have hl : lv_has ls 3 [(0, .ref mo), (1, .int x)] := hl
  refine lv_iload_n hx hb dX11_image_0 rfl (lv_at hl 1 rfl) ?_
  refine lv_i2l (v := x.toInt64) hx hb dX11_image_1 (rfl) ?_
  refine lv_lconst (v := 0) hx hb dX11_image_2 (by decide) ?_
  refine lv_lconst (v := 1) hx hb dX11_image_3 (by decide) ?_
  have hs1 : kw_Split [(mo, .inr (11, [.ref to, .ref ke, .ref ik, .ref mrf, .long mab, .long mbl, .ref ha, .ref r0, .ref mbr, .ref mbp, .ref mby, .int (nI bl), .int (nI ta), .int (nI tl), .int (nI tk), .int vv, .ref an, .ref va])), (mrf, .inl (y 0, 3, .inl frf))] [] [(mo, .inr (11, [.ref to, .ref ke, .ref ik, .ref mrf, .long mab, .long mbl, .ref ha, .ref r0, .ref mbr, .ref mbp, .ref mby, .int (nI bl), .int (nI ta), .int (nI tl), .int (nI tk), .int vv, .ref an, .ref va])), (mrf, .inl (y 0, 3, .inl frf))] [] [0, 1] := ⟨rfl, rfl, rfl, rfl, rfl, by decide⟩
  refine kw_go_i hs1 hP hD hS hA (va_runS (As := [.long x.toInt64, .long 0, .long 1]) (rest := []) ⟨hx, hb, hml, hown, hts⟩ (gr_in l D y x 0 1 (by omega) (by omega) _) (va_cwS 3 hts gX11_image_X11_in rfl rfl rfl (by decide +kernel) ⟨Nat.le_of_ble_eq_true rfl, Nat.le_of_ble_eq_true rfl⟩) (kw_PreS hs1 hP hD hK hN) rfl rfl hl.1 rfl (lv_room (Nat.le_of_ble_eq_true rfl)) dX11_image_4 ⟨Nat.le_of_ble_eq_true rfl, Nat.le_of_ble_eq_true rfl⟩) (fun r2 u3 H locs hq hP hD hS => ?_)
  rcases hq with ⟨j4, h5, h6, rfl, rfl⟩ | ⟨h7, rfl⟩
  · skip
    exact absurd ⟨j4, h5, h6, rfl⟩ hA1
  · skip
    have hP : va_P D vwCl [(mo, .inr (11, [.ref to, .ref ke, .ref ik, .ref mrf, .long mab, .long mbl, .ref ha, .ref r0, .ref mbr, .ref mbp, .ref mby, .int (nI bl), .int (nI ta), .int (nI tl), .int (nI tk), .int vv, .ref an, .ref va])), (mrf, .inl (y 0, 3, .inl frf))] H := hP
    have hD : va_D A [(mo, .inr (11, [.ref to, .ref ke, .ref ik, .ref mrf, .long mab, .long mbl, .ref ha, .ref r0, .ref mbr, .ref mbp, .ref mby, .int (nI bl), .int (nI ta), .int (nI tl), .int (nI tk), .int vv, .ref an, .ref va])), (mrf, .inl (y 0, 3, .inl frf))] := hD
    refine lv_if_ne (tgt := 17) hx hb dX11_image_7 (by decide) (fun h9 => absurd h9 (by decide)) (fun _ => ?_)
    refine lv_aload_n hx hb dX11_image_10 rfl (lv_at hl 0 rfl) ?_
    refine lv_bipush (v := (-2)) hx hb dX11_image_11 (by decide) ?_
    have hs8 : kw_Split [(mo, .inr (11, [.ref to, .ref ke, .ref ik, .ref mrf, .long mab, .long mbl, .ref ha, .ref r0, .ref mbr, .ref mbp, .ref mby, .int (nI bl), .int (nI ta), .int (nI tl), .int (nI tk), .int vv, .ref an, .ref va])), (mrf, .inl (y 0, 3, .inl frf))] [(mo, .inr (11, [.ref to, .ref ke, .ref ik, .ref mrf, .long mab, .long mbl, .ref ha, .ref r0, .ref mbr, .ref mbp, .ref mby, .int (nI bl), .int (nI ta), .int (nI tl), .int (nI tk), .int vv, .ref an, .ref va])), (mrf, .inl (y 0, 3, .inl frf))] [] [0, 1] [] := ⟨rfl, rfl, rfl, rfl, rfl, by decide⟩
    refine kw_go_i hs8 hP hD hS hA (va_runV (As := [.int (-2)]) (rest := []) ⟨hx, hb, hml, hown, hts⟩ (gr_bad l D y mo to ke ik mrf ha r0 mbr mbp mby an va mab mbl bl ta tl tk vv frf (-2)  _) (cwV 1 hts gX11_image_X11_bad rfl rfl rfl (by decide +kernel) ⟨Nat.le_of_ble_eq_true rfl, Nat.le_of_ble_eq_true rfl⟩) (kw_PreV (ci := 11) (q0 := 0) hs8 hP hD hK hN rfl rfl) rfl rfl hl.1 rfl (lv_room (Nat.le_of_ble_eq_true rfl)) dX11_image_13 ⟨Nat.le_of_ble_eq_true rfl, Nat.le_of_ble_eq_true rfl⟩) (fun r9 u10 H locs hq hP hD hS => ?_)
    obtain rfl := hq
    have hP : va_P D vwCl [(mo, .inr (11, [.ref to, .ref ke, .ref ik, .ref mrf, .long mab, .long mbl, .ref ha, .ref r0, .ref mbr, .ref mbp, .ref mby, .int (nI bl), .int (nI ta), .int (nI tl), .int (nI tk), .int vv, .ref an, .ref va])), (mrf, .inl (y 0, 3, .inl (upd frf 0 ((frf 0) + 1))))] H := hP
    have hD : va_D A [(mo, .inr (11, [.ref to, .ref ke, .ref ik, .ref mrf, .long mab, .long mbl, .ref ha, .ref r0, .ref mbr, .ref mbp, .ref mby, .int (nI bl), .int (nI ta), .int (nI tl), .int (nI tk), .int vv, .ref an, .ref va])), (mrf, .inl (y 0, 3, .inl (upd frf 0 ((frf 0) + 1))))] := hD
    exact W.iret (v := (-2)) hx hb hr (fun tZ ht hW => ⟨⟨(-2), (), rfl, rfl, by rw [ht]; exact hP.sub [0, 1] rfl, hD.sub [0, 1] (by decide) rfl⟩, hS.F ht⟩) hS.2.2 dX11_image_16

set_option maxHeartbeats 4000000 in
set_option maxRecDepth 100000 in
theorem gq_from_bad (l : Launch) (D : va_G) (y : Nat → ClassId) (mo : Nat) (to : Nat) (ke : Nat) (ik : Nat) (mrf : Nat) (ha : Nat) (r0 : Nat) (mbr : Nat) (mbp : Nat) (mby : Nat) (an : Nat) (va : Nat) (mab : Int64) (mbl : Int64) (bl : Nat) (ta : Nat) (tl : Nat) (tk : Nat) (vv : Int32) (frf : Nat → Int32) (x : Int32) (hA1 : (¬ ∃ j : Nat, 0 ≤ j ∧ j ≤ 1 ∧ x = nI j)) : kw_Mi l yX11_from wsX11_from ({ frames := 2, cells := 0, slots := 0, locals := 85 }) D y [.ref mo, .int x] [(mo, .inr (11, [.ref to, .ref ke, .ref ik, .ref mrf, .long mab, .long mbl, .ref ha, .ref r0, .ref mbr, .ref mbp, .ref mby, .int (nI bl), .int (nI ta), .int (nI tl), .int (nI tk), .int vv, .ref an, .ref va])), (mrf, .inl (y 0, 3, .inl frf))] (fun (r : Int32) (u : Unit) => r = (-2)) (fun _ => [(mo, .inr (11, [.ref to, .ref ke, .ref ik, .ref mrf, .long mab, .long mbl, .ref ha, .ref r0, .ref mbr, .ref mbp, .ref mby, .int (nI bl), .int (nI ta), .int (nI tl), .int (nI tk), .int vv, .ref an, .ref va])), (mrf, .inl (y 0, 3, .inl (upd frf 0 ((frf 0) + 1))))]) 0 0 := by
  refine kw_Mi.of (cc := cX11_from) (maxL := 3) (ret := (some .int)) (by decide) rfl ?_
  intro pZ eZ s mZ beZ meZ cZ A hE
  obtain ⟨hx, hb, hr, hml, hts, hown, hlocks, hin, hA, hP, hD, hK, hN⟩ := hE
  have hS : va_S A s.heap s.heap [] := va_S.rf
  have hl := lv_entry ([.ref mo, .int x]) (n := 3) (Nat.le_of_ble_eq_true rfl)
  rw [lg_entry_eq]
  generalize (lg_sl ([.ref mo, .int x]) ++ List.replicate (3 - (lg_sl ([.ref mo, .int x])).length) Slot.unset).toArray = ls at hl ⊢
  have hl : lv_has ls 3 [(0, .ref mo), (1, .int x)] := hl
  refine lv_iload_n hx hb dX11_from_0 rfl (lv_at hl 1 rfl) ?_
  refine lv_i2l (v := x.toInt64) hx hb dX11_from_1 (rfl) ?_
  refine lv_lconst (v := 0) hx hb dX11_from_2 (by decide) ?_
  refine lv_lconst (v := 1) hx hb dX11_from_3 (by decide) ?_
  have hs1 : kw_Split [(mo, .inr (11, [.ref to, .ref ke, .ref ik, .ref mrf, .long mab, .long mbl, .ref ha, .ref r0, .ref mbr, .ref mbp, .ref mby, .int (nI bl), .int (nI ta), .int (nI tl), .int (nI tk), .int vv, .ref an, .ref va])), (mrf, .inl (y 0, 3, .inl frf))] [] [(mo, .inr (11, [.ref to, .ref ke, .ref ik, .ref mrf, .long mab, .long mbl, .ref ha, .ref r0, .ref mbr, .ref mbp, .ref mby, .int (nI bl), .int (nI ta), .int (nI tl), .int (nI tk), .int vv, .ref an, .ref va])), (mrf, .inl (y 0, 3, .inl frf))] [] [0, 1] := ⟨rfl, rfl, rfl, rfl, rfl, by decide⟩
  refine kw_go_i hs1 hP hD hS hA (va_runS (As := [.long x.toInt64, .long 0, .long 1]) (rest := []) ⟨hx, hb, hml, hown, hts⟩ (gr_in l D y x 0 1 (by omega) (by omega) _) (va_cwS 3 hts gX11_from_X11_in rfl rfl rfl (by decide +kernel) ⟨Nat.le_of_ble_eq_true rfl, Nat.le_of_ble_eq_true rfl⟩) (kw_PreS hs1 hP hD hK hN) rfl rfl hl.1 rfl (lv_room (Nat.le_of_ble_eq_true rfl)) dX11_from_4 ⟨Nat.le_of_ble_eq_true rfl, Nat.le_of_ble_eq_true rfl⟩) (fun r2 u3 H locs hq hP hD hS => ?_)
  rcases hq with ⟨j4, h5, h6, rfl, rfl⟩ | ⟨h7, rfl⟩
  · skip
    exact absurd ⟨j4, h5, h6, rfl⟩ hA1
  · skip
    have hP : va_P D vwCl [(mo, .inr (11, [.ref to, .ref ke, .ref ik, .ref mrf, .long mab, .long mbl, .ref ha, .ref r0, .ref mbr, .ref mbp, .ref mby, .int (nI bl), .int (nI ta), .int (nI tl), .int (nI tk), .int vv, .ref an, .ref va])), (mrf, .inl (y 0, 3, .inl frf))] H := hP
    have hD : va_D A [(mo, .inr (11, [.ref to, .ref ke, .ref ik, .ref mrf, .long mab, .long mbl, .ref ha, .ref r0, .ref mbr, .ref mbp, .ref mby, .int (nI bl), .int (nI ta), .int (nI tl), .int (nI tk), .int vv, .ref an, .ref va])), (mrf, .inl (y 0, 3, .inl frf))] := hD
    refine lv_if_ne (tgt := 17) hx hb dX11_from_7 (by decide) (fun h9 => absurd h9 (by decide)) (fun _ => ?_)
    refine lv_aload_n hx hb dX11_from_10 rfl (lv_at hl 0 rfl) ?_
    refine lv_bipush (v := (-2)) hx hb dX11_from_11 (by decide) ?_
    have hs8 : kw_Split [(mo, .inr (11, [.ref to, .ref ke, .ref ik, .ref mrf, .long mab, .long mbl, .ref ha, .ref r0, .ref mbr, .ref mbp, .ref mby, .int (nI bl), .int (nI ta), .int (nI tl), .int (nI tk), .int vv, .ref an, .ref va])), (mrf, .inl (y 0, 3, .inl frf))] [(mo, .inr (11, [.ref to, .ref ke, .ref ik, .ref mrf, .long mab, .long mbl, .ref ha, .ref r0, .ref mbr, .ref mbp, .ref mby, .int (nI bl), .int (nI ta), .int (nI tl), .int (nI tk), .int vv, .ref an, .ref va])), (mrf, .inl (y 0, 3, .inl frf))] [] [0, 1] [] := ⟨rfl, rfl, rfl, rfl, rfl, by decide⟩
    refine kw_go_i hs8 hP hD hS hA (va_runV (As := [.int (-2)]) (rest := []) ⟨hx, hb, hml, hown, hts⟩ (gr_bad l D y mo to ke ik mrf ha r0 mbr mbp mby an va mab mbl bl ta tl tk vv frf (-2)  _) (cwV 1 hts gX11_from_X11_bad rfl rfl rfl (by decide +kernel) ⟨Nat.le_of_ble_eq_true rfl, Nat.le_of_ble_eq_true rfl⟩) (kw_PreV (ci := 11) (q0 := 0) hs8 hP hD hK hN rfl rfl) rfl rfl hl.1 rfl (lv_room (Nat.le_of_ble_eq_true rfl)) dX11_from_13 ⟨Nat.le_of_ble_eq_true rfl, Nat.le_of_ble_eq_true rfl⟩) (fun r9 u10 H locs hq hP hD hS => ?_)
    obtain rfl := hq
    have hP : va_P D vwCl [(mo, .inr (11, [.ref to, .ref ke, .ref ik, .ref mrf, .long mab, .long mbl, .ref ha, .ref r0, .ref mbr, .ref mbp, .ref mby, .int (nI bl), .int (nI ta), .int (nI tl), .int (nI tk), .int vv, .ref an, .ref va])), (mrf, .inl (y 0, 3, .inl (upd frf 0 ((frf 0) + 1))))] H := hP
    have hD : va_D A [(mo, .inr (11, [.ref to, .ref ke, .ref ik, .ref mrf, .long mab, .long mbl, .ref ha, .ref r0, .ref mbr, .ref mbp, .ref mby, .int (nI bl), .int (nI ta), .int (nI tl), .int (nI tk), .int vv, .ref an, .ref va])), (mrf, .inl (y 0, 3, .inl (upd frf 0 ((frf 0) + 1))))] := hD
    exact W.iret (v := (-2)) hx hb hr (fun tZ ht hW => ⟨⟨(-2), (), rfl, rfl, by rw [ht]; exact hP.sub [0, 1] rfl, hD.sub [0, 1] (by decide) rfl⟩, hS.F ht⟩) hS.2.2 dX11_from_16

set_option maxHeartbeats 4000000 in
set_option maxRecDepth 100000 in
theorem gq_image (l : Launch) (D : va_G) (y : Nat → ClassId) (mo : Nat) (to : Nat) (ke : Nat) (ik : Nat) (mrf : Nat) (ha : Nat) (r0 : Nat) (mbr : Nat) (mbp : Nat) (mby : Nat) (an : Nat) (va : Nat) (mab : Int64) (mbl : Int64) (bl : Nat) (ta : Nat) (tl : Nat) (tk : Nat) (vv : Int32) (frf : Nat → Int32) (ft : Nat → Int32) (fi : Nat) (gl : Nat) (mi : Nat) (no : Nat) (un : Nat) (fke : Nat → Int32) (fik : Nat → Int32) (k : Nat) (hk0_ : ft 0 = (nI fi)) (hk1_ : ft 1 = (nI gl)) (hk2_ : ft 2 = (nI mi)) (hk3_ : ft 3 = (nI no)) (hk4_ : ft 4 = (nI un)) (hkt : kr_t 228 ft) (hfi : fi ≤ 6) (hgl : gl ≤ 5) (hmi : mi ≤ 4) (hno : no ≤ 6) (hun : un ≤ 8) (hgf : (gl = 0 ∨ 0 < fi)) (hK0 : kr_K fke) (hK1 : kr_K (fun p => fke (p + 228))) (hA1 : k < 2) : kw_Mi l yX11_image wsX11_image ({ frames := 2, cells := 0, slots := 0, locals := 85 }) D y [.ref mo, .int (nI k)] [(mo, .inr (11, [.ref to, .ref ke, .ref ik, .ref mrf, .long mab, .long mbl, .ref ha, .ref r0, .ref mbr, .ref mbp, .ref mby, .int (nI bl), .int (nI ta), .int (nI tl), .int (nI tk), .int vv, .ref an, .ref va])), (mrf, .inl (y 0, 3, .inl frf)), (to, .inl (y 0, 228, .inl ft)), (ke, .inl (y 0, 456, .inl fke)), (ik, .inl (y 2, 2, .inl fik))] (fun (r : Int32) (u : (Nat → Int32) × (Nat → Int32)) => kr_K u.1 ∧ kr_K (fun p => u.1 (p + 228)) ∧ r = 1) (fun u => [(mo, .inr (11, [.ref to, .ref ke, .ref ik, .ref mrf, .long mab, .long mbl, .ref ha, .ref r0, .ref mbr, .ref mbp, .ref mby, .int (nI bl), .int (nI ta), .int (nI tl), .int (nI tk), .int vv, .ref an, .ref va])), (mrf, .inl (y 0, 3, .inl frf)), (to, .inl (y 0, 228, .inl ft)), (ke, .inl (y 0, 456, .inl u.1)), (ik, .inl (y 2, 2, .inl u.2))]) 0 0 := by
  refine kw_Mi.of (cc := cX11_image) (maxL := 3) (ret := (some .int)) (by decide) rfl ?_
  intro pZ eZ s mZ beZ meZ cZ A hE
  obtain ⟨hx, hb, hr, hml, hts, hown, hlocks, hin, hA, hP, hD, hK, hN⟩ := hE
  have hS : va_S A s.heap s.heap [] := va_S.rf
  have hl := lv_entry ([.ref mo, .int (nI k)]) (n := 3) (Nat.le_of_ble_eq_true rfl)
  rw [lg_entry_eq]
  generalize (lg_sl ([.ref mo, .int (nI k)]) ++ List.replicate (3 - (lg_sl ([.ref mo, .int (nI k)])).length) Slot.unset).toArray = ls at hl ⊢
  have hl : lv_has ls 3 [(0, .ref mo), (1, .int (nI k))] := hl
  have fw1 := hts (.fieldLink RX11 16 "GleanDuskModel" "isKept" "[Z") (List.mem_of_getElem? (i := 3) rfl)
  have fw2 := hts (.fieldLink RX11 13 "GleanDuskModel" "kept" "[I") (List.mem_of_getElem? (i := 1) rfl)
  have fw3 := hts (.fieldLink RX11 7 "GleanDuskModel" "told" "[I") (List.mem_of_getElem? (i := 2) rfl)
  have iw11 : ∀ w ∈ wsX110, w ∈ wsX11_image := fun _ h => List.mem_cons_of_mem _ (List.mem_append_right _ h)
  refine lv_iload_n hx hb dX11_image_0 rfl (lv_at hl 1 rfl) ?_
  refine lv_i2l (v := (nI k).toInt64) hx hb dX11_image_1 (rfl) ?_
  refine lv_lconst (v := 0) hx hb dX11_image_2 (by decide) ?_
  refine lv_lconst (v := 1) hx hb dX11_image_3 (by decide) ?_
  have hs1 : kw_Split [(mo, .inr (11, [.ref to, .ref ke, .ref ik, .ref mrf, .long mab, .long mbl, .ref ha, .ref r0, .ref mbr, .ref mbp, .ref mby, .int (nI bl), .int (nI ta), .int (nI tl), .int (nI tk), .int vv, .ref an, .ref va])), (mrf, .inl (y 0, 3, .inl frf)), (to, .inl (y 0, 228, .inl ft)), (ke, .inl (y 0, 456, .inl fke)), (ik, .inl (y 2, 2, .inl fik))] [] [(mo, .inr (11, [.ref to, .ref ke, .ref ik, .ref mrf, .long mab, .long mbl, .ref ha, .ref r0, .ref mbr, .ref mbp, .ref mby, .int (nI bl), .int (nI ta), .int (nI tl), .int (nI tk), .int vv, .ref an, .ref va])), (mrf, .inl (y 0, 3, .inl frf)), (to, .inl (y 0, 228, .inl ft)), (ke, .inl (y 0, 456, .inl fke)), (ik, .inl (y 2, 2, .inl fik))] [] [0, 1, 2, 3, 4] := ⟨rfl, rfl, rfl, rfl, rfl, by decide⟩
  refine kw_go_i hs1 hP hD hS hA (va_runS (As := [.long ((nI k).toInt64), .long 0, .long 1]) (rest := []) ⟨hx, hb, hml, hown, hts⟩ (gr_in l D y (nI k) 0 1 (by omega) (by omega) _) (va_cwS 3 hts gX11_image_X11_in rfl rfl rfl (by decide +kernel) ⟨Nat.le_of_ble_eq_true rfl, Nat.le_of_ble_eq_true rfl⟩) (kw_PreS hs1 hP hD hK hN) rfl rfl hl.1 rfl (lv_room (Nat.le_of_ble_eq_true rfl)) dX11_image_4 ⟨Nat.le_of_ble_eq_true rfl, Nat.le_of_ble_eq_true rfl⟩) (fun r2 u3 H locs hq hP hD hS => ?_)
  rcases hq with ⟨j4, h5, h6, h7, rfl⟩ | ⟨h8, rfl⟩
  · skip
    have h7 : k = j4 := (nI_eq (a := k) (b := j4) (by omega) (by omega)).mp h7
    have hP : va_P D vwCl [(mo, .inr (11, [.ref to, .ref ke, .ref ik, .ref mrf, .long mab, .long mbl, .ref ha, .ref r0, .ref mbr, .ref mbp, .ref mby, .int (nI bl), .int (nI ta), .int (nI tl), .int (nI tk), .int vv, .ref an, .ref va])), (mrf, .inl (y 0, 3, .inl frf)), (to, .inl (y 0, 228, .inl ft)), (ke, .inl (y 0, 456, .inl fke)), (ik, .inl (y 2, 2, .inl fik))] H := hP
    have hD : va_D A [(mo, .inr (11, [.ref to, .ref ke, .ref ik, .ref mrf, .long mab, .long mbl, .ref ha, .ref r0, .ref mbr, .ref mbp, .ref mby, .int (nI bl), .int (nI ta), .int (nI tl), .int (nI tk), .int vv, .ref an, .ref va])), (mrf, .inl (y 0, 3, .inl frf)), (to, .inl (y 0, 228, .inl ft)), (ke, .inl (y 0, 456, .inl fke)), (ik, .inl (y 2, 2, .inl fik))] := hD
    refine lv_if_ne (tgt := 17) hx hb dX11_image_7 (by decide) (fun _ => ?_) (fun h9 => absurd h9 (by decide))
    rcases (show k = 0 ∨ k = 1 by omega) with rfl | rfl
    · skip
      refine lv_iconst (v := 0) hx hb dX11_image_17 (by decide) ?_
      refine lv_istore_n (lv' := [(2, .int 0), (0, .ref mo), (1, .int (nI 0))]) hx hb dX11_image_18 rfl hl (by decide) rfl (fun ls hl => ?_)
      have lp14 : ∀ (fuj91 j91 : Nat) (x11 : Nat → Int32) (H : Heap) (locs : List Loc) (ls : Array Slot), j91 ≤ 228 → 228 - j91 < fuj91 → x11 = kr_cp fke ft j91 → va_P D vwCl [(mo, .inr (11, [.ref to, .ref ke, .ref ik, .ref mrf, .long mab, .long mbl, .ref ha, .ref r0, .ref mbr, .ref mbp, .ref mby, .int (nI bl), .int (nI ta), .int (nI tl), .int (nI tk), .int vv, .ref an, .ref va])), (mrf, .inl (y 0, 3, .inl frf)), (to, .inl (y 0, 228, .inl ft)), (ke, .inl (y 0, 456, .inl x11)), (ik, .inl (y 2, 2, .inl fik))] H → va_D A [(mo, .inr (11, [.ref to, .ref ke, .ref ik, .ref mrf, .long mab, .long mbl, .ref ha, .ref r0, .ref mbr, .ref mbp, .ref mby, .int (nI bl), .int (nI ta), .int (nI tl), .int (nI tk), .int vv, .ref an, .ref va])), (mrf, .inl (y 0, 3, .inl frf)), (to, .inl (y 0, 228, .inl ft)), (ke, .inl (y 0, 456, .inl x11)), (ik, .inl (y 2, 2, .inl fik))] → va_S A s.heap H locs → lv_has ls 3 [(2, .int (nI j91)), (0, .ref mo), (1, .int (nI 0))] → W pZ l eZ ({ frames := 2, cells := 0, slots := 0, locals := 85 }) s mZ [.ref mo, .int (nI 0)].toArray beZ meZ cZ H locs 0 0 (MQ beZ (va_Qi (fun (r : Int32) (u : (Nat → Int32) × (Nat → Int32)) => kr_K u.1 ∧ kr_K (fun p => u.1 (p + 228)) ∧ r = 1) (kw_B D (fun u => [(mo, .inr (11, [.ref to, .ref ke, .ref ik, .ref mrf, .long mab, .long mbl, .ref ha, .ref r0, .ref mbr, .ref mbp, .ref mby, .int (nI bl), .int (nI ta), .int (nI tl), .int (nI tk), .int vv, .ref an, .ref va])), (mrf, .inl (y 0, 3, .inl frf)), (to, .inl (y 0, 228, .inl ft)), (ke, .inl (y 0, 456, .inl u.1)), (ik, .inl (y 2, 2, .inl u.2))]) A) A) [.ref mo, .int (nI 0)].toArray s 0 0 A) (F0 mZ 19 ls []) := by
        intro fuj91
        induction fuj91 with
        | zero => intro j91 x11 H locs ls hj9 hf9; exact absurd hf9 (Nat.not_lt_zero _)
        | succ fuj91 ihj91 =>
          intro j91 x11 H locs ls hj91 hfj91 hI0_j91 hP hD hS hl
          refine lv_iload_n hx hb dX11_image_19 rfl (lv_at hl 0 rfl) ?_
          refine lv_sipush (v := 228) hx hb dX11_image_20 (by decide) ?_
          refine lv_icmp_ge (tgt := 50) hx hb dX11_image_23 (by decide) (fun h15 => ?_) (fun h16 => ?_)
          · skip
            have h15 : 228 ≤ j91 := (nI_leI (a := 228) (b := j91) (by omega) (by omega)).mp h15
            obtain rfl : j91 = 228 := by omega
            subst hI0_j91
            have hP : va_P D vwCl [(mo, .inr (11, [.ref to, .ref ke, .ref ik, .ref mrf, .long mab, .long mbl, .ref ha, .ref r0, .ref mbr, .ref mbp, .ref mby, .int (nI bl), .int (nI ta), .int (nI tl), .int (nI tk), .int vv, .ref an, .ref va])), (mrf, .inl (y 0, 3, .inl frf)), (to, .inl (y 0, 228, .inl ft)), (ke, .inl (y 0, 456, .inl (kr_cp fke ft 228))), (ik, .inl (y 2, 2, .inl fik))] H := hP
            have hD : va_D A [(mo, .inr (11, [.ref to, .ref ke, .ref ik, .ref mrf, .long mab, .long mbl, .ref ha, .ref r0, .ref mbr, .ref mbp, .ref mby, .int (nI bl), .int (nI ta), .int (nI tl), .int (nI tk), .int vv, .ref an, .ref va])), (mrf, .inl (y 0, 3, .inl frf)), (to, .inl (y 0, 228, .inl ft)), (ke, .inl (y 0, 456, .inl (kr_cp fke ft 228))), (ik, .inl (y 2, 2, .inl fik))] := hD
            refine lv_aload_n hx hb dX11_image_50 rfl (lv_at hl 1 rfl) ?_
            refine va_get (D := D) (ci := 11) (v := .ref ik) (C := RX11) (T := TX11) (N := 18) hx hb hts iw11 hown hK hP 0 rfl rfl 2 (by decide) fw1 (fun _ h9 => h9) rfl dX11_image_51 ?_
            refine lv_iload_n hx hb dX11_image_54 rfl (lv_at hl 2 rfl) ?_
            refine lv_iconst (v := 1) hx hb dX11_image_55 (by decide) ?_
            refine va_zast hx hb hK hP hD hS 4 2 rfl rfl (vp_in_nI (by omega) (by decide)) dX11_image_56 (fun H locs hP hD hS => ?_)
            rw [nI_clamp (n := 0) (by omega)] at hP hD
            have hP : va_P D vwCl [(mo, .inr (11, [.ref to, .ref ke, .ref ik, .ref mrf, .long mab, .long mbl, .ref ha, .ref r0, .ref mbr, .ref mbp, .ref mby, .int (nI bl), .int (nI ta), .int (nI tl), .int (nI tk), .int vv, .ref an, .ref va])), (mrf, .inl (y 0, 3, .inl frf)), (to, .inl (y 0, 228, .inl ft)), (ke, .inl (y 0, 456, .inl (kr_cp fke ft 228))), (ik, .inl (y 2, 2, .inl (upd fik 0 (vp_nar .boolean 1))))] H := hP
            have hD : va_D A [(mo, .inr (11, [.ref to, .ref ke, .ref ik, .ref mrf, .long mab, .long mbl, .ref ha, .ref r0, .ref mbr, .ref mbp, .ref mby, .int (nI bl), .int (nI ta), .int (nI tl), .int (nI tk), .int vv, .ref an, .ref va])), (mrf, .inl (y 0, 3, .inl frf)), (to, .inl (y 0, 228, .inl ft)), (ke, .inl (y 0, 456, .inl (kr_cp fke ft 228))), (ik, .inl (y 2, 2, .inl (upd fik 0 (vp_nar .boolean 1))))] := hD
            refine lv_iconst (v := 1) hx hb dX11_image_57 (by decide) ?_
            exact W.iret (v := 1) hx hb hr (fun tZ ht hW => ⟨⟨1, ((kr_cp fke ft 228), (upd fik 0 (vp_nar .boolean 1))), rfl, ⟨(show kr_K (kr_cp fke ft 228) from (kr_K.mk hk0_ hk1_ hk2_ hk3_ hk4_ hfi hgl hmi hno hun hgf hkt).congr (fun p hp => kr_cp_lt hp)), (show kr_K (fun p => kr_cp fke ft 228 (p + 228)) from hK1.congr (fun p hp => kr_cp_ge (g := fke) (f := ft) (Nat.le_add_left 228 p))), rfl⟩, by rw [ht]; exact hP.sub [0, 1, 2, 3, 4] rfl, hD.sub [0, 1, 2, 3, 4] (by decide) rfl⟩, hS.F ht⟩) hS.2.2 dX11_image_58
          · skip
            have h16 : ¬ 228 ≤ j91 := fun q9 => h16 ((nI_leI (a := 228) (b := j91) (by omega) (by omega)).mpr q9)
            refine lv_aload_n hx hb dX11_image_26 rfl (lv_at hl 1 rfl) ?_
            refine va_get (D := D) (ci := 11) (v := .ref ke) (C := RX11) (T := TX11) (N := 18) hx hb hts iw11 hown hK hP 0 rfl rfl 1 (by decide) fw2 (fun _ h9 => h9) rfl dX11_image_27 ?_
            refine lv_sipush (v := 228) hx hb dX11_image_30 (by decide) ?_
            refine lv_iload_n hx hb dX11_image_33 rfl (lv_at hl 2 rfl) ?_
            refine lv_imul hx hb dX11_image_34 ?_
            rw [show 228 * (nI 0) = nI (0) from pk_mul 228 0]
            refine lv_iload_n hx hb dX11_image_35 rfl (lv_at hl 0 rfl) ?_
            refine lv_iadd hx hb dX11_image_36 ?_
            rw [show (nI 0) + (nI j91) = nI (j91) from (nI_add 0 j91).trans (congrArg nI (by omega))]
            refine lv_aload_n hx hb dX11_image_37 rfl (lv_at hl 1 rfl) ?_
            refine va_get (D := D) (ci := 11) (v := .ref to) (C := RX11) (T := TX11) (N := 18) hx hb hts iw11 hown hK hP 0 rfl rfl 0 (by decide) fw3 (fun _ h9 => h9) rfl dX11_image_38 ?_
            refine lv_iload_n hx hb dX11_image_41 rfl (lv_at hl 0 rfl) ?_
            refine va_iald hx hb hK hP 2 0 rfl rfl (vp_in_nI (by omega) (by decide)) dX11_image_42 ?_
            rw [nI_clamp (n := j91) (by omega)]
            refine va_iast hx hb hK hP hD hS 3 0 rfl rfl (vp_in_nI (by omega) (by decide)) dX11_image_43 (fun H locs hP hD hS => ?_)
            rw [nI_clamp (n := j91) (by omega)] at hP hD
            have hP : va_P D vwCl [(mo, .inr (11, [.ref to, .ref ke, .ref ik, .ref mrf, .long mab, .long mbl, .ref ha, .ref r0, .ref mbr, .ref mbp, .ref mby, .int (nI bl), .int (nI ta), .int (nI tl), .int (nI tk), .int vv, .ref an, .ref va])), (mrf, .inl (y 0, 3, .inl frf)), (to, .inl (y 0, 228, .inl ft)), (ke, .inl (y 0, 456, .inl (upd x11 j91 (ft j91)))), (ik, .inl (y 2, 2, .inl fik))] H := hP
            have hD : va_D A [(mo, .inr (11, [.ref to, .ref ke, .ref ik, .ref mrf, .long mab, .long mbl, .ref ha, .ref r0, .ref mbr, .ref mbp, .ref mby, .int (nI bl), .int (nI ta), .int (nI tl), .int (nI tk), .int vv, .ref an, .ref va])), (mrf, .inl (y 0, 3, .inl frf)), (to, .inl (y 0, 228, .inl ft)), (ke, .inl (y 0, 456, .inl (upd x11 j91 (ft j91)))), (ik, .inl (y 2, 2, .inl fik))] := hD
            refine lv_iinc (v := (nI (j91 + 1))) (lv' := [(2, .int (nI (j91 + 1))), (0, .ref mo), (1, .int (nI 0))]) hx hb dX11_image_44 hl (k := 0) rfl (nI_1 j91) (by decide) rfl (fun ls hl => ?_)
            refine lv_goto (tgt := 19) hx hb dX11_image_47 (by decide) ?_
            exact ihj91 (j91 + 1) (upd x11 j91 (ft j91)) H locs ls (by omega) (by omega) (by rw [hI0_j91]; exact kr_cpS) (hP.sub [0, 1, 2, 3, 4] rfl) (hD.sub [0, 1, 2, 3, 4] (by decide) rfl) hS (lv_sub hl [0, 1, 2] rfl)
      exact lp14 (228 + 1) 0 fke _ _ _ (by omega) (by omega) kr_cp0 hP hD hS (lv_sub hl [0, 1, 2] rfl)
    · skip
      refine lv_iconst (v := 0) hx hb dX11_image_17 (by decide) ?_
      refine lv_istore_n (lv' := [(2, .int 0), (0, .ref mo), (1, .int (nI 1))]) hx hb dX11_image_18 rfl hl (by decide) rfl (fun ls hl => ?_)
      have lp22 : ∀ (fuj91 j91 : Nat) (x19 : Nat → Int32) (H : Heap) (locs : List Loc) (ls : Array Slot), j91 ≤ 228 → 228 - j91 < fuj91 → x19 = kr_co fke ft j91 → va_P D vwCl [(mo, .inr (11, [.ref to, .ref ke, .ref ik, .ref mrf, .long mab, .long mbl, .ref ha, .ref r0, .ref mbr, .ref mbp, .ref mby, .int (nI bl), .int (nI ta), .int (nI tl), .int (nI tk), .int vv, .ref an, .ref va])), (mrf, .inl (y 0, 3, .inl frf)), (to, .inl (y 0, 228, .inl ft)), (ke, .inl (y 0, 456, .inl x19)), (ik, .inl (y 2, 2, .inl fik))] H → va_D A [(mo, .inr (11, [.ref to, .ref ke, .ref ik, .ref mrf, .long mab, .long mbl, .ref ha, .ref r0, .ref mbr, .ref mbp, .ref mby, .int (nI bl), .int (nI ta), .int (nI tl), .int (nI tk), .int vv, .ref an, .ref va])), (mrf, .inl (y 0, 3, .inl frf)), (to, .inl (y 0, 228, .inl ft)), (ke, .inl (y 0, 456, .inl x19)), (ik, .inl (y 2, 2, .inl fik))] → va_S A s.heap H locs → lv_has ls 3 [(2, .int (nI j91)), (0, .ref mo), (1, .int (nI 1))] → W pZ l eZ ({ frames := 2, cells := 0, slots := 0, locals := 85 }) s mZ [.ref mo, .int (nI 1)].toArray beZ meZ cZ H locs 0 0 (MQ beZ (va_Qi (fun (r : Int32) (u : (Nat → Int32) × (Nat → Int32)) => kr_K u.1 ∧ kr_K (fun p => u.1 (p + 228)) ∧ r = 1) (kw_B D (fun u => [(mo, .inr (11, [.ref to, .ref ke, .ref ik, .ref mrf, .long mab, .long mbl, .ref ha, .ref r0, .ref mbr, .ref mbp, .ref mby, .int (nI bl), .int (nI ta), .int (nI tl), .int (nI tk), .int vv, .ref an, .ref va])), (mrf, .inl (y 0, 3, .inl frf)), (to, .inl (y 0, 228, .inl ft)), (ke, .inl (y 0, 456, .inl u.1)), (ik, .inl (y 2, 2, .inl u.2))]) A) A) [.ref mo, .int (nI 1)].toArray s 0 0 A) (F0 mZ 19 ls []) := by
        intro fuj91
        induction fuj91 with
        | zero => intro j91 x19 H locs ls hj9 hf9; exact absurd hf9 (Nat.not_lt_zero _)
        | succ fuj91 ihj91 =>
          intro j91 x19 H locs ls hj91 hfj91 hI0_j91 hP hD hS hl
          refine lv_iload_n hx hb dX11_image_19 rfl (lv_at hl 0 rfl) ?_
          refine lv_sipush (v := 228) hx hb dX11_image_20 (by decide) ?_
          refine lv_icmp_ge (tgt := 50) hx hb dX11_image_23 (by decide) (fun h23 => ?_) (fun h24 => ?_)
          · skip
            have h23 : 228 ≤ j91 := (nI_leI (a := 228) (b := j91) (by omega) (by omega)).mp h23
            obtain rfl : j91 = 228 := by omega
            subst hI0_j91
            have hP : va_P D vwCl [(mo, .inr (11, [.ref to, .ref ke, .ref ik, .ref mrf, .long mab, .long mbl, .ref ha, .ref r0, .ref mbr, .ref mbp, .ref mby, .int (nI bl), .int (nI ta), .int (nI tl), .int (nI tk), .int vv, .ref an, .ref va])), (mrf, .inl (y 0, 3, .inl frf)), (to, .inl (y 0, 228, .inl ft)), (ke, .inl (y 0, 456, .inl (kr_co fke ft 228))), (ik, .inl (y 2, 2, .inl fik))] H := hP
            have hD : va_D A [(mo, .inr (11, [.ref to, .ref ke, .ref ik, .ref mrf, .long mab, .long mbl, .ref ha, .ref r0, .ref mbr, .ref mbp, .ref mby, .int (nI bl), .int (nI ta), .int (nI tl), .int (nI tk), .int vv, .ref an, .ref va])), (mrf, .inl (y 0, 3, .inl frf)), (to, .inl (y 0, 228, .inl ft)), (ke, .inl (y 0, 456, .inl (kr_co fke ft 228))), (ik, .inl (y 2, 2, .inl fik))] := hD
            refine lv_aload_n hx hb dX11_image_50 rfl (lv_at hl 1 rfl) ?_
            refine va_get (D := D) (ci := 11) (v := .ref ik) (C := RX11) (T := TX11) (N := 18) hx hb hts iw11 hown hK hP 0 rfl rfl 2 (by decide) fw1 (fun _ h9 => h9) rfl dX11_image_51 ?_
            refine lv_iload_n hx hb dX11_image_54 rfl (lv_at hl 2 rfl) ?_
            refine lv_iconst (v := 1) hx hb dX11_image_55 (by decide) ?_
            refine va_zast hx hb hK hP hD hS 4 2 rfl rfl (vp_in_nI (by omega) (by decide)) dX11_image_56 (fun H locs hP hD hS => ?_)
            rw [nI_clamp (n := 1) (by omega)] at hP hD
            have hP : va_P D vwCl [(mo, .inr (11, [.ref to, .ref ke, .ref ik, .ref mrf, .long mab, .long mbl, .ref ha, .ref r0, .ref mbr, .ref mbp, .ref mby, .int (nI bl), .int (nI ta), .int (nI tl), .int (nI tk), .int vv, .ref an, .ref va])), (mrf, .inl (y 0, 3, .inl frf)), (to, .inl (y 0, 228, .inl ft)), (ke, .inl (y 0, 456, .inl (kr_co fke ft 228))), (ik, .inl (y 2, 2, .inl (upd fik 1 (vp_nar .boolean 1))))] H := hP
            have hD : va_D A [(mo, .inr (11, [.ref to, .ref ke, .ref ik, .ref mrf, .long mab, .long mbl, .ref ha, .ref r0, .ref mbr, .ref mbp, .ref mby, .int (nI bl), .int (nI ta), .int (nI tl), .int (nI tk), .int vv, .ref an, .ref va])), (mrf, .inl (y 0, 3, .inl frf)), (to, .inl (y 0, 228, .inl ft)), (ke, .inl (y 0, 456, .inl (kr_co fke ft 228))), (ik, .inl (y 2, 2, .inl (upd fik 1 (vp_nar .boolean 1))))] := hD
            refine lv_iconst (v := 1) hx hb dX11_image_57 (by decide) ?_
            exact W.iret (v := 1) hx hb hr (fun tZ ht hW => ⟨⟨1, ((kr_co fke ft 228), (upd fik 1 (vp_nar .boolean 1))), rfl, ⟨(show kr_K (kr_co fke ft 228) from hK0.congr (fun p hp => kr_co_lo hp)), (show kr_K (fun p => kr_co fke ft 228 (p + 228)) from (kr_K.mk hk0_ hk1_ hk2_ hk3_ hk4_ hfi hgl hmi hno hun hgf hkt).congr (fun p hp => kr_co_hi (g := fke) (f := ft) hp)), rfl⟩, by rw [ht]; exact hP.sub [0, 1, 2, 3, 4] rfl, hD.sub [0, 1, 2, 3, 4] (by decide) rfl⟩, hS.F ht⟩) hS.2.2 dX11_image_58
          · skip
            have h24 : ¬ 228 ≤ j91 := fun q9 => h24 ((nI_leI (a := 228) (b := j91) (by omega) (by omega)).mpr q9)
            refine lv_aload_n hx hb dX11_image_26 rfl (lv_at hl 1 rfl) ?_
            refine va_get (D := D) (ci := 11) (v := .ref ke) (C := RX11) (T := TX11) (N := 18) hx hb hts iw11 hown hK hP 0 rfl rfl 1 (by decide) fw2 (fun _ h9 => h9) rfl dX11_image_27 ?_
            refine lv_sipush (v := 228) hx hb dX11_image_30 (by decide) ?_
            refine lv_iload_n hx hb dX11_image_33 rfl (lv_at hl 2 rfl) ?_
            refine lv_imul hx hb dX11_image_34 ?_
            rw [show 228 * (nI 1) = nI (228) from pk_mul 228 1]
            refine lv_iload_n hx hb dX11_image_35 rfl (lv_at hl 0 rfl) ?_
            refine lv_iadd hx hb dX11_image_36 ?_
            rw [show (nI 228) + (nI j91) = nI (j91 + 228) from (nI_add 228 j91).trans (congrArg nI (by omega))]
            refine lv_aload_n hx hb dX11_image_37 rfl (lv_at hl 1 rfl) ?_
            refine va_get (D := D) (ci := 11) (v := .ref to) (C := RX11) (T := TX11) (N := 18) hx hb hts iw11 hown hK hP 0 rfl rfl 0 (by decide) fw3 (fun _ h9 => h9) rfl dX11_image_38 ?_
            refine lv_iload_n hx hb dX11_image_41 rfl (lv_at hl 0 rfl) ?_
            refine va_iald hx hb hK hP 2 0 rfl rfl (vp_in_nI (by omega) (by decide)) dX11_image_42 ?_
            rw [nI_clamp (n := j91) (by omega)]
            refine va_iast hx hb hK hP hD hS 3 0 rfl rfl (vp_in_nI (by omega) (by decide)) dX11_image_43 (fun H locs hP hD hS => ?_)
            rw [nI_clamp (n := (j91 + 228)) (by omega)] at hP hD
            have hP : va_P D vwCl [(mo, .inr (11, [.ref to, .ref ke, .ref ik, .ref mrf, .long mab, .long mbl, .ref ha, .ref r0, .ref mbr, .ref mbp, .ref mby, .int (nI bl), .int (nI ta), .int (nI tl), .int (nI tk), .int vv, .ref an, .ref va])), (mrf, .inl (y 0, 3, .inl frf)), (to, .inl (y 0, 228, .inl ft)), (ke, .inl (y 0, 456, .inl (upd x19 (j91 + 228) (ft j91)))), (ik, .inl (y 2, 2, .inl fik))] H := hP
            have hD : va_D A [(mo, .inr (11, [.ref to, .ref ke, .ref ik, .ref mrf, .long mab, .long mbl, .ref ha, .ref r0, .ref mbr, .ref mbp, .ref mby, .int (nI bl), .int (nI ta), .int (nI tl), .int (nI tk), .int vv, .ref an, .ref va])), (mrf, .inl (y 0, 3, .inl frf)), (to, .inl (y 0, 228, .inl ft)), (ke, .inl (y 0, 456, .inl (upd x19 (j91 + 228) (ft j91)))), (ik, .inl (y 2, 2, .inl fik))] := hD
            refine lv_iinc (v := (nI (j91 + 1))) (lv' := [(2, .int (nI (j91 + 1))), (0, .ref mo), (1, .int (nI 1))]) hx hb dX11_image_44 hl (k := 0) rfl (nI_1 j91) (by decide) rfl (fun ls hl => ?_)
            refine lv_goto (tgt := 19) hx hb dX11_image_47 (by decide) ?_
            exact ihj91 (j91 + 1) (upd x19 (j91 + 228) (ft j91)) H locs ls (by omega) (by omega) (by rw [hI0_j91]; exact kr_coS) (hP.sub [0, 1, 2, 3, 4] rfl) (hD.sub [0, 1, 2, 3, 4] (by decide) rfl) hS (lv_sub hl [0, 1, 2] rfl)
      exact lp22 (228 + 1) 0 fke _ _ _ (by omega) (by omega) kr_co0 hP hD hS (lv_sub hl [0, 1, 2] rfl)
  · skip
    exact absurd ⟨k, by omega, by omega, rfl⟩ h8
