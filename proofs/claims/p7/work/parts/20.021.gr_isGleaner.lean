set_option maxHeartbeats 4000000 in
set_option maxRecDepth 100000 in
theorem gr_isGleaner (l : Launch) (D : va_G) (y : Nat → ClassId) (mo : Nat) (to : Nat) (ke : Nat) (ik : Nat) (mrf : Nat) (ha : Nat) (r0 : Nat) (mbr : Nat) (mbp : Nat) (mby : Nat) (an : Nat) (va : Nat) (mab : Int64) (mbl : Int64) (bl : Nat) (ta : Nat) (tl : Nat) (tk : Nat) (vv : Int32) (ft : Nat → Int32) (fi : Nat) (gl : Nat) (mi : Nat) (no : Nat) (un : Nat) (x : Int32) (hk0_ : ft 0 = (nI fi)) (hk1_ : ft 1 = (nI gl)) (hk2_ : ft 2 = (nI mi)) (hk3_ : ft 3 = (nI no)) (hk4_ : ft 4 = (nI un)) (hkt : kr_t 228 ft) (hfi : fi ≤ 6) (hgl : gl ≤ 5) (hmi : mi ≤ 4) (hno : no ≤ 6) (hun : un ≤ 8) : kw_Mi l yX11_isGleaner wsX11_isGleaner ({ frames := 2, cells := 0, slots := 0, locals := 85 }) D y [.ref mo, .int x] [(mo, .inr (11, [.ref to, .ref ke, .ref ik, .ref mrf, .long mab, .long mbl, .ref ha, .ref r0, .ref mbr, .ref mbp, .ref mby, .int (nI bl), .int (nI ta), .int (nI tl), .int (nI tk), .int vv, .ref an, .ref va])), (to, .inl (y 0, 228, .inl ft))] (fun (r : Int32) (u : Unit) => (∃ j : Nat, j < gl ∧ x = nI j ∧ r = 1) ∨ ((¬ ∃ j : Nat, j < gl ∧ x = nI j) ∧ r = 0)) (fun _ => [(mo, .inr (11, [.ref to, .ref ke, .ref ik, .ref mrf, .long mab, .long mbl, .ref ha, .ref r0, .ref mbr, .ref mbp, .ref mby, .int (nI bl), .int (nI ta), .int (nI tl), .int (nI tk), .int vv, .ref an, .ref va])), (to, .inl (y 0, 228, .inl ft))]) 0 0 := by
  refine kw_Mi.of (cc := cX11_isGleaner) (maxL := 2) (ret := (some .boolean)) (by decide) rfl ?_
  intro pZ eZ s mZ beZ meZ cZ A hE
  obtain ⟨hx, hb, hr, hml, hts, hown, hlocks, hin, hA, hP, hD, hK, hN⟩ := hE
  have hS : va_S A s.heap s.heap [] := va_S.rf
  have hl := lv_entry ([.ref mo, .int x]) (n := 2) (Nat.le_of_ble_eq_true rfl)
  rw [lg_entry_eq]
  generalize (lg_sl ([.ref mo, .int x]) ++ List.replicate (2 - (lg_sl ([.ref mo, .int x])).length) Slot.unset).toArray = ls at hl ⊢
  have hl : lv_has ls 2 [(0, .ref mo), (1, .int x)] := hl
  refine lv_iload_n hx hb dX11_isGleaner_0 rfl (lv_at hl 1 rfl) ?_
  refine lv_i2l (v := x.toInt64) hx hb dX11_isGleaner_1 (rfl) ?_
  refine lv_lconst (v := 0) hx hb dX11_isGleaner_2 (by decide) ?_
  refine lv_aload_n hx hb dX11_isGleaner_3 rfl (lv_at hl 0 rfl) ?_
  have hs1 : kw_Split [(mo, .inr (11, [.ref to, .ref ke, .ref ik, .ref mrf, .long mab, .long mbl, .ref ha, .ref r0, .ref mbr, .ref mbp, .ref mby, .int (nI bl), .int (nI ta), .int (nI tl), .int (nI tk), .int vv, .ref an, .ref va])), (to, .inl (y 0, 228, .inl ft))] [(mo, .inr (11, [.ref to, .ref ke, .ref ik, .ref mrf, .long mab, .long mbl, .ref ha, .ref r0, .ref mbr, .ref mbp, .ref mby, .int (nI bl), .int (nI ta), .int (nI tl), .int (nI tk), .int vv, .ref an, .ref va])), (to, .inl (y 0, 228, .inl ft))] [] [0, 1] [] := ⟨rfl, rfl, rfl, rfl, rfl, by decide⟩
  refine kw_go_i hs1 hP hD hS hA (va_runV (As := []) (rest := [.long 0, .long x.toInt64]) ⟨hx, hb, hml, hown, hts⟩ (gr_manyGleaners l D y mo to ke ik mrf ha r0 mbr mbp mby an va mab mbl bl ta tl tk vv ft fi gl mi no un hk0_ hk1_ hk2_ hk3_ hk4_ hkt hfi hgl hmi hno hun _) (cwV 0 hts gX11_isGleaner_X11_manyGleaners rfl rfl rfl (by decide +kernel) ⟨Nat.le_of_ble_eq_true rfl, Nat.le_of_ble_eq_true rfl⟩) (kw_PreV (ci := 11) (q0 := 0) hs1 hP hD hK hN rfl rfl) rfl rfl hl.1 rfl (lv_room (Nat.le_of_ble_eq_true rfl)) dX11_isGleaner_4 ⟨Nat.le_of_ble_eq_true rfl, Nat.le_of_ble_eq_true rfl⟩) (fun r2 u3 H locs hq hP hD hS => ?_)
  obtain rfl := hq
  have hP : va_P D vwCl [(mo, .inr (11, [.ref to, .ref ke, .ref ik, .ref mrf, .long mab, .long mbl, .ref ha, .ref r0, .ref mbr, .ref mbp, .ref mby, .int (nI bl), .int (nI ta), .int (nI tl), .int (nI tk), .int vv, .ref an, .ref va])), (to, .inl (y 0, 228, .inl ft))] H := hP
  have hD : va_D A [(mo, .inr (11, [.ref to, .ref ke, .ref ik, .ref mrf, .long mab, .long mbl, .ref ha, .ref r0, .ref mbr, .ref mbp, .ref mby, .int (nI bl), .int (nI ta), .int (nI tl), .int (nI tk), .int vv, .ref an, .ref va])), (to, .inl (y 0, 228, .inl ft))] := hD
  refine lv_iconst (v := 1) hx hb dX11_isGleaner_7 (by decide) ?_
  refine lv_isub hx hb dX11_isGleaner_8 ?_
  refine lv_i2l (v := ((nI gl) - 1).toInt64) hx hb dX11_isGleaner_9 (rfl) ?_
  have hs4 : kw_Split [(mo, .inr (11, [.ref to, .ref ke, .ref ik, .ref mrf, .long mab, .long mbl, .ref ha, .ref r0, .ref mbr, .ref mbp, .ref mby, .int (nI bl), .int (nI ta), .int (nI tl), .int (nI tk), .int vv, .ref an, .ref va])), (to, .inl (y 0, 228, .inl ft))] [] [(mo, .inr (11, [.ref to, .ref ke, .ref ik, .ref mrf, .long mab, .long mbl, .ref ha, .ref r0, .ref mbr, .ref mbp, .ref mby, .int (nI bl), .int (nI ta), .int (nI tl), .int (nI tk), .int vv, .ref an, .ref va])), (to, .inl (y 0, 228, .inl ft))] [] [0, 1] := ⟨rfl, rfl, rfl, rfl, rfl, by decide⟩
  refine kw_go_i hs4 hP hD hS hA (va_runS (As := [.long x.toInt64, .long 0, .long (((nI gl) - 1).toInt64)]) (rest := []) ⟨hx, hb, hml, hown, hts⟩ (gr_inF l D y x gl (by omega) _) (va_cwS 3 hts gX11_isGleaner_X11_in rfl rfl rfl (by decide +kernel) ⟨Nat.le_of_ble_eq_true rfl, Nat.le_of_ble_eq_true rfl⟩) (kw_PreS hs4 hP hD hK hN) rfl rfl hl.1 rfl (lv_room (Nat.le_of_ble_eq_true rfl)) dX11_isGleaner_10 ⟨Nat.le_of_ble_eq_true rfl, Nat.le_of_ble_eq_true rfl⟩) (fun r5 u6 H locs hq hP hD hS => ?_)
  rcases hq with ⟨j7, h8, rfl, rfl⟩ | ⟨h9, rfl⟩
  · skip
    have hP : va_P D vwCl [(mo, .inr (11, [.ref to, .ref ke, .ref ik, .ref mrf, .long mab, .long mbl, .ref ha, .ref r0, .ref mbr, .ref mbp, .ref mby, .int (nI bl), .int (nI ta), .int (nI tl), .int (nI tk), .int vv, .ref an, .ref va])), (to, .inl (y 0, 228, .inl ft))] H := hP
    have hD : va_D A [(mo, .inr (11, [.ref to, .ref ke, .ref ik, .ref mrf, .long mab, .long mbl, .ref ha, .ref r0, .ref mbr, .ref mbp, .ref mby, .int (nI bl), .int (nI ta), .int (nI tl), .int (nI tk), .int vv, .ref an, .ref va])), (to, .inl (y 0, 228, .inl ft))] := hD
    exact W.zret (v := 1) hx hb hr (by decide) (fun tZ ht hW => ⟨⟨1, (), rfl, Or.inl ⟨j7, h8, rfl, rfl⟩, by rw [ht]; exact hP.sub [0, 1] rfl, hD.sub [0, 1] (by decide) rfl⟩, hS.F ht⟩) hS.2.2 dX11_isGleaner_13
  · skip
    have hP : va_P D vwCl [(mo, .inr (11, [.ref to, .ref ke, .ref ik, .ref mrf, .long mab, .long mbl, .ref ha, .ref r0, .ref mbr, .ref mbp, .ref mby, .int (nI bl), .int (nI ta), .int (nI tl), .int (nI tk), .int vv, .ref an, .ref va])), (to, .inl (y 0, 228, .inl ft))] H := hP
    have hD : va_D A [(mo, .inr (11, [.ref to, .ref ke, .ref ik, .ref mrf, .long mab, .long mbl, .ref ha, .ref r0, .ref mbr, .ref mbp, .ref mby, .int (nI bl), .int (nI ta), .int (nI tl), .int (nI tk), .int vv, .ref an, .ref va])), (to, .inl (y 0, 228, .inl ft))] := hD
    exact W.zret (v := 0) hx hb hr (by decide) (fun tZ ht hW => ⟨⟨0, (), rfl, Or.inr (⟨h9, rfl⟩), by rw [ht]; exact hP.sub [0, 1] rfl, hD.sub [0, 1] (by decide) rfl⟩, hS.F ht⟩) hS.2.2 dX11_isGleaner_13

set_option maxHeartbeats 4000000 in
set_option maxRecDepth 100000 in
theorem gr_isStep (l : Launch) (D : va_G) (y : Nat → ClassId) (x : Int32)  : kw_Mi l yX11_isStep wsX11_isStep ({ frames := 2, cells := 0, slots := 0, locals := 85 }) D y [.int x] [] (fun (r : Int32) (u : Unit) => (∃ j : Nat, j ≤ 11 ∧ x = nI j ∧ r = 1) ∨ ((¬ ∃ j : Nat, 0 ≤ j ∧ j ≤ 11 ∧ x = nI j) ∧ r = 0)) (fun _ => []) 0 0 := by
  refine kw_Mi.of (cc := cX11_isStep) (maxL := 1) (ret := (some .boolean)) (by decide) rfl ?_
  intro pZ eZ s mZ beZ meZ cZ A hE
  obtain ⟨hx, hb, hr, hml, hts, hown, hlocks, hin, hA, hP, hD, hK, hN⟩ := hE
  have hS : va_S A s.heap s.heap [] := va_S.rf
  have hl := lv_entry ([.int x]) (n := 1) (Nat.le_of_ble_eq_true rfl)
  rw [lg_entry_eq]
  generalize (lg_sl ([.int x]) ++ List.replicate (1 - (lg_sl ([.int x])).length) Slot.unset).toArray = ls at hl ⊢
  have hl : lv_has ls 1 [(0, .int x)] := hl
  have fw1 := hts (.constantLong RX11 63 (11)) (List.mem_of_getElem? (i := 1) rfl)
  refine lv_iload_n hx hb dX11_isStep_0 rfl (lv_at hl 0 rfl) ?_
  refine lv_i2l (v := x.toInt64) hx hb dX11_isStep_1 (rfl) ?_
  refine lv_lconst (v := 0) hx hb dX11_isStep_2 (by decide) ?_
  refine lv_ldc2 (v := 11) hx hb hown fw1 dX11_isStep_3 ?_
  have hs1 : kw_Split [] [] [] [] [] := ⟨rfl, rfl, rfl, rfl, rfl, by decide⟩
  refine kw_go_i hs1 hP hD hS hA (va_runS (As := [.long x.toInt64, .long 0, .long 11]) (rest := []) ⟨hx, hb, hml, hown, hts⟩ (gr_in l D y x 0 11 (by omega) (by omega) _) (va_cwS 3 hts gX11_isStep_X11_in rfl rfl rfl (by decide +kernel) ⟨Nat.le_of_ble_eq_true rfl, Nat.le_of_ble_eq_true rfl⟩) (kw_PreS hs1 hP hD hK hN) rfl rfl hl.1 rfl (lv_room (Nat.le_of_ble_eq_true rfl)) dX11_isStep_6 ⟨Nat.le_of_ble_eq_true rfl, Nat.le_of_ble_eq_true rfl⟩) (fun r2 u3 H locs hq hP hD hS => ?_)
  rcases hq with ⟨j4, h5, h6, rfl, rfl⟩ | ⟨h7, rfl⟩
  · skip
    have hP : va_P D vwCl [] H := hP
    have hD : va_D A [] := hD
    exact W.zret (v := 1) hx hb hr (by decide) (fun tZ ht hW => ⟨⟨1, (), rfl, Or.inl ⟨j4, h6, rfl, rfl⟩, by rw [ht]; exact hP.sub [] rfl, hD.sub [] (by decide) rfl⟩, hS.F ht⟩) hS.2.2 dX11_isStep_9
  · skip
    have hP : va_P D vwCl [] H := hP
    have hD : va_D A [] := hD
    exact W.zret (v := 0) hx hb hr (by decide) (fun tZ ht hW => ⟨⟨0, (), rfl, Or.inr (⟨h7, rfl⟩), by rw [ht]; exact hP.sub [] rfl, hD.sub [] (by decide) rfl⟩, hS.F ht⟩) hS.2.2 dX11_isStep_9

set_option maxHeartbeats 4000000 in
set_option maxRecDepth 100000 in
theorem gr_isCloud (l : Launch) (D : va_G) (y : Nat → ClassId) (x : Int32)  : kw_Mi l yX11_isCloud wsX11_isCloud ({ frames := 2, cells := 0, slots := 0, locals := 85 }) D y [.int x] [] (fun (r : Int32) (u : Unit) => (∃ j : Nat, j ≤ 9 ∧ x = nI j ∧ r = 1) ∨ ((¬ ∃ j : Nat, 0 ≤ j ∧ j ≤ 9 ∧ x = nI j) ∧ r = 0)) (fun _ => []) 0 0 := by
  refine kw_Mi.of (cc := cX11_isCloud) (maxL := 1) (ret := (some .boolean)) (by decide) rfl ?_
  intro pZ eZ s mZ beZ meZ cZ A hE
  obtain ⟨hx, hb, hr, hml, hts, hown, hlocks, hin, hA, hP, hD, hK, hN⟩ := hE
  have hS : va_S A s.heap s.heap [] := va_S.rf
  have hl := lv_entry ([.int x]) (n := 1) (Nat.le_of_ble_eq_true rfl)
  rw [lg_entry_eq]
  generalize (lg_sl ([.int x]) ++ List.replicate (1 - (lg_sl ([.int x])).length) Slot.unset).toArray = ls at hl ⊢
  have hl : lv_has ls 1 [(0, .int x)] := hl
  have fw1 := hts (.constantLong RX11 65 (9)) (List.mem_of_getElem? (i := 1) rfl)
  refine lv_iload_n hx hb dX11_isCloud_0 rfl (lv_at hl 0 rfl) ?_
  refine lv_i2l (v := x.toInt64) hx hb dX11_isCloud_1 (rfl) ?_
  refine lv_lconst (v := 0) hx hb dX11_isCloud_2 (by decide) ?_
  refine lv_ldc2 (v := 9) hx hb hown fw1 dX11_isCloud_3 ?_
  have hs1 : kw_Split [] [] [] [] [] := ⟨rfl, rfl, rfl, rfl, rfl, by decide⟩
  refine kw_go_i hs1 hP hD hS hA (va_runS (As := [.long x.toInt64, .long 0, .long 9]) (rest := []) ⟨hx, hb, hml, hown, hts⟩ (gr_in l D y x 0 9 (by omega) (by omega) _) (va_cwS 3 hts gX11_isCloud_X11_in rfl rfl rfl (by decide +kernel) ⟨Nat.le_of_ble_eq_true rfl, Nat.le_of_ble_eq_true rfl⟩) (kw_PreS hs1 hP hD hK hN) rfl rfl hl.1 rfl (lv_room (Nat.le_of_ble_eq_true rfl)) dX11_isCloud_6 ⟨Nat.le_of_ble_eq_true rfl, Nat.le_of_ble_eq_true rfl⟩) (fun r2 u3 H locs hq hP hD hS => ?_)
  rcases hq with ⟨j4, h5, h6, rfl, rfl⟩ | ⟨h7, rfl⟩
  · skip
    have hP : va_P D vwCl [] H := hP
    have hD : va_D A [] := hD
    exact W.zret (v := 1) hx hb hr (by decide) (fun tZ ht hW => ⟨⟨1, (), rfl, Or.inl ⟨j4, h6, rfl, rfl⟩, by rw [ht]; exact hP.sub [] rfl, hD.sub [] (by decide) rfl⟩, hS.F ht⟩) hS.2.2 dX11_isCloud_9
  · skip
    have hP : va_P D vwCl [] H := hP
    have hD : va_D A [] := hD
    exact W.zret (v := 0) hx hb hr (by decide) (fun tZ ht hW => ⟨⟨0, (), rfl, Or.inr (⟨h7, rfl⟩), by rw [ht]; exact hP.sub [] rfl, hD.sub [] (by decide) rfl⟩, hS.F ht⟩) hS.2.2 dX11_isCloud_9

set_option maxHeartbeats 4000000 in
set_option maxRecDepth 100000 in
theorem gr_isLight (l : Launch) (D : va_G) (y : Nat → ClassId) (x : Int32)  : kw_Mi l yX11_isLight wsX11_isLight ({ frames := 2, cells := 0, slots := 0, locals := 85 }) D y [.int x] [] (fun (r : Int32) (u : Unit) => (∃ j : Nat, j ≤ 60 ∧ x = nI j ∧ r = 1) ∨ ((¬ ∃ j : Nat, 0 ≤ j ∧ j ≤ 60 ∧ x = nI j) ∧ r = 0)) (fun _ => []) 0 0 := by
  refine kw_Mi.of (cc := cX11_isLight) (maxL := 1) (ret := (some .boolean)) (by decide) rfl ?_
  intro pZ eZ s mZ beZ meZ cZ A hE
  obtain ⟨hx, hb, hr, hml, hts, hown, hlocks, hin, hA, hP, hD, hK, hN⟩ := hE
  have hS : va_S A s.heap s.heap [] := va_S.rf
  have hl := lv_entry ([.int x]) (n := 1) (Nat.le_of_ble_eq_true rfl)
  rw [lg_entry_eq]
  generalize (lg_sl ([.int x]) ++ List.replicate (1 - (lg_sl ([.int x])).length) Slot.unset).toArray = ls at hl ⊢
  have hl : lv_has ls 1 [(0, .int x)] := hl
  have fw1 := hts (.constantLong RX11 67 (60)) (List.mem_of_getElem? (i := 1) rfl)
  refine lv_iload_n hx hb dX11_isLight_0 rfl (lv_at hl 0 rfl) ?_
  refine lv_i2l (v := x.toInt64) hx hb dX11_isLight_1 (rfl) ?_
  refine lv_lconst (v := 0) hx hb dX11_isLight_2 (by decide) ?_
  refine lv_ldc2 (v := 60) hx hb hown fw1 dX11_isLight_3 ?_
  have hs1 : kw_Split [] [] [] [] [] := ⟨rfl, rfl, rfl, rfl, rfl, by decide⟩
  refine kw_go_i hs1 hP hD hS hA (va_runS (As := [.long x.toInt64, .long 0, .long 60]) (rest := []) ⟨hx, hb, hml, hown, hts⟩ (gr_in l D y x 0 60 (by omega) (by omega) _) (va_cwS 3 hts gX11_isLight_X11_in rfl rfl rfl (by decide +kernel) ⟨Nat.le_of_ble_eq_true rfl, Nat.le_of_ble_eq_true rfl⟩) (kw_PreS hs1 hP hD hK hN) rfl rfl hl.1 rfl (lv_room (Nat.le_of_ble_eq_true rfl)) dX11_isLight_6 ⟨Nat.le_of_ble_eq_true rfl, Nat.le_of_ble_eq_true rfl⟩) (fun r2 u3 H locs hq hP hD hS => ?_)
  rcases hq with ⟨j4, h5, h6, rfl, rfl⟩ | ⟨h7, rfl⟩
  · skip
    have hP : va_P D vwCl [] H := hP
    have hD : va_D A [] := hD
    exact W.zret (v := 1) hx hb hr (by decide) (fun tZ ht hW => ⟨⟨1, (), rfl, Or.inl ⟨j4, h6, rfl, rfl⟩, by rw [ht]; exact hP.sub [] rfl, hD.sub [] (by decide) rfl⟩, hS.F ht⟩) hS.2.2 dX11_isLight_9
  · skip
    have hP : va_P D vwCl [] H := hP
    have hD : va_D A [] := hD
    exact W.zret (v := 0) hx hb hr (by decide) (fun tZ ht hW => ⟨⟨0, (), rfl, Or.inr (⟨h7, rfl⟩), by rw [ht]; exact hP.sub [] rfl, hD.sub [] (by decide) rfl⟩, hS.F ht⟩) hS.2.2 dX11_isLight_9

set_option maxHeartbeats 4000000 in
set_option maxRecDepth 100000 in
theorem gr_has (l : Launch) (D : va_G) (y : Nat → ClassId) (x : Int32) (x2 : Int32)  : kw_Mi l yX11_has wsX11_has ({ frames := 1, cells := 0, slots := 0, locals := 60 }) D y [.int x, .int x2] [] (fun (r : Int32) (u : Unit) => (r = 0 ∨ r = 1)) (fun _ => []) 0 0 := by
  refine kw_Mi.of (cc := cX11_has) (maxL := 2) (ret := (some .boolean)) (by decide) rfl ?_
  intro pZ eZ s mZ beZ meZ cZ A hE
  obtain ⟨hx, hb, hr, hml, hts, hown, hlocks, hin, hA, hP, hD, hK, hN⟩ := hE
  have hS : va_S A s.heap s.heap [] := va_S.rf
  have hl := lv_entry ([.int x, .int x2]) (n := 2) (Nat.le_of_ble_eq_true rfl)
  rw [lg_entry_eq]
  generalize (lg_sl ([.int x, .int x2]) ++ List.replicate (2 - (lg_sl ([.int x, .int x2])).length) Slot.unset).toArray = ls at hl ⊢
  have hl : lv_has ls 2 [(0, .int x), (1, .int x2)] := hl
  refine lv_iload_n hx hb dX11_has_0 rfl (lv_at hl 0 rfl) ?_
  refine lv_iload_n hx hb dX11_has_1 rfl (lv_at hl 1 rfl) ?_
  refine lv_ishr hx hb dX11_has_2 ?_
  refine lv_iconst (v := 1) hx hb dX11_has_3 (by decide) ?_
  refine lv_iand hx hb dX11_has_4 ?_
  refine lv_iconst (v := 1) hx hb dX11_has_5 (by decide) ?_
  refine lv_icmp_ne (tgt := 13) hx hb dX11_has_6 (by decide) (fun h1 => ?_) (fun h2 => ?_)
  · skip
    refine lv_iconst (v := 0) hx hb dX11_has_13 (by decide) ?_
    exact W.zret (v := 0) hx hb hr (by decide) (fun tZ ht hW => ⟨⟨0, (), rfl, Or.inl rfl, by rw [ht]; exact hP.sub [] rfl, hD.sub [] (by decide) rfl⟩, hS.F ht⟩) hS.2.2 dX11_has_14
  · skip
    refine lv_iconst (v := 1) hx hb dX11_has_9 (by decide) ?_
    refine lv_goto (tgt := 14) hx hb dX11_has_10 (by decide) ?_
    exact W.zret (v := 1) hx hb hr (by decide) (fun tZ ht hW => ⟨⟨1, (), rfl, Or.inr rfl, by rw [ht]; exact hP.sub [] rfl, hD.sub [] (by decide) rfl⟩, hS.F ht⟩) hS.2.2 dX11_has_14

set_option maxHeartbeats 4000000 in
set_option maxRecDepth 100000 in
theorem gr_begin228 (l : Launch) (D : va_G) (y : Nat → ClassId) (to : Nat) (ft : Nat → Int32) (x : Int32) (hkt : kr_t 228 ft) : kw_Mv l yX11_begin wsX11_begin ({ frames := 1, cells := 0, slots := 0, locals := 60 }) D y [.ref to, .int x] [(to, .inl (y 0, 228, .inl ft))] (fun (u : Unit) => kr_t 228 (upd (kr_bg ft 76) 22 x)) (fun _ => [(to, .inl (y 0, 228, .inl (upd (kr_bg ft 76) 22 x)))]) 0 0 := by
  refine kw_Mv.of (cc := cX11_begin) (maxL := 3) (ret := none) (by decide) rfl ?_
  intro pZ eZ s mZ beZ meZ cZ A hE
  obtain ⟨hx, hb, hr, hml, hts, hown, hlocks, hin, hA, hP, hD, hK, hN⟩ := hE
  have hS : va_S A s.heap s.heap [] := va_S.rf
  have hl := lv_entry ([.ref to, .int x]) (n := 3) (Nat.le_of_ble_eq_true rfl)
  rw [lg_entry_eq]
  generalize (lg_sl ([.ref to, .int x]) ++ List.replicate (3 - (lg_sl ([.ref to, .int x])).length) Slot.unset).toArray = ls at hl ⊢
  have hl : lv_has ls 3 [(0, .ref to), (1, .int x)] := hl
  refine lv_iconst (v := 0) hx hb dX11_begin_0 (by decide) ?_
  refine lv_istore_n (lv' := [(2, .int 0), (0, .ref to), (1, .int x)]) hx hb dX11_begin_1 rfl hl (by decide) rfl (fun ls hl => ?_)
  have lp10 : ∀ (fuj91 j91 : Nat) (x5 : Nat → Int32) (H : Heap) (locs : List Loc) (ls : Array Slot), j91 ≤ 76 → 76 - j91 < fuj91 → kr_t 228 x5 → x5 = kr_bg ft j91 → va_P D vwCl [(to, .inl (y 0, 228, .inl x5))] H → va_D A [(to, .inl (y 0, 228, .inl x5))] → va_S A s.heap H locs → lv_has ls 3 [(2, .int (nI j91)), (0, .ref to), (1, .int x)] → W pZ l eZ ({ frames := 1, cells := 0, slots := 0, locals := 60 }) s mZ [.ref to, .int x].toArray beZ meZ cZ H locs 0 0 (MQ beZ (va_Qv (fun (u : Unit) => kr_t 228 (upd (kr_bg ft 76) 22 x)) (kw_B D (fun _ => [(to, .inl (y 0, 228, .inl (upd (kr_bg ft 76) 22 x)))]) A) A) [.ref to, .int x].toArray s 0 0 A) (F0 mZ 2 ls []) := by
    intro fuj91
    induction fuj91 with
    | zero => intro j91 x5 H locs ls hj9 hf9; exact absurd hf9 (Nat.not_lt_zero _)
    | succ fuj91 ihj91 =>
      intro j91 x5 H locs ls hj91 hfj91 hr_x5 hI0_j91 hP hD hS hl
      refine lv_iload_n hx hb dX11_begin_2 rfl (lv_at hl 0 rfl) ?_
      refine lv_bipush (v := 76) hx hb dX11_begin_3 (by decide) ?_
      refine lv_icmp_ge (tgt := 18) hx hb dX11_begin_5 (by decide) (fun h11 => ?_) (fun h12 => ?_)
      · skip
        have h11 : 76 ≤ j91 := (nI_leI (a := 76) (b := j91) (by omega) (by omega)).mp h11
        obtain rfl : j91 = 76 := by omega
        subst hI0_j91
        have hP : va_P D vwCl [(to, .inl (y 0, 228, .inl (kr_bg ft 76)))] H := hP
        have hD : va_D A [(to, .inl (y 0, 228, .inl (kr_bg ft 76)))] := hD
        refine lv_aload_n hx hb dX11_begin_18 rfl (lv_at hl 1 rfl) ?_
        refine lv_bipush (v := 22) hx hb dX11_begin_19 (by decide) ?_
        refine lv_iload_n hx hb dX11_begin_21 rfl (lv_at hl 2 rfl) ?_
        refine va_iast hx hb hK hP hD hS 0 0 rfl rfl (by unfold vp_in; decide) dX11_begin_22 (fun H locs hP hD hS => ?_)
        rw [show ((22 : Int32)).toNatClampNeg = 22 from rfl] at hP hD
        have hr13 : kr_t 228 (upd (kr_bg ft 76) 22 x) := kr_up hr_x5 (kr_free (by unfold kr_a; omega) (by unfold kr_s; omega))
        have hP : va_P D vwCl [(to, .inl (y 0, 228, .inl (upd (kr_bg ft 76) 22 x)))] H := hP
        have hD : va_D A [(to, .inl (y 0, 228, .inl (upd (kr_bg ft 76) 22 x)))] := hD
        exact W.vret hx hb hr (fun tZ ht hW => ⟨⟨(), rfl, hr13, by rw [ht]; exact hP.sub [0] rfl, hD.sub [0] (by decide) rfl⟩, hS.F ht⟩) hS.2.2 dX11_begin_23
      · skip
        have h12 : ¬ 76 ≤ j91 := fun q9 => h12 ((nI_leI (a := 76) (b := j91) (by omega) (by omega)).mpr q9)
        refine lv_aload_n hx hb dX11_begin_8 rfl (lv_at hl 1 rfl) ?_
        refine lv_iload_n hx hb dX11_begin_9 rfl (lv_at hl 0 rfl) ?_
        refine lv_iconst (v := 0) hx hb dX11_begin_10 (by decide) ?_
        refine va_iast hx hb hK hP hD hS 0 0 rfl rfl (vp_in_nI (by omega) (by decide)) dX11_begin_11 (fun H locs hP hD hS => ?_)
        rw [nI_clamp (n := j91) (by omega)] at hP hD
        have hr14 : kr_t 228 (upd x5 j91 0) := kr_up hr_x5 (kr_ok0)
        have hP : va_P D vwCl [(to, .inl (y 0, 228, .inl (upd x5 j91 0)))] H := hP
        have hD : va_D A [(to, .inl (y 0, 228, .inl (upd x5 j91 0)))] := hD
        refine lv_iinc (v := (nI (j91 + 1))) (lv' := [(2, .int (nI (j91 + 1))), (0, .ref to), (1, .int x)]) hx hb dX11_begin_12 hl (k := 0) rfl (nI_1 j91) (by decide) rfl (fun ls hl => ?_)
        refine lv_goto (tgt := 2) hx hb dX11_begin_15 (by decide) ?_
        exact ihj91 (j91 + 1) (upd x5 j91 0) H locs ls (by omega) (by omega) hr14 (by rw [hI0_j91]; exact kr_bgS) (hP.sub [0] rfl) (hD.sub [0] (by decide) rfl) hS (lv_sub hl [0, 1, 2] rfl)
  exact lp10 (76 + 1) 0 ft _ _ _ (by omega) (by omega) hkt kr_bg0 hP hD hS (lv_sub hl [0, 1, 2] rfl)

set_option maxHeartbeats 4000000 in
set_option maxRecDepth 100000 in
theorem gr_layField228 (l : Launch) (D : va_G) (y : Nat → ClassId) (to : Nat) (ft : Nat → Int32) (fi : Nat) (gl : Nat) (mi : Nat) (no : Nat) (un : Nat) (x : Int32) (x2 : Int32) (hk0_ : ft 0 = (nI fi)) (hk1_ : ft 1 = (nI gl)) (hk2_ : ft 2 = (nI mi)) (hk3_ : ft 3 = (nI no)) (hk4_ : ft 4 = (nI un)) (hkt : kr_t 228 ft) (hfi : fi ≤ 6) (hgl : gl ≤ 5) (hmi : mi ≤ 4) (hno : no ≤ 6) (hun : un ≤ 8) (hA1 : fi < 6) : kw_Mv l yX11_layField wsX11_layField ({ frames := 1, cells := 0, slots := 0, locals := 60 }) D y [.ref to, .int x, .int x2] [(to, .inl (y 0, 228, .inl ft))] (fun (u : Unit) => kr_t 228 (upd (upd (upd ft (fi + 24) x) (fi + 5) x2) 0 (nI (fi + 1))) ∧ (upd (upd (upd ft (fi + 24) x) (fi + 5) x2) 0 (nI (fi + 1))) 0 = (nI (fi + 1)) ∧ (upd (upd (upd ft (fi + 24) x) (fi + 5) x2) 0 (nI (fi + 1))) 1 = (nI gl) ∧ (upd (upd (upd ft (fi + 24) x) (fi + 5) x2) 0 (nI (fi + 1))) 2 = (nI mi) ∧ (upd (upd (upd ft (fi + 24) x) (fi + 5) x2) 0 (nI (fi + 1))) 3 = (nI no) ∧ (upd (upd (upd ft (fi + 24) x) (fi + 5) x2) 0 (nI (fi + 1))) 4 = (nI un)) (fun _ => [(to, .inl (y 0, 228, .inl (upd (upd (upd ft (fi + 24) x) (fi + 5) x2) 0 (nI (fi + 1)))))]) 0 0 := by
  refine kw_Mv.of (cc := cX11_layField) (maxL := 3) (ret := none) (by decide) rfl ?_
  intro pZ eZ s mZ beZ meZ cZ A hE
  obtain ⟨hx, hb, hr, hml, hts, hown, hlocks, hin, hA, hP, hD, hK, hN⟩ := hE
  have hS : va_S A s.heap s.heap [] := va_S.rf
  have hl := lv_entry ([.ref to, .int x, .int x2]) (n := 3) (Nat.le_of_ble_eq_true rfl)
  rw [lg_entry_eq]
  generalize (lg_sl ([.ref to, .int x, .int x2]) ++ List.replicate (3 - (lg_sl ([.ref to, .int x, .int x2])).length) Slot.unset).toArray = ls at hl ⊢
  have hl : lv_has ls 3 [(0, .ref to), (1, .int x), (2, .int x2)] := hl
  refine lv_aload_n hx hb dX11_layField_0 rfl (lv_at hl 0 rfl) ?_
  refine lv_bipush (v := 24) hx hb dX11_layField_1 (by decide) ?_
  refine lv_aload_n hx hb dX11_layField_3 rfl (lv_at hl 0 rfl) ?_
  refine lv_iconst (v := 0) hx hb dX11_layField_4 (by decide) ?_
  refine va_iald hx hb hK hP 0 0 rfl rfl (by unfold vp_in; decide) dX11_layField_5 ?_
  rw [show ((0 : Int32)).toNatClampNeg = 0 from rfl]
  rw [show (ft 0) = (nI fi) from hk0_]
  refine lv_iadd hx hb dX11_layField_6 ?_
  rw [show 24 + (nI fi) = nI (fi + 24) from (nI_add 24 fi).trans (congrArg nI (by omega))]
  refine lv_iload_n hx hb dX11_layField_7 rfl (lv_at hl 1 rfl) ?_
  refine va_iast hx hb hK hP hD hS 0 0 rfl rfl (vp_in_nI (by omega) (by decide)) dX11_layField_8 (fun H locs hP hD hS => ?_)
  rw [nI_clamp (n := (fi + 24)) (by omega)] at hP hD
  have hr1 : kr_t 228 (upd ft (fi + 24) x) := kr_up hkt (kr_free (by unfold kr_a; omega) (by unfold kr_s; omega))
  have hk2 : (upd ft (fi + 24) x) 0 = (nI fi) := (pk_un (by omega)).trans hk0_
  have hk3 : (upd ft (fi + 24) x) 1 = (nI gl) := (pk_un (by omega)).trans hk1_
  have hk4 : (upd ft (fi + 24) x) 2 = (nI mi) := (pk_un (by omega)).trans hk2_
  have hk5 : (upd ft (fi + 24) x) 3 = (nI no) := (pk_un (by omega)).trans hk3_
  have hk6 : (upd ft (fi + 24) x) 4 = (nI un) := (pk_un (by omega)).trans hk4_
  have hP : va_P D vwCl [(to, .inl (y 0, 228, .inl (upd ft (fi + 24) x)))] H := hP
  have hD : va_D A [(to, .inl (y 0, 228, .inl (upd ft (fi + 24) x)))] := hD
  refine lv_aload_n hx hb dX11_layField_9 rfl (lv_at hl 0 rfl) ?_
  refine lv_iconst (v := 5) hx hb dX11_layField_10 (by decide) ?_
  refine lv_aload_n hx hb dX11_layField_11 rfl (lv_at hl 0 rfl) ?_
  refine lv_iconst (v := 0) hx hb dX11_layField_12 (by decide) ?_
  refine va_iald hx hb hK hP 0 0 rfl rfl (by unfold vp_in; decide) dX11_layField_13 ?_
  rw [show ((0 : Int32)).toNatClampNeg = 0 from rfl]
  rw [show ((upd ft (fi + 24) x) 0) = (nI fi) from hk2]
  refine lv_iadd hx hb dX11_layField_14 ?_
  rw [show 5 + (nI fi) = nI (fi + 5) from (nI_add 5 fi).trans (congrArg nI (by omega))]
  refine lv_iload_n hx hb dX11_layField_15 rfl (lv_at hl 2 rfl) ?_
  refine va_iast hx hb hK hP hD hS 0 0 rfl rfl (vp_in_nI (by omega) (by decide)) dX11_layField_16 (fun H locs hP hD hS => ?_)
  rw [nI_clamp (n := (fi + 5)) (by omega)] at hP hD
  have hr7 : kr_t 228 (upd (upd ft (fi + 24) x) (fi + 5) x2) := kr_up hr1 (kr_free (by unfold kr_a; omega) (by unfold kr_s; omega))
  have hk8 : (upd (upd ft (fi + 24) x) (fi + 5) x2) 0 = (nI fi) := (pk_un (by omega)).trans hk2
  have hk9 : (upd (upd ft (fi + 24) x) (fi + 5) x2) 1 = (nI gl) := (pk_un (by omega)).trans hk3
  have hk10 : (upd (upd ft (fi + 24) x) (fi + 5) x2) 2 = (nI mi) := (pk_un (by omega)).trans hk4
  have hk11 : (upd (upd ft (fi + 24) x) (fi + 5) x2) 3 = (nI no) := (pk_un (by omega)).trans hk5
  have hk12 : (upd (upd ft (fi + 24) x) (fi + 5) x2) 4 = (nI un) := (pk_un (by omega)).trans hk6
  have hP : va_P D vwCl [(to, .inl (y 0, 228, .inl (upd (upd ft (fi + 24) x) (fi + 5) x2)))] H := hP
  have hD : va_D A [(to, .inl (y 0, 228, .inl (upd (upd ft (fi + 24) x) (fi + 5) x2)))] := hD
  refine lv_aload_n hx hb dX11_layField_17 rfl (lv_at hl 0 rfl) ?_
  refine lv_iconst (v := 0) hx hb dX11_layField_18 (by decide) ?_
  refine lv_dup2_11 hx hb dX11_layField_19 rfl rfl ?_
  refine va_iald hx hb hK hP 0 0 rfl rfl (by unfold vp_in; decide) dX11_layField_20 ?_
  rw [show ((0 : Int32)).toNatClampNeg = 0 from rfl]
  rw [show ((upd (upd ft (fi + 24) x) (fi + 5) x2) 0) = (nI fi) from hk8]
  refine lv_iconst (v := 1) hx hb dX11_layField_21 (by decide) ?_
  refine lv_iadd hx hb dX11_layField_22 ?_
  rw [show (nI fi) + 1 = nI (fi + 1) from nI_add fi 1]
  refine va_iast hx hb hK hP hD hS 0 0 rfl rfl (by unfold vp_in; decide) dX11_layField_23 (fun H locs hP hD hS => ?_)
  rw [show ((0 : Int32)).toNatClampNeg = 0 from rfl] at hP hD
  have hr13 : kr_t 228 (upd (upd (upd ft (fi + 24) x) (fi + 5) x2) 0 (nI (fi + 1))) := kr_up hr7 (kr_free (by unfold kr_a; omega) (by unfold kr_s; omega))
  have hk14 : (upd (upd (upd ft (fi + 24) x) (fi + 5) x2) 0 (nI (fi + 1))) 1 = (nI gl) := (pk_un (by decide)).trans hk9
  have hk15 : (upd (upd (upd ft (fi + 24) x) (fi + 5) x2) 0 (nI (fi + 1))) 2 = (nI mi) := (pk_un (by decide)).trans hk10
  have hk16 : (upd (upd (upd ft (fi + 24) x) (fi + 5) x2) 0 (nI (fi + 1))) 3 = (nI no) := (pk_un (by decide)).trans hk11
  have hk17 : (upd (upd (upd ft (fi + 24) x) (fi + 5) x2) 0 (nI (fi + 1))) 4 = (nI un) := (pk_un (by decide)).trans hk12
  have hk18 : (upd (upd (upd ft (fi + 24) x) (fi + 5) x2) 0 (nI (fi + 1))) 0 = (nI (fi + 1)) := pk_us
  have hP : va_P D vwCl [(to, .inl (y 0, 228, .inl (upd (upd (upd ft (fi + 24) x) (fi + 5) x2) 0 (nI (fi + 1)))))] H := hP
  have hD : va_D A [(to, .inl (y 0, 228, .inl (upd (upd (upd ft (fi + 24) x) (fi + 5) x2) 0 (nI (fi + 1)))))] := hD
  exact W.vret hx hb hr (fun tZ ht hW => ⟨⟨(), rfl, ⟨hr13, hk18, hk14, hk15, hk16, hk17⟩, by rw [ht]; exact hP.sub [0] rfl, hD.sub [0] (by decide) rfl⟩, hS.F ht⟩) hS.2.2 dX11_layField_24

set_option maxHeartbeats 4000000 in
set_option maxRecDepth 100000 in
theorem gr_layGleaner228 (l : Launch) (D : va_G) (y : Nat → ClassId) (to : Nat) (ft : Nat → Int32) (fi : Nat) (gl : Nat) (mi : Nat) (no : Nat) (un : Nat) (k : Nat) (hk0_ : ft 0 = (nI fi)) (hk1_ : ft 1 = (nI gl)) (hk2_ : ft 2 = (nI mi)) (hk3_ : ft 3 = (nI no)) (hk4_ : ft 4 = (nI un)) (hkt : kr_t 228 ft) (hfi : fi ≤ 6) (hgl : gl ≤ 5) (hmi : mi ≤ 4) (hno : no ≤ 6) (hun : un ≤ 8) (hA1 : gl < 5) (hA2 : k < 6) : kw_Mv l yX11_layGleaner wsX11_layGleaner ({ frames := 1, cells := 0, slots := 0, locals := 60 }) D y [.ref to, .int (nI k)] [(to, .inl (y 0, 228, .inl ft))] (fun (u : Unit) => kr_t 228 (upd (upd (upd ft (gl + 11) (nI k)) (gl + 16) 0) 1 (nI (gl + 1))) ∧ (upd (upd (upd ft (gl + 11) (nI k)) (gl + 16) 0) 1 (nI (gl + 1))) 0 = (nI fi) ∧ (upd (upd (upd ft (gl + 11) (nI k)) (gl + 16) 0) 1 (nI (gl + 1))) 1 = (nI (gl + 1)) ∧ (upd (upd (upd ft (gl + 11) (nI k)) (gl + 16) 0) 1 (nI (gl + 1))) 2 = (nI mi) ∧ (upd (upd (upd ft (gl + 11) (nI k)) (gl + 16) 0) 1 (nI (gl + 1))) 3 = (nI no) ∧ (upd (upd (upd ft (gl + 11) (nI k)) (gl + 16) 0) 1 (nI (gl + 1))) 4 = (nI un)) (fun _ => [(to, .inl (y 0, 228, .inl (upd (upd (upd ft (gl + 11) (nI k)) (gl + 16) 0) 1 (nI (gl + 1)))))]) 0 0 := by
  refine kw_Mv.of (cc := cX11_layGleaner) (maxL := 2) (ret := none) (by decide) rfl ?_
  intro pZ eZ s mZ beZ meZ cZ A hE
  obtain ⟨hx, hb, hr, hml, hts, hown, hlocks, hin, hA, hP, hD, hK, hN⟩ := hE
  have hS : va_S A s.heap s.heap [] := va_S.rf
  have hl := lv_entry ([.ref to, .int (nI k)]) (n := 2) (Nat.le_of_ble_eq_true rfl)
  rw [lg_entry_eq]
  generalize (lg_sl ([.ref to, .int (nI k)]) ++ List.replicate (2 - (lg_sl ([.ref to, .int (nI k)])).length) Slot.unset).toArray = ls at hl ⊢
  have hl : lv_has ls 2 [(0, .ref to), (1, .int (nI k))] := hl
  refine lv_aload_n hx hb dX11_layGleaner_0 rfl (lv_at hl 0 rfl) ?_
  refine lv_bipush (v := 11) hx hb dX11_layGleaner_1 (by decide) ?_
  refine lv_aload_n hx hb dX11_layGleaner_3 rfl (lv_at hl 0 rfl) ?_
  refine lv_iconst (v := 1) hx hb dX11_layGleaner_4 (by decide) ?_
  refine va_iald hx hb hK hP 0 0 rfl rfl (by unfold vp_in; decide) dX11_layGleaner_5 ?_
  rw [show ((1 : Int32)).toNatClampNeg = 1 from rfl]
  rw [show (ft 1) = (nI gl) from hk1_]
  refine lv_iadd hx hb dX11_layGleaner_6 ?_
  rw [show 11 + (nI gl) = nI (gl + 11) from (nI_add 11 gl).trans (congrArg nI (by omega))]
  refine lv_iload_n hx hb dX11_layGleaner_7 rfl (lv_at hl 1 rfl) ?_
  refine va_iast hx hb hK hP hD hS 0 0 rfl rfl (vp_in_nI (by omega) (by decide)) dX11_layGleaner_8 (fun H locs hP hD hS => ?_)
  rw [nI_clamp (n := (gl + 11)) (by omega)] at hP hD
  have hr1 : kr_t 228 (upd ft (gl + 11) (nI k)) := kr_up hkt (kr_oka (vp_in_nI (by omega) (by decide)) (by unfold kr_s; omega))
  have hk2 : (upd ft (gl + 11) (nI k)) 0 = (nI fi) := (pk_un (by omega)).trans hk0_
  have hk3 : (upd ft (gl + 11) (nI k)) 1 = (nI gl) := (pk_un (by omega)).trans hk1_
  have hk4 : (upd ft (gl + 11) (nI k)) 2 = (nI mi) := (pk_un (by omega)).trans hk2_
  have hk5 : (upd ft (gl + 11) (nI k)) 3 = (nI no) := (pk_un (by omega)).trans hk3_
  have hk6 : (upd ft (gl + 11) (nI k)) 4 = (nI un) := (pk_un (by omega)).trans hk4_
  have hP : va_P D vwCl [(to, .inl (y 0, 228, .inl (upd ft (gl + 11) (nI k))))] H := hP
  have hD : va_D A [(to, .inl (y 0, 228, .inl (upd ft (gl + 11) (nI k))))] := hD
  refine lv_aload_n hx hb dX11_layGleaner_9 rfl (lv_at hl 0 rfl) ?_
  refine lv_bipush (v := 16) hx hb dX11_layGleaner_10 (by decide) ?_
  refine lv_aload_n hx hb dX11_layGleaner_12 rfl (lv_at hl 0 rfl) ?_
  refine lv_iconst (v := 1) hx hb dX11_layGleaner_13 (by decide) ?_
  refine va_iald hx hb hK hP 0 0 rfl rfl (by unfold vp_in; decide) dX11_layGleaner_14 ?_
  rw [show ((1 : Int32)).toNatClampNeg = 1 from rfl]
  rw [show ((upd ft (gl + 11) (nI k)) 1) = (nI gl) from hk3]
  refine lv_iadd hx hb dX11_layGleaner_15 ?_
  rw [show 16 + (nI gl) = nI (gl + 16) from (nI_add 16 gl).trans (congrArg nI (by omega))]
  refine lv_iconst (v := 0) hx hb dX11_layGleaner_16 (by decide) ?_
  refine va_iast hx hb hK hP hD hS 0 0 rfl rfl (vp_in_nI (by omega) (by decide)) dX11_layGleaner_17 (fun H locs hP hD hS => ?_)
  rw [nI_clamp (n := (gl + 16)) (by omega)] at hP hD
  have hr7 : kr_t 228 (upd (upd ft (gl + 11) (nI k)) (gl + 16) 0) := kr_up hr1 (kr_ok0)
  have hk8 : (upd (upd ft (gl + 11) (nI k)) (gl + 16) 0) 0 = (nI fi) := (pk_un (by omega)).trans hk2
  have hk9 : (upd (upd ft (gl + 11) (nI k)) (gl + 16) 0) 1 = (nI gl) := (pk_un (by omega)).trans hk3
  have hk10 : (upd (upd ft (gl + 11) (nI k)) (gl + 16) 0) 2 = (nI mi) := (pk_un (by omega)).trans hk4
  have hk11 : (upd (upd ft (gl + 11) (nI k)) (gl + 16) 0) 3 = (nI no) := (pk_un (by omega)).trans hk5
  have hk12 : (upd (upd ft (gl + 11) (nI k)) (gl + 16) 0) 4 = (nI un) := (pk_un (by omega)).trans hk6
  have hP : va_P D vwCl [(to, .inl (y 0, 228, .inl (upd (upd ft (gl + 11) (nI k)) (gl + 16) 0)))] H := hP
  have hD : va_D A [(to, .inl (y 0, 228, .inl (upd (upd ft (gl + 11) (nI k)) (gl + 16) 0)))] := hD
  refine lv_aload_n hx hb dX11_layGleaner_18 rfl (lv_at hl 0 rfl) ?_
  refine lv_iconst (v := 1) hx hb dX11_layGleaner_19 (by decide) ?_
  refine lv_dup2_11 hx hb dX11_layGleaner_20 rfl rfl ?_
  refine va_iald hx hb hK hP 0 0 rfl rfl (by unfold vp_in; decide) dX11_layGleaner_21 ?_
  rw [show ((1 : Int32)).toNatClampNeg = 1 from rfl]
  rw [show ((upd (upd ft (gl + 11) (nI k)) (gl + 16) 0) 1) = (nI gl) from hk9]
  refine lv_iconst (v := 1) hx hb dX11_layGleaner_22 (by decide) ?_
  refine lv_iadd hx hb dX11_layGleaner_23 ?_
  rw [show (nI gl) + 1 = nI (gl + 1) from nI_add gl 1]
  refine va_iast hx hb hK hP hD hS 0 0 rfl rfl (by unfold vp_in; decide) dX11_layGleaner_24 (fun H locs hP hD hS => ?_)
  rw [show ((1 : Int32)).toNatClampNeg = 1 from rfl] at hP hD
  have hr13 : kr_t 228 (upd (upd (upd ft (gl + 11) (nI k)) (gl + 16) 0) 1 (nI (gl + 1))) := kr_up hr7 (kr_free (by unfold kr_a; omega) (by unfold kr_s; omega))
  have hk14 : (upd (upd (upd ft (gl + 11) (nI k)) (gl + 16) 0) 1 (nI (gl + 1))) 0 = (nI fi) := (pk_un (by decide)).trans hk8
  have hk15 : (upd (upd (upd ft (gl + 11) (nI k)) (gl + 16) 0) 1 (nI (gl + 1))) 2 = (nI mi) := (pk_un (by decide)).trans hk10
  have hk16 : (upd (upd (upd ft (gl + 11) (nI k)) (gl + 16) 0) 1 (nI (gl + 1))) 3 = (nI no) := (pk_un (by decide)).trans hk11
  have hk17 : (upd (upd (upd ft (gl + 11) (nI k)) (gl + 16) 0) 1 (nI (gl + 1))) 4 = (nI un) := (pk_un (by decide)).trans hk12
  have hk18 : (upd (upd (upd ft (gl + 11) (nI k)) (gl + 16) 0) 1 (nI (gl + 1))) 1 = (nI (gl + 1)) := pk_us
  have hP : va_P D vwCl [(to, .inl (y 0, 228, .inl (upd (upd (upd ft (gl + 11) (nI k)) (gl + 16) 0) 1 (nI (gl + 1)))))] H := hP
  have hD : va_D A [(to, .inl (y 0, 228, .inl (upd (upd (upd ft (gl + 11) (nI k)) (gl + 16) 0) 1 (nI (gl + 1)))))] := hD
  exact W.vret hx hb hr (fun tZ ht hW => ⟨⟨(), rfl, ⟨hr13, hk14, hk18, hk15, hk16, hk17⟩, by rw [ht]; exact hP.sub [0] rfl, hD.sub [0] (by decide) rfl⟩, hS.F ht⟩) hS.2.2 dX11_layGleaner_25

set_option maxHeartbeats 4000000 in
set_option maxRecDepth 100000 in
theorem gr_plainly (l : Launch) (D : va_G) (y : Nat → ClassId) (x : Int32) (x2 : Int32) (x3 : Int32)  : kw_Mi l yX11_plainly wsX11_plainly ({ frames := 1, cells := 0, slots := 0, locals := 60 }) D y [.int x, .int x2, .int x3] [] (fun (r : Int32) (u : Unit) => True) (fun _ => []) 0 0 := by
  refine kw_Mi.of (cc := cX11_plainly) (maxL := 4) (ret := (some .int)) (by decide) rfl ?_
  intro pZ eZ s mZ beZ meZ cZ A hE
  obtain ⟨hx, hb, hr, hml, hts, hown, hlocks, hin, hA, hP, hD, hK, hN⟩ := hE
  have hS : va_S A s.heap s.heap [] := va_S.rf
  have hl := lv_entry ([.int x, .int x2, .int x3]) (n := 4) (Nat.le_of_ble_eq_true rfl)
  rw [lg_entry_eq]
  generalize (lg_sl ([.int x, .int x2, .int x3]) ++ List.replicate (4 - (lg_sl ([.int x, .int x2, .int x3])).length) Slot.unset).toArray = ls at hl ⊢
  have hl : lv_has ls 4 [(0, .int x), (1, .int x2), (2, .int x3)] := hl
  refine lv_iload_n hx hb dX11_plainly_0 rfl (lv_at hl 0 rfl) ?_
  refine lv_iconst (v := 2) hx hb dX11_plainly_1 (by decide) ?_
  refine lv_iload_n hx hb dX11_plainly_2 rfl (lv_at hl 1 rfl) ?_
  refine lv_imul hx hb dX11_plainly_3 ?_
  refine lv_isub hx hb dX11_plainly_4 ?_
  refine lv_iload_n hx hb dX11_plainly_5 rfl (lv_at hl 2 rfl) ?_
  refine lv_isub hx hb dX11_plainly_6 ?_
  refine lv_istore_n (lv' := [(3, .int ((x - (2 * x2)) - x3)), (0, .int x), (1, .int x2), (2, .int x3)]) hx hb dX11_plainly_7 rfl hl (by decide) rfl (fun ls hl => ?_)
  refine lv_iload_n hx hb dX11_plainly_8 rfl (lv_at hl 0 rfl) ?_
  refine lv_if_ge (tgt := 16) hx hb dX11_plainly_9 (by decide) (fun h1 => ?_) (fun h2 => ?_)
  · skip
    refine lv_iload_n hx hb dX11_plainly_16 rfl (lv_at hl 0 rfl) ?_
    exact W.iret (v := ((x - (2 * x2)) - x3)) hx hb hr (fun tZ ht hW => ⟨⟨((x - (2 * x2)) - x3), (), rfl, trivial, by rw [ht]; exact hP.sub [] rfl, hD.sub [] (by decide) rfl⟩, hS.F ht⟩) hS.2.2 dX11_plainly_17
  · skip
    refine lv_iconst (v := 0) hx hb dX11_plainly_12 (by decide) ?_
    refine lv_goto (tgt := 17) hx hb dX11_plainly_13 (by decide) ?_
    exact W.iret (v := 0) hx hb hr (fun tZ ht hW => ⟨⟨0, (), rfl, trivial, by rw [ht]; exact hP.sub [] rfl, hD.sub [] (by decide) rfl⟩, hS.F ht⟩) hS.2.2 dX11_plainly_17

set_option maxHeartbeats 4000000 in
set_option maxRecDepth 100000 in
theorem gr_westerly (l : Launch) (D : va_G) (y : Nat → ClassId) (x : Int32) (x2 : Int32) (x3 : Int32)  : kw_Mi l yX11_westerly wsX11_westerly ({ frames := 2, cells := 0, slots := 0, locals := 83 }) D y [.int x, .int x2, .int x3] [] (fun (r : Int32) (u : Unit) => True) (fun _ => []) 0 0 := by
  refine kw_Mi.of (cc := cX11_westerly) (maxL := 3) (ret := (some .int)) (by decide) rfl ?_
  intro pZ eZ s mZ beZ meZ cZ A hE
  obtain ⟨hx, hb, hr, hml, hts, hown, hlocks, hin, hA, hP, hD, hK, hN⟩ := hE
  have hS : va_S A s.heap s.heap [] := va_S.rf
  have hl := lv_entry ([.int x, .int x2, .int x3]) (n := 3) (Nat.le_of_ble_eq_true rfl)
  rw [lg_entry_eq]
  generalize (lg_sl ([.int x, .int x2, .int x3]) ++ List.replicate (3 - (lg_sl ([.int x, .int x2, .int x3])).length) Slot.unset).toArray = ls at hl ⊢
  have hl : lv_has ls 3 [(0, .int x), (1, .int x2), (2, .int x3)] := hl
  refine lv_iload_n hx hb dX11_westerly_0 rfl (lv_at hl 0 rfl) ?_
  refine lv_iload_n hx hb dX11_westerly_1 rfl (lv_at hl 1 rfl) ?_
  refine lv_iload_n hx hb dX11_westerly_2 rfl (lv_at hl 2 rfl) ?_
  have hs1 : kw_Split [] [] [] [] [] := ⟨rfl, rfl, rfl, rfl, rfl, by decide⟩
  refine kw_go_i hs1 hP hD hS hA (va_runS (As := [.int x, .int x2, .int x3]) (rest := []) ⟨hx, hb, hml, hown, hts⟩ (gr_plainly l D y x x2 x3  _) (va_cwS 3 hts gX11_westerly_X11_plainly rfl rfl rfl (by decide +kernel) ⟨Nat.le_of_ble_eq_true rfl, Nat.le_of_ble_eq_true rfl⟩) (kw_PreS hs1 hP hD hK hN) rfl rfl hl.1 rfl (lv_room (Nat.le_of_ble_eq_true rfl)) dX11_westerly_3 ⟨Nat.le_of_ble_eq_true rfl, Nat.le_of_ble_eq_true rfl⟩) (fun r2 u3 H locs hq hP hD hS => ?_)
  have hP : va_P D vwCl [] H := hP
  have hD : va_D A [] := hD
  refine lv_iload_n hx hb dX11_westerly_6 rfl (lv_at hl 1 rfl) ?_
  refine lv_bipush (v := 6) hx hb dX11_westerly_7 (by decide) ?_
  refine lv_icmp_lt (tgt := 21) hx hb dX11_westerly_9 (by decide) (fun h4 => ?_) (fun h5 => ?_)
  · skip
    refine lv_iconst (v := 0) hx hb dX11_westerly_21 (by decide) ?_
    refine lv_iadd hx hb dX11_westerly_22 ?_
    exact W.iret (v := (r2 + 0)) hx hb hr (fun tZ ht hW => ⟨⟨(r2 + 0), (), rfl, trivial, by rw [ht]; exact hP.sub [] rfl, hD.sub [] (by decide) rfl⟩, hS.F ht⟩) hS.2.2 dX11_westerly_23
  · skip
    refine lv_iload_n hx hb dX11_westerly_12 rfl (lv_at hl 0 rfl) ?_
    refine lv_iconst (v := 1) hx hb dX11_westerly_13 (by decide) ?_
    refine lv_icmp_lt (tgt := 21) hx hb dX11_westerly_14 (by decide) (fun h6 => ?_) (fun h7 => ?_)
    · skip
      refine lv_iconst (v := 0) hx hb dX11_westerly_21 (by decide) ?_
      refine lv_iadd hx hb dX11_westerly_22 ?_
      exact W.iret (v := (r2 + 0)) hx hb hr (fun tZ ht hW => ⟨⟨(r2 + 0), (), rfl, trivial, by rw [ht]; exact hP.sub [] rfl, hD.sub [] (by decide) rfl⟩, hS.F ht⟩) hS.2.2 dX11_westerly_23
    · skip
      refine lv_iload_n hx hb dX11_westerly_17 rfl (lv_at hl 1 rfl) ?_
      refine lv_goto (tgt := 22) hx hb dX11_westerly_18 (by decide) ?_
      refine lv_iadd hx hb dX11_westerly_22 ?_
      exact W.iret (v := (r2 + x2)) hx hb hr (fun tZ ht hW => ⟨⟨(r2 + x2), (), rfl, trivial, by rw [ht]; exact hP.sub [] rfl, hD.sub [] (by decide) rfl⟩, hS.F ht⟩) hS.2.2 dX11_westerly_23

set_option maxHeartbeats 4000000 in
set_option maxRecDepth 100000 in
theorem gr_seenAs (l : Launch) (D : va_G) (y : Nat → ClassId) (x : Int32) (x2 : Int32) (x3 : Int32) (x4 : Int32)  : kw_Mi l yX11_seenAs wsX11_seenAs ({ frames := 3, cells := 0, slots := 0, locals := 105 }) D y [.int x, .int x2, .int x3, .int x4] [] (fun (r : Int32) (u : Unit) => True) (fun _ => []) 0 0 := by
  refine kw_Mi.of (cc := cX11_seenAs) (maxL := 5) (ret := (some .int)) (by decide) rfl ?_
  intro pZ eZ s mZ beZ meZ cZ A hE
  obtain ⟨hx, hb, hr, hml, hts, hown, hlocks, hin, hA, hP, hD, hK, hN⟩ := hE
  have hS : va_S A s.heap s.heap [] := va_S.rf
  have hl := lv_entry ([.int x, .int x2, .int x3, .int x4]) (n := 5) (Nat.le_of_ble_eq_true rfl)
  rw [lg_entry_eq]
  generalize (lg_sl ([.int x, .int x2, .int x3, .int x4]) ++ List.replicate (5 - (lg_sl ([.int x, .int x2, .int x3, .int x4])).length) Slot.unset).toArray = ls at hl ⊢
  have hl : lv_has ls 5 [(0, .int x), (1, .int x2), (2, .int x3), (3, .int x4)] := hl
  refine lv_iload_n hx hb dX11_seenAs_0 rfl (lv_at hl 1 rfl) ?_
  refine lv_iload_n hx hb dX11_seenAs_1 rfl (lv_at hl 2 rfl) ?_
  refine lv_iload_n hx hb dX11_seenAs_2 rfl (lv_at hl 3 rfl) ?_
  have hs1 : kw_Split [] [] [] [] [] := ⟨rfl, rfl, rfl, rfl, rfl, by decide⟩
  refine kw_go_i hs1 hP hD hS hA (va_runS (As := [.int x2, .int x3, .int x4]) (rest := []) ⟨hx, hb, hml, hown, hts⟩ (gr_plainly l D y x2 x3 x4  _) (va_cwS 3 hts gX11_seenAs_X11_plainly rfl rfl rfl (by decide +kernel) ⟨Nat.le_of_ble_eq_true rfl, Nat.le_of_ble_eq_true rfl⟩) (kw_PreS hs1 hP hD hK hN) rfl rfl hl.1 rfl (lv_room (Nat.le_of_ble_eq_true rfl)) dX11_seenAs_3 ⟨Nat.le_of_ble_eq_true rfl, Nat.le_of_ble_eq_true rfl⟩) (fun r2 u3 H locs hq hP hD hS => ?_)
  have hP : va_P D vwCl [] H := hP
  have hD : va_D A [] := hD
  refine lv_istore (lv' := [(4, .int r2), (0, .int x), (1, .int x2), (2, .int x3), (3, .int x4)]) hx hb dX11_seenAs_6 hl (by decide) rfl (fun ls hl => ?_)
  refine lv_iload_n hx hb dX11_seenAs_8 rfl (lv_at hl 1 rfl) ?_
  by_cases h4 : x = 1
  · skip
    subst h4
    refine lv_tableIn (off := 35) (tgt := 44) hx hb dX11_seenAs_9 (by decide) (by decide) (by decide +kernel) (by decide) ?_
    refine lv_iload_n hx hb dX11_seenAs_44 rfl (lv_at hl 2 rfl) ?_
    refine lv_iload_n hx hb dX11_seenAs_45 rfl (lv_at hl 3 rfl) ?_
    refine lv_iload_n hx hb dX11_seenAs_46 rfl (lv_at hl 4 rfl) ?_
    have hs5 : kw_Split [] [] [] [] [] := ⟨rfl, rfl, rfl, rfl, rfl, by decide⟩
    refine kw_go_i hs5 hP hD hS hA (va_runS (As := [.int x2, .int x3, .int x4]) (rest := []) ⟨hx, hb, hml, hown, hts⟩ (gr_westerly l D y x2 x3 x4  _) (va_cwS 3 hts gX11_seenAs_X11_westerly rfl rfl rfl (by decide +kernel) ⟨Nat.le_of_ble_eq_true rfl, Nat.le_of_ble_eq_true rfl⟩) (kw_PreS hs5 hP hD hK hN) rfl rfl hl.1 rfl (lv_room (Nat.le_of_ble_eq_true rfl)) dX11_seenAs_47 ⟨Nat.le_of_ble_eq_true rfl, Nat.le_of_ble_eq_true rfl⟩) (fun r6 u7 H locs hq hP hD hS => ?_)
    have hP : va_P D vwCl [] H := hP
    have hD : va_D A [] := hD
    exact W.iret (v := r6) hx hb hr (fun tZ ht hW => ⟨⟨r6, (), rfl, trivial, by rw [ht]; exact hP.sub [] rfl, hD.sub [] (by decide) rfl⟩, hS.F ht⟩) hS.2.2 dX11_seenAs_50
  by_cases h8 : x = 2
  · skip
    subst h8
    refine lv_tableIn (off := 42) (tgt := 51) hx hb dX11_seenAs_9 (by decide) (by decide) (by decide +kernel) (by decide) ?_
    refine lv_iload hx hb dX11_seenAs_51 (lv_at hl 0 rfl) ?_
    refine lv_iconst (v := 2) hx hb dX11_seenAs_53 (by decide) ?_
    refine lv_idiv hx hb dX11_seenAs_54 (by decide) ?_
    exact W.iret (v := (r2 / 2)) hx hb hr (fun tZ ht hW => ⟨⟨(r2 / 2), (), rfl, trivial, by rw [ht]; exact hP.sub [] rfl, hD.sub [] (by decide) rfl⟩, hS.F ht⟩) hS.2.2 dX11_seenAs_55
  by_cases h9 : x = 3
  · skip
    subst h9
    refine lv_tableIn (off := 47) (tgt := 56) hx hb dX11_seenAs_9 (by decide) (by decide) (by decide +kernel) (by decide) ?_
    refine lv_iload hx hb dX11_seenAs_56 (lv_at hl 0 rfl) ?_
    refine lv_iload_n hx hb dX11_seenAs_58 rfl (lv_at hl 4 rfl) ?_
    refine lv_iadd hx hb dX11_seenAs_59 ?_
    refine lv_iload_n hx hb dX11_seenAs_60 rfl (lv_at hl 2 rfl) ?_
    refine lv_icmp_ge (tgt := 71) hx hb dX11_seenAs_61 (by decide) (fun h10 => ?_) (fun h11 => ?_)
    · skip
      refine lv_iload_n hx hb dX11_seenAs_71 rfl (lv_at hl 2 rfl) ?_
      exact W.iret (v := x2) hx hb hr (fun tZ ht hW => ⟨⟨x2, (), rfl, trivial, by rw [ht]; exact hP.sub [] rfl, hD.sub [] (by decide) rfl⟩, hS.F ht⟩) hS.2.2 dX11_seenAs_72
    · skip
      refine lv_iload hx hb dX11_seenAs_64 (lv_at hl 0 rfl) ?_
      refine lv_iload_n hx hb dX11_seenAs_66 rfl (lv_at hl 4 rfl) ?_
      refine lv_iadd hx hb dX11_seenAs_67 ?_
      refine lv_goto (tgt := 72) hx hb dX11_seenAs_68 (by decide) ?_
      exact W.iret (v := (r2 + x4)) hx hb hr (fun tZ ht hW => ⟨⟨(r2 + x4), (), rfl, trivial, by rw [ht]; exact hP.sub [] rfl, hD.sub [] (by decide) rfl⟩, hS.F ht⟩) hS.2.2 dX11_seenAs_72
  by_cases h12 : x = 4
  · skip
    subst h12
    refine lv_tableIn (off := 64) (tgt := 73) hx hb dX11_seenAs_9 (by decide) (by decide) (by decide +kernel) (by decide) ?_
    refine lv_iload_n hx hb dX11_seenAs_73 rfl (lv_at hl 2 rfl) ?_
    refine lv_iload_n hx hb dX11_seenAs_74 rfl (lv_at hl 3 rfl) ?_
    refine lv_iload_n hx hb dX11_seenAs_75 rfl (lv_at hl 4 rfl) ?_
    refine lv_iconst (v := 3) hx hb dX11_seenAs_76 (by decide) ?_
    refine lv_icmp_ge (tgt := 84) hx hb dX11_seenAs_77 (by decide) (fun h13 => ?_) (fun h14 => ?_)
    · skip
      refine lv_iload_n hx hb dX11_seenAs_84 rfl (lv_at hl 4 rfl) ?_
      refine lv_iconst (v := 3) hx hb dX11_seenAs_85 (by decide) ?_
      refine lv_isub hx hb dX11_seenAs_86 ?_
      have hs15 : kw_Split [] [] [] [] [] := ⟨rfl, rfl, rfl, rfl, rfl, by decide⟩
      refine kw_go_i hs15 hP hD hS hA (va_runS (As := [.int x2, .int x3, .int (x4 - 3)]) (rest := []) ⟨hx, hb, hml, hown, hts⟩ (gr_westerly l D y x2 x3 (x4 - 3)  _) (va_cwS 3 hts gX11_seenAs_X11_westerly rfl rfl rfl (by decide +kernel) ⟨Nat.le_of_ble_eq_true rfl, Nat.le_of_ble_eq_true rfl⟩) (kw_PreS hs15 hP hD hK hN) rfl rfl hl.1 rfl (lv_room (Nat.le_of_ble_eq_true rfl)) dX11_seenAs_87 ⟨Nat.le_of_ble_eq_true rfl, Nat.le_of_ble_eq_true rfl⟩) (fun r16 u17 H locs hq hP hD hS => ?_)
      have hP : va_P D vwCl [] H := hP
      have hD : va_D A [] := hD
      exact W.iret (v := r16) hx hb hr (fun tZ ht hW => ⟨⟨r16, (), rfl, trivial, by rw [ht]; exact hP.sub [] rfl, hD.sub [] (by decide) rfl⟩, hS.F ht⟩) hS.2.2 dX11_seenAs_90
    · skip
      refine lv_iconst (v := 0) hx hb dX11_seenAs_80 (by decide) ?_
      refine lv_goto (tgt := 87) hx hb dX11_seenAs_81 (by decide) ?_
      have hs18 : kw_Split [] [] [] [] [] := ⟨rfl, rfl, rfl, rfl, rfl, by decide⟩
      refine kw_go_i hs18 hP hD hS hA (va_runS (As := [.int x2, .int x3, .int 0]) (rest := []) ⟨hx, hb, hml, hown, hts⟩ (gr_westerly l D y x2 x3 0  _) (va_cwS 3 hts gX11_seenAs_X11_westerly rfl rfl rfl (by decide +kernel) ⟨Nat.le_of_ble_eq_true rfl, Nat.le_of_ble_eq_true rfl⟩) (kw_PreS hs18 hP hD hK hN) rfl rfl hl.1 rfl (lv_room (Nat.le_of_ble_eq_true rfl)) dX11_seenAs_87 ⟨Nat.le_of_ble_eq_true rfl, Nat.le_of_ble_eq_true rfl⟩) (fun r19 u20 H locs hq hP hD hS => ?_)
      have hP : va_P D vwCl [] H := hP
      have hD : va_D A [] := hD
      exact W.iret (v := r19) hx hb hr (fun tZ ht hW => ⟨⟨r19, (), rfl, trivial, by rw [ht]; exact hP.sub [] rfl, hD.sub [] (by decide) rfl⟩, hS.F ht⟩) hS.2.2 dX11_seenAs_90
  by_cases h21 : x = 5
  · skip
    subst h21
    refine lv_tableIn (off := 82) (tgt := 91) hx hb dX11_seenAs_9 (by decide) (by decide) (by decide +kernel) (by decide) ?_
    refine lv_iload_n hx hb dX11_seenAs_91 rfl (lv_at hl 3 rfl) ?_
    refine lv_bipush (v := 8) hx hb dX11_seenAs_92 (by decide) ?_
    refine lv_icmp_lt (tgt := 101) hx hb dX11_seenAs_94 (by decide) (fun h22 => ?_) (fun h23 => ?_)
    · skip
      refine lv_iload hx hb dX11_seenAs_101 (lv_at hl 0 rfl) ?_
      refine lv_iconst (v := 2) hx hb dX11_seenAs_103 (by decide) ?_
      refine lv_idiv hx hb dX11_seenAs_104 (by decide) ?_
      exact W.iret (v := (r2 / 2)) hx hb hr (fun tZ ht hW => ⟨⟨(r2 / 2), (), rfl, trivial, by rw [ht]; exact hP.sub [] rfl, hD.sub [] (by decide) rfl⟩, hS.F ht⟩) hS.2.2 dX11_seenAs_105
    · skip
      refine lv_iconst (v := 0) hx hb dX11_seenAs_97 (by decide) ?_
      refine lv_goto (tgt := 105) hx hb dX11_seenAs_98 (by decide) ?_
      exact W.iret (v := 0) hx hb hr (fun tZ ht hW => ⟨⟨0, (), rfl, trivial, by rw [ht]; exact hP.sub [] rfl, hD.sub [] (by decide) rfl⟩, hS.F ht⟩) hS.2.2 dX11_seenAs_105
  refine lv_tableOut (tgt := 106) hx hb dX11_seenAs_9 (kr_out1_5 h4 h8 h9 h12 h21) (by decide) ?_
  refine lv_iload hx hb dX11_seenAs_106 (lv_at hl 0 rfl) ?_
  exact W.iret (v := r2) hx hb hr (fun tZ ht hW => ⟨⟨r2, (), rfl, trivial, by rw [ht]; exact hP.sub [] rfl, hD.sub [] (by decide) rfl⟩, hS.F ht⟩) hS.2.2 dX11_seenAs_108

set_option maxHeartbeats 4000000 in
set_option maxRecDepth 100000 in
theorem gr_layHand (l : Launch) (D : va_G) (y : Nat → ClassId) (mo : Nat) (to : Nat) (ke : Nat) (ik : Nat) (mrf : Nat) (ha : Nat) (r0 : Nat) (mbr : Nat) (mbp : Nat) (mby : Nat) (an : Nat) (va : Nat) (mab : Int64) (mbl : Int64) (bl : Nat) (ta : Nat) (tl : Nat) (tk : Nat) (vv : Int32) (ft : Nat → Int32) (fi : Nat) (gl : Nat) (mi : Nat) (no : Nat) (un : Nat) (fh : Nat → Int32) (hk0_ : ft 0 = (nI fi)) (hk1_ : ft 1 = (nI gl)) (hk2_ : ft 2 = (nI mi)) (hk3_ : ft 3 = (nI no)) (hk4_ : ft 4 = (nI un)) (hkt : kr_t 228 ft) (hfi : fi ≤ 6) (hgl : gl ≤ 5) (hmi : mi ≤ 4) (hno : no ≤ 6) (hun : un ≤ 8) (hkh : kr_t 30 fh) : kw_Mv l yX11_layHand wsX11_layHand ({ frames := 1, cells := 0, slots := 0, locals := 60 }) D y [.ref mo] [(mo, .inr (11, [.ref to, .ref ke, .ref ik, .ref mrf, .long mab, .long mbl, .ref ha, .ref r0, .ref mbr, .ref mbp, .ref mby, .int (nI bl), .int (nI ta), .int (nI tl), .int (nI tk), .int vv, .ref an, .ref va])), (to, .inl (y 0, 228, .inl ft)), (ha, .inl (y 0, 30, .inl fh))] (fun (u : Unit) => kr_t 30 (kr_cp fh ft 30)) (fun _ => [(mo, .inr (11, [.ref to, .ref ke, .ref ik, .ref mrf, .long mab, .long mbl, .ref ha, .ref r0, .ref mbr, .ref mbp, .ref mby, .int (nI bl), .int (nI ta), .int (nI tl), .int (nI tk), .int vv, .ref an, .ref va])), (to, .inl (y 0, 228, .inl ft)), (ha, .inl (y 0, 30, .inl (kr_cp fh ft 30)))]) 0 0 := by
  refine kw_Mv.of (cc := cX11_layHand) (maxL := 2) (ret := none) (by decide) rfl ?_
  intro pZ eZ s mZ beZ meZ cZ A hE
  obtain ⟨hx, hb, hr, hml, hts, hown, hlocks, hin, hA, hP, hD, hK, hN⟩ := hE
  have hS : va_S A s.heap s.heap [] := va_S.rf
  have hl := lv_entry ([.ref mo]) (n := 2) (Nat.le_of_ble_eq_true rfl)
  rw [lg_entry_eq]
  generalize (lg_sl ([.ref mo]) ++ List.replicate (2 - (lg_sl ([.ref mo])).length) Slot.unset).toArray = ls at hl ⊢
  have hl : lv_has ls 2 [(0, .ref mo)] := hl
  have fw1 := hts (.fieldLink RX11 27 "GleanDuskModel" "hand" "[I") (List.mem_of_getElem? (i := 1) rfl)
  have fw2 := hts (.fieldLink RX11 7 "GleanDuskModel" "told" "[I") (List.mem_of_getElem? (i := 2) rfl)
  have iw11 : ∀ w ∈ wsX110, w ∈ wsX11_layHand := fun _ h => List.mem_cons_of_mem _ (List.mem_append_right _ h)
  refine lv_iconst (v := 0) hx hb dX11_layHand_0 (by decide) ?_
  refine lv_istore_n (lv' := [(1, .int 0), (0, .ref mo)]) hx hb dX11_layHand_1 rfl hl (by decide) rfl (fun ls hl => ?_)
  have lp8 : ∀ (fuj91 j91 : Nat) (x4 : Nat → Int32) (H : Heap) (locs : List Loc) (ls : Array Slot), j91 ≤ 30 → 30 - j91 < fuj91 → kr_t 30 x4 → x4 = kr_cp fh ft j91 → va_P D vwCl [(mo, .inr (11, [.ref to, .ref ke, .ref ik, .ref mrf, .long mab, .long mbl, .ref ha, .ref r0, .ref mbr, .ref mbp, .ref mby, .int (nI bl), .int (nI ta), .int (nI tl), .int (nI tk), .int vv, .ref an, .ref va])), (to, .inl (y 0, 228, .inl ft)), (ha, .inl (y 0, 30, .inl x4))] H → va_D A [(mo, .inr (11, [.ref to, .ref ke, .ref ik, .ref mrf, .long mab, .long mbl, .ref ha, .ref r0, .ref mbr, .ref mbp, .ref mby, .int (nI bl), .int (nI ta), .int (nI tl), .int (nI tk), .int vv, .ref an, .ref va])), (to, .inl (y 0, 228, .inl ft)), (ha, .inl (y 0, 30, .inl x4))] → va_S A s.heap H locs → lv_has ls 2 [(1, .int (nI j91)), (0, .ref mo)] → W pZ l eZ ({ frames := 1, cells := 0, slots := 0, locals := 60 }) s mZ [.ref mo].toArray beZ meZ cZ H locs 0 0 (MQ beZ (va_Qv (fun (u : Unit) => kr_t 30 (kr_cp fh ft 30)) (kw_B D (fun _ => [(mo, .inr (11, [.ref to, .ref ke, .ref ik, .ref mrf, .long mab, .long mbl, .ref ha, .ref r0, .ref mbr, .ref mbp, .ref mby, .int (nI bl), .int (nI ta), .int (nI tl), .int (nI tk), .int vv, .ref an, .ref va])), (to, .inl (y 0, 228, .inl ft)), (ha, .inl (y 0, 30, .inl (kr_cp fh ft 30)))]) A) A) [.ref mo].toArray s 0 0 A) (F0 mZ 2 ls []) := by
    intro fuj91
    induction fuj91 with
    | zero => intro j91 x4 H locs ls hj9 hf9; exact absurd hf9 (Nat.not_lt_zero _)
    | succ fuj91 ihj91 =>
      intro j91 x4 H locs ls hj91 hfj91 hr_x4 hI0_j91 hP hD hS hl
      refine lv_iload_n hx hb dX11_layHand_2 rfl (lv_at hl 0 rfl) ?_
      refine lv_bipush (v := 30) hx hb dX11_layHand_3 (by decide) ?_
      refine lv_icmp_ge (tgt := 26) hx hb dX11_layHand_5 (by decide) (fun h9 => ?_) (fun h10 => ?_)
      · skip
        have h9 : 30 ≤ j91 := (nI_leI (a := 30) (b := j91) (by omega) (by omega)).mp h9
        obtain rfl : j91 = 30 := by omega
        subst hI0_j91
        have hP : va_P D vwCl [(mo, .inr (11, [.ref to, .ref ke, .ref ik, .ref mrf, .long mab, .long mbl, .ref ha, .ref r0, .ref mbr, .ref mbp, .ref mby, .int (nI bl), .int (nI ta), .int (nI tl), .int (nI tk), .int vv, .ref an, .ref va])), (to, .inl (y 0, 228, .inl ft)), (ha, .inl (y 0, 30, .inl (kr_cp fh ft 30)))] H := hP
        have hD : va_D A [(mo, .inr (11, [.ref to, .ref ke, .ref ik, .ref mrf, .long mab, .long mbl, .ref ha, .ref r0, .ref mbr, .ref mbp, .ref mby, .int (nI bl), .int (nI ta), .int (nI tl), .int (nI tk), .int vv, .ref an, .ref va])), (to, .inl (y 0, 228, .inl ft)), (ha, .inl (y 0, 30, .inl (kr_cp fh ft 30)))] := hD
        exact W.vret hx hb hr (fun tZ ht hW => ⟨⟨(), rfl, hr_x4, by rw [ht]; exact hP.sub [0, 1, 2] rfl, hD.sub [0, 1, 2] (by decide) rfl⟩, hS.F ht⟩) hS.2.2 dX11_layHand_26
      · skip
        have h10 : ¬ 30 ≤ j91 := fun q9 => h10 ((nI_leI (a := 30) (b := j91) (by omega) (by omega)).mpr q9)
        refine lv_aload_n hx hb dX11_layHand_8 rfl (lv_at hl 1 rfl) ?_
        refine va_get (D := D) (ci := 11) (v := .ref ha) (C := RX11) (T := TX11) (N := 18) hx hb hts iw11 hown hK hP 0 rfl rfl 6 (by decide) fw1 (fun _ h9 => h9) rfl dX11_layHand_9 ?_
        refine lv_iload_n hx hb dX11_layHand_12 rfl (lv_at hl 0 rfl) ?_
        refine lv_aload_n hx hb dX11_layHand_13 rfl (lv_at hl 1 rfl) ?_
        refine va_get (D := D) (ci := 11) (v := .ref to) (C := RX11) (T := TX11) (N := 18) hx hb hts iw11 hown hK hP 0 rfl rfl 0 (by decide) fw2 (fun _ h9 => h9) rfl dX11_layHand_14 ?_
        refine lv_iload_n hx hb dX11_layHand_17 rfl (lv_at hl 0 rfl) ?_
        refine va_iald hx hb hK hP 1 0 rfl rfl (vp_in_nI (by omega) (by decide)) dX11_layHand_18 ?_
        rw [nI_clamp (n := j91) (by omega)]
        refine va_iast hx hb hK hP hD hS 2 0 rfl rfl (vp_in_nI (by omega) (by decide)) dX11_layHand_19 (fun H locs hP hD hS => ?_)
        rw [nI_clamp (n := j91) (by omega)] at hP hD
        have hr11 : kr_t 30 (upd x4 j91 (ft j91)) := kr_up hr_x4 (kr_move (p := j91) (hkt j91 (by omega)) (by unfold kr_a; omega) (by unfold kr_s; omega))
        have hP : va_P D vwCl [(mo, .inr (11, [.ref to, .ref ke, .ref ik, .ref mrf, .long mab, .long mbl, .ref ha, .ref r0, .ref mbr, .ref mbp, .ref mby, .int (nI bl), .int (nI ta), .int (nI tl), .int (nI tk), .int vv, .ref an, .ref va])), (to, .inl (y 0, 228, .inl ft)), (ha, .inl (y 0, 30, .inl (upd x4 j91 (ft j91))))] H := hP
        have hD : va_D A [(mo, .inr (11, [.ref to, .ref ke, .ref ik, .ref mrf, .long mab, .long mbl, .ref ha, .ref r0, .ref mbr, .ref mbp, .ref mby, .int (nI bl), .int (nI ta), .int (nI tl), .int (nI tk), .int vv, .ref an, .ref va])), (to, .inl (y 0, 228, .inl ft)), (ha, .inl (y 0, 30, .inl (upd x4 j91 (ft j91))))] := hD
        refine lv_iinc (v := (nI (j91 + 1))) (lv' := [(1, .int (nI (j91 + 1))), (0, .ref mo)]) hx hb dX11_layHand_20 hl (k := 0) rfl (nI_1 j91) (by decide) rfl (fun ls hl => ?_)
        refine lv_goto (tgt := 2) hx hb dX11_layHand_23 (by decide) ?_
        exact ihj91 (j91 + 1) (upd x4 j91 (ft j91)) H locs ls (by omega) (by omega) hr11 (by rw [hI0_j91]; exact kr_cpS) (hP.sub [0, 1, 2] rfl) (hD.sub [0, 1, 2] (by decide) rfl) hS (lv_sub hl [0, 1] rfl)
  exact lp8 (30 + 1) 0 fh _ _ _ (by omega) (by omega) hkh kr_cp0 hP hD hS (lv_sub hl [0, 1] rfl)

set_option maxHeartbeats 4000000 in
set_option maxRecDepth 100000 in
theorem gr_seenOn228 (l : Launch) (D : va_G) (y : Nat → ClassId) (to : Nat) (ft : Nat → Int32) (fi : Nat) (gl : Nat) (mi : Nat) (no : Nat) (un : Nat) (k : Nat) (t : Int32) (hk0_ : ft 0 = (nI fi)) (hk1_ : ft 1 = (nI gl)) (hk2_ : ft 2 = (nI mi)) (hk3_ : ft 3 = (nI no)) (hk4_ : ft 4 = (nI un)) (hkt : kr_t 228 ft) (hfi : fi ≤ 6) (hgl : gl ≤ 5) (hmi : mi ≤ 4) (hno : no ≤ 6) (hun : un ≤ 8) (hA1 : k < 6) : kw_Mi l yX11_seenOn wsX11_seenOn ({ frames := 4, cells := 0, slots := 0, locals := 129 }) D y [.ref to, .int (nI k), .int t] [(to, .inl (y 0, 228, .inl ft))] (fun (r : Int32) (u : Unit) => True) (fun _ => [(to, .inl (y 0, 228, .inl ft))]) 0 0 := by
  refine kw_Mi.of (cc := cX11_seenOn) (maxL := 3) (ret := (some .int)) (by decide) rfl ?_
  intro pZ eZ s mZ beZ meZ cZ A hE
  obtain ⟨hx, hb, hr, hml, hts, hown, hlocks, hin, hA, hP, hD, hK, hN⟩ := hE
  have hS : va_S A s.heap s.heap [] := va_S.rf
  have hl := lv_entry ([.ref to, .int (nI k), .int t]) (n := 3) (Nat.le_of_ble_eq_true rfl)
  rw [lg_entry_eq]
  generalize (lg_sl ([.ref to, .int (nI k), .int t]) ++ List.replicate (3 - (lg_sl ([.ref to, .int (nI k), .int t])).length) Slot.unset).toArray = ls at hl ⊢
  have hl : lv_has ls 3 [(0, .ref to), (1, .int (nI k)), (2, .int t)] := hl
  refine lv_iload_n hx hb dX11_seenOn_0 rfl (lv_at hl 2 rfl) ?_
  refine lv_bipush (v := 12) hx hb dX11_seenOn_1 (by decide) ?_
  refine lv_icmp_lt (tgt := 10) hx hb dX11_seenOn_3 (by decide) (fun h1 => ?_) (fun h2 => ?_)
  · skip
    refine lv_aload_n hx hb dX11_seenOn_10 rfl (lv_at hl 0 rfl) ?_
    refine lv_bipush (v := 24) hx hb dX11_seenOn_11 (by decide) ?_
    refine lv_iload_n hx hb dX11_seenOn_13 rfl (lv_at hl 1 rfl) ?_
    refine lv_iadd hx hb dX11_seenOn_14 ?_
    rw [show 24 + (nI k) = nI (k + 24) from (nI_add 24 k).trans (congrArg nI (by omega))]
    refine va_iald hx hb hK hP 0 0 rfl rfl (vp_in_nI (by omega) (by decide)) dX11_seenOn_15 ?_
    rw [nI_clamp (n := (k + 24)) (by omega)]
    refine lv_aload_n hx hb dX11_seenOn_16 rfl (lv_at hl 0 rfl) ?_
    refine lv_iconst (v := 5) hx hb dX11_seenOn_17 (by decide) ?_
    refine lv_iload_n hx hb dX11_seenOn_18 rfl (lv_at hl 1 rfl) ?_
    refine lv_iadd hx hb dX11_seenOn_19 ?_
    rw [show 5 + (nI k) = nI (k + 5) from (nI_add 5 k).trans (congrArg nI (by omega))]
    refine va_iald hx hb hK hP 0 0 rfl rfl (vp_in_nI (by omega) (by decide)) dX11_seenOn_20 ?_
    rw [nI_clamp (n := (k + 5)) (by omega)]
    refine lv_iload_n hx hb dX11_seenOn_21 rfl (lv_at hl 2 rfl) ?_
    refine lv_aload_n hx hb dX11_seenOn_22 rfl (lv_at hl 0 rfl) ?_
    refine lv_bipush (v := 22) hx hb dX11_seenOn_23 (by decide) ?_
    refine va_iald hx hb hK hP 0 0 rfl rfl (by unfold vp_in; decide) dX11_seenOn_25 ?_
    rw [show ((22 : Int32)).toNatClampNeg = 22 from rfl]
    have hs3 : kw_Split [(to, .inl (y 0, 228, .inl ft))] [] [(to, .inl (y 0, 228, .inl ft))] [] [0] := ⟨rfl, rfl, rfl, rfl, rfl, by decide⟩
    refine kw_go_i hs3 hP hD hS hA (va_runS (As := [.int (ft (k + 24)), .int (ft (k + 5)), .int t, .int (ft 22)]) (rest := []) ⟨hx, hb, hml, hown, hts⟩ (gr_seenAs l D y (ft (k + 24)) (ft (k + 5)) t (ft 22)  _) (va_cwS 4 hts gX11_seenOn_X11_seenAs rfl rfl rfl (by decide +kernel) ⟨Nat.le_of_ble_eq_true rfl, Nat.le_of_ble_eq_true rfl⟩) (kw_PreS hs3 hP hD hK hN) rfl rfl hl.1 rfl (lv_room (Nat.le_of_ble_eq_true rfl)) dX11_seenOn_26 ⟨Nat.le_of_ble_eq_true rfl, Nat.le_of_ble_eq_true rfl⟩) (fun r4 u5 H locs hq hP hD hS => ?_)
    have hP : va_P D vwCl [(to, .inl (y 0, 228, .inl ft))] H := hP
    have hD : va_D A [(to, .inl (y 0, 228, .inl ft))] := hD
    exact W.iret (v := r4) hx hb hr (fun tZ ht hW => ⟨⟨r4, (), rfl, trivial, by rw [ht]; exact hP.sub [0] rfl, hD.sub [0] (by decide) rfl⟩, hS.F ht⟩) hS.2.2 dX11_seenOn_29
  · skip
    refine lv_iconst (v := 0) hx hb dX11_seenOn_6 (by decide) ?_
    refine lv_goto (tgt := 29) hx hb dX11_seenOn_7 (by decide) ?_
    exact W.iret (v := 0) hx hb hr (fun tZ ht hW => ⟨⟨0, (), rfl, trivial, by rw [ht]; exact hP.sub [0] rfl, hD.sub [0] (by decide) rfl⟩, hS.F ht⟩) hS.2.2 dX11_seenOn_29

set_option maxHeartbeats 4000000 in
set_option maxRecDepth 100000 in
theorem gr_manyOn228 (l : Launch) (D : va_G) (y : Nat → ClassId) (to : Nat) (ft : Nat → Int32) (fi : Nat) (gl : Nat) (mi : Nat) (no : Nat) (un : Nat) (x : Int32) (hk0_ : ft 0 = (nI fi)) (hk1_ : ft 1 = (nI gl)) (hk2_ : ft 2 = (nI mi)) (hk3_ : ft 3 = (nI no)) (hk4_ : ft 4 = (nI un)) (hkt : kr_t 228 ft) (hfi : fi ≤ 6) (hgl : gl ≤ 5) (hmi : mi ≤ 4) (hno : no ≤ 6) (hun : un ≤ 8) : kw_Mi l yX11_manyOn wsX11_manyOn ({ frames := 1, cells := 0, slots := 0, locals := 60 }) D y [.ref to, .int x] [(to, .inl (y 0, 228, .inl ft))] (fun (r : Int32) (u : Unit) => True) (fun _ => [(to, .inl (y 0, 228, .inl ft))]) 0 0 := by
  refine kw_Mi.of (cc := cX11_manyOn) (maxL := 4) (ret := (some .int)) (by decide) rfl ?_
  intro pZ eZ s mZ beZ meZ cZ A hE
  obtain ⟨hx, hb, hr, hml, hts, hown, hlocks, hin, hA, hP, hD, hK, hN⟩ := hE
  have hS : va_S A s.heap s.heap [] := va_S.rf
  have hl := lv_entry ([.ref to, .int x]) (n := 4) (Nat.le_of_ble_eq_true rfl)
  rw [lg_entry_eq]
  generalize (lg_sl ([.ref to, .int x]) ++ List.replicate (4 - (lg_sl ([.ref to, .int x])).length) Slot.unset).toArray = ls at hl ⊢
  have hl : lv_has ls 4 [(0, .ref to), (1, .int x)] := hl
  refine lv_iconst (v := 0) hx hb dX11_manyOn_0 (by decide) ?_
  refine lv_istore_n (lv' := [(2, .int 0), (0, .ref to), (1, .int x)]) hx hb dX11_manyOn_1 rfl hl (by decide) rfl (fun ls hl => ?_)
  refine lv_iconst (v := 0) hx hb dX11_manyOn_2 (by decide) ?_
  refine lv_istore_n (lv' := [(3, .int 0), (2, .int 0), (0, .ref to), (1, .int x)]) hx hb dX11_manyOn_3 rfl hl (by decide) rfl (fun ls hl => ?_)
  have lp18 : ∀ (fuj91 j91 : Nat) (x10 : Int32) (H : Heap) (locs : List Loc) (ls : Array Slot), j91 ≤ gl → gl - j91 < fuj91 → va_P D vwCl [(to, .inl (y 0, 228, .inl ft))] H → va_D A [(to, .inl (y 0, 228, .inl ft))] → va_S A s.heap H locs → lv_has ls 4 [(3, .int (nI j91)), (2, .int x10), (0, .ref to), (1, .int x)] → W pZ l eZ ({ frames := 1, cells := 0, slots := 0, locals := 60 }) s mZ [.ref to, .int x].toArray beZ meZ cZ H locs 0 0 (MQ beZ (va_Qi (fun (r : Int32) (u : Unit) => True) (kw_B D (fun _ => [(to, .inl (y 0, 228, .inl ft))]) A) A) [.ref to, .int x].toArray s 0 0 A) (F0 mZ 4 ls []) := by
    intro fuj91
    induction fuj91 with
    | zero => intro j91 x10 H locs ls hj9 hf9; exact absurd hf9 (Nat.not_lt_zero _)
    | succ fuj91 ihj91 =>
      intro j91 x10 H locs ls hj91 hfj91  hP hD hS hl
      refine lv_iload_n hx hb dX11_manyOn_4 rfl (lv_at hl 0 rfl) ?_
      refine lv_aload_n hx hb dX11_manyOn_5 rfl (lv_at hl 2 rfl) ?_
      refine lv_iconst (v := 1) hx hb dX11_manyOn_6 (by decide) ?_
      refine va_iald hx hb hK hP 0 0 rfl rfl (by unfold vp_in; decide) dX11_manyOn_7 ?_
      rw [show ((1 : Int32)).toNatClampNeg = 1 from rfl]
      rw [show (ft 1) = (nI gl) from hk1_]
      refine lv_icmp_ge (tgt := 35) hx hb dX11_manyOn_8 (by decide) (fun h19 => ?_) (fun h20 => ?_)
      · skip
        have h19 : gl ≤ j91 := (nI_leI (a := gl) (b := j91) (by omega) (by omega)).mp h19
        refine lv_iload_n hx hb dX11_manyOn_35 rfl (lv_at hl 1 rfl) ?_
        exact W.iret (v := x10) hx hb hr (fun tZ ht hW => ⟨⟨x10, (), rfl, trivial, by rw [ht]; exact hP.sub [0] rfl, hD.sub [0] (by decide) rfl⟩, hS.F ht⟩) hS.2.2 dX11_manyOn_36
      · skip
        have h20 : ¬ gl ≤ j91 := fun q9 => h20 ((nI_leI (a := gl) (b := j91) (by omega) (by omega)).mpr q9)
        refine lv_iload_n hx hb dX11_manyOn_11 rfl (lv_at hl 1 rfl) ?_
        refine lv_aload_n hx hb dX11_manyOn_12 rfl (lv_at hl 2 rfl) ?_
        refine lv_bipush (v := 11) hx hb dX11_manyOn_13 (by decide) ?_
        refine lv_iload_n hx hb dX11_manyOn_15 rfl (lv_at hl 0 rfl) ?_
        refine lv_iadd hx hb dX11_manyOn_16 ?_
        rw [show 11 + (nI j91) = nI (j91 + 11) from (nI_add 11 j91).trans (congrArg nI (by omega))]
        refine va_iald hx hb hK hP 0 0 rfl rfl (vp_in_nI (by omega) (by decide)) dX11_manyOn_17 ?_
        rw [nI_clamp (n := (j91 + 11)) (by omega)]
        obtain ⟨w21, h22, h23⟩ := kr_at hkt (p := (j91 + 11)) (by omega) (by unfold kr_a; omega)
        rw [h23]
        refine lv_iload_n hx hb dX11_manyOn_18 rfl (lv_at hl 3 rfl) ?_
        refine lv_icmp_ne (tgt := 26) hx hb dX11_manyOn_19 (by decide) (fun h24 => ?_) (fun h25 => ?_)
        · skip
          refine lv_iconst (v := 0) hx hb dX11_manyOn_26 (by decide) ?_
          refine lv_iadd hx hb dX11_manyOn_27 ?_
          refine lv_istore_n (lv' := [(2, .int (x10 + 0)), (3, .int (nI j91)), (0, .ref to), (1, .int x)]) hx hb dX11_manyOn_28 rfl hl (by decide) rfl (fun ls hl => ?_)
          refine lv_iinc (v := (nI (j91 + 1))) (lv' := [(3, .int (nI (j91 + 1))), (2, .int (x10 + 0)), (0, .ref to), (1, .int x)]) hx hb dX11_manyOn_29 hl (k := 1) rfl (nI_1 j91) (by decide) rfl (fun ls hl => ?_)
          refine lv_goto (tgt := 4) hx hb dX11_manyOn_32 (by decide) ?_
          exact ihj91 (j91 + 1) (x10 + 0) H locs ls (by omega) (by omega)  (hP.sub [0] rfl) (hD.sub [0] (by decide) rfl) hS (lv_sub hl [0, 1, 2, 3] rfl)
        · skip
          refine lv_iconst (v := 1) hx hb dX11_manyOn_22 (by decide) ?_
          refine lv_goto (tgt := 27) hx hb dX11_manyOn_23 (by decide) ?_
          refine lv_iadd hx hb dX11_manyOn_27 ?_
          refine lv_istore_n (lv' := [(2, .int (x10 + 1)), (3, .int (nI j91)), (0, .ref to), (1, .int x)]) hx hb dX11_manyOn_28 rfl hl (by decide) rfl (fun ls hl => ?_)
          refine lv_iinc (v := (nI (j91 + 1))) (lv' := [(3, .int (nI (j91 + 1))), (2, .int (x10 + 1)), (0, .ref to), (1, .int x)]) hx hb dX11_manyOn_29 hl (k := 1) rfl (nI_1 j91) (by decide) rfl (fun ls hl => ?_)
          refine lv_goto (tgt := 4) hx hb dX11_manyOn_32 (by decide) ?_
          exact ihj91 (j91 + 1) (x10 + 1) H locs ls (by omega) (by omega)  (hP.sub [0] rfl) (hD.sub [0] (by decide) rfl) hS (lv_sub hl [0, 1, 2, 3] rfl)
  exact lp18 (gl + 1) 0 0 _ _ _ (by omega) (by omega)  hP hD hS (lv_sub hl [0, 1, 2, 3] rfl)

set_option maxHeartbeats 4000000 in
set_option maxRecDepth 100000 in
theorem gr_seenOn30 (l : Launch) (D : va_G) (y : Nat → ClassId) (to : Nat) (ft : Nat → Int32) (fi : Nat) (gl : Nat) (k : Nat) (t : Int32) (hk0_ : ft 0 = (nI fi)) (hk1_ : ft 1 = (nI gl)) (hkt : kr_t 30 ft) (hfi : fi ≤ 6) (hgl : gl ≤ 5) (hA1 : k < 6) : kw_Mi l yX11_seenOn wsX11_seenOn ({ frames := 4, cells := 0, slots := 0, locals := 129 }) D y [.ref to, .int (nI k), .int t] [(to, .inl (y 0, 30, .inl ft))] (fun (r : Int32) (u : Unit) => True) (fun _ => [(to, .inl (y 0, 30, .inl ft))]) 0 0 := by
  refine kw_Mi.of (cc := cX11_seenOn) (maxL := 3) (ret := (some .int)) (by decide) rfl ?_
  intro pZ eZ s mZ beZ meZ cZ A hE
  obtain ⟨hx, hb, hr, hml, hts, hown, hlocks, hin, hA, hP, hD, hK, hN⟩ := hE
  have hS : va_S A s.heap s.heap [] := va_S.rf
  have hl := lv_entry ([.ref to, .int (nI k), .int t]) (n := 3) (Nat.le_of_ble_eq_true rfl)
  rw [lg_entry_eq]
  generalize (lg_sl ([.ref to, .int (nI k), .int t]) ++ List.replicate (3 - (lg_sl ([.ref to, .int (nI k), .int t])).length) Slot.unset).toArray = ls at hl ⊢
  have hl : lv_has ls 3 [(0, .ref to), (1, .int (nI k)), (2, .int t)] := hl
  refine lv_iload_n hx hb dX11_seenOn_0 rfl (lv_at hl 2 rfl) ?_
  refine lv_bipush (v := 12) hx hb dX11_seenOn_1 (by decide) ?_
  refine lv_icmp_lt (tgt := 10) hx hb dX11_seenOn_3 (by decide) (fun h1 => ?_) (fun h2 => ?_)
  · skip
    refine lv_aload_n hx hb dX11_seenOn_10 rfl (lv_at hl 0 rfl) ?_
    refine lv_bipush (v := 24) hx hb dX11_seenOn_11 (by decide) ?_
    refine lv_iload_n hx hb dX11_seenOn_13 rfl (lv_at hl 1 rfl) ?_
    refine lv_iadd hx hb dX11_seenOn_14 ?_
    rw [show 24 + (nI k) = nI (k + 24) from (nI_add 24 k).trans (congrArg nI (by omega))]
    refine va_iald hx hb hK hP 0 0 rfl rfl (vp_in_nI (by omega) (by decide)) dX11_seenOn_15 ?_
    rw [nI_clamp (n := (k + 24)) (by omega)]
    refine lv_aload_n hx hb dX11_seenOn_16 rfl (lv_at hl 0 rfl) ?_
    refine lv_iconst (v := 5) hx hb dX11_seenOn_17 (by decide) ?_
    refine lv_iload_n hx hb dX11_seenOn_18 rfl (lv_at hl 1 rfl) ?_
    refine lv_iadd hx hb dX11_seenOn_19 ?_
    rw [show 5 + (nI k) = nI (k + 5) from (nI_add 5 k).trans (congrArg nI (by omega))]
    refine va_iald hx hb hK hP 0 0 rfl rfl (vp_in_nI (by omega) (by decide)) dX11_seenOn_20 ?_
    rw [nI_clamp (n := (k + 5)) (by omega)]
    refine lv_iload_n hx hb dX11_seenOn_21 rfl (lv_at hl 2 rfl) ?_
    refine lv_aload_n hx hb dX11_seenOn_22 rfl (lv_at hl 0 rfl) ?_
    refine lv_bipush (v := 22) hx hb dX11_seenOn_23 (by decide) ?_
    refine va_iald hx hb hK hP 0 0 rfl rfl (by unfold vp_in; decide) dX11_seenOn_25 ?_
    rw [show ((22 : Int32)).toNatClampNeg = 22 from rfl]
    have hs3 : kw_Split [(to, .inl (y 0, 30, .inl ft))] [] [(to, .inl (y 0, 30, .inl ft))] [] [0] := ⟨rfl, rfl, rfl, rfl, rfl, by decide⟩
    refine kw_go_i hs3 hP hD hS hA (va_runS (As := [.int (ft (k + 24)), .int (ft (k + 5)), .int t, .int (ft 22)]) (rest := []) ⟨hx, hb, hml, hown, hts⟩ (gr_seenAs l D y (ft (k + 24)) (ft (k + 5)) t (ft 22)  _) (va_cwS 4 hts gX11_seenOn_X11_seenAs rfl rfl rfl (by decide +kernel) ⟨Nat.le_of_ble_eq_true rfl, Nat.le_of_ble_eq_true rfl⟩) (kw_PreS hs3 hP hD hK hN) rfl rfl hl.1 rfl (lv_room (Nat.le_of_ble_eq_true rfl)) dX11_seenOn_26 ⟨Nat.le_of_ble_eq_true rfl, Nat.le_of_ble_eq_true rfl⟩) (fun r4 u5 H locs hq hP hD hS => ?_)
    have hP : va_P D vwCl [(to, .inl (y 0, 30, .inl ft))] H := hP
    have hD : va_D A [(to, .inl (y 0, 30, .inl ft))] := hD
    exact W.iret (v := r4) hx hb hr (fun tZ ht hW => ⟨⟨r4, (), rfl, trivial, by rw [ht]; exact hP.sub [0] rfl, hD.sub [0] (by decide) rfl⟩, hS.F ht⟩) hS.2.2 dX11_seenOn_29
  · skip
    refine lv_iconst (v := 0) hx hb dX11_seenOn_6 (by decide) ?_
    refine lv_goto (tgt := 29) hx hb dX11_seenOn_7 (by decide) ?_
    exact W.iret (v := 0) hx hb hr (fun tZ ht hW => ⟨⟨0, (), rfl, trivial, by rw [ht]; exact hP.sub [0] rfl, hD.sub [0] (by decide) rfl⟩, hS.F ht⟩) hS.2.2 dX11_seenOn_29

set_option maxHeartbeats 4000000 in
set_option maxRecDepth 100000 in
theorem gr_manyOn30 (l : Launch) (D : va_G) (y : Nat → ClassId) (to : Nat) (ft : Nat → Int32) (fi : Nat) (gl : Nat) (x : Int32) (hk0_ : ft 0 = (nI fi)) (hk1_ : ft 1 = (nI gl)) (hkt : kr_t 30 ft) (hfi : fi ≤ 6) (hgl : gl ≤ 5) : kw_Mi l yX11_manyOn wsX11_manyOn ({ frames := 1, cells := 0, slots := 0, locals := 60 }) D y [.ref to, .int x] [(to, .inl (y 0, 30, .inl ft))] (fun (r : Int32) (u : Unit) => True) (fun _ => [(to, .inl (y 0, 30, .inl ft))]) 0 0 := by
  refine kw_Mi.of (cc := cX11_manyOn) (maxL := 4) (ret := (some .int)) (by decide) rfl ?_
  intro pZ eZ s mZ beZ meZ cZ A hE
  obtain ⟨hx, hb, hr, hml, hts, hown, hlocks, hin, hA, hP, hD, hK, hN⟩ := hE
  have hS : va_S A s.heap s.heap [] := va_S.rf
  have hl := lv_entry ([.ref to, .int x]) (n := 4) (Nat.le_of_ble_eq_true rfl)
  rw [lg_entry_eq]
  generalize (lg_sl ([.ref to, .int x]) ++ List.replicate (4 - (lg_sl ([.ref to, .int x])).length) Slot.unset).toArray = ls at hl ⊢
  have hl : lv_has ls 4 [(0, .ref to), (1, .int x)] := hl
  refine lv_iconst (v := 0) hx hb dX11_manyOn_0 (by decide) ?_
  refine lv_istore_n (lv' := [(2, .int 0), (0, .ref to), (1, .int x)]) hx hb dX11_manyOn_1 rfl hl (by decide) rfl (fun ls hl => ?_)
  refine lv_iconst (v := 0) hx hb dX11_manyOn_2 (by decide) ?_
  refine lv_istore_n (lv' := [(3, .int 0), (2, .int 0), (0, .ref to), (1, .int x)]) hx hb dX11_manyOn_3 rfl hl (by decide) rfl (fun ls hl => ?_)
  have lp18 : ∀ (fuj91 j91 : Nat) (x10 : Int32) (H : Heap) (locs : List Loc) (ls : Array Slot), j91 ≤ gl → gl - j91 < fuj91 → va_P D vwCl [(to, .inl (y 0, 30, .inl ft))] H → va_D A [(to, .inl (y 0, 30, .inl ft))] → va_S A s.heap H locs → lv_has ls 4 [(3, .int (nI j91)), (2, .int x10), (0, .ref to), (1, .int x)] → W pZ l eZ ({ frames := 1, cells := 0, slots := 0, locals := 60 }) s mZ [.ref to, .int x].toArray beZ meZ cZ H locs 0 0 (MQ beZ (va_Qi (fun (r : Int32) (u : Unit) => True) (kw_B D (fun _ => [(to, .inl (y 0, 30, .inl ft))]) A) A) [.ref to, .int x].toArray s 0 0 A) (F0 mZ 4 ls []) := by
    intro fuj91
    induction fuj91 with
    | zero => intro j91 x10 H locs ls hj9 hf9; exact absurd hf9 (Nat.not_lt_zero _)
    | succ fuj91 ihj91 =>
      intro j91 x10 H locs ls hj91 hfj91  hP hD hS hl
      refine lv_iload_n hx hb dX11_manyOn_4 rfl (lv_at hl 0 rfl) ?_
      refine lv_aload_n hx hb dX11_manyOn_5 rfl (lv_at hl 2 rfl) ?_
      refine lv_iconst (v := 1) hx hb dX11_manyOn_6 (by decide) ?_
      refine va_iald hx hb hK hP 0 0 rfl rfl (by unfold vp_in; decide) dX11_manyOn_7 ?_
      rw [show ((1 : Int32)).toNatClampNeg = 1 from rfl]
      rw [show (ft 1) = (nI gl) from hk1_]
      refine lv_icmp_ge (tgt := 35) hx hb dX11_manyOn_8 (by decide) (fun h19 => ?_) (fun h20 => ?_)
      · skip
        have h19 : gl ≤ j91 := (nI_leI (a := gl) (b := j91) (by omega) (by omega)).mp h19
        refine lv_iload_n hx hb dX11_manyOn_35 rfl (lv_at hl 1 rfl) ?_
        exact W.iret (v := x10) hx hb hr (fun tZ ht hW => ⟨⟨x10, (), rfl, trivial, by rw [ht]; exact hP.sub [0] rfl, hD.sub [0] (by decide) rfl⟩, hS.F ht⟩) hS.2.2 dX11_manyOn_36
      · skip
        have h20 : ¬ gl ≤ j91 := fun q9 => h20 ((nI_leI (a := gl) (b := j91) (by omega) (by omega)).mpr q9)
        refine lv_iload_n hx hb dX11_manyOn_11 rfl (lv_at hl 1 rfl) ?_
        refine lv_aload_n hx hb dX11_manyOn_12 rfl (lv_at hl 2 rfl) ?_
        refine lv_bipush (v := 11) hx hb dX11_manyOn_13 (by decide) ?_
        refine lv_iload_n hx hb dX11_manyOn_15 rfl (lv_at hl 0 rfl) ?_
        refine lv_iadd hx hb dX11_manyOn_16 ?_
        rw [show 11 + (nI j91) = nI (j91 + 11) from (nI_add 11 j91).trans (congrArg nI (by omega))]
        refine va_iald hx hb hK hP 0 0 rfl rfl (vp_in_nI (by omega) (by decide)) dX11_manyOn_17 ?_
        rw [nI_clamp (n := (j91 + 11)) (by omega)]
        obtain ⟨w21, h22, h23⟩ := kr_at hkt (p := (j91 + 11)) (by omega) (by unfold kr_a; omega)
        rw [h23]
        refine lv_iload_n hx hb dX11_manyOn_18 rfl (lv_at hl 3 rfl) ?_
        refine lv_icmp_ne (tgt := 26) hx hb dX11_manyOn_19 (by decide) (fun h24 => ?_) (fun h25 => ?_)
        · skip
          refine lv_iconst (v := 0) hx hb dX11_manyOn_26 (by decide) ?_
          refine lv_iadd hx hb dX11_manyOn_27 ?_
          refine lv_istore_n (lv' := [(2, .int (x10 + 0)), (3, .int (nI j91)), (0, .ref to), (1, .int x)]) hx hb dX11_manyOn_28 rfl hl (by decide) rfl (fun ls hl => ?_)
          refine lv_iinc (v := (nI (j91 + 1))) (lv' := [(3, .int (nI (j91 + 1))), (2, .int (x10 + 0)), (0, .ref to), (1, .int x)]) hx hb dX11_manyOn_29 hl (k := 1) rfl (nI_1 j91) (by decide) rfl (fun ls hl => ?_)
          refine lv_goto (tgt := 4) hx hb dX11_manyOn_32 (by decide) ?_
          exact ihj91 (j91 + 1) (x10 + 0) H locs ls (by omega) (by omega)  (hP.sub [0] rfl) (hD.sub [0] (by decide) rfl) hS (lv_sub hl [0, 1, 2, 3] rfl)
        · skip
          refine lv_iconst (v := 1) hx hb dX11_manyOn_22 (by decide) ?_
          refine lv_goto (tgt := 27) hx hb dX11_manyOn_23 (by decide) ?_
          refine lv_iadd hx hb dX11_manyOn_27 ?_
          refine lv_istore_n (lv' := [(2, .int (x10 + 1)), (3, .int (nI j91)), (0, .ref to), (1, .int x)]) hx hb dX11_manyOn_28 rfl hl (by decide) rfl (fun ls hl => ?_)
          refine lv_iinc (v := (nI (j91 + 1))) (lv' := [(3, .int (nI (j91 + 1))), (2, .int (x10 + 1)), (0, .ref to), (1, .int x)]) hx hb dX11_manyOn_29 hl (k := 1) rfl (nI_1 j91) (by decide) rfl (fun ls hl => ?_)
          refine lv_goto (tgt := 4) hx hb dX11_manyOn_32 (by decide) ?_
          exact ihj91 (j91 + 1) (x10 + 1) H locs ls (by omega) (by omega)  (hP.sub [0] rfl) (hD.sub [0] (by decide) rfl) hS (lv_sub hl [0, 1, 2, 3] rfl)
  exact lp18 (gl + 1) 0 0 _ _ _ (by omega) (by omega)  hP hD hS (lv_sub hl [0, 1, 2, 3] rfl)

set_option maxHeartbeats 4000000 in
set_option maxRecDepth 100000 in
theorem gr_seenOn76 (l : Launch) (D : va_G) (y : Nat → ClassId) (to : Nat) (ft : Nat → Int32) (fi : Nat) (gl : Nat) (mi : Nat) (no : Nat) (un : Nat) (k : Nat) (t : Int32) (hk0_ : ft 0 = (nI fi)) (hk1_ : ft 1 = (nI gl)) (hk2_ : ft 2 = (nI mi)) (hk3_ : ft 3 = (nI no)) (hk4_ : ft 4 = (nI un)) (hkt : kr_t 76 ft) (hfi : fi ≤ 6) (hgl : gl ≤ 5) (hmi : mi ≤ 4) (hno : no ≤ 6) (hun : un ≤ 8) (hA1 : k < 6) : kw_Mi l yX11_seenOn wsX11_seenOn ({ frames := 4, cells := 0, slots := 0, locals := 129 }) D y [.ref to, .int (nI k), .int t] [(to, .inl (y 0, 76, .inl ft))] (fun (r : Int32) (u : Unit) => True) (fun _ => [(to, .inl (y 0, 76, .inl ft))]) 0 0 := by
  refine kw_Mi.of (cc := cX11_seenOn) (maxL := 3) (ret := (some .int)) (by decide) rfl ?_
  intro pZ eZ s mZ beZ meZ cZ A hE
  obtain ⟨hx, hb, hr, hml, hts, hown, hlocks, hin, hA, hP, hD, hK, hN⟩ := hE
  have hS : va_S A s.heap s.heap [] := va_S.rf
  have hl := lv_entry ([.ref to, .int (nI k), .int t]) (n := 3) (Nat.le_of_ble_eq_true rfl)
  rw [lg_entry_eq]
  generalize (lg_sl ([.ref to, .int (nI k), .int t]) ++ List.replicate (3 - (lg_sl ([.ref to, .int (nI k), .int t])).length) Slot.unset).toArray = ls at hl ⊢
  have hl : lv_has ls 3 [(0, .ref to), (1, .int (nI k)), (2, .int t)] := hl
  refine lv_iload_n hx hb dX11_seenOn_0 rfl (lv_at hl 2 rfl) ?_
  refine lv_bipush (v := 12) hx hb dX11_seenOn_1 (by decide) ?_
  refine lv_icmp_lt (tgt := 10) hx hb dX11_seenOn_3 (by decide) (fun h1 => ?_) (fun h2 => ?_)
  · skip
    refine lv_aload_n hx hb dX11_seenOn_10 rfl (lv_at hl 0 rfl) ?_
    refine lv_bipush (v := 24) hx hb dX11_seenOn_11 (by decide) ?_
    refine lv_iload_n hx hb dX11_seenOn_13 rfl (lv_at hl 1 rfl) ?_
    refine lv_iadd hx hb dX11_seenOn_14 ?_
    rw [show 24 + (nI k) = nI (k + 24) from (nI_add 24 k).trans (congrArg nI (by omega))]
    refine va_iald hx hb hK hP 0 0 rfl rfl (vp_in_nI (by omega) (by decide)) dX11_seenOn_15 ?_
    rw [nI_clamp (n := (k + 24)) (by omega)]
    refine lv_aload_n hx hb dX11_seenOn_16 rfl (lv_at hl 0 rfl) ?_
    refine lv_iconst (v := 5) hx hb dX11_seenOn_17 (by decide) ?_
    refine lv_iload_n hx hb dX11_seenOn_18 rfl (lv_at hl 1 rfl) ?_
    refine lv_iadd hx hb dX11_seenOn_19 ?_
    rw [show 5 + (nI k) = nI (k + 5) from (nI_add 5 k).trans (congrArg nI (by omega))]
    refine va_iald hx hb hK hP 0 0 rfl rfl (vp_in_nI (by omega) (by decide)) dX11_seenOn_20 ?_
    rw [nI_clamp (n := (k + 5)) (by omega)]
    refine lv_iload_n hx hb dX11_seenOn_21 rfl (lv_at hl 2 rfl) ?_
    refine lv_aload_n hx hb dX11_seenOn_22 rfl (lv_at hl 0 rfl) ?_
    refine lv_bipush (v := 22) hx hb dX11_seenOn_23 (by decide) ?_
    refine va_iald hx hb hK hP 0 0 rfl rfl (by unfold vp_in; decide) dX11_seenOn_25 ?_
    rw [show ((22 : Int32)).toNatClampNeg = 22 from rfl]
    have hs3 : kw_Split [(to, .inl (y 0, 76, .inl ft))] [] [(to, .inl (y 0, 76, .inl ft))] [] [0] := ⟨rfl, rfl, rfl, rfl, rfl, by decide⟩
    refine kw_go_i hs3 hP hD hS hA (va_runS (As := [.int (ft (k + 24)), .int (ft (k + 5)), .int t, .int (ft 22)]) (rest := []) ⟨hx, hb, hml, hown, hts⟩ (gr_seenAs l D y (ft (k + 24)) (ft (k + 5)) t (ft 22)  _) (va_cwS 4 hts gX11_seenOn_X11_seenAs rfl rfl rfl (by decide +kernel) ⟨Nat.le_of_ble_eq_true rfl, Nat.le_of_ble_eq_true rfl⟩) (kw_PreS hs3 hP hD hK hN) rfl rfl hl.1 rfl (lv_room (Nat.le_of_ble_eq_true rfl)) dX11_seenOn_26 ⟨Nat.le_of_ble_eq_true rfl, Nat.le_of_ble_eq_true rfl⟩) (fun r4 u5 H locs hq hP hD hS => ?_)
    have hP : va_P D vwCl [(to, .inl (y 0, 76, .inl ft))] H := hP
    have hD : va_D A [(to, .inl (y 0, 76, .inl ft))] := hD
    exact W.iret (v := r4) hx hb hr (fun tZ ht hW => ⟨⟨r4, (), rfl, trivial, by rw [ht]; exact hP.sub [0] rfl, hD.sub [0] (by decide) rfl⟩, hS.F ht⟩) hS.2.2 dX11_seenOn_29
  · skip
    refine lv_iconst (v := 0) hx hb dX11_seenOn_6 (by decide) ?_
    refine lv_goto (tgt := 29) hx hb dX11_seenOn_7 (by decide) ?_
    exact W.iret (v := 0) hx hb hr (fun tZ ht hW => ⟨⟨0, (), rfl, trivial, by rw [ht]; exact hP.sub [0] rfl, hD.sub [0] (by decide) rfl⟩, hS.F ht⟩) hS.2.2 dX11_seenOn_29

set_option maxHeartbeats 4000000 in
set_option maxRecDepth 100000 in
theorem gr_manyOn76 (l : Launch) (D : va_G) (y : Nat → ClassId) (to : Nat) (ft : Nat → Int32) (fi : Nat) (gl : Nat) (mi : Nat) (no : Nat) (un : Nat) (x : Int32) (hk0_ : ft 0 = (nI fi)) (hk1_ : ft 1 = (nI gl)) (hk2_ : ft 2 = (nI mi)) (hk3_ : ft 3 = (nI no)) (hk4_ : ft 4 = (nI un)) (hkt : kr_t 76 ft) (hfi : fi ≤ 6) (hgl : gl ≤ 5) (hmi : mi ≤ 4) (hno : no ≤ 6) (hun : un ≤ 8) : kw_Mi l yX11_manyOn wsX11_manyOn ({ frames := 1, cells := 0, slots := 0, locals := 60 }) D y [.ref to, .int x] [(to, .inl (y 0, 76, .inl ft))] (fun (r : Int32) (u : Unit) => True) (fun _ => [(to, .inl (y 0, 76, .inl ft))]) 0 0 := by
  refine kw_Mi.of (cc := cX11_manyOn) (maxL := 4) (ret := (some .int)) (by decide) rfl ?_
  intro pZ eZ s mZ beZ meZ cZ A hE
  obtain ⟨hx, hb, hr, hml, hts, hown, hlocks, hin, hA, hP, hD, hK, hN⟩ := hE
  have hS : va_S A s.heap s.heap [] := va_S.rf
  have hl := lv_entry ([.ref to, .int x]) (n := 4) (Nat.le_of_ble_eq_true rfl)
  rw [lg_entry_eq]
  generalize (lg_sl ([.ref to, .int x]) ++ List.replicate (4 - (lg_sl ([.ref to, .int x])).length) Slot.unset).toArray = ls at hl ⊢
  have hl : lv_has ls 4 [(0, .ref to), (1, .int x)] := hl
  refine lv_iconst (v := 0) hx hb dX11_manyOn_0 (by decide) ?_
  refine lv_istore_n (lv' := [(2, .int 0), (0, .ref to), (1, .int x)]) hx hb dX11_manyOn_1 rfl hl (by decide) rfl (fun ls hl => ?_)
  refine lv_iconst (v := 0) hx hb dX11_manyOn_2 (by decide) ?_
  refine lv_istore_n (lv' := [(3, .int 0), (2, .int 0), (0, .ref to), (1, .int x)]) hx hb dX11_manyOn_3 rfl hl (by decide) rfl (fun ls hl => ?_)
  have lp18 : ∀ (fuj91 j91 : Nat) (x10 : Int32) (H : Heap) (locs : List Loc) (ls : Array Slot), j91 ≤ gl → gl - j91 < fuj91 → va_P D vwCl [(to, .inl (y 0, 76, .inl ft))] H → va_D A [(to, .inl (y 0, 76, .inl ft))] → va_S A s.heap H locs → lv_has ls 4 [(3, .int (nI j91)), (2, .int x10), (0, .ref to), (1, .int x)] → W pZ l eZ ({ frames := 1, cells := 0, slots := 0, locals := 60 }) s mZ [.ref to, .int x].toArray beZ meZ cZ H locs 0 0 (MQ beZ (va_Qi (fun (r : Int32) (u : Unit) => True) (kw_B D (fun _ => [(to, .inl (y 0, 76, .inl ft))]) A) A) [.ref to, .int x].toArray s 0 0 A) (F0 mZ 4 ls []) := by
    intro fuj91
    induction fuj91 with
    | zero => intro j91 x10 H locs ls hj9 hf9; exact absurd hf9 (Nat.not_lt_zero _)
    | succ fuj91 ihj91 =>
      intro j91 x10 H locs ls hj91 hfj91  hP hD hS hl
      refine lv_iload_n hx hb dX11_manyOn_4 rfl (lv_at hl 0 rfl) ?_
      refine lv_aload_n hx hb dX11_manyOn_5 rfl (lv_at hl 2 rfl) ?_
      refine lv_iconst (v := 1) hx hb dX11_manyOn_6 (by decide) ?_
      refine va_iald hx hb hK hP 0 0 rfl rfl (by unfold vp_in; decide) dX11_manyOn_7 ?_
      rw [show ((1 : Int32)).toNatClampNeg = 1 from rfl]
      rw [show (ft 1) = (nI gl) from hk1_]
      refine lv_icmp_ge (tgt := 35) hx hb dX11_manyOn_8 (by decide) (fun h19 => ?_) (fun h20 => ?_)
      · skip
        have h19 : gl ≤ j91 := (nI_leI (a := gl) (b := j91) (by omega) (by omega)).mp h19
        refine lv_iload_n hx hb dX11_manyOn_35 rfl (lv_at hl 1 rfl) ?_
        exact W.iret (v := x10) hx hb hr (fun tZ ht hW => ⟨⟨x10, (), rfl, trivial, by rw [ht]; exact hP.sub [0] rfl, hD.sub [0] (by decide) rfl⟩, hS.F ht⟩) hS.2.2 dX11_manyOn_36
      · skip
        have h20 : ¬ gl ≤ j91 := fun q9 => h20 ((nI_leI (a := gl) (b := j91) (by omega) (by omega)).mpr q9)
        refine lv_iload_n hx hb dX11_manyOn_11 rfl (lv_at hl 1 rfl) ?_
        refine lv_aload_n hx hb dX11_manyOn_12 rfl (lv_at hl 2 rfl) ?_
        refine lv_bipush (v := 11) hx hb dX11_manyOn_13 (by decide) ?_
        refine lv_iload_n hx hb dX11_manyOn_15 rfl (lv_at hl 0 rfl) ?_
        refine lv_iadd hx hb dX11_manyOn_16 ?_
        rw [show 11 + (nI j91) = nI (j91 + 11) from (nI_add 11 j91).trans (congrArg nI (by omega))]
        refine va_iald hx hb hK hP 0 0 rfl rfl (vp_in_nI (by omega) (by decide)) dX11_manyOn_17 ?_
        rw [nI_clamp (n := (j91 + 11)) (by omega)]
        obtain ⟨w21, h22, h23⟩ := kr_at hkt (p := (j91 + 11)) (by omega) (by unfold kr_a; omega)
        rw [h23]
        refine lv_iload_n hx hb dX11_manyOn_18 rfl (lv_at hl 3 rfl) ?_
        refine lv_icmp_ne (tgt := 26) hx hb dX11_manyOn_19 (by decide) (fun h24 => ?_) (fun h25 => ?_)
        · skip
          refine lv_iconst (v := 0) hx hb dX11_manyOn_26 (by decide) ?_
          refine lv_iadd hx hb dX11_manyOn_27 ?_
          refine lv_istore_n (lv' := [(2, .int (x10 + 0)), (3, .int (nI j91)), (0, .ref to), (1, .int x)]) hx hb dX11_manyOn_28 rfl hl (by decide) rfl (fun ls hl => ?_)
          refine lv_iinc (v := (nI (j91 + 1))) (lv' := [(3, .int (nI (j91 + 1))), (2, .int (x10 + 0)), (0, .ref to), (1, .int x)]) hx hb dX11_manyOn_29 hl (k := 1) rfl (nI_1 j91) (by decide) rfl (fun ls hl => ?_)
          refine lv_goto (tgt := 4) hx hb dX11_manyOn_32 (by decide) ?_
          exact ihj91 (j91 + 1) (x10 + 0) H locs ls (by omega) (by omega)  (hP.sub [0] rfl) (hD.sub [0] (by decide) rfl) hS (lv_sub hl [0, 1, 2, 3] rfl)
        · skip
          refine lv_iconst (v := 1) hx hb dX11_manyOn_22 (by decide) ?_
          refine lv_goto (tgt := 27) hx hb dX11_manyOn_23 (by decide) ?_
          refine lv_iadd hx hb dX11_manyOn_27 ?_
          refine lv_istore_n (lv' := [(2, .int (x10 + 1)), (3, .int (nI j91)), (0, .ref to), (1, .int x)]) hx hb dX11_manyOn_28 rfl hl (by decide) rfl (fun ls hl => ?_)
          refine lv_iinc (v := (nI (j91 + 1))) (lv' := [(3, .int (nI (j91 + 1))), (2, .int (x10 + 1)), (0, .ref to), (1, .int x)]) hx hb dX11_manyOn_29 hl (k := 1) rfl (nI_1 j91) (by decide) rfl (fun ls hl => ?_)
          refine lv_goto (tgt := 4) hx hb dX11_manyOn_32 (by decide) ?_
          exact ihj91 (j91 + 1) (x10 + 1) H locs ls (by omega) (by omega)  (hP.sub [0] rfl) (hD.sub [0] (by decide) rfl) hS (lv_sub hl [0, 1, 2, 3] rfl)
  exact lp18 (gl + 1) 0 0 _ _ _ (by omega) (by omega)  hP hD hS (lv_sub hl [0, 1, 2, 3] rfl)

set_option maxHeartbeats 4000000 in
set_option maxRecDepth 100000 in
theorem gr_fadedBy (l : Launch) (D : va_G) (y : Nat → ClassId) (x : Int32) (hA1 : x ≤ 999) : kw_Mi l yX11_fadedBy wsX11_fadedBy ({ frames := 1, cells := 0, slots := 0, locals := 60 }) D y [.int x] [] (fun (r : Int32) (u : Unit) => r ≤ 999 ∧ r = (x - ((x + 3) / 4))) (fun _ => []) 0 0 := by
  refine kw_Mi.of (cc := cX11_fadedBy) (maxL := 1) (ret := (some .int)) (by decide) rfl ?_
  intro pZ eZ s mZ beZ meZ cZ A hE
  obtain ⟨hx, hb, hr, hml, hts, hown, hlocks, hin, hA, hP, hD, hK, hN⟩ := hE
  have hS : va_S A s.heap s.heap [] := va_S.rf
  have hl := lv_entry ([.int x]) (n := 1) (Nat.le_of_ble_eq_true rfl)
  rw [lg_entry_eq]
  generalize (lg_sl ([.int x]) ++ List.replicate (1 - (lg_sl ([.int x])).length) Slot.unset).toArray = ls at hl ⊢
  have hl : lv_has ls 1 [(0, .int x)] := hl
  refine lv_iload_n hx hb dX11_fadedBy_0 rfl (lv_at hl 0 rfl) ?_
  refine lv_iload_n hx hb dX11_fadedBy_1 rfl (lv_at hl 0 rfl) ?_
  refine lv_iconst (v := 3) hx hb dX11_fadedBy_2 (by decide) ?_
  refine lv_iadd hx hb dX11_fadedBy_3 ?_
  refine lv_iconst (v := 4) hx hb dX11_fadedBy_4 (by decide) ?_
  refine lv_idiv hx hb dX11_fadedBy_5 (by decide) ?_
  refine lv_isub hx hb dX11_fadedBy_6 ?_
  exact W.iret (v := (x - ((x + 3) / 4))) hx hb hr (fun tZ ht hW => ⟨⟨(x - ((x + 3) / 4)), (), rfl, ⟨kr_faded hA1, rfl⟩, by rw [ht]; exact hP.sub [] rfl, hD.sub [] (by decide) rfl⟩, hS.F ht⟩) hS.2.2 dX11_fadedBy_7

set_option maxHeartbeats 4000000 in
set_option maxRecDepth 100000 in
theorem gr_goStep228 (l : Launch) (D : va_G) (y : Nat → ClassId) (to : Nat) (ft : Nat → Int32) (fi : Nat) (gl : Nat) (mi : Nat) (no : Nat) (un : Nat) (hk0_ : ft 0 = (nI fi)) (hk1_ : ft 1 = (nI gl)) (hk2_ : ft 2 = (nI mi)) (hk3_ : ft 3 = (nI no)) (hk4_ : ft 4 = (nI un)) (hkt : kr_t 228 ft) (hfi : fi ≤ 6) (hgl : gl ≤ 5) (hmi : mi ≤ 4) (hno : no ≤ 6) (hun : un ≤ 8) : kw_Mi l yX11_goStep wsX11_goStep ({ frames := 5, cells := 0, slots := 0, locals := 151 }) D y [.ref to] [(to, .inl (y 0, 228, .inl ft))] (fun (r : Int32) (u : (Nat → Int32)) => kr_t 228 u ∧ u 0 = (nI fi) ∧ u 1 = (nI gl) ∧ u 2 = (nI mi) ∧ u 3 = (nI no) ∧ u 4 = (nI un)) (fun u => [(to, .inl (y 0, 228, .inl u))]) 0 0 := by
  refine kw_Mi.of (cc := cX11_goStep) (maxL := 7) (ret := (some .int)) (by decide) rfl ?_
  intro pZ eZ s mZ beZ meZ cZ A hE
  obtain ⟨hx, hb, hr, hml, hts, hown, hlocks, hin, hA, hP, hD, hK, hN⟩ := hE
  have hS : va_S A s.heap s.heap [] := va_S.rf
  have hl := lv_entry ([.ref to]) (n := 7) (Nat.le_of_ble_eq_true rfl)
  rw [lg_entry_eq]
  generalize (lg_sl ([.ref to]) ++ List.replicate (7 - (lg_sl ([.ref to])).length) Slot.unset).toArray = ls at hl ⊢
  have hl : lv_has ls 7 [(0, .ref to)] := hl
  refine lv_iconst (v := 0) hx hb dX11_goStep_0 (by decide) ?_
  refine lv_istore_n (lv' := [(1, .int 0), (0, .ref to)]) hx hb dX11_goStep_1 rfl hl (by decide) rfl (fun ls hl => ?_)
  refine lv_iconst (v := 0) hx hb dX11_goStep_2 (by decide) ?_
  refine lv_istore_n (lv' := [(2, .int 0), (1, .int 0), (0, .ref to)]) hx hb dX11_goStep_3 rfl hl (by decide) rfl (fun ls hl => ?_)
  have lp559 : ∀ (fuj91 j91 : Nat) (x279 : Int32) (x280 : Nat → Int32) (H : Heap) (locs : List Loc) (ls : Array Slot), j91 ≤ fi → fi - j91 < fuj91 → kr_t 228 x280 → x280 0 = (nI fi) → x280 1 = (nI gl) → x280 2 = (nI mi) → x280 3 = (nI no) → x280 4 = (nI un) → va_P D vwCl [(to, .inl (y 0, 228, .inl x280))] H → va_D A [(to, .inl (y 0, 228, .inl x280))] → va_S A s.heap H locs → lv_has ls 7 [(2, .int (nI j91)), (1, .int x279), (0, .ref to)] → W pZ l eZ ({ frames := 5, cells := 0, slots := 0, locals := 151 }) s mZ [.ref to].toArray beZ meZ cZ H locs 0 0 (MQ beZ (va_Qi (fun (r : Int32) (u : (Nat → Int32)) => kr_t 228 u ∧ u 0 = (nI fi) ∧ u 1 = (nI gl) ∧ u 2 = (nI mi) ∧ u 3 = (nI no) ∧ u 4 = (nI un)) (kw_B D (fun u => [(to, .inl (y 0, 228, .inl u))]) A) A) [.ref to].toArray s 0 0 A) (F0 mZ 4 ls []) := by
    intro fuj91
    induction fuj91 with
    | zero => intro j91 x279 x280 H locs ls hj9 hf9; exact absurd hf9 (Nat.not_lt_zero _)
    | succ fuj91 ihj91 =>
      intro j91 x279 x280 H locs ls hj91 hfj91 hr_x280 hk_x280_0 hk_x280_1 hk_x280_2 hk_x280_3 hk_x280_4 hP hD hS hl
      refine lv_iload_n hx hb dX11_goStep_4 rfl (lv_at hl 0 rfl) ?_
      refine lv_aload_n hx hb dX11_goStep_5 rfl (lv_at hl 2 rfl) ?_
      refine lv_iconst (v := 0) hx hb dX11_goStep_6 (by decide) ?_
      refine va_iald hx hb hK hP 0 0 rfl rfl (by unfold vp_in; decide) dX11_goStep_7 ?_
      rw [show ((0 : Int32)).toNatClampNeg = 0 from rfl]
      rw [show (x280 0) = (nI fi) from hk_x280_0]
      refine lv_icmp_ge (tgt := 152) hx hb dX11_goStep_8 (by decide) (fun h560 => ?_) (fun h561 => ?_)
      · skip
        have h560 : fi ≤ j91 := (nI_leI (a := fi) (b := j91) (by omega) (by omega)).mp h560
        refine lv_aload_n hx hb dX11_goStep_152 rfl (lv_at hl 2 rfl) ?_
        refine lv_bipush (v := 21) hx hb dX11_goStep_153 (by decide) ?_
        refine lv_dup2_11 hx hb dX11_goStep_155 rfl rfl ?_
        refine va_iald hx hb hK hP 0 0 rfl rfl (by unfold vp_in; decide) dX11_goStep_156 ?_
        rw [show ((21 : Int32)).toNatClampNeg = 21 from rfl]
        refine lv_iconst (v := 1) hx hb dX11_goStep_157 (by decide) ?_
        refine lv_iadd hx hb dX11_goStep_158 ?_
        refine va_iast hx hb hK hP hD hS 0 0 rfl rfl (by unfold vp_in; decide) dX11_goStep_159 (fun H locs hP hD hS => ?_)
        rw [show ((21 : Int32)).toNatClampNeg = 21 from rfl] at hP hD
        have hr562 : kr_t 228 (upd x280 21 ((x280 21) + 1)) := kr_up hr_x280 (kr_free (by unfold kr_a; omega) (by unfold kr_s; omega))
        have hk563 : (upd x280 21 ((x280 21) + 1)) 0 = (nI fi) := (pk_un (by decide)).trans hk_x280_0
        have hk564 : (upd x280 21 ((x280 21) + 1)) 1 = (nI gl) := (pk_un (by decide)).trans hk_x280_1
        have hk565 : (upd x280 21 ((x280 21) + 1)) 2 = (nI mi) := (pk_un (by decide)).trans hk_x280_2
        have hk566 : (upd x280 21 ((x280 21) + 1)) 3 = (nI no) := (pk_un (by decide)).trans hk_x280_3
        have hk567 : (upd x280 21 ((x280 21) + 1)) 4 = (nI un) := (pk_un (by decide)).trans hk_x280_4
        have hP : va_P D vwCl [(to, .inl (y 0, 228, .inl (upd x280 21 ((x280 21) + 1))))] H := hP
        have hD : va_D A [(to, .inl (y 0, 228, .inl (upd x280 21 ((x280 21) + 1))))] := hD
        refine lv_iload_n hx hb dX11_goStep_160 rfl (lv_at hl 1 rfl) ?_
        exact W.iret (v := x279) hx hb hr (fun tZ ht hW => ⟨⟨x279, ((upd x280 21 ((x280 21) + 1))), rfl, ⟨hr562, hk563, hk564, hk565, hk566, hk567⟩, by rw [ht]; exact hP.sub [0] rfl, hD.sub [0] (by decide) rfl⟩, hS.F ht⟩) hS.2.2 dX11_goStep_161
      · skip
        have h561 : ¬ fi ≤ j91 := fun q9 => h561 ((nI_leI (a := fi) (b := j91) (by omega) (by omega)).mpr q9)
        refine lv_aload_n hx hb dX11_goStep_11 rfl (lv_at hl 2 rfl) ?_
        refine lv_iload_n hx hb dX11_goStep_12 rfl (lv_at hl 0 rfl) ?_
        have hs568 : kw_Split [(to, .inl (y 0, 228, .inl x280))] [(to, .inl (y 0, 228, .inl x280))] [] [0] [] := ⟨rfl, rfl, rfl, rfl, rfl, by decide⟩
        refine kw_go_i hs568 hP hD hS hA (va_runS (As := [.ref to, .int (nI j91)]) (rest := []) ⟨hx, hb, hml, hown, hts⟩ (gr_manyOn228 l D y to x280 fi gl mi no un (nI j91) hk_x280_0 hk_x280_1 hk_x280_2 hk_x280_3 hk_x280_4 hr_x280 hfi hgl hmi hno hun _) (va_cwS 2 hts gX11_goStep_X11_manyOn rfl rfl rfl (by decide +kernel) ⟨Nat.le_of_ble_eq_true rfl, Nat.le_of_ble_eq_true rfl⟩) (kw_PreS hs568 hP hD hK hN) rfl rfl hl.1 rfl (lv_room (Nat.le_of_ble_eq_true rfl)) dX11_goStep_13 ⟨Nat.le_of_ble_eq_true rfl, Nat.le_of_ble_eq_true rfl⟩) (fun r569 u570 H locs hq hP hD hS => ?_)
        have hP : va_P D vwCl [(to, .inl (y 0, 228, .inl x280))] H := hP
        have hD : va_D A [(to, .inl (y 0, 228, .inl x280))] := hD
        refine lv_istore_n (lv' := [(3, .int r569), (2, .int (nI j91)), (1, .int x279), (0, .ref to)]) hx hb dX11_goStep_16 rfl hl (by decide) rfl (fun ls hl => ?_)
        refine lv_iload_n hx hb dX11_goStep_17 rfl (lv_at hl 0 rfl) ?_
        refine lv_if_ne (tgt := 25) hx hb dX11_goStep_18 (by decide) (fun h571 => ?_) (fun h572 => ?_)
        · skip
          refine lv_aload_n hx hb dX11_goStep_25 rfl (lv_at hl 3 rfl) ?_
          refine lv_iload_n hx hb dX11_goStep_26 rfl (lv_at hl 1 rfl) ?_
          refine lv_aload_n hx hb dX11_goStep_27 rfl (lv_at hl 3 rfl) ?_
          refine lv_bipush (v := 21) hx hb dX11_goStep_28 (by decide) ?_
          refine va_iald hx hb hK hP 0 0 rfl rfl (by unfold vp_in; decide) dX11_goStep_30 ?_
          rw [show ((21 : Int32)).toNatClampNeg = 21 from rfl]
          have hs573 : kw_Split [(to, .inl (y 0, 228, .inl x280))] [(to, .inl (y 0, 228, .inl x280))] [] [0] [] := ⟨rfl, rfl, rfl, rfl, rfl, by decide⟩
          refine kw_go_i hs573 hP hD hS hA (va_runS (As := [.ref to, .int (nI j91), .int (x280 21)]) (rest := []) ⟨hx, hb, hml, hown, hts⟩ (gr_seenOn228 l D y to x280 fi gl mi no un j91 (x280 21) hk_x280_0 hk_x280_1 hk_x280_2 hk_x280_3 hk_x280_4 hr_x280 hfi hgl hmi hno hun (by omega) _) (va_cwS 3 hts gX11_goStep_X11_seenOn rfl rfl rfl (by decide +kernel) ⟨Nat.le_of_ble_eq_true rfl, Nat.le_of_ble_eq_true rfl⟩) (kw_PreS hs573 hP hD hK hN) rfl rfl hl.1 rfl (lv_room (Nat.le_of_ble_eq_true rfl)) dX11_goStep_31 ⟨Nat.le_of_ble_eq_true rfl, Nat.le_of_ble_eq_true rfl⟩) (fun r574 u575 H locs hq hP hD hS => ?_)
          have hP : va_P D vwCl [(to, .inl (y 0, 228, .inl x280))] H := hP
          have hD : va_D A [(to, .inl (y 0, 228, .inl x280))] := hD
          refine lv_iload_n hx hb dX11_goStep_34 rfl (lv_at hl 0 rfl) ?_
          refine lv_idiv hx hb dX11_goStep_35 (h571) ?_
          refine lv_istore (lv' := [(4, .int (r574 / r569)), (3, .int r569), (2, .int (nI j91)), (1, .int x279), (0, .ref to)]) hx hb dX11_goStep_36 hl (by decide) rfl (fun ls hl => ?_)
          refine lv_iconst (v := 0) hx hb dX11_goStep_38 (by decide) ?_
          refine lv_istore (lv' := [(5, .int 0), (4, .int (r574 / r569)), (3, .int r569), (2, .int (nI j91)), (1, .int x279), (0, .ref to)]) hx hb dX11_goStep_39 hl (by decide) rfl (fun ls hl => ?_)
          have lp663 : ∀ (fuj92 j92 : Nat) (x619 : Nat → Int32) (H : Heap) (locs : List Loc) (ls : Array Slot), j92 ≤ gl → gl - j92 < fuj92 → kr_t 228 x619 → x619 0 = (nI fi) → x619 1 = (nI gl) → x619 2 = (nI mi) → x619 3 = (nI no) → x619 4 = (nI un) → va_P D vwCl [(to, .inl (y 0, 228, .inl x619))] H → va_D A [(to, .inl (y 0, 228, .inl x619))] → va_S A s.heap H locs → lv_has ls 7 [(5, .int (nI j92)), (4, .int (r574 / r569)), (3, .int r569), (2, .int (nI j91)), (1, .int x279), (0, .ref to)] → W pZ l eZ ({ frames := 5, cells := 0, slots := 0, locals := 151 }) s mZ [.ref to].toArray beZ meZ cZ H locs 0 0 (MQ beZ (va_Qi (fun (r : Int32) (u : (Nat → Int32)) => kr_t 228 u ∧ u 0 = (nI fi) ∧ u 1 = (nI gl) ∧ u 2 = (nI mi) ∧ u 3 = (nI no) ∧ u 4 = (nI un)) (kw_B D (fun u => [(to, .inl (y 0, 228, .inl u))]) A) A) [.ref to].toArray s 0 0 A) (F0 mZ 41 ls []) := by
            intro fuj92
            induction fuj92 with
            | zero => intro j92 x619 H locs ls hj9 hf9; exact absurd hf9 (Nat.not_lt_zero _)
            | succ fuj92 ihj92 =>
              intro j92 x619 H locs ls hj92 hfj92 hr_x619 hk_x619_0 hk_x619_1 hk_x619_2 hk_x619_3 hk_x619_4 hP hD hS hl
              refine lv_iload hx hb dX11_goStep_41 (lv_at hl 0 rfl) ?_
              refine lv_aload_n hx hb dX11_goStep_43 rfl (lv_at hl 5 rfl) ?_
              refine lv_iconst (v := 1) hx hb dX11_goStep_44 (by decide) ?_
              refine va_iald hx hb hK hP 0 0 rfl rfl (by unfold vp_in; decide) dX11_goStep_45 ?_
              rw [show ((1 : Int32)).toNatClampNeg = 1 from rfl]
              rw [show (x619 1) = (nI gl) from hk_x619_1]
              refine lv_icmp_ge (tgt := 111) hx hb dX11_goStep_46 (by decide) (fun h664 => ?_) (fun h665 => ?_)
              · skip
                have h664 : gl ≤ j92 := (nI_leI (a := gl) (b := j92) (by omega) (by omega)).mp h664
                refine lv_aload_n hx hb dX11_goStep_111 rfl (lv_at hl 5 rfl) ?_
                refine lv_iconst (v := 5) hx hb dX11_goStep_112 (by decide) ?_
                refine lv_iload_n hx hb dX11_goStep_113 rfl (lv_at hl 3 rfl) ?_
                refine lv_iadd hx hb dX11_goStep_114 ?_
                rw [show 5 + (nI j91) = nI (j91 + 5) from (nI_add 5 j91).trans (congrArg nI (by omega))]
                refine va_iald hx hb hK hP 0 0 rfl rfl (vp_in_nI (by omega) (by decide)) dX11_goStep_115 ?_
                rw [nI_clamp (n := (j91 + 5)) (by omega)]
                refine lv_iload hx hb dX11_goStep_116 (lv_at hl 1 rfl) ?_
                refine lv_iload_n hx hb dX11_goStep_118 rfl (lv_at hl 2 rfl) ?_
                refine lv_imul hx hb dX11_goStep_119 ?_
                refine lv_isub hx hb dX11_goStep_120 ?_
                refine lv_istore (lv' := [(5, .int ((x619 (j91 + 5)) - ((r574 / r569) * r569))), (4, .int (r574 / r569)), (3, .int r569), (2, .int (nI j91)), (1, .int x279), (0, .ref to)]) hx hb dX11_goStep_121 hl (by decide) rfl (fun ls hl => ?_)
                refine lv_aload_n hx hb dX11_goStep_123 rfl (lv_at hl 5 rfl) ?_
                refine lv_iconst (v := 5) hx hb dX11_goStep_124 (by decide) ?_
                refine lv_iload_n hx hb dX11_goStep_125 rfl (lv_at hl 3 rfl) ?_
                refine lv_iadd hx hb dX11_goStep_126 ?_
                rw [show 5 + (nI j91) = nI (j91 + 5) from (nI_add 5 j91).trans (congrArg nI (by omega))]
                refine lv_iload hx hb dX11_goStep_127 (lv_at hl 0 rfl) ?_
                refine lv_if_ge (tgt := 136) hx hb dX11_goStep_129 (by decide) (fun h666 => ?_) (fun h667 => ?_)
                · skip
                  refine lv_iload hx hb dX11_goStep_136 (lv_at hl 0 rfl) ?_
                  refine va_iast hx hb hK hP hD hS 0 0 rfl rfl (vp_in_nI (by omega) (by decide)) dX11_goStep_138 (fun H locs hP hD hS => ?_)
                  rw [nI_clamp (n := (j91 + 5)) (by omega)] at hP hD
                  have hr668 : kr_t 228 (upd x619 (j91 + 5) ((x619 (j91 + 5)) - ((r574 / r569) * r569))) := kr_up hr_x619 (kr_free (by unfold kr_a; omega) (by unfold kr_s; omega))
                  have hk669 : (upd x619 (j91 + 5) ((x619 (j91 + 5)) - ((r574 / r569) * r569))) 0 = (nI fi) := (pk_un (by omega)).trans hk_x619_0
                  have hk670 : (upd x619 (j91 + 5) ((x619 (j91 + 5)) - ((r574 / r569) * r569))) 1 = (nI gl) := (pk_un (by omega)).trans hk_x619_1
                  have hk671 : (upd x619 (j91 + 5) ((x619 (j91 + 5)) - ((r574 / r569) * r569))) 2 = (nI mi) := (pk_un (by omega)).trans hk_x619_2
                  have hk672 : (upd x619 (j91 + 5) ((x619 (j91 + 5)) - ((r574 / r569) * r569))) 3 = (nI no) := (pk_un (by omega)).trans hk_x619_3
                  have hk673 : (upd x619 (j91 + 5) ((x619 (j91 + 5)) - ((r574 / r569) * r569))) 4 = (nI un) := (pk_un (by omega)).trans hk_x619_4
                  have hP : va_P D vwCl [(to, .inl (y 0, 228, .inl (upd x619 (j91 + 5) ((x619 (j91 + 5)) - ((r574 / r569) * r569)))))] H := hP
                  have hD : va_D A [(to, .inl (y 0, 228, .inl (upd x619 (j91 + 5) ((x619 (j91 + 5)) - ((r574 / r569) * r569)))))] := hD
                  refine lv_iload_n hx hb dX11_goStep_139 rfl (lv_at hl 4 rfl) ?_
                  refine lv_iload hx hb dX11_goStep_140 (lv_at hl 1 rfl) ?_
                  refine lv_iload_n hx hb dX11_goStep_142 rfl (lv_at hl 2 rfl) ?_
                  refine lv_imul hx hb dX11_goStep_143 ?_
                  refine lv_iadd hx hb dX11_goStep_144 ?_
                  refine lv_istore_n (lv' := [(1, .int (x279 + ((r574 / r569) * r569))), (5, .int ((x619 (j91 + 5)) - ((r574 / r569) * r569))), (4, .int (r574 / r569)), (3, .int r569), (2, .int (nI j91)), (0, .ref to)]) hx hb dX11_goStep_145 rfl hl (by decide) rfl (fun ls hl => ?_)
                  refine lv_iinc (v := (nI (j91 + 1))) (lv' := [(2, .int (nI (j91 + 1))), (1, .int (x279 + ((r574 / r569) * r569))), (5, .int ((x619 (j91 + 5)) - ((r574 / r569) * r569))), (4, .int (r574 / r569)), (3, .int r569), (0, .ref to)]) hx hb dX11_goStep_146 hl (k := 4) rfl (nI_1 j91) (by decide) rfl (fun ls hl => ?_)
                  refine lv_goto (tgt := 4) hx hb dX11_goStep_149 (by decide) ?_
                  exact ihj91 (j91 + 1) (x279 + ((r574 / r569) * r569)) (upd x619 (j91 + 5) ((x619 (j91 + 5)) - ((r574 / r569) * r569))) H locs ls (by omega) (by omega) hr668 hk669 hk670 hk671 hk672 hk673 (hP.sub [0] rfl) (hD.sub [0] (by decide) rfl) hS (lv_sub hl [0, 1, 5] rfl)
                · skip
                  refine lv_iconst (v := 0) hx hb dX11_goStep_132 (by decide) ?_
                  refine lv_goto (tgt := 138) hx hb dX11_goStep_133 (by decide) ?_
                  refine va_iast hx hb hK hP hD hS 0 0 rfl rfl (vp_in_nI (by omega) (by decide)) dX11_goStep_138 (fun H locs hP hD hS => ?_)
                  rw [nI_clamp (n := (j91 + 5)) (by omega)] at hP hD
                  have hr674 : kr_t 228 (upd x619 (j91 + 5) 0) := kr_up hr_x619 (kr_ok0)
                  have hk675 : (upd x619 (j91 + 5) 0) 0 = (nI fi) := (pk_un (by omega)).trans hk_x619_0
                  have hk676 : (upd x619 (j91 + 5) 0) 1 = (nI gl) := (pk_un (by omega)).trans hk_x619_1
                  have hk677 : (upd x619 (j91 + 5) 0) 2 = (nI mi) := (pk_un (by omega)).trans hk_x619_2
                  have hk678 : (upd x619 (j91 + 5) 0) 3 = (nI no) := (pk_un (by omega)).trans hk_x619_3
                  have hk679 : (upd x619 (j91 + 5) 0) 4 = (nI un) := (pk_un (by omega)).trans hk_x619_4
                  have hP : va_P D vwCl [(to, .inl (y 0, 228, .inl (upd x619 (j91 + 5) 0)))] H := hP
                  have hD : va_D A [(to, .inl (y 0, 228, .inl (upd x619 (j91 + 5) 0)))] := hD
                  refine lv_iload_n hx hb dX11_goStep_139 rfl (lv_at hl 4 rfl) ?_
                  refine lv_iload hx hb dX11_goStep_140 (lv_at hl 1 rfl) ?_
                  refine lv_iload_n hx hb dX11_goStep_142 rfl (lv_at hl 2 rfl) ?_
                  refine lv_imul hx hb dX11_goStep_143 ?_
                  refine lv_iadd hx hb dX11_goStep_144 ?_
                  refine lv_istore_n (lv' := [(1, .int (x279 + ((r574 / r569) * r569))), (5, .int ((x619 (j91 + 5)) - ((r574 / r569) * r569))), (4, .int (r574 / r569)), (3, .int r569), (2, .int (nI j91)), (0, .ref to)]) hx hb dX11_goStep_145 rfl hl (by decide) rfl (fun ls hl => ?_)
                  refine lv_iinc (v := (nI (j91 + 1))) (lv' := [(2, .int (nI (j91 + 1))), (1, .int (x279 + ((r574 / r569) * r569))), (5, .int ((x619 (j91 + 5)) - ((r574 / r569) * r569))), (4, .int (r574 / r569)), (3, .int r569), (0, .ref to)]) hx hb dX11_goStep_146 hl (k := 4) rfl (nI_1 j91) (by decide) rfl (fun ls hl => ?_)
                  refine lv_goto (tgt := 4) hx hb dX11_goStep_149 (by decide) ?_
                  exact ihj91 (j91 + 1) (x279 + ((r574 / r569) * r569)) (upd x619 (j91 + 5) 0) H locs ls (by omega) (by omega) hr674 hk675 hk676 hk677 hk678 hk679 (hP.sub [0] rfl) (hD.sub [0] (by decide) rfl) hS (lv_sub hl [0, 1, 5] rfl)
              · skip
                have h665 : ¬ gl ≤ j92 := fun q9 => h665 ((nI_leI (a := gl) (b := j92) (by omega) (by omega)).mpr q9)
                refine lv_aload_n hx hb dX11_goStep_49 rfl (lv_at hl 5 rfl) ?_
                refine lv_bipush (v := 11) hx hb dX11_goStep_50 (by decide) ?_
                refine lv_iload hx hb dX11_goStep_52 (lv_at hl 0 rfl) ?_
                refine lv_iadd hx hb dX11_goStep_54 ?_
                rw [show 11 + (nI j92) = nI (j92 + 11) from (nI_add 11 j92).trans (congrArg nI (by omega))]
                refine va_iald hx hb hK hP 0 0 rfl rfl (vp_in_nI (by omega) (by decide)) dX11_goStep_55 ?_
                rw [nI_clamp (n := (j92 + 11)) (by omega)]
                obtain ⟨w680, h681, h682⟩ := kr_at hr_x619 (p := (j92 + 11)) (by omega) (by unfold kr_a; omega)
                rw [h682]
                refine lv_iload_n hx hb dX11_goStep_56 rfl (lv_at hl 3 rfl) ?_
                refine lv_icmp_ne (tgt := 73) hx hb dX11_goStep_57 (by decide) (fun h683 => ?_) (fun h684 => ?_)
                · skip
                  have h683 : ¬ w680 = j91 := fun q9 => h683 ((nI_eq (a := w680) (b := j91) (by omega) (by omega)).mpr q9)
                  refine lv_aload_n hx hb dX11_goStep_73 rfl (lv_at hl 5 rfl) ?_
                  refine lv_bipush (v := 16) hx hb dX11_goStep_74 (by decide) ?_
                  refine lv_iload hx hb dX11_goStep_76 (lv_at hl 0 rfl) ?_
                  refine lv_iadd hx hb dX11_goStep_78 ?_
                  rw [show 16 + (nI j92) = nI (j92 + 16) from (nI_add 16 j92).trans (congrArg nI (by omega))]
                  refine va_iald hx hb hK hP 0 0 rfl rfl (vp_in_nI (by omega) (by decide)) dX11_goStep_79 ?_
                  rw [nI_clamp (n := (j92 + 16)) (by omega)]
                  refine lv_istore (lv' := [(6, .int (x619 (j92 + 16))), (5, .int (nI j92)), (4, .int (r574 / r569)), (3, .int r569), (2, .int (nI j91)), (1, .int x279), (0, .ref to)]) hx hb dX11_goStep_80 hl (by decide) rfl (fun ls hl => ?_)
                  refine lv_aload_n hx hb dX11_goStep_82 rfl (lv_at hl 6 rfl) ?_
                  refine lv_bipush (v := 16) hx hb dX11_goStep_83 (by decide) ?_
                  refine lv_iload hx hb dX11_goStep_85 (lv_at hl 1 rfl) ?_
                  refine lv_iadd hx hb dX11_goStep_87 ?_
                  rw [show 16 + (nI j92) = nI (j92 + 16) from (nI_add 16 j92).trans (congrArg nI (by omega))]
                  refine lv_iload hx hb dX11_goStep_88 (lv_at hl 0 rfl) ?_
                  refine lv_sipush (v := 999) hx hb dX11_goStep_90 (by decide) ?_
                  refine lv_icmp_le (tgt := 102) hx hb dX11_goStep_93 (by decide) (fun h685 => ?_) (fun h686 => ?_)
                  · skip
                    refine lv_iload hx hb dX11_goStep_102 (lv_at hl 0 rfl) ?_
                    refine va_iast hx hb hK hP hD hS 0 0 rfl rfl (vp_in_nI (by omega) (by decide)) dX11_goStep_104 (fun H locs hP hD hS => ?_)
                    rw [nI_clamp (n := (j92 + 16)) (by omega)] at hP hD
                    have hr687 : kr_t 228 (upd x619 (j92 + 16) (x619 (j92 + 16))) := kr_up hr_x619 (kr_move (p := (j92 + 16)) (hr_x619 (j92 + 16) (by omega)) (by unfold kr_a; omega) (by unfold kr_s; omega))
                    have hk688 : (upd x619 (j92 + 16) (x619 (j92 + 16))) 0 = (nI fi) := (pk_un (by omega)).trans hk_x619_0
                    have hk689 : (upd x619 (j92 + 16) (x619 (j92 + 16))) 1 = (nI gl) := (pk_un (by omega)).trans hk_x619_1
                    have hk690 : (upd x619 (j92 + 16) (x619 (j92 + 16))) 2 = (nI mi) := (pk_un (by omega)).trans hk_x619_2
                    have hk691 : (upd x619 (j92 + 16) (x619 (j92 + 16))) 3 = (nI no) := (pk_un (by omega)).trans hk_x619_3
                    have hk692 : (upd x619 (j92 + 16) (x619 (j92 + 16))) 4 = (nI un) := (pk_un (by omega)).trans hk_x619_4
                    have hP : va_P D vwCl [(to, .inl (y 0, 228, .inl (upd x619 (j92 + 16) (x619 (j92 + 16)))))] H := hP
                    have hD : va_D A [(to, .inl (y 0, 228, .inl (upd x619 (j92 + 16) (x619 (j92 + 16)))))] := hD
                    refine lv_iinc (v := (nI (j92 + 1))) (lv' := [(5, .int (nI (j92 + 1))), (6, .int (x619 (j92 + 16))), (4, .int (r574 / r569)), (3, .int r569), (2, .int (nI j91)), (1, .int x279), (0, .ref to)]) hx hb dX11_goStep_105 hl (k := 1) rfl (nI_1 j92) (by decide) rfl (fun ls hl => ?_)
                    refine lv_goto (tgt := 41) hx hb dX11_goStep_108 (by decide) ?_
                    exact ihj92 (j92 + 1) (upd x619 (j92 + 16) (x619 (j92 + 16))) H locs ls (by omega) (by omega) hr687 hk688 hk689 hk690 hk691 hk692 (hP.sub [0] rfl) (hD.sub [0] (by decide) rfl) hS (lv_sub hl [0, 2, 3, 4, 5, 6] rfl)
                  · skip
                    exact absurd ((hr_x619 (j92 + 16) (by omega)).2 (by unfold kr_s; omega)) h686
                · skip
                  have h684 : w680 = j91 := (nI_eq (a := w680) (b := j91) (by omega) (by omega)).mp h684
                  refine lv_aload_n hx hb dX11_goStep_60 rfl (lv_at hl 5 rfl) ?_
                  refine lv_bipush (v := 16) hx hb dX11_goStep_61 (by decide) ?_
                  refine lv_iload hx hb dX11_goStep_63 (lv_at hl 0 rfl) ?_
                  refine lv_iadd hx hb dX11_goStep_65 ?_
                  rw [show 16 + (nI j92) = nI (j92 + 16) from (nI_add 16 j92).trans (congrArg nI (by omega))]
                  refine va_iald hx hb hK hP 0 0 rfl rfl (vp_in_nI (by omega) (by decide)) dX11_goStep_66 ?_
                  rw [nI_clamp (n := (j92 + 16)) (by omega)]
                  refine lv_iload hx hb dX11_goStep_67 (lv_at hl 1 rfl) ?_
                  refine lv_iadd hx hb dX11_goStep_69 ?_
                  refine lv_goto (tgt := 80) hx hb dX11_goStep_70 (by decide) ?_
                  refine lv_istore (lv' := [(6, .int ((x619 (j92 + 16)) + (r574 / r569))), (5, .int (nI j92)), (4, .int (r574 / r569)), (3, .int r569), (2, .int (nI j91)), (1, .int x279), (0, .ref to)]) hx hb dX11_goStep_80 hl (by decide) rfl (fun ls hl => ?_)
                  refine lv_aload_n hx hb dX11_goStep_82 rfl (lv_at hl 6 rfl) ?_
                  refine lv_bipush (v := 16) hx hb dX11_goStep_83 (by decide) ?_
                  refine lv_iload hx hb dX11_goStep_85 (lv_at hl 1 rfl) ?_
                  refine lv_iadd hx hb dX11_goStep_87 ?_
                  rw [show 16 + (nI j92) = nI (j92 + 16) from (nI_add 16 j92).trans (congrArg nI (by omega))]
                  refine lv_iload hx hb dX11_goStep_88 (lv_at hl 0 rfl) ?_
                  refine lv_sipush (v := 999) hx hb dX11_goStep_90 (by decide) ?_
                  refine lv_icmp_le (tgt := 102) hx hb dX11_goStep_93 (by decide) (fun h693 => ?_) (fun h694 => ?_)
                  · skip
                    refine lv_iload hx hb dX11_goStep_102 (lv_at hl 0 rfl) ?_
                    refine va_iast hx hb hK hP hD hS 0 0 rfl rfl (vp_in_nI (by omega) (by decide)) dX11_goStep_104 (fun H locs hP hD hS => ?_)
                    rw [nI_clamp (n := (j92 + 16)) (by omega)] at hP hD
                    have hr695 : kr_t 228 (upd x619 (j92 + 16) ((x619 (j92 + 16)) + (r574 / r569))) := kr_up hr_x619 (kr_oks (by unfold kr_a; omega) (h693))
                    have hk696 : (upd x619 (j92 + 16) ((x619 (j92 + 16)) + (r574 / r569))) 0 = (nI fi) := (pk_un (by omega)).trans hk_x619_0
                    have hk697 : (upd x619 (j92 + 16) ((x619 (j92 + 16)) + (r574 / r569))) 1 = (nI gl) := (pk_un (by omega)).trans hk_x619_1
                    have hk698 : (upd x619 (j92 + 16) ((x619 (j92 + 16)) + (r574 / r569))) 2 = (nI mi) := (pk_un (by omega)).trans hk_x619_2
                    have hk699 : (upd x619 (j92 + 16) ((x619 (j92 + 16)) + (r574 / r569))) 3 = (nI no) := (pk_un (by omega)).trans hk_x619_3
                    have hk700 : (upd x619 (j92 + 16) ((x619 (j92 + 16)) + (r574 / r569))) 4 = (nI un) := (pk_un (by omega)).trans hk_x619_4
                    have hP : va_P D vwCl [(to, .inl (y 0, 228, .inl (upd x619 (j92 + 16) ((x619 (j92 + 16)) + (r574 / r569)))))] H := hP
                    have hD : va_D A [(to, .inl (y 0, 228, .inl (upd x619 (j92 + 16) ((x619 (j92 + 16)) + (r574 / r569)))))] := hD
                    refine lv_iinc (v := (nI (j92 + 1))) (lv' := [(5, .int (nI (j92 + 1))), (6, .int ((x619 (j92 + 16)) + (r574 / r569))), (4, .int (r574 / r569)), (3, .int r569), (2, .int (nI j91)), (1, .int x279), (0, .ref to)]) hx hb dX11_goStep_105 hl (k := 1) rfl (nI_1 j92) (by decide) rfl (fun ls hl => ?_)
                    refine lv_goto (tgt := 41) hx hb dX11_goStep_108 (by decide) ?_
                    exact ihj92 (j92 + 1) (upd x619 (j92 + 16) ((x619 (j92 + 16)) + (r574 / r569))) H locs ls (by omega) (by omega) hr695 hk696 hk697 hk698 hk699 hk700 (hP.sub [0] rfl) (hD.sub [0] (by decide) rfl) hS (lv_sub hl [0, 2, 3, 4, 5, 6] rfl)
                  · skip
                    refine lv_sipush (v := 999) hx hb dX11_goStep_96 (by decide) ?_
                    refine lv_goto (tgt := 104) hx hb dX11_goStep_99 (by decide) ?_
                    refine va_iast hx hb hK hP hD hS 0 0 rfl rfl (vp_in_nI (by omega) (by decide)) dX11_goStep_104 (fun H locs hP hD hS => ?_)
                    rw [nI_clamp (n := (j92 + 16)) (by omega)] at hP hD
                    have hr701 : kr_t 228 (upd x619 (j92 + 16) 999) := kr_up hr_x619 (kr_oks (by unfold kr_a; omega) (by decide))
                    have hk702 : (upd x619 (j92 + 16) 999) 0 = (nI fi) := (pk_un (by omega)).trans hk_x619_0
                    have hk703 : (upd x619 (j92 + 16) 999) 1 = (nI gl) := (pk_un (by omega)).trans hk_x619_1
                    have hk704 : (upd x619 (j92 + 16) 999) 2 = (nI mi) := (pk_un (by omega)).trans hk_x619_2
                    have hk705 : (upd x619 (j92 + 16) 999) 3 = (nI no) := (pk_un (by omega)).trans hk_x619_3
                    have hk706 : (upd x619 (j92 + 16) 999) 4 = (nI un) := (pk_un (by omega)).trans hk_x619_4
                    have hP : va_P D vwCl [(to, .inl (y 0, 228, .inl (upd x619 (j92 + 16) 999)))] H := hP
                    have hD : va_D A [(to, .inl (y 0, 228, .inl (upd x619 (j92 + 16) 999)))] := hD
                    refine lv_iinc (v := (nI (j92 + 1))) (lv' := [(5, .int (nI (j92 + 1))), (6, .int ((x619 (j92 + 16)) + (r574 / r569))), (4, .int (r574 / r569)), (3, .int r569), (2, .int (nI j91)), (1, .int x279), (0, .ref to)]) hx hb dX11_goStep_105 hl (k := 1) rfl (nI_1 j92) (by decide) rfl (fun ls hl => ?_)
                    refine lv_goto (tgt := 41) hx hb dX11_goStep_108 (by decide) ?_
                    exact ihj92 (j92 + 1) (upd x619 (j92 + 16) 999) H locs ls (by omega) (by omega) hr701 hk702 hk703 hk704 hk705 hk706 (hP.sub [0] rfl) (hD.sub [0] (by decide) rfl) hS (lv_sub hl [0, 2, 3, 4, 5, 6] rfl)
          exact lp663 (gl + 1) 0 x280 _ _ _ (by omega) (by omega) hr_x280 hk_x280_0 hk_x280_1 hk_x280_2 hk_x280_3 hk_x280_4 hP hD hS (lv_sub hl [0, 1, 2, 3, 4, 5] rfl)
        · skip
          refine lv_iconst (v := 0) hx hb dX11_goStep_21 (by decide) ?_
          refine lv_goto (tgt := 36) hx hb dX11_goStep_22 (by decide) ?_
          refine lv_istore (lv' := [(4, .int 0), (3, .int r569), (2, .int (nI j91)), (1, .int x279), (0, .ref to)]) hx hb dX11_goStep_36 hl (by decide) rfl (fun ls hl => ?_)
          refine lv_iconst (v := 0) hx hb dX11_goStep_38 (by decide) ?_
          refine lv_istore (lv' := [(5, .int 0), (4, .int 0), (3, .int r569), (2, .int (nI j91)), (1, .int x279), (0, .ref to)]) hx hb dX11_goStep_39 hl (by decide) rfl (fun ls hl => ?_)
          have lp794 : ∀ (fuj92 j92 : Nat) (x750 : Nat → Int32) (H : Heap) (locs : List Loc) (ls : Array Slot), j92 ≤ gl → gl - j92 < fuj92 → kr_t 228 x750 → x750 0 = (nI fi) → x750 1 = (nI gl) → x750 2 = (nI mi) → x750 3 = (nI no) → x750 4 = (nI un) → va_P D vwCl [(to, .inl (y 0, 228, .inl x750))] H → va_D A [(to, .inl (y 0, 228, .inl x750))] → va_S A s.heap H locs → lv_has ls 7 [(5, .int (nI j92)), (4, .int 0), (3, .int r569), (2, .int (nI j91)), (1, .int x279), (0, .ref to)] → W pZ l eZ ({ frames := 5, cells := 0, slots := 0, locals := 151 }) s mZ [.ref to].toArray beZ meZ cZ H locs 0 0 (MQ beZ (va_Qi (fun (r : Int32) (u : (Nat → Int32)) => kr_t 228 u ∧ u 0 = (nI fi) ∧ u 1 = (nI gl) ∧ u 2 = (nI mi) ∧ u 3 = (nI no) ∧ u 4 = (nI un)) (kw_B D (fun u => [(to, .inl (y 0, 228, .inl u))]) A) A) [.ref to].toArray s 0 0 A) (F0 mZ 41 ls []) := by
            intro fuj92
            induction fuj92 with
            | zero => intro j92 x750 H locs ls hj9 hf9; exact absurd hf9 (Nat.not_lt_zero _)
            | succ fuj92 ihj92 =>
              intro j92 x750 H locs ls hj92 hfj92 hr_x750 hk_x750_0 hk_x750_1 hk_x750_2 hk_x750_3 hk_x750_4 hP hD hS hl
              refine lv_iload hx hb dX11_goStep_41 (lv_at hl 0 rfl) ?_
              refine lv_aload_n hx hb dX11_goStep_43 rfl (lv_at hl 5 rfl) ?_
              refine lv_iconst (v := 1) hx hb dX11_goStep_44 (by decide) ?_
              refine va_iald hx hb hK hP 0 0 rfl rfl (by unfold vp_in; decide) dX11_goStep_45 ?_
              rw [show ((1 : Int32)).toNatClampNeg = 1 from rfl]
              rw [show (x750 1) = (nI gl) from hk_x750_1]
              refine lv_icmp_ge (tgt := 111) hx hb dX11_goStep_46 (by decide) (fun h795 => ?_) (fun h796 => ?_)
              · skip
                have h795 : gl ≤ j92 := (nI_leI (a := gl) (b := j92) (by omega) (by omega)).mp h795
                refine lv_aload_n hx hb dX11_goStep_111 rfl (lv_at hl 5 rfl) ?_
                refine lv_iconst (v := 5) hx hb dX11_goStep_112 (by decide) ?_
                refine lv_iload_n hx hb dX11_goStep_113 rfl (lv_at hl 3 rfl) ?_
                refine lv_iadd hx hb dX11_goStep_114 ?_
                rw [show 5 + (nI j91) = nI (j91 + 5) from (nI_add 5 j91).trans (congrArg nI (by omega))]
                refine va_iald hx hb hK hP 0 0 rfl rfl (vp_in_nI (by omega) (by decide)) dX11_goStep_115 ?_
                rw [nI_clamp (n := (j91 + 5)) (by omega)]
                refine lv_iload hx hb dX11_goStep_116 (lv_at hl 1 rfl) ?_
                refine lv_iload_n hx hb dX11_goStep_118 rfl (lv_at hl 2 rfl) ?_
                refine lv_imul hx hb dX11_goStep_119 ?_
                refine lv_isub hx hb dX11_goStep_120 ?_
                refine lv_istore (lv' := [(5, .int ((x750 (j91 + 5)) - (0 * r569))), (4, .int 0), (3, .int r569), (2, .int (nI j91)), (1, .int x279), (0, .ref to)]) hx hb dX11_goStep_121 hl (by decide) rfl (fun ls hl => ?_)
                refine lv_aload_n hx hb dX11_goStep_123 rfl (lv_at hl 5 rfl) ?_
                refine lv_iconst (v := 5) hx hb dX11_goStep_124 (by decide) ?_
                refine lv_iload_n hx hb dX11_goStep_125 rfl (lv_at hl 3 rfl) ?_
                refine lv_iadd hx hb dX11_goStep_126 ?_
                rw [show 5 + (nI j91) = nI (j91 + 5) from (nI_add 5 j91).trans (congrArg nI (by omega))]
                refine lv_iload hx hb dX11_goStep_127 (lv_at hl 0 rfl) ?_
                refine lv_if_ge (tgt := 136) hx hb dX11_goStep_129 (by decide) (fun h797 => ?_) (fun h798 => ?_)
                · skip
                  refine lv_iload hx hb dX11_goStep_136 (lv_at hl 0 rfl) ?_
                  refine va_iast hx hb hK hP hD hS 0 0 rfl rfl (vp_in_nI (by omega) (by decide)) dX11_goStep_138 (fun H locs hP hD hS => ?_)
                  rw [nI_clamp (n := (j91 + 5)) (by omega)] at hP hD
                  have hr799 : kr_t 228 (upd x750 (j91 + 5) ((x750 (j91 + 5)) - (0 * r569))) := kr_up hr_x750 (kr_free (by unfold kr_a; omega) (by unfold kr_s; omega))
                  have hk800 : (upd x750 (j91 + 5) ((x750 (j91 + 5)) - (0 * r569))) 0 = (nI fi) := (pk_un (by omega)).trans hk_x750_0
                  have hk801 : (upd x750 (j91 + 5) ((x750 (j91 + 5)) - (0 * r569))) 1 = (nI gl) := (pk_un (by omega)).trans hk_x750_1
                  have hk802 : (upd x750 (j91 + 5) ((x750 (j91 + 5)) - (0 * r569))) 2 = (nI mi) := (pk_un (by omega)).trans hk_x750_2
                  have hk803 : (upd x750 (j91 + 5) ((x750 (j91 + 5)) - (0 * r569))) 3 = (nI no) := (pk_un (by omega)).trans hk_x750_3
                  have hk804 : (upd x750 (j91 + 5) ((x750 (j91 + 5)) - (0 * r569))) 4 = (nI un) := (pk_un (by omega)).trans hk_x750_4
                  have hP : va_P D vwCl [(to, .inl (y 0, 228, .inl (upd x750 (j91 + 5) ((x750 (j91 + 5)) - (0 * r569)))))] H := hP
                  have hD : va_D A [(to, .inl (y 0, 228, .inl (upd x750 (j91 + 5) ((x750 (j91 + 5)) - (0 * r569)))))] := hD
                  refine lv_iload_n hx hb dX11_goStep_139 rfl (lv_at hl 4 rfl) ?_
                  refine lv_iload hx hb dX11_goStep_140 (lv_at hl 1 rfl) ?_
                  refine lv_iload_n hx hb dX11_goStep_142 rfl (lv_at hl 2 rfl) ?_
                  refine lv_imul hx hb dX11_goStep_143 ?_
                  refine lv_iadd hx hb dX11_goStep_144 ?_
                  refine lv_istore_n (lv' := [(1, .int (x279 + (0 * r569))), (5, .int ((x750 (j91 + 5)) - (0 * r569))), (4, .int 0), (3, .int r569), (2, .int (nI j91)), (0, .ref to)]) hx hb dX11_goStep_145 rfl hl (by decide) rfl (fun ls hl => ?_)
                  refine lv_iinc (v := (nI (j91 + 1))) (lv' := [(2, .int (nI (j91 + 1))), (1, .int (x279 + (0 * r569))), (5, .int ((x750 (j91 + 5)) - (0 * r569))), (4, .int 0), (3, .int r569), (0, .ref to)]) hx hb dX11_goStep_146 hl (k := 4) rfl (nI_1 j91) (by decide) rfl (fun ls hl => ?_)
                  refine lv_goto (tgt := 4) hx hb dX11_goStep_149 (by decide) ?_
                  exact ihj91 (j91 + 1) (x279 + (0 * r569)) (upd x750 (j91 + 5) ((x750 (j91 + 5)) - (0 * r569))) H locs ls (by omega) (by omega) hr799 hk800 hk801 hk802 hk803 hk804 (hP.sub [0] rfl) (hD.sub [0] (by decide) rfl) hS (lv_sub hl [0, 1, 5] rfl)
                · skip
                  refine lv_iconst (v := 0) hx hb dX11_goStep_132 (by decide) ?_
                  refine lv_goto (tgt := 138) hx hb dX11_goStep_133 (by decide) ?_
                  refine va_iast hx hb hK hP hD hS 0 0 rfl rfl (vp_in_nI (by omega) (by decide)) dX11_goStep_138 (fun H locs hP hD hS => ?_)
                  rw [nI_clamp (n := (j91 + 5)) (by omega)] at hP hD
                  have hr805 : kr_t 228 (upd x750 (j91 + 5) 0) := kr_up hr_x750 (kr_ok0)
                  have hk806 : (upd x750 (j91 + 5) 0) 0 = (nI fi) := (pk_un (by omega)).trans hk_x750_0
                  have hk807 : (upd x750 (j91 + 5) 0) 1 = (nI gl) := (pk_un (by omega)).trans hk_x750_1
                  have hk808 : (upd x750 (j91 + 5) 0) 2 = (nI mi) := (pk_un (by omega)).trans hk_x750_2
                  have hk809 : (upd x750 (j91 + 5) 0) 3 = (nI no) := (pk_un (by omega)).trans hk_x750_3
                  have hk810 : (upd x750 (j91 + 5) 0) 4 = (nI un) := (pk_un (by omega)).trans hk_x750_4
                  have hP : va_P D vwCl [(to, .inl (y 0, 228, .inl (upd x750 (j91 + 5) 0)))] H := hP
                  have hD : va_D A [(to, .inl (y 0, 228, .inl (upd x750 (j91 + 5) 0)))] := hD
                  refine lv_iload_n hx hb dX11_goStep_139 rfl (lv_at hl 4 rfl) ?_
                  refine lv_iload hx hb dX11_goStep_140 (lv_at hl 1 rfl) ?_
                  refine lv_iload_n hx hb dX11_goStep_142 rfl (lv_at hl 2 rfl) ?_
                  refine lv_imul hx hb dX11_goStep_143 ?_
                  refine lv_iadd hx hb dX11_goStep_144 ?_
                  refine lv_istore_n (lv' := [(1, .int (x279 + (0 * r569))), (5, .int ((x750 (j91 + 5)) - (0 * r569))), (4, .int 0), (3, .int r569), (2, .int (nI j91)), (0, .ref to)]) hx hb dX11_goStep_145 rfl hl (by decide) rfl (fun ls hl => ?_)
                  refine lv_iinc (v := (nI (j91 + 1))) (lv' := [(2, .int (nI (j91 + 1))), (1, .int (x279 + (0 * r569))), (5, .int ((x750 (j91 + 5)) - (0 * r569))), (4, .int 0), (3, .int r569), (0, .ref to)]) hx hb dX11_goStep_146 hl (k := 4) rfl (nI_1 j91) (by decide) rfl (fun ls hl => ?_)
                  refine lv_goto (tgt := 4) hx hb dX11_goStep_149 (by decide) ?_
                  exact ihj91 (j91 + 1) (x279 + (0 * r569)) (upd x750 (j91 + 5) 0) H locs ls (by omega) (by omega) hr805 hk806 hk807 hk808 hk809 hk810 (hP.sub [0] rfl) (hD.sub [0] (by decide) rfl) hS (lv_sub hl [0, 1, 5] rfl)
              · skip
                have h796 : ¬ gl ≤ j92 := fun q9 => h796 ((nI_leI (a := gl) (b := j92) (by omega) (by omega)).mpr q9)
                refine lv_aload_n hx hb dX11_goStep_49 rfl (lv_at hl 5 rfl) ?_
                refine lv_bipush (v := 11) hx hb dX11_goStep_50 (by decide) ?_
                refine lv_iload hx hb dX11_goStep_52 (lv_at hl 0 rfl) ?_
                refine lv_iadd hx hb dX11_goStep_54 ?_
                rw [show 11 + (nI j92) = nI (j92 + 11) from (nI_add 11 j92).trans (congrArg nI (by omega))]
                refine va_iald hx hb hK hP 0 0 rfl rfl (vp_in_nI (by omega) (by decide)) dX11_goStep_55 ?_
                rw [nI_clamp (n := (j92 + 11)) (by omega)]
                obtain ⟨w811, h812, h813⟩ := kr_at hr_x750 (p := (j92 + 11)) (by omega) (by unfold kr_a; omega)
                rw [h813]
                refine lv_iload_n hx hb dX11_goStep_56 rfl (lv_at hl 3 rfl) ?_
                refine lv_icmp_ne (tgt := 73) hx hb dX11_goStep_57 (by decide) (fun h814 => ?_) (fun h815 => ?_)
                · skip
                  have h814 : ¬ w811 = j91 := fun q9 => h814 ((nI_eq (a := w811) (b := j91) (by omega) (by omega)).mpr q9)
                  refine lv_aload_n hx hb dX11_goStep_73 rfl (lv_at hl 5 rfl) ?_
                  refine lv_bipush (v := 16) hx hb dX11_goStep_74 (by decide) ?_
                  refine lv_iload hx hb dX11_goStep_76 (lv_at hl 0 rfl) ?_
                  refine lv_iadd hx hb dX11_goStep_78 ?_
                  rw [show 16 + (nI j92) = nI (j92 + 16) from (nI_add 16 j92).trans (congrArg nI (by omega))]
                  refine va_iald hx hb hK hP 0 0 rfl rfl (vp_in_nI (by omega) (by decide)) dX11_goStep_79 ?_
                  rw [nI_clamp (n := (j92 + 16)) (by omega)]
                  refine lv_istore (lv' := [(6, .int (x750 (j92 + 16))), (5, .int (nI j92)), (4, .int 0), (3, .int r569), (2, .int (nI j91)), (1, .int x279), (0, .ref to)]) hx hb dX11_goStep_80 hl (by decide) rfl (fun ls hl => ?_)
                  refine lv_aload_n hx hb dX11_goStep_82 rfl (lv_at hl 6 rfl) ?_
                  refine lv_bipush (v := 16) hx hb dX11_goStep_83 (by decide) ?_
                  refine lv_iload hx hb dX11_goStep_85 (lv_at hl 1 rfl) ?_
                  refine lv_iadd hx hb dX11_goStep_87 ?_
                  rw [show 16 + (nI j92) = nI (j92 + 16) from (nI_add 16 j92).trans (congrArg nI (by omega))]
                  refine lv_iload hx hb dX11_goStep_88 (lv_at hl 0 rfl) ?_
                  refine lv_sipush (v := 999) hx hb dX11_goStep_90 (by decide) ?_
                  refine lv_icmp_le (tgt := 102) hx hb dX11_goStep_93 (by decide) (fun h816 => ?_) (fun h817 => ?_)
                  · skip
                    refine lv_iload hx hb dX11_goStep_102 (lv_at hl 0 rfl) ?_
                    refine va_iast hx hb hK hP hD hS 0 0 rfl rfl (vp_in_nI (by omega) (by decide)) dX11_goStep_104 (fun H locs hP hD hS => ?_)
                    rw [nI_clamp (n := (j92 + 16)) (by omega)] at hP hD
                    have hr818 : kr_t 228 (upd x750 (j92 + 16) (x750 (j92 + 16))) := kr_up hr_x750 (kr_move (p := (j92 + 16)) (hr_x750 (j92 + 16) (by omega)) (by unfold kr_a; omega) (by unfold kr_s; omega))
                    have hk819 : (upd x750 (j92 + 16) (x750 (j92 + 16))) 0 = (nI fi) := (pk_un (by omega)).trans hk_x750_0
                    have hk820 : (upd x750 (j92 + 16) (x750 (j92 + 16))) 1 = (nI gl) := (pk_un (by omega)).trans hk_x750_1
                    have hk821 : (upd x750 (j92 + 16) (x750 (j92 + 16))) 2 = (nI mi) := (pk_un (by omega)).trans hk_x750_2
                    have hk822 : (upd x750 (j92 + 16) (x750 (j92 + 16))) 3 = (nI no) := (pk_un (by omega)).trans hk_x750_3
                    have hk823 : (upd x750 (j92 + 16) (x750 (j92 + 16))) 4 = (nI un) := (pk_un (by omega)).trans hk_x750_4
                    have hP : va_P D vwCl [(to, .inl (y 0, 228, .inl (upd x750 (j92 + 16) (x750 (j92 + 16)))))] H := hP
                    have hD : va_D A [(to, .inl (y 0, 228, .inl (upd x750 (j92 + 16) (x750 (j92 + 16)))))] := hD
                    refine lv_iinc (v := (nI (j92 + 1))) (lv' := [(5, .int (nI (j92 + 1))), (6, .int (x750 (j92 + 16))), (4, .int 0), (3, .int r569), (2, .int (nI j91)), (1, .int x279), (0, .ref to)]) hx hb dX11_goStep_105 hl (k := 1) rfl (nI_1 j92) (by decide) rfl (fun ls hl => ?_)
                    refine lv_goto (tgt := 41) hx hb dX11_goStep_108 (by decide) ?_
                    exact ihj92 (j92 + 1) (upd x750 (j92 + 16) (x750 (j92 + 16))) H locs ls (by omega) (by omega) hr818 hk819 hk820 hk821 hk822 hk823 (hP.sub [0] rfl) (hD.sub [0] (by decide) rfl) hS (lv_sub hl [0, 2, 3, 4, 5, 6] rfl)
                  · skip
                    exact absurd ((hr_x750 (j92 + 16) (by omega)).2 (by unfold kr_s; omega)) h817
                · skip
                  have h815 : w811 = j91 := (nI_eq (a := w811) (b := j91) (by omega) (by omega)).mp h815
                  refine lv_aload_n hx hb dX11_goStep_60 rfl (lv_at hl 5 rfl) ?_
                  refine lv_bipush (v := 16) hx hb dX11_goStep_61 (by decide) ?_
                  refine lv_iload hx hb dX11_goStep_63 (lv_at hl 0 rfl) ?_
                  refine lv_iadd hx hb dX11_goStep_65 ?_
                  rw [show 16 + (nI j92) = nI (j92 + 16) from (nI_add 16 j92).trans (congrArg nI (by omega))]
                  refine va_iald hx hb hK hP 0 0 rfl rfl (vp_in_nI (by omega) (by decide)) dX11_goStep_66 ?_
                  rw [nI_clamp (n := (j92 + 16)) (by omega)]
                  refine lv_iload hx hb dX11_goStep_67 (lv_at hl 1 rfl) ?_
                  refine lv_iadd hx hb dX11_goStep_69 ?_
                  refine lv_goto (tgt := 80) hx hb dX11_goStep_70 (by decide) ?_
                  refine lv_istore (lv' := [(6, .int ((x750 (j92 + 16)) + 0)), (5, .int (nI j92)), (4, .int 0), (3, .int r569), (2, .int (nI j91)), (1, .int x279), (0, .ref to)]) hx hb dX11_goStep_80 hl (by decide) rfl (fun ls hl => ?_)
                  refine lv_aload_n hx hb dX11_goStep_82 rfl (lv_at hl 6 rfl) ?_
                  refine lv_bipush (v := 16) hx hb dX11_goStep_83 (by decide) ?_
                  refine lv_iload hx hb dX11_goStep_85 (lv_at hl 1 rfl) ?_
                  refine lv_iadd hx hb dX11_goStep_87 ?_
                  rw [show 16 + (nI j92) = nI (j92 + 16) from (nI_add 16 j92).trans (congrArg nI (by omega))]
                  refine lv_iload hx hb dX11_goStep_88 (lv_at hl 0 rfl) ?_
                  refine lv_sipush (v := 999) hx hb dX11_goStep_90 (by decide) ?_
                  refine lv_icmp_le (tgt := 102) hx hb dX11_goStep_93 (by decide) (fun h824 => ?_) (fun h825 => ?_)
                  · skip
                    refine lv_iload hx hb dX11_goStep_102 (lv_at hl 0 rfl) ?_
                    refine va_iast hx hb hK hP hD hS 0 0 rfl rfl (vp_in_nI (by omega) (by decide)) dX11_goStep_104 (fun H locs hP hD hS => ?_)
                    rw [nI_clamp (n := (j92 + 16)) (by omega)] at hP hD
                    have hr826 : kr_t 228 (upd x750 (j92 + 16) ((x750 (j92 + 16)) + 0)) := kr_up hr_x750 (kr_oks (by unfold kr_a; omega) (h824))
                    have hk827 : (upd x750 (j92 + 16) ((x750 (j92 + 16)) + 0)) 0 = (nI fi) := (pk_un (by omega)).trans hk_x750_0
                    have hk828 : (upd x750 (j92 + 16) ((x750 (j92 + 16)) + 0)) 1 = (nI gl) := (pk_un (by omega)).trans hk_x750_1
                    have hk829 : (upd x750 (j92 + 16) ((x750 (j92 + 16)) + 0)) 2 = (nI mi) := (pk_un (by omega)).trans hk_x750_2
                    have hk830 : (upd x750 (j92 + 16) ((x750 (j92 + 16)) + 0)) 3 = (nI no) := (pk_un (by omega)).trans hk_x750_3
                    have hk831 : (upd x750 (j92 + 16) ((x750 (j92 + 16)) + 0)) 4 = (nI un) := (pk_un (by omega)).trans hk_x750_4
                    have hP : va_P D vwCl [(to, .inl (y 0, 228, .inl (upd x750 (j92 + 16) ((x750 (j92 + 16)) + 0))))] H := hP
                    have hD : va_D A [(to, .inl (y 0, 228, .inl (upd x750 (j92 + 16) ((x750 (j92 + 16)) + 0))))] := hD
                    refine lv_iinc (v := (nI (j92 + 1))) (lv' := [(5, .int (nI (j92 + 1))), (6, .int ((x750 (j92 + 16)) + 0)), (4, .int 0), (3, .int r569), (2, .int (nI j91)), (1, .int x279), (0, .ref to)]) hx hb dX11_goStep_105 hl (k := 1) rfl (nI_1 j92) (by decide) rfl (fun ls hl => ?_)
                    refine lv_goto (tgt := 41) hx hb dX11_goStep_108 (by decide) ?_
                    exact ihj92 (j92 + 1) (upd x750 (j92 + 16) ((x750 (j92 + 16)) + 0)) H locs ls (by omega) (by omega) hr826 hk827 hk828 hk829 hk830 hk831 (hP.sub [0] rfl) (hD.sub [0] (by decide) rfl) hS (lv_sub hl [0, 2, 3, 4, 5, 6] rfl)
                  · skip
                    refine lv_sipush (v := 999) hx hb dX11_goStep_96 (by decide) ?_
                    refine lv_goto (tgt := 104) hx hb dX11_goStep_99 (by decide) ?_
                    refine va_iast hx hb hK hP hD hS 0 0 rfl rfl (vp_in_nI (by omega) (by decide)) dX11_goStep_104 (fun H locs hP hD hS => ?_)
                    rw [nI_clamp (n := (j92 + 16)) (by omega)] at hP hD
                    have hr832 : kr_t 228 (upd x750 (j92 + 16) 999) := kr_up hr_x750 (kr_oks (by unfold kr_a; omega) (by decide))
                    have hk833 : (upd x750 (j92 + 16) 999) 0 = (nI fi) := (pk_un (by omega)).trans hk_x750_0
                    have hk834 : (upd x750 (j92 + 16) 999) 1 = (nI gl) := (pk_un (by omega)).trans hk_x750_1
                    have hk835 : (upd x750 (j92 + 16) 999) 2 = (nI mi) := (pk_un (by omega)).trans hk_x750_2
                    have hk836 : (upd x750 (j92 + 16) 999) 3 = (nI no) := (pk_un (by omega)).trans hk_x750_3
                    have hk837 : (upd x750 (j92 + 16) 999) 4 = (nI un) := (pk_un (by omega)).trans hk_x750_4
                    have hP : va_P D vwCl [(to, .inl (y 0, 228, .inl (upd x750 (j92 + 16) 999)))] H := hP
                    have hD : va_D A [(to, .inl (y 0, 228, .inl (upd x750 (j92 + 16) 999)))] := hD
                    refine lv_iinc (v := (nI (j92 + 1))) (lv' := [(5, .int (nI (j92 + 1))), (6, .int ((x750 (j92 + 16)) + 0)), (4, .int 0), (3, .int r569), (2, .int (nI j91)), (1, .int x279), (0, .ref to)]) hx hb dX11_goStep_105 hl (k := 1) rfl (nI_1 j92) (by decide) rfl (fun ls hl => ?_)
                    refine lv_goto (tgt := 41) hx hb dX11_goStep_108 (by decide) ?_
                    exact ihj92 (j92 + 1) (upd x750 (j92 + 16) 999) H locs ls (by omega) (by omega) hr832 hk833 hk834 hk835 hk836 hk837 (hP.sub [0] rfl) (hD.sub [0] (by decide) rfl) hS (lv_sub hl [0, 2, 3, 4, 5, 6] rfl)
          exact lp794 (gl + 1) 0 x280 _ _ _ (by omega) (by omega) hr_x280 hk_x280_0 hk_x280_1 hk_x280_2 hk_x280_3 hk_x280_4 hP hD hS (lv_sub hl [0, 1, 2, 3, 4, 5] rfl)
  exact lp559 (fi + 1) 0 0 ft _ _ _ (by omega) (by omega) hkt hk0_ hk1_ hk2_ hk3_ hk4_ hP hD hS (lv_sub hl [0, 1, 2] rfl)

set_option maxHeartbeats 4000000 in
set_option maxRecDepth 100000 in
theorem gr_goStep30 (l : Launch) (D : va_G) (y : Nat → ClassId) (to : Nat) (ft : Nat → Int32) (fi : Nat) (gl : Nat) (hk0_ : ft 0 = (nI fi)) (hk1_ : ft 1 = (nI gl)) (hkt : kr_t 30 ft) (hfi : fi ≤ 6) (hgl : gl ≤ 5) : kw_Mi l yX11_goStep wsX11_goStep ({ frames := 5, cells := 0, slots := 0, locals := 151 }) D y [.ref to] [(to, .inl (y 0, 30, .inl ft))] (fun (r : Int32) (u : (Nat → Int32)) => kr_t 30 u ∧ u 0 = (nI fi) ∧ u 1 = (nI gl)) (fun u => [(to, .inl (y 0, 30, .inl u))]) 0 0 := by
  refine kw_Mi.of (cc := cX11_goStep) (maxL := 7) (ret := (some .int)) (by decide) rfl ?_
  intro pZ eZ s mZ beZ meZ cZ A hE
  obtain ⟨hx, hb, hr, hml, hts, hown, hlocks, hin, hA, hP, hD, hK, hN⟩ := hE
  have hS : va_S A s.heap s.heap [] := va_S.rf
  have hl := lv_entry ([.ref to]) (n := 7) (Nat.le_of_ble_eq_true rfl)
  rw [lg_entry_eq]
  generalize (lg_sl ([.ref to]) ++ List.replicate (7 - (lg_sl ([.ref to])).length) Slot.unset).toArray = ls at hl ⊢
  have hl : lv_has ls 7 [(0, .ref to)] := hl
  refine lv_iconst (v := 0) hx hb dX11_goStep_0 (by decide) ?_
  refine lv_istore_n (lv' := [(1, .int 0), (0, .ref to)]) hx hb dX11_goStep_1 rfl hl (by decide) rfl (fun ls hl => ?_)
  refine lv_iconst (v := 0) hx hb dX11_goStep_2 (by decide) ?_
  refine lv_istore_n (lv' := [(2, .int 0), (1, .int 0), (0, .ref to)]) hx hb dX11_goStep_3 rfl hl (by decide) rfl (fun ls hl => ?_)
  have lp373 : ∀ (fuj91 j91 : Nat) (x186 : Int32) (x187 : Nat → Int32) (H : Heap) (locs : List Loc) (ls : Array Slot), j91 ≤ fi → fi - j91 < fuj91 → kr_t 30 x187 → x187 0 = (nI fi) → x187 1 = (nI gl) → va_P D vwCl [(to, .inl (y 0, 30, .inl x187))] H → va_D A [(to, .inl (y 0, 30, .inl x187))] → va_S A s.heap H locs → lv_has ls 7 [(2, .int (nI j91)), (1, .int x186), (0, .ref to)] → W pZ l eZ ({ frames := 5, cells := 0, slots := 0, locals := 151 }) s mZ [.ref to].toArray beZ meZ cZ H locs 0 0 (MQ beZ (va_Qi (fun (r : Int32) (u : (Nat → Int32)) => kr_t 30 u ∧ u 0 = (nI fi) ∧ u 1 = (nI gl)) (kw_B D (fun u => [(to, .inl (y 0, 30, .inl u))]) A) A) [.ref to].toArray s 0 0 A) (F0 mZ 4 ls []) := by
    intro fuj91
    induction fuj91 with
    | zero => intro j91 x186 x187 H locs ls hj9 hf9; exact absurd hf9 (Nat.not_lt_zero _)
    | succ fuj91 ihj91 =>
      intro j91 x186 x187 H locs ls hj91 hfj91 hr_x187 hk_x187_0 hk_x187_1 hP hD hS hl
      refine lv_iload_n hx hb dX11_goStep_4 rfl (lv_at hl 0 rfl) ?_
      refine lv_aload_n hx hb dX11_goStep_5 rfl (lv_at hl 2 rfl) ?_
      refine lv_iconst (v := 0) hx hb dX11_goStep_6 (by decide) ?_
      refine va_iald hx hb hK hP 0 0 rfl rfl (by unfold vp_in; decide) dX11_goStep_7 ?_
      rw [show ((0 : Int32)).toNatClampNeg = 0 from rfl]
      rw [show (x187 0) = (nI fi) from hk_x187_0]
      refine lv_icmp_ge (tgt := 152) hx hb dX11_goStep_8 (by decide) (fun h374 => ?_) (fun h375 => ?_)
      · skip
        have h374 : fi ≤ j91 := (nI_leI (a := fi) (b := j91) (by omega) (by omega)).mp h374
        refine lv_aload_n hx hb dX11_goStep_152 rfl (lv_at hl 2 rfl) ?_
        refine lv_bipush (v := 21) hx hb dX11_goStep_153 (by decide) ?_
        refine lv_dup2_11 hx hb dX11_goStep_155 rfl rfl ?_
        refine va_iald hx hb hK hP 0 0 rfl rfl (by unfold vp_in; decide) dX11_goStep_156 ?_
        rw [show ((21 : Int32)).toNatClampNeg = 21 from rfl]
        refine lv_iconst (v := 1) hx hb dX11_goStep_157 (by decide) ?_
        refine lv_iadd hx hb dX11_goStep_158 ?_
        refine va_iast hx hb hK hP hD hS 0 0 rfl rfl (by unfold vp_in; decide) dX11_goStep_159 (fun H locs hP hD hS => ?_)
        rw [show ((21 : Int32)).toNatClampNeg = 21 from rfl] at hP hD
        have hr376 : kr_t 30 (upd x187 21 ((x187 21) + 1)) := kr_up hr_x187 (kr_free (by unfold kr_a; omega) (by unfold kr_s; omega))
        have hk377 : (upd x187 21 ((x187 21) + 1)) 0 = (nI fi) := (pk_un (by decide)).trans hk_x187_0
        have hk378 : (upd x187 21 ((x187 21) + 1)) 1 = (nI gl) := (pk_un (by decide)).trans hk_x187_1
        have hP : va_P D vwCl [(to, .inl (y 0, 30, .inl (upd x187 21 ((x187 21) + 1))))] H := hP
        have hD : va_D A [(to, .inl (y 0, 30, .inl (upd x187 21 ((x187 21) + 1))))] := hD
        refine lv_iload_n hx hb dX11_goStep_160 rfl (lv_at hl 1 rfl) ?_
        exact W.iret (v := x186) hx hb hr (fun tZ ht hW => ⟨⟨x186, ((upd x187 21 ((x187 21) + 1))), rfl, ⟨hr376, hk377, hk378⟩, by rw [ht]; exact hP.sub [0] rfl, hD.sub [0] (by decide) rfl⟩, hS.F ht⟩) hS.2.2 dX11_goStep_161
      · skip
        have h375 : ¬ fi ≤ j91 := fun q9 => h375 ((nI_leI (a := fi) (b := j91) (by omega) (by omega)).mpr q9)
        refine lv_aload_n hx hb dX11_goStep_11 rfl (lv_at hl 2 rfl) ?_
        refine lv_iload_n hx hb dX11_goStep_12 rfl (lv_at hl 0 rfl) ?_
        have hs379 : kw_Split [(to, .inl (y 0, 30, .inl x187))] [(to, .inl (y 0, 30, .inl x187))] [] [0] [] := ⟨rfl, rfl, rfl, rfl, rfl, by decide⟩
        refine kw_go_i hs379 hP hD hS hA (va_runS (As := [.ref to, .int (nI j91)]) (rest := []) ⟨hx, hb, hml, hown, hts⟩ (gr_manyOn30 l D y to x187 fi gl (nI j91) hk_x187_0 hk_x187_1 hr_x187 hfi hgl _) (va_cwS 2 hts gX11_goStep_X11_manyOn rfl rfl rfl (by decide +kernel) ⟨Nat.le_of_ble_eq_true rfl, Nat.le_of_ble_eq_true rfl⟩) (kw_PreS hs379 hP hD hK hN) rfl rfl hl.1 rfl (lv_room (Nat.le_of_ble_eq_true rfl)) dX11_goStep_13 ⟨Nat.le_of_ble_eq_true rfl, Nat.le_of_ble_eq_true rfl⟩) (fun r380 u381 H locs hq hP hD hS => ?_)
        have hP : va_P D vwCl [(to, .inl (y 0, 30, .inl x187))] H := hP
        have hD : va_D A [(to, .inl (y 0, 30, .inl x187))] := hD
        refine lv_istore_n (lv' := [(3, .int r380), (2, .int (nI j91)), (1, .int x186), (0, .ref to)]) hx hb dX11_goStep_16 rfl hl (by decide) rfl (fun ls hl => ?_)
        refine lv_iload_n hx hb dX11_goStep_17 rfl (lv_at hl 0 rfl) ?_
        refine lv_if_ne (tgt := 25) hx hb dX11_goStep_18 (by decide) (fun h382 => ?_) (fun h383 => ?_)
        · skip
          refine lv_aload_n hx hb dX11_goStep_25 rfl (lv_at hl 3 rfl) ?_
          refine lv_iload_n hx hb dX11_goStep_26 rfl (lv_at hl 1 rfl) ?_
          refine lv_aload_n hx hb dX11_goStep_27 rfl (lv_at hl 3 rfl) ?_
          refine lv_bipush (v := 21) hx hb dX11_goStep_28 (by decide) ?_
          refine va_iald hx hb hK hP 0 0 rfl rfl (by unfold vp_in; decide) dX11_goStep_30 ?_
          rw [show ((21 : Int32)).toNatClampNeg = 21 from rfl]
          have hs384 : kw_Split [(to, .inl (y 0, 30, .inl x187))] [(to, .inl (y 0, 30, .inl x187))] [] [0] [] := ⟨rfl, rfl, rfl, rfl, rfl, by decide⟩
          refine kw_go_i hs384 hP hD hS hA (va_runS (As := [.ref to, .int (nI j91), .int (x187 21)]) (rest := []) ⟨hx, hb, hml, hown, hts⟩ (gr_seenOn30 l D y to x187 fi gl j91 (x187 21) hk_x187_0 hk_x187_1 hr_x187 hfi hgl (by omega) _) (va_cwS 3 hts gX11_goStep_X11_seenOn rfl rfl rfl (by decide +kernel) ⟨Nat.le_of_ble_eq_true rfl, Nat.le_of_ble_eq_true rfl⟩) (kw_PreS hs384 hP hD hK hN) rfl rfl hl.1 rfl (lv_room (Nat.le_of_ble_eq_true rfl)) dX11_goStep_31 ⟨Nat.le_of_ble_eq_true rfl, Nat.le_of_ble_eq_true rfl⟩) (fun r385 u386 H locs hq hP hD hS => ?_)
          have hP : va_P D vwCl [(to, .inl (y 0, 30, .inl x187))] H := hP
          have hD : va_D A [(to, .inl (y 0, 30, .inl x187))] := hD
          refine lv_iload_n hx hb dX11_goStep_34 rfl (lv_at hl 0 rfl) ?_
          refine lv_idiv hx hb dX11_goStep_35 (h382) ?_
          refine lv_istore (lv' := [(4, .int (r385 / r380)), (3, .int r380), (2, .int (nI j91)), (1, .int x186), (0, .ref to)]) hx hb dX11_goStep_36 hl (by decide) rfl (fun ls hl => ?_)
          refine lv_iconst (v := 0) hx hb dX11_goStep_38 (by decide) ?_
          refine lv_istore (lv' := [(5, .int 0), (4, .int (r385 / r380)), (3, .int r380), (2, .int (nI j91)), (1, .int x186), (0, .ref to)]) hx hb dX11_goStep_39 hl (by decide) rfl (fun ls hl => ?_)
          have lp444 : ∀ (fuj92 j92 : Nat) (x415 : Nat → Int32) (H : Heap) (locs : List Loc) (ls : Array Slot), j92 ≤ gl → gl - j92 < fuj92 → kr_t 30 x415 → x415 0 = (nI fi) → x415 1 = (nI gl) → va_P D vwCl [(to, .inl (y 0, 30, .inl x415))] H → va_D A [(to, .inl (y 0, 30, .inl x415))] → va_S A s.heap H locs → lv_has ls 7 [(5, .int (nI j92)), (4, .int (r385 / r380)), (3, .int r380), (2, .int (nI j91)), (1, .int x186), (0, .ref to)] → W pZ l eZ ({ frames := 5, cells := 0, slots := 0, locals := 151 }) s mZ [.ref to].toArray beZ meZ cZ H locs 0 0 (MQ beZ (va_Qi (fun (r : Int32) (u : (Nat → Int32)) => kr_t 30 u ∧ u 0 = (nI fi) ∧ u 1 = (nI gl)) (kw_B D (fun u => [(to, .inl (y 0, 30, .inl u))]) A) A) [.ref to].toArray s 0 0 A) (F0 mZ 41 ls []) := by
            intro fuj92
            induction fuj92 with
            | zero => intro j92 x415 H locs ls hj9 hf9; exact absurd hf9 (Nat.not_lt_zero _)
            | succ fuj92 ihj92 =>
              intro j92 x415 H locs ls hj92 hfj92 hr_x415 hk_x415_0 hk_x415_1 hP hD hS hl
              refine lv_iload hx hb dX11_goStep_41 (lv_at hl 0 rfl) ?_
              refine lv_aload_n hx hb dX11_goStep_43 rfl (lv_at hl 5 rfl) ?_
              refine lv_iconst (v := 1) hx hb dX11_goStep_44 (by decide) ?_
              refine va_iald hx hb hK hP 0 0 rfl rfl (by unfold vp_in; decide) dX11_goStep_45 ?_
              rw [show ((1 : Int32)).toNatClampNeg = 1 from rfl]
              rw [show (x415 1) = (nI gl) from hk_x415_1]
              refine lv_icmp_ge (tgt := 111) hx hb dX11_goStep_46 (by decide) (fun h445 => ?_) (fun h446 => ?_)
              · skip
                have h445 : gl ≤ j92 := (nI_leI (a := gl) (b := j92) (by omega) (by omega)).mp h445
                refine lv_aload_n hx hb dX11_goStep_111 rfl (lv_at hl 5 rfl) ?_
                refine lv_iconst (v := 5) hx hb dX11_goStep_112 (by decide) ?_
                refine lv_iload_n hx hb dX11_goStep_113 rfl (lv_at hl 3 rfl) ?_
                refine lv_iadd hx hb dX11_goStep_114 ?_
                rw [show 5 + (nI j91) = nI (j91 + 5) from (nI_add 5 j91).trans (congrArg nI (by omega))]
                refine va_iald hx hb hK hP 0 0 rfl rfl (vp_in_nI (by omega) (by decide)) dX11_goStep_115 ?_
                rw [nI_clamp (n := (j91 + 5)) (by omega)]
                refine lv_iload hx hb dX11_goStep_116 (lv_at hl 1 rfl) ?_
                refine lv_iload_n hx hb dX11_goStep_118 rfl (lv_at hl 2 rfl) ?_
                refine lv_imul hx hb dX11_goStep_119 ?_
                refine lv_isub hx hb dX11_goStep_120 ?_
                refine lv_istore (lv' := [(5, .int ((x415 (j91 + 5)) - ((r385 / r380) * r380))), (4, .int (r385 / r380)), (3, .int r380), (2, .int (nI j91)), (1, .int x186), (0, .ref to)]) hx hb dX11_goStep_121 hl (by decide) rfl (fun ls hl => ?_)
                refine lv_aload_n hx hb dX11_goStep_123 rfl (lv_at hl 5 rfl) ?_
                refine lv_iconst (v := 5) hx hb dX11_goStep_124 (by decide) ?_
                refine lv_iload_n hx hb dX11_goStep_125 rfl (lv_at hl 3 rfl) ?_
                refine lv_iadd hx hb dX11_goStep_126 ?_
                rw [show 5 + (nI j91) = nI (j91 + 5) from (nI_add 5 j91).trans (congrArg nI (by omega))]
                refine lv_iload hx hb dX11_goStep_127 (lv_at hl 0 rfl) ?_
                refine lv_if_ge (tgt := 136) hx hb dX11_goStep_129 (by decide) (fun h447 => ?_) (fun h448 => ?_)
                · skip
                  refine lv_iload hx hb dX11_goStep_136 (lv_at hl 0 rfl) ?_
                  refine va_iast hx hb hK hP hD hS 0 0 rfl rfl (vp_in_nI (by omega) (by decide)) dX11_goStep_138 (fun H locs hP hD hS => ?_)
                  rw [nI_clamp (n := (j91 + 5)) (by omega)] at hP hD
                  have hr449 : kr_t 30 (upd x415 (j91 + 5) ((x415 (j91 + 5)) - ((r385 / r380) * r380))) := kr_up hr_x415 (kr_free (by unfold kr_a; omega) (by unfold kr_s; omega))
                  have hk450 : (upd x415 (j91 + 5) ((x415 (j91 + 5)) - ((r385 / r380) * r380))) 0 = (nI fi) := (pk_un (by omega)).trans hk_x415_0
                  have hk451 : (upd x415 (j91 + 5) ((x415 (j91 + 5)) - ((r385 / r380) * r380))) 1 = (nI gl) := (pk_un (by omega)).trans hk_x415_1
                  have hP : va_P D vwCl [(to, .inl (y 0, 30, .inl (upd x415 (j91 + 5) ((x415 (j91 + 5)) - ((r385 / r380) * r380)))))] H := hP
                  have hD : va_D A [(to, .inl (y 0, 30, .inl (upd x415 (j91 + 5) ((x415 (j91 + 5)) - ((r385 / r380) * r380)))))] := hD
                  refine lv_iload_n hx hb dX11_goStep_139 rfl (lv_at hl 4 rfl) ?_
                  refine lv_iload hx hb dX11_goStep_140 (lv_at hl 1 rfl) ?_
                  refine lv_iload_n hx hb dX11_goStep_142 rfl (lv_at hl 2 rfl) ?_
                  refine lv_imul hx hb dX11_goStep_143 ?_
                  refine lv_iadd hx hb dX11_goStep_144 ?_
                  refine lv_istore_n (lv' := [(1, .int (x186 + ((r385 / r380) * r380))), (5, .int ((x415 (j91 + 5)) - ((r385 / r380) * r380))), (4, .int (r385 / r380)), (3, .int r380), (2, .int (nI j91)), (0, .ref to)]) hx hb dX11_goStep_145 rfl hl (by decide) rfl (fun ls hl => ?_)
                  refine lv_iinc (v := (nI (j91 + 1))) (lv' := [(2, .int (nI (j91 + 1))), (1, .int (x186 + ((r385 / r380) * r380))), (5, .int ((x415 (j91 + 5)) - ((r385 / r380) * r380))), (4, .int (r385 / r380)), (3, .int r380), (0, .ref to)]) hx hb dX11_goStep_146 hl (k := 4) rfl (nI_1 j91) (by decide) rfl (fun ls hl => ?_)
                  refine lv_goto (tgt := 4) hx hb dX11_goStep_149 (by decide) ?_
                  exact ihj91 (j91 + 1) (x186 + ((r385 / r380) * r380)) (upd x415 (j91 + 5) ((x415 (j91 + 5)) - ((r385 / r380) * r380))) H locs ls (by omega) (by omega) hr449 hk450 hk451 (hP.sub [0] rfl) (hD.sub [0] (by decide) rfl) hS (lv_sub hl [0, 1, 5] rfl)
                · skip
                  refine lv_iconst (v := 0) hx hb dX11_goStep_132 (by decide) ?_
                  refine lv_goto (tgt := 138) hx hb dX11_goStep_133 (by decide) ?_
                  refine va_iast hx hb hK hP hD hS 0 0 rfl rfl (vp_in_nI (by omega) (by decide)) dX11_goStep_138 (fun H locs hP hD hS => ?_)
                  rw [nI_clamp (n := (j91 + 5)) (by omega)] at hP hD
                  have hr452 : kr_t 30 (upd x415 (j91 + 5) 0) := kr_up hr_x415 (kr_ok0)
                  have hk453 : (upd x415 (j91 + 5) 0) 0 = (nI fi) := (pk_un (by omega)).trans hk_x415_0
                  have hk454 : (upd x415 (j91 + 5) 0) 1 = (nI gl) := (pk_un (by omega)).trans hk_x415_1
                  have hP : va_P D vwCl [(to, .inl (y 0, 30, .inl (upd x415 (j91 + 5) 0)))] H := hP
                  have hD : va_D A [(to, .inl (y 0, 30, .inl (upd x415 (j91 + 5) 0)))] := hD
                  refine lv_iload_n hx hb dX11_goStep_139 rfl (lv_at hl 4 rfl) ?_
                  refine lv_iload hx hb dX11_goStep_140 (lv_at hl 1 rfl) ?_
                  refine lv_iload_n hx hb dX11_goStep_142 rfl (lv_at hl 2 rfl) ?_
                  refine lv_imul hx hb dX11_goStep_143 ?_
                  refine lv_iadd hx hb dX11_goStep_144 ?_
                  refine lv_istore_n (lv' := [(1, .int (x186 + ((r385 / r380) * r380))), (5, .int ((x415 (j91 + 5)) - ((r385 / r380) * r380))), (4, .int (r385 / r380)), (3, .int r380), (2, .int (nI j91)), (0, .ref to)]) hx hb dX11_goStep_145 rfl hl (by decide) rfl (fun ls hl => ?_)
                  refine lv_iinc (v := (nI (j91 + 1))) (lv' := [(2, .int (nI (j91 + 1))), (1, .int (x186 + ((r385 / r380) * r380))), (5, .int ((x415 (j91 + 5)) - ((r385 / r380) * r380))), (4, .int (r385 / r380)), (3, .int r380), (0, .ref to)]) hx hb dX11_goStep_146 hl (k := 4) rfl (nI_1 j91) (by decide) rfl (fun ls hl => ?_)
                  refine lv_goto (tgt := 4) hx hb dX11_goStep_149 (by decide) ?_
                  exact ihj91 (j91 + 1) (x186 + ((r385 / r380) * r380)) (upd x415 (j91 + 5) 0) H locs ls (by omega) (by omega) hr452 hk453 hk454 (hP.sub [0] rfl) (hD.sub [0] (by decide) rfl) hS (lv_sub hl [0, 1, 5] rfl)
              · skip
                have h446 : ¬ gl ≤ j92 := fun q9 => h446 ((nI_leI (a := gl) (b := j92) (by omega) (by omega)).mpr q9)
                refine lv_aload_n hx hb dX11_goStep_49 rfl (lv_at hl 5 rfl) ?_
                refine lv_bipush (v := 11) hx hb dX11_goStep_50 (by decide) ?_
                refine lv_iload hx hb dX11_goStep_52 (lv_at hl 0 rfl) ?_
                refine lv_iadd hx hb dX11_goStep_54 ?_
                rw [show 11 + (nI j92) = nI (j92 + 11) from (nI_add 11 j92).trans (congrArg nI (by omega))]
                refine va_iald hx hb hK hP 0 0 rfl rfl (vp_in_nI (by omega) (by decide)) dX11_goStep_55 ?_
                rw [nI_clamp (n := (j92 + 11)) (by omega)]
                obtain ⟨w455, h456, h457⟩ := kr_at hr_x415 (p := (j92 + 11)) (by omega) (by unfold kr_a; omega)
                rw [h457]
                refine lv_iload_n hx hb dX11_goStep_56 rfl (lv_at hl 3 rfl) ?_
                refine lv_icmp_ne (tgt := 73) hx hb dX11_goStep_57 (by decide) (fun h458 => ?_) (fun h459 => ?_)
                · skip
                  have h458 : ¬ w455 = j91 := fun q9 => h458 ((nI_eq (a := w455) (b := j91) (by omega) (by omega)).mpr q9)
                  refine lv_aload_n hx hb dX11_goStep_73 rfl (lv_at hl 5 rfl) ?_
                  refine lv_bipush (v := 16) hx hb dX11_goStep_74 (by decide) ?_
                  refine lv_iload hx hb dX11_goStep_76 (lv_at hl 0 rfl) ?_
                  refine lv_iadd hx hb dX11_goStep_78 ?_
                  rw [show 16 + (nI j92) = nI (j92 + 16) from (nI_add 16 j92).trans (congrArg nI (by omega))]
                  refine va_iald hx hb hK hP 0 0 rfl rfl (vp_in_nI (by omega) (by decide)) dX11_goStep_79 ?_
                  rw [nI_clamp (n := (j92 + 16)) (by omega)]
                  refine lv_istore (lv' := [(6, .int (x415 (j92 + 16))), (5, .int (nI j92)), (4, .int (r385 / r380)), (3, .int r380), (2, .int (nI j91)), (1, .int x186), (0, .ref to)]) hx hb dX11_goStep_80 hl (by decide) rfl (fun ls hl => ?_)
                  refine lv_aload_n hx hb dX11_goStep_82 rfl (lv_at hl 6 rfl) ?_
                  refine lv_bipush (v := 16) hx hb dX11_goStep_83 (by decide) ?_
                  refine lv_iload hx hb dX11_goStep_85 (lv_at hl 1 rfl) ?_
                  refine lv_iadd hx hb dX11_goStep_87 ?_
                  rw [show 16 + (nI j92) = nI (j92 + 16) from (nI_add 16 j92).trans (congrArg nI (by omega))]
                  refine lv_iload hx hb dX11_goStep_88 (lv_at hl 0 rfl) ?_
                  refine lv_sipush (v := 999) hx hb dX11_goStep_90 (by decide) ?_
                  refine lv_icmp_le (tgt := 102) hx hb dX11_goStep_93 (by decide) (fun h460 => ?_) (fun h461 => ?_)
                  · skip
                    refine lv_iload hx hb dX11_goStep_102 (lv_at hl 0 rfl) ?_
                    refine va_iast hx hb hK hP hD hS 0 0 rfl rfl (vp_in_nI (by omega) (by decide)) dX11_goStep_104 (fun H locs hP hD hS => ?_)
                    rw [nI_clamp (n := (j92 + 16)) (by omega)] at hP hD
                    have hr462 : kr_t 30 (upd x415 (j92 + 16) (x415 (j92 + 16))) := kr_up hr_x415 (kr_move (p := (j92 + 16)) (hr_x415 (j92 + 16) (by omega)) (by unfold kr_a; omega) (by unfold kr_s; omega))
                    have hk463 : (upd x415 (j92 + 16) (x415 (j92 + 16))) 0 = (nI fi) := (pk_un (by omega)).trans hk_x415_0
                    have hk464 : (upd x415 (j92 + 16) (x415 (j92 + 16))) 1 = (nI gl) := (pk_un (by omega)).trans hk_x415_1
                    have hP : va_P D vwCl [(to, .inl (y 0, 30, .inl (upd x415 (j92 + 16) (x415 (j92 + 16)))))] H := hP
                    have hD : va_D A [(to, .inl (y 0, 30, .inl (upd x415 (j92 + 16) (x415 (j92 + 16)))))] := hD
                    refine lv_iinc (v := (nI (j92 + 1))) (lv' := [(5, .int (nI (j92 + 1))), (6, .int (x415 (j92 + 16))), (4, .int (r385 / r380)), (3, .int r380), (2, .int (nI j91)), (1, .int x186), (0, .ref to)]) hx hb dX11_goStep_105 hl (k := 1) rfl (nI_1 j92) (by decide) rfl (fun ls hl => ?_)
                    refine lv_goto (tgt := 41) hx hb dX11_goStep_108 (by decide) ?_
                    exact ihj92 (j92 + 1) (upd x415 (j92 + 16) (x415 (j92 + 16))) H locs ls (by omega) (by omega) hr462 hk463 hk464 (hP.sub [0] rfl) (hD.sub [0] (by decide) rfl) hS (lv_sub hl [0, 2, 3, 4, 5, 6] rfl)
                  · skip
                    exact absurd ((hr_x415 (j92 + 16) (by omega)).2 (by unfold kr_s; omega)) h461
                · skip
                  have h459 : w455 = j91 := (nI_eq (a := w455) (b := j91) (by omega) (by omega)).mp h459
                  refine lv_aload_n hx hb dX11_goStep_60 rfl (lv_at hl 5 rfl) ?_
                  refine lv_bipush (v := 16) hx hb dX11_goStep_61 (by decide) ?_
                  refine lv_iload hx hb dX11_goStep_63 (lv_at hl 0 rfl) ?_
                  refine lv_iadd hx hb dX11_goStep_65 ?_
                  rw [show 16 + (nI j92) = nI (j92 + 16) from (nI_add 16 j92).trans (congrArg nI (by omega))]
                  refine va_iald hx hb hK hP 0 0 rfl rfl (vp_in_nI (by omega) (by decide)) dX11_goStep_66 ?_
                  rw [nI_clamp (n := (j92 + 16)) (by omega)]
                  refine lv_iload hx hb dX11_goStep_67 (lv_at hl 1 rfl) ?_
                  refine lv_iadd hx hb dX11_goStep_69 ?_
                  refine lv_goto (tgt := 80) hx hb dX11_goStep_70 (by decide) ?_
                  refine lv_istore (lv' := [(6, .int ((x415 (j92 + 16)) + (r385 / r380))), (5, .int (nI j92)), (4, .int (r385 / r380)), (3, .int r380), (2, .int (nI j91)), (1, .int x186), (0, .ref to)]) hx hb dX11_goStep_80 hl (by decide) rfl (fun ls hl => ?_)
                  refine lv_aload_n hx hb dX11_goStep_82 rfl (lv_at hl 6 rfl) ?_
                  refine lv_bipush (v := 16) hx hb dX11_goStep_83 (by decide) ?_
                  refine lv_iload hx hb dX11_goStep_85 (lv_at hl 1 rfl) ?_
                  refine lv_iadd hx hb dX11_goStep_87 ?_
                  rw [show 16 + (nI j92) = nI (j92 + 16) from (nI_add 16 j92).trans (congrArg nI (by omega))]
                  refine lv_iload hx hb dX11_goStep_88 (lv_at hl 0 rfl) ?_
                  refine lv_sipush (v := 999) hx hb dX11_goStep_90 (by decide) ?_
                  refine lv_icmp_le (tgt := 102) hx hb dX11_goStep_93 (by decide) (fun h465 => ?_) (fun h466 => ?_)
                  · skip
                    refine lv_iload hx hb dX11_goStep_102 (lv_at hl 0 rfl) ?_
                    refine va_iast hx hb hK hP hD hS 0 0 rfl rfl (vp_in_nI (by omega) (by decide)) dX11_goStep_104 (fun H locs hP hD hS => ?_)
                    rw [nI_clamp (n := (j92 + 16)) (by omega)] at hP hD
                    have hr467 : kr_t 30 (upd x415 (j92 + 16) ((x415 (j92 + 16)) + (r385 / r380))) := kr_up hr_x415 (kr_oks (by unfold kr_a; omega) (h465))
                    have hk468 : (upd x415 (j92 + 16) ((x415 (j92 + 16)) + (r385 / r380))) 0 = (nI fi) := (pk_un (by omega)).trans hk_x415_0
                    have hk469 : (upd x415 (j92 + 16) ((x415 (j92 + 16)) + (r385 / r380))) 1 = (nI gl) := (pk_un (by omega)).trans hk_x415_1
                    have hP : va_P D vwCl [(to, .inl (y 0, 30, .inl (upd x415 (j92 + 16) ((x415 (j92 + 16)) + (r385 / r380)))))] H := hP
                    have hD : va_D A [(to, .inl (y 0, 30, .inl (upd x415 (j92 + 16) ((x415 (j92 + 16)) + (r385 / r380)))))] := hD
                    refine lv_iinc (v := (nI (j92 + 1))) (lv' := [(5, .int (nI (j92 + 1))), (6, .int ((x415 (j92 + 16)) + (r385 / r380))), (4, .int (r385 / r380)), (3, .int r380), (2, .int (nI j91)), (1, .int x186), (0, .ref to)]) hx hb dX11_goStep_105 hl (k := 1) rfl (nI_1 j92) (by decide) rfl (fun ls hl => ?_)
                    refine lv_goto (tgt := 41) hx hb dX11_goStep_108 (by decide) ?_
                    exact ihj92 (j92 + 1) (upd x415 (j92 + 16) ((x415 (j92 + 16)) + (r385 / r380))) H locs ls (by omega) (by omega) hr467 hk468 hk469 (hP.sub [0] rfl) (hD.sub [0] (by decide) rfl) hS (lv_sub hl [0, 2, 3, 4, 5, 6] rfl)
                  · skip
                    refine lv_sipush (v := 999) hx hb dX11_goStep_96 (by decide) ?_
                    refine lv_goto (tgt := 104) hx hb dX11_goStep_99 (by decide) ?_
                    refine va_iast hx hb hK hP hD hS 0 0 rfl rfl (vp_in_nI (by omega) (by decide)) dX11_goStep_104 (fun H locs hP hD hS => ?_)
                    rw [nI_clamp (n := (j92 + 16)) (by omega)] at hP hD
                    have hr470 : kr_t 30 (upd x415 (j92 + 16) 999) := kr_up hr_x415 (kr_oks (by unfold kr_a; omega) (by decide))
                    have hk471 : (upd x415 (j92 + 16) 999) 0 = (nI fi) := (pk_un (by omega)).trans hk_x415_0
                    have hk472 : (upd x415 (j92 + 16) 999) 1 = (nI gl) := (pk_un (by omega)).trans hk_x415_1
                    have hP : va_P D vwCl [(to, .inl (y 0, 30, .inl (upd x415 (j92 + 16) 999)))] H := hP
                    have hD : va_D A [(to, .inl (y 0, 30, .inl (upd x415 (j92 + 16) 999)))] := hD
                    refine lv_iinc (v := (nI (j92 + 1))) (lv' := [(5, .int (nI (j92 + 1))), (6, .int ((x415 (j92 + 16)) + (r385 / r380))), (4, .int (r385 / r380)), (3, .int r380), (2, .int (nI j91)), (1, .int x186), (0, .ref to)]) hx hb dX11_goStep_105 hl (k := 1) rfl (nI_1 j92) (by decide) rfl (fun ls hl => ?_)
                    refine lv_goto (tgt := 41) hx hb dX11_goStep_108 (by decide) ?_
                    exact ihj92 (j92 + 1) (upd x415 (j92 + 16) 999) H locs ls (by omega) (by omega) hr470 hk471 hk472 (hP.sub [0] rfl) (hD.sub [0] (by decide) rfl) hS (lv_sub hl [0, 2, 3, 4, 5, 6] rfl)
          exact lp444 (gl + 1) 0 x187 _ _ _ (by omega) (by omega) hr_x187 hk_x187_0 hk_x187_1 hP hD hS (lv_sub hl [0, 1, 2, 3, 4, 5] rfl)
        · skip
          refine lv_iconst (v := 0) hx hb dX11_goStep_21 (by decide) ?_
          refine lv_goto (tgt := 36) hx hb dX11_goStep_22 (by decide) ?_
          refine lv_istore (lv' := [(4, .int 0), (3, .int r380), (2, .int (nI j91)), (1, .int x186), (0, .ref to)]) hx hb dX11_goStep_36 hl (by decide) rfl (fun ls hl => ?_)
          refine lv_iconst (v := 0) hx hb dX11_goStep_38 (by decide) ?_
          refine lv_istore (lv' := [(5, .int 0), (4, .int 0), (3, .int r380), (2, .int (nI j91)), (1, .int x186), (0, .ref to)]) hx hb dX11_goStep_39 hl (by decide) rfl (fun ls hl => ?_)
          have lp530 : ∀ (fuj92 j92 : Nat) (x501 : Nat → Int32) (H : Heap) (locs : List Loc) (ls : Array Slot), j92 ≤ gl → gl - j92 < fuj92 → kr_t 30 x501 → x501 0 = (nI fi) → x501 1 = (nI gl) → va_P D vwCl [(to, .inl (y 0, 30, .inl x501))] H → va_D A [(to, .inl (y 0, 30, .inl x501))] → va_S A s.heap H locs → lv_has ls 7 [(5, .int (nI j92)), (4, .int 0), (3, .int r380), (2, .int (nI j91)), (1, .int x186), (0, .ref to)] → W pZ l eZ ({ frames := 5, cells := 0, slots := 0, locals := 151 }) s mZ [.ref to].toArray beZ meZ cZ H locs 0 0 (MQ beZ (va_Qi (fun (r : Int32) (u : (Nat → Int32)) => kr_t 30 u ∧ u 0 = (nI fi) ∧ u 1 = (nI gl)) (kw_B D (fun u => [(to, .inl (y 0, 30, .inl u))]) A) A) [.ref to].toArray s 0 0 A) (F0 mZ 41 ls []) := by
            intro fuj92
            induction fuj92 with
            | zero => intro j92 x501 H locs ls hj9 hf9; exact absurd hf9 (Nat.not_lt_zero _)
            | succ fuj92 ihj92 =>
              intro j92 x501 H locs ls hj92 hfj92 hr_x501 hk_x501_0 hk_x501_1 hP hD hS hl
              refine lv_iload hx hb dX11_goStep_41 (lv_at hl 0 rfl) ?_
              refine lv_aload_n hx hb dX11_goStep_43 rfl (lv_at hl 5 rfl) ?_
              refine lv_iconst (v := 1) hx hb dX11_goStep_44 (by decide) ?_
              refine va_iald hx hb hK hP 0 0 rfl rfl (by unfold vp_in; decide) dX11_goStep_45 ?_
              rw [show ((1 : Int32)).toNatClampNeg = 1 from rfl]
              rw [show (x501 1) = (nI gl) from hk_x501_1]
              refine lv_icmp_ge (tgt := 111) hx hb dX11_goStep_46 (by decide) (fun h531 => ?_) (fun h532 => ?_)
              · skip
                have h531 : gl ≤ j92 := (nI_leI (a := gl) (b := j92) (by omega) (by omega)).mp h531
                refine lv_aload_n hx hb dX11_goStep_111 rfl (lv_at hl 5 rfl) ?_
                refine lv_iconst (v := 5) hx hb dX11_goStep_112 (by decide) ?_
                refine lv_iload_n hx hb dX11_goStep_113 rfl (lv_at hl 3 rfl) ?_
                refine lv_iadd hx hb dX11_goStep_114 ?_
                rw [show 5 + (nI j91) = nI (j91 + 5) from (nI_add 5 j91).trans (congrArg nI (by omega))]
                refine va_iald hx hb hK hP 0 0 rfl rfl (vp_in_nI (by omega) (by decide)) dX11_goStep_115 ?_
                rw [nI_clamp (n := (j91 + 5)) (by omega)]
                refine lv_iload hx hb dX11_goStep_116 (lv_at hl 1 rfl) ?_
                refine lv_iload_n hx hb dX11_goStep_118 rfl (lv_at hl 2 rfl) ?_
                refine lv_imul hx hb dX11_goStep_119 ?_
                refine lv_isub hx hb dX11_goStep_120 ?_
                refine lv_istore (lv' := [(5, .int ((x501 (j91 + 5)) - (0 * r380))), (4, .int 0), (3, .int r380), (2, .int (nI j91)), (1, .int x186), (0, .ref to)]) hx hb dX11_goStep_121 hl (by decide) rfl (fun ls hl => ?_)
                refine lv_aload_n hx hb dX11_goStep_123 rfl (lv_at hl 5 rfl) ?_
                refine lv_iconst (v := 5) hx hb dX11_goStep_124 (by decide) ?_
                refine lv_iload_n hx hb dX11_goStep_125 rfl (lv_at hl 3 rfl) ?_
                refine lv_iadd hx hb dX11_goStep_126 ?_
                rw [show 5 + (nI j91) = nI (j91 + 5) from (nI_add 5 j91).trans (congrArg nI (by omega))]
                refine lv_iload hx hb dX11_goStep_127 (lv_at hl 0 rfl) ?_
                refine lv_if_ge (tgt := 136) hx hb dX11_goStep_129 (by decide) (fun h533 => ?_) (fun h534 => ?_)
                · skip
                  refine lv_iload hx hb dX11_goStep_136 (lv_at hl 0 rfl) ?_
                  refine va_iast hx hb hK hP hD hS 0 0 rfl rfl (vp_in_nI (by omega) (by decide)) dX11_goStep_138 (fun H locs hP hD hS => ?_)
                  rw [nI_clamp (n := (j91 + 5)) (by omega)] at hP hD
                  have hr535 : kr_t 30 (upd x501 (j91 + 5) ((x501 (j91 + 5)) - (0 * r380))) := kr_up hr_x501 (kr_free (by unfold kr_a; omega) (by unfold kr_s; omega))
                  have hk536 : (upd x501 (j91 + 5) ((x501 (j91 + 5)) - (0 * r380))) 0 = (nI fi) := (pk_un (by omega)).trans hk_x501_0
                  have hk537 : (upd x501 (j91 + 5) ((x501 (j91 + 5)) - (0 * r380))) 1 = (nI gl) := (pk_un (by omega)).trans hk_x501_1
                  have hP : va_P D vwCl [(to, .inl (y 0, 30, .inl (upd x501 (j91 + 5) ((x501 (j91 + 5)) - (0 * r380)))))] H := hP
                  have hD : va_D A [(to, .inl (y 0, 30, .inl (upd x501 (j91 + 5) ((x501 (j91 + 5)) - (0 * r380)))))] := hD
                  refine lv_iload_n hx hb dX11_goStep_139 rfl (lv_at hl 4 rfl) ?_
                  refine lv_iload hx hb dX11_goStep_140 (lv_at hl 1 rfl) ?_
                  refine lv_iload_n hx hb dX11_goStep_142 rfl (lv_at hl 2 rfl) ?_
                  refine lv_imul hx hb dX11_goStep_143 ?_
                  refine lv_iadd hx hb dX11_goStep_144 ?_
                  refine lv_istore_n (lv' := [(1, .int (x186 + (0 * r380))), (5, .int ((x501 (j91 + 5)) - (0 * r380))), (4, .int 0), (3, .int r380), (2, .int (nI j91)), (0, .ref to)]) hx hb dX11_goStep_145 rfl hl (by decide) rfl (fun ls hl => ?_)
                  refine lv_iinc (v := (nI (j91 + 1))) (lv' := [(2, .int (nI (j91 + 1))), (1, .int (x186 + (0 * r380))), (5, .int ((x501 (j91 + 5)) - (0 * r380))), (4, .int 0), (3, .int r380), (0, .ref to)]) hx hb dX11_goStep_146 hl (k := 4) rfl (nI_1 j91) (by decide) rfl (fun ls hl => ?_)
                  refine lv_goto (tgt := 4) hx hb dX11_goStep_149 (by decide) ?_
                  exact ihj91 (j91 + 1) (x186 + (0 * r380)) (upd x501 (j91 + 5) ((x501 (j91 + 5)) - (0 * r380))) H locs ls (by omega) (by omega) hr535 hk536 hk537 (hP.sub [0] rfl) (hD.sub [0] (by decide) rfl) hS (lv_sub hl [0, 1, 5] rfl)
                · skip
                  refine lv_iconst (v := 0) hx hb dX11_goStep_132 (by decide) ?_
                  refine lv_goto (tgt := 138) hx hb dX11_goStep_133 (by decide) ?_
                  refine va_iast hx hb hK hP hD hS 0 0 rfl rfl (vp_in_nI (by omega) (by decide)) dX11_goStep_138 (fun H locs hP hD hS => ?_)
                  rw [nI_clamp (n := (j91 + 5)) (by omega)] at hP hD
                  have hr538 : kr_t 30 (upd x501 (j91 + 5) 0) := kr_up hr_x501 (kr_ok0)
                  have hk539 : (upd x501 (j91 + 5) 0) 0 = (nI fi) := (pk_un (by omega)).trans hk_x501_0
                  have hk540 : (upd x501 (j91 + 5) 0) 1 = (nI gl) := (pk_un (by omega)).trans hk_x501_1
                  have hP : va_P D vwCl [(to, .inl (y 0, 30, .inl (upd x501 (j91 + 5) 0)))] H := hP
                  have hD : va_D A [(to, .inl (y 0, 30, .inl (upd x501 (j91 + 5) 0)))] := hD
                  refine lv_iload_n hx hb dX11_goStep_139 rfl (lv_at hl 4 rfl) ?_
                  refine lv_iload hx hb dX11_goStep_140 (lv_at hl 1 rfl) ?_
                  refine lv_iload_n hx hb dX11_goStep_142 rfl (lv_at hl 2 rfl) ?_
                  refine lv_imul hx hb dX11_goStep_143 ?_
                  refine lv_iadd hx hb dX11_goStep_144 ?_
                  refine lv_istore_n (lv' := [(1, .int (x186 + (0 * r380))), (5, .int ((x501 (j91 + 5)) - (0 * r380))), (4, .int 0), (3, .int r380), (2, .int (nI j91)), (0, .ref to)]) hx hb dX11_goStep_145 rfl hl (by decide) rfl (fun ls hl => ?_)
                  refine lv_iinc (v := (nI (j91 + 1))) (lv' := [(2, .int (nI (j91 + 1))), (1, .int (x186 + (0 * r380))), (5, .int ((x501 (j91 + 5)) - (0 * r380))), (4, .int 0), (3, .int r380), (0, .ref to)]) hx hb dX11_goStep_146 hl (k := 4) rfl (nI_1 j91) (by decide) rfl (fun ls hl => ?_)
                  refine lv_goto (tgt := 4) hx hb dX11_goStep_149 (by decide) ?_
                  exact ihj91 (j91 + 1) (x186 + (0 * r380)) (upd x501 (j91 + 5) 0) H locs ls (by omega) (by omega) hr538 hk539 hk540 (hP.sub [0] rfl) (hD.sub [0] (by decide) rfl) hS (lv_sub hl [0, 1, 5] rfl)
              · skip
                have h532 : ¬ gl ≤ j92 := fun q9 => h532 ((nI_leI (a := gl) (b := j92) (by omega) (by omega)).mpr q9)
                refine lv_aload_n hx hb dX11_goStep_49 rfl (lv_at hl 5 rfl) ?_
                refine lv_bipush (v := 11) hx hb dX11_goStep_50 (by decide) ?_
                refine lv_iload hx hb dX11_goStep_52 (lv_at hl 0 rfl) ?_
                refine lv_iadd hx hb dX11_goStep_54 ?_
                rw [show 11 + (nI j92) = nI (j92 + 11) from (nI_add 11 j92).trans (congrArg nI (by omega))]
                refine va_iald hx hb hK hP 0 0 rfl rfl (vp_in_nI (by omega) (by decide)) dX11_goStep_55 ?_
                rw [nI_clamp (n := (j92 + 11)) (by omega)]
                obtain ⟨w541, h542, h543⟩ := kr_at hr_x501 (p := (j92 + 11)) (by omega) (by unfold kr_a; omega)
                rw [h543]
                refine lv_iload_n hx hb dX11_goStep_56 rfl (lv_at hl 3 rfl) ?_
                refine lv_icmp_ne (tgt := 73) hx hb dX11_goStep_57 (by decide) (fun h544 => ?_) (fun h545 => ?_)
                · skip
                  have h544 : ¬ w541 = j91 := fun q9 => h544 ((nI_eq (a := w541) (b := j91) (by omega) (by omega)).mpr q9)
                  refine lv_aload_n hx hb dX11_goStep_73 rfl (lv_at hl 5 rfl) ?_
                  refine lv_bipush (v := 16) hx hb dX11_goStep_74 (by decide) ?_
                  refine lv_iload hx hb dX11_goStep_76 (lv_at hl 0 rfl) ?_
                  refine lv_iadd hx hb dX11_goStep_78 ?_
                  rw [show 16 + (nI j92) = nI (j92 + 16) from (nI_add 16 j92).trans (congrArg nI (by omega))]
                  refine va_iald hx hb hK hP 0 0 rfl rfl (vp_in_nI (by omega) (by decide)) dX11_goStep_79 ?_
                  rw [nI_clamp (n := (j92 + 16)) (by omega)]
                  refine lv_istore (lv' := [(6, .int (x501 (j92 + 16))), (5, .int (nI j92)), (4, .int 0), (3, .int r380), (2, .int (nI j91)), (1, .int x186), (0, .ref to)]) hx hb dX11_goStep_80 hl (by decide) rfl (fun ls hl => ?_)
                  refine lv_aload_n hx hb dX11_goStep_82 rfl (lv_at hl 6 rfl) ?_
                  refine lv_bipush (v := 16) hx hb dX11_goStep_83 (by decide) ?_
                  refine lv_iload hx hb dX11_goStep_85 (lv_at hl 1 rfl) ?_
                  refine lv_iadd hx hb dX11_goStep_87 ?_
                  rw [show 16 + (nI j92) = nI (j92 + 16) from (nI_add 16 j92).trans (congrArg nI (by omega))]
                  refine lv_iload hx hb dX11_goStep_88 (lv_at hl 0 rfl) ?_
                  refine lv_sipush (v := 999) hx hb dX11_goStep_90 (by decide) ?_
                  refine lv_icmp_le (tgt := 102) hx hb dX11_goStep_93 (by decide) (fun h546 => ?_) (fun h547 => ?_)
                  · skip
                    refine lv_iload hx hb dX11_goStep_102 (lv_at hl 0 rfl) ?_
                    refine va_iast hx hb hK hP hD hS 0 0 rfl rfl (vp_in_nI (by omega) (by decide)) dX11_goStep_104 (fun H locs hP hD hS => ?_)
                    rw [nI_clamp (n := (j92 + 16)) (by omega)] at hP hD
                    have hr548 : kr_t 30 (upd x501 (j92 + 16) (x501 (j92 + 16))) := kr_up hr_x501 (kr_move (p := (j92 + 16)) (hr_x501 (j92 + 16) (by omega)) (by unfold kr_a; omega) (by unfold kr_s; omega))
                    have hk549 : (upd x501 (j92 + 16) (x501 (j92 + 16))) 0 = (nI fi) := (pk_un (by omega)).trans hk_x501_0
                    have hk550 : (upd x501 (j92 + 16) (x501 (j92 + 16))) 1 = (nI gl) := (pk_un (by omega)).trans hk_x501_1
                    have hP : va_P D vwCl [(to, .inl (y 0, 30, .inl (upd x501 (j92 + 16) (x501 (j92 + 16)))))] H := hP
                    have hD : va_D A [(to, .inl (y 0, 30, .inl (upd x501 (j92 + 16) (x501 (j92 + 16)))))] := hD
                    refine lv_iinc (v := (nI (j92 + 1))) (lv' := [(5, .int (nI (j92 + 1))), (6, .int (x501 (j92 + 16))), (4, .int 0), (3, .int r380), (2, .int (nI j91)), (1, .int x186), (0, .ref to)]) hx hb dX11_goStep_105 hl (k := 1) rfl (nI_1 j92) (by decide) rfl (fun ls hl => ?_)
                    refine lv_goto (tgt := 41) hx hb dX11_goStep_108 (by decide) ?_
                    exact ihj92 (j92 + 1) (upd x501 (j92 + 16) (x501 (j92 + 16))) H locs ls (by omega) (by omega) hr548 hk549 hk550 (hP.sub [0] rfl) (hD.sub [0] (by decide) rfl) hS (lv_sub hl [0, 2, 3, 4, 5, 6] rfl)
                  · skip
                    exact absurd ((hr_x501 (j92 + 16) (by omega)).2 (by unfold kr_s; omega)) h547
                · skip
                  have h545 : w541 = j91 := (nI_eq (a := w541) (b := j91) (by omega) (by omega)).mp h545
                  refine lv_aload_n hx hb dX11_goStep_60 rfl (lv_at hl 5 rfl) ?_
                  refine lv_bipush (v := 16) hx hb dX11_goStep_61 (by decide) ?_
                  refine lv_iload hx hb dX11_goStep_63 (lv_at hl 0 rfl) ?_
                  refine lv_iadd hx hb dX11_goStep_65 ?_
                  rw [show 16 + (nI j92) = nI (j92 + 16) from (nI_add 16 j92).trans (congrArg nI (by omega))]
                  refine va_iald hx hb hK hP 0 0 rfl rfl (vp_in_nI (by omega) (by decide)) dX11_goStep_66 ?_
                  rw [nI_clamp (n := (j92 + 16)) (by omega)]
                  refine lv_iload hx hb dX11_goStep_67 (lv_at hl 1 rfl) ?_
                  refine lv_iadd hx hb dX11_goStep_69 ?_
                  refine lv_goto (tgt := 80) hx hb dX11_goStep_70 (by decide) ?_
                  refine lv_istore (lv' := [(6, .int ((x501 (j92 + 16)) + 0)), (5, .int (nI j92)), (4, .int 0), (3, .int r380), (2, .int (nI j91)), (1, .int x186), (0, .ref to)]) hx hb dX11_goStep_80 hl (by decide) rfl (fun ls hl => ?_)
                  refine lv_aload_n hx hb dX11_goStep_82 rfl (lv_at hl 6 rfl) ?_
                  refine lv_bipush (v := 16) hx hb dX11_goStep_83 (by decide) ?_
                  refine lv_iload hx hb dX11_goStep_85 (lv_at hl 1 rfl) ?_
                  refine lv_iadd hx hb dX11_goStep_87 ?_
                  rw [show 16 + (nI j92) = nI (j92 + 16) from (nI_add 16 j92).trans (congrArg nI (by omega))]
                  refine lv_iload hx hb dX11_goStep_88 (lv_at hl 0 rfl) ?_
                  refine lv_sipush (v := 999) hx hb dX11_goStep_90 (by decide) ?_
                  refine lv_icmp_le (tgt := 102) hx hb dX11_goStep_93 (by decide) (fun h551 => ?_) (fun h552 => ?_)
                  · skip
                    refine lv_iload hx hb dX11_goStep_102 (lv_at hl 0 rfl) ?_
                    refine va_iast hx hb hK hP hD hS 0 0 rfl rfl (vp_in_nI (by omega) (by decide)) dX11_goStep_104 (fun H locs hP hD hS => ?_)
                    rw [nI_clamp (n := (j92 + 16)) (by omega)] at hP hD
                    have hr553 : kr_t 30 (upd x501 (j92 + 16) ((x501 (j92 + 16)) + 0)) := kr_up hr_x501 (kr_oks (by unfold kr_a; omega) (h551))
                    have hk554 : (upd x501 (j92 + 16) ((x501 (j92 + 16)) + 0)) 0 = (nI fi) := (pk_un (by omega)).trans hk_x501_0
                    have hk555 : (upd x501 (j92 + 16) ((x501 (j92 + 16)) + 0)) 1 = (nI gl) := (pk_un (by omega)).trans hk_x501_1
                    have hP : va_P D vwCl [(to, .inl (y 0, 30, .inl (upd x501 (j92 + 16) ((x501 (j92 + 16)) + 0))))] H := hP
                    have hD : va_D A [(to, .inl (y 0, 30, .inl (upd x501 (j92 + 16) ((x501 (j92 + 16)) + 0))))] := hD
                    refine lv_iinc (v := (nI (j92 + 1))) (lv' := [(5, .int (nI (j92 + 1))), (6, .int ((x501 (j92 + 16)) + 0)), (4, .int 0), (3, .int r380), (2, .int (nI j91)), (1, .int x186), (0, .ref to)]) hx hb dX11_goStep_105 hl (k := 1) rfl (nI_1 j92) (by decide) rfl (fun ls hl => ?_)
                    refine lv_goto (tgt := 41) hx hb dX11_goStep_108 (by decide) ?_
                    exact ihj92 (j92 + 1) (upd x501 (j92 + 16) ((x501 (j92 + 16)) + 0)) H locs ls (by omega) (by omega) hr553 hk554 hk555 (hP.sub [0] rfl) (hD.sub [0] (by decide) rfl) hS (lv_sub hl [0, 2, 3, 4, 5, 6] rfl)
                  · skip
                    refine lv_sipush (v := 999) hx hb dX11_goStep_96 (by decide) ?_
                    refine lv_goto (tgt := 104) hx hb dX11_goStep_99 (by decide) ?_
                    refine va_iast hx hb hK hP hD hS 0 0 rfl rfl (vp_in_nI (by omega) (by decide)) dX11_goStep_104 (fun H locs hP hD hS => ?_)
                    rw [nI_clamp (n := (j92 + 16)) (by omega)] at hP hD
                    have hr556 : kr_t 30 (upd x501 (j92 + 16) 999) := kr_up hr_x501 (kr_oks (by unfold kr_a; omega) (by decide))
                    have hk557 : (upd x501 (j92 + 16) 999) 0 = (nI fi) := (pk_un (by omega)).trans hk_x501_0
                    have hk558 : (upd x501 (j92 + 16) 999) 1 = (nI gl) := (pk_un (by omega)).trans hk_x501_1
                    have hP : va_P D vwCl [(to, .inl (y 0, 30, .inl (upd x501 (j92 + 16) 999)))] H := hP
                    have hD : va_D A [(to, .inl (y 0, 30, .inl (upd x501 (j92 + 16) 999)))] := hD
                    refine lv_iinc (v := (nI (j92 + 1))) (lv' := [(5, .int (nI (j92 + 1))), (6, .int ((x501 (j92 + 16)) + 0)), (4, .int 0), (3, .int r380), (2, .int (nI j91)), (1, .int x186), (0, .ref to)]) hx hb dX11_goStep_105 hl (k := 1) rfl (nI_1 j92) (by decide) rfl (fun ls hl => ?_)
                    refine lv_goto (tgt := 41) hx hb dX11_goStep_108 (by decide) ?_
                    exact ihj92 (j92 + 1) (upd x501 (j92 + 16) 999) H locs ls (by omega) (by omega) hr556 hk557 hk558 (hP.sub [0] rfl) (hD.sub [0] (by decide) rfl) hS (lv_sub hl [0, 2, 3, 4, 5, 6] rfl)
          exact lp530 (gl + 1) 0 x187 _ _ _ (by omega) (by omega) hr_x187 hk_x187_0 hk_x187_1 hP hD hS (lv_sub hl [0, 1, 2, 3, 4, 5] rfl)
  exact lp373 (fi + 1) 0 0 ft _ _ _ (by omega) (by omega) hkt hk0_ hk1_ hP hD hS (lv_sub hl [0, 1, 2] rfl)

set_option maxHeartbeats 4000000 in
set_option maxRecDepth 100000 in
theorem gr_goNight228 (l : Launch) (D : va_G) (y : Nat → ClassId) (to : Nat) (ft : Nat → Int32) (fi : Nat) (gl : Nat) (mi : Nat) (no : Nat) (un : Nat) (hk0_ : ft 0 = (nI fi)) (hk1_ : ft 1 = (nI gl)) (hk2_ : ft 2 = (nI mi)) (hk3_ : ft 3 = (nI no)) (hk4_ : ft 4 = (nI un)) (hkt : kr_t 228 ft) (hfi : fi ≤ 6) (hgl : gl ≤ 5) (hmi : mi ≤ 4) (hno : no ≤ 6) (hun : un ≤ 8) : kw_Mv l yX11_goNight wsX11_goNight ({ frames := 2, cells := 0, slots := 0, locals := 80 }) D y [.ref to] [(to, .inl (y 0, 228, .inl ft))] (fun (u : (Nat → Int32)) => kr_t 228 u ∧ u 0 = (nI fi) ∧ u 1 = (nI gl) ∧ u 2 = (nI mi) ∧ u 3 = (nI no) ∧ u 4 = (nI un)) (fun u => [(to, .inl (y 0, 228, .inl u))]) 0 0 := by
  refine kw_Mv.of (cc := cX11_goNight) (maxL := 3) (ret := none) (by decide) rfl ?_
  intro pZ eZ s mZ beZ meZ cZ A hE
  obtain ⟨hx, hb, hr, hml, hts, hown, hlocks, hin, hA, hP, hD, hK, hN⟩ := hE
  have hS : va_S A s.heap s.heap [] := va_S.rf
  have hl := lv_entry ([.ref to]) (n := 3) (Nat.le_of_ble_eq_true rfl)
  rw [lg_entry_eq]
  generalize (lg_sl ([.ref to]) ++ List.replicate (3 - (lg_sl ([.ref to])).length) Slot.unset).toArray = ls at hl ⊢
  have hl : lv_has ls 3 [(0, .ref to)] := hl
  refine lv_iconst (v := 0) hx hb dX11_goNight_0 (by decide) ?_
  refine lv_istore_n (lv' := [(1, .int 0), (0, .ref to)]) hx hb dX11_goNight_1 rfl hl (by decide) rfl (fun ls hl => ?_)
  have lp282 : ∀ (fuj91 j91 : Nat) (x141 : Nat → Int32) (H : Heap) (locs : List Loc) (ls : Array Slot), j91 ≤ gl → gl - j91 < fuj91 → kr_t 228 x141 → x141 0 = (nI fi) → x141 1 = (nI gl) → x141 2 = (nI mi) → x141 3 = (nI no) → x141 4 = (nI un) → va_P D vwCl [(to, .inl (y 0, 228, .inl x141))] H → va_D A [(to, .inl (y 0, 228, .inl x141))] → va_S A s.heap H locs → lv_has ls 3 [(1, .int (nI j91)), (0, .ref to)] → W pZ l eZ ({ frames := 2, cells := 0, slots := 0, locals := 80 }) s mZ [.ref to].toArray beZ meZ cZ H locs 0 0 (MQ beZ (va_Qv (fun (u : (Nat → Int32)) => kr_t 228 u ∧ u 0 = (nI fi) ∧ u 1 = (nI gl) ∧ u 2 = (nI mi) ∧ u 3 = (nI no) ∧ u 4 = (nI un)) (kw_B D (fun u => [(to, .inl (y 0, 228, .inl u))]) A) A) [.ref to].toArray s 0 0 A) (F0 mZ 2 ls []) := by
    intro fuj91
    induction fuj91 with
    | zero => intro j91 x141 H locs ls hj9 hf9; exact absurd hf9 (Nat.not_lt_zero _)
    | succ fuj91 ihj91 =>
      intro j91 x141 H locs ls hj91 hfj91 hr_x141 hk_x141_0 hk_x141_1 hk_x141_2 hk_x141_3 hk_x141_4 hP hD hS hl
      refine lv_iload_n hx hb dX11_goNight_2 rfl (lv_at hl 0 rfl) ?_
      refine lv_aload_n hx hb dX11_goNight_3 rfl (lv_at hl 1 rfl) ?_
      refine lv_iconst (v := 1) hx hb dX11_goNight_4 (by decide) ?_
      refine va_iald hx hb hK hP 0 0 rfl rfl (by unfold vp_in; decide) dX11_goNight_5 ?_
      rw [show ((1 : Int32)).toNatClampNeg = 1 from rfl]
      rw [show (x141 1) = (nI gl) from hk_x141_1]
      refine lv_icmp_ge (tgt := 30) hx hb dX11_goNight_6 (by decide) (fun h283 => ?_) (fun h284 => ?_)
      · skip
        have h283 : gl ≤ j91 := (nI_leI (a := gl) (b := j91) (by omega) (by omega)).mp h283
        refine lv_iconst (v := 0) hx hb dX11_goNight_30 (by decide) ?_
        refine lv_istore_n (lv' := [(1, .int 0), (0, .ref to)]) hx hb dX11_goNight_31 rfl hl (by decide) rfl (fun ls hl => ?_)
        have lp370 : ∀ (fuj92 j92 : Nat) (x327 : Nat → Int32) (H : Heap) (locs : List Loc) (ls : Array Slot), j92 ≤ fi → fi - j92 < fuj92 → kr_t 228 x327 → x327 0 = (nI fi) → x327 1 = (nI gl) → x327 2 = (nI mi) → x327 3 = (nI no) → x327 4 = (nI un) → va_P D vwCl [(to, .inl (y 0, 228, .inl x327))] H → va_D A [(to, .inl (y 0, 228, .inl x327))] → va_S A s.heap H locs → lv_has ls 3 [(1, .int (nI j92)), (0, .ref to)] → W pZ l eZ ({ frames := 2, cells := 0, slots := 0, locals := 80 }) s mZ [.ref to].toArray beZ meZ cZ H locs 0 0 (MQ beZ (va_Qv (fun (u : (Nat → Int32)) => kr_t 228 u ∧ u 0 = (nI fi) ∧ u 1 = (nI gl) ∧ u 2 = (nI mi) ∧ u 3 = (nI no) ∧ u 4 = (nI un)) (kw_B D (fun u => [(to, .inl (y 0, 228, .inl u))]) A) A) [.ref to].toArray s 0 0 A) (F0 mZ 32 ls []) := by
          intro fuj92
          induction fuj92 with
          | zero => intro j92 x327 H locs ls hj9 hf9; exact absurd hf9 (Nat.not_lt_zero _)
          | succ fuj92 ihj92 =>
            intro j92 x327 H locs ls hj92 hfj92 hr_x327 hk_x327_0 hk_x327_1 hk_x327_2 hk_x327_3 hk_x327_4 hP hD hS hl
            refine lv_iload_n hx hb dX11_goNight_32 rfl (lv_at hl 0 rfl) ?_
            refine lv_aload_n hx hb dX11_goNight_33 rfl (lv_at hl 1 rfl) ?_
            refine lv_iconst (v := 0) hx hb dX11_goNight_34 (by decide) ?_
            refine va_iald hx hb hK hP 0 0 rfl rfl (by unfold vp_in; decide) dX11_goNight_35 ?_
            rw [show ((0 : Int32)).toNatClampNeg = 0 from rfl]
            rw [show (x327 0) = (nI fi) from hk_x327_0]
            refine lv_icmp_ge (tgt := 71) hx hb dX11_goNight_36 (by decide) (fun h371 => ?_) (fun h372 => ?_)
            · skip
              have h371 : fi ≤ j92 := (nI_leI (a := fi) (b := j92) (by omega) (by omega)).mp h371
              refine lv_aload_n hx hb dX11_goNight_71 rfl (lv_at hl 1 rfl) ?_
              refine lv_bipush (v := 23) hx hb dX11_goNight_72 (by decide) ?_
              refine lv_dup2_11 hx hb dX11_goNight_74 rfl rfl ?_
              refine va_iald hx hb hK hP 0 0 rfl rfl (by unfold vp_in; decide) dX11_goNight_75 ?_
              rw [show ((23 : Int32)).toNatClampNeg = 23 from rfl]
              refine lv_aload_n hx hb dX11_goNight_76 rfl (lv_at hl 1 rfl) ?_
              refine lv_bipush (v := 23) hx hb dX11_goNight_77 (by decide) ?_
              refine va_iald hx hb hK hP 0 0 rfl rfl (by unfold vp_in; decide) dX11_goNight_79 ?_
              rw [show ((23 : Int32)).toNatClampNeg = 23 from rfl]
              refine lv_sipush (v := 999) hx hb dX11_goNight_80 (by decide) ?_
              refine lv_icmp_ge (tgt := 90) hx hb dX11_goNight_83 (by decide) (fun h373 => ?_) (fun h374 => ?_)
              · skip
                refine lv_iconst (v := 0) hx hb dX11_goNight_90 (by decide) ?_
                refine lv_iadd hx hb dX11_goNight_91 ?_
                refine va_iast hx hb hK hP hD hS 0 0 rfl rfl (by unfold vp_in; decide) dX11_goNight_92 (fun H locs hP hD hS => ?_)
                rw [show ((23 : Int32)).toNatClampNeg = 23 from rfl] at hP hD
                have hr375 : kr_t 228 (upd x327 23 ((x327 23) + 0)) := kr_up hr_x327 (kr_free (by unfold kr_a; omega) (by unfold kr_s; omega))
                have hk376 : (upd x327 23 ((x327 23) + 0)) 0 = (nI fi) := (pk_un (by decide)).trans hk_x327_0
                have hk377 : (upd x327 23 ((x327 23) + 0)) 1 = (nI gl) := (pk_un (by decide)).trans hk_x327_1
                have hk378 : (upd x327 23 ((x327 23) + 0)) 2 = (nI mi) := (pk_un (by decide)).trans hk_x327_2
                have hk379 : (upd x327 23 ((x327 23) + 0)) 3 = (nI no) := (pk_un (by decide)).trans hk_x327_3
                have hk380 : (upd x327 23 ((x327 23) + 0)) 4 = (nI un) := (pk_un (by decide)).trans hk_x327_4
                have hP : va_P D vwCl [(to, .inl (y 0, 228, .inl (upd x327 23 ((x327 23) + 0))))] H := hP
                have hD : va_D A [(to, .inl (y 0, 228, .inl (upd x327 23 ((x327 23) + 0))))] := hD
                refine lv_aload_n hx hb dX11_goNight_93 rfl (lv_at hl 1 rfl) ?_
                refine lv_bipush (v := 21) hx hb dX11_goNight_94 (by decide) ?_
                refine lv_iconst (v := 0) hx hb dX11_goNight_96 (by decide) ?_
                refine va_iast hx hb hK hP hD hS 0 0 rfl rfl (by unfold vp_in; decide) dX11_goNight_97 (fun H locs hP hD hS => ?_)
                rw [show ((21 : Int32)).toNatClampNeg = 21 from rfl] at hP hD
                have hr381 : kr_t 228 (upd (upd x327 23 ((x327 23) + 0)) 21 0) := kr_up hr375 (kr_ok0)
                have hk382 : (upd (upd x327 23 ((x327 23) + 0)) 21 0) 0 = (nI fi) := (pk_un (by decide)).trans hk376
                have hk383 : (upd (upd x327 23 ((x327 23) + 0)) 21 0) 1 = (nI gl) := (pk_un (by decide)).trans hk377
                have hk384 : (upd (upd x327 23 ((x327 23) + 0)) 21 0) 2 = (nI mi) := (pk_un (by decide)).trans hk378
                have hk385 : (upd (upd x327 23 ((x327 23) + 0)) 21 0) 3 = (nI no) := (pk_un (by decide)).trans hk379
                have hk386 : (upd (upd x327 23 ((x327 23) + 0)) 21 0) 4 = (nI un) := (pk_un (by decide)).trans hk380
                have hP : va_P D vwCl [(to, .inl (y 0, 228, .inl (upd (upd x327 23 ((x327 23) + 0)) 21 0)))] H := hP
                have hD : va_D A [(to, .inl (y 0, 228, .inl (upd (upd x327 23 ((x327 23) + 0)) 21 0)))] := hD
                exact W.vret hx hb hr (fun tZ ht hW => ⟨⟨((upd (upd x327 23 ((x327 23) + 0)) 21 0)), rfl, ⟨hr381, hk382, hk383, hk384, hk385, hk386⟩, by rw [ht]; exact hP.sub [0] rfl, hD.sub [0] (by decide) rfl⟩, hS.F ht⟩) hS.2.2 dX11_goNight_98
              · skip
                refine lv_iconst (v := 1) hx hb dX11_goNight_86 (by decide) ?_
                refine lv_goto (tgt := 91) hx hb dX11_goNight_87 (by decide) ?_
                refine lv_iadd hx hb dX11_goNight_91 ?_
                refine va_iast hx hb hK hP hD hS 0 0 rfl rfl (by unfold vp_in; decide) dX11_goNight_92 (fun H locs hP hD hS => ?_)
                rw [show ((23 : Int32)).toNatClampNeg = 23 from rfl] at hP hD
                have hr387 : kr_t 228 (upd x327 23 ((x327 23) + 1)) := kr_up hr_x327 (kr_free (by unfold kr_a; omega) (by unfold kr_s; omega))
                have hk388 : (upd x327 23 ((x327 23) + 1)) 0 = (nI fi) := (pk_un (by decide)).trans hk_x327_0
                have hk389 : (upd x327 23 ((x327 23) + 1)) 1 = (nI gl) := (pk_un (by decide)).trans hk_x327_1
                have hk390 : (upd x327 23 ((x327 23) + 1)) 2 = (nI mi) := (pk_un (by decide)).trans hk_x327_2
                have hk391 : (upd x327 23 ((x327 23) + 1)) 3 = (nI no) := (pk_un (by decide)).trans hk_x327_3
                have hk392 : (upd x327 23 ((x327 23) + 1)) 4 = (nI un) := (pk_un (by decide)).trans hk_x327_4
                have hP : va_P D vwCl [(to, .inl (y 0, 228, .inl (upd x327 23 ((x327 23) + 1))))] H := hP
                have hD : va_D A [(to, .inl (y 0, 228, .inl (upd x327 23 ((x327 23) + 1))))] := hD
                refine lv_aload_n hx hb dX11_goNight_93 rfl (lv_at hl 1 rfl) ?_
                refine lv_bipush (v := 21) hx hb dX11_goNight_94 (by decide) ?_
                refine lv_iconst (v := 0) hx hb dX11_goNight_96 (by decide) ?_
                refine va_iast hx hb hK hP hD hS 0 0 rfl rfl (by unfold vp_in; decide) dX11_goNight_97 (fun H locs hP hD hS => ?_)
                rw [show ((21 : Int32)).toNatClampNeg = 21 from rfl] at hP hD
                have hr393 : kr_t 228 (upd (upd x327 23 ((x327 23) + 1)) 21 0) := kr_up hr387 (kr_ok0)
                have hk394 : (upd (upd x327 23 ((x327 23) + 1)) 21 0) 0 = (nI fi) := (pk_un (by decide)).trans hk388
                have hk395 : (upd (upd x327 23 ((x327 23) + 1)) 21 0) 1 = (nI gl) := (pk_un (by decide)).trans hk389
                have hk396 : (upd (upd x327 23 ((x327 23) + 1)) 21 0) 2 = (nI mi) := (pk_un (by decide)).trans hk390
                have hk397 : (upd (upd x327 23 ((x327 23) + 1)) 21 0) 3 = (nI no) := (pk_un (by decide)).trans hk391
                have hk398 : (upd (upd x327 23 ((x327 23) + 1)) 21 0) 4 = (nI un) := (pk_un (by decide)).trans hk392
                have hP : va_P D vwCl [(to, .inl (y 0, 228, .inl (upd (upd x327 23 ((x327 23) + 1)) 21 0)))] H := hP
                have hD : va_D A [(to, .inl (y 0, 228, .inl (upd (upd x327 23 ((x327 23) + 1)) 21 0)))] := hD
                exact W.vret hx hb hr (fun tZ ht hW => ⟨⟨((upd (upd x327 23 ((x327 23) + 1)) 21 0)), rfl, ⟨hr393, hk394, hk395, hk396, hk397, hk398⟩, by rw [ht]; exact hP.sub [0] rfl, hD.sub [0] (by decide) rfl⟩, hS.F ht⟩) hS.2.2 dX11_goNight_98
            · skip
              have h372 : ¬ fi ≤ j92 := fun q9 => h372 ((nI_leI (a := fi) (b := j92) (by omega) (by omega)).mpr q9)
              refine lv_aload_n hx hb dX11_goNight_39 rfl (lv_at hl 1 rfl) ?_
              refine lv_iconst (v := 5) hx hb dX11_goNight_40 (by decide) ?_
              refine lv_iload_n hx hb dX11_goNight_41 rfl (lv_at hl 0 rfl) ?_
              refine lv_iadd hx hb dX11_goNight_42 ?_
              rw [show 5 + (nI j92) = nI (j92 + 5) from (nI_add 5 j92).trans (congrArg nI (by omega))]
              refine va_iald hx hb hK hP 0 0 rfl rfl (vp_in_nI (by omega) (by decide)) dX11_goNight_43 ?_
              rw [nI_clamp (n := (j92 + 5)) (by omega)]
              refine lv_bipush (v := 20) hx hb dX11_goNight_44 (by decide) ?_
              refine lv_iadd hx hb dX11_goNight_46 ?_
              refine lv_istore_n (lv' := [(2, .int ((x327 (j92 + 5)) + 20)), (1, .int (nI j92)), (0, .ref to)]) hx hb dX11_goNight_47 rfl hl (by decide) rfl (fun ls hl => ?_)
              refine lv_aload_n hx hb dX11_goNight_48 rfl (lv_at hl 2 rfl) ?_
              refine lv_iconst (v := 5) hx hb dX11_goNight_49 (by decide) ?_
              refine lv_iload_n hx hb dX11_goNight_50 rfl (lv_at hl 1 rfl) ?_
              refine lv_iadd hx hb dX11_goNight_51 ?_
              rw [show 5 + (nI j92) = nI (j92 + 5) from (nI_add 5 j92).trans (congrArg nI (by omega))]
              refine lv_iload_n hx hb dX11_goNight_52 rfl (lv_at hl 0 rfl) ?_
              refine lv_bipush (v := 60) hx hb dX11_goNight_53 (by decide) ?_
              refine lv_icmp_le (tgt := 63) hx hb dX11_goNight_55 (by decide) (fun h399 => ?_) (fun h400 => ?_)
              · skip
                refine lv_iload_n hx hb dX11_goNight_63 rfl (lv_at hl 0 rfl) ?_
                refine va_iast hx hb hK hP hD hS 0 0 rfl rfl (vp_in_nI (by omega) (by decide)) dX11_goNight_64 (fun H locs hP hD hS => ?_)
                rw [nI_clamp (n := (j92 + 5)) (by omega)] at hP hD
                have hr401 : kr_t 228 (upd x327 (j92 + 5) ((x327 (j92 + 5)) + 20)) := kr_up hr_x327 (kr_free (by unfold kr_a; omega) (by unfold kr_s; omega))
                have hk402 : (upd x327 (j92 + 5) ((x327 (j92 + 5)) + 20)) 0 = (nI fi) := (pk_un (by omega)).trans hk_x327_0
                have hk403 : (upd x327 (j92 + 5) ((x327 (j92 + 5)) + 20)) 1 = (nI gl) := (pk_un (by omega)).trans hk_x327_1
                have hk404 : (upd x327 (j92 + 5) ((x327 (j92 + 5)) + 20)) 2 = (nI mi) := (pk_un (by omega)).trans hk_x327_2
                have hk405 : (upd x327 (j92 + 5) ((x327 (j92 + 5)) + 20)) 3 = (nI no) := (pk_un (by omega)).trans hk_x327_3
                have hk406 : (upd x327 (j92 + 5) ((x327 (j92 + 5)) + 20)) 4 = (nI un) := (pk_un (by omega)).trans hk_x327_4
                have hP : va_P D vwCl [(to, .inl (y 0, 228, .inl (upd x327 (j92 + 5) ((x327 (j92 + 5)) + 20))))] H := hP
                have hD : va_D A [(to, .inl (y 0, 228, .inl (upd x327 (j92 + 5) ((x327 (j92 + 5)) + 20))))] := hD
                refine lv_iinc (v := (nI (j92 + 1))) (lv' := [(1, .int (nI (j92 + 1))), (2, .int ((x327 (j92 + 5)) + 20)), (0, .ref to)]) hx hb dX11_goNight_65 hl (k := 1) rfl (nI_1 j92) (by decide) rfl (fun ls hl => ?_)
                refine lv_goto (tgt := 32) hx hb dX11_goNight_68 (by decide) ?_
                exact ihj92 (j92 + 1) (upd x327 (j92 + 5) ((x327 (j92 + 5)) + 20)) H locs ls (by omega) (by omega) hr401 hk402 hk403 hk404 hk405 hk406 (hP.sub [0] rfl) (hD.sub [0] (by decide) rfl) hS (lv_sub hl [0, 2] rfl)
              · skip
                refine lv_bipush (v := 60) hx hb dX11_goNight_58 (by decide) ?_
                refine lv_goto (tgt := 64) hx hb dX11_goNight_60 (by decide) ?_
                refine va_iast hx hb hK hP hD hS 0 0 rfl rfl (vp_in_nI (by omega) (by decide)) dX11_goNight_64 (fun H locs hP hD hS => ?_)
                rw [nI_clamp (n := (j92 + 5)) (by omega)] at hP hD
                have hr407 : kr_t 228 (upd x327 (j92 + 5) 60) := kr_up hr_x327 (kr_free (by unfold kr_a; omega) (by unfold kr_s; omega))
                have hk408 : (upd x327 (j92 + 5) 60) 0 = (nI fi) := (pk_un (by omega)).trans hk_x327_0
                have hk409 : (upd x327 (j92 + 5) 60) 1 = (nI gl) := (pk_un (by omega)).trans hk_x327_1
                have hk410 : (upd x327 (j92 + 5) 60) 2 = (nI mi) := (pk_un (by omega)).trans hk_x327_2
                have hk411 : (upd x327 (j92 + 5) 60) 3 = (nI no) := (pk_un (by omega)).trans hk_x327_3
                have hk412 : (upd x327 (j92 + 5) 60) 4 = (nI un) := (pk_un (by omega)).trans hk_x327_4
                have hP : va_P D vwCl [(to, .inl (y 0, 228, .inl (upd x327 (j92 + 5) 60)))] H := hP
                have hD : va_D A [(to, .inl (y 0, 228, .inl (upd x327 (j92 + 5) 60)))] := hD
                refine lv_iinc (v := (nI (j92 + 1))) (lv' := [(1, .int (nI (j92 + 1))), (2, .int ((x327 (j92 + 5)) + 20)), (0, .ref to)]) hx hb dX11_goNight_65 hl (k := 1) rfl (nI_1 j92) (by decide) rfl (fun ls hl => ?_)
                refine lv_goto (tgt := 32) hx hb dX11_goNight_68 (by decide) ?_
                exact ihj92 (j92 + 1) (upd x327 (j92 + 5) 60) H locs ls (by omega) (by omega) hr407 hk408 hk409 hk410 hk411 hk412 (hP.sub [0] rfl) (hD.sub [0] (by decide) rfl) hS (lv_sub hl [0, 2] rfl)
        exact lp370 (fi + 1) 0 x141 _ _ _ (by omega) (by omega) hr_x141 hk_x141_0 hk_x141_1 hk_x141_2 hk_x141_3 hk_x141_4 hP hD hS (lv_sub hl [0, 1] rfl)
      · skip
        have h284 : ¬ gl ≤ j91 := fun q9 => h284 ((nI_leI (a := gl) (b := j91) (by omega) (by omega)).mpr q9)
        refine lv_aload_n hx hb dX11_goNight_9 rfl (lv_at hl 1 rfl) ?_
        refine lv_bipush (v := 16) hx hb dX11_goNight_10 (by decide) ?_
        refine lv_iload_n hx hb dX11_goNight_12 rfl (lv_at hl 0 rfl) ?_
        refine lv_iadd hx hb dX11_goNight_13 ?_
        rw [show 16 + (nI j91) = nI (j91 + 16) from (nI_add 16 j91).trans (congrArg nI (by omega))]
        refine lv_aload_n hx hb dX11_goNight_14 rfl (lv_at hl 1 rfl) ?_
        refine lv_bipush (v := 16) hx hb dX11_goNight_15 (by decide) ?_
        refine lv_iload_n hx hb dX11_goNight_17 rfl (lv_at hl 0 rfl) ?_
        refine lv_iadd hx hb dX11_goNight_18 ?_
        rw [show 16 + (nI j91) = nI (j91 + 16) from (nI_add 16 j91).trans (congrArg nI (by omega))]
        refine va_iald hx hb hK hP 0 0 rfl rfl (vp_in_nI (by omega) (by decide)) dX11_goNight_19 ?_
        rw [nI_clamp (n := (j91 + 16)) (by omega)]
        have hs413 : kw_Split [(to, .inl (y 0, 228, .inl x141))] [] [(to, .inl (y 0, 228, .inl x141))] [] [0] := ⟨rfl, rfl, rfl, rfl, rfl, by decide⟩
        refine kw_go_i hs413 hP hD hS hA (va_runS (As := [.int (x141 (j91 + 16))]) (rest := [.int (nI (j91 + 16)), .ref to]) ⟨hx, hb, hml, hown, hts⟩ (gr_fadedBy l D y (x141 (j91 + 16)) ((hr_x141 (j91 + 16) (by omega)).2 (by unfold kr_s; omega)) _) (va_cwS 1 hts gX11_goNight_X11_fadedBy rfl rfl rfl (by decide +kernel) ⟨Nat.le_of_ble_eq_true rfl, Nat.le_of_ble_eq_true rfl⟩) (kw_PreS hs413 hP hD hK hN) rfl rfl hl.1 rfl (lv_room (Nat.le_of_ble_eq_true rfl)) dX11_goNight_20 ⟨Nat.le_of_ble_eq_true rfl, Nat.le_of_ble_eq_true rfl⟩) (fun r414 u415 H locs hq hP hD hS => ?_)
        obtain ⟨h416, rfl⟩ := hq
        have hP : va_P D vwCl [(to, .inl (y 0, 228, .inl x141))] H := hP
        have hD : va_D A [(to, .inl (y 0, 228, .inl x141))] := hD
        refine va_iast hx hb hK hP hD hS 0 0 rfl rfl (vp_in_nI (by omega) (by decide)) dX11_goNight_23 (fun H locs hP hD hS => ?_)
        rw [nI_clamp (n := (j91 + 16)) (by omega)] at hP hD
        have hr417 : kr_t 228 (upd x141 (j91 + 16) ((x141 (j91 + 16)) - (((x141 (j91 + 16)) + 3) / 4))) := kr_up hr_x141 (kr_oks (by unfold kr_a; omega) (h416))
        have hk418 : (upd x141 (j91 + 16) ((x141 (j91 + 16)) - (((x141 (j91 + 16)) + 3) / 4))) 0 = (nI fi) := (pk_un (by omega)).trans hk_x141_0
        have hk419 : (upd x141 (j91 + 16) ((x141 (j91 + 16)) - (((x141 (j91 + 16)) + 3) / 4))) 1 = (nI gl) := (pk_un (by omega)).trans hk_x141_1
        have hk420 : (upd x141 (j91 + 16) ((x141 (j91 + 16)) - (((x141 (j91 + 16)) + 3) / 4))) 2 = (nI mi) := (pk_un (by omega)).trans hk_x141_2
        have hk421 : (upd x141 (j91 + 16) ((x141 (j91 + 16)) - (((x141 (j91 + 16)) + 3) / 4))) 3 = (nI no) := (pk_un (by omega)).trans hk_x141_3
        have hk422 : (upd x141 (j91 + 16) ((x141 (j91 + 16)) - (((x141 (j91 + 16)) + 3) / 4))) 4 = (nI un) := (pk_un (by omega)).trans hk_x141_4
        have hP : va_P D vwCl [(to, .inl (y 0, 228, .inl (upd x141 (j91 + 16) ((x141 (j91 + 16)) - (((x141 (j91 + 16)) + 3) / 4)))))] H := hP
        have hD : va_D A [(to, .inl (y 0, 228, .inl (upd x141 (j91 + 16) ((x141 (j91 + 16)) - (((x141 (j91 + 16)) + 3) / 4)))))] := hD
        refine lv_iinc (v := (nI (j91 + 1))) (lv' := [(1, .int (nI (j91 + 1))), (0, .ref to)]) hx hb dX11_goNight_24 hl (k := 0) rfl (nI_1 j91) (by decide) rfl (fun ls hl => ?_)
        refine lv_goto (tgt := 2) hx hb dX11_goNight_27 (by decide) ?_
        exact ihj91 (j91 + 1) (upd x141 (j91 + 16) ((x141 (j91 + 16)) - (((x141 (j91 + 16)) + 3) / 4))) H locs ls (by omega) (by omega) hr417 hk418 hk419 hk420 hk421 hk422 (hP.sub [0] rfl) (hD.sub [0] (by decide) rfl) hS (lv_sub hl [0, 1] rfl)
  exact lp282 (gl + 1) 0 ft _ _ _ (by omega) (by omega) hkt hk0_ hk1_ hk2_ hk3_ hk4_ hP hD hS (lv_sub hl [0, 1] rfl)

set_option maxHeartbeats 4000000 in
set_option maxRecDepth 100000 in
theorem gr_goNight30 (l : Launch) (D : va_G) (y : Nat → ClassId) (to : Nat) (ft : Nat → Int32) (fi : Nat) (gl : Nat) (hk0_ : ft 0 = (nI fi)) (hk1_ : ft 1 = (nI gl)) (hkt : kr_t 30 ft) (hfi : fi ≤ 6) (hgl : gl ≤ 5) : kw_Mv l yX11_goNight wsX11_goNight ({ frames := 2, cells := 0, slots := 0, locals := 80 }) D y [.ref to] [(to, .inl (y 0, 30, .inl ft))] (fun (u : (Nat → Int32)) => kr_t 30 u ∧ u 0 = (nI fi) ∧ u 1 = (nI gl)) (fun u => [(to, .inl (y 0, 30, .inl u))]) 0 0 := by
  refine kw_Mv.of (cc := cX11_goNight) (maxL := 3) (ret := none) (by decide) rfl ?_
  intro pZ eZ s mZ beZ meZ cZ A hE
  obtain ⟨hx, hb, hr, hml, hts, hown, hlocks, hin, hA, hP, hD, hK, hN⟩ := hE
  have hS : va_S A s.heap s.heap [] := va_S.rf
  have hl := lv_entry ([.ref to]) (n := 3) (Nat.le_of_ble_eq_true rfl)
  rw [lg_entry_eq]
  generalize (lg_sl ([.ref to]) ++ List.replicate (3 - (lg_sl ([.ref to])).length) Slot.unset).toArray = ls at hl ⊢
  have hl : lv_has ls 3 [(0, .ref to)] := hl
  refine lv_iconst (v := 0) hx hb dX11_goNight_0 (by decide) ?_
  refine lv_istore_n (lv' := [(1, .int 0), (0, .ref to)]) hx hb dX11_goNight_1 rfl hl (by decide) rfl (fun ls hl => ?_)
  have lp168 : ∀ (fuj91 j91 : Nat) (x84 : Nat → Int32) (H : Heap) (locs : List Loc) (ls : Array Slot), j91 ≤ gl → gl - j91 < fuj91 → kr_t 30 x84 → x84 0 = (nI fi) → x84 1 = (nI gl) → va_P D vwCl [(to, .inl (y 0, 30, .inl x84))] H → va_D A [(to, .inl (y 0, 30, .inl x84))] → va_S A s.heap H locs → lv_has ls 3 [(1, .int (nI j91)), (0, .ref to)] → W pZ l eZ ({ frames := 2, cells := 0, slots := 0, locals := 80 }) s mZ [.ref to].toArray beZ meZ cZ H locs 0 0 (MQ beZ (va_Qv (fun (u : (Nat → Int32)) => kr_t 30 u ∧ u 0 = (nI fi) ∧ u 1 = (nI gl)) (kw_B D (fun u => [(to, .inl (y 0, 30, .inl u))]) A) A) [.ref to].toArray s 0 0 A) (F0 mZ 2 ls []) := by
    intro fuj91
    induction fuj91 with
    | zero => intro j91 x84 H locs ls hj9 hf9; exact absurd hf9 (Nat.not_lt_zero _)
    | succ fuj91 ihj91 =>
      intro j91 x84 H locs ls hj91 hfj91 hr_x84 hk_x84_0 hk_x84_1 hP hD hS hl
      refine lv_iload_n hx hb dX11_goNight_2 rfl (lv_at hl 0 rfl) ?_
      refine lv_aload_n hx hb dX11_goNight_3 rfl (lv_at hl 1 rfl) ?_
      refine lv_iconst (v := 1) hx hb dX11_goNight_4 (by decide) ?_
      refine va_iald hx hb hK hP 0 0 rfl rfl (by unfold vp_in; decide) dX11_goNight_5 ?_
      rw [show ((1 : Int32)).toNatClampNeg = 1 from rfl]
      rw [show (x84 1) = (nI gl) from hk_x84_1]
      refine lv_icmp_ge (tgt := 30) hx hb dX11_goNight_6 (by decide) (fun h169 => ?_) (fun h170 => ?_)
      · skip
        have h169 : gl ≤ j91 := (nI_leI (a := gl) (b := j91) (by omega) (by omega)).mp h169
        refine lv_iconst (v := 0) hx hb dX11_goNight_30 (by decide) ?_
        refine lv_istore_n (lv' := [(1, .int 0), (0, .ref to)]) hx hb dX11_goNight_31 rfl hl (by decide) rfl (fun ls hl => ?_)
        have lp220 : ∀ (fuj92 j92 : Nat) (x195 : Nat → Int32) (H : Heap) (locs : List Loc) (ls : Array Slot), j92 ≤ fi → fi - j92 < fuj92 → kr_t 30 x195 → x195 0 = (nI fi) → x195 1 = (nI gl) → va_P D vwCl [(to, .inl (y 0, 30, .inl x195))] H → va_D A [(to, .inl (y 0, 30, .inl x195))] → va_S A s.heap H locs → lv_has ls 3 [(1, .int (nI j92)), (0, .ref to)] → W pZ l eZ ({ frames := 2, cells := 0, slots := 0, locals := 80 }) s mZ [.ref to].toArray beZ meZ cZ H locs 0 0 (MQ beZ (va_Qv (fun (u : (Nat → Int32)) => kr_t 30 u ∧ u 0 = (nI fi) ∧ u 1 = (nI gl)) (kw_B D (fun u => [(to, .inl (y 0, 30, .inl u))]) A) A) [.ref to].toArray s 0 0 A) (F0 mZ 32 ls []) := by
          intro fuj92
          induction fuj92 with
          | zero => intro j92 x195 H locs ls hj9 hf9; exact absurd hf9 (Nat.not_lt_zero _)
          | succ fuj92 ihj92 =>
            intro j92 x195 H locs ls hj92 hfj92 hr_x195 hk_x195_0 hk_x195_1 hP hD hS hl
            refine lv_iload_n hx hb dX11_goNight_32 rfl (lv_at hl 0 rfl) ?_
            refine lv_aload_n hx hb dX11_goNight_33 rfl (lv_at hl 1 rfl) ?_
            refine lv_iconst (v := 0) hx hb dX11_goNight_34 (by decide) ?_
            refine va_iald hx hb hK hP 0 0 rfl rfl (by unfold vp_in; decide) dX11_goNight_35 ?_
            rw [show ((0 : Int32)).toNatClampNeg = 0 from rfl]
            rw [show (x195 0) = (nI fi) from hk_x195_0]
            refine lv_icmp_ge (tgt := 71) hx hb dX11_goNight_36 (by decide) (fun h221 => ?_) (fun h222 => ?_)
            · skip
              have h221 : fi ≤ j92 := (nI_leI (a := fi) (b := j92) (by omega) (by omega)).mp h221
              refine lv_aload_n hx hb dX11_goNight_71 rfl (lv_at hl 1 rfl) ?_
              refine lv_bipush (v := 23) hx hb dX11_goNight_72 (by decide) ?_
              refine lv_dup2_11 hx hb dX11_goNight_74 rfl rfl ?_
              refine va_iald hx hb hK hP 0 0 rfl rfl (by unfold vp_in; decide) dX11_goNight_75 ?_
              rw [show ((23 : Int32)).toNatClampNeg = 23 from rfl]
              refine lv_aload_n hx hb dX11_goNight_76 rfl (lv_at hl 1 rfl) ?_
              refine lv_bipush (v := 23) hx hb dX11_goNight_77 (by decide) ?_
              refine va_iald hx hb hK hP 0 0 rfl rfl (by unfold vp_in; decide) dX11_goNight_79 ?_
              rw [show ((23 : Int32)).toNatClampNeg = 23 from rfl]
              refine lv_sipush (v := 999) hx hb dX11_goNight_80 (by decide) ?_
              refine lv_icmp_ge (tgt := 90) hx hb dX11_goNight_83 (by decide) (fun h223 => ?_) (fun h224 => ?_)
              · skip
                refine lv_iconst (v := 0) hx hb dX11_goNight_90 (by decide) ?_
                refine lv_iadd hx hb dX11_goNight_91 ?_
                refine va_iast hx hb hK hP hD hS 0 0 rfl rfl (by unfold vp_in; decide) dX11_goNight_92 (fun H locs hP hD hS => ?_)
                rw [show ((23 : Int32)).toNatClampNeg = 23 from rfl] at hP hD
                have hr225 : kr_t 30 (upd x195 23 ((x195 23) + 0)) := kr_up hr_x195 (kr_free (by unfold kr_a; omega) (by unfold kr_s; omega))
                have hk226 : (upd x195 23 ((x195 23) + 0)) 0 = (nI fi) := (pk_un (by decide)).trans hk_x195_0
                have hk227 : (upd x195 23 ((x195 23) + 0)) 1 = (nI gl) := (pk_un (by decide)).trans hk_x195_1
                have hP : va_P D vwCl [(to, .inl (y 0, 30, .inl (upd x195 23 ((x195 23) + 0))))] H := hP
                have hD : va_D A [(to, .inl (y 0, 30, .inl (upd x195 23 ((x195 23) + 0))))] := hD
                refine lv_aload_n hx hb dX11_goNight_93 rfl (lv_at hl 1 rfl) ?_
                refine lv_bipush (v := 21) hx hb dX11_goNight_94 (by decide) ?_
                refine lv_iconst (v := 0) hx hb dX11_goNight_96 (by decide) ?_
                refine va_iast hx hb hK hP hD hS 0 0 rfl rfl (by unfold vp_in; decide) dX11_goNight_97 (fun H locs hP hD hS => ?_)
                rw [show ((21 : Int32)).toNatClampNeg = 21 from rfl] at hP hD
                have hr228 : kr_t 30 (upd (upd x195 23 ((x195 23) + 0)) 21 0) := kr_up hr225 (kr_ok0)
                have hk229 : (upd (upd x195 23 ((x195 23) + 0)) 21 0) 0 = (nI fi) := (pk_un (by decide)).trans hk226
                have hk230 : (upd (upd x195 23 ((x195 23) + 0)) 21 0) 1 = (nI gl) := (pk_un (by decide)).trans hk227
                have hP : va_P D vwCl [(to, .inl (y 0, 30, .inl (upd (upd x195 23 ((x195 23) + 0)) 21 0)))] H := hP
                have hD : va_D A [(to, .inl (y 0, 30, .inl (upd (upd x195 23 ((x195 23) + 0)) 21 0)))] := hD
                exact W.vret hx hb hr (fun tZ ht hW => ⟨⟨((upd (upd x195 23 ((x195 23) + 0)) 21 0)), rfl, ⟨hr228, hk229, hk230⟩, by rw [ht]; exact hP.sub [0] rfl, hD.sub [0] (by decide) rfl⟩, hS.F ht⟩) hS.2.2 dX11_goNight_98
              · skip
                refine lv_iconst (v := 1) hx hb dX11_goNight_86 (by decide) ?_
                refine lv_goto (tgt := 91) hx hb dX11_goNight_87 (by decide) ?_
                refine lv_iadd hx hb dX11_goNight_91 ?_
                refine va_iast hx hb hK hP hD hS 0 0 rfl rfl (by unfold vp_in; decide) dX11_goNight_92 (fun H locs hP hD hS => ?_)
                rw [show ((23 : Int32)).toNatClampNeg = 23 from rfl] at hP hD
                have hr231 : kr_t 30 (upd x195 23 ((x195 23) + 1)) := kr_up hr_x195 (kr_free (by unfold kr_a; omega) (by unfold kr_s; omega))
                have hk232 : (upd x195 23 ((x195 23) + 1)) 0 = (nI fi) := (pk_un (by decide)).trans hk_x195_0
                have hk233 : (upd x195 23 ((x195 23) + 1)) 1 = (nI gl) := (pk_un (by decide)).trans hk_x195_1
                have hP : va_P D vwCl [(to, .inl (y 0, 30, .inl (upd x195 23 ((x195 23) + 1))))] H := hP
                have hD : va_D A [(to, .inl (y 0, 30, .inl (upd x195 23 ((x195 23) + 1))))] := hD
                refine lv_aload_n hx hb dX11_goNight_93 rfl (lv_at hl 1 rfl) ?_
                refine lv_bipush (v := 21) hx hb dX11_goNight_94 (by decide) ?_
                refine lv_iconst (v := 0) hx hb dX11_goNight_96 (by decide) ?_
                refine va_iast hx hb hK hP hD hS 0 0 rfl rfl (by unfold vp_in; decide) dX11_goNight_97 (fun H locs hP hD hS => ?_)
                rw [show ((21 : Int32)).toNatClampNeg = 21 from rfl] at hP hD
                have hr234 : kr_t 30 (upd (upd x195 23 ((x195 23) + 1)) 21 0) := kr_up hr231 (kr_ok0)
                have hk235 : (upd (upd x195 23 ((x195 23) + 1)) 21 0) 0 = (nI fi) := (pk_un (by decide)).trans hk232
                have hk236 : (upd (upd x195 23 ((x195 23) + 1)) 21 0) 1 = (nI gl) := (pk_un (by decide)).trans hk233
                have hP : va_P D vwCl [(to, .inl (y 0, 30, .inl (upd (upd x195 23 ((x195 23) + 1)) 21 0)))] H := hP
                have hD : va_D A [(to, .inl (y 0, 30, .inl (upd (upd x195 23 ((x195 23) + 1)) 21 0)))] := hD
                exact W.vret hx hb hr (fun tZ ht hW => ⟨⟨((upd (upd x195 23 ((x195 23) + 1)) 21 0)), rfl, ⟨hr234, hk235, hk236⟩, by rw [ht]; exact hP.sub [0] rfl, hD.sub [0] (by decide) rfl⟩, hS.F ht⟩) hS.2.2 dX11_goNight_98
            · skip
              have h222 : ¬ fi ≤ j92 := fun q9 => h222 ((nI_leI (a := fi) (b := j92) (by omega) (by omega)).mpr q9)
              refine lv_aload_n hx hb dX11_goNight_39 rfl (lv_at hl 1 rfl) ?_
              refine lv_iconst (v := 5) hx hb dX11_goNight_40 (by decide) ?_
              refine lv_iload_n hx hb dX11_goNight_41 rfl (lv_at hl 0 rfl) ?_
              refine lv_iadd hx hb dX11_goNight_42 ?_
              rw [show 5 + (nI j92) = nI (j92 + 5) from (nI_add 5 j92).trans (congrArg nI (by omega))]
              refine va_iald hx hb hK hP 0 0 rfl rfl (vp_in_nI (by omega) (by decide)) dX11_goNight_43 ?_
              rw [nI_clamp (n := (j92 + 5)) (by omega)]
              refine lv_bipush (v := 20) hx hb dX11_goNight_44 (by decide) ?_
              refine lv_iadd hx hb dX11_goNight_46 ?_
              refine lv_istore_n (lv' := [(2, .int ((x195 (j92 + 5)) + 20)), (1, .int (nI j92)), (0, .ref to)]) hx hb dX11_goNight_47 rfl hl (by decide) rfl (fun ls hl => ?_)
              refine lv_aload_n hx hb dX11_goNight_48 rfl (lv_at hl 2 rfl) ?_
              refine lv_iconst (v := 5) hx hb dX11_goNight_49 (by decide) ?_
              refine lv_iload_n hx hb dX11_goNight_50 rfl (lv_at hl 1 rfl) ?_
              refine lv_iadd hx hb dX11_goNight_51 ?_
              rw [show 5 + (nI j92) = nI (j92 + 5) from (nI_add 5 j92).trans (congrArg nI (by omega))]
              refine lv_iload_n hx hb dX11_goNight_52 rfl (lv_at hl 0 rfl) ?_
              refine lv_bipush (v := 60) hx hb dX11_goNight_53 (by decide) ?_
              refine lv_icmp_le (tgt := 63) hx hb dX11_goNight_55 (by decide) (fun h237 => ?_) (fun h238 => ?_)
              · skip
                refine lv_iload_n hx hb dX11_goNight_63 rfl (lv_at hl 0 rfl) ?_
                refine va_iast hx hb hK hP hD hS 0 0 rfl rfl (vp_in_nI (by omega) (by decide)) dX11_goNight_64 (fun H locs hP hD hS => ?_)
                rw [nI_clamp (n := (j92 + 5)) (by omega)] at hP hD
                have hr239 : kr_t 30 (upd x195 (j92 + 5) ((x195 (j92 + 5)) + 20)) := kr_up hr_x195 (kr_free (by unfold kr_a; omega) (by unfold kr_s; omega))
                have hk240 : (upd x195 (j92 + 5) ((x195 (j92 + 5)) + 20)) 0 = (nI fi) := (pk_un (by omega)).trans hk_x195_0
                have hk241 : (upd x195 (j92 + 5) ((x195 (j92 + 5)) + 20)) 1 = (nI gl) := (pk_un (by omega)).trans hk_x195_1
                have hP : va_P D vwCl [(to, .inl (y 0, 30, .inl (upd x195 (j92 + 5) ((x195 (j92 + 5)) + 20))))] H := hP
                have hD : va_D A [(to, .inl (y 0, 30, .inl (upd x195 (j92 + 5) ((x195 (j92 + 5)) + 20))))] := hD
                refine lv_iinc (v := (nI (j92 + 1))) (lv' := [(1, .int (nI (j92 + 1))), (2, .int ((x195 (j92 + 5)) + 20)), (0, .ref to)]) hx hb dX11_goNight_65 hl (k := 1) rfl (nI_1 j92) (by decide) rfl (fun ls hl => ?_)
                refine lv_goto (tgt := 32) hx hb dX11_goNight_68 (by decide) ?_
                exact ihj92 (j92 + 1) (upd x195 (j92 + 5) ((x195 (j92 + 5)) + 20)) H locs ls (by omega) (by omega) hr239 hk240 hk241 (hP.sub [0] rfl) (hD.sub [0] (by decide) rfl) hS (lv_sub hl [0, 2] rfl)
              · skip
                refine lv_bipush (v := 60) hx hb dX11_goNight_58 (by decide) ?_
                refine lv_goto (tgt := 64) hx hb dX11_goNight_60 (by decide) ?_
                refine va_iast hx hb hK hP hD hS 0 0 rfl rfl (vp_in_nI (by omega) (by decide)) dX11_goNight_64 (fun H locs hP hD hS => ?_)
                rw [nI_clamp (n := (j92 + 5)) (by omega)] at hP hD
                have hr242 : kr_t 30 (upd x195 (j92 + 5) 60) := kr_up hr_x195 (kr_free (by unfold kr_a; omega) (by unfold kr_s; omega))
                have hk243 : (upd x195 (j92 + 5) 60) 0 = (nI fi) := (pk_un (by omega)).trans hk_x195_0
                have hk244 : (upd x195 (j92 + 5) 60) 1 = (nI gl) := (pk_un (by omega)).trans hk_x195_1
                have hP : va_P D vwCl [(to, .inl (y 0, 30, .inl (upd x195 (j92 + 5) 60)))] H := hP
                have hD : va_D A [(to, .inl (y 0, 30, .inl (upd x195 (j92 + 5) 60)))] := hD
                refine lv_iinc (v := (nI (j92 + 1))) (lv' := [(1, .int (nI (j92 + 1))), (2, .int ((x195 (j92 + 5)) + 20)), (0, .ref to)]) hx hb dX11_goNight_65 hl (k := 1) rfl (nI_1 j92) (by decide) rfl (fun ls hl => ?_)
                refine lv_goto (tgt := 32) hx hb dX11_goNight_68 (by decide) ?_
                exact ihj92 (j92 + 1) (upd x195 (j92 + 5) 60) H locs ls (by omega) (by omega) hr242 hk243 hk244 (hP.sub [0] rfl) (hD.sub [0] (by decide) rfl) hS (lv_sub hl [0, 2] rfl)
        exact lp220 (fi + 1) 0 x84 _ _ _ (by omega) (by omega) hr_x84 hk_x84_0 hk_x84_1 hP hD hS (lv_sub hl [0, 1] rfl)
      · skip
        have h170 : ¬ gl ≤ j91 := fun q9 => h170 ((nI_leI (a := gl) (b := j91) (by omega) (by omega)).mpr q9)
        refine lv_aload_n hx hb dX11_goNight_9 rfl (lv_at hl 1 rfl) ?_
        refine lv_bipush (v := 16) hx hb dX11_goNight_10 (by decide) ?_
        refine lv_iload_n hx hb dX11_goNight_12 rfl (lv_at hl 0 rfl) ?_
        refine lv_iadd hx hb dX11_goNight_13 ?_
        rw [show 16 + (nI j91) = nI (j91 + 16) from (nI_add 16 j91).trans (congrArg nI (by omega))]
        refine lv_aload_n hx hb dX11_goNight_14 rfl (lv_at hl 1 rfl) ?_
        refine lv_bipush (v := 16) hx hb dX11_goNight_15 (by decide) ?_
        refine lv_iload_n hx hb dX11_goNight_17 rfl (lv_at hl 0 rfl) ?_
        refine lv_iadd hx hb dX11_goNight_18 ?_
        rw [show 16 + (nI j91) = nI (j91 + 16) from (nI_add 16 j91).trans (congrArg nI (by omega))]
        refine va_iald hx hb hK hP 0 0 rfl rfl (vp_in_nI (by omega) (by decide)) dX11_goNight_19 ?_
        rw [nI_clamp (n := (j91 + 16)) (by omega)]
        have hs245 : kw_Split [(to, .inl (y 0, 30, .inl x84))] [] [(to, .inl (y 0, 30, .inl x84))] [] [0] := ⟨rfl, rfl, rfl, rfl, rfl, by decide⟩
        refine kw_go_i hs245 hP hD hS hA (va_runS (As := [.int (x84 (j91 + 16))]) (rest := [.int (nI (j91 + 16)), .ref to]) ⟨hx, hb, hml, hown, hts⟩ (gr_fadedBy l D y (x84 (j91 + 16)) ((hr_x84 (j91 + 16) (by omega)).2 (by unfold kr_s; omega)) _) (va_cwS 1 hts gX11_goNight_X11_fadedBy rfl rfl rfl (by decide +kernel) ⟨Nat.le_of_ble_eq_true rfl, Nat.le_of_ble_eq_true rfl⟩) (kw_PreS hs245 hP hD hK hN) rfl rfl hl.1 rfl (lv_room (Nat.le_of_ble_eq_true rfl)) dX11_goNight_20 ⟨Nat.le_of_ble_eq_true rfl, Nat.le_of_ble_eq_true rfl⟩) (fun r246 u247 H locs hq hP hD hS => ?_)
        obtain ⟨h248, rfl⟩ := hq
        have hP : va_P D vwCl [(to, .inl (y 0, 30, .inl x84))] H := hP
        have hD : va_D A [(to, .inl (y 0, 30, .inl x84))] := hD
        refine va_iast hx hb hK hP hD hS 0 0 rfl rfl (vp_in_nI (by omega) (by decide)) dX11_goNight_23 (fun H locs hP hD hS => ?_)
        rw [nI_clamp (n := (j91 + 16)) (by omega)] at hP hD
        have hr249 : kr_t 30 (upd x84 (j91 + 16) ((x84 (j91 + 16)) - (((x84 (j91 + 16)) + 3) / 4))) := kr_up hr_x84 (kr_oks (by unfold kr_a; omega) (h248))
        have hk250 : (upd x84 (j91 + 16) ((x84 (j91 + 16)) - (((x84 (j91 + 16)) + 3) / 4))) 0 = (nI fi) := (pk_un (by omega)).trans hk_x84_0
        have hk251 : (upd x84 (j91 + 16) ((x84 (j91 + 16)) - (((x84 (j91 + 16)) + 3) / 4))) 1 = (nI gl) := (pk_un (by omega)).trans hk_x84_1
        have hP : va_P D vwCl [(to, .inl (y 0, 30, .inl (upd x84 (j91 + 16) ((x84 (j91 + 16)) - (((x84 (j91 + 16)) + 3) / 4)))))] H := hP
        have hD : va_D A [(to, .inl (y 0, 30, .inl (upd x84 (j91 + 16) ((x84 (j91 + 16)) - (((x84 (j91 + 16)) + 3) / 4)))))] := hD
        refine lv_iinc (v := (nI (j91 + 1))) (lv' := [(1, .int (nI (j91 + 1))), (0, .ref to)]) hx hb dX11_goNight_24 hl (k := 0) rfl (nI_1 j91) (by decide) rfl (fun ls hl => ?_)
        refine lv_goto (tgt := 2) hx hb dX11_goNight_27 (by decide) ?_
        exact ihj91 (j91 + 1) (upd x84 (j91 + 16) ((x84 (j91 + 16)) - (((x84 (j91 + 16)) + 3) / 4))) H locs ls (by omega) (by omega) hr249 hk250 hk251 (hP.sub [0] rfl) (hD.sub [0] (by decide) rfl) hS (lv_sub hl [0, 1] rfl)
  exact lp168 (gl + 1) 0 ft _ _ _ (by omega) (by omega) hkt hk0_ hk1_ hP hD hS (lv_sub hl [0, 1] rfl)

set_option maxHeartbeats 4000000 in
set_option maxRecDepth 100000 in
theorem gr_keep (l : Launch) (D : va_G) (y : Nat → ClassId) (mo : Nat) (to : Nat) (ke : Nat) (ik : Nat) (mrf : Nat) (ha : Nat) (r0 : Nat) (mbr : Nat) (mbp : Nat) (mby : Nat) (an : Nat) (va : Nat) (mab : Int64) (mbl : Int64) (bl : Nat) (ta : Nat) (tl : Nat) (tk : Nat) (vv : Int32) (ft : Nat → Int32) (fi : Nat) (gl : Nat) (mi : Nat) (no : Nat) (un : Nat) (hk0_ : ft 0 = (nI fi)) (hk1_ : ft 1 = (nI gl)) (hk2_ : ft 2 = (nI mi)) (hk3_ : ft 3 = (nI no)) (hk4_ : ft 4 = (nI un)) (hkt : kr_t 228 ft) (hfi : fi ≤ 6) (hgl : gl ≤ 5) (hmi : mi ≤ 4) (hno : no ≤ 6) (hun : un ≤ 8) : kw_Mv l yX11_keep wsX11_keep ({ frames := 1, cells := 0, slots := 0, locals := 60 }) D y [.ref mo] [(mo, .inr (11, [.ref to, .ref ke, .ref ik, .ref mrf, .long mab, .long mbl, .ref ha, .ref r0, .ref mbr, .ref mbp, .ref mby, .int (nI bl), .int (nI ta), .int (nI tl), .int (nI tk), .int vv, .ref an, .ref va])), (to, .inl (y 0, 228, .inl ft))] (fun (u : (Nat → Int32) × Nat) => kr_t 228 u.1 ∧ u.1 0 = (nI fi) ∧ u.1 1 = (nI gl) ∧ u.1 2 = (nI mi) ∧ u.1 3 = (nI no) ∧ u.2 ≤ 8 ∧ u.1 4 = (nI u.2)) (fun u => [(mo, .inr (11, [.ref to, .ref ke, .ref ik, .ref mrf, .long mab, .long mbl, .ref ha, .ref r0, .ref mbr, .ref mbp, .ref mby, .int (nI bl), .int (nI ta), .int (nI tl), .int (nI tk), .int vv, .ref an, .ref va])), (to, .inl (y 0, 228, .inl u.1))]) 0 0 := by
  refine kw_Mv.of (cc := cX11_keep) (maxL := 2) (ret := none) (by decide) rfl ?_
  intro pZ eZ s mZ beZ meZ cZ A hE
  obtain ⟨hx, hb, hr, hml, hts, hown, hlocks, hin, hA, hP, hD, hK, hN⟩ := hE
  have hS : va_S A s.heap s.heap [] := va_S.rf
  have hl := lv_entry ([.ref mo]) (n := 2) (Nat.le_of_ble_eq_true rfl)
  rw [lg_entry_eq]
  generalize (lg_sl ([.ref mo]) ++ List.replicate (2 - (lg_sl ([.ref mo])).length) Slot.unset).toArray = ls at hl ⊢
  have hl : lv_has ls 2 [(0, .ref mo)] := hl
  have fw1 := hts (.fieldLink RX11 7 "GleanDuskModel" "told" "[I") (List.mem_of_getElem? (i := 1) rfl)
  have iw11 : ∀ w ∈ wsX110, w ∈ wsX11_keep := fun _ h => List.mem_cons_of_mem _ (List.mem_append_right _ h)
  refine lv_aload_n hx hb dX11_keep_0 rfl (lv_at hl 0 rfl) ?_
  refine va_get (D := D) (ci := 11) (v := .ref to) (C := RX11) (T := TX11) (N := 18) hx hb hts iw11 hown hK hP 0 rfl rfl 0 (by decide) fw1 (fun _ h9 => h9) rfl dX11_keep_1 ?_
  refine lv_iconst (v := 4) hx hb dX11_keep_4 (by decide) ?_
  refine va_iald hx hb hK hP 1 0 rfl rfl (by unfold vp_in; decide) dX11_keep_5 ?_
  rw [show ((4 : Int32)).toNatClampNeg = 4 from rfl]
  rw [show (ft 4) = (nI un) from hk4_]
  refine lv_bipush (v := 8) hx hb dX11_keep_6 (by decide) ?_
  refine lv_icmp_ne (tgt := 52) hx hb dX11_keep_8 (by decide) (fun h1 => ?_) (fun h2 => ?_)
  · skip
    have h1 : ¬ un = 8 := fun q9 => h1 ((nI_eq (a := un) (b := 8) (by omega) (by omega)).mpr q9)
    refine lv_iconst (v := 0) hx hb dX11_keep_52 (by decide) ?_
    refine lv_istore_n (lv' := [(1, .int 0), (0, .ref mo)]) hx hb dX11_keep_53 rfl hl (by decide) rfl (fun ls hl => ?_)
    have lp32 : ∀ (fuj91 j91 : Nat) (x17 : Nat → Int32) (H : Heap) (locs : List Loc) (ls : Array Slot), j91 ≤ 19 → 19 - j91 < fuj91 → kr_t 228 x17 → x17 0 = (nI fi) → x17 1 = (nI gl) → x17 2 = (nI mi) → x17 3 = (nI no) → x17 4 = (nI un) → va_P D vwCl [(mo, .inr (11, [.ref to, .ref ke, .ref ik, .ref mrf, .long mab, .long mbl, .ref ha, .ref r0, .ref mbr, .ref mbp, .ref mby, .int (nI bl), .int (nI ta), .int (nI tl), .int (nI tk), .int vv, .ref an, .ref va])), (to, .inl (y 0, 228, .inl x17))] H → va_D A [(mo, .inr (11, [.ref to, .ref ke, .ref ik, .ref mrf, .long mab, .long mbl, .ref ha, .ref r0, .ref mbr, .ref mbp, .ref mby, .int (nI bl), .int (nI ta), .int (nI tl), .int (nI tk), .int vv, .ref an, .ref va])), (to, .inl (y 0, 228, .inl x17))] → va_S A s.heap H locs → lv_has ls 2 [(1, .int (nI j91)), (0, .ref mo)] → W pZ l eZ ({ frames := 1, cells := 0, slots := 0, locals := 60 }) s mZ [.ref mo].toArray beZ meZ cZ H locs 0 0 (MQ beZ (va_Qv (fun (u : (Nat → Int32) × Nat) => kr_t 228 u.1 ∧ u.1 0 = (nI fi) ∧ u.1 1 = (nI gl) ∧ u.1 2 = (nI mi) ∧ u.1 3 = (nI no) ∧ u.2 ≤ 8 ∧ u.1 4 = (nI u.2)) (kw_B D (fun u => [(mo, .inr (11, [.ref to, .ref ke, .ref ik, .ref mrf, .long mab, .long mbl, .ref ha, .ref r0, .ref mbr, .ref mbp, .ref mby, .int (nI bl), .int (nI ta), .int (nI tl), .int (nI tk), .int vv, .ref an, .ref va])), (to, .inl (y 0, 228, .inl u.1))]) A) A) [.ref mo].toArray s 0 0 A) (F0 mZ 54 ls []) := by
      intro fuj91
      induction fuj91 with
      | zero => intro j91 x17 H locs ls hj9 hf9; exact absurd hf9 (Nat.not_lt_zero _)
      | succ fuj91 ihj91 =>
        intro j91 x17 H locs ls hj91 hfj91 hr_x17 hk_x17_0 hk_x17_1 hk_x17_2 hk_x17_3 hk_x17_4 hP hD hS hl
        refine lv_iload_n hx hb dX11_keep_54 rfl (lv_at hl 0 rfl) ?_
        refine lv_bipush (v := 19) hx hb dX11_keep_55 (by decide) ?_
        refine lv_icmp_ge (tgt := 93) hx hb dX11_keep_57 (by decide) (fun h33 => ?_) (fun h34 => ?_)
        · skip
          have h33 : 19 ≤ j91 := (nI_leI (a := 19) (b := j91) (by omega) (by omega)).mp h33
          refine lv_aload_n hx hb dX11_keep_93 rfl (lv_at hl 1 rfl) ?_
          refine va_get (D := D) (ci := 11) (v := .ref to) (C := RX11) (T := TX11) (N := 18) hx hb hts iw11 hown hK hP 0 rfl rfl 0 (by decide) fw1 (fun _ h9 => h9) rfl dX11_keep_94 ?_
          refine lv_iconst (v := 4) hx hb dX11_keep_97 (by decide) ?_
          refine lv_dup2_11 hx hb dX11_keep_98 rfl rfl ?_
          refine va_iald hx hb hK hP 1 0 rfl rfl (by unfold vp_in; decide) dX11_keep_99 ?_
          rw [show ((4 : Int32)).toNatClampNeg = 4 from rfl]
          rw [show (x17 4) = (nI un) from hk_x17_4]
          refine lv_iconst (v := 1) hx hb dX11_keep_100 (by decide) ?_
          refine lv_iadd hx hb dX11_keep_101 ?_
          rw [show (nI un) + 1 = nI (un + 1) from nI_add un 1]
          refine va_iast hx hb hK hP hD hS 1 0 rfl rfl (by unfold vp_in; decide) dX11_keep_102 (fun H locs hP hD hS => ?_)
          rw [show ((4 : Int32)).toNatClampNeg = 4 from rfl] at hP hD
          have hr35 : kr_t 228 (upd x17 4 (nI (un + 1))) := kr_up hr_x17 (kr_free (by unfold kr_a; omega) (by unfold kr_s; omega))
          have hk36 : (upd x17 4 (nI (un + 1))) 0 = (nI fi) := (pk_un (by decide)).trans hk_x17_0
          have hk37 : (upd x17 4 (nI (un + 1))) 1 = (nI gl) := (pk_un (by decide)).trans hk_x17_1
          have hk38 : (upd x17 4 (nI (un + 1))) 2 = (nI mi) := (pk_un (by decide)).trans hk_x17_2
          have hk39 : (upd x17 4 (nI (un + 1))) 3 = (nI no) := (pk_un (by decide)).trans hk_x17_3
          have hk40 : (upd x17 4 (nI (un + 1))) 4 = (nI (un + 1)) := pk_us
          have hP : va_P D vwCl [(mo, .inr (11, [.ref to, .ref ke, .ref ik, .ref mrf, .long mab, .long mbl, .ref ha, .ref r0, .ref mbr, .ref mbp, .ref mby, .int (nI bl), .int (nI ta), .int (nI tl), .int (nI tk), .int vv, .ref an, .ref va])), (to, .inl (y 0, 228, .inl (upd x17 4 (nI (un + 1)))))] H := hP
          have hD : va_D A [(mo, .inr (11, [.ref to, .ref ke, .ref ik, .ref mrf, .long mab, .long mbl, .ref ha, .ref r0, .ref mbr, .ref mbp, .ref mby, .int (nI bl), .int (nI ta), .int (nI tl), .int (nI tk), .int vv, .ref an, .ref va])), (to, .inl (y 0, 228, .inl (upd x17 4 (nI (un + 1)))))] := hD
          exact W.vret hx hb hr (fun tZ ht hW => ⟨⟨((upd x17 4 (nI (un + 1))), un + 1), rfl, ⟨hr35, hk36, hk37, hk38, hk39, by first | omega | (dsimp only; omega), hk40⟩, by rw [ht]; exact hP.sub [0, 1] rfl, hD.sub [0, 1] (by decide) rfl⟩, hS.F ht⟩) hS.2.2 dX11_keep_103
        · skip
          have h34 : ¬ 19 ≤ j91 := fun q9 => h34 ((nI_leI (a := 19) (b := j91) (by omega) (by omega)).mpr q9)
          refine lv_aload_n hx hb dX11_keep_60 rfl (lv_at hl 1 rfl) ?_
          refine va_get (D := D) (ci := 11) (v := .ref to) (C := RX11) (T := TX11) (N := 18) hx hb hts iw11 hown hK hP 0 rfl rfl 0 (by decide) fw1 (fun _ h9 => h9) rfl dX11_keep_61 ?_
          refine lv_bipush (v := 76) hx hb dX11_keep_64 (by decide) ?_
          refine lv_bipush (v := 19) hx hb dX11_keep_66 (by decide) ?_
          refine lv_aload_n hx hb dX11_keep_68 rfl (lv_at hl 1 rfl) ?_
          refine va_get (D := D) (ci := 11) (v := .ref to) (C := RX11) (T := TX11) (N := 18) hx hb hts iw11 hown hK hP 0 rfl rfl 0 (by decide) fw1 (fun _ h9 => h9) rfl dX11_keep_69 ?_
          refine lv_iconst (v := 4) hx hb dX11_keep_72 (by decide) ?_
          refine va_iald hx hb hK hP 1 0 rfl rfl (by unfold vp_in; decide) dX11_keep_73 ?_
          rw [show ((4 : Int32)).toNatClampNeg = 4 from rfl]
          rw [show (x17 4) = (nI un) from hk_x17_4]
          refine lv_imul hx hb dX11_keep_74 ?_
          rw [show 19 * (nI un) = nI (19 * un) from pk_mul 19 un]
          refine lv_iadd hx hb dX11_keep_75 ?_
          rw [show 76 + (nI (19 * un)) = nI (76 + (19 * un)) from nI_add 76 (19 * un)]
          refine lv_iload_n hx hb dX11_keep_76 rfl (lv_at hl 0 rfl) ?_
          refine lv_iadd hx hb dX11_keep_77 ?_
          rw [show (nI (76 + (19 * un))) + (nI j91) = nI ((76 + (19 * un)) + j91) from nI_add (76 + (19 * un)) j91]
          refine lv_aload_n hx hb dX11_keep_78 rfl (lv_at hl 1 rfl) ?_
          refine va_get (D := D) (ci := 11) (v := .ref to) (C := RX11) (T := TX11) (N := 18) hx hb hts iw11 hown hK hP 0 rfl rfl 0 (by decide) fw1 (fun _ h9 => h9) rfl dX11_keep_79 ?_
          refine lv_iconst (v := 5) hx hb dX11_keep_82 (by decide) ?_
          refine lv_iload_n hx hb dX11_keep_83 rfl (lv_at hl 0 rfl) ?_
          refine lv_iadd hx hb dX11_keep_84 ?_
          rw [show 5 + (nI j91) = nI (j91 + 5) from (nI_add 5 j91).trans (congrArg nI (by omega))]
          refine va_iald hx hb hK hP 1 0 rfl rfl (vp_in_nI (by omega) (by decide)) dX11_keep_85 ?_
          rw [nI_clamp (n := (j91 + 5)) (by omega)]
          refine va_iast hx hb hK hP hD hS 1 0 rfl rfl (vp_in_nI (by omega) (by decide)) dX11_keep_86 (fun H locs hP hD hS => ?_)
          rw [nI_clamp (n := ((76 + (19 * un)) + j91)) (by omega)] at hP hD
          have hr41 : kr_t 228 (upd x17 ((76 + (19 * un)) + j91) (x17 (j91 + 5))) := kr_up hr_x17 (kr_move (p := (j91 + 5)) (hr_x17 (j91 + 5) (by omega)) (by unfold kr_a; omega) (by unfold kr_s; omega))
          have hk42 : (upd x17 ((76 + (19 * un)) + j91) (x17 (j91 + 5))) 0 = (nI fi) := (pk_un (by omega)).trans hk_x17_0
          have hk43 : (upd x17 ((76 + (19 * un)) + j91) (x17 (j91 + 5))) 1 = (nI gl) := (pk_un (by omega)).trans hk_x17_1
          have hk44 : (upd x17 ((76 + (19 * un)) + j91) (x17 (j91 + 5))) 2 = (nI mi) := (pk_un (by omega)).trans hk_x17_2
          have hk45 : (upd x17 ((76 + (19 * un)) + j91) (x17 (j91 + 5))) 3 = (nI no) := (pk_un (by omega)).trans hk_x17_3
          have hk46 : (upd x17 ((76 + (19 * un)) + j91) (x17 (j91 + 5))) 4 = (nI un) := (pk_un (by omega)).trans hk_x17_4
          have hP : va_P D vwCl [(mo, .inr (11, [.ref to, .ref ke, .ref ik, .ref mrf, .long mab, .long mbl, .ref ha, .ref r0, .ref mbr, .ref mbp, .ref mby, .int (nI bl), .int (nI ta), .int (nI tl), .int (nI tk), .int vv, .ref an, .ref va])), (to, .inl (y 0, 228, .inl (upd x17 ((76 + (19 * un)) + j91) (x17 (j91 + 5)))))] H := hP
          have hD : va_D A [(mo, .inr (11, [.ref to, .ref ke, .ref ik, .ref mrf, .long mab, .long mbl, .ref ha, .ref r0, .ref mbr, .ref mbp, .ref mby, .int (nI bl), .int (nI ta), .int (nI tl), .int (nI tk), .int vv, .ref an, .ref va])), (to, .inl (y 0, 228, .inl (upd x17 ((76 + (19 * un)) + j91) (x17 (j91 + 5)))))] := hD
          refine lv_iinc (v := (nI (j91 + 1))) (lv' := [(1, .int (nI (j91 + 1))), (0, .ref mo)]) hx hb dX11_keep_87 hl (k := 0) rfl (nI_1 j91) (by decide) rfl (fun ls hl => ?_)
          refine lv_goto (tgt := 54) hx hb dX11_keep_90 (by decide) ?_
          exact ihj91 (j91 + 1) (upd x17 ((76 + (19 * un)) + j91) (x17 (j91 + 5))) H locs ls (by omega) (by omega) hr41 hk42 hk43 hk44 hk45 hk46 (hP.sub [0, 1] rfl) (hD.sub [0, 1] (by decide) rfl) hS (lv_sub hl [0, 1] rfl)
    exact lp32 (19 + 1) 0 ft _ _ _ (by omega) (by omega) hkt hk0_ hk1_ hk2_ hk3_ hk4_ hP hD hS (lv_sub hl [0, 1] rfl)
  · skip
    have h2 : un = 8 := (nI_eq (a := un) (b := 8) (by omega) (by omega)).mp h2
    refine lv_iconst (v := 0) hx hb dX11_keep_11 (by decide) ?_
    refine lv_istore_n (lv' := [(1, .int 0), (0, .ref mo)]) hx hb dX11_keep_12 rfl hl (by decide) rfl (fun ls hl => ?_)
    have lp182 : ∀ (fuj91 j91 : Nat) (x114 : Nat → Int32) (H : Heap) (locs : List Loc) (ls : Array Slot), j91 ≤ 133 → 133 - j91 < fuj91 → kr_t 228 x114 → x114 0 = (nI fi) → x114 1 = (nI gl) → x114 2 = (nI mi) → x114 3 = (nI no) → x114 4 = (nI un) → va_P D vwCl [(mo, .inr (11, [.ref to, .ref ke, .ref ik, .ref mrf, .long mab, .long mbl, .ref ha, .ref r0, .ref mbr, .ref mbp, .ref mby, .int (nI bl), .int (nI ta), .int (nI tl), .int (nI tk), .int vv, .ref an, .ref va])), (to, .inl (y 0, 228, .inl x114))] H → va_D A [(mo, .inr (11, [.ref to, .ref ke, .ref ik, .ref mrf, .long mab, .long mbl, .ref ha, .ref r0, .ref mbr, .ref mbp, .ref mby, .int (nI bl), .int (nI ta), .int (nI tl), .int (nI tk), .int vv, .ref an, .ref va])), (to, .inl (y 0, 228, .inl x114))] → va_S A s.heap H locs → lv_has ls 2 [(1, .int (nI j91)), (0, .ref mo)] → W pZ l eZ ({ frames := 1, cells := 0, slots := 0, locals := 60 }) s mZ [.ref mo].toArray beZ meZ cZ H locs 0 0 (MQ beZ (va_Qv (fun (u : (Nat → Int32) × Nat) => kr_t 228 u.1 ∧ u.1 0 = (nI fi) ∧ u.1 1 = (nI gl) ∧ u.1 2 = (nI mi) ∧ u.1 3 = (nI no) ∧ u.2 ≤ 8 ∧ u.1 4 = (nI u.2)) (kw_B D (fun u => [(mo, .inr (11, [.ref to, .ref ke, .ref ik, .ref mrf, .long mab, .long mbl, .ref ha, .ref r0, .ref mbr, .ref mbp, .ref mby, .int (nI bl), .int (nI ta), .int (nI tl), .int (nI tk), .int vv, .ref an, .ref va])), (to, .inl (y 0, 228, .inl u.1))]) A) A) [.ref mo].toArray s 0 0 A) (F0 mZ 13 ls []) := by
      intro fuj91
      induction fuj91 with
      | zero => intro j91 x114 H locs ls hj9 hf9; exact absurd hf9 (Nat.not_lt_zero _)
      | succ fuj91 ihj91 =>
        intro j91 x114 H locs ls hj91 hfj91 hr_x114 hk_x114_0 hk_x114_1 hk_x114_2 hk_x114_3 hk_x114_4 hP hD hS hl
        refine lv_iload_n hx hb dX11_keep_13 rfl (lv_at hl 0 rfl) ?_
        refine lv_sipush (v := 133) hx hb dX11_keep_14 (by decide) ?_
        refine lv_icmp_ge (tgt := 44) hx hb dX11_keep_17 (by decide) (fun h183 => ?_) (fun h184 => ?_)
        · skip
          have h183 : 133 ≤ j91 := (nI_leI (a := 133) (b := j91) (by omega) (by omega)).mp h183
          refine lv_aload_n hx hb dX11_keep_44 rfl (lv_at hl 1 rfl) ?_
          refine va_get (D := D) (ci := 11) (v := .ref to) (C := RX11) (T := TX11) (N := 18) hx hb hts iw11 hown hK hP 0 rfl rfl 0 (by decide) fw1 (fun _ h9 => h9) rfl dX11_keep_45 ?_
          refine lv_iconst (v := 4) hx hb dX11_keep_48 (by decide) ?_
          refine lv_bipush (v := 7) hx hb dX11_keep_49 (by decide) ?_
          refine va_iast hx hb hK hP hD hS 1 0 rfl rfl (by unfold vp_in; decide) dX11_keep_51 (fun H locs hP hD hS => ?_)
          rw [show ((4 : Int32)).toNatClampNeg = 4 from rfl] at hP hD
          have hr185 : kr_t 228 (upd x114 4 7) := kr_up hr_x114 (kr_free (by unfold kr_a; omega) (by unfold kr_s; omega))
          have hk186 : (upd x114 4 7) 0 = (nI fi) := (pk_un (by decide)).trans hk_x114_0
          have hk187 : (upd x114 4 7) 1 = (nI gl) := (pk_un (by decide)).trans hk_x114_1
          have hk188 : (upd x114 4 7) 2 = (nI mi) := (pk_un (by decide)).trans hk_x114_2
          have hk189 : (upd x114 4 7) 3 = (nI no) := (pk_un (by decide)).trans hk_x114_3
          have hk190 : (upd x114 4 7) 4 = 7 := pk_us
          have hP : va_P D vwCl [(mo, .inr (11, [.ref to, .ref ke, .ref ik, .ref mrf, .long mab, .long mbl, .ref ha, .ref r0, .ref mbr, .ref mbp, .ref mby, .int (nI bl), .int (nI ta), .int (nI tl), .int (nI tk), .int vv, .ref an, .ref va])), (to, .inl (y 0, 228, .inl (upd x114 4 7)))] H := hP
          have hD : va_D A [(mo, .inr (11, [.ref to, .ref ke, .ref ik, .ref mrf, .long mab, .long mbl, .ref ha, .ref r0, .ref mbr, .ref mbp, .ref mby, .int (nI bl), .int (nI ta), .int (nI tl), .int (nI tk), .int vv, .ref an, .ref va])), (to, .inl (y 0, 228, .inl (upd x114 4 7)))] := hD
          refine lv_iconst (v := 0) hx hb dX11_keep_52 (by decide) ?_
          refine lv_istore_n (lv' := [(1, .int 0), (0, .ref mo)]) hx hb dX11_keep_53 rfl hl (by decide) rfl (fun ls hl => ?_)
          have lp226 : ∀ (fuj92 j92 : Nat) (x208 : Nat → Int32) (H : Heap) (locs : List Loc) (ls : Array Slot), j92 ≤ 19 → 19 - j92 < fuj92 → kr_t 228 x208 → x208 0 = (nI fi) → x208 1 = (nI gl) → x208 2 = (nI mi) → x208 3 = (nI no) → x208 4 = 7 → va_P D vwCl [(mo, .inr (11, [.ref to, .ref ke, .ref ik, .ref mrf, .long mab, .long mbl, .ref ha, .ref r0, .ref mbr, .ref mbp, .ref mby, .int (nI bl), .int (nI ta), .int (nI tl), .int (nI tk), .int vv, .ref an, .ref va])), (to, .inl (y 0, 228, .inl x208))] H → va_D A [(mo, .inr (11, [.ref to, .ref ke, .ref ik, .ref mrf, .long mab, .long mbl, .ref ha, .ref r0, .ref mbr, .ref mbp, .ref mby, .int (nI bl), .int (nI ta), .int (nI tl), .int (nI tk), .int vv, .ref an, .ref va])), (to, .inl (y 0, 228, .inl x208))] → va_S A s.heap H locs → lv_has ls 2 [(1, .int (nI j92)), (0, .ref mo)] → W pZ l eZ ({ frames := 1, cells := 0, slots := 0, locals := 60 }) s mZ [.ref mo].toArray beZ meZ cZ H locs 0 0 (MQ beZ (va_Qv (fun (u : (Nat → Int32) × Nat) => kr_t 228 u.1 ∧ u.1 0 = (nI fi) ∧ u.1 1 = (nI gl) ∧ u.1 2 = (nI mi) ∧ u.1 3 = (nI no) ∧ u.2 ≤ 8 ∧ u.1 4 = (nI u.2)) (kw_B D (fun u => [(mo, .inr (11, [.ref to, .ref ke, .ref ik, .ref mrf, .long mab, .long mbl, .ref ha, .ref r0, .ref mbr, .ref mbp, .ref mby, .int (nI bl), .int (nI ta), .int (nI tl), .int (nI tk), .int vv, .ref an, .ref va])), (to, .inl (y 0, 228, .inl u.1))]) A) A) [.ref mo].toArray s 0 0 A) (F0 mZ 54 ls []) := by
            intro fuj92
            induction fuj92 with
            | zero => intro j92 x208 H locs ls hj9 hf9; exact absurd hf9 (Nat.not_lt_zero _)
            | succ fuj92 ihj92 =>
              intro j92 x208 H locs ls hj92 hfj92 hr_x208 hk_x208_0 hk_x208_1 hk_x208_2 hk_x208_3 hk_x208_4 hP hD hS hl
              refine lv_iload_n hx hb dX11_keep_54 rfl (lv_at hl 0 rfl) ?_
              refine lv_bipush (v := 19) hx hb dX11_keep_55 (by decide) ?_
              refine lv_icmp_ge (tgt := 93) hx hb dX11_keep_57 (by decide) (fun h227 => ?_) (fun h228 => ?_)
              · skip
                have h227 : 19 ≤ j92 := (nI_leI (a := 19) (b := j92) (by omega) (by omega)).mp h227
                refine lv_aload_n hx hb dX11_keep_93 rfl (lv_at hl 1 rfl) ?_
                refine va_get (D := D) (ci := 11) (v := .ref to) (C := RX11) (T := TX11) (N := 18) hx hb hts iw11 hown hK hP 0 rfl rfl 0 (by decide) fw1 (fun _ h9 => h9) rfl dX11_keep_94 ?_
                refine lv_iconst (v := 4) hx hb dX11_keep_97 (by decide) ?_
                refine lv_dup2_11 hx hb dX11_keep_98 rfl rfl ?_
                refine va_iald hx hb hK hP 1 0 rfl rfl (by unfold vp_in; decide) dX11_keep_99 ?_
                rw [show ((4 : Int32)).toNatClampNeg = 4 from rfl]
                rw [show (x208 4) = 7 from hk_x208_4]
                refine lv_iconst (v := 1) hx hb dX11_keep_100 (by decide) ?_
                refine lv_iadd hx hb dX11_keep_101 ?_
                refine lv_topi (fun z229 hz229 => ?_)
                obtain rfl : z229 = 8 := hz229.trans (by decide)
                refine va_iast hx hb hK hP hD hS 1 0 rfl rfl (by unfold vp_in; decide) dX11_keep_102 (fun H locs hP hD hS => ?_)
                rw [show ((4 : Int32)).toNatClampNeg = 4 from rfl] at hP hD
                have hr230 : kr_t 228 (upd x208 4 8) := kr_up hr_x208 (kr_free (by unfold kr_a; omega) (by unfold kr_s; omega))
                have hk231 : (upd x208 4 8) 0 = (nI fi) := (pk_un (by decide)).trans hk_x208_0
                have hk232 : (upd x208 4 8) 1 = (nI gl) := (pk_un (by decide)).trans hk_x208_1
                have hk233 : (upd x208 4 8) 2 = (nI mi) := (pk_un (by decide)).trans hk_x208_2
                have hk234 : (upd x208 4 8) 3 = (nI no) := (pk_un (by decide)).trans hk_x208_3
                have hk235 : (upd x208 4 8) 4 = 8 := pk_us
                have hP : va_P D vwCl [(mo, .inr (11, [.ref to, .ref ke, .ref ik, .ref mrf, .long mab, .long mbl, .ref ha, .ref r0, .ref mbr, .ref mbp, .ref mby, .int (nI bl), .int (nI ta), .int (nI tl), .int (nI tk), .int vv, .ref an, .ref va])), (to, .inl (y 0, 228, .inl (upd x208 4 8)))] H := hP
                have hD : va_D A [(mo, .inr (11, [.ref to, .ref ke, .ref ik, .ref mrf, .long mab, .long mbl, .ref ha, .ref r0, .ref mbr, .ref mbp, .ref mby, .int (nI bl), .int (nI ta), .int (nI tl), .int (nI tk), .int vv, .ref an, .ref va])), (to, .inl (y 0, 228, .inl (upd x208 4 8)))] := hD
                exact W.vret hx hb hr (fun tZ ht hW => ⟨⟨((upd x208 4 8), 8), rfl, ⟨hr230, hk231, hk232, hk233, hk234, by first | omega | (dsimp only; omega), hk235⟩, by rw [ht]; exact hP.sub [0, 1] rfl, hD.sub [0, 1] (by decide) rfl⟩, hS.F ht⟩) hS.2.2 dX11_keep_103
              · skip
                have h228 : ¬ 19 ≤ j92 := fun q9 => h228 ((nI_leI (a := 19) (b := j92) (by omega) (by omega)).mpr q9)
                refine lv_aload_n hx hb dX11_keep_60 rfl (lv_at hl 1 rfl) ?_
                refine va_get (D := D) (ci := 11) (v := .ref to) (C := RX11) (T := TX11) (N := 18) hx hb hts iw11 hown hK hP 0 rfl rfl 0 (by decide) fw1 (fun _ h9 => h9) rfl dX11_keep_61 ?_
                refine lv_bipush (v := 76) hx hb dX11_keep_64 (by decide) ?_
                refine lv_bipush (v := 19) hx hb dX11_keep_66 (by decide) ?_
                refine lv_aload_n hx hb dX11_keep_68 rfl (lv_at hl 1 rfl) ?_
                refine va_get (D := D) (ci := 11) (v := .ref to) (C := RX11) (T := TX11) (N := 18) hx hb hts iw11 hown hK hP 0 rfl rfl 0 (by decide) fw1 (fun _ h9 => h9) rfl dX11_keep_69 ?_
                refine lv_iconst (v := 4) hx hb dX11_keep_72 (by decide) ?_
                refine va_iald hx hb hK hP 1 0 rfl rfl (by unfold vp_in; decide) dX11_keep_73 ?_
                rw [show ((4 : Int32)).toNatClampNeg = 4 from rfl]
                rw [show (x208 4) = 7 from hk_x208_4]
                refine lv_imul hx hb dX11_keep_74 ?_
                refine lv_topi (fun z236 hz236 => ?_)
                obtain rfl : z236 = 133 := hz236.trans (by decide)
                refine lv_iadd hx hb dX11_keep_75 ?_
                refine lv_topi (fun z237 hz237 => ?_)
                obtain rfl : z237 = 209 := hz237.trans (by decide)
                refine lv_iload_n hx hb dX11_keep_76 rfl (lv_at hl 0 rfl) ?_
                refine lv_iadd hx hb dX11_keep_77 ?_
                rw [show 209 + (nI j92) = nI (j92 + 209) from (nI_add 209 j92).trans (congrArg nI (by omega))]
                refine lv_aload_n hx hb dX11_keep_78 rfl (lv_at hl 1 rfl) ?_
                refine va_get (D := D) (ci := 11) (v := .ref to) (C := RX11) (T := TX11) (N := 18) hx hb hts iw11 hown hK hP 0 rfl rfl 0 (by decide) fw1 (fun _ h9 => h9) rfl dX11_keep_79 ?_
                refine lv_iconst (v := 5) hx hb dX11_keep_82 (by decide) ?_
                refine lv_iload_n hx hb dX11_keep_83 rfl (lv_at hl 0 rfl) ?_
                refine lv_iadd hx hb dX11_keep_84 ?_
                rw [show 5 + (nI j92) = nI (j92 + 5) from (nI_add 5 j92).trans (congrArg nI (by omega))]
                refine va_iald hx hb hK hP 1 0 rfl rfl (vp_in_nI (by omega) (by decide)) dX11_keep_85 ?_
                rw [nI_clamp (n := (j92 + 5)) (by omega)]
                refine va_iast hx hb hK hP hD hS 1 0 rfl rfl (vp_in_nI (by omega) (by decide)) dX11_keep_86 (fun H locs hP hD hS => ?_)
                rw [nI_clamp (n := (j92 + 209)) (by omega)] at hP hD
                have hr238 : kr_t 228 (upd x208 (j92 + 209) (x208 (j92 + 5))) := kr_up hr_x208 (kr_move (p := (j92 + 5)) (hr_x208 (j92 + 5) (by omega)) (by unfold kr_a; omega) (by unfold kr_s; omega))
                have hk239 : (upd x208 (j92 + 209) (x208 (j92 + 5))) 0 = (nI fi) := (pk_un (by omega)).trans hk_x208_0
                have hk240 : (upd x208 (j92 + 209) (x208 (j92 + 5))) 1 = (nI gl) := (pk_un (by omega)).trans hk_x208_1
                have hk241 : (upd x208 (j92 + 209) (x208 (j92 + 5))) 2 = (nI mi) := (pk_un (by omega)).trans hk_x208_2
                have hk242 : (upd x208 (j92 + 209) (x208 (j92 + 5))) 3 = (nI no) := (pk_un (by omega)).trans hk_x208_3
                have hk243 : (upd x208 (j92 + 209) (x208 (j92 + 5))) 4 = 7 := (pk_un (by omega)).trans hk_x208_4
                have hP : va_P D vwCl [(mo, .inr (11, [.ref to, .ref ke, .ref ik, .ref mrf, .long mab, .long mbl, .ref ha, .ref r0, .ref mbr, .ref mbp, .ref mby, .int (nI bl), .int (nI ta), .int (nI tl), .int (nI tk), .int vv, .ref an, .ref va])), (to, .inl (y 0, 228, .inl (upd x208 (j92 + 209) (x208 (j92 + 5)))))] H := hP
                have hD : va_D A [(mo, .inr (11, [.ref to, .ref ke, .ref ik, .ref mrf, .long mab, .long mbl, .ref ha, .ref r0, .ref mbr, .ref mbp, .ref mby, .int (nI bl), .int (nI ta), .int (nI tl), .int (nI tk), .int vv, .ref an, .ref va])), (to, .inl (y 0, 228, .inl (upd x208 (j92 + 209) (x208 (j92 + 5)))))] := hD
                refine lv_iinc (v := (nI (j92 + 1))) (lv' := [(1, .int (nI (j92 + 1))), (0, .ref mo)]) hx hb dX11_keep_87 hl (k := 0) rfl (nI_1 j92) (by decide) rfl (fun ls hl => ?_)
                refine lv_goto (tgt := 54) hx hb dX11_keep_90 (by decide) ?_
                exact ihj92 (j92 + 1) (upd x208 (j92 + 209) (x208 (j92 + 5))) H locs ls (by omega) (by omega) hr238 hk239 hk240 hk241 hk242 hk243 (hP.sub [0, 1] rfl) (hD.sub [0, 1] (by decide) rfl) hS (lv_sub hl [0, 1] rfl)
          exact lp226 (19 + 1) 0 (upd x114 4 7) _ _ _ (by omega) (by omega) hr185 hk186 hk187 hk188 hk189 hk190 hP hD hS (lv_sub hl [0, 1] rfl)
        · skip
          have h184 : ¬ 133 ≤ j91 := fun q9 => h184 ((nI_leI (a := 133) (b := j91) (by omega) (by omega)).mpr q9)
          refine lv_aload_n hx hb dX11_keep_20 rfl (lv_at hl 1 rfl) ?_
          refine va_get (D := D) (ci := 11) (v := .ref to) (C := RX11) (T := TX11) (N := 18) hx hb hts iw11 hown hK hP 0 rfl rfl 0 (by decide) fw1 (fun _ h9 => h9) rfl dX11_keep_21 ?_
          refine lv_bipush (v := 76) hx hb dX11_keep_24 (by decide) ?_
          refine lv_iload_n hx hb dX11_keep_26 rfl (lv_at hl 0 rfl) ?_
          refine lv_iadd hx hb dX11_keep_27 ?_
          rw [show 76 + (nI j91) = nI (j91 + 76) from (nI_add 76 j91).trans (congrArg nI (by omega))]
          refine lv_aload_n hx hb dX11_keep_28 rfl (lv_at hl 1 rfl) ?_
          refine va_get (D := D) (ci := 11) (v := .ref to) (C := RX11) (T := TX11) (N := 18) hx hb hts iw11 hown hK hP 0 rfl rfl 0 (by decide) fw1 (fun _ h9 => h9) rfl dX11_keep_29 ?_
          refine lv_bipush (v := 95) hx hb dX11_keep_32 (by decide) ?_
          refine lv_iload_n hx hb dX11_keep_34 rfl (lv_at hl 0 rfl) ?_
          refine lv_iadd hx hb dX11_keep_35 ?_
          rw [show 95 + (nI j91) = nI (j91 + 95) from (nI_add 95 j91).trans (congrArg nI (by omega))]
          refine va_iald hx hb hK hP 1 0 rfl rfl (vp_in_nI (by omega) (by decide)) dX11_keep_36 ?_
          rw [nI_clamp (n := (j91 + 95)) (by omega)]
          refine va_iast hx hb hK hP hD hS 1 0 rfl rfl (vp_in_nI (by omega) (by decide)) dX11_keep_37 (fun H locs hP hD hS => ?_)
          rw [nI_clamp (n := (j91 + 76)) (by omega)] at hP hD
          have hr244 : kr_t 228 (upd x114 (j91 + 76) (x114 (j91 + 95))) := kr_up hr_x114 (kr_move (p := (j91 + 95)) (hr_x114 (j91 + 95) (by omega)) (by unfold kr_a; omega) (by unfold kr_s; omega))
          have hk245 : (upd x114 (j91 + 76) (x114 (j91 + 95))) 0 = (nI fi) := (pk_un (by omega)).trans hk_x114_0
          have hk246 : (upd x114 (j91 + 76) (x114 (j91 + 95))) 1 = (nI gl) := (pk_un (by omega)).trans hk_x114_1
          have hk247 : (upd x114 (j91 + 76) (x114 (j91 + 95))) 2 = (nI mi) := (pk_un (by omega)).trans hk_x114_2
          have hk248 : (upd x114 (j91 + 76) (x114 (j91 + 95))) 3 = (nI no) := (pk_un (by omega)).trans hk_x114_3
          have hk249 : (upd x114 (j91 + 76) (x114 (j91 + 95))) 4 = (nI un) := (pk_un (by omega)).trans hk_x114_4
          have hP : va_P D vwCl [(mo, .inr (11, [.ref to, .ref ke, .ref ik, .ref mrf, .long mab, .long mbl, .ref ha, .ref r0, .ref mbr, .ref mbp, .ref mby, .int (nI bl), .int (nI ta), .int (nI tl), .int (nI tk), .int vv, .ref an, .ref va])), (to, .inl (y 0, 228, .inl (upd x114 (j91 + 76) (x114 (j91 + 95)))))] H := hP
          have hD : va_D A [(mo, .inr (11, [.ref to, .ref ke, .ref ik, .ref mrf, .long mab, .long mbl, .ref ha, .ref r0, .ref mbr, .ref mbp, .ref mby, .int (nI bl), .int (nI ta), .int (nI tl), .int (nI tk), .int vv, .ref an, .ref va])), (to, .inl (y 0, 228, .inl (upd x114 (j91 + 76) (x114 (j91 + 95)))))] := hD
          refine lv_iinc (v := (nI (j91 + 1))) (lv' := [(1, .int (nI (j91 + 1))), (0, .ref mo)]) hx hb dX11_keep_38 hl (k := 0) rfl (nI_1 j91) (by decide) rfl (fun ls hl => ?_)
          refine lv_goto (tgt := 13) hx hb dX11_keep_41 (by decide) ?_
          exact ihj91 (j91 + 1) (upd x114 (j91 + 76) (x114 (j91 + 95))) H locs ls (by omega) (by omega) hr244 hk245 hk246 hk247 hk248 hk249 (hP.sub [0, 1] rfl) (hD.sub [0, 1] (by decide) rfl) hS (lv_sub hl [0, 1] rfl)
    exact lp182 (133 + 1) 0 ft _ _ _ (by omega) (by omega) hkt hk0_ hk1_ hk2_ hk3_ hk4_ hP hD hS (lv_sub hl [0, 1] rfl)
