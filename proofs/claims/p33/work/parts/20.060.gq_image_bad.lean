set_option maxHeartbeats 4000000 in
set_option maxRecDepth 100000 in
theorem gq_image_bad (l : Launch) (D : va_G) (y : Nat → ClassId) (mo : Nat) (to : Nat) (ke : Nat) (ik : Nat) (mrf : Nat) (ha : Nat) (r0 : Nat) (mbr : Nat) (mbp : Nat) (mby : Nat) (an : Nat) (va : Nat) (mab : Int64) (mbl : Int64) (bl : Nat) (ta : Nat) (tl : Nat) (tk : Nat) (vv : Int32) (frf : Nat → Int32) (x : Int32) (hA1 : (¬ ∃ j : Nat, 0 ≤ j ∧ j ≤ 1 ∧ x = nI j)) : kw_Mi l yX11_image wsX11_image ({ frames := 2, cells := 0, slots := 0, locals := 85 }) D y [.ref mo, .int x] [(mo, .inr (11, [.ref to, .ref ke, .ref ik, .ref mrf, .long mab, .long mbl, .ref ha, .ref r0, .ref mbr, .ref mbp, .ref mby, .int (nI bl), .int (nI ta), .int (nI tl), .int (nI tk), .int vv, .ref an, .ref va])), (mrf, .inl (y 0, 3, .inl frf))] (fun (r : Int32) (u : Unit) => r = (-2)) (fun _ => [(mo, .inr (11, [.ref to, .ref ke, .ref ik, .ref mrf, .long mab, .long mbl, .ref ha, .ref r0, .ref mbr, .ref mbp, .ref mby, .int (nI bl), .int (nI ta), .int (nI tl), .int (nI tk), .int vv, .ref an, .ref va])), (mrf, .inl (y 0, 3, .inl (upd frf 0 ((frf 0) + 1))))]) 0 0 := by
  refine kw_Mi.of (cc := cX11_image) (maxL := 3) (ret := (some .int)) (by decide) rfl ?_
  intro pZ eZ s mZ beZ meZ cZ A hE
  obtain ⟨hx, hb, hr, hml, hts, hown, hlocks, hin, hA, hP, hD, hK, hN⟩ := hE
  have hS : va_S A s.heap s.heap [] := va_S.rf
  have hl := lv_entry ([.ref mo, .int x]) (n := 3) (Nat.le_of_ble_eq_true rfl)
  rw [lg_entry_eq]
  generalize (lg_sl ([.ref mo, .int x]) ++ List.replicate (3 - (lg_sl ([.ref mo, .int x])).length) Slot.unset).toArray = ls at hl ⊢
  have hl : lv_has ls 3 [(0, .ref mo), (1, .int x)] := hl
  refine lv_iload_n hx hb dX11_image_0 rfl (lv_at hl 1 rfl) ?_
  refine lv_i2l (v := x.toInt64) hx hb dX11_image_1 (rfl) ?_
  refine lv_lconst (v := 0) hx hb dX11_image_2 (by decide) ?_
  refine lv_lconst (v := 1) hx hb dX11_image_3 (by decide) ?_
  have hs1 : kw_Split [(mo, .inr (11, [.ref to, .ref ke, .ref ik, .ref mrf, .long mab, .long mbl, .ref ha, .ref r0, .ref mbr, .ref mbp, .ref mby, .int (nI bl), .int (nI ta), .int (nI tl), .int (nI tk), .int vv, .ref an, .ref va])), (mrf, .inl (y 0, 3, .inl frf))] [] [(mo, .inr (11, [.ref to, .ref ke, .ref ik, .ref mrf, .long mab, .long mbl, .ref ha, .ref r0, .ref mbr, .ref mbp, .ref mby, .int (nI bl), .int (nI ta), .int (nI tl), .int (nI tk), .int vv, .ref an, .ref va])), (mrf, .inl (y 0, 3, .inl frf))] [] [0, 1] := ⟨rfl, rfl, rfl, rfl, rfl, by decide⟩
  refine kw_go_i hs1 hP hD hS hA (va_runS (As := [.long x.toInt64, .long 0, .long 1]) (rest := []) ⟨hx, hb, hml, hown, hts⟩ (gr_in l D y x 0 1 (by omega) (by omega) _) (va_cwS 3 hts gX11_image_X11_in rfl rfl rfl (by decide +kernel) ⟨Nat.le_of_ble_eq_true rfl, Nat.le_of_ble_eq_true rfl⟩) (kw_PreS hs1 hP hD hK hN) rfl rfl hl.1 rfl (lv_room (Nat.le_of_ble_eq_true rfl)) dX11_image_4 ⟨Nat.le_of_ble_eq_true rfl, Nat.le_of_ble_eq_true rfl⟩) (fun r2 u3 H locs hq hP hD hS => ?_)
  rcases hq with ⟨j4, h5, h6, rfl, rfl⟩ | ⟨h7, rfl⟩
  · skip
    exact absurd ⟨j4, h5, h6, rfl⟩ hA1
  · skip
    have hP : va_P D vwCl [(mo, .inr (11, [.ref to, .ref ke, .ref ik, .ref mrf, .long mab, .long mbl, .ref ha, .ref r0, .ref mbr, .ref mbp, .ref mby, .int (nI bl), .int (nI ta), .int (nI tl), .int (nI tk), .int vv, .ref an, .ref va])), (mrf, .inl (y 0, 3, .inl frf))] H := hP
    have hD : va_D A [(mo, .inr (11, [.ref to, .ref ke, .ref ik, .ref mrf, .long mab, .long mbl, .ref ha, .ref r0, .ref mbr, .ref mbp, .ref mby, .int (nI bl), .int (nI ta), .int (nI tl), .int (nI tk), .int vv, .ref an, .ref va])), (mrf, .inl (y 0, 3, .inl frf))] := hD
    refine lv_if_ne (tgt := 17) hx hb dX11_image_7 (by decide) (fun h9 => absurd h9 (by decide)) (fun _ => ?_)
    refine lv_aload_n hx hb dX11_image_10 rfl (lv_at hl 0 rfl) ?_
    refine lv_bipush (v := (-2)) hx hb dX11_image_11 (by decide) ?_
    have hs8 : kw_Split [(mo, .inr (11, [.ref to, .ref ke, .ref ik, .ref mrf, .long mab, .long mbl, .ref ha, .ref r0, .ref mbr, .ref mbp, .ref mby, .int (nI bl), .int (nI ta), .int (nI tl), .int (nI tk), .int vv, .ref an, .ref va])), (mrf, .inl (y 0, 3, .inl frf))] [(mo, .inr (11, [.ref to, .ref ke, .ref ik, .ref mrf, .long mab, .long mbl, .ref ha, .ref r0, .ref mbr, .ref mbp, .ref mby, .int (nI bl), .int (nI ta), .int (nI tl), .int (nI tk), .int vv, .ref an, .ref va])), (mrf, .inl (y 0, 3, .inl frf))] [] [0, 1] [] := ⟨rfl, rfl, rfl, rfl, rfl, by decide⟩
    refine kw_go_i hs8 hP hD hS hA (va_runV (As := [.int (-2)]) (rest := []) ⟨hx, hb, hml, hown, hts⟩ (gr_bad l D y mo to ke ik mrf ha r0 mbr mbp mby an va mab mbl bl ta tl tk vv frf (-2)  _) (cwV 1 hts gX11_image_X11_bad rfl rfl rfl (by decide +kernel) ⟨Nat.le_of_ble_eq_true rfl, Nat.le_of_ble_eq_true rfl⟩) (kw_PreV (ci := 11) (q0 := 0) hs8 hP hD hK hN rfl rfl) rfl rfl hl.1 rfl (lv_room (Nat.le_of_ble_eq_true rfl)) dX11_image_13 ⟨Nat.le_of_ble_eq_true rfl, Nat.le_of_ble_eq_true rfl⟩) (fun r9 u10 H locs hq hP hD hS => ?_)
    obtain rfl := hq
    have hP : va_P D vwCl [(mo, .inr (11, [.ref to, .ref ke, .ref ik, .ref mrf, .long mab, .long mbl, .ref ha, .ref r0, .ref mbr, .ref mbp, .ref mby, .int (nI bl), .int (nI ta), .int (nI tl), .int (nI tk), .int vv, .ref an, .ref va])), (mrf, .inl (y 0, 3, .inl (upd frf 0 ((frf 0) + 1))))] H := hP
    have hD : va_D A [(mo, .inr (11, [.ref to, .ref ke, .ref ik, .ref mrf, .long mab, .long mbl, .ref ha, .ref r0, .ref mbr, .ref mbp, .ref mby, .int (nI bl), .int (nI ta), .int (nI tl), .int (nI tk), .int vv, .ref an, .ref va])), (mrf, .inl (y 0, 3, .inl (upd frf 0 ((frf 0) + 1))))] := hD
    exact W.iret (v := (-2)) hx hb hr (fun tZ ht hW => ⟨⟨(-2), (), rfl, rfl, by rw [ht]; exact hP.sub [0, 1] rfl, hD.sub [0, 1] (by decide) rfl⟩, hS.F ht⟩) hS.2.2 dX11_image_16

set_option maxHeartbeats 4000000 in
set_option maxRecDepth 100000 in
theorem gq_from_bad (l : Launch) (D : va_G) (y : Nat → ClassId) (mo : Nat) (to : Nat) (ke : Nat) (ik : Nat) (mrf : Nat) (ha : Nat) (r0 : Nat) (mbr : Nat) (mbp : Nat) (mby : Nat) (an : Nat) (va : Nat) (mab : Int64) (mbl : Int64) (bl : Nat) (ta : Nat) (tl : Nat) (tk : Nat) (vv : Int32) (frf : Nat → Int32) (x : Int32) (hA1 : (¬ ∃ j : Nat, 0 ≤ j ∧ j ≤ 1 ∧ x = nI j)) : kw_Mi l yX11_from wsX11_from ({ frames := 2, cells := 0, slots := 0, locals := 85 }) D y [.ref mo, .int x] [(mo, .inr (11, [.ref to, .ref ke, .ref ik, .ref mrf, .long mab, .long mbl, .ref ha, .ref r0, .ref mbr, .ref mbp, .ref mby, .int (nI bl), .int (nI ta), .int (nI tl), .int (nI tk), .int vv, .ref an, .ref va])), (mrf, .inl (y 0, 3, .inl frf))] (fun (r : Int32) (u : Unit) => r = (-2)) (fun _ => [(mo, .inr (11, [.ref to, .ref ke, .ref ik, .ref mrf, .long mab, .long mbl, .ref ha, .ref r0, .ref mbr, .ref mbp, .ref mby, .int (nI bl), .int (nI ta), .int (nI tl), .int (nI tk), .int vv, .ref an, .ref va])), (mrf, .inl (y 0, 3, .inl (upd frf 0 ((frf 0) + 1))))]) 0 0 := by
  refine kw_Mi.of (cc := cX11_from) (maxL := 3) (ret := (some .int)) (by decide) rfl ?_
  intro pZ eZ s mZ beZ meZ cZ A hE
  obtain ⟨hx, hb, hr, hml, hts, hown, hlocks, hin, hA, hP, hD, hK, hN⟩ := hE
  have hS : va_S A s.heap s.heap [] := va_S.rf
  have hl := lv_entry ([.ref mo, .int x]) (n := 3) (Nat.le_of_ble_eq_true rfl)
  rw [lg_entry_eq]
  generalize (lg_sl ([.ref mo, .int x]) ++ List.replicate (3 - (lg_sl ([.ref mo, .int x])).length) Slot.unset).toArray = ls at hl ⊢
  have hl : lv_has ls 3 [(0, .ref mo), (1, .int x)] := hl
  refine lv_iload_n hx hb dX11_from_0 rfl (lv_at hl 1 rfl) ?_
  refine lv_i2l (v := x.toInt64) hx hb dX11_from_1 (rfl) ?_
  refine lv_lconst (v := 0) hx hb dX11_from_2 (by decide) ?_
  refine lv_lconst (v := 1) hx hb dX11_from_3 (by decide) ?_
  have hs1 : kw_Split [(mo, .inr (11, [.ref to, .ref ke, .ref ik, .ref mrf, .long mab, .long mbl, .ref ha, .ref r0, .ref mbr, .ref mbp, .ref mby, .int (nI bl), .int (nI ta), .int (nI tl), .int (nI tk), .int vv, .ref an, .ref va])), (mrf, .inl (y 0, 3, .inl frf))] [] [(mo, .inr (11, [.ref to, .ref ke, .ref ik, .ref mrf, .long mab, .long mbl, .ref ha, .ref r0, .ref mbr, .ref mbp, .ref mby, .int (nI bl), .int (nI ta), .int (nI tl), .int (nI tk), .int vv, .ref an, .ref va])), (mrf, .inl (y 0, 3, .inl frf))] [] [0, 1] := ⟨rfl, rfl, rfl, rfl, rfl, by decide⟩
  refine kw_go_i hs1 hP hD hS hA (va_runS (As := [.long x.toInt64, .long 0, .long 1]) (rest := []) ⟨hx, hb, hml, hown, hts⟩ (gr_in l D y x 0 1 (by omega) (by omega) _) (va_cwS 3 hts gX11_from_X11_in rfl rfl rfl (by decide +kernel) ⟨Nat.le_of_ble_eq_true rfl, Nat.le_of_ble_eq_true rfl⟩) (kw_PreS hs1 hP hD hK hN) rfl rfl hl.1 rfl (lv_room (Nat.le_of_ble_eq_true rfl)) dX11_from_4 ⟨Nat.le_of_ble_eq_true rfl, Nat.le_of_ble_eq_true rfl⟩) (fun r2 u3 H locs hq hP hD hS => ?_)
  rcases hq with ⟨j4, h5, h6, rfl, rfl⟩ | ⟨h7, rfl⟩
  · skip
    exact absurd ⟨j4, h5, h6, rfl⟩ hA1
  · skip
    have hP : va_P D vwCl [(mo, .inr (11, [.ref to, .ref ke, .ref ik, .ref mrf, .long mab, .long mbl, .ref ha, .ref r0, .ref mbr, .ref mbp, .ref mby, .int (nI bl), .int (nI ta), .int (nI tl), .int (nI tk), .int vv, .ref an, .ref va])), (mrf, .inl (y 0, 3, .inl frf))] H := hP
    have hD : va_D A [(mo, .inr (11, [.ref to, .ref ke, .ref ik, .ref mrf, .long mab, .long mbl, .ref ha, .ref r0, .ref mbr, .ref mbp, .ref mby, .int (nI bl), .int (nI ta), .int (nI tl), .int (nI tk), .int vv, .ref an, .ref va])), (mrf, .inl (y 0, 3, .inl frf))] := hD
    refine lv_if_ne (tgt := 17) hx hb dX11_from_7 (by decide) (fun h9 => absurd h9 (by decide)) (fun _ => ?_)
    refine lv_aload_n hx hb dX11_from_10 rfl (lv_at hl 0 rfl) ?_
    refine lv_bipush (v := (-2)) hx hb dX11_from_11 (by decide) ?_
    have hs8 : kw_Split [(mo, .inr (11, [.ref to, .ref ke, .ref ik, .ref mrf, .long mab, .long mbl, .ref ha, .ref r0, .ref mbr, .ref mbp, .ref mby, .int (nI bl), .int (nI ta), .int (nI tl), .int (nI tk), .int vv, .ref an, .ref va])), (mrf, .inl (y 0, 3, .inl frf))] [(mo, .inr (11, [.ref to, .ref ke, .ref ik, .ref mrf, .long mab, .long mbl, .ref ha, .ref r0, .ref mbr, .ref mbp, .ref mby, .int (nI bl), .int (nI ta), .int (nI tl), .int (nI tk), .int vv, .ref an, .ref va])), (mrf, .inl (y 0, 3, .inl frf))] [] [0, 1] [] := ⟨rfl, rfl, rfl, rfl, rfl, by decide⟩
    refine kw_go_i hs8 hP hD hS hA (va_runV (As := [.int (-2)]) (rest := []) ⟨hx, hb, hml, hown, hts⟩ (gr_bad l D y mo to ke ik mrf ha r0 mbr mbp mby an va mab mbl bl ta tl tk vv frf (-2)  _) (cwV 1 hts gX11_from_X11_bad rfl rfl rfl (by decide +kernel) ⟨Nat.le_of_ble_eq_true rfl, Nat.le_of_ble_eq_true rfl⟩) (kw_PreV (ci := 11) (q0 := 0) hs8 hP hD hK hN rfl rfl) rfl rfl hl.1 rfl (lv_room (Nat.le_of_ble_eq_true rfl)) dX11_from_13 ⟨Nat.le_of_ble_eq_true rfl, Nat.le_of_ble_eq_true rfl⟩) (fun r9 u10 H locs hq hP hD hS => ?_)
    obtain rfl := hq
    have hP : va_P D vwCl [(mo, .inr (11, [.ref to, .ref ke, .ref ik, .ref mrf, .long mab, .long mbl, .ref ha, .ref r0, .ref mbr, .ref mbp, .ref mby, .int (nI bl), .int (nI ta), .int (nI tl), .int (nI tk), .int vv, .ref an, .ref va])), (mrf, .inl (y 0, 3, .inl (upd frf 0 ((frf 0) + 1))))] H := hP
    have hD : va_D A [(mo, .inr (11, [.ref to, .ref ke, .ref ik, .ref mrf, .long mab, .long mbl, .ref ha, .ref r0, .ref mbr, .ref mbp, .ref mby, .int (nI bl), .int (nI ta), .int (nI tl), .int (nI tk), .int vv, .ref an, .ref va])), (mrf, .inl (y 0, 3, .inl (upd frf 0 ((frf 0) + 1))))] := hD
    exact W.iret (v := (-2)) hx hb hr (fun tZ ht hW => ⟨⟨(-2), (), rfl, rfl, by rw [ht]; exact hP.sub [0, 1] rfl, hD.sub [0, 1] (by decide) rfl⟩, hS.F ht⟩) hS.2.2 dX11_from_16

set_option maxHeartbeats 4000000 in
set_option maxRecDepth 100000 in
theorem gn_Plain_on5 (l : Launch) (D : va_G) (y : Nat → ClassId) (o : Nat)  : kw_Mv l yX5_init wsX5_init ({ frames := 1, cells := 0, slots := 0, locals := 60 }) D y [.ref o] [(o, .inr (5, []))] (fun (u : Unit) => True) (fun _ => [(o, .inr (5, []))]) 0 0 := by
  refine kw_Mv.of (cc := cX5_init) (maxL := 1) (ret := none) (by decide) rfl ?_
  intro pZ eZ s mZ beZ meZ cZ A hE
  obtain ⟨hx, hb, hr, hml, hts, hown, hlocks, hin, hA, hP, hD, hK, hN⟩ := hE
  have hS : va_S A s.heap s.heap [] := va_S.rf
  have hl := lv_entry ([.ref o]) (n := 1) (Nat.le_of_ble_eq_true rfl)
  rw [lg_entry_eq]
  generalize (lg_sl ([.ref o]) ++ List.replicate (1 - (lg_sl ([.ref o])).length) Slot.unset).toArray = ls at hl ⊢
  have hl : lv_has ls 1 [(0, .ref o)] := hl
  have fw1 := hts (.methodLink RX5 1 objectInit) (List.mem_of_getElem? (i := 1) rfl)
  have fw2 := hts (.instanceMethod objectInit) (List.mem_of_getElem? (i := 2) rfl)
  have fw3 := hts (.code objectInit ⟨#[0xb1]⟩ 1 none) (List.mem_of_getElem? (i := 3) rfl)
  refine lv_aload_n hx hb dX5_init_0 rfl (lv_at hl 0 rfl) ?_
  refine W.objInit hx hb hown fw1 fw2 fw3 rfl (by rw [hml]; exact hl.1) rfl dX5_init_1 (Nat.le_of_ble_eq_true rfl) (Nat.le_of_ble_eq_true rfl) ?_
  refine W.eq (g2 := F0 mZ 4 ls []) rfl ?_
  exact W.vret hx hb hr (fun tZ ht hW => ⟨⟨(), rfl, trivial, by rw [ht]; exact hP.sub [0] rfl, hD.sub [0] (by decide) rfl⟩, hS.F ht⟩) hS.2.2 dX5_init_4

set_option maxHeartbeats 4000000 in
set_option maxRecDepth 100000 in
theorem gn_Plain_on8 (l : Launch) (D : va_G) (y : Nat → ClassId) (o : Nat)  : kw_Mv l yX5_init wsX5_init ({ frames := 1, cells := 0, slots := 0, locals := 60 }) D y [.ref o] [(o, .inr (8, []))] (fun (u : Unit) => True) (fun _ => [(o, .inr (8, []))]) 0 0 := by
  refine kw_Mv.of (cc := cX5_init) (maxL := 1) (ret := none) (by decide) rfl ?_
  intro pZ eZ s mZ beZ meZ cZ A hE
  obtain ⟨hx, hb, hr, hml, hts, hown, hlocks, hin, hA, hP, hD, hK, hN⟩ := hE
  have hS : va_S A s.heap s.heap [] := va_S.rf
  have hl := lv_entry ([.ref o]) (n := 1) (Nat.le_of_ble_eq_true rfl)
  rw [lg_entry_eq]
  generalize (lg_sl ([.ref o]) ++ List.replicate (1 - (lg_sl ([.ref o])).length) Slot.unset).toArray = ls at hl ⊢
  have hl : lv_has ls 1 [(0, .ref o)] := hl
  have fw1 := hts (.methodLink RX5 1 objectInit) (List.mem_of_getElem? (i := 1) rfl)
  have fw2 := hts (.instanceMethod objectInit) (List.mem_of_getElem? (i := 2) rfl)
  have fw3 := hts (.code objectInit ⟨#[0xb1]⟩ 1 none) (List.mem_of_getElem? (i := 3) rfl)
  refine lv_aload_n hx hb dX5_init_0 rfl (lv_at hl 0 rfl) ?_
  refine W.objInit hx hb hown fw1 fw2 fw3 rfl (by rw [hml]; exact hl.1) rfl dX5_init_1 (Nat.le_of_ble_eq_true rfl) (Nat.le_of_ble_eq_true rfl) ?_
  refine W.eq (g2 := F0 mZ 4 ls []) rfl ?_
  exact W.vret hx hb hr (fun tZ ht hW => ⟨⟨(), rfl, trivial, by rw [ht]; exact hP.sub [0] rfl, hD.sub [0] (by decide) rfl⟩, hS.F ht⟩) hS.2.2 dX5_init_4

set_option maxHeartbeats 4000000 in
set_option maxRecDepth 100000 in
theorem gn_Plain_on9 (l : Launch) (D : va_G) (y : Nat → ClassId) (o : Nat)  : kw_Mv l yX5_init wsX5_init ({ frames := 1, cells := 0, slots := 0, locals := 60 }) D y [.ref o] [(o, .inr (9, []))] (fun (u : Unit) => True) (fun _ => [(o, .inr (9, []))]) 0 0 := by
  refine kw_Mv.of (cc := cX5_init) (maxL := 1) (ret := none) (by decide) rfl ?_
  intro pZ eZ s mZ beZ meZ cZ A hE
  obtain ⟨hx, hb, hr, hml, hts, hown, hlocks, hin, hA, hP, hD, hK, hN⟩ := hE
  have hS : va_S A s.heap s.heap [] := va_S.rf
  have hl := lv_entry ([.ref o]) (n := 1) (Nat.le_of_ble_eq_true rfl)
  rw [lg_entry_eq]
  generalize (lg_sl ([.ref o]) ++ List.replicate (1 - (lg_sl ([.ref o])).length) Slot.unset).toArray = ls at hl ⊢
  have hl : lv_has ls 1 [(0, .ref o)] := hl
  have fw1 := hts (.methodLink RX5 1 objectInit) (List.mem_of_getElem? (i := 1) rfl)
  have fw2 := hts (.instanceMethod objectInit) (List.mem_of_getElem? (i := 2) rfl)
  have fw3 := hts (.code objectInit ⟨#[0xb1]⟩ 1 none) (List.mem_of_getElem? (i := 3) rfl)
  refine lv_aload_n hx hb dX5_init_0 rfl (lv_at hl 0 rfl) ?_
  refine W.objInit hx hb hown fw1 fw2 fw3 rfl (by rw [hml]; exact hl.1) rfl dX5_init_1 (Nat.le_of_ble_eq_true rfl) (Nat.le_of_ble_eq_true rfl) ?_
  refine W.eq (g2 := F0 mZ 4 ls []) rfl ?_
  exact W.vret hx hb hr (fun tZ ht hW => ⟨⟨(), rfl, trivial, by rw [ht]; exact hP.sub [0] rfl, hD.sub [0] (by decide) rfl⟩, hS.F ht⟩) hS.2.2 dX5_init_4

set_option maxHeartbeats 4000000 in
set_option maxRecDepth 100000 in
theorem gn_Plain_on6 (l : Launch) (D : va_G) (y : Nat → ClassId) (o : Nat)  : kw_Mv l yX5_init wsX5_init ({ frames := 1, cells := 0, slots := 0, locals := 60 }) D y [.ref o] [(o, .inr (6, []))] (fun (u : Unit) => True) (fun _ => [(o, .inr (6, []))]) 0 0 := by
  refine kw_Mv.of (cc := cX5_init) (maxL := 1) (ret := none) (by decide) rfl ?_
  intro pZ eZ s mZ beZ meZ cZ A hE
  obtain ⟨hx, hb, hr, hml, hts, hown, hlocks, hin, hA, hP, hD, hK, hN⟩ := hE
  have hS : va_S A s.heap s.heap [] := va_S.rf
  have hl := lv_entry ([.ref o]) (n := 1) (Nat.le_of_ble_eq_true rfl)
  rw [lg_entry_eq]
  generalize (lg_sl ([.ref o]) ++ List.replicate (1 - (lg_sl ([.ref o])).length) Slot.unset).toArray = ls at hl ⊢
  have hl : lv_has ls 1 [(0, .ref o)] := hl
  have fw1 := hts (.methodLink RX5 1 objectInit) (List.mem_of_getElem? (i := 1) rfl)
  have fw2 := hts (.instanceMethod objectInit) (List.mem_of_getElem? (i := 2) rfl)
  have fw3 := hts (.code objectInit ⟨#[0xb1]⟩ 1 none) (List.mem_of_getElem? (i := 3) rfl)
  refine lv_aload_n hx hb dX5_init_0 rfl (lv_at hl 0 rfl) ?_
  refine W.objInit hx hb hown fw1 fw2 fw3 rfl (by rw [hml]; exact hl.1) rfl dX5_init_1 (Nat.le_of_ble_eq_true rfl) (Nat.le_of_ble_eq_true rfl) ?_
  refine W.eq (g2 := F0 mZ 4 ls []) rfl ?_
  exact W.vret hx hb hr (fun tZ ht hW => ⟨⟨(), rfl, trivial, by rw [ht]; exact hP.sub [0] rfl, hD.sub [0] (by decide) rfl⟩, hS.F ht⟩) hS.2.2 dX5_init_4

set_option maxHeartbeats 4000000 in
set_option maxRecDepth 100000 in
theorem gn_Plain_on2 (l : Launch) (D : va_G) (y : Nat → ClassId) (o : Nat)  : kw_Mv l yX5_init wsX5_init ({ frames := 1, cells := 0, slots := 0, locals := 60 }) D y [.ref o] [(o, .inr (2, []))] (fun (u : Unit) => True) (fun _ => [(o, .inr (2, []))]) 0 0 := by
  refine kw_Mv.of (cc := cX5_init) (maxL := 1) (ret := none) (by decide) rfl ?_
  intro pZ eZ s mZ beZ meZ cZ A hE
  obtain ⟨hx, hb, hr, hml, hts, hown, hlocks, hin, hA, hP, hD, hK, hN⟩ := hE
  have hS : va_S A s.heap s.heap [] := va_S.rf
  have hl := lv_entry ([.ref o]) (n := 1) (Nat.le_of_ble_eq_true rfl)
  rw [lg_entry_eq]
  generalize (lg_sl ([.ref o]) ++ List.replicate (1 - (lg_sl ([.ref o])).length) Slot.unset).toArray = ls at hl ⊢
  have hl : lv_has ls 1 [(0, .ref o)] := hl
  have fw1 := hts (.methodLink RX5 1 objectInit) (List.mem_of_getElem? (i := 1) rfl)
  have fw2 := hts (.instanceMethod objectInit) (List.mem_of_getElem? (i := 2) rfl)
  have fw3 := hts (.code objectInit ⟨#[0xb1]⟩ 1 none) (List.mem_of_getElem? (i := 3) rfl)
  refine lv_aload_n hx hb dX5_init_0 rfl (lv_at hl 0 rfl) ?_
  refine W.objInit hx hb hown fw1 fw2 fw3 rfl (by rw [hml]; exact hl.1) rfl dX5_init_1 (Nat.le_of_ble_eq_true rfl) (Nat.le_of_ble_eq_true rfl) ?_
  refine W.eq (g2 := F0 mZ 4 ls []) rfl ?_
  exact W.vret hx hb hr (fun tZ ht hW => ⟨⟨(), rfl, trivial, by rw [ht]; exact hP.sub [0] rfl, hD.sub [0] (by decide) rfl⟩, hS.F ht⟩) hS.2.2 dX5_init_4

set_option maxHeartbeats 4000000 in
set_option maxRecDepth 100000 in
theorem gn_Plain_on3 (l : Launch) (D : va_G) (y : Nat → ClassId) (o : Nat)  : kw_Mv l yX5_init wsX5_init ({ frames := 1, cells := 0, slots := 0, locals := 60 }) D y [.ref o] [(o, .inr (3, []))] (fun (u : Unit) => True) (fun _ => [(o, .inr (3, []))]) 0 0 := by
  refine kw_Mv.of (cc := cX5_init) (maxL := 1) (ret := none) (by decide) rfl ?_
  intro pZ eZ s mZ beZ meZ cZ A hE
  obtain ⟨hx, hb, hr, hml, hts, hown, hlocks, hin, hA, hP, hD, hK, hN⟩ := hE
  have hS : va_S A s.heap s.heap [] := va_S.rf
  have hl := lv_entry ([.ref o]) (n := 1) (Nat.le_of_ble_eq_true rfl)
  rw [lg_entry_eq]
  generalize (lg_sl ([.ref o]) ++ List.replicate (1 - (lg_sl ([.ref o])).length) Slot.unset).toArray = ls at hl ⊢
  have hl : lv_has ls 1 [(0, .ref o)] := hl
  have fw1 := hts (.methodLink RX5 1 objectInit) (List.mem_of_getElem? (i := 1) rfl)
  have fw2 := hts (.instanceMethod objectInit) (List.mem_of_getElem? (i := 2) rfl)
  have fw3 := hts (.code objectInit ⟨#[0xb1]⟩ 1 none) (List.mem_of_getElem? (i := 3) rfl)
  refine lv_aload_n hx hb dX5_init_0 rfl (lv_at hl 0 rfl) ?_
  refine W.objInit hx hb hown fw1 fw2 fw3 rfl (by rw [hml]; exact hl.1) rfl dX5_init_1 (Nat.le_of_ble_eq_true rfl) (Nat.le_of_ble_eq_true rfl) ?_
  refine W.eq (g2 := F0 mZ 4 ls []) rfl ?_
  exact W.vret hx hb hr (fun tZ ht hW => ⟨⟨(), rfl, trivial, by rw [ht]; exact hP.sub [0] rfl, hD.sub [0] (by decide) rfl⟩, hS.F ht⟩) hS.2.2 dX5_init_4

set_option maxHeartbeats 4000000 in
set_option maxRecDepth 100000 in
theorem gn_West_on8 (l : Launch) (D : va_G) (y : Nat → ClassId) (o : Nat)  : kw_Mv l yX8_init wsX8_init ({ frames := 2, cells := 0, slots := 0, locals := 80 }) D y [.ref o] [(o, .inr (8, []))] (fun (u : Unit) => True) (fun _ => [(o, .inr (8, []))]) 0 0 := by
  refine kw_Mv.of (cc := cX8_init) (maxL := 1) (ret := none) (by decide) rfl ?_
  intro pZ eZ s mZ beZ meZ cZ A hE
  obtain ⟨hx, hb, hr, hml, hts, hown, hlocks, hin, hA, hP, hD, hK, hN⟩ := hE
  have hS : va_S A s.heap s.heap [] := va_S.rf
  have hl := lv_entry ([.ref o]) (n := 1) (Nat.le_of_ble_eq_true rfl)
  rw [lg_entry_eq]
  generalize (lg_sl ([.ref o]) ++ List.replicate (1 - (lg_sl ([.ref o])).length) Slot.unset).toArray = ls at hl ⊢
  have hl : lv_has ls 1 [(0, .ref o)] := hl
  have fw1 := hts (.initialized RX5) (List.mem_of_getElem? (i := 2) rfl)
  have fw2 := hts (.instanceMethod yX5_init) (List.mem_of_getElem? (i := 1) rfl)
  refine lv_aload_n hx hb dX8_init_0 rfl (lv_at hl 0 rfl) ?_
  have hs1 : kw_Split [(o, .inr (8, []))] [(o, .inr (8, []))] [] [0] [] := ⟨rfl, rfl, rfl, rfl, rfl, by decide⟩
  refine kw_go_v hs1 hP hD hS hA (va_runIN (As := []) (rest := []) ⟨hx, hb, hml, hown, hts⟩ (gn_Plain_on8 l D y o  _) ⟨va_cnB 0 hts gX8_init_X5_init_n1 rfl rfl rfl (hN.1 ("GleanDusk$West", 1, yX5_init) (List.mem_of_getElem? (i := 2) rfl)) fw1 (by decide +kernel) ⟨Nat.le_of_ble_eq_true rfl, Nat.le_of_ble_eq_true rfl⟩, rfl, fw2⟩ (kw_PreI hs1 hP hD hK hN) rfl rfl hl.1 rfl (lv_room (Nat.le_of_ble_eq_true rfl)) dX8_init_1 ⟨Nat.le_of_ble_eq_true rfl, Nat.le_of_ble_eq_true rfl⟩) (fun u3 H locs hq hP hD hS => ?_)
  have hP : va_P D vwCl [(o, .inr (8, []))] H := hP
  have hD : va_D A [(o, .inr (8, []))] := hD
  exact W.vret hx hb hr (fun tZ ht hW => ⟨⟨(), rfl, trivial, by rw [ht]; exact hP.sub [0] rfl, hD.sub [0] (by decide) rfl⟩, hS.F ht⟩) hS.2.2 dX8_init_4

set_option maxHeartbeats 4000000 in
set_option maxRecDepth 100000 in
theorem gn_West_on2 (l : Launch) (D : va_G) (y : Nat → ClassId) (o : Nat)  : kw_Mv l yX8_init wsX8_init ({ frames := 2, cells := 0, slots := 0, locals := 80 }) D y [.ref o] [(o, .inr (2, []))] (fun (u : Unit) => True) (fun _ => [(o, .inr (2, []))]) 0 0 := by
  refine kw_Mv.of (cc := cX8_init) (maxL := 1) (ret := none) (by decide) rfl ?_
  intro pZ eZ s mZ beZ meZ cZ A hE
  obtain ⟨hx, hb, hr, hml, hts, hown, hlocks, hin, hA, hP, hD, hK, hN⟩ := hE
  have hS : va_S A s.heap s.heap [] := va_S.rf
  have hl := lv_entry ([.ref o]) (n := 1) (Nat.le_of_ble_eq_true rfl)
  rw [lg_entry_eq]
  generalize (lg_sl ([.ref o]) ++ List.replicate (1 - (lg_sl ([.ref o])).length) Slot.unset).toArray = ls at hl ⊢
  have hl : lv_has ls 1 [(0, .ref o)] := hl
  have fw1 := hts (.initialized RX5) (List.mem_of_getElem? (i := 2) rfl)
  have fw2 := hts (.instanceMethod yX5_init) (List.mem_of_getElem? (i := 1) rfl)
  refine lv_aload_n hx hb dX8_init_0 rfl (lv_at hl 0 rfl) ?_
  have hs1 : kw_Split [(o, .inr (2, []))] [(o, .inr (2, []))] [] [0] [] := ⟨rfl, rfl, rfl, rfl, rfl, by decide⟩
  refine kw_go_v hs1 hP hD hS hA (va_runIN (As := []) (rest := []) ⟨hx, hb, hml, hown, hts⟩ (gn_Plain_on2 l D y o  _) ⟨va_cnB 0 hts gX8_init_X5_init_n1 rfl rfl rfl (hN.1 ("GleanDusk$West", 1, yX5_init) (List.mem_of_getElem? (i := 2) rfl)) fw1 (by decide +kernel) ⟨Nat.le_of_ble_eq_true rfl, Nat.le_of_ble_eq_true rfl⟩, rfl, fw2⟩ (kw_PreI hs1 hP hD hK hN) rfl rfl hl.1 rfl (lv_room (Nat.le_of_ble_eq_true rfl)) dX8_init_1 ⟨Nat.le_of_ble_eq_true rfl, Nat.le_of_ble_eq_true rfl⟩) (fun u3 H locs hq hP hD hS => ?_)
  have hP : va_P D vwCl [(o, .inr (2, []))] H := hP
  have hD : va_D A [(o, .inr (2, []))] := hD
  exact W.vret hx hb hr (fun tZ ht hW => ⟨⟨(), rfl, trivial, by rw [ht]; exact hP.sub [0] rfl, hD.sub [0] (by decide) rfl⟩, hS.F ht⟩) hS.2.2 dX8_init_4

set_option maxHeartbeats 4000000 in
set_option maxRecDepth 100000 in
theorem gn_Wood_on9 (l : Launch) (D : va_G) (y : Nat → ClassId) (o : Nat)  : kw_Mv l yX9_init wsX9_init ({ frames := 2, cells := 0, slots := 0, locals := 80 }) D y [.ref o] [(o, .inr (9, []))] (fun (u : Unit) => True) (fun _ => [(o, .inr (9, []))]) 0 0 := by
  refine kw_Mv.of (cc := cX9_init) (maxL := 1) (ret := none) (by decide) rfl ?_
  intro pZ eZ s mZ beZ meZ cZ A hE
  obtain ⟨hx, hb, hr, hml, hts, hown, hlocks, hin, hA, hP, hD, hK, hN⟩ := hE
  have hS : va_S A s.heap s.heap [] := va_S.rf
  have hl := lv_entry ([.ref o]) (n := 1) (Nat.le_of_ble_eq_true rfl)
  rw [lg_entry_eq]
  generalize (lg_sl ([.ref o]) ++ List.replicate (1 - (lg_sl ([.ref o])).length) Slot.unset).toArray = ls at hl ⊢
  have hl : lv_has ls 1 [(0, .ref o)] := hl
  have fw1 := hts (.initialized RX5) (List.mem_of_getElem? (i := 2) rfl)
  have fw2 := hts (.instanceMethod yX5_init) (List.mem_of_getElem? (i := 1) rfl)
  refine lv_aload_n hx hb dX9_init_0 rfl (lv_at hl 0 rfl) ?_
  have hs1 : kw_Split [(o, .inr (9, []))] [(o, .inr (9, []))] [] [0] [] := ⟨rfl, rfl, rfl, rfl, rfl, by decide⟩
  refine kw_go_v hs1 hP hD hS hA (va_runIN (As := []) (rest := []) ⟨hx, hb, hml, hown, hts⟩ (gn_Plain_on9 l D y o  _) ⟨va_cnB 0 hts gX9_init_X5_init_n1 rfl rfl rfl (hN.1 ("GleanDusk$Wood", 1, yX5_init) (List.mem_of_getElem? (i := 4) rfl)) fw1 (by decide +kernel) ⟨Nat.le_of_ble_eq_true rfl, Nat.le_of_ble_eq_true rfl⟩, rfl, fw2⟩ (kw_PreI hs1 hP hD hK hN) rfl rfl hl.1 rfl (lv_room (Nat.le_of_ble_eq_true rfl)) dX9_init_1 ⟨Nat.le_of_ble_eq_true rfl, Nat.le_of_ble_eq_true rfl⟩) (fun u3 H locs hq hP hD hS => ?_)
  have hP : va_P D vwCl [(o, .inr (9, []))] H := hP
  have hD : va_D A [(o, .inr (9, []))] := hD
  exact W.vret hx hb hr (fun tZ ht hW => ⟨⟨(), rfl, trivial, by rw [ht]; exact hP.sub [0] rfl, hD.sub [0] (by decide) rfl⟩, hS.F ht⟩) hS.2.2 dX9_init_4

set_option maxHeartbeats 4000000 in
set_option maxRecDepth 100000 in
theorem gn_Wood_on3 (l : Launch) (D : va_G) (y : Nat → ClassId) (o : Nat)  : kw_Mv l yX9_init wsX9_init ({ frames := 2, cells := 0, slots := 0, locals := 80 }) D y [.ref o] [(o, .inr (3, []))] (fun (u : Unit) => True) (fun _ => [(o, .inr (3, []))]) 0 0 := by
  refine kw_Mv.of (cc := cX9_init) (maxL := 1) (ret := none) (by decide) rfl ?_
  intro pZ eZ s mZ beZ meZ cZ A hE
  obtain ⟨hx, hb, hr, hml, hts, hown, hlocks, hin, hA, hP, hD, hK, hN⟩ := hE
  have hS : va_S A s.heap s.heap [] := va_S.rf
  have hl := lv_entry ([.ref o]) (n := 1) (Nat.le_of_ble_eq_true rfl)
  rw [lg_entry_eq]
  generalize (lg_sl ([.ref o]) ++ List.replicate (1 - (lg_sl ([.ref o])).length) Slot.unset).toArray = ls at hl ⊢
  have hl : lv_has ls 1 [(0, .ref o)] := hl
  have fw1 := hts (.initialized RX5) (List.mem_of_getElem? (i := 2) rfl)
  have fw2 := hts (.instanceMethod yX5_init) (List.mem_of_getElem? (i := 1) rfl)
  refine lv_aload_n hx hb dX9_init_0 rfl (lv_at hl 0 rfl) ?_
  have hs1 : kw_Split [(o, .inr (3, []))] [(o, .inr (3, []))] [] [0] [] := ⟨rfl, rfl, rfl, rfl, rfl, by decide⟩
  refine kw_go_v hs1 hP hD hS hA (va_runIN (As := []) (rest := []) ⟨hx, hb, hml, hown, hts⟩ (gn_Plain_on3 l D y o  _) ⟨va_cnB 0 hts gX9_init_X5_init_n1 rfl rfl rfl (hN.1 ("GleanDusk$Wood", 1, yX5_init) (List.mem_of_getElem? (i := 4) rfl)) fw1 (by decide +kernel) ⟨Nat.le_of_ble_eq_true rfl, Nat.le_of_ble_eq_true rfl⟩, rfl, fw2⟩ (kw_PreI hs1 hP hD hK hN) rfl rfl hl.1 rfl (lv_room (Nat.le_of_ble_eq_true rfl)) dX9_init_1 ⟨Nat.le_of_ble_eq_true rfl, Nat.le_of_ble_eq_true rfl⟩) (fun u3 H locs hq hP hD hS => ?_)
  have hP : va_P D vwCl [(o, .inr (3, []))] H := hP
  have hD : va_D A [(o, .inr (3, []))] := hD
  exact W.vret hx hb hr (fun tZ ht hW => ⟨⟨(), rfl, trivial, by rw [ht]; exact hP.sub [0] rfl, hD.sub [0] (by decide) rfl⟩, hS.F ht⟩) hS.2.2 dX9_init_4

set_option maxHeartbeats 4000000 in
set_option maxRecDepth 100000 in
theorem gn_Puddle_on6 (l : Launch) (D : va_G) (y : Nat → ClassId) (o : Nat)  : kw_Mv l yX6_init wsX6_init ({ frames := 2, cells := 0, slots := 0, locals := 80 }) D y [.ref o] [(o, .inr (6, []))] (fun (u : Unit) => True) (fun _ => [(o, .inr (6, []))]) 0 0 := by
  refine kw_Mv.of (cc := cX6_init) (maxL := 1) (ret := none) (by decide) rfl ?_
  intro pZ eZ s mZ beZ meZ cZ A hE
  obtain ⟨hx, hb, hr, hml, hts, hown, hlocks, hin, hA, hP, hD, hK, hN⟩ := hE
  have hS : va_S A s.heap s.heap [] := va_S.rf
  have hl := lv_entry ([.ref o]) (n := 1) (Nat.le_of_ble_eq_true rfl)
  rw [lg_entry_eq]
  generalize (lg_sl ([.ref o]) ++ List.replicate (1 - (lg_sl ([.ref o])).length) Slot.unset).toArray = ls at hl ⊢
  have hl : lv_has ls 1 [(0, .ref o)] := hl
  have fw1 := hts (.initialized RX5) (List.mem_of_getElem? (i := 2) rfl)
  have fw2 := hts (.instanceMethod yX5_init) (List.mem_of_getElem? (i := 1) rfl)
  refine lv_aload_n hx hb dX6_init_0 rfl (lv_at hl 0 rfl) ?_
  have hs1 : kw_Split [(o, .inr (6, []))] [(o, .inr (6, []))] [] [0] [] := ⟨rfl, rfl, rfl, rfl, rfl, by decide⟩
  refine kw_go_v hs1 hP hD hS hA (va_runIN (As := []) (rest := []) ⟨hx, hb, hml, hown, hts⟩ (gn_Plain_on6 l D y o  _) ⟨va_cnB 0 hts gX6_init_X5_init_n1 rfl rfl rfl (hN.1 ("GleanDusk$Puddle", 1, yX5_init) (List.mem_of_getElem? (i := 6) rfl)) fw1 (by decide +kernel) ⟨Nat.le_of_ble_eq_true rfl, Nat.le_of_ble_eq_true rfl⟩, rfl, fw2⟩ (kw_PreI hs1 hP hD hK hN) rfl rfl hl.1 rfl (lv_room (Nat.le_of_ble_eq_true rfl)) dX6_init_1 ⟨Nat.le_of_ble_eq_true rfl, Nat.le_of_ble_eq_true rfl⟩) (fun u3 H locs hq hP hD hS => ?_)
  have hP : va_P D vwCl [(o, .inr (6, []))] H := hP
  have hD : va_D A [(o, .inr (6, []))] := hD
  exact W.vret hx hb hr (fun tZ ht hW => ⟨⟨(), rfl, trivial, by rw [ht]; exact hP.sub [0] rfl, hD.sub [0] (by decide) rfl⟩, hS.F ht⟩) hS.2.2 dX6_init_4

set_option maxHeartbeats 4000000 in
set_option maxRecDepth 100000 in
theorem gn_Hill_on2 (l : Launch) (D : va_G) (y : Nat → ClassId) (o : Nat)  : kw_Mv l yX2_init wsX2_init ({ frames := 3, cells := 0, slots := 0, locals := 100 }) D y [.ref o] [(o, .inr (2, []))] (fun (u : Unit) => True) (fun _ => [(o, .inr (2, []))]) 0 0 := by
  refine kw_Mv.of (cc := cX2_init) (maxL := 1) (ret := none) (by decide) rfl ?_
  intro pZ eZ s mZ beZ meZ cZ A hE
  obtain ⟨hx, hb, hr, hml, hts, hown, hlocks, hin, hA, hP, hD, hK, hN⟩ := hE
  have hS : va_S A s.heap s.heap [] := va_S.rf
  have hl := lv_entry ([.ref o]) (n := 1) (Nat.le_of_ble_eq_true rfl)
  rw [lg_entry_eq]
  generalize (lg_sl ([.ref o]) ++ List.replicate (1 - (lg_sl ([.ref o])).length) Slot.unset).toArray = ls at hl ⊢
  have hl : lv_has ls 1 [(0, .ref o)] := hl
  have fw1 := hts (.initialized RX8) (List.mem_of_getElem? (i := 2) rfl)
  have fw2 := hts (.instanceMethod yX8_init) (List.mem_of_getElem? (i := 1) rfl)
  refine lv_aload_n hx hb dX2_init_0 rfl (lv_at hl 0 rfl) ?_
  have hs1 : kw_Split [(o, .inr (2, []))] [(o, .inr (2, []))] [] [0] [] := ⟨rfl, rfl, rfl, rfl, rfl, by decide⟩
  refine kw_go_v hs1 hP hD hS hA (va_runIN (As := []) (rest := []) ⟨hx, hb, hml, hown, hts⟩ (gn_West_on2 l D y o  _) ⟨va_cnB 0 hts gX2_init_X8_init_n1 rfl rfl rfl (hN.1 ("GleanDusk$Hill", 1, yX8_init) (List.mem_of_getElem? (i := 8) rfl)) fw1 (by decide +kernel) ⟨Nat.le_of_ble_eq_true rfl, Nat.le_of_ble_eq_true rfl⟩, rfl, fw2⟩ (kw_PreI hs1 hP hD hK hN) rfl rfl hl.1 rfl (lv_room (Nat.le_of_ble_eq_true rfl)) dX2_init_1 ⟨Nat.le_of_ble_eq_true rfl, Nat.le_of_ble_eq_true rfl⟩) (fun u3 H locs hq hP hD hS => ?_)
  have hP : va_P D vwCl [(o, .inr (2, []))] H := hP
  have hD : va_D A [(o, .inr (2, []))] := hD
  exact W.vret hx hb hr (fun tZ ht hW => ⟨⟨(), rfl, trivial, by rw [ht]; exact hP.sub [0] rfl, hD.sub [0] (by decide) rfl⟩, hS.F ht⟩) hS.2.2 dX2_init_4

set_option maxHeartbeats 4000000 in
set_option maxRecDepth 100000 in
theorem gn_Lane_on3 (l : Launch) (D : va_G) (y : Nat → ClassId) (o : Nat)  : kw_Mv l yX3_init wsX3_init ({ frames := 3, cells := 0, slots := 0, locals := 100 }) D y [.ref o] [(o, .inr (3, []))] (fun (u : Unit) => True) (fun _ => [(o, .inr (3, []))]) 0 0 := by
  refine kw_Mv.of (cc := cX3_init) (maxL := 1) (ret := none) (by decide) rfl ?_
  intro pZ eZ s mZ beZ meZ cZ A hE
  obtain ⟨hx, hb, hr, hml, hts, hown, hlocks, hin, hA, hP, hD, hK, hN⟩ := hE
  have hS : va_S A s.heap s.heap [] := va_S.rf
  have hl := lv_entry ([.ref o]) (n := 1) (Nat.le_of_ble_eq_true rfl)
  rw [lg_entry_eq]
  generalize (lg_sl ([.ref o]) ++ List.replicate (1 - (lg_sl ([.ref o])).length) Slot.unset).toArray = ls at hl ⊢
  have hl : lv_has ls 1 [(0, .ref o)] := hl
  have fw1 := hts (.initialized RX9) (List.mem_of_getElem? (i := 2) rfl)
  have fw2 := hts (.instanceMethod yX9_init) (List.mem_of_getElem? (i := 1) rfl)
  refine lv_aload_n hx hb dX3_init_0 rfl (lv_at hl 0 rfl) ?_
  have hs1 : kw_Split [(o, .inr (3, []))] [(o, .inr (3, []))] [] [0] [] := ⟨rfl, rfl, rfl, rfl, rfl, by decide⟩
  refine kw_go_v hs1 hP hD hS hA (va_runIN (As := []) (rest := []) ⟨hx, hb, hml, hown, hts⟩ (gn_Wood_on3 l D y o  _) ⟨va_cnB 0 hts gX3_init_X9_init_n1 rfl rfl rfl (hN.1 ("GleanDusk$Lane", 1, yX9_init) (List.mem_of_getElem? (i := 10) rfl)) fw1 (by decide +kernel) ⟨Nat.le_of_ble_eq_true rfl, Nat.le_of_ble_eq_true rfl⟩, rfl, fw2⟩ (kw_PreI hs1 hP hD hK hN) rfl rfl hl.1 rfl (lv_room (Nat.le_of_ble_eq_true rfl)) dX3_init_1 ⟨Nat.le_of_ble_eq_true rfl, Nat.le_of_ble_eq_true rfl⟩) (fun u3 H locs hq hP hD hS => ?_)
  have hP : va_P D vwCl [(o, .inr (3, []))] H := hP
  have hD : va_D A [(o, .inr (3, []))] := hD
  exact W.vret hx hb hr (fun tZ ht hW => ⟨⟨(), rfl, trivial, by rw [ht]; exact hP.sub [0] rfl, hD.sub [0] (by decide) rfl⟩, hS.F ht⟩) hS.2.2 dX3_init_4

set_option maxHeartbeats 4000000 in
set_option maxRecDepth 100000 in
theorem gn_Best (l : Launch) (D : va_G) (y : Nat → ClassId) (o : Nat)  : kw_Mv l yX0_init wsX0_init ({ frames := 1, cells := 2, slots := 12, locals := 60 }) D y [.ref o] [(o, .inr (0, [.null, .null, .int 0]))] (fun (u : Nat → Nat) => True) (fun u => [(o, .inr (0, [.ref (u 0), .ref (u 1), .int 0])), ((u 0), .inl (y 0, 6, .inl (fun _ => 0))), ((u 1), .inl (y 0, 6, .inl (fun _ => 0)))]) 2 12 := by
  refine kw_Mv.of (cc := cX0_init) (maxL := 1) (ret := none) (by decide) rfl ?_
  intro pZ eZ s mZ beZ meZ cZ A hE
  obtain ⟨hx, hb, hr, hml, hts, hown, hlocks, hin, hA, hP, hD, hK, hN⟩ := hE
  have hS : va_S A s.heap s.heap [] := va_S.rf
  have hl := lv_entry ([.ref o]) (n := 1) (Nat.le_of_ble_eq_true rfl)
  rw [lg_entry_eq]
  generalize (lg_sl ([.ref o]) ++ List.replicate (1 - (lg_sl ([.ref o])).length) Slot.unset).toArray = ls at hl ⊢
  have hl : lv_has ls 1 [(0, .ref o)] := hl
  have fw1 := hts (.methodLink RX0 3 objectInit) (List.mem_of_getElem? (i := 1) rfl)
  have fw2 := hts (.instanceMethod objectInit) (List.mem_of_getElem? (i := 2) rfl)
  have fw3 := hts (.code objectInit ⟨#[0xb1]⟩ 1 none) (List.mem_of_getElem? (i := 3) rfl)
  have fw4 := hts (.arrayClass .int) (List.mem_of_getElem? (i := 4) rfl)
  have fw5 := hts (.fieldLink RX0 9 "GleanDusk$Best" "row" "[I") (List.mem_of_getElem? (i := 5) rfl)
  have fw6 := hts (.fieldLink RX0 15 "GleanDusk$Best" "first" "[I") (List.mem_of_getElem? (i := 6) rfl)
  have iw0 : ∀ w ∈ wsX00, w ∈ wsX0_init := fun _ h => List.mem_cons_of_mem _ (List.mem_append_right _ h)
  refine lv_aload_n hx hb dX0_init_0 rfl (lv_at hl 0 rfl) ?_
  refine W.objInit hx hb hown fw1 fw2 fw3 rfl (by rw [hml]; exact hl.1) rfl dX0_init_1 (Nat.le_of_ble_eq_true rfl) (Nat.le_of_ble_eq_true rfl) ?_
  refine W.eq (g2 := F0 mZ 4 ls []) rfl ?_
  refine lv_aload_n hx hb dX0_init_4 rfl (lv_at hl 0 rfl) ?_
  refine lv_bipush (v := 6) hx hb dX0_init_5 (by decide) ?_
  refine va_newa (atype := .int) (ty := .int) (N' := 6) (a0 := (6, .inl (fun _ => 0))) hx hb fw4 rfl hK hP hD hS hA (fun _ => rfl) (by decide) (by decide) (by decide) (Nat.le_of_ble_eq_true rfl) (Nat.le_of_ble_eq_true rfl) dX0_init_7 (fun q1 cA H hK9 hP hD hS => ?_)
  obtain rfl : cA = y 0 := kw_cls hK9 (i := 7) (j := 0) rfl rfl
  have hP : va_P D vwCl [(o, .inr (0, [.null, .null, .int 0])), (q1, .inl (y 0, 6, .inl (fun _ => 0)))] H := hP
  have hD : va_D A [(o, .inr (0, [.null, .null, .int 0])), (q1, .inl (y 0, 6, .inl (fun _ => 0)))] := hD
  refine W.widen (k := 1) (n := 6) (Nat.le_of_ble_eq_true rfl) (Nat.le_of_ble_eq_true rfl) ?_
  refine va_putF (D := D) (ci := 0) (v := .ref q1) (ty := .array .int) (C := RX0) (T := TX0) (N := 3) hx hb hts iw0 tyX0 tyX0_ok nmX0 hown hK hP hD hS 0 rfl rfl 0 (by decide) fw5 (fun _ h9 => h9) rfl hin rfl (by decide +kernel) rfl rfl (Nat.le_of_ble_eq_true rfl) dX0_init_9 (fun H locs hP hD hS => ?_)
  have hP : va_P D vwCl [(o, .inr (0, [.ref q1, .null, .int 0])), (q1, .inl (y 0, 6, .inl (fun _ => 0)))] H := hP
  have hD : va_D A [(o, .inr (0, [.ref q1, .null, .int 0])), (q1, .inl (y 0, 6, .inl (fun _ => 0)))] := hD
  refine lv_aload_n hx hb dX0_init_12 rfl (lv_at hl 0 rfl) ?_
  refine lv_bipush (v := 6) hx hb dX0_init_13 (by decide) ?_
  refine va_newa (atype := .int) (ty := .int) (N' := 6) (a0 := (6, .inl (fun _ => 0))) hx hb fw4 rfl hK hP hD hS hA (fun _ => rfl) (by decide) (by decide) (by decide) (Nat.le_of_ble_eq_true rfl) (Nat.le_of_ble_eq_true rfl) dX0_init_15 (fun q2 cA H hK9 hP hD hS => ?_)
  obtain rfl : cA = y 0 := kw_cls hK9 (i := 7) (j := 0) rfl rfl
  have hP : va_P D vwCl [(o, .inr (0, [.ref q1, .null, .int 0])), (q1, .inl (y 0, 6, .inl (fun _ => 0))), (q2, .inl (y 0, 6, .inl (fun _ => 0)))] H := hP
  have hD : va_D A [(o, .inr (0, [.ref q1, .null, .int 0])), (q1, .inl (y 0, 6, .inl (fun _ => 0))), (q2, .inl (y 0, 6, .inl (fun _ => 0)))] := hD
  refine W.widen (k := 2) (n := 12) (Nat.le_of_ble_eq_true rfl) (Nat.le_of_ble_eq_true rfl) ?_
  refine va_putF (D := D) (ci := 0) (v := .ref q2) (ty := .array .int) (C := RX0) (T := TX0) (N := 3) hx hb hts iw0 tyX0 tyX0_ok nmX0 hown hK hP hD hS 0 rfl rfl 1 (by decide) fw6 (fun _ h9 => h9) rfl hin rfl (by decide +kernel) rfl rfl (Nat.le_of_ble_eq_true rfl) dX0_init_17 (fun H locs hP hD hS => ?_)
  have hP : va_P D vwCl [(o, .inr (0, [.ref q1, .ref q2, .int 0])), (q1, .inl (y 0, 6, .inl (fun _ => 0))), (q2, .inl (y 0, 6, .inl (fun _ => 0)))] H := hP
  have hD : va_D A [(o, .inr (0, [.ref q1, .ref q2, .int 0])), (q1, .inl (y 0, 6, .inl (fun _ => 0))), (q2, .inl (y 0, 6, .inl (fun _ => 0)))] := hD
  refine W.widen (k := 2) (n := 12) (Nat.le_of_ble_eq_true rfl) (Nat.le_of_ble_eq_true rfl) ?_
  exact W.vret hx hb hr (fun tZ ht hW => ⟨⟨(fun k => [q1, q2].getD k 0), rfl, trivial, by rw [ht]; exact hP.sub [0, 1, 2] rfl, hD.sub [0, 1, 2] (by decide) rfl⟩, hS.F ht⟩) hS.2.2 dX0_init_20

set_option maxHeartbeats 4000000 in
set_option maxRecDepth 100000 in
theorem gn_Dusk (l : Launch) (D : va_G) (y : Nat → ClassId) (o : Nat)  : kw_Mv l yX1_init wsX1_init ({ frames := 1, cells := 3, slots := 16, locals := 60 }) D y [.ref o] [(o, .inr (1, [.null, .null, .null, .int 0, .int 0, .int 0]))] (fun (u : Nat → Nat) => True) (fun u => [(o, .inr (1, [.ref (u 0), .ref (u 1), .ref (u 2), .int 0, .int 0, .int 0])), ((u 0), .inl (y 0, 6, .inl (fun _ => 0))), ((u 1), .inl (y 0, 5, .inl (fun _ => 0))), ((u 2), .inl (y 0, 5, .inl (fun _ => 0)))]) 3 16 := by
  refine kw_Mv.of (cc := cX1_init) (maxL := 1) (ret := none) (by decide) rfl ?_
  intro pZ eZ s mZ beZ meZ cZ A hE
  obtain ⟨hx, hb, hr, hml, hts, hown, hlocks, hin, hA, hP, hD, hK, hN⟩ := hE
  have hS : va_S A s.heap s.heap [] := va_S.rf
  have hl := lv_entry ([.ref o]) (n := 1) (Nat.le_of_ble_eq_true rfl)
  rw [lg_entry_eq]
  generalize (lg_sl ([.ref o]) ++ List.replicate (1 - (lg_sl ([.ref o])).length) Slot.unset).toArray = ls at hl ⊢
  have hl : lv_has ls 1 [(0, .ref o)] := hl
  have fw1 := hts (.methodLink RX1 3 objectInit) (List.mem_of_getElem? (i := 1) rfl)
  have fw2 := hts (.instanceMethod objectInit) (List.mem_of_getElem? (i := 2) rfl)
  have fw3 := hts (.code objectInit ⟨#[0xb1]⟩ 1 none) (List.mem_of_getElem? (i := 3) rfl)
  have fw4 := hts (.arrayClass .int) (List.mem_of_getElem? (i := 4) rfl)
  have fw5 := hts (.fieldLink RX1 9 "GleanDusk$Dusk" "light" "[I") (List.mem_of_getElem? (i := 5) rfl)
  have fw6 := hts (.fieldLink RX1 15 "GleanDusk$Dusk" "at" "[I") (List.mem_of_getElem? (i := 6) rfl)
  have fw7 := hts (.fieldLink RX1 18 "GleanDusk$Dusk" "store" "[I") (List.mem_of_getElem? (i := 7) rfl)
  have iw1 : ∀ w ∈ wsX10, w ∈ wsX1_init := fun _ h => List.mem_cons_of_mem _ (List.mem_append_right _ h)
  refine lv_aload_n hx hb dX1_init_0 rfl (lv_at hl 0 rfl) ?_
  refine W.objInit hx hb hown fw1 fw2 fw3 rfl (by rw [hml]; exact hl.1) rfl dX1_init_1 (Nat.le_of_ble_eq_true rfl) (Nat.le_of_ble_eq_true rfl) ?_
  refine W.eq (g2 := F0 mZ 4 ls []) rfl ?_
  refine lv_aload_n hx hb dX1_init_4 rfl (lv_at hl 0 rfl) ?_
  refine lv_bipush (v := 6) hx hb dX1_init_5 (by decide) ?_
  refine va_newa (atype := .int) (ty := .int) (N' := 6) (a0 := (6, .inl (fun _ => 0))) hx hb fw4 rfl hK hP hD hS hA (fun _ => rfl) (by decide) (by decide) (by decide) (Nat.le_of_ble_eq_true rfl) (Nat.le_of_ble_eq_true rfl) dX1_init_7 (fun q1 cA H hK9 hP hD hS => ?_)
  obtain rfl : cA = y 0 := kw_cls hK9 (i := 7) (j := 0) rfl rfl
  have hP : va_P D vwCl [(o, .inr (1, [.null, .null, .null, .int 0, .int 0, .int 0])), (q1, .inl (y 0, 6, .inl (fun _ => 0)))] H := hP
  have hD : va_D A [(o, .inr (1, [.null, .null, .null, .int 0, .int 0, .int 0])), (q1, .inl (y 0, 6, .inl (fun _ => 0)))] := hD
  refine W.widen (k := 1) (n := 6) (Nat.le_of_ble_eq_true rfl) (Nat.le_of_ble_eq_true rfl) ?_
  refine va_putF (D := D) (ci := 1) (v := .ref q1) (ty := .array .int) (C := RX1) (T := TX1) (N := 6) hx hb hts iw1 tyX1 tyX1_ok nmX1 hown hK hP hD hS 0 rfl rfl 0 (by decide) fw5 (fun _ h9 => h9) rfl hin rfl (by decide +kernel) rfl rfl (Nat.le_of_ble_eq_true rfl) dX1_init_9 (fun H locs hP hD hS => ?_)
  have hP : va_P D vwCl [(o, .inr (1, [.ref q1, .null, .null, .int 0, .int 0, .int 0])), (q1, .inl (y 0, 6, .inl (fun _ => 0)))] H := hP
  have hD : va_D A [(o, .inr (1, [.ref q1, .null, .null, .int 0, .int 0, .int 0])), (q1, .inl (y 0, 6, .inl (fun _ => 0)))] := hD
  refine lv_aload_n hx hb dX1_init_12 rfl (lv_at hl 0 rfl) ?_
  refine lv_iconst (v := 5) hx hb dX1_init_13 (by decide) ?_
  refine va_newa (atype := .int) (ty := .int) (N' := 5) (a0 := (5, .inl (fun _ => 0))) hx hb fw4 rfl hK hP hD hS hA (fun _ => rfl) (by decide) (by decide) (by decide) (Nat.le_of_ble_eq_true rfl) (Nat.le_of_ble_eq_true rfl) dX1_init_14 (fun q2 cA H hK9 hP hD hS => ?_)
  obtain rfl : cA = y 0 := kw_cls hK9 (i := 7) (j := 0) rfl rfl
  have hP : va_P D vwCl [(o, .inr (1, [.ref q1, .null, .null, .int 0, .int 0, .int 0])), (q1, .inl (y 0, 6, .inl (fun _ => 0))), (q2, .inl (y 0, 5, .inl (fun _ => 0)))] H := hP
  have hD : va_D A [(o, .inr (1, [.ref q1, .null, .null, .int 0, .int 0, .int 0])), (q1, .inl (y 0, 6, .inl (fun _ => 0))), (q2, .inl (y 0, 5, .inl (fun _ => 0)))] := hD
  refine W.widen (k := 2) (n := 11) (Nat.le_of_ble_eq_true rfl) (Nat.le_of_ble_eq_true rfl) ?_
  refine va_putF (D := D) (ci := 1) (v := .ref q2) (ty := .array .int) (C := RX1) (T := TX1) (N := 6) hx hb hts iw1 tyX1 tyX1_ok nmX1 hown hK hP hD hS 0 rfl rfl 1 (by decide) fw6 (fun _ h9 => h9) rfl hin rfl (by decide +kernel) rfl rfl (Nat.le_of_ble_eq_true rfl) dX1_init_16 (fun H locs hP hD hS => ?_)
  have hP : va_P D vwCl [(o, .inr (1, [.ref q1, .ref q2, .null, .int 0, .int 0, .int 0])), (q1, .inl (y 0, 6, .inl (fun _ => 0))), (q2, .inl (y 0, 5, .inl (fun _ => 0)))] H := hP
  have hD : va_D A [(o, .inr (1, [.ref q1, .ref q2, .null, .int 0, .int 0, .int 0])), (q1, .inl (y 0, 6, .inl (fun _ => 0))), (q2, .inl (y 0, 5, .inl (fun _ => 0)))] := hD
  refine lv_aload_n hx hb dX1_init_19 rfl (lv_at hl 0 rfl) ?_
  refine lv_iconst (v := 5) hx hb dX1_init_20 (by decide) ?_
  refine va_newa (atype := .int) (ty := .int) (N' := 5) (a0 := (5, .inl (fun _ => 0))) hx hb fw4 rfl hK hP hD hS hA (fun _ => rfl) (by decide) (by decide) (by decide) (Nat.le_of_ble_eq_true rfl) (Nat.le_of_ble_eq_true rfl) dX1_init_21 (fun q3 cA H hK9 hP hD hS => ?_)
  obtain rfl : cA = y 0 := kw_cls hK9 (i := 7) (j := 0) rfl rfl
  have hP : va_P D vwCl [(o, .inr (1, [.ref q1, .ref q2, .null, .int 0, .int 0, .int 0])), (q1, .inl (y 0, 6, .inl (fun _ => 0))), (q2, .inl (y 0, 5, .inl (fun _ => 0))), (q3, .inl (y 0, 5, .inl (fun _ => 0)))] H := hP
  have hD : va_D A [(o, .inr (1, [.ref q1, .ref q2, .null, .int 0, .int 0, .int 0])), (q1, .inl (y 0, 6, .inl (fun _ => 0))), (q2, .inl (y 0, 5, .inl (fun _ => 0))), (q3, .inl (y 0, 5, .inl (fun _ => 0)))] := hD
  refine W.widen (k := 3) (n := 16) (Nat.le_of_ble_eq_true rfl) (Nat.le_of_ble_eq_true rfl) ?_
  refine va_putF (D := D) (ci := 1) (v := .ref q3) (ty := .array .int) (C := RX1) (T := TX1) (N := 6) hx hb hts iw1 tyX1 tyX1_ok nmX1 hown hK hP hD hS 0 rfl rfl 2 (by decide) fw7 (fun _ h9 => h9) rfl hin rfl (by decide +kernel) rfl rfl (Nat.le_of_ble_eq_true rfl) dX1_init_23 (fun H locs hP hD hS => ?_)
  have hP : va_P D vwCl [(o, .inr (1, [.ref q1, .ref q2, .ref q3, .int 0, .int 0, .int 0])), (q1, .inl (y 0, 6, .inl (fun _ => 0))), (q2, .inl (y 0, 5, .inl (fun _ => 0))), (q3, .inl (y 0, 5, .inl (fun _ => 0)))] H := hP
  have hD : va_D A [(o, .inr (1, [.ref q1, .ref q2, .ref q3, .int 0, .int 0, .int 0])), (q1, .inl (y 0, 6, .inl (fun _ => 0))), (q2, .inl (y 0, 5, .inl (fun _ => 0))), (q3, .inl (y 0, 5, .inl (fun _ => 0)))] := hD
  refine W.widen (k := 3) (n := 16) (Nat.le_of_ble_eq_true rfl) (Nat.le_of_ble_eq_true rfl) ?_
  exact W.vret hx hb hr (fun tZ ht hW => ⟨⟨(fun k => [q1, q2, q3].getD k 0), rfl, trivial, by rw [ht]; exact hP.sub [0, 1, 2, 3] rfl, hD.sub [0, 1, 2, 3] (by decide) rfl⟩, hS.F ht⟩) hS.2.2 dX1_init_26

set_option maxHeartbeats 4000000 in
set_option maxRecDepth 100000 in
theorem gn_Text (l : Launch) (D : va_G) (y : Nat → ClassId) (o : Nat)  : kw_Mv l yX7_init wsX7_init ({ frames := 1, cells := 4, slots := 225, locals := 60 }) D y [.ref o] [(o, .inr (7, [.null, .int 0, .int 0, .int 0, .int 0, .int 0, .null, .null, .null, .int 0, .int 0, .int 0]))] (fun (u : Nat → Nat) => True) (fun u => [(o, .inr (7, [.ref (u 0), .int 0, .int 0, .int 0, .int 0, .int 0, .ref (u 1), .ref (u 2), .ref (u 3), .int 0, .int 0, .int 0])), ((u 0), .inl (y 1, 150, .inl (fun _ => 0))), ((u 1), .inl (y 0, 25, .inl (fun _ => 0))), ((u 2), .inl (y 0, 25, .inl (fun _ => 0))), ((u 3), .inl (y 0, 25, .inl (fun _ => 0)))]) 4 225 := by
  refine kw_Mv.of (cc := cX7_init) (maxL := 1) (ret := none) (by decide) rfl ?_
  intro pZ eZ s mZ beZ meZ cZ A hE
  obtain ⟨hx, hb, hr, hml, hts, hown, hlocks, hin, hA, hP, hD, hK, hN⟩ := hE
  have hS : va_S A s.heap s.heap [] := va_S.rf
  have hl := lv_entry ([.ref o]) (n := 1) (Nat.le_of_ble_eq_true rfl)
  rw [lg_entry_eq]
  generalize (lg_sl ([.ref o]) ++ List.replicate (1 - (lg_sl ([.ref o])).length) Slot.unset).toArray = ls at hl ⊢
  have hl : lv_has ls 1 [(0, .ref o)] := hl
  have fw1 := hts (.methodLink RX7 3 objectInit) (List.mem_of_getElem? (i := 1) rfl)
  have fw2 := hts (.instanceMethod objectInit) (List.mem_of_getElem? (i := 2) rfl)
  have fw3 := hts (.code objectInit ⟨#[0xb1]⟩ 1 none) (List.mem_of_getElem? (i := 3) rfl)
  have fw4 := hts (.arrayClass .byte) (List.mem_of_getElem? (i := 4) rfl)
  have fw5 := hts (.fieldLink RX7 9 "GleanDusk$Text" "bytes" "[B") (List.mem_of_getElem? (i := 5) rfl)
  have fw6 := hts (.arrayClass .int) (List.mem_of_getElem? (i := 6) rfl)
  have fw7 := hts (.fieldLink RX7 15 "GleanDusk$Text" "words" "[I") (List.mem_of_getElem? (i := 7) rfl)
  have fw8 := hts (.fieldLink RX7 19 "GleanDusk$Text" "first" "[I") (List.mem_of_getElem? (i := 8) rfl)
  have fw9 := hts (.fieldLink RX7 22 "GleanDusk$Text" "second" "[I") (List.mem_of_getElem? (i := 9) rfl)
  have iw7 : ∀ w ∈ wsX70, w ∈ wsX7_init := fun _ h => List.mem_cons_of_mem _ (List.mem_append_right _ h)
  refine lv_aload_n hx hb dX7_init_0 rfl (lv_at hl 0 rfl) ?_
  refine W.objInit hx hb hown fw1 fw2 fw3 rfl (by rw [hml]; exact hl.1) rfl dX7_init_1 (Nat.le_of_ble_eq_true rfl) (Nat.le_of_ble_eq_true rfl) ?_
  refine W.eq (g2 := F0 mZ 4 ls []) rfl ?_
  refine lv_aload_n hx hb dX7_init_4 rfl (lv_at hl 0 rfl) ?_
  refine lv_sipush (v := 150) hx hb dX7_init_5 (by decide) ?_
  refine va_newa (atype := .byte) (ty := .byte) (N' := 150) (a0 := (150, .inl (fun _ => 0))) hx hb fw4 rfl hK hP hD hS hA (fun _ => rfl) (by decide) (by decide) (by decide) (Nat.le_of_ble_eq_true rfl) (Nat.le_of_ble_eq_true rfl) dX7_init_8 (fun q1 cA H hK9 hP hD hS => ?_)
  obtain rfl : cA = y 1 := kw_cls hK9 (i := 7) (j := 1) rfl rfl
  have hP : va_P D vwCl [(o, .inr (7, [.null, .int 0, .int 0, .int 0, .int 0, .int 0, .null, .null, .null, .int 0, .int 0, .int 0])), (q1, .inl (y 1, 150, .inl (fun _ => 0)))] H := hP
  have hD : va_D A [(o, .inr (7, [.null, .int 0, .int 0, .int 0, .int 0, .int 0, .null, .null, .null, .int 0, .int 0, .int 0])), (q1, .inl (y 1, 150, .inl (fun _ => 0)))] := hD
  refine W.widen (k := 1) (n := 150) (Nat.le_of_ble_eq_true rfl) (Nat.le_of_ble_eq_true rfl) ?_
  refine va_putF (D := D) (ci := 7) (v := .ref q1) (ty := .array .byte) (C := RX7) (T := TX7) (N := 12) hx hb hts iw7 tyX7 tyX7_ok nmX7 hown hK hP hD hS 0 rfl rfl 0 (by decide) fw5 (fun _ h9 => h9) rfl hin rfl (by decide +kernel) rfl rfl (Nat.le_of_ble_eq_true rfl) dX7_init_10 (fun H locs hP hD hS => ?_)
  have hP : va_P D vwCl [(o, .inr (7, [.ref q1, .int 0, .int 0, .int 0, .int 0, .int 0, .null, .null, .null, .int 0, .int 0, .int 0])), (q1, .inl (y 1, 150, .inl (fun _ => 0)))] H := hP
  have hD : va_D A [(o, .inr (7, [.ref q1, .int 0, .int 0, .int 0, .int 0, .int 0, .null, .null, .null, .int 0, .int 0, .int 0])), (q1, .inl (y 1, 150, .inl (fun _ => 0)))] := hD
  refine lv_aload_n hx hb dX7_init_13 rfl (lv_at hl 0 rfl) ?_
  refine lv_bipush (v := 25) hx hb dX7_init_14 (by decide) ?_
  refine va_newa (atype := .int) (ty := .int) (N' := 25) (a0 := (25, .inl (fun _ => 0))) hx hb fw6 rfl hK hP hD hS hA (fun _ => rfl) (by decide) (by decide) (by decide) (Nat.le_of_ble_eq_true rfl) (Nat.le_of_ble_eq_true rfl) dX7_init_16 (fun q2 cA H hK9 hP hD hS => ?_)
  obtain rfl : cA = y 0 := kw_cls hK9 (i := 7) (j := 0) rfl rfl
  have hP : va_P D vwCl [(o, .inr (7, [.ref q1, .int 0, .int 0, .int 0, .int 0, .int 0, .null, .null, .null, .int 0, .int 0, .int 0])), (q1, .inl (y 1, 150, .inl (fun _ => 0))), (q2, .inl (y 0, 25, .inl (fun _ => 0)))] H := hP
  have hD : va_D A [(o, .inr (7, [.ref q1, .int 0, .int 0, .int 0, .int 0, .int 0, .null, .null, .null, .int 0, .int 0, .int 0])), (q1, .inl (y 1, 150, .inl (fun _ => 0))), (q2, .inl (y 0, 25, .inl (fun _ => 0)))] := hD
  refine W.widen (k := 2) (n := 175) (Nat.le_of_ble_eq_true rfl) (Nat.le_of_ble_eq_true rfl) ?_
  refine va_putF (D := D) (ci := 7) (v := .ref q2) (ty := .array .int) (C := RX7) (T := TX7) (N := 12) hx hb hts iw7 tyX7 tyX7_ok nmX7 hown hK hP hD hS 0 rfl rfl 6 (by decide) fw7 (fun _ h9 => h9) rfl hin rfl (by decide +kernel) rfl rfl (Nat.le_of_ble_eq_true rfl) dX7_init_18 (fun H locs hP hD hS => ?_)
  have hP : va_P D vwCl [(o, .inr (7, [.ref q1, .int 0, .int 0, .int 0, .int 0, .int 0, .ref q2, .null, .null, .int 0, .int 0, .int 0])), (q1, .inl (y 1, 150, .inl (fun _ => 0))), (q2, .inl (y 0, 25, .inl (fun _ => 0)))] H := hP
  have hD : va_D A [(o, .inr (7, [.ref q1, .int 0, .int 0, .int 0, .int 0, .int 0, .ref q2, .null, .null, .int 0, .int 0, .int 0])), (q1, .inl (y 1, 150, .inl (fun _ => 0))), (q2, .inl (y 0, 25, .inl (fun _ => 0)))] := hD
  refine lv_aload_n hx hb dX7_init_21 rfl (lv_at hl 0 rfl) ?_
  refine lv_bipush (v := 25) hx hb dX7_init_22 (by decide) ?_
  refine va_newa (atype := .int) (ty := .int) (N' := 25) (a0 := (25, .inl (fun _ => 0))) hx hb fw6 rfl hK hP hD hS hA (fun _ => rfl) (by decide) (by decide) (by decide) (Nat.le_of_ble_eq_true rfl) (Nat.le_of_ble_eq_true rfl) dX7_init_24 (fun q3 cA H hK9 hP hD hS => ?_)
  obtain rfl : cA = y 0 := kw_cls hK9 (i := 7) (j := 0) rfl rfl
  have hP : va_P D vwCl [(o, .inr (7, [.ref q1, .int 0, .int 0, .int 0, .int 0, .int 0, .ref q2, .null, .null, .int 0, .int 0, .int 0])), (q1, .inl (y 1, 150, .inl (fun _ => 0))), (q2, .inl (y 0, 25, .inl (fun _ => 0))), (q3, .inl (y 0, 25, .inl (fun _ => 0)))] H := hP
  have hD : va_D A [(o, .inr (7, [.ref q1, .int 0, .int 0, .int 0, .int 0, .int 0, .ref q2, .null, .null, .int 0, .int 0, .int 0])), (q1, .inl (y 1, 150, .inl (fun _ => 0))), (q2, .inl (y 0, 25, .inl (fun _ => 0))), (q3, .inl (y 0, 25, .inl (fun _ => 0)))] := hD
  refine W.widen (k := 3) (n := 200) (Nat.le_of_ble_eq_true rfl) (Nat.le_of_ble_eq_true rfl) ?_
  refine va_putF (D := D) (ci := 7) (v := .ref q3) (ty := .array .int) (C := RX7) (T := TX7) (N := 12) hx hb hts iw7 tyX7 tyX7_ok nmX7 hown hK hP hD hS 0 rfl rfl 7 (by decide) fw8 (fun _ h9 => h9) rfl hin rfl (by decide +kernel) rfl rfl (Nat.le_of_ble_eq_true rfl) dX7_init_26 (fun H locs hP hD hS => ?_)
  have hP : va_P D vwCl [(o, .inr (7, [.ref q1, .int 0, .int 0, .int 0, .int 0, .int 0, .ref q2, .ref q3, .null, .int 0, .int 0, .int 0])), (q1, .inl (y 1, 150, .inl (fun _ => 0))), (q2, .inl (y 0, 25, .inl (fun _ => 0))), (q3, .inl (y 0, 25, .inl (fun _ => 0)))] H := hP
  have hD : va_D A [(o, .inr (7, [.ref q1, .int 0, .int 0, .int 0, .int 0, .int 0, .ref q2, .ref q3, .null, .int 0, .int 0, .int 0])), (q1, .inl (y 1, 150, .inl (fun _ => 0))), (q2, .inl (y 0, 25, .inl (fun _ => 0))), (q3, .inl (y 0, 25, .inl (fun _ => 0)))] := hD
  refine lv_aload_n hx hb dX7_init_29 rfl (lv_at hl 0 rfl) ?_
  refine lv_bipush (v := 25) hx hb dX7_init_30 (by decide) ?_
  refine va_newa (atype := .int) (ty := .int) (N' := 25) (a0 := (25, .inl (fun _ => 0))) hx hb fw6 rfl hK hP hD hS hA (fun _ => rfl) (by decide) (by decide) (by decide) (Nat.le_of_ble_eq_true rfl) (Nat.le_of_ble_eq_true rfl) dX7_init_32 (fun q4 cA H hK9 hP hD hS => ?_)
  obtain rfl : cA = y 0 := kw_cls hK9 (i := 7) (j := 0) rfl rfl
  have hP : va_P D vwCl [(o, .inr (7, [.ref q1, .int 0, .int 0, .int 0, .int 0, .int 0, .ref q2, .ref q3, .null, .int 0, .int 0, .int 0])), (q1, .inl (y 1, 150, .inl (fun _ => 0))), (q2, .inl (y 0, 25, .inl (fun _ => 0))), (q3, .inl (y 0, 25, .inl (fun _ => 0))), (q4, .inl (y 0, 25, .inl (fun _ => 0)))] H := hP
  have hD : va_D A [(o, .inr (7, [.ref q1, .int 0, .int 0, .int 0, .int 0, .int 0, .ref q2, .ref q3, .null, .int 0, .int 0, .int 0])), (q1, .inl (y 1, 150, .inl (fun _ => 0))), (q2, .inl (y 0, 25, .inl (fun _ => 0))), (q3, .inl (y 0, 25, .inl (fun _ => 0))), (q4, .inl (y 0, 25, .inl (fun _ => 0)))] := hD
  refine W.widen (k := 4) (n := 225) (Nat.le_of_ble_eq_true rfl) (Nat.le_of_ble_eq_true rfl) ?_
  refine va_putF (D := D) (ci := 7) (v := .ref q4) (ty := .array .int) (C := RX7) (T := TX7) (N := 12) hx hb hts iw7 tyX7 tyX7_ok nmX7 hown hK hP hD hS 0 rfl rfl 8 (by decide) fw9 (fun _ h9 => h9) rfl hin rfl (by decide +kernel) rfl rfl (Nat.le_of_ble_eq_true rfl) dX7_init_34 (fun H locs hP hD hS => ?_)
  have hP : va_P D vwCl [(o, .inr (7, [.ref q1, .int 0, .int 0, .int 0, .int 0, .int 0, .ref q2, .ref q3, .ref q4, .int 0, .int 0, .int 0])), (q1, .inl (y 1, 150, .inl (fun _ => 0))), (q2, .inl (y 0, 25, .inl (fun _ => 0))), (q3, .inl (y 0, 25, .inl (fun _ => 0))), (q4, .inl (y 0, 25, .inl (fun _ => 0)))] H := hP
  have hD : va_D A [(o, .inr (7, [.ref q1, .int 0, .int 0, .int 0, .int 0, .int 0, .ref q2, .ref q3, .ref q4, .int 0, .int 0, .int 0])), (q1, .inl (y 1, 150, .inl (fun _ => 0))), (q2, .inl (y 0, 25, .inl (fun _ => 0))), (q3, .inl (y 0, 25, .inl (fun _ => 0))), (q4, .inl (y 0, 25, .inl (fun _ => 0)))] := hD
  refine W.widen (k := 4) (n := 225) (Nat.le_of_ble_eq_true rfl) (Nat.le_of_ble_eq_true rfl) ?_
  exact W.vret hx hb hr (fun tZ ht hW => ⟨⟨(fun k => [q1, q2, q3, q4].getD k 0), rfl, trivial, by rw [ht]; exact hP.sub [0, 1, 2, 3, 4] rfl, hD.sub [0, 1, 2, 3, 4] (by decide) rfl⟩, hS.F ht⟩) hS.2.2 dX7_init_37
