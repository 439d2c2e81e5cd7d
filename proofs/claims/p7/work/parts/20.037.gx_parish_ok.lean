set_option maxHeartbeats 4000000 in
set_option maxRecDepth 100000 in
theorem gx_parish_ok (l : Launch) (D : va_G) (y : Nat → ClassId) (g : Nat) (kk : Nat) (nw : Nat) (im : Nat) (kp : Nat) (tx : Nat) (tr : Nat) (be : Nat) (sh : Nat) (sd : Nat) (rf : Nat) (ab : Int32) (bl : Int32) (frf : Nat → Int32) (nk : Nat) (nd : Nat) (ne : Nat) (nm : Nat) (nn : Nat) (fi : Nat) (gl : Nat) (un : Nat) (mi : Nat) (no : Nat) (nd : Nat) (nl : Nat) (na : Nat) (ns : Nat) (nst : Int32) (ncl : Int32) (nnu : Int32) (an1 : Nat) (hfi : fi ≤ 6) (hgl : gl ≤ 5) (hun : un ≤ 8) (hmi : mi ≤ 4) (hno : no ≤ 6) (hB0_ : an1 < 10) : kw_Mi l yX10_parish wsX10_parish ({ frames := 2, cells := 0, slots := 0, locals := 81 }) D y [.ref g, .int (nI an1)] [(g, .inr (10, [.ref kk, .ref nw, .ref im, .ref kp, .ref tx, .ref tr, .ref be, .ref sh, .ref sd, .ref rf, .int ab, .int bl])), (rf, .inl (y 0, 3, .inl frf)), (nw, .inr (4, [.ref kk, .ref nk, .ref nd, .ref ne, .ref nm, .ref nn, .int (nI fi), .int (nI gl), .int (nI un), .int (nI mi), .int (nI no)])), (nd, .inr (1, [.ref nl, .ref na, .ref ns, .int nst, .int ncl, .int nnu]))] (fun (r : Int32) (u : Unit) => r = (nI fi)) (fun _ => [(g, .inr (10, [.ref kk, .ref nw, .ref im, .ref kp, .ref tx, .ref tr, .ref be, .ref sh, .ref sd, .ref rf, .int ab, .int bl])), (rf, .inl (y 0, 3, .inl frf)), (nw, .inr (4, [.ref kk, .ref nk, .ref nd, .ref ne, .ref nm, .ref nn, .int 0, .int 0, .int 0, .int 0, .int 0])), (nd, .inr (1, [.ref nl, .ref na, .ref ns, .int 0, .int (nI an1), .int 0]))]) 0 0 := by
  refine kw_Mi.of (cc := cX10_parish) (maxL := 3) (ret := (some .int)) (by decide) rfl ?_
  intro pZ eZ s mZ beZ meZ cZ A hE
  obtain ⟨hx, hb, hr, hml, hts, hown, hlocks, hin, hA, hP, hD, hK, hN⟩ := hE
  have hS : va_S A s.heap s.heap [] := va_S.rf
  have hl := lv_entry ([.ref g, .int (nI an1)]) (n := 3) (Nat.le_of_ble_eq_true rfl)
  rw [lg_entry_eq]
  generalize (lg_sl ([.ref g, .int (nI an1)]) ++ List.replicate (3 - (lg_sl ([.ref g, .int (nI an1)])).length) Slot.unset).toArray = ls at hl ⊢
  have hl : lv_has ls 3 [(0, .ref g), (1, .int (nI an1))] := hl
  have fw1 := hts (.fieldLink RX10 36 "GleanDusk" "now" "LGleanDusk$Parish;") (List.mem_of_getElem? (i := 1) rfl)
  have fw2 := hts (.fieldLink RX10 94 "GleanDusk$Parish" "fields" "I") (List.mem_of_getElem? (i := 2) rfl)
  have iw10 : ∀ w ∈ wsX100, w ∈ wsX10_parish := fun _ h => List.mem_cons_of_mem _ (List.mem_append_left _ (List.mem_append_left _ (List.mem_append_right _ h)))
  have iw4 : ∀ w ∈ wsX40, w ∈ wsX10_parish := fun _ h => List.mem_cons_of_mem _ (List.mem_append_left _ (List.mem_append_right _ h))
  refine lv_iload_n hx hb dX10_parish_0 rfl (lv_at hl 1 rfl) ?_
  refine lv_bipush (v := 10) hx hb dX10_parish_1 (by decide) ?_
  have hs1 : kw_Split [(g, .inr (10, [.ref kk, .ref nw, .ref im, .ref kp, .ref tx, .ref tr, .ref be, .ref sh, .ref sd, .ref rf, .int ab, .int bl])), (rf, .inl (y 0, 3, .inl frf)), (nw, .inr (4, [.ref kk, .ref nk, .ref nd, .ref ne, .ref nm, .ref nn, .int (nI fi), .int (nI gl), .int (nI un), .int (nI mi), .int (nI no)])), (nd, .inr (1, [.ref nl, .ref na, .ref ns, .int nst, .int ncl, .int nnu]))] [] [(g, .inr (10, [.ref kk, .ref nw, .ref im, .ref kp, .ref tx, .ref tr, .ref be, .ref sh, .ref sd, .ref rf, .int ab, .int bl])), (rf, .inl (y 0, 3, .inl frf)), (nw, .inr (4, [.ref kk, .ref nk, .ref nd, .ref ne, .ref nm, .ref nn, .int (nI fi), .int (nI gl), .int (nI un), .int (nI mi), .int (nI no)])), (nd, .inr (1, [.ref nl, .ref na, .ref ns, .int nst, .int ncl, .int nnu]))] [] [0, 1, 2, 3] := ⟨rfl, rfl, rfl, rfl, rfl, by decide⟩
  refine kw_go_i hs1 hP hD hS hA (va_runS (As := [.int (nI an1), .int 10]) (rest := []) ⟨hx, hb, hml, hown, hts⟩ (gc_isBelow l D y (nI an1) 10 (by omega) _) (va_cwS 2 hts gX10_parish_X10_isBelow rfl rfl rfl (by decide +kernel) ⟨Nat.le_of_ble_eq_true rfl, Nat.le_of_ble_eq_true rfl⟩) (kw_PreS hs1 hP hD hK hN) rfl rfl hl.1 rfl (lv_room (Nat.le_of_ble_eq_true rfl)) dX10_parish_3 ⟨Nat.le_of_ble_eq_true rfl, Nat.le_of_ble_eq_true rfl⟩) (fun r2 u3 H locs hq hP hD hS => ?_)
  rcases hq with ⟨j4, h5, h6, rfl⟩ | ⟨h7, rfl⟩
  · skip
    have h6 : an1 = j4 := (nI_eq (a := an1) (b := j4) (by omega) (by omega)).mp h6
    have hP : va_P D vwCl [(g, .inr (10, [.ref kk, .ref nw, .ref im, .ref kp, .ref tx, .ref tr, .ref be, .ref sh, .ref sd, .ref rf, .int ab, .int bl])), (rf, .inl (y 0, 3, .inl frf)), (nw, .inr (4, [.ref kk, .ref nk, .ref nd, .ref ne, .ref nm, .ref nn, .int (nI fi), .int (nI gl), .int (nI un), .int (nI mi), .int (nI no)])), (nd, .inr (1, [.ref nl, .ref na, .ref ns, .int nst, .int ncl, .int nnu]))] H := hP
    have hD : va_D A [(g, .inr (10, [.ref kk, .ref nw, .ref im, .ref kp, .ref tx, .ref tr, .ref be, .ref sh, .ref sd, .ref rf, .int ab, .int bl])), (rf, .inl (y 0, 3, .inl frf)), (nw, .inr (4, [.ref kk, .ref nk, .ref nd, .ref ne, .ref nm, .ref nn, .int (nI fi), .int (nI gl), .int (nI un), .int (nI mi), .int (nI no)])), (nd, .inr (1, [.ref nl, .ref na, .ref ns, .int nst, .int ncl, .int nnu]))] := hD
    refine lv_if_ne (tgt := 14) hx hb dX10_parish_6 (by decide) (fun _ => ?_) (fun h9 => absurd h9 (by decide))
    refine lv_aload_n hx hb dX10_parish_14 rfl (lv_at hl 0 rfl) ?_
    refine va_get (D := D) (ci := 10) (v := .ref nw) (C := RX10) (T := TX10) (N := 12) hx hb hts iw10 hown hK hP 0 rfl rfl 1 (by decide) fw1 (fun _ h9 => h9) rfl dX10_parish_15 ?_
    refine va_get (D := D) (ci := 4) (v := .int (nI fi)) (C := RX4) (T := TX4) (N := 11) hx hb hts iw4 hown hK hP 2 rfl rfl 6 (by decide) fw2 (fun _ h9 => h9) rfl dX10_parish_18 ?_
    refine lv_istore_n (lv' := [(2, .int (nI fi)), (0, .ref g), (1, .int (nI an1))]) hx hb dX10_parish_21 rfl hl (by decide) rfl (fun ls hl => ?_)
    refine lv_aload_n hx hb dX10_parish_22 rfl (lv_at hl 1 rfl) ?_
    refine va_get (D := D) (ci := 10) (v := .ref nw) (C := RX10) (T := TX10) (N := 12) hx hb hts iw10 hown hK hP 0 rfl rfl 1 (by decide) fw1 (fun _ h9 => h9) rfl dX10_parish_23 ?_
    refine lv_iload_n hx hb dX10_parish_26 rfl (lv_at hl 2 rfl) ?_
    have hs8 : kw_Split [(g, .inr (10, [.ref kk, .ref nw, .ref im, .ref kp, .ref tx, .ref tr, .ref be, .ref sh, .ref sd, .ref rf, .int ab, .int bl])), (rf, .inl (y 0, 3, .inl frf)), (nw, .inr (4, [.ref kk, .ref nk, .ref nd, .ref ne, .ref nm, .ref nn, .int (nI fi), .int (nI gl), .int (nI un), .int (nI mi), .int (nI no)])), (nd, .inr (1, [.ref nl, .ref na, .ref ns, .int nst, .int ncl, .int nnu]))] [(nw, .inr (4, [.ref kk, .ref nk, .ref nd, .ref ne, .ref nm, .ref nn, .int (nI fi), .int (nI gl), .int (nI un), .int (nI mi), .int (nI no)])), (nd, .inr (1, [.ref nl, .ref na, .ref ns, .int nst, .int ncl, .int nnu]))] [(g, .inr (10, [.ref kk, .ref nw, .ref im, .ref kp, .ref tx, .ref tr, .ref be, .ref sh, .ref sd, .ref rf, .int ab, .int bl])), (rf, .inl (y 0, 3, .inl frf))] [2, 3] [0, 1] := ⟨rfl, rfl, rfl, rfl, rfl, by decide⟩
    refine kw_go_v hs8 hP hD hS hA (va_runV (As := [.int (nI an1)]) (rest := []) ⟨hx, hb, hml, hown, hts⟩ (gc_begin l D y nw kk nk nd ne nm nn fi gl un mi no (nI an1) nd nl na ns nst ncl nnu hfi hgl hun hmi hno _) (cwV 1 hts gX10_parish_X4_begin rfl rfl rfl (by decide +kernel) ⟨Nat.le_of_ble_eq_true rfl, Nat.le_of_ble_eq_true rfl⟩) (kw_PreV (ci := 4) (q0 := 2) hs8 hP hD hK hN rfl rfl) rfl rfl hl.1 rfl (lv_room (Nat.le_of_ble_eq_true rfl)) dX10_parish_27 ⟨Nat.le_of_ble_eq_true rfl, Nat.le_of_ble_eq_true rfl⟩) (fun u10 H locs hq hP hD hS => ?_)
    have hP : va_P D vwCl [(g, .inr (10, [.ref kk, .ref nw, .ref im, .ref kp, .ref tx, .ref tr, .ref be, .ref sh, .ref sd, .ref rf, .int ab, .int bl])), (rf, .inl (y 0, 3, .inl frf)), (nw, .inr (4, [.ref kk, .ref nk, .ref nd, .ref ne, .ref nm, .ref nn, .int 0, .int 0, .int 0, .int 0, .int 0])), (nd, .inr (1, [.ref nl, .ref na, .ref ns, .int 0, .int (nI an1), .int 0]))] H := hP
    have hD : va_D A [(g, .inr (10, [.ref kk, .ref nw, .ref im, .ref kp, .ref tx, .ref tr, .ref be, .ref sh, .ref sd, .ref rf, .int ab, .int bl])), (rf, .inl (y 0, 3, .inl frf)), (nw, .inr (4, [.ref kk, .ref nk, .ref nd, .ref ne, .ref nm, .ref nn, .int 0, .int 0, .int 0, .int 0, .int 0])), (nd, .inr (1, [.ref nl, .ref na, .ref ns, .int 0, .int (nI an1), .int 0]))] := hD
    refine lv_iload_n hx hb dX10_parish_30 rfl (lv_at hl 0 rfl) ?_
    exact W.iret (v := (nI fi)) hx hb hr (fun tZ ht hW => ⟨⟨(nI fi), (), rfl, rfl, by rw [ht]; exact hP.sub [0, 1, 2, 3] rfl, hD.sub [0, 1, 2, 3] (by decide) rfl⟩, hS.F ht⟩) hS.2.2 dX10_parish_31
  · skip
    exact absurd ⟨an1, by omega, rfl⟩ h7

set_option maxHeartbeats 4000000 in
set_option maxRecDepth 100000 in
theorem gy_parish_ok (l : Launch) (D : va_G) (y : Nat → ClassId) (mo : Nat) (to : Nat) (ke : Nat) (ik : Nat) (mrf : Nat) (ha : Nat) (r0 : Nat) (mbr : Nat) (mbp : Nat) (mby : Nat) (an : Nat) (va : Nat) (mab : Int64) (mbl : Int64) (bl : Nat) (ta : Nat) (tl : Nat) (tk : Nat) (vv : Int32) (frf : Nat → Int32) (ft : Nat → Int32) (fi : Nat) (gl : Nat) (mi : Nat) (no : Nat) (un : Nat) (an1 : Nat) (hk0_ : ft 0 = (nI fi)) (hk1_ : ft 1 = (nI gl)) (hk2_ : ft 2 = (nI mi)) (hk3_ : ft 3 = (nI no)) (hk4_ : ft 4 = (nI un)) (hkt : kr_t 228 ft) (hfi : fi ≤ 6) (hgl : gl ≤ 5) (hmi : mi ≤ 4) (hno : no ≤ 6) (hun : un ≤ 8) (hgf : (gl = 0 ∨ 0 < fi)) (hB0_ : an1 < 10) : kw_Mi l yX11_parish wsX11_parish ({ frames := 3, cells := 0, slots := 0, locals := 105 }) D y [.ref mo, .int (nI an1)] [(mo, .inr (11, [.ref to, .ref ke, .ref ik, .ref mrf, .long mab, .long mbl, .ref ha, .ref r0, .ref mbr, .ref mbp, .ref mby, .int (nI bl), .int (nI ta), .int (nI tl), .int (nI tk), .int vv, .ref an, .ref va])), (mrf, .inl (y 0, 3, .inl frf)), (to, .inl (y 0, 228, .inl ft))] (fun (r : Int32) (u : Unit) => kr_t 228 (upd (kr_bg ft 76) 22 (nI an1)) ∧ (upd (kr_bg ft 76) 22 (nI an1)) 0 = 0 ∧ (upd (kr_bg ft 76) 22 (nI an1)) 1 = 0 ∧ (upd (kr_bg ft 76) 22 (nI an1)) 2 = 0 ∧ (upd (kr_bg ft 76) 22 (nI an1)) 3 = 0 ∧ (upd (kr_bg ft 76) 22 (nI an1)) 4 = 0 ∧ (0 = 0 ∨ 0 < 0) ∧ r = (nI fi)) (fun _ => [(mo, .inr (11, [.ref to, .ref ke, .ref ik, .ref mrf, .long mab, .long mbl, .ref ha, .ref r0, .ref mbr, .ref mbp, .ref mby, .int (nI bl), .int (nI ta), .int (nI tl), .int (nI tk), .int vv, .ref an, .ref va])), (mrf, .inl (y 0, 3, .inl frf)), (to, .inl (y 0, 228, .inl (upd (kr_bg ft 76) 22 (nI an1))))]) 0 0 := by
  refine kw_Mi.of (cc := cX11_parish) (maxL := 3) (ret := (some .int)) (by decide) rfl ?_
  intro pZ eZ s mZ beZ meZ cZ A hE
  obtain ⟨hx, hb, hr, hml, hts, hown, hlocks, hin, hA, hP, hD, hK, hN⟩ := hE
  have hS : va_S A s.heap s.heap [] := va_S.rf
  have hl := lv_entry ([.ref mo, .int (nI an1)]) (n := 3) (Nat.le_of_ble_eq_true rfl)
  rw [lg_entry_eq]
  generalize (lg_sl ([.ref mo, .int (nI an1)]) ++ List.replicate (3 - (lg_sl ([.ref mo, .int (nI an1)])).length) Slot.unset).toArray = ls at hl ⊢
  have hl : lv_has ls 3 [(0, .ref mo), (1, .int (nI an1))] := hl
  have fw1 := hts (.fieldLink RX11 7 "GleanDuskModel" "told" "[I") (List.mem_of_getElem? (i := 1) rfl)
  have iw11 : ∀ w ∈ wsX110, w ∈ wsX11_parish := fun _ h => List.mem_cons_of_mem _ (List.mem_append_right _ h)
  refine lv_iload_n hx hb dX11_parish_0 rfl (lv_at hl 1 rfl) ?_
  have hs1 : kw_Split [(mo, .inr (11, [.ref to, .ref ke, .ref ik, .ref mrf, .long mab, .long mbl, .ref ha, .ref r0, .ref mbr, .ref mbp, .ref mby, .int (nI bl), .int (nI ta), .int (nI tl), .int (nI tk), .int vv, .ref an, .ref va])), (mrf, .inl (y 0, 3, .inl frf)), (to, .inl (y 0, 228, .inl ft))] [] [(mo, .inr (11, [.ref to, .ref ke, .ref ik, .ref mrf, .long mab, .long mbl, .ref ha, .ref r0, .ref mbr, .ref mbp, .ref mby, .int (nI bl), .int (nI ta), .int (nI tl), .int (nI tk), .int vv, .ref an, .ref va])), (mrf, .inl (y 0, 3, .inl frf)), (to, .inl (y 0, 228, .inl ft))] [] [0, 1, 2] := ⟨rfl, rfl, rfl, rfl, rfl, by decide⟩
  refine kw_go_i hs1 hP hD hS hA (va_runS (As := [.int (nI an1)]) (rest := []) ⟨hx, hb, hml, hown, hts⟩ (gr_isCloud l D y (nI an1)  _) (va_cwS 1 hts gX11_parish_X11_isCloud rfl rfl rfl (by decide +kernel) ⟨Nat.le_of_ble_eq_true rfl, Nat.le_of_ble_eq_true rfl⟩) (kw_PreS hs1 hP hD hK hN) rfl rfl hl.1 rfl (lv_room (Nat.le_of_ble_eq_true rfl)) dX11_parish_1 ⟨Nat.le_of_ble_eq_true rfl, Nat.le_of_ble_eq_true rfl⟩) (fun r2 u3 H locs hq hP hD hS => ?_)
  rcases hq with ⟨j4, h5, h6, rfl⟩ | ⟨h7, rfl⟩
  · skip
    have h6 : an1 = j4 := (nI_eq (a := an1) (b := j4) (by omega) (by omega)).mp h6
    have hP : va_P D vwCl [(mo, .inr (11, [.ref to, .ref ke, .ref ik, .ref mrf, .long mab, .long mbl, .ref ha, .ref r0, .ref mbr, .ref mbp, .ref mby, .int (nI bl), .int (nI ta), .int (nI tl), .int (nI tk), .int vv, .ref an, .ref va])), (mrf, .inl (y 0, 3, .inl frf)), (to, .inl (y 0, 228, .inl ft))] H := hP
    have hD : va_D A [(mo, .inr (11, [.ref to, .ref ke, .ref ik, .ref mrf, .long mab, .long mbl, .ref ha, .ref r0, .ref mbr, .ref mbp, .ref mby, .int (nI bl), .int (nI ta), .int (nI tl), .int (nI tk), .int vv, .ref an, .ref va])), (mrf, .inl (y 0, 3, .inl frf)), (to, .inl (y 0, 228, .inl ft))] := hD
    refine lv_if_ne (tgt := 14) hx hb dX11_parish_4 (by decide) (fun _ => ?_) (fun h9 => absurd h9 (by decide))
    refine lv_aload_n hx hb dX11_parish_14 rfl (lv_at hl 0 rfl) ?_
    have hs8 : kw_Split [(mo, .inr (11, [.ref to, .ref ke, .ref ik, .ref mrf, .long mab, .long mbl, .ref ha, .ref r0, .ref mbr, .ref mbp, .ref mby, .int (nI bl), .int (nI ta), .int (nI tl), .int (nI tk), .int vv, .ref an, .ref va])), (mrf, .inl (y 0, 3, .inl frf)), (to, .inl (y 0, 228, .inl ft))] [(mo, .inr (11, [.ref to, .ref ke, .ref ik, .ref mrf, .long mab, .long mbl, .ref ha, .ref r0, .ref mbr, .ref mbp, .ref mby, .int (nI bl), .int (nI ta), .int (nI tl), .int (nI tk), .int vv, .ref an, .ref va])), (to, .inl (y 0, 228, .inl ft))] [(mrf, .inl (y 0, 3, .inl frf))] [0, 2] [1] := ⟨rfl, rfl, rfl, rfl, rfl, by decide⟩
    refine kw_go_i hs8 hP hD hS hA (va_runV (As := []) (rest := []) ⟨hx, hb, hml, hown, hts⟩ (gr_many l D y mo to ke ik mrf ha r0 mbr mbp mby an va mab mbl bl ta tl tk vv ft fi gl mi no un hk0_ hk1_ hk2_ hk3_ hk4_ hkt hfi hgl hmi hno hun _) (cwV 0 hts gX11_parish_X11_many rfl rfl rfl (by decide +kernel) ⟨Nat.le_of_ble_eq_true rfl, Nat.le_of_ble_eq_true rfl⟩) (kw_PreV (ci := 11) (q0 := 0) hs8 hP hD hK hN rfl rfl) rfl rfl hl.1 rfl (lv_room (Nat.le_of_ble_eq_true rfl)) dX11_parish_15 ⟨Nat.le_of_ble_eq_true rfl, Nat.le_of_ble_eq_true rfl⟩) (fun r9 u10 H locs hq hP hD hS => ?_)
    obtain rfl := hq
    have hP : va_P D vwCl [(mrf, .inl (y 0, 3, .inl frf)), (mo, .inr (11, [.ref to, .ref ke, .ref ik, .ref mrf, .long mab, .long mbl, .ref ha, .ref r0, .ref mbr, .ref mbp, .ref mby, .int (nI bl), .int (nI ta), .int (nI tl), .int (nI tk), .int vv, .ref an, .ref va])), (to, .inl (y 0, 228, .inl ft))] H := hP
    have hD : va_D A [(mrf, .inl (y 0, 3, .inl frf)), (mo, .inr (11, [.ref to, .ref ke, .ref ik, .ref mrf, .long mab, .long mbl, .ref ha, .ref r0, .ref mbr, .ref mbp, .ref mby, .int (nI bl), .int (nI ta), .int (nI tl), .int (nI tk), .int vv, .ref an, .ref va])), (to, .inl (y 0, 228, .inl ft))] := hD
    refine lv_istore_n (lv' := [(2, .int (nI fi)), (0, .ref mo), (1, .int (nI an1))]) hx hb dX11_parish_18 rfl hl (by decide) rfl (fun ls hl => ?_)
    refine lv_aload_n hx hb dX11_parish_19 rfl (lv_at hl 1 rfl) ?_
    refine va_get (D := D) (ci := 11) (v := .ref to) (C := RX11) (T := TX11) (N := 18) hx hb hts iw11 hown hK hP 1 rfl rfl 0 (by decide) fw1 (fun _ h9 => h9) rfl dX11_parish_20 ?_
    refine lv_iload_n hx hb dX11_parish_23 rfl (lv_at hl 2 rfl) ?_
    have hs11 : kw_Split [(mrf, .inl (y 0, 3, .inl frf)), (mo, .inr (11, [.ref to, .ref ke, .ref ik, .ref mrf, .long mab, .long mbl, .ref ha, .ref r0, .ref mbr, .ref mbp, .ref mby, .int (nI bl), .int (nI ta), .int (nI tl), .int (nI tk), .int vv, .ref an, .ref va])), (to, .inl (y 0, 228, .inl ft))] [(to, .inl (y 0, 228, .inl ft))] [(mrf, .inl (y 0, 3, .inl frf)), (mo, .inr (11, [.ref to, .ref ke, .ref ik, .ref mrf, .long mab, .long mbl, .ref ha, .ref r0, .ref mbr, .ref mbp, .ref mby, .int (nI bl), .int (nI ta), .int (nI tl), .int (nI tk), .int vv, .ref an, .ref va]))] [2] [0, 1] := ⟨rfl, rfl, rfl, rfl, rfl, by decide⟩
    refine kw_go_v hs11 hP hD hS hA (va_runS (As := [.ref to, .int (nI an1)]) (rest := []) ⟨hx, hb, hml, hown, hts⟩ (gr_begin228 l D y to ft (nI an1) hkt _) (va_cwS 2 hts gX11_parish_X11_begin rfl rfl rfl (by decide +kernel) ⟨Nat.le_of_ble_eq_true rfl, Nat.le_of_ble_eq_true rfl⟩) (kw_PreS hs11 hP hD hK hN) rfl rfl hl.1 rfl (lv_room (Nat.le_of_ble_eq_true rfl)) dX11_parish_24 ⟨Nat.le_of_ble_eq_true rfl, Nat.le_of_ble_eq_true rfl⟩) (fun u13 H locs hq hP hD hS => ?_)
    have h14 := hq
    have hk15 : (upd (kr_bg ft 76) 22 (nI an1)) 0 = 0 := ((pk_un (by decide)).trans (kr_bg_lt (by decide)))
    have hk16 : (upd (kr_bg ft 76) 22 (nI an1)) 1 = 0 := ((pk_un (by decide)).trans (kr_bg_lt (by decide)))
    have hk17 : (upd (kr_bg ft 76) 22 (nI an1)) 2 = 0 := ((pk_un (by decide)).trans (kr_bg_lt (by decide)))
    have hk18 : (upd (kr_bg ft 76) 22 (nI an1)) 3 = 0 := ((pk_un (by decide)).trans (kr_bg_lt (by decide)))
    have hk19 : (upd (kr_bg ft 76) 22 (nI an1)) 4 = 0 := ((pk_un (by decide)).trans (kr_bg_lt (by decide)))
    have hP : va_P D vwCl [(mrf, .inl (y 0, 3, .inl frf)), (mo, .inr (11, [.ref to, .ref ke, .ref ik, .ref mrf, .long mab, .long mbl, .ref ha, .ref r0, .ref mbr, .ref mbp, .ref mby, .int (nI bl), .int (nI ta), .int (nI tl), .int (nI tk), .int vv, .ref an, .ref va])), (to, .inl (y 0, 228, .inl (upd (kr_bg ft 76) 22 (nI an1))))] H := hP
    have hD : va_D A [(mrf, .inl (y 0, 3, .inl frf)), (mo, .inr (11, [.ref to, .ref ke, .ref ik, .ref mrf, .long mab, .long mbl, .ref ha, .ref r0, .ref mbr, .ref mbp, .ref mby, .int (nI bl), .int (nI ta), .int (nI tl), .int (nI tk), .int vv, .ref an, .ref va])), (to, .inl (y 0, 228, .inl (upd (kr_bg ft 76) 22 (nI an1))))] := hD
    refine lv_iload_n hx hb dX11_parish_27 rfl (lv_at hl 0 rfl) ?_
    exact W.iret (v := (nI fi)) hx hb hr (fun tZ ht hW => ⟨⟨(nI fi), (), rfl, ⟨h14, hk15, hk16, hk17, hk18, hk19, by first | omega | (dsimp only; omega), rfl⟩, by rw [ht]; exact hP.sub [1, 0, 2] rfl, hD.sub [1, 0, 2] (by decide) rfl⟩, hS.F ht⟩) hS.2.2 dX11_parish_28
  · skip
    exact absurd ⟨an1, by omega, by omega, rfl⟩ h7

set_option maxHeartbeats 4000000 in
set_option maxRecDepth 100000 in
theorem gx_field_full (l : Launch) (D : va_G) (y : Nat → ClassId) (g : Nat) (kk : Nat) (nw : Nat) (im : Nat) (kp : Nat) (tx : Nat) (tr : Nat) (be : Nat) (sh : Nat) (sd : Nat) (rf : Nat) (ab : Int32) (bl : Int32) (frf : Nat → Int32) (nk : Nat) (nd : Nat) (ne : Nat) (nm : Nat) (nn : Nat) (fi : Nat) (gl : Nat) (un : Nat) (mi : Nat) (no : Nat) (an1 : Nat) (an2 : Nat) (hfi : fi ≤ 6) (hgl : gl ≤ 5) (hun : un ≤ 8) (hmi : mi ≤ 4) (hno : no ≤ 6) (hA2 : 6 ≤ fi) (hB0_ : an1 < 6) (hB1_ : an2 ≤ 60) : kw_Mi l yX10_field wsX10_field ({ frames := 3, cells := 0, slots := 0, locals := 102 }) D y [.ref g, .int (nI an1), .int (nI an2)] [(g, .inr (10, [.ref kk, .ref nw, .ref im, .ref kp, .ref tx, .ref tr, .ref be, .ref sh, .ref sd, .ref rf, .int ab, .int bl])), (rf, .inl (y 0, 3, .inl frf)), (nw, .inr (4, [.ref kk, .ref nk, .ref nd, .ref ne, .ref nm, .ref nn, .int (nI fi), .int (nI gl), .int (nI un), .int (nI mi), .int (nI no)]))] (fun (r : Int32) (u : Unit) => r = (-4)) (fun _ => [(g, .inr (10, [.ref kk, .ref nw, .ref im, .ref kp, .ref tx, .ref tr, .ref be, .ref sh, .ref sd, .ref rf, .int ab, .int bl])), (rf, .inl (y 0, 3, .inl (upd frf 2 ((frf 2) + 1)))), (nw, .inr (4, [.ref kk, .ref nk, .ref nd, .ref ne, .ref nm, .ref nn, .int (nI fi), .int (nI gl), .int (nI un), .int (nI mi), .int (nI no)]))]) 0 0 := by
  refine kw_Mi.of (cc := cX10_field) (maxL := 3) (ret := (some .int)) (by decide) rfl ?_
  intro pZ eZ s mZ beZ meZ cZ A hE
  obtain ⟨hx, hb, hr, hml, hts, hown, hlocks, hin, hA, hP, hD, hK, hN⟩ := hE
  have hS : va_S A s.heap s.heap [] := va_S.rf
  have hl := lv_entry ([.ref g, .int (nI an1), .int (nI an2)]) (n := 3) (Nat.le_of_ble_eq_true rfl)
  rw [lg_entry_eq]
  generalize (lg_sl ([.ref g, .int (nI an1), .int (nI an2)]) ++ List.replicate (3 - (lg_sl ([.ref g, .int (nI an1), .int (nI an2)])).length) Slot.unset).toArray = ls at hl ⊢
  have hl : lv_has ls 3 [(0, .ref g), (1, .int (nI an1)), (2, .int (nI an2))] := hl
  have fw1 := hts (.fieldLink RX10 36 "GleanDusk" "now" "LGleanDusk$Parish;") (List.mem_of_getElem? (i := 1) rfl)
  have fw2 := hts (.fieldLink RX10 94 "GleanDusk$Parish" "fields" "I") (List.mem_of_getElem? (i := 2) rfl)
  have iw10 : ∀ w ∈ wsX100, w ∈ wsX10_field := fun _ h => List.mem_cons_of_mem _ (List.mem_append_left _ (List.mem_append_left _ (List.mem_append_right _ h)))
  have iw4 : ∀ w ∈ wsX40, w ∈ wsX10_field := fun _ h => List.mem_cons_of_mem _ (List.mem_append_left _ (List.mem_append_right _ h))
  refine lv_iload_n hx hb dX10_field_0 rfl (lv_at hl 1 rfl) ?_
  refine lv_bipush (v := 6) hx hb dX10_field_1 (by decide) ?_
  have hs1 : kw_Split [(g, .inr (10, [.ref kk, .ref nw, .ref im, .ref kp, .ref tx, .ref tr, .ref be, .ref sh, .ref sd, .ref rf, .int ab, .int bl])), (rf, .inl (y 0, 3, .inl frf)), (nw, .inr (4, [.ref kk, .ref nk, .ref nd, .ref ne, .ref nm, .ref nn, .int (nI fi), .int (nI gl), .int (nI un), .int (nI mi), .int (nI no)]))] [] [(g, .inr (10, [.ref kk, .ref nw, .ref im, .ref kp, .ref tx, .ref tr, .ref be, .ref sh, .ref sd, .ref rf, .int ab, .int bl])), (rf, .inl (y 0, 3, .inl frf)), (nw, .inr (4, [.ref kk, .ref nk, .ref nd, .ref ne, .ref nm, .ref nn, .int (nI fi), .int (nI gl), .int (nI un), .int (nI mi), .int (nI no)]))] [] [0, 1, 2] := ⟨rfl, rfl, rfl, rfl, rfl, by decide⟩
  refine kw_go_i hs1 hP hD hS hA (va_runS (As := [.int (nI an1), .int 6]) (rest := []) ⟨hx, hb, hml, hown, hts⟩ (gc_isBelow l D y (nI an1) 6 (by omega) _) (va_cwS 2 hts gX10_field_X10_isBelow rfl rfl rfl (by decide +kernel) ⟨Nat.le_of_ble_eq_true rfl, Nat.le_of_ble_eq_true rfl⟩) (kw_PreS hs1 hP hD hK hN) rfl rfl hl.1 rfl (lv_room (Nat.le_of_ble_eq_true rfl)) dX10_field_3 ⟨Nat.le_of_ble_eq_true rfl, Nat.le_of_ble_eq_true rfl⟩) (fun r2 u3 H locs hq hP hD hS => ?_)
  rcases hq with ⟨j4, h5, h6, rfl⟩ | ⟨h7, rfl⟩
  · skip
    have h6 : an1 = j4 := (nI_eq (a := an1) (b := j4) (by omega) (by omega)).mp h6
    have hP : va_P D vwCl [(g, .inr (10, [.ref kk, .ref nw, .ref im, .ref kp, .ref tx, .ref tr, .ref be, .ref sh, .ref sd, .ref rf, .int ab, .int bl])), (rf, .inl (y 0, 3, .inl frf)), (nw, .inr (4, [.ref kk, .ref nk, .ref nd, .ref ne, .ref nm, .ref nn, .int (nI fi), .int (nI gl), .int (nI un), .int (nI mi), .int (nI no)]))] H := hP
    have hD : va_D A [(g, .inr (10, [.ref kk, .ref nw, .ref im, .ref kp, .ref tx, .ref tr, .ref be, .ref sh, .ref sd, .ref rf, .int ab, .int bl])), (rf, .inl (y 0, 3, .inl frf)), (nw, .inr (4, [.ref kk, .ref nk, .ref nd, .ref ne, .ref nm, .ref nn, .int (nI fi), .int (nI gl), .int (nI un), .int (nI mi), .int (nI no)]))] := hD
    refine lv_if_eq (tgt := 16) hx hb dX10_field_6 (by decide) (fun h9 => absurd h9 (by decide)) (fun _ => ?_)
    refine lv_iload_n hx hb dX10_field_9 rfl (lv_at hl 2 rfl) ?_
    have hs8 : kw_Split [(g, .inr (10, [.ref kk, .ref nw, .ref im, .ref kp, .ref tx, .ref tr, .ref be, .ref sh, .ref sd, .ref rf, .int ab, .int bl])), (rf, .inl (y 0, 3, .inl frf)), (nw, .inr (4, [.ref kk, .ref nk, .ref nd, .ref ne, .ref nm, .ref nn, .int (nI fi), .int (nI gl), .int (nI un), .int (nI mi), .int (nI no)]))] [] [(g, .inr (10, [.ref kk, .ref nw, .ref im, .ref kp, .ref tx, .ref tr, .ref be, .ref sh, .ref sd, .ref rf, .int ab, .int bl])), (rf, .inl (y 0, 3, .inl frf)), (nw, .inr (4, [.ref kk, .ref nk, .ref nd, .ref ne, .ref nm, .ref nn, .int (nI fi), .int (nI gl), .int (nI un), .int (nI mi), .int (nI no)]))] [] [0, 1, 2] := ⟨rfl, rfl, rfl, rfl, rfl, by decide⟩
    refine kw_go_i hs8 hP hD hS hA (va_runS (As := [.int (nI an2)]) (rest := []) ⟨hx, hb, hml, hown, hts⟩ (gc_isLight l D y (nI an2)  _) (va_cwS 1 hts gX10_field_X10_isLight rfl rfl rfl (by decide +kernel) ⟨Nat.le_of_ble_eq_true rfl, Nat.le_of_ble_eq_true rfl⟩) (kw_PreS hs8 hP hD hK hN) rfl rfl hl.1 rfl (lv_room (Nat.le_of_ble_eq_true rfl)) dX10_field_10 ⟨Nat.le_of_ble_eq_true rfl, Nat.le_of_ble_eq_true rfl⟩) (fun r9 u10 H locs hq hP hD hS => ?_)
    rcases hq with ⟨j11, h12, h13, rfl⟩ | ⟨h14, rfl⟩
    · skip
      have h13 : an2 = j11 := (nI_eq (a := an2) (b := j11) (by omega) (by omega)).mp h13
      have hP : va_P D vwCl [(g, .inr (10, [.ref kk, .ref nw, .ref im, .ref kp, .ref tx, .ref tr, .ref be, .ref sh, .ref sd, .ref rf, .int ab, .int bl])), (rf, .inl (y 0, 3, .inl frf)), (nw, .inr (4, [.ref kk, .ref nk, .ref nd, .ref ne, .ref nm, .ref nn, .int (nI fi), .int (nI gl), .int (nI un), .int (nI mi), .int (nI no)]))] H := hP
      have hD : va_D A [(g, .inr (10, [.ref kk, .ref nw, .ref im, .ref kp, .ref tx, .ref tr, .ref be, .ref sh, .ref sd, .ref rf, .int ab, .int bl])), (rf, .inl (y 0, 3, .inl frf)), (nw, .inr (4, [.ref kk, .ref nk, .ref nd, .ref ne, .ref nm, .ref nn, .int (nI fi), .int (nI gl), .int (nI un), .int (nI mi), .int (nI no)]))] := hD
      refine lv_if_ne (tgt := 21) hx hb dX10_field_13 (by decide) (fun _ => ?_) (fun h9 => absurd h9 (by decide))
      refine lv_aload_n hx hb dX10_field_21 rfl (lv_at hl 0 rfl) ?_
      refine va_get (D := D) (ci := 10) (v := .ref nw) (C := RX10) (T := TX10) (N := 12) hx hb hts iw10 hown hK hP 0 rfl rfl 1 (by decide) fw1 (fun _ h9 => h9) rfl dX10_field_22 ?_
      refine va_get (D := D) (ci := 4) (v := .int (nI fi)) (C := RX4) (T := TX4) (N := 11) hx hb hts iw4 hown hK hP 2 rfl rfl 6 (by decide) fw2 (fun _ h9 => h9) rfl dX10_field_25 ?_
      refine lv_bipush (v := 6) hx hb dX10_field_28 (by decide) ?_
      refine lv_icmp_lt (tgt := 38) hx hb dX10_field_30 (by decide) (fun h15 => ?_) (fun h16 => ?_)
      · skip
        have h15 : fi < 6 := (nI_ltI (a := fi) (b := 6) (by omega) (by omega)).mp h15
        exact absurd h15 (by omega)
      · skip
        have h16 : ¬ fi < 6 := fun q9 => h16 ((nI_ltI (a := fi) (b := 6) (by omega) (by omega)).mpr q9)
        refine lv_aload_n hx hb dX10_field_33 rfl (lv_at hl 0 rfl) ?_
        have hs17 : kw_Split [(g, .inr (10, [.ref kk, .ref nw, .ref im, .ref kp, .ref tx, .ref tr, .ref be, .ref sh, .ref sd, .ref rf, .int ab, .int bl])), (rf, .inl (y 0, 3, .inl frf)), (nw, .inr (4, [.ref kk, .ref nk, .ref nd, .ref ne, .ref nm, .ref nn, .int (nI fi), .int (nI gl), .int (nI un), .int (nI mi), .int (nI no)]))] [(g, .inr (10, [.ref kk, .ref nw, .ref im, .ref kp, .ref tx, .ref tr, .ref be, .ref sh, .ref sd, .ref rf, .int ab, .int bl])), (rf, .inl (y 0, 3, .inl frf))] [(nw, .inr (4, [.ref kk, .ref nk, .ref nd, .ref ne, .ref nm, .ref nn, .int (nI fi), .int (nI gl), .int (nI un), .int (nI mi), .int (nI no)]))] [0, 1] [2] := ⟨rfl, rfl, rfl, rfl, rfl, by decide⟩
        refine kw_go_i hs17 hP hD hS hA (va_runV (As := []) (rest := []) ⟨hx, hb, hml, hown, hts⟩ (gc_refuseFull l D y g kk nw im kp tx tr be sh sd rf ab bl frf  _) (cwV 0 hts gX10_field_X10_refuseFull rfl rfl rfl (by decide +kernel) ⟨Nat.le_of_ble_eq_true rfl, Nat.le_of_ble_eq_true rfl⟩) (kw_PreV (ci := 10) (q0 := 0) hs17 hP hD hK hN rfl rfl) rfl rfl hl.1 rfl (lv_room (Nat.le_of_ble_eq_true rfl)) dX10_field_34 ⟨Nat.le_of_ble_eq_true rfl, Nat.le_of_ble_eq_true rfl⟩) (fun r18 u19 H locs hq hP hD hS => ?_)
        obtain rfl := hq
        have hP : va_P D vwCl [(nw, .inr (4, [.ref kk, .ref nk, .ref nd, .ref ne, .ref nm, .ref nn, .int (nI fi), .int (nI gl), .int (nI un), .int (nI mi), .int (nI no)])), (g, .inr (10, [.ref kk, .ref nw, .ref im, .ref kp, .ref tx, .ref tr, .ref be, .ref sh, .ref sd, .ref rf, .int ab, .int bl])), (rf, .inl (y 0, 3, .inl (upd frf 2 ((frf 2) + 1))))] H := hP
        have hD : va_D A [(nw, .inr (4, [.ref kk, .ref nk, .ref nd, .ref ne, .ref nm, .ref nn, .int (nI fi), .int (nI gl), .int (nI un), .int (nI mi), .int (nI no)])), (g, .inr (10, [.ref kk, .ref nw, .ref im, .ref kp, .ref tx, .ref tr, .ref be, .ref sh, .ref sd, .ref rf, .int ab, .int bl])), (rf, .inl (y 0, 3, .inl (upd frf 2 ((frf 2) + 1))))] := hD
        exact W.iret (v := (-4)) hx hb hr (fun tZ ht hW => ⟨⟨(-4), (), rfl, rfl, by rw [ht]; exact hP.sub [1, 2, 0] rfl, hD.sub [1, 2, 0] (by decide) rfl⟩, hS.F ht⟩) hS.2.2 dX10_field_37
    · skip
      exact absurd ⟨an2, by omega, by omega, rfl⟩ h14
  · skip
    exact absurd ⟨an1, by omega, rfl⟩ h7

set_option maxHeartbeats 4000000 in
set_option maxRecDepth 100000 in
theorem gy_field_full (l : Launch) (D : va_G) (y : Nat → ClassId) (mo : Nat) (to : Nat) (ke : Nat) (ik : Nat) (mrf : Nat) (ha : Nat) (r0 : Nat) (mbr : Nat) (mbp : Nat) (mby : Nat) (an : Nat) (va : Nat) (mab : Int64) (mbl : Int64) (bl : Nat) (ta : Nat) (tl : Nat) (tk : Nat) (vv : Int32) (frf : Nat → Int32) (ft : Nat → Int32) (fi : Nat) (gl : Nat) (mi : Nat) (no : Nat) (un : Nat) (an1 : Nat) (an2 : Nat) (hk0_ : ft 0 = (nI fi)) (hk1_ : ft 1 = (nI gl)) (hk2_ : ft 2 = (nI mi)) (hk3_ : ft 3 = (nI no)) (hk4_ : ft 4 = (nI un)) (hkt : kr_t 228 ft) (hfi : fi ≤ 6) (hgl : gl ≤ 5) (hmi : mi ≤ 4) (hno : no ≤ 6) (hun : un ≤ 8) (hgf : (gl = 0 ∨ 0 < fi)) (hA2 : fi = 6) (hB0_ : an1 < 6) (hB1_ : an2 ≤ 60) : kw_Mi l yX11_field wsX11_field ({ frames := 3, cells := 0, slots := 0, locals := 105 }) D y [.ref mo, .int (nI an1), .int (nI an2)] [(mo, .inr (11, [.ref to, .ref ke, .ref ik, .ref mrf, .long mab, .long mbl, .ref ha, .ref r0, .ref mbr, .ref mbp, .ref mby, .int (nI bl), .int (nI ta), .int (nI tl), .int (nI tk), .int vv, .ref an, .ref va])), (mrf, .inl (y 0, 3, .inl frf)), (to, .inl (y 0, 228, .inl ft))] (fun (r : Int32) (u : Unit) => (gl = 0 ∨ 0 < fi) ∧ r = (-4)) (fun _ => [(mo, .inr (11, [.ref to, .ref ke, .ref ik, .ref mrf, .long mab, .long mbl, .ref ha, .ref r0, .ref mbr, .ref mbp, .ref mby, .int (nI bl), .int (nI ta), .int (nI tl), .int (nI tk), .int vv, .ref an, .ref va])), (mrf, .inl (y 0, 3, .inl (upd frf 2 ((frf 2) + 1)))), (to, .inl (y 0, 228, .inl ft))]) 0 0 := by
  refine kw_Mi.of (cc := cX11_field) (maxL := 3) (ret := (some .int)) (by decide) rfl ?_
  intro pZ eZ s mZ beZ meZ cZ A hE
  obtain ⟨hx, hb, hr, hml, hts, hown, hlocks, hin, hA, hP, hD, hK, hN⟩ := hE
  have hS : va_S A s.heap s.heap [] := va_S.rf
  have hl := lv_entry ([.ref mo, .int (nI an1), .int (nI an2)]) (n := 3) (Nat.le_of_ble_eq_true rfl)
  rw [lg_entry_eq]
  generalize (lg_sl ([.ref mo, .int (nI an1), .int (nI an2)]) ++ List.replicate (3 - (lg_sl ([.ref mo, .int (nI an1), .int (nI an2)])).length) Slot.unset).toArray = ls at hl ⊢
  have hl : lv_has ls 3 [(0, .ref mo), (1, .int (nI an1)), (2, .int (nI an2))] := hl
  have fw1 := hts (.constantLong RX11 77 (5)) (List.mem_of_getElem? (i := 1) rfl)
  refine lv_iload_n hx hb dX11_field_0 rfl (lv_at hl 1 rfl) ?_
  refine lv_i2l (v := (nI an1).toInt64) hx hb dX11_field_1 (rfl) ?_
  refine lv_lconst (v := 0) hx hb dX11_field_2 (by decide) ?_
  refine lv_ldc2 (v := 5) hx hb hown fw1 dX11_field_3 ?_
  have hs1 : kw_Split [(mo, .inr (11, [.ref to, .ref ke, .ref ik, .ref mrf, .long mab, .long mbl, .ref ha, .ref r0, .ref mbr, .ref mbp, .ref mby, .int (nI bl), .int (nI ta), .int (nI tl), .int (nI tk), .int vv, .ref an, .ref va])), (mrf, .inl (y 0, 3, .inl frf)), (to, .inl (y 0, 228, .inl ft))] [] [(mo, .inr (11, [.ref to, .ref ke, .ref ik, .ref mrf, .long mab, .long mbl, .ref ha, .ref r0, .ref mbr, .ref mbp, .ref mby, .int (nI bl), .int (nI ta), .int (nI tl), .int (nI tk), .int vv, .ref an, .ref va])), (mrf, .inl (y 0, 3, .inl frf)), (to, .inl (y 0, 228, .inl ft))] [] [0, 1, 2] := ⟨rfl, rfl, rfl, rfl, rfl, by decide⟩
  refine kw_go_i hs1 hP hD hS hA (va_runS (As := [.long ((nI an1).toInt64), .long 0, .long 5]) (rest := []) ⟨hx, hb, hml, hown, hts⟩ (gr_in l D y (nI an1) 0 5 (by omega) (by omega) _) (va_cwS 3 hts gX11_field_X11_in rfl rfl rfl (by decide +kernel) ⟨Nat.le_of_ble_eq_true rfl, Nat.le_of_ble_eq_true rfl⟩) (kw_PreS hs1 hP hD hK hN) rfl rfl hl.1 rfl (lv_room (Nat.le_of_ble_eq_true rfl)) dX11_field_6 ⟨Nat.le_of_ble_eq_true rfl, Nat.le_of_ble_eq_true rfl⟩) (fun r2 u3 H locs hq hP hD hS => ?_)
  rcases hq with ⟨j4, h5, h6, h7, rfl⟩ | ⟨h8, rfl⟩
  · skip
    have h7 : an1 = j4 := (nI_eq (a := an1) (b := j4) (by omega) (by omega)).mp h7
    have hP : va_P D vwCl [(mo, .inr (11, [.ref to, .ref ke, .ref ik, .ref mrf, .long mab, .long mbl, .ref ha, .ref r0, .ref mbr, .ref mbp, .ref mby, .int (nI bl), .int (nI ta), .int (nI tl), .int (nI tk), .int vv, .ref an, .ref va])), (mrf, .inl (y 0, 3, .inl frf)), (to, .inl (y 0, 228, .inl ft))] H := hP
    have hD : va_D A [(mo, .inr (11, [.ref to, .ref ke, .ref ik, .ref mrf, .long mab, .long mbl, .ref ha, .ref r0, .ref mbr, .ref mbp, .ref mby, .int (nI bl), .int (nI ta), .int (nI tl), .int (nI tk), .int vv, .ref an, .ref va])), (mrf, .inl (y 0, 3, .inl frf)), (to, .inl (y 0, 228, .inl ft))] := hD
    refine lv_if_eq (tgt := 19) hx hb dX11_field_9 (by decide) (fun h9 => absurd h9 (by decide)) (fun _ => ?_)
    refine lv_iload_n hx hb dX11_field_12 rfl (lv_at hl 2 rfl) ?_
    have hs9 : kw_Split [(mo, .inr (11, [.ref to, .ref ke, .ref ik, .ref mrf, .long mab, .long mbl, .ref ha, .ref r0, .ref mbr, .ref mbp, .ref mby, .int (nI bl), .int (nI ta), .int (nI tl), .int (nI tk), .int vv, .ref an, .ref va])), (mrf, .inl (y 0, 3, .inl frf)), (to, .inl (y 0, 228, .inl ft))] [] [(mo, .inr (11, [.ref to, .ref ke, .ref ik, .ref mrf, .long mab, .long mbl, .ref ha, .ref r0, .ref mbr, .ref mbp, .ref mby, .int (nI bl), .int (nI ta), .int (nI tl), .int (nI tk), .int vv, .ref an, .ref va])), (mrf, .inl (y 0, 3, .inl frf)), (to, .inl (y 0, 228, .inl ft))] [] [0, 1, 2] := ⟨rfl, rfl, rfl, rfl, rfl, by decide⟩
    refine kw_go_i hs9 hP hD hS hA (va_runS (As := [.int (nI an2)]) (rest := []) ⟨hx, hb, hml, hown, hts⟩ (gr_isLight l D y (nI an2)  _) (va_cwS 1 hts gX11_field_X11_isLight rfl rfl rfl (by decide +kernel) ⟨Nat.le_of_ble_eq_true rfl, Nat.le_of_ble_eq_true rfl⟩) (kw_PreS hs9 hP hD hK hN) rfl rfl hl.1 rfl (lv_room (Nat.le_of_ble_eq_true rfl)) dX11_field_13 ⟨Nat.le_of_ble_eq_true rfl, Nat.le_of_ble_eq_true rfl⟩) (fun r10 u11 H locs hq hP hD hS => ?_)
    rcases hq with ⟨j12, h13, h14, rfl⟩ | ⟨h15, rfl⟩
    · skip
      have h14 : an2 = j12 := (nI_eq (a := an2) (b := j12) (by omega) (by omega)).mp h14
      have hP : va_P D vwCl [(mo, .inr (11, [.ref to, .ref ke, .ref ik, .ref mrf, .long mab, .long mbl, .ref ha, .ref r0, .ref mbr, .ref mbp, .ref mby, .int (nI bl), .int (nI ta), .int (nI tl), .int (nI tk), .int vv, .ref an, .ref va])), (mrf, .inl (y 0, 3, .inl frf)), (to, .inl (y 0, 228, .inl ft))] H := hP
      have hD : va_D A [(mo, .inr (11, [.ref to, .ref ke, .ref ik, .ref mrf, .long mab, .long mbl, .ref ha, .ref r0, .ref mbr, .ref mbp, .ref mby, .int (nI bl), .int (nI ta), .int (nI tl), .int (nI tk), .int vv, .ref an, .ref va])), (mrf, .inl (y 0, 3, .inl frf)), (to, .inl (y 0, 228, .inl ft))] := hD
      refine lv_if_ne (tgt := 26) hx hb dX11_field_16 (by decide) (fun _ => ?_) (fun h9 => absurd h9 (by decide))
      refine lv_aload_n hx hb dX11_field_26 rfl (lv_at hl 0 rfl) ?_
      have hs16 : kw_Split [(mo, .inr (11, [.ref to, .ref ke, .ref ik, .ref mrf, .long mab, .long mbl, .ref ha, .ref r0, .ref mbr, .ref mbp, .ref mby, .int (nI bl), .int (nI ta), .int (nI tl), .int (nI tk), .int vv, .ref an, .ref va])), (mrf, .inl (y 0, 3, .inl frf)), (to, .inl (y 0, 228, .inl ft))] [(mo, .inr (11, [.ref to, .ref ke, .ref ik, .ref mrf, .long mab, .long mbl, .ref ha, .ref r0, .ref mbr, .ref mbp, .ref mby, .int (nI bl), .int (nI ta), .int (nI tl), .int (nI tk), .int vv, .ref an, .ref va])), (to, .inl (y 0, 228, .inl ft))] [(mrf, .inl (y 0, 3, .inl frf))] [0, 2] [1] := ⟨rfl, rfl, rfl, rfl, rfl, by decide⟩
      refine kw_go_i hs16 hP hD hS hA (va_runV (As := []) (rest := []) ⟨hx, hb, hml, hown, hts⟩ (gr_many l D y mo to ke ik mrf ha r0 mbr mbp mby an va mab mbl bl ta tl tk vv ft fi gl mi no un hk0_ hk1_ hk2_ hk3_ hk4_ hkt hfi hgl hmi hno hun _) (cwV 0 hts gX11_field_X11_many rfl rfl rfl (by decide +kernel) ⟨Nat.le_of_ble_eq_true rfl, Nat.le_of_ble_eq_true rfl⟩) (kw_PreV (ci := 11) (q0 := 0) hs16 hP hD hK hN rfl rfl) rfl rfl hl.1 rfl (lv_room (Nat.le_of_ble_eq_true rfl)) dX11_field_27 ⟨Nat.le_of_ble_eq_true rfl, Nat.le_of_ble_eq_true rfl⟩) (fun r17 u18 H locs hq hP hD hS => ?_)
      obtain rfl := hq
      have hP : va_P D vwCl [(mrf, .inl (y 0, 3, .inl frf)), (mo, .inr (11, [.ref to, .ref ke, .ref ik, .ref mrf, .long mab, .long mbl, .ref ha, .ref r0, .ref mbr, .ref mbp, .ref mby, .int (nI bl), .int (nI ta), .int (nI tl), .int (nI tk), .int vv, .ref an, .ref va])), (to, .inl (y 0, 228, .inl ft))] H := hP
      have hD : va_D A [(mrf, .inl (y 0, 3, .inl frf)), (mo, .inr (11, [.ref to, .ref ke, .ref ik, .ref mrf, .long mab, .long mbl, .ref ha, .ref r0, .ref mbr, .ref mbp, .ref mby, .int (nI bl), .int (nI ta), .int (nI tl), .int (nI tk), .int vv, .ref an, .ref va])), (to, .inl (y 0, 228, .inl ft))] := hD
      refine lv_bipush (v := 6) hx hb dX11_field_30 (by decide) ?_
      refine lv_icmp_ne (tgt := 40) hx hb dX11_field_32 (by decide) (fun h19 => ?_) (fun h20 => ?_)
      · skip
        have h19 : ¬ fi = 6 := fun q9 => h19 ((nI_eq (a := fi) (b := 6) (by omega) (by omega)).mpr q9)
        exact absurd h19 (by omega)
      · skip
        have h20 : fi = 6 := (nI_eq (a := fi) (b := 6) (by omega) (by omega)).mp h20
        refine lv_aload_n hx hb dX11_field_35 rfl (lv_at hl 0 rfl) ?_
        have hs21 : kw_Split [(mrf, .inl (y 0, 3, .inl frf)), (mo, .inr (11, [.ref to, .ref ke, .ref ik, .ref mrf, .long mab, .long mbl, .ref ha, .ref r0, .ref mbr, .ref mbp, .ref mby, .int (nI bl), .int (nI ta), .int (nI tl), .int (nI tk), .int vv, .ref an, .ref va])), (to, .inl (y 0, 228, .inl ft))] [(mo, .inr (11, [.ref to, .ref ke, .ref ik, .ref mrf, .long mab, .long mbl, .ref ha, .ref r0, .ref mbr, .ref mbp, .ref mby, .int (nI bl), .int (nI ta), .int (nI tl), .int (nI tk), .int vv, .ref an, .ref va])), (mrf, .inl (y 0, 3, .inl frf))] [(to, .inl (y 0, 228, .inl ft))] [1, 0] [2] := ⟨rfl, rfl, rfl, rfl, rfl, by decide⟩
        refine kw_go_i hs21 hP hD hS hA (va_runV (As := []) (rest := []) ⟨hx, hb, hml, hown, hts⟩ (gr_full l D y mo to ke ik mrf ha r0 mbr mbp mby an va mab mbl bl ta tl tk vv frf  _) (cwV 0 hts gX11_field_X11_full rfl rfl rfl (by decide +kernel) ⟨Nat.le_of_ble_eq_true rfl, Nat.le_of_ble_eq_true rfl⟩) (kw_PreV (ci := 11) (q0 := 1) hs21 hP hD hK hN rfl rfl) rfl rfl hl.1 rfl (lv_room (Nat.le_of_ble_eq_true rfl)) dX11_field_36 ⟨Nat.le_of_ble_eq_true rfl, Nat.le_of_ble_eq_true rfl⟩) (fun r22 u23 H locs hq hP hD hS => ?_)
        obtain rfl := hq
        have hP : va_P D vwCl [(to, .inl (y 0, 228, .inl ft)), (mo, .inr (11, [.ref to, .ref ke, .ref ik, .ref mrf, .long mab, .long mbl, .ref ha, .ref r0, .ref mbr, .ref mbp, .ref mby, .int (nI bl), .int (nI ta), .int (nI tl), .int (nI tk), .int vv, .ref an, .ref va])), (mrf, .inl (y 0, 3, .inl (upd frf 2 ((frf 2) + 1))))] H := hP
        have hD : va_D A [(to, .inl (y 0, 228, .inl ft)), (mo, .inr (11, [.ref to, .ref ke, .ref ik, .ref mrf, .long mab, .long mbl, .ref ha, .ref r0, .ref mbr, .ref mbp, .ref mby, .int (nI bl), .int (nI ta), .int (nI tl), .int (nI tk), .int vv, .ref an, .ref va])), (mrf, .inl (y 0, 3, .inl (upd frf 2 ((frf 2) + 1))))] := hD
        exact W.iret (v := (-4)) hx hb hr (fun tZ ht hW => ⟨⟨(-4), (), rfl, ⟨by first | omega | (dsimp only; omega), rfl⟩, by rw [ht]; exact hP.sub [1, 2, 0] rfl, hD.sub [1, 2, 0] (by decide) rfl⟩, hS.F ht⟩) hS.2.2 dX11_field_39
    · skip
      exact absurd ⟨an2, by omega, by omega, rfl⟩ h15
  · skip
    exact absurd ⟨an1, by omega, by omega, rfl⟩ h8

set_option maxHeartbeats 4000000 in
set_option maxRecDepth 100000 in
theorem gx_field_ok (l : Launch) (D : va_G) (y : Nat → ClassId) (g : Nat) (kk : Nat) (nw : Nat) (im : Nat) (kp : Nat) (tx : Nat) (tr : Nat) (be : Nat) (sh : Nat) (sd : Nat) (rf : Nat) (ab : Int32) (bl : Int32) (frf : Nat → Int32) (nk : Nat) (nd : Nat) (ne : Nat) (nm : Nat) (nn : Nat) (fi : Nat) (gl : Nat) (un : Nat) (mi : Nat) (no : Nat) (nd : Nat) (nl : Nat) (na : Nat) (ns : Nat) (nst : Int32) (ncl : Int32) (nnu : Int32) (nfl : Nat → Int32) (fk : Nat → Int32) (an1 : Nat) (an2 : Nat) (hfi : fi ≤ 6) (hgl : gl ≤ 5) (hun : un ≤ 8) (hmi : mi ≤ 4) (hno : no ≤ 6) (hk : kw_bd 6 6 fk) (hA2 : fi < 6) (hB0_ : an1 < 6) (hB1_ : an2 ≤ 60) : kw_Mi l yX10_field wsX10_field ({ frames := 3, cells := 0, slots := 0, locals := 102 }) D y [.ref g, .int (nI an1), .int (nI an2)] [(g, .inr (10, [.ref kk, .ref nw, .ref im, .ref kp, .ref tx, .ref tr, .ref be, .ref sh, .ref sd, .ref rf, .int ab, .int bl])), (rf, .inl (y 0, 3, .inl frf)), (nw, .inr (4, [.ref kk, .ref nk, .ref nd, .ref ne, .ref nm, .ref nn, .int (nI fi), .int (nI gl), .int (nI un), .int (nI mi), .int (nI no)])), (nk, .inl (y 0, 6, .inl fk)), (nd, .inr (1, [.ref nl, .ref na, .ref ns, .int nst, .int ncl, .int nnu])), (nl, .inl (y 0, 6, .inl nfl))] (fun (r : Int32) (u : Unit) => kw_bd 6 6 (upd fk fi (nI an1)) ∧ r = (nI fi)) (fun _ => [(g, .inr (10, [.ref kk, .ref nw, .ref im, .ref kp, .ref tx, .ref tr, .ref be, .ref sh, .ref sd, .ref rf, .int ab, .int bl])), (rf, .inl (y 0, 3, .inl frf)), (nw, .inr (4, [.ref kk, .ref nk, .ref nd, .ref ne, .ref nm, .ref nn, .int (nI (fi + 1)), .int (nI gl), .int 0, .int (nI mi), .int (nI no)])), (nk, .inl (y 0, 6, .inl (upd fk fi (nI an1)))), (nd, .inr (1, [.ref nl, .ref na, .ref ns, .int nst, .int ncl, .int nnu])), (nl, .inl (y 0, 6, .inl (upd nfl fi (nI an2))))]) 0 0 := by
  refine kw_Mi.of (cc := cX10_field) (maxL := 3) (ret := (some .int)) (by decide) rfl ?_
  intro pZ eZ s mZ beZ meZ cZ A hE
  obtain ⟨hx, hb, hr, hml, hts, hown, hlocks, hin, hA, hP, hD, hK, hN⟩ := hE
  have hS : va_S A s.heap s.heap [] := va_S.rf
  have hl := lv_entry ([.ref g, .int (nI an1), .int (nI an2)]) (n := 3) (Nat.le_of_ble_eq_true rfl)
  rw [lg_entry_eq]
  generalize (lg_sl ([.ref g, .int (nI an1), .int (nI an2)]) ++ List.replicate (3 - (lg_sl ([.ref g, .int (nI an1), .int (nI an2)])).length) Slot.unset).toArray = ls at hl ⊢
  have hl : lv_has ls 3 [(0, .ref g), (1, .int (nI an1)), (2, .int (nI an2))] := hl
  have fw1 := hts (.fieldLink RX10 36 "GleanDusk" "now" "LGleanDusk$Parish;") (List.mem_of_getElem? (i := 1) rfl)
  have fw2 := hts (.fieldLink RX10 94 "GleanDusk$Parish" "fields" "I") (List.mem_of_getElem? (i := 2) rfl)
  have iw10 : ∀ w ∈ wsX100, w ∈ wsX10_field := fun _ h => List.mem_cons_of_mem _ (List.mem_append_left _ (List.mem_append_left _ (List.mem_append_right _ h)))
  have iw4 : ∀ w ∈ wsX40, w ∈ wsX10_field := fun _ h => List.mem_cons_of_mem _ (List.mem_append_left _ (List.mem_append_right _ h))
  refine lv_iload_n hx hb dX10_field_0 rfl (lv_at hl 1 rfl) ?_
  refine lv_bipush (v := 6) hx hb dX10_field_1 (by decide) ?_
  have hs1 : kw_Split [(g, .inr (10, [.ref kk, .ref nw, .ref im, .ref kp, .ref tx, .ref tr, .ref be, .ref sh, .ref sd, .ref rf, .int ab, .int bl])), (rf, .inl (y 0, 3, .inl frf)), (nw, .inr (4, [.ref kk, .ref nk, .ref nd, .ref ne, .ref nm, .ref nn, .int (nI fi), .int (nI gl), .int (nI un), .int (nI mi), .int (nI no)])), (nk, .inl (y 0, 6, .inl fk)), (nd, .inr (1, [.ref nl, .ref na, .ref ns, .int nst, .int ncl, .int nnu])), (nl, .inl (y 0, 6, .inl nfl))] [] [(g, .inr (10, [.ref kk, .ref nw, .ref im, .ref kp, .ref tx, .ref tr, .ref be, .ref sh, .ref sd, .ref rf, .int ab, .int bl])), (rf, .inl (y 0, 3, .inl frf)), (nw, .inr (4, [.ref kk, .ref nk, .ref nd, .ref ne, .ref nm, .ref nn, .int (nI fi), .int (nI gl), .int (nI un), .int (nI mi), .int (nI no)])), (nk, .inl (y 0, 6, .inl fk)), (nd, .inr (1, [.ref nl, .ref na, .ref ns, .int nst, .int ncl, .int nnu])), (nl, .inl (y 0, 6, .inl nfl))] [] [0, 1, 2, 3, 4, 5] := ⟨rfl, rfl, rfl, rfl, rfl, by decide⟩
  refine kw_go_i hs1 hP hD hS hA (va_runS (As := [.int (nI an1), .int 6]) (rest := []) ⟨hx, hb, hml, hown, hts⟩ (gc_isBelow l D y (nI an1) 6 (by omega) _) (va_cwS 2 hts gX10_field_X10_isBelow rfl rfl rfl (by decide +kernel) ⟨Nat.le_of_ble_eq_true rfl, Nat.le_of_ble_eq_true rfl⟩) (kw_PreS hs1 hP hD hK hN) rfl rfl hl.1 rfl (lv_room (Nat.le_of_ble_eq_true rfl)) dX10_field_3 ⟨Nat.le_of_ble_eq_true rfl, Nat.le_of_ble_eq_true rfl⟩) (fun r2 u3 H locs hq hP hD hS => ?_)
  rcases hq with ⟨j4, h5, h6, rfl⟩ | ⟨h7, rfl⟩
  · skip
    have h6 : an1 = j4 := (nI_eq (a := an1) (b := j4) (by omega) (by omega)).mp h6
    have hP : va_P D vwCl [(g, .inr (10, [.ref kk, .ref nw, .ref im, .ref kp, .ref tx, .ref tr, .ref be, .ref sh, .ref sd, .ref rf, .int ab, .int bl])), (rf, .inl (y 0, 3, .inl frf)), (nw, .inr (4, [.ref kk, .ref nk, .ref nd, .ref ne, .ref nm, .ref nn, .int (nI fi), .int (nI gl), .int (nI un), .int (nI mi), .int (nI no)])), (nk, .inl (y 0, 6, .inl fk)), (nd, .inr (1, [.ref nl, .ref na, .ref ns, .int nst, .int ncl, .int nnu])), (nl, .inl (y 0, 6, .inl nfl))] H := hP
    have hD : va_D A [(g, .inr (10, [.ref kk, .ref nw, .ref im, .ref kp, .ref tx, .ref tr, .ref be, .ref sh, .ref sd, .ref rf, .int ab, .int bl])), (rf, .inl (y 0, 3, .inl frf)), (nw, .inr (4, [.ref kk, .ref nk, .ref nd, .ref ne, .ref nm, .ref nn, .int (nI fi), .int (nI gl), .int (nI un), .int (nI mi), .int (nI no)])), (nk, .inl (y 0, 6, .inl fk)), (nd, .inr (1, [.ref nl, .ref na, .ref ns, .int nst, .int ncl, .int nnu])), (nl, .inl (y 0, 6, .inl nfl))] := hD
    refine lv_if_eq (tgt := 16) hx hb dX10_field_6 (by decide) (fun h9 => absurd h9 (by decide)) (fun _ => ?_)
    refine lv_iload_n hx hb dX10_field_9 rfl (lv_at hl 2 rfl) ?_
    have hs8 : kw_Split [(g, .inr (10, [.ref kk, .ref nw, .ref im, .ref kp, .ref tx, .ref tr, .ref be, .ref sh, .ref sd, .ref rf, .int ab, .int bl])), (rf, .inl (y 0, 3, .inl frf)), (nw, .inr (4, [.ref kk, .ref nk, .ref nd, .ref ne, .ref nm, .ref nn, .int (nI fi), .int (nI gl), .int (nI un), .int (nI mi), .int (nI no)])), (nk, .inl (y 0, 6, .inl fk)), (nd, .inr (1, [.ref nl, .ref na, .ref ns, .int nst, .int ncl, .int nnu])), (nl, .inl (y 0, 6, .inl nfl))] [] [(g, .inr (10, [.ref kk, .ref nw, .ref im, .ref kp, .ref tx, .ref tr, .ref be, .ref sh, .ref sd, .ref rf, .int ab, .int bl])), (rf, .inl (y 0, 3, .inl frf)), (nw, .inr (4, [.ref kk, .ref nk, .ref nd, .ref ne, .ref nm, .ref nn, .int (nI fi), .int (nI gl), .int (nI un), .int (nI mi), .int (nI no)])), (nk, .inl (y 0, 6, .inl fk)), (nd, .inr (1, [.ref nl, .ref na, .ref ns, .int nst, .int ncl, .int nnu])), (nl, .inl (y 0, 6, .inl nfl))] [] [0, 1, 2, 3, 4, 5] := ⟨rfl, rfl, rfl, rfl, rfl, by decide⟩
    refine kw_go_i hs8 hP hD hS hA (va_runS (As := [.int (nI an2)]) (rest := []) ⟨hx, hb, hml, hown, hts⟩ (gc_isLight l D y (nI an2)  _) (va_cwS 1 hts gX10_field_X10_isLight rfl rfl rfl (by decide +kernel) ⟨Nat.le_of_ble_eq_true rfl, Nat.le_of_ble_eq_true rfl⟩) (kw_PreS hs8 hP hD hK hN) rfl rfl hl.1 rfl (lv_room (Nat.le_of_ble_eq_true rfl)) dX10_field_10 ⟨Nat.le_of_ble_eq_true rfl, Nat.le_of_ble_eq_true rfl⟩) (fun r9 u10 H locs hq hP hD hS => ?_)
    rcases hq with ⟨j11, h12, h13, rfl⟩ | ⟨h14, rfl⟩
    · skip
      have h13 : an2 = j11 := (nI_eq (a := an2) (b := j11) (by omega) (by omega)).mp h13
      have hP : va_P D vwCl [(g, .inr (10, [.ref kk, .ref nw, .ref im, .ref kp, .ref tx, .ref tr, .ref be, .ref sh, .ref sd, .ref rf, .int ab, .int bl])), (rf, .inl (y 0, 3, .inl frf)), (nw, .inr (4, [.ref kk, .ref nk, .ref nd, .ref ne, .ref nm, .ref nn, .int (nI fi), .int (nI gl), .int (nI un), .int (nI mi), .int (nI no)])), (nk, .inl (y 0, 6, .inl fk)), (nd, .inr (1, [.ref nl, .ref na, .ref ns, .int nst, .int ncl, .int nnu])), (nl, .inl (y 0, 6, .inl nfl))] H := hP
      have hD : va_D A [(g, .inr (10, [.ref kk, .ref nw, .ref im, .ref kp, .ref tx, .ref tr, .ref be, .ref sh, .ref sd, .ref rf, .int ab, .int bl])), (rf, .inl (y 0, 3, .inl frf)), (nw, .inr (4, [.ref kk, .ref nk, .ref nd, .ref ne, .ref nm, .ref nn, .int (nI fi), .int (nI gl), .int (nI un), .int (nI mi), .int (nI no)])), (nk, .inl (y 0, 6, .inl fk)), (nd, .inr (1, [.ref nl, .ref na, .ref ns, .int nst, .int ncl, .int nnu])), (nl, .inl (y 0, 6, .inl nfl))] := hD
      refine lv_if_ne (tgt := 21) hx hb dX10_field_13 (by decide) (fun _ => ?_) (fun h9 => absurd h9 (by decide))
      refine lv_aload_n hx hb dX10_field_21 rfl (lv_at hl 0 rfl) ?_
      refine va_get (D := D) (ci := 10) (v := .ref nw) (C := RX10) (T := TX10) (N := 12) hx hb hts iw10 hown hK hP 0 rfl rfl 1 (by decide) fw1 (fun _ h9 => h9) rfl dX10_field_22 ?_
      refine va_get (D := D) (ci := 4) (v := .int (nI fi)) (C := RX4) (T := TX4) (N := 11) hx hb hts iw4 hown hK hP 2 rfl rfl 6 (by decide) fw2 (fun _ h9 => h9) rfl dX10_field_25 ?_
      refine lv_bipush (v := 6) hx hb dX10_field_28 (by decide) ?_
      refine lv_icmp_lt (tgt := 38) hx hb dX10_field_30 (by decide) (fun h15 => ?_) (fun h16 => ?_)
      · skip
        have h15 : fi < 6 := (nI_ltI (a := fi) (b := 6) (by omega) (by omega)).mp h15
        refine lv_aload_n hx hb dX10_field_38 rfl (lv_at hl 0 rfl) ?_
        refine va_get (D := D) (ci := 10) (v := .ref nw) (C := RX10) (T := TX10) (N := 12) hx hb hts iw10 hown hK hP 0 rfl rfl 1 (by decide) fw1 (fun _ h9 => h9) rfl dX10_field_39 ?_
        refine lv_iload_n hx hb dX10_field_42 rfl (lv_at hl 1 rfl) ?_
        refine lv_iload_n hx hb dX10_field_43 rfl (lv_at hl 2 rfl) ?_
        have hs17 : kw_Split [(g, .inr (10, [.ref kk, .ref nw, .ref im, .ref kp, .ref tx, .ref tr, .ref be, .ref sh, .ref sd, .ref rf, .int ab, .int bl])), (rf, .inl (y 0, 3, .inl frf)), (nw, .inr (4, [.ref kk, .ref nk, .ref nd, .ref ne, .ref nm, .ref nn, .int (nI fi), .int (nI gl), .int (nI un), .int (nI mi), .int (nI no)])), (nk, .inl (y 0, 6, .inl fk)), (nd, .inr (1, [.ref nl, .ref na, .ref ns, .int nst, .int ncl, .int nnu])), (nl, .inl (y 0, 6, .inl nfl))] [(nw, .inr (4, [.ref kk, .ref nk, .ref nd, .ref ne, .ref nm, .ref nn, .int (nI fi), .int (nI gl), .int (nI un), .int (nI mi), .int (nI no)])), (nk, .inl (y 0, 6, .inl fk)), (nd, .inr (1, [.ref nl, .ref na, .ref ns, .int nst, .int ncl, .int nnu])), (nl, .inl (y 0, 6, .inl nfl))] [(g, .inr (10, [.ref kk, .ref nw, .ref im, .ref kp, .ref tx, .ref tr, .ref be, .ref sh, .ref sd, .ref rf, .int ab, .int bl])), (rf, .inl (y 0, 3, .inl frf))] [2, 3, 4, 5] [0, 1] := ⟨rfl, rfl, rfl, rfl, rfl, by decide⟩
        refine kw_go_i hs17 hP hD hS hA (va_runV (As := [.int (nI an1), .int (nI an2)]) (rest := []) ⟨hx, hb, hml, hown, hts⟩ (gc_addField l D y nw kk nk nd ne nm nn fi gl un mi no an1 (nI an2) nd nl na ns nst ncl nnu nfl fk hfi hgl hun hmi hno hk hA2 hB0_ _) (cwV 2 hts gX10_field_X4_addField rfl rfl rfl (by decide +kernel) ⟨Nat.le_of_ble_eq_true rfl, Nat.le_of_ble_eq_true rfl⟩) (kw_PreV (ci := 4) (q0 := 2) hs17 hP hD hK hN rfl rfl) rfl rfl hl.1 rfl (lv_room (Nat.le_of_ble_eq_true rfl)) dX10_field_44 ⟨Nat.le_of_ble_eq_true rfl, Nat.le_of_ble_eq_true rfl⟩) (fun r18 u19 H locs hq hP hD hS => ?_)
        obtain ⟨h20, rfl⟩ := hq
        have hP : va_P D vwCl [(g, .inr (10, [.ref kk, .ref nw, .ref im, .ref kp, .ref tx, .ref tr, .ref be, .ref sh, .ref sd, .ref rf, .int ab, .int bl])), (rf, .inl (y 0, 3, .inl frf)), (nw, .inr (4, [.ref kk, .ref nk, .ref nd, .ref ne, .ref nm, .ref nn, .int (nI (fi + 1)), .int (nI gl), .int 0, .int (nI mi), .int (nI no)])), (nk, .inl (y 0, 6, .inl (upd fk fi (nI an1)))), (nd, .inr (1, [.ref nl, .ref na, .ref ns, .int nst, .int ncl, .int nnu])), (nl, .inl (y 0, 6, .inl (upd nfl fi (nI an2))))] H := hP
        have hD : va_D A [(g, .inr (10, [.ref kk, .ref nw, .ref im, .ref kp, .ref tx, .ref tr, .ref be, .ref sh, .ref sd, .ref rf, .int ab, .int bl])), (rf, .inl (y 0, 3, .inl frf)), (nw, .inr (4, [.ref kk, .ref nk, .ref nd, .ref ne, .ref nm, .ref nn, .int (nI (fi + 1)), .int (nI gl), .int 0, .int (nI mi), .int (nI no)])), (nk, .inl (y 0, 6, .inl (upd fk fi (nI an1)))), (nd, .inr (1, [.ref nl, .ref na, .ref ns, .int nst, .int ncl, .int nnu])), (nl, .inl (y 0, 6, .inl (upd nfl fi (nI an2))))] := hD
        exact W.iret (v := (nI fi)) hx hb hr (fun tZ ht hW => ⟨⟨(nI fi), (), rfl, ⟨h20, rfl⟩, by rw [ht]; exact hP.sub [0, 1, 2, 3, 4, 5] rfl, hD.sub [0, 1, 2, 3, 4, 5] (by decide) rfl⟩, hS.F ht⟩) hS.2.2 dX10_field_47
      · skip
        have h16 : ¬ fi < 6 := fun q9 => h16 ((nI_ltI (a := fi) (b := 6) (by omega) (by omega)).mpr q9)
        exact absurd h16 (by omega)
    · skip
      exact absurd ⟨an2, by omega, by omega, rfl⟩ h14
  · skip
    exact absurd ⟨an1, by omega, rfl⟩ h7

set_option maxHeartbeats 4000000 in
set_option maxRecDepth 100000 in
theorem gy_field_ok (l : Launch) (D : va_G) (y : Nat → ClassId) (mo : Nat) (to : Nat) (ke : Nat) (ik : Nat) (mrf : Nat) (ha : Nat) (r0 : Nat) (mbr : Nat) (mbp : Nat) (mby : Nat) (an : Nat) (va : Nat) (mab : Int64) (mbl : Int64) (bl : Nat) (ta : Nat) (tl : Nat) (tk : Nat) (vv : Int32) (frf : Nat → Int32) (ft : Nat → Int32) (fi : Nat) (gl : Nat) (mi : Nat) (no : Nat) (un : Nat) (an1 : Nat) (an2 : Nat) (hk0_ : ft 0 = (nI fi)) (hk1_ : ft 1 = (nI gl)) (hk2_ : ft 2 = (nI mi)) (hk3_ : ft 3 = (nI no)) (hk4_ : ft 4 = (nI un)) (hkt : kr_t 228 ft) (hfi : fi ≤ 6) (hgl : gl ≤ 5) (hmi : mi ≤ 4) (hno : no ≤ 6) (hun : un ≤ 8) (hgf : (gl = 0 ∨ 0 < fi)) (hA2 : ¬ fi = 6) (hB0_ : an1 < 6) (hB1_ : an2 ≤ 60) : kw_Mi l yX11_field wsX11_field ({ frames := 3, cells := 0, slots := 0, locals := 105 }) D y [.ref mo, .int (nI an1), .int (nI an2)] [(mo, .inr (11, [.ref to, .ref ke, .ref ik, .ref mrf, .long mab, .long mbl, .ref ha, .ref r0, .ref mbr, .ref mbp, .ref mby, .int (nI bl), .int (nI ta), .int (nI tl), .int (nI tk), .int vv, .ref an, .ref va])), (mrf, .inl (y 0, 3, .inl frf)), (to, .inl (y 0, 228, .inl ft))] (fun (r : Int32) (u : Unit) => kr_t 228 (upd (upd (upd (upd ft (fi + 24) (nI an1)) (fi + 5) (nI an2)) 0 (nI (fi + 1))) 4 0) ∧ (upd (upd (upd (upd ft (fi + 24) (nI an1)) (fi + 5) (nI an2)) 0 (nI (fi + 1))) 4 0) 0 = (nI (fi + 1)) ∧ (upd (upd (upd (upd ft (fi + 24) (nI an1)) (fi + 5) (nI an2)) 0 (nI (fi + 1))) 4 0) 1 = (nI gl) ∧ (upd (upd (upd (upd ft (fi + 24) (nI an1)) (fi + 5) (nI an2)) 0 (nI (fi + 1))) 4 0) 2 = (nI mi) ∧ (upd (upd (upd (upd ft (fi + 24) (nI an1)) (fi + 5) (nI an2)) 0 (nI (fi + 1))) 4 0) 3 = (nI no) ∧ (upd (upd (upd (upd ft (fi + 24) (nI an1)) (fi + 5) (nI an2)) 0 (nI (fi + 1))) 4 0) 4 = 0 ∧ (gl = 0 ∨ 0 < (fi + 1)) ∧ r = (nI fi)) (fun _ => [(mo, .inr (11, [.ref to, .ref ke, .ref ik, .ref mrf, .long mab, .long mbl, .ref ha, .ref r0, .ref mbr, .ref mbp, .ref mby, .int (nI bl), .int (nI ta), .int (nI tl), .int (nI tk), .int vv, .ref an, .ref va])), (mrf, .inl (y 0, 3, .inl frf)), (to, .inl (y 0, 228, .inl (upd (upd (upd (upd ft (fi + 24) (nI an1)) (fi + 5) (nI an2)) 0 (nI (fi + 1))) 4 0)))]) 0 0 := by
  refine kw_Mi.of (cc := cX11_field) (maxL := 3) (ret := (some .int)) (by decide) rfl ?_
  intro pZ eZ s mZ beZ meZ cZ A hE
  obtain ⟨hx, hb, hr, hml, hts, hown, hlocks, hin, hA, hP, hD, hK, hN⟩ := hE
  have hS : va_S A s.heap s.heap [] := va_S.rf
  have hl := lv_entry ([.ref mo, .int (nI an1), .int (nI an2)]) (n := 3) (Nat.le_of_ble_eq_true rfl)
  rw [lg_entry_eq]
  generalize (lg_sl ([.ref mo, .int (nI an1), .int (nI an2)]) ++ List.replicate (3 - (lg_sl ([.ref mo, .int (nI an1), .int (nI an2)])).length) Slot.unset).toArray = ls at hl ⊢
  have hl : lv_has ls 3 [(0, .ref mo), (1, .int (nI an1)), (2, .int (nI an2))] := hl
  have fw1 := hts (.constantLong RX11 77 (5)) (List.mem_of_getElem? (i := 1) rfl)
  have fw2 := hts (.fieldLink RX11 7 "GleanDuskModel" "told" "[I") (List.mem_of_getElem? (i := 2) rfl)
  have iw11 : ∀ w ∈ wsX110, w ∈ wsX11_field := fun _ h => List.mem_cons_of_mem _ (List.mem_append_right _ h)
  refine lv_iload_n hx hb dX11_field_0 rfl (lv_at hl 1 rfl) ?_
  refine lv_i2l (v := (nI an1).toInt64) hx hb dX11_field_1 (rfl) ?_
  refine lv_lconst (v := 0) hx hb dX11_field_2 (by decide) ?_
  refine lv_ldc2 (v := 5) hx hb hown fw1 dX11_field_3 ?_
  have hs1 : kw_Split [(mo, .inr (11, [.ref to, .ref ke, .ref ik, .ref mrf, .long mab, .long mbl, .ref ha, .ref r0, .ref mbr, .ref mbp, .ref mby, .int (nI bl), .int (nI ta), .int (nI tl), .int (nI tk), .int vv, .ref an, .ref va])), (mrf, .inl (y 0, 3, .inl frf)), (to, .inl (y 0, 228, .inl ft))] [] [(mo, .inr (11, [.ref to, .ref ke, .ref ik, .ref mrf, .long mab, .long mbl, .ref ha, .ref r0, .ref mbr, .ref mbp, .ref mby, .int (nI bl), .int (nI ta), .int (nI tl), .int (nI tk), .int vv, .ref an, .ref va])), (mrf, .inl (y 0, 3, .inl frf)), (to, .inl (y 0, 228, .inl ft))] [] [0, 1, 2] := ⟨rfl, rfl, rfl, rfl, rfl, by decide⟩
  refine kw_go_i hs1 hP hD hS hA (va_runS (As := [.long ((nI an1).toInt64), .long 0, .long 5]) (rest := []) ⟨hx, hb, hml, hown, hts⟩ (gr_in l D y (nI an1) 0 5 (by omega) (by omega) _) (va_cwS 3 hts gX11_field_X11_in rfl rfl rfl (by decide +kernel) ⟨Nat.le_of_ble_eq_true rfl, Nat.le_of_ble_eq_true rfl⟩) (kw_PreS hs1 hP hD hK hN) rfl rfl hl.1 rfl (lv_room (Nat.le_of_ble_eq_true rfl)) dX11_field_6 ⟨Nat.le_of_ble_eq_true rfl, Nat.le_of_ble_eq_true rfl⟩) (fun r2 u3 H locs hq hP hD hS => ?_)
  rcases hq with ⟨j4, h5, h6, h7, rfl⟩ | ⟨h8, rfl⟩
  · skip
    have h7 : an1 = j4 := (nI_eq (a := an1) (b := j4) (by omega) (by omega)).mp h7
    have hP : va_P D vwCl [(mo, .inr (11, [.ref to, .ref ke, .ref ik, .ref mrf, .long mab, .long mbl, .ref ha, .ref r0, .ref mbr, .ref mbp, .ref mby, .int (nI bl), .int (nI ta), .int (nI tl), .int (nI tk), .int vv, .ref an, .ref va])), (mrf, .inl (y 0, 3, .inl frf)), (to, .inl (y 0, 228, .inl ft))] H := hP
    have hD : va_D A [(mo, .inr (11, [.ref to, .ref ke, .ref ik, .ref mrf, .long mab, .long mbl, .ref ha, .ref r0, .ref mbr, .ref mbp, .ref mby, .int (nI bl), .int (nI ta), .int (nI tl), .int (nI tk), .int vv, .ref an, .ref va])), (mrf, .inl (y 0, 3, .inl frf)), (to, .inl (y 0, 228, .inl ft))] := hD
    refine lv_if_eq (tgt := 19) hx hb dX11_field_9 (by decide) (fun h9 => absurd h9 (by decide)) (fun _ => ?_)
    refine lv_iload_n hx hb dX11_field_12 rfl (lv_at hl 2 rfl) ?_
    have hs9 : kw_Split [(mo, .inr (11, [.ref to, .ref ke, .ref ik, .ref mrf, .long mab, .long mbl, .ref ha, .ref r0, .ref mbr, .ref mbp, .ref mby, .int (nI bl), .int (nI ta), .int (nI tl), .int (nI tk), .int vv, .ref an, .ref va])), (mrf, .inl (y 0, 3, .inl frf)), (to, .inl (y 0, 228, .inl ft))] [] [(mo, .inr (11, [.ref to, .ref ke, .ref ik, .ref mrf, .long mab, .long mbl, .ref ha, .ref r0, .ref mbr, .ref mbp, .ref mby, .int (nI bl), .int (nI ta), .int (nI tl), .int (nI tk), .int vv, .ref an, .ref va])), (mrf, .inl (y 0, 3, .inl frf)), (to, .inl (y 0, 228, .inl ft))] [] [0, 1, 2] := ⟨rfl, rfl, rfl, rfl, rfl, by decide⟩
    refine kw_go_i hs9 hP hD hS hA (va_runS (As := [.int (nI an2)]) (rest := []) ⟨hx, hb, hml, hown, hts⟩ (gr_isLight l D y (nI an2)  _) (va_cwS 1 hts gX11_field_X11_isLight rfl rfl rfl (by decide +kernel) ⟨Nat.le_of_ble_eq_true rfl, Nat.le_of_ble_eq_true rfl⟩) (kw_PreS hs9 hP hD hK hN) rfl rfl hl.1 rfl (lv_room (Nat.le_of_ble_eq_true rfl)) dX11_field_13 ⟨Nat.le_of_ble_eq_true rfl, Nat.le_of_ble_eq_true rfl⟩) (fun r10 u11 H locs hq hP hD hS => ?_)
    rcases hq with ⟨j12, h13, h14, rfl⟩ | ⟨h15, rfl⟩
    · skip
      have h14 : an2 = j12 := (nI_eq (a := an2) (b := j12) (by omega) (by omega)).mp h14
      have hP : va_P D vwCl [(mo, .inr (11, [.ref to, .ref ke, .ref ik, .ref mrf, .long mab, .long mbl, .ref ha, .ref r0, .ref mbr, .ref mbp, .ref mby, .int (nI bl), .int (nI ta), .int (nI tl), .int (nI tk), .int vv, .ref an, .ref va])), (mrf, .inl (y 0, 3, .inl frf)), (to, .inl (y 0, 228, .inl ft))] H := hP
      have hD : va_D A [(mo, .inr (11, [.ref to, .ref ke, .ref ik, .ref mrf, .long mab, .long mbl, .ref ha, .ref r0, .ref mbr, .ref mbp, .ref mby, .int (nI bl), .int (nI ta), .int (nI tl), .int (nI tk), .int vv, .ref an, .ref va])), (mrf, .inl (y 0, 3, .inl frf)), (to, .inl (y 0, 228, .inl ft))] := hD
      refine lv_if_ne (tgt := 26) hx hb dX11_field_16 (by decide) (fun _ => ?_) (fun h9 => absurd h9 (by decide))
      refine lv_aload_n hx hb dX11_field_26 rfl (lv_at hl 0 rfl) ?_
      have hs16 : kw_Split [(mo, .inr (11, [.ref to, .ref ke, .ref ik, .ref mrf, .long mab, .long mbl, .ref ha, .ref r0, .ref mbr, .ref mbp, .ref mby, .int (nI bl), .int (nI ta), .int (nI tl), .int (nI tk), .int vv, .ref an, .ref va])), (mrf, .inl (y 0, 3, .inl frf)), (to, .inl (y 0, 228, .inl ft))] [(mo, .inr (11, [.ref to, .ref ke, .ref ik, .ref mrf, .long mab, .long mbl, .ref ha, .ref r0, .ref mbr, .ref mbp, .ref mby, .int (nI bl), .int (nI ta), .int (nI tl), .int (nI tk), .int vv, .ref an, .ref va])), (to, .inl (y 0, 228, .inl ft))] [(mrf, .inl (y 0, 3, .inl frf))] [0, 2] [1] := ⟨rfl, rfl, rfl, rfl, rfl, by decide⟩
      refine kw_go_i hs16 hP hD hS hA (va_runV (As := []) (rest := []) ⟨hx, hb, hml, hown, hts⟩ (gr_many l D y mo to ke ik mrf ha r0 mbr mbp mby an va mab mbl bl ta tl tk vv ft fi gl mi no un hk0_ hk1_ hk2_ hk3_ hk4_ hkt hfi hgl hmi hno hun _) (cwV 0 hts gX11_field_X11_many rfl rfl rfl (by decide +kernel) ⟨Nat.le_of_ble_eq_true rfl, Nat.le_of_ble_eq_true rfl⟩) (kw_PreV (ci := 11) (q0 := 0) hs16 hP hD hK hN rfl rfl) rfl rfl hl.1 rfl (lv_room (Nat.le_of_ble_eq_true rfl)) dX11_field_27 ⟨Nat.le_of_ble_eq_true rfl, Nat.le_of_ble_eq_true rfl⟩) (fun r17 u18 H locs hq hP hD hS => ?_)
      obtain rfl := hq
      have hP : va_P D vwCl [(mrf, .inl (y 0, 3, .inl frf)), (mo, .inr (11, [.ref to, .ref ke, .ref ik, .ref mrf, .long mab, .long mbl, .ref ha, .ref r0, .ref mbr, .ref mbp, .ref mby, .int (nI bl), .int (nI ta), .int (nI tl), .int (nI tk), .int vv, .ref an, .ref va])), (to, .inl (y 0, 228, .inl ft))] H := hP
      have hD : va_D A [(mrf, .inl (y 0, 3, .inl frf)), (mo, .inr (11, [.ref to, .ref ke, .ref ik, .ref mrf, .long mab, .long mbl, .ref ha, .ref r0, .ref mbr, .ref mbp, .ref mby, .int (nI bl), .int (nI ta), .int (nI tl), .int (nI tk), .int vv, .ref an, .ref va])), (to, .inl (y 0, 228, .inl ft))] := hD
      refine lv_bipush (v := 6) hx hb dX11_field_30 (by decide) ?_
      refine lv_icmp_ne (tgt := 40) hx hb dX11_field_32 (by decide) (fun h19 => ?_) (fun h20 => ?_)
      · skip
        have h19 : ¬ fi = 6 := fun q9 => h19 ((nI_eq (a := fi) (b := 6) (by omega) (by omega)).mpr q9)
        refine lv_aload_n hx hb dX11_field_40 rfl (lv_at hl 0 rfl) ?_
        refine va_get (D := D) (ci := 11) (v := .ref to) (C := RX11) (T := TX11) (N := 18) hx hb hts iw11 hown hK hP 1 rfl rfl 0 (by decide) fw2 (fun _ h9 => h9) rfl dX11_field_41 ?_
        refine lv_iload_n hx hb dX11_field_44 rfl (lv_at hl 1 rfl) ?_
        refine lv_iload_n hx hb dX11_field_45 rfl (lv_at hl 2 rfl) ?_
        have hs21 : kw_Split [(mrf, .inl (y 0, 3, .inl frf)), (mo, .inr (11, [.ref to, .ref ke, .ref ik, .ref mrf, .long mab, .long mbl, .ref ha, .ref r0, .ref mbr, .ref mbp, .ref mby, .int (nI bl), .int (nI ta), .int (nI tl), .int (nI tk), .int vv, .ref an, .ref va])), (to, .inl (y 0, 228, .inl ft))] [(to, .inl (y 0, 228, .inl ft))] [(mrf, .inl (y 0, 3, .inl frf)), (mo, .inr (11, [.ref to, .ref ke, .ref ik, .ref mrf, .long mab, .long mbl, .ref ha, .ref r0, .ref mbr, .ref mbp, .ref mby, .int (nI bl), .int (nI ta), .int (nI tl), .int (nI tk), .int vv, .ref an, .ref va]))] [2] [0, 1] := ⟨rfl, rfl, rfl, rfl, rfl, by decide⟩
        refine kw_go_v hs21 hP hD hS hA (va_runS (As := [.ref to, .int (nI an1), .int (nI an2)]) (rest := []) ⟨hx, hb, hml, hown, hts⟩ (gr_layField228 l D y to ft fi gl mi no un (nI an1) (nI an2) hk0_ hk1_ hk2_ hk3_ hk4_ hkt hfi hgl hmi hno hun (by omega) _) (va_cwS 3 hts gX11_field_X11_layField rfl rfl rfl (by decide +kernel) ⟨Nat.le_of_ble_eq_true rfl, Nat.le_of_ble_eq_true rfl⟩) (kw_PreS hs21 hP hD hK hN) rfl rfl hl.1 rfl (lv_room (Nat.le_of_ble_eq_true rfl)) dX11_field_46 ⟨Nat.le_of_ble_eq_true rfl, Nat.le_of_ble_eq_true rfl⟩) (fun u23 H locs hq hP hD hS => ?_)
        obtain ⟨h24, h25, h26, h27, h28, h29⟩ := hq
        have hP : va_P D vwCl [(mrf, .inl (y 0, 3, .inl frf)), (mo, .inr (11, [.ref to, .ref ke, .ref ik, .ref mrf, .long mab, .long mbl, .ref ha, .ref r0, .ref mbr, .ref mbp, .ref mby, .int (nI bl), .int (nI ta), .int (nI tl), .int (nI tk), .int vv, .ref an, .ref va])), (to, .inl (y 0, 228, .inl (upd (upd (upd ft (fi + 24) (nI an1)) (fi + 5) (nI an2)) 0 (nI (fi + 1)))))] H := hP
        have hD : va_D A [(mrf, .inl (y 0, 3, .inl frf)), (mo, .inr (11, [.ref to, .ref ke, .ref ik, .ref mrf, .long mab, .long mbl, .ref ha, .ref r0, .ref mbr, .ref mbp, .ref mby, .int (nI bl), .int (nI ta), .int (nI tl), .int (nI tk), .int vv, .ref an, .ref va])), (to, .inl (y 0, 228, .inl (upd (upd (upd ft (fi + 24) (nI an1)) (fi + 5) (nI an2)) 0 (nI (fi + 1)))))] := hD
        refine lv_aload_n hx hb dX11_field_49 rfl (lv_at hl 0 rfl) ?_
        refine va_get (D := D) (ci := 11) (v := .ref to) (C := RX11) (T := TX11) (N := 18) hx hb hts iw11 hown hK hP 1 rfl rfl 0 (by decide) fw2 (fun _ h9 => h9) rfl dX11_field_50 ?_
        refine lv_iconst (v := 4) hx hb dX11_field_53 (by decide) ?_
        refine lv_iconst (v := 0) hx hb dX11_field_54 (by decide) ?_
        refine va_iast hx hb hK hP hD hS 2 0 rfl rfl (by unfold vp_in; decide) dX11_field_55 (fun H locs hP hD hS => ?_)
        rw [show ((4 : Int32)).toNatClampNeg = 4 from rfl] at hP hD
        have hr30 : kr_t 228 (upd (upd (upd (upd ft (fi + 24) (nI an1)) (fi + 5) (nI an2)) 0 (nI (fi + 1))) 4 0) := kr_up h24 (kr_ok0)
        have hk31 : (upd (upd (upd (upd ft (fi + 24) (nI an1)) (fi + 5) (nI an2)) 0 (nI (fi + 1))) 4 0) 0 = (nI (fi + 1)) := (pk_un (by decide)).trans h25
        have hk32 : (upd (upd (upd (upd ft (fi + 24) (nI an1)) (fi + 5) (nI an2)) 0 (nI (fi + 1))) 4 0) 1 = (nI gl) := (pk_un (by decide)).trans h26
        have hk33 : (upd (upd (upd (upd ft (fi + 24) (nI an1)) (fi + 5) (nI an2)) 0 (nI (fi + 1))) 4 0) 2 = (nI mi) := (pk_un (by decide)).trans h27
        have hk34 : (upd (upd (upd (upd ft (fi + 24) (nI an1)) (fi + 5) (nI an2)) 0 (nI (fi + 1))) 4 0) 3 = (nI no) := (pk_un (by decide)).trans h28
        have hk35 : (upd (upd (upd (upd ft (fi + 24) (nI an1)) (fi + 5) (nI an2)) 0 (nI (fi + 1))) 4 0) 4 = 0 := pk_us
        have hP : va_P D vwCl [(mrf, .inl (y 0, 3, .inl frf)), (mo, .inr (11, [.ref to, .ref ke, .ref ik, .ref mrf, .long mab, .long mbl, .ref ha, .ref r0, .ref mbr, .ref mbp, .ref mby, .int (nI bl), .int (nI ta), .int (nI tl), .int (nI tk), .int vv, .ref an, .ref va])), (to, .inl (y 0, 228, .inl (upd (upd (upd (upd ft (fi + 24) (nI an1)) (fi + 5) (nI an2)) 0 (nI (fi + 1))) 4 0)))] H := hP
        have hD : va_D A [(mrf, .inl (y 0, 3, .inl frf)), (mo, .inr (11, [.ref to, .ref ke, .ref ik, .ref mrf, .long mab, .long mbl, .ref ha, .ref r0, .ref mbr, .ref mbp, .ref mby, .int (nI bl), .int (nI ta), .int (nI tl), .int (nI tk), .int vv, .ref an, .ref va])), (to, .inl (y 0, 228, .inl (upd (upd (upd (upd ft (fi + 24) (nI an1)) (fi + 5) (nI an2)) 0 (nI (fi + 1))) 4 0)))] := hD
        refine lv_aload_n hx hb dX11_field_56 rfl (lv_at hl 0 rfl) ?_
        have hs36 : kw_Split [(mrf, .inl (y 0, 3, .inl frf)), (mo, .inr (11, [.ref to, .ref ke, .ref ik, .ref mrf, .long mab, .long mbl, .ref ha, .ref r0, .ref mbr, .ref mbp, .ref mby, .int (nI bl), .int (nI ta), .int (nI tl), .int (nI tk), .int vv, .ref an, .ref va])), (to, .inl (y 0, 228, .inl (upd (upd (upd (upd ft (fi + 24) (nI an1)) (fi + 5) (nI an2)) 0 (nI (fi + 1))) 4 0)))] [(mo, .inr (11, [.ref to, .ref ke, .ref ik, .ref mrf, .long mab, .long mbl, .ref ha, .ref r0, .ref mbr, .ref mbp, .ref mby, .int (nI bl), .int (nI ta), .int (nI tl), .int (nI tk), .int vv, .ref an, .ref va])), (to, .inl (y 0, 228, .inl (upd (upd (upd (upd ft (fi + 24) (nI an1)) (fi + 5) (nI an2)) 0 (nI (fi + 1))) 4 0)))] [(mrf, .inl (y 0, 3, .inl frf))] [1, 2] [0] := ⟨rfl, rfl, rfl, rfl, rfl, by decide⟩
        refine kw_go_i hs36 hP hD hS hA (va_runV (As := []) (rest := []) ⟨hx, hb, hml, hown, hts⟩ (gr_many l D y mo to ke ik mrf ha r0 mbr mbp mby an va mab mbl bl ta tl tk vv (upd (upd (upd (upd ft (fi + 24) (nI an1)) (fi + 5) (nI an2)) 0 (nI (fi + 1))) 4 0) (fi + 1) gl mi no 0 hk31 hk32 hk33 hk34 hk35 hr30 (by omega) hgl hmi hno (by omega) _) (cwV 0 hts gX11_field_X11_many rfl rfl rfl (by decide +kernel) ⟨Nat.le_of_ble_eq_true rfl, Nat.le_of_ble_eq_true rfl⟩) (kw_PreV (ci := 11) (q0 := 1) hs36 hP hD hK hN rfl rfl) rfl rfl hl.1 rfl (lv_room (Nat.le_of_ble_eq_true rfl)) dX11_field_57 ⟨Nat.le_of_ble_eq_true rfl, Nat.le_of_ble_eq_true rfl⟩) (fun r37 u38 H locs hq hP hD hS => ?_)
        obtain rfl := hq
        have hP : va_P D vwCl [(mrf, .inl (y 0, 3, .inl frf)), (mo, .inr (11, [.ref to, .ref ke, .ref ik, .ref mrf, .long mab, .long mbl, .ref ha, .ref r0, .ref mbr, .ref mbp, .ref mby, .int (nI bl), .int (nI ta), .int (nI tl), .int (nI tk), .int vv, .ref an, .ref va])), (to, .inl (y 0, 228, .inl (upd (upd (upd (upd ft (fi + 24) (nI an1)) (fi + 5) (nI an2)) 0 (nI (fi + 1))) 4 0)))] H := hP
        have hD : va_D A [(mrf, .inl (y 0, 3, .inl frf)), (mo, .inr (11, [.ref to, .ref ke, .ref ik, .ref mrf, .long mab, .long mbl, .ref ha, .ref r0, .ref mbr, .ref mbp, .ref mby, .int (nI bl), .int (nI ta), .int (nI tl), .int (nI tk), .int vv, .ref an, .ref va])), (to, .inl (y 0, 228, .inl (upd (upd (upd (upd ft (fi + 24) (nI an1)) (fi + 5) (nI an2)) 0 (nI (fi + 1))) 4 0)))] := hD
        refine lv_iconst (v := 1) hx hb dX11_field_60 (by decide) ?_
        refine lv_isub hx hb dX11_field_61 ?_
        rw [show (nI (fi + 1)) - 1 = nI (fi) from pk_sub (a := (fi + 1)) (b := 1) (by omega)]
        exact W.iret (v := (nI fi)) hx hb hr (fun tZ ht hW => ⟨⟨(nI fi), (), rfl, ⟨hr30, hk31, hk32, hk33, hk34, hk35, by first | omega | (dsimp only; omega), rfl⟩, by rw [ht]; exact hP.sub [1, 0, 2] rfl, hD.sub [1, 0, 2] (by decide) rfl⟩, hS.F ht⟩) hS.2.2 dX11_field_62
      · skip
        have h20 : fi = 6 := (nI_eq (a := fi) (b := 6) (by omega) (by omega)).mp h20
        exact absurd h20 (by omega)
    · skip
      exact absurd ⟨an2, by omega, by omega, rfl⟩ h15
  · skip
    exact absurd ⟨an1, by omega, by omega, rfl⟩ h8

set_option maxHeartbeats 4000000 in
set_option maxRecDepth 100000 in
theorem gx_gleaner_full (l : Launch) (D : va_G) (y : Nat → ClassId) (g : Nat) (kk : Nat) (nw : Nat) (im : Nat) (kp : Nat) (tx : Nat) (tr : Nat) (be : Nat) (sh : Nat) (sd : Nat) (rf : Nat) (ab : Int32) (bl : Int32) (frf : Nat → Int32) (nk : Nat) (nd : Nat) (ne : Nat) (nm : Nat) (nn : Nat) (fi : Nat) (gl : Nat) (un : Nat) (mi : Nat) (no : Nat) (an1 : Nat) (hfi : fi ≤ 6) (hgl : gl ≤ 5) (hun : un ≤ 8) (hmi : mi ≤ 4) (hno : no ≤ 6) (hA2 : 5 ≤ gl) (hB0_ : an1 < fi) : kw_Mi l yX10_gleaner wsX10_gleaner ({ frames := 3, cells := 0, slots := 0, locals := 102 }) D y [.ref g, .int (nI an1)] [(g, .inr (10, [.ref kk, .ref nw, .ref im, .ref kp, .ref tx, .ref tr, .ref be, .ref sh, .ref sd, .ref rf, .int ab, .int bl])), (rf, .inl (y 0, 3, .inl frf)), (nw, .inr (4, [.ref kk, .ref nk, .ref nd, .ref ne, .ref nm, .ref nn, .int (nI fi), .int (nI gl), .int (nI un), .int (nI mi), .int (nI no)]))] (fun (r : Int32) (u : Unit) => r = (-4)) (fun _ => [(g, .inr (10, [.ref kk, .ref nw, .ref im, .ref kp, .ref tx, .ref tr, .ref be, .ref sh, .ref sd, .ref rf, .int ab, .int bl])), (rf, .inl (y 0, 3, .inl (upd frf 2 ((frf 2) + 1)))), (nw, .inr (4, [.ref kk, .ref nk, .ref nd, .ref ne, .ref nm, .ref nn, .int (nI fi), .int (nI gl), .int (nI un), .int (nI mi), .int (nI no)]))]) 0 0 := by
  refine kw_Mi.of (cc := cX10_gleaner) (maxL := 2) (ret := (some .int)) (by decide) rfl ?_
  intro pZ eZ s mZ beZ meZ cZ A hE
  obtain ⟨hx, hb, hr, hml, hts, hown, hlocks, hin, hA, hP, hD, hK, hN⟩ := hE
  have hS : va_S A s.heap s.heap [] := va_S.rf
  have hl := lv_entry ([.ref g, .int (nI an1)]) (n := 2) (Nat.le_of_ble_eq_true rfl)
  rw [lg_entry_eq]
  generalize (lg_sl ([.ref g, .int (nI an1)]) ++ List.replicate (2 - (lg_sl ([.ref g, .int (nI an1)])).length) Slot.unset).toArray = ls at hl ⊢
  have hl : lv_has ls 2 [(0, .ref g), (1, .int (nI an1))] := hl
  have fw1 := hts (.fieldLink RX10 36 "GleanDusk" "now" "LGleanDusk$Parish;") (List.mem_of_getElem? (i := 1) rfl)
  have fw2 := hts (.fieldLink RX10 115 "GleanDusk$Parish" "gleaners" "I") (List.mem_of_getElem? (i := 2) rfl)
  have iw10 : ∀ w ∈ wsX100, w ∈ wsX10_gleaner := fun _ h => List.mem_cons_of_mem _ (List.mem_append_left _ (List.mem_append_left _ (List.mem_append_right _ h)))
  have iw4 : ∀ w ∈ wsX40, w ∈ wsX10_gleaner := fun _ h => List.mem_cons_of_mem _ (List.mem_append_left _ (List.mem_append_right _ h))
  refine lv_aload_n hx hb dX10_gleaner_0 rfl (lv_at hl 0 rfl) ?_
  refine va_get (D := D) (ci := 10) (v := .ref nw) (C := RX10) (T := TX10) (N := 12) hx hb hts iw10 hown hK hP 0 rfl rfl 1 (by decide) fw1 (fun _ h9 => h9) rfl dX10_gleaner_1 ?_
  refine lv_iload_n hx hb dX10_gleaner_4 rfl (lv_at hl 1 rfl) ?_
  have hs1 : kw_Split [(g, .inr (10, [.ref kk, .ref nw, .ref im, .ref kp, .ref tx, .ref tr, .ref be, .ref sh, .ref sd, .ref rf, .int ab, .int bl])), (rf, .inl (y 0, 3, .inl frf)), (nw, .inr (4, [.ref kk, .ref nk, .ref nd, .ref ne, .ref nm, .ref nn, .int (nI fi), .int (nI gl), .int (nI un), .int (nI mi), .int (nI no)]))] [(nw, .inr (4, [.ref kk, .ref nk, .ref nd, .ref ne, .ref nm, .ref nn, .int (nI fi), .int (nI gl), .int (nI un), .int (nI mi), .int (nI no)]))] [(g, .inr (10, [.ref kk, .ref nw, .ref im, .ref kp, .ref tx, .ref tr, .ref be, .ref sh, .ref sd, .ref rf, .int ab, .int bl])), (rf, .inl (y 0, 3, .inl frf))] [2] [0, 1] := ⟨rfl, rfl, rfl, rfl, rfl, by decide⟩
  refine kw_go_i hs1 hP hD hS hA (va_runV (As := [.int (nI an1)]) (rest := []) ⟨hx, hb, hml, hown, hts⟩ (gc_hasField l D y nw kk nk nd ne nm nn fi gl un mi no (nI an1) hfi hgl hun hmi hno _) (cwV 1 hts gX10_gleaner_X4_hasField rfl rfl rfl (by decide +kernel) ⟨Nat.le_of_ble_eq_true rfl, Nat.le_of_ble_eq_true rfl⟩) (kw_PreV (ci := 4) (q0 := 2) hs1 hP hD hK hN rfl rfl) rfl rfl hl.1 rfl (lv_room (Nat.le_of_ble_eq_true rfl)) dX10_gleaner_5 ⟨Nat.le_of_ble_eq_true rfl, Nat.le_of_ble_eq_true rfl⟩) (fun r2 u3 H locs hq hP hD hS => ?_)
  rcases hq with ⟨j4, h5, h6, rfl⟩ | ⟨h7, rfl⟩
  · skip
    have h6 : an1 = j4 := (nI_eq (a := an1) (b := j4) (by omega) (by omega)).mp h6
    have hP : va_P D vwCl [(g, .inr (10, [.ref kk, .ref nw, .ref im, .ref kp, .ref tx, .ref tr, .ref be, .ref sh, .ref sd, .ref rf, .int ab, .int bl])), (rf, .inl (y 0, 3, .inl frf)), (nw, .inr (4, [.ref kk, .ref nk, .ref nd, .ref ne, .ref nm, .ref nn, .int (nI fi), .int (nI gl), .int (nI un), .int (nI mi), .int (nI no)]))] H := hP
    have hD : va_D A [(g, .inr (10, [.ref kk, .ref nw, .ref im, .ref kp, .ref tx, .ref tr, .ref be, .ref sh, .ref sd, .ref rf, .int ab, .int bl])), (rf, .inl (y 0, 3, .inl frf)), (nw, .inr (4, [.ref kk, .ref nk, .ref nd, .ref ne, .ref nm, .ref nn, .int (nI fi), .int (nI gl), .int (nI un), .int (nI mi), .int (nI no)]))] := hD
    refine lv_if_ne (tgt := 16) hx hb dX10_gleaner_8 (by decide) (fun _ => ?_) (fun h9 => absurd h9 (by decide))
    refine lv_aload_n hx hb dX10_gleaner_16 rfl (lv_at hl 0 rfl) ?_
    refine va_get (D := D) (ci := 10) (v := .ref nw) (C := RX10) (T := TX10) (N := 12) hx hb hts iw10 hown hK hP 0 rfl rfl 1 (by decide) fw1 (fun _ h9 => h9) rfl dX10_gleaner_17 ?_
    refine va_get (D := D) (ci := 4) (v := .int (nI gl)) (C := RX4) (T := TX4) (N := 11) hx hb hts iw4 hown hK hP 2 rfl rfl 7 (by decide) fw2 (fun _ h9 => h9) rfl dX10_gleaner_20 ?_
    refine lv_iconst (v := 5) hx hb dX10_gleaner_23 (by decide) ?_
    refine lv_icmp_lt (tgt := 32) hx hb dX10_gleaner_24 (by decide) (fun h8 => ?_) (fun h9 => ?_)
    · skip
      have h8 : gl < 5 := (nI_ltI (a := gl) (b := 5) (by omega) (by omega)).mp h8
      exact absurd h8 (by omega)
    · skip
      have h9 : ¬ gl < 5 := fun q9 => h9 ((nI_ltI (a := gl) (b := 5) (by omega) (by omega)).mpr q9)
      refine lv_aload_n hx hb dX10_gleaner_27 rfl (lv_at hl 0 rfl) ?_
      have hs10 : kw_Split [(g, .inr (10, [.ref kk, .ref nw, .ref im, .ref kp, .ref tx, .ref tr, .ref be, .ref sh, .ref sd, .ref rf, .int ab, .int bl])), (rf, .inl (y 0, 3, .inl frf)), (nw, .inr (4, [.ref kk, .ref nk, .ref nd, .ref ne, .ref nm, .ref nn, .int (nI fi), .int (nI gl), .int (nI un), .int (nI mi), .int (nI no)]))] [(g, .inr (10, [.ref kk, .ref nw, .ref im, .ref kp, .ref tx, .ref tr, .ref be, .ref sh, .ref sd, .ref rf, .int ab, .int bl])), (rf, .inl (y 0, 3, .inl frf))] [(nw, .inr (4, [.ref kk, .ref nk, .ref nd, .ref ne, .ref nm, .ref nn, .int (nI fi), .int (nI gl), .int (nI un), .int (nI mi), .int (nI no)]))] [0, 1] [2] := ⟨rfl, rfl, rfl, rfl, rfl, by decide⟩
      refine kw_go_i hs10 hP hD hS hA (va_runV (As := []) (rest := []) ⟨hx, hb, hml, hown, hts⟩ (gc_refuseFull l D y g kk nw im kp tx tr be sh sd rf ab bl frf  _) (cwV 0 hts gX10_gleaner_X10_refuseFull rfl rfl rfl (by decide +kernel) ⟨Nat.le_of_ble_eq_true rfl, Nat.le_of_ble_eq_true rfl⟩) (kw_PreV (ci := 10) (q0 := 0) hs10 hP hD hK hN rfl rfl) rfl rfl hl.1 rfl (lv_room (Nat.le_of_ble_eq_true rfl)) dX10_gleaner_28 ⟨Nat.le_of_ble_eq_true rfl, Nat.le_of_ble_eq_true rfl⟩) (fun r11 u12 H locs hq hP hD hS => ?_)
      obtain rfl := hq
      have hP : va_P D vwCl [(nw, .inr (4, [.ref kk, .ref nk, .ref nd, .ref ne, .ref nm, .ref nn, .int (nI fi), .int (nI gl), .int (nI un), .int (nI mi), .int (nI no)])), (g, .inr (10, [.ref kk, .ref nw, .ref im, .ref kp, .ref tx, .ref tr, .ref be, .ref sh, .ref sd, .ref rf, .int ab, .int bl])), (rf, .inl (y 0, 3, .inl (upd frf 2 ((frf 2) + 1))))] H := hP
      have hD : va_D A [(nw, .inr (4, [.ref kk, .ref nk, .ref nd, .ref ne, .ref nm, .ref nn, .int (nI fi), .int (nI gl), .int (nI un), .int (nI mi), .int (nI no)])), (g, .inr (10, [.ref kk, .ref nw, .ref im, .ref kp, .ref tx, .ref tr, .ref be, .ref sh, .ref sd, .ref rf, .int ab, .int bl])), (rf, .inl (y 0, 3, .inl (upd frf 2 ((frf 2) + 1))))] := hD
      exact W.iret (v := (-4)) hx hb hr (fun tZ ht hW => ⟨⟨(-4), (), rfl, rfl, by rw [ht]; exact hP.sub [1, 2, 0] rfl, hD.sub [1, 2, 0] (by decide) rfl⟩, hS.F ht⟩) hS.2.2 dX10_gleaner_31
  · skip
    exact absurd ⟨an1, by omega, rfl⟩ h7

set_option maxHeartbeats 4000000 in
set_option maxRecDepth 100000 in
theorem gy_gleaner_full (l : Launch) (D : va_G) (y : Nat → ClassId) (mo : Nat) (to : Nat) (ke : Nat) (ik : Nat) (mrf : Nat) (ha : Nat) (r0 : Nat) (mbr : Nat) (mbp : Nat) (mby : Nat) (an : Nat) (va : Nat) (mab : Int64) (mbl : Int64) (bl : Nat) (ta : Nat) (tl : Nat) (tk : Nat) (vv : Int32) (frf : Nat → Int32) (ft : Nat → Int32) (fi : Nat) (gl : Nat) (mi : Nat) (no : Nat) (un : Nat) (an1 : Nat) (hk0_ : ft 0 = (nI fi)) (hk1_ : ft 1 = (nI gl)) (hk2_ : ft 2 = (nI mi)) (hk3_ : ft 3 = (nI no)) (hk4_ : ft 4 = (nI un)) (hkt : kr_t 228 ft) (hfi : fi ≤ 6) (hgl : gl ≤ 5) (hmi : mi ≤ 4) (hno : no ≤ 6) (hun : un ≤ 8) (hgf : (gl = 0 ∨ 0 < fi)) (hA2 : gl = 5) (hB0_ : an1 < fi) : kw_Mi l yX11_gleaner wsX11_gleaner ({ frames := 3, cells := 0, slots := 0, locals := 106 }) D y [.ref mo, .int (nI an1)] [(mo, .inr (11, [.ref to, .ref ke, .ref ik, .ref mrf, .long mab, .long mbl, .ref ha, .ref r0, .ref mbr, .ref mbp, .ref mby, .int (nI bl), .int (nI ta), .int (nI tl), .int (nI tk), .int vv, .ref an, .ref va])), (mrf, .inl (y 0, 3, .inl frf)), (to, .inl (y 0, 228, .inl ft))] (fun (r : Int32) (u : Unit) => (gl = 0 ∨ 0 < fi) ∧ r = (-4)) (fun _ => [(mo, .inr (11, [.ref to, .ref ke, .ref ik, .ref mrf, .long mab, .long mbl, .ref ha, .ref r0, .ref mbr, .ref mbp, .ref mby, .int (nI bl), .int (nI ta), .int (nI tl), .int (nI tk), .int vv, .ref an, .ref va])), (mrf, .inl (y 0, 3, .inl (upd frf 2 ((frf 2) + 1)))), (to, .inl (y 0, 228, .inl ft))]) 0 0 := by
  refine kw_Mi.of (cc := cX11_gleaner) (maxL := 2) (ret := (some .int)) (by decide) rfl ?_
  intro pZ eZ s mZ beZ meZ cZ A hE
  obtain ⟨hx, hb, hr, hml, hts, hown, hlocks, hin, hA, hP, hD, hK, hN⟩ := hE
  have hS : va_S A s.heap s.heap [] := va_S.rf
  have hl := lv_entry ([.ref mo, .int (nI an1)]) (n := 2) (Nat.le_of_ble_eq_true rfl)
  rw [lg_entry_eq]
  generalize (lg_sl ([.ref mo, .int (nI an1)]) ++ List.replicate (2 - (lg_sl ([.ref mo, .int (nI an1)])).length) Slot.unset).toArray = ls at hl ⊢
  have hl : lv_has ls 2 [(0, .ref mo), (1, .int (nI an1))] := hl
  refine lv_aload_n hx hb dX11_gleaner_0 rfl (lv_at hl 0 rfl) ?_
  refine lv_iload_n hx hb dX11_gleaner_1 rfl (lv_at hl 1 rfl) ?_
  have hs1 : kw_Split [(mo, .inr (11, [.ref to, .ref ke, .ref ik, .ref mrf, .long mab, .long mbl, .ref ha, .ref r0, .ref mbr, .ref mbp, .ref mby, .int (nI bl), .int (nI ta), .int (nI tl), .int (nI tk), .int vv, .ref an, .ref va])), (mrf, .inl (y 0, 3, .inl frf)), (to, .inl (y 0, 228, .inl ft))] [(mo, .inr (11, [.ref to, .ref ke, .ref ik, .ref mrf, .long mab, .long mbl, .ref ha, .ref r0, .ref mbr, .ref mbp, .ref mby, .int (nI bl), .int (nI ta), .int (nI tl), .int (nI tk), .int vv, .ref an, .ref va])), (to, .inl (y 0, 228, .inl ft))] [(mrf, .inl (y 0, 3, .inl frf))] [0, 2] [1] := ⟨rfl, rfl, rfl, rfl, rfl, by decide⟩
  refine kw_go_i hs1 hP hD hS hA (va_runV (As := [.int (nI an1)]) (rest := []) ⟨hx, hb, hml, hown, hts⟩ (gr_isField l D y mo to ke ik mrf ha r0 mbr mbp mby an va mab mbl bl ta tl tk vv ft fi gl mi no un (nI an1) hk0_ hk1_ hk2_ hk3_ hk4_ hkt hfi hgl hmi hno hun _) (cwV 1 hts gX11_gleaner_X11_isField rfl rfl rfl (by decide +kernel) ⟨Nat.le_of_ble_eq_true rfl, Nat.le_of_ble_eq_true rfl⟩) (kw_PreV (ci := 11) (q0 := 0) hs1 hP hD hK hN rfl rfl) rfl rfl hl.1 rfl (lv_room (Nat.le_of_ble_eq_true rfl)) dX11_gleaner_2 ⟨Nat.le_of_ble_eq_true rfl, Nat.le_of_ble_eq_true rfl⟩) (fun r2 u3 H locs hq hP hD hS => ?_)
  rcases hq with ⟨j4, h5, h6, rfl⟩ | ⟨h7, rfl⟩
  · skip
    have h6 : an1 = j4 := (nI_eq (a := an1) (b := j4) (by omega) (by omega)).mp h6
    have hP : va_P D vwCl [(mrf, .inl (y 0, 3, .inl frf)), (mo, .inr (11, [.ref to, .ref ke, .ref ik, .ref mrf, .long mab, .long mbl, .ref ha, .ref r0, .ref mbr, .ref mbp, .ref mby, .int (nI bl), .int (nI ta), .int (nI tl), .int (nI tk), .int vv, .ref an, .ref va])), (to, .inl (y 0, 228, .inl ft))] H := hP
    have hD : va_D A [(mrf, .inl (y 0, 3, .inl frf)), (mo, .inr (11, [.ref to, .ref ke, .ref ik, .ref mrf, .long mab, .long mbl, .ref ha, .ref r0, .ref mbr, .ref mbp, .ref mby, .int (nI bl), .int (nI ta), .int (nI tl), .int (nI tk), .int vv, .ref an, .ref va])), (to, .inl (y 0, 228, .inl ft))] := hD
    refine lv_if_ne (tgt := 15) hx hb dX11_gleaner_5 (by decide) (fun _ => ?_) (fun h9 => absurd h9 (by decide))
    refine lv_aload_n hx hb dX11_gleaner_15 rfl (lv_at hl 0 rfl) ?_
    have hs8 : kw_Split [(mrf, .inl (y 0, 3, .inl frf)), (mo, .inr (11, [.ref to, .ref ke, .ref ik, .ref mrf, .long mab, .long mbl, .ref ha, .ref r0, .ref mbr, .ref mbp, .ref mby, .int (nI bl), .int (nI ta), .int (nI tl), .int (nI tk), .int vv, .ref an, .ref va])), (to, .inl (y 0, 228, .inl ft))] [(mo, .inr (11, [.ref to, .ref ke, .ref ik, .ref mrf, .long mab, .long mbl, .ref ha, .ref r0, .ref mbr, .ref mbp, .ref mby, .int (nI bl), .int (nI ta), .int (nI tl), .int (nI tk), .int vv, .ref an, .ref va])), (to, .inl (y 0, 228, .inl ft))] [(mrf, .inl (y 0, 3, .inl frf))] [1, 2] [0] := ⟨rfl, rfl, rfl, rfl, rfl, by decide⟩
    refine kw_go_i hs8 hP hD hS hA (va_runV (As := []) (rest := []) ⟨hx, hb, hml, hown, hts⟩ (gr_manyGleaners l D y mo to ke ik mrf ha r0 mbr mbp mby an va mab mbl bl ta tl tk vv ft fi gl mi no un hk0_ hk1_ hk2_ hk3_ hk4_ hkt hfi hgl hmi hno hun _) (cwV 0 hts gX11_gleaner_X11_manyGleaners rfl rfl rfl (by decide +kernel) ⟨Nat.le_of_ble_eq_true rfl, Nat.le_of_ble_eq_true rfl⟩) (kw_PreV (ci := 11) (q0 := 1) hs8 hP hD hK hN rfl rfl) rfl rfl hl.1 rfl (lv_room (Nat.le_of_ble_eq_true rfl)) dX11_gleaner_16 ⟨Nat.le_of_ble_eq_true rfl, Nat.le_of_ble_eq_true rfl⟩) (fun r9 u10 H locs hq hP hD hS => ?_)
    obtain rfl := hq
    have hP : va_P D vwCl [(mrf, .inl (y 0, 3, .inl frf)), (mo, .inr (11, [.ref to, .ref ke, .ref ik, .ref mrf, .long mab, .long mbl, .ref ha, .ref r0, .ref mbr, .ref mbp, .ref mby, .int (nI bl), .int (nI ta), .int (nI tl), .int (nI tk), .int vv, .ref an, .ref va])), (to, .inl (y 0, 228, .inl ft))] H := hP
    have hD : va_D A [(mrf, .inl (y 0, 3, .inl frf)), (mo, .inr (11, [.ref to, .ref ke, .ref ik, .ref mrf, .long mab, .long mbl, .ref ha, .ref r0, .ref mbr, .ref mbp, .ref mby, .int (nI bl), .int (nI ta), .int (nI tl), .int (nI tk), .int vv, .ref an, .ref va])), (to, .inl (y 0, 228, .inl ft))] := hD
    refine lv_iconst (v := 5) hx hb dX11_gleaner_19 (by decide) ?_
    refine lv_icmp_ne (tgt := 28) hx hb dX11_gleaner_20 (by decide) (fun h11 => ?_) (fun h12 => ?_)
    · skip
      have h11 : ¬ gl = 5 := fun q9 => h11 ((nI_eq (a := gl) (b := 5) (by omega) (by omega)).mpr q9)
      exact absurd h11 (by omega)
    · skip
      have h12 : gl = 5 := (nI_eq (a := gl) (b := 5) (by omega) (by omega)).mp h12
      refine lv_aload_n hx hb dX11_gleaner_23 rfl (lv_at hl 0 rfl) ?_
      have hs13 : kw_Split [(mrf, .inl (y 0, 3, .inl frf)), (mo, .inr (11, [.ref to, .ref ke, .ref ik, .ref mrf, .long mab, .long mbl, .ref ha, .ref r0, .ref mbr, .ref mbp, .ref mby, .int (nI bl), .int (nI ta), .int (nI tl), .int (nI tk), .int vv, .ref an, .ref va])), (to, .inl (y 0, 228, .inl ft))] [(mo, .inr (11, [.ref to, .ref ke, .ref ik, .ref mrf, .long mab, .long mbl, .ref ha, .ref r0, .ref mbr, .ref mbp, .ref mby, .int (nI bl), .int (nI ta), .int (nI tl), .int (nI tk), .int vv, .ref an, .ref va])), (mrf, .inl (y 0, 3, .inl frf))] [(to, .inl (y 0, 228, .inl ft))] [1, 0] [2] := ⟨rfl, rfl, rfl, rfl, rfl, by decide⟩
      refine kw_go_i hs13 hP hD hS hA (va_runV (As := []) (rest := []) ⟨hx, hb, hml, hown, hts⟩ (gr_full l D y mo to ke ik mrf ha r0 mbr mbp mby an va mab mbl bl ta tl tk vv frf  _) (cwV 0 hts gX11_gleaner_X11_full rfl rfl rfl (by decide +kernel) ⟨Nat.le_of_ble_eq_true rfl, Nat.le_of_ble_eq_true rfl⟩) (kw_PreV (ci := 11) (q0 := 1) hs13 hP hD hK hN rfl rfl) rfl rfl hl.1 rfl (lv_room (Nat.le_of_ble_eq_true rfl)) dX11_gleaner_24 ⟨Nat.le_of_ble_eq_true rfl, Nat.le_of_ble_eq_true rfl⟩) (fun r14 u15 H locs hq hP hD hS => ?_)
      obtain rfl := hq
      have hP : va_P D vwCl [(to, .inl (y 0, 228, .inl ft)), (mo, .inr (11, [.ref to, .ref ke, .ref ik, .ref mrf, .long mab, .long mbl, .ref ha, .ref r0, .ref mbr, .ref mbp, .ref mby, .int (nI bl), .int (nI ta), .int (nI tl), .int (nI tk), .int vv, .ref an, .ref va])), (mrf, .inl (y 0, 3, .inl (upd frf 2 ((frf 2) + 1))))] H := hP
      have hD : va_D A [(to, .inl (y 0, 228, .inl ft)), (mo, .inr (11, [.ref to, .ref ke, .ref ik, .ref mrf, .long mab, .long mbl, .ref ha, .ref r0, .ref mbr, .ref mbp, .ref mby, .int (nI bl), .int (nI ta), .int (nI tl), .int (nI tk), .int vv, .ref an, .ref va])), (mrf, .inl (y 0, 3, .inl (upd frf 2 ((frf 2) + 1))))] := hD
      exact W.iret (v := (-4)) hx hb hr (fun tZ ht hW => ⟨⟨(-4), (), rfl, ⟨by first | omega | (dsimp only; omega), rfl⟩, by rw [ht]; exact hP.sub [1, 2, 0] rfl, hD.sub [1, 2, 0] (by decide) rfl⟩, hS.F ht⟩) hS.2.2 dX11_gleaner_27
  · skip
    exact absurd ⟨an1, by omega, rfl⟩ h7

set_option maxHeartbeats 4000000 in
set_option maxRecDepth 100000 in
theorem gx_gleaner_ok (l : Launch) (D : va_G) (y : Nat → ClassId) (g : Nat) (kk : Nat) (nw : Nat) (im : Nat) (kp : Nat) (tx : Nat) (tr : Nat) (be : Nat) (sh : Nat) (sd : Nat) (rf : Nat) (ab : Int32) (bl : Int32) (frf : Nat → Int32) (nk : Nat) (nd : Nat) (ne : Nat) (nm : Nat) (nn : Nat) (fi : Nat) (gl : Nat) (un : Nat) (mi : Nat) (no : Nat) (nd : Nat) (nl : Nat) (na : Nat) (ns : Nat) (nst : Int32) (ncl : Int32) (nnu : Int32) (nfa : Nat → Int32) (nfs : Nat → Int32) (an1 : Nat) (hfi : fi ≤ 6) (hgl : gl ≤ 5) (hun : un ≤ 8) (hmi : mi ≤ 4) (hno : no ≤ 6) (hna : kw_bd 6 5 nfa) (hA2 : gl < 5) (hB0_ : an1 < fi) : kw_Mi l yX10_gleaner wsX10_gleaner ({ frames := 3, cells := 0, slots := 0, locals := 102 }) D y [.ref g, .int (nI an1)] [(g, .inr (10, [.ref kk, .ref nw, .ref im, .ref kp, .ref tx, .ref tr, .ref be, .ref sh, .ref sd, .ref rf, .int ab, .int bl])), (rf, .inl (y 0, 3, .inl frf)), (nw, .inr (4, [.ref kk, .ref nk, .ref nd, .ref ne, .ref nm, .ref nn, .int (nI fi), .int (nI gl), .int (nI un), .int (nI mi), .int (nI no)])), (nd, .inr (1, [.ref nl, .ref na, .ref ns, .int nst, .int ncl, .int nnu])), (na, .inl (y 0, 5, .inl nfa)), (ns, .inl (y 0, 5, .inl nfs))] (fun (r : Int32) (u : Unit) => kw_bd 6 5 (upd nfa gl (nI an1)) ∧ r = (nI gl)) (fun _ => [(g, .inr (10, [.ref kk, .ref nw, .ref im, .ref kp, .ref tx, .ref tr, .ref be, .ref sh, .ref sd, .ref rf, .int ab, .int bl])), (rf, .inl (y 0, 3, .inl frf)), (nw, .inr (4, [.ref kk, .ref nk, .ref nd, .ref ne, .ref nm, .ref nn, .int (nI fi), .int (nI (gl + 1)), .int 0, .int (nI mi), .int (nI no)])), (nd, .inr (1, [.ref nl, .ref na, .ref ns, .int nst, .int ncl, .int nnu])), (na, .inl (y 0, 5, .inl (upd nfa gl (nI an1)))), (ns, .inl (y 0, 5, .inl (upd nfs gl 0)))]) 0 0 := by
  refine kw_Mi.of (cc := cX10_gleaner) (maxL := 2) (ret := (some .int)) (by decide) rfl ?_
  intro pZ eZ s mZ beZ meZ cZ A hE
  obtain ⟨hx, hb, hr, hml, hts, hown, hlocks, hin, hA, hP, hD, hK, hN⟩ := hE
  have hS : va_S A s.heap s.heap [] := va_S.rf
  have hl := lv_entry ([.ref g, .int (nI an1)]) (n := 2) (Nat.le_of_ble_eq_true rfl)
  rw [lg_entry_eq]
  generalize (lg_sl ([.ref g, .int (nI an1)]) ++ List.replicate (2 - (lg_sl ([.ref g, .int (nI an1)])).length) Slot.unset).toArray = ls at hl ⊢
  have hl : lv_has ls 2 [(0, .ref g), (1, .int (nI an1))] := hl
  have fw1 := hts (.fieldLink RX10 36 "GleanDusk" "now" "LGleanDusk$Parish;") (List.mem_of_getElem? (i := 1) rfl)
  have fw2 := hts (.fieldLink RX10 115 "GleanDusk$Parish" "gleaners" "I") (List.mem_of_getElem? (i := 2) rfl)
  have iw10 : ∀ w ∈ wsX100, w ∈ wsX10_gleaner := fun _ h => List.mem_cons_of_mem _ (List.mem_append_left _ (List.mem_append_left _ (List.mem_append_right _ h)))
  have iw4 : ∀ w ∈ wsX40, w ∈ wsX10_gleaner := fun _ h => List.mem_cons_of_mem _ (List.mem_append_left _ (List.mem_append_right _ h))
  refine lv_aload_n hx hb dX10_gleaner_0 rfl (lv_at hl 0 rfl) ?_
  refine va_get (D := D) (ci := 10) (v := .ref nw) (C := RX10) (T := TX10) (N := 12) hx hb hts iw10 hown hK hP 0 rfl rfl 1 (by decide) fw1 (fun _ h9 => h9) rfl dX10_gleaner_1 ?_
  refine lv_iload_n hx hb dX10_gleaner_4 rfl (lv_at hl 1 rfl) ?_
  have hs1 : kw_Split [(g, .inr (10, [.ref kk, .ref nw, .ref im, .ref kp, .ref tx, .ref tr, .ref be, .ref sh, .ref sd, .ref rf, .int ab, .int bl])), (rf, .inl (y 0, 3, .inl frf)), (nw, .inr (4, [.ref kk, .ref nk, .ref nd, .ref ne, .ref nm, .ref nn, .int (nI fi), .int (nI gl), .int (nI un), .int (nI mi), .int (nI no)])), (nd, .inr (1, [.ref nl, .ref na, .ref ns, .int nst, .int ncl, .int nnu])), (na, .inl (y 0, 5, .inl nfa)), (ns, .inl (y 0, 5, .inl nfs))] [(nw, .inr (4, [.ref kk, .ref nk, .ref nd, .ref ne, .ref nm, .ref nn, .int (nI fi), .int (nI gl), .int (nI un), .int (nI mi), .int (nI no)]))] [(g, .inr (10, [.ref kk, .ref nw, .ref im, .ref kp, .ref tx, .ref tr, .ref be, .ref sh, .ref sd, .ref rf, .int ab, .int bl])), (rf, .inl (y 0, 3, .inl frf)), (nd, .inr (1, [.ref nl, .ref na, .ref ns, .int nst, .int ncl, .int nnu])), (na, .inl (y 0, 5, .inl nfa)), (ns, .inl (y 0, 5, .inl nfs))] [2] [0, 1, 3, 4, 5] := ⟨rfl, rfl, rfl, rfl, rfl, by decide⟩
  refine kw_go_i hs1 hP hD hS hA (va_runV (As := [.int (nI an1)]) (rest := []) ⟨hx, hb, hml, hown, hts⟩ (gc_hasField l D y nw kk nk nd ne nm nn fi gl un mi no (nI an1) hfi hgl hun hmi hno _) (cwV 1 hts gX10_gleaner_X4_hasField rfl rfl rfl (by decide +kernel) ⟨Nat.le_of_ble_eq_true rfl, Nat.le_of_ble_eq_true rfl⟩) (kw_PreV (ci := 4) (q0 := 2) hs1 hP hD hK hN rfl rfl) rfl rfl hl.1 rfl (lv_room (Nat.le_of_ble_eq_true rfl)) dX10_gleaner_5 ⟨Nat.le_of_ble_eq_true rfl, Nat.le_of_ble_eq_true rfl⟩) (fun r2 u3 H locs hq hP hD hS => ?_)
  rcases hq with ⟨j4, h5, h6, rfl⟩ | ⟨h7, rfl⟩
  · skip
    have h6 : an1 = j4 := (nI_eq (a := an1) (b := j4) (by omega) (by omega)).mp h6
    have hP : va_P D vwCl [(g, .inr (10, [.ref kk, .ref nw, .ref im, .ref kp, .ref tx, .ref tr, .ref be, .ref sh, .ref sd, .ref rf, .int ab, .int bl])), (rf, .inl (y 0, 3, .inl frf)), (nd, .inr (1, [.ref nl, .ref na, .ref ns, .int nst, .int ncl, .int nnu])), (na, .inl (y 0, 5, .inl nfa)), (ns, .inl (y 0, 5, .inl nfs)), (nw, .inr (4, [.ref kk, .ref nk, .ref nd, .ref ne, .ref nm, .ref nn, .int (nI fi), .int (nI gl), .int (nI un), .int (nI mi), .int (nI no)]))] H := hP
    have hD : va_D A [(g, .inr (10, [.ref kk, .ref nw, .ref im, .ref kp, .ref tx, .ref tr, .ref be, .ref sh, .ref sd, .ref rf, .int ab, .int bl])), (rf, .inl (y 0, 3, .inl frf)), (nd, .inr (1, [.ref nl, .ref na, .ref ns, .int nst, .int ncl, .int nnu])), (na, .inl (y 0, 5, .inl nfa)), (ns, .inl (y 0, 5, .inl nfs)), (nw, .inr (4, [.ref kk, .ref nk, .ref nd, .ref ne, .ref nm, .ref nn, .int (nI fi), .int (nI gl), .int (nI un), .int (nI mi), .int (nI no)]))] := hD
    refine lv_if_ne (tgt := 16) hx hb dX10_gleaner_8 (by decide) (fun _ => ?_) (fun h9 => absurd h9 (by decide))
    refine lv_aload_n hx hb dX10_gleaner_16 rfl (lv_at hl 0 rfl) ?_
    refine va_get (D := D) (ci := 10) (v := .ref nw) (C := RX10) (T := TX10) (N := 12) hx hb hts iw10 hown hK hP 0 rfl rfl 1 (by decide) fw1 (fun _ h9 => h9) rfl dX10_gleaner_17 ?_
    refine va_get (D := D) (ci := 4) (v := .int (nI gl)) (C := RX4) (T := TX4) (N := 11) hx hb hts iw4 hown hK hP 5 rfl rfl 7 (by decide) fw2 (fun _ h9 => h9) rfl dX10_gleaner_20 ?_
    refine lv_iconst (v := 5) hx hb dX10_gleaner_23 (by decide) ?_
    refine lv_icmp_lt (tgt := 32) hx hb dX10_gleaner_24 (by decide) (fun h8 => ?_) (fun h9 => ?_)
    · skip
      have h8 : gl < 5 := (nI_ltI (a := gl) (b := 5) (by omega) (by omega)).mp h8
      refine lv_aload_n hx hb dX10_gleaner_32 rfl (lv_at hl 0 rfl) ?_
      refine va_get (D := D) (ci := 10) (v := .ref nw) (C := RX10) (T := TX10) (N := 12) hx hb hts iw10 hown hK hP 0 rfl rfl 1 (by decide) fw1 (fun _ h9 => h9) rfl dX10_gleaner_33 ?_
      refine lv_iload_n hx hb dX10_gleaner_36 rfl (lv_at hl 1 rfl) ?_
      have hs10 : kw_Split [(g, .inr (10, [.ref kk, .ref nw, .ref im, .ref kp, .ref tx, .ref tr, .ref be, .ref sh, .ref sd, .ref rf, .int ab, .int bl])), (rf, .inl (y 0, 3, .inl frf)), (nd, .inr (1, [.ref nl, .ref na, .ref ns, .int nst, .int ncl, .int nnu])), (na, .inl (y 0, 5, .inl nfa)), (ns, .inl (y 0, 5, .inl nfs)), (nw, .inr (4, [.ref kk, .ref nk, .ref nd, .ref ne, .ref nm, .ref nn, .int (nI fi), .int (nI gl), .int (nI un), .int (nI mi), .int (nI no)]))] [(nw, .inr (4, [.ref kk, .ref nk, .ref nd, .ref ne, .ref nm, .ref nn, .int (nI fi), .int (nI gl), .int (nI un), .int (nI mi), .int (nI no)])), (nd, .inr (1, [.ref nl, .ref na, .ref ns, .int nst, .int ncl, .int nnu])), (na, .inl (y 0, 5, .inl nfa)), (ns, .inl (y 0, 5, .inl nfs))] [(g, .inr (10, [.ref kk, .ref nw, .ref im, .ref kp, .ref tx, .ref tr, .ref be, .ref sh, .ref sd, .ref rf, .int ab, .int bl])), (rf, .inl (y 0, 3, .inl frf))] [5, 2, 3, 4] [0, 1] := ⟨rfl, rfl, rfl, rfl, rfl, by decide⟩
      refine kw_go_i hs10 hP hD hS hA (va_runV (As := [.int (nI an1)]) (rest := []) ⟨hx, hb, hml, hown, hts⟩ (gc_addGleaner l D y nw kk nk nd ne nm nn fi gl un mi no an1 nd nl na ns nst ncl nnu nfa nfs hfi hgl hun hmi hno hna hA2 (by omega) _) (cwV 1 hts gX10_gleaner_X4_addGleaner rfl rfl rfl (by decide +kernel) ⟨Nat.le_of_ble_eq_true rfl, Nat.le_of_ble_eq_true rfl⟩) (kw_PreV (ci := 4) (q0 := 5) hs10 hP hD hK hN rfl rfl) rfl rfl hl.1 rfl (lv_room (Nat.le_of_ble_eq_true rfl)) dX10_gleaner_37 ⟨Nat.le_of_ble_eq_true rfl, Nat.le_of_ble_eq_true rfl⟩) (fun r11 u12 H locs hq hP hD hS => ?_)
      obtain ⟨h13, rfl⟩ := hq
      have hP : va_P D vwCl [(g, .inr (10, [.ref kk, .ref nw, .ref im, .ref kp, .ref tx, .ref tr, .ref be, .ref sh, .ref sd, .ref rf, .int ab, .int bl])), (rf, .inl (y 0, 3, .inl frf)), (nw, .inr (4, [.ref kk, .ref nk, .ref nd, .ref ne, .ref nm, .ref nn, .int (nI fi), .int (nI (gl + 1)), .int 0, .int (nI mi), .int (nI no)])), (nd, .inr (1, [.ref nl, .ref na, .ref ns, .int nst, .int ncl, .int nnu])), (na, .inl (y 0, 5, .inl (upd nfa gl (nI an1)))), (ns, .inl (y 0, 5, .inl (upd nfs gl 0)))] H := hP
      have hD : va_D A [(g, .inr (10, [.ref kk, .ref nw, .ref im, .ref kp, .ref tx, .ref tr, .ref be, .ref sh, .ref sd, .ref rf, .int ab, .int bl])), (rf, .inl (y 0, 3, .inl frf)), (nw, .inr (4, [.ref kk, .ref nk, .ref nd, .ref ne, .ref nm, .ref nn, .int (nI fi), .int (nI (gl + 1)), .int 0, .int (nI mi), .int (nI no)])), (nd, .inr (1, [.ref nl, .ref na, .ref ns, .int nst, .int ncl, .int nnu])), (na, .inl (y 0, 5, .inl (upd nfa gl (nI an1)))), (ns, .inl (y 0, 5, .inl (upd nfs gl 0)))] := hD
      exact W.iret (v := (nI gl)) hx hb hr (fun tZ ht hW => ⟨⟨(nI gl), (), rfl, ⟨h13, rfl⟩, by rw [ht]; exact hP.sub [0, 1, 2, 3, 4, 5] rfl, hD.sub [0, 1, 2, 3, 4, 5] (by decide) rfl⟩, hS.F ht⟩) hS.2.2 dX10_gleaner_40
    · skip
      have h9 : ¬ gl < 5 := fun q9 => h9 ((nI_ltI (a := gl) (b := 5) (by omega) (by omega)).mpr q9)
      exact absurd h9 (by omega)
  · skip
    exact absurd ⟨an1, by omega, rfl⟩ h7

set_option maxHeartbeats 4000000 in
set_option maxRecDepth 100000 in
theorem gy_gleaner_ok (l : Launch) (D : va_G) (y : Nat → ClassId) (mo : Nat) (to : Nat) (ke : Nat) (ik : Nat) (mrf : Nat) (ha : Nat) (r0 : Nat) (mbr : Nat) (mbp : Nat) (mby : Nat) (an : Nat) (va : Nat) (mab : Int64) (mbl : Int64) (bl : Nat) (ta : Nat) (tl : Nat) (tk : Nat) (vv : Int32) (frf : Nat → Int32) (ft : Nat → Int32) (fi : Nat) (gl : Nat) (mi : Nat) (no : Nat) (un : Nat) (an1 : Nat) (hk0_ : ft 0 = (nI fi)) (hk1_ : ft 1 = (nI gl)) (hk2_ : ft 2 = (nI mi)) (hk3_ : ft 3 = (nI no)) (hk4_ : ft 4 = (nI un)) (hkt : kr_t 228 ft) (hfi : fi ≤ 6) (hgl : gl ≤ 5) (hmi : mi ≤ 4) (hno : no ≤ 6) (hun : un ≤ 8) (hgf : (gl = 0 ∨ 0 < fi)) (hA2 : ¬ gl = 5) (hB0_ : an1 < fi) : kw_Mi l yX11_gleaner wsX11_gleaner ({ frames := 3, cells := 0, slots := 0, locals := 106 }) D y [.ref mo, .int (nI an1)] [(mo, .inr (11, [.ref to, .ref ke, .ref ik, .ref mrf, .long mab, .long mbl, .ref ha, .ref r0, .ref mbr, .ref mbp, .ref mby, .int (nI bl), .int (nI ta), .int (nI tl), .int (nI tk), .int vv, .ref an, .ref va])), (mrf, .inl (y 0, 3, .inl frf)), (to, .inl (y 0, 228, .inl ft))] (fun (r : Int32) (u : Unit) => kr_t 228 (upd (upd (upd (upd ft (gl + 11) (nI an1)) (gl + 16) 0) 1 (nI (gl + 1))) 4 0) ∧ (upd (upd (upd (upd ft (gl + 11) (nI an1)) (gl + 16) 0) 1 (nI (gl + 1))) 4 0) 0 = (nI fi) ∧ (upd (upd (upd (upd ft (gl + 11) (nI an1)) (gl + 16) 0) 1 (nI (gl + 1))) 4 0) 1 = (nI (gl + 1)) ∧ (upd (upd (upd (upd ft (gl + 11) (nI an1)) (gl + 16) 0) 1 (nI (gl + 1))) 4 0) 2 = (nI mi) ∧ (upd (upd (upd (upd ft (gl + 11) (nI an1)) (gl + 16) 0) 1 (nI (gl + 1))) 4 0) 3 = (nI no) ∧ (upd (upd (upd (upd ft (gl + 11) (nI an1)) (gl + 16) 0) 1 (nI (gl + 1))) 4 0) 4 = 0 ∧ ((gl + 1) = 0 ∨ 0 < fi) ∧ r = (nI gl)) (fun _ => [(mo, .inr (11, [.ref to, .ref ke, .ref ik, .ref mrf, .long mab, .long mbl, .ref ha, .ref r0, .ref mbr, .ref mbp, .ref mby, .int (nI bl), .int (nI ta), .int (nI tl), .int (nI tk), .int vv, .ref an, .ref va])), (mrf, .inl (y 0, 3, .inl frf)), (to, .inl (y 0, 228, .inl (upd (upd (upd (upd ft (gl + 11) (nI an1)) (gl + 16) 0) 1 (nI (gl + 1))) 4 0)))]) 0 0 := by
  refine kw_Mi.of (cc := cX11_gleaner) (maxL := 2) (ret := (some .int)) (by decide) rfl ?_
  intro pZ eZ s mZ beZ meZ cZ A hE
  obtain ⟨hx, hb, hr, hml, hts, hown, hlocks, hin, hA, hP, hD, hK, hN⟩ := hE
  have hS : va_S A s.heap s.heap [] := va_S.rf
  have hl := lv_entry ([.ref mo, .int (nI an1)]) (n := 2) (Nat.le_of_ble_eq_true rfl)
  rw [lg_entry_eq]
  generalize (lg_sl ([.ref mo, .int (nI an1)]) ++ List.replicate (2 - (lg_sl ([.ref mo, .int (nI an1)])).length) Slot.unset).toArray = ls at hl ⊢
  have hl : lv_has ls 2 [(0, .ref mo), (1, .int (nI an1))] := hl
  have fw1 := hts (.fieldLink RX11 7 "GleanDuskModel" "told" "[I") (List.mem_of_getElem? (i := 1) rfl)
  have iw11 : ∀ w ∈ wsX110, w ∈ wsX11_gleaner := fun _ h => List.mem_cons_of_mem _ (List.mem_append_right _ h)
  refine lv_aload_n hx hb dX11_gleaner_0 rfl (lv_at hl 0 rfl) ?_
  refine lv_iload_n hx hb dX11_gleaner_1 rfl (lv_at hl 1 rfl) ?_
  have hs1 : kw_Split [(mo, .inr (11, [.ref to, .ref ke, .ref ik, .ref mrf, .long mab, .long mbl, .ref ha, .ref r0, .ref mbr, .ref mbp, .ref mby, .int (nI bl), .int (nI ta), .int (nI tl), .int (nI tk), .int vv, .ref an, .ref va])), (mrf, .inl (y 0, 3, .inl frf)), (to, .inl (y 0, 228, .inl ft))] [(mo, .inr (11, [.ref to, .ref ke, .ref ik, .ref mrf, .long mab, .long mbl, .ref ha, .ref r0, .ref mbr, .ref mbp, .ref mby, .int (nI bl), .int (nI ta), .int (nI tl), .int (nI tk), .int vv, .ref an, .ref va])), (to, .inl (y 0, 228, .inl ft))] [(mrf, .inl (y 0, 3, .inl frf))] [0, 2] [1] := ⟨rfl, rfl, rfl, rfl, rfl, by decide⟩
  refine kw_go_i hs1 hP hD hS hA (va_runV (As := [.int (nI an1)]) (rest := []) ⟨hx, hb, hml, hown, hts⟩ (gr_isField l D y mo to ke ik mrf ha r0 mbr mbp mby an va mab mbl bl ta tl tk vv ft fi gl mi no un (nI an1) hk0_ hk1_ hk2_ hk3_ hk4_ hkt hfi hgl hmi hno hun _) (cwV 1 hts gX11_gleaner_X11_isField rfl rfl rfl (by decide +kernel) ⟨Nat.le_of_ble_eq_true rfl, Nat.le_of_ble_eq_true rfl⟩) (kw_PreV (ci := 11) (q0 := 0) hs1 hP hD hK hN rfl rfl) rfl rfl hl.1 rfl (lv_room (Nat.le_of_ble_eq_true rfl)) dX11_gleaner_2 ⟨Nat.le_of_ble_eq_true rfl, Nat.le_of_ble_eq_true rfl⟩) (fun r2 u3 H locs hq hP hD hS => ?_)
  rcases hq with ⟨j4, h5, h6, rfl⟩ | ⟨h7, rfl⟩
  · skip
    have h6 : an1 = j4 := (nI_eq (a := an1) (b := j4) (by omega) (by omega)).mp h6
    have hP : va_P D vwCl [(mrf, .inl (y 0, 3, .inl frf)), (mo, .inr (11, [.ref to, .ref ke, .ref ik, .ref mrf, .long mab, .long mbl, .ref ha, .ref r0, .ref mbr, .ref mbp, .ref mby, .int (nI bl), .int (nI ta), .int (nI tl), .int (nI tk), .int vv, .ref an, .ref va])), (to, .inl (y 0, 228, .inl ft))] H := hP
    have hD : va_D A [(mrf, .inl (y 0, 3, .inl frf)), (mo, .inr (11, [.ref to, .ref ke, .ref ik, .ref mrf, .long mab, .long mbl, .ref ha, .ref r0, .ref mbr, .ref mbp, .ref mby, .int (nI bl), .int (nI ta), .int (nI tl), .int (nI tk), .int vv, .ref an, .ref va])), (to, .inl (y 0, 228, .inl ft))] := hD
    refine lv_if_ne (tgt := 15) hx hb dX11_gleaner_5 (by decide) (fun _ => ?_) (fun h9 => absurd h9 (by decide))
    refine lv_aload_n hx hb dX11_gleaner_15 rfl (lv_at hl 0 rfl) ?_
    have hs8 : kw_Split [(mrf, .inl (y 0, 3, .inl frf)), (mo, .inr (11, [.ref to, .ref ke, .ref ik, .ref mrf, .long mab, .long mbl, .ref ha, .ref r0, .ref mbr, .ref mbp, .ref mby, .int (nI bl), .int (nI ta), .int (nI tl), .int (nI tk), .int vv, .ref an, .ref va])), (to, .inl (y 0, 228, .inl ft))] [(mo, .inr (11, [.ref to, .ref ke, .ref ik, .ref mrf, .long mab, .long mbl, .ref ha, .ref r0, .ref mbr, .ref mbp, .ref mby, .int (nI bl), .int (nI ta), .int (nI tl), .int (nI tk), .int vv, .ref an, .ref va])), (to, .inl (y 0, 228, .inl ft))] [(mrf, .inl (y 0, 3, .inl frf))] [1, 2] [0] := ⟨rfl, rfl, rfl, rfl, rfl, by decide⟩
    refine kw_go_i hs8 hP hD hS hA (va_runV (As := []) (rest := []) ⟨hx, hb, hml, hown, hts⟩ (gr_manyGleaners l D y mo to ke ik mrf ha r0 mbr mbp mby an va mab mbl bl ta tl tk vv ft fi gl mi no un hk0_ hk1_ hk2_ hk3_ hk4_ hkt hfi hgl hmi hno hun _) (cwV 0 hts gX11_gleaner_X11_manyGleaners rfl rfl rfl (by decide +kernel) ⟨Nat.le_of_ble_eq_true rfl, Nat.le_of_ble_eq_true rfl⟩) (kw_PreV (ci := 11) (q0 := 1) hs8 hP hD hK hN rfl rfl) rfl rfl hl.1 rfl (lv_room (Nat.le_of_ble_eq_true rfl)) dX11_gleaner_16 ⟨Nat.le_of_ble_eq_true rfl, Nat.le_of_ble_eq_true rfl⟩) (fun r9 u10 H locs hq hP hD hS => ?_)
    obtain rfl := hq
    have hP : va_P D vwCl [(mrf, .inl (y 0, 3, .inl frf)), (mo, .inr (11, [.ref to, .ref ke, .ref ik, .ref mrf, .long mab, .long mbl, .ref ha, .ref r0, .ref mbr, .ref mbp, .ref mby, .int (nI bl), .int (nI ta), .int (nI tl), .int (nI tk), .int vv, .ref an, .ref va])), (to, .inl (y 0, 228, .inl ft))] H := hP
    have hD : va_D A [(mrf, .inl (y 0, 3, .inl frf)), (mo, .inr (11, [.ref to, .ref ke, .ref ik, .ref mrf, .long mab, .long mbl, .ref ha, .ref r0, .ref mbr, .ref mbp, .ref mby, .int (nI bl), .int (nI ta), .int (nI tl), .int (nI tk), .int vv, .ref an, .ref va])), (to, .inl (y 0, 228, .inl ft))] := hD
    refine lv_iconst (v := 5) hx hb dX11_gleaner_19 (by decide) ?_
    refine lv_icmp_ne (tgt := 28) hx hb dX11_gleaner_20 (by decide) (fun h11 => ?_) (fun h12 => ?_)
    · skip
      have h11 : ¬ gl = 5 := fun q9 => h11 ((nI_eq (a := gl) (b := 5) (by omega) (by omega)).mpr q9)
      refine lv_aload_n hx hb dX11_gleaner_28 rfl (lv_at hl 0 rfl) ?_
      refine va_get (D := D) (ci := 11) (v := .ref to) (C := RX11) (T := TX11) (N := 18) hx hb hts iw11 hown hK hP 1 rfl rfl 0 (by decide) fw1 (fun _ h9 => h9) rfl dX11_gleaner_29 ?_
      refine lv_iload_n hx hb dX11_gleaner_32 rfl (lv_at hl 1 rfl) ?_
      have hs13 : kw_Split [(mrf, .inl (y 0, 3, .inl frf)), (mo, .inr (11, [.ref to, .ref ke, .ref ik, .ref mrf, .long mab, .long mbl, .ref ha, .ref r0, .ref mbr, .ref mbp, .ref mby, .int (nI bl), .int (nI ta), .int (nI tl), .int (nI tk), .int vv, .ref an, .ref va])), (to, .inl (y 0, 228, .inl ft))] [(to, .inl (y 0, 228, .inl ft))] [(mrf, .inl (y 0, 3, .inl frf)), (mo, .inr (11, [.ref to, .ref ke, .ref ik, .ref mrf, .long mab, .long mbl, .ref ha, .ref r0, .ref mbr, .ref mbp, .ref mby, .int (nI bl), .int (nI ta), .int (nI tl), .int (nI tk), .int vv, .ref an, .ref va]))] [2] [0, 1] := ⟨rfl, rfl, rfl, rfl, rfl, by decide⟩
      refine kw_go_v hs13 hP hD hS hA (va_runS (As := [.ref to, .int (nI an1)]) (rest := []) ⟨hx, hb, hml, hown, hts⟩ (gr_layGleaner228 l D y to ft fi gl mi no un an1 hk0_ hk1_ hk2_ hk3_ hk4_ hkt hfi hgl hmi hno hun (by omega) (by omega) _) (va_cwS 2 hts gX11_gleaner_X11_layGleaner rfl rfl rfl (by decide +kernel) ⟨Nat.le_of_ble_eq_true rfl, Nat.le_of_ble_eq_true rfl⟩) (kw_PreS hs13 hP hD hK hN) rfl rfl hl.1 rfl (lv_room (Nat.le_of_ble_eq_true rfl)) dX11_gleaner_33 ⟨Nat.le_of_ble_eq_true rfl, Nat.le_of_ble_eq_true rfl⟩) (fun u15 H locs hq hP hD hS => ?_)
      obtain ⟨h16, h17, h18, h19, h20, h21⟩ := hq
      have hP : va_P D vwCl [(mrf, .inl (y 0, 3, .inl frf)), (mo, .inr (11, [.ref to, .ref ke, .ref ik, .ref mrf, .long mab, .long mbl, .ref ha, .ref r0, .ref mbr, .ref mbp, .ref mby, .int (nI bl), .int (nI ta), .int (nI tl), .int (nI tk), .int vv, .ref an, .ref va])), (to, .inl (y 0, 228, .inl (upd (upd (upd ft (gl + 11) (nI an1)) (gl + 16) 0) 1 (nI (gl + 1)))))] H := hP
      have hD : va_D A [(mrf, .inl (y 0, 3, .inl frf)), (mo, .inr (11, [.ref to, .ref ke, .ref ik, .ref mrf, .long mab, .long mbl, .ref ha, .ref r0, .ref mbr, .ref mbp, .ref mby, .int (nI bl), .int (nI ta), .int (nI tl), .int (nI tk), .int vv, .ref an, .ref va])), (to, .inl (y 0, 228, .inl (upd (upd (upd ft (gl + 11) (nI an1)) (gl + 16) 0) 1 (nI (gl + 1)))))] := hD
      refine lv_aload_n hx hb dX11_gleaner_36 rfl (lv_at hl 0 rfl) ?_
      refine va_get (D := D) (ci := 11) (v := .ref to) (C := RX11) (T := TX11) (N := 18) hx hb hts iw11 hown hK hP 1 rfl rfl 0 (by decide) fw1 (fun _ h9 => h9) rfl dX11_gleaner_37 ?_
      refine lv_iconst (v := 4) hx hb dX11_gleaner_40 (by decide) ?_
      refine lv_iconst (v := 0) hx hb dX11_gleaner_41 (by decide) ?_
      refine va_iast hx hb hK hP hD hS 2 0 rfl rfl (by unfold vp_in; decide) dX11_gleaner_42 (fun H locs hP hD hS => ?_)
      rw [show ((4 : Int32)).toNatClampNeg = 4 from rfl] at hP hD
      have hr22 : kr_t 228 (upd (upd (upd (upd ft (gl + 11) (nI an1)) (gl + 16) 0) 1 (nI (gl + 1))) 4 0) := kr_up h16 (kr_ok0)
      have hk23 : (upd (upd (upd (upd ft (gl + 11) (nI an1)) (gl + 16) 0) 1 (nI (gl + 1))) 4 0) 0 = (nI fi) := (pk_un (by decide)).trans h17
      have hk24 : (upd (upd (upd (upd ft (gl + 11) (nI an1)) (gl + 16) 0) 1 (nI (gl + 1))) 4 0) 1 = (nI (gl + 1)) := (pk_un (by decide)).trans h18
      have hk25 : (upd (upd (upd (upd ft (gl + 11) (nI an1)) (gl + 16) 0) 1 (nI (gl + 1))) 4 0) 2 = (nI mi) := (pk_un (by decide)).trans h19
      have hk26 : (upd (upd (upd (upd ft (gl + 11) (nI an1)) (gl + 16) 0) 1 (nI (gl + 1))) 4 0) 3 = (nI no) := (pk_un (by decide)).trans h20
      have hk27 : (upd (upd (upd (upd ft (gl + 11) (nI an1)) (gl + 16) 0) 1 (nI (gl + 1))) 4 0) 4 = 0 := pk_us
      have hP : va_P D vwCl [(mrf, .inl (y 0, 3, .inl frf)), (mo, .inr (11, [.ref to, .ref ke, .ref ik, .ref mrf, .long mab, .long mbl, .ref ha, .ref r0, .ref mbr, .ref mbp, .ref mby, .int (nI bl), .int (nI ta), .int (nI tl), .int (nI tk), .int vv, .ref an, .ref va])), (to, .inl (y 0, 228, .inl (upd (upd (upd (upd ft (gl + 11) (nI an1)) (gl + 16) 0) 1 (nI (gl + 1))) 4 0)))] H := hP
      have hD : va_D A [(mrf, .inl (y 0, 3, .inl frf)), (mo, .inr (11, [.ref to, .ref ke, .ref ik, .ref mrf, .long mab, .long mbl, .ref ha, .ref r0, .ref mbr, .ref mbp, .ref mby, .int (nI bl), .int (nI ta), .int (nI tl), .int (nI tk), .int vv, .ref an, .ref va])), (to, .inl (y 0, 228, .inl (upd (upd (upd (upd ft (gl + 11) (nI an1)) (gl + 16) 0) 1 (nI (gl + 1))) 4 0)))] := hD
      refine lv_aload_n hx hb dX11_gleaner_43 rfl (lv_at hl 0 rfl) ?_
      have hs28 : kw_Split [(mrf, .inl (y 0, 3, .inl frf)), (mo, .inr (11, [.ref to, .ref ke, .ref ik, .ref mrf, .long mab, .long mbl, .ref ha, .ref r0, .ref mbr, .ref mbp, .ref mby, .int (nI bl), .int (nI ta), .int (nI tl), .int (nI tk), .int vv, .ref an, .ref va])), (to, .inl (y 0, 228, .inl (upd (upd (upd (upd ft (gl + 11) (nI an1)) (gl + 16) 0) 1 (nI (gl + 1))) 4 0)))] [(mo, .inr (11, [.ref to, .ref ke, .ref ik, .ref mrf, .long mab, .long mbl, .ref ha, .ref r0, .ref mbr, .ref mbp, .ref mby, .int (nI bl), .int (nI ta), .int (nI tl), .int (nI tk), .int vv, .ref an, .ref va])), (to, .inl (y 0, 228, .inl (upd (upd (upd (upd ft (gl + 11) (nI an1)) (gl + 16) 0) 1 (nI (gl + 1))) 4 0)))] [(mrf, .inl (y 0, 3, .inl frf))] [1, 2] [0] := ⟨rfl, rfl, rfl, rfl, rfl, by decide⟩
      refine kw_go_i hs28 hP hD hS hA (va_runV (As := []) (rest := []) ⟨hx, hb, hml, hown, hts⟩ (gr_manyGleaners l D y mo to ke ik mrf ha r0 mbr mbp mby an va mab mbl bl ta tl tk vv (upd (upd (upd (upd ft (gl + 11) (nI an1)) (gl + 16) 0) 1 (nI (gl + 1))) 4 0) fi (gl + 1) mi no 0 hk23 hk24 hk25 hk26 hk27 hr22 hfi (by omega) hmi hno (by omega) _) (cwV 0 hts gX11_gleaner_X11_manyGleaners rfl rfl rfl (by decide +kernel) ⟨Nat.le_of_ble_eq_true rfl, Nat.le_of_ble_eq_true rfl⟩) (kw_PreV (ci := 11) (q0 := 1) hs28 hP hD hK hN rfl rfl) rfl rfl hl.1 rfl (lv_room (Nat.le_of_ble_eq_true rfl)) dX11_gleaner_44 ⟨Nat.le_of_ble_eq_true rfl, Nat.le_of_ble_eq_true rfl⟩) (fun r29 u30 H locs hq hP hD hS => ?_)
      obtain rfl := hq
      have hP : va_P D vwCl [(mrf, .inl (y 0, 3, .inl frf)), (mo, .inr (11, [.ref to, .ref ke, .ref ik, .ref mrf, .long mab, .long mbl, .ref ha, .ref r0, .ref mbr, .ref mbp, .ref mby, .int (nI bl), .int (nI ta), .int (nI tl), .int (nI tk), .int vv, .ref an, .ref va])), (to, .inl (y 0, 228, .inl (upd (upd (upd (upd ft (gl + 11) (nI an1)) (gl + 16) 0) 1 (nI (gl + 1))) 4 0)))] H := hP
      have hD : va_D A [(mrf, .inl (y 0, 3, .inl frf)), (mo, .inr (11, [.ref to, .ref ke, .ref ik, .ref mrf, .long mab, .long mbl, .ref ha, .ref r0, .ref mbr, .ref mbp, .ref mby, .int (nI bl), .int (nI ta), .int (nI tl), .int (nI tk), .int vv, .ref an, .ref va])), (to, .inl (y 0, 228, .inl (upd (upd (upd (upd ft (gl + 11) (nI an1)) (gl + 16) 0) 1 (nI (gl + 1))) 4 0)))] := hD
      refine lv_iconst (v := 1) hx hb dX11_gleaner_47 (by decide) ?_
      refine lv_isub hx hb dX11_gleaner_48 ?_
      rw [show (nI (gl + 1)) - 1 = nI (gl) from pk_sub (a := (gl + 1)) (b := 1) (by omega)]
      exact W.iret (v := (nI gl)) hx hb hr (fun tZ ht hW => ⟨⟨(nI gl), (), rfl, ⟨hr22, hk23, hk24, hk25, hk26, hk27, by first | omega | (dsimp only; omega), rfl⟩, by rw [ht]; exact hP.sub [1, 0, 2] rfl, hD.sub [1, 0, 2] (by decide) rfl⟩, hS.F ht⟩) hS.2.2 dX11_gleaner_49
    · skip
      have h12 : gl = 5 := (nI_eq (a := gl) (b := 5) (by omega) (by omega)).mp h12
      exact absurd h12 (by omega)
  · skip
    exact absurd ⟨an1, by omega, rfl⟩ h7

set_option maxHeartbeats 4000000 in
set_option maxRecDepth 100000 in
theorem gs_addMissed (l : Launch) (D : va_G) (y : Nat → ClassId) (nw : Nat) (kk : Nat) (nk : Nat) (nd : Nat) (ne : Nat) (nm : Nat) (nn : Nat) (fi : Nat) (gl : Nat) (un : Nat) (mi : Nat) (no : Nat) (m0 : Nat) (m1 : Nat) (m2 : Nat) (m3 : Nat) (m0f : Nat → Int32) (m1f : Nat → Int32) (m2f : Nat → Int32) (m3f : Nat → Int32) (fm : Nat → Option Nat) (k : Nat) (x : Int32) (x2 : Int32) (x3 : Int32) (hfi : fi ≤ 6) (hgl : gl ≤ 5) (hun : un ≤ 8) (hmi : mi ≤ 4) (hno : no ≤ 6) (hm0 : fm 0 = some m0) (hm1 : fm 1 = some m1) (hm2 : fm 2 = some m2) (hm3 : fm 3 = some m3) (hm0f : vp_in (m0f 0) 6) (hm1f : vp_in (m1f 0) 6) (hm2f : vp_in (m2f 0) 6) (hm3f : vp_in (m3f 0) 6) (hkk : k < 6) (hlt : mi < 4) : kw_Mi l yX4_addMissed wsX4_addMissed ({ frames := 1, cells := 0, slots := 0, locals := 60 }) D y [.ref nw, .int (nI k), .int x, .int x2, .int x3] [(nw, .inr (4, [.ref kk, .ref nk, .ref nd, .ref ne, .ref nm, .ref nn, .int (nI fi), .int (nI gl), .int (nI un), .int (nI mi), .int (nI no)])), (nm, .inl (y 6, 4, .inr (.inr (.inr (.inr fm))))), (m0, .inl (y 0, 4, .inl m0f)), (m1, .inl (y 0, 4, .inl m1f)), (m2, .inl (y 0, 4, .inl m2f)), (m3, .inl (y 0, 4, .inl m3f))] (fun (r : Int32) (u : (Nat → Int32) × (Nat → Int32) × (Nat → Int32) × (Nat → Int32)) => vp_in (u.1 0) 6 ∧ vp_in (u.2.1 0) 6 ∧ vp_in (u.2.2.1 0) 6 ∧ vp_in (u.2.2.2 0) 6 ∧ r = (nI (mi + 1))) (fun u => [(nw, .inr (4, [.ref kk, .ref nk, .ref nd, .ref ne, .ref nm, .ref nn, .int (nI fi), .int (nI gl), .int (nI un), .int (nI (mi + 1)), .int (nI no)])), (nm, .inl (y 6, 4, .inr (.inr (.inr (.inr fm))))), (m0, .inl (y 0, 4, .inl u.1)), (m1, .inl (y 0, 4, .inl u.2.1)), (m2, .inl (y 0, 4, .inl u.2.2.1)), (m3, .inl (y 0, 4, .inl u.2.2.2))]) 0 0 := by
  refine kw_Mi.of (cc := cX4_addMissed) (maxL := 6) (ret := (some .int)) (by decide) rfl ?_
  intro pZ eZ s mZ beZ meZ cZ A hE
  obtain ⟨hx, hb, hr, hml, hts, hown, hlocks, hin, hA, hP, hD, hK, hN⟩ := hE
  have hS : va_S A s.heap s.heap [] := va_S.rf
  have hl := lv_entry ([.ref nw, .int (nI k), .int x, .int x2, .int x3]) (n := 6) (Nat.le_of_ble_eq_true rfl)
  rw [lg_entry_eq]
  generalize (lg_sl ([.ref nw, .int (nI k), .int x, .int x2, .int x3]) ++ List.replicate (6 - (lg_sl ([.ref nw, .int (nI k), .int x, .int x2, .int x3])).length) Slot.unset).toArray = ls at hl ⊢
  have hl : lv_has ls 6 [(0, .ref nw), (1, .int (nI k)), (2, .int x), (3, .int x2), (4, .int x3)] := hl
  have fw1 := hts (.fieldLink RX4 28 "GleanDusk$Parish" "missed" "[[I") (List.mem_of_getElem? (i := 1) rfl)
  have fw2 := hts (.fieldLink RX4 48 "GleanDusk$Parish" "missedCount" "I") (List.mem_of_getElem? (i := 2) rfl)
  have iw4 : ∀ w ∈ wsX40, w ∈ wsX4_addMissed := fun _ h => List.mem_cons_of_mem _ (List.mem_append_right _ h)
  refine lv_aload_n hx hb dX4_addMissed_0 rfl (lv_at hl 0 rfl) ?_
  refine va_get (D := D) (ci := 4) (v := .ref nm) (C := RX4) (T := TX4) (N := 11) hx hb hts iw4 hown hK hP 0 rfl rfl 4 (by decide) fw1 (fun _ h9 => h9) rfl dX4_addMissed_1 ?_
  refine lv_aload_n hx hb dX4_addMissed_4 rfl (lv_at hl 0 rfl) ?_
  refine va_get (D := D) (ci := 4) (v := .int (nI mi)) (C := RX4) (T := TX4) (N := 11) hx hb hts iw4 hown hK hP 0 rfl rfl 9 (by decide) fw2 (fun _ h9 => h9) rfl dX4_addMissed_5 ?_
  rcases (show mi = 0 ∨ mi = 1 ∨ mi = 2 ∨ mi = 3 by omega) with rfl | rfl | rfl | rfl
  · skip
    refine kw_aldQ hx hb hK hP 1 6 rfl rfl (vp_in_nI (by omega) (by decide)) dX4_addMissed_8 ?_
    rw [nI_clamp (n := 0) (by omega), show va_rf (fm 0) = .ref m0 from congrArg va_rf hm0]
    refine lv_astore (lv' := [(5, .ref m0), (0, .ref nw), (1, .int (nI k)), (2, .int x), (3, .int x2), (4, .int x3)]) hx hb dX4_addMissed_9 hl (by decide) rfl (fun ls hl => ?_)
    refine lv_aload hx hb dX4_addMissed_11 (lv_at hl 0 rfl) ?_
    refine lv_iconst (v := 0) hx hb dX4_addMissed_13 (by decide) ?_
    refine lv_iload_n hx hb dX4_addMissed_14 rfl (lv_at hl 2 rfl) ?_
    refine va_iast hx hb hK hP hD hS 2 0 rfl rfl (by unfold vp_in; decide) dX4_addMissed_15 (fun H locs hP hD hS => ?_)
    rw [show ((0 : Int32)).toNatClampNeg = 0 from rfl] at hP hD
    have hp1 : vp_in ((upd m0f 0 (nI k)) 0) 6 := by rw [pk_us]; exact (vp_in_nI (by omega) (by decide))
    have hP : va_P D vwCl [(nw, .inr (4, [.ref kk, .ref nk, .ref nd, .ref ne, .ref nm, .ref nn, .int (nI fi), .int (nI gl), .int (nI un), .int (nI 0), .int (nI no)])), (nm, .inl (y 6, 4, .inr (.inr (.inr (.inr fm))))), (m0, .inl (y 0, 4, .inl (upd m0f 0 (nI k)))), (m1, .inl (y 0, 4, .inl m1f)), (m2, .inl (y 0, 4, .inl m2f)), (m3, .inl (y 0, 4, .inl m3f))] H := hP
    have hD : va_D A [(nw, .inr (4, [.ref kk, .ref nk, .ref nd, .ref ne, .ref nm, .ref nn, .int (nI fi), .int (nI gl), .int (nI un), .int (nI 0), .int (nI no)])), (nm, .inl (y 6, 4, .inr (.inr (.inr (.inr fm))))), (m0, .inl (y 0, 4, .inl (upd m0f 0 (nI k)))), (m1, .inl (y 0, 4, .inl m1f)), (m2, .inl (y 0, 4, .inl m2f)), (m3, .inl (y 0, 4, .inl m3f))] := hD
    refine lv_aload hx hb dX4_addMissed_16 (lv_at hl 0 rfl) ?_
    refine lv_iconst (v := 1) hx hb dX4_addMissed_18 (by decide) ?_
    refine lv_iload_n hx hb dX4_addMissed_19 rfl (lv_at hl 3 rfl) ?_
    refine va_iast hx hb hK hP hD hS 2 0 rfl rfl (by unfold vp_in; decide) dX4_addMissed_20 (fun H locs hP hD hS => ?_)
    rw [show ((1 : Int32)).toNatClampNeg = 1 from rfl] at hP hD
    have hp2 : vp_in ((upd (upd m0f 0 (nI k)) 1 x) 0) 6 := by rw [pk_un (by decide)]; exact hp1
    have hP : va_P D vwCl [(nw, .inr (4, [.ref kk, .ref nk, .ref nd, .ref ne, .ref nm, .ref nn, .int (nI fi), .int (nI gl), .int (nI un), .int (nI 0), .int (nI no)])), (nm, .inl (y 6, 4, .inr (.inr (.inr (.inr fm))))), (m0, .inl (y 0, 4, .inl (upd (upd m0f 0 (nI k)) 1 x))), (m1, .inl (y 0, 4, .inl m1f)), (m2, .inl (y 0, 4, .inl m2f)), (m3, .inl (y 0, 4, .inl m3f))] H := hP
    have hD : va_D A [(nw, .inr (4, [.ref kk, .ref nk, .ref nd, .ref ne, .ref nm, .ref nn, .int (nI fi), .int (nI gl), .int (nI un), .int (nI 0), .int (nI no)])), (nm, .inl (y 6, 4, .inr (.inr (.inr (.inr fm))))), (m0, .inl (y 0, 4, .inl (upd (upd m0f 0 (nI k)) 1 x))), (m1, .inl (y 0, 4, .inl m1f)), (m2, .inl (y 0, 4, .inl m2f)), (m3, .inl (y 0, 4, .inl m3f))] := hD
    refine lv_aload hx hb dX4_addMissed_21 (lv_at hl 0 rfl) ?_
    refine lv_iconst (v := 2) hx hb dX4_addMissed_23 (by decide) ?_
    refine lv_iload_n hx hb dX4_addMissed_24 rfl (lv_at hl 4 rfl) ?_
    refine va_iast hx hb hK hP hD hS 2 0 rfl rfl (by unfold vp_in; decide) dX4_addMissed_25 (fun H locs hP hD hS => ?_)
    rw [show ((2 : Int32)).toNatClampNeg = 2 from rfl] at hP hD
    have hp3 : vp_in ((upd (upd (upd m0f 0 (nI k)) 1 x) 2 x2) 0) 6 := by rw [pk_un (by decide)]; exact hp2
    have hP : va_P D vwCl [(nw, .inr (4, [.ref kk, .ref nk, .ref nd, .ref ne, .ref nm, .ref nn, .int (nI fi), .int (nI gl), .int (nI un), .int (nI 0), .int (nI no)])), (nm, .inl (y 6, 4, .inr (.inr (.inr (.inr fm))))), (m0, .inl (y 0, 4, .inl (upd (upd (upd m0f 0 (nI k)) 1 x) 2 x2))), (m1, .inl (y 0, 4, .inl m1f)), (m2, .inl (y 0, 4, .inl m2f)), (m3, .inl (y 0, 4, .inl m3f))] H := hP
    have hD : va_D A [(nw, .inr (4, [.ref kk, .ref nk, .ref nd, .ref ne, .ref nm, .ref nn, .int (nI fi), .int (nI gl), .int (nI un), .int (nI 0), .int (nI no)])), (nm, .inl (y 6, 4, .inr (.inr (.inr (.inr fm))))), (m0, .inl (y 0, 4, .inl (upd (upd (upd m0f 0 (nI k)) 1 x) 2 x2))), (m1, .inl (y 0, 4, .inl m1f)), (m2, .inl (y 0, 4, .inl m2f)), (m3, .inl (y 0, 4, .inl m3f))] := hD
    refine lv_aload hx hb dX4_addMissed_26 (lv_at hl 0 rfl) ?_
    refine lv_iconst (v := 3) hx hb dX4_addMissed_28 (by decide) ?_
    refine lv_iload hx hb dX4_addMissed_29 (lv_at hl 5 rfl) ?_
    refine va_iast hx hb hK hP hD hS 2 0 rfl rfl (by unfold vp_in; decide) dX4_addMissed_31 (fun H locs hP hD hS => ?_)
    rw [show ((3 : Int32)).toNatClampNeg = 3 from rfl] at hP hD
    have hp4 : vp_in ((upd (upd (upd (upd m0f 0 (nI k)) 1 x) 2 x2) 3 x3) 0) 6 := by rw [pk_un (by decide)]; exact hp3
    have hP : va_P D vwCl [(nw, .inr (4, [.ref kk, .ref nk, .ref nd, .ref ne, .ref nm, .ref nn, .int (nI fi), .int (nI gl), .int (nI un), .int (nI 0), .int (nI no)])), (nm, .inl (y 6, 4, .inr (.inr (.inr (.inr fm))))), (m0, .inl (y 0, 4, .inl (upd (upd (upd (upd m0f 0 (nI k)) 1 x) 2 x2) 3 x3))), (m1, .inl (y 0, 4, .inl m1f)), (m2, .inl (y 0, 4, .inl m2f)), (m3, .inl (y 0, 4, .inl m3f))] H := hP
    have hD : va_D A [(nw, .inr (4, [.ref kk, .ref nk, .ref nd, .ref ne, .ref nm, .ref nn, .int (nI fi), .int (nI gl), .int (nI un), .int (nI 0), .int (nI no)])), (nm, .inl (y 6, 4, .inr (.inr (.inr (.inr fm))))), (m0, .inl (y 0, 4, .inl (upd (upd (upd (upd m0f 0 (nI k)) 1 x) 2 x2) 3 x3))), (m1, .inl (y 0, 4, .inl m1f)), (m2, .inl (y 0, 4, .inl m2f)), (m3, .inl (y 0, 4, .inl m3f))] := hD
    refine lv_aload_n hx hb dX4_addMissed_32 rfl (lv_at hl 1 rfl) ?_
    refine lv_dup hx hb dX4_addMissed_33 rfl ?_
    refine va_get (D := D) (ci := 4) (v := .int (nI 0)) (C := RX4) (T := TX4) (N := 11) hx hb hts iw4 hown hK hP 0 rfl rfl 9 (by decide) fw2 (fun _ h9 => h9) rfl dX4_addMissed_34 ?_
    refine lv_iconst (v := 1) hx hb dX4_addMissed_37 (by decide) ?_
    refine lv_iadd hx hb dX4_addMissed_38 ?_
    rw [show (nI 0) + 1 = nI (1) from nI_add 0 1]
    refine lv_dup_x1 hx hb dX4_addMissed_39 rfl rfl ?_
    refine va_put (D := D) (ci := 4) (v := .int (nI 1)) (ty := .int) (C := RX4) (T := TX4) (N := 11) hx hb hts iw4 tyX4 tyX4_ok nmX4 hown hK hP hD hS 0 rfl rfl 9 (by decide) fw2 (fun _ h9 => h9) rfl (by decide +kernel) rfl rfl (Nat.le_of_ble_eq_true rfl) dX4_addMissed_40 (fun H locs hP hD hS => ?_)
    have hP : va_P D vwCl [(nw, .inr (4, [.ref kk, .ref nk, .ref nd, .ref ne, .ref nm, .ref nn, .int (nI fi), .int (nI gl), .int (nI un), .int (nI 1), .int (nI no)])), (nm, .inl (y 6, 4, .inr (.inr (.inr (.inr fm))))), (m0, .inl (y 0, 4, .inl (upd (upd (upd (upd m0f 0 (nI k)) 1 x) 2 x2) 3 x3))), (m1, .inl (y 0, 4, .inl m1f)), (m2, .inl (y 0, 4, .inl m2f)), (m3, .inl (y 0, 4, .inl m3f))] H := hP
    have hD : va_D A [(nw, .inr (4, [.ref kk, .ref nk, .ref nd, .ref ne, .ref nm, .ref nn, .int (nI fi), .int (nI gl), .int (nI un), .int (nI 1), .int (nI no)])), (nm, .inl (y 6, 4, .inr (.inr (.inr (.inr fm))))), (m0, .inl (y 0, 4, .inl (upd (upd (upd (upd m0f 0 (nI k)) 1 x) 2 x2) 3 x3))), (m1, .inl (y 0, 4, .inl m1f)), (m2, .inl (y 0, 4, .inl m2f)), (m3, .inl (y 0, 4, .inl m3f))] := hD
    exact W.iret (v := (nI 1)) hx hb hr (fun tZ ht hW => ⟨⟨(nI 1), ((upd (upd (upd (upd m0f 0 (nI k)) 1 x) 2 x2) 3 x3), m1f, m2f, m3f), rfl, ⟨hp4, hm1f, hm2f, hm3f, rfl⟩, by rw [ht]; exact hP.sub [0, 1, 2, 3, 4, 5] rfl, hD.sub [0, 1, 2, 3, 4, 5] (by decide) rfl⟩, hS.F ht⟩) hS.2.2 dX4_addMissed_43
  · skip
    refine kw_aldQ hx hb hK hP 1 6 rfl rfl (vp_in_nI (by omega) (by decide)) dX4_addMissed_8 ?_
    rw [nI_clamp (n := 1) (by omega), show va_rf (fm 1) = .ref m1 from congrArg va_rf hm1]
    refine lv_astore (lv' := [(5, .ref m1), (0, .ref nw), (1, .int (nI k)), (2, .int x), (3, .int x2), (4, .int x3)]) hx hb dX4_addMissed_9 hl (by decide) rfl (fun ls hl => ?_)
    refine lv_aload hx hb dX4_addMissed_11 (lv_at hl 0 rfl) ?_
    refine lv_iconst (v := 0) hx hb dX4_addMissed_13 (by decide) ?_
    refine lv_iload_n hx hb dX4_addMissed_14 rfl (lv_at hl 2 rfl) ?_
    refine va_iast hx hb hK hP hD hS 3 0 rfl rfl (by unfold vp_in; decide) dX4_addMissed_15 (fun H locs hP hD hS => ?_)
    rw [show ((0 : Int32)).toNatClampNeg = 0 from rfl] at hP hD
    have hp5 : vp_in ((upd m1f 0 (nI k)) 0) 6 := by rw [pk_us]; exact (vp_in_nI (by omega) (by decide))
    have hP : va_P D vwCl [(nw, .inr (4, [.ref kk, .ref nk, .ref nd, .ref ne, .ref nm, .ref nn, .int (nI fi), .int (nI gl), .int (nI un), .int (nI 1), .int (nI no)])), (nm, .inl (y 6, 4, .inr (.inr (.inr (.inr fm))))), (m0, .inl (y 0, 4, .inl m0f)), (m1, .inl (y 0, 4, .inl (upd m1f 0 (nI k)))), (m2, .inl (y 0, 4, .inl m2f)), (m3, .inl (y 0, 4, .inl m3f))] H := hP
    have hD : va_D A [(nw, .inr (4, [.ref kk, .ref nk, .ref nd, .ref ne, .ref nm, .ref nn, .int (nI fi), .int (nI gl), .int (nI un), .int (nI 1), .int (nI no)])), (nm, .inl (y 6, 4, .inr (.inr (.inr (.inr fm))))), (m0, .inl (y 0, 4, .inl m0f)), (m1, .inl (y 0, 4, .inl (upd m1f 0 (nI k)))), (m2, .inl (y 0, 4, .inl m2f)), (m3, .inl (y 0, 4, .inl m3f))] := hD
    refine lv_aload hx hb dX4_addMissed_16 (lv_at hl 0 rfl) ?_
    refine lv_iconst (v := 1) hx hb dX4_addMissed_18 (by decide) ?_
    refine lv_iload_n hx hb dX4_addMissed_19 rfl (lv_at hl 3 rfl) ?_
    refine va_iast hx hb hK hP hD hS 3 0 rfl rfl (by unfold vp_in; decide) dX4_addMissed_20 (fun H locs hP hD hS => ?_)
    rw [show ((1 : Int32)).toNatClampNeg = 1 from rfl] at hP hD
    have hp6 : vp_in ((upd (upd m1f 0 (nI k)) 1 x) 0) 6 := by rw [pk_un (by decide)]; exact hp5
    have hP : va_P D vwCl [(nw, .inr (4, [.ref kk, .ref nk, .ref nd, .ref ne, .ref nm, .ref nn, .int (nI fi), .int (nI gl), .int (nI un), .int (nI 1), .int (nI no)])), (nm, .inl (y 6, 4, .inr (.inr (.inr (.inr fm))))), (m0, .inl (y 0, 4, .inl m0f)), (m1, .inl (y 0, 4, .inl (upd (upd m1f 0 (nI k)) 1 x))), (m2, .inl (y 0, 4, .inl m2f)), (m3, .inl (y 0, 4, .inl m3f))] H := hP
    have hD : va_D A [(nw, .inr (4, [.ref kk, .ref nk, .ref nd, .ref ne, .ref nm, .ref nn, .int (nI fi), .int (nI gl), .int (nI un), .int (nI 1), .int (nI no)])), (nm, .inl (y 6, 4, .inr (.inr (.inr (.inr fm))))), (m0, .inl (y 0, 4, .inl m0f)), (m1, .inl (y 0, 4, .inl (upd (upd m1f 0 (nI k)) 1 x))), (m2, .inl (y 0, 4, .inl m2f)), (m3, .inl (y 0, 4, .inl m3f))] := hD
    refine lv_aload hx hb dX4_addMissed_21 (lv_at hl 0 rfl) ?_
    refine lv_iconst (v := 2) hx hb dX4_addMissed_23 (by decide) ?_
    refine lv_iload_n hx hb dX4_addMissed_24 rfl (lv_at hl 4 rfl) ?_
    refine va_iast hx hb hK hP hD hS 3 0 rfl rfl (by unfold vp_in; decide) dX4_addMissed_25 (fun H locs hP hD hS => ?_)
    rw [show ((2 : Int32)).toNatClampNeg = 2 from rfl] at hP hD
    have hp7 : vp_in ((upd (upd (upd m1f 0 (nI k)) 1 x) 2 x2) 0) 6 := by rw [pk_un (by decide)]; exact hp6
    have hP : va_P D vwCl [(nw, .inr (4, [.ref kk, .ref nk, .ref nd, .ref ne, .ref nm, .ref nn, .int (nI fi), .int (nI gl), .int (nI un), .int (nI 1), .int (nI no)])), (nm, .inl (y 6, 4, .inr (.inr (.inr (.inr fm))))), (m0, .inl (y 0, 4, .inl m0f)), (m1, .inl (y 0, 4, .inl (upd (upd (upd m1f 0 (nI k)) 1 x) 2 x2))), (m2, .inl (y 0, 4, .inl m2f)), (m3, .inl (y 0, 4, .inl m3f))] H := hP
    have hD : va_D A [(nw, .inr (4, [.ref kk, .ref nk, .ref nd, .ref ne, .ref nm, .ref nn, .int (nI fi), .int (nI gl), .int (nI un), .int (nI 1), .int (nI no)])), (nm, .inl (y 6, 4, .inr (.inr (.inr (.inr fm))))), (m0, .inl (y 0, 4, .inl m0f)), (m1, .inl (y 0, 4, .inl (upd (upd (upd m1f 0 (nI k)) 1 x) 2 x2))), (m2, .inl (y 0, 4, .inl m2f)), (m3, .inl (y 0, 4, .inl m3f))] := hD
    refine lv_aload hx hb dX4_addMissed_26 (lv_at hl 0 rfl) ?_
    refine lv_iconst (v := 3) hx hb dX4_addMissed_28 (by decide) ?_
    refine lv_iload hx hb dX4_addMissed_29 (lv_at hl 5 rfl) ?_
    refine va_iast hx hb hK hP hD hS 3 0 rfl rfl (by unfold vp_in; decide) dX4_addMissed_31 (fun H locs hP hD hS => ?_)
    rw [show ((3 : Int32)).toNatClampNeg = 3 from rfl] at hP hD
    have hp8 : vp_in ((upd (upd (upd (upd m1f 0 (nI k)) 1 x) 2 x2) 3 x3) 0) 6 := by rw [pk_un (by decide)]; exact hp7
    have hP : va_P D vwCl [(nw, .inr (4, [.ref kk, .ref nk, .ref nd, .ref ne, .ref nm, .ref nn, .int (nI fi), .int (nI gl), .int (nI un), .int (nI 1), .int (nI no)])), (nm, .inl (y 6, 4, .inr (.inr (.inr (.inr fm))))), (m0, .inl (y 0, 4, .inl m0f)), (m1, .inl (y 0, 4, .inl (upd (upd (upd (upd m1f 0 (nI k)) 1 x) 2 x2) 3 x3))), (m2, .inl (y 0, 4, .inl m2f)), (m3, .inl (y 0, 4, .inl m3f))] H := hP
    have hD : va_D A [(nw, .inr (4, [.ref kk, .ref nk, .ref nd, .ref ne, .ref nm, .ref nn, .int (nI fi), .int (nI gl), .int (nI un), .int (nI 1), .int (nI no)])), (nm, .inl (y 6, 4, .inr (.inr (.inr (.inr fm))))), (m0, .inl (y 0, 4, .inl m0f)), (m1, .inl (y 0, 4, .inl (upd (upd (upd (upd m1f 0 (nI k)) 1 x) 2 x2) 3 x3))), (m2, .inl (y 0, 4, .inl m2f)), (m3, .inl (y 0, 4, .inl m3f))] := hD
    refine lv_aload_n hx hb dX4_addMissed_32 rfl (lv_at hl 1 rfl) ?_
    refine lv_dup hx hb dX4_addMissed_33 rfl ?_
    refine va_get (D := D) (ci := 4) (v := .int (nI 1)) (C := RX4) (T := TX4) (N := 11) hx hb hts iw4 hown hK hP 0 rfl rfl 9 (by decide) fw2 (fun _ h9 => h9) rfl dX4_addMissed_34 ?_
    refine lv_iconst (v := 1) hx hb dX4_addMissed_37 (by decide) ?_
    refine lv_iadd hx hb dX4_addMissed_38 ?_
    rw [show (nI 1) + 1 = nI (2) from nI_add 1 1]
    refine lv_dup_x1 hx hb dX4_addMissed_39 rfl rfl ?_
    refine va_put (D := D) (ci := 4) (v := .int (nI 2)) (ty := .int) (C := RX4) (T := TX4) (N := 11) hx hb hts iw4 tyX4 tyX4_ok nmX4 hown hK hP hD hS 0 rfl rfl 9 (by decide) fw2 (fun _ h9 => h9) rfl (by decide +kernel) rfl rfl (Nat.le_of_ble_eq_true rfl) dX4_addMissed_40 (fun H locs hP hD hS => ?_)
    have hP : va_P D vwCl [(nw, .inr (4, [.ref kk, .ref nk, .ref nd, .ref ne, .ref nm, .ref nn, .int (nI fi), .int (nI gl), .int (nI un), .int (nI 2), .int (nI no)])), (nm, .inl (y 6, 4, .inr (.inr (.inr (.inr fm))))), (m0, .inl (y 0, 4, .inl m0f)), (m1, .inl (y 0, 4, .inl (upd (upd (upd (upd m1f 0 (nI k)) 1 x) 2 x2) 3 x3))), (m2, .inl (y 0, 4, .inl m2f)), (m3, .inl (y 0, 4, .inl m3f))] H := hP
    have hD : va_D A [(nw, .inr (4, [.ref kk, .ref nk, .ref nd, .ref ne, .ref nm, .ref nn, .int (nI fi), .int (nI gl), .int (nI un), .int (nI 2), .int (nI no)])), (nm, .inl (y 6, 4, .inr (.inr (.inr (.inr fm))))), (m0, .inl (y 0, 4, .inl m0f)), (m1, .inl (y 0, 4, .inl (upd (upd (upd (upd m1f 0 (nI k)) 1 x) 2 x2) 3 x3))), (m2, .inl (y 0, 4, .inl m2f)), (m3, .inl (y 0, 4, .inl m3f))] := hD
    exact W.iret (v := (nI 2)) hx hb hr (fun tZ ht hW => ⟨⟨(nI 2), (m0f, (upd (upd (upd (upd m1f 0 (nI k)) 1 x) 2 x2) 3 x3), m2f, m3f), rfl, ⟨hm0f, hp8, hm2f, hm3f, rfl⟩, by rw [ht]; exact hP.sub [0, 1, 2, 3, 4, 5] rfl, hD.sub [0, 1, 2, 3, 4, 5] (by decide) rfl⟩, hS.F ht⟩) hS.2.2 dX4_addMissed_43
  · skip
    refine kw_aldQ hx hb hK hP 1 6 rfl rfl (vp_in_nI (by omega) (by decide)) dX4_addMissed_8 ?_
    rw [nI_clamp (n := 2) (by omega), show va_rf (fm 2) = .ref m2 from congrArg va_rf hm2]
    refine lv_astore (lv' := [(5, .ref m2), (0, .ref nw), (1, .int (nI k)), (2, .int x), (3, .int x2), (4, .int x3)]) hx hb dX4_addMissed_9 hl (by decide) rfl (fun ls hl => ?_)
    refine lv_aload hx hb dX4_addMissed_11 (lv_at hl 0 rfl) ?_
    refine lv_iconst (v := 0) hx hb dX4_addMissed_13 (by decide) ?_
    refine lv_iload_n hx hb dX4_addMissed_14 rfl (lv_at hl 2 rfl) ?_
    refine va_iast hx hb hK hP hD hS 4 0 rfl rfl (by unfold vp_in; decide) dX4_addMissed_15 (fun H locs hP hD hS => ?_)
    rw [show ((0 : Int32)).toNatClampNeg = 0 from rfl] at hP hD
    have hp9 : vp_in ((upd m2f 0 (nI k)) 0) 6 := by rw [pk_us]; exact (vp_in_nI (by omega) (by decide))
    have hP : va_P D vwCl [(nw, .inr (4, [.ref kk, .ref nk, .ref nd, .ref ne, .ref nm, .ref nn, .int (nI fi), .int (nI gl), .int (nI un), .int (nI 2), .int (nI no)])), (nm, .inl (y 6, 4, .inr (.inr (.inr (.inr fm))))), (m0, .inl (y 0, 4, .inl m0f)), (m1, .inl (y 0, 4, .inl m1f)), (m2, .inl (y 0, 4, .inl (upd m2f 0 (nI k)))), (m3, .inl (y 0, 4, .inl m3f))] H := hP
    have hD : va_D A [(nw, .inr (4, [.ref kk, .ref nk, .ref nd, .ref ne, .ref nm, .ref nn, .int (nI fi), .int (nI gl), .int (nI un), .int (nI 2), .int (nI no)])), (nm, .inl (y 6, 4, .inr (.inr (.inr (.inr fm))))), (m0, .inl (y 0, 4, .inl m0f)), (m1, .inl (y 0, 4, .inl m1f)), (m2, .inl (y 0, 4, .inl (upd m2f 0 (nI k)))), (m3, .inl (y 0, 4, .inl m3f))] := hD
    refine lv_aload hx hb dX4_addMissed_16 (lv_at hl 0 rfl) ?_
    refine lv_iconst (v := 1) hx hb dX4_addMissed_18 (by decide) ?_
    refine lv_iload_n hx hb dX4_addMissed_19 rfl (lv_at hl 3 rfl) ?_
    refine va_iast hx hb hK hP hD hS 4 0 rfl rfl (by unfold vp_in; decide) dX4_addMissed_20 (fun H locs hP hD hS => ?_)
    rw [show ((1 : Int32)).toNatClampNeg = 1 from rfl] at hP hD
    have hp10 : vp_in ((upd (upd m2f 0 (nI k)) 1 x) 0) 6 := by rw [pk_un (by decide)]; exact hp9
    have hP : va_P D vwCl [(nw, .inr (4, [.ref kk, .ref nk, .ref nd, .ref ne, .ref nm, .ref nn, .int (nI fi), .int (nI gl), .int (nI un), .int (nI 2), .int (nI no)])), (nm, .inl (y 6, 4, .inr (.inr (.inr (.inr fm))))), (m0, .inl (y 0, 4, .inl m0f)), (m1, .inl (y 0, 4, .inl m1f)), (m2, .inl (y 0, 4, .inl (upd (upd m2f 0 (nI k)) 1 x))), (m3, .inl (y 0, 4, .inl m3f))] H := hP
    have hD : va_D A [(nw, .inr (4, [.ref kk, .ref nk, .ref nd, .ref ne, .ref nm, .ref nn, .int (nI fi), .int (nI gl), .int (nI un), .int (nI 2), .int (nI no)])), (nm, .inl (y 6, 4, .inr (.inr (.inr (.inr fm))))), (m0, .inl (y 0, 4, .inl m0f)), (m1, .inl (y 0, 4, .inl m1f)), (m2, .inl (y 0, 4, .inl (upd (upd m2f 0 (nI k)) 1 x))), (m3, .inl (y 0, 4, .inl m3f))] := hD
    refine lv_aload hx hb dX4_addMissed_21 (lv_at hl 0 rfl) ?_
    refine lv_iconst (v := 2) hx hb dX4_addMissed_23 (by decide) ?_
    refine lv_iload_n hx hb dX4_addMissed_24 rfl (lv_at hl 4 rfl) ?_
    refine va_iast hx hb hK hP hD hS 4 0 rfl rfl (by unfold vp_in; decide) dX4_addMissed_25 (fun H locs hP hD hS => ?_)
    rw [show ((2 : Int32)).toNatClampNeg = 2 from rfl] at hP hD
    have hp11 : vp_in ((upd (upd (upd m2f 0 (nI k)) 1 x) 2 x2) 0) 6 := by rw [pk_un (by decide)]; exact hp10
    have hP : va_P D vwCl [(nw, .inr (4, [.ref kk, .ref nk, .ref nd, .ref ne, .ref nm, .ref nn, .int (nI fi), .int (nI gl), .int (nI un), .int (nI 2), .int (nI no)])), (nm, .inl (y 6, 4, .inr (.inr (.inr (.inr fm))))), (m0, .inl (y 0, 4, .inl m0f)), (m1, .inl (y 0, 4, .inl m1f)), (m2, .inl (y 0, 4, .inl (upd (upd (upd m2f 0 (nI k)) 1 x) 2 x2))), (m3, .inl (y 0, 4, .inl m3f))] H := hP
    have hD : va_D A [(nw, .inr (4, [.ref kk, .ref nk, .ref nd, .ref ne, .ref nm, .ref nn, .int (nI fi), .int (nI gl), .int (nI un), .int (nI 2), .int (nI no)])), (nm, .inl (y 6, 4, .inr (.inr (.inr (.inr fm))))), (m0, .inl (y 0, 4, .inl m0f)), (m1, .inl (y 0, 4, .inl m1f)), (m2, .inl (y 0, 4, .inl (upd (upd (upd m2f 0 (nI k)) 1 x) 2 x2))), (m3, .inl (y 0, 4, .inl m3f))] := hD
    refine lv_aload hx hb dX4_addMissed_26 (lv_at hl 0 rfl) ?_
    refine lv_iconst (v := 3) hx hb dX4_addMissed_28 (by decide) ?_
    refine lv_iload hx hb dX4_addMissed_29 (lv_at hl 5 rfl) ?_
    refine va_iast hx hb hK hP hD hS 4 0 rfl rfl (by unfold vp_in; decide) dX4_addMissed_31 (fun H locs hP hD hS => ?_)
    rw [show ((3 : Int32)).toNatClampNeg = 3 from rfl] at hP hD
    have hp12 : vp_in ((upd (upd (upd (upd m2f 0 (nI k)) 1 x) 2 x2) 3 x3) 0) 6 := by rw [pk_un (by decide)]; exact hp11
    have hP : va_P D vwCl [(nw, .inr (4, [.ref kk, .ref nk, .ref nd, .ref ne, .ref nm, .ref nn, .int (nI fi), .int (nI gl), .int (nI un), .int (nI 2), .int (nI no)])), (nm, .inl (y 6, 4, .inr (.inr (.inr (.inr fm))))), (m0, .inl (y 0, 4, .inl m0f)), (m1, .inl (y 0, 4, .inl m1f)), (m2, .inl (y 0, 4, .inl (upd (upd (upd (upd m2f 0 (nI k)) 1 x) 2 x2) 3 x3))), (m3, .inl (y 0, 4, .inl m3f))] H := hP
    have hD : va_D A [(nw, .inr (4, [.ref kk, .ref nk, .ref nd, .ref ne, .ref nm, .ref nn, .int (nI fi), .int (nI gl), .int (nI un), .int (nI 2), .int (nI no)])), (nm, .inl (y 6, 4, .inr (.inr (.inr (.inr fm))))), (m0, .inl (y 0, 4, .inl m0f)), (m1, .inl (y 0, 4, .inl m1f)), (m2, .inl (y 0, 4, .inl (upd (upd (upd (upd m2f 0 (nI k)) 1 x) 2 x2) 3 x3))), (m3, .inl (y 0, 4, .inl m3f))] := hD
    refine lv_aload_n hx hb dX4_addMissed_32 rfl (lv_at hl 1 rfl) ?_
    refine lv_dup hx hb dX4_addMissed_33 rfl ?_
    refine va_get (D := D) (ci := 4) (v := .int (nI 2)) (C := RX4) (T := TX4) (N := 11) hx hb hts iw4 hown hK hP 0 rfl rfl 9 (by decide) fw2 (fun _ h9 => h9) rfl dX4_addMissed_34 ?_
    refine lv_iconst (v := 1) hx hb dX4_addMissed_37 (by decide) ?_
    refine lv_iadd hx hb dX4_addMissed_38 ?_
    rw [show (nI 2) + 1 = nI (3) from nI_add 2 1]
    refine lv_dup_x1 hx hb dX4_addMissed_39 rfl rfl ?_
    refine va_put (D := D) (ci := 4) (v := .int (nI 3)) (ty := .int) (C := RX4) (T := TX4) (N := 11) hx hb hts iw4 tyX4 tyX4_ok nmX4 hown hK hP hD hS 0 rfl rfl 9 (by decide) fw2 (fun _ h9 => h9) rfl (by decide +kernel) rfl rfl (Nat.le_of_ble_eq_true rfl) dX4_addMissed_40 (fun H locs hP hD hS => ?_)
    have hP : va_P D vwCl [(nw, .inr (4, [.ref kk, .ref nk, .ref nd, .ref ne, .ref nm, .ref nn, .int (nI fi), .int (nI gl), .int (nI un), .int (nI 3), .int (nI no)])), (nm, .inl (y 6, 4, .inr (.inr (.inr (.inr fm))))), (m0, .inl (y 0, 4, .inl m0f)), (m1, .inl (y 0, 4, .inl m1f)), (m2, .inl (y 0, 4, .inl (upd (upd (upd (upd m2f 0 (nI k)) 1 x) 2 x2) 3 x3))), (m3, .inl (y 0, 4, .inl m3f))] H := hP
    have hD : va_D A [(nw, .inr (4, [.ref kk, .ref nk, .ref nd, .ref ne, .ref nm, .ref nn, .int (nI fi), .int (nI gl), .int (nI un), .int (nI 3), .int (nI no)])), (nm, .inl (y 6, 4, .inr (.inr (.inr (.inr fm))))), (m0, .inl (y 0, 4, .inl m0f)), (m1, .inl (y 0, 4, .inl m1f)), (m2, .inl (y 0, 4, .inl (upd (upd (upd (upd m2f 0 (nI k)) 1 x) 2 x2) 3 x3))), (m3, .inl (y 0, 4, .inl m3f))] := hD
    exact W.iret (v := (nI 3)) hx hb hr (fun tZ ht hW => ⟨⟨(nI 3), (m0f, m1f, (upd (upd (upd (upd m2f 0 (nI k)) 1 x) 2 x2) 3 x3), m3f), rfl, ⟨hm0f, hm1f, hp12, hm3f, rfl⟩, by rw [ht]; exact hP.sub [0, 1, 2, 3, 4, 5] rfl, hD.sub [0, 1, 2, 3, 4, 5] (by decide) rfl⟩, hS.F ht⟩) hS.2.2 dX4_addMissed_43
  · skip
    refine kw_aldQ hx hb hK hP 1 6 rfl rfl (vp_in_nI (by omega) (by decide)) dX4_addMissed_8 ?_
    rw [nI_clamp (n := 3) (by omega), show va_rf (fm 3) = .ref m3 from congrArg va_rf hm3]
    refine lv_astore (lv' := [(5, .ref m3), (0, .ref nw), (1, .int (nI k)), (2, .int x), (3, .int x2), (4, .int x3)]) hx hb dX4_addMissed_9 hl (by decide) rfl (fun ls hl => ?_)
    refine lv_aload hx hb dX4_addMissed_11 (lv_at hl 0 rfl) ?_
    refine lv_iconst (v := 0) hx hb dX4_addMissed_13 (by decide) ?_
    refine lv_iload_n hx hb dX4_addMissed_14 rfl (lv_at hl 2 rfl) ?_
    refine va_iast hx hb hK hP hD hS 5 0 rfl rfl (by unfold vp_in; decide) dX4_addMissed_15 (fun H locs hP hD hS => ?_)
    rw [show ((0 : Int32)).toNatClampNeg = 0 from rfl] at hP hD
    have hp13 : vp_in ((upd m3f 0 (nI k)) 0) 6 := by rw [pk_us]; exact (vp_in_nI (by omega) (by decide))
    have hP : va_P D vwCl [(nw, .inr (4, [.ref kk, .ref nk, .ref nd, .ref ne, .ref nm, .ref nn, .int (nI fi), .int (nI gl), .int (nI un), .int (nI 3), .int (nI no)])), (nm, .inl (y 6, 4, .inr (.inr (.inr (.inr fm))))), (m0, .inl (y 0, 4, .inl m0f)), (m1, .inl (y 0, 4, .inl m1f)), (m2, .inl (y 0, 4, .inl m2f)), (m3, .inl (y 0, 4, .inl (upd m3f 0 (nI k))))] H := hP
    have hD : va_D A [(nw, .inr (4, [.ref kk, .ref nk, .ref nd, .ref ne, .ref nm, .ref nn, .int (nI fi), .int (nI gl), .int (nI un), .int (nI 3), .int (nI no)])), (nm, .inl (y 6, 4, .inr (.inr (.inr (.inr fm))))), (m0, .inl (y 0, 4, .inl m0f)), (m1, .inl (y 0, 4, .inl m1f)), (m2, .inl (y 0, 4, .inl m2f)), (m3, .inl (y 0, 4, .inl (upd m3f 0 (nI k))))] := hD
    refine lv_aload hx hb dX4_addMissed_16 (lv_at hl 0 rfl) ?_
    refine lv_iconst (v := 1) hx hb dX4_addMissed_18 (by decide) ?_
    refine lv_iload_n hx hb dX4_addMissed_19 rfl (lv_at hl 3 rfl) ?_
    refine va_iast hx hb hK hP hD hS 5 0 rfl rfl (by unfold vp_in; decide) dX4_addMissed_20 (fun H locs hP hD hS => ?_)
    rw [show ((1 : Int32)).toNatClampNeg = 1 from rfl] at hP hD
    have hp14 : vp_in ((upd (upd m3f 0 (nI k)) 1 x) 0) 6 := by rw [pk_un (by decide)]; exact hp13
    have hP : va_P D vwCl [(nw, .inr (4, [.ref kk, .ref nk, .ref nd, .ref ne, .ref nm, .ref nn, .int (nI fi), .int (nI gl), .int (nI un), .int (nI 3), .int (nI no)])), (nm, .inl (y 6, 4, .inr (.inr (.inr (.inr fm))))), (m0, .inl (y 0, 4, .inl m0f)), (m1, .inl (y 0, 4, .inl m1f)), (m2, .inl (y 0, 4, .inl m2f)), (m3, .inl (y 0, 4, .inl (upd (upd m3f 0 (nI k)) 1 x)))] H := hP
    have hD : va_D A [(nw, .inr (4, [.ref kk, .ref nk, .ref nd, .ref ne, .ref nm, .ref nn, .int (nI fi), .int (nI gl), .int (nI un), .int (nI 3), .int (nI no)])), (nm, .inl (y 6, 4, .inr (.inr (.inr (.inr fm))))), (m0, .inl (y 0, 4, .inl m0f)), (m1, .inl (y 0, 4, .inl m1f)), (m2, .inl (y 0, 4, .inl m2f)), (m3, .inl (y 0, 4, .inl (upd (upd m3f 0 (nI k)) 1 x)))] := hD
    refine lv_aload hx hb dX4_addMissed_21 (lv_at hl 0 rfl) ?_
    refine lv_iconst (v := 2) hx hb dX4_addMissed_23 (by decide) ?_
    refine lv_iload_n hx hb dX4_addMissed_24 rfl (lv_at hl 4 rfl) ?_
    refine va_iast hx hb hK hP hD hS 5 0 rfl rfl (by unfold vp_in; decide) dX4_addMissed_25 (fun H locs hP hD hS => ?_)
    rw [show ((2 : Int32)).toNatClampNeg = 2 from rfl] at hP hD
    have hp15 : vp_in ((upd (upd (upd m3f 0 (nI k)) 1 x) 2 x2) 0) 6 := by rw [pk_un (by decide)]; exact hp14
    have hP : va_P D vwCl [(nw, .inr (4, [.ref kk, .ref nk, .ref nd, .ref ne, .ref nm, .ref nn, .int (nI fi), .int (nI gl), .int (nI un), .int (nI 3), .int (nI no)])), (nm, .inl (y 6, 4, .inr (.inr (.inr (.inr fm))))), (m0, .inl (y 0, 4, .inl m0f)), (m1, .inl (y 0, 4, .inl m1f)), (m2, .inl (y 0, 4, .inl m2f)), (m3, .inl (y 0, 4, .inl (upd (upd (upd m3f 0 (nI k)) 1 x) 2 x2)))] H := hP
    have hD : va_D A [(nw, .inr (4, [.ref kk, .ref nk, .ref nd, .ref ne, .ref nm, .ref nn, .int (nI fi), .int (nI gl), .int (nI un), .int (nI 3), .int (nI no)])), (nm, .inl (y 6, 4, .inr (.inr (.inr (.inr fm))))), (m0, .inl (y 0, 4, .inl m0f)), (m1, .inl (y 0, 4, .inl m1f)), (m2, .inl (y 0, 4, .inl m2f)), (m3, .inl (y 0, 4, .inl (upd (upd (upd m3f 0 (nI k)) 1 x) 2 x2)))] := hD
    refine lv_aload hx hb dX4_addMissed_26 (lv_at hl 0 rfl) ?_
    refine lv_iconst (v := 3) hx hb dX4_addMissed_28 (by decide) ?_
    refine lv_iload hx hb dX4_addMissed_29 (lv_at hl 5 rfl) ?_
    refine va_iast hx hb hK hP hD hS 5 0 rfl rfl (by unfold vp_in; decide) dX4_addMissed_31 (fun H locs hP hD hS => ?_)
    rw [show ((3 : Int32)).toNatClampNeg = 3 from rfl] at hP hD
    have hp16 : vp_in ((upd (upd (upd (upd m3f 0 (nI k)) 1 x) 2 x2) 3 x3) 0) 6 := by rw [pk_un (by decide)]; exact hp15
    have hP : va_P D vwCl [(nw, .inr (4, [.ref kk, .ref nk, .ref nd, .ref ne, .ref nm, .ref nn, .int (nI fi), .int (nI gl), .int (nI un), .int (nI 3), .int (nI no)])), (nm, .inl (y 6, 4, .inr (.inr (.inr (.inr fm))))), (m0, .inl (y 0, 4, .inl m0f)), (m1, .inl (y 0, 4, .inl m1f)), (m2, .inl (y 0, 4, .inl m2f)), (m3, .inl (y 0, 4, .inl (upd (upd (upd (upd m3f 0 (nI k)) 1 x) 2 x2) 3 x3)))] H := hP
    have hD : va_D A [(nw, .inr (4, [.ref kk, .ref nk, .ref nd, .ref ne, .ref nm, .ref nn, .int (nI fi), .int (nI gl), .int (nI un), .int (nI 3), .int (nI no)])), (nm, .inl (y 6, 4, .inr (.inr (.inr (.inr fm))))), (m0, .inl (y 0, 4, .inl m0f)), (m1, .inl (y 0, 4, .inl m1f)), (m2, .inl (y 0, 4, .inl m2f)), (m3, .inl (y 0, 4, .inl (upd (upd (upd (upd m3f 0 (nI k)) 1 x) 2 x2) 3 x3)))] := hD
    refine lv_aload_n hx hb dX4_addMissed_32 rfl (lv_at hl 1 rfl) ?_
    refine lv_dup hx hb dX4_addMissed_33 rfl ?_
    refine va_get (D := D) (ci := 4) (v := .int (nI 3)) (C := RX4) (T := TX4) (N := 11) hx hb hts iw4 hown hK hP 0 rfl rfl 9 (by decide) fw2 (fun _ h9 => h9) rfl dX4_addMissed_34 ?_
    refine lv_iconst (v := 1) hx hb dX4_addMissed_37 (by decide) ?_
    refine lv_iadd hx hb dX4_addMissed_38 ?_
    rw [show (nI 3) + 1 = nI (4) from nI_add 3 1]
    refine lv_dup_x1 hx hb dX4_addMissed_39 rfl rfl ?_
    refine va_put (D := D) (ci := 4) (v := .int (nI 4)) (ty := .int) (C := RX4) (T := TX4) (N := 11) hx hb hts iw4 tyX4 tyX4_ok nmX4 hown hK hP hD hS 0 rfl rfl 9 (by decide) fw2 (fun _ h9 => h9) rfl (by decide +kernel) rfl rfl (Nat.le_of_ble_eq_true rfl) dX4_addMissed_40 (fun H locs hP hD hS => ?_)
    have hP : va_P D vwCl [(nw, .inr (4, [.ref kk, .ref nk, .ref nd, .ref ne, .ref nm, .ref nn, .int (nI fi), .int (nI gl), .int (nI un), .int (nI 4), .int (nI no)])), (nm, .inl (y 6, 4, .inr (.inr (.inr (.inr fm))))), (m0, .inl (y 0, 4, .inl m0f)), (m1, .inl (y 0, 4, .inl m1f)), (m2, .inl (y 0, 4, .inl m2f)), (m3, .inl (y 0, 4, .inl (upd (upd (upd (upd m3f 0 (nI k)) 1 x) 2 x2) 3 x3)))] H := hP
    have hD : va_D A [(nw, .inr (4, [.ref kk, .ref nk, .ref nd, .ref ne, .ref nm, .ref nn, .int (nI fi), .int (nI gl), .int (nI un), .int (nI 4), .int (nI no)])), (nm, .inl (y 6, 4, .inr (.inr (.inr (.inr fm))))), (m0, .inl (y 0, 4, .inl m0f)), (m1, .inl (y 0, 4, .inl m1f)), (m2, .inl (y 0, 4, .inl m2f)), (m3, .inl (y 0, 4, .inl (upd (upd (upd (upd m3f 0 (nI k)) 1 x) 2 x2) 3 x3)))] := hD
    exact W.iret (v := (nI 4)) hx hb hr (fun tZ ht hW => ⟨⟨(nI 4), (m0f, m1f, m2f, (upd (upd (upd (upd m3f 0 (nI k)) 1 x) 2 x2) 3 x3)), rfl, ⟨hm0f, hm1f, hm2f, hp16, rfl⟩, by rw [ht]; exact hP.sub [0, 1, 2, 3, 4, 5] rfl, hD.sub [0, 1, 2, 3, 4, 5] (by decide) rfl⟩, hS.F ht⟩) hS.2.2 dX4_addMissed_43

set_option maxHeartbeats 4000000 in
set_option maxRecDepth 100000 in
theorem gs_addNote (l : Launch) (D : va_G) (y : Nat → ClassId) (nw : Nat) (kk : Nat) (nk : Nat) (nd : Nat) (ne : Nat) (nm : Nat) (nn : Nat) (fi : Nat) (gl : Nat) (un : Nat) (mi : Nat) (no : Nat) (t0 : Nat) (t1 : Nat) (t2 : Nat) (t3 : Nat) (t4 : Nat) (t5 : Nat) (t0f : Nat → Int32) (t1f : Nat → Int32) (t2f : Nat → Int32) (t3f : Nat → Int32) (t4f : Nat → Int32) (t5f : Nat → Int32) (fn_ : Nat → Option Nat) (x0 : Int32) (x : Int32) (x2 : Int32) (x3 : Int32) (x4 : Int32) (hfi : fi ≤ 6) (hgl : gl ≤ 5) (hun : un ≤ 8) (hmi : mi ≤ 4) (hno : no ≤ 6) (hn0 : fn_ 0 = some t0) (hn1 : fn_ 1 = some t1) (hn2 : fn_ 2 = some t2) (hn3 : fn_ 3 = some t3) (hn4 : fn_ 4 = some t4) (hn5 : fn_ 5 = some t5) (hlt : no < 6) : kw_Mi l yX4_addNote wsX4_addNote ({ frames := 1, cells := 0, slots := 0, locals := 60 }) D y [.ref nw, .int x0, .int x, .int x2, .int x3, .int x4] [(nw, .inr (4, [.ref kk, .ref nk, .ref nd, .ref ne, .ref nm, .ref nn, .int (nI fi), .int (nI gl), .int (nI un), .int (nI mi), .int (nI no)])), (nn, .inl (y 6, 6, .inr (.inr (.inr (.inr fn_))))), (t0, .inl (y 0, 5, .inl t0f)), (t1, .inl (y 0, 5, .inl t1f)), (t2, .inl (y 0, 5, .inl t2f)), (t3, .inl (y 0, 5, .inl t3f)), (t4, .inl (y 0, 5, .inl t4f)), (t5, .inl (y 0, 5, .inl t5f))] (fun (r : Int32) (u : (Nat → Int32) × (Nat → Int32) × (Nat → Int32) × (Nat → Int32) × (Nat → Int32) × (Nat → Int32)) => r = (nI (no + 1))) (fun u => [(nw, .inr (4, [.ref kk, .ref nk, .ref nd, .ref ne, .ref nm, .ref nn, .int (nI fi), .int (nI gl), .int (nI un), .int (nI mi), .int (nI (no + 1))])), (nn, .inl (y 6, 6, .inr (.inr (.inr (.inr fn_))))), (t0, .inl (y 0, 5, .inl u.1)), (t1, .inl (y 0, 5, .inl u.2.1)), (t2, .inl (y 0, 5, .inl u.2.2.1)), (t3, .inl (y 0, 5, .inl u.2.2.2.1)), (t4, .inl (y 0, 5, .inl u.2.2.2.2.1)), (t5, .inl (y 0, 5, .inl u.2.2.2.2.2))]) 0 0 := by
  refine kw_Mi.of (cc := cX4_addNote) (maxL := 7) (ret := (some .int)) (by decide) rfl ?_
  intro pZ eZ s mZ beZ meZ cZ A hE
  obtain ⟨hx, hb, hr, hml, hts, hown, hlocks, hin, hA, hP, hD, hK, hN⟩ := hE
  have hS : va_S A s.heap s.heap [] := va_S.rf
  have hl := lv_entry ([.ref nw, .int x0, .int x, .int x2, .int x3, .int x4]) (n := 7) (Nat.le_of_ble_eq_true rfl)
  rw [lg_entry_eq]
  generalize (lg_sl ([.ref nw, .int x0, .int x, .int x2, .int x3, .int x4]) ++ List.replicate (7 - (lg_sl ([.ref nw, .int x0, .int x, .int x2, .int x3, .int x4])).length) Slot.unset).toArray = ls at hl ⊢
  have hl : lv_has ls 7 [(0, .ref nw), (1, .int x0), (2, .int x), (3, .int x2), (4, .int x3), (5, .int x4)] := hl
  have fw1 := hts (.fieldLink RX4 31 "GleanDusk$Parish" "notes" "[[I") (List.mem_of_getElem? (i := 1) rfl)
  have fw2 := hts (.fieldLink RX4 51 "GleanDusk$Parish" "noteCount" "I") (List.mem_of_getElem? (i := 2) rfl)
  have iw4 : ∀ w ∈ wsX40, w ∈ wsX4_addNote := fun _ h => List.mem_cons_of_mem _ (List.mem_append_right _ h)
  refine lv_aload_n hx hb dX4_addNote_0 rfl (lv_at hl 0 rfl) ?_
  refine va_get (D := D) (ci := 4) (v := .ref nn) (C := RX4) (T := TX4) (N := 11) hx hb hts iw4 hown hK hP 0 rfl rfl 5 (by decide) fw1 (fun _ h9 => h9) rfl dX4_addNote_1 ?_
  refine lv_aload_n hx hb dX4_addNote_4 rfl (lv_at hl 0 rfl) ?_
  refine va_get (D := D) (ci := 4) (v := .int (nI no)) (C := RX4) (T := TX4) (N := 11) hx hb hts iw4 hown hK hP 0 rfl rfl 10 (by decide) fw2 (fun _ h9 => h9) rfl dX4_addNote_5 ?_
  rcases (show no = 0 ∨ no = 1 ∨ no = 2 ∨ no = 3 ∨ no = 4 ∨ no = 5 by omega) with rfl | rfl | rfl | rfl | rfl | rfl
  · skip
    refine kw_aldQ hx hb hK hP 1 6 rfl rfl (vp_in_nI (by omega) (by decide)) dX4_addNote_8 ?_
    rw [nI_clamp (n := 0) (by omega), show va_rf (fn_ 0) = .ref t0 from congrArg va_rf hn0]
    refine lv_astore (lv' := [(6, .ref t0), (0, .ref nw), (1, .int x0), (2, .int x), (3, .int x2), (4, .int x3), (5, .int x4)]) hx hb dX4_addNote_9 hl (by decide) rfl (fun ls hl => ?_)
    refine lv_aload hx hb dX4_addNote_11 (lv_at hl 0 rfl) ?_
    refine lv_iconst (v := 0) hx hb dX4_addNote_13 (by decide) ?_
    refine lv_iload_n hx hb dX4_addNote_14 rfl (lv_at hl 2 rfl) ?_
    refine va_iast hx hb hK hP hD hS 2 0 rfl rfl (by unfold vp_in; decide) dX4_addNote_15 (fun H locs hP hD hS => ?_)
    rw [show ((0 : Int32)).toNatClampNeg = 0 from rfl] at hP hD
    have hP : va_P D vwCl [(nw, .inr (4, [.ref kk, .ref nk, .ref nd, .ref ne, .ref nm, .ref nn, .int (nI fi), .int (nI gl), .int (nI un), .int (nI mi), .int (nI 0)])), (nn, .inl (y 6, 6, .inr (.inr (.inr (.inr fn_))))), (t0, .inl (y 0, 5, .inl (upd t0f 0 x0))), (t1, .inl (y 0, 5, .inl t1f)), (t2, .inl (y 0, 5, .inl t2f)), (t3, .inl (y 0, 5, .inl t3f)), (t4, .inl (y 0, 5, .inl t4f)), (t5, .inl (y 0, 5, .inl t5f))] H := hP
    have hD : va_D A [(nw, .inr (4, [.ref kk, .ref nk, .ref nd, .ref ne, .ref nm, .ref nn, .int (nI fi), .int (nI gl), .int (nI un), .int (nI mi), .int (nI 0)])), (nn, .inl (y 6, 6, .inr (.inr (.inr (.inr fn_))))), (t0, .inl (y 0, 5, .inl (upd t0f 0 x0))), (t1, .inl (y 0, 5, .inl t1f)), (t2, .inl (y 0, 5, .inl t2f)), (t3, .inl (y 0, 5, .inl t3f)), (t4, .inl (y 0, 5, .inl t4f)), (t5, .inl (y 0, 5, .inl t5f))] := hD
    refine lv_aload hx hb dX4_addNote_16 (lv_at hl 0 rfl) ?_
    refine lv_iconst (v := 1) hx hb dX4_addNote_18 (by decide) ?_
    refine lv_iload_n hx hb dX4_addNote_19 rfl (lv_at hl 3 rfl) ?_
    refine va_iast hx hb hK hP hD hS 2 0 rfl rfl (by unfold vp_in; decide) dX4_addNote_20 (fun H locs hP hD hS => ?_)
    rw [show ((1 : Int32)).toNatClampNeg = 1 from rfl] at hP hD
    have hP : va_P D vwCl [(nw, .inr (4, [.ref kk, .ref nk, .ref nd, .ref ne, .ref nm, .ref nn, .int (nI fi), .int (nI gl), .int (nI un), .int (nI mi), .int (nI 0)])), (nn, .inl (y 6, 6, .inr (.inr (.inr (.inr fn_))))), (t0, .inl (y 0, 5, .inl (upd (upd t0f 0 x0) 1 x))), (t1, .inl (y 0, 5, .inl t1f)), (t2, .inl (y 0, 5, .inl t2f)), (t3, .inl (y 0, 5, .inl t3f)), (t4, .inl (y 0, 5, .inl t4f)), (t5, .inl (y 0, 5, .inl t5f))] H := hP
    have hD : va_D A [(nw, .inr (4, [.ref kk, .ref nk, .ref nd, .ref ne, .ref nm, .ref nn, .int (nI fi), .int (nI gl), .int (nI un), .int (nI mi), .int (nI 0)])), (nn, .inl (y 6, 6, .inr (.inr (.inr (.inr fn_))))), (t0, .inl (y 0, 5, .inl (upd (upd t0f 0 x0) 1 x))), (t1, .inl (y 0, 5, .inl t1f)), (t2, .inl (y 0, 5, .inl t2f)), (t3, .inl (y 0, 5, .inl t3f)), (t4, .inl (y 0, 5, .inl t4f)), (t5, .inl (y 0, 5, .inl t5f))] := hD
    refine lv_aload hx hb dX4_addNote_21 (lv_at hl 0 rfl) ?_
    refine lv_iconst (v := 2) hx hb dX4_addNote_23 (by decide) ?_
    refine lv_iload_n hx hb dX4_addNote_24 rfl (lv_at hl 4 rfl) ?_
    refine va_iast hx hb hK hP hD hS 2 0 rfl rfl (by unfold vp_in; decide) dX4_addNote_25 (fun H locs hP hD hS => ?_)
    rw [show ((2 : Int32)).toNatClampNeg = 2 from rfl] at hP hD
    have hP : va_P D vwCl [(nw, .inr (4, [.ref kk, .ref nk, .ref nd, .ref ne, .ref nm, .ref nn, .int (nI fi), .int (nI gl), .int (nI un), .int (nI mi), .int (nI 0)])), (nn, .inl (y 6, 6, .inr (.inr (.inr (.inr fn_))))), (t0, .inl (y 0, 5, .inl (upd (upd (upd t0f 0 x0) 1 x) 2 x2))), (t1, .inl (y 0, 5, .inl t1f)), (t2, .inl (y 0, 5, .inl t2f)), (t3, .inl (y 0, 5, .inl t3f)), (t4, .inl (y 0, 5, .inl t4f)), (t5, .inl (y 0, 5, .inl t5f))] H := hP
    have hD : va_D A [(nw, .inr (4, [.ref kk, .ref nk, .ref nd, .ref ne, .ref nm, .ref nn, .int (nI fi), .int (nI gl), .int (nI un), .int (nI mi), .int (nI 0)])), (nn, .inl (y 6, 6, .inr (.inr (.inr (.inr fn_))))), (t0, .inl (y 0, 5, .inl (upd (upd (upd t0f 0 x0) 1 x) 2 x2))), (t1, .inl (y 0, 5, .inl t1f)), (t2, .inl (y 0, 5, .inl t2f)), (t3, .inl (y 0, 5, .inl t3f)), (t4, .inl (y 0, 5, .inl t4f)), (t5, .inl (y 0, 5, .inl t5f))] := hD
    refine lv_aload hx hb dX4_addNote_26 (lv_at hl 0 rfl) ?_
    refine lv_iconst (v := 3) hx hb dX4_addNote_28 (by decide) ?_
    refine lv_iload hx hb dX4_addNote_29 (lv_at hl 5 rfl) ?_
    refine va_iast hx hb hK hP hD hS 2 0 rfl rfl (by unfold vp_in; decide) dX4_addNote_31 (fun H locs hP hD hS => ?_)
    rw [show ((3 : Int32)).toNatClampNeg = 3 from rfl] at hP hD
    have hP : va_P D vwCl [(nw, .inr (4, [.ref kk, .ref nk, .ref nd, .ref ne, .ref nm, .ref nn, .int (nI fi), .int (nI gl), .int (nI un), .int (nI mi), .int (nI 0)])), (nn, .inl (y 6, 6, .inr (.inr (.inr (.inr fn_))))), (t0, .inl (y 0, 5, .inl (upd (upd (upd (upd t0f 0 x0) 1 x) 2 x2) 3 x3))), (t1, .inl (y 0, 5, .inl t1f)), (t2, .inl (y 0, 5, .inl t2f)), (t3, .inl (y 0, 5, .inl t3f)), (t4, .inl (y 0, 5, .inl t4f)), (t5, .inl (y 0, 5, .inl t5f))] H := hP
    have hD : va_D A [(nw, .inr (4, [.ref kk, .ref nk, .ref nd, .ref ne, .ref nm, .ref nn, .int (nI fi), .int (nI gl), .int (nI un), .int (nI mi), .int (nI 0)])), (nn, .inl (y 6, 6, .inr (.inr (.inr (.inr fn_))))), (t0, .inl (y 0, 5, .inl (upd (upd (upd (upd t0f 0 x0) 1 x) 2 x2) 3 x3))), (t1, .inl (y 0, 5, .inl t1f)), (t2, .inl (y 0, 5, .inl t2f)), (t3, .inl (y 0, 5, .inl t3f)), (t4, .inl (y 0, 5, .inl t4f)), (t5, .inl (y 0, 5, .inl t5f))] := hD
    refine lv_aload hx hb dX4_addNote_32 (lv_at hl 0 rfl) ?_
    refine lv_iconst (v := 4) hx hb dX4_addNote_34 (by decide) ?_
    refine lv_iload hx hb dX4_addNote_35 (lv_at hl 6 rfl) ?_
    refine va_iast hx hb hK hP hD hS 2 0 rfl rfl (by unfold vp_in; decide) dX4_addNote_37 (fun H locs hP hD hS => ?_)
    rw [show ((4 : Int32)).toNatClampNeg = 4 from rfl] at hP hD
    have hP : va_P D vwCl [(nw, .inr (4, [.ref kk, .ref nk, .ref nd, .ref ne, .ref nm, .ref nn, .int (nI fi), .int (nI gl), .int (nI un), .int (nI mi), .int (nI 0)])), (nn, .inl (y 6, 6, .inr (.inr (.inr (.inr fn_))))), (t0, .inl (y 0, 5, .inl (upd (upd (upd (upd (upd t0f 0 x0) 1 x) 2 x2) 3 x3) 4 x4))), (t1, .inl (y 0, 5, .inl t1f)), (t2, .inl (y 0, 5, .inl t2f)), (t3, .inl (y 0, 5, .inl t3f)), (t4, .inl (y 0, 5, .inl t4f)), (t5, .inl (y 0, 5, .inl t5f))] H := hP
    have hD : va_D A [(nw, .inr (4, [.ref kk, .ref nk, .ref nd, .ref ne, .ref nm, .ref nn, .int (nI fi), .int (nI gl), .int (nI un), .int (nI mi), .int (nI 0)])), (nn, .inl (y 6, 6, .inr (.inr (.inr (.inr fn_))))), (t0, .inl (y 0, 5, .inl (upd (upd (upd (upd (upd t0f 0 x0) 1 x) 2 x2) 3 x3) 4 x4))), (t1, .inl (y 0, 5, .inl t1f)), (t2, .inl (y 0, 5, .inl t2f)), (t3, .inl (y 0, 5, .inl t3f)), (t4, .inl (y 0, 5, .inl t4f)), (t5, .inl (y 0, 5, .inl t5f))] := hD
    refine lv_aload_n hx hb dX4_addNote_38 rfl (lv_at hl 1 rfl) ?_
    refine lv_dup hx hb dX4_addNote_39 rfl ?_
    refine va_get (D := D) (ci := 4) (v := .int (nI 0)) (C := RX4) (T := TX4) (N := 11) hx hb hts iw4 hown hK hP 0 rfl rfl 10 (by decide) fw2 (fun _ h9 => h9) rfl dX4_addNote_40 ?_
    refine lv_iconst (v := 1) hx hb dX4_addNote_43 (by decide) ?_
    refine lv_iadd hx hb dX4_addNote_44 ?_
    rw [show (nI 0) + 1 = nI (1) from nI_add 0 1]
    refine lv_dup_x1 hx hb dX4_addNote_45 rfl rfl ?_
    refine va_put (D := D) (ci := 4) (v := .int (nI 1)) (ty := .int) (C := RX4) (T := TX4) (N := 11) hx hb hts iw4 tyX4 tyX4_ok nmX4 hown hK hP hD hS 0 rfl rfl 10 (by decide) fw2 (fun _ h9 => h9) rfl (by decide +kernel) rfl rfl (Nat.le_of_ble_eq_true rfl) dX4_addNote_46 (fun H locs hP hD hS => ?_)
    have hP : va_P D vwCl [(nw, .inr (4, [.ref kk, .ref nk, .ref nd, .ref ne, .ref nm, .ref nn, .int (nI fi), .int (nI gl), .int (nI un), .int (nI mi), .int (nI 1)])), (nn, .inl (y 6, 6, .inr (.inr (.inr (.inr fn_))))), (t0, .inl (y 0, 5, .inl (upd (upd (upd (upd (upd t0f 0 x0) 1 x) 2 x2) 3 x3) 4 x4))), (t1, .inl (y 0, 5, .inl t1f)), (t2, .inl (y 0, 5, .inl t2f)), (t3, .inl (y 0, 5, .inl t3f)), (t4, .inl (y 0, 5, .inl t4f)), (t5, .inl (y 0, 5, .inl t5f))] H := hP
    have hD : va_D A [(nw, .inr (4, [.ref kk, .ref nk, .ref nd, .ref ne, .ref nm, .ref nn, .int (nI fi), .int (nI gl), .int (nI un), .int (nI mi), .int (nI 1)])), (nn, .inl (y 6, 6, .inr (.inr (.inr (.inr fn_))))), (t0, .inl (y 0, 5, .inl (upd (upd (upd (upd (upd t0f 0 x0) 1 x) 2 x2) 3 x3) 4 x4))), (t1, .inl (y 0, 5, .inl t1f)), (t2, .inl (y 0, 5, .inl t2f)), (t3, .inl (y 0, 5, .inl t3f)), (t4, .inl (y 0, 5, .inl t4f)), (t5, .inl (y 0, 5, .inl t5f))] := hD
    exact W.iret (v := (nI 1)) hx hb hr (fun tZ ht hW => ⟨⟨(nI 1), ((upd (upd (upd (upd (upd t0f 0 x0) 1 x) 2 x2) 3 x3) 4 x4), t1f, t2f, t3f, t4f, t5f), rfl, rfl, by rw [ht]; exact hP.sub [0, 1, 2, 3, 4, 5, 6, 7] rfl, hD.sub [0, 1, 2, 3, 4, 5, 6, 7] (by decide) rfl⟩, hS.F ht⟩) hS.2.2 dX4_addNote_49
  · skip
    refine kw_aldQ hx hb hK hP 1 6 rfl rfl (vp_in_nI (by omega) (by decide)) dX4_addNote_8 ?_
    rw [nI_clamp (n := 1) (by omega), show va_rf (fn_ 1) = .ref t1 from congrArg va_rf hn1]
    refine lv_astore (lv' := [(6, .ref t1), (0, .ref nw), (1, .int x0), (2, .int x), (3, .int x2), (4, .int x3), (5, .int x4)]) hx hb dX4_addNote_9 hl (by decide) rfl (fun ls hl => ?_)
    refine lv_aload hx hb dX4_addNote_11 (lv_at hl 0 rfl) ?_
    refine lv_iconst (v := 0) hx hb dX4_addNote_13 (by decide) ?_
    refine lv_iload_n hx hb dX4_addNote_14 rfl (lv_at hl 2 rfl) ?_
    refine va_iast hx hb hK hP hD hS 3 0 rfl rfl (by unfold vp_in; decide) dX4_addNote_15 (fun H locs hP hD hS => ?_)
    rw [show ((0 : Int32)).toNatClampNeg = 0 from rfl] at hP hD
    have hP : va_P D vwCl [(nw, .inr (4, [.ref kk, .ref nk, .ref nd, .ref ne, .ref nm, .ref nn, .int (nI fi), .int (nI gl), .int (nI un), .int (nI mi), .int (nI 1)])), (nn, .inl (y 6, 6, .inr (.inr (.inr (.inr fn_))))), (t0, .inl (y 0, 5, .inl t0f)), (t1, .inl (y 0, 5, .inl (upd t1f 0 x0))), (t2, .inl (y 0, 5, .inl t2f)), (t3, .inl (y 0, 5, .inl t3f)), (t4, .inl (y 0, 5, .inl t4f)), (t5, .inl (y 0, 5, .inl t5f))] H := hP
    have hD : va_D A [(nw, .inr (4, [.ref kk, .ref nk, .ref nd, .ref ne, .ref nm, .ref nn, .int (nI fi), .int (nI gl), .int (nI un), .int (nI mi), .int (nI 1)])), (nn, .inl (y 6, 6, .inr (.inr (.inr (.inr fn_))))), (t0, .inl (y 0, 5, .inl t0f)), (t1, .inl (y 0, 5, .inl (upd t1f 0 x0))), (t2, .inl (y 0, 5, .inl t2f)), (t3, .inl (y 0, 5, .inl t3f)), (t4, .inl (y 0, 5, .inl t4f)), (t5, .inl (y 0, 5, .inl t5f))] := hD
    refine lv_aload hx hb dX4_addNote_16 (lv_at hl 0 rfl) ?_
    refine lv_iconst (v := 1) hx hb dX4_addNote_18 (by decide) ?_
    refine lv_iload_n hx hb dX4_addNote_19 rfl (lv_at hl 3 rfl) ?_
    refine va_iast hx hb hK hP hD hS 3 0 rfl rfl (by unfold vp_in; decide) dX4_addNote_20 (fun H locs hP hD hS => ?_)
    rw [show ((1 : Int32)).toNatClampNeg = 1 from rfl] at hP hD
    have hP : va_P D vwCl [(nw, .inr (4, [.ref kk, .ref nk, .ref nd, .ref ne, .ref nm, .ref nn, .int (nI fi), .int (nI gl), .int (nI un), .int (nI mi), .int (nI 1)])), (nn, .inl (y 6, 6, .inr (.inr (.inr (.inr fn_))))), (t0, .inl (y 0, 5, .inl t0f)), (t1, .inl (y 0, 5, .inl (upd (upd t1f 0 x0) 1 x))), (t2, .inl (y 0, 5, .inl t2f)), (t3, .inl (y 0, 5, .inl t3f)), (t4, .inl (y 0, 5, .inl t4f)), (t5, .inl (y 0, 5, .inl t5f))] H := hP
    have hD : va_D A [(nw, .inr (4, [.ref kk, .ref nk, .ref nd, .ref ne, .ref nm, .ref nn, .int (nI fi), .int (nI gl), .int (nI un), .int (nI mi), .int (nI 1)])), (nn, .inl (y 6, 6, .inr (.inr (.inr (.inr fn_))))), (t0, .inl (y 0, 5, .inl t0f)), (t1, .inl (y 0, 5, .inl (upd (upd t1f 0 x0) 1 x))), (t2, .inl (y 0, 5, .inl t2f)), (t3, .inl (y 0, 5, .inl t3f)), (t4, .inl (y 0, 5, .inl t4f)), (t5, .inl (y 0, 5, .inl t5f))] := hD
    refine lv_aload hx hb dX4_addNote_21 (lv_at hl 0 rfl) ?_
    refine lv_iconst (v := 2) hx hb dX4_addNote_23 (by decide) ?_
    refine lv_iload_n hx hb dX4_addNote_24 rfl (lv_at hl 4 rfl) ?_
    refine va_iast hx hb hK hP hD hS 3 0 rfl rfl (by unfold vp_in; decide) dX4_addNote_25 (fun H locs hP hD hS => ?_)
    rw [show ((2 : Int32)).toNatClampNeg = 2 from rfl] at hP hD
    have hP : va_P D vwCl [(nw, .inr (4, [.ref kk, .ref nk, .ref nd, .ref ne, .ref nm, .ref nn, .int (nI fi), .int (nI gl), .int (nI un), .int (nI mi), .int (nI 1)])), (nn, .inl (y 6, 6, .inr (.inr (.inr (.inr fn_))))), (t0, .inl (y 0, 5, .inl t0f)), (t1, .inl (y 0, 5, .inl (upd (upd (upd t1f 0 x0) 1 x) 2 x2))), (t2, .inl (y 0, 5, .inl t2f)), (t3, .inl (y 0, 5, .inl t3f)), (t4, .inl (y 0, 5, .inl t4f)), (t5, .inl (y 0, 5, .inl t5f))] H := hP
    have hD : va_D A [(nw, .inr (4, [.ref kk, .ref nk, .ref nd, .ref ne, .ref nm, .ref nn, .int (nI fi), .int (nI gl), .int (nI un), .int (nI mi), .int (nI 1)])), (nn, .inl (y 6, 6, .inr (.inr (.inr (.inr fn_))))), (t0, .inl (y 0, 5, .inl t0f)), (t1, .inl (y 0, 5, .inl (upd (upd (upd t1f 0 x0) 1 x) 2 x2))), (t2, .inl (y 0, 5, .inl t2f)), (t3, .inl (y 0, 5, .inl t3f)), (t4, .inl (y 0, 5, .inl t4f)), (t5, .inl (y 0, 5, .inl t5f))] := hD
    refine lv_aload hx hb dX4_addNote_26 (lv_at hl 0 rfl) ?_
    refine lv_iconst (v := 3) hx hb dX4_addNote_28 (by decide) ?_
    refine lv_iload hx hb dX4_addNote_29 (lv_at hl 5 rfl) ?_
    refine va_iast hx hb hK hP hD hS 3 0 rfl rfl (by unfold vp_in; decide) dX4_addNote_31 (fun H locs hP hD hS => ?_)
    rw [show ((3 : Int32)).toNatClampNeg = 3 from rfl] at hP hD
    have hP : va_P D vwCl [(nw, .inr (4, [.ref kk, .ref nk, .ref nd, .ref ne, .ref nm, .ref nn, .int (nI fi), .int (nI gl), .int (nI un), .int (nI mi), .int (nI 1)])), (nn, .inl (y 6, 6, .inr (.inr (.inr (.inr fn_))))), (t0, .inl (y 0, 5, .inl t0f)), (t1, .inl (y 0, 5, .inl (upd (upd (upd (upd t1f 0 x0) 1 x) 2 x2) 3 x3))), (t2, .inl (y 0, 5, .inl t2f)), (t3, .inl (y 0, 5, .inl t3f)), (t4, .inl (y 0, 5, .inl t4f)), (t5, .inl (y 0, 5, .inl t5f))] H := hP
    have hD : va_D A [(nw, .inr (4, [.ref kk, .ref nk, .ref nd, .ref ne, .ref nm, .ref nn, .int (nI fi), .int (nI gl), .int (nI un), .int (nI mi), .int (nI 1)])), (nn, .inl (y 6, 6, .inr (.inr (.inr (.inr fn_))))), (t0, .inl (y 0, 5, .inl t0f)), (t1, .inl (y 0, 5, .inl (upd (upd (upd (upd t1f 0 x0) 1 x) 2 x2) 3 x3))), (t2, .inl (y 0, 5, .inl t2f)), (t3, .inl (y 0, 5, .inl t3f)), (t4, .inl (y 0, 5, .inl t4f)), (t5, .inl (y 0, 5, .inl t5f))] := hD
    refine lv_aload hx hb dX4_addNote_32 (lv_at hl 0 rfl) ?_
    refine lv_iconst (v := 4) hx hb dX4_addNote_34 (by decide) ?_
    refine lv_iload hx hb dX4_addNote_35 (lv_at hl 6 rfl) ?_
    refine va_iast hx hb hK hP hD hS 3 0 rfl rfl (by unfold vp_in; decide) dX4_addNote_37 (fun H locs hP hD hS => ?_)
    rw [show ((4 : Int32)).toNatClampNeg = 4 from rfl] at hP hD
    have hP : va_P D vwCl [(nw, .inr (4, [.ref kk, .ref nk, .ref nd, .ref ne, .ref nm, .ref nn, .int (nI fi), .int (nI gl), .int (nI un), .int (nI mi), .int (nI 1)])), (nn, .inl (y 6, 6, .inr (.inr (.inr (.inr fn_))))), (t0, .inl (y 0, 5, .inl t0f)), (t1, .inl (y 0, 5, .inl (upd (upd (upd (upd (upd t1f 0 x0) 1 x) 2 x2) 3 x3) 4 x4))), (t2, .inl (y 0, 5, .inl t2f)), (t3, .inl (y 0, 5, .inl t3f)), (t4, .inl (y 0, 5, .inl t4f)), (t5, .inl (y 0, 5, .inl t5f))] H := hP
    have hD : va_D A [(nw, .inr (4, [.ref kk, .ref nk, .ref nd, .ref ne, .ref nm, .ref nn, .int (nI fi), .int (nI gl), .int (nI un), .int (nI mi), .int (nI 1)])), (nn, .inl (y 6, 6, .inr (.inr (.inr (.inr fn_))))), (t0, .inl (y 0, 5, .inl t0f)), (t1, .inl (y 0, 5, .inl (upd (upd (upd (upd (upd t1f 0 x0) 1 x) 2 x2) 3 x3) 4 x4))), (t2, .inl (y 0, 5, .inl t2f)), (t3, .inl (y 0, 5, .inl t3f)), (t4, .inl (y 0, 5, .inl t4f)), (t5, .inl (y 0, 5, .inl t5f))] := hD
    refine lv_aload_n hx hb dX4_addNote_38 rfl (lv_at hl 1 rfl) ?_
    refine lv_dup hx hb dX4_addNote_39 rfl ?_
    refine va_get (D := D) (ci := 4) (v := .int (nI 1)) (C := RX4) (T := TX4) (N := 11) hx hb hts iw4 hown hK hP 0 rfl rfl 10 (by decide) fw2 (fun _ h9 => h9) rfl dX4_addNote_40 ?_
    refine lv_iconst (v := 1) hx hb dX4_addNote_43 (by decide) ?_
    refine lv_iadd hx hb dX4_addNote_44 ?_
    rw [show (nI 1) + 1 = nI (2) from nI_add 1 1]
    refine lv_dup_x1 hx hb dX4_addNote_45 rfl rfl ?_
    refine va_put (D := D) (ci := 4) (v := .int (nI 2)) (ty := .int) (C := RX4) (T := TX4) (N := 11) hx hb hts iw4 tyX4 tyX4_ok nmX4 hown hK hP hD hS 0 rfl rfl 10 (by decide) fw2 (fun _ h9 => h9) rfl (by decide +kernel) rfl rfl (Nat.le_of_ble_eq_true rfl) dX4_addNote_46 (fun H locs hP hD hS => ?_)
    have hP : va_P D vwCl [(nw, .inr (4, [.ref kk, .ref nk, .ref nd, .ref ne, .ref nm, .ref nn, .int (nI fi), .int (nI gl), .int (nI un), .int (nI mi), .int (nI 2)])), (nn, .inl (y 6, 6, .inr (.inr (.inr (.inr fn_))))), (t0, .inl (y 0, 5, .inl t0f)), (t1, .inl (y 0, 5, .inl (upd (upd (upd (upd (upd t1f 0 x0) 1 x) 2 x2) 3 x3) 4 x4))), (t2, .inl (y 0, 5, .inl t2f)), (t3, .inl (y 0, 5, .inl t3f)), (t4, .inl (y 0, 5, .inl t4f)), (t5, .inl (y 0, 5, .inl t5f))] H := hP
    have hD : va_D A [(nw, .inr (4, [.ref kk, .ref nk, .ref nd, .ref ne, .ref nm, .ref nn, .int (nI fi), .int (nI gl), .int (nI un), .int (nI mi), .int (nI 2)])), (nn, .inl (y 6, 6, .inr (.inr (.inr (.inr fn_))))), (t0, .inl (y 0, 5, .inl t0f)), (t1, .inl (y 0, 5, .inl (upd (upd (upd (upd (upd t1f 0 x0) 1 x) 2 x2) 3 x3) 4 x4))), (t2, .inl (y 0, 5, .inl t2f)), (t3, .inl (y 0, 5, .inl t3f)), (t4, .inl (y 0, 5, .inl t4f)), (t5, .inl (y 0, 5, .inl t5f))] := hD
    exact W.iret (v := (nI 2)) hx hb hr (fun tZ ht hW => ⟨⟨(nI 2), (t0f, (upd (upd (upd (upd (upd t1f 0 x0) 1 x) 2 x2) 3 x3) 4 x4), t2f, t3f, t4f, t5f), rfl, rfl, by rw [ht]; exact hP.sub [0, 1, 2, 3, 4, 5, 6, 7] rfl, hD.sub [0, 1, 2, 3, 4, 5, 6, 7] (by decide) rfl⟩, hS.F ht⟩) hS.2.2 dX4_addNote_49
  · skip
    refine kw_aldQ hx hb hK hP 1 6 rfl rfl (vp_in_nI (by omega) (by decide)) dX4_addNote_8 ?_
    rw [nI_clamp (n := 2) (by omega), show va_rf (fn_ 2) = .ref t2 from congrArg va_rf hn2]
    refine lv_astore (lv' := [(6, .ref t2), (0, .ref nw), (1, .int x0), (2, .int x), (3, .int x2), (4, .int x3), (5, .int x4)]) hx hb dX4_addNote_9 hl (by decide) rfl (fun ls hl => ?_)
    refine lv_aload hx hb dX4_addNote_11 (lv_at hl 0 rfl) ?_
    refine lv_iconst (v := 0) hx hb dX4_addNote_13 (by decide) ?_
    refine lv_iload_n hx hb dX4_addNote_14 rfl (lv_at hl 2 rfl) ?_
    refine va_iast hx hb hK hP hD hS 4 0 rfl rfl (by unfold vp_in; decide) dX4_addNote_15 (fun H locs hP hD hS => ?_)
    rw [show ((0 : Int32)).toNatClampNeg = 0 from rfl] at hP hD
    have hP : va_P D vwCl [(nw, .inr (4, [.ref kk, .ref nk, .ref nd, .ref ne, .ref nm, .ref nn, .int (nI fi), .int (nI gl), .int (nI un), .int (nI mi), .int (nI 2)])), (nn, .inl (y 6, 6, .inr (.inr (.inr (.inr fn_))))), (t0, .inl (y 0, 5, .inl t0f)), (t1, .inl (y 0, 5, .inl t1f)), (t2, .inl (y 0, 5, .inl (upd t2f 0 x0))), (t3, .inl (y 0, 5, .inl t3f)), (t4, .inl (y 0, 5, .inl t4f)), (t5, .inl (y 0, 5, .inl t5f))] H := hP
    have hD : va_D A [(nw, .inr (4, [.ref kk, .ref nk, .ref nd, .ref ne, .ref nm, .ref nn, .int (nI fi), .int (nI gl), .int (nI un), .int (nI mi), .int (nI 2)])), (nn, .inl (y 6, 6, .inr (.inr (.inr (.inr fn_))))), (t0, .inl (y 0, 5, .inl t0f)), (t1, .inl (y 0, 5, .inl t1f)), (t2, .inl (y 0, 5, .inl (upd t2f 0 x0))), (t3, .inl (y 0, 5, .inl t3f)), (t4, .inl (y 0, 5, .inl t4f)), (t5, .inl (y 0, 5, .inl t5f))] := hD
    refine lv_aload hx hb dX4_addNote_16 (lv_at hl 0 rfl) ?_
    refine lv_iconst (v := 1) hx hb dX4_addNote_18 (by decide) ?_
    refine lv_iload_n hx hb dX4_addNote_19 rfl (lv_at hl 3 rfl) ?_
    refine va_iast hx hb hK hP hD hS 4 0 rfl rfl (by unfold vp_in; decide) dX4_addNote_20 (fun H locs hP hD hS => ?_)
    rw [show ((1 : Int32)).toNatClampNeg = 1 from rfl] at hP hD
    have hP : va_P D vwCl [(nw, .inr (4, [.ref kk, .ref nk, .ref nd, .ref ne, .ref nm, .ref nn, .int (nI fi), .int (nI gl), .int (nI un), .int (nI mi), .int (nI 2)])), (nn, .inl (y 6, 6, .inr (.inr (.inr (.inr fn_))))), (t0, .inl (y 0, 5, .inl t0f)), (t1, .inl (y 0, 5, .inl t1f)), (t2, .inl (y 0, 5, .inl (upd (upd t2f 0 x0) 1 x))), (t3, .inl (y 0, 5, .inl t3f)), (t4, .inl (y 0, 5, .inl t4f)), (t5, .inl (y 0, 5, .inl t5f))] H := hP
    have hD : va_D A [(nw, .inr (4, [.ref kk, .ref nk, .ref nd, .ref ne, .ref nm, .ref nn, .int (nI fi), .int (nI gl), .int (nI un), .int (nI mi), .int (nI 2)])), (nn, .inl (y 6, 6, .inr (.inr (.inr (.inr fn_))))), (t0, .inl (y 0, 5, .inl t0f)), (t1, .inl (y 0, 5, .inl t1f)), (t2, .inl (y 0, 5, .inl (upd (upd t2f 0 x0) 1 x))), (t3, .inl (y 0, 5, .inl t3f)), (t4, .inl (y 0, 5, .inl t4f)), (t5, .inl (y 0, 5, .inl t5f))] := hD
    refine lv_aload hx hb dX4_addNote_21 (lv_at hl 0 rfl) ?_
    refine lv_iconst (v := 2) hx hb dX4_addNote_23 (by decide) ?_
    refine lv_iload_n hx hb dX4_addNote_24 rfl (lv_at hl 4 rfl) ?_
    refine va_iast hx hb hK hP hD hS 4 0 rfl rfl (by unfold vp_in; decide) dX4_addNote_25 (fun H locs hP hD hS => ?_)
    rw [show ((2 : Int32)).toNatClampNeg = 2 from rfl] at hP hD
    have hP : va_P D vwCl [(nw, .inr (4, [.ref kk, .ref nk, .ref nd, .ref ne, .ref nm, .ref nn, .int (nI fi), .int (nI gl), .int (nI un), .int (nI mi), .int (nI 2)])), (nn, .inl (y 6, 6, .inr (.inr (.inr (.inr fn_))))), (t0, .inl (y 0, 5, .inl t0f)), (t1, .inl (y 0, 5, .inl t1f)), (t2, .inl (y 0, 5, .inl (upd (upd (upd t2f 0 x0) 1 x) 2 x2))), (t3, .inl (y 0, 5, .inl t3f)), (t4, .inl (y 0, 5, .inl t4f)), (t5, .inl (y 0, 5, .inl t5f))] H := hP
    have hD : va_D A [(nw, .inr (4, [.ref kk, .ref nk, .ref nd, .ref ne, .ref nm, .ref nn, .int (nI fi), .int (nI gl), .int (nI un), .int (nI mi), .int (nI 2)])), (nn, .inl (y 6, 6, .inr (.inr (.inr (.inr fn_))))), (t0, .inl (y 0, 5, .inl t0f)), (t1, .inl (y 0, 5, .inl t1f)), (t2, .inl (y 0, 5, .inl (upd (upd (upd t2f 0 x0) 1 x) 2 x2))), (t3, .inl (y 0, 5, .inl t3f)), (t4, .inl (y 0, 5, .inl t4f)), (t5, .inl (y 0, 5, .inl t5f))] := hD
    refine lv_aload hx hb dX4_addNote_26 (lv_at hl 0 rfl) ?_
    refine lv_iconst (v := 3) hx hb dX4_addNote_28 (by decide) ?_
    refine lv_iload hx hb dX4_addNote_29 (lv_at hl 5 rfl) ?_
    refine va_iast hx hb hK hP hD hS 4 0 rfl rfl (by unfold vp_in; decide) dX4_addNote_31 (fun H locs hP hD hS => ?_)
    rw [show ((3 : Int32)).toNatClampNeg = 3 from rfl] at hP hD
    have hP : va_P D vwCl [(nw, .inr (4, [.ref kk, .ref nk, .ref nd, .ref ne, .ref nm, .ref nn, .int (nI fi), .int (nI gl), .int (nI un), .int (nI mi), .int (nI 2)])), (nn, .inl (y 6, 6, .inr (.inr (.inr (.inr fn_))))), (t0, .inl (y 0, 5, .inl t0f)), (t1, .inl (y 0, 5, .inl t1f)), (t2, .inl (y 0, 5, .inl (upd (upd (upd (upd t2f 0 x0) 1 x) 2 x2) 3 x3))), (t3, .inl (y 0, 5, .inl t3f)), (t4, .inl (y 0, 5, .inl t4f)), (t5, .inl (y 0, 5, .inl t5f))] H := hP
    have hD : va_D A [(nw, .inr (4, [.ref kk, .ref nk, .ref nd, .ref ne, .ref nm, .ref nn, .int (nI fi), .int (nI gl), .int (nI un), .int (nI mi), .int (nI 2)])), (nn, .inl (y 6, 6, .inr (.inr (.inr (.inr fn_))))), (t0, .inl (y 0, 5, .inl t0f)), (t1, .inl (y 0, 5, .inl t1f)), (t2, .inl (y 0, 5, .inl (upd (upd (upd (upd t2f 0 x0) 1 x) 2 x2) 3 x3))), (t3, .inl (y 0, 5, .inl t3f)), (t4, .inl (y 0, 5, .inl t4f)), (t5, .inl (y 0, 5, .inl t5f))] := hD
    refine lv_aload hx hb dX4_addNote_32 (lv_at hl 0 rfl) ?_
    refine lv_iconst (v := 4) hx hb dX4_addNote_34 (by decide) ?_
    refine lv_iload hx hb dX4_addNote_35 (lv_at hl 6 rfl) ?_
    refine va_iast hx hb hK hP hD hS 4 0 rfl rfl (by unfold vp_in; decide) dX4_addNote_37 (fun H locs hP hD hS => ?_)
    rw [show ((4 : Int32)).toNatClampNeg = 4 from rfl] at hP hD
    have hP : va_P D vwCl [(nw, .inr (4, [.ref kk, .ref nk, .ref nd, .ref ne, .ref nm, .ref nn, .int (nI fi), .int (nI gl), .int (nI un), .int (nI mi), .int (nI 2)])), (nn, .inl (y 6, 6, .inr (.inr (.inr (.inr fn_))))), (t0, .inl (y 0, 5, .inl t0f)), (t1, .inl (y 0, 5, .inl t1f)), (t2, .inl (y 0, 5, .inl (upd (upd (upd (upd (upd t2f 0 x0) 1 x) 2 x2) 3 x3) 4 x4))), (t3, .inl (y 0, 5, .inl t3f)), (t4, .inl (y 0, 5, .inl t4f)), (t5, .inl (y 0, 5, .inl t5f))] H := hP
    have hD : va_D A [(nw, .inr (4, [.ref kk, .ref nk, .ref nd, .ref ne, .ref nm, .ref nn, .int (nI fi), .int (nI gl), .int (nI un), .int (nI mi), .int (nI 2)])), (nn, .inl (y 6, 6, .inr (.inr (.inr (.inr fn_))))), (t0, .inl (y 0, 5, .inl t0f)), (t1, .inl (y 0, 5, .inl t1f)), (t2, .inl (y 0, 5, .inl (upd (upd (upd (upd (upd t2f 0 x0) 1 x) 2 x2) 3 x3) 4 x4))), (t3, .inl (y 0, 5, .inl t3f)), (t4, .inl (y 0, 5, .inl t4f)), (t5, .inl (y 0, 5, .inl t5f))] := hD
    refine lv_aload_n hx hb dX4_addNote_38 rfl (lv_at hl 1 rfl) ?_
    refine lv_dup hx hb dX4_addNote_39 rfl ?_
    refine va_get (D := D) (ci := 4) (v := .int (nI 2)) (C := RX4) (T := TX4) (N := 11) hx hb hts iw4 hown hK hP 0 rfl rfl 10 (by decide) fw2 (fun _ h9 => h9) rfl dX4_addNote_40 ?_
    refine lv_iconst (v := 1) hx hb dX4_addNote_43 (by decide) ?_
    refine lv_iadd hx hb dX4_addNote_44 ?_
    rw [show (nI 2) + 1 = nI (3) from nI_add 2 1]
    refine lv_dup_x1 hx hb dX4_addNote_45 rfl rfl ?_
    refine va_put (D := D) (ci := 4) (v := .int (nI 3)) (ty := .int) (C := RX4) (T := TX4) (N := 11) hx hb hts iw4 tyX4 tyX4_ok nmX4 hown hK hP hD hS 0 rfl rfl 10 (by decide) fw2 (fun _ h9 => h9) rfl (by decide +kernel) rfl rfl (Nat.le_of_ble_eq_true rfl) dX4_addNote_46 (fun H locs hP hD hS => ?_)
    have hP : va_P D vwCl [(nw, .inr (4, [.ref kk, .ref nk, .ref nd, .ref ne, .ref nm, .ref nn, .int (nI fi), .int (nI gl), .int (nI un), .int (nI mi), .int (nI 3)])), (nn, .inl (y 6, 6, .inr (.inr (.inr (.inr fn_))))), (t0, .inl (y 0, 5, .inl t0f)), (t1, .inl (y 0, 5, .inl t1f)), (t2, .inl (y 0, 5, .inl (upd (upd (upd (upd (upd t2f 0 x0) 1 x) 2 x2) 3 x3) 4 x4))), (t3, .inl (y 0, 5, .inl t3f)), (t4, .inl (y 0, 5, .inl t4f)), (t5, .inl (y 0, 5, .inl t5f))] H := hP
    have hD : va_D A [(nw, .inr (4, [.ref kk, .ref nk, .ref nd, .ref ne, .ref nm, .ref nn, .int (nI fi), .int (nI gl), .int (nI un), .int (nI mi), .int (nI 3)])), (nn, .inl (y 6, 6, .inr (.inr (.inr (.inr fn_))))), (t0, .inl (y 0, 5, .inl t0f)), (t1, .inl (y 0, 5, .inl t1f)), (t2, .inl (y 0, 5, .inl (upd (upd (upd (upd (upd t2f 0 x0) 1 x) 2 x2) 3 x3) 4 x4))), (t3, .inl (y 0, 5, .inl t3f)), (t4, .inl (y 0, 5, .inl t4f)), (t5, .inl (y 0, 5, .inl t5f))] := hD
    exact W.iret (v := (nI 3)) hx hb hr (fun tZ ht hW => ⟨⟨(nI 3), (t0f, t1f, (upd (upd (upd (upd (upd t2f 0 x0) 1 x) 2 x2) 3 x3) 4 x4), t3f, t4f, t5f), rfl, rfl, by rw [ht]; exact hP.sub [0, 1, 2, 3, 4, 5, 6, 7] rfl, hD.sub [0, 1, 2, 3, 4, 5, 6, 7] (by decide) rfl⟩, hS.F ht⟩) hS.2.2 dX4_addNote_49
  · skip
    refine kw_aldQ hx hb hK hP 1 6 rfl rfl (vp_in_nI (by omega) (by decide)) dX4_addNote_8 ?_
    rw [nI_clamp (n := 3) (by omega), show va_rf (fn_ 3) = .ref t3 from congrArg va_rf hn3]
    refine lv_astore (lv' := [(6, .ref t3), (0, .ref nw), (1, .int x0), (2, .int x), (3, .int x2), (4, .int x3), (5, .int x4)]) hx hb dX4_addNote_9 hl (by decide) rfl (fun ls hl => ?_)
    refine lv_aload hx hb dX4_addNote_11 (lv_at hl 0 rfl) ?_
    refine lv_iconst (v := 0) hx hb dX4_addNote_13 (by decide) ?_
    refine lv_iload_n hx hb dX4_addNote_14 rfl (lv_at hl 2 rfl) ?_
    refine va_iast hx hb hK hP hD hS 5 0 rfl rfl (by unfold vp_in; decide) dX4_addNote_15 (fun H locs hP hD hS => ?_)
    rw [show ((0 : Int32)).toNatClampNeg = 0 from rfl] at hP hD
    have hP : va_P D vwCl [(nw, .inr (4, [.ref kk, .ref nk, .ref nd, .ref ne, .ref nm, .ref nn, .int (nI fi), .int (nI gl), .int (nI un), .int (nI mi), .int (nI 3)])), (nn, .inl (y 6, 6, .inr (.inr (.inr (.inr fn_))))), (t0, .inl (y 0, 5, .inl t0f)), (t1, .inl (y 0, 5, .inl t1f)), (t2, .inl (y 0, 5, .inl t2f)), (t3, .inl (y 0, 5, .inl (upd t3f 0 x0))), (t4, .inl (y 0, 5, .inl t4f)), (t5, .inl (y 0, 5, .inl t5f))] H := hP
    have hD : va_D A [(nw, .inr (4, [.ref kk, .ref nk, .ref nd, .ref ne, .ref nm, .ref nn, .int (nI fi), .int (nI gl), .int (nI un), .int (nI mi), .int (nI 3)])), (nn, .inl (y 6, 6, .inr (.inr (.inr (.inr fn_))))), (t0, .inl (y 0, 5, .inl t0f)), (t1, .inl (y 0, 5, .inl t1f)), (t2, .inl (y 0, 5, .inl t2f)), (t3, .inl (y 0, 5, .inl (upd t3f 0 x0))), (t4, .inl (y 0, 5, .inl t4f)), (t5, .inl (y 0, 5, .inl t5f))] := hD
    refine lv_aload hx hb dX4_addNote_16 (lv_at hl 0 rfl) ?_
    refine lv_iconst (v := 1) hx hb dX4_addNote_18 (by decide) ?_
    refine lv_iload_n hx hb dX4_addNote_19 rfl (lv_at hl 3 rfl) ?_
    refine va_iast hx hb hK hP hD hS 5 0 rfl rfl (by unfold vp_in; decide) dX4_addNote_20 (fun H locs hP hD hS => ?_)
    rw [show ((1 : Int32)).toNatClampNeg = 1 from rfl] at hP hD
    have hP : va_P D vwCl [(nw, .inr (4, [.ref kk, .ref nk, .ref nd, .ref ne, .ref nm, .ref nn, .int (nI fi), .int (nI gl), .int (nI un), .int (nI mi), .int (nI 3)])), (nn, .inl (y 6, 6, .inr (.inr (.inr (.inr fn_))))), (t0, .inl (y 0, 5, .inl t0f)), (t1, .inl (y 0, 5, .inl t1f)), (t2, .inl (y 0, 5, .inl t2f)), (t3, .inl (y 0, 5, .inl (upd (upd t3f 0 x0) 1 x))), (t4, .inl (y 0, 5, .inl t4f)), (t5, .inl (y 0, 5, .inl t5f))] H := hP
    have hD : va_D A [(nw, .inr (4, [.ref kk, .ref nk, .ref nd, .ref ne, .ref nm, .ref nn, .int (nI fi), .int (nI gl), .int (nI un), .int (nI mi), .int (nI 3)])), (nn, .inl (y 6, 6, .inr (.inr (.inr (.inr fn_))))), (t0, .inl (y 0, 5, .inl t0f)), (t1, .inl (y 0, 5, .inl t1f)), (t2, .inl (y 0, 5, .inl t2f)), (t3, .inl (y 0, 5, .inl (upd (upd t3f 0 x0) 1 x))), (t4, .inl (y 0, 5, .inl t4f)), (t5, .inl (y 0, 5, .inl t5f))] := hD
    refine lv_aload hx hb dX4_addNote_21 (lv_at hl 0 rfl) ?_
    refine lv_iconst (v := 2) hx hb dX4_addNote_23 (by decide) ?_
    refine lv_iload_n hx hb dX4_addNote_24 rfl (lv_at hl 4 rfl) ?_
    refine va_iast hx hb hK hP hD hS 5 0 rfl rfl (by unfold vp_in; decide) dX4_addNote_25 (fun H locs hP hD hS => ?_)
    rw [show ((2 : Int32)).toNatClampNeg = 2 from rfl] at hP hD
    have hP : va_P D vwCl [(nw, .inr (4, [.ref kk, .ref nk, .ref nd, .ref ne, .ref nm, .ref nn, .int (nI fi), .int (nI gl), .int (nI un), .int (nI mi), .int (nI 3)])), (nn, .inl (y 6, 6, .inr (.inr (.inr (.inr fn_))))), (t0, .inl (y 0, 5, .inl t0f)), (t1, .inl (y 0, 5, .inl t1f)), (t2, .inl (y 0, 5, .inl t2f)), (t3, .inl (y 0, 5, .inl (upd (upd (upd t3f 0 x0) 1 x) 2 x2))), (t4, .inl (y 0, 5, .inl t4f)), (t5, .inl (y 0, 5, .inl t5f))] H := hP
    have hD : va_D A [(nw, .inr (4, [.ref kk, .ref nk, .ref nd, .ref ne, .ref nm, .ref nn, .int (nI fi), .int (nI gl), .int (nI un), .int (nI mi), .int (nI 3)])), (nn, .inl (y 6, 6, .inr (.inr (.inr (.inr fn_))))), (t0, .inl (y 0, 5, .inl t0f)), (t1, .inl (y 0, 5, .inl t1f)), (t2, .inl (y 0, 5, .inl t2f)), (t3, .inl (y 0, 5, .inl (upd (upd (upd t3f 0 x0) 1 x) 2 x2))), (t4, .inl (y 0, 5, .inl t4f)), (t5, .inl (y 0, 5, .inl t5f))] := hD
    refine lv_aload hx hb dX4_addNote_26 (lv_at hl 0 rfl) ?_
    refine lv_iconst (v := 3) hx hb dX4_addNote_28 (by decide) ?_
    refine lv_iload hx hb dX4_addNote_29 (lv_at hl 5 rfl) ?_
    refine va_iast hx hb hK hP hD hS 5 0 rfl rfl (by unfold vp_in; decide) dX4_addNote_31 (fun H locs hP hD hS => ?_)
    rw [show ((3 : Int32)).toNatClampNeg = 3 from rfl] at hP hD
    have hP : va_P D vwCl [(nw, .inr (4, [.ref kk, .ref nk, .ref nd, .ref ne, .ref nm, .ref nn, .int (nI fi), .int (nI gl), .int (nI un), .int (nI mi), .int (nI 3)])), (nn, .inl (y 6, 6, .inr (.inr (.inr (.inr fn_))))), (t0, .inl (y 0, 5, .inl t0f)), (t1, .inl (y 0, 5, .inl t1f)), (t2, .inl (y 0, 5, .inl t2f)), (t3, .inl (y 0, 5, .inl (upd (upd (upd (upd t3f 0 x0) 1 x) 2 x2) 3 x3))), (t4, .inl (y 0, 5, .inl t4f)), (t5, .inl (y 0, 5, .inl t5f))] H := hP
    have hD : va_D A [(nw, .inr (4, [.ref kk, .ref nk, .ref nd, .ref ne, .ref nm, .ref nn, .int (nI fi), .int (nI gl), .int (nI un), .int (nI mi), .int (nI 3)])), (nn, .inl (y 6, 6, .inr (.inr (.inr (.inr fn_))))), (t0, .inl (y 0, 5, .inl t0f)), (t1, .inl (y 0, 5, .inl t1f)), (t2, .inl (y 0, 5, .inl t2f)), (t3, .inl (y 0, 5, .inl (upd (upd (upd (upd t3f 0 x0) 1 x) 2 x2) 3 x3))), (t4, .inl (y 0, 5, .inl t4f)), (t5, .inl (y 0, 5, .inl t5f))] := hD
    refine lv_aload hx hb dX4_addNote_32 (lv_at hl 0 rfl) ?_
    refine lv_iconst (v := 4) hx hb dX4_addNote_34 (by decide) ?_
    refine lv_iload hx hb dX4_addNote_35 (lv_at hl 6 rfl) ?_
    refine va_iast hx hb hK hP hD hS 5 0 rfl rfl (by unfold vp_in; decide) dX4_addNote_37 (fun H locs hP hD hS => ?_)
    rw [show ((4 : Int32)).toNatClampNeg = 4 from rfl] at hP hD
    have hP : va_P D vwCl [(nw, .inr (4, [.ref kk, .ref nk, .ref nd, .ref ne, .ref nm, .ref nn, .int (nI fi), .int (nI gl), .int (nI un), .int (nI mi), .int (nI 3)])), (nn, .inl (y 6, 6, .inr (.inr (.inr (.inr fn_))))), (t0, .inl (y 0, 5, .inl t0f)), (t1, .inl (y 0, 5, .inl t1f)), (t2, .inl (y 0, 5, .inl t2f)), (t3, .inl (y 0, 5, .inl (upd (upd (upd (upd (upd t3f 0 x0) 1 x) 2 x2) 3 x3) 4 x4))), (t4, .inl (y 0, 5, .inl t4f)), (t5, .inl (y 0, 5, .inl t5f))] H := hP
    have hD : va_D A [(nw, .inr (4, [.ref kk, .ref nk, .ref nd, .ref ne, .ref nm, .ref nn, .int (nI fi), .int (nI gl), .int (nI un), .int (nI mi), .int (nI 3)])), (nn, .inl (y 6, 6, .inr (.inr (.inr (.inr fn_))))), (t0, .inl (y 0, 5, .inl t0f)), (t1, .inl (y 0, 5, .inl t1f)), (t2, .inl (y 0, 5, .inl t2f)), (t3, .inl (y 0, 5, .inl (upd (upd (upd (upd (upd t3f 0 x0) 1 x) 2 x2) 3 x3) 4 x4))), (t4, .inl (y 0, 5, .inl t4f)), (t5, .inl (y 0, 5, .inl t5f))] := hD
    refine lv_aload_n hx hb dX4_addNote_38 rfl (lv_at hl 1 rfl) ?_
    refine lv_dup hx hb dX4_addNote_39 rfl ?_
    refine va_get (D := D) (ci := 4) (v := .int (nI 3)) (C := RX4) (T := TX4) (N := 11) hx hb hts iw4 hown hK hP 0 rfl rfl 10 (by decide) fw2 (fun _ h9 => h9) rfl dX4_addNote_40 ?_
    refine lv_iconst (v := 1) hx hb dX4_addNote_43 (by decide) ?_
    refine lv_iadd hx hb dX4_addNote_44 ?_
    rw [show (nI 3) + 1 = nI (4) from nI_add 3 1]
    refine lv_dup_x1 hx hb dX4_addNote_45 rfl rfl ?_
    refine va_put (D := D) (ci := 4) (v := .int (nI 4)) (ty := .int) (C := RX4) (T := TX4) (N := 11) hx hb hts iw4 tyX4 tyX4_ok nmX4 hown hK hP hD hS 0 rfl rfl 10 (by decide) fw2 (fun _ h9 => h9) rfl (by decide +kernel) rfl rfl (Nat.le_of_ble_eq_true rfl) dX4_addNote_46 (fun H locs hP hD hS => ?_)
    have hP : va_P D vwCl [(nw, .inr (4, [.ref kk, .ref nk, .ref nd, .ref ne, .ref nm, .ref nn, .int (nI fi), .int (nI gl), .int (nI un), .int (nI mi), .int (nI 4)])), (nn, .inl (y 6, 6, .inr (.inr (.inr (.inr fn_))))), (t0, .inl (y 0, 5, .inl t0f)), (t1, .inl (y 0, 5, .inl t1f)), (t2, .inl (y 0, 5, .inl t2f)), (t3, .inl (y 0, 5, .inl (upd (upd (upd (upd (upd t3f 0 x0) 1 x) 2 x2) 3 x3) 4 x4))), (t4, .inl (y 0, 5, .inl t4f)), (t5, .inl (y 0, 5, .inl t5f))] H := hP
    have hD : va_D A [(nw, .inr (4, [.ref kk, .ref nk, .ref nd, .ref ne, .ref nm, .ref nn, .int (nI fi), .int (nI gl), .int (nI un), .int (nI mi), .int (nI 4)])), (nn, .inl (y 6, 6, .inr (.inr (.inr (.inr fn_))))), (t0, .inl (y 0, 5, .inl t0f)), (t1, .inl (y 0, 5, .inl t1f)), (t2, .inl (y 0, 5, .inl t2f)), (t3, .inl (y 0, 5, .inl (upd (upd (upd (upd (upd t3f 0 x0) 1 x) 2 x2) 3 x3) 4 x4))), (t4, .inl (y 0, 5, .inl t4f)), (t5, .inl (y 0, 5, .inl t5f))] := hD
    exact W.iret (v := (nI 4)) hx hb hr (fun tZ ht hW => ⟨⟨(nI 4), (t0f, t1f, t2f, (upd (upd (upd (upd (upd t3f 0 x0) 1 x) 2 x2) 3 x3) 4 x4), t4f, t5f), rfl, rfl, by rw [ht]; exact hP.sub [0, 1, 2, 3, 4, 5, 6, 7] rfl, hD.sub [0, 1, 2, 3, 4, 5, 6, 7] (by decide) rfl⟩, hS.F ht⟩) hS.2.2 dX4_addNote_49
  · skip
    refine kw_aldQ hx hb hK hP 1 6 rfl rfl (vp_in_nI (by omega) (by decide)) dX4_addNote_8 ?_
    rw [nI_clamp (n := 4) (by omega), show va_rf (fn_ 4) = .ref t4 from congrArg va_rf hn4]
    refine lv_astore (lv' := [(6, .ref t4), (0, .ref nw), (1, .int x0), (2, .int x), (3, .int x2), (4, .int x3), (5, .int x4)]) hx hb dX4_addNote_9 hl (by decide) rfl (fun ls hl => ?_)
    refine lv_aload hx hb dX4_addNote_11 (lv_at hl 0 rfl) ?_
    refine lv_iconst (v := 0) hx hb dX4_addNote_13 (by decide) ?_
    refine lv_iload_n hx hb dX4_addNote_14 rfl (lv_at hl 2 rfl) ?_
    refine va_iast hx hb hK hP hD hS 6 0 rfl rfl (by unfold vp_in; decide) dX4_addNote_15 (fun H locs hP hD hS => ?_)
    rw [show ((0 : Int32)).toNatClampNeg = 0 from rfl] at hP hD
    have hP : va_P D vwCl [(nw, .inr (4, [.ref kk, .ref nk, .ref nd, .ref ne, .ref nm, .ref nn, .int (nI fi), .int (nI gl), .int (nI un), .int (nI mi), .int (nI 4)])), (nn, .inl (y 6, 6, .inr (.inr (.inr (.inr fn_))))), (t0, .inl (y 0, 5, .inl t0f)), (t1, .inl (y 0, 5, .inl t1f)), (t2, .inl (y 0, 5, .inl t2f)), (t3, .inl (y 0, 5, .inl t3f)), (t4, .inl (y 0, 5, .inl (upd t4f 0 x0))), (t5, .inl (y 0, 5, .inl t5f))] H := hP
    have hD : va_D A [(nw, .inr (4, [.ref kk, .ref nk, .ref nd, .ref ne, .ref nm, .ref nn, .int (nI fi), .int (nI gl), .int (nI un), .int (nI mi), .int (nI 4)])), (nn, .inl (y 6, 6, .inr (.inr (.inr (.inr fn_))))), (t0, .inl (y 0, 5, .inl t0f)), (t1, .inl (y 0, 5, .inl t1f)), (t2, .inl (y 0, 5, .inl t2f)), (t3, .inl (y 0, 5, .inl t3f)), (t4, .inl (y 0, 5, .inl (upd t4f 0 x0))), (t5, .inl (y 0, 5, .inl t5f))] := hD
    refine lv_aload hx hb dX4_addNote_16 (lv_at hl 0 rfl) ?_
    refine lv_iconst (v := 1) hx hb dX4_addNote_18 (by decide) ?_
    refine lv_iload_n hx hb dX4_addNote_19 rfl (lv_at hl 3 rfl) ?_
    refine va_iast hx hb hK hP hD hS 6 0 rfl rfl (by unfold vp_in; decide) dX4_addNote_20 (fun H locs hP hD hS => ?_)
    rw [show ((1 : Int32)).toNatClampNeg = 1 from rfl] at hP hD
    have hP : va_P D vwCl [(nw, .inr (4, [.ref kk, .ref nk, .ref nd, .ref ne, .ref nm, .ref nn, .int (nI fi), .int (nI gl), .int (nI un), .int (nI mi), .int (nI 4)])), (nn, .inl (y 6, 6, .inr (.inr (.inr (.inr fn_))))), (t0, .inl (y 0, 5, .inl t0f)), (t1, .inl (y 0, 5, .inl t1f)), (t2, .inl (y 0, 5, .inl t2f)), (t3, .inl (y 0, 5, .inl t3f)), (t4, .inl (y 0, 5, .inl (upd (upd t4f 0 x0) 1 x))), (t5, .inl (y 0, 5, .inl t5f))] H := hP
    have hD : va_D A [(nw, .inr (4, [.ref kk, .ref nk, .ref nd, .ref ne, .ref nm, .ref nn, .int (nI fi), .int (nI gl), .int (nI un), .int (nI mi), .int (nI 4)])), (nn, .inl (y 6, 6, .inr (.inr (.inr (.inr fn_))))), (t0, .inl (y 0, 5, .inl t0f)), (t1, .inl (y 0, 5, .inl t1f)), (t2, .inl (y 0, 5, .inl t2f)), (t3, .inl (y 0, 5, .inl t3f)), (t4, .inl (y 0, 5, .inl (upd (upd t4f 0 x0) 1 x))), (t5, .inl (y 0, 5, .inl t5f))] := hD
    refine lv_aload hx hb dX4_addNote_21 (lv_at hl 0 rfl) ?_
    refine lv_iconst (v := 2) hx hb dX4_addNote_23 (by decide) ?_
    refine lv_iload_n hx hb dX4_addNote_24 rfl (lv_at hl 4 rfl) ?_
    refine va_iast hx hb hK hP hD hS 6 0 rfl rfl (by unfold vp_in; decide) dX4_addNote_25 (fun H locs hP hD hS => ?_)
    rw [show ((2 : Int32)).toNatClampNeg = 2 from rfl] at hP hD
    have hP : va_P D vwCl [(nw, .inr (4, [.ref kk, .ref nk, .ref nd, .ref ne, .ref nm, .ref nn, .int (nI fi), .int (nI gl), .int (nI un), .int (nI mi), .int (nI 4)])), (nn, .inl (y 6, 6, .inr (.inr (.inr (.inr fn_))))), (t0, .inl (y 0, 5, .inl t0f)), (t1, .inl (y 0, 5, .inl t1f)), (t2, .inl (y 0, 5, .inl t2f)), (t3, .inl (y 0, 5, .inl t3f)), (t4, .inl (y 0, 5, .inl (upd (upd (upd t4f 0 x0) 1 x) 2 x2))), (t5, .inl (y 0, 5, .inl t5f))] H := hP
    have hD : va_D A [(nw, .inr (4, [.ref kk, .ref nk, .ref nd, .ref ne, .ref nm, .ref nn, .int (nI fi), .int (nI gl), .int (nI un), .int (nI mi), .int (nI 4)])), (nn, .inl (y 6, 6, .inr (.inr (.inr (.inr fn_))))), (t0, .inl (y 0, 5, .inl t0f)), (t1, .inl (y 0, 5, .inl t1f)), (t2, .inl (y 0, 5, .inl t2f)), (t3, .inl (y 0, 5, .inl t3f)), (t4, .inl (y 0, 5, .inl (upd (upd (upd t4f 0 x0) 1 x) 2 x2))), (t5, .inl (y 0, 5, .inl t5f))] := hD
    refine lv_aload hx hb dX4_addNote_26 (lv_at hl 0 rfl) ?_
    refine lv_iconst (v := 3) hx hb dX4_addNote_28 (by decide) ?_
    refine lv_iload hx hb dX4_addNote_29 (lv_at hl 5 rfl) ?_
    refine va_iast hx hb hK hP hD hS 6 0 rfl rfl (by unfold vp_in; decide) dX4_addNote_31 (fun H locs hP hD hS => ?_)
    rw [show ((3 : Int32)).toNatClampNeg = 3 from rfl] at hP hD
    have hP : va_P D vwCl [(nw, .inr (4, [.ref kk, .ref nk, .ref nd, .ref ne, .ref nm, .ref nn, .int (nI fi), .int (nI gl), .int (nI un), .int (nI mi), .int (nI 4)])), (nn, .inl (y 6, 6, .inr (.inr (.inr (.inr fn_))))), (t0, .inl (y 0, 5, .inl t0f)), (t1, .inl (y 0, 5, .inl t1f)), (t2, .inl (y 0, 5, .inl t2f)), (t3, .inl (y 0, 5, .inl t3f)), (t4, .inl (y 0, 5, .inl (upd (upd (upd (upd t4f 0 x0) 1 x) 2 x2) 3 x3))), (t5, .inl (y 0, 5, .inl t5f))] H := hP
    have hD : va_D A [(nw, .inr (4, [.ref kk, .ref nk, .ref nd, .ref ne, .ref nm, .ref nn, .int (nI fi), .int (nI gl), .int (nI un), .int (nI mi), .int (nI 4)])), (nn, .inl (y 6, 6, .inr (.inr (.inr (.inr fn_))))), (t0, .inl (y 0, 5, .inl t0f)), (t1, .inl (y 0, 5, .inl t1f)), (t2, .inl (y 0, 5, .inl t2f)), (t3, .inl (y 0, 5, .inl t3f)), (t4, .inl (y 0, 5, .inl (upd (upd (upd (upd t4f 0 x0) 1 x) 2 x2) 3 x3))), (t5, .inl (y 0, 5, .inl t5f))] := hD
    refine lv_aload hx hb dX4_addNote_32 (lv_at hl 0 rfl) ?_
    refine lv_iconst (v := 4) hx hb dX4_addNote_34 (by decide) ?_
    refine lv_iload hx hb dX4_addNote_35 (lv_at hl 6 rfl) ?_
    refine va_iast hx hb hK hP hD hS 6 0 rfl rfl (by unfold vp_in; decide) dX4_addNote_37 (fun H locs hP hD hS => ?_)
    rw [show ((4 : Int32)).toNatClampNeg = 4 from rfl] at hP hD
    have hP : va_P D vwCl [(nw, .inr (4, [.ref kk, .ref nk, .ref nd, .ref ne, .ref nm, .ref nn, .int (nI fi), .int (nI gl), .int (nI un), .int (nI mi), .int (nI 4)])), (nn, .inl (y 6, 6, .inr (.inr (.inr (.inr fn_))))), (t0, .inl (y 0, 5, .inl t0f)), (t1, .inl (y 0, 5, .inl t1f)), (t2, .inl (y 0, 5, .inl t2f)), (t3, .inl (y 0, 5, .inl t3f)), (t4, .inl (y 0, 5, .inl (upd (upd (upd (upd (upd t4f 0 x0) 1 x) 2 x2) 3 x3) 4 x4))), (t5, .inl (y 0, 5, .inl t5f))] H := hP
    have hD : va_D A [(nw, .inr (4, [.ref kk, .ref nk, .ref nd, .ref ne, .ref nm, .ref nn, .int (nI fi), .int (nI gl), .int (nI un), .int (nI mi), .int (nI 4)])), (nn, .inl (y 6, 6, .inr (.inr (.inr (.inr fn_))))), (t0, .inl (y 0, 5, .inl t0f)), (t1, .inl (y 0, 5, .inl t1f)), (t2, .inl (y 0, 5, .inl t2f)), (t3, .inl (y 0, 5, .inl t3f)), (t4, .inl (y 0, 5, .inl (upd (upd (upd (upd (upd t4f 0 x0) 1 x) 2 x2) 3 x3) 4 x4))), (t5, .inl (y 0, 5, .inl t5f))] := hD
    refine lv_aload_n hx hb dX4_addNote_38 rfl (lv_at hl 1 rfl) ?_
    refine lv_dup hx hb dX4_addNote_39 rfl ?_
    refine va_get (D := D) (ci := 4) (v := .int (nI 4)) (C := RX4) (T := TX4) (N := 11) hx hb hts iw4 hown hK hP 0 rfl rfl 10 (by decide) fw2 (fun _ h9 => h9) rfl dX4_addNote_40 ?_
    refine lv_iconst (v := 1) hx hb dX4_addNote_43 (by decide) ?_
    refine lv_iadd hx hb dX4_addNote_44 ?_
    rw [show (nI 4) + 1 = nI (5) from nI_add 4 1]
    refine lv_dup_x1 hx hb dX4_addNote_45 rfl rfl ?_
    refine va_put (D := D) (ci := 4) (v := .int (nI 5)) (ty := .int) (C := RX4) (T := TX4) (N := 11) hx hb hts iw4 tyX4 tyX4_ok nmX4 hown hK hP hD hS 0 rfl rfl 10 (by decide) fw2 (fun _ h9 => h9) rfl (by decide +kernel) rfl rfl (Nat.le_of_ble_eq_true rfl) dX4_addNote_46 (fun H locs hP hD hS => ?_)
    have hP : va_P D vwCl [(nw, .inr (4, [.ref kk, .ref nk, .ref nd, .ref ne, .ref nm, .ref nn, .int (nI fi), .int (nI gl), .int (nI un), .int (nI mi), .int (nI 5)])), (nn, .inl (y 6, 6, .inr (.inr (.inr (.inr fn_))))), (t0, .inl (y 0, 5, .inl t0f)), (t1, .inl (y 0, 5, .inl t1f)), (t2, .inl (y 0, 5, .inl t2f)), (t3, .inl (y 0, 5, .inl t3f)), (t4, .inl (y 0, 5, .inl (upd (upd (upd (upd (upd t4f 0 x0) 1 x) 2 x2) 3 x3) 4 x4))), (t5, .inl (y 0, 5, .inl t5f))] H := hP
    have hD : va_D A [(nw, .inr (4, [.ref kk, .ref nk, .ref nd, .ref ne, .ref nm, .ref nn, .int (nI fi), .int (nI gl), .int (nI un), .int (nI mi), .int (nI 5)])), (nn, .inl (y 6, 6, .inr (.inr (.inr (.inr fn_))))), (t0, .inl (y 0, 5, .inl t0f)), (t1, .inl (y 0, 5, .inl t1f)), (t2, .inl (y 0, 5, .inl t2f)), (t3, .inl (y 0, 5, .inl t3f)), (t4, .inl (y 0, 5, .inl (upd (upd (upd (upd (upd t4f 0 x0) 1 x) 2 x2) 3 x3) 4 x4))), (t5, .inl (y 0, 5, .inl t5f))] := hD
    exact W.iret (v := (nI 5)) hx hb hr (fun tZ ht hW => ⟨⟨(nI 5), (t0f, t1f, t2f, t3f, (upd (upd (upd (upd (upd t4f 0 x0) 1 x) 2 x2) 3 x3) 4 x4), t5f), rfl, rfl, by rw [ht]; exact hP.sub [0, 1, 2, 3, 4, 5, 6, 7] rfl, hD.sub [0, 1, 2, 3, 4, 5, 6, 7] (by decide) rfl⟩, hS.F ht⟩) hS.2.2 dX4_addNote_49
  · skip
    refine kw_aldQ hx hb hK hP 1 6 rfl rfl (vp_in_nI (by omega) (by decide)) dX4_addNote_8 ?_
    rw [nI_clamp (n := 5) (by omega), show va_rf (fn_ 5) = .ref t5 from congrArg va_rf hn5]
    refine lv_astore (lv' := [(6, .ref t5), (0, .ref nw), (1, .int x0), (2, .int x), (3, .int x2), (4, .int x3), (5, .int x4)]) hx hb dX4_addNote_9 hl (by decide) rfl (fun ls hl => ?_)
    refine lv_aload hx hb dX4_addNote_11 (lv_at hl 0 rfl) ?_
    refine lv_iconst (v := 0) hx hb dX4_addNote_13 (by decide) ?_
    refine lv_iload_n hx hb dX4_addNote_14 rfl (lv_at hl 2 rfl) ?_
    refine va_iast hx hb hK hP hD hS 7 0 rfl rfl (by unfold vp_in; decide) dX4_addNote_15 (fun H locs hP hD hS => ?_)
    rw [show ((0 : Int32)).toNatClampNeg = 0 from rfl] at hP hD
    have hP : va_P D vwCl [(nw, .inr (4, [.ref kk, .ref nk, .ref nd, .ref ne, .ref nm, .ref nn, .int (nI fi), .int (nI gl), .int (nI un), .int (nI mi), .int (nI 5)])), (nn, .inl (y 6, 6, .inr (.inr (.inr (.inr fn_))))), (t0, .inl (y 0, 5, .inl t0f)), (t1, .inl (y 0, 5, .inl t1f)), (t2, .inl (y 0, 5, .inl t2f)), (t3, .inl (y 0, 5, .inl t3f)), (t4, .inl (y 0, 5, .inl t4f)), (t5, .inl (y 0, 5, .inl (upd t5f 0 x0)))] H := hP
    have hD : va_D A [(nw, .inr (4, [.ref kk, .ref nk, .ref nd, .ref ne, .ref nm, .ref nn, .int (nI fi), .int (nI gl), .int (nI un), .int (nI mi), .int (nI 5)])), (nn, .inl (y 6, 6, .inr (.inr (.inr (.inr fn_))))), (t0, .inl (y 0, 5, .inl t0f)), (t1, .inl (y 0, 5, .inl t1f)), (t2, .inl (y 0, 5, .inl t2f)), (t3, .inl (y 0, 5, .inl t3f)), (t4, .inl (y 0, 5, .inl t4f)), (t5, .inl (y 0, 5, .inl (upd t5f 0 x0)))] := hD
    refine lv_aload hx hb dX4_addNote_16 (lv_at hl 0 rfl) ?_
    refine lv_iconst (v := 1) hx hb dX4_addNote_18 (by decide) ?_
    refine lv_iload_n hx hb dX4_addNote_19 rfl (lv_at hl 3 rfl) ?_
    refine va_iast hx hb hK hP hD hS 7 0 rfl rfl (by unfold vp_in; decide) dX4_addNote_20 (fun H locs hP hD hS => ?_)
    rw [show ((1 : Int32)).toNatClampNeg = 1 from rfl] at hP hD
    have hP : va_P D vwCl [(nw, .inr (4, [.ref kk, .ref nk, .ref nd, .ref ne, .ref nm, .ref nn, .int (nI fi), .int (nI gl), .int (nI un), .int (nI mi), .int (nI 5)])), (nn, .inl (y 6, 6, .inr (.inr (.inr (.inr fn_))))), (t0, .inl (y 0, 5, .inl t0f)), (t1, .inl (y 0, 5, .inl t1f)), (t2, .inl (y 0, 5, .inl t2f)), (t3, .inl (y 0, 5, .inl t3f)), (t4, .inl (y 0, 5, .inl t4f)), (t5, .inl (y 0, 5, .inl (upd (upd t5f 0 x0) 1 x)))] H := hP
    have hD : va_D A [(nw, .inr (4, [.ref kk, .ref nk, .ref nd, .ref ne, .ref nm, .ref nn, .int (nI fi), .int (nI gl), .int (nI un), .int (nI mi), .int (nI 5)])), (nn, .inl (y 6, 6, .inr (.inr (.inr (.inr fn_))))), (t0, .inl (y 0, 5, .inl t0f)), (t1, .inl (y 0, 5, .inl t1f)), (t2, .inl (y 0, 5, .inl t2f)), (t3, .inl (y 0, 5, .inl t3f)), (t4, .inl (y 0, 5, .inl t4f)), (t5, .inl (y 0, 5, .inl (upd (upd t5f 0 x0) 1 x)))] := hD
    refine lv_aload hx hb dX4_addNote_21 (lv_at hl 0 rfl) ?_
    refine lv_iconst (v := 2) hx hb dX4_addNote_23 (by decide) ?_
    refine lv_iload_n hx hb dX4_addNote_24 rfl (lv_at hl 4 rfl) ?_
    refine va_iast hx hb hK hP hD hS 7 0 rfl rfl (by unfold vp_in; decide) dX4_addNote_25 (fun H locs hP hD hS => ?_)
    rw [show ((2 : Int32)).toNatClampNeg = 2 from rfl] at hP hD
    have hP : va_P D vwCl [(nw, .inr (4, [.ref kk, .ref nk, .ref nd, .ref ne, .ref nm, .ref nn, .int (nI fi), .int (nI gl), .int (nI un), .int (nI mi), .int (nI 5)])), (nn, .inl (y 6, 6, .inr (.inr (.inr (.inr fn_))))), (t0, .inl (y 0, 5, .inl t0f)), (t1, .inl (y 0, 5, .inl t1f)), (t2, .inl (y 0, 5, .inl t2f)), (t3, .inl (y 0, 5, .inl t3f)), (t4, .inl (y 0, 5, .inl t4f)), (t5, .inl (y 0, 5, .inl (upd (upd (upd t5f 0 x0) 1 x) 2 x2)))] H := hP
    have hD : va_D A [(nw, .inr (4, [.ref kk, .ref nk, .ref nd, .ref ne, .ref nm, .ref nn, .int (nI fi), .int (nI gl), .int (nI un), .int (nI mi), .int (nI 5)])), (nn, .inl (y 6, 6, .inr (.inr (.inr (.inr fn_))))), (t0, .inl (y 0, 5, .inl t0f)), (t1, .inl (y 0, 5, .inl t1f)), (t2, .inl (y 0, 5, .inl t2f)), (t3, .inl (y 0, 5, .inl t3f)), (t4, .inl (y 0, 5, .inl t4f)), (t5, .inl (y 0, 5, .inl (upd (upd (upd t5f 0 x0) 1 x) 2 x2)))] := hD
    refine lv_aload hx hb dX4_addNote_26 (lv_at hl 0 rfl) ?_
    refine lv_iconst (v := 3) hx hb dX4_addNote_28 (by decide) ?_
    refine lv_iload hx hb dX4_addNote_29 (lv_at hl 5 rfl) ?_
    refine va_iast hx hb hK hP hD hS 7 0 rfl rfl (by unfold vp_in; decide) dX4_addNote_31 (fun H locs hP hD hS => ?_)
    rw [show ((3 : Int32)).toNatClampNeg = 3 from rfl] at hP hD
    have hP : va_P D vwCl [(nw, .inr (4, [.ref kk, .ref nk, .ref nd, .ref ne, .ref nm, .ref nn, .int (nI fi), .int (nI gl), .int (nI un), .int (nI mi), .int (nI 5)])), (nn, .inl (y 6, 6, .inr (.inr (.inr (.inr fn_))))), (t0, .inl (y 0, 5, .inl t0f)), (t1, .inl (y 0, 5, .inl t1f)), (t2, .inl (y 0, 5, .inl t2f)), (t3, .inl (y 0, 5, .inl t3f)), (t4, .inl (y 0, 5, .inl t4f)), (t5, .inl (y 0, 5, .inl (upd (upd (upd (upd t5f 0 x0) 1 x) 2 x2) 3 x3)))] H := hP
    have hD : va_D A [(nw, .inr (4, [.ref kk, .ref nk, .ref nd, .ref ne, .ref nm, .ref nn, .int (nI fi), .int (nI gl), .int (nI un), .int (nI mi), .int (nI 5)])), (nn, .inl (y 6, 6, .inr (.inr (.inr (.inr fn_))))), (t0, .inl (y 0, 5, .inl t0f)), (t1, .inl (y 0, 5, .inl t1f)), (t2, .inl (y 0, 5, .inl t2f)), (t3, .inl (y 0, 5, .inl t3f)), (t4, .inl (y 0, 5, .inl t4f)), (t5, .inl (y 0, 5, .inl (upd (upd (upd (upd t5f 0 x0) 1 x) 2 x2) 3 x3)))] := hD
    refine lv_aload hx hb dX4_addNote_32 (lv_at hl 0 rfl) ?_
    refine lv_iconst (v := 4) hx hb dX4_addNote_34 (by decide) ?_
    refine lv_iload hx hb dX4_addNote_35 (lv_at hl 6 rfl) ?_
    refine va_iast hx hb hK hP hD hS 7 0 rfl rfl (by unfold vp_in; decide) dX4_addNote_37 (fun H locs hP hD hS => ?_)
    rw [show ((4 : Int32)).toNatClampNeg = 4 from rfl] at hP hD
    have hP : va_P D vwCl [(nw, .inr (4, [.ref kk, .ref nk, .ref nd, .ref ne, .ref nm, .ref nn, .int (nI fi), .int (nI gl), .int (nI un), .int (nI mi), .int (nI 5)])), (nn, .inl (y 6, 6, .inr (.inr (.inr (.inr fn_))))), (t0, .inl (y 0, 5, .inl t0f)), (t1, .inl (y 0, 5, .inl t1f)), (t2, .inl (y 0, 5, .inl t2f)), (t3, .inl (y 0, 5, .inl t3f)), (t4, .inl (y 0, 5, .inl t4f)), (t5, .inl (y 0, 5, .inl (upd (upd (upd (upd (upd t5f 0 x0) 1 x) 2 x2) 3 x3) 4 x4)))] H := hP
    have hD : va_D A [(nw, .inr (4, [.ref kk, .ref nk, .ref nd, .ref ne, .ref nm, .ref nn, .int (nI fi), .int (nI gl), .int (nI un), .int (nI mi), .int (nI 5)])), (nn, .inl (y 6, 6, .inr (.inr (.inr (.inr fn_))))), (t0, .inl (y 0, 5, .inl t0f)), (t1, .inl (y 0, 5, .inl t1f)), (t2, .inl (y 0, 5, .inl t2f)), (t3, .inl (y 0, 5, .inl t3f)), (t4, .inl (y 0, 5, .inl t4f)), (t5, .inl (y 0, 5, .inl (upd (upd (upd (upd (upd t5f 0 x0) 1 x) 2 x2) 3 x3) 4 x4)))] := hD
    refine lv_aload_n hx hb dX4_addNote_38 rfl (lv_at hl 1 rfl) ?_
    refine lv_dup hx hb dX4_addNote_39 rfl ?_
    refine va_get (D := D) (ci := 4) (v := .int (nI 5)) (C := RX4) (T := TX4) (N := 11) hx hb hts iw4 hown hK hP 0 rfl rfl 10 (by decide) fw2 (fun _ h9 => h9) rfl dX4_addNote_40 ?_
    refine lv_iconst (v := 1) hx hb dX4_addNote_43 (by decide) ?_
    refine lv_iadd hx hb dX4_addNote_44 ?_
    rw [show (nI 5) + 1 = nI (6) from nI_add 5 1]
    refine lv_dup_x1 hx hb dX4_addNote_45 rfl rfl ?_
    refine va_put (D := D) (ci := 4) (v := .int (nI 6)) (ty := .int) (C := RX4) (T := TX4) (N := 11) hx hb hts iw4 tyX4 tyX4_ok nmX4 hown hK hP hD hS 0 rfl rfl 10 (by decide) fw2 (fun _ h9 => h9) rfl (by decide +kernel) rfl rfl (Nat.le_of_ble_eq_true rfl) dX4_addNote_46 (fun H locs hP hD hS => ?_)
    have hP : va_P D vwCl [(nw, .inr (4, [.ref kk, .ref nk, .ref nd, .ref ne, .ref nm, .ref nn, .int (nI fi), .int (nI gl), .int (nI un), .int (nI mi), .int (nI 6)])), (nn, .inl (y 6, 6, .inr (.inr (.inr (.inr fn_))))), (t0, .inl (y 0, 5, .inl t0f)), (t1, .inl (y 0, 5, .inl t1f)), (t2, .inl (y 0, 5, .inl t2f)), (t3, .inl (y 0, 5, .inl t3f)), (t4, .inl (y 0, 5, .inl t4f)), (t5, .inl (y 0, 5, .inl (upd (upd (upd (upd (upd t5f 0 x0) 1 x) 2 x2) 3 x3) 4 x4)))] H := hP
    have hD : va_D A [(nw, .inr (4, [.ref kk, .ref nk, .ref nd, .ref ne, .ref nm, .ref nn, .int (nI fi), .int (nI gl), .int (nI un), .int (nI mi), .int (nI 6)])), (nn, .inl (y 6, 6, .inr (.inr (.inr (.inr fn_))))), (t0, .inl (y 0, 5, .inl t0f)), (t1, .inl (y 0, 5, .inl t1f)), (t2, .inl (y 0, 5, .inl t2f)), (t3, .inl (y 0, 5, .inl t3f)), (t4, .inl (y 0, 5, .inl t4f)), (t5, .inl (y 0, 5, .inl (upd (upd (upd (upd (upd t5f 0 x0) 1 x) 2 x2) 3 x3) 4 x4)))] := hD
    exact W.iret (v := (nI 6)) hx hb hr (fun tZ ht hW => ⟨⟨(nI 6), (t0f, t1f, t2f, t3f, t4f, (upd (upd (upd (upd (upd t5f 0 x0) 1 x) 2 x2) 3 x3) 4 x4)), rfl, rfl, by rw [ht]; exact hP.sub [0, 1, 2, 3, 4, 5, 6, 7] rfl, hD.sub [0, 1, 2, 3, 4, 5, 6, 7] (by decide) rfl⟩, hS.F ht⟩) hS.2.2 dX4_addNote_49

set_option maxHeartbeats 4000000 in
set_option maxRecDepth 100000 in
theorem gx_missed_full (l : Launch) (D : va_G) (y : Nat → ClassId) (g : Nat) (kk : Nat) (nw : Nat) (im : Nat) (kp : Nat) (tx : Nat) (tr : Nat) (be : Nat) (sh : Nat) (sd : Nat) (rf : Nat) (ab : Int32) (bl : Int32) (frf : Nat → Int32) (nk : Nat) (nd : Nat) (ne : Nat) (nm : Nat) (nn : Nat) (fi : Nat) (gl : Nat) (un : Nat) (mi : Nat) (no : Nat) (an1 : Nat) (an2 : Nat) (an3 : Nat) (an4 : Nat) (hfi : fi ≤ 6) (hgl : gl ≤ 5) (hun : un ≤ 8) (hmi : mi ≤ 4) (hno : no ≤ 6) (hA2 : 4 ≤ mi) (hB0_ : an1 < fi) (hB1_ : an2 < 12) (hB2_ : an3 ≤ 60) (hB3_ : an4 ≤ 60) : kw_Mi l yX10_missed wsX10_missed ({ frames := 3, cells := 0, slots := 0, locals := 102 }) D y [.ref g, .int (nI an1), .int (nI an2), .int (nI an3), .int (nI an4)] [(g, .inr (10, [.ref kk, .ref nw, .ref im, .ref kp, .ref tx, .ref tr, .ref be, .ref sh, .ref sd, .ref rf, .int ab, .int bl])), (rf, .inl (y 0, 3, .inl frf)), (nw, .inr (4, [.ref kk, .ref nk, .ref nd, .ref ne, .ref nm, .ref nn, .int (nI fi), .int (nI gl), .int (nI un), .int (nI mi), .int (nI no)]))] (fun (r : Int32) (u : Unit) => r = (-4)) (fun _ => [(g, .inr (10, [.ref kk, .ref nw, .ref im, .ref kp, .ref tx, .ref tr, .ref be, .ref sh, .ref sd, .ref rf, .int ab, .int bl])), (rf, .inl (y 0, 3, .inl (upd frf 2 ((frf 2) + 1)))), (nw, .inr (4, [.ref kk, .ref nk, .ref nd, .ref ne, .ref nm, .ref nn, .int (nI fi), .int (nI gl), .int (nI un), .int (nI mi), .int (nI no)]))]) 0 0 := by
  refine kw_Mi.of (cc := cX10_missed) (maxL := 5) (ret := (some .int)) (by decide) rfl ?_
  intro pZ eZ s mZ beZ meZ cZ A hE
  obtain ⟨hx, hb, hr, hml, hts, hown, hlocks, hin, hA, hP, hD, hK, hN⟩ := hE
  have hS : va_S A s.heap s.heap [] := va_S.rf
  have hl := lv_entry ([.ref g, .int (nI an1), .int (nI an2), .int (nI an3), .int (nI an4)]) (n := 5) (Nat.le_of_ble_eq_true rfl)
  rw [lg_entry_eq]
  generalize (lg_sl ([.ref g, .int (nI an1), .int (nI an2), .int (nI an3), .int (nI an4)]) ++ List.replicate (5 - (lg_sl ([.ref g, .int (nI an1), .int (nI an2), .int (nI an3), .int (nI an4)])).length) Slot.unset).toArray = ls at hl ⊢
  have hl : lv_has ls 5 [(0, .ref g), (1, .int (nI an1)), (2, .int (nI an2)), (3, .int (nI an3)), (4, .int (nI an4))] := hl
  have fw1 := hts (.fieldLink RX10 36 "GleanDusk" "now" "LGleanDusk$Parish;") (List.mem_of_getElem? (i := 1) rfl)
  have fw2 := hts (.fieldLink RX10 240 "GleanDusk$Parish" "missedCount" "I") (List.mem_of_getElem? (i := 2) rfl)
  have iw10 : ∀ w ∈ wsX100, w ∈ wsX10_missed := fun _ h => List.mem_cons_of_mem _ (List.mem_append_left _ (List.mem_append_right _ h))
  have iw4 : ∀ w ∈ wsX40, w ∈ wsX10_missed := fun _ h => List.mem_cons_of_mem _ (List.mem_append_right _ h)
  refine lv_aload_n hx hb dX10_missed_0 rfl (lv_at hl 0 rfl) ?_
  refine va_get (D := D) (ci := 10) (v := .ref nw) (C := RX10) (T := TX10) (N := 12) hx hb hts iw10 hown hK hP 0 rfl rfl 1 (by decide) fw1 (fun _ h9 => h9) rfl dX10_missed_1 ?_
  refine lv_iload_n hx hb dX10_missed_4 rfl (lv_at hl 1 rfl) ?_
  have hs1 : kw_Split [(g, .inr (10, [.ref kk, .ref nw, .ref im, .ref kp, .ref tx, .ref tr, .ref be, .ref sh, .ref sd, .ref rf, .int ab, .int bl])), (rf, .inl (y 0, 3, .inl frf)), (nw, .inr (4, [.ref kk, .ref nk, .ref nd, .ref ne, .ref nm, .ref nn, .int (nI fi), .int (nI gl), .int (nI un), .int (nI mi), .int (nI no)]))] [(nw, .inr (4, [.ref kk, .ref nk, .ref nd, .ref ne, .ref nm, .ref nn, .int (nI fi), .int (nI gl), .int (nI un), .int (nI mi), .int (nI no)]))] [(g, .inr (10, [.ref kk, .ref nw, .ref im, .ref kp, .ref tx, .ref tr, .ref be, .ref sh, .ref sd, .ref rf, .int ab, .int bl])), (rf, .inl (y 0, 3, .inl frf))] [2] [0, 1] := ⟨rfl, rfl, rfl, rfl, rfl, by decide⟩
  refine kw_go_i hs1 hP hD hS hA (va_runV (As := [.int (nI an1)]) (rest := []) ⟨hx, hb, hml, hown, hts⟩ (gc_hasField l D y nw kk nk nd ne nm nn fi gl un mi no (nI an1) hfi hgl hun hmi hno _) (cwV 1 hts gX10_missed_X4_hasField rfl rfl rfl (by decide +kernel) ⟨Nat.le_of_ble_eq_true rfl, Nat.le_of_ble_eq_true rfl⟩) (kw_PreV (ci := 4) (q0 := 2) hs1 hP hD hK hN rfl rfl) rfl rfl hl.1 rfl (lv_room (Nat.le_of_ble_eq_true rfl)) dX10_missed_5 ⟨Nat.le_of_ble_eq_true rfl, Nat.le_of_ble_eq_true rfl⟩) (fun r2 u3 H locs hq hP hD hS => ?_)
  rcases hq with ⟨j4, h5, h6, rfl⟩ | ⟨h7, rfl⟩
  · skip
    have h6 : an1 = j4 := (nI_eq (a := an1) (b := j4) (by omega) (by omega)).mp h6
    have hP : va_P D vwCl [(g, .inr (10, [.ref kk, .ref nw, .ref im, .ref kp, .ref tx, .ref tr, .ref be, .ref sh, .ref sd, .ref rf, .int ab, .int bl])), (rf, .inl (y 0, 3, .inl frf)), (nw, .inr (4, [.ref kk, .ref nk, .ref nd, .ref ne, .ref nm, .ref nn, .int (nI fi), .int (nI gl), .int (nI un), .int (nI mi), .int (nI no)]))] H := hP
    have hD : va_D A [(g, .inr (10, [.ref kk, .ref nw, .ref im, .ref kp, .ref tx, .ref tr, .ref be, .ref sh, .ref sd, .ref rf, .int ab, .int bl])), (rf, .inl (y 0, 3, .inl frf)), (nw, .inr (4, [.ref kk, .ref nk, .ref nd, .ref ne, .ref nm, .ref nn, .int (nI fi), .int (nI gl), .int (nI un), .int (nI mi), .int (nI no)]))] := hD
    refine lv_if_eq (tgt := 38) hx hb dX10_missed_8 (by decide) (fun h9 => absurd h9 (by decide)) (fun _ => ?_)
    refine lv_iload_n hx hb dX10_missed_11 rfl (lv_at hl 2 rfl) ?_
    refine lv_bipush (v := 12) hx hb dX10_missed_12 (by decide) ?_
    have hs8 : kw_Split [(g, .inr (10, [.ref kk, .ref nw, .ref im, .ref kp, .ref tx, .ref tr, .ref be, .ref sh, .ref sd, .ref rf, .int ab, .int bl])), (rf, .inl (y 0, 3, .inl frf)), (nw, .inr (4, [.ref kk, .ref nk, .ref nd, .ref ne, .ref nm, .ref nn, .int (nI fi), .int (nI gl), .int (nI un), .int (nI mi), .int (nI no)]))] [] [(g, .inr (10, [.ref kk, .ref nw, .ref im, .ref kp, .ref tx, .ref tr, .ref be, .ref sh, .ref sd, .ref rf, .int ab, .int bl])), (rf, .inl (y 0, 3, .inl frf)), (nw, .inr (4, [.ref kk, .ref nk, .ref nd, .ref ne, .ref nm, .ref nn, .int (nI fi), .int (nI gl), .int (nI un), .int (nI mi), .int (nI no)]))] [] [0, 1, 2] := ⟨rfl, rfl, rfl, rfl, rfl, by decide⟩
    refine kw_go_i hs8 hP hD hS hA (va_runS (As := [.int (nI an2), .int 12]) (rest := []) ⟨hx, hb, hml, hown, hts⟩ (gc_isBelow l D y (nI an2) 12 (by omega) _) (va_cwS 2 hts gX10_missed_X10_isBelow rfl rfl rfl (by decide +kernel) ⟨Nat.le_of_ble_eq_true rfl, Nat.le_of_ble_eq_true rfl⟩) (kw_PreS hs8 hP hD hK hN) rfl rfl hl.1 rfl (lv_room (Nat.le_of_ble_eq_true rfl)) dX10_missed_14 ⟨Nat.le_of_ble_eq_true rfl, Nat.le_of_ble_eq_true rfl⟩) (fun r9 u10 H locs hq hP hD hS => ?_)
    rcases hq with ⟨j11, h12, h13, rfl⟩ | ⟨h14, rfl⟩
    · skip
      have h13 : an2 = j11 := (nI_eq (a := an2) (b := j11) (by omega) (by omega)).mp h13
      have hP : va_P D vwCl [(g, .inr (10, [.ref kk, .ref nw, .ref im, .ref kp, .ref tx, .ref tr, .ref be, .ref sh, .ref sd, .ref rf, .int ab, .int bl])), (rf, .inl (y 0, 3, .inl frf)), (nw, .inr (4, [.ref kk, .ref nk, .ref nd, .ref ne, .ref nm, .ref nn, .int (nI fi), .int (nI gl), .int (nI un), .int (nI mi), .int (nI no)]))] H := hP
      have hD : va_D A [(g, .inr (10, [.ref kk, .ref nw, .ref im, .ref kp, .ref tx, .ref tr, .ref be, .ref sh, .ref sd, .ref rf, .int ab, .int bl])), (rf, .inl (y 0, 3, .inl frf)), (nw, .inr (4, [.ref kk, .ref nk, .ref nd, .ref ne, .ref nm, .ref nn, .int (nI fi), .int (nI gl), .int (nI un), .int (nI mi), .int (nI no)]))] := hD
      refine lv_if_eq (tgt := 38) hx hb dX10_missed_17 (by decide) (fun h9 => absurd h9 (by decide)) (fun _ => ?_)
      refine lv_iload_n hx hb dX10_missed_20 rfl (lv_at hl 3 rfl) ?_
      have hs15 : kw_Split [(g, .inr (10, [.ref kk, .ref nw, .ref im, .ref kp, .ref tx, .ref tr, .ref be, .ref sh, .ref sd, .ref rf, .int ab, .int bl])), (rf, .inl (y 0, 3, .inl frf)), (nw, .inr (4, [.ref kk, .ref nk, .ref nd, .ref ne, .ref nm, .ref nn, .int (nI fi), .int (nI gl), .int (nI un), .int (nI mi), .int (nI no)]))] [] [(g, .inr (10, [.ref kk, .ref nw, .ref im, .ref kp, .ref tx, .ref tr, .ref be, .ref sh, .ref sd, .ref rf, .int ab, .int bl])), (rf, .inl (y 0, 3, .inl frf)), (nw, .inr (4, [.ref kk, .ref nk, .ref nd, .ref ne, .ref nm, .ref nn, .int (nI fi), .int (nI gl), .int (nI un), .int (nI mi), .int (nI no)]))] [] [0, 1, 2] := ⟨rfl, rfl, rfl, rfl, rfl, by decide⟩
      refine kw_go_i hs15 hP hD hS hA (va_runS (As := [.int (nI an3)]) (rest := []) ⟨hx, hb, hml, hown, hts⟩ (gc_isLight l D y (nI an3)  _) (va_cwS 1 hts gX10_missed_X10_isLight rfl rfl rfl (by decide +kernel) ⟨Nat.le_of_ble_eq_true rfl, Nat.le_of_ble_eq_true rfl⟩) (kw_PreS hs15 hP hD hK hN) rfl rfl hl.1 rfl (lv_room (Nat.le_of_ble_eq_true rfl)) dX10_missed_21 ⟨Nat.le_of_ble_eq_true rfl, Nat.le_of_ble_eq_true rfl⟩) (fun r16 u17 H locs hq hP hD hS => ?_)
      rcases hq with ⟨j18, h19, h20, rfl⟩ | ⟨h21, rfl⟩
      · skip
        have h20 : an3 = j18 := (nI_eq (a := an3) (b := j18) (by omega) (by omega)).mp h20
        have hP : va_P D vwCl [(g, .inr (10, [.ref kk, .ref nw, .ref im, .ref kp, .ref tx, .ref tr, .ref be, .ref sh, .ref sd, .ref rf, .int ab, .int bl])), (rf, .inl (y 0, 3, .inl frf)), (nw, .inr (4, [.ref kk, .ref nk, .ref nd, .ref ne, .ref nm, .ref nn, .int (nI fi), .int (nI gl), .int (nI un), .int (nI mi), .int (nI no)]))] H := hP
        have hD : va_D A [(g, .inr (10, [.ref kk, .ref nw, .ref im, .ref kp, .ref tx, .ref tr, .ref be, .ref sh, .ref sd, .ref rf, .int ab, .int bl])), (rf, .inl (y 0, 3, .inl frf)), (nw, .inr (4, [.ref kk, .ref nk, .ref nd, .ref ne, .ref nm, .ref nn, .int (nI fi), .int (nI gl), .int (nI un), .int (nI mi), .int (nI no)]))] := hD
        refine lv_if_eq (tgt := 38) hx hb dX10_missed_24 (by decide) (fun h9 => absurd h9 (by decide)) (fun _ => ?_)
        refine lv_iload hx hb dX10_missed_27 (lv_at hl 4 rfl) ?_
        refine lv_iconst (v := 0) hx hb dX10_missed_29 (by decide) ?_
        refine lv_bipush (v := 60) hx hb dX10_missed_30 (by decide) ?_
        have hs22 : kw_Split [(g, .inr (10, [.ref kk, .ref nw, .ref im, .ref kp, .ref tx, .ref tr, .ref be, .ref sh, .ref sd, .ref rf, .int ab, .int bl])), (rf, .inl (y 0, 3, .inl frf)), (nw, .inr (4, [.ref kk, .ref nk, .ref nd, .ref ne, .ref nm, .ref nn, .int (nI fi), .int (nI gl), .int (nI un), .int (nI mi), .int (nI no)]))] [] [(g, .inr (10, [.ref kk, .ref nw, .ref im, .ref kp, .ref tx, .ref tr, .ref be, .ref sh, .ref sd, .ref rf, .int ab, .int bl])), (rf, .inl (y 0, 3, .inl frf)), (nw, .inr (4, [.ref kk, .ref nk, .ref nd, .ref ne, .ref nm, .ref nn, .int (nI fi), .int (nI gl), .int (nI un), .int (nI mi), .int (nI no)]))] [] [0, 1, 2] := ⟨rfl, rfl, rfl, rfl, rfl, by decide⟩
        refine kw_go_i hs22 hP hD hS hA (va_runS (As := [.int (nI an4), .int 0, .int 60]) (rest := []) ⟨hx, hb, hml, hown, hts⟩ (gc_isIn l D y (nI an4) 0 60 (by omega) (by omega) _) (va_cwS 3 hts gX10_missed_X10_isIn rfl rfl rfl (by decide +kernel) ⟨Nat.le_of_ble_eq_true rfl, Nat.le_of_ble_eq_true rfl⟩) (kw_PreS hs22 hP hD hK hN) rfl rfl hl.1 rfl (lv_room (Nat.le_of_ble_eq_true rfl)) dX10_missed_32 ⟨Nat.le_of_ble_eq_true rfl, Nat.le_of_ble_eq_true rfl⟩) (fun r23 u24 H locs hq hP hD hS => ?_)
        rcases hq with ⟨j25, h26, h27, h28, rfl⟩ | ⟨h29, rfl⟩
        · skip
          have h28 : an4 = j25 := (nI_eq (a := an4) (b := j25) (by omega) (by omega)).mp h28
          have hP : va_P D vwCl [(g, .inr (10, [.ref kk, .ref nw, .ref im, .ref kp, .ref tx, .ref tr, .ref be, .ref sh, .ref sd, .ref rf, .int ab, .int bl])), (rf, .inl (y 0, 3, .inl frf)), (nw, .inr (4, [.ref kk, .ref nk, .ref nd, .ref ne, .ref nm, .ref nn, .int (nI fi), .int (nI gl), .int (nI un), .int (nI mi), .int (nI no)]))] H := hP
          have hD : va_D A [(g, .inr (10, [.ref kk, .ref nw, .ref im, .ref kp, .ref tx, .ref tr, .ref be, .ref sh, .ref sd, .ref rf, .int ab, .int bl])), (rf, .inl (y 0, 3, .inl frf)), (nw, .inr (4, [.ref kk, .ref nk, .ref nd, .ref ne, .ref nm, .ref nn, .int (nI fi), .int (nI gl), .int (nI un), .int (nI mi), .int (nI no)]))] := hD
          refine lv_if_ne (tgt := 43) hx hb dX10_missed_35 (by decide) (fun _ => ?_) (fun h9 => absurd h9 (by decide))
          refine lv_aload_n hx hb dX10_missed_43 rfl (lv_at hl 0 rfl) ?_
          refine va_get (D := D) (ci := 10) (v := .ref nw) (C := RX10) (T := TX10) (N := 12) hx hb hts iw10 hown hK hP 0 rfl rfl 1 (by decide) fw1 (fun _ h9 => h9) rfl dX10_missed_44 ?_
          refine va_get (D := D) (ci := 4) (v := .int (nI mi)) (C := RX4) (T := TX4) (N := 11) hx hb hts iw4 hown hK hP 2 rfl rfl 9 (by decide) fw2 (fun _ h9 => h9) rfl dX10_missed_47 ?_
          refine lv_iconst (v := 4) hx hb dX10_missed_50 (by decide) ?_
          refine lv_icmp_lt (tgt := 59) hx hb dX10_missed_51 (by decide) (fun h30 => ?_) (fun h31 => ?_)
          · skip
            have h30 : mi < 4 := (nI_ltI (a := mi) (b := 4) (by omega) (by omega)).mp h30
            exact absurd h30 (by omega)
          · skip
            have h31 : ¬ mi < 4 := fun q9 => h31 ((nI_ltI (a := mi) (b := 4) (by omega) (by omega)).mpr q9)
            refine lv_aload_n hx hb dX10_missed_54 rfl (lv_at hl 0 rfl) ?_
            have hs32 : kw_Split [(g, .inr (10, [.ref kk, .ref nw, .ref im, .ref kp, .ref tx, .ref tr, .ref be, .ref sh, .ref sd, .ref rf, .int ab, .int bl])), (rf, .inl (y 0, 3, .inl frf)), (nw, .inr (4, [.ref kk, .ref nk, .ref nd, .ref ne, .ref nm, .ref nn, .int (nI fi), .int (nI gl), .int (nI un), .int (nI mi), .int (nI no)]))] [(g, .inr (10, [.ref kk, .ref nw, .ref im, .ref kp, .ref tx, .ref tr, .ref be, .ref sh, .ref sd, .ref rf, .int ab, .int bl])), (rf, .inl (y 0, 3, .inl frf))] [(nw, .inr (4, [.ref kk, .ref nk, .ref nd, .ref ne, .ref nm, .ref nn, .int (nI fi), .int (nI gl), .int (nI un), .int (nI mi), .int (nI no)]))] [0, 1] [2] := ⟨rfl, rfl, rfl, rfl, rfl, by decide⟩
            refine kw_go_i hs32 hP hD hS hA (va_runV (As := []) (rest := []) ⟨hx, hb, hml, hown, hts⟩ (gc_refuseFull l D y g kk nw im kp tx tr be sh sd rf ab bl frf  _) (cwV 0 hts gX10_missed_X10_refuseFull rfl rfl rfl (by decide +kernel) ⟨Nat.le_of_ble_eq_true rfl, Nat.le_of_ble_eq_true rfl⟩) (kw_PreV (ci := 10) (q0 := 0) hs32 hP hD hK hN rfl rfl) rfl rfl hl.1 rfl (lv_room (Nat.le_of_ble_eq_true rfl)) dX10_missed_55 ⟨Nat.le_of_ble_eq_true rfl, Nat.le_of_ble_eq_true rfl⟩) (fun r33 u34 H locs hq hP hD hS => ?_)
            obtain rfl := hq
            have hP : va_P D vwCl [(nw, .inr (4, [.ref kk, .ref nk, .ref nd, .ref ne, .ref nm, .ref nn, .int (nI fi), .int (nI gl), .int (nI un), .int (nI mi), .int (nI no)])), (g, .inr (10, [.ref kk, .ref nw, .ref im, .ref kp, .ref tx, .ref tr, .ref be, .ref sh, .ref sd, .ref rf, .int ab, .int bl])), (rf, .inl (y 0, 3, .inl (upd frf 2 ((frf 2) + 1))))] H := hP
            have hD : va_D A [(nw, .inr (4, [.ref kk, .ref nk, .ref nd, .ref ne, .ref nm, .ref nn, .int (nI fi), .int (nI gl), .int (nI un), .int (nI mi), .int (nI no)])), (g, .inr (10, [.ref kk, .ref nw, .ref im, .ref kp, .ref tx, .ref tr, .ref be, .ref sh, .ref sd, .ref rf, .int ab, .int bl])), (rf, .inl (y 0, 3, .inl (upd frf 2 ((frf 2) + 1))))] := hD
            exact W.iret (v := (-4)) hx hb hr (fun tZ ht hW => ⟨⟨(-4), (), rfl, rfl, by rw [ht]; exact hP.sub [1, 2, 0] rfl, hD.sub [1, 2, 0] (by decide) rfl⟩, hS.F ht⟩) hS.2.2 dX10_missed_58
        · skip
          exact absurd ⟨an4, by omega, by omega, rfl⟩ h29
      · skip
        exact absurd ⟨an3, by omega, by omega, rfl⟩ h21
    · skip
      exact absurd ⟨an2, by omega, rfl⟩ h14
  · skip
    exact absurd ⟨an1, by omega, rfl⟩ h7

set_option maxHeartbeats 4000000 in
set_option maxRecDepth 100000 in
theorem gy_missed_full (l : Launch) (D : va_G) (y : Nat → ClassId) (mo : Nat) (to : Nat) (ke : Nat) (ik : Nat) (mrf : Nat) (ha : Nat) (r0 : Nat) (mbr : Nat) (mbp : Nat) (mby : Nat) (an : Nat) (va : Nat) (mab : Int64) (mbl : Int64) (bl : Nat) (ta : Nat) (tl : Nat) (tk : Nat) (vv : Int32) (frf : Nat → Int32) (ft : Nat → Int32) (fi : Nat) (gl : Nat) (mi : Nat) (no : Nat) (un : Nat) (an1 : Nat) (an2 : Nat) (an3 : Nat) (an4 : Nat) (hk0_ : ft 0 = (nI fi)) (hk1_ : ft 1 = (nI gl)) (hk2_ : ft 2 = (nI mi)) (hk3_ : ft 3 = (nI no)) (hk4_ : ft 4 = (nI un)) (hkt : kr_t 228 ft) (hfi : fi ≤ 6) (hgl : gl ≤ 5) (hmi : mi ≤ 4) (hno : no ≤ 6) (hun : un ≤ 8) (hgf : (gl = 0 ∨ 0 < fi)) (hA2 : mi = 4) (hB0_ : an1 < fi) (hB1_ : an2 < 12) (hB2_ : an3 ≤ 60) (hB3_ : an4 ≤ 60) : kw_Mi l yX11_missed wsX11_missed ({ frames := 3, cells := 0, slots := 0, locals := 106 }) D y [.ref mo, .int (nI an1), .int (nI an2), .int (nI an3), .int (nI an4)] [(mo, .inr (11, [.ref to, .ref ke, .ref ik, .ref mrf, .long mab, .long mbl, .ref ha, .ref r0, .ref mbr, .ref mbp, .ref mby, .int (nI bl), .int (nI ta), .int (nI tl), .int (nI tk), .int vv, .ref an, .ref va])), (mrf, .inl (y 0, 3, .inl frf)), (to, .inl (y 0, 228, .inl ft))] (fun (r : Int32) (u : Unit) => (gl = 0 ∨ 0 < fi) ∧ r = (-4)) (fun _ => [(mo, .inr (11, [.ref to, .ref ke, .ref ik, .ref mrf, .long mab, .long mbl, .ref ha, .ref r0, .ref mbr, .ref mbp, .ref mby, .int (nI bl), .int (nI ta), .int (nI tl), .int (nI tk), .int vv, .ref an, .ref va])), (mrf, .inl (y 0, 3, .inl (upd frf 2 ((frf 2) + 1)))), (to, .inl (y 0, 228, .inl ft))]) 0 0 := by
  refine kw_Mi.of (cc := cX11_missed) (maxL := 6) (ret := (some .int)) (by decide) rfl ?_
  intro pZ eZ s mZ beZ meZ cZ A hE
  obtain ⟨hx, hb, hr, hml, hts, hown, hlocks, hin, hA, hP, hD, hK, hN⟩ := hE
  have hS : va_S A s.heap s.heap [] := va_S.rf
  have hl := lv_entry ([.ref mo, .int (nI an1), .int (nI an2), .int (nI an3), .int (nI an4)]) (n := 6) (Nat.le_of_ble_eq_true rfl)
  rw [lg_entry_eq]
  generalize (lg_sl ([.ref mo, .int (nI an1), .int (nI an2), .int (nI an3), .int (nI an4)]) ++ List.replicate (6 - (lg_sl ([.ref mo, .int (nI an1), .int (nI an2), .int (nI an3), .int (nI an4)])).length) Slot.unset).toArray = ls at hl ⊢
  have hl : lv_has ls 6 [(0, .ref mo), (1, .int (nI an1)), (2, .int (nI an2)), (3, .int (nI an3)), (4, .int (nI an4))] := hl
  have fw1 := hts (.fieldLink RX11 7 "GleanDuskModel" "told" "[I") (List.mem_of_getElem? (i := 1) rfl)
  have iw11 : ∀ w ∈ wsX110, w ∈ wsX11_missed := fun _ h => List.mem_cons_of_mem _ (List.mem_append_right _ h)
  refine lv_aload_n hx hb dX11_missed_0 rfl (lv_at hl 0 rfl) ?_
  refine lv_iload_n hx hb dX11_missed_1 rfl (lv_at hl 1 rfl) ?_
  have hs1 : kw_Split [(mo, .inr (11, [.ref to, .ref ke, .ref ik, .ref mrf, .long mab, .long mbl, .ref ha, .ref r0, .ref mbr, .ref mbp, .ref mby, .int (nI bl), .int (nI ta), .int (nI tl), .int (nI tk), .int vv, .ref an, .ref va])), (mrf, .inl (y 0, 3, .inl frf)), (to, .inl (y 0, 228, .inl ft))] [(mo, .inr (11, [.ref to, .ref ke, .ref ik, .ref mrf, .long mab, .long mbl, .ref ha, .ref r0, .ref mbr, .ref mbp, .ref mby, .int (nI bl), .int (nI ta), .int (nI tl), .int (nI tk), .int vv, .ref an, .ref va])), (to, .inl (y 0, 228, .inl ft))] [(mrf, .inl (y 0, 3, .inl frf))] [0, 2] [1] := ⟨rfl, rfl, rfl, rfl, rfl, by decide⟩
  refine kw_go_i hs1 hP hD hS hA (va_runV (As := [.int (nI an1)]) (rest := []) ⟨hx, hb, hml, hown, hts⟩ (gr_isField l D y mo to ke ik mrf ha r0 mbr mbp mby an va mab mbl bl ta tl tk vv ft fi gl mi no un (nI an1) hk0_ hk1_ hk2_ hk3_ hk4_ hkt hfi hgl hmi hno hun _) (cwV 1 hts gX11_missed_X11_isField rfl rfl rfl (by decide +kernel) ⟨Nat.le_of_ble_eq_true rfl, Nat.le_of_ble_eq_true rfl⟩) (kw_PreV (ci := 11) (q0 := 0) hs1 hP hD hK hN rfl rfl) rfl rfl hl.1 rfl (lv_room (Nat.le_of_ble_eq_true rfl)) dX11_missed_2 ⟨Nat.le_of_ble_eq_true rfl, Nat.le_of_ble_eq_true rfl⟩) (fun r2 u3 H locs hq hP hD hS => ?_)
  rcases hq with ⟨j4, h5, h6, rfl⟩ | ⟨h7, rfl⟩
  · skip
    have h6 : an1 = j4 := (nI_eq (a := an1) (b := j4) (by omega) (by omega)).mp h6
    have hP : va_P D vwCl [(mrf, .inl (y 0, 3, .inl frf)), (mo, .inr (11, [.ref to, .ref ke, .ref ik, .ref mrf, .long mab, .long mbl, .ref ha, .ref r0, .ref mbr, .ref mbp, .ref mby, .int (nI bl), .int (nI ta), .int (nI tl), .int (nI tk), .int vv, .ref an, .ref va])), (to, .inl (y 0, 228, .inl ft))] H := hP
    have hD : va_D A [(mrf, .inl (y 0, 3, .inl frf)), (mo, .inr (11, [.ref to, .ref ke, .ref ik, .ref mrf, .long mab, .long mbl, .ref ha, .ref r0, .ref mbr, .ref mbp, .ref mby, .int (nI bl), .int (nI ta), .int (nI tl), .int (nI tk), .int vv, .ref an, .ref va])), (to, .inl (y 0, 228, .inl ft))] := hD
    refine lv_if_eq (tgt := 30) hx hb dX11_missed_5 (by decide) (fun h9 => absurd h9 (by decide)) (fun _ => ?_)
    refine lv_iload_n hx hb dX11_missed_8 rfl (lv_at hl 2 rfl) ?_
    have hs8 : kw_Split [(mrf, .inl (y 0, 3, .inl frf)), (mo, .inr (11, [.ref to, .ref ke, .ref ik, .ref mrf, .long mab, .long mbl, .ref ha, .ref r0, .ref mbr, .ref mbp, .ref mby, .int (nI bl), .int (nI ta), .int (nI tl), .int (nI tk), .int vv, .ref an, .ref va])), (to, .inl (y 0, 228, .inl ft))] [] [(mrf, .inl (y 0, 3, .inl frf)), (mo, .inr (11, [.ref to, .ref ke, .ref ik, .ref mrf, .long mab, .long mbl, .ref ha, .ref r0, .ref mbr, .ref mbp, .ref mby, .int (nI bl), .int (nI ta), .int (nI tl), .int (nI tk), .int vv, .ref an, .ref va])), (to, .inl (y 0, 228, .inl ft))] [] [0, 1, 2] := ⟨rfl, rfl, rfl, rfl, rfl, by decide⟩
    refine kw_go_i hs8 hP hD hS hA (va_runS (As := [.int (nI an2)]) (rest := []) ⟨hx, hb, hml, hown, hts⟩ (gr_isStep l D y (nI an2)  _) (va_cwS 1 hts gX11_missed_X11_isStep rfl rfl rfl (by decide +kernel) ⟨Nat.le_of_ble_eq_true rfl, Nat.le_of_ble_eq_true rfl⟩) (kw_PreS hs8 hP hD hK hN) rfl rfl hl.1 rfl (lv_room (Nat.le_of_ble_eq_true rfl)) dX11_missed_9 ⟨Nat.le_of_ble_eq_true rfl, Nat.le_of_ble_eq_true rfl⟩) (fun r9 u10 H locs hq hP hD hS => ?_)
    rcases hq with ⟨j11, h12, h13, rfl⟩ | ⟨h14, rfl⟩
    · skip
      have h13 : an2 = j11 := (nI_eq (a := an2) (b := j11) (by omega) (by omega)).mp h13
      have hP : va_P D vwCl [(mrf, .inl (y 0, 3, .inl frf)), (mo, .inr (11, [.ref to, .ref ke, .ref ik, .ref mrf, .long mab, .long mbl, .ref ha, .ref r0, .ref mbr, .ref mbp, .ref mby, .int (nI bl), .int (nI ta), .int (nI tl), .int (nI tk), .int vv, .ref an, .ref va])), (to, .inl (y 0, 228, .inl ft))] H := hP
      have hD : va_D A [(mrf, .inl (y 0, 3, .inl frf)), (mo, .inr (11, [.ref to, .ref ke, .ref ik, .ref mrf, .long mab, .long mbl, .ref ha, .ref r0, .ref mbr, .ref mbp, .ref mby, .int (nI bl), .int (nI ta), .int (nI tl), .int (nI tk), .int vv, .ref an, .ref va])), (to, .inl (y 0, 228, .inl ft))] := hD
      refine lv_if_eq (tgt := 30) hx hb dX11_missed_12 (by decide) (fun h9 => absurd h9 (by decide)) (fun _ => ?_)
      refine lv_iload_n hx hb dX11_missed_15 rfl (lv_at hl 3 rfl) ?_
      have hs15 : kw_Split [(mrf, .inl (y 0, 3, .inl frf)), (mo, .inr (11, [.ref to, .ref ke, .ref ik, .ref mrf, .long mab, .long mbl, .ref ha, .ref r0, .ref mbr, .ref mbp, .ref mby, .int (nI bl), .int (nI ta), .int (nI tl), .int (nI tk), .int vv, .ref an, .ref va])), (to, .inl (y 0, 228, .inl ft))] [] [(mrf, .inl (y 0, 3, .inl frf)), (mo, .inr (11, [.ref to, .ref ke, .ref ik, .ref mrf, .long mab, .long mbl, .ref ha, .ref r0, .ref mbr, .ref mbp, .ref mby, .int (nI bl), .int (nI ta), .int (nI tl), .int (nI tk), .int vv, .ref an, .ref va])), (to, .inl (y 0, 228, .inl ft))] [] [0, 1, 2] := ⟨rfl, rfl, rfl, rfl, rfl, by decide⟩
      refine kw_go_i hs15 hP hD hS hA (va_runS (As := [.int (nI an3)]) (rest := []) ⟨hx, hb, hml, hown, hts⟩ (gr_isLight l D y (nI an3)  _) (va_cwS 1 hts gX11_missed_X11_isLight rfl rfl rfl (by decide +kernel) ⟨Nat.le_of_ble_eq_true rfl, Nat.le_of_ble_eq_true rfl⟩) (kw_PreS hs15 hP hD hK hN) rfl rfl hl.1 rfl (lv_room (Nat.le_of_ble_eq_true rfl)) dX11_missed_16 ⟨Nat.le_of_ble_eq_true rfl, Nat.le_of_ble_eq_true rfl⟩) (fun r16 u17 H locs hq hP hD hS => ?_)
      rcases hq with ⟨j18, h19, h20, rfl⟩ | ⟨h21, rfl⟩
      · skip
        have h20 : an3 = j18 := (nI_eq (a := an3) (b := j18) (by omega) (by omega)).mp h20
        have hP : va_P D vwCl [(mrf, .inl (y 0, 3, .inl frf)), (mo, .inr (11, [.ref to, .ref ke, .ref ik, .ref mrf, .long mab, .long mbl, .ref ha, .ref r0, .ref mbr, .ref mbp, .ref mby, .int (nI bl), .int (nI ta), .int (nI tl), .int (nI tk), .int vv, .ref an, .ref va])), (to, .inl (y 0, 228, .inl ft))] H := hP
        have hD : va_D A [(mrf, .inl (y 0, 3, .inl frf)), (mo, .inr (11, [.ref to, .ref ke, .ref ik, .ref mrf, .long mab, .long mbl, .ref ha, .ref r0, .ref mbr, .ref mbp, .ref mby, .int (nI bl), .int (nI ta), .int (nI tl), .int (nI tk), .int vv, .ref an, .ref va])), (to, .inl (y 0, 228, .inl ft))] := hD
        refine lv_if_eq (tgt := 30) hx hb dX11_missed_19 (by decide) (fun h9 => absurd h9 (by decide)) (fun _ => ?_)
        refine lv_iload hx hb dX11_missed_22 (lv_at hl 4 rfl) ?_
        have hs22 : kw_Split [(mrf, .inl (y 0, 3, .inl frf)), (mo, .inr (11, [.ref to, .ref ke, .ref ik, .ref mrf, .long mab, .long mbl, .ref ha, .ref r0, .ref mbr, .ref mbp, .ref mby, .int (nI bl), .int (nI ta), .int (nI tl), .int (nI tk), .int vv, .ref an, .ref va])), (to, .inl (y 0, 228, .inl ft))] [] [(mrf, .inl (y 0, 3, .inl frf)), (mo, .inr (11, [.ref to, .ref ke, .ref ik, .ref mrf, .long mab, .long mbl, .ref ha, .ref r0, .ref mbr, .ref mbp, .ref mby, .int (nI bl), .int (nI ta), .int (nI tl), .int (nI tk), .int vv, .ref an, .ref va])), (to, .inl (y 0, 228, .inl ft))] [] [0, 1, 2] := ⟨rfl, rfl, rfl, rfl, rfl, by decide⟩
        refine kw_go_i hs22 hP hD hS hA (va_runS (As := [.int (nI an4)]) (rest := []) ⟨hx, hb, hml, hown, hts⟩ (gr_isLight l D y (nI an4)  _) (va_cwS 1 hts gX11_missed_X11_isLight rfl rfl rfl (by decide +kernel) ⟨Nat.le_of_ble_eq_true rfl, Nat.le_of_ble_eq_true rfl⟩) (kw_PreS hs22 hP hD hK hN) rfl rfl hl.1 rfl (lv_room (Nat.le_of_ble_eq_true rfl)) dX11_missed_24 ⟨Nat.le_of_ble_eq_true rfl, Nat.le_of_ble_eq_true rfl⟩) (fun r23 u24 H locs hq hP hD hS => ?_)
        rcases hq with ⟨j25, h26, h27, rfl⟩ | ⟨h28, rfl⟩
        · skip
          have h27 : an4 = j25 := (nI_eq (a := an4) (b := j25) (by omega) (by omega)).mp h27
          have hP : va_P D vwCl [(mrf, .inl (y 0, 3, .inl frf)), (mo, .inr (11, [.ref to, .ref ke, .ref ik, .ref mrf, .long mab, .long mbl, .ref ha, .ref r0, .ref mbr, .ref mbp, .ref mby, .int (nI bl), .int (nI ta), .int (nI tl), .int (nI tk), .int vv, .ref an, .ref va])), (to, .inl (y 0, 228, .inl ft))] H := hP
          have hD : va_D A [(mrf, .inl (y 0, 3, .inl frf)), (mo, .inr (11, [.ref to, .ref ke, .ref ik, .ref mrf, .long mab, .long mbl, .ref ha, .ref r0, .ref mbr, .ref mbp, .ref mby, .int (nI bl), .int (nI ta), .int (nI tl), .int (nI tk), .int vv, .ref an, .ref va])), (to, .inl (y 0, 228, .inl ft))] := hD
          refine lv_if_ne (tgt := 37) hx hb dX11_missed_27 (by decide) (fun _ => ?_) (fun h9 => absurd h9 (by decide))
          refine lv_aload_n hx hb dX11_missed_37 rfl (lv_at hl 0 rfl) ?_
          refine va_get (D := D) (ci := 11) (v := .ref to) (C := RX11) (T := TX11) (N := 18) hx hb hts iw11 hown hK hP 1 rfl rfl 0 (by decide) fw1 (fun _ h9 => h9) rfl dX11_missed_38 ?_
          refine lv_iconst (v := 2) hx hb dX11_missed_41 (by decide) ?_
          refine va_iald hx hb hK hP 2 0 rfl rfl (by unfold vp_in; decide) dX11_missed_42 ?_
          rw [show ((2 : Int32)).toNatClampNeg = 2 from rfl]
          rw [show (ft 2) = (nI mi) from hk2_]
          refine lv_iconst (v := 4) hx hb dX11_missed_43 (by decide) ?_
          refine lv_icmp_ne (tgt := 52) hx hb dX11_missed_44 (by decide) (fun h29 => ?_) (fun h30 => ?_)
          · skip
            have h29 : ¬ mi = 4 := fun q9 => h29 ((nI_eq (a := mi) (b := 4) (by omega) (by omega)).mpr q9)
            exact absurd h29 (by omega)
          · skip
            have h30 : mi = 4 := (nI_eq (a := mi) (b := 4) (by omega) (by omega)).mp h30
            refine lv_aload_n hx hb dX11_missed_47 rfl (lv_at hl 0 rfl) ?_
            have hs31 : kw_Split [(mrf, .inl (y 0, 3, .inl frf)), (mo, .inr (11, [.ref to, .ref ke, .ref ik, .ref mrf, .long mab, .long mbl, .ref ha, .ref r0, .ref mbr, .ref mbp, .ref mby, .int (nI bl), .int (nI ta), .int (nI tl), .int (nI tk), .int vv, .ref an, .ref va])), (to, .inl (y 0, 228, .inl ft))] [(mo, .inr (11, [.ref to, .ref ke, .ref ik, .ref mrf, .long mab, .long mbl, .ref ha, .ref r0, .ref mbr, .ref mbp, .ref mby, .int (nI bl), .int (nI ta), .int (nI tl), .int (nI tk), .int vv, .ref an, .ref va])), (mrf, .inl (y 0, 3, .inl frf))] [(to, .inl (y 0, 228, .inl ft))] [1, 0] [2] := ⟨rfl, rfl, rfl, rfl, rfl, by decide⟩
            refine kw_go_i hs31 hP hD hS hA (va_runV (As := []) (rest := []) ⟨hx, hb, hml, hown, hts⟩ (gr_full l D y mo to ke ik mrf ha r0 mbr mbp mby an va mab mbl bl ta tl tk vv frf  _) (cwV 0 hts gX11_missed_X11_full rfl rfl rfl (by decide +kernel) ⟨Nat.le_of_ble_eq_true rfl, Nat.le_of_ble_eq_true rfl⟩) (kw_PreV (ci := 11) (q0 := 1) hs31 hP hD hK hN rfl rfl) rfl rfl hl.1 rfl (lv_room (Nat.le_of_ble_eq_true rfl)) dX11_missed_48 ⟨Nat.le_of_ble_eq_true rfl, Nat.le_of_ble_eq_true rfl⟩) (fun r32 u33 H locs hq hP hD hS => ?_)
            obtain rfl := hq
            have hP : va_P D vwCl [(to, .inl (y 0, 228, .inl ft)), (mo, .inr (11, [.ref to, .ref ke, .ref ik, .ref mrf, .long mab, .long mbl, .ref ha, .ref r0, .ref mbr, .ref mbp, .ref mby, .int (nI bl), .int (nI ta), .int (nI tl), .int (nI tk), .int vv, .ref an, .ref va])), (mrf, .inl (y 0, 3, .inl (upd frf 2 ((frf 2) + 1))))] H := hP
            have hD : va_D A [(to, .inl (y 0, 228, .inl ft)), (mo, .inr (11, [.ref to, .ref ke, .ref ik, .ref mrf, .long mab, .long mbl, .ref ha, .ref r0, .ref mbr, .ref mbp, .ref mby, .int (nI bl), .int (nI ta), .int (nI tl), .int (nI tk), .int vv, .ref an, .ref va])), (mrf, .inl (y 0, 3, .inl (upd frf 2 ((frf 2) + 1))))] := hD
            exact W.iret (v := (-4)) hx hb hr (fun tZ ht hW => ⟨⟨(-4), (), rfl, ⟨by first | omega | (dsimp only; omega), rfl⟩, by rw [ht]; exact hP.sub [1, 2, 0] rfl, hD.sub [1, 2, 0] (by decide) rfl⟩, hS.F ht⟩) hS.2.2 dX11_missed_51
        · skip
          exact absurd ⟨an4, by omega, by omega, rfl⟩ h28
      · skip
        exact absurd ⟨an3, by omega, by omega, rfl⟩ h21
    · skip
      exact absurd ⟨an2, by omega, by omega, rfl⟩ h14
  · skip
    exact absurd ⟨an1, by omega, rfl⟩ h7
