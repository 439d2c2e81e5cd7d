set_option maxHeartbeats 4000000 in
set_option maxRecDepth 100000 in
theorem gr_roundBy (l : Launch) (D : va_G) (y : Nat → ClassId) (mo : Nat) (to : Nat) (ke : Nat) (ik : Nat) (mrf : Nat) (ha : Nat) (r0 : Nat) (mbr : Nat) (mbp : Nat) (mby : Nat) (an : Nat) (va : Nat) (mab : Int64) (mbl : Int64) (bl : Nat) (ta : Nat) (tl : Nat) (tk : Nat) (vv : Int32) (ft : Nat → Int32) (fi : Nat) (gl : Nat) (mi : Nat) (no : Nat) (un : Nat) (fh : Nat → Int32) (fr0 : Nat → Int32) (k : Nat) (n : Nat) (x : Int32) (hk0_ : ft 0 = (nI fi)) (hk1_ : ft 1 = (nI gl)) (hk2_ : ft 2 = (nI mi)) (hk3_ : ft 3 = (nI no)) (hk4_ : ft 4 = (nI un)) (hkt : kr_t 228 ft) (hfi : fi ≤ 6) (hgl : gl ≤ 5) (hmi : mi ≤ 4) (hno : no ≤ 6) (hun : un ≤ 8) (hkh : kr_t 30 fh) (hA1 : k < gl) (hA2 : 1 ≤ n) (hA3 : n ≤ 6) : kw_Mi l yX11_roundBy wsX11_roundBy ({ frames := 5, cells := 0, slots := 0, locals := 151 }) D y [.ref mo, .int (nI k), .int (nI n), .int x] [(mo, .inr (11, [.ref to, .ref ke, .ref ik, .ref mrf, .long mab, .long mbl, .ref ha, .ref r0, .ref mbr, .ref mbp, .ref mby, .int (nI bl), .int (nI ta), .int (nI tl), .int (nI tk), .int vv, .ref an, .ref va])), (to, .inl (y 0, 228, .inl ft)), (ha, .inl (y 0, 30, .inl fh)), (r0, .inl (y 0, 6, .inl fr0))] (fun (r : Int32) (u : (Nat → Int32) × (Nat → Int32)) => kr_t 30 u.1) (fun u => [(mo, .inr (11, [.ref to, .ref ke, .ref ik, .ref mrf, .long mab, .long mbl, .ref ha, .ref r0, .ref mbr, .ref mbp, .ref mby, .int (nI bl), .int (nI ta), .int (nI tl), .int (nI tk), .int vv, .ref an, .ref va])), (to, .inl (y 0, 228, .inl ft)), (ha, .inl (y 0, 30, .inl u.1)), (r0, .inl (y 0, 6, .inl u.2))]) 0 0 := by
  refine kw_Mi.of (cc := cX11_roundBy) (maxL := 10) (ret := (some .int)) (by decide) rfl ?_
  intro pZ eZ s mZ beZ meZ cZ A hE
  obtain ⟨hx, hb, hr, hml, hts, hown, hlocks, hin, hA, hP, hD, hK, hN⟩ := hE
  have hS : va_S A s.heap s.heap [] := va_S.rf
  have hl := lv_entry ([.ref mo, .int (nI k), .int (nI n), .int x]) (n := 10) (Nat.le_of_ble_eq_true rfl)
  rw [lg_entry_eq]
  generalize (lg_sl ([.ref mo, .int (nI k), .int (nI n), .int x]) ++ List.replicate (10 - (lg_sl ([.ref mo, .int (nI k), .int (nI n), .int x])).length) Slot.unset).toArray = ls at hl ⊢
  have hl : lv_has ls 10 [(0, .ref mo), (1, .int (nI k)), (2, .int (nI n)), (3, .int x)] := hl
  have fw1 := hts (.fieldLink RX11 7 "GleanDuskModel" "told" "[I") (List.mem_of_getElem? (i := 1) rfl)
  have fw2 := hts (.fieldLink RX11 27 "GleanDuskModel" "hand" "[I") (List.mem_of_getElem? (i := 2) rfl)
  have fw3 := hts (.fieldLink RX11 30 "GleanDuskModel" "round0" "[I") (List.mem_of_getElem? (i := 3) rfl)
  have iw11 : ∀ w ∈ wsX110, w ∈ wsX11_roundBy := fun _ h => List.mem_cons_of_mem _ (List.mem_append_right _ h)
  refine lv_aload_n hx hb dX11_roundBy_0 rfl (lv_at hl 0 rfl) ?_
  refine va_get (D := D) (ci := 11) (v := .ref to) (C := RX11) (T := TX11) (N := 18) hx hb hts iw11 hown hK hP 0 rfl rfl 0 (by decide) fw1 (fun _ h9 => h9) rfl dX11_roundBy_1 ?_
  refine lv_bipush (v := 11) hx hb dX11_roundBy_4 (by decide) ?_
  refine lv_iload_n hx hb dX11_roundBy_6 rfl (lv_at hl 1 rfl) ?_
  refine lv_iadd hx hb dX11_roundBy_7 ?_
  rw [show 11 + (nI k) = nI (k + 11) from (nI_add 11 k).trans (congrArg nI (by omega))]
  refine va_iald hx hb hK hP 1 0 rfl rfl (vp_in_nI (by omega) (by decide)) dX11_roundBy_8 ?_
  rw [nI_clamp (n := (k + 11)) (by omega)]
  obtain ⟨w1, h2, h3⟩ := kr_at hkt (p := (k + 11)) (by omega) (by unfold kr_a; omega)
  rw [h3]
  refine lv_istore (lv' := [(4, .int (nI w1)), (0, .ref mo), (1, .int (nI k)), (2, .int (nI n)), (3, .int x)]) hx hb dX11_roundBy_9 hl (by decide) rfl (fun ls hl => ?_)
  refine lv_iconst (v := 0) hx hb dX11_roundBy_11 (by decide) ?_
  refine lv_istore (lv' := [(5, .int 0), (4, .int (nI w1)), (0, .ref mo), (1, .int (nI k)), (2, .int (nI n)), (3, .int x)]) hx hb dX11_roundBy_12 hl (by decide) rfl (fun ls hl => ?_)
  refine lv_aload_n hx hb dX11_roundBy_14 rfl (lv_at hl 2 rfl) ?_
  have hs4 : kw_Split [(mo, .inr (11, [.ref to, .ref ke, .ref ik, .ref mrf, .long mab, .long mbl, .ref ha, .ref r0, .ref mbr, .ref mbp, .ref mby, .int (nI bl), .int (nI ta), .int (nI tl), .int (nI tk), .int vv, .ref an, .ref va])), (to, .inl (y 0, 228, .inl ft)), (ha, .inl (y 0, 30, .inl fh)), (r0, .inl (y 0, 6, .inl fr0))] [(mo, .inr (11, [.ref to, .ref ke, .ref ik, .ref mrf, .long mab, .long mbl, .ref ha, .ref r0, .ref mbr, .ref mbp, .ref mby, .int (nI bl), .int (nI ta), .int (nI tl), .int (nI tk), .int vv, .ref an, .ref va])), (to, .inl (y 0, 228, .inl ft)), (ha, .inl (y 0, 30, .inl fh))] [(r0, .inl (y 0, 6, .inl fr0))] [0, 1, 2] [3] := ⟨rfl, rfl, rfl, rfl, rfl, by decide⟩
  refine kw_go_v hs4 hP hD hS hA (va_runV (As := []) (rest := []) ⟨hx, hb, hml, hown, hts⟩ (gr_layHand l D y mo to ke ik mrf ha r0 mbr mbp mby an va mab mbl bl ta tl tk vv ft fi gl mi no un fh hk0_ hk1_ hk2_ hk3_ hk4_ hkt hfi hgl hmi hno hun hkh _) (cwV 0 hts gX11_roundBy_X11_layHand rfl rfl rfl (by decide +kernel) ⟨Nat.le_of_ble_eq_true rfl, Nat.le_of_ble_eq_true rfl⟩) (kw_PreV (ci := 11) (q0 := 0) hs4 hP hD hK hN rfl rfl) rfl rfl hl.1 rfl (lv_room (Nat.le_of_ble_eq_true rfl)) dX11_roundBy_15 ⟨Nat.le_of_ble_eq_true rfl, Nat.le_of_ble_eq_true rfl⟩) (fun u6 H locs hq hP hD hS => ?_)
  have h7 := hq
  have hk8 : (kr_cp fh ft 30) 0 = (nI fi) := ((kr_cp_lt (by decide)).trans hk0_)
  have hk9 : (kr_cp fh ft 30) 1 = (nI gl) := ((kr_cp_lt (by decide)).trans hk1_)
  have hP : va_P D vwCl [(r0, .inl (y 0, 6, .inl fr0)), (mo, .inr (11, [.ref to, .ref ke, .ref ik, .ref mrf, .long mab, .long mbl, .ref ha, .ref r0, .ref mbr, .ref mbp, .ref mby, .int (nI bl), .int (nI ta), .int (nI tl), .int (nI tk), .int vv, .ref an, .ref va])), (to, .inl (y 0, 228, .inl ft)), (ha, .inl (y 0, 30, .inl (kr_cp fh ft 30)))] H := hP
  have hD : va_D A [(r0, .inl (y 0, 6, .inl fr0)), (mo, .inr (11, [.ref to, .ref ke, .ref ik, .ref mrf, .long mab, .long mbl, .ref ha, .ref r0, .ref mbr, .ref mbp, .ref mby, .int (nI bl), .int (nI ta), .int (nI tl), .int (nI tk), .int vv, .ref an, .ref va])), (to, .inl (y 0, 228, .inl ft)), (ha, .inl (y 0, 30, .inl (kr_cp fh ft 30)))] := hD
  refine lv_iconst (v := 0) hx hb dX11_roundBy_18 (by decide) ?_
  refine lv_istore (lv' := [(6, .int 0), (5, .int 0), (4, .int (nI w1)), (0, .ref mo), (1, .int (nI k)), (2, .int (nI n)), (3, .int x)]) hx hb dX11_roundBy_19 hl (by decide) rfl (fun ls hl => ?_)
  have lp98 : ∀ (fuj91 j91 : Nat) (x53 : Nat) (x54 : Nat → Int32) (x55 : Nat → Int32) (x56 : Int32) (H : Heap) (locs : List Loc) (ls : Array Slot), j91 ≤ n → n - j91 < fuj91 → kr_t 30 x55 → x55 0 = (nI fi) → x55 1 = (nI gl) → x53 ≤ 5 → va_P D vwCl [(r0, .inl (y 0, 6, .inl x54)), (mo, .inr (11, [.ref to, .ref ke, .ref ik, .ref mrf, .long mab, .long mbl, .ref ha, .ref r0, .ref mbr, .ref mbp, .ref mby, .int (nI bl), .int (nI ta), .int (nI tl), .int (nI tk), .int vv, .ref an, .ref va])), (to, .inl (y 0, 228, .inl ft)), (ha, .inl (y 0, 30, .inl x55))] H → va_D A [(r0, .inl (y 0, 6, .inl x54)), (mo, .inr (11, [.ref to, .ref ke, .ref ik, .ref mrf, .long mab, .long mbl, .ref ha, .ref r0, .ref mbr, .ref mbp, .ref mby, .int (nI bl), .int (nI ta), .int (nI tl), .int (nI tk), .int vv, .ref an, .ref va])), (to, .inl (y 0, 228, .inl ft)), (ha, .inl (y 0, 30, .inl x55))] → va_S A s.heap H locs → lv_has ls 10 [(6, .int (nI j91)), (5, .int x56), (4, .int (nI x53)), (0, .ref mo), (1, .int (nI k)), (2, .int (nI n)), (3, .int x)] → W pZ l eZ ({ frames := 5, cells := 0, slots := 0, locals := 151 }) s mZ [.ref mo, .int (nI k), .int (nI n), .int x].toArray beZ meZ cZ H locs 0 0 (MQ beZ (va_Qi (fun (r : Int32) (u : (Nat → Int32) × (Nat → Int32)) => kr_t 30 u.1) (kw_B D (fun u => [(mo, .inr (11, [.ref to, .ref ke, .ref ik, .ref mrf, .long mab, .long mbl, .ref ha, .ref r0, .ref mbr, .ref mbp, .ref mby, .int (nI bl), .int (nI ta), .int (nI tl), .int (nI tk), .int vv, .ref an, .ref va])), (to, .inl (y 0, 228, .inl ft)), (ha, .inl (y 0, 30, .inl u.1)), (r0, .inl (y 0, 6, .inl u.2))]) A) A) [.ref mo, .int (nI k), .int (nI n), .int x].toArray s 0 0 A) (F0 mZ 21 ls []) := by
    intro fuj91
    induction fuj91 with
    | zero => intro j91 x53 x54 x55 x56 H locs ls hj9 hf9; exact absurd hf9 (Nat.not_lt_zero _)
    | succ fuj91 ihj91 =>
      intro j91 x53 x54 x55 x56 H locs ls hj91 hfj91 hr_x55 hk_x55_0 hk_x55_1 hn_x53 hP hD hS hl
      refine lv_iload hx hb dX11_roundBy_21 (lv_at hl 0 rfl) ?_
      refine lv_iload_n hx hb dX11_roundBy_23 rfl (lv_at hl 5 rfl) ?_
      refine lv_icmp_ge (tgt := 148) hx hb dX11_roundBy_24 (by decide) (fun h99 => ?_) (fun h100 => ?_)
      · skip
        have h99 : n ≤ j91 := (nI_leI (a := n) (b := j91) (by omega) (by omega)).mp h99
        refine lv_iload hx hb dX11_roundBy_148 (lv_at hl 1 rfl) ?_
        exact W.iret (v := x56) hx hb hr (fun tZ ht hW => ⟨⟨x56, (x55, x54), rfl, hr_x55, by rw [ht]; exact hP.sub [1, 2, 3, 0] rfl, hD.sub [1, 2, 3, 0] (by decide) rfl⟩, hS.F ht⟩) hS.2.2 dX11_roundBy_150
      · skip
        have h100 : ¬ n ≤ j91 := fun q9 => h100 ((nI_leI (a := n) (b := j91) (by omega) (by omega)).mpr q9)
        refine lv_iload_n hx hb dX11_roundBy_27 rfl (lv_at hl 6 rfl) ?_
        refine lv_iload_n hx hb dX11_roundBy_28 rfl (lv_at hl 5 rfl) ?_
        refine lv_iconst (v := 1) hx hb dX11_roundBy_29 (by decide) ?_
        refine lv_isub hx hb dX11_roundBy_30 ?_
        rw [show (nI n) - 1 = nI (n - 1) from pk_sub (a := n) (b := 1) (by omega)]
        refine lv_iload hx hb dX11_roundBy_31 (lv_at hl 0 rfl) ?_
        refine lv_isub hx hb dX11_roundBy_33 ?_
        rw [show (nI (n - 1)) - (nI j91) = nI ((n - 1) - j91) from pk_sub (a := (n - 1)) (b := j91) (by omega)]
        have hs101 : kw_Split [(r0, .inl (y 0, 6, .inl x54)), (mo, .inr (11, [.ref to, .ref ke, .ref ik, .ref mrf, .long mab, .long mbl, .ref ha, .ref r0, .ref mbr, .ref mbp, .ref mby, .int (nI bl), .int (nI ta), .int (nI tl), .int (nI tk), .int vv, .ref an, .ref va])), (to, .inl (y 0, 228, .inl ft)), (ha, .inl (y 0, 30, .inl x55))] [] [(r0, .inl (y 0, 6, .inl x54)), (mo, .inr (11, [.ref to, .ref ke, .ref ik, .ref mrf, .long mab, .long mbl, .ref ha, .ref r0, .ref mbr, .ref mbp, .ref mby, .int (nI bl), .int (nI ta), .int (nI tl), .int (nI tk), .int vv, .ref an, .ref va])), (to, .inl (y 0, 228, .inl ft)), (ha, .inl (y 0, 30, .inl x55))] [] [0, 1, 2, 3] := ⟨rfl, rfl, rfl, rfl, rfl, by decide⟩
        refine kw_go_i hs101 hP hD hS hA (va_runS (As := [.int (nI ((n - 1) - j91))]) (rest := [.int x]) ⟨hx, hb, hml, hown, hts⟩ (gr_pow l D y ((n - 1) - j91) (by omega) _) (va_cwS 1 hts gX11_roundBy_X11_powerOfThree rfl rfl rfl (by decide +kernel) ⟨Nat.le_of_ble_eq_true rfl, Nat.le_of_ble_eq_true rfl⟩) (kw_PreS hs101 hP hD hK hN) rfl rfl hl.1 rfl (lv_room (Nat.le_of_ble_eq_true rfl)) dX11_roundBy_34 ⟨Nat.le_of_ble_eq_true rfl, Nat.le_of_ble_eq_true rfl⟩) (fun r102 u103 H locs hq hP hD hS => ?_)
        have h104 := hq
        have hP : va_P D vwCl [(r0, .inl (y 0, 6, .inl x54)), (mo, .inr (11, [.ref to, .ref ke, .ref ik, .ref mrf, .long mab, .long mbl, .ref ha, .ref r0, .ref mbr, .ref mbp, .ref mby, .int (nI bl), .int (nI ta), .int (nI tl), .int (nI tk), .int vv, .ref an, .ref va])), (to, .inl (y 0, 228, .inl ft)), (ha, .inl (y 0, 30, .inl x55))] H := hP
        have hD : va_D A [(r0, .inl (y 0, 6, .inl x54)), (mo, .inr (11, [.ref to, .ref ke, .ref ik, .ref mrf, .long mab, .long mbl, .ref ha, .ref r0, .ref mbr, .ref mbp, .ref mby, .int (nI bl), .int (nI ta), .int (nI tl), .int (nI tk), .int vv, .ref an, .ref va])), (to, .inl (y 0, 228, .inl ft)), (ha, .inl (y 0, 30, .inl x55))] := hD
        refine lv_idiv hx hb dX11_roundBy_37 (h104) ?_
        refine lv_iconst (v := 3) hx hb dX11_roundBy_38 (by decide) ?_
        refine lv_irem hx hb dX11_roundBy_39 (by decide) ?_
        refine lv_iconst (v := 1) hx hb dX11_roundBy_40 (by decide) ?_
        refine lv_isub hx hb dX11_roundBy_41 ?_
        refine lv_istore (lv' := [(7, .int (((x / r102) - (x / r102) / 3 * 3) - 1)), (6, .int (nI j91)), (5, .int x56), (4, .int (nI x53)), (0, .ref mo), (1, .int (nI k)), (2, .int (nI n)), (3, .int x)]) hx hb dX11_roundBy_42 hl (by decide) rfl (fun ls hl => ?_)
        refine lv_iload hx hb dX11_roundBy_44 (lv_at hl 0 rfl) ?_
        refine lv_if_ne (tgt := 71) hx hb dX11_roundBy_46 (by decide) (fun h105 => ?_) (fun h106 => ?_)
        · skip
          refine lv_iconst (v := 0) hx hb dX11_roundBy_71 (by decide) ?_
          refine lv_istore (lv' := [(8, .int 0), (7, .int (((x / r102) - (x / r102) / 3 * 3) - 1)), (6, .int (nI j91)), (5, .int x56), (4, .int (nI x53)), (0, .ref mo), (1, .int (nI k)), (2, .int (nI n)), (3, .int x)]) hx hb dX11_roundBy_72 hl (by decide) rfl (fun ls hl => ?_)
          refine lv_iload hx hb dX11_roundBy_74 (lv_at hl 4 rfl) ?_
          refine lv_iload hx hb dX11_roundBy_76 (lv_at hl 1 rfl) ?_
          refine lv_iadd hx hb dX11_roundBy_78 ?_
          refine lv_istore (lv' := [(4, .int ((nI x53) + (((x / r102) - (x / r102) / 3 * 3) - 1))), (8, .int 0), (7, .int (((x / r102) - (x / r102) / 3 * 3) - 1)), (6, .int (nI j91)), (5, .int x56), (0, .ref mo), (1, .int (nI k)), (2, .int (nI n)), (3, .int x)]) hx hb dX11_roundBy_79 hl (by decide) rfl (fun ls hl => ?_)
          generalize ((nI x53) + (((x / r102) - (x / r102) / 3 * 3) - 1)) = xg107 at hl
          have hl : lv_has ls 10 [(4, .int xg107), (8, .int 0), (7, .int (((x / r102) - (x / r102) / 3 * 3) - 1)), (6, .int (nI j91)), (5, .int x56), (0, .ref mo), (1, .int (nI k)), (2, .int (nI n)), (3, .int x)] := hl
          refine lv_aload_n hx hb dX11_roundBy_81 rfl (lv_at hl 5 rfl) ?_
          refine lv_iload hx hb dX11_roundBy_82 (lv_at hl 0 rfl) ?_
          have hs108 : kw_Split [(r0, .inl (y 0, 6, .inl x54)), (mo, .inr (11, [.ref to, .ref ke, .ref ik, .ref mrf, .long mab, .long mbl, .ref ha, .ref r0, .ref mbr, .ref mbp, .ref mby, .int (nI bl), .int (nI ta), .int (nI tl), .int (nI tk), .int vv, .ref an, .ref va])), (to, .inl (y 0, 228, .inl ft)), (ha, .inl (y 0, 30, .inl x55))] [(mo, .inr (11, [.ref to, .ref ke, .ref ik, .ref mrf, .long mab, .long mbl, .ref ha, .ref r0, .ref mbr, .ref mbp, .ref mby, .int (nI bl), .int (nI ta), .int (nI tl), .int (nI tk), .int vv, .ref an, .ref va])), (to, .inl (y 0, 228, .inl ft))] [(r0, .inl (y 0, 6, .inl x54)), (ha, .inl (y 0, 30, .inl x55))] [1, 2] [0, 3] := ⟨rfl, rfl, rfl, rfl, rfl, by decide⟩
          refine kw_go_i hs108 hP hD hS hA (va_runV (As := [.int xg107]) (rest := []) ⟨hx, hb, hml, hown, hts⟩ (gr_isField l D y mo to ke ik mrf ha r0 mbr mbp mby an va mab mbl bl ta tl tk vv ft fi gl mi no un xg107 hk0_ hk1_ hk2_ hk3_ hk4_ hkt hfi hgl hmi hno hun _) (cwV 1 hts gX11_roundBy_X11_isField rfl rfl rfl (by decide +kernel) ⟨Nat.le_of_ble_eq_true rfl, Nat.le_of_ble_eq_true rfl⟩) (kw_PreV (ci := 11) (q0 := 1) hs108 hP hD hK hN rfl rfl) rfl rfl hl.1 rfl (lv_room (Nat.le_of_ble_eq_true rfl)) dX11_roundBy_84 ⟨Nat.le_of_ble_eq_true rfl, Nat.le_of_ble_eq_true rfl⟩) (fun r109 u110 H locs hq hP hD hS => ?_)
          rcases hq with ⟨j111, h112, rfl, rfl⟩ | ⟨h113, rfl⟩
          · skip
            have hP : va_P D vwCl [(r0, .inl (y 0, 6, .inl x54)), (ha, .inl (y 0, 30, .inl x55)), (mo, .inr (11, [.ref to, .ref ke, .ref ik, .ref mrf, .long mab, .long mbl, .ref ha, .ref r0, .ref mbr, .ref mbp, .ref mby, .int (nI bl), .int (nI ta), .int (nI tl), .int (nI tk), .int vv, .ref an, .ref va])), (to, .inl (y 0, 228, .inl ft))] H := hP
            have hD : va_D A [(r0, .inl (y 0, 6, .inl x54)), (ha, .inl (y 0, 30, .inl x55)), (mo, .inr (11, [.ref to, .ref ke, .ref ik, .ref mrf, .long mab, .long mbl, .ref ha, .ref r0, .ref mbr, .ref mbp, .ref mby, .int (nI bl), .int (nI ta), .int (nI tl), .int (nI tk), .int vv, .ref an, .ref va])), (to, .inl (y 0, 228, .inl ft))] := hD
            refine lv_if_ne (tgt := 92) hx hb dX11_roundBy_87 (by decide) (fun _ => ?_) (fun h9 => absurd h9 (by decide))
            refine lv_aload_n hx hb dX11_roundBy_92 rfl (lv_at hl 5 rfl) ?_
            refine va_get (D := D) (ci := 11) (v := .ref ha) (C := RX11) (T := TX11) (N := 18) hx hb hts iw11 hown hK hP 2 rfl rfl 6 (by decide) fw2 (fun _ h9 => h9) rfl dX11_roundBy_93 ?_
            refine lv_iconst (v := 5) hx hb dX11_roundBy_96 (by decide) ?_
            refine lv_iload hx hb dX11_roundBy_97 (lv_at hl 0 rfl) ?_
            refine lv_iadd hx hb dX11_roundBy_99 ?_
            rw [show 5 + (nI j111) = nI (j111 + 5) from (nI_add 5 j111).trans (congrArg nI (by omega))]
            refine va_iald hx hb hK hP 1 0 rfl rfl (vp_in_nI (by omega) (by decide)) dX11_roundBy_100 ?_
            rw [nI_clamp (n := (j111 + 5)) (by omega)]
            refine lv_iload hx hb dX11_roundBy_101 (lv_at hl 1 rfl) ?_
            refine lv_isub hx hb dX11_roundBy_103 ?_
            refine lv_istore (lv' := [(9, .int ((x55 (j111 + 5)) - 0)), (4, .int (nI j111)), (8, .int 0), (7, .int (((x / r102) - (x / r102) / 3 * 3) - 1)), (6, .int (nI j91)), (5, .int x56), (0, .ref mo), (1, .int (nI k)), (2, .int (nI n)), (3, .int x)]) hx hb dX11_roundBy_104 hl (by decide) rfl (fun ls hl => ?_)
            refine lv_aload_n hx hb dX11_roundBy_106 rfl (lv_at hl 6 rfl) ?_
            refine va_get (D := D) (ci := 11) (v := .ref ha) (C := RX11) (T := TX11) (N := 18) hx hb hts iw11 hown hK hP 2 rfl rfl 6 (by decide) fw2 (fun _ h9 => h9) rfl dX11_roundBy_107 ?_
            refine lv_iconst (v := 5) hx hb dX11_roundBy_110 (by decide) ?_
            refine lv_iload hx hb dX11_roundBy_111 (lv_at hl 1 rfl) ?_
            refine lv_iadd hx hb dX11_roundBy_113 ?_
            rw [show 5 + (nI j111) = nI (j111 + 5) from (nI_add 5 j111).trans (congrArg nI (by omega))]
            refine lv_iload hx hb dX11_roundBy_114 (lv_at hl 0 rfl) ?_
            refine lv_if_ge (tgt := 123) hx hb dX11_roundBy_116 (by decide) (fun h114 => ?_) (fun h115 => ?_)
            · skip
              refine lv_iload hx hb dX11_roundBy_123 (lv_at hl 0 rfl) ?_
              refine va_iast hx hb hK hP hD hS 1 0 rfl rfl (vp_in_nI (by omega) (by decide)) dX11_roundBy_125 (fun H locs hP hD hS => ?_)
              rw [nI_clamp (n := (j111 + 5)) (by omega)] at hP hD
              have hr116 : kr_t 30 (upd x55 (j111 + 5) ((x55 (j111 + 5)) - 0)) := kr_up hr_x55 (kr_free (by unfold kr_a; omega) (by unfold kr_s; omega))
              have hk117 : (upd x55 (j111 + 5) ((x55 (j111 + 5)) - 0)) 0 = (nI fi) := (pk_un (by omega)).trans hk_x55_0
              have hk118 : (upd x55 (j111 + 5) ((x55 (j111 + 5)) - 0)) 1 = (nI gl) := (pk_un (by omega)).trans hk_x55_1
              have hP : va_P D vwCl [(r0, .inl (y 0, 6, .inl x54)), (ha, .inl (y 0, 30, .inl (upd x55 (j111 + 5) ((x55 (j111 + 5)) - 0)))), (mo, .inr (11, [.ref to, .ref ke, .ref ik, .ref mrf, .long mab, .long mbl, .ref ha, .ref r0, .ref mbr, .ref mbp, .ref mby, .int (nI bl), .int (nI ta), .int (nI tl), .int (nI tk), .int vv, .ref an, .ref va])), (to, .inl (y 0, 228, .inl ft))] H := hP
              have hD : va_D A [(r0, .inl (y 0, 6, .inl x54)), (ha, .inl (y 0, 30, .inl (upd x55 (j111 + 5) ((x55 (j111 + 5)) - 0)))), (mo, .inr (11, [.ref to, .ref ke, .ref ik, .ref mrf, .long mab, .long mbl, .ref ha, .ref r0, .ref mbr, .ref mbp, .ref mby, .int (nI bl), .int (nI ta), .int (nI tl), .int (nI tk), .int vv, .ref an, .ref va])), (to, .inl (y 0, 228, .inl ft))] := hD
              refine lv_iload hx hb dX11_roundBy_126 (lv_at hl 5 rfl) ?_
              refine lv_iload hx hb dX11_roundBy_128 (lv_at hl 2 rfl) ?_
              refine lv_iadd hx hb dX11_roundBy_130 ?_
              refine lv_istore (lv' := [(5, .int (x56 + 0)), (9, .int ((x55 (j111 + 5)) - 0)), (4, .int (nI j111)), (8, .int 0), (7, .int (((x / r102) - (x / r102) / 3 * 3) - 1)), (6, .int (nI j91)), (0, .ref mo), (1, .int (nI k)), (2, .int (nI n)), (3, .int x)]) hx hb dX11_roundBy_131 hl (by decide) rfl (fun ls hl => ?_)
              refine lv_aload_n hx hb dX11_roundBy_133 rfl (lv_at hl 6 rfl) ?_
              refine va_get (D := D) (ci := 11) (v := .ref r0) (C := RX11) (T := TX11) (N := 18) hx hb hts iw11 hown hK hP 2 rfl rfl 7 (by decide) fw3 (fun _ h9 => h9) rfl dX11_roundBy_134 ?_
              refine lv_iload hx hb dX11_roundBy_137 (lv_at hl 5 rfl) ?_
              refine lv_iload hx hb dX11_roundBy_139 (lv_at hl 2 rfl) ?_
              refine va_iast hx hb hK hP hD hS 0 0 rfl rfl (vp_in_nI (by omega) (by decide)) dX11_roundBy_141 (fun H locs hP hD hS => ?_)
              rw [nI_clamp (n := j91) (by omega)] at hP hD
              have hP : va_P D vwCl [(r0, .inl (y 0, 6, .inl (upd x54 j91 (nI j111)))), (ha, .inl (y 0, 30, .inl (upd x55 (j111 + 5) ((x55 (j111 + 5)) - 0)))), (mo, .inr (11, [.ref to, .ref ke, .ref ik, .ref mrf, .long mab, .long mbl, .ref ha, .ref r0, .ref mbr, .ref mbp, .ref mby, .int (nI bl), .int (nI ta), .int (nI tl), .int (nI tk), .int vv, .ref an, .ref va])), (to, .inl (y 0, 228, .inl ft))] H := hP
              have hD : va_D A [(r0, .inl (y 0, 6, .inl (upd x54 j91 (nI j111)))), (ha, .inl (y 0, 30, .inl (upd x55 (j111 + 5) ((x55 (j111 + 5)) - 0)))), (mo, .inr (11, [.ref to, .ref ke, .ref ik, .ref mrf, .long mab, .long mbl, .ref ha, .ref r0, .ref mbr, .ref mbp, .ref mby, .int (nI bl), .int (nI ta), .int (nI tl), .int (nI tk), .int vv, .ref an, .ref va])), (to, .inl (y 0, 228, .inl ft))] := hD
              refine lv_iinc (v := (nI (j91 + 1))) (lv' := [(6, .int (nI (j91 + 1))), (5, .int (x56 + 0)), (9, .int ((x55 (j111 + 5)) - 0)), (4, .int (nI j111)), (8, .int 0), (7, .int (((x / r102) - (x / r102) / 3 * 3) - 1)), (0, .ref mo), (1, .int (nI k)), (2, .int (nI n)), (3, .int x)]) hx hb dX11_roundBy_142 hl (k := 5) rfl (nI_1 j91) (by decide) rfl (fun ls hl => ?_)
              refine lv_goto (tgt := 21) hx hb dX11_roundBy_145 (by decide) ?_
              exact ihj91 (j91 + 1) j111 (upd x54 j91 (nI j111)) (upd x55 (j111 + 5) ((x55 (j111 + 5)) - 0)) (x56 + 0) H locs ls (by omega) (by omega) hr116 hk117 hk118 (by omega) (hP.sub [0, 2, 3, 1] rfl) (hD.sub [0, 2, 3, 1] (by decide) rfl) hS (lv_sub hl [0, 1, 3, 6, 7, 8, 9] rfl)
            · skip
              refine lv_iconst (v := 0) hx hb dX11_roundBy_119 (by decide) ?_
              refine lv_goto (tgt := 125) hx hb dX11_roundBy_120 (by decide) ?_
              refine va_iast hx hb hK hP hD hS 1 0 rfl rfl (vp_in_nI (by omega) (by decide)) dX11_roundBy_125 (fun H locs hP hD hS => ?_)
              rw [nI_clamp (n := (j111 + 5)) (by omega)] at hP hD
              have hr119 : kr_t 30 (upd x55 (j111 + 5) 0) := kr_up hr_x55 (kr_ok0)
              have hk120 : (upd x55 (j111 + 5) 0) 0 = (nI fi) := (pk_un (by omega)).trans hk_x55_0
              have hk121 : (upd x55 (j111 + 5) 0) 1 = (nI gl) := (pk_un (by omega)).trans hk_x55_1
              have hP : va_P D vwCl [(r0, .inl (y 0, 6, .inl x54)), (ha, .inl (y 0, 30, .inl (upd x55 (j111 + 5) 0))), (mo, .inr (11, [.ref to, .ref ke, .ref ik, .ref mrf, .long mab, .long mbl, .ref ha, .ref r0, .ref mbr, .ref mbp, .ref mby, .int (nI bl), .int (nI ta), .int (nI tl), .int (nI tk), .int vv, .ref an, .ref va])), (to, .inl (y 0, 228, .inl ft))] H := hP
              have hD : va_D A [(r0, .inl (y 0, 6, .inl x54)), (ha, .inl (y 0, 30, .inl (upd x55 (j111 + 5) 0))), (mo, .inr (11, [.ref to, .ref ke, .ref ik, .ref mrf, .long mab, .long mbl, .ref ha, .ref r0, .ref mbr, .ref mbp, .ref mby, .int (nI bl), .int (nI ta), .int (nI tl), .int (nI tk), .int vv, .ref an, .ref va])), (to, .inl (y 0, 228, .inl ft))] := hD
              refine lv_iload hx hb dX11_roundBy_126 (lv_at hl 5 rfl) ?_
              refine lv_iload hx hb dX11_roundBy_128 (lv_at hl 2 rfl) ?_
              refine lv_iadd hx hb dX11_roundBy_130 ?_
              refine lv_istore (lv' := [(5, .int (x56 + 0)), (9, .int ((x55 (j111 + 5)) - 0)), (4, .int (nI j111)), (8, .int 0), (7, .int (((x / r102) - (x / r102) / 3 * 3) - 1)), (6, .int (nI j91)), (0, .ref mo), (1, .int (nI k)), (2, .int (nI n)), (3, .int x)]) hx hb dX11_roundBy_131 hl (by decide) rfl (fun ls hl => ?_)
              refine lv_aload_n hx hb dX11_roundBy_133 rfl (lv_at hl 6 rfl) ?_
              refine va_get (D := D) (ci := 11) (v := .ref r0) (C := RX11) (T := TX11) (N := 18) hx hb hts iw11 hown hK hP 2 rfl rfl 7 (by decide) fw3 (fun _ h9 => h9) rfl dX11_roundBy_134 ?_
              refine lv_iload hx hb dX11_roundBy_137 (lv_at hl 5 rfl) ?_
              refine lv_iload hx hb dX11_roundBy_139 (lv_at hl 2 rfl) ?_
              refine va_iast hx hb hK hP hD hS 0 0 rfl rfl (vp_in_nI (by omega) (by decide)) dX11_roundBy_141 (fun H locs hP hD hS => ?_)
              rw [nI_clamp (n := j91) (by omega)] at hP hD
              have hP : va_P D vwCl [(r0, .inl (y 0, 6, .inl (upd x54 j91 (nI j111)))), (ha, .inl (y 0, 30, .inl (upd x55 (j111 + 5) 0))), (mo, .inr (11, [.ref to, .ref ke, .ref ik, .ref mrf, .long mab, .long mbl, .ref ha, .ref r0, .ref mbr, .ref mbp, .ref mby, .int (nI bl), .int (nI ta), .int (nI tl), .int (nI tk), .int vv, .ref an, .ref va])), (to, .inl (y 0, 228, .inl ft))] H := hP
              have hD : va_D A [(r0, .inl (y 0, 6, .inl (upd x54 j91 (nI j111)))), (ha, .inl (y 0, 30, .inl (upd x55 (j111 + 5) 0))), (mo, .inr (11, [.ref to, .ref ke, .ref ik, .ref mrf, .long mab, .long mbl, .ref ha, .ref r0, .ref mbr, .ref mbp, .ref mby, .int (nI bl), .int (nI ta), .int (nI tl), .int (nI tk), .int vv, .ref an, .ref va])), (to, .inl (y 0, 228, .inl ft))] := hD
              refine lv_iinc (v := (nI (j91 + 1))) (lv' := [(6, .int (nI (j91 + 1))), (5, .int (x56 + 0)), (9, .int ((x55 (j111 + 5)) - 0)), (4, .int (nI j111)), (8, .int 0), (7, .int (((x / r102) - (x / r102) / 3 * 3) - 1)), (0, .ref mo), (1, .int (nI k)), (2, .int (nI n)), (3, .int x)]) hx hb dX11_roundBy_142 hl (k := 5) rfl (nI_1 j91) (by decide) rfl (fun ls hl => ?_)
              refine lv_goto (tgt := 21) hx hb dX11_roundBy_145 (by decide) ?_
              exact ihj91 (j91 + 1) j111 (upd x54 j91 (nI j111)) (upd x55 (j111 + 5) 0) (x56 + 0) H locs ls (by omega) (by omega) hr119 hk120 hk121 (by omega) (hP.sub [0, 2, 3, 1] rfl) (hD.sub [0, 2, 3, 1] (by decide) rfl) hS (lv_sub hl [0, 1, 3, 6, 7, 8, 9] rfl)
          · skip
            have hP : va_P D vwCl [(r0, .inl (y 0, 6, .inl x54)), (ha, .inl (y 0, 30, .inl x55)), (mo, .inr (11, [.ref to, .ref ke, .ref ik, .ref mrf, .long mab, .long mbl, .ref ha, .ref r0, .ref mbr, .ref mbp, .ref mby, .int (nI bl), .int (nI ta), .int (nI tl), .int (nI tk), .int vv, .ref an, .ref va])), (to, .inl (y 0, 228, .inl ft))] H := hP
            have hD : va_D A [(r0, .inl (y 0, 6, .inl x54)), (ha, .inl (y 0, 30, .inl x55)), (mo, .inr (11, [.ref to, .ref ke, .ref ik, .ref mrf, .long mab, .long mbl, .ref ha, .ref r0, .ref mbr, .ref mbp, .ref mby, .int (nI bl), .int (nI ta), .int (nI tl), .int (nI tk), .int vv, .ref an, .ref va])), (to, .inl (y 0, 228, .inl ft))] := hD
            refine lv_if_ne (tgt := 92) hx hb dX11_roundBy_87 (by decide) (fun h9 => absurd h9 (by decide)) (fun _ => ?_)
            refine lv_iconst (v := (-1)) hx hb dX11_roundBy_90 (by decide) ?_
            exact W.iret (v := (-1)) hx hb hr (fun tZ ht hW => ⟨⟨(-1), (x55, x54), rfl, hr_x55, by rw [ht]; exact hP.sub [2, 3, 1, 0] rfl, hD.sub [2, 3, 1, 0] (by decide) rfl⟩, hS.F ht⟩) hS.2.2 dX11_roundBy_91
        · skip
          refine lv_aload_n hx hb dX11_roundBy_49 rfl (lv_at hl 4 rfl) ?_
          refine va_get (D := D) (ci := 11) (v := .ref ha) (C := RX11) (T := TX11) (N := 18) hx hb hts iw11 hown hK hP 1 rfl rfl 6 (by decide) fw2 (fun _ h9 => h9) rfl dX11_roundBy_50 ?_
          refine lv_iload hx hb dX11_roundBy_53 (lv_at hl 3 rfl) ?_
          refine lv_aload_n hx hb dX11_roundBy_55 rfl (lv_at hl 4 rfl) ?_
          refine va_get (D := D) (ci := 11) (v := .ref ha) (C := RX11) (T := TX11) (N := 18) hx hb hts iw11 hown hK hP 1 rfl rfl 6 (by decide) fw2 (fun _ h9 => h9) rfl dX11_roundBy_56 ?_
          refine lv_bipush (v := 21) hx hb dX11_roundBy_59 (by decide) ?_
          refine va_iald hx hb hK hP 3 0 rfl rfl (by unfold vp_in; decide) dX11_roundBy_61 ?_
          rw [show ((21 : Int32)).toNatClampNeg = 21 from rfl]
          refine lv_iload hx hb dX11_roundBy_62 (lv_at hl 1 rfl) ?_
          refine lv_iadd hx hb dX11_roundBy_64 ?_
          have hs122 : kw_Split [(r0, .inl (y 0, 6, .inl x54)), (mo, .inr (11, [.ref to, .ref ke, .ref ik, .ref mrf, .long mab, .long mbl, .ref ha, .ref r0, .ref mbr, .ref mbp, .ref mby, .int (nI bl), .int (nI ta), .int (nI tl), .int (nI tk), .int vv, .ref an, .ref va])), (to, .inl (y 0, 228, .inl ft)), (ha, .inl (y 0, 30, .inl x55))] [(ha, .inl (y 0, 30, .inl x55))] [(r0, .inl (y 0, 6, .inl x54)), (mo, .inr (11, [.ref to, .ref ke, .ref ik, .ref mrf, .long mab, .long mbl, .ref ha, .ref r0, .ref mbr, .ref mbp, .ref mby, .int (nI bl), .int (nI ta), .int (nI tl), .int (nI tk), .int vv, .ref an, .ref va])), (to, .inl (y 0, 228, .inl ft))] [3] [0, 1, 2] := ⟨rfl, rfl, rfl, rfl, rfl, by decide⟩
          refine kw_go_i hs122 hP hD hS hA (va_runS (As := [.ref ha, .int (nI x53), .int ((x55 21) + (nI j91))]) (rest := []) ⟨hx, hb, hml, hown, hts⟩ (gr_seenOn30 l D y ha x55 fi gl x53 ((x55 21) + (nI j91)) hk_x55_0 hk_x55_1 hr_x55 hfi hgl (by omega) _) (va_cwS 3 hts gX11_roundBy_X11_seenOn rfl rfl rfl (by decide +kernel) ⟨Nat.le_of_ble_eq_true rfl, Nat.le_of_ble_eq_true rfl⟩) (kw_PreS hs122 hP hD hK hN) rfl rfl hl.1 rfl (lv_room (Nat.le_of_ble_eq_true rfl)) dX11_roundBy_65 ⟨Nat.le_of_ble_eq_true rfl, Nat.le_of_ble_eq_true rfl⟩) (fun r123 u124 H locs hq hP hD hS => ?_)
          have hP : va_P D vwCl [(r0, .inl (y 0, 6, .inl x54)), (mo, .inr (11, [.ref to, .ref ke, .ref ik, .ref mrf, .long mab, .long mbl, .ref ha, .ref r0, .ref mbr, .ref mbp, .ref mby, .int (nI bl), .int (nI ta), .int (nI tl), .int (nI tk), .int vv, .ref an, .ref va])), (to, .inl (y 0, 228, .inl ft)), (ha, .inl (y 0, 30, .inl x55))] H := hP
          have hD : va_D A [(r0, .inl (y 0, 6, .inl x54)), (mo, .inr (11, [.ref to, .ref ke, .ref ik, .ref mrf, .long mab, .long mbl, .ref ha, .ref r0, .ref mbr, .ref mbp, .ref mby, .int (nI bl), .int (nI ta), .int (nI tl), .int (nI tk), .int vv, .ref an, .ref va])), (to, .inl (y 0, 228, .inl ft)), (ha, .inl (y 0, 30, .inl x55))] := hD
          refine lv_goto (tgt := 72) hx hb dX11_roundBy_68 (by decide) ?_
          refine lv_istore (lv' := [(8, .int r123), (7, .int (((x / r102) - (x / r102) / 3 * 3) - 1)), (6, .int (nI j91)), (5, .int x56), (4, .int (nI x53)), (0, .ref mo), (1, .int (nI k)), (2, .int (nI n)), (3, .int x)]) hx hb dX11_roundBy_72 hl (by decide) rfl (fun ls hl => ?_)
          refine lv_iload hx hb dX11_roundBy_74 (lv_at hl 4 rfl) ?_
          refine lv_iload hx hb dX11_roundBy_76 (lv_at hl 1 rfl) ?_
          refine lv_iadd hx hb dX11_roundBy_78 ?_
          refine lv_istore (lv' := [(4, .int ((nI x53) + (((x / r102) - (x / r102) / 3 * 3) - 1))), (8, .int r123), (7, .int (((x / r102) - (x / r102) / 3 * 3) - 1)), (6, .int (nI j91)), (5, .int x56), (0, .ref mo), (1, .int (nI k)), (2, .int (nI n)), (3, .int x)]) hx hb dX11_roundBy_79 hl (by decide) rfl (fun ls hl => ?_)
          generalize ((nI x53) + (((x / r102) - (x / r102) / 3 * 3) - 1)) = xg125 at hl
          have hl : lv_has ls 10 [(4, .int xg125), (8, .int r123), (7, .int (((x / r102) - (x / r102) / 3 * 3) - 1)), (6, .int (nI j91)), (5, .int x56), (0, .ref mo), (1, .int (nI k)), (2, .int (nI n)), (3, .int x)] := hl
          refine lv_aload_n hx hb dX11_roundBy_81 rfl (lv_at hl 5 rfl) ?_
          refine lv_iload hx hb dX11_roundBy_82 (lv_at hl 0 rfl) ?_
          have hs126 : kw_Split [(r0, .inl (y 0, 6, .inl x54)), (mo, .inr (11, [.ref to, .ref ke, .ref ik, .ref mrf, .long mab, .long mbl, .ref ha, .ref r0, .ref mbr, .ref mbp, .ref mby, .int (nI bl), .int (nI ta), .int (nI tl), .int (nI tk), .int vv, .ref an, .ref va])), (to, .inl (y 0, 228, .inl ft)), (ha, .inl (y 0, 30, .inl x55))] [(mo, .inr (11, [.ref to, .ref ke, .ref ik, .ref mrf, .long mab, .long mbl, .ref ha, .ref r0, .ref mbr, .ref mbp, .ref mby, .int (nI bl), .int (nI ta), .int (nI tl), .int (nI tk), .int vv, .ref an, .ref va])), (to, .inl (y 0, 228, .inl ft))] [(r0, .inl (y 0, 6, .inl x54)), (ha, .inl (y 0, 30, .inl x55))] [1, 2] [0, 3] := ⟨rfl, rfl, rfl, rfl, rfl, by decide⟩
          refine kw_go_i hs126 hP hD hS hA (va_runV (As := [.int xg125]) (rest := []) ⟨hx, hb, hml, hown, hts⟩ (gr_isField l D y mo to ke ik mrf ha r0 mbr mbp mby an va mab mbl bl ta tl tk vv ft fi gl mi no un xg125 hk0_ hk1_ hk2_ hk3_ hk4_ hkt hfi hgl hmi hno hun _) (cwV 1 hts gX11_roundBy_X11_isField rfl rfl rfl (by decide +kernel) ⟨Nat.le_of_ble_eq_true rfl, Nat.le_of_ble_eq_true rfl⟩) (kw_PreV (ci := 11) (q0 := 1) hs126 hP hD hK hN rfl rfl) rfl rfl hl.1 rfl (lv_room (Nat.le_of_ble_eq_true rfl)) dX11_roundBy_84 ⟨Nat.le_of_ble_eq_true rfl, Nat.le_of_ble_eq_true rfl⟩) (fun r127 u128 H locs hq hP hD hS => ?_)
          rcases hq with ⟨j129, h130, rfl, rfl⟩ | ⟨h131, rfl⟩
          · skip
            have hP : va_P D vwCl [(r0, .inl (y 0, 6, .inl x54)), (ha, .inl (y 0, 30, .inl x55)), (mo, .inr (11, [.ref to, .ref ke, .ref ik, .ref mrf, .long mab, .long mbl, .ref ha, .ref r0, .ref mbr, .ref mbp, .ref mby, .int (nI bl), .int (nI ta), .int (nI tl), .int (nI tk), .int vv, .ref an, .ref va])), (to, .inl (y 0, 228, .inl ft))] H := hP
            have hD : va_D A [(r0, .inl (y 0, 6, .inl x54)), (ha, .inl (y 0, 30, .inl x55)), (mo, .inr (11, [.ref to, .ref ke, .ref ik, .ref mrf, .long mab, .long mbl, .ref ha, .ref r0, .ref mbr, .ref mbp, .ref mby, .int (nI bl), .int (nI ta), .int (nI tl), .int (nI tk), .int vv, .ref an, .ref va])), (to, .inl (y 0, 228, .inl ft))] := hD
            refine lv_if_ne (tgt := 92) hx hb dX11_roundBy_87 (by decide) (fun _ => ?_) (fun h9 => absurd h9 (by decide))
            refine lv_aload_n hx hb dX11_roundBy_92 rfl (lv_at hl 5 rfl) ?_
            refine va_get (D := D) (ci := 11) (v := .ref ha) (C := RX11) (T := TX11) (N := 18) hx hb hts iw11 hown hK hP 2 rfl rfl 6 (by decide) fw2 (fun _ h9 => h9) rfl dX11_roundBy_93 ?_
            refine lv_iconst (v := 5) hx hb dX11_roundBy_96 (by decide) ?_
            refine lv_iload hx hb dX11_roundBy_97 (lv_at hl 0 rfl) ?_
            refine lv_iadd hx hb dX11_roundBy_99 ?_
            rw [show 5 + (nI j129) = nI (j129 + 5) from (nI_add 5 j129).trans (congrArg nI (by omega))]
            refine va_iald hx hb hK hP 1 0 rfl rfl (vp_in_nI (by omega) (by decide)) dX11_roundBy_100 ?_
            rw [nI_clamp (n := (j129 + 5)) (by omega)]
            refine lv_iload hx hb dX11_roundBy_101 (lv_at hl 1 rfl) ?_
            refine lv_isub hx hb dX11_roundBy_103 ?_
            refine lv_istore (lv' := [(9, .int ((x55 (j129 + 5)) - r123)), (4, .int (nI j129)), (8, .int r123), (7, .int (((x / r102) - (x / r102) / 3 * 3) - 1)), (6, .int (nI j91)), (5, .int x56), (0, .ref mo), (1, .int (nI k)), (2, .int (nI n)), (3, .int x)]) hx hb dX11_roundBy_104 hl (by decide) rfl (fun ls hl => ?_)
            refine lv_aload_n hx hb dX11_roundBy_106 rfl (lv_at hl 6 rfl) ?_
            refine va_get (D := D) (ci := 11) (v := .ref ha) (C := RX11) (T := TX11) (N := 18) hx hb hts iw11 hown hK hP 2 rfl rfl 6 (by decide) fw2 (fun _ h9 => h9) rfl dX11_roundBy_107 ?_
            refine lv_iconst (v := 5) hx hb dX11_roundBy_110 (by decide) ?_
            refine lv_iload hx hb dX11_roundBy_111 (lv_at hl 1 rfl) ?_
            refine lv_iadd hx hb dX11_roundBy_113 ?_
            rw [show 5 + (nI j129) = nI (j129 + 5) from (nI_add 5 j129).trans (congrArg nI (by omega))]
            refine lv_iload hx hb dX11_roundBy_114 (lv_at hl 0 rfl) ?_
            refine lv_if_ge (tgt := 123) hx hb dX11_roundBy_116 (by decide) (fun h132 => ?_) (fun h133 => ?_)
            · skip
              refine lv_iload hx hb dX11_roundBy_123 (lv_at hl 0 rfl) ?_
              refine va_iast hx hb hK hP hD hS 1 0 rfl rfl (vp_in_nI (by omega) (by decide)) dX11_roundBy_125 (fun H locs hP hD hS => ?_)
              rw [nI_clamp (n := (j129 + 5)) (by omega)] at hP hD
              have hr134 : kr_t 30 (upd x55 (j129 + 5) ((x55 (j129 + 5)) - r123)) := kr_up hr_x55 (kr_free (by unfold kr_a; omega) (by unfold kr_s; omega))
              have hk135 : (upd x55 (j129 + 5) ((x55 (j129 + 5)) - r123)) 0 = (nI fi) := (pk_un (by omega)).trans hk_x55_0
              have hk136 : (upd x55 (j129 + 5) ((x55 (j129 + 5)) - r123)) 1 = (nI gl) := (pk_un (by omega)).trans hk_x55_1
              have hP : va_P D vwCl [(r0, .inl (y 0, 6, .inl x54)), (ha, .inl (y 0, 30, .inl (upd x55 (j129 + 5) ((x55 (j129 + 5)) - r123)))), (mo, .inr (11, [.ref to, .ref ke, .ref ik, .ref mrf, .long mab, .long mbl, .ref ha, .ref r0, .ref mbr, .ref mbp, .ref mby, .int (nI bl), .int (nI ta), .int (nI tl), .int (nI tk), .int vv, .ref an, .ref va])), (to, .inl (y 0, 228, .inl ft))] H := hP
              have hD : va_D A [(r0, .inl (y 0, 6, .inl x54)), (ha, .inl (y 0, 30, .inl (upd x55 (j129 + 5) ((x55 (j129 + 5)) - r123)))), (mo, .inr (11, [.ref to, .ref ke, .ref ik, .ref mrf, .long mab, .long mbl, .ref ha, .ref r0, .ref mbr, .ref mbp, .ref mby, .int (nI bl), .int (nI ta), .int (nI tl), .int (nI tk), .int vv, .ref an, .ref va])), (to, .inl (y 0, 228, .inl ft))] := hD
              refine lv_iload hx hb dX11_roundBy_126 (lv_at hl 5 rfl) ?_
              refine lv_iload hx hb dX11_roundBy_128 (lv_at hl 2 rfl) ?_
              refine lv_iadd hx hb dX11_roundBy_130 ?_
              refine lv_istore (lv' := [(5, .int (x56 + r123)), (9, .int ((x55 (j129 + 5)) - r123)), (4, .int (nI j129)), (8, .int r123), (7, .int (((x / r102) - (x / r102) / 3 * 3) - 1)), (6, .int (nI j91)), (0, .ref mo), (1, .int (nI k)), (2, .int (nI n)), (3, .int x)]) hx hb dX11_roundBy_131 hl (by decide) rfl (fun ls hl => ?_)
              refine lv_aload_n hx hb dX11_roundBy_133 rfl (lv_at hl 6 rfl) ?_
              refine va_get (D := D) (ci := 11) (v := .ref r0) (C := RX11) (T := TX11) (N := 18) hx hb hts iw11 hown hK hP 2 rfl rfl 7 (by decide) fw3 (fun _ h9 => h9) rfl dX11_roundBy_134 ?_
              refine lv_iload hx hb dX11_roundBy_137 (lv_at hl 5 rfl) ?_
              refine lv_iload hx hb dX11_roundBy_139 (lv_at hl 2 rfl) ?_
              refine va_iast hx hb hK hP hD hS 0 0 rfl rfl (vp_in_nI (by omega) (by decide)) dX11_roundBy_141 (fun H locs hP hD hS => ?_)
              rw [nI_clamp (n := j91) (by omega)] at hP hD
              have hP : va_P D vwCl [(r0, .inl (y 0, 6, .inl (upd x54 j91 (nI j129)))), (ha, .inl (y 0, 30, .inl (upd x55 (j129 + 5) ((x55 (j129 + 5)) - r123)))), (mo, .inr (11, [.ref to, .ref ke, .ref ik, .ref mrf, .long mab, .long mbl, .ref ha, .ref r0, .ref mbr, .ref mbp, .ref mby, .int (nI bl), .int (nI ta), .int (nI tl), .int (nI tk), .int vv, .ref an, .ref va])), (to, .inl (y 0, 228, .inl ft))] H := hP
              have hD : va_D A [(r0, .inl (y 0, 6, .inl (upd x54 j91 (nI j129)))), (ha, .inl (y 0, 30, .inl (upd x55 (j129 + 5) ((x55 (j129 + 5)) - r123)))), (mo, .inr (11, [.ref to, .ref ke, .ref ik, .ref mrf, .long mab, .long mbl, .ref ha, .ref r0, .ref mbr, .ref mbp, .ref mby, .int (nI bl), .int (nI ta), .int (nI tl), .int (nI tk), .int vv, .ref an, .ref va])), (to, .inl (y 0, 228, .inl ft))] := hD
              refine lv_iinc (v := (nI (j91 + 1))) (lv' := [(6, .int (nI (j91 + 1))), (5, .int (x56 + r123)), (9, .int ((x55 (j129 + 5)) - r123)), (4, .int (nI j129)), (8, .int r123), (7, .int (((x / r102) - (x / r102) / 3 * 3) - 1)), (0, .ref mo), (1, .int (nI k)), (2, .int (nI n)), (3, .int x)]) hx hb dX11_roundBy_142 hl (k := 5) rfl (nI_1 j91) (by decide) rfl (fun ls hl => ?_)
              refine lv_goto (tgt := 21) hx hb dX11_roundBy_145 (by decide) ?_
              exact ihj91 (j91 + 1) j129 (upd x54 j91 (nI j129)) (upd x55 (j129 + 5) ((x55 (j129 + 5)) - r123)) (x56 + r123) H locs ls (by omega) (by omega) hr134 hk135 hk136 (by omega) (hP.sub [0, 2, 3, 1] rfl) (hD.sub [0, 2, 3, 1] (by decide) rfl) hS (lv_sub hl [0, 1, 3, 6, 7, 8, 9] rfl)
            · skip
              refine lv_iconst (v := 0) hx hb dX11_roundBy_119 (by decide) ?_
              refine lv_goto (tgt := 125) hx hb dX11_roundBy_120 (by decide) ?_
              refine va_iast hx hb hK hP hD hS 1 0 rfl rfl (vp_in_nI (by omega) (by decide)) dX11_roundBy_125 (fun H locs hP hD hS => ?_)
              rw [nI_clamp (n := (j129 + 5)) (by omega)] at hP hD
              have hr137 : kr_t 30 (upd x55 (j129 + 5) 0) := kr_up hr_x55 (kr_ok0)
              have hk138 : (upd x55 (j129 + 5) 0) 0 = (nI fi) := (pk_un (by omega)).trans hk_x55_0
              have hk139 : (upd x55 (j129 + 5) 0) 1 = (nI gl) := (pk_un (by omega)).trans hk_x55_1
              have hP : va_P D vwCl [(r0, .inl (y 0, 6, .inl x54)), (ha, .inl (y 0, 30, .inl (upd x55 (j129 + 5) 0))), (mo, .inr (11, [.ref to, .ref ke, .ref ik, .ref mrf, .long mab, .long mbl, .ref ha, .ref r0, .ref mbr, .ref mbp, .ref mby, .int (nI bl), .int (nI ta), .int (nI tl), .int (nI tk), .int vv, .ref an, .ref va])), (to, .inl (y 0, 228, .inl ft))] H := hP
              have hD : va_D A [(r0, .inl (y 0, 6, .inl x54)), (ha, .inl (y 0, 30, .inl (upd x55 (j129 + 5) 0))), (mo, .inr (11, [.ref to, .ref ke, .ref ik, .ref mrf, .long mab, .long mbl, .ref ha, .ref r0, .ref mbr, .ref mbp, .ref mby, .int (nI bl), .int (nI ta), .int (nI tl), .int (nI tk), .int vv, .ref an, .ref va])), (to, .inl (y 0, 228, .inl ft))] := hD
              refine lv_iload hx hb dX11_roundBy_126 (lv_at hl 5 rfl) ?_
              refine lv_iload hx hb dX11_roundBy_128 (lv_at hl 2 rfl) ?_
              refine lv_iadd hx hb dX11_roundBy_130 ?_
              refine lv_istore (lv' := [(5, .int (x56 + r123)), (9, .int ((x55 (j129 + 5)) - r123)), (4, .int (nI j129)), (8, .int r123), (7, .int (((x / r102) - (x / r102) / 3 * 3) - 1)), (6, .int (nI j91)), (0, .ref mo), (1, .int (nI k)), (2, .int (nI n)), (3, .int x)]) hx hb dX11_roundBy_131 hl (by decide) rfl (fun ls hl => ?_)
              refine lv_aload_n hx hb dX11_roundBy_133 rfl (lv_at hl 6 rfl) ?_
              refine va_get (D := D) (ci := 11) (v := .ref r0) (C := RX11) (T := TX11) (N := 18) hx hb hts iw11 hown hK hP 2 rfl rfl 7 (by decide) fw3 (fun _ h9 => h9) rfl dX11_roundBy_134 ?_
              refine lv_iload hx hb dX11_roundBy_137 (lv_at hl 5 rfl) ?_
              refine lv_iload hx hb dX11_roundBy_139 (lv_at hl 2 rfl) ?_
              refine va_iast hx hb hK hP hD hS 0 0 rfl rfl (vp_in_nI (by omega) (by decide)) dX11_roundBy_141 (fun H locs hP hD hS => ?_)
              rw [nI_clamp (n := j91) (by omega)] at hP hD
              have hP : va_P D vwCl [(r0, .inl (y 0, 6, .inl (upd x54 j91 (nI j129)))), (ha, .inl (y 0, 30, .inl (upd x55 (j129 + 5) 0))), (mo, .inr (11, [.ref to, .ref ke, .ref ik, .ref mrf, .long mab, .long mbl, .ref ha, .ref r0, .ref mbr, .ref mbp, .ref mby, .int (nI bl), .int (nI ta), .int (nI tl), .int (nI tk), .int vv, .ref an, .ref va])), (to, .inl (y 0, 228, .inl ft))] H := hP
              have hD : va_D A [(r0, .inl (y 0, 6, .inl (upd x54 j91 (nI j129)))), (ha, .inl (y 0, 30, .inl (upd x55 (j129 + 5) 0))), (mo, .inr (11, [.ref to, .ref ke, .ref ik, .ref mrf, .long mab, .long mbl, .ref ha, .ref r0, .ref mbr, .ref mbp, .ref mby, .int (nI bl), .int (nI ta), .int (nI tl), .int (nI tk), .int vv, .ref an, .ref va])), (to, .inl (y 0, 228, .inl ft))] := hD
              refine lv_iinc (v := (nI (j91 + 1))) (lv' := [(6, .int (nI (j91 + 1))), (5, .int (x56 + r123)), (9, .int ((x55 (j129 + 5)) - r123)), (4, .int (nI j129)), (8, .int r123), (7, .int (((x / r102) - (x / r102) / 3 * 3) - 1)), (0, .ref mo), (1, .int (nI k)), (2, .int (nI n)), (3, .int x)]) hx hb dX11_roundBy_142 hl (k := 5) rfl (nI_1 j91) (by decide) rfl (fun ls hl => ?_)
              refine lv_goto (tgt := 21) hx hb dX11_roundBy_145 (by decide) ?_
              exact ihj91 (j91 + 1) j129 (upd x54 j91 (nI j129)) (upd x55 (j129 + 5) 0) (x56 + r123) H locs ls (by omega) (by omega) hr137 hk138 hk139 (by omega) (hP.sub [0, 2, 3, 1] rfl) (hD.sub [0, 2, 3, 1] (by decide) rfl) hS (lv_sub hl [0, 1, 3, 6, 7, 8, 9] rfl)
          · skip
            have hP : va_P D vwCl [(r0, .inl (y 0, 6, .inl x54)), (ha, .inl (y 0, 30, .inl x55)), (mo, .inr (11, [.ref to, .ref ke, .ref ik, .ref mrf, .long mab, .long mbl, .ref ha, .ref r0, .ref mbr, .ref mbp, .ref mby, .int (nI bl), .int (nI ta), .int (nI tl), .int (nI tk), .int vv, .ref an, .ref va])), (to, .inl (y 0, 228, .inl ft))] H := hP
            have hD : va_D A [(r0, .inl (y 0, 6, .inl x54)), (ha, .inl (y 0, 30, .inl x55)), (mo, .inr (11, [.ref to, .ref ke, .ref ik, .ref mrf, .long mab, .long mbl, .ref ha, .ref r0, .ref mbr, .ref mbp, .ref mby, .int (nI bl), .int (nI ta), .int (nI tl), .int (nI tk), .int vv, .ref an, .ref va])), (to, .inl (y 0, 228, .inl ft))] := hD
            refine lv_if_ne (tgt := 92) hx hb dX11_roundBy_87 (by decide) (fun h9 => absurd h9 (by decide)) (fun _ => ?_)
            refine lv_iconst (v := (-1)) hx hb dX11_roundBy_90 (by decide) ?_
            exact W.iret (v := (-1)) hx hb hr (fun tZ ht hW => ⟨⟨(-1), (x55, x54), rfl, hr_x55, by rw [ht]; exact hP.sub [2, 3, 1, 0] rfl, hD.sub [2, 3, 1, 0] (by decide) rfl⟩, hS.F ht⟩) hS.2.2 dX11_roundBy_91
  exact lp98 (n + 1) 0 w1 fr0 (kr_cp fh ft 30) 0 _ _ _ (by omega) (by omega) h7 hk8 hk9 (by omega) hP hD hS (lv_sub hl [0, 1, 2, 3, 4, 5, 6] rfl)
