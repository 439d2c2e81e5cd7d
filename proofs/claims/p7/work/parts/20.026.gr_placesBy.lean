set_option maxHeartbeats 4000000 in
set_option maxRecDepth 100000 in
theorem gr_placesBy (l : Launch) (D : va_G) (y : Nat → ClassId) (mo : Nat) (to : Nat) (ke : Nat) (ik : Nat) (mrf : Nat) (ha : Nat) (r0 : Nat) (mbr : Nat) (mbp : Nat) (mby : Nat) (an : Nat) (va : Nat) (mab : Int64) (mbl : Int64) (bl : Nat) (ta : Nat) (tl : Nat) (tk : Nat) (vv : Int32) (ft : Nat → Int32) (fi : Nat) (gl : Nat) (mi : Nat) (no : Nat) (un : Nat) (fh : Nat → Int32) (k : Nat) (x : Int32) (hk0_ : ft 0 = (nI fi)) (hk1_ : ft 1 = (nI gl)) (hk2_ : ft 2 = (nI mi)) (hk3_ : ft 3 = (nI no)) (hk4_ : ft 4 = (nI un)) (hkt : kr_t 228 ft) (hfi : fi ≤ 6) (hgl : gl ≤ 5) (hmi : mi ≤ 4) (hno : no ≤ 6) (hun : un ≤ 8) (hgf : (gl = 0 ∨ 0 < fi)) (hkh : kr_t 30 fh) (hh0_ : fh 0 = (nI fi)) (hh1_ : fh 1 = (nI gl)) (hA1 : k < 2147483648) (hA2 : 1 ≤ gl) : kw_Mi l yX11_placesBy wsX11_placesBy ({ frames := 6, cells := 0, slots := 0, locals := 172 }) D y [.ref mo, .int (nI k), .int x] [(mo, .inr (11, [.ref to, .ref ke, .ref ik, .ref mrf, .long mab, .long mbl, .ref ha, .ref r0, .ref mbr, .ref mbp, .ref mby, .int (nI bl), .int (nI ta), .int (nI tl), .int (nI tk), .int vv, .ref an, .ref va])), (to, .inl (y 0, 228, .inl ft)), (ha, .inl (y 0, 30, .inl fh))] (fun (r : Int32) (u : (Nat → Int32)) => kr_t 30 u ∧ u 0 = (nI fi) ∧ u 1 = (nI gl)) (fun u => [(mo, .inr (11, [.ref to, .ref ke, .ref ik, .ref mrf, .long mab, .long mbl, .ref ha, .ref r0, .ref mbr, .ref mbp, .ref mby, .int (nI bl), .int (nI ta), .int (nI tl), .int (nI tk), .int vv, .ref an, .ref va])), (to, .inl (y 0, 228, .inl ft)), (ha, .inl (y 0, 30, .inl u))]) 0 0 := by
  refine kw_Mi.of (cc := cX11_placesBy) (maxL := 8) (ret := (some .int)) (by decide) rfl ?_
  intro pZ eZ s mZ beZ meZ cZ A hE
  obtain ⟨hx, hb, hr, hml, hts, hown, hlocks, hin, hA, hP, hD, hK, hN⟩ := hE
  have hS : va_S A s.heap s.heap [] := va_S.rf
  have hl := lv_entry ([.ref mo, .int (nI k), .int x]) (n := 8) (Nat.le_of_ble_eq_true rfl)
  rw [lg_entry_eq]
  generalize (lg_sl ([.ref mo, .int (nI k), .int x]) ++ List.replicate (8 - (lg_sl ([.ref mo, .int (nI k), .int x])).length) Slot.unset).toArray = ls at hl ⊢
  have hl : lv_has ls 8 [(0, .ref mo), (1, .int (nI k)), (2, .int x)] := hl
  have fw1 := hts (.constant RX11 158 (1000000)) (List.mem_of_getElem? (i := 1) rfl)
  have fw2 := hts (.fieldLink RX11 27 "GleanDuskModel" "hand" "[I") (List.mem_of_getElem? (i := 2) rfl)
  have iw11 : ∀ w ∈ wsX110, w ∈ wsX11_placesBy := fun _ h => List.mem_cons_of_mem _ (List.mem_append_right _ h)
  refine lv_iload_n hx hb dX11_placesBy_0 rfl (lv_at hl 1 rfl) ?_
  refine lv_istore_n (lv' := [(3, .int (nI k)), (0, .ref mo), (1, .int (nI k)), (2, .int x)]) hx hb dX11_placesBy_1 rfl hl (by decide) rfl (fun ls hl => ?_)
  refine lv_iconst (v := 0) hx hb dX11_placesBy_2 (by decide) ?_
  refine lv_istore (lv' := [(4, .int 0), (3, .int (nI k)), (0, .ref mo), (1, .int (nI k)), (2, .int x)]) hx hb dX11_placesBy_3 hl (by decide) rfl (fun ls hl => ?_)
  refine lv_ldc (v := 1000000) hx hb hown fw1 dX11_placesBy_5 ?_
  refine lv_istore (lv' := [(5, .int 1000000), (4, .int 0), (3, .int (nI k)), (0, .ref mo), (1, .int (nI k)), (2, .int x)]) hx hb dX11_placesBy_7 hl (by decide) rfl (fun ls hl => ?_)
  rcases (show gl = 1 ∨ gl = 2 ∨ gl = 3 ∨ gl = 4 ∨ gl = 5 by omega) with rfl | rfl | rfl | rfl | rfl
  · skip
    refine lv_aload_n hx hb dX11_placesBy_9 rfl (lv_at hl 3 rfl) ?_
    have hs1 : kw_Split [(mo, .inr (11, [.ref to, .ref ke, .ref ik, .ref mrf, .long mab, .long mbl, .ref ha, .ref r0, .ref mbr, .ref mbp, .ref mby, .int (nI bl), .int (nI ta), .int (nI tl), .int (nI tk), .int vv, .ref an, .ref va])), (to, .inl (y 0, 228, .inl ft)), (ha, .inl (y 0, 30, .inl fh))] [(mo, .inr (11, [.ref to, .ref ke, .ref ik, .ref mrf, .long mab, .long mbl, .ref ha, .ref r0, .ref mbr, .ref mbp, .ref mby, .int (nI bl), .int (nI ta), .int (nI tl), .int (nI tk), .int vv, .ref an, .ref va])), (to, .inl (y 0, 228, .inl ft))] [(ha, .inl (y 0, 30, .inl fh))] [0, 1] [2] := ⟨rfl, rfl, rfl, rfl, rfl, by decide⟩
    refine kw_go_i hs1 hP hD hS hA (va_runV (As := []) (rest := []) ⟨hx, hb, hml, hown, hts⟩ (gr_manyGleaners l D y mo to ke ik mrf ha r0 mbr mbp mby an va mab mbl bl ta tl tk vv ft fi 1 mi no un hk0_ hk1_ hk2_ hk3_ hk4_ hkt hfi hgl hmi hno hun _) (cwV 0 hts gX11_placesBy_X11_manyGleaners rfl rfl rfl (by decide +kernel) ⟨Nat.le_of_ble_eq_true rfl, Nat.le_of_ble_eq_true rfl⟩) (kw_PreV (ci := 11) (q0 := 0) hs1 hP hD hK hN rfl rfl) rfl rfl hl.1 rfl (lv_room (Nat.le_of_ble_eq_true rfl)) dX11_placesBy_10 ⟨Nat.le_of_ble_eq_true rfl, Nat.le_of_ble_eq_true rfl⟩) (fun r2 u3 H locs hq hP hD hS => ?_)
    obtain rfl := hq
    have hP : va_P D vwCl [(ha, .inl (y 0, 30, .inl fh)), (mo, .inr (11, [.ref to, .ref ke, .ref ik, .ref mrf, .long mab, .long mbl, .ref ha, .ref r0, .ref mbr, .ref mbp, .ref mby, .int (nI bl), .int (nI ta), .int (nI tl), .int (nI tk), .int vv, .ref an, .ref va])), (to, .inl (y 0, 228, .inl ft))] H := hP
    have hD : va_D A [(ha, .inl (y 0, 30, .inl fh)), (mo, .inr (11, [.ref to, .ref ke, .ref ik, .ref mrf, .long mab, .long mbl, .ref ha, .ref r0, .ref mbr, .ref mbp, .ref mby, .int (nI bl), .int (nI ta), .int (nI tl), .int (nI tk), .int vv, .ref an, .ref va])), (to, .inl (y 0, 228, .inl ft))] := hD
    refine lv_iconst (v := 1) hx hb dX11_placesBy_13 (by decide) ?_
    refine lv_isub hx hb dX11_placesBy_14 ?_
    rw [show (nI 1) - 1 = nI (0) from pk_sub (a := 1) (b := 1) (by omega)]
    refine lv_istore (lv' := [(6, .int (nI 0)), (5, .int 1000000), (4, .int 0), (3, .int (nI k)), (0, .ref mo), (1, .int (nI k)), (2, .int x)]) hx hb dX11_placesBy_15 hl (by decide) rfl (fun ls hl => ?_)
    refine lv_iload hx hb dX11_placesBy_17 (lv_at hl 0 rfl) ?_
    refine lv_if_lt (tgt := 51) hx hb dX11_placesBy_19 (by decide) (fun h4 => ?_) (fun h5 => ?_)
    · skip
      have h4 : 0 < 0 := (nI_ltI (a := 0) (b := 0) (by omega) (by omega)).mp h4
      exact absurd h4 (by omega)
    · skip
      have h5 : ¬ 0 < 0 := fun q9 => h5 ((nI_ltI (a := 0) (b := 0) (by omega) (by omega)).mpr q9)
      refine lv_aload_n hx hb dX11_placesBy_22 rfl (lv_at hl 4 rfl) ?_
      refine va_get (D := D) (ci := 11) (v := .ref ha) (C := RX11) (T := TX11) (N := 18) hx hb hts iw11 hown hK hP 1 rfl rfl 6 (by decide) fw2 (fun _ h9 => h9) rfl dX11_placesBy_23 ?_
      refine lv_bipush (v := 11) hx hb dX11_placesBy_26 (by decide) ?_
      refine lv_iload hx hb dX11_placesBy_28 (lv_at hl 0 rfl) ?_
      refine lv_iadd hx hb dX11_placesBy_30 ?_
      rw [show 11 + (nI 0) = nI (11) from nI_add 11 0]
      refine lv_iload_n hx hb dX11_placesBy_31 rfl (lv_at hl 3 rfl) ?_
      refine lv_aload_n hx hb dX11_placesBy_32 rfl (lv_at hl 4 rfl) ?_
      have hs6 : kw_Split [(ha, .inl (y 0, 30, .inl fh)), (mo, .inr (11, [.ref to, .ref ke, .ref ik, .ref mrf, .long mab, .long mbl, .ref ha, .ref r0, .ref mbr, .ref mbp, .ref mby, .int (nI bl), .int (nI ta), .int (nI tl), .int (nI tk), .int vv, .ref an, .ref va])), (to, .inl (y 0, 228, .inl ft))] [(mo, .inr (11, [.ref to, .ref ke, .ref ik, .ref mrf, .long mab, .long mbl, .ref ha, .ref r0, .ref mbr, .ref mbp, .ref mby, .int (nI bl), .int (nI ta), .int (nI tl), .int (nI tk), .int vv, .ref an, .ref va])), (to, .inl (y 0, 228, .inl ft))] [(ha, .inl (y 0, 30, .inl fh))] [1, 2] [0] := ⟨rfl, rfl, rfl, rfl, rfl, by decide⟩
      refine kw_go_i hs6 hP hD hS hA (va_runV (As := []) (rest := [.int (nI k), .int (nI 11), .ref ha]) ⟨hx, hb, hml, hown, hts⟩ (gr_many l D y mo to ke ik mrf ha r0 mbr mbp mby an va mab mbl bl ta tl tk vv ft fi 1 mi no un hk0_ hk1_ hk2_ hk3_ hk4_ hkt hfi hgl hmi hno hun _) (cwV 0 hts gX11_placesBy_X11_many rfl rfl rfl (by decide +kernel) ⟨Nat.le_of_ble_eq_true rfl, Nat.le_of_ble_eq_true rfl⟩) (kw_PreV (ci := 11) (q0 := 1) hs6 hP hD hK hN rfl rfl) rfl rfl hl.1 rfl (lv_room (Nat.le_of_ble_eq_true rfl)) dX11_placesBy_33 ⟨Nat.le_of_ble_eq_true rfl, Nat.le_of_ble_eq_true rfl⟩) (fun r7 u8 H locs hq hP hD hS => ?_)
      obtain rfl := hq
      have hP : va_P D vwCl [(ha, .inl (y 0, 30, .inl fh)), (mo, .inr (11, [.ref to, .ref ke, .ref ik, .ref mrf, .long mab, .long mbl, .ref ha, .ref r0, .ref mbr, .ref mbp, .ref mby, .int (nI bl), .int (nI ta), .int (nI tl), .int (nI tk), .int vv, .ref an, .ref va])), (to, .inl (y 0, 228, .inl ft))] H := hP
      have hD : va_D A [(ha, .inl (y 0, 30, .inl fh)), (mo, .inr (11, [.ref to, .ref ke, .ref ik, .ref mrf, .long mab, .long mbl, .ref ha, .ref r0, .ref mbr, .ref mbp, .ref mby, .int (nI bl), .int (nI ta), .int (nI tl), .int (nI tk), .int vv, .ref an, .ref va])), (to, .inl (y 0, 228, .inl ft))] := hD
      refine lv_irem hx hb dX11_placesBy_36 (nI_ne0 (by omega) (by omega)) ?_
      obtain ⟨q9, h10, h11⟩ := kr_rem (a := k) (b := fi) (by omega) (by omega) (by omega)
      rw [h11]
      refine va_iast hx hb hK hP hD hS 0 0 rfl rfl (vp_in_nI (by omega) (by decide)) dX11_placesBy_37 (fun H locs hP hD hS => ?_)
      rw [nI_clamp (n := 11) (by omega)] at hP hD
      have hr12 : kr_t 30 (upd fh 11 (nI q9)) := kr_up hkh (kr_oka (vp_in_nI (by omega) (by decide)) (by unfold kr_s; omega))
      have hk13 : (upd fh 11 (nI q9)) 0 = (nI fi) := (pk_un (by decide)).trans hh0_
      have hk14 : (upd fh 11 (nI q9)) 1 = (nI 1) := (pk_un (by decide)).trans hh1_
      have hP : va_P D vwCl [(ha, .inl (y 0, 30, .inl (upd fh 11 (nI q9)))), (mo, .inr (11, [.ref to, .ref ke, .ref ik, .ref mrf, .long mab, .long mbl, .ref ha, .ref r0, .ref mbr, .ref mbp, .ref mby, .int (nI bl), .int (nI ta), .int (nI tl), .int (nI tk), .int vv, .ref an, .ref va])), (to, .inl (y 0, 228, .inl ft))] H := hP
      have hD : va_D A [(ha, .inl (y 0, 30, .inl (upd fh 11 (nI q9)))), (mo, .inr (11, [.ref to, .ref ke, .ref ik, .ref mrf, .long mab, .long mbl, .ref ha, .ref r0, .ref mbr, .ref mbp, .ref mby, .int (nI bl), .int (nI ta), .int (nI tl), .int (nI tk), .int vv, .ref an, .ref va])), (to, .inl (y 0, 228, .inl ft))] := hD
      refine lv_iload_n hx hb dX11_placesBy_38 rfl (lv_at hl 3 rfl) ?_
      refine lv_aload_n hx hb dX11_placesBy_39 rfl (lv_at hl 4 rfl) ?_
      have hs15 : kw_Split [(ha, .inl (y 0, 30, .inl (upd fh 11 (nI q9)))), (mo, .inr (11, [.ref to, .ref ke, .ref ik, .ref mrf, .long mab, .long mbl, .ref ha, .ref r0, .ref mbr, .ref mbp, .ref mby, .int (nI bl), .int (nI ta), .int (nI tl), .int (nI tk), .int vv, .ref an, .ref va])), (to, .inl (y 0, 228, .inl ft))] [(mo, .inr (11, [.ref to, .ref ke, .ref ik, .ref mrf, .long mab, .long mbl, .ref ha, .ref r0, .ref mbr, .ref mbp, .ref mby, .int (nI bl), .int (nI ta), .int (nI tl), .int (nI tk), .int vv, .ref an, .ref va])), (to, .inl (y 0, 228, .inl ft))] [(ha, .inl (y 0, 30, .inl (upd fh 11 (nI q9))))] [1, 2] [0] := ⟨rfl, rfl, rfl, rfl, rfl, by decide⟩
      refine kw_go_i hs15 hP hD hS hA (va_runV (As := []) (rest := [.int (nI k)]) ⟨hx, hb, hml, hown, hts⟩ (gr_many l D y mo to ke ik mrf ha r0 mbr mbp mby an va mab mbl bl ta tl tk vv ft fi 1 mi no un hk0_ hk1_ hk2_ hk3_ hk4_ hkt hfi hgl hmi hno hun _) (cwV 0 hts gX11_placesBy_X11_many rfl rfl rfl (by decide +kernel) ⟨Nat.le_of_ble_eq_true rfl, Nat.le_of_ble_eq_true rfl⟩) (kw_PreV (ci := 11) (q0 := 1) hs15 hP hD hK hN rfl rfl) rfl rfl hl.1 rfl (lv_room (Nat.le_of_ble_eq_true rfl)) dX11_placesBy_40 ⟨Nat.le_of_ble_eq_true rfl, Nat.le_of_ble_eq_true rfl⟩) (fun r16 u17 H locs hq hP hD hS => ?_)
      obtain rfl := hq
      have hP : va_P D vwCl [(ha, .inl (y 0, 30, .inl (upd fh 11 (nI q9)))), (mo, .inr (11, [.ref to, .ref ke, .ref ik, .ref mrf, .long mab, .long mbl, .ref ha, .ref r0, .ref mbr, .ref mbp, .ref mby, .int (nI bl), .int (nI ta), .int (nI tl), .int (nI tk), .int vv, .ref an, .ref va])), (to, .inl (y 0, 228, .inl ft))] H := hP
      have hD : va_D A [(ha, .inl (y 0, 30, .inl (upd fh 11 (nI q9)))), (mo, .inr (11, [.ref to, .ref ke, .ref ik, .ref mrf, .long mab, .long mbl, .ref ha, .ref r0, .ref mbr, .ref mbp, .ref mby, .int (nI bl), .int (nI ta), .int (nI tl), .int (nI tk), .int vv, .ref an, .ref va])), (to, .inl (y 0, 228, .inl ft))] := hD
      refine lv_idiv hx hb dX11_placesBy_43 (nI_ne0 (by omega) (by omega)) ?_
      obtain ⟨q18, h19, h20⟩ := kr_div (a := k) (b := fi) (by omega) (by omega) (by omega)
      rw [h20]
      refine lv_istore_n (lv' := [(3, .int (nI q18)), (6, .int (nI 0)), (5, .int 1000000), (4, .int 0), (0, .ref mo), (1, .int (nI k)), (2, .int x)]) hx hb dX11_placesBy_44 rfl hl (by decide) rfl (fun ls hl => ?_)
      refine lv_iinc (v := (-1)) (lv' := [(6, .int (-1)), (3, .int (nI q18)), (5, .int 1000000), (4, .int 0), (0, .ref mo), (1, .int (nI k)), (2, .int x)]) hx hb dX11_placesBy_45 hl (k := 1) rfl (by decide) (by decide) rfl (fun ls hl => ?_)
      refine lv_goto (tgt := 17) hx hb dX11_placesBy_48 (by decide) ?_
      refine lv_iload hx hb dX11_placesBy_17 (lv_at hl 0 rfl) ?_
      refine lv_if_lt (tgt := 51) hx hb dX11_placesBy_19 (by decide) (fun _ => ?_) (fun h9 => absurd h9 (by decide))
      refine lv_iconst (v := 0) hx hb dX11_placesBy_51 (by decide) ?_
      refine lv_istore (lv' := [(6, .int 0), (3, .int (nI q18)), (5, .int 1000000), (4, .int 0), (0, .ref mo), (1, .int (nI k)), (2, .int x)]) hx hb dX11_placesBy_52 hl (by decide) rfl (fun ls hl => ?_)
      have lp47 : ∀ (fuj91 j91 : Nat) (x33 : Int32) (x34 : Int32) (H : Heap) (locs : List Loc) (ls : Array Slot), j91 ≤ 1 → 1 - j91 < fuj91 → va_P D vwCl [(ha, .inl (y 0, 30, .inl (upd fh 11 (nI q9)))), (mo, .inr (11, [.ref to, .ref ke, .ref ik, .ref mrf, .long mab, .long mbl, .ref ha, .ref r0, .ref mbr, .ref mbp, .ref mby, .int (nI bl), .int (nI ta), .int (nI tl), .int (nI tk), .int vv, .ref an, .ref va])), (to, .inl (y 0, 228, .inl ft))] H → va_D A [(ha, .inl (y 0, 30, .inl (upd fh 11 (nI q9)))), (mo, .inr (11, [.ref to, .ref ke, .ref ik, .ref mrf, .long mab, .long mbl, .ref ha, .ref r0, .ref mbr, .ref mbp, .ref mby, .int (nI bl), .int (nI ta), .int (nI tl), .int (nI tk), .int vv, .ref an, .ref va])), (to, .inl (y 0, 228, .inl ft))] → va_S A s.heap H locs → lv_has ls 8 [(6, .int (nI j91)), (3, .int (nI q18)), (5, .int x34), (4, .int x33), (0, .ref mo), (1, .int (nI k)), (2, .int x)] → W pZ l eZ ({ frames := 6, cells := 0, slots := 0, locals := 172 }) s mZ [.ref mo, .int (nI k), .int x].toArray beZ meZ cZ H locs 0 0 (MQ beZ (va_Qi (fun (r : Int32) (u : (Nat → Int32)) => kr_t 30 u ∧ u 0 = (nI fi) ∧ u 1 = (nI 1)) (kw_B D (fun u => [(mo, .inr (11, [.ref to, .ref ke, .ref ik, .ref mrf, .long mab, .long mbl, .ref ha, .ref r0, .ref mbr, .ref mbp, .ref mby, .int (nI bl), .int (nI ta), .int (nI tl), .int (nI tk), .int vv, .ref an, .ref va])), (to, .inl (y 0, 228, .inl ft)), (ha, .inl (y 0, 30, .inl u))]) A) A) [.ref mo, .int (nI k), .int x].toArray s 0 0 A) (F0 mZ 54 ls []) := by
        intro fuj91
        induction fuj91 with
        | zero => intro j91 x33 x34 H locs ls hj9 hf9; exact absurd hf9 (Nat.not_lt_zero _)
        | succ fuj91 ihj91 =>
          intro j91 x33 x34 H locs ls hj91 hfj91  hP hD hS hl
          refine lv_iload hx hb dX11_placesBy_54 (lv_at hl 0 rfl) ?_
          refine lv_aload_n hx hb dX11_placesBy_56 rfl (lv_at hl 4 rfl) ?_
          have hs48 : kw_Split [(ha, .inl (y 0, 30, .inl (upd fh 11 (nI q9)))), (mo, .inr (11, [.ref to, .ref ke, .ref ik, .ref mrf, .long mab, .long mbl, .ref ha, .ref r0, .ref mbr, .ref mbp, .ref mby, .int (nI bl), .int (nI ta), .int (nI tl), .int (nI tk), .int vv, .ref an, .ref va])), (to, .inl (y 0, 228, .inl ft))] [(mo, .inr (11, [.ref to, .ref ke, .ref ik, .ref mrf, .long mab, .long mbl, .ref ha, .ref r0, .ref mbr, .ref mbp, .ref mby, .int (nI bl), .int (nI ta), .int (nI tl), .int (nI tk), .int vv, .ref an, .ref va])), (to, .inl (y 0, 228, .inl ft))] [(ha, .inl (y 0, 30, .inl (upd fh 11 (nI q9))))] [1, 2] [0] := ⟨rfl, rfl, rfl, rfl, rfl, by decide⟩
          refine kw_go_i hs48 hP hD hS hA (va_runV (As := []) (rest := [.int (nI j91)]) ⟨hx, hb, hml, hown, hts⟩ (gr_manyGleaners l D y mo to ke ik mrf ha r0 mbr mbp mby an va mab mbl bl ta tl tk vv ft fi 1 mi no un hk0_ hk1_ hk2_ hk3_ hk4_ hkt hfi hgl hmi hno hun _) (cwV 0 hts gX11_placesBy_X11_manyGleaners rfl rfl rfl (by decide +kernel) ⟨Nat.le_of_ble_eq_true rfl, Nat.le_of_ble_eq_true rfl⟩) (kw_PreV (ci := 11) (q0 := 1) hs48 hP hD hK hN rfl rfl) rfl rfl hl.1 rfl (lv_room (Nat.le_of_ble_eq_true rfl)) dX11_placesBy_57 ⟨Nat.le_of_ble_eq_true rfl, Nat.le_of_ble_eq_true rfl⟩) (fun r49 u50 H locs hq hP hD hS => ?_)
          obtain rfl := hq
          have hP : va_P D vwCl [(ha, .inl (y 0, 30, .inl (upd fh 11 (nI q9)))), (mo, .inr (11, [.ref to, .ref ke, .ref ik, .ref mrf, .long mab, .long mbl, .ref ha, .ref r0, .ref mbr, .ref mbp, .ref mby, .int (nI bl), .int (nI ta), .int (nI tl), .int (nI tk), .int vv, .ref an, .ref va])), (to, .inl (y 0, 228, .inl ft))] H := hP
          have hD : va_D A [(ha, .inl (y 0, 30, .inl (upd fh 11 (nI q9)))), (mo, .inr (11, [.ref to, .ref ke, .ref ik, .ref mrf, .long mab, .long mbl, .ref ha, .ref r0, .ref mbr, .ref mbp, .ref mby, .int (nI bl), .int (nI ta), .int (nI tl), .int (nI tk), .int vv, .ref an, .ref va])), (to, .inl (y 0, 228, .inl ft))] := hD
          refine lv_icmp_ge (tgt := 103) hx hb dX11_placesBy_60 (by decide) (fun h51 => ?_) (fun h52 => ?_)
          · skip
            have h51 : 1 ≤ j91 := (nI_leI (a := 1) (b := j91) (by omega) (by omega)).mp h51
            refine lv_iload_n hx hb dX11_placesBy_103 rfl (lv_at hl 6 rfl) ?_
            refine lv_if_ne (tgt := 112) hx hb dX11_placesBy_104 (by decide) (fun h53 => ?_) (fun h54 => ?_)
            · skip
              refine lv_iload hx hb dX11_placesBy_112 (lv_at hl 2 rfl) ?_
              exact W.iret (v := x34) hx hb hr (fun tZ ht hW => ⟨⟨x34, ((upd fh 11 (nI q9))), rfl, ⟨hr12, hk13, hk14⟩, by rw [ht]; exact hP.sub [1, 2, 0] rfl, hD.sub [1, 2, 0] (by decide) rfl⟩, hS.F ht⟩) hS.2.2 dX11_placesBy_114
            · skip
              refine lv_iload hx hb dX11_placesBy_107 (lv_at hl 3 rfl) ?_
              refine lv_goto (tgt := 114) hx hb dX11_placesBy_109 (by decide) ?_
              exact W.iret (v := x33) hx hb hr (fun tZ ht hW => ⟨⟨x33, ((upd fh 11 (nI q9))), rfl, ⟨hr12, hk13, hk14⟩, by rw [ht]; exact hP.sub [1, 2, 0] rfl, hD.sub [1, 2, 0] (by decide) rfl⟩, hS.F ht⟩) hS.2.2 dX11_placesBy_114
          · skip
            have h52 : ¬ 1 ≤ j91 := fun q9 => h52 ((nI_leI (a := 1) (b := j91) (by omega) (by omega)).mpr q9)
            refine lv_aload_n hx hb dX11_placesBy_63 rfl (lv_at hl 4 rfl) ?_
            refine va_get (D := D) (ci := 11) (v := .ref ha) (C := RX11) (T := TX11) (N := 18) hx hb hts iw11 hown hK hP 1 rfl rfl 6 (by decide) fw2 (fun _ h9 => h9) rfl dX11_placesBy_64 ?_
            refine lv_iload hx hb dX11_placesBy_67 (lv_at hl 0 rfl) ?_
            have hs55 : kw_Split [(ha, .inl (y 0, 30, .inl (upd fh 11 (nI q9)))), (mo, .inr (11, [.ref to, .ref ke, .ref ik, .ref mrf, .long mab, .long mbl, .ref ha, .ref r0, .ref mbr, .ref mbp, .ref mby, .int (nI bl), .int (nI ta), .int (nI tl), .int (nI tk), .int vv, .ref an, .ref va])), (to, .inl (y 0, 228, .inl ft))] [(ha, .inl (y 0, 30, .inl (upd fh 11 (nI q9))))] [(mo, .inr (11, [.ref to, .ref ke, .ref ik, .ref mrf, .long mab, .long mbl, .ref ha, .ref r0, .ref mbr, .ref mbp, .ref mby, .int (nI bl), .int (nI ta), .int (nI tl), .int (nI tk), .int vv, .ref an, .ref va])), (to, .inl (y 0, 228, .inl ft))] [0] [1, 2] := ⟨rfl, rfl, rfl, rfl, rfl, by decide⟩
            refine kw_go_i hs55 hP hD hS hA (va_runS (As := [.ref ha, .int (nI j91)]) (rest := []) ⟨hx, hb, hml, hown, hts⟩ (gr_getsOne30 l D y ha (upd fh 11 (nI q9)) fi 1 j91 hk13 hk14 hr12 hfi hgl (by omega) _) (va_cwS 2 hts gX11_placesBy_X11_getsOne rfl rfl rfl (by decide +kernel) ⟨Nat.le_of_ble_eq_true rfl, Nat.le_of_ble_eq_true rfl⟩) (kw_PreS hs55 hP hD hK hN) rfl rfl hl.1 rfl (lv_room (Nat.le_of_ble_eq_true rfl)) dX11_placesBy_69 ⟨Nat.le_of_ble_eq_true rfl, Nat.le_of_ble_eq_true rfl⟩) (fun r56 u57 H locs hq hP hD hS => ?_)
            have hP : va_P D vwCl [(mo, .inr (11, [.ref to, .ref ke, .ref ik, .ref mrf, .long mab, .long mbl, .ref ha, .ref r0, .ref mbr, .ref mbp, .ref mby, .int (nI bl), .int (nI ta), .int (nI tl), .int (nI tk), .int vv, .ref an, .ref va])), (to, .inl (y 0, 228, .inl ft)), (ha, .inl (y 0, 30, .inl (upd fh 11 (nI q9))))] H := hP
            have hD : va_D A [(mo, .inr (11, [.ref to, .ref ke, .ref ik, .ref mrf, .long mab, .long mbl, .ref ha, .ref r0, .ref mbr, .ref mbp, .ref mby, .int (nI bl), .int (nI ta), .int (nI tl), .int (nI tk), .int vv, .ref an, .ref va])), (to, .inl (y 0, 228, .inl ft)), (ha, .inl (y 0, 30, .inl (upd fh 11 (nI q9))))] := hD
            refine lv_istore (lv' := [(7, .int r56), (6, .int (nI j91)), (3, .int (nI q18)), (5, .int x34), (4, .int x33), (0, .ref mo), (1, .int (nI k)), (2, .int x)]) hx hb dX11_placesBy_72 hl (by decide) rfl (fun ls hl => ?_)
            refine lv_iload hx hb dX11_placesBy_74 (lv_at hl 4 rfl) ?_
            refine lv_iload hx hb dX11_placesBy_76 (lv_at hl 0 rfl) ?_
            refine lv_iadd hx hb dX11_placesBy_78 ?_
            refine lv_istore (lv' := [(4, .int (x33 + r56)), (7, .int r56), (6, .int (nI j91)), (3, .int (nI q18)), (5, .int x34), (0, .ref mo), (1, .int (nI k)), (2, .int x)]) hx hb dX11_placesBy_79 hl (by decide) rfl (fun ls hl => ?_)
            refine lv_iload hx hb dX11_placesBy_81 (lv_at hl 1 rfl) ?_
            refine lv_iload hx hb dX11_placesBy_83 (lv_at hl 4 rfl) ?_
            refine lv_icmp_ge (tgt := 93) hx hb dX11_placesBy_85 (by decide) (fun h58 => ?_) (fun h59 => ?_)
            · skip
              refine lv_iload hx hb dX11_placesBy_93 (lv_at hl 4 rfl) ?_
              refine lv_istore (lv' := [(5, .int x34), (4, .int (x33 + r56)), (7, .int r56), (6, .int (nI j91)), (3, .int (nI q18)), (0, .ref mo), (1, .int (nI k)), (2, .int x)]) hx hb dX11_placesBy_95 hl (by decide) rfl (fun ls hl => ?_)
              refine lv_iinc (v := (nI (j91 + 1))) (lv' := [(6, .int (nI (j91 + 1))), (5, .int x34), (4, .int (x33 + r56)), (7, .int r56), (3, .int (nI q18)), (0, .ref mo), (1, .int (nI k)), (2, .int x)]) hx hb dX11_placesBy_97 hl (k := 3) rfl (nI_1 j91) (by decide) rfl (fun ls hl => ?_)
              refine lv_goto (tgt := 54) hx hb dX11_placesBy_100 (by decide) ?_
              exact ihj91 (j91 + 1) (x33 + r56) x34 H locs ls (by omega) (by omega)  (hP.sub [2, 0, 1] rfl) (hD.sub [2, 0, 1] (by decide) rfl) hS (lv_sub hl [0, 4, 1, 2, 5, 6, 7] rfl)
            · skip
              refine lv_iload hx hb dX11_placesBy_88 (lv_at hl 1 rfl) ?_
              refine lv_goto (tgt := 95) hx hb dX11_placesBy_90 (by decide) ?_
              refine lv_istore (lv' := [(5, .int r56), (4, .int (x33 + r56)), (7, .int r56), (6, .int (nI j91)), (3, .int (nI q18)), (0, .ref mo), (1, .int (nI k)), (2, .int x)]) hx hb dX11_placesBy_95 hl (by decide) rfl (fun ls hl => ?_)
              refine lv_iinc (v := (nI (j91 + 1))) (lv' := [(6, .int (nI (j91 + 1))), (5, .int r56), (4, .int (x33 + r56)), (7, .int r56), (3, .int (nI q18)), (0, .ref mo), (1, .int (nI k)), (2, .int x)]) hx hb dX11_placesBy_97 hl (k := 3) rfl (nI_1 j91) (by decide) rfl (fun ls hl => ?_)
              refine lv_goto (tgt := 54) hx hb dX11_placesBy_100 (by decide) ?_
              exact ihj91 (j91 + 1) (x33 + r56) r56 H locs ls (by omega) (by omega)  (hP.sub [2, 0, 1] rfl) (hD.sub [2, 0, 1] (by decide) rfl) hS (lv_sub hl [0, 4, 1, 2, 5, 6, 7] rfl)
      exact lp47 (1 + 1) 0 0 1000000 _ _ _ (by omega) (by omega)  hP hD hS (lv_sub hl [0, 1, 2, 3, 4, 5, 6] rfl)
  · skip
    refine lv_aload_n hx hb dX11_placesBy_9 rfl (lv_at hl 3 rfl) ?_
    have hs60 : kw_Split [(mo, .inr (11, [.ref to, .ref ke, .ref ik, .ref mrf, .long mab, .long mbl, .ref ha, .ref r0, .ref mbr, .ref mbp, .ref mby, .int (nI bl), .int (nI ta), .int (nI tl), .int (nI tk), .int vv, .ref an, .ref va])), (to, .inl (y 0, 228, .inl ft)), (ha, .inl (y 0, 30, .inl fh))] [(mo, .inr (11, [.ref to, .ref ke, .ref ik, .ref mrf, .long mab, .long mbl, .ref ha, .ref r0, .ref mbr, .ref mbp, .ref mby, .int (nI bl), .int (nI ta), .int (nI tl), .int (nI tk), .int vv, .ref an, .ref va])), (to, .inl (y 0, 228, .inl ft))] [(ha, .inl (y 0, 30, .inl fh))] [0, 1] [2] := ⟨rfl, rfl, rfl, rfl, rfl, by decide⟩
    refine kw_go_i hs60 hP hD hS hA (va_runV (As := []) (rest := []) ⟨hx, hb, hml, hown, hts⟩ (gr_manyGleaners l D y mo to ke ik mrf ha r0 mbr mbp mby an va mab mbl bl ta tl tk vv ft fi 2 mi no un hk0_ hk1_ hk2_ hk3_ hk4_ hkt hfi hgl hmi hno hun _) (cwV 0 hts gX11_placesBy_X11_manyGleaners rfl rfl rfl (by decide +kernel) ⟨Nat.le_of_ble_eq_true rfl, Nat.le_of_ble_eq_true rfl⟩) (kw_PreV (ci := 11) (q0 := 0) hs60 hP hD hK hN rfl rfl) rfl rfl hl.1 rfl (lv_room (Nat.le_of_ble_eq_true rfl)) dX11_placesBy_10 ⟨Nat.le_of_ble_eq_true rfl, Nat.le_of_ble_eq_true rfl⟩) (fun r61 u62 H locs hq hP hD hS => ?_)
    obtain rfl := hq
    have hP : va_P D vwCl [(ha, .inl (y 0, 30, .inl fh)), (mo, .inr (11, [.ref to, .ref ke, .ref ik, .ref mrf, .long mab, .long mbl, .ref ha, .ref r0, .ref mbr, .ref mbp, .ref mby, .int (nI bl), .int (nI ta), .int (nI tl), .int (nI tk), .int vv, .ref an, .ref va])), (to, .inl (y 0, 228, .inl ft))] H := hP
    have hD : va_D A [(ha, .inl (y 0, 30, .inl fh)), (mo, .inr (11, [.ref to, .ref ke, .ref ik, .ref mrf, .long mab, .long mbl, .ref ha, .ref r0, .ref mbr, .ref mbp, .ref mby, .int (nI bl), .int (nI ta), .int (nI tl), .int (nI tk), .int vv, .ref an, .ref va])), (to, .inl (y 0, 228, .inl ft))] := hD
    refine lv_iconst (v := 1) hx hb dX11_placesBy_13 (by decide) ?_
    refine lv_isub hx hb dX11_placesBy_14 ?_
    rw [show (nI 2) - 1 = nI (1) from pk_sub (a := 2) (b := 1) (by omega)]
    refine lv_istore (lv' := [(6, .int (nI 1)), (5, .int 1000000), (4, .int 0), (3, .int (nI k)), (0, .ref mo), (1, .int (nI k)), (2, .int x)]) hx hb dX11_placesBy_15 hl (by decide) rfl (fun ls hl => ?_)
    refine lv_iload hx hb dX11_placesBy_17 (lv_at hl 0 rfl) ?_
    refine lv_if_lt (tgt := 51) hx hb dX11_placesBy_19 (by decide) (fun h63 => ?_) (fun h64 => ?_)
    · skip
      have h63 : 1 < 0 := (nI_ltI (a := 1) (b := 0) (by omega) (by omega)).mp h63
      exact absurd h63 (by omega)
    · skip
      have h64 : ¬ 1 < 0 := fun q9 => h64 ((nI_ltI (a := 1) (b := 0) (by omega) (by omega)).mpr q9)
      refine lv_aload_n hx hb dX11_placesBy_22 rfl (lv_at hl 4 rfl) ?_
      refine va_get (D := D) (ci := 11) (v := .ref ha) (C := RX11) (T := TX11) (N := 18) hx hb hts iw11 hown hK hP 1 rfl rfl 6 (by decide) fw2 (fun _ h9 => h9) rfl dX11_placesBy_23 ?_
      refine lv_bipush (v := 11) hx hb dX11_placesBy_26 (by decide) ?_
      refine lv_iload hx hb dX11_placesBy_28 (lv_at hl 0 rfl) ?_
      refine lv_iadd hx hb dX11_placesBy_30 ?_
      rw [show 11 + (nI 1) = nI (12) from nI_add 11 1]
      refine lv_iload_n hx hb dX11_placesBy_31 rfl (lv_at hl 3 rfl) ?_
      refine lv_aload_n hx hb dX11_placesBy_32 rfl (lv_at hl 4 rfl) ?_
      have hs65 : kw_Split [(ha, .inl (y 0, 30, .inl fh)), (mo, .inr (11, [.ref to, .ref ke, .ref ik, .ref mrf, .long mab, .long mbl, .ref ha, .ref r0, .ref mbr, .ref mbp, .ref mby, .int (nI bl), .int (nI ta), .int (nI tl), .int (nI tk), .int vv, .ref an, .ref va])), (to, .inl (y 0, 228, .inl ft))] [(mo, .inr (11, [.ref to, .ref ke, .ref ik, .ref mrf, .long mab, .long mbl, .ref ha, .ref r0, .ref mbr, .ref mbp, .ref mby, .int (nI bl), .int (nI ta), .int (nI tl), .int (nI tk), .int vv, .ref an, .ref va])), (to, .inl (y 0, 228, .inl ft))] [(ha, .inl (y 0, 30, .inl fh))] [1, 2] [0] := ⟨rfl, rfl, rfl, rfl, rfl, by decide⟩
      refine kw_go_i hs65 hP hD hS hA (va_runV (As := []) (rest := [.int (nI k), .int (nI 12), .ref ha]) ⟨hx, hb, hml, hown, hts⟩ (gr_many l D y mo to ke ik mrf ha r0 mbr mbp mby an va mab mbl bl ta tl tk vv ft fi 2 mi no un hk0_ hk1_ hk2_ hk3_ hk4_ hkt hfi hgl hmi hno hun _) (cwV 0 hts gX11_placesBy_X11_many rfl rfl rfl (by decide +kernel) ⟨Nat.le_of_ble_eq_true rfl, Nat.le_of_ble_eq_true rfl⟩) (kw_PreV (ci := 11) (q0 := 1) hs65 hP hD hK hN rfl rfl) rfl rfl hl.1 rfl (lv_room (Nat.le_of_ble_eq_true rfl)) dX11_placesBy_33 ⟨Nat.le_of_ble_eq_true rfl, Nat.le_of_ble_eq_true rfl⟩) (fun r66 u67 H locs hq hP hD hS => ?_)
      obtain rfl := hq
      have hP : va_P D vwCl [(ha, .inl (y 0, 30, .inl fh)), (mo, .inr (11, [.ref to, .ref ke, .ref ik, .ref mrf, .long mab, .long mbl, .ref ha, .ref r0, .ref mbr, .ref mbp, .ref mby, .int (nI bl), .int (nI ta), .int (nI tl), .int (nI tk), .int vv, .ref an, .ref va])), (to, .inl (y 0, 228, .inl ft))] H := hP
      have hD : va_D A [(ha, .inl (y 0, 30, .inl fh)), (mo, .inr (11, [.ref to, .ref ke, .ref ik, .ref mrf, .long mab, .long mbl, .ref ha, .ref r0, .ref mbr, .ref mbp, .ref mby, .int (nI bl), .int (nI ta), .int (nI tl), .int (nI tk), .int vv, .ref an, .ref va])), (to, .inl (y 0, 228, .inl ft))] := hD
      refine lv_irem hx hb dX11_placesBy_36 (nI_ne0 (by omega) (by omega)) ?_
      obtain ⟨q68, h69, h70⟩ := kr_rem (a := k) (b := fi) (by omega) (by omega) (by omega)
      rw [h70]
      refine va_iast hx hb hK hP hD hS 0 0 rfl rfl (vp_in_nI (by omega) (by decide)) dX11_placesBy_37 (fun H locs hP hD hS => ?_)
      rw [nI_clamp (n := 12) (by omega)] at hP hD
      have hr71 : kr_t 30 (upd fh 12 (nI q68)) := kr_up hkh (kr_oka (vp_in_nI (by omega) (by decide)) (by unfold kr_s; omega))
      have hk72 : (upd fh 12 (nI q68)) 0 = (nI fi) := (pk_un (by decide)).trans hh0_
      have hk73 : (upd fh 12 (nI q68)) 1 = (nI 2) := (pk_un (by decide)).trans hh1_
      have hP : va_P D vwCl [(ha, .inl (y 0, 30, .inl (upd fh 12 (nI q68)))), (mo, .inr (11, [.ref to, .ref ke, .ref ik, .ref mrf, .long mab, .long mbl, .ref ha, .ref r0, .ref mbr, .ref mbp, .ref mby, .int (nI bl), .int (nI ta), .int (nI tl), .int (nI tk), .int vv, .ref an, .ref va])), (to, .inl (y 0, 228, .inl ft))] H := hP
      have hD : va_D A [(ha, .inl (y 0, 30, .inl (upd fh 12 (nI q68)))), (mo, .inr (11, [.ref to, .ref ke, .ref ik, .ref mrf, .long mab, .long mbl, .ref ha, .ref r0, .ref mbr, .ref mbp, .ref mby, .int (nI bl), .int (nI ta), .int (nI tl), .int (nI tk), .int vv, .ref an, .ref va])), (to, .inl (y 0, 228, .inl ft))] := hD
      refine lv_iload_n hx hb dX11_placesBy_38 rfl (lv_at hl 3 rfl) ?_
      refine lv_aload_n hx hb dX11_placesBy_39 rfl (lv_at hl 4 rfl) ?_
      have hs74 : kw_Split [(ha, .inl (y 0, 30, .inl (upd fh 12 (nI q68)))), (mo, .inr (11, [.ref to, .ref ke, .ref ik, .ref mrf, .long mab, .long mbl, .ref ha, .ref r0, .ref mbr, .ref mbp, .ref mby, .int (nI bl), .int (nI ta), .int (nI tl), .int (nI tk), .int vv, .ref an, .ref va])), (to, .inl (y 0, 228, .inl ft))] [(mo, .inr (11, [.ref to, .ref ke, .ref ik, .ref mrf, .long mab, .long mbl, .ref ha, .ref r0, .ref mbr, .ref mbp, .ref mby, .int (nI bl), .int (nI ta), .int (nI tl), .int (nI tk), .int vv, .ref an, .ref va])), (to, .inl (y 0, 228, .inl ft))] [(ha, .inl (y 0, 30, .inl (upd fh 12 (nI q68))))] [1, 2] [0] := ⟨rfl, rfl, rfl, rfl, rfl, by decide⟩
      refine kw_go_i hs74 hP hD hS hA (va_runV (As := []) (rest := [.int (nI k)]) ⟨hx, hb, hml, hown, hts⟩ (gr_many l D y mo to ke ik mrf ha r0 mbr mbp mby an va mab mbl bl ta tl tk vv ft fi 2 mi no un hk0_ hk1_ hk2_ hk3_ hk4_ hkt hfi hgl hmi hno hun _) (cwV 0 hts gX11_placesBy_X11_many rfl rfl rfl (by decide +kernel) ⟨Nat.le_of_ble_eq_true rfl, Nat.le_of_ble_eq_true rfl⟩) (kw_PreV (ci := 11) (q0 := 1) hs74 hP hD hK hN rfl rfl) rfl rfl hl.1 rfl (lv_room (Nat.le_of_ble_eq_true rfl)) dX11_placesBy_40 ⟨Nat.le_of_ble_eq_true rfl, Nat.le_of_ble_eq_true rfl⟩) (fun r75 u76 H locs hq hP hD hS => ?_)
      obtain rfl := hq
      have hP : va_P D vwCl [(ha, .inl (y 0, 30, .inl (upd fh 12 (nI q68)))), (mo, .inr (11, [.ref to, .ref ke, .ref ik, .ref mrf, .long mab, .long mbl, .ref ha, .ref r0, .ref mbr, .ref mbp, .ref mby, .int (nI bl), .int (nI ta), .int (nI tl), .int (nI tk), .int vv, .ref an, .ref va])), (to, .inl (y 0, 228, .inl ft))] H := hP
      have hD : va_D A [(ha, .inl (y 0, 30, .inl (upd fh 12 (nI q68)))), (mo, .inr (11, [.ref to, .ref ke, .ref ik, .ref mrf, .long mab, .long mbl, .ref ha, .ref r0, .ref mbr, .ref mbp, .ref mby, .int (nI bl), .int (nI ta), .int (nI tl), .int (nI tk), .int vv, .ref an, .ref va])), (to, .inl (y 0, 228, .inl ft))] := hD
      refine lv_idiv hx hb dX11_placesBy_43 (nI_ne0 (by omega) (by omega)) ?_
      obtain ⟨q77, h78, h79⟩ := kr_div (a := k) (b := fi) (by omega) (by omega) (by omega)
      rw [h79]
      refine lv_istore_n (lv' := [(3, .int (nI q77)), (6, .int (nI 1)), (5, .int 1000000), (4, .int 0), (0, .ref mo), (1, .int (nI k)), (2, .int x)]) hx hb dX11_placesBy_44 rfl hl (by decide) rfl (fun ls hl => ?_)
      refine lv_iinc (v := 0) (lv' := [(6, .int 0), (3, .int (nI q77)), (5, .int 1000000), (4, .int 0), (0, .ref mo), (1, .int (nI k)), (2, .int x)]) hx hb dX11_placesBy_45 hl (k := 1) rfl (by decide) (by decide) rfl (fun ls hl => ?_)
      refine lv_goto (tgt := 17) hx hb dX11_placesBy_48 (by decide) ?_
      refine lv_iload hx hb dX11_placesBy_17 (lv_at hl 0 rfl) ?_
      refine lv_if_lt (tgt := 51) hx hb dX11_placesBy_19 (by decide) (fun h9 => absurd h9 (by decide)) (fun _ => ?_)
      refine lv_aload_n hx hb dX11_placesBy_22 rfl (lv_at hl 4 rfl) ?_
      refine va_get (D := D) (ci := 11) (v := .ref ha) (C := RX11) (T := TX11) (N := 18) hx hb hts iw11 hown hK hP 1 rfl rfl 6 (by decide) fw2 (fun _ h9 => h9) rfl dX11_placesBy_23 ?_
      refine lv_bipush (v := 11) hx hb dX11_placesBy_26 (by decide) ?_
      refine lv_iload hx hb dX11_placesBy_28 (lv_at hl 0 rfl) ?_
      refine lv_iadd hx hb dX11_placesBy_30 ?_
      refine lv_topi (fun z80 hz80 => ?_)
      obtain rfl : z80 = 11 := hz80.trans (by decide)
      refine lv_iload_n hx hb dX11_placesBy_31 rfl (lv_at hl 1 rfl) ?_
      refine lv_aload_n hx hb dX11_placesBy_32 rfl (lv_at hl 4 rfl) ?_
      have hs81 : kw_Split [(ha, .inl (y 0, 30, .inl (upd fh 12 (nI q68)))), (mo, .inr (11, [.ref to, .ref ke, .ref ik, .ref mrf, .long mab, .long mbl, .ref ha, .ref r0, .ref mbr, .ref mbp, .ref mby, .int (nI bl), .int (nI ta), .int (nI tl), .int (nI tk), .int vv, .ref an, .ref va])), (to, .inl (y 0, 228, .inl ft))] [(mo, .inr (11, [.ref to, .ref ke, .ref ik, .ref mrf, .long mab, .long mbl, .ref ha, .ref r0, .ref mbr, .ref mbp, .ref mby, .int (nI bl), .int (nI ta), .int (nI tl), .int (nI tk), .int vv, .ref an, .ref va])), (to, .inl (y 0, 228, .inl ft))] [(ha, .inl (y 0, 30, .inl (upd fh 12 (nI q68))))] [1, 2] [0] := ⟨rfl, rfl, rfl, rfl, rfl, by decide⟩
      refine kw_go_i hs81 hP hD hS hA (va_runV (As := []) (rest := [.int (nI q77), .int 11, .ref ha]) ⟨hx, hb, hml, hown, hts⟩ (gr_many l D y mo to ke ik mrf ha r0 mbr mbp mby an va mab mbl bl ta tl tk vv ft fi 2 mi no un hk0_ hk1_ hk2_ hk3_ hk4_ hkt hfi hgl hmi hno hun _) (cwV 0 hts gX11_placesBy_X11_many rfl rfl rfl (by decide +kernel) ⟨Nat.le_of_ble_eq_true rfl, Nat.le_of_ble_eq_true rfl⟩) (kw_PreV (ci := 11) (q0 := 1) hs81 hP hD hK hN rfl rfl) rfl rfl hl.1 rfl (lv_room (Nat.le_of_ble_eq_true rfl)) dX11_placesBy_33 ⟨Nat.le_of_ble_eq_true rfl, Nat.le_of_ble_eq_true rfl⟩) (fun r82 u83 H locs hq hP hD hS => ?_)
      obtain rfl := hq
      have hP : va_P D vwCl [(ha, .inl (y 0, 30, .inl (upd fh 12 (nI q68)))), (mo, .inr (11, [.ref to, .ref ke, .ref ik, .ref mrf, .long mab, .long mbl, .ref ha, .ref r0, .ref mbr, .ref mbp, .ref mby, .int (nI bl), .int (nI ta), .int (nI tl), .int (nI tk), .int vv, .ref an, .ref va])), (to, .inl (y 0, 228, .inl ft))] H := hP
      have hD : va_D A [(ha, .inl (y 0, 30, .inl (upd fh 12 (nI q68)))), (mo, .inr (11, [.ref to, .ref ke, .ref ik, .ref mrf, .long mab, .long mbl, .ref ha, .ref r0, .ref mbr, .ref mbp, .ref mby, .int (nI bl), .int (nI ta), .int (nI tl), .int (nI tk), .int vv, .ref an, .ref va])), (to, .inl (y 0, 228, .inl ft))] := hD
      refine lv_irem hx hb dX11_placesBy_36 (nI_ne0 (by omega) (by omega)) ?_
      obtain ⟨q84, h85, h86⟩ := kr_rem (a := q77) (b := fi) (by omega) (by omega) (by omega)
      rw [h86]
      refine va_iast hx hb hK hP hD hS 0 0 rfl rfl (by unfold vp_in; decide) dX11_placesBy_37 (fun H locs hP hD hS => ?_)
      rw [show ((11 : Int32)).toNatClampNeg = 11 from rfl] at hP hD
      have hr87 : kr_t 30 (upd (upd fh 12 (nI q68)) 11 (nI q84)) := kr_up hr71 (kr_oka (vp_in_nI (by omega) (by decide)) (by unfold kr_s; omega))
      have hk88 : (upd (upd fh 12 (nI q68)) 11 (nI q84)) 0 = (nI fi) := (pk_un (by decide)).trans hk72
      have hk89 : (upd (upd fh 12 (nI q68)) 11 (nI q84)) 1 = (nI 2) := (pk_un (by decide)).trans hk73
      have hP : va_P D vwCl [(ha, .inl (y 0, 30, .inl (upd (upd fh 12 (nI q68)) 11 (nI q84)))), (mo, .inr (11, [.ref to, .ref ke, .ref ik, .ref mrf, .long mab, .long mbl, .ref ha, .ref r0, .ref mbr, .ref mbp, .ref mby, .int (nI bl), .int (nI ta), .int (nI tl), .int (nI tk), .int vv, .ref an, .ref va])), (to, .inl (y 0, 228, .inl ft))] H := hP
      have hD : va_D A [(ha, .inl (y 0, 30, .inl (upd (upd fh 12 (nI q68)) 11 (nI q84)))), (mo, .inr (11, [.ref to, .ref ke, .ref ik, .ref mrf, .long mab, .long mbl, .ref ha, .ref r0, .ref mbr, .ref mbp, .ref mby, .int (nI bl), .int (nI ta), .int (nI tl), .int (nI tk), .int vv, .ref an, .ref va])), (to, .inl (y 0, 228, .inl ft))] := hD
      refine lv_iload_n hx hb dX11_placesBy_38 rfl (lv_at hl 1 rfl) ?_
      refine lv_aload_n hx hb dX11_placesBy_39 rfl (lv_at hl 4 rfl) ?_
      have hs90 : kw_Split [(ha, .inl (y 0, 30, .inl (upd (upd fh 12 (nI q68)) 11 (nI q84)))), (mo, .inr (11, [.ref to, .ref ke, .ref ik, .ref mrf, .long mab, .long mbl, .ref ha, .ref r0, .ref mbr, .ref mbp, .ref mby, .int (nI bl), .int (nI ta), .int (nI tl), .int (nI tk), .int vv, .ref an, .ref va])), (to, .inl (y 0, 228, .inl ft))] [(mo, .inr (11, [.ref to, .ref ke, .ref ik, .ref mrf, .long mab, .long mbl, .ref ha, .ref r0, .ref mbr, .ref mbp, .ref mby, .int (nI bl), .int (nI ta), .int (nI tl), .int (nI tk), .int vv, .ref an, .ref va])), (to, .inl (y 0, 228, .inl ft))] [(ha, .inl (y 0, 30, .inl (upd (upd fh 12 (nI q68)) 11 (nI q84))))] [1, 2] [0] := ⟨rfl, rfl, rfl, rfl, rfl, by decide⟩
      refine kw_go_i hs90 hP hD hS hA (va_runV (As := []) (rest := [.int (nI q77)]) ⟨hx, hb, hml, hown, hts⟩ (gr_many l D y mo to ke ik mrf ha r0 mbr mbp mby an va mab mbl bl ta tl tk vv ft fi 2 mi no un hk0_ hk1_ hk2_ hk3_ hk4_ hkt hfi hgl hmi hno hun _) (cwV 0 hts gX11_placesBy_X11_many rfl rfl rfl (by decide +kernel) ⟨Nat.le_of_ble_eq_true rfl, Nat.le_of_ble_eq_true rfl⟩) (kw_PreV (ci := 11) (q0 := 1) hs90 hP hD hK hN rfl rfl) rfl rfl hl.1 rfl (lv_room (Nat.le_of_ble_eq_true rfl)) dX11_placesBy_40 ⟨Nat.le_of_ble_eq_true rfl, Nat.le_of_ble_eq_true rfl⟩) (fun r91 u92 H locs hq hP hD hS => ?_)
      obtain rfl := hq
      have hP : va_P D vwCl [(ha, .inl (y 0, 30, .inl (upd (upd fh 12 (nI q68)) 11 (nI q84)))), (mo, .inr (11, [.ref to, .ref ke, .ref ik, .ref mrf, .long mab, .long mbl, .ref ha, .ref r0, .ref mbr, .ref mbp, .ref mby, .int (nI bl), .int (nI ta), .int (nI tl), .int (nI tk), .int vv, .ref an, .ref va])), (to, .inl (y 0, 228, .inl ft))] H := hP
      have hD : va_D A [(ha, .inl (y 0, 30, .inl (upd (upd fh 12 (nI q68)) 11 (nI q84)))), (mo, .inr (11, [.ref to, .ref ke, .ref ik, .ref mrf, .long mab, .long mbl, .ref ha, .ref r0, .ref mbr, .ref mbp, .ref mby, .int (nI bl), .int (nI ta), .int (nI tl), .int (nI tk), .int vv, .ref an, .ref va])), (to, .inl (y 0, 228, .inl ft))] := hD
      refine lv_idiv hx hb dX11_placesBy_43 (nI_ne0 (by omega) (by omega)) ?_
      obtain ⟨q93, h94, h95⟩ := kr_div (a := q77) (b := fi) (by omega) (by omega) (by omega)
      rw [h95]
      refine lv_istore_n (lv' := [(3, .int (nI q93)), (6, .int 0), (5, .int 1000000), (4, .int 0), (0, .ref mo), (1, .int (nI k)), (2, .int x)]) hx hb dX11_placesBy_44 rfl hl (by decide) rfl (fun ls hl => ?_)
      refine lv_iinc (v := (-1)) (lv' := [(6, .int (-1)), (3, .int (nI q93)), (5, .int 1000000), (4, .int 0), (0, .ref mo), (1, .int (nI k)), (2, .int x)]) hx hb dX11_placesBy_45 hl (k := 1) rfl (by decide) (by decide) rfl (fun ls hl => ?_)
      refine lv_goto (tgt := 17) hx hb dX11_placesBy_48 (by decide) ?_
      refine lv_iload hx hb dX11_placesBy_17 (lv_at hl 0 rfl) ?_
      refine lv_if_lt (tgt := 51) hx hb dX11_placesBy_19 (by decide) (fun _ => ?_) (fun h9 => absurd h9 (by decide))
      refine lv_iconst (v := 0) hx hb dX11_placesBy_51 (by decide) ?_
      refine lv_istore (lv' := [(6, .int 0), (3, .int (nI q93)), (5, .int 1000000), (4, .int 0), (0, .ref mo), (1, .int (nI k)), (2, .int x)]) hx hb dX11_placesBy_52 hl (by decide) rfl (fun ls hl => ?_)
      have lp122 : ∀ (fuj91 j91 : Nat) (x108 : Int32) (x109 : Int32) (H : Heap) (locs : List Loc) (ls : Array Slot), j91 ≤ 2 → 2 - j91 < fuj91 → va_P D vwCl [(ha, .inl (y 0, 30, .inl (upd (upd fh 12 (nI q68)) 11 (nI q84)))), (mo, .inr (11, [.ref to, .ref ke, .ref ik, .ref mrf, .long mab, .long mbl, .ref ha, .ref r0, .ref mbr, .ref mbp, .ref mby, .int (nI bl), .int (nI ta), .int (nI tl), .int (nI tk), .int vv, .ref an, .ref va])), (to, .inl (y 0, 228, .inl ft))] H → va_D A [(ha, .inl (y 0, 30, .inl (upd (upd fh 12 (nI q68)) 11 (nI q84)))), (mo, .inr (11, [.ref to, .ref ke, .ref ik, .ref mrf, .long mab, .long mbl, .ref ha, .ref r0, .ref mbr, .ref mbp, .ref mby, .int (nI bl), .int (nI ta), .int (nI tl), .int (nI tk), .int vv, .ref an, .ref va])), (to, .inl (y 0, 228, .inl ft))] → va_S A s.heap H locs → lv_has ls 8 [(6, .int (nI j91)), (3, .int (nI q93)), (5, .int x109), (4, .int x108), (0, .ref mo), (1, .int (nI k)), (2, .int x)] → W pZ l eZ ({ frames := 6, cells := 0, slots := 0, locals := 172 }) s mZ [.ref mo, .int (nI k), .int x].toArray beZ meZ cZ H locs 0 0 (MQ beZ (va_Qi (fun (r : Int32) (u : (Nat → Int32)) => kr_t 30 u ∧ u 0 = (nI fi) ∧ u 1 = (nI 2)) (kw_B D (fun u => [(mo, .inr (11, [.ref to, .ref ke, .ref ik, .ref mrf, .long mab, .long mbl, .ref ha, .ref r0, .ref mbr, .ref mbp, .ref mby, .int (nI bl), .int (nI ta), .int (nI tl), .int (nI tk), .int vv, .ref an, .ref va])), (to, .inl (y 0, 228, .inl ft)), (ha, .inl (y 0, 30, .inl u))]) A) A) [.ref mo, .int (nI k), .int x].toArray s 0 0 A) (F0 mZ 54 ls []) := by
        intro fuj91
        induction fuj91 with
        | zero => intro j91 x108 x109 H locs ls hj9 hf9; exact absurd hf9 (Nat.not_lt_zero _)
        | succ fuj91 ihj91 =>
          intro j91 x108 x109 H locs ls hj91 hfj91  hP hD hS hl
          refine lv_iload hx hb dX11_placesBy_54 (lv_at hl 0 rfl) ?_
          refine lv_aload_n hx hb dX11_placesBy_56 rfl (lv_at hl 4 rfl) ?_
          have hs123 : kw_Split [(ha, .inl (y 0, 30, .inl (upd (upd fh 12 (nI q68)) 11 (nI q84)))), (mo, .inr (11, [.ref to, .ref ke, .ref ik, .ref mrf, .long mab, .long mbl, .ref ha, .ref r0, .ref mbr, .ref mbp, .ref mby, .int (nI bl), .int (nI ta), .int (nI tl), .int (nI tk), .int vv, .ref an, .ref va])), (to, .inl (y 0, 228, .inl ft))] [(mo, .inr (11, [.ref to, .ref ke, .ref ik, .ref mrf, .long mab, .long mbl, .ref ha, .ref r0, .ref mbr, .ref mbp, .ref mby, .int (nI bl), .int (nI ta), .int (nI tl), .int (nI tk), .int vv, .ref an, .ref va])), (to, .inl (y 0, 228, .inl ft))] [(ha, .inl (y 0, 30, .inl (upd (upd fh 12 (nI q68)) 11 (nI q84))))] [1, 2] [0] := ⟨rfl, rfl, rfl, rfl, rfl, by decide⟩
          refine kw_go_i hs123 hP hD hS hA (va_runV (As := []) (rest := [.int (nI j91)]) ⟨hx, hb, hml, hown, hts⟩ (gr_manyGleaners l D y mo to ke ik mrf ha r0 mbr mbp mby an va mab mbl bl ta tl tk vv ft fi 2 mi no un hk0_ hk1_ hk2_ hk3_ hk4_ hkt hfi hgl hmi hno hun _) (cwV 0 hts gX11_placesBy_X11_manyGleaners rfl rfl rfl (by decide +kernel) ⟨Nat.le_of_ble_eq_true rfl, Nat.le_of_ble_eq_true rfl⟩) (kw_PreV (ci := 11) (q0 := 1) hs123 hP hD hK hN rfl rfl) rfl rfl hl.1 rfl (lv_room (Nat.le_of_ble_eq_true rfl)) dX11_placesBy_57 ⟨Nat.le_of_ble_eq_true rfl, Nat.le_of_ble_eq_true rfl⟩) (fun r124 u125 H locs hq hP hD hS => ?_)
          obtain rfl := hq
          have hP : va_P D vwCl [(ha, .inl (y 0, 30, .inl (upd (upd fh 12 (nI q68)) 11 (nI q84)))), (mo, .inr (11, [.ref to, .ref ke, .ref ik, .ref mrf, .long mab, .long mbl, .ref ha, .ref r0, .ref mbr, .ref mbp, .ref mby, .int (nI bl), .int (nI ta), .int (nI tl), .int (nI tk), .int vv, .ref an, .ref va])), (to, .inl (y 0, 228, .inl ft))] H := hP
          have hD : va_D A [(ha, .inl (y 0, 30, .inl (upd (upd fh 12 (nI q68)) 11 (nI q84)))), (mo, .inr (11, [.ref to, .ref ke, .ref ik, .ref mrf, .long mab, .long mbl, .ref ha, .ref r0, .ref mbr, .ref mbp, .ref mby, .int (nI bl), .int (nI ta), .int (nI tl), .int (nI tk), .int vv, .ref an, .ref va])), (to, .inl (y 0, 228, .inl ft))] := hD
          refine lv_icmp_ge (tgt := 103) hx hb dX11_placesBy_60 (by decide) (fun h126 => ?_) (fun h127 => ?_)
          · skip
            have h126 : 2 ≤ j91 := (nI_leI (a := 2) (b := j91) (by omega) (by omega)).mp h126
            refine lv_iload_n hx hb dX11_placesBy_103 rfl (lv_at hl 6 rfl) ?_
            refine lv_if_ne (tgt := 112) hx hb dX11_placesBy_104 (by decide) (fun h128 => ?_) (fun h129 => ?_)
            · skip
              refine lv_iload hx hb dX11_placesBy_112 (lv_at hl 2 rfl) ?_
              exact W.iret (v := x109) hx hb hr (fun tZ ht hW => ⟨⟨x109, ((upd (upd fh 12 (nI q68)) 11 (nI q84))), rfl, ⟨hr87, hk88, hk89⟩, by rw [ht]; exact hP.sub [1, 2, 0] rfl, hD.sub [1, 2, 0] (by decide) rfl⟩, hS.F ht⟩) hS.2.2 dX11_placesBy_114
            · skip
              refine lv_iload hx hb dX11_placesBy_107 (lv_at hl 3 rfl) ?_
              refine lv_goto (tgt := 114) hx hb dX11_placesBy_109 (by decide) ?_
              exact W.iret (v := x108) hx hb hr (fun tZ ht hW => ⟨⟨x108, ((upd (upd fh 12 (nI q68)) 11 (nI q84))), rfl, ⟨hr87, hk88, hk89⟩, by rw [ht]; exact hP.sub [1, 2, 0] rfl, hD.sub [1, 2, 0] (by decide) rfl⟩, hS.F ht⟩) hS.2.2 dX11_placesBy_114
          · skip
            have h127 : ¬ 2 ≤ j91 := fun q9 => h127 ((nI_leI (a := 2) (b := j91) (by omega) (by omega)).mpr q9)
            refine lv_aload_n hx hb dX11_placesBy_63 rfl (lv_at hl 4 rfl) ?_
            refine va_get (D := D) (ci := 11) (v := .ref ha) (C := RX11) (T := TX11) (N := 18) hx hb hts iw11 hown hK hP 1 rfl rfl 6 (by decide) fw2 (fun _ h9 => h9) rfl dX11_placesBy_64 ?_
            refine lv_iload hx hb dX11_placesBy_67 (lv_at hl 0 rfl) ?_
            have hs130 : kw_Split [(ha, .inl (y 0, 30, .inl (upd (upd fh 12 (nI q68)) 11 (nI q84)))), (mo, .inr (11, [.ref to, .ref ke, .ref ik, .ref mrf, .long mab, .long mbl, .ref ha, .ref r0, .ref mbr, .ref mbp, .ref mby, .int (nI bl), .int (nI ta), .int (nI tl), .int (nI tk), .int vv, .ref an, .ref va])), (to, .inl (y 0, 228, .inl ft))] [(ha, .inl (y 0, 30, .inl (upd (upd fh 12 (nI q68)) 11 (nI q84))))] [(mo, .inr (11, [.ref to, .ref ke, .ref ik, .ref mrf, .long mab, .long mbl, .ref ha, .ref r0, .ref mbr, .ref mbp, .ref mby, .int (nI bl), .int (nI ta), .int (nI tl), .int (nI tk), .int vv, .ref an, .ref va])), (to, .inl (y 0, 228, .inl ft))] [0] [1, 2] := ⟨rfl, rfl, rfl, rfl, rfl, by decide⟩
            refine kw_go_i hs130 hP hD hS hA (va_runS (As := [.ref ha, .int (nI j91)]) (rest := []) ⟨hx, hb, hml, hown, hts⟩ (gr_getsOne30 l D y ha (upd (upd fh 12 (nI q68)) 11 (nI q84)) fi 2 j91 hk88 hk89 hr87 hfi hgl (by omega) _) (va_cwS 2 hts gX11_placesBy_X11_getsOne rfl rfl rfl (by decide +kernel) ⟨Nat.le_of_ble_eq_true rfl, Nat.le_of_ble_eq_true rfl⟩) (kw_PreS hs130 hP hD hK hN) rfl rfl hl.1 rfl (lv_room (Nat.le_of_ble_eq_true rfl)) dX11_placesBy_69 ⟨Nat.le_of_ble_eq_true rfl, Nat.le_of_ble_eq_true rfl⟩) (fun r131 u132 H locs hq hP hD hS => ?_)
            have hP : va_P D vwCl [(mo, .inr (11, [.ref to, .ref ke, .ref ik, .ref mrf, .long mab, .long mbl, .ref ha, .ref r0, .ref mbr, .ref mbp, .ref mby, .int (nI bl), .int (nI ta), .int (nI tl), .int (nI tk), .int vv, .ref an, .ref va])), (to, .inl (y 0, 228, .inl ft)), (ha, .inl (y 0, 30, .inl (upd (upd fh 12 (nI q68)) 11 (nI q84))))] H := hP
            have hD : va_D A [(mo, .inr (11, [.ref to, .ref ke, .ref ik, .ref mrf, .long mab, .long mbl, .ref ha, .ref r0, .ref mbr, .ref mbp, .ref mby, .int (nI bl), .int (nI ta), .int (nI tl), .int (nI tk), .int vv, .ref an, .ref va])), (to, .inl (y 0, 228, .inl ft)), (ha, .inl (y 0, 30, .inl (upd (upd fh 12 (nI q68)) 11 (nI q84))))] := hD
            refine lv_istore (lv' := [(7, .int r131), (6, .int (nI j91)), (3, .int (nI q93)), (5, .int x109), (4, .int x108), (0, .ref mo), (1, .int (nI k)), (2, .int x)]) hx hb dX11_placesBy_72 hl (by decide) rfl (fun ls hl => ?_)
            refine lv_iload hx hb dX11_placesBy_74 (lv_at hl 4 rfl) ?_
            refine lv_iload hx hb dX11_placesBy_76 (lv_at hl 0 rfl) ?_
            refine lv_iadd hx hb dX11_placesBy_78 ?_
            refine lv_istore (lv' := [(4, .int (x108 + r131)), (7, .int r131), (6, .int (nI j91)), (3, .int (nI q93)), (5, .int x109), (0, .ref mo), (1, .int (nI k)), (2, .int x)]) hx hb dX11_placesBy_79 hl (by decide) rfl (fun ls hl => ?_)
            refine lv_iload hx hb dX11_placesBy_81 (lv_at hl 1 rfl) ?_
            refine lv_iload hx hb dX11_placesBy_83 (lv_at hl 4 rfl) ?_
            refine lv_icmp_ge (tgt := 93) hx hb dX11_placesBy_85 (by decide) (fun h133 => ?_) (fun h134 => ?_)
            · skip
              refine lv_iload hx hb dX11_placesBy_93 (lv_at hl 4 rfl) ?_
              refine lv_istore (lv' := [(5, .int x109), (4, .int (x108 + r131)), (7, .int r131), (6, .int (nI j91)), (3, .int (nI q93)), (0, .ref mo), (1, .int (nI k)), (2, .int x)]) hx hb dX11_placesBy_95 hl (by decide) rfl (fun ls hl => ?_)
              refine lv_iinc (v := (nI (j91 + 1))) (lv' := [(6, .int (nI (j91 + 1))), (5, .int x109), (4, .int (x108 + r131)), (7, .int r131), (3, .int (nI q93)), (0, .ref mo), (1, .int (nI k)), (2, .int x)]) hx hb dX11_placesBy_97 hl (k := 3) rfl (nI_1 j91) (by decide) rfl (fun ls hl => ?_)
              refine lv_goto (tgt := 54) hx hb dX11_placesBy_100 (by decide) ?_
              exact ihj91 (j91 + 1) (x108 + r131) x109 H locs ls (by omega) (by omega)  (hP.sub [2, 0, 1] rfl) (hD.sub [2, 0, 1] (by decide) rfl) hS (lv_sub hl [0, 4, 1, 2, 5, 6, 7] rfl)
            · skip
              refine lv_iload hx hb dX11_placesBy_88 (lv_at hl 1 rfl) ?_
              refine lv_goto (tgt := 95) hx hb dX11_placesBy_90 (by decide) ?_
              refine lv_istore (lv' := [(5, .int r131), (4, .int (x108 + r131)), (7, .int r131), (6, .int (nI j91)), (3, .int (nI q93)), (0, .ref mo), (1, .int (nI k)), (2, .int x)]) hx hb dX11_placesBy_95 hl (by decide) rfl (fun ls hl => ?_)
              refine lv_iinc (v := (nI (j91 + 1))) (lv' := [(6, .int (nI (j91 + 1))), (5, .int r131), (4, .int (x108 + r131)), (7, .int r131), (3, .int (nI q93)), (0, .ref mo), (1, .int (nI k)), (2, .int x)]) hx hb dX11_placesBy_97 hl (k := 3) rfl (nI_1 j91) (by decide) rfl (fun ls hl => ?_)
              refine lv_goto (tgt := 54) hx hb dX11_placesBy_100 (by decide) ?_
              exact ihj91 (j91 + 1) (x108 + r131) r131 H locs ls (by omega) (by omega)  (hP.sub [2, 0, 1] rfl) (hD.sub [2, 0, 1] (by decide) rfl) hS (lv_sub hl [0, 4, 1, 2, 5, 6, 7] rfl)
      exact lp122 (2 + 1) 0 0 1000000 _ _ _ (by omega) (by omega)  hP hD hS (lv_sub hl [0, 1, 2, 3, 4, 5, 6] rfl)
  · skip
    refine lv_aload_n hx hb dX11_placesBy_9 rfl (lv_at hl 3 rfl) ?_
    have hs135 : kw_Split [(mo, .inr (11, [.ref to, .ref ke, .ref ik, .ref mrf, .long mab, .long mbl, .ref ha, .ref r0, .ref mbr, .ref mbp, .ref mby, .int (nI bl), .int (nI ta), .int (nI tl), .int (nI tk), .int vv, .ref an, .ref va])), (to, .inl (y 0, 228, .inl ft)), (ha, .inl (y 0, 30, .inl fh))] [(mo, .inr (11, [.ref to, .ref ke, .ref ik, .ref mrf, .long mab, .long mbl, .ref ha, .ref r0, .ref mbr, .ref mbp, .ref mby, .int (nI bl), .int (nI ta), .int (nI tl), .int (nI tk), .int vv, .ref an, .ref va])), (to, .inl (y 0, 228, .inl ft))] [(ha, .inl (y 0, 30, .inl fh))] [0, 1] [2] := ⟨rfl, rfl, rfl, rfl, rfl, by decide⟩
    refine kw_go_i hs135 hP hD hS hA (va_runV (As := []) (rest := []) ⟨hx, hb, hml, hown, hts⟩ (gr_manyGleaners l D y mo to ke ik mrf ha r0 mbr mbp mby an va mab mbl bl ta tl tk vv ft fi 3 mi no un hk0_ hk1_ hk2_ hk3_ hk4_ hkt hfi hgl hmi hno hun _) (cwV 0 hts gX11_placesBy_X11_manyGleaners rfl rfl rfl (by decide +kernel) ⟨Nat.le_of_ble_eq_true rfl, Nat.le_of_ble_eq_true rfl⟩) (kw_PreV (ci := 11) (q0 := 0) hs135 hP hD hK hN rfl rfl) rfl rfl hl.1 rfl (lv_room (Nat.le_of_ble_eq_true rfl)) dX11_placesBy_10 ⟨Nat.le_of_ble_eq_true rfl, Nat.le_of_ble_eq_true rfl⟩) (fun r136 u137 H locs hq hP hD hS => ?_)
    obtain rfl := hq
    have hP : va_P D vwCl [(ha, .inl (y 0, 30, .inl fh)), (mo, .inr (11, [.ref to, .ref ke, .ref ik, .ref mrf, .long mab, .long mbl, .ref ha, .ref r0, .ref mbr, .ref mbp, .ref mby, .int (nI bl), .int (nI ta), .int (nI tl), .int (nI tk), .int vv, .ref an, .ref va])), (to, .inl (y 0, 228, .inl ft))] H := hP
    have hD : va_D A [(ha, .inl (y 0, 30, .inl fh)), (mo, .inr (11, [.ref to, .ref ke, .ref ik, .ref mrf, .long mab, .long mbl, .ref ha, .ref r0, .ref mbr, .ref mbp, .ref mby, .int (nI bl), .int (nI ta), .int (nI tl), .int (nI tk), .int vv, .ref an, .ref va])), (to, .inl (y 0, 228, .inl ft))] := hD
    refine lv_iconst (v := 1) hx hb dX11_placesBy_13 (by decide) ?_
    refine lv_isub hx hb dX11_placesBy_14 ?_
    rw [show (nI 3) - 1 = nI (2) from pk_sub (a := 3) (b := 1) (by omega)]
    refine lv_istore (lv' := [(6, .int (nI 2)), (5, .int 1000000), (4, .int 0), (3, .int (nI k)), (0, .ref mo), (1, .int (nI k)), (2, .int x)]) hx hb dX11_placesBy_15 hl (by decide) rfl (fun ls hl => ?_)
    refine lv_iload hx hb dX11_placesBy_17 (lv_at hl 0 rfl) ?_
    refine lv_if_lt (tgt := 51) hx hb dX11_placesBy_19 (by decide) (fun h138 => ?_) (fun h139 => ?_)
    · skip
      have h138 : 2 < 0 := (nI_ltI (a := 2) (b := 0) (by omega) (by omega)).mp h138
      exact absurd h138 (by omega)
    · skip
      have h139 : ¬ 2 < 0 := fun q9 => h139 ((nI_ltI (a := 2) (b := 0) (by omega) (by omega)).mpr q9)
      refine lv_aload_n hx hb dX11_placesBy_22 rfl (lv_at hl 4 rfl) ?_
      refine va_get (D := D) (ci := 11) (v := .ref ha) (C := RX11) (T := TX11) (N := 18) hx hb hts iw11 hown hK hP 1 rfl rfl 6 (by decide) fw2 (fun _ h9 => h9) rfl dX11_placesBy_23 ?_
      refine lv_bipush (v := 11) hx hb dX11_placesBy_26 (by decide) ?_
      refine lv_iload hx hb dX11_placesBy_28 (lv_at hl 0 rfl) ?_
      refine lv_iadd hx hb dX11_placesBy_30 ?_
      rw [show 11 + (nI 2) = nI (13) from nI_add 11 2]
      refine lv_iload_n hx hb dX11_placesBy_31 rfl (lv_at hl 3 rfl) ?_
      refine lv_aload_n hx hb dX11_placesBy_32 rfl (lv_at hl 4 rfl) ?_
      have hs140 : kw_Split [(ha, .inl (y 0, 30, .inl fh)), (mo, .inr (11, [.ref to, .ref ke, .ref ik, .ref mrf, .long mab, .long mbl, .ref ha, .ref r0, .ref mbr, .ref mbp, .ref mby, .int (nI bl), .int (nI ta), .int (nI tl), .int (nI tk), .int vv, .ref an, .ref va])), (to, .inl (y 0, 228, .inl ft))] [(mo, .inr (11, [.ref to, .ref ke, .ref ik, .ref mrf, .long mab, .long mbl, .ref ha, .ref r0, .ref mbr, .ref mbp, .ref mby, .int (nI bl), .int (nI ta), .int (nI tl), .int (nI tk), .int vv, .ref an, .ref va])), (to, .inl (y 0, 228, .inl ft))] [(ha, .inl (y 0, 30, .inl fh))] [1, 2] [0] := ⟨rfl, rfl, rfl, rfl, rfl, by decide⟩
      refine kw_go_i hs140 hP hD hS hA (va_runV (As := []) (rest := [.int (nI k), .int (nI 13), .ref ha]) ⟨hx, hb, hml, hown, hts⟩ (gr_many l D y mo to ke ik mrf ha r0 mbr mbp mby an va mab mbl bl ta tl tk vv ft fi 3 mi no un hk0_ hk1_ hk2_ hk3_ hk4_ hkt hfi hgl hmi hno hun _) (cwV 0 hts gX11_placesBy_X11_many rfl rfl rfl (by decide +kernel) ⟨Nat.le_of_ble_eq_true rfl, Nat.le_of_ble_eq_true rfl⟩) (kw_PreV (ci := 11) (q0 := 1) hs140 hP hD hK hN rfl rfl) rfl rfl hl.1 rfl (lv_room (Nat.le_of_ble_eq_true rfl)) dX11_placesBy_33 ⟨Nat.le_of_ble_eq_true rfl, Nat.le_of_ble_eq_true rfl⟩) (fun r141 u142 H locs hq hP hD hS => ?_)
      obtain rfl := hq
      have hP : va_P D vwCl [(ha, .inl (y 0, 30, .inl fh)), (mo, .inr (11, [.ref to, .ref ke, .ref ik, .ref mrf, .long mab, .long mbl, .ref ha, .ref r0, .ref mbr, .ref mbp, .ref mby, .int (nI bl), .int (nI ta), .int (nI tl), .int (nI tk), .int vv, .ref an, .ref va])), (to, .inl (y 0, 228, .inl ft))] H := hP
      have hD : va_D A [(ha, .inl (y 0, 30, .inl fh)), (mo, .inr (11, [.ref to, .ref ke, .ref ik, .ref mrf, .long mab, .long mbl, .ref ha, .ref r0, .ref mbr, .ref mbp, .ref mby, .int (nI bl), .int (nI ta), .int (nI tl), .int (nI tk), .int vv, .ref an, .ref va])), (to, .inl (y 0, 228, .inl ft))] := hD
      refine lv_irem hx hb dX11_placesBy_36 (nI_ne0 (by omega) (by omega)) ?_
      obtain ⟨q143, h144, h145⟩ := kr_rem (a := k) (b := fi) (by omega) (by omega) (by omega)
      rw [h145]
      refine va_iast hx hb hK hP hD hS 0 0 rfl rfl (vp_in_nI (by omega) (by decide)) dX11_placesBy_37 (fun H locs hP hD hS => ?_)
      rw [nI_clamp (n := 13) (by omega)] at hP hD
      have hr146 : kr_t 30 (upd fh 13 (nI q143)) := kr_up hkh (kr_oka (vp_in_nI (by omega) (by decide)) (by unfold kr_s; omega))
      have hk147 : (upd fh 13 (nI q143)) 0 = (nI fi) := (pk_un (by decide)).trans hh0_
      have hk148 : (upd fh 13 (nI q143)) 1 = (nI 3) := (pk_un (by decide)).trans hh1_
      have hP : va_P D vwCl [(ha, .inl (y 0, 30, .inl (upd fh 13 (nI q143)))), (mo, .inr (11, [.ref to, .ref ke, .ref ik, .ref mrf, .long mab, .long mbl, .ref ha, .ref r0, .ref mbr, .ref mbp, .ref mby, .int (nI bl), .int (nI ta), .int (nI tl), .int (nI tk), .int vv, .ref an, .ref va])), (to, .inl (y 0, 228, .inl ft))] H := hP
      have hD : va_D A [(ha, .inl (y 0, 30, .inl (upd fh 13 (nI q143)))), (mo, .inr (11, [.ref to, .ref ke, .ref ik, .ref mrf, .long mab, .long mbl, .ref ha, .ref r0, .ref mbr, .ref mbp, .ref mby, .int (nI bl), .int (nI ta), .int (nI tl), .int (nI tk), .int vv, .ref an, .ref va])), (to, .inl (y 0, 228, .inl ft))] := hD
      refine lv_iload_n hx hb dX11_placesBy_38 rfl (lv_at hl 3 rfl) ?_
      refine lv_aload_n hx hb dX11_placesBy_39 rfl (lv_at hl 4 rfl) ?_
      have hs149 : kw_Split [(ha, .inl (y 0, 30, .inl (upd fh 13 (nI q143)))), (mo, .inr (11, [.ref to, .ref ke, .ref ik, .ref mrf, .long mab, .long mbl, .ref ha, .ref r0, .ref mbr, .ref mbp, .ref mby, .int (nI bl), .int (nI ta), .int (nI tl), .int (nI tk), .int vv, .ref an, .ref va])), (to, .inl (y 0, 228, .inl ft))] [(mo, .inr (11, [.ref to, .ref ke, .ref ik, .ref mrf, .long mab, .long mbl, .ref ha, .ref r0, .ref mbr, .ref mbp, .ref mby, .int (nI bl), .int (nI ta), .int (nI tl), .int (nI tk), .int vv, .ref an, .ref va])), (to, .inl (y 0, 228, .inl ft))] [(ha, .inl (y 0, 30, .inl (upd fh 13 (nI q143))))] [1, 2] [0] := ⟨rfl, rfl, rfl, rfl, rfl, by decide⟩
      refine kw_go_i hs149 hP hD hS hA (va_runV (As := []) (rest := [.int (nI k)]) ⟨hx, hb, hml, hown, hts⟩ (gr_many l D y mo to ke ik mrf ha r0 mbr mbp mby an va mab mbl bl ta tl tk vv ft fi 3 mi no un hk0_ hk1_ hk2_ hk3_ hk4_ hkt hfi hgl hmi hno hun _) (cwV 0 hts gX11_placesBy_X11_many rfl rfl rfl (by decide +kernel) ⟨Nat.le_of_ble_eq_true rfl, Nat.le_of_ble_eq_true rfl⟩) (kw_PreV (ci := 11) (q0 := 1) hs149 hP hD hK hN rfl rfl) rfl rfl hl.1 rfl (lv_room (Nat.le_of_ble_eq_true rfl)) dX11_placesBy_40 ⟨Nat.le_of_ble_eq_true rfl, Nat.le_of_ble_eq_true rfl⟩) (fun r150 u151 H locs hq hP hD hS => ?_)
      obtain rfl := hq
      have hP : va_P D vwCl [(ha, .inl (y 0, 30, .inl (upd fh 13 (nI q143)))), (mo, .inr (11, [.ref to, .ref ke, .ref ik, .ref mrf, .long mab, .long mbl, .ref ha, .ref r0, .ref mbr, .ref mbp, .ref mby, .int (nI bl), .int (nI ta), .int (nI tl), .int (nI tk), .int vv, .ref an, .ref va])), (to, .inl (y 0, 228, .inl ft))] H := hP
      have hD : va_D A [(ha, .inl (y 0, 30, .inl (upd fh 13 (nI q143)))), (mo, .inr (11, [.ref to, .ref ke, .ref ik, .ref mrf, .long mab, .long mbl, .ref ha, .ref r0, .ref mbr, .ref mbp, .ref mby, .int (nI bl), .int (nI ta), .int (nI tl), .int (nI tk), .int vv, .ref an, .ref va])), (to, .inl (y 0, 228, .inl ft))] := hD
      refine lv_idiv hx hb dX11_placesBy_43 (nI_ne0 (by omega) (by omega)) ?_
      obtain ⟨q152, h153, h154⟩ := kr_div (a := k) (b := fi) (by omega) (by omega) (by omega)
      rw [h154]
      refine lv_istore_n (lv' := [(3, .int (nI q152)), (6, .int (nI 2)), (5, .int 1000000), (4, .int 0), (0, .ref mo), (1, .int (nI k)), (2, .int x)]) hx hb dX11_placesBy_44 rfl hl (by decide) rfl (fun ls hl => ?_)
      refine lv_iinc (v := 1) (lv' := [(6, .int 1), (3, .int (nI q152)), (5, .int 1000000), (4, .int 0), (0, .ref mo), (1, .int (nI k)), (2, .int x)]) hx hb dX11_placesBy_45 hl (k := 1) rfl (by decide) (by decide) rfl (fun ls hl => ?_)
      refine lv_goto (tgt := 17) hx hb dX11_placesBy_48 (by decide) ?_
      refine lv_iload hx hb dX11_placesBy_17 (lv_at hl 0 rfl) ?_
      refine lv_if_lt (tgt := 51) hx hb dX11_placesBy_19 (by decide) (fun h9 => absurd h9 (by decide)) (fun _ => ?_)
      refine lv_aload_n hx hb dX11_placesBy_22 rfl (lv_at hl 4 rfl) ?_
      refine va_get (D := D) (ci := 11) (v := .ref ha) (C := RX11) (T := TX11) (N := 18) hx hb hts iw11 hown hK hP 1 rfl rfl 6 (by decide) fw2 (fun _ h9 => h9) rfl dX11_placesBy_23 ?_
      refine lv_bipush (v := 11) hx hb dX11_placesBy_26 (by decide) ?_
      refine lv_iload hx hb dX11_placesBy_28 (lv_at hl 0 rfl) ?_
      refine lv_iadd hx hb dX11_placesBy_30 ?_
      refine lv_topi (fun z155 hz155 => ?_)
      obtain rfl : z155 = 12 := hz155.trans (by decide)
      refine lv_iload_n hx hb dX11_placesBy_31 rfl (lv_at hl 1 rfl) ?_
      refine lv_aload_n hx hb dX11_placesBy_32 rfl (lv_at hl 4 rfl) ?_
      have hs156 : kw_Split [(ha, .inl (y 0, 30, .inl (upd fh 13 (nI q143)))), (mo, .inr (11, [.ref to, .ref ke, .ref ik, .ref mrf, .long mab, .long mbl, .ref ha, .ref r0, .ref mbr, .ref mbp, .ref mby, .int (nI bl), .int (nI ta), .int (nI tl), .int (nI tk), .int vv, .ref an, .ref va])), (to, .inl (y 0, 228, .inl ft))] [(mo, .inr (11, [.ref to, .ref ke, .ref ik, .ref mrf, .long mab, .long mbl, .ref ha, .ref r0, .ref mbr, .ref mbp, .ref mby, .int (nI bl), .int (nI ta), .int (nI tl), .int (nI tk), .int vv, .ref an, .ref va])), (to, .inl (y 0, 228, .inl ft))] [(ha, .inl (y 0, 30, .inl (upd fh 13 (nI q143))))] [1, 2] [0] := ⟨rfl, rfl, rfl, rfl, rfl, by decide⟩
      refine kw_go_i hs156 hP hD hS hA (va_runV (As := []) (rest := [.int (nI q152), .int 12, .ref ha]) ⟨hx, hb, hml, hown, hts⟩ (gr_many l D y mo to ke ik mrf ha r0 mbr mbp mby an va mab mbl bl ta tl tk vv ft fi 3 mi no un hk0_ hk1_ hk2_ hk3_ hk4_ hkt hfi hgl hmi hno hun _) (cwV 0 hts gX11_placesBy_X11_many rfl rfl rfl (by decide +kernel) ⟨Nat.le_of_ble_eq_true rfl, Nat.le_of_ble_eq_true rfl⟩) (kw_PreV (ci := 11) (q0 := 1) hs156 hP hD hK hN rfl rfl) rfl rfl hl.1 rfl (lv_room (Nat.le_of_ble_eq_true rfl)) dX11_placesBy_33 ⟨Nat.le_of_ble_eq_true rfl, Nat.le_of_ble_eq_true rfl⟩) (fun r157 u158 H locs hq hP hD hS => ?_)
      obtain rfl := hq
      have hP : va_P D vwCl [(ha, .inl (y 0, 30, .inl (upd fh 13 (nI q143)))), (mo, .inr (11, [.ref to, .ref ke, .ref ik, .ref mrf, .long mab, .long mbl, .ref ha, .ref r0, .ref mbr, .ref mbp, .ref mby, .int (nI bl), .int (nI ta), .int (nI tl), .int (nI tk), .int vv, .ref an, .ref va])), (to, .inl (y 0, 228, .inl ft))] H := hP
      have hD : va_D A [(ha, .inl (y 0, 30, .inl (upd fh 13 (nI q143)))), (mo, .inr (11, [.ref to, .ref ke, .ref ik, .ref mrf, .long mab, .long mbl, .ref ha, .ref r0, .ref mbr, .ref mbp, .ref mby, .int (nI bl), .int (nI ta), .int (nI tl), .int (nI tk), .int vv, .ref an, .ref va])), (to, .inl (y 0, 228, .inl ft))] := hD
      refine lv_irem hx hb dX11_placesBy_36 (nI_ne0 (by omega) (by omega)) ?_
      obtain ⟨q159, h160, h161⟩ := kr_rem (a := q152) (b := fi) (by omega) (by omega) (by omega)
      rw [h161]
      refine va_iast hx hb hK hP hD hS 0 0 rfl rfl (by unfold vp_in; decide) dX11_placesBy_37 (fun H locs hP hD hS => ?_)
      rw [show ((12 : Int32)).toNatClampNeg = 12 from rfl] at hP hD
      have hr162 : kr_t 30 (upd (upd fh 13 (nI q143)) 12 (nI q159)) := kr_up hr146 (kr_oka (vp_in_nI (by omega) (by decide)) (by unfold kr_s; omega))
      have hk163 : (upd (upd fh 13 (nI q143)) 12 (nI q159)) 0 = (nI fi) := (pk_un (by decide)).trans hk147
      have hk164 : (upd (upd fh 13 (nI q143)) 12 (nI q159)) 1 = (nI 3) := (pk_un (by decide)).trans hk148
      have hP : va_P D vwCl [(ha, .inl (y 0, 30, .inl (upd (upd fh 13 (nI q143)) 12 (nI q159)))), (mo, .inr (11, [.ref to, .ref ke, .ref ik, .ref mrf, .long mab, .long mbl, .ref ha, .ref r0, .ref mbr, .ref mbp, .ref mby, .int (nI bl), .int (nI ta), .int (nI tl), .int (nI tk), .int vv, .ref an, .ref va])), (to, .inl (y 0, 228, .inl ft))] H := hP
      have hD : va_D A [(ha, .inl (y 0, 30, .inl (upd (upd fh 13 (nI q143)) 12 (nI q159)))), (mo, .inr (11, [.ref to, .ref ke, .ref ik, .ref mrf, .long mab, .long mbl, .ref ha, .ref r0, .ref mbr, .ref mbp, .ref mby, .int (nI bl), .int (nI ta), .int (nI tl), .int (nI tk), .int vv, .ref an, .ref va])), (to, .inl (y 0, 228, .inl ft))] := hD
      refine lv_iload_n hx hb dX11_placesBy_38 rfl (lv_at hl 1 rfl) ?_
      refine lv_aload_n hx hb dX11_placesBy_39 rfl (lv_at hl 4 rfl) ?_
      have hs165 : kw_Split [(ha, .inl (y 0, 30, .inl (upd (upd fh 13 (nI q143)) 12 (nI q159)))), (mo, .inr (11, [.ref to, .ref ke, .ref ik, .ref mrf, .long mab, .long mbl, .ref ha, .ref r0, .ref mbr, .ref mbp, .ref mby, .int (nI bl), .int (nI ta), .int (nI tl), .int (nI tk), .int vv, .ref an, .ref va])), (to, .inl (y 0, 228, .inl ft))] [(mo, .inr (11, [.ref to, .ref ke, .ref ik, .ref mrf, .long mab, .long mbl, .ref ha, .ref r0, .ref mbr, .ref mbp, .ref mby, .int (nI bl), .int (nI ta), .int (nI tl), .int (nI tk), .int vv, .ref an, .ref va])), (to, .inl (y 0, 228, .inl ft))] [(ha, .inl (y 0, 30, .inl (upd (upd fh 13 (nI q143)) 12 (nI q159))))] [1, 2] [0] := ⟨rfl, rfl, rfl, rfl, rfl, by decide⟩
      refine kw_go_i hs165 hP hD hS hA (va_runV (As := []) (rest := [.int (nI q152)]) ⟨hx, hb, hml, hown, hts⟩ (gr_many l D y mo to ke ik mrf ha r0 mbr mbp mby an va mab mbl bl ta tl tk vv ft fi 3 mi no un hk0_ hk1_ hk2_ hk3_ hk4_ hkt hfi hgl hmi hno hun _) (cwV 0 hts gX11_placesBy_X11_many rfl rfl rfl (by decide +kernel) ⟨Nat.le_of_ble_eq_true rfl, Nat.le_of_ble_eq_true rfl⟩) (kw_PreV (ci := 11) (q0 := 1) hs165 hP hD hK hN rfl rfl) rfl rfl hl.1 rfl (lv_room (Nat.le_of_ble_eq_true rfl)) dX11_placesBy_40 ⟨Nat.le_of_ble_eq_true rfl, Nat.le_of_ble_eq_true rfl⟩) (fun r166 u167 H locs hq hP hD hS => ?_)
      obtain rfl := hq
      have hP : va_P D vwCl [(ha, .inl (y 0, 30, .inl (upd (upd fh 13 (nI q143)) 12 (nI q159)))), (mo, .inr (11, [.ref to, .ref ke, .ref ik, .ref mrf, .long mab, .long mbl, .ref ha, .ref r0, .ref mbr, .ref mbp, .ref mby, .int (nI bl), .int (nI ta), .int (nI tl), .int (nI tk), .int vv, .ref an, .ref va])), (to, .inl (y 0, 228, .inl ft))] H := hP
      have hD : va_D A [(ha, .inl (y 0, 30, .inl (upd (upd fh 13 (nI q143)) 12 (nI q159)))), (mo, .inr (11, [.ref to, .ref ke, .ref ik, .ref mrf, .long mab, .long mbl, .ref ha, .ref r0, .ref mbr, .ref mbp, .ref mby, .int (nI bl), .int (nI ta), .int (nI tl), .int (nI tk), .int vv, .ref an, .ref va])), (to, .inl (y 0, 228, .inl ft))] := hD
      refine lv_idiv hx hb dX11_placesBy_43 (nI_ne0 (by omega) (by omega)) ?_
      obtain ⟨q168, h169, h170⟩ := kr_div (a := q152) (b := fi) (by omega) (by omega) (by omega)
      rw [h170]
      refine lv_istore_n (lv' := [(3, .int (nI q168)), (6, .int 1), (5, .int 1000000), (4, .int 0), (0, .ref mo), (1, .int (nI k)), (2, .int x)]) hx hb dX11_placesBy_44 rfl hl (by decide) rfl (fun ls hl => ?_)
      refine lv_iinc (v := 0) (lv' := [(6, .int 0), (3, .int (nI q168)), (5, .int 1000000), (4, .int 0), (0, .ref mo), (1, .int (nI k)), (2, .int x)]) hx hb dX11_placesBy_45 hl (k := 1) rfl (by decide) (by decide) rfl (fun ls hl => ?_)
      refine lv_goto (tgt := 17) hx hb dX11_placesBy_48 (by decide) ?_
      refine lv_iload hx hb dX11_placesBy_17 (lv_at hl 0 rfl) ?_
      refine lv_if_lt (tgt := 51) hx hb dX11_placesBy_19 (by decide) (fun h9 => absurd h9 (by decide)) (fun _ => ?_)
      refine lv_aload_n hx hb dX11_placesBy_22 rfl (lv_at hl 4 rfl) ?_
      refine va_get (D := D) (ci := 11) (v := .ref ha) (C := RX11) (T := TX11) (N := 18) hx hb hts iw11 hown hK hP 1 rfl rfl 6 (by decide) fw2 (fun _ h9 => h9) rfl dX11_placesBy_23 ?_
      refine lv_bipush (v := 11) hx hb dX11_placesBy_26 (by decide) ?_
      refine lv_iload hx hb dX11_placesBy_28 (lv_at hl 0 rfl) ?_
      refine lv_iadd hx hb dX11_placesBy_30 ?_
      refine lv_topi (fun z171 hz171 => ?_)
      obtain rfl : z171 = 11 := hz171.trans (by decide)
      refine lv_iload_n hx hb dX11_placesBy_31 rfl (lv_at hl 1 rfl) ?_
      refine lv_aload_n hx hb dX11_placesBy_32 rfl (lv_at hl 4 rfl) ?_
      have hs172 : kw_Split [(ha, .inl (y 0, 30, .inl (upd (upd fh 13 (nI q143)) 12 (nI q159)))), (mo, .inr (11, [.ref to, .ref ke, .ref ik, .ref mrf, .long mab, .long mbl, .ref ha, .ref r0, .ref mbr, .ref mbp, .ref mby, .int (nI bl), .int (nI ta), .int (nI tl), .int (nI tk), .int vv, .ref an, .ref va])), (to, .inl (y 0, 228, .inl ft))] [(mo, .inr (11, [.ref to, .ref ke, .ref ik, .ref mrf, .long mab, .long mbl, .ref ha, .ref r0, .ref mbr, .ref mbp, .ref mby, .int (nI bl), .int (nI ta), .int (nI tl), .int (nI tk), .int vv, .ref an, .ref va])), (to, .inl (y 0, 228, .inl ft))] [(ha, .inl (y 0, 30, .inl (upd (upd fh 13 (nI q143)) 12 (nI q159))))] [1, 2] [0] := ⟨rfl, rfl, rfl, rfl, rfl, by decide⟩
      refine kw_go_i hs172 hP hD hS hA (va_runV (As := []) (rest := [.int (nI q168), .int 11, .ref ha]) ⟨hx, hb, hml, hown, hts⟩ (gr_many l D y mo to ke ik mrf ha r0 mbr mbp mby an va mab mbl bl ta tl tk vv ft fi 3 mi no un hk0_ hk1_ hk2_ hk3_ hk4_ hkt hfi hgl hmi hno hun _) (cwV 0 hts gX11_placesBy_X11_many rfl rfl rfl (by decide +kernel) ⟨Nat.le_of_ble_eq_true rfl, Nat.le_of_ble_eq_true rfl⟩) (kw_PreV (ci := 11) (q0 := 1) hs172 hP hD hK hN rfl rfl) rfl rfl hl.1 rfl (lv_room (Nat.le_of_ble_eq_true rfl)) dX11_placesBy_33 ⟨Nat.le_of_ble_eq_true rfl, Nat.le_of_ble_eq_true rfl⟩) (fun r173 u174 H locs hq hP hD hS => ?_)
      obtain rfl := hq
      have hP : va_P D vwCl [(ha, .inl (y 0, 30, .inl (upd (upd fh 13 (nI q143)) 12 (nI q159)))), (mo, .inr (11, [.ref to, .ref ke, .ref ik, .ref mrf, .long mab, .long mbl, .ref ha, .ref r0, .ref mbr, .ref mbp, .ref mby, .int (nI bl), .int (nI ta), .int (nI tl), .int (nI tk), .int vv, .ref an, .ref va])), (to, .inl (y 0, 228, .inl ft))] H := hP
      have hD : va_D A [(ha, .inl (y 0, 30, .inl (upd (upd fh 13 (nI q143)) 12 (nI q159)))), (mo, .inr (11, [.ref to, .ref ke, .ref ik, .ref mrf, .long mab, .long mbl, .ref ha, .ref r0, .ref mbr, .ref mbp, .ref mby, .int (nI bl), .int (nI ta), .int (nI tl), .int (nI tk), .int vv, .ref an, .ref va])), (to, .inl (y 0, 228, .inl ft))] := hD
      refine lv_irem hx hb dX11_placesBy_36 (nI_ne0 (by omega) (by omega)) ?_
      obtain ⟨q175, h176, h177⟩ := kr_rem (a := q168) (b := fi) (by omega) (by omega) (by omega)
      rw [h177]
      refine va_iast hx hb hK hP hD hS 0 0 rfl rfl (by unfold vp_in; decide) dX11_placesBy_37 (fun H locs hP hD hS => ?_)
      rw [show ((11 : Int32)).toNatClampNeg = 11 from rfl] at hP hD
      have hr178 : kr_t 30 (upd (upd (upd fh 13 (nI q143)) 12 (nI q159)) 11 (nI q175)) := kr_up hr162 (kr_oka (vp_in_nI (by omega) (by decide)) (by unfold kr_s; omega))
      have hk179 : (upd (upd (upd fh 13 (nI q143)) 12 (nI q159)) 11 (nI q175)) 0 = (nI fi) := (pk_un (by decide)).trans hk163
      have hk180 : (upd (upd (upd fh 13 (nI q143)) 12 (nI q159)) 11 (nI q175)) 1 = (nI 3) := (pk_un (by decide)).trans hk164
      have hP : va_P D vwCl [(ha, .inl (y 0, 30, .inl (upd (upd (upd fh 13 (nI q143)) 12 (nI q159)) 11 (nI q175)))), (mo, .inr (11, [.ref to, .ref ke, .ref ik, .ref mrf, .long mab, .long mbl, .ref ha, .ref r0, .ref mbr, .ref mbp, .ref mby, .int (nI bl), .int (nI ta), .int (nI tl), .int (nI tk), .int vv, .ref an, .ref va])), (to, .inl (y 0, 228, .inl ft))] H := hP
      have hD : va_D A [(ha, .inl (y 0, 30, .inl (upd (upd (upd fh 13 (nI q143)) 12 (nI q159)) 11 (nI q175)))), (mo, .inr (11, [.ref to, .ref ke, .ref ik, .ref mrf, .long mab, .long mbl, .ref ha, .ref r0, .ref mbr, .ref mbp, .ref mby, .int (nI bl), .int (nI ta), .int (nI tl), .int (nI tk), .int vv, .ref an, .ref va])), (to, .inl (y 0, 228, .inl ft))] := hD
      refine lv_iload_n hx hb dX11_placesBy_38 rfl (lv_at hl 1 rfl) ?_
      refine lv_aload_n hx hb dX11_placesBy_39 rfl (lv_at hl 4 rfl) ?_
      have hs181 : kw_Split [(ha, .inl (y 0, 30, .inl (upd (upd (upd fh 13 (nI q143)) 12 (nI q159)) 11 (nI q175)))), (mo, .inr (11, [.ref to, .ref ke, .ref ik, .ref mrf, .long mab, .long mbl, .ref ha, .ref r0, .ref mbr, .ref mbp, .ref mby, .int (nI bl), .int (nI ta), .int (nI tl), .int (nI tk), .int vv, .ref an, .ref va])), (to, .inl (y 0, 228, .inl ft))] [(mo, .inr (11, [.ref to, .ref ke, .ref ik, .ref mrf, .long mab, .long mbl, .ref ha, .ref r0, .ref mbr, .ref mbp, .ref mby, .int (nI bl), .int (nI ta), .int (nI tl), .int (nI tk), .int vv, .ref an, .ref va])), (to, .inl (y 0, 228, .inl ft))] [(ha, .inl (y 0, 30, .inl (upd (upd (upd fh 13 (nI q143)) 12 (nI q159)) 11 (nI q175))))] [1, 2] [0] := ⟨rfl, rfl, rfl, rfl, rfl, by decide⟩
      refine kw_go_i hs181 hP hD hS hA (va_runV (As := []) (rest := [.int (nI q168)]) ⟨hx, hb, hml, hown, hts⟩ (gr_many l D y mo to ke ik mrf ha r0 mbr mbp mby an va mab mbl bl ta tl tk vv ft fi 3 mi no un hk0_ hk1_ hk2_ hk3_ hk4_ hkt hfi hgl hmi hno hun _) (cwV 0 hts gX11_placesBy_X11_many rfl rfl rfl (by decide +kernel) ⟨Nat.le_of_ble_eq_true rfl, Nat.le_of_ble_eq_true rfl⟩) (kw_PreV (ci := 11) (q0 := 1) hs181 hP hD hK hN rfl rfl) rfl rfl hl.1 rfl (lv_room (Nat.le_of_ble_eq_true rfl)) dX11_placesBy_40 ⟨Nat.le_of_ble_eq_true rfl, Nat.le_of_ble_eq_true rfl⟩) (fun r182 u183 H locs hq hP hD hS => ?_)
      obtain rfl := hq
      have hP : va_P D vwCl [(ha, .inl (y 0, 30, .inl (upd (upd (upd fh 13 (nI q143)) 12 (nI q159)) 11 (nI q175)))), (mo, .inr (11, [.ref to, .ref ke, .ref ik, .ref mrf, .long mab, .long mbl, .ref ha, .ref r0, .ref mbr, .ref mbp, .ref mby, .int (nI bl), .int (nI ta), .int (nI tl), .int (nI tk), .int vv, .ref an, .ref va])), (to, .inl (y 0, 228, .inl ft))] H := hP
      have hD : va_D A [(ha, .inl (y 0, 30, .inl (upd (upd (upd fh 13 (nI q143)) 12 (nI q159)) 11 (nI q175)))), (mo, .inr (11, [.ref to, .ref ke, .ref ik, .ref mrf, .long mab, .long mbl, .ref ha, .ref r0, .ref mbr, .ref mbp, .ref mby, .int (nI bl), .int (nI ta), .int (nI tl), .int (nI tk), .int vv, .ref an, .ref va])), (to, .inl (y 0, 228, .inl ft))] := hD
      refine lv_idiv hx hb dX11_placesBy_43 (nI_ne0 (by omega) (by omega)) ?_
      obtain ⟨q184, h185, h186⟩ := kr_div (a := q168) (b := fi) (by omega) (by omega) (by omega)
      rw [h186]
      refine lv_istore_n (lv' := [(3, .int (nI q184)), (6, .int 0), (5, .int 1000000), (4, .int 0), (0, .ref mo), (1, .int (nI k)), (2, .int x)]) hx hb dX11_placesBy_44 rfl hl (by decide) rfl (fun ls hl => ?_)
      refine lv_iinc (v := (-1)) (lv' := [(6, .int (-1)), (3, .int (nI q184)), (5, .int 1000000), (4, .int 0), (0, .ref mo), (1, .int (nI k)), (2, .int x)]) hx hb dX11_placesBy_45 hl (k := 1) rfl (by decide) (by decide) rfl (fun ls hl => ?_)
      refine lv_goto (tgt := 17) hx hb dX11_placesBy_48 (by decide) ?_
      refine lv_iload hx hb dX11_placesBy_17 (lv_at hl 0 rfl) ?_
      refine lv_if_lt (tgt := 51) hx hb dX11_placesBy_19 (by decide) (fun _ => ?_) (fun h9 => absurd h9 (by decide))
      refine lv_iconst (v := 0) hx hb dX11_placesBy_51 (by decide) ?_
      refine lv_istore (lv' := [(6, .int 0), (3, .int (nI q184)), (5, .int 1000000), (4, .int 0), (0, .ref mo), (1, .int (nI k)), (2, .int x)]) hx hb dX11_placesBy_52 hl (by decide) rfl (fun ls hl => ?_)
      have lp213 : ∀ (fuj91 j91 : Nat) (x199 : Int32) (x200 : Int32) (H : Heap) (locs : List Loc) (ls : Array Slot), j91 ≤ 3 → 3 - j91 < fuj91 → va_P D vwCl [(ha, .inl (y 0, 30, .inl (upd (upd (upd fh 13 (nI q143)) 12 (nI q159)) 11 (nI q175)))), (mo, .inr (11, [.ref to, .ref ke, .ref ik, .ref mrf, .long mab, .long mbl, .ref ha, .ref r0, .ref mbr, .ref mbp, .ref mby, .int (nI bl), .int (nI ta), .int (nI tl), .int (nI tk), .int vv, .ref an, .ref va])), (to, .inl (y 0, 228, .inl ft))] H → va_D A [(ha, .inl (y 0, 30, .inl (upd (upd (upd fh 13 (nI q143)) 12 (nI q159)) 11 (nI q175)))), (mo, .inr (11, [.ref to, .ref ke, .ref ik, .ref mrf, .long mab, .long mbl, .ref ha, .ref r0, .ref mbr, .ref mbp, .ref mby, .int (nI bl), .int (nI ta), .int (nI tl), .int (nI tk), .int vv, .ref an, .ref va])), (to, .inl (y 0, 228, .inl ft))] → va_S A s.heap H locs → lv_has ls 8 [(6, .int (nI j91)), (3, .int (nI q184)), (5, .int x200), (4, .int x199), (0, .ref mo), (1, .int (nI k)), (2, .int x)] → W pZ l eZ ({ frames := 6, cells := 0, slots := 0, locals := 172 }) s mZ [.ref mo, .int (nI k), .int x].toArray beZ meZ cZ H locs 0 0 (MQ beZ (va_Qi (fun (r : Int32) (u : (Nat → Int32)) => kr_t 30 u ∧ u 0 = (nI fi) ∧ u 1 = (nI 3)) (kw_B D (fun u => [(mo, .inr (11, [.ref to, .ref ke, .ref ik, .ref mrf, .long mab, .long mbl, .ref ha, .ref r0, .ref mbr, .ref mbp, .ref mby, .int (nI bl), .int (nI ta), .int (nI tl), .int (nI tk), .int vv, .ref an, .ref va])), (to, .inl (y 0, 228, .inl ft)), (ha, .inl (y 0, 30, .inl u))]) A) A) [.ref mo, .int (nI k), .int x].toArray s 0 0 A) (F0 mZ 54 ls []) := by
        intro fuj91
        induction fuj91 with
        | zero => intro j91 x199 x200 H locs ls hj9 hf9; exact absurd hf9 (Nat.not_lt_zero _)
        | succ fuj91 ihj91 =>
          intro j91 x199 x200 H locs ls hj91 hfj91  hP hD hS hl
          refine lv_iload hx hb dX11_placesBy_54 (lv_at hl 0 rfl) ?_
          refine lv_aload_n hx hb dX11_placesBy_56 rfl (lv_at hl 4 rfl) ?_
          have hs214 : kw_Split [(ha, .inl (y 0, 30, .inl (upd (upd (upd fh 13 (nI q143)) 12 (nI q159)) 11 (nI q175)))), (mo, .inr (11, [.ref to, .ref ke, .ref ik, .ref mrf, .long mab, .long mbl, .ref ha, .ref r0, .ref mbr, .ref mbp, .ref mby, .int (nI bl), .int (nI ta), .int (nI tl), .int (nI tk), .int vv, .ref an, .ref va])), (to, .inl (y 0, 228, .inl ft))] [(mo, .inr (11, [.ref to, .ref ke, .ref ik, .ref mrf, .long mab, .long mbl, .ref ha, .ref r0, .ref mbr, .ref mbp, .ref mby, .int (nI bl), .int (nI ta), .int (nI tl), .int (nI tk), .int vv, .ref an, .ref va])), (to, .inl (y 0, 228, .inl ft))] [(ha, .inl (y 0, 30, .inl (upd (upd (upd fh 13 (nI q143)) 12 (nI q159)) 11 (nI q175))))] [1, 2] [0] := ⟨rfl, rfl, rfl, rfl, rfl, by decide⟩
          refine kw_go_i hs214 hP hD hS hA (va_runV (As := []) (rest := [.int (nI j91)]) ⟨hx, hb, hml, hown, hts⟩ (gr_manyGleaners l D y mo to ke ik mrf ha r0 mbr mbp mby an va mab mbl bl ta tl tk vv ft fi 3 mi no un hk0_ hk1_ hk2_ hk3_ hk4_ hkt hfi hgl hmi hno hun _) (cwV 0 hts gX11_placesBy_X11_manyGleaners rfl rfl rfl (by decide +kernel) ⟨Nat.le_of_ble_eq_true rfl, Nat.le_of_ble_eq_true rfl⟩) (kw_PreV (ci := 11) (q0 := 1) hs214 hP hD hK hN rfl rfl) rfl rfl hl.1 rfl (lv_room (Nat.le_of_ble_eq_true rfl)) dX11_placesBy_57 ⟨Nat.le_of_ble_eq_true rfl, Nat.le_of_ble_eq_true rfl⟩) (fun r215 u216 H locs hq hP hD hS => ?_)
          obtain rfl := hq
          have hP : va_P D vwCl [(ha, .inl (y 0, 30, .inl (upd (upd (upd fh 13 (nI q143)) 12 (nI q159)) 11 (nI q175)))), (mo, .inr (11, [.ref to, .ref ke, .ref ik, .ref mrf, .long mab, .long mbl, .ref ha, .ref r0, .ref mbr, .ref mbp, .ref mby, .int (nI bl), .int (nI ta), .int (nI tl), .int (nI tk), .int vv, .ref an, .ref va])), (to, .inl (y 0, 228, .inl ft))] H := hP
          have hD : va_D A [(ha, .inl (y 0, 30, .inl (upd (upd (upd fh 13 (nI q143)) 12 (nI q159)) 11 (nI q175)))), (mo, .inr (11, [.ref to, .ref ke, .ref ik, .ref mrf, .long mab, .long mbl, .ref ha, .ref r0, .ref mbr, .ref mbp, .ref mby, .int (nI bl), .int (nI ta), .int (nI tl), .int (nI tk), .int vv, .ref an, .ref va])), (to, .inl (y 0, 228, .inl ft))] := hD
          refine lv_icmp_ge (tgt := 103) hx hb dX11_placesBy_60 (by decide) (fun h217 => ?_) (fun h218 => ?_)
          · skip
            have h217 : 3 ≤ j91 := (nI_leI (a := 3) (b := j91) (by omega) (by omega)).mp h217
            refine lv_iload_n hx hb dX11_placesBy_103 rfl (lv_at hl 6 rfl) ?_
            refine lv_if_ne (tgt := 112) hx hb dX11_placesBy_104 (by decide) (fun h219 => ?_) (fun h220 => ?_)
            · skip
              refine lv_iload hx hb dX11_placesBy_112 (lv_at hl 2 rfl) ?_
              exact W.iret (v := x200) hx hb hr (fun tZ ht hW => ⟨⟨x200, ((upd (upd (upd fh 13 (nI q143)) 12 (nI q159)) 11 (nI q175))), rfl, ⟨hr178, hk179, hk180⟩, by rw [ht]; exact hP.sub [1, 2, 0] rfl, hD.sub [1, 2, 0] (by decide) rfl⟩, hS.F ht⟩) hS.2.2 dX11_placesBy_114
            · skip
              refine lv_iload hx hb dX11_placesBy_107 (lv_at hl 3 rfl) ?_
              refine lv_goto (tgt := 114) hx hb dX11_placesBy_109 (by decide) ?_
              exact W.iret (v := x199) hx hb hr (fun tZ ht hW => ⟨⟨x199, ((upd (upd (upd fh 13 (nI q143)) 12 (nI q159)) 11 (nI q175))), rfl, ⟨hr178, hk179, hk180⟩, by rw [ht]; exact hP.sub [1, 2, 0] rfl, hD.sub [1, 2, 0] (by decide) rfl⟩, hS.F ht⟩) hS.2.2 dX11_placesBy_114
          · skip
            have h218 : ¬ 3 ≤ j91 := fun q9 => h218 ((nI_leI (a := 3) (b := j91) (by omega) (by omega)).mpr q9)
            refine lv_aload_n hx hb dX11_placesBy_63 rfl (lv_at hl 4 rfl) ?_
            refine va_get (D := D) (ci := 11) (v := .ref ha) (C := RX11) (T := TX11) (N := 18) hx hb hts iw11 hown hK hP 1 rfl rfl 6 (by decide) fw2 (fun _ h9 => h9) rfl dX11_placesBy_64 ?_
            refine lv_iload hx hb dX11_placesBy_67 (lv_at hl 0 rfl) ?_
            have hs221 : kw_Split [(ha, .inl (y 0, 30, .inl (upd (upd (upd fh 13 (nI q143)) 12 (nI q159)) 11 (nI q175)))), (mo, .inr (11, [.ref to, .ref ke, .ref ik, .ref mrf, .long mab, .long mbl, .ref ha, .ref r0, .ref mbr, .ref mbp, .ref mby, .int (nI bl), .int (nI ta), .int (nI tl), .int (nI tk), .int vv, .ref an, .ref va])), (to, .inl (y 0, 228, .inl ft))] [(ha, .inl (y 0, 30, .inl (upd (upd (upd fh 13 (nI q143)) 12 (nI q159)) 11 (nI q175))))] [(mo, .inr (11, [.ref to, .ref ke, .ref ik, .ref mrf, .long mab, .long mbl, .ref ha, .ref r0, .ref mbr, .ref mbp, .ref mby, .int (nI bl), .int (nI ta), .int (nI tl), .int (nI tk), .int vv, .ref an, .ref va])), (to, .inl (y 0, 228, .inl ft))] [0] [1, 2] := ⟨rfl, rfl, rfl, rfl, rfl, by decide⟩
            refine kw_go_i hs221 hP hD hS hA (va_runS (As := [.ref ha, .int (nI j91)]) (rest := []) ⟨hx, hb, hml, hown, hts⟩ (gr_getsOne30 l D y ha (upd (upd (upd fh 13 (nI q143)) 12 (nI q159)) 11 (nI q175)) fi 3 j91 hk179 hk180 hr178 hfi hgl (by omega) _) (va_cwS 2 hts gX11_placesBy_X11_getsOne rfl rfl rfl (by decide +kernel) ⟨Nat.le_of_ble_eq_true rfl, Nat.le_of_ble_eq_true rfl⟩) (kw_PreS hs221 hP hD hK hN) rfl rfl hl.1 rfl (lv_room (Nat.le_of_ble_eq_true rfl)) dX11_placesBy_69 ⟨Nat.le_of_ble_eq_true rfl, Nat.le_of_ble_eq_true rfl⟩) (fun r222 u223 H locs hq hP hD hS => ?_)
            have hP : va_P D vwCl [(mo, .inr (11, [.ref to, .ref ke, .ref ik, .ref mrf, .long mab, .long mbl, .ref ha, .ref r0, .ref mbr, .ref mbp, .ref mby, .int (nI bl), .int (nI ta), .int (nI tl), .int (nI tk), .int vv, .ref an, .ref va])), (to, .inl (y 0, 228, .inl ft)), (ha, .inl (y 0, 30, .inl (upd (upd (upd fh 13 (nI q143)) 12 (nI q159)) 11 (nI q175))))] H := hP
            have hD : va_D A [(mo, .inr (11, [.ref to, .ref ke, .ref ik, .ref mrf, .long mab, .long mbl, .ref ha, .ref r0, .ref mbr, .ref mbp, .ref mby, .int (nI bl), .int (nI ta), .int (nI tl), .int (nI tk), .int vv, .ref an, .ref va])), (to, .inl (y 0, 228, .inl ft)), (ha, .inl (y 0, 30, .inl (upd (upd (upd fh 13 (nI q143)) 12 (nI q159)) 11 (nI q175))))] := hD
            refine lv_istore (lv' := [(7, .int r222), (6, .int (nI j91)), (3, .int (nI q184)), (5, .int x200), (4, .int x199), (0, .ref mo), (1, .int (nI k)), (2, .int x)]) hx hb dX11_placesBy_72 hl (by decide) rfl (fun ls hl => ?_)
            refine lv_iload hx hb dX11_placesBy_74 (lv_at hl 4 rfl) ?_
            refine lv_iload hx hb dX11_placesBy_76 (lv_at hl 0 rfl) ?_
            refine lv_iadd hx hb dX11_placesBy_78 ?_
            refine lv_istore (lv' := [(4, .int (x199 + r222)), (7, .int r222), (6, .int (nI j91)), (3, .int (nI q184)), (5, .int x200), (0, .ref mo), (1, .int (nI k)), (2, .int x)]) hx hb dX11_placesBy_79 hl (by decide) rfl (fun ls hl => ?_)
            refine lv_iload hx hb dX11_placesBy_81 (lv_at hl 1 rfl) ?_
            refine lv_iload hx hb dX11_placesBy_83 (lv_at hl 4 rfl) ?_
            refine lv_icmp_ge (tgt := 93) hx hb dX11_placesBy_85 (by decide) (fun h224 => ?_) (fun h225 => ?_)
            · skip
              refine lv_iload hx hb dX11_placesBy_93 (lv_at hl 4 rfl) ?_
              refine lv_istore (lv' := [(5, .int x200), (4, .int (x199 + r222)), (7, .int r222), (6, .int (nI j91)), (3, .int (nI q184)), (0, .ref mo), (1, .int (nI k)), (2, .int x)]) hx hb dX11_placesBy_95 hl (by decide) rfl (fun ls hl => ?_)
              refine lv_iinc (v := (nI (j91 + 1))) (lv' := [(6, .int (nI (j91 + 1))), (5, .int x200), (4, .int (x199 + r222)), (7, .int r222), (3, .int (nI q184)), (0, .ref mo), (1, .int (nI k)), (2, .int x)]) hx hb dX11_placesBy_97 hl (k := 3) rfl (nI_1 j91) (by decide) rfl (fun ls hl => ?_)
              refine lv_goto (tgt := 54) hx hb dX11_placesBy_100 (by decide) ?_
              exact ihj91 (j91 + 1) (x199 + r222) x200 H locs ls (by omega) (by omega)  (hP.sub [2, 0, 1] rfl) (hD.sub [2, 0, 1] (by decide) rfl) hS (lv_sub hl [0, 4, 1, 2, 5, 6, 7] rfl)
            · skip
              refine lv_iload hx hb dX11_placesBy_88 (lv_at hl 1 rfl) ?_
              refine lv_goto (tgt := 95) hx hb dX11_placesBy_90 (by decide) ?_
              refine lv_istore (lv' := [(5, .int r222), (4, .int (x199 + r222)), (7, .int r222), (6, .int (nI j91)), (3, .int (nI q184)), (0, .ref mo), (1, .int (nI k)), (2, .int x)]) hx hb dX11_placesBy_95 hl (by decide) rfl (fun ls hl => ?_)
              refine lv_iinc (v := (nI (j91 + 1))) (lv' := [(6, .int (nI (j91 + 1))), (5, .int r222), (4, .int (x199 + r222)), (7, .int r222), (3, .int (nI q184)), (0, .ref mo), (1, .int (nI k)), (2, .int x)]) hx hb dX11_placesBy_97 hl (k := 3) rfl (nI_1 j91) (by decide) rfl (fun ls hl => ?_)
              refine lv_goto (tgt := 54) hx hb dX11_placesBy_100 (by decide) ?_
              exact ihj91 (j91 + 1) (x199 + r222) r222 H locs ls (by omega) (by omega)  (hP.sub [2, 0, 1] rfl) (hD.sub [2, 0, 1] (by decide) rfl) hS (lv_sub hl [0, 4, 1, 2, 5, 6, 7] rfl)
      exact lp213 (3 + 1) 0 0 1000000 _ _ _ (by omega) (by omega)  hP hD hS (lv_sub hl [0, 1, 2, 3, 4, 5, 6] rfl)
  · skip
    refine lv_aload_n hx hb dX11_placesBy_9 rfl (lv_at hl 3 rfl) ?_
    have hs226 : kw_Split [(mo, .inr (11, [.ref to, .ref ke, .ref ik, .ref mrf, .long mab, .long mbl, .ref ha, .ref r0, .ref mbr, .ref mbp, .ref mby, .int (nI bl), .int (nI ta), .int (nI tl), .int (nI tk), .int vv, .ref an, .ref va])), (to, .inl (y 0, 228, .inl ft)), (ha, .inl (y 0, 30, .inl fh))] [(mo, .inr (11, [.ref to, .ref ke, .ref ik, .ref mrf, .long mab, .long mbl, .ref ha, .ref r0, .ref mbr, .ref mbp, .ref mby, .int (nI bl), .int (nI ta), .int (nI tl), .int (nI tk), .int vv, .ref an, .ref va])), (to, .inl (y 0, 228, .inl ft))] [(ha, .inl (y 0, 30, .inl fh))] [0, 1] [2] := ⟨rfl, rfl, rfl, rfl, rfl, by decide⟩
    refine kw_go_i hs226 hP hD hS hA (va_runV (As := []) (rest := []) ⟨hx, hb, hml, hown, hts⟩ (gr_manyGleaners l D y mo to ke ik mrf ha r0 mbr mbp mby an va mab mbl bl ta tl tk vv ft fi 4 mi no un hk0_ hk1_ hk2_ hk3_ hk4_ hkt hfi hgl hmi hno hun _) (cwV 0 hts gX11_placesBy_X11_manyGleaners rfl rfl rfl (by decide +kernel) ⟨Nat.le_of_ble_eq_true rfl, Nat.le_of_ble_eq_true rfl⟩) (kw_PreV (ci := 11) (q0 := 0) hs226 hP hD hK hN rfl rfl) rfl rfl hl.1 rfl (lv_room (Nat.le_of_ble_eq_true rfl)) dX11_placesBy_10 ⟨Nat.le_of_ble_eq_true rfl, Nat.le_of_ble_eq_true rfl⟩) (fun r227 u228 H locs hq hP hD hS => ?_)
    obtain rfl := hq
    have hP : va_P D vwCl [(ha, .inl (y 0, 30, .inl fh)), (mo, .inr (11, [.ref to, .ref ke, .ref ik, .ref mrf, .long mab, .long mbl, .ref ha, .ref r0, .ref mbr, .ref mbp, .ref mby, .int (nI bl), .int (nI ta), .int (nI tl), .int (nI tk), .int vv, .ref an, .ref va])), (to, .inl (y 0, 228, .inl ft))] H := hP
    have hD : va_D A [(ha, .inl (y 0, 30, .inl fh)), (mo, .inr (11, [.ref to, .ref ke, .ref ik, .ref mrf, .long mab, .long mbl, .ref ha, .ref r0, .ref mbr, .ref mbp, .ref mby, .int (nI bl), .int (nI ta), .int (nI tl), .int (nI tk), .int vv, .ref an, .ref va])), (to, .inl (y 0, 228, .inl ft))] := hD
    refine lv_iconst (v := 1) hx hb dX11_placesBy_13 (by decide) ?_
    refine lv_isub hx hb dX11_placesBy_14 ?_
    rw [show (nI 4) - 1 = nI (3) from pk_sub (a := 4) (b := 1) (by omega)]
    refine lv_istore (lv' := [(6, .int (nI 3)), (5, .int 1000000), (4, .int 0), (3, .int (nI k)), (0, .ref mo), (1, .int (nI k)), (2, .int x)]) hx hb dX11_placesBy_15 hl (by decide) rfl (fun ls hl => ?_)
    refine lv_iload hx hb dX11_placesBy_17 (lv_at hl 0 rfl) ?_
    refine lv_if_lt (tgt := 51) hx hb dX11_placesBy_19 (by decide) (fun h229 => ?_) (fun h230 => ?_)
    · skip
      have h229 : 3 < 0 := (nI_ltI (a := 3) (b := 0) (by omega) (by omega)).mp h229
      exact absurd h229 (by omega)
    · skip
      have h230 : ¬ 3 < 0 := fun q9 => h230 ((nI_ltI (a := 3) (b := 0) (by omega) (by omega)).mpr q9)
      refine lv_aload_n hx hb dX11_placesBy_22 rfl (lv_at hl 4 rfl) ?_
      refine va_get (D := D) (ci := 11) (v := .ref ha) (C := RX11) (T := TX11) (N := 18) hx hb hts iw11 hown hK hP 1 rfl rfl 6 (by decide) fw2 (fun _ h9 => h9) rfl dX11_placesBy_23 ?_
      refine lv_bipush (v := 11) hx hb dX11_placesBy_26 (by decide) ?_
      refine lv_iload hx hb dX11_placesBy_28 (lv_at hl 0 rfl) ?_
      refine lv_iadd hx hb dX11_placesBy_30 ?_
      rw [show 11 + (nI 3) = nI (14) from nI_add 11 3]
      refine lv_iload_n hx hb dX11_placesBy_31 rfl (lv_at hl 3 rfl) ?_
      refine lv_aload_n hx hb dX11_placesBy_32 rfl (lv_at hl 4 rfl) ?_
      have hs231 : kw_Split [(ha, .inl (y 0, 30, .inl fh)), (mo, .inr (11, [.ref to, .ref ke, .ref ik, .ref mrf, .long mab, .long mbl, .ref ha, .ref r0, .ref mbr, .ref mbp, .ref mby, .int (nI bl), .int (nI ta), .int (nI tl), .int (nI tk), .int vv, .ref an, .ref va])), (to, .inl (y 0, 228, .inl ft))] [(mo, .inr (11, [.ref to, .ref ke, .ref ik, .ref mrf, .long mab, .long mbl, .ref ha, .ref r0, .ref mbr, .ref mbp, .ref mby, .int (nI bl), .int (nI ta), .int (nI tl), .int (nI tk), .int vv, .ref an, .ref va])), (to, .inl (y 0, 228, .inl ft))] [(ha, .inl (y 0, 30, .inl fh))] [1, 2] [0] := ⟨rfl, rfl, rfl, rfl, rfl, by decide⟩
      refine kw_go_i hs231 hP hD hS hA (va_runV (As := []) (rest := [.int (nI k), .int (nI 14), .ref ha]) ⟨hx, hb, hml, hown, hts⟩ (gr_many l D y mo to ke ik mrf ha r0 mbr mbp mby an va mab mbl bl ta tl tk vv ft fi 4 mi no un hk0_ hk1_ hk2_ hk3_ hk4_ hkt hfi hgl hmi hno hun _) (cwV 0 hts gX11_placesBy_X11_many rfl rfl rfl (by decide +kernel) ⟨Nat.le_of_ble_eq_true rfl, Nat.le_of_ble_eq_true rfl⟩) (kw_PreV (ci := 11) (q0 := 1) hs231 hP hD hK hN rfl rfl) rfl rfl hl.1 rfl (lv_room (Nat.le_of_ble_eq_true rfl)) dX11_placesBy_33 ⟨Nat.le_of_ble_eq_true rfl, Nat.le_of_ble_eq_true rfl⟩) (fun r232 u233 H locs hq hP hD hS => ?_)
      obtain rfl := hq
      have hP : va_P D vwCl [(ha, .inl (y 0, 30, .inl fh)), (mo, .inr (11, [.ref to, .ref ke, .ref ik, .ref mrf, .long mab, .long mbl, .ref ha, .ref r0, .ref mbr, .ref mbp, .ref mby, .int (nI bl), .int (nI ta), .int (nI tl), .int (nI tk), .int vv, .ref an, .ref va])), (to, .inl (y 0, 228, .inl ft))] H := hP
      have hD : va_D A [(ha, .inl (y 0, 30, .inl fh)), (mo, .inr (11, [.ref to, .ref ke, .ref ik, .ref mrf, .long mab, .long mbl, .ref ha, .ref r0, .ref mbr, .ref mbp, .ref mby, .int (nI bl), .int (nI ta), .int (nI tl), .int (nI tk), .int vv, .ref an, .ref va])), (to, .inl (y 0, 228, .inl ft))] := hD
      refine lv_irem hx hb dX11_placesBy_36 (nI_ne0 (by omega) (by omega)) ?_
      obtain ⟨q234, h235, h236⟩ := kr_rem (a := k) (b := fi) (by omega) (by omega) (by omega)
      rw [h236]
      refine va_iast hx hb hK hP hD hS 0 0 rfl rfl (vp_in_nI (by omega) (by decide)) dX11_placesBy_37 (fun H locs hP hD hS => ?_)
      rw [nI_clamp (n := 14) (by omega)] at hP hD
      have hr237 : kr_t 30 (upd fh 14 (nI q234)) := kr_up hkh (kr_oka (vp_in_nI (by omega) (by decide)) (by unfold kr_s; omega))
      have hk238 : (upd fh 14 (nI q234)) 0 = (nI fi) := (pk_un (by decide)).trans hh0_
      have hk239 : (upd fh 14 (nI q234)) 1 = (nI 4) := (pk_un (by decide)).trans hh1_
      have hP : va_P D vwCl [(ha, .inl (y 0, 30, .inl (upd fh 14 (nI q234)))), (mo, .inr (11, [.ref to, .ref ke, .ref ik, .ref mrf, .long mab, .long mbl, .ref ha, .ref r0, .ref mbr, .ref mbp, .ref mby, .int (nI bl), .int (nI ta), .int (nI tl), .int (nI tk), .int vv, .ref an, .ref va])), (to, .inl (y 0, 228, .inl ft))] H := hP
      have hD : va_D A [(ha, .inl (y 0, 30, .inl (upd fh 14 (nI q234)))), (mo, .inr (11, [.ref to, .ref ke, .ref ik, .ref mrf, .long mab, .long mbl, .ref ha, .ref r0, .ref mbr, .ref mbp, .ref mby, .int (nI bl), .int (nI ta), .int (nI tl), .int (nI tk), .int vv, .ref an, .ref va])), (to, .inl (y 0, 228, .inl ft))] := hD
      refine lv_iload_n hx hb dX11_placesBy_38 rfl (lv_at hl 3 rfl) ?_
      refine lv_aload_n hx hb dX11_placesBy_39 rfl (lv_at hl 4 rfl) ?_
      have hs240 : kw_Split [(ha, .inl (y 0, 30, .inl (upd fh 14 (nI q234)))), (mo, .inr (11, [.ref to, .ref ke, .ref ik, .ref mrf, .long mab, .long mbl, .ref ha, .ref r0, .ref mbr, .ref mbp, .ref mby, .int (nI bl), .int (nI ta), .int (nI tl), .int (nI tk), .int vv, .ref an, .ref va])), (to, .inl (y 0, 228, .inl ft))] [(mo, .inr (11, [.ref to, .ref ke, .ref ik, .ref mrf, .long mab, .long mbl, .ref ha, .ref r0, .ref mbr, .ref mbp, .ref mby, .int (nI bl), .int (nI ta), .int (nI tl), .int (nI tk), .int vv, .ref an, .ref va])), (to, .inl (y 0, 228, .inl ft))] [(ha, .inl (y 0, 30, .inl (upd fh 14 (nI q234))))] [1, 2] [0] := ⟨rfl, rfl, rfl, rfl, rfl, by decide⟩
      refine kw_go_i hs240 hP hD hS hA (va_runV (As := []) (rest := [.int (nI k)]) ⟨hx, hb, hml, hown, hts⟩ (gr_many l D y mo to ke ik mrf ha r0 mbr mbp mby an va mab mbl bl ta tl tk vv ft fi 4 mi no un hk0_ hk1_ hk2_ hk3_ hk4_ hkt hfi hgl hmi hno hun _) (cwV 0 hts gX11_placesBy_X11_many rfl rfl rfl (by decide +kernel) ⟨Nat.le_of_ble_eq_true rfl, Nat.le_of_ble_eq_true rfl⟩) (kw_PreV (ci := 11) (q0 := 1) hs240 hP hD hK hN rfl rfl) rfl rfl hl.1 rfl (lv_room (Nat.le_of_ble_eq_true rfl)) dX11_placesBy_40 ⟨Nat.le_of_ble_eq_true rfl, Nat.le_of_ble_eq_true rfl⟩) (fun r241 u242 H locs hq hP hD hS => ?_)
      obtain rfl := hq
      have hP : va_P D vwCl [(ha, .inl (y 0, 30, .inl (upd fh 14 (nI q234)))), (mo, .inr (11, [.ref to, .ref ke, .ref ik, .ref mrf, .long mab, .long mbl, .ref ha, .ref r0, .ref mbr, .ref mbp, .ref mby, .int (nI bl), .int (nI ta), .int (nI tl), .int (nI tk), .int vv, .ref an, .ref va])), (to, .inl (y 0, 228, .inl ft))] H := hP
      have hD : va_D A [(ha, .inl (y 0, 30, .inl (upd fh 14 (nI q234)))), (mo, .inr (11, [.ref to, .ref ke, .ref ik, .ref mrf, .long mab, .long mbl, .ref ha, .ref r0, .ref mbr, .ref mbp, .ref mby, .int (nI bl), .int (nI ta), .int (nI tl), .int (nI tk), .int vv, .ref an, .ref va])), (to, .inl (y 0, 228, .inl ft))] := hD
      refine lv_idiv hx hb dX11_placesBy_43 (nI_ne0 (by omega) (by omega)) ?_
      obtain ⟨q243, h244, h245⟩ := kr_div (a := k) (b := fi) (by omega) (by omega) (by omega)
      rw [h245]
      refine lv_istore_n (lv' := [(3, .int (nI q243)), (6, .int (nI 3)), (5, .int 1000000), (4, .int 0), (0, .ref mo), (1, .int (nI k)), (2, .int x)]) hx hb dX11_placesBy_44 rfl hl (by decide) rfl (fun ls hl => ?_)
      refine lv_iinc (v := 2) (lv' := [(6, .int 2), (3, .int (nI q243)), (5, .int 1000000), (4, .int 0), (0, .ref mo), (1, .int (nI k)), (2, .int x)]) hx hb dX11_placesBy_45 hl (k := 1) rfl (by decide) (by decide) rfl (fun ls hl => ?_)
      refine lv_goto (tgt := 17) hx hb dX11_placesBy_48 (by decide) ?_
      refine lv_iload hx hb dX11_placesBy_17 (lv_at hl 0 rfl) ?_
      refine lv_if_lt (tgt := 51) hx hb dX11_placesBy_19 (by decide) (fun h9 => absurd h9 (by decide)) (fun _ => ?_)
      refine lv_aload_n hx hb dX11_placesBy_22 rfl (lv_at hl 4 rfl) ?_
      refine va_get (D := D) (ci := 11) (v := .ref ha) (C := RX11) (T := TX11) (N := 18) hx hb hts iw11 hown hK hP 1 rfl rfl 6 (by decide) fw2 (fun _ h9 => h9) rfl dX11_placesBy_23 ?_
      refine lv_bipush (v := 11) hx hb dX11_placesBy_26 (by decide) ?_
      refine lv_iload hx hb dX11_placesBy_28 (lv_at hl 0 rfl) ?_
      refine lv_iadd hx hb dX11_placesBy_30 ?_
      refine lv_topi (fun z246 hz246 => ?_)
      obtain rfl : z246 = 13 := hz246.trans (by decide)
      refine lv_iload_n hx hb dX11_placesBy_31 rfl (lv_at hl 1 rfl) ?_
      refine lv_aload_n hx hb dX11_placesBy_32 rfl (lv_at hl 4 rfl) ?_
      have hs247 : kw_Split [(ha, .inl (y 0, 30, .inl (upd fh 14 (nI q234)))), (mo, .inr (11, [.ref to, .ref ke, .ref ik, .ref mrf, .long mab, .long mbl, .ref ha, .ref r0, .ref mbr, .ref mbp, .ref mby, .int (nI bl), .int (nI ta), .int (nI tl), .int (nI tk), .int vv, .ref an, .ref va])), (to, .inl (y 0, 228, .inl ft))] [(mo, .inr (11, [.ref to, .ref ke, .ref ik, .ref mrf, .long mab, .long mbl, .ref ha, .ref r0, .ref mbr, .ref mbp, .ref mby, .int (nI bl), .int (nI ta), .int (nI tl), .int (nI tk), .int vv, .ref an, .ref va])), (to, .inl (y 0, 228, .inl ft))] [(ha, .inl (y 0, 30, .inl (upd fh 14 (nI q234))))] [1, 2] [0] := ⟨rfl, rfl, rfl, rfl, rfl, by decide⟩
      refine kw_go_i hs247 hP hD hS hA (va_runV (As := []) (rest := [.int (nI q243), .int 13, .ref ha]) ⟨hx, hb, hml, hown, hts⟩ (gr_many l D y mo to ke ik mrf ha r0 mbr mbp mby an va mab mbl bl ta tl tk vv ft fi 4 mi no un hk0_ hk1_ hk2_ hk3_ hk4_ hkt hfi hgl hmi hno hun _) (cwV 0 hts gX11_placesBy_X11_many rfl rfl rfl (by decide +kernel) ⟨Nat.le_of_ble_eq_true rfl, Nat.le_of_ble_eq_true rfl⟩) (kw_PreV (ci := 11) (q0 := 1) hs247 hP hD hK hN rfl rfl) rfl rfl hl.1 rfl (lv_room (Nat.le_of_ble_eq_true rfl)) dX11_placesBy_33 ⟨Nat.le_of_ble_eq_true rfl, Nat.le_of_ble_eq_true rfl⟩) (fun r248 u249 H locs hq hP hD hS => ?_)
      obtain rfl := hq
      have hP : va_P D vwCl [(ha, .inl (y 0, 30, .inl (upd fh 14 (nI q234)))), (mo, .inr (11, [.ref to, .ref ke, .ref ik, .ref mrf, .long mab, .long mbl, .ref ha, .ref r0, .ref mbr, .ref mbp, .ref mby, .int (nI bl), .int (nI ta), .int (nI tl), .int (nI tk), .int vv, .ref an, .ref va])), (to, .inl (y 0, 228, .inl ft))] H := hP
      have hD : va_D A [(ha, .inl (y 0, 30, .inl (upd fh 14 (nI q234)))), (mo, .inr (11, [.ref to, .ref ke, .ref ik, .ref mrf, .long mab, .long mbl, .ref ha, .ref r0, .ref mbr, .ref mbp, .ref mby, .int (nI bl), .int (nI ta), .int (nI tl), .int (nI tk), .int vv, .ref an, .ref va])), (to, .inl (y 0, 228, .inl ft))] := hD
      refine lv_irem hx hb dX11_placesBy_36 (nI_ne0 (by omega) (by omega)) ?_
      obtain ⟨q250, h251, h252⟩ := kr_rem (a := q243) (b := fi) (by omega) (by omega) (by omega)
      rw [h252]
      refine va_iast hx hb hK hP hD hS 0 0 rfl rfl (by unfold vp_in; decide) dX11_placesBy_37 (fun H locs hP hD hS => ?_)
      rw [show ((13 : Int32)).toNatClampNeg = 13 from rfl] at hP hD
      have hr253 : kr_t 30 (upd (upd fh 14 (nI q234)) 13 (nI q250)) := kr_up hr237 (kr_oka (vp_in_nI (by omega) (by decide)) (by unfold kr_s; omega))
      have hk254 : (upd (upd fh 14 (nI q234)) 13 (nI q250)) 0 = (nI fi) := (pk_un (by decide)).trans hk238
      have hk255 : (upd (upd fh 14 (nI q234)) 13 (nI q250)) 1 = (nI 4) := (pk_un (by decide)).trans hk239
      have hP : va_P D vwCl [(ha, .inl (y 0, 30, .inl (upd (upd fh 14 (nI q234)) 13 (nI q250)))), (mo, .inr (11, [.ref to, .ref ke, .ref ik, .ref mrf, .long mab, .long mbl, .ref ha, .ref r0, .ref mbr, .ref mbp, .ref mby, .int (nI bl), .int (nI ta), .int (nI tl), .int (nI tk), .int vv, .ref an, .ref va])), (to, .inl (y 0, 228, .inl ft))] H := hP
      have hD : va_D A [(ha, .inl (y 0, 30, .inl (upd (upd fh 14 (nI q234)) 13 (nI q250)))), (mo, .inr (11, [.ref to, .ref ke, .ref ik, .ref mrf, .long mab, .long mbl, .ref ha, .ref r0, .ref mbr, .ref mbp, .ref mby, .int (nI bl), .int (nI ta), .int (nI tl), .int (nI tk), .int vv, .ref an, .ref va])), (to, .inl (y 0, 228, .inl ft))] := hD
      refine lv_iload_n hx hb dX11_placesBy_38 rfl (lv_at hl 1 rfl) ?_
      refine lv_aload_n hx hb dX11_placesBy_39 rfl (lv_at hl 4 rfl) ?_
      have hs256 : kw_Split [(ha, .inl (y 0, 30, .inl (upd (upd fh 14 (nI q234)) 13 (nI q250)))), (mo, .inr (11, [.ref to, .ref ke, .ref ik, .ref mrf, .long mab, .long mbl, .ref ha, .ref r0, .ref mbr, .ref mbp, .ref mby, .int (nI bl), .int (nI ta), .int (nI tl), .int (nI tk), .int vv, .ref an, .ref va])), (to, .inl (y 0, 228, .inl ft))] [(mo, .inr (11, [.ref to, .ref ke, .ref ik, .ref mrf, .long mab, .long mbl, .ref ha, .ref r0, .ref mbr, .ref mbp, .ref mby, .int (nI bl), .int (nI ta), .int (nI tl), .int (nI tk), .int vv, .ref an, .ref va])), (to, .inl (y 0, 228, .inl ft))] [(ha, .inl (y 0, 30, .inl (upd (upd fh 14 (nI q234)) 13 (nI q250))))] [1, 2] [0] := ⟨rfl, rfl, rfl, rfl, rfl, by decide⟩
      refine kw_go_i hs256 hP hD hS hA (va_runV (As := []) (rest := [.int (nI q243)]) ⟨hx, hb, hml, hown, hts⟩ (gr_many l D y mo to ke ik mrf ha r0 mbr mbp mby an va mab mbl bl ta tl tk vv ft fi 4 mi no un hk0_ hk1_ hk2_ hk3_ hk4_ hkt hfi hgl hmi hno hun _) (cwV 0 hts gX11_placesBy_X11_many rfl rfl rfl (by decide +kernel) ⟨Nat.le_of_ble_eq_true rfl, Nat.le_of_ble_eq_true rfl⟩) (kw_PreV (ci := 11) (q0 := 1) hs256 hP hD hK hN rfl rfl) rfl rfl hl.1 rfl (lv_room (Nat.le_of_ble_eq_true rfl)) dX11_placesBy_40 ⟨Nat.le_of_ble_eq_true rfl, Nat.le_of_ble_eq_true rfl⟩) (fun r257 u258 H locs hq hP hD hS => ?_)
      obtain rfl := hq
      have hP : va_P D vwCl [(ha, .inl (y 0, 30, .inl (upd (upd fh 14 (nI q234)) 13 (nI q250)))), (mo, .inr (11, [.ref to, .ref ke, .ref ik, .ref mrf, .long mab, .long mbl, .ref ha, .ref r0, .ref mbr, .ref mbp, .ref mby, .int (nI bl), .int (nI ta), .int (nI tl), .int (nI tk), .int vv, .ref an, .ref va])), (to, .inl (y 0, 228, .inl ft))] H := hP
      have hD : va_D A [(ha, .inl (y 0, 30, .inl (upd (upd fh 14 (nI q234)) 13 (nI q250)))), (mo, .inr (11, [.ref to, .ref ke, .ref ik, .ref mrf, .long mab, .long mbl, .ref ha, .ref r0, .ref mbr, .ref mbp, .ref mby, .int (nI bl), .int (nI ta), .int (nI tl), .int (nI tk), .int vv, .ref an, .ref va])), (to, .inl (y 0, 228, .inl ft))] := hD
      refine lv_idiv hx hb dX11_placesBy_43 (nI_ne0 (by omega) (by omega)) ?_
      obtain ⟨q259, h260, h261⟩ := kr_div (a := q243) (b := fi) (by omega) (by omega) (by omega)
      rw [h261]
      refine lv_istore_n (lv' := [(3, .int (nI q259)), (6, .int 2), (5, .int 1000000), (4, .int 0), (0, .ref mo), (1, .int (nI k)), (2, .int x)]) hx hb dX11_placesBy_44 rfl hl (by decide) rfl (fun ls hl => ?_)
      refine lv_iinc (v := 1) (lv' := [(6, .int 1), (3, .int (nI q259)), (5, .int 1000000), (4, .int 0), (0, .ref mo), (1, .int (nI k)), (2, .int x)]) hx hb dX11_placesBy_45 hl (k := 1) rfl (by decide) (by decide) rfl (fun ls hl => ?_)
      refine lv_goto (tgt := 17) hx hb dX11_placesBy_48 (by decide) ?_
      refine lv_iload hx hb dX11_placesBy_17 (lv_at hl 0 rfl) ?_
      refine lv_if_lt (tgt := 51) hx hb dX11_placesBy_19 (by decide) (fun h9 => absurd h9 (by decide)) (fun _ => ?_)
      refine lv_aload_n hx hb dX11_placesBy_22 rfl (lv_at hl 4 rfl) ?_
      refine va_get (D := D) (ci := 11) (v := .ref ha) (C := RX11) (T := TX11) (N := 18) hx hb hts iw11 hown hK hP 1 rfl rfl 6 (by decide) fw2 (fun _ h9 => h9) rfl dX11_placesBy_23 ?_
      refine lv_bipush (v := 11) hx hb dX11_placesBy_26 (by decide) ?_
      refine lv_iload hx hb dX11_placesBy_28 (lv_at hl 0 rfl) ?_
      refine lv_iadd hx hb dX11_placesBy_30 ?_
      refine lv_topi (fun z262 hz262 => ?_)
      obtain rfl : z262 = 12 := hz262.trans (by decide)
      refine lv_iload_n hx hb dX11_placesBy_31 rfl (lv_at hl 1 rfl) ?_
      refine lv_aload_n hx hb dX11_placesBy_32 rfl (lv_at hl 4 rfl) ?_
      have hs263 : kw_Split [(ha, .inl (y 0, 30, .inl (upd (upd fh 14 (nI q234)) 13 (nI q250)))), (mo, .inr (11, [.ref to, .ref ke, .ref ik, .ref mrf, .long mab, .long mbl, .ref ha, .ref r0, .ref mbr, .ref mbp, .ref mby, .int (nI bl), .int (nI ta), .int (nI tl), .int (nI tk), .int vv, .ref an, .ref va])), (to, .inl (y 0, 228, .inl ft))] [(mo, .inr (11, [.ref to, .ref ke, .ref ik, .ref mrf, .long mab, .long mbl, .ref ha, .ref r0, .ref mbr, .ref mbp, .ref mby, .int (nI bl), .int (nI ta), .int (nI tl), .int (nI tk), .int vv, .ref an, .ref va])), (to, .inl (y 0, 228, .inl ft))] [(ha, .inl (y 0, 30, .inl (upd (upd fh 14 (nI q234)) 13 (nI q250))))] [1, 2] [0] := ⟨rfl, rfl, rfl, rfl, rfl, by decide⟩
      refine kw_go_i hs263 hP hD hS hA (va_runV (As := []) (rest := [.int (nI q259), .int 12, .ref ha]) ⟨hx, hb, hml, hown, hts⟩ (gr_many l D y mo to ke ik mrf ha r0 mbr mbp mby an va mab mbl bl ta tl tk vv ft fi 4 mi no un hk0_ hk1_ hk2_ hk3_ hk4_ hkt hfi hgl hmi hno hun _) (cwV 0 hts gX11_placesBy_X11_many rfl rfl rfl (by decide +kernel) ⟨Nat.le_of_ble_eq_true rfl, Nat.le_of_ble_eq_true rfl⟩) (kw_PreV (ci := 11) (q0 := 1) hs263 hP hD hK hN rfl rfl) rfl rfl hl.1 rfl (lv_room (Nat.le_of_ble_eq_true rfl)) dX11_placesBy_33 ⟨Nat.le_of_ble_eq_true rfl, Nat.le_of_ble_eq_true rfl⟩) (fun r264 u265 H locs hq hP hD hS => ?_)
      obtain rfl := hq
      have hP : va_P D vwCl [(ha, .inl (y 0, 30, .inl (upd (upd fh 14 (nI q234)) 13 (nI q250)))), (mo, .inr (11, [.ref to, .ref ke, .ref ik, .ref mrf, .long mab, .long mbl, .ref ha, .ref r0, .ref mbr, .ref mbp, .ref mby, .int (nI bl), .int (nI ta), .int (nI tl), .int (nI tk), .int vv, .ref an, .ref va])), (to, .inl (y 0, 228, .inl ft))] H := hP
      have hD : va_D A [(ha, .inl (y 0, 30, .inl (upd (upd fh 14 (nI q234)) 13 (nI q250)))), (mo, .inr (11, [.ref to, .ref ke, .ref ik, .ref mrf, .long mab, .long mbl, .ref ha, .ref r0, .ref mbr, .ref mbp, .ref mby, .int (nI bl), .int (nI ta), .int (nI tl), .int (nI tk), .int vv, .ref an, .ref va])), (to, .inl (y 0, 228, .inl ft))] := hD
      refine lv_irem hx hb dX11_placesBy_36 (nI_ne0 (by omega) (by omega)) ?_
      obtain ⟨q266, h267, h268⟩ := kr_rem (a := q259) (b := fi) (by omega) (by omega) (by omega)
      rw [h268]
      refine va_iast hx hb hK hP hD hS 0 0 rfl rfl (by unfold vp_in; decide) dX11_placesBy_37 (fun H locs hP hD hS => ?_)
      rw [show ((12 : Int32)).toNatClampNeg = 12 from rfl] at hP hD
      have hr269 : kr_t 30 (upd (upd (upd fh 14 (nI q234)) 13 (nI q250)) 12 (nI q266)) := kr_up hr253 (kr_oka (vp_in_nI (by omega) (by decide)) (by unfold kr_s; omega))
      have hk270 : (upd (upd (upd fh 14 (nI q234)) 13 (nI q250)) 12 (nI q266)) 0 = (nI fi) := (pk_un (by decide)).trans hk254
      have hk271 : (upd (upd (upd fh 14 (nI q234)) 13 (nI q250)) 12 (nI q266)) 1 = (nI 4) := (pk_un (by decide)).trans hk255
      have hP : va_P D vwCl [(ha, .inl (y 0, 30, .inl (upd (upd (upd fh 14 (nI q234)) 13 (nI q250)) 12 (nI q266)))), (mo, .inr (11, [.ref to, .ref ke, .ref ik, .ref mrf, .long mab, .long mbl, .ref ha, .ref r0, .ref mbr, .ref mbp, .ref mby, .int (nI bl), .int (nI ta), .int (nI tl), .int (nI tk), .int vv, .ref an, .ref va])), (to, .inl (y 0, 228, .inl ft))] H := hP
      have hD : va_D A [(ha, .inl (y 0, 30, .inl (upd (upd (upd fh 14 (nI q234)) 13 (nI q250)) 12 (nI q266)))), (mo, .inr (11, [.ref to, .ref ke, .ref ik, .ref mrf, .long mab, .long mbl, .ref ha, .ref r0, .ref mbr, .ref mbp, .ref mby, .int (nI bl), .int (nI ta), .int (nI tl), .int (nI tk), .int vv, .ref an, .ref va])), (to, .inl (y 0, 228, .inl ft))] := hD
      refine lv_iload_n hx hb dX11_placesBy_38 rfl (lv_at hl 1 rfl) ?_
      refine lv_aload_n hx hb dX11_placesBy_39 rfl (lv_at hl 4 rfl) ?_
      have hs272 : kw_Split [(ha, .inl (y 0, 30, .inl (upd (upd (upd fh 14 (nI q234)) 13 (nI q250)) 12 (nI q266)))), (mo, .inr (11, [.ref to, .ref ke, .ref ik, .ref mrf, .long mab, .long mbl, .ref ha, .ref r0, .ref mbr, .ref mbp, .ref mby, .int (nI bl), .int (nI ta), .int (nI tl), .int (nI tk), .int vv, .ref an, .ref va])), (to, .inl (y 0, 228, .inl ft))] [(mo, .inr (11, [.ref to, .ref ke, .ref ik, .ref mrf, .long mab, .long mbl, .ref ha, .ref r0, .ref mbr, .ref mbp, .ref mby, .int (nI bl), .int (nI ta), .int (nI tl), .int (nI tk), .int vv, .ref an, .ref va])), (to, .inl (y 0, 228, .inl ft))] [(ha, .inl (y 0, 30, .inl (upd (upd (upd fh 14 (nI q234)) 13 (nI q250)) 12 (nI q266))))] [1, 2] [0] := ⟨rfl, rfl, rfl, rfl, rfl, by decide⟩
      refine kw_go_i hs272 hP hD hS hA (va_runV (As := []) (rest := [.int (nI q259)]) ⟨hx, hb, hml, hown, hts⟩ (gr_many l D y mo to ke ik mrf ha r0 mbr mbp mby an va mab mbl bl ta tl tk vv ft fi 4 mi no un hk0_ hk1_ hk2_ hk3_ hk4_ hkt hfi hgl hmi hno hun _) (cwV 0 hts gX11_placesBy_X11_many rfl rfl rfl (by decide +kernel) ⟨Nat.le_of_ble_eq_true rfl, Nat.le_of_ble_eq_true rfl⟩) (kw_PreV (ci := 11) (q0 := 1) hs272 hP hD hK hN rfl rfl) rfl rfl hl.1 rfl (lv_room (Nat.le_of_ble_eq_true rfl)) dX11_placesBy_40 ⟨Nat.le_of_ble_eq_true rfl, Nat.le_of_ble_eq_true rfl⟩) (fun r273 u274 H locs hq hP hD hS => ?_)
      obtain rfl := hq
      have hP : va_P D vwCl [(ha, .inl (y 0, 30, .inl (upd (upd (upd fh 14 (nI q234)) 13 (nI q250)) 12 (nI q266)))), (mo, .inr (11, [.ref to, .ref ke, .ref ik, .ref mrf, .long mab, .long mbl, .ref ha, .ref r0, .ref mbr, .ref mbp, .ref mby, .int (nI bl), .int (nI ta), .int (nI tl), .int (nI tk), .int vv, .ref an, .ref va])), (to, .inl (y 0, 228, .inl ft))] H := hP
      have hD : va_D A [(ha, .inl (y 0, 30, .inl (upd (upd (upd fh 14 (nI q234)) 13 (nI q250)) 12 (nI q266)))), (mo, .inr (11, [.ref to, .ref ke, .ref ik, .ref mrf, .long mab, .long mbl, .ref ha, .ref r0, .ref mbr, .ref mbp, .ref mby, .int (nI bl), .int (nI ta), .int (nI tl), .int (nI tk), .int vv, .ref an, .ref va])), (to, .inl (y 0, 228, .inl ft))] := hD
      refine lv_idiv hx hb dX11_placesBy_43 (nI_ne0 (by omega) (by omega)) ?_
      obtain ⟨q275, h276, h277⟩ := kr_div (a := q259) (b := fi) (by omega) (by omega) (by omega)
      rw [h277]
      refine lv_istore_n (lv' := [(3, .int (nI q275)), (6, .int 1), (5, .int 1000000), (4, .int 0), (0, .ref mo), (1, .int (nI k)), (2, .int x)]) hx hb dX11_placesBy_44 rfl hl (by decide) rfl (fun ls hl => ?_)
      refine lv_iinc (v := 0) (lv' := [(6, .int 0), (3, .int (nI q275)), (5, .int 1000000), (4, .int 0), (0, .ref mo), (1, .int (nI k)), (2, .int x)]) hx hb dX11_placesBy_45 hl (k := 1) rfl (by decide) (by decide) rfl (fun ls hl => ?_)
      refine lv_goto (tgt := 17) hx hb dX11_placesBy_48 (by decide) ?_
      refine lv_iload hx hb dX11_placesBy_17 (lv_at hl 0 rfl) ?_
      refine lv_if_lt (tgt := 51) hx hb dX11_placesBy_19 (by decide) (fun h9 => absurd h9 (by decide)) (fun _ => ?_)
      refine lv_aload_n hx hb dX11_placesBy_22 rfl (lv_at hl 4 rfl) ?_
      refine va_get (D := D) (ci := 11) (v := .ref ha) (C := RX11) (T := TX11) (N := 18) hx hb hts iw11 hown hK hP 1 rfl rfl 6 (by decide) fw2 (fun _ h9 => h9) rfl dX11_placesBy_23 ?_
      refine lv_bipush (v := 11) hx hb dX11_placesBy_26 (by decide) ?_
      refine lv_iload hx hb dX11_placesBy_28 (lv_at hl 0 rfl) ?_
      refine lv_iadd hx hb dX11_placesBy_30 ?_
      refine lv_topi (fun z278 hz278 => ?_)
      obtain rfl : z278 = 11 := hz278.trans (by decide)
      refine lv_iload_n hx hb dX11_placesBy_31 rfl (lv_at hl 1 rfl) ?_
      refine lv_aload_n hx hb dX11_placesBy_32 rfl (lv_at hl 4 rfl) ?_
      have hs279 : kw_Split [(ha, .inl (y 0, 30, .inl (upd (upd (upd fh 14 (nI q234)) 13 (nI q250)) 12 (nI q266)))), (mo, .inr (11, [.ref to, .ref ke, .ref ik, .ref mrf, .long mab, .long mbl, .ref ha, .ref r0, .ref mbr, .ref mbp, .ref mby, .int (nI bl), .int (nI ta), .int (nI tl), .int (nI tk), .int vv, .ref an, .ref va])), (to, .inl (y 0, 228, .inl ft))] [(mo, .inr (11, [.ref to, .ref ke, .ref ik, .ref mrf, .long mab, .long mbl, .ref ha, .ref r0, .ref mbr, .ref mbp, .ref mby, .int (nI bl), .int (nI ta), .int (nI tl), .int (nI tk), .int vv, .ref an, .ref va])), (to, .inl (y 0, 228, .inl ft))] [(ha, .inl (y 0, 30, .inl (upd (upd (upd fh 14 (nI q234)) 13 (nI q250)) 12 (nI q266))))] [1, 2] [0] := ⟨rfl, rfl, rfl, rfl, rfl, by decide⟩
      refine kw_go_i hs279 hP hD hS hA (va_runV (As := []) (rest := [.int (nI q275), .int 11, .ref ha]) ⟨hx, hb, hml, hown, hts⟩ (gr_many l D y mo to ke ik mrf ha r0 mbr mbp mby an va mab mbl bl ta tl tk vv ft fi 4 mi no un hk0_ hk1_ hk2_ hk3_ hk4_ hkt hfi hgl hmi hno hun _) (cwV 0 hts gX11_placesBy_X11_many rfl rfl rfl (by decide +kernel) ⟨Nat.le_of_ble_eq_true rfl, Nat.le_of_ble_eq_true rfl⟩) (kw_PreV (ci := 11) (q0 := 1) hs279 hP hD hK hN rfl rfl) rfl rfl hl.1 rfl (lv_room (Nat.le_of_ble_eq_true rfl)) dX11_placesBy_33 ⟨Nat.le_of_ble_eq_true rfl, Nat.le_of_ble_eq_true rfl⟩) (fun r280 u281 H locs hq hP hD hS => ?_)
      obtain rfl := hq
      have hP : va_P D vwCl [(ha, .inl (y 0, 30, .inl (upd (upd (upd fh 14 (nI q234)) 13 (nI q250)) 12 (nI q266)))), (mo, .inr (11, [.ref to, .ref ke, .ref ik, .ref mrf, .long mab, .long mbl, .ref ha, .ref r0, .ref mbr, .ref mbp, .ref mby, .int (nI bl), .int (nI ta), .int (nI tl), .int (nI tk), .int vv, .ref an, .ref va])), (to, .inl (y 0, 228, .inl ft))] H := hP
      have hD : va_D A [(ha, .inl (y 0, 30, .inl (upd (upd (upd fh 14 (nI q234)) 13 (nI q250)) 12 (nI q266)))), (mo, .inr (11, [.ref to, .ref ke, .ref ik, .ref mrf, .long mab, .long mbl, .ref ha, .ref r0, .ref mbr, .ref mbp, .ref mby, .int (nI bl), .int (nI ta), .int (nI tl), .int (nI tk), .int vv, .ref an, .ref va])), (to, .inl (y 0, 228, .inl ft))] := hD
      refine lv_irem hx hb dX11_placesBy_36 (nI_ne0 (by omega) (by omega)) ?_
      obtain ⟨q282, h283, h284⟩ := kr_rem (a := q275) (b := fi) (by omega) (by omega) (by omega)
      rw [h284]
      refine va_iast hx hb hK hP hD hS 0 0 rfl rfl (by unfold vp_in; decide) dX11_placesBy_37 (fun H locs hP hD hS => ?_)
      rw [show ((11 : Int32)).toNatClampNeg = 11 from rfl] at hP hD
      have hr285 : kr_t 30 (upd (upd (upd (upd fh 14 (nI q234)) 13 (nI q250)) 12 (nI q266)) 11 (nI q282)) := kr_up hr269 (kr_oka (vp_in_nI (by omega) (by decide)) (by unfold kr_s; omega))
      have hk286 : (upd (upd (upd (upd fh 14 (nI q234)) 13 (nI q250)) 12 (nI q266)) 11 (nI q282)) 0 = (nI fi) := (pk_un (by decide)).trans hk270
      have hk287 : (upd (upd (upd (upd fh 14 (nI q234)) 13 (nI q250)) 12 (nI q266)) 11 (nI q282)) 1 = (nI 4) := (pk_un (by decide)).trans hk271
      have hP : va_P D vwCl [(ha, .inl (y 0, 30, .inl (upd (upd (upd (upd fh 14 (nI q234)) 13 (nI q250)) 12 (nI q266)) 11 (nI q282)))), (mo, .inr (11, [.ref to, .ref ke, .ref ik, .ref mrf, .long mab, .long mbl, .ref ha, .ref r0, .ref mbr, .ref mbp, .ref mby, .int (nI bl), .int (nI ta), .int (nI tl), .int (nI tk), .int vv, .ref an, .ref va])), (to, .inl (y 0, 228, .inl ft))] H := hP
      have hD : va_D A [(ha, .inl (y 0, 30, .inl (upd (upd (upd (upd fh 14 (nI q234)) 13 (nI q250)) 12 (nI q266)) 11 (nI q282)))), (mo, .inr (11, [.ref to, .ref ke, .ref ik, .ref mrf, .long mab, .long mbl, .ref ha, .ref r0, .ref mbr, .ref mbp, .ref mby, .int (nI bl), .int (nI ta), .int (nI tl), .int (nI tk), .int vv, .ref an, .ref va])), (to, .inl (y 0, 228, .inl ft))] := hD
      refine lv_iload_n hx hb dX11_placesBy_38 rfl (lv_at hl 1 rfl) ?_
      refine lv_aload_n hx hb dX11_placesBy_39 rfl (lv_at hl 4 rfl) ?_
      have hs288 : kw_Split [(ha, .inl (y 0, 30, .inl (upd (upd (upd (upd fh 14 (nI q234)) 13 (nI q250)) 12 (nI q266)) 11 (nI q282)))), (mo, .inr (11, [.ref to, .ref ke, .ref ik, .ref mrf, .long mab, .long mbl, .ref ha, .ref r0, .ref mbr, .ref mbp, .ref mby, .int (nI bl), .int (nI ta), .int (nI tl), .int (nI tk), .int vv, .ref an, .ref va])), (to, .inl (y 0, 228, .inl ft))] [(mo, .inr (11, [.ref to, .ref ke, .ref ik, .ref mrf, .long mab, .long mbl, .ref ha, .ref r0, .ref mbr, .ref mbp, .ref mby, .int (nI bl), .int (nI ta), .int (nI tl), .int (nI tk), .int vv, .ref an, .ref va])), (to, .inl (y 0, 228, .inl ft))] [(ha, .inl (y 0, 30, .inl (upd (upd (upd (upd fh 14 (nI q234)) 13 (nI q250)) 12 (nI q266)) 11 (nI q282))))] [1, 2] [0] := ⟨rfl, rfl, rfl, rfl, rfl, by decide⟩
      refine kw_go_i hs288 hP hD hS hA (va_runV (As := []) (rest := [.int (nI q275)]) ⟨hx, hb, hml, hown, hts⟩ (gr_many l D y mo to ke ik mrf ha r0 mbr mbp mby an va mab mbl bl ta tl tk vv ft fi 4 mi no un hk0_ hk1_ hk2_ hk3_ hk4_ hkt hfi hgl hmi hno hun _) (cwV 0 hts gX11_placesBy_X11_many rfl rfl rfl (by decide +kernel) ⟨Nat.le_of_ble_eq_true rfl, Nat.le_of_ble_eq_true rfl⟩) (kw_PreV (ci := 11) (q0 := 1) hs288 hP hD hK hN rfl rfl) rfl rfl hl.1 rfl (lv_room (Nat.le_of_ble_eq_true rfl)) dX11_placesBy_40 ⟨Nat.le_of_ble_eq_true rfl, Nat.le_of_ble_eq_true rfl⟩) (fun r289 u290 H locs hq hP hD hS => ?_)
      obtain rfl := hq
      have hP : va_P D vwCl [(ha, .inl (y 0, 30, .inl (upd (upd (upd (upd fh 14 (nI q234)) 13 (nI q250)) 12 (nI q266)) 11 (nI q282)))), (mo, .inr (11, [.ref to, .ref ke, .ref ik, .ref mrf, .long mab, .long mbl, .ref ha, .ref r0, .ref mbr, .ref mbp, .ref mby, .int (nI bl), .int (nI ta), .int (nI tl), .int (nI tk), .int vv, .ref an, .ref va])), (to, .inl (y 0, 228, .inl ft))] H := hP
      have hD : va_D A [(ha, .inl (y 0, 30, .inl (upd (upd (upd (upd fh 14 (nI q234)) 13 (nI q250)) 12 (nI q266)) 11 (nI q282)))), (mo, .inr (11, [.ref to, .ref ke, .ref ik, .ref mrf, .long mab, .long mbl, .ref ha, .ref r0, .ref mbr, .ref mbp, .ref mby, .int (nI bl), .int (nI ta), .int (nI tl), .int (nI tk), .int vv, .ref an, .ref va])), (to, .inl (y 0, 228, .inl ft))] := hD
      refine lv_idiv hx hb dX11_placesBy_43 (nI_ne0 (by omega) (by omega)) ?_
      obtain ⟨q291, h292, h293⟩ := kr_div (a := q275) (b := fi) (by omega) (by omega) (by omega)
      rw [h293]
      refine lv_istore_n (lv' := [(3, .int (nI q291)), (6, .int 0), (5, .int 1000000), (4, .int 0), (0, .ref mo), (1, .int (nI k)), (2, .int x)]) hx hb dX11_placesBy_44 rfl hl (by decide) rfl (fun ls hl => ?_)
      refine lv_iinc (v := (-1)) (lv' := [(6, .int (-1)), (3, .int (nI q291)), (5, .int 1000000), (4, .int 0), (0, .ref mo), (1, .int (nI k)), (2, .int x)]) hx hb dX11_placesBy_45 hl (k := 1) rfl (by decide) (by decide) rfl (fun ls hl => ?_)
      refine lv_goto (tgt := 17) hx hb dX11_placesBy_48 (by decide) ?_
      refine lv_iload hx hb dX11_placesBy_17 (lv_at hl 0 rfl) ?_
      refine lv_if_lt (tgt := 51) hx hb dX11_placesBy_19 (by decide) (fun _ => ?_) (fun h9 => absurd h9 (by decide))
      refine lv_iconst (v := 0) hx hb dX11_placesBy_51 (by decide) ?_
      refine lv_istore (lv' := [(6, .int 0), (3, .int (nI q291)), (5, .int 1000000), (4, .int 0), (0, .ref mo), (1, .int (nI k)), (2, .int x)]) hx hb dX11_placesBy_52 hl (by decide) rfl (fun ls hl => ?_)
      have lp320 : ∀ (fuj91 j91 : Nat) (x306 : Int32) (x307 : Int32) (H : Heap) (locs : List Loc) (ls : Array Slot), j91 ≤ 4 → 4 - j91 < fuj91 → va_P D vwCl [(ha, .inl (y 0, 30, .inl (upd (upd (upd (upd fh 14 (nI q234)) 13 (nI q250)) 12 (nI q266)) 11 (nI q282)))), (mo, .inr (11, [.ref to, .ref ke, .ref ik, .ref mrf, .long mab, .long mbl, .ref ha, .ref r0, .ref mbr, .ref mbp, .ref mby, .int (nI bl), .int (nI ta), .int (nI tl), .int (nI tk), .int vv, .ref an, .ref va])), (to, .inl (y 0, 228, .inl ft))] H → va_D A [(ha, .inl (y 0, 30, .inl (upd (upd (upd (upd fh 14 (nI q234)) 13 (nI q250)) 12 (nI q266)) 11 (nI q282)))), (mo, .inr (11, [.ref to, .ref ke, .ref ik, .ref mrf, .long mab, .long mbl, .ref ha, .ref r0, .ref mbr, .ref mbp, .ref mby, .int (nI bl), .int (nI ta), .int (nI tl), .int (nI tk), .int vv, .ref an, .ref va])), (to, .inl (y 0, 228, .inl ft))] → va_S A s.heap H locs → lv_has ls 8 [(6, .int (nI j91)), (3, .int (nI q291)), (5, .int x307), (4, .int x306), (0, .ref mo), (1, .int (nI k)), (2, .int x)] → W pZ l eZ ({ frames := 6, cells := 0, slots := 0, locals := 172 }) s mZ [.ref mo, .int (nI k), .int x].toArray beZ meZ cZ H locs 0 0 (MQ beZ (va_Qi (fun (r : Int32) (u : (Nat → Int32)) => kr_t 30 u ∧ u 0 = (nI fi) ∧ u 1 = (nI 4)) (kw_B D (fun u => [(mo, .inr (11, [.ref to, .ref ke, .ref ik, .ref mrf, .long mab, .long mbl, .ref ha, .ref r0, .ref mbr, .ref mbp, .ref mby, .int (nI bl), .int (nI ta), .int (nI tl), .int (nI tk), .int vv, .ref an, .ref va])), (to, .inl (y 0, 228, .inl ft)), (ha, .inl (y 0, 30, .inl u))]) A) A) [.ref mo, .int (nI k), .int x].toArray s 0 0 A) (F0 mZ 54 ls []) := by
        intro fuj91
        induction fuj91 with
        | zero => intro j91 x306 x307 H locs ls hj9 hf9; exact absurd hf9 (Nat.not_lt_zero _)
        | succ fuj91 ihj91 =>
          intro j91 x306 x307 H locs ls hj91 hfj91  hP hD hS hl
          refine lv_iload hx hb dX11_placesBy_54 (lv_at hl 0 rfl) ?_
          refine lv_aload_n hx hb dX11_placesBy_56 rfl (lv_at hl 4 rfl) ?_
          have hs321 : kw_Split [(ha, .inl (y 0, 30, .inl (upd (upd (upd (upd fh 14 (nI q234)) 13 (nI q250)) 12 (nI q266)) 11 (nI q282)))), (mo, .inr (11, [.ref to, .ref ke, .ref ik, .ref mrf, .long mab, .long mbl, .ref ha, .ref r0, .ref mbr, .ref mbp, .ref mby, .int (nI bl), .int (nI ta), .int (nI tl), .int (nI tk), .int vv, .ref an, .ref va])), (to, .inl (y 0, 228, .inl ft))] [(mo, .inr (11, [.ref to, .ref ke, .ref ik, .ref mrf, .long mab, .long mbl, .ref ha, .ref r0, .ref mbr, .ref mbp, .ref mby, .int (nI bl), .int (nI ta), .int (nI tl), .int (nI tk), .int vv, .ref an, .ref va])), (to, .inl (y 0, 228, .inl ft))] [(ha, .inl (y 0, 30, .inl (upd (upd (upd (upd fh 14 (nI q234)) 13 (nI q250)) 12 (nI q266)) 11 (nI q282))))] [1, 2] [0] := ⟨rfl, rfl, rfl, rfl, rfl, by decide⟩
          refine kw_go_i hs321 hP hD hS hA (va_runV (As := []) (rest := [.int (nI j91)]) ⟨hx, hb, hml, hown, hts⟩ (gr_manyGleaners l D y mo to ke ik mrf ha r0 mbr mbp mby an va mab mbl bl ta tl tk vv ft fi 4 mi no un hk0_ hk1_ hk2_ hk3_ hk4_ hkt hfi hgl hmi hno hun _) (cwV 0 hts gX11_placesBy_X11_manyGleaners rfl rfl rfl (by decide +kernel) ⟨Nat.le_of_ble_eq_true rfl, Nat.le_of_ble_eq_true rfl⟩) (kw_PreV (ci := 11) (q0 := 1) hs321 hP hD hK hN rfl rfl) rfl rfl hl.1 rfl (lv_room (Nat.le_of_ble_eq_true rfl)) dX11_placesBy_57 ⟨Nat.le_of_ble_eq_true rfl, Nat.le_of_ble_eq_true rfl⟩) (fun r322 u323 H locs hq hP hD hS => ?_)
          obtain rfl := hq
          have hP : va_P D vwCl [(ha, .inl (y 0, 30, .inl (upd (upd (upd (upd fh 14 (nI q234)) 13 (nI q250)) 12 (nI q266)) 11 (nI q282)))), (mo, .inr (11, [.ref to, .ref ke, .ref ik, .ref mrf, .long mab, .long mbl, .ref ha, .ref r0, .ref mbr, .ref mbp, .ref mby, .int (nI bl), .int (nI ta), .int (nI tl), .int (nI tk), .int vv, .ref an, .ref va])), (to, .inl (y 0, 228, .inl ft))] H := hP
          have hD : va_D A [(ha, .inl (y 0, 30, .inl (upd (upd (upd (upd fh 14 (nI q234)) 13 (nI q250)) 12 (nI q266)) 11 (nI q282)))), (mo, .inr (11, [.ref to, .ref ke, .ref ik, .ref mrf, .long mab, .long mbl, .ref ha, .ref r0, .ref mbr, .ref mbp, .ref mby, .int (nI bl), .int (nI ta), .int (nI tl), .int (nI tk), .int vv, .ref an, .ref va])), (to, .inl (y 0, 228, .inl ft))] := hD
          refine lv_icmp_ge (tgt := 103) hx hb dX11_placesBy_60 (by decide) (fun h324 => ?_) (fun h325 => ?_)
          · skip
            have h324 : 4 ≤ j91 := (nI_leI (a := 4) (b := j91) (by omega) (by omega)).mp h324
            refine lv_iload_n hx hb dX11_placesBy_103 rfl (lv_at hl 6 rfl) ?_
            refine lv_if_ne (tgt := 112) hx hb dX11_placesBy_104 (by decide) (fun h326 => ?_) (fun h327 => ?_)
            · skip
              refine lv_iload hx hb dX11_placesBy_112 (lv_at hl 2 rfl) ?_
              exact W.iret (v := x307) hx hb hr (fun tZ ht hW => ⟨⟨x307, ((upd (upd (upd (upd fh 14 (nI q234)) 13 (nI q250)) 12 (nI q266)) 11 (nI q282))), rfl, ⟨hr285, hk286, hk287⟩, by rw [ht]; exact hP.sub [1, 2, 0] rfl, hD.sub [1, 2, 0] (by decide) rfl⟩, hS.F ht⟩) hS.2.2 dX11_placesBy_114
            · skip
              refine lv_iload hx hb dX11_placesBy_107 (lv_at hl 3 rfl) ?_
              refine lv_goto (tgt := 114) hx hb dX11_placesBy_109 (by decide) ?_
              exact W.iret (v := x306) hx hb hr (fun tZ ht hW => ⟨⟨x306, ((upd (upd (upd (upd fh 14 (nI q234)) 13 (nI q250)) 12 (nI q266)) 11 (nI q282))), rfl, ⟨hr285, hk286, hk287⟩, by rw [ht]; exact hP.sub [1, 2, 0] rfl, hD.sub [1, 2, 0] (by decide) rfl⟩, hS.F ht⟩) hS.2.2 dX11_placesBy_114
          · skip
            have h325 : ¬ 4 ≤ j91 := fun q9 => h325 ((nI_leI (a := 4) (b := j91) (by omega) (by omega)).mpr q9)
            refine lv_aload_n hx hb dX11_placesBy_63 rfl (lv_at hl 4 rfl) ?_
            refine va_get (D := D) (ci := 11) (v := .ref ha) (C := RX11) (T := TX11) (N := 18) hx hb hts iw11 hown hK hP 1 rfl rfl 6 (by decide) fw2 (fun _ h9 => h9) rfl dX11_placesBy_64 ?_
            refine lv_iload hx hb dX11_placesBy_67 (lv_at hl 0 rfl) ?_
            have hs328 : kw_Split [(ha, .inl (y 0, 30, .inl (upd (upd (upd (upd fh 14 (nI q234)) 13 (nI q250)) 12 (nI q266)) 11 (nI q282)))), (mo, .inr (11, [.ref to, .ref ke, .ref ik, .ref mrf, .long mab, .long mbl, .ref ha, .ref r0, .ref mbr, .ref mbp, .ref mby, .int (nI bl), .int (nI ta), .int (nI tl), .int (nI tk), .int vv, .ref an, .ref va])), (to, .inl (y 0, 228, .inl ft))] [(ha, .inl (y 0, 30, .inl (upd (upd (upd (upd fh 14 (nI q234)) 13 (nI q250)) 12 (nI q266)) 11 (nI q282))))] [(mo, .inr (11, [.ref to, .ref ke, .ref ik, .ref mrf, .long mab, .long mbl, .ref ha, .ref r0, .ref mbr, .ref mbp, .ref mby, .int (nI bl), .int (nI ta), .int (nI tl), .int (nI tk), .int vv, .ref an, .ref va])), (to, .inl (y 0, 228, .inl ft))] [0] [1, 2] := ⟨rfl, rfl, rfl, rfl, rfl, by decide⟩
            refine kw_go_i hs328 hP hD hS hA (va_runS (As := [.ref ha, .int (nI j91)]) (rest := []) ⟨hx, hb, hml, hown, hts⟩ (gr_getsOne30 l D y ha (upd (upd (upd (upd fh 14 (nI q234)) 13 (nI q250)) 12 (nI q266)) 11 (nI q282)) fi 4 j91 hk286 hk287 hr285 hfi hgl (by omega) _) (va_cwS 2 hts gX11_placesBy_X11_getsOne rfl rfl rfl (by decide +kernel) ⟨Nat.le_of_ble_eq_true rfl, Nat.le_of_ble_eq_true rfl⟩) (kw_PreS hs328 hP hD hK hN) rfl rfl hl.1 rfl (lv_room (Nat.le_of_ble_eq_true rfl)) dX11_placesBy_69 ⟨Nat.le_of_ble_eq_true rfl, Nat.le_of_ble_eq_true rfl⟩) (fun r329 u330 H locs hq hP hD hS => ?_)
            have hP : va_P D vwCl [(mo, .inr (11, [.ref to, .ref ke, .ref ik, .ref mrf, .long mab, .long mbl, .ref ha, .ref r0, .ref mbr, .ref mbp, .ref mby, .int (nI bl), .int (nI ta), .int (nI tl), .int (nI tk), .int vv, .ref an, .ref va])), (to, .inl (y 0, 228, .inl ft)), (ha, .inl (y 0, 30, .inl (upd (upd (upd (upd fh 14 (nI q234)) 13 (nI q250)) 12 (nI q266)) 11 (nI q282))))] H := hP
            have hD : va_D A [(mo, .inr (11, [.ref to, .ref ke, .ref ik, .ref mrf, .long mab, .long mbl, .ref ha, .ref r0, .ref mbr, .ref mbp, .ref mby, .int (nI bl), .int (nI ta), .int (nI tl), .int (nI tk), .int vv, .ref an, .ref va])), (to, .inl (y 0, 228, .inl ft)), (ha, .inl (y 0, 30, .inl (upd (upd (upd (upd fh 14 (nI q234)) 13 (nI q250)) 12 (nI q266)) 11 (nI q282))))] := hD
            refine lv_istore (lv' := [(7, .int r329), (6, .int (nI j91)), (3, .int (nI q291)), (5, .int x307), (4, .int x306), (0, .ref mo), (1, .int (nI k)), (2, .int x)]) hx hb dX11_placesBy_72 hl (by decide) rfl (fun ls hl => ?_)
            refine lv_iload hx hb dX11_placesBy_74 (lv_at hl 4 rfl) ?_
            refine lv_iload hx hb dX11_placesBy_76 (lv_at hl 0 rfl) ?_
            refine lv_iadd hx hb dX11_placesBy_78 ?_
            refine lv_istore (lv' := [(4, .int (x306 + r329)), (7, .int r329), (6, .int (nI j91)), (3, .int (nI q291)), (5, .int x307), (0, .ref mo), (1, .int (nI k)), (2, .int x)]) hx hb dX11_placesBy_79 hl (by decide) rfl (fun ls hl => ?_)
            refine lv_iload hx hb dX11_placesBy_81 (lv_at hl 1 rfl) ?_
            refine lv_iload hx hb dX11_placesBy_83 (lv_at hl 4 rfl) ?_
            refine lv_icmp_ge (tgt := 93) hx hb dX11_placesBy_85 (by decide) (fun h331 => ?_) (fun h332 => ?_)
            · skip
              refine lv_iload hx hb dX11_placesBy_93 (lv_at hl 4 rfl) ?_
              refine lv_istore (lv' := [(5, .int x307), (4, .int (x306 + r329)), (7, .int r329), (6, .int (nI j91)), (3, .int (nI q291)), (0, .ref mo), (1, .int (nI k)), (2, .int x)]) hx hb dX11_placesBy_95 hl (by decide) rfl (fun ls hl => ?_)
              refine lv_iinc (v := (nI (j91 + 1))) (lv' := [(6, .int (nI (j91 + 1))), (5, .int x307), (4, .int (x306 + r329)), (7, .int r329), (3, .int (nI q291)), (0, .ref mo), (1, .int (nI k)), (2, .int x)]) hx hb dX11_placesBy_97 hl (k := 3) rfl (nI_1 j91) (by decide) rfl (fun ls hl => ?_)
              refine lv_goto (tgt := 54) hx hb dX11_placesBy_100 (by decide) ?_
              exact ihj91 (j91 + 1) (x306 + r329) x307 H locs ls (by omega) (by omega)  (hP.sub [2, 0, 1] rfl) (hD.sub [2, 0, 1] (by decide) rfl) hS (lv_sub hl [0, 4, 1, 2, 5, 6, 7] rfl)
            · skip
              refine lv_iload hx hb dX11_placesBy_88 (lv_at hl 1 rfl) ?_
              refine lv_goto (tgt := 95) hx hb dX11_placesBy_90 (by decide) ?_
              refine lv_istore (lv' := [(5, .int r329), (4, .int (x306 + r329)), (7, .int r329), (6, .int (nI j91)), (3, .int (nI q291)), (0, .ref mo), (1, .int (nI k)), (2, .int x)]) hx hb dX11_placesBy_95 hl (by decide) rfl (fun ls hl => ?_)
              refine lv_iinc (v := (nI (j91 + 1))) (lv' := [(6, .int (nI (j91 + 1))), (5, .int r329), (4, .int (x306 + r329)), (7, .int r329), (3, .int (nI q291)), (0, .ref mo), (1, .int (nI k)), (2, .int x)]) hx hb dX11_placesBy_97 hl (k := 3) rfl (nI_1 j91) (by decide) rfl (fun ls hl => ?_)
              refine lv_goto (tgt := 54) hx hb dX11_placesBy_100 (by decide) ?_
              exact ihj91 (j91 + 1) (x306 + r329) r329 H locs ls (by omega) (by omega)  (hP.sub [2, 0, 1] rfl) (hD.sub [2, 0, 1] (by decide) rfl) hS (lv_sub hl [0, 4, 1, 2, 5, 6, 7] rfl)
      exact lp320 (4 + 1) 0 0 1000000 _ _ _ (by omega) (by omega)  hP hD hS (lv_sub hl [0, 1, 2, 3, 4, 5, 6] rfl)
  · skip
    refine lv_aload_n hx hb dX11_placesBy_9 rfl (lv_at hl 3 rfl) ?_
    have hs333 : kw_Split [(mo, .inr (11, [.ref to, .ref ke, .ref ik, .ref mrf, .long mab, .long mbl, .ref ha, .ref r0, .ref mbr, .ref mbp, .ref mby, .int (nI bl), .int (nI ta), .int (nI tl), .int (nI tk), .int vv, .ref an, .ref va])), (to, .inl (y 0, 228, .inl ft)), (ha, .inl (y 0, 30, .inl fh))] [(mo, .inr (11, [.ref to, .ref ke, .ref ik, .ref mrf, .long mab, .long mbl, .ref ha, .ref r0, .ref mbr, .ref mbp, .ref mby, .int (nI bl), .int (nI ta), .int (nI tl), .int (nI tk), .int vv, .ref an, .ref va])), (to, .inl (y 0, 228, .inl ft))] [(ha, .inl (y 0, 30, .inl fh))] [0, 1] [2] := ⟨rfl, rfl, rfl, rfl, rfl, by decide⟩
    refine kw_go_i hs333 hP hD hS hA (va_runV (As := []) (rest := []) ⟨hx, hb, hml, hown, hts⟩ (gr_manyGleaners l D y mo to ke ik mrf ha r0 mbr mbp mby an va mab mbl bl ta tl tk vv ft fi 5 mi no un hk0_ hk1_ hk2_ hk3_ hk4_ hkt hfi hgl hmi hno hun _) (cwV 0 hts gX11_placesBy_X11_manyGleaners rfl rfl rfl (by decide +kernel) ⟨Nat.le_of_ble_eq_true rfl, Nat.le_of_ble_eq_true rfl⟩) (kw_PreV (ci := 11) (q0 := 0) hs333 hP hD hK hN rfl rfl) rfl rfl hl.1 rfl (lv_room (Nat.le_of_ble_eq_true rfl)) dX11_placesBy_10 ⟨Nat.le_of_ble_eq_true rfl, Nat.le_of_ble_eq_true rfl⟩) (fun r334 u335 H locs hq hP hD hS => ?_)
    obtain rfl := hq
    have hP : va_P D vwCl [(ha, .inl (y 0, 30, .inl fh)), (mo, .inr (11, [.ref to, .ref ke, .ref ik, .ref mrf, .long mab, .long mbl, .ref ha, .ref r0, .ref mbr, .ref mbp, .ref mby, .int (nI bl), .int (nI ta), .int (nI tl), .int (nI tk), .int vv, .ref an, .ref va])), (to, .inl (y 0, 228, .inl ft))] H := hP
    have hD : va_D A [(ha, .inl (y 0, 30, .inl fh)), (mo, .inr (11, [.ref to, .ref ke, .ref ik, .ref mrf, .long mab, .long mbl, .ref ha, .ref r0, .ref mbr, .ref mbp, .ref mby, .int (nI bl), .int (nI ta), .int (nI tl), .int (nI tk), .int vv, .ref an, .ref va])), (to, .inl (y 0, 228, .inl ft))] := hD
    refine lv_iconst (v := 1) hx hb dX11_placesBy_13 (by decide) ?_
    refine lv_isub hx hb dX11_placesBy_14 ?_
    rw [show (nI 5) - 1 = nI (4) from pk_sub (a := 5) (b := 1) (by omega)]
    refine lv_istore (lv' := [(6, .int (nI 4)), (5, .int 1000000), (4, .int 0), (3, .int (nI k)), (0, .ref mo), (1, .int (nI k)), (2, .int x)]) hx hb dX11_placesBy_15 hl (by decide) rfl (fun ls hl => ?_)
    refine lv_iload hx hb dX11_placesBy_17 (lv_at hl 0 rfl) ?_
    refine lv_if_lt (tgt := 51) hx hb dX11_placesBy_19 (by decide) (fun h336 => ?_) (fun h337 => ?_)
    · skip
      have h336 : 4 < 0 := (nI_ltI (a := 4) (b := 0) (by omega) (by omega)).mp h336
      exact absurd h336 (by omega)
    · skip
      have h337 : ¬ 4 < 0 := fun q9 => h337 ((nI_ltI (a := 4) (b := 0) (by omega) (by omega)).mpr q9)
      refine lv_aload_n hx hb dX11_placesBy_22 rfl (lv_at hl 4 rfl) ?_
      refine va_get (D := D) (ci := 11) (v := .ref ha) (C := RX11) (T := TX11) (N := 18) hx hb hts iw11 hown hK hP 1 rfl rfl 6 (by decide) fw2 (fun _ h9 => h9) rfl dX11_placesBy_23 ?_
      refine lv_bipush (v := 11) hx hb dX11_placesBy_26 (by decide) ?_
      refine lv_iload hx hb dX11_placesBy_28 (lv_at hl 0 rfl) ?_
      refine lv_iadd hx hb dX11_placesBy_30 ?_
      rw [show 11 + (nI 4) = nI (15) from nI_add 11 4]
      refine lv_iload_n hx hb dX11_placesBy_31 rfl (lv_at hl 3 rfl) ?_
      refine lv_aload_n hx hb dX11_placesBy_32 rfl (lv_at hl 4 rfl) ?_
      have hs338 : kw_Split [(ha, .inl (y 0, 30, .inl fh)), (mo, .inr (11, [.ref to, .ref ke, .ref ik, .ref mrf, .long mab, .long mbl, .ref ha, .ref r0, .ref mbr, .ref mbp, .ref mby, .int (nI bl), .int (nI ta), .int (nI tl), .int (nI tk), .int vv, .ref an, .ref va])), (to, .inl (y 0, 228, .inl ft))] [(mo, .inr (11, [.ref to, .ref ke, .ref ik, .ref mrf, .long mab, .long mbl, .ref ha, .ref r0, .ref mbr, .ref mbp, .ref mby, .int (nI bl), .int (nI ta), .int (nI tl), .int (nI tk), .int vv, .ref an, .ref va])), (to, .inl (y 0, 228, .inl ft))] [(ha, .inl (y 0, 30, .inl fh))] [1, 2] [0] := ⟨rfl, rfl, rfl, rfl, rfl, by decide⟩
      refine kw_go_i hs338 hP hD hS hA (va_runV (As := []) (rest := [.int (nI k), .int (nI 15), .ref ha]) ⟨hx, hb, hml, hown, hts⟩ (gr_many l D y mo to ke ik mrf ha r0 mbr mbp mby an va mab mbl bl ta tl tk vv ft fi 5 mi no un hk0_ hk1_ hk2_ hk3_ hk4_ hkt hfi hgl hmi hno hun _) (cwV 0 hts gX11_placesBy_X11_many rfl rfl rfl (by decide +kernel) ⟨Nat.le_of_ble_eq_true rfl, Nat.le_of_ble_eq_true rfl⟩) (kw_PreV (ci := 11) (q0 := 1) hs338 hP hD hK hN rfl rfl) rfl rfl hl.1 rfl (lv_room (Nat.le_of_ble_eq_true rfl)) dX11_placesBy_33 ⟨Nat.le_of_ble_eq_true rfl, Nat.le_of_ble_eq_true rfl⟩) (fun r339 u340 H locs hq hP hD hS => ?_)
      obtain rfl := hq
      have hP : va_P D vwCl [(ha, .inl (y 0, 30, .inl fh)), (mo, .inr (11, [.ref to, .ref ke, .ref ik, .ref mrf, .long mab, .long mbl, .ref ha, .ref r0, .ref mbr, .ref mbp, .ref mby, .int (nI bl), .int (nI ta), .int (nI tl), .int (nI tk), .int vv, .ref an, .ref va])), (to, .inl (y 0, 228, .inl ft))] H := hP
      have hD : va_D A [(ha, .inl (y 0, 30, .inl fh)), (mo, .inr (11, [.ref to, .ref ke, .ref ik, .ref mrf, .long mab, .long mbl, .ref ha, .ref r0, .ref mbr, .ref mbp, .ref mby, .int (nI bl), .int (nI ta), .int (nI tl), .int (nI tk), .int vv, .ref an, .ref va])), (to, .inl (y 0, 228, .inl ft))] := hD
      refine lv_irem hx hb dX11_placesBy_36 (nI_ne0 (by omega) (by omega)) ?_
      obtain ⟨q341, h342, h343⟩ := kr_rem (a := k) (b := fi) (by omega) (by omega) (by omega)
      rw [h343]
      refine va_iast hx hb hK hP hD hS 0 0 rfl rfl (vp_in_nI (by omega) (by decide)) dX11_placesBy_37 (fun H locs hP hD hS => ?_)
      rw [nI_clamp (n := 15) (by omega)] at hP hD
      have hr344 : kr_t 30 (upd fh 15 (nI q341)) := kr_up hkh (kr_oka (vp_in_nI (by omega) (by decide)) (by unfold kr_s; omega))
      have hk345 : (upd fh 15 (nI q341)) 0 = (nI fi) := (pk_un (by decide)).trans hh0_
      have hk346 : (upd fh 15 (nI q341)) 1 = (nI 5) := (pk_un (by decide)).trans hh1_
      have hP : va_P D vwCl [(ha, .inl (y 0, 30, .inl (upd fh 15 (nI q341)))), (mo, .inr (11, [.ref to, .ref ke, .ref ik, .ref mrf, .long mab, .long mbl, .ref ha, .ref r0, .ref mbr, .ref mbp, .ref mby, .int (nI bl), .int (nI ta), .int (nI tl), .int (nI tk), .int vv, .ref an, .ref va])), (to, .inl (y 0, 228, .inl ft))] H := hP
      have hD : va_D A [(ha, .inl (y 0, 30, .inl (upd fh 15 (nI q341)))), (mo, .inr (11, [.ref to, .ref ke, .ref ik, .ref mrf, .long mab, .long mbl, .ref ha, .ref r0, .ref mbr, .ref mbp, .ref mby, .int (nI bl), .int (nI ta), .int (nI tl), .int (nI tk), .int vv, .ref an, .ref va])), (to, .inl (y 0, 228, .inl ft))] := hD
      refine lv_iload_n hx hb dX11_placesBy_38 rfl (lv_at hl 3 rfl) ?_
      refine lv_aload_n hx hb dX11_placesBy_39 rfl (lv_at hl 4 rfl) ?_
      have hs347 : kw_Split [(ha, .inl (y 0, 30, .inl (upd fh 15 (nI q341)))), (mo, .inr (11, [.ref to, .ref ke, .ref ik, .ref mrf, .long mab, .long mbl, .ref ha, .ref r0, .ref mbr, .ref mbp, .ref mby, .int (nI bl), .int (nI ta), .int (nI tl), .int (nI tk), .int vv, .ref an, .ref va])), (to, .inl (y 0, 228, .inl ft))] [(mo, .inr (11, [.ref to, .ref ke, .ref ik, .ref mrf, .long mab, .long mbl, .ref ha, .ref r0, .ref mbr, .ref mbp, .ref mby, .int (nI bl), .int (nI ta), .int (nI tl), .int (nI tk), .int vv, .ref an, .ref va])), (to, .inl (y 0, 228, .inl ft))] [(ha, .inl (y 0, 30, .inl (upd fh 15 (nI q341))))] [1, 2] [0] := ⟨rfl, rfl, rfl, rfl, rfl, by decide⟩
      refine kw_go_i hs347 hP hD hS hA (va_runV (As := []) (rest := [.int (nI k)]) ⟨hx, hb, hml, hown, hts⟩ (gr_many l D y mo to ke ik mrf ha r0 mbr mbp mby an va mab mbl bl ta tl tk vv ft fi 5 mi no un hk0_ hk1_ hk2_ hk3_ hk4_ hkt hfi hgl hmi hno hun _) (cwV 0 hts gX11_placesBy_X11_many rfl rfl rfl (by decide +kernel) ⟨Nat.le_of_ble_eq_true rfl, Nat.le_of_ble_eq_true rfl⟩) (kw_PreV (ci := 11) (q0 := 1) hs347 hP hD hK hN rfl rfl) rfl rfl hl.1 rfl (lv_room (Nat.le_of_ble_eq_true rfl)) dX11_placesBy_40 ⟨Nat.le_of_ble_eq_true rfl, Nat.le_of_ble_eq_true rfl⟩) (fun r348 u349 H locs hq hP hD hS => ?_)
      obtain rfl := hq
      have hP : va_P D vwCl [(ha, .inl (y 0, 30, .inl (upd fh 15 (nI q341)))), (mo, .inr (11, [.ref to, .ref ke, .ref ik, .ref mrf, .long mab, .long mbl, .ref ha, .ref r0, .ref mbr, .ref mbp, .ref mby, .int (nI bl), .int (nI ta), .int (nI tl), .int (nI tk), .int vv, .ref an, .ref va])), (to, .inl (y 0, 228, .inl ft))] H := hP
      have hD : va_D A [(ha, .inl (y 0, 30, .inl (upd fh 15 (nI q341)))), (mo, .inr (11, [.ref to, .ref ke, .ref ik, .ref mrf, .long mab, .long mbl, .ref ha, .ref r0, .ref mbr, .ref mbp, .ref mby, .int (nI bl), .int (nI ta), .int (nI tl), .int (nI tk), .int vv, .ref an, .ref va])), (to, .inl (y 0, 228, .inl ft))] := hD
      refine lv_idiv hx hb dX11_placesBy_43 (nI_ne0 (by omega) (by omega)) ?_
      obtain ⟨q350, h351, h352⟩ := kr_div (a := k) (b := fi) (by omega) (by omega) (by omega)
      rw [h352]
      refine lv_istore_n (lv' := [(3, .int (nI q350)), (6, .int (nI 4)), (5, .int 1000000), (4, .int 0), (0, .ref mo), (1, .int (nI k)), (2, .int x)]) hx hb dX11_placesBy_44 rfl hl (by decide) rfl (fun ls hl => ?_)
      refine lv_iinc (v := 3) (lv' := [(6, .int 3), (3, .int (nI q350)), (5, .int 1000000), (4, .int 0), (0, .ref mo), (1, .int (nI k)), (2, .int x)]) hx hb dX11_placesBy_45 hl (k := 1) rfl (by decide) (by decide) rfl (fun ls hl => ?_)
      refine lv_goto (tgt := 17) hx hb dX11_placesBy_48 (by decide) ?_
      refine lv_iload hx hb dX11_placesBy_17 (lv_at hl 0 rfl) ?_
      refine lv_if_lt (tgt := 51) hx hb dX11_placesBy_19 (by decide) (fun h9 => absurd h9 (by decide)) (fun _ => ?_)
      refine lv_aload_n hx hb dX11_placesBy_22 rfl (lv_at hl 4 rfl) ?_
      refine va_get (D := D) (ci := 11) (v := .ref ha) (C := RX11) (T := TX11) (N := 18) hx hb hts iw11 hown hK hP 1 rfl rfl 6 (by decide) fw2 (fun _ h9 => h9) rfl dX11_placesBy_23 ?_
      refine lv_bipush (v := 11) hx hb dX11_placesBy_26 (by decide) ?_
      refine lv_iload hx hb dX11_placesBy_28 (lv_at hl 0 rfl) ?_
      refine lv_iadd hx hb dX11_placesBy_30 ?_
      refine lv_topi (fun z353 hz353 => ?_)
      obtain rfl : z353 = 14 := hz353.trans (by decide)
      refine lv_iload_n hx hb dX11_placesBy_31 rfl (lv_at hl 1 rfl) ?_
      refine lv_aload_n hx hb dX11_placesBy_32 rfl (lv_at hl 4 rfl) ?_
      have hs354 : kw_Split [(ha, .inl (y 0, 30, .inl (upd fh 15 (nI q341)))), (mo, .inr (11, [.ref to, .ref ke, .ref ik, .ref mrf, .long mab, .long mbl, .ref ha, .ref r0, .ref mbr, .ref mbp, .ref mby, .int (nI bl), .int (nI ta), .int (nI tl), .int (nI tk), .int vv, .ref an, .ref va])), (to, .inl (y 0, 228, .inl ft))] [(mo, .inr (11, [.ref to, .ref ke, .ref ik, .ref mrf, .long mab, .long mbl, .ref ha, .ref r0, .ref mbr, .ref mbp, .ref mby, .int (nI bl), .int (nI ta), .int (nI tl), .int (nI tk), .int vv, .ref an, .ref va])), (to, .inl (y 0, 228, .inl ft))] [(ha, .inl (y 0, 30, .inl (upd fh 15 (nI q341))))] [1, 2] [0] := ⟨rfl, rfl, rfl, rfl, rfl, by decide⟩
      refine kw_go_i hs354 hP hD hS hA (va_runV (As := []) (rest := [.int (nI q350), .int 14, .ref ha]) ⟨hx, hb, hml, hown, hts⟩ (gr_many l D y mo to ke ik mrf ha r0 mbr mbp mby an va mab mbl bl ta tl tk vv ft fi 5 mi no un hk0_ hk1_ hk2_ hk3_ hk4_ hkt hfi hgl hmi hno hun _) (cwV 0 hts gX11_placesBy_X11_many rfl rfl rfl (by decide +kernel) ⟨Nat.le_of_ble_eq_true rfl, Nat.le_of_ble_eq_true rfl⟩) (kw_PreV (ci := 11) (q0 := 1) hs354 hP hD hK hN rfl rfl) rfl rfl hl.1 rfl (lv_room (Nat.le_of_ble_eq_true rfl)) dX11_placesBy_33 ⟨Nat.le_of_ble_eq_true rfl, Nat.le_of_ble_eq_true rfl⟩) (fun r355 u356 H locs hq hP hD hS => ?_)
      obtain rfl := hq
      have hP : va_P D vwCl [(ha, .inl (y 0, 30, .inl (upd fh 15 (nI q341)))), (mo, .inr (11, [.ref to, .ref ke, .ref ik, .ref mrf, .long mab, .long mbl, .ref ha, .ref r0, .ref mbr, .ref mbp, .ref mby, .int (nI bl), .int (nI ta), .int (nI tl), .int (nI tk), .int vv, .ref an, .ref va])), (to, .inl (y 0, 228, .inl ft))] H := hP
      have hD : va_D A [(ha, .inl (y 0, 30, .inl (upd fh 15 (nI q341)))), (mo, .inr (11, [.ref to, .ref ke, .ref ik, .ref mrf, .long mab, .long mbl, .ref ha, .ref r0, .ref mbr, .ref mbp, .ref mby, .int (nI bl), .int (nI ta), .int (nI tl), .int (nI tk), .int vv, .ref an, .ref va])), (to, .inl (y 0, 228, .inl ft))] := hD
      refine lv_irem hx hb dX11_placesBy_36 (nI_ne0 (by omega) (by omega)) ?_
      obtain ⟨q357, h358, h359⟩ := kr_rem (a := q350) (b := fi) (by omega) (by omega) (by omega)
      rw [h359]
      refine va_iast hx hb hK hP hD hS 0 0 rfl rfl (by unfold vp_in; decide) dX11_placesBy_37 (fun H locs hP hD hS => ?_)
      rw [show ((14 : Int32)).toNatClampNeg = 14 from rfl] at hP hD
      have hr360 : kr_t 30 (upd (upd fh 15 (nI q341)) 14 (nI q357)) := kr_up hr344 (kr_oka (vp_in_nI (by omega) (by decide)) (by unfold kr_s; omega))
      have hk361 : (upd (upd fh 15 (nI q341)) 14 (nI q357)) 0 = (nI fi) := (pk_un (by decide)).trans hk345
      have hk362 : (upd (upd fh 15 (nI q341)) 14 (nI q357)) 1 = (nI 5) := (pk_un (by decide)).trans hk346
      have hP : va_P D vwCl [(ha, .inl (y 0, 30, .inl (upd (upd fh 15 (nI q341)) 14 (nI q357)))), (mo, .inr (11, [.ref to, .ref ke, .ref ik, .ref mrf, .long mab, .long mbl, .ref ha, .ref r0, .ref mbr, .ref mbp, .ref mby, .int (nI bl), .int (nI ta), .int (nI tl), .int (nI tk), .int vv, .ref an, .ref va])), (to, .inl (y 0, 228, .inl ft))] H := hP
      have hD : va_D A [(ha, .inl (y 0, 30, .inl (upd (upd fh 15 (nI q341)) 14 (nI q357)))), (mo, .inr (11, [.ref to, .ref ke, .ref ik, .ref mrf, .long mab, .long mbl, .ref ha, .ref r0, .ref mbr, .ref mbp, .ref mby, .int (nI bl), .int (nI ta), .int (nI tl), .int (nI tk), .int vv, .ref an, .ref va])), (to, .inl (y 0, 228, .inl ft))] := hD
      refine lv_iload_n hx hb dX11_placesBy_38 rfl (lv_at hl 1 rfl) ?_
      refine lv_aload_n hx hb dX11_placesBy_39 rfl (lv_at hl 4 rfl) ?_
      have hs363 : kw_Split [(ha, .inl (y 0, 30, .inl (upd (upd fh 15 (nI q341)) 14 (nI q357)))), (mo, .inr (11, [.ref to, .ref ke, .ref ik, .ref mrf, .long mab, .long mbl, .ref ha, .ref r0, .ref mbr, .ref mbp, .ref mby, .int (nI bl), .int (nI ta), .int (nI tl), .int (nI tk), .int vv, .ref an, .ref va])), (to, .inl (y 0, 228, .inl ft))] [(mo, .inr (11, [.ref to, .ref ke, .ref ik, .ref mrf, .long mab, .long mbl, .ref ha, .ref r0, .ref mbr, .ref mbp, .ref mby, .int (nI bl), .int (nI ta), .int (nI tl), .int (nI tk), .int vv, .ref an, .ref va])), (to, .inl (y 0, 228, .inl ft))] [(ha, .inl (y 0, 30, .inl (upd (upd fh 15 (nI q341)) 14 (nI q357))))] [1, 2] [0] := ⟨rfl, rfl, rfl, rfl, rfl, by decide⟩
      refine kw_go_i hs363 hP hD hS hA (va_runV (As := []) (rest := [.int (nI q350)]) ⟨hx, hb, hml, hown, hts⟩ (gr_many l D y mo to ke ik mrf ha r0 mbr mbp mby an va mab mbl bl ta tl tk vv ft fi 5 mi no un hk0_ hk1_ hk2_ hk3_ hk4_ hkt hfi hgl hmi hno hun _) (cwV 0 hts gX11_placesBy_X11_many rfl rfl rfl (by decide +kernel) ⟨Nat.le_of_ble_eq_true rfl, Nat.le_of_ble_eq_true rfl⟩) (kw_PreV (ci := 11) (q0 := 1) hs363 hP hD hK hN rfl rfl) rfl rfl hl.1 rfl (lv_room (Nat.le_of_ble_eq_true rfl)) dX11_placesBy_40 ⟨Nat.le_of_ble_eq_true rfl, Nat.le_of_ble_eq_true rfl⟩) (fun r364 u365 H locs hq hP hD hS => ?_)
      obtain rfl := hq
      have hP : va_P D vwCl [(ha, .inl (y 0, 30, .inl (upd (upd fh 15 (nI q341)) 14 (nI q357)))), (mo, .inr (11, [.ref to, .ref ke, .ref ik, .ref mrf, .long mab, .long mbl, .ref ha, .ref r0, .ref mbr, .ref mbp, .ref mby, .int (nI bl), .int (nI ta), .int (nI tl), .int (nI tk), .int vv, .ref an, .ref va])), (to, .inl (y 0, 228, .inl ft))] H := hP
      have hD : va_D A [(ha, .inl (y 0, 30, .inl (upd (upd fh 15 (nI q341)) 14 (nI q357)))), (mo, .inr (11, [.ref to, .ref ke, .ref ik, .ref mrf, .long mab, .long mbl, .ref ha, .ref r0, .ref mbr, .ref mbp, .ref mby, .int (nI bl), .int (nI ta), .int (nI tl), .int (nI tk), .int vv, .ref an, .ref va])), (to, .inl (y 0, 228, .inl ft))] := hD
      refine lv_idiv hx hb dX11_placesBy_43 (nI_ne0 (by omega) (by omega)) ?_
      obtain ⟨q366, h367, h368⟩ := kr_div (a := q350) (b := fi) (by omega) (by omega) (by omega)
      rw [h368]
      refine lv_istore_n (lv' := [(3, .int (nI q366)), (6, .int 3), (5, .int 1000000), (4, .int 0), (0, .ref mo), (1, .int (nI k)), (2, .int x)]) hx hb dX11_placesBy_44 rfl hl (by decide) rfl (fun ls hl => ?_)
      refine lv_iinc (v := 2) (lv' := [(6, .int 2), (3, .int (nI q366)), (5, .int 1000000), (4, .int 0), (0, .ref mo), (1, .int (nI k)), (2, .int x)]) hx hb dX11_placesBy_45 hl (k := 1) rfl (by decide) (by decide) rfl (fun ls hl => ?_)
      refine lv_goto (tgt := 17) hx hb dX11_placesBy_48 (by decide) ?_
      refine lv_iload hx hb dX11_placesBy_17 (lv_at hl 0 rfl) ?_
      refine lv_if_lt (tgt := 51) hx hb dX11_placesBy_19 (by decide) (fun h9 => absurd h9 (by decide)) (fun _ => ?_)
      refine lv_aload_n hx hb dX11_placesBy_22 rfl (lv_at hl 4 rfl) ?_
      refine va_get (D := D) (ci := 11) (v := .ref ha) (C := RX11) (T := TX11) (N := 18) hx hb hts iw11 hown hK hP 1 rfl rfl 6 (by decide) fw2 (fun _ h9 => h9) rfl dX11_placesBy_23 ?_
      refine lv_bipush (v := 11) hx hb dX11_placesBy_26 (by decide) ?_
      refine lv_iload hx hb dX11_placesBy_28 (lv_at hl 0 rfl) ?_
      refine lv_iadd hx hb dX11_placesBy_30 ?_
      refine lv_topi (fun z369 hz369 => ?_)
      obtain rfl : z369 = 13 := hz369.trans (by decide)
      refine lv_iload_n hx hb dX11_placesBy_31 rfl (lv_at hl 1 rfl) ?_
      refine lv_aload_n hx hb dX11_placesBy_32 rfl (lv_at hl 4 rfl) ?_
      have hs370 : kw_Split [(ha, .inl (y 0, 30, .inl (upd (upd fh 15 (nI q341)) 14 (nI q357)))), (mo, .inr (11, [.ref to, .ref ke, .ref ik, .ref mrf, .long mab, .long mbl, .ref ha, .ref r0, .ref mbr, .ref mbp, .ref mby, .int (nI bl), .int (nI ta), .int (nI tl), .int (nI tk), .int vv, .ref an, .ref va])), (to, .inl (y 0, 228, .inl ft))] [(mo, .inr (11, [.ref to, .ref ke, .ref ik, .ref mrf, .long mab, .long mbl, .ref ha, .ref r0, .ref mbr, .ref mbp, .ref mby, .int (nI bl), .int (nI ta), .int (nI tl), .int (nI tk), .int vv, .ref an, .ref va])), (to, .inl (y 0, 228, .inl ft))] [(ha, .inl (y 0, 30, .inl (upd (upd fh 15 (nI q341)) 14 (nI q357))))] [1, 2] [0] := ⟨rfl, rfl, rfl, rfl, rfl, by decide⟩
      refine kw_go_i hs370 hP hD hS hA (va_runV (As := []) (rest := [.int (nI q366), .int 13, .ref ha]) ⟨hx, hb, hml, hown, hts⟩ (gr_many l D y mo to ke ik mrf ha r0 mbr mbp mby an va mab mbl bl ta tl tk vv ft fi 5 mi no un hk0_ hk1_ hk2_ hk3_ hk4_ hkt hfi hgl hmi hno hun _) (cwV 0 hts gX11_placesBy_X11_many rfl rfl rfl (by decide +kernel) ⟨Nat.le_of_ble_eq_true rfl, Nat.le_of_ble_eq_true rfl⟩) (kw_PreV (ci := 11) (q0 := 1) hs370 hP hD hK hN rfl rfl) rfl rfl hl.1 rfl (lv_room (Nat.le_of_ble_eq_true rfl)) dX11_placesBy_33 ⟨Nat.le_of_ble_eq_true rfl, Nat.le_of_ble_eq_true rfl⟩) (fun r371 u372 H locs hq hP hD hS => ?_)
      obtain rfl := hq
      have hP : va_P D vwCl [(ha, .inl (y 0, 30, .inl (upd (upd fh 15 (nI q341)) 14 (nI q357)))), (mo, .inr (11, [.ref to, .ref ke, .ref ik, .ref mrf, .long mab, .long mbl, .ref ha, .ref r0, .ref mbr, .ref mbp, .ref mby, .int (nI bl), .int (nI ta), .int (nI tl), .int (nI tk), .int vv, .ref an, .ref va])), (to, .inl (y 0, 228, .inl ft))] H := hP
      have hD : va_D A [(ha, .inl (y 0, 30, .inl (upd (upd fh 15 (nI q341)) 14 (nI q357)))), (mo, .inr (11, [.ref to, .ref ke, .ref ik, .ref mrf, .long mab, .long mbl, .ref ha, .ref r0, .ref mbr, .ref mbp, .ref mby, .int (nI bl), .int (nI ta), .int (nI tl), .int (nI tk), .int vv, .ref an, .ref va])), (to, .inl (y 0, 228, .inl ft))] := hD
      refine lv_irem hx hb dX11_placesBy_36 (nI_ne0 (by omega) (by omega)) ?_
      obtain ⟨q373, h374, h375⟩ := kr_rem (a := q366) (b := fi) (by omega) (by omega) (by omega)
      rw [h375]
      refine va_iast hx hb hK hP hD hS 0 0 rfl rfl (by unfold vp_in; decide) dX11_placesBy_37 (fun H locs hP hD hS => ?_)
      rw [show ((13 : Int32)).toNatClampNeg = 13 from rfl] at hP hD
      have hr376 : kr_t 30 (upd (upd (upd fh 15 (nI q341)) 14 (nI q357)) 13 (nI q373)) := kr_up hr360 (kr_oka (vp_in_nI (by omega) (by decide)) (by unfold kr_s; omega))
      have hk377 : (upd (upd (upd fh 15 (nI q341)) 14 (nI q357)) 13 (nI q373)) 0 = (nI fi) := (pk_un (by decide)).trans hk361
      have hk378 : (upd (upd (upd fh 15 (nI q341)) 14 (nI q357)) 13 (nI q373)) 1 = (nI 5) := (pk_un (by decide)).trans hk362
      have hP : va_P D vwCl [(ha, .inl (y 0, 30, .inl (upd (upd (upd fh 15 (nI q341)) 14 (nI q357)) 13 (nI q373)))), (mo, .inr (11, [.ref to, .ref ke, .ref ik, .ref mrf, .long mab, .long mbl, .ref ha, .ref r0, .ref mbr, .ref mbp, .ref mby, .int (nI bl), .int (nI ta), .int (nI tl), .int (nI tk), .int vv, .ref an, .ref va])), (to, .inl (y 0, 228, .inl ft))] H := hP
      have hD : va_D A [(ha, .inl (y 0, 30, .inl (upd (upd (upd fh 15 (nI q341)) 14 (nI q357)) 13 (nI q373)))), (mo, .inr (11, [.ref to, .ref ke, .ref ik, .ref mrf, .long mab, .long mbl, .ref ha, .ref r0, .ref mbr, .ref mbp, .ref mby, .int (nI bl), .int (nI ta), .int (nI tl), .int (nI tk), .int vv, .ref an, .ref va])), (to, .inl (y 0, 228, .inl ft))] := hD
      refine lv_iload_n hx hb dX11_placesBy_38 rfl (lv_at hl 1 rfl) ?_
      refine lv_aload_n hx hb dX11_placesBy_39 rfl (lv_at hl 4 rfl) ?_
      have hs379 : kw_Split [(ha, .inl (y 0, 30, .inl (upd (upd (upd fh 15 (nI q341)) 14 (nI q357)) 13 (nI q373)))), (mo, .inr (11, [.ref to, .ref ke, .ref ik, .ref mrf, .long mab, .long mbl, .ref ha, .ref r0, .ref mbr, .ref mbp, .ref mby, .int (nI bl), .int (nI ta), .int (nI tl), .int (nI tk), .int vv, .ref an, .ref va])), (to, .inl (y 0, 228, .inl ft))] [(mo, .inr (11, [.ref to, .ref ke, .ref ik, .ref mrf, .long mab, .long mbl, .ref ha, .ref r0, .ref mbr, .ref mbp, .ref mby, .int (nI bl), .int (nI ta), .int (nI tl), .int (nI tk), .int vv, .ref an, .ref va])), (to, .inl (y 0, 228, .inl ft))] [(ha, .inl (y 0, 30, .inl (upd (upd (upd fh 15 (nI q341)) 14 (nI q357)) 13 (nI q373))))] [1, 2] [0] := ⟨rfl, rfl, rfl, rfl, rfl, by decide⟩
      refine kw_go_i hs379 hP hD hS hA (va_runV (As := []) (rest := [.int (nI q366)]) ⟨hx, hb, hml, hown, hts⟩ (gr_many l D y mo to ke ik mrf ha r0 mbr mbp mby an va mab mbl bl ta tl tk vv ft fi 5 mi no un hk0_ hk1_ hk2_ hk3_ hk4_ hkt hfi hgl hmi hno hun _) (cwV 0 hts gX11_placesBy_X11_many rfl rfl rfl (by decide +kernel) ⟨Nat.le_of_ble_eq_true rfl, Nat.le_of_ble_eq_true rfl⟩) (kw_PreV (ci := 11) (q0 := 1) hs379 hP hD hK hN rfl rfl) rfl rfl hl.1 rfl (lv_room (Nat.le_of_ble_eq_true rfl)) dX11_placesBy_40 ⟨Nat.le_of_ble_eq_true rfl, Nat.le_of_ble_eq_true rfl⟩) (fun r380 u381 H locs hq hP hD hS => ?_)
      obtain rfl := hq
      have hP : va_P D vwCl [(ha, .inl (y 0, 30, .inl (upd (upd (upd fh 15 (nI q341)) 14 (nI q357)) 13 (nI q373)))), (mo, .inr (11, [.ref to, .ref ke, .ref ik, .ref mrf, .long mab, .long mbl, .ref ha, .ref r0, .ref mbr, .ref mbp, .ref mby, .int (nI bl), .int (nI ta), .int (nI tl), .int (nI tk), .int vv, .ref an, .ref va])), (to, .inl (y 0, 228, .inl ft))] H := hP
      have hD : va_D A [(ha, .inl (y 0, 30, .inl (upd (upd (upd fh 15 (nI q341)) 14 (nI q357)) 13 (nI q373)))), (mo, .inr (11, [.ref to, .ref ke, .ref ik, .ref mrf, .long mab, .long mbl, .ref ha, .ref r0, .ref mbr, .ref mbp, .ref mby, .int (nI bl), .int (nI ta), .int (nI tl), .int (nI tk), .int vv, .ref an, .ref va])), (to, .inl (y 0, 228, .inl ft))] := hD
      refine lv_idiv hx hb dX11_placesBy_43 (nI_ne0 (by omega) (by omega)) ?_
      obtain ⟨q382, h383, h384⟩ := kr_div (a := q366) (b := fi) (by omega) (by omega) (by omega)
      rw [h384]
      refine lv_istore_n (lv' := [(3, .int (nI q382)), (6, .int 2), (5, .int 1000000), (4, .int 0), (0, .ref mo), (1, .int (nI k)), (2, .int x)]) hx hb dX11_placesBy_44 rfl hl (by decide) rfl (fun ls hl => ?_)
      refine lv_iinc (v := 1) (lv' := [(6, .int 1), (3, .int (nI q382)), (5, .int 1000000), (4, .int 0), (0, .ref mo), (1, .int (nI k)), (2, .int x)]) hx hb dX11_placesBy_45 hl (k := 1) rfl (by decide) (by decide) rfl (fun ls hl => ?_)
      refine lv_goto (tgt := 17) hx hb dX11_placesBy_48 (by decide) ?_
      refine lv_iload hx hb dX11_placesBy_17 (lv_at hl 0 rfl) ?_
      refine lv_if_lt (tgt := 51) hx hb dX11_placesBy_19 (by decide) (fun h9 => absurd h9 (by decide)) (fun _ => ?_)
      refine lv_aload_n hx hb dX11_placesBy_22 rfl (lv_at hl 4 rfl) ?_
      refine va_get (D := D) (ci := 11) (v := .ref ha) (C := RX11) (T := TX11) (N := 18) hx hb hts iw11 hown hK hP 1 rfl rfl 6 (by decide) fw2 (fun _ h9 => h9) rfl dX11_placesBy_23 ?_
      refine lv_bipush (v := 11) hx hb dX11_placesBy_26 (by decide) ?_
      refine lv_iload hx hb dX11_placesBy_28 (lv_at hl 0 rfl) ?_
      refine lv_iadd hx hb dX11_placesBy_30 ?_
      refine lv_topi (fun z385 hz385 => ?_)
      obtain rfl : z385 = 12 := hz385.trans (by decide)
      refine lv_iload_n hx hb dX11_placesBy_31 rfl (lv_at hl 1 rfl) ?_
      refine lv_aload_n hx hb dX11_placesBy_32 rfl (lv_at hl 4 rfl) ?_
      have hs386 : kw_Split [(ha, .inl (y 0, 30, .inl (upd (upd (upd fh 15 (nI q341)) 14 (nI q357)) 13 (nI q373)))), (mo, .inr (11, [.ref to, .ref ke, .ref ik, .ref mrf, .long mab, .long mbl, .ref ha, .ref r0, .ref mbr, .ref mbp, .ref mby, .int (nI bl), .int (nI ta), .int (nI tl), .int (nI tk), .int vv, .ref an, .ref va])), (to, .inl (y 0, 228, .inl ft))] [(mo, .inr (11, [.ref to, .ref ke, .ref ik, .ref mrf, .long mab, .long mbl, .ref ha, .ref r0, .ref mbr, .ref mbp, .ref mby, .int (nI bl), .int (nI ta), .int (nI tl), .int (nI tk), .int vv, .ref an, .ref va])), (to, .inl (y 0, 228, .inl ft))] [(ha, .inl (y 0, 30, .inl (upd (upd (upd fh 15 (nI q341)) 14 (nI q357)) 13 (nI q373))))] [1, 2] [0] := ⟨rfl, rfl, rfl, rfl, rfl, by decide⟩
      refine kw_go_i hs386 hP hD hS hA (va_runV (As := []) (rest := [.int (nI q382), .int 12, .ref ha]) ⟨hx, hb, hml, hown, hts⟩ (gr_many l D y mo to ke ik mrf ha r0 mbr mbp mby an va mab mbl bl ta tl tk vv ft fi 5 mi no un hk0_ hk1_ hk2_ hk3_ hk4_ hkt hfi hgl hmi hno hun _) (cwV 0 hts gX11_placesBy_X11_many rfl rfl rfl (by decide +kernel) ⟨Nat.le_of_ble_eq_true rfl, Nat.le_of_ble_eq_true rfl⟩) (kw_PreV (ci := 11) (q0 := 1) hs386 hP hD hK hN rfl rfl) rfl rfl hl.1 rfl (lv_room (Nat.le_of_ble_eq_true rfl)) dX11_placesBy_33 ⟨Nat.le_of_ble_eq_true rfl, Nat.le_of_ble_eq_true rfl⟩) (fun r387 u388 H locs hq hP hD hS => ?_)
      obtain rfl := hq
      have hP : va_P D vwCl [(ha, .inl (y 0, 30, .inl (upd (upd (upd fh 15 (nI q341)) 14 (nI q357)) 13 (nI q373)))), (mo, .inr (11, [.ref to, .ref ke, .ref ik, .ref mrf, .long mab, .long mbl, .ref ha, .ref r0, .ref mbr, .ref mbp, .ref mby, .int (nI bl), .int (nI ta), .int (nI tl), .int (nI tk), .int vv, .ref an, .ref va])), (to, .inl (y 0, 228, .inl ft))] H := hP
      have hD : va_D A [(ha, .inl (y 0, 30, .inl (upd (upd (upd fh 15 (nI q341)) 14 (nI q357)) 13 (nI q373)))), (mo, .inr (11, [.ref to, .ref ke, .ref ik, .ref mrf, .long mab, .long mbl, .ref ha, .ref r0, .ref mbr, .ref mbp, .ref mby, .int (nI bl), .int (nI ta), .int (nI tl), .int (nI tk), .int vv, .ref an, .ref va])), (to, .inl (y 0, 228, .inl ft))] := hD
      refine lv_irem hx hb dX11_placesBy_36 (nI_ne0 (by omega) (by omega)) ?_
      obtain ⟨q389, h390, h391⟩ := kr_rem (a := q382) (b := fi) (by omega) (by omega) (by omega)
      rw [h391]
      refine va_iast hx hb hK hP hD hS 0 0 rfl rfl (by unfold vp_in; decide) dX11_placesBy_37 (fun H locs hP hD hS => ?_)
      rw [show ((12 : Int32)).toNatClampNeg = 12 from rfl] at hP hD
      have hr392 : kr_t 30 (upd (upd (upd (upd fh 15 (nI q341)) 14 (nI q357)) 13 (nI q373)) 12 (nI q389)) := kr_up hr376 (kr_oka (vp_in_nI (by omega) (by decide)) (by unfold kr_s; omega))
      have hk393 : (upd (upd (upd (upd fh 15 (nI q341)) 14 (nI q357)) 13 (nI q373)) 12 (nI q389)) 0 = (nI fi) := (pk_un (by decide)).trans hk377
      have hk394 : (upd (upd (upd (upd fh 15 (nI q341)) 14 (nI q357)) 13 (nI q373)) 12 (nI q389)) 1 = (nI 5) := (pk_un (by decide)).trans hk378
      have hP : va_P D vwCl [(ha, .inl (y 0, 30, .inl (upd (upd (upd (upd fh 15 (nI q341)) 14 (nI q357)) 13 (nI q373)) 12 (nI q389)))), (mo, .inr (11, [.ref to, .ref ke, .ref ik, .ref mrf, .long mab, .long mbl, .ref ha, .ref r0, .ref mbr, .ref mbp, .ref mby, .int (nI bl), .int (nI ta), .int (nI tl), .int (nI tk), .int vv, .ref an, .ref va])), (to, .inl (y 0, 228, .inl ft))] H := hP
      have hD : va_D A [(ha, .inl (y 0, 30, .inl (upd (upd (upd (upd fh 15 (nI q341)) 14 (nI q357)) 13 (nI q373)) 12 (nI q389)))), (mo, .inr (11, [.ref to, .ref ke, .ref ik, .ref mrf, .long mab, .long mbl, .ref ha, .ref r0, .ref mbr, .ref mbp, .ref mby, .int (nI bl), .int (nI ta), .int (nI tl), .int (nI tk), .int vv, .ref an, .ref va])), (to, .inl (y 0, 228, .inl ft))] := hD
      refine lv_iload_n hx hb dX11_placesBy_38 rfl (lv_at hl 1 rfl) ?_
      refine lv_aload_n hx hb dX11_placesBy_39 rfl (lv_at hl 4 rfl) ?_
      have hs395 : kw_Split [(ha, .inl (y 0, 30, .inl (upd (upd (upd (upd fh 15 (nI q341)) 14 (nI q357)) 13 (nI q373)) 12 (nI q389)))), (mo, .inr (11, [.ref to, .ref ke, .ref ik, .ref mrf, .long mab, .long mbl, .ref ha, .ref r0, .ref mbr, .ref mbp, .ref mby, .int (nI bl), .int (nI ta), .int (nI tl), .int (nI tk), .int vv, .ref an, .ref va])), (to, .inl (y 0, 228, .inl ft))] [(mo, .inr (11, [.ref to, .ref ke, .ref ik, .ref mrf, .long mab, .long mbl, .ref ha, .ref r0, .ref mbr, .ref mbp, .ref mby, .int (nI bl), .int (nI ta), .int (nI tl), .int (nI tk), .int vv, .ref an, .ref va])), (to, .inl (y 0, 228, .inl ft))] [(ha, .inl (y 0, 30, .inl (upd (upd (upd (upd fh 15 (nI q341)) 14 (nI q357)) 13 (nI q373)) 12 (nI q389))))] [1, 2] [0] := ⟨rfl, rfl, rfl, rfl, rfl, by decide⟩
      refine kw_go_i hs395 hP hD hS hA (va_runV (As := []) (rest := [.int (nI q382)]) ⟨hx, hb, hml, hown, hts⟩ (gr_many l D y mo to ke ik mrf ha r0 mbr mbp mby an va mab mbl bl ta tl tk vv ft fi 5 mi no un hk0_ hk1_ hk2_ hk3_ hk4_ hkt hfi hgl hmi hno hun _) (cwV 0 hts gX11_placesBy_X11_many rfl rfl rfl (by decide +kernel) ⟨Nat.le_of_ble_eq_true rfl, Nat.le_of_ble_eq_true rfl⟩) (kw_PreV (ci := 11) (q0 := 1) hs395 hP hD hK hN rfl rfl) rfl rfl hl.1 rfl (lv_room (Nat.le_of_ble_eq_true rfl)) dX11_placesBy_40 ⟨Nat.le_of_ble_eq_true rfl, Nat.le_of_ble_eq_true rfl⟩) (fun r396 u397 H locs hq hP hD hS => ?_)
      obtain rfl := hq
      have hP : va_P D vwCl [(ha, .inl (y 0, 30, .inl (upd (upd (upd (upd fh 15 (nI q341)) 14 (nI q357)) 13 (nI q373)) 12 (nI q389)))), (mo, .inr (11, [.ref to, .ref ke, .ref ik, .ref mrf, .long mab, .long mbl, .ref ha, .ref r0, .ref mbr, .ref mbp, .ref mby, .int (nI bl), .int (nI ta), .int (nI tl), .int (nI tk), .int vv, .ref an, .ref va])), (to, .inl (y 0, 228, .inl ft))] H := hP
      have hD : va_D A [(ha, .inl (y 0, 30, .inl (upd (upd (upd (upd fh 15 (nI q341)) 14 (nI q357)) 13 (nI q373)) 12 (nI q389)))), (mo, .inr (11, [.ref to, .ref ke, .ref ik, .ref mrf, .long mab, .long mbl, .ref ha, .ref r0, .ref mbr, .ref mbp, .ref mby, .int (nI bl), .int (nI ta), .int (nI tl), .int (nI tk), .int vv, .ref an, .ref va])), (to, .inl (y 0, 228, .inl ft))] := hD
      refine lv_idiv hx hb dX11_placesBy_43 (nI_ne0 (by omega) (by omega)) ?_
      obtain ⟨q398, h399, h400⟩ := kr_div (a := q382) (b := fi) (by omega) (by omega) (by omega)
      rw [h400]
      refine lv_istore_n (lv' := [(3, .int (nI q398)), (6, .int 1), (5, .int 1000000), (4, .int 0), (0, .ref mo), (1, .int (nI k)), (2, .int x)]) hx hb dX11_placesBy_44 rfl hl (by decide) rfl (fun ls hl => ?_)
      refine lv_iinc (v := 0) (lv' := [(6, .int 0), (3, .int (nI q398)), (5, .int 1000000), (4, .int 0), (0, .ref mo), (1, .int (nI k)), (2, .int x)]) hx hb dX11_placesBy_45 hl (k := 1) rfl (by decide) (by decide) rfl (fun ls hl => ?_)
      refine lv_goto (tgt := 17) hx hb dX11_placesBy_48 (by decide) ?_
      refine lv_iload hx hb dX11_placesBy_17 (lv_at hl 0 rfl) ?_
      refine lv_if_lt (tgt := 51) hx hb dX11_placesBy_19 (by decide) (fun h9 => absurd h9 (by decide)) (fun _ => ?_)
      refine lv_aload_n hx hb dX11_placesBy_22 rfl (lv_at hl 4 rfl) ?_
      refine va_get (D := D) (ci := 11) (v := .ref ha) (C := RX11) (T := TX11) (N := 18) hx hb hts iw11 hown hK hP 1 rfl rfl 6 (by decide) fw2 (fun _ h9 => h9) rfl dX11_placesBy_23 ?_
      refine lv_bipush (v := 11) hx hb dX11_placesBy_26 (by decide) ?_
      refine lv_iload hx hb dX11_placesBy_28 (lv_at hl 0 rfl) ?_
      refine lv_iadd hx hb dX11_placesBy_30 ?_
      refine lv_topi (fun z401 hz401 => ?_)
      obtain rfl : z401 = 11 := hz401.trans (by decide)
      refine lv_iload_n hx hb dX11_placesBy_31 rfl (lv_at hl 1 rfl) ?_
      refine lv_aload_n hx hb dX11_placesBy_32 rfl (lv_at hl 4 rfl) ?_
      have hs402 : kw_Split [(ha, .inl (y 0, 30, .inl (upd (upd (upd (upd fh 15 (nI q341)) 14 (nI q357)) 13 (nI q373)) 12 (nI q389)))), (mo, .inr (11, [.ref to, .ref ke, .ref ik, .ref mrf, .long mab, .long mbl, .ref ha, .ref r0, .ref mbr, .ref mbp, .ref mby, .int (nI bl), .int (nI ta), .int (nI tl), .int (nI tk), .int vv, .ref an, .ref va])), (to, .inl (y 0, 228, .inl ft))] [(mo, .inr (11, [.ref to, .ref ke, .ref ik, .ref mrf, .long mab, .long mbl, .ref ha, .ref r0, .ref mbr, .ref mbp, .ref mby, .int (nI bl), .int (nI ta), .int (nI tl), .int (nI tk), .int vv, .ref an, .ref va])), (to, .inl (y 0, 228, .inl ft))] [(ha, .inl (y 0, 30, .inl (upd (upd (upd (upd fh 15 (nI q341)) 14 (nI q357)) 13 (nI q373)) 12 (nI q389))))] [1, 2] [0] := ⟨rfl, rfl, rfl, rfl, rfl, by decide⟩
      refine kw_go_i hs402 hP hD hS hA (va_runV (As := []) (rest := [.int (nI q398), .int 11, .ref ha]) ⟨hx, hb, hml, hown, hts⟩ (gr_many l D y mo to ke ik mrf ha r0 mbr mbp mby an va mab mbl bl ta tl tk vv ft fi 5 mi no un hk0_ hk1_ hk2_ hk3_ hk4_ hkt hfi hgl hmi hno hun _) (cwV 0 hts gX11_placesBy_X11_many rfl rfl rfl (by decide +kernel) ⟨Nat.le_of_ble_eq_true rfl, Nat.le_of_ble_eq_true rfl⟩) (kw_PreV (ci := 11) (q0 := 1) hs402 hP hD hK hN rfl rfl) rfl rfl hl.1 rfl (lv_room (Nat.le_of_ble_eq_true rfl)) dX11_placesBy_33 ⟨Nat.le_of_ble_eq_true rfl, Nat.le_of_ble_eq_true rfl⟩) (fun r403 u404 H locs hq hP hD hS => ?_)
      obtain rfl := hq
      have hP : va_P D vwCl [(ha, .inl (y 0, 30, .inl (upd (upd (upd (upd fh 15 (nI q341)) 14 (nI q357)) 13 (nI q373)) 12 (nI q389)))), (mo, .inr (11, [.ref to, .ref ke, .ref ik, .ref mrf, .long mab, .long mbl, .ref ha, .ref r0, .ref mbr, .ref mbp, .ref mby, .int (nI bl), .int (nI ta), .int (nI tl), .int (nI tk), .int vv, .ref an, .ref va])), (to, .inl (y 0, 228, .inl ft))] H := hP
      have hD : va_D A [(ha, .inl (y 0, 30, .inl (upd (upd (upd (upd fh 15 (nI q341)) 14 (nI q357)) 13 (nI q373)) 12 (nI q389)))), (mo, .inr (11, [.ref to, .ref ke, .ref ik, .ref mrf, .long mab, .long mbl, .ref ha, .ref r0, .ref mbr, .ref mbp, .ref mby, .int (nI bl), .int (nI ta), .int (nI tl), .int (nI tk), .int vv, .ref an, .ref va])), (to, .inl (y 0, 228, .inl ft))] := hD
      refine lv_irem hx hb dX11_placesBy_36 (nI_ne0 (by omega) (by omega)) ?_
      obtain ⟨q405, h406, h407⟩ := kr_rem (a := q398) (b := fi) (by omega) (by omega) (by omega)
      rw [h407]
      refine va_iast hx hb hK hP hD hS 0 0 rfl rfl (by unfold vp_in; decide) dX11_placesBy_37 (fun H locs hP hD hS => ?_)
      rw [show ((11 : Int32)).toNatClampNeg = 11 from rfl] at hP hD
      have hr408 : kr_t 30 (upd (upd (upd (upd (upd fh 15 (nI q341)) 14 (nI q357)) 13 (nI q373)) 12 (nI q389)) 11 (nI q405)) := kr_up hr392 (kr_oka (vp_in_nI (by omega) (by decide)) (by unfold kr_s; omega))
      have hk409 : (upd (upd (upd (upd (upd fh 15 (nI q341)) 14 (nI q357)) 13 (nI q373)) 12 (nI q389)) 11 (nI q405)) 0 = (nI fi) := (pk_un (by decide)).trans hk393
      have hk410 : (upd (upd (upd (upd (upd fh 15 (nI q341)) 14 (nI q357)) 13 (nI q373)) 12 (nI q389)) 11 (nI q405)) 1 = (nI 5) := (pk_un (by decide)).trans hk394
      have hP : va_P D vwCl [(ha, .inl (y 0, 30, .inl (upd (upd (upd (upd (upd fh 15 (nI q341)) 14 (nI q357)) 13 (nI q373)) 12 (nI q389)) 11 (nI q405)))), (mo, .inr (11, [.ref to, .ref ke, .ref ik, .ref mrf, .long mab, .long mbl, .ref ha, .ref r0, .ref mbr, .ref mbp, .ref mby, .int (nI bl), .int (nI ta), .int (nI tl), .int (nI tk), .int vv, .ref an, .ref va])), (to, .inl (y 0, 228, .inl ft))] H := hP
      have hD : va_D A [(ha, .inl (y 0, 30, .inl (upd (upd (upd (upd (upd fh 15 (nI q341)) 14 (nI q357)) 13 (nI q373)) 12 (nI q389)) 11 (nI q405)))), (mo, .inr (11, [.ref to, .ref ke, .ref ik, .ref mrf, .long mab, .long mbl, .ref ha, .ref r0, .ref mbr, .ref mbp, .ref mby, .int (nI bl), .int (nI ta), .int (nI tl), .int (nI tk), .int vv, .ref an, .ref va])), (to, .inl (y 0, 228, .inl ft))] := hD
      refine lv_iload_n hx hb dX11_placesBy_38 rfl (lv_at hl 1 rfl) ?_
      refine lv_aload_n hx hb dX11_placesBy_39 rfl (lv_at hl 4 rfl) ?_
      have hs411 : kw_Split [(ha, .inl (y 0, 30, .inl (upd (upd (upd (upd (upd fh 15 (nI q341)) 14 (nI q357)) 13 (nI q373)) 12 (nI q389)) 11 (nI q405)))), (mo, .inr (11, [.ref to, .ref ke, .ref ik, .ref mrf, .long mab, .long mbl, .ref ha, .ref r0, .ref mbr, .ref mbp, .ref mby, .int (nI bl), .int (nI ta), .int (nI tl), .int (nI tk), .int vv, .ref an, .ref va])), (to, .inl (y 0, 228, .inl ft))] [(mo, .inr (11, [.ref to, .ref ke, .ref ik, .ref mrf, .long mab, .long mbl, .ref ha, .ref r0, .ref mbr, .ref mbp, .ref mby, .int (nI bl), .int (nI ta), .int (nI tl), .int (nI tk), .int vv, .ref an, .ref va])), (to, .inl (y 0, 228, .inl ft))] [(ha, .inl (y 0, 30, .inl (upd (upd (upd (upd (upd fh 15 (nI q341)) 14 (nI q357)) 13 (nI q373)) 12 (nI q389)) 11 (nI q405))))] [1, 2] [0] := ⟨rfl, rfl, rfl, rfl, rfl, by decide⟩
      refine kw_go_i hs411 hP hD hS hA (va_runV (As := []) (rest := [.int (nI q398)]) ⟨hx, hb, hml, hown, hts⟩ (gr_many l D y mo to ke ik mrf ha r0 mbr mbp mby an va mab mbl bl ta tl tk vv ft fi 5 mi no un hk0_ hk1_ hk2_ hk3_ hk4_ hkt hfi hgl hmi hno hun _) (cwV 0 hts gX11_placesBy_X11_many rfl rfl rfl (by decide +kernel) ⟨Nat.le_of_ble_eq_true rfl, Nat.le_of_ble_eq_true rfl⟩) (kw_PreV (ci := 11) (q0 := 1) hs411 hP hD hK hN rfl rfl) rfl rfl hl.1 rfl (lv_room (Nat.le_of_ble_eq_true rfl)) dX11_placesBy_40 ⟨Nat.le_of_ble_eq_true rfl, Nat.le_of_ble_eq_true rfl⟩) (fun r412 u413 H locs hq hP hD hS => ?_)
      obtain rfl := hq
      have hP : va_P D vwCl [(ha, .inl (y 0, 30, .inl (upd (upd (upd (upd (upd fh 15 (nI q341)) 14 (nI q357)) 13 (nI q373)) 12 (nI q389)) 11 (nI q405)))), (mo, .inr (11, [.ref to, .ref ke, .ref ik, .ref mrf, .long mab, .long mbl, .ref ha, .ref r0, .ref mbr, .ref mbp, .ref mby, .int (nI bl), .int (nI ta), .int (nI tl), .int (nI tk), .int vv, .ref an, .ref va])), (to, .inl (y 0, 228, .inl ft))] H := hP
      have hD : va_D A [(ha, .inl (y 0, 30, .inl (upd (upd (upd (upd (upd fh 15 (nI q341)) 14 (nI q357)) 13 (nI q373)) 12 (nI q389)) 11 (nI q405)))), (mo, .inr (11, [.ref to, .ref ke, .ref ik, .ref mrf, .long mab, .long mbl, .ref ha, .ref r0, .ref mbr, .ref mbp, .ref mby, .int (nI bl), .int (nI ta), .int (nI tl), .int (nI tk), .int vv, .ref an, .ref va])), (to, .inl (y 0, 228, .inl ft))] := hD
      refine lv_idiv hx hb dX11_placesBy_43 (nI_ne0 (by omega) (by omega)) ?_
      obtain ⟨q414, h415, h416⟩ := kr_div (a := q398) (b := fi) (by omega) (by omega) (by omega)
      rw [h416]
      refine lv_istore_n (lv' := [(3, .int (nI q414)), (6, .int 0), (5, .int 1000000), (4, .int 0), (0, .ref mo), (1, .int (nI k)), (2, .int x)]) hx hb dX11_placesBy_44 rfl hl (by decide) rfl (fun ls hl => ?_)
      refine lv_iinc (v := (-1)) (lv' := [(6, .int (-1)), (3, .int (nI q414)), (5, .int 1000000), (4, .int 0), (0, .ref mo), (1, .int (nI k)), (2, .int x)]) hx hb dX11_placesBy_45 hl (k := 1) rfl (by decide) (by decide) rfl (fun ls hl => ?_)
      refine lv_goto (tgt := 17) hx hb dX11_placesBy_48 (by decide) ?_
      refine lv_iload hx hb dX11_placesBy_17 (lv_at hl 0 rfl) ?_
      refine lv_if_lt (tgt := 51) hx hb dX11_placesBy_19 (by decide) (fun _ => ?_) (fun h9 => absurd h9 (by decide))
      refine lv_iconst (v := 0) hx hb dX11_placesBy_51 (by decide) ?_
      refine lv_istore (lv' := [(6, .int 0), (3, .int (nI q414)), (5, .int 1000000), (4, .int 0), (0, .ref mo), (1, .int (nI k)), (2, .int x)]) hx hb dX11_placesBy_52 hl (by decide) rfl (fun ls hl => ?_)
      have lp443 : ∀ (fuj91 j91 : Nat) (x429 : Int32) (x430 : Int32) (H : Heap) (locs : List Loc) (ls : Array Slot), j91 ≤ 5 → 5 - j91 < fuj91 → va_P D vwCl [(ha, .inl (y 0, 30, .inl (upd (upd (upd (upd (upd fh 15 (nI q341)) 14 (nI q357)) 13 (nI q373)) 12 (nI q389)) 11 (nI q405)))), (mo, .inr (11, [.ref to, .ref ke, .ref ik, .ref mrf, .long mab, .long mbl, .ref ha, .ref r0, .ref mbr, .ref mbp, .ref mby, .int (nI bl), .int (nI ta), .int (nI tl), .int (nI tk), .int vv, .ref an, .ref va])), (to, .inl (y 0, 228, .inl ft))] H → va_D A [(ha, .inl (y 0, 30, .inl (upd (upd (upd (upd (upd fh 15 (nI q341)) 14 (nI q357)) 13 (nI q373)) 12 (nI q389)) 11 (nI q405)))), (mo, .inr (11, [.ref to, .ref ke, .ref ik, .ref mrf, .long mab, .long mbl, .ref ha, .ref r0, .ref mbr, .ref mbp, .ref mby, .int (nI bl), .int (nI ta), .int (nI tl), .int (nI tk), .int vv, .ref an, .ref va])), (to, .inl (y 0, 228, .inl ft))] → va_S A s.heap H locs → lv_has ls 8 [(6, .int (nI j91)), (3, .int (nI q414)), (5, .int x430), (4, .int x429), (0, .ref mo), (1, .int (nI k)), (2, .int x)] → W pZ l eZ ({ frames := 6, cells := 0, slots := 0, locals := 172 }) s mZ [.ref mo, .int (nI k), .int x].toArray beZ meZ cZ H locs 0 0 (MQ beZ (va_Qi (fun (r : Int32) (u : (Nat → Int32)) => kr_t 30 u ∧ u 0 = (nI fi) ∧ u 1 = (nI 5)) (kw_B D (fun u => [(mo, .inr (11, [.ref to, .ref ke, .ref ik, .ref mrf, .long mab, .long mbl, .ref ha, .ref r0, .ref mbr, .ref mbp, .ref mby, .int (nI bl), .int (nI ta), .int (nI tl), .int (nI tk), .int vv, .ref an, .ref va])), (to, .inl (y 0, 228, .inl ft)), (ha, .inl (y 0, 30, .inl u))]) A) A) [.ref mo, .int (nI k), .int x].toArray s 0 0 A) (F0 mZ 54 ls []) := by
        intro fuj91
        induction fuj91 with
        | zero => intro j91 x429 x430 H locs ls hj9 hf9; exact absurd hf9 (Nat.not_lt_zero _)
        | succ fuj91 ihj91 =>
          intro j91 x429 x430 H locs ls hj91 hfj91  hP hD hS hl
          refine lv_iload hx hb dX11_placesBy_54 (lv_at hl 0 rfl) ?_
          refine lv_aload_n hx hb dX11_placesBy_56 rfl (lv_at hl 4 rfl) ?_
          have hs444 : kw_Split [(ha, .inl (y 0, 30, .inl (upd (upd (upd (upd (upd fh 15 (nI q341)) 14 (nI q357)) 13 (nI q373)) 12 (nI q389)) 11 (nI q405)))), (mo, .inr (11, [.ref to, .ref ke, .ref ik, .ref mrf, .long mab, .long mbl, .ref ha, .ref r0, .ref mbr, .ref mbp, .ref mby, .int (nI bl), .int (nI ta), .int (nI tl), .int (nI tk), .int vv, .ref an, .ref va])), (to, .inl (y 0, 228, .inl ft))] [(mo, .inr (11, [.ref to, .ref ke, .ref ik, .ref mrf, .long mab, .long mbl, .ref ha, .ref r0, .ref mbr, .ref mbp, .ref mby, .int (nI bl), .int (nI ta), .int (nI tl), .int (nI tk), .int vv, .ref an, .ref va])), (to, .inl (y 0, 228, .inl ft))] [(ha, .inl (y 0, 30, .inl (upd (upd (upd (upd (upd fh 15 (nI q341)) 14 (nI q357)) 13 (nI q373)) 12 (nI q389)) 11 (nI q405))))] [1, 2] [0] := ⟨rfl, rfl, rfl, rfl, rfl, by decide⟩
          refine kw_go_i hs444 hP hD hS hA (va_runV (As := []) (rest := [.int (nI j91)]) ⟨hx, hb, hml, hown, hts⟩ (gr_manyGleaners l D y mo to ke ik mrf ha r0 mbr mbp mby an va mab mbl bl ta tl tk vv ft fi 5 mi no un hk0_ hk1_ hk2_ hk3_ hk4_ hkt hfi hgl hmi hno hun _) (cwV 0 hts gX11_placesBy_X11_manyGleaners rfl rfl rfl (by decide +kernel) ⟨Nat.le_of_ble_eq_true rfl, Nat.le_of_ble_eq_true rfl⟩) (kw_PreV (ci := 11) (q0 := 1) hs444 hP hD hK hN rfl rfl) rfl rfl hl.1 rfl (lv_room (Nat.le_of_ble_eq_true rfl)) dX11_placesBy_57 ⟨Nat.le_of_ble_eq_true rfl, Nat.le_of_ble_eq_true rfl⟩) (fun r445 u446 H locs hq hP hD hS => ?_)
          obtain rfl := hq
          have hP : va_P D vwCl [(ha, .inl (y 0, 30, .inl (upd (upd (upd (upd (upd fh 15 (nI q341)) 14 (nI q357)) 13 (nI q373)) 12 (nI q389)) 11 (nI q405)))), (mo, .inr (11, [.ref to, .ref ke, .ref ik, .ref mrf, .long mab, .long mbl, .ref ha, .ref r0, .ref mbr, .ref mbp, .ref mby, .int (nI bl), .int (nI ta), .int (nI tl), .int (nI tk), .int vv, .ref an, .ref va])), (to, .inl (y 0, 228, .inl ft))] H := hP
          have hD : va_D A [(ha, .inl (y 0, 30, .inl (upd (upd (upd (upd (upd fh 15 (nI q341)) 14 (nI q357)) 13 (nI q373)) 12 (nI q389)) 11 (nI q405)))), (mo, .inr (11, [.ref to, .ref ke, .ref ik, .ref mrf, .long mab, .long mbl, .ref ha, .ref r0, .ref mbr, .ref mbp, .ref mby, .int (nI bl), .int (nI ta), .int (nI tl), .int (nI tk), .int vv, .ref an, .ref va])), (to, .inl (y 0, 228, .inl ft))] := hD
          refine lv_icmp_ge (tgt := 103) hx hb dX11_placesBy_60 (by decide) (fun h447 => ?_) (fun h448 => ?_)
          · skip
            have h447 : 5 ≤ j91 := (nI_leI (a := 5) (b := j91) (by omega) (by omega)).mp h447
            refine lv_iload_n hx hb dX11_placesBy_103 rfl (lv_at hl 6 rfl) ?_
            refine lv_if_ne (tgt := 112) hx hb dX11_placesBy_104 (by decide) (fun h449 => ?_) (fun h450 => ?_)
            · skip
              refine lv_iload hx hb dX11_placesBy_112 (lv_at hl 2 rfl) ?_
              exact W.iret (v := x430) hx hb hr (fun tZ ht hW => ⟨⟨x430, ((upd (upd (upd (upd (upd fh 15 (nI q341)) 14 (nI q357)) 13 (nI q373)) 12 (nI q389)) 11 (nI q405))), rfl, ⟨hr408, hk409, hk410⟩, by rw [ht]; exact hP.sub [1, 2, 0] rfl, hD.sub [1, 2, 0] (by decide) rfl⟩, hS.F ht⟩) hS.2.2 dX11_placesBy_114
            · skip
              refine lv_iload hx hb dX11_placesBy_107 (lv_at hl 3 rfl) ?_
              refine lv_goto (tgt := 114) hx hb dX11_placesBy_109 (by decide) ?_
              exact W.iret (v := x429) hx hb hr (fun tZ ht hW => ⟨⟨x429, ((upd (upd (upd (upd (upd fh 15 (nI q341)) 14 (nI q357)) 13 (nI q373)) 12 (nI q389)) 11 (nI q405))), rfl, ⟨hr408, hk409, hk410⟩, by rw [ht]; exact hP.sub [1, 2, 0] rfl, hD.sub [1, 2, 0] (by decide) rfl⟩, hS.F ht⟩) hS.2.2 dX11_placesBy_114
          · skip
            have h448 : ¬ 5 ≤ j91 := fun q9 => h448 ((nI_leI (a := 5) (b := j91) (by omega) (by omega)).mpr q9)
            refine lv_aload_n hx hb dX11_placesBy_63 rfl (lv_at hl 4 rfl) ?_
            refine va_get (D := D) (ci := 11) (v := .ref ha) (C := RX11) (T := TX11) (N := 18) hx hb hts iw11 hown hK hP 1 rfl rfl 6 (by decide) fw2 (fun _ h9 => h9) rfl dX11_placesBy_64 ?_
            refine lv_iload hx hb dX11_placesBy_67 (lv_at hl 0 rfl) ?_
            have hs451 : kw_Split [(ha, .inl (y 0, 30, .inl (upd (upd (upd (upd (upd fh 15 (nI q341)) 14 (nI q357)) 13 (nI q373)) 12 (nI q389)) 11 (nI q405)))), (mo, .inr (11, [.ref to, .ref ke, .ref ik, .ref mrf, .long mab, .long mbl, .ref ha, .ref r0, .ref mbr, .ref mbp, .ref mby, .int (nI bl), .int (nI ta), .int (nI tl), .int (nI tk), .int vv, .ref an, .ref va])), (to, .inl (y 0, 228, .inl ft))] [(ha, .inl (y 0, 30, .inl (upd (upd (upd (upd (upd fh 15 (nI q341)) 14 (nI q357)) 13 (nI q373)) 12 (nI q389)) 11 (nI q405))))] [(mo, .inr (11, [.ref to, .ref ke, .ref ik, .ref mrf, .long mab, .long mbl, .ref ha, .ref r0, .ref mbr, .ref mbp, .ref mby, .int (nI bl), .int (nI ta), .int (nI tl), .int (nI tk), .int vv, .ref an, .ref va])), (to, .inl (y 0, 228, .inl ft))] [0] [1, 2] := ⟨rfl, rfl, rfl, rfl, rfl, by decide⟩
            refine kw_go_i hs451 hP hD hS hA (va_runS (As := [.ref ha, .int (nI j91)]) (rest := []) ⟨hx, hb, hml, hown, hts⟩ (gr_getsOne30 l D y ha (upd (upd (upd (upd (upd fh 15 (nI q341)) 14 (nI q357)) 13 (nI q373)) 12 (nI q389)) 11 (nI q405)) fi 5 j91 hk409 hk410 hr408 hfi hgl (by omega) _) (va_cwS 2 hts gX11_placesBy_X11_getsOne rfl rfl rfl (by decide +kernel) ⟨Nat.le_of_ble_eq_true rfl, Nat.le_of_ble_eq_true rfl⟩) (kw_PreS hs451 hP hD hK hN) rfl rfl hl.1 rfl (lv_room (Nat.le_of_ble_eq_true rfl)) dX11_placesBy_69 ⟨Nat.le_of_ble_eq_true rfl, Nat.le_of_ble_eq_true rfl⟩) (fun r452 u453 H locs hq hP hD hS => ?_)
            have hP : va_P D vwCl [(mo, .inr (11, [.ref to, .ref ke, .ref ik, .ref mrf, .long mab, .long mbl, .ref ha, .ref r0, .ref mbr, .ref mbp, .ref mby, .int (nI bl), .int (nI ta), .int (nI tl), .int (nI tk), .int vv, .ref an, .ref va])), (to, .inl (y 0, 228, .inl ft)), (ha, .inl (y 0, 30, .inl (upd (upd (upd (upd (upd fh 15 (nI q341)) 14 (nI q357)) 13 (nI q373)) 12 (nI q389)) 11 (nI q405))))] H := hP
            have hD : va_D A [(mo, .inr (11, [.ref to, .ref ke, .ref ik, .ref mrf, .long mab, .long mbl, .ref ha, .ref r0, .ref mbr, .ref mbp, .ref mby, .int (nI bl), .int (nI ta), .int (nI tl), .int (nI tk), .int vv, .ref an, .ref va])), (to, .inl (y 0, 228, .inl ft)), (ha, .inl (y 0, 30, .inl (upd (upd (upd (upd (upd fh 15 (nI q341)) 14 (nI q357)) 13 (nI q373)) 12 (nI q389)) 11 (nI q405))))] := hD
            refine lv_istore (lv' := [(7, .int r452), (6, .int (nI j91)), (3, .int (nI q414)), (5, .int x430), (4, .int x429), (0, .ref mo), (1, .int (nI k)), (2, .int x)]) hx hb dX11_placesBy_72 hl (by decide) rfl (fun ls hl => ?_)
            refine lv_iload hx hb dX11_placesBy_74 (lv_at hl 4 rfl) ?_
            refine lv_iload hx hb dX11_placesBy_76 (lv_at hl 0 rfl) ?_
            refine lv_iadd hx hb dX11_placesBy_78 ?_
            refine lv_istore (lv' := [(4, .int (x429 + r452)), (7, .int r452), (6, .int (nI j91)), (3, .int (nI q414)), (5, .int x430), (0, .ref mo), (1, .int (nI k)), (2, .int x)]) hx hb dX11_placesBy_79 hl (by decide) rfl (fun ls hl => ?_)
            refine lv_iload hx hb dX11_placesBy_81 (lv_at hl 1 rfl) ?_
            refine lv_iload hx hb dX11_placesBy_83 (lv_at hl 4 rfl) ?_
            refine lv_icmp_ge (tgt := 93) hx hb dX11_placesBy_85 (by decide) (fun h454 => ?_) (fun h455 => ?_)
            · skip
              refine lv_iload hx hb dX11_placesBy_93 (lv_at hl 4 rfl) ?_
              refine lv_istore (lv' := [(5, .int x430), (4, .int (x429 + r452)), (7, .int r452), (6, .int (nI j91)), (3, .int (nI q414)), (0, .ref mo), (1, .int (nI k)), (2, .int x)]) hx hb dX11_placesBy_95 hl (by decide) rfl (fun ls hl => ?_)
              refine lv_iinc (v := (nI (j91 + 1))) (lv' := [(6, .int (nI (j91 + 1))), (5, .int x430), (4, .int (x429 + r452)), (7, .int r452), (3, .int (nI q414)), (0, .ref mo), (1, .int (nI k)), (2, .int x)]) hx hb dX11_placesBy_97 hl (k := 3) rfl (nI_1 j91) (by decide) rfl (fun ls hl => ?_)
              refine lv_goto (tgt := 54) hx hb dX11_placesBy_100 (by decide) ?_
              exact ihj91 (j91 + 1) (x429 + r452) x430 H locs ls (by omega) (by omega)  (hP.sub [2, 0, 1] rfl) (hD.sub [2, 0, 1] (by decide) rfl) hS (lv_sub hl [0, 4, 1, 2, 5, 6, 7] rfl)
            · skip
              refine lv_iload hx hb dX11_placesBy_88 (lv_at hl 1 rfl) ?_
              refine lv_goto (tgt := 95) hx hb dX11_placesBy_90 (by decide) ?_
              refine lv_istore (lv' := [(5, .int r452), (4, .int (x429 + r452)), (7, .int r452), (6, .int (nI j91)), (3, .int (nI q414)), (0, .ref mo), (1, .int (nI k)), (2, .int x)]) hx hb dX11_placesBy_95 hl (by decide) rfl (fun ls hl => ?_)
              refine lv_iinc (v := (nI (j91 + 1))) (lv' := [(6, .int (nI (j91 + 1))), (5, .int r452), (4, .int (x429 + r452)), (7, .int r452), (3, .int (nI q414)), (0, .ref mo), (1, .int (nI k)), (2, .int x)]) hx hb dX11_placesBy_97 hl (k := 3) rfl (nI_1 j91) (by decide) rfl (fun ls hl => ?_)
              refine lv_goto (tgt := 54) hx hb dX11_placesBy_100 (by decide) ?_
              exact ihj91 (j91 + 1) (x429 + r452) r452 H locs ls (by omega) (by omega)  (hP.sub [2, 0, 1] rfl) (hD.sub [2, 0, 1] (by decide) rfl) hS (lv_sub hl [0, 4, 1, 2, 5, 6, 7] rfl)
      exact lp443 (5 + 1) 0 0 1000000 _ _ _ (by omega) (by omega)  hP hD hS (lv_sub hl [0, 1, 2, 3, 4, 5, 6] rfl)
