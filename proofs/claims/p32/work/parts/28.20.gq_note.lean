set_option maxHeartbeats 4000000 in
set_option maxRecDepth 100000 in
theorem gq_note (l : Launch) (D : va_G) (y : Nat → ClassId) (mo : Nat) (to : Nat) (ke : Nat) (ik : Nat) (mrf : Nat) (ha : Nat) (r0 : Nat) (mbr : Nat) (mbp : Nat) (mby : Nat) (an : Nat) (va : Nat) (mab : Int64) (mbl : Int64) (bl : Nat) (ta : Nat) (tl : Nat) (tk : Nat) (vv : Int32) (frf : Nat → Int32) (ft : Nat → Int32) (fi : Nat) (gl : Nat) (mi : Nat) (no : Nat) (un : Nat) (x : Int32) (x2 : Int32) (x3 : Int32) (x4 : Int32) (x5 : Int32) (hk0_ : ft 0 = (nI fi)) (hk1_ : ft 1 = (nI gl)) (hk2_ : ft 2 = (nI mi)) (hk3_ : ft 3 = (nI no)) (hk4_ : ft 4 = (nI un)) (hkt : kr_t 228 ft) (hfi : fi ≤ 6) (hgl : gl ≤ 5) (hmi : mi ≤ 4) (hno : no ≤ 6) (hun : un ≤ 8) (hgf : (gl = 0 ∨ 0 < fi)) : kw_Mi l yX11_note wsX11_note ({ frames := 3, cells := 0, slots := 0, locals := 106 }) D y [.ref mo, .int x, .int x2, .int x3, .int x4, .int x5] [(mo, .inr (11, [.ref to, .ref ke, .ref ik, .ref mrf, .long mab, .long mbl, .ref ha, .ref r0, .ref mbr, .ref mbp, .ref mby, .int (nI bl), .int (nI ta), .int (nI tl), .int (nI tk), .int vv, .ref an, .ref va])), (mrf, .inl (y 0, 3, .inl frf)), (to, .inl (y 0, 228, .inl ft))] (fun (r : Int32) (u : (Nat → Int32) × (Nat → Int32) × Nat) => kr_t 228 u.2.1 ∧ u.2.1 0 = (nI fi) ∧ u.2.1 1 = (nI gl) ∧ u.2.1 2 = (nI mi) ∧ u.2.2 ≤ 6 ∧ u.2.1 3 = (nI u.2.2) ∧ u.2.1 4 = (nI un) ∧ (gl = 0 ∨ 0 < fi)) (fun u => [(mo, .inr (11, [.ref to, .ref ke, .ref ik, .ref mrf, .long mab, .long mbl, .ref ha, .ref r0, .ref mbr, .ref mbp, .ref mby, .int (nI bl), .int (nI ta), .int (nI tl), .int (nI tk), .int vv, .ref an, .ref va])), (mrf, .inl (y 0, 3, .inl u.1)), (to, .inl (y 0, 228, .inl u.2.1))]) 0 0 := by
  refine kw_Mi.of (cc := cX11_note) (maxL := 7) (ret := (some .int)) (by decide) rfl ?_
  intro pZ eZ s mZ beZ meZ cZ A hE
  obtain ⟨hx, hb, hr, hml, hts, hown, hlocks, hin, hA, hP, hD, hK, hN⟩ := hE
  have hS : va_S A s.heap s.heap [] := va_S.rf
  have hl := lv_entry ([.ref mo, .int x, .int x2, .int x3, .int x4, .int x5]) (n := 7) (Nat.le_of_ble_eq_true rfl)
  rw [lg_entry_eq]
  generalize (lg_sl ([.ref mo, .int x, .int x2, .int x3, .int x4, .int x5]) ++ List.replicate (7 - (lg_sl ([.ref mo, .int x, .int x2, .int x3, .int x4, .int x5])).length) Slot.unset).toArray = ls at hl ⊢
  have hl : lv_has ls 7 [(0, .ref mo), (1, .int x), (2, .int x2), (3, .int x3), (4, .int x4), (5, .int x5)] := hl
  have fw1 := hts (.constantLong RX11 174 (99)) (List.mem_of_getElem? (i := 1) rfl)
  have fw2 := hts (.fieldLink RX11 7 "GleanDuskModel" "told" "[I") (List.mem_of_getElem? (i := 2) rfl)
  have iw11 : ∀ w ∈ wsX110, w ∈ wsX11_note := fun _ h => List.mem_cons_of_mem _ (List.mem_append_right _ h)
  refine lv_aload_n hx hb dX11_note_0 rfl (lv_at hl 0 rfl) ?_
  refine lv_iload_n hx hb dX11_note_1 rfl (lv_at hl 1 rfl) ?_
  have hs1 : kw_Split [(mo, .inr (11, [.ref to, .ref ke, .ref ik, .ref mrf, .long mab, .long mbl, .ref ha, .ref r0, .ref mbr, .ref mbp, .ref mby, .int (nI bl), .int (nI ta), .int (nI tl), .int (nI tk), .int vv, .ref an, .ref va])), (mrf, .inl (y 0, 3, .inl frf)), (to, .inl (y 0, 228, .inl ft))] [(mo, .inr (11, [.ref to, .ref ke, .ref ik, .ref mrf, .long mab, .long mbl, .ref ha, .ref r0, .ref mbr, .ref mbp, .ref mby, .int (nI bl), .int (nI ta), .int (nI tl), .int (nI tk), .int vv, .ref an, .ref va])), (to, .inl (y 0, 228, .inl ft))] [(mrf, .inl (y 0, 3, .inl frf))] [0, 2] [1] := ⟨rfl, rfl, rfl, rfl, rfl, by decide⟩
  refine kw_go_i hs1 hP hD hS hA (va_runV (As := [.int x]) (rest := []) ⟨hx, hb, hml, hown, hts⟩ (gr_isField l D y mo to ke ik mrf ha r0 mbr mbp mby an va mab mbl bl ta tl tk vv ft fi gl mi no un x hk0_ hk1_ hk2_ hk3_ hk4_ hkt hfi hgl hmi hno hun _) (cwV 1 hts gX11_note_X11_isField rfl rfl rfl (by decide +kernel) ⟨Nat.le_of_ble_eq_true rfl, Nat.le_of_ble_eq_true rfl⟩) (kw_PreV (ci := 11) (q0 := 0) hs1 hP hD hK hN rfl rfl) rfl rfl hl.1 rfl (lv_room (Nat.le_of_ble_eq_true rfl)) dX11_note_2 ⟨Nat.le_of_ble_eq_true rfl, Nat.le_of_ble_eq_true rfl⟩) (fun r2 u3 H locs hq hP hD hS => ?_)
  rcases hq with ⟨j4, h5, rfl, rfl⟩ | ⟨h6, rfl⟩
  · skip
    have hP : va_P D vwCl [(mrf, .inl (y 0, 3, .inl frf)), (mo, .inr (11, [.ref to, .ref ke, .ref ik, .ref mrf, .long mab, .long mbl, .ref ha, .ref r0, .ref mbr, .ref mbp, .ref mby, .int (nI bl), .int (nI ta), .int (nI tl), .int (nI tk), .int vv, .ref an, .ref va])), (to, .inl (y 0, 228, .inl ft))] H := hP
    have hD : va_D A [(mrf, .inl (y 0, 3, .inl frf)), (mo, .inr (11, [.ref to, .ref ke, .ref ik, .ref mrf, .long mab, .long mbl, .ref ha, .ref r0, .ref mbr, .ref mbp, .ref mby, .int (nI bl), .int (nI ta), .int (nI tl), .int (nI tk), .int vv, .ref an, .ref va])), (to, .inl (y 0, 228, .inl ft))] := hD
    refine lv_if_eq (tgt := 43) hx hb dX11_note_5 (by decide) (fun h9 => absurd h9 (by decide)) (fun _ => ?_)
    refine lv_iload_n hx hb dX11_note_8 rfl (lv_at hl 2 rfl) ?_
    have hs7 : kw_Split [(mrf, .inl (y 0, 3, .inl frf)), (mo, .inr (11, [.ref to, .ref ke, .ref ik, .ref mrf, .long mab, .long mbl, .ref ha, .ref r0, .ref mbr, .ref mbp, .ref mby, .int (nI bl), .int (nI ta), .int (nI tl), .int (nI tk), .int vv, .ref an, .ref va])), (to, .inl (y 0, 228, .inl ft))] [] [(mrf, .inl (y 0, 3, .inl frf)), (mo, .inr (11, [.ref to, .ref ke, .ref ik, .ref mrf, .long mab, .long mbl, .ref ha, .ref r0, .ref mbr, .ref mbp, .ref mby, .int (nI bl), .int (nI ta), .int (nI tl), .int (nI tk), .int vv, .ref an, .ref va])), (to, .inl (y 0, 228, .inl ft))] [] [0, 1, 2] := ⟨rfl, rfl, rfl, rfl, rfl, by decide⟩
    refine kw_go_i hs7 hP hD hS hA (va_runS (As := [.int x2]) (rest := []) ⟨hx, hb, hml, hown, hts⟩ (gr_isStep l D y x2  _) (va_cwS 1 hts gX11_note_X11_isStep rfl rfl rfl (by decide +kernel) ⟨Nat.le_of_ble_eq_true rfl, Nat.le_of_ble_eq_true rfl⟩) (kw_PreS hs7 hP hD hK hN) rfl rfl hl.1 rfl (lv_room (Nat.le_of_ble_eq_true rfl)) dX11_note_9 ⟨Nat.le_of_ble_eq_true rfl, Nat.le_of_ble_eq_true rfl⟩) (fun r8 u9 H locs hq hP hD hS => ?_)
    rcases hq with ⟨j10, h11, rfl, rfl⟩ | ⟨h12, rfl⟩
    · skip
      have hP : va_P D vwCl [(mrf, .inl (y 0, 3, .inl frf)), (mo, .inr (11, [.ref to, .ref ke, .ref ik, .ref mrf, .long mab, .long mbl, .ref ha, .ref r0, .ref mbr, .ref mbp, .ref mby, .int (nI bl), .int (nI ta), .int (nI tl), .int (nI tk), .int vv, .ref an, .ref va])), (to, .inl (y 0, 228, .inl ft))] H := hP
      have hD : va_D A [(mrf, .inl (y 0, 3, .inl frf)), (mo, .inr (11, [.ref to, .ref ke, .ref ik, .ref mrf, .long mab, .long mbl, .ref ha, .ref r0, .ref mbr, .ref mbp, .ref mby, .int (nI bl), .int (nI ta), .int (nI tl), .int (nI tk), .int vv, .ref an, .ref va])), (to, .inl (y 0, 228, .inl ft))] := hD
      refine lv_if_eq (tgt := 43) hx hb dX11_note_12 (by decide) (fun h9 => absurd h9 (by decide)) (fun _ => ?_)
      refine lv_iload_n hx hb dX11_note_15 rfl (lv_at hl 3 rfl) ?_
      have hs13 : kw_Split [(mrf, .inl (y 0, 3, .inl frf)), (mo, .inr (11, [.ref to, .ref ke, .ref ik, .ref mrf, .long mab, .long mbl, .ref ha, .ref r0, .ref mbr, .ref mbp, .ref mby, .int (nI bl), .int (nI ta), .int (nI tl), .int (nI tk), .int vv, .ref an, .ref va])), (to, .inl (y 0, 228, .inl ft))] [] [(mrf, .inl (y 0, 3, .inl frf)), (mo, .inr (11, [.ref to, .ref ke, .ref ik, .ref mrf, .long mab, .long mbl, .ref ha, .ref r0, .ref mbr, .ref mbp, .ref mby, .int (nI bl), .int (nI ta), .int (nI tl), .int (nI tk), .int vv, .ref an, .ref va])), (to, .inl (y 0, 228, .inl ft))] [] [0, 1, 2] := ⟨rfl, rfl, rfl, rfl, rfl, by decide⟩
      refine kw_go_i hs13 hP hD hS hA (va_runS (As := [.int x3]) (rest := []) ⟨hx, hb, hml, hown, hts⟩ (gr_isLight l D y x3  _) (va_cwS 1 hts gX11_note_X11_isLight rfl rfl rfl (by decide +kernel) ⟨Nat.le_of_ble_eq_true rfl, Nat.le_of_ble_eq_true rfl⟩) (kw_PreS hs13 hP hD hK hN) rfl rfl hl.1 rfl (lv_room (Nat.le_of_ble_eq_true rfl)) dX11_note_16 ⟨Nat.le_of_ble_eq_true rfl, Nat.le_of_ble_eq_true rfl⟩) (fun r14 u15 H locs hq hP hD hS => ?_)
      rcases hq with ⟨j16, h17, rfl, rfl⟩ | ⟨h18, rfl⟩
      · skip
        have hP : va_P D vwCl [(mrf, .inl (y 0, 3, .inl frf)), (mo, .inr (11, [.ref to, .ref ke, .ref ik, .ref mrf, .long mab, .long mbl, .ref ha, .ref r0, .ref mbr, .ref mbp, .ref mby, .int (nI bl), .int (nI ta), .int (nI tl), .int (nI tk), .int vv, .ref an, .ref va])), (to, .inl (y 0, 228, .inl ft))] H := hP
        have hD : va_D A [(mrf, .inl (y 0, 3, .inl frf)), (mo, .inr (11, [.ref to, .ref ke, .ref ik, .ref mrf, .long mab, .long mbl, .ref ha, .ref r0, .ref mbr, .ref mbp, .ref mby, .int (nI bl), .int (nI ta), .int (nI tl), .int (nI tk), .int vv, .ref an, .ref va])), (to, .inl (y 0, 228, .inl ft))] := hD
        refine lv_if_eq (tgt := 43) hx hb dX11_note_19 (by decide) (fun h9 => absurd h9 (by decide)) (fun _ => ?_)
        refine lv_iload hx hb dX11_note_22 (lv_at hl 4 rfl) ?_
        have hs19 : kw_Split [(mrf, .inl (y 0, 3, .inl frf)), (mo, .inr (11, [.ref to, .ref ke, .ref ik, .ref mrf, .long mab, .long mbl, .ref ha, .ref r0, .ref mbr, .ref mbp, .ref mby, .int (nI bl), .int (nI ta), .int (nI tl), .int (nI tk), .int vv, .ref an, .ref va])), (to, .inl (y 0, 228, .inl ft))] [] [(mrf, .inl (y 0, 3, .inl frf)), (mo, .inr (11, [.ref to, .ref ke, .ref ik, .ref mrf, .long mab, .long mbl, .ref ha, .ref r0, .ref mbr, .ref mbp, .ref mby, .int (nI bl), .int (nI ta), .int (nI tl), .int (nI tk), .int vv, .ref an, .ref va])), (to, .inl (y 0, 228, .inl ft))] [] [0, 1, 2] := ⟨rfl, rfl, rfl, rfl, rfl, by decide⟩
        refine kw_go_i hs19 hP hD hS hA (va_runS (As := [.int x4]) (rest := []) ⟨hx, hb, hml, hown, hts⟩ (gr_isCloud l D y x4  _) (va_cwS 1 hts gX11_note_X11_isCloud rfl rfl rfl (by decide +kernel) ⟨Nat.le_of_ble_eq_true rfl, Nat.le_of_ble_eq_true rfl⟩) (kw_PreS hs19 hP hD hK hN) rfl rfl hl.1 rfl (lv_room (Nat.le_of_ble_eq_true rfl)) dX11_note_24 ⟨Nat.le_of_ble_eq_true rfl, Nat.le_of_ble_eq_true rfl⟩) (fun r20 u21 H locs hq hP hD hS => ?_)
        rcases hq with ⟨j22, h23, rfl, rfl⟩ | ⟨h24, rfl⟩
        · skip
          have hP : va_P D vwCl [(mrf, .inl (y 0, 3, .inl frf)), (mo, .inr (11, [.ref to, .ref ke, .ref ik, .ref mrf, .long mab, .long mbl, .ref ha, .ref r0, .ref mbr, .ref mbp, .ref mby, .int (nI bl), .int (nI ta), .int (nI tl), .int (nI tk), .int vv, .ref an, .ref va])), (to, .inl (y 0, 228, .inl ft))] H := hP
          have hD : va_D A [(mrf, .inl (y 0, 3, .inl frf)), (mo, .inr (11, [.ref to, .ref ke, .ref ik, .ref mrf, .long mab, .long mbl, .ref ha, .ref r0, .ref mbr, .ref mbp, .ref mby, .int (nI bl), .int (nI ta), .int (nI tl), .int (nI tk), .int vv, .ref an, .ref va])), (to, .inl (y 0, 228, .inl ft))] := hD
          refine lv_if_eq (tgt := 43) hx hb dX11_note_27 (by decide) (fun h9 => absurd h9 (by decide)) (fun _ => ?_)
          refine lv_iload hx hb dX11_note_30 (lv_at hl 5 rfl) ?_
          refine lv_i2l (v := x5.toInt64) hx hb dX11_note_32 (rfl) ?_
          refine lv_lconst (v := 0) hx hb dX11_note_33 (by decide) ?_
          refine lv_ldc2 (v := 99) hx hb hown fw1 dX11_note_34 ?_
          have hs25 : kw_Split [(mrf, .inl (y 0, 3, .inl frf)), (mo, .inr (11, [.ref to, .ref ke, .ref ik, .ref mrf, .long mab, .long mbl, .ref ha, .ref r0, .ref mbr, .ref mbp, .ref mby, .int (nI bl), .int (nI ta), .int (nI tl), .int (nI tk), .int vv, .ref an, .ref va])), (to, .inl (y 0, 228, .inl ft))] [] [(mrf, .inl (y 0, 3, .inl frf)), (mo, .inr (11, [.ref to, .ref ke, .ref ik, .ref mrf, .long mab, .long mbl, .ref ha, .ref r0, .ref mbr, .ref mbp, .ref mby, .int (nI bl), .int (nI ta), .int (nI tl), .int (nI tk), .int vv, .ref an, .ref va])), (to, .inl (y 0, 228, .inl ft))] [] [0, 1, 2] := ⟨rfl, rfl, rfl, rfl, rfl, by decide⟩
          refine kw_go_i hs25 hP hD hS hA (va_runS (As := [.long x5.toInt64, .long 0, .long 99]) (rest := []) ⟨hx, hb, hml, hown, hts⟩ (gr_in l D y x5 0 99 (by omega) (by omega) _) (va_cwS 3 hts gX11_note_X11_in rfl rfl rfl (by decide +kernel) ⟨Nat.le_of_ble_eq_true rfl, Nat.le_of_ble_eq_true rfl⟩) (kw_PreS hs25 hP hD hK hN) rfl rfl hl.1 rfl (lv_room (Nat.le_of_ble_eq_true rfl)) dX11_note_37 ⟨Nat.le_of_ble_eq_true rfl, Nat.le_of_ble_eq_true rfl⟩) (fun r26 u27 H locs hq hP hD hS => ?_)
          rcases hq with ⟨j28, h29, h30, rfl, rfl⟩ | ⟨h31, rfl⟩
          · skip
            have hP : va_P D vwCl [(mrf, .inl (y 0, 3, .inl frf)), (mo, .inr (11, [.ref to, .ref ke, .ref ik, .ref mrf, .long mab, .long mbl, .ref ha, .ref r0, .ref mbr, .ref mbp, .ref mby, .int (nI bl), .int (nI ta), .int (nI tl), .int (nI tk), .int vv, .ref an, .ref va])), (to, .inl (y 0, 228, .inl ft))] H := hP
            have hD : va_D A [(mrf, .inl (y 0, 3, .inl frf)), (mo, .inr (11, [.ref to, .ref ke, .ref ik, .ref mrf, .long mab, .long mbl, .ref ha, .ref r0, .ref mbr, .ref mbp, .ref mby, .int (nI bl), .int (nI ta), .int (nI tl), .int (nI tk), .int vv, .ref an, .ref va])), (to, .inl (y 0, 228, .inl ft))] := hD
            refine lv_if_ne (tgt := 50) hx hb dX11_note_40 (by decide) (fun _ => ?_) (fun h9 => absurd h9 (by decide))
            refine lv_aload_n hx hb dX11_note_50 rfl (lv_at hl 0 rfl) ?_
            refine va_get (D := D) (ci := 11) (v := .ref to) (C := RX11) (T := TX11) (N := 18) hx hb hts iw11 hown hK hP 1 rfl rfl 0 (by decide) fw2 (fun _ h9 => h9) rfl dX11_note_51 ?_
            refine lv_iconst (v := 3) hx hb dX11_note_54 (by decide) ?_
            refine va_iald hx hb hK hP 2 0 rfl rfl (by unfold vp_in; decide) dX11_note_55 ?_
            rw [show ((3 : Int32)).toNatClampNeg = 3 from rfl]
            rw [show (ft 3) = (nI no) from hk3_]
            refine lv_bipush (v := 6) hx hb dX11_note_56 (by decide) ?_
            refine lv_icmp_ne (tgt := 66) hx hb dX11_note_58 (by decide) (fun h32 => ?_) (fun h33 => ?_)
            · skip
              have h32 : ¬ no = 6 := fun q9 => h32 ((nI_eq (a := no) (b := 6) (by omega) (by omega)).mpr q9)
              rcases (show no = 0 ∨ no = 1 ∨ no = 2 ∨ no = 3 ∨ no = 4 ∨ no = 5 by omega) with rfl | rfl | rfl | rfl | rfl | rfl
              · skip
                refine lv_bipush (v := 46) hx hb dX11_note_66 (by decide) ?_
                refine lv_iconst (v := 5) hx hb dX11_note_68 (by decide) ?_
                refine lv_aload_n hx hb dX11_note_69 rfl (lv_at hl 0 rfl) ?_
                refine va_get (D := D) (ci := 11) (v := .ref to) (C := RX11) (T := TX11) (N := 18) hx hb hts iw11 hown hK hP 1 rfl rfl 0 (by decide) fw2 (fun _ h9 => h9) rfl dX11_note_70 ?_
                refine lv_iconst (v := 3) hx hb dX11_note_73 (by decide) ?_
                refine va_iald hx hb hK hP 2 0 rfl rfl (by unfold vp_in; decide) dX11_note_74 ?_
                rw [show ((3 : Int32)).toNatClampNeg = 3 from rfl]
                rw [show (ft 3) = (nI 0) from hk3_]
                refine lv_imul hx hb dX11_note_75 ?_
                rw [show 5 * (nI 0) = nI (0) from pk_mul 5 0]
                refine lv_iadd hx hb dX11_note_76 ?_
                rw [show 46 + (nI 0) = nI (46) from nI_add 46 0]
                refine lv_istore (lv' := [(6, .int (nI 46)), (0, .ref mo), (1, .int (nI j4)), (2, .int (nI j10)), (3, .int (nI j16)), (4, .int (nI j22)), (5, .int (nI j28))]) hx hb dX11_note_77 hl (by decide) rfl (fun ls hl => ?_)
                refine lv_aload_n hx hb dX11_note_79 rfl (lv_at hl 1 rfl) ?_
                refine va_get (D := D) (ci := 11) (v := .ref to) (C := RX11) (T := TX11) (N := 18) hx hb hts iw11 hown hK hP 1 rfl rfl 0 (by decide) fw2 (fun _ h9 => h9) rfl dX11_note_80 ?_
                refine lv_iload hx hb dX11_note_83 (lv_at hl 0 rfl) ?_
                refine lv_iload_n hx hb dX11_note_85 rfl (lv_at hl 2 rfl) ?_
                refine va_iast hx hb hK hP hD hS 2 0 rfl rfl (vp_in_nI (by omega) (by decide)) dX11_note_86 (fun H locs hP hD hS => ?_)
                rw [nI_clamp (n := 46) (by omega)] at hP hD
                have hr34 : kr_t 228 (upd ft 46 (nI j4)) := kr_up hkt (kr_free (by unfold kr_a; omega) (by unfold kr_s; omega))
                have hk35 : (upd ft 46 (nI j4)) 0 = (nI fi) := (pk_un (by decide)).trans hk0_
                have hk36 : (upd ft 46 (nI j4)) 1 = (nI gl) := (pk_un (by decide)).trans hk1_
                have hk37 : (upd ft 46 (nI j4)) 2 = (nI mi) := (pk_un (by decide)).trans hk2_
                have hk38 : (upd ft 46 (nI j4)) 3 = (nI 0) := (pk_un (by decide)).trans hk3_
                have hk39 : (upd ft 46 (nI j4)) 4 = (nI un) := (pk_un (by decide)).trans hk4_
                have hP : va_P D vwCl [(mrf, .inl (y 0, 3, .inl frf)), (mo, .inr (11, [.ref to, .ref ke, .ref ik, .ref mrf, .long mab, .long mbl, .ref ha, .ref r0, .ref mbr, .ref mbp, .ref mby, .int (nI bl), .int (nI ta), .int (nI tl), .int (nI tk), .int vv, .ref an, .ref va])), (to, .inl (y 0, 228, .inl (upd ft 46 (nI j4))))] H := hP
                have hD : va_D A [(mrf, .inl (y 0, 3, .inl frf)), (mo, .inr (11, [.ref to, .ref ke, .ref ik, .ref mrf, .long mab, .long mbl, .ref ha, .ref r0, .ref mbr, .ref mbp, .ref mby, .int (nI bl), .int (nI ta), .int (nI tl), .int (nI tk), .int vv, .ref an, .ref va])), (to, .inl (y 0, 228, .inl (upd ft 46 (nI j4))))] := hD
                refine lv_aload_n hx hb dX11_note_87 rfl (lv_at hl 1 rfl) ?_
                refine va_get (D := D) (ci := 11) (v := .ref to) (C := RX11) (T := TX11) (N := 18) hx hb hts iw11 hown hK hP 1 rfl rfl 0 (by decide) fw2 (fun _ h9 => h9) rfl dX11_note_88 ?_
                refine lv_iload hx hb dX11_note_91 (lv_at hl 0 rfl) ?_
                refine lv_iconst (v := 1) hx hb dX11_note_93 (by decide) ?_
                refine lv_iadd hx hb dX11_note_94 ?_
                rw [show (nI 46) + 1 = nI (47) from nI_add 46 1]
                refine lv_iload_n hx hb dX11_note_95 rfl (lv_at hl 3 rfl) ?_
                refine va_iast hx hb hK hP hD hS 2 0 rfl rfl (vp_in_nI (by omega) (by decide)) dX11_note_96 (fun H locs hP hD hS => ?_)
                rw [nI_clamp (n := 47) (by omega)] at hP hD
                have hr40 : kr_t 228 (upd (upd ft 46 (nI j4)) 47 (nI j10)) := kr_up hr34 (kr_free (by unfold kr_a; omega) (by unfold kr_s; omega))
                have hk41 : (upd (upd ft 46 (nI j4)) 47 (nI j10)) 0 = (nI fi) := (pk_un (by decide)).trans hk35
                have hk42 : (upd (upd ft 46 (nI j4)) 47 (nI j10)) 1 = (nI gl) := (pk_un (by decide)).trans hk36
                have hk43 : (upd (upd ft 46 (nI j4)) 47 (nI j10)) 2 = (nI mi) := (pk_un (by decide)).trans hk37
                have hk44 : (upd (upd ft 46 (nI j4)) 47 (nI j10)) 3 = (nI 0) := (pk_un (by decide)).trans hk38
                have hk45 : (upd (upd ft 46 (nI j4)) 47 (nI j10)) 4 = (nI un) := (pk_un (by decide)).trans hk39
                have hP : va_P D vwCl [(mrf, .inl (y 0, 3, .inl frf)), (mo, .inr (11, [.ref to, .ref ke, .ref ik, .ref mrf, .long mab, .long mbl, .ref ha, .ref r0, .ref mbr, .ref mbp, .ref mby, .int (nI bl), .int (nI ta), .int (nI tl), .int (nI tk), .int vv, .ref an, .ref va])), (to, .inl (y 0, 228, .inl (upd (upd ft 46 (nI j4)) 47 (nI j10))))] H := hP
                have hD : va_D A [(mrf, .inl (y 0, 3, .inl frf)), (mo, .inr (11, [.ref to, .ref ke, .ref ik, .ref mrf, .long mab, .long mbl, .ref ha, .ref r0, .ref mbr, .ref mbp, .ref mby, .int (nI bl), .int (nI ta), .int (nI tl), .int (nI tk), .int vv, .ref an, .ref va])), (to, .inl (y 0, 228, .inl (upd (upd ft 46 (nI j4)) 47 (nI j10))))] := hD
                refine lv_aload_n hx hb dX11_note_97 rfl (lv_at hl 1 rfl) ?_
                refine va_get (D := D) (ci := 11) (v := .ref to) (C := RX11) (T := TX11) (N := 18) hx hb hts iw11 hown hK hP 1 rfl rfl 0 (by decide) fw2 (fun _ h9 => h9) rfl dX11_note_98 ?_
                refine lv_iload hx hb dX11_note_101 (lv_at hl 0 rfl) ?_
                refine lv_iconst (v := 2) hx hb dX11_note_103 (by decide) ?_
                refine lv_iadd hx hb dX11_note_104 ?_
                rw [show (nI 46) + 2 = nI (48) from nI_add 46 2]
                refine lv_iload_n hx hb dX11_note_105 rfl (lv_at hl 4 rfl) ?_
                refine va_iast hx hb hK hP hD hS 2 0 rfl rfl (vp_in_nI (by omega) (by decide)) dX11_note_106 (fun H locs hP hD hS => ?_)
                rw [nI_clamp (n := 48) (by omega)] at hP hD
                have hr46 : kr_t 228 (upd (upd (upd ft 46 (nI j4)) 47 (nI j10)) 48 (nI j16)) := kr_up hr40 (kr_free (by unfold kr_a; omega) (by unfold kr_s; omega))
                have hk47 : (upd (upd (upd ft 46 (nI j4)) 47 (nI j10)) 48 (nI j16)) 0 = (nI fi) := (pk_un (by decide)).trans hk41
                have hk48 : (upd (upd (upd ft 46 (nI j4)) 47 (nI j10)) 48 (nI j16)) 1 = (nI gl) := (pk_un (by decide)).trans hk42
                have hk49 : (upd (upd (upd ft 46 (nI j4)) 47 (nI j10)) 48 (nI j16)) 2 = (nI mi) := (pk_un (by decide)).trans hk43
                have hk50 : (upd (upd (upd ft 46 (nI j4)) 47 (nI j10)) 48 (nI j16)) 3 = (nI 0) := (pk_un (by decide)).trans hk44
                have hk51 : (upd (upd (upd ft 46 (nI j4)) 47 (nI j10)) 48 (nI j16)) 4 = (nI un) := (pk_un (by decide)).trans hk45
                have hP : va_P D vwCl [(mrf, .inl (y 0, 3, .inl frf)), (mo, .inr (11, [.ref to, .ref ke, .ref ik, .ref mrf, .long mab, .long mbl, .ref ha, .ref r0, .ref mbr, .ref mbp, .ref mby, .int (nI bl), .int (nI ta), .int (nI tl), .int (nI tk), .int vv, .ref an, .ref va])), (to, .inl (y 0, 228, .inl (upd (upd (upd ft 46 (nI j4)) 47 (nI j10)) 48 (nI j16))))] H := hP
                have hD : va_D A [(mrf, .inl (y 0, 3, .inl frf)), (mo, .inr (11, [.ref to, .ref ke, .ref ik, .ref mrf, .long mab, .long mbl, .ref ha, .ref r0, .ref mbr, .ref mbp, .ref mby, .int (nI bl), .int (nI ta), .int (nI tl), .int (nI tk), .int vv, .ref an, .ref va])), (to, .inl (y 0, 228, .inl (upd (upd (upd ft 46 (nI j4)) 47 (nI j10)) 48 (nI j16))))] := hD
                refine lv_aload_n hx hb dX11_note_107 rfl (lv_at hl 1 rfl) ?_
                refine va_get (D := D) (ci := 11) (v := .ref to) (C := RX11) (T := TX11) (N := 18) hx hb hts iw11 hown hK hP 1 rfl rfl 0 (by decide) fw2 (fun _ h9 => h9) rfl dX11_note_108 ?_
                refine lv_iload hx hb dX11_note_111 (lv_at hl 0 rfl) ?_
                refine lv_iconst (v := 3) hx hb dX11_note_113 (by decide) ?_
                refine lv_iadd hx hb dX11_note_114 ?_
                rw [show (nI 46) + 3 = nI (49) from nI_add 46 3]
                refine lv_iload hx hb dX11_note_115 (lv_at hl 5 rfl) ?_
                refine va_iast hx hb hK hP hD hS 2 0 rfl rfl (vp_in_nI (by omega) (by decide)) dX11_note_117 (fun H locs hP hD hS => ?_)
                rw [nI_clamp (n := 49) (by omega)] at hP hD
                have hr52 : kr_t 228 (upd (upd (upd (upd ft 46 (nI j4)) 47 (nI j10)) 48 (nI j16)) 49 (nI j22)) := kr_up hr46 (kr_free (by unfold kr_a; omega) (by unfold kr_s; omega))
                have hk53 : (upd (upd (upd (upd ft 46 (nI j4)) 47 (nI j10)) 48 (nI j16)) 49 (nI j22)) 0 = (nI fi) := (pk_un (by decide)).trans hk47
                have hk54 : (upd (upd (upd (upd ft 46 (nI j4)) 47 (nI j10)) 48 (nI j16)) 49 (nI j22)) 1 = (nI gl) := (pk_un (by decide)).trans hk48
                have hk55 : (upd (upd (upd (upd ft 46 (nI j4)) 47 (nI j10)) 48 (nI j16)) 49 (nI j22)) 2 = (nI mi) := (pk_un (by decide)).trans hk49
                have hk56 : (upd (upd (upd (upd ft 46 (nI j4)) 47 (nI j10)) 48 (nI j16)) 49 (nI j22)) 3 = (nI 0) := (pk_un (by decide)).trans hk50
                have hk57 : (upd (upd (upd (upd ft 46 (nI j4)) 47 (nI j10)) 48 (nI j16)) 49 (nI j22)) 4 = (nI un) := (pk_un (by decide)).trans hk51
                have hP : va_P D vwCl [(mrf, .inl (y 0, 3, .inl frf)), (mo, .inr (11, [.ref to, .ref ke, .ref ik, .ref mrf, .long mab, .long mbl, .ref ha, .ref r0, .ref mbr, .ref mbp, .ref mby, .int (nI bl), .int (nI ta), .int (nI tl), .int (nI tk), .int vv, .ref an, .ref va])), (to, .inl (y 0, 228, .inl (upd (upd (upd (upd ft 46 (nI j4)) 47 (nI j10)) 48 (nI j16)) 49 (nI j22))))] H := hP
                have hD : va_D A [(mrf, .inl (y 0, 3, .inl frf)), (mo, .inr (11, [.ref to, .ref ke, .ref ik, .ref mrf, .long mab, .long mbl, .ref ha, .ref r0, .ref mbr, .ref mbp, .ref mby, .int (nI bl), .int (nI ta), .int (nI tl), .int (nI tk), .int vv, .ref an, .ref va])), (to, .inl (y 0, 228, .inl (upd (upd (upd (upd ft 46 (nI j4)) 47 (nI j10)) 48 (nI j16)) 49 (nI j22))))] := hD
                refine lv_aload_n hx hb dX11_note_118 rfl (lv_at hl 1 rfl) ?_
                refine va_get (D := D) (ci := 11) (v := .ref to) (C := RX11) (T := TX11) (N := 18) hx hb hts iw11 hown hK hP 1 rfl rfl 0 (by decide) fw2 (fun _ h9 => h9) rfl dX11_note_119 ?_
                refine lv_iload hx hb dX11_note_122 (lv_at hl 0 rfl) ?_
                refine lv_iconst (v := 4) hx hb dX11_note_124 (by decide) ?_
                refine lv_iadd hx hb dX11_note_125 ?_
                rw [show (nI 46) + 4 = nI (50) from nI_add 46 4]
                refine lv_iload hx hb dX11_note_126 (lv_at hl 6 rfl) ?_
                refine va_iast hx hb hK hP hD hS 2 0 rfl rfl (vp_in_nI (by omega) (by decide)) dX11_note_128 (fun H locs hP hD hS => ?_)
                rw [nI_clamp (n := 50) (by omega)] at hP hD
                have hr58 : kr_t 228 (upd (upd (upd (upd (upd ft 46 (nI j4)) 47 (nI j10)) 48 (nI j16)) 49 (nI j22)) 50 (nI j28)) := kr_up hr52 (kr_free (by unfold kr_a; omega) (by unfold kr_s; omega))
                have hk59 : (upd (upd (upd (upd (upd ft 46 (nI j4)) 47 (nI j10)) 48 (nI j16)) 49 (nI j22)) 50 (nI j28)) 0 = (nI fi) := (pk_un (by decide)).trans hk53
                have hk60 : (upd (upd (upd (upd (upd ft 46 (nI j4)) 47 (nI j10)) 48 (nI j16)) 49 (nI j22)) 50 (nI j28)) 1 = (nI gl) := (pk_un (by decide)).trans hk54
                have hk61 : (upd (upd (upd (upd (upd ft 46 (nI j4)) 47 (nI j10)) 48 (nI j16)) 49 (nI j22)) 50 (nI j28)) 2 = (nI mi) := (pk_un (by decide)).trans hk55
                have hk62 : (upd (upd (upd (upd (upd ft 46 (nI j4)) 47 (nI j10)) 48 (nI j16)) 49 (nI j22)) 50 (nI j28)) 3 = (nI 0) := (pk_un (by decide)).trans hk56
                have hk63 : (upd (upd (upd (upd (upd ft 46 (nI j4)) 47 (nI j10)) 48 (nI j16)) 49 (nI j22)) 50 (nI j28)) 4 = (nI un) := (pk_un (by decide)).trans hk57
                have hP : va_P D vwCl [(mrf, .inl (y 0, 3, .inl frf)), (mo, .inr (11, [.ref to, .ref ke, .ref ik, .ref mrf, .long mab, .long mbl, .ref ha, .ref r0, .ref mbr, .ref mbp, .ref mby, .int (nI bl), .int (nI ta), .int (nI tl), .int (nI tk), .int vv, .ref an, .ref va])), (to, .inl (y 0, 228, .inl (upd (upd (upd (upd (upd ft 46 (nI j4)) 47 (nI j10)) 48 (nI j16)) 49 (nI j22)) 50 (nI j28))))] H := hP
                have hD : va_D A [(mrf, .inl (y 0, 3, .inl frf)), (mo, .inr (11, [.ref to, .ref ke, .ref ik, .ref mrf, .long mab, .long mbl, .ref ha, .ref r0, .ref mbr, .ref mbp, .ref mby, .int (nI bl), .int (nI ta), .int (nI tl), .int (nI tk), .int vv, .ref an, .ref va])), (to, .inl (y 0, 228, .inl (upd (upd (upd (upd (upd ft 46 (nI j4)) 47 (nI j10)) 48 (nI j16)) 49 (nI j22)) 50 (nI j28))))] := hD
                refine lv_aload_n hx hb dX11_note_129 rfl (lv_at hl 1 rfl) ?_
                refine va_get (D := D) (ci := 11) (v := .ref to) (C := RX11) (T := TX11) (N := 18) hx hb hts iw11 hown hK hP 1 rfl rfl 0 (by decide) fw2 (fun _ h9 => h9) rfl dX11_note_130 ?_
                refine lv_iconst (v := 3) hx hb dX11_note_133 (by decide) ?_
                refine lv_dup2_11 hx hb dX11_note_134 rfl rfl ?_
                refine va_iald hx hb hK hP 2 0 rfl rfl (by unfold vp_in; decide) dX11_note_135 ?_
                rw [show ((3 : Int32)).toNatClampNeg = 3 from rfl]
                rw [show ((upd (upd (upd (upd (upd ft 46 (nI j4)) 47 (nI j10)) 48 (nI j16)) 49 (nI j22)) 50 (nI j28)) 3) = (nI 0) from hk62]
                refine lv_iconst (v := 1) hx hb dX11_note_136 (by decide) ?_
                refine lv_iadd hx hb dX11_note_137 ?_
                rw [show (nI 0) + 1 = nI (1) from nI_add 0 1]
                refine va_iast hx hb hK hP hD hS 2 0 rfl rfl (by unfold vp_in; decide) dX11_note_138 (fun H locs hP hD hS => ?_)
                rw [show ((3 : Int32)).toNatClampNeg = 3 from rfl] at hP hD
                have hr64 : kr_t 228 (upd (upd (upd (upd (upd (upd ft 46 (nI j4)) 47 (nI j10)) 48 (nI j16)) 49 (nI j22)) 50 (nI j28)) 3 (nI 1)) := kr_up hr58 (kr_free (by unfold kr_a; omega) (by unfold kr_s; omega))
                have hk65 : (upd (upd (upd (upd (upd (upd ft 46 (nI j4)) 47 (nI j10)) 48 (nI j16)) 49 (nI j22)) 50 (nI j28)) 3 (nI 1)) 0 = (nI fi) := (pk_un (by decide)).trans hk59
                have hk66 : (upd (upd (upd (upd (upd (upd ft 46 (nI j4)) 47 (nI j10)) 48 (nI j16)) 49 (nI j22)) 50 (nI j28)) 3 (nI 1)) 1 = (nI gl) := (pk_un (by decide)).trans hk60
                have hk67 : (upd (upd (upd (upd (upd (upd ft 46 (nI j4)) 47 (nI j10)) 48 (nI j16)) 49 (nI j22)) 50 (nI j28)) 3 (nI 1)) 2 = (nI mi) := (pk_un (by decide)).trans hk61
                have hk68 : (upd (upd (upd (upd (upd (upd ft 46 (nI j4)) 47 (nI j10)) 48 (nI j16)) 49 (nI j22)) 50 (nI j28)) 3 (nI 1)) 4 = (nI un) := (pk_un (by decide)).trans hk63
                have hk69 : (upd (upd (upd (upd (upd (upd ft 46 (nI j4)) 47 (nI j10)) 48 (nI j16)) 49 (nI j22)) 50 (nI j28)) 3 (nI 1)) 3 = (nI 1) := pk_us
                have hP : va_P D vwCl [(mrf, .inl (y 0, 3, .inl frf)), (mo, .inr (11, [.ref to, .ref ke, .ref ik, .ref mrf, .long mab, .long mbl, .ref ha, .ref r0, .ref mbr, .ref mbp, .ref mby, .int (nI bl), .int (nI ta), .int (nI tl), .int (nI tk), .int vv, .ref an, .ref va])), (to, .inl (y 0, 228, .inl (upd (upd (upd (upd (upd (upd ft 46 (nI j4)) 47 (nI j10)) 48 (nI j16)) 49 (nI j22)) 50 (nI j28)) 3 (nI 1))))] H := hP
                have hD : va_D A [(mrf, .inl (y 0, 3, .inl frf)), (mo, .inr (11, [.ref to, .ref ke, .ref ik, .ref mrf, .long mab, .long mbl, .ref ha, .ref r0, .ref mbr, .ref mbp, .ref mby, .int (nI bl), .int (nI ta), .int (nI tl), .int (nI tk), .int vv, .ref an, .ref va])), (to, .inl (y 0, 228, .inl (upd (upd (upd (upd (upd (upd ft 46 (nI j4)) 47 (nI j10)) 48 (nI j16)) 49 (nI j22)) 50 (nI j28)) 3 (nI 1))))] := hD
                refine lv_aload_n hx hb dX11_note_139 rfl (lv_at hl 1 rfl) ?_
                refine va_get (D := D) (ci := 11) (v := .ref to) (C := RX11) (T := TX11) (N := 18) hx hb hts iw11 hown hK hP 1 rfl rfl 0 (by decide) fw2 (fun _ h9 => h9) rfl dX11_note_140 ?_
                refine lv_iconst (v := 3) hx hb dX11_note_143 (by decide) ?_
                refine va_iald hx hb hK hP 2 0 rfl rfl (by unfold vp_in; decide) dX11_note_144 ?_
                rw [show ((3 : Int32)).toNatClampNeg = 3 from rfl]
                rw [show ((upd (upd (upd (upd (upd (upd ft 46 (nI j4)) 47 (nI j10)) 48 (nI j16)) 49 (nI j22)) 50 (nI j28)) 3 (nI 1)) 3) = (nI 1) from hk69]
                exact W.iret (v := (nI 1)) hx hb hr (fun tZ ht hW => ⟨⟨(nI 1), (frf, (upd (upd (upd (upd (upd (upd ft 46 (nI j4)) 47 (nI j10)) 48 (nI j16)) 49 (nI j22)) 50 (nI j28)) 3 (nI 1)), 1), rfl, ⟨hr64, hk65, hk66, hk67, by first | omega | (dsimp only; omega), hk69, hk68, by first | omega | (dsimp only; omega)⟩, by rw [ht]; exact hP.sub [1, 0, 2] rfl, hD.sub [1, 0, 2] (by decide) rfl⟩, hS.F ht⟩) hS.2.2 dX11_note_145
              · skip
                refine lv_bipush (v := 46) hx hb dX11_note_66 (by decide) ?_
                refine lv_iconst (v := 5) hx hb dX11_note_68 (by decide) ?_
                refine lv_aload_n hx hb dX11_note_69 rfl (lv_at hl 0 rfl) ?_
                refine va_get (D := D) (ci := 11) (v := .ref to) (C := RX11) (T := TX11) (N := 18) hx hb hts iw11 hown hK hP 1 rfl rfl 0 (by decide) fw2 (fun _ h9 => h9) rfl dX11_note_70 ?_
                refine lv_iconst (v := 3) hx hb dX11_note_73 (by decide) ?_
                refine va_iald hx hb hK hP 2 0 rfl rfl (by unfold vp_in; decide) dX11_note_74 ?_
                rw [show ((3 : Int32)).toNatClampNeg = 3 from rfl]
                rw [show (ft 3) = (nI 1) from hk3_]
                refine lv_imul hx hb dX11_note_75 ?_
                rw [show 5 * (nI 1) = nI (5) from pk_mul 5 1]
                refine lv_iadd hx hb dX11_note_76 ?_
                rw [show 46 + (nI 5) = nI (51) from nI_add 46 5]
                refine lv_istore (lv' := [(6, .int (nI 51)), (0, .ref mo), (1, .int (nI j4)), (2, .int (nI j10)), (3, .int (nI j16)), (4, .int (nI j22)), (5, .int (nI j28))]) hx hb dX11_note_77 hl (by decide) rfl (fun ls hl => ?_)
                refine lv_aload_n hx hb dX11_note_79 rfl (lv_at hl 1 rfl) ?_
                refine va_get (D := D) (ci := 11) (v := .ref to) (C := RX11) (T := TX11) (N := 18) hx hb hts iw11 hown hK hP 1 rfl rfl 0 (by decide) fw2 (fun _ h9 => h9) rfl dX11_note_80 ?_
                refine lv_iload hx hb dX11_note_83 (lv_at hl 0 rfl) ?_
                refine lv_iload_n hx hb dX11_note_85 rfl (lv_at hl 2 rfl) ?_
                refine va_iast hx hb hK hP hD hS 2 0 rfl rfl (vp_in_nI (by omega) (by decide)) dX11_note_86 (fun H locs hP hD hS => ?_)
                rw [nI_clamp (n := 51) (by omega)] at hP hD
                have hr70 : kr_t 228 (upd ft 51 (nI j4)) := kr_up hkt (kr_free (by unfold kr_a; omega) (by unfold kr_s; omega))
                have hk71 : (upd ft 51 (nI j4)) 0 = (nI fi) := (pk_un (by decide)).trans hk0_
                have hk72 : (upd ft 51 (nI j4)) 1 = (nI gl) := (pk_un (by decide)).trans hk1_
                have hk73 : (upd ft 51 (nI j4)) 2 = (nI mi) := (pk_un (by decide)).trans hk2_
                have hk74 : (upd ft 51 (nI j4)) 3 = (nI 1) := (pk_un (by decide)).trans hk3_
                have hk75 : (upd ft 51 (nI j4)) 4 = (nI un) := (pk_un (by decide)).trans hk4_
                have hP : va_P D vwCl [(mrf, .inl (y 0, 3, .inl frf)), (mo, .inr (11, [.ref to, .ref ke, .ref ik, .ref mrf, .long mab, .long mbl, .ref ha, .ref r0, .ref mbr, .ref mbp, .ref mby, .int (nI bl), .int (nI ta), .int (nI tl), .int (nI tk), .int vv, .ref an, .ref va])), (to, .inl (y 0, 228, .inl (upd ft 51 (nI j4))))] H := hP
                have hD : va_D A [(mrf, .inl (y 0, 3, .inl frf)), (mo, .inr (11, [.ref to, .ref ke, .ref ik, .ref mrf, .long mab, .long mbl, .ref ha, .ref r0, .ref mbr, .ref mbp, .ref mby, .int (nI bl), .int (nI ta), .int (nI tl), .int (nI tk), .int vv, .ref an, .ref va])), (to, .inl (y 0, 228, .inl (upd ft 51 (nI j4))))] := hD
                refine lv_aload_n hx hb dX11_note_87 rfl (lv_at hl 1 rfl) ?_
                refine va_get (D := D) (ci := 11) (v := .ref to) (C := RX11) (T := TX11) (N := 18) hx hb hts iw11 hown hK hP 1 rfl rfl 0 (by decide) fw2 (fun _ h9 => h9) rfl dX11_note_88 ?_
                refine lv_iload hx hb dX11_note_91 (lv_at hl 0 rfl) ?_
                refine lv_iconst (v := 1) hx hb dX11_note_93 (by decide) ?_
                refine lv_iadd hx hb dX11_note_94 ?_
                rw [show (nI 51) + 1 = nI (52) from nI_add 51 1]
                refine lv_iload_n hx hb dX11_note_95 rfl (lv_at hl 3 rfl) ?_
                refine va_iast hx hb hK hP hD hS 2 0 rfl rfl (vp_in_nI (by omega) (by decide)) dX11_note_96 (fun H locs hP hD hS => ?_)
                rw [nI_clamp (n := 52) (by omega)] at hP hD
                have hr76 : kr_t 228 (upd (upd ft 51 (nI j4)) 52 (nI j10)) := kr_up hr70 (kr_free (by unfold kr_a; omega) (by unfold kr_s; omega))
                have hk77 : (upd (upd ft 51 (nI j4)) 52 (nI j10)) 0 = (nI fi) := (pk_un (by decide)).trans hk71
                have hk78 : (upd (upd ft 51 (nI j4)) 52 (nI j10)) 1 = (nI gl) := (pk_un (by decide)).trans hk72
                have hk79 : (upd (upd ft 51 (nI j4)) 52 (nI j10)) 2 = (nI mi) := (pk_un (by decide)).trans hk73
                have hk80 : (upd (upd ft 51 (nI j4)) 52 (nI j10)) 3 = (nI 1) := (pk_un (by decide)).trans hk74
                have hk81 : (upd (upd ft 51 (nI j4)) 52 (nI j10)) 4 = (nI un) := (pk_un (by decide)).trans hk75
                have hP : va_P D vwCl [(mrf, .inl (y 0, 3, .inl frf)), (mo, .inr (11, [.ref to, .ref ke, .ref ik, .ref mrf, .long mab, .long mbl, .ref ha, .ref r0, .ref mbr, .ref mbp, .ref mby, .int (nI bl), .int (nI ta), .int (nI tl), .int (nI tk), .int vv, .ref an, .ref va])), (to, .inl (y 0, 228, .inl (upd (upd ft 51 (nI j4)) 52 (nI j10))))] H := hP
                have hD : va_D A [(mrf, .inl (y 0, 3, .inl frf)), (mo, .inr (11, [.ref to, .ref ke, .ref ik, .ref mrf, .long mab, .long mbl, .ref ha, .ref r0, .ref mbr, .ref mbp, .ref mby, .int (nI bl), .int (nI ta), .int (nI tl), .int (nI tk), .int vv, .ref an, .ref va])), (to, .inl (y 0, 228, .inl (upd (upd ft 51 (nI j4)) 52 (nI j10))))] := hD
                refine lv_aload_n hx hb dX11_note_97 rfl (lv_at hl 1 rfl) ?_
                refine va_get (D := D) (ci := 11) (v := .ref to) (C := RX11) (T := TX11) (N := 18) hx hb hts iw11 hown hK hP 1 rfl rfl 0 (by decide) fw2 (fun _ h9 => h9) rfl dX11_note_98 ?_
                refine lv_iload hx hb dX11_note_101 (lv_at hl 0 rfl) ?_
                refine lv_iconst (v := 2) hx hb dX11_note_103 (by decide) ?_
                refine lv_iadd hx hb dX11_note_104 ?_
                rw [show (nI 51) + 2 = nI (53) from nI_add 51 2]
                refine lv_iload_n hx hb dX11_note_105 rfl (lv_at hl 4 rfl) ?_
                refine va_iast hx hb hK hP hD hS 2 0 rfl rfl (vp_in_nI (by omega) (by decide)) dX11_note_106 (fun H locs hP hD hS => ?_)
                rw [nI_clamp (n := 53) (by omega)] at hP hD
                have hr82 : kr_t 228 (upd (upd (upd ft 51 (nI j4)) 52 (nI j10)) 53 (nI j16)) := kr_up hr76 (kr_free (by unfold kr_a; omega) (by unfold kr_s; omega))
                have hk83 : (upd (upd (upd ft 51 (nI j4)) 52 (nI j10)) 53 (nI j16)) 0 = (nI fi) := (pk_un (by decide)).trans hk77
                have hk84 : (upd (upd (upd ft 51 (nI j4)) 52 (nI j10)) 53 (nI j16)) 1 = (nI gl) := (pk_un (by decide)).trans hk78
                have hk85 : (upd (upd (upd ft 51 (nI j4)) 52 (nI j10)) 53 (nI j16)) 2 = (nI mi) := (pk_un (by decide)).trans hk79
                have hk86 : (upd (upd (upd ft 51 (nI j4)) 52 (nI j10)) 53 (nI j16)) 3 = (nI 1) := (pk_un (by decide)).trans hk80
                have hk87 : (upd (upd (upd ft 51 (nI j4)) 52 (nI j10)) 53 (nI j16)) 4 = (nI un) := (pk_un (by decide)).trans hk81
                have hP : va_P D vwCl [(mrf, .inl (y 0, 3, .inl frf)), (mo, .inr (11, [.ref to, .ref ke, .ref ik, .ref mrf, .long mab, .long mbl, .ref ha, .ref r0, .ref mbr, .ref mbp, .ref mby, .int (nI bl), .int (nI ta), .int (nI tl), .int (nI tk), .int vv, .ref an, .ref va])), (to, .inl (y 0, 228, .inl (upd (upd (upd ft 51 (nI j4)) 52 (nI j10)) 53 (nI j16))))] H := hP
                have hD : va_D A [(mrf, .inl (y 0, 3, .inl frf)), (mo, .inr (11, [.ref to, .ref ke, .ref ik, .ref mrf, .long mab, .long mbl, .ref ha, .ref r0, .ref mbr, .ref mbp, .ref mby, .int (nI bl), .int (nI ta), .int (nI tl), .int (nI tk), .int vv, .ref an, .ref va])), (to, .inl (y 0, 228, .inl (upd (upd (upd ft 51 (nI j4)) 52 (nI j10)) 53 (nI j16))))] := hD
                refine lv_aload_n hx hb dX11_note_107 rfl (lv_at hl 1 rfl) ?_
                refine va_get (D := D) (ci := 11) (v := .ref to) (C := RX11) (T := TX11) (N := 18) hx hb hts iw11 hown hK hP 1 rfl rfl 0 (by decide) fw2 (fun _ h9 => h9) rfl dX11_note_108 ?_
                refine lv_iload hx hb dX11_note_111 (lv_at hl 0 rfl) ?_
                refine lv_iconst (v := 3) hx hb dX11_note_113 (by decide) ?_
                refine lv_iadd hx hb dX11_note_114 ?_
                rw [show (nI 51) + 3 = nI (54) from nI_add 51 3]
                refine lv_iload hx hb dX11_note_115 (lv_at hl 5 rfl) ?_
                refine va_iast hx hb hK hP hD hS 2 0 rfl rfl (vp_in_nI (by omega) (by decide)) dX11_note_117 (fun H locs hP hD hS => ?_)
                rw [nI_clamp (n := 54) (by omega)] at hP hD
                have hr88 : kr_t 228 (upd (upd (upd (upd ft 51 (nI j4)) 52 (nI j10)) 53 (nI j16)) 54 (nI j22)) := kr_up hr82 (kr_free (by unfold kr_a; omega) (by unfold kr_s; omega))
                have hk89 : (upd (upd (upd (upd ft 51 (nI j4)) 52 (nI j10)) 53 (nI j16)) 54 (nI j22)) 0 = (nI fi) := (pk_un (by decide)).trans hk83
                have hk90 : (upd (upd (upd (upd ft 51 (nI j4)) 52 (nI j10)) 53 (nI j16)) 54 (nI j22)) 1 = (nI gl) := (pk_un (by decide)).trans hk84
                have hk91 : (upd (upd (upd (upd ft 51 (nI j4)) 52 (nI j10)) 53 (nI j16)) 54 (nI j22)) 2 = (nI mi) := (pk_un (by decide)).trans hk85
                have hk92 : (upd (upd (upd (upd ft 51 (nI j4)) 52 (nI j10)) 53 (nI j16)) 54 (nI j22)) 3 = (nI 1) := (pk_un (by decide)).trans hk86
                have hk93 : (upd (upd (upd (upd ft 51 (nI j4)) 52 (nI j10)) 53 (nI j16)) 54 (nI j22)) 4 = (nI un) := (pk_un (by decide)).trans hk87
                have hP : va_P D vwCl [(mrf, .inl (y 0, 3, .inl frf)), (mo, .inr (11, [.ref to, .ref ke, .ref ik, .ref mrf, .long mab, .long mbl, .ref ha, .ref r0, .ref mbr, .ref mbp, .ref mby, .int (nI bl), .int (nI ta), .int (nI tl), .int (nI tk), .int vv, .ref an, .ref va])), (to, .inl (y 0, 228, .inl (upd (upd (upd (upd ft 51 (nI j4)) 52 (nI j10)) 53 (nI j16)) 54 (nI j22))))] H := hP
                have hD : va_D A [(mrf, .inl (y 0, 3, .inl frf)), (mo, .inr (11, [.ref to, .ref ke, .ref ik, .ref mrf, .long mab, .long mbl, .ref ha, .ref r0, .ref mbr, .ref mbp, .ref mby, .int (nI bl), .int (nI ta), .int (nI tl), .int (nI tk), .int vv, .ref an, .ref va])), (to, .inl (y 0, 228, .inl (upd (upd (upd (upd ft 51 (nI j4)) 52 (nI j10)) 53 (nI j16)) 54 (nI j22))))] := hD
                refine lv_aload_n hx hb dX11_note_118 rfl (lv_at hl 1 rfl) ?_
                refine va_get (D := D) (ci := 11) (v := .ref to) (C := RX11) (T := TX11) (N := 18) hx hb hts iw11 hown hK hP 1 rfl rfl 0 (by decide) fw2 (fun _ h9 => h9) rfl dX11_note_119 ?_
                refine lv_iload hx hb dX11_note_122 (lv_at hl 0 rfl) ?_
                refine lv_iconst (v := 4) hx hb dX11_note_124 (by decide) ?_
                refine lv_iadd hx hb dX11_note_125 ?_
                rw [show (nI 51) + 4 = nI (55) from nI_add 51 4]
                refine lv_iload hx hb dX11_note_126 (lv_at hl 6 rfl) ?_
                refine va_iast hx hb hK hP hD hS 2 0 rfl rfl (vp_in_nI (by omega) (by decide)) dX11_note_128 (fun H locs hP hD hS => ?_)
                rw [nI_clamp (n := 55) (by omega)] at hP hD
                have hr94 : kr_t 228 (upd (upd (upd (upd (upd ft 51 (nI j4)) 52 (nI j10)) 53 (nI j16)) 54 (nI j22)) 55 (nI j28)) := kr_up hr88 (kr_free (by unfold kr_a; omega) (by unfold kr_s; omega))
                have hk95 : (upd (upd (upd (upd (upd ft 51 (nI j4)) 52 (nI j10)) 53 (nI j16)) 54 (nI j22)) 55 (nI j28)) 0 = (nI fi) := (pk_un (by decide)).trans hk89
                have hk96 : (upd (upd (upd (upd (upd ft 51 (nI j4)) 52 (nI j10)) 53 (nI j16)) 54 (nI j22)) 55 (nI j28)) 1 = (nI gl) := (pk_un (by decide)).trans hk90
                have hk97 : (upd (upd (upd (upd (upd ft 51 (nI j4)) 52 (nI j10)) 53 (nI j16)) 54 (nI j22)) 55 (nI j28)) 2 = (nI mi) := (pk_un (by decide)).trans hk91
                have hk98 : (upd (upd (upd (upd (upd ft 51 (nI j4)) 52 (nI j10)) 53 (nI j16)) 54 (nI j22)) 55 (nI j28)) 3 = (nI 1) := (pk_un (by decide)).trans hk92
                have hk99 : (upd (upd (upd (upd (upd ft 51 (nI j4)) 52 (nI j10)) 53 (nI j16)) 54 (nI j22)) 55 (nI j28)) 4 = (nI un) := (pk_un (by decide)).trans hk93
                have hP : va_P D vwCl [(mrf, .inl (y 0, 3, .inl frf)), (mo, .inr (11, [.ref to, .ref ke, .ref ik, .ref mrf, .long mab, .long mbl, .ref ha, .ref r0, .ref mbr, .ref mbp, .ref mby, .int (nI bl), .int (nI ta), .int (nI tl), .int (nI tk), .int vv, .ref an, .ref va])), (to, .inl (y 0, 228, .inl (upd (upd (upd (upd (upd ft 51 (nI j4)) 52 (nI j10)) 53 (nI j16)) 54 (nI j22)) 55 (nI j28))))] H := hP
                have hD : va_D A [(mrf, .inl (y 0, 3, .inl frf)), (mo, .inr (11, [.ref to, .ref ke, .ref ik, .ref mrf, .long mab, .long mbl, .ref ha, .ref r0, .ref mbr, .ref mbp, .ref mby, .int (nI bl), .int (nI ta), .int (nI tl), .int (nI tk), .int vv, .ref an, .ref va])), (to, .inl (y 0, 228, .inl (upd (upd (upd (upd (upd ft 51 (nI j4)) 52 (nI j10)) 53 (nI j16)) 54 (nI j22)) 55 (nI j28))))] := hD
                refine lv_aload_n hx hb dX11_note_129 rfl (lv_at hl 1 rfl) ?_
                refine va_get (D := D) (ci := 11) (v := .ref to) (C := RX11) (T := TX11) (N := 18) hx hb hts iw11 hown hK hP 1 rfl rfl 0 (by decide) fw2 (fun _ h9 => h9) rfl dX11_note_130 ?_
                refine lv_iconst (v := 3) hx hb dX11_note_133 (by decide) ?_
                refine lv_dup2_11 hx hb dX11_note_134 rfl rfl ?_
                refine va_iald hx hb hK hP 2 0 rfl rfl (by unfold vp_in; decide) dX11_note_135 ?_
                rw [show ((3 : Int32)).toNatClampNeg = 3 from rfl]
                rw [show ((upd (upd (upd (upd (upd ft 51 (nI j4)) 52 (nI j10)) 53 (nI j16)) 54 (nI j22)) 55 (nI j28)) 3) = (nI 1) from hk98]
                refine lv_iconst (v := 1) hx hb dX11_note_136 (by decide) ?_
                refine lv_iadd hx hb dX11_note_137 ?_
                rw [show (nI 1) + 1 = nI (2) from nI_add 1 1]
                refine va_iast hx hb hK hP hD hS 2 0 rfl rfl (by unfold vp_in; decide) dX11_note_138 (fun H locs hP hD hS => ?_)
                rw [show ((3 : Int32)).toNatClampNeg = 3 from rfl] at hP hD
                have hr100 : kr_t 228 (upd (upd (upd (upd (upd (upd ft 51 (nI j4)) 52 (nI j10)) 53 (nI j16)) 54 (nI j22)) 55 (nI j28)) 3 (nI 2)) := kr_up hr94 (kr_free (by unfold kr_a; omega) (by unfold kr_s; omega))
                have hk101 : (upd (upd (upd (upd (upd (upd ft 51 (nI j4)) 52 (nI j10)) 53 (nI j16)) 54 (nI j22)) 55 (nI j28)) 3 (nI 2)) 0 = (nI fi) := (pk_un (by decide)).trans hk95
                have hk102 : (upd (upd (upd (upd (upd (upd ft 51 (nI j4)) 52 (nI j10)) 53 (nI j16)) 54 (nI j22)) 55 (nI j28)) 3 (nI 2)) 1 = (nI gl) := (pk_un (by decide)).trans hk96
                have hk103 : (upd (upd (upd (upd (upd (upd ft 51 (nI j4)) 52 (nI j10)) 53 (nI j16)) 54 (nI j22)) 55 (nI j28)) 3 (nI 2)) 2 = (nI mi) := (pk_un (by decide)).trans hk97
                have hk104 : (upd (upd (upd (upd (upd (upd ft 51 (nI j4)) 52 (nI j10)) 53 (nI j16)) 54 (nI j22)) 55 (nI j28)) 3 (nI 2)) 4 = (nI un) := (pk_un (by decide)).trans hk99
                have hk105 : (upd (upd (upd (upd (upd (upd ft 51 (nI j4)) 52 (nI j10)) 53 (nI j16)) 54 (nI j22)) 55 (nI j28)) 3 (nI 2)) 3 = (nI 2) := pk_us
                have hP : va_P D vwCl [(mrf, .inl (y 0, 3, .inl frf)), (mo, .inr (11, [.ref to, .ref ke, .ref ik, .ref mrf, .long mab, .long mbl, .ref ha, .ref r0, .ref mbr, .ref mbp, .ref mby, .int (nI bl), .int (nI ta), .int (nI tl), .int (nI tk), .int vv, .ref an, .ref va])), (to, .inl (y 0, 228, .inl (upd (upd (upd (upd (upd (upd ft 51 (nI j4)) 52 (nI j10)) 53 (nI j16)) 54 (nI j22)) 55 (nI j28)) 3 (nI 2))))] H := hP
                have hD : va_D A [(mrf, .inl (y 0, 3, .inl frf)), (mo, .inr (11, [.ref to, .ref ke, .ref ik, .ref mrf, .long mab, .long mbl, .ref ha, .ref r0, .ref mbr, .ref mbp, .ref mby, .int (nI bl), .int (nI ta), .int (nI tl), .int (nI tk), .int vv, .ref an, .ref va])), (to, .inl (y 0, 228, .inl (upd (upd (upd (upd (upd (upd ft 51 (nI j4)) 52 (nI j10)) 53 (nI j16)) 54 (nI j22)) 55 (nI j28)) 3 (nI 2))))] := hD
                refine lv_aload_n hx hb dX11_note_139 rfl (lv_at hl 1 rfl) ?_
                refine va_get (D := D) (ci := 11) (v := .ref to) (C := RX11) (T := TX11) (N := 18) hx hb hts iw11 hown hK hP 1 rfl rfl 0 (by decide) fw2 (fun _ h9 => h9) rfl dX11_note_140 ?_
                refine lv_iconst (v := 3) hx hb dX11_note_143 (by decide) ?_
                refine va_iald hx hb hK hP 2 0 rfl rfl (by unfold vp_in; decide) dX11_note_144 ?_
                rw [show ((3 : Int32)).toNatClampNeg = 3 from rfl]
                rw [show ((upd (upd (upd (upd (upd (upd ft 51 (nI j4)) 52 (nI j10)) 53 (nI j16)) 54 (nI j22)) 55 (nI j28)) 3 (nI 2)) 3) = (nI 2) from hk105]
                exact W.iret (v := (nI 2)) hx hb hr (fun tZ ht hW => ⟨⟨(nI 2), (frf, (upd (upd (upd (upd (upd (upd ft 51 (nI j4)) 52 (nI j10)) 53 (nI j16)) 54 (nI j22)) 55 (nI j28)) 3 (nI 2)), 2), rfl, ⟨hr100, hk101, hk102, hk103, by first | omega | (dsimp only; omega), hk105, hk104, by first | omega | (dsimp only; omega)⟩, by rw [ht]; exact hP.sub [1, 0, 2] rfl, hD.sub [1, 0, 2] (by decide) rfl⟩, hS.F ht⟩) hS.2.2 dX11_note_145
              · skip
                refine lv_bipush (v := 46) hx hb dX11_note_66 (by decide) ?_
                refine lv_iconst (v := 5) hx hb dX11_note_68 (by decide) ?_
                refine lv_aload_n hx hb dX11_note_69 rfl (lv_at hl 0 rfl) ?_
                refine va_get (D := D) (ci := 11) (v := .ref to) (C := RX11) (T := TX11) (N := 18) hx hb hts iw11 hown hK hP 1 rfl rfl 0 (by decide) fw2 (fun _ h9 => h9) rfl dX11_note_70 ?_
                refine lv_iconst (v := 3) hx hb dX11_note_73 (by decide) ?_
                refine va_iald hx hb hK hP 2 0 rfl rfl (by unfold vp_in; decide) dX11_note_74 ?_
                rw [show ((3 : Int32)).toNatClampNeg = 3 from rfl]
                rw [show (ft 3) = (nI 2) from hk3_]
                refine lv_imul hx hb dX11_note_75 ?_
                rw [show 5 * (nI 2) = nI (10) from pk_mul 5 2]
                refine lv_iadd hx hb dX11_note_76 ?_
                rw [show 46 + (nI 10) = nI (56) from nI_add 46 10]
                refine lv_istore (lv' := [(6, .int (nI 56)), (0, .ref mo), (1, .int (nI j4)), (2, .int (nI j10)), (3, .int (nI j16)), (4, .int (nI j22)), (5, .int (nI j28))]) hx hb dX11_note_77 hl (by decide) rfl (fun ls hl => ?_)
                refine lv_aload_n hx hb dX11_note_79 rfl (lv_at hl 1 rfl) ?_
                refine va_get (D := D) (ci := 11) (v := .ref to) (C := RX11) (T := TX11) (N := 18) hx hb hts iw11 hown hK hP 1 rfl rfl 0 (by decide) fw2 (fun _ h9 => h9) rfl dX11_note_80 ?_
                refine lv_iload hx hb dX11_note_83 (lv_at hl 0 rfl) ?_
                refine lv_iload_n hx hb dX11_note_85 rfl (lv_at hl 2 rfl) ?_
                refine va_iast hx hb hK hP hD hS 2 0 rfl rfl (vp_in_nI (by omega) (by decide)) dX11_note_86 (fun H locs hP hD hS => ?_)
                rw [nI_clamp (n := 56) (by omega)] at hP hD
                have hr106 : kr_t 228 (upd ft 56 (nI j4)) := kr_up hkt (kr_free (by unfold kr_a; omega) (by unfold kr_s; omega))
                have hk107 : (upd ft 56 (nI j4)) 0 = (nI fi) := (pk_un (by decide)).trans hk0_
                have hk108 : (upd ft 56 (nI j4)) 1 = (nI gl) := (pk_un (by decide)).trans hk1_
                have hk109 : (upd ft 56 (nI j4)) 2 = (nI mi) := (pk_un (by decide)).trans hk2_
                have hk110 : (upd ft 56 (nI j4)) 3 = (nI 2) := (pk_un (by decide)).trans hk3_
                have hk111 : (upd ft 56 (nI j4)) 4 = (nI un) := (pk_un (by decide)).trans hk4_
                have hP : va_P D vwCl [(mrf, .inl (y 0, 3, .inl frf)), (mo, .inr (11, [.ref to, .ref ke, .ref ik, .ref mrf, .long mab, .long mbl, .ref ha, .ref r0, .ref mbr, .ref mbp, .ref mby, .int (nI bl), .int (nI ta), .int (nI tl), .int (nI tk), .int vv, .ref an, .ref va])), (to, .inl (y 0, 228, .inl (upd ft 56 (nI j4))))] H := hP
                have hD : va_D A [(mrf, .inl (y 0, 3, .inl frf)), (mo, .inr (11, [.ref to, .ref ke, .ref ik, .ref mrf, .long mab, .long mbl, .ref ha, .ref r0, .ref mbr, .ref mbp, .ref mby, .int (nI bl), .int (nI ta), .int (nI tl), .int (nI tk), .int vv, .ref an, .ref va])), (to, .inl (y 0, 228, .inl (upd ft 56 (nI j4))))] := hD
                refine lv_aload_n hx hb dX11_note_87 rfl (lv_at hl 1 rfl) ?_
                refine va_get (D := D) (ci := 11) (v := .ref to) (C := RX11) (T := TX11) (N := 18) hx hb hts iw11 hown hK hP 1 rfl rfl 0 (by decide) fw2 (fun _ h9 => h9) rfl dX11_note_88 ?_
                refine lv_iload hx hb dX11_note_91 (lv_at hl 0 rfl) ?_
                refine lv_iconst (v := 1) hx hb dX11_note_93 (by decide) ?_
                refine lv_iadd hx hb dX11_note_94 ?_
                rw [show (nI 56) + 1 = nI (57) from nI_add 56 1]
                refine lv_iload_n hx hb dX11_note_95 rfl (lv_at hl 3 rfl) ?_
                refine va_iast hx hb hK hP hD hS 2 0 rfl rfl (vp_in_nI (by omega) (by decide)) dX11_note_96 (fun H locs hP hD hS => ?_)
                rw [nI_clamp (n := 57) (by omega)] at hP hD
                have hr112 : kr_t 228 (upd (upd ft 56 (nI j4)) 57 (nI j10)) := kr_up hr106 (kr_free (by unfold kr_a; omega) (by unfold kr_s; omega))
                have hk113 : (upd (upd ft 56 (nI j4)) 57 (nI j10)) 0 = (nI fi) := (pk_un (by decide)).trans hk107
                have hk114 : (upd (upd ft 56 (nI j4)) 57 (nI j10)) 1 = (nI gl) := (pk_un (by decide)).trans hk108
                have hk115 : (upd (upd ft 56 (nI j4)) 57 (nI j10)) 2 = (nI mi) := (pk_un (by decide)).trans hk109
                have hk116 : (upd (upd ft 56 (nI j4)) 57 (nI j10)) 3 = (nI 2) := (pk_un (by decide)).trans hk110
                have hk117 : (upd (upd ft 56 (nI j4)) 57 (nI j10)) 4 = (nI un) := (pk_un (by decide)).trans hk111
                have hP : va_P D vwCl [(mrf, .inl (y 0, 3, .inl frf)), (mo, .inr (11, [.ref to, .ref ke, .ref ik, .ref mrf, .long mab, .long mbl, .ref ha, .ref r0, .ref mbr, .ref mbp, .ref mby, .int (nI bl), .int (nI ta), .int (nI tl), .int (nI tk), .int vv, .ref an, .ref va])), (to, .inl (y 0, 228, .inl (upd (upd ft 56 (nI j4)) 57 (nI j10))))] H := hP
                have hD : va_D A [(mrf, .inl (y 0, 3, .inl frf)), (mo, .inr (11, [.ref to, .ref ke, .ref ik, .ref mrf, .long mab, .long mbl, .ref ha, .ref r0, .ref mbr, .ref mbp, .ref mby, .int (nI bl), .int (nI ta), .int (nI tl), .int (nI tk), .int vv, .ref an, .ref va])), (to, .inl (y 0, 228, .inl (upd (upd ft 56 (nI j4)) 57 (nI j10))))] := hD
                refine lv_aload_n hx hb dX11_note_97 rfl (lv_at hl 1 rfl) ?_
                refine va_get (D := D) (ci := 11) (v := .ref to) (C := RX11) (T := TX11) (N := 18) hx hb hts iw11 hown hK hP 1 rfl rfl 0 (by decide) fw2 (fun _ h9 => h9) rfl dX11_note_98 ?_
                refine lv_iload hx hb dX11_note_101 (lv_at hl 0 rfl) ?_
                refine lv_iconst (v := 2) hx hb dX11_note_103 (by decide) ?_
                refine lv_iadd hx hb dX11_note_104 ?_
                rw [show (nI 56) + 2 = nI (58) from nI_add 56 2]
                refine lv_iload_n hx hb dX11_note_105 rfl (lv_at hl 4 rfl) ?_
                refine va_iast hx hb hK hP hD hS 2 0 rfl rfl (vp_in_nI (by omega) (by decide)) dX11_note_106 (fun H locs hP hD hS => ?_)
                rw [nI_clamp (n := 58) (by omega)] at hP hD
                have hr118 : kr_t 228 (upd (upd (upd ft 56 (nI j4)) 57 (nI j10)) 58 (nI j16)) := kr_up hr112 (kr_free (by unfold kr_a; omega) (by unfold kr_s; omega))
                have hk119 : (upd (upd (upd ft 56 (nI j4)) 57 (nI j10)) 58 (nI j16)) 0 = (nI fi) := (pk_un (by decide)).trans hk113
                have hk120 : (upd (upd (upd ft 56 (nI j4)) 57 (nI j10)) 58 (nI j16)) 1 = (nI gl) := (pk_un (by decide)).trans hk114
                have hk121 : (upd (upd (upd ft 56 (nI j4)) 57 (nI j10)) 58 (nI j16)) 2 = (nI mi) := (pk_un (by decide)).trans hk115
                have hk122 : (upd (upd (upd ft 56 (nI j4)) 57 (nI j10)) 58 (nI j16)) 3 = (nI 2) := (pk_un (by decide)).trans hk116
                have hk123 : (upd (upd (upd ft 56 (nI j4)) 57 (nI j10)) 58 (nI j16)) 4 = (nI un) := (pk_un (by decide)).trans hk117
                have hP : va_P D vwCl [(mrf, .inl (y 0, 3, .inl frf)), (mo, .inr (11, [.ref to, .ref ke, .ref ik, .ref mrf, .long mab, .long mbl, .ref ha, .ref r0, .ref mbr, .ref mbp, .ref mby, .int (nI bl), .int (nI ta), .int (nI tl), .int (nI tk), .int vv, .ref an, .ref va])), (to, .inl (y 0, 228, .inl (upd (upd (upd ft 56 (nI j4)) 57 (nI j10)) 58 (nI j16))))] H := hP
                have hD : va_D A [(mrf, .inl (y 0, 3, .inl frf)), (mo, .inr (11, [.ref to, .ref ke, .ref ik, .ref mrf, .long mab, .long mbl, .ref ha, .ref r0, .ref mbr, .ref mbp, .ref mby, .int (nI bl), .int (nI ta), .int (nI tl), .int (nI tk), .int vv, .ref an, .ref va])), (to, .inl (y 0, 228, .inl (upd (upd (upd ft 56 (nI j4)) 57 (nI j10)) 58 (nI j16))))] := hD
                refine lv_aload_n hx hb dX11_note_107 rfl (lv_at hl 1 rfl) ?_
                refine va_get (D := D) (ci := 11) (v := .ref to) (C := RX11) (T := TX11) (N := 18) hx hb hts iw11 hown hK hP 1 rfl rfl 0 (by decide) fw2 (fun _ h9 => h9) rfl dX11_note_108 ?_
                refine lv_iload hx hb dX11_note_111 (lv_at hl 0 rfl) ?_
                refine lv_iconst (v := 3) hx hb dX11_note_113 (by decide) ?_
                refine lv_iadd hx hb dX11_note_114 ?_
                rw [show (nI 56) + 3 = nI (59) from nI_add 56 3]
                refine lv_iload hx hb dX11_note_115 (lv_at hl 5 rfl) ?_
                refine va_iast hx hb hK hP hD hS 2 0 rfl rfl (vp_in_nI (by omega) (by decide)) dX11_note_117 (fun H locs hP hD hS => ?_)
                rw [nI_clamp (n := 59) (by omega)] at hP hD
                have hr124 : kr_t 228 (upd (upd (upd (upd ft 56 (nI j4)) 57 (nI j10)) 58 (nI j16)) 59 (nI j22)) := kr_up hr118 (kr_free (by unfold kr_a; omega) (by unfold kr_s; omega))
                have hk125 : (upd (upd (upd (upd ft 56 (nI j4)) 57 (nI j10)) 58 (nI j16)) 59 (nI j22)) 0 = (nI fi) := (pk_un (by decide)).trans hk119
                have hk126 : (upd (upd (upd (upd ft 56 (nI j4)) 57 (nI j10)) 58 (nI j16)) 59 (nI j22)) 1 = (nI gl) := (pk_un (by decide)).trans hk120
                have hk127 : (upd (upd (upd (upd ft 56 (nI j4)) 57 (nI j10)) 58 (nI j16)) 59 (nI j22)) 2 = (nI mi) := (pk_un (by decide)).trans hk121
                have hk128 : (upd (upd (upd (upd ft 56 (nI j4)) 57 (nI j10)) 58 (nI j16)) 59 (nI j22)) 3 = (nI 2) := (pk_un (by decide)).trans hk122
                have hk129 : (upd (upd (upd (upd ft 56 (nI j4)) 57 (nI j10)) 58 (nI j16)) 59 (nI j22)) 4 = (nI un) := (pk_un (by decide)).trans hk123
                have hP : va_P D vwCl [(mrf, .inl (y 0, 3, .inl frf)), (mo, .inr (11, [.ref to, .ref ke, .ref ik, .ref mrf, .long mab, .long mbl, .ref ha, .ref r0, .ref mbr, .ref mbp, .ref mby, .int (nI bl), .int (nI ta), .int (nI tl), .int (nI tk), .int vv, .ref an, .ref va])), (to, .inl (y 0, 228, .inl (upd (upd (upd (upd ft 56 (nI j4)) 57 (nI j10)) 58 (nI j16)) 59 (nI j22))))] H := hP
                have hD : va_D A [(mrf, .inl (y 0, 3, .inl frf)), (mo, .inr (11, [.ref to, .ref ke, .ref ik, .ref mrf, .long mab, .long mbl, .ref ha, .ref r0, .ref mbr, .ref mbp, .ref mby, .int (nI bl), .int (nI ta), .int (nI tl), .int (nI tk), .int vv, .ref an, .ref va])), (to, .inl (y 0, 228, .inl (upd (upd (upd (upd ft 56 (nI j4)) 57 (nI j10)) 58 (nI j16)) 59 (nI j22))))] := hD
                refine lv_aload_n hx hb dX11_note_118 rfl (lv_at hl 1 rfl) ?_
                refine va_get (D := D) (ci := 11) (v := .ref to) (C := RX11) (T := TX11) (N := 18) hx hb hts iw11 hown hK hP 1 rfl rfl 0 (by decide) fw2 (fun _ h9 => h9) rfl dX11_note_119 ?_
                refine lv_iload hx hb dX11_note_122 (lv_at hl 0 rfl) ?_
                refine lv_iconst (v := 4) hx hb dX11_note_124 (by decide) ?_
                refine lv_iadd hx hb dX11_note_125 ?_
                rw [show (nI 56) + 4 = nI (60) from nI_add 56 4]
                refine lv_iload hx hb dX11_note_126 (lv_at hl 6 rfl) ?_
                refine va_iast hx hb hK hP hD hS 2 0 rfl rfl (vp_in_nI (by omega) (by decide)) dX11_note_128 (fun H locs hP hD hS => ?_)
                rw [nI_clamp (n := 60) (by omega)] at hP hD
                have hr130 : kr_t 228 (upd (upd (upd (upd (upd ft 56 (nI j4)) 57 (nI j10)) 58 (nI j16)) 59 (nI j22)) 60 (nI j28)) := kr_up hr124 (kr_free (by unfold kr_a; omega) (by unfold kr_s; omega))
                have hk131 : (upd (upd (upd (upd (upd ft 56 (nI j4)) 57 (nI j10)) 58 (nI j16)) 59 (nI j22)) 60 (nI j28)) 0 = (nI fi) := (pk_un (by decide)).trans hk125
                have hk132 : (upd (upd (upd (upd (upd ft 56 (nI j4)) 57 (nI j10)) 58 (nI j16)) 59 (nI j22)) 60 (nI j28)) 1 = (nI gl) := (pk_un (by decide)).trans hk126
                have hk133 : (upd (upd (upd (upd (upd ft 56 (nI j4)) 57 (nI j10)) 58 (nI j16)) 59 (nI j22)) 60 (nI j28)) 2 = (nI mi) := (pk_un (by decide)).trans hk127
                have hk134 : (upd (upd (upd (upd (upd ft 56 (nI j4)) 57 (nI j10)) 58 (nI j16)) 59 (nI j22)) 60 (nI j28)) 3 = (nI 2) := (pk_un (by decide)).trans hk128
                have hk135 : (upd (upd (upd (upd (upd ft 56 (nI j4)) 57 (nI j10)) 58 (nI j16)) 59 (nI j22)) 60 (nI j28)) 4 = (nI un) := (pk_un (by decide)).trans hk129
                have hP : va_P D vwCl [(mrf, .inl (y 0, 3, .inl frf)), (mo, .inr (11, [.ref to, .ref ke, .ref ik, .ref mrf, .long mab, .long mbl, .ref ha, .ref r0, .ref mbr, .ref mbp, .ref mby, .int (nI bl), .int (nI ta), .int (nI tl), .int (nI tk), .int vv, .ref an, .ref va])), (to, .inl (y 0, 228, .inl (upd (upd (upd (upd (upd ft 56 (nI j4)) 57 (nI j10)) 58 (nI j16)) 59 (nI j22)) 60 (nI j28))))] H := hP
                have hD : va_D A [(mrf, .inl (y 0, 3, .inl frf)), (mo, .inr (11, [.ref to, .ref ke, .ref ik, .ref mrf, .long mab, .long mbl, .ref ha, .ref r0, .ref mbr, .ref mbp, .ref mby, .int (nI bl), .int (nI ta), .int (nI tl), .int (nI tk), .int vv, .ref an, .ref va])), (to, .inl (y 0, 228, .inl (upd (upd (upd (upd (upd ft 56 (nI j4)) 57 (nI j10)) 58 (nI j16)) 59 (nI j22)) 60 (nI j28))))] := hD
                refine lv_aload_n hx hb dX11_note_129 rfl (lv_at hl 1 rfl) ?_
                refine va_get (D := D) (ci := 11) (v := .ref to) (C := RX11) (T := TX11) (N := 18) hx hb hts iw11 hown hK hP 1 rfl rfl 0 (by decide) fw2 (fun _ h9 => h9) rfl dX11_note_130 ?_
                refine lv_iconst (v := 3) hx hb dX11_note_133 (by decide) ?_
                refine lv_dup2_11 hx hb dX11_note_134 rfl rfl ?_
                refine va_iald hx hb hK hP 2 0 rfl rfl (by unfold vp_in; decide) dX11_note_135 ?_
                rw [show ((3 : Int32)).toNatClampNeg = 3 from rfl]
                rw [show ((upd (upd (upd (upd (upd ft 56 (nI j4)) 57 (nI j10)) 58 (nI j16)) 59 (nI j22)) 60 (nI j28)) 3) = (nI 2) from hk134]
                refine lv_iconst (v := 1) hx hb dX11_note_136 (by decide) ?_
                refine lv_iadd hx hb dX11_note_137 ?_
                rw [show (nI 2) + 1 = nI (3) from nI_add 2 1]
                refine va_iast hx hb hK hP hD hS 2 0 rfl rfl (by unfold vp_in; decide) dX11_note_138 (fun H locs hP hD hS => ?_)
                rw [show ((3 : Int32)).toNatClampNeg = 3 from rfl] at hP hD
                have hr136 : kr_t 228 (upd (upd (upd (upd (upd (upd ft 56 (nI j4)) 57 (nI j10)) 58 (nI j16)) 59 (nI j22)) 60 (nI j28)) 3 (nI 3)) := kr_up hr130 (kr_free (by unfold kr_a; omega) (by unfold kr_s; omega))
                have hk137 : (upd (upd (upd (upd (upd (upd ft 56 (nI j4)) 57 (nI j10)) 58 (nI j16)) 59 (nI j22)) 60 (nI j28)) 3 (nI 3)) 0 = (nI fi) := (pk_un (by decide)).trans hk131
                have hk138 : (upd (upd (upd (upd (upd (upd ft 56 (nI j4)) 57 (nI j10)) 58 (nI j16)) 59 (nI j22)) 60 (nI j28)) 3 (nI 3)) 1 = (nI gl) := (pk_un (by decide)).trans hk132
                have hk139 : (upd (upd (upd (upd (upd (upd ft 56 (nI j4)) 57 (nI j10)) 58 (nI j16)) 59 (nI j22)) 60 (nI j28)) 3 (nI 3)) 2 = (nI mi) := (pk_un (by decide)).trans hk133
                have hk140 : (upd (upd (upd (upd (upd (upd ft 56 (nI j4)) 57 (nI j10)) 58 (nI j16)) 59 (nI j22)) 60 (nI j28)) 3 (nI 3)) 4 = (nI un) := (pk_un (by decide)).trans hk135
                have hk141 : (upd (upd (upd (upd (upd (upd ft 56 (nI j4)) 57 (nI j10)) 58 (nI j16)) 59 (nI j22)) 60 (nI j28)) 3 (nI 3)) 3 = (nI 3) := pk_us
                have hP : va_P D vwCl [(mrf, .inl (y 0, 3, .inl frf)), (mo, .inr (11, [.ref to, .ref ke, .ref ik, .ref mrf, .long mab, .long mbl, .ref ha, .ref r0, .ref mbr, .ref mbp, .ref mby, .int (nI bl), .int (nI ta), .int (nI tl), .int (nI tk), .int vv, .ref an, .ref va])), (to, .inl (y 0, 228, .inl (upd (upd (upd (upd (upd (upd ft 56 (nI j4)) 57 (nI j10)) 58 (nI j16)) 59 (nI j22)) 60 (nI j28)) 3 (nI 3))))] H := hP
                have hD : va_D A [(mrf, .inl (y 0, 3, .inl frf)), (mo, .inr (11, [.ref to, .ref ke, .ref ik, .ref mrf, .long mab, .long mbl, .ref ha, .ref r0, .ref mbr, .ref mbp, .ref mby, .int (nI bl), .int (nI ta), .int (nI tl), .int (nI tk), .int vv, .ref an, .ref va])), (to, .inl (y 0, 228, .inl (upd (upd (upd (upd (upd (upd ft 56 (nI j4)) 57 (nI j10)) 58 (nI j16)) 59 (nI j22)) 60 (nI j28)) 3 (nI 3))))] := hD
                refine lv_aload_n hx hb dX11_note_139 rfl (lv_at hl 1 rfl) ?_
                refine va_get (D := D) (ci := 11) (v := .ref to) (C := RX11) (T := TX11) (N := 18) hx hb hts iw11 hown hK hP 1 rfl rfl 0 (by decide) fw2 (fun _ h9 => h9) rfl dX11_note_140 ?_
                refine lv_iconst (v := 3) hx hb dX11_note_143 (by decide) ?_
                refine va_iald hx hb hK hP 2 0 rfl rfl (by unfold vp_in; decide) dX11_note_144 ?_
                rw [show ((3 : Int32)).toNatClampNeg = 3 from rfl]
                rw [show ((upd (upd (upd (upd (upd (upd ft 56 (nI j4)) 57 (nI j10)) 58 (nI j16)) 59 (nI j22)) 60 (nI j28)) 3 (nI 3)) 3) = (nI 3) from hk141]
                exact W.iret (v := (nI 3)) hx hb hr (fun tZ ht hW => ⟨⟨(nI 3), (frf, (upd (upd (upd (upd (upd (upd ft 56 (nI j4)) 57 (nI j10)) 58 (nI j16)) 59 (nI j22)) 60 (nI j28)) 3 (nI 3)), 3), rfl, ⟨hr136, hk137, hk138, hk139, by first | omega | (dsimp only; omega), hk141, hk140, by first | omega | (dsimp only; omega)⟩, by rw [ht]; exact hP.sub [1, 0, 2] rfl, hD.sub [1, 0, 2] (by decide) rfl⟩, hS.F ht⟩) hS.2.2 dX11_note_145
              · skip
                refine lv_bipush (v := 46) hx hb dX11_note_66 (by decide) ?_
                refine lv_iconst (v := 5) hx hb dX11_note_68 (by decide) ?_
                refine lv_aload_n hx hb dX11_note_69 rfl (lv_at hl 0 rfl) ?_
                refine va_get (D := D) (ci := 11) (v := .ref to) (C := RX11) (T := TX11) (N := 18) hx hb hts iw11 hown hK hP 1 rfl rfl 0 (by decide) fw2 (fun _ h9 => h9) rfl dX11_note_70 ?_
                refine lv_iconst (v := 3) hx hb dX11_note_73 (by decide) ?_
                refine va_iald hx hb hK hP 2 0 rfl rfl (by unfold vp_in; decide) dX11_note_74 ?_
                rw [show ((3 : Int32)).toNatClampNeg = 3 from rfl]
                rw [show (ft 3) = (nI 3) from hk3_]
                refine lv_imul hx hb dX11_note_75 ?_
                rw [show 5 * (nI 3) = nI (15) from pk_mul 5 3]
                refine lv_iadd hx hb dX11_note_76 ?_
                rw [show 46 + (nI 15) = nI (61) from nI_add 46 15]
                refine lv_istore (lv' := [(6, .int (nI 61)), (0, .ref mo), (1, .int (nI j4)), (2, .int (nI j10)), (3, .int (nI j16)), (4, .int (nI j22)), (5, .int (nI j28))]) hx hb dX11_note_77 hl (by decide) rfl (fun ls hl => ?_)
                refine lv_aload_n hx hb dX11_note_79 rfl (lv_at hl 1 rfl) ?_
                refine va_get (D := D) (ci := 11) (v := .ref to) (C := RX11) (T := TX11) (N := 18) hx hb hts iw11 hown hK hP 1 rfl rfl 0 (by decide) fw2 (fun _ h9 => h9) rfl dX11_note_80 ?_
                refine lv_iload hx hb dX11_note_83 (lv_at hl 0 rfl) ?_
                refine lv_iload_n hx hb dX11_note_85 rfl (lv_at hl 2 rfl) ?_
                refine va_iast hx hb hK hP hD hS 2 0 rfl rfl (vp_in_nI (by omega) (by decide)) dX11_note_86 (fun H locs hP hD hS => ?_)
                rw [nI_clamp (n := 61) (by omega)] at hP hD
                have hr142 : kr_t 228 (upd ft 61 (nI j4)) := kr_up hkt (kr_free (by unfold kr_a; omega) (by unfold kr_s; omega))
                have hk143 : (upd ft 61 (nI j4)) 0 = (nI fi) := (pk_un (by decide)).trans hk0_
                have hk144 : (upd ft 61 (nI j4)) 1 = (nI gl) := (pk_un (by decide)).trans hk1_
                have hk145 : (upd ft 61 (nI j4)) 2 = (nI mi) := (pk_un (by decide)).trans hk2_
                have hk146 : (upd ft 61 (nI j4)) 3 = (nI 3) := (pk_un (by decide)).trans hk3_
                have hk147 : (upd ft 61 (nI j4)) 4 = (nI un) := (pk_un (by decide)).trans hk4_
                have hP : va_P D vwCl [(mrf, .inl (y 0, 3, .inl frf)), (mo, .inr (11, [.ref to, .ref ke, .ref ik, .ref mrf, .long mab, .long mbl, .ref ha, .ref r0, .ref mbr, .ref mbp, .ref mby, .int (nI bl), .int (nI ta), .int (nI tl), .int (nI tk), .int vv, .ref an, .ref va])), (to, .inl (y 0, 228, .inl (upd ft 61 (nI j4))))] H := hP
                have hD : va_D A [(mrf, .inl (y 0, 3, .inl frf)), (mo, .inr (11, [.ref to, .ref ke, .ref ik, .ref mrf, .long mab, .long mbl, .ref ha, .ref r0, .ref mbr, .ref mbp, .ref mby, .int (nI bl), .int (nI ta), .int (nI tl), .int (nI tk), .int vv, .ref an, .ref va])), (to, .inl (y 0, 228, .inl (upd ft 61 (nI j4))))] := hD
                refine lv_aload_n hx hb dX11_note_87 rfl (lv_at hl 1 rfl) ?_
                refine va_get (D := D) (ci := 11) (v := .ref to) (C := RX11) (T := TX11) (N := 18) hx hb hts iw11 hown hK hP 1 rfl rfl 0 (by decide) fw2 (fun _ h9 => h9) rfl dX11_note_88 ?_
                refine lv_iload hx hb dX11_note_91 (lv_at hl 0 rfl) ?_
                refine lv_iconst (v := 1) hx hb dX11_note_93 (by decide) ?_
                refine lv_iadd hx hb dX11_note_94 ?_
                rw [show (nI 61) + 1 = nI (62) from nI_add 61 1]
                refine lv_iload_n hx hb dX11_note_95 rfl (lv_at hl 3 rfl) ?_
                refine va_iast hx hb hK hP hD hS 2 0 rfl rfl (vp_in_nI (by omega) (by decide)) dX11_note_96 (fun H locs hP hD hS => ?_)
                rw [nI_clamp (n := 62) (by omega)] at hP hD
                have hr148 : kr_t 228 (upd (upd ft 61 (nI j4)) 62 (nI j10)) := kr_up hr142 (kr_free (by unfold kr_a; omega) (by unfold kr_s; omega))
                have hk149 : (upd (upd ft 61 (nI j4)) 62 (nI j10)) 0 = (nI fi) := (pk_un (by decide)).trans hk143
                have hk150 : (upd (upd ft 61 (nI j4)) 62 (nI j10)) 1 = (nI gl) := (pk_un (by decide)).trans hk144
                have hk151 : (upd (upd ft 61 (nI j4)) 62 (nI j10)) 2 = (nI mi) := (pk_un (by decide)).trans hk145
                have hk152 : (upd (upd ft 61 (nI j4)) 62 (nI j10)) 3 = (nI 3) := (pk_un (by decide)).trans hk146
                have hk153 : (upd (upd ft 61 (nI j4)) 62 (nI j10)) 4 = (nI un) := (pk_un (by decide)).trans hk147
                have hP : va_P D vwCl [(mrf, .inl (y 0, 3, .inl frf)), (mo, .inr (11, [.ref to, .ref ke, .ref ik, .ref mrf, .long mab, .long mbl, .ref ha, .ref r0, .ref mbr, .ref mbp, .ref mby, .int (nI bl), .int (nI ta), .int (nI tl), .int (nI tk), .int vv, .ref an, .ref va])), (to, .inl (y 0, 228, .inl (upd (upd ft 61 (nI j4)) 62 (nI j10))))] H := hP
                have hD : va_D A [(mrf, .inl (y 0, 3, .inl frf)), (mo, .inr (11, [.ref to, .ref ke, .ref ik, .ref mrf, .long mab, .long mbl, .ref ha, .ref r0, .ref mbr, .ref mbp, .ref mby, .int (nI bl), .int (nI ta), .int (nI tl), .int (nI tk), .int vv, .ref an, .ref va])), (to, .inl (y 0, 228, .inl (upd (upd ft 61 (nI j4)) 62 (nI j10))))] := hD
                refine lv_aload_n hx hb dX11_note_97 rfl (lv_at hl 1 rfl) ?_
                refine va_get (D := D) (ci := 11) (v := .ref to) (C := RX11) (T := TX11) (N := 18) hx hb hts iw11 hown hK hP 1 rfl rfl 0 (by decide) fw2 (fun _ h9 => h9) rfl dX11_note_98 ?_
                refine lv_iload hx hb dX11_note_101 (lv_at hl 0 rfl) ?_
                refine lv_iconst (v := 2) hx hb dX11_note_103 (by decide) ?_
                refine lv_iadd hx hb dX11_note_104 ?_
                rw [show (nI 61) + 2 = nI (63) from nI_add 61 2]
                refine lv_iload_n hx hb dX11_note_105 rfl (lv_at hl 4 rfl) ?_
                refine va_iast hx hb hK hP hD hS 2 0 rfl rfl (vp_in_nI (by omega) (by decide)) dX11_note_106 (fun H locs hP hD hS => ?_)
                rw [nI_clamp (n := 63) (by omega)] at hP hD
                have hr154 : kr_t 228 (upd (upd (upd ft 61 (nI j4)) 62 (nI j10)) 63 (nI j16)) := kr_up hr148 (kr_free (by unfold kr_a; omega) (by unfold kr_s; omega))
                have hk155 : (upd (upd (upd ft 61 (nI j4)) 62 (nI j10)) 63 (nI j16)) 0 = (nI fi) := (pk_un (by decide)).trans hk149
                have hk156 : (upd (upd (upd ft 61 (nI j4)) 62 (nI j10)) 63 (nI j16)) 1 = (nI gl) := (pk_un (by decide)).trans hk150
                have hk157 : (upd (upd (upd ft 61 (nI j4)) 62 (nI j10)) 63 (nI j16)) 2 = (nI mi) := (pk_un (by decide)).trans hk151
                have hk158 : (upd (upd (upd ft 61 (nI j4)) 62 (nI j10)) 63 (nI j16)) 3 = (nI 3) := (pk_un (by decide)).trans hk152
                have hk159 : (upd (upd (upd ft 61 (nI j4)) 62 (nI j10)) 63 (nI j16)) 4 = (nI un) := (pk_un (by decide)).trans hk153
                have hP : va_P D vwCl [(mrf, .inl (y 0, 3, .inl frf)), (mo, .inr (11, [.ref to, .ref ke, .ref ik, .ref mrf, .long mab, .long mbl, .ref ha, .ref r0, .ref mbr, .ref mbp, .ref mby, .int (nI bl), .int (nI ta), .int (nI tl), .int (nI tk), .int vv, .ref an, .ref va])), (to, .inl (y 0, 228, .inl (upd (upd (upd ft 61 (nI j4)) 62 (nI j10)) 63 (nI j16))))] H := hP
                have hD : va_D A [(mrf, .inl (y 0, 3, .inl frf)), (mo, .inr (11, [.ref to, .ref ke, .ref ik, .ref mrf, .long mab, .long mbl, .ref ha, .ref r0, .ref mbr, .ref mbp, .ref mby, .int (nI bl), .int (nI ta), .int (nI tl), .int (nI tk), .int vv, .ref an, .ref va])), (to, .inl (y 0, 228, .inl (upd (upd (upd ft 61 (nI j4)) 62 (nI j10)) 63 (nI j16))))] := hD
                refine lv_aload_n hx hb dX11_note_107 rfl (lv_at hl 1 rfl) ?_
                refine va_get (D := D) (ci := 11) (v := .ref to) (C := RX11) (T := TX11) (N := 18) hx hb hts iw11 hown hK hP 1 rfl rfl 0 (by decide) fw2 (fun _ h9 => h9) rfl dX11_note_108 ?_
                refine lv_iload hx hb dX11_note_111 (lv_at hl 0 rfl) ?_
                refine lv_iconst (v := 3) hx hb dX11_note_113 (by decide) ?_
                refine lv_iadd hx hb dX11_note_114 ?_
                rw [show (nI 61) + 3 = nI (64) from nI_add 61 3]
                refine lv_iload hx hb dX11_note_115 (lv_at hl 5 rfl) ?_
                refine va_iast hx hb hK hP hD hS 2 0 rfl rfl (vp_in_nI (by omega) (by decide)) dX11_note_117 (fun H locs hP hD hS => ?_)
                rw [nI_clamp (n := 64) (by omega)] at hP hD
                have hr160 : kr_t 228 (upd (upd (upd (upd ft 61 (nI j4)) 62 (nI j10)) 63 (nI j16)) 64 (nI j22)) := kr_up hr154 (kr_free (by unfold kr_a; omega) (by unfold kr_s; omega))
                have hk161 : (upd (upd (upd (upd ft 61 (nI j4)) 62 (nI j10)) 63 (nI j16)) 64 (nI j22)) 0 = (nI fi) := (pk_un (by decide)).trans hk155
                have hk162 : (upd (upd (upd (upd ft 61 (nI j4)) 62 (nI j10)) 63 (nI j16)) 64 (nI j22)) 1 = (nI gl) := (pk_un (by decide)).trans hk156
                have hk163 : (upd (upd (upd (upd ft 61 (nI j4)) 62 (nI j10)) 63 (nI j16)) 64 (nI j22)) 2 = (nI mi) := (pk_un (by decide)).trans hk157
                have hk164 : (upd (upd (upd (upd ft 61 (nI j4)) 62 (nI j10)) 63 (nI j16)) 64 (nI j22)) 3 = (nI 3) := (pk_un (by decide)).trans hk158
                have hk165 : (upd (upd (upd (upd ft 61 (nI j4)) 62 (nI j10)) 63 (nI j16)) 64 (nI j22)) 4 = (nI un) := (pk_un (by decide)).trans hk159
                have hP : va_P D vwCl [(mrf, .inl (y 0, 3, .inl frf)), (mo, .inr (11, [.ref to, .ref ke, .ref ik, .ref mrf, .long mab, .long mbl, .ref ha, .ref r0, .ref mbr, .ref mbp, .ref mby, .int (nI bl), .int (nI ta), .int (nI tl), .int (nI tk), .int vv, .ref an, .ref va])), (to, .inl (y 0, 228, .inl (upd (upd (upd (upd ft 61 (nI j4)) 62 (nI j10)) 63 (nI j16)) 64 (nI j22))))] H := hP
                have hD : va_D A [(mrf, .inl (y 0, 3, .inl frf)), (mo, .inr (11, [.ref to, .ref ke, .ref ik, .ref mrf, .long mab, .long mbl, .ref ha, .ref r0, .ref mbr, .ref mbp, .ref mby, .int (nI bl), .int (nI ta), .int (nI tl), .int (nI tk), .int vv, .ref an, .ref va])), (to, .inl (y 0, 228, .inl (upd (upd (upd (upd ft 61 (nI j4)) 62 (nI j10)) 63 (nI j16)) 64 (nI j22))))] := hD
                refine lv_aload_n hx hb dX11_note_118 rfl (lv_at hl 1 rfl) ?_
                refine va_get (D := D) (ci := 11) (v := .ref to) (C := RX11) (T := TX11) (N := 18) hx hb hts iw11 hown hK hP 1 rfl rfl 0 (by decide) fw2 (fun _ h9 => h9) rfl dX11_note_119 ?_
                refine lv_iload hx hb dX11_note_122 (lv_at hl 0 rfl) ?_
                refine lv_iconst (v := 4) hx hb dX11_note_124 (by decide) ?_
                refine lv_iadd hx hb dX11_note_125 ?_
                rw [show (nI 61) + 4 = nI (65) from nI_add 61 4]
                refine lv_iload hx hb dX11_note_126 (lv_at hl 6 rfl) ?_
                refine va_iast hx hb hK hP hD hS 2 0 rfl rfl (vp_in_nI (by omega) (by decide)) dX11_note_128 (fun H locs hP hD hS => ?_)
                rw [nI_clamp (n := 65) (by omega)] at hP hD
                have hr166 : kr_t 228 (upd (upd (upd (upd (upd ft 61 (nI j4)) 62 (nI j10)) 63 (nI j16)) 64 (nI j22)) 65 (nI j28)) := kr_up hr160 (kr_free (by unfold kr_a; omega) (by unfold kr_s; omega))
                have hk167 : (upd (upd (upd (upd (upd ft 61 (nI j4)) 62 (nI j10)) 63 (nI j16)) 64 (nI j22)) 65 (nI j28)) 0 = (nI fi) := (pk_un (by decide)).trans hk161
                have hk168 : (upd (upd (upd (upd (upd ft 61 (nI j4)) 62 (nI j10)) 63 (nI j16)) 64 (nI j22)) 65 (nI j28)) 1 = (nI gl) := (pk_un (by decide)).trans hk162
                have hk169 : (upd (upd (upd (upd (upd ft 61 (nI j4)) 62 (nI j10)) 63 (nI j16)) 64 (nI j22)) 65 (nI j28)) 2 = (nI mi) := (pk_un (by decide)).trans hk163
                have hk170 : (upd (upd (upd (upd (upd ft 61 (nI j4)) 62 (nI j10)) 63 (nI j16)) 64 (nI j22)) 65 (nI j28)) 3 = (nI 3) := (pk_un (by decide)).trans hk164
                have hk171 : (upd (upd (upd (upd (upd ft 61 (nI j4)) 62 (nI j10)) 63 (nI j16)) 64 (nI j22)) 65 (nI j28)) 4 = (nI un) := (pk_un (by decide)).trans hk165
                have hP : va_P D vwCl [(mrf, .inl (y 0, 3, .inl frf)), (mo, .inr (11, [.ref to, .ref ke, .ref ik, .ref mrf, .long mab, .long mbl, .ref ha, .ref r0, .ref mbr, .ref mbp, .ref mby, .int (nI bl), .int (nI ta), .int (nI tl), .int (nI tk), .int vv, .ref an, .ref va])), (to, .inl (y 0, 228, .inl (upd (upd (upd (upd (upd ft 61 (nI j4)) 62 (nI j10)) 63 (nI j16)) 64 (nI j22)) 65 (nI j28))))] H := hP
                have hD : va_D A [(mrf, .inl (y 0, 3, .inl frf)), (mo, .inr (11, [.ref to, .ref ke, .ref ik, .ref mrf, .long mab, .long mbl, .ref ha, .ref r0, .ref mbr, .ref mbp, .ref mby, .int (nI bl), .int (nI ta), .int (nI tl), .int (nI tk), .int vv, .ref an, .ref va])), (to, .inl (y 0, 228, .inl (upd (upd (upd (upd (upd ft 61 (nI j4)) 62 (nI j10)) 63 (nI j16)) 64 (nI j22)) 65 (nI j28))))] := hD
                refine lv_aload_n hx hb dX11_note_129 rfl (lv_at hl 1 rfl) ?_
                refine va_get (D := D) (ci := 11) (v := .ref to) (C := RX11) (T := TX11) (N := 18) hx hb hts iw11 hown hK hP 1 rfl rfl 0 (by decide) fw2 (fun _ h9 => h9) rfl dX11_note_130 ?_
                refine lv_iconst (v := 3) hx hb dX11_note_133 (by decide) ?_
                refine lv_dup2_11 hx hb dX11_note_134 rfl rfl ?_
                refine va_iald hx hb hK hP 2 0 rfl rfl (by unfold vp_in; decide) dX11_note_135 ?_
                rw [show ((3 : Int32)).toNatClampNeg = 3 from rfl]
                rw [show ((upd (upd (upd (upd (upd ft 61 (nI j4)) 62 (nI j10)) 63 (nI j16)) 64 (nI j22)) 65 (nI j28)) 3) = (nI 3) from hk170]
                refine lv_iconst (v := 1) hx hb dX11_note_136 (by decide) ?_
                refine lv_iadd hx hb dX11_note_137 ?_
                rw [show (nI 3) + 1 = nI (4) from nI_add 3 1]
                refine va_iast hx hb hK hP hD hS 2 0 rfl rfl (by unfold vp_in; decide) dX11_note_138 (fun H locs hP hD hS => ?_)
                rw [show ((3 : Int32)).toNatClampNeg = 3 from rfl] at hP hD
                have hr172 : kr_t 228 (upd (upd (upd (upd (upd (upd ft 61 (nI j4)) 62 (nI j10)) 63 (nI j16)) 64 (nI j22)) 65 (nI j28)) 3 (nI 4)) := kr_up hr166 (kr_free (by unfold kr_a; omega) (by unfold kr_s; omega))
                have hk173 : (upd (upd (upd (upd (upd (upd ft 61 (nI j4)) 62 (nI j10)) 63 (nI j16)) 64 (nI j22)) 65 (nI j28)) 3 (nI 4)) 0 = (nI fi) := (pk_un (by decide)).trans hk167
                have hk174 : (upd (upd (upd (upd (upd (upd ft 61 (nI j4)) 62 (nI j10)) 63 (nI j16)) 64 (nI j22)) 65 (nI j28)) 3 (nI 4)) 1 = (nI gl) := (pk_un (by decide)).trans hk168
                have hk175 : (upd (upd (upd (upd (upd (upd ft 61 (nI j4)) 62 (nI j10)) 63 (nI j16)) 64 (nI j22)) 65 (nI j28)) 3 (nI 4)) 2 = (nI mi) := (pk_un (by decide)).trans hk169
                have hk176 : (upd (upd (upd (upd (upd (upd ft 61 (nI j4)) 62 (nI j10)) 63 (nI j16)) 64 (nI j22)) 65 (nI j28)) 3 (nI 4)) 4 = (nI un) := (pk_un (by decide)).trans hk171
                have hk177 : (upd (upd (upd (upd (upd (upd ft 61 (nI j4)) 62 (nI j10)) 63 (nI j16)) 64 (nI j22)) 65 (nI j28)) 3 (nI 4)) 3 = (nI 4) := pk_us
                have hP : va_P D vwCl [(mrf, .inl (y 0, 3, .inl frf)), (mo, .inr (11, [.ref to, .ref ke, .ref ik, .ref mrf, .long mab, .long mbl, .ref ha, .ref r0, .ref mbr, .ref mbp, .ref mby, .int (nI bl), .int (nI ta), .int (nI tl), .int (nI tk), .int vv, .ref an, .ref va])), (to, .inl (y 0, 228, .inl (upd (upd (upd (upd (upd (upd ft 61 (nI j4)) 62 (nI j10)) 63 (nI j16)) 64 (nI j22)) 65 (nI j28)) 3 (nI 4))))] H := hP
                have hD : va_D A [(mrf, .inl (y 0, 3, .inl frf)), (mo, .inr (11, [.ref to, .ref ke, .ref ik, .ref mrf, .long mab, .long mbl, .ref ha, .ref r0, .ref mbr, .ref mbp, .ref mby, .int (nI bl), .int (nI ta), .int (nI tl), .int (nI tk), .int vv, .ref an, .ref va])), (to, .inl (y 0, 228, .inl (upd (upd (upd (upd (upd (upd ft 61 (nI j4)) 62 (nI j10)) 63 (nI j16)) 64 (nI j22)) 65 (nI j28)) 3 (nI 4))))] := hD
                refine lv_aload_n hx hb dX11_note_139 rfl (lv_at hl 1 rfl) ?_
                refine va_get (D := D) (ci := 11) (v := .ref to) (C := RX11) (T := TX11) (N := 18) hx hb hts iw11 hown hK hP 1 rfl rfl 0 (by decide) fw2 (fun _ h9 => h9) rfl dX11_note_140 ?_
                refine lv_iconst (v := 3) hx hb dX11_note_143 (by decide) ?_
                refine va_iald hx hb hK hP 2 0 rfl rfl (by unfold vp_in; decide) dX11_note_144 ?_
                rw [show ((3 : Int32)).toNatClampNeg = 3 from rfl]
                rw [show ((upd (upd (upd (upd (upd (upd ft 61 (nI j4)) 62 (nI j10)) 63 (nI j16)) 64 (nI j22)) 65 (nI j28)) 3 (nI 4)) 3) = (nI 4) from hk177]
                exact W.iret (v := (nI 4)) hx hb hr (fun tZ ht hW => ⟨⟨(nI 4), (frf, (upd (upd (upd (upd (upd (upd ft 61 (nI j4)) 62 (nI j10)) 63 (nI j16)) 64 (nI j22)) 65 (nI j28)) 3 (nI 4)), 4), rfl, ⟨hr172, hk173, hk174, hk175, by first | omega | (dsimp only; omega), hk177, hk176, by first | omega | (dsimp only; omega)⟩, by rw [ht]; exact hP.sub [1, 0, 2] rfl, hD.sub [1, 0, 2] (by decide) rfl⟩, hS.F ht⟩) hS.2.2 dX11_note_145
              · skip
                refine lv_bipush (v := 46) hx hb dX11_note_66 (by decide) ?_
                refine lv_iconst (v := 5) hx hb dX11_note_68 (by decide) ?_
                refine lv_aload_n hx hb dX11_note_69 rfl (lv_at hl 0 rfl) ?_
                refine va_get (D := D) (ci := 11) (v := .ref to) (C := RX11) (T := TX11) (N := 18) hx hb hts iw11 hown hK hP 1 rfl rfl 0 (by decide) fw2 (fun _ h9 => h9) rfl dX11_note_70 ?_
                refine lv_iconst (v := 3) hx hb dX11_note_73 (by decide) ?_
                refine va_iald hx hb hK hP 2 0 rfl rfl (by unfold vp_in; decide) dX11_note_74 ?_
                rw [show ((3 : Int32)).toNatClampNeg = 3 from rfl]
                rw [show (ft 3) = (nI 4) from hk3_]
                refine lv_imul hx hb dX11_note_75 ?_
                rw [show 5 * (nI 4) = nI (20) from pk_mul 5 4]
                refine lv_iadd hx hb dX11_note_76 ?_
                rw [show 46 + (nI 20) = nI (66) from nI_add 46 20]
                refine lv_istore (lv' := [(6, .int (nI 66)), (0, .ref mo), (1, .int (nI j4)), (2, .int (nI j10)), (3, .int (nI j16)), (4, .int (nI j22)), (5, .int (nI j28))]) hx hb dX11_note_77 hl (by decide) rfl (fun ls hl => ?_)
                refine lv_aload_n hx hb dX11_note_79 rfl (lv_at hl 1 rfl) ?_
                refine va_get (D := D) (ci := 11) (v := .ref to) (C := RX11) (T := TX11) (N := 18) hx hb hts iw11 hown hK hP 1 rfl rfl 0 (by decide) fw2 (fun _ h9 => h9) rfl dX11_note_80 ?_
                refine lv_iload hx hb dX11_note_83 (lv_at hl 0 rfl) ?_
                refine lv_iload_n hx hb dX11_note_85 rfl (lv_at hl 2 rfl) ?_
                refine va_iast hx hb hK hP hD hS 2 0 rfl rfl (vp_in_nI (by omega) (by decide)) dX11_note_86 (fun H locs hP hD hS => ?_)
                rw [nI_clamp (n := 66) (by omega)] at hP hD
                have hr178 : kr_t 228 (upd ft 66 (nI j4)) := kr_up hkt (kr_free (by unfold kr_a; omega) (by unfold kr_s; omega))
                have hk179 : (upd ft 66 (nI j4)) 0 = (nI fi) := (pk_un (by decide)).trans hk0_
                have hk180 : (upd ft 66 (nI j4)) 1 = (nI gl) := (pk_un (by decide)).trans hk1_
                have hk181 : (upd ft 66 (nI j4)) 2 = (nI mi) := (pk_un (by decide)).trans hk2_
                have hk182 : (upd ft 66 (nI j4)) 3 = (nI 4) := (pk_un (by decide)).trans hk3_
                have hk183 : (upd ft 66 (nI j4)) 4 = (nI un) := (pk_un (by decide)).trans hk4_
                have hP : va_P D vwCl [(mrf, .inl (y 0, 3, .inl frf)), (mo, .inr (11, [.ref to, .ref ke, .ref ik, .ref mrf, .long mab, .long mbl, .ref ha, .ref r0, .ref mbr, .ref mbp, .ref mby, .int (nI bl), .int (nI ta), .int (nI tl), .int (nI tk), .int vv, .ref an, .ref va])), (to, .inl (y 0, 228, .inl (upd ft 66 (nI j4))))] H := hP
                have hD : va_D A [(mrf, .inl (y 0, 3, .inl frf)), (mo, .inr (11, [.ref to, .ref ke, .ref ik, .ref mrf, .long mab, .long mbl, .ref ha, .ref r0, .ref mbr, .ref mbp, .ref mby, .int (nI bl), .int (nI ta), .int (nI tl), .int (nI tk), .int vv, .ref an, .ref va])), (to, .inl (y 0, 228, .inl (upd ft 66 (nI j4))))] := hD
                refine lv_aload_n hx hb dX11_note_87 rfl (lv_at hl 1 rfl) ?_
                refine va_get (D := D) (ci := 11) (v := .ref to) (C := RX11) (T := TX11) (N := 18) hx hb hts iw11 hown hK hP 1 rfl rfl 0 (by decide) fw2 (fun _ h9 => h9) rfl dX11_note_88 ?_
                refine lv_iload hx hb dX11_note_91 (lv_at hl 0 rfl) ?_
                refine lv_iconst (v := 1) hx hb dX11_note_93 (by decide) ?_
                refine lv_iadd hx hb dX11_note_94 ?_
                rw [show (nI 66) + 1 = nI (67) from nI_add 66 1]
                refine lv_iload_n hx hb dX11_note_95 rfl (lv_at hl 3 rfl) ?_
                refine va_iast hx hb hK hP hD hS 2 0 rfl rfl (vp_in_nI (by omega) (by decide)) dX11_note_96 (fun H locs hP hD hS => ?_)
                rw [nI_clamp (n := 67) (by omega)] at hP hD
                have hr184 : kr_t 228 (upd (upd ft 66 (nI j4)) 67 (nI j10)) := kr_up hr178 (kr_free (by unfold kr_a; omega) (by unfold kr_s; omega))
                have hk185 : (upd (upd ft 66 (nI j4)) 67 (nI j10)) 0 = (nI fi) := (pk_un (by decide)).trans hk179
                have hk186 : (upd (upd ft 66 (nI j4)) 67 (nI j10)) 1 = (nI gl) := (pk_un (by decide)).trans hk180
                have hk187 : (upd (upd ft 66 (nI j4)) 67 (nI j10)) 2 = (nI mi) := (pk_un (by decide)).trans hk181
                have hk188 : (upd (upd ft 66 (nI j4)) 67 (nI j10)) 3 = (nI 4) := (pk_un (by decide)).trans hk182
                have hk189 : (upd (upd ft 66 (nI j4)) 67 (nI j10)) 4 = (nI un) := (pk_un (by decide)).trans hk183
                have hP : va_P D vwCl [(mrf, .inl (y 0, 3, .inl frf)), (mo, .inr (11, [.ref to, .ref ke, .ref ik, .ref mrf, .long mab, .long mbl, .ref ha, .ref r0, .ref mbr, .ref mbp, .ref mby, .int (nI bl), .int (nI ta), .int (nI tl), .int (nI tk), .int vv, .ref an, .ref va])), (to, .inl (y 0, 228, .inl (upd (upd ft 66 (nI j4)) 67 (nI j10))))] H := hP
                have hD : va_D A [(mrf, .inl (y 0, 3, .inl frf)), (mo, .inr (11, [.ref to, .ref ke, .ref ik, .ref mrf, .long mab, .long mbl, .ref ha, .ref r0, .ref mbr, .ref mbp, .ref mby, .int (nI bl), .int (nI ta), .int (nI tl), .int (nI tk), .int vv, .ref an, .ref va])), (to, .inl (y 0, 228, .inl (upd (upd ft 66 (nI j4)) 67 (nI j10))))] := hD
                refine lv_aload_n hx hb dX11_note_97 rfl (lv_at hl 1 rfl) ?_
                refine va_get (D := D) (ci := 11) (v := .ref to) (C := RX11) (T := TX11) (N := 18) hx hb hts iw11 hown hK hP 1 rfl rfl 0 (by decide) fw2 (fun _ h9 => h9) rfl dX11_note_98 ?_
                refine lv_iload hx hb dX11_note_101 (lv_at hl 0 rfl) ?_
                refine lv_iconst (v := 2) hx hb dX11_note_103 (by decide) ?_
                refine lv_iadd hx hb dX11_note_104 ?_
                rw [show (nI 66) + 2 = nI (68) from nI_add 66 2]
                refine lv_iload_n hx hb dX11_note_105 rfl (lv_at hl 4 rfl) ?_
                refine va_iast hx hb hK hP hD hS 2 0 rfl rfl (vp_in_nI (by omega) (by decide)) dX11_note_106 (fun H locs hP hD hS => ?_)
                rw [nI_clamp (n := 68) (by omega)] at hP hD
                have hr190 : kr_t 228 (upd (upd (upd ft 66 (nI j4)) 67 (nI j10)) 68 (nI j16)) := kr_up hr184 (kr_free (by unfold kr_a; omega) (by unfold kr_s; omega))
                have hk191 : (upd (upd (upd ft 66 (nI j4)) 67 (nI j10)) 68 (nI j16)) 0 = (nI fi) := (pk_un (by decide)).trans hk185
                have hk192 : (upd (upd (upd ft 66 (nI j4)) 67 (nI j10)) 68 (nI j16)) 1 = (nI gl) := (pk_un (by decide)).trans hk186
                have hk193 : (upd (upd (upd ft 66 (nI j4)) 67 (nI j10)) 68 (nI j16)) 2 = (nI mi) := (pk_un (by decide)).trans hk187
                have hk194 : (upd (upd (upd ft 66 (nI j4)) 67 (nI j10)) 68 (nI j16)) 3 = (nI 4) := (pk_un (by decide)).trans hk188
                have hk195 : (upd (upd (upd ft 66 (nI j4)) 67 (nI j10)) 68 (nI j16)) 4 = (nI un) := (pk_un (by decide)).trans hk189
                have hP : va_P D vwCl [(mrf, .inl (y 0, 3, .inl frf)), (mo, .inr (11, [.ref to, .ref ke, .ref ik, .ref mrf, .long mab, .long mbl, .ref ha, .ref r0, .ref mbr, .ref mbp, .ref mby, .int (nI bl), .int (nI ta), .int (nI tl), .int (nI tk), .int vv, .ref an, .ref va])), (to, .inl (y 0, 228, .inl (upd (upd (upd ft 66 (nI j4)) 67 (nI j10)) 68 (nI j16))))] H := hP
                have hD : va_D A [(mrf, .inl (y 0, 3, .inl frf)), (mo, .inr (11, [.ref to, .ref ke, .ref ik, .ref mrf, .long mab, .long mbl, .ref ha, .ref r0, .ref mbr, .ref mbp, .ref mby, .int (nI bl), .int (nI ta), .int (nI tl), .int (nI tk), .int vv, .ref an, .ref va])), (to, .inl (y 0, 228, .inl (upd (upd (upd ft 66 (nI j4)) 67 (nI j10)) 68 (nI j16))))] := hD
                refine lv_aload_n hx hb dX11_note_107 rfl (lv_at hl 1 rfl) ?_
                refine va_get (D := D) (ci := 11) (v := .ref to) (C := RX11) (T := TX11) (N := 18) hx hb hts iw11 hown hK hP 1 rfl rfl 0 (by decide) fw2 (fun _ h9 => h9) rfl dX11_note_108 ?_
                refine lv_iload hx hb dX11_note_111 (lv_at hl 0 rfl) ?_
                refine lv_iconst (v := 3) hx hb dX11_note_113 (by decide) ?_
                refine lv_iadd hx hb dX11_note_114 ?_
                rw [show (nI 66) + 3 = nI (69) from nI_add 66 3]
                refine lv_iload hx hb dX11_note_115 (lv_at hl 5 rfl) ?_
                refine va_iast hx hb hK hP hD hS 2 0 rfl rfl (vp_in_nI (by omega) (by decide)) dX11_note_117 (fun H locs hP hD hS => ?_)
                rw [nI_clamp (n := 69) (by omega)] at hP hD
                have hr196 : kr_t 228 (upd (upd (upd (upd ft 66 (nI j4)) 67 (nI j10)) 68 (nI j16)) 69 (nI j22)) := kr_up hr190 (kr_free (by unfold kr_a; omega) (by unfold kr_s; omega))
                have hk197 : (upd (upd (upd (upd ft 66 (nI j4)) 67 (nI j10)) 68 (nI j16)) 69 (nI j22)) 0 = (nI fi) := (pk_un (by decide)).trans hk191
                have hk198 : (upd (upd (upd (upd ft 66 (nI j4)) 67 (nI j10)) 68 (nI j16)) 69 (nI j22)) 1 = (nI gl) := (pk_un (by decide)).trans hk192
                have hk199 : (upd (upd (upd (upd ft 66 (nI j4)) 67 (nI j10)) 68 (nI j16)) 69 (nI j22)) 2 = (nI mi) := (pk_un (by decide)).trans hk193
                have hk200 : (upd (upd (upd (upd ft 66 (nI j4)) 67 (nI j10)) 68 (nI j16)) 69 (nI j22)) 3 = (nI 4) := (pk_un (by decide)).trans hk194
                have hk201 : (upd (upd (upd (upd ft 66 (nI j4)) 67 (nI j10)) 68 (nI j16)) 69 (nI j22)) 4 = (nI un) := (pk_un (by decide)).trans hk195
                have hP : va_P D vwCl [(mrf, .inl (y 0, 3, .inl frf)), (mo, .inr (11, [.ref to, .ref ke, .ref ik, .ref mrf, .long mab, .long mbl, .ref ha, .ref r0, .ref mbr, .ref mbp, .ref mby, .int (nI bl), .int (nI ta), .int (nI tl), .int (nI tk), .int vv, .ref an, .ref va])), (to, .inl (y 0, 228, .inl (upd (upd (upd (upd ft 66 (nI j4)) 67 (nI j10)) 68 (nI j16)) 69 (nI j22))))] H := hP
                have hD : va_D A [(mrf, .inl (y 0, 3, .inl frf)), (mo, .inr (11, [.ref to, .ref ke, .ref ik, .ref mrf, .long mab, .long mbl, .ref ha, .ref r0, .ref mbr, .ref mbp, .ref mby, .int (nI bl), .int (nI ta), .int (nI tl), .int (nI tk), .int vv, .ref an, .ref va])), (to, .inl (y 0, 228, .inl (upd (upd (upd (upd ft 66 (nI j4)) 67 (nI j10)) 68 (nI j16)) 69 (nI j22))))] := hD
                refine lv_aload_n hx hb dX11_note_118 rfl (lv_at hl 1 rfl) ?_
                refine va_get (D := D) (ci := 11) (v := .ref to) (C := RX11) (T := TX11) (N := 18) hx hb hts iw11 hown hK hP 1 rfl rfl 0 (by decide) fw2 (fun _ h9 => h9) rfl dX11_note_119 ?_
                refine lv_iload hx hb dX11_note_122 (lv_at hl 0 rfl) ?_
                refine lv_iconst (v := 4) hx hb dX11_note_124 (by decide) ?_
                refine lv_iadd hx hb dX11_note_125 ?_
                rw [show (nI 66) + 4 = nI (70) from nI_add 66 4]
                refine lv_iload hx hb dX11_note_126 (lv_at hl 6 rfl) ?_
                refine va_iast hx hb hK hP hD hS 2 0 rfl rfl (vp_in_nI (by omega) (by decide)) dX11_note_128 (fun H locs hP hD hS => ?_)
                rw [nI_clamp (n := 70) (by omega)] at hP hD
                have hr202 : kr_t 228 (upd (upd (upd (upd (upd ft 66 (nI j4)) 67 (nI j10)) 68 (nI j16)) 69 (nI j22)) 70 (nI j28)) := kr_up hr196 (kr_free (by unfold kr_a; omega) (by unfold kr_s; omega))
                have hk203 : (upd (upd (upd (upd (upd ft 66 (nI j4)) 67 (nI j10)) 68 (nI j16)) 69 (nI j22)) 70 (nI j28)) 0 = (nI fi) := (pk_un (by decide)).trans hk197
                have hk204 : (upd (upd (upd (upd (upd ft 66 (nI j4)) 67 (nI j10)) 68 (nI j16)) 69 (nI j22)) 70 (nI j28)) 1 = (nI gl) := (pk_un (by decide)).trans hk198
                have hk205 : (upd (upd (upd (upd (upd ft 66 (nI j4)) 67 (nI j10)) 68 (nI j16)) 69 (nI j22)) 70 (nI j28)) 2 = (nI mi) := (pk_un (by decide)).trans hk199
                have hk206 : (upd (upd (upd (upd (upd ft 66 (nI j4)) 67 (nI j10)) 68 (nI j16)) 69 (nI j22)) 70 (nI j28)) 3 = (nI 4) := (pk_un (by decide)).trans hk200
                have hk207 : (upd (upd (upd (upd (upd ft 66 (nI j4)) 67 (nI j10)) 68 (nI j16)) 69 (nI j22)) 70 (nI j28)) 4 = (nI un) := (pk_un (by decide)).trans hk201
                have hP : va_P D vwCl [(mrf, .inl (y 0, 3, .inl frf)), (mo, .inr (11, [.ref to, .ref ke, .ref ik, .ref mrf, .long mab, .long mbl, .ref ha, .ref r0, .ref mbr, .ref mbp, .ref mby, .int (nI bl), .int (nI ta), .int (nI tl), .int (nI tk), .int vv, .ref an, .ref va])), (to, .inl (y 0, 228, .inl (upd (upd (upd (upd (upd ft 66 (nI j4)) 67 (nI j10)) 68 (nI j16)) 69 (nI j22)) 70 (nI j28))))] H := hP
                have hD : va_D A [(mrf, .inl (y 0, 3, .inl frf)), (mo, .inr (11, [.ref to, .ref ke, .ref ik, .ref mrf, .long mab, .long mbl, .ref ha, .ref r0, .ref mbr, .ref mbp, .ref mby, .int (nI bl), .int (nI ta), .int (nI tl), .int (nI tk), .int vv, .ref an, .ref va])), (to, .inl (y 0, 228, .inl (upd (upd (upd (upd (upd ft 66 (nI j4)) 67 (nI j10)) 68 (nI j16)) 69 (nI j22)) 70 (nI j28))))] := hD
                refine lv_aload_n hx hb dX11_note_129 rfl (lv_at hl 1 rfl) ?_
                refine va_get (D := D) (ci := 11) (v := .ref to) (C := RX11) (T := TX11) (N := 18) hx hb hts iw11 hown hK hP 1 rfl rfl 0 (by decide) fw2 (fun _ h9 => h9) rfl dX11_note_130 ?_
                refine lv_iconst (v := 3) hx hb dX11_note_133 (by decide) ?_
                refine lv_dup2_11 hx hb dX11_note_134 rfl rfl ?_
                refine va_iald hx hb hK hP 2 0 rfl rfl (by unfold vp_in; decide) dX11_note_135 ?_
                rw [show ((3 : Int32)).toNatClampNeg = 3 from rfl]
                rw [show ((upd (upd (upd (upd (upd ft 66 (nI j4)) 67 (nI j10)) 68 (nI j16)) 69 (nI j22)) 70 (nI j28)) 3) = (nI 4) from hk206]
                refine lv_iconst (v := 1) hx hb dX11_note_136 (by decide) ?_
                refine lv_iadd hx hb dX11_note_137 ?_
                rw [show (nI 4) + 1 = nI (5) from nI_add 4 1]
                refine va_iast hx hb hK hP hD hS 2 0 rfl rfl (by unfold vp_in; decide) dX11_note_138 (fun H locs hP hD hS => ?_)
                rw [show ((3 : Int32)).toNatClampNeg = 3 from rfl] at hP hD
                have hr208 : kr_t 228 (upd (upd (upd (upd (upd (upd ft 66 (nI j4)) 67 (nI j10)) 68 (nI j16)) 69 (nI j22)) 70 (nI j28)) 3 (nI 5)) := kr_up hr202 (kr_free (by unfold kr_a; omega) (by unfold kr_s; omega))
                have hk209 : (upd (upd (upd (upd (upd (upd ft 66 (nI j4)) 67 (nI j10)) 68 (nI j16)) 69 (nI j22)) 70 (nI j28)) 3 (nI 5)) 0 = (nI fi) := (pk_un (by decide)).trans hk203
                have hk210 : (upd (upd (upd (upd (upd (upd ft 66 (nI j4)) 67 (nI j10)) 68 (nI j16)) 69 (nI j22)) 70 (nI j28)) 3 (nI 5)) 1 = (nI gl) := (pk_un (by decide)).trans hk204
                have hk211 : (upd (upd (upd (upd (upd (upd ft 66 (nI j4)) 67 (nI j10)) 68 (nI j16)) 69 (nI j22)) 70 (nI j28)) 3 (nI 5)) 2 = (nI mi) := (pk_un (by decide)).trans hk205
                have hk212 : (upd (upd (upd (upd (upd (upd ft 66 (nI j4)) 67 (nI j10)) 68 (nI j16)) 69 (nI j22)) 70 (nI j28)) 3 (nI 5)) 4 = (nI un) := (pk_un (by decide)).trans hk207
                have hk213 : (upd (upd (upd (upd (upd (upd ft 66 (nI j4)) 67 (nI j10)) 68 (nI j16)) 69 (nI j22)) 70 (nI j28)) 3 (nI 5)) 3 = (nI 5) := pk_us
                have hP : va_P D vwCl [(mrf, .inl (y 0, 3, .inl frf)), (mo, .inr (11, [.ref to, .ref ke, .ref ik, .ref mrf, .long mab, .long mbl, .ref ha, .ref r0, .ref mbr, .ref mbp, .ref mby, .int (nI bl), .int (nI ta), .int (nI tl), .int (nI tk), .int vv, .ref an, .ref va])), (to, .inl (y 0, 228, .inl (upd (upd (upd (upd (upd (upd ft 66 (nI j4)) 67 (nI j10)) 68 (nI j16)) 69 (nI j22)) 70 (nI j28)) 3 (nI 5))))] H := hP
                have hD : va_D A [(mrf, .inl (y 0, 3, .inl frf)), (mo, .inr (11, [.ref to, .ref ke, .ref ik, .ref mrf, .long mab, .long mbl, .ref ha, .ref r0, .ref mbr, .ref mbp, .ref mby, .int (nI bl), .int (nI ta), .int (nI tl), .int (nI tk), .int vv, .ref an, .ref va])), (to, .inl (y 0, 228, .inl (upd (upd (upd (upd (upd (upd ft 66 (nI j4)) 67 (nI j10)) 68 (nI j16)) 69 (nI j22)) 70 (nI j28)) 3 (nI 5))))] := hD
                refine lv_aload_n hx hb dX11_note_139 rfl (lv_at hl 1 rfl) ?_
                refine va_get (D := D) (ci := 11) (v := .ref to) (C := RX11) (T := TX11) (N := 18) hx hb hts iw11 hown hK hP 1 rfl rfl 0 (by decide) fw2 (fun _ h9 => h9) rfl dX11_note_140 ?_
                refine lv_iconst (v := 3) hx hb dX11_note_143 (by decide) ?_
                refine va_iald hx hb hK hP 2 0 rfl rfl (by unfold vp_in; decide) dX11_note_144 ?_
                rw [show ((3 : Int32)).toNatClampNeg = 3 from rfl]
                rw [show ((upd (upd (upd (upd (upd (upd ft 66 (nI j4)) 67 (nI j10)) 68 (nI j16)) 69 (nI j22)) 70 (nI j28)) 3 (nI 5)) 3) = (nI 5) from hk213]
                exact W.iret (v := (nI 5)) hx hb hr (fun tZ ht hW => ⟨⟨(nI 5), (frf, (upd (upd (upd (upd (upd (upd ft 66 (nI j4)) 67 (nI j10)) 68 (nI j16)) 69 (nI j22)) 70 (nI j28)) 3 (nI 5)), 5), rfl, ⟨hr208, hk209, hk210, hk211, by first | omega | (dsimp only; omega), hk213, hk212, by first | omega | (dsimp only; omega)⟩, by rw [ht]; exact hP.sub [1, 0, 2] rfl, hD.sub [1, 0, 2] (by decide) rfl⟩, hS.F ht⟩) hS.2.2 dX11_note_145
              · skip
                refine lv_bipush (v := 46) hx hb dX11_note_66 (by decide) ?_
                refine lv_iconst (v := 5) hx hb dX11_note_68 (by decide) ?_
                refine lv_aload_n hx hb dX11_note_69 rfl (lv_at hl 0 rfl) ?_
                refine va_get (D := D) (ci := 11) (v := .ref to) (C := RX11) (T := TX11) (N := 18) hx hb hts iw11 hown hK hP 1 rfl rfl 0 (by decide) fw2 (fun _ h9 => h9) rfl dX11_note_70 ?_
                refine lv_iconst (v := 3) hx hb dX11_note_73 (by decide) ?_
                refine va_iald hx hb hK hP 2 0 rfl rfl (by unfold vp_in; decide) dX11_note_74 ?_
                rw [show ((3 : Int32)).toNatClampNeg = 3 from rfl]
                rw [show (ft 3) = (nI 5) from hk3_]
                refine lv_imul hx hb dX11_note_75 ?_
                rw [show 5 * (nI 5) = nI (25) from pk_mul 5 5]
                refine lv_iadd hx hb dX11_note_76 ?_
                rw [show 46 + (nI 25) = nI (71) from nI_add 46 25]
                refine lv_istore (lv' := [(6, .int (nI 71)), (0, .ref mo), (1, .int (nI j4)), (2, .int (nI j10)), (3, .int (nI j16)), (4, .int (nI j22)), (5, .int (nI j28))]) hx hb dX11_note_77 hl (by decide) rfl (fun ls hl => ?_)
                refine lv_aload_n hx hb dX11_note_79 rfl (lv_at hl 1 rfl) ?_
                refine va_get (D := D) (ci := 11) (v := .ref to) (C := RX11) (T := TX11) (N := 18) hx hb hts iw11 hown hK hP 1 rfl rfl 0 (by decide) fw2 (fun _ h9 => h9) rfl dX11_note_80 ?_
                refine lv_iload hx hb dX11_note_83 (lv_at hl 0 rfl) ?_
                refine lv_iload_n hx hb dX11_note_85 rfl (lv_at hl 2 rfl) ?_
                refine va_iast hx hb hK hP hD hS 2 0 rfl rfl (vp_in_nI (by omega) (by decide)) dX11_note_86 (fun H locs hP hD hS => ?_)
                rw [nI_clamp (n := 71) (by omega)] at hP hD
                have hr214 : kr_t 228 (upd ft 71 (nI j4)) := kr_up hkt (kr_free (by unfold kr_a; omega) (by unfold kr_s; omega))
                have hk215 : (upd ft 71 (nI j4)) 0 = (nI fi) := (pk_un (by decide)).trans hk0_
                have hk216 : (upd ft 71 (nI j4)) 1 = (nI gl) := (pk_un (by decide)).trans hk1_
                have hk217 : (upd ft 71 (nI j4)) 2 = (nI mi) := (pk_un (by decide)).trans hk2_
                have hk218 : (upd ft 71 (nI j4)) 3 = (nI 5) := (pk_un (by decide)).trans hk3_
                have hk219 : (upd ft 71 (nI j4)) 4 = (nI un) := (pk_un (by decide)).trans hk4_
                have hP : va_P D vwCl [(mrf, .inl (y 0, 3, .inl frf)), (mo, .inr (11, [.ref to, .ref ke, .ref ik, .ref mrf, .long mab, .long mbl, .ref ha, .ref r0, .ref mbr, .ref mbp, .ref mby, .int (nI bl), .int (nI ta), .int (nI tl), .int (nI tk), .int vv, .ref an, .ref va])), (to, .inl (y 0, 228, .inl (upd ft 71 (nI j4))))] H := hP
                have hD : va_D A [(mrf, .inl (y 0, 3, .inl frf)), (mo, .inr (11, [.ref to, .ref ke, .ref ik, .ref mrf, .long mab, .long mbl, .ref ha, .ref r0, .ref mbr, .ref mbp, .ref mby, .int (nI bl), .int (nI ta), .int (nI tl), .int (nI tk), .int vv, .ref an, .ref va])), (to, .inl (y 0, 228, .inl (upd ft 71 (nI j4))))] := hD
                refine lv_aload_n hx hb dX11_note_87 rfl (lv_at hl 1 rfl) ?_
                refine va_get (D := D) (ci := 11) (v := .ref to) (C := RX11) (T := TX11) (N := 18) hx hb hts iw11 hown hK hP 1 rfl rfl 0 (by decide) fw2 (fun _ h9 => h9) rfl dX11_note_88 ?_
                refine lv_iload hx hb dX11_note_91 (lv_at hl 0 rfl) ?_
                refine lv_iconst (v := 1) hx hb dX11_note_93 (by decide) ?_
                refine lv_iadd hx hb dX11_note_94 ?_
                rw [show (nI 71) + 1 = nI (72) from nI_add 71 1]
                refine lv_iload_n hx hb dX11_note_95 rfl (lv_at hl 3 rfl) ?_
                refine va_iast hx hb hK hP hD hS 2 0 rfl rfl (vp_in_nI (by omega) (by decide)) dX11_note_96 (fun H locs hP hD hS => ?_)
                rw [nI_clamp (n := 72) (by omega)] at hP hD
                have hr220 : kr_t 228 (upd (upd ft 71 (nI j4)) 72 (nI j10)) := kr_up hr214 (kr_free (by unfold kr_a; omega) (by unfold kr_s; omega))
                have hk221 : (upd (upd ft 71 (nI j4)) 72 (nI j10)) 0 = (nI fi) := (pk_un (by decide)).trans hk215
                have hk222 : (upd (upd ft 71 (nI j4)) 72 (nI j10)) 1 = (nI gl) := (pk_un (by decide)).trans hk216
                have hk223 : (upd (upd ft 71 (nI j4)) 72 (nI j10)) 2 = (nI mi) := (pk_un (by decide)).trans hk217
                have hk224 : (upd (upd ft 71 (nI j4)) 72 (nI j10)) 3 = (nI 5) := (pk_un (by decide)).trans hk218
                have hk225 : (upd (upd ft 71 (nI j4)) 72 (nI j10)) 4 = (nI un) := (pk_un (by decide)).trans hk219
                have hP : va_P D vwCl [(mrf, .inl (y 0, 3, .inl frf)), (mo, .inr (11, [.ref to, .ref ke, .ref ik, .ref mrf, .long mab, .long mbl, .ref ha, .ref r0, .ref mbr, .ref mbp, .ref mby, .int (nI bl), .int (nI ta), .int (nI tl), .int (nI tk), .int vv, .ref an, .ref va])), (to, .inl (y 0, 228, .inl (upd (upd ft 71 (nI j4)) 72 (nI j10))))] H := hP
                have hD : va_D A [(mrf, .inl (y 0, 3, .inl frf)), (mo, .inr (11, [.ref to, .ref ke, .ref ik, .ref mrf, .long mab, .long mbl, .ref ha, .ref r0, .ref mbr, .ref mbp, .ref mby, .int (nI bl), .int (nI ta), .int (nI tl), .int (nI tk), .int vv, .ref an, .ref va])), (to, .inl (y 0, 228, .inl (upd (upd ft 71 (nI j4)) 72 (nI j10))))] := hD
                refine lv_aload_n hx hb dX11_note_97 rfl (lv_at hl 1 rfl) ?_
                refine va_get (D := D) (ci := 11) (v := .ref to) (C := RX11) (T := TX11) (N := 18) hx hb hts iw11 hown hK hP 1 rfl rfl 0 (by decide) fw2 (fun _ h9 => h9) rfl dX11_note_98 ?_
                refine lv_iload hx hb dX11_note_101 (lv_at hl 0 rfl) ?_
                refine lv_iconst (v := 2) hx hb dX11_note_103 (by decide) ?_
                refine lv_iadd hx hb dX11_note_104 ?_
                rw [show (nI 71) + 2 = nI (73) from nI_add 71 2]
                refine lv_iload_n hx hb dX11_note_105 rfl (lv_at hl 4 rfl) ?_
                refine va_iast hx hb hK hP hD hS 2 0 rfl rfl (vp_in_nI (by omega) (by decide)) dX11_note_106 (fun H locs hP hD hS => ?_)
                rw [nI_clamp (n := 73) (by omega)] at hP hD
                have hr226 : kr_t 228 (upd (upd (upd ft 71 (nI j4)) 72 (nI j10)) 73 (nI j16)) := kr_up hr220 (kr_free (by unfold kr_a; omega) (by unfold kr_s; omega))
                have hk227 : (upd (upd (upd ft 71 (nI j4)) 72 (nI j10)) 73 (nI j16)) 0 = (nI fi) := (pk_un (by decide)).trans hk221
                have hk228 : (upd (upd (upd ft 71 (nI j4)) 72 (nI j10)) 73 (nI j16)) 1 = (nI gl) := (pk_un (by decide)).trans hk222
                have hk229 : (upd (upd (upd ft 71 (nI j4)) 72 (nI j10)) 73 (nI j16)) 2 = (nI mi) := (pk_un (by decide)).trans hk223
                have hk230 : (upd (upd (upd ft 71 (nI j4)) 72 (nI j10)) 73 (nI j16)) 3 = (nI 5) := (pk_un (by decide)).trans hk224
                have hk231 : (upd (upd (upd ft 71 (nI j4)) 72 (nI j10)) 73 (nI j16)) 4 = (nI un) := (pk_un (by decide)).trans hk225
                have hP : va_P D vwCl [(mrf, .inl (y 0, 3, .inl frf)), (mo, .inr (11, [.ref to, .ref ke, .ref ik, .ref mrf, .long mab, .long mbl, .ref ha, .ref r0, .ref mbr, .ref mbp, .ref mby, .int (nI bl), .int (nI ta), .int (nI tl), .int (nI tk), .int vv, .ref an, .ref va])), (to, .inl (y 0, 228, .inl (upd (upd (upd ft 71 (nI j4)) 72 (nI j10)) 73 (nI j16))))] H := hP
                have hD : va_D A [(mrf, .inl (y 0, 3, .inl frf)), (mo, .inr (11, [.ref to, .ref ke, .ref ik, .ref mrf, .long mab, .long mbl, .ref ha, .ref r0, .ref mbr, .ref mbp, .ref mby, .int (nI bl), .int (nI ta), .int (nI tl), .int (nI tk), .int vv, .ref an, .ref va])), (to, .inl (y 0, 228, .inl (upd (upd (upd ft 71 (nI j4)) 72 (nI j10)) 73 (nI j16))))] := hD
                refine lv_aload_n hx hb dX11_note_107 rfl (lv_at hl 1 rfl) ?_
                refine va_get (D := D) (ci := 11) (v := .ref to) (C := RX11) (T := TX11) (N := 18) hx hb hts iw11 hown hK hP 1 rfl rfl 0 (by decide) fw2 (fun _ h9 => h9) rfl dX11_note_108 ?_
                refine lv_iload hx hb dX11_note_111 (lv_at hl 0 rfl) ?_
                refine lv_iconst (v := 3) hx hb dX11_note_113 (by decide) ?_
                refine lv_iadd hx hb dX11_note_114 ?_
                rw [show (nI 71) + 3 = nI (74) from nI_add 71 3]
                refine lv_iload hx hb dX11_note_115 (lv_at hl 5 rfl) ?_
                refine va_iast hx hb hK hP hD hS 2 0 rfl rfl (vp_in_nI (by omega) (by decide)) dX11_note_117 (fun H locs hP hD hS => ?_)
                rw [nI_clamp (n := 74) (by omega)] at hP hD
                have hr232 : kr_t 228 (upd (upd (upd (upd ft 71 (nI j4)) 72 (nI j10)) 73 (nI j16)) 74 (nI j22)) := kr_up hr226 (kr_free (by unfold kr_a; omega) (by unfold kr_s; omega))
                have hk233 : (upd (upd (upd (upd ft 71 (nI j4)) 72 (nI j10)) 73 (nI j16)) 74 (nI j22)) 0 = (nI fi) := (pk_un (by decide)).trans hk227
                have hk234 : (upd (upd (upd (upd ft 71 (nI j4)) 72 (nI j10)) 73 (nI j16)) 74 (nI j22)) 1 = (nI gl) := (pk_un (by decide)).trans hk228
                have hk235 : (upd (upd (upd (upd ft 71 (nI j4)) 72 (nI j10)) 73 (nI j16)) 74 (nI j22)) 2 = (nI mi) := (pk_un (by decide)).trans hk229
                have hk236 : (upd (upd (upd (upd ft 71 (nI j4)) 72 (nI j10)) 73 (nI j16)) 74 (nI j22)) 3 = (nI 5) := (pk_un (by decide)).trans hk230
                have hk237 : (upd (upd (upd (upd ft 71 (nI j4)) 72 (nI j10)) 73 (nI j16)) 74 (nI j22)) 4 = (nI un) := (pk_un (by decide)).trans hk231
                have hP : va_P D vwCl [(mrf, .inl (y 0, 3, .inl frf)), (mo, .inr (11, [.ref to, .ref ke, .ref ik, .ref mrf, .long mab, .long mbl, .ref ha, .ref r0, .ref mbr, .ref mbp, .ref mby, .int (nI bl), .int (nI ta), .int (nI tl), .int (nI tk), .int vv, .ref an, .ref va])), (to, .inl (y 0, 228, .inl (upd (upd (upd (upd ft 71 (nI j4)) 72 (nI j10)) 73 (nI j16)) 74 (nI j22))))] H := hP
                have hD : va_D A [(mrf, .inl (y 0, 3, .inl frf)), (mo, .inr (11, [.ref to, .ref ke, .ref ik, .ref mrf, .long mab, .long mbl, .ref ha, .ref r0, .ref mbr, .ref mbp, .ref mby, .int (nI bl), .int (nI ta), .int (nI tl), .int (nI tk), .int vv, .ref an, .ref va])), (to, .inl (y 0, 228, .inl (upd (upd (upd (upd ft 71 (nI j4)) 72 (nI j10)) 73 (nI j16)) 74 (nI j22))))] := hD
                refine lv_aload_n hx hb dX11_note_118 rfl (lv_at hl 1 rfl) ?_
                refine va_get (D := D) (ci := 11) (v := .ref to) (C := RX11) (T := TX11) (N := 18) hx hb hts iw11 hown hK hP 1 rfl rfl 0 (by decide) fw2 (fun _ h9 => h9) rfl dX11_note_119 ?_
                refine lv_iload hx hb dX11_note_122 (lv_at hl 0 rfl) ?_
                refine lv_iconst (v := 4) hx hb dX11_note_124 (by decide) ?_
                refine lv_iadd hx hb dX11_note_125 ?_
                rw [show (nI 71) + 4 = nI (75) from nI_add 71 4]
                refine lv_iload hx hb dX11_note_126 (lv_at hl 6 rfl) ?_
                refine va_iast hx hb hK hP hD hS 2 0 rfl rfl (vp_in_nI (by omega) (by decide)) dX11_note_128 (fun H locs hP hD hS => ?_)
                rw [nI_clamp (n := 75) (by omega)] at hP hD
                have hr238 : kr_t 228 (upd (upd (upd (upd (upd ft 71 (nI j4)) 72 (nI j10)) 73 (nI j16)) 74 (nI j22)) 75 (nI j28)) := kr_up hr232 (kr_free (by unfold kr_a; omega) (by unfold kr_s; omega))
                have hk239 : (upd (upd (upd (upd (upd ft 71 (nI j4)) 72 (nI j10)) 73 (nI j16)) 74 (nI j22)) 75 (nI j28)) 0 = (nI fi) := (pk_un (by decide)).trans hk233
                have hk240 : (upd (upd (upd (upd (upd ft 71 (nI j4)) 72 (nI j10)) 73 (nI j16)) 74 (nI j22)) 75 (nI j28)) 1 = (nI gl) := (pk_un (by decide)).trans hk234
                have hk241 : (upd (upd (upd (upd (upd ft 71 (nI j4)) 72 (nI j10)) 73 (nI j16)) 74 (nI j22)) 75 (nI j28)) 2 = (nI mi) := (pk_un (by decide)).trans hk235
                have hk242 : (upd (upd (upd (upd (upd ft 71 (nI j4)) 72 (nI j10)) 73 (nI j16)) 74 (nI j22)) 75 (nI j28)) 3 = (nI 5) := (pk_un (by decide)).trans hk236
                have hk243 : (upd (upd (upd (upd (upd ft 71 (nI j4)) 72 (nI j10)) 73 (nI j16)) 74 (nI j22)) 75 (nI j28)) 4 = (nI un) := (pk_un (by decide)).trans hk237
                have hP : va_P D vwCl [(mrf, .inl (y 0, 3, .inl frf)), (mo, .inr (11, [.ref to, .ref ke, .ref ik, .ref mrf, .long mab, .long mbl, .ref ha, .ref r0, .ref mbr, .ref mbp, .ref mby, .int (nI bl), .int (nI ta), .int (nI tl), .int (nI tk), .int vv, .ref an, .ref va])), (to, .inl (y 0, 228, .inl (upd (upd (upd (upd (upd ft 71 (nI j4)) 72 (nI j10)) 73 (nI j16)) 74 (nI j22)) 75 (nI j28))))] H := hP
                have hD : va_D A [(mrf, .inl (y 0, 3, .inl frf)), (mo, .inr (11, [.ref to, .ref ke, .ref ik, .ref mrf, .long mab, .long mbl, .ref ha, .ref r0, .ref mbr, .ref mbp, .ref mby, .int (nI bl), .int (nI ta), .int (nI tl), .int (nI tk), .int vv, .ref an, .ref va])), (to, .inl (y 0, 228, .inl (upd (upd (upd (upd (upd ft 71 (nI j4)) 72 (nI j10)) 73 (nI j16)) 74 (nI j22)) 75 (nI j28))))] := hD
                refine lv_aload_n hx hb dX11_note_129 rfl (lv_at hl 1 rfl) ?_
                refine va_get (D := D) (ci := 11) (v := .ref to) (C := RX11) (T := TX11) (N := 18) hx hb hts iw11 hown hK hP 1 rfl rfl 0 (by decide) fw2 (fun _ h9 => h9) rfl dX11_note_130 ?_
                refine lv_iconst (v := 3) hx hb dX11_note_133 (by decide) ?_
                refine lv_dup2_11 hx hb dX11_note_134 rfl rfl ?_
                refine va_iald hx hb hK hP 2 0 rfl rfl (by unfold vp_in; decide) dX11_note_135 ?_
                rw [show ((3 : Int32)).toNatClampNeg = 3 from rfl]
                rw [show ((upd (upd (upd (upd (upd ft 71 (nI j4)) 72 (nI j10)) 73 (nI j16)) 74 (nI j22)) 75 (nI j28)) 3) = (nI 5) from hk242]
                refine lv_iconst (v := 1) hx hb dX11_note_136 (by decide) ?_
                refine lv_iadd hx hb dX11_note_137 ?_
                rw [show (nI 5) + 1 = nI (6) from nI_add 5 1]
                refine va_iast hx hb hK hP hD hS 2 0 rfl rfl (by unfold vp_in; decide) dX11_note_138 (fun H locs hP hD hS => ?_)
                rw [show ((3 : Int32)).toNatClampNeg = 3 from rfl] at hP hD
                have hr244 : kr_t 228 (upd (upd (upd (upd (upd (upd ft 71 (nI j4)) 72 (nI j10)) 73 (nI j16)) 74 (nI j22)) 75 (nI j28)) 3 (nI 6)) := kr_up hr238 (kr_free (by unfold kr_a; omega) (by unfold kr_s; omega))
                have hk245 : (upd (upd (upd (upd (upd (upd ft 71 (nI j4)) 72 (nI j10)) 73 (nI j16)) 74 (nI j22)) 75 (nI j28)) 3 (nI 6)) 0 = (nI fi) := (pk_un (by decide)).trans hk239
                have hk246 : (upd (upd (upd (upd (upd (upd ft 71 (nI j4)) 72 (nI j10)) 73 (nI j16)) 74 (nI j22)) 75 (nI j28)) 3 (nI 6)) 1 = (nI gl) := (pk_un (by decide)).trans hk240
                have hk247 : (upd (upd (upd (upd (upd (upd ft 71 (nI j4)) 72 (nI j10)) 73 (nI j16)) 74 (nI j22)) 75 (nI j28)) 3 (nI 6)) 2 = (nI mi) := (pk_un (by decide)).trans hk241
                have hk248 : (upd (upd (upd (upd (upd (upd ft 71 (nI j4)) 72 (nI j10)) 73 (nI j16)) 74 (nI j22)) 75 (nI j28)) 3 (nI 6)) 4 = (nI un) := (pk_un (by decide)).trans hk243
                have hk249 : (upd (upd (upd (upd (upd (upd ft 71 (nI j4)) 72 (nI j10)) 73 (nI j16)) 74 (nI j22)) 75 (nI j28)) 3 (nI 6)) 3 = (nI 6) := pk_us
                have hP : va_P D vwCl [(mrf, .inl (y 0, 3, .inl frf)), (mo, .inr (11, [.ref to, .ref ke, .ref ik, .ref mrf, .long mab, .long mbl, .ref ha, .ref r0, .ref mbr, .ref mbp, .ref mby, .int (nI bl), .int (nI ta), .int (nI tl), .int (nI tk), .int vv, .ref an, .ref va])), (to, .inl (y 0, 228, .inl (upd (upd (upd (upd (upd (upd ft 71 (nI j4)) 72 (nI j10)) 73 (nI j16)) 74 (nI j22)) 75 (nI j28)) 3 (nI 6))))] H := hP
                have hD : va_D A [(mrf, .inl (y 0, 3, .inl frf)), (mo, .inr (11, [.ref to, .ref ke, .ref ik, .ref mrf, .long mab, .long mbl, .ref ha, .ref r0, .ref mbr, .ref mbp, .ref mby, .int (nI bl), .int (nI ta), .int (nI tl), .int (nI tk), .int vv, .ref an, .ref va])), (to, .inl (y 0, 228, .inl (upd (upd (upd (upd (upd (upd ft 71 (nI j4)) 72 (nI j10)) 73 (nI j16)) 74 (nI j22)) 75 (nI j28)) 3 (nI 6))))] := hD
                refine lv_aload_n hx hb dX11_note_139 rfl (lv_at hl 1 rfl) ?_
                refine va_get (D := D) (ci := 11) (v := .ref to) (C := RX11) (T := TX11) (N := 18) hx hb hts iw11 hown hK hP 1 rfl rfl 0 (by decide) fw2 (fun _ h9 => h9) rfl dX11_note_140 ?_
                refine lv_iconst (v := 3) hx hb dX11_note_143 (by decide) ?_
                refine va_iald hx hb hK hP 2 0 rfl rfl (by unfold vp_in; decide) dX11_note_144 ?_
                rw [show ((3 : Int32)).toNatClampNeg = 3 from rfl]
                rw [show ((upd (upd (upd (upd (upd (upd ft 71 (nI j4)) 72 (nI j10)) 73 (nI j16)) 74 (nI j22)) 75 (nI j28)) 3 (nI 6)) 3) = (nI 6) from hk249]
                exact W.iret (v := (nI 6)) hx hb hr (fun tZ ht hW => ⟨⟨(nI 6), (frf, (upd (upd (upd (upd (upd (upd ft 71 (nI j4)) 72 (nI j10)) 73 (nI j16)) 74 (nI j22)) 75 (nI j28)) 3 (nI 6)), 6), rfl, ⟨hr244, hk245, hk246, hk247, by first | omega | (dsimp only; omega), hk249, hk248, by first | omega | (dsimp only; omega)⟩, by rw [ht]; exact hP.sub [1, 0, 2] rfl, hD.sub [1, 0, 2] (by decide) rfl⟩, hS.F ht⟩) hS.2.2 dX11_note_145
            · skip
              have h33 : no = 6 := (nI_eq (a := no) (b := 6) (by omega) (by omega)).mp h33
              refine lv_aload_n hx hb dX11_note_61 rfl (lv_at hl 0 rfl) ?_
              have hs250 : kw_Split [(mrf, .inl (y 0, 3, .inl frf)), (mo, .inr (11, [.ref to, .ref ke, .ref ik, .ref mrf, .long mab, .long mbl, .ref ha, .ref r0, .ref mbr, .ref mbp, .ref mby, .int (nI bl), .int (nI ta), .int (nI tl), .int (nI tk), .int vv, .ref an, .ref va])), (to, .inl (y 0, 228, .inl ft))] [(mo, .inr (11, [.ref to, .ref ke, .ref ik, .ref mrf, .long mab, .long mbl, .ref ha, .ref r0, .ref mbr, .ref mbp, .ref mby, .int (nI bl), .int (nI ta), .int (nI tl), .int (nI tk), .int vv, .ref an, .ref va])), (mrf, .inl (y 0, 3, .inl frf))] [(to, .inl (y 0, 228, .inl ft))] [1, 0] [2] := ⟨rfl, rfl, rfl, rfl, rfl, by decide⟩
              refine kw_go_i hs250 hP hD hS hA (va_runV (As := []) (rest := []) ⟨hx, hb, hml, hown, hts⟩ (gr_full l D y mo to ke ik mrf ha r0 mbr mbp mby an va mab mbl bl ta tl tk vv frf  _) (cwV 0 hts gX11_note_X11_full rfl rfl rfl (by decide +kernel) ⟨Nat.le_of_ble_eq_true rfl, Nat.le_of_ble_eq_true rfl⟩) (kw_PreV (ci := 11) (q0 := 1) hs250 hP hD hK hN rfl rfl) rfl rfl hl.1 rfl (lv_room (Nat.le_of_ble_eq_true rfl)) dX11_note_62 ⟨Nat.le_of_ble_eq_true rfl, Nat.le_of_ble_eq_true rfl⟩) (fun r251 u252 H locs hq hP hD hS => ?_)
              obtain rfl := hq
              have hP : va_P D vwCl [(to, .inl (y 0, 228, .inl ft)), (mo, .inr (11, [.ref to, .ref ke, .ref ik, .ref mrf, .long mab, .long mbl, .ref ha, .ref r0, .ref mbr, .ref mbp, .ref mby, .int (nI bl), .int (nI ta), .int (nI tl), .int (nI tk), .int vv, .ref an, .ref va])), (mrf, .inl (y 0, 3, .inl (upd frf 2 ((frf 2) + 1))))] H := hP
              have hD : va_D A [(to, .inl (y 0, 228, .inl ft)), (mo, .inr (11, [.ref to, .ref ke, .ref ik, .ref mrf, .long mab, .long mbl, .ref ha, .ref r0, .ref mbr, .ref mbp, .ref mby, .int (nI bl), .int (nI ta), .int (nI tl), .int (nI tk), .int vv, .ref an, .ref va])), (mrf, .inl (y 0, 3, .inl (upd frf 2 ((frf 2) + 1))))] := hD
              exact W.iret (v := (-4)) hx hb hr (fun tZ ht hW => ⟨⟨(-4), ((upd frf 2 ((frf 2) + 1)), ft, no), rfl, ⟨hkt, hk0_, hk1_, hk2_, by first | omega | (dsimp only; omega), hk3_, hk4_, by first | omega | (dsimp only; omega)⟩, by rw [ht]; exact hP.sub [1, 2, 0] rfl, hD.sub [1, 2, 0] (by decide) rfl⟩, hS.F ht⟩) hS.2.2 dX11_note_65
          · skip
            have hP : va_P D vwCl [(mrf, .inl (y 0, 3, .inl frf)), (mo, .inr (11, [.ref to, .ref ke, .ref ik, .ref mrf, .long mab, .long mbl, .ref ha, .ref r0, .ref mbr, .ref mbp, .ref mby, .int (nI bl), .int (nI ta), .int (nI tl), .int (nI tk), .int vv, .ref an, .ref va])), (to, .inl (y 0, 228, .inl ft))] H := hP
            have hD : va_D A [(mrf, .inl (y 0, 3, .inl frf)), (mo, .inr (11, [.ref to, .ref ke, .ref ik, .ref mrf, .long mab, .long mbl, .ref ha, .ref r0, .ref mbr, .ref mbp, .ref mby, .int (nI bl), .int (nI ta), .int (nI tl), .int (nI tk), .int vv, .ref an, .ref va])), (to, .inl (y 0, 228, .inl ft))] := hD
            refine lv_if_ne (tgt := 50) hx hb dX11_note_40 (by decide) (fun h9 => absurd h9 (by decide)) (fun _ => ?_)
            refine lv_aload_n hx hb dX11_note_43 rfl (lv_at hl 0 rfl) ?_
            refine lv_bipush (v := (-2)) hx hb dX11_note_44 (by decide) ?_
            have hs253 : kw_Split [(mrf, .inl (y 0, 3, .inl frf)), (mo, .inr (11, [.ref to, .ref ke, .ref ik, .ref mrf, .long mab, .long mbl, .ref ha, .ref r0, .ref mbr, .ref mbp, .ref mby, .int (nI bl), .int (nI ta), .int (nI tl), .int (nI tk), .int vv, .ref an, .ref va])), (to, .inl (y 0, 228, .inl ft))] [(mo, .inr (11, [.ref to, .ref ke, .ref ik, .ref mrf, .long mab, .long mbl, .ref ha, .ref r0, .ref mbr, .ref mbp, .ref mby, .int (nI bl), .int (nI ta), .int (nI tl), .int (nI tk), .int vv, .ref an, .ref va])), (mrf, .inl (y 0, 3, .inl frf))] [(to, .inl (y 0, 228, .inl ft))] [1, 0] [2] := ⟨rfl, rfl, rfl, rfl, rfl, by decide⟩
            refine kw_go_i hs253 hP hD hS hA (va_runV (As := [.int (-2)]) (rest := []) ⟨hx, hb, hml, hown, hts⟩ (gr_bad l D y mo to ke ik mrf ha r0 mbr mbp mby an va mab mbl bl ta tl tk vv frf (-2)  _) (cwV 1 hts gX11_note_X11_bad rfl rfl rfl (by decide +kernel) ⟨Nat.le_of_ble_eq_true rfl, Nat.le_of_ble_eq_true rfl⟩) (kw_PreV (ci := 11) (q0 := 1) hs253 hP hD hK hN rfl rfl) rfl rfl hl.1 rfl (lv_room (Nat.le_of_ble_eq_true rfl)) dX11_note_46 ⟨Nat.le_of_ble_eq_true rfl, Nat.le_of_ble_eq_true rfl⟩) (fun r254 u255 H locs hq hP hD hS => ?_)
            obtain rfl := hq
            have hP : va_P D vwCl [(to, .inl (y 0, 228, .inl ft)), (mo, .inr (11, [.ref to, .ref ke, .ref ik, .ref mrf, .long mab, .long mbl, .ref ha, .ref r0, .ref mbr, .ref mbp, .ref mby, .int (nI bl), .int (nI ta), .int (nI tl), .int (nI tk), .int vv, .ref an, .ref va])), (mrf, .inl (y 0, 3, .inl (upd frf 0 ((frf 0) + 1))))] H := hP
            have hD : va_D A [(to, .inl (y 0, 228, .inl ft)), (mo, .inr (11, [.ref to, .ref ke, .ref ik, .ref mrf, .long mab, .long mbl, .ref ha, .ref r0, .ref mbr, .ref mbp, .ref mby, .int (nI bl), .int (nI ta), .int (nI tl), .int (nI tk), .int vv, .ref an, .ref va])), (mrf, .inl (y 0, 3, .inl (upd frf 0 ((frf 0) + 1))))] := hD
            exact W.iret (v := (-2)) hx hb hr (fun tZ ht hW => ⟨⟨(-2), ((upd frf 0 ((frf 0) + 1)), ft, no), rfl, ⟨hkt, hk0_, hk1_, hk2_, by first | omega | (dsimp only; omega), hk3_, hk4_, by first | omega | (dsimp only; omega)⟩, by rw [ht]; exact hP.sub [1, 2, 0] rfl, hD.sub [1, 2, 0] (by decide) rfl⟩, hS.F ht⟩) hS.2.2 dX11_note_49
        · skip
          have hP : va_P D vwCl [(mrf, .inl (y 0, 3, .inl frf)), (mo, .inr (11, [.ref to, .ref ke, .ref ik, .ref mrf, .long mab, .long mbl, .ref ha, .ref r0, .ref mbr, .ref mbp, .ref mby, .int (nI bl), .int (nI ta), .int (nI tl), .int (nI tk), .int vv, .ref an, .ref va])), (to, .inl (y 0, 228, .inl ft))] H := hP
          have hD : va_D A [(mrf, .inl (y 0, 3, .inl frf)), (mo, .inr (11, [.ref to, .ref ke, .ref ik, .ref mrf, .long mab, .long mbl, .ref ha, .ref r0, .ref mbr, .ref mbp, .ref mby, .int (nI bl), .int (nI ta), .int (nI tl), .int (nI tk), .int vv, .ref an, .ref va])), (to, .inl (y 0, 228, .inl ft))] := hD
          refine lv_if_eq (tgt := 43) hx hb dX11_note_27 (by decide) (fun _ => ?_) (fun h9 => absurd h9 (by decide))
          refine lv_aload_n hx hb dX11_note_43 rfl (lv_at hl 0 rfl) ?_
          refine lv_bipush (v := (-2)) hx hb dX11_note_44 (by decide) ?_
          have hs256 : kw_Split [(mrf, .inl (y 0, 3, .inl frf)), (mo, .inr (11, [.ref to, .ref ke, .ref ik, .ref mrf, .long mab, .long mbl, .ref ha, .ref r0, .ref mbr, .ref mbp, .ref mby, .int (nI bl), .int (nI ta), .int (nI tl), .int (nI tk), .int vv, .ref an, .ref va])), (to, .inl (y 0, 228, .inl ft))] [(mo, .inr (11, [.ref to, .ref ke, .ref ik, .ref mrf, .long mab, .long mbl, .ref ha, .ref r0, .ref mbr, .ref mbp, .ref mby, .int (nI bl), .int (nI ta), .int (nI tl), .int (nI tk), .int vv, .ref an, .ref va])), (mrf, .inl (y 0, 3, .inl frf))] [(to, .inl (y 0, 228, .inl ft))] [1, 0] [2] := ⟨rfl, rfl, rfl, rfl, rfl, by decide⟩
          refine kw_go_i hs256 hP hD hS hA (va_runV (As := [.int (-2)]) (rest := []) ⟨hx, hb, hml, hown, hts⟩ (gr_bad l D y mo to ke ik mrf ha r0 mbr mbp mby an va mab mbl bl ta tl tk vv frf (-2)  _) (cwV 1 hts gX11_note_X11_bad rfl rfl rfl (by decide +kernel) ⟨Nat.le_of_ble_eq_true rfl, Nat.le_of_ble_eq_true rfl⟩) (kw_PreV (ci := 11) (q0 := 1) hs256 hP hD hK hN rfl rfl) rfl rfl hl.1 rfl (lv_room (Nat.le_of_ble_eq_true rfl)) dX11_note_46 ⟨Nat.le_of_ble_eq_true rfl, Nat.le_of_ble_eq_true rfl⟩) (fun r257 u258 H locs hq hP hD hS => ?_)
          obtain rfl := hq
          have hP : va_P D vwCl [(to, .inl (y 0, 228, .inl ft)), (mo, .inr (11, [.ref to, .ref ke, .ref ik, .ref mrf, .long mab, .long mbl, .ref ha, .ref r0, .ref mbr, .ref mbp, .ref mby, .int (nI bl), .int (nI ta), .int (nI tl), .int (nI tk), .int vv, .ref an, .ref va])), (mrf, .inl (y 0, 3, .inl (upd frf 0 ((frf 0) + 1))))] H := hP
          have hD : va_D A [(to, .inl (y 0, 228, .inl ft)), (mo, .inr (11, [.ref to, .ref ke, .ref ik, .ref mrf, .long mab, .long mbl, .ref ha, .ref r0, .ref mbr, .ref mbp, .ref mby, .int (nI bl), .int (nI ta), .int (nI tl), .int (nI tk), .int vv, .ref an, .ref va])), (mrf, .inl (y 0, 3, .inl (upd frf 0 ((frf 0) + 1))))] := hD
          exact W.iret (v := (-2)) hx hb hr (fun tZ ht hW => ⟨⟨(-2), ((upd frf 0 ((frf 0) + 1)), ft, no), rfl, ⟨hkt, hk0_, hk1_, hk2_, by first | omega | (dsimp only; omega), hk3_, hk4_, by first | omega | (dsimp only; omega)⟩, by rw [ht]; exact hP.sub [1, 2, 0] rfl, hD.sub [1, 2, 0] (by decide) rfl⟩, hS.F ht⟩) hS.2.2 dX11_note_49
      · skip
        have hP : va_P D vwCl [(mrf, .inl (y 0, 3, .inl frf)), (mo, .inr (11, [.ref to, .ref ke, .ref ik, .ref mrf, .long mab, .long mbl, .ref ha, .ref r0, .ref mbr, .ref mbp, .ref mby, .int (nI bl), .int (nI ta), .int (nI tl), .int (nI tk), .int vv, .ref an, .ref va])), (to, .inl (y 0, 228, .inl ft))] H := hP
        have hD : va_D A [(mrf, .inl (y 0, 3, .inl frf)), (mo, .inr (11, [.ref to, .ref ke, .ref ik, .ref mrf, .long mab, .long mbl, .ref ha, .ref r0, .ref mbr, .ref mbp, .ref mby, .int (nI bl), .int (nI ta), .int (nI tl), .int (nI tk), .int vv, .ref an, .ref va])), (to, .inl (y 0, 228, .inl ft))] := hD
        refine lv_if_eq (tgt := 43) hx hb dX11_note_19 (by decide) (fun _ => ?_) (fun h9 => absurd h9 (by decide))
        refine lv_aload_n hx hb dX11_note_43 rfl (lv_at hl 0 rfl) ?_
        refine lv_bipush (v := (-2)) hx hb dX11_note_44 (by decide) ?_
        have hs259 : kw_Split [(mrf, .inl (y 0, 3, .inl frf)), (mo, .inr (11, [.ref to, .ref ke, .ref ik, .ref mrf, .long mab, .long mbl, .ref ha, .ref r0, .ref mbr, .ref mbp, .ref mby, .int (nI bl), .int (nI ta), .int (nI tl), .int (nI tk), .int vv, .ref an, .ref va])), (to, .inl (y 0, 228, .inl ft))] [(mo, .inr (11, [.ref to, .ref ke, .ref ik, .ref mrf, .long mab, .long mbl, .ref ha, .ref r0, .ref mbr, .ref mbp, .ref mby, .int (nI bl), .int (nI ta), .int (nI tl), .int (nI tk), .int vv, .ref an, .ref va])), (mrf, .inl (y 0, 3, .inl frf))] [(to, .inl (y 0, 228, .inl ft))] [1, 0] [2] := ⟨rfl, rfl, rfl, rfl, rfl, by decide⟩
        refine kw_go_i hs259 hP hD hS hA (va_runV (As := [.int (-2)]) (rest := []) ⟨hx, hb, hml, hown, hts⟩ (gr_bad l D y mo to ke ik mrf ha r0 mbr mbp mby an va mab mbl bl ta tl tk vv frf (-2)  _) (cwV 1 hts gX11_note_X11_bad rfl rfl rfl (by decide +kernel) ⟨Nat.le_of_ble_eq_true rfl, Nat.le_of_ble_eq_true rfl⟩) (kw_PreV (ci := 11) (q0 := 1) hs259 hP hD hK hN rfl rfl) rfl rfl hl.1 rfl (lv_room (Nat.le_of_ble_eq_true rfl)) dX11_note_46 ⟨Nat.le_of_ble_eq_true rfl, Nat.le_of_ble_eq_true rfl⟩) (fun r260 u261 H locs hq hP hD hS => ?_)
        obtain rfl := hq
        have hP : va_P D vwCl [(to, .inl (y 0, 228, .inl ft)), (mo, .inr (11, [.ref to, .ref ke, .ref ik, .ref mrf, .long mab, .long mbl, .ref ha, .ref r0, .ref mbr, .ref mbp, .ref mby, .int (nI bl), .int (nI ta), .int (nI tl), .int (nI tk), .int vv, .ref an, .ref va])), (mrf, .inl (y 0, 3, .inl (upd frf 0 ((frf 0) + 1))))] H := hP
        have hD : va_D A [(to, .inl (y 0, 228, .inl ft)), (mo, .inr (11, [.ref to, .ref ke, .ref ik, .ref mrf, .long mab, .long mbl, .ref ha, .ref r0, .ref mbr, .ref mbp, .ref mby, .int (nI bl), .int (nI ta), .int (nI tl), .int (nI tk), .int vv, .ref an, .ref va])), (mrf, .inl (y 0, 3, .inl (upd frf 0 ((frf 0) + 1))))] := hD
        exact W.iret (v := (-2)) hx hb hr (fun tZ ht hW => ⟨⟨(-2), ((upd frf 0 ((frf 0) + 1)), ft, no), rfl, ⟨hkt, hk0_, hk1_, hk2_, by first | omega | (dsimp only; omega), hk3_, hk4_, by first | omega | (dsimp only; omega)⟩, by rw [ht]; exact hP.sub [1, 2, 0] rfl, hD.sub [1, 2, 0] (by decide) rfl⟩, hS.F ht⟩) hS.2.2 dX11_note_49
    · skip
      have hP : va_P D vwCl [(mrf, .inl (y 0, 3, .inl frf)), (mo, .inr (11, [.ref to, .ref ke, .ref ik, .ref mrf, .long mab, .long mbl, .ref ha, .ref r0, .ref mbr, .ref mbp, .ref mby, .int (nI bl), .int (nI ta), .int (nI tl), .int (nI tk), .int vv, .ref an, .ref va])), (to, .inl (y 0, 228, .inl ft))] H := hP
      have hD : va_D A [(mrf, .inl (y 0, 3, .inl frf)), (mo, .inr (11, [.ref to, .ref ke, .ref ik, .ref mrf, .long mab, .long mbl, .ref ha, .ref r0, .ref mbr, .ref mbp, .ref mby, .int (nI bl), .int (nI ta), .int (nI tl), .int (nI tk), .int vv, .ref an, .ref va])), (to, .inl (y 0, 228, .inl ft))] := hD
      refine lv_if_eq (tgt := 43) hx hb dX11_note_12 (by decide) (fun _ => ?_) (fun h9 => absurd h9 (by decide))
      refine lv_aload_n hx hb dX11_note_43 rfl (lv_at hl 0 rfl) ?_
      refine lv_bipush (v := (-2)) hx hb dX11_note_44 (by decide) ?_
      have hs262 : kw_Split [(mrf, .inl (y 0, 3, .inl frf)), (mo, .inr (11, [.ref to, .ref ke, .ref ik, .ref mrf, .long mab, .long mbl, .ref ha, .ref r0, .ref mbr, .ref mbp, .ref mby, .int (nI bl), .int (nI ta), .int (nI tl), .int (nI tk), .int vv, .ref an, .ref va])), (to, .inl (y 0, 228, .inl ft))] [(mo, .inr (11, [.ref to, .ref ke, .ref ik, .ref mrf, .long mab, .long mbl, .ref ha, .ref r0, .ref mbr, .ref mbp, .ref mby, .int (nI bl), .int (nI ta), .int (nI tl), .int (nI tk), .int vv, .ref an, .ref va])), (mrf, .inl (y 0, 3, .inl frf))] [(to, .inl (y 0, 228, .inl ft))] [1, 0] [2] := ⟨rfl, rfl, rfl, rfl, rfl, by decide⟩
      refine kw_go_i hs262 hP hD hS hA (va_runV (As := [.int (-2)]) (rest := []) ⟨hx, hb, hml, hown, hts⟩ (gr_bad l D y mo to ke ik mrf ha r0 mbr mbp mby an va mab mbl bl ta tl tk vv frf (-2)  _) (cwV 1 hts gX11_note_X11_bad rfl rfl rfl (by decide +kernel) ⟨Nat.le_of_ble_eq_true rfl, Nat.le_of_ble_eq_true rfl⟩) (kw_PreV (ci := 11) (q0 := 1) hs262 hP hD hK hN rfl rfl) rfl rfl hl.1 rfl (lv_room (Nat.le_of_ble_eq_true rfl)) dX11_note_46 ⟨Nat.le_of_ble_eq_true rfl, Nat.le_of_ble_eq_true rfl⟩) (fun r263 u264 H locs hq hP hD hS => ?_)
      obtain rfl := hq
      have hP : va_P D vwCl [(to, .inl (y 0, 228, .inl ft)), (mo, .inr (11, [.ref to, .ref ke, .ref ik, .ref mrf, .long mab, .long mbl, .ref ha, .ref r0, .ref mbr, .ref mbp, .ref mby, .int (nI bl), .int (nI ta), .int (nI tl), .int (nI tk), .int vv, .ref an, .ref va])), (mrf, .inl (y 0, 3, .inl (upd frf 0 ((frf 0) + 1))))] H := hP
      have hD : va_D A [(to, .inl (y 0, 228, .inl ft)), (mo, .inr (11, [.ref to, .ref ke, .ref ik, .ref mrf, .long mab, .long mbl, .ref ha, .ref r0, .ref mbr, .ref mbp, .ref mby, .int (nI bl), .int (nI ta), .int (nI tl), .int (nI tk), .int vv, .ref an, .ref va])), (mrf, .inl (y 0, 3, .inl (upd frf 0 ((frf 0) + 1))))] := hD
      exact W.iret (v := (-2)) hx hb hr (fun tZ ht hW => ⟨⟨(-2), ((upd frf 0 ((frf 0) + 1)), ft, no), rfl, ⟨hkt, hk0_, hk1_, hk2_, by first | omega | (dsimp only; omega), hk3_, hk4_, by first | omega | (dsimp only; omega)⟩, by rw [ht]; exact hP.sub [1, 2, 0] rfl, hD.sub [1, 2, 0] (by decide) rfl⟩, hS.F ht⟩) hS.2.2 dX11_note_49
  · skip
    have hP : va_P D vwCl [(mrf, .inl (y 0, 3, .inl frf)), (mo, .inr (11, [.ref to, .ref ke, .ref ik, .ref mrf, .long mab, .long mbl, .ref ha, .ref r0, .ref mbr, .ref mbp, .ref mby, .int (nI bl), .int (nI ta), .int (nI tl), .int (nI tk), .int vv, .ref an, .ref va])), (to, .inl (y 0, 228, .inl ft))] H := hP
    have hD : va_D A [(mrf, .inl (y 0, 3, .inl frf)), (mo, .inr (11, [.ref to, .ref ke, .ref ik, .ref mrf, .long mab, .long mbl, .ref ha, .ref r0, .ref mbr, .ref mbp, .ref mby, .int (nI bl), .int (nI ta), .int (nI tl), .int (nI tk), .int vv, .ref an, .ref va])), (to, .inl (y 0, 228, .inl ft))] := hD
    refine lv_if_eq (tgt := 43) hx hb dX11_note_5 (by decide) (fun _ => ?_) (fun h9 => absurd h9 (by decide))
    refine lv_aload_n hx hb dX11_note_43 rfl (lv_at hl 0 rfl) ?_
    refine lv_bipush (v := (-2)) hx hb dX11_note_44 (by decide) ?_
    have hs265 : kw_Split [(mrf, .inl (y 0, 3, .inl frf)), (mo, .inr (11, [.ref to, .ref ke, .ref ik, .ref mrf, .long mab, .long mbl, .ref ha, .ref r0, .ref mbr, .ref mbp, .ref mby, .int (nI bl), .int (nI ta), .int (nI tl), .int (nI tk), .int vv, .ref an, .ref va])), (to, .inl (y 0, 228, .inl ft))] [(mo, .inr (11, [.ref to, .ref ke, .ref ik, .ref mrf, .long mab, .long mbl, .ref ha, .ref r0, .ref mbr, .ref mbp, .ref mby, .int (nI bl), .int (nI ta), .int (nI tl), .int (nI tk), .int vv, .ref an, .ref va])), (mrf, .inl (y 0, 3, .inl frf))] [(to, .inl (y 0, 228, .inl ft))] [1, 0] [2] := ⟨rfl, rfl, rfl, rfl, rfl, by decide⟩
    refine kw_go_i hs265 hP hD hS hA (va_runV (As := [.int (-2)]) (rest := []) ⟨hx, hb, hml, hown, hts⟩ (gr_bad l D y mo to ke ik mrf ha r0 mbr mbp mby an va mab mbl bl ta tl tk vv frf (-2)  _) (cwV 1 hts gX11_note_X11_bad rfl rfl rfl (by decide +kernel) ⟨Nat.le_of_ble_eq_true rfl, Nat.le_of_ble_eq_true rfl⟩) (kw_PreV (ci := 11) (q0 := 1) hs265 hP hD hK hN rfl rfl) rfl rfl hl.1 rfl (lv_room (Nat.le_of_ble_eq_true rfl)) dX11_note_46 ⟨Nat.le_of_ble_eq_true rfl, Nat.le_of_ble_eq_true rfl⟩) (fun r266 u267 H locs hq hP hD hS => ?_)
    obtain rfl := hq
    have hP : va_P D vwCl [(to, .inl (y 0, 228, .inl ft)), (mo, .inr (11, [.ref to, .ref ke, .ref ik, .ref mrf, .long mab, .long mbl, .ref ha, .ref r0, .ref mbr, .ref mbp, .ref mby, .int (nI bl), .int (nI ta), .int (nI tl), .int (nI tk), .int vv, .ref an, .ref va])), (mrf, .inl (y 0, 3, .inl (upd frf 0 ((frf 0) + 1))))] H := hP
    have hD : va_D A [(to, .inl (y 0, 228, .inl ft)), (mo, .inr (11, [.ref to, .ref ke, .ref ik, .ref mrf, .long mab, .long mbl, .ref ha, .ref r0, .ref mbr, .ref mbp, .ref mby, .int (nI bl), .int (nI ta), .int (nI tl), .int (nI tk), .int vv, .ref an, .ref va])), (mrf, .inl (y 0, 3, .inl (upd frf 0 ((frf 0) + 1))))] := hD
    exact W.iret (v := (-2)) hx hb hr (fun tZ ht hW => ⟨⟨(-2), ((upd frf 0 ((frf 0) + 1)), ft, no), rfl, ⟨hkt, hk0_, hk1_, hk2_, by first | omega | (dsimp only; omega), hk3_, hk4_, by first | omega | (dsimp only; omega)⟩, by rw [ht]; exact hP.sub [1, 2, 0] rfl, hD.sub [1, 2, 0] (by decide) rfl⟩, hS.F ht⟩) hS.2.2 dX11_note_49
