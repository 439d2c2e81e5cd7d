set_option maxHeartbeats 4000000 in
set_option maxRecDepth 100000 in
theorem gq_enough (l : Launch) (D : va_G) (y : Nat → ClassId) (mo : Nat) (to : Nat) (ke : Nat) (ik : Nat) (mrf : Nat) (ha : Nat) (r0 : Nat) (mbr : Nat) (mbp : Nat) (mby : Nat) (an : Nat) (va : Nat) (mab : Int64) (mbl : Int64) (bl : Nat) (ta : Nat) (tl : Nat) (tk : Nat) (vv : Int32) (frf : Nat → Int32) (ft : Nat → Int32) (fi : Nat) (gl : Nat) (mi : Nat) (no : Nat) (un : Nat) (x : Int32) (hk0_ : ft 0 = (nI fi)) (hk1_ : ft 1 = (nI gl)) (hk2_ : ft 2 = (nI mi)) (hk3_ : ft 3 = (nI no)) (hk4_ : ft 4 = (nI un)) (hkt : kr_t 228 ft) (hfi : fi ≤ 6) (hgl : gl ≤ 5) (hmi : mi ≤ 4) (hno : no ≤ 6) (hun : un ≤ 8) (hgf : (gl = 0 ∨ 0 < fi)) : kw_Mi l yX11_enough wsX11_enough ({ frames := 2, cells := 0, slots := 0, locals := 85 }) D y [.ref mo, .int x] [(mo, .inr (11, [.ref to, .ref ke, .ref ik, .ref mrf, .long mab, .long mbl, .ref ha, .ref r0, .ref mbr, .ref mbp, .ref mby, .int (nI bl), .int (nI ta), .int (nI tl), .int (nI tk), .int vv, .ref an, .ref va])), (mrf, .inl (y 0, 3, .inl frf)), (to, .inl (y 0, 228, .inl ft))] (fun (r : Int32) (u : (Nat → Int32)) => (gl = 0 ∨ 0 < fi)) (fun u => [(mo, .inr (11, [.ref to, .ref ke, .ref ik, .ref mrf, .long mab, .long mbl, .ref ha, .ref r0, .ref mbr, .ref mbp, .ref mby, .int (nI bl), .int (nI ta), .int (nI tl), .int (nI tk), .int vv, .ref an, .ref va])), (mrf, .inl (y 0, 3, .inl u)), (to, .inl (y 0, 228, .inl ft))]) 0 0 := by
  refine kw_Mi.of (cc := cX11_enough) (maxL := 6) (ret := (some .int)) (by decide) rfl ?_
  intro pZ eZ s mZ beZ meZ cZ A hE
  obtain ⟨hx, hb, hr, hml, hts, hown, hlocks, hin, hA, hP, hD, hK, hN⟩ := hE
  have hS : va_S A s.heap s.heap [] := va_S.rf
  have hl := lv_entry ([.ref mo, .int x]) (n := 6) (Nat.le_of_ble_eq_true rfl)
  rw [lg_entry_eq]
  generalize (lg_sl ([.ref mo, .int x]) ++ List.replicate (6 - (lg_sl ([.ref mo, .int x])).length) Slot.unset).toArray = ls at hl ⊢
  have hl : lv_has ls 6 [(0, .ref mo), (1, .int x)] := hl
  have fw1 := hts (.constantLong RX11 165 (999)) (List.mem_of_getElem? (i := 1) rfl)
  have fw2 := hts (.fieldLink RX11 7 "GleanDuskModel" "told" "[I") (List.mem_of_getElem? (i := 2) rfl)
  have iw11 : ∀ w ∈ wsX110, w ∈ wsX11_enough := fun _ h => List.mem_cons_of_mem _ (List.mem_append_right _ h)
  refine lv_iload_n hx hb dX11_enough_0 rfl (lv_at hl 1 rfl) ?_
  refine lv_i2l (v := x.toInt64) hx hb dX11_enough_1 (rfl) ?_
  refine lv_lconst (v := 0) hx hb dX11_enough_2 (by decide) ?_
  refine lv_ldc2 (v := 999) hx hb hown fw1 dX11_enough_3 ?_
  have hs1 : kw_Split [(mo, .inr (11, [.ref to, .ref ke, .ref ik, .ref mrf, .long mab, .long mbl, .ref ha, .ref r0, .ref mbr, .ref mbp, .ref mby, .int (nI bl), .int (nI ta), .int (nI tl), .int (nI tk), .int vv, .ref an, .ref va])), (mrf, .inl (y 0, 3, .inl frf)), (to, .inl (y 0, 228, .inl ft))] [] [(mo, .inr (11, [.ref to, .ref ke, .ref ik, .ref mrf, .long mab, .long mbl, .ref ha, .ref r0, .ref mbr, .ref mbp, .ref mby, .int (nI bl), .int (nI ta), .int (nI tl), .int (nI tk), .int vv, .ref an, .ref va])), (mrf, .inl (y 0, 3, .inl frf)), (to, .inl (y 0, 228, .inl ft))] [] [0, 1, 2] := ⟨rfl, rfl, rfl, rfl, rfl, by decide⟩
  refine kw_go_i hs1 hP hD hS hA (va_runS (As := [.long x.toInt64, .long 0, .long 999]) (rest := []) ⟨hx, hb, hml, hown, hts⟩ (gr_in l D y x 0 999 (by omega) (by omega) _) (va_cwS 3 hts gX11_enough_X11_in rfl rfl rfl (by decide +kernel) ⟨Nat.le_of_ble_eq_true rfl, Nat.le_of_ble_eq_true rfl⟩) (kw_PreS hs1 hP hD hK hN) rfl rfl hl.1 rfl (lv_room (Nat.le_of_ble_eq_true rfl)) dX11_enough_6 ⟨Nat.le_of_ble_eq_true rfl, Nat.le_of_ble_eq_true rfl⟩) (fun r2 u3 H locs hq hP hD hS => ?_)
  rcases hq with ⟨j4, h5, h6, rfl, rfl⟩ | ⟨h7, rfl⟩
  · skip
    have hP : va_P D vwCl [(mo, .inr (11, [.ref to, .ref ke, .ref ik, .ref mrf, .long mab, .long mbl, .ref ha, .ref r0, .ref mbr, .ref mbp, .ref mby, .int (nI bl), .int (nI ta), .int (nI tl), .int (nI tk), .int vv, .ref an, .ref va])), (mrf, .inl (y 0, 3, .inl frf)), (to, .inl (y 0, 228, .inl ft))] H := hP
    have hD : va_D A [(mo, .inr (11, [.ref to, .ref ke, .ref ik, .ref mrf, .long mab, .long mbl, .ref ha, .ref r0, .ref mbr, .ref mbp, .ref mby, .int (nI bl), .int (nI ta), .int (nI tl), .int (nI tk), .int vv, .ref an, .ref va])), (mrf, .inl (y 0, 3, .inl frf)), (to, .inl (y 0, 228, .inl ft))] := hD
    refine lv_if_ne (tgt := 19) hx hb dX11_enough_9 (by decide) (fun _ => ?_) (fun h9 => absurd h9 (by decide))
    refine lv_iconst (v := (-1)) hx hb dX11_enough_19 (by decide) ?_
    refine lv_istore_n (lv' := [(2, .int (-1)), (0, .ref mo), (1, .int (nI j4))]) hx hb dX11_enough_20 rfl hl (by decide) rfl (fun ls hl => ?_)
    rcases (show gl = 0 ∨ gl = 1 ∨ gl = 2 ∨ gl = 3 ∨ gl = 4 ∨ gl = 5 by omega) with rfl | rfl | rfl | rfl | rfl | rfl
    · skip
      refine lv_iconst (v := 0) hx hb dX11_enough_21 (by decide) ?_
      refine lv_istore_n (lv' := [(3, .int 0), (2, .int (-1)), (0, .ref mo), (1, .int (nI j4))]) hx hb dX11_enough_22 rfl hl (by decide) rfl (fun ls hl => ?_)
      have lp71 : ∀ (fuj91 j91 : Nat) (x29 : Int32) (H : Heap) (locs : List Loc) (ls : Array Slot), j91 ≤ 1 → 1 - j91 < fuj91 → va_P D vwCl [(mo, .inr (11, [.ref to, .ref ke, .ref ik, .ref mrf, .long mab, .long mbl, .ref ha, .ref r0, .ref mbr, .ref mbp, .ref mby, .int (nI bl), .int (nI ta), .int (nI tl), .int (nI tk), .int vv, .ref an, .ref va])), (mrf, .inl (y 0, 3, .inl frf)), (to, .inl (y 0, 228, .inl ft))] H → va_D A [(mo, .inr (11, [.ref to, .ref ke, .ref ik, .ref mrf, .long mab, .long mbl, .ref ha, .ref r0, .ref mbr, .ref mbp, .ref mby, .int (nI bl), .int (nI ta), .int (nI tl), .int (nI tk), .int vv, .ref an, .ref va])), (mrf, .inl (y 0, 3, .inl frf)), (to, .inl (y 0, 228, .inl ft))] → va_S A s.heap H locs → lv_has ls 6 [(3, .int (nI j91)), (2, .int x29), (0, .ref mo), (1, .int (nI j4))] → W pZ l eZ ({ frames := 2, cells := 0, slots := 0, locals := 85 }) s mZ [.ref mo, .int (nI j4)].toArray beZ meZ cZ H locs 0 0 (MQ beZ (va_Qi (fun (r : Int32) (u : (Nat → Int32)) => (0 = 0 ∨ 0 < fi)) (kw_B D (fun u => [(mo, .inr (11, [.ref to, .ref ke, .ref ik, .ref mrf, .long mab, .long mbl, .ref ha, .ref r0, .ref mbr, .ref mbp, .ref mby, .int (nI bl), .int (nI ta), .int (nI tl), .int (nI tk), .int vv, .ref an, .ref va])), (mrf, .inl (y 0, 3, .inl u)), (to, .inl (y 0, 228, .inl ft))]) A) A) [.ref mo, .int (nI j4)].toArray s 0 0 A) (F0 mZ 23 ls []) := by
        intro fuj91
        induction fuj91 with
        | zero => intro j91 x29 H locs ls hj9 hf9; exact absurd hf9 (Nat.not_lt_zero _)
        | succ fuj91 ihj91 =>
          intro j91 x29 H locs ls hj91 hfj91  hP hD hS hl
          refine lv_iload_n hx hb dX11_enough_23 rfl (lv_at hl 0 rfl) ?_
          refine lv_iconst (v := 1) hx hb dX11_enough_24 (by decide) ?_
          refine lv_aload_n hx hb dX11_enough_25 rfl (lv_at hl 2 rfl) ?_
          have hs72 : kw_Split [(mo, .inr (11, [.ref to, .ref ke, .ref ik, .ref mrf, .long mab, .long mbl, .ref ha, .ref r0, .ref mbr, .ref mbp, .ref mby, .int (nI bl), .int (nI ta), .int (nI tl), .int (nI tk), .int vv, .ref an, .ref va])), (mrf, .inl (y 0, 3, .inl frf)), (to, .inl (y 0, 228, .inl ft))] [(mo, .inr (11, [.ref to, .ref ke, .ref ik, .ref mrf, .long mab, .long mbl, .ref ha, .ref r0, .ref mbr, .ref mbp, .ref mby, .int (nI bl), .int (nI ta), .int (nI tl), .int (nI tk), .int vv, .ref an, .ref va])), (to, .inl (y 0, 228, .inl ft))] [(mrf, .inl (y 0, 3, .inl frf))] [0, 2] [1] := ⟨rfl, rfl, rfl, rfl, rfl, by decide⟩
          refine kw_go_i hs72 hP hD hS hA (va_runV (As := []) (rest := [.int 1, .int (nI j91)]) ⟨hx, hb, hml, hown, hts⟩ (gr_manyGleaners l D y mo to ke ik mrf ha r0 mbr mbp mby an va mab mbl bl ta tl tk vv ft fi 0 mi no un hk0_ hk1_ hk2_ hk3_ hk4_ hkt hfi hgl hmi hno hun _) (cwV 0 hts gX11_enough_X11_manyGleaners rfl rfl rfl (by decide +kernel) ⟨Nat.le_of_ble_eq_true rfl, Nat.le_of_ble_eq_true rfl⟩) (kw_PreV (ci := 11) (q0 := 0) hs72 hP hD hK hN rfl rfl) rfl rfl hl.1 rfl (lv_room (Nat.le_of_ble_eq_true rfl)) dX11_enough_26 ⟨Nat.le_of_ble_eq_true rfl, Nat.le_of_ble_eq_true rfl⟩) (fun r73 u74 H locs hq hP hD hS => ?_)
          obtain rfl := hq
          have hP : va_P D vwCl [(mrf, .inl (y 0, 3, .inl frf)), (mo, .inr (11, [.ref to, .ref ke, .ref ik, .ref mrf, .long mab, .long mbl, .ref ha, .ref r0, .ref mbr, .ref mbp, .ref mby, .int (nI bl), .int (nI ta), .int (nI tl), .int (nI tk), .int vv, .ref an, .ref va])), (to, .inl (y 0, 228, .inl ft))] H := hP
          have hD : va_D A [(mrf, .inl (y 0, 3, .inl frf)), (mo, .inr (11, [.ref to, .ref ke, .ref ik, .ref mrf, .long mab, .long mbl, .ref ha, .ref r0, .ref mbr, .ref mbp, .ref mby, .int (nI bl), .int (nI ta), .int (nI tl), .int (nI tk), .int vv, .ref an, .ref va])), (to, .inl (y 0, 228, .inl ft))] := hD
          refine lv_ishl hx hb dX11_enough_29 ?_
          refine lv_topi (fun z75 hz75 => ?_)
          obtain rfl : z75 = 1 := hz75.trans (by decide)
          refine lv_icmp_ge (tgt := 116) hx hb dX11_enough_30 (by decide) (fun h76 => ?_) (fun h77 => ?_)
          · skip
            have h76 : 1 ≤ j91 := (nI_leI (a := 1) (b := j91) (by omega) (by omega)).mp h76
            refine lv_iload_n hx hb dX11_enough_116 rfl (lv_at hl 1 rfl) ?_
            exact W.iret (v := x29) hx hb hr (fun tZ ht hW => ⟨⟨x29, (frf), rfl, by first | omega | (dsimp only; omega), by rw [ht]; exact hP.sub [1, 0, 2] rfl, hD.sub [1, 0, 2] (by decide) rfl⟩, hS.F ht⟩) hS.2.2 dX11_enough_117
          · skip
            have h77 : ¬ 1 ≤ j91 := fun q9 => h77 ((nI_leI (a := 1) (b := j91) (by omega) (by omega)).mpr q9)
            refine lv_iconst (v := 0) hx hb dX11_enough_33 (by decide) ?_
            refine lv_istore (lv' := [(4, .int 0), (3, .int (nI j91)), (2, .int x29), (0, .ref mo), (1, .int (nI j4))]) hx hb dX11_enough_34 hl (by decide) rfl (fun ls hl => ?_)
            refine lv_iconst (v := 0) hx hb dX11_enough_36 (by decide) ?_
            refine lv_istore (lv' := [(5, .int 0), (4, .int 0), (3, .int (nI j91)), (2, .int x29), (0, .ref mo), (1, .int (nI j4))]) hx hb dX11_enough_37 hl (by decide) rfl (fun ls hl => ?_)
            have lp95 : ∀ (fuj92 j92 : Nat)  (H : Heap) (locs : List Loc) (ls : Array Slot), j92 ≤ 0 → 0 - j92 < fuj92 → va_P D vwCl [(mrf, .inl (y 0, 3, .inl frf)), (mo, .inr (11, [.ref to, .ref ke, .ref ik, .ref mrf, .long mab, .long mbl, .ref ha, .ref r0, .ref mbr, .ref mbp, .ref mby, .int (nI bl), .int (nI ta), .int (nI tl), .int (nI tk), .int vv, .ref an, .ref va])), (to, .inl (y 0, 228, .inl ft))] H → va_D A [(mrf, .inl (y 0, 3, .inl frf)), (mo, .inr (11, [.ref to, .ref ke, .ref ik, .ref mrf, .long mab, .long mbl, .ref ha, .ref r0, .ref mbr, .ref mbp, .ref mby, .int (nI bl), .int (nI ta), .int (nI tl), .int (nI tk), .int vv, .ref an, .ref va])), (to, .inl (y 0, 228, .inl ft))] → va_S A s.heap H locs → lv_has ls 6 [(5, .int (nI j92)), (4, .int 0), (3, .int (nI j91)), (2, .int x29), (0, .ref mo), (1, .int (nI j4))] → W pZ l eZ ({ frames := 2, cells := 0, slots := 0, locals := 85 }) s mZ [.ref mo, .int (nI j4)].toArray beZ meZ cZ H locs 0 0 (MQ beZ (va_Qi (fun (r : Int32) (u : (Nat → Int32)) => (0 = 0 ∨ 0 < fi)) (kw_B D (fun u => [(mo, .inr (11, [.ref to, .ref ke, .ref ik, .ref mrf, .long mab, .long mbl, .ref ha, .ref r0, .ref mbr, .ref mbp, .ref mby, .int (nI bl), .int (nI ta), .int (nI tl), .int (nI tk), .int vv, .ref an, .ref va])), (mrf, .inl (y 0, 3, .inl u)), (to, .inl (y 0, 228, .inl ft))]) A) A) [.ref mo, .int (nI j4)].toArray s 0 0 A) (F0 mZ 39 ls []) := by
              intro fuj92
              induction fuj92 with
              | zero => intro j92  H locs ls hj9 hf9; exact absurd hf9 (Nat.not_lt_zero _)
              | succ fuj92 ihj92 =>
                intro j92  H locs ls hj92 hfj92  hP hD hS hl
                refine lv_iload hx hb dX11_enough_39 (lv_at hl 0 rfl) ?_
                refine lv_aload_n hx hb dX11_enough_41 rfl (lv_at hl 4 rfl) ?_
                have hs96 : kw_Split [(mrf, .inl (y 0, 3, .inl frf)), (mo, .inr (11, [.ref to, .ref ke, .ref ik, .ref mrf, .long mab, .long mbl, .ref ha, .ref r0, .ref mbr, .ref mbp, .ref mby, .int (nI bl), .int (nI ta), .int (nI tl), .int (nI tk), .int vv, .ref an, .ref va])), (to, .inl (y 0, 228, .inl ft))] [(mo, .inr (11, [.ref to, .ref ke, .ref ik, .ref mrf, .long mab, .long mbl, .ref ha, .ref r0, .ref mbr, .ref mbp, .ref mby, .int (nI bl), .int (nI ta), .int (nI tl), .int (nI tk), .int vv, .ref an, .ref va])), (to, .inl (y 0, 228, .inl ft))] [(mrf, .inl (y 0, 3, .inl frf))] [1, 2] [0] := ⟨rfl, rfl, rfl, rfl, rfl, by decide⟩
                refine kw_go_i hs96 hP hD hS hA (va_runV (As := []) (rest := [.int (nI j92)]) ⟨hx, hb, hml, hown, hts⟩ (gr_manyGleaners l D y mo to ke ik mrf ha r0 mbr mbp mby an va mab mbl bl ta tl tk vv ft fi 0 mi no un hk0_ hk1_ hk2_ hk3_ hk4_ hkt hfi hgl hmi hno hun _) (cwV 0 hts gX11_enough_X11_manyGleaners rfl rfl rfl (by decide +kernel) ⟨Nat.le_of_ble_eq_true rfl, Nat.le_of_ble_eq_true rfl⟩) (kw_PreV (ci := 11) (q0 := 1) hs96 hP hD hK hN rfl rfl) rfl rfl hl.1 rfl (lv_room (Nat.le_of_ble_eq_true rfl)) dX11_enough_42 ⟨Nat.le_of_ble_eq_true rfl, Nat.le_of_ble_eq_true rfl⟩) (fun r97 u98 H locs hq hP hD hS => ?_)
                obtain rfl := hq
                have hP : va_P D vwCl [(mrf, .inl (y 0, 3, .inl frf)), (mo, .inr (11, [.ref to, .ref ke, .ref ik, .ref mrf, .long mab, .long mbl, .ref ha, .ref r0, .ref mbr, .ref mbp, .ref mby, .int (nI bl), .int (nI ta), .int (nI tl), .int (nI tk), .int vv, .ref an, .ref va])), (to, .inl (y 0, 228, .inl ft))] H := hP
                have hD : va_D A [(mrf, .inl (y 0, 3, .inl frf)), (mo, .inr (11, [.ref to, .ref ke, .ref ik, .ref mrf, .long mab, .long mbl, .ref ha, .ref r0, .ref mbr, .ref mbp, .ref mby, .int (nI bl), .int (nI ta), .int (nI tl), .int (nI tk), .int vv, .ref an, .ref va])), (to, .inl (y 0, 228, .inl ft))] := hD
                refine lv_icmp_ge (tgt := 82) hx hb dX11_enough_45 (by decide) (fun h99 => ?_) (fun h100 => ?_)
                · skip
                  have h99 : 0 ≤ j92 := (nI_leI (a := 0) (b := j92) (by omega) (by omega)).mp h99
                  refine lv_iload hx hb dX11_enough_82 (lv_at hl 1 rfl) ?_
                  refine lv_iload_n hx hb dX11_enough_84 rfl (lv_at hl 5 rfl) ?_
                  refine lv_icmp_lt (tgt := 108) hx hb dX11_enough_85 (by decide) (fun h101 => ?_) (fun h102 => ?_)
                  · skip
                    have h101 : 0 < j4 := (nI_ltI (a := 0) (b := j4) (by omega) (by omega)).mp h101
                    refine lv_iload_n hx hb dX11_enough_108 rfl (lv_at hl 3 rfl) ?_
                    refine lv_istore_n (lv' := [(2, .int x29), (5, .int (nI j92)), (4, .int 0), (3, .int (nI j91)), (0, .ref mo), (1, .int (nI j4))]) hx hb dX11_enough_109 rfl hl (by decide) rfl (fun ls hl => ?_)
                    refine lv_iinc (v := (nI (j91 + 1))) (lv' := [(3, .int (nI (j91 + 1))), (2, .int x29), (5, .int (nI j92)), (4, .int 0), (0, .ref mo), (1, .int (nI j4))]) hx hb dX11_enough_110 hl (k := 3) rfl (nI_1 j91) (by decide) rfl (fun ls hl => ?_)
                    refine lv_goto (tgt := 23) hx hb dX11_enough_113 (by decide) ?_
                    exact ihj91 (j91 + 1) x29 H locs ls (by omega) (by omega)  (hP.sub [1, 0, 2] rfl) (hD.sub [1, 0, 2] (by decide) rfl) hS (lv_sub hl [0, 1, 4, 5] rfl)
                  · skip
                    have h102 : ¬ 0 < j4 := fun q9 => h102 ((nI_ltI (a := 0) (b := j4) (by omega) (by omega)).mpr q9)
                    refine lv_iload_n hx hb dX11_enough_88 rfl (lv_at hl 3 rfl) ?_
                    refine lv_iconst (v := (-1)) hx hb dX11_enough_89 (by decide) ?_
                    refine lv_icmp_eq (tgt := 104) hx hb dX11_enough_90 (by decide) (fun h103 => ?_) (fun h104 => ?_)
                    · skip
                      refine lv_iload_n hx hb dX11_enough_104 rfl (lv_at hl 2 rfl) ?_
                      refine lv_goto (tgt := 109) hx hb dX11_enough_105 (by decide) ?_
                      refine lv_istore_n (lv' := [(2, .int (nI j91)), (5, .int (nI j92)), (4, .int 0), (3, .int (nI j91)), (0, .ref mo), (1, .int (nI j4))]) hx hb dX11_enough_109 rfl hl (by decide) rfl (fun ls hl => ?_)
                      refine lv_iinc (v := (nI (j91 + 1))) (lv' := [(3, .int (nI (j91 + 1))), (2, .int (nI j91)), (5, .int (nI j92)), (4, .int 0), (0, .ref mo), (1, .int (nI j4))]) hx hb dX11_enough_110 hl (k := 3) rfl (nI_1 j91) (by decide) rfl (fun ls hl => ?_)
                      refine lv_goto (tgt := 23) hx hb dX11_enough_113 (by decide) ?_
                      exact ihj91 (j91 + 1) (nI j91) H locs ls (by omega) (by omega)  (hP.sub [1, 0, 2] rfl) (hD.sub [1, 0, 2] (by decide) rfl) hS (lv_sub hl [0, 1, 4, 5] rfl)
                    · skip
                      refine lv_iload_n hx hb dX11_enough_93 rfl (lv_at hl 2 rfl) ?_
                      have hs105 : kw_Split [(mrf, .inl (y 0, 3, .inl frf)), (mo, .inr (11, [.ref to, .ref ke, .ref ik, .ref mrf, .long mab, .long mbl, .ref ha, .ref r0, .ref mbr, .ref mbp, .ref mby, .int (nI bl), .int (nI ta), .int (nI tl), .int (nI tk), .int vv, .ref an, .ref va])), (to, .inl (y 0, 228, .inl ft))] [] [(mrf, .inl (y 0, 3, .inl frf)), (mo, .inr (11, [.ref to, .ref ke, .ref ik, .ref mrf, .long mab, .long mbl, .ref ha, .ref r0, .ref mbr, .ref mbp, .ref mby, .int (nI bl), .int (nI ta), .int (nI tl), .int (nI tk), .int vv, .ref an, .ref va])), (to, .inl (y 0, 228, .inl ft))] [] [0, 1, 2] := ⟨rfl, rfl, rfl, rfl, rfl, by decide⟩
                      refine kw_go_i hs105 hP hD hS hA (va_runS (As := [.int (nI j91)]) (rest := []) ⟨hx, hb, hml, hown, hts⟩ (gr_bits l D y (nI j91)  _) (va_cwS 1 hts gX11_enough_X11_bits rfl rfl rfl (by decide +kernel) ⟨Nat.le_of_ble_eq_true rfl, Nat.le_of_ble_eq_true rfl⟩) (kw_PreS hs105 hP hD hK hN) rfl rfl hl.1 rfl (lv_room (Nat.le_of_ble_eq_true rfl)) dX11_enough_94 ⟨Nat.le_of_ble_eq_true rfl, Nat.le_of_ble_eq_true rfl⟩) (fun r106 u107 H locs hq hP hD hS => ?_)
                      have hP : va_P D vwCl [(mrf, .inl (y 0, 3, .inl frf)), (mo, .inr (11, [.ref to, .ref ke, .ref ik, .ref mrf, .long mab, .long mbl, .ref ha, .ref r0, .ref mbr, .ref mbp, .ref mby, .int (nI bl), .int (nI ta), .int (nI tl), .int (nI tk), .int vv, .ref an, .ref va])), (to, .inl (y 0, 228, .inl ft))] H := hP
                      have hD : va_D A [(mrf, .inl (y 0, 3, .inl frf)), (mo, .inr (11, [.ref to, .ref ke, .ref ik, .ref mrf, .long mab, .long mbl, .ref ha, .ref r0, .ref mbr, .ref mbp, .ref mby, .int (nI bl), .int (nI ta), .int (nI tl), .int (nI tk), .int vv, .ref an, .ref va])), (to, .inl (y 0, 228, .inl ft))] := hD
                      refine lv_iload_n hx hb dX11_enough_97 rfl (lv_at hl 3 rfl) ?_
                      have hs108 : kw_Split [(mrf, .inl (y 0, 3, .inl frf)), (mo, .inr (11, [.ref to, .ref ke, .ref ik, .ref mrf, .long mab, .long mbl, .ref ha, .ref r0, .ref mbr, .ref mbp, .ref mby, .int (nI bl), .int (nI ta), .int (nI tl), .int (nI tk), .int vv, .ref an, .ref va])), (to, .inl (y 0, 228, .inl ft))] [] [(mrf, .inl (y 0, 3, .inl frf)), (mo, .inr (11, [.ref to, .ref ke, .ref ik, .ref mrf, .long mab, .long mbl, .ref ha, .ref r0, .ref mbr, .ref mbp, .ref mby, .int (nI bl), .int (nI ta), .int (nI tl), .int (nI tk), .int vv, .ref an, .ref va])), (to, .inl (y 0, 228, .inl ft))] [] [0, 1, 2] := ⟨rfl, rfl, rfl, rfl, rfl, by decide⟩
                      refine kw_go_i hs108 hP hD hS hA (va_runS (As := [.int x29]) (rest := [.int r106]) ⟨hx, hb, hml, hown, hts⟩ (gr_bits l D y x29  _) (va_cwS 1 hts gX11_enough_X11_bits rfl rfl rfl (by decide +kernel) ⟨Nat.le_of_ble_eq_true rfl, Nat.le_of_ble_eq_true rfl⟩) (kw_PreS hs108 hP hD hK hN) rfl rfl hl.1 rfl (lv_room (Nat.le_of_ble_eq_true rfl)) dX11_enough_98 ⟨Nat.le_of_ble_eq_true rfl, Nat.le_of_ble_eq_true rfl⟩) (fun r109 u110 H locs hq hP hD hS => ?_)
                      have hP : va_P D vwCl [(mrf, .inl (y 0, 3, .inl frf)), (mo, .inr (11, [.ref to, .ref ke, .ref ik, .ref mrf, .long mab, .long mbl, .ref ha, .ref r0, .ref mbr, .ref mbp, .ref mby, .int (nI bl), .int (nI ta), .int (nI tl), .int (nI tk), .int vv, .ref an, .ref va])), (to, .inl (y 0, 228, .inl ft))] H := hP
                      have hD : va_D A [(mrf, .inl (y 0, 3, .inl frf)), (mo, .inr (11, [.ref to, .ref ke, .ref ik, .ref mrf, .long mab, .long mbl, .ref ha, .ref r0, .ref mbr, .ref mbp, .ref mby, .int (nI bl), .int (nI ta), .int (nI tl), .int (nI tk), .int vv, .ref an, .ref va])), (to, .inl (y 0, 228, .inl ft))] := hD
                      refine lv_icmp_ge (tgt := 108) hx hb dX11_enough_101 (by decide) (fun h111 => ?_) (fun h112 => ?_)
                      · skip
                        refine lv_iload_n hx hb dX11_enough_108 rfl (lv_at hl 3 rfl) ?_
                        refine lv_istore_n (lv' := [(2, .int x29), (5, .int (nI j92)), (4, .int 0), (3, .int (nI j91)), (0, .ref mo), (1, .int (nI j4))]) hx hb dX11_enough_109 rfl hl (by decide) rfl (fun ls hl => ?_)
                        refine lv_iinc (v := (nI (j91 + 1))) (lv' := [(3, .int (nI (j91 + 1))), (2, .int x29), (5, .int (nI j92)), (4, .int 0), (0, .ref mo), (1, .int (nI j4))]) hx hb dX11_enough_110 hl (k := 3) rfl (nI_1 j91) (by decide) rfl (fun ls hl => ?_)
                        refine lv_goto (tgt := 23) hx hb dX11_enough_113 (by decide) ?_
                        exact ihj91 (j91 + 1) x29 H locs ls (by omega) (by omega)  (hP.sub [1, 0, 2] rfl) (hD.sub [1, 0, 2] (by decide) rfl) hS (lv_sub hl [0, 1, 4, 5] rfl)
                      · skip
                        refine lv_iload_n hx hb dX11_enough_104 rfl (lv_at hl 2 rfl) ?_
                        refine lv_goto (tgt := 109) hx hb dX11_enough_105 (by decide) ?_
                        refine lv_istore_n (lv' := [(2, .int (nI j91)), (5, .int (nI j92)), (4, .int 0), (3, .int (nI j91)), (0, .ref mo), (1, .int (nI j4))]) hx hb dX11_enough_109 rfl hl (by decide) rfl (fun ls hl => ?_)
                        refine lv_iinc (v := (nI (j91 + 1))) (lv' := [(3, .int (nI (j91 + 1))), (2, .int (nI j91)), (5, .int (nI j92)), (4, .int 0), (0, .ref mo), (1, .int (nI j4))]) hx hb dX11_enough_110 hl (k := 3) rfl (nI_1 j91) (by decide) rfl (fun ls hl => ?_)
                        refine lv_goto (tgt := 23) hx hb dX11_enough_113 (by decide) ?_
                        exact ihj91 (j91 + 1) (nI j91) H locs ls (by omega) (by omega)  (hP.sub [1, 0, 2] rfl) (hD.sub [1, 0, 2] (by decide) rfl) hS (lv_sub hl [0, 1, 4, 5] rfl)
                · skip
                  have h100 : ¬ 0 ≤ j92 := fun q9 => h100 ((nI_leI (a := 0) (b := j92) (by omega) (by omega)).mpr q9)
                  exact absurd h100 (by omega)
            exact lp95 (0 + 1) 0  _ _ _ (by omega) (by omega)  hP hD hS (lv_sub hl [0, 1, 2, 3, 4, 5] rfl)
      exact lp71 (1 + 1) 0 (-1) _ _ _ (by omega) (by omega)  hP hD hS (lv_sub hl [0, 1, 2, 3] rfl)
    · skip
      refine lv_iconst (v := 0) hx hb dX11_enough_21 (by decide) ?_
      refine lv_istore_n (lv' := [(3, .int 0), (2, .int (-1)), (0, .ref mo), (1, .int (nI j4))]) hx hb dX11_enough_22 rfl hl (by decide) rfl (fun ls hl => ?_)
      have lp222 : ∀ (fuj91 j91 : Nat) (x152 : Int32) (H : Heap) (locs : List Loc) (ls : Array Slot), j91 ≤ 2 → 2 - j91 < fuj91 → va_P D vwCl [(mo, .inr (11, [.ref to, .ref ke, .ref ik, .ref mrf, .long mab, .long mbl, .ref ha, .ref r0, .ref mbr, .ref mbp, .ref mby, .int (nI bl), .int (nI ta), .int (nI tl), .int (nI tk), .int vv, .ref an, .ref va])), (mrf, .inl (y 0, 3, .inl frf)), (to, .inl (y 0, 228, .inl ft))] H → va_D A [(mo, .inr (11, [.ref to, .ref ke, .ref ik, .ref mrf, .long mab, .long mbl, .ref ha, .ref r0, .ref mbr, .ref mbp, .ref mby, .int (nI bl), .int (nI ta), .int (nI tl), .int (nI tk), .int vv, .ref an, .ref va])), (mrf, .inl (y 0, 3, .inl frf)), (to, .inl (y 0, 228, .inl ft))] → va_S A s.heap H locs → lv_has ls 6 [(3, .int (nI j91)), (2, .int x152), (0, .ref mo), (1, .int (nI j4))] → W pZ l eZ ({ frames := 2, cells := 0, slots := 0, locals := 85 }) s mZ [.ref mo, .int (nI j4)].toArray beZ meZ cZ H locs 0 0 (MQ beZ (va_Qi (fun (r : Int32) (u : (Nat → Int32)) => (1 = 0 ∨ 0 < fi)) (kw_B D (fun u => [(mo, .inr (11, [.ref to, .ref ke, .ref ik, .ref mrf, .long mab, .long mbl, .ref ha, .ref r0, .ref mbr, .ref mbp, .ref mby, .int (nI bl), .int (nI ta), .int (nI tl), .int (nI tk), .int vv, .ref an, .ref va])), (mrf, .inl (y 0, 3, .inl u)), (to, .inl (y 0, 228, .inl ft))]) A) A) [.ref mo, .int (nI j4)].toArray s 0 0 A) (F0 mZ 23 ls []) := by
        intro fuj91
        induction fuj91 with
        | zero => intro j91 x152 H locs ls hj9 hf9; exact absurd hf9 (Nat.not_lt_zero _)
        | succ fuj91 ihj91 =>
          intro j91 x152 H locs ls hj91 hfj91  hP hD hS hl
          refine lv_iload_n hx hb dX11_enough_23 rfl (lv_at hl 0 rfl) ?_
          refine lv_iconst (v := 1) hx hb dX11_enough_24 (by decide) ?_
          refine lv_aload_n hx hb dX11_enough_25 rfl (lv_at hl 2 rfl) ?_
          have hs223 : kw_Split [(mo, .inr (11, [.ref to, .ref ke, .ref ik, .ref mrf, .long mab, .long mbl, .ref ha, .ref r0, .ref mbr, .ref mbp, .ref mby, .int (nI bl), .int (nI ta), .int (nI tl), .int (nI tk), .int vv, .ref an, .ref va])), (mrf, .inl (y 0, 3, .inl frf)), (to, .inl (y 0, 228, .inl ft))] [(mo, .inr (11, [.ref to, .ref ke, .ref ik, .ref mrf, .long mab, .long mbl, .ref ha, .ref r0, .ref mbr, .ref mbp, .ref mby, .int (nI bl), .int (nI ta), .int (nI tl), .int (nI tk), .int vv, .ref an, .ref va])), (to, .inl (y 0, 228, .inl ft))] [(mrf, .inl (y 0, 3, .inl frf))] [0, 2] [1] := ⟨rfl, rfl, rfl, rfl, rfl, by decide⟩
          refine kw_go_i hs223 hP hD hS hA (va_runV (As := []) (rest := [.int 1, .int (nI j91)]) ⟨hx, hb, hml, hown, hts⟩ (gr_manyGleaners l D y mo to ke ik mrf ha r0 mbr mbp mby an va mab mbl bl ta tl tk vv ft fi 1 mi no un hk0_ hk1_ hk2_ hk3_ hk4_ hkt hfi hgl hmi hno hun _) (cwV 0 hts gX11_enough_X11_manyGleaners rfl rfl rfl (by decide +kernel) ⟨Nat.le_of_ble_eq_true rfl, Nat.le_of_ble_eq_true rfl⟩) (kw_PreV (ci := 11) (q0 := 0) hs223 hP hD hK hN rfl rfl) rfl rfl hl.1 rfl (lv_room (Nat.le_of_ble_eq_true rfl)) dX11_enough_26 ⟨Nat.le_of_ble_eq_true rfl, Nat.le_of_ble_eq_true rfl⟩) (fun r224 u225 H locs hq hP hD hS => ?_)
          obtain rfl := hq
          have hP : va_P D vwCl [(mrf, .inl (y 0, 3, .inl frf)), (mo, .inr (11, [.ref to, .ref ke, .ref ik, .ref mrf, .long mab, .long mbl, .ref ha, .ref r0, .ref mbr, .ref mbp, .ref mby, .int (nI bl), .int (nI ta), .int (nI tl), .int (nI tk), .int vv, .ref an, .ref va])), (to, .inl (y 0, 228, .inl ft))] H := hP
          have hD : va_D A [(mrf, .inl (y 0, 3, .inl frf)), (mo, .inr (11, [.ref to, .ref ke, .ref ik, .ref mrf, .long mab, .long mbl, .ref ha, .ref r0, .ref mbr, .ref mbp, .ref mby, .int (nI bl), .int (nI ta), .int (nI tl), .int (nI tk), .int vv, .ref an, .ref va])), (to, .inl (y 0, 228, .inl ft))] := hD
          refine lv_ishl hx hb dX11_enough_29 ?_
          refine lv_topi (fun z226 hz226 => ?_)
          obtain rfl : z226 = 2 := hz226.trans (by decide)
          refine lv_icmp_ge (tgt := 116) hx hb dX11_enough_30 (by decide) (fun h227 => ?_) (fun h228 => ?_)
          · skip
            have h227 : 2 ≤ j91 := (nI_leI (a := 2) (b := j91) (by omega) (by omega)).mp h227
            refine lv_iload_n hx hb dX11_enough_116 rfl (lv_at hl 1 rfl) ?_
            exact W.iret (v := x152) hx hb hr (fun tZ ht hW => ⟨⟨x152, (frf), rfl, by first | omega | (dsimp only; omega), by rw [ht]; exact hP.sub [1, 0, 2] rfl, hD.sub [1, 0, 2] (by decide) rfl⟩, hS.F ht⟩) hS.2.2 dX11_enough_117
          · skip
            have h228 : ¬ 2 ≤ j91 := fun q9 => h228 ((nI_leI (a := 2) (b := j91) (by omega) (by omega)).mpr q9)
            refine lv_iconst (v := 0) hx hb dX11_enough_33 (by decide) ?_
            refine lv_istore (lv' := [(4, .int 0), (3, .int (nI j91)), (2, .int x152), (0, .ref mo), (1, .int (nI j4))]) hx hb dX11_enough_34 hl (by decide) rfl (fun ls hl => ?_)
            refine lv_iconst (v := 0) hx hb dX11_enough_36 (by decide) ?_
            refine lv_istore (lv' := [(5, .int 0), (4, .int 0), (3, .int (nI j91)), (2, .int x152), (0, .ref mo), (1, .int (nI j4))]) hx hb dX11_enough_37 hl (by decide) rfl (fun ls hl => ?_)
            have lp271 : ∀ (fuj92 j92 : Nat) (x250 : Int32) (H : Heap) (locs : List Loc) (ls : Array Slot), j92 ≤ 1 → 1 - j92 < fuj92 → va_P D vwCl [(mrf, .inl (y 0, 3, .inl frf)), (mo, .inr (11, [.ref to, .ref ke, .ref ik, .ref mrf, .long mab, .long mbl, .ref ha, .ref r0, .ref mbr, .ref mbp, .ref mby, .int (nI bl), .int (nI ta), .int (nI tl), .int (nI tk), .int vv, .ref an, .ref va])), (to, .inl (y 0, 228, .inl ft))] H → va_D A [(mrf, .inl (y 0, 3, .inl frf)), (mo, .inr (11, [.ref to, .ref ke, .ref ik, .ref mrf, .long mab, .long mbl, .ref ha, .ref r0, .ref mbr, .ref mbp, .ref mby, .int (nI bl), .int (nI ta), .int (nI tl), .int (nI tk), .int vv, .ref an, .ref va])), (to, .inl (y 0, 228, .inl ft))] → va_S A s.heap H locs → lv_has ls 6 [(5, .int (nI j92)), (4, .int x250), (3, .int (nI j91)), (2, .int x152), (0, .ref mo), (1, .int (nI j4))] → W pZ l eZ ({ frames := 2, cells := 0, slots := 0, locals := 85 }) s mZ [.ref mo, .int (nI j4)].toArray beZ meZ cZ H locs 0 0 (MQ beZ (va_Qi (fun (r : Int32) (u : (Nat → Int32)) => (1 = 0 ∨ 0 < fi)) (kw_B D (fun u => [(mo, .inr (11, [.ref to, .ref ke, .ref ik, .ref mrf, .long mab, .long mbl, .ref ha, .ref r0, .ref mbr, .ref mbp, .ref mby, .int (nI bl), .int (nI ta), .int (nI tl), .int (nI tk), .int vv, .ref an, .ref va])), (mrf, .inl (y 0, 3, .inl u)), (to, .inl (y 0, 228, .inl ft))]) A) A) [.ref mo, .int (nI j4)].toArray s 0 0 A) (F0 mZ 39 ls []) := by
              intro fuj92
              induction fuj92 with
              | zero => intro j92 x250 H locs ls hj9 hf9; exact absurd hf9 (Nat.not_lt_zero _)
              | succ fuj92 ihj92 =>
                intro j92 x250 H locs ls hj92 hfj92  hP hD hS hl
                refine lv_iload hx hb dX11_enough_39 (lv_at hl 0 rfl) ?_
                refine lv_aload_n hx hb dX11_enough_41 rfl (lv_at hl 4 rfl) ?_
                have hs272 : kw_Split [(mrf, .inl (y 0, 3, .inl frf)), (mo, .inr (11, [.ref to, .ref ke, .ref ik, .ref mrf, .long mab, .long mbl, .ref ha, .ref r0, .ref mbr, .ref mbp, .ref mby, .int (nI bl), .int (nI ta), .int (nI tl), .int (nI tk), .int vv, .ref an, .ref va])), (to, .inl (y 0, 228, .inl ft))] [(mo, .inr (11, [.ref to, .ref ke, .ref ik, .ref mrf, .long mab, .long mbl, .ref ha, .ref r0, .ref mbr, .ref mbp, .ref mby, .int (nI bl), .int (nI ta), .int (nI tl), .int (nI tk), .int vv, .ref an, .ref va])), (to, .inl (y 0, 228, .inl ft))] [(mrf, .inl (y 0, 3, .inl frf))] [1, 2] [0] := ⟨rfl, rfl, rfl, rfl, rfl, by decide⟩
                refine kw_go_i hs272 hP hD hS hA (va_runV (As := []) (rest := [.int (nI j92)]) ⟨hx, hb, hml, hown, hts⟩ (gr_manyGleaners l D y mo to ke ik mrf ha r0 mbr mbp mby an va mab mbl bl ta tl tk vv ft fi 1 mi no un hk0_ hk1_ hk2_ hk3_ hk4_ hkt hfi hgl hmi hno hun _) (cwV 0 hts gX11_enough_X11_manyGleaners rfl rfl rfl (by decide +kernel) ⟨Nat.le_of_ble_eq_true rfl, Nat.le_of_ble_eq_true rfl⟩) (kw_PreV (ci := 11) (q0 := 1) hs272 hP hD hK hN rfl rfl) rfl rfl hl.1 rfl (lv_room (Nat.le_of_ble_eq_true rfl)) dX11_enough_42 ⟨Nat.le_of_ble_eq_true rfl, Nat.le_of_ble_eq_true rfl⟩) (fun r273 u274 H locs hq hP hD hS => ?_)
                obtain rfl := hq
                have hP : va_P D vwCl [(mrf, .inl (y 0, 3, .inl frf)), (mo, .inr (11, [.ref to, .ref ke, .ref ik, .ref mrf, .long mab, .long mbl, .ref ha, .ref r0, .ref mbr, .ref mbp, .ref mby, .int (nI bl), .int (nI ta), .int (nI tl), .int (nI tk), .int vv, .ref an, .ref va])), (to, .inl (y 0, 228, .inl ft))] H := hP
                have hD : va_D A [(mrf, .inl (y 0, 3, .inl frf)), (mo, .inr (11, [.ref to, .ref ke, .ref ik, .ref mrf, .long mab, .long mbl, .ref ha, .ref r0, .ref mbr, .ref mbp, .ref mby, .int (nI bl), .int (nI ta), .int (nI tl), .int (nI tk), .int vv, .ref an, .ref va])), (to, .inl (y 0, 228, .inl ft))] := hD
                refine lv_icmp_ge (tgt := 82) hx hb dX11_enough_45 (by decide) (fun h275 => ?_) (fun h276 => ?_)
                · skip
                  have h275 : 1 ≤ j92 := (nI_leI (a := 1) (b := j92) (by omega) (by omega)).mp h275
                  refine lv_iload hx hb dX11_enough_82 (lv_at hl 1 rfl) ?_
                  refine lv_iload_n hx hb dX11_enough_84 rfl (lv_at hl 5 rfl) ?_
                  refine lv_icmp_lt (tgt := 108) hx hb dX11_enough_85 (by decide) (fun h277 => ?_) (fun h278 => ?_)
                  · skip
                    refine lv_iload_n hx hb dX11_enough_108 rfl (lv_at hl 3 rfl) ?_
                    refine lv_istore_n (lv' := [(2, .int x152), (5, .int (nI j92)), (4, .int x250), (3, .int (nI j91)), (0, .ref mo), (1, .int (nI j4))]) hx hb dX11_enough_109 rfl hl (by decide) rfl (fun ls hl => ?_)
                    refine lv_iinc (v := (nI (j91 + 1))) (lv' := [(3, .int (nI (j91 + 1))), (2, .int x152), (5, .int (nI j92)), (4, .int x250), (0, .ref mo), (1, .int (nI j4))]) hx hb dX11_enough_110 hl (k := 3) rfl (nI_1 j91) (by decide) rfl (fun ls hl => ?_)
                    refine lv_goto (tgt := 23) hx hb dX11_enough_113 (by decide) ?_
                    exact ihj91 (j91 + 1) x152 H locs ls (by omega) (by omega)  (hP.sub [1, 0, 2] rfl) (hD.sub [1, 0, 2] (by decide) rfl) hS (lv_sub hl [0, 1, 4, 5] rfl)
                  · skip
                    refine lv_iload_n hx hb dX11_enough_88 rfl (lv_at hl 3 rfl) ?_
                    refine lv_iconst (v := (-1)) hx hb dX11_enough_89 (by decide) ?_
                    refine lv_icmp_eq (tgt := 104) hx hb dX11_enough_90 (by decide) (fun h279 => ?_) (fun h280 => ?_)
                    · skip
                      refine lv_iload_n hx hb dX11_enough_104 rfl (lv_at hl 2 rfl) ?_
                      refine lv_goto (tgt := 109) hx hb dX11_enough_105 (by decide) ?_
                      refine lv_istore_n (lv' := [(2, .int (nI j91)), (5, .int (nI j92)), (4, .int x250), (3, .int (nI j91)), (0, .ref mo), (1, .int (nI j4))]) hx hb dX11_enough_109 rfl hl (by decide) rfl (fun ls hl => ?_)
                      refine lv_iinc (v := (nI (j91 + 1))) (lv' := [(3, .int (nI (j91 + 1))), (2, .int (nI j91)), (5, .int (nI j92)), (4, .int x250), (0, .ref mo), (1, .int (nI j4))]) hx hb dX11_enough_110 hl (k := 3) rfl (nI_1 j91) (by decide) rfl (fun ls hl => ?_)
                      refine lv_goto (tgt := 23) hx hb dX11_enough_113 (by decide) ?_
                      exact ihj91 (j91 + 1) (nI j91) H locs ls (by omega) (by omega)  (hP.sub [1, 0, 2] rfl) (hD.sub [1, 0, 2] (by decide) rfl) hS (lv_sub hl [0, 1, 4, 5] rfl)
                    · skip
                      refine lv_iload_n hx hb dX11_enough_93 rfl (lv_at hl 2 rfl) ?_
                      have hs281 : kw_Split [(mrf, .inl (y 0, 3, .inl frf)), (mo, .inr (11, [.ref to, .ref ke, .ref ik, .ref mrf, .long mab, .long mbl, .ref ha, .ref r0, .ref mbr, .ref mbp, .ref mby, .int (nI bl), .int (nI ta), .int (nI tl), .int (nI tk), .int vv, .ref an, .ref va])), (to, .inl (y 0, 228, .inl ft))] [] [(mrf, .inl (y 0, 3, .inl frf)), (mo, .inr (11, [.ref to, .ref ke, .ref ik, .ref mrf, .long mab, .long mbl, .ref ha, .ref r0, .ref mbr, .ref mbp, .ref mby, .int (nI bl), .int (nI ta), .int (nI tl), .int (nI tk), .int vv, .ref an, .ref va])), (to, .inl (y 0, 228, .inl ft))] [] [0, 1, 2] := ⟨rfl, rfl, rfl, rfl, rfl, by decide⟩
                      refine kw_go_i hs281 hP hD hS hA (va_runS (As := [.int (nI j91)]) (rest := []) ⟨hx, hb, hml, hown, hts⟩ (gr_bits l D y (nI j91)  _) (va_cwS 1 hts gX11_enough_X11_bits rfl rfl rfl (by decide +kernel) ⟨Nat.le_of_ble_eq_true rfl, Nat.le_of_ble_eq_true rfl⟩) (kw_PreS hs281 hP hD hK hN) rfl rfl hl.1 rfl (lv_room (Nat.le_of_ble_eq_true rfl)) dX11_enough_94 ⟨Nat.le_of_ble_eq_true rfl, Nat.le_of_ble_eq_true rfl⟩) (fun r282 u283 H locs hq hP hD hS => ?_)
                      have hP : va_P D vwCl [(mrf, .inl (y 0, 3, .inl frf)), (mo, .inr (11, [.ref to, .ref ke, .ref ik, .ref mrf, .long mab, .long mbl, .ref ha, .ref r0, .ref mbr, .ref mbp, .ref mby, .int (nI bl), .int (nI ta), .int (nI tl), .int (nI tk), .int vv, .ref an, .ref va])), (to, .inl (y 0, 228, .inl ft))] H := hP
                      have hD : va_D A [(mrf, .inl (y 0, 3, .inl frf)), (mo, .inr (11, [.ref to, .ref ke, .ref ik, .ref mrf, .long mab, .long mbl, .ref ha, .ref r0, .ref mbr, .ref mbp, .ref mby, .int (nI bl), .int (nI ta), .int (nI tl), .int (nI tk), .int vv, .ref an, .ref va])), (to, .inl (y 0, 228, .inl ft))] := hD
                      refine lv_iload_n hx hb dX11_enough_97 rfl (lv_at hl 3 rfl) ?_
                      have hs284 : kw_Split [(mrf, .inl (y 0, 3, .inl frf)), (mo, .inr (11, [.ref to, .ref ke, .ref ik, .ref mrf, .long mab, .long mbl, .ref ha, .ref r0, .ref mbr, .ref mbp, .ref mby, .int (nI bl), .int (nI ta), .int (nI tl), .int (nI tk), .int vv, .ref an, .ref va])), (to, .inl (y 0, 228, .inl ft))] [] [(mrf, .inl (y 0, 3, .inl frf)), (mo, .inr (11, [.ref to, .ref ke, .ref ik, .ref mrf, .long mab, .long mbl, .ref ha, .ref r0, .ref mbr, .ref mbp, .ref mby, .int (nI bl), .int (nI ta), .int (nI tl), .int (nI tk), .int vv, .ref an, .ref va])), (to, .inl (y 0, 228, .inl ft))] [] [0, 1, 2] := ⟨rfl, rfl, rfl, rfl, rfl, by decide⟩
                      refine kw_go_i hs284 hP hD hS hA (va_runS (As := [.int x152]) (rest := [.int r282]) ⟨hx, hb, hml, hown, hts⟩ (gr_bits l D y x152  _) (va_cwS 1 hts gX11_enough_X11_bits rfl rfl rfl (by decide +kernel) ⟨Nat.le_of_ble_eq_true rfl, Nat.le_of_ble_eq_true rfl⟩) (kw_PreS hs284 hP hD hK hN) rfl rfl hl.1 rfl (lv_room (Nat.le_of_ble_eq_true rfl)) dX11_enough_98 ⟨Nat.le_of_ble_eq_true rfl, Nat.le_of_ble_eq_true rfl⟩) (fun r285 u286 H locs hq hP hD hS => ?_)
                      have hP : va_P D vwCl [(mrf, .inl (y 0, 3, .inl frf)), (mo, .inr (11, [.ref to, .ref ke, .ref ik, .ref mrf, .long mab, .long mbl, .ref ha, .ref r0, .ref mbr, .ref mbp, .ref mby, .int (nI bl), .int (nI ta), .int (nI tl), .int (nI tk), .int vv, .ref an, .ref va])), (to, .inl (y 0, 228, .inl ft))] H := hP
                      have hD : va_D A [(mrf, .inl (y 0, 3, .inl frf)), (mo, .inr (11, [.ref to, .ref ke, .ref ik, .ref mrf, .long mab, .long mbl, .ref ha, .ref r0, .ref mbr, .ref mbp, .ref mby, .int (nI bl), .int (nI ta), .int (nI tl), .int (nI tk), .int vv, .ref an, .ref va])), (to, .inl (y 0, 228, .inl ft))] := hD
                      refine lv_icmp_ge (tgt := 108) hx hb dX11_enough_101 (by decide) (fun h287 => ?_) (fun h288 => ?_)
                      · skip
                        refine lv_iload_n hx hb dX11_enough_108 rfl (lv_at hl 3 rfl) ?_
                        refine lv_istore_n (lv' := [(2, .int x152), (5, .int (nI j92)), (4, .int x250), (3, .int (nI j91)), (0, .ref mo), (1, .int (nI j4))]) hx hb dX11_enough_109 rfl hl (by decide) rfl (fun ls hl => ?_)
                        refine lv_iinc (v := (nI (j91 + 1))) (lv' := [(3, .int (nI (j91 + 1))), (2, .int x152), (5, .int (nI j92)), (4, .int x250), (0, .ref mo), (1, .int (nI j4))]) hx hb dX11_enough_110 hl (k := 3) rfl (nI_1 j91) (by decide) rfl (fun ls hl => ?_)
                        refine lv_goto (tgt := 23) hx hb dX11_enough_113 (by decide) ?_
                        exact ihj91 (j91 + 1) x152 H locs ls (by omega) (by omega)  (hP.sub [1, 0, 2] rfl) (hD.sub [1, 0, 2] (by decide) rfl) hS (lv_sub hl [0, 1, 4, 5] rfl)
                      · skip
                        refine lv_iload_n hx hb dX11_enough_104 rfl (lv_at hl 2 rfl) ?_
                        refine lv_goto (tgt := 109) hx hb dX11_enough_105 (by decide) ?_
                        refine lv_istore_n (lv' := [(2, .int (nI j91)), (5, .int (nI j92)), (4, .int x250), (3, .int (nI j91)), (0, .ref mo), (1, .int (nI j4))]) hx hb dX11_enough_109 rfl hl (by decide) rfl (fun ls hl => ?_)
                        refine lv_iinc (v := (nI (j91 + 1))) (lv' := [(3, .int (nI (j91 + 1))), (2, .int (nI j91)), (5, .int (nI j92)), (4, .int x250), (0, .ref mo), (1, .int (nI j4))]) hx hb dX11_enough_110 hl (k := 3) rfl (nI_1 j91) (by decide) rfl (fun ls hl => ?_)
                        refine lv_goto (tgt := 23) hx hb dX11_enough_113 (by decide) ?_
                        exact ihj91 (j91 + 1) (nI j91) H locs ls (by omega) (by omega)  (hP.sub [1, 0, 2] rfl) (hD.sub [1, 0, 2] (by decide) rfl) hS (lv_sub hl [0, 1, 4, 5] rfl)
                · skip
                  have h276 : ¬ 1 ≤ j92 := fun q9 => h276 ((nI_leI (a := 1) (b := j92) (by omega) (by omega)).mpr q9)
                  refine lv_iload hx hb dX11_enough_48 (lv_at hl 1 rfl) ?_
                  refine lv_iload_n hx hb dX11_enough_50 rfl (lv_at hl 2 rfl) ?_
                  refine lv_iload hx hb dX11_enough_51 (lv_at hl 0 rfl) ?_
                  have hs289 : kw_Split [(mrf, .inl (y 0, 3, .inl frf)), (mo, .inr (11, [.ref to, .ref ke, .ref ik, .ref mrf, .long mab, .long mbl, .ref ha, .ref r0, .ref mbr, .ref mbp, .ref mby, .int (nI bl), .int (nI ta), .int (nI tl), .int (nI tk), .int vv, .ref an, .ref va])), (to, .inl (y 0, 228, .inl ft))] [] [(mrf, .inl (y 0, 3, .inl frf)), (mo, .inr (11, [.ref to, .ref ke, .ref ik, .ref mrf, .long mab, .long mbl, .ref ha, .ref r0, .ref mbr, .ref mbp, .ref mby, .int (nI bl), .int (nI ta), .int (nI tl), .int (nI tk), .int vv, .ref an, .ref va])), (to, .inl (y 0, 228, .inl ft))] [] [0, 1, 2] := ⟨rfl, rfl, rfl, rfl, rfl, by decide⟩
                  refine kw_go_i hs289 hP hD hS hA (va_runS (As := [.int (nI j91), .int (nI j92)]) (rest := [.int x250]) ⟨hx, hb, hml, hown, hts⟩ (gr_has l D y (nI j91) (nI j92)  _) (va_cwS 2 hts gX11_enough_X11_has rfl rfl rfl (by decide +kernel) ⟨Nat.le_of_ble_eq_true rfl, Nat.le_of_ble_eq_true rfl⟩) (kw_PreS hs289 hP hD hK hN) rfl rfl hl.1 rfl (lv_room (Nat.le_of_ble_eq_true rfl)) dX11_enough_53 ⟨Nat.le_of_ble_eq_true rfl, Nat.le_of_ble_eq_true rfl⟩) (fun r290 u291 H locs hq hP hD hS => ?_)
                  obtain (rfl | rfl) := hq
                  · skip
                    have hP : va_P D vwCl [(mrf, .inl (y 0, 3, .inl frf)), (mo, .inr (11, [.ref to, .ref ke, .ref ik, .ref mrf, .long mab, .long mbl, .ref ha, .ref r0, .ref mbr, .ref mbp, .ref mby, .int (nI bl), .int (nI ta), .int (nI tl), .int (nI tk), .int vv, .ref an, .ref va])), (to, .inl (y 0, 228, .inl ft))] H := hP
                    have hD : va_D A [(mrf, .inl (y 0, 3, .inl frf)), (mo, .inr (11, [.ref to, .ref ke, .ref ik, .ref mrf, .long mab, .long mbl, .ref ha, .ref r0, .ref mbr, .ref mbp, .ref mby, .int (nI bl), .int (nI ta), .int (nI tl), .int (nI tk), .int vv, .ref an, .ref va])), (to, .inl (y 0, 228, .inl ft))] := hD
                    refine lv_if_eq (tgt := 72) hx hb dX11_enough_56 (by decide) (fun _ => ?_) (fun h9 => absurd h9 (by decide))
                    refine lv_iconst (v := 0) hx hb dX11_enough_72 (by decide) ?_
                    refine lv_iadd hx hb dX11_enough_73 ?_
                    refine lv_istore (lv' := [(4, .int (x250 + 0)), (5, .int (nI j92)), (3, .int (nI j91)), (2, .int x152), (0, .ref mo), (1, .int (nI j4))]) hx hb dX11_enough_74 hl (by decide) rfl (fun ls hl => ?_)
                    refine lv_iinc (v := (nI (j92 + 1))) (lv' := [(5, .int (nI (j92 + 1))), (4, .int (x250 + 0)), (3, .int (nI j91)), (2, .int x152), (0, .ref mo), (1, .int (nI j4))]) hx hb dX11_enough_76 hl (k := 1) rfl (nI_1 j92) (by decide) rfl (fun ls hl => ?_)
                    refine lv_goto (tgt := 39) hx hb dX11_enough_79 (by decide) ?_
                    exact ihj92 (j92 + 1) (x250 + 0) H locs ls (by omega) (by omega)  (hP.sub [0, 1, 2] rfl) (hD.sub [0, 1, 2] (by decide) rfl) hS (lv_sub hl [0, 1, 2, 3, 4, 5] rfl)
                  · skip
                    have hP : va_P D vwCl [(mrf, .inl (y 0, 3, .inl frf)), (mo, .inr (11, [.ref to, .ref ke, .ref ik, .ref mrf, .long mab, .long mbl, .ref ha, .ref r0, .ref mbr, .ref mbp, .ref mby, .int (nI bl), .int (nI ta), .int (nI tl), .int (nI tk), .int vv, .ref an, .ref va])), (to, .inl (y 0, 228, .inl ft))] H := hP
                    have hD : va_D A [(mrf, .inl (y 0, 3, .inl frf)), (mo, .inr (11, [.ref to, .ref ke, .ref ik, .ref mrf, .long mab, .long mbl, .ref ha, .ref r0, .ref mbr, .ref mbp, .ref mby, .int (nI bl), .int (nI ta), .int (nI tl), .int (nI tk), .int vv, .ref an, .ref va])), (to, .inl (y 0, 228, .inl ft))] := hD
                    refine lv_if_eq (tgt := 72) hx hb dX11_enough_56 (by decide) (fun h9 => absurd h9 (by decide)) (fun _ => ?_)
                    refine lv_aload_n hx hb dX11_enough_59 rfl (lv_at hl 4 rfl) ?_
                    refine va_get (D := D) (ci := 11) (v := .ref to) (C := RX11) (T := TX11) (N := 18) hx hb hts iw11 hown hK hP 1 rfl rfl 0 (by decide) fw2 (fun _ h9 => h9) rfl dX11_enough_60 ?_
                    refine lv_bipush (v := 16) hx hb dX11_enough_63 (by decide) ?_
                    refine lv_iload hx hb dX11_enough_65 (lv_at hl 0 rfl) ?_
                    refine lv_iadd hx hb dX11_enough_67 ?_
                    rw [show 16 + (nI j92) = nI (j92 + 16) from (nI_add 16 j92).trans (congrArg nI (by omega))]
                    refine va_iald hx hb hK hP 2 0 rfl rfl (vp_in_nI (by omega) (by decide)) dX11_enough_68 ?_
                    rw [nI_clamp (n := (j92 + 16)) (by omega)]
                    refine lv_goto (tgt := 73) hx hb dX11_enough_69 (by decide) ?_
                    refine lv_iadd hx hb dX11_enough_73 ?_
                    refine lv_istore (lv' := [(4, .int (x250 + (ft (j92 + 16)))), (5, .int (nI j92)), (3, .int (nI j91)), (2, .int x152), (0, .ref mo), (1, .int (nI j4))]) hx hb dX11_enough_74 hl (by decide) rfl (fun ls hl => ?_)
                    refine lv_iinc (v := (nI (j92 + 1))) (lv' := [(5, .int (nI (j92 + 1))), (4, .int (x250 + (ft (j92 + 16)))), (3, .int (nI j91)), (2, .int x152), (0, .ref mo), (1, .int (nI j4))]) hx hb dX11_enough_76 hl (k := 1) rfl (nI_1 j92) (by decide) rfl (fun ls hl => ?_)
                    refine lv_goto (tgt := 39) hx hb dX11_enough_79 (by decide) ?_
                    exact ihj92 (j92 + 1) (x250 + (ft (j92 + 16))) H locs ls (by omega) (by omega)  (hP.sub [0, 1, 2] rfl) (hD.sub [0, 1, 2] (by decide) rfl) hS (lv_sub hl [0, 1, 2, 3, 4, 5] rfl)
            exact lp271 (1 + 1) 0 0 _ _ _ (by omega) (by omega)  hP hD hS (lv_sub hl [0, 1, 2, 3, 4, 5] rfl)
      exact lp222 (2 + 1) 0 (-1) _ _ _ (by omega) (by omega)  hP hD hS (lv_sub hl [0, 1, 2, 3] rfl)
    · skip
      refine lv_iconst (v := 0) hx hb dX11_enough_21 (by decide) ?_
      refine lv_istore_n (lv' := [(3, .int 0), (2, .int (-1)), (0, .ref mo), (1, .int (nI j4))]) hx hb dX11_enough_22 rfl hl (by decide) rfl (fun ls hl => ?_)
      have lp401 : ∀ (fuj91 j91 : Nat) (x331 : Int32) (H : Heap) (locs : List Loc) (ls : Array Slot), j91 ≤ 4 → 4 - j91 < fuj91 → va_P D vwCl [(mo, .inr (11, [.ref to, .ref ke, .ref ik, .ref mrf, .long mab, .long mbl, .ref ha, .ref r0, .ref mbr, .ref mbp, .ref mby, .int (nI bl), .int (nI ta), .int (nI tl), .int (nI tk), .int vv, .ref an, .ref va])), (mrf, .inl (y 0, 3, .inl frf)), (to, .inl (y 0, 228, .inl ft))] H → va_D A [(mo, .inr (11, [.ref to, .ref ke, .ref ik, .ref mrf, .long mab, .long mbl, .ref ha, .ref r0, .ref mbr, .ref mbp, .ref mby, .int (nI bl), .int (nI ta), .int (nI tl), .int (nI tk), .int vv, .ref an, .ref va])), (mrf, .inl (y 0, 3, .inl frf)), (to, .inl (y 0, 228, .inl ft))] → va_S A s.heap H locs → lv_has ls 6 [(3, .int (nI j91)), (2, .int x331), (0, .ref mo), (1, .int (nI j4))] → W pZ l eZ ({ frames := 2, cells := 0, slots := 0, locals := 85 }) s mZ [.ref mo, .int (nI j4)].toArray beZ meZ cZ H locs 0 0 (MQ beZ (va_Qi (fun (r : Int32) (u : (Nat → Int32)) => (2 = 0 ∨ 0 < fi)) (kw_B D (fun u => [(mo, .inr (11, [.ref to, .ref ke, .ref ik, .ref mrf, .long mab, .long mbl, .ref ha, .ref r0, .ref mbr, .ref mbp, .ref mby, .int (nI bl), .int (nI ta), .int (nI tl), .int (nI tk), .int vv, .ref an, .ref va])), (mrf, .inl (y 0, 3, .inl u)), (to, .inl (y 0, 228, .inl ft))]) A) A) [.ref mo, .int (nI j4)].toArray s 0 0 A) (F0 mZ 23 ls []) := by
        intro fuj91
        induction fuj91 with
        | zero => intro j91 x331 H locs ls hj9 hf9; exact absurd hf9 (Nat.not_lt_zero _)
        | succ fuj91 ihj91 =>
          intro j91 x331 H locs ls hj91 hfj91  hP hD hS hl
          refine lv_iload_n hx hb dX11_enough_23 rfl (lv_at hl 0 rfl) ?_
          refine lv_iconst (v := 1) hx hb dX11_enough_24 (by decide) ?_
          refine lv_aload_n hx hb dX11_enough_25 rfl (lv_at hl 2 rfl) ?_
          have hs402 : kw_Split [(mo, .inr (11, [.ref to, .ref ke, .ref ik, .ref mrf, .long mab, .long mbl, .ref ha, .ref r0, .ref mbr, .ref mbp, .ref mby, .int (nI bl), .int (nI ta), .int (nI tl), .int (nI tk), .int vv, .ref an, .ref va])), (mrf, .inl (y 0, 3, .inl frf)), (to, .inl (y 0, 228, .inl ft))] [(mo, .inr (11, [.ref to, .ref ke, .ref ik, .ref mrf, .long mab, .long mbl, .ref ha, .ref r0, .ref mbr, .ref mbp, .ref mby, .int (nI bl), .int (nI ta), .int (nI tl), .int (nI tk), .int vv, .ref an, .ref va])), (to, .inl (y 0, 228, .inl ft))] [(mrf, .inl (y 0, 3, .inl frf))] [0, 2] [1] := ⟨rfl, rfl, rfl, rfl, rfl, by decide⟩
          refine kw_go_i hs402 hP hD hS hA (va_runV (As := []) (rest := [.int 1, .int (nI j91)]) ⟨hx, hb, hml, hown, hts⟩ (gr_manyGleaners l D y mo to ke ik mrf ha r0 mbr mbp mby an va mab mbl bl ta tl tk vv ft fi 2 mi no un hk0_ hk1_ hk2_ hk3_ hk4_ hkt hfi hgl hmi hno hun _) (cwV 0 hts gX11_enough_X11_manyGleaners rfl rfl rfl (by decide +kernel) ⟨Nat.le_of_ble_eq_true rfl, Nat.le_of_ble_eq_true rfl⟩) (kw_PreV (ci := 11) (q0 := 0) hs402 hP hD hK hN rfl rfl) rfl rfl hl.1 rfl (lv_room (Nat.le_of_ble_eq_true rfl)) dX11_enough_26 ⟨Nat.le_of_ble_eq_true rfl, Nat.le_of_ble_eq_true rfl⟩) (fun r403 u404 H locs hq hP hD hS => ?_)
          obtain rfl := hq
          have hP : va_P D vwCl [(mrf, .inl (y 0, 3, .inl frf)), (mo, .inr (11, [.ref to, .ref ke, .ref ik, .ref mrf, .long mab, .long mbl, .ref ha, .ref r0, .ref mbr, .ref mbp, .ref mby, .int (nI bl), .int (nI ta), .int (nI tl), .int (nI tk), .int vv, .ref an, .ref va])), (to, .inl (y 0, 228, .inl ft))] H := hP
          have hD : va_D A [(mrf, .inl (y 0, 3, .inl frf)), (mo, .inr (11, [.ref to, .ref ke, .ref ik, .ref mrf, .long mab, .long mbl, .ref ha, .ref r0, .ref mbr, .ref mbp, .ref mby, .int (nI bl), .int (nI ta), .int (nI tl), .int (nI tk), .int vv, .ref an, .ref va])), (to, .inl (y 0, 228, .inl ft))] := hD
          refine lv_ishl hx hb dX11_enough_29 ?_
          refine lv_topi (fun z405 hz405 => ?_)
          obtain rfl : z405 = 4 := hz405.trans (by decide)
          refine lv_icmp_ge (tgt := 116) hx hb dX11_enough_30 (by decide) (fun h406 => ?_) (fun h407 => ?_)
          · skip
            have h406 : 4 ≤ j91 := (nI_leI (a := 4) (b := j91) (by omega) (by omega)).mp h406
            refine lv_iload_n hx hb dX11_enough_116 rfl (lv_at hl 1 rfl) ?_
            exact W.iret (v := x331) hx hb hr (fun tZ ht hW => ⟨⟨x331, (frf), rfl, by first | omega | (dsimp only; omega), by rw [ht]; exact hP.sub [1, 0, 2] rfl, hD.sub [1, 0, 2] (by decide) rfl⟩, hS.F ht⟩) hS.2.2 dX11_enough_117
          · skip
            have h407 : ¬ 4 ≤ j91 := fun q9 => h407 ((nI_leI (a := 4) (b := j91) (by omega) (by omega)).mpr q9)
            refine lv_iconst (v := 0) hx hb dX11_enough_33 (by decide) ?_
            refine lv_istore (lv' := [(4, .int 0), (3, .int (nI j91)), (2, .int x331), (0, .ref mo), (1, .int (nI j4))]) hx hb dX11_enough_34 hl (by decide) rfl (fun ls hl => ?_)
            refine lv_iconst (v := 0) hx hb dX11_enough_36 (by decide) ?_
            refine lv_istore (lv' := [(5, .int 0), (4, .int 0), (3, .int (nI j91)), (2, .int x331), (0, .ref mo), (1, .int (nI j4))]) hx hb dX11_enough_37 hl (by decide) rfl (fun ls hl => ?_)
            have lp450 : ∀ (fuj92 j92 : Nat) (x429 : Int32) (H : Heap) (locs : List Loc) (ls : Array Slot), j92 ≤ 2 → 2 - j92 < fuj92 → va_P D vwCl [(mrf, .inl (y 0, 3, .inl frf)), (mo, .inr (11, [.ref to, .ref ke, .ref ik, .ref mrf, .long mab, .long mbl, .ref ha, .ref r0, .ref mbr, .ref mbp, .ref mby, .int (nI bl), .int (nI ta), .int (nI tl), .int (nI tk), .int vv, .ref an, .ref va])), (to, .inl (y 0, 228, .inl ft))] H → va_D A [(mrf, .inl (y 0, 3, .inl frf)), (mo, .inr (11, [.ref to, .ref ke, .ref ik, .ref mrf, .long mab, .long mbl, .ref ha, .ref r0, .ref mbr, .ref mbp, .ref mby, .int (nI bl), .int (nI ta), .int (nI tl), .int (nI tk), .int vv, .ref an, .ref va])), (to, .inl (y 0, 228, .inl ft))] → va_S A s.heap H locs → lv_has ls 6 [(5, .int (nI j92)), (4, .int x429), (3, .int (nI j91)), (2, .int x331), (0, .ref mo), (1, .int (nI j4))] → W pZ l eZ ({ frames := 2, cells := 0, slots := 0, locals := 85 }) s mZ [.ref mo, .int (nI j4)].toArray beZ meZ cZ H locs 0 0 (MQ beZ (va_Qi (fun (r : Int32) (u : (Nat → Int32)) => (2 = 0 ∨ 0 < fi)) (kw_B D (fun u => [(mo, .inr (11, [.ref to, .ref ke, .ref ik, .ref mrf, .long mab, .long mbl, .ref ha, .ref r0, .ref mbr, .ref mbp, .ref mby, .int (nI bl), .int (nI ta), .int (nI tl), .int (nI tk), .int vv, .ref an, .ref va])), (mrf, .inl (y 0, 3, .inl u)), (to, .inl (y 0, 228, .inl ft))]) A) A) [.ref mo, .int (nI j4)].toArray s 0 0 A) (F0 mZ 39 ls []) := by
              intro fuj92
              induction fuj92 with
              | zero => intro j92 x429 H locs ls hj9 hf9; exact absurd hf9 (Nat.not_lt_zero _)
              | succ fuj92 ihj92 =>
                intro j92 x429 H locs ls hj92 hfj92  hP hD hS hl
                refine lv_iload hx hb dX11_enough_39 (lv_at hl 0 rfl) ?_
                refine lv_aload_n hx hb dX11_enough_41 rfl (lv_at hl 4 rfl) ?_
                have hs451 : kw_Split [(mrf, .inl (y 0, 3, .inl frf)), (mo, .inr (11, [.ref to, .ref ke, .ref ik, .ref mrf, .long mab, .long mbl, .ref ha, .ref r0, .ref mbr, .ref mbp, .ref mby, .int (nI bl), .int (nI ta), .int (nI tl), .int (nI tk), .int vv, .ref an, .ref va])), (to, .inl (y 0, 228, .inl ft))] [(mo, .inr (11, [.ref to, .ref ke, .ref ik, .ref mrf, .long mab, .long mbl, .ref ha, .ref r0, .ref mbr, .ref mbp, .ref mby, .int (nI bl), .int (nI ta), .int (nI tl), .int (nI tk), .int vv, .ref an, .ref va])), (to, .inl (y 0, 228, .inl ft))] [(mrf, .inl (y 0, 3, .inl frf))] [1, 2] [0] := ⟨rfl, rfl, rfl, rfl, rfl, by decide⟩
                refine kw_go_i hs451 hP hD hS hA (va_runV (As := []) (rest := [.int (nI j92)]) ⟨hx, hb, hml, hown, hts⟩ (gr_manyGleaners l D y mo to ke ik mrf ha r0 mbr mbp mby an va mab mbl bl ta tl tk vv ft fi 2 mi no un hk0_ hk1_ hk2_ hk3_ hk4_ hkt hfi hgl hmi hno hun _) (cwV 0 hts gX11_enough_X11_manyGleaners rfl rfl rfl (by decide +kernel) ⟨Nat.le_of_ble_eq_true rfl, Nat.le_of_ble_eq_true rfl⟩) (kw_PreV (ci := 11) (q0 := 1) hs451 hP hD hK hN rfl rfl) rfl rfl hl.1 rfl (lv_room (Nat.le_of_ble_eq_true rfl)) dX11_enough_42 ⟨Nat.le_of_ble_eq_true rfl, Nat.le_of_ble_eq_true rfl⟩) (fun r452 u453 H locs hq hP hD hS => ?_)
                obtain rfl := hq
                have hP : va_P D vwCl [(mrf, .inl (y 0, 3, .inl frf)), (mo, .inr (11, [.ref to, .ref ke, .ref ik, .ref mrf, .long mab, .long mbl, .ref ha, .ref r0, .ref mbr, .ref mbp, .ref mby, .int (nI bl), .int (nI ta), .int (nI tl), .int (nI tk), .int vv, .ref an, .ref va])), (to, .inl (y 0, 228, .inl ft))] H := hP
                have hD : va_D A [(mrf, .inl (y 0, 3, .inl frf)), (mo, .inr (11, [.ref to, .ref ke, .ref ik, .ref mrf, .long mab, .long mbl, .ref ha, .ref r0, .ref mbr, .ref mbp, .ref mby, .int (nI bl), .int (nI ta), .int (nI tl), .int (nI tk), .int vv, .ref an, .ref va])), (to, .inl (y 0, 228, .inl ft))] := hD
                refine lv_icmp_ge (tgt := 82) hx hb dX11_enough_45 (by decide) (fun h454 => ?_) (fun h455 => ?_)
                · skip
                  have h454 : 2 ≤ j92 := (nI_leI (a := 2) (b := j92) (by omega) (by omega)).mp h454
                  refine lv_iload hx hb dX11_enough_82 (lv_at hl 1 rfl) ?_
                  refine lv_iload_n hx hb dX11_enough_84 rfl (lv_at hl 5 rfl) ?_
                  refine lv_icmp_lt (tgt := 108) hx hb dX11_enough_85 (by decide) (fun h456 => ?_) (fun h457 => ?_)
                  · skip
                    refine lv_iload_n hx hb dX11_enough_108 rfl (lv_at hl 3 rfl) ?_
                    refine lv_istore_n (lv' := [(2, .int x331), (5, .int (nI j92)), (4, .int x429), (3, .int (nI j91)), (0, .ref mo), (1, .int (nI j4))]) hx hb dX11_enough_109 rfl hl (by decide) rfl (fun ls hl => ?_)
                    refine lv_iinc (v := (nI (j91 + 1))) (lv' := [(3, .int (nI (j91 + 1))), (2, .int x331), (5, .int (nI j92)), (4, .int x429), (0, .ref mo), (1, .int (nI j4))]) hx hb dX11_enough_110 hl (k := 3) rfl (nI_1 j91) (by decide) rfl (fun ls hl => ?_)
                    refine lv_goto (tgt := 23) hx hb dX11_enough_113 (by decide) ?_
                    exact ihj91 (j91 + 1) x331 H locs ls (by omega) (by omega)  (hP.sub [1, 0, 2] rfl) (hD.sub [1, 0, 2] (by decide) rfl) hS (lv_sub hl [0, 1, 4, 5] rfl)
                  · skip
                    refine lv_iload_n hx hb dX11_enough_88 rfl (lv_at hl 3 rfl) ?_
                    refine lv_iconst (v := (-1)) hx hb dX11_enough_89 (by decide) ?_
                    refine lv_icmp_eq (tgt := 104) hx hb dX11_enough_90 (by decide) (fun h458 => ?_) (fun h459 => ?_)
                    · skip
                      refine lv_iload_n hx hb dX11_enough_104 rfl (lv_at hl 2 rfl) ?_
                      refine lv_goto (tgt := 109) hx hb dX11_enough_105 (by decide) ?_
                      refine lv_istore_n (lv' := [(2, .int (nI j91)), (5, .int (nI j92)), (4, .int x429), (3, .int (nI j91)), (0, .ref mo), (1, .int (nI j4))]) hx hb dX11_enough_109 rfl hl (by decide) rfl (fun ls hl => ?_)
                      refine lv_iinc (v := (nI (j91 + 1))) (lv' := [(3, .int (nI (j91 + 1))), (2, .int (nI j91)), (5, .int (nI j92)), (4, .int x429), (0, .ref mo), (1, .int (nI j4))]) hx hb dX11_enough_110 hl (k := 3) rfl (nI_1 j91) (by decide) rfl (fun ls hl => ?_)
                      refine lv_goto (tgt := 23) hx hb dX11_enough_113 (by decide) ?_
                      exact ihj91 (j91 + 1) (nI j91) H locs ls (by omega) (by omega)  (hP.sub [1, 0, 2] rfl) (hD.sub [1, 0, 2] (by decide) rfl) hS (lv_sub hl [0, 1, 4, 5] rfl)
                    · skip
                      refine lv_iload_n hx hb dX11_enough_93 rfl (lv_at hl 2 rfl) ?_
                      have hs460 : kw_Split [(mrf, .inl (y 0, 3, .inl frf)), (mo, .inr (11, [.ref to, .ref ke, .ref ik, .ref mrf, .long mab, .long mbl, .ref ha, .ref r0, .ref mbr, .ref mbp, .ref mby, .int (nI bl), .int (nI ta), .int (nI tl), .int (nI tk), .int vv, .ref an, .ref va])), (to, .inl (y 0, 228, .inl ft))] [] [(mrf, .inl (y 0, 3, .inl frf)), (mo, .inr (11, [.ref to, .ref ke, .ref ik, .ref mrf, .long mab, .long mbl, .ref ha, .ref r0, .ref mbr, .ref mbp, .ref mby, .int (nI bl), .int (nI ta), .int (nI tl), .int (nI tk), .int vv, .ref an, .ref va])), (to, .inl (y 0, 228, .inl ft))] [] [0, 1, 2] := ⟨rfl, rfl, rfl, rfl, rfl, by decide⟩
                      refine kw_go_i hs460 hP hD hS hA (va_runS (As := [.int (nI j91)]) (rest := []) ⟨hx, hb, hml, hown, hts⟩ (gr_bits l D y (nI j91)  _) (va_cwS 1 hts gX11_enough_X11_bits rfl rfl rfl (by decide +kernel) ⟨Nat.le_of_ble_eq_true rfl, Nat.le_of_ble_eq_true rfl⟩) (kw_PreS hs460 hP hD hK hN) rfl rfl hl.1 rfl (lv_room (Nat.le_of_ble_eq_true rfl)) dX11_enough_94 ⟨Nat.le_of_ble_eq_true rfl, Nat.le_of_ble_eq_true rfl⟩) (fun r461 u462 H locs hq hP hD hS => ?_)
                      have hP : va_P D vwCl [(mrf, .inl (y 0, 3, .inl frf)), (mo, .inr (11, [.ref to, .ref ke, .ref ik, .ref mrf, .long mab, .long mbl, .ref ha, .ref r0, .ref mbr, .ref mbp, .ref mby, .int (nI bl), .int (nI ta), .int (nI tl), .int (nI tk), .int vv, .ref an, .ref va])), (to, .inl (y 0, 228, .inl ft))] H := hP
                      have hD : va_D A [(mrf, .inl (y 0, 3, .inl frf)), (mo, .inr (11, [.ref to, .ref ke, .ref ik, .ref mrf, .long mab, .long mbl, .ref ha, .ref r0, .ref mbr, .ref mbp, .ref mby, .int (nI bl), .int (nI ta), .int (nI tl), .int (nI tk), .int vv, .ref an, .ref va])), (to, .inl (y 0, 228, .inl ft))] := hD
                      refine lv_iload_n hx hb dX11_enough_97 rfl (lv_at hl 3 rfl) ?_
                      have hs463 : kw_Split [(mrf, .inl (y 0, 3, .inl frf)), (mo, .inr (11, [.ref to, .ref ke, .ref ik, .ref mrf, .long mab, .long mbl, .ref ha, .ref r0, .ref mbr, .ref mbp, .ref mby, .int (nI bl), .int (nI ta), .int (nI tl), .int (nI tk), .int vv, .ref an, .ref va])), (to, .inl (y 0, 228, .inl ft))] [] [(mrf, .inl (y 0, 3, .inl frf)), (mo, .inr (11, [.ref to, .ref ke, .ref ik, .ref mrf, .long mab, .long mbl, .ref ha, .ref r0, .ref mbr, .ref mbp, .ref mby, .int (nI bl), .int (nI ta), .int (nI tl), .int (nI tk), .int vv, .ref an, .ref va])), (to, .inl (y 0, 228, .inl ft))] [] [0, 1, 2] := ⟨rfl, rfl, rfl, rfl, rfl, by decide⟩
                      refine kw_go_i hs463 hP hD hS hA (va_runS (As := [.int x331]) (rest := [.int r461]) ⟨hx, hb, hml, hown, hts⟩ (gr_bits l D y x331  _) (va_cwS 1 hts gX11_enough_X11_bits rfl rfl rfl (by decide +kernel) ⟨Nat.le_of_ble_eq_true rfl, Nat.le_of_ble_eq_true rfl⟩) (kw_PreS hs463 hP hD hK hN) rfl rfl hl.1 rfl (lv_room (Nat.le_of_ble_eq_true rfl)) dX11_enough_98 ⟨Nat.le_of_ble_eq_true rfl, Nat.le_of_ble_eq_true rfl⟩) (fun r464 u465 H locs hq hP hD hS => ?_)
                      have hP : va_P D vwCl [(mrf, .inl (y 0, 3, .inl frf)), (mo, .inr (11, [.ref to, .ref ke, .ref ik, .ref mrf, .long mab, .long mbl, .ref ha, .ref r0, .ref mbr, .ref mbp, .ref mby, .int (nI bl), .int (nI ta), .int (nI tl), .int (nI tk), .int vv, .ref an, .ref va])), (to, .inl (y 0, 228, .inl ft))] H := hP
                      have hD : va_D A [(mrf, .inl (y 0, 3, .inl frf)), (mo, .inr (11, [.ref to, .ref ke, .ref ik, .ref mrf, .long mab, .long mbl, .ref ha, .ref r0, .ref mbr, .ref mbp, .ref mby, .int (nI bl), .int (nI ta), .int (nI tl), .int (nI tk), .int vv, .ref an, .ref va])), (to, .inl (y 0, 228, .inl ft))] := hD
                      refine lv_icmp_ge (tgt := 108) hx hb dX11_enough_101 (by decide) (fun h466 => ?_) (fun h467 => ?_)
                      · skip
                        refine lv_iload_n hx hb dX11_enough_108 rfl (lv_at hl 3 rfl) ?_
                        refine lv_istore_n (lv' := [(2, .int x331), (5, .int (nI j92)), (4, .int x429), (3, .int (nI j91)), (0, .ref mo), (1, .int (nI j4))]) hx hb dX11_enough_109 rfl hl (by decide) rfl (fun ls hl => ?_)
                        refine lv_iinc (v := (nI (j91 + 1))) (lv' := [(3, .int (nI (j91 + 1))), (2, .int x331), (5, .int (nI j92)), (4, .int x429), (0, .ref mo), (1, .int (nI j4))]) hx hb dX11_enough_110 hl (k := 3) rfl (nI_1 j91) (by decide) rfl (fun ls hl => ?_)
                        refine lv_goto (tgt := 23) hx hb dX11_enough_113 (by decide) ?_
                        exact ihj91 (j91 + 1) x331 H locs ls (by omega) (by omega)  (hP.sub [1, 0, 2] rfl) (hD.sub [1, 0, 2] (by decide) rfl) hS (lv_sub hl [0, 1, 4, 5] rfl)
                      · skip
                        refine lv_iload_n hx hb dX11_enough_104 rfl (lv_at hl 2 rfl) ?_
                        refine lv_goto (tgt := 109) hx hb dX11_enough_105 (by decide) ?_
                        refine lv_istore_n (lv' := [(2, .int (nI j91)), (5, .int (nI j92)), (4, .int x429), (3, .int (nI j91)), (0, .ref mo), (1, .int (nI j4))]) hx hb dX11_enough_109 rfl hl (by decide) rfl (fun ls hl => ?_)
                        refine lv_iinc (v := (nI (j91 + 1))) (lv' := [(3, .int (nI (j91 + 1))), (2, .int (nI j91)), (5, .int (nI j92)), (4, .int x429), (0, .ref mo), (1, .int (nI j4))]) hx hb dX11_enough_110 hl (k := 3) rfl (nI_1 j91) (by decide) rfl (fun ls hl => ?_)
                        refine lv_goto (tgt := 23) hx hb dX11_enough_113 (by decide) ?_
                        exact ihj91 (j91 + 1) (nI j91) H locs ls (by omega) (by omega)  (hP.sub [1, 0, 2] rfl) (hD.sub [1, 0, 2] (by decide) rfl) hS (lv_sub hl [0, 1, 4, 5] rfl)
                · skip
                  have h455 : ¬ 2 ≤ j92 := fun q9 => h455 ((nI_leI (a := 2) (b := j92) (by omega) (by omega)).mpr q9)
                  refine lv_iload hx hb dX11_enough_48 (lv_at hl 1 rfl) ?_
                  refine lv_iload_n hx hb dX11_enough_50 rfl (lv_at hl 2 rfl) ?_
                  refine lv_iload hx hb dX11_enough_51 (lv_at hl 0 rfl) ?_
                  have hs468 : kw_Split [(mrf, .inl (y 0, 3, .inl frf)), (mo, .inr (11, [.ref to, .ref ke, .ref ik, .ref mrf, .long mab, .long mbl, .ref ha, .ref r0, .ref mbr, .ref mbp, .ref mby, .int (nI bl), .int (nI ta), .int (nI tl), .int (nI tk), .int vv, .ref an, .ref va])), (to, .inl (y 0, 228, .inl ft))] [] [(mrf, .inl (y 0, 3, .inl frf)), (mo, .inr (11, [.ref to, .ref ke, .ref ik, .ref mrf, .long mab, .long mbl, .ref ha, .ref r0, .ref mbr, .ref mbp, .ref mby, .int (nI bl), .int (nI ta), .int (nI tl), .int (nI tk), .int vv, .ref an, .ref va])), (to, .inl (y 0, 228, .inl ft))] [] [0, 1, 2] := ⟨rfl, rfl, rfl, rfl, rfl, by decide⟩
                  refine kw_go_i hs468 hP hD hS hA (va_runS (As := [.int (nI j91), .int (nI j92)]) (rest := [.int x429]) ⟨hx, hb, hml, hown, hts⟩ (gr_has l D y (nI j91) (nI j92)  _) (va_cwS 2 hts gX11_enough_X11_has rfl rfl rfl (by decide +kernel) ⟨Nat.le_of_ble_eq_true rfl, Nat.le_of_ble_eq_true rfl⟩) (kw_PreS hs468 hP hD hK hN) rfl rfl hl.1 rfl (lv_room (Nat.le_of_ble_eq_true rfl)) dX11_enough_53 ⟨Nat.le_of_ble_eq_true rfl, Nat.le_of_ble_eq_true rfl⟩) (fun r469 u470 H locs hq hP hD hS => ?_)
                  obtain (rfl | rfl) := hq
                  · skip
                    have hP : va_P D vwCl [(mrf, .inl (y 0, 3, .inl frf)), (mo, .inr (11, [.ref to, .ref ke, .ref ik, .ref mrf, .long mab, .long mbl, .ref ha, .ref r0, .ref mbr, .ref mbp, .ref mby, .int (nI bl), .int (nI ta), .int (nI tl), .int (nI tk), .int vv, .ref an, .ref va])), (to, .inl (y 0, 228, .inl ft))] H := hP
                    have hD : va_D A [(mrf, .inl (y 0, 3, .inl frf)), (mo, .inr (11, [.ref to, .ref ke, .ref ik, .ref mrf, .long mab, .long mbl, .ref ha, .ref r0, .ref mbr, .ref mbp, .ref mby, .int (nI bl), .int (nI ta), .int (nI tl), .int (nI tk), .int vv, .ref an, .ref va])), (to, .inl (y 0, 228, .inl ft))] := hD
                    refine lv_if_eq (tgt := 72) hx hb dX11_enough_56 (by decide) (fun _ => ?_) (fun h9 => absurd h9 (by decide))
                    refine lv_iconst (v := 0) hx hb dX11_enough_72 (by decide) ?_
                    refine lv_iadd hx hb dX11_enough_73 ?_
                    refine lv_istore (lv' := [(4, .int (x429 + 0)), (5, .int (nI j92)), (3, .int (nI j91)), (2, .int x331), (0, .ref mo), (1, .int (nI j4))]) hx hb dX11_enough_74 hl (by decide) rfl (fun ls hl => ?_)
                    refine lv_iinc (v := (nI (j92 + 1))) (lv' := [(5, .int (nI (j92 + 1))), (4, .int (x429 + 0)), (3, .int (nI j91)), (2, .int x331), (0, .ref mo), (1, .int (nI j4))]) hx hb dX11_enough_76 hl (k := 1) rfl (nI_1 j92) (by decide) rfl (fun ls hl => ?_)
                    refine lv_goto (tgt := 39) hx hb dX11_enough_79 (by decide) ?_
                    exact ihj92 (j92 + 1) (x429 + 0) H locs ls (by omega) (by omega)  (hP.sub [0, 1, 2] rfl) (hD.sub [0, 1, 2] (by decide) rfl) hS (lv_sub hl [0, 1, 2, 3, 4, 5] rfl)
                  · skip
                    have hP : va_P D vwCl [(mrf, .inl (y 0, 3, .inl frf)), (mo, .inr (11, [.ref to, .ref ke, .ref ik, .ref mrf, .long mab, .long mbl, .ref ha, .ref r0, .ref mbr, .ref mbp, .ref mby, .int (nI bl), .int (nI ta), .int (nI tl), .int (nI tk), .int vv, .ref an, .ref va])), (to, .inl (y 0, 228, .inl ft))] H := hP
                    have hD : va_D A [(mrf, .inl (y 0, 3, .inl frf)), (mo, .inr (11, [.ref to, .ref ke, .ref ik, .ref mrf, .long mab, .long mbl, .ref ha, .ref r0, .ref mbr, .ref mbp, .ref mby, .int (nI bl), .int (nI ta), .int (nI tl), .int (nI tk), .int vv, .ref an, .ref va])), (to, .inl (y 0, 228, .inl ft))] := hD
                    refine lv_if_eq (tgt := 72) hx hb dX11_enough_56 (by decide) (fun h9 => absurd h9 (by decide)) (fun _ => ?_)
                    refine lv_aload_n hx hb dX11_enough_59 rfl (lv_at hl 4 rfl) ?_
                    refine va_get (D := D) (ci := 11) (v := .ref to) (C := RX11) (T := TX11) (N := 18) hx hb hts iw11 hown hK hP 1 rfl rfl 0 (by decide) fw2 (fun _ h9 => h9) rfl dX11_enough_60 ?_
                    refine lv_bipush (v := 16) hx hb dX11_enough_63 (by decide) ?_
                    refine lv_iload hx hb dX11_enough_65 (lv_at hl 0 rfl) ?_
                    refine lv_iadd hx hb dX11_enough_67 ?_
                    rw [show 16 + (nI j92) = nI (j92 + 16) from (nI_add 16 j92).trans (congrArg nI (by omega))]
                    refine va_iald hx hb hK hP 2 0 rfl rfl (vp_in_nI (by omega) (by decide)) dX11_enough_68 ?_
                    rw [nI_clamp (n := (j92 + 16)) (by omega)]
                    refine lv_goto (tgt := 73) hx hb dX11_enough_69 (by decide) ?_
                    refine lv_iadd hx hb dX11_enough_73 ?_
                    refine lv_istore (lv' := [(4, .int (x429 + (ft (j92 + 16)))), (5, .int (nI j92)), (3, .int (nI j91)), (2, .int x331), (0, .ref mo), (1, .int (nI j4))]) hx hb dX11_enough_74 hl (by decide) rfl (fun ls hl => ?_)
                    refine lv_iinc (v := (nI (j92 + 1))) (lv' := [(5, .int (nI (j92 + 1))), (4, .int (x429 + (ft (j92 + 16)))), (3, .int (nI j91)), (2, .int x331), (0, .ref mo), (1, .int (nI j4))]) hx hb dX11_enough_76 hl (k := 1) rfl (nI_1 j92) (by decide) rfl (fun ls hl => ?_)
                    refine lv_goto (tgt := 39) hx hb dX11_enough_79 (by decide) ?_
                    exact ihj92 (j92 + 1) (x429 + (ft (j92 + 16))) H locs ls (by omega) (by omega)  (hP.sub [0, 1, 2] rfl) (hD.sub [0, 1, 2] (by decide) rfl) hS (lv_sub hl [0, 1, 2, 3, 4, 5] rfl)
            exact lp450 (2 + 1) 0 0 _ _ _ (by omega) (by omega)  hP hD hS (lv_sub hl [0, 1, 2, 3, 4, 5] rfl)
      exact lp401 (4 + 1) 0 (-1) _ _ _ (by omega) (by omega)  hP hD hS (lv_sub hl [0, 1, 2, 3] rfl)
    · skip
      refine lv_iconst (v := 0) hx hb dX11_enough_21 (by decide) ?_
      refine lv_istore_n (lv' := [(3, .int 0), (2, .int (-1)), (0, .ref mo), (1, .int (nI j4))]) hx hb dX11_enough_22 rfl hl (by decide) rfl (fun ls hl => ?_)
      have lp580 : ∀ (fuj91 j91 : Nat) (x510 : Int32) (H : Heap) (locs : List Loc) (ls : Array Slot), j91 ≤ 8 → 8 - j91 < fuj91 → va_P D vwCl [(mo, .inr (11, [.ref to, .ref ke, .ref ik, .ref mrf, .long mab, .long mbl, .ref ha, .ref r0, .ref mbr, .ref mbp, .ref mby, .int (nI bl), .int (nI ta), .int (nI tl), .int (nI tk), .int vv, .ref an, .ref va])), (mrf, .inl (y 0, 3, .inl frf)), (to, .inl (y 0, 228, .inl ft))] H → va_D A [(mo, .inr (11, [.ref to, .ref ke, .ref ik, .ref mrf, .long mab, .long mbl, .ref ha, .ref r0, .ref mbr, .ref mbp, .ref mby, .int (nI bl), .int (nI ta), .int (nI tl), .int (nI tk), .int vv, .ref an, .ref va])), (mrf, .inl (y 0, 3, .inl frf)), (to, .inl (y 0, 228, .inl ft))] → va_S A s.heap H locs → lv_has ls 6 [(3, .int (nI j91)), (2, .int x510), (0, .ref mo), (1, .int (nI j4))] → W pZ l eZ ({ frames := 2, cells := 0, slots := 0, locals := 85 }) s mZ [.ref mo, .int (nI j4)].toArray beZ meZ cZ H locs 0 0 (MQ beZ (va_Qi (fun (r : Int32) (u : (Nat → Int32)) => (3 = 0 ∨ 0 < fi)) (kw_B D (fun u => [(mo, .inr (11, [.ref to, .ref ke, .ref ik, .ref mrf, .long mab, .long mbl, .ref ha, .ref r0, .ref mbr, .ref mbp, .ref mby, .int (nI bl), .int (nI ta), .int (nI tl), .int (nI tk), .int vv, .ref an, .ref va])), (mrf, .inl (y 0, 3, .inl u)), (to, .inl (y 0, 228, .inl ft))]) A) A) [.ref mo, .int (nI j4)].toArray s 0 0 A) (F0 mZ 23 ls []) := by
        intro fuj91
        induction fuj91 with
        | zero => intro j91 x510 H locs ls hj9 hf9; exact absurd hf9 (Nat.not_lt_zero _)
        | succ fuj91 ihj91 =>
          intro j91 x510 H locs ls hj91 hfj91  hP hD hS hl
          refine lv_iload_n hx hb dX11_enough_23 rfl (lv_at hl 0 rfl) ?_
          refine lv_iconst (v := 1) hx hb dX11_enough_24 (by decide) ?_
          refine lv_aload_n hx hb dX11_enough_25 rfl (lv_at hl 2 rfl) ?_
          have hs581 : kw_Split [(mo, .inr (11, [.ref to, .ref ke, .ref ik, .ref mrf, .long mab, .long mbl, .ref ha, .ref r0, .ref mbr, .ref mbp, .ref mby, .int (nI bl), .int (nI ta), .int (nI tl), .int (nI tk), .int vv, .ref an, .ref va])), (mrf, .inl (y 0, 3, .inl frf)), (to, .inl (y 0, 228, .inl ft))] [(mo, .inr (11, [.ref to, .ref ke, .ref ik, .ref mrf, .long mab, .long mbl, .ref ha, .ref r0, .ref mbr, .ref mbp, .ref mby, .int (nI bl), .int (nI ta), .int (nI tl), .int (nI tk), .int vv, .ref an, .ref va])), (to, .inl (y 0, 228, .inl ft))] [(mrf, .inl (y 0, 3, .inl frf))] [0, 2] [1] := ⟨rfl, rfl, rfl, rfl, rfl, by decide⟩
          refine kw_go_i hs581 hP hD hS hA (va_runV (As := []) (rest := [.int 1, .int (nI j91)]) ⟨hx, hb, hml, hown, hts⟩ (gr_manyGleaners l D y mo to ke ik mrf ha r0 mbr mbp mby an va mab mbl bl ta tl tk vv ft fi 3 mi no un hk0_ hk1_ hk2_ hk3_ hk4_ hkt hfi hgl hmi hno hun _) (cwV 0 hts gX11_enough_X11_manyGleaners rfl rfl rfl (by decide +kernel) ⟨Nat.le_of_ble_eq_true rfl, Nat.le_of_ble_eq_true rfl⟩) (kw_PreV (ci := 11) (q0 := 0) hs581 hP hD hK hN rfl rfl) rfl rfl hl.1 rfl (lv_room (Nat.le_of_ble_eq_true rfl)) dX11_enough_26 ⟨Nat.le_of_ble_eq_true rfl, Nat.le_of_ble_eq_true rfl⟩) (fun r582 u583 H locs hq hP hD hS => ?_)
          obtain rfl := hq
          have hP : va_P D vwCl [(mrf, .inl (y 0, 3, .inl frf)), (mo, .inr (11, [.ref to, .ref ke, .ref ik, .ref mrf, .long mab, .long mbl, .ref ha, .ref r0, .ref mbr, .ref mbp, .ref mby, .int (nI bl), .int (nI ta), .int (nI tl), .int (nI tk), .int vv, .ref an, .ref va])), (to, .inl (y 0, 228, .inl ft))] H := hP
          have hD : va_D A [(mrf, .inl (y 0, 3, .inl frf)), (mo, .inr (11, [.ref to, .ref ke, .ref ik, .ref mrf, .long mab, .long mbl, .ref ha, .ref r0, .ref mbr, .ref mbp, .ref mby, .int (nI bl), .int (nI ta), .int (nI tl), .int (nI tk), .int vv, .ref an, .ref va])), (to, .inl (y 0, 228, .inl ft))] := hD
          refine lv_ishl hx hb dX11_enough_29 ?_
          refine lv_topi (fun z584 hz584 => ?_)
          obtain rfl : z584 = 8 := hz584.trans (by decide)
          refine lv_icmp_ge (tgt := 116) hx hb dX11_enough_30 (by decide) (fun h585 => ?_) (fun h586 => ?_)
          · skip
            have h585 : 8 ≤ j91 := (nI_leI (a := 8) (b := j91) (by omega) (by omega)).mp h585
            refine lv_iload_n hx hb dX11_enough_116 rfl (lv_at hl 1 rfl) ?_
            exact W.iret (v := x510) hx hb hr (fun tZ ht hW => ⟨⟨x510, (frf), rfl, by first | omega | (dsimp only; omega), by rw [ht]; exact hP.sub [1, 0, 2] rfl, hD.sub [1, 0, 2] (by decide) rfl⟩, hS.F ht⟩) hS.2.2 dX11_enough_117
          · skip
            have h586 : ¬ 8 ≤ j91 := fun q9 => h586 ((nI_leI (a := 8) (b := j91) (by omega) (by omega)).mpr q9)
            refine lv_iconst (v := 0) hx hb dX11_enough_33 (by decide) ?_
            refine lv_istore (lv' := [(4, .int 0), (3, .int (nI j91)), (2, .int x510), (0, .ref mo), (1, .int (nI j4))]) hx hb dX11_enough_34 hl (by decide) rfl (fun ls hl => ?_)
            refine lv_iconst (v := 0) hx hb dX11_enough_36 (by decide) ?_
            refine lv_istore (lv' := [(5, .int 0), (4, .int 0), (3, .int (nI j91)), (2, .int x510), (0, .ref mo), (1, .int (nI j4))]) hx hb dX11_enough_37 hl (by decide) rfl (fun ls hl => ?_)
            have lp629 : ∀ (fuj92 j92 : Nat) (x608 : Int32) (H : Heap) (locs : List Loc) (ls : Array Slot), j92 ≤ 3 → 3 - j92 < fuj92 → va_P D vwCl [(mrf, .inl (y 0, 3, .inl frf)), (mo, .inr (11, [.ref to, .ref ke, .ref ik, .ref mrf, .long mab, .long mbl, .ref ha, .ref r0, .ref mbr, .ref mbp, .ref mby, .int (nI bl), .int (nI ta), .int (nI tl), .int (nI tk), .int vv, .ref an, .ref va])), (to, .inl (y 0, 228, .inl ft))] H → va_D A [(mrf, .inl (y 0, 3, .inl frf)), (mo, .inr (11, [.ref to, .ref ke, .ref ik, .ref mrf, .long mab, .long mbl, .ref ha, .ref r0, .ref mbr, .ref mbp, .ref mby, .int (nI bl), .int (nI ta), .int (nI tl), .int (nI tk), .int vv, .ref an, .ref va])), (to, .inl (y 0, 228, .inl ft))] → va_S A s.heap H locs → lv_has ls 6 [(5, .int (nI j92)), (4, .int x608), (3, .int (nI j91)), (2, .int x510), (0, .ref mo), (1, .int (nI j4))] → W pZ l eZ ({ frames := 2, cells := 0, slots := 0, locals := 85 }) s mZ [.ref mo, .int (nI j4)].toArray beZ meZ cZ H locs 0 0 (MQ beZ (va_Qi (fun (r : Int32) (u : (Nat → Int32)) => (3 = 0 ∨ 0 < fi)) (kw_B D (fun u => [(mo, .inr (11, [.ref to, .ref ke, .ref ik, .ref mrf, .long mab, .long mbl, .ref ha, .ref r0, .ref mbr, .ref mbp, .ref mby, .int (nI bl), .int (nI ta), .int (nI tl), .int (nI tk), .int vv, .ref an, .ref va])), (mrf, .inl (y 0, 3, .inl u)), (to, .inl (y 0, 228, .inl ft))]) A) A) [.ref mo, .int (nI j4)].toArray s 0 0 A) (F0 mZ 39 ls []) := by
              intro fuj92
              induction fuj92 with
              | zero => intro j92 x608 H locs ls hj9 hf9; exact absurd hf9 (Nat.not_lt_zero _)
              | succ fuj92 ihj92 =>
                intro j92 x608 H locs ls hj92 hfj92  hP hD hS hl
                refine lv_iload hx hb dX11_enough_39 (lv_at hl 0 rfl) ?_
                refine lv_aload_n hx hb dX11_enough_41 rfl (lv_at hl 4 rfl) ?_
                have hs630 : kw_Split [(mrf, .inl (y 0, 3, .inl frf)), (mo, .inr (11, [.ref to, .ref ke, .ref ik, .ref mrf, .long mab, .long mbl, .ref ha, .ref r0, .ref mbr, .ref mbp, .ref mby, .int (nI bl), .int (nI ta), .int (nI tl), .int (nI tk), .int vv, .ref an, .ref va])), (to, .inl (y 0, 228, .inl ft))] [(mo, .inr (11, [.ref to, .ref ke, .ref ik, .ref mrf, .long mab, .long mbl, .ref ha, .ref r0, .ref mbr, .ref mbp, .ref mby, .int (nI bl), .int (nI ta), .int (nI tl), .int (nI tk), .int vv, .ref an, .ref va])), (to, .inl (y 0, 228, .inl ft))] [(mrf, .inl (y 0, 3, .inl frf))] [1, 2] [0] := ⟨rfl, rfl, rfl, rfl, rfl, by decide⟩
                refine kw_go_i hs630 hP hD hS hA (va_runV (As := []) (rest := [.int (nI j92)]) ⟨hx, hb, hml, hown, hts⟩ (gr_manyGleaners l D y mo to ke ik mrf ha r0 mbr mbp mby an va mab mbl bl ta tl tk vv ft fi 3 mi no un hk0_ hk1_ hk2_ hk3_ hk4_ hkt hfi hgl hmi hno hun _) (cwV 0 hts gX11_enough_X11_manyGleaners rfl rfl rfl (by decide +kernel) ⟨Nat.le_of_ble_eq_true rfl, Nat.le_of_ble_eq_true rfl⟩) (kw_PreV (ci := 11) (q0 := 1) hs630 hP hD hK hN rfl rfl) rfl rfl hl.1 rfl (lv_room (Nat.le_of_ble_eq_true rfl)) dX11_enough_42 ⟨Nat.le_of_ble_eq_true rfl, Nat.le_of_ble_eq_true rfl⟩) (fun r631 u632 H locs hq hP hD hS => ?_)
                obtain rfl := hq
                have hP : va_P D vwCl [(mrf, .inl (y 0, 3, .inl frf)), (mo, .inr (11, [.ref to, .ref ke, .ref ik, .ref mrf, .long mab, .long mbl, .ref ha, .ref r0, .ref mbr, .ref mbp, .ref mby, .int (nI bl), .int (nI ta), .int (nI tl), .int (nI tk), .int vv, .ref an, .ref va])), (to, .inl (y 0, 228, .inl ft))] H := hP
                have hD : va_D A [(mrf, .inl (y 0, 3, .inl frf)), (mo, .inr (11, [.ref to, .ref ke, .ref ik, .ref mrf, .long mab, .long mbl, .ref ha, .ref r0, .ref mbr, .ref mbp, .ref mby, .int (nI bl), .int (nI ta), .int (nI tl), .int (nI tk), .int vv, .ref an, .ref va])), (to, .inl (y 0, 228, .inl ft))] := hD
                refine lv_icmp_ge (tgt := 82) hx hb dX11_enough_45 (by decide) (fun h633 => ?_) (fun h634 => ?_)
                · skip
                  have h633 : 3 ≤ j92 := (nI_leI (a := 3) (b := j92) (by omega) (by omega)).mp h633
                  refine lv_iload hx hb dX11_enough_82 (lv_at hl 1 rfl) ?_
                  refine lv_iload_n hx hb dX11_enough_84 rfl (lv_at hl 5 rfl) ?_
                  refine lv_icmp_lt (tgt := 108) hx hb dX11_enough_85 (by decide) (fun h635 => ?_) (fun h636 => ?_)
                  · skip
                    refine lv_iload_n hx hb dX11_enough_108 rfl (lv_at hl 3 rfl) ?_
                    refine lv_istore_n (lv' := [(2, .int x510), (5, .int (nI j92)), (4, .int x608), (3, .int (nI j91)), (0, .ref mo), (1, .int (nI j4))]) hx hb dX11_enough_109 rfl hl (by decide) rfl (fun ls hl => ?_)
                    refine lv_iinc (v := (nI (j91 + 1))) (lv' := [(3, .int (nI (j91 + 1))), (2, .int x510), (5, .int (nI j92)), (4, .int x608), (0, .ref mo), (1, .int (nI j4))]) hx hb dX11_enough_110 hl (k := 3) rfl (nI_1 j91) (by decide) rfl (fun ls hl => ?_)
                    refine lv_goto (tgt := 23) hx hb dX11_enough_113 (by decide) ?_
                    exact ihj91 (j91 + 1) x510 H locs ls (by omega) (by omega)  (hP.sub [1, 0, 2] rfl) (hD.sub [1, 0, 2] (by decide) rfl) hS (lv_sub hl [0, 1, 4, 5] rfl)
                  · skip
                    refine lv_iload_n hx hb dX11_enough_88 rfl (lv_at hl 3 rfl) ?_
                    refine lv_iconst (v := (-1)) hx hb dX11_enough_89 (by decide) ?_
                    refine lv_icmp_eq (tgt := 104) hx hb dX11_enough_90 (by decide) (fun h637 => ?_) (fun h638 => ?_)
                    · skip
                      refine lv_iload_n hx hb dX11_enough_104 rfl (lv_at hl 2 rfl) ?_
                      refine lv_goto (tgt := 109) hx hb dX11_enough_105 (by decide) ?_
                      refine lv_istore_n (lv' := [(2, .int (nI j91)), (5, .int (nI j92)), (4, .int x608), (3, .int (nI j91)), (0, .ref mo), (1, .int (nI j4))]) hx hb dX11_enough_109 rfl hl (by decide) rfl (fun ls hl => ?_)
                      refine lv_iinc (v := (nI (j91 + 1))) (lv' := [(3, .int (nI (j91 + 1))), (2, .int (nI j91)), (5, .int (nI j92)), (4, .int x608), (0, .ref mo), (1, .int (nI j4))]) hx hb dX11_enough_110 hl (k := 3) rfl (nI_1 j91) (by decide) rfl (fun ls hl => ?_)
                      refine lv_goto (tgt := 23) hx hb dX11_enough_113 (by decide) ?_
                      exact ihj91 (j91 + 1) (nI j91) H locs ls (by omega) (by omega)  (hP.sub [1, 0, 2] rfl) (hD.sub [1, 0, 2] (by decide) rfl) hS (lv_sub hl [0, 1, 4, 5] rfl)
                    · skip
                      refine lv_iload_n hx hb dX11_enough_93 rfl (lv_at hl 2 rfl) ?_
                      have hs639 : kw_Split [(mrf, .inl (y 0, 3, .inl frf)), (mo, .inr (11, [.ref to, .ref ke, .ref ik, .ref mrf, .long mab, .long mbl, .ref ha, .ref r0, .ref mbr, .ref mbp, .ref mby, .int (nI bl), .int (nI ta), .int (nI tl), .int (nI tk), .int vv, .ref an, .ref va])), (to, .inl (y 0, 228, .inl ft))] [] [(mrf, .inl (y 0, 3, .inl frf)), (mo, .inr (11, [.ref to, .ref ke, .ref ik, .ref mrf, .long mab, .long mbl, .ref ha, .ref r0, .ref mbr, .ref mbp, .ref mby, .int (nI bl), .int (nI ta), .int (nI tl), .int (nI tk), .int vv, .ref an, .ref va])), (to, .inl (y 0, 228, .inl ft))] [] [0, 1, 2] := ⟨rfl, rfl, rfl, rfl, rfl, by decide⟩
                      refine kw_go_i hs639 hP hD hS hA (va_runS (As := [.int (nI j91)]) (rest := []) ⟨hx, hb, hml, hown, hts⟩ (gr_bits l D y (nI j91)  _) (va_cwS 1 hts gX11_enough_X11_bits rfl rfl rfl (by decide +kernel) ⟨Nat.le_of_ble_eq_true rfl, Nat.le_of_ble_eq_true rfl⟩) (kw_PreS hs639 hP hD hK hN) rfl rfl hl.1 rfl (lv_room (Nat.le_of_ble_eq_true rfl)) dX11_enough_94 ⟨Nat.le_of_ble_eq_true rfl, Nat.le_of_ble_eq_true rfl⟩) (fun r640 u641 H locs hq hP hD hS => ?_)
                      have hP : va_P D vwCl [(mrf, .inl (y 0, 3, .inl frf)), (mo, .inr (11, [.ref to, .ref ke, .ref ik, .ref mrf, .long mab, .long mbl, .ref ha, .ref r0, .ref mbr, .ref mbp, .ref mby, .int (nI bl), .int (nI ta), .int (nI tl), .int (nI tk), .int vv, .ref an, .ref va])), (to, .inl (y 0, 228, .inl ft))] H := hP
                      have hD : va_D A [(mrf, .inl (y 0, 3, .inl frf)), (mo, .inr (11, [.ref to, .ref ke, .ref ik, .ref mrf, .long mab, .long mbl, .ref ha, .ref r0, .ref mbr, .ref mbp, .ref mby, .int (nI bl), .int (nI ta), .int (nI tl), .int (nI tk), .int vv, .ref an, .ref va])), (to, .inl (y 0, 228, .inl ft))] := hD
                      refine lv_iload_n hx hb dX11_enough_97 rfl (lv_at hl 3 rfl) ?_
                      have hs642 : kw_Split [(mrf, .inl (y 0, 3, .inl frf)), (mo, .inr (11, [.ref to, .ref ke, .ref ik, .ref mrf, .long mab, .long mbl, .ref ha, .ref r0, .ref mbr, .ref mbp, .ref mby, .int (nI bl), .int (nI ta), .int (nI tl), .int (nI tk), .int vv, .ref an, .ref va])), (to, .inl (y 0, 228, .inl ft))] [] [(mrf, .inl (y 0, 3, .inl frf)), (mo, .inr (11, [.ref to, .ref ke, .ref ik, .ref mrf, .long mab, .long mbl, .ref ha, .ref r0, .ref mbr, .ref mbp, .ref mby, .int (nI bl), .int (nI ta), .int (nI tl), .int (nI tk), .int vv, .ref an, .ref va])), (to, .inl (y 0, 228, .inl ft))] [] [0, 1, 2] := ⟨rfl, rfl, rfl, rfl, rfl, by decide⟩
                      refine kw_go_i hs642 hP hD hS hA (va_runS (As := [.int x510]) (rest := [.int r640]) ⟨hx, hb, hml, hown, hts⟩ (gr_bits l D y x510  _) (va_cwS 1 hts gX11_enough_X11_bits rfl rfl rfl (by decide +kernel) ⟨Nat.le_of_ble_eq_true rfl, Nat.le_of_ble_eq_true rfl⟩) (kw_PreS hs642 hP hD hK hN) rfl rfl hl.1 rfl (lv_room (Nat.le_of_ble_eq_true rfl)) dX11_enough_98 ⟨Nat.le_of_ble_eq_true rfl, Nat.le_of_ble_eq_true rfl⟩) (fun r643 u644 H locs hq hP hD hS => ?_)
                      have hP : va_P D vwCl [(mrf, .inl (y 0, 3, .inl frf)), (mo, .inr (11, [.ref to, .ref ke, .ref ik, .ref mrf, .long mab, .long mbl, .ref ha, .ref r0, .ref mbr, .ref mbp, .ref mby, .int (nI bl), .int (nI ta), .int (nI tl), .int (nI tk), .int vv, .ref an, .ref va])), (to, .inl (y 0, 228, .inl ft))] H := hP
                      have hD : va_D A [(mrf, .inl (y 0, 3, .inl frf)), (mo, .inr (11, [.ref to, .ref ke, .ref ik, .ref mrf, .long mab, .long mbl, .ref ha, .ref r0, .ref mbr, .ref mbp, .ref mby, .int (nI bl), .int (nI ta), .int (nI tl), .int (nI tk), .int vv, .ref an, .ref va])), (to, .inl (y 0, 228, .inl ft))] := hD
                      refine lv_icmp_ge (tgt := 108) hx hb dX11_enough_101 (by decide) (fun h645 => ?_) (fun h646 => ?_)
                      · skip
                        refine lv_iload_n hx hb dX11_enough_108 rfl (lv_at hl 3 rfl) ?_
                        refine lv_istore_n (lv' := [(2, .int x510), (5, .int (nI j92)), (4, .int x608), (3, .int (nI j91)), (0, .ref mo), (1, .int (nI j4))]) hx hb dX11_enough_109 rfl hl (by decide) rfl (fun ls hl => ?_)
                        refine lv_iinc (v := (nI (j91 + 1))) (lv' := [(3, .int (nI (j91 + 1))), (2, .int x510), (5, .int (nI j92)), (4, .int x608), (0, .ref mo), (1, .int (nI j4))]) hx hb dX11_enough_110 hl (k := 3) rfl (nI_1 j91) (by decide) rfl (fun ls hl => ?_)
                        refine lv_goto (tgt := 23) hx hb dX11_enough_113 (by decide) ?_
                        exact ihj91 (j91 + 1) x510 H locs ls (by omega) (by omega)  (hP.sub [1, 0, 2] rfl) (hD.sub [1, 0, 2] (by decide) rfl) hS (lv_sub hl [0, 1, 4, 5] rfl)
                      · skip
                        refine lv_iload_n hx hb dX11_enough_104 rfl (lv_at hl 2 rfl) ?_
                        refine lv_goto (tgt := 109) hx hb dX11_enough_105 (by decide) ?_
                        refine lv_istore_n (lv' := [(2, .int (nI j91)), (5, .int (nI j92)), (4, .int x608), (3, .int (nI j91)), (0, .ref mo), (1, .int (nI j4))]) hx hb dX11_enough_109 rfl hl (by decide) rfl (fun ls hl => ?_)
                        refine lv_iinc (v := (nI (j91 + 1))) (lv' := [(3, .int (nI (j91 + 1))), (2, .int (nI j91)), (5, .int (nI j92)), (4, .int x608), (0, .ref mo), (1, .int (nI j4))]) hx hb dX11_enough_110 hl (k := 3) rfl (nI_1 j91) (by decide) rfl (fun ls hl => ?_)
                        refine lv_goto (tgt := 23) hx hb dX11_enough_113 (by decide) ?_
                        exact ihj91 (j91 + 1) (nI j91) H locs ls (by omega) (by omega)  (hP.sub [1, 0, 2] rfl) (hD.sub [1, 0, 2] (by decide) rfl) hS (lv_sub hl [0, 1, 4, 5] rfl)
                · skip
                  have h634 : ¬ 3 ≤ j92 := fun q9 => h634 ((nI_leI (a := 3) (b := j92) (by omega) (by omega)).mpr q9)
                  refine lv_iload hx hb dX11_enough_48 (lv_at hl 1 rfl) ?_
                  refine lv_iload_n hx hb dX11_enough_50 rfl (lv_at hl 2 rfl) ?_
                  refine lv_iload hx hb dX11_enough_51 (lv_at hl 0 rfl) ?_
                  have hs647 : kw_Split [(mrf, .inl (y 0, 3, .inl frf)), (mo, .inr (11, [.ref to, .ref ke, .ref ik, .ref mrf, .long mab, .long mbl, .ref ha, .ref r0, .ref mbr, .ref mbp, .ref mby, .int (nI bl), .int (nI ta), .int (nI tl), .int (nI tk), .int vv, .ref an, .ref va])), (to, .inl (y 0, 228, .inl ft))] [] [(mrf, .inl (y 0, 3, .inl frf)), (mo, .inr (11, [.ref to, .ref ke, .ref ik, .ref mrf, .long mab, .long mbl, .ref ha, .ref r0, .ref mbr, .ref mbp, .ref mby, .int (nI bl), .int (nI ta), .int (nI tl), .int (nI tk), .int vv, .ref an, .ref va])), (to, .inl (y 0, 228, .inl ft))] [] [0, 1, 2] := ⟨rfl, rfl, rfl, rfl, rfl, by decide⟩
                  refine kw_go_i hs647 hP hD hS hA (va_runS (As := [.int (nI j91), .int (nI j92)]) (rest := [.int x608]) ⟨hx, hb, hml, hown, hts⟩ (gr_has l D y (nI j91) (nI j92)  _) (va_cwS 2 hts gX11_enough_X11_has rfl rfl rfl (by decide +kernel) ⟨Nat.le_of_ble_eq_true rfl, Nat.le_of_ble_eq_true rfl⟩) (kw_PreS hs647 hP hD hK hN) rfl rfl hl.1 rfl (lv_room (Nat.le_of_ble_eq_true rfl)) dX11_enough_53 ⟨Nat.le_of_ble_eq_true rfl, Nat.le_of_ble_eq_true rfl⟩) (fun r648 u649 H locs hq hP hD hS => ?_)
                  obtain (rfl | rfl) := hq
                  · skip
                    have hP : va_P D vwCl [(mrf, .inl (y 0, 3, .inl frf)), (mo, .inr (11, [.ref to, .ref ke, .ref ik, .ref mrf, .long mab, .long mbl, .ref ha, .ref r0, .ref mbr, .ref mbp, .ref mby, .int (nI bl), .int (nI ta), .int (nI tl), .int (nI tk), .int vv, .ref an, .ref va])), (to, .inl (y 0, 228, .inl ft))] H := hP
                    have hD : va_D A [(mrf, .inl (y 0, 3, .inl frf)), (mo, .inr (11, [.ref to, .ref ke, .ref ik, .ref mrf, .long mab, .long mbl, .ref ha, .ref r0, .ref mbr, .ref mbp, .ref mby, .int (nI bl), .int (nI ta), .int (nI tl), .int (nI tk), .int vv, .ref an, .ref va])), (to, .inl (y 0, 228, .inl ft))] := hD
                    refine lv_if_eq (tgt := 72) hx hb dX11_enough_56 (by decide) (fun _ => ?_) (fun h9 => absurd h9 (by decide))
                    refine lv_iconst (v := 0) hx hb dX11_enough_72 (by decide) ?_
                    refine lv_iadd hx hb dX11_enough_73 ?_
                    refine lv_istore (lv' := [(4, .int (x608 + 0)), (5, .int (nI j92)), (3, .int (nI j91)), (2, .int x510), (0, .ref mo), (1, .int (nI j4))]) hx hb dX11_enough_74 hl (by decide) rfl (fun ls hl => ?_)
                    refine lv_iinc (v := (nI (j92 + 1))) (lv' := [(5, .int (nI (j92 + 1))), (4, .int (x608 + 0)), (3, .int (nI j91)), (2, .int x510), (0, .ref mo), (1, .int (nI j4))]) hx hb dX11_enough_76 hl (k := 1) rfl (nI_1 j92) (by decide) rfl (fun ls hl => ?_)
                    refine lv_goto (tgt := 39) hx hb dX11_enough_79 (by decide) ?_
                    exact ihj92 (j92 + 1) (x608 + 0) H locs ls (by omega) (by omega)  (hP.sub [0, 1, 2] rfl) (hD.sub [0, 1, 2] (by decide) rfl) hS (lv_sub hl [0, 1, 2, 3, 4, 5] rfl)
                  · skip
                    have hP : va_P D vwCl [(mrf, .inl (y 0, 3, .inl frf)), (mo, .inr (11, [.ref to, .ref ke, .ref ik, .ref mrf, .long mab, .long mbl, .ref ha, .ref r0, .ref mbr, .ref mbp, .ref mby, .int (nI bl), .int (nI ta), .int (nI tl), .int (nI tk), .int vv, .ref an, .ref va])), (to, .inl (y 0, 228, .inl ft))] H := hP
                    have hD : va_D A [(mrf, .inl (y 0, 3, .inl frf)), (mo, .inr (11, [.ref to, .ref ke, .ref ik, .ref mrf, .long mab, .long mbl, .ref ha, .ref r0, .ref mbr, .ref mbp, .ref mby, .int (nI bl), .int (nI ta), .int (nI tl), .int (nI tk), .int vv, .ref an, .ref va])), (to, .inl (y 0, 228, .inl ft))] := hD
                    refine lv_if_eq (tgt := 72) hx hb dX11_enough_56 (by decide) (fun h9 => absurd h9 (by decide)) (fun _ => ?_)
                    refine lv_aload_n hx hb dX11_enough_59 rfl (lv_at hl 4 rfl) ?_
                    refine va_get (D := D) (ci := 11) (v := .ref to) (C := RX11) (T := TX11) (N := 18) hx hb hts iw11 hown hK hP 1 rfl rfl 0 (by decide) fw2 (fun _ h9 => h9) rfl dX11_enough_60 ?_
                    refine lv_bipush (v := 16) hx hb dX11_enough_63 (by decide) ?_
                    refine lv_iload hx hb dX11_enough_65 (lv_at hl 0 rfl) ?_
                    refine lv_iadd hx hb dX11_enough_67 ?_
                    rw [show 16 + (nI j92) = nI (j92 + 16) from (nI_add 16 j92).trans (congrArg nI (by omega))]
                    refine va_iald hx hb hK hP 2 0 rfl rfl (vp_in_nI (by omega) (by decide)) dX11_enough_68 ?_
                    rw [nI_clamp (n := (j92 + 16)) (by omega)]
                    refine lv_goto (tgt := 73) hx hb dX11_enough_69 (by decide) ?_
                    refine lv_iadd hx hb dX11_enough_73 ?_
                    refine lv_istore (lv' := [(4, .int (x608 + (ft (j92 + 16)))), (5, .int (nI j92)), (3, .int (nI j91)), (2, .int x510), (0, .ref mo), (1, .int (nI j4))]) hx hb dX11_enough_74 hl (by decide) rfl (fun ls hl => ?_)
                    refine lv_iinc (v := (nI (j92 + 1))) (lv' := [(5, .int (nI (j92 + 1))), (4, .int (x608 + (ft (j92 + 16)))), (3, .int (nI j91)), (2, .int x510), (0, .ref mo), (1, .int (nI j4))]) hx hb dX11_enough_76 hl (k := 1) rfl (nI_1 j92) (by decide) rfl (fun ls hl => ?_)
                    refine lv_goto (tgt := 39) hx hb dX11_enough_79 (by decide) ?_
                    exact ihj92 (j92 + 1) (x608 + (ft (j92 + 16))) H locs ls (by omega) (by omega)  (hP.sub [0, 1, 2] rfl) (hD.sub [0, 1, 2] (by decide) rfl) hS (lv_sub hl [0, 1, 2, 3, 4, 5] rfl)
            exact lp629 (3 + 1) 0 0 _ _ _ (by omega) (by omega)  hP hD hS (lv_sub hl [0, 1, 2, 3, 4, 5] rfl)
      exact lp580 (8 + 1) 0 (-1) _ _ _ (by omega) (by omega)  hP hD hS (lv_sub hl [0, 1, 2, 3] rfl)
    · skip
      refine lv_iconst (v := 0) hx hb dX11_enough_21 (by decide) ?_
      refine lv_istore_n (lv' := [(3, .int 0), (2, .int (-1)), (0, .ref mo), (1, .int (nI j4))]) hx hb dX11_enough_22 rfl hl (by decide) rfl (fun ls hl => ?_)
      have lp759 : ∀ (fuj91 j91 : Nat) (x689 : Int32) (H : Heap) (locs : List Loc) (ls : Array Slot), j91 ≤ 16 → 16 - j91 < fuj91 → va_P D vwCl [(mo, .inr (11, [.ref to, .ref ke, .ref ik, .ref mrf, .long mab, .long mbl, .ref ha, .ref r0, .ref mbr, .ref mbp, .ref mby, .int (nI bl), .int (nI ta), .int (nI tl), .int (nI tk), .int vv, .ref an, .ref va])), (mrf, .inl (y 0, 3, .inl frf)), (to, .inl (y 0, 228, .inl ft))] H → va_D A [(mo, .inr (11, [.ref to, .ref ke, .ref ik, .ref mrf, .long mab, .long mbl, .ref ha, .ref r0, .ref mbr, .ref mbp, .ref mby, .int (nI bl), .int (nI ta), .int (nI tl), .int (nI tk), .int vv, .ref an, .ref va])), (mrf, .inl (y 0, 3, .inl frf)), (to, .inl (y 0, 228, .inl ft))] → va_S A s.heap H locs → lv_has ls 6 [(3, .int (nI j91)), (2, .int x689), (0, .ref mo), (1, .int (nI j4))] → W pZ l eZ ({ frames := 2, cells := 0, slots := 0, locals := 85 }) s mZ [.ref mo, .int (nI j4)].toArray beZ meZ cZ H locs 0 0 (MQ beZ (va_Qi (fun (r : Int32) (u : (Nat → Int32)) => (4 = 0 ∨ 0 < fi)) (kw_B D (fun u => [(mo, .inr (11, [.ref to, .ref ke, .ref ik, .ref mrf, .long mab, .long mbl, .ref ha, .ref r0, .ref mbr, .ref mbp, .ref mby, .int (nI bl), .int (nI ta), .int (nI tl), .int (nI tk), .int vv, .ref an, .ref va])), (mrf, .inl (y 0, 3, .inl u)), (to, .inl (y 0, 228, .inl ft))]) A) A) [.ref mo, .int (nI j4)].toArray s 0 0 A) (F0 mZ 23 ls []) := by
        intro fuj91
        induction fuj91 with
        | zero => intro j91 x689 H locs ls hj9 hf9; exact absurd hf9 (Nat.not_lt_zero _)
        | succ fuj91 ihj91 =>
          intro j91 x689 H locs ls hj91 hfj91  hP hD hS hl
          refine lv_iload_n hx hb dX11_enough_23 rfl (lv_at hl 0 rfl) ?_
          refine lv_iconst (v := 1) hx hb dX11_enough_24 (by decide) ?_
          refine lv_aload_n hx hb dX11_enough_25 rfl (lv_at hl 2 rfl) ?_
          have hs760 : kw_Split [(mo, .inr (11, [.ref to, .ref ke, .ref ik, .ref mrf, .long mab, .long mbl, .ref ha, .ref r0, .ref mbr, .ref mbp, .ref mby, .int (nI bl), .int (nI ta), .int (nI tl), .int (nI tk), .int vv, .ref an, .ref va])), (mrf, .inl (y 0, 3, .inl frf)), (to, .inl (y 0, 228, .inl ft))] [(mo, .inr (11, [.ref to, .ref ke, .ref ik, .ref mrf, .long mab, .long mbl, .ref ha, .ref r0, .ref mbr, .ref mbp, .ref mby, .int (nI bl), .int (nI ta), .int (nI tl), .int (nI tk), .int vv, .ref an, .ref va])), (to, .inl (y 0, 228, .inl ft))] [(mrf, .inl (y 0, 3, .inl frf))] [0, 2] [1] := ⟨rfl, rfl, rfl, rfl, rfl, by decide⟩
          refine kw_go_i hs760 hP hD hS hA (va_runV (As := []) (rest := [.int 1, .int (nI j91)]) ⟨hx, hb, hml, hown, hts⟩ (gr_manyGleaners l D y mo to ke ik mrf ha r0 mbr mbp mby an va mab mbl bl ta tl tk vv ft fi 4 mi no un hk0_ hk1_ hk2_ hk3_ hk4_ hkt hfi hgl hmi hno hun _) (cwV 0 hts gX11_enough_X11_manyGleaners rfl rfl rfl (by decide +kernel) ⟨Nat.le_of_ble_eq_true rfl, Nat.le_of_ble_eq_true rfl⟩) (kw_PreV (ci := 11) (q0 := 0) hs760 hP hD hK hN rfl rfl) rfl rfl hl.1 rfl (lv_room (Nat.le_of_ble_eq_true rfl)) dX11_enough_26 ⟨Nat.le_of_ble_eq_true rfl, Nat.le_of_ble_eq_true rfl⟩) (fun r761 u762 H locs hq hP hD hS => ?_)
          obtain rfl := hq
          have hP : va_P D vwCl [(mrf, .inl (y 0, 3, .inl frf)), (mo, .inr (11, [.ref to, .ref ke, .ref ik, .ref mrf, .long mab, .long mbl, .ref ha, .ref r0, .ref mbr, .ref mbp, .ref mby, .int (nI bl), .int (nI ta), .int (nI tl), .int (nI tk), .int vv, .ref an, .ref va])), (to, .inl (y 0, 228, .inl ft))] H := hP
          have hD : va_D A [(mrf, .inl (y 0, 3, .inl frf)), (mo, .inr (11, [.ref to, .ref ke, .ref ik, .ref mrf, .long mab, .long mbl, .ref ha, .ref r0, .ref mbr, .ref mbp, .ref mby, .int (nI bl), .int (nI ta), .int (nI tl), .int (nI tk), .int vv, .ref an, .ref va])), (to, .inl (y 0, 228, .inl ft))] := hD
          refine lv_ishl hx hb dX11_enough_29 ?_
          refine lv_topi (fun z763 hz763 => ?_)
          obtain rfl : z763 = 16 := hz763.trans (by decide)
          refine lv_icmp_ge (tgt := 116) hx hb dX11_enough_30 (by decide) (fun h764 => ?_) (fun h765 => ?_)
          · skip
            have h764 : 16 ≤ j91 := (nI_leI (a := 16) (b := j91) (by omega) (by omega)).mp h764
            refine lv_iload_n hx hb dX11_enough_116 rfl (lv_at hl 1 rfl) ?_
            exact W.iret (v := x689) hx hb hr (fun tZ ht hW => ⟨⟨x689, (frf), rfl, by first | omega | (dsimp only; omega), by rw [ht]; exact hP.sub [1, 0, 2] rfl, hD.sub [1, 0, 2] (by decide) rfl⟩, hS.F ht⟩) hS.2.2 dX11_enough_117
          · skip
            have h765 : ¬ 16 ≤ j91 := fun q9 => h765 ((nI_leI (a := 16) (b := j91) (by omega) (by omega)).mpr q9)
            refine lv_iconst (v := 0) hx hb dX11_enough_33 (by decide) ?_
            refine lv_istore (lv' := [(4, .int 0), (3, .int (nI j91)), (2, .int x689), (0, .ref mo), (1, .int (nI j4))]) hx hb dX11_enough_34 hl (by decide) rfl (fun ls hl => ?_)
            refine lv_iconst (v := 0) hx hb dX11_enough_36 (by decide) ?_
            refine lv_istore (lv' := [(5, .int 0), (4, .int 0), (3, .int (nI j91)), (2, .int x689), (0, .ref mo), (1, .int (nI j4))]) hx hb dX11_enough_37 hl (by decide) rfl (fun ls hl => ?_)
            have lp808 : ∀ (fuj92 j92 : Nat) (x787 : Int32) (H : Heap) (locs : List Loc) (ls : Array Slot), j92 ≤ 4 → 4 - j92 < fuj92 → va_P D vwCl [(mrf, .inl (y 0, 3, .inl frf)), (mo, .inr (11, [.ref to, .ref ke, .ref ik, .ref mrf, .long mab, .long mbl, .ref ha, .ref r0, .ref mbr, .ref mbp, .ref mby, .int (nI bl), .int (nI ta), .int (nI tl), .int (nI tk), .int vv, .ref an, .ref va])), (to, .inl (y 0, 228, .inl ft))] H → va_D A [(mrf, .inl (y 0, 3, .inl frf)), (mo, .inr (11, [.ref to, .ref ke, .ref ik, .ref mrf, .long mab, .long mbl, .ref ha, .ref r0, .ref mbr, .ref mbp, .ref mby, .int (nI bl), .int (nI ta), .int (nI tl), .int (nI tk), .int vv, .ref an, .ref va])), (to, .inl (y 0, 228, .inl ft))] → va_S A s.heap H locs → lv_has ls 6 [(5, .int (nI j92)), (4, .int x787), (3, .int (nI j91)), (2, .int x689), (0, .ref mo), (1, .int (nI j4))] → W pZ l eZ ({ frames := 2, cells := 0, slots := 0, locals := 85 }) s mZ [.ref mo, .int (nI j4)].toArray beZ meZ cZ H locs 0 0 (MQ beZ (va_Qi (fun (r : Int32) (u : (Nat → Int32)) => (4 = 0 ∨ 0 < fi)) (kw_B D (fun u => [(mo, .inr (11, [.ref to, .ref ke, .ref ik, .ref mrf, .long mab, .long mbl, .ref ha, .ref r0, .ref mbr, .ref mbp, .ref mby, .int (nI bl), .int (nI ta), .int (nI tl), .int (nI tk), .int vv, .ref an, .ref va])), (mrf, .inl (y 0, 3, .inl u)), (to, .inl (y 0, 228, .inl ft))]) A) A) [.ref mo, .int (nI j4)].toArray s 0 0 A) (F0 mZ 39 ls []) := by
              intro fuj92
              induction fuj92 with
              | zero => intro j92 x787 H locs ls hj9 hf9; exact absurd hf9 (Nat.not_lt_zero _)
              | succ fuj92 ihj92 =>
                intro j92 x787 H locs ls hj92 hfj92  hP hD hS hl
                refine lv_iload hx hb dX11_enough_39 (lv_at hl 0 rfl) ?_
                refine lv_aload_n hx hb dX11_enough_41 rfl (lv_at hl 4 rfl) ?_
                have hs809 : kw_Split [(mrf, .inl (y 0, 3, .inl frf)), (mo, .inr (11, [.ref to, .ref ke, .ref ik, .ref mrf, .long mab, .long mbl, .ref ha, .ref r0, .ref mbr, .ref mbp, .ref mby, .int (nI bl), .int (nI ta), .int (nI tl), .int (nI tk), .int vv, .ref an, .ref va])), (to, .inl (y 0, 228, .inl ft))] [(mo, .inr (11, [.ref to, .ref ke, .ref ik, .ref mrf, .long mab, .long mbl, .ref ha, .ref r0, .ref mbr, .ref mbp, .ref mby, .int (nI bl), .int (nI ta), .int (nI tl), .int (nI tk), .int vv, .ref an, .ref va])), (to, .inl (y 0, 228, .inl ft))] [(mrf, .inl (y 0, 3, .inl frf))] [1, 2] [0] := ⟨rfl, rfl, rfl, rfl, rfl, by decide⟩
                refine kw_go_i hs809 hP hD hS hA (va_runV (As := []) (rest := [.int (nI j92)]) ⟨hx, hb, hml, hown, hts⟩ (gr_manyGleaners l D y mo to ke ik mrf ha r0 mbr mbp mby an va mab mbl bl ta tl tk vv ft fi 4 mi no un hk0_ hk1_ hk2_ hk3_ hk4_ hkt hfi hgl hmi hno hun _) (cwV 0 hts gX11_enough_X11_manyGleaners rfl rfl rfl (by decide +kernel) ⟨Nat.le_of_ble_eq_true rfl, Nat.le_of_ble_eq_true rfl⟩) (kw_PreV (ci := 11) (q0 := 1) hs809 hP hD hK hN rfl rfl) rfl rfl hl.1 rfl (lv_room (Nat.le_of_ble_eq_true rfl)) dX11_enough_42 ⟨Nat.le_of_ble_eq_true rfl, Nat.le_of_ble_eq_true rfl⟩) (fun r810 u811 H locs hq hP hD hS => ?_)
                obtain rfl := hq
                have hP : va_P D vwCl [(mrf, .inl (y 0, 3, .inl frf)), (mo, .inr (11, [.ref to, .ref ke, .ref ik, .ref mrf, .long mab, .long mbl, .ref ha, .ref r0, .ref mbr, .ref mbp, .ref mby, .int (nI bl), .int (nI ta), .int (nI tl), .int (nI tk), .int vv, .ref an, .ref va])), (to, .inl (y 0, 228, .inl ft))] H := hP
                have hD : va_D A [(mrf, .inl (y 0, 3, .inl frf)), (mo, .inr (11, [.ref to, .ref ke, .ref ik, .ref mrf, .long mab, .long mbl, .ref ha, .ref r0, .ref mbr, .ref mbp, .ref mby, .int (nI bl), .int (nI ta), .int (nI tl), .int (nI tk), .int vv, .ref an, .ref va])), (to, .inl (y 0, 228, .inl ft))] := hD
                refine lv_icmp_ge (tgt := 82) hx hb dX11_enough_45 (by decide) (fun h812 => ?_) (fun h813 => ?_)
                · skip
                  have h812 : 4 ≤ j92 := (nI_leI (a := 4) (b := j92) (by omega) (by omega)).mp h812
                  refine lv_iload hx hb dX11_enough_82 (lv_at hl 1 rfl) ?_
                  refine lv_iload_n hx hb dX11_enough_84 rfl (lv_at hl 5 rfl) ?_
                  refine lv_icmp_lt (tgt := 108) hx hb dX11_enough_85 (by decide) (fun h814 => ?_) (fun h815 => ?_)
                  · skip
                    refine lv_iload_n hx hb dX11_enough_108 rfl (lv_at hl 3 rfl) ?_
                    refine lv_istore_n (lv' := [(2, .int x689), (5, .int (nI j92)), (4, .int x787), (3, .int (nI j91)), (0, .ref mo), (1, .int (nI j4))]) hx hb dX11_enough_109 rfl hl (by decide) rfl (fun ls hl => ?_)
                    refine lv_iinc (v := (nI (j91 + 1))) (lv' := [(3, .int (nI (j91 + 1))), (2, .int x689), (5, .int (nI j92)), (4, .int x787), (0, .ref mo), (1, .int (nI j4))]) hx hb dX11_enough_110 hl (k := 3) rfl (nI_1 j91) (by decide) rfl (fun ls hl => ?_)
                    refine lv_goto (tgt := 23) hx hb dX11_enough_113 (by decide) ?_
                    exact ihj91 (j91 + 1) x689 H locs ls (by omega) (by omega)  (hP.sub [1, 0, 2] rfl) (hD.sub [1, 0, 2] (by decide) rfl) hS (lv_sub hl [0, 1, 4, 5] rfl)
                  · skip
                    refine lv_iload_n hx hb dX11_enough_88 rfl (lv_at hl 3 rfl) ?_
                    refine lv_iconst (v := (-1)) hx hb dX11_enough_89 (by decide) ?_
                    refine lv_icmp_eq (tgt := 104) hx hb dX11_enough_90 (by decide) (fun h816 => ?_) (fun h817 => ?_)
                    · skip
                      refine lv_iload_n hx hb dX11_enough_104 rfl (lv_at hl 2 rfl) ?_
                      refine lv_goto (tgt := 109) hx hb dX11_enough_105 (by decide) ?_
                      refine lv_istore_n (lv' := [(2, .int (nI j91)), (5, .int (nI j92)), (4, .int x787), (3, .int (nI j91)), (0, .ref mo), (1, .int (nI j4))]) hx hb dX11_enough_109 rfl hl (by decide) rfl (fun ls hl => ?_)
                      refine lv_iinc (v := (nI (j91 + 1))) (lv' := [(3, .int (nI (j91 + 1))), (2, .int (nI j91)), (5, .int (nI j92)), (4, .int x787), (0, .ref mo), (1, .int (nI j4))]) hx hb dX11_enough_110 hl (k := 3) rfl (nI_1 j91) (by decide) rfl (fun ls hl => ?_)
                      refine lv_goto (tgt := 23) hx hb dX11_enough_113 (by decide) ?_
                      exact ihj91 (j91 + 1) (nI j91) H locs ls (by omega) (by omega)  (hP.sub [1, 0, 2] rfl) (hD.sub [1, 0, 2] (by decide) rfl) hS (lv_sub hl [0, 1, 4, 5] rfl)
                    · skip
                      refine lv_iload_n hx hb dX11_enough_93 rfl (lv_at hl 2 rfl) ?_
                      have hs818 : kw_Split [(mrf, .inl (y 0, 3, .inl frf)), (mo, .inr (11, [.ref to, .ref ke, .ref ik, .ref mrf, .long mab, .long mbl, .ref ha, .ref r0, .ref mbr, .ref mbp, .ref mby, .int (nI bl), .int (nI ta), .int (nI tl), .int (nI tk), .int vv, .ref an, .ref va])), (to, .inl (y 0, 228, .inl ft))] [] [(mrf, .inl (y 0, 3, .inl frf)), (mo, .inr (11, [.ref to, .ref ke, .ref ik, .ref mrf, .long mab, .long mbl, .ref ha, .ref r0, .ref mbr, .ref mbp, .ref mby, .int (nI bl), .int (nI ta), .int (nI tl), .int (nI tk), .int vv, .ref an, .ref va])), (to, .inl (y 0, 228, .inl ft))] [] [0, 1, 2] := ⟨rfl, rfl, rfl, rfl, rfl, by decide⟩
                      refine kw_go_i hs818 hP hD hS hA (va_runS (As := [.int (nI j91)]) (rest := []) ⟨hx, hb, hml, hown, hts⟩ (gr_bits l D y (nI j91)  _) (va_cwS 1 hts gX11_enough_X11_bits rfl rfl rfl (by decide +kernel) ⟨Nat.le_of_ble_eq_true rfl, Nat.le_of_ble_eq_true rfl⟩) (kw_PreS hs818 hP hD hK hN) rfl rfl hl.1 rfl (lv_room (Nat.le_of_ble_eq_true rfl)) dX11_enough_94 ⟨Nat.le_of_ble_eq_true rfl, Nat.le_of_ble_eq_true rfl⟩) (fun r819 u820 H locs hq hP hD hS => ?_)
                      have hP : va_P D vwCl [(mrf, .inl (y 0, 3, .inl frf)), (mo, .inr (11, [.ref to, .ref ke, .ref ik, .ref mrf, .long mab, .long mbl, .ref ha, .ref r0, .ref mbr, .ref mbp, .ref mby, .int (nI bl), .int (nI ta), .int (nI tl), .int (nI tk), .int vv, .ref an, .ref va])), (to, .inl (y 0, 228, .inl ft))] H := hP
                      have hD : va_D A [(mrf, .inl (y 0, 3, .inl frf)), (mo, .inr (11, [.ref to, .ref ke, .ref ik, .ref mrf, .long mab, .long mbl, .ref ha, .ref r0, .ref mbr, .ref mbp, .ref mby, .int (nI bl), .int (nI ta), .int (nI tl), .int (nI tk), .int vv, .ref an, .ref va])), (to, .inl (y 0, 228, .inl ft))] := hD
                      refine lv_iload_n hx hb dX11_enough_97 rfl (lv_at hl 3 rfl) ?_
                      have hs821 : kw_Split [(mrf, .inl (y 0, 3, .inl frf)), (mo, .inr (11, [.ref to, .ref ke, .ref ik, .ref mrf, .long mab, .long mbl, .ref ha, .ref r0, .ref mbr, .ref mbp, .ref mby, .int (nI bl), .int (nI ta), .int (nI tl), .int (nI tk), .int vv, .ref an, .ref va])), (to, .inl (y 0, 228, .inl ft))] [] [(mrf, .inl (y 0, 3, .inl frf)), (mo, .inr (11, [.ref to, .ref ke, .ref ik, .ref mrf, .long mab, .long mbl, .ref ha, .ref r0, .ref mbr, .ref mbp, .ref mby, .int (nI bl), .int (nI ta), .int (nI tl), .int (nI tk), .int vv, .ref an, .ref va])), (to, .inl (y 0, 228, .inl ft))] [] [0, 1, 2] := ⟨rfl, rfl, rfl, rfl, rfl, by decide⟩
                      refine kw_go_i hs821 hP hD hS hA (va_runS (As := [.int x689]) (rest := [.int r819]) ⟨hx, hb, hml, hown, hts⟩ (gr_bits l D y x689  _) (va_cwS 1 hts gX11_enough_X11_bits rfl rfl rfl (by decide +kernel) ⟨Nat.le_of_ble_eq_true rfl, Nat.le_of_ble_eq_true rfl⟩) (kw_PreS hs821 hP hD hK hN) rfl rfl hl.1 rfl (lv_room (Nat.le_of_ble_eq_true rfl)) dX11_enough_98 ⟨Nat.le_of_ble_eq_true rfl, Nat.le_of_ble_eq_true rfl⟩) (fun r822 u823 H locs hq hP hD hS => ?_)
                      have hP : va_P D vwCl [(mrf, .inl (y 0, 3, .inl frf)), (mo, .inr (11, [.ref to, .ref ke, .ref ik, .ref mrf, .long mab, .long mbl, .ref ha, .ref r0, .ref mbr, .ref mbp, .ref mby, .int (nI bl), .int (nI ta), .int (nI tl), .int (nI tk), .int vv, .ref an, .ref va])), (to, .inl (y 0, 228, .inl ft))] H := hP
                      have hD : va_D A [(mrf, .inl (y 0, 3, .inl frf)), (mo, .inr (11, [.ref to, .ref ke, .ref ik, .ref mrf, .long mab, .long mbl, .ref ha, .ref r0, .ref mbr, .ref mbp, .ref mby, .int (nI bl), .int (nI ta), .int (nI tl), .int (nI tk), .int vv, .ref an, .ref va])), (to, .inl (y 0, 228, .inl ft))] := hD
                      refine lv_icmp_ge (tgt := 108) hx hb dX11_enough_101 (by decide) (fun h824 => ?_) (fun h825 => ?_)
                      · skip
                        refine lv_iload_n hx hb dX11_enough_108 rfl (lv_at hl 3 rfl) ?_
                        refine lv_istore_n (lv' := [(2, .int x689), (5, .int (nI j92)), (4, .int x787), (3, .int (nI j91)), (0, .ref mo), (1, .int (nI j4))]) hx hb dX11_enough_109 rfl hl (by decide) rfl (fun ls hl => ?_)
                        refine lv_iinc (v := (nI (j91 + 1))) (lv' := [(3, .int (nI (j91 + 1))), (2, .int x689), (5, .int (nI j92)), (4, .int x787), (0, .ref mo), (1, .int (nI j4))]) hx hb dX11_enough_110 hl (k := 3) rfl (nI_1 j91) (by decide) rfl (fun ls hl => ?_)
                        refine lv_goto (tgt := 23) hx hb dX11_enough_113 (by decide) ?_
                        exact ihj91 (j91 + 1) x689 H locs ls (by omega) (by omega)  (hP.sub [1, 0, 2] rfl) (hD.sub [1, 0, 2] (by decide) rfl) hS (lv_sub hl [0, 1, 4, 5] rfl)
                      · skip
                        refine lv_iload_n hx hb dX11_enough_104 rfl (lv_at hl 2 rfl) ?_
                        refine lv_goto (tgt := 109) hx hb dX11_enough_105 (by decide) ?_
                        refine lv_istore_n (lv' := [(2, .int (nI j91)), (5, .int (nI j92)), (4, .int x787), (3, .int (nI j91)), (0, .ref mo), (1, .int (nI j4))]) hx hb dX11_enough_109 rfl hl (by decide) rfl (fun ls hl => ?_)
                        refine lv_iinc (v := (nI (j91 + 1))) (lv' := [(3, .int (nI (j91 + 1))), (2, .int (nI j91)), (5, .int (nI j92)), (4, .int x787), (0, .ref mo), (1, .int (nI j4))]) hx hb dX11_enough_110 hl (k := 3) rfl (nI_1 j91) (by decide) rfl (fun ls hl => ?_)
                        refine lv_goto (tgt := 23) hx hb dX11_enough_113 (by decide) ?_
                        exact ihj91 (j91 + 1) (nI j91) H locs ls (by omega) (by omega)  (hP.sub [1, 0, 2] rfl) (hD.sub [1, 0, 2] (by decide) rfl) hS (lv_sub hl [0, 1, 4, 5] rfl)
                · skip
                  have h813 : ¬ 4 ≤ j92 := fun q9 => h813 ((nI_leI (a := 4) (b := j92) (by omega) (by omega)).mpr q9)
                  refine lv_iload hx hb dX11_enough_48 (lv_at hl 1 rfl) ?_
                  refine lv_iload_n hx hb dX11_enough_50 rfl (lv_at hl 2 rfl) ?_
                  refine lv_iload hx hb dX11_enough_51 (lv_at hl 0 rfl) ?_
                  have hs826 : kw_Split [(mrf, .inl (y 0, 3, .inl frf)), (mo, .inr (11, [.ref to, .ref ke, .ref ik, .ref mrf, .long mab, .long mbl, .ref ha, .ref r0, .ref mbr, .ref mbp, .ref mby, .int (nI bl), .int (nI ta), .int (nI tl), .int (nI tk), .int vv, .ref an, .ref va])), (to, .inl (y 0, 228, .inl ft))] [] [(mrf, .inl (y 0, 3, .inl frf)), (mo, .inr (11, [.ref to, .ref ke, .ref ik, .ref mrf, .long mab, .long mbl, .ref ha, .ref r0, .ref mbr, .ref mbp, .ref mby, .int (nI bl), .int (nI ta), .int (nI tl), .int (nI tk), .int vv, .ref an, .ref va])), (to, .inl (y 0, 228, .inl ft))] [] [0, 1, 2] := ⟨rfl, rfl, rfl, rfl, rfl, by decide⟩
                  refine kw_go_i hs826 hP hD hS hA (va_runS (As := [.int (nI j91), .int (nI j92)]) (rest := [.int x787]) ⟨hx, hb, hml, hown, hts⟩ (gr_has l D y (nI j91) (nI j92)  _) (va_cwS 2 hts gX11_enough_X11_has rfl rfl rfl (by decide +kernel) ⟨Nat.le_of_ble_eq_true rfl, Nat.le_of_ble_eq_true rfl⟩) (kw_PreS hs826 hP hD hK hN) rfl rfl hl.1 rfl (lv_room (Nat.le_of_ble_eq_true rfl)) dX11_enough_53 ⟨Nat.le_of_ble_eq_true rfl, Nat.le_of_ble_eq_true rfl⟩) (fun r827 u828 H locs hq hP hD hS => ?_)
                  obtain (rfl | rfl) := hq
                  · skip
                    have hP : va_P D vwCl [(mrf, .inl (y 0, 3, .inl frf)), (mo, .inr (11, [.ref to, .ref ke, .ref ik, .ref mrf, .long mab, .long mbl, .ref ha, .ref r0, .ref mbr, .ref mbp, .ref mby, .int (nI bl), .int (nI ta), .int (nI tl), .int (nI tk), .int vv, .ref an, .ref va])), (to, .inl (y 0, 228, .inl ft))] H := hP
                    have hD : va_D A [(mrf, .inl (y 0, 3, .inl frf)), (mo, .inr (11, [.ref to, .ref ke, .ref ik, .ref mrf, .long mab, .long mbl, .ref ha, .ref r0, .ref mbr, .ref mbp, .ref mby, .int (nI bl), .int (nI ta), .int (nI tl), .int (nI tk), .int vv, .ref an, .ref va])), (to, .inl (y 0, 228, .inl ft))] := hD
                    refine lv_if_eq (tgt := 72) hx hb dX11_enough_56 (by decide) (fun _ => ?_) (fun h9 => absurd h9 (by decide))
                    refine lv_iconst (v := 0) hx hb dX11_enough_72 (by decide) ?_
                    refine lv_iadd hx hb dX11_enough_73 ?_
                    refine lv_istore (lv' := [(4, .int (x787 + 0)), (5, .int (nI j92)), (3, .int (nI j91)), (2, .int x689), (0, .ref mo), (1, .int (nI j4))]) hx hb dX11_enough_74 hl (by decide) rfl (fun ls hl => ?_)
                    refine lv_iinc (v := (nI (j92 + 1))) (lv' := [(5, .int (nI (j92 + 1))), (4, .int (x787 + 0)), (3, .int (nI j91)), (2, .int x689), (0, .ref mo), (1, .int (nI j4))]) hx hb dX11_enough_76 hl (k := 1) rfl (nI_1 j92) (by decide) rfl (fun ls hl => ?_)
                    refine lv_goto (tgt := 39) hx hb dX11_enough_79 (by decide) ?_
                    exact ihj92 (j92 + 1) (x787 + 0) H locs ls (by omega) (by omega)  (hP.sub [0, 1, 2] rfl) (hD.sub [0, 1, 2] (by decide) rfl) hS (lv_sub hl [0, 1, 2, 3, 4, 5] rfl)
                  · skip
                    have hP : va_P D vwCl [(mrf, .inl (y 0, 3, .inl frf)), (mo, .inr (11, [.ref to, .ref ke, .ref ik, .ref mrf, .long mab, .long mbl, .ref ha, .ref r0, .ref mbr, .ref mbp, .ref mby, .int (nI bl), .int (nI ta), .int (nI tl), .int (nI tk), .int vv, .ref an, .ref va])), (to, .inl (y 0, 228, .inl ft))] H := hP
                    have hD : va_D A [(mrf, .inl (y 0, 3, .inl frf)), (mo, .inr (11, [.ref to, .ref ke, .ref ik, .ref mrf, .long mab, .long mbl, .ref ha, .ref r0, .ref mbr, .ref mbp, .ref mby, .int (nI bl), .int (nI ta), .int (nI tl), .int (nI tk), .int vv, .ref an, .ref va])), (to, .inl (y 0, 228, .inl ft))] := hD
                    refine lv_if_eq (tgt := 72) hx hb dX11_enough_56 (by decide) (fun h9 => absurd h9 (by decide)) (fun _ => ?_)
                    refine lv_aload_n hx hb dX11_enough_59 rfl (lv_at hl 4 rfl) ?_
                    refine va_get (D := D) (ci := 11) (v := .ref to) (C := RX11) (T := TX11) (N := 18) hx hb hts iw11 hown hK hP 1 rfl rfl 0 (by decide) fw2 (fun _ h9 => h9) rfl dX11_enough_60 ?_
                    refine lv_bipush (v := 16) hx hb dX11_enough_63 (by decide) ?_
                    refine lv_iload hx hb dX11_enough_65 (lv_at hl 0 rfl) ?_
                    refine lv_iadd hx hb dX11_enough_67 ?_
                    rw [show 16 + (nI j92) = nI (j92 + 16) from (nI_add 16 j92).trans (congrArg nI (by omega))]
                    refine va_iald hx hb hK hP 2 0 rfl rfl (vp_in_nI (by omega) (by decide)) dX11_enough_68 ?_
                    rw [nI_clamp (n := (j92 + 16)) (by omega)]
                    refine lv_goto (tgt := 73) hx hb dX11_enough_69 (by decide) ?_
                    refine lv_iadd hx hb dX11_enough_73 ?_
                    refine lv_istore (lv' := [(4, .int (x787 + (ft (j92 + 16)))), (5, .int (nI j92)), (3, .int (nI j91)), (2, .int x689), (0, .ref mo), (1, .int (nI j4))]) hx hb dX11_enough_74 hl (by decide) rfl (fun ls hl => ?_)
                    refine lv_iinc (v := (nI (j92 + 1))) (lv' := [(5, .int (nI (j92 + 1))), (4, .int (x787 + (ft (j92 + 16)))), (3, .int (nI j91)), (2, .int x689), (0, .ref mo), (1, .int (nI j4))]) hx hb dX11_enough_76 hl (k := 1) rfl (nI_1 j92) (by decide) rfl (fun ls hl => ?_)
                    refine lv_goto (tgt := 39) hx hb dX11_enough_79 (by decide) ?_
                    exact ihj92 (j92 + 1) (x787 + (ft (j92 + 16))) H locs ls (by omega) (by omega)  (hP.sub [0, 1, 2] rfl) (hD.sub [0, 1, 2] (by decide) rfl) hS (lv_sub hl [0, 1, 2, 3, 4, 5] rfl)
            exact lp808 (4 + 1) 0 0 _ _ _ (by omega) (by omega)  hP hD hS (lv_sub hl [0, 1, 2, 3, 4, 5] rfl)
      exact lp759 (16 + 1) 0 (-1) _ _ _ (by omega) (by omega)  hP hD hS (lv_sub hl [0, 1, 2, 3] rfl)
    · skip
      refine lv_iconst (v := 0) hx hb dX11_enough_21 (by decide) ?_
      refine lv_istore_n (lv' := [(3, .int 0), (2, .int (-1)), (0, .ref mo), (1, .int (nI j4))]) hx hb dX11_enough_22 rfl hl (by decide) rfl (fun ls hl => ?_)
      have lp938 : ∀ (fuj91 j91 : Nat) (x868 : Int32) (H : Heap) (locs : List Loc) (ls : Array Slot), j91 ≤ 32 → 32 - j91 < fuj91 → va_P D vwCl [(mo, .inr (11, [.ref to, .ref ke, .ref ik, .ref mrf, .long mab, .long mbl, .ref ha, .ref r0, .ref mbr, .ref mbp, .ref mby, .int (nI bl), .int (nI ta), .int (nI tl), .int (nI tk), .int vv, .ref an, .ref va])), (mrf, .inl (y 0, 3, .inl frf)), (to, .inl (y 0, 228, .inl ft))] H → va_D A [(mo, .inr (11, [.ref to, .ref ke, .ref ik, .ref mrf, .long mab, .long mbl, .ref ha, .ref r0, .ref mbr, .ref mbp, .ref mby, .int (nI bl), .int (nI ta), .int (nI tl), .int (nI tk), .int vv, .ref an, .ref va])), (mrf, .inl (y 0, 3, .inl frf)), (to, .inl (y 0, 228, .inl ft))] → va_S A s.heap H locs → lv_has ls 6 [(3, .int (nI j91)), (2, .int x868), (0, .ref mo), (1, .int (nI j4))] → W pZ l eZ ({ frames := 2, cells := 0, slots := 0, locals := 85 }) s mZ [.ref mo, .int (nI j4)].toArray beZ meZ cZ H locs 0 0 (MQ beZ (va_Qi (fun (r : Int32) (u : (Nat → Int32)) => (5 = 0 ∨ 0 < fi)) (kw_B D (fun u => [(mo, .inr (11, [.ref to, .ref ke, .ref ik, .ref mrf, .long mab, .long mbl, .ref ha, .ref r0, .ref mbr, .ref mbp, .ref mby, .int (nI bl), .int (nI ta), .int (nI tl), .int (nI tk), .int vv, .ref an, .ref va])), (mrf, .inl (y 0, 3, .inl u)), (to, .inl (y 0, 228, .inl ft))]) A) A) [.ref mo, .int (nI j4)].toArray s 0 0 A) (F0 mZ 23 ls []) := by
        intro fuj91
        induction fuj91 with
        | zero => intro j91 x868 H locs ls hj9 hf9; exact absurd hf9 (Nat.not_lt_zero _)
        | succ fuj91 ihj91 =>
          intro j91 x868 H locs ls hj91 hfj91  hP hD hS hl
          refine lv_iload_n hx hb dX11_enough_23 rfl (lv_at hl 0 rfl) ?_
          refine lv_iconst (v := 1) hx hb dX11_enough_24 (by decide) ?_
          refine lv_aload_n hx hb dX11_enough_25 rfl (lv_at hl 2 rfl) ?_
          have hs939 : kw_Split [(mo, .inr (11, [.ref to, .ref ke, .ref ik, .ref mrf, .long mab, .long mbl, .ref ha, .ref r0, .ref mbr, .ref mbp, .ref mby, .int (nI bl), .int (nI ta), .int (nI tl), .int (nI tk), .int vv, .ref an, .ref va])), (mrf, .inl (y 0, 3, .inl frf)), (to, .inl (y 0, 228, .inl ft))] [(mo, .inr (11, [.ref to, .ref ke, .ref ik, .ref mrf, .long mab, .long mbl, .ref ha, .ref r0, .ref mbr, .ref mbp, .ref mby, .int (nI bl), .int (nI ta), .int (nI tl), .int (nI tk), .int vv, .ref an, .ref va])), (to, .inl (y 0, 228, .inl ft))] [(mrf, .inl (y 0, 3, .inl frf))] [0, 2] [1] := ⟨rfl, rfl, rfl, rfl, rfl, by decide⟩
          refine kw_go_i hs939 hP hD hS hA (va_runV (As := []) (rest := [.int 1, .int (nI j91)]) ⟨hx, hb, hml, hown, hts⟩ (gr_manyGleaners l D y mo to ke ik mrf ha r0 mbr mbp mby an va mab mbl bl ta tl tk vv ft fi 5 mi no un hk0_ hk1_ hk2_ hk3_ hk4_ hkt hfi hgl hmi hno hun _) (cwV 0 hts gX11_enough_X11_manyGleaners rfl rfl rfl (by decide +kernel) ⟨Nat.le_of_ble_eq_true rfl, Nat.le_of_ble_eq_true rfl⟩) (kw_PreV (ci := 11) (q0 := 0) hs939 hP hD hK hN rfl rfl) rfl rfl hl.1 rfl (lv_room (Nat.le_of_ble_eq_true rfl)) dX11_enough_26 ⟨Nat.le_of_ble_eq_true rfl, Nat.le_of_ble_eq_true rfl⟩) (fun r940 u941 H locs hq hP hD hS => ?_)
          obtain rfl := hq
          have hP : va_P D vwCl [(mrf, .inl (y 0, 3, .inl frf)), (mo, .inr (11, [.ref to, .ref ke, .ref ik, .ref mrf, .long mab, .long mbl, .ref ha, .ref r0, .ref mbr, .ref mbp, .ref mby, .int (nI bl), .int (nI ta), .int (nI tl), .int (nI tk), .int vv, .ref an, .ref va])), (to, .inl (y 0, 228, .inl ft))] H := hP
          have hD : va_D A [(mrf, .inl (y 0, 3, .inl frf)), (mo, .inr (11, [.ref to, .ref ke, .ref ik, .ref mrf, .long mab, .long mbl, .ref ha, .ref r0, .ref mbr, .ref mbp, .ref mby, .int (nI bl), .int (nI ta), .int (nI tl), .int (nI tk), .int vv, .ref an, .ref va])), (to, .inl (y 0, 228, .inl ft))] := hD
          refine lv_ishl hx hb dX11_enough_29 ?_
          refine lv_topi (fun z942 hz942 => ?_)
          obtain rfl : z942 = 32 := hz942.trans (by decide)
          refine lv_icmp_ge (tgt := 116) hx hb dX11_enough_30 (by decide) (fun h943 => ?_) (fun h944 => ?_)
          · skip
            have h943 : 32 ≤ j91 := (nI_leI (a := 32) (b := j91) (by omega) (by omega)).mp h943
            refine lv_iload_n hx hb dX11_enough_116 rfl (lv_at hl 1 rfl) ?_
            exact W.iret (v := x868) hx hb hr (fun tZ ht hW => ⟨⟨x868, (frf), rfl, by first | omega | (dsimp only; omega), by rw [ht]; exact hP.sub [1, 0, 2] rfl, hD.sub [1, 0, 2] (by decide) rfl⟩, hS.F ht⟩) hS.2.2 dX11_enough_117
          · skip
            have h944 : ¬ 32 ≤ j91 := fun q9 => h944 ((nI_leI (a := 32) (b := j91) (by omega) (by omega)).mpr q9)
            refine lv_iconst (v := 0) hx hb dX11_enough_33 (by decide) ?_
            refine lv_istore (lv' := [(4, .int 0), (3, .int (nI j91)), (2, .int x868), (0, .ref mo), (1, .int (nI j4))]) hx hb dX11_enough_34 hl (by decide) rfl (fun ls hl => ?_)
            refine lv_iconst (v := 0) hx hb dX11_enough_36 (by decide) ?_
            refine lv_istore (lv' := [(5, .int 0), (4, .int 0), (3, .int (nI j91)), (2, .int x868), (0, .ref mo), (1, .int (nI j4))]) hx hb dX11_enough_37 hl (by decide) rfl (fun ls hl => ?_)
            have lp987 : ∀ (fuj92 j92 : Nat) (x966 : Int32) (H : Heap) (locs : List Loc) (ls : Array Slot), j92 ≤ 5 → 5 - j92 < fuj92 → va_P D vwCl [(mrf, .inl (y 0, 3, .inl frf)), (mo, .inr (11, [.ref to, .ref ke, .ref ik, .ref mrf, .long mab, .long mbl, .ref ha, .ref r0, .ref mbr, .ref mbp, .ref mby, .int (nI bl), .int (nI ta), .int (nI tl), .int (nI tk), .int vv, .ref an, .ref va])), (to, .inl (y 0, 228, .inl ft))] H → va_D A [(mrf, .inl (y 0, 3, .inl frf)), (mo, .inr (11, [.ref to, .ref ke, .ref ik, .ref mrf, .long mab, .long mbl, .ref ha, .ref r0, .ref mbr, .ref mbp, .ref mby, .int (nI bl), .int (nI ta), .int (nI tl), .int (nI tk), .int vv, .ref an, .ref va])), (to, .inl (y 0, 228, .inl ft))] → va_S A s.heap H locs → lv_has ls 6 [(5, .int (nI j92)), (4, .int x966), (3, .int (nI j91)), (2, .int x868), (0, .ref mo), (1, .int (nI j4))] → W pZ l eZ ({ frames := 2, cells := 0, slots := 0, locals := 85 }) s mZ [.ref mo, .int (nI j4)].toArray beZ meZ cZ H locs 0 0 (MQ beZ (va_Qi (fun (r : Int32) (u : (Nat → Int32)) => (5 = 0 ∨ 0 < fi)) (kw_B D (fun u => [(mo, .inr (11, [.ref to, .ref ke, .ref ik, .ref mrf, .long mab, .long mbl, .ref ha, .ref r0, .ref mbr, .ref mbp, .ref mby, .int (nI bl), .int (nI ta), .int (nI tl), .int (nI tk), .int vv, .ref an, .ref va])), (mrf, .inl (y 0, 3, .inl u)), (to, .inl (y 0, 228, .inl ft))]) A) A) [.ref mo, .int (nI j4)].toArray s 0 0 A) (F0 mZ 39 ls []) := by
              intro fuj92
              induction fuj92 with
              | zero => intro j92 x966 H locs ls hj9 hf9; exact absurd hf9 (Nat.not_lt_zero _)
              | succ fuj92 ihj92 =>
                intro j92 x966 H locs ls hj92 hfj92  hP hD hS hl
                refine lv_iload hx hb dX11_enough_39 (lv_at hl 0 rfl) ?_
                refine lv_aload_n hx hb dX11_enough_41 rfl (lv_at hl 4 rfl) ?_
                have hs988 : kw_Split [(mrf, .inl (y 0, 3, .inl frf)), (mo, .inr (11, [.ref to, .ref ke, .ref ik, .ref mrf, .long mab, .long mbl, .ref ha, .ref r0, .ref mbr, .ref mbp, .ref mby, .int (nI bl), .int (nI ta), .int (nI tl), .int (nI tk), .int vv, .ref an, .ref va])), (to, .inl (y 0, 228, .inl ft))] [(mo, .inr (11, [.ref to, .ref ke, .ref ik, .ref mrf, .long mab, .long mbl, .ref ha, .ref r0, .ref mbr, .ref mbp, .ref mby, .int (nI bl), .int (nI ta), .int (nI tl), .int (nI tk), .int vv, .ref an, .ref va])), (to, .inl (y 0, 228, .inl ft))] [(mrf, .inl (y 0, 3, .inl frf))] [1, 2] [0] := ⟨rfl, rfl, rfl, rfl, rfl, by decide⟩
                refine kw_go_i hs988 hP hD hS hA (va_runV (As := []) (rest := [.int (nI j92)]) ⟨hx, hb, hml, hown, hts⟩ (gr_manyGleaners l D y mo to ke ik mrf ha r0 mbr mbp mby an va mab mbl bl ta tl tk vv ft fi 5 mi no un hk0_ hk1_ hk2_ hk3_ hk4_ hkt hfi hgl hmi hno hun _) (cwV 0 hts gX11_enough_X11_manyGleaners rfl rfl rfl (by decide +kernel) ⟨Nat.le_of_ble_eq_true rfl, Nat.le_of_ble_eq_true rfl⟩) (kw_PreV (ci := 11) (q0 := 1) hs988 hP hD hK hN rfl rfl) rfl rfl hl.1 rfl (lv_room (Nat.le_of_ble_eq_true rfl)) dX11_enough_42 ⟨Nat.le_of_ble_eq_true rfl, Nat.le_of_ble_eq_true rfl⟩) (fun r989 u990 H locs hq hP hD hS => ?_)
                obtain rfl := hq
                have hP : va_P D vwCl [(mrf, .inl (y 0, 3, .inl frf)), (mo, .inr (11, [.ref to, .ref ke, .ref ik, .ref mrf, .long mab, .long mbl, .ref ha, .ref r0, .ref mbr, .ref mbp, .ref mby, .int (nI bl), .int (nI ta), .int (nI tl), .int (nI tk), .int vv, .ref an, .ref va])), (to, .inl (y 0, 228, .inl ft))] H := hP
                have hD : va_D A [(mrf, .inl (y 0, 3, .inl frf)), (mo, .inr (11, [.ref to, .ref ke, .ref ik, .ref mrf, .long mab, .long mbl, .ref ha, .ref r0, .ref mbr, .ref mbp, .ref mby, .int (nI bl), .int (nI ta), .int (nI tl), .int (nI tk), .int vv, .ref an, .ref va])), (to, .inl (y 0, 228, .inl ft))] := hD
                refine lv_icmp_ge (tgt := 82) hx hb dX11_enough_45 (by decide) (fun h991 => ?_) (fun h992 => ?_)
                · skip
                  have h991 : 5 ≤ j92 := (nI_leI (a := 5) (b := j92) (by omega) (by omega)).mp h991
                  refine lv_iload hx hb dX11_enough_82 (lv_at hl 1 rfl) ?_
                  refine lv_iload_n hx hb dX11_enough_84 rfl (lv_at hl 5 rfl) ?_
                  refine lv_icmp_lt (tgt := 108) hx hb dX11_enough_85 (by decide) (fun h993 => ?_) (fun h994 => ?_)
                  · skip
                    refine lv_iload_n hx hb dX11_enough_108 rfl (lv_at hl 3 rfl) ?_
                    refine lv_istore_n (lv' := [(2, .int x868), (5, .int (nI j92)), (4, .int x966), (3, .int (nI j91)), (0, .ref mo), (1, .int (nI j4))]) hx hb dX11_enough_109 rfl hl (by decide) rfl (fun ls hl => ?_)
                    refine lv_iinc (v := (nI (j91 + 1))) (lv' := [(3, .int (nI (j91 + 1))), (2, .int x868), (5, .int (nI j92)), (4, .int x966), (0, .ref mo), (1, .int (nI j4))]) hx hb dX11_enough_110 hl (k := 3) rfl (nI_1 j91) (by decide) rfl (fun ls hl => ?_)
                    refine lv_goto (tgt := 23) hx hb dX11_enough_113 (by decide) ?_
                    exact ihj91 (j91 + 1) x868 H locs ls (by omega) (by omega)  (hP.sub [1, 0, 2] rfl) (hD.sub [1, 0, 2] (by decide) rfl) hS (lv_sub hl [0, 1, 4, 5] rfl)
                  · skip
                    refine lv_iload_n hx hb dX11_enough_88 rfl (lv_at hl 3 rfl) ?_
                    refine lv_iconst (v := (-1)) hx hb dX11_enough_89 (by decide) ?_
                    refine lv_icmp_eq (tgt := 104) hx hb dX11_enough_90 (by decide) (fun h995 => ?_) (fun h996 => ?_)
                    · skip
                      refine lv_iload_n hx hb dX11_enough_104 rfl (lv_at hl 2 rfl) ?_
                      refine lv_goto (tgt := 109) hx hb dX11_enough_105 (by decide) ?_
                      refine lv_istore_n (lv' := [(2, .int (nI j91)), (5, .int (nI j92)), (4, .int x966), (3, .int (nI j91)), (0, .ref mo), (1, .int (nI j4))]) hx hb dX11_enough_109 rfl hl (by decide) rfl (fun ls hl => ?_)
                      refine lv_iinc (v := (nI (j91 + 1))) (lv' := [(3, .int (nI (j91 + 1))), (2, .int (nI j91)), (5, .int (nI j92)), (4, .int x966), (0, .ref mo), (1, .int (nI j4))]) hx hb dX11_enough_110 hl (k := 3) rfl (nI_1 j91) (by decide) rfl (fun ls hl => ?_)
                      refine lv_goto (tgt := 23) hx hb dX11_enough_113 (by decide) ?_
                      exact ihj91 (j91 + 1) (nI j91) H locs ls (by omega) (by omega)  (hP.sub [1, 0, 2] rfl) (hD.sub [1, 0, 2] (by decide) rfl) hS (lv_sub hl [0, 1, 4, 5] rfl)
                    · skip
                      refine lv_iload_n hx hb dX11_enough_93 rfl (lv_at hl 2 rfl) ?_
                      have hs997 : kw_Split [(mrf, .inl (y 0, 3, .inl frf)), (mo, .inr (11, [.ref to, .ref ke, .ref ik, .ref mrf, .long mab, .long mbl, .ref ha, .ref r0, .ref mbr, .ref mbp, .ref mby, .int (nI bl), .int (nI ta), .int (nI tl), .int (nI tk), .int vv, .ref an, .ref va])), (to, .inl (y 0, 228, .inl ft))] [] [(mrf, .inl (y 0, 3, .inl frf)), (mo, .inr (11, [.ref to, .ref ke, .ref ik, .ref mrf, .long mab, .long mbl, .ref ha, .ref r0, .ref mbr, .ref mbp, .ref mby, .int (nI bl), .int (nI ta), .int (nI tl), .int (nI tk), .int vv, .ref an, .ref va])), (to, .inl (y 0, 228, .inl ft))] [] [0, 1, 2] := ⟨rfl, rfl, rfl, rfl, rfl, by decide⟩
                      refine kw_go_i hs997 hP hD hS hA (va_runS (As := [.int (nI j91)]) (rest := []) ⟨hx, hb, hml, hown, hts⟩ (gr_bits l D y (nI j91)  _) (va_cwS 1 hts gX11_enough_X11_bits rfl rfl rfl (by decide +kernel) ⟨Nat.le_of_ble_eq_true rfl, Nat.le_of_ble_eq_true rfl⟩) (kw_PreS hs997 hP hD hK hN) rfl rfl hl.1 rfl (lv_room (Nat.le_of_ble_eq_true rfl)) dX11_enough_94 ⟨Nat.le_of_ble_eq_true rfl, Nat.le_of_ble_eq_true rfl⟩) (fun r998 u999 H locs hq hP hD hS => ?_)
                      have hP : va_P D vwCl [(mrf, .inl (y 0, 3, .inl frf)), (mo, .inr (11, [.ref to, .ref ke, .ref ik, .ref mrf, .long mab, .long mbl, .ref ha, .ref r0, .ref mbr, .ref mbp, .ref mby, .int (nI bl), .int (nI ta), .int (nI tl), .int (nI tk), .int vv, .ref an, .ref va])), (to, .inl (y 0, 228, .inl ft))] H := hP
                      have hD : va_D A [(mrf, .inl (y 0, 3, .inl frf)), (mo, .inr (11, [.ref to, .ref ke, .ref ik, .ref mrf, .long mab, .long mbl, .ref ha, .ref r0, .ref mbr, .ref mbp, .ref mby, .int (nI bl), .int (nI ta), .int (nI tl), .int (nI tk), .int vv, .ref an, .ref va])), (to, .inl (y 0, 228, .inl ft))] := hD
                      refine lv_iload_n hx hb dX11_enough_97 rfl (lv_at hl 3 rfl) ?_
                      have hs1000 : kw_Split [(mrf, .inl (y 0, 3, .inl frf)), (mo, .inr (11, [.ref to, .ref ke, .ref ik, .ref mrf, .long mab, .long mbl, .ref ha, .ref r0, .ref mbr, .ref mbp, .ref mby, .int (nI bl), .int (nI ta), .int (nI tl), .int (nI tk), .int vv, .ref an, .ref va])), (to, .inl (y 0, 228, .inl ft))] [] [(mrf, .inl (y 0, 3, .inl frf)), (mo, .inr (11, [.ref to, .ref ke, .ref ik, .ref mrf, .long mab, .long mbl, .ref ha, .ref r0, .ref mbr, .ref mbp, .ref mby, .int (nI bl), .int (nI ta), .int (nI tl), .int (nI tk), .int vv, .ref an, .ref va])), (to, .inl (y 0, 228, .inl ft))] [] [0, 1, 2] := ⟨rfl, rfl, rfl, rfl, rfl, by decide⟩
                      refine kw_go_i hs1000 hP hD hS hA (va_runS (As := [.int x868]) (rest := [.int r998]) ⟨hx, hb, hml, hown, hts⟩ (gr_bits l D y x868  _) (va_cwS 1 hts gX11_enough_X11_bits rfl rfl rfl (by decide +kernel) ⟨Nat.le_of_ble_eq_true rfl, Nat.le_of_ble_eq_true rfl⟩) (kw_PreS hs1000 hP hD hK hN) rfl rfl hl.1 rfl (lv_room (Nat.le_of_ble_eq_true rfl)) dX11_enough_98 ⟨Nat.le_of_ble_eq_true rfl, Nat.le_of_ble_eq_true rfl⟩) (fun r1001 u1002 H locs hq hP hD hS => ?_)
                      have hP : va_P D vwCl [(mrf, .inl (y 0, 3, .inl frf)), (mo, .inr (11, [.ref to, .ref ke, .ref ik, .ref mrf, .long mab, .long mbl, .ref ha, .ref r0, .ref mbr, .ref mbp, .ref mby, .int (nI bl), .int (nI ta), .int (nI tl), .int (nI tk), .int vv, .ref an, .ref va])), (to, .inl (y 0, 228, .inl ft))] H := hP
                      have hD : va_D A [(mrf, .inl (y 0, 3, .inl frf)), (mo, .inr (11, [.ref to, .ref ke, .ref ik, .ref mrf, .long mab, .long mbl, .ref ha, .ref r0, .ref mbr, .ref mbp, .ref mby, .int (nI bl), .int (nI ta), .int (nI tl), .int (nI tk), .int vv, .ref an, .ref va])), (to, .inl (y 0, 228, .inl ft))] := hD
                      refine lv_icmp_ge (tgt := 108) hx hb dX11_enough_101 (by decide) (fun h1003 => ?_) (fun h1004 => ?_)
                      · skip
                        refine lv_iload_n hx hb dX11_enough_108 rfl (lv_at hl 3 rfl) ?_
                        refine lv_istore_n (lv' := [(2, .int x868), (5, .int (nI j92)), (4, .int x966), (3, .int (nI j91)), (0, .ref mo), (1, .int (nI j4))]) hx hb dX11_enough_109 rfl hl (by decide) rfl (fun ls hl => ?_)
                        refine lv_iinc (v := (nI (j91 + 1))) (lv' := [(3, .int (nI (j91 + 1))), (2, .int x868), (5, .int (nI j92)), (4, .int x966), (0, .ref mo), (1, .int (nI j4))]) hx hb dX11_enough_110 hl (k := 3) rfl (nI_1 j91) (by decide) rfl (fun ls hl => ?_)
                        refine lv_goto (tgt := 23) hx hb dX11_enough_113 (by decide) ?_
                        exact ihj91 (j91 + 1) x868 H locs ls (by omega) (by omega)  (hP.sub [1, 0, 2] rfl) (hD.sub [1, 0, 2] (by decide) rfl) hS (lv_sub hl [0, 1, 4, 5] rfl)
                      · skip
                        refine lv_iload_n hx hb dX11_enough_104 rfl (lv_at hl 2 rfl) ?_
                        refine lv_goto (tgt := 109) hx hb dX11_enough_105 (by decide) ?_
                        refine lv_istore_n (lv' := [(2, .int (nI j91)), (5, .int (nI j92)), (4, .int x966), (3, .int (nI j91)), (0, .ref mo), (1, .int (nI j4))]) hx hb dX11_enough_109 rfl hl (by decide) rfl (fun ls hl => ?_)
                        refine lv_iinc (v := (nI (j91 + 1))) (lv' := [(3, .int (nI (j91 + 1))), (2, .int (nI j91)), (5, .int (nI j92)), (4, .int x966), (0, .ref mo), (1, .int (nI j4))]) hx hb dX11_enough_110 hl (k := 3) rfl (nI_1 j91) (by decide) rfl (fun ls hl => ?_)
                        refine lv_goto (tgt := 23) hx hb dX11_enough_113 (by decide) ?_
                        exact ihj91 (j91 + 1) (nI j91) H locs ls (by omega) (by omega)  (hP.sub [1, 0, 2] rfl) (hD.sub [1, 0, 2] (by decide) rfl) hS (lv_sub hl [0, 1, 4, 5] rfl)
                · skip
                  have h992 : ¬ 5 ≤ j92 := fun q9 => h992 ((nI_leI (a := 5) (b := j92) (by omega) (by omega)).mpr q9)
                  refine lv_iload hx hb dX11_enough_48 (lv_at hl 1 rfl) ?_
                  refine lv_iload_n hx hb dX11_enough_50 rfl (lv_at hl 2 rfl) ?_
                  refine lv_iload hx hb dX11_enough_51 (lv_at hl 0 rfl) ?_
                  have hs1005 : kw_Split [(mrf, .inl (y 0, 3, .inl frf)), (mo, .inr (11, [.ref to, .ref ke, .ref ik, .ref mrf, .long mab, .long mbl, .ref ha, .ref r0, .ref mbr, .ref mbp, .ref mby, .int (nI bl), .int (nI ta), .int (nI tl), .int (nI tk), .int vv, .ref an, .ref va])), (to, .inl (y 0, 228, .inl ft))] [] [(mrf, .inl (y 0, 3, .inl frf)), (mo, .inr (11, [.ref to, .ref ke, .ref ik, .ref mrf, .long mab, .long mbl, .ref ha, .ref r0, .ref mbr, .ref mbp, .ref mby, .int (nI bl), .int (nI ta), .int (nI tl), .int (nI tk), .int vv, .ref an, .ref va])), (to, .inl (y 0, 228, .inl ft))] [] [0, 1, 2] := ⟨rfl, rfl, rfl, rfl, rfl, by decide⟩
                  refine kw_go_i hs1005 hP hD hS hA (va_runS (As := [.int (nI j91), .int (nI j92)]) (rest := [.int x966]) ⟨hx, hb, hml, hown, hts⟩ (gr_has l D y (nI j91) (nI j92)  _) (va_cwS 2 hts gX11_enough_X11_has rfl rfl rfl (by decide +kernel) ⟨Nat.le_of_ble_eq_true rfl, Nat.le_of_ble_eq_true rfl⟩) (kw_PreS hs1005 hP hD hK hN) rfl rfl hl.1 rfl (lv_room (Nat.le_of_ble_eq_true rfl)) dX11_enough_53 ⟨Nat.le_of_ble_eq_true rfl, Nat.le_of_ble_eq_true rfl⟩) (fun r1006 u1007 H locs hq hP hD hS => ?_)
                  obtain (rfl | rfl) := hq
                  · skip
                    have hP : va_P D vwCl [(mrf, .inl (y 0, 3, .inl frf)), (mo, .inr (11, [.ref to, .ref ke, .ref ik, .ref mrf, .long mab, .long mbl, .ref ha, .ref r0, .ref mbr, .ref mbp, .ref mby, .int (nI bl), .int (nI ta), .int (nI tl), .int (nI tk), .int vv, .ref an, .ref va])), (to, .inl (y 0, 228, .inl ft))] H := hP
                    have hD : va_D A [(mrf, .inl (y 0, 3, .inl frf)), (mo, .inr (11, [.ref to, .ref ke, .ref ik, .ref mrf, .long mab, .long mbl, .ref ha, .ref r0, .ref mbr, .ref mbp, .ref mby, .int (nI bl), .int (nI ta), .int (nI tl), .int (nI tk), .int vv, .ref an, .ref va])), (to, .inl (y 0, 228, .inl ft))] := hD
                    refine lv_if_eq (tgt := 72) hx hb dX11_enough_56 (by decide) (fun _ => ?_) (fun h9 => absurd h9 (by decide))
                    refine lv_iconst (v := 0) hx hb dX11_enough_72 (by decide) ?_
                    refine lv_iadd hx hb dX11_enough_73 ?_
                    refine lv_istore (lv' := [(4, .int (x966 + 0)), (5, .int (nI j92)), (3, .int (nI j91)), (2, .int x868), (0, .ref mo), (1, .int (nI j4))]) hx hb dX11_enough_74 hl (by decide) rfl (fun ls hl => ?_)
                    refine lv_iinc (v := (nI (j92 + 1))) (lv' := [(5, .int (nI (j92 + 1))), (4, .int (x966 + 0)), (3, .int (nI j91)), (2, .int x868), (0, .ref mo), (1, .int (nI j4))]) hx hb dX11_enough_76 hl (k := 1) rfl (nI_1 j92) (by decide) rfl (fun ls hl => ?_)
                    refine lv_goto (tgt := 39) hx hb dX11_enough_79 (by decide) ?_
                    exact ihj92 (j92 + 1) (x966 + 0) H locs ls (by omega) (by omega)  (hP.sub [0, 1, 2] rfl) (hD.sub [0, 1, 2] (by decide) rfl) hS (lv_sub hl [0, 1, 2, 3, 4, 5] rfl)
                  · skip
                    have hP : va_P D vwCl [(mrf, .inl (y 0, 3, .inl frf)), (mo, .inr (11, [.ref to, .ref ke, .ref ik, .ref mrf, .long mab, .long mbl, .ref ha, .ref r0, .ref mbr, .ref mbp, .ref mby, .int (nI bl), .int (nI ta), .int (nI tl), .int (nI tk), .int vv, .ref an, .ref va])), (to, .inl (y 0, 228, .inl ft))] H := hP
                    have hD : va_D A [(mrf, .inl (y 0, 3, .inl frf)), (mo, .inr (11, [.ref to, .ref ke, .ref ik, .ref mrf, .long mab, .long mbl, .ref ha, .ref r0, .ref mbr, .ref mbp, .ref mby, .int (nI bl), .int (nI ta), .int (nI tl), .int (nI tk), .int vv, .ref an, .ref va])), (to, .inl (y 0, 228, .inl ft))] := hD
                    refine lv_if_eq (tgt := 72) hx hb dX11_enough_56 (by decide) (fun h9 => absurd h9 (by decide)) (fun _ => ?_)
                    refine lv_aload_n hx hb dX11_enough_59 rfl (lv_at hl 4 rfl) ?_
                    refine va_get (D := D) (ci := 11) (v := .ref to) (C := RX11) (T := TX11) (N := 18) hx hb hts iw11 hown hK hP 1 rfl rfl 0 (by decide) fw2 (fun _ h9 => h9) rfl dX11_enough_60 ?_
                    refine lv_bipush (v := 16) hx hb dX11_enough_63 (by decide) ?_
                    refine lv_iload hx hb dX11_enough_65 (lv_at hl 0 rfl) ?_
                    refine lv_iadd hx hb dX11_enough_67 ?_
                    rw [show 16 + (nI j92) = nI (j92 + 16) from (nI_add 16 j92).trans (congrArg nI (by omega))]
                    refine va_iald hx hb hK hP 2 0 rfl rfl (vp_in_nI (by omega) (by decide)) dX11_enough_68 ?_
                    rw [nI_clamp (n := (j92 + 16)) (by omega)]
                    refine lv_goto (tgt := 73) hx hb dX11_enough_69 (by decide) ?_
                    refine lv_iadd hx hb dX11_enough_73 ?_
                    refine lv_istore (lv' := [(4, .int (x966 + (ft (j92 + 16)))), (5, .int (nI j92)), (3, .int (nI j91)), (2, .int x868), (0, .ref mo), (1, .int (nI j4))]) hx hb dX11_enough_74 hl (by decide) rfl (fun ls hl => ?_)
                    refine lv_iinc (v := (nI (j92 + 1))) (lv' := [(5, .int (nI (j92 + 1))), (4, .int (x966 + (ft (j92 + 16)))), (3, .int (nI j91)), (2, .int x868), (0, .ref mo), (1, .int (nI j4))]) hx hb dX11_enough_76 hl (k := 1) rfl (nI_1 j92) (by decide) rfl (fun ls hl => ?_)
                    refine lv_goto (tgt := 39) hx hb dX11_enough_79 (by decide) ?_
                    exact ihj92 (j92 + 1) (x966 + (ft (j92 + 16))) H locs ls (by omega) (by omega)  (hP.sub [0, 1, 2] rfl) (hD.sub [0, 1, 2] (by decide) rfl) hS (lv_sub hl [0, 1, 2, 3, 4, 5] rfl)
            exact lp987 (5 + 1) 0 0 _ _ _ (by omega) (by omega)  hP hD hS (lv_sub hl [0, 1, 2, 3, 4, 5] rfl)
      exact lp938 (32 + 1) 0 (-1) _ _ _ (by omega) (by omega)  hP hD hS (lv_sub hl [0, 1, 2, 3] rfl)
  · skip
    have hP : va_P D vwCl [(mo, .inr (11, [.ref to, .ref ke, .ref ik, .ref mrf, .long mab, .long mbl, .ref ha, .ref r0, .ref mbr, .ref mbp, .ref mby, .int (nI bl), .int (nI ta), .int (nI tl), .int (nI tk), .int vv, .ref an, .ref va])), (mrf, .inl (y 0, 3, .inl frf)), (to, .inl (y 0, 228, .inl ft))] H := hP
    have hD : va_D A [(mo, .inr (11, [.ref to, .ref ke, .ref ik, .ref mrf, .long mab, .long mbl, .ref ha, .ref r0, .ref mbr, .ref mbp, .ref mby, .int (nI bl), .int (nI ta), .int (nI tl), .int (nI tk), .int vv, .ref an, .ref va])), (mrf, .inl (y 0, 3, .inl frf)), (to, .inl (y 0, 228, .inl ft))] := hD
    refine lv_if_ne (tgt := 19) hx hb dX11_enough_9 (by decide) (fun h9 => absurd h9 (by decide)) (fun _ => ?_)
    refine lv_aload_n hx hb dX11_enough_12 rfl (lv_at hl 0 rfl) ?_
    refine lv_bipush (v := (-2)) hx hb dX11_enough_13 (by decide) ?_
    have hs1008 : kw_Split [(mo, .inr (11, [.ref to, .ref ke, .ref ik, .ref mrf, .long mab, .long mbl, .ref ha, .ref r0, .ref mbr, .ref mbp, .ref mby, .int (nI bl), .int (nI ta), .int (nI tl), .int (nI tk), .int vv, .ref an, .ref va])), (mrf, .inl (y 0, 3, .inl frf)), (to, .inl (y 0, 228, .inl ft))] [(mo, .inr (11, [.ref to, .ref ke, .ref ik, .ref mrf, .long mab, .long mbl, .ref ha, .ref r0, .ref mbr, .ref mbp, .ref mby, .int (nI bl), .int (nI ta), .int (nI tl), .int (nI tk), .int vv, .ref an, .ref va])), (mrf, .inl (y 0, 3, .inl frf))] [(to, .inl (y 0, 228, .inl ft))] [0, 1] [2] := ⟨rfl, rfl, rfl, rfl, rfl, by decide⟩
    refine kw_go_i hs1008 hP hD hS hA (va_runV (As := [.int (-2)]) (rest := []) ⟨hx, hb, hml, hown, hts⟩ (gr_bad l D y mo to ke ik mrf ha r0 mbr mbp mby an va mab mbl bl ta tl tk vv frf (-2)  _) (cwV 1 hts gX11_enough_X11_bad rfl rfl rfl (by decide +kernel) ⟨Nat.le_of_ble_eq_true rfl, Nat.le_of_ble_eq_true rfl⟩) (kw_PreV (ci := 11) (q0 := 0) hs1008 hP hD hK hN rfl rfl) rfl rfl hl.1 rfl (lv_room (Nat.le_of_ble_eq_true rfl)) dX11_enough_15 ⟨Nat.le_of_ble_eq_true rfl, Nat.le_of_ble_eq_true rfl⟩) (fun r1009 u1010 H locs hq hP hD hS => ?_)
    obtain rfl := hq
    have hP : va_P D vwCl [(to, .inl (y 0, 228, .inl ft)), (mo, .inr (11, [.ref to, .ref ke, .ref ik, .ref mrf, .long mab, .long mbl, .ref ha, .ref r0, .ref mbr, .ref mbp, .ref mby, .int (nI bl), .int (nI ta), .int (nI tl), .int (nI tk), .int vv, .ref an, .ref va])), (mrf, .inl (y 0, 3, .inl (upd frf 0 ((frf 0) + 1))))] H := hP
    have hD : va_D A [(to, .inl (y 0, 228, .inl ft)), (mo, .inr (11, [.ref to, .ref ke, .ref ik, .ref mrf, .long mab, .long mbl, .ref ha, .ref r0, .ref mbr, .ref mbp, .ref mby, .int (nI bl), .int (nI ta), .int (nI tl), .int (nI tk), .int vv, .ref an, .ref va])), (mrf, .inl (y 0, 3, .inl (upd frf 0 ((frf 0) + 1))))] := hD
    exact W.iret (v := (-2)) hx hb hr (fun tZ ht hW => ⟨⟨(-2), ((upd frf 0 ((frf 0) + 1))), rfl, by first | omega | (dsimp only; omega), by rw [ht]; exact hP.sub [1, 2, 0] rfl, hD.sub [1, 2, 0] (by decide) rfl⟩, hS.F ht⟩) hS.2.2 dX11_enough_18
