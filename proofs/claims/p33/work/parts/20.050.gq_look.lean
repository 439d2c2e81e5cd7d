set_option maxHeartbeats 4000000 in
set_option maxRecDepth 100000 in
theorem gq_look (l : Launch) (D : va_G) (y : Nat → ClassId) (mo : Nat) (to : Nat) (ke : Nat) (ik : Nat) (mrf : Nat) (ha : Nat) (r0 : Nat) (mbr : Nat) (mbp : Nat) (mby : Nat) (an : Nat) (va : Nat) (mab : Int64) (mbl : Int64) (bl : Nat) (ta : Nat) (tl : Nat) (tk : Nat) (vv : Int32) (frf : Nat → Int32) (ft : Nat → Int32) (fi : Nat) (gl : Nat) (mi : Nat) (no : Nat) (un : Nat) (x : Int32) (hk0_ : ft 0 = (nI fi)) (hk1_ : ft 1 = (nI gl)) (hk2_ : ft 2 = (nI mi)) (hk3_ : ft 3 = (nI no)) (hk4_ : ft 4 = (nI un)) (hkt : kr_t 228 ft) (hfi : fi ≤ 6) (hgl : gl ≤ 5) (hmi : mi ≤ 4) (hno : no ≤ 6) (hun : un ≤ 8) (hgf : (gl = 0 ∨ 0 < fi)) : kw_Mi l yX11_look wsX11_look ({ frames := 5, cells := 0, slots := 0, locals := 155 }) D y [.ref mo, .int x] [(mo, .inr (11, [.ref to, .ref ke, .ref ik, .ref mrf, .long mab, .long mbl, .ref ha, .ref r0, .ref mbr, .ref mbp, .ref mby, .int (nI bl), .int (nI ta), .int (nI tl), .int (nI tk), .int vv, .ref an, .ref va])), (mrf, .inl (y 0, 3, .inl frf)), (to, .inl (y 0, 228, .inl ft))] (fun (r : Int32) (u : (Nat → Int32)) => (gl = 0 ∨ 0 < fi)) (fun u => [(mo, .inr (11, [.ref to, .ref ke, .ref ik, .ref mrf, .long mab, .long mbl, .ref ha, .ref r0, .ref mbr, .ref mbp, .ref mby, .int (nI bl), .int (nI ta), .int (nI tl), .int (nI tk), .int vv, .ref an, .ref va])), (mrf, .inl (y 0, 3, .inl u)), (to, .inl (y 0, 228, .inl ft))]) 0 0 := by
  refine kw_Mi.of (cc := cX11_look) (maxL := 11) (ret := (some .int)) (by decide) rfl ?_
  intro pZ eZ s mZ beZ meZ cZ A hE
  obtain ⟨hx, hb, hr, hml, hts, hown, hlocks, hin, hA, hP, hD, hK, hN⟩ := hE
  have hS : va_S A s.heap s.heap [] := va_S.rf
  have hl := lv_entry ([.ref mo, .int x]) (n := 11) (Nat.le_of_ble_eq_true rfl)
  rw [lg_entry_eq]
  generalize (lg_sl ([.ref mo, .int x]) ++ List.replicate (11 - (lg_sl ([.ref mo, .int x])).length) Slot.unset).toArray = ls at hl ⊢
  have hl : lv_has ls 11 [(0, .ref mo), (1, .int x)] := hl
  have fw1 := hts (.constant RX11 158 (1000000)) (List.mem_of_getElem? (i := 1) rfl)
  have fw2 := hts (.fieldLink RX11 7 "GleanDuskModel" "told" "[I") (List.mem_of_getElem? (i := 2) rfl)
  have iw11 : ∀ w ∈ wsX110, w ∈ wsX11_look := fun _ h => List.mem_cons_of_mem _ (List.mem_append_right _ h)
  refine lv_aload_n hx hb dX11_look_0 rfl (lv_at hl 0 rfl) ?_
  refine lv_iload_n hx hb dX11_look_1 rfl (lv_at hl 1 rfl) ?_
  have hs1 : kw_Split [(mo, .inr (11, [.ref to, .ref ke, .ref ik, .ref mrf, .long mab, .long mbl, .ref ha, .ref r0, .ref mbr, .ref mbp, .ref mby, .int (nI bl), .int (nI ta), .int (nI tl), .int (nI tk), .int vv, .ref an, .ref va])), (mrf, .inl (y 0, 3, .inl frf)), (to, .inl (y 0, 228, .inl ft))] [(mo, .inr (11, [.ref to, .ref ke, .ref ik, .ref mrf, .long mab, .long mbl, .ref ha, .ref r0, .ref mbr, .ref mbp, .ref mby, .int (nI bl), .int (nI ta), .int (nI tl), .int (nI tk), .int vv, .ref an, .ref va])), (to, .inl (y 0, 228, .inl ft))] [(mrf, .inl (y 0, 3, .inl frf))] [0, 2] [1] := ⟨rfl, rfl, rfl, rfl, rfl, by decide⟩
  refine kw_go_i hs1 hP hD hS hA (va_runV (As := [.int x]) (rest := []) ⟨hx, hb, hml, hown, hts⟩ (gr_isField l D y mo to ke ik mrf ha r0 mbr mbp mby an va mab mbl bl ta tl tk vv ft fi gl mi no un x hk0_ hk1_ hk2_ hk3_ hk4_ hkt hfi hgl hmi hno hun _) (cwV 1 hts gX11_look_X11_isField rfl rfl rfl (by decide +kernel) ⟨Nat.le_of_ble_eq_true rfl, Nat.le_of_ble_eq_true rfl⟩) (kw_PreV (ci := 11) (q0 := 0) hs1 hP hD hK hN rfl rfl) rfl rfl hl.1 rfl (lv_room (Nat.le_of_ble_eq_true rfl)) dX11_look_2 ⟨Nat.le_of_ble_eq_true rfl, Nat.le_of_ble_eq_true rfl⟩) (fun r2 u3 H locs hq hP hD hS => ?_)
  rcases hq with ⟨j4, h5, rfl, rfl⟩ | ⟨h6, rfl⟩
  · skip
    have hP : va_P D vwCl [(mrf, .inl (y 0, 3, .inl frf)), (mo, .inr (11, [.ref to, .ref ke, .ref ik, .ref mrf, .long mab, .long mbl, .ref ha, .ref r0, .ref mbr, .ref mbp, .ref mby, .int (nI bl), .int (nI ta), .int (nI tl), .int (nI tk), .int vv, .ref an, .ref va])), (to, .inl (y 0, 228, .inl ft))] H := hP
    have hD : va_D A [(mrf, .inl (y 0, 3, .inl frf)), (mo, .inr (11, [.ref to, .ref ke, .ref ik, .ref mrf, .long mab, .long mbl, .ref ha, .ref r0, .ref mbr, .ref mbp, .ref mby, .int (nI bl), .int (nI ta), .int (nI tl), .int (nI tk), .int vv, .ref an, .ref va])), (to, .inl (y 0, 228, .inl ft))] := hD
    refine lv_if_ne (tgt := 15) hx hb dX11_look_5 (by decide) (fun _ => ?_) (fun h9 => absurd h9 (by decide))
    refine lv_aload_n hx hb dX11_look_15 rfl (lv_at hl 0 rfl) ?_
    refine lv_iload_n hx hb dX11_look_16 rfl (lv_at hl 1 rfl) ?_
    have hs7 : kw_Split [(mrf, .inl (y 0, 3, .inl frf)), (mo, .inr (11, [.ref to, .ref ke, .ref ik, .ref mrf, .long mab, .long mbl, .ref ha, .ref r0, .ref mbr, .ref mbp, .ref mby, .int (nI bl), .int (nI ta), .int (nI tl), .int (nI tk), .int vv, .ref an, .ref va])), (to, .inl (y 0, 228, .inl ft))] [(mo, .inr (11, [.ref to, .ref ke, .ref ik, .ref mrf, .long mab, .long mbl, .ref ha, .ref r0, .ref mbr, .ref mbp, .ref mby, .int (nI bl), .int (nI ta), .int (nI tl), .int (nI tk), .int vv, .ref an, .ref va])), (to, .inl (y 0, 228, .inl ft))] [(mrf, .inl (y 0, 3, .inl frf))] [1, 2] [0] := ⟨rfl, rfl, rfl, rfl, rfl, by decide⟩
    refine kw_go_i hs7 hP hD hS hA (va_runV (As := [.int (nI j4)]) (rest := []) ⟨hx, hb, hml, hown, hts⟩ (gr_kindsOf l D y mo to ke ik mrf ha r0 mbr mbp mby an va mab mbl bl ta tl tk vv ft fi gl mi no un (nI j4) hk0_ hk1_ hk2_ hk3_ hk4_ hkt hfi hgl hmi hno hun _) (cwV 1 hts gX11_look_X11_kindsOf rfl rfl rfl (by decide +kernel) ⟨Nat.le_of_ble_eq_true rfl, Nat.le_of_ble_eq_true rfl⟩) (kw_PreV (ci := 11) (q0 := 1) hs7 hP hD hK hN rfl rfl) rfl rfl hl.1 rfl (lv_room (Nat.le_of_ble_eq_true rfl)) dX11_look_17 ⟨Nat.le_of_ble_eq_true rfl, Nat.le_of_ble_eq_true rfl⟩) (fun r8 u9 H locs hq hP hD hS => ?_)
    have hP : va_P D vwCl [(mrf, .inl (y 0, 3, .inl frf)), (mo, .inr (11, [.ref to, .ref ke, .ref ik, .ref mrf, .long mab, .long mbl, .ref ha, .ref r0, .ref mbr, .ref mbp, .ref mby, .int (nI bl), .int (nI ta), .int (nI tl), .int (nI tk), .int vv, .ref an, .ref va])), (to, .inl (y 0, 228, .inl ft))] H := hP
    have hD : va_D A [(mrf, .inl (y 0, 3, .inl frf)), (mo, .inr (11, [.ref to, .ref ke, .ref ik, .ref mrf, .long mab, .long mbl, .ref ha, .ref r0, .ref mbr, .ref mbp, .ref mby, .int (nI bl), .int (nI ta), .int (nI tl), .int (nI tk), .int vv, .ref an, .ref va])), (to, .inl (y 0, 228, .inl ft))] := hD
    refine lv_istore_n (lv' := [(2, .int r8), (0, .ref mo), (1, .int (nI j4))]) hx hb dX11_look_20 rfl hl (by decide) rfl (fun ls hl => ?_)
    refine lv_iconst (v := (-1)) hx hb dX11_look_21 (by decide) ?_
    refine lv_istore_n (lv' := [(3, .int (-1)), (2, .int r8), (0, .ref mo), (1, .int (nI j4))]) hx hb dX11_look_22 rfl hl (by decide) rfl (fun ls hl => ?_)
    refine lv_ldc (v := 1000000) hx hb hown fw1 dX11_look_23 ?_
    refine lv_istore (lv' := [(4, .int 1000000), (3, .int (-1)), (2, .int r8), (0, .ref mo), (1, .int (nI j4))]) hx hb dX11_look_25 hl (by decide) rfl (fun ls hl => ?_)
    refine lv_iconst (v := 0) hx hb dX11_look_27 (by decide) ?_
    refine lv_istore (lv' := [(5, .int 0), (4, .int 1000000), (3, .int (-1)), (2, .int r8), (0, .ref mo), (1, .int (nI j4))]) hx hb dX11_look_28 hl (by decide) rfl (fun ls hl => ?_)
    have lp478 : ∀ (fuj91 j91 : Nat) (x226 : Int32) (x227 : Int32) (H : Heap) (locs : List Loc) (ls : Array Slot), j91 ≤ 1110 → 1110 - j91 < fuj91 → va_P D vwCl [(mrf, .inl (y 0, 3, .inl frf)), (mo, .inr (11, [.ref to, .ref ke, .ref ik, .ref mrf, .long mab, .long mbl, .ref ha, .ref r0, .ref mbr, .ref mbp, .ref mby, .int (nI bl), .int (nI ta), .int (nI tl), .int (nI tk), .int vv, .ref an, .ref va])), (to, .inl (y 0, 228, .inl ft))] H → va_D A [(mrf, .inl (y 0, 3, .inl frf)), (mo, .inr (11, [.ref to, .ref ke, .ref ik, .ref mrf, .long mab, .long mbl, .ref ha, .ref r0, .ref mbr, .ref mbp, .ref mby, .int (nI bl), .int (nI ta), .int (nI tl), .int (nI tk), .int vv, .ref an, .ref va])), (to, .inl (y 0, 228, .inl ft))] → va_S A s.heap H locs → lv_has ls 11 [(5, .int (nI j91)), (4, .int x226), (3, .int x227), (2, .int r8), (0, .ref mo), (1, .int (nI j4))] → W pZ l eZ ({ frames := 5, cells := 0, slots := 0, locals := 155 }) s mZ [.ref mo, .int (nI j4)].toArray beZ meZ cZ H locs 0 0 (MQ beZ (va_Qi (fun (r : Int32) (u : (Nat → Int32)) => (gl = 0 ∨ 0 < fi)) (kw_B D (fun u => [(mo, .inr (11, [.ref to, .ref ke, .ref ik, .ref mrf, .long mab, .long mbl, .ref ha, .ref r0, .ref mbr, .ref mbp, .ref mby, .int (nI bl), .int (nI ta), .int (nI tl), .int (nI tk), .int vv, .ref an, .ref va])), (mrf, .inl (y 0, 3, .inl u)), (to, .inl (y 0, 228, .inl ft))]) A) A) [.ref mo, .int (nI j4)].toArray s 0 0 A) (F0 mZ 30 ls []) := by
      intro fuj91
      induction fuj91 with
      | zero => intro j91 x226 x227 H locs ls hj9 hf9; exact absurd hf9 (Nat.not_lt_zero _)
      | succ fuj91 ihj91 =>
        intro j91 x226 x227 H locs ls hj91 hfj91  hP hD hS hl
        refine lv_iload hx hb dX11_look_30 (lv_at hl 0 rfl) ?_
        refine lv_sipush (v := 1110) hx hb dX11_look_32 (by decide) ?_
        refine lv_icmp_ge (tgt := 235) hx hb dX11_look_35 (by decide) (fun h479 => ?_) (fun h480 => ?_)
        · skip
          have h479 : 1110 ≤ j91 := (nI_leI (a := 1110) (b := j91) (by omega) (by omega)).mp h479
          refine lv_iload_n hx hb dX11_look_235 rfl (lv_at hl 2 rfl) ?_
          exact W.iret (v := x227) hx hb hr (fun tZ ht hW => ⟨⟨x227, (frf), rfl, by first | omega | (dsimp only; omega), by rw [ht]; exact hP.sub [1, 0, 2] rfl, hD.sub [1, 0, 2] (by decide) rfl⟩, hS.F ht⟩) hS.2.2 dX11_look_236
        · skip
          have h480 : ¬ 1110 ≤ j91 := fun q9 => h480 ((nI_leI (a := 1110) (b := j91) (by omega) (by omega)).mpr q9)
          refine lv_iload_n hx hb dX11_look_38 rfl (lv_at hl 3 rfl) ?_
          refine lv_if_le (tgt := 235) hx hb dX11_look_39 (by decide) (fun h481 => ?_) (fun h482 => ?_)
          · skip
            refine lv_iload_n hx hb dX11_look_235 rfl (lv_at hl 2 rfl) ?_
            exact W.iret (v := x227) hx hb hr (fun tZ ht hW => ⟨⟨x227, (frf), rfl, by first | omega | (dsimp only; omega), by rw [ht]; exact hP.sub [1, 0, 2] rfl, hD.sub [1, 0, 2] (by decide) rfl⟩, hS.F ht⟩) hS.2.2 dX11_look_236
          · skip
            refine lv_iload hx hb dX11_look_42 (lv_at hl 0 rfl) ?_
            refine lv_bipush (v := 100) hx hb dX11_look_44 (by decide) ?_
            refine lv_irem hx hb dX11_look_46 (by decide) ?_
            rw [show (nI j91) - (nI j91) / 100 * 100 = nI (j91 % 100) from pk_rem (a := j91) (d := 100) (by omega) (by omega) (by omega)]
            refine lv_bipush (v := 10) hx hb dX11_look_47 (by decide) ?_
            refine lv_icmp_ge (tgt := 56) hx hb dX11_look_49 (by decide) (fun h483 => ?_) (fun h484 => ?_)
            · skip
              have h483 : 10 ≤ (j91 % 100) := (nI_leI (a := 10) (b := (j91 % 100)) (by omega) (by omega)).mp h483
              refine lv_ldc (v := 1000000) hx hb hown fw1 dX11_look_56 ?_
              refine lv_istore (lv' := [(6, .int 1000000), (5, .int (nI j91)), (4, .int x226), (3, .int x227), (2, .int r8), (0, .ref mo), (1, .int (nI j4))]) hx hb dX11_look_58 hl (by decide) rfl (fun ls hl => ?_)
              refine lv_iconst (v := 0) hx hb dX11_look_60 (by decide) ?_
              refine lv_istore (lv' := [(7, .int 0), (6, .int 1000000), (5, .int (nI j91)), (4, .int x226), (3, .int x227), (2, .int r8), (0, .ref mo), (1, .int (nI j4))]) hx hb dX11_look_61 hl (by decide) rfl (fun ls hl => ?_)
              have lp499 : ∀ (fuj92 j92 : Nat)  (H : Heap) (locs : List Loc) (ls : Array Slot), j92 ≤ 6 → 6 - j92 < fuj92 → va_P D vwCl [(mrf, .inl (y 0, 3, .inl frf)), (mo, .inr (11, [.ref to, .ref ke, .ref ik, .ref mrf, .long mab, .long mbl, .ref ha, .ref r0, .ref mbr, .ref mbp, .ref mby, .int (nI bl), .int (nI ta), .int (nI tl), .int (nI tk), .int vv, .ref an, .ref va])), (to, .inl (y 0, 228, .inl ft))] H → va_D A [(mrf, .inl (y 0, 3, .inl frf)), (mo, .inr (11, [.ref to, .ref ke, .ref ik, .ref mrf, .long mab, .long mbl, .ref ha, .ref r0, .ref mbr, .ref mbp, .ref mby, .int (nI bl), .int (nI ta), .int (nI tl), .int (nI tk), .int vv, .ref an, .ref va])), (to, .inl (y 0, 228, .inl ft))] → va_S A s.heap H locs → lv_has ls 11 [(7, .int (nI j92)), (6, .int 1000000), (5, .int (nI j91)), (4, .int x226), (3, .int x227), (2, .int r8), (0, .ref mo), (1, .int (nI j4))] → W pZ l eZ ({ frames := 5, cells := 0, slots := 0, locals := 155 }) s mZ [.ref mo, .int (nI j4)].toArray beZ meZ cZ H locs 0 0 (MQ beZ (va_Qi (fun (r : Int32) (u : (Nat → Int32)) => (gl = 0 ∨ 0 < fi)) (kw_B D (fun u => [(mo, .inr (11, [.ref to, .ref ke, .ref ik, .ref mrf, .long mab, .long mbl, .ref ha, .ref r0, .ref mbr, .ref mbp, .ref mby, .int (nI bl), .int (nI ta), .int (nI tl), .int (nI tk), .int vv, .ref an, .ref va])), (mrf, .inl (y 0, 3, .inl u)), (to, .inl (y 0, 228, .inl ft))]) A) A) [.ref mo, .int (nI j4)].toArray s 0 0 A) (F0 mZ 63 ls []) := by
                intro fuj92
                induction fuj92 with
                | zero => intro j92  H locs ls hj9 hf9; exact absurd hf9 (Nat.not_lt_zero _)
                | succ fuj92 ihj92 =>
                  intro j92  H locs ls hj92 hfj92  hP hD hS hl
                  refine lv_iload hx hb dX11_look_63 (lv_at hl 0 rfl) ?_
                  refine lv_bipush (v := 6) hx hb dX11_look_65 (by decide) ?_
                  refine lv_icmp_ge (tgt := 199) hx hb dX11_look_67 (by decide) (fun h500 => ?_) (fun h501 => ?_)
                  · skip
                    have h500 : 6 ≤ j92 := (nI_leI (a := 6) (b := j92) (by omega) (by omega)).mp h500
                    refine lv_iload hx hb dX11_look_199 (lv_at hl 1 rfl) ?_
                    refine lv_iload hx hb dX11_look_201 (lv_at hl 3 rfl) ?_
                    refine lv_icmp_ge (tgt := 211) hx hb dX11_look_203 (by decide) (fun h502 => ?_) (fun h503 => ?_)
                    · skip
                      refine lv_iload_n hx hb dX11_look_211 rfl (lv_at hl 4 rfl) ?_
                      refine lv_istore_n (lv' := [(3, .int x227), (7, .int (nI j92)), (6, .int 1000000), (5, .int (nI j91)), (4, .int x226), (2, .int r8), (0, .ref mo), (1, .int (nI j4))]) hx hb dX11_look_212 rfl hl (by decide) rfl (fun ls hl => ?_)
                      refine lv_iload hx hb dX11_look_213 (lv_at hl 2 rfl) ?_
                      refine lv_iload hx hb dX11_look_215 (lv_at hl 4 rfl) ?_
                      refine lv_icmp_ge (tgt := 225) hx hb dX11_look_217 (by decide) (fun h504 => ?_) (fun h505 => ?_)
                      · skip
                        refine lv_iload hx hb dX11_look_225 (lv_at hl 4 rfl) ?_
                        refine lv_istore (lv' := [(4, .int x226), (3, .int x227), (7, .int (nI j92)), (6, .int 1000000), (5, .int (nI j91)), (2, .int r8), (0, .ref mo), (1, .int (nI j4))]) hx hb dX11_look_227 hl (by decide) rfl (fun ls hl => ?_)
                        refine lv_iinc (v := (nI (j91 + 1))) (lv' := [(5, .int (nI (j91 + 1))), (4, .int x226), (3, .int x227), (7, .int (nI j92)), (6, .int 1000000), (2, .int r8), (0, .ref mo), (1, .int (nI j4))]) hx hb dX11_look_229 hl (k := 4) rfl (nI_1 j91) (by decide) rfl (fun ls hl => ?_)
                        refine lv_goto (tgt := 30) hx hb dX11_look_232 (by decide) ?_
                        exact ihj91 (j91 + 1) x226 x227 H locs ls (by omega) (by omega)  (hP.sub [0, 1, 2] rfl) (hD.sub [0, 1, 2] (by decide) rfl) hS (lv_sub hl [0, 1, 2, 5, 6, 7] rfl)
                      · skip
                        exact absurd h502 h505
                    · skip
                      refine lv_iload hx hb dX11_look_206 (lv_at hl 2 rfl) ?_
                      refine lv_goto (tgt := 212) hx hb dX11_look_208 (by decide) ?_
                      refine lv_istore_n (lv' := [(3, .int (nI j91)), (7, .int (nI j92)), (6, .int 1000000), (5, .int (nI j91)), (4, .int x226), (2, .int r8), (0, .ref mo), (1, .int (nI j4))]) hx hb dX11_look_212 rfl hl (by decide) rfl (fun ls hl => ?_)
                      refine lv_iload hx hb dX11_look_213 (lv_at hl 2 rfl) ?_
                      refine lv_iload hx hb dX11_look_215 (lv_at hl 4 rfl) ?_
                      refine lv_icmp_ge (tgt := 225) hx hb dX11_look_217 (by decide) (fun h506 => ?_) (fun h507 => ?_)
                      · skip
                        exact absurd h506 h503
                      · skip
                        refine lv_iload hx hb dX11_look_220 (lv_at hl 2 rfl) ?_
                        refine lv_goto (tgt := 227) hx hb dX11_look_222 (by decide) ?_
                        refine lv_istore (lv' := [(4, .int 1000000), (3, .int (nI j91)), (7, .int (nI j92)), (6, .int 1000000), (5, .int (nI j91)), (2, .int r8), (0, .ref mo), (1, .int (nI j4))]) hx hb dX11_look_227 hl (by decide) rfl (fun ls hl => ?_)
                        refine lv_iinc (v := (nI (j91 + 1))) (lv' := [(5, .int (nI (j91 + 1))), (4, .int 1000000), (3, .int (nI j91)), (7, .int (nI j92)), (6, .int 1000000), (2, .int r8), (0, .ref mo), (1, .int (nI j4))]) hx hb dX11_look_229 hl (k := 4) rfl (nI_1 j91) (by decide) rfl (fun ls hl => ?_)
                        refine lv_goto (tgt := 30) hx hb dX11_look_232 (by decide) ?_
                        exact ihj91 (j91 + 1) 1000000 (nI j91) H locs ls (by omega) (by omega)  (hP.sub [0, 1, 2] rfl) (hD.sub [0, 1, 2] (by decide) rfl) hS (lv_sub hl [0, 1, 2, 5, 6, 7] rfl)
                  · skip
                    have h501 : ¬ 6 ≤ j92 := fun q9 => h501 ((nI_leI (a := 6) (b := j92) (by omega) (by omega)).mpr q9)
                    refine lv_iload hx hb dX11_look_70 (lv_at hl 1 rfl) ?_
                    refine lv_ldc (v := 1000000) hx hb hown fw1 dX11_look_72 ?_
                    refine lv_icmp_ge (tgt := 199) hx hb dX11_look_74 (by decide) (fun _ => ?_) (fun h9 => absurd h9 (by decide))
                    refine lv_iload hx hb dX11_look_199 (lv_at hl 1 rfl) ?_
                    refine lv_iload hx hb dX11_look_201 (lv_at hl 3 rfl) ?_
                    refine lv_icmp_ge (tgt := 211) hx hb dX11_look_203 (by decide) (fun h508 => ?_) (fun h509 => ?_)
                    · skip
                      refine lv_iload_n hx hb dX11_look_211 rfl (lv_at hl 4 rfl) ?_
                      refine lv_istore_n (lv' := [(3, .int x227), (7, .int (nI j92)), (6, .int 1000000), (5, .int (nI j91)), (4, .int x226), (2, .int r8), (0, .ref mo), (1, .int (nI j4))]) hx hb dX11_look_212 rfl hl (by decide) rfl (fun ls hl => ?_)
                      refine lv_iload hx hb dX11_look_213 (lv_at hl 2 rfl) ?_
                      refine lv_iload hx hb dX11_look_215 (lv_at hl 4 rfl) ?_
                      refine lv_icmp_ge (tgt := 225) hx hb dX11_look_217 (by decide) (fun h510 => ?_) (fun h511 => ?_)
                      · skip
                        refine lv_iload hx hb dX11_look_225 (lv_at hl 4 rfl) ?_
                        refine lv_istore (lv' := [(4, .int x226), (3, .int x227), (7, .int (nI j92)), (6, .int 1000000), (5, .int (nI j91)), (2, .int r8), (0, .ref mo), (1, .int (nI j4))]) hx hb dX11_look_227 hl (by decide) rfl (fun ls hl => ?_)
                        refine lv_iinc (v := (nI (j91 + 1))) (lv' := [(5, .int (nI (j91 + 1))), (4, .int x226), (3, .int x227), (7, .int (nI j92)), (6, .int 1000000), (2, .int r8), (0, .ref mo), (1, .int (nI j4))]) hx hb dX11_look_229 hl (k := 4) rfl (nI_1 j91) (by decide) rfl (fun ls hl => ?_)
                        refine lv_goto (tgt := 30) hx hb dX11_look_232 (by decide) ?_
                        exact ihj91 (j91 + 1) x226 x227 H locs ls (by omega) (by omega)  (hP.sub [0, 1, 2] rfl) (hD.sub [0, 1, 2] (by decide) rfl) hS (lv_sub hl [0, 1, 2, 5, 6, 7] rfl)
                      · skip
                        exact absurd h508 h511
                    · skip
                      refine lv_iload hx hb dX11_look_206 (lv_at hl 2 rfl) ?_
                      refine lv_goto (tgt := 212) hx hb dX11_look_208 (by decide) ?_
                      refine lv_istore_n (lv' := [(3, .int (nI j91)), (7, .int (nI j92)), (6, .int 1000000), (5, .int (nI j91)), (4, .int x226), (2, .int r8), (0, .ref mo), (1, .int (nI j4))]) hx hb dX11_look_212 rfl hl (by decide) rfl (fun ls hl => ?_)
                      refine lv_iload hx hb dX11_look_213 (lv_at hl 2 rfl) ?_
                      refine lv_iload hx hb dX11_look_215 (lv_at hl 4 rfl) ?_
                      refine lv_icmp_ge (tgt := 225) hx hb dX11_look_217 (by decide) (fun h512 => ?_) (fun h513 => ?_)
                      · skip
                        exact absurd h512 h509
                      · skip
                        refine lv_iload hx hb dX11_look_220 (lv_at hl 2 rfl) ?_
                        refine lv_goto (tgt := 227) hx hb dX11_look_222 (by decide) ?_
                        refine lv_istore (lv' := [(4, .int 1000000), (3, .int (nI j91)), (7, .int (nI j92)), (6, .int 1000000), (5, .int (nI j91)), (2, .int r8), (0, .ref mo), (1, .int (nI j4))]) hx hb dX11_look_227 hl (by decide) rfl (fun ls hl => ?_)
                        refine lv_iinc (v := (nI (j91 + 1))) (lv' := [(5, .int (nI (j91 + 1))), (4, .int 1000000), (3, .int (nI j91)), (7, .int (nI j92)), (6, .int 1000000), (2, .int r8), (0, .ref mo), (1, .int (nI j4))]) hx hb dX11_look_229 hl (k := 4) rfl (nI_1 j91) (by decide) rfl (fun ls hl => ?_)
                        refine lv_goto (tgt := 30) hx hb dX11_look_232 (by decide) ?_
                        exact ihj91 (j91 + 1) 1000000 (nI j91) H locs ls (by omega) (by omega)  (hP.sub [0, 1, 2] rfl) (hD.sub [0, 1, 2] (by decide) rfl) hS (lv_sub hl [0, 1, 2, 5, 6, 7] rfl)
              exact lp499 (6 + 1) 0  _ _ _ (by omega) (by omega)  hP hD hS (lv_sub hl [0, 1, 2, 3, 4, 5, 6, 7] rfl)
            · skip
              have h484 : ¬ 10 ≤ (j91 % 100) := fun q9 => h484 ((nI_leI (a := 10) (b := (j91 % 100)) (by omega) (by omega)).mpr q9)
              refine lv_iconst (v := 0) hx hb dX11_look_52 (by decide) ?_
              refine lv_goto (tgt := 58) hx hb dX11_look_53 (by decide) ?_
              refine lv_istore (lv' := [(6, .int 0), (5, .int (nI j91)), (4, .int x226), (3, .int x227), (2, .int r8), (0, .ref mo), (1, .int (nI j4))]) hx hb dX11_look_58 hl (by decide) rfl (fun ls hl => ?_)
              refine lv_iconst (v := 0) hx hb dX11_look_60 (by decide) ?_
              refine lv_istore (lv' := [(7, .int 0), (6, .int 0), (5, .int (nI j91)), (4, .int x226), (3, .int x227), (2, .int r8), (0, .ref mo), (1, .int (nI j4))]) hx hb dX11_look_61 hl (by decide) rfl (fun ls hl => ?_)
              have lp653 : ∀ (fuj92 j92 : Nat) (x577 : Int32) (H : Heap) (locs : List Loc) (ls : Array Slot), j92 ≤ 6 → 6 - j92 < fuj92 → va_P D vwCl [(mrf, .inl (y 0, 3, .inl frf)), (mo, .inr (11, [.ref to, .ref ke, .ref ik, .ref mrf, .long mab, .long mbl, .ref ha, .ref r0, .ref mbr, .ref mbp, .ref mby, .int (nI bl), .int (nI ta), .int (nI tl), .int (nI tk), .int vv, .ref an, .ref va])), (to, .inl (y 0, 228, .inl ft))] H → va_D A [(mrf, .inl (y 0, 3, .inl frf)), (mo, .inr (11, [.ref to, .ref ke, .ref ik, .ref mrf, .long mab, .long mbl, .ref ha, .ref r0, .ref mbr, .ref mbp, .ref mby, .int (nI bl), .int (nI ta), .int (nI tl), .int (nI tk), .int vv, .ref an, .ref va])), (to, .inl (y 0, 228, .inl ft))] → va_S A s.heap H locs → lv_has ls 11 [(7, .int (nI j92)), (6, .int x577), (5, .int (nI j91)), (4, .int x226), (3, .int x227), (2, .int r8), (0, .ref mo), (1, .int (nI j4))] → W pZ l eZ ({ frames := 5, cells := 0, slots := 0, locals := 155 }) s mZ [.ref mo, .int (nI j4)].toArray beZ meZ cZ H locs 0 0 (MQ beZ (va_Qi (fun (r : Int32) (u : (Nat → Int32)) => (gl = 0 ∨ 0 < fi)) (kw_B D (fun u => [(mo, .inr (11, [.ref to, .ref ke, .ref ik, .ref mrf, .long mab, .long mbl, .ref ha, .ref r0, .ref mbr, .ref mbp, .ref mby, .int (nI bl), .int (nI ta), .int (nI tl), .int (nI tk), .int vv, .ref an, .ref va])), (mrf, .inl (y 0, 3, .inl u)), (to, .inl (y 0, 228, .inl ft))]) A) A) [.ref mo, .int (nI j4)].toArray s 0 0 A) (F0 mZ 63 ls []) := by
                intro fuj92
                induction fuj92 with
                | zero => intro j92 x577 H locs ls hj9 hf9; exact absurd hf9 (Nat.not_lt_zero _)
                | succ fuj92 ihj92 =>
                  intro j92 x577 H locs ls hj92 hfj92  hP hD hS hl
                  refine lv_iload hx hb dX11_look_63 (lv_at hl 0 rfl) ?_
                  refine lv_bipush (v := 6) hx hb dX11_look_65 (by decide) ?_
                  refine lv_icmp_ge (tgt := 199) hx hb dX11_look_67 (by decide) (fun h654 => ?_) (fun h655 => ?_)
                  · skip
                    have h654 : 6 ≤ j92 := (nI_leI (a := 6) (b := j92) (by omega) (by omega)).mp h654
                    refine lv_iload hx hb dX11_look_199 (lv_at hl 1 rfl) ?_
                    refine lv_iload hx hb dX11_look_201 (lv_at hl 3 rfl) ?_
                    refine lv_icmp_ge (tgt := 211) hx hb dX11_look_203 (by decide) (fun h656 => ?_) (fun h657 => ?_)
                    · skip
                      refine lv_iload_n hx hb dX11_look_211 rfl (lv_at hl 4 rfl) ?_
                      refine lv_istore_n (lv' := [(3, .int x227), (7, .int (nI j92)), (6, .int x577), (5, .int (nI j91)), (4, .int x226), (2, .int r8), (0, .ref mo), (1, .int (nI j4))]) hx hb dX11_look_212 rfl hl (by decide) rfl (fun ls hl => ?_)
                      refine lv_iload hx hb dX11_look_213 (lv_at hl 2 rfl) ?_
                      refine lv_iload hx hb dX11_look_215 (lv_at hl 4 rfl) ?_
                      refine lv_icmp_ge (tgt := 225) hx hb dX11_look_217 (by decide) (fun h658 => ?_) (fun h659 => ?_)
                      · skip
                        refine lv_iload hx hb dX11_look_225 (lv_at hl 4 rfl) ?_
                        refine lv_istore (lv' := [(4, .int x226), (3, .int x227), (7, .int (nI j92)), (6, .int x577), (5, .int (nI j91)), (2, .int r8), (0, .ref mo), (1, .int (nI j4))]) hx hb dX11_look_227 hl (by decide) rfl (fun ls hl => ?_)
                        refine lv_iinc (v := (nI (j91 + 1))) (lv' := [(5, .int (nI (j91 + 1))), (4, .int x226), (3, .int x227), (7, .int (nI j92)), (6, .int x577), (2, .int r8), (0, .ref mo), (1, .int (nI j4))]) hx hb dX11_look_229 hl (k := 4) rfl (nI_1 j91) (by decide) rfl (fun ls hl => ?_)
                        refine lv_goto (tgt := 30) hx hb dX11_look_232 (by decide) ?_
                        exact ihj91 (j91 + 1) x226 x227 H locs ls (by omega) (by omega)  (hP.sub [0, 1, 2] rfl) (hD.sub [0, 1, 2] (by decide) rfl) hS (lv_sub hl [0, 1, 2, 5, 6, 7] rfl)
                      · skip
                        exact absurd h656 h659
                    · skip
                      refine lv_iload hx hb dX11_look_206 (lv_at hl 2 rfl) ?_
                      refine lv_goto (tgt := 212) hx hb dX11_look_208 (by decide) ?_
                      refine lv_istore_n (lv' := [(3, .int (nI j91)), (7, .int (nI j92)), (6, .int x577), (5, .int (nI j91)), (4, .int x226), (2, .int r8), (0, .ref mo), (1, .int (nI j4))]) hx hb dX11_look_212 rfl hl (by decide) rfl (fun ls hl => ?_)
                      refine lv_iload hx hb dX11_look_213 (lv_at hl 2 rfl) ?_
                      refine lv_iload hx hb dX11_look_215 (lv_at hl 4 rfl) ?_
                      refine lv_icmp_ge (tgt := 225) hx hb dX11_look_217 (by decide) (fun h660 => ?_) (fun h661 => ?_)
                      · skip
                        exact absurd h660 h657
                      · skip
                        refine lv_iload hx hb dX11_look_220 (lv_at hl 2 rfl) ?_
                        refine lv_goto (tgt := 227) hx hb dX11_look_222 (by decide) ?_
                        refine lv_istore (lv' := [(4, .int x577), (3, .int (nI j91)), (7, .int (nI j92)), (6, .int x577), (5, .int (nI j91)), (2, .int r8), (0, .ref mo), (1, .int (nI j4))]) hx hb dX11_look_227 hl (by decide) rfl (fun ls hl => ?_)
                        refine lv_iinc (v := (nI (j91 + 1))) (lv' := [(5, .int (nI (j91 + 1))), (4, .int x577), (3, .int (nI j91)), (7, .int (nI j92)), (6, .int x577), (2, .int r8), (0, .ref mo), (1, .int (nI j4))]) hx hb dX11_look_229 hl (k := 4) rfl (nI_1 j91) (by decide) rfl (fun ls hl => ?_)
                        refine lv_goto (tgt := 30) hx hb dX11_look_232 (by decide) ?_
                        exact ihj91 (j91 + 1) x577 (nI j91) H locs ls (by omega) (by omega)  (hP.sub [0, 1, 2] rfl) (hD.sub [0, 1, 2] (by decide) rfl) hS (lv_sub hl [0, 1, 2, 5, 6, 7] rfl)
                  · skip
                    have h655 : ¬ 6 ≤ j92 := fun q9 => h655 ((nI_leI (a := 6) (b := j92) (by omega) (by omega)).mpr q9)
                    refine lv_iload hx hb dX11_look_70 (lv_at hl 1 rfl) ?_
                    refine lv_ldc (v := 1000000) hx hb hown fw1 dX11_look_72 ?_
                    refine lv_icmp_ge (tgt := 199) hx hb dX11_look_74 (by decide) (fun h662 => ?_) (fun h663 => ?_)
                    · skip
                      refine lv_iload hx hb dX11_look_199 (lv_at hl 1 rfl) ?_
                      refine lv_iload hx hb dX11_look_201 (lv_at hl 3 rfl) ?_
                      refine lv_icmp_ge (tgt := 211) hx hb dX11_look_203 (by decide) (fun h664 => ?_) (fun h665 => ?_)
                      · skip
                        refine lv_iload_n hx hb dX11_look_211 rfl (lv_at hl 4 rfl) ?_
                        refine lv_istore_n (lv' := [(3, .int x227), (7, .int (nI j92)), (6, .int x577), (5, .int (nI j91)), (4, .int x226), (2, .int r8), (0, .ref mo), (1, .int (nI j4))]) hx hb dX11_look_212 rfl hl (by decide) rfl (fun ls hl => ?_)
                        refine lv_iload hx hb dX11_look_213 (lv_at hl 2 rfl) ?_
                        refine lv_iload hx hb dX11_look_215 (lv_at hl 4 rfl) ?_
                        refine lv_icmp_ge (tgt := 225) hx hb dX11_look_217 (by decide) (fun h666 => ?_) (fun h667 => ?_)
                        · skip
                          refine lv_iload hx hb dX11_look_225 (lv_at hl 4 rfl) ?_
                          refine lv_istore (lv' := [(4, .int x226), (3, .int x227), (7, .int (nI j92)), (6, .int x577), (5, .int (nI j91)), (2, .int r8), (0, .ref mo), (1, .int (nI j4))]) hx hb dX11_look_227 hl (by decide) rfl (fun ls hl => ?_)
                          refine lv_iinc (v := (nI (j91 + 1))) (lv' := [(5, .int (nI (j91 + 1))), (4, .int x226), (3, .int x227), (7, .int (nI j92)), (6, .int x577), (2, .int r8), (0, .ref mo), (1, .int (nI j4))]) hx hb dX11_look_229 hl (k := 4) rfl (nI_1 j91) (by decide) rfl (fun ls hl => ?_)
                          refine lv_goto (tgt := 30) hx hb dX11_look_232 (by decide) ?_
                          exact ihj91 (j91 + 1) x226 x227 H locs ls (by omega) (by omega)  (hP.sub [0, 1, 2] rfl) (hD.sub [0, 1, 2] (by decide) rfl) hS (lv_sub hl [0, 1, 2, 5, 6, 7] rfl)
                        · skip
                          exact absurd h664 h667
                      · skip
                        refine lv_iload hx hb dX11_look_206 (lv_at hl 2 rfl) ?_
                        refine lv_goto (tgt := 212) hx hb dX11_look_208 (by decide) ?_
                        refine lv_istore_n (lv' := [(3, .int (nI j91)), (7, .int (nI j92)), (6, .int x577), (5, .int (nI j91)), (4, .int x226), (2, .int r8), (0, .ref mo), (1, .int (nI j4))]) hx hb dX11_look_212 rfl hl (by decide) rfl (fun ls hl => ?_)
                        refine lv_iload hx hb dX11_look_213 (lv_at hl 2 rfl) ?_
                        refine lv_iload hx hb dX11_look_215 (lv_at hl 4 rfl) ?_
                        refine lv_icmp_ge (tgt := 225) hx hb dX11_look_217 (by decide) (fun h668 => ?_) (fun h669 => ?_)
                        · skip
                          exact absurd h668 h665
                        · skip
                          refine lv_iload hx hb dX11_look_220 (lv_at hl 2 rfl) ?_
                          refine lv_goto (tgt := 227) hx hb dX11_look_222 (by decide) ?_
                          refine lv_istore (lv' := [(4, .int x577), (3, .int (nI j91)), (7, .int (nI j92)), (6, .int x577), (5, .int (nI j91)), (2, .int r8), (0, .ref mo), (1, .int (nI j4))]) hx hb dX11_look_227 hl (by decide) rfl (fun ls hl => ?_)
                          refine lv_iinc (v := (nI (j91 + 1))) (lv' := [(5, .int (nI (j91 + 1))), (4, .int x577), (3, .int (nI j91)), (7, .int (nI j92)), (6, .int x577), (2, .int r8), (0, .ref mo), (1, .int (nI j4))]) hx hb dX11_look_229 hl (k := 4) rfl (nI_1 j91) (by decide) rfl (fun ls hl => ?_)
                          refine lv_goto (tgt := 30) hx hb dX11_look_232 (by decide) ?_
                          exact ihj91 (j91 + 1) x577 (nI j91) H locs ls (by omega) (by omega)  (hP.sub [0, 1, 2] rfl) (hD.sub [0, 1, 2] (by decide) rfl) hS (lv_sub hl [0, 1, 2, 5, 6, 7] rfl)
                    · skip
                      refine lv_iconst (v := 0) hx hb dX11_look_77 (by decide) ?_
                      refine lv_istore (lv' := [(8, .int 0), (7, .int (nI j92)), (6, .int x577), (5, .int (nI j91)), (4, .int x226), (3, .int x227), (2, .int r8), (0, .ref mo), (1, .int (nI j4))]) hx hb dX11_look_78 hl (by decide) rfl (fun ls hl => ?_)
                      refine lv_iload hx hb dX11_look_80 (lv_at hl 1 rfl) ?_
                      refine lv_aload_n hx hb dX11_look_82 rfl (lv_at hl 7 rfl) ?_
                      refine va_get (D := D) (ci := 11) (v := .ref to) (C := RX11) (T := TX11) (N := 18) hx hb hts iw11 hown hK hP 1 rfl rfl 0 (by decide) fw2 (fun _ h9 => h9) rfl dX11_look_83 ?_
                      refine lv_iconst (v := 5) hx hb dX11_look_86 (by decide) ?_
                      refine lv_iload_n hx hb dX11_look_87 rfl (lv_at hl 8 rfl) ?_
                      refine lv_iadd hx hb dX11_look_88 ?_
                      rw [show 5 + (nI j4) = nI (j4 + 5) from (nI_add 5 j4).trans (congrArg nI (by omega))]
                      refine va_iald hx hb hK hP 2 0 rfl rfl (vp_in_nI (by omega) (by decide)) dX11_look_89 ?_
                      rw [nI_clamp (n := (j4 + 5)) (by omega)]
                      refine lv_iload hx hb dX11_look_90 (lv_at hl 3 rfl) ?_
                      refine lv_bipush (v := 100) hx hb dX11_look_92 (by decide) ?_
                      refine lv_idiv hx hb dX11_look_94 (by decide) ?_
                      rw [show (nI j91) / 100 = nI (j91 / 100) from pk_div (a := j91) (d := 100) (by omega) (by omega) (by omega)]
                      refine lv_iload hx hb dX11_look_95 (lv_at hl 3 rfl) ?_
                      refine lv_bipush (v := 100) hx hb dX11_look_97 (by decide) ?_
                      refine lv_irem hx hb dX11_look_99 (by decide) ?_
                      rw [show (nI j91) - (nI j91) / 100 * 100 = nI (j91 % 100) from pk_rem (a := j91) (d := 100) (by omega) (by omega) (by omega)]
                      have hs670 : kw_Split [(mrf, .inl (y 0, 3, .inl frf)), (mo, .inr (11, [.ref to, .ref ke, .ref ik, .ref mrf, .long mab, .long mbl, .ref ha, .ref r0, .ref mbr, .ref mbp, .ref mby, .int (nI bl), .int (nI ta), .int (nI tl), .int (nI tk), .int vv, .ref an, .ref va])), (to, .inl (y 0, 228, .inl ft))] [] [(mrf, .inl (y 0, 3, .inl frf)), (mo, .inr (11, [.ref to, .ref ke, .ref ik, .ref mrf, .long mab, .long mbl, .ref ha, .ref r0, .ref mbr, .ref mbp, .ref mby, .int (nI bl), .int (nI ta), .int (nI tl), .int (nI tk), .int vv, .ref an, .ref va])), (to, .inl (y 0, 228, .inl ft))] [] [0, 1, 2] := ⟨rfl, rfl, rfl, rfl, rfl, by decide⟩
                      refine kw_go_i hs670 hP hD hS hA (va_runS (As := [.int (nI j92), .int (ft (j4 + 5)), .int (nI (j91 / 100)), .int (nI (j91 % 100))]) (rest := []) ⟨hx, hb, hml, hown, hts⟩ (gr_seenAs l D y (nI j92) (ft (j4 + 5)) (nI (j91 / 100)) (nI (j91 % 100))  _) (va_cwS 4 hts gX11_look_X11_seenAs rfl rfl rfl (by decide +kernel) ⟨Nat.le_of_ble_eq_true rfl, Nat.le_of_ble_eq_true rfl⟩) (kw_PreS hs670 hP hD hK hN) rfl rfl hl.1 rfl (lv_room (Nat.le_of_ble_eq_true rfl)) dX11_look_100 ⟨Nat.le_of_ble_eq_true rfl, Nat.le_of_ble_eq_true rfl⟩) (fun r671 u672 H locs hq hP hD hS => ?_)
                      have hP : va_P D vwCl [(mrf, .inl (y 0, 3, .inl frf)), (mo, .inr (11, [.ref to, .ref ke, .ref ik, .ref mrf, .long mab, .long mbl, .ref ha, .ref r0, .ref mbr, .ref mbp, .ref mby, .int (nI bl), .int (nI ta), .int (nI tl), .int (nI tk), .int vv, .ref an, .ref va])), (to, .inl (y 0, 228, .inl ft))] H := hP
                      have hD : va_D A [(mrf, .inl (y 0, 3, .inl frf)), (mo, .inr (11, [.ref to, .ref ke, .ref ik, .ref mrf, .long mab, .long mbl, .ref ha, .ref r0, .ref mbr, .ref mbp, .ref mby, .int (nI bl), .int (nI ta), .int (nI tl), .int (nI tk), .int vv, .ref an, .ref va])), (to, .inl (y 0, 228, .inl ft))] := hD
                      refine lv_istore (lv' := [(9, .int r671), (8, .int 0), (7, .int (nI j92)), (6, .int x577), (5, .int (nI j91)), (4, .int x226), (3, .int x227), (2, .int r8), (0, .ref mo), (1, .int (nI j4))]) hx hb dX11_look_103 hl (by decide) rfl (fun ls hl => ?_)
                      refine lv_iconst (v := 0) hx hb dX11_look_105 (by decide) ?_
                      refine lv_istore (lv' := [(10, .int 0), (9, .int r671), (8, .int 0), (7, .int (nI j92)), (6, .int x577), (5, .int (nI j91)), (4, .int x226), (3, .int x227), (2, .int r8), (0, .ref mo), (1, .int (nI j4))]) hx hb dX11_look_106 hl (by decide) rfl (fun ls hl => ?_)
                      have lp711 : ∀ (fuj93 j93 : Nat) (x693 : Int32) (H : Heap) (locs : List Loc) (ls : Array Slot), j93 ≤ 6 → 6 - j93 < fuj93 → va_P D vwCl [(mrf, .inl (y 0, 3, .inl frf)), (mo, .inr (11, [.ref to, .ref ke, .ref ik, .ref mrf, .long mab, .long mbl, .ref ha, .ref r0, .ref mbr, .ref mbp, .ref mby, .int (nI bl), .int (nI ta), .int (nI tl), .int (nI tk), .int vv, .ref an, .ref va])), (to, .inl (y 0, 228, .inl ft))] H → va_D A [(mrf, .inl (y 0, 3, .inl frf)), (mo, .inr (11, [.ref to, .ref ke, .ref ik, .ref mrf, .long mab, .long mbl, .ref ha, .ref r0, .ref mbr, .ref mbp, .ref mby, .int (nI bl), .int (nI ta), .int (nI tl), .int (nI tk), .int vv, .ref an, .ref va])), (to, .inl (y 0, 228, .inl ft))] → va_S A s.heap H locs → lv_has ls 11 [(10, .int (nI j93)), (9, .int r671), (8, .int x693), (7, .int (nI j92)), (6, .int x577), (5, .int (nI j91)), (4, .int x226), (3, .int x227), (2, .int r8), (0, .ref mo), (1, .int (nI j4))] → W pZ l eZ ({ frames := 5, cells := 0, slots := 0, locals := 155 }) s mZ [.ref mo, .int (nI j4)].toArray beZ meZ cZ H locs 0 0 (MQ beZ (va_Qi (fun (r : Int32) (u : (Nat → Int32)) => (gl = 0 ∨ 0 < fi)) (kw_B D (fun u => [(mo, .inr (11, [.ref to, .ref ke, .ref ik, .ref mrf, .long mab, .long mbl, .ref ha, .ref r0, .ref mbr, .ref mbp, .ref mby, .int (nI bl), .int (nI ta), .int (nI tl), .int (nI tk), .int vv, .ref an, .ref va])), (mrf, .inl (y 0, 3, .inl u)), (to, .inl (y 0, 228, .inl ft))]) A) A) [.ref mo, .int (nI j4)].toArray s 0 0 A) (F0 mZ 108 ls []) := by
                        intro fuj93
                        induction fuj93 with
                        | zero => intro j93 x693 H locs ls hj9 hf9; exact absurd hf9 (Nat.not_lt_zero _)
                        | succ fuj93 ihj93 =>
                          intro j93 x693 H locs ls hj93 hfj93  hP hD hS hl
                          refine lv_iload hx hb dX11_look_108 (lv_at hl 0 rfl) ?_
                          refine lv_bipush (v := 6) hx hb dX11_look_110 (by decide) ?_
                          refine lv_icmp_ge (tgt := 177) hx hb dX11_look_112 (by decide) (fun h712 => ?_) (fun h713 => ?_)
                          · skip
                            have h712 : 6 ≤ j93 := (nI_leI (a := 6) (b := j93) (by omega) (by omega)).mp h712
                            refine lv_iload hx hb dX11_look_177 (lv_at hl 2 rfl) ?_
                            refine lv_iload hx hb dX11_look_179 (lv_at hl 4 rfl) ?_
                            refine lv_icmp_le (tgt := 189) hx hb dX11_look_181 (by decide) (fun h714 => ?_) (fun h715 => ?_)
                            · skip
                              refine lv_iload hx hb dX11_look_189 (lv_at hl 4 rfl) ?_
                              refine lv_istore (lv' := [(6, .int x577), (10, .int (nI j93)), (9, .int r671), (8, .int x693), (7, .int (nI j92)), (5, .int (nI j91)), (4, .int x226), (3, .int x227), (2, .int r8), (0, .ref mo), (1, .int (nI j4))]) hx hb dX11_look_191 hl (by decide) rfl (fun ls hl => ?_)
                              refine lv_iinc (v := (nI (j92 + 1))) (lv' := [(7, .int (nI (j92 + 1))), (6, .int x577), (10, .int (nI j93)), (9, .int r671), (8, .int x693), (5, .int (nI j91)), (4, .int x226), (3, .int x227), (2, .int r8), (0, .ref mo), (1, .int (nI j4))]) hx hb dX11_look_193 hl (k := 4) rfl (nI_1 j92) (by decide) rfl (fun ls hl => ?_)
                              refine lv_goto (tgt := 63) hx hb dX11_look_196 (by decide) ?_
                              exact ihj92 (j92 + 1) x577 H locs ls (by omega) (by omega)  (hP.sub [0, 1, 2] rfl) (hD.sub [0, 1, 2] (by decide) rfl) hS (lv_sub hl [0, 1, 5, 6, 7, 8, 9, 10] rfl)
                            · skip
                              refine lv_iload hx hb dX11_look_184 (lv_at hl 2 rfl) ?_
                              refine lv_goto (tgt := 191) hx hb dX11_look_186 (by decide) ?_
                              refine lv_istore (lv' := [(6, .int x693), (10, .int (nI j93)), (9, .int r671), (8, .int x693), (7, .int (nI j92)), (5, .int (nI j91)), (4, .int x226), (3, .int x227), (2, .int r8), (0, .ref mo), (1, .int (nI j4))]) hx hb dX11_look_191 hl (by decide) rfl (fun ls hl => ?_)
                              refine lv_iinc (v := (nI (j92 + 1))) (lv' := [(7, .int (nI (j92 + 1))), (6, .int x693), (10, .int (nI j93)), (9, .int r671), (8, .int x693), (5, .int (nI j91)), (4, .int x226), (3, .int x227), (2, .int r8), (0, .ref mo), (1, .int (nI j4))]) hx hb dX11_look_193 hl (k := 4) rfl (nI_1 j92) (by decide) rfl (fun ls hl => ?_)
                              refine lv_goto (tgt := 63) hx hb dX11_look_196 (by decide) ?_
                              exact ihj92 (j92 + 1) x693 H locs ls (by omega) (by omega)  (hP.sub [0, 1, 2] rfl) (hD.sub [0, 1, 2] (by decide) rfl) hS (lv_sub hl [0, 1, 5, 6, 7, 8, 9, 10] rfl)
                          · skip
                            have h713 : ¬ 6 ≤ j93 := fun q9 => h713 ((nI_leI (a := 6) (b := j93) (by omega) (by omega)).mpr q9)
                            refine lv_iload_n hx hb dX11_look_115 rfl (lv_at hl 8 rfl) ?_
                            refine lv_iload hx hb dX11_look_116 (lv_at hl 3 rfl) ?_
                            have hs716 : kw_Split [(mrf, .inl (y 0, 3, .inl frf)), (mo, .inr (11, [.ref to, .ref ke, .ref ik, .ref mrf, .long mab, .long mbl, .ref ha, .ref r0, .ref mbr, .ref mbp, .ref mby, .int (nI bl), .int (nI ta), .int (nI tl), .int (nI tk), .int vv, .ref an, .ref va])), (to, .inl (y 0, 228, .inl ft))] [] [(mrf, .inl (y 0, 3, .inl frf)), (mo, .inr (11, [.ref to, .ref ke, .ref ik, .ref mrf, .long mab, .long mbl, .ref ha, .ref r0, .ref mbr, .ref mbp, .ref mby, .int (nI bl), .int (nI ta), .int (nI tl), .int (nI tk), .int vv, .ref an, .ref va])), (to, .inl (y 0, 228, .inl ft))] [] [0, 1, 2] := ⟨rfl, rfl, rfl, rfl, rfl, by decide⟩
                            refine kw_go_i hs716 hP hD hS hA (va_runS (As := [.int r8, .int (nI j92)]) (rest := []) ⟨hx, hb, hml, hown, hts⟩ (gr_has l D y r8 (nI j92)  _) (va_cwS 2 hts gX11_look_X11_has rfl rfl rfl (by decide +kernel) ⟨Nat.le_of_ble_eq_true rfl, Nat.le_of_ble_eq_true rfl⟩) (kw_PreS hs716 hP hD hK hN) rfl rfl hl.1 rfl (lv_room (Nat.le_of_ble_eq_true rfl)) dX11_look_118 ⟨Nat.le_of_ble_eq_true rfl, Nat.le_of_ble_eq_true rfl⟩) (fun r717 u718 H locs hq hP hD hS => ?_)
                            obtain (rfl | rfl) := hq
                            · skip
                              have hP : va_P D vwCl [(mrf, .inl (y 0, 3, .inl frf)), (mo, .inr (11, [.ref to, .ref ke, .ref ik, .ref mrf, .long mab, .long mbl, .ref ha, .ref r0, .ref mbr, .ref mbp, .ref mby, .int (nI bl), .int (nI ta), .int (nI tl), .int (nI tk), .int vv, .ref an, .ref va])), (to, .inl (y 0, 228, .inl ft))] H := hP
                              have hD : va_D A [(mrf, .inl (y 0, 3, .inl frf)), (mo, .inr (11, [.ref to, .ref ke, .ref ik, .ref mrf, .long mab, .long mbl, .ref ha, .ref r0, .ref mbr, .ref mbp, .ref mby, .int (nI bl), .int (nI ta), .int (nI tl), .int (nI tk), .int vv, .ref an, .ref va])), (to, .inl (y 0, 228, .inl ft))] := hD
                              refine lv_if_eq (tgt := 177) hx hb dX11_look_121 (by decide) (fun _ => ?_) (fun h9 => absurd h9 (by decide))
                              refine lv_iload hx hb dX11_look_177 (lv_at hl 2 rfl) ?_
                              refine lv_iload hx hb dX11_look_179 (lv_at hl 4 rfl) ?_
                              refine lv_icmp_le (tgt := 189) hx hb dX11_look_181 (by decide) (fun h719 => ?_) (fun h720 => ?_)
                              · skip
                                refine lv_iload hx hb dX11_look_189 (lv_at hl 4 rfl) ?_
                                refine lv_istore (lv' := [(6, .int x577), (10, .int (nI j93)), (9, .int r671), (8, .int x693), (7, .int (nI j92)), (5, .int (nI j91)), (4, .int x226), (3, .int x227), (2, .int r8), (0, .ref mo), (1, .int (nI j4))]) hx hb dX11_look_191 hl (by decide) rfl (fun ls hl => ?_)
                                refine lv_iinc (v := (nI (j92 + 1))) (lv' := [(7, .int (nI (j92 + 1))), (6, .int x577), (10, .int (nI j93)), (9, .int r671), (8, .int x693), (5, .int (nI j91)), (4, .int x226), (3, .int x227), (2, .int r8), (0, .ref mo), (1, .int (nI j4))]) hx hb dX11_look_193 hl (k := 4) rfl (nI_1 j92) (by decide) rfl (fun ls hl => ?_)
                                refine lv_goto (tgt := 63) hx hb dX11_look_196 (by decide) ?_
                                exact ihj92 (j92 + 1) x577 H locs ls (by omega) (by omega)  (hP.sub [0, 1, 2] rfl) (hD.sub [0, 1, 2] (by decide) rfl) hS (lv_sub hl [0, 1, 5, 6, 7, 8, 9, 10] rfl)
                              · skip
                                refine lv_iload hx hb dX11_look_184 (lv_at hl 2 rfl) ?_
                                refine lv_goto (tgt := 191) hx hb dX11_look_186 (by decide) ?_
                                refine lv_istore (lv' := [(6, .int x693), (10, .int (nI j93)), (9, .int r671), (8, .int x693), (7, .int (nI j92)), (5, .int (nI j91)), (4, .int x226), (3, .int x227), (2, .int r8), (0, .ref mo), (1, .int (nI j4))]) hx hb dX11_look_191 hl (by decide) rfl (fun ls hl => ?_)
                                refine lv_iinc (v := (nI (j92 + 1))) (lv' := [(7, .int (nI (j92 + 1))), (6, .int x693), (10, .int (nI j93)), (9, .int r671), (8, .int x693), (5, .int (nI j91)), (4, .int x226), (3, .int x227), (2, .int r8), (0, .ref mo), (1, .int (nI j4))]) hx hb dX11_look_193 hl (k := 4) rfl (nI_1 j92) (by decide) rfl (fun ls hl => ?_)
                                refine lv_goto (tgt := 63) hx hb dX11_look_196 (by decide) ?_
                                exact ihj92 (j92 + 1) x693 H locs ls (by omega) (by omega)  (hP.sub [0, 1, 2] rfl) (hD.sub [0, 1, 2] (by decide) rfl) hS (lv_sub hl [0, 1, 5, 6, 7, 8, 9, 10] rfl)
                            · skip
                              have hP : va_P D vwCl [(mrf, .inl (y 0, 3, .inl frf)), (mo, .inr (11, [.ref to, .ref ke, .ref ik, .ref mrf, .long mab, .long mbl, .ref ha, .ref r0, .ref mbr, .ref mbp, .ref mby, .int (nI bl), .int (nI ta), .int (nI tl), .int (nI tk), .int vv, .ref an, .ref va])), (to, .inl (y 0, 228, .inl ft))] H := hP
                              have hD : va_D A [(mrf, .inl (y 0, 3, .inl frf)), (mo, .inr (11, [.ref to, .ref ke, .ref ik, .ref mrf, .long mab, .long mbl, .ref ha, .ref r0, .ref mbr, .ref mbp, .ref mby, .int (nI bl), .int (nI ta), .int (nI tl), .int (nI tk), .int vv, .ref an, .ref va])), (to, .inl (y 0, 228, .inl ft))] := hD
                              refine lv_if_eq (tgt := 177) hx hb dX11_look_121 (by decide) (fun h9 => absurd h9 (by decide)) (fun _ => ?_)
                              refine lv_iload hx hb dX11_look_124 (lv_at hl 2 rfl) ?_
                              refine lv_iload_n hx hb dX11_look_126 rfl (lv_at hl 8 rfl) ?_
                              refine lv_iload hx hb dX11_look_127 (lv_at hl 0 rfl) ?_
                              have hs721 : kw_Split [(mrf, .inl (y 0, 3, .inl frf)), (mo, .inr (11, [.ref to, .ref ke, .ref ik, .ref mrf, .long mab, .long mbl, .ref ha, .ref r0, .ref mbr, .ref mbp, .ref mby, .int (nI bl), .int (nI ta), .int (nI tl), .int (nI tk), .int vv, .ref an, .ref va])), (to, .inl (y 0, 228, .inl ft))] [] [(mrf, .inl (y 0, 3, .inl frf)), (mo, .inr (11, [.ref to, .ref ke, .ref ik, .ref mrf, .long mab, .long mbl, .ref ha, .ref r0, .ref mbr, .ref mbp, .ref mby, .int (nI bl), .int (nI ta), .int (nI tl), .int (nI tk), .int vv, .ref an, .ref va])), (to, .inl (y 0, 228, .inl ft))] [] [0, 1, 2] := ⟨rfl, rfl, rfl, rfl, rfl, by decide⟩
                              refine kw_go_i hs721 hP hD hS hA (va_runS (As := [.int r8, .int (nI j93)]) (rest := [.int x693]) ⟨hx, hb, hml, hown, hts⟩ (gr_has l D y r8 (nI j93)  _) (va_cwS 2 hts gX11_look_X11_has rfl rfl rfl (by decide +kernel) ⟨Nat.le_of_ble_eq_true rfl, Nat.le_of_ble_eq_true rfl⟩) (kw_PreS hs721 hP hD hK hN) rfl rfl hl.1 rfl (lv_room (Nat.le_of_ble_eq_true rfl)) dX11_look_129 ⟨Nat.le_of_ble_eq_true rfl, Nat.le_of_ble_eq_true rfl⟩) (fun r722 u723 H locs hq hP hD hS => ?_)
                              obtain (rfl | rfl) := hq
                              · skip
                                have hP : va_P D vwCl [(mrf, .inl (y 0, 3, .inl frf)), (mo, .inr (11, [.ref to, .ref ke, .ref ik, .ref mrf, .long mab, .long mbl, .ref ha, .ref r0, .ref mbr, .ref mbp, .ref mby, .int (nI bl), .int (nI ta), .int (nI tl), .int (nI tk), .int vv, .ref an, .ref va])), (to, .inl (y 0, 228, .inl ft))] H := hP
                                have hD : va_D A [(mrf, .inl (y 0, 3, .inl frf)), (mo, .inr (11, [.ref to, .ref ke, .ref ik, .ref mrf, .long mab, .long mbl, .ref ha, .ref r0, .ref mbr, .ref mbp, .ref mby, .int (nI bl), .int (nI ta), .int (nI tl), .int (nI tk), .int vv, .ref an, .ref va])), (to, .inl (y 0, 228, .inl ft))] := hD
                                refine lv_if_eq (tgt := 167) hx hb dX11_look_132 (by decide) (fun _ => ?_) (fun h9 => absurd h9 (by decide))
                                refine lv_iconst (v := 0) hx hb dX11_look_167 (by decide) ?_
                                refine lv_iadd hx hb dX11_look_168 ?_
                                refine lv_istore (lv' := [(8, .int (x693 + 0)), (10, .int (nI j93)), (9, .int r671), (7, .int (nI j92)), (6, .int x577), (5, .int (nI j91)), (4, .int x226), (3, .int x227), (2, .int r8), (0, .ref mo), (1, .int (nI j4))]) hx hb dX11_look_169 hl (by decide) rfl (fun ls hl => ?_)
                                refine lv_iinc (v := (nI (j93 + 1))) (lv' := [(10, .int (nI (j93 + 1))), (8, .int (x693 + 0)), (9, .int r671), (7, .int (nI j92)), (6, .int x577), (5, .int (nI j91)), (4, .int x226), (3, .int x227), (2, .int r8), (0, .ref mo), (1, .int (nI j4))]) hx hb dX11_look_171 hl (k := 1) rfl (nI_1 j93) (by decide) rfl (fun ls hl => ?_)
                                refine lv_goto (tgt := 108) hx hb dX11_look_174 (by decide) ?_
                                exact ihj93 (j93 + 1) (x693 + 0) H locs ls (by omega) (by omega)  (hP.sub [0, 1, 2] rfl) (hD.sub [0, 1, 2] (by decide) rfl) hS (lv_sub hl [0, 2, 1, 3, 4, 5, 6, 7, 8, 9, 10] rfl)
                              · skip
                                have hP : va_P D vwCl [(mrf, .inl (y 0, 3, .inl frf)), (mo, .inr (11, [.ref to, .ref ke, .ref ik, .ref mrf, .long mab, .long mbl, .ref ha, .ref r0, .ref mbr, .ref mbp, .ref mby, .int (nI bl), .int (nI ta), .int (nI tl), .int (nI tk), .int vv, .ref an, .ref va])), (to, .inl (y 0, 228, .inl ft))] H := hP
                                have hD : va_D A [(mrf, .inl (y 0, 3, .inl frf)), (mo, .inr (11, [.ref to, .ref ke, .ref ik, .ref mrf, .long mab, .long mbl, .ref ha, .ref r0, .ref mbr, .ref mbp, .ref mby, .int (nI bl), .int (nI ta), .int (nI tl), .int (nI tk), .int vv, .ref an, .ref va])), (to, .inl (y 0, 228, .inl ft))] := hD
                                refine lv_if_eq (tgt := 167) hx hb dX11_look_132 (by decide) (fun h9 => absurd h9 (by decide)) (fun _ => ?_)
                                refine lv_iload hx hb dX11_look_135 (lv_at hl 0 rfl) ?_
                                refine lv_aload_n hx hb dX11_look_137 rfl (lv_at hl 9 rfl) ?_
                                refine va_get (D := D) (ci := 11) (v := .ref to) (C := RX11) (T := TX11) (N := 18) hx hb hts iw11 hown hK hP 1 rfl rfl 0 (by decide) fw2 (fun _ h9 => h9) rfl dX11_look_138 ?_
                                refine lv_iconst (v := 5) hx hb dX11_look_141 (by decide) ?_
                                refine lv_iload_n hx hb dX11_look_142 rfl (lv_at hl 10 rfl) ?_
                                refine lv_iadd hx hb dX11_look_143 ?_
                                rw [show 5 + (nI j4) = nI (j4 + 5) from (nI_add 5 j4).trans (congrArg nI (by omega))]
                                refine va_iald hx hb hK hP 2 0 rfl rfl (vp_in_nI (by omega) (by decide)) dX11_look_144 ?_
                                rw [nI_clamp (n := (j4 + 5)) (by omega)]
                                refine lv_iload hx hb dX11_look_145 (lv_at hl 5 rfl) ?_
                                refine lv_bipush (v := 100) hx hb dX11_look_147 (by decide) ?_
                                refine lv_idiv hx hb dX11_look_149 (by decide) ?_
                                rw [show (nI j91) / 100 = nI (j91 / 100) from pk_div (a := j91) (d := 100) (by omega) (by omega) (by omega)]
                                refine lv_iload hx hb dX11_look_150 (lv_at hl 5 rfl) ?_
                                refine lv_bipush (v := 100) hx hb dX11_look_152 (by decide) ?_
                                refine lv_irem hx hb dX11_look_154 (by decide) ?_
                                rw [show (nI j91) - (nI j91) / 100 * 100 = nI (j91 % 100) from pk_rem (a := j91) (d := 100) (by omega) (by omega) (by omega)]
                                have hs724 : kw_Split [(mrf, .inl (y 0, 3, .inl frf)), (mo, .inr (11, [.ref to, .ref ke, .ref ik, .ref mrf, .long mab, .long mbl, .ref ha, .ref r0, .ref mbr, .ref mbp, .ref mby, .int (nI bl), .int (nI ta), .int (nI tl), .int (nI tk), .int vv, .ref an, .ref va])), (to, .inl (y 0, 228, .inl ft))] [] [(mrf, .inl (y 0, 3, .inl frf)), (mo, .inr (11, [.ref to, .ref ke, .ref ik, .ref mrf, .long mab, .long mbl, .ref ha, .ref r0, .ref mbr, .ref mbp, .ref mby, .int (nI bl), .int (nI ta), .int (nI tl), .int (nI tk), .int vv, .ref an, .ref va])), (to, .inl (y 0, 228, .inl ft))] [] [0, 1, 2] := ⟨rfl, rfl, rfl, rfl, rfl, by decide⟩
                                refine kw_go_i hs724 hP hD hS hA (va_runS (As := [.int (nI j93), .int (ft (j4 + 5)), .int (nI (j91 / 100)), .int (nI (j91 % 100))]) (rest := [.int x693]) ⟨hx, hb, hml, hown, hts⟩ (gr_seenAs l D y (nI j93) (ft (j4 + 5)) (nI (j91 / 100)) (nI (j91 % 100))  _) (va_cwS 4 hts gX11_look_X11_seenAs rfl rfl rfl (by decide +kernel) ⟨Nat.le_of_ble_eq_true rfl, Nat.le_of_ble_eq_true rfl⟩) (kw_PreS hs724 hP hD hK hN) rfl rfl hl.1 rfl (lv_room (Nat.le_of_ble_eq_true rfl)) dX11_look_155 ⟨Nat.le_of_ble_eq_true rfl, Nat.le_of_ble_eq_true rfl⟩) (fun r725 u726 H locs hq hP hD hS => ?_)
                                have hP : va_P D vwCl [(mrf, .inl (y 0, 3, .inl frf)), (mo, .inr (11, [.ref to, .ref ke, .ref ik, .ref mrf, .long mab, .long mbl, .ref ha, .ref r0, .ref mbr, .ref mbp, .ref mby, .int (nI bl), .int (nI ta), .int (nI tl), .int (nI tk), .int vv, .ref an, .ref va])), (to, .inl (y 0, 228, .inl ft))] H := hP
                                have hD : va_D A [(mrf, .inl (y 0, 3, .inl frf)), (mo, .inr (11, [.ref to, .ref ke, .ref ik, .ref mrf, .long mab, .long mbl, .ref ha, .ref r0, .ref mbr, .ref mbp, .ref mby, .int (nI bl), .int (nI ta), .int (nI tl), .int (nI tk), .int vv, .ref an, .ref va])), (to, .inl (y 0, 228, .inl ft))] := hD
                                refine lv_iload hx hb dX11_look_158 (lv_at hl 1 rfl) ?_
                                refine lv_icmp_ne (tgt := 167) hx hb dX11_look_160 (by decide) (fun h727 => ?_) (fun h728 => ?_)
                                · skip
                                  refine lv_iconst (v := 0) hx hb dX11_look_167 (by decide) ?_
                                  refine lv_iadd hx hb dX11_look_168 ?_
                                  refine lv_istore (lv' := [(8, .int (x693 + 0)), (10, .int (nI j93)), (9, .int r671), (7, .int (nI j92)), (6, .int x577), (5, .int (nI j91)), (4, .int x226), (3, .int x227), (2, .int r8), (0, .ref mo), (1, .int (nI j4))]) hx hb dX11_look_169 hl (by decide) rfl (fun ls hl => ?_)
                                  refine lv_iinc (v := (nI (j93 + 1))) (lv' := [(10, .int (nI (j93 + 1))), (8, .int (x693 + 0)), (9, .int r671), (7, .int (nI j92)), (6, .int x577), (5, .int (nI j91)), (4, .int x226), (3, .int x227), (2, .int r8), (0, .ref mo), (1, .int (nI j4))]) hx hb dX11_look_171 hl (k := 1) rfl (nI_1 j93) (by decide) rfl (fun ls hl => ?_)
                                  refine lv_goto (tgt := 108) hx hb dX11_look_174 (by decide) ?_
                                  exact ihj93 (j93 + 1) (x693 + 0) H locs ls (by omega) (by omega)  (hP.sub [0, 1, 2] rfl) (hD.sub [0, 1, 2] (by decide) rfl) hS (lv_sub hl [0, 2, 1, 3, 4, 5, 6, 7, 8, 9, 10] rfl)
                                · skip
                                  refine lv_iconst (v := 1) hx hb dX11_look_163 (by decide) ?_
                                  refine lv_goto (tgt := 168) hx hb dX11_look_164 (by decide) ?_
                                  refine lv_iadd hx hb dX11_look_168 ?_
                                  refine lv_istore (lv' := [(8, .int (x693 + 1)), (10, .int (nI j93)), (9, .int r671), (7, .int (nI j92)), (6, .int x577), (5, .int (nI j91)), (4, .int x226), (3, .int x227), (2, .int r8), (0, .ref mo), (1, .int (nI j4))]) hx hb dX11_look_169 hl (by decide) rfl (fun ls hl => ?_)
                                  refine lv_iinc (v := (nI (j93 + 1))) (lv' := [(10, .int (nI (j93 + 1))), (8, .int (x693 + 1)), (9, .int r671), (7, .int (nI j92)), (6, .int x577), (5, .int (nI j91)), (4, .int x226), (3, .int x227), (2, .int r8), (0, .ref mo), (1, .int (nI j4))]) hx hb dX11_look_171 hl (k := 1) rfl (nI_1 j93) (by decide) rfl (fun ls hl => ?_)
                                  refine lv_goto (tgt := 108) hx hb dX11_look_174 (by decide) ?_
                                  exact ihj93 (j93 + 1) (x693 + 1) H locs ls (by omega) (by omega)  (hP.sub [0, 1, 2] rfl) (hD.sub [0, 1, 2] (by decide) rfl) hS (lv_sub hl [0, 2, 1, 3, 4, 5, 6, 7, 8, 9, 10] rfl)
                      exact lp711 (6 + 1) 0 0 _ _ _ (by omega) (by omega)  hP hD hS (lv_sub hl [0, 1, 2, 3, 4, 5, 6, 7, 8, 9, 10] rfl)
              exact lp653 (6 + 1) 0 0 _ _ _ (by omega) (by omega)  hP hD hS (lv_sub hl [0, 1, 2, 3, 4, 5, 6, 7] rfl)
    exact lp478 (1110 + 1) 0 1000000 (-1) _ _ _ (by omega) (by omega)  hP hD hS (lv_sub hl [0, 1, 2, 3, 4, 5] rfl)
  · skip
    have hP : va_P D vwCl [(mrf, .inl (y 0, 3, .inl frf)), (mo, .inr (11, [.ref to, .ref ke, .ref ik, .ref mrf, .long mab, .long mbl, .ref ha, .ref r0, .ref mbr, .ref mbp, .ref mby, .int (nI bl), .int (nI ta), .int (nI tl), .int (nI tk), .int vv, .ref an, .ref va])), (to, .inl (y 0, 228, .inl ft))] H := hP
    have hD : va_D A [(mrf, .inl (y 0, 3, .inl frf)), (mo, .inr (11, [.ref to, .ref ke, .ref ik, .ref mrf, .long mab, .long mbl, .ref ha, .ref r0, .ref mbr, .ref mbp, .ref mby, .int (nI bl), .int (nI ta), .int (nI tl), .int (nI tk), .int vv, .ref an, .ref va])), (to, .inl (y 0, 228, .inl ft))] := hD
    refine lv_if_ne (tgt := 15) hx hb dX11_look_5 (by decide) (fun h9 => absurd h9 (by decide)) (fun _ => ?_)
    refine lv_aload_n hx hb dX11_look_8 rfl (lv_at hl 0 rfl) ?_
    refine lv_bipush (v := (-2)) hx hb dX11_look_9 (by decide) ?_
    have hs729 : kw_Split [(mrf, .inl (y 0, 3, .inl frf)), (mo, .inr (11, [.ref to, .ref ke, .ref ik, .ref mrf, .long mab, .long mbl, .ref ha, .ref r0, .ref mbr, .ref mbp, .ref mby, .int (nI bl), .int (nI ta), .int (nI tl), .int (nI tk), .int vv, .ref an, .ref va])), (to, .inl (y 0, 228, .inl ft))] [(mo, .inr (11, [.ref to, .ref ke, .ref ik, .ref mrf, .long mab, .long mbl, .ref ha, .ref r0, .ref mbr, .ref mbp, .ref mby, .int (nI bl), .int (nI ta), .int (nI tl), .int (nI tk), .int vv, .ref an, .ref va])), (mrf, .inl (y 0, 3, .inl frf))] [(to, .inl (y 0, 228, .inl ft))] [1, 0] [2] := ⟨rfl, rfl, rfl, rfl, rfl, by decide⟩
    refine kw_go_i hs729 hP hD hS hA (va_runV (As := [.int (-2)]) (rest := []) ⟨hx, hb, hml, hown, hts⟩ (gr_bad l D y mo to ke ik mrf ha r0 mbr mbp mby an va mab mbl bl ta tl tk vv frf (-2)  _) (cwV 1 hts gX11_look_X11_bad rfl rfl rfl (by decide +kernel) ⟨Nat.le_of_ble_eq_true rfl, Nat.le_of_ble_eq_true rfl⟩) (kw_PreV (ci := 11) (q0 := 1) hs729 hP hD hK hN rfl rfl) rfl rfl hl.1 rfl (lv_room (Nat.le_of_ble_eq_true rfl)) dX11_look_11 ⟨Nat.le_of_ble_eq_true rfl, Nat.le_of_ble_eq_true rfl⟩) (fun r730 u731 H locs hq hP hD hS => ?_)
    obtain rfl := hq
    have hP : va_P D vwCl [(to, .inl (y 0, 228, .inl ft)), (mo, .inr (11, [.ref to, .ref ke, .ref ik, .ref mrf, .long mab, .long mbl, .ref ha, .ref r0, .ref mbr, .ref mbp, .ref mby, .int (nI bl), .int (nI ta), .int (nI tl), .int (nI tk), .int vv, .ref an, .ref va])), (mrf, .inl (y 0, 3, .inl (upd frf 0 ((frf 0) + 1))))] H := hP
    have hD : va_D A [(to, .inl (y 0, 228, .inl ft)), (mo, .inr (11, [.ref to, .ref ke, .ref ik, .ref mrf, .long mab, .long mbl, .ref ha, .ref r0, .ref mbr, .ref mbp, .ref mby, .int (nI bl), .int (nI ta), .int (nI tl), .int (nI tk), .int vv, .ref an, .ref va])), (mrf, .inl (y 0, 3, .inl (upd frf 0 ((frf 0) + 1))))] := hD
    exact W.iret (v := (-2)) hx hb hr (fun tZ ht hW => ⟨⟨(-2), ((upd frf 0 ((frf 0) + 1))), rfl, by first | omega | (dsimp only; omega), by rw [ht]; exact hP.sub [1, 2, 0] rfl, hD.sub [1, 2, 0] (by decide) rfl⟩, hS.F ht⟩) hS.2.2 dX11_look_14

set_option maxHeartbeats 4000000 in
set_option maxRecDepth 100000 in
theorem gq_clouds (l : Launch) (D : va_G) (y : Nat → ClassId) (mo : Nat) (to : Nat) (ke : Nat) (ik : Nat) (mrf : Nat) (ha : Nat) (r0 : Nat) (mbr : Nat) (mbp : Nat) (mby : Nat) (an : Nat) (va : Nat) (mab : Int64) (mbl : Int64) (bl : Nat) (ta : Nat) (tl : Nat) (tk : Nat) (vv : Int32) (ft : Nat → Int32) (fi : Nat) (gl : Nat) (mi : Nat) (no : Nat) (un : Nat) (hk0_ : ft 0 = (nI fi)) (hk1_ : ft 1 = (nI gl)) (hk2_ : ft 2 = (nI mi)) (hk3_ : ft 3 = (nI no)) (hk4_ : ft 4 = (nI un)) (hkt : kr_t 228 ft) (hfi : fi ≤ 6) (hgl : gl ≤ 5) (hmi : mi ≤ 4) (hno : no ≤ 6) (hun : un ≤ 8) (hgf : (gl = 0 ∨ 0 < fi)) : kw_Mi l yX11_clouds wsX11_clouds ({ frames := 4, cells := 0, slots := 0, locals := 129 }) D y [.ref mo] [(mo, .inr (11, [.ref to, .ref ke, .ref ik, .ref mrf, .long mab, .long mbl, .ref ha, .ref r0, .ref mbr, .ref mbp, .ref mby, .int (nI bl), .int (nI ta), .int (nI tl), .int (nI tk), .int vv, .ref an, .ref va])), (to, .inl (y 0, 228, .inl ft))] (fun (r : Int32) (u : Unit) => (gl = 0 ∨ 0 < fi)) (fun _ => [(mo, .inr (11, [.ref to, .ref ke, .ref ik, .ref mrf, .long mab, .long mbl, .ref ha, .ref r0, .ref mbr, .ref mbp, .ref mby, .int (nI bl), .int (nI ta), .int (nI tl), .int (nI tk), .int vv, .ref an, .ref va])), (to, .inl (y 0, 228, .inl ft))]) 0 0 := by
  refine kw_Mi.of (cc := cX11_clouds) (maxL := 6) (ret := (some .int)) (by decide) rfl ?_
  intro pZ eZ s mZ beZ meZ cZ A hE
  obtain ⟨hx, hb, hr, hml, hts, hown, hlocks, hin, hA, hP, hD, hK, hN⟩ := hE
  have hS : va_S A s.heap s.heap [] := va_S.rf
  have hl := lv_entry ([.ref mo]) (n := 6) (Nat.le_of_ble_eq_true rfl)
  rw [lg_entry_eq]
  generalize (lg_sl ([.ref mo]) ++ List.replicate (6 - (lg_sl ([.ref mo])).length) Slot.unset).toArray = ls at hl ⊢
  have hl : lv_has ls 6 [(0, .ref mo)] := hl
  have fw1 := hts (.fieldLink RX11 7 "GleanDuskModel" "told" "[I") (List.mem_of_getElem? (i := 1) rfl)
  have iw11 : ∀ w ∈ wsX110, w ∈ wsX11_clouds := fun _ h => List.mem_cons_of_mem _ (List.mem_append_right _ h)
  refine lv_iconst (v := 0) hx hb dX11_clouds_0 (by decide) ?_
  refine lv_istore_n (lv' := [(1, .int 0), (0, .ref mo)]) hx hb dX11_clouds_1 rfl hl (by decide) rfl (fun ls hl => ?_)
  refine lv_iconst (v := 0) hx hb dX11_clouds_2 (by decide) ?_
  refine lv_istore_n (lv' := [(2, .int 0), (1, .int 0), (0, .ref mo)]) hx hb dX11_clouds_3 rfl hl (by decide) rfl (fun ls hl => ?_)
  have lp88 : ∀ (fuj91 j91 : Nat) (x45 : Int32) (H : Heap) (locs : List Loc) (ls : Array Slot), j91 ≤ 10 → 10 - j91 < fuj91 → va_P D vwCl [(mo, .inr (11, [.ref to, .ref ke, .ref ik, .ref mrf, .long mab, .long mbl, .ref ha, .ref r0, .ref mbr, .ref mbp, .ref mby, .int (nI bl), .int (nI ta), .int (nI tl), .int (nI tk), .int vv, .ref an, .ref va])), (to, .inl (y 0, 228, .inl ft))] H → va_D A [(mo, .inr (11, [.ref to, .ref ke, .ref ik, .ref mrf, .long mab, .long mbl, .ref ha, .ref r0, .ref mbr, .ref mbp, .ref mby, .int (nI bl), .int (nI ta), .int (nI tl), .int (nI tk), .int vv, .ref an, .ref va])), (to, .inl (y 0, 228, .inl ft))] → va_S A s.heap H locs → lv_has ls 6 [(2, .int (nI j91)), (1, .int x45), (0, .ref mo)] → W pZ l eZ ({ frames := 4, cells := 0, slots := 0, locals := 129 }) s mZ [.ref mo].toArray beZ meZ cZ H locs 0 0 (MQ beZ (va_Qi (fun (r : Int32) (u : Unit) => (gl = 0 ∨ 0 < fi)) (kw_B D (fun _ => [(mo, .inr (11, [.ref to, .ref ke, .ref ik, .ref mrf, .long mab, .long mbl, .ref ha, .ref r0, .ref mbr, .ref mbp, .ref mby, .int (nI bl), .int (nI ta), .int (nI tl), .int (nI tk), .int vv, .ref an, .ref va])), (to, .inl (y 0, 228, .inl ft))]) A) A) [.ref mo].toArray s 0 0 A) (F0 mZ 4 ls []) := by
    intro fuj91
    induction fuj91 with
    | zero => intro j91 x45 H locs ls hj9 hf9; exact absurd hf9 (Nat.not_lt_zero _)
    | succ fuj91 ihj91 =>
      intro j91 x45 H locs ls hj91 hfj91  hP hD hS hl
      refine lv_iload_n hx hb dX11_clouds_4 rfl (lv_at hl 0 rfl) ?_
      refine lv_bipush (v := 10) hx hb dX11_clouds_5 (by decide) ?_
      refine lv_icmp_ge (tgt := 120) hx hb dX11_clouds_7 (by decide) (fun h89 => ?_) (fun h90 => ?_)
      · skip
        have h89 : 10 ≤ j91 := (nI_leI (a := 10) (b := j91) (by omega) (by omega)).mp h89
        refine lv_iload_n hx hb dX11_clouds_120 rfl (lv_at hl 1 rfl) ?_
        exact W.iret (v := x45) hx hb hr (fun tZ ht hW => ⟨⟨x45, (), rfl, by first | omega | (dsimp only; omega), by rw [ht]; exact hP.sub [0, 1] rfl, hD.sub [0, 1] (by decide) rfl⟩, hS.F ht⟩) hS.2.2 dX11_clouds_121
      · skip
        have h90 : ¬ 10 ≤ j91 := fun q9 => h90 ((nI_leI (a := 10) (b := j91) (by omega) (by omega)).mpr q9)
        refine lv_iconst (v := 1) hx hb dX11_clouds_10 (by decide) ?_
        refine lv_istore_n (lv' := [(3, .int 1), (2, .int (nI j91)), (1, .int x45), (0, .ref mo)]) hx hb dX11_clouds_11 rfl hl (by decide) rfl (fun ls hl => ?_)
        refine lv_iconst (v := 0) hx hb dX11_clouds_12 (by decide) ?_
        refine lv_istore (lv' := [(4, .int 0), (3, .int 1), (2, .int (nI j91)), (1, .int x45), (0, .ref mo)]) hx hb dX11_clouds_13 hl (by decide) rfl (fun ls hl => ?_)
        have lp116 : ∀ (fuj92 j92 : Nat) (x101 : Int32) (H : Heap) (locs : List Loc) (ls : Array Slot), j92 ≤ mi → mi - j92 < fuj92 → va_P D vwCl [(mo, .inr (11, [.ref to, .ref ke, .ref ik, .ref mrf, .long mab, .long mbl, .ref ha, .ref r0, .ref mbr, .ref mbp, .ref mby, .int (nI bl), .int (nI ta), .int (nI tl), .int (nI tk), .int vv, .ref an, .ref va])), (to, .inl (y 0, 228, .inl ft))] H → va_D A [(mo, .inr (11, [.ref to, .ref ke, .ref ik, .ref mrf, .long mab, .long mbl, .ref ha, .ref r0, .ref mbr, .ref mbp, .ref mby, .int (nI bl), .int (nI ta), .int (nI tl), .int (nI tk), .int vv, .ref an, .ref va])), (to, .inl (y 0, 228, .inl ft))] → va_S A s.heap H locs → lv_has ls 6 [(4, .int (nI j92)), (3, .int x101), (2, .int (nI j91)), (1, .int x45), (0, .ref mo)] → W pZ l eZ ({ frames := 4, cells := 0, slots := 0, locals := 129 }) s mZ [.ref mo].toArray beZ meZ cZ H locs 0 0 (MQ beZ (va_Qi (fun (r : Int32) (u : Unit) => (gl = 0 ∨ 0 < fi)) (kw_B D (fun _ => [(mo, .inr (11, [.ref to, .ref ke, .ref ik, .ref mrf, .long mab, .long mbl, .ref ha, .ref r0, .ref mbr, .ref mbp, .ref mby, .int (nI bl), .int (nI ta), .int (nI tl), .int (nI tk), .int vv, .ref an, .ref va])), (to, .inl (y 0, 228, .inl ft))]) A) A) [.ref mo].toArray s 0 0 A) (F0 mZ 15 ls []) := by
          intro fuj92
          induction fuj92 with
          | zero => intro j92 x101 H locs ls hj9 hf9; exact absurd hf9 (Nat.not_lt_zero _)
          | succ fuj92 ihj92 =>
            intro j92 x101 H locs ls hj92 hfj92  hP hD hS hl
            refine lv_iload hx hb dX11_clouds_15 (lv_at hl 0 rfl) ?_
            refine lv_aload_n hx hb dX11_clouds_17 rfl (lv_at hl 4 rfl) ?_
            refine va_get (D := D) (ci := 11) (v := .ref to) (C := RX11) (T := TX11) (N := 18) hx hb hts iw11 hown hK hP 0 rfl rfl 0 (by decide) fw1 (fun _ h9 => h9) rfl dX11_clouds_18 ?_
            refine lv_iconst (v := 2) hx hb dX11_clouds_21 (by decide) ?_
            refine va_iald hx hb hK hP 1 0 rfl rfl (by unfold vp_in; decide) dX11_clouds_22 ?_
            rw [show ((2 : Int32)).toNatClampNeg = 2 from rfl]
            rw [show (ft 2) = (nI mi) from hk2_]
            refine lv_icmp_ge (tgt := 100) hx hb dX11_clouds_23 (by decide) (fun h117 => ?_) (fun h118 => ?_)
            · skip
              have h117 : mi ≤ j92 := (nI_leI (a := mi) (b := j92) (by omega) (by omega)).mp h117
              refine lv_iload_n hx hb dX11_clouds_100 rfl (lv_at hl 3 rfl) ?_
              refine lv_iload_n hx hb dX11_clouds_101 rfl (lv_at hl 1 rfl) ?_
              refine lv_if_eq (tgt := 111) hx hb dX11_clouds_102 (by decide) (fun h119 => ?_) (fun h120 => ?_)
              · skip
                refine lv_iconst (v := 0) hx hb dX11_clouds_111 (by decide) ?_
                refine lv_ior hx hb dX11_clouds_112 ?_
                refine lv_istore_n (lv' := [(1, .int (x45 ||| 0)), (4, .int (nI j92)), (3, .int x101), (2, .int (nI j91)), (0, .ref mo)]) hx hb dX11_clouds_113 rfl hl (by decide) rfl (fun ls hl => ?_)
                refine lv_iinc (v := (nI (j91 + 1))) (lv' := [(2, .int (nI (j91 + 1))), (1, .int (x45 ||| 0)), (4, .int (nI j92)), (3, .int x101), (0, .ref mo)]) hx hb dX11_clouds_114 hl (k := 3) rfl (nI_1 j91) (by decide) rfl (fun ls hl => ?_)
                refine lv_goto (tgt := 4) hx hb dX11_clouds_117 (by decide) ?_
                exact ihj91 (j91 + 1) (x45 ||| 0) H locs ls (by omega) (by omega)  (hP.sub [0, 1] rfl) (hD.sub [0, 1] (by decide) rfl) hS (lv_sub hl [0, 1, 4] rfl)
              · skip
                refine lv_iconst (v := 1) hx hb dX11_clouds_105 (by decide) ?_
                refine lv_iload_n hx hb dX11_clouds_106 rfl (lv_at hl 2 rfl) ?_
                refine lv_ishl hx hb dX11_clouds_107 ?_
                refine lv_goto (tgt := 112) hx hb dX11_clouds_108 (by decide) ?_
                refine lv_ior hx hb dX11_clouds_112 ?_
                refine lv_istore_n (lv' := [(1, .int (x45 ||| (1 <<< ((nI j91) &&& 31)))), (4, .int (nI j92)), (3, .int x101), (2, .int (nI j91)), (0, .ref mo)]) hx hb dX11_clouds_113 rfl hl (by decide) rfl (fun ls hl => ?_)
                refine lv_iinc (v := (nI (j91 + 1))) (lv' := [(2, .int (nI (j91 + 1))), (1, .int (x45 ||| (1 <<< ((nI j91) &&& 31)))), (4, .int (nI j92)), (3, .int x101), (0, .ref mo)]) hx hb dX11_clouds_114 hl (k := 3) rfl (nI_1 j91) (by decide) rfl (fun ls hl => ?_)
                refine lv_goto (tgt := 4) hx hb dX11_clouds_117 (by decide) ?_
                exact ihj91 (j91 + 1) (x45 ||| (1 <<< ((nI j91) &&& 31))) H locs ls (by omega) (by omega)  (hP.sub [0, 1] rfl) (hD.sub [0, 1] (by decide) rfl) hS (lv_sub hl [0, 1, 4] rfl)
            · skip
              have h118 : ¬ mi ≤ j92 := fun q9 => h118 ((nI_leI (a := mi) (b := j92) (by omega) (by omega)).mpr q9)
              refine lv_bipush (v := 30) hx hb dX11_clouds_26 (by decide) ?_
              refine lv_iconst (v := 4) hx hb dX11_clouds_28 (by decide) ?_
              refine lv_iload hx hb dX11_clouds_29 (lv_at hl 0 rfl) ?_
              refine lv_imul hx hb dX11_clouds_31 ?_
              rw [show 4 * (nI j92) = nI (4 * j92) from pk_mul 4 j92]
              refine lv_iadd hx hb dX11_clouds_32 ?_
              rw [show 30 + (nI (4 * j92)) = nI (30 + (4 * j92)) from nI_add 30 (4 * j92)]
              refine lv_istore (lv' := [(5, .int (nI (30 + (4 * j92)))), (4, .int (nI j92)), (3, .int x101), (2, .int (nI j91)), (1, .int x45), (0, .ref mo)]) hx hb dX11_clouds_33 hl (by decide) rfl (fun ls hl => ?_)
              refine lv_iload_n hx hb dX11_clouds_35 rfl (lv_at hl 2 rfl) ?_
              refine lv_if_eq (tgt := 92) hx hb dX11_clouds_36 (by decide) (fun h121 => ?_) (fun h122 => ?_)
              · skip
                refine lv_iconst (v := 0) hx hb dX11_clouds_92 (by decide) ?_
                refine lv_istore_n (lv' := [(3, .int 0), (5, .int (nI (30 + (4 * j92)))), (4, .int (nI j92)), (2, .int (nI j91)), (1, .int x45), (0, .ref mo)]) hx hb dX11_clouds_93 rfl hl (by decide) rfl (fun ls hl => ?_)
                refine lv_iinc (v := (nI (j92 + 1))) (lv' := [(4, .int (nI (j92 + 1))), (3, .int 0), (5, .int (nI (30 + (4 * j92)))), (2, .int (nI j91)), (1, .int x45), (0, .ref mo)]) hx hb dX11_clouds_94 hl (k := 2) rfl (nI_1 j92) (by decide) rfl (fun ls hl => ?_)
                refine lv_goto (tgt := 15) hx hb dX11_clouds_97 (by decide) ?_
                exact ihj92 (j92 + 1) 0 H locs ls (by omega) (by omega)  (hP.sub [0, 1] rfl) (hD.sub [0, 1] (by decide) rfl) hS (lv_sub hl [0, 1, 3, 4, 5] rfl)
              · skip
                refine lv_aload_n hx hb dX11_clouds_39 rfl (lv_at hl 5 rfl) ?_
                refine va_get (D := D) (ci := 11) (v := .ref to) (C := RX11) (T := TX11) (N := 18) hx hb hts iw11 hown hK hP 0 rfl rfl 0 (by decide) fw1 (fun _ h9 => h9) rfl dX11_clouds_40 ?_
                refine lv_bipush (v := 24) hx hb dX11_clouds_43 (by decide) ?_
                refine lv_aload_n hx hb dX11_clouds_45 rfl (lv_at hl 5 rfl) ?_
                refine va_get (D := D) (ci := 11) (v := .ref to) (C := RX11) (T := TX11) (N := 18) hx hb hts iw11 hown hK hP 0 rfl rfl 0 (by decide) fw1 (fun _ h9 => h9) rfl dX11_clouds_46 ?_
                refine lv_iload hx hb dX11_clouds_49 (lv_at hl 0 rfl) ?_
                refine va_iald hx hb hK hP 1 0 rfl rfl (vp_in_nI (by omega) (by decide)) dX11_clouds_51 ?_
                rw [nI_clamp (n := (30 + (4 * j92))) (by omega)]
                obtain ⟨w123, h124, h125⟩ := kr_at hkt (p := (30 + (4 * j92))) (by omega) (by unfold kr_a; omega)
                rw [h125]
                refine lv_iadd hx hb dX11_clouds_52 ?_
                rw [show 24 + (nI w123) = nI (w123 + 24) from (nI_add 24 w123).trans (congrArg nI (by omega))]
                refine va_iald hx hb hK hP 1 0 rfl rfl (vp_in_nI (by omega) (by decide)) dX11_clouds_53 ?_
                rw [nI_clamp (n := (w123 + 24)) (by omega)]
                refine lv_aload_n hx hb dX11_clouds_54 rfl (lv_at hl 5 rfl) ?_
                refine va_get (D := D) (ci := 11) (v := .ref to) (C := RX11) (T := TX11) (N := 18) hx hb hts iw11 hown hK hP 0 rfl rfl 0 (by decide) fw1 (fun _ h9 => h9) rfl dX11_clouds_55 ?_
                refine lv_iload hx hb dX11_clouds_58 (lv_at hl 0 rfl) ?_
                refine lv_iconst (v := 2) hx hb dX11_clouds_60 (by decide) ?_
                refine lv_iadd hx hb dX11_clouds_61 ?_
                rw [show (nI (30 + (4 * j92))) + 2 = nI ((30 + (4 * j92)) + 2) from nI_add (30 + (4 * j92)) 2]
                refine va_iald hx hb hK hP 1 0 rfl rfl (vp_in_nI (by omega) (by decide)) dX11_clouds_62 ?_
                rw [nI_clamp (n := ((30 + (4 * j92)) + 2)) (by omega)]
                refine lv_aload_n hx hb dX11_clouds_63 rfl (lv_at hl 5 rfl) ?_
                refine va_get (D := D) (ci := 11) (v := .ref to) (C := RX11) (T := TX11) (N := 18) hx hb hts iw11 hown hK hP 0 rfl rfl 0 (by decide) fw1 (fun _ h9 => h9) rfl dX11_clouds_64 ?_
                refine lv_iload hx hb dX11_clouds_67 (lv_at hl 0 rfl) ?_
                refine lv_iconst (v := 1) hx hb dX11_clouds_69 (by decide) ?_
                refine lv_iadd hx hb dX11_clouds_70 ?_
                rw [show (nI (30 + (4 * j92))) + 1 = nI ((30 + (4 * j92)) + 1) from nI_add (30 + (4 * j92)) 1]
                refine va_iald hx hb hK hP 1 0 rfl rfl (vp_in_nI (by omega) (by decide)) dX11_clouds_71 ?_
                rw [nI_clamp (n := ((30 + (4 * j92)) + 1)) (by omega)]
                refine lv_iload_n hx hb dX11_clouds_72 rfl (lv_at hl 3 rfl) ?_
                have hs126 : kw_Split [(mo, .inr (11, [.ref to, .ref ke, .ref ik, .ref mrf, .long mab, .long mbl, .ref ha, .ref r0, .ref mbr, .ref mbp, .ref mby, .int (nI bl), .int (nI ta), .int (nI tl), .int (nI tk), .int vv, .ref an, .ref va])), (to, .inl (y 0, 228, .inl ft))] [] [(mo, .inr (11, [.ref to, .ref ke, .ref ik, .ref mrf, .long mab, .long mbl, .ref ha, .ref r0, .ref mbr, .ref mbp, .ref mby, .int (nI bl), .int (nI ta), .int (nI tl), .int (nI tk), .int vv, .ref an, .ref va])), (to, .inl (y 0, 228, .inl ft))] [] [0, 1] := ⟨rfl, rfl, rfl, rfl, rfl, by decide⟩
                refine kw_go_i hs126 hP hD hS hA (va_runS (As := [.int (ft (w123 + 24)), .int (ft ((30 + (4 * j92)) + 2)), .int (ft ((30 + (4 * j92)) + 1)), .int (nI j91)]) (rest := []) ⟨hx, hb, hml, hown, hts⟩ (gr_seenAs l D y (ft (w123 + 24)) (ft ((30 + (4 * j92)) + 2)) (ft ((30 + (4 * j92)) + 1)) (nI j91)  _) (va_cwS 4 hts gX11_clouds_X11_seenAs rfl rfl rfl (by decide +kernel) ⟨Nat.le_of_ble_eq_true rfl, Nat.le_of_ble_eq_true rfl⟩) (kw_PreS hs126 hP hD hK hN) rfl rfl hl.1 rfl (lv_room (Nat.le_of_ble_eq_true rfl)) dX11_clouds_73 ⟨Nat.le_of_ble_eq_true rfl, Nat.le_of_ble_eq_true rfl⟩) (fun r127 u128 H locs hq hP hD hS => ?_)
                have hP : va_P D vwCl [(mo, .inr (11, [.ref to, .ref ke, .ref ik, .ref mrf, .long mab, .long mbl, .ref ha, .ref r0, .ref mbr, .ref mbp, .ref mby, .int (nI bl), .int (nI ta), .int (nI tl), .int (nI tk), .int vv, .ref an, .ref va])), (to, .inl (y 0, 228, .inl ft))] H := hP
                have hD : va_D A [(mo, .inr (11, [.ref to, .ref ke, .ref ik, .ref mrf, .long mab, .long mbl, .ref ha, .ref r0, .ref mbr, .ref mbp, .ref mby, .int (nI bl), .int (nI ta), .int (nI tl), .int (nI tk), .int vv, .ref an, .ref va])), (to, .inl (y 0, 228, .inl ft))] := hD
                refine lv_aload_n hx hb dX11_clouds_76 rfl (lv_at hl 5 rfl) ?_
                refine va_get (D := D) (ci := 11) (v := .ref to) (C := RX11) (T := TX11) (N := 18) hx hb hts iw11 hown hK hP 0 rfl rfl 0 (by decide) fw1 (fun _ h9 => h9) rfl dX11_clouds_77 ?_
                refine lv_iload hx hb dX11_clouds_80 (lv_at hl 0 rfl) ?_
                refine lv_iconst (v := 3) hx hb dX11_clouds_82 (by decide) ?_
                refine lv_iadd hx hb dX11_clouds_83 ?_
                rw [show (nI (30 + (4 * j92))) + 3 = nI ((30 + (4 * j92)) + 3) from nI_add (30 + (4 * j92)) 3]
                refine va_iald hx hb hK hP 1 0 rfl rfl (vp_in_nI (by omega) (by decide)) dX11_clouds_84 ?_
                rw [nI_clamp (n := ((30 + (4 * j92)) + 3)) (by omega)]
                refine lv_icmp_ne (tgt := 92) hx hb dX11_clouds_85 (by decide) (fun h129 => ?_) (fun h130 => ?_)
                · skip
                  refine lv_iconst (v := 0) hx hb dX11_clouds_92 (by decide) ?_
                  refine lv_istore_n (lv' := [(3, .int 0), (5, .int (nI (30 + (4 * j92)))), (4, .int (nI j92)), (2, .int (nI j91)), (1, .int x45), (0, .ref mo)]) hx hb dX11_clouds_93 rfl hl (by decide) rfl (fun ls hl => ?_)
                  refine lv_iinc (v := (nI (j92 + 1))) (lv' := [(4, .int (nI (j92 + 1))), (3, .int 0), (5, .int (nI (30 + (4 * j92)))), (2, .int (nI j91)), (1, .int x45), (0, .ref mo)]) hx hb dX11_clouds_94 hl (k := 2) rfl (nI_1 j92) (by decide) rfl (fun ls hl => ?_)
                  refine lv_goto (tgt := 15) hx hb dX11_clouds_97 (by decide) ?_
                  exact ihj92 (j92 + 1) 0 H locs ls (by omega) (by omega)  (hP.sub [0, 1] rfl) (hD.sub [0, 1] (by decide) rfl) hS (lv_sub hl [0, 1, 3, 4, 5] rfl)
                · skip
                  refine lv_iconst (v := 1) hx hb dX11_clouds_88 (by decide) ?_
                  refine lv_goto (tgt := 93) hx hb dX11_clouds_89 (by decide) ?_
                  refine lv_istore_n (lv' := [(3, .int 1), (5, .int (nI (30 + (4 * j92)))), (4, .int (nI j92)), (2, .int (nI j91)), (1, .int x45), (0, .ref mo)]) hx hb dX11_clouds_93 rfl hl (by decide) rfl (fun ls hl => ?_)
                  refine lv_iinc (v := (nI (j92 + 1))) (lv' := [(4, .int (nI (j92 + 1))), (3, .int 1), (5, .int (nI (30 + (4 * j92)))), (2, .int (nI j91)), (1, .int x45), (0, .ref mo)]) hx hb dX11_clouds_94 hl (k := 2) rfl (nI_1 j92) (by decide) rfl (fun ls hl => ?_)
                  refine lv_goto (tgt := 15) hx hb dX11_clouds_97 (by decide) ?_
                  exact ihj92 (j92 + 1) 1 H locs ls (by omega) (by omega)  (hP.sub [0, 1] rfl) (hD.sub [0, 1] (by decide) rfl) hS (lv_sub hl [0, 1, 3, 4, 5] rfl)
        exact lp116 (mi + 1) 0 1 _ _ _ (by omega) (by omega)  hP hD hS (lv_sub hl [0, 1, 2, 3, 4] rfl)
  exact lp88 (10 + 1) 0 0 _ _ _ (by omega) (by omega)  hP hD hS (lv_sub hl [0, 1, 2] rfl)
