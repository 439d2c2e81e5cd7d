set_option maxHeartbeats 4000000 in
set_option maxRecDepth 100000 in
theorem gq_look (l : Launch) (D : va_G) (y : Nat → ClassId) (mo : Nat) (to : Nat) (ke : Nat) (ik : Nat) (mrf : Nat) (ha : Nat) (r0 : Nat) (mbr : Nat) (mbp : Nat) (mby : Nat) (an : Nat) (va : Nat) (mab : Int64) (mbl : Int64) (bl : Nat) (ta : Nat) (tl : Nat) (tk : Nat) (vv : Int32) (frf : Nat → Int32) (ft : Nat → Int32) (fi : Nat) (gl : Nat) (mi : Nat) (no : Nat) (un : Nat) (x : Int32) (hk0_ : ft 0 = (nI fi)) (hk1_ : ft 1 = (nI gl)) (hk2_ : ft 2 = (nI mi)) (hk3_ : ft 3 = (nI no)) (hk4_ : ft 4 = (nI un)) (hkt : kr_t 228 ft) (hfi : fi ≤ 6) (hgl : gl ≤ 5) (hmi : mi ≤ 4) (hno : no ≤ 6) (hun : un ≤ 8) (hgf : (gl = 0 ∨ 0 < fi)) : kw_Mi l yX11_look wsX11_look ({ frames := 5, cells := 0, slots := 0, locals := 155 }) D y [.ref mo, .int x] [(mo, .inr (11, [.ref to, .ref ke, .ref ik, .ref mrf, .long mab, .long mbl, .ref ha, .ref r0, .ref mbr, .ref mbp, .ref mby, .int (nI bl), .int (nI ta), .int (nI tl), .int (nI tk), .int vv, .ref an, .ref va])), (mrf, .inl (y 0, 3, .inl frf)), (to, .inl (y 0, 228, .inl ft))] (fun (r : Int32) (u : (Nat → Int32)) => (gl = 0 ∨ 0 < fi)) (fun u => [(mo, .inr (11, [.ref to, .ref ke, .ref ik, .ref mrf, .long mab, .long mbl, .ref ha, .ref r0, .ref mbr, .ref mbp, .ref mby, .int (nI bl), .int (nI ta), .int (nI tl), .int (nI tk), .int vv, .ref an, .ref va])), (mrf, .inl (y 0, 3, .inl u)), (to, .inl (y 0, 228, .inl ft))]) 0 0 := by
  refine kw_Mi.of (cc := cX11_look) (maxL := 11) (ret := (some .int)) (by decide) rfl ?_
  intro pZ eZ s mZ beZ meZ cZ A hE
  obtain ⟨hx, hb, hr, hml, hts, hown, hlocks, hin, hA, hP, hD, hK, hN⟩ := hE
  have hS : va_S A s.heap s.heap [] := va_S.rf
  have hl := lv_entry ([.ref mo, .int x]) (n := 11) (Nat.le_of_ble_eq_true rfl)
  rw [lg_entry_eq]
  generalize (lg_sl ([.ref mo, .int x]) ++ List.replicate (11 - (lg_sl ([.ref mo, .int x])).length) Slot.unset).toArray = ls at hl ⊢
  have hl : lv_has ls 11 [(0, .ref mo), (1, .int x)] := hl
  have fw1 := hts (.constant RX11 158 (1000000)) (List.mem_of_getElem? (i := 1) rfl)
  have fw2 := hts (.fieldLink RX11 7 "GleanDuskModel" "told" "[I") (List.mem_of_getElem? (i := 2) rfl)
  have iw11 : ∀ w ∈ wsX110, w ∈ wsX11_look := fun _ h => List.mem_cons_of_mem _ (List.mem_append_right _ h)
  refine lv_aload_n hx hb dX11_look_0 rfl (lv_at hl 0 rfl) ?_
  refine lv_iload_n hx hb dX11_look_1 rfl (lv_at hl 1 rfl) ?_
  have hs1 : kw_Split [(mo, .inr (11, [.ref to, .ref ke, .ref ik, .ref mrf, .long mab, .long mbl, .ref ha, .ref r0, .ref mbr, .ref mbp, .ref mby, .int (nI bl), .int (nI ta), .int (nI tl), .int (nI tk), .int vv, .ref an, .ref va])), (mrf, .inl (y 0, 3, .inl frf)), (to, .inl (y 0, 228, .inl ft))] [(mo, .inr (11, [.ref to, .ref ke, .ref ik, .ref mrf, .long mab, .long mbl, .ref ha, .ref r0, .ref mbr, .ref mbp, .ref mby, .int (nI bl), .int (nI ta), .int (nI tl), .int (nI tk), .int vv, .ref an, .ref va])), (to, .inl (y 0, 228, .inl ft))] [(mrf, .inl (y 0, 3, .inl frf))] [0, 2] [1] := ⟨rfl, rfl, rfl, rfl, rfl, by decide⟩
  refine kw_go_i hs1 hP hD hS hA (va_runV (As := [.int x]) (rest := []) ⟨hx, hb, hml, hown, hts⟩ (gr_isField l D y mo to ke ik mrf ha r0 mbr mbp mby an va mab mbl bl ta tl tk vv ft fi gl mi no un x hk0_ hk1_ hk2_ hk3_ hk4_ hkt hfi hgl hmi hno hun _) (cwV 1 hts gX11_look_X11_isField rfl rfl rfl (by decide +kernel) ⟨Nat.le_of_ble_eq_true rfl, Nat.le_of_ble_eq_true rfl⟩) (kw_PreV (ci := 11) (q0 := 0) hs1 hP hD hK hN rfl rfl) rfl rfl hl.1 rfl (lv_room (Nat.le_of_ble_eq_true rfl)) dX11_look_2 ⟨Nat.le_of_ble_eq_true rfl, Nat.le_of_ble_eq_true rfl⟩) (fun r2 u3 H locs hq hP hD hS => ?_)
  rcases hq with ⟨j4, h5, rfl, rfl⟩ | ⟨h6, rfl⟩
  · skip
    have hP : va_P D vwCl [(mrf, .inl (y 0, 3, .inl frf)), (mo, .inr (11, [.ref to, .ref ke, .ref ik, .ref mrf, .long mab, .long mbl, .ref ha, .ref r0, .ref mbr, .ref mbp, .ref mby, .int (nI bl), .int (nI ta), .int (nI tl), .int (nI tk), .int vv, .ref an, .ref va])), (to, .inl (y 0, 228, .inl ft))] H := hP
    have hD : va_D A [(mrf, .inl (y 0, 3, .inl frf)), (mo, .inr (11, [.ref to, .ref ke, .ref ik, .ref mrf, .long mab, .long mbl, .ref ha, .ref r0, .ref mbr, .ref mbp, .ref mby, .int (nI bl), .int (nI ta), .int (nI tl), .int (nI tk), .int vv, .ref an, .ref va])), (to, .inl (y 0, 228, .inl ft))] := hD
    refine lv_if_ne (tgt := 15) hx hb dX11_look_5 (by decide) (fun _ => ?_) (fun h9 => absurd h9 (by decide))
    refine lv_aload_n hx hb dX11_look_15 rfl (lv_at hl 0 rfl) ?_
    refine lv_iload_n hx hb dX11_look_16 rfl (lv_at hl 1 rfl) ?_
    have hs7 : kw_Split [(mrf, .inl (y 0, 3, .inl frf)), (mo, .inr (11, [.ref to, .ref ke, .ref ik, .ref mrf, .long mab, .long mbl, .ref ha, .ref r0, .ref mbr, .ref mbp, .ref mby, .int (nI bl), .int (nI ta), .int (nI tl), .int (nI tk), .int vv, .ref an, .ref va])), (to, .inl (y 0, 228, .inl ft))] [(mo, .inr (11, [.ref to, .ref ke, .ref ik, .ref mrf, .long mab, .long mbl, .ref ha, .ref r0, .ref mbr, .ref mbp, .ref mby, .int (nI bl), .int (nI ta), .int (nI tl), .int (nI tk), .int vv, .ref an, .ref va])), (to, .inl (y 0, 228, .inl ft))] [(mrf, .inl (y 0, 3, .inl frf))] [1, 2] [0] := ⟨rfl, rfl, rfl, rfl, rfl, by decide⟩
    refine kw_go_i hs7 hP hD hS hA (va_runV (As := [.int (nI j4)]) (rest := []) ⟨hx, hb, hml, hown, hts⟩ (gr_kindsOf l D y mo to ke ik mrf ha r0 mbr mbp mby an va mab mbl bl ta tl tk vv ft fi gl mi no un (nI j4) hk0_ hk1_ hk2_ hk3_ hk4_ hkt hfi hgl hmi hno hun _) (cwV 1 hts gX11_look_X11_kindsOf rfl rfl rfl (by decide +kernel) ⟨Nat.le_of_ble_eq_true rfl, Nat.le_of_ble_eq_true rfl⟩) (kw_PreV (ci := 11) (q0 := 1) hs7 hP hD hK hN rfl rfl) rfl rfl hl.1 rfl (lv_room (Nat.le_of_ble_eq_true rfl)) dX11_look_17 ⟨Nat.le_of_ble_eq_true rfl, Nat.le_of_ble_eq_true rfl⟩) (fun r8 u9 H locs hq hP hD hS => ?_)
    have hP : va_P D vwCl [(mrf, .inl (y 0, 3, .inl frf)), (mo, .inr (11, [.ref to, .ref ke, .ref ik, .ref mrf, .long mab, .long mbl, .ref ha, .ref r0, .ref mbr, .ref mbp, .ref mby, .int (nI bl), .int (nI ta), .int (nI tl), .int (nI tk), .int vv, .ref an, .ref va])), (to, .inl (y 0, 228, .inl ft))] H := hP
    have hD : va_D A [(mrf, .inl (y 0, 3, .inl frf)), (mo, .inr (11, [.ref to, .ref ke, .ref ik, .ref mrf, .long mab, .long mbl, .ref ha, .ref r0, .ref mbr, .ref mbp, .ref mby, .int (nI bl), .int (nI ta), .int (nI tl), .int (nI tk), .int vv, .ref an, .ref va])), (to, .inl (y 0, 228, .inl ft))] := hD
    refine lv_istore_n (lv' := [(2, .int r8), (0, .ref mo), (1, .int (nI j4))]) hx hb dX11_look_20 rfl hl (by decide) rfl (fun ls hl => ?_)
    refine lv_iconst (v := (-1)) hx hb dX11_look_21 (by decide) ?_
    refine lv_istore_n (lv' := [(3, .int (-1)), (2, .int r8), (0, .ref mo), (1, .int (nI j4))]) hx hb dX11_look_22 rfl hl (by decide) rfl (fun ls hl => ?_)
    refine lv_ldc (v := 1000000) hx hb hown fw1 dX11_look_23 ?_
    refine lv_istore (lv' := [(4, .int 1000000), (3, .int (-1)), (2, .int r8), (0, .ref mo), (1, .int (nI j4))]) hx hb dX11_look_25 hl (by decide) rfl (fun ls hl => ?_)
    refine lv_iconst (v := 0) hx hb dX11_look_27 (by decide) ?_
    refine lv_istore (lv' := [(5, .int 0), (4, .int 1000000), (3, .int (-1)), (2, .int r8), (0, .ref mo), (1, .int (nI j4))]) hx hb dX11_look_28 hl (by decide) rfl (fun ls hl => ?_)
    have lp478 : ∀ (fuj91 j91 : Nat) (x226 : Int32) (x227 : Int32) (H : Heap) (locs : List Loc) (ls : Array Slot), j91 ≤ 1110 → 1110 - j91 < fuj91 → va_P D vwCl [(mrf, .inl (y 0, 3, .inl frf)), (mo, .inr (11, [.ref to, .ref ke, .ref ik, .ref mrf, .long mab, .long mbl, .ref ha, .ref r0, .ref mbr, .ref mbp, .ref mby, .int (nI bl), .int (nI ta), .int (nI tl), .int (nI tk), .int vv, .ref an, .ref va])), (to, .inl (y 0, 228, .inl ft))] H → va_D A [(mrf, .inl (y 0, 3, .inl frf)), (mo, .inr (11, [.ref to, .ref ke, .ref ik, .ref mrf, .long mab, .long mbl, .ref ha, .ref r0, .ref mbr, .ref mbp, .ref mby, .int (nI bl), .int (nI ta), .int (nI tl), .int (nI tk), .int vv, .ref an, .ref va])), (to, .inl (y 0, 228, .inl ft))] → va_S A s.heap H locs → lv_has ls 11 [(5, .int (nI j91)), (4, .int x226), (3, .int x227), (2, .int r8), (0, .ref mo), (1, .int (nI j4))] → W pZ l eZ ({ frames := 5, cells := 0, slots := 0, locals := 155 }) s mZ [.ref mo, .int (nI j4)].toArray beZ meZ cZ H locs 0 0 (MQ beZ (va_Qi (fun (r : Int32) (u : (Nat → Int32)) => (gl = 0 ∨ 0 < fi)) (kw_B D (fun u => [(mo, .inr (11, [.ref to, .ref ke, .ref ik, .ref mrf, .long mab, .long mbl, .ref ha, .ref r0, .ref mbr, .ref mbp, .ref mby, .int (nI bl), .int (nI ta), .int (nI tl), .int (nI tk), .int vv, .ref an, .ref va])), (mrf, .inl (y 0, 3, .inl u)), (to, .inl (y 0, 228, .inl ft))]) A) A) [.ref mo, .int (nI j4)].toArray s 0 0 A) (F0 mZ 30 ls []) := by
      intro fuj91
      induction fuj91 with
      | zero => intro j91 x226 x227 H locs ls hj9 hf9; exact absurd hf9 (Nat.not_lt_zero _)
      | succ fuj91 ihj91 =>
        intro j91 x226 x227 H locs ls hj91 hfj91  hP hD hS hl
        refine lv_iload hx hb dX11_look_30 (lv_at hl 0 rfl) ?_
        refine lv_sipush (v := 1110) hx hb dX11_look_32 (by decide) ?_
        refine lv_icmp_ge (tgt := 235) hx hb dX11_look_35 (by decide) (fun h479 => ?_) (fun h480 => ?_)
        · skip
          have h479 : 1110 ≤ j91 := (nI_leI (a := 1110) (b := j91) (by omega) (by omega)).mp h479
          refine lv_iload_n hx hb dX11_look_235 rfl (lv_at hl 2 rfl) ?_
          exact W.iret (v := x227) hx hb hr (fun tZ ht hW => ⟨⟨x227, (frf), rfl, by first | omega | (dsimp only; omega), by rw [ht]; exact hP.sub [1, 0, 2] rfl, hD.sub [1, 0, 2] (by decide) rfl⟩, hS.F ht⟩) hS.2.2 dX11_look_236
        · skip
          have h480 : ¬ 1110 ≤ j91 := fun q9 => h480 ((nI_leI (a := 1110) (b := j91) (by omega) (by omega)).mpr q9)
          refine lv_iload_n hx hb dX11_look_38 rfl (lv_at hl 3 rfl) ?_
          refine lv_if_le (tgt := 235) hx hb dX11_look_39 (by decide) (fun h481 => ?_) (fun h482 => ?_)
          · skip
            refine lv_iload_n hx hb dX11_look_235 rfl (lv_at hl 2 rfl) ?_
            exact W.iret (v := x227) hx hb hr (fun tZ ht hW => ⟨⟨x227, (frf), rfl, by first | omega | (dsimp only; omega), by rw [ht]; exact hP.sub [1, 0, 2] rfl, hD.sub [1, 0, 2] (by decide) rfl⟩, hS.F ht⟩) hS.2.2 dX11_look_236
          · skip
            refine lv_iload hx hb dX11_look_42 (lv_at hl 0 rfl) ?_
            refine lv_bipush (v := 100) hx hb dX11_look_44 (by decide) ?_
            refine lv_irem hx hb dX11_look_46 (by decide) ?_
            rw [show (nI j91) - (nI j91) / 100 * 100 = nI (j91 % 100) from pk_rem (a := j91) (d := 100) (by omega) (by omega) (by omega)]
            refine lv_bipush (v := 10) hx hb dX11_look_47 (by decide) ?_
            refine lv_icmp_ge (tgt := 56) hx hb dX11_look_49 (by decide) (fun h483 => ?_) (fun h484 => ?_)
            · skip
              have h483 : 10 ≤ (j91 % 100) := (nI_leI (a := 10) (b := (j91 % 100)) (by omega) (by omega)).mp h483
              refine lv_ldc (v := 1000000) hx hb hown fw1 dX11_look_56 ?_
              refine lv_istore (lv' := [(6, .int 1000000), (5, .int (nI j91)), (4, .int x226), (3, .int x227), (2, .int r8), (0, .ref mo), (1, .int (nI j4))]) hx hb dX11_look_58 hl (by decide) rfl (fun ls hl => ?_)
              refine lv_iconst (v := 0) hx hb dX11_look_60 (by decide) ?_
              refine lv_istore (lv' := [(7, .int 0), (6, .int 1000000), (5, .int (nI j91)), (4, .int x226), (3, .int x227), (2, .int r8), (0, .ref mo), (1, .int (nI j4))]) hx hb dX11_look_61 hl (by decide) rfl (fun ls hl => ?_)
              have lp499 : ∀ (fuj92 j92 : Nat)  (H : Heap) (locs : List Loc) (ls : Array Slot), j92 ≤ 6 → 6 - j92 < fuj92 → va_P D vwCl [(mrf, .inl (y 0, 3, .inl frf)), (mo, .inr (11, [.ref to, .ref ke, .ref ik, .ref mrf, .long mab, .long mbl, .ref ha, .ref r0, .ref mbr, .ref mbp, .ref mby, .int (nI bl), .int (nI ta), .int (nI tl), .int (nI tk), .int vv, .ref an, .ref va])), (to, .inl (y 0, 228, .inl ft))] H → va_D A [(mrf, .inl (y 0, 3, .inl frf)), (mo, .inr (11, [.ref to, .ref ke, .ref ik, .ref mrf, .long mab, .long mbl, .ref ha, .ref r0, .ref mbr, .ref mbp, .ref mby, .int (nI bl), .int (nI ta), .int (nI tl), .int (nI tk), .int vv, .ref an, .ref va])), (to, .inl (y 0, 228, .inl ft))] → va_S A s.heap H locs → lv_has ls 11 [(7, .int (nI j92)), (6, .int 1000000), (5, .int (nI j91)), (4, .int x226), (3, .int x227), (2, .int r8), (0, .ref mo), (1, .int (nI j4))] → W pZ l eZ ({ frames := 5, cells := 0, slots := 0, locals := 155 }) s mZ [.ref mo, .int (nI j4)].toArray beZ meZ cZ H locs 0 0 (MQ beZ (va_Qi (fun (r : Int32) (u : (Nat → Int32)) => (gl = 0 ∨ 0 < fi)) (kw_B D (fun u => [(mo, .inr (11, [.ref to, .ref ke, .ref ik, .ref mrf, .long mab, .long mbl, .ref ha, .ref r0, .ref mbr, .ref mbp, .ref mby, .int (nI bl), .int (nI ta), .int (nI tl), .int (nI tk), .int vv, .ref an, .ref va])), (mrf, .inl (y 0, 3, .inl u)), (to, .inl (y 0, 228, .inl ft))]) A) A) [.ref mo, .int (nI j4)].toArray s 0 0 A) (F0 mZ 63 ls []) := by
                intro fuj92
                induction fuj92 with
                | zero => intro j92  H locs ls hj9 hf9; exact absurd hf9 (Nat.not_lt_zero _)
                | succ fuj92 ihj92 =>
                  intro j92  H locs ls hj92 hfj92  hP hD hS hl
                  refine lv_iload hx hb dX11_look_63 (lv_at hl 0 rfl) ?_
                  refine lv_bipush (v := 6) hx hb dX11_look_65 (by decide) ?_
                  refine lv_icmp_ge (tgt := 199) hx hb dX11_look_67 (by decide) (fun h500 => ?_) (fun h501 => ?_)
                  · skip
                    have h500 : 6 ≤ j92 := (nI_leI (a := 6) (b := j92) (by omega) (by omega)).mp h500
                    refine lv_iload hx hb dX11_look_199 (lv_at hl 1 rfl) ?_
                    refine lv_iload hx hb dX11_look_201 (lv_at hl 3 rfl) ?_
                    refine lv_icmp_ge (tgt := 211) hx hb dX11_look_203 (by decide) (fun h502 => ?_) (fun h503 => ?_)
                    · skip
                      refine lv_iload_n hx hb dX11_look_211 rfl (lv_at hl 4 rfl) ?_
                      refine lv_istore_n (lv' := [(3, .int x227), (7, .int (nI j92)), (6, .int 1000000), (5, .int (nI j91)), (4, .int x226), (2, .int r8), (0, .ref mo), (1, .int (nI j4))]) hx hb dX11_look_212 rfl hl (by decide) rfl (fun ls hl => ?_)
                      refine lv_iload hx hb dX11_look_213 (lv_at hl 2 rfl) ?_
                      refine lv_iload hx hb dX11_look_215 (lv_at hl 4 rfl) ?_
                      refine lv_icmp_ge (tgt := 225) hx hb dX11_look_217 (by decide) (fun h504 => ?_) (fun h505 => ?_)
                      · skip
                        refine lv_iload hx hb dX11_look_225 (lv_at hl 4 rfl) ?_
                        refine lv_istore (lv' := [(4, .int x226), (3, .int x227), (7, .int (nI j92)), (6, .int 1000000), (5, .int (nI j91)), (2, .int r8), (0, .ref mo), (1, .int (nI j4))]) hx hb dX11_look_227 hl (by decide) rfl (fun ls hl => ?_)
                        refine lv_iinc (v := (nI (j91 + 1))) (lv' := [(5, .int (nI (j91 + 1))), (4, .int x226), (3, .int x227), (7, .int (nI j92)), (6, .int 1000000), (2, .int r8), (0, .ref mo), (1, .int (nI j4))]) hx hb dX11_look_229 hl (k := 4) rfl (nI_1 j91) (by decide) rfl (fun ls hl => ?_)
                        refine lv_goto (tgt := 30) hx hb dX11_look_232 (by decide) ?_
                        exact ihj91 (j91 + 1) x226 x227 H locs ls (by omega) (by omega)  (hP.sub [0, 1, 2] rfl) (hD.sub [0, 1, 2] (by decide) rfl) hS (lv_sub hl [0, 1, 2, 5, 6, 7] rfl)
                      · skip
                        exact absurd h502 h505
                    · skip
                      refine lv_iload hx hb dX11_look_206 (lv_at hl 2 rfl) ?_
                      refine lv_goto (tgt := 212) hx hb dX11_look_208 (by decide) ?_
                      refine lv_istore_n (lv' := [(3, .int (nI j91)), (7, .int (nI j92)), (6, .int 1000000), (5, .int (nI j91)), (4, .int x226), (2, .int r8), (0, .ref mo), (1, .int (nI j4))]) hx hb dX11_look_212 rfl hl (by decide) rfl (fun ls hl => ?_)
                      refine lv_iload hx hb dX11_look_213 (lv_at hl 2 rfl) ?_
                      refine lv_iload hx hb dX11_look_215 (lv_at hl 4 rfl) ?_
                      refine lv_icmp_ge (tgt := 225) hx hb dX11_look_217 (by decide) (fun h506 => ?_) (fun h507 => ?_)
                      · skip
                        exact absurd h506 h503
                      · skip
                        refine lv_iload hx hb dX11_look_220 (lv_at hl 2 rfl) ?_
                        refine lv_goto (tgt := 227) hx hb dX11_look_222 (by decide) ?_
                        refine lv_istore (lv' := [(4, .int 1000000), (3, .int (nI j91)), (7, .int (nI j92)), (6, .int 1000000), (5, .int (nI j91)), (2, .int r8), (0, .ref mo), (1, .int (nI j4))]) hx hb dX11_look_227 hl (by decide) rfl (fun ls hl => ?_)
                        refine lv_iinc (v := (nI (j91 + 1))) (lv' := [(5, .int (nI (j91 + 1))), (4, .int 1000000), (3, .int (nI j91)), (7, .int (nI j92)), (6, .int 1000000), (2, .int r8), (0, .ref mo), (1, .int (nI j4))]) hx hb dX11_look_229 hl (k := 4) rfl (nI_1 j91) (by decide) rfl (fun ls hl => ?_)
                        refine lv_goto (tgt := 30) hx hb dX11_look_232 (by decide) ?_
                        exact ihj91 (j91 + 1) 1000000 (nI j91) H locs ls (by omega) (by omega)  (hP.sub [0, 1, 2] rfl) (hD.sub [0, 1, 2] (by decide) rfl) hS (lv_sub hl [0, 1, 2, 5, 6, 7] rfl)
                  · skip
                    have h501 : ¬ 6 ≤ j92 := fun q9 => h501 ((nI_leI (a := 6) (b := j92) (by omega) (by omega)).mpr q9)
                    refine lv_iload hx hb dX11_look_70 (lv_at hl 1 rfl) ?_
                    refine lv_ldc (v := 1000000) hx hb hown fw1 dX11_look_72 ?_
                    refine lv_icmp_ge (tgt := 199) hx hb dX11_look_74 (by decide) (fun _ => ?_) (fun h9 => absurd h9 (by decide))
                    refine lv_iload hx hb dX11_look_199 (lv_at hl 1 rfl) ?_
                    refine lv_iload hx hb dX11_look_201 (lv_at hl 3 rfl) ?_
                    refine lv_icmp_ge (tgt := 211) hx hb dX11_look_203 (by decide) (fun h508 => ?_) (fun h509 => ?_)
                    · skip
                      refine lv_iload_n hx hb dX11_look_211 rfl (lv_at hl 4 rfl) ?_
                      refine lv_istore_n (lv' := [(3, .int x227), (7, .int (nI j92)), (6, .int 1000000), (5, .int (nI j91)), (4, .int x226), (2, .int r8), (0, .ref mo), (1, .int (nI j4))]) hx hb dX11_look_212 rfl hl (by decide) rfl (fun ls hl => ?_)
                      refine lv_iload hx hb dX11_look_213 (lv_at hl 2 rfl) ?_
                      refine lv_iload hx hb dX11_look_215 (lv_at hl 4 rfl) ?_
                      refine lv_icmp_ge (tgt := 225) hx hb dX11_look_217 (by decide) (fun h510 => ?_) (fun h511 => ?_)
                      · skip
                        refine lv_iload hx hb dX11_look_225 (lv_at hl 4 rfl) ?_
                        refine lv_istore (lv' := [(4, .int x226), (3, .int x227), (7, .int (nI j92)), (6, .int 1000000), (5, .int (nI j91)), (2, .int r8), (0, .ref mo), (1, .int (nI j4))]) hx hb dX11_look_227 hl (by decide) rfl (fun ls hl => ?_)
                        refine lv_iinc (v := (nI (j91 + 1))) (lv' := [(5, .int (nI (j91 + 1))), (4, .int x226), (3, .int x227), (7, .int (nI j92)), (6, .int 1000000), (2, .int r8), (0, .ref mo), (1, .int (nI j4))]) hx hb dX11_look_229 hl (k := 4) rfl (nI_1 j91) (by decide) rfl (fun ls hl => ?_)
                        refine lv_goto (tgt := 30) hx hb dX11_look_232 (by decide) ?_
                        exact ihj91 (j91 + 1) x226 x227 H locs ls (by omega) (by omega)  (hP.sub [0, 1, 2] rfl) (hD.sub [0, 1, 2] (by decide) rfl) hS (lv_sub hl [0, 1, 2, 5, 6, 7] rfl)
                      · skip
                        exact absurd h508 h511
                    · skip
                      refine lv_iload hx hb dX11_look_206 (lv_at hl 2 rfl) ?_
                      refine lv_goto (tgt := 212) hx hb dX11_look_208 (by decide) ?_
                      refine lv_istore_n (lv' := [(3, .int (nI j91)), (7, .int (nI j92)), (6, .int 1000000), (5, .int (nI j91)), (4, .int x226), (2, .int r8), (0, .ref mo), (1, .int (nI j4))]) hx hb dX11_look_212 rfl hl (by decide) rfl (fun ls hl => ?_)
                      refine lv_iload hx hb dX11_look_213 (lv_at hl 2 rfl) ?_
                      refine lv_iload hx hb dX11_look_215 (lv_at hl 4 rfl) ?_
                      refine lv_icmp_ge (tgt := 225) hx hb dX11_look_217 (by decide) (fun h512 => ?_) (fun h513 => ?_)
                      · skip
                        exact absurd h512 h509
                      · skip
                        refine lv_iload hx hb dX11_look_220 (lv_at hl 2 rfl) ?_
                        refine lv_goto (tgt := 227) hx hb dX11_look_222 (by decide) ?_
                        refine lv_istore (lv' := [(4, .int 1000000), (3, .int (nI j91)), (7, .int (nI j92)), (6, .int 1000000), (5, .int (nI j91)), (2, .int r8), (0, .ref mo), (1, .int (nI j4))]) hx hb dX11_look_227 hl (by decide) rfl (fun ls hl => ?_)
                        refine lv_iinc (v := (nI (j91 + 1))) (lv' := [(5, .int (nI (j91 + 1))), (4, .int 1000000), (3, .int (nI j91)), (7, .int (nI j92)), (6, .int 1000000), (2, .int r8), (0, .ref mo), (1, .int (nI j4))]) hx hb dX11_look_229 hl (k := 4) rfl (nI_1 j91) (by decide) rfl (fun ls hl => ?_)
                        refine lv_goto (tgt := 30) hx hb dX11_look_232 (by decide) ?_
                        exact ihj91 (j91 + 1) 1000000 (nI j91) H locs ls (by omega) (by omega)  (hP.sub [0, 1, 2] rfl) (hD.sub [0, 1, 2] (by decide) rfl) hS (lv_sub hl [0, 1, 2, 5, 6, 7] rfl)
              exact lp499 (6 + 1) 0  _ _ _ (by omega) (by omega)  hP hD hS (lv_sub hl [0, 1, 2, 3, 4, 5, 6, 7] rfl)
            · skip
              have h484 : ¬ 10 ≤ (j91 % 100) := fun q9 => h484 ((nI_leI (a := 10) (b := (j91 % 100)) (by omega) (by omega)).mpr q9)
              refine lv_iconst (v := 0) hx hb dX11_look_52 (by decide) ?_
              refine lv_goto (tgt := 58) hx hb dX11_look_53 (by decide) ?_
              refine lv_istore (lv' := [(6, .int 0), (5, .int (nI j91)), (4, .int x226), (3, .int x227), (2, .int r8), (0, .ref mo), (1, .int (nI j4))]) hx hb dX11_look_58 hl (by decide) rfl (fun ls hl => ?_)
              refine lv_iconst (v := 0) hx hb dX11_look_60 (by decide) ?_
              refine lv_istore (lv' := [(7, .int 0), (6, .int 0), (5, .int (nI j91)), (4, .int x226), (3, .int x227), (2, .int r8), (0, .ref mo), (1, .int (nI j4))]) hx hb dX11_look_61 hl (by decide) rfl (fun ls hl => ?_)
              have lp653 : ∀ (fuj92 j92 : Nat) (x577 : Int32) (H : Heap) (locs : List Loc) (ls : Array Slot), j92 ≤ 6 → 6 - j92 < fuj92 → va_P D vwCl [(mrf, .inl (y 0, 3, .inl frf)), (mo, .inr (11, [.ref to, .ref ke, .ref ik, .ref mrf, .long mab, .long mbl, .ref ha, .ref r0, .ref mbr, .ref mbp, .ref mby, .int (nI bl), .int (nI ta), .int (nI tl), .int (nI tk), .int vv, .ref an, .ref va])), (to, .inl (y 0, 228, .inl ft))] H → va_D A [(mrf, .inl (y 0, 3, .inl frf)), (mo, .inr (11, [.ref to, .ref ke, .ref ik, .ref mrf, .long mab, .long mbl, .ref ha, .ref r0, .ref mbr, .ref mbp, .ref mby, .int (nI bl), .int (nI ta), .int (nI tl), .int (nI tk), .int vv, .ref an, .ref va])), (to, .inl (y 0, 228, .inl ft))] → va_S A s.heap H locs → lv_has ls 11 [(7, .int (nI j92)), (6, .int x577), (5, .int (nI j91)), (4, .int x226), (3, .int x227), (2, .int r8), (0, .ref mo), (1, .int (nI j4))] → W pZ l eZ ({ frames := 5, cells := 0, slots := 0, locals := 155 }) s mZ [.ref mo, .int (nI j4)].toArray beZ meZ cZ H locs 0 0 (MQ beZ (va_Qi (fun (r : Int32) (u : (Nat → Int32)) => (gl = 0 ∨ 0 < fi)) (kw_B D (fun u => [(mo, .inr (11, [.ref to, .ref ke, .ref ik, .ref mrf, .long mab, .long mbl, .ref ha, .ref r0, .ref mbr, .ref mbp, .ref mby, .int (nI bl), .int (nI ta), .int (nI tl), .int (nI tk), .int vv, .ref an, .ref va])), (mrf, .inl (y 0, 3, .inl u)), (to, .inl (y 0, 228, .inl ft))]) A) A) [.ref mo, .int (nI j4)].toArray s 0 0 A) (F0 mZ 63 ls []) := by
                intro fuj92
                induction fuj92 with
                | zero => intro j92 x577 H locs ls hj9 hf9; exact absurd hf9 (Nat.not_lt_zero _)
                | succ fuj92 ihj92 =>
                  intro j92 x577 H locs ls hj92 hfj92  hP hD hS hl
                  refine lv_iload hx hb dX11_look_63 (lv_at hl 0 rfl) ?_
                  refine lv_bipush (v := 6) hx hb dX11_look_65 (by decide) ?_
                  refine lv_icmp_ge (tgt := 199) hx hb dX11_look_67 (by decide) (fun h654 => ?_) (fun h655 => ?_)
                  · skip
                    have h654 : 6 ≤ j92 := (nI_leI (a := 6) (b := j92) (by omega) (by omega)).mp h654
                    refine lv_iload hx hb dX11_look_199 (lv_at hl 1 rfl) ?_
                    refine lv_iload hx hb dX11_look_201 (lv_at hl 3 rfl) ?_
                    refine lv_icmp_ge (tgt := 211) hx hb dX11_look_203 (by decide) (fun h656 => ?_) (fun h657 => ?_)
                    · skip
                      refine lv_iload_n hx hb dX11_look_211 rfl (lv_at hl 4 rfl) ?_
                      refine lv_istore_n (lv' := [(3, .int x227), (7, .int (nI j92)), (6, .int x577), (5, .int (nI j91)), (4, .int x226), (2, .int r8), (0, .ref mo), (1, .int (nI j4))]) hx hb dX11_look_212 rfl hl (by decide) rfl (fun ls hl => ?_)
                      refine lv_iload hx hb dX11_look_213 (lv_at hl 2 rfl) ?_
                      refine lv_iload hx hb dX11_look_215 (lv_at hl 4 rfl) ?_
                      refine lv_icmp_ge (tgt := 225) hx hb dX11_look_217 (by decide) (fun h658 => ?_) (fun h659 => ?_)
                      · skip
                        refine lv_iload hx hb dX11_look_225 (lv_at hl 4 rfl) ?_
                        refine lv_istore (lv' := [(4, .int x226), (3, .int x227), (7, .int (nI j92)), (6, .int x577), (5, .int (nI j91)), (2, .int r8), (0, .ref mo), (1, .int (nI j4))]) hx hb dX11_look_227 hl (by decide) rfl (fun ls hl => ?_)
                        refine lv_iinc (v := (nI (j91 + 1))) (lv' := [(5, .int (nI (j91 + 1))), (4, .int x226), (3, .int x227), (7, .int (nI j92)), (6, .int x577), (2, .int r8), (0, .ref mo), (1, .int (nI j4))]) hx hb dX11_look_229 hl (k := 4) rfl (nI_1 j91) (by decide) rfl (fun ls hl => ?_)
                        refine lv_goto (tgt := 30) hx hb dX11_look_232 (by decide) ?_
                        exact ihj91 (j91 + 1) x226 x227 H locs ls (by omega) (by omega)  (hP.sub [0, 1, 2] rfl) (hD.sub [0, 1, 2] (by decide) rfl) hS (lv_sub hl [0, 1, 2, 5, 6, 7] rfl)
                      · skip
                        exact absurd h656 h659
                    · skip
                      refine lv_iload hx hb dX11_look_206 (lv_at hl 2 rfl) ?_
                      refine lv_goto (tgt := 212) hx hb dX11_look_208 (by decide) ?_
                      refine lv_istore_n (lv' := [(3, .int (nI j91)), (7, .int (nI j92)), (6, .int x577), (5, .int (nI j91)), (4, .int x226), (2, .int r8), (0, .ref mo), (1, .int (nI j4))]) hx hb dX11_look_212 rfl hl (by decide) rfl (fun ls hl => ?_)
                      refine lv_iload hx hb dX11_look_213 (lv_at hl 2 rfl) ?_
                      refine lv_iload hx hb dX11_look_215 (lv_at hl 4 rfl) ?_
                      refine lv_icmp_ge (tgt := 225) hx hb dX11_look_217 (by decide) (fun h660 => ?_) (fun h661 => ?_)
                      · skip
                        exact absurd h660 h657
                      · skip
                        refine lv_iload hx hb dX11_look_220 (lv_at hl 2 rfl) ?_
                        refine lv_goto (tgt := 227) hx hb dX11_look_222 (by decide) ?_
                        refine lv_istore (lv' := [(4, .int x577), (3, .int (nI j91)), (7, .int (nI j92)), (6, .int x577), (5, .int (nI j91)), (2, .int r8), (0, .ref mo), (1, .int (nI j4))]) hx hb dX11_look_227 hl (by decide) rfl (fun ls hl => ?_)
                        refine lv_iinc (v := (nI (j91 + 1))) (lv' := [(5, .int (nI (j91 + 1))), (4, .int x577), (3, .int (nI j91)), (7, .int (nI j92)), (6, .int x577), (2, .int r8), (0, .ref mo), (1, .int (nI j4))]) hx hb dX11_look_229 hl (k := 4) rfl (nI_1 j91) (by decide) rfl (fun ls hl => ?_)
                        refine lv_goto (tgt := 30) hx hb dX11_look_232 (by decide) ?_
                        exact ihj91 (j91 + 1) x577 (nI j91) H locs ls (by omega) (by omega)  (hP.sub [0, 1, 2] rfl) (hD.sub [0, 1, 2] (by decide) rfl) hS (lv_sub hl [0, 1, 2, 5, 6, 7] rfl)
                  · skip
                    have h655 : ¬ 6 ≤ j92 := fun q9 => h655 ((nI_leI (a := 6) (b := j92) (by omega) (by omega)).mpr q9)
                    refine lv_iload hx hb dX11_look_70 (lv_at hl 1 rfl) ?_
                    refine lv_ldc (v := 1000000) hx hb hown fw1 dX11_look_72 ?_
                    refine lv_icmp_ge (tgt := 199) hx hb dX11_look_74 (by decide) (fun h662 => ?_) (fun h663 => ?_)
                    · skip
                      refine lv_iload hx hb dX11_look_199 (lv_at hl 1 rfl) ?_
                      refine lv_iload hx hb dX11_look_201 (lv_at hl 3 rfl) ?_
                      refine lv_icmp_ge (tgt := 211) hx hb dX11_look_203 (by decide) (fun h664 => ?_) (fun h665 => ?_)
                      · skip
                        refine lv_iload_n hx hb dX11_look_211 rfl (lv_at hl 4 rfl) ?_
                        refine lv_istore_n (lv' := [(3, .int x227), (7, .int (nI j92)), (6, .int x577), (5, .int (nI j91)), (4, .int x226), (2, .int r8), (0, .ref mo), (1, .int (nI j4))]) hx hb dX11_look_212 rfl hl (by decide) rfl (fun ls hl => ?_)
                        refine lv_iload hx hb dX11_look_213 (lv_at hl 2 rfl) ?_
                        refine lv_iload hx hb dX11_look_215 (lv_at hl 4 rfl) ?_
                        refine lv_icmp_ge (tgt := 225) hx hb dX11_look_217 (by decide) (fun h666 => ?_) (fun h667 => ?_)
                        · skip
                          refine lv_iload hx hb dX11_look_225 (lv_at hl 4 rfl) ?_
                          refine lv_istore (lv' := [(4, .int x226), (3, .int x227), (7, .int (nI j92)), (6, .int x577), (5, .int (nI j91)), (2, .int r8), (0, .ref mo), (1, .int (nI j4))]) hx hb dX11_look_227 hl (by decide) rfl (fun ls hl => ?_)
                          refine lv_iinc (v := (nI (j91 + 1))) (lv' := [(5, .int (nI (j91 + 1))), (4, .int x226), (3, .int x227), (7, .int (nI j92)), (6, .int x577), (2, .int r8), (0, .ref mo), (1, .int (nI j4))]) hx hb dX11_look_229 hl (k := 4) rfl (nI_1 j91) (by decide) rfl (fun ls hl => ?_)
                          refine lv_goto (tgt := 30) hx hb dX11_look_232 (by decide) ?_
                          exact ihj91 (j91 + 1) x226 x227 H locs ls (by omega) (by omega)  (hP.sub [0, 1, 2] rfl) (hD.sub [0, 1, 2] (by decide) rfl) hS (lv_sub hl [0, 1, 2, 5, 6, 7] rfl)
                        · skip
                          exact absurd h664 h667
                      · skip
                        refine lv_iload hx hb dX11_look_206 (lv_at hl 2 rfl) ?_
                        refine lv_goto (tgt := 212) hx hb dX11_look_208 (by decide) ?_
                        refine lv_istore_n (lv' := [(3, .int (nI j91)), (7, .int (nI j92)), (6, .int x577), (5, .int (nI j91)), (4, .int x226), (2, .int r8), (0, .ref mo), (1, .int (nI j4))]) hx hb dX11_look_212 rfl hl (by decide) rfl (fun ls hl => ?_)
                        refine lv_iload hx hb dX11_look_213 (lv_at hl 2 rfl) ?_
                        refine lv_iload hx hb dX11_look_215 (lv_at hl 4 rfl) ?_
                        refine lv_icmp_ge (tgt := 225) hx hb dX11_look_217 (by decide) (fun h668 => ?_) (fun h669 => ?_)
                        · skip
                          exact absurd h668 h665
                        · skip
                          refine lv_iload hx hb dX11_look_220 (lv_at hl 2 rfl) ?_
                          refine lv_goto (tgt := 227) hx hb dX11_look_222 (by decide) ?_
                          refine lv_istore (lv' := [(4, .int x577), (3, .int (nI j91)), (7, .int (nI j92)), (6, .int x577), (5, .int (nI j91)), (2, .int r8), (0, .ref mo), (1, .int (nI j4))]) hx hb dX11_look_227 hl (by decide) rfl (fun ls hl => ?_)
                          refine lv_iinc (v := (nI (j91 + 1))) (lv' := [(5, .int (nI (j91 + 1))), (4, .int x577), (3, .int (nI j91)), (7, .int (nI j92)), (6, .int x577), (2, .int r8), (0, .ref mo), (1, .int (nI j4))]) hx hb dX11_look_229 hl (k := 4) rfl (nI_1 j91) (by decide) rfl (fun ls hl => ?_)
                          refine lv_goto (tgt := 30) hx hb dX11_look_232 (by decide) ?_
                          exact ihj91 (j91 + 1) x577 (nI j91) H locs ls (by omega) (by omega)  (hP.sub [0, 1, 2] rfl) (hD.sub [0, 1, 2] (by decide) rfl) hS (lv_sub hl [0, 1, 2, 5, 6, 7] rfl)
                    · skip
                      refine lv_iconst (v := 0) hx hb dX11_look_77 (by decide) ?_
                      refine lv_istore (lv' := [(8, .int 0), (7, .int (nI j92)), (6, .int x577), (5, .int (nI j91)), (4, .int x226), (3, .int x227), (2, .int r8), (0, .ref mo), (1, .int (nI j4))]) hx hb dX11_look_78 hl (by decide) rfl (fun ls hl => ?_)
                      refine lv_iload hx hb dX11_look_80 (lv_at hl 1 rfl) ?_
                      refine lv_aload_n hx hb dX11_look_82 rfl (lv_at hl 7 rfl) ?_
                      refine va_get (D := D) (ci := 11) (v := .ref to) (C := RX11) (T := TX11) (N := 18) hx hb hts iw11 hown hK hP 1 rfl rfl 0 (by decide) fw2 (fun _ h9 => h9) rfl dX11_look_83 ?_
                      refine lv_iconst (v := 5) hx hb dX11_look_86 (by decide) ?_
                      refine lv_iload_n hx hb dX11_look_87 rfl (lv_at hl 8 rfl) ?_
                      refine lv_iadd hx hb dX11_look_88 ?_
                      rw [show 5 + (nI j4) = nI (j4 + 5) from (nI_add 5 j4).trans (congrArg nI (by omega))]
                      refine va_iald hx hb hK hP 2 0 rfl rfl (vp_in_nI (by omega) (by decide)) dX11_look_89 ?_
                      rw [nI_clamp (n := (j4 + 5)) (by omega)]
                      refine lv_iload hx hb dX11_look_90 (lv_at hl 3 rfl) ?_
                      refine lv_bipush (v := 100) hx hb dX11_look_92 (by decide) ?_
                      refine lv_idiv hx hb dX11_look_94 (by decide) ?_
                      rw [show (nI j91) / 100 = nI (j91 / 100) from pk_div (a := j91) (d := 100) (by omega) (by omega) (by omega)]
                      refine lv_iload hx hb dX11_look_95 (lv_at hl 3 rfl) ?_
                      refine lv_bipush (v := 100) hx hb dX11_look_97 (by decide) ?_
                      refine lv_irem hx hb dX11_look_99 (by decide) ?_
                      rw [show (nI j91) - (nI j91) / 100 * 100 = nI (j91 % 100) from pk_rem (a := j91) (d := 100) (by omega) (by omega) (by omega)]
                      have hs670 : kw_Split [(mrf, .inl (y 0, 3, .inl frf)), (mo, .inr (11, [.ref to, .ref ke, .ref ik, .ref mrf, .long mab, .long mbl, .ref ha, .ref r0, .ref mbr, .ref mbp, .ref mby, .int (nI bl), .int (nI ta), .int (nI tl), .int (nI tk), .int vv, .ref an, .ref va])), (to, .inl (y 0, 228, .inl ft))] [] [(mrf, .inl (y 0, 3, .inl frf)), (mo, .inr (11, [.ref to, .ref ke, .ref ik, .ref mrf, .long mab, .long mbl, .ref ha, .ref r0, .ref mbr, .ref mbp, .ref mby, .int (nI bl), .int (nI ta), .int (nI tl), .int (nI tk), .int vv, .ref an, .ref va])), (to, .inl (y 0, 228, .inl ft))] [] [0, 1, 2] := ⟨rfl, rfl, rfl, rfl, rfl, by decide⟩
                      refine kw_go_i hs670 hP hD hS hA (va_runS (As := [.int (nI j92), .int (ft (j4 + 5)), .int (nI (j91 / 100)), .int (nI (j91 % 100))]) (rest := []) ⟨hx, hb, hml, hown, hts⟩ (gr_seenAs l D y (nI j92) (ft (j4 + 5)) (nI (j91 / 100)) (nI (j91 % 100))  _) (va_cwS 4 hts gX11_look_X11_seenAs rfl rfl rfl (by decide +kernel) ⟨Nat.le_of_ble_eq_true rfl, Nat.le_of_ble_eq_true rfl⟩) (kw_PreS hs670 hP hD hK hN) rfl rfl hl.1 rfl (lv_room (Nat.le_of_ble_eq_true rfl)) dX11_look_100 ⟨Nat.le_of_ble_eq_true rfl, Nat.le_of_ble_eq_true rfl⟩) (fun r671 u672 H locs hq hP hD hS => ?_)
                      have hP : va_P D vwCl [(mrf, .inl (y 0, 3, .inl frf)), (mo, .inr (11, [.ref to, .ref ke, .ref ik, .ref mrf, .long mab, .long mbl, .ref ha, .ref r0, .ref mbr, .ref mbp, .ref mby, .int (nI bl), .int (nI ta), .int (nI tl), .int (nI tk), .int vv, .ref an, .ref va])), (to, .inl (y 0, 228, .inl ft))] H := hP
                      have hD : va_D A [(mrf, .inl (y 0, 3, .inl frf)), (mo, .inr (11, [.ref to, .ref ke, .ref ik, .ref mrf, .long mab, .long mbl, .ref ha, .ref r0, .ref mbr, .ref mbp, .ref mby, .int (nI bl), .int (nI ta), .int (nI tl), .int (nI tk), .int vv, .ref an, .ref va])), (to, .inl (y 0, 228, .inl ft))] := hD
                      refine lv_istore (lv' := [(9, .int r671), (8, .int 0), (7, .int (nI j92)), (6, .int x577), (5, .int (nI j91)), (4, .int x226), (3, .int x227), (2, .int r8), (0, .ref mo), (1, .int (nI j4))]) hx hb dX11_look_103 hl (by decide) rfl (fun ls hl => ?_)
                      refine lv_iconst (v := 0) hx hb dX11_look_105 (by decide) ?_
                      refine lv_istore (lv' := [(10, .int 0), (9, .int r671), (8, .int 0), (7, .int (nI j92)), (6, .int x577), (5, .int (nI j91)), (4, .int x226), (3, .int x227), (2, .int r8), (0, .ref mo), (1, .int (nI j4))]) hx hb dX11_look_106 hl (by decide) rfl (fun ls hl => ?_)
                      have lp711 : ∀ (fuj93 j93 : Nat) (x693 : Int32) (H : Heap) (locs : List Loc) (ls : Array Slot), j93 ≤ 6 → 6 - j93 < fuj93 → va_P D vwCl [(mrf, .inl (y 0, 3, .inl frf)), (mo, .inr (11, [.ref to, .ref ke, .ref ik, .ref mrf, .long mab, .long mbl, .ref ha, .ref r0, .ref mbr, .ref mbp, .ref mby, .int (nI bl), .int (nI ta), .int (nI tl), .int (nI tk), .int vv, .ref an, .ref va])), (to, .inl (y 0, 228, .inl ft))] H → va_D A [(mrf, .inl (y 0, 3, .inl frf)), (mo, .inr (11, [.ref to, .ref ke, .ref ik, .ref mrf, .long mab, .long mbl, .ref ha, .ref r0, .ref mbr, .ref mbp, .ref mby, .int (nI bl), .int (nI ta), .int (nI tl), .int (nI tk), .int vv, .ref an, .ref va])), (to, .inl (y 0, 228, .inl ft))] → va_S A s.heap H locs → lv_has ls 11 [(10, .int (nI j93)), (9, .int r671), (8, .int x693), (7, .int (nI j92)), (6, .int x577), (5, .int (nI j91)), (4, .int x226), (3, .int x227), (2, .int r8), (0, .ref mo), (1, .int (nI j4))] → W pZ l eZ ({ frames := 5, cells := 0, slots := 0, locals := 155 }) s mZ [.ref mo, .int (nI j4)].toArray beZ meZ cZ H locs 0 0 (MQ beZ (va_Qi (fun (r : Int32) (u : (Nat → Int32)) => (gl = 0 ∨ 0 < fi)) (kw_B D (fun u => [(mo, .inr (11, [.ref to, .ref ke, .ref ik, .ref mrf, .long mab, .long mbl, .ref ha, .ref r0, .ref mbr, .ref mbp, .ref mby, .int (nI bl), .int (nI ta), .int (nI tl), .int (nI tk), .int vv, .ref an, .ref va])), (mrf, .inl (y 0, 3, .inl u)), (to, .inl (y 0, 228, .inl ft))]) A) A) [.ref mo, .int (nI j4)].toArray s 0 0 A) (F0 mZ 108 ls []) := by
                        intro fuj93
                        induction fuj93 with
                        | zero => intro j93 x693 H locs ls hj9 hf9; exact absurd hf9 (Nat.not_lt_zero _)
                        | succ fuj93 ihj93 =>
                          intro j93 x693 H locs ls hj93 hfj93  hP hD hS hl
                          refine lv_iload hx hb dX11_look_108 (lv_at hl 0 rfl) ?_
                          refine lv_bipush (v := 6) hx hb dX11_look_110 (by decide) ?_
                          refine lv_icmp_ge (tgt := 177) hx hb dX11_look_112 (by decide) (fun h712 => ?_) (fun h713 => ?_)
                          · skip
                            have h712 : 6 ≤ j93 := (nI_leI (a := 6) (b := j93) (by omega) (by omega)).mp h712
                            refine lv_iload hx hb dX11_look_177 (lv_at hl 2 rfl) ?_
                            refine lv_iload hx hb dX11_look_179 (lv_at hl 4 rfl) ?_
                            refine lv_icmp_le (tgt := 189) hx hb dX11_look_181 (by decide) (fun h714 => ?_) (fun h715 => ?_)
                            · skip
                              refine lv_iload hx hb dX11_look_189 (lv_at hl 4 rfl) ?_
                              refine lv_istore (lv' := [(6, .int x577), (10, .int (nI j93)), (9, .int r671), (8, .int x693), (7, .int (nI j92)), (5, .int (nI j91)), (4, .int x226), (3, .int x227), (2, .int r8), (0, .ref mo), (1, .int (nI j4))]) hx hb dX11_look_191 hl (by decide) rfl (fun ls hl => ?_)
                              refine lv_iinc (v := (nI (j92 + 1))) (lv' := [(7, .int (nI (j92 + 1))), (6, .int x577), (10, .int (nI j93)), (9, .int r671), (8, .int x693), (5, .int (nI j91)), (4, .int x226), (3, .int x227), (2, .int r8), (0, .ref mo), (1, .int (nI j4))]) hx hb dX11_look_193 hl (k := 4) rfl (nI_1 j92) (by decide) rfl (fun ls hl => ?_)
                              refine lv_goto (tgt := 63) hx hb dX11_look_196 (by decide) ?_
                              exact ihj92 (j92 + 1) x577 H locs ls (by omega) (by omega)  (hP.sub [0, 1, 2] rfl) (hD.sub [0, 1, 2] (by decide) rfl) hS (lv_sub hl [0, 1, 5, 6, 7, 8, 9, 10] rfl)
                            · skip
                              refine lv_iload hx hb dX11_look_184 (lv_at hl 2 rfl) ?_
                              refine lv_goto (tgt := 191) hx hb dX11_look_186 (by decide) ?_
                              refine lv_istore (lv' := [(6, .int x693), (10, .int (nI j93)), (9, .int r671), (8, .int x693), (7, .int (nI j92)), (5, .int (nI j91)), (4, .int x226), (3, .int x227), (2, .int r8), (0, .ref mo), (1, .int (nI j4))]) hx hb dX11_look_191 hl (by decide) rfl (fun ls hl => ?_)
                              refine lv_iinc (v := (nI (j92 + 1))) (lv' := [(7, .int (nI (j92 + 1))), (6, .int x693), (10, .int (nI j93)), (9, .int r671), (8, .int x693), (5, .int (nI j91)), (4, .int x226), (3, .int x227), (2, .int r8), (0, .ref mo), (1, .int (nI j4))]) hx hb dX11_look_193 hl (k := 4) rfl (nI_1 j92) (by decide) rfl (fun ls hl => ?_)
                              refine lv_goto (tgt := 63) hx hb dX11_look_196 (by decide) ?_
                              exact ihj92 (j92 + 1) x693 H locs ls (by omega) (by omega)  (hP.sub [0, 1, 2] rfl) (hD.sub [0, 1, 2] (by decide) rfl) hS (lv_sub hl [0, 1, 5, 6, 7, 8, 9, 10] rfl)
                          · skip
                            have h713 : ¬ 6 ≤ j93 := fun q9 => h713 ((nI_leI (a := 6) (b := j93) (by omega) (by omega)).mpr q9)
                            refine lv_iload_n hx hb dX11_look_115 rfl (lv_at hl 8 rfl) ?_
                            refine lv_iload hx hb dX11_look_116 (lv_at hl 3 rfl) ?_
                            have hs716 : kw_Split [(mrf, .inl (y 0, 3, .inl frf)), (mo, .inr (11, [.ref to, .ref ke, .ref ik, .ref mrf, .long mab, .long mbl, .ref ha, .ref r0, .ref mbr, .ref mbp, .ref mby, .int (nI bl), .int (nI ta), .int (nI tl), .int (nI tk), .int vv, .ref an, .ref va])), (to, .inl (y 0, 228, .inl ft))] [] [(mrf, .inl (y 0, 3, .inl frf)), (mo, .inr (11, [.ref to, .ref ke, .ref ik, .ref mrf, .long mab, .long mbl, .ref ha, .ref r0, .ref mbr, .ref mbp, .ref mby, .int (nI bl), .int (nI ta), .int (nI tl), .int (nI tk), .int vv, .ref an, .ref va])), (to, .inl (y 0, 228, .inl ft))] [] [0, 1, 2] := ⟨rfl, rfl, rfl, rfl, rfl, by decide⟩
                            refine kw_go_i hs716 hP hD hS hA (va_runS (As := [.int r8, .int (nI j92)]) (rest := []) ⟨hx, hb, hml, hown, hts⟩ (gr_has l D y r8 (nI j92)  _) (va_cwS 2 hts gX11_look_X11_has rfl rfl rfl (by decide +kernel) ⟨Nat.le_of_ble_eq_true rfl, Nat.le_of_ble_eq_true rfl⟩) (kw_PreS hs716 hP hD hK hN) rfl rfl hl.1 rfl (lv_room (Nat.le_of_ble_eq_true rfl)) dX11_look_118 ⟨Nat.le_of_ble_eq_true rfl, Nat.le_of_ble_eq_true rfl⟩) (fun r717 u718 H locs hq hP hD hS => ?_)
                            obtain (rfl | rfl) := hq
                            · skip
                              have hP : va_P D vwCl [(mrf, .inl (y 0, 3, .inl frf)), (mo, .inr (11, [.ref to, .ref ke, .ref ik, .ref mrf, .long mab, .long mbl, .ref ha, .ref r0, .ref mbr, .ref mbp, .ref mby, .int (nI bl), .int (nI ta), .int (nI tl), .int (nI tk), .int vv, .ref an, .ref va])), (to, .inl (y 0, 228, .inl ft))] H := hP
                              have hD : va_D A [(mrf, .inl (y 0, 3, .inl frf)), (mo, .inr (11, [.ref to, .ref ke, .ref ik, .ref mrf, .long mab, .long mbl, .ref ha, .ref r0, .ref mbr, .ref mbp, .ref mby, .int (nI bl), .int (nI ta), .int (nI tl), .int (nI tk), .int vv, .ref an, .ref va])), (to, .inl (y 0, 228, .inl ft))] := hD
                              refine lv_if_eq (tgt := 177) hx hb dX11_look_121 (by decide) (fun _ => ?_) (fun h9 => absurd h9 (by decide))
                              refine lv_iload hx hb dX11_look_177 (lv_at hl 2 rfl) ?_
                              refine lv_iload hx hb dX11_look_179 (lv_at hl 4 rfl) ?_
                              refine lv_icmp_le (tgt := 189) hx hb dX11_look_181 (by decide) (fun h719 => ?_) (fun h720 => ?_)
                              · skip
                                refine lv_iload hx hb dX11_look_189 (lv_at hl 4 rfl) ?_
                                refine lv_istore (lv' := [(6, .int x577), (10, .int (nI j93)), (9, .int r671), (8, .int x693), (7, .int (nI j92)), (5, .int (nI j91)), (4, .int x226), (3, .int x227), (2, .int r8), (0, .ref mo), (1, .int (nI j4))]) hx hb dX11_look_191 hl (by decide) rfl (fun ls hl => ?_)
                                refine lv_iinc (v := (nI (j92 + 1))) (lv' := [(7, .int (nI (j92 + 1))), (6, .int x577), (10, .int (nI j93)), (9, .int r671), (8, .int x693), (5, .int (nI j91)), (4, .int x226), (3, .int x227), (2, .int r8), (0, .ref mo), (1, .int (nI j4))]) hx hb dX11_look_193 hl (k := 4) rfl (nI_1 j92) (by decide) rfl (fun ls hl => ?_)
                                refine lv_goto (tgt := 63) hx hb dX11_look_196 (by decide) ?_
                                exact ihj92 (j92 + 1) x577 H locs ls (by omega) (by omega)  (hP.sub [0, 1, 2] rfl) (hD.sub [0, 1, 2] (by decide) rfl) hS (lv_sub hl [0, 1, 5, 6, 7, 8, 9, 10] rfl)
                              · skip
                                refine lv_iload hx hb dX11_look_184 (lv_at hl 2 rfl) ?_
                                refine lv_goto (tgt := 191) hx hb dX11_look_186 (by decide) ?_
                                refine lv_istore (lv' := [(6, .int x693), (10, .int (nI j93)), (9, .int r671), (8, .int x693), (7, .int (nI j92)), (5, .int (nI j91)), (4, .int x226), (3, .int x227), (2, .int r8), (0, .ref mo), (1, .int (nI j4))]) hx hb dX11_look_191 hl (by decide) rfl (fun ls hl => ?_)
                                refine lv_iinc (v := (nI (j92 + 1))) (lv' := [(7, .int (nI (j92 + 1))), (6, .int x693), (10, .int (nI j93)), (9, .int r671), (8, .int x693), (5, .int (nI j91)), (4, .int x226), (3, .int x227), (2, .int r8), (0, .ref mo), (1, .int (nI j4))]) hx hb dX11_look_193 hl (k := 4) rfl (nI_1 j92) (by decide) rfl (fun ls hl => ?_)
                                refine lv_goto (tgt := 63) hx hb dX11_look_196 (by decide) ?_
                                exact ihj92 (j92 + 1) x693 H locs ls (by omega) (by omega)  (hP.sub [0, 1, 2] rfl) (hD.sub [0, 1, 2] (by decide) rfl) hS (lv_sub hl [0, 1, 5, 6, 7, 8, 9, 10] rfl)
                            · skip
                              have hP : va_P D vwCl [(mrf, .inl (y 0, 3, .inl frf)), (mo, .inr (11, [.ref to, .ref ke, .ref ik, .ref mrf, .long mab, .long mbl, .ref ha, .ref r0, .ref mbr, .ref mbp, .ref mby, .int (nI bl), .int (nI ta), .int (nI tl), .int (nI tk), .int vv, .ref an, .ref va])), (to, .inl (y 0, 228, .inl ft))] H := hP
                              have hD : va_D A [(mrf, .inl (y 0, 3, .inl frf)), (mo, .inr (11, [.ref to, .ref ke, .ref ik, .ref mrf, .long mab, .long mbl, .ref ha, .ref r0, .ref mbr, .ref mbp, .ref mby, .int (nI bl), .int (nI ta), .int (nI tl), .int (nI tk), .int vv, .ref an, .ref va])), (to, .inl (y 0, 228, .inl ft))] := hD
                              refine lv_if_eq (tgt := 177) hx hb dX11_look_121 (by decide) (fun h9 => absurd h9 (by decide)) (fun _ => ?_)
                              refine lv_iload hx hb dX11_look_124 (lv_at hl 2 rfl) ?_
                              refine lv_iload_n hx hb dX11_look_126 rfl (lv_at hl 8 rfl) ?_
                              refine lv_iload hx hb dX11_look_127 (lv_at hl 0 rfl) ?_
                              have hs721 : kw_Split [(mrf, .inl (y 0, 3, .inl frf)), (mo, .inr (11, [.ref to, .ref ke, .ref ik, .ref mrf, .long mab, .long mbl, .ref ha, .ref r0, .ref mbr, .ref mbp, .ref mby, .int (nI bl), .int (nI ta), .int (nI tl), .int (nI tk), .int vv, .ref an, .ref va])), (to, .inl (y 0, 228, .inl ft))] [] [(mrf, .inl (y 0, 3, .inl frf)), (mo, .inr (11, [.ref to, .ref ke, .ref ik, .ref mrf, .long mab, .long mbl, .ref ha, .ref r0, .ref mbr, .ref mbp, .ref mby, .int (nI bl), .int (nI ta), .int (nI tl), .int (nI tk), .int vv, .ref an, .ref va])), (to, .inl (y 0, 228, .inl ft))] [] [0, 1, 2] := ⟨rfl, rfl, rfl, rfl, rfl, by decide⟩
                              refine kw_go_i hs721 hP hD hS hA (va_runS (As := [.int r8, .int (nI j93)]) (rest := [.int x693]) ⟨hx, hb, hml, hown, hts⟩ (gr_has l D y r8 (nI j93)  _) (va_cwS 2 hts gX11_look_X11_has rfl rfl rfl (by decide +kernel) ⟨Nat.le_of_ble_eq_true rfl, Nat.le_of_ble_eq_true rfl⟩) (kw_PreS hs721 hP hD hK hN) rfl rfl hl.1 rfl (lv_room (Nat.le_of_ble_eq_true rfl)) dX11_look_129 ⟨Nat.le_of_ble_eq_true rfl, Nat.le_of_ble_eq_true rfl⟩) (fun r722 u723 H locs hq hP hD hS => ?_)
                              obtain (rfl | rfl) := hq
                              · skip
                                have hP : va_P D vwCl [(mrf, .inl (y 0, 3, .inl frf)), (mo, .inr (11, [.ref to, .ref ke, .ref ik, .ref mrf, .long mab, .long mbl, .ref ha, .ref r0, .ref mbr, .ref mbp, .ref mby, .int (nI bl), .int (nI ta), .int (nI tl), .int (nI tk), .int vv, .ref an, .ref va])), (to, .inl (y 0, 228, .inl ft))] H := hP
                                have hD : va_D A [(mrf, .inl (y 0, 3, .inl frf)), (mo, .inr (11, [.ref to, .ref ke, .ref ik, .ref mrf, .long mab, .long mbl, .ref ha, .ref r0, .ref mbr, .ref mbp, .ref mby, .int (nI bl), .int (nI ta), .int (nI tl), .int (nI tk), .int vv, .ref an, .ref va])), (to, .inl (y 0, 228, .inl ft))] := hD
                                refine lv_if_eq (tgt := 167) hx hb dX11_look_132 (by decide) (fun _ => ?_) (fun h9 => absurd h9 (by decide))
                                refine lv_iconst (v := 0) hx hb dX11_look_167 (by decide) ?_
                                refine lv_iadd hx hb dX11_look_168 ?_
                                refine lv_istore (lv' := [(8, .int (x693 + 0)), (10, .int (nI j93)), (9, .int r671), (7, .int (nI j92)), (6, .int x577), (5, .int (nI j91)), (4, .int x226), (3, .int x227), (2, .int r8), (0, .ref mo), (1, .int (nI j4))]) hx hb dX11_look_169 hl (by decide) rfl (fun ls hl => ?_)
                                refine lv_iinc (v := (nI (j93 + 1))) (lv' := [(10, .int (nI (j93 + 1))), (8, .int (x693 + 0)), (9, .int r671), (7, .int (nI j92)), (6, .int x577), (5, .int (nI j91)), (4, .int x226), (3, .int x227), (2, .int r8), (0, .ref mo), (1, .int (nI j4))]) hx hb dX11_look_171 hl (k := 1) rfl (nI_1 j93) (by decide) rfl (fun ls hl => ?_)
                                refine lv_goto (tgt := 108) hx hb dX11_look_174 (by decide) ?_
                                exact ihj93 (j93 + 1) (x693 + 0) H locs ls (by omega) (by omega)  (hP.sub [0, 1, 2] rfl) (hD.sub [0, 1, 2] (by decide) rfl) hS (lv_sub hl [0, 2, 1, 3, 4, 5, 6, 7, 8, 9, 10] rfl)
                              · skip
                                have hP : va_P D vwCl [(mrf, .inl (y 0, 3, .inl frf)), (mo, .inr (11, [.ref to, .ref ke, .ref ik, .ref mrf, .long mab, .long mbl, .ref ha, .ref r0, .ref mbr, .ref mbp, .ref mby, .int (nI bl), .int (nI ta), .int (nI tl), .int (nI tk), .int vv, .ref an, .ref va])), (to, .inl (y 0, 228, .inl ft))] H := hP
                                have hD : va_D A [(mrf, .inl (y 0, 3, .inl frf)), (mo, .inr (11, [.ref to, .ref ke, .ref ik, .ref mrf, .long mab, .long mbl, .ref ha, .ref r0, .ref mbr, .ref mbp, .ref mby, .int (nI bl), .int (nI ta), .int (nI tl), .int (nI tk), .int vv, .ref an, .ref va])), (to, .inl (y 0, 228, .inl ft))] := hD
                                refine lv_if_eq (tgt := 167) hx hb dX11_look_132 (by decide) (fun h9 => absurd h9 (by decide)) (fun _ => ?_)
                                refine lv_iload hx hb dX11_look_135 (lv_at hl 0 rfl) ?_
                                refine lv_aload_n hx hb dX11_look_137 rfl (lv_at hl 9 rfl) ?_
                                refine va_get (D := D) (ci := 11) (v := .ref to) (C := RX11) (T := TX11) (N := 18) hx hb hts iw11 hown hK hP 1 rfl rfl 0 (by decide) fw2 (fun _ h9 => h9) rfl dX11_look_138 ?_
                                refine lv_iconst (v := 5) hx hb dX11_look_141 (by decide) ?_
                                refine lv_iload_n hx hb dX11_look_142 rfl (lv_at hl 10 rfl) ?_
                                refine lv_iadd hx hb dX11_look_143 ?_
                                rw [show 5 + (nI j4) = nI (j4 + 5) from (nI_add 5 j4).trans (congrArg nI (by omega))]
                                refine va_iald hx hb hK hP 2 0 rfl rfl (vp_in_nI (by omega) (by decide)) dX11_look_144 ?_
                                rw [nI_clamp (n := (j4 + 5)) (by omega)]
                                refine lv_iload hx hb dX11_look_145 (lv_at hl 5 rfl) ?_
                                refine lv_bipush (v := 100) hx hb dX11_look_147 (by decide) ?_
                                refine lv_idiv hx hb dX11_look_149 (by decide) ?_
                                rw [show (nI j91) / 100 = nI (j91 / 100) from pk_div (a := j91) (d := 100) (by omega) (by omega) (by omega)]
                                refine lv_iload hx hb dX11_look_150 (lv_at hl 5 rfl) ?_
                                refine lv_bipush (v := 100) hx hb dX11_look_152 (by decide) ?_
                                refine lv_irem hx hb dX11_look_154 (by decide) ?_
                                rw [show (nI j91) - (nI j91) / 100 * 100 = nI (j91 % 100) from pk_rem (a := j91) (d := 100) (by omega) (by omega) (by omega)]
                                have hs724 : kw_Split [(mrf, .inl (y 0, 3, .inl frf)), (mo, .inr (11, [.ref to, .ref ke, .ref ik, .ref mrf, .long mab, .long mbl, .ref ha, .ref r0, .ref mbr, .ref mbp, .ref mby, .int (nI bl), .int (nI ta), .int (nI tl), .int (nI tk), .int vv, .ref an, .ref va])), (to, .inl (y 0, 228, .inl ft))] [] [(mrf, .inl (y 0, 3, .inl frf)), (mo, .inr (11, [.ref to, .ref ke, .ref ik, .ref mrf, .long mab, .long mbl, .ref ha, .ref r0, .ref mbr, .ref mbp, .ref mby, .int (nI bl), .int (nI ta), .int (nI tl), .int (nI tk), .int vv, .ref an, .ref va])), (to, .inl (y 0, 228, .inl ft))] [] [0, 1, 2] := ⟨rfl, rfl, rfl, rfl, rfl, by decide⟩
                                refine kw_go_i hs724 hP hD hS hA (va_runS (As := [.int (nI j93), .int (ft (j4 + 5)), .int (nI (j91 / 100)), .int (nI (j91 % 100))]) (rest := [.int x693]) ⟨hx, hb, hml, hown, hts⟩ (gr_seenAs l D y (nI j93) (ft (j4 + 5)) (nI (j91 / 100)) (nI (j91 % 100))  _) (va_cwS 4 hts gX11_look_X11_seenAs rfl rfl rfl (by decide +kernel) ⟨Nat.le_of_ble_eq_true rfl, Nat.le_of_ble_eq_true rfl⟩) (kw_PreS hs724 hP hD hK hN) rfl rfl hl.1 rfl (lv_room (Nat.le_of_ble_eq_true rfl)) dX11_look_155 ⟨Nat.le_of_ble_eq_true rfl, Nat.le_of_ble_eq_true rfl⟩) (fun r725 u726 H locs hq hP hD hS => ?_)
                                have hP : va_P D vwCl [(mrf, .inl (y 0, 3, .inl frf)), (mo, .inr (11, [.ref to, .ref ke, .ref ik, .ref mrf, .long mab, .long mbl, .ref ha, .ref r0, .ref mbr, .ref mbp, .ref mby, .int (nI bl), .int (nI ta), .int (nI tl), .int (nI tk), .int vv, .ref an, .ref va])), (to, .inl (y 0, 228, .inl ft))] H := hP
                                have hD : va_D A [(mrf, .inl (y 0, 3, .inl frf)), (mo, .inr (11, [.ref to, .ref ke, .ref ik, .ref mrf, .long mab, .long mbl, .ref ha, .ref r0, .ref mbr, .ref mbp, .ref mby, .int (nI bl), .int (nI ta), .int (nI tl), .int (nI tk), .int vv, .ref an, .ref va])), (to, .inl (y 0, 228, .inl ft))] := hD
                                refine lv_iload hx hb dX11_look_158 (lv_at hl 1 rfl) ?_
                                refine lv_icmp_ne (tgt := 167) hx hb dX11_look_160 (by decide) (fun h727 => ?_) (fun h728 => ?_)
                                · skip
                                  refine lv_iconst (v := 0) hx hb dX11_look_167 (by decide) ?_
                                  refine lv_iadd hx hb dX11_look_168 ?_
                                  refine lv_istore (lv' := [(8, .int (x693 + 0)), (10, .int (nI j93)), (9, .int r671), (7, .int (nI j92)), (6, .int x577), (5, .int (nI j91)), (4, .int x226), (3, .int x227), (2, .int r8), (0, .ref mo), (1, .int (nI j4))]) hx hb dX11_look_169 hl (by decide) rfl (fun ls hl => ?_)
                                  refine lv_iinc (v := (nI (j93 + 1))) (lv' := [(10, .int (nI (j93 + 1))), (8, .int (x693 + 0)), (9, .int r671), (7, .int (nI j92)), (6, .int x577), (5, .int (nI j91)), (4, .int x226), (3, .int x227), (2, .int r8), (0, .ref mo), (1, .int (nI j4))]) hx hb dX11_look_171 hl (k := 1) rfl (nI_1 j93) (by decide) rfl (fun ls hl => ?_)
                                  refine lv_goto (tgt := 108) hx hb dX11_look_174 (by decide) ?_
                                  exact ihj93 (j93 + 1) (x693 + 0) H locs ls (by omega) (by omega)  (hP.sub [0, 1, 2] rfl) (hD.sub [0, 1, 2] (by decide) rfl) hS (lv_sub hl [0, 2, 1, 3, 4, 5, 6, 7, 8, 9, 10] rfl)
                                · skip
                                  refine lv_iconst (v := 1) hx hb dX11_look_163 (by decide) ?_
                                  refine lv_goto (tgt := 168) hx hb dX11_look_164 (by decide) ?_
                                  refine lv_iadd hx hb dX11_look_168 ?_
                                  refine lv_istore (lv' := [(8, .int (x693 + 1)), (10, .int (nI j93)), (9, .int r671), (7, .int (nI j92)), (6, .int x577), (5, .int (nI j91)), (4, .int x226), (3, .int x227), (2, .int r8), (0, .ref mo), (1, .int (nI j4))]) hx hb dX11_look_169 hl (by decide) rfl (fun ls hl => ?_)
                                  refine lv_iinc (v := (nI (j93 + 1))) (lv' := [(10, .int (nI (j93 + 1))), (8, .int (x693 + 1)), (9, .int r671), (7, .int (nI j92)), (6, .int x577), (5, .int (nI j91)), (4, .int x226), (3, .int x227), (2, .int r8), (0, .ref mo), (1, .int (nI j4))]) hx hb dX11_look_171 hl (k := 1) rfl (nI_1 j93) (by decide) rfl (fun ls hl => ?_)
                                  refine lv_goto (tgt := 108) hx hb dX11_look_174 (by decide) ?_
                                  exact ihj93 (j93 + 1) (x693 + 1) H locs ls (by omega) (by omega)  (hP.sub [0, 1, 2] rfl) (hD.sub [0, 1, 2] (by decide) rfl) hS (lv_sub hl [0, 2, 1, 3, 4, 5, 6, 7, 8, 9, 10] rfl)
                      exact lp711 (6 + 1) 0 0 _ _ _ (by omega) (by omega)  hP hD hS (lv_sub hl [0, 1, 2, 3, 4, 5, 6, 7, 8, 9, 10] rfl)
              exact lp653 (6 + 1) 0 0 _ _ _ (by omega) (by omega)  hP hD hS (lv_sub hl [0, 1, 2, 3, 4, 5, 6, 7] rfl)
    exact lp478 (1110 + 1) 0 1000000 (-1) _ _ _ (by omega) (by omega)  hP hD hS (lv_sub hl [0, 1, 2, 3, 4, 5] rfl)
  · skip
    have hP : va_P D vwCl [(mrf, .inl (y 0, 3, .inl frf)), (mo, .inr (11, [.ref to, .ref ke, .ref ik, .ref mrf, .long mab, .long mbl, .ref ha, .ref r0, .ref mbr, .ref mbp, .ref mby, .int (nI bl), .int (nI ta), .int (nI tl), .int (nI tk), .int vv, .ref an, .ref va])), (to, .inl (y 0, 228, .inl ft))] H := hP
    have hD : va_D A [(mrf, .inl (y 0, 3, .inl frf)), (mo, .inr (11, [.ref to, .ref ke, .ref ik, .ref mrf, .long mab, .long mbl, .ref ha, .ref r0, .ref mbr, .ref mbp, .ref mby, .int (nI bl), .int (nI ta), .int (nI tl), .int (nI tk), .int vv, .ref an, .ref va])), (to, .inl (y 0, 228, .inl ft))] := hD
    refine lv_if_ne (tgt := 15) hx hb dX11_look_5 (by decide) (fun h9 => absurd h9 (by decide)) (fun _ => ?_)
    refine lv_aload_n hx hb dX11_look_8 rfl (lv_at hl 0 rfl) ?_
    refine lv_bipush (v := (-2)) hx hb dX11_look_9 (by decide) ?_
    have hs729 : kw_Split [(mrf, .inl (y 0, 3, .inl frf)), (mo, .inr (11, [.ref to, .ref ke, .ref ik, .ref mrf, .long mab, .long mbl, .ref ha, .ref r0, .ref mbr, .ref mbp, .ref mby, .int (nI bl), .int (nI ta), .int (nI tl), .int (nI tk), .int vv, .ref an, .ref va])), (to, .inl (y 0, 228, .inl ft))] [(mo, .inr (11, [.ref to, .ref ke, .ref ik, .ref mrf, .long mab, .long mbl, .ref ha, .ref r0, .ref mbr, .ref mbp, .ref mby, .int (nI bl), .int (nI ta), .int (nI tl), .int (nI tk), .int vv, .ref an, .ref va])), (mrf, .inl (y 0, 3, .inl frf))] [(to, .inl (y 0, 228, .inl ft))] [1, 0] [2] := ⟨rfl, rfl, rfl, rfl, rfl, by decide⟩
    refine kw_go_i hs729 hP hD hS hA (va_runV (As := [.int (-2)]) (rest := []) ⟨hx, hb, hml, hown, hts⟩ (gr_bad l D y mo to ke ik mrf ha r0 mbr mbp mby an va mab mbl bl ta tl tk vv frf (-2)  _) (cwV 1 hts gX11_look_X11_bad rfl rfl rfl (by decide +kernel) ⟨Nat.le_of_ble_eq_true rfl, Nat.le_of_ble_eq_true rfl⟩) (kw_PreV (ci := 11) (q0 := 1) hs729 hP hD hK hN rfl rfl) rfl rfl hl.1 rfl (lv_room (Nat.le_of_ble_eq_true rfl)) dX11_look_11 ⟨Nat.le_of_ble_eq_true rfl, Nat.le_of_ble_eq_true rfl⟩) (fun r730 u731 H locs hq hP hD hS => ?_)
    obtain rfl := hq
    have hP : va_P D vwCl [(to, .inl (y 0, 228, .inl ft)), (mo, .inr (11, [.ref to, .ref ke, .ref ik, .ref mrf, .long mab, .long mbl, .ref ha, .ref r0, .ref mbr, .ref mbp, .ref mby, .int (nI bl), .int (nI ta), .int (nI tl), .int (nI tk), .int vv, .ref an, .ref va])), (mrf, .inl (y 0, 3, .inl (upd frf 0 ((frf 0) + 1))))] H := hP
    have hD : va_D A [(to, .inl (y 0, 228, .inl ft)), (mo, .inr (11, [.ref to, .ref ke, .ref ik, .ref mrf, .long mab, .long mbl, .ref ha, .ref r0, .ref mbr, .ref mbp, .ref mby, .int (nI bl), .int (nI ta), .int (nI tl), .int (nI tk), .int vv, .ref an, .ref va])), (mrf, .inl (y 0, 3, .inl (upd frf 0 ((frf 0) + 1))))] := hD
    exact W.iret (v := (-2)) hx hb hr (fun tZ ht hW => ⟨⟨(-2), ((upd frf 0 ((frf 0) + 1))), rfl, by first | omega | (dsimp only; omega), by rw [ht]; exact hP.sub [1, 2, 0] rfl, hD.sub [1, 2, 0] (by decide) rfl⟩, hS.F ht⟩) hS.2.2 dX11_look_14

set_option maxHeartbeats 4000000 in
set_option maxRecDepth 100000 in
theorem gq_clouds (l : Launch) (D : va_G) (y : Nat → ClassId) (mo : Nat) (to : Nat) (ke : Nat) (ik : Nat) (mrf : Nat) (ha : Nat) (r0 : Nat) (mbr : Nat) (mbp : Nat) (mby : Nat) (an : Nat) (va : Nat) (mab : Int64) (mbl : Int64) (bl : Nat) (ta : Nat) (tl : Nat) (tk : Nat) (vv : Int32) (ft : Nat → Int32) (fi : Nat) (gl : Nat) (mi : Nat) (no : Nat) (un : Nat) (hk0_ : ft 0 = (nI fi)) (hk1_ : ft 1 = (nI gl)) (hk2_ : ft 2 = (nI mi)) (hk3_ : ft 3 = (nI no)) (hk4_ : ft 4 = (nI un)) (hkt : kr_t 228 ft) (hfi : fi ≤ 6) (hgl : gl ≤ 5) (hmi : mi ≤ 4) (hno : no ≤ 6) (hun : un ≤ 8) (hgf : (gl = 0 ∨ 0 < fi)) : kw_Mi l yX11_clouds wsX11_clouds ({ frames := 4, cells := 0, slots := 0, locals := 129 }) D y [.ref mo] [(mo, .inr (11, [.ref to, .ref ke, .ref ik, .ref mrf, .long mab, .long mbl, .ref ha, .ref r0, .ref mbr, .ref mbp, .ref mby, .int (nI bl), .int (nI ta), .int (nI tl), .int (nI tk), .int vv, .ref an, .ref va])), (to, .inl (y 0, 228, .inl ft))] (fun (r : Int32) (u : Unit) => (gl = 0 ∨ 0 < fi)) (fun _ => [(mo, .inr (11, [.ref to, .ref ke, .ref ik, .ref mrf, .long mab, .long mbl, .ref ha, .ref r0, .ref mbr, .ref mbp, .ref mby, .int (nI bl), .int (nI ta), .int (nI tl), .int (nI tk), .int vv, .ref an, .ref va])), (to, .inl (y 0, 228, .inl ft))]) 0 0 := by
  refine kw_Mi.of (cc := cX11_clouds) (maxL := 6) (ret := (some .int)) (by decide) rfl ?_
  intro pZ eZ s mZ beZ meZ cZ A hE
  obtain ⟨hx, hb, hr, hml, hts, hown, hlocks, hin, hA, hP, hD, hK, hN⟩ := hE
  have hS : va_S A s.heap s.heap [] := va_S.rf
  have hl := lv_entry ([.ref mo]) (n := 6) (Nat.le_of_ble_eq_true rfl)
  rw [lg_entry_eq]
  generalize (lg_sl ([.ref mo]) ++ List.replicate (6 - (lg_sl ([.ref mo])).length) Slot.unset).toArray = ls at hl ⊢
  have hl : lv_has ls 6 [(0, .ref mo)] := hl
  have fw1 := hts (.fieldLink RX11 7 "GleanDuskModel" "told" "[I") (List.mem_of_getElem? (i := 1) rfl)
  have iw11 : ∀ w ∈ wsX110, w ∈ wsX11_clouds := fun _ h => List.mem_cons_of_mem _ (List.mem_append_right _ h)
  refine lv_iconst (v := 0) hx hb dX11_clouds_0 (by decide) ?_
  refine lv_istore_n (lv' := [(1, .int 0), (0, .ref mo)]) hx hb dX11_clouds_1 rfl hl (by decide) rfl (fun ls hl => ?_)
  refine lv_iconst (v := 0) hx hb dX11_clouds_2 (by decide) ?_
  refine lv_istore_n (lv' := [(2, .int 0), (1, .int 0), (0, .ref mo)]) hx hb dX11_clouds_3 rfl hl (by decide) rfl (fun ls hl => ?_)
  have lp88 : ∀ (fuj91 j91 : Nat) (x45 : Int32) (H : Heap) (locs : List Loc) (ls : Array Slot), j91 ≤ 10 → 10 - j91 < fuj91 → va_P D vwCl [(mo, .inr (11, [.ref to, .ref ke, .ref ik, .ref mrf, .long mab, .long mbl, .ref ha, .ref r0, .ref mbr, .ref mbp, .ref mby, .int (nI bl), .int (nI ta), .int (nI tl), .int (nI tk), .int vv, .ref an, .ref va])), (to, .inl (y 0, 228, .inl ft))] H → va_D A [(mo, .inr (11, [.ref to, .ref ke, .ref ik, .ref mrf, .long mab, .long mbl, .ref ha, .ref r0, .ref mbr, .ref mbp, .ref mby, .int (nI bl), .int (nI ta), .int (nI tl), .int (nI tk), .int vv, .ref an, .ref va])), (to, .inl (y 0, 228, .inl ft))] → va_S A s.heap H locs → lv_has ls 6 [(2, .int (nI j91)), (1, .int x45), (0, .ref mo)] → W pZ l eZ ({ frames := 4, cells := 0, slots := 0, locals := 129 }) s mZ [.ref mo].toArray beZ meZ cZ H locs 0 0 (MQ beZ (va_Qi (fun (r : Int32) (u : Unit) => (gl = 0 ∨ 0 < fi)) (kw_B D (fun _ => [(mo, .inr (11, [.ref to, .ref ke, .ref ik, .ref mrf, .long mab, .long mbl, .ref ha, .ref r0, .ref mbr, .ref mbp, .ref mby, .int (nI bl), .int (nI ta), .int (nI tl), .int (nI tk), .int vv, .ref an, .ref va])), (to, .inl (y 0, 228, .inl ft))]) A) A) [.ref mo].toArray s 0 0 A) (F0 mZ 4 ls []) := by
    intro fuj91
    induction fuj91 with
    | zero => intro j91 x45 H locs ls hj9 hf9; exact absurd hf9 (Nat.not_lt_zero _)
    | succ fuj91 ihj91 =>
      intro j91 x45 H locs ls hj91 hfj91  hP hD hS hl
      refine lv_iload_n hx hb dX11_clouds_4 rfl (lv_at hl 0 rfl) ?_
      refine lv_bipush (v := 10) hx hb dX11_clouds_5 (by decide) ?_
      refine lv_icmp_ge (tgt := 120) hx hb dX11_clouds_7 (by decide) (fun h89 => ?_) (fun h90 => ?_)
      · skip
        have h89 : 10 ≤ j91 := (nI_leI (a := 10) (b := j91) (by omega) (by omega)).mp h89
        refine lv_iload_n hx hb dX11_clouds_120 rfl (lv_at hl 1 rfl) ?_
        exact W.iret (v := x45) hx hb hr (fun tZ ht hW => ⟨⟨x45, (), rfl, by first | omega | (dsimp only; omega), by rw [ht]; exact hP.sub [0, 1] rfl, hD.sub [0, 1] (by decide) rfl⟩, hS.F ht⟩) hS.2.2 dX11_clouds_121
      · skip
        have h90 : ¬ 10 ≤ j91 := fun q9 => h90 ((nI_leI (a := 10) (b := j91) (by omega) (by omega)).mpr q9)
        refine lv_iconst (v := 1) hx hb dX11_clouds_10 (by decide) ?_
        refine lv_istore_n (lv' := [(3, .int 1), (2, .int (nI j91)), (1, .int x45), (0, .ref mo)]) hx hb dX11_clouds_11 rfl hl (by decide) rfl (fun ls hl => ?_)
        refine lv_iconst (v := 0) hx hb dX11_clouds_12 (by decide) ?_
        refine lv_istore (lv' := [(4, .int 0), (3, .int 1), (2, .int (nI j91)), (1, .int x45), (0, .ref mo)]) hx hb dX11_clouds_13 hl (by decide) rfl (fun ls hl => ?_)
        have lp116 : ∀ (fuj92 j92 : Nat) (x101 : Int32) (H : Heap) (locs : List Loc) (ls : Array Slot), j92 ≤ mi → mi - j92 < fuj92 → va_P D vwCl [(mo, .inr (11, [.ref to, .ref ke, .ref ik, .ref mrf, .long mab, .long mbl, .ref ha, .ref r0, .ref mbr, .ref mbp, .ref mby, .int (nI bl), .int (nI ta), .int (nI tl), .int (nI tk), .int vv, .ref an, .ref va])), (to, .inl (y 0, 228, .inl ft))] H → va_D A [(mo, .inr (11, [.ref to, .ref ke, .ref ik, .ref mrf, .long mab, .long mbl, .ref ha, .ref r0, .ref mbr, .ref mbp, .ref mby, .int (nI bl), .int (nI ta), .int (nI tl), .int (nI tk), .int vv, .ref an, .ref va])), (to, .inl (y 0, 228, .inl ft))] → va_S A s.heap H locs → lv_has ls 6 [(4, .int (nI j92)), (3, .int x101), (2, .int (nI j91)), (1, .int x45), (0, .ref mo)] → W pZ l eZ ({ frames := 4, cells := 0, slots := 0, locals := 129 }) s mZ [.ref mo].toArray beZ meZ cZ H locs 0 0 (MQ beZ (va_Qi (fun (r : Int32) (u : Unit) => (gl = 0 ∨ 0 < fi)) (kw_B D (fun _ => [(mo, .inr (11, [.ref to, .ref ke, .ref ik, .ref mrf, .long mab, .long mbl, .ref ha, .ref r0, .ref mbr, .ref mbp, .ref mby, .int (nI bl), .int (nI ta), .int (nI tl), .int (nI tk), .int vv, .ref an, .ref va])), (to, .inl (y 0, 228, .inl ft))]) A) A) [.ref mo].toArray s 0 0 A) (F0 mZ 15 ls []) := by
          intro fuj92
          induction fuj92 with
          | zero => intro j92 x101 H locs ls hj9 hf9; exact absurd hf9 (Nat.not_lt_zero _)
          | succ fuj92 ihj92 =>
            intro j92 x101 H locs ls hj92 hfj92  hP hD hS hl
            refine lv_iload hx hb dX11_clouds_15 (lv_at hl 0 rfl) ?_
            refine lv_aload_n hx hb dX11_clouds_17 rfl (lv_at hl 4 rfl) ?_
            refine va_get (D := D) (ci := 11) (v := .ref to) (C := RX11) (T := TX11) (N := 18) hx hb hts iw11 hown hK hP 0 rfl rfl 0 (by decide) fw1 (fun _ h9 => h9) rfl dX11_clouds_18 ?_
            refine lv_iconst (v := 2) hx hb dX11_clouds_21 (by decide) ?_
            refine va_iald hx hb hK hP 1 0 rfl rfl (by unfold vp_in; decide) dX11_clouds_22 ?_
            rw [show ((2 : Int32)).toNatClampNeg = 2 from rfl]
            rw [show (ft 2) = (nI mi) from hk2_]
            refine lv_icmp_ge (tgt := 100) hx hb dX11_clouds_23 (by decide) (fun h117 => ?_) (fun h118 => ?_)
            · skip
              have h117 : mi ≤ j92 := (nI_leI (a := mi) (b := j92) (by omega) (by omega)).mp h117
              refine lv_iload_n hx hb dX11_clouds_100 rfl (lv_at hl 3 rfl) ?_
              refine lv_iload_n hx hb dX11_clouds_101 rfl (lv_at hl 1 rfl) ?_
              refine lv_if_eq (tgt := 111) hx hb dX11_clouds_102 (by decide) (fun h119 => ?_) (fun h120 => ?_)
              · skip
                refine lv_iconst (v := 0) hx hb dX11_clouds_111 (by decide) ?_
                refine lv_ior hx hb dX11_clouds_112 ?_
                refine lv_istore_n (lv' := [(1, .int (x45 ||| 0)), (4, .int (nI j92)), (3, .int x101), (2, .int (nI j91)), (0, .ref mo)]) hx hb dX11_clouds_113 rfl hl (by decide) rfl (fun ls hl => ?_)
                refine lv_iinc (v := (nI (j91 + 1))) (lv' := [(2, .int (nI (j91 + 1))), (1, .int (x45 ||| 0)), (4, .int (nI j92)), (3, .int x101), (0, .ref mo)]) hx hb dX11_clouds_114 hl (k := 3) rfl (nI_1 j91) (by decide) rfl (fun ls hl => ?_)
                refine lv_goto (tgt := 4) hx hb dX11_clouds_117 (by decide) ?_
                exact ihj91 (j91 + 1) (x45 ||| 0) H locs ls (by omega) (by omega)  (hP.sub [0, 1] rfl) (hD.sub [0, 1] (by decide) rfl) hS (lv_sub hl [0, 1, 4] rfl)
              · skip
                refine lv_iconst (v := 1) hx hb dX11_clouds_105 (by decide) ?_
                refine lv_iload_n hx hb dX11_clouds_106 rfl (lv_at hl 2 rfl) ?_
                refine lv_ishl hx hb dX11_clouds_107 ?_
                refine lv_goto (tgt := 112) hx hb dX11_clouds_108 (by decide) ?_
                refine lv_ior hx hb dX11_clouds_112 ?_
                refine lv_istore_n (lv' := [(1, .int (x45 ||| (1 <<< ((nI j91) &&& 31)))), (4, .int (nI j92)), (3, .int x101), (2, .int (nI j91)), (0, .ref mo)]) hx hb dX11_clouds_113 rfl hl (by decide) rfl (fun ls hl => ?_)
                refine lv_iinc (v := (nI (j91 + 1))) (lv' := [(2, .int (nI (j91 + 1))), (1, .int (x45 ||| (1 <<< ((nI j91) &&& 31)))), (4, .int (nI j92)), (3, .int x101), (0, .ref mo)]) hx hb dX11_clouds_114 hl (k := 3) rfl (nI_1 j91) (by decide) rfl (fun ls hl => ?_)
                refine lv_goto (tgt := 4) hx hb dX11_clouds_117 (by decide) ?_
                exact ihj91 (j91 + 1) (x45 ||| (1 <<< ((nI j91) &&& 31))) H locs ls (by omega) (by omega)  (hP.sub [0, 1] rfl) (hD.sub [0, 1] (by decide) rfl) hS (lv_sub hl [0, 1, 4] rfl)
            · skip
              have h118 : ¬ mi ≤ j92 := fun q9 => h118 ((nI_leI (a := mi) (b := j92) (by omega) (by omega)).mpr q9)
              refine lv_bipush (v := 30) hx hb dX11_clouds_26 (by decide) ?_
              refine lv_iconst (v := 4) hx hb dX11_clouds_28 (by decide) ?_
              refine lv_iload hx hb dX11_clouds_29 (lv_at hl 0 rfl) ?_
              refine lv_imul hx hb dX11_clouds_31 ?_
              rw [show 4 * (nI j92) = nI (4 * j92) from pk_mul 4 j92]
              refine lv_iadd hx hb dX11_clouds_32 ?_
              rw [show 30 + (nI (4 * j92)) = nI (30 + (4 * j92)) from nI_add 30 (4 * j92)]
              refine lv_istore (lv' := [(5, .int (nI (30 + (4 * j92)))), (4, .int (nI j92)), (3, .int x101), (2, .int (nI j91)), (1, .int x45), (0, .ref mo)]) hx hb dX11_clouds_33 hl (by decide) rfl (fun ls hl => ?_)
              refine lv_iload_n hx hb dX11_clouds_35 rfl (lv_at hl 2 rfl) ?_
              refine lv_if_eq (tgt := 92) hx hb dX11_clouds_36 (by decide) (fun h121 => ?_) (fun h122 => ?_)
              · skip
                refine lv_iconst (v := 0) hx hb dX11_clouds_92 (by decide) ?_
                refine lv_istore_n (lv' := [(3, .int 0), (5, .int (nI (30 + (4 * j92)))), (4, .int (nI j92)), (2, .int (nI j91)), (1, .int x45), (0, .ref mo)]) hx hb dX11_clouds_93 rfl hl (by decide) rfl (fun ls hl => ?_)
                refine lv_iinc (v := (nI (j92 + 1))) (lv' := [(4, .int (nI (j92 + 1))), (3, .int 0), (5, .int (nI (30 + (4 * j92)))), (2, .int (nI j91)), (1, .int x45), (0, .ref mo)]) hx hb dX11_clouds_94 hl (k := 2) rfl (nI_1 j92) (by decide) rfl (fun ls hl => ?_)
                refine lv_goto (tgt := 15) hx hb dX11_clouds_97 (by decide) ?_
                exact ihj92 (j92 + 1) 0 H locs ls (by omega) (by omega)  (hP.sub [0, 1] rfl) (hD.sub [0, 1] (by decide) rfl) hS (lv_sub hl [0, 1, 3, 4, 5] rfl)
              · skip
                refine lv_aload_n hx hb dX11_clouds_39 rfl (lv_at hl 5 rfl) ?_
                refine va_get (D := D) (ci := 11) (v := .ref to) (C := RX11) (T := TX11) (N := 18) hx hb hts iw11 hown hK hP 0 rfl rfl 0 (by decide) fw1 (fun _ h9 => h9) rfl dX11_clouds_40 ?_
                refine lv_bipush (v := 24) hx hb dX11_clouds_43 (by decide) ?_
                refine lv_aload_n hx hb dX11_clouds_45 rfl (lv_at hl 5 rfl) ?_
                refine va_get (D := D) (ci := 11) (v := .ref to) (C := RX11) (T := TX11) (N := 18) hx hb hts iw11 hown hK hP 0 rfl rfl 0 (by decide) fw1 (fun _ h9 => h9) rfl dX11_clouds_46 ?_
                refine lv_iload hx hb dX11_clouds_49 (lv_at hl 0 rfl) ?_
                refine va_iald hx hb hK hP 1 0 rfl rfl (vp_in_nI (by omega) (by decide)) dX11_clouds_51 ?_
                rw [nI_clamp (n := (30 + (4 * j92))) (by omega)]
                obtain ⟨w123, h124, h125⟩ := kr_at hkt (p := (30 + (4 * j92))) (by omega) (by unfold kr_a; omega)
                rw [h125]
                refine lv_iadd hx hb dX11_clouds_52 ?_
                rw [show 24 + (nI w123) = nI (w123 + 24) from (nI_add 24 w123).trans (congrArg nI (by omega))]
                refine va_iald hx hb hK hP 1 0 rfl rfl (vp_in_nI (by omega) (by decide)) dX11_clouds_53 ?_
                rw [nI_clamp (n := (w123 + 24)) (by omega)]
                refine lv_aload_n hx hb dX11_clouds_54 rfl (lv_at hl 5 rfl) ?_
                refine va_get (D := D) (ci := 11) (v := .ref to) (C := RX11) (T := TX11) (N := 18) hx hb hts iw11 hown hK hP 0 rfl rfl 0 (by decide) fw1 (fun _ h9 => h9) rfl dX11_clouds_55 ?_
                refine lv_iload hx hb dX11_clouds_58 (lv_at hl 0 rfl) ?_
                refine lv_iconst (v := 2) hx hb dX11_clouds_60 (by decide) ?_
                refine lv_iadd hx hb dX11_clouds_61 ?_
                rw [show (nI (30 + (4 * j92))) + 2 = nI ((30 + (4 * j92)) + 2) from nI_add (30 + (4 * j92)) 2]
                refine va_iald hx hb hK hP 1 0 rfl rfl (vp_in_nI (by omega) (by decide)) dX11_clouds_62 ?_
                rw [nI_clamp (n := ((30 + (4 * j92)) + 2)) (by omega)]
                refine lv_aload_n hx hb dX11_clouds_63 rfl (lv_at hl 5 rfl) ?_
                refine va_get (D := D) (ci := 11) (v := .ref to) (C := RX11) (T := TX11) (N := 18) hx hb hts iw11 hown hK hP 0 rfl rfl 0 (by decide) fw1 (fun _ h9 => h9) rfl dX11_clouds_64 ?_
                refine lv_iload hx hb dX11_clouds_67 (lv_at hl 0 rfl) ?_
                refine lv_iconst (v := 1) hx hb dX11_clouds_69 (by decide) ?_
                refine lv_iadd hx hb dX11_clouds_70 ?_
                rw [show (nI (30 + (4 * j92))) + 1 = nI ((30 + (4 * j92)) + 1) from nI_add (30 + (4 * j92)) 1]
                refine va_iald hx hb hK hP 1 0 rfl rfl (vp_in_nI (by omega) (by decide)) dX11_clouds_71 ?_
                rw [nI_clamp (n := ((30 + (4 * j92)) + 1)) (by omega)]
                refine lv_iload_n hx hb dX11_clouds_72 rfl (lv_at hl 3 rfl) ?_
                have hs126 : kw_Split [(mo, .inr (11, [.ref to, .ref ke, .ref ik, .ref mrf, .long mab, .long mbl, .ref ha, .ref r0, .ref mbr, .ref mbp, .ref mby, .int (nI bl), .int (nI ta), .int (nI tl), .int (nI tk), .int vv, .ref an, .ref va])), (to, .inl (y 0, 228, .inl ft))] [] [(mo, .inr (11, [.ref to, .ref ke, .ref ik, .ref mrf, .long mab, .long mbl, .ref ha, .ref r0, .ref mbr, .ref mbp, .ref mby, .int (nI bl), .int (nI ta), .int (nI tl), .int (nI tk), .int vv, .ref an, .ref va])), (to, .inl (y 0, 228, .inl ft))] [] [0, 1] := ⟨rfl, rfl, rfl, rfl, rfl, by decide⟩
                refine kw_go_i hs126 hP hD hS hA (va_runS (As := [.int (ft (w123 + 24)), .int (ft ((30 + (4 * j92)) + 2)), .int (ft ((30 + (4 * j92)) + 1)), .int (nI j91)]) (rest := []) ⟨hx, hb, hml, hown, hts⟩ (gr_seenAs l D y (ft (w123 + 24)) (ft ((30 + (4 * j92)) + 2)) (ft ((30 + (4 * j92)) + 1)) (nI j91)  _) (va_cwS 4 hts gX11_clouds_X11_seenAs rfl rfl rfl (by decide +kernel) ⟨Nat.le_of_ble_eq_true rfl, Nat.le_of_ble_eq_true rfl⟩) (kw_PreS hs126 hP hD hK hN) rfl rfl hl.1 rfl (lv_room (Nat.le_of_ble_eq_true rfl)) dX11_clouds_73 ⟨Nat.le_of_ble_eq_true rfl, Nat.le_of_ble_eq_true rfl⟩) (fun r127 u128 H locs hq hP hD hS => ?_)
                have hP : va_P D vwCl [(mo, .inr (11, [.ref to, .ref ke, .ref ik, .ref mrf, .long mab, .long mbl, .ref ha, .ref r0, .ref mbr, .ref mbp, .ref mby, .int (nI bl), .int (nI ta), .int (nI tl), .int (nI tk), .int vv, .ref an, .ref va])), (to, .inl (y 0, 228, .inl ft))] H := hP
                have hD : va_D A [(mo, .inr (11, [.ref to, .ref ke, .ref ik, .ref mrf, .long mab, .long mbl, .ref ha, .ref r0, .ref mbr, .ref mbp, .ref mby, .int (nI bl), .int (nI ta), .int (nI tl), .int (nI tk), .int vv, .ref an, .ref va])), (to, .inl (y 0, 228, .inl ft))] := hD
                refine lv_aload_n hx hb dX11_clouds_76 rfl (lv_at hl 5 rfl) ?_
                refine va_get (D := D) (ci := 11) (v := .ref to) (C := RX11) (T := TX11) (N := 18) hx hb hts iw11 hown hK hP 0 rfl rfl 0 (by decide) fw1 (fun _ h9 => h9) rfl dX11_clouds_77 ?_
                refine lv_iload hx hb dX11_clouds_80 (lv_at hl 0 rfl) ?_
                refine lv_iconst (v := 3) hx hb dX11_clouds_82 (by decide) ?_
                refine lv_iadd hx hb dX11_clouds_83 ?_
                rw [show (nI (30 + (4 * j92))) + 3 = nI ((30 + (4 * j92)) + 3) from nI_add (30 + (4 * j92)) 3]
                refine va_iald hx hb hK hP 1 0 rfl rfl (vp_in_nI (by omega) (by decide)) dX11_clouds_84 ?_
                rw [nI_clamp (n := ((30 + (4 * j92)) + 3)) (by omega)]
                refine lv_icmp_ne (tgt := 92) hx hb dX11_clouds_85 (by decide) (fun h129 => ?_) (fun h130 => ?_)
                · skip
                  refine lv_iconst (v := 0) hx hb dX11_clouds_92 (by decide) ?_
                  refine lv_istore_n (lv' := [(3, .int 0), (5, .int (nI (30 + (4 * j92)))), (4, .int (nI j92)), (2, .int (nI j91)), (1, .int x45), (0, .ref mo)]) hx hb dX11_clouds_93 rfl hl (by decide) rfl (fun ls hl => ?_)
                  refine lv_iinc (v := (nI (j92 + 1))) (lv' := [(4, .int (nI (j92 + 1))), (3, .int 0), (5, .int (nI (30 + (4 * j92)))), (2, .int (nI j91)), (1, .int x45), (0, .ref mo)]) hx hb dX11_clouds_94 hl (k := 2) rfl (nI_1 j92) (by decide) rfl (fun ls hl => ?_)
                  refine lv_goto (tgt := 15) hx hb dX11_clouds_97 (by decide) ?_
                  exact ihj92 (j92 + 1) 0 H locs ls (by omega) (by omega)  (hP.sub [0, 1] rfl) (hD.sub [0, 1] (by decide) rfl) hS (lv_sub hl [0, 1, 3, 4, 5] rfl)
                · skip
                  refine lv_iconst (v := 1) hx hb dX11_clouds_88 (by decide) ?_
                  refine lv_goto (tgt := 93) hx hb dX11_clouds_89 (by decide) ?_
                  refine lv_istore_n (lv' := [(3, .int 1), (5, .int (nI (30 + (4 * j92)))), (4, .int (nI j92)), (2, .int (nI j91)), (1, .int x45), (0, .ref mo)]) hx hb dX11_clouds_93 rfl hl (by decide) rfl (fun ls hl => ?_)
                  refine lv_iinc (v := (nI (j92 + 1))) (lv' := [(4, .int (nI (j92 + 1))), (3, .int 1), (5, .int (nI (30 + (4 * j92)))), (2, .int (nI j91)), (1, .int x45), (0, .ref mo)]) hx hb dX11_clouds_94 hl (k := 2) rfl (nI_1 j92) (by decide) rfl (fun ls hl => ?_)
                  refine lv_goto (tgt := 15) hx hb dX11_clouds_97 (by decide) ?_
                  exact ihj92 (j92 + 1) 1 H locs ls (by omega) (by omega)  (hP.sub [0, 1] rfl) (hD.sub [0, 1] (by decide) rfl) hS (lv_sub hl [0, 1, 3, 4, 5] rfl)
        exact lp116 (mi + 1) 0 1 _ _ _ (by omega) (by omega)  hP hD hS (lv_sub hl [0, 1, 2, 3, 4] rfl)
  exact lp88 (10 + 1) 0 0 _ _ _ (by omega) (by omega)  hP hD hS (lv_sub hl [0, 1, 2] rfl)

set_option maxHeartbeats 4000000 in
set_option maxRecDepth 100000 in
theorem gr_hasBy (l : Launch) (D : va_G) (y : Nat → ClassId) (mo : Nat) (to : Nat) (ke : Nat) (ik : Nat) (mrf : Nat) (ha : Nat) (r0 : Nat) (mbr : Nat) (mbp : Nat) (mby : Nat) (an : Nat) (va : Nat) (mab : Int64) (mbl : Int64) (bl : Nat) (ta : Nat) (tl : Nat) (tk : Nat) (vv : Int32) (ft : Nat → Int32) (fi : Nat) (gl : Nat) (mi : Nat) (no : Nat) (un : Nat) (k : Nat) (k2 : Nat) (x : Int32) (hk0_ : ft 0 = (nI fi)) (hk1_ : ft 1 = (nI gl)) (hk2_ : ft 2 = (nI mi)) (hk3_ : ft 3 = (nI no)) (hk4_ : ft 4 = (nI un)) (hkt : kr_t 228 ft) (hfi : fi ≤ 6) (hgl : gl ≤ 5) (hmi : mi ≤ 4) (hno : no ≤ 6) (hun : un ≤ 8) (hA1 : k < gl) (hA2 : k2 < fi) : kw_Mi l yX11_hasBy wsX11_hasBy ({ frames := 5, cells := 0, slots := 0, locals := 151 }) D y [.ref mo, .int (nI k), .int (nI k2), .int x] [(mo, .inr (11, [.ref to, .ref ke, .ref ik, .ref mrf, .long mab, .long mbl, .ref ha, .ref r0, .ref mbr, .ref mbp, .ref mby, .int (nI bl), .int (nI ta), .int (nI tl), .int (nI tk), .int vv, .ref an, .ref va])), (to, .inl (y 0, 228, .inl ft))] (fun (r : Int32) (u : Unit) => True) (fun _ => [(mo, .inr (11, [.ref to, .ref ke, .ref ik, .ref mrf, .long mab, .long mbl, .ref ha, .ref r0, .ref mbr, .ref mbp, .ref mby, .int (nI bl), .int (nI ta), .int (nI tl), .int (nI tk), .int vv, .ref an, .ref va])), (to, .inl (y 0, 228, .inl ft))]) 0 0 := by
  refine kw_Mi.of (cc := cX11_hasBy) (maxL := 5) (ret := (some .int)) (by decide) rfl ?_
  intro pZ eZ s mZ beZ meZ cZ A hE
  obtain ⟨hx, hb, hr, hml, hts, hown, hlocks, hin, hA, hP, hD, hK, hN⟩ := hE
  have hS : va_S A s.heap s.heap [] := va_S.rf
  have hl := lv_entry ([.ref mo, .int (nI k), .int (nI k2), .int x]) (n := 5) (Nat.le_of_ble_eq_true rfl)
  rw [lg_entry_eq]
  generalize (lg_sl ([.ref mo, .int (nI k), .int (nI k2), .int x]) ++ List.replicate (5 - (lg_sl ([.ref mo, .int (nI k), .int (nI k2), .int x])).length) Slot.unset).toArray = ls at hl ⊢
  have hl : lv_has ls 5 [(0, .ref mo), (1, .int (nI k)), (2, .int (nI k2)), (3, .int x)] := hl
  have fw1 := hts (.fieldLink RX11 7 "GleanDuskModel" "told" "[I") (List.mem_of_getElem? (i := 1) rfl)
  have iw11 : ∀ w ∈ wsX110, w ∈ wsX11_hasBy := fun _ h => List.mem_cons_of_mem _ (List.mem_append_right _ h)
  refine lv_aload_n hx hb dX11_hasBy_0 rfl (lv_at hl 0 rfl) ?_
  refine va_get (D := D) (ci := 11) (v := .ref to) (C := RX11) (T := TX11) (N := 18) hx hb hts iw11 hown hK hP 0 rfl rfl 0 (by decide) fw1 (fun _ h9 => h9) rfl dX11_hasBy_1 ?_
  refine lv_iload_n hx hb dX11_hasBy_4 rfl (lv_at hl 2 rfl) ?_
  refine lv_aload_n hx hb dX11_hasBy_5 rfl (lv_at hl 0 rfl) ?_
  refine va_get (D := D) (ci := 11) (v := .ref to) (C := RX11) (T := TX11) (N := 18) hx hb hts iw11 hown hK hP 0 rfl rfl 0 (by decide) fw1 (fun _ h9 => h9) rfl dX11_hasBy_6 ?_
  refine lv_bipush (v := 21) hx hb dX11_hasBy_9 (by decide) ?_
  refine va_iald hx hb hK hP 1 0 rfl rfl (by unfold vp_in; decide) dX11_hasBy_11 ?_
  rw [show ((21 : Int32)).toNatClampNeg = 21 from rfl]
  have hs1 : kw_Split [(mo, .inr (11, [.ref to, .ref ke, .ref ik, .ref mrf, .long mab, .long mbl, .ref ha, .ref r0, .ref mbr, .ref mbp, .ref mby, .int (nI bl), .int (nI ta), .int (nI tl), .int (nI tk), .int vv, .ref an, .ref va])), (to, .inl (y 0, 228, .inl ft))] [(to, .inl (y 0, 228, .inl ft))] [(mo, .inr (11, [.ref to, .ref ke, .ref ik, .ref mrf, .long mab, .long mbl, .ref ha, .ref r0, .ref mbr, .ref mbp, .ref mby, .int (nI bl), .int (nI ta), .int (nI tl), .int (nI tk), .int vv, .ref an, .ref va]))] [1] [0] := ⟨rfl, rfl, rfl, rfl, rfl, by decide⟩
  refine kw_go_i hs1 hP hD hS hA (va_runS (As := [.ref to, .int (nI k2), .int (ft 21)]) (rest := []) ⟨hx, hb, hml, hown, hts⟩ (gr_seenOn228 l D y to ft fi gl mi no un k2 (ft 21) hk0_ hk1_ hk2_ hk3_ hk4_ hkt hfi hgl hmi hno hun (by omega) _) (va_cwS 3 hts gX11_hasBy_X11_seenOn rfl rfl rfl (by decide +kernel) ⟨Nat.le_of_ble_eq_true rfl, Nat.le_of_ble_eq_true rfl⟩) (kw_PreS hs1 hP hD hK hN) rfl rfl hl.1 rfl (lv_room (Nat.le_of_ble_eq_true rfl)) dX11_hasBy_12 ⟨Nat.le_of_ble_eq_true rfl, Nat.le_of_ble_eq_true rfl⟩) (fun r2 u3 H locs hq hP hD hS => ?_)
  have hP : va_P D vwCl [(mo, .inr (11, [.ref to, .ref ke, .ref ik, .ref mrf, .long mab, .long mbl, .ref ha, .ref r0, .ref mbr, .ref mbp, .ref mby, .int (nI bl), .int (nI ta), .int (nI tl), .int (nI tk), .int vv, .ref an, .ref va])), (to, .inl (y 0, 228, .inl ft))] H := hP
  have hD : va_D A [(mo, .inr (11, [.ref to, .ref ke, .ref ik, .ref mrf, .long mab, .long mbl, .ref ha, .ref r0, .ref mbr, .ref mbp, .ref mby, .int (nI bl), .int (nI ta), .int (nI tl), .int (nI tk), .int vv, .ref an, .ref va])), (to, .inl (y 0, 228, .inl ft))] := hD
  refine lv_istore (lv' := [(4, .int r2), (0, .ref mo), (1, .int (nI k)), (2, .int (nI k2)), (3, .int x)]) hx hb dX11_hasBy_15 hl (by decide) rfl (fun ls hl => ?_)
  refine lv_iload_n hx hb dX11_hasBy_17 rfl (lv_at hl 3 rfl) ?_
  refine lv_iload_n hx hb dX11_hasBy_18 rfl (lv_at hl 4 rfl) ?_
  refine lv_icmp_ne (tgt := 29) hx hb dX11_hasBy_19 (by decide) (fun h4 => ?_) (fun h5 => ?_)
  · skip
    refine lv_iload hx hb dX11_hasBy_29 (lv_at hl 0 rfl) ?_
    refine lv_iload_n hx hb dX11_hasBy_31 rfl (lv_at hl 3 rfl) ?_
    refine lv_aload_n hx hb dX11_hasBy_32 rfl (lv_at hl 1 rfl) ?_
    refine va_get (D := D) (ci := 11) (v := .ref to) (C := RX11) (T := TX11) (N := 18) hx hb hts iw11 hown hK hP 0 rfl rfl 0 (by decide) fw1 (fun _ h9 => h9) rfl dX11_hasBy_33 ?_
    refine lv_bipush (v := 11) hx hb dX11_hasBy_36 (by decide) ?_
    refine lv_iload_n hx hb dX11_hasBy_38 rfl (lv_at hl 2 rfl) ?_
    refine lv_iadd hx hb dX11_hasBy_39 ?_
    rw [show 11 + (nI k) = nI (k + 11) from (nI_add 11 k).trans (congrArg nI (by omega))]
    refine va_iald hx hb hK hP 1 0 rfl rfl (vp_in_nI (by omega) (by decide)) dX11_hasBy_40 ?_
    rw [nI_clamp (n := (k + 11)) (by omega)]
    obtain ⟨w6, h7, h8⟩ := kr_at hkt (p := (k + 11)) (by omega) (by unfold kr_a; omega)
    rw [h8]
    have hs9 : kw_Split [(mo, .inr (11, [.ref to, .ref ke, .ref ik, .ref mrf, .long mab, .long mbl, .ref ha, .ref r0, .ref mbr, .ref mbp, .ref mby, .int (nI bl), .int (nI ta), .int (nI tl), .int (nI tk), .int vv, .ref an, .ref va])), (to, .inl (y 0, 228, .inl ft))] [] [(mo, .inr (11, [.ref to, .ref ke, .ref ik, .ref mrf, .long mab, .long mbl, .ref ha, .ref r0, .ref mbr, .ref mbp, .ref mby, .int (nI bl), .int (nI ta), .int (nI tl), .int (nI tk), .int vv, .ref an, .ref va])), (to, .inl (y 0, 228, .inl ft))] [] [0, 1] := ⟨rfl, rfl, rfl, rfl, rfl, by decide⟩
    refine kw_go_i hs9 hP hD hS hA (va_runS (As := [.int (nI k2), .int (nI w6)]) (rest := [.int r2]) ⟨hx, hb, hml, hown, hts⟩ (gr_distance l D y (nI k2) (nI w6)  _) (va_cwS 2 hts gX11_hasBy_X11_distance rfl rfl rfl (by decide +kernel) ⟨Nat.le_of_ble_eq_true rfl, Nat.le_of_ble_eq_true rfl⟩) (kw_PreS hs9 hP hD hK hN) rfl rfl hl.1 rfl (lv_room (Nat.le_of_ble_eq_true rfl)) dX11_hasBy_41 ⟨Nat.le_of_ble_eq_true rfl, Nat.le_of_ble_eq_true rfl⟩) (fun r10 u11 H locs hq hP hD hS => ?_)
    have hP : va_P D vwCl [(mo, .inr (11, [.ref to, .ref ke, .ref ik, .ref mrf, .long mab, .long mbl, .ref ha, .ref r0, .ref mbr, .ref mbp, .ref mby, .int (nI bl), .int (nI ta), .int (nI tl), .int (nI tk), .int vv, .ref an, .ref va])), (to, .inl (y 0, 228, .inl ft))] H := hP
    have hD : va_D A [(mo, .inr (11, [.ref to, .ref ke, .ref ik, .ref mrf, .long mab, .long mbl, .ref ha, .ref r0, .ref mbr, .ref mbp, .ref mby, .int (nI bl), .int (nI ta), .int (nI tl), .int (nI tk), .int vv, .ref an, .ref va])), (to, .inl (y 0, 228, .inl ft))] := hD
    refine lv_isub hx hb dX11_hasBy_44 ?_
    exact W.iret (v := (r2 - r10)) hx hb hr (fun tZ ht hW => ⟨⟨(r2 - r10), (), rfl, trivial, by rw [ht]; exact hP.sub [0, 1] rfl, hD.sub [0, 1] (by decide) rfl⟩, hS.F ht⟩) hS.2.2 dX11_hasBy_45
  · skip
    refine lv_iload hx hb dX11_hasBy_22 (lv_at hl 0 rfl) ?_
    refine lv_iconst (v := 2) hx hb dX11_hasBy_24 (by decide) ?_
    refine lv_idiv hx hb dX11_hasBy_25 (by decide) ?_
    refine lv_goto (tgt := 31) hx hb dX11_hasBy_26 (by decide) ?_
    refine lv_iload_n hx hb dX11_hasBy_31 rfl (lv_at hl 3 rfl) ?_
    refine lv_aload_n hx hb dX11_hasBy_32 rfl (lv_at hl 1 rfl) ?_
    refine va_get (D := D) (ci := 11) (v := .ref to) (C := RX11) (T := TX11) (N := 18) hx hb hts iw11 hown hK hP 0 rfl rfl 0 (by decide) fw1 (fun _ h9 => h9) rfl dX11_hasBy_33 ?_
    refine lv_bipush (v := 11) hx hb dX11_hasBy_36 (by decide) ?_
    refine lv_iload_n hx hb dX11_hasBy_38 rfl (lv_at hl 2 rfl) ?_
    refine lv_iadd hx hb dX11_hasBy_39 ?_
    rw [show 11 + (nI k) = nI (k + 11) from (nI_add 11 k).trans (congrArg nI (by omega))]
    refine va_iald hx hb hK hP 1 0 rfl rfl (vp_in_nI (by omega) (by decide)) dX11_hasBy_40 ?_
    rw [nI_clamp (n := (k + 11)) (by omega)]
    obtain ⟨w12, h13, h14⟩ := kr_at hkt (p := (k + 11)) (by omega) (by unfold kr_a; omega)
    rw [h14]
    have hs15 : kw_Split [(mo, .inr (11, [.ref to, .ref ke, .ref ik, .ref mrf, .long mab, .long mbl, .ref ha, .ref r0, .ref mbr, .ref mbp, .ref mby, .int (nI bl), .int (nI ta), .int (nI tl), .int (nI tk), .int vv, .ref an, .ref va])), (to, .inl (y 0, 228, .inl ft))] [] [(mo, .inr (11, [.ref to, .ref ke, .ref ik, .ref mrf, .long mab, .long mbl, .ref ha, .ref r0, .ref mbr, .ref mbp, .ref mby, .int (nI bl), .int (nI ta), .int (nI tl), .int (nI tk), .int vv, .ref an, .ref va])), (to, .inl (y 0, 228, .inl ft))] [] [0, 1] := ⟨rfl, rfl, rfl, rfl, rfl, by decide⟩
    refine kw_go_i hs15 hP hD hS hA (va_runS (As := [.int (nI k2), .int (nI w12)]) (rest := [.int (r2 / 2)]) ⟨hx, hb, hml, hown, hts⟩ (gr_distance l D y (nI k2) (nI w12)  _) (va_cwS 2 hts gX11_hasBy_X11_distance rfl rfl rfl (by decide +kernel) ⟨Nat.le_of_ble_eq_true rfl, Nat.le_of_ble_eq_true rfl⟩) (kw_PreS hs15 hP hD hK hN) rfl rfl hl.1 rfl (lv_room (Nat.le_of_ble_eq_true rfl)) dX11_hasBy_41 ⟨Nat.le_of_ble_eq_true rfl, Nat.le_of_ble_eq_true rfl⟩) (fun r16 u17 H locs hq hP hD hS => ?_)
    have hP : va_P D vwCl [(mo, .inr (11, [.ref to, .ref ke, .ref ik, .ref mrf, .long mab, .long mbl, .ref ha, .ref r0, .ref mbr, .ref mbp, .ref mby, .int (nI bl), .int (nI ta), .int (nI tl), .int (nI tk), .int vv, .ref an, .ref va])), (to, .inl (y 0, 228, .inl ft))] H := hP
    have hD : va_D A [(mo, .inr (11, [.ref to, .ref ke, .ref ik, .ref mrf, .long mab, .long mbl, .ref ha, .ref r0, .ref mbr, .ref mbp, .ref mby, .int (nI bl), .int (nI ta), .int (nI tl), .int (nI tk), .int vv, .ref an, .ref va])), (to, .inl (y 0, 228, .inl ft))] := hD
    refine lv_isub hx hb dX11_hasBy_44 ?_
    exact W.iret (v := ((r2 / 2) - r16)) hx hb hr (fun tZ ht hW => ⟨⟨((r2 / 2) - r16), (), rfl, trivial, by rw [ht]; exact hP.sub [0, 1] rfl, hD.sub [0, 1] (by decide) rfl⟩, hS.F ht⟩) hS.2.2 dX11_hasBy_45

set_option maxHeartbeats 4000000 in
set_option maxRecDepth 100000 in
theorem gr_rests (l : Launch) (D : va_G) (y : Nat → ClassId) (mo : Nat) (to : Nat) (ke : Nat) (ik : Nat) (mrf : Nat) (ha : Nat) (r0 : Nat) (mbr : Nat) (mbp : Nat) (mby : Nat) (an : Nat) (va : Nat) (mab : Int64) (mbl : Int64) (bl : Nat) (ta : Nat) (tl : Nat) (tk : Nat) (vv : Int32) (ft : Nat → Int32) (fi : Nat) (gl : Nat) (mi : Nat) (no : Nat) (un : Nat) (k : Nat) (k2 : Nat) (k3 : Nat) (k4 : Nat) (hk0_ : ft 0 = (nI fi)) (hk1_ : ft 1 = (nI gl)) (hk2_ : ft 2 = (nI mi)) (hk3_ : ft 3 = (nI no)) (hk4_ : ft 4 = (nI un)) (hkt : kr_t 228 ft) (hfi : fi ≤ 6) (hgl : gl ≤ 5) (hmi : mi ≤ 4) (hno : no ≤ 6) (hun : un ≤ 8) (hA1 : k < gl) (hA2 : k2 < gl) (hA3 : k3 < fi) (hA4 : k4 < fi) : kw_Mi l yX11_rests wsX11_rests ({ frames := 6, cells := 0, slots := 0, locals := 175 }) D y [.ref mo, .int (nI k), .int (nI k2), .int (nI k3), .int (nI k4)] [(mo, .inr (11, [.ref to, .ref ke, .ref ik, .ref mrf, .long mab, .long mbl, .ref ha, .ref r0, .ref mbr, .ref mbp, .ref mby, .int (nI bl), .int (nI ta), .int (nI tl), .int (nI tk), .int vv, .ref an, .ref va])), (to, .inl (y 0, 228, .inl ft))] (fun (r : Int32) (u : Unit) => (r = 0 ∨ r = 1)) (fun _ => [(mo, .inr (11, [.ref to, .ref ke, .ref ik, .ref mrf, .long mab, .long mbl, .ref ha, .ref r0, .ref mbr, .ref mbp, .ref mby, .int (nI bl), .int (nI ta), .int (nI tl), .int (nI tk), .int vv, .ref an, .ref va])), (to, .inl (y 0, 228, .inl ft))]) 0 0 := by
  refine kw_Mi.of (cc := cX11_rests) (maxL := 7) (ret := (some .boolean)) (by decide) rfl ?_
  intro pZ eZ s mZ beZ meZ cZ A hE
  obtain ⟨hx, hb, hr, hml, hts, hown, hlocks, hin, hA, hP, hD, hK, hN⟩ := hE
  have hS : va_S A s.heap s.heap [] := va_S.rf
  have hl := lv_entry ([.ref mo, .int (nI k), .int (nI k2), .int (nI k3), .int (nI k4)]) (n := 7) (Nat.le_of_ble_eq_true rfl)
  rw [lg_entry_eq]
  generalize (lg_sl ([.ref mo, .int (nI k), .int (nI k2), .int (nI k3), .int (nI k4)]) ++ List.replicate (7 - (lg_sl ([.ref mo, .int (nI k), .int (nI k2), .int (nI k3), .int (nI k4)])).length) Slot.unset).toArray = ls at hl ⊢
  have hl : lv_has ls 7 [(0, .ref mo), (1, .int (nI k)), (2, .int (nI k2)), (3, .int (nI k3)), (4, .int (nI k4))] := hl
  refine lv_iconst (v := 1) hx hb dX11_rests_0 (by decide) ?_
  refine lv_istore (lv' := [(5, .int 1), (0, .ref mo), (1, .int (nI k)), (2, .int (nI k2)), (3, .int (nI k3)), (4, .int (nI k4))]) hx hb dX11_rests_1 hl (by decide) rfl (fun ls hl => ?_)
  refine lv_iconst (v := 0) hx hb dX11_rests_3 (by decide) ?_
  refine lv_istore (lv' := [(6, .int 0), (5, .int 1), (0, .ref mo), (1, .int (nI k)), (2, .int (nI k2)), (3, .int (nI k3)), (4, .int (nI k4))]) hx hb dX11_rests_4 hl (by decide) rfl (fun ls hl => ?_)
  have lp46 : ∀ (fuj91 j91 : Nat) (x22 : Nat) (H : Heap) (locs : List Loc) (ls : Array Slot), j91 ≤ fi → fi - j91 < fuj91 → x22 ≤ 1 → va_P D vwCl [(mo, .inr (11, [.ref to, .ref ke, .ref ik, .ref mrf, .long mab, .long mbl, .ref ha, .ref r0, .ref mbr, .ref mbp, .ref mby, .int (nI bl), .int (nI ta), .int (nI tl), .int (nI tk), .int vv, .ref an, .ref va])), (to, .inl (y 0, 228, .inl ft))] H → va_D A [(mo, .inr (11, [.ref to, .ref ke, .ref ik, .ref mrf, .long mab, .long mbl, .ref ha, .ref r0, .ref mbr, .ref mbp, .ref mby, .int (nI bl), .int (nI ta), .int (nI tl), .int (nI tk), .int vv, .ref an, .ref va])), (to, .inl (y 0, 228, .inl ft))] → va_S A s.heap H locs → lv_has ls 7 [(6, .int (nI j91)), (5, .int (nI x22)), (0, .ref mo), (1, .int (nI k)), (2, .int (nI k2)), (3, .int (nI k3)), (4, .int (nI k4))] → W pZ l eZ ({ frames := 6, cells := 0, slots := 0, locals := 175 }) s mZ [.ref mo, .int (nI k), .int (nI k2), .int (nI k3), .int (nI k4)].toArray beZ meZ cZ H locs 0 0 (MQ beZ (va_Qi (fun (r : Int32) (u : Unit) => (r = 0 ∨ r = 1)) (kw_B D (fun _ => [(mo, .inr (11, [.ref to, .ref ke, .ref ik, .ref mrf, .long mab, .long mbl, .ref ha, .ref r0, .ref mbr, .ref mbp, .ref mby, .int (nI bl), .int (nI ta), .int (nI tl), .int (nI tk), .int vv, .ref an, .ref va])), (to, .inl (y 0, 228, .inl ft))]) A) A) [.ref mo, .int (nI k), .int (nI k2), .int (nI k3), .int (nI k4)].toArray s 0 0 A) (F0 mZ 6 ls []) := by
    intro fuj91
    induction fuj91 with
    | zero => intro j91 x22 H locs ls hj9 hf9; exact absurd hf9 (Nat.not_lt_zero _)
    | succ fuj91 ihj91 =>
      intro j91 x22 H locs ls hj91 hfj91 hn_x22 hP hD hS hl
      refine lv_iload hx hb dX11_rests_6 (lv_at hl 0 rfl) ?_
      refine lv_aload_n hx hb dX11_rests_8 rfl (lv_at hl 2 rfl) ?_
      have hs47 : kw_Split [(mo, .inr (11, [.ref to, .ref ke, .ref ik, .ref mrf, .long mab, .long mbl, .ref ha, .ref r0, .ref mbr, .ref mbp, .ref mby, .int (nI bl), .int (nI ta), .int (nI tl), .int (nI tk), .int vv, .ref an, .ref va])), (to, .inl (y 0, 228, .inl ft))] [(mo, .inr (11, [.ref to, .ref ke, .ref ik, .ref mrf, .long mab, .long mbl, .ref ha, .ref r0, .ref mbr, .ref mbp, .ref mby, .int (nI bl), .int (nI ta), .int (nI tl), .int (nI tk), .int vv, .ref an, .ref va])), (to, .inl (y 0, 228, .inl ft))] [] [0, 1] [] := ⟨rfl, rfl, rfl, rfl, rfl, by decide⟩
      refine kw_go_i hs47 hP hD hS hA (va_runV (As := []) (rest := [.int (nI j91)]) ⟨hx, hb, hml, hown, hts⟩ (gr_many l D y mo to ke ik mrf ha r0 mbr mbp mby an va mab mbl bl ta tl tk vv ft fi gl mi no un hk0_ hk1_ hk2_ hk3_ hk4_ hkt hfi hgl hmi hno hun _) (cwV 0 hts gX11_rests_X11_many rfl rfl rfl (by decide +kernel) ⟨Nat.le_of_ble_eq_true rfl, Nat.le_of_ble_eq_true rfl⟩) (kw_PreV (ci := 11) (q0 := 0) hs47 hP hD hK hN rfl rfl) rfl rfl hl.1 rfl (lv_room (Nat.le_of_ble_eq_true rfl)) dX11_rests_9 ⟨Nat.le_of_ble_eq_true rfl, Nat.le_of_ble_eq_true rfl⟩) (fun r48 u49 H locs hq hP hD hS => ?_)
      obtain rfl := hq
      have hP : va_P D vwCl [(mo, .inr (11, [.ref to, .ref ke, .ref ik, .ref mrf, .long mab, .long mbl, .ref ha, .ref r0, .ref mbr, .ref mbp, .ref mby, .int (nI bl), .int (nI ta), .int (nI tl), .int (nI tk), .int vv, .ref an, .ref va])), (to, .inl (y 0, 228, .inl ft))] H := hP
      have hD : va_D A [(mo, .inr (11, [.ref to, .ref ke, .ref ik, .ref mrf, .long mab, .long mbl, .ref ha, .ref r0, .ref mbr, .ref mbp, .ref mby, .int (nI bl), .int (nI ta), .int (nI tl), .int (nI tk), .int vv, .ref an, .ref va])), (to, .inl (y 0, 228, .inl ft))] := hD
      refine lv_icmp_ge (tgt := 72) hx hb dX11_rests_12 (by decide) (fun h50 => ?_) (fun h51 => ?_)
      · skip
        have h50 : fi ≤ j91 := (nI_leI (a := fi) (b := j91) (by omega) (by omega)).mp h50
        refine lv_iload hx hb dX11_rests_72 (lv_at hl 1 rfl) ?_
        rcases (show x22 = 0 ∨ x22 = 1 by omega) with rfl | rfl
        · skip
          exact W.zret (v := 0) hx hb hr (by decide) (fun tZ ht hW => ⟨⟨0, (), rfl, Or.inl rfl, by rw [ht]; exact hP.sub [0, 1] rfl, hD.sub [0, 1] (by decide) rfl⟩, hS.F ht⟩) hS.2.2 dX11_rests_74
        · skip
          exact W.zret (v := 1) hx hb hr (by decide) (fun tZ ht hW => ⟨⟨1, (), rfl, Or.inr rfl, by rw [ht]; exact hP.sub [0, 1] rfl, hD.sub [0, 1] (by decide) rfl⟩, hS.F ht⟩) hS.2.2 dX11_rests_74
      · skip
        have h51 : ¬ fi ≤ j91 := fun q9 => h51 ((nI_leI (a := fi) (b := j91) (by omega) (by omega)).mpr q9)
        refine lv_iload hx hb dX11_rests_15 (lv_at hl 1 rfl) ?_
        refine lv_if_eq (tgt := 63) hx hb dX11_rests_17 (by decide) (fun h52 => ?_) (fun h53 => ?_)
        · skip
          have h52 : x22 = 0 := (nI_eq (a := x22) (b := 0) (by omega) (by omega)).mp h52
          refine lv_iconst (v := 0) hx hb dX11_rests_63 (by decide) ?_
          refine lv_istore (lv' := [(5, .int 0), (6, .int (nI j91)), (0, .ref mo), (1, .int (nI k)), (2, .int (nI k2)), (3, .int (nI k3)), (4, .int (nI k4))]) hx hb dX11_rests_64 hl (by decide) rfl (fun ls hl => ?_)
          refine lv_iinc (v := (nI (j91 + 1))) (lv' := [(6, .int (nI (j91 + 1))), (5, .int 0), (0, .ref mo), (1, .int (nI k)), (2, .int (nI k2)), (3, .int (nI k3)), (4, .int (nI k4))]) hx hb dX11_rests_66 hl (k := 1) rfl (nI_1 j91) (by decide) rfl (fun ls hl => ?_)
          refine lv_goto (tgt := 6) hx hb dX11_rests_69 (by decide) ?_
          exact ihj91 (j91 + 1) 0 H locs ls (by omega) (by omega) (by omega) (hP.sub [0, 1] rfl) (hD.sub [0, 1] (by decide) rfl) hS (lv_sub hl [0, 1, 2, 3, 4, 5, 6] rfl)
        · skip
          have h53 : ¬ x22 = 0 := fun q9 => h53 ((nI_eq (a := x22) (b := 0) (by omega) (by omega)).mpr q9)
          refine lv_aload_n hx hb dX11_rests_20 rfl (lv_at hl 2 rfl) ?_
          refine lv_iload_n hx hb dX11_rests_21 rfl (lv_at hl 3 rfl) ?_
          refine lv_iload hx hb dX11_rests_22 (lv_at hl 0 rfl) ?_
          refine lv_iload hx hb dX11_rests_24 (lv_at hl 6 rfl) ?_
          have hs54 : kw_Split [(mo, .inr (11, [.ref to, .ref ke, .ref ik, .ref mrf, .long mab, .long mbl, .ref ha, .ref r0, .ref mbr, .ref mbp, .ref mby, .int (nI bl), .int (nI ta), .int (nI tl), .int (nI tk), .int vv, .ref an, .ref va])), (to, .inl (y 0, 228, .inl ft))] [(mo, .inr (11, [.ref to, .ref ke, .ref ik, .ref mrf, .long mab, .long mbl, .ref ha, .ref r0, .ref mbr, .ref mbp, .ref mby, .int (nI bl), .int (nI ta), .int (nI tl), .int (nI tk), .int vv, .ref an, .ref va])), (to, .inl (y 0, 228, .inl ft))] [] [0, 1] [] := ⟨rfl, rfl, rfl, rfl, rfl, by decide⟩
          refine kw_go_i hs54 hP hD hS hA (va_runV (As := [.int (nI k), .int (nI j91), .int (nI k4)]) (rest := []) ⟨hx, hb, hml, hown, hts⟩ (gr_hasBy l D y mo to ke ik mrf ha r0 mbr mbp mby an va mab mbl bl ta tl tk vv ft fi gl mi no un k j91 (nI k4) hk0_ hk1_ hk2_ hk3_ hk4_ hkt hfi hgl hmi hno hun hA1 (by omega) _) (cwV 3 hts gX11_rests_X11_hasBy rfl rfl rfl (by decide +kernel) ⟨Nat.le_of_ble_eq_true rfl, Nat.le_of_ble_eq_true rfl⟩) (kw_PreV (ci := 11) (q0 := 0) hs54 hP hD hK hN rfl rfl) rfl rfl hl.1 rfl (lv_room (Nat.le_of_ble_eq_true rfl)) dX11_rests_26 ⟨Nat.le_of_ble_eq_true rfl, Nat.le_of_ble_eq_true rfl⟩) (fun r55 u56 H locs hq hP hD hS => ?_)
          have hP : va_P D vwCl [(mo, .inr (11, [.ref to, .ref ke, .ref ik, .ref mrf, .long mab, .long mbl, .ref ha, .ref r0, .ref mbr, .ref mbp, .ref mby, .int (nI bl), .int (nI ta), .int (nI tl), .int (nI tk), .int vv, .ref an, .ref va])), (to, .inl (y 0, 228, .inl ft))] H := hP
          have hD : va_D A [(mo, .inr (11, [.ref to, .ref ke, .ref ik, .ref mrf, .long mab, .long mbl, .ref ha, .ref r0, .ref mbr, .ref mbp, .ref mby, .int (nI bl), .int (nI ta), .int (nI tl), .int (nI tk), .int vv, .ref an, .ref va])), (to, .inl (y 0, 228, .inl ft))] := hD
          refine lv_aload_n hx hb dX11_rests_29 rfl (lv_at hl 2 rfl) ?_
          refine lv_iload_n hx hb dX11_rests_30 rfl (lv_at hl 3 rfl) ?_
          refine lv_iload_n hx hb dX11_rests_31 rfl (lv_at hl 5 rfl) ?_
          refine lv_iload hx hb dX11_rests_32 (lv_at hl 6 rfl) ?_
          have hs57 : kw_Split [(mo, .inr (11, [.ref to, .ref ke, .ref ik, .ref mrf, .long mab, .long mbl, .ref ha, .ref r0, .ref mbr, .ref mbp, .ref mby, .int (nI bl), .int (nI ta), .int (nI tl), .int (nI tk), .int vv, .ref an, .ref va])), (to, .inl (y 0, 228, .inl ft))] [(mo, .inr (11, [.ref to, .ref ke, .ref ik, .ref mrf, .long mab, .long mbl, .ref ha, .ref r0, .ref mbr, .ref mbp, .ref mby, .int (nI bl), .int (nI ta), .int (nI tl), .int (nI tk), .int vv, .ref an, .ref va])), (to, .inl (y 0, 228, .inl ft))] [] [0, 1] [] := ⟨rfl, rfl, rfl, rfl, rfl, by decide⟩
          refine kw_go_i hs57 hP hD hS hA (va_runV (As := [.int (nI k), .int (nI k3), .int (nI k4)]) (rest := [.int r55]) ⟨hx, hb, hml, hown, hts⟩ (gr_hasBy l D y mo to ke ik mrf ha r0 mbr mbp mby an va mab mbl bl ta tl tk vv ft fi gl mi no un k k3 (nI k4) hk0_ hk1_ hk2_ hk3_ hk4_ hkt hfi hgl hmi hno hun hA1 hA3 _) (cwV 3 hts gX11_rests_X11_hasBy rfl rfl rfl (by decide +kernel) ⟨Nat.le_of_ble_eq_true rfl, Nat.le_of_ble_eq_true rfl⟩) (kw_PreV (ci := 11) (q0 := 0) hs57 hP hD hK hN rfl rfl) rfl rfl hl.1 rfl (lv_room (Nat.le_of_ble_eq_true rfl)) dX11_rests_34 ⟨Nat.le_of_ble_eq_true rfl, Nat.le_of_ble_eq_true rfl⟩) (fun r58 u59 H locs hq hP hD hS => ?_)
          have hP : va_P D vwCl [(mo, .inr (11, [.ref to, .ref ke, .ref ik, .ref mrf, .long mab, .long mbl, .ref ha, .ref r0, .ref mbr, .ref mbp, .ref mby, .int (nI bl), .int (nI ta), .int (nI tl), .int (nI tk), .int vv, .ref an, .ref va])), (to, .inl (y 0, 228, .inl ft))] H := hP
          have hD : va_D A [(mo, .inr (11, [.ref to, .ref ke, .ref ik, .ref mrf, .long mab, .long mbl, .ref ha, .ref r0, .ref mbr, .ref mbp, .ref mby, .int (nI bl), .int (nI ta), .int (nI tl), .int (nI tk), .int vv, .ref an, .ref va])), (to, .inl (y 0, 228, .inl ft))] := hD
          refine lv_icmp_gt (tgt := 63) hx hb dX11_rests_37 (by decide) (fun h60 => ?_) (fun h61 => ?_)
          · skip
            refine lv_iconst (v := 0) hx hb dX11_rests_63 (by decide) ?_
            refine lv_istore (lv' := [(5, .int 0), (6, .int (nI j91)), (0, .ref mo), (1, .int (nI k)), (2, .int (nI k2)), (3, .int (nI k3)), (4, .int (nI k4))]) hx hb dX11_rests_64 hl (by decide) rfl (fun ls hl => ?_)
            refine lv_iinc (v := (nI (j91 + 1))) (lv' := [(6, .int (nI (j91 + 1))), (5, .int 0), (0, .ref mo), (1, .int (nI k)), (2, .int (nI k2)), (3, .int (nI k3)), (4, .int (nI k4))]) hx hb dX11_rests_66 hl (k := 1) rfl (nI_1 j91) (by decide) rfl (fun ls hl => ?_)
            refine lv_goto (tgt := 6) hx hb dX11_rests_69 (by decide) ?_
            exact ihj91 (j91 + 1) 0 H locs ls (by omega) (by omega) (by omega) (hP.sub [0, 1] rfl) (hD.sub [0, 1] (by decide) rfl) hS (lv_sub hl [0, 1, 2, 3, 4, 5, 6] rfl)
          · skip
            refine lv_aload_n hx hb dX11_rests_40 rfl (lv_at hl 2 rfl) ?_
            refine lv_iload_n hx hb dX11_rests_41 rfl (lv_at hl 4 rfl) ?_
            refine lv_iload hx hb dX11_rests_42 (lv_at hl 0 rfl) ?_
            refine lv_iload_n hx hb dX11_rests_44 rfl (lv_at hl 5 rfl) ?_
            have hs62 : kw_Split [(mo, .inr (11, [.ref to, .ref ke, .ref ik, .ref mrf, .long mab, .long mbl, .ref ha, .ref r0, .ref mbr, .ref mbp, .ref mby, .int (nI bl), .int (nI ta), .int (nI tl), .int (nI tk), .int vv, .ref an, .ref va])), (to, .inl (y 0, 228, .inl ft))] [(mo, .inr (11, [.ref to, .ref ke, .ref ik, .ref mrf, .long mab, .long mbl, .ref ha, .ref r0, .ref mbr, .ref mbp, .ref mby, .int (nI bl), .int (nI ta), .int (nI tl), .int (nI tk), .int vv, .ref an, .ref va])), (to, .inl (y 0, 228, .inl ft))] [] [0, 1] [] := ⟨rfl, rfl, rfl, rfl, rfl, by decide⟩
            refine kw_go_i hs62 hP hD hS hA (va_runV (As := [.int (nI k2), .int (nI j91), .int (nI k3)]) (rest := []) ⟨hx, hb, hml, hown, hts⟩ (gr_hasBy l D y mo to ke ik mrf ha r0 mbr mbp mby an va mab mbl bl ta tl tk vv ft fi gl mi no un k2 j91 (nI k3) hk0_ hk1_ hk2_ hk3_ hk4_ hkt hfi hgl hmi hno hun hA2 (by omega) _) (cwV 3 hts gX11_rests_X11_hasBy rfl rfl rfl (by decide +kernel) ⟨Nat.le_of_ble_eq_true rfl, Nat.le_of_ble_eq_true rfl⟩) (kw_PreV (ci := 11) (q0 := 0) hs62 hP hD hK hN rfl rfl) rfl rfl hl.1 rfl (lv_room (Nat.le_of_ble_eq_true rfl)) dX11_rests_45 ⟨Nat.le_of_ble_eq_true rfl, Nat.le_of_ble_eq_true rfl⟩) (fun r63 u64 H locs hq hP hD hS => ?_)
            have hP : va_P D vwCl [(mo, .inr (11, [.ref to, .ref ke, .ref ik, .ref mrf, .long mab, .long mbl, .ref ha, .ref r0, .ref mbr, .ref mbp, .ref mby, .int (nI bl), .int (nI ta), .int (nI tl), .int (nI tk), .int vv, .ref an, .ref va])), (to, .inl (y 0, 228, .inl ft))] H := hP
            have hD : va_D A [(mo, .inr (11, [.ref to, .ref ke, .ref ik, .ref mrf, .long mab, .long mbl, .ref ha, .ref r0, .ref mbr, .ref mbp, .ref mby, .int (nI bl), .int (nI ta), .int (nI tl), .int (nI tk), .int vv, .ref an, .ref va])), (to, .inl (y 0, 228, .inl ft))] := hD
            refine lv_aload_n hx hb dX11_rests_48 rfl (lv_at hl 2 rfl) ?_
            refine lv_iload_n hx hb dX11_rests_49 rfl (lv_at hl 4 rfl) ?_
            refine lv_iload hx hb dX11_rests_50 (lv_at hl 6 rfl) ?_
            refine lv_iload_n hx hb dX11_rests_52 rfl (lv_at hl 5 rfl) ?_
            have hs65 : kw_Split [(mo, .inr (11, [.ref to, .ref ke, .ref ik, .ref mrf, .long mab, .long mbl, .ref ha, .ref r0, .ref mbr, .ref mbp, .ref mby, .int (nI bl), .int (nI ta), .int (nI tl), .int (nI tk), .int vv, .ref an, .ref va])), (to, .inl (y 0, 228, .inl ft))] [(mo, .inr (11, [.ref to, .ref ke, .ref ik, .ref mrf, .long mab, .long mbl, .ref ha, .ref r0, .ref mbr, .ref mbp, .ref mby, .int (nI bl), .int (nI ta), .int (nI tl), .int (nI tk), .int vv, .ref an, .ref va])), (to, .inl (y 0, 228, .inl ft))] [] [0, 1] [] := ⟨rfl, rfl, rfl, rfl, rfl, by decide⟩
            refine kw_go_i hs65 hP hD hS hA (va_runV (As := [.int (nI k2), .int (nI k4), .int (nI k3)]) (rest := [.int r63]) ⟨hx, hb, hml, hown, hts⟩ (gr_hasBy l D y mo to ke ik mrf ha r0 mbr mbp mby an va mab mbl bl ta tl tk vv ft fi gl mi no un k2 k4 (nI k3) hk0_ hk1_ hk2_ hk3_ hk4_ hkt hfi hgl hmi hno hun hA2 hA4 _) (cwV 3 hts gX11_rests_X11_hasBy rfl rfl rfl (by decide +kernel) ⟨Nat.le_of_ble_eq_true rfl, Nat.le_of_ble_eq_true rfl⟩) (kw_PreV (ci := 11) (q0 := 0) hs65 hP hD hK hN rfl rfl) rfl rfl hl.1 rfl (lv_room (Nat.le_of_ble_eq_true rfl)) dX11_rests_53 ⟨Nat.le_of_ble_eq_true rfl, Nat.le_of_ble_eq_true rfl⟩) (fun r66 u67 H locs hq hP hD hS => ?_)
            have hP : va_P D vwCl [(mo, .inr (11, [.ref to, .ref ke, .ref ik, .ref mrf, .long mab, .long mbl, .ref ha, .ref r0, .ref mbr, .ref mbp, .ref mby, .int (nI bl), .int (nI ta), .int (nI tl), .int (nI tk), .int vv, .ref an, .ref va])), (to, .inl (y 0, 228, .inl ft))] H := hP
            have hD : va_D A [(mo, .inr (11, [.ref to, .ref ke, .ref ik, .ref mrf, .long mab, .long mbl, .ref ha, .ref r0, .ref mbr, .ref mbp, .ref mby, .int (nI bl), .int (nI ta), .int (nI tl), .int (nI tk), .int vv, .ref an, .ref va])), (to, .inl (y 0, 228, .inl ft))] := hD
            refine lv_icmp_gt (tgt := 63) hx hb dX11_rests_56 (by decide) (fun h68 => ?_) (fun h69 => ?_)
            · skip
              refine lv_iconst (v := 0) hx hb dX11_rests_63 (by decide) ?_
              refine lv_istore (lv' := [(5, .int 0), (6, .int (nI j91)), (0, .ref mo), (1, .int (nI k)), (2, .int (nI k2)), (3, .int (nI k3)), (4, .int (nI k4))]) hx hb dX11_rests_64 hl (by decide) rfl (fun ls hl => ?_)
              refine lv_iinc (v := (nI (j91 + 1))) (lv' := [(6, .int (nI (j91 + 1))), (5, .int 0), (0, .ref mo), (1, .int (nI k)), (2, .int (nI k2)), (3, .int (nI k3)), (4, .int (nI k4))]) hx hb dX11_rests_66 hl (k := 1) rfl (nI_1 j91) (by decide) rfl (fun ls hl => ?_)
              refine lv_goto (tgt := 6) hx hb dX11_rests_69 (by decide) ?_
              exact ihj91 (j91 + 1) 0 H locs ls (by omega) (by omega) (by omega) (hP.sub [0, 1] rfl) (hD.sub [0, 1] (by decide) rfl) hS (lv_sub hl [0, 1, 2, 3, 4, 5, 6] rfl)
            · skip
              refine lv_iconst (v := 1) hx hb dX11_rests_59 (by decide) ?_
              refine lv_goto (tgt := 64) hx hb dX11_rests_60 (by decide) ?_
              refine lv_istore (lv' := [(5, .int 1), (6, .int (nI j91)), (0, .ref mo), (1, .int (nI k)), (2, .int (nI k2)), (3, .int (nI k3)), (4, .int (nI k4))]) hx hb dX11_rests_64 hl (by decide) rfl (fun ls hl => ?_)
              refine lv_iinc (v := (nI (j91 + 1))) (lv' := [(6, .int (nI (j91 + 1))), (5, .int 1), (0, .ref mo), (1, .int (nI k)), (2, .int (nI k2)), (3, .int (nI k3)), (4, .int (nI k4))]) hx hb dX11_rests_66 hl (k := 1) rfl (nI_1 j91) (by decide) rfl (fun ls hl => ?_)
              refine lv_goto (tgt := 6) hx hb dX11_rests_69 (by decide) ?_
              exact ihj91 (j91 + 1) 1 H locs ls (by omega) (by omega) (by omega) (hP.sub [0, 1] rfl) (hD.sub [0, 1] (by decide) rfl) hS (lv_sub hl [0, 1, 2, 3, 4, 5, 6] rfl)
  exact lp46 (fi + 1) 0 1 _ _ _ (by omega) (by omega) (by omega) hP hD hS (lv_sub hl [0, 1, 2, 3, 4, 5, 6] rfl)

set_option maxHeartbeats 4000000 in
set_option maxRecDepth 100000 in
theorem gq_two (l : Launch) (D : va_G) (y : Nat → ClassId) (mo : Nat) (to : Nat) (ke : Nat) (ik : Nat) (mrf : Nat) (ha : Nat) (r0 : Nat) (mbr : Nat) (mbp : Nat) (mby : Nat) (an : Nat) (va : Nat) (mab : Int64) (mbl : Int64) (bl : Nat) (ta : Nat) (tl : Nat) (tk : Nat) (vv : Int32) (frf : Nat → Int32) (ft : Nat → Int32) (fi : Nat) (gl : Nat) (mi : Nat) (no : Nat) (un : Nat) (x : Int32) (x2 : Int32) (x3 : Int32) (hk0_ : ft 0 = (nI fi)) (hk1_ : ft 1 = (nI gl)) (hk2_ : ft 2 = (nI mi)) (hk3_ : ft 3 = (nI no)) (hk4_ : ft 4 = (nI un)) (hkt : kr_t 228 ft) (hfi : fi ≤ 6) (hgl : gl ≤ 5) (hmi : mi ≤ 4) (hno : no ≤ 6) (hun : un ≤ 8) (hgf : (gl = 0 ∨ 0 < fi)) : kw_Mi l yX11_two wsX11_two ({ frames := 7, cells := 0, slots := 0, locals := 201 }) D y [.ref mo, .int x, .int x2, .int x3] [(mo, .inr (11, [.ref to, .ref ke, .ref ik, .ref mrf, .long mab, .long mbl, .ref ha, .ref r0, .ref mbr, .ref mbp, .ref mby, .int (nI bl), .int (nI ta), .int (nI tl), .int (nI tk), .int vv, .ref an, .ref va])), (mrf, .inl (y 0, 3, .inl frf)), (to, .inl (y 0, 228, .inl ft))] (fun (r : Int32) (u : (Nat → Int32)) => (gl = 0 ∨ 0 < fi)) (fun u => [(mo, .inr (11, [.ref to, .ref ke, .ref ik, .ref mrf, .long mab, .long mbl, .ref ha, .ref r0, .ref mbr, .ref mbp, .ref mby, .int (nI bl), .int (nI ta), .int (nI tl), .int (nI tk), .int vv, .ref an, .ref va])), (mrf, .inl (y 0, 3, .inl u)), (to, .inl (y 0, 228, .inl ft))]) 0 0 := by
  refine kw_Mi.of (cc := cX11_two) (maxL := 8) (ret := (some .int)) (by decide) rfl ?_
  intro pZ eZ s mZ beZ meZ cZ A hE
  obtain ⟨hx, hb, hr, hml, hts, hown, hlocks, hin, hA, hP, hD, hK, hN⟩ := hE
  have hS : va_S A s.heap s.heap [] := va_S.rf
  have hl := lv_entry ([.ref mo, .int x, .int x2, .int x3]) (n := 8) (Nat.le_of_ble_eq_true rfl)
  rw [lg_entry_eq]
  generalize (lg_sl ([.ref mo, .int x, .int x2, .int x3]) ++ List.replicate (8 - (lg_sl ([.ref mo, .int x, .int x2, .int x3])).length) Slot.unset).toArray = ls at hl ⊢
  have hl : lv_has ls 8 [(0, .ref mo), (1, .int x), (2, .int x2), (3, .int x3)] := hl
  refine lv_aload_n hx hb dX11_two_0 rfl (lv_at hl 0 rfl) ?_
  refine lv_iload_n hx hb dX11_two_1 rfl (lv_at hl 1 rfl) ?_
  have hs1 : kw_Split [(mo, .inr (11, [.ref to, .ref ke, .ref ik, .ref mrf, .long mab, .long mbl, .ref ha, .ref r0, .ref mbr, .ref mbp, .ref mby, .int (nI bl), .int (nI ta), .int (nI tl), .int (nI tk), .int vv, .ref an, .ref va])), (mrf, .inl (y 0, 3, .inl frf)), (to, .inl (y 0, 228, .inl ft))] [(mo, .inr (11, [.ref to, .ref ke, .ref ik, .ref mrf, .long mab, .long mbl, .ref ha, .ref r0, .ref mbr, .ref mbp, .ref mby, .int (nI bl), .int (nI ta), .int (nI tl), .int (nI tk), .int vv, .ref an, .ref va])), (to, .inl (y 0, 228, .inl ft))] [(mrf, .inl (y 0, 3, .inl frf))] [0, 2] [1] := ⟨rfl, rfl, rfl, rfl, rfl, by decide⟩
  refine kw_go_i hs1 hP hD hS hA (va_runV (As := [.int x]) (rest := []) ⟨hx, hb, hml, hown, hts⟩ (gr_isGleaner l D y mo to ke ik mrf ha r0 mbr mbp mby an va mab mbl bl ta tl tk vv ft fi gl mi no un x hk0_ hk1_ hk2_ hk3_ hk4_ hkt hfi hgl hmi hno hun _) (cwV 1 hts gX11_two_X11_isGleaner rfl rfl rfl (by decide +kernel) ⟨Nat.le_of_ble_eq_true rfl, Nat.le_of_ble_eq_true rfl⟩) (kw_PreV (ci := 11) (q0 := 0) hs1 hP hD hK hN rfl rfl) rfl rfl hl.1 rfl (lv_room (Nat.le_of_ble_eq_true rfl)) dX11_two_2 ⟨Nat.le_of_ble_eq_true rfl, Nat.le_of_ble_eq_true rfl⟩) (fun r2 u3 H locs hq hP hD hS => ?_)
  rcases hq with ⟨j4, h5, rfl, rfl⟩ | ⟨h6, rfl⟩
  · skip
    have hP : va_P D vwCl [(mrf, .inl (y 0, 3, .inl frf)), (mo, .inr (11, [.ref to, .ref ke, .ref ik, .ref mrf, .long mab, .long mbl, .ref ha, .ref r0, .ref mbr, .ref mbp, .ref mby, .int (nI bl), .int (nI ta), .int (nI tl), .int (nI tk), .int vv, .ref an, .ref va])), (to, .inl (y 0, 228, .inl ft))] H := hP
    have hD : va_D A [(mrf, .inl (y 0, 3, .inl frf)), (mo, .inr (11, [.ref to, .ref ke, .ref ik, .ref mrf, .long mab, .long mbl, .ref ha, .ref r0, .ref mbr, .ref mbp, .ref mby, .int (nI bl), .int (nI ta), .int (nI tl), .int (nI tk), .int vv, .ref an, .ref va])), (to, .inl (y 0, 228, .inl ft))] := hD
    refine lv_if_eq (tgt := 26) hx hb dX11_two_5 (by decide) (fun h9 => absurd h9 (by decide)) (fun _ => ?_)
    refine lv_aload_n hx hb dX11_two_8 rfl (lv_at hl 0 rfl) ?_
    refine lv_iload_n hx hb dX11_two_9 rfl (lv_at hl 2 rfl) ?_
    have hs7 : kw_Split [(mrf, .inl (y 0, 3, .inl frf)), (mo, .inr (11, [.ref to, .ref ke, .ref ik, .ref mrf, .long mab, .long mbl, .ref ha, .ref r0, .ref mbr, .ref mbp, .ref mby, .int (nI bl), .int (nI ta), .int (nI tl), .int (nI tk), .int vv, .ref an, .ref va])), (to, .inl (y 0, 228, .inl ft))] [(mo, .inr (11, [.ref to, .ref ke, .ref ik, .ref mrf, .long mab, .long mbl, .ref ha, .ref r0, .ref mbr, .ref mbp, .ref mby, .int (nI bl), .int (nI ta), .int (nI tl), .int (nI tk), .int vv, .ref an, .ref va])), (to, .inl (y 0, 228, .inl ft))] [(mrf, .inl (y 0, 3, .inl frf))] [1, 2] [0] := ⟨rfl, rfl, rfl, rfl, rfl, by decide⟩
    refine kw_go_i hs7 hP hD hS hA (va_runV (As := [.int x2]) (rest := []) ⟨hx, hb, hml, hown, hts⟩ (gr_isGleaner l D y mo to ke ik mrf ha r0 mbr mbp mby an va mab mbl bl ta tl tk vv ft fi gl mi no un x2 hk0_ hk1_ hk2_ hk3_ hk4_ hkt hfi hgl hmi hno hun _) (cwV 1 hts gX11_two_X11_isGleaner rfl rfl rfl (by decide +kernel) ⟨Nat.le_of_ble_eq_true rfl, Nat.le_of_ble_eq_true rfl⟩) (kw_PreV (ci := 11) (q0 := 1) hs7 hP hD hK hN rfl rfl) rfl rfl hl.1 rfl (lv_room (Nat.le_of_ble_eq_true rfl)) dX11_two_10 ⟨Nat.le_of_ble_eq_true rfl, Nat.le_of_ble_eq_true rfl⟩) (fun r8 u9 H locs hq hP hD hS => ?_)
    rcases hq with ⟨j10, h11, rfl, rfl⟩ | ⟨h12, rfl⟩
    · skip
      have hP : va_P D vwCl [(mrf, .inl (y 0, 3, .inl frf)), (mo, .inr (11, [.ref to, .ref ke, .ref ik, .ref mrf, .long mab, .long mbl, .ref ha, .ref r0, .ref mbr, .ref mbp, .ref mby, .int (nI bl), .int (nI ta), .int (nI tl), .int (nI tk), .int vv, .ref an, .ref va])), (to, .inl (y 0, 228, .inl ft))] H := hP
      have hD : va_D A [(mrf, .inl (y 0, 3, .inl frf)), (mo, .inr (11, [.ref to, .ref ke, .ref ik, .ref mrf, .long mab, .long mbl, .ref ha, .ref r0, .ref mbr, .ref mbp, .ref mby, .int (nI bl), .int (nI ta), .int (nI tl), .int (nI tk), .int vv, .ref an, .ref va])), (to, .inl (y 0, 228, .inl ft))] := hD
      refine lv_if_eq (tgt := 26) hx hb dX11_two_13 (by decide) (fun h9 => absurd h9 (by decide)) (fun _ => ?_)
      refine lv_iload_n hx hb dX11_two_16 rfl (lv_at hl 1 rfl) ?_
      refine lv_iload_n hx hb dX11_two_17 rfl (lv_at hl 2 rfl) ?_
      refine lv_icmp_eq (tgt := 26) hx hb dX11_two_18 (by decide) (fun h13 => ?_) (fun h14 => ?_)
      · skip
        have h13 : j4 = j10 := (nI_eq (a := j4) (b := j10) (by omega) (by omega)).mp h13
        refine lv_aload_n hx hb dX11_two_26 rfl (lv_at hl 0 rfl) ?_
        refine lv_bipush (v := (-10)) hx hb dX11_two_27 (by decide) ?_
        have hs15 : kw_Split [(mrf, .inl (y 0, 3, .inl frf)), (mo, .inr (11, [.ref to, .ref ke, .ref ik, .ref mrf, .long mab, .long mbl, .ref ha, .ref r0, .ref mbr, .ref mbp, .ref mby, .int (nI bl), .int (nI ta), .int (nI tl), .int (nI tk), .int vv, .ref an, .ref va])), (to, .inl (y 0, 228, .inl ft))] [(mo, .inr (11, [.ref to, .ref ke, .ref ik, .ref mrf, .long mab, .long mbl, .ref ha, .ref r0, .ref mbr, .ref mbp, .ref mby, .int (nI bl), .int (nI ta), .int (nI tl), .int (nI tk), .int vv, .ref an, .ref va])), (mrf, .inl (y 0, 3, .inl frf))] [(to, .inl (y 0, 228, .inl ft))] [1, 0] [2] := ⟨rfl, rfl, rfl, rfl, rfl, by decide⟩
        refine kw_go_i hs15 hP hD hS hA (va_runV (As := [.int (-10)]) (rest := []) ⟨hx, hb, hml, hown, hts⟩ (gr_bad l D y mo to ke ik mrf ha r0 mbr mbp mby an va mab mbl bl ta tl tk vv frf (-10)  _) (cwV 1 hts gX11_two_X11_bad rfl rfl rfl (by decide +kernel) ⟨Nat.le_of_ble_eq_true rfl, Nat.le_of_ble_eq_true rfl⟩) (kw_PreV (ci := 11) (q0 := 1) hs15 hP hD hK hN rfl rfl) rfl rfl hl.1 rfl (lv_room (Nat.le_of_ble_eq_true rfl)) dX11_two_29 ⟨Nat.le_of_ble_eq_true rfl, Nat.le_of_ble_eq_true rfl⟩) (fun r16 u17 H locs hq hP hD hS => ?_)
        obtain rfl := hq
        have hP : va_P D vwCl [(to, .inl (y 0, 228, .inl ft)), (mo, .inr (11, [.ref to, .ref ke, .ref ik, .ref mrf, .long mab, .long mbl, .ref ha, .ref r0, .ref mbr, .ref mbp, .ref mby, .int (nI bl), .int (nI ta), .int (nI tl), .int (nI tk), .int vv, .ref an, .ref va])), (mrf, .inl (y 0, 3, .inl (upd frf 0 ((frf 0) + 1))))] H := hP
        have hD : va_D A [(to, .inl (y 0, 228, .inl ft)), (mo, .inr (11, [.ref to, .ref ke, .ref ik, .ref mrf, .long mab, .long mbl, .ref ha, .ref r0, .ref mbr, .ref mbp, .ref mby, .int (nI bl), .int (nI ta), .int (nI tl), .int (nI tk), .int vv, .ref an, .ref va])), (mrf, .inl (y 0, 3, .inl (upd frf 0 ((frf 0) + 1))))] := hD
        exact W.iret (v := (-10)) hx hb hr (fun tZ ht hW => ⟨⟨(-10), ((upd frf 0 ((frf 0) + 1))), rfl, by first | omega | (dsimp only; omega), by rw [ht]; exact hP.sub [1, 2, 0] rfl, hD.sub [1, 2, 0] (by decide) rfl⟩, hS.F ht⟩) hS.2.2 dX11_two_32
      · skip
        have h14 : ¬ j4 = j10 := fun q9 => h14 ((nI_eq (a := j4) (b := j10) (by omega) (by omega)).mpr q9)
        refine lv_iload_n hx hb dX11_two_21 rfl (lv_at hl 3 rfl) ?_
        refine lv_iconst (v := (-1)) hx hb dX11_two_22 (by decide) ?_
        refine lv_icmp_ge (tgt := 33) hx hb dX11_two_23 (by decide) (fun h18 => ?_) (fun h19 => ?_)
        · skip
          refine lv_iconst (v := 0) hx hb dX11_two_33 (by decide) ?_
          refine lv_istore (lv' := [(4, .int 0), (0, .ref mo), (1, .int (nI j4)), (2, .int (nI j10)), (3, .int x3)]) hx hb dX11_two_34 hl (by decide) rfl (fun ls hl => ?_)
          refine lv_bipush (v := (-5)) hx hb dX11_two_36 (by decide) ?_
          refine lv_istore (lv' := [(5, .int (-5)), (4, .int 0), (0, .ref mo), (1, .int (nI j4)), (2, .int (nI j10)), (3, .int x3)]) hx hb dX11_two_38 hl (by decide) rfl (fun ls hl => ?_)
          refine lv_iconst (v := 0) hx hb dX11_two_40 (by decide) ?_
          refine lv_istore (lv' := [(6, .int 0), (5, .int (-5)), (4, .int 0), (0, .ref mo), (1, .int (nI j4)), (2, .int (nI j10)), (3, .int x3)]) hx hb dX11_two_41 hl (by decide) rfl (fun ls hl => ?_)
          have lp102 : ∀ (fuj91 j91 : Nat) (x60 : Int32) (x61 : Int32) (H : Heap) (locs : List Loc) (ls : Array Slot), j91 ≤ fi → fi - j91 < fuj91 → va_P D vwCl [(mrf, .inl (y 0, 3, .inl frf)), (mo, .inr (11, [.ref to, .ref ke, .ref ik, .ref mrf, .long mab, .long mbl, .ref ha, .ref r0, .ref mbr, .ref mbp, .ref mby, .int (nI bl), .int (nI ta), .int (nI tl), .int (nI tk), .int vv, .ref an, .ref va])), (to, .inl (y 0, 228, .inl ft))] H → va_D A [(mrf, .inl (y 0, 3, .inl frf)), (mo, .inr (11, [.ref to, .ref ke, .ref ik, .ref mrf, .long mab, .long mbl, .ref ha, .ref r0, .ref mbr, .ref mbp, .ref mby, .int (nI bl), .int (nI ta), .int (nI tl), .int (nI tk), .int vv, .ref an, .ref va])), (to, .inl (y 0, 228, .inl ft))] → va_S A s.heap H locs → lv_has ls 8 [(6, .int (nI j91)), (5, .int x60), (4, .int x61), (0, .ref mo), (1, .int (nI j4)), (2, .int (nI j10)), (3, .int x3)] → W pZ l eZ ({ frames := 7, cells := 0, slots := 0, locals := 201 }) s mZ [.ref mo, .int (nI j4), .int (nI j10), .int x3].toArray beZ meZ cZ H locs 0 0 (MQ beZ (va_Qi (fun (r : Int32) (u : (Nat → Int32)) => (gl = 0 ∨ 0 < fi)) (kw_B D (fun u => [(mo, .inr (11, [.ref to, .ref ke, .ref ik, .ref mrf, .long mab, .long mbl, .ref ha, .ref r0, .ref mbr, .ref mbp, .ref mby, .int (nI bl), .int (nI ta), .int (nI tl), .int (nI tk), .int vv, .ref an, .ref va])), (mrf, .inl (y 0, 3, .inl u)), (to, .inl (y 0, 228, .inl ft))]) A) A) [.ref mo, .int (nI j4), .int (nI j10), .int x3].toArray s 0 0 A) (F0 mZ 43 ls []) := by
            intro fuj91
            induction fuj91 with
            | zero => intro j91 x60 x61 H locs ls hj9 hf9; exact absurd hf9 (Nat.not_lt_zero _)
            | succ fuj91 ihj91 =>
              intro j91 x60 x61 H locs ls hj91 hfj91  hP hD hS hl
              refine lv_iload hx hb dX11_two_43 (lv_at hl 0 rfl) ?_
              refine lv_aload_n hx hb dX11_two_45 rfl (lv_at hl 3 rfl) ?_
              have hs103 : kw_Split [(mrf, .inl (y 0, 3, .inl frf)), (mo, .inr (11, [.ref to, .ref ke, .ref ik, .ref mrf, .long mab, .long mbl, .ref ha, .ref r0, .ref mbr, .ref mbp, .ref mby, .int (nI bl), .int (nI ta), .int (nI tl), .int (nI tk), .int vv, .ref an, .ref va])), (to, .inl (y 0, 228, .inl ft))] [(mo, .inr (11, [.ref to, .ref ke, .ref ik, .ref mrf, .long mab, .long mbl, .ref ha, .ref r0, .ref mbr, .ref mbp, .ref mby, .int (nI bl), .int (nI ta), .int (nI tl), .int (nI tk), .int vv, .ref an, .ref va])), (to, .inl (y 0, 228, .inl ft))] [(mrf, .inl (y 0, 3, .inl frf))] [1, 2] [0] := ⟨rfl, rfl, rfl, rfl, rfl, by decide⟩
              refine kw_go_i hs103 hP hD hS hA (va_runV (As := []) (rest := [.int (nI j91)]) ⟨hx, hb, hml, hown, hts⟩ (gr_many l D y mo to ke ik mrf ha r0 mbr mbp mby an va mab mbl bl ta tl tk vv ft fi gl mi no un hk0_ hk1_ hk2_ hk3_ hk4_ hkt hfi hgl hmi hno hun _) (cwV 0 hts gX11_two_X11_many rfl rfl rfl (by decide +kernel) ⟨Nat.le_of_ble_eq_true rfl, Nat.le_of_ble_eq_true rfl⟩) (kw_PreV (ci := 11) (q0 := 1) hs103 hP hD hK hN rfl rfl) rfl rfl hl.1 rfl (lv_room (Nat.le_of_ble_eq_true rfl)) dX11_two_46 ⟨Nat.le_of_ble_eq_true rfl, Nat.le_of_ble_eq_true rfl⟩) (fun r104 u105 H locs hq hP hD hS => ?_)
              obtain rfl := hq
              have hP : va_P D vwCl [(mrf, .inl (y 0, 3, .inl frf)), (mo, .inr (11, [.ref to, .ref ke, .ref ik, .ref mrf, .long mab, .long mbl, .ref ha, .ref r0, .ref mbr, .ref mbp, .ref mby, .int (nI bl), .int (nI ta), .int (nI tl), .int (nI tk), .int vv, .ref an, .ref va])), (to, .inl (y 0, 228, .inl ft))] H := hP
              have hD : va_D A [(mrf, .inl (y 0, 3, .inl frf)), (mo, .inr (11, [.ref to, .ref ke, .ref ik, .ref mrf, .long mab, .long mbl, .ref ha, .ref r0, .ref mbr, .ref mbp, .ref mby, .int (nI bl), .int (nI ta), .int (nI tl), .int (nI tk), .int vv, .ref an, .ref va])), (to, .inl (y 0, 228, .inl ft))] := hD
              refine lv_icmp_ge (tgt := 113) hx hb dX11_two_49 (by decide) (fun h106 => ?_) (fun h107 => ?_)
              · skip
                have h106 : fi ≤ j91 := (nI_leI (a := fi) (b := j91) (by omega) (by omega)).mp h106
                refine lv_iload_n hx hb dX11_two_113 rfl (lv_at hl 6 rfl) ?_
                refine lv_iconst (v := (-1)) hx hb dX11_two_114 (by decide) ?_
                refine lv_icmp_ne (tgt := 123) hx hb dX11_two_115 (by decide) (fun h108 => ?_) (fun h109 => ?_)
                · skip
                  refine lv_iload hx hb dX11_two_123 (lv_at hl 1 rfl) ?_
                  exact W.iret (v := x60) hx hb hr (fun tZ ht hW => ⟨⟨x60, (frf), rfl, by first | omega | (dsimp only; omega), by rw [ht]; exact hP.sub [1, 0, 2] rfl, hD.sub [1, 0, 2] (by decide) rfl⟩, hS.F ht⟩) hS.2.2 dX11_two_125
                · skip
                  refine lv_iload hx hb dX11_two_118 (lv_at hl 2 rfl) ?_
                  refine lv_goto (tgt := 125) hx hb dX11_two_120 (by decide) ?_
                  exact W.iret (v := x61) hx hb hr (fun tZ ht hW => ⟨⟨x61, (frf), rfl, by first | omega | (dsimp only; omega), by rw [ht]; exact hP.sub [1, 0, 2] rfl, hD.sub [1, 0, 2] (by decide) rfl⟩, hS.F ht⟩) hS.2.2 dX11_two_125
              · skip
                have h107 : ¬ fi ≤ j91 := fun q9 => h107 ((nI_leI (a := fi) (b := j91) (by omega) (by omega)).mpr q9)
                refine lv_iconst (v := 0) hx hb dX11_two_52 (by decide) ?_
                refine lv_istore (lv' := [(7, .int 0), (6, .int (nI j91)), (5, .int x60), (4, .int x61), (0, .ref mo), (1, .int (nI j4)), (2, .int (nI j10)), (3, .int x3)]) hx hb dX11_two_53 hl (by decide) rfl (fun ls hl => ?_)
                have lp132 : ∀ (fuj92 j92 : Nat) (x120 : Int32) (x121 : Int32) (H : Heap) (locs : List Loc) (ls : Array Slot), j92 ≤ fi → fi - j92 < fuj92 → va_P D vwCl [(mrf, .inl (y 0, 3, .inl frf)), (mo, .inr (11, [.ref to, .ref ke, .ref ik, .ref mrf, .long mab, .long mbl, .ref ha, .ref r0, .ref mbr, .ref mbp, .ref mby, .int (nI bl), .int (nI ta), .int (nI tl), .int (nI tk), .int vv, .ref an, .ref va])), (to, .inl (y 0, 228, .inl ft))] H → va_D A [(mrf, .inl (y 0, 3, .inl frf)), (mo, .inr (11, [.ref to, .ref ke, .ref ik, .ref mrf, .long mab, .long mbl, .ref ha, .ref r0, .ref mbr, .ref mbp, .ref mby, .int (nI bl), .int (nI ta), .int (nI tl), .int (nI tk), .int vv, .ref an, .ref va])), (to, .inl (y 0, 228, .inl ft))] → va_S A s.heap H locs → lv_has ls 8 [(7, .int (nI j92)), (6, .int (nI j91)), (5, .int x121), (4, .int x120), (0, .ref mo), (1, .int (nI j4)), (2, .int (nI j10)), (3, .int x3)] → W pZ l eZ ({ frames := 7, cells := 0, slots := 0, locals := 201 }) s mZ [.ref mo, .int (nI j4), .int (nI j10), .int x3].toArray beZ meZ cZ H locs 0 0 (MQ beZ (va_Qi (fun (r : Int32) (u : (Nat → Int32)) => (gl = 0 ∨ 0 < fi)) (kw_B D (fun u => [(mo, .inr (11, [.ref to, .ref ke, .ref ik, .ref mrf, .long mab, .long mbl, .ref ha, .ref r0, .ref mbr, .ref mbp, .ref mby, .int (nI bl), .int (nI ta), .int (nI tl), .int (nI tk), .int vv, .ref an, .ref va])), (mrf, .inl (y 0, 3, .inl u)), (to, .inl (y 0, 228, .inl ft))]) A) A) [.ref mo, .int (nI j4), .int (nI j10), .int x3].toArray s 0 0 A) (F0 mZ 55 ls []) := by
                  intro fuj92
                  induction fuj92 with
                  | zero => intro j92 x120 x121 H locs ls hj9 hf9; exact absurd hf9 (Nat.not_lt_zero _)
                  | succ fuj92 ihj92 =>
                    intro j92 x120 x121 H locs ls hj92 hfj92  hP hD hS hl
                    refine lv_iload hx hb dX11_two_55 (lv_at hl 0 rfl) ?_
                    refine lv_aload_n hx hb dX11_two_57 rfl (lv_at hl 4 rfl) ?_
                    have hs133 : kw_Split [(mrf, .inl (y 0, 3, .inl frf)), (mo, .inr (11, [.ref to, .ref ke, .ref ik, .ref mrf, .long mab, .long mbl, .ref ha, .ref r0, .ref mbr, .ref mbp, .ref mby, .int (nI bl), .int (nI ta), .int (nI tl), .int (nI tk), .int vv, .ref an, .ref va])), (to, .inl (y 0, 228, .inl ft))] [(mo, .inr (11, [.ref to, .ref ke, .ref ik, .ref mrf, .long mab, .long mbl, .ref ha, .ref r0, .ref mbr, .ref mbp, .ref mby, .int (nI bl), .int (nI ta), .int (nI tl), .int (nI tk), .int vv, .ref an, .ref va])), (to, .inl (y 0, 228, .inl ft))] [(mrf, .inl (y 0, 3, .inl frf))] [1, 2] [0] := ⟨rfl, rfl, rfl, rfl, rfl, by decide⟩
                    refine kw_go_i hs133 hP hD hS hA (va_runV (As := []) (rest := [.int (nI j92)]) ⟨hx, hb, hml, hown, hts⟩ (gr_many l D y mo to ke ik mrf ha r0 mbr mbp mby an va mab mbl bl ta tl tk vv ft fi gl mi no un hk0_ hk1_ hk2_ hk3_ hk4_ hkt hfi hgl hmi hno hun _) (cwV 0 hts gX11_two_X11_many rfl rfl rfl (by decide +kernel) ⟨Nat.le_of_ble_eq_true rfl, Nat.le_of_ble_eq_true rfl⟩) (kw_PreV (ci := 11) (q0 := 1) hs133 hP hD hK hN rfl rfl) rfl rfl hl.1 rfl (lv_room (Nat.le_of_ble_eq_true rfl)) dX11_two_58 ⟨Nat.le_of_ble_eq_true rfl, Nat.le_of_ble_eq_true rfl⟩) (fun r134 u135 H locs hq hP hD hS => ?_)
                    obtain rfl := hq
                    have hP : va_P D vwCl [(mrf, .inl (y 0, 3, .inl frf)), (mo, .inr (11, [.ref to, .ref ke, .ref ik, .ref mrf, .long mab, .long mbl, .ref ha, .ref r0, .ref mbr, .ref mbp, .ref mby, .int (nI bl), .int (nI ta), .int (nI tl), .int (nI tk), .int vv, .ref an, .ref va])), (to, .inl (y 0, 228, .inl ft))] H := hP
                    have hD : va_D A [(mrf, .inl (y 0, 3, .inl frf)), (mo, .inr (11, [.ref to, .ref ke, .ref ik, .ref mrf, .long mab, .long mbl, .ref ha, .ref r0, .ref mbr, .ref mbp, .ref mby, .int (nI bl), .int (nI ta), .int (nI tl), .int (nI tk), .int vv, .ref an, .ref va])), (to, .inl (y 0, 228, .inl ft))] := hD
                    refine lv_icmp_ge (tgt := 107) hx hb dX11_two_61 (by decide) (fun h136 => ?_) (fun h137 => ?_)
                    · skip
                      have h136 : fi ≤ j92 := (nI_leI (a := fi) (b := j92) (by omega) (by omega)).mp h136
                      refine lv_iinc (v := (nI (j91 + 1))) (lv' := [(6, .int (nI (j91 + 1))), (7, .int (nI j92)), (5, .int x121), (4, .int x120), (0, .ref mo), (1, .int (nI j4)), (2, .int (nI j10)), (3, .int x3)]) hx hb dX11_two_107 hl (k := 1) rfl (nI_1 j91) (by decide) rfl (fun ls hl => ?_)
                      refine lv_goto (tgt := 43) hx hb dX11_two_110 (by decide) ?_
                      exact ihj91 (j91 + 1) x121 x120 H locs ls (by omega) (by omega)  (hP.sub [0, 1, 2] rfl) (hD.sub [0, 1, 2] (by decide) rfl) hS (lv_sub hl [0, 2, 3, 4, 5, 6, 7] rfl)
                    · skip
                      have h137 : ¬ fi ≤ j92 := fun q9 => h137 ((nI_leI (a := fi) (b := j92) (by omega) (by omega)).mpr q9)
                      refine lv_aload_n hx hb dX11_two_64 rfl (lv_at hl 4 rfl) ?_
                      refine lv_iload_n hx hb dX11_two_65 rfl (lv_at hl 5 rfl) ?_
                      refine lv_iload_n hx hb dX11_two_66 rfl (lv_at hl 6 rfl) ?_
                      refine lv_iload hx hb dX11_two_67 (lv_at hl 1 rfl) ?_
                      refine lv_iload hx hb dX11_two_69 (lv_at hl 0 rfl) ?_
                      have hs138 : kw_Split [(mrf, .inl (y 0, 3, .inl frf)), (mo, .inr (11, [.ref to, .ref ke, .ref ik, .ref mrf, .long mab, .long mbl, .ref ha, .ref r0, .ref mbr, .ref mbp, .ref mby, .int (nI bl), .int (nI ta), .int (nI tl), .int (nI tk), .int vv, .ref an, .ref va])), (to, .inl (y 0, 228, .inl ft))] [(mo, .inr (11, [.ref to, .ref ke, .ref ik, .ref mrf, .long mab, .long mbl, .ref ha, .ref r0, .ref mbr, .ref mbp, .ref mby, .int (nI bl), .int (nI ta), .int (nI tl), .int (nI tk), .int vv, .ref an, .ref va])), (to, .inl (y 0, 228, .inl ft))] [(mrf, .inl (y 0, 3, .inl frf))] [1, 2] [0] := ⟨rfl, rfl, rfl, rfl, rfl, by decide⟩
                      refine kw_go_i hs138 hP hD hS hA (va_runV (As := [.int (nI j4), .int (nI j10), .int (nI j91), .int (nI j92)]) (rest := []) ⟨hx, hb, hml, hown, hts⟩ (gr_rests l D y mo to ke ik mrf ha r0 mbr mbp mby an va mab mbl bl ta tl tk vv ft fi gl mi no un j4 j10 j91 j92 hk0_ hk1_ hk2_ hk3_ hk4_ hkt hfi hgl hmi hno hun h5 h11 (by omega) (by omega) _) (cwV 4 hts gX11_two_X11_rests rfl rfl rfl (by decide +kernel) ⟨Nat.le_of_ble_eq_true rfl, Nat.le_of_ble_eq_true rfl⟩) (kw_PreV (ci := 11) (q0 := 1) hs138 hP hD hK hN rfl rfl) rfl rfl hl.1 rfl (lv_room (Nat.le_of_ble_eq_true rfl)) dX11_two_71 ⟨Nat.le_of_ble_eq_true rfl, Nat.le_of_ble_eq_true rfl⟩) (fun r139 u140 H locs hq hP hD hS => ?_)
                      obtain (rfl | rfl) := hq
                      · skip
                        have hP : va_P D vwCl [(mrf, .inl (y 0, 3, .inl frf)), (mo, .inr (11, [.ref to, .ref ke, .ref ik, .ref mrf, .long mab, .long mbl, .ref ha, .ref r0, .ref mbr, .ref mbp, .ref mby, .int (nI bl), .int (nI ta), .int (nI tl), .int (nI tk), .int vv, .ref an, .ref va])), (to, .inl (y 0, 228, .inl ft))] H := hP
                        have hD : va_D A [(mrf, .inl (y 0, 3, .inl frf)), (mo, .inr (11, [.ref to, .ref ke, .ref ik, .ref mrf, .long mab, .long mbl, .ref ha, .ref r0, .ref mbr, .ref mbp, .ref mby, .int (nI bl), .int (nI ta), .int (nI tl), .int (nI tk), .int vv, .ref an, .ref va])), (to, .inl (y 0, 228, .inl ft))] := hD
                        refine lv_if_eq (tgt := 101) hx hb dX11_two_74 (by decide) (fun _ => ?_) (fun h9 => absurd h9 (by decide))
                        refine lv_iinc (v := (nI (j92 + 1))) (lv' := [(7, .int (nI (j92 + 1))), (6, .int (nI j91)), (5, .int x121), (4, .int x120), (0, .ref mo), (1, .int (nI j4)), (2, .int (nI j10)), (3, .int x3)]) hx hb dX11_two_101 hl (k := 0) rfl (nI_1 j92) (by decide) rfl (fun ls hl => ?_)
                        refine lv_goto (tgt := 55) hx hb dX11_two_104 (by decide) ?_
                        exact ihj92 (j92 + 1) x120 x121 H locs ls (by omega) (by omega)  (hP.sub [0, 1, 2] rfl) (hD.sub [0, 1, 2] (by decide) rfl) hS (lv_sub hl [0, 1, 2, 3, 4, 5, 6, 7] rfl)
                      · skip
                        have hP : va_P D vwCl [(mrf, .inl (y 0, 3, .inl frf)), (mo, .inr (11, [.ref to, .ref ke, .ref ik, .ref mrf, .long mab, .long mbl, .ref ha, .ref r0, .ref mbr, .ref mbp, .ref mby, .int (nI bl), .int (nI ta), .int (nI tl), .int (nI tk), .int vv, .ref an, .ref va])), (to, .inl (y 0, 228, .inl ft))] H := hP
                        have hD : va_D A [(mrf, .inl (y 0, 3, .inl frf)), (mo, .inr (11, [.ref to, .ref ke, .ref ik, .ref mrf, .long mab, .long mbl, .ref ha, .ref r0, .ref mbr, .ref mbp, .ref mby, .int (nI bl), .int (nI ta), .int (nI tl), .int (nI tk), .int vv, .ref an, .ref va])), (to, .inl (y 0, 228, .inl ft))] := hD
                        refine lv_if_eq (tgt := 101) hx hb dX11_two_74 (by decide) (fun h9 => absurd h9 (by decide)) (fun _ => ?_)
                        refine lv_iload hx hb dX11_two_77 (lv_at hl 3 rfl) ?_
                        refine lv_iload_n hx hb dX11_two_79 rfl (lv_at hl 7 rfl) ?_
                        refine lv_icmp_ne (tgt := 94) hx hb dX11_two_80 (by decide) (fun h141 => ?_) (fun h142 => ?_)
                        · skip
                          refine lv_iload hx hb dX11_two_94 (lv_at hl 2 rfl) ?_
                          refine lv_istore (lv' := [(5, .int x121), (7, .int (nI j92)), (6, .int (nI j91)), (4, .int x120), (0, .ref mo), (1, .int (nI j4)), (2, .int (nI j10)), (3, .int x3)]) hx hb dX11_two_96 hl (by decide) rfl (fun ls hl => ?_)
                          refine lv_iinc (v := (x120 + 1)) (lv' := [(4, .int (x120 + 1)), (5, .int x121), (7, .int (nI j92)), (6, .int (nI j91)), (0, .ref mo), (1, .int (nI j4)), (2, .int (nI j10)), (3, .int x3)]) hx hb dX11_two_98 hl (k := 3) rfl (rfl) (by decide) rfl (fun ls hl => ?_)
                          refine lv_iinc (v := (nI (j92 + 1))) (lv' := [(7, .int (nI (j92 + 1))), (4, .int (x120 + 1)), (5, .int x121), (6, .int (nI j91)), (0, .ref mo), (1, .int (nI j4)), (2, .int (nI j10)), (3, .int x3)]) hx hb dX11_two_101 hl (k := 2) rfl (nI_1 j92) (by decide) rfl (fun ls hl => ?_)
                          refine lv_goto (tgt := 55) hx hb dX11_two_104 (by decide) ?_
                          exact ihj92 (j92 + 1) (x120 + 1) x121 H locs ls (by omega) (by omega)  (hP.sub [0, 1, 2] rfl) (hD.sub [0, 1, 2] (by decide) rfl) hS (lv_sub hl [0, 3, 2, 1, 4, 5, 6, 7] rfl)
                        · skip
                          refine lv_bipush (v := 6) hx hb dX11_two_83 (by decide) ?_
                          refine lv_iload hx hb dX11_two_85 (lv_at hl 1 rfl) ?_
                          refine lv_imul hx hb dX11_two_87 ?_
                          rw [show 6 * (nI j91) = nI (6 * j91) from pk_mul 6 j91]
                          refine lv_iload hx hb dX11_two_88 (lv_at hl 0 rfl) ?_
                          refine lv_iadd hx hb dX11_two_90 ?_
                          rw [show (nI (6 * j91)) + (nI j92) = nI ((6 * j91) + j92) from nI_add (6 * j91) j92]
                          refine lv_goto (tgt := 96) hx hb dX11_two_91 (by decide) ?_
                          refine lv_istore (lv' := [(5, .int (nI ((6 * j91) + j92))), (7, .int (nI j92)), (6, .int (nI j91)), (4, .int x120), (0, .ref mo), (1, .int (nI j4)), (2, .int (nI j10)), (3, .int x3)]) hx hb dX11_two_96 hl (by decide) rfl (fun ls hl => ?_)
                          refine lv_iinc (v := (x120 + 1)) (lv' := [(4, .int (x120 + 1)), (5, .int (nI ((6 * j91) + j92))), (7, .int (nI j92)), (6, .int (nI j91)), (0, .ref mo), (1, .int (nI j4)), (2, .int (nI j10)), (3, .int x3)]) hx hb dX11_two_98 hl (k := 3) rfl (rfl) (by decide) rfl (fun ls hl => ?_)
                          refine lv_iinc (v := (nI (j92 + 1))) (lv' := [(7, .int (nI (j92 + 1))), (4, .int (x120 + 1)), (5, .int (nI ((6 * j91) + j92))), (6, .int (nI j91)), (0, .ref mo), (1, .int (nI j4)), (2, .int (nI j10)), (3, .int x3)]) hx hb dX11_two_101 hl (k := 2) rfl (nI_1 j92) (by decide) rfl (fun ls hl => ?_)
                          refine lv_goto (tgt := 55) hx hb dX11_two_104 (by decide) ?_
                          exact ihj92 (j92 + 1) (x120 + 1) (nI ((6 * j91) + j92)) H locs ls (by omega) (by omega)  (hP.sub [0, 1, 2] rfl) (hD.sub [0, 1, 2] (by decide) rfl) hS (lv_sub hl [0, 3, 2, 1, 4, 5, 6, 7] rfl)
                exact lp132 (fi + 1) 0 x61 x60 _ _ _ (by omega) (by omega)  hP hD hS (lv_sub hl [0, 1, 2, 3, 4, 5, 6, 7] rfl)
          exact lp102 (fi + 1) 0 (-5) 0 _ _ _ (by omega) (by omega)  hP hD hS (lv_sub hl [0, 1, 2, 3, 4, 5, 6] rfl)
        · skip
          refine lv_aload_n hx hb dX11_two_26 rfl (lv_at hl 0 rfl) ?_
          refine lv_bipush (v := (-10)) hx hb dX11_two_27 (by decide) ?_
          have hs143 : kw_Split [(mrf, .inl (y 0, 3, .inl frf)), (mo, .inr (11, [.ref to, .ref ke, .ref ik, .ref mrf, .long mab, .long mbl, .ref ha, .ref r0, .ref mbr, .ref mbp, .ref mby, .int (nI bl), .int (nI ta), .int (nI tl), .int (nI tk), .int vv, .ref an, .ref va])), (to, .inl (y 0, 228, .inl ft))] [(mo, .inr (11, [.ref to, .ref ke, .ref ik, .ref mrf, .long mab, .long mbl, .ref ha, .ref r0, .ref mbr, .ref mbp, .ref mby, .int (nI bl), .int (nI ta), .int (nI tl), .int (nI tk), .int vv, .ref an, .ref va])), (mrf, .inl (y 0, 3, .inl frf))] [(to, .inl (y 0, 228, .inl ft))] [1, 0] [2] := ⟨rfl, rfl, rfl, rfl, rfl, by decide⟩
          refine kw_go_i hs143 hP hD hS hA (va_runV (As := [.int (-10)]) (rest := []) ⟨hx, hb, hml, hown, hts⟩ (gr_bad l D y mo to ke ik mrf ha r0 mbr mbp mby an va mab mbl bl ta tl tk vv frf (-10)  _) (cwV 1 hts gX11_two_X11_bad rfl rfl rfl (by decide +kernel) ⟨Nat.le_of_ble_eq_true rfl, Nat.le_of_ble_eq_true rfl⟩) (kw_PreV (ci := 11) (q0 := 1) hs143 hP hD hK hN rfl rfl) rfl rfl hl.1 rfl (lv_room (Nat.le_of_ble_eq_true rfl)) dX11_two_29 ⟨Nat.le_of_ble_eq_true rfl, Nat.le_of_ble_eq_true rfl⟩) (fun r144 u145 H locs hq hP hD hS => ?_)
          obtain rfl := hq
          have hP : va_P D vwCl [(to, .inl (y 0, 228, .inl ft)), (mo, .inr (11, [.ref to, .ref ke, .ref ik, .ref mrf, .long mab, .long mbl, .ref ha, .ref r0, .ref mbr, .ref mbp, .ref mby, .int (nI bl), .int (nI ta), .int (nI tl), .int (nI tk), .int vv, .ref an, .ref va])), (mrf, .inl (y 0, 3, .inl (upd frf 0 ((frf 0) + 1))))] H := hP
          have hD : va_D A [(to, .inl (y 0, 228, .inl ft)), (mo, .inr (11, [.ref to, .ref ke, .ref ik, .ref mrf, .long mab, .long mbl, .ref ha, .ref r0, .ref mbr, .ref mbp, .ref mby, .int (nI bl), .int (nI ta), .int (nI tl), .int (nI tk), .int vv, .ref an, .ref va])), (mrf, .inl (y 0, 3, .inl (upd frf 0 ((frf 0) + 1))))] := hD
          exact W.iret (v := (-10)) hx hb hr (fun tZ ht hW => ⟨⟨(-10), ((upd frf 0 ((frf 0) + 1))), rfl, by first | omega | (dsimp only; omega), by rw [ht]; exact hP.sub [1, 2, 0] rfl, hD.sub [1, 2, 0] (by decide) rfl⟩, hS.F ht⟩) hS.2.2 dX11_two_32
    · skip
      have hP : va_P D vwCl [(mrf, .inl (y 0, 3, .inl frf)), (mo, .inr (11, [.ref to, .ref ke, .ref ik, .ref mrf, .long mab, .long mbl, .ref ha, .ref r0, .ref mbr, .ref mbp, .ref mby, .int (nI bl), .int (nI ta), .int (nI tl), .int (nI tk), .int vv, .ref an, .ref va])), (to, .inl (y 0, 228, .inl ft))] H := hP
      have hD : va_D A [(mrf, .inl (y 0, 3, .inl frf)), (mo, .inr (11, [.ref to, .ref ke, .ref ik, .ref mrf, .long mab, .long mbl, .ref ha, .ref r0, .ref mbr, .ref mbp, .ref mby, .int (nI bl), .int (nI ta), .int (nI tl), .int (nI tk), .int vv, .ref an, .ref va])), (to, .inl (y 0, 228, .inl ft))] := hD
      refine lv_if_eq (tgt := 26) hx hb dX11_two_13 (by decide) (fun _ => ?_) (fun h9 => absurd h9 (by decide))
      refine lv_aload_n hx hb dX11_two_26 rfl (lv_at hl 0 rfl) ?_
      refine lv_bipush (v := (-10)) hx hb dX11_two_27 (by decide) ?_
      have hs146 : kw_Split [(mrf, .inl (y 0, 3, .inl frf)), (mo, .inr (11, [.ref to, .ref ke, .ref ik, .ref mrf, .long mab, .long mbl, .ref ha, .ref r0, .ref mbr, .ref mbp, .ref mby, .int (nI bl), .int (nI ta), .int (nI tl), .int (nI tk), .int vv, .ref an, .ref va])), (to, .inl (y 0, 228, .inl ft))] [(mo, .inr (11, [.ref to, .ref ke, .ref ik, .ref mrf, .long mab, .long mbl, .ref ha, .ref r0, .ref mbr, .ref mbp, .ref mby, .int (nI bl), .int (nI ta), .int (nI tl), .int (nI tk), .int vv, .ref an, .ref va])), (mrf, .inl (y 0, 3, .inl frf))] [(to, .inl (y 0, 228, .inl ft))] [1, 0] [2] := ⟨rfl, rfl, rfl, rfl, rfl, by decide⟩
      refine kw_go_i hs146 hP hD hS hA (va_runV (As := [.int (-10)]) (rest := []) ⟨hx, hb, hml, hown, hts⟩ (gr_bad l D y mo to ke ik mrf ha r0 mbr mbp mby an va mab mbl bl ta tl tk vv frf (-10)  _) (cwV 1 hts gX11_two_X11_bad rfl rfl rfl (by decide +kernel) ⟨Nat.le_of_ble_eq_true rfl, Nat.le_of_ble_eq_true rfl⟩) (kw_PreV (ci := 11) (q0 := 1) hs146 hP hD hK hN rfl rfl) rfl rfl hl.1 rfl (lv_room (Nat.le_of_ble_eq_true rfl)) dX11_two_29 ⟨Nat.le_of_ble_eq_true rfl, Nat.le_of_ble_eq_true rfl⟩) (fun r147 u148 H locs hq hP hD hS => ?_)
      obtain rfl := hq
      have hP : va_P D vwCl [(to, .inl (y 0, 228, .inl ft)), (mo, .inr (11, [.ref to, .ref ke, .ref ik, .ref mrf, .long mab, .long mbl, .ref ha, .ref r0, .ref mbr, .ref mbp, .ref mby, .int (nI bl), .int (nI ta), .int (nI tl), .int (nI tk), .int vv, .ref an, .ref va])), (mrf, .inl (y 0, 3, .inl (upd frf 0 ((frf 0) + 1))))] H := hP
      have hD : va_D A [(to, .inl (y 0, 228, .inl ft)), (mo, .inr (11, [.ref to, .ref ke, .ref ik, .ref mrf, .long mab, .long mbl, .ref ha, .ref r0, .ref mbr, .ref mbp, .ref mby, .int (nI bl), .int (nI ta), .int (nI tl), .int (nI tk), .int vv, .ref an, .ref va])), (mrf, .inl (y 0, 3, .inl (upd frf 0 ((frf 0) + 1))))] := hD
      exact W.iret (v := (-10)) hx hb hr (fun tZ ht hW => ⟨⟨(-10), ((upd frf 0 ((frf 0) + 1))), rfl, by first | omega | (dsimp only; omega), by rw [ht]; exact hP.sub [1, 2, 0] rfl, hD.sub [1, 2, 0] (by decide) rfl⟩, hS.F ht⟩) hS.2.2 dX11_two_32
  · skip
    have hP : va_P D vwCl [(mrf, .inl (y 0, 3, .inl frf)), (mo, .inr (11, [.ref to, .ref ke, .ref ik, .ref mrf, .long mab, .long mbl, .ref ha, .ref r0, .ref mbr, .ref mbp, .ref mby, .int (nI bl), .int (nI ta), .int (nI tl), .int (nI tk), .int vv, .ref an, .ref va])), (to, .inl (y 0, 228, .inl ft))] H := hP
    have hD : va_D A [(mrf, .inl (y 0, 3, .inl frf)), (mo, .inr (11, [.ref to, .ref ke, .ref ik, .ref mrf, .long mab, .long mbl, .ref ha, .ref r0, .ref mbr, .ref mbp, .ref mby, .int (nI bl), .int (nI ta), .int (nI tl), .int (nI tk), .int vv, .ref an, .ref va])), (to, .inl (y 0, 228, .inl ft))] := hD
    refine lv_if_eq (tgt := 26) hx hb dX11_two_5 (by decide) (fun _ => ?_) (fun h9 => absurd h9 (by decide))
    refine lv_aload_n hx hb dX11_two_26 rfl (lv_at hl 0 rfl) ?_
    refine lv_bipush (v := (-10)) hx hb dX11_two_27 (by decide) ?_
    have hs149 : kw_Split [(mrf, .inl (y 0, 3, .inl frf)), (mo, .inr (11, [.ref to, .ref ke, .ref ik, .ref mrf, .long mab, .long mbl, .ref ha, .ref r0, .ref mbr, .ref mbp, .ref mby, .int (nI bl), .int (nI ta), .int (nI tl), .int (nI tk), .int vv, .ref an, .ref va])), (to, .inl (y 0, 228, .inl ft))] [(mo, .inr (11, [.ref to, .ref ke, .ref ik, .ref mrf, .long mab, .long mbl, .ref ha, .ref r0, .ref mbr, .ref mbp, .ref mby, .int (nI bl), .int (nI ta), .int (nI tl), .int (nI tk), .int vv, .ref an, .ref va])), (mrf, .inl (y 0, 3, .inl frf))] [(to, .inl (y 0, 228, .inl ft))] [1, 0] [2] := ⟨rfl, rfl, rfl, rfl, rfl, by decide⟩
    refine kw_go_i hs149 hP hD hS hA (va_runV (As := [.int (-10)]) (rest := []) ⟨hx, hb, hml, hown, hts⟩ (gr_bad l D y mo to ke ik mrf ha r0 mbr mbp mby an va mab mbl bl ta tl tk vv frf (-10)  _) (cwV 1 hts gX11_two_X11_bad rfl rfl rfl (by decide +kernel) ⟨Nat.le_of_ble_eq_true rfl, Nat.le_of_ble_eq_true rfl⟩) (kw_PreV (ci := 11) (q0 := 1) hs149 hP hD hK hN rfl rfl) rfl rfl hl.1 rfl (lv_room (Nat.le_of_ble_eq_true rfl)) dX11_two_29 ⟨Nat.le_of_ble_eq_true rfl, Nat.le_of_ble_eq_true rfl⟩) (fun r150 u151 H locs hq hP hD hS => ?_)
    obtain rfl := hq
    have hP : va_P D vwCl [(to, .inl (y 0, 228, .inl ft)), (mo, .inr (11, [.ref to, .ref ke, .ref ik, .ref mrf, .long mab, .long mbl, .ref ha, .ref r0, .ref mbr, .ref mbp, .ref mby, .int (nI bl), .int (nI ta), .int (nI tl), .int (nI tk), .int vv, .ref an, .ref va])), (mrf, .inl (y 0, 3, .inl (upd frf 0 ((frf 0) + 1))))] H := hP
    have hD : va_D A [(to, .inl (y 0, 228, .inl ft)), (mo, .inr (11, [.ref to, .ref ke, .ref ik, .ref mrf, .long mab, .long mbl, .ref ha, .ref r0, .ref mbr, .ref mbp, .ref mby, .int (nI bl), .int (nI ta), .int (nI tl), .int (nI tk), .int vv, .ref an, .ref va])), (mrf, .inl (y 0, 3, .inl (upd frf 0 ((frf 0) + 1))))] := hD
    exact W.iret (v := (-10)) hx hb hr (fun tZ ht hW => ⟨⟨(-10), ((upd frf 0 ((frf 0) + 1))), rfl, by first | omega | (dsimp only; omega), by rw [ht]; exact hP.sub [1, 2, 0] rfl, hD.sub [1, 2, 0] (by decide) rfl⟩, hS.F ht⟩) hS.2.2 dX11_two_32

set_option maxHeartbeats 4000000 in
set_option maxRecDepth 100000 in
theorem gq_which (l : Launch) (D : va_G) (y : Nat → ClassId) (mo : Nat) (to : Nat) (ke : Nat) (ik : Nat) (mrf : Nat) (ha : Nat) (r0 : Nat) (mbr : Nat) (mbp : Nat) (mby : Nat) (an : Nat) (va : Nat) (mab : Int64) (mbl : Int64) (bl : Nat) (ta : Nat) (tl : Nat) (tk : Nat) (vv : Int32) (frf : Nat → Int32) (ft : Nat → Int32) (fi : Nat) (gl : Nat) (mi : Nat) (no : Nat) (un : Nat) (x : Int32) (hk0_ : ft 0 = (nI fi)) (hk1_ : ft 1 = (nI gl)) (hk2_ : ft 2 = (nI mi)) (hk3_ : ft 3 = (nI no)) (hk4_ : ft 4 = (nI un)) (hkt : kr_t 228 ft) (hfi : fi ≤ 6) (hgl : gl ≤ 5) (hmi : mi ≤ 4) (hno : no ≤ 6) (hun : un ≤ 8) (hgf : (gl = 0 ∨ 0 < fi)) : kw_Mi l yX11_which wsX11_which ({ frames := 5, cells := 0, slots := 0, locals := 151 }) D y [.ref mo, .int x] [(mo, .inr (11, [.ref to, .ref ke, .ref ik, .ref mrf, .long mab, .long mbl, .ref ha, .ref r0, .ref mbr, .ref mbp, .ref mby, .int (nI bl), .int (nI ta), .int (nI tl), .int (nI tk), .int vv, .ref an, .ref va])), (mrf, .inl (y 0, 3, .inl frf)), (to, .inl (y 0, 228, .inl ft))] (fun (r : Int32) (u : (Nat → Int32)) => (gl = 0 ∨ 0 < fi)) (fun u => [(mo, .inr (11, [.ref to, .ref ke, .ref ik, .ref mrf, .long mab, .long mbl, .ref ha, .ref r0, .ref mbr, .ref mbp, .ref mby, .int (nI bl), .int (nI ta), .int (nI tl), .int (nI tk), .int vv, .ref an, .ref va])), (mrf, .inl (y 0, 3, .inl u)), (to, .inl (y 0, 228, .inl ft))]) 0 0 := by
  refine kw_Mi.of (cc := cX11_which) (maxL := 4) (ret := (some .int)) (by decide) rfl ?_
  intro pZ eZ s mZ beZ meZ cZ A hE
  obtain ⟨hx, hb, hr, hml, hts, hown, hlocks, hin, hA, hP, hD, hK, hN⟩ := hE
  have hS : va_S A s.heap s.heap [] := va_S.rf
  have hl := lv_entry ([.ref mo, .int x]) (n := 4) (Nat.le_of_ble_eq_true rfl)
  rw [lg_entry_eq]
  generalize (lg_sl ([.ref mo, .int x]) ++ List.replicate (4 - (lg_sl ([.ref mo, .int x])).length) Slot.unset).toArray = ls at hl ⊢
  have hl : lv_has ls 4 [(0, .ref mo), (1, .int x)] := hl
  have fw1 := hts (.fieldLink RX11 7 "GleanDuskModel" "told" "[I") (List.mem_of_getElem? (i := 1) rfl)
  have iw11 : ∀ w ∈ wsX110, w ∈ wsX11_which := fun _ h => List.mem_cons_of_mem _ (List.mem_append_right _ h)
  refine lv_iload_n hx hb dX11_which_0 rfl (lv_at hl 1 rfl) ?_
  have hs1 : kw_Split [(mo, .inr (11, [.ref to, .ref ke, .ref ik, .ref mrf, .long mab, .long mbl, .ref ha, .ref r0, .ref mbr, .ref mbp, .ref mby, .int (nI bl), .int (nI ta), .int (nI tl), .int (nI tk), .int vv, .ref an, .ref va])), (mrf, .inl (y 0, 3, .inl frf)), (to, .inl (y 0, 228, .inl ft))] [] [(mo, .inr (11, [.ref to, .ref ke, .ref ik, .ref mrf, .long mab, .long mbl, .ref ha, .ref r0, .ref mbr, .ref mbp, .ref mby, .int (nI bl), .int (nI ta), .int (nI tl), .int (nI tk), .int vv, .ref an, .ref va])), (mrf, .inl (y 0, 3, .inl frf)), (to, .inl (y 0, 228, .inl ft))] [] [0, 1, 2] := ⟨rfl, rfl, rfl, rfl, rfl, by decide⟩
  refine kw_go_i hs1 hP hD hS hA (va_runS (As := [.int x]) (rest := []) ⟨hx, hb, hml, hown, hts⟩ (gr_isStep l D y x  _) (va_cwS 1 hts gX11_which_X11_isStep rfl rfl rfl (by decide +kernel) ⟨Nat.le_of_ble_eq_true rfl, Nat.le_of_ble_eq_true rfl⟩) (kw_PreS hs1 hP hD hK hN) rfl rfl hl.1 rfl (lv_room (Nat.le_of_ble_eq_true rfl)) dX11_which_1 ⟨Nat.le_of_ble_eq_true rfl, Nat.le_of_ble_eq_true rfl⟩) (fun r2 u3 H locs hq hP hD hS => ?_)
  rcases hq with ⟨j4, h5, rfl, rfl⟩ | ⟨h6, rfl⟩
  · skip
    have hP : va_P D vwCl [(mo, .inr (11, [.ref to, .ref ke, .ref ik, .ref mrf, .long mab, .long mbl, .ref ha, .ref r0, .ref mbr, .ref mbp, .ref mby, .int (nI bl), .int (nI ta), .int (nI tl), .int (nI tk), .int vv, .ref an, .ref va])), (mrf, .inl (y 0, 3, .inl frf)), (to, .inl (y 0, 228, .inl ft))] H := hP
    have hD : va_D A [(mo, .inr (11, [.ref to, .ref ke, .ref ik, .ref mrf, .long mab, .long mbl, .ref ha, .ref r0, .ref mbr, .ref mbp, .ref mby, .int (nI bl), .int (nI ta), .int (nI tl), .int (nI tk), .int vv, .ref an, .ref va])), (mrf, .inl (y 0, 3, .inl frf)), (to, .inl (y 0, 228, .inl ft))] := hD
    refine lv_if_ne (tgt := 14) hx hb dX11_which_4 (by decide) (fun _ => ?_) (fun h9 => absurd h9 (by decide))
    refine lv_iconst (v := (-1)) hx hb dX11_which_14 (by decide) ?_
    refine lv_istore_n (lv' := [(2, .int (-1)), (0, .ref mo), (1, .int (nI j4))]) hx hb dX11_which_15 rfl hl (by decide) rfl (fun ls hl => ?_)
    refine lv_iconst (v := 0) hx hb dX11_which_16 (by decide) ?_
    refine lv_istore_n (lv' := [(3, .int 0), (2, .int (-1)), (0, .ref mo), (1, .int (nI j4))]) hx hb dX11_which_17 rfl hl (by decide) rfl (fun ls hl => ?_)
    have lp30 : ∀ (fuj91 j91 : Nat) (x12 : Int32) (H : Heap) (locs : List Loc) (ls : Array Slot), j91 ≤ fi → fi - j91 < fuj91 → kw_m1 6 x12 → va_P D vwCl [(mo, .inr (11, [.ref to, .ref ke, .ref ik, .ref mrf, .long mab, .long mbl, .ref ha, .ref r0, .ref mbr, .ref mbp, .ref mby, .int (nI bl), .int (nI ta), .int (nI tl), .int (nI tk), .int vv, .ref an, .ref va])), (mrf, .inl (y 0, 3, .inl frf)), (to, .inl (y 0, 228, .inl ft))] H → va_D A [(mo, .inr (11, [.ref to, .ref ke, .ref ik, .ref mrf, .long mab, .long mbl, .ref ha, .ref r0, .ref mbr, .ref mbp, .ref mby, .int (nI bl), .int (nI ta), .int (nI tl), .int (nI tk), .int vv, .ref an, .ref va])), (mrf, .inl (y 0, 3, .inl frf)), (to, .inl (y 0, 228, .inl ft))] → va_S A s.heap H locs → lv_has ls 4 [(3, .int (nI j91)), (2, .int x12), (0, .ref mo), (1, .int (nI j4))] → W pZ l eZ ({ frames := 5, cells := 0, slots := 0, locals := 151 }) s mZ [.ref mo, .int (nI j4)].toArray beZ meZ cZ H locs 0 0 (MQ beZ (va_Qi (fun (r : Int32) (u : (Nat → Int32)) => (gl = 0 ∨ 0 < fi)) (kw_B D (fun u => [(mo, .inr (11, [.ref to, .ref ke, .ref ik, .ref mrf, .long mab, .long mbl, .ref ha, .ref r0, .ref mbr, .ref mbp, .ref mby, .int (nI bl), .int (nI ta), .int (nI tl), .int (nI tk), .int vv, .ref an, .ref va])), (mrf, .inl (y 0, 3, .inl u)), (to, .inl (y 0, 228, .inl ft))]) A) A) [.ref mo, .int (nI j4)].toArray s 0 0 A) (F0 mZ 18 ls []) := by
      intro fuj91
      induction fuj91 with
      | zero => intro j91 x12 H locs ls hj9 hf9; exact absurd hf9 (Nat.not_lt_zero _)
      | succ fuj91 ihj91 =>
        intro j91 x12 H locs ls hj91 hfj91 hm_x12 hP hD hS hl
        refine lv_iload_n hx hb dX11_which_18 rfl (lv_at hl 0 rfl) ?_
        refine lv_aload_n hx hb dX11_which_19 rfl (lv_at hl 2 rfl) ?_
        have hs31 : kw_Split [(mo, .inr (11, [.ref to, .ref ke, .ref ik, .ref mrf, .long mab, .long mbl, .ref ha, .ref r0, .ref mbr, .ref mbp, .ref mby, .int (nI bl), .int (nI ta), .int (nI tl), .int (nI tk), .int vv, .ref an, .ref va])), (mrf, .inl (y 0, 3, .inl frf)), (to, .inl (y 0, 228, .inl ft))] [(mo, .inr (11, [.ref to, .ref ke, .ref ik, .ref mrf, .long mab, .long mbl, .ref ha, .ref r0, .ref mbr, .ref mbp, .ref mby, .int (nI bl), .int (nI ta), .int (nI tl), .int (nI tk), .int vv, .ref an, .ref va])), (to, .inl (y 0, 228, .inl ft))] [(mrf, .inl (y 0, 3, .inl frf))] [0, 2] [1] := ⟨rfl, rfl, rfl, rfl, rfl, by decide⟩
        refine kw_go_i hs31 hP hD hS hA (va_runV (As := []) (rest := [.int (nI j91)]) ⟨hx, hb, hml, hown, hts⟩ (gr_many l D y mo to ke ik mrf ha r0 mbr mbp mby an va mab mbl bl ta tl tk vv ft fi gl mi no un hk0_ hk1_ hk2_ hk3_ hk4_ hkt hfi hgl hmi hno hun _) (cwV 0 hts gX11_which_X11_many rfl rfl rfl (by decide +kernel) ⟨Nat.le_of_ble_eq_true rfl, Nat.le_of_ble_eq_true rfl⟩) (kw_PreV (ci := 11) (q0 := 0) hs31 hP hD hK hN rfl rfl) rfl rfl hl.1 rfl (lv_room (Nat.le_of_ble_eq_true rfl)) dX11_which_20 ⟨Nat.le_of_ble_eq_true rfl, Nat.le_of_ble_eq_true rfl⟩) (fun r32 u33 H locs hq hP hD hS => ?_)
        obtain rfl := hq
        have hP : va_P D vwCl [(mrf, .inl (y 0, 3, .inl frf)), (mo, .inr (11, [.ref to, .ref ke, .ref ik, .ref mrf, .long mab, .long mbl, .ref ha, .ref r0, .ref mbr, .ref mbp, .ref mby, .int (nI bl), .int (nI ta), .int (nI tl), .int (nI tk), .int vv, .ref an, .ref va])), (to, .inl (y 0, 228, .inl ft))] H := hP
        have hD : va_D A [(mrf, .inl (y 0, 3, .inl frf)), (mo, .inr (11, [.ref to, .ref ke, .ref ik, .ref mrf, .long mab, .long mbl, .ref ha, .ref r0, .ref mbr, .ref mbp, .ref mby, .int (nI bl), .int (nI ta), .int (nI tl), .int (nI tk), .int vv, .ref an, .ref va])), (to, .inl (y 0, 228, .inl ft))] := hD
        refine lv_icmp_ge (tgt := 64) hx hb dX11_which_23 (by decide) (fun h34 => ?_) (fun h35 => ?_)
        · skip
          have h34 : fi ≤ j91 := (nI_leI (a := fi) (b := j91) (by omega) (by omega)).mp h34
          refine lv_iload_n hx hb dX11_which_64 rfl (lv_at hl 1 rfl) ?_
          exact W.iret (v := x12) hx hb hr (fun tZ ht hW => ⟨⟨x12, (frf), rfl, by first | omega | (dsimp only; omega), by rw [ht]; exact hP.sub [1, 0, 2] rfl, hD.sub [1, 0, 2] (by decide) rfl⟩, hS.F ht⟩) hS.2.2 dX11_which_65
        · skip
          have h35 : ¬ fi ≤ j91 := fun q9 => h35 ((nI_leI (a := fi) (b := j91) (by omega) (by omega)).mpr q9)
          refine lv_iload_n hx hb dX11_which_26 rfl (lv_at hl 1 rfl) ?_
          refine lv_iconst (v := (-1)) hx hb dX11_which_27 (by decide) ?_
          refine lv_icmp_eq (tgt := 52) hx hb dX11_which_28 (by decide) (fun h36 => ?_) (fun h37 => ?_)
          · skip
            refine lv_iload_n hx hb dX11_which_52 rfl (lv_at hl 0 rfl) ?_
            refine lv_goto (tgt := 57) hx hb dX11_which_53 (by decide) ?_
            refine lv_istore_n (lv' := [(2, .int (nI j91)), (3, .int (nI j91)), (0, .ref mo), (1, .int (nI j4))]) hx hb dX11_which_57 rfl hl (by decide) rfl (fun ls hl => ?_)
            refine lv_iinc (v := (nI (j91 + 1))) (lv' := [(3, .int (nI (j91 + 1))), (2, .int (nI j91)), (0, .ref mo), (1, .int (nI j4))]) hx hb dX11_which_58 hl (k := 1) rfl (nI_1 j91) (by decide) rfl (fun ls hl => ?_)
            refine lv_goto (tgt := 18) hx hb dX11_which_61 (by decide) ?_
            exact ihj91 (j91 + 1) (nI j91) H locs ls (by omega) (by omega) (Or.inr (vp_in_nI (by omega) (by decide))) (hP.sub [1, 0, 2] rfl) (hD.sub [1, 0, 2] (by decide) rfl) hS (lv_sub hl [0, 1, 2, 3] rfl)
          · skip
            refine lv_aload_n hx hb dX11_which_31 rfl (lv_at hl 2 rfl) ?_
            refine va_get (D := D) (ci := 11) (v := .ref to) (C := RX11) (T := TX11) (N := 18) hx hb hts iw11 hown hK hP 1 rfl rfl 0 (by decide) fw1 (fun _ h9 => h9) rfl dX11_which_32 ?_
            refine lv_iload_n hx hb dX11_which_35 rfl (lv_at hl 0 rfl) ?_
            refine lv_iload_n hx hb dX11_which_36 rfl (lv_at hl 3 rfl) ?_
            have hs38 : kw_Split [(mrf, .inl (y 0, 3, .inl frf)), (mo, .inr (11, [.ref to, .ref ke, .ref ik, .ref mrf, .long mab, .long mbl, .ref ha, .ref r0, .ref mbr, .ref mbp, .ref mby, .int (nI bl), .int (nI ta), .int (nI tl), .int (nI tk), .int vv, .ref an, .ref va])), (to, .inl (y 0, 228, .inl ft))] [(to, .inl (y 0, 228, .inl ft))] [(mrf, .inl (y 0, 3, .inl frf)), (mo, .inr (11, [.ref to, .ref ke, .ref ik, .ref mrf, .long mab, .long mbl, .ref ha, .ref r0, .ref mbr, .ref mbp, .ref mby, .int (nI bl), .int (nI ta), .int (nI tl), .int (nI tk), .int vv, .ref an, .ref va]))] [2] [0, 1] := ⟨rfl, rfl, rfl, rfl, rfl, by decide⟩
            refine kw_go_i hs38 hP hD hS hA (va_runS (As := [.ref to, .int (nI j91), .int (nI j4)]) (rest := []) ⟨hx, hb, hml, hown, hts⟩ (gr_seenOn228 l D y to ft fi gl mi no un j91 (nI j4) hk0_ hk1_ hk2_ hk3_ hk4_ hkt hfi hgl hmi hno hun (by omega) _) (va_cwS 3 hts gX11_which_X11_seenOn rfl rfl rfl (by decide +kernel) ⟨Nat.le_of_ble_eq_true rfl, Nat.le_of_ble_eq_true rfl⟩) (kw_PreS hs38 hP hD hK hN) rfl rfl hl.1 rfl (lv_room (Nat.le_of_ble_eq_true rfl)) dX11_which_37 ⟨Nat.le_of_ble_eq_true rfl, Nat.le_of_ble_eq_true rfl⟩) (fun r39 u40 H locs hq hP hD hS => ?_)
            have hP : va_P D vwCl [(mrf, .inl (y 0, 3, .inl frf)), (mo, .inr (11, [.ref to, .ref ke, .ref ik, .ref mrf, .long mab, .long mbl, .ref ha, .ref r0, .ref mbr, .ref mbp, .ref mby, .int (nI bl), .int (nI ta), .int (nI tl), .int (nI tk), .int vv, .ref an, .ref va])), (to, .inl (y 0, 228, .inl ft))] H := hP
            have hD : va_D A [(mrf, .inl (y 0, 3, .inl frf)), (mo, .inr (11, [.ref to, .ref ke, .ref ik, .ref mrf, .long mab, .long mbl, .ref ha, .ref r0, .ref mbr, .ref mbp, .ref mby, .int (nI bl), .int (nI ta), .int (nI tl), .int (nI tk), .int vv, .ref an, .ref va])), (to, .inl (y 0, 228, .inl ft))] := hD
            refine lv_aload_n hx hb dX11_which_40 rfl (lv_at hl 2 rfl) ?_
            refine va_get (D := D) (ci := 11) (v := .ref to) (C := RX11) (T := TX11) (N := 18) hx hb hts iw11 hown hK hP 1 rfl rfl 0 (by decide) fw1 (fun _ h9 => h9) rfl dX11_which_41 ?_
            refine lv_iload_n hx hb dX11_which_44 rfl (lv_at hl 1 rfl) ?_
            refine lv_iload_n hx hb dX11_which_45 rfl (lv_at hl 3 rfl) ?_
            obtain ⟨z41, hz42, rfl⟩ := vp_in_of (hm_x12.resolve_left h37) (by decide)
            have hs43 : kw_Split [(mrf, .inl (y 0, 3, .inl frf)), (mo, .inr (11, [.ref to, .ref ke, .ref ik, .ref mrf, .long mab, .long mbl, .ref ha, .ref r0, .ref mbr, .ref mbp, .ref mby, .int (nI bl), .int (nI ta), .int (nI tl), .int (nI tk), .int vv, .ref an, .ref va])), (to, .inl (y 0, 228, .inl ft))] [(to, .inl (y 0, 228, .inl ft))] [(mrf, .inl (y 0, 3, .inl frf)), (mo, .inr (11, [.ref to, .ref ke, .ref ik, .ref mrf, .long mab, .long mbl, .ref ha, .ref r0, .ref mbr, .ref mbp, .ref mby, .int (nI bl), .int (nI ta), .int (nI tl), .int (nI tk), .int vv, .ref an, .ref va]))] [2] [0, 1] := ⟨rfl, rfl, rfl, rfl, rfl, by decide⟩
            refine kw_go_i hs43 hP hD hS hA (va_runS (As := [.ref to, .int (nI z41), .int (nI j4)]) (rest := [.int r39]) ⟨hx, hb, hml, hown, hts⟩ (gr_seenOn228 l D y to ft fi gl mi no un z41 (nI j4) hk0_ hk1_ hk2_ hk3_ hk4_ hkt hfi hgl hmi hno hun (by omega) _) (va_cwS 3 hts gX11_which_X11_seenOn rfl rfl rfl (by decide +kernel) ⟨Nat.le_of_ble_eq_true rfl, Nat.le_of_ble_eq_true rfl⟩) (kw_PreS hs43 hP hD hK hN) rfl rfl hl.1 rfl (lv_room (Nat.le_of_ble_eq_true rfl)) dX11_which_46 ⟨Nat.le_of_ble_eq_true rfl, Nat.le_of_ble_eq_true rfl⟩) (fun r44 u45 H locs hq hP hD hS => ?_)
            have hP : va_P D vwCl [(mrf, .inl (y 0, 3, .inl frf)), (mo, .inr (11, [.ref to, .ref ke, .ref ik, .ref mrf, .long mab, .long mbl, .ref ha, .ref r0, .ref mbr, .ref mbp, .ref mby, .int (nI bl), .int (nI ta), .int (nI tl), .int (nI tk), .int vv, .ref an, .ref va])), (to, .inl (y 0, 228, .inl ft))] H := hP
            have hD : va_D A [(mrf, .inl (y 0, 3, .inl frf)), (mo, .inr (11, [.ref to, .ref ke, .ref ik, .ref mrf, .long mab, .long mbl, .ref ha, .ref r0, .ref mbr, .ref mbp, .ref mby, .int (nI bl), .int (nI ta), .int (nI tl), .int (nI tk), .int vv, .ref an, .ref va])), (to, .inl (y 0, 228, .inl ft))] := hD
            refine lv_icmp_le (tgt := 56) hx hb dX11_which_49 (by decide) (fun h46 => ?_) (fun h47 => ?_)
            · skip
              refine lv_iload_n hx hb dX11_which_56 rfl (lv_at hl 1 rfl) ?_
              refine lv_istore_n (lv' := [(2, .int (nI z41)), (3, .int (nI j91)), (0, .ref mo), (1, .int (nI j4))]) hx hb dX11_which_57 rfl hl (by decide) rfl (fun ls hl => ?_)
              refine lv_iinc (v := (nI (j91 + 1))) (lv' := [(3, .int (nI (j91 + 1))), (2, .int (nI z41)), (0, .ref mo), (1, .int (nI j4))]) hx hb dX11_which_58 hl (k := 1) rfl (nI_1 j91) (by decide) rfl (fun ls hl => ?_)
              refine lv_goto (tgt := 18) hx hb dX11_which_61 (by decide) ?_
              exact ihj91 (j91 + 1) (nI z41) H locs ls (by omega) (by omega) (Or.inr (vp_in_nI (by omega) (by decide))) (hP.sub [1, 0, 2] rfl) (hD.sub [1, 0, 2] (by decide) rfl) hS (lv_sub hl [0, 1, 2, 3] rfl)
            · skip
              refine lv_iload_n hx hb dX11_which_52 rfl (lv_at hl 0 rfl) ?_
              refine lv_goto (tgt := 57) hx hb dX11_which_53 (by decide) ?_
              refine lv_istore_n (lv' := [(2, .int (nI j91)), (3, .int (nI j91)), (0, .ref mo), (1, .int (nI j4))]) hx hb dX11_which_57 rfl hl (by decide) rfl (fun ls hl => ?_)
              refine lv_iinc (v := (nI (j91 + 1))) (lv' := [(3, .int (nI (j91 + 1))), (2, .int (nI j91)), (0, .ref mo), (1, .int (nI j4))]) hx hb dX11_which_58 hl (k := 1) rfl (nI_1 j91) (by decide) rfl (fun ls hl => ?_)
              refine lv_goto (tgt := 18) hx hb dX11_which_61 (by decide) ?_
              exact ihj91 (j91 + 1) (nI j91) H locs ls (by omega) (by omega) (Or.inr (vp_in_nI (by omega) (by decide))) (hP.sub [1, 0, 2] rfl) (hD.sub [1, 0, 2] (by decide) rfl) hS (lv_sub hl [0, 1, 2, 3] rfl)
    exact lp30 (fi + 1) 0 (-1) _ _ _ (by omega) (by omega) (Or.inl rfl) hP hD hS (lv_sub hl [0, 1, 2, 3] rfl)
  · skip
    have hP : va_P D vwCl [(mo, .inr (11, [.ref to, .ref ke, .ref ik, .ref mrf, .long mab, .long mbl, .ref ha, .ref r0, .ref mbr, .ref mbp, .ref mby, .int (nI bl), .int (nI ta), .int (nI tl), .int (nI tk), .int vv, .ref an, .ref va])), (mrf, .inl (y 0, 3, .inl frf)), (to, .inl (y 0, 228, .inl ft))] H := hP
    have hD : va_D A [(mo, .inr (11, [.ref to, .ref ke, .ref ik, .ref mrf, .long mab, .long mbl, .ref ha, .ref r0, .ref mbr, .ref mbp, .ref mby, .int (nI bl), .int (nI ta), .int (nI tl), .int (nI tk), .int vv, .ref an, .ref va])), (mrf, .inl (y 0, 3, .inl frf)), (to, .inl (y 0, 228, .inl ft))] := hD
    refine lv_if_ne (tgt := 14) hx hb dX11_which_4 (by decide) (fun h9 => absurd h9 (by decide)) (fun _ => ?_)
    refine lv_aload_n hx hb dX11_which_7 rfl (lv_at hl 0 rfl) ?_
    refine lv_bipush (v := (-2)) hx hb dX11_which_8 (by decide) ?_
    have hs48 : kw_Split [(mo, .inr (11, [.ref to, .ref ke, .ref ik, .ref mrf, .long mab, .long mbl, .ref ha, .ref r0, .ref mbr, .ref mbp, .ref mby, .int (nI bl), .int (nI ta), .int (nI tl), .int (nI tk), .int vv, .ref an, .ref va])), (mrf, .inl (y 0, 3, .inl frf)), (to, .inl (y 0, 228, .inl ft))] [(mo, .inr (11, [.ref to, .ref ke, .ref ik, .ref mrf, .long mab, .long mbl, .ref ha, .ref r0, .ref mbr, .ref mbp, .ref mby, .int (nI bl), .int (nI ta), .int (nI tl), .int (nI tk), .int vv, .ref an, .ref va])), (mrf, .inl (y 0, 3, .inl frf))] [(to, .inl (y 0, 228, .inl ft))] [0, 1] [2] := ⟨rfl, rfl, rfl, rfl, rfl, by decide⟩
    refine kw_go_i hs48 hP hD hS hA (va_runV (As := [.int (-2)]) (rest := []) ⟨hx, hb, hml, hown, hts⟩ (gr_bad l D y mo to ke ik mrf ha r0 mbr mbp mby an va mab mbl bl ta tl tk vv frf (-2)  _) (cwV 1 hts gX11_which_X11_bad rfl rfl rfl (by decide +kernel) ⟨Nat.le_of_ble_eq_true rfl, Nat.le_of_ble_eq_true rfl⟩) (kw_PreV (ci := 11) (q0 := 0) hs48 hP hD hK hN rfl rfl) rfl rfl hl.1 rfl (lv_room (Nat.le_of_ble_eq_true rfl)) dX11_which_10 ⟨Nat.le_of_ble_eq_true rfl, Nat.le_of_ble_eq_true rfl⟩) (fun r49 u50 H locs hq hP hD hS => ?_)
    obtain rfl := hq
    have hP : va_P D vwCl [(to, .inl (y 0, 228, .inl ft)), (mo, .inr (11, [.ref to, .ref ke, .ref ik, .ref mrf, .long mab, .long mbl, .ref ha, .ref r0, .ref mbr, .ref mbp, .ref mby, .int (nI bl), .int (nI ta), .int (nI tl), .int (nI tk), .int vv, .ref an, .ref va])), (mrf, .inl (y 0, 3, .inl (upd frf 0 ((frf 0) + 1))))] H := hP
    have hD : va_D A [(to, .inl (y 0, 228, .inl ft)), (mo, .inr (11, [.ref to, .ref ke, .ref ik, .ref mrf, .long mab, .long mbl, .ref ha, .ref r0, .ref mbr, .ref mbp, .ref mby, .int (nI bl), .int (nI ta), .int (nI tl), .int (nI tk), .int vv, .ref an, .ref va])), (mrf, .inl (y 0, 3, .inl (upd frf 0 ((frf 0) + 1))))] := hD
    exact W.iret (v := (-2)) hx hb hr (fun tZ ht hW => ⟨⟨(-2), ((upd frf 0 ((frf 0) + 1))), rfl, by first | omega | (dsimp only; omega), by rw [ht]; exact hP.sub [1, 2, 0] rfl, hD.sub [1, 2, 0] (by decide) rfl⟩, hS.F ht⟩) hS.2.2 dX11_which_13

set_option maxHeartbeats 4000000 in
set_option maxRecDepth 100000 in
theorem gq_summers (l : Launch) (D : va_G) (y : Nat → ClassId) (mo : Nat) (to : Nat) (ke : Nat) (ik : Nat) (mrf : Nat) (ha : Nat) (r0 : Nat) (mbr : Nat) (mbp : Nat) (mby : Nat) (an : Nat) (va : Nat) (mab : Int64) (mbl : Int64) (bl : Nat) (ta : Nat) (tl : Nat) (tk : Nat) (vv : Int32) (frf : Nat → Int32) (ft : Nat → Int32) (fi : Nat) (gl : Nat) (mi : Nat) (no : Nat) (un : Nat) (fh : Nat → Int32) (x : Int32) (x2 : Int32) (hk0_ : ft 0 = (nI fi)) (hk1_ : ft 1 = (nI gl)) (hk2_ : ft 2 = (nI mi)) (hk3_ : ft 3 = (nI no)) (hk4_ : ft 4 = (nI un)) (hkt : kr_t 228 ft) (hfi : fi ≤ 6) (hgl : gl ≤ 5) (hmi : mi ≤ 4) (hno : no ≤ 6) (hun : un ≤ 8) (hgf : (gl = 0 ∨ 0 < fi)) (hkh : kr_t 30 fh) : kw_Mi l yX11_summers wsX11_summers ({ frames := 6, cells := 0, slots := 0, locals := 177 }) D y [.ref mo, .int x, .int x2] [(mo, .inr (11, [.ref to, .ref ke, .ref ik, .ref mrf, .long mab, .long mbl, .ref ha, .ref r0, .ref mbr, .ref mbp, .ref mby, .int (nI bl), .int (nI ta), .int (nI tl), .int (nI tk), .int vv, .ref an, .ref va])), (mrf, .inl (y 0, 3, .inl frf)), (to, .inl (y 0, 228, .inl ft)), (ha, .inl (y 0, 30, .inl fh))] (fun (r : Int32) (u : (Nat → Int32) × (Nat → Int32)) => kr_t 30 u.2 ∧ (gl = 0 ∨ 0 < fi)) (fun u => [(mo, .inr (11, [.ref to, .ref ke, .ref ik, .ref mrf, .long mab, .long mbl, .ref ha, .ref r0, .ref mbr, .ref mbp, .ref mby, .int (nI bl), .int (nI ta), .int (nI tl), .int (nI tk), .int vv, .ref an, .ref va])), (mrf, .inl (y 0, 3, .inl u.1)), (to, .inl (y 0, 228, .inl ft)), (ha, .inl (y 0, 30, .inl u.2))]) 0 0 := by
  refine kw_Mi.of (cc := cX11_summers) (maxL := 7) (ret := (some .int)) (by decide) rfl ?_
  intro pZ eZ s mZ beZ meZ cZ A hE
  obtain ⟨hx, hb, hr, hml, hts, hown, hlocks, hin, hA, hP, hD, hK, hN⟩ := hE
  have hS : va_S A s.heap s.heap [] := va_S.rf
  have hl := lv_entry ([.ref mo, .int x, .int x2]) (n := 7) (Nat.le_of_ble_eq_true rfl)
  rw [lg_entry_eq]
  generalize (lg_sl ([.ref mo, .int x, .int x2]) ++ List.replicate (7 - (lg_sl ([.ref mo, .int x, .int x2])).length) Slot.unset).toArray = ls at hl ⊢
  have hl : lv_has ls 7 [(0, .ref mo), (1, .int x), (2, .int x2)] := hl
  have fw1 := hts (.constantLong RX11 198 (999999)) (List.mem_of_getElem? (i := 1) rfl)
  have fw2 := hts (.constantLong RX11 67 (60)) (List.mem_of_getElem? (i := 2) rfl)
  have fw3 := hts (.constantLong RX11 200 (1103515245)) (List.mem_of_getElem? (i := 3) rfl)
  have fw4 := hts (.constantLong RX11 202 (12345)) (List.mem_of_getElem? (i := 4) rfl)
  have fw5 := hts (.constantLong RX11 204 (2147483648)) (List.mem_of_getElem? (i := 5) rfl)
  have fw6 := hts (.fieldLink RX11 27 "GleanDuskModel" "hand" "[I") (List.mem_of_getElem? (i := 6) rfl)
  have fw7 := hts (.constantLong RX11 206 (65536)) (List.mem_of_getElem? (i := 7) rfl)
  have fw8 := hts (.constantLong RX11 192 (10)) (List.mem_of_getElem? (i := 8) rfl)
  have iw11 : ∀ w ∈ wsX110, w ∈ wsX11_summers := fun _ h => List.mem_cons_of_mem _ (List.mem_append_right _ h)
  refine lv_iload_n hx hb dX11_summers_0 rfl (lv_at hl 1 rfl) ?_
  refine lv_i2l (v := x.toInt64) hx hb dX11_summers_1 (rfl) ?_
  refine lv_lconst (v := 0) hx hb dX11_summers_2 (by decide) ?_
  refine lv_ldc2 (v := 999999) hx hb hown fw1 dX11_summers_3 ?_
  have hs1 : kw_Split [(mo, .inr (11, [.ref to, .ref ke, .ref ik, .ref mrf, .long mab, .long mbl, .ref ha, .ref r0, .ref mbr, .ref mbp, .ref mby, .int (nI bl), .int (nI ta), .int (nI tl), .int (nI tk), .int vv, .ref an, .ref va])), (mrf, .inl (y 0, 3, .inl frf)), (to, .inl (y 0, 228, .inl ft)), (ha, .inl (y 0, 30, .inl fh))] [] [(mo, .inr (11, [.ref to, .ref ke, .ref ik, .ref mrf, .long mab, .long mbl, .ref ha, .ref r0, .ref mbr, .ref mbp, .ref mby, .int (nI bl), .int (nI ta), .int (nI tl), .int (nI tk), .int vv, .ref an, .ref va])), (mrf, .inl (y 0, 3, .inl frf)), (to, .inl (y 0, 228, .inl ft)), (ha, .inl (y 0, 30, .inl fh))] [] [0, 1, 2, 3] := ⟨rfl, rfl, rfl, rfl, rfl, by decide⟩
  refine kw_go_i hs1 hP hD hS hA (va_runS (As := [.long x.toInt64, .long 0, .long 999999]) (rest := []) ⟨hx, hb, hml, hown, hts⟩ (gr_in l D y x 0 999999 (by omega) (by omega) _) (va_cwS 3 hts gX11_summers_X11_in rfl rfl rfl (by decide +kernel) ⟨Nat.le_of_ble_eq_true rfl, Nat.le_of_ble_eq_true rfl⟩) (kw_PreS hs1 hP hD hK hN) rfl rfl hl.1 rfl (lv_room (Nat.le_of_ble_eq_true rfl)) dX11_summers_6 ⟨Nat.le_of_ble_eq_true rfl, Nat.le_of_ble_eq_true rfl⟩) (fun r2 u3 H locs hq hP hD hS => ?_)
  rcases hq with ⟨j4, h5, h6, rfl, rfl⟩ | ⟨h7, rfl⟩
  · skip
    have hP : va_P D vwCl [(mo, .inr (11, [.ref to, .ref ke, .ref ik, .ref mrf, .long mab, .long mbl, .ref ha, .ref r0, .ref mbr, .ref mbp, .ref mby, .int (nI bl), .int (nI ta), .int (nI tl), .int (nI tk), .int vv, .ref an, .ref va])), (mrf, .inl (y 0, 3, .inl frf)), (to, .inl (y 0, 228, .inl ft)), (ha, .inl (y 0, 30, .inl fh))] H := hP
    have hD : va_D A [(mo, .inr (11, [.ref to, .ref ke, .ref ik, .ref mrf, .long mab, .long mbl, .ref ha, .ref r0, .ref mbr, .ref mbp, .ref mby, .int (nI bl), .int (nI ta), .int (nI tl), .int (nI tk), .int vv, .ref an, .ref va])), (mrf, .inl (y 0, 3, .inl frf)), (to, .inl (y 0, 228, .inl ft)), (ha, .inl (y 0, 30, .inl fh))] := hD
    refine lv_if_eq (tgt := 24) hx hb dX11_summers_9 (by decide) (fun h9 => absurd h9 (by decide)) (fun _ => ?_)
    refine lv_iload_n hx hb dX11_summers_12 rfl (lv_at hl 2 rfl) ?_
    refine lv_i2l (v := x2.toInt64) hx hb dX11_summers_13 (rfl) ?_
    refine lv_lconst (v := 0) hx hb dX11_summers_14 (by decide) ?_
    refine lv_ldc2 (v := 60) hx hb hown fw2 dX11_summers_15 ?_
    have hs8 : kw_Split [(mo, .inr (11, [.ref to, .ref ke, .ref ik, .ref mrf, .long mab, .long mbl, .ref ha, .ref r0, .ref mbr, .ref mbp, .ref mby, .int (nI bl), .int (nI ta), .int (nI tl), .int (nI tk), .int vv, .ref an, .ref va])), (mrf, .inl (y 0, 3, .inl frf)), (to, .inl (y 0, 228, .inl ft)), (ha, .inl (y 0, 30, .inl fh))] [] [(mo, .inr (11, [.ref to, .ref ke, .ref ik, .ref mrf, .long mab, .long mbl, .ref ha, .ref r0, .ref mbr, .ref mbp, .ref mby, .int (nI bl), .int (nI ta), .int (nI tl), .int (nI tk), .int vv, .ref an, .ref va])), (mrf, .inl (y 0, 3, .inl frf)), (to, .inl (y 0, 228, .inl ft)), (ha, .inl (y 0, 30, .inl fh))] [] [0, 1, 2, 3] := ⟨rfl, rfl, rfl, rfl, rfl, by decide⟩
    refine kw_go_i hs8 hP hD hS hA (va_runS (As := [.long x2.toInt64, .long 0, .long 60]) (rest := []) ⟨hx, hb, hml, hown, hts⟩ (gr_in l D y x2 0 60 (by omega) (by omega) _) (va_cwS 3 hts gX11_summers_X11_in rfl rfl rfl (by decide +kernel) ⟨Nat.le_of_ble_eq_true rfl, Nat.le_of_ble_eq_true rfl⟩) (kw_PreS hs8 hP hD hK hN) rfl rfl hl.1 rfl (lv_room (Nat.le_of_ble_eq_true rfl)) dX11_summers_18 ⟨Nat.le_of_ble_eq_true rfl, Nat.le_of_ble_eq_true rfl⟩) (fun r9 u10 H locs hq hP hD hS => ?_)
    rcases hq with ⟨j11, h12, h13, rfl, rfl⟩ | ⟨h14, rfl⟩
    · skip
      have hP : va_P D vwCl [(mo, .inr (11, [.ref to, .ref ke, .ref ik, .ref mrf, .long mab, .long mbl, .ref ha, .ref r0, .ref mbr, .ref mbp, .ref mby, .int (nI bl), .int (nI ta), .int (nI tl), .int (nI tk), .int vv, .ref an, .ref va])), (mrf, .inl (y 0, 3, .inl frf)), (to, .inl (y 0, 228, .inl ft)), (ha, .inl (y 0, 30, .inl fh))] H := hP
      have hD : va_D A [(mo, .inr (11, [.ref to, .ref ke, .ref ik, .ref mrf, .long mab, .long mbl, .ref ha, .ref r0, .ref mbr, .ref mbp, .ref mby, .int (nI bl), .int (nI ta), .int (nI tl), .int (nI tk), .int vv, .ref an, .ref va])), (mrf, .inl (y 0, 3, .inl frf)), (to, .inl (y 0, 228, .inl ft)), (ha, .inl (y 0, 30, .inl fh))] := hD
      refine lv_if_ne (tgt := 31) hx hb dX11_summers_21 (by decide) (fun _ => ?_) (fun h9 => absurd h9 (by decide))
      refine lv_iload_n hx hb dX11_summers_31 rfl (lv_at hl 1 rfl) ?_
      refine lv_i2l (v := (nI j4).toInt64) hx hb dX11_summers_32 (rfl) ?_
      refine lv_lstore_n (lv' := [(3, .long ((nI j4).toInt64)), (0, .ref mo), (1, .int (nI j4)), (2, .int (nI j11))]) hx hb dX11_summers_33 rfl hl (by decide) rfl (fun ls hl => ?_)
      refine lv_iconst (v := 0) hx hb dX11_summers_34 (by decide) ?_
      refine lv_istore (lv' := [(5, .int 0), (3, .long ((nI j4).toInt64)), (0, .ref mo), (1, .int (nI j4)), (2, .int (nI j11))]) hx hb dX11_summers_35 hl (by decide) rfl (fun ls hl => ?_)
      refine lv_aload_n hx hb dX11_summers_37 rfl (lv_at hl 2 rfl) ?_
      have hs15 : kw_Split [(mo, .inr (11, [.ref to, .ref ke, .ref ik, .ref mrf, .long mab, .long mbl, .ref ha, .ref r0, .ref mbr, .ref mbp, .ref mby, .int (nI bl), .int (nI ta), .int (nI tl), .int (nI tk), .int vv, .ref an, .ref va])), (mrf, .inl (y 0, 3, .inl frf)), (to, .inl (y 0, 228, .inl ft)), (ha, .inl (y 0, 30, .inl fh))] [(mo, .inr (11, [.ref to, .ref ke, .ref ik, .ref mrf, .long mab, .long mbl, .ref ha, .ref r0, .ref mbr, .ref mbp, .ref mby, .int (nI bl), .int (nI ta), .int (nI tl), .int (nI tk), .int vv, .ref an, .ref va])), (to, .inl (y 0, 228, .inl ft)), (ha, .inl (y 0, 30, .inl fh))] [(mrf, .inl (y 0, 3, .inl frf))] [0, 2, 3] [1] := ⟨rfl, rfl, rfl, rfl, rfl, by decide⟩
      refine kw_go_v hs15 hP hD hS hA (va_runV (As := []) (rest := []) ⟨hx, hb, hml, hown, hts⟩ (gr_layHand l D y mo to ke ik mrf ha r0 mbr mbp mby an va mab mbl bl ta tl tk vv ft fi gl mi no un fh hk0_ hk1_ hk2_ hk3_ hk4_ hkt hfi hgl hmi hno hun hkh _) (cwV 0 hts gX11_summers_X11_layHand rfl rfl rfl (by decide +kernel) ⟨Nat.le_of_ble_eq_true rfl, Nat.le_of_ble_eq_true rfl⟩) (kw_PreV (ci := 11) (q0 := 0) hs15 hP hD hK hN rfl rfl) rfl rfl hl.1 rfl (lv_room (Nat.le_of_ble_eq_true rfl)) dX11_summers_38 ⟨Nat.le_of_ble_eq_true rfl, Nat.le_of_ble_eq_true rfl⟩) (fun u17 H locs hq hP hD hS => ?_)
      have h18 := hq
      have hk19 : (kr_cp fh ft 30) 0 = (nI fi) := ((kr_cp_lt (by decide)).trans hk0_)
      have hk20 : (kr_cp fh ft 30) 1 = (nI gl) := ((kr_cp_lt (by decide)).trans hk1_)
      have hP : va_P D vwCl [(mrf, .inl (y 0, 3, .inl frf)), (mo, .inr (11, [.ref to, .ref ke, .ref ik, .ref mrf, .long mab, .long mbl, .ref ha, .ref r0, .ref mbr, .ref mbp, .ref mby, .int (nI bl), .int (nI ta), .int (nI tl), .int (nI tk), .int vv, .ref an, .ref va])), (to, .inl (y 0, 228, .inl ft)), (ha, .inl (y 0, 30, .inl (kr_cp fh ft 30)))] H := hP
      have hD : va_D A [(mrf, .inl (y 0, 3, .inl frf)), (mo, .inr (11, [.ref to, .ref ke, .ref ik, .ref mrf, .long mab, .long mbl, .ref ha, .ref r0, .ref mbr, .ref mbp, .ref mby, .int (nI bl), .int (nI ta), .int (nI tl), .int (nI tk), .int vv, .ref an, .ref va])), (to, .inl (y 0, 228, .inl ft)), (ha, .inl (y 0, 30, .inl (kr_cp fh ft 30)))] := hD
      refine lv_iconst (v := 0) hx hb dX11_summers_41 (by decide) ?_
      refine lv_istore (lv' := [(6, .int 0), (5, .int 0), (3, .long ((nI j4).toInt64)), (0, .ref mo), (1, .int (nI j4)), (2, .int (nI j11))]) hx hb dX11_summers_42 hl (by decide) rfl (fun ls hl => ?_)
      have lp86 : ∀ (fuj91 j91 : Nat) (x52 : Int32) (x53 : Int64) (x54 : Nat → Int32) (H : Heap) (locs : List Loc) (ls : Array Slot), j91 ≤ j11 → j11 - j91 < fuj91 → kr_t 30 x54 → x54 0 = (nI fi) → x54 1 = (nI gl) → va_P D vwCl [(mrf, .inl (y 0, 3, .inl frf)), (mo, .inr (11, [.ref to, .ref ke, .ref ik, .ref mrf, .long mab, .long mbl, .ref ha, .ref r0, .ref mbr, .ref mbp, .ref mby, .int (nI bl), .int (nI ta), .int (nI tl), .int (nI tk), .int vv, .ref an, .ref va])), (to, .inl (y 0, 228, .inl ft)), (ha, .inl (y 0, 30, .inl x54))] H → va_D A [(mrf, .inl (y 0, 3, .inl frf)), (mo, .inr (11, [.ref to, .ref ke, .ref ik, .ref mrf, .long mab, .long mbl, .ref ha, .ref r0, .ref mbr, .ref mbp, .ref mby, .int (nI bl), .int (nI ta), .int (nI tl), .int (nI tk), .int vv, .ref an, .ref va])), (to, .inl (y 0, 228, .inl ft)), (ha, .inl (y 0, 30, .inl x54))] → va_S A s.heap H locs → lv_has ls 7 [(6, .int (nI j91)), (5, .int x52), (3, .long x53), (0, .ref mo), (1, .int (nI j4)), (2, .int (nI j11))] → W pZ l eZ ({ frames := 6, cells := 0, slots := 0, locals := 177 }) s mZ [.ref mo, .int (nI j4), .int (nI j11)].toArray beZ meZ cZ H locs 0 0 (MQ beZ (va_Qi (fun (r : Int32) (u : (Nat → Int32) × (Nat → Int32)) => kr_t 30 u.2 ∧ (gl = 0 ∨ 0 < fi)) (kw_B D (fun u => [(mo, .inr (11, [.ref to, .ref ke, .ref ik, .ref mrf, .long mab, .long mbl, .ref ha, .ref r0, .ref mbr, .ref mbp, .ref mby, .int (nI bl), .int (nI ta), .int (nI tl), .int (nI tk), .int vv, .ref an, .ref va])), (mrf, .inl (y 0, 3, .inl u.1)), (to, .inl (y 0, 228, .inl ft)), (ha, .inl (y 0, 30, .inl u.2))]) A) A) [.ref mo, .int (nI j4), .int (nI j11)].toArray s 0 0 A) (F0 mZ 44 ls []) := by
        intro fuj91
        induction fuj91 with
        | zero => intro j91 x52 x53 x54 H locs ls hj9 hf9; exact absurd hf9 (Nat.not_lt_zero _)
        | succ fuj91 ihj91 =>
          intro j91 x52 x53 x54 H locs ls hj91 hfj91 hr_x54 hk_x54_0 hk_x54_1 hP hD hS hl
          refine lv_iload hx hb dX11_summers_44 (lv_at hl 0 rfl) ?_
          refine lv_iload_n hx hb dX11_summers_46 rfl (lv_at hl 5 rfl) ?_
          refine lv_icmp_ge (tgt := 118) hx hb dX11_summers_47 (by decide) (fun h87 => ?_) (fun h88 => ?_)
          · skip
            have h87 : j11 ≤ j91 := (nI_leI (a := j11) (b := j91) (by omega) (by omega)).mp h87
            refine lv_iload hx hb dX11_summers_118 (lv_at hl 1 rfl) ?_
            exact W.iret (v := x52) hx hb hr (fun tZ ht hW => ⟨⟨x52, (frf, x54), rfl, ⟨hr_x54, by first | omega | (dsimp only; omega)⟩, by rw [ht]; exact hP.sub [1, 0, 2, 3] rfl, hD.sub [1, 0, 2, 3] (by decide) rfl⟩, hS.F ht⟩) hS.2.2 dX11_summers_120
          · skip
            have h88 : ¬ j11 ≤ j91 := fun q9 => h88 ((nI_leI (a := j11) (b := j91) (by omega) (by omega)).mpr q9)
            refine lv_lload_n hx hb dX11_summers_50 rfl (lv_at hl 2 rfl) ?_
            refine lv_ldc2 (v := 1103515245) hx hb hown fw3 dX11_summers_51 ?_
            refine lv_lmul hx hb dX11_summers_54 ?_
            refine lv_ldc2 (v := 12345) hx hb hown fw4 dX11_summers_55 ?_
            refine lv_ladd hx hb dX11_summers_58 ?_
            refine lv_ldc2 (v := 2147483648) hx hb hown fw5 dX11_summers_59 ?_
            refine lv_lrem hx hb dX11_summers_62 (by decide) ?_
            refine lv_lstore_n (lv' := [(3, .long (((x53 * 1103515245) + 12345) - ((x53 * 1103515245) + 12345) / 2147483648 * 2147483648)), (6, .int (nI j91)), (5, .int x52), (0, .ref mo), (1, .int (nI j4)), (2, .int (nI j11))]) hx hb dX11_summers_63 rfl hl (by decide) rfl (fun ls hl => ?_)
            refine lv_aload_n hx hb dX11_summers_64 rfl (lv_at hl 3 rfl) ?_
            refine va_get (D := D) (ci := 11) (v := .ref ha) (C := RX11) (T := TX11) (N := 18) hx hb hts iw11 hown hK hP 1 rfl rfl 6 (by decide) fw6 (fun _ h9 => h9) rfl dX11_summers_65 ?_
            refine lv_bipush (v := 21) hx hb dX11_summers_68 (by decide) ?_
            refine va_iald hx hb hK hP 3 0 rfl rfl (by unfold vp_in; decide) dX11_summers_70 ?_
            rw [show ((21 : Int32)).toNatClampNeg = 21 from rfl]
            refine lv_bipush (v := 12) hx hb dX11_summers_71 (by decide) ?_
            refine lv_icmp_ne (tgt := 83) hx hb dX11_summers_73 (by decide) (fun h89 => ?_) (fun h90 => ?_)
            · skip
              refine lv_aload_n hx hb dX11_summers_83 rfl (lv_at hl 3 rfl) ?_
              refine va_get (D := D) (ci := 11) (v := .ref ha) (C := RX11) (T := TX11) (N := 18) hx hb hts iw11 hown hK hP 1 rfl rfl 6 (by decide) fw6 (fun _ h9 => h9) rfl dX11_summers_84 ?_
              refine lv_bipush (v := 22) hx hb dX11_summers_87 (by decide) ?_
              refine lv_lload_n hx hb dX11_summers_89 rfl (lv_at hl 0 rfl) ?_
              refine lv_ldc2 (v := 65536) hx hb hown fw7 dX11_summers_90 ?_
              refine lv_ldiv hx hb dX11_summers_93 (by decide) ?_
              refine lv_ldc2 (v := 10) hx hb hown fw8 dX11_summers_94 ?_
              refine lv_lrem hx hb dX11_summers_97 (by decide) ?_
              refine lv_l2i (v := (((((x53 * 1103515245) + 12345) - ((x53 * 1103515245) + 12345) / 2147483648 * 2147483648) / 65536) - ((((x53 * 1103515245) + 12345) - ((x53 * 1103515245) + 12345) / 2147483648 * 2147483648) / 65536) / 10 * 10).toInt32) hx hb dX11_summers_98 (rfl) ?_
              refine va_iast hx hb hK hP hD hS 3 0 rfl rfl (by unfold vp_in; decide) dX11_summers_99 (fun H locs hP hD hS => ?_)
              rw [show ((22 : Int32)).toNatClampNeg = 22 from rfl] at hP hD
              have hr91 : kr_t 30 (upd x54 22 ((((((x53 * 1103515245) + 12345) - ((x53 * 1103515245) + 12345) / 2147483648 * 2147483648) / 65536) - ((((x53 * 1103515245) + 12345) - ((x53 * 1103515245) + 12345) / 2147483648 * 2147483648) / 65536) / 10 * 10).toInt32)) := kr_up hr_x54 (kr_free (by unfold kr_a; omega) (by unfold kr_s; omega))
              have hk92 : (upd x54 22 ((((((x53 * 1103515245) + 12345) - ((x53 * 1103515245) + 12345) / 2147483648 * 2147483648) / 65536) - ((((x53 * 1103515245) + 12345) - ((x53 * 1103515245) + 12345) / 2147483648 * 2147483648) / 65536) / 10 * 10).toInt32)) 0 = (nI fi) := (pk_un (by decide)).trans hk_x54_0
              have hk93 : (upd x54 22 ((((((x53 * 1103515245) + 12345) - ((x53 * 1103515245) + 12345) / 2147483648 * 2147483648) / 65536) - ((((x53 * 1103515245) + 12345) - ((x53 * 1103515245) + 12345) / 2147483648 * 2147483648) / 65536) / 10 * 10).toInt32)) 1 = (nI gl) := (pk_un (by decide)).trans hk_x54_1
              have hP : va_P D vwCl [(mrf, .inl (y 0, 3, .inl frf)), (mo, .inr (11, [.ref to, .ref ke, .ref ik, .ref mrf, .long mab, .long mbl, .ref ha, .ref r0, .ref mbr, .ref mbp, .ref mby, .int (nI bl), .int (nI ta), .int (nI tl), .int (nI tk), .int vv, .ref an, .ref va])), (to, .inl (y 0, 228, .inl ft)), (ha, .inl (y 0, 30, .inl (upd x54 22 ((((((x53 * 1103515245) + 12345) - ((x53 * 1103515245) + 12345) / 2147483648 * 2147483648) / 65536) - ((((x53 * 1103515245) + 12345) - ((x53 * 1103515245) + 12345) / 2147483648 * 2147483648) / 65536) / 10 * 10).toInt32))))] H := hP
              have hD : va_D A [(mrf, .inl (y 0, 3, .inl frf)), (mo, .inr (11, [.ref to, .ref ke, .ref ik, .ref mrf, .long mab, .long mbl, .ref ha, .ref r0, .ref mbr, .ref mbp, .ref mby, .int (nI bl), .int (nI ta), .int (nI tl), .int (nI tk), .int vv, .ref an, .ref va])), (to, .inl (y 0, 228, .inl ft)), (ha, .inl (y 0, 30, .inl (upd x54 22 ((((((x53 * 1103515245) + 12345) - ((x53 * 1103515245) + 12345) / 2147483648 * 2147483648) / 65536) - ((((x53 * 1103515245) + 12345) - ((x53 * 1103515245) + 12345) / 2147483648 * 2147483648) / 65536) / 10 * 10).toInt32))))] := hD
              refine lv_iload hx hb dX11_summers_100 (lv_at hl 2 rfl) ?_
              refine lv_aload_n hx hb dX11_summers_102 rfl (lv_at hl 3 rfl) ?_
              refine va_get (D := D) (ci := 11) (v := .ref ha) (C := RX11) (T := TX11) (N := 18) hx hb hts iw11 hown hK hP 1 rfl rfl 6 (by decide) fw6 (fun _ h9 => h9) rfl dX11_summers_103 ?_
              have hs94 : kw_Split [(mrf, .inl (y 0, 3, .inl frf)), (mo, .inr (11, [.ref to, .ref ke, .ref ik, .ref mrf, .long mab, .long mbl, .ref ha, .ref r0, .ref mbr, .ref mbp, .ref mby, .int (nI bl), .int (nI ta), .int (nI tl), .int (nI tk), .int vv, .ref an, .ref va])), (to, .inl (y 0, 228, .inl ft)), (ha, .inl (y 0, 30, .inl (upd x54 22 ((((((x53 * 1103515245) + 12345) - ((x53 * 1103515245) + 12345) / 2147483648 * 2147483648) / 65536) - ((((x53 * 1103515245) + 12345) - ((x53 * 1103515245) + 12345) / 2147483648 * 2147483648) / 65536) / 10 * 10).toInt32))))] [(ha, .inl (y 0, 30, .inl (upd x54 22 ((((((x53 * 1103515245) + 12345) - ((x53 * 1103515245) + 12345) / 2147483648 * 2147483648) / 65536) - ((((x53 * 1103515245) + 12345) - ((x53 * 1103515245) + 12345) / 2147483648 * 2147483648) / 65536) / 10 * 10).toInt32))))] [(mrf, .inl (y 0, 3, .inl frf)), (mo, .inr (11, [.ref to, .ref ke, .ref ik, .ref mrf, .long mab, .long mbl, .ref ha, .ref r0, .ref mbr, .ref mbp, .ref mby, .int (nI bl), .int (nI ta), .int (nI tl), .int (nI tk), .int vv, .ref an, .ref va])), (to, .inl (y 0, 228, .inl ft))] [3] [0, 1, 2] := ⟨rfl, rfl, rfl, rfl, rfl, by decide⟩
              refine kw_go_i hs94 hP hD hS hA (va_runS (As := [.ref ha]) (rest := [.int x52]) ⟨hx, hb, hml, hown, hts⟩ (gr_goStep30 l D y ha (upd x54 22 ((((((x53 * 1103515245) + 12345) - ((x53 * 1103515245) + 12345) / 2147483648 * 2147483648) / 65536) - ((((x53 * 1103515245) + 12345) - ((x53 * 1103515245) + 12345) / 2147483648 * 2147483648) / 65536) / 10 * 10).toInt32)) fi gl hk92 hk93 hr91 hfi hgl _) (va_cwS 1 hts gX11_summers_X11_goStep rfl rfl rfl (by decide +kernel) ⟨Nat.le_of_ble_eq_true rfl, Nat.le_of_ble_eq_true rfl⟩) (kw_PreS hs94 hP hD hK hN) rfl rfl hl.1 rfl (lv_room (Nat.le_of_ble_eq_true rfl)) dX11_summers_106 ⟨Nat.le_of_ble_eq_true rfl, Nat.le_of_ble_eq_true rfl⟩) (fun r95 u96 H locs hq hP hD hS => ?_)
              obtain ⟨v97, rfl⟩ : ∃ z, z = u96 := ⟨_, rfl⟩
              try dsimp only at hq
              obtain ⟨h98, h99, h100⟩ := hq
              have hP : va_P D vwCl [(mrf, .inl (y 0, 3, .inl frf)), (mo, .inr (11, [.ref to, .ref ke, .ref ik, .ref mrf, .long mab, .long mbl, .ref ha, .ref r0, .ref mbr, .ref mbp, .ref mby, .int (nI bl), .int (nI ta), .int (nI tl), .int (nI tk), .int vv, .ref an, .ref va])), (to, .inl (y 0, 228, .inl ft)), (ha, .inl (y 0, 30, .inl v97))] H := hP
              have hD : va_D A [(mrf, .inl (y 0, 3, .inl frf)), (mo, .inr (11, [.ref to, .ref ke, .ref ik, .ref mrf, .long mab, .long mbl, .ref ha, .ref r0, .ref mbr, .ref mbp, .ref mby, .int (nI bl), .int (nI ta), .int (nI tl), .int (nI tk), .int vv, .ref an, .ref va])), (to, .inl (y 0, 228, .inl ft)), (ha, .inl (y 0, 30, .inl v97))] := hD
              refine lv_iadd hx hb dX11_summers_109 ?_
              refine lv_istore (lv' := [(5, .int (x52 + r95)), (3, .long (((x53 * 1103515245) + 12345) - ((x53 * 1103515245) + 12345) / 2147483648 * 2147483648)), (6, .int (nI j91)), (0, .ref mo), (1, .int (nI j4)), (2, .int (nI j11))]) hx hb dX11_summers_110 hl (by decide) rfl (fun ls hl => ?_)
              refine lv_iinc (v := (nI (j91 + 1))) (lv' := [(6, .int (nI (j91 + 1))), (5, .int (x52 + r95)), (3, .long (((x53 * 1103515245) + 12345) - ((x53 * 1103515245) + 12345) / 2147483648 * 2147483648)), (0, .ref mo), (1, .int (nI j4)), (2, .int (nI j11))]) hx hb dX11_summers_112 hl (k := 2) rfl (nI_1 j91) (by decide) rfl (fun ls hl => ?_)
              refine lv_goto (tgt := 44) hx hb dX11_summers_115 (by decide) ?_
              exact ihj91 (j91 + 1) (x52 + r95) (((x53 * 1103515245) + 12345) - ((x53 * 1103515245) + 12345) / 2147483648 * 2147483648) v97 H locs ls (by omega) (by omega) h98 h99 h100 (hP.sub [0, 1, 2, 3] rfl) (hD.sub [0, 1, 2, 3] (by decide) rfl) hS (lv_sub hl [0, 1, 2, 3, 4, 5] rfl)
            · skip
              refine lv_aload_n hx hb dX11_summers_76 rfl (lv_at hl 3 rfl) ?_
              refine va_get (D := D) (ci := 11) (v := .ref ha) (C := RX11) (T := TX11) (N := 18) hx hb hts iw11 hown hK hP 1 rfl rfl 6 (by decide) fw6 (fun _ h9 => h9) rfl dX11_summers_77 ?_
              have hs101 : kw_Split [(mrf, .inl (y 0, 3, .inl frf)), (mo, .inr (11, [.ref to, .ref ke, .ref ik, .ref mrf, .long mab, .long mbl, .ref ha, .ref r0, .ref mbr, .ref mbp, .ref mby, .int (nI bl), .int (nI ta), .int (nI tl), .int (nI tk), .int vv, .ref an, .ref va])), (to, .inl (y 0, 228, .inl ft)), (ha, .inl (y 0, 30, .inl x54))] [(ha, .inl (y 0, 30, .inl x54))] [(mrf, .inl (y 0, 3, .inl frf)), (mo, .inr (11, [.ref to, .ref ke, .ref ik, .ref mrf, .long mab, .long mbl, .ref ha, .ref r0, .ref mbr, .ref mbp, .ref mby, .int (nI bl), .int (nI ta), .int (nI tl), .int (nI tk), .int vv, .ref an, .ref va])), (to, .inl (y 0, 228, .inl ft))] [3] [0, 1, 2] := ⟨rfl, rfl, rfl, rfl, rfl, by decide⟩
              refine kw_go_v hs101 hP hD hS hA (va_runS (As := [.ref ha]) (rest := []) ⟨hx, hb, hml, hown, hts⟩ (gr_goNight30 l D y ha x54 fi gl hk_x54_0 hk_x54_1 hr_x54 hfi hgl _) (va_cwS 1 hts gX11_summers_X11_goNight rfl rfl rfl (by decide +kernel) ⟨Nat.le_of_ble_eq_true rfl, Nat.le_of_ble_eq_true rfl⟩) (kw_PreS hs101 hP hD hK hN) rfl rfl hl.1 rfl (lv_room (Nat.le_of_ble_eq_true rfl)) dX11_summers_80 ⟨Nat.le_of_ble_eq_true rfl, Nat.le_of_ble_eq_true rfl⟩) (fun u103 H locs hq hP hD hS => ?_)
              obtain ⟨v104, rfl⟩ : ∃ z, z = u103 := ⟨_, rfl⟩
              try dsimp only at hq
              obtain ⟨h105, h106, h107⟩ := hq
              have hP : va_P D vwCl [(mrf, .inl (y 0, 3, .inl frf)), (mo, .inr (11, [.ref to, .ref ke, .ref ik, .ref mrf, .long mab, .long mbl, .ref ha, .ref r0, .ref mbr, .ref mbp, .ref mby, .int (nI bl), .int (nI ta), .int (nI tl), .int (nI tk), .int vv, .ref an, .ref va])), (to, .inl (y 0, 228, .inl ft)), (ha, .inl (y 0, 30, .inl v104))] H := hP
              have hD : va_D A [(mrf, .inl (y 0, 3, .inl frf)), (mo, .inr (11, [.ref to, .ref ke, .ref ik, .ref mrf, .long mab, .long mbl, .ref ha, .ref r0, .ref mbr, .ref mbp, .ref mby, .int (nI bl), .int (nI ta), .int (nI tl), .int (nI tk), .int vv, .ref an, .ref va])), (to, .inl (y 0, 228, .inl ft)), (ha, .inl (y 0, 30, .inl v104))] := hD
              refine lv_aload_n hx hb dX11_summers_83 rfl (lv_at hl 3 rfl) ?_
              refine va_get (D := D) (ci := 11) (v := .ref ha) (C := RX11) (T := TX11) (N := 18) hx hb hts iw11 hown hK hP 1 rfl rfl 6 (by decide) fw6 (fun _ h9 => h9) rfl dX11_summers_84 ?_
              refine lv_bipush (v := 22) hx hb dX11_summers_87 (by decide) ?_
              refine lv_lload_n hx hb dX11_summers_89 rfl (lv_at hl 0 rfl) ?_
              refine lv_ldc2 (v := 65536) hx hb hown fw7 dX11_summers_90 ?_
              refine lv_ldiv hx hb dX11_summers_93 (by decide) ?_
              refine lv_ldc2 (v := 10) hx hb hown fw8 dX11_summers_94 ?_
              refine lv_lrem hx hb dX11_summers_97 (by decide) ?_
              refine lv_l2i (v := (((((x53 * 1103515245) + 12345) - ((x53 * 1103515245) + 12345) / 2147483648 * 2147483648) / 65536) - ((((x53 * 1103515245) + 12345) - ((x53 * 1103515245) + 12345) / 2147483648 * 2147483648) / 65536) / 10 * 10).toInt32) hx hb dX11_summers_98 (rfl) ?_
              refine va_iast hx hb hK hP hD hS 3 0 rfl rfl (by unfold vp_in; decide) dX11_summers_99 (fun H locs hP hD hS => ?_)
              rw [show ((22 : Int32)).toNatClampNeg = 22 from rfl] at hP hD
              have hr108 : kr_t 30 (upd v104 22 ((((((x53 * 1103515245) + 12345) - ((x53 * 1103515245) + 12345) / 2147483648 * 2147483648) / 65536) - ((((x53 * 1103515245) + 12345) - ((x53 * 1103515245) + 12345) / 2147483648 * 2147483648) / 65536) / 10 * 10).toInt32)) := kr_up h105 (kr_free (by unfold kr_a; omega) (by unfold kr_s; omega))
              have hk109 : (upd v104 22 ((((((x53 * 1103515245) + 12345) - ((x53 * 1103515245) + 12345) / 2147483648 * 2147483648) / 65536) - ((((x53 * 1103515245) + 12345) - ((x53 * 1103515245) + 12345) / 2147483648 * 2147483648) / 65536) / 10 * 10).toInt32)) 0 = (nI fi) := (pk_un (by decide)).trans h106
              have hk110 : (upd v104 22 ((((((x53 * 1103515245) + 12345) - ((x53 * 1103515245) + 12345) / 2147483648 * 2147483648) / 65536) - ((((x53 * 1103515245) + 12345) - ((x53 * 1103515245) + 12345) / 2147483648 * 2147483648) / 65536) / 10 * 10).toInt32)) 1 = (nI gl) := (pk_un (by decide)).trans h107
              have hP : va_P D vwCl [(mrf, .inl (y 0, 3, .inl frf)), (mo, .inr (11, [.ref to, .ref ke, .ref ik, .ref mrf, .long mab, .long mbl, .ref ha, .ref r0, .ref mbr, .ref mbp, .ref mby, .int (nI bl), .int (nI ta), .int (nI tl), .int (nI tk), .int vv, .ref an, .ref va])), (to, .inl (y 0, 228, .inl ft)), (ha, .inl (y 0, 30, .inl (upd v104 22 ((((((x53 * 1103515245) + 12345) - ((x53 * 1103515245) + 12345) / 2147483648 * 2147483648) / 65536) - ((((x53 * 1103515245) + 12345) - ((x53 * 1103515245) + 12345) / 2147483648 * 2147483648) / 65536) / 10 * 10).toInt32))))] H := hP
              have hD : va_D A [(mrf, .inl (y 0, 3, .inl frf)), (mo, .inr (11, [.ref to, .ref ke, .ref ik, .ref mrf, .long mab, .long mbl, .ref ha, .ref r0, .ref mbr, .ref mbp, .ref mby, .int (nI bl), .int (nI ta), .int (nI tl), .int (nI tk), .int vv, .ref an, .ref va])), (to, .inl (y 0, 228, .inl ft)), (ha, .inl (y 0, 30, .inl (upd v104 22 ((((((x53 * 1103515245) + 12345) - ((x53 * 1103515245) + 12345) / 2147483648 * 2147483648) / 65536) - ((((x53 * 1103515245) + 12345) - ((x53 * 1103515245) + 12345) / 2147483648 * 2147483648) / 65536) / 10 * 10).toInt32))))] := hD
              refine lv_iload hx hb dX11_summers_100 (lv_at hl 2 rfl) ?_
              refine lv_aload_n hx hb dX11_summers_102 rfl (lv_at hl 3 rfl) ?_
              refine va_get (D := D) (ci := 11) (v := .ref ha) (C := RX11) (T := TX11) (N := 18) hx hb hts iw11 hown hK hP 1 rfl rfl 6 (by decide) fw6 (fun _ h9 => h9) rfl dX11_summers_103 ?_
              have hs111 : kw_Split [(mrf, .inl (y 0, 3, .inl frf)), (mo, .inr (11, [.ref to, .ref ke, .ref ik, .ref mrf, .long mab, .long mbl, .ref ha, .ref r0, .ref mbr, .ref mbp, .ref mby, .int (nI bl), .int (nI ta), .int (nI tl), .int (nI tk), .int vv, .ref an, .ref va])), (to, .inl (y 0, 228, .inl ft)), (ha, .inl (y 0, 30, .inl (upd v104 22 ((((((x53 * 1103515245) + 12345) - ((x53 * 1103515245) + 12345) / 2147483648 * 2147483648) / 65536) - ((((x53 * 1103515245) + 12345) - ((x53 * 1103515245) + 12345) / 2147483648 * 2147483648) / 65536) / 10 * 10).toInt32))))] [(ha, .inl (y 0, 30, .inl (upd v104 22 ((((((x53 * 1103515245) + 12345) - ((x53 * 1103515245) + 12345) / 2147483648 * 2147483648) / 65536) - ((((x53 * 1103515245) + 12345) - ((x53 * 1103515245) + 12345) / 2147483648 * 2147483648) / 65536) / 10 * 10).toInt32))))] [(mrf, .inl (y 0, 3, .inl frf)), (mo, .inr (11, [.ref to, .ref ke, .ref ik, .ref mrf, .long mab, .long mbl, .ref ha, .ref r0, .ref mbr, .ref mbp, .ref mby, .int (nI bl), .int (nI ta), .int (nI tl), .int (nI tk), .int vv, .ref an, .ref va])), (to, .inl (y 0, 228, .inl ft))] [3] [0, 1, 2] := ⟨rfl, rfl, rfl, rfl, rfl, by decide⟩
              refine kw_go_i hs111 hP hD hS hA (va_runS (As := [.ref ha]) (rest := [.int x52]) ⟨hx, hb, hml, hown, hts⟩ (gr_goStep30 l D y ha (upd v104 22 ((((((x53 * 1103515245) + 12345) - ((x53 * 1103515245) + 12345) / 2147483648 * 2147483648) / 65536) - ((((x53 * 1103515245) + 12345) - ((x53 * 1103515245) + 12345) / 2147483648 * 2147483648) / 65536) / 10 * 10).toInt32)) fi gl hk109 hk110 hr108 hfi hgl _) (va_cwS 1 hts gX11_summers_X11_goStep rfl rfl rfl (by decide +kernel) ⟨Nat.le_of_ble_eq_true rfl, Nat.le_of_ble_eq_true rfl⟩) (kw_PreS hs111 hP hD hK hN) rfl rfl hl.1 rfl (lv_room (Nat.le_of_ble_eq_true rfl)) dX11_summers_106 ⟨Nat.le_of_ble_eq_true rfl, Nat.le_of_ble_eq_true rfl⟩) (fun r112 u113 H locs hq hP hD hS => ?_)
              obtain ⟨v114, rfl⟩ : ∃ z, z = u113 := ⟨_, rfl⟩
              try dsimp only at hq
              obtain ⟨h115, h116, h117⟩ := hq
              have hP : va_P D vwCl [(mrf, .inl (y 0, 3, .inl frf)), (mo, .inr (11, [.ref to, .ref ke, .ref ik, .ref mrf, .long mab, .long mbl, .ref ha, .ref r0, .ref mbr, .ref mbp, .ref mby, .int (nI bl), .int (nI ta), .int (nI tl), .int (nI tk), .int vv, .ref an, .ref va])), (to, .inl (y 0, 228, .inl ft)), (ha, .inl (y 0, 30, .inl v114))] H := hP
              have hD : va_D A [(mrf, .inl (y 0, 3, .inl frf)), (mo, .inr (11, [.ref to, .ref ke, .ref ik, .ref mrf, .long mab, .long mbl, .ref ha, .ref r0, .ref mbr, .ref mbp, .ref mby, .int (nI bl), .int (nI ta), .int (nI tl), .int (nI tk), .int vv, .ref an, .ref va])), (to, .inl (y 0, 228, .inl ft)), (ha, .inl (y 0, 30, .inl v114))] := hD
              refine lv_iadd hx hb dX11_summers_109 ?_
              refine lv_istore (lv' := [(5, .int (x52 + r112)), (3, .long (((x53 * 1103515245) + 12345) - ((x53 * 1103515245) + 12345) / 2147483648 * 2147483648)), (6, .int (nI j91)), (0, .ref mo), (1, .int (nI j4)), (2, .int (nI j11))]) hx hb dX11_summers_110 hl (by decide) rfl (fun ls hl => ?_)
              refine lv_iinc (v := (nI (j91 + 1))) (lv' := [(6, .int (nI (j91 + 1))), (5, .int (x52 + r112)), (3, .long (((x53 * 1103515245) + 12345) - ((x53 * 1103515245) + 12345) / 2147483648 * 2147483648)), (0, .ref mo), (1, .int (nI j4)), (2, .int (nI j11))]) hx hb dX11_summers_112 hl (k := 2) rfl (nI_1 j91) (by decide) rfl (fun ls hl => ?_)
              refine lv_goto (tgt := 44) hx hb dX11_summers_115 (by decide) ?_
              exact ihj91 (j91 + 1) (x52 + r112) (((x53 * 1103515245) + 12345) - ((x53 * 1103515245) + 12345) / 2147483648 * 2147483648) v114 H locs ls (by omega) (by omega) h115 h116 h117 (hP.sub [0, 1, 2, 3] rfl) (hD.sub [0, 1, 2, 3] (by decide) rfl) hS (lv_sub hl [0, 1, 2, 3, 4, 5] rfl)
      exact lp86 (j11 + 1) 0 0 ((nI j4).toInt64) (kr_cp fh ft 30) _ _ _ (by omega) (by omega) h18 hk19 hk20 hP hD hS (lv_sub hl [0, 1, 2, 3, 4, 5] rfl)
    · skip
      have hP : va_P D vwCl [(mo, .inr (11, [.ref to, .ref ke, .ref ik, .ref mrf, .long mab, .long mbl, .ref ha, .ref r0, .ref mbr, .ref mbp, .ref mby, .int (nI bl), .int (nI ta), .int (nI tl), .int (nI tk), .int vv, .ref an, .ref va])), (mrf, .inl (y 0, 3, .inl frf)), (to, .inl (y 0, 228, .inl ft)), (ha, .inl (y 0, 30, .inl fh))] H := hP
      have hD : va_D A [(mo, .inr (11, [.ref to, .ref ke, .ref ik, .ref mrf, .long mab, .long mbl, .ref ha, .ref r0, .ref mbr, .ref mbp, .ref mby, .int (nI bl), .int (nI ta), .int (nI tl), .int (nI tk), .int vv, .ref an, .ref va])), (mrf, .inl (y 0, 3, .inl frf)), (to, .inl (y 0, 228, .inl ft)), (ha, .inl (y 0, 30, .inl fh))] := hD
      refine lv_if_ne (tgt := 31) hx hb dX11_summers_21 (by decide) (fun h9 => absurd h9 (by decide)) (fun _ => ?_)
      refine lv_aload_n hx hb dX11_summers_24 rfl (lv_at hl 0 rfl) ?_
      refine lv_bipush (v := (-2)) hx hb dX11_summers_25 (by decide) ?_
      have hs118 : kw_Split [(mo, .inr (11, [.ref to, .ref ke, .ref ik, .ref mrf, .long mab, .long mbl, .ref ha, .ref r0, .ref mbr, .ref mbp, .ref mby, .int (nI bl), .int (nI ta), .int (nI tl), .int (nI tk), .int vv, .ref an, .ref va])), (mrf, .inl (y 0, 3, .inl frf)), (to, .inl (y 0, 228, .inl ft)), (ha, .inl (y 0, 30, .inl fh))] [(mo, .inr (11, [.ref to, .ref ke, .ref ik, .ref mrf, .long mab, .long mbl, .ref ha, .ref r0, .ref mbr, .ref mbp, .ref mby, .int (nI bl), .int (nI ta), .int (nI tl), .int (nI tk), .int vv, .ref an, .ref va])), (mrf, .inl (y 0, 3, .inl frf))] [(to, .inl (y 0, 228, .inl ft)), (ha, .inl (y 0, 30, .inl fh))] [0, 1] [2, 3] := ⟨rfl, rfl, rfl, rfl, rfl, by decide⟩
      refine kw_go_i hs118 hP hD hS hA (va_runV (As := [.int (-2)]) (rest := []) ⟨hx, hb, hml, hown, hts⟩ (gr_bad l D y mo to ke ik mrf ha r0 mbr mbp mby an va mab mbl bl ta tl tk vv frf (-2)  _) (cwV 1 hts gX11_summers_X11_bad rfl rfl rfl (by decide +kernel) ⟨Nat.le_of_ble_eq_true rfl, Nat.le_of_ble_eq_true rfl⟩) (kw_PreV (ci := 11) (q0 := 0) hs118 hP hD hK hN rfl rfl) rfl rfl hl.1 rfl (lv_room (Nat.le_of_ble_eq_true rfl)) dX11_summers_27 ⟨Nat.le_of_ble_eq_true rfl, Nat.le_of_ble_eq_true rfl⟩) (fun r119 u120 H locs hq hP hD hS => ?_)
      obtain rfl := hq
      have hP : va_P D vwCl [(to, .inl (y 0, 228, .inl ft)), (ha, .inl (y 0, 30, .inl fh)), (mo, .inr (11, [.ref to, .ref ke, .ref ik, .ref mrf, .long mab, .long mbl, .ref ha, .ref r0, .ref mbr, .ref mbp, .ref mby, .int (nI bl), .int (nI ta), .int (nI tl), .int (nI tk), .int vv, .ref an, .ref va])), (mrf, .inl (y 0, 3, .inl (upd frf 0 ((frf 0) + 1))))] H := hP
      have hD : va_D A [(to, .inl (y 0, 228, .inl ft)), (ha, .inl (y 0, 30, .inl fh)), (mo, .inr (11, [.ref to, .ref ke, .ref ik, .ref mrf, .long mab, .long mbl, .ref ha, .ref r0, .ref mbr, .ref mbp, .ref mby, .int (nI bl), .int (nI ta), .int (nI tl), .int (nI tk), .int vv, .ref an, .ref va])), (mrf, .inl (y 0, 3, .inl (upd frf 0 ((frf 0) + 1))))] := hD
      exact W.iret (v := (-2)) hx hb hr (fun tZ ht hW => ⟨⟨(-2), ((upd frf 0 ((frf 0) + 1)), fh), rfl, ⟨hkh, by first | omega | (dsimp only; omega)⟩, by rw [ht]; exact hP.sub [2, 3, 0, 1] rfl, hD.sub [2, 3, 0, 1] (by decide) rfl⟩, hS.F ht⟩) hS.2.2 dX11_summers_30
  · skip
    have hP : va_P D vwCl [(mo, .inr (11, [.ref to, .ref ke, .ref ik, .ref mrf, .long mab, .long mbl, .ref ha, .ref r0, .ref mbr, .ref mbp, .ref mby, .int (nI bl), .int (nI ta), .int (nI tl), .int (nI tk), .int vv, .ref an, .ref va])), (mrf, .inl (y 0, 3, .inl frf)), (to, .inl (y 0, 228, .inl ft)), (ha, .inl (y 0, 30, .inl fh))] H := hP
    have hD : va_D A [(mo, .inr (11, [.ref to, .ref ke, .ref ik, .ref mrf, .long mab, .long mbl, .ref ha, .ref r0, .ref mbr, .ref mbp, .ref mby, .int (nI bl), .int (nI ta), .int (nI tl), .int (nI tk), .int vv, .ref an, .ref va])), (mrf, .inl (y 0, 3, .inl frf)), (to, .inl (y 0, 228, .inl ft)), (ha, .inl (y 0, 30, .inl fh))] := hD
    refine lv_if_eq (tgt := 24) hx hb dX11_summers_9 (by decide) (fun _ => ?_) (fun h9 => absurd h9 (by decide))
    refine lv_aload_n hx hb dX11_summers_24 rfl (lv_at hl 0 rfl) ?_
    refine lv_bipush (v := (-2)) hx hb dX11_summers_25 (by decide) ?_
    have hs121 : kw_Split [(mo, .inr (11, [.ref to, .ref ke, .ref ik, .ref mrf, .long mab, .long mbl, .ref ha, .ref r0, .ref mbr, .ref mbp, .ref mby, .int (nI bl), .int (nI ta), .int (nI tl), .int (nI tk), .int vv, .ref an, .ref va])), (mrf, .inl (y 0, 3, .inl frf)), (to, .inl (y 0, 228, .inl ft)), (ha, .inl (y 0, 30, .inl fh))] [(mo, .inr (11, [.ref to, .ref ke, .ref ik, .ref mrf, .long mab, .long mbl, .ref ha, .ref r0, .ref mbr, .ref mbp, .ref mby, .int (nI bl), .int (nI ta), .int (nI tl), .int (nI tk), .int vv, .ref an, .ref va])), (mrf, .inl (y 0, 3, .inl frf))] [(to, .inl (y 0, 228, .inl ft)), (ha, .inl (y 0, 30, .inl fh))] [0, 1] [2, 3] := ⟨rfl, rfl, rfl, rfl, rfl, by decide⟩
    refine kw_go_i hs121 hP hD hS hA (va_runV (As := [.int (-2)]) (rest := []) ⟨hx, hb, hml, hown, hts⟩ (gr_bad l D y mo to ke ik mrf ha r0 mbr mbp mby an va mab mbl bl ta tl tk vv frf (-2)  _) (cwV 1 hts gX11_summers_X11_bad rfl rfl rfl (by decide +kernel) ⟨Nat.le_of_ble_eq_true rfl, Nat.le_of_ble_eq_true rfl⟩) (kw_PreV (ci := 11) (q0 := 0) hs121 hP hD hK hN rfl rfl) rfl rfl hl.1 rfl (lv_room (Nat.le_of_ble_eq_true rfl)) dX11_summers_27 ⟨Nat.le_of_ble_eq_true rfl, Nat.le_of_ble_eq_true rfl⟩) (fun r122 u123 H locs hq hP hD hS => ?_)
    obtain rfl := hq
    have hP : va_P D vwCl [(to, .inl (y 0, 228, .inl ft)), (ha, .inl (y 0, 30, .inl fh)), (mo, .inr (11, [.ref to, .ref ke, .ref ik, .ref mrf, .long mab, .long mbl, .ref ha, .ref r0, .ref mbr, .ref mbp, .ref mby, .int (nI bl), .int (nI ta), .int (nI tl), .int (nI tk), .int vv, .ref an, .ref va])), (mrf, .inl (y 0, 3, .inl (upd frf 0 ((frf 0) + 1))))] H := hP
    have hD : va_D A [(to, .inl (y 0, 228, .inl ft)), (ha, .inl (y 0, 30, .inl fh)), (mo, .inr (11, [.ref to, .ref ke, .ref ik, .ref mrf, .long mab, .long mbl, .ref ha, .ref r0, .ref mbr, .ref mbp, .ref mby, .int (nI bl), .int (nI ta), .int (nI tl), .int (nI tk), .int vv, .ref an, .ref va])), (mrf, .inl (y 0, 3, .inl (upd frf 0 ((frf 0) + 1))))] := hD
    exact W.iret (v := (-2)) hx hb hr (fun tZ ht hW => ⟨⟨(-2), ((upd frf 0 ((frf 0) + 1)), fh), rfl, ⟨hkh, by first | omega | (dsimp only; omega)⟩, by rw [ht]; exact hP.sub [2, 3, 0, 1] rfl, hD.sub [2, 3, 0, 1] (by decide) rfl⟩, hS.F ht⟩) hS.2.2 dX11_summers_30

set_option maxHeartbeats 4000000 in
set_option maxRecDepth 100000 in
theorem gq_clear (l : Launch) (D : va_G) (y : Nat → ClassId) (mo : Nat) (to : Nat) (ke : Nat) (ik : Nat) (mrf : Nat) (ha : Nat) (r0 : Nat) (mbr : Nat) (mbp : Nat) (mby : Nat) (an : Nat) (va : Nat) (mab : Int64) (mbl : Int64) (bl : Nat) (ta : Nat) (tl : Nat) (tk : Nat) (vv : Int32) (hbl : bl ≤ 150) : kw_Mi l yX11_clear wsX11_clear ({ frames := 1, cells := 0, slots := 0, locals := 60 }) D y [.ref mo] [(mo, .inr (11, [.ref to, .ref ke, .ref ik, .ref mrf, .long mab, .long mbl, .ref ha, .ref r0, .ref mbr, .ref mbp, .ref mby, .int (nI bl), .int (nI ta), .int (nI tl), .int (nI tk), .int vv, .ref an, .ref va]))] (fun (r : Int32) (u : Unit) => r = (nI bl)) (fun _ => [(mo, .inr (11, [.ref to, .ref ke, .ref ik, .ref mrf, .long mab, .long mbl, .ref ha, .ref r0, .ref mbr, .ref mbp, .ref mby, .int 0, .int (nI ta), .int (nI tl), .int (nI tk), .int vv, .ref an, .ref va]))]) 0 0 := by
  refine kw_Mi.of (cc := cX11_clear) (maxL := 2) (ret := (some .int)) (by decide) rfl ?_
  intro pZ eZ s mZ beZ meZ cZ A hE
  obtain ⟨hx, hb, hr, hml, hts, hown, hlocks, hin, hA, hP, hD, hK, hN⟩ := hE
  have hS : va_S A s.heap s.heap [] := va_S.rf
  have hl := lv_entry ([.ref mo]) (n := 2) (Nat.le_of_ble_eq_true rfl)
  rw [lg_entry_eq]
  generalize (lg_sl ([.ref mo]) ++ List.replicate (2 - (lg_sl ([.ref mo])).length) Slot.unset).toArray = ls at hl ⊢
  have hl : lv_has ls 2 [(0, .ref mo)] := hl
  have fw1 := hts (.fieldLink RX11 210 "GleanDuskModel" "bytesLong" "I") (List.mem_of_getElem? (i := 1) rfl)
  have iw11 : ∀ w ∈ wsX110, w ∈ wsX11_clear := fun _ h => List.mem_cons_of_mem _ (List.mem_append_right _ h)
  refine lv_aload_n hx hb dX11_clear_0 rfl (lv_at hl 0 rfl) ?_
  refine va_get (D := D) (ci := 11) (v := .int (nI bl)) (C := RX11) (T := TX11) (N := 18) hx hb hts iw11 hown hK hP 0 rfl rfl 11 (by decide) fw1 (fun _ h9 => h9) rfl dX11_clear_1 ?_
  refine lv_istore_n (lv' := [(1, .int (nI bl)), (0, .ref mo)]) hx hb dX11_clear_4 rfl hl (by decide) rfl (fun ls hl => ?_)
  refine lv_aload_n hx hb dX11_clear_5 rfl (lv_at hl 1 rfl) ?_
  refine lv_iconst (v := 0) hx hb dX11_clear_6 (by decide) ?_
  refine va_put (D := D) (ci := 11) (v := .int 0) (ty := .int) (C := RX11) (T := TX11) (N := 18) hx hb hts iw11 tyX11 tyX11_ok nmX11 hown hK hP hD hS 0 rfl rfl 11 (by decide) fw1 (fun _ h9 => h9) rfl (by decide +kernel) rfl rfl (Nat.le_of_ble_eq_true rfl) dX11_clear_7 (fun H locs hP hD hS => ?_)
  have hP : va_P D vwCl [(mo, .inr (11, [.ref to, .ref ke, .ref ik, .ref mrf, .long mab, .long mbl, .ref ha, .ref r0, .ref mbr, .ref mbp, .ref mby, .int 0, .int (nI ta), .int (nI tl), .int (nI tk), .int vv, .ref an, .ref va]))] H := hP
  have hD : va_D A [(mo, .inr (11, [.ref to, .ref ke, .ref ik, .ref mrf, .long mab, .long mbl, .ref ha, .ref r0, .ref mbr, .ref mbp, .ref mby, .int 0, .int (nI ta), .int (nI tl), .int (nI tk), .int vv, .ref an, .ref va]))] := hD
  refine lv_iload_n hx hb dX11_clear_10 rfl (lv_at hl 0 rfl) ?_
  exact W.iret (v := (nI bl)) hx hb hr (fun tZ ht hW => ⟨⟨(nI bl), (), rfl, rfl, by rw [ht]; exact hP.sub [0] rfl, hD.sub [0] (by decide) rfl⟩, hS.F ht⟩) hS.2.2 dX11_clear_11

set_option maxHeartbeats 4000000 in
set_option maxRecDepth 100000 in
theorem gq_part (l : Launch) (D : va_G) (y : Nat → ClassId) (mo : Nat) (to : Nat) (ke : Nat) (ik : Nat) (mrf : Nat) (ha : Nat) (r0 : Nat) (mbr : Nat) (mbp : Nat) (mby : Nat) (an : Nat) (va : Nat) (mab : Int64) (mbl : Int64) (bl : Nat) (ta : Nat) (tl : Nat) (tk : Nat) (vv : Int32) (frf : Nat → Int32) (x : Int32)  : kw_Ml l yX11_part wsX11_part ({ frames := 2, cells := 0, slots := 0, locals := 81 }) D y [.ref mo, .int x] [(mo, .inr (11, [.ref to, .ref ke, .ref ik, .ref mrf, .long mab, .long mbl, .ref ha, .ref r0, .ref mbr, .ref mbp, .ref mby, .int (nI bl), .int (nI ta), .int (nI tl), .int (nI tk), .int vv, .ref an, .ref va])), (mrf, .inl (y 0, 3, .inl frf))] (fun (r : Int64) (u : (Nat → Int32)) => True) (fun u => [(mo, .inr (11, [.ref to, .ref ke, .ref ik, .ref mrf, .long mab, .long mbl, .ref ha, .ref r0, .ref mbr, .ref mbp, .ref mby, .int (nI bl), .int (nI ta), .int (nI tl), .int (nI tk), .int vv, .ref an, .ref va])), (mrf, .inl (y 0, 3, .inl u))]) 0 0 := by
  refine kw_Ml.of (cc := cX11_part) (maxL := 2) (ret := (some .long)) (by decide) rfl ?_
  intro pZ eZ s mZ beZ meZ cZ A hE
  obtain ⟨hx, hb, hr, hml, hts, hown, hlocks, hin, hA, hP, hD, hK, hN⟩ := hE
  have hS : va_S A s.heap s.heap [] := va_S.rf
  have hl := lv_entry ([.ref mo, .int x]) (n := 2) (Nat.le_of_ble_eq_true rfl)
  rw [lg_entry_eq]
  generalize (lg_sl ([.ref mo, .int x]) ++ List.replicate (2 - (lg_sl ([.ref mo, .int x])).length) Slot.unset).toArray = ls at hl ⊢
  have hl : lv_has ls 2 [(0, .ref mo), (1, .int x)] := hl
  have fw1 := hts (.fieldLink RX11 23 "GleanDuskModel" "below" "J") (List.mem_of_getElem? (i := 2) rfl)
  have fw2 := hts (.fieldLink RX11 189 "GleanDuskModel" "above" "J") (List.mem_of_getElem? (i := 1) rfl)
  have iw11 : ∀ w ∈ wsX110, w ∈ wsX11_part := fun _ h => List.mem_cons_of_mem _ (List.mem_append_right _ h)
  refine lv_iload_n hx hb dX11_part_0 rfl (lv_at hl 1 rfl) ?_
  refine lv_if_ne (tgt := 11) hx hb dX11_part_1 (by decide) (fun h1 => ?_) (fun h2 => ?_)
  · skip
    refine lv_iload_n hx hb dX11_part_11 rfl (lv_at hl 1 rfl) ?_
    refine lv_iconst (v := 1) hx hb dX11_part_12 (by decide) ?_
    refine lv_icmp_ne (tgt := 23) hx hb dX11_part_13 (by decide) (fun h3 => ?_) (fun h4 => ?_)
    · skip
      refine lv_aload_n hx hb dX11_part_23 rfl (lv_at hl 0 rfl) ?_
      refine lv_bipush (v := (-2)) hx hb dX11_part_24 (by decide) ?_
      have hs5 : kw_Split [(mo, .inr (11, [.ref to, .ref ke, .ref ik, .ref mrf, .long mab, .long mbl, .ref ha, .ref r0, .ref mbr, .ref mbp, .ref mby, .int (nI bl), .int (nI ta), .int (nI tl), .int (nI tk), .int vv, .ref an, .ref va])), (mrf, .inl (y 0, 3, .inl frf))] [(mo, .inr (11, [.ref to, .ref ke, .ref ik, .ref mrf, .long mab, .long mbl, .ref ha, .ref r0, .ref mbr, .ref mbp, .ref mby, .int (nI bl), .int (nI ta), .int (nI tl), .int (nI tk), .int vv, .ref an, .ref va])), (mrf, .inl (y 0, 3, .inl frf))] [] [0, 1] [] := ⟨rfl, rfl, rfl, rfl, rfl, by decide⟩
      refine kw_go_i hs5 hP hD hS hA (va_runV (As := [.int (-2)]) (rest := []) ⟨hx, hb, hml, hown, hts⟩ (gr_bad l D y mo to ke ik mrf ha r0 mbr mbp mby an va mab mbl bl ta tl tk vv frf (-2)  _) (cwV 1 hts gX11_part_X11_bad rfl rfl rfl (by decide +kernel) ⟨Nat.le_of_ble_eq_true rfl, Nat.le_of_ble_eq_true rfl⟩) (kw_PreV (ci := 11) (q0 := 0) hs5 hP hD hK hN rfl rfl) rfl rfl hl.1 rfl (lv_room (Nat.le_of_ble_eq_true rfl)) dX11_part_26 ⟨Nat.le_of_ble_eq_true rfl, Nat.le_of_ble_eq_true rfl⟩) (fun r6 u7 H locs hq hP hD hS => ?_)
      obtain rfl := hq
      have hP : va_P D vwCl [(mo, .inr (11, [.ref to, .ref ke, .ref ik, .ref mrf, .long mab, .long mbl, .ref ha, .ref r0, .ref mbr, .ref mbp, .ref mby, .int (nI bl), .int (nI ta), .int (nI tl), .int (nI tk), .int vv, .ref an, .ref va])), (mrf, .inl (y 0, 3, .inl (upd frf 0 ((frf 0) + 1))))] H := hP
      have hD : va_D A [(mo, .inr (11, [.ref to, .ref ke, .ref ik, .ref mrf, .long mab, .long mbl, .ref ha, .ref r0, .ref mbr, .ref mbp, .ref mby, .int (nI bl), .int (nI ta), .int (nI tl), .int (nI tk), .int vv, .ref an, .ref va])), (mrf, .inl (y 0, 3, .inl (upd frf 0 ((frf 0) + 1))))] := hD
      refine lv_i2l (v := (-2)) hx hb dX11_part_29 (by decide) ?_
      exact W.lret (v := (-2)) hx hb hr (fun tZ ht hW => ⟨⟨(-2), ((upd frf 0 ((frf 0) + 1))), rfl, trivial, by rw [ht]; exact hP.sub [0, 1] rfl, hD.sub [0, 1] (by decide) rfl⟩, hS.F ht⟩) hS.2.2 dX11_part_30
    · skip
      refine lv_aload_n hx hb dX11_part_16 rfl (lv_at hl 0 rfl) ?_
      refine va_get (D := D) (ci := 11) (v := .long mbl) (C := RX11) (T := TX11) (N := 18) hx hb hts iw11 hown hK hP 0 rfl rfl 5 (by decide) fw1 (fun _ h9 => h9) rfl dX11_part_17 ?_
      refine lv_goto (tgt := 30) hx hb dX11_part_20 (by decide) ?_
      exact W.lret (v := mbl) hx hb hr (fun tZ ht hW => ⟨⟨mbl, (frf), rfl, trivial, by rw [ht]; exact hP.sub [0, 1] rfl, hD.sub [0, 1] (by decide) rfl⟩, hS.F ht⟩) hS.2.2 dX11_part_30
  · skip
    refine lv_aload_n hx hb dX11_part_4 rfl (lv_at hl 0 rfl) ?_
    refine va_get (D := D) (ci := 11) (v := .long mab) (C := RX11) (T := TX11) (N := 18) hx hb hts iw11 hown hK hP 0 rfl rfl 4 (by decide) fw2 (fun _ h9 => h9) rfl dX11_part_5 ?_
    refine lv_goto (tgt := 30) hx hb dX11_part_8 (by decide) ?_
    exact W.lret (v := mab) hx hb hr (fun tZ ht hW => ⟨⟨mab, (frf), rfl, trivial, by rw [ht]; exact hP.sub [0, 1] rfl, hD.sub [0, 1] (by decide) rfl⟩, hS.F ht⟩) hS.2.2 dX11_part_30

set_option maxHeartbeats 4000000 in
set_option maxRecDepth 100000 in
theorem gq_status (l : Launch) (D : va_G) (y : Nat → ClassId) (mo : Nat) (to : Nat) (ke : Nat) (ik : Nat) (mrf : Nat) (ha : Nat) (r0 : Nat) (mbr : Nat) (mbp : Nat) (mby : Nat) (an : Nat) (va : Nat) (mab : Int64) (mbl : Int64) (bl : Nat) (ta : Nat) (tl : Nat) (tk : Nat) (vv : Int32) (frf : Nat → Int32) (x : Int32)  : kw_Mi l yX11_status wsX11_status ({ frames := 2, cells := 0, slots := 0, locals := 85 }) D y [.ref mo, .int x] [(mo, .inr (11, [.ref to, .ref ke, .ref ik, .ref mrf, .long mab, .long mbl, .ref ha, .ref r0, .ref mbr, .ref mbp, .ref mby, .int (nI bl), .int (nI ta), .int (nI tl), .int (nI tk), .int vv, .ref an, .ref va])), (mrf, .inl (y 0, 3, .inl frf))] (fun (r : Int32) (u : (Nat → Int32)) => True) (fun u => [(mo, .inr (11, [.ref to, .ref ke, .ref ik, .ref mrf, .long mab, .long mbl, .ref ha, .ref r0, .ref mbr, .ref mbp, .ref mby, .int (nI bl), .int (nI ta), .int (nI tl), .int (nI tk), .int vv, .ref an, .ref va])), (mrf, .inl (y 0, 3, .inl u))]) 0 0 := by
  refine kw_Mi.of (cc := cX11_status) (maxL := 2) (ret := (some .int)) (by decide) rfl ?_
  intro pZ eZ s mZ beZ meZ cZ A hE
  obtain ⟨hx, hb, hr, hml, hts, hown, hlocks, hin, hA, hP, hD, hK, hN⟩ := hE
  have hS : va_S A s.heap s.heap [] := va_S.rf
  have hl := lv_entry ([.ref mo, .int x]) (n := 2) (Nat.le_of_ble_eq_true rfl)
  rw [lg_entry_eq]
  generalize (lg_sl ([.ref mo, .int x]) ++ List.replicate (2 - (lg_sl ([.ref mo, .int x])).length) Slot.unset).toArray = ls at hl ⊢
  have hl : lv_has ls 2 [(0, .ref mo), (1, .int x)] := hl
  have fw1 := hts (.constantLong RX11 136 (2)) (List.mem_of_getElem? (i := 1) rfl)
  have fw2 := hts (.fieldLink RX11 20 "GleanDuskModel" "refused" "[I") (List.mem_of_getElem? (i := 2) rfl)
  have iw11 : ∀ w ∈ wsX110, w ∈ wsX11_status := fun _ h => List.mem_cons_of_mem _ (List.mem_append_right _ h)
  refine lv_iload_n hx hb dX11_status_0 rfl (lv_at hl 1 rfl) ?_
  refine lv_i2l (v := x.toInt64) hx hb dX11_status_1 (rfl) ?_
  refine lv_lconst (v := 0) hx hb dX11_status_2 (by decide) ?_
  refine lv_ldc2 (v := 2) hx hb hown fw1 dX11_status_3 ?_
  have hs1 : kw_Split [(mo, .inr (11, [.ref to, .ref ke, .ref ik, .ref mrf, .long mab, .long mbl, .ref ha, .ref r0, .ref mbr, .ref mbp, .ref mby, .int (nI bl), .int (nI ta), .int (nI tl), .int (nI tk), .int vv, .ref an, .ref va])), (mrf, .inl (y 0, 3, .inl frf))] [] [(mo, .inr (11, [.ref to, .ref ke, .ref ik, .ref mrf, .long mab, .long mbl, .ref ha, .ref r0, .ref mbr, .ref mbp, .ref mby, .int (nI bl), .int (nI ta), .int (nI tl), .int (nI tk), .int vv, .ref an, .ref va])), (mrf, .inl (y 0, 3, .inl frf))] [] [0, 1] := ⟨rfl, rfl, rfl, rfl, rfl, by decide⟩
  refine kw_go_i hs1 hP hD hS hA (va_runS (As := [.long x.toInt64, .long 0, .long 2]) (rest := []) ⟨hx, hb, hml, hown, hts⟩ (gr_in l D y x 0 2 (by omega) (by omega) _) (va_cwS 3 hts gX11_status_X11_in rfl rfl rfl (by decide +kernel) ⟨Nat.le_of_ble_eq_true rfl, Nat.le_of_ble_eq_true rfl⟩) (kw_PreS hs1 hP hD hK hN) rfl rfl hl.1 rfl (lv_room (Nat.le_of_ble_eq_true rfl)) dX11_status_6 ⟨Nat.le_of_ble_eq_true rfl, Nat.le_of_ble_eq_true rfl⟩) (fun r2 u3 H locs hq hP hD hS => ?_)
  rcases hq with ⟨j4, h5, h6, rfl, rfl⟩ | ⟨h7, rfl⟩
  · skip
    have hP : va_P D vwCl [(mo, .inr (11, [.ref to, .ref ke, .ref ik, .ref mrf, .long mab, .long mbl, .ref ha, .ref r0, .ref mbr, .ref mbp, .ref mby, .int (nI bl), .int (nI ta), .int (nI tl), .int (nI tk), .int vv, .ref an, .ref va])), (mrf, .inl (y 0, 3, .inl frf))] H := hP
    have hD : va_D A [(mo, .inr (11, [.ref to, .ref ke, .ref ik, .ref mrf, .long mab, .long mbl, .ref ha, .ref r0, .ref mbr, .ref mbp, .ref mby, .int (nI bl), .int (nI ta), .int (nI tl), .int (nI tk), .int vv, .ref an, .ref va])), (mrf, .inl (y 0, 3, .inl frf))] := hD
    refine lv_if_eq (tgt := 21) hx hb dX11_status_9 (by decide) (fun h9 => absurd h9 (by decide)) (fun _ => ?_)
    refine lv_aload_n hx hb dX11_status_12 rfl (lv_at hl 0 rfl) ?_
    refine va_get (D := D) (ci := 11) (v := .ref mrf) (C := RX11) (T := TX11) (N := 18) hx hb hts iw11 hown hK hP 0 rfl rfl 3 (by decide) fw2 (fun _ h9 => h9) rfl dX11_status_13 ?_
    refine lv_iload_n hx hb dX11_status_16 rfl (lv_at hl 1 rfl) ?_
    refine va_iald hx hb hK hP 1 0 rfl rfl (vp_in_nI (by omega) (by decide)) dX11_status_17 ?_
    rw [nI_clamp (n := j4) (by omega)]
    refine lv_goto (tgt := 26) hx hb dX11_status_18 (by decide) ?_
    exact W.iret (v := (frf j4)) hx hb hr (fun tZ ht hW => ⟨⟨(frf j4), (frf), rfl, trivial, by rw [ht]; exact hP.sub [0, 1] rfl, hD.sub [0, 1] (by decide) rfl⟩, hS.F ht⟩) hS.2.2 dX11_status_26
  · skip
    have hP : va_P D vwCl [(mo, .inr (11, [.ref to, .ref ke, .ref ik, .ref mrf, .long mab, .long mbl, .ref ha, .ref r0, .ref mbr, .ref mbp, .ref mby, .int (nI bl), .int (nI ta), .int (nI tl), .int (nI tk), .int vv, .ref an, .ref va])), (mrf, .inl (y 0, 3, .inl frf))] H := hP
    have hD : va_D A [(mo, .inr (11, [.ref to, .ref ke, .ref ik, .ref mrf, .long mab, .long mbl, .ref ha, .ref r0, .ref mbr, .ref mbp, .ref mby, .int (nI bl), .int (nI ta), .int (nI tl), .int (nI tk), .int vv, .ref an, .ref va])), (mrf, .inl (y 0, 3, .inl frf))] := hD
    refine lv_if_eq (tgt := 21) hx hb dX11_status_9 (by decide) (fun _ => ?_) (fun h9 => absurd h9 (by decide))
    refine lv_aload_n hx hb dX11_status_21 rfl (lv_at hl 0 rfl) ?_
    refine lv_iconst (v := (-1)) hx hb dX11_status_22 (by decide) ?_
    have hs8 : kw_Split [(mo, .inr (11, [.ref to, .ref ke, .ref ik, .ref mrf, .long mab, .long mbl, .ref ha, .ref r0, .ref mbr, .ref mbp, .ref mby, .int (nI bl), .int (nI ta), .int (nI tl), .int (nI tk), .int vv, .ref an, .ref va])), (mrf, .inl (y 0, 3, .inl frf))] [(mo, .inr (11, [.ref to, .ref ke, .ref ik, .ref mrf, .long mab, .long mbl, .ref ha, .ref r0, .ref mbr, .ref mbp, .ref mby, .int (nI bl), .int (nI ta), .int (nI tl), .int (nI tk), .int vv, .ref an, .ref va])), (mrf, .inl (y 0, 3, .inl frf))] [] [0, 1] [] := ⟨rfl, rfl, rfl, rfl, rfl, by decide⟩
    refine kw_go_i hs8 hP hD hS hA (va_runV (As := [.int (-1)]) (rest := []) ⟨hx, hb, hml, hown, hts⟩ (gr_bad l D y mo to ke ik mrf ha r0 mbr mbp mby an va mab mbl bl ta tl tk vv frf (-1)  _) (cwV 1 hts gX11_status_X11_bad rfl rfl rfl (by decide +kernel) ⟨Nat.le_of_ble_eq_true rfl, Nat.le_of_ble_eq_true rfl⟩) (kw_PreV (ci := 11) (q0 := 0) hs8 hP hD hK hN rfl rfl) rfl rfl hl.1 rfl (lv_room (Nat.le_of_ble_eq_true rfl)) dX11_status_23 ⟨Nat.le_of_ble_eq_true rfl, Nat.le_of_ble_eq_true rfl⟩) (fun r9 u10 H locs hq hP hD hS => ?_)
    obtain rfl := hq
    have hP : va_P D vwCl [(mo, .inr (11, [.ref to, .ref ke, .ref ik, .ref mrf, .long mab, .long mbl, .ref ha, .ref r0, .ref mbr, .ref mbp, .ref mby, .int (nI bl), .int (nI ta), .int (nI tl), .int (nI tk), .int vv, .ref an, .ref va])), (mrf, .inl (y 0, 3, .inl (upd frf 0 ((frf 0) + 1))))] H := hP
    have hD : va_D A [(mo, .inr (11, [.ref to, .ref ke, .ref ik, .ref mrf, .long mab, .long mbl, .ref ha, .ref r0, .ref mbr, .ref mbp, .ref mby, .int (nI bl), .int (nI ta), .int (nI tl), .int (nI tk), .int vv, .ref an, .ref va])), (mrf, .inl (y 0, 3, .inl (upd frf 0 ((frf 0) + 1))))] := hD
    exact W.iret (v := (-1)) hx hb hr (fun tZ ht hW => ⟨⟨(-1), ((upd frf 0 ((frf 0) + 1))), rfl, trivial, by rw [ht]; exact hP.sub [0, 1] rfl, hD.sub [0, 1] (by decide) rfl⟩, hS.F ht⟩) hS.2.2 dX11_status_26

set_option maxHeartbeats 4000000 in
set_option maxRecDepth 100000 in
theorem gr_counted (l : Launch) (D : va_G) (y : Nat → ClassId) (mo : Nat) (to : Nat) (ke : Nat) (ik : Nat) (mrf : Nat) (ha : Nat) (r0 : Nat) (mbr : Nat) (mbp : Nat) (mby : Nat) (an : Nat) (va : Nat) (mab : Int64) (mbl : Int64) (bl : Nat) (ta : Nat) (tl : Nat) (tk : Nat) (vv : Int32) (ft : Nat → Int32) (fi : Nat) (gl : Nat) (mi : Nat) (no : Nat) (un : Nat) (k : Nat) (hk0_ : ft 0 = (nI fi)) (hk1_ : ft 1 = (nI gl)) (hk2_ : ft 2 = (nI mi)) (hk3_ : ft 3 = (nI no)) (hk4_ : ft 4 = (nI un)) (hkt : kr_t 228 ft) (hfi : fi ≤ 6) (hgl : gl ≤ 5) (hmi : mi ≤ 4) (hno : no ≤ 6) (hun : un ≤ 8) (hA1 : k < 9) : kw_Mi l yX11_counted wsX11_counted ({ frames := 2, cells := 0, slots := 0, locals := 80 }) D y [.ref mo, .int (nI k)] [(mo, .inr (11, [.ref to, .ref ke, .ref ik, .ref mrf, .long mab, .long mbl, .ref ha, .ref r0, .ref mbr, .ref mbp, .ref mby, .int (nI bl), .int (nI ta), .int (nI tl), .int (nI tk), .int vv, .ref an, .ref va])), (to, .inl (y 0, 228, .inl ft))] (fun (r : Int32) (u : Unit) => True) (fun _ => [(mo, .inr (11, [.ref to, .ref ke, .ref ik, .ref mrf, .long mab, .long mbl, .ref ha, .ref r0, .ref mbr, .ref mbp, .ref mby, .int (nI bl), .int (nI ta), .int (nI tl), .int (nI tk), .int vv, .ref an, .ref va])), (to, .inl (y 0, 228, .inl ft))]) 0 0 := by
  refine kw_Mi.of (cc := cX11_counted) (maxL := 2) (ret := (some .int)) (by decide) rfl ?_
  intro pZ eZ s mZ beZ meZ cZ A hE
  obtain ⟨hx, hb, hr, hml, hts, hown, hlocks, hin, hA, hP, hD, hK, hN⟩ := hE
  have hS : va_S A s.heap s.heap [] := va_S.rf
  have hl := lv_entry ([.ref mo, .int (nI k)]) (n := 2) (Nat.le_of_ble_eq_true rfl)
  rw [lg_entry_eq]
  generalize (lg_sl ([.ref mo, .int (nI k)]) ++ List.replicate (2 - (lg_sl ([.ref mo, .int (nI k)])).length) Slot.unset).toArray = ls at hl ⊢
  have hl : lv_has ls 2 [(0, .ref mo), (1, .int (nI k))] := hl
  have fw1 := hts (.fieldLink RX11 7 "GleanDuskModel" "told" "[I") (List.mem_of_getElem? (i := 1) rfl)
  have fw2 := hts (.fieldLink RX11 210 "GleanDuskModel" "bytesLong" "I") (List.mem_of_getElem? (i := 2) rfl)
  have iw11 : ∀ w ∈ wsX110, w ∈ wsX11_counted := fun _ h => List.mem_cons_of_mem _ (List.mem_append_right _ h)
  rcases (show k = 0 ∨ k = 1 ∨ k = 2 ∨ k = 3 ∨ k = 4 ∨ k = 5 ∨ k = 6 ∨ k = 7 ∨ k = 8 by omega) with rfl | rfl | rfl | rfl | rfl | rfl | rfl | rfl | rfl
  · skip
    refine lv_iload_n hx hb dX11_counted_0 rfl (lv_at hl 1 rfl) ?_
    refine lv_tableIn (off := 47) (tgt := 48) hx hb dX11_counted_1 (by decide) (by decide) (by decide +kernel) (by decide) ?_
    refine lv_aload_n hx hb dX11_counted_48 rfl (lv_at hl 0 rfl) ?_
    have hs1 : kw_Split [(mo, .inr (11, [.ref to, .ref ke, .ref ik, .ref mrf, .long mab, .long mbl, .ref ha, .ref r0, .ref mbr, .ref mbp, .ref mby, .int (nI bl), .int (nI ta), .int (nI tl), .int (nI tk), .int vv, .ref an, .ref va])), (to, .inl (y 0, 228, .inl ft))] [(mo, .inr (11, [.ref to, .ref ke, .ref ik, .ref mrf, .long mab, .long mbl, .ref ha, .ref r0, .ref mbr, .ref mbp, .ref mby, .int (nI bl), .int (nI ta), .int (nI tl), .int (nI tk), .int vv, .ref an, .ref va])), (to, .inl (y 0, 228, .inl ft))] [] [0, 1] [] := ⟨rfl, rfl, rfl, rfl, rfl, by decide⟩
    refine kw_go_i hs1 hP hD hS hA (va_runV (As := []) (rest := []) ⟨hx, hb, hml, hown, hts⟩ (gr_many l D y mo to ke ik mrf ha r0 mbr mbp mby an va mab mbl bl ta tl tk vv ft fi gl mi no un hk0_ hk1_ hk2_ hk3_ hk4_ hkt hfi hgl hmi hno hun _) (cwV 0 hts gX11_counted_X11_many rfl rfl rfl (by decide +kernel) ⟨Nat.le_of_ble_eq_true rfl, Nat.le_of_ble_eq_true rfl⟩) (kw_PreV (ci := 11) (q0 := 0) hs1 hP hD hK hN rfl rfl) rfl rfl hl.1 rfl (lv_room (Nat.le_of_ble_eq_true rfl)) dX11_counted_49 ⟨Nat.le_of_ble_eq_true rfl, Nat.le_of_ble_eq_true rfl⟩) (fun r2 u3 H locs hq hP hD hS => ?_)
    obtain rfl := hq
    have hP : va_P D vwCl [(mo, .inr (11, [.ref to, .ref ke, .ref ik, .ref mrf, .long mab, .long mbl, .ref ha, .ref r0, .ref mbr, .ref mbp, .ref mby, .int (nI bl), .int (nI ta), .int (nI tl), .int (nI tk), .int vv, .ref an, .ref va])), (to, .inl (y 0, 228, .inl ft))] H := hP
    have hD : va_D A [(mo, .inr (11, [.ref to, .ref ke, .ref ik, .ref mrf, .long mab, .long mbl, .ref ha, .ref r0, .ref mbr, .ref mbp, .ref mby, .int (nI bl), .int (nI ta), .int (nI tl), .int (nI tk), .int vv, .ref an, .ref va])), (to, .inl (y 0, 228, .inl ft))] := hD
    exact W.iret (v := (nI fi)) hx hb hr (fun tZ ht hW => ⟨⟨(nI fi), (), rfl, trivial, by rw [ht]; exact hP.sub [0, 1] rfl, hD.sub [0, 1] (by decide) rfl⟩, hS.F ht⟩) hS.2.2 dX11_counted_52
  · skip
    refine lv_iload_n hx hb dX11_counted_0 rfl (lv_at hl 1 rfl) ?_
    refine lv_tableIn (off := 52) (tgt := 53) hx hb dX11_counted_1 (by decide) (by decide) (by decide +kernel) (by decide) ?_
    refine lv_aload_n hx hb dX11_counted_53 rfl (lv_at hl 0 rfl) ?_
    have hs4 : kw_Split [(mo, .inr (11, [.ref to, .ref ke, .ref ik, .ref mrf, .long mab, .long mbl, .ref ha, .ref r0, .ref mbr, .ref mbp, .ref mby, .int (nI bl), .int (nI ta), .int (nI tl), .int (nI tk), .int vv, .ref an, .ref va])), (to, .inl (y 0, 228, .inl ft))] [(mo, .inr (11, [.ref to, .ref ke, .ref ik, .ref mrf, .long mab, .long mbl, .ref ha, .ref r0, .ref mbr, .ref mbp, .ref mby, .int (nI bl), .int (nI ta), .int (nI tl), .int (nI tk), .int vv, .ref an, .ref va])), (to, .inl (y 0, 228, .inl ft))] [] [0, 1] [] := ⟨rfl, rfl, rfl, rfl, rfl, by decide⟩
    refine kw_go_i hs4 hP hD hS hA (va_runV (As := []) (rest := []) ⟨hx, hb, hml, hown, hts⟩ (gr_manyGleaners l D y mo to ke ik mrf ha r0 mbr mbp mby an va mab mbl bl ta tl tk vv ft fi gl mi no un hk0_ hk1_ hk2_ hk3_ hk4_ hkt hfi hgl hmi hno hun _) (cwV 0 hts gX11_counted_X11_manyGleaners rfl rfl rfl (by decide +kernel) ⟨Nat.le_of_ble_eq_true rfl, Nat.le_of_ble_eq_true rfl⟩) (kw_PreV (ci := 11) (q0 := 0) hs4 hP hD hK hN rfl rfl) rfl rfl hl.1 rfl (lv_room (Nat.le_of_ble_eq_true rfl)) dX11_counted_54 ⟨Nat.le_of_ble_eq_true rfl, Nat.le_of_ble_eq_true rfl⟩) (fun r5 u6 H locs hq hP hD hS => ?_)
    obtain rfl := hq
    have hP : va_P D vwCl [(mo, .inr (11, [.ref to, .ref ke, .ref ik, .ref mrf, .long mab, .long mbl, .ref ha, .ref r0, .ref mbr, .ref mbp, .ref mby, .int (nI bl), .int (nI ta), .int (nI tl), .int (nI tk), .int vv, .ref an, .ref va])), (to, .inl (y 0, 228, .inl ft))] H := hP
    have hD : va_D A [(mo, .inr (11, [.ref to, .ref ke, .ref ik, .ref mrf, .long mab, .long mbl, .ref ha, .ref r0, .ref mbr, .ref mbp, .ref mby, .int (nI bl), .int (nI ta), .int (nI tl), .int (nI tk), .int vv, .ref an, .ref va])), (to, .inl (y 0, 228, .inl ft))] := hD
    exact W.iret (v := (nI gl)) hx hb hr (fun tZ ht hW => ⟨⟨(nI gl), (), rfl, trivial, by rw [ht]; exact hP.sub [0, 1] rfl, hD.sub [0, 1] (by decide) rfl⟩, hS.F ht⟩) hS.2.2 dX11_counted_57
  · skip
    refine lv_iload_n hx hb dX11_counted_0 rfl (lv_at hl 1 rfl) ?_
    refine lv_tableIn (off := 57) (tgt := 58) hx hb dX11_counted_1 (by decide) (by decide) (by decide +kernel) (by decide) ?_
    refine lv_aload_n hx hb dX11_counted_58 rfl (lv_at hl 0 rfl) ?_
    refine va_get (D := D) (ci := 11) (v := .ref to) (C := RX11) (T := TX11) (N := 18) hx hb hts iw11 hown hK hP 0 rfl rfl 0 (by decide) fw1 (fun _ h9 => h9) rfl dX11_counted_59 ?_
    refine lv_bipush (v := 21) hx hb dX11_counted_62 (by decide) ?_
    refine va_iald hx hb hK hP 1 0 rfl rfl (by unfold vp_in; decide) dX11_counted_64 ?_
    rw [show ((21 : Int32)).toNatClampNeg = 21 from rfl]
    exact W.iret (v := (ft 21)) hx hb hr (fun tZ ht hW => ⟨⟨(ft 21), (), rfl, trivial, by rw [ht]; exact hP.sub [0, 1] rfl, hD.sub [0, 1] (by decide) rfl⟩, hS.F ht⟩) hS.2.2 dX11_counted_65
  · skip
    refine lv_iload_n hx hb dX11_counted_0 rfl (lv_at hl 1 rfl) ?_
    refine lv_tableIn (off := 65) (tgt := 66) hx hb dX11_counted_1 (by decide) (by decide) (by decide +kernel) (by decide) ?_
    refine lv_aload_n hx hb dX11_counted_66 rfl (lv_at hl 0 rfl) ?_
    refine va_get (D := D) (ci := 11) (v := .ref to) (C := RX11) (T := TX11) (N := 18) hx hb hts iw11 hown hK hP 0 rfl rfl 0 (by decide) fw1 (fun _ h9 => h9) rfl dX11_counted_67 ?_
    refine lv_bipush (v := 22) hx hb dX11_counted_70 (by decide) ?_
    refine va_iald hx hb hK hP 1 0 rfl rfl (by unfold vp_in; decide) dX11_counted_72 ?_
    rw [show ((22 : Int32)).toNatClampNeg = 22 from rfl]
    exact W.iret (v := (ft 22)) hx hb hr (fun tZ ht hW => ⟨⟨(ft 22), (), rfl, trivial, by rw [ht]; exact hP.sub [0, 1] rfl, hD.sub [0, 1] (by decide) rfl⟩, hS.F ht⟩) hS.2.2 dX11_counted_73
  · skip
    refine lv_iload_n hx hb dX11_counted_0 rfl (lv_at hl 1 rfl) ?_
    refine lv_tableIn (off := 73) (tgt := 74) hx hb dX11_counted_1 (by decide) (by decide) (by decide +kernel) (by decide) ?_
    refine lv_aload_n hx hb dX11_counted_74 rfl (lv_at hl 0 rfl) ?_
    refine va_get (D := D) (ci := 11) (v := .ref to) (C := RX11) (T := TX11) (N := 18) hx hb hts iw11 hown hK hP 0 rfl rfl 0 (by decide) fw1 (fun _ h9 => h9) rfl dX11_counted_75 ?_
    refine lv_bipush (v := 23) hx hb dX11_counted_78 (by decide) ?_
    refine va_iald hx hb hK hP 1 0 rfl rfl (by unfold vp_in; decide) dX11_counted_80 ?_
    rw [show ((23 : Int32)).toNatClampNeg = 23 from rfl]
    exact W.iret (v := (ft 23)) hx hb hr (fun tZ ht hW => ⟨⟨(ft 23), (), rfl, trivial, by rw [ht]; exact hP.sub [0, 1] rfl, hD.sub [0, 1] (by decide) rfl⟩, hS.F ht⟩) hS.2.2 dX11_counted_81
  · skip
    refine lv_iload_n hx hb dX11_counted_0 rfl (lv_at hl 1 rfl) ?_
    refine lv_tableIn (off := 81) (tgt := 82) hx hb dX11_counted_1 (by decide) (by decide) (by decide +kernel) (by decide) ?_
    refine lv_aload_n hx hb dX11_counted_82 rfl (lv_at hl 0 rfl) ?_
    refine va_get (D := D) (ci := 11) (v := .ref to) (C := RX11) (T := TX11) (N := 18) hx hb hts iw11 hown hK hP 0 rfl rfl 0 (by decide) fw1 (fun _ h9 => h9) rfl dX11_counted_83 ?_
    refine lv_iconst (v := 2) hx hb dX11_counted_86 (by decide) ?_
    refine va_iald hx hb hK hP 1 0 rfl rfl (by unfold vp_in; decide) dX11_counted_87 ?_
    rw [show ((2 : Int32)).toNatClampNeg = 2 from rfl]
    rw [show (ft 2) = (nI mi) from hk2_]
    exact W.iret (v := (nI mi)) hx hb hr (fun tZ ht hW => ⟨⟨(nI mi), (), rfl, trivial, by rw [ht]; exact hP.sub [0, 1] rfl, hD.sub [0, 1] (by decide) rfl⟩, hS.F ht⟩) hS.2.2 dX11_counted_88
  · skip
    refine lv_iload_n hx hb dX11_counted_0 rfl (lv_at hl 1 rfl) ?_
    refine lv_tableIn (off := 88) (tgt := 89) hx hb dX11_counted_1 (by decide) (by decide) (by decide +kernel) (by decide) ?_
    refine lv_aload_n hx hb dX11_counted_89 rfl (lv_at hl 0 rfl) ?_
    refine va_get (D := D) (ci := 11) (v := .ref to) (C := RX11) (T := TX11) (N := 18) hx hb hts iw11 hown hK hP 0 rfl rfl 0 (by decide) fw1 (fun _ h9 => h9) rfl dX11_counted_90 ?_
    refine lv_iconst (v := 3) hx hb dX11_counted_93 (by decide) ?_
    refine va_iald hx hb hK hP 1 0 rfl rfl (by unfold vp_in; decide) dX11_counted_94 ?_
    rw [show ((3 : Int32)).toNatClampNeg = 3 from rfl]
    rw [show (ft 3) = (nI no) from hk3_]
    exact W.iret (v := (nI no)) hx hb hr (fun tZ ht hW => ⟨⟨(nI no), (), rfl, trivial, by rw [ht]; exact hP.sub [0, 1] rfl, hD.sub [0, 1] (by decide) rfl⟩, hS.F ht⟩) hS.2.2 dX11_counted_95
  · skip
    refine lv_iload_n hx hb dX11_counted_0 rfl (lv_at hl 1 rfl) ?_
    refine lv_tableIn (off := 95) (tgt := 96) hx hb dX11_counted_1 (by decide) (by decide) (by decide +kernel) (by decide) ?_
    refine lv_aload_n hx hb dX11_counted_96 rfl (lv_at hl 0 rfl) ?_
    refine va_get (D := D) (ci := 11) (v := .ref to) (C := RX11) (T := TX11) (N := 18) hx hb hts iw11 hown hK hP 0 rfl rfl 0 (by decide) fw1 (fun _ h9 => h9) rfl dX11_counted_97 ?_
    refine lv_iconst (v := 4) hx hb dX11_counted_100 (by decide) ?_
    refine va_iald hx hb hK hP 1 0 rfl rfl (by unfold vp_in; decide) dX11_counted_101 ?_
    rw [show ((4 : Int32)).toNatClampNeg = 4 from rfl]
    rw [show (ft 4) = (nI un) from hk4_]
    exact W.iret (v := (nI un)) hx hb hr (fun tZ ht hW => ⟨⟨(nI un), (), rfl, trivial, by rw [ht]; exact hP.sub [0, 1] rfl, hD.sub [0, 1] (by decide) rfl⟩, hS.F ht⟩) hS.2.2 dX11_counted_102
  · skip
    refine lv_iload_n hx hb dX11_counted_0 rfl (lv_at hl 1 rfl) ?_
    refine lv_tableOut (tgt := 103) hx hb dX11_counted_1 (by decide) (by decide) ?_
    refine lv_aload_n hx hb dX11_counted_103 rfl (lv_at hl 0 rfl) ?_
    refine va_get (D := D) (ci := 11) (v := .int (nI bl)) (C := RX11) (T := TX11) (N := 18) hx hb hts iw11 hown hK hP 0 rfl rfl 11 (by decide) fw2 (fun _ h9 => h9) rfl dX11_counted_104 ?_
    exact W.iret (v := (nI bl)) hx hb hr (fun tZ ht hW => ⟨⟨(nI bl), (), rfl, trivial, by rw [ht]; exact hP.sub [0, 1] rfl, hD.sub [0, 1] (by decide) rfl⟩, hS.F ht⟩) hS.2.2 dX11_counted_107

set_option maxHeartbeats 4000000 in
set_option maxRecDepth 100000 in
theorem gq_count (l : Launch) (D : va_G) (y : Nat → ClassId) (mo : Nat) (to : Nat) (ke : Nat) (ik : Nat) (mrf : Nat) (ha : Nat) (r0 : Nat) (mbr : Nat) (mbp : Nat) (mby : Nat) (an : Nat) (va : Nat) (mab : Int64) (mbl : Int64) (bl : Nat) (ta : Nat) (tl : Nat) (tk : Nat) (vv : Int32) (frf : Nat → Int32) (ft : Nat → Int32) (fi : Nat) (gl : Nat) (mi : Nat) (no : Nat) (un : Nat) (x : Int32) (hk0_ : ft 0 = (nI fi)) (hk1_ : ft 1 = (nI gl)) (hk2_ : ft 2 = (nI mi)) (hk3_ : ft 3 = (nI no)) (hk4_ : ft 4 = (nI un)) (hkt : kr_t 228 ft) (hfi : fi ≤ 6) (hgl : gl ≤ 5) (hmi : mi ≤ 4) (hno : no ≤ 6) (hun : un ≤ 8) (hgf : (gl = 0 ∨ 0 < fi)) : kw_Mi l yX11_count wsX11_count ({ frames := 3, cells := 0, slots := 0, locals := 101 }) D y [.ref mo, .int x] [(mo, .inr (11, [.ref to, .ref ke, .ref ik, .ref mrf, .long mab, .long mbl, .ref ha, .ref r0, .ref mbr, .ref mbp, .ref mby, .int (nI bl), .int (nI ta), .int (nI tl), .int (nI tk), .int vv, .ref an, .ref va])), (mrf, .inl (y 0, 3, .inl frf)), (to, .inl (y 0, 228, .inl ft))] (fun (r : Int32) (u : (Nat → Int32)) => (gl = 0 ∨ 0 < fi)) (fun u => [(mo, .inr (11, [.ref to, .ref ke, .ref ik, .ref mrf, .long mab, .long mbl, .ref ha, .ref r0, .ref mbr, .ref mbp, .ref mby, .int (nI bl), .int (nI ta), .int (nI tl), .int (nI tk), .int vv, .ref an, .ref va])), (mrf, .inl (y 0, 3, .inl u)), (to, .inl (y 0, 228, .inl ft))]) 0 0 := by
  refine kw_Mi.of (cc := cX11_count) (maxL := 2) (ret := (some .int)) (by decide) rfl ?_
  intro pZ eZ s mZ beZ meZ cZ A hE
  obtain ⟨hx, hb, hr, hml, hts, hown, hlocks, hin, hA, hP, hD, hK, hN⟩ := hE
  have hS : va_S A s.heap s.heap [] := va_S.rf
  have hl := lv_entry ([.ref mo, .int x]) (n := 2) (Nat.le_of_ble_eq_true rfl)
  rw [lg_entry_eq]
  generalize (lg_sl ([.ref mo, .int x]) ++ List.replicate (2 - (lg_sl ([.ref mo, .int x])).length) Slot.unset).toArray = ls at hl ⊢
  have hl : lv_has ls 2 [(0, .ref mo), (1, .int x)] := hl
  have fw1 := hts (.constantLong RX11 274 (8)) (List.mem_of_getElem? (i := 1) rfl)
  refine lv_iload_n hx hb dX11_count_0 rfl (lv_at hl 1 rfl) ?_
  refine lv_i2l (v := x.toInt64) hx hb dX11_count_1 (rfl) ?_
  refine lv_lconst (v := 0) hx hb dX11_count_2 (by decide) ?_
  refine lv_ldc2 (v := 8) hx hb hown fw1 dX11_count_3 ?_
  have hs1 : kw_Split [(mo, .inr (11, [.ref to, .ref ke, .ref ik, .ref mrf, .long mab, .long mbl, .ref ha, .ref r0, .ref mbr, .ref mbp, .ref mby, .int (nI bl), .int (nI ta), .int (nI tl), .int (nI tk), .int vv, .ref an, .ref va])), (mrf, .inl (y 0, 3, .inl frf)), (to, .inl (y 0, 228, .inl ft))] [] [(mo, .inr (11, [.ref to, .ref ke, .ref ik, .ref mrf, .long mab, .long mbl, .ref ha, .ref r0, .ref mbr, .ref mbp, .ref mby, .int (nI bl), .int (nI ta), .int (nI tl), .int (nI tk), .int vv, .ref an, .ref va])), (mrf, .inl (y 0, 3, .inl frf)), (to, .inl (y 0, 228, .inl ft))] [] [0, 1, 2] := ⟨rfl, rfl, rfl, rfl, rfl, by decide⟩
  refine kw_go_i hs1 hP hD hS hA (va_runS (As := [.long x.toInt64, .long 0, .long 8]) (rest := []) ⟨hx, hb, hml, hown, hts⟩ (gr_in l D y x 0 8 (by omega) (by omega) _) (va_cwS 3 hts gX11_count_X11_in rfl rfl rfl (by decide +kernel) ⟨Nat.le_of_ble_eq_true rfl, Nat.le_of_ble_eq_true rfl⟩) (kw_PreS hs1 hP hD hK hN) rfl rfl hl.1 rfl (lv_room (Nat.le_of_ble_eq_true rfl)) dX11_count_6 ⟨Nat.le_of_ble_eq_true rfl, Nat.le_of_ble_eq_true rfl⟩) (fun r2 u3 H locs hq hP hD hS => ?_)
  rcases hq with ⟨j4, h5, h6, rfl, rfl⟩ | ⟨h7, rfl⟩
  · skip
    have hP : va_P D vwCl [(mo, .inr (11, [.ref to, .ref ke, .ref ik, .ref mrf, .long mab, .long mbl, .ref ha, .ref r0, .ref mbr, .ref mbp, .ref mby, .int (nI bl), .int (nI ta), .int (nI tl), .int (nI tk), .int vv, .ref an, .ref va])), (mrf, .inl (y 0, 3, .inl frf)), (to, .inl (y 0, 228, .inl ft))] H := hP
    have hD : va_D A [(mo, .inr (11, [.ref to, .ref ke, .ref ik, .ref mrf, .long mab, .long mbl, .ref ha, .ref r0, .ref mbr, .ref mbp, .ref mby, .int (nI bl), .int (nI ta), .int (nI tl), .int (nI tk), .int vv, .ref an, .ref va])), (mrf, .inl (y 0, 3, .inl frf)), (to, .inl (y 0, 228, .inl ft))] := hD
    refine lv_if_eq (tgt := 20) hx hb dX11_count_9 (by decide) (fun h9 => absurd h9 (by decide)) (fun _ => ?_)
    refine lv_aload_n hx hb dX11_count_12 rfl (lv_at hl 0 rfl) ?_
    refine lv_iload_n hx hb dX11_count_13 rfl (lv_at hl 1 rfl) ?_
    have hs8 : kw_Split [(mo, .inr (11, [.ref to, .ref ke, .ref ik, .ref mrf, .long mab, .long mbl, .ref ha, .ref r0, .ref mbr, .ref mbp, .ref mby, .int (nI bl), .int (nI ta), .int (nI tl), .int (nI tk), .int vv, .ref an, .ref va])), (mrf, .inl (y 0, 3, .inl frf)), (to, .inl (y 0, 228, .inl ft))] [(mo, .inr (11, [.ref to, .ref ke, .ref ik, .ref mrf, .long mab, .long mbl, .ref ha, .ref r0, .ref mbr, .ref mbp, .ref mby, .int (nI bl), .int (nI ta), .int (nI tl), .int (nI tk), .int vv, .ref an, .ref va])), (to, .inl (y 0, 228, .inl ft))] [(mrf, .inl (y 0, 3, .inl frf))] [0, 2] [1] := ⟨rfl, rfl, rfl, rfl, rfl, by decide⟩
    refine kw_go_i hs8 hP hD hS hA (va_runV (As := [.int (nI j4)]) (rest := []) ⟨hx, hb, hml, hown, hts⟩ (gr_counted l D y mo to ke ik mrf ha r0 mbr mbp mby an va mab mbl bl ta tl tk vv ft fi gl mi no un j4 hk0_ hk1_ hk2_ hk3_ hk4_ hkt hfi hgl hmi hno hun (by omega) _) (cwV 1 hts gX11_count_X11_counted rfl rfl rfl (by decide +kernel) ⟨Nat.le_of_ble_eq_true rfl, Nat.le_of_ble_eq_true rfl⟩) (kw_PreV (ci := 11) (q0 := 0) hs8 hP hD hK hN rfl rfl) rfl rfl hl.1 rfl (lv_room (Nat.le_of_ble_eq_true rfl)) dX11_count_14 ⟨Nat.le_of_ble_eq_true rfl, Nat.le_of_ble_eq_true rfl⟩) (fun r9 u10 H locs hq hP hD hS => ?_)
    have hP : va_P D vwCl [(mrf, .inl (y 0, 3, .inl frf)), (mo, .inr (11, [.ref to, .ref ke, .ref ik, .ref mrf, .long mab, .long mbl, .ref ha, .ref r0, .ref mbr, .ref mbp, .ref mby, .int (nI bl), .int (nI ta), .int (nI tl), .int (nI tk), .int vv, .ref an, .ref va])), (to, .inl (y 0, 228, .inl ft))] H := hP
    have hD : va_D A [(mrf, .inl (y 0, 3, .inl frf)), (mo, .inr (11, [.ref to, .ref ke, .ref ik, .ref mrf, .long mab, .long mbl, .ref ha, .ref r0, .ref mbr, .ref mbp, .ref mby, .int (nI bl), .int (nI ta), .int (nI tl), .int (nI tk), .int vv, .ref an, .ref va])), (to, .inl (y 0, 228, .inl ft))] := hD
    refine lv_goto (tgt := 26) hx hb dX11_count_17 (by decide) ?_
    exact W.iret (v := r9) hx hb hr (fun tZ ht hW => ⟨⟨r9, (frf), rfl, by first | omega | (dsimp only; omega), by rw [ht]; exact hP.sub [1, 0, 2] rfl, hD.sub [1, 0, 2] (by decide) rfl⟩, hS.F ht⟩) hS.2.2 dX11_count_26
  · skip
    have hP : va_P D vwCl [(mo, .inr (11, [.ref to, .ref ke, .ref ik, .ref mrf, .long mab, .long mbl, .ref ha, .ref r0, .ref mbr, .ref mbp, .ref mby, .int (nI bl), .int (nI ta), .int (nI tl), .int (nI tk), .int vv, .ref an, .ref va])), (mrf, .inl (y 0, 3, .inl frf)), (to, .inl (y 0, 228, .inl ft))] H := hP
    have hD : va_D A [(mo, .inr (11, [.ref to, .ref ke, .ref ik, .ref mrf, .long mab, .long mbl, .ref ha, .ref r0, .ref mbr, .ref mbp, .ref mby, .int (nI bl), .int (nI ta), .int (nI tl), .int (nI tk), .int vv, .ref an, .ref va])), (mrf, .inl (y 0, 3, .inl frf)), (to, .inl (y 0, 228, .inl ft))] := hD
    refine lv_if_eq (tgt := 20) hx hb dX11_count_9 (by decide) (fun _ => ?_) (fun h9 => absurd h9 (by decide))
    refine lv_aload_n hx hb dX11_count_20 rfl (lv_at hl 0 rfl) ?_
    refine lv_bipush (v := (-2)) hx hb dX11_count_21 (by decide) ?_
    have hs11 : kw_Split [(mo, .inr (11, [.ref to, .ref ke, .ref ik, .ref mrf, .long mab, .long mbl, .ref ha, .ref r0, .ref mbr, .ref mbp, .ref mby, .int (nI bl), .int (nI ta), .int (nI tl), .int (nI tk), .int vv, .ref an, .ref va])), (mrf, .inl (y 0, 3, .inl frf)), (to, .inl (y 0, 228, .inl ft))] [(mo, .inr (11, [.ref to, .ref ke, .ref ik, .ref mrf, .long mab, .long mbl, .ref ha, .ref r0, .ref mbr, .ref mbp, .ref mby, .int (nI bl), .int (nI ta), .int (nI tl), .int (nI tk), .int vv, .ref an, .ref va])), (mrf, .inl (y 0, 3, .inl frf))] [(to, .inl (y 0, 228, .inl ft))] [0, 1] [2] := ⟨rfl, rfl, rfl, rfl, rfl, by decide⟩
    refine kw_go_i hs11 hP hD hS hA (va_runV (As := [.int (-2)]) (rest := []) ⟨hx, hb, hml, hown, hts⟩ (gr_bad l D y mo to ke ik mrf ha r0 mbr mbp mby an va mab mbl bl ta tl tk vv frf (-2)  _) (cwV 1 hts gX11_count_X11_bad rfl rfl rfl (by decide +kernel) ⟨Nat.le_of_ble_eq_true rfl, Nat.le_of_ble_eq_true rfl⟩) (kw_PreV (ci := 11) (q0 := 0) hs11 hP hD hK hN rfl rfl) rfl rfl hl.1 rfl (lv_room (Nat.le_of_ble_eq_true rfl)) dX11_count_23 ⟨Nat.le_of_ble_eq_true rfl, Nat.le_of_ble_eq_true rfl⟩) (fun r12 u13 H locs hq hP hD hS => ?_)
    obtain rfl := hq
    have hP : va_P D vwCl [(to, .inl (y 0, 228, .inl ft)), (mo, .inr (11, [.ref to, .ref ke, .ref ik, .ref mrf, .long mab, .long mbl, .ref ha, .ref r0, .ref mbr, .ref mbp, .ref mby, .int (nI bl), .int (nI ta), .int (nI tl), .int (nI tk), .int vv, .ref an, .ref va])), (mrf, .inl (y 0, 3, .inl (upd frf 0 ((frf 0) + 1))))] H := hP
    have hD : va_D A [(to, .inl (y 0, 228, .inl ft)), (mo, .inr (11, [.ref to, .ref ke, .ref ik, .ref mrf, .long mab, .long mbl, .ref ha, .ref r0, .ref mbr, .ref mbp, .ref mby, .int (nI bl), .int (nI ta), .int (nI tl), .int (nI tk), .int vv, .ref an, .ref va])), (mrf, .inl (y 0, 3, .inl (upd frf 0 ((frf 0) + 1))))] := hD
    exact W.iret (v := (-2)) hx hb hr (fun tZ ht hW => ⟨⟨(-2), ((upd frf 0 ((frf 0) + 1))), rfl, by first | omega | (dsimp only; omega), by rw [ht]; exact hP.sub [1, 2, 0] rfl, hD.sub [1, 2, 0] (by decide) rfl⟩, hS.F ht⟩) hS.2.2 dX11_count_26
