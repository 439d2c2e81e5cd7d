set_option maxHeartbeats 4000000 in
set_option maxRecDepth 100000 in
theorem gr_sums (l : Launch) (D : va_G) (y : Nat → ClassId) (mo : Nat) (to : Nat) (ke : Nat) (ik : Nat) (mrf : Nat) (ha : Nat) (r0 : Nat) (mbr : Nat) (mbp : Nat) (mby : Nat) (an : Nat) (va : Nat) (mab : Int64) (mbl : Int64) (bl : Nat) (ta : Nat) (tl : Nat) (tk : Nat) (vv : Int32) (ft : Nat → Int32) (fi : Nat) (gl : Nat) (mi : Nat) (no : Nat) (un : Nat) (h0 : Int64) (k : Nat) (k2 : Nat) (hk0_ : ft 0 = (nI fi)) (hk1_ : ft 1 = (nI gl)) (hk2_ : ft 2 = (nI mi)) (hk3_ : ft 3 = (nI no)) (hk4_ : ft 4 = (nI un)) (hkt : kr_t 228 ft) (hfi : fi ≤ 6) (hgl : gl ≤ 5) (hmi : mi ≤ 4) (hno : no ≤ 6) (hun : un ≤ 8) (hA1 : k + k2 ≤ 228) : kw_Ml l yX11_sums wsX11_sums ({ frames := 1, cells := 0, slots := 0, locals := 60 }) D y [.ref mo, .long h0, .int (nI k), .int (nI k2)] [(mo, .inr (11, [.ref to, .ref ke, .ref ik, .ref mrf, .long mab, .long mbl, .ref ha, .ref r0, .ref mbr, .ref mbp, .ref mby, .int (nI bl), .int (nI ta), .int (nI tl), .int (nI tk), .int vv, .ref an, .ref va])), (to, .inl (y 0, 228, .inl ft))] (fun (r : Int64) (u : Unit) => True) (fun _ => [(mo, .inr (11, [.ref to, .ref ke, .ref ik, .ref mrf, .long mab, .long mbl, .ref ha, .ref r0, .ref mbr, .ref mbp, .ref mby, .int (nI bl), .int (nI ta), .int (nI tl), .int (nI tk), .int vv, .ref an, .ref va])), (to, .inl (y 0, 228, .inl ft))]) 0 0 := by
  refine kw_Ml.of (cc := cX11_sums) (maxL := 8) (ret := (some .long)) (by decide) rfl ?_
  intro pZ eZ s mZ beZ meZ cZ A hE
  obtain ⟨hx, hb, hr, hml, hts, hown, hlocks, hin, hA, hP, hD, hK, hN⟩ := hE
  have hS : va_S A s.heap s.heap [] := va_S.rf
  have hl := lv_entry ([.ref mo, .long h0, .int (nI k), .int (nI k2)]) (n := 8) (Nat.le_of_ble_eq_true rfl)
  rw [lg_entry_eq]
  generalize (lg_sl ([.ref mo, .long h0, .int (nI k), .int (nI k2)]) ++ List.replicate (8 - (lg_sl ([.ref mo, .long h0, .int (nI k), .int (nI k2)])).length) Slot.unset).toArray = ls at hl ⊢
  have hl : lv_has ls 8 [(0, .ref mo), (1, .long h0), (3, .int (nI k)), (4, .int (nI k2))] := hl
  have fw1 := hts (.constantLong RX11 279 (31)) (List.mem_of_getElem? (i := 1) rfl)
  have fw2 := hts (.fieldLink RX11 7 "GleanDuskModel" "told" "[I") (List.mem_of_getElem? (i := 2) rfl)
  have iw11 : ∀ w ∈ wsX110, w ∈ wsX11_sums := fun _ h => List.mem_cons_of_mem _ (List.mem_append_right _ h)
  refine lv_lload_n hx hb dX11_sums_0 rfl (lv_at hl 1 rfl) ?_
  refine lv_lstore (lv' := [(5, .long h0), (0, .ref mo), (1, .long h0), (3, .int (nI k)), (4, .int (nI k2))]) hx hb dX11_sums_1 hl (by decide) rfl (fun ls hl => ?_)
  refine lv_iconst (v := 0) hx hb dX11_sums_3 (by decide) ?_
  refine lv_istore (lv' := [(7, .int 0), (5, .long h0), (0, .ref mo), (1, .long h0), (3, .int (nI k)), (4, .int (nI k2))]) hx hb dX11_sums_4 hl (by decide) rfl (fun ls hl => ?_)
  have lp6 : ∀ (fuj91 j91 : Nat) (x3 : Int64) (H : Heap) (locs : List Loc) (ls : Array Slot), j91 ≤ k2 → k2 - j91 < fuj91 → va_P D vwCl [(mo, .inr (11, [.ref to, .ref ke, .ref ik, .ref mrf, .long mab, .long mbl, .ref ha, .ref r0, .ref mbr, .ref mbp, .ref mby, .int (nI bl), .int (nI ta), .int (nI tl), .int (nI tk), .int vv, .ref an, .ref va])), (to, .inl (y 0, 228, .inl ft))] H → va_D A [(mo, .inr (11, [.ref to, .ref ke, .ref ik, .ref mrf, .long mab, .long mbl, .ref ha, .ref r0, .ref mbr, .ref mbp, .ref mby, .int (nI bl), .int (nI ta), .int (nI tl), .int (nI tk), .int vv, .ref an, .ref va])), (to, .inl (y 0, 228, .inl ft))] → va_S A s.heap H locs → lv_has ls 8 [(7, .int (nI j91)), (5, .long x3), (0, .ref mo), (1, .long h0), (3, .int (nI k)), (4, .int (nI k2))] → W pZ l eZ ({ frames := 1, cells := 0, slots := 0, locals := 60 }) s mZ [.ref mo, .long h0, .int (nI k), .int (nI k2)].toArray beZ meZ cZ H locs 0 0 (MQ beZ (va_Ql (fun (r : Int64) (u : Unit) => True) (kw_B D (fun _ => [(mo, .inr (11, [.ref to, .ref ke, .ref ik, .ref mrf, .long mab, .long mbl, .ref ha, .ref r0, .ref mbr, .ref mbp, .ref mby, .int (nI bl), .int (nI ta), .int (nI tl), .int (nI tk), .int vv, .ref an, .ref va])), (to, .inl (y 0, 228, .inl ft))]) A) A) [.ref mo, .long h0, .int (nI k), .int (nI k2)].toArray s 0 0 A) (F0 mZ 6 ls []) := by
    intro fuj91
    induction fuj91 with
    | zero => intro j91 x3 H locs ls hj9 hf9; exact absurd hf9 (Nat.not_lt_zero _)
    | succ fuj91 ihj91 =>
      intro j91 x3 H locs ls hj91 hfj91  hP hD hS hl
      refine lv_iload hx hb dX11_sums_6 (lv_at hl 0 rfl) ?_
      refine lv_iload hx hb dX11_sums_8 (lv_at hl 5 rfl) ?_
      refine lv_icmp_ge (tgt := 38) hx hb dX11_sums_10 (by decide) (fun h7 => ?_) (fun h8 => ?_)
      · skip
        have h7 : k2 ≤ j91 := (nI_leI (a := k2) (b := j91) (by omega) (by omega)).mp h7
        refine lv_lload hx hb dX11_sums_38 (lv_at hl 1 rfl) ?_
        exact W.lret (v := x3) hx hb hr (fun tZ ht hW => ⟨⟨x3, (), rfl, trivial, by rw [ht]; exact hP.sub [0, 1] rfl, hD.sub [0, 1] (by decide) rfl⟩, hS.F ht⟩) hS.2.2 dX11_sums_40
      · skip
        have h8 : ¬ k2 ≤ j91 := fun q9 => h8 ((nI_leI (a := k2) (b := j91) (by omega) (by omega)).mpr q9)
        refine lv_ldc2 (v := 31) hx hb hown fw1 dX11_sums_13 ?_
        refine lv_lload hx hb dX11_sums_16 (lv_at hl 1 rfl) ?_
        refine lv_lmul hx hb dX11_sums_18 ?_
        refine lv_aload_n hx hb dX11_sums_19 rfl (lv_at hl 2 rfl) ?_
        refine va_get (D := D) (ci := 11) (v := .ref to) (C := RX11) (T := TX11) (N := 18) hx hb hts iw11 hown hK hP 0 rfl rfl 0 (by decide) fw2 (fun _ h9 => h9) rfl dX11_sums_20 ?_
        refine lv_iload_n hx hb dX11_sums_23 rfl (lv_at hl 4 rfl) ?_
        refine lv_iload hx hb dX11_sums_24 (lv_at hl 0 rfl) ?_
        refine lv_iadd hx hb dX11_sums_26 ?_
        rw [show (nI k) + (nI j91) = nI (k + j91) from nI_add k j91]
        refine va_iald hx hb hK hP 1 0 rfl rfl (vp_in_nI (by omega) (by decide)) dX11_sums_27 ?_
        rw [nI_clamp (n := (k + j91)) (by omega)]
        refine lv_i2l (v := (ft (k + j91)).toInt64) hx hb dX11_sums_28 (rfl) ?_
        refine lv_ladd hx hb dX11_sums_29 ?_
        refine lv_lstore (lv' := [(5, .long ((31 * x3) + ((ft (k + j91)).toInt64))), (7, .int (nI j91)), (0, .ref mo), (1, .long h0), (3, .int (nI k)), (4, .int (nI k2))]) hx hb dX11_sums_30 hl (by decide) rfl (fun ls hl => ?_)
        refine lv_iinc (v := (nI (j91 + 1))) (lv' := [(7, .int (nI (j91 + 1))), (5, .long ((31 * x3) + ((ft (k + j91)).toInt64))), (0, .ref mo), (1, .long h0), (3, .int (nI k)), (4, .int (nI k2))]) hx hb dX11_sums_32 hl (k := 1) rfl (nI_1 j91) (by decide) rfl (fun ls hl => ?_)
        refine lv_goto (tgt := 6) hx hb dX11_sums_35 (by decide) ?_
        exact ihj91 (j91 + 1) ((31 * x3) + ((ft (k + j91)).toInt64)) H locs ls (by omega) (by omega)  (hP.sub [0, 1] rfl) (hD.sub [0, 1] (by decide) rfl) hS (lv_sub hl [0, 1, 2, 3, 4, 5] rfl)
  exact lp6 (k2 + 1) 0 h0 _ _ _ (by omega) (by omega)  hP hD hS (lv_sub hl [0, 1, 2, 3, 4, 5] rfl)

set_option maxHeartbeats 4000000 in
set_option maxRecDepth 100000 in
theorem gq_digest (l : Launch) (D : va_G) (y : Nat → ClassId) (mo : Nat) (to : Nat) (ke : Nat) (ik : Nat) (mrf : Nat) (ha : Nat) (r0 : Nat) (mbr : Nat) (mbp : Nat) (mby : Nat) (an : Nat) (va : Nat) (mab : Int64) (mbl : Int64) (bl : Nat) (ta : Nat) (tl : Nat) (tk : Nat) (vv : Int32) (ft : Nat → Int32) (fi : Nat) (gl : Nat) (mi : Nat) (no : Nat) (un : Nat) (hk0_ : ft 0 = (nI fi)) (hk1_ : ft 1 = (nI gl)) (hk2_ : ft 2 = (nI mi)) (hk3_ : ft 3 = (nI no)) (hk4_ : ft 4 = (nI un)) (hkt : kr_t 228 ft) (hfi : fi ≤ 6) (hgl : gl ≤ 5) (hmi : mi ≤ 4) (hno : no ≤ 6) (hun : un ≤ 8) (hgf : (gl = 0 ∨ 0 < fi)) : kw_Ml l yX11_digest wsX11_digest ({ frames := 3, cells := 0, slots := 0, locals := 101 }) D y [.ref mo] [(mo, .inr (11, [.ref to, .ref ke, .ref ik, .ref mrf, .long mab, .long mbl, .ref ha, .ref r0, .ref mbr, .ref mbp, .ref mby, .int (nI bl), .int (nI ta), .int (nI tl), .int (nI tk), .int vv, .ref an, .ref va])), (to, .inl (y 0, 228, .inl ft))] (fun (r : Int64) (u : Unit) => (gl = 0 ∨ 0 < fi)) (fun _ => [(mo, .inr (11, [.ref to, .ref ke, .ref ik, .ref mrf, .long mab, .long mbl, .ref ha, .ref r0, .ref mbr, .ref mbp, .ref mby, .int (nI bl), .int (nI ta), .int (nI tl), .int (nI tk), .int vv, .ref an, .ref va])), (to, .inl (y 0, 228, .inl ft))]) 0 0 := by
  refine kw_Ml.of (cc := cX11_digest) (maxL := 4) (ret := (some .long)) (by decide) rfl ?_
  intro pZ eZ s mZ beZ meZ cZ A hE
  obtain ⟨hx, hb, hr, hml, hts, hown, hlocks, hin, hA, hP, hD, hK, hN⟩ := hE
  have hS : va_S A s.heap s.heap [] := va_S.rf
  have hl := lv_entry ([.ref mo]) (n := 4) (Nat.le_of_ble_eq_true rfl)
  rw [lg_entry_eq]
  generalize (lg_sl ([.ref mo]) ++ List.replicate (4 - (lg_sl ([.ref mo])).length) Slot.unset).toArray = ls at hl ⊢
  have hl : lv_has ls 4 [(0, .ref mo)] := hl
  have fw1 := hts (.constantLong RX11 281 (1451)) (List.mem_of_getElem? (i := 1) rfl)
  have fw2 := hts (.fieldLink RX11 7 "GleanDuskModel" "told" "[I") (List.mem_of_getElem? (i := 3) rfl)
  have fw3 := hts (.constantLong RX11 279 (31)) (List.mem_of_getElem? (i := 2) rfl)
  have fw4 := hts (.fieldLink RX11 189 "GleanDuskModel" "above" "J") (List.mem_of_getElem? (i := 4) rfl)
  have fw5 := hts (.fieldLink RX11 23 "GleanDuskModel" "below" "J") (List.mem_of_getElem? (i := 5) rfl)
  have iw11 : ∀ w ∈ wsX110, w ∈ wsX11_digest := fun _ h => List.mem_cons_of_mem _ (List.mem_append_right _ h)
  refine lv_ldc2 (v := 1451) hx hb hown fw1 dX11_digest_0 ?_
  refine lv_lstore_n (lv' := [(1, .long 1451), (0, .ref mo)]) hx hb dX11_digest_3 rfl hl (by decide) rfl (fun ls hl => ?_)
  refine lv_iconst (v := 0) hx hb dX11_digest_4 (by decide) ?_
  refine lv_istore_n (lv' := [(3, .int 0), (1, .long 1451), (0, .ref mo)]) hx hb dX11_digest_5 rfl hl (by decide) rfl (fun ls hl => ?_)
  have lp313 : ∀ (fuj91 j91 : Nat) (x158 : Int64) (H : Heap) (locs : List Loc) (ls : Array Slot), j91 ≤ 9 → 9 - j91 < fuj91 → va_P D vwCl [(mo, .inr (11, [.ref to, .ref ke, .ref ik, .ref mrf, .long mab, .long mbl, .ref ha, .ref r0, .ref mbr, .ref mbp, .ref mby, .int (nI bl), .int (nI ta), .int (nI tl), .int (nI tk), .int vv, .ref an, .ref va])), (to, .inl (y 0, 228, .inl ft))] H → va_D A [(mo, .inr (11, [.ref to, .ref ke, .ref ik, .ref mrf, .long mab, .long mbl, .ref ha, .ref r0, .ref mbr, .ref mbp, .ref mby, .int (nI bl), .int (nI ta), .int (nI tl), .int (nI tk), .int vv, .ref an, .ref va])), (to, .inl (y 0, 228, .inl ft))] → va_S A s.heap H locs → lv_has ls 4 [(3, .int (nI j91)), (1, .long x158), (0, .ref mo)] → W pZ l eZ ({ frames := 3, cells := 0, slots := 0, locals := 101 }) s mZ [.ref mo].toArray beZ meZ cZ H locs 0 0 (MQ beZ (va_Ql (fun (r : Int64) (u : Unit) => (gl = 0 ∨ 0 < fi)) (kw_B D (fun _ => [(mo, .inr (11, [.ref to, .ref ke, .ref ik, .ref mrf, .long mab, .long mbl, .ref ha, .ref r0, .ref mbr, .ref mbp, .ref mby, .int (nI bl), .int (nI ta), .int (nI tl), .int (nI tk), .int vv, .ref an, .ref va])), (to, .inl (y 0, 228, .inl ft))]) A) A) [.ref mo].toArray s 0 0 A) (F0 mZ 6 ls []) := by
    intro fuj91
    induction fuj91 with
    | zero => intro j91 x158 H locs ls hj9 hf9; exact absurd hf9 (Nat.not_lt_zero _)
    | succ fuj91 ihj91 =>
      intro j91 x158 H locs ls hj91 hfj91  hP hD hS hl
      refine lv_iload_n hx hb dX11_digest_6 rfl (lv_at hl 0 rfl) ?_
      refine lv_bipush (v := 9) hx hb dX11_digest_7 (by decide) ?_
      refine lv_icmp_ge (tgt := 31) hx hb dX11_digest_9 (by decide) (fun h314 => ?_) (fun h315 => ?_)
      · skip
        have h314 : 9 ≤ j91 := (nI_leI (a := 9) (b := j91) (by omega) (by omega)).mp h314
        refine lv_iconst (v := 0) hx hb dX11_digest_31 (by decide) ?_
        refine lv_istore_n (lv' := [(3, .int 0), (1, .long x158), (0, .ref mo)]) hx hb dX11_digest_32 rfl hl (by decide) rfl (fun ls hl => ?_)
        have lp415 : ∀ (fuj92 j92 : Nat) (x365 : Int64) (H : Heap) (locs : List Loc) (ls : Array Slot), j92 ≤ fi → fi - j92 < fuj92 → va_P D vwCl [(mo, .inr (11, [.ref to, .ref ke, .ref ik, .ref mrf, .long mab, .long mbl, .ref ha, .ref r0, .ref mbr, .ref mbp, .ref mby, .int (nI bl), .int (nI ta), .int (nI tl), .int (nI tk), .int vv, .ref an, .ref va])), (to, .inl (y 0, 228, .inl ft))] H → va_D A [(mo, .inr (11, [.ref to, .ref ke, .ref ik, .ref mrf, .long mab, .long mbl, .ref ha, .ref r0, .ref mbr, .ref mbp, .ref mby, .int (nI bl), .int (nI ta), .int (nI tl), .int (nI tk), .int vv, .ref an, .ref va])), (to, .inl (y 0, 228, .inl ft))] → va_S A s.heap H locs → lv_has ls 4 [(3, .int (nI j92)), (1, .long x365), (0, .ref mo)] → W pZ l eZ ({ frames := 3, cells := 0, slots := 0, locals := 101 }) s mZ [.ref mo].toArray beZ meZ cZ H locs 0 0 (MQ beZ (va_Ql (fun (r : Int64) (u : Unit) => (gl = 0 ∨ 0 < fi)) (kw_B D (fun _ => [(mo, .inr (11, [.ref to, .ref ke, .ref ik, .ref mrf, .long mab, .long mbl, .ref ha, .ref r0, .ref mbr, .ref mbp, .ref mby, .int (nI bl), .int (nI ta), .int (nI tl), .int (nI tk), .int vv, .ref an, .ref va])), (to, .inl (y 0, 228, .inl ft))]) A) A) [.ref mo].toArray s 0 0 A) (F0 mZ 33 ls []) := by
          intro fuj92
          induction fuj92 with
          | zero => intro j92 x365 H locs ls hj9 hf9; exact absurd hf9 (Nat.not_lt_zero _)
          | succ fuj92 ihj92 =>
            intro j92 x365 H locs ls hj92 hfj92  hP hD hS hl
            refine lv_iload_n hx hb dX11_digest_33 rfl (lv_at hl 0 rfl) ?_
            refine lv_aload_n hx hb dX11_digest_34 rfl (lv_at hl 2 rfl) ?_
            have hs416 : kw_Split [(mo, .inr (11, [.ref to, .ref ke, .ref ik, .ref mrf, .long mab, .long mbl, .ref ha, .ref r0, .ref mbr, .ref mbp, .ref mby, .int (nI bl), .int (nI ta), .int (nI tl), .int (nI tk), .int vv, .ref an, .ref va])), (to, .inl (y 0, 228, .inl ft))] [(mo, .inr (11, [.ref to, .ref ke, .ref ik, .ref mrf, .long mab, .long mbl, .ref ha, .ref r0, .ref mbr, .ref mbp, .ref mby, .int (nI bl), .int (nI ta), .int (nI tl), .int (nI tk), .int vv, .ref an, .ref va])), (to, .inl (y 0, 228, .inl ft))] [] [0, 1] [] := ⟨rfl, rfl, rfl, rfl, rfl, by decide⟩
            refine kw_go_i hs416 hP hD hS hA (va_runV (As := []) (rest := [.int (nI j92)]) ⟨hx, hb, hml, hown, hts⟩ (gr_many l D y mo to ke ik mrf ha r0 mbr mbp mby an va mab mbl bl ta tl tk vv ft fi gl mi no un hk0_ hk1_ hk2_ hk3_ hk4_ hkt hfi hgl hmi hno hun _) (cwV 0 hts gX11_digest_X11_many rfl rfl rfl (by decide +kernel) ⟨Nat.le_of_ble_eq_true rfl, Nat.le_of_ble_eq_true rfl⟩) (kw_PreV (ci := 11) (q0 := 0) hs416 hP hD hK hN rfl rfl) rfl rfl hl.1 rfl (lv_room (Nat.le_of_ble_eq_true rfl)) dX11_digest_35 ⟨Nat.le_of_ble_eq_true rfl, Nat.le_of_ble_eq_true rfl⟩) (fun r417 u418 H locs hq hP hD hS => ?_)
            obtain rfl := hq
            have hP : va_P D vwCl [(mo, .inr (11, [.ref to, .ref ke, .ref ik, .ref mrf, .long mab, .long mbl, .ref ha, .ref r0, .ref mbr, .ref mbp, .ref mby, .int (nI bl), .int (nI ta), .int (nI tl), .int (nI tk), .int vv, .ref an, .ref va])), (to, .inl (y 0, 228, .inl ft))] H := hP
            have hD : va_D A [(mo, .inr (11, [.ref to, .ref ke, .ref ik, .ref mrf, .long mab, .long mbl, .ref ha, .ref r0, .ref mbr, .ref mbp, .ref mby, .int (nI bl), .int (nI ta), .int (nI tl), .int (nI tk), .int vv, .ref an, .ref va])), (to, .inl (y 0, 228, .inl ft))] := hD
            refine lv_icmp_ge (tgt := 78) hx hb dX11_digest_38 (by decide) (fun h419 => ?_) (fun h420 => ?_)
            · skip
              have h419 : fi ≤ j92 := (nI_leI (a := fi) (b := j92) (by omega) (by omega)).mp h419
              refine lv_iconst (v := 0) hx hb dX11_digest_78 (by decide) ?_
              refine lv_istore_n (lv' := [(3, .int 0), (1, .long x365), (0, .ref mo)]) hx hb dX11_digest_79 rfl hl (by decide) rfl (fun ls hl => ?_)
              have lp450 : ∀ (fuj93 j93 : Nat) (x435 : Int64) (H : Heap) (locs : List Loc) (ls : Array Slot), j93 ≤ gl → gl - j93 < fuj93 → va_P D vwCl [(mo, .inr (11, [.ref to, .ref ke, .ref ik, .ref mrf, .long mab, .long mbl, .ref ha, .ref r0, .ref mbr, .ref mbp, .ref mby, .int (nI bl), .int (nI ta), .int (nI tl), .int (nI tk), .int vv, .ref an, .ref va])), (to, .inl (y 0, 228, .inl ft))] H → va_D A [(mo, .inr (11, [.ref to, .ref ke, .ref ik, .ref mrf, .long mab, .long mbl, .ref ha, .ref r0, .ref mbr, .ref mbp, .ref mby, .int (nI bl), .int (nI ta), .int (nI tl), .int (nI tk), .int vv, .ref an, .ref va])), (to, .inl (y 0, 228, .inl ft))] → va_S A s.heap H locs → lv_has ls 4 [(3, .int (nI j93)), (1, .long x435), (0, .ref mo)] → W pZ l eZ ({ frames := 3, cells := 0, slots := 0, locals := 101 }) s mZ [.ref mo].toArray beZ meZ cZ H locs 0 0 (MQ beZ (va_Ql (fun (r : Int64) (u : Unit) => (gl = 0 ∨ 0 < fi)) (kw_B D (fun _ => [(mo, .inr (11, [.ref to, .ref ke, .ref ik, .ref mrf, .long mab, .long mbl, .ref ha, .ref r0, .ref mbr, .ref mbp, .ref mby, .int (nI bl), .int (nI ta), .int (nI tl), .int (nI tk), .int vv, .ref an, .ref va])), (to, .inl (y 0, 228, .inl ft))]) A) A) [.ref mo].toArray s 0 0 A) (F0 mZ 80 ls []) := by
                intro fuj93
                induction fuj93 with
                | zero => intro j93 x435 H locs ls hj9 hf9; exact absurd hf9 (Nat.not_lt_zero _)
                | succ fuj93 ihj93 =>
                  intro j93 x435 H locs ls hj93 hfj93  hP hD hS hl
                  refine lv_iload_n hx hb dX11_digest_80 rfl (lv_at hl 0 rfl) ?_
                  refine lv_aload_n hx hb dX11_digest_81 rfl (lv_at hl 2 rfl) ?_
                  have hs451 : kw_Split [(mo, .inr (11, [.ref to, .ref ke, .ref ik, .ref mrf, .long mab, .long mbl, .ref ha, .ref r0, .ref mbr, .ref mbp, .ref mby, .int (nI bl), .int (nI ta), .int (nI tl), .int (nI tk), .int vv, .ref an, .ref va])), (to, .inl (y 0, 228, .inl ft))] [(mo, .inr (11, [.ref to, .ref ke, .ref ik, .ref mrf, .long mab, .long mbl, .ref ha, .ref r0, .ref mbr, .ref mbp, .ref mby, .int (nI bl), .int (nI ta), .int (nI tl), .int (nI tk), .int vv, .ref an, .ref va])), (to, .inl (y 0, 228, .inl ft))] [] [0, 1] [] := ⟨rfl, rfl, rfl, rfl, rfl, by decide⟩
                  refine kw_go_i hs451 hP hD hS hA (va_runV (As := []) (rest := [.int (nI j93)]) ⟨hx, hb, hml, hown, hts⟩ (gr_manyGleaners l D y mo to ke ik mrf ha r0 mbr mbp mby an va mab mbl bl ta tl tk vv ft fi gl mi no un hk0_ hk1_ hk2_ hk3_ hk4_ hkt hfi hgl hmi hno hun _) (cwV 0 hts gX11_digest_X11_manyGleaners rfl rfl rfl (by decide +kernel) ⟨Nat.le_of_ble_eq_true rfl, Nat.le_of_ble_eq_true rfl⟩) (kw_PreV (ci := 11) (q0 := 0) hs451 hP hD hK hN rfl rfl) rfl rfl hl.1 rfl (lv_room (Nat.le_of_ble_eq_true rfl)) dX11_digest_82 ⟨Nat.le_of_ble_eq_true rfl, Nat.le_of_ble_eq_true rfl⟩) (fun r452 u453 H locs hq hP hD hS => ?_)
                  obtain rfl := hq
                  have hP : va_P D vwCl [(mo, .inr (11, [.ref to, .ref ke, .ref ik, .ref mrf, .long mab, .long mbl, .ref ha, .ref r0, .ref mbr, .ref mbp, .ref mby, .int (nI bl), .int (nI ta), .int (nI tl), .int (nI tk), .int vv, .ref an, .ref va])), (to, .inl (y 0, 228, .inl ft))] H := hP
                  have hD : va_D A [(mo, .inr (11, [.ref to, .ref ke, .ref ik, .ref mrf, .long mab, .long mbl, .ref ha, .ref r0, .ref mbr, .ref mbp, .ref mby, .int (nI bl), .int (nI ta), .int (nI tl), .int (nI tk), .int vv, .ref an, .ref va])), (to, .inl (y 0, 228, .inl ft))] := hD
                  refine lv_icmp_ge (tgt := 126) hx hb dX11_digest_85 (by decide) (fun h454 => ?_) (fun h455 => ?_)
                  · skip
                    have h454 : gl ≤ j93 := (nI_leI (a := gl) (b := j93) (by omega) (by omega)).mp h454
                    refine lv_aload_n hx hb dX11_digest_126 rfl (lv_at hl 2 rfl) ?_
                    refine lv_lload_n hx hb dX11_digest_127 rfl (lv_at hl 1 rfl) ?_
                    refine lv_bipush (v := 30) hx hb dX11_digest_128 (by decide) ?_
                    refine lv_iconst (v := 4) hx hb dX11_digest_130 (by decide) ?_
                    refine lv_aload_n hx hb dX11_digest_131 rfl (lv_at hl 2 rfl) ?_
                    refine va_get (D := D) (ci := 11) (v := .ref to) (C := RX11) (T := TX11) (N := 18) hx hb hts iw11 hown hK hP 0 rfl rfl 0 (by decide) fw2 (fun _ h9 => h9) rfl dX11_digest_132 ?_
                    refine lv_iconst (v := 2) hx hb dX11_digest_135 (by decide) ?_
                    refine va_iald hx hb hK hP 1 0 rfl rfl (by unfold vp_in; decide) dX11_digest_136 ?_
                    rw [show ((2 : Int32)).toNatClampNeg = 2 from rfl]
                    rw [show (ft 2) = (nI mi) from hk2_]
                    refine lv_imul hx hb dX11_digest_137 ?_
                    rw [show 4 * (nI mi) = nI (4 * mi) from pk_mul 4 mi]
                    have hs456 : kw_Split [(mo, .inr (11, [.ref to, .ref ke, .ref ik, .ref mrf, .long mab, .long mbl, .ref ha, .ref r0, .ref mbr, .ref mbp, .ref mby, .int (nI bl), .int (nI ta), .int (nI tl), .int (nI tk), .int vv, .ref an, .ref va])), (to, .inl (y 0, 228, .inl ft))] [(mo, .inr (11, [.ref to, .ref ke, .ref ik, .ref mrf, .long mab, .long mbl, .ref ha, .ref r0, .ref mbr, .ref mbp, .ref mby, .int (nI bl), .int (nI ta), .int (nI tl), .int (nI tk), .int vv, .ref an, .ref va])), (to, .inl (y 0, 228, .inl ft))] [] [0, 1] [] := ⟨rfl, rfl, rfl, rfl, rfl, by decide⟩
                    refine kw_go_l hs456 hP hD hS hA (va_runV (As := [.long x435, .int 30, .int (nI (4 * mi))]) (rest := []) ⟨hx, hb, hml, hown, hts⟩ (gr_sums l D y mo to ke ik mrf ha r0 mbr mbp mby an va mab mbl bl ta tl tk vv ft fi gl mi no un x435 30 (4 * mi) hk0_ hk1_ hk2_ hk3_ hk4_ hkt hfi hgl hmi hno hun (by omega) _) (cwV 3 hts gX11_digest_X11_sums rfl rfl rfl (by decide +kernel) ⟨Nat.le_of_ble_eq_true rfl, Nat.le_of_ble_eq_true rfl⟩) (kw_PreV (ci := 11) (q0 := 0) hs456 hP hD hK hN rfl rfl) rfl rfl hl.1 rfl (lv_room (Nat.le_of_ble_eq_true rfl)) dX11_digest_138 ⟨Nat.le_of_ble_eq_true rfl, Nat.le_of_ble_eq_true rfl⟩) (fun r457 u458 H locs hq hP hD hS => ?_)
                    have hP : va_P D vwCl [(mo, .inr (11, [.ref to, .ref ke, .ref ik, .ref mrf, .long mab, .long mbl, .ref ha, .ref r0, .ref mbr, .ref mbp, .ref mby, .int (nI bl), .int (nI ta), .int (nI tl), .int (nI tk), .int vv, .ref an, .ref va])), (to, .inl (y 0, 228, .inl ft))] H := hP
                    have hD : va_D A [(mo, .inr (11, [.ref to, .ref ke, .ref ik, .ref mrf, .long mab, .long mbl, .ref ha, .ref r0, .ref mbr, .ref mbp, .ref mby, .int (nI bl), .int (nI ta), .int (nI tl), .int (nI tk), .int vv, .ref an, .ref va])), (to, .inl (y 0, 228, .inl ft))] := hD
                    refine lv_lstore_n (lv' := [(1, .long r457), (3, .int (nI j93)), (0, .ref mo)]) hx hb dX11_digest_141 rfl hl (by decide) rfl (fun ls hl => ?_)
                    refine lv_aload_n hx hb dX11_digest_142 rfl (lv_at hl 2 rfl) ?_
                    refine lv_lload_n hx hb dX11_digest_143 rfl (lv_at hl 0 rfl) ?_
                    refine lv_bipush (v := 46) hx hb dX11_digest_144 (by decide) ?_
                    refine lv_iconst (v := 5) hx hb dX11_digest_146 (by decide) ?_
                    refine lv_aload_n hx hb dX11_digest_147 rfl (lv_at hl 2 rfl) ?_
                    refine va_get (D := D) (ci := 11) (v := .ref to) (C := RX11) (T := TX11) (N := 18) hx hb hts iw11 hown hK hP 0 rfl rfl 0 (by decide) fw2 (fun _ h9 => h9) rfl dX11_digest_148 ?_
                    refine lv_iconst (v := 3) hx hb dX11_digest_151 (by decide) ?_
                    refine va_iald hx hb hK hP 1 0 rfl rfl (by unfold vp_in; decide) dX11_digest_152 ?_
                    rw [show ((3 : Int32)).toNatClampNeg = 3 from rfl]
                    rw [show (ft 3) = (nI no) from hk3_]
                    refine lv_imul hx hb dX11_digest_153 ?_
                    rw [show 5 * (nI no) = nI (5 * no) from pk_mul 5 no]
                    have hs459 : kw_Split [(mo, .inr (11, [.ref to, .ref ke, .ref ik, .ref mrf, .long mab, .long mbl, .ref ha, .ref r0, .ref mbr, .ref mbp, .ref mby, .int (nI bl), .int (nI ta), .int (nI tl), .int (nI tk), .int vv, .ref an, .ref va])), (to, .inl (y 0, 228, .inl ft))] [(mo, .inr (11, [.ref to, .ref ke, .ref ik, .ref mrf, .long mab, .long mbl, .ref ha, .ref r0, .ref mbr, .ref mbp, .ref mby, .int (nI bl), .int (nI ta), .int (nI tl), .int (nI tk), .int vv, .ref an, .ref va])), (to, .inl (y 0, 228, .inl ft))] [] [0, 1] [] := ⟨rfl, rfl, rfl, rfl, rfl, by decide⟩
                    refine kw_go_l hs459 hP hD hS hA (va_runV (As := [.long r457, .int 46, .int (nI (5 * no))]) (rest := []) ⟨hx, hb, hml, hown, hts⟩ (gr_sums l D y mo to ke ik mrf ha r0 mbr mbp mby an va mab mbl bl ta tl tk vv ft fi gl mi no un r457 46 (5 * no) hk0_ hk1_ hk2_ hk3_ hk4_ hkt hfi hgl hmi hno hun (by omega) _) (cwV 3 hts gX11_digest_X11_sums rfl rfl rfl (by decide +kernel) ⟨Nat.le_of_ble_eq_true rfl, Nat.le_of_ble_eq_true rfl⟩) (kw_PreV (ci := 11) (q0 := 0) hs459 hP hD hK hN rfl rfl) rfl rfl hl.1 rfl (lv_room (Nat.le_of_ble_eq_true rfl)) dX11_digest_154 ⟨Nat.le_of_ble_eq_true rfl, Nat.le_of_ble_eq_true rfl⟩) (fun r460 u461 H locs hq hP hD hS => ?_)
                    have hP : va_P D vwCl [(mo, .inr (11, [.ref to, .ref ke, .ref ik, .ref mrf, .long mab, .long mbl, .ref ha, .ref r0, .ref mbr, .ref mbp, .ref mby, .int (nI bl), .int (nI ta), .int (nI tl), .int (nI tk), .int vv, .ref an, .ref va])), (to, .inl (y 0, 228, .inl ft))] H := hP
                    have hD : va_D A [(mo, .inr (11, [.ref to, .ref ke, .ref ik, .ref mrf, .long mab, .long mbl, .ref ha, .ref r0, .ref mbr, .ref mbp, .ref mby, .int (nI bl), .int (nI ta), .int (nI tl), .int (nI tk), .int vv, .ref an, .ref va])), (to, .inl (y 0, 228, .inl ft))] := hD
                    refine lv_lstore_n (lv' := [(1, .long r460), (3, .int (nI j93)), (0, .ref mo)]) hx hb dX11_digest_157 rfl hl (by decide) rfl (fun ls hl => ?_)
                    refine lv_ldc2 (v := 31) hx hb hown fw3 dX11_digest_158 ?_
                    refine lv_ldc2 (v := 31) hx hb hown fw3 dX11_digest_161 ?_
                    refine lv_lload_n hx hb dX11_digest_164 rfl (lv_at hl 0 rfl) ?_
                    refine lv_lmul hx hb dX11_digest_165 ?_
                    refine lv_aload_n hx hb dX11_digest_166 rfl (lv_at hl 2 rfl) ?_
                    refine va_get (D := D) (ci := 11) (v := .long mab) (C := RX11) (T := TX11) (N := 18) hx hb hts iw11 hown hK hP 0 rfl rfl 4 (by decide) fw4 (fun _ h9 => h9) rfl dX11_digest_167 ?_
                    refine lv_ladd hx hb dX11_digest_170 ?_
                    refine lv_lmul hx hb dX11_digest_171 ?_
                    refine lv_aload_n hx hb dX11_digest_172 rfl (lv_at hl 2 rfl) ?_
                    refine va_get (D := D) (ci := 11) (v := .long mbl) (C := RX11) (T := TX11) (N := 18) hx hb hts iw11 hown hK hP 0 rfl rfl 5 (by decide) fw5 (fun _ h9 => h9) rfl dX11_digest_173 ?_
                    refine lv_ladd hx hb dX11_digest_176 ?_
                    exact W.lret (v := ((31 * ((31 * r460) + mab)) + mbl)) hx hb hr (fun tZ ht hW => ⟨⟨((31 * ((31 * r460) + mab)) + mbl), (), rfl, by first | omega | (dsimp only; omega), by rw [ht]; exact hP.sub [0, 1] rfl, hD.sub [0, 1] (by decide) rfl⟩, hS.F ht⟩) hS.2.2 dX11_digest_177
                  · skip
                    have h455 : ¬ gl ≤ j93 := fun q9 => h455 ((nI_leI (a := gl) (b := j93) (by omega) (by omega)).mpr q9)
                    refine lv_ldc2 (v := 31) hx hb hown fw3 dX11_digest_88 ?_
                    refine lv_ldc2 (v := 31) hx hb hown fw3 dX11_digest_91 ?_
                    refine lv_lload_n hx hb dX11_digest_94 rfl (lv_at hl 1 rfl) ?_
                    refine lv_lmul hx hb dX11_digest_95 ?_
                    refine lv_aload_n hx hb dX11_digest_96 rfl (lv_at hl 2 rfl) ?_
                    refine va_get (D := D) (ci := 11) (v := .ref to) (C := RX11) (T := TX11) (N := 18) hx hb hts iw11 hown hK hP 0 rfl rfl 0 (by decide) fw2 (fun _ h9 => h9) rfl dX11_digest_97 ?_
                    refine lv_bipush (v := 11) hx hb dX11_digest_100 (by decide) ?_
                    refine lv_iload_n hx hb dX11_digest_102 rfl (lv_at hl 0 rfl) ?_
                    refine lv_iadd hx hb dX11_digest_103 ?_
                    rw [show 11 + (nI j93) = nI (j93 + 11) from (nI_add 11 j93).trans (congrArg nI (by omega))]
                    refine va_iald hx hb hK hP 1 0 rfl rfl (vp_in_nI (by omega) (by decide)) dX11_digest_104 ?_
                    rw [nI_clamp (n := (j93 + 11)) (by omega)]
                    obtain ⟨w462, h463, h464⟩ := kr_at hkt (p := (j93 + 11)) (by omega) (by unfold kr_a; omega)
                    rw [h464]
                    refine lv_i2l (v := (nI w462).toInt64) hx hb dX11_digest_105 (rfl) ?_
                    refine lv_ladd hx hb dX11_digest_106 ?_
                    refine lv_lmul hx hb dX11_digest_107 ?_
                    refine lv_aload_n hx hb dX11_digest_108 rfl (lv_at hl 2 rfl) ?_
                    refine va_get (D := D) (ci := 11) (v := .ref to) (C := RX11) (T := TX11) (N := 18) hx hb hts iw11 hown hK hP 0 rfl rfl 0 (by decide) fw2 (fun _ h9 => h9) rfl dX11_digest_109 ?_
                    refine lv_bipush (v := 16) hx hb dX11_digest_112 (by decide) ?_
                    refine lv_iload_n hx hb dX11_digest_114 rfl (lv_at hl 0 rfl) ?_
                    refine lv_iadd hx hb dX11_digest_115 ?_
                    rw [show 16 + (nI j93) = nI (j93 + 16) from (nI_add 16 j93).trans (congrArg nI (by omega))]
                    refine va_iald hx hb hK hP 1 0 rfl rfl (vp_in_nI (by omega) (by decide)) dX11_digest_116 ?_
                    rw [nI_clamp (n := (j93 + 16)) (by omega)]
                    refine lv_i2l (v := (ft (j93 + 16)).toInt64) hx hb dX11_digest_117 (rfl) ?_
                    refine lv_ladd hx hb dX11_digest_118 ?_
                    refine lv_lstore_n (lv' := [(1, .long ((31 * ((31 * x435) + ((nI w462).toInt64))) + ((ft (j93 + 16)).toInt64))), (3, .int (nI j93)), (0, .ref mo)]) hx hb dX11_digest_119 rfl hl (by decide) rfl (fun ls hl => ?_)
                    refine lv_iinc (v := (nI (j93 + 1))) (lv' := [(3, .int (nI (j93 + 1))), (1, .long ((31 * ((31 * x435) + ((nI w462).toInt64))) + ((ft (j93 + 16)).toInt64))), (0, .ref mo)]) hx hb dX11_digest_120 hl (k := 1) rfl (nI_1 j93) (by decide) rfl (fun ls hl => ?_)
                    refine lv_goto (tgt := 80) hx hb dX11_digest_123 (by decide) ?_
                    exact ihj93 (j93 + 1) ((31 * ((31 * x435) + ((nI w462).toInt64))) + ((ft (j93 + 16)).toInt64)) H locs ls (by omega) (by omega)  (hP.sub [0, 1] rfl) (hD.sub [0, 1] (by decide) rfl) hS (lv_sub hl [0, 1, 2] rfl)
              exact lp450 (gl + 1) 0 x365 _ _ _ (by omega) (by omega)  hP hD hS (lv_sub hl [0, 1, 2] rfl)
            · skip
              have h420 : ¬ fi ≤ j92 := fun q9 => h420 ((nI_leI (a := fi) (b := j92) (by omega) (by omega)).mpr q9)
              refine lv_ldc2 (v := 31) hx hb hown fw3 dX11_digest_41 ?_
              refine lv_ldc2 (v := 31) hx hb hown fw3 dX11_digest_44 ?_
              refine lv_lload_n hx hb dX11_digest_47 rfl (lv_at hl 1 rfl) ?_
              refine lv_lmul hx hb dX11_digest_48 ?_
              refine lv_aload_n hx hb dX11_digest_49 rfl (lv_at hl 2 rfl) ?_
              refine va_get (D := D) (ci := 11) (v := .ref to) (C := RX11) (T := TX11) (N := 18) hx hb hts iw11 hown hK hP 0 rfl rfl 0 (by decide) fw2 (fun _ h9 => h9) rfl dX11_digest_50 ?_
              refine lv_bipush (v := 24) hx hb dX11_digest_53 (by decide) ?_
              refine lv_iload_n hx hb dX11_digest_55 rfl (lv_at hl 0 rfl) ?_
              refine lv_iadd hx hb dX11_digest_56 ?_
              rw [show 24 + (nI j92) = nI (j92 + 24) from (nI_add 24 j92).trans (congrArg nI (by omega))]
              refine va_iald hx hb hK hP 1 0 rfl rfl (vp_in_nI (by omega) (by decide)) dX11_digest_57 ?_
              rw [nI_clamp (n := (j92 + 24)) (by omega)]
              refine lv_i2l (v := (ft (j92 + 24)).toInt64) hx hb dX11_digest_58 (rfl) ?_
              refine lv_ladd hx hb dX11_digest_59 ?_
              refine lv_lmul hx hb dX11_digest_60 ?_
              refine lv_aload_n hx hb dX11_digest_61 rfl (lv_at hl 2 rfl) ?_
              refine va_get (D := D) (ci := 11) (v := .ref to) (C := RX11) (T := TX11) (N := 18) hx hb hts iw11 hown hK hP 0 rfl rfl 0 (by decide) fw2 (fun _ h9 => h9) rfl dX11_digest_62 ?_
              refine lv_iconst (v := 5) hx hb dX11_digest_65 (by decide) ?_
              refine lv_iload_n hx hb dX11_digest_66 rfl (lv_at hl 0 rfl) ?_
              refine lv_iadd hx hb dX11_digest_67 ?_
              rw [show 5 + (nI j92) = nI (j92 + 5) from (nI_add 5 j92).trans (congrArg nI (by omega))]
              refine va_iald hx hb hK hP 1 0 rfl rfl (vp_in_nI (by omega) (by decide)) dX11_digest_68 ?_
              rw [nI_clamp (n := (j92 + 5)) (by omega)]
              refine lv_i2l (v := (ft (j92 + 5)).toInt64) hx hb dX11_digest_69 (rfl) ?_
              refine lv_ladd hx hb dX11_digest_70 ?_
              refine lv_lstore_n (lv' := [(1, .long ((31 * ((31 * x365) + ((ft (j92 + 24)).toInt64))) + ((ft (j92 + 5)).toInt64))), (3, .int (nI j92)), (0, .ref mo)]) hx hb dX11_digest_71 rfl hl (by decide) rfl (fun ls hl => ?_)
              refine lv_iinc (v := (nI (j92 + 1))) (lv' := [(3, .int (nI (j92 + 1))), (1, .long ((31 * ((31 * x365) + ((ft (j92 + 24)).toInt64))) + ((ft (j92 + 5)).toInt64))), (0, .ref mo)]) hx hb dX11_digest_72 hl (k := 1) rfl (nI_1 j92) (by decide) rfl (fun ls hl => ?_)
              refine lv_goto (tgt := 33) hx hb dX11_digest_75 (by decide) ?_
              exact ihj92 (j92 + 1) ((31 * ((31 * x365) + ((ft (j92 + 24)).toInt64))) + ((ft (j92 + 5)).toInt64)) H locs ls (by omega) (by omega)  (hP.sub [0, 1] rfl) (hD.sub [0, 1] (by decide) rfl) hS (lv_sub hl [0, 1, 2] rfl)
        exact lp415 (fi + 1) 0 x158 _ _ _ (by omega) (by omega)  hP hD hS (lv_sub hl [0, 1, 2] rfl)
      · skip
        have h315 : ¬ 9 ≤ j91 := fun q9 => h315 ((nI_leI (a := 9) (b := j91) (by omega) (by omega)).mpr q9)
        refine lv_ldc2 (v := 31) hx hb hown fw3 dX11_digest_12 ?_
        refine lv_lload_n hx hb dX11_digest_15 rfl (lv_at hl 1 rfl) ?_
        refine lv_lmul hx hb dX11_digest_16 ?_
        refine lv_aload_n hx hb dX11_digest_17 rfl (lv_at hl 2 rfl) ?_
        refine lv_iload_n hx hb dX11_digest_18 rfl (lv_at hl 0 rfl) ?_
        have hs465 : kw_Split [(mo, .inr (11, [.ref to, .ref ke, .ref ik, .ref mrf, .long mab, .long mbl, .ref ha, .ref r0, .ref mbr, .ref mbp, .ref mby, .int (nI bl), .int (nI ta), .int (nI tl), .int (nI tk), .int vv, .ref an, .ref va])), (to, .inl (y 0, 228, .inl ft))] [(mo, .inr (11, [.ref to, .ref ke, .ref ik, .ref mrf, .long mab, .long mbl, .ref ha, .ref r0, .ref mbr, .ref mbp, .ref mby, .int (nI bl), .int (nI ta), .int (nI tl), .int (nI tk), .int vv, .ref an, .ref va])), (to, .inl (y 0, 228, .inl ft))] [] [0, 1] [] := ⟨rfl, rfl, rfl, rfl, rfl, by decide⟩
        refine kw_go_i hs465 hP hD hS hA (va_runV (As := [.int (nI j91)]) (rest := [.long (31 * x158)]) ⟨hx, hb, hml, hown, hts⟩ (gr_counted l D y mo to ke ik mrf ha r0 mbr mbp mby an va mab mbl bl ta tl tk vv ft fi gl mi no un j91 hk0_ hk1_ hk2_ hk3_ hk4_ hkt hfi hgl hmi hno hun (by omega) _) (cwV 1 hts gX11_digest_X11_counted rfl rfl rfl (by decide +kernel) ⟨Nat.le_of_ble_eq_true rfl, Nat.le_of_ble_eq_true rfl⟩) (kw_PreV (ci := 11) (q0 := 0) hs465 hP hD hK hN rfl rfl) rfl rfl hl.1 rfl (lv_room (Nat.le_of_ble_eq_true rfl)) dX11_digest_19 ⟨Nat.le_of_ble_eq_true rfl, Nat.le_of_ble_eq_true rfl⟩) (fun r466 u467 H locs hq hP hD hS => ?_)
        have hP : va_P D vwCl [(mo, .inr (11, [.ref to, .ref ke, .ref ik, .ref mrf, .long mab, .long mbl, .ref ha, .ref r0, .ref mbr, .ref mbp, .ref mby, .int (nI bl), .int (nI ta), .int (nI tl), .int (nI tk), .int vv, .ref an, .ref va])), (to, .inl (y 0, 228, .inl ft))] H := hP
        have hD : va_D A [(mo, .inr (11, [.ref to, .ref ke, .ref ik, .ref mrf, .long mab, .long mbl, .ref ha, .ref r0, .ref mbr, .ref mbp, .ref mby, .int (nI bl), .int (nI ta), .int (nI tl), .int (nI tk), .int vv, .ref an, .ref va])), (to, .inl (y 0, 228, .inl ft))] := hD
        refine lv_i2l (v := r466.toInt64) hx hb dX11_digest_22 (rfl) ?_
        refine lv_ladd hx hb dX11_digest_23 ?_
        refine lv_lstore_n (lv' := [(1, .long ((31 * x158) + r466.toInt64)), (3, .int (nI j91)), (0, .ref mo)]) hx hb dX11_digest_24 rfl hl (by decide) rfl (fun ls hl => ?_)
        refine lv_iinc (v := (nI (j91 + 1))) (lv' := [(3, .int (nI (j91 + 1))), (1, .long ((31 * x158) + r466.toInt64)), (0, .ref mo)]) hx hb dX11_digest_25 hl (k := 1) rfl (nI_1 j91) (by decide) rfl (fun ls hl => ?_)
        refine lv_goto (tgt := 6) hx hb dX11_digest_28 (by decide) ?_
        exact ihj91 (j91 + 1) ((31 * x158) + r466.toInt64) H locs ls (by omega) (by omega)  (hP.sub [0, 1] rfl) (hD.sub [0, 1] (by decide) rfl) hS (lv_sub hl [0, 1, 2] rfl)
  exact lp313 (9 + 1) 0 1451 _ _ _ (by omega) (by omega)  hP hD hS (lv_sub hl [0, 1, 2] rfl)

set_option maxHeartbeats 4000000 in
set_option maxRecDepth 100000 in
theorem gr_fraction (l : Launch) (D : va_G) (y : Nat → ClassId) (mo : Nat) (to : Nat) (ke : Nat) (ik : Nat) (mrf : Nat) (ha : Nat) (r0 : Nat) (mbr : Nat) (mbp : Nat) (mby : Nat) (an : Nat) (va : Nat) (mab : Int64) (mbl : Int64) (bl : Nat) (ta : Nat) (tl : Nat) (tk : Nat) (vv : Int32) (ov : Int64)  : kw_Mv l yX11_fraction wsX11_fraction ({ frames := 1, cells := 0, slots := 0, locals := 60 }) D y [.ref mo, .long ov, .long 10] [(mo, .inr (11, [.ref to, .ref ke, .ref ik, .ref mrf, .long mab, .long mbl, .ref ha, .ref r0, .ref mbr, .ref mbp, .ref mby, .int (nI bl), .int (nI ta), .int (nI tl), .int (nI tk), .int vv, .ref an, .ref va]))] (fun (u : Int64 × Int64) => True) (fun u => [(mo, .inr (11, [.ref to, .ref ke, .ref ik, .ref mrf, .long u.1, .long u.2, .ref ha, .ref r0, .ref mbr, .ref mbp, .ref mby, .int (nI bl), .int (nI ta), .int (nI tl), .int (nI tk), .int vv, .ref an, .ref va]))]) 0 0 := by
  refine kw_Mv.of (cc := cX11_fraction) (maxL := 11) (ret := none) (by decide) rfl ?_
  intro pZ eZ s mZ beZ meZ cZ A hE
  obtain ⟨hx, hb, hr, hml, hts, hown, hlocks, hin, hA, hP, hD, hK, hN⟩ := hE
  have hS : va_S A s.heap s.heap [] := va_S.rf
  have hl := lv_entry ([.ref mo, .long ov, .long 10]) (n := 11) (Nat.le_of_ble_eq_true rfl)
  rw [lg_entry_eq]
  generalize (lg_sl ([.ref mo, .long ov, .long 10]) ++ List.replicate (11 - (lg_sl ([.ref mo, .long ov, .long 10])).length) Slot.unset).toArray = ls at hl ⊢
  have hl : lv_has ls 11 [(0, .ref mo), (1, .long ov), (3, .long 10)] := hl
  have fw1 := hts (.fieldLink RX11 189 "GleanDuskModel" "above" "J") (List.mem_of_getElem? (i := 1) rfl)
  have fw2 := hts (.fieldLink RX11 23 "GleanDuskModel" "below" "J") (List.mem_of_getElem? (i := 2) rfl)
  have iw11 : ∀ w ∈ wsX110, w ∈ wsX11_fraction := fun _ h => List.mem_cons_of_mem _ (List.mem_append_right _ h)
  refine lv_lload_n hx hb dX11_fraction_0 rfl (lv_at hl 1 rfl) ?_
  refine lv_lstore (lv' := [(5, .long ov), (0, .ref mo), (1, .long ov), (3, .long 10)]) hx hb dX11_fraction_1 hl (by decide) rfl (fun ls hl => ?_)
  refine lv_lload_n hx hb dX11_fraction_3 rfl (lv_at hl 3 rfl) ?_
  refine lv_lstore (lv' := [(7, .long 10), (5, .long ov), (0, .ref mo), (1, .long ov), (3, .long 10)]) hx hb dX11_fraction_4 hl (by decide) rfl (fun ls hl => ?_)
  have lp9 : ∀ (fu91 : Nat) (x4 : Int64) (x5 : Int64) (H : Heap) (locs : List Loc) (ls : Array Slot), x4.toInt.natAbs < fu91 → (¬ x4 = 0 ∨ ¬ x5 = 0) → va_P D vwCl [(mo, .inr (11, [.ref to, .ref ke, .ref ik, .ref mrf, .long mab, .long mbl, .ref ha, .ref r0, .ref mbr, .ref mbp, .ref mby, .int (nI bl), .int (nI ta), .int (nI tl), .int (nI tk), .int vv, .ref an, .ref va]))] H → va_D A [(mo, .inr (11, [.ref to, .ref ke, .ref ik, .ref mrf, .long mab, .long mbl, .ref ha, .ref r0, .ref mbr, .ref mbp, .ref mby, .int (nI bl), .int (nI ta), .int (nI tl), .int (nI tk), .int vv, .ref an, .ref va]))] → va_S A s.heap H locs → lv_has ls 11 [(7, .long x4), (5, .long x5), (0, .ref mo), (1, .long ov), (3, .long 10)] → W pZ l eZ ({ frames := 1, cells := 0, slots := 0, locals := 60 }) s mZ [.ref mo, .long ov, .long 10].toArray beZ meZ cZ H locs 0 0 (MQ beZ (va_Qv (fun (u : Int64 × Int64) => True) (kw_B D (fun u => [(mo, .inr (11, [.ref to, .ref ke, .ref ik, .ref mrf, .long u.1, .long u.2, .ref ha, .ref r0, .ref mbr, .ref mbp, .ref mby, .int (nI bl), .int (nI ta), .int (nI tl), .int (nI tk), .int vv, .ref an, .ref va]))]) A) A) [.ref mo, .long ov, .long 10].toArray s 0 0 A) (F0 mZ 6 ls []) := by
    intro fu91
    induction fu91 with
    | zero => intro x4 x5 H locs ls hf9; exact absurd hf9 (Nat.not_lt_zero _)
    | succ fu91 ihfu91 =>
      intro x4 x5 H locs ls hffu91 hJ0_fu91 hP hD hS hl
      refine lv_lload hx hb dX11_fraction_6 (lv_at hl 0 rfl) ?_
      refine lv_lconst (v := 0) hx hb dX11_fraction_8 (by decide) ?_
      refine W.lcmp hx hb dX11_fraction_9 ?_
      refine lv_if_eq (tgt := 31) hx hb dX11_fraction_10 (by decide) (fun h10 => ?_) (fun h11 => ?_)
      · skip
        have h10 : x4 = 0 := kw_ceq_t h10
        have h12 : ¬ x5 = 0 := hJ0_fu91.resolve_left (fun q9 => q9 h10)
        refine lv_aload_n hx hb dX11_fraction_31 rfl (lv_at hl 2 rfl) ?_
        refine lv_lload_n hx hb dX11_fraction_32 rfl (lv_at hl 3 rfl) ?_
        refine lv_lload hx hb dX11_fraction_33 (lv_at hl 1 rfl) ?_
        refine lv_ldiv hx hb dX11_fraction_35 (h12) ?_
        refine va_put (D := D) (ci := 11) (v := .long (ov / x5)) (ty := .long) (C := RX11) (T := TX11) (N := 18) hx hb hts iw11 tyX11 tyX11_ok nmX11 hown hK hP hD hS 0 rfl rfl 4 (by decide) fw1 (fun _ h9 => h9) rfl (by decide +kernel) rfl rfl (Nat.le_of_ble_eq_true rfl) dX11_fraction_36 (fun H locs hP hD hS => ?_)
        have hP : va_P D vwCl [(mo, .inr (11, [.ref to, .ref ke, .ref ik, .ref mrf, .long (ov / x5), .long mbl, .ref ha, .ref r0, .ref mbr, .ref mbp, .ref mby, .int (nI bl), .int (nI ta), .int (nI tl), .int (nI tk), .int vv, .ref an, .ref va]))] H := hP
        have hD : va_D A [(mo, .inr (11, [.ref to, .ref ke, .ref ik, .ref mrf, .long (ov / x5), .long mbl, .ref ha, .ref r0, .ref mbr, .ref mbp, .ref mby, .int (nI bl), .int (nI ta), .int (nI tl), .int (nI tk), .int vv, .ref an, .ref va]))] := hD
        refine lv_aload_n hx hb dX11_fraction_39 rfl (lv_at hl 2 rfl) ?_
        refine lv_lload_n hx hb dX11_fraction_40 rfl (lv_at hl 4 rfl) ?_
        refine lv_lload hx hb dX11_fraction_41 (lv_at hl 1 rfl) ?_
        refine lv_ldiv hx hb dX11_fraction_43 (h12) ?_
        refine va_put (D := D) (ci := 11) (v := .long (10 / x5)) (ty := .long) (C := RX11) (T := TX11) (N := 18) hx hb hts iw11 tyX11 tyX11_ok nmX11 hown hK hP hD hS 0 rfl rfl 5 (by decide) fw2 (fun _ h9 => h9) rfl (by decide +kernel) rfl rfl (Nat.le_of_ble_eq_true rfl) dX11_fraction_44 (fun H locs hP hD hS => ?_)
        have hP : va_P D vwCl [(mo, .inr (11, [.ref to, .ref ke, .ref ik, .ref mrf, .long (ov / x5), .long (10 / x5), .ref ha, .ref r0, .ref mbr, .ref mbp, .ref mby, .int (nI bl), .int (nI ta), .int (nI tl), .int (nI tk), .int vv, .ref an, .ref va]))] H := hP
        have hD : va_D A [(mo, .inr (11, [.ref to, .ref ke, .ref ik, .ref mrf, .long (ov / x5), .long (10 / x5), .ref ha, .ref r0, .ref mbr, .ref mbp, .ref mby, .int (nI bl), .int (nI ta), .int (nI tl), .int (nI tk), .int vv, .ref an, .ref va]))] := hD
        exact W.vret hx hb hr (fun tZ ht hW => ⟨⟨((ov / x5), (10 / x5)), rfl, trivial, by rw [ht]; exact hP.sub [0] rfl, hD.sub [0] (by decide) rfl⟩, hS.F ht⟩) hS.2.2 dX11_fraction_47
      · skip
        have h11 : ¬ x4 = 0 := kw_ceq_f h11
        refine lv_lload hx hb dX11_fraction_13 (lv_at hl 1 rfl) ?_
        refine lv_lload hx hb dX11_fraction_15 (lv_at hl 0 rfl) ?_
        refine lv_lrem hx hb dX11_fraction_17 (h11) ?_
        refine lv_lstore (lv' := [(9, .long (x5 - x5 / x4 * x4)), (7, .long x4), (5, .long x5), (0, .ref mo), (1, .long ov), (3, .long 10)]) hx hb dX11_fraction_18 hl (by decide) rfl (fun ls hl => ?_)
        refine lv_lload hx hb dX11_fraction_20 (lv_at hl 1 rfl) ?_
        refine lv_lstore (lv' := [(5, .long x4), (9, .long (x5 - x5 / x4 * x4)), (7, .long x4), (0, .ref mo), (1, .long ov), (3, .long 10)]) hx hb dX11_fraction_22 hl (by decide) rfl (fun ls hl => ?_)
        refine lv_lload hx hb dX11_fraction_24 (lv_at hl 1 rfl) ?_
        refine lv_lstore (lv' := [(7, .long (x5 - x5 / x4 * x4)), (5, .long x4), (9, .long (x5 - x5 / x4 * x4)), (0, .ref mo), (1, .long ov), (3, .long 10)]) hx hb dX11_fraction_26 hl (by decide) rfl (fun ls hl => ?_)
        refine lv_goto (tgt := 6) hx hb dX11_fraction_28 (by decide) ?_
        exact ihfu91 (x5 - x5 / x4 * x4) x4 H locs ls (Nat.lt_of_lt_of_le (kr_lrem h11) (by omega)) (Or.inr h11) (hP.sub [0] rfl) (hD.sub [0] (by decide) rfl) hS (lv_sub hl [0, 1, 3, 4, 5] rfl)
  exact lp9 _ 10 ov _ _ _ (Nat.lt_succ_self _) (Or.inl (by decide)) hP hD hS (lv_sub hl [0, 1, 2, 3, 4] rfl)

set_option maxHeartbeats 4000000 in
set_option maxRecDepth 100000 in
theorem gr_fadedN (l : Launch) (D : va_G) (y : Nat → ClassId) (k : Nat) (hA1 : k ≤ 999) : kw_Mi l yX11_fadedBy wsX11_fadedBy ({ frames := 1, cells := 0, slots := 0, locals := 60 }) D y [.int (nI k)] [] (fun (r : Int32) (u : Unit) => r = (nI (k - ((k + 3) / 4)))) (fun _ => []) 0 0 := by
  refine kw_Mi.of (cc := cX11_fadedBy) (maxL := 1) (ret := (some .int)) (by decide) rfl ?_
  intro pZ eZ s mZ beZ meZ cZ A hE
  obtain ⟨hx, hb, hr, hml, hts, hown, hlocks, hin, hA, hP, hD, hK, hN⟩ := hE
  have hS : va_S A s.heap s.heap [] := va_S.rf
  have hl := lv_entry ([.int (nI k)]) (n := 1) (Nat.le_of_ble_eq_true rfl)
  rw [lg_entry_eq]
  generalize (lg_sl ([.int (nI k)]) ++ List.replicate (1 - (lg_sl ([.int (nI k)])).length) Slot.unset).toArray = ls at hl ⊢
  have hl : lv_has ls 1 [(0, .int (nI k))] := hl
  refine lv_iload_n hx hb dX11_fadedBy_0 rfl (lv_at hl 0 rfl) ?_
  refine lv_iload_n hx hb dX11_fadedBy_1 rfl (lv_at hl 0 rfl) ?_
  refine lv_iconst (v := 3) hx hb dX11_fadedBy_2 (by decide) ?_
  refine lv_iadd hx hb dX11_fadedBy_3 ?_
  rw [show (nI k) + 3 = nI (k + 3) from nI_add k 3]
  refine lv_iconst (v := 4) hx hb dX11_fadedBy_4 (by decide) ?_
  refine lv_idiv hx hb dX11_fadedBy_5 (by decide) ?_
  rw [show (nI (k + 3)) / 4 = nI ((k + 3) / 4) from pk_div (a := (k + 3)) (d := 4) (by omega) (by omega) (by omega)]
  refine lv_isub hx hb dX11_fadedBy_6 ?_
  rw [show (nI k) - (nI ((k + 3) / 4)) = nI (k - ((k + 3) / 4)) from pk_sub (a := k) (b := ((k + 3) / 4)) (by omega)]
  exact W.iret (v := (nI (k - ((k + 3) / 4)))) hx hb hr (fun tZ ht hW => ⟨⟨(nI (k - ((k + 3) / 4))), (), rfl, rfl, by rw [ht]; exact hP.sub [] rfl, hD.sub [] (by decide) rfl⟩, hS.F ht⟩) hS.2.2 dX11_fadedBy_7

set_option maxHeartbeats 4000000 in
set_option maxRecDepth 100000 in
theorem gq_lasts (l : Launch) (D : va_G) (y : Nat → ClassId) (mo : Nat) (to : Nat) (ke : Nat) (ik : Nat) (mrf : Nat) (ha : Nat) (r0 : Nat) (mbr : Nat) (mbp : Nat) (mby : Nat) (an : Nat) (va : Nat) (mab : Int64) (mbl : Int64) (bl : Nat) (ta : Nat) (tl : Nat) (tk : Nat) (vv : Int32) (frf : Nat → Int32) (ft : Nat → Int32) (fi : Nat) (gl : Nat) (mi : Nat) (no : Nat) (un : Nat) (x : Int32) (x2 : Int32) (hk0_ : ft 0 = (nI fi)) (hk1_ : ft 1 = (nI gl)) (hk2_ : ft 2 = (nI mi)) (hk3_ : ft 3 = (nI no)) (hk4_ : ft 4 = (nI un)) (hkt : kr_t 228 ft) (hfi : fi ≤ 6) (hgl : gl ≤ 5) (hmi : mi ≤ 4) (hno : no ≤ 6) (hun : un ≤ 8) (hgf : (gl = 0 ∨ 0 < fi)) : kw_Mi l yX11_lasts wsX11_lasts ({ frames := 3, cells := 0, slots := 0, locals := 106 }) D y [.ref mo, .int x, .int x2] [(mo, .inr (11, [.ref to, .ref ke, .ref ik, .ref mrf, .long mab, .long mbl, .ref ha, .ref r0, .ref mbr, .ref mbp, .ref mby, .int (nI bl), .int (nI ta), .int (nI tl), .int (nI tk), .int vv, .ref an, .ref va])), (mrf, .inl (y 0, 3, .inl frf)), (to, .inl (y 0, 228, .inl ft))] (fun (r : Int32) (u : (Nat → Int32)) => (gl = 0 ∨ 0 < fi)) (fun u => [(mo, .inr (11, [.ref to, .ref ke, .ref ik, .ref mrf, .long mab, .long mbl, .ref ha, .ref r0, .ref mbr, .ref mbp, .ref mby, .int (nI bl), .int (nI ta), .int (nI tl), .int (nI tk), .int vv, .ref an, .ref va])), (mrf, .inl (y 0, 3, .inl u)), (to, .inl (y 0, 228, .inl ft))]) 0 0 := by
  refine kw_Mi.of (cc := cX11_lasts) (maxL := 5) (ret := (some .int)) (by decide) rfl ?_
  intro pZ eZ s mZ beZ meZ cZ A hE
  obtain ⟨hx, hb, hr, hml, hts, hown, hlocks, hin, hA, hP, hD, hK, hN⟩ := hE
  have hS : va_S A s.heap s.heap [] := va_S.rf
  have hl := lv_entry ([.ref mo, .int x, .int x2]) (n := 5) (Nat.le_of_ble_eq_true rfl)
  rw [lg_entry_eq]
  generalize (lg_sl ([.ref mo, .int x, .int x2]) ++ List.replicate (5 - (lg_sl ([.ref mo, .int x, .int x2])).length) Slot.unset).toArray = ls at hl ⊢
  have hl : lv_has ls 5 [(0, .ref mo), (1, .int x), (2, .int x2)] := hl
  have fw1 := hts (.constantLong RX11 165 (999)) (List.mem_of_getElem? (i := 1) rfl)
  have fw2 := hts (.fieldLink RX11 7 "GleanDuskModel" "told" "[I") (List.mem_of_getElem? (i := 2) rfl)
  have iw11 : ∀ w ∈ wsX110, w ∈ wsX11_lasts := fun _ h => List.mem_cons_of_mem _ (List.mem_append_right _ h)
  refine lv_aload_n hx hb dX11_lasts_0 rfl (lv_at hl 0 rfl) ?_
  refine lv_iload_n hx hb dX11_lasts_1 rfl (lv_at hl 1 rfl) ?_
  have hs1 : kw_Split [(mo, .inr (11, [.ref to, .ref ke, .ref ik, .ref mrf, .long mab, .long mbl, .ref ha, .ref r0, .ref mbr, .ref mbp, .ref mby, .int (nI bl), .int (nI ta), .int (nI tl), .int (nI tk), .int vv, .ref an, .ref va])), (mrf, .inl (y 0, 3, .inl frf)), (to, .inl (y 0, 228, .inl ft))] [(mo, .inr (11, [.ref to, .ref ke, .ref ik, .ref mrf, .long mab, .long mbl, .ref ha, .ref r0, .ref mbr, .ref mbp, .ref mby, .int (nI bl), .int (nI ta), .int (nI tl), .int (nI tk), .int vv, .ref an, .ref va])), (to, .inl (y 0, 228, .inl ft))] [(mrf, .inl (y 0, 3, .inl frf))] [0, 2] [1] := ⟨rfl, rfl, rfl, rfl, rfl, by decide⟩
  refine kw_go_i hs1 hP hD hS hA (va_runV (As := [.int x]) (rest := []) ⟨hx, hb, hml, hown, hts⟩ (gr_isGleaner l D y mo to ke ik mrf ha r0 mbr mbp mby an va mab mbl bl ta tl tk vv ft fi gl mi no un x hk0_ hk1_ hk2_ hk3_ hk4_ hkt hfi hgl hmi hno hun _) (cwV 1 hts gX11_lasts_X11_isGleaner rfl rfl rfl (by decide +kernel) ⟨Nat.le_of_ble_eq_true rfl, Nat.le_of_ble_eq_true rfl⟩) (kw_PreV (ci := 11) (q0 := 0) hs1 hP hD hK hN rfl rfl) rfl rfl hl.1 rfl (lv_room (Nat.le_of_ble_eq_true rfl)) dX11_lasts_2 ⟨Nat.le_of_ble_eq_true rfl, Nat.le_of_ble_eq_true rfl⟩) (fun r2 u3 H locs hq hP hD hS => ?_)
  rcases hq with ⟨j4, h5, rfl, rfl⟩ | ⟨h6, rfl⟩
  · skip
    have hP : va_P D vwCl [(mrf, .inl (y 0, 3, .inl frf)), (mo, .inr (11, [.ref to, .ref ke, .ref ik, .ref mrf, .long mab, .long mbl, .ref ha, .ref r0, .ref mbr, .ref mbp, .ref mby, .int (nI bl), .int (nI ta), .int (nI tl), .int (nI tk), .int vv, .ref an, .ref va])), (to, .inl (y 0, 228, .inl ft))] H := hP
    have hD : va_D A [(mrf, .inl (y 0, 3, .inl frf)), (mo, .inr (11, [.ref to, .ref ke, .ref ik, .ref mrf, .long mab, .long mbl, .ref ha, .ref r0, .ref mbr, .ref mbp, .ref mby, .int (nI bl), .int (nI ta), .int (nI tl), .int (nI tk), .int vv, .ref an, .ref va])), (to, .inl (y 0, 228, .inl ft))] := hD
    refine lv_if_eq (tgt := 20) hx hb dX11_lasts_5 (by decide) (fun h9 => absurd h9 (by decide)) (fun _ => ?_)
    refine lv_iload_n hx hb dX11_lasts_8 rfl (lv_at hl 2 rfl) ?_
    refine lv_i2l (v := x2.toInt64) hx hb dX11_lasts_9 (rfl) ?_
    refine lv_lconst (v := 1) hx hb dX11_lasts_10 (by decide) ?_
    refine lv_ldc2 (v := 999) hx hb hown fw1 dX11_lasts_11 ?_
    have hs7 : kw_Split [(mrf, .inl (y 0, 3, .inl frf)), (mo, .inr (11, [.ref to, .ref ke, .ref ik, .ref mrf, .long mab, .long mbl, .ref ha, .ref r0, .ref mbr, .ref mbp, .ref mby, .int (nI bl), .int (nI ta), .int (nI tl), .int (nI tk), .int vv, .ref an, .ref va])), (to, .inl (y 0, 228, .inl ft))] [] [(mrf, .inl (y 0, 3, .inl frf)), (mo, .inr (11, [.ref to, .ref ke, .ref ik, .ref mrf, .long mab, .long mbl, .ref ha, .ref r0, .ref mbr, .ref mbp, .ref mby, .int (nI bl), .int (nI ta), .int (nI tl), .int (nI tk), .int vv, .ref an, .ref va])), (to, .inl (y 0, 228, .inl ft))] [] [0, 1, 2] := ⟨rfl, rfl, rfl, rfl, rfl, by decide⟩
    refine kw_go_i hs7 hP hD hS hA (va_runS (As := [.long x2.toInt64, .long 1, .long 999]) (rest := []) ⟨hx, hb, hml, hown, hts⟩ (gr_in l D y x2 1 999 (by omega) (by omega) _) (va_cwS 3 hts gX11_lasts_X11_in rfl rfl rfl (by decide +kernel) ⟨Nat.le_of_ble_eq_true rfl, Nat.le_of_ble_eq_true rfl⟩) (kw_PreS hs7 hP hD hK hN) rfl rfl hl.1 rfl (lv_room (Nat.le_of_ble_eq_true rfl)) dX11_lasts_14 ⟨Nat.le_of_ble_eq_true rfl, Nat.le_of_ble_eq_true rfl⟩) (fun r8 u9 H locs hq hP hD hS => ?_)
    rcases hq with ⟨j10, h11, h12, rfl, rfl⟩ | ⟨h13, rfl⟩
    · skip
      have hP : va_P D vwCl [(mrf, .inl (y 0, 3, .inl frf)), (mo, .inr (11, [.ref to, .ref ke, .ref ik, .ref mrf, .long mab, .long mbl, .ref ha, .ref r0, .ref mbr, .ref mbp, .ref mby, .int (nI bl), .int (nI ta), .int (nI tl), .int (nI tk), .int vv, .ref an, .ref va])), (to, .inl (y 0, 228, .inl ft))] H := hP
      have hD : va_D A [(mrf, .inl (y 0, 3, .inl frf)), (mo, .inr (11, [.ref to, .ref ke, .ref ik, .ref mrf, .long mab, .long mbl, .ref ha, .ref r0, .ref mbr, .ref mbp, .ref mby, .int (nI bl), .int (nI ta), .int (nI tl), .int (nI tk), .int vv, .ref an, .ref va])), (to, .inl (y 0, 228, .inl ft))] := hD
      refine lv_if_ne (tgt := 27) hx hb dX11_lasts_17 (by decide) (fun _ => ?_) (fun h9 => absurd h9 (by decide))
      refine lv_iconst (v := 0) hx hb dX11_lasts_27 (by decide) ?_
      refine lv_istore_n (lv' := [(3, .int 0), (0, .ref mo), (1, .int (nI j4)), (2, .int (nI j10))]) hx hb dX11_lasts_28 rfl hl (by decide) rfl (fun ls hl => ?_)
      refine lv_aload_n hx hb dX11_lasts_29 rfl (lv_at hl 1 rfl) ?_
      refine va_get (D := D) (ci := 11) (v := .ref to) (C := RX11) (T := TX11) (N := 18) hx hb hts iw11 hown hK hP 1 rfl rfl 0 (by decide) fw2 (fun _ h9 => h9) rfl dX11_lasts_30 ?_
      refine lv_bipush (v := 16) hx hb dX11_lasts_33 (by decide) ?_
      refine lv_iload_n hx hb dX11_lasts_35 rfl (lv_at hl 2 rfl) ?_
      refine lv_iadd hx hb dX11_lasts_36 ?_
      rw [show 16 + (nI j4) = nI (j4 + 16) from (nI_add 16 j4).trans (congrArg nI (by omega))]
      refine va_iald hx hb hK hP 2 0 rfl rfl (vp_in_nI (by omega) (by decide)) dX11_lasts_37 ?_
      rw [nI_clamp (n := (j4 + 16)) (by omega)]
      rcases kw_nn (ft (j4 + 16)) with h14 | ⟨NN, hNN, e15⟩
      · skip
        have h16 : (ft (j4 + 16)) < (nI j10) := kr_ltn h14 (by omega)
        refine lv_istore (lv' := [(4, .int (ft (j4 + 16))), (3, .int 0), (0, .ref mo), (1, .int (nI j4)), (2, .int (nI j10))]) hx hb dX11_lasts_38 hl (by decide) rfl (fun ls hl => ?_)
        refine lv_iload hx hb dX11_lasts_40 (lv_at hl 0 rfl) ?_
        refine lv_iload_n hx hb dX11_lasts_42 rfl (lv_at hl 4 rfl) ?_
        refine lv_icmp_lt (tgt := 59) hx hb dX11_lasts_43 (by decide) (fun h17 => ?_) (fun h18 => ?_)
        · skip
          refine lv_iload_n hx hb dX11_lasts_59 rfl (lv_at hl 1 rfl) ?_
          exact W.iret (v := 0) hx hb hr (fun tZ ht hW => ⟨⟨0, (frf), rfl, by first | omega | (dsimp only; omega), by rw [ht]; exact hP.sub [1, 0, 2] rfl, hD.sub [1, 0, 2] (by decide) rfl⟩, hS.F ht⟩) hS.2.2 dX11_lasts_60
        · skip
          exact absurd h16 h18
      · skip
        have hN9 : NN ≤ 999 := kr_nle' hNN (by rw [← e15]; exact ((hkt (j4 + 16) (by omega)).2 (by unfold kr_s; omega)))
        rw [e15]
        refine lv_istore (lv' := [(4, .int (nI NN)), (3, .int 0), (0, .ref mo), (1, .int (nI j4)), (2, .int (nI j10))]) hx hb dX11_lasts_38 hl (by decide) rfl (fun ls hl => ?_)
        have lp30 : ∀ (fuj91 j91 : Nat) (x24 : Int32) (H : Heap) (locs : List Loc) (ls : Array Slot), j91 ≤ NN → j91 < fuj91 → va_P D vwCl [(mrf, .inl (y 0, 3, .inl frf)), (mo, .inr (11, [.ref to, .ref ke, .ref ik, .ref mrf, .long mab, .long mbl, .ref ha, .ref r0, .ref mbr, .ref mbp, .ref mby, .int (nI bl), .int (nI ta), .int (nI tl), .int (nI tk), .int vv, .ref an, .ref va])), (to, .inl (y 0, 228, .inl ft))] H → va_D A [(mrf, .inl (y 0, 3, .inl frf)), (mo, .inr (11, [.ref to, .ref ke, .ref ik, .ref mrf, .long mab, .long mbl, .ref ha, .ref r0, .ref mbr, .ref mbp, .ref mby, .int (nI bl), .int (nI ta), .int (nI tl), .int (nI tk), .int vv, .ref an, .ref va])), (to, .inl (y 0, 228, .inl ft))] → va_S A s.heap H locs → lv_has ls 5 [(4, .int (nI j91)), (3, .int x24), (0, .ref mo), (1, .int (nI j4)), (2, .int (nI j10))] → W pZ l eZ ({ frames := 3, cells := 0, slots := 0, locals := 106 }) s mZ [.ref mo, .int (nI j4), .int (nI j10)].toArray beZ meZ cZ H locs 0 0 (MQ beZ (va_Qi (fun (r : Int32) (u : (Nat → Int32)) => (gl = 0 ∨ 0 < fi)) (kw_B D (fun u => [(mo, .inr (11, [.ref to, .ref ke, .ref ik, .ref mrf, .long mab, .long mbl, .ref ha, .ref r0, .ref mbr, .ref mbp, .ref mby, .int (nI bl), .int (nI ta), .int (nI tl), .int (nI tk), .int vv, .ref an, .ref va])), (mrf, .inl (y 0, 3, .inl u)), (to, .inl (y 0, 228, .inl ft))]) A) A) [.ref mo, .int (nI j4), .int (nI j10)].toArray s 0 0 A) (F0 mZ 40 ls []) := by
          intro fuj91
          induction fuj91 with
          | zero => intro j91 x24 H locs ls hj9 hf9; exact absurd hf9 (Nat.not_lt_zero _)
          | succ fuj91 ihj91 =>
            intro j91 x24 H locs ls hj91 hfj91  hP hD hS hl
            refine lv_iload hx hb dX11_lasts_40 (lv_at hl 0 rfl) ?_
            refine lv_iload_n hx hb dX11_lasts_42 rfl (lv_at hl 4 rfl) ?_
            refine lv_icmp_lt (tgt := 59) hx hb dX11_lasts_43 (by decide) (fun h31 => ?_) (fun h32 => ?_)
            · skip
              have h31 : j91 < j10 := (nI_ltI (a := j91) (b := j10) (by omega) (by omega)).mp h31
              refine lv_iload_n hx hb dX11_lasts_59 rfl (lv_at hl 1 rfl) ?_
              exact W.iret (v := x24) hx hb hr (fun tZ ht hW => ⟨⟨x24, (frf), rfl, by first | omega | (dsimp only; omega), by rw [ht]; exact hP.sub [1, 0, 2] rfl, hD.sub [1, 0, 2] (by decide) rfl⟩, hS.F ht⟩) hS.2.2 dX11_lasts_60
            · skip
              have h32 : ¬ j91 < j10 := fun q9 => h32 ((nI_ltI (a := j91) (b := j10) (by omega) (by omega)).mpr q9)
              refine lv_iinc (v := (x24 + 1)) (lv' := [(3, .int (x24 + 1)), (4, .int (nI j91)), (0, .ref mo), (1, .int (nI j4)), (2, .int (nI j10))]) hx hb dX11_lasts_46 hl (k := 1) rfl (rfl) (by decide) rfl (fun ls hl => ?_)
              refine lv_iload hx hb dX11_lasts_49 (lv_at hl 1 rfl) ?_
              have hs33 : kw_Split [(mrf, .inl (y 0, 3, .inl frf)), (mo, .inr (11, [.ref to, .ref ke, .ref ik, .ref mrf, .long mab, .long mbl, .ref ha, .ref r0, .ref mbr, .ref mbp, .ref mby, .int (nI bl), .int (nI ta), .int (nI tl), .int (nI tk), .int vv, .ref an, .ref va])), (to, .inl (y 0, 228, .inl ft))] [] [(mrf, .inl (y 0, 3, .inl frf)), (mo, .inr (11, [.ref to, .ref ke, .ref ik, .ref mrf, .long mab, .long mbl, .ref ha, .ref r0, .ref mbr, .ref mbp, .ref mby, .int (nI bl), .int (nI ta), .int (nI tl), .int (nI tk), .int vv, .ref an, .ref va])), (to, .inl (y 0, 228, .inl ft))] [] [0, 1, 2] := ⟨rfl, rfl, rfl, rfl, rfl, by decide⟩
              refine kw_go_i hs33 hP hD hS hA (va_runS (As := [.int (nI j91)]) (rest := []) ⟨hx, hb, hml, hown, hts⟩ (gr_fadedN l D y j91 (by omega) _) (va_cwS 1 hts gX11_lasts_X11_fadedBy rfl rfl rfl (by decide +kernel) ⟨Nat.le_of_ble_eq_true rfl, Nat.le_of_ble_eq_true rfl⟩) (kw_PreS hs33 hP hD hK hN) rfl rfl hl.1 rfl (lv_room (Nat.le_of_ble_eq_true rfl)) dX11_lasts_51 ⟨Nat.le_of_ble_eq_true rfl, Nat.le_of_ble_eq_true rfl⟩) (fun r34 u35 H locs hq hP hD hS => ?_)
              obtain rfl := hq
              have hP : va_P D vwCl [(mrf, .inl (y 0, 3, .inl frf)), (mo, .inr (11, [.ref to, .ref ke, .ref ik, .ref mrf, .long mab, .long mbl, .ref ha, .ref r0, .ref mbr, .ref mbp, .ref mby, .int (nI bl), .int (nI ta), .int (nI tl), .int (nI tk), .int vv, .ref an, .ref va])), (to, .inl (y 0, 228, .inl ft))] H := hP
              have hD : va_D A [(mrf, .inl (y 0, 3, .inl frf)), (mo, .inr (11, [.ref to, .ref ke, .ref ik, .ref mrf, .long mab, .long mbl, .ref ha, .ref r0, .ref mbr, .ref mbp, .ref mby, .int (nI bl), .int (nI ta), .int (nI tl), .int (nI tk), .int vv, .ref an, .ref va])), (to, .inl (y 0, 228, .inl ft))] := hD
              refine lv_istore (lv' := [(4, .int (nI (j91 - ((j91 + 3) / 4)))), (3, .int (x24 + 1)), (0, .ref mo), (1, .int (nI j4)), (2, .int (nI j10))]) hx hb dX11_lasts_54 hl (by decide) rfl (fun ls hl => ?_)
              refine lv_goto (tgt := 40) hx hb dX11_lasts_56 (by decide) ?_
              exact ihj91 (j91 - ((j91 + 3) / 4)) (x24 + 1) H locs ls (by omega) (by omega)  (hP.sub [0, 1, 2] rfl) (hD.sub [0, 1, 2] (by decide) rfl) hS (lv_sub hl [0, 1, 2, 3, 4] rfl)
        exact lp30 (NN + 1) NN 0 _ _ _ (by omega) (by omega)  hP hD hS (lv_sub hl [0, 1, 2, 3, 4] rfl)
    · skip
      have hP : va_P D vwCl [(mrf, .inl (y 0, 3, .inl frf)), (mo, .inr (11, [.ref to, .ref ke, .ref ik, .ref mrf, .long mab, .long mbl, .ref ha, .ref r0, .ref mbr, .ref mbp, .ref mby, .int (nI bl), .int (nI ta), .int (nI tl), .int (nI tk), .int vv, .ref an, .ref va])), (to, .inl (y 0, 228, .inl ft))] H := hP
      have hD : va_D A [(mrf, .inl (y 0, 3, .inl frf)), (mo, .inr (11, [.ref to, .ref ke, .ref ik, .ref mrf, .long mab, .long mbl, .ref ha, .ref r0, .ref mbr, .ref mbp, .ref mby, .int (nI bl), .int (nI ta), .int (nI tl), .int (nI tk), .int vv, .ref an, .ref va])), (to, .inl (y 0, 228, .inl ft))] := hD
      refine lv_if_ne (tgt := 27) hx hb dX11_lasts_17 (by decide) (fun h9 => absurd h9 (by decide)) (fun _ => ?_)
      refine lv_aload_n hx hb dX11_lasts_20 rfl (lv_at hl 0 rfl) ?_
      refine lv_bipush (v := (-2)) hx hb dX11_lasts_21 (by decide) ?_
      have hs36 : kw_Split [(mrf, .inl (y 0, 3, .inl frf)), (mo, .inr (11, [.ref to, .ref ke, .ref ik, .ref mrf, .long mab, .long mbl, .ref ha, .ref r0, .ref mbr, .ref mbp, .ref mby, .int (nI bl), .int (nI ta), .int (nI tl), .int (nI tk), .int vv, .ref an, .ref va])), (to, .inl (y 0, 228, .inl ft))] [(mo, .inr (11, [.ref to, .ref ke, .ref ik, .ref mrf, .long mab, .long mbl, .ref ha, .ref r0, .ref mbr, .ref mbp, .ref mby, .int (nI bl), .int (nI ta), .int (nI tl), .int (nI tk), .int vv, .ref an, .ref va])), (mrf, .inl (y 0, 3, .inl frf))] [(to, .inl (y 0, 228, .inl ft))] [1, 0] [2] := ⟨rfl, rfl, rfl, rfl, rfl, by decide⟩
      refine kw_go_i hs36 hP hD hS hA (va_runV (As := [.int (-2)]) (rest := []) ⟨hx, hb, hml, hown, hts⟩ (gr_bad l D y mo to ke ik mrf ha r0 mbr mbp mby an va mab mbl bl ta tl tk vv frf (-2)  _) (cwV 1 hts gX11_lasts_X11_bad rfl rfl rfl (by decide +kernel) ⟨Nat.le_of_ble_eq_true rfl, Nat.le_of_ble_eq_true rfl⟩) (kw_PreV (ci := 11) (q0 := 1) hs36 hP hD hK hN rfl rfl) rfl rfl hl.1 rfl (lv_room (Nat.le_of_ble_eq_true rfl)) dX11_lasts_23 ⟨Nat.le_of_ble_eq_true rfl, Nat.le_of_ble_eq_true rfl⟩) (fun r37 u38 H locs hq hP hD hS => ?_)
      obtain rfl := hq
      have hP : va_P D vwCl [(to, .inl (y 0, 228, .inl ft)), (mo, .inr (11, [.ref to, .ref ke, .ref ik, .ref mrf, .long mab, .long mbl, .ref ha, .ref r0, .ref mbr, .ref mbp, .ref mby, .int (nI bl), .int (nI ta), .int (nI tl), .int (nI tk), .int vv, .ref an, .ref va])), (mrf, .inl (y 0, 3, .inl (upd frf 0 ((frf 0) + 1))))] H := hP
      have hD : va_D A [(to, .inl (y 0, 228, .inl ft)), (mo, .inr (11, [.ref to, .ref ke, .ref ik, .ref mrf, .long mab, .long mbl, .ref ha, .ref r0, .ref mbr, .ref mbp, .ref mby, .int (nI bl), .int (nI ta), .int (nI tl), .int (nI tk), .int vv, .ref an, .ref va])), (mrf, .inl (y 0, 3, .inl (upd frf 0 ((frf 0) + 1))))] := hD
      exact W.iret (v := (-2)) hx hb hr (fun tZ ht hW => ⟨⟨(-2), ((upd frf 0 ((frf 0) + 1))), rfl, by first | omega | (dsimp only; omega), by rw [ht]; exact hP.sub [1, 2, 0] rfl, hD.sub [1, 2, 0] (by decide) rfl⟩, hS.F ht⟩) hS.2.2 dX11_lasts_26
  · skip
    have hP : va_P D vwCl [(mrf, .inl (y 0, 3, .inl frf)), (mo, .inr (11, [.ref to, .ref ke, .ref ik, .ref mrf, .long mab, .long mbl, .ref ha, .ref r0, .ref mbr, .ref mbp, .ref mby, .int (nI bl), .int (nI ta), .int (nI tl), .int (nI tk), .int vv, .ref an, .ref va])), (to, .inl (y 0, 228, .inl ft))] H := hP
    have hD : va_D A [(mrf, .inl (y 0, 3, .inl frf)), (mo, .inr (11, [.ref to, .ref ke, .ref ik, .ref mrf, .long mab, .long mbl, .ref ha, .ref r0, .ref mbr, .ref mbp, .ref mby, .int (nI bl), .int (nI ta), .int (nI tl), .int (nI tk), .int vv, .ref an, .ref va])), (to, .inl (y 0, 228, .inl ft))] := hD
    refine lv_if_eq (tgt := 20) hx hb dX11_lasts_5 (by decide) (fun _ => ?_) (fun h9 => absurd h9 (by decide))
    refine lv_aload_n hx hb dX11_lasts_20 rfl (lv_at hl 0 rfl) ?_
    refine lv_bipush (v := (-2)) hx hb dX11_lasts_21 (by decide) ?_
    have hs39 : kw_Split [(mrf, .inl (y 0, 3, .inl frf)), (mo, .inr (11, [.ref to, .ref ke, .ref ik, .ref mrf, .long mab, .long mbl, .ref ha, .ref r0, .ref mbr, .ref mbp, .ref mby, .int (nI bl), .int (nI ta), .int (nI tl), .int (nI tk), .int vv, .ref an, .ref va])), (to, .inl (y 0, 228, .inl ft))] [(mo, .inr (11, [.ref to, .ref ke, .ref ik, .ref mrf, .long mab, .long mbl, .ref ha, .ref r0, .ref mbr, .ref mbp, .ref mby, .int (nI bl), .int (nI ta), .int (nI tl), .int (nI tk), .int vv, .ref an, .ref va])), (mrf, .inl (y 0, 3, .inl frf))] [(to, .inl (y 0, 228, .inl ft))] [1, 0] [2] := ⟨rfl, rfl, rfl, rfl, rfl, by decide⟩
    refine kw_go_i hs39 hP hD hS hA (va_runV (As := [.int (-2)]) (rest := []) ⟨hx, hb, hml, hown, hts⟩ (gr_bad l D y mo to ke ik mrf ha r0 mbr mbp mby an va mab mbl bl ta tl tk vv frf (-2)  _) (cwV 1 hts gX11_lasts_X11_bad rfl rfl rfl (by decide +kernel) ⟨Nat.le_of_ble_eq_true rfl, Nat.le_of_ble_eq_true rfl⟩) (kw_PreV (ci := 11) (q0 := 1) hs39 hP hD hK hN rfl rfl) rfl rfl hl.1 rfl (lv_room (Nat.le_of_ble_eq_true rfl)) dX11_lasts_23 ⟨Nat.le_of_ble_eq_true rfl, Nat.le_of_ble_eq_true rfl⟩) (fun r40 u41 H locs hq hP hD hS => ?_)
    obtain rfl := hq
    have hP : va_P D vwCl [(to, .inl (y 0, 228, .inl ft)), (mo, .inr (11, [.ref to, .ref ke, .ref ik, .ref mrf, .long mab, .long mbl, .ref ha, .ref r0, .ref mbr, .ref mbp, .ref mby, .int (nI bl), .int (nI ta), .int (nI tl), .int (nI tk), .int vv, .ref an, .ref va])), (mrf, .inl (y 0, 3, .inl (upd frf 0 ((frf 0) + 1))))] H := hP
    have hD : va_D A [(to, .inl (y 0, 228, .inl ft)), (mo, .inr (11, [.ref to, .ref ke, .ref ik, .ref mrf, .long mab, .long mbl, .ref ha, .ref r0, .ref mbr, .ref mbp, .ref mby, .int (nI bl), .int (nI ta), .int (nI tl), .int (nI tk), .int vv, .ref an, .ref va])), (mrf, .inl (y 0, 3, .inl (upd frf 0 ((frf 0) + 1))))] := hD
    exact W.iret (v := (-2)) hx hb hr (fun tZ ht hW => ⟨⟨(-2), ((upd frf 0 ((frf 0) + 1))), rfl, by first | omega | (dsimp only; omega), by rw [ht]; exact hP.sub [1, 2, 0] rfl, hD.sub [1, 2, 0] (by decide) rfl⟩, hS.F ht⟩) hS.2.2 dX11_lasts_26

set_option maxHeartbeats 4000000 in
set_option maxRecDepth 100000 in
theorem gr_bits (l : Launch) (D : va_G) (y : Nat → ClassId) (x : Int32)  : kw_Mi l yX11_bits wsX11_bits ({ frames := 1, cells := 0, slots := 0, locals := 60 }) D y [.int x] [] (fun (r : Int32) (u : Unit) => True) (fun _ => []) 0 0 := by
  refine kw_Mi.of (cc := cX11_bits) (maxL := 3) (ret := (some .int)) (by decide) rfl ?_
  intro pZ eZ s mZ beZ meZ cZ A hE
  obtain ⟨hx, hb, hr, hml, hts, hown, hlocks, hin, hA, hP, hD, hK, hN⟩ := hE
  have hS : va_S A s.heap s.heap [] := va_S.rf
  have hl := lv_entry ([.int x]) (n := 3) (Nat.le_of_ble_eq_true rfl)
  rw [lg_entry_eq]
  generalize (lg_sl ([.int x]) ++ List.replicate (3 - (lg_sl ([.int x])).length) Slot.unset).toArray = ls at hl ⊢
  have hl : lv_has ls 3 [(0, .int x)] := hl
  rcases kw_nn x with h1 | ⟨NN, hNN, rfl⟩
  · skip
    have h2 : x ≤ 0 := Int32.le_of_lt h1
    refine lv_iconst (v := 0) hx hb dX11_bits_0 (by decide) ?_
    refine lv_istore_n (lv' := [(1, .int 0), (0, .int x)]) hx hb dX11_bits_1 rfl hl (by decide) rfl (fun ls hl => ?_)
    refine lv_iload_n hx hb dX11_bits_2 rfl (lv_at hl 1 rfl) ?_
    refine lv_istore_n (lv' := [(2, .int x), (1, .int 0), (0, .int x)]) hx hb dX11_bits_3 rfl hl (by decide) rfl (fun ls hl => ?_)
    refine lv_iload_n hx hb dX11_bits_4 rfl (lv_at hl 0 rfl) ?_
    refine lv_if_le (tgt := 21) hx hb dX11_bits_5 (by decide) (fun h3 => ?_) (fun h4 => ?_)
    · skip
      refine lv_iload_n hx hb dX11_bits_21 rfl (lv_at hl 1 rfl) ?_
      exact W.iret (v := 0) hx hb hr (fun tZ ht hW => ⟨⟨0, (), rfl, trivial, by rw [ht]; exact hP.sub [] rfl, hD.sub [] (by decide) rfl⟩, hS.F ht⟩) hS.2.2 dX11_bits_22
    · skip
      exact absurd h2 h4
  · skip
    refine lv_iconst (v := 0) hx hb dX11_bits_0 (by decide) ?_
    refine lv_istore_n (lv' := [(1, .int 0), (0, .int (nI NN))]) hx hb dX11_bits_1 rfl hl (by decide) rfl (fun ls hl => ?_)
    refine lv_iload_n hx hb dX11_bits_2 rfl (lv_at hl 1 rfl) ?_
    refine lv_istore_n (lv' := [(2, .int (nI NN)), (1, .int 0), (0, .int (nI NN))]) hx hb dX11_bits_3 rfl hl (by decide) rfl (fun ls hl => ?_)
    have lp10 : ∀ (fuj91 j91 : Nat) (x7 : Int32) (H : Heap) (locs : List Loc) (ls : Array Slot), j91 ≤ NN → j91 < fuj91 → va_P D vwCl [] H → va_D A [] → va_S A s.heap H locs → lv_has ls 3 [(2, .int (nI j91)), (1, .int x7), (0, .int (nI NN))] → W pZ l eZ ({ frames := 1, cells := 0, slots := 0, locals := 60 }) s mZ [.int (nI NN)].toArray beZ meZ cZ H locs 0 0 (MQ beZ (va_Qi (fun (r : Int32) (u : Unit) => True) (kw_B D (fun _ => []) A) A) [.int (nI NN)].toArray s 0 0 A) (F0 mZ 4 ls []) := by
      intro fuj91
      induction fuj91 with
      | zero => intro j91 x7 H locs ls hj9 hf9; exact absurd hf9 (Nat.not_lt_zero _)
      | succ fuj91 ihj91 =>
        intro j91 x7 H locs ls hj91 hfj91  hP hD hS hl
        refine lv_iload_n hx hb dX11_bits_4 rfl (lv_at hl 0 rfl) ?_
        refine lv_if_le (tgt := 21) hx hb dX11_bits_5 (by decide) (fun h11 => ?_) (fun h12 => ?_)
        · skip
          have h11 : j91 ≤ 0 := (nI_leI (a := j91) (b := 0) (by omega) (by omega)).mp h11
          refine lv_iload_n hx hb dX11_bits_21 rfl (lv_at hl 1 rfl) ?_
          exact W.iret (v := x7) hx hb hr (fun tZ ht hW => ⟨⟨x7, (), rfl, trivial, by rw [ht]; exact hP.sub [] rfl, hD.sub [] (by decide) rfl⟩, hS.F ht⟩) hS.2.2 dX11_bits_22
        · skip
          have h12 : ¬ j91 ≤ 0 := fun q9 => h12 ((nI_leI (a := j91) (b := 0) (by omega) (by omega)).mpr q9)
          refine lv_iload_n hx hb dX11_bits_8 rfl (lv_at hl 1 rfl) ?_
          refine lv_iload_n hx hb dX11_bits_9 rfl (lv_at hl 0 rfl) ?_
          refine lv_iconst (v := 1) hx hb dX11_bits_10 (by decide) ?_
          refine lv_iand hx hb dX11_bits_11 ?_
          refine lv_iadd hx hb dX11_bits_12 ?_
          refine lv_istore_n (lv' := [(1, .int (x7 + ((nI j91) &&& 1))), (2, .int (nI j91)), (0, .int (nI NN))]) hx hb dX11_bits_13 rfl hl (by decide) rfl (fun ls hl => ?_)
          refine lv_iload_n hx hb dX11_bits_14 rfl (lv_at hl 1 rfl) ?_
          refine lv_iconst (v := 1) hx hb dX11_bits_15 (by decide) ?_
          refine lv_ishr hx hb dX11_bits_16 ?_
          rw [show (nI j91) >>> ((1 : Int32) &&& 31) = nI (j91 / 2) from pk_shrN (by omega) _ 1 (by decide)]
          refine lv_istore_n (lv' := [(2, .int (nI (j91 / 2))), (1, .int (x7 + ((nI j91) &&& 1))), (0, .int (nI NN))]) hx hb dX11_bits_17 rfl hl (by decide) rfl (fun ls hl => ?_)
          refine lv_goto (tgt := 4) hx hb dX11_bits_18 (by decide) ?_
          exact ihj91 (j91 / 2) (x7 + ((nI j91) &&& 1)) H locs ls (by omega) (by omega)  (hP.sub [] rfl) (hD.sub [] (by decide) rfl) hS (lv_sub hl [0, 1, 2] rfl)
    exact lp10 (NN + 1) NN 0 _ _ _ (by omega) (by omega)  hP hD hS (lv_sub hl [0, 1, 2] rfl)

set_option maxHeartbeats 4000000 in
set_option maxRecDepth 100000 in
theorem gq_enough (l : Launch) (D : va_G) (y : Nat → ClassId) (mo : Nat) (to : Nat) (ke : Nat) (ik : Nat) (mrf : Nat) (ha : Nat) (r0 : Nat) (mbr : Nat) (mbp : Nat) (mby : Nat) (an : Nat) (va : Nat) (mab : Int64) (mbl : Int64) (bl : Nat) (ta : Nat) (tl : Nat) (tk : Nat) (vv : Int32) (frf : Nat → Int32) (ft : Nat → Int32) (fi : Nat) (gl : Nat) (mi : Nat) (no : Nat) (un : Nat) (x : Int32) (hk0_ : ft 0 = (nI fi)) (hk1_ : ft 1 = (nI gl)) (hk2_ : ft 2 = (nI mi)) (hk3_ : ft 3 = (nI no)) (hk4_ : ft 4 = (nI un)) (hkt : kr_t 228 ft) (hfi : fi ≤ 6) (hgl : gl ≤ 5) (hmi : mi ≤ 4) (hno : no ≤ 6) (hun : un ≤ 8) (hgf : (gl = 0 ∨ 0 < fi)) : kw_Mi l yX11_enough wsX11_enough ({ frames := 2, cells := 0, slots := 0, locals := 85 }) D y [.ref mo, .int x] [(mo, .inr (11, [.ref to, .ref ke, .ref ik, .ref mrf, .long mab, .long mbl, .ref ha, .ref r0, .ref mbr, .ref mbp, .ref mby, .int (nI bl), .int (nI ta), .int (nI tl), .int (nI tk), .int vv, .ref an, .ref va])), (mrf, .inl (y 0, 3, .inl frf)), (to, .inl (y 0, 228, .inl ft))] (fun (r : Int32) (u : (Nat → Int32)) => (gl = 0 ∨ 0 < fi)) (fun u => [(mo, .inr (11, [.ref to, .ref ke, .ref ik, .ref mrf, .long mab, .long mbl, .ref ha, .ref r0, .ref mbr, .ref mbp, .ref mby, .int (nI bl), .int (nI ta), .int (nI tl), .int (nI tk), .int vv, .ref an, .ref va])), (mrf, .inl (y 0, 3, .inl u)), (to, .inl (y 0, 228, .inl ft))]) 0 0 := by
  refine kw_Mi.of (cc := cX11_enough) (maxL := 6) (ret := (some .int)) (by decide) rfl ?_
  intro pZ eZ s mZ beZ meZ cZ A hE
  obtain ⟨hx, hb, hr, hml, hts, hown, hlocks, hin, hA, hP, hD, hK, hN⟩ := hE
  have hS : va_S A s.heap s.heap [] := va_S.rf
  have hl := lv_entry ([.ref mo, .int x]) (n := 6) (Nat.le_of_ble_eq_true rfl)
  rw [lg_entry_eq]
  generalize (lg_sl ([.ref mo, .int x]) ++ List.replicate (6 - (lg_sl ([.ref mo, .int x])).length) Slot.unset).toArray = ls at hl ⊢
  have hl : lv_has ls 6 [(0, .ref mo), (1, .int x)] := hl
  have fw1 := hts (.constantLong RX11 165 (999)) (List.mem_of_getElem? (i := 1) rfl)
  have fw2 := hts (.fieldLink RX11 7 "GleanDuskModel" "told" "[I") (List.mem_of_getElem? (i := 2) rfl)
  have iw11 : ∀ w ∈ wsX110, w ∈ wsX11_enough := fun _ h => List.mem_cons_of_mem _ (List.mem_append_right _ h)
  refine lv_iload_n hx hb dX11_enough_0 rfl (lv_at hl 1 rfl) ?_
  refine lv_i2l (v := x.toInt64) hx hb dX11_enough_1 (rfl) ?_
  refine lv_lconst (v := 0) hx hb dX11_enough_2 (by decide) ?_
  refine lv_ldc2 (v := 999) hx hb hown fw1 dX11_enough_3 ?_
  have hs1 : kw_Split [(mo, .inr (11, [.ref to, .ref ke, .ref ik, .ref mrf, .long mab, .long mbl, .ref ha, .ref r0, .ref mbr, .ref mbp, .ref mby, .int (nI bl), .int (nI ta), .int (nI tl), .int (nI tk), .int vv, .ref an, .ref va])), (mrf, .inl (y 0, 3, .inl frf)), (to, .inl (y 0, 228, .inl ft))] [] [(mo, .inr (11, [.ref to, .ref ke, .ref ik, .ref mrf, .long mab, .long mbl, .ref ha, .ref r0, .ref mbr, .ref mbp, .ref mby, .int (nI bl), .int (nI ta), .int (nI tl), .int (nI tk), .int vv, .ref an, .ref va])), (mrf, .inl (y 0, 3, .inl frf)), (to, .inl (y 0, 228, .inl ft))] [] [0, 1, 2] := ⟨rfl, rfl, rfl, rfl, rfl, by decide⟩
  refine kw_go_i hs1 hP hD hS hA (va_runS (As := [.long x.toInt64, .long 0, .long 999]) (rest := []) ⟨hx, hb, hml, hown, hts⟩ (gr_in l D y x 0 999 (by omega) (by omega) _) (va_cwS 3 hts gX11_enough_X11_in rfl rfl rfl (by decide +kernel) ⟨Nat.le_of_ble_eq_true rfl, Nat.le_of_ble_eq_true rfl⟩) (kw_PreS hs1 hP hD hK hN) rfl rfl hl.1 rfl (lv_room (Nat.le_of_ble_eq_true rfl)) dX11_enough_6 ⟨Nat.le_of_ble_eq_true rfl, Nat.le_of_ble_eq_true rfl⟩) (fun r2 u3 H locs hq hP hD hS => ?_)
  rcases hq with ⟨j4, h5, h6, rfl, rfl⟩ | ⟨h7, rfl⟩
  · skip
    have hP : va_P D vwCl [(mo, .inr (11, [.ref to, .ref ke, .ref ik, .ref mrf, .long mab, .long mbl, .ref ha, .ref r0, .ref mbr, .ref mbp, .ref mby, .int (nI bl), .int (nI ta), .int (nI tl), .int (nI tk), .int vv, .ref an, .ref va])), (mrf, .inl (y 0, 3, .inl frf)), (to, .inl (y 0, 228, .inl ft))] H := hP
    have hD : va_D A [(mo, .inr (11, [.ref to, .ref ke, .ref ik, .ref mrf, .long mab, .long mbl, .ref ha, .ref r0, .ref mbr, .ref mbp, .ref mby, .int (nI bl), .int (nI ta), .int (nI tl), .int (nI tk), .int vv, .ref an, .ref va])), (mrf, .inl (y 0, 3, .inl frf)), (to, .inl (y 0, 228, .inl ft))] := hD
    refine lv_if_ne (tgt := 19) hx hb dX11_enough_9 (by decide) (fun _ => ?_) (fun h9 => absurd h9 (by decide))
    refine lv_iconst (v := (-1)) hx hb dX11_enough_19 (by decide) ?_
    refine lv_istore_n (lv' := [(2, .int (-1)), (0, .ref mo), (1, .int (nI j4))]) hx hb dX11_enough_20 rfl hl (by decide) rfl (fun ls hl => ?_)
    rcases (show gl = 0 ∨ gl = 1 ∨ gl = 2 ∨ gl = 3 ∨ gl = 4 ∨ gl = 5 by omega) with rfl | rfl | rfl | rfl | rfl | rfl
    · skip
      refine lv_iconst (v := 0) hx hb dX11_enough_21 (by decide) ?_
      refine lv_istore_n (lv' := [(3, .int 0), (2, .int (-1)), (0, .ref mo), (1, .int (nI j4))]) hx hb dX11_enough_22 rfl hl (by decide) rfl (fun ls hl => ?_)
      have lp71 : ∀ (fuj91 j91 : Nat) (x29 : Int32) (H : Heap) (locs : List Loc) (ls : Array Slot), j91 ≤ 1 → 1 - j91 < fuj91 → va_P D vwCl [(mo, .inr (11, [.ref to, .ref ke, .ref ik, .ref mrf, .long mab, .long mbl, .ref ha, .ref r0, .ref mbr, .ref mbp, .ref mby, .int (nI bl), .int (nI ta), .int (nI tl), .int (nI tk), .int vv, .ref an, .ref va])), (mrf, .inl (y 0, 3, .inl frf)), (to, .inl (y 0, 228, .inl ft))] H → va_D A [(mo, .inr (11, [.ref to, .ref ke, .ref ik, .ref mrf, .long mab, .long mbl, .ref ha, .ref r0, .ref mbr, .ref mbp, .ref mby, .int (nI bl), .int (nI ta), .int (nI tl), .int (nI tk), .int vv, .ref an, .ref va])), (mrf, .inl (y 0, 3, .inl frf)), (to, .inl (y 0, 228, .inl ft))] → va_S A s.heap H locs → lv_has ls 6 [(3, .int (nI j91)), (2, .int x29), (0, .ref mo), (1, .int (nI j4))] → W pZ l eZ ({ frames := 2, cells := 0, slots := 0, locals := 85 }) s mZ [.ref mo, .int (nI j4)].toArray beZ meZ cZ H locs 0 0 (MQ beZ (va_Qi (fun (r : Int32) (u : (Nat → Int32)) => (0 = 0 ∨ 0 < fi)) (kw_B D (fun u => [(mo, .inr (11, [.ref to, .ref ke, .ref ik, .ref mrf, .long mab, .long mbl, .ref ha, .ref r0, .ref mbr, .ref mbp, .ref mby, .int (nI bl), .int (nI ta), .int (nI tl), .int (nI tk), .int vv, .ref an, .ref va])), (mrf, .inl (y 0, 3, .inl u)), (to, .inl (y 0, 228, .inl ft))]) A) A) [.ref mo, .int (nI j4)].toArray s 0 0 A) (F0 mZ 23 ls []) := by
        intro fuj91
        induction fuj91 with
        | zero => intro j91 x29 H locs ls hj9 hf9; exact absurd hf9 (Nat.not_lt_zero _)
        | succ fuj91 ihj91 =>
          intro j91 x29 H locs ls hj91 hfj91  hP hD hS hl
          refine lv_iload_n hx hb dX11_enough_23 rfl (lv_at hl 0 rfl) ?_
          refine lv_iconst (v := 1) hx hb dX11_enough_24 (by decide) ?_
          refine lv_aload_n hx hb dX11_enough_25 rfl (lv_at hl 2 rfl) ?_
          have hs72 : kw_Split [(mo, .inr (11, [.ref to, .ref ke, .ref ik, .ref mrf, .long mab, .long mbl, .ref ha, .ref r0, .ref mbr, .ref mbp, .ref mby, .int (nI bl), .int (nI ta), .int (nI tl), .int (nI tk), .int vv, .ref an, .ref va])), (mrf, .inl (y 0, 3, .inl frf)), (to, .inl (y 0, 228, .inl ft))] [(mo, .inr (11, [.ref to, .ref ke, .ref ik, .ref mrf, .long mab, .long mbl, .ref ha, .ref r0, .ref mbr, .ref mbp, .ref mby, .int (nI bl), .int (nI ta), .int (nI tl), .int (nI tk), .int vv, .ref an, .ref va])), (to, .inl (y 0, 228, .inl ft))] [(mrf, .inl (y 0, 3, .inl frf))] [0, 2] [1] := ⟨rfl, rfl, rfl, rfl, rfl, by decide⟩
          refine kw_go_i hs72 hP hD hS hA (va_runV (As := []) (rest := [.int 1, .int (nI j91)]) ⟨hx, hb, hml, hown, hts⟩ (gr_manyGleaners l D y mo to ke ik mrf ha r0 mbr mbp mby an va mab mbl bl ta tl tk vv ft fi 0 mi no un hk0_ hk1_ hk2_ hk3_ hk4_ hkt hfi hgl hmi hno hun _) (cwV 0 hts gX11_enough_X11_manyGleaners rfl rfl rfl (by decide +kernel) ⟨Nat.le_of_ble_eq_true rfl, Nat.le_of_ble_eq_true rfl⟩) (kw_PreV (ci := 11) (q0 := 0) hs72 hP hD hK hN rfl rfl) rfl rfl hl.1 rfl (lv_room (Nat.le_of_ble_eq_true rfl)) dX11_enough_26 ⟨Nat.le_of_ble_eq_true rfl, Nat.le_of_ble_eq_true rfl⟩) (fun r73 u74 H locs hq hP hD hS => ?_)
          obtain rfl := hq
          have hP : va_P D vwCl [(mrf, .inl (y 0, 3, .inl frf)), (mo, .inr (11, [.ref to, .ref ke, .ref ik, .ref mrf, .long mab, .long mbl, .ref ha, .ref r0, .ref mbr, .ref mbp, .ref mby, .int (nI bl), .int (nI ta), .int (nI tl), .int (nI tk), .int vv, .ref an, .ref va])), (to, .inl (y 0, 228, .inl ft))] H := hP
          have hD : va_D A [(mrf, .inl (y 0, 3, .inl frf)), (mo, .inr (11, [.ref to, .ref ke, .ref ik, .ref mrf, .long mab, .long mbl, .ref ha, .ref r0, .ref mbr, .ref mbp, .ref mby, .int (nI bl), .int (nI ta), .int (nI tl), .int (nI tk), .int vv, .ref an, .ref va])), (to, .inl (y 0, 228, .inl ft))] := hD
          refine lv_ishl hx hb dX11_enough_29 ?_
          refine lv_topi (fun z75 hz75 => ?_)
          obtain rfl : z75 = 1 := hz75.trans (by decide)
          refine lv_icmp_ge (tgt := 116) hx hb dX11_enough_30 (by decide) (fun h76 => ?_) (fun h77 => ?_)
          · skip
            have h76 : 1 ≤ j91 := (nI_leI (a := 1) (b := j91) (by omega) (by omega)).mp h76
            refine lv_iload_n hx hb dX11_enough_116 rfl (lv_at hl 1 rfl) ?_
            exact W.iret (v := x29) hx hb hr (fun tZ ht hW => ⟨⟨x29, (frf), rfl, by first | omega | (dsimp only; omega), by rw [ht]; exact hP.sub [1, 0, 2] rfl, hD.sub [1, 0, 2] (by decide) rfl⟩, hS.F ht⟩) hS.2.2 dX11_enough_117
          · skip
            have h77 : ¬ 1 ≤ j91 := fun q9 => h77 ((nI_leI (a := 1) (b := j91) (by omega) (by omega)).mpr q9)
            refine lv_iconst (v := 0) hx hb dX11_enough_33 (by decide) ?_
            refine lv_istore (lv' := [(4, .int 0), (3, .int (nI j91)), (2, .int x29), (0, .ref mo), (1, .int (nI j4))]) hx hb dX11_enough_34 hl (by decide) rfl (fun ls hl => ?_)
            refine lv_iconst (v := 0) hx hb dX11_enough_36 (by decide) ?_
            refine lv_istore (lv' := [(5, .int 0), (4, .int 0), (3, .int (nI j91)), (2, .int x29), (0, .ref mo), (1, .int (nI j4))]) hx hb dX11_enough_37 hl (by decide) rfl (fun ls hl => ?_)
            have lp95 : ∀ (fuj92 j92 : Nat)  (H : Heap) (locs : List Loc) (ls : Array Slot), j92 ≤ 0 → 0 - j92 < fuj92 → va_P D vwCl [(mrf, .inl (y 0, 3, .inl frf)), (mo, .inr (11, [.ref to, .ref ke, .ref ik, .ref mrf, .long mab, .long mbl, .ref ha, .ref r0, .ref mbr, .ref mbp, .ref mby, .int (nI bl), .int (nI ta), .int (nI tl), .int (nI tk), .int vv, .ref an, .ref va])), (to, .inl (y 0, 228, .inl ft))] H → va_D A [(mrf, .inl (y 0, 3, .inl frf)), (mo, .inr (11, [.ref to, .ref ke, .ref ik, .ref mrf, .long mab, .long mbl, .ref ha, .ref r0, .ref mbr, .ref mbp, .ref mby, .int (nI bl), .int (nI ta), .int (nI tl), .int (nI tk), .int vv, .ref an, .ref va])), (to, .inl (y 0, 228, .inl ft))] → va_S A s.heap H locs → lv_has ls 6 [(5, .int (nI j92)), (4, .int 0), (3, .int (nI j91)), (2, .int x29), (0, .ref mo), (1, .int (nI j4))] → W pZ l eZ ({ frames := 2, cells := 0, slots := 0, locals := 85 }) s mZ [.ref mo, .int (nI j4)].toArray beZ meZ cZ H locs 0 0 (MQ beZ (va_Qi (fun (r : Int32) (u : (Nat → Int32)) => (0 = 0 ∨ 0 < fi)) (kw_B D (fun u => [(mo, .inr (11, [.ref to, .ref ke, .ref ik, .ref mrf, .long mab, .long mbl, .ref ha, .ref r0, .ref mbr, .ref mbp, .ref mby, .int (nI bl), .int (nI ta), .int (nI tl), .int (nI tk), .int vv, .ref an, .ref va])), (mrf, .inl (y 0, 3, .inl u)), (to, .inl (y 0, 228, .inl ft))]) A) A) [.ref mo, .int (nI j4)].toArray s 0 0 A) (F0 mZ 39 ls []) := by
              intro fuj92
              induction fuj92 with
              | zero => intro j92  H locs ls hj9 hf9; exact absurd hf9 (Nat.not_lt_zero _)
              | succ fuj92 ihj92 =>
                intro j92  H locs ls hj92 hfj92  hP hD hS hl
                refine lv_iload hx hb dX11_enough_39 (lv_at hl 0 rfl) ?_
                refine lv_aload_n hx hb dX11_enough_41 rfl (lv_at hl 4 rfl) ?_
                have hs96 : kw_Split [(mrf, .inl (y 0, 3, .inl frf)), (mo, .inr (11, [.ref to, .ref ke, .ref ik, .ref mrf, .long mab, .long mbl, .ref ha, .ref r0, .ref mbr, .ref mbp, .ref mby, .int (nI bl), .int (nI ta), .int (nI tl), .int (nI tk), .int vv, .ref an, .ref va])), (to, .inl (y 0, 228, .inl ft))] [(mo, .inr (11, [.ref to, .ref ke, .ref ik, .ref mrf, .long mab, .long mbl, .ref ha, .ref r0, .ref mbr, .ref mbp, .ref mby, .int (nI bl), .int (nI ta), .int (nI tl), .int (nI tk), .int vv, .ref an, .ref va])), (to, .inl (y 0, 228, .inl ft))] [(mrf, .inl (y 0, 3, .inl frf))] [1, 2] [0] := ⟨rfl, rfl, rfl, rfl, rfl, by decide⟩
                refine kw_go_i hs96 hP hD hS hA (va_runV (As := []) (rest := [.int (nI j92)]) ⟨hx, hb, hml, hown, hts⟩ (gr_manyGleaners l D y mo to ke ik mrf ha r0 mbr mbp mby an va mab mbl bl ta tl tk vv ft fi 0 mi no un hk0_ hk1_ hk2_ hk3_ hk4_ hkt hfi hgl hmi hno hun _) (cwV 0 hts gX11_enough_X11_manyGleaners rfl rfl rfl (by decide +kernel) ⟨Nat.le_of_ble_eq_true rfl, Nat.le_of_ble_eq_true rfl⟩) (kw_PreV (ci := 11) (q0 := 1) hs96 hP hD hK hN rfl rfl) rfl rfl hl.1 rfl (lv_room (Nat.le_of_ble_eq_true rfl)) dX11_enough_42 ⟨Nat.le_of_ble_eq_true rfl, Nat.le_of_ble_eq_true rfl⟩) (fun r97 u98 H locs hq hP hD hS => ?_)
                obtain rfl := hq
                have hP : va_P D vwCl [(mrf, .inl (y 0, 3, .inl frf)), (mo, .inr (11, [.ref to, .ref ke, .ref ik, .ref mrf, .long mab, .long mbl, .ref ha, .ref r0, .ref mbr, .ref mbp, .ref mby, .int (nI bl), .int (nI ta), .int (nI tl), .int (nI tk), .int vv, .ref an, .ref va])), (to, .inl (y 0, 228, .inl ft))] H := hP
                have hD : va_D A [(mrf, .inl (y 0, 3, .inl frf)), (mo, .inr (11, [.ref to, .ref ke, .ref ik, .ref mrf, .long mab, .long mbl, .ref ha, .ref r0, .ref mbr, .ref mbp, .ref mby, .int (nI bl), .int (nI ta), .int (nI tl), .int (nI tk), .int vv, .ref an, .ref va])), (to, .inl (y 0, 228, .inl ft))] := hD
                refine lv_icmp_ge (tgt := 82) hx hb dX11_enough_45 (by decide) (fun h99 => ?_) (fun h100 => ?_)
                · skip
                  have h99 : 0 ≤ j92 := (nI_leI (a := 0) (b := j92) (by omega) (by omega)).mp h99
                  refine lv_iload hx hb dX11_enough_82 (lv_at hl 1 rfl) ?_
                  refine lv_iload_n hx hb dX11_enough_84 rfl (lv_at hl 5 rfl) ?_
                  refine lv_icmp_lt (tgt := 108) hx hb dX11_enough_85 (by decide) (fun h101 => ?_) (fun h102 => ?_)
                  · skip
                    have h101 : 0 < j4 := (nI_ltI (a := 0) (b := j4) (by omega) (by omega)).mp h101
                    refine lv_iload_n hx hb dX11_enough_108 rfl (lv_at hl 3 rfl) ?_
                    refine lv_istore_n (lv' := [(2, .int x29), (5, .int (nI j92)), (4, .int 0), (3, .int (nI j91)), (0, .ref mo), (1, .int (nI j4))]) hx hb dX11_enough_109 rfl hl (by decide) rfl (fun ls hl => ?_)
                    refine lv_iinc (v := (nI (j91 + 1))) (lv' := [(3, .int (nI (j91 + 1))), (2, .int x29), (5, .int (nI j92)), (4, .int 0), (0, .ref mo), (1, .int (nI j4))]) hx hb dX11_enough_110 hl (k := 3) rfl (nI_1 j91) (by decide) rfl (fun ls hl => ?_)
                    refine lv_goto (tgt := 23) hx hb dX11_enough_113 (by decide) ?_
                    exact ihj91 (j91 + 1) x29 H locs ls (by omega) (by omega)  (hP.sub [1, 0, 2] rfl) (hD.sub [1, 0, 2] (by decide) rfl) hS (lv_sub hl [0, 1, 4, 5] rfl)
                  · skip
                    have h102 : ¬ 0 < j4 := fun q9 => h102 ((nI_ltI (a := 0) (b := j4) (by omega) (by omega)).mpr q9)
                    refine lv_iload_n hx hb dX11_enough_88 rfl (lv_at hl 3 rfl) ?_
                    refine lv_iconst (v := (-1)) hx hb dX11_enough_89 (by decide) ?_
                    refine lv_icmp_eq (tgt := 104) hx hb dX11_enough_90 (by decide) (fun h103 => ?_) (fun h104 => ?_)
                    · skip
                      refine lv_iload_n hx hb dX11_enough_104 rfl (lv_at hl 2 rfl) ?_
                      refine lv_goto (tgt := 109) hx hb dX11_enough_105 (by decide) ?_
                      refine lv_istore_n (lv' := [(2, .int (nI j91)), (5, .int (nI j92)), (4, .int 0), (3, .int (nI j91)), (0, .ref mo), (1, .int (nI j4))]) hx hb dX11_enough_109 rfl hl (by decide) rfl (fun ls hl => ?_)
                      refine lv_iinc (v := (nI (j91 + 1))) (lv' := [(3, .int (nI (j91 + 1))), (2, .int (nI j91)), (5, .int (nI j92)), (4, .int 0), (0, .ref mo), (1, .int (nI j4))]) hx hb dX11_enough_110 hl (k := 3) rfl (nI_1 j91) (by decide) rfl (fun ls hl => ?_)
                      refine lv_goto (tgt := 23) hx hb dX11_enough_113 (by decide) ?_
                      exact ihj91 (j91 + 1) (nI j91) H locs ls (by omega) (by omega)  (hP.sub [1, 0, 2] rfl) (hD.sub [1, 0, 2] (by decide) rfl) hS (lv_sub hl [0, 1, 4, 5] rfl)
                    · skip
                      refine lv_iload_n hx hb dX11_enough_93 rfl (lv_at hl 2 rfl) ?_
                      have hs105 : kw_Split [(mrf, .inl (y 0, 3, .inl frf)), (mo, .inr (11, [.ref to, .ref ke, .ref ik, .ref mrf, .long mab, .long mbl, .ref ha, .ref r0, .ref mbr, .ref mbp, .ref mby, .int (nI bl), .int (nI ta), .int (nI tl), .int (nI tk), .int vv, .ref an, .ref va])), (to, .inl (y 0, 228, .inl ft))] [] [(mrf, .inl (y 0, 3, .inl frf)), (mo, .inr (11, [.ref to, .ref ke, .ref ik, .ref mrf, .long mab, .long mbl, .ref ha, .ref r0, .ref mbr, .ref mbp, .ref mby, .int (nI bl), .int (nI ta), .int (nI tl), .int (nI tk), .int vv, .ref an, .ref va])), (to, .inl (y 0, 228, .inl ft))] [] [0, 1, 2] := ⟨rfl, rfl, rfl, rfl, rfl, by decide⟩
                      refine kw_go_i hs105 hP hD hS hA (va_runS (As := [.int (nI j91)]) (rest := []) ⟨hx, hb, hml, hown, hts⟩ (gr_bits l D y (nI j91)  _) (va_cwS 1 hts gX11_enough_X11_bits rfl rfl rfl (by decide +kernel) ⟨Nat.le_of_ble_eq_true rfl, Nat.le_of_ble_eq_true rfl⟩) (kw_PreS hs105 hP hD hK hN) rfl rfl hl.1 rfl (lv_room (Nat.le_of_ble_eq_true rfl)) dX11_enough_94 ⟨Nat.le_of_ble_eq_true rfl, Nat.le_of_ble_eq_true rfl⟩) (fun r106 u107 H locs hq hP hD hS => ?_)
                      have hP : va_P D vwCl [(mrf, .inl (y 0, 3, .inl frf)), (mo, .inr (11, [.ref to, .ref ke, .ref ik, .ref mrf, .long mab, .long mbl, .ref ha, .ref r0, .ref mbr, .ref mbp, .ref mby, .int (nI bl), .int (nI ta), .int (nI tl), .int (nI tk), .int vv, .ref an, .ref va])), (to, .inl (y 0, 228, .inl ft))] H := hP
                      have hD : va_D A [(mrf, .inl (y 0, 3, .inl frf)), (mo, .inr (11, [.ref to, .ref ke, .ref ik, .ref mrf, .long mab, .long mbl, .ref ha, .ref r0, .ref mbr, .ref mbp, .ref mby, .int (nI bl), .int (nI ta), .int (nI tl), .int (nI tk), .int vv, .ref an, .ref va])), (to, .inl (y 0, 228, .inl ft))] := hD
                      refine lv_iload_n hx hb dX11_enough_97 rfl (lv_at hl 3 rfl) ?_
                      have hs108 : kw_Split [(mrf, .inl (y 0, 3, .inl frf)), (mo, .inr (11, [.ref to, .ref ke, .ref ik, .ref mrf, .long mab, .long mbl, .ref ha, .ref r0, .ref mbr, .ref mbp, .ref mby, .int (nI bl), .int (nI ta), .int (nI tl), .int (nI tk), .int vv, .ref an, .ref va])), (to, .inl (y 0, 228, .inl ft))] [] [(mrf, .inl (y 0, 3, .inl frf)), (mo, .inr (11, [.ref to, .ref ke, .ref ik, .ref mrf, .long mab, .long mbl, .ref ha, .ref r0, .ref mbr, .ref mbp, .ref mby, .int (nI bl), .int (nI ta), .int (nI tl), .int (nI tk), .int vv, .ref an, .ref va])), (to, .inl (y 0, 228, .inl ft))] [] [0, 1, 2] := ⟨rfl, rfl, rfl, rfl, rfl, by decide⟩
                      refine kw_go_i hs108 hP hD hS hA (va_runS (As := [.int x29]) (rest := [.int r106]) ⟨hx, hb, hml, hown, hts⟩ (gr_bits l D y x29  _) (va_cwS 1 hts gX11_enough_X11_bits rfl rfl rfl (by decide +kernel) ⟨Nat.le_of_ble_eq_true rfl, Nat.le_of_ble_eq_true rfl⟩) (kw_PreS hs108 hP hD hK hN) rfl rfl hl.1 rfl (lv_room (Nat.le_of_ble_eq_true rfl)) dX11_enough_98 ⟨Nat.le_of_ble_eq_true rfl, Nat.le_of_ble_eq_true rfl⟩) (fun r109 u110 H locs hq hP hD hS => ?_)
                      have hP : va_P D vwCl [(mrf, .inl (y 0, 3, .inl frf)), (mo, .inr (11, [.ref to, .ref ke, .ref ik, .ref mrf, .long mab, .long mbl, .ref ha, .ref r0, .ref mbr, .ref mbp, .ref mby, .int (nI bl), .int (nI ta), .int (nI tl), .int (nI tk), .int vv, .ref an, .ref va])), (to, .inl (y 0, 228, .inl ft))] H := hP
                      have hD : va_D A [(mrf, .inl (y 0, 3, .inl frf)), (mo, .inr (11, [.ref to, .ref ke, .ref ik, .ref mrf, .long mab, .long mbl, .ref ha, .ref r0, .ref mbr, .ref mbp, .ref mby, .int (nI bl), .int (nI ta), .int (nI tl), .int (nI tk), .int vv, .ref an, .ref va])), (to, .inl (y 0, 228, .inl ft))] := hD
                      refine lv_icmp_ge (tgt := 108) hx hb dX11_enough_101 (by decide) (fun h111 => ?_) (fun h112 => ?_)
                      · skip
                        refine lv_iload_n hx hb dX11_enough_108 rfl (lv_at hl 3 rfl) ?_
                        refine lv_istore_n (lv' := [(2, .int x29), (5, .int (nI j92)), (4, .int 0), (3, .int (nI j91)), (0, .ref mo), (1, .int (nI j4))]) hx hb dX11_enough_109 rfl hl (by decide) rfl (fun ls hl => ?_)
                        refine lv_iinc (v := (nI (j91 + 1))) (lv' := [(3, .int (nI (j91 + 1))), (2, .int x29), (5, .int (nI j92)), (4, .int 0), (0, .ref mo), (1, .int (nI j4))]) hx hb dX11_enough_110 hl (k := 3) rfl (nI_1 j91) (by decide) rfl (fun ls hl => ?_)
                        refine lv_goto (tgt := 23) hx hb dX11_enough_113 (by decide) ?_
                        exact ihj91 (j91 + 1) x29 H locs ls (by omega) (by omega)  (hP.sub [1, 0, 2] rfl) (hD.sub [1, 0, 2] (by decide) rfl) hS (lv_sub hl [0, 1, 4, 5] rfl)
                      · skip
                        refine lv_iload_n hx hb dX11_enough_104 rfl (lv_at hl 2 rfl) ?_
                        refine lv_goto (tgt := 109) hx hb dX11_enough_105 (by decide) ?_
                        refine lv_istore_n (lv' := [(2, .int (nI j91)), (5, .int (nI j92)), (4, .int 0), (3, .int (nI j91)), (0, .ref mo), (1, .int (nI j4))]) hx hb dX11_enough_109 rfl hl (by decide) rfl (fun ls hl => ?_)
                        refine lv_iinc (v := (nI (j91 + 1))) (lv' := [(3, .int (nI (j91 + 1))), (2, .int (nI j91)), (5, .int (nI j92)), (4, .int 0), (0, .ref mo), (1, .int (nI j4))]) hx hb dX11_enough_110 hl (k := 3) rfl (nI_1 j91) (by decide) rfl (fun ls hl => ?_)
                        refine lv_goto (tgt := 23) hx hb dX11_enough_113 (by decide) ?_
                        exact ihj91 (j91 + 1) (nI j91) H locs ls (by omega) (by omega)  (hP.sub [1, 0, 2] rfl) (hD.sub [1, 0, 2] (by decide) rfl) hS (lv_sub hl [0, 1, 4, 5] rfl)
                · skip
                  have h100 : ¬ 0 ≤ j92 := fun q9 => h100 ((nI_leI (a := 0) (b := j92) (by omega) (by omega)).mpr q9)
                  exact absurd h100 (by omega)
            exact lp95 (0 + 1) 0  _ _ _ (by omega) (by omega)  hP hD hS (lv_sub hl [0, 1, 2, 3, 4, 5] rfl)
      exact lp71 (1 + 1) 0 (-1) _ _ _ (by omega) (by omega)  hP hD hS (lv_sub hl [0, 1, 2, 3] rfl)
    · skip
      refine lv_iconst (v := 0) hx hb dX11_enough_21 (by decide) ?_
      refine lv_istore_n (lv' := [(3, .int 0), (2, .int (-1)), (0, .ref mo), (1, .int (nI j4))]) hx hb dX11_enough_22 rfl hl (by decide) rfl (fun ls hl => ?_)
      have lp222 : ∀ (fuj91 j91 : Nat) (x152 : Int32) (H : Heap) (locs : List Loc) (ls : Array Slot), j91 ≤ 2 → 2 - j91 < fuj91 → va_P D vwCl [(mo, .inr (11, [.ref to, .ref ke, .ref ik, .ref mrf, .long mab, .long mbl, .ref ha, .ref r0, .ref mbr, .ref mbp, .ref mby, .int (nI bl), .int (nI ta), .int (nI tl), .int (nI tk), .int vv, .ref an, .ref va])), (mrf, .inl (y 0, 3, .inl frf)), (to, .inl (y 0, 228, .inl ft))] H → va_D A [(mo, .inr (11, [.ref to, .ref ke, .ref ik, .ref mrf, .long mab, .long mbl, .ref ha, .ref r0, .ref mbr, .ref mbp, .ref mby, .int (nI bl), .int (nI ta), .int (nI tl), .int (nI tk), .int vv, .ref an, .ref va])), (mrf, .inl (y 0, 3, .inl frf)), (to, .inl (y 0, 228, .inl ft))] → va_S A s.heap H locs → lv_has ls 6 [(3, .int (nI j91)), (2, .int x152), (0, .ref mo), (1, .int (nI j4))] → W pZ l eZ ({ frames := 2, cells := 0, slots := 0, locals := 85 }) s mZ [.ref mo, .int (nI j4)].toArray beZ meZ cZ H locs 0 0 (MQ beZ (va_Qi (fun (r : Int32) (u : (Nat → Int32)) => (1 = 0 ∨ 0 < fi)) (kw_B D (fun u => [(mo, .inr (11, [.ref to, .ref ke, .ref ik, .ref mrf, .long mab, .long mbl, .ref ha, .ref r0, .ref mbr, .ref mbp, .ref mby, .int (nI bl), .int (nI ta), .int (nI tl), .int (nI tk), .int vv, .ref an, .ref va])), (mrf, .inl (y 0, 3, .inl u)), (to, .inl (y 0, 228, .inl ft))]) A) A) [.ref mo, .int (nI j4)].toArray s 0 0 A) (F0 mZ 23 ls []) := by
        intro fuj91
        induction fuj91 with
        | zero => intro j91 x152 H locs ls hj9 hf9; exact absurd hf9 (Nat.not_lt_zero _)
        | succ fuj91 ihj91 =>
          intro j91 x152 H locs ls hj91 hfj91  hP hD hS hl
          refine lv_iload_n hx hb dX11_enough_23 rfl (lv_at hl 0 rfl) ?_
          refine lv_iconst (v := 1) hx hb dX11_enough_24 (by decide) ?_
          refine lv_aload_n hx hb dX11_enough_25 rfl (lv_at hl 2 rfl) ?_
          have hs223 : kw_Split [(mo, .inr (11, [.ref to, .ref ke, .ref ik, .ref mrf, .long mab, .long mbl, .ref ha, .ref r0, .ref mbr, .ref mbp, .ref mby, .int (nI bl), .int (nI ta), .int (nI tl), .int (nI tk), .int vv, .ref an, .ref va])), (mrf, .inl (y 0, 3, .inl frf)), (to, .inl (y 0, 228, .inl ft))] [(mo, .inr (11, [.ref to, .ref ke, .ref ik, .ref mrf, .long mab, .long mbl, .ref ha, .ref r0, .ref mbr, .ref mbp, .ref mby, .int (nI bl), .int (nI ta), .int (nI tl), .int (nI tk), .int vv, .ref an, .ref va])), (to, .inl (y 0, 228, .inl ft))] [(mrf, .inl (y 0, 3, .inl frf))] [0, 2] [1] := ⟨rfl, rfl, rfl, rfl, rfl, by decide⟩
          refine kw_go_i hs223 hP hD hS hA (va_runV (As := []) (rest := [.int 1, .int (nI j91)]) ⟨hx, hb, hml, hown, hts⟩ (gr_manyGleaners l D y mo to ke ik mrf ha r0 mbr mbp mby an va mab mbl bl ta tl tk vv ft fi 1 mi no un hk0_ hk1_ hk2_ hk3_ hk4_ hkt hfi hgl hmi hno hun _) (cwV 0 hts gX11_enough_X11_manyGleaners rfl rfl rfl (by decide +kernel) ⟨Nat.le_of_ble_eq_true rfl, Nat.le_of_ble_eq_true rfl⟩) (kw_PreV (ci := 11) (q0 := 0) hs223 hP hD hK hN rfl rfl) rfl rfl hl.1 rfl (lv_room (Nat.le_of_ble_eq_true rfl)) dX11_enough_26 ⟨Nat.le_of_ble_eq_true rfl, Nat.le_of_ble_eq_true rfl⟩) (fun r224 u225 H locs hq hP hD hS => ?_)
          obtain rfl := hq
          have hP : va_P D vwCl [(mrf, .inl (y 0, 3, .inl frf)), (mo, .inr (11, [.ref to, .ref ke, .ref ik, .ref mrf, .long mab, .long mbl, .ref ha, .ref r0, .ref mbr, .ref mbp, .ref mby, .int (nI bl), .int (nI ta), .int (nI tl), .int (nI tk), .int vv, .ref an, .ref va])), (to, .inl (y 0, 228, .inl ft))] H := hP
          have hD : va_D A [(mrf, .inl (y 0, 3, .inl frf)), (mo, .inr (11, [.ref to, .ref ke, .ref ik, .ref mrf, .long mab, .long mbl, .ref ha, .ref r0, .ref mbr, .ref mbp, .ref mby, .int (nI bl), .int (nI ta), .int (nI tl), .int (nI tk), .int vv, .ref an, .ref va])), (to, .inl (y 0, 228, .inl ft))] := hD
          refine lv_ishl hx hb dX11_enough_29 ?_
          refine lv_topi (fun z226 hz226 => ?_)
          obtain rfl : z226 = 2 := hz226.trans (by decide)
          refine lv_icmp_ge (tgt := 116) hx hb dX11_enough_30 (by decide) (fun h227 => ?_) (fun h228 => ?_)
          · skip
            have h227 : 2 ≤ j91 := (nI_leI (a := 2) (b := j91) (by omega) (by omega)).mp h227
            refine lv_iload_n hx hb dX11_enough_116 rfl (lv_at hl 1 rfl) ?_
            exact W.iret (v := x152) hx hb hr (fun tZ ht hW => ⟨⟨x152, (frf), rfl, by first | omega | (dsimp only; omega), by rw [ht]; exact hP.sub [1, 0, 2] rfl, hD.sub [1, 0, 2] (by decide) rfl⟩, hS.F ht⟩) hS.2.2 dX11_enough_117
          · skip
            have h228 : ¬ 2 ≤ j91 := fun q9 => h228 ((nI_leI (a := 2) (b := j91) (by omega) (by omega)).mpr q9)
            refine lv_iconst (v := 0) hx hb dX11_enough_33 (by decide) ?_
            refine lv_istore (lv' := [(4, .int 0), (3, .int (nI j91)), (2, .int x152), (0, .ref mo), (1, .int (nI j4))]) hx hb dX11_enough_34 hl (by decide) rfl (fun ls hl => ?_)
            refine lv_iconst (v := 0) hx hb dX11_enough_36 (by decide) ?_
            refine lv_istore (lv' := [(5, .int 0), (4, .int 0), (3, .int (nI j91)), (2, .int x152), (0, .ref mo), (1, .int (nI j4))]) hx hb dX11_enough_37 hl (by decide) rfl (fun ls hl => ?_)
            have lp271 : ∀ (fuj92 j92 : Nat) (x250 : Int32) (H : Heap) (locs : List Loc) (ls : Array Slot), j92 ≤ 1 → 1 - j92 < fuj92 → va_P D vwCl [(mrf, .inl (y 0, 3, .inl frf)), (mo, .inr (11, [.ref to, .ref ke, .ref ik, .ref mrf, .long mab, .long mbl, .ref ha, .ref r0, .ref mbr, .ref mbp, .ref mby, .int (nI bl), .int (nI ta), .int (nI tl), .int (nI tk), .int vv, .ref an, .ref va])), (to, .inl (y 0, 228, .inl ft))] H → va_D A [(mrf, .inl (y 0, 3, .inl frf)), (mo, .inr (11, [.ref to, .ref ke, .ref ik, .ref mrf, .long mab, .long mbl, .ref ha, .ref r0, .ref mbr, .ref mbp, .ref mby, .int (nI bl), .int (nI ta), .int (nI tl), .int (nI tk), .int vv, .ref an, .ref va])), (to, .inl (y 0, 228, .inl ft))] → va_S A s.heap H locs → lv_has ls 6 [(5, .int (nI j92)), (4, .int x250), (3, .int (nI j91)), (2, .int x152), (0, .ref mo), (1, .int (nI j4))] → W pZ l eZ ({ frames := 2, cells := 0, slots := 0, locals := 85 }) s mZ [.ref mo, .int (nI j4)].toArray beZ meZ cZ H locs 0 0 (MQ beZ (va_Qi (fun (r : Int32) (u : (Nat → Int32)) => (1 = 0 ∨ 0 < fi)) (kw_B D (fun u => [(mo, .inr (11, [.ref to, .ref ke, .ref ik, .ref mrf, .long mab, .long mbl, .ref ha, .ref r0, .ref mbr, .ref mbp, .ref mby, .int (nI bl), .int (nI ta), .int (nI tl), .int (nI tk), .int vv, .ref an, .ref va])), (mrf, .inl (y 0, 3, .inl u)), (to, .inl (y 0, 228, .inl ft))]) A) A) [.ref mo, .int (nI j4)].toArray s 0 0 A) (F0 mZ 39 ls []) := by
              intro fuj92
              induction fuj92 with
              | zero => intro j92 x250 H locs ls hj9 hf9; exact absurd hf9 (Nat.not_lt_zero _)
              | succ fuj92 ihj92 =>
                intro j92 x250 H locs ls hj92 hfj92  hP hD hS hl
                refine lv_iload hx hb dX11_enough_39 (lv_at hl 0 rfl) ?_
                refine lv_aload_n hx hb dX11_enough_41 rfl (lv_at hl 4 rfl) ?_
                have hs272 : kw_Split [(mrf, .inl (y 0, 3, .inl frf)), (mo, .inr (11, [.ref to, .ref ke, .ref ik, .ref mrf, .long mab, .long mbl, .ref ha, .ref r0, .ref mbr, .ref mbp, .ref mby, .int (nI bl), .int (nI ta), .int (nI tl), .int (nI tk), .int vv, .ref an, .ref va])), (to, .inl (y 0, 228, .inl ft))] [(mo, .inr (11, [.ref to, .ref ke, .ref ik, .ref mrf, .long mab, .long mbl, .ref ha, .ref r0, .ref mbr, .ref mbp, .ref mby, .int (nI bl), .int (nI ta), .int (nI tl), .int (nI tk), .int vv, .ref an, .ref va])), (to, .inl (y 0, 228, .inl ft))] [(mrf, .inl (y 0, 3, .inl frf))] [1, 2] [0] := ⟨rfl, rfl, rfl, rfl, rfl, by decide⟩
                refine kw_go_i hs272 hP hD hS hA (va_runV (As := []) (rest := [.int (nI j92)]) ⟨hx, hb, hml, hown, hts⟩ (gr_manyGleaners l D y mo to ke ik mrf ha r0 mbr mbp mby an va mab mbl bl ta tl tk vv ft fi 1 mi no un hk0_ hk1_ hk2_ hk3_ hk4_ hkt hfi hgl hmi hno hun _) (cwV 0 hts gX11_enough_X11_manyGleaners rfl rfl rfl (by decide +kernel) ⟨Nat.le_of_ble_eq_true rfl, Nat.le_of_ble_eq_true rfl⟩) (kw_PreV (ci := 11) (q0 := 1) hs272 hP hD hK hN rfl rfl) rfl rfl hl.1 rfl (lv_room (Nat.le_of_ble_eq_true rfl)) dX11_enough_42 ⟨Nat.le_of_ble_eq_true rfl, Nat.le_of_ble_eq_true rfl⟩) (fun r273 u274 H locs hq hP hD hS => ?_)
                obtain rfl := hq
                have hP : va_P D vwCl [(mrf, .inl (y 0, 3, .inl frf)), (mo, .inr (11, [.ref to, .ref ke, .ref ik, .ref mrf, .long mab, .long mbl, .ref ha, .ref r0, .ref mbr, .ref mbp, .ref mby, .int (nI bl), .int (nI ta), .int (nI tl), .int (nI tk), .int vv, .ref an, .ref va])), (to, .inl (y 0, 228, .inl ft))] H := hP
                have hD : va_D A [(mrf, .inl (y 0, 3, .inl frf)), (mo, .inr (11, [.ref to, .ref ke, .ref ik, .ref mrf, .long mab, .long mbl, .ref ha, .ref r0, .ref mbr, .ref mbp, .ref mby, .int (nI bl), .int (nI ta), .int (nI tl), .int (nI tk), .int vv, .ref an, .ref va])), (to, .inl (y 0, 228, .inl ft))] := hD
                refine lv_icmp_ge (tgt := 82) hx hb dX11_enough_45 (by decide) (fun h275 => ?_) (fun h276 => ?_)
                · skip
                  have h275 : 1 ≤ j92 := (nI_leI (a := 1) (b := j92) (by omega) (by omega)).mp h275
                  refine lv_iload hx hb dX11_enough_82 (lv_at hl 1 rfl) ?_
                  refine lv_iload_n hx hb dX11_enough_84 rfl (lv_at hl 5 rfl) ?_
                  refine lv_icmp_lt (tgt := 108) hx hb dX11_enough_85 (by decide) (fun h277 => ?_) (fun h278 => ?_)
                  · skip
                    refine lv_iload_n hx hb dX11_enough_108 rfl (lv_at hl 3 rfl) ?_
                    refine lv_istore_n (lv' := [(2, .int x152), (5, .int (nI j92)), (4, .int x250), (3, .int (nI j91)), (0, .ref mo), (1, .int (nI j4))]) hx hb dX11_enough_109 rfl hl (by decide) rfl (fun ls hl => ?_)
                    refine lv_iinc (v := (nI (j91 + 1))) (lv' := [(3, .int (nI (j91 + 1))), (2, .int x152), (5, .int (nI j92)), (4, .int x250), (0, .ref mo), (1, .int (nI j4))]) hx hb dX11_enough_110 hl (k := 3) rfl (nI_1 j91) (by decide) rfl (fun ls hl => ?_)
                    refine lv_goto (tgt := 23) hx hb dX11_enough_113 (by decide) ?_
                    exact ihj91 (j91 + 1) x152 H locs ls (by omega) (by omega)  (hP.sub [1, 0, 2] rfl) (hD.sub [1, 0, 2] (by decide) rfl) hS (lv_sub hl [0, 1, 4, 5] rfl)
                  · skip
                    refine lv_iload_n hx hb dX11_enough_88 rfl (lv_at hl 3 rfl) ?_
                    refine lv_iconst (v := (-1)) hx hb dX11_enough_89 (by decide) ?_
                    refine lv_icmp_eq (tgt := 104) hx hb dX11_enough_90 (by decide) (fun h279 => ?_) (fun h280 => ?_)
                    · skip
                      refine lv_iload_n hx hb dX11_enough_104 rfl (lv_at hl 2 rfl) ?_
                      refine lv_goto (tgt := 109) hx hb dX11_enough_105 (by decide) ?_
                      refine lv_istore_n (lv' := [(2, .int (nI j91)), (5, .int (nI j92)), (4, .int x250), (3, .int (nI j91)), (0, .ref mo), (1, .int (nI j4))]) hx hb dX11_enough_109 rfl hl (by decide) rfl (fun ls hl => ?_)
                      refine lv_iinc (v := (nI (j91 + 1))) (lv' := [(3, .int (nI (j91 + 1))), (2, .int (nI j91)), (5, .int (nI j92)), (4, .int x250), (0, .ref mo), (1, .int (nI j4))]) hx hb dX11_enough_110 hl (k := 3) rfl (nI_1 j91) (by decide) rfl (fun ls hl => ?_)
                      refine lv_goto (tgt := 23) hx hb dX11_enough_113 (by decide) ?_
                      exact ihj91 (j91 + 1) (nI j91) H locs ls (by omega) (by omega)  (hP.sub [1, 0, 2] rfl) (hD.sub [1, 0, 2] (by decide) rfl) hS (lv_sub hl [0, 1, 4, 5] rfl)
                    · skip
                      refine lv_iload_n hx hb dX11_enough_93 rfl (lv_at hl 2 rfl) ?_
                      have hs281 : kw_Split [(mrf, .inl (y 0, 3, .inl frf)), (mo, .inr (11, [.ref to, .ref ke, .ref ik, .ref mrf, .long mab, .long mbl, .ref ha, .ref r0, .ref mbr, .ref mbp, .ref mby, .int (nI bl), .int (nI ta), .int (nI tl), .int (nI tk), .int vv, .ref an, .ref va])), (to, .inl (y 0, 228, .inl ft))] [] [(mrf, .inl (y 0, 3, .inl frf)), (mo, .inr (11, [.ref to, .ref ke, .ref ik, .ref mrf, .long mab, .long mbl, .ref ha, .ref r0, .ref mbr, .ref mbp, .ref mby, .int (nI bl), .int (nI ta), .int (nI tl), .int (nI tk), .int vv, .ref an, .ref va])), (to, .inl (y 0, 228, .inl ft))] [] [0, 1, 2] := ⟨rfl, rfl, rfl, rfl, rfl, by decide⟩
                      refine kw_go_i hs281 hP hD hS hA (va_runS (As := [.int (nI j91)]) (rest := []) ⟨hx, hb, hml, hown, hts⟩ (gr_bits l D y (nI j91)  _) (va_cwS 1 hts gX11_enough_X11_bits rfl rfl rfl (by decide +kernel) ⟨Nat.le_of_ble_eq_true rfl, Nat.le_of_ble_eq_true rfl⟩) (kw_PreS hs281 hP hD hK hN) rfl rfl hl.1 rfl (lv_room (Nat.le_of_ble_eq_true rfl)) dX11_enough_94 ⟨Nat.le_of_ble_eq_true rfl, Nat.le_of_ble_eq_true rfl⟩) (fun r282 u283 H locs hq hP hD hS => ?_)
                      have hP : va_P D vwCl [(mrf, .inl (y 0, 3, .inl frf)), (mo, .inr (11, [.ref to, .ref ke, .ref ik, .ref mrf, .long mab, .long mbl, .ref ha, .ref r0, .ref mbr, .ref mbp, .ref mby, .int (nI bl), .int (nI ta), .int (nI tl), .int (nI tk), .int vv, .ref an, .ref va])), (to, .inl (y 0, 228, .inl ft))] H := hP
                      have hD : va_D A [(mrf, .inl (y 0, 3, .inl frf)), (mo, .inr (11, [.ref to, .ref ke, .ref ik, .ref mrf, .long mab, .long mbl, .ref ha, .ref r0, .ref mbr, .ref mbp, .ref mby, .int (nI bl), .int (nI ta), .int (nI tl), .int (nI tk), .int vv, .ref an, .ref va])), (to, .inl (y 0, 228, .inl ft))] := hD
                      refine lv_iload_n hx hb dX11_enough_97 rfl (lv_at hl 3 rfl) ?_
                      have hs284 : kw_Split [(mrf, .inl (y 0, 3, .inl frf)), (mo, .inr (11, [.ref to, .ref ke, .ref ik, .ref mrf, .long mab, .long mbl, .ref ha, .ref r0, .ref mbr, .ref mbp, .ref mby, .int (nI bl), .int (nI ta), .int (nI tl), .int (nI tk), .int vv, .ref an, .ref va])), (to, .inl (y 0, 228, .inl ft))] [] [(mrf, .inl (y 0, 3, .inl frf)), (mo, .inr (11, [.ref to, .ref ke, .ref ik, .ref mrf, .long mab, .long mbl, .ref ha, .ref r0, .ref mbr, .ref mbp, .ref mby, .int (nI bl), .int (nI ta), .int (nI tl), .int (nI tk), .int vv, .ref an, .ref va])), (to, .inl (y 0, 228, .inl ft))] [] [0, 1, 2] := ⟨rfl, rfl, rfl, rfl, rfl, by decide⟩
                      refine kw_go_i hs284 hP hD hS hA (va_runS (As := [.int x152]) (rest := [.int r282]) ⟨hx, hb, hml, hown, hts⟩ (gr_bits l D y x152  _) (va_cwS 1 hts gX11_enough_X11_bits rfl rfl rfl (by decide +kernel) ⟨Nat.le_of_ble_eq_true rfl, Nat.le_of_ble_eq_true rfl⟩) (kw_PreS hs284 hP hD hK hN) rfl rfl hl.1 rfl (lv_room (Nat.le_of_ble_eq_true rfl)) dX11_enough_98 ⟨Nat.le_of_ble_eq_true rfl, Nat.le_of_ble_eq_true rfl⟩) (fun r285 u286 H locs hq hP hD hS => ?_)
                      have hP : va_P D vwCl [(mrf, .inl (y 0, 3, .inl frf)), (mo, .inr (11, [.ref to, .ref ke, .ref ik, .ref mrf, .long mab, .long mbl, .ref ha, .ref r0, .ref mbr, .ref mbp, .ref mby, .int (nI bl), .int (nI ta), .int (nI tl), .int (nI tk), .int vv, .ref an, .ref va])), (to, .inl (y 0, 228, .inl ft))] H := hP
                      have hD : va_D A [(mrf, .inl (y 0, 3, .inl frf)), (mo, .inr (11, [.ref to, .ref ke, .ref ik, .ref mrf, .long mab, .long mbl, .ref ha, .ref r0, .ref mbr, .ref mbp, .ref mby, .int (nI bl), .int (nI ta), .int (nI tl), .int (nI tk), .int vv, .ref an, .ref va])), (to, .inl (y 0, 228, .inl ft))] := hD
                      refine lv_icmp_ge (tgt := 108) hx hb dX11_enough_101 (by decide) (fun h287 => ?_) (fun h288 => ?_)
                      · skip
                        refine lv_iload_n hx hb dX11_enough_108 rfl (lv_at hl 3 rfl) ?_
                        refine lv_istore_n (lv' := [(2, .int x152), (5, .int (nI j92)), (4, .int x250), (3, .int (nI j91)), (0, .ref mo), (1, .int (nI j4))]) hx hb dX11_enough_109 rfl hl (by decide) rfl (fun ls hl => ?_)
                        refine lv_iinc (v := (nI (j91 + 1))) (lv' := [(3, .int (nI (j91 + 1))), (2, .int x152), (5, .int (nI j92)), (4, .int x250), (0, .ref mo), (1, .int (nI j4))]) hx hb dX11_enough_110 hl (k := 3) rfl (nI_1 j91) (by decide) rfl (fun ls hl => ?_)
                        refine lv_goto (tgt := 23) hx hb dX11_enough_113 (by decide) ?_
                        exact ihj91 (j91 + 1) x152 H locs ls (by omega) (by omega)  (hP.sub [1, 0, 2] rfl) (hD.sub [1, 0, 2] (by decide) rfl) hS (lv_sub hl [0, 1, 4, 5] rfl)
                      · skip
                        refine lv_iload_n hx hb dX11_enough_104 rfl (lv_at hl 2 rfl) ?_
                        refine lv_goto (tgt := 109) hx hb dX11_enough_105 (by decide) ?_
                        refine lv_istore_n (lv' := [(2, .int (nI j91)), (5, .int (nI j92)), (4, .int x250), (3, .int (nI j91)), (0, .ref mo), (1, .int (nI j4))]) hx hb dX11_enough_109 rfl hl (by decide) rfl (fun ls hl => ?_)
                        refine lv_iinc (v := (nI (j91 + 1))) (lv' := [(3, .int (nI (j91 + 1))), (2, .int (nI j91)), (5, .int (nI j92)), (4, .int x250), (0, .ref mo), (1, .int (nI j4))]) hx hb dX11_enough_110 hl (k := 3) rfl (nI_1 j91) (by decide) rfl (fun ls hl => ?_)
                        refine lv_goto (tgt := 23) hx hb dX11_enough_113 (by decide) ?_
                        exact ihj91 (j91 + 1) (nI j91) H locs ls (by omega) (by omega)  (hP.sub [1, 0, 2] rfl) (hD.sub [1, 0, 2] (by decide) rfl) hS (lv_sub hl [0, 1, 4, 5] rfl)
                · skip
                  have h276 : ¬ 1 ≤ j92 := fun q9 => h276 ((nI_leI (a := 1) (b := j92) (by omega) (by omega)).mpr q9)
                  refine lv_iload hx hb dX11_enough_48 (lv_at hl 1 rfl) ?_
                  refine lv_iload_n hx hb dX11_enough_50 rfl (lv_at hl 2 rfl) ?_
                  refine lv_iload hx hb dX11_enough_51 (lv_at hl 0 rfl) ?_
                  have hs289 : kw_Split [(mrf, .inl (y 0, 3, .inl frf)), (mo, .inr (11, [.ref to, .ref ke, .ref ik, .ref mrf, .long mab, .long mbl, .ref ha, .ref r0, .ref mbr, .ref mbp, .ref mby, .int (nI bl), .int (nI ta), .int (nI tl), .int (nI tk), .int vv, .ref an, .ref va])), (to, .inl (y 0, 228, .inl ft))] [] [(mrf, .inl (y 0, 3, .inl frf)), (mo, .inr (11, [.ref to, .ref ke, .ref ik, .ref mrf, .long mab, .long mbl, .ref ha, .ref r0, .ref mbr, .ref mbp, .ref mby, .int (nI bl), .int (nI ta), .int (nI tl), .int (nI tk), .int vv, .ref an, .ref va])), (to, .inl (y 0, 228, .inl ft))] [] [0, 1, 2] := ⟨rfl, rfl, rfl, rfl, rfl, by decide⟩
                  refine kw_go_i hs289 hP hD hS hA (va_runS (As := [.int (nI j91), .int (nI j92)]) (rest := [.int x250]) ⟨hx, hb, hml, hown, hts⟩ (gr_has l D y (nI j91) (nI j92)  _) (va_cwS 2 hts gX11_enough_X11_has rfl rfl rfl (by decide +kernel) ⟨Nat.le_of_ble_eq_true rfl, Nat.le_of_ble_eq_true rfl⟩) (kw_PreS hs289 hP hD hK hN) rfl rfl hl.1 rfl (lv_room (Nat.le_of_ble_eq_true rfl)) dX11_enough_53 ⟨Nat.le_of_ble_eq_true rfl, Nat.le_of_ble_eq_true rfl⟩) (fun r290 u291 H locs hq hP hD hS => ?_)
                  obtain (rfl | rfl) := hq
                  · skip
                    have hP : va_P D vwCl [(mrf, .inl (y 0, 3, .inl frf)), (mo, .inr (11, [.ref to, .ref ke, .ref ik, .ref mrf, .long mab, .long mbl, .ref ha, .ref r0, .ref mbr, .ref mbp, .ref mby, .int (nI bl), .int (nI ta), .int (nI tl), .int (nI tk), .int vv, .ref an, .ref va])), (to, .inl (y 0, 228, .inl ft))] H := hP
                    have hD : va_D A [(mrf, .inl (y 0, 3, .inl frf)), (mo, .inr (11, [.ref to, .ref ke, .ref ik, .ref mrf, .long mab, .long mbl, .ref ha, .ref r0, .ref mbr, .ref mbp, .ref mby, .int (nI bl), .int (nI ta), .int (nI tl), .int (nI tk), .int vv, .ref an, .ref va])), (to, .inl (y 0, 228, .inl ft))] := hD
                    refine lv_if_eq (tgt := 72) hx hb dX11_enough_56 (by decide) (fun _ => ?_) (fun h9 => absurd h9 (by decide))
                    refine lv_iconst (v := 0) hx hb dX11_enough_72 (by decide) ?_
                    refine lv_iadd hx hb dX11_enough_73 ?_
                    refine lv_istore (lv' := [(4, .int (x250 + 0)), (5, .int (nI j92)), (3, .int (nI j91)), (2, .int x152), (0, .ref mo), (1, .int (nI j4))]) hx hb dX11_enough_74 hl (by decide) rfl (fun ls hl => ?_)
                    refine lv_iinc (v := (nI (j92 + 1))) (lv' := [(5, .int (nI (j92 + 1))), (4, .int (x250 + 0)), (3, .int (nI j91)), (2, .int x152), (0, .ref mo), (1, .int (nI j4))]) hx hb dX11_enough_76 hl (k := 1) rfl (nI_1 j92) (by decide) rfl (fun ls hl => ?_)
                    refine lv_goto (tgt := 39) hx hb dX11_enough_79 (by decide) ?_
                    exact ihj92 (j92 + 1) (x250 + 0) H locs ls (by omega) (by omega)  (hP.sub [0, 1, 2] rfl) (hD.sub [0, 1, 2] (by decide) rfl) hS (lv_sub hl [0, 1, 2, 3, 4, 5] rfl)
                  · skip
                    have hP : va_P D vwCl [(mrf, .inl (y 0, 3, .inl frf)), (mo, .inr (11, [.ref to, .ref ke, .ref ik, .ref mrf, .long mab, .long mbl, .ref ha, .ref r0, .ref mbr, .ref mbp, .ref mby, .int (nI bl), .int (nI ta), .int (nI tl), .int (nI tk), .int vv, .ref an, .ref va])), (to, .inl (y 0, 228, .inl ft))] H := hP
                    have hD : va_D A [(mrf, .inl (y 0, 3, .inl frf)), (mo, .inr (11, [.ref to, .ref ke, .ref ik, .ref mrf, .long mab, .long mbl, .ref ha, .ref r0, .ref mbr, .ref mbp, .ref mby, .int (nI bl), .int (nI ta), .int (nI tl), .int (nI tk), .int vv, .ref an, .ref va])), (to, .inl (y 0, 228, .inl ft))] := hD
                    refine lv_if_eq (tgt := 72) hx hb dX11_enough_56 (by decide) (fun h9 => absurd h9 (by decide)) (fun _ => ?_)
                    refine lv_aload_n hx hb dX11_enough_59 rfl (lv_at hl 4 rfl) ?_
                    refine va_get (D := D) (ci := 11) (v := .ref to) (C := RX11) (T := TX11) (N := 18) hx hb hts iw11 hown hK hP 1 rfl rfl 0 (by decide) fw2 (fun _ h9 => h9) rfl dX11_enough_60 ?_
                    refine lv_bipush (v := 16) hx hb dX11_enough_63 (by decide) ?_
                    refine lv_iload hx hb dX11_enough_65 (lv_at hl 0 rfl) ?_
                    refine lv_iadd hx hb dX11_enough_67 ?_
                    rw [show 16 + (nI j92) = nI (j92 + 16) from (nI_add 16 j92).trans (congrArg nI (by omega))]
                    refine va_iald hx hb hK hP 2 0 rfl rfl (vp_in_nI (by omega) (by decide)) dX11_enough_68 ?_
                    rw [nI_clamp (n := (j92 + 16)) (by omega)]
                    refine lv_goto (tgt := 73) hx hb dX11_enough_69 (by decide) ?_
                    refine lv_iadd hx hb dX11_enough_73 ?_
                    refine lv_istore (lv' := [(4, .int (x250 + (ft (j92 + 16)))), (5, .int (nI j92)), (3, .int (nI j91)), (2, .int x152), (0, .ref mo), (1, .int (nI j4))]) hx hb dX11_enough_74 hl (by decide) rfl (fun ls hl => ?_)
                    refine lv_iinc (v := (nI (j92 + 1))) (lv' := [(5, .int (nI (j92 + 1))), (4, .int (x250 + (ft (j92 + 16)))), (3, .int (nI j91)), (2, .int x152), (0, .ref mo), (1, .int (nI j4))]) hx hb dX11_enough_76 hl (k := 1) rfl (nI_1 j92) (by decide) rfl (fun ls hl => ?_)
                    refine lv_goto (tgt := 39) hx hb dX11_enough_79 (by decide) ?_
                    exact ihj92 (j92 + 1) (x250 + (ft (j92 + 16))) H locs ls (by omega) (by omega)  (hP.sub [0, 1, 2] rfl) (hD.sub [0, 1, 2] (by decide) rfl) hS (lv_sub hl [0, 1, 2, 3, 4, 5] rfl)
            exact lp271 (1 + 1) 0 0 _ _ _ (by omega) (by omega)  hP hD hS (lv_sub hl [0, 1, 2, 3, 4, 5] rfl)
      exact lp222 (2 + 1) 0 (-1) _ _ _ (by omega) (by omega)  hP hD hS (lv_sub hl [0, 1, 2, 3] rfl)
    · skip
      refine lv_iconst (v := 0) hx hb dX11_enough_21 (by decide) ?_
      refine lv_istore_n (lv' := [(3, .int 0), (2, .int (-1)), (0, .ref mo), (1, .int (nI j4))]) hx hb dX11_enough_22 rfl hl (by decide) rfl (fun ls hl => ?_)
      have lp401 : ∀ (fuj91 j91 : Nat) (x331 : Int32) (H : Heap) (locs : List Loc) (ls : Array Slot), j91 ≤ 4 → 4 - j91 < fuj91 → va_P D vwCl [(mo, .inr (11, [.ref to, .ref ke, .ref ik, .ref mrf, .long mab, .long mbl, .ref ha, .ref r0, .ref mbr, .ref mbp, .ref mby, .int (nI bl), .int (nI ta), .int (nI tl), .int (nI tk), .int vv, .ref an, .ref va])), (mrf, .inl (y 0, 3, .inl frf)), (to, .inl (y 0, 228, .inl ft))] H → va_D A [(mo, .inr (11, [.ref to, .ref ke, .ref ik, .ref mrf, .long mab, .long mbl, .ref ha, .ref r0, .ref mbr, .ref mbp, .ref mby, .int (nI bl), .int (nI ta), .int (nI tl), .int (nI tk), .int vv, .ref an, .ref va])), (mrf, .inl (y 0, 3, .inl frf)), (to, .inl (y 0, 228, .inl ft))] → va_S A s.heap H locs → lv_has ls 6 [(3, .int (nI j91)), (2, .int x331), (0, .ref mo), (1, .int (nI j4))] → W pZ l eZ ({ frames := 2, cells := 0, slots := 0, locals := 85 }) s mZ [.ref mo, .int (nI j4)].toArray beZ meZ cZ H locs 0 0 (MQ beZ (va_Qi (fun (r : Int32) (u : (Nat → Int32)) => (2 = 0 ∨ 0 < fi)) (kw_B D (fun u => [(mo, .inr (11, [.ref to, .ref ke, .ref ik, .ref mrf, .long mab, .long mbl, .ref ha, .ref r0, .ref mbr, .ref mbp, .ref mby, .int (nI bl), .int (nI ta), .int (nI tl), .int (nI tk), .int vv, .ref an, .ref va])), (mrf, .inl (y 0, 3, .inl u)), (to, .inl (y 0, 228, .inl ft))]) A) A) [.ref mo, .int (nI j4)].toArray s 0 0 A) (F0 mZ 23 ls []) := by
        intro fuj91
        induction fuj91 with
        | zero => intro j91 x331 H locs ls hj9 hf9; exact absurd hf9 (Nat.not_lt_zero _)
        | succ fuj91 ihj91 =>
          intro j91 x331 H locs ls hj91 hfj91  hP hD hS hl
          refine lv_iload_n hx hb dX11_enough_23 rfl (lv_at hl 0 rfl) ?_
          refine lv_iconst (v := 1) hx hb dX11_enough_24 (by decide) ?_
          refine lv_aload_n hx hb dX11_enough_25 rfl (lv_at hl 2 rfl) ?_
          have hs402 : kw_Split [(mo, .inr (11, [.ref to, .ref ke, .ref ik, .ref mrf, .long mab, .long mbl, .ref ha, .ref r0, .ref mbr, .ref mbp, .ref mby, .int (nI bl), .int (nI ta), .int (nI tl), .int (nI tk), .int vv, .ref an, .ref va])), (mrf, .inl (y 0, 3, .inl frf)), (to, .inl (y 0, 228, .inl ft))] [(mo, .inr (11, [.ref to, .ref ke, .ref ik, .ref mrf, .long mab, .long mbl, .ref ha, .ref r0, .ref mbr, .ref mbp, .ref mby, .int (nI bl), .int (nI ta), .int (nI tl), .int (nI tk), .int vv, .ref an, .ref va])), (to, .inl (y 0, 228, .inl ft))] [(mrf, .inl (y 0, 3, .inl frf))] [0, 2] [1] := ⟨rfl, rfl, rfl, rfl, rfl, by decide⟩
          refine kw_go_i hs402 hP hD hS hA (va_runV (As := []) (rest := [.int 1, .int (nI j91)]) ⟨hx, hb, hml, hown, hts⟩ (gr_manyGleaners l D y mo to ke ik mrf ha r0 mbr mbp mby an va mab mbl bl ta tl tk vv ft fi 2 mi no un hk0_ hk1_ hk2_ hk3_ hk4_ hkt hfi hgl hmi hno hun _) (cwV 0 hts gX11_enough_X11_manyGleaners rfl rfl rfl (by decide +kernel) ⟨Nat.le_of_ble_eq_true rfl, Nat.le_of_ble_eq_true rfl⟩) (kw_PreV (ci := 11) (q0 := 0) hs402 hP hD hK hN rfl rfl) rfl rfl hl.1 rfl (lv_room (Nat.le_of_ble_eq_true rfl)) dX11_enough_26 ⟨Nat.le_of_ble_eq_true rfl, Nat.le_of_ble_eq_true rfl⟩) (fun r403 u404 H locs hq hP hD hS => ?_)
          obtain rfl := hq
          have hP : va_P D vwCl [(mrf, .inl (y 0, 3, .inl frf)), (mo, .inr (11, [.ref to, .ref ke, .ref ik, .ref mrf, .long mab, .long mbl, .ref ha, .ref r0, .ref mbr, .ref mbp, .ref mby, .int (nI bl), .int (nI ta), .int (nI tl), .int (nI tk), .int vv, .ref an, .ref va])), (to, .inl (y 0, 228, .inl ft))] H := hP
          have hD : va_D A [(mrf, .inl (y 0, 3, .inl frf)), (mo, .inr (11, [.ref to, .ref ke, .ref ik, .ref mrf, .long mab, .long mbl, .ref ha, .ref r0, .ref mbr, .ref mbp, .ref mby, .int (nI bl), .int (nI ta), .int (nI tl), .int (nI tk), .int vv, .ref an, .ref va])), (to, .inl (y 0, 228, .inl ft))] := hD
          refine lv_ishl hx hb dX11_enough_29 ?_
          refine lv_topi (fun z405 hz405 => ?_)
          obtain rfl : z405 = 4 := hz405.trans (by decide)
          refine lv_icmp_ge (tgt := 116) hx hb dX11_enough_30 (by decide) (fun h406 => ?_) (fun h407 => ?_)
          · skip
            have h406 : 4 ≤ j91 := (nI_leI (a := 4) (b := j91) (by omega) (by omega)).mp h406
            refine lv_iload_n hx hb dX11_enough_116 rfl (lv_at hl 1 rfl) ?_
            exact W.iret (v := x331) hx hb hr (fun tZ ht hW => ⟨⟨x331, (frf), rfl, by first | omega | (dsimp only; omega), by rw [ht]; exact hP.sub [1, 0, 2] rfl, hD.sub [1, 0, 2] (by decide) rfl⟩, hS.F ht⟩) hS.2.2 dX11_enough_117
          · skip
            have h407 : ¬ 4 ≤ j91 := fun q9 => h407 ((nI_leI (a := 4) (b := j91) (by omega) (by omega)).mpr q9)
            refine lv_iconst (v := 0) hx hb dX11_enough_33 (by decide) ?_
            refine lv_istore (lv' := [(4, .int 0), (3, .int (nI j91)), (2, .int x331), (0, .ref mo), (1, .int (nI j4))]) hx hb dX11_enough_34 hl (by decide) rfl (fun ls hl => ?_)
            refine lv_iconst (v := 0) hx hb dX11_enough_36 (by decide) ?_
            refine lv_istore (lv' := [(5, .int 0), (4, .int 0), (3, .int (nI j91)), (2, .int x331), (0, .ref mo), (1, .int (nI j4))]) hx hb dX11_enough_37 hl (by decide) rfl (fun ls hl => ?_)
            have lp450 : ∀ (fuj92 j92 : Nat) (x429 : Int32) (H : Heap) (locs : List Loc) (ls : Array Slot), j92 ≤ 2 → 2 - j92 < fuj92 → va_P D vwCl [(mrf, .inl (y 0, 3, .inl frf)), (mo, .inr (11, [.ref to, .ref ke, .ref ik, .ref mrf, .long mab, .long mbl, .ref ha, .ref r0, .ref mbr, .ref mbp, .ref mby, .int (nI bl), .int (nI ta), .int (nI tl), .int (nI tk), .int vv, .ref an, .ref va])), (to, .inl (y 0, 228, .inl ft))] H → va_D A [(mrf, .inl (y 0, 3, .inl frf)), (mo, .inr (11, [.ref to, .ref ke, .ref ik, .ref mrf, .long mab, .long mbl, .ref ha, .ref r0, .ref mbr, .ref mbp, .ref mby, .int (nI bl), .int (nI ta), .int (nI tl), .int (nI tk), .int vv, .ref an, .ref va])), (to, .inl (y 0, 228, .inl ft))] → va_S A s.heap H locs → lv_has ls 6 [(5, .int (nI j92)), (4, .int x429), (3, .int (nI j91)), (2, .int x331), (0, .ref mo), (1, .int (nI j4))] → W pZ l eZ ({ frames := 2, cells := 0, slots := 0, locals := 85 }) s mZ [.ref mo, .int (nI j4)].toArray beZ meZ cZ H locs 0 0 (MQ beZ (va_Qi (fun (r : Int32) (u : (Nat → Int32)) => (2 = 0 ∨ 0 < fi)) (kw_B D (fun u => [(mo, .inr (11, [.ref to, .ref ke, .ref ik, .ref mrf, .long mab, .long mbl, .ref ha, .ref r0, .ref mbr, .ref mbp, .ref mby, .int (nI bl), .int (nI ta), .int (nI tl), .int (nI tk), .int vv, .ref an, .ref va])), (mrf, .inl (y 0, 3, .inl u)), (to, .inl (y 0, 228, .inl ft))]) A) A) [.ref mo, .int (nI j4)].toArray s 0 0 A) (F0 mZ 39 ls []) := by
              intro fuj92
              induction fuj92 with
              | zero => intro j92 x429 H locs ls hj9 hf9; exact absurd hf9 (Nat.not_lt_zero _)
              | succ fuj92 ihj92 =>
                intro j92 x429 H locs ls hj92 hfj92  hP hD hS hl
                refine lv_iload hx hb dX11_enough_39 (lv_at hl 0 rfl) ?_
                refine lv_aload_n hx hb dX11_enough_41 rfl (lv_at hl 4 rfl) ?_
                have hs451 : kw_Split [(mrf, .inl (y 0, 3, .inl frf)), (mo, .inr (11, [.ref to, .ref ke, .ref ik, .ref mrf, .long mab, .long mbl, .ref ha, .ref r0, .ref mbr, .ref mbp, .ref mby, .int (nI bl), .int (nI ta), .int (nI tl), .int (nI tk), .int vv, .ref an, .ref va])), (to, .inl (y 0, 228, .inl ft))] [(mo, .inr (11, [.ref to, .ref ke, .ref ik, .ref mrf, .long mab, .long mbl, .ref ha, .ref r0, .ref mbr, .ref mbp, .ref mby, .int (nI bl), .int (nI ta), .int (nI tl), .int (nI tk), .int vv, .ref an, .ref va])), (to, .inl (y 0, 228, .inl ft))] [(mrf, .inl (y 0, 3, .inl frf))] [1, 2] [0] := ⟨rfl, rfl, rfl, rfl, rfl, by decide⟩
                refine kw_go_i hs451 hP hD hS hA (va_runV (As := []) (rest := [.int (nI j92)]) ⟨hx, hb, hml, hown, hts⟩ (gr_manyGleaners l D y mo to ke ik mrf ha r0 mbr mbp mby an va mab mbl bl ta tl tk vv ft fi 2 mi no un hk0_ hk1_ hk2_ hk3_ hk4_ hkt hfi hgl hmi hno hun _) (cwV 0 hts gX11_enough_X11_manyGleaners rfl rfl rfl (by decide +kernel) ⟨Nat.le_of_ble_eq_true rfl, Nat.le_of_ble_eq_true rfl⟩) (kw_PreV (ci := 11) (q0 := 1) hs451 hP hD hK hN rfl rfl) rfl rfl hl.1 rfl (lv_room (Nat.le_of_ble_eq_true rfl)) dX11_enough_42 ⟨Nat.le_of_ble_eq_true rfl, Nat.le_of_ble_eq_true rfl⟩) (fun r452 u453 H locs hq hP hD hS => ?_)
                obtain rfl := hq
                have hP : va_P D vwCl [(mrf, .inl (y 0, 3, .inl frf)), (mo, .inr (11, [.ref to, .ref ke, .ref ik, .ref mrf, .long mab, .long mbl, .ref ha, .ref r0, .ref mbr, .ref mbp, .ref mby, .int (nI bl), .int (nI ta), .int (nI tl), .int (nI tk), .int vv, .ref an, .ref va])), (to, .inl (y 0, 228, .inl ft))] H := hP
                have hD : va_D A [(mrf, .inl (y 0, 3, .inl frf)), (mo, .inr (11, [.ref to, .ref ke, .ref ik, .ref mrf, .long mab, .long mbl, .ref ha, .ref r0, .ref mbr, .ref mbp, .ref mby, .int (nI bl), .int (nI ta), .int (nI tl), .int (nI tk), .int vv, .ref an, .ref va])), (to, .inl (y 0, 228, .inl ft))] := hD
                refine lv_icmp_ge (tgt := 82) hx hb dX11_enough_45 (by decide) (fun h454 => ?_) (fun h455 => ?_)
                · skip
                  have h454 : 2 ≤ j92 := (nI_leI (a := 2) (b := j92) (by omega) (by omega)).mp h454
                  refine lv_iload hx hb dX11_enough_82 (lv_at hl 1 rfl) ?_
                  refine lv_iload_n hx hb dX11_enough_84 rfl (lv_at hl 5 rfl) ?_
                  refine lv_icmp_lt (tgt := 108) hx hb dX11_enough_85 (by decide) (fun h456 => ?_) (fun h457 => ?_)
                  · skip
                    refine lv_iload_n hx hb dX11_enough_108 rfl (lv_at hl 3 rfl) ?_
                    refine lv_istore_n (lv' := [(2, .int x331), (5, .int (nI j92)), (4, .int x429), (3, .int (nI j91)), (0, .ref mo), (1, .int (nI j4))]) hx hb dX11_enough_109 rfl hl (by decide) rfl (fun ls hl => ?_)
                    refine lv_iinc (v := (nI (j91 + 1))) (lv' := [(3, .int (nI (j91 + 1))), (2, .int x331), (5, .int (nI j92)), (4, .int x429), (0, .ref mo), (1, .int (nI j4))]) hx hb dX11_enough_110 hl (k := 3) rfl (nI_1 j91) (by decide) rfl (fun ls hl => ?_)
                    refine lv_goto (tgt := 23) hx hb dX11_enough_113 (by decide) ?_
                    exact ihj91 (j91 + 1) x331 H locs ls (by omega) (by omega)  (hP.sub [1, 0, 2] rfl) (hD.sub [1, 0, 2] (by decide) rfl) hS (lv_sub hl [0, 1, 4, 5] rfl)
                  · skip
                    refine lv_iload_n hx hb dX11_enough_88 rfl (lv_at hl 3 rfl) ?_
                    refine lv_iconst (v := (-1)) hx hb dX11_enough_89 (by decide) ?_
                    refine lv_icmp_eq (tgt := 104) hx hb dX11_enough_90 (by decide) (fun h458 => ?_) (fun h459 => ?_)
                    · skip
                      refine lv_iload_n hx hb dX11_enough_104 rfl (lv_at hl 2 rfl) ?_
                      refine lv_goto (tgt := 109) hx hb dX11_enough_105 (by decide) ?_
                      refine lv_istore_n (lv' := [(2, .int (nI j91)), (5, .int (nI j92)), (4, .int x429), (3, .int (nI j91)), (0, .ref mo), (1, .int (nI j4))]) hx hb dX11_enough_109 rfl hl (by decide) rfl (fun ls hl => ?_)
                      refine lv_iinc (v := (nI (j91 + 1))) (lv' := [(3, .int (nI (j91 + 1))), (2, .int (nI j91)), (5, .int (nI j92)), (4, .int x429), (0, .ref mo), (1, .int (nI j4))]) hx hb dX11_enough_110 hl (k := 3) rfl (nI_1 j91) (by decide) rfl (fun ls hl => ?_)
                      refine lv_goto (tgt := 23) hx hb dX11_enough_113 (by decide) ?_
                      exact ihj91 (j91 + 1) (nI j91) H locs ls (by omega) (by omega)  (hP.sub [1, 0, 2] rfl) (hD.sub [1, 0, 2] (by decide) rfl) hS (lv_sub hl [0, 1, 4, 5] rfl)
                    · skip
                      refine lv_iload_n hx hb dX11_enough_93 rfl (lv_at hl 2 rfl) ?_
                      have hs460 : kw_Split [(mrf, .inl (y 0, 3, .inl frf)), (mo, .inr (11, [.ref to, .ref ke, .ref ik, .ref mrf, .long mab, .long mbl, .ref ha, .ref r0, .ref mbr, .ref mbp, .ref mby, .int (nI bl), .int (nI ta), .int (nI tl), .int (nI tk), .int vv, .ref an, .ref va])), (to, .inl (y 0, 228, .inl ft))] [] [(mrf, .inl (y 0, 3, .inl frf)), (mo, .inr (11, [.ref to, .ref ke, .ref ik, .ref mrf, .long mab, .long mbl, .ref ha, .ref r0, .ref mbr, .ref mbp, .ref mby, .int (nI bl), .int (nI ta), .int (nI tl), .int (nI tk), .int vv, .ref an, .ref va])), (to, .inl (y 0, 228, .inl ft))] [] [0, 1, 2] := ⟨rfl, rfl, rfl, rfl, rfl, by decide⟩
                      refine kw_go_i hs460 hP hD hS hA (va_runS (As := [.int (nI j91)]) (rest := []) ⟨hx, hb, hml, hown, hts⟩ (gr_bits l D y (nI j91)  _) (va_cwS 1 hts gX11_enough_X11_bits rfl rfl rfl (by decide +kernel) ⟨Nat.le_of_ble_eq_true rfl, Nat.le_of_ble_eq_true rfl⟩) (kw_PreS hs460 hP hD hK hN) rfl rfl hl.1 rfl (lv_room (Nat.le_of_ble_eq_true rfl)) dX11_enough_94 ⟨Nat.le_of_ble_eq_true rfl, Nat.le_of_ble_eq_true rfl⟩) (fun r461 u462 H locs hq hP hD hS => ?_)
                      have hP : va_P D vwCl [(mrf, .inl (y 0, 3, .inl frf)), (mo, .inr (11, [.ref to, .ref ke, .ref ik, .ref mrf, .long mab, .long mbl, .ref ha, .ref r0, .ref mbr, .ref mbp, .ref mby, .int (nI bl), .int (nI ta), .int (nI tl), .int (nI tk), .int vv, .ref an, .ref va])), (to, .inl (y 0, 228, .inl ft))] H := hP
                      have hD : va_D A [(mrf, .inl (y 0, 3, .inl frf)), (mo, .inr (11, [.ref to, .ref ke, .ref ik, .ref mrf, .long mab, .long mbl, .ref ha, .ref r0, .ref mbr, .ref mbp, .ref mby, .int (nI bl), .int (nI ta), .int (nI tl), .int (nI tk), .int vv, .ref an, .ref va])), (to, .inl (y 0, 228, .inl ft))] := hD
                      refine lv_iload_n hx hb dX11_enough_97 rfl (lv_at hl 3 rfl) ?_
                      have hs463 : kw_Split [(mrf, .inl (y 0, 3, .inl frf)), (mo, .inr (11, [.ref to, .ref ke, .ref ik, .ref mrf, .long mab, .long mbl, .ref ha, .ref r0, .ref mbr, .ref mbp, .ref mby, .int (nI bl), .int (nI ta), .int (nI tl), .int (nI tk), .int vv, .ref an, .ref va])), (to, .inl (y 0, 228, .inl ft))] [] [(mrf, .inl (y 0, 3, .inl frf)), (mo, .inr (11, [.ref to, .ref ke, .ref ik, .ref mrf, .long mab, .long mbl, .ref ha, .ref r0, .ref mbr, .ref mbp, .ref mby, .int (nI bl), .int (nI ta), .int (nI tl), .int (nI tk), .int vv, .ref an, .ref va])), (to, .inl (y 0, 228, .inl ft))] [] [0, 1, 2] := ⟨rfl, rfl, rfl, rfl, rfl, by decide⟩
                      refine kw_go_i hs463 hP hD hS hA (va_runS (As := [.int x331]) (rest := [.int r461]) ⟨hx, hb, hml, hown, hts⟩ (gr_bits l D y x331  _) (va_cwS 1 hts gX11_enough_X11_bits rfl rfl rfl (by decide +kernel) ⟨Nat.le_of_ble_eq_true rfl, Nat.le_of_ble_eq_true rfl⟩) (kw_PreS hs463 hP hD hK hN) rfl rfl hl.1 rfl (lv_room (Nat.le_of_ble_eq_true rfl)) dX11_enough_98 ⟨Nat.le_of_ble_eq_true rfl, Nat.le_of_ble_eq_true rfl⟩) (fun r464 u465 H locs hq hP hD hS => ?_)
                      have hP : va_P D vwCl [(mrf, .inl (y 0, 3, .inl frf)), (mo, .inr (11, [.ref to, .ref ke, .ref ik, .ref mrf, .long mab, .long mbl, .ref ha, .ref r0, .ref mbr, .ref mbp, .ref mby, .int (nI bl), .int (nI ta), .int (nI tl), .int (nI tk), .int vv, .ref an, .ref va])), (to, .inl (y 0, 228, .inl ft))] H := hP
                      have hD : va_D A [(mrf, .inl (y 0, 3, .inl frf)), (mo, .inr (11, [.ref to, .ref ke, .ref ik, .ref mrf, .long mab, .long mbl, .ref ha, .ref r0, .ref mbr, .ref mbp, .ref mby, .int (nI bl), .int (nI ta), .int (nI tl), .int (nI tk), .int vv, .ref an, .ref va])), (to, .inl (y 0, 228, .inl ft))] := hD
                      refine lv_icmp_ge (tgt := 108) hx hb dX11_enough_101 (by decide) (fun h466 => ?_) (fun h467 => ?_)
                      · skip
                        refine lv_iload_n hx hb dX11_enough_108 rfl (lv_at hl 3 rfl) ?_
                        refine lv_istore_n (lv' := [(2, .int x331), (5, .int (nI j92)), (4, .int x429), (3, .int (nI j91)), (0, .ref mo), (1, .int (nI j4))]) hx hb dX11_enough_109 rfl hl (by decide) rfl (fun ls hl => ?_)
                        refine lv_iinc (v := (nI (j91 + 1))) (lv' := [(3, .int (nI (j91 + 1))), (2, .int x331), (5, .int (nI j92)), (4, .int x429), (0, .ref mo), (1, .int (nI j4))]) hx hb dX11_enough_110 hl (k := 3) rfl (nI_1 j91) (by decide) rfl (fun ls hl => ?_)
                        refine lv_goto (tgt := 23) hx hb dX11_enough_113 (by decide) ?_
                        exact ihj91 (j91 + 1) x331 H locs ls (by omega) (by omega)  (hP.sub [1, 0, 2] rfl) (hD.sub [1, 0, 2] (by decide) rfl) hS (lv_sub hl [0, 1, 4, 5] rfl)
                      · skip
                        refine lv_iload_n hx hb dX11_enough_104 rfl (lv_at hl 2 rfl) ?_
                        refine lv_goto (tgt := 109) hx hb dX11_enough_105 (by decide) ?_
                        refine lv_istore_n (lv' := [(2, .int (nI j91)), (5, .int (nI j92)), (4, .int x429), (3, .int (nI j91)), (0, .ref mo), (1, .int (nI j4))]) hx hb dX11_enough_109 rfl hl (by decide) rfl (fun ls hl => ?_)
                        refine lv_iinc (v := (nI (j91 + 1))) (lv' := [(3, .int (nI (j91 + 1))), (2, .int (nI j91)), (5, .int (nI j92)), (4, .int x429), (0, .ref mo), (1, .int (nI j4))]) hx hb dX11_enough_110 hl (k := 3) rfl (nI_1 j91) (by decide) rfl (fun ls hl => ?_)
                        refine lv_goto (tgt := 23) hx hb dX11_enough_113 (by decide) ?_
                        exact ihj91 (j91 + 1) (nI j91) H locs ls (by omega) (by omega)  (hP.sub [1, 0, 2] rfl) (hD.sub [1, 0, 2] (by decide) rfl) hS (lv_sub hl [0, 1, 4, 5] rfl)
                · skip
                  have h455 : ¬ 2 ≤ j92 := fun q9 => h455 ((nI_leI (a := 2) (b := j92) (by omega) (by omega)).mpr q9)
                  refine lv_iload hx hb dX11_enough_48 (lv_at hl 1 rfl) ?_
                  refine lv_iload_n hx hb dX11_enough_50 rfl (lv_at hl 2 rfl) ?_
                  refine lv_iload hx hb dX11_enough_51 (lv_at hl 0 rfl) ?_
                  have hs468 : kw_Split [(mrf, .inl (y 0, 3, .inl frf)), (mo, .inr (11, [.ref to, .ref ke, .ref ik, .ref mrf, .long mab, .long mbl, .ref ha, .ref r0, .ref mbr, .ref mbp, .ref mby, .int (nI bl), .int (nI ta), .int (nI tl), .int (nI tk), .int vv, .ref an, .ref va])), (to, .inl (y 0, 228, .inl ft))] [] [(mrf, .inl (y 0, 3, .inl frf)), (mo, .inr (11, [.ref to, .ref ke, .ref ik, .ref mrf, .long mab, .long mbl, .ref ha, .ref r0, .ref mbr, .ref mbp, .ref mby, .int (nI bl), .int (nI ta), .int (nI tl), .int (nI tk), .int vv, .ref an, .ref va])), (to, .inl (y 0, 228, .inl ft))] [] [0, 1, 2] := ⟨rfl, rfl, rfl, rfl, rfl, by decide⟩
                  refine kw_go_i hs468 hP hD hS hA (va_runS (As := [.int (nI j91), .int (nI j92)]) (rest := [.int x429]) ⟨hx, hb, hml, hown, hts⟩ (gr_has l D y (nI j91) (nI j92)  _) (va_cwS 2 hts gX11_enough_X11_has rfl rfl rfl (by decide +kernel) ⟨Nat.le_of_ble_eq_true rfl, Nat.le_of_ble_eq_true rfl⟩) (kw_PreS hs468 hP hD hK hN) rfl rfl hl.1 rfl (lv_room (Nat.le_of_ble_eq_true rfl)) dX11_enough_53 ⟨Nat.le_of_ble_eq_true rfl, Nat.le_of_ble_eq_true rfl⟩) (fun r469 u470 H locs hq hP hD hS => ?_)
                  obtain (rfl | rfl) := hq
                  · skip
                    have hP : va_P D vwCl [(mrf, .inl (y 0, 3, .inl frf)), (mo, .inr (11, [.ref to, .ref ke, .ref ik, .ref mrf, .long mab, .long mbl, .ref ha, .ref r0, .ref mbr, .ref mbp, .ref mby, .int (nI bl), .int (nI ta), .int (nI tl), .int (nI tk), .int vv, .ref an, .ref va])), (to, .inl (y 0, 228, .inl ft))] H := hP
                    have hD : va_D A [(mrf, .inl (y 0, 3, .inl frf)), (mo, .inr (11, [.ref to, .ref ke, .ref ik, .ref mrf, .long mab, .long mbl, .ref ha, .ref r0, .ref mbr, .ref mbp, .ref mby, .int (nI bl), .int (nI ta), .int (nI tl), .int (nI tk), .int vv, .ref an, .ref va])), (to, .inl (y 0, 228, .inl ft))] := hD
                    refine lv_if_eq (tgt := 72) hx hb dX11_enough_56 (by decide) (fun _ => ?_) (fun h9 => absurd h9 (by decide))
                    refine lv_iconst (v := 0) hx hb dX11_enough_72 (by decide) ?_
                    refine lv_iadd hx hb dX11_enough_73 ?_
                    refine lv_istore (lv' := [(4, .int (x429 + 0)), (5, .int (nI j92)), (3, .int (nI j91)), (2, .int x331), (0, .ref mo), (1, .int (nI j4))]) hx hb dX11_enough_74 hl (by decide) rfl (fun ls hl => ?_)
                    refine lv_iinc (v := (nI (j92 + 1))) (lv' := [(5, .int (nI (j92 + 1))), (4, .int (x429 + 0)), (3, .int (nI j91)), (2, .int x331), (0, .ref mo), (1, .int (nI j4))]) hx hb dX11_enough_76 hl (k := 1) rfl (nI_1 j92) (by decide) rfl (fun ls hl => ?_)
                    refine lv_goto (tgt := 39) hx hb dX11_enough_79 (by decide) ?_
                    exact ihj92 (j92 + 1) (x429 + 0) H locs ls (by omega) (by omega)  (hP.sub [0, 1, 2] rfl) (hD.sub [0, 1, 2] (by decide) rfl) hS (lv_sub hl [0, 1, 2, 3, 4, 5] rfl)
                  · skip
                    have hP : va_P D vwCl [(mrf, .inl (y 0, 3, .inl frf)), (mo, .inr (11, [.ref to, .ref ke, .ref ik, .ref mrf, .long mab, .long mbl, .ref ha, .ref r0, .ref mbr, .ref mbp, .ref mby, .int (nI bl), .int (nI ta), .int (nI tl), .int (nI tk), .int vv, .ref an, .ref va])), (to, .inl (y 0, 228, .inl ft))] H := hP
                    have hD : va_D A [(mrf, .inl (y 0, 3, .inl frf)), (mo, .inr (11, [.ref to, .ref ke, .ref ik, .ref mrf, .long mab, .long mbl, .ref ha, .ref r0, .ref mbr, .ref mbp, .ref mby, .int (nI bl), .int (nI ta), .int (nI tl), .int (nI tk), .int vv, .ref an, .ref va])), (to, .inl (y 0, 228, .inl ft))] := hD
                    refine lv_if_eq (tgt := 72) hx hb dX11_enough_56 (by decide) (fun h9 => absurd h9 (by decide)) (fun _ => ?_)
                    refine lv_aload_n hx hb dX11_enough_59 rfl (lv_at hl 4 rfl) ?_
                    refine va_get (D := D) (ci := 11) (v := .ref to) (C := RX11) (T := TX11) (N := 18) hx hb hts iw11 hown hK hP 1 rfl rfl 0 (by decide) fw2 (fun _ h9 => h9) rfl dX11_enough_60 ?_
                    refine lv_bipush (v := 16) hx hb dX11_enough_63 (by decide) ?_
                    refine lv_iload hx hb dX11_enough_65 (lv_at hl 0 rfl) ?_
                    refine lv_iadd hx hb dX11_enough_67 ?_
                    rw [show 16 + (nI j92) = nI (j92 + 16) from (nI_add 16 j92).trans (congrArg nI (by omega))]
                    refine va_iald hx hb hK hP 2 0 rfl rfl (vp_in_nI (by omega) (by decide)) dX11_enough_68 ?_
                    rw [nI_clamp (n := (j92 + 16)) (by omega)]
                    refine lv_goto (tgt := 73) hx hb dX11_enough_69 (by decide) ?_
                    refine lv_iadd hx hb dX11_enough_73 ?_
                    refine lv_istore (lv' := [(4, .int (x429 + (ft (j92 + 16)))), (5, .int (nI j92)), (3, .int (nI j91)), (2, .int x331), (0, .ref mo), (1, .int (nI j4))]) hx hb dX11_enough_74 hl (by decide) rfl (fun ls hl => ?_)
                    refine lv_iinc (v := (nI (j92 + 1))) (lv' := [(5, .int (nI (j92 + 1))), (4, .int (x429 + (ft (j92 + 16)))), (3, .int (nI j91)), (2, .int x331), (0, .ref mo), (1, .int (nI j4))]) hx hb dX11_enough_76 hl (k := 1) rfl (nI_1 j92) (by decide) rfl (fun ls hl => ?_)
                    refine lv_goto (tgt := 39) hx hb dX11_enough_79 (by decide) ?_
                    exact ihj92 (j92 + 1) (x429 + (ft (j92 + 16))) H locs ls (by omega) (by omega)  (hP.sub [0, 1, 2] rfl) (hD.sub [0, 1, 2] (by decide) rfl) hS (lv_sub hl [0, 1, 2, 3, 4, 5] rfl)
            exact lp450 (2 + 1) 0 0 _ _ _ (by omega) (by omega)  hP hD hS (lv_sub hl [0, 1, 2, 3, 4, 5] rfl)
      exact lp401 (4 + 1) 0 (-1) _ _ _ (by omega) (by omega)  hP hD hS (lv_sub hl [0, 1, 2, 3] rfl)
    · skip
      refine lv_iconst (v := 0) hx hb dX11_enough_21 (by decide) ?_
      refine lv_istore_n (lv' := [(3, .int 0), (2, .int (-1)), (0, .ref mo), (1, .int (nI j4))]) hx hb dX11_enough_22 rfl hl (by decide) rfl (fun ls hl => ?_)
      have lp580 : ∀ (fuj91 j91 : Nat) (x510 : Int32) (H : Heap) (locs : List Loc) (ls : Array Slot), j91 ≤ 8 → 8 - j91 < fuj91 → va_P D vwCl [(mo, .inr (11, [.ref to, .ref ke, .ref ik, .ref mrf, .long mab, .long mbl, .ref ha, .ref r0, .ref mbr, .ref mbp, .ref mby, .int (nI bl), .int (nI ta), .int (nI tl), .int (nI tk), .int vv, .ref an, .ref va])), (mrf, .inl (y 0, 3, .inl frf)), (to, .inl (y 0, 228, .inl ft))] H → va_D A [(mo, .inr (11, [.ref to, .ref ke, .ref ik, .ref mrf, .long mab, .long mbl, .ref ha, .ref r0, .ref mbr, .ref mbp, .ref mby, .int (nI bl), .int (nI ta), .int (nI tl), .int (nI tk), .int vv, .ref an, .ref va])), (mrf, .inl (y 0, 3, .inl frf)), (to, .inl (y 0, 228, .inl ft))] → va_S A s.heap H locs → lv_has ls 6 [(3, .int (nI j91)), (2, .int x510), (0, .ref mo), (1, .int (nI j4))] → W pZ l eZ ({ frames := 2, cells := 0, slots := 0, locals := 85 }) s mZ [.ref mo, .int (nI j4)].toArray beZ meZ cZ H locs 0 0 (MQ beZ (va_Qi (fun (r : Int32) (u : (Nat → Int32)) => (3 = 0 ∨ 0 < fi)) (kw_B D (fun u => [(mo, .inr (11, [.ref to, .ref ke, .ref ik, .ref mrf, .long mab, .long mbl, .ref ha, .ref r0, .ref mbr, .ref mbp, .ref mby, .int (nI bl), .int (nI ta), .int (nI tl), .int (nI tk), .int vv, .ref an, .ref va])), (mrf, .inl (y 0, 3, .inl u)), (to, .inl (y 0, 228, .inl ft))]) A) A) [.ref mo, .int (nI j4)].toArray s 0 0 A) (F0 mZ 23 ls []) := by
        intro fuj91
        induction fuj91 with
        | zero => intro j91 x510 H locs ls hj9 hf9; exact absurd hf9 (Nat.not_lt_zero _)
        | succ fuj91 ihj91 =>
          intro j91 x510 H locs ls hj91 hfj91  hP hD hS hl
          refine lv_iload_n hx hb dX11_enough_23 rfl (lv_at hl 0 rfl) ?_
          refine lv_iconst (v := 1) hx hb dX11_enough_24 (by decide) ?_
          refine lv_aload_n hx hb dX11_enough_25 rfl (lv_at hl 2 rfl) ?_
          have hs581 : kw_Split [(mo, .inr (11, [.ref to, .ref ke, .ref ik, .ref mrf, .long mab, .long mbl, .ref ha, .ref r0, .ref mbr, .ref mbp, .ref mby, .int (nI bl), .int (nI ta), .int (nI tl), .int (nI tk), .int vv, .ref an, .ref va])), (mrf, .inl (y 0, 3, .inl frf)), (to, .inl (y 0, 228, .inl ft))] [(mo, .inr (11, [.ref to, .ref ke, .ref ik, .ref mrf, .long mab, .long mbl, .ref ha, .ref r0, .ref mbr, .ref mbp, .ref mby, .int (nI bl), .int (nI ta), .int (nI tl), .int (nI tk), .int vv, .ref an, .ref va])), (to, .inl (y 0, 228, .inl ft))] [(mrf, .inl (y 0, 3, .inl frf))] [0, 2] [1] := ⟨rfl, rfl, rfl, rfl, rfl, by decide⟩
          refine kw_go_i hs581 hP hD hS hA (va_runV (As := []) (rest := [.int 1, .int (nI j91)]) ⟨hx, hb, hml, hown, hts⟩ (gr_manyGleaners l D y mo to ke ik mrf ha r0 mbr mbp mby an va mab mbl bl ta tl tk vv ft fi 3 mi no un hk0_ hk1_ hk2_ hk3_ hk4_ hkt hfi hgl hmi hno hun _) (cwV 0 hts gX11_enough_X11_manyGleaners rfl rfl rfl (by decide +kernel) ⟨Nat.le_of_ble_eq_true rfl, Nat.le_of_ble_eq_true rfl⟩) (kw_PreV (ci := 11) (q0 := 0) hs581 hP hD hK hN rfl rfl) rfl rfl hl.1 rfl (lv_room (Nat.le_of_ble_eq_true rfl)) dX11_enough_26 ⟨Nat.le_of_ble_eq_true rfl, Nat.le_of_ble_eq_true rfl⟩) (fun r582 u583 H locs hq hP hD hS => ?_)
          obtain rfl := hq
          have hP : va_P D vwCl [(mrf, .inl (y 0, 3, .inl frf)), (mo, .inr (11, [.ref to, .ref ke, .ref ik, .ref mrf, .long mab, .long mbl, .ref ha, .ref r0, .ref mbr, .ref mbp, .ref mby, .int (nI bl), .int (nI ta), .int (nI tl), .int (nI tk), .int vv, .ref an, .ref va])), (to, .inl (y 0, 228, .inl ft))] H := hP
          have hD : va_D A [(mrf, .inl (y 0, 3, .inl frf)), (mo, .inr (11, [.ref to, .ref ke, .ref ik, .ref mrf, .long mab, .long mbl, .ref ha, .ref r0, .ref mbr, .ref mbp, .ref mby, .int (nI bl), .int (nI ta), .int (nI tl), .int (nI tk), .int vv, .ref an, .ref va])), (to, .inl (y 0, 228, .inl ft))] := hD
          refine lv_ishl hx hb dX11_enough_29 ?_
          refine lv_topi (fun z584 hz584 => ?_)
          obtain rfl : z584 = 8 := hz584.trans (by decide)
          refine lv_icmp_ge (tgt := 116) hx hb dX11_enough_30 (by decide) (fun h585 => ?_) (fun h586 => ?_)
          · skip
            have h585 : 8 ≤ j91 := (nI_leI (a := 8) (b := j91) (by omega) (by omega)).mp h585
            refine lv_iload_n hx hb dX11_enough_116 rfl (lv_at hl 1 rfl) ?_
            exact W.iret (v := x510) hx hb hr (fun tZ ht hW => ⟨⟨x510, (frf), rfl, by first | omega | (dsimp only; omega), by rw [ht]; exact hP.sub [1, 0, 2] rfl, hD.sub [1, 0, 2] (by decide) rfl⟩, hS.F ht⟩) hS.2.2 dX11_enough_117
          · skip
            have h586 : ¬ 8 ≤ j91 := fun q9 => h586 ((nI_leI (a := 8) (b := j91) (by omega) (by omega)).mpr q9)
            refine lv_iconst (v := 0) hx hb dX11_enough_33 (by decide) ?_
            refine lv_istore (lv' := [(4, .int 0), (3, .int (nI j91)), (2, .int x510), (0, .ref mo), (1, .int (nI j4))]) hx hb dX11_enough_34 hl (by decide) rfl (fun ls hl => ?_)
            refine lv_iconst (v := 0) hx hb dX11_enough_36 (by decide) ?_
            refine lv_istore (lv' := [(5, .int 0), (4, .int 0), (3, .int (nI j91)), (2, .int x510), (0, .ref mo), (1, .int (nI j4))]) hx hb dX11_enough_37 hl (by decide) rfl (fun ls hl => ?_)
            have lp629 : ∀ (fuj92 j92 : Nat) (x608 : Int32) (H : Heap) (locs : List Loc) (ls : Array Slot), j92 ≤ 3 → 3 - j92 < fuj92 → va_P D vwCl [(mrf, .inl (y 0, 3, .inl frf)), (mo, .inr (11, [.ref to, .ref ke, .ref ik, .ref mrf, .long mab, .long mbl, .ref ha, .ref r0, .ref mbr, .ref mbp, .ref mby, .int (nI bl), .int (nI ta), .int (nI tl), .int (nI tk), .int vv, .ref an, .ref va])), (to, .inl (y 0, 228, .inl ft))] H → va_D A [(mrf, .inl (y 0, 3, .inl frf)), (mo, .inr (11, [.ref to, .ref ke, .ref ik, .ref mrf, .long mab, .long mbl, .ref ha, .ref r0, .ref mbr, .ref mbp, .ref mby, .int (nI bl), .int (nI ta), .int (nI tl), .int (nI tk), .int vv, .ref an, .ref va])), (to, .inl (y 0, 228, .inl ft))] → va_S A s.heap H locs → lv_has ls 6 [(5, .int (nI j92)), (4, .int x608), (3, .int (nI j91)), (2, .int x510), (0, .ref mo), (1, .int (nI j4))] → W pZ l eZ ({ frames := 2, cells := 0, slots := 0, locals := 85 }) s mZ [.ref mo, .int (nI j4)].toArray beZ meZ cZ H locs 0 0 (MQ beZ (va_Qi (fun (r : Int32) (u : (Nat → Int32)) => (3 = 0 ∨ 0 < fi)) (kw_B D (fun u => [(mo, .inr (11, [.ref to, .ref ke, .ref ik, .ref mrf, .long mab, .long mbl, .ref ha, .ref r0, .ref mbr, .ref mbp, .ref mby, .int (nI bl), .int (nI ta), .int (nI tl), .int (nI tk), .int vv, .ref an, .ref va])), (mrf, .inl (y 0, 3, .inl u)), (to, .inl (y 0, 228, .inl ft))]) A) A) [.ref mo, .int (nI j4)].toArray s 0 0 A) (F0 mZ 39 ls []) := by
              intro fuj92
              induction fuj92 with
              | zero => intro j92 x608 H locs ls hj9 hf9; exact absurd hf9 (Nat.not_lt_zero _)
              | succ fuj92 ihj92 =>
                intro j92 x608 H locs ls hj92 hfj92  hP hD hS hl
                refine lv_iload hx hb dX11_enough_39 (lv_at hl 0 rfl) ?_
                refine lv_aload_n hx hb dX11_enough_41 rfl (lv_at hl 4 rfl) ?_
                have hs630 : kw_Split [(mrf, .inl (y 0, 3, .inl frf)), (mo, .inr (11, [.ref to, .ref ke, .ref ik, .ref mrf, .long mab, .long mbl, .ref ha, .ref r0, .ref mbr, .ref mbp, .ref mby, .int (nI bl), .int (nI ta), .int (nI tl), .int (nI tk), .int vv, .ref an, .ref va])), (to, .inl (y 0, 228, .inl ft))] [(mo, .inr (11, [.ref to, .ref ke, .ref ik, .ref mrf, .long mab, .long mbl, .ref ha, .ref r0, .ref mbr, .ref mbp, .ref mby, .int (nI bl), .int (nI ta), .int (nI tl), .int (nI tk), .int vv, .ref an, .ref va])), (to, .inl (y 0, 228, .inl ft))] [(mrf, .inl (y 0, 3, .inl frf))] [1, 2] [0] := ⟨rfl, rfl, rfl, rfl, rfl, by decide⟩
                refine kw_go_i hs630 hP hD hS hA (va_runV (As := []) (rest := [.int (nI j92)]) ⟨hx, hb, hml, hown, hts⟩ (gr_manyGleaners l D y mo to ke ik mrf ha r0 mbr mbp mby an va mab mbl bl ta tl tk vv ft fi 3 mi no un hk0_ hk1_ hk2_ hk3_ hk4_ hkt hfi hgl hmi hno hun _) (cwV 0 hts gX11_enough_X11_manyGleaners rfl rfl rfl (by decide +kernel) ⟨Nat.le_of_ble_eq_true rfl, Nat.le_of_ble_eq_true rfl⟩) (kw_PreV (ci := 11) (q0 := 1) hs630 hP hD hK hN rfl rfl) rfl rfl hl.1 rfl (lv_room (Nat.le_of_ble_eq_true rfl)) dX11_enough_42 ⟨Nat.le_of_ble_eq_true rfl, Nat.le_of_ble_eq_true rfl⟩) (fun r631 u632 H locs hq hP hD hS => ?_)
                obtain rfl := hq
                have hP : va_P D vwCl [(mrf, .inl (y 0, 3, .inl frf)), (mo, .inr (11, [.ref to, .ref ke, .ref ik, .ref mrf, .long mab, .long mbl, .ref ha, .ref r0, .ref mbr, .ref mbp, .ref mby, .int (nI bl), .int (nI ta), .int (nI tl), .int (nI tk), .int vv, .ref an, .ref va])), (to, .inl (y 0, 228, .inl ft))] H := hP
                have hD : va_D A [(mrf, .inl (y 0, 3, .inl frf)), (mo, .inr (11, [.ref to, .ref ke, .ref ik, .ref mrf, .long mab, .long mbl, .ref ha, .ref r0, .ref mbr, .ref mbp, .ref mby, .int (nI bl), .int (nI ta), .int (nI tl), .int (nI tk), .int vv, .ref an, .ref va])), (to, .inl (y 0, 228, .inl ft))] := hD
                refine lv_icmp_ge (tgt := 82) hx hb dX11_enough_45 (by decide) (fun h633 => ?_) (fun h634 => ?_)
                · skip
                  have h633 : 3 ≤ j92 := (nI_leI (a := 3) (b := j92) (by omega) (by omega)).mp h633
                  refine lv_iload hx hb dX11_enough_82 (lv_at hl 1 rfl) ?_
                  refine lv_iload_n hx hb dX11_enough_84 rfl (lv_at hl 5 rfl) ?_
                  refine lv_icmp_lt (tgt := 108) hx hb dX11_enough_85 (by decide) (fun h635 => ?_) (fun h636 => ?_)
                  · skip
                    refine lv_iload_n hx hb dX11_enough_108 rfl (lv_at hl 3 rfl) ?_
                    refine lv_istore_n (lv' := [(2, .int x510), (5, .int (nI j92)), (4, .int x608), (3, .int (nI j91)), (0, .ref mo), (1, .int (nI j4))]) hx hb dX11_enough_109 rfl hl (by decide) rfl (fun ls hl => ?_)
                    refine lv_iinc (v := (nI (j91 + 1))) (lv' := [(3, .int (nI (j91 + 1))), (2, .int x510), (5, .int (nI j92)), (4, .int x608), (0, .ref mo), (1, .int (nI j4))]) hx hb dX11_enough_110 hl (k := 3) rfl (nI_1 j91) (by decide) rfl (fun ls hl => ?_)
                    refine lv_goto (tgt := 23) hx hb dX11_enough_113 (by decide) ?_
                    exact ihj91 (j91 + 1) x510 H locs ls (by omega) (by omega)  (hP.sub [1, 0, 2] rfl) (hD.sub [1, 0, 2] (by decide) rfl) hS (lv_sub hl [0, 1, 4, 5] rfl)
                  · skip
                    refine lv_iload_n hx hb dX11_enough_88 rfl (lv_at hl 3 rfl) ?_
                    refine lv_iconst (v := (-1)) hx hb dX11_enough_89 (by decide) ?_
                    refine lv_icmp_eq (tgt := 104) hx hb dX11_enough_90 (by decide) (fun h637 => ?_) (fun h638 => ?_)
                    · skip
                      refine lv_iload_n hx hb dX11_enough_104 rfl (lv_at hl 2 rfl) ?_
                      refine lv_goto (tgt := 109) hx hb dX11_enough_105 (by decide) ?_
                      refine lv_istore_n (lv' := [(2, .int (nI j91)), (5, .int (nI j92)), (4, .int x608), (3, .int (nI j91)), (0, .ref mo), (1, .int (nI j4))]) hx hb dX11_enough_109 rfl hl (by decide) rfl (fun ls hl => ?_)
                      refine lv_iinc (v := (nI (j91 + 1))) (lv' := [(3, .int (nI (j91 + 1))), (2, .int (nI j91)), (5, .int (nI j92)), (4, .int x608), (0, .ref mo), (1, .int (nI j4))]) hx hb dX11_enough_110 hl (k := 3) rfl (nI_1 j91) (by decide) rfl (fun ls hl => ?_)
                      refine lv_goto (tgt := 23) hx hb dX11_enough_113 (by decide) ?_
                      exact ihj91 (j91 + 1) (nI j91) H locs ls (by omega) (by omega)  (hP.sub [1, 0, 2] rfl) (hD.sub [1, 0, 2] (by decide) rfl) hS (lv_sub hl [0, 1, 4, 5] rfl)
                    · skip
                      refine lv_iload_n hx hb dX11_enough_93 rfl (lv_at hl 2 rfl) ?_
                      have hs639 : kw_Split [(mrf, .inl (y 0, 3, .inl frf)), (mo, .inr (11, [.ref to, .ref ke, .ref ik, .ref mrf, .long mab, .long mbl, .ref ha, .ref r0, .ref mbr, .ref mbp, .ref mby, .int (nI bl), .int (nI ta), .int (nI tl), .int (nI tk), .int vv, .ref an, .ref va])), (to, .inl (y 0, 228, .inl ft))] [] [(mrf, .inl (y 0, 3, .inl frf)), (mo, .inr (11, [.ref to, .ref ke, .ref ik, .ref mrf, .long mab, .long mbl, .ref ha, .ref r0, .ref mbr, .ref mbp, .ref mby, .int (nI bl), .int (nI ta), .int (nI tl), .int (nI tk), .int vv, .ref an, .ref va])), (to, .inl (y 0, 228, .inl ft))] [] [0, 1, 2] := ⟨rfl, rfl, rfl, rfl, rfl, by decide⟩
                      refine kw_go_i hs639 hP hD hS hA (va_runS (As := [.int (nI j91)]) (rest := []) ⟨hx, hb, hml, hown, hts⟩ (gr_bits l D y (nI j91)  _) (va_cwS 1 hts gX11_enough_X11_bits rfl rfl rfl (by decide +kernel) ⟨Nat.le_of_ble_eq_true rfl, Nat.le_of_ble_eq_true rfl⟩) (kw_PreS hs639 hP hD hK hN) rfl rfl hl.1 rfl (lv_room (Nat.le_of_ble_eq_true rfl)) dX11_enough_94 ⟨Nat.le_of_ble_eq_true rfl, Nat.le_of_ble_eq_true rfl⟩) (fun r640 u641 H locs hq hP hD hS => ?_)
                      have hP : va_P D vwCl [(mrf, .inl (y 0, 3, .inl frf)), (mo, .inr (11, [.ref to, .ref ke, .ref ik, .ref mrf, .long mab, .long mbl, .ref ha, .ref r0, .ref mbr, .ref mbp, .ref mby, .int (nI bl), .int (nI ta), .int (nI tl), .int (nI tk), .int vv, .ref an, .ref va])), (to, .inl (y 0, 228, .inl ft))] H := hP
                      have hD : va_D A [(mrf, .inl (y 0, 3, .inl frf)), (mo, .inr (11, [.ref to, .ref ke, .ref ik, .ref mrf, .long mab, .long mbl, .ref ha, .ref r0, .ref mbr, .ref mbp, .ref mby, .int (nI bl), .int (nI ta), .int (nI tl), .int (nI tk), .int vv, .ref an, .ref va])), (to, .inl (y 0, 228, .inl ft))] := hD
                      refine lv_iload_n hx hb dX11_enough_97 rfl (lv_at hl 3 rfl) ?_
                      have hs642 : kw_Split [(mrf, .inl (y 0, 3, .inl frf)), (mo, .inr (11, [.ref to, .ref ke, .ref ik, .ref mrf, .long mab, .long mbl, .ref ha, .ref r0, .ref mbr, .ref mbp, .ref mby, .int (nI bl), .int (nI ta), .int (nI tl), .int (nI tk), .int vv, .ref an, .ref va])), (to, .inl (y 0, 228, .inl ft))] [] [(mrf, .inl (y 0, 3, .inl frf)), (mo, .inr (11, [.ref to, .ref ke, .ref ik, .ref mrf, .long mab, .long mbl, .ref ha, .ref r0, .ref mbr, .ref mbp, .ref mby, .int (nI bl), .int (nI ta), .int (nI tl), .int (nI tk), .int vv, .ref an, .ref va])), (to, .inl (y 0, 228, .inl ft))] [] [0, 1, 2] := ⟨rfl, rfl, rfl, rfl, rfl, by decide⟩
                      refine kw_go_i hs642 hP hD hS hA (va_runS (As := [.int x510]) (rest := [.int r640]) ⟨hx, hb, hml, hown, hts⟩ (gr_bits l D y x510  _) (va_cwS 1 hts gX11_enough_X11_bits rfl rfl rfl (by decide +kernel) ⟨Nat.le_of_ble_eq_true rfl, Nat.le_of_ble_eq_true rfl⟩) (kw_PreS hs642 hP hD hK hN) rfl rfl hl.1 rfl (lv_room (Nat.le_of_ble_eq_true rfl)) dX11_enough_98 ⟨Nat.le_of_ble_eq_true rfl, Nat.le_of_ble_eq_true rfl⟩) (fun r643 u644 H locs hq hP hD hS => ?_)
                      have hP : va_P D vwCl [(mrf, .inl (y 0, 3, .inl frf)), (mo, .inr (11, [.ref to, .ref ke, .ref ik, .ref mrf, .long mab, .long mbl, .ref ha, .ref r0, .ref mbr, .ref mbp, .ref mby, .int (nI bl), .int (nI ta), .int (nI tl), .int (nI tk), .int vv, .ref an, .ref va])), (to, .inl (y 0, 228, .inl ft))] H := hP
                      have hD : va_D A [(mrf, .inl (y 0, 3, .inl frf)), (mo, .inr (11, [.ref to, .ref ke, .ref ik, .ref mrf, .long mab, .long mbl, .ref ha, .ref r0, .ref mbr, .ref mbp, .ref mby, .int (nI bl), .int (nI ta), .int (nI tl), .int (nI tk), .int vv, .ref an, .ref va])), (to, .inl (y 0, 228, .inl ft))] := hD
                      refine lv_icmp_ge (tgt := 108) hx hb dX11_enough_101 (by decide) (fun h645 => ?_) (fun h646 => ?_)
                      · skip
                        refine lv_iload_n hx hb dX11_enough_108 rfl (lv_at hl 3 rfl) ?_
                        refine lv_istore_n (lv' := [(2, .int x510), (5, .int (nI j92)), (4, .int x608), (3, .int (nI j91)), (0, .ref mo), (1, .int (nI j4))]) hx hb dX11_enough_109 rfl hl (by decide) rfl (fun ls hl => ?_)
                        refine lv_iinc (v := (nI (j91 + 1))) (lv' := [(3, .int (nI (j91 + 1))), (2, .int x510), (5, .int (nI j92)), (4, .int x608), (0, .ref mo), (1, .int (nI j4))]) hx hb dX11_enough_110 hl (k := 3) rfl (nI_1 j91) (by decide) rfl (fun ls hl => ?_)
                        refine lv_goto (tgt := 23) hx hb dX11_enough_113 (by decide) ?_
                        exact ihj91 (j91 + 1) x510 H locs ls (by omega) (by omega)  (hP.sub [1, 0, 2] rfl) (hD.sub [1, 0, 2] (by decide) rfl) hS (lv_sub hl [0, 1, 4, 5] rfl)
                      · skip
                        refine lv_iload_n hx hb dX11_enough_104 rfl (lv_at hl 2 rfl) ?_
                        refine lv_goto (tgt := 109) hx hb dX11_enough_105 (by decide) ?_
                        refine lv_istore_n (lv' := [(2, .int (nI j91)), (5, .int (nI j92)), (4, .int x608), (3, .int (nI j91)), (0, .ref mo), (1, .int (nI j4))]) hx hb dX11_enough_109 rfl hl (by decide) rfl (fun ls hl => ?_)
                        refine lv_iinc (v := (nI (j91 + 1))) (lv' := [(3, .int (nI (j91 + 1))), (2, .int (nI j91)), (5, .int (nI j92)), (4, .int x608), (0, .ref mo), (1, .int (nI j4))]) hx hb dX11_enough_110 hl (k := 3) rfl (nI_1 j91) (by decide) rfl (fun ls hl => ?_)
                        refine lv_goto (tgt := 23) hx hb dX11_enough_113 (by decide) ?_
                        exact ihj91 (j91 + 1) (nI j91) H locs ls (by omega) (by omega)  (hP.sub [1, 0, 2] rfl) (hD.sub [1, 0, 2] (by decide) rfl) hS (lv_sub hl [0, 1, 4, 5] rfl)
                · skip
                  have h634 : ¬ 3 ≤ j92 := fun q9 => h634 ((nI_leI (a := 3) (b := j92) (by omega) (by omega)).mpr q9)
                  refine lv_iload hx hb dX11_enough_48 (lv_at hl 1 rfl) ?_
                  refine lv_iload_n hx hb dX11_enough_50 rfl (lv_at hl 2 rfl) ?_
                  refine lv_iload hx hb dX11_enough_51 (lv_at hl 0 rfl) ?_
                  have hs647 : kw_Split [(mrf, .inl (y 0, 3, .inl frf)), (mo, .inr (11, [.ref to, .ref ke, .ref ik, .ref mrf, .long mab, .long mbl, .ref ha, .ref r0, .ref mbr, .ref mbp, .ref mby, .int (nI bl), .int (nI ta), .int (nI tl), .int (nI tk), .int vv, .ref an, .ref va])), (to, .inl (y 0, 228, .inl ft))] [] [(mrf, .inl (y 0, 3, .inl frf)), (mo, .inr (11, [.ref to, .ref ke, .ref ik, .ref mrf, .long mab, .long mbl, .ref ha, .ref r0, .ref mbr, .ref mbp, .ref mby, .int (nI bl), .int (nI ta), .int (nI tl), .int (nI tk), .int vv, .ref an, .ref va])), (to, .inl (y 0, 228, .inl ft))] [] [0, 1, 2] := ⟨rfl, rfl, rfl, rfl, rfl, by decide⟩
                  refine kw_go_i hs647 hP hD hS hA (va_runS (As := [.int (nI j91), .int (nI j92)]) (rest := [.int x608]) ⟨hx, hb, hml, hown, hts⟩ (gr_has l D y (nI j91) (nI j92)  _) (va_cwS 2 hts gX11_enough_X11_has rfl rfl rfl (by decide +kernel) ⟨Nat.le_of_ble_eq_true rfl, Nat.le_of_ble_eq_true rfl⟩) (kw_PreS hs647 hP hD hK hN) rfl rfl hl.1 rfl (lv_room (Nat.le_of_ble_eq_true rfl)) dX11_enough_53 ⟨Nat.le_of_ble_eq_true rfl, Nat.le_of_ble_eq_true rfl⟩) (fun r648 u649 H locs hq hP hD hS => ?_)
                  obtain (rfl | rfl) := hq
                  · skip
                    have hP : va_P D vwCl [(mrf, .inl (y 0, 3, .inl frf)), (mo, .inr (11, [.ref to, .ref ke, .ref ik, .ref mrf, .long mab, .long mbl, .ref ha, .ref r0, .ref mbr, .ref mbp, .ref mby, .int (nI bl), .int (nI ta), .int (nI tl), .int (nI tk), .int vv, .ref an, .ref va])), (to, .inl (y 0, 228, .inl ft))] H := hP
                    have hD : va_D A [(mrf, .inl (y 0, 3, .inl frf)), (mo, .inr (11, [.ref to, .ref ke, .ref ik, .ref mrf, .long mab, .long mbl, .ref ha, .ref r0, .ref mbr, .ref mbp, .ref mby, .int (nI bl), .int (nI ta), .int (nI tl), .int (nI tk), .int vv, .ref an, .ref va])), (to, .inl (y 0, 228, .inl ft))] := hD
                    refine lv_if_eq (tgt := 72) hx hb dX11_enough_56 (by decide) (fun _ => ?_) (fun h9 => absurd h9 (by decide))
                    refine lv_iconst (v := 0) hx hb dX11_enough_72 (by decide) ?_
                    refine lv_iadd hx hb dX11_enough_73 ?_
                    refine lv_istore (lv' := [(4, .int (x608 + 0)), (5, .int (nI j92)), (3, .int (nI j91)), (2, .int x510), (0, .ref mo), (1, .int (nI j4))]) hx hb dX11_enough_74 hl (by decide) rfl (fun ls hl => ?_)
                    refine lv_iinc (v := (nI (j92 + 1))) (lv' := [(5, .int (nI (j92 + 1))), (4, .int (x608 + 0)), (3, .int (nI j91)), (2, .int x510), (0, .ref mo), (1, .int (nI j4))]) hx hb dX11_enough_76 hl (k := 1) rfl (nI_1 j92) (by decide) rfl (fun ls hl => ?_)
                    refine lv_goto (tgt := 39) hx hb dX11_enough_79 (by decide) ?_
                    exact ihj92 (j92 + 1) (x608 + 0) H locs ls (by omega) (by omega)  (hP.sub [0, 1, 2] rfl) (hD.sub [0, 1, 2] (by decide) rfl) hS (lv_sub hl [0, 1, 2, 3, 4, 5] rfl)
                  · skip
                    have hP : va_P D vwCl [(mrf, .inl (y 0, 3, .inl frf)), (mo, .inr (11, [.ref to, .ref ke, .ref ik, .ref mrf, .long mab, .long mbl, .ref ha, .ref r0, .ref mbr, .ref mbp, .ref mby, .int (nI bl), .int (nI ta), .int (nI tl), .int (nI tk), .int vv, .ref an, .ref va])), (to, .inl (y 0, 228, .inl ft))] H := hP
                    have hD : va_D A [(mrf, .inl (y 0, 3, .inl frf)), (mo, .inr (11, [.ref to, .ref ke, .ref ik, .ref mrf, .long mab, .long mbl, .ref ha, .ref r0, .ref mbr, .ref mbp, .ref mby, .int (nI bl), .int (nI ta), .int (nI tl), .int (nI tk), .int vv, .ref an, .ref va])), (to, .inl (y 0, 228, .inl ft))] := hD
                    refine lv_if_eq (tgt := 72) hx hb dX11_enough_56 (by decide) (fun h9 => absurd h9 (by decide)) (fun _ => ?_)
                    refine lv_aload_n hx hb dX11_enough_59 rfl (lv_at hl 4 rfl) ?_
                    refine va_get (D := D) (ci := 11) (v := .ref to) (C := RX11) (T := TX11) (N := 18) hx hb hts iw11 hown hK hP 1 rfl rfl 0 (by decide) fw2 (fun _ h9 => h9) rfl dX11_enough_60 ?_
                    refine lv_bipush (v := 16) hx hb dX11_enough_63 (by decide) ?_
                    refine lv_iload hx hb dX11_enough_65 (lv_at hl 0 rfl) ?_
                    refine lv_iadd hx hb dX11_enough_67 ?_
                    rw [show 16 + (nI j92) = nI (j92 + 16) from (nI_add 16 j92).trans (congrArg nI (by omega))]
                    refine va_iald hx hb hK hP 2 0 rfl rfl (vp_in_nI (by omega) (by decide)) dX11_enough_68 ?_
                    rw [nI_clamp (n := (j92 + 16)) (by omega)]
                    refine lv_goto (tgt := 73) hx hb dX11_enough_69 (by decide) ?_
                    refine lv_iadd hx hb dX11_enough_73 ?_
                    refine lv_istore (lv' := [(4, .int (x608 + (ft (j92 + 16)))), (5, .int (nI j92)), (3, .int (nI j91)), (2, .int x510), (0, .ref mo), (1, .int (nI j4))]) hx hb dX11_enough_74 hl (by decide) rfl (fun ls hl => ?_)
                    refine lv_iinc (v := (nI (j92 + 1))) (lv' := [(5, .int (nI (j92 + 1))), (4, .int (x608 + (ft (j92 + 16)))), (3, .int (nI j91)), (2, .int x510), (0, .ref mo), (1, .int (nI j4))]) hx hb dX11_enough_76 hl (k := 1) rfl (nI_1 j92) (by decide) rfl (fun ls hl => ?_)
                    refine lv_goto (tgt := 39) hx hb dX11_enough_79 (by decide) ?_
                    exact ihj92 (j92 + 1) (x608 + (ft (j92 + 16))) H locs ls (by omega) (by omega)  (hP.sub [0, 1, 2] rfl) (hD.sub [0, 1, 2] (by decide) rfl) hS (lv_sub hl [0, 1, 2, 3, 4, 5] rfl)
            exact lp629 (3 + 1) 0 0 _ _ _ (by omega) (by omega)  hP hD hS (lv_sub hl [0, 1, 2, 3, 4, 5] rfl)
      exact lp580 (8 + 1) 0 (-1) _ _ _ (by omega) (by omega)  hP hD hS (lv_sub hl [0, 1, 2, 3] rfl)
    · skip
      refine lv_iconst (v := 0) hx hb dX11_enough_21 (by decide) ?_
      refine lv_istore_n (lv' := [(3, .int 0), (2, .int (-1)), (0, .ref mo), (1, .int (nI j4))]) hx hb dX11_enough_22 rfl hl (by decide) rfl (fun ls hl => ?_)
      have lp759 : ∀ (fuj91 j91 : Nat) (x689 : Int32) (H : Heap) (locs : List Loc) (ls : Array Slot), j91 ≤ 16 → 16 - j91 < fuj91 → va_P D vwCl [(mo, .inr (11, [.ref to, .ref ke, .ref ik, .ref mrf, .long mab, .long mbl, .ref ha, .ref r0, .ref mbr, .ref mbp, .ref mby, .int (nI bl), .int (nI ta), .int (nI tl), .int (nI tk), .int vv, .ref an, .ref va])), (mrf, .inl (y 0, 3, .inl frf)), (to, .inl (y 0, 228, .inl ft))] H → va_D A [(mo, .inr (11, [.ref to, .ref ke, .ref ik, .ref mrf, .long mab, .long mbl, .ref ha, .ref r0, .ref mbr, .ref mbp, .ref mby, .int (nI bl), .int (nI ta), .int (nI tl), .int (nI tk), .int vv, .ref an, .ref va])), (mrf, .inl (y 0, 3, .inl frf)), (to, .inl (y 0, 228, .inl ft))] → va_S A s.heap H locs → lv_has ls 6 [(3, .int (nI j91)), (2, .int x689), (0, .ref mo), (1, .int (nI j4))] → W pZ l eZ ({ frames := 2, cells := 0, slots := 0, locals := 85 }) s mZ [.ref mo, .int (nI j4)].toArray beZ meZ cZ H locs 0 0 (MQ beZ (va_Qi (fun (r : Int32) (u : (Nat → Int32)) => (4 = 0 ∨ 0 < fi)) (kw_B D (fun u => [(mo, .inr (11, [.ref to, .ref ke, .ref ik, .ref mrf, .long mab, .long mbl, .ref ha, .ref r0, .ref mbr, .ref mbp, .ref mby, .int (nI bl), .int (nI ta), .int (nI tl), .int (nI tk), .int vv, .ref an, .ref va])), (mrf, .inl (y 0, 3, .inl u)), (to, .inl (y 0, 228, .inl ft))]) A) A) [.ref mo, .int (nI j4)].toArray s 0 0 A) (F0 mZ 23 ls []) := by
        intro fuj91
        induction fuj91 with
        | zero => intro j91 x689 H locs ls hj9 hf9; exact absurd hf9 (Nat.not_lt_zero _)
        | succ fuj91 ihj91 =>
          intro j91 x689 H locs ls hj91 hfj91  hP hD hS hl
          refine lv_iload_n hx hb dX11_enough_23 rfl (lv_at hl 0 rfl) ?_
          refine lv_iconst (v := 1) hx hb dX11_enough_24 (by decide) ?_
          refine lv_aload_n hx hb dX11_enough_25 rfl (lv_at hl 2 rfl) ?_
          have hs760 : kw_Split [(mo, .inr (11, [.ref to, .ref ke, .ref ik, .ref mrf, .long mab, .long mbl, .ref ha, .ref r0, .ref mbr, .ref mbp, .ref mby, .int (nI bl), .int (nI ta), .int (nI tl), .int (nI tk), .int vv, .ref an, .ref va])), (mrf, .inl (y 0, 3, .inl frf)), (to, .inl (y 0, 228, .inl ft))] [(mo, .inr (11, [.ref to, .ref ke, .ref ik, .ref mrf, .long mab, .long mbl, .ref ha, .ref r0, .ref mbr, .ref mbp, .ref mby, .int (nI bl), .int (nI ta), .int (nI tl), .int (nI tk), .int vv, .ref an, .ref va])), (to, .inl (y 0, 228, .inl ft))] [(mrf, .inl (y 0, 3, .inl frf))] [0, 2] [1] := ⟨rfl, rfl, rfl, rfl, rfl, by decide⟩
          refine kw_go_i hs760 hP hD hS hA (va_runV (As := []) (rest := [.int 1, .int (nI j91)]) ⟨hx, hb, hml, hown, hts⟩ (gr_manyGleaners l D y mo to ke ik mrf ha r0 mbr mbp mby an va mab mbl bl ta tl tk vv ft fi 4 mi no un hk0_ hk1_ hk2_ hk3_ hk4_ hkt hfi hgl hmi hno hun _) (cwV 0 hts gX11_enough_X11_manyGleaners rfl rfl rfl (by decide +kernel) ⟨Nat.le_of_ble_eq_true rfl, Nat.le_of_ble_eq_true rfl⟩) (kw_PreV (ci := 11) (q0 := 0) hs760 hP hD hK hN rfl rfl) rfl rfl hl.1 rfl (lv_room (Nat.le_of_ble_eq_true rfl)) dX11_enough_26 ⟨Nat.le_of_ble_eq_true rfl, Nat.le_of_ble_eq_true rfl⟩) (fun r761 u762 H locs hq hP hD hS => ?_)
          obtain rfl := hq
          have hP : va_P D vwCl [(mrf, .inl (y 0, 3, .inl frf)), (mo, .inr (11, [.ref to, .ref ke, .ref ik, .ref mrf, .long mab, .long mbl, .ref ha, .ref r0, .ref mbr, .ref mbp, .ref mby, .int (nI bl), .int (nI ta), .int (nI tl), .int (nI tk), .int vv, .ref an, .ref va])), (to, .inl (y 0, 228, .inl ft))] H := hP
          have hD : va_D A [(mrf, .inl (y 0, 3, .inl frf)), (mo, .inr (11, [.ref to, .ref ke, .ref ik, .ref mrf, .long mab, .long mbl, .ref ha, .ref r0, .ref mbr, .ref mbp, .ref mby, .int (nI bl), .int (nI ta), .int (nI tl), .int (nI tk), .int vv, .ref an, .ref va])), (to, .inl (y 0, 228, .inl ft))] := hD
          refine lv_ishl hx hb dX11_enough_29 ?_
          refine lv_topi (fun z763 hz763 => ?_)
          obtain rfl : z763 = 16 := hz763.trans (by decide)
          refine lv_icmp_ge (tgt := 116) hx hb dX11_enough_30 (by decide) (fun h764 => ?_) (fun h765 => ?_)
          · skip
            have h764 : 16 ≤ j91 := (nI_leI (a := 16) (b := j91) (by omega) (by omega)).mp h764
            refine lv_iload_n hx hb dX11_enough_116 rfl (lv_at hl 1 rfl) ?_
            exact W.iret (v := x689) hx hb hr (fun tZ ht hW => ⟨⟨x689, (frf), rfl, by first | omega | (dsimp only; omega), by rw [ht]; exact hP.sub [1, 0, 2] rfl, hD.sub [1, 0, 2] (by decide) rfl⟩, hS.F ht⟩) hS.2.2 dX11_enough_117
          · skip
            have h765 : ¬ 16 ≤ j91 := fun q9 => h765 ((nI_leI (a := 16) (b := j91) (by omega) (by omega)).mpr q9)
            refine lv_iconst (v := 0) hx hb dX11_enough_33 (by decide) ?_
            refine lv_istore (lv' := [(4, .int 0), (3, .int (nI j91)), (2, .int x689), (0, .ref mo), (1, .int (nI j4))]) hx hb dX11_enough_34 hl (by decide) rfl (fun ls hl => ?_)
            refine lv_iconst (v := 0) hx hb dX11_enough_36 (by decide) ?_
            refine lv_istore (lv' := [(5, .int 0), (4, .int 0), (3, .int (nI j91)), (2, .int x689), (0, .ref mo), (1, .int (nI j4))]) hx hb dX11_enough_37 hl (by decide) rfl (fun ls hl => ?_)
            have lp808 : ∀ (fuj92 j92 : Nat) (x787 : Int32) (H : Heap) (locs : List Loc) (ls : Array Slot), j92 ≤ 4 → 4 - j92 < fuj92 → va_P D vwCl [(mrf, .inl (y 0, 3, .inl frf)), (mo, .inr (11, [.ref to, .ref ke, .ref ik, .ref mrf, .long mab, .long mbl, .ref ha, .ref r0, .ref mbr, .ref mbp, .ref mby, .int (nI bl), .int (nI ta), .int (nI tl), .int (nI tk), .int vv, .ref an, .ref va])), (to, .inl (y 0, 228, .inl ft))] H → va_D A [(mrf, .inl (y 0, 3, .inl frf)), (mo, .inr (11, [.ref to, .ref ke, .ref ik, .ref mrf, .long mab, .long mbl, .ref ha, .ref r0, .ref mbr, .ref mbp, .ref mby, .int (nI bl), .int (nI ta), .int (nI tl), .int (nI tk), .int vv, .ref an, .ref va])), (to, .inl (y 0, 228, .inl ft))] → va_S A s.heap H locs → lv_has ls 6 [(5, .int (nI j92)), (4, .int x787), (3, .int (nI j91)), (2, .int x689), (0, .ref mo), (1, .int (nI j4))] → W pZ l eZ ({ frames := 2, cells := 0, slots := 0, locals := 85 }) s mZ [.ref mo, .int (nI j4)].toArray beZ meZ cZ H locs 0 0 (MQ beZ (va_Qi (fun (r : Int32) (u : (Nat → Int32)) => (4 = 0 ∨ 0 < fi)) (kw_B D (fun u => [(mo, .inr (11, [.ref to, .ref ke, .ref ik, .ref mrf, .long mab, .long mbl, .ref ha, .ref r0, .ref mbr, .ref mbp, .ref mby, .int (nI bl), .int (nI ta), .int (nI tl), .int (nI tk), .int vv, .ref an, .ref va])), (mrf, .inl (y 0, 3, .inl u)), (to, .inl (y 0, 228, .inl ft))]) A) A) [.ref mo, .int (nI j4)].toArray s 0 0 A) (F0 mZ 39 ls []) := by
              intro fuj92
              induction fuj92 with
              | zero => intro j92 x787 H locs ls hj9 hf9; exact absurd hf9 (Nat.not_lt_zero _)
              | succ fuj92 ihj92 =>
                intro j92 x787 H locs ls hj92 hfj92  hP hD hS hl
                refine lv_iload hx hb dX11_enough_39 (lv_at hl 0 rfl) ?_
                refine lv_aload_n hx hb dX11_enough_41 rfl (lv_at hl 4 rfl) ?_
                have hs809 : kw_Split [(mrf, .inl (y 0, 3, .inl frf)), (mo, .inr (11, [.ref to, .ref ke, .ref ik, .ref mrf, .long mab, .long mbl, .ref ha, .ref r0, .ref mbr, .ref mbp, .ref mby, .int (nI bl), .int (nI ta), .int (nI tl), .int (nI tk), .int vv, .ref an, .ref va])), (to, .inl (y 0, 228, .inl ft))] [(mo, .inr (11, [.ref to, .ref ke, .ref ik, .ref mrf, .long mab, .long mbl, .ref ha, .ref r0, .ref mbr, .ref mbp, .ref mby, .int (nI bl), .int (nI ta), .int (nI tl), .int (nI tk), .int vv, .ref an, .ref va])), (to, .inl (y 0, 228, .inl ft))] [(mrf, .inl (y 0, 3, .inl frf))] [1, 2] [0] := ⟨rfl, rfl, rfl, rfl, rfl, by decide⟩
                refine kw_go_i hs809 hP hD hS hA (va_runV (As := []) (rest := [.int (nI j92)]) ⟨hx, hb, hml, hown, hts⟩ (gr_manyGleaners l D y mo to ke ik mrf ha r0 mbr mbp mby an va mab mbl bl ta tl tk vv ft fi 4 mi no un hk0_ hk1_ hk2_ hk3_ hk4_ hkt hfi hgl hmi hno hun _) (cwV 0 hts gX11_enough_X11_manyGleaners rfl rfl rfl (by decide +kernel) ⟨Nat.le_of_ble_eq_true rfl, Nat.le_of_ble_eq_true rfl⟩) (kw_PreV (ci := 11) (q0 := 1) hs809 hP hD hK hN rfl rfl) rfl rfl hl.1 rfl (lv_room (Nat.le_of_ble_eq_true rfl)) dX11_enough_42 ⟨Nat.le_of_ble_eq_true rfl, Nat.le_of_ble_eq_true rfl⟩) (fun r810 u811 H locs hq hP hD hS => ?_)
                obtain rfl := hq
                have hP : va_P D vwCl [(mrf, .inl (y 0, 3, .inl frf)), (mo, .inr (11, [.ref to, .ref ke, .ref ik, .ref mrf, .long mab, .long mbl, .ref ha, .ref r0, .ref mbr, .ref mbp, .ref mby, .int (nI bl), .int (nI ta), .int (nI tl), .int (nI tk), .int vv, .ref an, .ref va])), (to, .inl (y 0, 228, .inl ft))] H := hP
                have hD : va_D A [(mrf, .inl (y 0, 3, .inl frf)), (mo, .inr (11, [.ref to, .ref ke, .ref ik, .ref mrf, .long mab, .long mbl, .ref ha, .ref r0, .ref mbr, .ref mbp, .ref mby, .int (nI bl), .int (nI ta), .int (nI tl), .int (nI tk), .int vv, .ref an, .ref va])), (to, .inl (y 0, 228, .inl ft))] := hD
                refine lv_icmp_ge (tgt := 82) hx hb dX11_enough_45 (by decide) (fun h812 => ?_) (fun h813 => ?_)
                · skip
                  have h812 : 4 ≤ j92 := (nI_leI (a := 4) (b := j92) (by omega) (by omega)).mp h812
                  refine lv_iload hx hb dX11_enough_82 (lv_at hl 1 rfl) ?_
                  refine lv_iload_n hx hb dX11_enough_84 rfl (lv_at hl 5 rfl) ?_
                  refine lv_icmp_lt (tgt := 108) hx hb dX11_enough_85 (by decide) (fun h814 => ?_) (fun h815 => ?_)
                  · skip
                    refine lv_iload_n hx hb dX11_enough_108 rfl (lv_at hl 3 rfl) ?_
                    refine lv_istore_n (lv' := [(2, .int x689), (5, .int (nI j92)), (4, .int x787), (3, .int (nI j91)), (0, .ref mo), (1, .int (nI j4))]) hx hb dX11_enough_109 rfl hl (by decide) rfl (fun ls hl => ?_)
                    refine lv_iinc (v := (nI (j91 + 1))) (lv' := [(3, .int (nI (j91 + 1))), (2, .int x689), (5, .int (nI j92)), (4, .int x787), (0, .ref mo), (1, .int (nI j4))]) hx hb dX11_enough_110 hl (k := 3) rfl (nI_1 j91) (by decide) rfl (fun ls hl => ?_)
                    refine lv_goto (tgt := 23) hx hb dX11_enough_113 (by decide) ?_
                    exact ihj91 (j91 + 1) x689 H locs ls (by omega) (by omega)  (hP.sub [1, 0, 2] rfl) (hD.sub [1, 0, 2] (by decide) rfl) hS (lv_sub hl [0, 1, 4, 5] rfl)
                  · skip
                    refine lv_iload_n hx hb dX11_enough_88 rfl (lv_at hl 3 rfl) ?_
                    refine lv_iconst (v := (-1)) hx hb dX11_enough_89 (by decide) ?_
                    refine lv_icmp_eq (tgt := 104) hx hb dX11_enough_90 (by decide) (fun h816 => ?_) (fun h817 => ?_)
                    · skip
                      refine lv_iload_n hx hb dX11_enough_104 rfl (lv_at hl 2 rfl) ?_
                      refine lv_goto (tgt := 109) hx hb dX11_enough_105 (by decide) ?_
                      refine lv_istore_n (lv' := [(2, .int (nI j91)), (5, .int (nI j92)), (4, .int x787), (3, .int (nI j91)), (0, .ref mo), (1, .int (nI j4))]) hx hb dX11_enough_109 rfl hl (by decide) rfl (fun ls hl => ?_)
                      refine lv_iinc (v := (nI (j91 + 1))) (lv' := [(3, .int (nI (j91 + 1))), (2, .int (nI j91)), (5, .int (nI j92)), (4, .int x787), (0, .ref mo), (1, .int (nI j4))]) hx hb dX11_enough_110 hl (k := 3) rfl (nI_1 j91) (by decide) rfl (fun ls hl => ?_)
                      refine lv_goto (tgt := 23) hx hb dX11_enough_113 (by decide) ?_
                      exact ihj91 (j91 + 1) (nI j91) H locs ls (by omega) (by omega)  (hP.sub [1, 0, 2] rfl) (hD.sub [1, 0, 2] (by decide) rfl) hS (lv_sub hl [0, 1, 4, 5] rfl)
                    · skip
                      refine lv_iload_n hx hb dX11_enough_93 rfl (lv_at hl 2 rfl) ?_
                      have hs818 : kw_Split [(mrf, .inl (y 0, 3, .inl frf)), (mo, .inr (11, [.ref to, .ref ke, .ref ik, .ref mrf, .long mab, .long mbl, .ref ha, .ref r0, .ref mbr, .ref mbp, .ref mby, .int (nI bl), .int (nI ta), .int (nI tl), .int (nI tk), .int vv, .ref an, .ref va])), (to, .inl (y 0, 228, .inl ft))] [] [(mrf, .inl (y 0, 3, .inl frf)), (mo, .inr (11, [.ref to, .ref ke, .ref ik, .ref mrf, .long mab, .long mbl, .ref ha, .ref r0, .ref mbr, .ref mbp, .ref mby, .int (nI bl), .int (nI ta), .int (nI tl), .int (nI tk), .int vv, .ref an, .ref va])), (to, .inl (y 0, 228, .inl ft))] [] [0, 1, 2] := ⟨rfl, rfl, rfl, rfl, rfl, by decide⟩
                      refine kw_go_i hs818 hP hD hS hA (va_runS (As := [.int (nI j91)]) (rest := []) ⟨hx, hb, hml, hown, hts⟩ (gr_bits l D y (nI j91)  _) (va_cwS 1 hts gX11_enough_X11_bits rfl rfl rfl (by decide +kernel) ⟨Nat.le_of_ble_eq_true rfl, Nat.le_of_ble_eq_true rfl⟩) (kw_PreS hs818 hP hD hK hN) rfl rfl hl.1 rfl (lv_room (Nat.le_of_ble_eq_true rfl)) dX11_enough_94 ⟨Nat.le_of_ble_eq_true rfl, Nat.le_of_ble_eq_true rfl⟩) (fun r819 u820 H locs hq hP hD hS => ?_)
                      have hP : va_P D vwCl [(mrf, .inl (y 0, 3, .inl frf)), (mo, .inr (11, [.ref to, .ref ke, .ref ik, .ref mrf, .long mab, .long mbl, .ref ha, .ref r0, .ref mbr, .ref mbp, .ref mby, .int (nI bl), .int (nI ta), .int (nI tl), .int (nI tk), .int vv, .ref an, .ref va])), (to, .inl (y 0, 228, .inl ft))] H := hP
                      have hD : va_D A [(mrf, .inl (y 0, 3, .inl frf)), (mo, .inr (11, [.ref to, .ref ke, .ref ik, .ref mrf, .long mab, .long mbl, .ref ha, .ref r0, .ref mbr, .ref mbp, .ref mby, .int (nI bl), .int (nI ta), .int (nI tl), .int (nI tk), .int vv, .ref an, .ref va])), (to, .inl (y 0, 228, .inl ft))] := hD
                      refine lv_iload_n hx hb dX11_enough_97 rfl (lv_at hl 3 rfl) ?_
                      have hs821 : kw_Split [(mrf, .inl (y 0, 3, .inl frf)), (mo, .inr (11, [.ref to, .ref ke, .ref ik, .ref mrf, .long mab, .long mbl, .ref ha, .ref r0, .ref mbr, .ref mbp, .ref mby, .int (nI bl), .int (nI ta), .int (nI tl), .int (nI tk), .int vv, .ref an, .ref va])), (to, .inl (y 0, 228, .inl ft))] [] [(mrf, .inl (y 0, 3, .inl frf)), (mo, .inr (11, [.ref to, .ref ke, .ref ik, .ref mrf, .long mab, .long mbl, .ref ha, .ref r0, .ref mbr, .ref mbp, .ref mby, .int (nI bl), .int (nI ta), .int (nI tl), .int (nI tk), .int vv, .ref an, .ref va])), (to, .inl (y 0, 228, .inl ft))] [] [0, 1, 2] := ⟨rfl, rfl, rfl, rfl, rfl, by decide⟩
                      refine kw_go_i hs821 hP hD hS hA (va_runS (As := [.int x689]) (rest := [.int r819]) ⟨hx, hb, hml, hown, hts⟩ (gr_bits l D y x689  _) (va_cwS 1 hts gX11_enough_X11_bits rfl rfl rfl (by decide +kernel) ⟨Nat.le_of_ble_eq_true rfl, Nat.le_of_ble_eq_true rfl⟩) (kw_PreS hs821 hP hD hK hN) rfl rfl hl.1 rfl (lv_room (Nat.le_of_ble_eq_true rfl)) dX11_enough_98 ⟨Nat.le_of_ble_eq_true rfl, Nat.le_of_ble_eq_true rfl⟩) (fun r822 u823 H locs hq hP hD hS => ?_)
                      have hP : va_P D vwCl [(mrf, .inl (y 0, 3, .inl frf)), (mo, .inr (11, [.ref to, .ref ke, .ref ik, .ref mrf, .long mab, .long mbl, .ref ha, .ref r0, .ref mbr, .ref mbp, .ref mby, .int (nI bl), .int (nI ta), .int (nI tl), .int (nI tk), .int vv, .ref an, .ref va])), (to, .inl (y 0, 228, .inl ft))] H := hP
                      have hD : va_D A [(mrf, .inl (y 0, 3, .inl frf)), (mo, .inr (11, [.ref to, .ref ke, .ref ik, .ref mrf, .long mab, .long mbl, .ref ha, .ref r0, .ref mbr, .ref mbp, .ref mby, .int (nI bl), .int (nI ta), .int (nI tl), .int (nI tk), .int vv, .ref an, .ref va])), (to, .inl (y 0, 228, .inl ft))] := hD
                      refine lv_icmp_ge (tgt := 108) hx hb dX11_enough_101 (by decide) (fun h824 => ?_) (fun h825 => ?_)
                      · skip
                        refine lv_iload_n hx hb dX11_enough_108 rfl (lv_at hl 3 rfl) ?_
                        refine lv_istore_n (lv' := [(2, .int x689), (5, .int (nI j92)), (4, .int x787), (3, .int (nI j91)), (0, .ref mo), (1, .int (nI j4))]) hx hb dX11_enough_109 rfl hl (by decide) rfl (fun ls hl => ?_)
                        refine lv_iinc (v := (nI (j91 + 1))) (lv' := [(3, .int (nI (j91 + 1))), (2, .int x689), (5, .int (nI j92)), (4, .int x787), (0, .ref mo), (1, .int (nI j4))]) hx hb dX11_enough_110 hl (k := 3) rfl (nI_1 j91) (by decide) rfl (fun ls hl => ?_)
                        refine lv_goto (tgt := 23) hx hb dX11_enough_113 (by decide) ?_
                        exact ihj91 (j91 + 1) x689 H locs ls (by omega) (by omega)  (hP.sub [1, 0, 2] rfl) (hD.sub [1, 0, 2] (by decide) rfl) hS (lv_sub hl [0, 1, 4, 5] rfl)
                      · skip
                        refine lv_iload_n hx hb dX11_enough_104 rfl (lv_at hl 2 rfl) ?_
                        refine lv_goto (tgt := 109) hx hb dX11_enough_105 (by decide) ?_
                        refine lv_istore_n (lv' := [(2, .int (nI j91)), (5, .int (nI j92)), (4, .int x787), (3, .int (nI j91)), (0, .ref mo), (1, .int (nI j4))]) hx hb dX11_enough_109 rfl hl (by decide) rfl (fun ls hl => ?_)
                        refine lv_iinc (v := (nI (j91 + 1))) (lv' := [(3, .int (nI (j91 + 1))), (2, .int (nI j91)), (5, .int (nI j92)), (4, .int x787), (0, .ref mo), (1, .int (nI j4))]) hx hb dX11_enough_110 hl (k := 3) rfl (nI_1 j91) (by decide) rfl (fun ls hl => ?_)
                        refine lv_goto (tgt := 23) hx hb dX11_enough_113 (by decide) ?_
                        exact ihj91 (j91 + 1) (nI j91) H locs ls (by omega) (by omega)  (hP.sub [1, 0, 2] rfl) (hD.sub [1, 0, 2] (by decide) rfl) hS (lv_sub hl [0, 1, 4, 5] rfl)
                · skip
                  have h813 : ¬ 4 ≤ j92 := fun q9 => h813 ((nI_leI (a := 4) (b := j92) (by omega) (by omega)).mpr q9)
                  refine lv_iload hx hb dX11_enough_48 (lv_at hl 1 rfl) ?_
                  refine lv_iload_n hx hb dX11_enough_50 rfl (lv_at hl 2 rfl) ?_
                  refine lv_iload hx hb dX11_enough_51 (lv_at hl 0 rfl) ?_
                  have hs826 : kw_Split [(mrf, .inl (y 0, 3, .inl frf)), (mo, .inr (11, [.ref to, .ref ke, .ref ik, .ref mrf, .long mab, .long mbl, .ref ha, .ref r0, .ref mbr, .ref mbp, .ref mby, .int (nI bl), .int (nI ta), .int (nI tl), .int (nI tk), .int vv, .ref an, .ref va])), (to, .inl (y 0, 228, .inl ft))] [] [(mrf, .inl (y 0, 3, .inl frf)), (mo, .inr (11, [.ref to, .ref ke, .ref ik, .ref mrf, .long mab, .long mbl, .ref ha, .ref r0, .ref mbr, .ref mbp, .ref mby, .int (nI bl), .int (nI ta), .int (nI tl), .int (nI tk), .int vv, .ref an, .ref va])), (to, .inl (y 0, 228, .inl ft))] [] [0, 1, 2] := ⟨rfl, rfl, rfl, rfl, rfl, by decide⟩
                  refine kw_go_i hs826 hP hD hS hA (va_runS (As := [.int (nI j91), .int (nI j92)]) (rest := [.int x787]) ⟨hx, hb, hml, hown, hts⟩ (gr_has l D y (nI j91) (nI j92)  _) (va_cwS 2 hts gX11_enough_X11_has rfl rfl rfl (by decide +kernel) ⟨Nat.le_of_ble_eq_true rfl, Nat.le_of_ble_eq_true rfl⟩) (kw_PreS hs826 hP hD hK hN) rfl rfl hl.1 rfl (lv_room (Nat.le_of_ble_eq_true rfl)) dX11_enough_53 ⟨Nat.le_of_ble_eq_true rfl, Nat.le_of_ble_eq_true rfl⟩) (fun r827 u828 H locs hq hP hD hS => ?_)
                  obtain (rfl | rfl) := hq
                  · skip
                    have hP : va_P D vwCl [(mrf, .inl (y 0, 3, .inl frf)), (mo, .inr (11, [.ref to, .ref ke, .ref ik, .ref mrf, .long mab, .long mbl, .ref ha, .ref r0, .ref mbr, .ref mbp, .ref mby, .int (nI bl), .int (nI ta), .int (nI tl), .int (nI tk), .int vv, .ref an, .ref va])), (to, .inl (y 0, 228, .inl ft))] H := hP
                    have hD : va_D A [(mrf, .inl (y 0, 3, .inl frf)), (mo, .inr (11, [.ref to, .ref ke, .ref ik, .ref mrf, .long mab, .long mbl, .ref ha, .ref r0, .ref mbr, .ref mbp, .ref mby, .int (nI bl), .int (nI ta), .int (nI tl), .int (nI tk), .int vv, .ref an, .ref va])), (to, .inl (y 0, 228, .inl ft))] := hD
                    refine lv_if_eq (tgt := 72) hx hb dX11_enough_56 (by decide) (fun _ => ?_) (fun h9 => absurd h9 (by decide))
                    refine lv_iconst (v := 0) hx hb dX11_enough_72 (by decide) ?_
                    refine lv_iadd hx hb dX11_enough_73 ?_
                    refine lv_istore (lv' := [(4, .int (x787 + 0)), (5, .int (nI j92)), (3, .int (nI j91)), (2, .int x689), (0, .ref mo), (1, .int (nI j4))]) hx hb dX11_enough_74 hl (by decide) rfl (fun ls hl => ?_)
                    refine lv_iinc (v := (nI (j92 + 1))) (lv' := [(5, .int (nI (j92 + 1))), (4, .int (x787 + 0)), (3, .int (nI j91)), (2, .int x689), (0, .ref mo), (1, .int (nI j4))]) hx hb dX11_enough_76 hl (k := 1) rfl (nI_1 j92) (by decide) rfl (fun ls hl => ?_)
                    refine lv_goto (tgt := 39) hx hb dX11_enough_79 (by decide) ?_
                    exact ihj92 (j92 + 1) (x787 + 0) H locs ls (by omega) (by omega)  (hP.sub [0, 1, 2] rfl) (hD.sub [0, 1, 2] (by decide) rfl) hS (lv_sub hl [0, 1, 2, 3, 4, 5] rfl)
                  · skip
                    have hP : va_P D vwCl [(mrf, .inl (y 0, 3, .inl frf)), (mo, .inr (11, [.ref to, .ref ke, .ref ik, .ref mrf, .long mab, .long mbl, .ref ha, .ref r0, .ref mbr, .ref mbp, .ref mby, .int (nI bl), .int (nI ta), .int (nI tl), .int (nI tk), .int vv, .ref an, .ref va])), (to, .inl (y 0, 228, .inl ft))] H := hP
                    have hD : va_D A [(mrf, .inl (y 0, 3, .inl frf)), (mo, .inr (11, [.ref to, .ref ke, .ref ik, .ref mrf, .long mab, .long mbl, .ref ha, .ref r0, .ref mbr, .ref mbp, .ref mby, .int (nI bl), .int (nI ta), .int (nI tl), .int (nI tk), .int vv, .ref an, .ref va])), (to, .inl (y 0, 228, .inl ft))] := hD
                    refine lv_if_eq (tgt := 72) hx hb dX11_enough_56 (by decide) (fun h9 => absurd h9 (by decide)) (fun _ => ?_)
                    refine lv_aload_n hx hb dX11_enough_59 rfl (lv_at hl 4 rfl) ?_
                    refine va_get (D := D) (ci := 11) (v := .ref to) (C := RX11) (T := TX11) (N := 18) hx hb hts iw11 hown hK hP 1 rfl rfl 0 (by decide) fw2 (fun _ h9 => h9) rfl dX11_enough_60 ?_
                    refine lv_bipush (v := 16) hx hb dX11_enough_63 (by decide) ?_
                    refine lv_iload hx hb dX11_enough_65 (lv_at hl 0 rfl) ?_
                    refine lv_iadd hx hb dX11_enough_67 ?_
                    rw [show 16 + (nI j92) = nI (j92 + 16) from (nI_add 16 j92).trans (congrArg nI (by omega))]
                    refine va_iald hx hb hK hP 2 0 rfl rfl (vp_in_nI (by omega) (by decide)) dX11_enough_68 ?_
                    rw [nI_clamp (n := (j92 + 16)) (by omega)]
                    refine lv_goto (tgt := 73) hx hb dX11_enough_69 (by decide) ?_
                    refine lv_iadd hx hb dX11_enough_73 ?_
                    refine lv_istore (lv' := [(4, .int (x787 + (ft (j92 + 16)))), (5, .int (nI j92)), (3, .int (nI j91)), (2, .int x689), (0, .ref mo), (1, .int (nI j4))]) hx hb dX11_enough_74 hl (by decide) rfl (fun ls hl => ?_)
                    refine lv_iinc (v := (nI (j92 + 1))) (lv' := [(5, .int (nI (j92 + 1))), (4, .int (x787 + (ft (j92 + 16)))), (3, .int (nI j91)), (2, .int x689), (0, .ref mo), (1, .int (nI j4))]) hx hb dX11_enough_76 hl (k := 1) rfl (nI_1 j92) (by decide) rfl (fun ls hl => ?_)
                    refine lv_goto (tgt := 39) hx hb dX11_enough_79 (by decide) ?_
                    exact ihj92 (j92 + 1) (x787 + (ft (j92 + 16))) H locs ls (by omega) (by omega)  (hP.sub [0, 1, 2] rfl) (hD.sub [0, 1, 2] (by decide) rfl) hS (lv_sub hl [0, 1, 2, 3, 4, 5] rfl)
            exact lp808 (4 + 1) 0 0 _ _ _ (by omega) (by omega)  hP hD hS (lv_sub hl [0, 1, 2, 3, 4, 5] rfl)
      exact lp759 (16 + 1) 0 (-1) _ _ _ (by omega) (by omega)  hP hD hS (lv_sub hl [0, 1, 2, 3] rfl)
    · skip
      refine lv_iconst (v := 0) hx hb dX11_enough_21 (by decide) ?_
      refine lv_istore_n (lv' := [(3, .int 0), (2, .int (-1)), (0, .ref mo), (1, .int (nI j4))]) hx hb dX11_enough_22 rfl hl (by decide) rfl (fun ls hl => ?_)
      have lp938 : ∀ (fuj91 j91 : Nat) (x868 : Int32) (H : Heap) (locs : List Loc) (ls : Array Slot), j91 ≤ 32 → 32 - j91 < fuj91 → va_P D vwCl [(mo, .inr (11, [.ref to, .ref ke, .ref ik, .ref mrf, .long mab, .long mbl, .ref ha, .ref r0, .ref mbr, .ref mbp, .ref mby, .int (nI bl), .int (nI ta), .int (nI tl), .int (nI tk), .int vv, .ref an, .ref va])), (mrf, .inl (y 0, 3, .inl frf)), (to, .inl (y 0, 228, .inl ft))] H → va_D A [(mo, .inr (11, [.ref to, .ref ke, .ref ik, .ref mrf, .long mab, .long mbl, .ref ha, .ref r0, .ref mbr, .ref mbp, .ref mby, .int (nI bl), .int (nI ta), .int (nI tl), .int (nI tk), .int vv, .ref an, .ref va])), (mrf, .inl (y 0, 3, .inl frf)), (to, .inl (y 0, 228, .inl ft))] → va_S A s.heap H locs → lv_has ls 6 [(3, .int (nI j91)), (2, .int x868), (0, .ref mo), (1, .int (nI j4))] → W pZ l eZ ({ frames := 2, cells := 0, slots := 0, locals := 85 }) s mZ [.ref mo, .int (nI j4)].toArray beZ meZ cZ H locs 0 0 (MQ beZ (va_Qi (fun (r : Int32) (u : (Nat → Int32)) => (5 = 0 ∨ 0 < fi)) (kw_B D (fun u => [(mo, .inr (11, [.ref to, .ref ke, .ref ik, .ref mrf, .long mab, .long mbl, .ref ha, .ref r0, .ref mbr, .ref mbp, .ref mby, .int (nI bl), .int (nI ta), .int (nI tl), .int (nI tk), .int vv, .ref an, .ref va])), (mrf, .inl (y 0, 3, .inl u)), (to, .inl (y 0, 228, .inl ft))]) A) A) [.ref mo, .int (nI j4)].toArray s 0 0 A) (F0 mZ 23 ls []) := by
        intro fuj91
        induction fuj91 with
        | zero => intro j91 x868 H locs ls hj9 hf9; exact absurd hf9 (Nat.not_lt_zero _)
        | succ fuj91 ihj91 =>
          intro j91 x868 H locs ls hj91 hfj91  hP hD hS hl
          refine lv_iload_n hx hb dX11_enough_23 rfl (lv_at hl 0 rfl) ?_
          refine lv_iconst (v := 1) hx hb dX11_enough_24 (by decide) ?_
          refine lv_aload_n hx hb dX11_enough_25 rfl (lv_at hl 2 rfl) ?_
          have hs939 : kw_Split [(mo, .inr (11, [.ref to, .ref ke, .ref ik, .ref mrf, .long mab, .long mbl, .ref ha, .ref r0, .ref mbr, .ref mbp, .ref mby, .int (nI bl), .int (nI ta), .int (nI tl), .int (nI tk), .int vv, .ref an, .ref va])), (mrf, .inl (y 0, 3, .inl frf)), (to, .inl (y 0, 228, .inl ft))] [(mo, .inr (11, [.ref to, .ref ke, .ref ik, .ref mrf, .long mab, .long mbl, .ref ha, .ref r0, .ref mbr, .ref mbp, .ref mby, .int (nI bl), .int (nI ta), .int (nI tl), .int (nI tk), .int vv, .ref an, .ref va])), (to, .inl (y 0, 228, .inl ft))] [(mrf, .inl (y 0, 3, .inl frf))] [0, 2] [1] := ⟨rfl, rfl, rfl, rfl, rfl, by decide⟩
          refine kw_go_i hs939 hP hD hS hA (va_runV (As := []) (rest := [.int 1, .int (nI j91)]) ⟨hx, hb, hml, hown, hts⟩ (gr_manyGleaners l D y mo to ke ik mrf ha r0 mbr mbp mby an va mab mbl bl ta tl tk vv ft fi 5 mi no un hk0_ hk1_ hk2_ hk3_ hk4_ hkt hfi hgl hmi hno hun _) (cwV 0 hts gX11_enough_X11_manyGleaners rfl rfl rfl (by decide +kernel) ⟨Nat.le_of_ble_eq_true rfl, Nat.le_of_ble_eq_true rfl⟩) (kw_PreV (ci := 11) (q0 := 0) hs939 hP hD hK hN rfl rfl) rfl rfl hl.1 rfl (lv_room (Nat.le_of_ble_eq_true rfl)) dX11_enough_26 ⟨Nat.le_of_ble_eq_true rfl, Nat.le_of_ble_eq_true rfl⟩) (fun r940 u941 H locs hq hP hD hS => ?_)
          obtain rfl := hq
          have hP : va_P D vwCl [(mrf, .inl (y 0, 3, .inl frf)), (mo, .inr (11, [.ref to, .ref ke, .ref ik, .ref mrf, .long mab, .long mbl, .ref ha, .ref r0, .ref mbr, .ref mbp, .ref mby, .int (nI bl), .int (nI ta), .int (nI tl), .int (nI tk), .int vv, .ref an, .ref va])), (to, .inl (y 0, 228, .inl ft))] H := hP
          have hD : va_D A [(mrf, .inl (y 0, 3, .inl frf)), (mo, .inr (11, [.ref to, .ref ke, .ref ik, .ref mrf, .long mab, .long mbl, .ref ha, .ref r0, .ref mbr, .ref mbp, .ref mby, .int (nI bl), .int (nI ta), .int (nI tl), .int (nI tk), .int vv, .ref an, .ref va])), (to, .inl (y 0, 228, .inl ft))] := hD
          refine lv_ishl hx hb dX11_enough_29 ?_
          refine lv_topi (fun z942 hz942 => ?_)
          obtain rfl : z942 = 32 := hz942.trans (by decide)
          refine lv_icmp_ge (tgt := 116) hx hb dX11_enough_30 (by decide) (fun h943 => ?_) (fun h944 => ?_)
          · skip
            have h943 : 32 ≤ j91 := (nI_leI (a := 32) (b := j91) (by omega) (by omega)).mp h943
            refine lv_iload_n hx hb dX11_enough_116 rfl (lv_at hl 1 rfl) ?_
            exact W.iret (v := x868) hx hb hr (fun tZ ht hW => ⟨⟨x868, (frf), rfl, by first | omega | (dsimp only; omega), by rw [ht]; exact hP.sub [1, 0, 2] rfl, hD.sub [1, 0, 2] (by decide) rfl⟩, hS.F ht⟩) hS.2.2 dX11_enough_117
          · skip
            have h944 : ¬ 32 ≤ j91 := fun q9 => h944 ((nI_leI (a := 32) (b := j91) (by omega) (by omega)).mpr q9)
            refine lv_iconst (v := 0) hx hb dX11_enough_33 (by decide) ?_
            refine lv_istore (lv' := [(4, .int 0), (3, .int (nI j91)), (2, .int x868), (0, .ref mo), (1, .int (nI j4))]) hx hb dX11_enough_34 hl (by decide) rfl (fun ls hl => ?_)
            refine lv_iconst (v := 0) hx hb dX11_enough_36 (by decide) ?_
            refine lv_istore (lv' := [(5, .int 0), (4, .int 0), (3, .int (nI j91)), (2, .int x868), (0, .ref mo), (1, .int (nI j4))]) hx hb dX11_enough_37 hl (by decide) rfl (fun ls hl => ?_)
            have lp987 : ∀ (fuj92 j92 : Nat) (x966 : Int32) (H : Heap) (locs : List Loc) (ls : Array Slot), j92 ≤ 5 → 5 - j92 < fuj92 → va_P D vwCl [(mrf, .inl (y 0, 3, .inl frf)), (mo, .inr (11, [.ref to, .ref ke, .ref ik, .ref mrf, .long mab, .long mbl, .ref ha, .ref r0, .ref mbr, .ref mbp, .ref mby, .int (nI bl), .int (nI ta), .int (nI tl), .int (nI tk), .int vv, .ref an, .ref va])), (to, .inl (y 0, 228, .inl ft))] H → va_D A [(mrf, .inl (y 0, 3, .inl frf)), (mo, .inr (11, [.ref to, .ref ke, .ref ik, .ref mrf, .long mab, .long mbl, .ref ha, .ref r0, .ref mbr, .ref mbp, .ref mby, .int (nI bl), .int (nI ta), .int (nI tl), .int (nI tk), .int vv, .ref an, .ref va])), (to, .inl (y 0, 228, .inl ft))] → va_S A s.heap H locs → lv_has ls 6 [(5, .int (nI j92)), (4, .int x966), (3, .int (nI j91)), (2, .int x868), (0, .ref mo), (1, .int (nI j4))] → W pZ l eZ ({ frames := 2, cells := 0, slots := 0, locals := 85 }) s mZ [.ref mo, .int (nI j4)].toArray beZ meZ cZ H locs 0 0 (MQ beZ (va_Qi (fun (r : Int32) (u : (Nat → Int32)) => (5 = 0 ∨ 0 < fi)) (kw_B D (fun u => [(mo, .inr (11, [.ref to, .ref ke, .ref ik, .ref mrf, .long mab, .long mbl, .ref ha, .ref r0, .ref mbr, .ref mbp, .ref mby, .int (nI bl), .int (nI ta), .int (nI tl), .int (nI tk), .int vv, .ref an, .ref va])), (mrf, .inl (y 0, 3, .inl u)), (to, .inl (y 0, 228, .inl ft))]) A) A) [.ref mo, .int (nI j4)].toArray s 0 0 A) (F0 mZ 39 ls []) := by
              intro fuj92
              induction fuj92 with
              | zero => intro j92 x966 H locs ls hj9 hf9; exact absurd hf9 (Nat.not_lt_zero _)
              | succ fuj92 ihj92 =>
                intro j92 x966 H locs ls hj92 hfj92  hP hD hS hl
                refine lv_iload hx hb dX11_enough_39 (lv_at hl 0 rfl) ?_
                refine lv_aload_n hx hb dX11_enough_41 rfl (lv_at hl 4 rfl) ?_
                have hs988 : kw_Split [(mrf, .inl (y 0, 3, .inl frf)), (mo, .inr (11, [.ref to, .ref ke, .ref ik, .ref mrf, .long mab, .long mbl, .ref ha, .ref r0, .ref mbr, .ref mbp, .ref mby, .int (nI bl), .int (nI ta), .int (nI tl), .int (nI tk), .int vv, .ref an, .ref va])), (to, .inl (y 0, 228, .inl ft))] [(mo, .inr (11, [.ref to, .ref ke, .ref ik, .ref mrf, .long mab, .long mbl, .ref ha, .ref r0, .ref mbr, .ref mbp, .ref mby, .int (nI bl), .int (nI ta), .int (nI tl), .int (nI tk), .int vv, .ref an, .ref va])), (to, .inl (y 0, 228, .inl ft))] [(mrf, .inl (y 0, 3, .inl frf))] [1, 2] [0] := ⟨rfl, rfl, rfl, rfl, rfl, by decide⟩
                refine kw_go_i hs988 hP hD hS hA (va_runV (As := []) (rest := [.int (nI j92)]) ⟨hx, hb, hml, hown, hts⟩ (gr_manyGleaners l D y mo to ke ik mrf ha r0 mbr mbp mby an va mab mbl bl ta tl tk vv ft fi 5 mi no un hk0_ hk1_ hk2_ hk3_ hk4_ hkt hfi hgl hmi hno hun _) (cwV 0 hts gX11_enough_X11_manyGleaners rfl rfl rfl (by decide +kernel) ⟨Nat.le_of_ble_eq_true rfl, Nat.le_of_ble_eq_true rfl⟩) (kw_PreV (ci := 11) (q0 := 1) hs988 hP hD hK hN rfl rfl) rfl rfl hl.1 rfl (lv_room (Nat.le_of_ble_eq_true rfl)) dX11_enough_42 ⟨Nat.le_of_ble_eq_true rfl, Nat.le_of_ble_eq_true rfl⟩) (fun r989 u990 H locs hq hP hD hS => ?_)
                obtain rfl := hq
                have hP : va_P D vwCl [(mrf, .inl (y 0, 3, .inl frf)), (mo, .inr (11, [.ref to, .ref ke, .ref ik, .ref mrf, .long mab, .long mbl, .ref ha, .ref r0, .ref mbr, .ref mbp, .ref mby, .int (nI bl), .int (nI ta), .int (nI tl), .int (nI tk), .int vv, .ref an, .ref va])), (to, .inl (y 0, 228, .inl ft))] H := hP
                have hD : va_D A [(mrf, .inl (y 0, 3, .inl frf)), (mo, .inr (11, [.ref to, .ref ke, .ref ik, .ref mrf, .long mab, .long mbl, .ref ha, .ref r0, .ref mbr, .ref mbp, .ref mby, .int (nI bl), .int (nI ta), .int (nI tl), .int (nI tk), .int vv, .ref an, .ref va])), (to, .inl (y 0, 228, .inl ft))] := hD
                refine lv_icmp_ge (tgt := 82) hx hb dX11_enough_45 (by decide) (fun h991 => ?_) (fun h992 => ?_)
                · skip
                  have h991 : 5 ≤ j92 := (nI_leI (a := 5) (b := j92) (by omega) (by omega)).mp h991
                  refine lv_iload hx hb dX11_enough_82 (lv_at hl 1 rfl) ?_
                  refine lv_iload_n hx hb dX11_enough_84 rfl (lv_at hl 5 rfl) ?_
                  refine lv_icmp_lt (tgt := 108) hx hb dX11_enough_85 (by decide) (fun h993 => ?_) (fun h994 => ?_)
                  · skip
                    refine lv_iload_n hx hb dX11_enough_108 rfl (lv_at hl 3 rfl) ?_
                    refine lv_istore_n (lv' := [(2, .int x868), (5, .int (nI j92)), (4, .int x966), (3, .int (nI j91)), (0, .ref mo), (1, .int (nI j4))]) hx hb dX11_enough_109 rfl hl (by decide) rfl (fun ls hl => ?_)
                    refine lv_iinc (v := (nI (j91 + 1))) (lv' := [(3, .int (nI (j91 + 1))), (2, .int x868), (5, .int (nI j92)), (4, .int x966), (0, .ref mo), (1, .int (nI j4))]) hx hb dX11_enough_110 hl (k := 3) rfl (nI_1 j91) (by decide) rfl (fun ls hl => ?_)
                    refine lv_goto (tgt := 23) hx hb dX11_enough_113 (by decide) ?_
                    exact ihj91 (j91 + 1) x868 H locs ls (by omega) (by omega)  (hP.sub [1, 0, 2] rfl) (hD.sub [1, 0, 2] (by decide) rfl) hS (lv_sub hl [0, 1, 4, 5] rfl)
                  · skip
                    refine lv_iload_n hx hb dX11_enough_88 rfl (lv_at hl 3 rfl) ?_
                    refine lv_iconst (v := (-1)) hx hb dX11_enough_89 (by decide) ?_
                    refine lv_icmp_eq (tgt := 104) hx hb dX11_enough_90 (by decide) (fun h995 => ?_) (fun h996 => ?_)
                    · skip
                      refine lv_iload_n hx hb dX11_enough_104 rfl (lv_at hl 2 rfl) ?_
                      refine lv_goto (tgt := 109) hx hb dX11_enough_105 (by decide) ?_
                      refine lv_istore_n (lv' := [(2, .int (nI j91)), (5, .int (nI j92)), (4, .int x966), (3, .int (nI j91)), (0, .ref mo), (1, .int (nI j4))]) hx hb dX11_enough_109 rfl hl (by decide) rfl (fun ls hl => ?_)
                      refine lv_iinc (v := (nI (j91 + 1))) (lv' := [(3, .int (nI (j91 + 1))), (2, .int (nI j91)), (5, .int (nI j92)), (4, .int x966), (0, .ref mo), (1, .int (nI j4))]) hx hb dX11_enough_110 hl (k := 3) rfl (nI_1 j91) (by decide) rfl (fun ls hl => ?_)
                      refine lv_goto (tgt := 23) hx hb dX11_enough_113 (by decide) ?_
                      exact ihj91 (j91 + 1) (nI j91) H locs ls (by omega) (by omega)  (hP.sub [1, 0, 2] rfl) (hD.sub [1, 0, 2] (by decide) rfl) hS (lv_sub hl [0, 1, 4, 5] rfl)
                    · skip
                      refine lv_iload_n hx hb dX11_enough_93 rfl (lv_at hl 2 rfl) ?_
                      have hs997 : kw_Split [(mrf, .inl (y 0, 3, .inl frf)), (mo, .inr (11, [.ref to, .ref ke, .ref ik, .ref mrf, .long mab, .long mbl, .ref ha, .ref r0, .ref mbr, .ref mbp, .ref mby, .int (nI bl), .int (nI ta), .int (nI tl), .int (nI tk), .int vv, .ref an, .ref va])), (to, .inl (y 0, 228, .inl ft))] [] [(mrf, .inl (y 0, 3, .inl frf)), (mo, .inr (11, [.ref to, .ref ke, .ref ik, .ref mrf, .long mab, .long mbl, .ref ha, .ref r0, .ref mbr, .ref mbp, .ref mby, .int (nI bl), .int (nI ta), .int (nI tl), .int (nI tk), .int vv, .ref an, .ref va])), (to, .inl (y 0, 228, .inl ft))] [] [0, 1, 2] := ⟨rfl, rfl, rfl, rfl, rfl, by decide⟩
                      refine kw_go_i hs997 hP hD hS hA (va_runS (As := [.int (nI j91)]) (rest := []) ⟨hx, hb, hml, hown, hts⟩ (gr_bits l D y (nI j91)  _) (va_cwS 1 hts gX11_enough_X11_bits rfl rfl rfl (by decide +kernel) ⟨Nat.le_of_ble_eq_true rfl, Nat.le_of_ble_eq_true rfl⟩) (kw_PreS hs997 hP hD hK hN) rfl rfl hl.1 rfl (lv_room (Nat.le_of_ble_eq_true rfl)) dX11_enough_94 ⟨Nat.le_of_ble_eq_true rfl, Nat.le_of_ble_eq_true rfl⟩) (fun r998 u999 H locs hq hP hD hS => ?_)
                      have hP : va_P D vwCl [(mrf, .inl (y 0, 3, .inl frf)), (mo, .inr (11, [.ref to, .ref ke, .ref ik, .ref mrf, .long mab, .long mbl, .ref ha, .ref r0, .ref mbr, .ref mbp, .ref mby, .int (nI bl), .int (nI ta), .int (nI tl), .int (nI tk), .int vv, .ref an, .ref va])), (to, .inl (y 0, 228, .inl ft))] H := hP
                      have hD : va_D A [(mrf, .inl (y 0, 3, .inl frf)), (mo, .inr (11, [.ref to, .ref ke, .ref ik, .ref mrf, .long mab, .long mbl, .ref ha, .ref r0, .ref mbr, .ref mbp, .ref mby, .int (nI bl), .int (nI ta), .int (nI tl), .int (nI tk), .int vv, .ref an, .ref va])), (to, .inl (y 0, 228, .inl ft))] := hD
                      refine lv_iload_n hx hb dX11_enough_97 rfl (lv_at hl 3 rfl) ?_
                      have hs1000 : kw_Split [(mrf, .inl (y 0, 3, .inl frf)), (mo, .inr (11, [.ref to, .ref ke, .ref ik, .ref mrf, .long mab, .long mbl, .ref ha, .ref r0, .ref mbr, .ref mbp, .ref mby, .int (nI bl), .int (nI ta), .int (nI tl), .int (nI tk), .int vv, .ref an, .ref va])), (to, .inl (y 0, 228, .inl ft))] [] [(mrf, .inl (y 0, 3, .inl frf)), (mo, .inr (11, [.ref to, .ref ke, .ref ik, .ref mrf, .long mab, .long mbl, .ref ha, .ref r0, .ref mbr, .ref mbp, .ref mby, .int (nI bl), .int (nI ta), .int (nI tl), .int (nI tk), .int vv, .ref an, .ref va])), (to, .inl (y 0, 228, .inl ft))] [] [0, 1, 2] := ⟨rfl, rfl, rfl, rfl, rfl, by decide⟩
                      refine kw_go_i hs1000 hP hD hS hA (va_runS (As := [.int x868]) (rest := [.int r998]) ⟨hx, hb, hml, hown, hts⟩ (gr_bits l D y x868  _) (va_cwS 1 hts gX11_enough_X11_bits rfl rfl rfl (by decide +kernel) ⟨Nat.le_of_ble_eq_true rfl, Nat.le_of_ble_eq_true rfl⟩) (kw_PreS hs1000 hP hD hK hN) rfl rfl hl.1 rfl (lv_room (Nat.le_of_ble_eq_true rfl)) dX11_enough_98 ⟨Nat.le_of_ble_eq_true rfl, Nat.le_of_ble_eq_true rfl⟩) (fun r1001 u1002 H locs hq hP hD hS => ?_)
                      have hP : va_P D vwCl [(mrf, .inl (y 0, 3, .inl frf)), (mo, .inr (11, [.ref to, .ref ke, .ref ik, .ref mrf, .long mab, .long mbl, .ref ha, .ref r0, .ref mbr, .ref mbp, .ref mby, .int (nI bl), .int (nI ta), .int (nI tl), .int (nI tk), .int vv, .ref an, .ref va])), (to, .inl (y 0, 228, .inl ft))] H := hP
                      have hD : va_D A [(mrf, .inl (y 0, 3, .inl frf)), (mo, .inr (11, [.ref to, .ref ke, .ref ik, .ref mrf, .long mab, .long mbl, .ref ha, .ref r0, .ref mbr, .ref mbp, .ref mby, .int (nI bl), .int (nI ta), .int (nI tl), .int (nI tk), .int vv, .ref an, .ref va])), (to, .inl (y 0, 228, .inl ft))] := hD
                      refine lv_icmp_ge (tgt := 108) hx hb dX11_enough_101 (by decide) (fun h1003 => ?_) (fun h1004 => ?_)
                      · skip
                        refine lv_iload_n hx hb dX11_enough_108 rfl (lv_at hl 3 rfl) ?_
                        refine lv_istore_n (lv' := [(2, .int x868), (5, .int (nI j92)), (4, .int x966), (3, .int (nI j91)), (0, .ref mo), (1, .int (nI j4))]) hx hb dX11_enough_109 rfl hl (by decide) rfl (fun ls hl => ?_)
                        refine lv_iinc (v := (nI (j91 + 1))) (lv' := [(3, .int (nI (j91 + 1))), (2, .int x868), (5, .int (nI j92)), (4, .int x966), (0, .ref mo), (1, .int (nI j4))]) hx hb dX11_enough_110 hl (k := 3) rfl (nI_1 j91) (by decide) rfl (fun ls hl => ?_)
                        refine lv_goto (tgt := 23) hx hb dX11_enough_113 (by decide) ?_
                        exact ihj91 (j91 + 1) x868 H locs ls (by omega) (by omega)  (hP.sub [1, 0, 2] rfl) (hD.sub [1, 0, 2] (by decide) rfl) hS (lv_sub hl [0, 1, 4, 5] rfl)
                      · skip
                        refine lv_iload_n hx hb dX11_enough_104 rfl (lv_at hl 2 rfl) ?_
                        refine lv_goto (tgt := 109) hx hb dX11_enough_105 (by decide) ?_
                        refine lv_istore_n (lv' := [(2, .int (nI j91)), (5, .int (nI j92)), (4, .int x966), (3, .int (nI j91)), (0, .ref mo), (1, .int (nI j4))]) hx hb dX11_enough_109 rfl hl (by decide) rfl (fun ls hl => ?_)
                        refine lv_iinc (v := (nI (j91 + 1))) (lv' := [(3, .int (nI (j91 + 1))), (2, .int (nI j91)), (5, .int (nI j92)), (4, .int x966), (0, .ref mo), (1, .int (nI j4))]) hx hb dX11_enough_110 hl (k := 3) rfl (nI_1 j91) (by decide) rfl (fun ls hl => ?_)
                        refine lv_goto (tgt := 23) hx hb dX11_enough_113 (by decide) ?_
                        exact ihj91 (j91 + 1) (nI j91) H locs ls (by omega) (by omega)  (hP.sub [1, 0, 2] rfl) (hD.sub [1, 0, 2] (by decide) rfl) hS (lv_sub hl [0, 1, 4, 5] rfl)
                · skip
                  have h992 : ¬ 5 ≤ j92 := fun q9 => h992 ((nI_leI (a := 5) (b := j92) (by omega) (by omega)).mpr q9)
                  refine lv_iload hx hb dX11_enough_48 (lv_at hl 1 rfl) ?_
                  refine lv_iload_n hx hb dX11_enough_50 rfl (lv_at hl 2 rfl) ?_
                  refine lv_iload hx hb dX11_enough_51 (lv_at hl 0 rfl) ?_
                  have hs1005 : kw_Split [(mrf, .inl (y 0, 3, .inl frf)), (mo, .inr (11, [.ref to, .ref ke, .ref ik, .ref mrf, .long mab, .long mbl, .ref ha, .ref r0, .ref mbr, .ref mbp, .ref mby, .int (nI bl), .int (nI ta), .int (nI tl), .int (nI tk), .int vv, .ref an, .ref va])), (to, .inl (y 0, 228, .inl ft))] [] [(mrf, .inl (y 0, 3, .inl frf)), (mo, .inr (11, [.ref to, .ref ke, .ref ik, .ref mrf, .long mab, .long mbl, .ref ha, .ref r0, .ref mbr, .ref mbp, .ref mby, .int (nI bl), .int (nI ta), .int (nI tl), .int (nI tk), .int vv, .ref an, .ref va])), (to, .inl (y 0, 228, .inl ft))] [] [0, 1, 2] := ⟨rfl, rfl, rfl, rfl, rfl, by decide⟩
                  refine kw_go_i hs1005 hP hD hS hA (va_runS (As := [.int (nI j91), .int (nI j92)]) (rest := [.int x966]) ⟨hx, hb, hml, hown, hts⟩ (gr_has l D y (nI j91) (nI j92)  _) (va_cwS 2 hts gX11_enough_X11_has rfl rfl rfl (by decide +kernel) ⟨Nat.le_of_ble_eq_true rfl, Nat.le_of_ble_eq_true rfl⟩) (kw_PreS hs1005 hP hD hK hN) rfl rfl hl.1 rfl (lv_room (Nat.le_of_ble_eq_true rfl)) dX11_enough_53 ⟨Nat.le_of_ble_eq_true rfl, Nat.le_of_ble_eq_true rfl⟩) (fun r1006 u1007 H locs hq hP hD hS => ?_)
                  obtain (rfl | rfl) := hq
                  · skip
                    have hP : va_P D vwCl [(mrf, .inl (y 0, 3, .inl frf)), (mo, .inr (11, [.ref to, .ref ke, .ref ik, .ref mrf, .long mab, .long mbl, .ref ha, .ref r0, .ref mbr, .ref mbp, .ref mby, .int (nI bl), .int (nI ta), .int (nI tl), .int (nI tk), .int vv, .ref an, .ref va])), (to, .inl (y 0, 228, .inl ft))] H := hP
                    have hD : va_D A [(mrf, .inl (y 0, 3, .inl frf)), (mo, .inr (11, [.ref to, .ref ke, .ref ik, .ref mrf, .long mab, .long mbl, .ref ha, .ref r0, .ref mbr, .ref mbp, .ref mby, .int (nI bl), .int (nI ta), .int (nI tl), .int (nI tk), .int vv, .ref an, .ref va])), (to, .inl (y 0, 228, .inl ft))] := hD
                    refine lv_if_eq (tgt := 72) hx hb dX11_enough_56 (by decide) (fun _ => ?_) (fun h9 => absurd h9 (by decide))
                    refine lv_iconst (v := 0) hx hb dX11_enough_72 (by decide) ?_
                    refine lv_iadd hx hb dX11_enough_73 ?_
                    refine lv_istore (lv' := [(4, .int (x966 + 0)), (5, .int (nI j92)), (3, .int (nI j91)), (2, .int x868), (0, .ref mo), (1, .int (nI j4))]) hx hb dX11_enough_74 hl (by decide) rfl (fun ls hl => ?_)
                    refine lv_iinc (v := (nI (j92 + 1))) (lv' := [(5, .int (nI (j92 + 1))), (4, .int (x966 + 0)), (3, .int (nI j91)), (2, .int x868), (0, .ref mo), (1, .int (nI j4))]) hx hb dX11_enough_76 hl (k := 1) rfl (nI_1 j92) (by decide) rfl (fun ls hl => ?_)
                    refine lv_goto (tgt := 39) hx hb dX11_enough_79 (by decide) ?_
                    exact ihj92 (j92 + 1) (x966 + 0) H locs ls (by omega) (by omega)  (hP.sub [0, 1, 2] rfl) (hD.sub [0, 1, 2] (by decide) rfl) hS (lv_sub hl [0, 1, 2, 3, 4, 5] rfl)
                  · skip
                    have hP : va_P D vwCl [(mrf, .inl (y 0, 3, .inl frf)), (mo, .inr (11, [.ref to, .ref ke, .ref ik, .ref mrf, .long mab, .long mbl, .ref ha, .ref r0, .ref mbr, .ref mbp, .ref mby, .int (nI bl), .int (nI ta), .int (nI tl), .int (nI tk), .int vv, .ref an, .ref va])), (to, .inl (y 0, 228, .inl ft))] H := hP
                    have hD : va_D A [(mrf, .inl (y 0, 3, .inl frf)), (mo, .inr (11, [.ref to, .ref ke, .ref ik, .ref mrf, .long mab, .long mbl, .ref ha, .ref r0, .ref mbr, .ref mbp, .ref mby, .int (nI bl), .int (nI ta), .int (nI tl), .int (nI tk), .int vv, .ref an, .ref va])), (to, .inl (y 0, 228, .inl ft))] := hD
                    refine lv_if_eq (tgt := 72) hx hb dX11_enough_56 (by decide) (fun h9 => absurd h9 (by decide)) (fun _ => ?_)
                    refine lv_aload_n hx hb dX11_enough_59 rfl (lv_at hl 4 rfl) ?_
                    refine va_get (D := D) (ci := 11) (v := .ref to) (C := RX11) (T := TX11) (N := 18) hx hb hts iw11 hown hK hP 1 rfl rfl 0 (by decide) fw2 (fun _ h9 => h9) rfl dX11_enough_60 ?_
                    refine lv_bipush (v := 16) hx hb dX11_enough_63 (by decide) ?_
                    refine lv_iload hx hb dX11_enough_65 (lv_at hl 0 rfl) ?_
                    refine lv_iadd hx hb dX11_enough_67 ?_
                    rw [show 16 + (nI j92) = nI (j92 + 16) from (nI_add 16 j92).trans (congrArg nI (by omega))]
                    refine va_iald hx hb hK hP 2 0 rfl rfl (vp_in_nI (by omega) (by decide)) dX11_enough_68 ?_
                    rw [nI_clamp (n := (j92 + 16)) (by omega)]
                    refine lv_goto (tgt := 73) hx hb dX11_enough_69 (by decide) ?_
                    refine lv_iadd hx hb dX11_enough_73 ?_
                    refine lv_istore (lv' := [(4, .int (x966 + (ft (j92 + 16)))), (5, .int (nI j92)), (3, .int (nI j91)), (2, .int x868), (0, .ref mo), (1, .int (nI j4))]) hx hb dX11_enough_74 hl (by decide) rfl (fun ls hl => ?_)
                    refine lv_iinc (v := (nI (j92 + 1))) (lv' := [(5, .int (nI (j92 + 1))), (4, .int (x966 + (ft (j92 + 16)))), (3, .int (nI j91)), (2, .int x868), (0, .ref mo), (1, .int (nI j4))]) hx hb dX11_enough_76 hl (k := 1) rfl (nI_1 j92) (by decide) rfl (fun ls hl => ?_)
                    refine lv_goto (tgt := 39) hx hb dX11_enough_79 (by decide) ?_
                    exact ihj92 (j92 + 1) (x966 + (ft (j92 + 16))) H locs ls (by omega) (by omega)  (hP.sub [0, 1, 2] rfl) (hD.sub [0, 1, 2] (by decide) rfl) hS (lv_sub hl [0, 1, 2, 3, 4, 5] rfl)
            exact lp987 (5 + 1) 0 0 _ _ _ (by omega) (by omega)  hP hD hS (lv_sub hl [0, 1, 2, 3, 4, 5] rfl)
      exact lp938 (32 + 1) 0 (-1) _ _ _ (by omega) (by omega)  hP hD hS (lv_sub hl [0, 1, 2, 3] rfl)
  · skip
    have hP : va_P D vwCl [(mo, .inr (11, [.ref to, .ref ke, .ref ik, .ref mrf, .long mab, .long mbl, .ref ha, .ref r0, .ref mbr, .ref mbp, .ref mby, .int (nI bl), .int (nI ta), .int (nI tl), .int (nI tk), .int vv, .ref an, .ref va])), (mrf, .inl (y 0, 3, .inl frf)), (to, .inl (y 0, 228, .inl ft))] H := hP
    have hD : va_D A [(mo, .inr (11, [.ref to, .ref ke, .ref ik, .ref mrf, .long mab, .long mbl, .ref ha, .ref r0, .ref mbr, .ref mbp, .ref mby, .int (nI bl), .int (nI ta), .int (nI tl), .int (nI tk), .int vv, .ref an, .ref va])), (mrf, .inl (y 0, 3, .inl frf)), (to, .inl (y 0, 228, .inl ft))] := hD
    refine lv_if_ne (tgt := 19) hx hb dX11_enough_9 (by decide) (fun h9 => absurd h9 (by decide)) (fun _ => ?_)
    refine lv_aload_n hx hb dX11_enough_12 rfl (lv_at hl 0 rfl) ?_
    refine lv_bipush (v := (-2)) hx hb dX11_enough_13 (by decide) ?_
    have hs1008 : kw_Split [(mo, .inr (11, [.ref to, .ref ke, .ref ik, .ref mrf, .long mab, .long mbl, .ref ha, .ref r0, .ref mbr, .ref mbp, .ref mby, .int (nI bl), .int (nI ta), .int (nI tl), .int (nI tk), .int vv, .ref an, .ref va])), (mrf, .inl (y 0, 3, .inl frf)), (to, .inl (y 0, 228, .inl ft))] [(mo, .inr (11, [.ref to, .ref ke, .ref ik, .ref mrf, .long mab, .long mbl, .ref ha, .ref r0, .ref mbr, .ref mbp, .ref mby, .int (nI bl), .int (nI ta), .int (nI tl), .int (nI tk), .int vv, .ref an, .ref va])), (mrf, .inl (y 0, 3, .inl frf))] [(to, .inl (y 0, 228, .inl ft))] [0, 1] [2] := ⟨rfl, rfl, rfl, rfl, rfl, by decide⟩
    refine kw_go_i hs1008 hP hD hS hA (va_runV (As := [.int (-2)]) (rest := []) ⟨hx, hb, hml, hown, hts⟩ (gr_bad l D y mo to ke ik mrf ha r0 mbr mbp mby an va mab mbl bl ta tl tk vv frf (-2)  _) (cwV 1 hts gX11_enough_X11_bad rfl rfl rfl (by decide +kernel) ⟨Nat.le_of_ble_eq_true rfl, Nat.le_of_ble_eq_true rfl⟩) (kw_PreV (ci := 11) (q0 := 0) hs1008 hP hD hK hN rfl rfl) rfl rfl hl.1 rfl (lv_room (Nat.le_of_ble_eq_true rfl)) dX11_enough_15 ⟨Nat.le_of_ble_eq_true rfl, Nat.le_of_ble_eq_true rfl⟩) (fun r1009 u1010 H locs hq hP hD hS => ?_)
    obtain rfl := hq
    have hP : va_P D vwCl [(to, .inl (y 0, 228, .inl ft)), (mo, .inr (11, [.ref to, .ref ke, .ref ik, .ref mrf, .long mab, .long mbl, .ref ha, .ref r0, .ref mbr, .ref mbp, .ref mby, .int (nI bl), .int (nI ta), .int (nI tl), .int (nI tk), .int vv, .ref an, .ref va])), (mrf, .inl (y 0, 3, .inl (upd frf 0 ((frf 0) + 1))))] H := hP
    have hD : va_D A [(to, .inl (y 0, 228, .inl ft)), (mo, .inr (11, [.ref to, .ref ke, .ref ik, .ref mrf, .long mab, .long mbl, .ref ha, .ref r0, .ref mbr, .ref mbp, .ref mby, .int (nI bl), .int (nI ta), .int (nI tl), .int (nI tk), .int vv, .ref an, .ref va])), (mrf, .inl (y 0, 3, .inl (upd frf 0 ((frf 0) + 1))))] := hD
    exact W.iret (v := (-2)) hx hb hr (fun tZ ht hW => ⟨⟨(-2), ((upd frf 0 ((frf 0) + 1))), rfl, by first | omega | (dsimp only; omega), by rw [ht]; exact hP.sub [1, 2, 0] rfl, hD.sub [1, 2, 0] (by decide) rfl⟩, hS.F ht⟩) hS.2.2 dX11_enough_18

set_option maxHeartbeats 4000000 in
set_option maxRecDepth 100000 in
theorem gr_pow1 (l : Launch) (D : va_G) (y : Nat → ClassId)   : kw_Mi l yX11_powerOfThree wsX11_powerOfThree ({ frames := 1, cells := 0, slots := 0, locals := 60 }) D y [.int 1] [] (fun (r : Int32) (u : Unit) => r = 3) (fun _ => []) 0 0 := by
  refine kw_Mi.of (cc := cX11_powerOfThree) (maxL := 3) (ret := (some .int)) (by decide) rfl ?_
  intro pZ eZ s mZ beZ meZ cZ A hE
  obtain ⟨hx, hb, hr, hml, hts, hown, hlocks, hin, hA, hP, hD, hK, hN⟩ := hE
  have hS : va_S A s.heap s.heap [] := va_S.rf
  have hl := lv_entry ([.int 1]) (n := 3) (Nat.le_of_ble_eq_true rfl)
  rw [lg_entry_eq]
  generalize (lg_sl ([.int 1]) ++ List.replicate (3 - (lg_sl ([.int 1])).length) Slot.unset).toArray = ls at hl ⊢
  have hl : lv_has ls 3 [(0, .int 1)] := hl
  refine lv_iconst (v := 1) hx hb dX11_powerOfThree_0 (by decide) ?_
  refine lv_istore_n (lv' := [(1, .int 1), (0, .int 1)]) hx hb dX11_powerOfThree_1 rfl hl (by decide) rfl (fun ls hl => ?_)
  refine lv_iconst (v := 0) hx hb dX11_powerOfThree_2 (by decide) ?_
  refine lv_istore_n (lv' := [(2, .int 0), (1, .int 1), (0, .int 1)]) hx hb dX11_powerOfThree_3 rfl hl (by decide) rfl (fun ls hl => ?_)
  refine lv_iload_n hx hb dX11_powerOfThree_4 rfl (lv_at hl 0 rfl) ?_
  refine lv_iload_n hx hb dX11_powerOfThree_5 rfl (lv_at hl 2 rfl) ?_
  refine lv_icmp_ge (tgt := 19) hx hb dX11_powerOfThree_6 (by decide) (fun h9 => absurd h9 (by decide)) (fun _ => ?_)
  refine lv_iload_n hx hb dX11_powerOfThree_9 rfl (lv_at hl 1 rfl) ?_
  refine lv_iconst (v := 3) hx hb dX11_powerOfThree_10 (by decide) ?_
  refine lv_imul hx hb dX11_powerOfThree_11 ?_
  refine lv_topi (fun z1 hz1 => ?_)
  obtain rfl : z1 = 3 := hz1.trans (by decide)
  refine lv_istore_n (lv' := [(1, .int 3), (2, .int 0), (0, .int 1)]) hx hb dX11_powerOfThree_12 rfl hl (by decide) rfl (fun ls hl => ?_)
  refine lv_iinc (v := 1) (lv' := [(2, .int 1), (1, .int 3), (0, .int 1)]) hx hb dX11_powerOfThree_13 hl (k := 1) rfl (by decide) (by decide) rfl (fun ls hl => ?_)
  refine lv_goto (tgt := 4) hx hb dX11_powerOfThree_16 (by decide) ?_
  refine lv_iload_n hx hb dX11_powerOfThree_4 rfl (lv_at hl 0 rfl) ?_
  refine lv_iload_n hx hb dX11_powerOfThree_5 rfl (lv_at hl 2 rfl) ?_
  refine lv_icmp_ge (tgt := 19) hx hb dX11_powerOfThree_6 (by decide) (fun _ => ?_) (fun h9 => absurd h9 (by decide))
  refine lv_iload_n hx hb dX11_powerOfThree_19 rfl (lv_at hl 1 rfl) ?_
  exact W.iret (v := 3) hx hb hr (fun tZ ht hW => ⟨⟨3, (), rfl, rfl, by rw [ht]; exact hP.sub [] rfl, hD.sub [] (by decide) rfl⟩, hS.F ht⟩) hS.2.2 dX11_powerOfThree_20

set_option maxHeartbeats 4000000 in
set_option maxRecDepth 100000 in
theorem gr_pow2 (l : Launch) (D : va_G) (y : Nat → ClassId)   : kw_Mi l yX11_powerOfThree wsX11_powerOfThree ({ frames := 1, cells := 0, slots := 0, locals := 60 }) D y [.int 2] [] (fun (r : Int32) (u : Unit) => r = 9) (fun _ => []) 0 0 := by
  refine kw_Mi.of (cc := cX11_powerOfThree) (maxL := 3) (ret := (some .int)) (by decide) rfl ?_
  intro pZ eZ s mZ beZ meZ cZ A hE
  obtain ⟨hx, hb, hr, hml, hts, hown, hlocks, hin, hA, hP, hD, hK, hN⟩ := hE
  have hS : va_S A s.heap s.heap [] := va_S.rf
  have hl := lv_entry ([.int 2]) (n := 3) (Nat.le_of_ble_eq_true rfl)
  rw [lg_entry_eq]
  generalize (lg_sl ([.int 2]) ++ List.replicate (3 - (lg_sl ([.int 2])).length) Slot.unset).toArray = ls at hl ⊢
  have hl : lv_has ls 3 [(0, .int 2)] := hl
  refine lv_iconst (v := 1) hx hb dX11_powerOfThree_0 (by decide) ?_
  refine lv_istore_n (lv' := [(1, .int 1), (0, .int 2)]) hx hb dX11_powerOfThree_1 rfl hl (by decide) rfl (fun ls hl => ?_)
  refine lv_iconst (v := 0) hx hb dX11_powerOfThree_2 (by decide) ?_
  refine lv_istore_n (lv' := [(2, .int 0), (1, .int 1), (0, .int 2)]) hx hb dX11_powerOfThree_3 rfl hl (by decide) rfl (fun ls hl => ?_)
  refine lv_iload_n hx hb dX11_powerOfThree_4 rfl (lv_at hl 0 rfl) ?_
  refine lv_iload_n hx hb dX11_powerOfThree_5 rfl (lv_at hl 2 rfl) ?_
  refine lv_icmp_ge (tgt := 19) hx hb dX11_powerOfThree_6 (by decide) (fun h9 => absurd h9 (by decide)) (fun _ => ?_)
  refine lv_iload_n hx hb dX11_powerOfThree_9 rfl (lv_at hl 1 rfl) ?_
  refine lv_iconst (v := 3) hx hb dX11_powerOfThree_10 (by decide) ?_
  refine lv_imul hx hb dX11_powerOfThree_11 ?_
  refine lv_topi (fun z1 hz1 => ?_)
  obtain rfl : z1 = 3 := hz1.trans (by decide)
  refine lv_istore_n (lv' := [(1, .int 3), (2, .int 0), (0, .int 2)]) hx hb dX11_powerOfThree_12 rfl hl (by decide) rfl (fun ls hl => ?_)
  refine lv_iinc (v := 1) (lv' := [(2, .int 1), (1, .int 3), (0, .int 2)]) hx hb dX11_powerOfThree_13 hl (k := 1) rfl (by decide) (by decide) rfl (fun ls hl => ?_)
  refine lv_goto (tgt := 4) hx hb dX11_powerOfThree_16 (by decide) ?_
  refine lv_iload_n hx hb dX11_powerOfThree_4 rfl (lv_at hl 0 rfl) ?_
  refine lv_iload_n hx hb dX11_powerOfThree_5 rfl (lv_at hl 2 rfl) ?_
  refine lv_icmp_ge (tgt := 19) hx hb dX11_powerOfThree_6 (by decide) (fun h9 => absurd h9 (by decide)) (fun _ => ?_)
  refine lv_iload_n hx hb dX11_powerOfThree_9 rfl (lv_at hl 1 rfl) ?_
  refine lv_iconst (v := 3) hx hb dX11_powerOfThree_10 (by decide) ?_
  refine lv_imul hx hb dX11_powerOfThree_11 ?_
  refine lv_topi (fun z2 hz2 => ?_)
  obtain rfl : z2 = 9 := hz2.trans (by decide)
  refine lv_istore_n (lv' := [(1, .int 9), (2, .int 1), (0, .int 2)]) hx hb dX11_powerOfThree_12 rfl hl (by decide) rfl (fun ls hl => ?_)
  refine lv_iinc (v := 2) (lv' := [(2, .int 2), (1, .int 9), (0, .int 2)]) hx hb dX11_powerOfThree_13 hl (k := 1) rfl (by decide) (by decide) rfl (fun ls hl => ?_)
  refine lv_goto (tgt := 4) hx hb dX11_powerOfThree_16 (by decide) ?_
  refine lv_iload_n hx hb dX11_powerOfThree_4 rfl (lv_at hl 0 rfl) ?_
  refine lv_iload_n hx hb dX11_powerOfThree_5 rfl (lv_at hl 2 rfl) ?_
  refine lv_icmp_ge (tgt := 19) hx hb dX11_powerOfThree_6 (by decide) (fun _ => ?_) (fun h9 => absurd h9 (by decide))
  refine lv_iload_n hx hb dX11_powerOfThree_19 rfl (lv_at hl 1 rfl) ?_
  exact W.iret (v := 9) hx hb hr (fun tZ ht hW => ⟨⟨9, (), rfl, rfl, by rw [ht]; exact hP.sub [] rfl, hD.sub [] (by decide) rfl⟩, hS.F ht⟩) hS.2.2 dX11_powerOfThree_20

set_option maxHeartbeats 4000000 in
set_option maxRecDepth 100000 in
theorem gr_pow3 (l : Launch) (D : va_G) (y : Nat → ClassId)   : kw_Mi l yX11_powerOfThree wsX11_powerOfThree ({ frames := 1, cells := 0, slots := 0, locals := 60 }) D y [.int 3] [] (fun (r : Int32) (u : Unit) => r = 27) (fun _ => []) 0 0 := by
  refine kw_Mi.of (cc := cX11_powerOfThree) (maxL := 3) (ret := (some .int)) (by decide) rfl ?_
  intro pZ eZ s mZ beZ meZ cZ A hE
  obtain ⟨hx, hb, hr, hml, hts, hown, hlocks, hin, hA, hP, hD, hK, hN⟩ := hE
  have hS : va_S A s.heap s.heap [] := va_S.rf
  have hl := lv_entry ([.int 3]) (n := 3) (Nat.le_of_ble_eq_true rfl)
  rw [lg_entry_eq]
  generalize (lg_sl ([.int 3]) ++ List.replicate (3 - (lg_sl ([.int 3])).length) Slot.unset).toArray = ls at hl ⊢
  have hl : lv_has ls 3 [(0, .int 3)] := hl
  refine lv_iconst (v := 1) hx hb dX11_powerOfThree_0 (by decide) ?_
  refine lv_istore_n (lv' := [(1, .int 1), (0, .int 3)]) hx hb dX11_powerOfThree_1 rfl hl (by decide) rfl (fun ls hl => ?_)
  refine lv_iconst (v := 0) hx hb dX11_powerOfThree_2 (by decide) ?_
  refine lv_istore_n (lv' := [(2, .int 0), (1, .int 1), (0, .int 3)]) hx hb dX11_powerOfThree_3 rfl hl (by decide) rfl (fun ls hl => ?_)
  refine lv_iload_n hx hb dX11_powerOfThree_4 rfl (lv_at hl 0 rfl) ?_
  refine lv_iload_n hx hb dX11_powerOfThree_5 rfl (lv_at hl 2 rfl) ?_
  refine lv_icmp_ge (tgt := 19) hx hb dX11_powerOfThree_6 (by decide) (fun h9 => absurd h9 (by decide)) (fun _ => ?_)
  refine lv_iload_n hx hb dX11_powerOfThree_9 rfl (lv_at hl 1 rfl) ?_
  refine lv_iconst (v := 3) hx hb dX11_powerOfThree_10 (by decide) ?_
  refine lv_imul hx hb dX11_powerOfThree_11 ?_
  refine lv_topi (fun z1 hz1 => ?_)
  obtain rfl : z1 = 3 := hz1.trans (by decide)
  refine lv_istore_n (lv' := [(1, .int 3), (2, .int 0), (0, .int 3)]) hx hb dX11_powerOfThree_12 rfl hl (by decide) rfl (fun ls hl => ?_)
  refine lv_iinc (v := 1) (lv' := [(2, .int 1), (1, .int 3), (0, .int 3)]) hx hb dX11_powerOfThree_13 hl (k := 1) rfl (by decide) (by decide) rfl (fun ls hl => ?_)
  refine lv_goto (tgt := 4) hx hb dX11_powerOfThree_16 (by decide) ?_
  refine lv_iload_n hx hb dX11_powerOfThree_4 rfl (lv_at hl 0 rfl) ?_
  refine lv_iload_n hx hb dX11_powerOfThree_5 rfl (lv_at hl 2 rfl) ?_
  refine lv_icmp_ge (tgt := 19) hx hb dX11_powerOfThree_6 (by decide) (fun h9 => absurd h9 (by decide)) (fun _ => ?_)
  refine lv_iload_n hx hb dX11_powerOfThree_9 rfl (lv_at hl 1 rfl) ?_
  refine lv_iconst (v := 3) hx hb dX11_powerOfThree_10 (by decide) ?_
  refine lv_imul hx hb dX11_powerOfThree_11 ?_
  refine lv_topi (fun z2 hz2 => ?_)
  obtain rfl : z2 = 9 := hz2.trans (by decide)
  refine lv_istore_n (lv' := [(1, .int 9), (2, .int 1), (0, .int 3)]) hx hb dX11_powerOfThree_12 rfl hl (by decide) rfl (fun ls hl => ?_)
  refine lv_iinc (v := 2) (lv' := [(2, .int 2), (1, .int 9), (0, .int 3)]) hx hb dX11_powerOfThree_13 hl (k := 1) rfl (by decide) (by decide) rfl (fun ls hl => ?_)
  refine lv_goto (tgt := 4) hx hb dX11_powerOfThree_16 (by decide) ?_
  refine lv_iload_n hx hb dX11_powerOfThree_4 rfl (lv_at hl 0 rfl) ?_
  refine lv_iload_n hx hb dX11_powerOfThree_5 rfl (lv_at hl 2 rfl) ?_
  refine lv_icmp_ge (tgt := 19) hx hb dX11_powerOfThree_6 (by decide) (fun h9 => absurd h9 (by decide)) (fun _ => ?_)
  refine lv_iload_n hx hb dX11_powerOfThree_9 rfl (lv_at hl 1 rfl) ?_
  refine lv_iconst (v := 3) hx hb dX11_powerOfThree_10 (by decide) ?_
  refine lv_imul hx hb dX11_powerOfThree_11 ?_
  refine lv_topi (fun z3 hz3 => ?_)
  obtain rfl : z3 = 27 := hz3.trans (by decide)
  refine lv_istore_n (lv' := [(1, .int 27), (2, .int 2), (0, .int 3)]) hx hb dX11_powerOfThree_12 rfl hl (by decide) rfl (fun ls hl => ?_)
  refine lv_iinc (v := 3) (lv' := [(2, .int 3), (1, .int 27), (0, .int 3)]) hx hb dX11_powerOfThree_13 hl (k := 1) rfl (by decide) (by decide) rfl (fun ls hl => ?_)
  refine lv_goto (tgt := 4) hx hb dX11_powerOfThree_16 (by decide) ?_
  refine lv_iload_n hx hb dX11_powerOfThree_4 rfl (lv_at hl 0 rfl) ?_
  refine lv_iload_n hx hb dX11_powerOfThree_5 rfl (lv_at hl 2 rfl) ?_
  refine lv_icmp_ge (tgt := 19) hx hb dX11_powerOfThree_6 (by decide) (fun _ => ?_) (fun h9 => absurd h9 (by decide))
  refine lv_iload_n hx hb dX11_powerOfThree_19 rfl (lv_at hl 1 rfl) ?_
  exact W.iret (v := 27) hx hb hr (fun tZ ht hW => ⟨⟨27, (), rfl, rfl, by rw [ht]; exact hP.sub [] rfl, hD.sub [] (by decide) rfl⟩, hS.F ht⟩) hS.2.2 dX11_powerOfThree_20

set_option maxHeartbeats 4000000 in
set_option maxRecDepth 100000 in
theorem gr_pow4 (l : Launch) (D : va_G) (y : Nat → ClassId)   : kw_Mi l yX11_powerOfThree wsX11_powerOfThree ({ frames := 1, cells := 0, slots := 0, locals := 60 }) D y [.int 4] [] (fun (r : Int32) (u : Unit) => r = 81) (fun _ => []) 0 0 := by
  refine kw_Mi.of (cc := cX11_powerOfThree) (maxL := 3) (ret := (some .int)) (by decide) rfl ?_
  intro pZ eZ s mZ beZ meZ cZ A hE
  obtain ⟨hx, hb, hr, hml, hts, hown, hlocks, hin, hA, hP, hD, hK, hN⟩ := hE
  have hS : va_S A s.heap s.heap [] := va_S.rf
  have hl := lv_entry ([.int 4]) (n := 3) (Nat.le_of_ble_eq_true rfl)
  rw [lg_entry_eq]
  generalize (lg_sl ([.int 4]) ++ List.replicate (3 - (lg_sl ([.int 4])).length) Slot.unset).toArray = ls at hl ⊢
  have hl : lv_has ls 3 [(0, .int 4)] := hl
  refine lv_iconst (v := 1) hx hb dX11_powerOfThree_0 (by decide) ?_
  refine lv_istore_n (lv' := [(1, .int 1), (0, .int 4)]) hx hb dX11_powerOfThree_1 rfl hl (by decide) rfl (fun ls hl => ?_)
  refine lv_iconst (v := 0) hx hb dX11_powerOfThree_2 (by decide) ?_
  refine lv_istore_n (lv' := [(2, .int 0), (1, .int 1), (0, .int 4)]) hx hb dX11_powerOfThree_3 rfl hl (by decide) rfl (fun ls hl => ?_)
  refine lv_iload_n hx hb dX11_powerOfThree_4 rfl (lv_at hl 0 rfl) ?_
  refine lv_iload_n hx hb dX11_powerOfThree_5 rfl (lv_at hl 2 rfl) ?_
  refine lv_icmp_ge (tgt := 19) hx hb dX11_powerOfThree_6 (by decide) (fun h9 => absurd h9 (by decide)) (fun _ => ?_)
  refine lv_iload_n hx hb dX11_powerOfThree_9 rfl (lv_at hl 1 rfl) ?_
  refine lv_iconst (v := 3) hx hb dX11_powerOfThree_10 (by decide) ?_
  refine lv_imul hx hb dX11_powerOfThree_11 ?_
  refine lv_topi (fun z1 hz1 => ?_)
  obtain rfl : z1 = 3 := hz1.trans (by decide)
  refine lv_istore_n (lv' := [(1, .int 3), (2, .int 0), (0, .int 4)]) hx hb dX11_powerOfThree_12 rfl hl (by decide) rfl (fun ls hl => ?_)
  refine lv_iinc (v := 1) (lv' := [(2, .int 1), (1, .int 3), (0, .int 4)]) hx hb dX11_powerOfThree_13 hl (k := 1) rfl (by decide) (by decide) rfl (fun ls hl => ?_)
  refine lv_goto (tgt := 4) hx hb dX11_powerOfThree_16 (by decide) ?_
  refine lv_iload_n hx hb dX11_powerOfThree_4 rfl (lv_at hl 0 rfl) ?_
  refine lv_iload_n hx hb dX11_powerOfThree_5 rfl (lv_at hl 2 rfl) ?_
  refine lv_icmp_ge (tgt := 19) hx hb dX11_powerOfThree_6 (by decide) (fun h9 => absurd h9 (by decide)) (fun _ => ?_)
  refine lv_iload_n hx hb dX11_powerOfThree_9 rfl (lv_at hl 1 rfl) ?_
  refine lv_iconst (v := 3) hx hb dX11_powerOfThree_10 (by decide) ?_
  refine lv_imul hx hb dX11_powerOfThree_11 ?_
  refine lv_topi (fun z2 hz2 => ?_)
  obtain rfl : z2 = 9 := hz2.trans (by decide)
  refine lv_istore_n (lv' := [(1, .int 9), (2, .int 1), (0, .int 4)]) hx hb dX11_powerOfThree_12 rfl hl (by decide) rfl (fun ls hl => ?_)
  refine lv_iinc (v := 2) (lv' := [(2, .int 2), (1, .int 9), (0, .int 4)]) hx hb dX11_powerOfThree_13 hl (k := 1) rfl (by decide) (by decide) rfl (fun ls hl => ?_)
  refine lv_goto (tgt := 4) hx hb dX11_powerOfThree_16 (by decide) ?_
  refine lv_iload_n hx hb dX11_powerOfThree_4 rfl (lv_at hl 0 rfl) ?_
  refine lv_iload_n hx hb dX11_powerOfThree_5 rfl (lv_at hl 2 rfl) ?_
  refine lv_icmp_ge (tgt := 19) hx hb dX11_powerOfThree_6 (by decide) (fun h9 => absurd h9 (by decide)) (fun _ => ?_)
  refine lv_iload_n hx hb dX11_powerOfThree_9 rfl (lv_at hl 1 rfl) ?_
  refine lv_iconst (v := 3) hx hb dX11_powerOfThree_10 (by decide) ?_
  refine lv_imul hx hb dX11_powerOfThree_11 ?_
  refine lv_topi (fun z3 hz3 => ?_)
  obtain rfl : z3 = 27 := hz3.trans (by decide)
  refine lv_istore_n (lv' := [(1, .int 27), (2, .int 2), (0, .int 4)]) hx hb dX11_powerOfThree_12 rfl hl (by decide) rfl (fun ls hl => ?_)
  refine lv_iinc (v := 3) (lv' := [(2, .int 3), (1, .int 27), (0, .int 4)]) hx hb dX11_powerOfThree_13 hl (k := 1) rfl (by decide) (by decide) rfl (fun ls hl => ?_)
  refine lv_goto (tgt := 4) hx hb dX11_powerOfThree_16 (by decide) ?_
  refine lv_iload_n hx hb dX11_powerOfThree_4 rfl (lv_at hl 0 rfl) ?_
  refine lv_iload_n hx hb dX11_powerOfThree_5 rfl (lv_at hl 2 rfl) ?_
  refine lv_icmp_ge (tgt := 19) hx hb dX11_powerOfThree_6 (by decide) (fun h9 => absurd h9 (by decide)) (fun _ => ?_)
  refine lv_iload_n hx hb dX11_powerOfThree_9 rfl (lv_at hl 1 rfl) ?_
  refine lv_iconst (v := 3) hx hb dX11_powerOfThree_10 (by decide) ?_
  refine lv_imul hx hb dX11_powerOfThree_11 ?_
  refine lv_topi (fun z4 hz4 => ?_)
  obtain rfl : z4 = 81 := hz4.trans (by decide)
  refine lv_istore_n (lv' := [(1, .int 81), (2, .int 3), (0, .int 4)]) hx hb dX11_powerOfThree_12 rfl hl (by decide) rfl (fun ls hl => ?_)
  refine lv_iinc (v := 4) (lv' := [(2, .int 4), (1, .int 81), (0, .int 4)]) hx hb dX11_powerOfThree_13 hl (k := 1) rfl (by decide) (by decide) rfl (fun ls hl => ?_)
  refine lv_goto (tgt := 4) hx hb dX11_powerOfThree_16 (by decide) ?_
  refine lv_iload_n hx hb dX11_powerOfThree_4 rfl (lv_at hl 0 rfl) ?_
  refine lv_iload_n hx hb dX11_powerOfThree_5 rfl (lv_at hl 2 rfl) ?_
  refine lv_icmp_ge (tgt := 19) hx hb dX11_powerOfThree_6 (by decide) (fun _ => ?_) (fun h9 => absurd h9 (by decide))
  refine lv_iload_n hx hb dX11_powerOfThree_19 rfl (lv_at hl 1 rfl) ?_
  exact W.iret (v := 81) hx hb hr (fun tZ ht hW => ⟨⟨81, (), rfl, rfl, by rw [ht]; exact hP.sub [] rfl, hD.sub [] (by decide) rfl⟩, hS.F ht⟩) hS.2.2 dX11_powerOfThree_20

set_option maxHeartbeats 4000000 in
set_option maxRecDepth 100000 in
theorem gr_pow5 (l : Launch) (D : va_G) (y : Nat → ClassId)   : kw_Mi l yX11_powerOfThree wsX11_powerOfThree ({ frames := 1, cells := 0, slots := 0, locals := 60 }) D y [.int 5] [] (fun (r : Int32) (u : Unit) => r = 243) (fun _ => []) 0 0 := by
  refine kw_Mi.of (cc := cX11_powerOfThree) (maxL := 3) (ret := (some .int)) (by decide) rfl ?_
  intro pZ eZ s mZ beZ meZ cZ A hE
  obtain ⟨hx, hb, hr, hml, hts, hown, hlocks, hin, hA, hP, hD, hK, hN⟩ := hE
  have hS : va_S A s.heap s.heap [] := va_S.rf
  have hl := lv_entry ([.int 5]) (n := 3) (Nat.le_of_ble_eq_true rfl)
  rw [lg_entry_eq]
  generalize (lg_sl ([.int 5]) ++ List.replicate (3 - (lg_sl ([.int 5])).length) Slot.unset).toArray = ls at hl ⊢
  have hl : lv_has ls 3 [(0, .int 5)] := hl
  refine lv_iconst (v := 1) hx hb dX11_powerOfThree_0 (by decide) ?_
  refine lv_istore_n (lv' := [(1, .int 1), (0, .int 5)]) hx hb dX11_powerOfThree_1 rfl hl (by decide) rfl (fun ls hl => ?_)
  refine lv_iconst (v := 0) hx hb dX11_powerOfThree_2 (by decide) ?_
  refine lv_istore_n (lv' := [(2, .int 0), (1, .int 1), (0, .int 5)]) hx hb dX11_powerOfThree_3 rfl hl (by decide) rfl (fun ls hl => ?_)
  refine lv_iload_n hx hb dX11_powerOfThree_4 rfl (lv_at hl 0 rfl) ?_
  refine lv_iload_n hx hb dX11_powerOfThree_5 rfl (lv_at hl 2 rfl) ?_
  refine lv_icmp_ge (tgt := 19) hx hb dX11_powerOfThree_6 (by decide) (fun h9 => absurd h9 (by decide)) (fun _ => ?_)
  refine lv_iload_n hx hb dX11_powerOfThree_9 rfl (lv_at hl 1 rfl) ?_
  refine lv_iconst (v := 3) hx hb dX11_powerOfThree_10 (by decide) ?_
  refine lv_imul hx hb dX11_powerOfThree_11 ?_
  refine lv_topi (fun z1 hz1 => ?_)
  obtain rfl : z1 = 3 := hz1.trans (by decide)
  refine lv_istore_n (lv' := [(1, .int 3), (2, .int 0), (0, .int 5)]) hx hb dX11_powerOfThree_12 rfl hl (by decide) rfl (fun ls hl => ?_)
  refine lv_iinc (v := 1) (lv' := [(2, .int 1), (1, .int 3), (0, .int 5)]) hx hb dX11_powerOfThree_13 hl (k := 1) rfl (by decide) (by decide) rfl (fun ls hl => ?_)
  refine lv_goto (tgt := 4) hx hb dX11_powerOfThree_16 (by decide) ?_
  refine lv_iload_n hx hb dX11_powerOfThree_4 rfl (lv_at hl 0 rfl) ?_
  refine lv_iload_n hx hb dX11_powerOfThree_5 rfl (lv_at hl 2 rfl) ?_
  refine lv_icmp_ge (tgt := 19) hx hb dX11_powerOfThree_6 (by decide) (fun h9 => absurd h9 (by decide)) (fun _ => ?_)
  refine lv_iload_n hx hb dX11_powerOfThree_9 rfl (lv_at hl 1 rfl) ?_
  refine lv_iconst (v := 3) hx hb dX11_powerOfThree_10 (by decide) ?_
  refine lv_imul hx hb dX11_powerOfThree_11 ?_
  refine lv_topi (fun z2 hz2 => ?_)
  obtain rfl : z2 = 9 := hz2.trans (by decide)
  refine lv_istore_n (lv' := [(1, .int 9), (2, .int 1), (0, .int 5)]) hx hb dX11_powerOfThree_12 rfl hl (by decide) rfl (fun ls hl => ?_)
  refine lv_iinc (v := 2) (lv' := [(2, .int 2), (1, .int 9), (0, .int 5)]) hx hb dX11_powerOfThree_13 hl (k := 1) rfl (by decide) (by decide) rfl (fun ls hl => ?_)
  refine lv_goto (tgt := 4) hx hb dX11_powerOfThree_16 (by decide) ?_
  refine lv_iload_n hx hb dX11_powerOfThree_4 rfl (lv_at hl 0 rfl) ?_
  refine lv_iload_n hx hb dX11_powerOfThree_5 rfl (lv_at hl 2 rfl) ?_
  refine lv_icmp_ge (tgt := 19) hx hb dX11_powerOfThree_6 (by decide) (fun h9 => absurd h9 (by decide)) (fun _ => ?_)
  refine lv_iload_n hx hb dX11_powerOfThree_9 rfl (lv_at hl 1 rfl) ?_
  refine lv_iconst (v := 3) hx hb dX11_powerOfThree_10 (by decide) ?_
  refine lv_imul hx hb dX11_powerOfThree_11 ?_
  refine lv_topi (fun z3 hz3 => ?_)
  obtain rfl : z3 = 27 := hz3.trans (by decide)
  refine lv_istore_n (lv' := [(1, .int 27), (2, .int 2), (0, .int 5)]) hx hb dX11_powerOfThree_12 rfl hl (by decide) rfl (fun ls hl => ?_)
  refine lv_iinc (v := 3) (lv' := [(2, .int 3), (1, .int 27), (0, .int 5)]) hx hb dX11_powerOfThree_13 hl (k := 1) rfl (by decide) (by decide) rfl (fun ls hl => ?_)
  refine lv_goto (tgt := 4) hx hb dX11_powerOfThree_16 (by decide) ?_
  refine lv_iload_n hx hb dX11_powerOfThree_4 rfl (lv_at hl 0 rfl) ?_
  refine lv_iload_n hx hb dX11_powerOfThree_5 rfl (lv_at hl 2 rfl) ?_
  refine lv_icmp_ge (tgt := 19) hx hb dX11_powerOfThree_6 (by decide) (fun h9 => absurd h9 (by decide)) (fun _ => ?_)
  refine lv_iload_n hx hb dX11_powerOfThree_9 rfl (lv_at hl 1 rfl) ?_
  refine lv_iconst (v := 3) hx hb dX11_powerOfThree_10 (by decide) ?_
  refine lv_imul hx hb dX11_powerOfThree_11 ?_
  refine lv_topi (fun z4 hz4 => ?_)
  obtain rfl : z4 = 81 := hz4.trans (by decide)
  refine lv_istore_n (lv' := [(1, .int 81), (2, .int 3), (0, .int 5)]) hx hb dX11_powerOfThree_12 rfl hl (by decide) rfl (fun ls hl => ?_)
  refine lv_iinc (v := 4) (lv' := [(2, .int 4), (1, .int 81), (0, .int 5)]) hx hb dX11_powerOfThree_13 hl (k := 1) rfl (by decide) (by decide) rfl (fun ls hl => ?_)
  refine lv_goto (tgt := 4) hx hb dX11_powerOfThree_16 (by decide) ?_
  refine lv_iload_n hx hb dX11_powerOfThree_4 rfl (lv_at hl 0 rfl) ?_
  refine lv_iload_n hx hb dX11_powerOfThree_5 rfl (lv_at hl 2 rfl) ?_
  refine lv_icmp_ge (tgt := 19) hx hb dX11_powerOfThree_6 (by decide) (fun h9 => absurd h9 (by decide)) (fun _ => ?_)
  refine lv_iload_n hx hb dX11_powerOfThree_9 rfl (lv_at hl 1 rfl) ?_
  refine lv_iconst (v := 3) hx hb dX11_powerOfThree_10 (by decide) ?_
  refine lv_imul hx hb dX11_powerOfThree_11 ?_
  refine lv_topi (fun z5 hz5 => ?_)
  obtain rfl : z5 = 243 := hz5.trans (by decide)
  refine lv_istore_n (lv' := [(1, .int 243), (2, .int 4), (0, .int 5)]) hx hb dX11_powerOfThree_12 rfl hl (by decide) rfl (fun ls hl => ?_)
  refine lv_iinc (v := 5) (lv' := [(2, .int 5), (1, .int 243), (0, .int 5)]) hx hb dX11_powerOfThree_13 hl (k := 1) rfl (by decide) (by decide) rfl (fun ls hl => ?_)
  refine lv_goto (tgt := 4) hx hb dX11_powerOfThree_16 (by decide) ?_
  refine lv_iload_n hx hb dX11_powerOfThree_4 rfl (lv_at hl 0 rfl) ?_
  refine lv_iload_n hx hb dX11_powerOfThree_5 rfl (lv_at hl 2 rfl) ?_
  refine lv_icmp_ge (tgt := 19) hx hb dX11_powerOfThree_6 (by decide) (fun _ => ?_) (fun h9 => absurd h9 (by decide))
  refine lv_iload_n hx hb dX11_powerOfThree_19 rfl (lv_at hl 1 rfl) ?_
  exact W.iret (v := 243) hx hb hr (fun tZ ht hW => ⟨⟨243, (), rfl, rfl, by rw [ht]; exact hP.sub [] rfl, hD.sub [] (by decide) rfl⟩, hS.F ht⟩) hS.2.2 dX11_powerOfThree_20

set_option maxHeartbeats 4000000 in
set_option maxRecDepth 100000 in
theorem gr_pow6 (l : Launch) (D : va_G) (y : Nat → ClassId)   : kw_Mi l yX11_powerOfThree wsX11_powerOfThree ({ frames := 1, cells := 0, slots := 0, locals := 60 }) D y [.int 6] [] (fun (r : Int32) (u : Unit) => r = 729) (fun _ => []) 0 0 := by
  refine kw_Mi.of (cc := cX11_powerOfThree) (maxL := 3) (ret := (some .int)) (by decide) rfl ?_
  intro pZ eZ s mZ beZ meZ cZ A hE
  obtain ⟨hx, hb, hr, hml, hts, hown, hlocks, hin, hA, hP, hD, hK, hN⟩ := hE
  have hS : va_S A s.heap s.heap [] := va_S.rf
  have hl := lv_entry ([.int 6]) (n := 3) (Nat.le_of_ble_eq_true rfl)
  rw [lg_entry_eq]
  generalize (lg_sl ([.int 6]) ++ List.replicate (3 - (lg_sl ([.int 6])).length) Slot.unset).toArray = ls at hl ⊢
  have hl : lv_has ls 3 [(0, .int 6)] := hl
  refine lv_iconst (v := 1) hx hb dX11_powerOfThree_0 (by decide) ?_
  refine lv_istore_n (lv' := [(1, .int 1), (0, .int 6)]) hx hb dX11_powerOfThree_1 rfl hl (by decide) rfl (fun ls hl => ?_)
  refine lv_iconst (v := 0) hx hb dX11_powerOfThree_2 (by decide) ?_
  refine lv_istore_n (lv' := [(2, .int 0), (1, .int 1), (0, .int 6)]) hx hb dX11_powerOfThree_3 rfl hl (by decide) rfl (fun ls hl => ?_)
  refine lv_iload_n hx hb dX11_powerOfThree_4 rfl (lv_at hl 0 rfl) ?_
  refine lv_iload_n hx hb dX11_powerOfThree_5 rfl (lv_at hl 2 rfl) ?_
  refine lv_icmp_ge (tgt := 19) hx hb dX11_powerOfThree_6 (by decide) (fun h9 => absurd h9 (by decide)) (fun _ => ?_)
  refine lv_iload_n hx hb dX11_powerOfThree_9 rfl (lv_at hl 1 rfl) ?_
  refine lv_iconst (v := 3) hx hb dX11_powerOfThree_10 (by decide) ?_
  refine lv_imul hx hb dX11_powerOfThree_11 ?_
  refine lv_topi (fun z1 hz1 => ?_)
  obtain rfl : z1 = 3 := hz1.trans (by decide)
  refine lv_istore_n (lv' := [(1, .int 3), (2, .int 0), (0, .int 6)]) hx hb dX11_powerOfThree_12 rfl hl (by decide) rfl (fun ls hl => ?_)
  refine lv_iinc (v := 1) (lv' := [(2, .int 1), (1, .int 3), (0, .int 6)]) hx hb dX11_powerOfThree_13 hl (k := 1) rfl (by decide) (by decide) rfl (fun ls hl => ?_)
  refine lv_goto (tgt := 4) hx hb dX11_powerOfThree_16 (by decide) ?_
  refine lv_iload_n hx hb dX11_powerOfThree_4 rfl (lv_at hl 0 rfl) ?_
  refine lv_iload_n hx hb dX11_powerOfThree_5 rfl (lv_at hl 2 rfl) ?_
  refine lv_icmp_ge (tgt := 19) hx hb dX11_powerOfThree_6 (by decide) (fun h9 => absurd h9 (by decide)) (fun _ => ?_)
  refine lv_iload_n hx hb dX11_powerOfThree_9 rfl (lv_at hl 1 rfl) ?_
  refine lv_iconst (v := 3) hx hb dX11_powerOfThree_10 (by decide) ?_
  refine lv_imul hx hb dX11_powerOfThree_11 ?_
  refine lv_topi (fun z2 hz2 => ?_)
  obtain rfl : z2 = 9 := hz2.trans (by decide)
  refine lv_istore_n (lv' := [(1, .int 9), (2, .int 1), (0, .int 6)]) hx hb dX11_powerOfThree_12 rfl hl (by decide) rfl (fun ls hl => ?_)
  refine lv_iinc (v := 2) (lv' := [(2, .int 2), (1, .int 9), (0, .int 6)]) hx hb dX11_powerOfThree_13 hl (k := 1) rfl (by decide) (by decide) rfl (fun ls hl => ?_)
  refine lv_goto (tgt := 4) hx hb dX11_powerOfThree_16 (by decide) ?_
  refine lv_iload_n hx hb dX11_powerOfThree_4 rfl (lv_at hl 0 rfl) ?_
  refine lv_iload_n hx hb dX11_powerOfThree_5 rfl (lv_at hl 2 rfl) ?_
  refine lv_icmp_ge (tgt := 19) hx hb dX11_powerOfThree_6 (by decide) (fun h9 => absurd h9 (by decide)) (fun _ => ?_)
  refine lv_iload_n hx hb dX11_powerOfThree_9 rfl (lv_at hl 1 rfl) ?_
  refine lv_iconst (v := 3) hx hb dX11_powerOfThree_10 (by decide) ?_
  refine lv_imul hx hb dX11_powerOfThree_11 ?_
  refine lv_topi (fun z3 hz3 => ?_)
  obtain rfl : z3 = 27 := hz3.trans (by decide)
  refine lv_istore_n (lv' := [(1, .int 27), (2, .int 2), (0, .int 6)]) hx hb dX11_powerOfThree_12 rfl hl (by decide) rfl (fun ls hl => ?_)
  refine lv_iinc (v := 3) (lv' := [(2, .int 3), (1, .int 27), (0, .int 6)]) hx hb dX11_powerOfThree_13 hl (k := 1) rfl (by decide) (by decide) rfl (fun ls hl => ?_)
  refine lv_goto (tgt := 4) hx hb dX11_powerOfThree_16 (by decide) ?_
  refine lv_iload_n hx hb dX11_powerOfThree_4 rfl (lv_at hl 0 rfl) ?_
  refine lv_iload_n hx hb dX11_powerOfThree_5 rfl (lv_at hl 2 rfl) ?_
  refine lv_icmp_ge (tgt := 19) hx hb dX11_powerOfThree_6 (by decide) (fun h9 => absurd h9 (by decide)) (fun _ => ?_)
  refine lv_iload_n hx hb dX11_powerOfThree_9 rfl (lv_at hl 1 rfl) ?_
  refine lv_iconst (v := 3) hx hb dX11_powerOfThree_10 (by decide) ?_
  refine lv_imul hx hb dX11_powerOfThree_11 ?_
  refine lv_topi (fun z4 hz4 => ?_)
  obtain rfl : z4 = 81 := hz4.trans (by decide)
  refine lv_istore_n (lv' := [(1, .int 81), (2, .int 3), (0, .int 6)]) hx hb dX11_powerOfThree_12 rfl hl (by decide) rfl (fun ls hl => ?_)
  refine lv_iinc (v := 4) (lv' := [(2, .int 4), (1, .int 81), (0, .int 6)]) hx hb dX11_powerOfThree_13 hl (k := 1) rfl (by decide) (by decide) rfl (fun ls hl => ?_)
  refine lv_goto (tgt := 4) hx hb dX11_powerOfThree_16 (by decide) ?_
  refine lv_iload_n hx hb dX11_powerOfThree_4 rfl (lv_at hl 0 rfl) ?_
  refine lv_iload_n hx hb dX11_powerOfThree_5 rfl (lv_at hl 2 rfl) ?_
  refine lv_icmp_ge (tgt := 19) hx hb dX11_powerOfThree_6 (by decide) (fun h9 => absurd h9 (by decide)) (fun _ => ?_)
  refine lv_iload_n hx hb dX11_powerOfThree_9 rfl (lv_at hl 1 rfl) ?_
  refine lv_iconst (v := 3) hx hb dX11_powerOfThree_10 (by decide) ?_
  refine lv_imul hx hb dX11_powerOfThree_11 ?_
  refine lv_topi (fun z5 hz5 => ?_)
  obtain rfl : z5 = 243 := hz5.trans (by decide)
  refine lv_istore_n (lv' := [(1, .int 243), (2, .int 4), (0, .int 6)]) hx hb dX11_powerOfThree_12 rfl hl (by decide) rfl (fun ls hl => ?_)
  refine lv_iinc (v := 5) (lv' := [(2, .int 5), (1, .int 243), (0, .int 6)]) hx hb dX11_powerOfThree_13 hl (k := 1) rfl (by decide) (by decide) rfl (fun ls hl => ?_)
  refine lv_goto (tgt := 4) hx hb dX11_powerOfThree_16 (by decide) ?_
  refine lv_iload_n hx hb dX11_powerOfThree_4 rfl (lv_at hl 0 rfl) ?_
  refine lv_iload_n hx hb dX11_powerOfThree_5 rfl (lv_at hl 2 rfl) ?_
  refine lv_icmp_ge (tgt := 19) hx hb dX11_powerOfThree_6 (by decide) (fun h9 => absurd h9 (by decide)) (fun _ => ?_)
  refine lv_iload_n hx hb dX11_powerOfThree_9 rfl (lv_at hl 1 rfl) ?_
  refine lv_iconst (v := 3) hx hb dX11_powerOfThree_10 (by decide) ?_
  refine lv_imul hx hb dX11_powerOfThree_11 ?_
  refine lv_topi (fun z6 hz6 => ?_)
  obtain rfl : z6 = 729 := hz6.trans (by decide)
  refine lv_istore_n (lv' := [(1, .int 729), (2, .int 5), (0, .int 6)]) hx hb dX11_powerOfThree_12 rfl hl (by decide) rfl (fun ls hl => ?_)
  refine lv_iinc (v := 6) (lv' := [(2, .int 6), (1, .int 729), (0, .int 6)]) hx hb dX11_powerOfThree_13 hl (k := 1) rfl (by decide) (by decide) rfl (fun ls hl => ?_)
  refine lv_goto (tgt := 4) hx hb dX11_powerOfThree_16 (by decide) ?_
  refine lv_iload_n hx hb dX11_powerOfThree_4 rfl (lv_at hl 0 rfl) ?_
  refine lv_iload_n hx hb dX11_powerOfThree_5 rfl (lv_at hl 2 rfl) ?_
  refine lv_icmp_ge (tgt := 19) hx hb dX11_powerOfThree_6 (by decide) (fun _ => ?_) (fun h9 => absurd h9 (by decide))
  refine lv_iload_n hx hb dX11_powerOfThree_19 rfl (lv_at hl 1 rfl) ?_
  exact W.iret (v := 729) hx hb hr (fun tZ ht hW => ⟨⟨729, (), rfl, rfl, by rw [ht]; exact hP.sub [] rfl, hD.sub [] (by decide) rfl⟩, hS.F ht⟩) hS.2.2 dX11_powerOfThree_20
