set_option maxHeartbeats 4000000 in
set_option maxRecDepth 100000 in
theorem gr_rests (l : Launch) (D : va_G) (y : Nat → ClassId) (mo : Nat) (to : Nat) (ke : Nat) (ik : Nat) (mrf : Nat) (ha : Nat) (r0 : Nat) (mbr : Nat) (mbp : Nat) (mby : Nat) (an : Nat) (va : Nat) (mab : Int64) (mbl : Int64) (bl : Nat) (ta : Nat) (tl : Nat) (tk : Nat) (vv : Int32) (ft : Nat → Int32) (fi : Nat) (gl : Nat) (mi : Nat) (no : Nat) (un : Nat) (k : Nat) (k2 : Nat) (k3 : Nat) (k4 : Nat) (hk0_ : ft 0 = (nI fi)) (hk1_ : ft 1 = (nI gl)) (hk2_ : ft 2 = (nI mi)) (hk3_ : ft 3 = (nI no)) (hk4_ : ft 4 = (nI un)) (hkt : kr_t 228 ft) (hfi : fi ≤ 6) (hgl : gl ≤ 5) (hmi : mi ≤ 4) (hno : no ≤ 6) (hun : un ≤ 8) (hA1 : k < gl) (hA2 : k2 < gl) (hA3 : k3 < fi) (hA4 : k4 < fi) : kw_Mi l yX11_rests wsX11_rests ({ frames := 6, cells := 0, slots := 0, locals := 175 }) D y [.ref mo, .int (nI k), .int (nI k2), .int (nI k3), .int (nI k4)] [(mo, .inr (11, [.ref to, .ref ke, .ref ik, .ref mrf, .long mab, .long mbl, .ref ha, .ref r0, .ref mbr, .ref mbp, .ref mby, .int (nI bl), .int (nI ta), .int (nI tl), .int (nI tk), .int vv, .ref an, .ref va])), (to, .inl (y 0, 228, .inl ft))] (fun (r : Int32) (u : Unit) => (r = 0 ∨ r = 1)) (fun _ => [(mo, .inr (11, [.ref to, .ref ke, .ref ik, .ref mrf, .long mab, .long mbl, .ref ha, .ref r0, .ref mbr, .ref mbp, .ref mby, .int (nI bl), .int (nI ta), .int (nI tl), .int (nI tk), .int vv, .ref an, .ref va])), (to, .inl (y 0, 228, .inl ft))]) 0 0 := by
  refine kw_Mi.of (cc := cX11_rests) (maxL := 7) (ret := (some .boolean)) (by decide) rfl ?_
  intro pZ eZ s mZ beZ meZ cZ A hE
  obtain ⟨hx, hb, hr, hml, hts, hown, hlocks, hin, hA, hP, hD, hK, hN⟩ := hE
  have hS : va_S A s.heap s.heap [] := va_S.rf
  have hl := lv_entry ([.ref mo, .int (nI k), .int (nI k2), .int (nI k3), .int (nI k4)]) (n := 7) (Nat.le_of_ble_eq_true rfl)
  rw [lg_entry_eq]
  generalize (lg_sl ([.ref mo, .int (nI k), .int (nI k2), .int (nI k3), .int (nI k4)]) ++ List.replicate (7 - (lg_sl ([.ref mo, .int (nI k), .int (nI k2), .int (nI k3), .int (nI k4)])).length) Slot.unset).toArray = ls at hl ⊢
  have hl : lv_has ls 7 [(0, .ref mo), (1, .int (nI k)), (2, .int (nI k2)), (3, .int (nI k3)), (4, .int (nI k4))] := hl
  refine lv_iconst (v := 1) hx hb dX11_rests_0 (by decide) ?_
  refine lv_istore (lv' := [(5, .int 1), (0, .ref mo), (1, .int (nI k)), (2, .int (nI k2)), (3, .int (nI k3)), (4, .int (nI k4))]) hx hb dX11_rests_1 hl (by decide) rfl (fun ls hl => ?_)
  refine lv_iconst (v := 0) hx hb dX11_rests_3 (by decide) ?_
  refine lv_istore (lv' := [(6, .int 0), (5, .int 1), (0, .ref mo), (1, .int (nI k)), (2, .int (nI k2)), (3, .int (nI k3)), (4, .int (nI k4))]) hx hb dX11_rests_4 hl (by decide) rfl (fun ls hl => ?_)
  have lp46 : ∀ (fuj91 j91 : Nat) (x22 : Nat) (H : Heap) (locs : List Loc) (ls : Array Slot), j91 ≤ fi → fi - j91 < fuj91 → x22 ≤ 1 → va_P D vwCl [(mo, .inr (11, [.ref to, .ref ke, .ref ik, .ref mrf, .long mab, .long mbl, .ref ha, .ref r0, .ref mbr, .ref mbp, .ref mby, .int (nI bl), .int (nI ta), .int (nI tl), .int (nI tk), .int vv, .ref an, .ref va])), (to, .inl (y 0, 228, .inl ft))] H → va_D A [(mo, .inr (11, [.ref to, .ref ke, .ref ik, .ref mrf, .long mab, .long mbl, .ref ha, .ref r0, .ref mbr, .ref mbp, .ref mby, .int (nI bl), .int (nI ta), .int (nI tl), .int (nI tk), .int vv, .ref an, .ref va])), (to, .inl (y 0, 228, .inl ft))] → va_S A s.heap H locs → lv_has ls 7 [(6, .int (nI j91)), (5, .int (nI x22)), (0, .ref mo), (1, .int (nI k)), (2, .int (nI k2)), (3, .int (nI k3)), (4, .int (nI k4))] → W pZ l eZ ({ frames := 6, cells := 0, slots := 0, locals := 175 }) s mZ [.ref mo, .int (nI k), .int (nI k2), .int (nI k3), .int (nI k4)].toArray beZ meZ cZ H locs 0 0 (MQ beZ (va_Qi (fun (r : Int32) (u : Unit) => (r = 0 ∨ r = 1)) (kw_B D (fun _ => [(mo, .inr (11, [.ref to, .ref ke, .ref ik, .ref mrf, .long mab, .long mbl, .ref ha, .ref r0, .ref mbr, .ref mbp, .ref mby, .int (nI bl), .int (nI ta), .int (nI tl), .int (nI tk), .int vv, .ref an, .ref va])), (to, .inl (y 0, 228, .inl ft))]) A) A) [.ref mo, .int (nI k), .int (nI k2), .int (nI k3), .int (nI k4)].toArray s 0 0 A) (F0 mZ 6 ls []) := by
    intro fuj91
    induction fuj91 with
    | zero => intro j91 x22 H locs ls hj9 hf9; exact absurd hf9 (Nat.not_lt_zero _)
    | succ fuj91 ihj91 =>
      intro j91 x22 H locs ls hj91 hfj91 hn_x22 hP hD hS hl
      refine lv_iload hx hb dX11_rests_6 (lv_at hl 0 rfl) ?_
      refine lv_aload_n hx hb dX11_rests_8 rfl (lv_at hl 2 rfl) ?_
      have hs47 : kw_Split [(mo, .inr (11, [.ref to, .ref ke, .ref ik, .ref mrf, .long mab, .long mbl, .ref ha, .ref r0, .ref mbr, .ref mbp, .ref mby, .int (nI bl), .int (nI ta), .int (nI tl), .int (nI tk), .int vv, .ref an, .ref va])), (to, .inl (y 0, 228, .inl ft))] [(mo, .inr (11, [.ref to, .ref ke, .ref ik, .ref mrf, .long mab, .long mbl, .ref ha, .ref r0, .ref mbr, .ref mbp, .ref mby, .int (nI bl), .int (nI ta), .int (nI tl), .int (nI tk), .int vv, .ref an, .ref va])), (to, .inl (y 0, 228, .inl ft))] [] [0, 1] [] := ⟨rfl, rfl, rfl, rfl, rfl, by decide⟩
      refine kw_go_i hs47 hP hD hS hA (va_runV (As := []) (rest := [.int (nI j91)]) ⟨hx, hb, hml, hown, hts⟩ (gr_many l D y mo to ke ik mrf ha r0 mbr mbp mby an va mab mbl bl ta tl tk vv ft fi gl mi no un hk0_ hk1_ hk2_ hk3_ hk4_ hkt hfi hgl hmi hno hun _) (cwV 0 hts gX11_rests_X11_many rfl rfl rfl (by decide +kernel) ⟨Nat.le_of_ble_eq_true rfl, Nat.le_of_ble_eq_true rfl⟩) (kw_PreV (ci := 11) (q0 := 0) hs47 hP hD hK hN rfl rfl) rfl rfl hl.1 rfl (lv_room (Nat.le_of_ble_eq_true rfl)) dX11_rests_9 ⟨Nat.le_of_ble_eq_true rfl, Nat.le_of_ble_eq_true rfl⟩) (fun r48 u49 H locs hq hP hD hS => ?_)
      obtain rfl := hq
      have hP : va_P D vwCl [(mo, .inr (11, [.ref to, .ref ke, .ref ik, .ref mrf, .long mab, .long mbl, .ref ha, .ref r0, .ref mbr, .ref mbp, .ref mby, .int (nI bl), .int (nI ta), .int (nI tl), .int (nI tk), .int vv, .ref an, .ref va])), (to, .inl (y 0, 228, .inl ft))] H := hP
      have hD : va_D A [(mo, .inr (11, [.ref to, .ref ke, .ref ik, .ref mrf, .long mab, .long mbl, .ref ha, .ref r0, .ref mbr, .ref mbp, .ref mby, .int (nI bl), .int (nI ta), .int (nI tl), .int (nI tk), .int vv, .ref an, .ref va])), (to, .inl (y 0, 228, .inl ft))] := hD
      refine lv_icmp_ge (tgt := 72) hx hb dX11_rests_12 (by decide) (fun h50 => ?_) (fun h51 => ?_)
      · skip
        have h50 : fi ≤ j91 := (nI_leI (a := fi) (b := j91) (by omega) (by omega)).mp h50
        refine lv_iload hx hb dX11_rests_72 (lv_at hl 1 rfl) ?_
        rcases (show x22 = 0 ∨ x22 = 1 by omega) with rfl | rfl
        · skip
          exact W.zret (v := 0) hx hb hr (by decide) (fun tZ ht hW => ⟨⟨0, (), rfl, Or.inl rfl, by rw [ht]; exact hP.sub [0, 1] rfl, hD.sub [0, 1] (by decide) rfl⟩, hS.F ht⟩) hS.2.2 dX11_rests_74
        · skip
          exact W.zret (v := 1) hx hb hr (by decide) (fun tZ ht hW => ⟨⟨1, (), rfl, Or.inr rfl, by rw [ht]; exact hP.sub [0, 1] rfl, hD.sub [0, 1] (by decide) rfl⟩, hS.F ht⟩) hS.2.2 dX11_rests_74
      · skip
        have h51 : ¬ fi ≤ j91 := fun q9 => h51 ((nI_leI (a := fi) (b := j91) (by omega) (by omega)).mpr q9)
        refine lv_iload hx hb dX11_rests_15 (lv_at hl 1 rfl) ?_
        refine lv_if_eq (tgt := 63) hx hb dX11_rests_17 (by decide) (fun h52 => ?_) (fun h53 => ?_)
        · skip
          have h52 : x22 = 0 := (nI_eq (a := x22) (b := 0) (by omega) (by omega)).mp h52
          refine lv_iconst (v := 0) hx hb dX11_rests_63 (by decide) ?_
          refine lv_istore (lv' := [(5, .int 0), (6, .int (nI j91)), (0, .ref mo), (1, .int (nI k)), (2, .int (nI k2)), (3, .int (nI k3)), (4, .int (nI k4))]) hx hb dX11_rests_64 hl (by decide) rfl (fun ls hl => ?_)
          refine lv_iinc (v := (nI (j91 + 1))) (lv' := [(6, .int (nI (j91 + 1))), (5, .int 0), (0, .ref mo), (1, .int (nI k)), (2, .int (nI k2)), (3, .int (nI k3)), (4, .int (nI k4))]) hx hb dX11_rests_66 hl (k := 1) rfl (nI_1 j91) (by decide) rfl (fun ls hl => ?_)
          refine lv_goto (tgt := 6) hx hb dX11_rests_69 (by decide) ?_
          exact ihj91 (j91 + 1) 0 H locs ls (by omega) (by omega) (by omega) (hP.sub [0, 1] rfl) (hD.sub [0, 1] (by decide) rfl) hS (lv_sub hl [0, 1, 2, 3, 4, 5, 6] rfl)
        · skip
          have h53 : ¬ x22 = 0 := fun q9 => h53 ((nI_eq (a := x22) (b := 0) (by omega) (by omega)).mpr q9)
          refine lv_aload_n hx hb dX11_rests_20 rfl (lv_at hl 2 rfl) ?_
          refine lv_iload_n hx hb dX11_rests_21 rfl (lv_at hl 3 rfl) ?_
          refine lv_iload hx hb dX11_rests_22 (lv_at hl 0 rfl) ?_
          refine lv_iload hx hb dX11_rests_24 (lv_at hl 6 rfl) ?_
          have hs54 : kw_Split [(mo, .inr (11, [.ref to, .ref ke, .ref ik, .ref mrf, .long mab, .long mbl, .ref ha, .ref r0, .ref mbr, .ref mbp, .ref mby, .int (nI bl), .int (nI ta), .int (nI tl), .int (nI tk), .int vv, .ref an, .ref va])), (to, .inl (y 0, 228, .inl ft))] [(mo, .inr (11, [.ref to, .ref ke, .ref ik, .ref mrf, .long mab, .long mbl, .ref ha, .ref r0, .ref mbr, .ref mbp, .ref mby, .int (nI bl), .int (nI ta), .int (nI tl), .int (nI tk), .int vv, .ref an, .ref va])), (to, .inl (y 0, 228, .inl ft))] [] [0, 1] [] := ⟨rfl, rfl, rfl, rfl, rfl, by decide⟩
          refine kw_go_i hs54 hP hD hS hA (va_runV (As := [.int (nI k), .int (nI j91), .int (nI k4)]) (rest := []) ⟨hx, hb, hml, hown, hts⟩ (gr_hasBy l D y mo to ke ik mrf ha r0 mbr mbp mby an va mab mbl bl ta tl tk vv ft fi gl mi no un k j91 (nI k4) hk0_ hk1_ hk2_ hk3_ hk4_ hkt hfi hgl hmi hno hun hA1 (by omega) _) (cwV 3 hts gX11_rests_X11_hasBy rfl rfl rfl (by decide +kernel) ⟨Nat.le_of_ble_eq_true rfl, Nat.le_of_ble_eq_true rfl⟩) (kw_PreV (ci := 11) (q0 := 0) hs54 hP hD hK hN rfl rfl) rfl rfl hl.1 rfl (lv_room (Nat.le_of_ble_eq_true rfl)) dX11_rests_26 ⟨Nat.le_of_ble_eq_true rfl, Nat.le_of_ble_eq_true rfl⟩) (fun r55 u56 H locs hq hP hD hS => ?_)
          have hP : va_P D vwCl [(mo, .inr (11, [.ref to, .ref ke, .ref ik, .ref mrf, .long mab, .long mbl, .ref ha, .ref r0, .ref mbr, .ref mbp, .ref mby, .int (nI bl), .int (nI ta), .int (nI tl), .int (nI tk), .int vv, .ref an, .ref va])), (to, .inl (y 0, 228, .inl ft))] H := hP
          have hD : va_D A [(mo, .inr (11, [.ref to, .ref ke, .ref ik, .ref mrf, .long mab, .long mbl, .ref ha, .ref r0, .ref mbr, .ref mbp, .ref mby, .int (nI bl), .int (nI ta), .int (nI tl), .int (nI tk), .int vv, .ref an, .ref va])), (to, .inl (y 0, 228, .inl ft))] := hD
          refine lv_aload_n hx hb dX11_rests_29 rfl (lv_at hl 2 rfl) ?_
          refine lv_iload_n hx hb dX11_rests_30 rfl (lv_at hl 3 rfl) ?_
          refine lv_iload_n hx hb dX11_rests_31 rfl (lv_at hl 5 rfl) ?_
          refine lv_iload hx hb dX11_rests_32 (lv_at hl 6 rfl) ?_
          have hs57 : kw_Split [(mo, .inr (11, [.ref to, .ref ke, .ref ik, .ref mrf, .long mab, .long mbl, .ref ha, .ref r0, .ref mbr, .ref mbp, .ref mby, .int (nI bl), .int (nI ta), .int (nI tl), .int (nI tk), .int vv, .ref an, .ref va])), (to, .inl (y 0, 228, .inl ft))] [(mo, .inr (11, [.ref to, .ref ke, .ref ik, .ref mrf, .long mab, .long mbl, .ref ha, .ref r0, .ref mbr, .ref mbp, .ref mby, .int (nI bl), .int (nI ta), .int (nI tl), .int (nI tk), .int vv, .ref an, .ref va])), (to, .inl (y 0, 228, .inl ft))] [] [0, 1] [] := ⟨rfl, rfl, rfl, rfl, rfl, by decide⟩
          refine kw_go_i hs57 hP hD hS hA (va_runV (As := [.int (nI k), .int (nI k3), .int (nI k4)]) (rest := [.int r55]) ⟨hx, hb, hml, hown, hts⟩ (gr_hasBy l D y mo to ke ik mrf ha r0 mbr mbp mby an va mab mbl bl ta tl tk vv ft fi gl mi no un k k3 (nI k4) hk0_ hk1_ hk2_ hk3_ hk4_ hkt hfi hgl hmi hno hun hA1 hA3 _) (cwV 3 hts gX11_rests_X11_hasBy rfl rfl rfl (by decide +kernel) ⟨Nat.le_of_ble_eq_true rfl, Nat.le_of_ble_eq_true rfl⟩) (kw_PreV (ci := 11) (q0 := 0) hs57 hP hD hK hN rfl rfl) rfl rfl hl.1 rfl (lv_room (Nat.le_of_ble_eq_true rfl)) dX11_rests_34 ⟨Nat.le_of_ble_eq_true rfl, Nat.le_of_ble_eq_true rfl⟩) (fun r58 u59 H locs hq hP hD hS => ?_)
          have hP : va_P D vwCl [(mo, .inr (11, [.ref to, .ref ke, .ref ik, .ref mrf, .long mab, .long mbl, .ref ha, .ref r0, .ref mbr, .ref mbp, .ref mby, .int (nI bl), .int (nI ta), .int (nI tl), .int (nI tk), .int vv, .ref an, .ref va])), (to, .inl (y 0, 228, .inl ft))] H := hP
          have hD : va_D A [(mo, .inr (11, [.ref to, .ref ke, .ref ik, .ref mrf, .long mab, .long mbl, .ref ha, .ref r0, .ref mbr, .ref mbp, .ref mby, .int (nI bl), .int (nI ta), .int (nI tl), .int (nI tk), .int vv, .ref an, .ref va])), (to, .inl (y 0, 228, .inl ft))] := hD
          refine lv_icmp_gt (tgt := 63) hx hb dX11_rests_37 (by decide) (fun h60 => ?_) (fun h61 => ?_)
          · skip
            refine lv_iconst (v := 0) hx hb dX11_rests_63 (by decide) ?_
            refine lv_istore (lv' := [(5, .int 0), (6, .int (nI j91)), (0, .ref mo), (1, .int (nI k)), (2, .int (nI k2)), (3, .int (nI k3)), (4, .int (nI k4))]) hx hb dX11_rests_64 hl (by decide) rfl (fun ls hl => ?_)
            refine lv_iinc (v := (nI (j91 + 1))) (lv' := [(6, .int (nI (j91 + 1))), (5, .int 0), (0, .ref mo), (1, .int (nI k)), (2, .int (nI k2)), (3, .int (nI k3)), (4, .int (nI k4))]) hx hb dX11_rests_66 hl (k := 1) rfl (nI_1 j91) (by decide) rfl (fun ls hl => ?_)
            refine lv_goto (tgt := 6) hx hb dX11_rests_69 (by decide) ?_
            exact ihj91 (j91 + 1) 0 H locs ls (by omega) (by omega) (by omega) (hP.sub [0, 1] rfl) (hD.sub [0, 1] (by decide) rfl) hS (lv_sub hl [0, 1, 2, 3, 4, 5, 6] rfl)
          · skip
            refine lv_aload_n hx hb dX11_rests_40 rfl (lv_at hl 2 rfl) ?_
            refine lv_iload_n hx hb dX11_rests_41 rfl (lv_at hl 4 rfl) ?_
            refine lv_iload hx hb dX11_rests_42 (lv_at hl 0 rfl) ?_
            refine lv_iload_n hx hb dX11_rests_44 rfl (lv_at hl 5 rfl) ?_
            have hs62 : kw_Split [(mo, .inr (11, [.ref to, .ref ke, .ref ik, .ref mrf, .long mab, .long mbl, .ref ha, .ref r0, .ref mbr, .ref mbp, .ref mby, .int (nI bl), .int (nI ta), .int (nI tl), .int (nI tk), .int vv, .ref an, .ref va])), (to, .inl (y 0, 228, .inl ft))] [(mo, .inr (11, [.ref to, .ref ke, .ref ik, .ref mrf, .long mab, .long mbl, .ref ha, .ref r0, .ref mbr, .ref mbp, .ref mby, .int (nI bl), .int (nI ta), .int (nI tl), .int (nI tk), .int vv, .ref an, .ref va])), (to, .inl (y 0, 228, .inl ft))] [] [0, 1] [] := ⟨rfl, rfl, rfl, rfl, rfl, by decide⟩
            refine kw_go_i hs62 hP hD hS hA (va_runV (As := [.int (nI k2), .int (nI j91), .int (nI k3)]) (rest := []) ⟨hx, hb, hml, hown, hts⟩ (gr_hasBy l D y mo to ke ik mrf ha r0 mbr mbp mby an va mab mbl bl ta tl tk vv ft fi gl mi no un k2 j91 (nI k3) hk0_ hk1_ hk2_ hk3_ hk4_ hkt hfi hgl hmi hno hun hA2 (by omega) _) (cwV 3 hts gX11_rests_X11_hasBy rfl rfl rfl (by decide +kernel) ⟨Nat.le_of_ble_eq_true rfl, Nat.le_of_ble_eq_true rfl⟩) (kw_PreV (ci := 11) (q0 := 0) hs62 hP hD hK hN rfl rfl) rfl rfl hl.1 rfl (lv_room (Nat.le_of_ble_eq_true rfl)) dX11_rests_45 ⟨Nat.le_of_ble_eq_true rfl, Nat.le_of_ble_eq_true rfl⟩) (fun r63 u64 H locs hq hP hD hS => ?_)
            have hP : va_P D vwCl [(mo, .inr (11, [.ref to, .ref ke, .ref ik, .ref mrf, .long mab, .long mbl, .ref ha, .ref r0, .ref mbr, .ref mbp, .ref mby, .int (nI bl), .int (nI ta), .int (nI tl), .int (nI tk), .int vv, .ref an, .ref va])), (to, .inl (y 0, 228, .inl ft))] H := hP
            have hD : va_D A [(mo, .inr (11, [.ref to, .ref ke, .ref ik, .ref mrf, .long mab, .long mbl, .ref ha, .ref r0, .ref mbr, .ref mbp, .ref mby, .int (nI bl), .int (nI ta), .int (nI tl), .int (nI tk), .int vv, .ref an, .ref va])), (to, .inl (y 0, 228, .inl ft))] := hD
            refine lv_aload_n hx hb dX11_rests_48 rfl (lv_at hl 2 rfl) ?_
            refine lv_iload_n hx hb dX11_rests_49 rfl (lv_at hl 4 rfl) ?_
            refine lv_iload hx hb dX11_rests_50 (lv_at hl 6 rfl) ?_
            refine lv_iload_n hx hb dX11_rests_52 rfl (lv_at hl 5 rfl) ?_
            have hs65 : kw_Split [(mo, .inr (11, [.ref to, .ref ke, .ref ik, .ref mrf, .long mab, .long mbl, .ref ha, .ref r0, .ref mbr, .ref mbp, .ref mby, .int (nI bl), .int (nI ta), .int (nI tl), .int (nI tk), .int vv, .ref an, .ref va])), (to, .inl (y 0, 228, .inl ft))] [(mo, .inr (11, [.ref to, .ref ke, .ref ik, .ref mrf, .long mab, .long mbl, .ref ha, .ref r0, .ref mbr, .ref mbp, .ref mby, .int (nI bl), .int (nI ta), .int (nI tl), .int (nI tk), .int vv, .ref an, .ref va])), (to, .inl (y 0, 228, .inl ft))] [] [0, 1] [] := ⟨rfl, rfl, rfl, rfl, rfl, by decide⟩
            refine kw_go_i hs65 hP hD hS hA (va_runV (As := [.int (nI k2), .int (nI k4), .int (nI k3)]) (rest := [.int r63]) ⟨hx, hb, hml, hown, hts⟩ (gr_hasBy l D y mo to ke ik mrf ha r0 mbr mbp mby an va mab mbl bl ta tl tk vv ft fi gl mi no un k2 k4 (nI k3) hk0_ hk1_ hk2_ hk3_ hk4_ hkt hfi hgl hmi hno hun hA2 hA4 _) (cwV 3 hts gX11_rests_X11_hasBy rfl rfl rfl (by decide +kernel) ⟨Nat.le_of_ble_eq_true rfl, Nat.le_of_ble_eq_true rfl⟩) (kw_PreV (ci := 11) (q0 := 0) hs65 hP hD hK hN rfl rfl) rfl rfl hl.1 rfl (lv_room (Nat.le_of_ble_eq_true rfl)) dX11_rests_53 ⟨Nat.le_of_ble_eq_true rfl, Nat.le_of_ble_eq_true rfl⟩) (fun r66 u67 H locs hq hP hD hS => ?_)
            have hP : va_P D vwCl [(mo, .inr (11, [.ref to, .ref ke, .ref ik, .ref mrf, .long mab, .long mbl, .ref ha, .ref r0, .ref mbr, .ref mbp, .ref mby, .int (nI bl), .int (nI ta), .int (nI tl), .int (nI tk), .int vv, .ref an, .ref va])), (to, .inl (y 0, 228, .inl ft))] H := hP
            have hD : va_D A [(mo, .inr (11, [.ref to, .ref ke, .ref ik, .ref mrf, .long mab, .long mbl, .ref ha, .ref r0, .ref mbr, .ref mbp, .ref mby, .int (nI bl), .int (nI ta), .int (nI tl), .int (nI tk), .int vv, .ref an, .ref va])), (to, .inl (y 0, 228, .inl ft))] := hD
            refine lv_icmp_gt (tgt := 63) hx hb dX11_rests_56 (by decide) (fun h68 => ?_) (fun h69 => ?_)
            · skip
              refine lv_iconst (v := 0) hx hb dX11_rests_63 (by decide) ?_
              refine lv_istore (lv' := [(5, .int 0), (6, .int (nI j91)), (0, .ref mo), (1, .int (nI k)), (2, .int (nI k2)), (3, .int (nI k3)), (4, .int (nI k4))]) hx hb dX11_rests_64 hl (by decide) rfl (fun ls hl => ?_)
              refine lv_iinc (v := (nI (j91 + 1))) (lv' := [(6, .int (nI (j91 + 1))), (5, .int 0), (0, .ref mo), (1, .int (nI k)), (2, .int (nI k2)), (3, .int (nI k3)), (4, .int (nI k4))]) hx hb dX11_rests_66 hl (k := 1) rfl (nI_1 j91) (by decide) rfl (fun ls hl => ?_)
              refine lv_goto (tgt := 6) hx hb dX11_rests_69 (by decide) ?_
              exact ihj91 (j91 + 1) 0 H locs ls (by omega) (by omega) (by omega) (hP.sub [0, 1] rfl) (hD.sub [0, 1] (by decide) rfl) hS (lv_sub hl [0, 1, 2, 3, 4, 5, 6] rfl)
            · skip
              refine lv_iconst (v := 1) hx hb dX11_rests_59 (by decide) ?_
              refine lv_goto (tgt := 64) hx hb dX11_rests_60 (by decide) ?_
              refine lv_istore (lv' := [(5, .int 1), (6, .int (nI j91)), (0, .ref mo), (1, .int (nI k)), (2, .int (nI k2)), (3, .int (nI k3)), (4, .int (nI k4))]) hx hb dX11_rests_64 hl (by decide) rfl (fun ls hl => ?_)
              refine lv_iinc (v := (nI (j91 + 1))) (lv' := [(6, .int (nI (j91 + 1))), (5, .int 1), (0, .ref mo), (1, .int (nI k)), (2, .int (nI k2)), (3, .int (nI k3)), (4, .int (nI k4))]) hx hb dX11_rests_66 hl (k := 1) rfl (nI_1 j91) (by decide) rfl (fun ls hl => ?_)
              refine lv_goto (tgt := 6) hx hb dX11_rests_69 (by decide) ?_
              exact ihj91 (j91 + 1) 1 H locs ls (by omega) (by omega) (by omega) (hP.sub [0, 1] rfl) (hD.sub [0, 1] (by decide) rfl) hS (lv_sub hl [0, 1, 2, 3, 4, 5, 6] rfl)
  exact lp46 (fi + 1) 0 1 _ _ _ (by omega) (by omega) (by omega) hP hD hS (lv_sub hl [0, 1, 2, 3, 4, 5, 6] rfl)
