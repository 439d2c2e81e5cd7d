set_option maxHeartbeats 4000000 in
set_option maxRecDepth 100000 in
theorem gq_sread_ok (l : Launch) (D : va_G) (y : Nat → ClassId) (mo : Nat) (to : Nat) (ke : Nat) (ik : Nat) (mrf : Nat) (ha : Nat) (r0 : Nat) (mbr : Nat) (mbp : Nat) (mby : Nat) (an : Nat) (va : Nat) (mab : Int64) (mbl : Int64) (bl : Nat) (ta : Nat) (tl : Nat) (tk : Nat) (vv : Int32) (ft : Nat → Int32) (fi : Nat) (gl : Nat) (mi : Nat) (no : Nat) (un : Nat) (fmb : Nat → Int32) (fva : Nat → Int32) (fan : Nat → Int32) (afi : Nat) (agl : Nat) (ami : Nat) (ano : Nat) (aun : Nat) (asp : Nat) (m : Nat) (a : Nat) (b : Nat) (t : Nat) (kd : Nat → Int32) (hk0_ : ft 0 = (nI fi)) (hk1_ : ft 1 = (nI gl)) (hk2_ : ft 2 = (nI mi)) (hk3_ : ft 3 = (nI no)) (hk4_ : ft 4 = (nI un)) (hkt : kr_t 228 ft) (hfi : fi ≤ 6) (hgl : gl ≤ 5) (hmi : mi ≤ 4) (hno : no ≤ 6) (hun : un ≤ 8) (hgf : (gl = 0 ∨ 0 < fi)) (hbl : bl ≤ 150) (ha0_ : fan 0 = (nI afi)) (ha1_ : fan 1 = (nI agl)) (ha2_ : fan 2 = (nI ami)) (ha3_ : fan 3 = (nI ano)) (ha4_ : fan 4 = (nI aun)) (ha21_ : fan 21 = (nI asp)) (hkan : kr_t 76 fan) (hB0 : afi ≤ 6) (hB1 : agl ≤ 5) (hB2 : ami ≤ 4) (hB3 : ano ≤ 6) (hB4 : aun ≤ 8) (hB5 : asp ≤ 12) (hagf : (agl = 0 ∨ 0 < afi)) (hA1 : ks_read fmb bl = ks_ok m a b t kd) : kw_Mi l yX11_read wsX11_read ({ frames := 8, cells := 0, slots := 0, locals := 219 }) D y [.ref mo] [(mo, .inr (11, [.ref to, .ref ke, .ref ik, .ref mrf, .long mab, .long mbl, .ref ha, .ref r0, .ref mbr, .ref mbp, .ref mby, .int (nI bl), .int (nI ta), .int (nI tl), .int (nI tk), .int vv, .ref an, .ref va])), (mby, .inl (y 0, 150, .inl fmb)), (va, .inl (y 0, 2, .inl fva)), (an, .inl (y 0, 76, .inl fan)), (to, .inl (y 0, 228, .inl ft))] (fun (r : Int32) (u : Nat × Nat × Nat × Int32 × (Nat → Int32) × (Nat → Int32) × Nat × (Nat → Int32)) => u.1 ≤ 150 ∧ u.2.1 ≤ 150 ∧ u.2.2.1 ≤ 4 ∧ kr_t 76 u.2.2.2.2.2.1 ∧ u.2.2.2.2.2.1 0 = (nI a) ∧ u.2.2.2.2.2.1 1 = (nI b) ∧ u.2.2.2.2.2.1 2 = (nI 0) ∧ u.2.2.2.2.2.1 3 = (nI 0) ∧ u.2.2.2.2.2.1 4 = (nI 0) ∧ u.2.2.2.2.2.2.1 ≤ 12 ∧ u.2.2.2.2.2.1 21 = (nI u.2.2.2.2.2.2.1) ∧ kr_t 228 u.2.2.2.2.2.2.2 ∧ u.2.2.2.2.2.2.2 0 = (nI a) ∧ u.2.2.2.2.2.2.2 1 = (nI b) ∧ u.2.2.2.2.2.2.2 2 = (nI 0) ∧ u.2.2.2.2.2.2.2 3 = (nI 0) ∧ u.2.2.2.2.2.2.2 4 = (nI 0) ∧ kz_ka u.2.2.2.2.2.2.2 a kd ∧ (b = 0 ∨ 0 < a) ∧ (b = 0 ∨ 0 < a) ∧ r = (nI m)) (fun u => [(mo, .inr (11, [.ref to, .ref ke, .ref ik, .ref mrf, .long mab, .long mbl, .ref ha, .ref r0, .ref mbr, .ref mbp, .ref mby, .int (nI bl), .int (nI u.1), .int (nI u.2.1), .int (nI u.2.2.1), .int u.2.2.2.1, .ref an, .ref va])), (mby, .inl (y 0, 150, .inl fmb)), (va, .inl (y 0, 2, .inl u.2.2.2.2.1)), (an, .inl (y 0, 76, .inl u.2.2.2.2.2.1)), (to, .inl (y 0, 228, .inl u.2.2.2.2.2.2.2))]) 0 0 := by
  refine kw_Mi.of (cc := cX11_read) (maxL := 3) (ret := (some .int)) (by decide) rfl ?_
  intro pZ eZ s mZ beZ meZ cZ A hE
  obtain ⟨hx, hb, hr, hml, hts, hown, hlocks, hin, hA, hP, hD, hK, hN⟩ := hE
  have hS : va_S A s.heap s.heap [] := va_S.rf
  have hl := lv_entry ([.ref mo]) (n := 3) (Nat.le_of_ble_eq_true rfl)
  rw [lg_entry_eq]
  generalize (lg_sl ([.ref mo]) ++ List.replicate (3 - (lg_sl ([.ref mo])).length) Slot.unset).toArray = ls at hl ⊢
  have hl : lv_has ls 3 [(0, .ref mo)] := hl
  have fw1 := hts (.fieldLink RX11 228 "GleanDuskModel" "token" "I") (List.mem_of_getElem? (i := 2) rfl)
  have fw2 := hts (.fieldLink RX11 7 "GleanDuskModel" "told" "[I") (List.mem_of_getElem? (i := 3) rfl)
  have fw3 := hts (.fieldLink RX11 42 "GleanDuskModel" "anew" "[I") (List.mem_of_getElem? (i := 4) rfl)
  have iw11 : ∀ w ∈ wsX110, w ∈ wsX11_read := fun _ h => List.mem_cons_of_mem _ (List.mem_append_right _ h)
  refine lv_aload_n hx hb dX11_read_0 rfl (lv_at hl 0 rfl) ?_
  refine lv_iconst (v := 0) hx hb dX11_read_1 (by decide) ?_
  have hs1 : kw_Split [(mo, .inr (11, [.ref to, .ref ke, .ref ik, .ref mrf, .long mab, .long mbl, .ref ha, .ref r0, .ref mbr, .ref mbp, .ref mby, .int (nI bl), .int (nI ta), .int (nI tl), .int (nI tk), .int vv, .ref an, .ref va])), (mby, .inl (y 0, 150, .inl fmb)), (va, .inl (y 0, 2, .inl fva)), (an, .inl (y 0, 76, .inl fan)), (to, .inl (y 0, 228, .inl ft))] [(mo, .inr (11, [.ref to, .ref ke, .ref ik, .ref mrf, .long mab, .long mbl, .ref ha, .ref r0, .ref mbr, .ref mbp, .ref mby, .int (nI bl), .int (nI ta), .int (nI tl), .int (nI tk), .int vv, .ref an, .ref va])), (mby, .inl (y 0, 150, .inl fmb))] [(va, .inl (y 0, 2, .inl fva)), (an, .inl (y 0, 76, .inl fan)), (to, .inl (y 0, 228, .inl ft))] [0, 1] [2, 3, 4] := ⟨rfl, rfl, rfl, rfl, rfl, by decide⟩
  refine kw_go_v hs1 hP hD hS hA (va_runV (As := [.int 0]) (rest := []) ⟨hx, hb, hml, hown, hts⟩ (gr_Mlook l D y mo to ke ik mrf ha r0 mbr mbp mby an va mab mbl bl ta tl tk vv fmb 0 hbl (by omega) _) (cwV 1 hts gX11_read_X11_lookAt rfl rfl rfl (by decide +kernel) ⟨Nat.le_of_ble_eq_true rfl, Nat.le_of_ble_eq_true rfl⟩) (kw_PreV (ci := 11) (q0 := 0) hs1 hP hD hK hN rfl rfl) rfl rfl hl.1 rfl (lv_room (Nat.le_of_ble_eq_true rfl)) dX11_read_2 ⟨Nat.le_of_ble_eq_true rfl, Nat.le_of_ble_eq_true rfl⟩) (fun u3 H locs hq hP hD hS => ?_)
  obtain ⟨v4, v5, v6, v7⟩ := u3
  try dsimp only at hq
  obtain ⟨h8, h9, h10, h11, h12, h13⟩ := hq
  have hP : va_P D vwCl [(va, .inl (y 0, 2, .inl fva)), (an, .inl (y 0, 76, .inl fan)), (to, .inl (y 0, 228, .inl ft)), (mo, .inr (11, [.ref to, .ref ke, .ref ik, .ref mrf, .long mab, .long mbl, .ref ha, .ref r0, .ref mbr, .ref mbp, .ref mby, .int (nI bl), .int (nI v4), .int (nI v5), .int (nI v6), .int v7, .ref an, .ref va])), (mby, .inl (y 0, 150, .inl fmb))] H := hP
  have hD : va_D A [(va, .inl (y 0, 2, .inl fva)), (an, .inl (y 0, 76, .inl fan)), (to, .inl (y 0, 228, .inl ft)), (mo, .inr (11, [.ref to, .ref ke, .ref ik, .ref mrf, .long mab, .long mbl, .ref ha, .ref r0, .ref mbr, .ref mbp, .ref mby, .int (nI bl), .int (nI v4), .int (nI v5), .int (nI v6), .int v7, .ref an, .ref va])), (mby, .inl (y 0, 150, .inl fmb))] := hD
  obtain ⟨rfl, rfl, rfl, hn14⟩ := h13
  have hk15 := ks_K4 fmb bl 0
  have hk16 := ks_SL (f := fmb) (n := bl) (p := 0) (by omega)
  have hP : va_P D vwCl [(va, .inl (y 0, 2, .inl fva)), (an, .inl (y 0, 76, .inl fan)), (to, .inl (y 0, 228, .inl ft)), (mo, .inr (11, [.ref to, .ref ke, .ref ik, .ref mrf, .long mab, .long mbl, .ref ha, .ref r0, .ref mbr, .ref mbp, .ref mby, .int (nI bl), .int (nI (ks_S fmb bl 0)), .int (nI (ks_L fmb bl 0)), .int (nI (ks_K fmb bl 0)), .int v7, .ref an, .ref va])), (mby, .inl (y 0, 150, .inl fmb))] H := hP
  have hD : va_D A [(va, .inl (y 0, 2, .inl fva)), (an, .inl (y 0, 76, .inl fan)), (to, .inl (y 0, 228, .inl ft)), (mo, .inr (11, [.ref to, .ref ke, .ref ik, .ref mrf, .long mab, .long mbl, .ref ha, .ref r0, .ref mbr, .ref mbp, .ref mby, .int (nI bl), .int (nI (ks_S fmb bl 0)), .int (nI (ks_L fmb bl 0)), .int (nI (ks_K fmb bl 0)), .int v7, .ref an, .ref va])), (mby, .inl (y 0, 150, .inl fmb))] := hD
  refine lv_aload_n hx hb dX11_read_5 rfl (lv_at hl 0 rfl) ?_
  have hs17 : kw_Split [(va, .inl (y 0, 2, .inl fva)), (an, .inl (y 0, 76, .inl fan)), (to, .inl (y 0, 228, .inl ft)), (mo, .inr (11, [.ref to, .ref ke, .ref ik, .ref mrf, .long mab, .long mbl, .ref ha, .ref r0, .ref mbr, .ref mbp, .ref mby, .int (nI bl), .int (nI (ks_S fmb bl 0)), .int (nI (ks_L fmb bl 0)), .int (nI (ks_K fmb bl 0)), .int v7, .ref an, .ref va])), (mby, .inl (y 0, 150, .inl fmb))] [(mo, .inr (11, [.ref to, .ref ke, .ref ik, .ref mrf, .long mab, .long mbl, .ref ha, .ref r0, .ref mbr, .ref mbp, .ref mby, .int (nI bl), .int (nI (ks_S fmb bl 0)), .int (nI (ks_L fmb bl 0)), .int (nI (ks_K fmb bl 0)), .int v7, .ref an, .ref va])), (mby, .inl (y 0, 150, .inl fmb)), (va, .inl (y 0, 2, .inl fva)), (an, .inl (y 0, 76, .inl fan))] [(to, .inl (y 0, 228, .inl ft))] [3, 4, 0, 1] [2] := ⟨rfl, rfl, rfl, rfl, rfl, by decide⟩
  refine kw_go_i hs17 hP hD hS hA (va_runV (As := []) (rest := []) ⟨hx, hb, hml, hown, hts⟩ (gr_MtakesParish l D y mo to ke ik mrf ha r0 mbr mbp mby an va mab mbl bl (ks_S fmb bl 0) (ks_L fmb bl 0) (ks_K fmb bl 0) v7 fmb fva fan afi agl ami ano aun asp (ks_E fmb bl 0) hbl (by omega) (by omega) (by omega) ha0_ ha1_ ha2_ ha3_ ha4_ ha21_ hkan hB0 hB1 hB2 hB3 hB4 hB5 hagf _) (cwV 0 hts gX11_read_X11_takesParish rfl rfl rfl (by decide +kernel) ⟨Nat.le_of_ble_eq_true rfl, Nat.le_of_ble_eq_true rfl⟩) (kw_PreV (ci := 11) (q0 := 3) hs17 hP hD hK hN rfl rfl) rfl rfl hl.1 rfl (lv_room (Nat.le_of_ble_eq_true rfl)) dX11_read_6 ⟨Nat.le_of_ble_eq_true rfl, Nat.le_of_ble_eq_true rfl⟩) (fun r18 u19 H locs hq hP hD hS => ?_)
  obtain ⟨v20, v21, v22, v23, v24, v25, v26, v27, v28, v29, v30, v31⟩ := u19
  try dsimp only at hq
  obtain ⟨h32, h33, h34, h35, h36, h37, h38, h39, h40, h41, h42, h43, h44, h45, h46, h47, (rfl | rfl), h48, h49, h50, h51⟩ := hq
  · skip
    have hP : va_P D vwCl [(to, .inl (y 0, 228, .inl ft)), (mo, .inr (11, [.ref to, .ref ke, .ref ik, .ref mrf, .long mab, .long mbl, .ref ha, .ref r0, .ref mbr, .ref mbp, .ref mby, .int (nI bl), .int (nI v20), .int (nI v21), .int (nI v22), .int v23, .ref an, .ref va])), (mby, .inl (y 0, 150, .inl fmb)), (va, .inl (y 0, 2, .inl v24)), (an, .inl (y 0, 76, .inl v25))] H := hP
    have hD : va_D A [(to, .inl (y 0, 228, .inl ft)), (mo, .inr (11, [.ref to, .ref ke, .ref ik, .ref mrf, .long mab, .long mbl, .ref ha, .ref r0, .ref mbr, .ref mbp, .ref mby, .int (nI bl), .int (nI v20), .int (nI v21), .int (nI v22), .int v23, .ref an, .ref va])), (mby, .inl (y 0, 150, .inl fmb)), (va, .inl (y 0, 2, .inl v24)), (an, .inl (y 0, 76, .inl v25))] := hD
    have h50 : ks_pa fmb bl (ks_K fmb bl 0) (ks_S fmb bl 0) (ks_E fmb bl 0) = ks_flt v20 := h50 rfl
    have hP : va_P D vwCl [(to, .inl (y 0, 228, .inl ft)), (mo, .inr (11, [.ref to, .ref ke, .ref ik, .ref mrf, .long mab, .long mbl, .ref ha, .ref r0, .ref mbr, .ref mbp, .ref mby, .int (nI bl), .int (nI v20), .int (nI v21), .int (nI v22), .int v23, .ref an, .ref va])), (mby, .inl (y 0, 150, .inl fmb)), (va, .inl (y 0, 2, .inl v24)), (an, .inl (y 0, 76, .inl v25))] H := hP
    have hD : va_D A [(to, .inl (y 0, 228, .inl ft)), (mo, .inr (11, [.ref to, .ref ke, .ref ik, .ref mrf, .long mab, .long mbl, .ref ha, .ref r0, .ref mbr, .ref mbp, .ref mby, .int (nI bl), .int (nI v20), .int (nI v21), .int (nI v22), .int v23, .ref an, .ref va])), (mby, .inl (y 0, 150, .inl fmb)), (va, .inl (y 0, 2, .inl v24)), (an, .inl (y 0, 76, .inl v25))] := hD
    refine lv_if_ne (tgt := 20) hx hb dX11_read_9 (by decide) (fun h9 => absurd h9 (by decide)) (fun _ => ?_)
    have hF9 : ks_read fmb bl = ks_flt v20 := ks_read_paF h50
    exact (ks_ne (hF9.symm.trans hA1)).elim
  · skip
    have hP : va_P D vwCl [(to, .inl (y 0, 228, .inl ft)), (mo, .inr (11, [.ref to, .ref ke, .ref ik, .ref mrf, .long mab, .long mbl, .ref ha, .ref r0, .ref mbr, .ref mbp, .ref mby, .int (nI bl), .int (nI v20), .int (nI v21), .int (nI v22), .int v23, .ref an, .ref va])), (mby, .inl (y 0, 150, .inl fmb)), (va, .inl (y 0, 2, .inl v24)), (an, .inl (y 0, 76, .inl v25))] H := hP
    have hD : va_D A [(to, .inl (y 0, 228, .inl ft)), (mo, .inr (11, [.ref to, .ref ke, .ref ik, .ref mrf, .long mab, .long mbl, .ref ha, .ref r0, .ref mbr, .ref mbp, .ref mby, .int (nI bl), .int (nI v20), .int (nI v21), .int (nI v22), .int v23, .ref an, .ref va])), (mby, .inl (y 0, 150, .inl fmb)), (va, .inl (y 0, 2, .inl v24)), (an, .inl (y 0, 76, .inl v25))] := hD
    have h51 : ks_pa fmb bl (ks_K fmb bl 0) (ks_S fmb bl 0) (ks_E fmb bl 0) = ks_ok (ks_E fmb bl (ks_E fmb bl 0)) 0 0 12 (fun _ => 0) ∧ ks_K fmb bl (ks_E fmb bl (ks_E fmb bl 0)) = 3 ∧ v20 = ks_S fmb bl (ks_E fmb bl (ks_E fmb bl 0)) ∧ v21 = ks_L fmb bl (ks_E fmb bl (ks_E fmb bl 0)) ∧ v22 = ks_K fmb bl (ks_E fmb bl (ks_E fmb bl 0)) ∧ v26 = 0 ∧ v27 = 0 ∧ v28 = 0 ∧ v29 = 0 ∧ v30 = 0 ∧ v31 = 0 ∧ kz_N fmb bl (ks_E fmb bl (ks_E fmb bl 0)) v23 := h51 rfl
    obtain ⟨h52, h53, h54, h55, h56, h57, h58, h59, h60, h61, h62, h63⟩ := h51
    have h54 := h54.symm
    subst h54
    have h55 := h55.symm
    subst h55
    have h56 := h56.symm
    subst h56
    have h57 := h57.symm
    subst h57
    have h58 := h58.symm
    subst h58
    have h59 := h59.symm
    subst h59
    have h60 := h60.symm
    subst h60
    have h61 := h61.symm
    subst h61
    have h62 := h62.symm
    subst h62
    have hP : va_P D vwCl [(to, .inl (y 0, 228, .inl ft)), (mo, .inr (11, [.ref to, .ref ke, .ref ik, .ref mrf, .long mab, .long mbl, .ref ha, .ref r0, .ref mbr, .ref mbp, .ref mby, .int (nI bl), .int (nI (ks_S fmb bl (ks_E fmb bl (ks_E fmb bl 0)))), .int (nI (ks_L fmb bl (ks_E fmb bl (ks_E fmb bl 0)))), .int (nI (ks_K fmb bl (ks_E fmb bl (ks_E fmb bl 0)))), .int v23, .ref an, .ref va])), (mby, .inl (y 0, 150, .inl fmb)), (va, .inl (y 0, 2, .inl v24)), (an, .inl (y 0, 76, .inl v25))] H := hP
    have hD : va_D A [(to, .inl (y 0, 228, .inl ft)), (mo, .inr (11, [.ref to, .ref ke, .ref ik, .ref mrf, .long mab, .long mbl, .ref ha, .ref r0, .ref mbr, .ref mbp, .ref mby, .int (nI bl), .int (nI (ks_S fmb bl (ks_E fmb bl (ks_E fmb bl 0)))), .int (nI (ks_L fmb bl (ks_E fmb bl (ks_E fmb bl 0)))), .int (nI (ks_K fmb bl (ks_E fmb bl (ks_E fmb bl 0)))), .int v23, .ref an, .ref va])), (mby, .inl (y 0, 150, .inl fmb)), (va, .inl (y 0, 2, .inl v24)), (an, .inl (y 0, 76, .inl v25))] := hD
    have hk64 := ks_E_le (f := fmb) (n := bl) (p := ks_E fmb bl 0) (by omega)
    have hk65 := ks_SL (f := fmb) (n := bl) (p := (ks_E fmb bl (ks_E fmb bl 0))) hk64.2
    have hk66 := ks_S_le (f := fmb) (n := bl) (p := (ks_E fmb bl (ks_E fmb bl 0))) hk64.2
    have hk67 := ks_K4 fmb bl (ks_E fmb bl (ks_E fmb bl 0))
    refine lv_if_ne (tgt := 20) hx hb dX11_read_9 (by decide) (fun _ => ?_) (fun h9 => absurd h9 (by decide))
    refine lv_aload_n hx hb dX11_read_20 rfl (lv_at hl 0 rfl) ?_
    have hs68 : kw_Split [(to, .inl (y 0, 228, .inl ft)), (mo, .inr (11, [.ref to, .ref ke, .ref ik, .ref mrf, .long mab, .long mbl, .ref ha, .ref r0, .ref mbr, .ref mbp, .ref mby, .int (nI bl), .int (nI (ks_S fmb bl (ks_E fmb bl (ks_E fmb bl 0)))), .int (nI (ks_L fmb bl (ks_E fmb bl (ks_E fmb bl 0)))), .int (nI (ks_K fmb bl (ks_E fmb bl (ks_E fmb bl 0)))), .int v23, .ref an, .ref va])), (mby, .inl (y 0, 150, .inl fmb)), (va, .inl (y 0, 2, .inl v24)), (an, .inl (y 0, 76, .inl v25))] [(mo, .inr (11, [.ref to, .ref ke, .ref ik, .ref mrf, .long mab, .long mbl, .ref ha, .ref r0, .ref mbr, .ref mbp, .ref mby, .int (nI bl), .int (nI (ks_S fmb bl (ks_E fmb bl (ks_E fmb bl 0)))), .int (nI (ks_L fmb bl (ks_E fmb bl (ks_E fmb bl 0)))), .int (nI (ks_K fmb bl (ks_E fmb bl (ks_E fmb bl 0)))), .int v23, .ref an, .ref va])), (mby, .inl (y 0, 150, .inl fmb))] [(to, .inl (y 0, 228, .inl ft)), (va, .inl (y 0, 2, .inl v24)), (an, .inl (y 0, 76, .inl v25))] [1, 2] [0, 3, 4] := ⟨rfl, rfl, rfl, rfl, rfl, by decide⟩
    refine kw_go_v hs68 hP hD hS hA (va_runV (As := []) (rest := []) ⟨hx, hb, hml, hown, hts⟩ (gr_Mgo l D y mo to ke ik mrf ha r0 mbr mbp mby an va mab mbl bl (ks_S fmb bl (ks_E fmb bl (ks_E fmb bl 0))) (ks_L fmb bl (ks_E fmb bl (ks_E fmb bl 0))) (ks_K fmb bl (ks_E fmb bl (ks_E fmb bl 0))) v23 fmb (ks_E fmb bl (ks_E fmb bl (ks_E fmb bl 0))) hbl (by omega) (by omega) (by omega) _) (cwV 0 hts gX11_read_X11_goBehind rfl rfl rfl (by decide +kernel) ⟨Nat.le_of_ble_eq_true rfl, Nat.le_of_ble_eq_true rfl⟩) (kw_PreV (ci := 11) (q0 := 1) hs68 hP hD hK hN rfl rfl) rfl rfl hl.1 rfl (lv_room (Nat.le_of_ble_eq_true rfl)) dX11_read_21 ⟨Nat.le_of_ble_eq_true rfl, Nat.le_of_ble_eq_true rfl⟩) (fun u70 H locs hq hP hD hS => ?_)
    obtain ⟨v71, rfl⟩ : ∃ z, z = u70 := ⟨_, rfl⟩
    try dsimp only at hq
    obtain ⟨h72, h73, h74, h75, h76⟩ := hq
    have hP : va_P D vwCl [(to, .inl (y 0, 228, .inl ft)), (va, .inl (y 0, 2, .inl v24)), (an, .inl (y 0, 76, .inl v25)), (mo, .inr (11, [.ref to, .ref ke, .ref ik, .ref mrf, .long mab, .long mbl, .ref ha, .ref r0, .ref mbr, .ref mbp, .ref mby, .int (nI bl), .int (nI (ks_S fmb bl (ks_E fmb bl (ks_E fmb bl (ks_E fmb bl 0))))), .int (nI (ks_L fmb bl (ks_E fmb bl (ks_E fmb bl (ks_E fmb bl 0))))), .int (nI (ks_K fmb bl (ks_E fmb bl (ks_E fmb bl (ks_E fmb bl 0))))), .int v71, .ref an, .ref va])), (mby, .inl (y 0, 150, .inl fmb))] H := hP
    have hD : va_D A [(to, .inl (y 0, 228, .inl ft)), (va, .inl (y 0, 2, .inl v24)), (an, .inl (y 0, 76, .inl v25)), (mo, .inr (11, [.ref to, .ref ke, .ref ik, .ref mrf, .long mab, .long mbl, .ref ha, .ref r0, .ref mbr, .ref mbp, .ref mby, .int (nI bl), .int (nI (ks_S fmb bl (ks_E fmb bl (ks_E fmb bl (ks_E fmb bl 0))))), .int (nI (ks_L fmb bl (ks_E fmb bl (ks_E fmb bl (ks_E fmb bl 0))))), .int (nI (ks_K fmb bl (ks_E fmb bl (ks_E fmb bl (ks_E fmb bl 0))))), .int v71, .ref an, .ref va])), (mby, .inl (y 0, 150, .inl fmb))] := hD
    refine lv_iconst (v := 1) hx hb dX11_read_24 (by decide) ?_
    refine lv_istore_n (lv' := [(1, .int 1), (0, .ref mo)]) hx hb dX11_read_25 rfl hl (by decide) rfl (fun ls hl => ?_)
    have lp312 : ∀ (fu91 : Nat) (x152 : Nat) (x153 : Nat → Int32) (x154 : Nat → Int32) (x155 : Nat) (x156 : Nat) (x157 : Nat) (x158 : Int32) (x234 : Nat) (x235 : Nat) (x236 : Nat) (H : Heap) (locs : List Loc) (ls : Array Slot), bl - x155 < fu91 → kr_t 76 x154 → x154 0 = (nI x234) → x154 1 = (nI x235) → x154 2 = (nI 0) → x154 3 = (nI 0) → x154 4 = (nI 0) → x154 21 = (nI x236) → x152 ≤ bl + 1 → x155 ≤ bl → x156 ≤ 150 → x157 ≤ 4 → x234 ≤ 6 → x235 ≤ 5 → x236 ≤ 12 → kz_RI fmb bl x155 x156 x157 x158 x152 x234 x235 x236 x154 → x155 + x156 ≤ bl → x152 ≤ x155 + 1 → (x235 = 0 ∨ 0 < x234) → va_P D vwCl [(to, .inl (y 0, 228, .inl ft)), (va, .inl (y 0, 2, .inl x153)), (an, .inl (y 0, 76, .inl x154)), (mo, .inr (11, [.ref to, .ref ke, .ref ik, .ref mrf, .long mab, .long mbl, .ref ha, .ref r0, .ref mbr, .ref mbp, .ref mby, .int (nI bl), .int (nI x155), .int (nI x156), .int (nI x157), .int x158, .ref an, .ref va])), (mby, .inl (y 0, 150, .inl fmb))] H → va_D A [(to, .inl (y 0, 228, .inl ft)), (va, .inl (y 0, 2, .inl x153)), (an, .inl (y 0, 76, .inl x154)), (mo, .inr (11, [.ref to, .ref ke, .ref ik, .ref mrf, .long mab, .long mbl, .ref ha, .ref r0, .ref mbr, .ref mbp, .ref mby, .int (nI bl), .int (nI x155), .int (nI x156), .int (nI x157), .int x158, .ref an, .ref va])), (mby, .inl (y 0, 150, .inl fmb))] → va_S A s.heap H locs → lv_has ls 3 [(1, .int (nI x152)), (0, .ref mo)] → W pZ l eZ ({ frames := 8, cells := 0, slots := 0, locals := 219 }) s mZ [.ref mo].toArray beZ meZ cZ H locs 0 0 (MQ beZ (va_Qi (fun (r : Int32) (u : Nat × Nat × Nat × Int32 × (Nat → Int32) × (Nat → Int32) × Nat × (Nat → Int32)) => u.1 ≤ 150 ∧ u.2.1 ≤ 150 ∧ u.2.2.1 ≤ 4 ∧ kr_t 76 u.2.2.2.2.2.1 ∧ u.2.2.2.2.2.1 0 = (nI a) ∧ u.2.2.2.2.2.1 1 = (nI b) ∧ u.2.2.2.2.2.1 2 = (nI 0) ∧ u.2.2.2.2.2.1 3 = (nI 0) ∧ u.2.2.2.2.2.1 4 = (nI 0) ∧ u.2.2.2.2.2.2.1 ≤ 12 ∧ u.2.2.2.2.2.1 21 = (nI u.2.2.2.2.2.2.1) ∧ kr_t 228 u.2.2.2.2.2.2.2 ∧ u.2.2.2.2.2.2.2 0 = (nI a) ∧ u.2.2.2.2.2.2.2 1 = (nI b) ∧ u.2.2.2.2.2.2.2 2 = (nI 0) ∧ u.2.2.2.2.2.2.2 3 = (nI 0) ∧ u.2.2.2.2.2.2.2 4 = (nI 0) ∧ kz_ka u.2.2.2.2.2.2.2 a kd ∧ (b = 0 ∨ 0 < a) ∧ (b = 0 ∨ 0 < a) ∧ r = (nI m)) (kw_B D (fun u => [(mo, .inr (11, [.ref to, .ref ke, .ref ik, .ref mrf, .long mab, .long mbl, .ref ha, .ref r0, .ref mbr, .ref mbp, .ref mby, .int (nI bl), .int (nI u.1), .int (nI u.2.1), .int (nI u.2.2.1), .int u.2.2.2.1, .ref an, .ref va])), (mby, .inl (y 0, 150, .inl fmb)), (va, .inl (y 0, 2, .inl u.2.2.2.2.1)), (an, .inl (y 0, 76, .inl u.2.2.2.2.2.1)), (to, .inl (y 0, 228, .inl u.2.2.2.2.2.2.2))]) A) A) [.ref mo].toArray s 0 0 A) (F0 mZ 26 ls []) := by
      intro fu91
      induction fu91 with
      | zero => intro x152 x153 x154 x155 x156 x157 x158 x234 x235 x236 H locs ls hf9; exact absurd hf9 (Nat.not_lt_zero _)
      | succ fu91 ihfu91 =>
        intro x152 x153 x154 x155 x156 x157 x158 x234 x235 x236 H locs ls hffu91 hr_x154 hk_x154_0 hk_x154_1 hk_x154_2 hk_x154_3 hk_x154_4 hk_x154_21 hn_x152 hn_x155 hn_x156 hn_x157 hn_x234 hn_x235 hn_x236 hJ0_fu91 hJ1_fu91 hJ2_fu91 hJ3_fu91 hP hD hS hl
        obtain ⟨p9, kd9, ⟨rfl, rfl, rfl, hn9⟩, hp9, hL9, hk9⟩ := hJ0_fu91
        have hk313 := ks_K4 fmb bl p9
        have hk314 := ks_SL (f := fmb) (n := bl) (p := p9) hp9
        have hk315 := ks_S_le (f := fmb) hp9
        have hP : va_P D vwCl [(to, .inl (y 0, 228, .inl ft)), (va, .inl (y 0, 2, .inl x153)), (an, .inl (y 0, 76, .inl x154)), (mo, .inr (11, [.ref to, .ref ke, .ref ik, .ref mrf, .long mab, .long mbl, .ref ha, .ref r0, .ref mbr, .ref mbp, .ref mby, .int (nI bl), .int (nI (ks_S fmb bl p9)), .int (nI (ks_L fmb bl p9)), .int (nI (ks_K fmb bl p9)), .int x158, .ref an, .ref va])), (mby, .inl (y 0, 150, .inl fmb))] H := hP
        have hD : va_D A [(to, .inl (y 0, 228, .inl ft)), (va, .inl (y 0, 2, .inl x153)), (an, .inl (y 0, 76, .inl x154)), (mo, .inr (11, [.ref to, .ref ke, .ref ik, .ref mrf, .long mab, .long mbl, .ref ha, .ref r0, .ref mbr, .ref mbp, .ref mby, .int (nI bl), .int (nI (ks_S fmb bl p9)), .int (nI (ks_L fmb bl p9)), .int (nI (ks_K fmb bl p9)), .int x158, .ref an, .ref va])), (mby, .inl (y 0, 150, .inl fmb))] := hD
        refine lv_aload_n hx hb dX11_read_26 rfl (lv_at hl 1 rfl) ?_
        refine va_get (D := D) (ci := 11) (v := .int (nI (ks_K fmb bl p9))) (C := RX11) (T := TX11) (N := 18) hx hb hts iw11 hown hK hP 3 rfl rfl 14 (by decide) fw1 (fun _ h9 => h9) rfl dX11_read_27 ?_
        refine lv_if_eq (tgt := 66) hx hb dX11_read_30 (by decide) (fun h316 => ?_) (fun h317 => ?_)
        · skip
          have h316 : (ks_K fmb bl p9) = 0 := (nI_eq (a := (ks_K fmb bl p9)) (b := 0) (by omega) (by omega)).mp h316
          obtain ⟨e1, e2, e3, e4, e5⟩ := ks_ok_inj (hA1.symm.trans (hL9.trans (ks_loop0 h316)))
          subst e1
          subst e2
          subst e3
          subst e5
          have hP : va_P D vwCl [(to, .inl (y 0, 228, .inl ft)), (va, .inl (y 0, 2, .inl x153)), (an, .inl (y 0, 76, .inl x154)), (mo, .inr (11, [.ref to, .ref ke, .ref ik, .ref mrf, .long mab, .long mbl, .ref ha, .ref r0, .ref mbr, .ref mbp, .ref mby, .int (nI bl), .int (nI (ks_S fmb bl p9)), .int (nI (ks_L fmb bl p9)), .int (nI (ks_K fmb bl p9)), .int x158, .ref an, .ref va])), (mby, .inl (y 0, 150, .inl fmb))] H := hP
          have hD : va_D A [(to, .inl (y 0, 228, .inl ft)), (va, .inl (y 0, 2, .inl x153)), (an, .inl (y 0, 76, .inl x154)), (mo, .inr (11, [.ref to, .ref ke, .ref ik, .ref mrf, .long mab, .long mbl, .ref ha, .ref r0, .ref mbr, .ref mbp, .ref mby, .int (nI bl), .int (nI (ks_S fmb bl p9)), .int (nI (ks_L fmb bl p9)), .int (nI (ks_K fmb bl p9)), .int x158, .ref an, .ref va])), (mby, .inl (y 0, 150, .inl fmb))] := hD
          refine lv_iconst (v := 0) hx hb dX11_read_66 (by decide) ?_
          refine lv_istore_n (lv' := [(2, .int 0), (1, .int (nI m)), (0, .ref mo)]) hx hb dX11_read_67 rfl hl (by decide) rfl (fun ls hl => ?_)
          have lp335 : ∀ (fuj92 j92 : Nat) (x326 : Nat → Int32) (H : Heap) (locs : List Loc) (ls : Array Slot), j92 ≤ 76 → 76 - j92 < fuj92 → x326 = kr_cp ft x154 j92 → va_P D vwCl [(to, .inl (y 0, 228, .inl x326)), (va, .inl (y 0, 2, .inl x153)), (an, .inl (y 0, 76, .inl x154)), (mo, .inr (11, [.ref to, .ref ke, .ref ik, .ref mrf, .long mab, .long mbl, .ref ha, .ref r0, .ref mbr, .ref mbp, .ref mby, .int (nI bl), .int (nI (ks_S fmb bl p9)), .int (nI (ks_L fmb bl p9)), .int (nI (ks_K fmb bl p9)), .int x158, .ref an, .ref va])), (mby, .inl (y 0, 150, .inl fmb))] H → va_D A [(to, .inl (y 0, 228, .inl x326)), (va, .inl (y 0, 2, .inl x153)), (an, .inl (y 0, 76, .inl x154)), (mo, .inr (11, [.ref to, .ref ke, .ref ik, .ref mrf, .long mab, .long mbl, .ref ha, .ref r0, .ref mbr, .ref mbp, .ref mby, .int (nI bl), .int (nI (ks_S fmb bl p9)), .int (nI (ks_L fmb bl p9)), .int (nI (ks_K fmb bl p9)), .int x158, .ref an, .ref va])), (mby, .inl (y 0, 150, .inl fmb))] → va_S A s.heap H locs → lv_has ls 3 [(2, .int (nI j92)), (1, .int (nI m)), (0, .ref mo)] → W pZ l eZ ({ frames := 8, cells := 0, slots := 0, locals := 219 }) s mZ [.ref mo].toArray beZ meZ cZ H locs 0 0 (MQ beZ (va_Qi (fun (r : Int32) (u : Nat × Nat × Nat × Int32 × (Nat → Int32) × (Nat → Int32) × Nat × (Nat → Int32)) => u.1 ≤ 150 ∧ u.2.1 ≤ 150 ∧ u.2.2.1 ≤ 4 ∧ kr_t 76 u.2.2.2.2.2.1 ∧ u.2.2.2.2.2.1 0 = (nI a) ∧ u.2.2.2.2.2.1 1 = (nI b) ∧ u.2.2.2.2.2.1 2 = (nI 0) ∧ u.2.2.2.2.2.1 3 = (nI 0) ∧ u.2.2.2.2.2.1 4 = (nI 0) ∧ u.2.2.2.2.2.2.1 ≤ 12 ∧ u.2.2.2.2.2.1 21 = (nI u.2.2.2.2.2.2.1) ∧ kr_t 228 u.2.2.2.2.2.2.2 ∧ u.2.2.2.2.2.2.2 0 = (nI a) ∧ u.2.2.2.2.2.2.2 1 = (nI b) ∧ u.2.2.2.2.2.2.2 2 = (nI 0) ∧ u.2.2.2.2.2.2.2 3 = (nI 0) ∧ u.2.2.2.2.2.2.2 4 = (nI 0) ∧ kz_ka u.2.2.2.2.2.2.2 a kd ∧ (b = 0 ∨ 0 < a) ∧ (b = 0 ∨ 0 < a) ∧ r = (nI m)) (kw_B D (fun u => [(mo, .inr (11, [.ref to, .ref ke, .ref ik, .ref mrf, .long mab, .long mbl, .ref ha, .ref r0, .ref mbr, .ref mbp, .ref mby, .int (nI bl), .int (nI u.1), .int (nI u.2.1), .int (nI u.2.2.1), .int u.2.2.2.1, .ref an, .ref va])), (mby, .inl (y 0, 150, .inl fmb)), (va, .inl (y 0, 2, .inl u.2.2.2.2.1)), (an, .inl (y 0, 76, .inl u.2.2.2.2.2.1)), (to, .inl (y 0, 228, .inl u.2.2.2.2.2.2.2))]) A) A) [.ref mo].toArray s 0 0 A) (F0 mZ 68 ls []) := by
            intro fuj92
            induction fuj92 with
            | zero => intro j92 x326 H locs ls hj9 hf9; exact absurd hf9 (Nat.not_lt_zero _)
            | succ fuj92 ihj92 =>
              intro j92 x326 H locs ls hj92 hfj92 hI0_j92 hP hD hS hl
              refine lv_iload_n hx hb dX11_read_68 rfl (lv_at hl 0 rfl) ?_
              refine lv_bipush (v := 76) hx hb dX11_read_69 (by decide) ?_
              refine lv_icmp_ge (tgt := 92) hx hb dX11_read_71 (by decide) (fun h336 => ?_) (fun h337 => ?_)
              · skip
                have h336 : 76 ≤ j92 := (nI_leI (a := 76) (b := j92) (by omega) (by omega)).mp h336
                obtain rfl : j92 = 76 := by omega
                subst hI0_j92
                have hP : va_P D vwCl [(to, .inl (y 0, 228, .inl (kr_cp ft x154 76))), (va, .inl (y 0, 2, .inl x153)), (an, .inl (y 0, 76, .inl x154)), (mo, .inr (11, [.ref to, .ref ke, .ref ik, .ref mrf, .long mab, .long mbl, .ref ha, .ref r0, .ref mbr, .ref mbp, .ref mby, .int (nI bl), .int (nI (ks_S fmb bl p9)), .int (nI (ks_L fmb bl p9)), .int (nI (ks_K fmb bl p9)), .int x158, .ref an, .ref va])), (mby, .inl (y 0, 150, .inl fmb))] H := hP
                have hD : va_D A [(to, .inl (y 0, 228, .inl (kr_cp ft x154 76))), (va, .inl (y 0, 2, .inl x153)), (an, .inl (y 0, 76, .inl x154)), (mo, .inr (11, [.ref to, .ref ke, .ref ik, .ref mrf, .long mab, .long mbl, .ref ha, .ref r0, .ref mbr, .ref mbp, .ref mby, .int (nI bl), .int (nI (ks_S fmb bl p9)), .int (nI (ks_L fmb bl p9)), .int (nI (ks_K fmb bl p9)), .int x158, .ref an, .ref va])), (mby, .inl (y 0, 150, .inl fmb))] := hD
                have hr338 : kr_t 228 (kr_cp ft x154 76) := kr_cpt hr_x154 hkt (by decide)
                have hk339 : (kr_cp ft x154 76) 0 = (nI a) := (kr_cp_lt (by decide)).trans hk_x154_0
                have hk340 : (kr_cp ft x154 76) 1 = (nI b) := (kr_cp_lt (by decide)).trans hk_x154_1
                have hk341 : (kr_cp ft x154 76) 2 = (nI 0) := (kr_cp_lt (by decide)).trans hk_x154_2
                have hk342 : (kr_cp ft x154 76) 3 = (nI 0) := (kr_cp_lt (by decide)).trans hk_x154_3
                have hk343 : (kr_cp ft x154 76) 4 = (nI 0) := (kr_cp_lt (by decide)).trans hk_x154_4
                refine lv_iload_n hx hb dX11_read_92 rfl (lv_at hl 1 rfl) ?_
                exact W.iret (v := (nI m)) hx hb hr (fun tZ ht hW => ⟨⟨(nI m), (ks_S fmb bl p9, ks_L fmb bl p9, ks_K fmb bl p9, x158, x153, x154, x236, (kr_cp ft x154 76)), rfl, ⟨by first | omega | (dsimp only; omega), by first | omega | (dsimp only; omega), by first | omega | (dsimp only; omega), hr_x154, hk_x154_0, hk_x154_1, hk_x154_2, hk_x154_3, hk_x154_4, by first | omega | (dsimp only; omega), hk_x154_21, hr338, hk339, hk340, hk341, hk342, hk343, kz_ka_cp hk9 (by first | omega | (dsimp only; omega)), by first | omega | (dsimp only; omega), by first | omega | (dsimp only; omega), rfl⟩, by rw [ht]; exact hP.sub [3, 4, 1, 2, 0] rfl, hD.sub [3, 4, 1, 2, 0] (by decide) rfl⟩, hS.F ht⟩) hS.2.2 dX11_read_93
              · skip
                have h337 : ¬ 76 ≤ j92 := fun q9 => h337 ((nI_leI (a := 76) (b := j92) (by omega) (by omega)).mpr q9)
                refine lv_aload_n hx hb dX11_read_74 rfl (lv_at hl 2 rfl) ?_
                refine va_get (D := D) (ci := 11) (v := .ref to) (C := RX11) (T := TX11) (N := 18) hx hb hts iw11 hown hK hP 3 rfl rfl 0 (by decide) fw2 (fun _ h9 => h9) rfl dX11_read_75 ?_
                refine lv_iload_n hx hb dX11_read_78 rfl (lv_at hl 0 rfl) ?_
                refine lv_aload_n hx hb dX11_read_79 rfl (lv_at hl 2 rfl) ?_
                refine va_get (D := D) (ci := 11) (v := .ref an) (C := RX11) (T := TX11) (N := 18) hx hb hts iw11 hown hK hP 3 rfl rfl 16 (by decide) fw3 (fun _ h9 => h9) rfl dX11_read_80 ?_
                refine lv_iload_n hx hb dX11_read_83 rfl (lv_at hl 0 rfl) ?_
                refine va_iald hx hb hK hP 2 0 rfl rfl (vp_in_nI (by omega) (by decide)) dX11_read_84 ?_
                rw [nI_clamp (n := j92) (by omega)]
                refine va_iast hx hb hK hP hD hS 0 0 rfl rfl (vp_in_nI (by omega) (by decide)) dX11_read_85 (fun H locs hP hD hS => ?_)
                rw [nI_clamp (n := j92) (by omega)] at hP hD
                have hP : va_P D vwCl [(to, .inl (y 0, 228, .inl (upd x326 j92 (x154 j92)))), (va, .inl (y 0, 2, .inl x153)), (an, .inl (y 0, 76, .inl x154)), (mo, .inr (11, [.ref to, .ref ke, .ref ik, .ref mrf, .long mab, .long mbl, .ref ha, .ref r0, .ref mbr, .ref mbp, .ref mby, .int (nI bl), .int (nI (ks_S fmb bl p9)), .int (nI (ks_L fmb bl p9)), .int (nI (ks_K fmb bl p9)), .int x158, .ref an, .ref va])), (mby, .inl (y 0, 150, .inl fmb))] H := hP
                have hD : va_D A [(to, .inl (y 0, 228, .inl (upd x326 j92 (x154 j92)))), (va, .inl (y 0, 2, .inl x153)), (an, .inl (y 0, 76, .inl x154)), (mo, .inr (11, [.ref to, .ref ke, .ref ik, .ref mrf, .long mab, .long mbl, .ref ha, .ref r0, .ref mbr, .ref mbp, .ref mby, .int (nI bl), .int (nI (ks_S fmb bl p9)), .int (nI (ks_L fmb bl p9)), .int (nI (ks_K fmb bl p9)), .int x158, .ref an, .ref va])), (mby, .inl (y 0, 150, .inl fmb))] := hD
                refine lv_iinc (v := (nI (j92 + 1))) (lv' := [(2, .int (nI (j92 + 1))), (1, .int (nI m)), (0, .ref mo)]) hx hb dX11_read_86 hl (k := 0) rfl (nI_1 j92) (by decide) rfl (fun ls hl => ?_)
                refine lv_goto (tgt := 68) hx hb dX11_read_89 (by decide) ?_
                exact ihj92 (j92 + 1) (upd x326 j92 (x154 j92)) H locs ls (by omega) (by omega) (by rw [hI0_j92]; exact kr_cpS) (hP.sub [0, 1, 2, 3, 4] rfl) (hD.sub [0, 1, 2, 3, 4] (by decide) rfl) hS (lv_sub hl [0, 1, 2] rfl)
          exact lp335 (76 + 1) 0 ft _ _ _ (by omega) (by omega) kr_cp0 hP hD hS (lv_sub hl [0, 1, 2] rfl)
        · skip
          have h317 : ¬ (ks_K fmb bl p9) = 0 := fun q9 => h317 ((nI_eq (a := (ks_K fmb bl p9)) (b := 0) (by omega) (by omega)).mpr q9)
          refine lv_aload_n hx hb dX11_read_33 rfl (lv_at hl 1 rfl) ?_
          have hs344 : kw_Split [(to, .inl (y 0, 228, .inl ft)), (va, .inl (y 0, 2, .inl x153)), (an, .inl (y 0, 76, .inl x154)), (mo, .inr (11, [.ref to, .ref ke, .ref ik, .ref mrf, .long mab, .long mbl, .ref ha, .ref r0, .ref mbr, .ref mbp, .ref mby, .int (nI bl), .int (nI (ks_S fmb bl p9)), .int (nI (ks_L fmb bl p9)), .int (nI (ks_K fmb bl p9)), .int x158, .ref an, .ref va])), (mby, .inl (y 0, 150, .inl fmb))] [(mo, .inr (11, [.ref to, .ref ke, .ref ik, .ref mrf, .long mab, .long mbl, .ref ha, .ref r0, .ref mbr, .ref mbp, .ref mby, .int (nI bl), .int (nI (ks_S fmb bl p9)), .int (nI (ks_L fmb bl p9)), .int (nI (ks_K fmb bl p9)), .int x158, .ref an, .ref va])), (mby, .inl (y 0, 150, .inl fmb)), (va, .inl (y 0, 2, .inl x153)), (an, .inl (y 0, 76, .inl x154))] [(to, .inl (y 0, 228, .inl ft))] [3, 4, 1, 2] [0] := ⟨rfl, rfl, rfl, rfl, rfl, by decide⟩
          refine kw_go_i hs344 hP hD hS hA (va_runV (As := []) (rest := []) ⟨hx, hb, hml, hown, hts⟩ (gr_MtakesItem l D y mo to ke ik mrf ha r0 mbr mbp mby an va mab mbl bl (ks_S fmb bl p9) (ks_L fmb bl p9) (ks_K fmb bl p9) x158 fmb x153 x154 x234 x235 0 0 0 x236 (ks_E fmb bl p9) kd9 hbl (by omega) (by omega) (by omega) hk_x154_0 hk_x154_1 hk_x154_2 hk_x154_3 hk_x154_4 hk_x154_21 hr_x154 (by omega) (by omega) (by omega) (by omega) (by omega) (by omega) hJ3_fu91 hk9 _) (cwV 0 hts gX11_read_X11_takesItem rfl rfl rfl (by decide +kernel) ⟨Nat.le_of_ble_eq_true rfl, Nat.le_of_ble_eq_true rfl⟩) (kw_PreV (ci := 11) (q0 := 3) hs344 hP hD hK hN rfl rfl) rfl rfl hl.1 rfl (lv_room (Nat.le_of_ble_eq_true rfl)) dX11_read_34 ⟨Nat.le_of_ble_eq_true rfl, Nat.le_of_ble_eq_true rfl⟩) (fun r345 u346 H locs hq hP hD hS => ?_)
          obtain ⟨v347, v348, v349, v350, v351, v352, v353, v354, v355⟩ := u346
          try dsimp only at hq
          obtain ⟨h356, h357, h358, h359, h360, h361, h362, h363, h364, h365, h366, h367, h368, (rfl | rfl), h369, h370, h371, h372⟩ := hq
          · skip
            have hP : va_P D vwCl [(to, .inl (y 0, 228, .inl ft)), (mo, .inr (11, [.ref to, .ref ke, .ref ik, .ref mrf, .long mab, .long mbl, .ref ha, .ref r0, .ref mbr, .ref mbp, .ref mby, .int (nI bl), .int (nI v347), .int (nI v348), .int (nI v349), .int v350, .ref an, .ref va])), (mby, .inl (y 0, 150, .inl fmb)), (va, .inl (y 0, 2, .inl v351)), (an, .inl (y 0, 76, .inl v352))] H := hP
            have hD : va_D A [(to, .inl (y 0, 228, .inl ft)), (mo, .inr (11, [.ref to, .ref ke, .ref ik, .ref mrf, .long mab, .long mbl, .ref ha, .ref r0, .ref mbr, .ref mbp, .ref mby, .int (nI bl), .int (nI v347), .int (nI v348), .int (nI v349), .int v350, .ref an, .ref va])), (mby, .inl (y 0, 150, .inl fmb)), (va, .inl (y 0, 2, .inl v351)), (an, .inl (y 0, 76, .inl v352))] := hD
            have h371 : ks_it fmb bl (ks_K fmb bl p9) (ks_S fmb bl p9) (ks_E fmb bl p9) x234 x235 (12 - x236) kd9 = ks_flt v347 := h371 rfl
            refine lv_if_eq (tgt := 48) hx hb dX11_read_37 (by decide) (fun _ => ?_) (fun h9 => absurd h9 (by decide))
            have hF9 : ks_read fmb bl = ks_flt v347 := hL9.trans (ks_loopF h317 h371)
            exact (ks_ne (hF9.symm.trans hA1)).elim
          · skip
            have hP : va_P D vwCl [(to, .inl (y 0, 228, .inl ft)), (mo, .inr (11, [.ref to, .ref ke, .ref ik, .ref mrf, .long mab, .long mbl, .ref ha, .ref r0, .ref mbr, .ref mbp, .ref mby, .int (nI bl), .int (nI v347), .int (nI v348), .int (nI v349), .int v350, .ref an, .ref va])), (mby, .inl (y 0, 150, .inl fmb)), (va, .inl (y 0, 2, .inl v351)), (an, .inl (y 0, 76, .inl v352))] H := hP
            have hD : va_D A [(to, .inl (y 0, 228, .inl ft)), (mo, .inr (11, [.ref to, .ref ke, .ref ik, .ref mrf, .long mab, .long mbl, .ref ha, .ref r0, .ref mbr, .ref mbp, .ref mby, .int (nI bl), .int (nI v347), .int (nI v348), .int (nI v349), .int v350, .ref an, .ref va])), (mby, .inl (y 0, 150, .inl fmb)), (va, .inl (y 0, 2, .inl v351)), (an, .inl (y 0, 76, .inl v352))] := hD
            have h372 : kz_go fmb bl (ks_E fmb bl p9) (ks_it fmb bl (ks_K fmb bl p9) (ks_S fmb bl p9) (ks_E fmb bl p9) x234 x235 (12 - x236) kd9) v347 v348 v349 v350 v353 v354 (12 - v355) v352 := h372 rfl
            obtain ⟨qe9, ke9, hX9, hq9, he9, ⟨rfl, rfl, rfl, hm9⟩, hj9⟩ := h372
            have hk373 := ks_K4 fmb bl qe9
            have hk374 := ks_SL (f := fmb) (n := bl) (p := qe9) hq9
            have hk375 := ks_S_le (f := fmb) hq9
            have hk376 := ks_Kpos h317
            have hP : va_P D vwCl [(to, .inl (y 0, 228, .inl ft)), (mo, .inr (11, [.ref to, .ref ke, .ref ik, .ref mrf, .long mab, .long mbl, .ref ha, .ref r0, .ref mbr, .ref mbp, .ref mby, .int (nI bl), .int (nI (ks_S fmb bl qe9)), .int (nI (ks_L fmb bl qe9)), .int (nI (ks_K fmb bl qe9)), .int v350, .ref an, .ref va])), (mby, .inl (y 0, 150, .inl fmb)), (va, .inl (y 0, 2, .inl v351)), (an, .inl (y 0, 76, .inl v352))] H := hP
            have hD : va_D A [(to, .inl (y 0, 228, .inl ft)), (mo, .inr (11, [.ref to, .ref ke, .ref ik, .ref mrf, .long mab, .long mbl, .ref ha, .ref r0, .ref mbr, .ref mbp, .ref mby, .int (nI bl), .int (nI (ks_S fmb bl qe9)), .int (nI (ks_L fmb bl qe9)), .int (nI (ks_K fmb bl qe9)), .int v350, .ref an, .ref va])), (mby, .inl (y 0, 150, .inl fmb)), (va, .inl (y 0, 2, .inl v351)), (an, .inl (y 0, 76, .inl v352))] := hD
            refine lv_if_eq (tgt := 48) hx hb dX11_read_37 (by decide) (fun h9 => absurd h9 (by decide)) (fun _ => ?_)
            refine lv_aload_n hx hb dX11_read_40 rfl (lv_at hl 1 rfl) ?_
            refine va_get (D := D) (ci := 11) (v := .int (nI (ks_K fmb bl qe9))) (C := RX11) (T := TX11) (N := 18) hx hb hts iw11 hown hK hP 1 rfl rfl 14 (by decide) fw1 (fun _ h9 => h9) rfl dX11_read_41 ?_
            refine lv_iconst (v := 3) hx hb dX11_read_44 (by decide) ?_
            refine lv_icmp_eq (tgt := 56) hx hb dX11_read_45 (by decide) (fun h377 => ?_) (fun h378 => ?_)
            · skip
              have h377 : (ks_K fmb bl qe9) = 3 := (nI_eq (a := (ks_K fmb bl qe9)) (b := 3) (by omega) (by omega)).mp h377
              refine lv_aload_n hx hb dX11_read_56 rfl (lv_at hl 1 rfl) ?_
              have hs379 : kw_Split [(to, .inl (y 0, 228, .inl ft)), (mo, .inr (11, [.ref to, .ref ke, .ref ik, .ref mrf, .long mab, .long mbl, .ref ha, .ref r0, .ref mbr, .ref mbp, .ref mby, .int (nI bl), .int (nI (ks_S fmb bl qe9)), .int (nI (ks_L fmb bl qe9)), .int (nI (ks_K fmb bl qe9)), .int v350, .ref an, .ref va])), (mby, .inl (y 0, 150, .inl fmb)), (va, .inl (y 0, 2, .inl v351)), (an, .inl (y 0, 76, .inl v352))] [(mo, .inr (11, [.ref to, .ref ke, .ref ik, .ref mrf, .long mab, .long mbl, .ref ha, .ref r0, .ref mbr, .ref mbp, .ref mby, .int (nI bl), .int (nI (ks_S fmb bl qe9)), .int (nI (ks_L fmb bl qe9)), .int (nI (ks_K fmb bl qe9)), .int v350, .ref an, .ref va])), (mby, .inl (y 0, 150, .inl fmb))] [(to, .inl (y 0, 228, .inl ft)), (va, .inl (y 0, 2, .inl v351)), (an, .inl (y 0, 76, .inl v352))] [1, 2] [0, 3, 4] := ⟨rfl, rfl, rfl, rfl, rfl, by decide⟩
              refine kw_go_v hs379 hP hD hS hA (va_runV (As := []) (rest := []) ⟨hx, hb, hml, hown, hts⟩ (gr_Mgo l D y mo to ke ik mrf ha r0 mbr mbp mby an va mab mbl bl (ks_S fmb bl qe9) (ks_L fmb bl qe9) (ks_K fmb bl qe9) v350 fmb (ks_E fmb bl qe9) hbl (by omega) (by omega) (by omega) _) (cwV 0 hts gX11_read_X11_goBehind rfl rfl rfl (by decide +kernel) ⟨Nat.le_of_ble_eq_true rfl, Nat.le_of_ble_eq_true rfl⟩) (kw_PreV (ci := 11) (q0 := 1) hs379 hP hD hK hN rfl rfl) rfl rfl hl.1 rfl (lv_room (Nat.le_of_ble_eq_true rfl)) dX11_read_57 ⟨Nat.le_of_ble_eq_true rfl, Nat.le_of_ble_eq_true rfl⟩) (fun u381 H locs hq hP hD hS => ?_)
              obtain ⟨v382, rfl⟩ : ∃ z, z = u381 := ⟨_, rfl⟩
              try dsimp only at hq
              obtain ⟨h383, h384, h385, h386, h387⟩ := hq
              have hP : va_P D vwCl [(to, .inl (y 0, 228, .inl ft)), (va, .inl (y 0, 2, .inl v351)), (an, .inl (y 0, 76, .inl v352)), (mo, .inr (11, [.ref to, .ref ke, .ref ik, .ref mrf, .long mab, .long mbl, .ref ha, .ref r0, .ref mbr, .ref mbp, .ref mby, .int (nI bl), .int (nI (ks_S fmb bl (ks_E fmb bl qe9))), .int (nI (ks_L fmb bl (ks_E fmb bl qe9))), .int (nI (ks_K fmb bl (ks_E fmb bl qe9))), .int v382, .ref an, .ref va])), (mby, .inl (y 0, 150, .inl fmb))] H := hP
              have hD : va_D A [(to, .inl (y 0, 228, .inl ft)), (va, .inl (y 0, 2, .inl v351)), (an, .inl (y 0, 76, .inl v352)), (mo, .inr (11, [.ref to, .ref ke, .ref ik, .ref mrf, .long mab, .long mbl, .ref ha, .ref r0, .ref mbr, .ref mbp, .ref mby, .int (nI bl), .int (nI (ks_S fmb bl (ks_E fmb bl qe9))), .int (nI (ks_L fmb bl (ks_E fmb bl qe9))), .int (nI (ks_K fmb bl (ks_E fmb bl qe9))), .int v382, .ref an, .ref va])), (mby, .inl (y 0, 150, .inl fmb))] := hD
              refine lv_iinc (v := (nI (x152 + 1))) (lv' := [(1, .int (nI (x152 + 1))), (0, .ref mo)]) hx hb dX11_read_60 hl (k := 0) rfl (nI_1 x152) (by decide) rfl (fun ls hl => ?_)
              refine lv_goto (tgt := 26) hx hb dX11_read_63 (by decide) ?_
              exact ihfu91 (x152 + 1) v351 v352 (ks_S fmb bl (ks_E fmb bl qe9)) (ks_L fmb bl (ks_E fmb bl qe9)) (ks_K fmb bl (ks_E fmb bl qe9)) v382 v353 v354 v355 H locs ls (by omega) h359 h361 h363 h364 h365 h366 h368 (by omega) (by omega) (by omega) (by omega) (by omega) (by omega) (by omega) (kz_RI.mk h387 (by omega) (ks_next hL9 hp9 h317 hX9 hq9 he9 h377) hj9) (by omega) (by omega) (by omega) (hP.sub [0, 1, 2, 3, 4] rfl) (hD.sub [0, 1, 2, 3, 4] (by decide) rfl) hS (lv_sub hl [0, 1] rfl)
            · skip
              have h378 : ¬ (ks_K fmb bl qe9) = 3 := fun q9 => h378 ((nI_eq (a := (ks_K fmb bl qe9)) (b := 3) (by omega) (by omega)).mpr q9)
              have hF9 : ks_read fmb bl = ks_flt (ks_S fmb bl qe9) := hL9.trans (ks_loopS h317 hX9 h378)
              exact (ks_ne (hF9.symm.trans hA1)).elim
    exact lp312 _ 1 v24 v25 (ks_S fmb bl (ks_E fmb bl (ks_E fmb bl (ks_E fmb bl 0)))) (ks_L fmb bl (ks_E fmb bl (ks_E fmb bl (ks_E fmb bl 0)))) (ks_K fmb bl (ks_E fmb bl (ks_E fmb bl (ks_E fmb bl 0)))) v71 0 0 0 _ _ _ (Nat.lt_succ_self _) h35 h37 h39 h41 h43 h45 h47 (by omega) (by omega) (by omega) (by omega) (by omega) (by omega) (by omega) (kz_RI.mk h76 (by omega) (ks_read_paN h52) kz_ka_0) (by omega) (by omega) (by omega) hP hD hS (lv_sub hl [0, 1] rfl)

set_option maxHeartbeats 4000000 in
set_option maxRecDepth 100000 in
theorem gx_parish_b0 (l : Launch) (D : va_G) (y : Nat → ClassId) (g : Nat) (kk : Nat) (nw : Nat) (im : Nat) (kp : Nat) (tx : Nat) (tr : Nat) (be : Nat) (sh : Nat) (sd : Nat) (rf : Nat) (ab : Int32) (bl : Int32) (frf : Nat → Int32) (ax1 : Int32) (hnx : (¬ ∃ j : Nat, j < 10 ∧ ax1 = nI j)) : kw_Mi l yX10_parish wsX10_parish ({ frames := 2, cells := 0, slots := 0, locals := 81 }) D y [.ref g, .int ax1] [(g, .inr (10, [.ref kk, .ref nw, .ref im, .ref kp, .ref tx, .ref tr, .ref be, .ref sh, .ref sd, .ref rf, .int ab, .int bl])), (rf, .inl (y 0, 3, .inl frf))] (fun (r : Int32) (u : Unit) => r = (-2)) (fun _ => [(g, .inr (10, [.ref kk, .ref nw, .ref im, .ref kp, .ref tx, .ref tr, .ref be, .ref sh, .ref sd, .ref rf, .int ab, .int bl])), (rf, .inl (y 0, 3, .inl (upd frf 0 ((frf 0) + 1))))]) 0 0 := by
  refine kw_Mi.of (cc := cX10_parish) (maxL := 3) (ret := (some .int)) (by decide) rfl ?_
  intro pZ eZ s mZ beZ meZ cZ A hE
  obtain ⟨hx, hb, hr, hml, hts, hown, hlocks, hin, hA, hP, hD, hK, hN⟩ := hE
  have hS : va_S A s.heap s.heap [] := va_S.rf
  have hl := lv_entry ([.ref g, .int ax1]) (n := 3) (Nat.le_of_ble_eq_true rfl)
  rw [lg_entry_eq]
  generalize (lg_sl ([.ref g, .int ax1]) ++ List.replicate (3 - (lg_sl ([.ref g, .int ax1])).length) Slot.unset).toArray = ls at hl ⊢
  have hl : lv_has ls 3 [(0, .ref g), (1, .int ax1)] := hl
  refine lv_iload_n hx hb dX10_parish_0 rfl (lv_at hl 1 rfl) ?_
  refine lv_bipush (v := 10) hx hb dX10_parish_1 (by decide) ?_
  have hs1 : kw_Split [(g, .inr (10, [.ref kk, .ref nw, .ref im, .ref kp, .ref tx, .ref tr, .ref be, .ref sh, .ref sd, .ref rf, .int ab, .int bl])), (rf, .inl (y 0, 3, .inl frf))] [] [(g, .inr (10, [.ref kk, .ref nw, .ref im, .ref kp, .ref tx, .ref tr, .ref be, .ref sh, .ref sd, .ref rf, .int ab, .int bl])), (rf, .inl (y 0, 3, .inl frf))] [] [0, 1] := ⟨rfl, rfl, rfl, rfl, rfl, by decide⟩
  refine kw_go_i hs1 hP hD hS hA (va_runS (As := [.int ax1, .int 10]) (rest := []) ⟨hx, hb, hml, hown, hts⟩ (gc_isBelow l D y ax1 10 (by omega) _) (va_cwS 2 hts gX10_parish_X10_isBelow rfl rfl rfl (by decide +kernel) ⟨Nat.le_of_ble_eq_true rfl, Nat.le_of_ble_eq_true rfl⟩) (kw_PreS hs1 hP hD hK hN) rfl rfl hl.1 rfl (lv_room (Nat.le_of_ble_eq_true rfl)) dX10_parish_3 ⟨Nat.le_of_ble_eq_true rfl, Nat.le_of_ble_eq_true rfl⟩) (fun r2 u3 H locs hq hP hD hS => ?_)
  rcases hq with ⟨j4, h5, rfl, rfl⟩ | ⟨h6, rfl⟩
  · skip
    exact absurd ⟨j4, by omega, rfl⟩ hnx
  · skip
    have hP : va_P D vwCl [(g, .inr (10, [.ref kk, .ref nw, .ref im, .ref kp, .ref tx, .ref tr, .ref be, .ref sh, .ref sd, .ref rf, .int ab, .int bl])), (rf, .inl (y 0, 3, .inl frf))] H := hP
    have hD : va_D A [(g, .inr (10, [.ref kk, .ref nw, .ref im, .ref kp, .ref tx, .ref tr, .ref be, .ref sh, .ref sd, .ref rf, .int ab, .int bl])), (rf, .inl (y 0, 3, .inl frf))] := hD
    refine lv_if_ne (tgt := 14) hx hb dX10_parish_6 (by decide) (fun h9 => absurd h9 (by decide)) (fun _ => ?_)
    refine lv_aload_n hx hb dX10_parish_9 rfl (lv_at hl 0 rfl) ?_
    have hs7 : kw_Split [(g, .inr (10, [.ref kk, .ref nw, .ref im, .ref kp, .ref tx, .ref tr, .ref be, .ref sh, .ref sd, .ref rf, .int ab, .int bl])), (rf, .inl (y 0, 3, .inl frf))] [(g, .inr (10, [.ref kk, .ref nw, .ref im, .ref kp, .ref tx, .ref tr, .ref be, .ref sh, .ref sd, .ref rf, .int ab, .int bl])), (rf, .inl (y 0, 3, .inl frf))] [] [0, 1] [] := ⟨rfl, rfl, rfl, rfl, rfl, by decide⟩
    refine kw_go_i hs7 hP hD hS hA (va_runV (As := []) (rest := []) ⟨hx, hb, hml, hown, hts⟩ (gc_refuseBad l D y g kk nw im kp tx tr be sh sd rf ab bl frf  _) (cwV 0 hts gX10_parish_X10_refuseBad rfl rfl rfl (by decide +kernel) ⟨Nat.le_of_ble_eq_true rfl, Nat.le_of_ble_eq_true rfl⟩) (kw_PreV (ci := 10) (q0 := 0) hs7 hP hD hK hN rfl rfl) rfl rfl hl.1 rfl (lv_room (Nat.le_of_ble_eq_true rfl)) dX10_parish_10 ⟨Nat.le_of_ble_eq_true rfl, Nat.le_of_ble_eq_true rfl⟩) (fun r8 u9 H locs hq hP hD hS => ?_)
    obtain rfl := hq
    have hP : va_P D vwCl [(g, .inr (10, [.ref kk, .ref nw, .ref im, .ref kp, .ref tx, .ref tr, .ref be, .ref sh, .ref sd, .ref rf, .int ab, .int bl])), (rf, .inl (y 0, 3, .inl (upd frf 0 ((frf 0) + 1))))] H := hP
    have hD : va_D A [(g, .inr (10, [.ref kk, .ref nw, .ref im, .ref kp, .ref tx, .ref tr, .ref be, .ref sh, .ref sd, .ref rf, .int ab, .int bl])), (rf, .inl (y 0, 3, .inl (upd frf 0 ((frf 0) + 1))))] := hD
    exact W.iret (v := (-2)) hx hb hr (fun tZ ht hW => ⟨⟨(-2), (), rfl, rfl, by rw [ht]; exact hP.sub [0, 1] rfl, hD.sub [0, 1] (by decide) rfl⟩, hS.F ht⟩) hS.2.2 dX10_parish_13

set_option maxHeartbeats 4000000 in
set_option maxRecDepth 100000 in
theorem gy_parish_b0 (l : Launch) (D : va_G) (y : Nat → ClassId) (mo : Nat) (to : Nat) (ke : Nat) (ik : Nat) (mrf : Nat) (ha : Nat) (r0 : Nat) (mbr : Nat) (mbp : Nat) (mby : Nat) (an : Nat) (va : Nat) (mab : Int64) (mbl : Int64) (bl : Nat) (ta : Nat) (tl : Nat) (tk : Nat) (vv : Int32) (frf : Nat → Int32) (ax1 : Int32) (hnx : (¬ ∃ j : Nat, 0 ≤ j ∧ j ≤ 9 ∧ ax1 = nI j)) : kw_Mi l yX11_parish wsX11_parish ({ frames := 3, cells := 0, slots := 0, locals := 105 }) D y [.ref mo, .int ax1] [(mo, .inr (11, [.ref to, .ref ke, .ref ik, .ref mrf, .long mab, .long mbl, .ref ha, .ref r0, .ref mbr, .ref mbp, .ref mby, .int (nI bl), .int (nI ta), .int (nI tl), .int (nI tk), .int vv, .ref an, .ref va])), (mrf, .inl (y 0, 3, .inl frf))] (fun (r : Int32) (u : Unit) => r = (-2)) (fun _ => [(mo, .inr (11, [.ref to, .ref ke, .ref ik, .ref mrf, .long mab, .long mbl, .ref ha, .ref r0, .ref mbr, .ref mbp, .ref mby, .int (nI bl), .int (nI ta), .int (nI tl), .int (nI tk), .int vv, .ref an, .ref va])), (mrf, .inl (y 0, 3, .inl (upd frf 0 ((frf 0) + 1))))]) 0 0 := by
  refine kw_Mi.of (cc := cX11_parish) (maxL := 3) (ret := (some .int)) (by decide) rfl ?_
  intro pZ eZ s mZ beZ meZ cZ A hE
  obtain ⟨hx, hb, hr, hml, hts, hown, hlocks, hin, hA, hP, hD, hK, hN⟩ := hE
  have hS : va_S A s.heap s.heap [] := va_S.rf
  have hl := lv_entry ([.ref mo, .int ax1]) (n := 3) (Nat.le_of_ble_eq_true rfl)
  rw [lg_entry_eq]
  generalize (lg_sl ([.ref mo, .int ax1]) ++ List.replicate (3 - (lg_sl ([.ref mo, .int ax1])).length) Slot.unset).toArray = ls at hl ⊢
  have hl : lv_has ls 3 [(0, .ref mo), (1, .int ax1)] := hl
  refine lv_iload_n hx hb dX11_parish_0 rfl (lv_at hl 1 rfl) ?_
  have hs1 : kw_Split [(mo, .inr (11, [.ref to, .ref ke, .ref ik, .ref mrf, .long mab, .long mbl, .ref ha, .ref r0, .ref mbr, .ref mbp, .ref mby, .int (nI bl), .int (nI ta), .int (nI tl), .int (nI tk), .int vv, .ref an, .ref va])), (mrf, .inl (y 0, 3, .inl frf))] [] [(mo, .inr (11, [.ref to, .ref ke, .ref ik, .ref mrf, .long mab, .long mbl, .ref ha, .ref r0, .ref mbr, .ref mbp, .ref mby, .int (nI bl), .int (nI ta), .int (nI tl), .int (nI tk), .int vv, .ref an, .ref va])), (mrf, .inl (y 0, 3, .inl frf))] [] [0, 1] := ⟨rfl, rfl, rfl, rfl, rfl, by decide⟩
  refine kw_go_i hs1 hP hD hS hA (va_runS (As := [.int ax1]) (rest := []) ⟨hx, hb, hml, hown, hts⟩ (gr_isCloud l D y ax1  _) (va_cwS 1 hts gX11_parish_X11_isCloud rfl rfl rfl (by decide +kernel) ⟨Nat.le_of_ble_eq_true rfl, Nat.le_of_ble_eq_true rfl⟩) (kw_PreS hs1 hP hD hK hN) rfl rfl hl.1 rfl (lv_room (Nat.le_of_ble_eq_true rfl)) dX11_parish_1 ⟨Nat.le_of_ble_eq_true rfl, Nat.le_of_ble_eq_true rfl⟩) (fun r2 u3 H locs hq hP hD hS => ?_)
  rcases hq with ⟨j4, h5, rfl, rfl⟩ | ⟨h6, rfl⟩
  · skip
    exact absurd ⟨j4, by omega, by omega, rfl⟩ hnx
  · skip
    have hP : va_P D vwCl [(mo, .inr (11, [.ref to, .ref ke, .ref ik, .ref mrf, .long mab, .long mbl, .ref ha, .ref r0, .ref mbr, .ref mbp, .ref mby, .int (nI bl), .int (nI ta), .int (nI tl), .int (nI tk), .int vv, .ref an, .ref va])), (mrf, .inl (y 0, 3, .inl frf))] H := hP
    have hD : va_D A [(mo, .inr (11, [.ref to, .ref ke, .ref ik, .ref mrf, .long mab, .long mbl, .ref ha, .ref r0, .ref mbr, .ref mbp, .ref mby, .int (nI bl), .int (nI ta), .int (nI tl), .int (nI tk), .int vv, .ref an, .ref va])), (mrf, .inl (y 0, 3, .inl frf))] := hD
    refine lv_if_ne (tgt := 14) hx hb dX11_parish_4 (by decide) (fun h9 => absurd h9 (by decide)) (fun _ => ?_)
    refine lv_aload_n hx hb dX11_parish_7 rfl (lv_at hl 0 rfl) ?_
    refine lv_bipush (v := (-2)) hx hb dX11_parish_8 (by decide) ?_
    have hs7 : kw_Split [(mo, .inr (11, [.ref to, .ref ke, .ref ik, .ref mrf, .long mab, .long mbl, .ref ha, .ref r0, .ref mbr, .ref mbp, .ref mby, .int (nI bl), .int (nI ta), .int (nI tl), .int (nI tk), .int vv, .ref an, .ref va])), (mrf, .inl (y 0, 3, .inl frf))] [(mo, .inr (11, [.ref to, .ref ke, .ref ik, .ref mrf, .long mab, .long mbl, .ref ha, .ref r0, .ref mbr, .ref mbp, .ref mby, .int (nI bl), .int (nI ta), .int (nI tl), .int (nI tk), .int vv, .ref an, .ref va])), (mrf, .inl (y 0, 3, .inl frf))] [] [0, 1] [] := ⟨rfl, rfl, rfl, rfl, rfl, by decide⟩
    refine kw_go_i hs7 hP hD hS hA (va_runV (As := [.int (-2)]) (rest := []) ⟨hx, hb, hml, hown, hts⟩ (gr_bad l D y mo to ke ik mrf ha r0 mbr mbp mby an va mab mbl bl ta tl tk vv frf (-2)  _) (cwV 1 hts gX11_parish_X11_bad rfl rfl rfl (by decide +kernel) ⟨Nat.le_of_ble_eq_true rfl, Nat.le_of_ble_eq_true rfl⟩) (kw_PreV (ci := 11) (q0 := 0) hs7 hP hD hK hN rfl rfl) rfl rfl hl.1 rfl (lv_room (Nat.le_of_ble_eq_true rfl)) dX11_parish_10 ⟨Nat.le_of_ble_eq_true rfl, Nat.le_of_ble_eq_true rfl⟩) (fun r8 u9 H locs hq hP hD hS => ?_)
    obtain rfl := hq
    have hP : va_P D vwCl [(mo, .inr (11, [.ref to, .ref ke, .ref ik, .ref mrf, .long mab, .long mbl, .ref ha, .ref r0, .ref mbr, .ref mbp, .ref mby, .int (nI bl), .int (nI ta), .int (nI tl), .int (nI tk), .int vv, .ref an, .ref va])), (mrf, .inl (y 0, 3, .inl (upd frf 0 ((frf 0) + 1))))] H := hP
    have hD : va_D A [(mo, .inr (11, [.ref to, .ref ke, .ref ik, .ref mrf, .long mab, .long mbl, .ref ha, .ref r0, .ref mbr, .ref mbp, .ref mby, .int (nI bl), .int (nI ta), .int (nI tl), .int (nI tk), .int vv, .ref an, .ref va])), (mrf, .inl (y 0, 3, .inl (upd frf 0 ((frf 0) + 1))))] := hD
    exact W.iret (v := (-2)) hx hb hr (fun tZ ht hW => ⟨⟨(-2), (), rfl, rfl, by rw [ht]; exact hP.sub [0, 1] rfl, hD.sub [0, 1] (by decide) rfl⟩, hS.F ht⟩) hS.2.2 dX11_parish_13

set_option maxHeartbeats 4000000 in
set_option maxRecDepth 100000 in
theorem gx_field_b0 (l : Launch) (D : va_G) (y : Nat → ClassId) (g : Nat) (kk : Nat) (nw : Nat) (im : Nat) (kp : Nat) (tx : Nat) (tr : Nat) (be : Nat) (sh : Nat) (sd : Nat) (rf : Nat) (ab : Int32) (bl : Int32) (frf : Nat → Int32) (ax1 : Int32) (ax2 : Int32) (hnx : (¬ ∃ j : Nat, j < 6 ∧ ax1 = nI j)) : kw_Mi l yX10_field wsX10_field ({ frames := 2, cells := 0, slots := 0, locals := 81 }) D y [.ref g, .int ax1, .int ax2] [(g, .inr (10, [.ref kk, .ref nw, .ref im, .ref kp, .ref tx, .ref tr, .ref be, .ref sh, .ref sd, .ref rf, .int ab, .int bl])), (rf, .inl (y 0, 3, .inl frf))] (fun (r : Int32) (u : Unit) => r = (-2)) (fun _ => [(g, .inr (10, [.ref kk, .ref nw, .ref im, .ref kp, .ref tx, .ref tr, .ref be, .ref sh, .ref sd, .ref rf, .int ab, .int bl])), (rf, .inl (y 0, 3, .inl (upd frf 0 ((frf 0) + 1))))]) 0 0 := by
  refine kw_Mi.of (cc := cX10_field) (maxL := 3) (ret := (some .int)) (by decide) rfl ?_
  intro pZ eZ s mZ beZ meZ cZ A hE
  obtain ⟨hx, hb, hr, hml, hts, hown, hlocks, hin, hA, hP, hD, hK, hN⟩ := hE
  have hS : va_S A s.heap s.heap [] := va_S.rf
  have hl := lv_entry ([.ref g, .int ax1, .int ax2]) (n := 3) (Nat.le_of_ble_eq_true rfl)
  rw [lg_entry_eq]
  generalize (lg_sl ([.ref g, .int ax1, .int ax2]) ++ List.replicate (3 - (lg_sl ([.ref g, .int ax1, .int ax2])).length) Slot.unset).toArray = ls at hl ⊢
  have hl : lv_has ls 3 [(0, .ref g), (1, .int ax1), (2, .int ax2)] := hl
  refine lv_iload_n hx hb dX10_field_0 rfl (lv_at hl 1 rfl) ?_
  refine lv_bipush (v := 6) hx hb dX10_field_1 (by decide) ?_
  have hs1 : kw_Split [(g, .inr (10, [.ref kk, .ref nw, .ref im, .ref kp, .ref tx, .ref tr, .ref be, .ref sh, .ref sd, .ref rf, .int ab, .int bl])), (rf, .inl (y 0, 3, .inl frf))] [] [(g, .inr (10, [.ref kk, .ref nw, .ref im, .ref kp, .ref tx, .ref tr, .ref be, .ref sh, .ref sd, .ref rf, .int ab, .int bl])), (rf, .inl (y 0, 3, .inl frf))] [] [0, 1] := ⟨rfl, rfl, rfl, rfl, rfl, by decide⟩
  refine kw_go_i hs1 hP hD hS hA (va_runS (As := [.int ax1, .int 6]) (rest := []) ⟨hx, hb, hml, hown, hts⟩ (gc_isBelow l D y ax1 6 (by omega) _) (va_cwS 2 hts gX10_field_X10_isBelow rfl rfl rfl (by decide +kernel) ⟨Nat.le_of_ble_eq_true rfl, Nat.le_of_ble_eq_true rfl⟩) (kw_PreS hs1 hP hD hK hN) rfl rfl hl.1 rfl (lv_room (Nat.le_of_ble_eq_true rfl)) dX10_field_3 ⟨Nat.le_of_ble_eq_true rfl, Nat.le_of_ble_eq_true rfl⟩) (fun r2 u3 H locs hq hP hD hS => ?_)
  rcases hq with ⟨j4, h5, rfl, rfl⟩ | ⟨h6, rfl⟩
  · skip
    exact absurd ⟨j4, by omega, rfl⟩ hnx
  · skip
    have hP : va_P D vwCl [(g, .inr (10, [.ref kk, .ref nw, .ref im, .ref kp, .ref tx, .ref tr, .ref be, .ref sh, .ref sd, .ref rf, .int ab, .int bl])), (rf, .inl (y 0, 3, .inl frf))] H := hP
    have hD : va_D A [(g, .inr (10, [.ref kk, .ref nw, .ref im, .ref kp, .ref tx, .ref tr, .ref be, .ref sh, .ref sd, .ref rf, .int ab, .int bl])), (rf, .inl (y 0, 3, .inl frf))] := hD
    refine lv_if_eq (tgt := 16) hx hb dX10_field_6 (by decide) (fun _ => ?_) (fun h9 => absurd h9 (by decide))
    refine lv_aload_n hx hb dX10_field_16 rfl (lv_at hl 0 rfl) ?_
    have hs7 : kw_Split [(g, .inr (10, [.ref kk, .ref nw, .ref im, .ref kp, .ref tx, .ref tr, .ref be, .ref sh, .ref sd, .ref rf, .int ab, .int bl])), (rf, .inl (y 0, 3, .inl frf))] [(g, .inr (10, [.ref kk, .ref nw, .ref im, .ref kp, .ref tx, .ref tr, .ref be, .ref sh, .ref sd, .ref rf, .int ab, .int bl])), (rf, .inl (y 0, 3, .inl frf))] [] [0, 1] [] := ⟨rfl, rfl, rfl, rfl, rfl, by decide⟩
    refine kw_go_i hs7 hP hD hS hA (va_runV (As := []) (rest := []) ⟨hx, hb, hml, hown, hts⟩ (gc_refuseBad l D y g kk nw im kp tx tr be sh sd rf ab bl frf  _) (cwV 0 hts gX10_field_X10_refuseBad rfl rfl rfl (by decide +kernel) ⟨Nat.le_of_ble_eq_true rfl, Nat.le_of_ble_eq_true rfl⟩) (kw_PreV (ci := 10) (q0 := 0) hs7 hP hD hK hN rfl rfl) rfl rfl hl.1 rfl (lv_room (Nat.le_of_ble_eq_true rfl)) dX10_field_17 ⟨Nat.le_of_ble_eq_true rfl, Nat.le_of_ble_eq_true rfl⟩) (fun r8 u9 H locs hq hP hD hS => ?_)
    obtain rfl := hq
    have hP : va_P D vwCl [(g, .inr (10, [.ref kk, .ref nw, .ref im, .ref kp, .ref tx, .ref tr, .ref be, .ref sh, .ref sd, .ref rf, .int ab, .int bl])), (rf, .inl (y 0, 3, .inl (upd frf 0 ((frf 0) + 1))))] H := hP
    have hD : va_D A [(g, .inr (10, [.ref kk, .ref nw, .ref im, .ref kp, .ref tx, .ref tr, .ref be, .ref sh, .ref sd, .ref rf, .int ab, .int bl])), (rf, .inl (y 0, 3, .inl (upd frf 0 ((frf 0) + 1))))] := hD
    exact W.iret (v := (-2)) hx hb hr (fun tZ ht hW => ⟨⟨(-2), (), rfl, rfl, by rw [ht]; exact hP.sub [0, 1] rfl, hD.sub [0, 1] (by decide) rfl⟩, hS.F ht⟩) hS.2.2 dX10_field_20

set_option maxHeartbeats 4000000 in
set_option maxRecDepth 100000 in
theorem gy_field_b0 (l : Launch) (D : va_G) (y : Nat → ClassId) (mo : Nat) (to : Nat) (ke : Nat) (ik : Nat) (mrf : Nat) (ha : Nat) (r0 : Nat) (mbr : Nat) (mbp : Nat) (mby : Nat) (an : Nat) (va : Nat) (mab : Int64) (mbl : Int64) (bl : Nat) (ta : Nat) (tl : Nat) (tk : Nat) (vv : Int32) (frf : Nat → Int32) (ax1 : Int32) (ax2 : Int32) (hnx : (¬ ∃ j : Nat, 0 ≤ j ∧ j ≤ 5 ∧ ax1 = nI j)) : kw_Mi l yX11_field wsX11_field ({ frames := 2, cells := 0, slots := 0, locals := 85 }) D y [.ref mo, .int ax1, .int ax2] [(mo, .inr (11, [.ref to, .ref ke, .ref ik, .ref mrf, .long mab, .long mbl, .ref ha, .ref r0, .ref mbr, .ref mbp, .ref mby, .int (nI bl), .int (nI ta), .int (nI tl), .int (nI tk), .int vv, .ref an, .ref va])), (mrf, .inl (y 0, 3, .inl frf))] (fun (r : Int32) (u : Unit) => r = (-2)) (fun _ => [(mo, .inr (11, [.ref to, .ref ke, .ref ik, .ref mrf, .long mab, .long mbl, .ref ha, .ref r0, .ref mbr, .ref mbp, .ref mby, .int (nI bl), .int (nI ta), .int (nI tl), .int (nI tk), .int vv, .ref an, .ref va])), (mrf, .inl (y 0, 3, .inl (upd frf 0 ((frf 0) + 1))))]) 0 0 := by
  refine kw_Mi.of (cc := cX11_field) (maxL := 3) (ret := (some .int)) (by decide) rfl ?_
  intro pZ eZ s mZ beZ meZ cZ A hE
  obtain ⟨hx, hb, hr, hml, hts, hown, hlocks, hin, hA, hP, hD, hK, hN⟩ := hE
  have hS : va_S A s.heap s.heap [] := va_S.rf
  have hl := lv_entry ([.ref mo, .int ax1, .int ax2]) (n := 3) (Nat.le_of_ble_eq_true rfl)
  rw [lg_entry_eq]
  generalize (lg_sl ([.ref mo, .int ax1, .int ax2]) ++ List.replicate (3 - (lg_sl ([.ref mo, .int ax1, .int ax2])).length) Slot.unset).toArray = ls at hl ⊢
  have hl : lv_has ls 3 [(0, .ref mo), (1, .int ax1), (2, .int ax2)] := hl
  have fw1 := hts (.constantLong RX11 77 (5)) (List.mem_of_getElem? (i := 1) rfl)
  refine lv_iload_n hx hb dX11_field_0 rfl (lv_at hl 1 rfl) ?_
  refine lv_i2l (v := ax1.toInt64) hx hb dX11_field_1 (rfl) ?_
  refine lv_lconst (v := 0) hx hb dX11_field_2 (by decide) ?_
  refine lv_ldc2 (v := 5) hx hb hown fw1 dX11_field_3 ?_
  have hs1 : kw_Split [(mo, .inr (11, [.ref to, .ref ke, .ref ik, .ref mrf, .long mab, .long mbl, .ref ha, .ref r0, .ref mbr, .ref mbp, .ref mby, .int (nI bl), .int (nI ta), .int (nI tl), .int (nI tk), .int vv, .ref an, .ref va])), (mrf, .inl (y 0, 3, .inl frf))] [] [(mo, .inr (11, [.ref to, .ref ke, .ref ik, .ref mrf, .long mab, .long mbl, .ref ha, .ref r0, .ref mbr, .ref mbp, .ref mby, .int (nI bl), .int (nI ta), .int (nI tl), .int (nI tk), .int vv, .ref an, .ref va])), (mrf, .inl (y 0, 3, .inl frf))] [] [0, 1] := ⟨rfl, rfl, rfl, rfl, rfl, by decide⟩
  refine kw_go_i hs1 hP hD hS hA (va_runS (As := [.long ax1.toInt64, .long 0, .long 5]) (rest := []) ⟨hx, hb, hml, hown, hts⟩ (gr_in l D y ax1 0 5 (by omega) (by omega) _) (va_cwS 3 hts gX11_field_X11_in rfl rfl rfl (by decide +kernel) ⟨Nat.le_of_ble_eq_true rfl, Nat.le_of_ble_eq_true rfl⟩) (kw_PreS hs1 hP hD hK hN) rfl rfl hl.1 rfl (lv_room (Nat.le_of_ble_eq_true rfl)) dX11_field_6 ⟨Nat.le_of_ble_eq_true rfl, Nat.le_of_ble_eq_true rfl⟩) (fun r2 u3 H locs hq hP hD hS => ?_)
  rcases hq with ⟨j4, h5, h6, rfl, rfl⟩ | ⟨h7, rfl⟩
  · skip
    exact absurd ⟨j4, by omega, by omega, rfl⟩ hnx
  · skip
    have hP : va_P D vwCl [(mo, .inr (11, [.ref to, .ref ke, .ref ik, .ref mrf, .long mab, .long mbl, .ref ha, .ref r0, .ref mbr, .ref mbp, .ref mby, .int (nI bl), .int (nI ta), .int (nI tl), .int (nI tk), .int vv, .ref an, .ref va])), (mrf, .inl (y 0, 3, .inl frf))] H := hP
    have hD : va_D A [(mo, .inr (11, [.ref to, .ref ke, .ref ik, .ref mrf, .long mab, .long mbl, .ref ha, .ref r0, .ref mbr, .ref mbp, .ref mby, .int (nI bl), .int (nI ta), .int (nI tl), .int (nI tk), .int vv, .ref an, .ref va])), (mrf, .inl (y 0, 3, .inl frf))] := hD
    refine lv_if_eq (tgt := 19) hx hb dX11_field_9 (by decide) (fun _ => ?_) (fun h9 => absurd h9 (by decide))
    refine lv_aload_n hx hb dX11_field_19 rfl (lv_at hl 0 rfl) ?_
    refine lv_bipush (v := (-2)) hx hb dX11_field_20 (by decide) ?_
    have hs8 : kw_Split [(mo, .inr (11, [.ref to, .ref ke, .ref ik, .ref mrf, .long mab, .long mbl, .ref ha, .ref r0, .ref mbr, .ref mbp, .ref mby, .int (nI bl), .int (nI ta), .int (nI tl), .int (nI tk), .int vv, .ref an, .ref va])), (mrf, .inl (y 0, 3, .inl frf))] [(mo, .inr (11, [.ref to, .ref ke, .ref ik, .ref mrf, .long mab, .long mbl, .ref ha, .ref r0, .ref mbr, .ref mbp, .ref mby, .int (nI bl), .int (nI ta), .int (nI tl), .int (nI tk), .int vv, .ref an, .ref va])), (mrf, .inl (y 0, 3, .inl frf))] [] [0, 1] [] := ⟨rfl, rfl, rfl, rfl, rfl, by decide⟩
    refine kw_go_i hs8 hP hD hS hA (va_runV (As := [.int (-2)]) (rest := []) ⟨hx, hb, hml, hown, hts⟩ (gr_bad l D y mo to ke ik mrf ha r0 mbr mbp mby an va mab mbl bl ta tl tk vv frf (-2)  _) (cwV 1 hts gX11_field_X11_bad rfl rfl rfl (by decide +kernel) ⟨Nat.le_of_ble_eq_true rfl, Nat.le_of_ble_eq_true rfl⟩) (kw_PreV (ci := 11) (q0 := 0) hs8 hP hD hK hN rfl rfl) rfl rfl hl.1 rfl (lv_room (Nat.le_of_ble_eq_true rfl)) dX11_field_22 ⟨Nat.le_of_ble_eq_true rfl, Nat.le_of_ble_eq_true rfl⟩) (fun r9 u10 H locs hq hP hD hS => ?_)
    obtain rfl := hq
    have hP : va_P D vwCl [(mo, .inr (11, [.ref to, .ref ke, .ref ik, .ref mrf, .long mab, .long mbl, .ref ha, .ref r0, .ref mbr, .ref mbp, .ref mby, .int (nI bl), .int (nI ta), .int (nI tl), .int (nI tk), .int vv, .ref an, .ref va])), (mrf, .inl (y 0, 3, .inl (upd frf 0 ((frf 0) + 1))))] H := hP
    have hD : va_D A [(mo, .inr (11, [.ref to, .ref ke, .ref ik, .ref mrf, .long mab, .long mbl, .ref ha, .ref r0, .ref mbr, .ref mbp, .ref mby, .int (nI bl), .int (nI ta), .int (nI tl), .int (nI tk), .int vv, .ref an, .ref va])), (mrf, .inl (y 0, 3, .inl (upd frf 0 ((frf 0) + 1))))] := hD
    exact W.iret (v := (-2)) hx hb hr (fun tZ ht hW => ⟨⟨(-2), (), rfl, rfl, by rw [ht]; exact hP.sub [0, 1] rfl, hD.sub [0, 1] (by decide) rfl⟩, hS.F ht⟩) hS.2.2 dX11_field_25

set_option maxHeartbeats 4000000 in
set_option maxRecDepth 100000 in
theorem gx_field_b1 (l : Launch) (D : va_G) (y : Nat → ClassId) (g : Nat) (kk : Nat) (nw : Nat) (im : Nat) (kp : Nat) (tx : Nat) (tr : Nat) (be : Nat) (sh : Nat) (sd : Nat) (rf : Nat) (ab : Int32) (bl : Int32) (frf : Nat → Int32) (an1 : Nat) (ax2 : Int32) (hB0_ : an1 < 6) (hnx : (¬ ∃ j : Nat, 0 ≤ j ∧ j ≤ 60 ∧ ax2 = nI j)) : kw_Mi l yX10_field wsX10_field ({ frames := 3, cells := 0, slots := 0, locals := 102 }) D y [.ref g, .int (nI an1), .int ax2] [(g, .inr (10, [.ref kk, .ref nw, .ref im, .ref kp, .ref tx, .ref tr, .ref be, .ref sh, .ref sd, .ref rf, .int ab, .int bl])), (rf, .inl (y 0, 3, .inl frf))] (fun (r : Int32) (u : Unit) => r = (-2)) (fun _ => [(g, .inr (10, [.ref kk, .ref nw, .ref im, .ref kp, .ref tx, .ref tr, .ref be, .ref sh, .ref sd, .ref rf, .int ab, .int bl])), (rf, .inl (y 0, 3, .inl (upd frf 0 ((frf 0) + 1))))]) 0 0 := by
  refine kw_Mi.of (cc := cX10_field) (maxL := 3) (ret := (some .int)) (by decide) rfl ?_
  intro pZ eZ s mZ beZ meZ cZ A hE
  obtain ⟨hx, hb, hr, hml, hts, hown, hlocks, hin, hA, hP, hD, hK, hN⟩ := hE
  have hS : va_S A s.heap s.heap [] := va_S.rf
  have hl := lv_entry ([.ref g, .int (nI an1), .int ax2]) (n := 3) (Nat.le_of_ble_eq_true rfl)
  rw [lg_entry_eq]
  generalize (lg_sl ([.ref g, .int (nI an1), .int ax2]) ++ List.replicate (3 - (lg_sl ([.ref g, .int (nI an1), .int ax2])).length) Slot.unset).toArray = ls at hl ⊢
  have hl : lv_has ls 3 [(0, .ref g), (1, .int (nI an1)), (2, .int ax2)] := hl
  refine lv_iload_n hx hb dX10_field_0 rfl (lv_at hl 1 rfl) ?_
  refine lv_bipush (v := 6) hx hb dX10_field_1 (by decide) ?_
  have hs1 : kw_Split [(g, .inr (10, [.ref kk, .ref nw, .ref im, .ref kp, .ref tx, .ref tr, .ref be, .ref sh, .ref sd, .ref rf, .int ab, .int bl])), (rf, .inl (y 0, 3, .inl frf))] [] [(g, .inr (10, [.ref kk, .ref nw, .ref im, .ref kp, .ref tx, .ref tr, .ref be, .ref sh, .ref sd, .ref rf, .int ab, .int bl])), (rf, .inl (y 0, 3, .inl frf))] [] [0, 1] := ⟨rfl, rfl, rfl, rfl, rfl, by decide⟩
  refine kw_go_i hs1 hP hD hS hA (va_runS (As := [.int (nI an1), .int 6]) (rest := []) ⟨hx, hb, hml, hown, hts⟩ (gc_isBelow l D y (nI an1) 6 (by omega) _) (va_cwS 2 hts gX10_field_X10_isBelow rfl rfl rfl (by decide +kernel) ⟨Nat.le_of_ble_eq_true rfl, Nat.le_of_ble_eq_true rfl⟩) (kw_PreS hs1 hP hD hK hN) rfl rfl hl.1 rfl (lv_room (Nat.le_of_ble_eq_true rfl)) dX10_field_3 ⟨Nat.le_of_ble_eq_true rfl, Nat.le_of_ble_eq_true rfl⟩) (fun r2 u3 H locs hq hP hD hS => ?_)
  rcases hq with ⟨j4, h5, h6, rfl⟩ | ⟨h7, rfl⟩
  · skip
    have h6 : an1 = j4 := (nI_eq (a := an1) (b := j4) (by omega) (by omega)).mp h6
    have hP : va_P D vwCl [(g, .inr (10, [.ref kk, .ref nw, .ref im, .ref kp, .ref tx, .ref tr, .ref be, .ref sh, .ref sd, .ref rf, .int ab, .int bl])), (rf, .inl (y 0, 3, .inl frf))] H := hP
    have hD : va_D A [(g, .inr (10, [.ref kk, .ref nw, .ref im, .ref kp, .ref tx, .ref tr, .ref be, .ref sh, .ref sd, .ref rf, .int ab, .int bl])), (rf, .inl (y 0, 3, .inl frf))] := hD
    refine lv_if_eq (tgt := 16) hx hb dX10_field_6 (by decide) (fun h9 => absurd h9 (by decide)) (fun _ => ?_)
    refine lv_iload_n hx hb dX10_field_9 rfl (lv_at hl 2 rfl) ?_
    have hs8 : kw_Split [(g, .inr (10, [.ref kk, .ref nw, .ref im, .ref kp, .ref tx, .ref tr, .ref be, .ref sh, .ref sd, .ref rf, .int ab, .int bl])), (rf, .inl (y 0, 3, .inl frf))] [] [(g, .inr (10, [.ref kk, .ref nw, .ref im, .ref kp, .ref tx, .ref tr, .ref be, .ref sh, .ref sd, .ref rf, .int ab, .int bl])), (rf, .inl (y 0, 3, .inl frf))] [] [0, 1] := ⟨rfl, rfl, rfl, rfl, rfl, by decide⟩
    refine kw_go_i hs8 hP hD hS hA (va_runS (As := [.int ax2]) (rest := []) ⟨hx, hb, hml, hown, hts⟩ (gc_isLight l D y ax2  _) (va_cwS 1 hts gX10_field_X10_isLight rfl rfl rfl (by decide +kernel) ⟨Nat.le_of_ble_eq_true rfl, Nat.le_of_ble_eq_true rfl⟩) (kw_PreS hs8 hP hD hK hN) rfl rfl hl.1 rfl (lv_room (Nat.le_of_ble_eq_true rfl)) dX10_field_10 ⟨Nat.le_of_ble_eq_true rfl, Nat.le_of_ble_eq_true rfl⟩) (fun r9 u10 H locs hq hP hD hS => ?_)
    rcases hq with ⟨j11, h12, rfl, rfl⟩ | ⟨h13, rfl⟩
    · skip
      exact absurd ⟨j11, by omega, by omega, rfl⟩ hnx
    · skip
      have hP : va_P D vwCl [(g, .inr (10, [.ref kk, .ref nw, .ref im, .ref kp, .ref tx, .ref tr, .ref be, .ref sh, .ref sd, .ref rf, .int ab, .int bl])), (rf, .inl (y 0, 3, .inl frf))] H := hP
      have hD : va_D A [(g, .inr (10, [.ref kk, .ref nw, .ref im, .ref kp, .ref tx, .ref tr, .ref be, .ref sh, .ref sd, .ref rf, .int ab, .int bl])), (rf, .inl (y 0, 3, .inl frf))] := hD
      refine lv_if_ne (tgt := 21) hx hb dX10_field_13 (by decide) (fun h9 => absurd h9 (by decide)) (fun _ => ?_)
      refine lv_aload_n hx hb dX10_field_16 rfl (lv_at hl 0 rfl) ?_
      have hs14 : kw_Split [(g, .inr (10, [.ref kk, .ref nw, .ref im, .ref kp, .ref tx, .ref tr, .ref be, .ref sh, .ref sd, .ref rf, .int ab, .int bl])), (rf, .inl (y 0, 3, .inl frf))] [(g, .inr (10, [.ref kk, .ref nw, .ref im, .ref kp, .ref tx, .ref tr, .ref be, .ref sh, .ref sd, .ref rf, .int ab, .int bl])), (rf, .inl (y 0, 3, .inl frf))] [] [0, 1] [] := ⟨rfl, rfl, rfl, rfl, rfl, by decide⟩
      refine kw_go_i hs14 hP hD hS hA (va_runV (As := []) (rest := []) ⟨hx, hb, hml, hown, hts⟩ (gc_refuseBad l D y g kk nw im kp tx tr be sh sd rf ab bl frf  _) (cwV 0 hts gX10_field_X10_refuseBad rfl rfl rfl (by decide +kernel) ⟨Nat.le_of_ble_eq_true rfl, Nat.le_of_ble_eq_true rfl⟩) (kw_PreV (ci := 10) (q0 := 0) hs14 hP hD hK hN rfl rfl) rfl rfl hl.1 rfl (lv_room (Nat.le_of_ble_eq_true rfl)) dX10_field_17 ⟨Nat.le_of_ble_eq_true rfl, Nat.le_of_ble_eq_true rfl⟩) (fun r15 u16 H locs hq hP hD hS => ?_)
      obtain rfl := hq
      have hP : va_P D vwCl [(g, .inr (10, [.ref kk, .ref nw, .ref im, .ref kp, .ref tx, .ref tr, .ref be, .ref sh, .ref sd, .ref rf, .int ab, .int bl])), (rf, .inl (y 0, 3, .inl (upd frf 0 ((frf 0) + 1))))] H := hP
      have hD : va_D A [(g, .inr (10, [.ref kk, .ref nw, .ref im, .ref kp, .ref tx, .ref tr, .ref be, .ref sh, .ref sd, .ref rf, .int ab, .int bl])), (rf, .inl (y 0, 3, .inl (upd frf 0 ((frf 0) + 1))))] := hD
      exact W.iret (v := (-2)) hx hb hr (fun tZ ht hW => ⟨⟨(-2), (), rfl, rfl, by rw [ht]; exact hP.sub [0, 1] rfl, hD.sub [0, 1] (by decide) rfl⟩, hS.F ht⟩) hS.2.2 dX10_field_20
  · skip
    exact absurd ⟨an1, by omega, rfl⟩ h7

set_option maxHeartbeats 4000000 in
set_option maxRecDepth 100000 in
theorem gy_field_b1 (l : Launch) (D : va_G) (y : Nat → ClassId) (mo : Nat) (to : Nat) (ke : Nat) (ik : Nat) (mrf : Nat) (ha : Nat) (r0 : Nat) (mbr : Nat) (mbp : Nat) (mby : Nat) (an : Nat) (va : Nat) (mab : Int64) (mbl : Int64) (bl : Nat) (ta : Nat) (tl : Nat) (tk : Nat) (vv : Int32) (frf : Nat → Int32) (an1 : Nat) (ax2 : Int32) (hB0_ : an1 < 6) (hnx : (¬ ∃ j : Nat, 0 ≤ j ∧ j ≤ 60 ∧ ax2 = nI j)) : kw_Mi l yX11_field wsX11_field ({ frames := 3, cells := 0, slots := 0, locals := 105 }) D y [.ref mo, .int (nI an1), .int ax2] [(mo, .inr (11, [.ref to, .ref ke, .ref ik, .ref mrf, .long mab, .long mbl, .ref ha, .ref r0, .ref mbr, .ref mbp, .ref mby, .int (nI bl), .int (nI ta), .int (nI tl), .int (nI tk), .int vv, .ref an, .ref va])), (mrf, .inl (y 0, 3, .inl frf))] (fun (r : Int32) (u : Unit) => r = (-2)) (fun _ => [(mo, .inr (11, [.ref to, .ref ke, .ref ik, .ref mrf, .long mab, .long mbl, .ref ha, .ref r0, .ref mbr, .ref mbp, .ref mby, .int (nI bl), .int (nI ta), .int (nI tl), .int (nI tk), .int vv, .ref an, .ref va])), (mrf, .inl (y 0, 3, .inl (upd frf 0 ((frf 0) + 1))))]) 0 0 := by
  refine kw_Mi.of (cc := cX11_field) (maxL := 3) (ret := (some .int)) (by decide) rfl ?_
  intro pZ eZ s mZ beZ meZ cZ A hE
  obtain ⟨hx, hb, hr, hml, hts, hown, hlocks, hin, hA, hP, hD, hK, hN⟩ := hE
  have hS : va_S A s.heap s.heap [] := va_S.rf
  have hl := lv_entry ([.ref mo, .int (nI an1), .int ax2]) (n := 3) (Nat.le_of_ble_eq_true rfl)
  rw [lg_entry_eq]
  generalize (lg_sl ([.ref mo, .int (nI an1), .int ax2]) ++ List.replicate (3 - (lg_sl ([.ref mo, .int (nI an1), .int ax2])).length) Slot.unset).toArray = ls at hl ⊢
  have hl : lv_has ls 3 [(0, .ref mo), (1, .int (nI an1)), (2, .int ax2)] := hl
  have fw1 := hts (.constantLong RX11 77 (5)) (List.mem_of_getElem? (i := 1) rfl)
  refine lv_iload_n hx hb dX11_field_0 rfl (lv_at hl 1 rfl) ?_
  refine lv_i2l (v := (nI an1).toInt64) hx hb dX11_field_1 (rfl) ?_
  refine lv_lconst (v := 0) hx hb dX11_field_2 (by decide) ?_
  refine lv_ldc2 (v := 5) hx hb hown fw1 dX11_field_3 ?_
  have hs1 : kw_Split [(mo, .inr (11, [.ref to, .ref ke, .ref ik, .ref mrf, .long mab, .long mbl, .ref ha, .ref r0, .ref mbr, .ref mbp, .ref mby, .int (nI bl), .int (nI ta), .int (nI tl), .int (nI tk), .int vv, .ref an, .ref va])), (mrf, .inl (y 0, 3, .inl frf))] [] [(mo, .inr (11, [.ref to, .ref ke, .ref ik, .ref mrf, .long mab, .long mbl, .ref ha, .ref r0, .ref mbr, .ref mbp, .ref mby, .int (nI bl), .int (nI ta), .int (nI tl), .int (nI tk), .int vv, .ref an, .ref va])), (mrf, .inl (y 0, 3, .inl frf))] [] [0, 1] := ⟨rfl, rfl, rfl, rfl, rfl, by decide⟩
  refine kw_go_i hs1 hP hD hS hA (va_runS (As := [.long ((nI an1).toInt64), .long 0, .long 5]) (rest := []) ⟨hx, hb, hml, hown, hts⟩ (gr_in l D y (nI an1) 0 5 (by omega) (by omega) _) (va_cwS 3 hts gX11_field_X11_in rfl rfl rfl (by decide +kernel) ⟨Nat.le_of_ble_eq_true rfl, Nat.le_of_ble_eq_true rfl⟩) (kw_PreS hs1 hP hD hK hN) rfl rfl hl.1 rfl (lv_room (Nat.le_of_ble_eq_true rfl)) dX11_field_6 ⟨Nat.le_of_ble_eq_true rfl, Nat.le_of_ble_eq_true rfl⟩) (fun r2 u3 H locs hq hP hD hS => ?_)
  rcases hq with ⟨j4, h5, h6, h7, rfl⟩ | ⟨h8, rfl⟩
  · skip
    have h7 : an1 = j4 := (nI_eq (a := an1) (b := j4) (by omega) (by omega)).mp h7
    have hP : va_P D vwCl [(mo, .inr (11, [.ref to, .ref ke, .ref ik, .ref mrf, .long mab, .long mbl, .ref ha, .ref r0, .ref mbr, .ref mbp, .ref mby, .int (nI bl), .int (nI ta), .int (nI tl), .int (nI tk), .int vv, .ref an, .ref va])), (mrf, .inl (y 0, 3, .inl frf))] H := hP
    have hD : va_D A [(mo, .inr (11, [.ref to, .ref ke, .ref ik, .ref mrf, .long mab, .long mbl, .ref ha, .ref r0, .ref mbr, .ref mbp, .ref mby, .int (nI bl), .int (nI ta), .int (nI tl), .int (nI tk), .int vv, .ref an, .ref va])), (mrf, .inl (y 0, 3, .inl frf))] := hD
    refine lv_if_eq (tgt := 19) hx hb dX11_field_9 (by decide) (fun h9 => absurd h9 (by decide)) (fun _ => ?_)
    refine lv_iload_n hx hb dX11_field_12 rfl (lv_at hl 2 rfl) ?_
    have hs9 : kw_Split [(mo, .inr (11, [.ref to, .ref ke, .ref ik, .ref mrf, .long mab, .long mbl, .ref ha, .ref r0, .ref mbr, .ref mbp, .ref mby, .int (nI bl), .int (nI ta), .int (nI tl), .int (nI tk), .int vv, .ref an, .ref va])), (mrf, .inl (y 0, 3, .inl frf))] [] [(mo, .inr (11, [.ref to, .ref ke, .ref ik, .ref mrf, .long mab, .long mbl, .ref ha, .ref r0, .ref mbr, .ref mbp, .ref mby, .int (nI bl), .int (nI ta), .int (nI tl), .int (nI tk), .int vv, .ref an, .ref va])), (mrf, .inl (y 0, 3, .inl frf))] [] [0, 1] := ⟨rfl, rfl, rfl, rfl, rfl, by decide⟩
    refine kw_go_i hs9 hP hD hS hA (va_runS (As := [.int ax2]) (rest := []) ⟨hx, hb, hml, hown, hts⟩ (gr_isLight l D y ax2  _) (va_cwS 1 hts gX11_field_X11_isLight rfl rfl rfl (by decide +kernel) ⟨Nat.le_of_ble_eq_true rfl, Nat.le_of_ble_eq_true rfl⟩) (kw_PreS hs9 hP hD hK hN) rfl rfl hl.1 rfl (lv_room (Nat.le_of_ble_eq_true rfl)) dX11_field_13 ⟨Nat.le_of_ble_eq_true rfl, Nat.le_of_ble_eq_true rfl⟩) (fun r10 u11 H locs hq hP hD hS => ?_)
    rcases hq with ⟨j12, h13, rfl, rfl⟩ | ⟨h14, rfl⟩
    · skip
      exact absurd ⟨j12, by omega, by omega, rfl⟩ hnx
    · skip
      have hP : va_P D vwCl [(mo, .inr (11, [.ref to, .ref ke, .ref ik, .ref mrf, .long mab, .long mbl, .ref ha, .ref r0, .ref mbr, .ref mbp, .ref mby, .int (nI bl), .int (nI ta), .int (nI tl), .int (nI tk), .int vv, .ref an, .ref va])), (mrf, .inl (y 0, 3, .inl frf))] H := hP
      have hD : va_D A [(mo, .inr (11, [.ref to, .ref ke, .ref ik, .ref mrf, .long mab, .long mbl, .ref ha, .ref r0, .ref mbr, .ref mbp, .ref mby, .int (nI bl), .int (nI ta), .int (nI tl), .int (nI tk), .int vv, .ref an, .ref va])), (mrf, .inl (y 0, 3, .inl frf))] := hD
      refine lv_if_ne (tgt := 26) hx hb dX11_field_16 (by decide) (fun h9 => absurd h9 (by decide)) (fun _ => ?_)
      refine lv_aload_n hx hb dX11_field_19 rfl (lv_at hl 0 rfl) ?_
      refine lv_bipush (v := (-2)) hx hb dX11_field_20 (by decide) ?_
      have hs15 : kw_Split [(mo, .inr (11, [.ref to, .ref ke, .ref ik, .ref mrf, .long mab, .long mbl, .ref ha, .ref r0, .ref mbr, .ref mbp, .ref mby, .int (nI bl), .int (nI ta), .int (nI tl), .int (nI tk), .int vv, .ref an, .ref va])), (mrf, .inl (y 0, 3, .inl frf))] [(mo, .inr (11, [.ref to, .ref ke, .ref ik, .ref mrf, .long mab, .long mbl, .ref ha, .ref r0, .ref mbr, .ref mbp, .ref mby, .int (nI bl), .int (nI ta), .int (nI tl), .int (nI tk), .int vv, .ref an, .ref va])), (mrf, .inl (y 0, 3, .inl frf))] [] [0, 1] [] := ⟨rfl, rfl, rfl, rfl, rfl, by decide⟩
      refine kw_go_i hs15 hP hD hS hA (va_runV (As := [.int (-2)]) (rest := []) ⟨hx, hb, hml, hown, hts⟩ (gr_bad l D y mo to ke ik mrf ha r0 mbr mbp mby an va mab mbl bl ta tl tk vv frf (-2)  _) (cwV 1 hts gX11_field_X11_bad rfl rfl rfl (by decide +kernel) ⟨Nat.le_of_ble_eq_true rfl, Nat.le_of_ble_eq_true rfl⟩) (kw_PreV (ci := 11) (q0 := 0) hs15 hP hD hK hN rfl rfl) rfl rfl hl.1 rfl (lv_room (Nat.le_of_ble_eq_true rfl)) dX11_field_22 ⟨Nat.le_of_ble_eq_true rfl, Nat.le_of_ble_eq_true rfl⟩) (fun r16 u17 H locs hq hP hD hS => ?_)
      obtain rfl := hq
      have hP : va_P D vwCl [(mo, .inr (11, [.ref to, .ref ke, .ref ik, .ref mrf, .long mab, .long mbl, .ref ha, .ref r0, .ref mbr, .ref mbp, .ref mby, .int (nI bl), .int (nI ta), .int (nI tl), .int (nI tk), .int vv, .ref an, .ref va])), (mrf, .inl (y 0, 3, .inl (upd frf 0 ((frf 0) + 1))))] H := hP
      have hD : va_D A [(mo, .inr (11, [.ref to, .ref ke, .ref ik, .ref mrf, .long mab, .long mbl, .ref ha, .ref r0, .ref mbr, .ref mbp, .ref mby, .int (nI bl), .int (nI ta), .int (nI tl), .int (nI tk), .int vv, .ref an, .ref va])), (mrf, .inl (y 0, 3, .inl (upd frf 0 ((frf 0) + 1))))] := hD
      exact W.iret (v := (-2)) hx hb hr (fun tZ ht hW => ⟨⟨(-2), (), rfl, rfl, by rw [ht]; exact hP.sub [0, 1] rfl, hD.sub [0, 1] (by decide) rfl⟩, hS.F ht⟩) hS.2.2 dX11_field_25
  · skip
    exact absurd ⟨an1, by omega, by omega, rfl⟩ h8

set_option maxHeartbeats 4000000 in
set_option maxRecDepth 100000 in
theorem gx_gleaner_b0 (l : Launch) (D : va_G) (y : Nat → ClassId) (g : Nat) (kk : Nat) (nw : Nat) (im : Nat) (kp : Nat) (tx : Nat) (tr : Nat) (be : Nat) (sh : Nat) (sd : Nat) (rf : Nat) (ab : Int32) (bl : Int32) (frf : Nat → Int32) (nk : Nat) (nd : Nat) (ne : Nat) (nm : Nat) (nn : Nat) (fi : Nat) (gl : Nat) (un : Nat) (mi : Nat) (no : Nat) (ax1 : Int32) (hfi : fi ≤ 6) (hgl : gl ≤ 5) (hun : un ≤ 8) (hmi : mi ≤ 4) (hno : no ≤ 6) (hnx : (¬ ∃ j : Nat, j < fi ∧ ax1 = nI j)) : kw_Mi l yX10_gleaner wsX10_gleaner ({ frames := 3, cells := 0, slots := 0, locals := 102 }) D y [.ref g, .int ax1] [(g, .inr (10, [.ref kk, .ref nw, .ref im, .ref kp, .ref tx, .ref tr, .ref be, .ref sh, .ref sd, .ref rf, .int ab, .int bl])), (rf, .inl (y 0, 3, .inl frf)), (nw, .inr (4, [.ref kk, .ref nk, .ref nd, .ref ne, .ref nm, .ref nn, .int (nI fi), .int (nI gl), .int (nI un), .int (nI mi), .int (nI no)]))] (fun (r : Int32) (u : Unit) => r = (-2)) (fun _ => [(g, .inr (10, [.ref kk, .ref nw, .ref im, .ref kp, .ref tx, .ref tr, .ref be, .ref sh, .ref sd, .ref rf, .int ab, .int bl])), (rf, .inl (y 0, 3, .inl (upd frf 0 ((frf 0) + 1)))), (nw, .inr (4, [.ref kk, .ref nk, .ref nd, .ref ne, .ref nm, .ref nn, .int (nI fi), .int (nI gl), .int (nI un), .int (nI mi), .int (nI no)]))]) 0 0 := by
  refine kw_Mi.of (cc := cX10_gleaner) (maxL := 2) (ret := (some .int)) (by decide) rfl ?_
  intro pZ eZ s mZ beZ meZ cZ A hE
  obtain ⟨hx, hb, hr, hml, hts, hown, hlocks, hin, hA, hP, hD, hK, hN⟩ := hE
  have hS : va_S A s.heap s.heap [] := va_S.rf
  have hl := lv_entry ([.ref g, .int ax1]) (n := 2) (Nat.le_of_ble_eq_true rfl)
  rw [lg_entry_eq]
  generalize (lg_sl ([.ref g, .int ax1]) ++ List.replicate (2 - (lg_sl ([.ref g, .int ax1])).length) Slot.unset).toArray = ls at hl ⊢
  have hl : lv_has ls 2 [(0, .ref g), (1, .int ax1)] := hl
  have fw1 := hts (.fieldLink RX10 36 "GleanDusk" "now" "LGleanDusk$Parish;") (List.mem_of_getElem? (i := 1) rfl)
  have iw10 : ∀ w ∈ wsX100, w ∈ wsX10_gleaner := fun _ h => List.mem_cons_of_mem _ (List.mem_append_left _ (List.mem_append_left _ (List.mem_append_right _ h)))
  refine lv_aload_n hx hb dX10_gleaner_0 rfl (lv_at hl 0 rfl) ?_
  refine va_get (D := D) (ci := 10) (v := .ref nw) (C := RX10) (T := TX10) (N := 12) hx hb hts iw10 hown hK hP 0 rfl rfl 1 (by decide) fw1 (fun _ h9 => h9) rfl dX10_gleaner_1 ?_
  refine lv_iload_n hx hb dX10_gleaner_4 rfl (lv_at hl 1 rfl) ?_
  have hs1 : kw_Split [(g, .inr (10, [.ref kk, .ref nw, .ref im, .ref kp, .ref tx, .ref tr, .ref be, .ref sh, .ref sd, .ref rf, .int ab, .int bl])), (rf, .inl (y 0, 3, .inl frf)), (nw, .inr (4, [.ref kk, .ref nk, .ref nd, .ref ne, .ref nm, .ref nn, .int (nI fi), .int (nI gl), .int (nI un), .int (nI mi), .int (nI no)]))] [(nw, .inr (4, [.ref kk, .ref nk, .ref nd, .ref ne, .ref nm, .ref nn, .int (nI fi), .int (nI gl), .int (nI un), .int (nI mi), .int (nI no)]))] [(g, .inr (10, [.ref kk, .ref nw, .ref im, .ref kp, .ref tx, .ref tr, .ref be, .ref sh, .ref sd, .ref rf, .int ab, .int bl])), (rf, .inl (y 0, 3, .inl frf))] [2] [0, 1] := ⟨rfl, rfl, rfl, rfl, rfl, by decide⟩
  refine kw_go_i hs1 hP hD hS hA (va_runV (As := [.int ax1]) (rest := []) ⟨hx, hb, hml, hown, hts⟩ (gc_hasField l D y nw kk nk nd ne nm nn fi gl un mi no ax1 hfi hgl hun hmi hno _) (cwV 1 hts gX10_gleaner_X4_hasField rfl rfl rfl (by decide +kernel) ⟨Nat.le_of_ble_eq_true rfl, Nat.le_of_ble_eq_true rfl⟩) (kw_PreV (ci := 4) (q0 := 2) hs1 hP hD hK hN rfl rfl) rfl rfl hl.1 rfl (lv_room (Nat.le_of_ble_eq_true rfl)) dX10_gleaner_5 ⟨Nat.le_of_ble_eq_true rfl, Nat.le_of_ble_eq_true rfl⟩) (fun r2 u3 H locs hq hP hD hS => ?_)
  rcases hq with ⟨j4, h5, rfl, rfl⟩ | ⟨h6, rfl⟩
  · skip
    exact absurd ⟨j4, by omega, rfl⟩ hnx
  · skip
    have hP : va_P D vwCl [(g, .inr (10, [.ref kk, .ref nw, .ref im, .ref kp, .ref tx, .ref tr, .ref be, .ref sh, .ref sd, .ref rf, .int ab, .int bl])), (rf, .inl (y 0, 3, .inl frf)), (nw, .inr (4, [.ref kk, .ref nk, .ref nd, .ref ne, .ref nm, .ref nn, .int (nI fi), .int (nI gl), .int (nI un), .int (nI mi), .int (nI no)]))] H := hP
    have hD : va_D A [(g, .inr (10, [.ref kk, .ref nw, .ref im, .ref kp, .ref tx, .ref tr, .ref be, .ref sh, .ref sd, .ref rf, .int ab, .int bl])), (rf, .inl (y 0, 3, .inl frf)), (nw, .inr (4, [.ref kk, .ref nk, .ref nd, .ref ne, .ref nm, .ref nn, .int (nI fi), .int (nI gl), .int (nI un), .int (nI mi), .int (nI no)]))] := hD
    refine lv_if_ne (tgt := 16) hx hb dX10_gleaner_8 (by decide) (fun h9 => absurd h9 (by decide)) (fun _ => ?_)
    refine lv_aload_n hx hb dX10_gleaner_11 rfl (lv_at hl 0 rfl) ?_
    have hs7 : kw_Split [(g, .inr (10, [.ref kk, .ref nw, .ref im, .ref kp, .ref tx, .ref tr, .ref be, .ref sh, .ref sd, .ref rf, .int ab, .int bl])), (rf, .inl (y 0, 3, .inl frf)), (nw, .inr (4, [.ref kk, .ref nk, .ref nd, .ref ne, .ref nm, .ref nn, .int (nI fi), .int (nI gl), .int (nI un), .int (nI mi), .int (nI no)]))] [(g, .inr (10, [.ref kk, .ref nw, .ref im, .ref kp, .ref tx, .ref tr, .ref be, .ref sh, .ref sd, .ref rf, .int ab, .int bl])), (rf, .inl (y 0, 3, .inl frf))] [(nw, .inr (4, [.ref kk, .ref nk, .ref nd, .ref ne, .ref nm, .ref nn, .int (nI fi), .int (nI gl), .int (nI un), .int (nI mi), .int (nI no)]))] [0, 1] [2] := ⟨rfl, rfl, rfl, rfl, rfl, by decide⟩
    refine kw_go_i hs7 hP hD hS hA (va_runV (As := []) (rest := []) ⟨hx, hb, hml, hown, hts⟩ (gc_refuseBad l D y g kk nw im kp tx tr be sh sd rf ab bl frf  _) (cwV 0 hts gX10_gleaner_X10_refuseBad rfl rfl rfl (by decide +kernel) ⟨Nat.le_of_ble_eq_true rfl, Nat.le_of_ble_eq_true rfl⟩) (kw_PreV (ci := 10) (q0 := 0) hs7 hP hD hK hN rfl rfl) rfl rfl hl.1 rfl (lv_room (Nat.le_of_ble_eq_true rfl)) dX10_gleaner_12 ⟨Nat.le_of_ble_eq_true rfl, Nat.le_of_ble_eq_true rfl⟩) (fun r8 u9 H locs hq hP hD hS => ?_)
    obtain rfl := hq
    have hP : va_P D vwCl [(nw, .inr (4, [.ref kk, .ref nk, .ref nd, .ref ne, .ref nm, .ref nn, .int (nI fi), .int (nI gl), .int (nI un), .int (nI mi), .int (nI no)])), (g, .inr (10, [.ref kk, .ref nw, .ref im, .ref kp, .ref tx, .ref tr, .ref be, .ref sh, .ref sd, .ref rf, .int ab, .int bl])), (rf, .inl (y 0, 3, .inl (upd frf 0 ((frf 0) + 1))))] H := hP
    have hD : va_D A [(nw, .inr (4, [.ref kk, .ref nk, .ref nd, .ref ne, .ref nm, .ref nn, .int (nI fi), .int (nI gl), .int (nI un), .int (nI mi), .int (nI no)])), (g, .inr (10, [.ref kk, .ref nw, .ref im, .ref kp, .ref tx, .ref tr, .ref be, .ref sh, .ref sd, .ref rf, .int ab, .int bl])), (rf, .inl (y 0, 3, .inl (upd frf 0 ((frf 0) + 1))))] := hD
    exact W.iret (v := (-2)) hx hb hr (fun tZ ht hW => ⟨⟨(-2), (), rfl, rfl, by rw [ht]; exact hP.sub [1, 2, 0] rfl, hD.sub [1, 2, 0] (by decide) rfl⟩, hS.F ht⟩) hS.2.2 dX10_gleaner_15

set_option maxHeartbeats 4000000 in
set_option maxRecDepth 100000 in
theorem gy_gleaner_b0 (l : Launch) (D : va_G) (y : Nat → ClassId) (mo : Nat) (to : Nat) (ke : Nat) (ik : Nat) (mrf : Nat) (ha : Nat) (r0 : Nat) (mbr : Nat) (mbp : Nat) (mby : Nat) (an : Nat) (va : Nat) (mab : Int64) (mbl : Int64) (bl : Nat) (ta : Nat) (tl : Nat) (tk : Nat) (vv : Int32) (frf : Nat → Int32) (ft : Nat → Int32) (fi : Nat) (gl : Nat) (mi : Nat) (no : Nat) (un : Nat) (ax1 : Int32) (hk0_ : ft 0 = (nI fi)) (hk1_ : ft 1 = (nI gl)) (hk2_ : ft 2 = (nI mi)) (hk3_ : ft 3 = (nI no)) (hk4_ : ft 4 = (nI un)) (hkt : kr_t 228 ft) (hfi : fi ≤ 6) (hgl : gl ≤ 5) (hmi : mi ≤ 4) (hno : no ≤ 6) (hun : un ≤ 8) (hnx : (¬ ∃ j : Nat, j < fi ∧ ax1 = nI j)) : kw_Mi l yX11_gleaner wsX11_gleaner ({ frames := 3, cells := 0, slots := 0, locals := 106 }) D y [.ref mo, .int ax1] [(mo, .inr (11, [.ref to, .ref ke, .ref ik, .ref mrf, .long mab, .long mbl, .ref ha, .ref r0, .ref mbr, .ref mbp, .ref mby, .int (nI bl), .int (nI ta), .int (nI tl), .int (nI tk), .int vv, .ref an, .ref va])), (mrf, .inl (y 0, 3, .inl frf)), (to, .inl (y 0, 228, .inl ft))] (fun (r : Int32) (u : Unit) => r = (-2)) (fun _ => [(mo, .inr (11, [.ref to, .ref ke, .ref ik, .ref mrf, .long mab, .long mbl, .ref ha, .ref r0, .ref mbr, .ref mbp, .ref mby, .int (nI bl), .int (nI ta), .int (nI tl), .int (nI tk), .int vv, .ref an, .ref va])), (mrf, .inl (y 0, 3, .inl (upd frf 0 ((frf 0) + 1)))), (to, .inl (y 0, 228, .inl ft))]) 0 0 := by
  refine kw_Mi.of (cc := cX11_gleaner) (maxL := 2) (ret := (some .int)) (by decide) rfl ?_
  intro pZ eZ s mZ beZ meZ cZ A hE
  obtain ⟨hx, hb, hr, hml, hts, hown, hlocks, hin, hA, hP, hD, hK, hN⟩ := hE
  have hS : va_S A s.heap s.heap [] := va_S.rf
  have hl := lv_entry ([.ref mo, .int ax1]) (n := 2) (Nat.le_of_ble_eq_true rfl)
  rw [lg_entry_eq]
  generalize (lg_sl ([.ref mo, .int ax1]) ++ List.replicate (2 - (lg_sl ([.ref mo, .int ax1])).length) Slot.unset).toArray = ls at hl ⊢
  have hl : lv_has ls 2 [(0, .ref mo), (1, .int ax1)] := hl
  refine lv_aload_n hx hb dX11_gleaner_0 rfl (lv_at hl 0 rfl) ?_
  refine lv_iload_n hx hb dX11_gleaner_1 rfl (lv_at hl 1 rfl) ?_
  have hs1 : kw_Split [(mo, .inr (11, [.ref to, .ref ke, .ref ik, .ref mrf, .long mab, .long mbl, .ref ha, .ref r0, .ref mbr, .ref mbp, .ref mby, .int (nI bl), .int (nI ta), .int (nI tl), .int (nI tk), .int vv, .ref an, .ref va])), (mrf, .inl (y 0, 3, .inl frf)), (to, .inl (y 0, 228, .inl ft))] [(mo, .inr (11, [.ref to, .ref ke, .ref ik, .ref mrf, .long mab, .long mbl, .ref ha, .ref r0, .ref mbr, .ref mbp, .ref mby, .int (nI bl), .int (nI ta), .int (nI tl), .int (nI tk), .int vv, .ref an, .ref va])), (to, .inl (y 0, 228, .inl ft))] [(mrf, .inl (y 0, 3, .inl frf))] [0, 2] [1] := ⟨rfl, rfl, rfl, rfl, rfl, by decide⟩
  refine kw_go_i hs1 hP hD hS hA (va_runV (As := [.int ax1]) (rest := []) ⟨hx, hb, hml, hown, hts⟩ (gr_isField l D y mo to ke ik mrf ha r0 mbr mbp mby an va mab mbl bl ta tl tk vv ft fi gl mi no un ax1 hk0_ hk1_ hk2_ hk3_ hk4_ hkt hfi hgl hmi hno hun _) (cwV 1 hts gX11_gleaner_X11_isField rfl rfl rfl (by decide +kernel) ⟨Nat.le_of_ble_eq_true rfl, Nat.le_of_ble_eq_true rfl⟩) (kw_PreV (ci := 11) (q0 := 0) hs1 hP hD hK hN rfl rfl) rfl rfl hl.1 rfl (lv_room (Nat.le_of_ble_eq_true rfl)) dX11_gleaner_2 ⟨Nat.le_of_ble_eq_true rfl, Nat.le_of_ble_eq_true rfl⟩) (fun r2 u3 H locs hq hP hD hS => ?_)
  rcases hq with ⟨j4, h5, rfl, rfl⟩ | ⟨h6, rfl⟩
  · skip
    exact absurd ⟨j4, by omega, rfl⟩ hnx
  · skip
    have hP : va_P D vwCl [(mrf, .inl (y 0, 3, .inl frf)), (mo, .inr (11, [.ref to, .ref ke, .ref ik, .ref mrf, .long mab, .long mbl, .ref ha, .ref r0, .ref mbr, .ref mbp, .ref mby, .int (nI bl), .int (nI ta), .int (nI tl), .int (nI tk), .int vv, .ref an, .ref va])), (to, .inl (y 0, 228, .inl ft))] H := hP
    have hD : va_D A [(mrf, .inl (y 0, 3, .inl frf)), (mo, .inr (11, [.ref to, .ref ke, .ref ik, .ref mrf, .long mab, .long mbl, .ref ha, .ref r0, .ref mbr, .ref mbp, .ref mby, .int (nI bl), .int (nI ta), .int (nI tl), .int (nI tk), .int vv, .ref an, .ref va])), (to, .inl (y 0, 228, .inl ft))] := hD
    refine lv_if_ne (tgt := 15) hx hb dX11_gleaner_5 (by decide) (fun h9 => absurd h9 (by decide)) (fun _ => ?_)
    refine lv_aload_n hx hb dX11_gleaner_8 rfl (lv_at hl 0 rfl) ?_
    refine lv_bipush (v := (-2)) hx hb dX11_gleaner_9 (by decide) ?_
    have hs7 : kw_Split [(mrf, .inl (y 0, 3, .inl frf)), (mo, .inr (11, [.ref to, .ref ke, .ref ik, .ref mrf, .long mab, .long mbl, .ref ha, .ref r0, .ref mbr, .ref mbp, .ref mby, .int (nI bl), .int (nI ta), .int (nI tl), .int (nI tk), .int vv, .ref an, .ref va])), (to, .inl (y 0, 228, .inl ft))] [(mo, .inr (11, [.ref to, .ref ke, .ref ik, .ref mrf, .long mab, .long mbl, .ref ha, .ref r0, .ref mbr, .ref mbp, .ref mby, .int (nI bl), .int (nI ta), .int (nI tl), .int (nI tk), .int vv, .ref an, .ref va])), (mrf, .inl (y 0, 3, .inl frf))] [(to, .inl (y 0, 228, .inl ft))] [1, 0] [2] := ⟨rfl, rfl, rfl, rfl, rfl, by decide⟩
    refine kw_go_i hs7 hP hD hS hA (va_runV (As := [.int (-2)]) (rest := []) ⟨hx, hb, hml, hown, hts⟩ (gr_bad l D y mo to ke ik mrf ha r0 mbr mbp mby an va mab mbl bl ta tl tk vv frf (-2)  _) (cwV 1 hts gX11_gleaner_X11_bad rfl rfl rfl (by decide +kernel) ⟨Nat.le_of_ble_eq_true rfl, Nat.le_of_ble_eq_true rfl⟩) (kw_PreV (ci := 11) (q0 := 1) hs7 hP hD hK hN rfl rfl) rfl rfl hl.1 rfl (lv_room (Nat.le_of_ble_eq_true rfl)) dX11_gleaner_11 ⟨Nat.le_of_ble_eq_true rfl, Nat.le_of_ble_eq_true rfl⟩) (fun r8 u9 H locs hq hP hD hS => ?_)
    obtain rfl := hq
    have hP : va_P D vwCl [(to, .inl (y 0, 228, .inl ft)), (mo, .inr (11, [.ref to, .ref ke, .ref ik, .ref mrf, .long mab, .long mbl, .ref ha, .ref r0, .ref mbr, .ref mbp, .ref mby, .int (nI bl), .int (nI ta), .int (nI tl), .int (nI tk), .int vv, .ref an, .ref va])), (mrf, .inl (y 0, 3, .inl (upd frf 0 ((frf 0) + 1))))] H := hP
    have hD : va_D A [(to, .inl (y 0, 228, .inl ft)), (mo, .inr (11, [.ref to, .ref ke, .ref ik, .ref mrf, .long mab, .long mbl, .ref ha, .ref r0, .ref mbr, .ref mbp, .ref mby, .int (nI bl), .int (nI ta), .int (nI tl), .int (nI tk), .int vv, .ref an, .ref va])), (mrf, .inl (y 0, 3, .inl (upd frf 0 ((frf 0) + 1))))] := hD
    exact W.iret (v := (-2)) hx hb hr (fun tZ ht hW => ⟨⟨(-2), (), rfl, rfl, by rw [ht]; exact hP.sub [1, 2, 0] rfl, hD.sub [1, 2, 0] (by decide) rfl⟩, hS.F ht⟩) hS.2.2 dX11_gleaner_14
