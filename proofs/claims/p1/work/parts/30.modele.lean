set_option maxHeartbeats 4000000 in
set_option maxRecDepth 100000 in
theorem cw_lookAt (l : Launch) (D : va_G) (y : Nat → ClassId) (mo : Nat) (to : Nat) (ke : Nat) (ik : Nat) (rf : Nat) (ha : Nat) (r0 : Nat) (br : Nat) (bp : Nat) (bys : Nat) (an : Nat) (va : Nat) : kw_Mv l yX11_lookAt wsX11_lookAt ({ frames := 1, cells := 0, slots := 0, locals := 40 }) D y [.ref mo, .int 0] [(mo, .inr (11, [.ref to, .ref ke, .ref ik, .ref rf, .long 0, .long 1, .ref ha, .ref r0, .ref br, .ref bp, .ref bys, .int 0, .int 0, .int 0, .int 0, .int 0, .ref an, .ref va]))] (fun (u : Unit) => True) (fun _ => [(mo, .inr (11, [.ref to, .ref ke, .ref ik, .ref rf, .long 0, .long 1, .ref ha, .ref r0, .ref br, .ref bp, .ref bys, .int 0, .int 0, .int 0, .int 0, .int 0, .ref an, .ref va]))]) 0 0 := by
  refine kw_Mv.of (cc := cX11_lookAt) (maxL := 5) (ret := none) (by decide) rfl ?_
  intro pZ eZ s mZ beZ meZ cZ A hE
  obtain ⟨hx, hb, hr, hml, hts, hown, hlocks, hin, hA, hP, hD, hK, hN⟩ := hE
  have hS : va_S A s.heap s.heap [] := va_S.rf
  have hl := lv_entry ([.ref mo, .int 0]) (n := 5) (Nat.le_of_ble_eq_true rfl)
  rw [lg_entry_eq]
  generalize (lg_sl ([.ref mo, .int 0]) ++ List.replicate (5 - (lg_sl ([.ref mo, .int 0])).length) Slot.unset).toArray = ls at hl ⊢
  have hl : lv_has ls 5 [(0, .ref mo), (1, .int 0)] := hl
  have fw1 := hts (.fieldLink RX11 222 "GleanDuskModel" "tokenAt" "I") (List.mem_of_getElem? (i := 1) rfl)
  have fw2 := hts (.fieldLink RX11 210 "GleanDuskModel" "bytesLong" "I") (List.mem_of_getElem? (i := 2) rfl)
  have fw3 := hts (.fieldLink RX11 225 "GleanDuskModel" "tokenLong" "I") (List.mem_of_getElem? (i := 4) rfl)
  have fw4 := hts (.fieldLink RX11 228 "GleanDuskModel" "token" "I") (List.mem_of_getElem? (i := 5) rfl)
  have fw5 := hts (.fieldLink RX11 231 "GleanDuskModel" "value" "I") (List.mem_of_getElem? (i := 6) rfl)
  have i11 : ∀ w ∈ wsX110, w ∈ wsX11_lookAt := fun _ h => List.mem_cons_of_mem _ (List.mem_append_right _ h)
  refine lv_aload_n hx hb dX11_lookAt_0 rfl (lv_at hl 0 rfl) ?_
  refine lv_iload_n hx hb dX11_lookAt_1 rfl (lv_at hl 1 rfl) ?_
  refine va_put (D := D) (ci := 11) (v := .int 0) (ty := .int) (C := RX11) (T := TX11) (N := 18) hx hb hts i11 tyX11 tyX11_ok nmX11 hown hK hP hD hS 0 rfl rfl 12 (by decide) fw1 (fun _ h9 => h9) rfl (by decide +kernel) rfl rfl (Nat.le_of_ble_eq_true rfl) dX11_lookAt_2 (fun H locs hP hD hS => ?_)
  have hP : va_P D vwCl [(mo, .inr (11, [.ref to, .ref ke, .ref ik, .ref rf, .long 0, .long 1, .ref ha, .ref r0, .ref br, .ref bp, .ref bys, .int 0, .int 0, .int 0, .int 0, .int 0, .ref an, .ref va]))] H := hP
  have hD : va_D A [(mo, .inr (11, [.ref to, .ref ke, .ref ik, .ref rf, .long 0, .long 1, .ref ha, .ref r0, .ref br, .ref bp, .ref bys, .int 0, .int 0, .int 0, .int 0, .int 0, .ref an, .ref va]))] := hD
  refine lv_aload_n hx hb dX11_lookAt_5 rfl (lv_at hl 0 rfl) ?_
  refine va_get (D := D) (ci := 11) (v := .int 0) (C := RX11) (T := TX11) (N := 18) hx hb hts i11 hown hK hP 0 rfl rfl 12 (by decide) fw1 (fun _ h9 => h9) rfl dX11_lookAt_6 ?_
  refine lv_aload_n hx hb dX11_lookAt_9 rfl (lv_at hl 0 rfl) ?_
  refine va_get (D := D) (ci := 11) (v := .int 0) (C := RX11) (T := TX11) (N := 18) hx hb hts i11 hown hK hP 0 rfl rfl 11 (by decide) fw2 (fun _ h9 => h9) rfl dX11_lookAt_10 ?_
  refine lv_icmp_ge (tgt := 43) hx hb dX11_lookAt_13 (by decide) (fun _ => ?_) (fun h9 => absurd h9 (by decide))
  refine lv_aload_n hx hb dX11_lookAt_43 rfl (lv_at hl 0 rfl) ?_
  refine lv_iconst (v := 0) hx hb dX11_lookAt_44 (by decide) ?_
  refine va_put (D := D) (ci := 11) (v := .int 0) (ty := .int) (C := RX11) (T := TX11) (N := 18) hx hb hts i11 tyX11 tyX11_ok nmX11 hown hK hP hD hS 0 rfl rfl 13 (by decide) fw3 (fun _ h9 => h9) rfl (by decide +kernel) rfl rfl (Nat.le_of_ble_eq_true rfl) dX11_lookAt_45 (fun H locs hP hD hS => ?_)
  have hP : va_P D vwCl [(mo, .inr (11, [.ref to, .ref ke, .ref ik, .ref rf, .long 0, .long 1, .ref ha, .ref r0, .ref br, .ref bp, .ref bys, .int 0, .int 0, .int 0, .int 0, .int 0, .ref an, .ref va]))] H := hP
  have hD : va_D A [(mo, .inr (11, [.ref to, .ref ke, .ref ik, .ref rf, .long 0, .long 1, .ref ha, .ref r0, .ref br, .ref bp, .ref bys, .int 0, .int 0, .int 0, .int 0, .int 0, .ref an, .ref va]))] := hD
  refine lv_aload_n hx hb dX11_lookAt_48 rfl (lv_at hl 0 rfl) ?_
  refine lv_iconst (v := 0) hx hb dX11_lookAt_49 (by decide) ?_
  refine va_put (D := D) (ci := 11) (v := .int 0) (ty := .int) (C := RX11) (T := TX11) (N := 18) hx hb hts i11 tyX11 tyX11_ok nmX11 hown hK hP hD hS 0 rfl rfl 14 (by decide) fw4 (fun _ h9 => h9) rfl (by decide +kernel) rfl rfl (Nat.le_of_ble_eq_true rfl) dX11_lookAt_50 (fun H locs hP hD hS => ?_)
  have hP : va_P D vwCl [(mo, .inr (11, [.ref to, .ref ke, .ref ik, .ref rf, .long 0, .long 1, .ref ha, .ref r0, .ref br, .ref bp, .ref bys, .int 0, .int 0, .int 0, .int 0, .int 0, .ref an, .ref va]))] H := hP
  have hD : va_D A [(mo, .inr (11, [.ref to, .ref ke, .ref ik, .ref rf, .long 0, .long 1, .ref ha, .ref r0, .ref br, .ref bp, .ref bys, .int 0, .int 0, .int 0, .int 0, .int 0, .ref an, .ref va]))] := hD
  refine lv_aload_n hx hb dX11_lookAt_53 rfl (lv_at hl 0 rfl) ?_
  refine lv_iconst (v := 0) hx hb dX11_lookAt_54 (by decide) ?_
  refine va_put (D := D) (ci := 11) (v := .int 0) (ty := .int) (C := RX11) (T := TX11) (N := 18) hx hb hts i11 tyX11 tyX11_ok nmX11 hown hK hP hD hS 0 rfl rfl 15 (by decide) fw5 (fun _ h9 => h9) rfl (by decide +kernel) rfl rfl (Nat.le_of_ble_eq_true rfl) dX11_lookAt_55 (fun H locs hP hD hS => ?_)
  have hP : va_P D vwCl [(mo, .inr (11, [.ref to, .ref ke, .ref ik, .ref rf, .long 0, .long 1, .ref ha, .ref r0, .ref br, .ref bp, .ref bys, .int 0, .int 0, .int 0, .int 0, .int 0, .ref an, .ref va]))] H := hP
  have hD : va_D A [(mo, .inr (11, [.ref to, .ref ke, .ref ik, .ref rf, .long 0, .long 1, .ref ha, .ref r0, .ref br, .ref bp, .ref bys, .int 0, .int 0, .int 0, .int 0, .int 0, .ref an, .ref va]))] := hD
  refine lv_aload_n hx hb dX11_lookAt_58 rfl (lv_at hl 0 rfl) ?_
  refine va_get (D := D) (ci := 11) (v := .int 0) (C := RX11) (T := TX11) (N := 18) hx hb hts i11 hown hK hP 0 rfl rfl 12 (by decide) fw1 (fun _ h9 => h9) rfl dX11_lookAt_59 ?_
  refine lv_aload_n hx hb dX11_lookAt_62 rfl (lv_at hl 0 rfl) ?_
  refine va_get (D := D) (ci := 11) (v := .int 0) (C := RX11) (T := TX11) (N := 18) hx hb hts i11 hown hK hP 0 rfl rfl 11 (by decide) fw2 (fun _ h9 => h9) rfl dX11_lookAt_63 ?_
  refine lv_icmp_ne (tgt := 70) hx hb dX11_lookAt_66 (by decide) (fun h9 => absurd h9 (by decide)) (fun _ => ?_)
  exact W.vret hx hb hr (fun tZ ht hW => ⟨⟨(), rfl, trivial, by rw [ht]; exact hP.sub [0] rfl, hD.sub [0] (by decide) rfl⟩, hS.F ht⟩) hS.2.2 dX11_lookAt_69

set_option maxHeartbeats 4000000 in
set_option maxRecDepth 100000 in
theorem cw_spells (l : Launch) (D : va_G) (y : Nat → ClassId) (mo : Nat) (to : Nat) (ke : Nat) (ik : Nat) (rf : Nat) (ha : Nat) (r0 : Nat) (br : Nat) (bp : Nat) (bys : Nat) (an : Nat) (va : Nat) (a : Int32) (b : Int32) (c2 : Int32) (d2 : Int32) (e2 : Int32) (f2 : Int32) : kw_Mi l yX11_spells wsX11_spells ({ frames := 1, cells := 0, slots := 0, locals := 40 }) D y [.ref mo, .int 6, .int a, .int b, .int c2, .int d2, .int e2, .int f2] [(mo, .inr (11, [.ref to, .ref ke, .ref ik, .ref rf, .long 0, .long 1, .ref ha, .ref r0, .ref br, .ref bp, .ref bys, .int 0, .int 0, .int 0, .int 0, .int 0, .ref an, .ref va]))] (fun (r : Int32) (u : Unit) => r = 0) (fun _ => [(mo, .inr (11, [.ref to, .ref ke, .ref ik, .ref rf, .long 0, .long 1, .ref ha, .ref r0, .ref br, .ref bp, .ref bys, .int 0, .int 0, .int 0, .int 0, .int 0, .ref an, .ref va]))]) 0 0 := by
  refine kw_Mi.of (cc := cX11_spells) (maxL := 10) (ret := (some .boolean)) (by decide) rfl ?_
  intro pZ eZ s mZ beZ meZ cZ A hE
  obtain ⟨hx, hb, hr, hml, hts, hown, hlocks, hin, hA, hP, hD, hK, hN⟩ := hE
  have hS : va_S A s.heap s.heap [] := va_S.rf
  have hl := lv_entry ([.ref mo, .int 6, .int a, .int b, .int c2, .int d2, .int e2, .int f2]) (n := 10) (Nat.le_of_ble_eq_true rfl)
  rw [lg_entry_eq]
  generalize (lg_sl ([.ref mo, .int 6, .int a, .int b, .int c2, .int d2, .int e2, .int f2]) ++ List.replicate (10 - (lg_sl ([.ref mo, .int 6, .int a, .int b, .int c2, .int d2, .int e2, .int f2])).length) Slot.unset).toArray = ls at hl ⊢
  have hl : lv_has ls 10 [(0, .ref mo), (1, .int 6), (2, .int a), (3, .int b), (4, .int c2), (5, .int d2), (6, .int e2), (7, .int f2)] := hl
  have fw1 := hts (.fieldLink RX11 228 "GleanDuskModel" "token" "I") (List.mem_of_getElem? (i := 1) rfl)
  have i11 : ∀ w ∈ wsX110, w ∈ wsX11_spells := fun _ h => List.mem_cons_of_mem _ (List.mem_append_right _ h)
  refine lv_aload_n hx hb dX11_spells_0 rfl (lv_at hl 0 rfl) ?_
  refine va_get (D := D) (ci := 11) (v := .int 0) (C := RX11) (T := TX11) (N := 18) hx hb hts i11 hown hK hP 0 rfl rfl 14 (by decide) fw1 (fun _ h9 => h9) rfl dX11_spells_1 ?_
  refine lv_iconst (v := 1) hx hb dX11_spells_4 (by decide) ?_
  refine lv_icmp_ne (tgt := 20) hx hb dX11_spells_5 (by decide) (fun _ => ?_) (fun h9 => absurd h9 (by decide))
  refine lv_iconst (v := 0) hx hb dX11_spells_20 (by decide) ?_
  refine lv_istore (lv' := [(8, .int 0), (0, .ref mo), (1, .int 6), (2, .int a), (3, .int b), (4, .int c2), (5, .int d2), (6, .int e2), (7, .int f2)]) hx hb dX11_spells_21 hl (by decide) rfl (fun ls hl => ?_)
  refine lv_iconst (v := 0) hx hb dX11_spells_23 (by decide) ?_
  refine lv_istore (lv' := [(9, .int 0), (8, .int 0), (0, .ref mo), (1, .int 6), (2, .int a), (3, .int b), (4, .int c2), (5, .int d2), (6, .int e2), (7, .int f2)]) hx hb dX11_spells_24 hl (by decide) rfl (fun ls hl => ?_)
  refine lv_iload hx hb dX11_spells_26 (lv_at hl 0 rfl) ?_
  refine lv_iload_n hx hb dX11_spells_28 rfl (lv_at hl 3 rfl) ?_
  refine lv_icmp_ge (tgt := 119) hx hb dX11_spells_29 (by decide) (fun h9 => absurd h9 (by decide)) (fun _ => ?_)
  refine lv_iload hx hb dX11_spells_32 (lv_at hl 1 rfl) ?_
  refine lv_if_eq (tgt := 119) hx hb dX11_spells_34 (by decide) (fun _ => ?_) (fun h9 => absurd h9 (by decide))
  refine lv_iload hx hb dX11_spells_119 (lv_at hl 1 rfl) ?_
  exact W.zret (v := 0) hx hb hr (by decide) (fun tZ ht hW => ⟨⟨0, (), rfl, rfl, by rw [ht]; exact hP.sub [0] rfl, hD.sub [0] (by decide) rfl⟩, hS.F ht⟩) hS.2.2 dX11_spells_121

set_option maxHeartbeats 4000000 in
set_option maxRecDepth 100000 in
theorem cw_takesParish (l : Launch) (D : va_G) (y : Nat → ClassId) (mo : Nat) (to : Nat) (ke : Nat) (ik : Nat) (rf : Nat) (ha : Nat) (r0 : Nat) (br : Nat) (bp : Nat) (bys : Nat) (an : Nat) (va : Nat) : kw_Mi l yX11_takesParish wsX11_takesParish ({ frames := 2, cells := 0, slots := 0, locals := 69 }) D y [.ref mo] [(mo, .inr (11, [.ref to, .ref ke, .ref ik, .ref rf, .long 0, .long 1, .ref ha, .ref r0, .ref br, .ref bp, .ref bys, .int 0, .int 0, .int 0, .int 0, .int 0, .ref an, .ref va]))] (fun (r : Int32) (u : Unit) => r = 0) (fun _ => [(mo, .inr (11, [.ref to, .ref ke, .ref ik, .ref rf, .long 0, .long 1, .ref ha, .ref r0, .ref br, .ref bp, .ref bys, .int 0, .int 0, .int 0, .int 0, .int 0, .ref an, .ref va]))]) 0 0 := by
  refine kw_Mi.of (cc := cX11_takesParish) (maxL := 1) (ret := (some .boolean)) (by decide) rfl ?_
  intro pZ eZ s mZ beZ meZ cZ A hE
  obtain ⟨hx, hb, hr, hml, hts, hown, hlocks, hin, hA, hP, hD, hK, hN⟩ := hE
  have hS : va_S A s.heap s.heap [] := va_S.rf
  have hl := lv_entry ([.ref mo]) (n := 1) (Nat.le_of_ble_eq_true rfl)
  rw [lg_entry_eq]
  generalize (lg_sl ([.ref mo]) ++ List.replicate (1 - (lg_sl ([.ref mo])).length) Slot.unset).toArray = ls at hl ⊢
  have hl : lv_has ls 1 [(0, .ref mo)] := hl
  refine lv_aload_n hx hb dX11_takesParish_0 rfl (lv_at hl 0 rfl) ?_
  refine lv_bipush (v := 6) hx hb dX11_takesParish_1 (by decide) ?_
  refine lv_bipush (v := 112) hx hb dX11_takesParish_3 (by decide) ?_
  refine lv_bipush (v := 97) hx hb dX11_takesParish_5 (by decide) ?_
  refine lv_bipush (v := 114) hx hb dX11_takesParish_7 (by decide) ?_
  refine lv_bipush (v := 105) hx hb dX11_takesParish_9 (by decide) ?_
  refine lv_bipush (v := 115) hx hb dX11_takesParish_11 (by decide) ?_
  refine lv_bipush (v := 104) hx hb dX11_takesParish_13 (by decide) ?_
  have hs1 : kw_Split [(mo, .inr (11, [.ref to, .ref ke, .ref ik, .ref rf, .long 0, .long 1, .ref ha, .ref r0, .ref br, .ref bp, .ref bys, .int 0, .int 0, .int 0, .int 0, .int 0, .ref an, .ref va]))] [(mo, .inr (11, [.ref to, .ref ke, .ref ik, .ref rf, .long 0, .long 1, .ref ha, .ref r0, .ref br, .ref bp, .ref bys, .int 0, .int 0, .int 0, .int 0, .int 0, .ref an, .ref va]))] [] [0] [] := ⟨rfl, rfl, rfl, rfl, rfl, by decide⟩
  refine kw_go_i hs1 hP hD hS hA (va_runV (As := [.int 6, .int 112, .int 97, .int 114, .int 105, .int 115, .int 104]) (rest := []) ⟨hx, hb, hml, hown, hts⟩ (cw_spells l D y mo to ke ik rf ha r0 br bp bys an va 112 97 114 105 115 104  _) (cwV 7 hts gX11_takesParish_X11_spells rfl rfl rfl (by decide +kernel) ⟨Nat.le_of_ble_eq_true rfl, Nat.le_of_ble_eq_true rfl⟩) (kw_PreV (ci := 11) (q0 := 0) hs1 hP hD hK hN rfl rfl) rfl rfl hl.1 rfl (lv_room (Nat.le_of_ble_eq_true rfl)) dX11_takesParish_15 ⟨Nat.le_of_ble_eq_true rfl, Nat.le_of_ble_eq_true rfl⟩) (fun r u H locs hq hP hD hS => ?_)
  obtain rfl := hq
  have hP : va_P D vwCl [(mo, .inr (11, [.ref to, .ref ke, .ref ik, .ref rf, .long 0, .long 1, .ref ha, .ref r0, .ref br, .ref bp, .ref bys, .int 0, .int 0, .int 0, .int 0, .int 0, .ref an, .ref va]))] H := hP
  have hD : va_D A [(mo, .inr (11, [.ref to, .ref ke, .ref ik, .ref rf, .long 0, .long 1, .ref ha, .ref r0, .ref br, .ref bp, .ref bys, .int 0, .int 0, .int 0, .int 0, .int 0, .ref an, .ref va]))] := hD
  refine lv_if_ne (tgt := 23) hx hb dX11_takesParish_18 (by decide) (fun h9 => absurd h9 (by decide)) (fun _ => ?_)
  refine lv_iconst (v := 0) hx hb dX11_takesParish_21 (by decide) ?_
  exact W.zret (v := 0) hx hb hr (by decide) (fun tZ ht hW => ⟨⟨0, (), rfl, rfl, by rw [ht]; exact hP.sub [0] rfl, hD.sub [0] (by decide) rfl⟩, hS.F ht⟩) hS.2.2 dX11_takesParish_22

set_option maxHeartbeats 4000000 in
set_option maxRecDepth 100000 in
theorem cw_counted0 (l : Launch) (D : va_G) (y : Nat → ClassId) (mo : Nat) (to : Nat) (ke : Nat) (ik : Nat) (rf : Nat) (ha : Nat) (r0 : Nat) (br : Nat) (bp : Nat) (bys : Nat) (an : Nat) (va : Nat) : kw_Mi l yX11_counted wsX11_counted ({ frames := 2, cells := 0, slots := 0, locals := 60 }) D y [.ref mo, .int 0] [(mo, .inr (11, [.ref to, .ref ke, .ref ik, .ref rf, .long 0, .long 1, .ref ha, .ref r0, .ref br, .ref bp, .ref bys, .int 0, .int 0, .int 0, .int 0, .int 0, .ref an, .ref va])), (to, .inl (y 0, 228, .inl (fun _ => 0)))] (fun (r : Int32) (u : Unit) => r = 0) (fun _ => [(mo, .inr (11, [.ref to, .ref ke, .ref ik, .ref rf, .long 0, .long 1, .ref ha, .ref r0, .ref br, .ref bp, .ref bys, .int 0, .int 0, .int 0, .int 0, .int 0, .ref an, .ref va])), (to, .inl (y 0, 228, .inl (fun _ => 0)))]) 0 0 := by
  refine kw_Mi.of (cc := cX11_counted) (maxL := 2) (ret := (some .int)) (by decide) rfl ?_
  intro pZ eZ s mZ beZ meZ cZ A hE
  obtain ⟨hx, hb, hr, hml, hts, hown, hlocks, hin, hA, hP, hD, hK, hN⟩ := hE
  have hS : va_S A s.heap s.heap [] := va_S.rf
  have hl := lv_entry ([.ref mo, .int 0]) (n := 2) (Nat.le_of_ble_eq_true rfl)
  rw [lg_entry_eq]
  generalize (lg_sl ([.ref mo, .int 0]) ++ List.replicate (2 - (lg_sl ([.ref mo, .int 0])).length) Slot.unset).toArray = ls at hl ⊢
  have hl : lv_has ls 2 [(0, .ref mo), (1, .int 0)] := hl
  refine lv_iload_n hx hb dX11_counted_0 rfl (lv_at hl 1 rfl) ?_
  refine lv_tableIn (off := 47) (tgt := 48) hx hb dX11_counted_1 (by decide) (by decide) (by decide +kernel) (by decide) ?_
  refine lv_aload_n hx hb dX11_counted_48 rfl (lv_at hl 0 rfl) ?_
  have hs1 : kw_Split [(mo, .inr (11, [.ref to, .ref ke, .ref ik, .ref rf, .long 0, .long 1, .ref ha, .ref r0, .ref br, .ref bp, .ref bys, .int 0, .int 0, .int 0, .int 0, .int 0, .ref an, .ref va])), (to, .inl (y 0, 228, .inl (fun _ => 0)))] [(mo, .inr (11, [.ref to, .ref ke, .ref ik, .ref rf, .long 0, .long 1, .ref ha, .ref r0, .ref br, .ref bp, .ref bys, .int 0, .int 0, .int 0, .int 0, .int 0, .ref an, .ref va])), (to, .inl (y 0, 228, .inl (fun _ => 0)))] [] [0, 1] [] := ⟨rfl, rfl, rfl, rfl, rfl, by decide⟩
  refine kw_go_i hs1 hP hD hS hA (va_runV (As := []) (rest := []) ⟨hx, hb, hml, hown, hts⟩ (cw_many l D y mo to ke ik rf ha r0 br bp bys an va (fun _ => 0) 0 (by first | rfl | decide | assumption | (simp [upd]; done) | (unfold upd; rw [if_neg (by decide)]; assumption) | (unfold upd; rw [if_neg (by decide), if_neg (by decide)]; assumption)) _) (cwV 0 hts gX11_counted_X11_many rfl rfl rfl (by decide +kernel) ⟨Nat.le_of_ble_eq_true rfl, Nat.le_of_ble_eq_true rfl⟩) (kw_PreV (ci := 11) (q0 := 0) hs1 hP hD hK hN rfl rfl) rfl rfl hl.1 rfl (lv_room (Nat.le_of_ble_eq_true rfl)) dX11_counted_49 ⟨Nat.le_of_ble_eq_true rfl, Nat.le_of_ble_eq_true rfl⟩) (fun r u H locs hq hP hD hS => ?_)
  obtain rfl := hq
  have hP : va_P D vwCl [(mo, .inr (11, [.ref to, .ref ke, .ref ik, .ref rf, .long 0, .long 1, .ref ha, .ref r0, .ref br, .ref bp, .ref bys, .int 0, .int 0, .int 0, .int 0, .int 0, .ref an, .ref va])), (to, .inl (y 0, 228, .inl (fun _ => 0)))] H := hP
  have hD : va_D A [(mo, .inr (11, [.ref to, .ref ke, .ref ik, .ref rf, .long 0, .long 1, .ref ha, .ref r0, .ref br, .ref bp, .ref bys, .int 0, .int 0, .int 0, .int 0, .int 0, .ref an, .ref va])), (to, .inl (y 0, 228, .inl (fun _ => 0)))] := hD
  exact W.iret (v := 0) hx hb hr (fun tZ ht hW => ⟨⟨0, (), rfl, rfl, by rw [ht]; exact hP.sub [0, 1] rfl, hD.sub [0, 1] (by decide) rfl⟩, hS.F ht⟩) hS.2.2 dX11_counted_52

set_option maxHeartbeats 4000000 in
set_option maxRecDepth 100000 in
theorem cw_counted1 (l : Launch) (D : va_G) (y : Nat → ClassId) (mo : Nat) (to : Nat) (ke : Nat) (ik : Nat) (rf : Nat) (ha : Nat) (r0 : Nat) (br : Nat) (bp : Nat) (bys : Nat) (an : Nat) (va : Nat) : kw_Mi l yX11_counted wsX11_counted ({ frames := 2, cells := 0, slots := 0, locals := 60 }) D y [.ref mo, .int 1] [(mo, .inr (11, [.ref to, .ref ke, .ref ik, .ref rf, .long 0, .long 1, .ref ha, .ref r0, .ref br, .ref bp, .ref bys, .int 0, .int 0, .int 0, .int 0, .int 0, .ref an, .ref va])), (to, .inl (y 0, 228, .inl (fun _ => 0)))] (fun (r : Int32) (u : Unit) => r = 0) (fun _ => [(mo, .inr (11, [.ref to, .ref ke, .ref ik, .ref rf, .long 0, .long 1, .ref ha, .ref r0, .ref br, .ref bp, .ref bys, .int 0, .int 0, .int 0, .int 0, .int 0, .ref an, .ref va])), (to, .inl (y 0, 228, .inl (fun _ => 0)))]) 0 0 := by
  refine kw_Mi.of (cc := cX11_counted) (maxL := 2) (ret := (some .int)) (by decide) rfl ?_
  intro pZ eZ s mZ beZ meZ cZ A hE
  obtain ⟨hx, hb, hr, hml, hts, hown, hlocks, hin, hA, hP, hD, hK, hN⟩ := hE
  have hS : va_S A s.heap s.heap [] := va_S.rf
  have hl := lv_entry ([.ref mo, .int 1]) (n := 2) (Nat.le_of_ble_eq_true rfl)
  rw [lg_entry_eq]
  generalize (lg_sl ([.ref mo, .int 1]) ++ List.replicate (2 - (lg_sl ([.ref mo, .int 1])).length) Slot.unset).toArray = ls at hl ⊢
  have hl : lv_has ls 2 [(0, .ref mo), (1, .int 1)] := hl
  refine lv_iload_n hx hb dX11_counted_0 rfl (lv_at hl 1 rfl) ?_
  refine lv_tableIn (off := 52) (tgt := 53) hx hb dX11_counted_1 (by decide) (by decide) (by decide +kernel) (by decide) ?_
  refine lv_aload_n hx hb dX11_counted_53 rfl (lv_at hl 0 rfl) ?_
  have hs1 : kw_Split [(mo, .inr (11, [.ref to, .ref ke, .ref ik, .ref rf, .long 0, .long 1, .ref ha, .ref r0, .ref br, .ref bp, .ref bys, .int 0, .int 0, .int 0, .int 0, .int 0, .ref an, .ref va])), (to, .inl (y 0, 228, .inl (fun _ => 0)))] [(mo, .inr (11, [.ref to, .ref ke, .ref ik, .ref rf, .long 0, .long 1, .ref ha, .ref r0, .ref br, .ref bp, .ref bys, .int 0, .int 0, .int 0, .int 0, .int 0, .ref an, .ref va])), (to, .inl (y 0, 228, .inl (fun _ => 0)))] [] [0, 1] [] := ⟨rfl, rfl, rfl, rfl, rfl, by decide⟩
  refine kw_go_i hs1 hP hD hS hA (va_runV (As := []) (rest := []) ⟨hx, hb, hml, hown, hts⟩ (cw_manyGleaners l D y mo to ke ik rf ha r0 br bp bys an va (fun _ => 0) 0 (by first | rfl | decide | assumption | (simp [upd]; done) | (unfold upd; rw [if_neg (by decide)]; assumption) | (unfold upd; rw [if_neg (by decide), if_neg (by decide)]; assumption)) _) (cwV 0 hts gX11_counted_X11_manyGleaners rfl rfl rfl (by decide +kernel) ⟨Nat.le_of_ble_eq_true rfl, Nat.le_of_ble_eq_true rfl⟩) (kw_PreV (ci := 11) (q0 := 0) hs1 hP hD hK hN rfl rfl) rfl rfl hl.1 rfl (lv_room (Nat.le_of_ble_eq_true rfl)) dX11_counted_54 ⟨Nat.le_of_ble_eq_true rfl, Nat.le_of_ble_eq_true rfl⟩) (fun r u H locs hq hP hD hS => ?_)
  obtain rfl := hq
  have hP : va_P D vwCl [(mo, .inr (11, [.ref to, .ref ke, .ref ik, .ref rf, .long 0, .long 1, .ref ha, .ref r0, .ref br, .ref bp, .ref bys, .int 0, .int 0, .int 0, .int 0, .int 0, .ref an, .ref va])), (to, .inl (y 0, 228, .inl (fun _ => 0)))] H := hP
  have hD : va_D A [(mo, .inr (11, [.ref to, .ref ke, .ref ik, .ref rf, .long 0, .long 1, .ref ha, .ref r0, .ref br, .ref bp, .ref bys, .int 0, .int 0, .int 0, .int 0, .int 0, .ref an, .ref va])), (to, .inl (y 0, 228, .inl (fun _ => 0)))] := hD
  exact W.iret (v := 0) hx hb hr (fun tZ ht hW => ⟨⟨0, (), rfl, rfl, by rw [ht]; exact hP.sub [0, 1] rfl, hD.sub [0, 1] (by decide) rfl⟩, hS.F ht⟩) hS.2.2 dX11_counted_57

set_option maxHeartbeats 4000000 in
set_option maxRecDepth 100000 in
theorem cw_counted2 (l : Launch) (D : va_G) (y : Nat → ClassId) (mo : Nat) (to : Nat) (ke : Nat) (ik : Nat) (rf : Nat) (ha : Nat) (r0 : Nat) (br : Nat) (bp : Nat) (bys : Nat) (an : Nat) (va : Nat) : kw_Mi l yX11_counted wsX11_counted ({ frames := 1, cells := 0, slots := 0, locals := 40 }) D y [.ref mo, .int 2] [(mo, .inr (11, [.ref to, .ref ke, .ref ik, .ref rf, .long 0, .long 1, .ref ha, .ref r0, .ref br, .ref bp, .ref bys, .int 0, .int 0, .int 0, .int 0, .int 0, .ref an, .ref va])), (to, .inl (y 0, 228, .inl (fun _ => 0)))] (fun (r : Int32) (u : Unit) => r = 0) (fun _ => [(mo, .inr (11, [.ref to, .ref ke, .ref ik, .ref rf, .long 0, .long 1, .ref ha, .ref r0, .ref br, .ref bp, .ref bys, .int 0, .int 0, .int 0, .int 0, .int 0, .ref an, .ref va])), (to, .inl (y 0, 228, .inl (fun _ => 0)))]) 0 0 := by
  refine kw_Mi.of (cc := cX11_counted) (maxL := 2) (ret := (some .int)) (by decide) rfl ?_
  intro pZ eZ s mZ beZ meZ cZ A hE
  obtain ⟨hx, hb, hr, hml, hts, hown, hlocks, hin, hA, hP, hD, hK, hN⟩ := hE
  have hS : va_S A s.heap s.heap [] := va_S.rf
  have hl := lv_entry ([.ref mo, .int 2]) (n := 2) (Nat.le_of_ble_eq_true rfl)
  rw [lg_entry_eq]
  generalize (lg_sl ([.ref mo, .int 2]) ++ List.replicate (2 - (lg_sl ([.ref mo, .int 2])).length) Slot.unset).toArray = ls at hl ⊢
  have hl : lv_has ls 2 [(0, .ref mo), (1, .int 2)] := hl
  have fw1 := hts (.fieldLink RX11 7 "GleanDuskModel" "told" "[I") (List.mem_of_getElem? (i := 1) rfl)
  have i11 : ∀ w ∈ wsX110, w ∈ wsX11_counted := fun _ h => List.mem_cons_of_mem _ (List.mem_append_right _ h)
  refine lv_iload_n hx hb dX11_counted_0 rfl (lv_at hl 1 rfl) ?_
  refine lv_tableIn (off := 57) (tgt := 58) hx hb dX11_counted_1 (by decide) (by decide) (by decide +kernel) (by decide) ?_
  refine lv_aload_n hx hb dX11_counted_58 rfl (lv_at hl 0 rfl) ?_
  refine va_get (D := D) (ci := 11) (v := .ref to) (C := RX11) (T := TX11) (N := 18) hx hb hts i11 hown hK hP 0 rfl rfl 0 (by decide) fw1 (fun _ h9 => h9) rfl dX11_counted_59 ?_
  refine lv_bipush (v := 21) hx hb dX11_counted_62 (by decide) ?_
  refine va_iald hx hb hK hP 1 0 rfl rfl (by unfold vp_in; decide) dX11_counted_64 ?_
  refine lv_topi (fun z1 hz1 => ?_)
  obtain rfl : z1 = 0 := hz1.trans (by first | rfl | decide | assumption | (simp [upd]; done) | (unfold upd; rw [if_neg (by decide)]; assumption) | (simp [upd, *]; done))
  exact W.iret (v := 0) hx hb hr (fun tZ ht hW => ⟨⟨0, (), rfl, rfl, by rw [ht]; exact hP.sub [0, 1] rfl, hD.sub [0, 1] (by decide) rfl⟩, hS.F ht⟩) hS.2.2 dX11_counted_65

set_option maxHeartbeats 4000000 in
set_option maxRecDepth 100000 in
theorem cw_counted3 (l : Launch) (D : va_G) (y : Nat → ClassId) (mo : Nat) (to : Nat) (ke : Nat) (ik : Nat) (rf : Nat) (ha : Nat) (r0 : Nat) (br : Nat) (bp : Nat) (bys : Nat) (an : Nat) (va : Nat) : kw_Mi l yX11_counted wsX11_counted ({ frames := 1, cells := 0, slots := 0, locals := 40 }) D y [.ref mo, .int 3] [(mo, .inr (11, [.ref to, .ref ke, .ref ik, .ref rf, .long 0, .long 1, .ref ha, .ref r0, .ref br, .ref bp, .ref bys, .int 0, .int 0, .int 0, .int 0, .int 0, .ref an, .ref va])), (to, .inl (y 0, 228, .inl (fun _ => 0)))] (fun (r : Int32) (u : Unit) => r = 0) (fun _ => [(mo, .inr (11, [.ref to, .ref ke, .ref ik, .ref rf, .long 0, .long 1, .ref ha, .ref r0, .ref br, .ref bp, .ref bys, .int 0, .int 0, .int 0, .int 0, .int 0, .ref an, .ref va])), (to, .inl (y 0, 228, .inl (fun _ => 0)))]) 0 0 := by
  refine kw_Mi.of (cc := cX11_counted) (maxL := 2) (ret := (some .int)) (by decide) rfl ?_
  intro pZ eZ s mZ beZ meZ cZ A hE
  obtain ⟨hx, hb, hr, hml, hts, hown, hlocks, hin, hA, hP, hD, hK, hN⟩ := hE
  have hS : va_S A s.heap s.heap [] := va_S.rf
  have hl := lv_entry ([.ref mo, .int 3]) (n := 2) (Nat.le_of_ble_eq_true rfl)
  rw [lg_entry_eq]
  generalize (lg_sl ([.ref mo, .int 3]) ++ List.replicate (2 - (lg_sl ([.ref mo, .int 3])).length) Slot.unset).toArray = ls at hl ⊢
  have hl : lv_has ls 2 [(0, .ref mo), (1, .int 3)] := hl
  have fw1 := hts (.fieldLink RX11 7 "GleanDuskModel" "told" "[I") (List.mem_of_getElem? (i := 1) rfl)
  have i11 : ∀ w ∈ wsX110, w ∈ wsX11_counted := fun _ h => List.mem_cons_of_mem _ (List.mem_append_right _ h)
  refine lv_iload_n hx hb dX11_counted_0 rfl (lv_at hl 1 rfl) ?_
  refine lv_tableIn (off := 65) (tgt := 66) hx hb dX11_counted_1 (by decide) (by decide) (by decide +kernel) (by decide) ?_
  refine lv_aload_n hx hb dX11_counted_66 rfl (lv_at hl 0 rfl) ?_
  refine va_get (D := D) (ci := 11) (v := .ref to) (C := RX11) (T := TX11) (N := 18) hx hb hts i11 hown hK hP 0 rfl rfl 0 (by decide) fw1 (fun _ h9 => h9) rfl dX11_counted_67 ?_
  refine lv_bipush (v := 22) hx hb dX11_counted_70 (by decide) ?_
  refine va_iald hx hb hK hP 1 0 rfl rfl (by unfold vp_in; decide) dX11_counted_72 ?_
  refine lv_topi (fun z1 hz1 => ?_)
  obtain rfl : z1 = 0 := hz1.trans (by first | rfl | decide | assumption | (simp [upd]; done) | (unfold upd; rw [if_neg (by decide)]; assumption) | (simp [upd, *]; done))
  exact W.iret (v := 0) hx hb hr (fun tZ ht hW => ⟨⟨0, (), rfl, rfl, by rw [ht]; exact hP.sub [0, 1] rfl, hD.sub [0, 1] (by decide) rfl⟩, hS.F ht⟩) hS.2.2 dX11_counted_73

set_option maxHeartbeats 4000000 in
set_option maxRecDepth 100000 in
theorem cw_counted4 (l : Launch) (D : va_G) (y : Nat → ClassId) (mo : Nat) (to : Nat) (ke : Nat) (ik : Nat) (rf : Nat) (ha : Nat) (r0 : Nat) (br : Nat) (bp : Nat) (bys : Nat) (an : Nat) (va : Nat) : kw_Mi l yX11_counted wsX11_counted ({ frames := 1, cells := 0, slots := 0, locals := 40 }) D y [.ref mo, .int 4] [(mo, .inr (11, [.ref to, .ref ke, .ref ik, .ref rf, .long 0, .long 1, .ref ha, .ref r0, .ref br, .ref bp, .ref bys, .int 0, .int 0, .int 0, .int 0, .int 0, .ref an, .ref va])), (to, .inl (y 0, 228, .inl (fun _ => 0)))] (fun (r : Int32) (u : Unit) => r = 0) (fun _ => [(mo, .inr (11, [.ref to, .ref ke, .ref ik, .ref rf, .long 0, .long 1, .ref ha, .ref r0, .ref br, .ref bp, .ref bys, .int 0, .int 0, .int 0, .int 0, .int 0, .ref an, .ref va])), (to, .inl (y 0, 228, .inl (fun _ => 0)))]) 0 0 := by
  refine kw_Mi.of (cc := cX11_counted) (maxL := 2) (ret := (some .int)) (by decide) rfl ?_
  intro pZ eZ s mZ beZ meZ cZ A hE
  obtain ⟨hx, hb, hr, hml, hts, hown, hlocks, hin, hA, hP, hD, hK, hN⟩ := hE
  have hS : va_S A s.heap s.heap [] := va_S.rf
  have hl := lv_entry ([.ref mo, .int 4]) (n := 2) (Nat.le_of_ble_eq_true rfl)
  rw [lg_entry_eq]
  generalize (lg_sl ([.ref mo, .int 4]) ++ List.replicate (2 - (lg_sl ([.ref mo, .int 4])).length) Slot.unset).toArray = ls at hl ⊢
  have hl : lv_has ls 2 [(0, .ref mo), (1, .int 4)] := hl
  have fw1 := hts (.fieldLink RX11 7 "GleanDuskModel" "told" "[I") (List.mem_of_getElem? (i := 1) rfl)
  have i11 : ∀ w ∈ wsX110, w ∈ wsX11_counted := fun _ h => List.mem_cons_of_mem _ (List.mem_append_right _ h)
  refine lv_iload_n hx hb dX11_counted_0 rfl (lv_at hl 1 rfl) ?_
  refine lv_tableIn (off := 73) (tgt := 74) hx hb dX11_counted_1 (by decide) (by decide) (by decide +kernel) (by decide) ?_
  refine lv_aload_n hx hb dX11_counted_74 rfl (lv_at hl 0 rfl) ?_
  refine va_get (D := D) (ci := 11) (v := .ref to) (C := RX11) (T := TX11) (N := 18) hx hb hts i11 hown hK hP 0 rfl rfl 0 (by decide) fw1 (fun _ h9 => h9) rfl dX11_counted_75 ?_
  refine lv_bipush (v := 23) hx hb dX11_counted_78 (by decide) ?_
  refine va_iald hx hb hK hP 1 0 rfl rfl (by unfold vp_in; decide) dX11_counted_80 ?_
  refine lv_topi (fun z1 hz1 => ?_)
  obtain rfl : z1 = 0 := hz1.trans (by first | rfl | decide | assumption | (simp [upd]; done) | (unfold upd; rw [if_neg (by decide)]; assumption) | (simp [upd, *]; done))
  exact W.iret (v := 0) hx hb hr (fun tZ ht hW => ⟨⟨0, (), rfl, rfl, by rw [ht]; exact hP.sub [0, 1] rfl, hD.sub [0, 1] (by decide) rfl⟩, hS.F ht⟩) hS.2.2 dX11_counted_81

set_option maxHeartbeats 4000000 in
set_option maxRecDepth 100000 in
theorem cw_counted5 (l : Launch) (D : va_G) (y : Nat → ClassId) (mo : Nat) (to : Nat) (ke : Nat) (ik : Nat) (rf : Nat) (ha : Nat) (r0 : Nat) (br : Nat) (bp : Nat) (bys : Nat) (an : Nat) (va : Nat) : kw_Mi l yX11_counted wsX11_counted ({ frames := 1, cells := 0, slots := 0, locals := 40 }) D y [.ref mo, .int 5] [(mo, .inr (11, [.ref to, .ref ke, .ref ik, .ref rf, .long 0, .long 1, .ref ha, .ref r0, .ref br, .ref bp, .ref bys, .int 0, .int 0, .int 0, .int 0, .int 0, .ref an, .ref va])), (to, .inl (y 0, 228, .inl (fun _ => 0)))] (fun (r : Int32) (u : Unit) => r = 0) (fun _ => [(mo, .inr (11, [.ref to, .ref ke, .ref ik, .ref rf, .long 0, .long 1, .ref ha, .ref r0, .ref br, .ref bp, .ref bys, .int 0, .int 0, .int 0, .int 0, .int 0, .ref an, .ref va])), (to, .inl (y 0, 228, .inl (fun _ => 0)))]) 0 0 := by
  refine kw_Mi.of (cc := cX11_counted) (maxL := 2) (ret := (some .int)) (by decide) rfl ?_
  intro pZ eZ s mZ beZ meZ cZ A hE
  obtain ⟨hx, hb, hr, hml, hts, hown, hlocks, hin, hA, hP, hD, hK, hN⟩ := hE
  have hS : va_S A s.heap s.heap [] := va_S.rf
  have hl := lv_entry ([.ref mo, .int 5]) (n := 2) (Nat.le_of_ble_eq_true rfl)
  rw [lg_entry_eq]
  generalize (lg_sl ([.ref mo, .int 5]) ++ List.replicate (2 - (lg_sl ([.ref mo, .int 5])).length) Slot.unset).toArray = ls at hl ⊢
  have hl : lv_has ls 2 [(0, .ref mo), (1, .int 5)] := hl
  have fw1 := hts (.fieldLink RX11 7 "GleanDuskModel" "told" "[I") (List.mem_of_getElem? (i := 1) rfl)
  have i11 : ∀ w ∈ wsX110, w ∈ wsX11_counted := fun _ h => List.mem_cons_of_mem _ (List.mem_append_right _ h)
  refine lv_iload_n hx hb dX11_counted_0 rfl (lv_at hl 1 rfl) ?_
  refine lv_tableIn (off := 81) (tgt := 82) hx hb dX11_counted_1 (by decide) (by decide) (by decide +kernel) (by decide) ?_
  refine lv_aload_n hx hb dX11_counted_82 rfl (lv_at hl 0 rfl) ?_
  refine va_get (D := D) (ci := 11) (v := .ref to) (C := RX11) (T := TX11) (N := 18) hx hb hts i11 hown hK hP 0 rfl rfl 0 (by decide) fw1 (fun _ h9 => h9) rfl dX11_counted_83 ?_
  refine lv_iconst (v := 2) hx hb dX11_counted_86 (by decide) ?_
  refine va_iald hx hb hK hP 1 0 rfl rfl (by unfold vp_in; decide) dX11_counted_87 ?_
  refine lv_topi (fun z1 hz1 => ?_)
  obtain rfl : z1 = 0 := hz1.trans (by first | rfl | decide | assumption | (simp [upd]; done) | (unfold upd; rw [if_neg (by decide)]; assumption) | (simp [upd, *]; done))
  exact W.iret (v := 0) hx hb hr (fun tZ ht hW => ⟨⟨0, (), rfl, rfl, by rw [ht]; exact hP.sub [0, 1] rfl, hD.sub [0, 1] (by decide) rfl⟩, hS.F ht⟩) hS.2.2 dX11_counted_88

set_option maxHeartbeats 4000000 in
set_option maxRecDepth 100000 in
theorem cw_counted6 (l : Launch) (D : va_G) (y : Nat → ClassId) (mo : Nat) (to : Nat) (ke : Nat) (ik : Nat) (rf : Nat) (ha : Nat) (r0 : Nat) (br : Nat) (bp : Nat) (bys : Nat) (an : Nat) (va : Nat) : kw_Mi l yX11_counted wsX11_counted ({ frames := 1, cells := 0, slots := 0, locals := 40 }) D y [.ref mo, .int 6] [(mo, .inr (11, [.ref to, .ref ke, .ref ik, .ref rf, .long 0, .long 1, .ref ha, .ref r0, .ref br, .ref bp, .ref bys, .int 0, .int 0, .int 0, .int 0, .int 0, .ref an, .ref va])), (to, .inl (y 0, 228, .inl (fun _ => 0)))] (fun (r : Int32) (u : Unit) => r = 0) (fun _ => [(mo, .inr (11, [.ref to, .ref ke, .ref ik, .ref rf, .long 0, .long 1, .ref ha, .ref r0, .ref br, .ref bp, .ref bys, .int 0, .int 0, .int 0, .int 0, .int 0, .ref an, .ref va])), (to, .inl (y 0, 228, .inl (fun _ => 0)))]) 0 0 := by
  refine kw_Mi.of (cc := cX11_counted) (maxL := 2) (ret := (some .int)) (by decide) rfl ?_
  intro pZ eZ s mZ beZ meZ cZ A hE
  obtain ⟨hx, hb, hr, hml, hts, hown, hlocks, hin, hA, hP, hD, hK, hN⟩ := hE
  have hS : va_S A s.heap s.heap [] := va_S.rf
  have hl := lv_entry ([.ref mo, .int 6]) (n := 2) (Nat.le_of_ble_eq_true rfl)
  rw [lg_entry_eq]
  generalize (lg_sl ([.ref mo, .int 6]) ++ List.replicate (2 - (lg_sl ([.ref mo, .int 6])).length) Slot.unset).toArray = ls at hl ⊢
  have hl : lv_has ls 2 [(0, .ref mo), (1, .int 6)] := hl
  have fw1 := hts (.fieldLink RX11 7 "GleanDuskModel" "told" "[I") (List.mem_of_getElem? (i := 1) rfl)
  have i11 : ∀ w ∈ wsX110, w ∈ wsX11_counted := fun _ h => List.mem_cons_of_mem _ (List.mem_append_right _ h)
  refine lv_iload_n hx hb dX11_counted_0 rfl (lv_at hl 1 rfl) ?_
  refine lv_tableIn (off := 88) (tgt := 89) hx hb dX11_counted_1 (by decide) (by decide) (by decide +kernel) (by decide) ?_
  refine lv_aload_n hx hb dX11_counted_89 rfl (lv_at hl 0 rfl) ?_
  refine va_get (D := D) (ci := 11) (v := .ref to) (C := RX11) (T := TX11) (N := 18) hx hb hts i11 hown hK hP 0 rfl rfl 0 (by decide) fw1 (fun _ h9 => h9) rfl dX11_counted_90 ?_
  refine lv_iconst (v := 3) hx hb dX11_counted_93 (by decide) ?_
  refine va_iald hx hb hK hP 1 0 rfl rfl (by unfold vp_in; decide) dX11_counted_94 ?_
  refine lv_topi (fun z1 hz1 => ?_)
  obtain rfl : z1 = 0 := hz1.trans (by first | rfl | decide | assumption | (simp [upd]; done) | (unfold upd; rw [if_neg (by decide)]; assumption) | (simp [upd, *]; done))
  exact W.iret (v := 0) hx hb hr (fun tZ ht hW => ⟨⟨0, (), rfl, rfl, by rw [ht]; exact hP.sub [0, 1] rfl, hD.sub [0, 1] (by decide) rfl⟩, hS.F ht⟩) hS.2.2 dX11_counted_95

set_option maxHeartbeats 4000000 in
set_option maxRecDepth 100000 in
theorem cw_counted7 (l : Launch) (D : va_G) (y : Nat → ClassId) (mo : Nat) (to : Nat) (ke : Nat) (ik : Nat) (rf : Nat) (ha : Nat) (r0 : Nat) (br : Nat) (bp : Nat) (bys : Nat) (an : Nat) (va : Nat) : kw_Mi l yX11_counted wsX11_counted ({ frames := 1, cells := 0, slots := 0, locals := 40 }) D y [.ref mo, .int 7] [(mo, .inr (11, [.ref to, .ref ke, .ref ik, .ref rf, .long 0, .long 1, .ref ha, .ref r0, .ref br, .ref bp, .ref bys, .int 0, .int 0, .int 0, .int 0, .int 0, .ref an, .ref va])), (to, .inl (y 0, 228, .inl (fun _ => 0)))] (fun (r : Int32) (u : Unit) => r = 0) (fun _ => [(mo, .inr (11, [.ref to, .ref ke, .ref ik, .ref rf, .long 0, .long 1, .ref ha, .ref r0, .ref br, .ref bp, .ref bys, .int 0, .int 0, .int 0, .int 0, .int 0, .ref an, .ref va])), (to, .inl (y 0, 228, .inl (fun _ => 0)))]) 0 0 := by
  refine kw_Mi.of (cc := cX11_counted) (maxL := 2) (ret := (some .int)) (by decide) rfl ?_
  intro pZ eZ s mZ beZ meZ cZ A hE
  obtain ⟨hx, hb, hr, hml, hts, hown, hlocks, hin, hA, hP, hD, hK, hN⟩ := hE
  have hS : va_S A s.heap s.heap [] := va_S.rf
  have hl := lv_entry ([.ref mo, .int 7]) (n := 2) (Nat.le_of_ble_eq_true rfl)
  rw [lg_entry_eq]
  generalize (lg_sl ([.ref mo, .int 7]) ++ List.replicate (2 - (lg_sl ([.ref mo, .int 7])).length) Slot.unset).toArray = ls at hl ⊢
  have hl : lv_has ls 2 [(0, .ref mo), (1, .int 7)] := hl
  have fw1 := hts (.fieldLink RX11 7 "GleanDuskModel" "told" "[I") (List.mem_of_getElem? (i := 1) rfl)
  have i11 : ∀ w ∈ wsX110, w ∈ wsX11_counted := fun _ h => List.mem_cons_of_mem _ (List.mem_append_right _ h)
  refine lv_iload_n hx hb dX11_counted_0 rfl (lv_at hl 1 rfl) ?_
  refine lv_tableIn (off := 95) (tgt := 96) hx hb dX11_counted_1 (by decide) (by decide) (by decide +kernel) (by decide) ?_
  refine lv_aload_n hx hb dX11_counted_96 rfl (lv_at hl 0 rfl) ?_
  refine va_get (D := D) (ci := 11) (v := .ref to) (C := RX11) (T := TX11) (N := 18) hx hb hts i11 hown hK hP 0 rfl rfl 0 (by decide) fw1 (fun _ h9 => h9) rfl dX11_counted_97 ?_
  refine lv_iconst (v := 4) hx hb dX11_counted_100 (by decide) ?_
  refine va_iald hx hb hK hP 1 0 rfl rfl (by unfold vp_in; decide) dX11_counted_101 ?_
  refine lv_topi (fun z1 hz1 => ?_)
  obtain rfl : z1 = 0 := hz1.trans (by first | rfl | decide | assumption | (simp [upd]; done) | (unfold upd; rw [if_neg (by decide)]; assumption) | (simp [upd, *]; done))
  exact W.iret (v := 0) hx hb hr (fun tZ ht hW => ⟨⟨0, (), rfl, rfl, by rw [ht]; exact hP.sub [0, 1] rfl, hD.sub [0, 1] (by decide) rfl⟩, hS.F ht⟩) hS.2.2 dX11_counted_102

set_option maxHeartbeats 4000000 in
set_option maxRecDepth 100000 in
theorem cw_counted8 (l : Launch) (D : va_G) (y : Nat → ClassId) (mo : Nat) (to : Nat) (ke : Nat) (ik : Nat) (rf : Nat) (ha : Nat) (r0 : Nat) (br : Nat) (bp : Nat) (bys : Nat) (an : Nat) (va : Nat) : kw_Mi l yX11_counted wsX11_counted ({ frames := 1, cells := 0, slots := 0, locals := 40 }) D y [.ref mo, .int 8] [(mo, .inr (11, [.ref to, .ref ke, .ref ik, .ref rf, .long 0, .long 1, .ref ha, .ref r0, .ref br, .ref bp, .ref bys, .int 0, .int 0, .int 0, .int 0, .int 0, .ref an, .ref va])), (to, .inl (y 0, 228, .inl (fun _ => 0)))] (fun (r : Int32) (u : Unit) => r = 0) (fun _ => [(mo, .inr (11, [.ref to, .ref ke, .ref ik, .ref rf, .long 0, .long 1, .ref ha, .ref r0, .ref br, .ref bp, .ref bys, .int 0, .int 0, .int 0, .int 0, .int 0, .ref an, .ref va])), (to, .inl (y 0, 228, .inl (fun _ => 0)))]) 0 0 := by
  refine kw_Mi.of (cc := cX11_counted) (maxL := 2) (ret := (some .int)) (by decide) rfl ?_
  intro pZ eZ s mZ beZ meZ cZ A hE
  obtain ⟨hx, hb, hr, hml, hts, hown, hlocks, hin, hA, hP, hD, hK, hN⟩ := hE
  have hS : va_S A s.heap s.heap [] := va_S.rf
  have hl := lv_entry ([.ref mo, .int 8]) (n := 2) (Nat.le_of_ble_eq_true rfl)
  rw [lg_entry_eq]
  generalize (lg_sl ([.ref mo, .int 8]) ++ List.replicate (2 - (lg_sl ([.ref mo, .int 8])).length) Slot.unset).toArray = ls at hl ⊢
  have hl : lv_has ls 2 [(0, .ref mo), (1, .int 8)] := hl
  have fw1 := hts (.fieldLink RX11 210 "GleanDuskModel" "bytesLong" "I") (List.mem_of_getElem? (i := 2) rfl)
  have i11 : ∀ w ∈ wsX110, w ∈ wsX11_counted := fun _ h => List.mem_cons_of_mem _ (List.mem_append_right _ h)
  refine lv_iload_n hx hb dX11_counted_0 rfl (lv_at hl 1 rfl) ?_
  refine lv_tableOut (tgt := 103) hx hb dX11_counted_1 (by decide) (by decide) ?_
  refine lv_aload_n hx hb dX11_counted_103 rfl (lv_at hl 0 rfl) ?_
  refine va_get (D := D) (ci := 11) (v := .int 0) (C := RX11) (T := TX11) (N := 18) hx hb hts i11 hown hK hP 0 rfl rfl 11 (by decide) fw1 (fun _ h9 => h9) rfl dX11_counted_104 ?_
  exact W.iret (v := 0) hx hb hr (fun tZ ht hW => ⟨⟨0, (), rfl, rfl, by rw [ht]; exact hP.sub [0, 1] rfl, hD.sub [0, 1] (by decide) rfl⟩, hS.F ht⟩) hS.2.2 dX11_counted_107

set_option maxHeartbeats 4000000 in
set_option maxRecDepth 100000 in
theorem cw_sums (l : Launch) (D : va_G) (y : Nat → ClassId) (mo : Nat) (to : Nat) (ke : Nat) (ik : Nat) (rf : Nat) (ha : Nat) (r0 : Nat) (br : Nat) (bp : Nat) (bys : Nat) (an : Nat) (va : Nat) (h : Int64) (x : Int32) : kw_Ml l yX11_sums wsX11_sums ({ frames := 1, cells := 0, slots := 0, locals := 40 }) D y [.ref mo, .long h, .int x, .int 0] [(mo, .inr (11, [.ref to, .ref ke, .ref ik, .ref rf, .long 0, .long 1, .ref ha, .ref r0, .ref br, .ref bp, .ref bys, .int 0, .int 0, .int 0, .int 0, .int 0, .ref an, .ref va])), (to, .inl (y 0, 228, .inl (fun _ => 0)))] (fun (r : Int64) (u : Unit) => r = h) (fun _ => [(mo, .inr (11, [.ref to, .ref ke, .ref ik, .ref rf, .long 0, .long 1, .ref ha, .ref r0, .ref br, .ref bp, .ref bys, .int 0, .int 0, .int 0, .int 0, .int 0, .ref an, .ref va])), (to, .inl (y 0, 228, .inl (fun _ => 0)))]) 0 0 := by
  refine kw_Ml.of (cc := cX11_sums) (maxL := 8) (ret := (some .long)) (by decide) rfl ?_
  intro pZ eZ s mZ beZ meZ cZ A hE
  obtain ⟨hx, hb, hr, hml, hts, hown, hlocks, hin, hA, hP, hD, hK, hN⟩ := hE
  have hS : va_S A s.heap s.heap [] := va_S.rf
  have hl := lv_entry ([.ref mo, .long h, .int x, .int 0]) (n := 8) (Nat.le_of_ble_eq_true rfl)
  rw [lg_entry_eq]
  generalize (lg_sl ([.ref mo, .long h, .int x, .int 0]) ++ List.replicate (8 - (lg_sl ([.ref mo, .long h, .int x, .int 0])).length) Slot.unset).toArray = ls at hl ⊢
  have hl : lv_has ls 8 [(0, .ref mo), (1, .long h), (3, .int x), (4, .int 0)] := hl
  refine lv_lload_n hx hb dX11_sums_0 rfl (lv_at hl 1 rfl) ?_
  refine lv_lstore (lv' := [(5, .long h), (0, .ref mo), (1, .long h), (3, .int x), (4, .int 0)]) hx hb dX11_sums_1 hl (by decide) rfl (fun ls hl => ?_)
  refine lv_iconst (v := 0) hx hb dX11_sums_3 (by decide) ?_
  refine lv_istore (lv' := [(7, .int 0), (5, .long h), (0, .ref mo), (1, .long h), (3, .int x), (4, .int 0)]) hx hb dX11_sums_4 hl (by decide) rfl (fun ls hl => ?_)
  refine lv_iload hx hb dX11_sums_6 (lv_at hl 0 rfl) ?_
  refine lv_iload hx hb dX11_sums_8 (lv_at hl 5 rfl) ?_
  refine lv_icmp_ge (tgt := 38) hx hb dX11_sums_10 (by decide) (fun _ => ?_) (fun h9 => absurd h9 (by decide))
  refine lv_lload hx hb dX11_sums_38 (lv_at hl 1 rfl) ?_
  exact W.lret (v := h) hx hb hr (fun tZ ht hW => ⟨⟨h, (), rfl, rfl, by rw [ht]; exact hP.sub [0, 1] rfl, hD.sub [0, 1] (by decide) rfl⟩, hS.F ht⟩) hS.2.2 dX11_sums_40
