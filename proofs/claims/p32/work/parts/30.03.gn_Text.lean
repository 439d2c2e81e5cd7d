set_option maxHeartbeats 4000000 in
set_option maxRecDepth 100000 in
theorem gn_Text (l : Launch) (D : va_G) (y : Nat → ClassId) (o : Nat)  : kw_Mv l yX7_init wsX7_init ({ frames := 1, cells := 4, slots := 225, locals := 60 }) D y [.ref o] [(o, .inr (7, [.null, .int 0, .int 0, .int 0, .int 0, .int 0, .null, .null, .null, .int 0, .int 0, .int 0]))] (fun (u : Nat → Nat) => True) (fun u => [(o, .inr (7, [.ref (u 0), .int 0, .int 0, .int 0, .int 0, .int 0, .ref (u 1), .ref (u 2), .ref (u 3), .int 0, .int 0, .int 0])), ((u 0), .inl (y 1, 150, .inl (fun _ => 0))), ((u 1), .inl (y 0, 25, .inl (fun _ => 0))), ((u 2), .inl (y 0, 25, .inl (fun _ => 0))), ((u 3), .inl (y 0, 25, .inl (fun _ => 0)))]) 4 225 := by
  refine kw_Mv.of (cc := cX7_init) (maxL := 1) (ret := none) (by decide) rfl ?_
  intro pZ eZ s mZ beZ meZ cZ A hE
  obtain ⟨hx, hb, hr, hml, hts, hown, hlocks, hin, hA, hP, hD, hK, hN⟩ := hE
  have hS : va_S A s.heap s.heap [] := va_S.rf
  have hl := lv_entry ([.ref o]) (n := 1) (Nat.le_of_ble_eq_true rfl)
  rw [lg_entry_eq]
  generalize (lg_sl ([.ref o]) ++ List.replicate (1 - (lg_sl ([.ref o])).length) Slot.unset).toArray = ls at hl ⊢
  have hl : lv_has ls 1 [(0, .ref o)] := hl
  have fw1 := hts (.methodLink RX7 3 objectInit) (List.mem_of_getElem? (i := 1) rfl)
  have fw2 := hts (.instanceMethod objectInit) (List.mem_of_getElem? (i := 2) rfl)
  have fw3 := hts (.code objectInit ⟨#[0xb1]⟩ 1 none) (List.mem_of_getElem? (i := 3) rfl)
  have fw4 := hts (.arrayClass .byte) (List.mem_of_getElem? (i := 4) rfl)
  have fw5 := hts (.fieldLink RX7 9 "GleanDusk$Text" "bytes" "[B") (List.mem_of_getElem? (i := 5) rfl)
  have fw6 := hts (.arrayClass .int) (List.mem_of_getElem? (i := 6) rfl)
  have fw7 := hts (.fieldLink RX7 15 "GleanDusk$Text" "words" "[I") (List.mem_of_getElem? (i := 7) rfl)
  have fw8 := hts (.fieldLink RX7 19 "GleanDusk$Text" "first" "[I") (List.mem_of_getElem? (i := 8) rfl)
  have fw9 := hts (.fieldLink RX7 22 "GleanDusk$Text" "second" "[I") (List.mem_of_getElem? (i := 9) rfl)
  have iw7 : ∀ w ∈ wsX70, w ∈ wsX7_init := fun _ h => List.mem_cons_of_mem _ (List.mem_append_right _ h)
  refine lv_aload_n hx hb dX7_init_0 rfl (lv_at hl 0 rfl) ?_
  refine W.objInit hx hb hown fw1 fw2 fw3 rfl (by rw [hml]; exact hl.1) rfl dX7_init_1 (Nat.le_of_ble_eq_true rfl) (Nat.le_of_ble_eq_true rfl) ?_
  refine W.eq (g2 := F0 mZ 4 ls []) rfl ?_
  refine lv_aload_n hx hb dX7_init_4 rfl (lv_at hl 0 rfl) ?_
  refine lv_sipush (v := 150) hx hb dX7_init_5 (by decide) ?_
  refine va_newa (atype := .byte) (ty := .byte) (N' := 150) (a0 := (150, .inl (fun _ => 0))) hx hb fw4 rfl hK hP hD hS hA (fun _ => rfl) (by decide) (by decide) (by decide) (Nat.le_of_ble_eq_true rfl) (Nat.le_of_ble_eq_true rfl) dX7_init_8 (fun q1 cA H hK9 hP hD hS => ?_)
  obtain rfl : cA = y 1 := kw_cls hK9 (i := 7) (j := 1) rfl rfl
  have hP : va_P D vwCl [(o, .inr (7, [.null, .int 0, .int 0, .int 0, .int 0, .int 0, .null, .null, .null, .int 0, .int 0, .int 0])), (q1, .inl (y 1, 150, .inl (fun _ => 0)))] H := hP
  have hD : va_D A [(o, .inr (7, [.null, .int 0, .int 0, .int 0, .int 0, .int 0, .null, .null, .null, .int 0, .int 0, .int 0])), (q1, .inl (y 1, 150, .inl (fun _ => 0)))] := hD
  refine W.widen (k := 1) (n := 150) (Nat.le_of_ble_eq_true rfl) (Nat.le_of_ble_eq_true rfl) ?_
  refine va_putF (D := D) (ci := 7) (v := .ref q1) (ty := .array .byte) (C := RX7) (T := TX7) (N := 12) hx hb hts iw7 tyX7 tyX7_ok nmX7 hown hK hP hD hS 0 rfl rfl 0 (by decide) fw5 (fun _ h9 => h9) rfl hin rfl (by decide +kernel) rfl rfl (Nat.le_of_ble_eq_true rfl) dX7_init_10 (fun H locs hP hD hS => ?_)
  have hP : va_P D vwCl [(o, .inr (7, [.ref q1, .int 0, .int 0, .int 0, .int 0, .int 0, .null, .null, .null, .int 0, .int 0, .int 0])), (q1, .inl (y 1, 150, .inl (fun _ => 0)))] H := hP
  have hD : va_D A [(o, .inr (7, [.ref q1, .int 0, .int 0, .int 0, .int 0, .int 0, .null, .null, .null, .int 0, .int 0, .int 0])), (q1, .inl (y 1, 150, .inl (fun _ => 0)))] := hD
  refine lv_aload_n hx hb dX7_init_13 rfl (lv_at hl 0 rfl) ?_
  refine lv_bipush (v := 25) hx hb dX7_init_14 (by decide) ?_
  refine va_newa (atype := .int) (ty := .int) (N' := 25) (a0 := (25, .inl (fun _ => 0))) hx hb fw6 rfl hK hP hD hS hA (fun _ => rfl) (by decide) (by decide) (by decide) (Nat.le_of_ble_eq_true rfl) (Nat.le_of_ble_eq_true rfl) dX7_init_16 (fun q2 cA H hK9 hP hD hS => ?_)
  obtain rfl : cA = y 0 := kw_cls hK9 (i := 7) (j := 0) rfl rfl
  have hP : va_P D vwCl [(o, .inr (7, [.ref q1, .int 0, .int 0, .int 0, .int 0, .int 0, .null, .null, .null, .int 0, .int 0, .int 0])), (q1, .inl (y 1, 150, .inl (fun _ => 0))), (q2, .inl (y 0, 25, .inl (fun _ => 0)))] H := hP
  have hD : va_D A [(o, .inr (7, [.ref q1, .int 0, .int 0, .int 0, .int 0, .int 0, .null, .null, .null, .int 0, .int 0, .int 0])), (q1, .inl (y 1, 150, .inl (fun _ => 0))), (q2, .inl (y 0, 25, .inl (fun _ => 0)))] := hD
  refine W.widen (k := 2) (n := 175) (Nat.le_of_ble_eq_true rfl) (Nat.le_of_ble_eq_true rfl) ?_
  refine va_putF (D := D) (ci := 7) (v := .ref q2) (ty := .array .int) (C := RX7) (T := TX7) (N := 12) hx hb hts iw7 tyX7 tyX7_ok nmX7 hown hK hP hD hS 0 rfl rfl 6 (by decide) fw7 (fun _ h9 => h9) rfl hin rfl (by decide +kernel) rfl rfl (Nat.le_of_ble_eq_true rfl) dX7_init_18 (fun H locs hP hD hS => ?_)
  have hP : va_P D vwCl [(o, .inr (7, [.ref q1, .int 0, .int 0, .int 0, .int 0, .int 0, .ref q2, .null, .null, .int 0, .int 0, .int 0])), (q1, .inl (y 1, 150, .inl (fun _ => 0))), (q2, .inl (y 0, 25, .inl (fun _ => 0)))] H := hP
  have hD : va_D A [(o, .inr (7, [.ref q1, .int 0, .int 0, .int 0, .int 0, .int 0, .ref q2, .null, .null, .int 0, .int 0, .int 0])), (q1, .inl (y 1, 150, .inl (fun _ => 0))), (q2, .inl (y 0, 25, .inl (fun _ => 0)))] := hD
  refine lv_aload_n hx hb dX7_init_21 rfl (lv_at hl 0 rfl) ?_
  refine lv_bipush (v := 25) hx hb dX7_init_22 (by decide) ?_
  refine va_newa (atype := .int) (ty := .int) (N' := 25) (a0 := (25, .inl (fun _ => 0))) hx hb fw6 rfl hK hP hD hS hA (fun _ => rfl) (by decide) (by decide) (by decide) (Nat.le_of_ble_eq_true rfl) (Nat.le_of_ble_eq_true rfl) dX7_init_24 (fun q3 cA H hK9 hP hD hS => ?_)
  obtain rfl : cA = y 0 := kw_cls hK9 (i := 7) (j := 0) rfl rfl
  have hP : va_P D vwCl [(o, .inr (7, [.ref q1, .int 0, .int 0, .int 0, .int 0, .int 0, .ref q2, .null, .null, .int 0, .int 0, .int 0])), (q1, .inl (y 1, 150, .inl (fun _ => 0))), (q2, .inl (y 0, 25, .inl (fun _ => 0))), (q3, .inl (y 0, 25, .inl (fun _ => 0)))] H := hP
  have hD : va_D A [(o, .inr (7, [.ref q1, .int 0, .int 0, .int 0, .int 0, .int 0, .ref q2, .null, .null, .int 0, .int 0, .int 0])), (q1, .inl (y 1, 150, .inl (fun _ => 0))), (q2, .inl (y 0, 25, .inl (fun _ => 0))), (q3, .inl (y 0, 25, .inl (fun _ => 0)))] := hD
  refine W.widen (k := 3) (n := 200) (Nat.le_of_ble_eq_true rfl) (Nat.le_of_ble_eq_true rfl) ?_
  refine va_putF (D := D) (ci := 7) (v := .ref q3) (ty := .array .int) (C := RX7) (T := TX7) (N := 12) hx hb hts iw7 tyX7 tyX7_ok nmX7 hown hK hP hD hS 0 rfl rfl 7 (by decide) fw8 (fun _ h9 => h9) rfl hin rfl (by decide +kernel) rfl rfl (Nat.le_of_ble_eq_true rfl) dX7_init_26 (fun H locs hP hD hS => ?_)
  have hP : va_P D vwCl [(o, .inr (7, [.ref q1, .int 0, .int 0, .int 0, .int 0, .int 0, .ref q2, .ref q3, .null, .int 0, .int 0, .int 0])), (q1, .inl (y 1, 150, .inl (fun _ => 0))), (q2, .inl (y 0, 25, .inl (fun _ => 0))), (q3, .inl (y 0, 25, .inl (fun _ => 0)))] H := hP
  have hD : va_D A [(o, .inr (7, [.ref q1, .int 0, .int 0, .int 0, .int 0, .int 0, .ref q2, .ref q3, .null, .int 0, .int 0, .int 0])), (q1, .inl (y 1, 150, .inl (fun _ => 0))), (q2, .inl (y 0, 25, .inl (fun _ => 0))), (q3, .inl (y 0, 25, .inl (fun _ => 0)))] := hD
  refine lv_aload_n hx hb dX7_init_29 rfl (lv_at hl 0 rfl) ?_
  refine lv_bipush (v := 25) hx hb dX7_init_30 (by decide) ?_
  refine va_newa (atype := .int) (ty := .int) (N' := 25) (a0 := (25, .inl (fun _ => 0))) hx hb fw6 rfl hK hP hD hS hA (fun _ => rfl) (by decide) (by decide) (by decide) (Nat.le_of_ble_eq_true rfl) (Nat.le_of_ble_eq_true rfl) dX7_init_32 (fun q4 cA H hK9 hP hD hS => ?_)
  obtain rfl : cA = y 0 := kw_cls hK9 (i := 7) (j := 0) rfl rfl
  have hP : va_P D vwCl [(o, .inr (7, [.ref q1, .int 0, .int 0, .int 0, .int 0, .int 0, .ref q2, .ref q3, .null, .int 0, .int 0, .int 0])), (q1, .inl (y 1, 150, .inl (fun _ => 0))), (q2, .inl (y 0, 25, .inl (fun _ => 0))), (q3, .inl (y 0, 25, .inl (fun _ => 0))), (q4, .inl (y 0, 25, .inl (fun _ => 0)))] H := hP
  have hD : va_D A [(o, .inr (7, [.ref q1, .int 0, .int 0, .int 0, .int 0, .int 0, .ref q2, .ref q3, .null, .int 0, .int 0, .int 0])), (q1, .inl (y 1, 150, .inl (fun _ => 0))), (q2, .inl (y 0, 25, .inl (fun _ => 0))), (q3, .inl (y 0, 25, .inl (fun _ => 0))), (q4, .inl (y 0, 25, .inl (fun _ => 0)))] := hD
  refine W.widen (k := 4) (n := 225) (Nat.le_of_ble_eq_true rfl) (Nat.le_of_ble_eq_true rfl) ?_
  refine va_putF (D := D) (ci := 7) (v := .ref q4) (ty := .array .int) (C := RX7) (T := TX7) (N := 12) hx hb hts iw7 tyX7 tyX7_ok nmX7 hown hK hP hD hS 0 rfl rfl 8 (by decide) fw9 (fun _ h9 => h9) rfl hin rfl (by decide +kernel) rfl rfl (Nat.le_of_ble_eq_true rfl) dX7_init_34 (fun H locs hP hD hS => ?_)
  have hP : va_P D vwCl [(o, .inr (7, [.ref q1, .int 0, .int 0, .int 0, .int 0, .int 0, .ref q2, .ref q3, .ref q4, .int 0, .int 0, .int 0])), (q1, .inl (y 1, 150, .inl (fun _ => 0))), (q2, .inl (y 0, 25, .inl (fun _ => 0))), (q3, .inl (y 0, 25, .inl (fun _ => 0))), (q4, .inl (y 0, 25, .inl (fun _ => 0)))] H := hP
  have hD : va_D A [(o, .inr (7, [.ref q1, .int 0, .int 0, .int 0, .int 0, .int 0, .ref q2, .ref q3, .ref q4, .int 0, .int 0, .int 0])), (q1, .inl (y 1, 150, .inl (fun _ => 0))), (q2, .inl (y 0, 25, .inl (fun _ => 0))), (q3, .inl (y 0, 25, .inl (fun _ => 0))), (q4, .inl (y 0, 25, .inl (fun _ => 0)))] := hD
  refine W.widen (k := 4) (n := 225) (Nat.le_of_ble_eq_true rfl) (Nat.le_of_ble_eq_true rfl) ?_
  exact W.vret hx hb hr (fun tZ ht hW => ⟨⟨(fun k => [q1, q2, q3, q4].getD k 0), rfl, trivial, by rw [ht]; exact hP.sub [0, 1, 2, 3, 4] rfl, hD.sub [0, 1, 2, 3, 4] (by decide) rfl⟩, hS.F ht⟩) hS.2.2 dX7_init_37
