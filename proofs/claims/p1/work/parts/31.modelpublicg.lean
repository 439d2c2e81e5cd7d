set_option maxHeartbeats 4000000 in
set_option maxRecDepth 100000 in
theorem cq_digest (l : Launch) (D : va_G) (y : Nat → ClassId) (mo : Nat) (to : Nat) (ke : Nat) (ik : Nat) (rf : Nat) (ha : Nat) (r0 : Nat) (br : Nat) (bp : Nat) (bys : Nat) (an : Nat) (va : Nat) : kw_Ml l yX11_digest wsX11_digest ({ frames := 3, cells := 0, slots := 0, locals := 81 }) D y [.ref mo] [(mo, .inr (11, [.ref to, .ref ke, .ref ik, .ref rf, .long 0, .long 1, .ref ha, .ref r0, .ref br, .ref bp, .ref bys, .int 0, .int 0, .int 0, .int 0, .int 0, .ref an, .ref va])), (to, .inl (y 0, 228, .inl (fun _ => 0)))] (fun (r : Int64) (u : Unit) => r = (-25788170735693450)) (fun _ => []) 0 0 := by
  refine kw_Ml.of (cc := cX11_digest) (maxL := 4) (ret := (some .long)) (by decide) rfl ?_
  intro pZ eZ s mZ beZ meZ cZ A hE
  obtain ⟨hx, hb, hr, hml, hts, hown, hlocks, hin, hA, hP, hD, hK, hN⟩ := hE
  have hS : va_S A s.heap s.heap [] := va_S.rf
  have hl := lv_entry ([.ref mo]) (n := 4) (Nat.le_of_ble_eq_true rfl)
  rw [lg_entry_eq]
  generalize (lg_sl ([.ref mo]) ++ List.replicate (4 - (lg_sl ([.ref mo])).length) Slot.unset).toArray = ls at hl ⊢
  have hl : lv_has ls 4 [(0, .ref mo)] := hl
  have fw1 := hts (.constantLong RX11 281 (1451)) (List.mem_of_getElem? (i := 1) rfl)
  have fw2 := hts (.constantLong RX11 279 (31)) (List.mem_of_getElem? (i := 2) rfl)
  have fw3 := hts (.fieldLink RX11 7 "GleanDuskModel" "told" "[I") (List.mem_of_getElem? (i := 3) rfl)
  have fw4 := hts (.fieldLink RX11 189 "GleanDuskModel" "above" "J") (List.mem_of_getElem? (i := 4) rfl)
  have fw5 := hts (.fieldLink RX11 23 "GleanDuskModel" "below" "J") (List.mem_of_getElem? (i := 5) rfl)
  have i11 : ∀ w ∈ wsX110, w ∈ wsX11_digest := fun _ h => List.mem_cons_of_mem _ (List.mem_append_right _ h)
  refine lv_ldc2 (v := 1451) hx hb hown fw1 dX11_digest_0 ?_
  refine lv_lstore_n (lv' := [(1, .long 1451), (0, .ref mo)]) hx hb dX11_digest_3 rfl hl (by decide) rfl (fun ls hl => ?_)
  refine lv_iconst (v := 0) hx hb dX11_digest_4 (by decide) ?_
  refine lv_istore_n (lv' := [(3, .int 0), (1, .long 1451), (0, .ref mo)]) hx hb dX11_digest_5 rfl hl (by decide) rfl (fun ls hl => ?_)
  refine lv_iload_n hx hb dX11_digest_6 rfl (lv_at hl 0 rfl) ?_
  refine lv_bipush (v := 9) hx hb dX11_digest_7 (by decide) ?_
  refine lv_icmp_ge (tgt := 31) hx hb dX11_digest_9 (by decide) (fun h9 => absurd h9 (by decide)) (fun _ => ?_)
  refine lv_ldc2 (v := 31) hx hb hown fw2 dX11_digest_12 ?_
  refine lv_lload_n hx hb dX11_digest_15 rfl (lv_at hl 1 rfl) ?_
  refine lv_lmul hx hb dX11_digest_16 ?_
  refine lv_topl (fun z1 hz1 => ?_)
  obtain rfl : z1 = 44981 := hz1.trans (by first | rfl | decide | (simp [upd]; done))
  refine lv_aload_n hx hb dX11_digest_17 rfl (lv_at hl 2 rfl) ?_
  refine lv_iload_n hx hb dX11_digest_18 rfl (lv_at hl 0 rfl) ?_
  have hs2 : kw_Split [(mo, .inr (11, [.ref to, .ref ke, .ref ik, .ref rf, .long 0, .long 1, .ref ha, .ref r0, .ref br, .ref bp, .ref bys, .int 0, .int 0, .int 0, .int 0, .int 0, .ref an, .ref va])), (to, .inl (y 0, 228, .inl (fun _ => 0)))] [(mo, .inr (11, [.ref to, .ref ke, .ref ik, .ref rf, .long 0, .long 1, .ref ha, .ref r0, .ref br, .ref bp, .ref bys, .int 0, .int 0, .int 0, .int 0, .int 0, .ref an, .ref va])), (to, .inl (y 0, 228, .inl (fun _ => 0)))] [] [0, 1] [] := ⟨rfl, rfl, rfl, rfl, rfl, by decide⟩
  refine kw_go_i hs2 hP hD hS hA (va_runV (As := [.int 0]) (rest := [.long 44981]) ⟨hx, hb, hml, hown, hts⟩ (cw_counted0 l D y mo to ke ik rf ha r0 br bp bys an va  _) (cwV 1 hts gX11_digest_X11_counted rfl rfl rfl (by decide +kernel) ⟨Nat.le_of_ble_eq_true rfl, Nat.le_of_ble_eq_true rfl⟩) (kw_PreV (ci := 11) (q0 := 0) hs2 hP hD hK hN rfl rfl) rfl rfl hl.1 rfl (lv_room (Nat.le_of_ble_eq_true rfl)) dX11_digest_19 ⟨Nat.le_of_ble_eq_true rfl, Nat.le_of_ble_eq_true rfl⟩) (fun r u H locs hq hP hD hS => ?_)
  obtain rfl := hq
  have hP : va_P D vwCl [(mo, .inr (11, [.ref to, .ref ke, .ref ik, .ref rf, .long 0, .long 1, .ref ha, .ref r0, .ref br, .ref bp, .ref bys, .int 0, .int 0, .int 0, .int 0, .int 0, .ref an, .ref va])), (to, .inl (y 0, 228, .inl (fun _ => 0)))] H := hP
  have hD : va_D A [(mo, .inr (11, [.ref to, .ref ke, .ref ik, .ref rf, .long 0, .long 1, .ref ha, .ref r0, .ref br, .ref bp, .ref bys, .int 0, .int 0, .int 0, .int 0, .int 0, .ref an, .ref va])), (to, .inl (y 0, 228, .inl (fun _ => 0)))] := hD
  refine lv_i2l (v := 0) hx hb dX11_digest_22 (by decide) ?_
  refine lv_ladd hx hb dX11_digest_23 ?_
  refine lv_topl (fun z3 hz3 => ?_)
  obtain rfl : z3 = 44981 := hz3.trans (by first | rfl | decide | (simp [upd]; done))
  refine lv_lstore_n (lv' := [(1, .long 44981), (3, .int 0), (0, .ref mo)]) hx hb dX11_digest_24 rfl hl (by decide) rfl (fun ls hl => ?_)
  refine lv_iinc (v := 1) (lv' := [(3, .int 1), (1, .long 44981), (0, .ref mo)]) hx hb dX11_digest_25 hl (k := 1) rfl (by decide) (by decide) rfl (fun ls hl => ?_)
  refine lv_goto (tgt := 6) hx hb dX11_digest_28 (by decide) ?_
  refine lv_iload_n hx hb dX11_digest_6 rfl (lv_at hl 0 rfl) ?_
  refine lv_bipush (v := 9) hx hb dX11_digest_7 (by decide) ?_
  refine lv_icmp_ge (tgt := 31) hx hb dX11_digest_9 (by decide) (fun h9 => absurd h9 (by decide)) (fun _ => ?_)
  refine lv_ldc2 (v := 31) hx hb hown fw2 dX11_digest_12 ?_
  refine lv_lload_n hx hb dX11_digest_15 rfl (lv_at hl 1 rfl) ?_
  refine lv_lmul hx hb dX11_digest_16 ?_
  refine lv_topl (fun z4 hz4 => ?_)
  obtain rfl : z4 = 1394411 := hz4.trans (by first | rfl | decide | (simp [upd]; done))
  refine lv_aload_n hx hb dX11_digest_17 rfl (lv_at hl 2 rfl) ?_
  refine lv_iload_n hx hb dX11_digest_18 rfl (lv_at hl 0 rfl) ?_
  have hs5 : kw_Split [(mo, .inr (11, [.ref to, .ref ke, .ref ik, .ref rf, .long 0, .long 1, .ref ha, .ref r0, .ref br, .ref bp, .ref bys, .int 0, .int 0, .int 0, .int 0, .int 0, .ref an, .ref va])), (to, .inl (y 0, 228, .inl (fun _ => 0)))] [(mo, .inr (11, [.ref to, .ref ke, .ref ik, .ref rf, .long 0, .long 1, .ref ha, .ref r0, .ref br, .ref bp, .ref bys, .int 0, .int 0, .int 0, .int 0, .int 0, .ref an, .ref va])), (to, .inl (y 0, 228, .inl (fun _ => 0)))] [] [0, 1] [] := ⟨rfl, rfl, rfl, rfl, rfl, by decide⟩
  refine kw_go_i hs5 hP hD hS hA (va_runV (As := [.int 1]) (rest := [.long 1394411]) ⟨hx, hb, hml, hown, hts⟩ (cw_counted1 l D y mo to ke ik rf ha r0 br bp bys an va  _) (cwV 1 hts gX11_digest_X11_counted rfl rfl rfl (by decide +kernel) ⟨Nat.le_of_ble_eq_true rfl, Nat.le_of_ble_eq_true rfl⟩) (kw_PreV (ci := 11) (q0 := 0) hs5 hP hD hK hN rfl rfl) rfl rfl hl.1 rfl (lv_room (Nat.le_of_ble_eq_true rfl)) dX11_digest_19 ⟨Nat.le_of_ble_eq_true rfl, Nat.le_of_ble_eq_true rfl⟩) (fun r u H locs hq hP hD hS => ?_)
  obtain rfl := hq
  have hP : va_P D vwCl [(mo, .inr (11, [.ref to, .ref ke, .ref ik, .ref rf, .long 0, .long 1, .ref ha, .ref r0, .ref br, .ref bp, .ref bys, .int 0, .int 0, .int 0, .int 0, .int 0, .ref an, .ref va])), (to, .inl (y 0, 228, .inl (fun _ => 0)))] H := hP
  have hD : va_D A [(mo, .inr (11, [.ref to, .ref ke, .ref ik, .ref rf, .long 0, .long 1, .ref ha, .ref r0, .ref br, .ref bp, .ref bys, .int 0, .int 0, .int 0, .int 0, .int 0, .ref an, .ref va])), (to, .inl (y 0, 228, .inl (fun _ => 0)))] := hD
  refine lv_i2l (v := 0) hx hb dX11_digest_22 (by decide) ?_
  refine lv_ladd hx hb dX11_digest_23 ?_
  refine lv_topl (fun z6 hz6 => ?_)
  obtain rfl : z6 = 1394411 := hz6.trans (by first | rfl | decide | (simp [upd]; done))
  refine lv_lstore_n (lv' := [(1, .long 1394411), (3, .int 1), (0, .ref mo)]) hx hb dX11_digest_24 rfl hl (by decide) rfl (fun ls hl => ?_)
  refine lv_iinc (v := 2) (lv' := [(3, .int 2), (1, .long 1394411), (0, .ref mo)]) hx hb dX11_digest_25 hl (k := 1) rfl (by decide) (by decide) rfl (fun ls hl => ?_)
  refine lv_goto (tgt := 6) hx hb dX11_digest_28 (by decide) ?_
  refine lv_iload_n hx hb dX11_digest_6 rfl (lv_at hl 0 rfl) ?_
  refine lv_bipush (v := 9) hx hb dX11_digest_7 (by decide) ?_
  refine lv_icmp_ge (tgt := 31) hx hb dX11_digest_9 (by decide) (fun h9 => absurd h9 (by decide)) (fun _ => ?_)
  refine lv_ldc2 (v := 31) hx hb hown fw2 dX11_digest_12 ?_
  refine lv_lload_n hx hb dX11_digest_15 rfl (lv_at hl 1 rfl) ?_
  refine lv_lmul hx hb dX11_digest_16 ?_
  refine lv_topl (fun z7 hz7 => ?_)
  obtain rfl : z7 = 43226741 := hz7.trans (by first | rfl | decide | (simp [upd]; done))
  refine lv_aload_n hx hb dX11_digest_17 rfl (lv_at hl 2 rfl) ?_
  refine lv_iload_n hx hb dX11_digest_18 rfl (lv_at hl 0 rfl) ?_
  have hs8 : kw_Split [(mo, .inr (11, [.ref to, .ref ke, .ref ik, .ref rf, .long 0, .long 1, .ref ha, .ref r0, .ref br, .ref bp, .ref bys, .int 0, .int 0, .int 0, .int 0, .int 0, .ref an, .ref va])), (to, .inl (y 0, 228, .inl (fun _ => 0)))] [(mo, .inr (11, [.ref to, .ref ke, .ref ik, .ref rf, .long 0, .long 1, .ref ha, .ref r0, .ref br, .ref bp, .ref bys, .int 0, .int 0, .int 0, .int 0, .int 0, .ref an, .ref va])), (to, .inl (y 0, 228, .inl (fun _ => 0)))] [] [0, 1] [] := ⟨rfl, rfl, rfl, rfl, rfl, by decide⟩
  refine kw_go_i hs8 hP hD hS hA (va_runV (As := [.int 2]) (rest := [.long 43226741]) ⟨hx, hb, hml, hown, hts⟩ (cw_counted2 l D y mo to ke ik rf ha r0 br bp bys an va  _) (cwV 1 hts gX11_digest_X11_counted rfl rfl rfl (by decide +kernel) ⟨Nat.le_of_ble_eq_true rfl, Nat.le_of_ble_eq_true rfl⟩) (kw_PreV (ci := 11) (q0 := 0) hs8 hP hD hK hN rfl rfl) rfl rfl hl.1 rfl (lv_room (Nat.le_of_ble_eq_true rfl)) dX11_digest_19 ⟨Nat.le_of_ble_eq_true rfl, Nat.le_of_ble_eq_true rfl⟩) (fun r u H locs hq hP hD hS => ?_)
  obtain rfl := hq
  have hP : va_P D vwCl [(mo, .inr (11, [.ref to, .ref ke, .ref ik, .ref rf, .long 0, .long 1, .ref ha, .ref r0, .ref br, .ref bp, .ref bys, .int 0, .int 0, .int 0, .int 0, .int 0, .ref an, .ref va])), (to, .inl (y 0, 228, .inl (fun _ => 0)))] H := hP
  have hD : va_D A [(mo, .inr (11, [.ref to, .ref ke, .ref ik, .ref rf, .long 0, .long 1, .ref ha, .ref r0, .ref br, .ref bp, .ref bys, .int 0, .int 0, .int 0, .int 0, .int 0, .ref an, .ref va])), (to, .inl (y 0, 228, .inl (fun _ => 0)))] := hD
  refine lv_i2l (v := 0) hx hb dX11_digest_22 (by decide) ?_
  refine lv_ladd hx hb dX11_digest_23 ?_
  refine lv_topl (fun z9 hz9 => ?_)
  obtain rfl : z9 = 43226741 := hz9.trans (by first | rfl | decide | (simp [upd]; done))
  refine lv_lstore_n (lv' := [(1, .long 43226741), (3, .int 2), (0, .ref mo)]) hx hb dX11_digest_24 rfl hl (by decide) rfl (fun ls hl => ?_)
  refine lv_iinc (v := 3) (lv' := [(3, .int 3), (1, .long 43226741), (0, .ref mo)]) hx hb dX11_digest_25 hl (k := 1) rfl (by decide) (by decide) rfl (fun ls hl => ?_)
  refine lv_goto (tgt := 6) hx hb dX11_digest_28 (by decide) ?_
  refine lv_iload_n hx hb dX11_digest_6 rfl (lv_at hl 0 rfl) ?_
  refine lv_bipush (v := 9) hx hb dX11_digest_7 (by decide) ?_
  refine lv_icmp_ge (tgt := 31) hx hb dX11_digest_9 (by decide) (fun h9 => absurd h9 (by decide)) (fun _ => ?_)
  refine lv_ldc2 (v := 31) hx hb hown fw2 dX11_digest_12 ?_
  refine lv_lload_n hx hb dX11_digest_15 rfl (lv_at hl 1 rfl) ?_
  refine lv_lmul hx hb dX11_digest_16 ?_
  refine lv_topl (fun z10 hz10 => ?_)
  obtain rfl : z10 = 1340028971 := hz10.trans (by first | rfl | decide | (simp [upd]; done))
  refine lv_aload_n hx hb dX11_digest_17 rfl (lv_at hl 2 rfl) ?_
  refine lv_iload_n hx hb dX11_digest_18 rfl (lv_at hl 0 rfl) ?_
  have hs11 : kw_Split [(mo, .inr (11, [.ref to, .ref ke, .ref ik, .ref rf, .long 0, .long 1, .ref ha, .ref r0, .ref br, .ref bp, .ref bys, .int 0, .int 0, .int 0, .int 0, .int 0, .ref an, .ref va])), (to, .inl (y 0, 228, .inl (fun _ => 0)))] [(mo, .inr (11, [.ref to, .ref ke, .ref ik, .ref rf, .long 0, .long 1, .ref ha, .ref r0, .ref br, .ref bp, .ref bys, .int 0, .int 0, .int 0, .int 0, .int 0, .ref an, .ref va])), (to, .inl (y 0, 228, .inl (fun _ => 0)))] [] [0, 1] [] := ⟨rfl, rfl, rfl, rfl, rfl, by decide⟩
  refine kw_go_i hs11 hP hD hS hA (va_runV (As := [.int 3]) (rest := [.long 1340028971]) ⟨hx, hb, hml, hown, hts⟩ (cw_counted3 l D y mo to ke ik rf ha r0 br bp bys an va  _) (cwV 1 hts gX11_digest_X11_counted rfl rfl rfl (by decide +kernel) ⟨Nat.le_of_ble_eq_true rfl, Nat.le_of_ble_eq_true rfl⟩) (kw_PreV (ci := 11) (q0 := 0) hs11 hP hD hK hN rfl rfl) rfl rfl hl.1 rfl (lv_room (Nat.le_of_ble_eq_true rfl)) dX11_digest_19 ⟨Nat.le_of_ble_eq_true rfl, Nat.le_of_ble_eq_true rfl⟩) (fun r u H locs hq hP hD hS => ?_)
  obtain rfl := hq
  have hP : va_P D vwCl [(mo, .inr (11, [.ref to, .ref ke, .ref ik, .ref rf, .long 0, .long 1, .ref ha, .ref r0, .ref br, .ref bp, .ref bys, .int 0, .int 0, .int 0, .int 0, .int 0, .ref an, .ref va])), (to, .inl (y 0, 228, .inl (fun _ => 0)))] H := hP
  have hD : va_D A [(mo, .inr (11, [.ref to, .ref ke, .ref ik, .ref rf, .long 0, .long 1, .ref ha, .ref r0, .ref br, .ref bp, .ref bys, .int 0, .int 0, .int 0, .int 0, .int 0, .ref an, .ref va])), (to, .inl (y 0, 228, .inl (fun _ => 0)))] := hD
  refine lv_i2l (v := 0) hx hb dX11_digest_22 (by decide) ?_
  refine lv_ladd hx hb dX11_digest_23 ?_
  refine lv_topl (fun z12 hz12 => ?_)
  obtain rfl : z12 = 1340028971 := hz12.trans (by first | rfl | decide | (simp [upd]; done))
  refine lv_lstore_n (lv' := [(1, .long 1340028971), (3, .int 3), (0, .ref mo)]) hx hb dX11_digest_24 rfl hl (by decide) rfl (fun ls hl => ?_)
  refine lv_iinc (v := 4) (lv' := [(3, .int 4), (1, .long 1340028971), (0, .ref mo)]) hx hb dX11_digest_25 hl (k := 1) rfl (by decide) (by decide) rfl (fun ls hl => ?_)
  refine lv_goto (tgt := 6) hx hb dX11_digest_28 (by decide) ?_
  refine lv_iload_n hx hb dX11_digest_6 rfl (lv_at hl 0 rfl) ?_
  refine lv_bipush (v := 9) hx hb dX11_digest_7 (by decide) ?_
  refine lv_icmp_ge (tgt := 31) hx hb dX11_digest_9 (by decide) (fun h9 => absurd h9 (by decide)) (fun _ => ?_)
  refine lv_ldc2 (v := 31) hx hb hown fw2 dX11_digest_12 ?_
  refine lv_lload_n hx hb dX11_digest_15 rfl (lv_at hl 1 rfl) ?_
  refine lv_lmul hx hb dX11_digest_16 ?_
  refine lv_topl (fun z13 hz13 => ?_)
  obtain rfl : z13 = 41540898101 := hz13.trans (by first | rfl | decide | (simp [upd]; done))
  refine lv_aload_n hx hb dX11_digest_17 rfl (lv_at hl 2 rfl) ?_
  refine lv_iload_n hx hb dX11_digest_18 rfl (lv_at hl 0 rfl) ?_
  have hs14 : kw_Split [(mo, .inr (11, [.ref to, .ref ke, .ref ik, .ref rf, .long 0, .long 1, .ref ha, .ref r0, .ref br, .ref bp, .ref bys, .int 0, .int 0, .int 0, .int 0, .int 0, .ref an, .ref va])), (to, .inl (y 0, 228, .inl (fun _ => 0)))] [(mo, .inr (11, [.ref to, .ref ke, .ref ik, .ref rf, .long 0, .long 1, .ref ha, .ref r0, .ref br, .ref bp, .ref bys, .int 0, .int 0, .int 0, .int 0, .int 0, .ref an, .ref va])), (to, .inl (y 0, 228, .inl (fun _ => 0)))] [] [0, 1] [] := ⟨rfl, rfl, rfl, rfl, rfl, by decide⟩
  refine kw_go_i hs14 hP hD hS hA (va_runV (As := [.int 4]) (rest := [.long 41540898101]) ⟨hx, hb, hml, hown, hts⟩ (cw_counted4 l D y mo to ke ik rf ha r0 br bp bys an va  _) (cwV 1 hts gX11_digest_X11_counted rfl rfl rfl (by decide +kernel) ⟨Nat.le_of_ble_eq_true rfl, Nat.le_of_ble_eq_true rfl⟩) (kw_PreV (ci := 11) (q0 := 0) hs14 hP hD hK hN rfl rfl) rfl rfl hl.1 rfl (lv_room (Nat.le_of_ble_eq_true rfl)) dX11_digest_19 ⟨Nat.le_of_ble_eq_true rfl, Nat.le_of_ble_eq_true rfl⟩) (fun r u H locs hq hP hD hS => ?_)
  obtain rfl := hq
  have hP : va_P D vwCl [(mo, .inr (11, [.ref to, .ref ke, .ref ik, .ref rf, .long 0, .long 1, .ref ha, .ref r0, .ref br, .ref bp, .ref bys, .int 0, .int 0, .int 0, .int 0, .int 0, .ref an, .ref va])), (to, .inl (y 0, 228, .inl (fun _ => 0)))] H := hP
  have hD : va_D A [(mo, .inr (11, [.ref to, .ref ke, .ref ik, .ref rf, .long 0, .long 1, .ref ha, .ref r0, .ref br, .ref bp, .ref bys, .int 0, .int 0, .int 0, .int 0, .int 0, .ref an, .ref va])), (to, .inl (y 0, 228, .inl (fun _ => 0)))] := hD
  refine lv_i2l (v := 0) hx hb dX11_digest_22 (by decide) ?_
  refine lv_ladd hx hb dX11_digest_23 ?_
  refine lv_topl (fun z15 hz15 => ?_)
  obtain rfl : z15 = 41540898101 := hz15.trans (by first | rfl | decide | (simp [upd]; done))
  refine lv_lstore_n (lv' := [(1, .long 41540898101), (3, .int 4), (0, .ref mo)]) hx hb dX11_digest_24 rfl hl (by decide) rfl (fun ls hl => ?_)
  refine lv_iinc (v := 5) (lv' := [(3, .int 5), (1, .long 41540898101), (0, .ref mo)]) hx hb dX11_digest_25 hl (k := 1) rfl (by decide) (by decide) rfl (fun ls hl => ?_)
  refine lv_goto (tgt := 6) hx hb dX11_digest_28 (by decide) ?_
  refine lv_iload_n hx hb dX11_digest_6 rfl (lv_at hl 0 rfl) ?_
  refine lv_bipush (v := 9) hx hb dX11_digest_7 (by decide) ?_
  refine lv_icmp_ge (tgt := 31) hx hb dX11_digest_9 (by decide) (fun h9 => absurd h9 (by decide)) (fun _ => ?_)
  refine lv_ldc2 (v := 31) hx hb hown fw2 dX11_digest_12 ?_
  refine lv_lload_n hx hb dX11_digest_15 rfl (lv_at hl 1 rfl) ?_
  refine lv_lmul hx hb dX11_digest_16 ?_
  refine lv_topl (fun z16 hz16 => ?_)
  obtain rfl : z16 = 1287767841131 := hz16.trans (by first | rfl | decide | (simp [upd]; done))
  refine lv_aload_n hx hb dX11_digest_17 rfl (lv_at hl 2 rfl) ?_
  refine lv_iload_n hx hb dX11_digest_18 rfl (lv_at hl 0 rfl) ?_
  have hs17 : kw_Split [(mo, .inr (11, [.ref to, .ref ke, .ref ik, .ref rf, .long 0, .long 1, .ref ha, .ref r0, .ref br, .ref bp, .ref bys, .int 0, .int 0, .int 0, .int 0, .int 0, .ref an, .ref va])), (to, .inl (y 0, 228, .inl (fun _ => 0)))] [(mo, .inr (11, [.ref to, .ref ke, .ref ik, .ref rf, .long 0, .long 1, .ref ha, .ref r0, .ref br, .ref bp, .ref bys, .int 0, .int 0, .int 0, .int 0, .int 0, .ref an, .ref va])), (to, .inl (y 0, 228, .inl (fun _ => 0)))] [] [0, 1] [] := ⟨rfl, rfl, rfl, rfl, rfl, by decide⟩
  refine kw_go_i hs17 hP hD hS hA (va_runV (As := [.int 5]) (rest := [.long 1287767841131]) ⟨hx, hb, hml, hown, hts⟩ (cw_counted5 l D y mo to ke ik rf ha r0 br bp bys an va  _) (cwV 1 hts gX11_digest_X11_counted rfl rfl rfl (by decide +kernel) ⟨Nat.le_of_ble_eq_true rfl, Nat.le_of_ble_eq_true rfl⟩) (kw_PreV (ci := 11) (q0 := 0) hs17 hP hD hK hN rfl rfl) rfl rfl hl.1 rfl (lv_room (Nat.le_of_ble_eq_true rfl)) dX11_digest_19 ⟨Nat.le_of_ble_eq_true rfl, Nat.le_of_ble_eq_true rfl⟩) (fun r u H locs hq hP hD hS => ?_)
  obtain rfl := hq
  have hP : va_P D vwCl [(mo, .inr (11, [.ref to, .ref ke, .ref ik, .ref rf, .long 0, .long 1, .ref ha, .ref r0, .ref br, .ref bp, .ref bys, .int 0, .int 0, .int 0, .int 0, .int 0, .ref an, .ref va])), (to, .inl (y 0, 228, .inl (fun _ => 0)))] H := hP
  have hD : va_D A [(mo, .inr (11, [.ref to, .ref ke, .ref ik, .ref rf, .long 0, .long 1, .ref ha, .ref r0, .ref br, .ref bp, .ref bys, .int 0, .int 0, .int 0, .int 0, .int 0, .ref an, .ref va])), (to, .inl (y 0, 228, .inl (fun _ => 0)))] := hD
  refine lv_i2l (v := 0) hx hb dX11_digest_22 (by decide) ?_
  refine lv_ladd hx hb dX11_digest_23 ?_
  refine lv_topl (fun z18 hz18 => ?_)
  obtain rfl : z18 = 1287767841131 := hz18.trans (by first | rfl | decide | (simp [upd]; done))
  refine lv_lstore_n (lv' := [(1, .long 1287767841131), (3, .int 5), (0, .ref mo)]) hx hb dX11_digest_24 rfl hl (by decide) rfl (fun ls hl => ?_)
  refine lv_iinc (v := 6) (lv' := [(3, .int 6), (1, .long 1287767841131), (0, .ref mo)]) hx hb dX11_digest_25 hl (k := 1) rfl (by decide) (by decide) rfl (fun ls hl => ?_)
  refine lv_goto (tgt := 6) hx hb dX11_digest_28 (by decide) ?_
  refine lv_iload_n hx hb dX11_digest_6 rfl (lv_at hl 0 rfl) ?_
  refine lv_bipush (v := 9) hx hb dX11_digest_7 (by decide) ?_
  refine lv_icmp_ge (tgt := 31) hx hb dX11_digest_9 (by decide) (fun h9 => absurd h9 (by decide)) (fun _ => ?_)
  refine lv_ldc2 (v := 31) hx hb hown fw2 dX11_digest_12 ?_
  refine lv_lload_n hx hb dX11_digest_15 rfl (lv_at hl 1 rfl) ?_
  refine lv_lmul hx hb dX11_digest_16 ?_
  refine lv_topl (fun z19 hz19 => ?_)
  obtain rfl : z19 = 39920803075061 := hz19.trans (by first | rfl | decide | (simp [upd]; done))
  refine lv_aload_n hx hb dX11_digest_17 rfl (lv_at hl 2 rfl) ?_
  refine lv_iload_n hx hb dX11_digest_18 rfl (lv_at hl 0 rfl) ?_
  have hs20 : kw_Split [(mo, .inr (11, [.ref to, .ref ke, .ref ik, .ref rf, .long 0, .long 1, .ref ha, .ref r0, .ref br, .ref bp, .ref bys, .int 0, .int 0, .int 0, .int 0, .int 0, .ref an, .ref va])), (to, .inl (y 0, 228, .inl (fun _ => 0)))] [(mo, .inr (11, [.ref to, .ref ke, .ref ik, .ref rf, .long 0, .long 1, .ref ha, .ref r0, .ref br, .ref bp, .ref bys, .int 0, .int 0, .int 0, .int 0, .int 0, .ref an, .ref va])), (to, .inl (y 0, 228, .inl (fun _ => 0)))] [] [0, 1] [] := ⟨rfl, rfl, rfl, rfl, rfl, by decide⟩
  refine kw_go_i hs20 hP hD hS hA (va_runV (As := [.int 6]) (rest := [.long 39920803075061]) ⟨hx, hb, hml, hown, hts⟩ (cw_counted6 l D y mo to ke ik rf ha r0 br bp bys an va  _) (cwV 1 hts gX11_digest_X11_counted rfl rfl rfl (by decide +kernel) ⟨Nat.le_of_ble_eq_true rfl, Nat.le_of_ble_eq_true rfl⟩) (kw_PreV (ci := 11) (q0 := 0) hs20 hP hD hK hN rfl rfl) rfl rfl hl.1 rfl (lv_room (Nat.le_of_ble_eq_true rfl)) dX11_digest_19 ⟨Nat.le_of_ble_eq_true rfl, Nat.le_of_ble_eq_true rfl⟩) (fun r u H locs hq hP hD hS => ?_)
  obtain rfl := hq
  have hP : va_P D vwCl [(mo, .inr (11, [.ref to, .ref ke, .ref ik, .ref rf, .long 0, .long 1, .ref ha, .ref r0, .ref br, .ref bp, .ref bys, .int 0, .int 0, .int 0, .int 0, .int 0, .ref an, .ref va])), (to, .inl (y 0, 228, .inl (fun _ => 0)))] H := hP
  have hD : va_D A [(mo, .inr (11, [.ref to, .ref ke, .ref ik, .ref rf, .long 0, .long 1, .ref ha, .ref r0, .ref br, .ref bp, .ref bys, .int 0, .int 0, .int 0, .int 0, .int 0, .ref an, .ref va])), (to, .inl (y 0, 228, .inl (fun _ => 0)))] := hD
  refine lv_i2l (v := 0) hx hb dX11_digest_22 (by decide) ?_
  refine lv_ladd hx hb dX11_digest_23 ?_
  refine lv_topl (fun z21 hz21 => ?_)
  obtain rfl : z21 = 39920803075061 := hz21.trans (by first | rfl | decide | (simp [upd]; done))
  refine lv_lstore_n (lv' := [(1, .long 39920803075061), (3, .int 6), (0, .ref mo)]) hx hb dX11_digest_24 rfl hl (by decide) rfl (fun ls hl => ?_)
  refine lv_iinc (v := 7) (lv' := [(3, .int 7), (1, .long 39920803075061), (0, .ref mo)]) hx hb dX11_digest_25 hl (k := 1) rfl (by decide) (by decide) rfl (fun ls hl => ?_)
  refine lv_goto (tgt := 6) hx hb dX11_digest_28 (by decide) ?_
  refine lv_iload_n hx hb dX11_digest_6 rfl (lv_at hl 0 rfl) ?_
  refine lv_bipush (v := 9) hx hb dX11_digest_7 (by decide) ?_
  refine lv_icmp_ge (tgt := 31) hx hb dX11_digest_9 (by decide) (fun h9 => absurd h9 (by decide)) (fun _ => ?_)
  refine lv_ldc2 (v := 31) hx hb hown fw2 dX11_digest_12 ?_
  refine lv_lload_n hx hb dX11_digest_15 rfl (lv_at hl 1 rfl) ?_
  refine lv_lmul hx hb dX11_digest_16 ?_
  refine lv_topl (fun z22 hz22 => ?_)
  obtain rfl : z22 = 1237544895326891 := hz22.trans (by first | rfl | decide | (simp [upd]; done))
  refine lv_aload_n hx hb dX11_digest_17 rfl (lv_at hl 2 rfl) ?_
  refine lv_iload_n hx hb dX11_digest_18 rfl (lv_at hl 0 rfl) ?_
  have hs23 : kw_Split [(mo, .inr (11, [.ref to, .ref ke, .ref ik, .ref rf, .long 0, .long 1, .ref ha, .ref r0, .ref br, .ref bp, .ref bys, .int 0, .int 0, .int 0, .int 0, .int 0, .ref an, .ref va])), (to, .inl (y 0, 228, .inl (fun _ => 0)))] [(mo, .inr (11, [.ref to, .ref ke, .ref ik, .ref rf, .long 0, .long 1, .ref ha, .ref r0, .ref br, .ref bp, .ref bys, .int 0, .int 0, .int 0, .int 0, .int 0, .ref an, .ref va])), (to, .inl (y 0, 228, .inl (fun _ => 0)))] [] [0, 1] [] := ⟨rfl, rfl, rfl, rfl, rfl, by decide⟩
  refine kw_go_i hs23 hP hD hS hA (va_runV (As := [.int 7]) (rest := [.long 1237544895326891]) ⟨hx, hb, hml, hown, hts⟩ (cw_counted7 l D y mo to ke ik rf ha r0 br bp bys an va  _) (cwV 1 hts gX11_digest_X11_counted rfl rfl rfl (by decide +kernel) ⟨Nat.le_of_ble_eq_true rfl, Nat.le_of_ble_eq_true rfl⟩) (kw_PreV (ci := 11) (q0 := 0) hs23 hP hD hK hN rfl rfl) rfl rfl hl.1 rfl (lv_room (Nat.le_of_ble_eq_true rfl)) dX11_digest_19 ⟨Nat.le_of_ble_eq_true rfl, Nat.le_of_ble_eq_true rfl⟩) (fun r u H locs hq hP hD hS => ?_)
  obtain rfl := hq
  have hP : va_P D vwCl [(mo, .inr (11, [.ref to, .ref ke, .ref ik, .ref rf, .long 0, .long 1, .ref ha, .ref r0, .ref br, .ref bp, .ref bys, .int 0, .int 0, .int 0, .int 0, .int 0, .ref an, .ref va])), (to, .inl (y 0, 228, .inl (fun _ => 0)))] H := hP
  have hD : va_D A [(mo, .inr (11, [.ref to, .ref ke, .ref ik, .ref rf, .long 0, .long 1, .ref ha, .ref r0, .ref br, .ref bp, .ref bys, .int 0, .int 0, .int 0, .int 0, .int 0, .ref an, .ref va])), (to, .inl (y 0, 228, .inl (fun _ => 0)))] := hD
  refine lv_i2l (v := 0) hx hb dX11_digest_22 (by decide) ?_
  refine lv_ladd hx hb dX11_digest_23 ?_
  refine lv_topl (fun z24 hz24 => ?_)
  obtain rfl : z24 = 1237544895326891 := hz24.trans (by first | rfl | decide | (simp [upd]; done))
  refine lv_lstore_n (lv' := [(1, .long 1237544895326891), (3, .int 7), (0, .ref mo)]) hx hb dX11_digest_24 rfl hl (by decide) rfl (fun ls hl => ?_)
  refine lv_iinc (v := 8) (lv' := [(3, .int 8), (1, .long 1237544895326891), (0, .ref mo)]) hx hb dX11_digest_25 hl (k := 1) rfl (by decide) (by decide) rfl (fun ls hl => ?_)
  refine lv_goto (tgt := 6) hx hb dX11_digest_28 (by decide) ?_
  refine lv_iload_n hx hb dX11_digest_6 rfl (lv_at hl 0 rfl) ?_
  refine lv_bipush (v := 9) hx hb dX11_digest_7 (by decide) ?_
  refine lv_icmp_ge (tgt := 31) hx hb dX11_digest_9 (by decide) (fun h9 => absurd h9 (by decide)) (fun _ => ?_)
  refine lv_ldc2 (v := 31) hx hb hown fw2 dX11_digest_12 ?_
  refine lv_lload_n hx hb dX11_digest_15 rfl (lv_at hl 1 rfl) ?_
  refine lv_lmul hx hb dX11_digest_16 ?_
  refine lv_topl (fun z25 hz25 => ?_)
  obtain rfl : z25 = 38363891755133621 := hz25.trans (by first | rfl | decide | (simp [upd]; done))
  refine lv_aload_n hx hb dX11_digest_17 rfl (lv_at hl 2 rfl) ?_
  refine lv_iload_n hx hb dX11_digest_18 rfl (lv_at hl 0 rfl) ?_
  have hs26 : kw_Split [(mo, .inr (11, [.ref to, .ref ke, .ref ik, .ref rf, .long 0, .long 1, .ref ha, .ref r0, .ref br, .ref bp, .ref bys, .int 0, .int 0, .int 0, .int 0, .int 0, .ref an, .ref va])), (to, .inl (y 0, 228, .inl (fun _ => 0)))] [(mo, .inr (11, [.ref to, .ref ke, .ref ik, .ref rf, .long 0, .long 1, .ref ha, .ref r0, .ref br, .ref bp, .ref bys, .int 0, .int 0, .int 0, .int 0, .int 0, .ref an, .ref va])), (to, .inl (y 0, 228, .inl (fun _ => 0)))] [] [0, 1] [] := ⟨rfl, rfl, rfl, rfl, rfl, by decide⟩
  refine kw_go_i hs26 hP hD hS hA (va_runV (As := [.int 8]) (rest := [.long 38363891755133621]) ⟨hx, hb, hml, hown, hts⟩ (cw_counted8 l D y mo to ke ik rf ha r0 br bp bys an va  _) (cwV 1 hts gX11_digest_X11_counted rfl rfl rfl (by decide +kernel) ⟨Nat.le_of_ble_eq_true rfl, Nat.le_of_ble_eq_true rfl⟩) (kw_PreV (ci := 11) (q0 := 0) hs26 hP hD hK hN rfl rfl) rfl rfl hl.1 rfl (lv_room (Nat.le_of_ble_eq_true rfl)) dX11_digest_19 ⟨Nat.le_of_ble_eq_true rfl, Nat.le_of_ble_eq_true rfl⟩) (fun r u H locs hq hP hD hS => ?_)
  obtain rfl := hq
  have hP : va_P D vwCl [(mo, .inr (11, [.ref to, .ref ke, .ref ik, .ref rf, .long 0, .long 1, .ref ha, .ref r0, .ref br, .ref bp, .ref bys, .int 0, .int 0, .int 0, .int 0, .int 0, .ref an, .ref va])), (to, .inl (y 0, 228, .inl (fun _ => 0)))] H := hP
  have hD : va_D A [(mo, .inr (11, [.ref to, .ref ke, .ref ik, .ref rf, .long 0, .long 1, .ref ha, .ref r0, .ref br, .ref bp, .ref bys, .int 0, .int 0, .int 0, .int 0, .int 0, .ref an, .ref va])), (to, .inl (y 0, 228, .inl (fun _ => 0)))] := hD
  refine lv_i2l (v := 0) hx hb dX11_digest_22 (by decide) ?_
  refine lv_ladd hx hb dX11_digest_23 ?_
  refine lv_topl (fun z27 hz27 => ?_)
  obtain rfl : z27 = 38363891755133621 := hz27.trans (by first | rfl | decide | (simp [upd]; done))
  refine lv_lstore_n (lv' := [(1, .long 38363891755133621), (3, .int 8), (0, .ref mo)]) hx hb dX11_digest_24 rfl hl (by decide) rfl (fun ls hl => ?_)
  refine lv_iinc (v := 9) (lv' := [(3, .int 9), (1, .long 38363891755133621), (0, .ref mo)]) hx hb dX11_digest_25 hl (k := 1) rfl (by decide) (by decide) rfl (fun ls hl => ?_)
  refine lv_goto (tgt := 6) hx hb dX11_digest_28 (by decide) ?_
  refine lv_iload_n hx hb dX11_digest_6 rfl (lv_at hl 0 rfl) ?_
  refine lv_bipush (v := 9) hx hb dX11_digest_7 (by decide) ?_
  refine lv_icmp_ge (tgt := 31) hx hb dX11_digest_9 (by decide) (fun _ => ?_) (fun h9 => absurd h9 (by decide))
  refine lv_iconst (v := 0) hx hb dX11_digest_31 (by decide) ?_
  refine lv_istore_n (lv' := [(3, .int 0), (1, .long 38363891755133621), (0, .ref mo)]) hx hb dX11_digest_32 rfl hl (by decide) rfl (fun ls hl => ?_)
  refine lv_iload_n hx hb dX11_digest_33 rfl (lv_at hl 0 rfl) ?_
  refine lv_aload_n hx hb dX11_digest_34 rfl (lv_at hl 2 rfl) ?_
  have hs28 : kw_Split [(mo, .inr (11, [.ref to, .ref ke, .ref ik, .ref rf, .long 0, .long 1, .ref ha, .ref r0, .ref br, .ref bp, .ref bys, .int 0, .int 0, .int 0, .int 0, .int 0, .ref an, .ref va])), (to, .inl (y 0, 228, .inl (fun _ => 0)))] [(mo, .inr (11, [.ref to, .ref ke, .ref ik, .ref rf, .long 0, .long 1, .ref ha, .ref r0, .ref br, .ref bp, .ref bys, .int 0, .int 0, .int 0, .int 0, .int 0, .ref an, .ref va])), (to, .inl (y 0, 228, .inl (fun _ => 0)))] [] [0, 1] [] := ⟨rfl, rfl, rfl, rfl, rfl, by decide⟩
  refine kw_go_i hs28 hP hD hS hA (va_runV (As := []) (rest := [.int 0]) ⟨hx, hb, hml, hown, hts⟩ (cw_many l D y mo to ke ik rf ha r0 br bp bys an va (fun _ => 0) 0 (by first | rfl | decide | assumption | (simp [upd]; done) | (unfold upd; rw [if_neg (by decide)]; assumption) | (unfold upd; rw [if_neg (by decide), if_neg (by decide)]; assumption)) _) (cwV 0 hts gX11_digest_X11_many rfl rfl rfl (by decide +kernel) ⟨Nat.le_of_ble_eq_true rfl, Nat.le_of_ble_eq_true rfl⟩) (kw_PreV (ci := 11) (q0 := 0) hs28 hP hD hK hN rfl rfl) rfl rfl hl.1 rfl (lv_room (Nat.le_of_ble_eq_true rfl)) dX11_digest_35 ⟨Nat.le_of_ble_eq_true rfl, Nat.le_of_ble_eq_true rfl⟩) (fun r u H locs hq hP hD hS => ?_)
  obtain rfl := hq
  have hP : va_P D vwCl [(mo, .inr (11, [.ref to, .ref ke, .ref ik, .ref rf, .long 0, .long 1, .ref ha, .ref r0, .ref br, .ref bp, .ref bys, .int 0, .int 0, .int 0, .int 0, .int 0, .ref an, .ref va])), (to, .inl (y 0, 228, .inl (fun _ => 0)))] H := hP
  have hD : va_D A [(mo, .inr (11, [.ref to, .ref ke, .ref ik, .ref rf, .long 0, .long 1, .ref ha, .ref r0, .ref br, .ref bp, .ref bys, .int 0, .int 0, .int 0, .int 0, .int 0, .ref an, .ref va])), (to, .inl (y 0, 228, .inl (fun _ => 0)))] := hD
  refine lv_icmp_ge (tgt := 78) hx hb dX11_digest_38 (by decide) (fun _ => ?_) (fun h9 => absurd h9 (by decide))
  refine lv_iconst (v := 0) hx hb dX11_digest_78 (by decide) ?_
  refine lv_istore_n (lv' := [(3, .int 0), (1, .long 38363891755133621), (0, .ref mo)]) hx hb dX11_digest_79 rfl hl (by decide) rfl (fun ls hl => ?_)
  refine lv_iload_n hx hb dX11_digest_80 rfl (lv_at hl 0 rfl) ?_
  refine lv_aload_n hx hb dX11_digest_81 rfl (lv_at hl 2 rfl) ?_
  have hs29 : kw_Split [(mo, .inr (11, [.ref to, .ref ke, .ref ik, .ref rf, .long 0, .long 1, .ref ha, .ref r0, .ref br, .ref bp, .ref bys, .int 0, .int 0, .int 0, .int 0, .int 0, .ref an, .ref va])), (to, .inl (y 0, 228, .inl (fun _ => 0)))] [(mo, .inr (11, [.ref to, .ref ke, .ref ik, .ref rf, .long 0, .long 1, .ref ha, .ref r0, .ref br, .ref bp, .ref bys, .int 0, .int 0, .int 0, .int 0, .int 0, .ref an, .ref va])), (to, .inl (y 0, 228, .inl (fun _ => 0)))] [] [0, 1] [] := ⟨rfl, rfl, rfl, rfl, rfl, by decide⟩
  refine kw_go_i hs29 hP hD hS hA (va_runV (As := []) (rest := [.int 0]) ⟨hx, hb, hml, hown, hts⟩ (cw_manyGleaners l D y mo to ke ik rf ha r0 br bp bys an va (fun _ => 0) 0 (by first | rfl | decide | assumption | (simp [upd]; done) | (unfold upd; rw [if_neg (by decide)]; assumption) | (unfold upd; rw [if_neg (by decide), if_neg (by decide)]; assumption)) _) (cwV 0 hts gX11_digest_X11_manyGleaners rfl rfl rfl (by decide +kernel) ⟨Nat.le_of_ble_eq_true rfl, Nat.le_of_ble_eq_true rfl⟩) (kw_PreV (ci := 11) (q0 := 0) hs29 hP hD hK hN rfl rfl) rfl rfl hl.1 rfl (lv_room (Nat.le_of_ble_eq_true rfl)) dX11_digest_82 ⟨Nat.le_of_ble_eq_true rfl, Nat.le_of_ble_eq_true rfl⟩) (fun r u H locs hq hP hD hS => ?_)
  obtain rfl := hq
  have hP : va_P D vwCl [(mo, .inr (11, [.ref to, .ref ke, .ref ik, .ref rf, .long 0, .long 1, .ref ha, .ref r0, .ref br, .ref bp, .ref bys, .int 0, .int 0, .int 0, .int 0, .int 0, .ref an, .ref va])), (to, .inl (y 0, 228, .inl (fun _ => 0)))] H := hP
  have hD : va_D A [(mo, .inr (11, [.ref to, .ref ke, .ref ik, .ref rf, .long 0, .long 1, .ref ha, .ref r0, .ref br, .ref bp, .ref bys, .int 0, .int 0, .int 0, .int 0, .int 0, .ref an, .ref va])), (to, .inl (y 0, 228, .inl (fun _ => 0)))] := hD
  refine lv_icmp_ge (tgt := 126) hx hb dX11_digest_85 (by decide) (fun _ => ?_) (fun h9 => absurd h9 (by decide))
  refine lv_aload_n hx hb dX11_digest_126 rfl (lv_at hl 2 rfl) ?_
  refine lv_lload_n hx hb dX11_digest_127 rfl (lv_at hl 1 rfl) ?_
  refine lv_bipush (v := 30) hx hb dX11_digest_128 (by decide) ?_
  refine lv_iconst (v := 4) hx hb dX11_digest_130 (by decide) ?_
  refine lv_aload_n hx hb dX11_digest_131 rfl (lv_at hl 2 rfl) ?_
  refine va_get (D := D) (ci := 11) (v := .ref to) (C := RX11) (T := TX11) (N := 18) hx hb hts i11 hown hK hP 0 rfl rfl 0 (by decide) fw3 (fun _ h9 => h9) rfl dX11_digest_132 ?_
  refine lv_iconst (v := 2) hx hb dX11_digest_135 (by decide) ?_
  refine va_iald hx hb hK hP 1 0 rfl rfl (by unfold vp_in; decide) dX11_digest_136 ?_
  refine lv_topi (fun z30 hz30 => ?_)
  obtain rfl : z30 = 0 := hz30.trans (by first | rfl | decide | assumption | (simp [upd]; done) | (unfold upd; rw [if_neg (by decide)]; assumption) | (simp [upd, *]; done))
  refine lv_imul hx hb dX11_digest_137 ?_
  refine lv_topi (fun z31 hz31 => ?_)
  obtain rfl : z31 = 0 := hz31.trans (by first | rfl | decide | (simp [upd]; done))
  have hs32 : kw_Split [(mo, .inr (11, [.ref to, .ref ke, .ref ik, .ref rf, .long 0, .long 1, .ref ha, .ref r0, .ref br, .ref bp, .ref bys, .int 0, .int 0, .int 0, .int 0, .int 0, .ref an, .ref va])), (to, .inl (y 0, 228, .inl (fun _ => 0)))] [(mo, .inr (11, [.ref to, .ref ke, .ref ik, .ref rf, .long 0, .long 1, .ref ha, .ref r0, .ref br, .ref bp, .ref bys, .int 0, .int 0, .int 0, .int 0, .int 0, .ref an, .ref va])), (to, .inl (y 0, 228, .inl (fun _ => 0)))] [] [0, 1] [] := ⟨rfl, rfl, rfl, rfl, rfl, by decide⟩
  refine kw_go_l hs32 hP hD hS hA (va_runV (As := [.long 38363891755133621, .int 30, .int 0]) (rest := []) ⟨hx, hb, hml, hown, hts⟩ (cw_sums l D y mo to ke ik rf ha r0 br bp bys an va 38363891755133621 30  _) (cwV 3 hts gX11_digest_X11_sums rfl rfl rfl (by decide +kernel) ⟨Nat.le_of_ble_eq_true rfl, Nat.le_of_ble_eq_true rfl⟩) (kw_PreV (ci := 11) (q0 := 0) hs32 hP hD hK hN rfl rfl) rfl rfl hl.1 rfl (lv_room (Nat.le_of_ble_eq_true rfl)) dX11_digest_138 ⟨Nat.le_of_ble_eq_true rfl, Nat.le_of_ble_eq_true rfl⟩) (fun r u H locs hq hP hD hS => ?_)
  obtain rfl := hq
  have hP : va_P D vwCl [(mo, .inr (11, [.ref to, .ref ke, .ref ik, .ref rf, .long 0, .long 1, .ref ha, .ref r0, .ref br, .ref bp, .ref bys, .int 0, .int 0, .int 0, .int 0, .int 0, .ref an, .ref va])), (to, .inl (y 0, 228, .inl (fun _ => 0)))] H := hP
  have hD : va_D A [(mo, .inr (11, [.ref to, .ref ke, .ref ik, .ref rf, .long 0, .long 1, .ref ha, .ref r0, .ref br, .ref bp, .ref bys, .int 0, .int 0, .int 0, .int 0, .int 0, .ref an, .ref va])), (to, .inl (y 0, 228, .inl (fun _ => 0)))] := hD
  refine lv_lstore_n (lv' := [(1, .long 38363891755133621), (3, .int 0), (0, .ref mo)]) hx hb dX11_digest_141 rfl hl (by decide) rfl (fun ls hl => ?_)
  refine lv_aload_n hx hb dX11_digest_142 rfl (lv_at hl 2 rfl) ?_
  refine lv_lload_n hx hb dX11_digest_143 rfl (lv_at hl 0 rfl) ?_
  refine lv_bipush (v := 46) hx hb dX11_digest_144 (by decide) ?_
  refine lv_iconst (v := 5) hx hb dX11_digest_146 (by decide) ?_
  refine lv_aload_n hx hb dX11_digest_147 rfl (lv_at hl 2 rfl) ?_
  refine va_get (D := D) (ci := 11) (v := .ref to) (C := RX11) (T := TX11) (N := 18) hx hb hts i11 hown hK hP 0 rfl rfl 0 (by decide) fw3 (fun _ h9 => h9) rfl dX11_digest_148 ?_
  refine lv_iconst (v := 3) hx hb dX11_digest_151 (by decide) ?_
  refine va_iald hx hb hK hP 1 0 rfl rfl (by unfold vp_in; decide) dX11_digest_152 ?_
  refine lv_topi (fun z33 hz33 => ?_)
  obtain rfl : z33 = 0 := hz33.trans (by first | rfl | decide | assumption | (simp [upd]; done) | (unfold upd; rw [if_neg (by decide)]; assumption) | (simp [upd, *]; done))
  refine lv_imul hx hb dX11_digest_153 ?_
  refine lv_topi (fun z34 hz34 => ?_)
  obtain rfl : z34 = 0 := hz34.trans (by first | rfl | decide | (simp [upd]; done))
  have hs35 : kw_Split [(mo, .inr (11, [.ref to, .ref ke, .ref ik, .ref rf, .long 0, .long 1, .ref ha, .ref r0, .ref br, .ref bp, .ref bys, .int 0, .int 0, .int 0, .int 0, .int 0, .ref an, .ref va])), (to, .inl (y 0, 228, .inl (fun _ => 0)))] [(mo, .inr (11, [.ref to, .ref ke, .ref ik, .ref rf, .long 0, .long 1, .ref ha, .ref r0, .ref br, .ref bp, .ref bys, .int 0, .int 0, .int 0, .int 0, .int 0, .ref an, .ref va])), (to, .inl (y 0, 228, .inl (fun _ => 0)))] [] [0, 1] [] := ⟨rfl, rfl, rfl, rfl, rfl, by decide⟩
  refine kw_go_l hs35 hP hD hS hA (va_runV (As := [.long 38363891755133621, .int 46, .int 0]) (rest := []) ⟨hx, hb, hml, hown, hts⟩ (cw_sums l D y mo to ke ik rf ha r0 br bp bys an va 38363891755133621 46  _) (cwV 3 hts gX11_digest_X11_sums rfl rfl rfl (by decide +kernel) ⟨Nat.le_of_ble_eq_true rfl, Nat.le_of_ble_eq_true rfl⟩) (kw_PreV (ci := 11) (q0 := 0) hs35 hP hD hK hN rfl rfl) rfl rfl hl.1 rfl (lv_room (Nat.le_of_ble_eq_true rfl)) dX11_digest_154 ⟨Nat.le_of_ble_eq_true rfl, Nat.le_of_ble_eq_true rfl⟩) (fun r u H locs hq hP hD hS => ?_)
  obtain rfl := hq
  have hP : va_P D vwCl [(mo, .inr (11, [.ref to, .ref ke, .ref ik, .ref rf, .long 0, .long 1, .ref ha, .ref r0, .ref br, .ref bp, .ref bys, .int 0, .int 0, .int 0, .int 0, .int 0, .ref an, .ref va])), (to, .inl (y 0, 228, .inl (fun _ => 0)))] H := hP
  have hD : va_D A [(mo, .inr (11, [.ref to, .ref ke, .ref ik, .ref rf, .long 0, .long 1, .ref ha, .ref r0, .ref br, .ref bp, .ref bys, .int 0, .int 0, .int 0, .int 0, .int 0, .ref an, .ref va])), (to, .inl (y 0, 228, .inl (fun _ => 0)))] := hD
  refine lv_lstore_n (lv' := [(1, .long 38363891755133621), (3, .int 0), (0, .ref mo)]) hx hb dX11_digest_157 rfl hl (by decide) rfl (fun ls hl => ?_)
  refine lv_ldc2 (v := 31) hx hb hown fw2 dX11_digest_158 ?_
  refine lv_ldc2 (v := 31) hx hb hown fw2 dX11_digest_161 ?_
  refine lv_lload_n hx hb dX11_digest_164 rfl (lv_at hl 0 rfl) ?_
  refine lv_lmul hx hb dX11_digest_165 ?_
  refine lv_topl (fun z36 hz36 => ?_)
  obtain rfl : z36 = 1189280644409142251 := hz36.trans (by first | rfl | decide | (simp [upd]; done))
  refine lv_aload_n hx hb dX11_digest_166 rfl (lv_at hl 2 rfl) ?_
  refine va_get (D := D) (ci := 11) (v := .long 0) (C := RX11) (T := TX11) (N := 18) hx hb hts i11 hown hK hP 0 rfl rfl 4 (by decide) fw4 (fun _ h9 => h9) rfl dX11_digest_167 ?_
  refine lv_ladd hx hb dX11_digest_170 ?_
  refine lv_topl (fun z37 hz37 => ?_)
  obtain rfl : z37 = 1189280644409142251 := hz37.trans (by first | rfl | decide | (simp [upd]; done))
  refine lv_lmul hx hb dX11_digest_171 ?_
  refine lv_topl (fun z38 hz38 => ?_)
  obtain rfl : z38 = (-25788170735693451) := hz38.trans (by first | rfl | decide | (simp [upd]; done))
  refine lv_aload_n hx hb dX11_digest_172 rfl (lv_at hl 2 rfl) ?_
  refine va_get (D := D) (ci := 11) (v := .long 1) (C := RX11) (T := TX11) (N := 18) hx hb hts i11 hown hK hP 0 rfl rfl 5 (by decide) fw5 (fun _ h9 => h9) rfl dX11_digest_173 ?_
  refine lv_ladd hx hb dX11_digest_176 ?_
  refine lv_topl (fun z39 hz39 => ?_)
  obtain rfl : z39 = (-25788170735693450) := hz39.trans (by first | rfl | decide | (simp [upd]; done))
  have hsp : ((-25788170735693450) : Int64) = (-25788170735693450) := by
    rfl
  exact W.lret (v := (-25788170735693450)) hx hb hr (fun tZ ht hW => ⟨⟨(-25788170735693450), (), rfl, hsp, by rw [ht]; exact hP.sub [] rfl, hD.sub [] (by decide) rfl⟩, hS.F ht⟩) hS.2.2 dX11_digest_177
