set_option maxHeartbeats 4000000 in
set_option maxRecDepth 100000 in
theorem gc_dropOldest (l : Launch) (D : va_G) (y : Nat → ClassId) (nw : Nat) (kk : Nat) (nk : Nat) (nd : Nat) (ne : Nat) (nm : Nat) (nn : Nat) (fi : Nat) (gl : Nat) (un : Nat) (mi : Nat) (no : Nat) (e0 : Nat) (e0l : Nat) (e0a : Nat) (e0s : Nat) (e0st : Int32) (e0cl : Int32) (e0nu : Int32) (e1 : Nat) (e1l : Nat) (e1a : Nat) (e1s : Nat) (e1st : Int32) (e1cl : Int32) (e1nu : Int32) (e2 : Nat) (e2l : Nat) (e2a : Nat) (e2s : Nat) (e2st : Int32) (e2cl : Int32) (e2nu : Int32) (e3 : Nat) (e3l : Nat) (e3a : Nat) (e3s : Nat) (e3st : Int32) (e3cl : Int32) (e3nu : Int32) (e4 : Nat) (e4l : Nat) (e4a : Nat) (e4s : Nat) (e4st : Int32) (e4cl : Int32) (e4nu : Int32) (e5 : Nat) (e5l : Nat) (e5a : Nat) (e5s : Nat) (e5st : Int32) (e5cl : Int32) (e5nu : Int32) (e6 : Nat) (e6l : Nat) (e6a : Nat) (e6s : Nat) (e6st : Int32) (e6cl : Int32) (e6nu : Int32) (e7 : Nat) (e7l : Nat) (e7a : Nat) (e7s : Nat) (e7st : Int32) (e7cl : Int32) (e7nu : Int32) (fe : Nat → Option Nat) (hfi : fi ≤ 6) (hgl : gl ≤ 5) (hun : un ≤ 8) (hmi : mi ≤ 4) (hno : no ≤ 6) (he0 : fe 0 = some e0) (he1 : fe 1 = some e1) (he2 : fe 2 = some e2) (he3 : fe 3 = some e3) (he4 : fe 4 = some e4) (he5 : fe 5 = some e5) (he6 : fe 6 = some e6) (he7 : fe 7 = some e7) (hu1 : 1 ≤ un) : kw_Mv l yX4_dropOldest wsX4_dropOldest ({ frames := 1, cells := 0, slots := 0, locals := 60 }) D y [.ref nw] [(nw, .inr (4, [.ref kk, .ref nk, .ref nd, .ref ne, .ref nm, .ref nn, .int (nI fi), .int (nI gl), .int (nI un), .int (nI mi), .int (nI no)])), (ne, .inl (y 3, 8, .inr (.inr (.inr (.inr fe))))), (e0, .inr (1, [.ref e0l, .ref e0a, .ref e0s, .int e0st, .int e0cl, .int e0nu])), (e1, .inr (1, [.ref e1l, .ref e1a, .ref e1s, .int e1st, .int e1cl, .int e1nu])), (e2, .inr (1, [.ref e2l, .ref e2a, .ref e2s, .int e2st, .int e2cl, .int e2nu])), (e3, .inr (1, [.ref e3l, .ref e3a, .ref e3s, .int e3st, .int e3cl, .int e3nu])), (e4, .inr (1, [.ref e4l, .ref e4a, .ref e4s, .int e4st, .int e4cl, .int e4nu])), (e5, .inr (1, [.ref e5l, .ref e5a, .ref e5s, .int e5st, .int e5cl, .int e5nu])), (e6, .inr (1, [.ref e6l, .ref e6a, .ref e6s, .int e6st, .int e6cl, .int e6nu])), (e7, .inr (1, [.ref e7l, .ref e7a, .ref e7s, .int e7st, .int e7cl, .int e7nu]))] (fun (u : (Nat → Nat) × (Nat → Int32) × (Nat → Nat → Int32) × (Nat → Nat → Option Nat) × (Nat → Int64)) => (u.2.2.2.1 0) 0 = some e1 ∧ (u.2.2.2.1 0) 1 = some e2 ∧ (u.2.2.2.1 0) 2 = some e3 ∧ (u.2.2.2.1 0) 3 = some e4 ∧ (u.2.2.2.1 0) 4 = some e5 ∧ (u.2.2.2.1 0) 5 = some e6 ∧ (u.2.2.2.1 0) 6 = some e7 ∧ (u.2.2.2.1 0) 7 = some e0) (fun u => [(nw, .inr (4, [.ref kk, .ref nk, .ref nd, .ref ne, .ref nm, .ref nn, .int (nI fi), .int (nI gl), .int (nI (un - 1)), .int (nI mi), .int (nI no)])), (ne, .inl (y 3, 8, .inr (.inr (.inr (.inr (u.2.2.2.1 0)))))), (e1, .inr (1, [.ref e1l, .ref e1a, .ref e1s, .int e1st, .int e1cl, .int e1nu])), (e2, .inr (1, [.ref e2l, .ref e2a, .ref e2s, .int e2st, .int e2cl, .int e2nu])), (e3, .inr (1, [.ref e3l, .ref e3a, .ref e3s, .int e3st, .int e3cl, .int e3nu])), (e4, .inr (1, [.ref e4l, .ref e4a, .ref e4s, .int e4st, .int e4cl, .int e4nu])), (e5, .inr (1, [.ref e5l, .ref e5a, .ref e5s, .int e5st, .int e5cl, .int e5nu])), (e6, .inr (1, [.ref e6l, .ref e6a, .ref e6s, .int e6st, .int e6cl, .int e6nu])), (e7, .inr (1, [.ref e7l, .ref e7a, .ref e7s, .int e7st, .int e7cl, .int e7nu])), (e0, .inr (1, [.ref e0l, .ref e0a, .ref e0s, .int e0st, .int e0cl, .int e0nu]))]) 0 0 := by
  refine kw_Mv.of (cc := cX4_dropOldest) (maxL := 3) (ret := none) (by decide) rfl ?_
  intro pZ eZ s mZ beZ meZ cZ A hE
  obtain ⟨hx, hb, hr, hml, hts, hown, hlocks, hin, hA, hP, hD, hK, hN⟩ := hE
  have hS : va_S A s.heap s.heap [] := va_S.rf
  have hl := lv_entry ([.ref nw]) (n := 3) (Nat.le_of_ble_eq_true rfl)
  rw [lg_entry_eq]
  generalize (lg_sl ([.ref nw]) ++ List.replicate (3 - (lg_sl ([.ref nw])).length) Slot.unset).toArray = ls at hl ⊢
  have hl : lv_has ls 3 [(0, .ref nw)] := hl
  have fw1 := hts (.fieldLink RX4 22 "GleanDusk$Parish" "earlier" "[LGleanDusk$Dusk;") (List.mem_of_getElem? (i := 1) rfl)
  have fw2 := hts (.fieldLink RX4 45 "GleanDusk$Parish" "undoable" "I") (List.mem_of_getElem? (i := 2) rfl)
  have iw4 : ∀ w ∈ wsX40, w ∈ wsX4_dropOldest := fun _ h => List.mem_cons_of_mem _ (List.mem_append_right _ h)
  refine lv_aload_n hx hb dX4_dropOldest_0 rfl (lv_at hl 0 rfl) ?_
  refine va_get (D := D) (ci := 4) (v := .ref ne) (C := RX4) (T := TX4) (N := 11) hx hb hts iw4 hown hK hP 0 rfl rfl 3 (by decide) fw1 (fun _ h9 => h9) rfl dX4_dropOldest_1 ?_
  refine lv_iconst (v := 0) hx hb dX4_dropOldest_4 (by decide) ?_
  refine va_aldq hx hb hK hP 1 3 rfl rfl (by unfold vp_in; decide) dX4_dropOldest_5 ?_
  rw [show ((0 : Int32)).toNatClampNeg = 0 from rfl, show va_rf (fe 0) = .ref e0 from congrArg va_rf he0]
  refine lv_astore_n (lv' := [(1, .ref e0), (0, .ref nw)]) hx hb dX4_dropOldest_6 rfl hl (by decide) rfl (fun ls hl => ?_)
  refine lv_iconst (v := 1) hx hb dX4_dropOldest_7 (by decide) ?_
  refine lv_istore_n (lv' := [(2, .int 1), (1, .ref e0), (0, .ref nw)]) hx hb dX4_dropOldest_8 rfl hl (by decide) rfl (fun ls hl => ?_)
  refine lv_iload_n hx hb dX4_dropOldest_9 rfl (lv_at hl 0 rfl) ?_
  refine lv_bipush (v := 8) hx hb dX4_dropOldest_10 (by decide) ?_
  refine lv_icmp_ge (tgt := 35) hx hb dX4_dropOldest_12 (by decide) (fun h9 => absurd h9 (by decide)) (fun _ => ?_)
  refine lv_aload_n hx hb dX4_dropOldest_15 rfl (lv_at hl 2 rfl) ?_
  refine va_get (D := D) (ci := 4) (v := .ref ne) (C := RX4) (T := TX4) (N := 11) hx hb hts iw4 hown hK hP 0 rfl rfl 3 (by decide) fw1 (fun _ h9 => h9) rfl dX4_dropOldest_16 ?_
  refine lv_iload_n hx hb dX4_dropOldest_19 rfl (lv_at hl 0 rfl) ?_
  refine lv_iconst (v := 1) hx hb dX4_dropOldest_20 (by decide) ?_
  refine lv_isub hx hb dX4_dropOldest_21 ?_
  refine lv_topi (fun z1 hz1 => ?_)
  obtain rfl : z1 = 0 := hz1.trans (by decide)
  refine lv_aload_n hx hb dX4_dropOldest_22 rfl (lv_at hl 2 rfl) ?_
  refine va_get (D := D) (ci := 4) (v := .ref ne) (C := RX4) (T := TX4) (N := 11) hx hb hts iw4 hown hK hP 0 rfl rfl 3 (by decide) fw1 (fun _ h9 => h9) rfl dX4_dropOldest_23 ?_
  refine lv_iload_n hx hb dX4_dropOldest_26 rfl (lv_at hl 0 rfl) ?_
  refine va_aldq hx hb hK hP 1 3 rfl rfl (by unfold vp_in; decide) dX4_dropOldest_27 ?_
  rw [show ((1 : Int32)).toNatClampNeg = 1 from rfl, show va_rf (fe 1) = .ref e1 from congrArg va_rf he1]
  refine va_astq hx hb hK hP hD hS 1 3 3 1 rfl rfl rfl rfl (by unfold vp_in; decide) dX4_dropOldest_28 (fun H locs hP hD hS => ?_)
  rw [show ((0 : Int32)).toNatClampNeg = 0 from rfl] at hP hD
  have hk3 : (va_up fe 0 (some e1)) 1 = some e1 := (va_up_ne _ _ (by decide)).trans he1
  have hk4 : (va_up fe 0 (some e1)) 2 = some e2 := (va_up_ne _ _ (by decide)).trans he2
  have hk5 : (va_up fe 0 (some e1)) 3 = some e3 := (va_up_ne _ _ (by decide)).trans he3
  have hk6 : (va_up fe 0 (some e1)) 4 = some e4 := (va_up_ne _ _ (by decide)).trans he4
  have hk7 : (va_up fe 0 (some e1)) 5 = some e5 := (va_up_ne _ _ (by decide)).trans he5
  have hk8 : (va_up fe 0 (some e1)) 6 = some e6 := (va_up_ne _ _ (by decide)).trans he6
  have hk9 : (va_up fe 0 (some e1)) 7 = some e7 := (va_up_ne _ _ (by decide)).trans he7
  have hk10 : (va_up fe 0 (some e1)) 0 = some e1 := va_up_self _ _ _
  have hP : va_P D vwCl [(nw, .inr (4, [.ref kk, .ref nk, .ref nd, .ref ne, .ref nm, .ref nn, .int (nI fi), .int (nI gl), .int (nI un), .int (nI mi), .int (nI no)])), (ne, .inl (y 3, 8, .inr (.inr (.inr (.inr (va_up fe 0 (some e1))))))), (e0, .inr (1, [.ref e0l, .ref e0a, .ref e0s, .int e0st, .int e0cl, .int e0nu])), (e1, .inr (1, [.ref e1l, .ref e1a, .ref e1s, .int e1st, .int e1cl, .int e1nu])), (e2, .inr (1, [.ref e2l, .ref e2a, .ref e2s, .int e2st, .int e2cl, .int e2nu])), (e3, .inr (1, [.ref e3l, .ref e3a, .ref e3s, .int e3st, .int e3cl, .int e3nu])), (e4, .inr (1, [.ref e4l, .ref e4a, .ref e4s, .int e4st, .int e4cl, .int e4nu])), (e5, .inr (1, [.ref e5l, .ref e5a, .ref e5s, .int e5st, .int e5cl, .int e5nu])), (e6, .inr (1, [.ref e6l, .ref e6a, .ref e6s, .int e6st, .int e6cl, .int e6nu])), (e7, .inr (1, [.ref e7l, .ref e7a, .ref e7s, .int e7st, .int e7cl, .int e7nu]))] H := hP
  have hD : va_D A [(nw, .inr (4, [.ref kk, .ref nk, .ref nd, .ref ne, .ref nm, .ref nn, .int (nI fi), .int (nI gl), .int (nI un), .int (nI mi), .int (nI no)])), (ne, .inl (y 3, 8, .inr (.inr (.inr (.inr (va_up fe 0 (some e1))))))), (e0, .inr (1, [.ref e0l, .ref e0a, .ref e0s, .int e0st, .int e0cl, .int e0nu])), (e1, .inr (1, [.ref e1l, .ref e1a, .ref e1s, .int e1st, .int e1cl, .int e1nu])), (e2, .inr (1, [.ref e2l, .ref e2a, .ref e2s, .int e2st, .int e2cl, .int e2nu])), (e3, .inr (1, [.ref e3l, .ref e3a, .ref e3s, .int e3st, .int e3cl, .int e3nu])), (e4, .inr (1, [.ref e4l, .ref e4a, .ref e4s, .int e4st, .int e4cl, .int e4nu])), (e5, .inr (1, [.ref e5l, .ref e5a, .ref e5s, .int e5st, .int e5cl, .int e5nu])), (e6, .inr (1, [.ref e6l, .ref e6a, .ref e6s, .int e6st, .int e6cl, .int e6nu])), (e7, .inr (1, [.ref e7l, .ref e7a, .ref e7s, .int e7st, .int e7cl, .int e7nu]))] := hD
  refine lv_iinc (v := 2) (lv' := [(2, .int 2), (1, .ref e0), (0, .ref nw)]) hx hb dX4_dropOldest_29 hl (k := 0) rfl (by decide) (by decide) rfl (fun ls hl => ?_)
  refine lv_goto (tgt := 9) hx hb dX4_dropOldest_32 (by decide) ?_
  refine lv_iload_n hx hb dX4_dropOldest_9 rfl (lv_at hl 0 rfl) ?_
  refine lv_bipush (v := 8) hx hb dX4_dropOldest_10 (by decide) ?_
  refine lv_icmp_ge (tgt := 35) hx hb dX4_dropOldest_12 (by decide) (fun h9 => absurd h9 (by decide)) (fun _ => ?_)
  refine lv_aload_n hx hb dX4_dropOldest_15 rfl (lv_at hl 2 rfl) ?_
  refine va_get (D := D) (ci := 4) (v := .ref ne) (C := RX4) (T := TX4) (N := 11) hx hb hts iw4 hown hK hP 0 rfl rfl 3 (by decide) fw1 (fun _ h9 => h9) rfl dX4_dropOldest_16 ?_
  refine lv_iload_n hx hb dX4_dropOldest_19 rfl (lv_at hl 0 rfl) ?_
  refine lv_iconst (v := 1) hx hb dX4_dropOldest_20 (by decide) ?_
  refine lv_isub hx hb dX4_dropOldest_21 ?_
  refine lv_topi (fun z11 hz11 => ?_)
  obtain rfl : z11 = 1 := hz11.trans (by decide)
  refine lv_aload_n hx hb dX4_dropOldest_22 rfl (lv_at hl 2 rfl) ?_
  refine va_get (D := D) (ci := 4) (v := .ref ne) (C := RX4) (T := TX4) (N := 11) hx hb hts iw4 hown hK hP 0 rfl rfl 3 (by decide) fw1 (fun _ h9 => h9) rfl dX4_dropOldest_23 ?_
  refine lv_iload_n hx hb dX4_dropOldest_26 rfl (lv_at hl 0 rfl) ?_
  refine va_aldq hx hb hK hP 1 3 rfl rfl (by unfold vp_in; decide) dX4_dropOldest_27 ?_
  rw [show ((2 : Int32)).toNatClampNeg = 2 from rfl, show va_rf ((va_up fe 0 (some e1)) 2) = .ref e2 from congrArg va_rf hk4]
  refine va_astq hx hb hK hP hD hS 1 3 4 1 rfl rfl rfl rfl (by unfold vp_in; decide) dX4_dropOldest_28 (fun H locs hP hD hS => ?_)
  rw [show ((1 : Int32)).toNatClampNeg = 1 from rfl] at hP hD
  have hk13 : (va_up (va_up fe 0 (some e1)) 1 (some e2)) 2 = some e2 := (va_up_ne _ _ (by decide)).trans hk4
  have hk14 : (va_up (va_up fe 0 (some e1)) 1 (some e2)) 3 = some e3 := (va_up_ne _ _ (by decide)).trans hk5
  have hk15 : (va_up (va_up fe 0 (some e1)) 1 (some e2)) 4 = some e4 := (va_up_ne _ _ (by decide)).trans hk6
  have hk16 : (va_up (va_up fe 0 (some e1)) 1 (some e2)) 5 = some e5 := (va_up_ne _ _ (by decide)).trans hk7
  have hk17 : (va_up (va_up fe 0 (some e1)) 1 (some e2)) 6 = some e6 := (va_up_ne _ _ (by decide)).trans hk8
  have hk18 : (va_up (va_up fe 0 (some e1)) 1 (some e2)) 7 = some e7 := (va_up_ne _ _ (by decide)).trans hk9
  have hk19 : (va_up (va_up fe 0 (some e1)) 1 (some e2)) 0 = some e1 := (va_up_ne _ _ (by decide)).trans hk10
  have hk20 : (va_up (va_up fe 0 (some e1)) 1 (some e2)) 1 = some e2 := va_up_self _ _ _
  have hP : va_P D vwCl [(nw, .inr (4, [.ref kk, .ref nk, .ref nd, .ref ne, .ref nm, .ref nn, .int (nI fi), .int (nI gl), .int (nI un), .int (nI mi), .int (nI no)])), (ne, .inl (y 3, 8, .inr (.inr (.inr (.inr (va_up (va_up fe 0 (some e1)) 1 (some e2))))))), (e0, .inr (1, [.ref e0l, .ref e0a, .ref e0s, .int e0st, .int e0cl, .int e0nu])), (e1, .inr (1, [.ref e1l, .ref e1a, .ref e1s, .int e1st, .int e1cl, .int e1nu])), (e2, .inr (1, [.ref e2l, .ref e2a, .ref e2s, .int e2st, .int e2cl, .int e2nu])), (e3, .inr (1, [.ref e3l, .ref e3a, .ref e3s, .int e3st, .int e3cl, .int e3nu])), (e4, .inr (1, [.ref e4l, .ref e4a, .ref e4s, .int e4st, .int e4cl, .int e4nu])), (e5, .inr (1, [.ref e5l, .ref e5a, .ref e5s, .int e5st, .int e5cl, .int e5nu])), (e6, .inr (1, [.ref e6l, .ref e6a, .ref e6s, .int e6st, .int e6cl, .int e6nu])), (e7, .inr (1, [.ref e7l, .ref e7a, .ref e7s, .int e7st, .int e7cl, .int e7nu]))] H := hP
  have hD : va_D A [(nw, .inr (4, [.ref kk, .ref nk, .ref nd, .ref ne, .ref nm, .ref nn, .int (nI fi), .int (nI gl), .int (nI un), .int (nI mi), .int (nI no)])), (ne, .inl (y 3, 8, .inr (.inr (.inr (.inr (va_up (va_up fe 0 (some e1)) 1 (some e2))))))), (e0, .inr (1, [.ref e0l, .ref e0a, .ref e0s, .int e0st, .int e0cl, .int e0nu])), (e1, .inr (1, [.ref e1l, .ref e1a, .ref e1s, .int e1st, .int e1cl, .int e1nu])), (e2, .inr (1, [.ref e2l, .ref e2a, .ref e2s, .int e2st, .int e2cl, .int e2nu])), (e3, .inr (1, [.ref e3l, .ref e3a, .ref e3s, .int e3st, .int e3cl, .int e3nu])), (e4, .inr (1, [.ref e4l, .ref e4a, .ref e4s, .int e4st, .int e4cl, .int e4nu])), (e5, .inr (1, [.ref e5l, .ref e5a, .ref e5s, .int e5st, .int e5cl, .int e5nu])), (e6, .inr (1, [.ref e6l, .ref e6a, .ref e6s, .int e6st, .int e6cl, .int e6nu])), (e7, .inr (1, [.ref e7l, .ref e7a, .ref e7s, .int e7st, .int e7cl, .int e7nu]))] := hD
  refine lv_iinc (v := 3) (lv' := [(2, .int 3), (1, .ref e0), (0, .ref nw)]) hx hb dX4_dropOldest_29 hl (k := 0) rfl (by decide) (by decide) rfl (fun ls hl => ?_)
  refine lv_goto (tgt := 9) hx hb dX4_dropOldest_32 (by decide) ?_
  refine lv_iload_n hx hb dX4_dropOldest_9 rfl (lv_at hl 0 rfl) ?_
  refine lv_bipush (v := 8) hx hb dX4_dropOldest_10 (by decide) ?_
  refine lv_icmp_ge (tgt := 35) hx hb dX4_dropOldest_12 (by decide) (fun h9 => absurd h9 (by decide)) (fun _ => ?_)
  refine lv_aload_n hx hb dX4_dropOldest_15 rfl (lv_at hl 2 rfl) ?_
  refine va_get (D := D) (ci := 4) (v := .ref ne) (C := RX4) (T := TX4) (N := 11) hx hb hts iw4 hown hK hP 0 rfl rfl 3 (by decide) fw1 (fun _ h9 => h9) rfl dX4_dropOldest_16 ?_
  refine lv_iload_n hx hb dX4_dropOldest_19 rfl (lv_at hl 0 rfl) ?_
  refine lv_iconst (v := 1) hx hb dX4_dropOldest_20 (by decide) ?_
  refine lv_isub hx hb dX4_dropOldest_21 ?_
  refine lv_topi (fun z21 hz21 => ?_)
  obtain rfl : z21 = 2 := hz21.trans (by decide)
  refine lv_aload_n hx hb dX4_dropOldest_22 rfl (lv_at hl 2 rfl) ?_
  refine va_get (D := D) (ci := 4) (v := .ref ne) (C := RX4) (T := TX4) (N := 11) hx hb hts iw4 hown hK hP 0 rfl rfl 3 (by decide) fw1 (fun _ h9 => h9) rfl dX4_dropOldest_23 ?_
  refine lv_iload_n hx hb dX4_dropOldest_26 rfl (lv_at hl 0 rfl) ?_
  refine va_aldq hx hb hK hP 1 3 rfl rfl (by unfold vp_in; decide) dX4_dropOldest_27 ?_
  rw [show ((3 : Int32)).toNatClampNeg = 3 from rfl, show va_rf ((va_up (va_up fe 0 (some e1)) 1 (some e2)) 3) = .ref e3 from congrArg va_rf hk14]
  refine va_astq hx hb hK hP hD hS 1 3 5 1 rfl rfl rfl rfl (by unfold vp_in; decide) dX4_dropOldest_28 (fun H locs hP hD hS => ?_)
  rw [show ((2 : Int32)).toNatClampNeg = 2 from rfl] at hP hD
  have hk23 : (va_up (va_up (va_up fe 0 (some e1)) 1 (some e2)) 2 (some e3)) 3 = some e3 := (va_up_ne _ _ (by decide)).trans hk14
  have hk24 : (va_up (va_up (va_up fe 0 (some e1)) 1 (some e2)) 2 (some e3)) 4 = some e4 := (va_up_ne _ _ (by decide)).trans hk15
  have hk25 : (va_up (va_up (va_up fe 0 (some e1)) 1 (some e2)) 2 (some e3)) 5 = some e5 := (va_up_ne _ _ (by decide)).trans hk16
  have hk26 : (va_up (va_up (va_up fe 0 (some e1)) 1 (some e2)) 2 (some e3)) 6 = some e6 := (va_up_ne _ _ (by decide)).trans hk17
  have hk27 : (va_up (va_up (va_up fe 0 (some e1)) 1 (some e2)) 2 (some e3)) 7 = some e7 := (va_up_ne _ _ (by decide)).trans hk18
  have hk28 : (va_up (va_up (va_up fe 0 (some e1)) 1 (some e2)) 2 (some e3)) 0 = some e1 := (va_up_ne _ _ (by decide)).trans hk19
  have hk29 : (va_up (va_up (va_up fe 0 (some e1)) 1 (some e2)) 2 (some e3)) 1 = some e2 := (va_up_ne _ _ (by decide)).trans hk20
  have hk30 : (va_up (va_up (va_up fe 0 (some e1)) 1 (some e2)) 2 (some e3)) 2 = some e3 := va_up_self _ _ _
  have hP : va_P D vwCl [(nw, .inr (4, [.ref kk, .ref nk, .ref nd, .ref ne, .ref nm, .ref nn, .int (nI fi), .int (nI gl), .int (nI un), .int (nI mi), .int (nI no)])), (ne, .inl (y 3, 8, .inr (.inr (.inr (.inr (va_up (va_up (va_up fe 0 (some e1)) 1 (some e2)) 2 (some e3))))))), (e0, .inr (1, [.ref e0l, .ref e0a, .ref e0s, .int e0st, .int e0cl, .int e0nu])), (e1, .inr (1, [.ref e1l, .ref e1a, .ref e1s, .int e1st, .int e1cl, .int e1nu])), (e2, .inr (1, [.ref e2l, .ref e2a, .ref e2s, .int e2st, .int e2cl, .int e2nu])), (e3, .inr (1, [.ref e3l, .ref e3a, .ref e3s, .int e3st, .int e3cl, .int e3nu])), (e4, .inr (1, [.ref e4l, .ref e4a, .ref e4s, .int e4st, .int e4cl, .int e4nu])), (e5, .inr (1, [.ref e5l, .ref e5a, .ref e5s, .int e5st, .int e5cl, .int e5nu])), (e6, .inr (1, [.ref e6l, .ref e6a, .ref e6s, .int e6st, .int e6cl, .int e6nu])), (e7, .inr (1, [.ref e7l, .ref e7a, .ref e7s, .int e7st, .int e7cl, .int e7nu]))] H := hP
  have hD : va_D A [(nw, .inr (4, [.ref kk, .ref nk, .ref nd, .ref ne, .ref nm, .ref nn, .int (nI fi), .int (nI gl), .int (nI un), .int (nI mi), .int (nI no)])), (ne, .inl (y 3, 8, .inr (.inr (.inr (.inr (va_up (va_up (va_up fe 0 (some e1)) 1 (some e2)) 2 (some e3))))))), (e0, .inr (1, [.ref e0l, .ref e0a, .ref e0s, .int e0st, .int e0cl, .int e0nu])), (e1, .inr (1, [.ref e1l, .ref e1a, .ref e1s, .int e1st, .int e1cl, .int e1nu])), (e2, .inr (1, [.ref e2l, .ref e2a, .ref e2s, .int e2st, .int e2cl, .int e2nu])), (e3, .inr (1, [.ref e3l, .ref e3a, .ref e3s, .int e3st, .int e3cl, .int e3nu])), (e4, .inr (1, [.ref e4l, .ref e4a, .ref e4s, .int e4st, .int e4cl, .int e4nu])), (e5, .inr (1, [.ref e5l, .ref e5a, .ref e5s, .int e5st, .int e5cl, .int e5nu])), (e6, .inr (1, [.ref e6l, .ref e6a, .ref e6s, .int e6st, .int e6cl, .int e6nu])), (e7, .inr (1, [.ref e7l, .ref e7a, .ref e7s, .int e7st, .int e7cl, .int e7nu]))] := hD
  refine lv_iinc (v := 4) (lv' := [(2, .int 4), (1, .ref e0), (0, .ref nw)]) hx hb dX4_dropOldest_29 hl (k := 0) rfl (by decide) (by decide) rfl (fun ls hl => ?_)
  refine lv_goto (tgt := 9) hx hb dX4_dropOldest_32 (by decide) ?_
  refine lv_iload_n hx hb dX4_dropOldest_9 rfl (lv_at hl 0 rfl) ?_
  refine lv_bipush (v := 8) hx hb dX4_dropOldest_10 (by decide) ?_
  refine lv_icmp_ge (tgt := 35) hx hb dX4_dropOldest_12 (by decide) (fun h9 => absurd h9 (by decide)) (fun _ => ?_)
  refine lv_aload_n hx hb dX4_dropOldest_15 rfl (lv_at hl 2 rfl) ?_
  refine va_get (D := D) (ci := 4) (v := .ref ne) (C := RX4) (T := TX4) (N := 11) hx hb hts iw4 hown hK hP 0 rfl rfl 3 (by decide) fw1 (fun _ h9 => h9) rfl dX4_dropOldest_16 ?_
  refine lv_iload_n hx hb dX4_dropOldest_19 rfl (lv_at hl 0 rfl) ?_
  refine lv_iconst (v := 1) hx hb dX4_dropOldest_20 (by decide) ?_
  refine lv_isub hx hb dX4_dropOldest_21 ?_
  refine lv_topi (fun z31 hz31 => ?_)
  obtain rfl : z31 = 3 := hz31.trans (by decide)
  refine lv_aload_n hx hb dX4_dropOldest_22 rfl (lv_at hl 2 rfl) ?_
  refine va_get (D := D) (ci := 4) (v := .ref ne) (C := RX4) (T := TX4) (N := 11) hx hb hts iw4 hown hK hP 0 rfl rfl 3 (by decide) fw1 (fun _ h9 => h9) rfl dX4_dropOldest_23 ?_
  refine lv_iload_n hx hb dX4_dropOldest_26 rfl (lv_at hl 0 rfl) ?_
  refine va_aldq hx hb hK hP 1 3 rfl rfl (by unfold vp_in; decide) dX4_dropOldest_27 ?_
  rw [show ((4 : Int32)).toNatClampNeg = 4 from rfl, show va_rf ((va_up (va_up (va_up fe 0 (some e1)) 1 (some e2)) 2 (some e3)) 4) = .ref e4 from congrArg va_rf hk24]
  refine va_astq hx hb hK hP hD hS 1 3 6 1 rfl rfl rfl rfl (by unfold vp_in; decide) dX4_dropOldest_28 (fun H locs hP hD hS => ?_)
  rw [show ((3 : Int32)).toNatClampNeg = 3 from rfl] at hP hD
  have hk33 : (va_up (va_up (va_up (va_up fe 0 (some e1)) 1 (some e2)) 2 (some e3)) 3 (some e4)) 4 = some e4 := (va_up_ne _ _ (by decide)).trans hk24
  have hk34 : (va_up (va_up (va_up (va_up fe 0 (some e1)) 1 (some e2)) 2 (some e3)) 3 (some e4)) 5 = some e5 := (va_up_ne _ _ (by decide)).trans hk25
  have hk35 : (va_up (va_up (va_up (va_up fe 0 (some e1)) 1 (some e2)) 2 (some e3)) 3 (some e4)) 6 = some e6 := (va_up_ne _ _ (by decide)).trans hk26
  have hk36 : (va_up (va_up (va_up (va_up fe 0 (some e1)) 1 (some e2)) 2 (some e3)) 3 (some e4)) 7 = some e7 := (va_up_ne _ _ (by decide)).trans hk27
  have hk37 : (va_up (va_up (va_up (va_up fe 0 (some e1)) 1 (some e2)) 2 (some e3)) 3 (some e4)) 0 = some e1 := (va_up_ne _ _ (by decide)).trans hk28
  have hk38 : (va_up (va_up (va_up (va_up fe 0 (some e1)) 1 (some e2)) 2 (some e3)) 3 (some e4)) 1 = some e2 := (va_up_ne _ _ (by decide)).trans hk29
  have hk39 : (va_up (va_up (va_up (va_up fe 0 (some e1)) 1 (some e2)) 2 (some e3)) 3 (some e4)) 2 = some e3 := (va_up_ne _ _ (by decide)).trans hk30
  have hk40 : (va_up (va_up (va_up (va_up fe 0 (some e1)) 1 (some e2)) 2 (some e3)) 3 (some e4)) 3 = some e4 := va_up_self _ _ _
  have hP : va_P D vwCl [(nw, .inr (4, [.ref kk, .ref nk, .ref nd, .ref ne, .ref nm, .ref nn, .int (nI fi), .int (nI gl), .int (nI un), .int (nI mi), .int (nI no)])), (ne, .inl (y 3, 8, .inr (.inr (.inr (.inr (va_up (va_up (va_up (va_up fe 0 (some e1)) 1 (some e2)) 2 (some e3)) 3 (some e4))))))), (e0, .inr (1, [.ref e0l, .ref e0a, .ref e0s, .int e0st, .int e0cl, .int e0nu])), (e1, .inr (1, [.ref e1l, .ref e1a, .ref e1s, .int e1st, .int e1cl, .int e1nu])), (e2, .inr (1, [.ref e2l, .ref e2a, .ref e2s, .int e2st, .int e2cl, .int e2nu])), (e3, .inr (1, [.ref e3l, .ref e3a, .ref e3s, .int e3st, .int e3cl, .int e3nu])), (e4, .inr (1, [.ref e4l, .ref e4a, .ref e4s, .int e4st, .int e4cl, .int e4nu])), (e5, .inr (1, [.ref e5l, .ref e5a, .ref e5s, .int e5st, .int e5cl, .int e5nu])), (e6, .inr (1, [.ref e6l, .ref e6a, .ref e6s, .int e6st, .int e6cl, .int e6nu])), (e7, .inr (1, [.ref e7l, .ref e7a, .ref e7s, .int e7st, .int e7cl, .int e7nu]))] H := hP
  have hD : va_D A [(nw, .inr (4, [.ref kk, .ref nk, .ref nd, .ref ne, .ref nm, .ref nn, .int (nI fi), .int (nI gl), .int (nI un), .int (nI mi), .int (nI no)])), (ne, .inl (y 3, 8, .inr (.inr (.inr (.inr (va_up (va_up (va_up (va_up fe 0 (some e1)) 1 (some e2)) 2 (some e3)) 3 (some e4))))))), (e0, .inr (1, [.ref e0l, .ref e0a, .ref e0s, .int e0st, .int e0cl, .int e0nu])), (e1, .inr (1, [.ref e1l, .ref e1a, .ref e1s, .int e1st, .int e1cl, .int e1nu])), (e2, .inr (1, [.ref e2l, .ref e2a, .ref e2s, .int e2st, .int e2cl, .int e2nu])), (e3, .inr (1, [.ref e3l, .ref e3a, .ref e3s, .int e3st, .int e3cl, .int e3nu])), (e4, .inr (1, [.ref e4l, .ref e4a, .ref e4s, .int e4st, .int e4cl, .int e4nu])), (e5, .inr (1, [.ref e5l, .ref e5a, .ref e5s, .int e5st, .int e5cl, .int e5nu])), (e6, .inr (1, [.ref e6l, .ref e6a, .ref e6s, .int e6st, .int e6cl, .int e6nu])), (e7, .inr (1, [.ref e7l, .ref e7a, .ref e7s, .int e7st, .int e7cl, .int e7nu]))] := hD
  refine lv_iinc (v := 5) (lv' := [(2, .int 5), (1, .ref e0), (0, .ref nw)]) hx hb dX4_dropOldest_29 hl (k := 0) rfl (by decide) (by decide) rfl (fun ls hl => ?_)
  refine lv_goto (tgt := 9) hx hb dX4_dropOldest_32 (by decide) ?_
  refine lv_iload_n hx hb dX4_dropOldest_9 rfl (lv_at hl 0 rfl) ?_
  refine lv_bipush (v := 8) hx hb dX4_dropOldest_10 (by decide) ?_
  refine lv_icmp_ge (tgt := 35) hx hb dX4_dropOldest_12 (by decide) (fun h9 => absurd h9 (by decide)) (fun _ => ?_)
  refine lv_aload_n hx hb dX4_dropOldest_15 rfl (lv_at hl 2 rfl) ?_
  refine va_get (D := D) (ci := 4) (v := .ref ne) (C := RX4) (T := TX4) (N := 11) hx hb hts iw4 hown hK hP 0 rfl rfl 3 (by decide) fw1 (fun _ h9 => h9) rfl dX4_dropOldest_16 ?_
  refine lv_iload_n hx hb dX4_dropOldest_19 rfl (lv_at hl 0 rfl) ?_
  refine lv_iconst (v := 1) hx hb dX4_dropOldest_20 (by decide) ?_
  refine lv_isub hx hb dX4_dropOldest_21 ?_
  refine lv_topi (fun z41 hz41 => ?_)
  obtain rfl : z41 = 4 := hz41.trans (by decide)
  refine lv_aload_n hx hb dX4_dropOldest_22 rfl (lv_at hl 2 rfl) ?_
  refine va_get (D := D) (ci := 4) (v := .ref ne) (C := RX4) (T := TX4) (N := 11) hx hb hts iw4 hown hK hP 0 rfl rfl 3 (by decide) fw1 (fun _ h9 => h9) rfl dX4_dropOldest_23 ?_
  refine lv_iload_n hx hb dX4_dropOldest_26 rfl (lv_at hl 0 rfl) ?_
  refine va_aldq hx hb hK hP 1 3 rfl rfl (by unfold vp_in; decide) dX4_dropOldest_27 ?_
  rw [show ((5 : Int32)).toNatClampNeg = 5 from rfl, show va_rf ((va_up (va_up (va_up (va_up fe 0 (some e1)) 1 (some e2)) 2 (some e3)) 3 (some e4)) 5) = .ref e5 from congrArg va_rf hk34]
  refine va_astq hx hb hK hP hD hS 1 3 7 1 rfl rfl rfl rfl (by unfold vp_in; decide) dX4_dropOldest_28 (fun H locs hP hD hS => ?_)
  rw [show ((4 : Int32)).toNatClampNeg = 4 from rfl] at hP hD
  have hk43 : (va_up (va_up (va_up (va_up (va_up fe 0 (some e1)) 1 (some e2)) 2 (some e3)) 3 (some e4)) 4 (some e5)) 5 = some e5 := (va_up_ne _ _ (by decide)).trans hk34
  have hk44 : (va_up (va_up (va_up (va_up (va_up fe 0 (some e1)) 1 (some e2)) 2 (some e3)) 3 (some e4)) 4 (some e5)) 6 = some e6 := (va_up_ne _ _ (by decide)).trans hk35
  have hk45 : (va_up (va_up (va_up (va_up (va_up fe 0 (some e1)) 1 (some e2)) 2 (some e3)) 3 (some e4)) 4 (some e5)) 7 = some e7 := (va_up_ne _ _ (by decide)).trans hk36
  have hk46 : (va_up (va_up (va_up (va_up (va_up fe 0 (some e1)) 1 (some e2)) 2 (some e3)) 3 (some e4)) 4 (some e5)) 0 = some e1 := (va_up_ne _ _ (by decide)).trans hk37
  have hk47 : (va_up (va_up (va_up (va_up (va_up fe 0 (some e1)) 1 (some e2)) 2 (some e3)) 3 (some e4)) 4 (some e5)) 1 = some e2 := (va_up_ne _ _ (by decide)).trans hk38
  have hk48 : (va_up (va_up (va_up (va_up (va_up fe 0 (some e1)) 1 (some e2)) 2 (some e3)) 3 (some e4)) 4 (some e5)) 2 = some e3 := (va_up_ne _ _ (by decide)).trans hk39
  have hk49 : (va_up (va_up (va_up (va_up (va_up fe 0 (some e1)) 1 (some e2)) 2 (some e3)) 3 (some e4)) 4 (some e5)) 3 = some e4 := (va_up_ne _ _ (by decide)).trans hk40
  have hk50 : (va_up (va_up (va_up (va_up (va_up fe 0 (some e1)) 1 (some e2)) 2 (some e3)) 3 (some e4)) 4 (some e5)) 4 = some e5 := va_up_self _ _ _
  have hP : va_P D vwCl [(nw, .inr (4, [.ref kk, .ref nk, .ref nd, .ref ne, .ref nm, .ref nn, .int (nI fi), .int (nI gl), .int (nI un), .int (nI mi), .int (nI no)])), (ne, .inl (y 3, 8, .inr (.inr (.inr (.inr (va_up (va_up (va_up (va_up (va_up fe 0 (some e1)) 1 (some e2)) 2 (some e3)) 3 (some e4)) 4 (some e5))))))), (e0, .inr (1, [.ref e0l, .ref e0a, .ref e0s, .int e0st, .int e0cl, .int e0nu])), (e1, .inr (1, [.ref e1l, .ref e1a, .ref e1s, .int e1st, .int e1cl, .int e1nu])), (e2, .inr (1, [.ref e2l, .ref e2a, .ref e2s, .int e2st, .int e2cl, .int e2nu])), (e3, .inr (1, [.ref e3l, .ref e3a, .ref e3s, .int e3st, .int e3cl, .int e3nu])), (e4, .inr (1, [.ref e4l, .ref e4a, .ref e4s, .int e4st, .int e4cl, .int e4nu])), (e5, .inr (1, [.ref e5l, .ref e5a, .ref e5s, .int e5st, .int e5cl, .int e5nu])), (e6, .inr (1, [.ref e6l, .ref e6a, .ref e6s, .int e6st, .int e6cl, .int e6nu])), (e7, .inr (1, [.ref e7l, .ref e7a, .ref e7s, .int e7st, .int e7cl, .int e7nu]))] H := hP
  have hD : va_D A [(nw, .inr (4, [.ref kk, .ref nk, .ref nd, .ref ne, .ref nm, .ref nn, .int (nI fi), .int (nI gl), .int (nI un), .int (nI mi), .int (nI no)])), (ne, .inl (y 3, 8, .inr (.inr (.inr (.inr (va_up (va_up (va_up (va_up (va_up fe 0 (some e1)) 1 (some e2)) 2 (some e3)) 3 (some e4)) 4 (some e5))))))), (e0, .inr (1, [.ref e0l, .ref e0a, .ref e0s, .int e0st, .int e0cl, .int e0nu])), (e1, .inr (1, [.ref e1l, .ref e1a, .ref e1s, .int e1st, .int e1cl, .int e1nu])), (e2, .inr (1, [.ref e2l, .ref e2a, .ref e2s, .int e2st, .int e2cl, .int e2nu])), (e3, .inr (1, [.ref e3l, .ref e3a, .ref e3s, .int e3st, .int e3cl, .int e3nu])), (e4, .inr (1, [.ref e4l, .ref e4a, .ref e4s, .int e4st, .int e4cl, .int e4nu])), (e5, .inr (1, [.ref e5l, .ref e5a, .ref e5s, .int e5st, .int e5cl, .int e5nu])), (e6, .inr (1, [.ref e6l, .ref e6a, .ref e6s, .int e6st, .int e6cl, .int e6nu])), (e7, .inr (1, [.ref e7l, .ref e7a, .ref e7s, .int e7st, .int e7cl, .int e7nu]))] := hD
  refine lv_iinc (v := 6) (lv' := [(2, .int 6), (1, .ref e0), (0, .ref nw)]) hx hb dX4_dropOldest_29 hl (k := 0) rfl (by decide) (by decide) rfl (fun ls hl => ?_)
  refine lv_goto (tgt := 9) hx hb dX4_dropOldest_32 (by decide) ?_
  refine lv_iload_n hx hb dX4_dropOldest_9 rfl (lv_at hl 0 rfl) ?_
  refine lv_bipush (v := 8) hx hb dX4_dropOldest_10 (by decide) ?_
  refine lv_icmp_ge (tgt := 35) hx hb dX4_dropOldest_12 (by decide) (fun h9 => absurd h9 (by decide)) (fun _ => ?_)
  refine lv_aload_n hx hb dX4_dropOldest_15 rfl (lv_at hl 2 rfl) ?_
  refine va_get (D := D) (ci := 4) (v := .ref ne) (C := RX4) (T := TX4) (N := 11) hx hb hts iw4 hown hK hP 0 rfl rfl 3 (by decide) fw1 (fun _ h9 => h9) rfl dX4_dropOldest_16 ?_
  refine lv_iload_n hx hb dX4_dropOldest_19 rfl (lv_at hl 0 rfl) ?_
  refine lv_iconst (v := 1) hx hb dX4_dropOldest_20 (by decide) ?_
  refine lv_isub hx hb dX4_dropOldest_21 ?_
  refine lv_topi (fun z51 hz51 => ?_)
  obtain rfl : z51 = 5 := hz51.trans (by decide)
  refine lv_aload_n hx hb dX4_dropOldest_22 rfl (lv_at hl 2 rfl) ?_
  refine va_get (D := D) (ci := 4) (v := .ref ne) (C := RX4) (T := TX4) (N := 11) hx hb hts iw4 hown hK hP 0 rfl rfl 3 (by decide) fw1 (fun _ h9 => h9) rfl dX4_dropOldest_23 ?_
  refine lv_iload_n hx hb dX4_dropOldest_26 rfl (lv_at hl 0 rfl) ?_
  refine va_aldq hx hb hK hP 1 3 rfl rfl (by unfold vp_in; decide) dX4_dropOldest_27 ?_
  rw [show ((6 : Int32)).toNatClampNeg = 6 from rfl, show va_rf ((va_up (va_up (va_up (va_up (va_up fe 0 (some e1)) 1 (some e2)) 2 (some e3)) 3 (some e4)) 4 (some e5)) 6) = .ref e6 from congrArg va_rf hk44]
  refine va_astq hx hb hK hP hD hS 1 3 8 1 rfl rfl rfl rfl (by unfold vp_in; decide) dX4_dropOldest_28 (fun H locs hP hD hS => ?_)
  rw [show ((5 : Int32)).toNatClampNeg = 5 from rfl] at hP hD
  have hk53 : (va_up (va_up (va_up (va_up (va_up (va_up fe 0 (some e1)) 1 (some e2)) 2 (some e3)) 3 (some e4)) 4 (some e5)) 5 (some e6)) 6 = some e6 := (va_up_ne _ _ (by decide)).trans hk44
  have hk54 : (va_up (va_up (va_up (va_up (va_up (va_up fe 0 (some e1)) 1 (some e2)) 2 (some e3)) 3 (some e4)) 4 (some e5)) 5 (some e6)) 7 = some e7 := (va_up_ne _ _ (by decide)).trans hk45
  have hk55 : (va_up (va_up (va_up (va_up (va_up (va_up fe 0 (some e1)) 1 (some e2)) 2 (some e3)) 3 (some e4)) 4 (some e5)) 5 (some e6)) 0 = some e1 := (va_up_ne _ _ (by decide)).trans hk46
  have hk56 : (va_up (va_up (va_up (va_up (va_up (va_up fe 0 (some e1)) 1 (some e2)) 2 (some e3)) 3 (some e4)) 4 (some e5)) 5 (some e6)) 1 = some e2 := (va_up_ne _ _ (by decide)).trans hk47
  have hk57 : (va_up (va_up (va_up (va_up (va_up (va_up fe 0 (some e1)) 1 (some e2)) 2 (some e3)) 3 (some e4)) 4 (some e5)) 5 (some e6)) 2 = some e3 := (va_up_ne _ _ (by decide)).trans hk48
  have hk58 : (va_up (va_up (va_up (va_up (va_up (va_up fe 0 (some e1)) 1 (some e2)) 2 (some e3)) 3 (some e4)) 4 (some e5)) 5 (some e6)) 3 = some e4 := (va_up_ne _ _ (by decide)).trans hk49
  have hk59 : (va_up (va_up (va_up (va_up (va_up (va_up fe 0 (some e1)) 1 (some e2)) 2 (some e3)) 3 (some e4)) 4 (some e5)) 5 (some e6)) 4 = some e5 := (va_up_ne _ _ (by decide)).trans hk50
  have hk60 : (va_up (va_up (va_up (va_up (va_up (va_up fe 0 (some e1)) 1 (some e2)) 2 (some e3)) 3 (some e4)) 4 (some e5)) 5 (some e6)) 5 = some e6 := va_up_self _ _ _
  have hP : va_P D vwCl [(nw, .inr (4, [.ref kk, .ref nk, .ref nd, .ref ne, .ref nm, .ref nn, .int (nI fi), .int (nI gl), .int (nI un), .int (nI mi), .int (nI no)])), (ne, .inl (y 3, 8, .inr (.inr (.inr (.inr (va_up (va_up (va_up (va_up (va_up (va_up fe 0 (some e1)) 1 (some e2)) 2 (some e3)) 3 (some e4)) 4 (some e5)) 5 (some e6))))))), (e0, .inr (1, [.ref e0l, .ref e0a, .ref e0s, .int e0st, .int e0cl, .int e0nu])), (e1, .inr (1, [.ref e1l, .ref e1a, .ref e1s, .int e1st, .int e1cl, .int e1nu])), (e2, .inr (1, [.ref e2l, .ref e2a, .ref e2s, .int e2st, .int e2cl, .int e2nu])), (e3, .inr (1, [.ref e3l, .ref e3a, .ref e3s, .int e3st, .int e3cl, .int e3nu])), (e4, .inr (1, [.ref e4l, .ref e4a, .ref e4s, .int e4st, .int e4cl, .int e4nu])), (e5, .inr (1, [.ref e5l, .ref e5a, .ref e5s, .int e5st, .int e5cl, .int e5nu])), (e6, .inr (1, [.ref e6l, .ref e6a, .ref e6s, .int e6st, .int e6cl, .int e6nu])), (e7, .inr (1, [.ref e7l, .ref e7a, .ref e7s, .int e7st, .int e7cl, .int e7nu]))] H := hP
  have hD : va_D A [(nw, .inr (4, [.ref kk, .ref nk, .ref nd, .ref ne, .ref nm, .ref nn, .int (nI fi), .int (nI gl), .int (nI un), .int (nI mi), .int (nI no)])), (ne, .inl (y 3, 8, .inr (.inr (.inr (.inr (va_up (va_up (va_up (va_up (va_up (va_up fe 0 (some e1)) 1 (some e2)) 2 (some e3)) 3 (some e4)) 4 (some e5)) 5 (some e6))))))), (e0, .inr (1, [.ref e0l, .ref e0a, .ref e0s, .int e0st, .int e0cl, .int e0nu])), (e1, .inr (1, [.ref e1l, .ref e1a, .ref e1s, .int e1st, .int e1cl, .int e1nu])), (e2, .inr (1, [.ref e2l, .ref e2a, .ref e2s, .int e2st, .int e2cl, .int e2nu])), (e3, .inr (1, [.ref e3l, .ref e3a, .ref e3s, .int e3st, .int e3cl, .int e3nu])), (e4, .inr (1, [.ref e4l, .ref e4a, .ref e4s, .int e4st, .int e4cl, .int e4nu])), (e5, .inr (1, [.ref e5l, .ref e5a, .ref e5s, .int e5st, .int e5cl, .int e5nu])), (e6, .inr (1, [.ref e6l, .ref e6a, .ref e6s, .int e6st, .int e6cl, .int e6nu])), (e7, .inr (1, [.ref e7l, .ref e7a, .ref e7s, .int e7st, .int e7cl, .int e7nu]))] := hD
  refine lv_iinc (v := 7) (lv' := [(2, .int 7), (1, .ref e0), (0, .ref nw)]) hx hb dX4_dropOldest_29 hl (k := 0) rfl (by decide) (by decide) rfl (fun ls hl => ?_)
  refine lv_goto (tgt := 9) hx hb dX4_dropOldest_32 (by decide) ?_
  refine lv_iload_n hx hb dX4_dropOldest_9 rfl (lv_at hl 0 rfl) ?_
  refine lv_bipush (v := 8) hx hb dX4_dropOldest_10 (by decide) ?_
  refine lv_icmp_ge (tgt := 35) hx hb dX4_dropOldest_12 (by decide) (fun h9 => absurd h9 (by decide)) (fun _ => ?_)
  refine lv_aload_n hx hb dX4_dropOldest_15 rfl (lv_at hl 2 rfl) ?_
  refine va_get (D := D) (ci := 4) (v := .ref ne) (C := RX4) (T := TX4) (N := 11) hx hb hts iw4 hown hK hP 0 rfl rfl 3 (by decide) fw1 (fun _ h9 => h9) rfl dX4_dropOldest_16 ?_
  refine lv_iload_n hx hb dX4_dropOldest_19 rfl (lv_at hl 0 rfl) ?_
  refine lv_iconst (v := 1) hx hb dX4_dropOldest_20 (by decide) ?_
  refine lv_isub hx hb dX4_dropOldest_21 ?_
  refine lv_topi (fun z61 hz61 => ?_)
  obtain rfl : z61 = 6 := hz61.trans (by decide)
  refine lv_aload_n hx hb dX4_dropOldest_22 rfl (lv_at hl 2 rfl) ?_
  refine va_get (D := D) (ci := 4) (v := .ref ne) (C := RX4) (T := TX4) (N := 11) hx hb hts iw4 hown hK hP 0 rfl rfl 3 (by decide) fw1 (fun _ h9 => h9) rfl dX4_dropOldest_23 ?_
  refine lv_iload_n hx hb dX4_dropOldest_26 rfl (lv_at hl 0 rfl) ?_
  refine va_aldq hx hb hK hP 1 3 rfl rfl (by unfold vp_in; decide) dX4_dropOldest_27 ?_
  rw [show ((7 : Int32)).toNatClampNeg = 7 from rfl, show va_rf ((va_up (va_up (va_up (va_up (va_up (va_up fe 0 (some e1)) 1 (some e2)) 2 (some e3)) 3 (some e4)) 4 (some e5)) 5 (some e6)) 7) = .ref e7 from congrArg va_rf hk54]
  refine va_astq hx hb hK hP hD hS 1 3 9 1 rfl rfl rfl rfl (by unfold vp_in; decide) dX4_dropOldest_28 (fun H locs hP hD hS => ?_)
  rw [show ((6 : Int32)).toNatClampNeg = 6 from rfl] at hP hD
  have hk63 : (va_up (va_up (va_up (va_up (va_up (va_up (va_up fe 0 (some e1)) 1 (some e2)) 2 (some e3)) 3 (some e4)) 4 (some e5)) 5 (some e6)) 6 (some e7)) 7 = some e7 := (va_up_ne _ _ (by decide)).trans hk54
  have hk64 : (va_up (va_up (va_up (va_up (va_up (va_up (va_up fe 0 (some e1)) 1 (some e2)) 2 (some e3)) 3 (some e4)) 4 (some e5)) 5 (some e6)) 6 (some e7)) 0 = some e1 := (va_up_ne _ _ (by decide)).trans hk55
  have hk65 : (va_up (va_up (va_up (va_up (va_up (va_up (va_up fe 0 (some e1)) 1 (some e2)) 2 (some e3)) 3 (some e4)) 4 (some e5)) 5 (some e6)) 6 (some e7)) 1 = some e2 := (va_up_ne _ _ (by decide)).trans hk56
  have hk66 : (va_up (va_up (va_up (va_up (va_up (va_up (va_up fe 0 (some e1)) 1 (some e2)) 2 (some e3)) 3 (some e4)) 4 (some e5)) 5 (some e6)) 6 (some e7)) 2 = some e3 := (va_up_ne _ _ (by decide)).trans hk57
  have hk67 : (va_up (va_up (va_up (va_up (va_up (va_up (va_up fe 0 (some e1)) 1 (some e2)) 2 (some e3)) 3 (some e4)) 4 (some e5)) 5 (some e6)) 6 (some e7)) 3 = some e4 := (va_up_ne _ _ (by decide)).trans hk58
  have hk68 : (va_up (va_up (va_up (va_up (va_up (va_up (va_up fe 0 (some e1)) 1 (some e2)) 2 (some e3)) 3 (some e4)) 4 (some e5)) 5 (some e6)) 6 (some e7)) 4 = some e5 := (va_up_ne _ _ (by decide)).trans hk59
  have hk69 : (va_up (va_up (va_up (va_up (va_up (va_up (va_up fe 0 (some e1)) 1 (some e2)) 2 (some e3)) 3 (some e4)) 4 (some e5)) 5 (some e6)) 6 (some e7)) 5 = some e6 := (va_up_ne _ _ (by decide)).trans hk60
  have hk70 : (va_up (va_up (va_up (va_up (va_up (va_up (va_up fe 0 (some e1)) 1 (some e2)) 2 (some e3)) 3 (some e4)) 4 (some e5)) 5 (some e6)) 6 (some e7)) 6 = some e7 := va_up_self _ _ _
  have hP : va_P D vwCl [(nw, .inr (4, [.ref kk, .ref nk, .ref nd, .ref ne, .ref nm, .ref nn, .int (nI fi), .int (nI gl), .int (nI un), .int (nI mi), .int (nI no)])), (ne, .inl (y 3, 8, .inr (.inr (.inr (.inr (va_up (va_up (va_up (va_up (va_up (va_up (va_up fe 0 (some e1)) 1 (some e2)) 2 (some e3)) 3 (some e4)) 4 (some e5)) 5 (some e6)) 6 (some e7))))))), (e0, .inr (1, [.ref e0l, .ref e0a, .ref e0s, .int e0st, .int e0cl, .int e0nu])), (e1, .inr (1, [.ref e1l, .ref e1a, .ref e1s, .int e1st, .int e1cl, .int e1nu])), (e2, .inr (1, [.ref e2l, .ref e2a, .ref e2s, .int e2st, .int e2cl, .int e2nu])), (e3, .inr (1, [.ref e3l, .ref e3a, .ref e3s, .int e3st, .int e3cl, .int e3nu])), (e4, .inr (1, [.ref e4l, .ref e4a, .ref e4s, .int e4st, .int e4cl, .int e4nu])), (e5, .inr (1, [.ref e5l, .ref e5a, .ref e5s, .int e5st, .int e5cl, .int e5nu])), (e6, .inr (1, [.ref e6l, .ref e6a, .ref e6s, .int e6st, .int e6cl, .int e6nu])), (e7, .inr (1, [.ref e7l, .ref e7a, .ref e7s, .int e7st, .int e7cl, .int e7nu]))] H := hP
  have hD : va_D A [(nw, .inr (4, [.ref kk, .ref nk, .ref nd, .ref ne, .ref nm, .ref nn, .int (nI fi), .int (nI gl), .int (nI un), .int (nI mi), .int (nI no)])), (ne, .inl (y 3, 8, .inr (.inr (.inr (.inr (va_up (va_up (va_up (va_up (va_up (va_up (va_up fe 0 (some e1)) 1 (some e2)) 2 (some e3)) 3 (some e4)) 4 (some e5)) 5 (some e6)) 6 (some e7))))))), (e0, .inr (1, [.ref e0l, .ref e0a, .ref e0s, .int e0st, .int e0cl, .int e0nu])), (e1, .inr (1, [.ref e1l, .ref e1a, .ref e1s, .int e1st, .int e1cl, .int e1nu])), (e2, .inr (1, [.ref e2l, .ref e2a, .ref e2s, .int e2st, .int e2cl, .int e2nu])), (e3, .inr (1, [.ref e3l, .ref e3a, .ref e3s, .int e3st, .int e3cl, .int e3nu])), (e4, .inr (1, [.ref e4l, .ref e4a, .ref e4s, .int e4st, .int e4cl, .int e4nu])), (e5, .inr (1, [.ref e5l, .ref e5a, .ref e5s, .int e5st, .int e5cl, .int e5nu])), (e6, .inr (1, [.ref e6l, .ref e6a, .ref e6s, .int e6st, .int e6cl, .int e6nu])), (e7, .inr (1, [.ref e7l, .ref e7a, .ref e7s, .int e7st, .int e7cl, .int e7nu]))] := hD
  refine lv_iinc (v := 8) (lv' := [(2, .int 8), (1, .ref e0), (0, .ref nw)]) hx hb dX4_dropOldest_29 hl (k := 0) rfl (by decide) (by decide) rfl (fun ls hl => ?_)
  refine lv_goto (tgt := 9) hx hb dX4_dropOldest_32 (by decide) ?_
  refine lv_iload_n hx hb dX4_dropOldest_9 rfl (lv_at hl 0 rfl) ?_
  refine lv_bipush (v := 8) hx hb dX4_dropOldest_10 (by decide) ?_
  refine lv_icmp_ge (tgt := 35) hx hb dX4_dropOldest_12 (by decide) (fun _ => ?_) (fun h9 => absurd h9 (by decide))
  refine lv_aload_n hx hb dX4_dropOldest_35 rfl (lv_at hl 2 rfl) ?_
  refine va_get (D := D) (ci := 4) (v := .ref ne) (C := RX4) (T := TX4) (N := 11) hx hb hts iw4 hown hK hP 0 rfl rfl 3 (by decide) fw1 (fun _ h9 => h9) rfl dX4_dropOldest_36 ?_
  refine lv_bipush (v := 7) hx hb dX4_dropOldest_39 (by decide) ?_
  refine lv_aload_n hx hb dX4_dropOldest_41 rfl (lv_at hl 1 rfl) ?_
  refine va_astq hx hb hK hP hD hS 1 3 2 1 rfl rfl rfl rfl (by unfold vp_in; decide) dX4_dropOldest_42 (fun H locs hP hD hS => ?_)
  rw [show ((7 : Int32)).toNatClampNeg = 7 from rfl] at hP hD
  have hk72 : (va_up (va_up (va_up (va_up (va_up (va_up (va_up (va_up fe 0 (some e1)) 1 (some e2)) 2 (some e3)) 3 (some e4)) 4 (some e5)) 5 (some e6)) 6 (some e7)) 7 (some e0)) 0 = some e1 := (va_up_ne _ _ (by decide)).trans hk64
  have hk73 : (va_up (va_up (va_up (va_up (va_up (va_up (va_up (va_up fe 0 (some e1)) 1 (some e2)) 2 (some e3)) 3 (some e4)) 4 (some e5)) 5 (some e6)) 6 (some e7)) 7 (some e0)) 1 = some e2 := (va_up_ne _ _ (by decide)).trans hk65
  have hk74 : (va_up (va_up (va_up (va_up (va_up (va_up (va_up (va_up fe 0 (some e1)) 1 (some e2)) 2 (some e3)) 3 (some e4)) 4 (some e5)) 5 (some e6)) 6 (some e7)) 7 (some e0)) 2 = some e3 := (va_up_ne _ _ (by decide)).trans hk66
  have hk75 : (va_up (va_up (va_up (va_up (va_up (va_up (va_up (va_up fe 0 (some e1)) 1 (some e2)) 2 (some e3)) 3 (some e4)) 4 (some e5)) 5 (some e6)) 6 (some e7)) 7 (some e0)) 3 = some e4 := (va_up_ne _ _ (by decide)).trans hk67
  have hk76 : (va_up (va_up (va_up (va_up (va_up (va_up (va_up (va_up fe 0 (some e1)) 1 (some e2)) 2 (some e3)) 3 (some e4)) 4 (some e5)) 5 (some e6)) 6 (some e7)) 7 (some e0)) 4 = some e5 := (va_up_ne _ _ (by decide)).trans hk68
  have hk77 : (va_up (va_up (va_up (va_up (va_up (va_up (va_up (va_up fe 0 (some e1)) 1 (some e2)) 2 (some e3)) 3 (some e4)) 4 (some e5)) 5 (some e6)) 6 (some e7)) 7 (some e0)) 5 = some e6 := (va_up_ne _ _ (by decide)).trans hk69
  have hk78 : (va_up (va_up (va_up (va_up (va_up (va_up (va_up (va_up fe 0 (some e1)) 1 (some e2)) 2 (some e3)) 3 (some e4)) 4 (some e5)) 5 (some e6)) 6 (some e7)) 7 (some e0)) 6 = some e7 := (va_up_ne _ _ (by decide)).trans hk70
  have hk79 : (va_up (va_up (va_up (va_up (va_up (va_up (va_up (va_up fe 0 (some e1)) 1 (some e2)) 2 (some e3)) 3 (some e4)) 4 (some e5)) 5 (some e6)) 6 (some e7)) 7 (some e0)) 7 = some e0 := va_up_self _ _ _
  have hP : va_P D vwCl [(nw, .inr (4, [.ref kk, .ref nk, .ref nd, .ref ne, .ref nm, .ref nn, .int (nI fi), .int (nI gl), .int (nI un), .int (nI mi), .int (nI no)])), (ne, .inl (y 3, 8, .inr (.inr (.inr (.inr (va_up (va_up (va_up (va_up (va_up (va_up (va_up (va_up fe 0 (some e1)) 1 (some e2)) 2 (some e3)) 3 (some e4)) 4 (some e5)) 5 (some e6)) 6 (some e7)) 7 (some e0))))))), (e0, .inr (1, [.ref e0l, .ref e0a, .ref e0s, .int e0st, .int e0cl, .int e0nu])), (e1, .inr (1, [.ref e1l, .ref e1a, .ref e1s, .int e1st, .int e1cl, .int e1nu])), (e2, .inr (1, [.ref e2l, .ref e2a, .ref e2s, .int e2st, .int e2cl, .int e2nu])), (e3, .inr (1, [.ref e3l, .ref e3a, .ref e3s, .int e3st, .int e3cl, .int e3nu])), (e4, .inr (1, [.ref e4l, .ref e4a, .ref e4s, .int e4st, .int e4cl, .int e4nu])), (e5, .inr (1, [.ref e5l, .ref e5a, .ref e5s, .int e5st, .int e5cl, .int e5nu])), (e6, .inr (1, [.ref e6l, .ref e6a, .ref e6s, .int e6st, .int e6cl, .int e6nu])), (e7, .inr (1, [.ref e7l, .ref e7a, .ref e7s, .int e7st, .int e7cl, .int e7nu]))] H := hP
  have hD : va_D A [(nw, .inr (4, [.ref kk, .ref nk, .ref nd, .ref ne, .ref nm, .ref nn, .int (nI fi), .int (nI gl), .int (nI un), .int (nI mi), .int (nI no)])), (ne, .inl (y 3, 8, .inr (.inr (.inr (.inr (va_up (va_up (va_up (va_up (va_up (va_up (va_up (va_up fe 0 (some e1)) 1 (some e2)) 2 (some e3)) 3 (some e4)) 4 (some e5)) 5 (some e6)) 6 (some e7)) 7 (some e0))))))), (e0, .inr (1, [.ref e0l, .ref e0a, .ref e0s, .int e0st, .int e0cl, .int e0nu])), (e1, .inr (1, [.ref e1l, .ref e1a, .ref e1s, .int e1st, .int e1cl, .int e1nu])), (e2, .inr (1, [.ref e2l, .ref e2a, .ref e2s, .int e2st, .int e2cl, .int e2nu])), (e3, .inr (1, [.ref e3l, .ref e3a, .ref e3s, .int e3st, .int e3cl, .int e3nu])), (e4, .inr (1, [.ref e4l, .ref e4a, .ref e4s, .int e4st, .int e4cl, .int e4nu])), (e5, .inr (1, [.ref e5l, .ref e5a, .ref e5s, .int e5st, .int e5cl, .int e5nu])), (e6, .inr (1, [.ref e6l, .ref e6a, .ref e6s, .int e6st, .int e6cl, .int e6nu])), (e7, .inr (1, [.ref e7l, .ref e7a, .ref e7s, .int e7st, .int e7cl, .int e7nu]))] := hD
  refine lv_aload_n hx hb dX4_dropOldest_43 rfl (lv_at hl 2 rfl) ?_
  refine lv_dup hx hb dX4_dropOldest_44 rfl ?_
  refine va_get (D := D) (ci := 4) (v := .int (nI un)) (C := RX4) (T := TX4) (N := 11) hx hb hts iw4 hown hK hP 0 rfl rfl 8 (by decide) fw2 (fun _ h9 => h9) rfl dX4_dropOldest_45 ?_
  refine lv_iconst (v := 1) hx hb dX4_dropOldest_48 (by decide) ?_
  refine lv_isub hx hb dX4_dropOldest_49 ?_
  rw [show (nI un) - 1 = nI (un - 1) from pk_sub (a := un) (b := 1) (by omega)]
  refine va_put (D := D) (ci := 4) (v := .int (nI (un - 1))) (ty := .int) (C := RX4) (T := TX4) (N := 11) hx hb hts iw4 tyX4 tyX4_ok nmX4 hown hK hP hD hS 0 rfl rfl 8 (by decide) fw2 (fun _ h9 => h9) rfl (by decide +kernel) rfl rfl (Nat.le_of_ble_eq_true rfl) dX4_dropOldest_50 (fun H locs hP hD hS => ?_)
  have hP : va_P D vwCl [(nw, .inr (4, [.ref kk, .ref nk, .ref nd, .ref ne, .ref nm, .ref nn, .int (nI fi), .int (nI gl), .int (nI (un - 1)), .int (nI mi), .int (nI no)])), (ne, .inl (y 3, 8, .inr (.inr (.inr (.inr (va_up (va_up (va_up (va_up (va_up (va_up (va_up (va_up fe 0 (some e1)) 1 (some e2)) 2 (some e3)) 3 (some e4)) 4 (some e5)) 5 (some e6)) 6 (some e7)) 7 (some e0))))))), (e0, .inr (1, [.ref e0l, .ref e0a, .ref e0s, .int e0st, .int e0cl, .int e0nu])), (e1, .inr (1, [.ref e1l, .ref e1a, .ref e1s, .int e1st, .int e1cl, .int e1nu])), (e2, .inr (1, [.ref e2l, .ref e2a, .ref e2s, .int e2st, .int e2cl, .int e2nu])), (e3, .inr (1, [.ref e3l, .ref e3a, .ref e3s, .int e3st, .int e3cl, .int e3nu])), (e4, .inr (1, [.ref e4l, .ref e4a, .ref e4s, .int e4st, .int e4cl, .int e4nu])), (e5, .inr (1, [.ref e5l, .ref e5a, .ref e5s, .int e5st, .int e5cl, .int e5nu])), (e6, .inr (1, [.ref e6l, .ref e6a, .ref e6s, .int e6st, .int e6cl, .int e6nu])), (e7, .inr (1, [.ref e7l, .ref e7a, .ref e7s, .int e7st, .int e7cl, .int e7nu]))] H := hP
  have hD : va_D A [(nw, .inr (4, [.ref kk, .ref nk, .ref nd, .ref ne, .ref nm, .ref nn, .int (nI fi), .int (nI gl), .int (nI (un - 1)), .int (nI mi), .int (nI no)])), (ne, .inl (y 3, 8, .inr (.inr (.inr (.inr (va_up (va_up (va_up (va_up (va_up (va_up (va_up (va_up fe 0 (some e1)) 1 (some e2)) 2 (some e3)) 3 (some e4)) 4 (some e5)) 5 (some e6)) 6 (some e7)) 7 (some e0))))))), (e0, .inr (1, [.ref e0l, .ref e0a, .ref e0s, .int e0st, .int e0cl, .int e0nu])), (e1, .inr (1, [.ref e1l, .ref e1a, .ref e1s, .int e1st, .int e1cl, .int e1nu])), (e2, .inr (1, [.ref e2l, .ref e2a, .ref e2s, .int e2st, .int e2cl, .int e2nu])), (e3, .inr (1, [.ref e3l, .ref e3a, .ref e3s, .int e3st, .int e3cl, .int e3nu])), (e4, .inr (1, [.ref e4l, .ref e4a, .ref e4s, .int e4st, .int e4cl, .int e4nu])), (e5, .inr (1, [.ref e5l, .ref e5a, .ref e5s, .int e5st, .int e5cl, .int e5nu])), (e6, .inr (1, [.ref e6l, .ref e6a, .ref e6s, .int e6st, .int e6cl, .int e6nu])), (e7, .inr (1, [.ref e7l, .ref e7a, .ref e7s, .int e7st, .int e7cl, .int e7nu]))] := hD
  exact W.vret hx hb hr (fun tZ ht hW => ⟨⟨((fun _ => 0), (fun _ => 0), (fun _ => (fun _ => 0)), (fun _ => (va_up (va_up (va_up (va_up (va_up (va_up (va_up (va_up fe 0 (some e1)) 1 (some e2)) 2 (some e3)) 3 (some e4)) 4 (some e5)) 5 (some e6)) 6 (some e7)) 7 (some e0))), (fun _ => 0)), rfl, ⟨hk72, hk73, hk74, hk75, hk76, hk77, hk78, hk79⟩, by rw [ht]; exact hP.sub [0, 1, 3, 4, 5, 6, 7, 8, 9, 2] rfl, hD.sub [0, 1, 3, 4, 5, 6, 7, 8, 9, 2] (by decide) rfl⟩, hS.F ht⟩) hS.2.2 dX4_dropOldest_53
