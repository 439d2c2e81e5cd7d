set_option maxHeartbeats 4000000 in
set_option maxRecDepth 100000 in
theorem gt_takesN (l : Launch) (D : va_G) (y : Nat → ClassId) (tx : Nat) (bys : Nat) (wo : Nat) (fs : Nat) (sc : Nat) (ln : Nat) (sta : Nat) (en : Nat) (tok : Int32) (num : Int32) (tfi : Int32) (tgl : Int32) (tst : Int32) (fby : Nat → Int32) (rw : Nat) (frw : Nat → Int32) (k : Nat) (hln : ln ≤ 150) (hen : en ≤ ln) (hk : k < 25) : kw_Mi l yX7_takes wsX7_takes ({ frames := 4, cells := 0, slots := 0, locals := 120 }) D y [.ref tx, .ref rw, .int (nI k), .int 0, .int (-1)] [(tx, .inr (7, [.ref bys, .int (nI ln), .int tok, .int (nI sta), .int (nI en), .int num, .ref wo, .ref fs, .ref sc, .int tfi, .int tgl, .int tst])), (bys, .inl (y 1, 150, .inl fby)), (rw, .inl (y 0, 25, .inl frw))] (fun (r : Int32) (u : Int32 × Nat × Nat × Int32) => u.2.1 ≤ ln ∧ u.2.2.1 ≤ ln ∧ u.2.1 ≤ u.2.2.1 ∧ r = 0) (fun u => [(tx, .inr (7, [.ref bys, .int (nI ln), .int u.1, .int (nI u.2.1), .int (nI u.2.2.1), .int u.2.2.2, .ref wo, .ref fs, .ref sc, .int tfi, .int tgl, .int tst])), (bys, .inl (y 1, 150, .inl fby)), (rw, .inl (y 0, 25, .inl frw))]) 0 0 := by
  refine kw_Mi.of (cc := cX7_takes) (maxL := 5) (ret := (some .boolean)) (by decide) rfl ?_
  intro pZ eZ s mZ beZ meZ cZ A hE
  obtain ⟨hx, hb, hr, hml, hts, hown, hlocks, hin, hA, hP, hD, hK, hN⟩ := hE
  have hS : va_S A s.heap s.heap [] := va_S.rf
  have hl := lv_entry ([.ref tx, .ref rw, .int (nI k), .int 0, .int (-1)]) (n := 5) (Nat.le_of_ble_eq_true rfl)
  rw [lg_entry_eq]
  generalize (lg_sl ([.ref tx, .ref rw, .int (nI k), .int 0, .int (-1)]) ++ List.replicate (5 - (lg_sl ([.ref tx, .ref rw, .int (nI k), .int 0, .int (-1)])).length) Slot.unset).toArray = ls at hl ⊢
  have hl : lv_has ls 5 [(0, .ref tx), (1, .ref rw), (2, .int (nI k)), (3, .int 0), (4, .int (-1))] := hl
  have fw1 := hts (.fieldLink RX7 44 "GleanDusk$Text" "token" "I") (List.mem_of_getElem? (i := 1) rfl)
  have fw2 := hts (.fieldLink RX7 62 "GleanDusk$Text" "number" "I") (List.mem_of_getElem? (i := 2) rfl)
  have fw3 := hts (.initialized RX10) (List.mem_of_getElem? (i := 31) rfl)
  have fw4 := hts (.static yX10_isIn) (List.mem_of_getElem? (i := 30) rfl)
  have iw7 : ∀ w ∈ wsX70, w ∈ wsX7_takes := fun _ h => List.mem_cons_of_mem _ (List.mem_append_right _ h)
  refine lv_aload_n hx hb dX7_takes_0 rfl (lv_at hl 0 rfl) ?_
  have hs1 : kw_Split [(tx, .inr (7, [.ref bys, .int (nI ln), .int tok, .int (nI sta), .int (nI en), .int num, .ref wo, .ref fs, .ref sc, .int tfi, .int tgl, .int tst])), (bys, .inl (y 1, 150, .inl fby)), (rw, .inl (y 0, 25, .inl frw))] [(tx, .inr (7, [.ref bys, .int (nI ln), .int tok, .int (nI sta), .int (nI en), .int num, .ref wo, .ref fs, .ref sc, .int tfi, .int tgl, .int tst])), (bys, .inl (y 1, 150, .inl fby))] [(rw, .inl (y 0, 25, .inl frw))] [0, 1] [2] := ⟨rfl, rfl, rfl, rfl, rfl, by decide⟩
  refine kw_go_v hs1 hP hD hS hA (va_runV (As := []) (rest := []) ⟨hx, hb, hml, hown, hts⟩ (gt_advance l D y tx bys wo fs sc ln sta en tok num tfi tgl tst fby hln hen _) (cwV 0 hts gX7_takes_X7_advance rfl rfl rfl (by decide +kernel) ⟨Nat.le_of_ble_eq_true rfl, Nat.le_of_ble_eq_true rfl⟩) (kw_PreV (ci := 7) (q0 := 0) hs1 hP hD hK hN rfl rfl) rfl rfl hl.1 rfl (lv_room (Nat.le_of_ble_eq_true rfl)) dX7_takes_1 ⟨Nat.le_of_ble_eq_true rfl, Nat.le_of_ble_eq_true rfl⟩) (fun u3 H locs hq hP hD hS => ?_)
  obtain ⟨v4, v5, v6, v7⟩ := u3
  try dsimp only at hq
  obtain ⟨h8, h9, h10⟩ := hq
  have hP : va_P D vwCl [(rw, .inl (y 0, 25, .inl frw)), (tx, .inr (7, [.ref bys, .int (nI ln), .int v4, .int (nI v5), .int (nI v6), .int v7, .ref wo, .ref fs, .ref sc, .int tfi, .int tgl, .int tst])), (bys, .inl (y 1, 150, .inl fby))] H := hP
  have hD : va_D A [(rw, .inl (y 0, 25, .inl frw)), (tx, .inr (7, [.ref bys, .int (nI ln), .int v4, .int (nI v5), .int (nI v6), .int v7, .ref wo, .ref fs, .ref sc, .int tfi, .int tgl, .int tst])), (bys, .inl (y 1, 150, .inl fby))] := hD
  refine lv_aload_n hx hb dX7_takes_4 rfl (lv_at hl 0 rfl) ?_
  refine va_get (D := D) (ci := 7) (v := .int v4) (C := RX7) (T := TX7) (N := 12) hx hb hts iw7 hown hK hP 1 rfl rfl 2 (by decide) fw1 (fun _ h9 => h9) rfl dX7_takes_5 ?_
  refine lv_iconst (v := 2) hx hb dX7_takes_8 (by decide) ?_
  refine lv_icmp_ne (tgt := 25) hx hb dX7_takes_9 (by decide) (fun h11 => ?_) (fun h12 => ?_)
  · skip
    refine lv_iconst (v := 0) hx hb dX7_takes_25 (by decide) ?_
    exact W.zret (v := 0) hx hb hr (by decide) (fun tZ ht hW => ⟨⟨0, (v4, v5, v6, v7), rfl, ⟨by first | omega | (dsimp only; omega), by first | omega | (dsimp only; omega), by first | omega | (dsimp only; omega), rfl⟩, by rw [ht]; exact hP.sub [1, 2, 0] rfl, hD.sub [1, 2, 0] (by decide) rfl⟩, hS.F ht⟩) hS.2.2 dX7_takes_26
  · skip
    refine lv_aload_n hx hb dX7_takes_12 rfl (lv_at hl 0 rfl) ?_
    refine va_get (D := D) (ci := 7) (v := .int v7) (C := RX7) (T := TX7) (N := 12) hx hb hts iw7 hown hK hP 1 rfl rfl 5 (by decide) fw2 (fun _ h9 => h9) rfl dX7_takes_13 ?_
    refine lv_iload_n hx hb dX7_takes_16 rfl (lv_at hl 3 rfl) ?_
    refine lv_iload hx hb dX7_takes_17 (lv_at hl 4 rfl) ?_
    have hs13 : kw_Split [(rw, .inl (y 0, 25, .inl frw)), (tx, .inr (7, [.ref bys, .int (nI ln), .int v4, .int (nI v5), .int (nI v6), .int v7, .ref wo, .ref fs, .ref sc, .int tfi, .int tgl, .int tst])), (bys, .inl (y 1, 150, .inl fby))] [] [(rw, .inl (y 0, 25, .inl frw)), (tx, .inr (7, [.ref bys, .int (nI ln), .int v4, .int (nI v5), .int (nI v6), .int v7, .ref wo, .ref fs, .ref sc, .int tfi, .int tgl, .int tst])), (bys, .inl (y 1, 150, .inl fby))] [] [0, 1, 2] := ⟨rfl, rfl, rfl, rfl, rfl, by decide⟩
    refine kw_go_i hs13 hP hD hS hA (va_runSN (As := [.int v7, .int 0, .int (-1)]) (rest := []) ⟨hx, hb, hml, hown, hts⟩ (gt_isInN l D y v7  _) ⟨va_cnB 3 hts gX7_takes_X10_isIn_n85 rfl rfl rfl (hN.1 ("GleanDusk$Text", 85, yX10_isIn) (List.mem_of_getElem? (i := 16) rfl)) fw3 (by decide +kernel) ⟨Nat.le_of_ble_eq_true rfl, Nat.le_of_ble_eq_true rfl⟩, fw4, trivial⟩ (kw_PreS hs13 hP hD hK hN) rfl rfl hl.1 rfl (lv_room (Nat.le_of_ble_eq_true rfl)) dX7_takes_19 ⟨Nat.le_of_ble_eq_true rfl, Nat.le_of_ble_eq_true rfl⟩) (fun r14 u15 H locs hq hP hD hS => ?_)
    obtain rfl := hq
    have hP : va_P D vwCl [(rw, .inl (y 0, 25, .inl frw)), (tx, .inr (7, [.ref bys, .int (nI ln), .int v4, .int (nI v5), .int (nI v6), .int v7, .ref wo, .ref fs, .ref sc, .int tfi, .int tgl, .int tst])), (bys, .inl (y 1, 150, .inl fby))] H := hP
    have hD : va_D A [(rw, .inl (y 0, 25, .inl frw)), (tx, .inr (7, [.ref bys, .int (nI ln), .int v4, .int (nI v5), .int (nI v6), .int v7, .ref wo, .ref fs, .ref sc, .int tfi, .int tgl, .int tst])), (bys, .inl (y 1, 150, .inl fby))] := hD
    refine lv_if_ne (tgt := 27) hx hb dX7_takes_22 (by decide) (fun h9 => absurd h9 (by decide)) (fun _ => ?_)
    refine lv_iconst (v := 0) hx hb dX7_takes_25 (by decide) ?_
    exact W.zret (v := 0) hx hb hr (by decide) (fun tZ ht hW => ⟨⟨0, (v4, v5, v6, v7), rfl, ⟨by first | omega | (dsimp only; omega), by first | omega | (dsimp only; omega), by first | omega | (dsimp only; omega), rfl⟩, by rw [ht]; exact hP.sub [1, 2, 0] rfl, hD.sub [1, 2, 0] (by decide) rfl⟩, hS.F ht⟩) hS.2.2 dX7_takes_26
