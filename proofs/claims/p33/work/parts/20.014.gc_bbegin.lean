set_option maxHeartbeats 4000000 in
set_option maxRecDepth 100000 in
theorem gc_bbegin (l : Launch) (D : va_G) (y : Nat → ClassId) (be : Nat) (br : Nat) (bf : Nat) (bm : Int32)  : kw_Mv l yX0_begin wsX0_begin ({ frames := 1, cells := 0, slots := 0, locals := 60 }) D y [.ref be] [(be, .inr (0, [.ref br, .ref bf, .int bm]))] (fun (u : Unit) => True) (fun _ => [(be, .inr (0, [.ref br, .ref bf, .int (-1)]))]) 0 0 := by
  refine kw_Mv.of (cc := cX0_begin) (maxL := 1) (ret := none) (by decide) rfl ?_
  intro pZ eZ s mZ beZ meZ cZ A hE
  obtain ⟨hx, hb, hr, hml, hts, hown, hlocks, hin, hA, hP, hD, hK, hN⟩ := hE
  have hS : va_S A s.heap s.heap [] := va_S.rf
  have hl := lv_entry ([.ref be]) (n := 1) (Nat.le_of_ble_eq_true rfl)
  rw [lg_entry_eq]
  generalize (lg_sl ([.ref be]) ++ List.replicate (1 - (lg_sl ([.ref be])).length) Slot.unset).toArray = ls at hl ⊢
  have hl : lv_has ls 1 [(0, .ref be)] := hl
  have fw1 := hts (.fieldLink RX0 18 "GleanDusk$Best" "most" "I") (List.mem_of_getElem? (i := 1) rfl)
  have iw0 : ∀ w ∈ wsX00, w ∈ wsX0_begin := fun _ h => List.mem_cons_of_mem _ (List.mem_append_right _ h)
  refine lv_aload_n hx hb dX0_begin_0 rfl (lv_at hl 0 rfl) ?_
  refine lv_iconst (v := (-1)) hx hb dX0_begin_1 (by decide) ?_
  refine va_put (D := D) (ci := 0) (v := .int (-1)) (ty := .int) (C := RX0) (T := TX0) (N := 3) hx hb hts iw0 tyX0 tyX0_ok nmX0 hown hK hP hD hS 0 rfl rfl 2 (by decide) fw1 (fun _ h9 => h9) rfl (by decide +kernel) rfl rfl (Nat.le_of_ble_eq_true rfl) dX0_begin_2 (fun H locs hP hD hS => ?_)
  have hP : va_P D vwCl [(be, .inr (0, [.ref br, .ref bf, .int (-1)]))] H := hP
  have hD : va_D A [(be, .inr (0, [.ref br, .ref bf, .int (-1)]))] := hD
  exact W.vret hx hb hr (fun tZ ht hW => ⟨⟨(), rfl, trivial, by rw [ht]; exact hP.sub [0] rfl, hD.sub [0] (by decide) rfl⟩, hS.F ht⟩) hS.2.2 dX0_begin_5

set_option maxHeartbeats 4000000 in
set_option maxRecDepth 100000 in
theorem gc_offer (l : Launch) (D : va_G) (y : Nat → ClassId) (be : Nat) (br : Nat) (bf : Nat) (bm : Int32) (fbr : Nat → Int32) (fbf : Nat → Int32) (x : Int32) (k : Nat) (hkk : k ≤ 6) : kw_Mv l yX0_offer wsX0_offer ({ frames := 1, cells := 0, slots := 0, locals := 60 }) D y [.ref be, .int x, .int (nI k)] [(be, .inr (0, [.ref br, .ref bf, .int bm])), (br, .inl (y 0, 6, .inl fbr)), (bf, .inl (y 0, 6, .inl fbf))] (fun (u : Int32 × (Nat → Int32)) => True) (fun u => [(be, .inr (0, [.ref br, .ref bf, .int u.1])), (br, .inl (y 0, 6, .inl fbr)), (bf, .inl (y 0, 6, .inl u.2))]) 0 0 := by
  refine kw_Mv.of (cc := cX0_offer) (maxL := 3) (ret := none) (by decide) rfl ?_
  intro pZ eZ s mZ beZ meZ cZ A hE
  obtain ⟨hx, hb, hr, hml, hts, hown, hlocks, hin, hA, hP, hD, hK, hN⟩ := hE
  have hS : va_S A s.heap s.heap [] := va_S.rf
  have hl := lv_entry ([.ref be, .int x, .int (nI k)]) (n := 3) (Nat.le_of_ble_eq_true rfl)
  rw [lg_entry_eq]
  generalize (lg_sl ([.ref be, .int x, .int (nI k)]) ++ List.replicate (3 - (lg_sl ([.ref be, .int x, .int (nI k)])).length) Slot.unset).toArray = ls at hl ⊢
  have hl : lv_has ls 3 [(0, .ref be), (1, .int x), (2, .int (nI k))] := hl
  have fw1 := hts (.fieldLink RX0 18 "GleanDusk$Best" "most" "I") (List.mem_of_getElem? (i := 1) rfl)
  have fw2 := hts (.fieldLink RX0 9 "GleanDusk$Best" "row" "[I") (List.mem_of_getElem? (i := 2) rfl)
  have fw3 := hts (.fieldLink RX0 15 "GleanDusk$Best" "first" "[I") (List.mem_of_getElem? (i := 3) rfl)
  have fw4 := hts (.methodLink RX0 22 Lib.Math.min.name) (List.mem_of_getElem? (i := 4) rfl)
  have fw5 := hts (.static Lib.Math.min.name) (List.mem_of_getElem? (i := 5) rfl)
  have fw6 := hts (.initialized "java/lang/Math") (List.mem_of_getElem? (i := 6) rfl)
  have fw7 := hts (.code Lib.Math.min.name Lib.Math.min.code 2 (some .int)) (List.mem_of_getElem? (i := 7) rfl)
  have fw8 := hts (.methodLink RX0 28 arraycopyName) (List.mem_of_getElem? (i := 8) rfl)
  have fw9 := hts (.native arraycopyName) (List.mem_of_getElem? (i := 9) rfl)
  have fw10 := hts (.static arraycopyName) (List.mem_of_getElem? (i := 10) rfl)
  have fw11 := hts (.initialized "java/lang/System") (List.mem_of_getElem? (i := 11) rfl)
  have iw0 : ∀ w ∈ wsX00, w ∈ wsX0_offer := fun _ h => List.mem_cons_of_mem _ (List.mem_append_right _ h)
  refine lv_iload_n hx hb dX0_offer_0 rfl (lv_at hl 1 rfl) ?_
  refine lv_aload_n hx hb dX0_offer_1 rfl (lv_at hl 0 rfl) ?_
  refine va_get (D := D) (ci := 0) (v := .int bm) (C := RX0) (T := TX0) (N := 3) hx hb hts iw0 hown hK hP 0 rfl rfl 2 (by decide) fw1 (fun _ h9 => h9) rfl dX0_offer_2 ?_
  refine lv_icmp_gt (tgt := 9) hx hb dX0_offer_5 (by decide) (fun h1 => ?_) (fun h2 => ?_)
  · skip
    refine lv_aload_n hx hb dX0_offer_9 rfl (lv_at hl 0 rfl) ?_
    refine lv_iload_n hx hb dX0_offer_10 rfl (lv_at hl 1 rfl) ?_
    refine va_put (D := D) (ci := 0) (v := .int x) (ty := .int) (C := RX0) (T := TX0) (N := 3) hx hb hts iw0 tyX0 tyX0_ok nmX0 hown hK hP hD hS 0 rfl rfl 2 (by decide) fw1 (fun _ h9 => h9) rfl (by decide +kernel) rfl rfl (Nat.le_of_ble_eq_true rfl) dX0_offer_11 (fun H locs hP hD hS => ?_)
    have hP : va_P D vwCl [(be, .inr (0, [.ref br, .ref bf, .int x])), (br, .inl (y 0, 6, .inl fbr)), (bf, .inl (y 0, 6, .inl fbf))] H := hP
    have hD : va_D A [(be, .inr (0, [.ref br, .ref bf, .int x])), (br, .inl (y 0, 6, .inl fbr)), (bf, .inl (y 0, 6, .inl fbf))] := hD
    refine lv_aload_n hx hb dX0_offer_14 rfl (lv_at hl 0 rfl) ?_
    refine va_get (D := D) (ci := 0) (v := .ref br) (C := RX0) (T := TX0) (N := 3) hx hb hts iw0 hown hK hP 0 rfl rfl 0 (by decide) fw2 (fun _ h9 => h9) rfl dX0_offer_15 ?_
    refine lv_iconst (v := 0) hx hb dX0_offer_18 (by decide) ?_
    refine lv_aload_n hx hb dX0_offer_19 rfl (lv_at hl 0 rfl) ?_
    refine va_get (D := D) (ci := 0) (v := .ref bf) (C := RX0) (T := TX0) (N := 3) hx hb hts iw0 hown hK hP 0 rfl rfl 1 (by decide) fw3 (fun _ h9 => h9) rfl dX0_offer_20 ?_
    refine lv_iconst (v := 0) hx hb dX0_offer_23 (by decide) ?_
    refine lv_iload_n hx hb dX0_offer_24 rfl (lv_at hl 2 rfl) ?_
    refine lv_bipush (v := 6) hx hb dX0_offer_25 (by decide) ?_
    refine va_mmin hx hb (hml.trans hl.1.symm) hown fw4 fw5 fw6 fw7 (Nat.le_of_ble_eq_true rfl) (Nat.le_of_ble_eq_true rfl) (Nat.le_of_ble_eq_true rfl) (Nat.le_of_ble_eq_true rfl) dX0_offer_27 ?_
    rw [show (if 6 < (nI k) then 6 else (nI k)) = nI (min k 6) from kw_min (a := k) (b := 6) (by omega) (by omega)]
    refine va_copyi hx hb (hml.trans hl.1.symm) hown fw8 fw9 fw10 fw11 hK hP hD hS 1 2 0 0 rfl rfl rfl rfl rfl (by decide) (by decide) (nI_pos (by omega)) (by rw [nI_clamp (by omega)]; show 0 + _ ≤ _; omega) (by rw [nI_clamp (by omega)]; show 0 + _ ≤ _; omega) (fun _ _ => rfl) (Nat.le_of_ble_eq_true rfl) (Nat.le_of_ble_eq_true rfl) dX0_offer_30 (fun H locs hP hD hS => ?_)
    rw [show ((0 : Int32)).toNatClampNeg = 0 from rfl, nI_clamp (n := (min k 6)) (by omega)] at hP hD
    have hP : va_P D vwCl [(be, .inr (0, [.ref br, .ref bf, .int x])), (br, .inl (y 0, 6, .inl fbr)), (bf, .inl (y 0, 6, .inl (va_cpy fbr fbf 0 0 (min k 6))))] H := hP
    have hD : va_D A [(be, .inr (0, [.ref br, .ref bf, .int x])), (br, .inl (y 0, 6, .inl fbr)), (bf, .inl (y 0, 6, .inl (va_cpy fbr fbf 0 0 (min k 6))))] := hD
    exact W.vret hx hb hr (fun tZ ht hW => ⟨⟨(x, (va_cpy fbr fbf 0 0 (min k 6))), rfl, trivial, by rw [ht]; exact hP.sub [0, 1, 2] rfl, hD.sub [0, 1, 2] (by decide) rfl⟩, hS.F ht⟩) hS.2.2 dX0_offer_33
  · skip
    exact W.vret hx hb hr (fun tZ ht hW => ⟨⟨(bm, fbf), rfl, trivial, by rw [ht]; exact hP.sub [0, 1, 2] rfl, hD.sub [0, 1, 2] (by decide) rfl⟩, hS.F ht⟩) hS.2.2 dX0_offer_8

set_option maxHeartbeats 4000000 in
set_option maxRecDepth 100000 in
theorem gc_roam0 (l : Launch) (D : va_G) (y : Nat → ClassId) (g : Nat) (kk : Nat) (nw : Nat) (im : Nat) (kp : Nat) (tx : Nat) (tr : Nat) (be : Nat) (sh : Nat) (sd : Nat) (rf : Nat) (ab : Int32) (bl : Int32) (nk : Nat) (nd : Nat) (ne : Nat) (nm : Nat) (nn : Nat) (fi : Nat) (gl : Nat) (un : Nat) (mi : Nat) (no : Nat) (fk : Nat → Int32) (k0 : Nat) (k1 : Nat) (k2 : Nat) (k3 : Nat) (k4 : Nat) (k5 : Nat) (fq : Nat → Option Nat) (br : Nat) (bf : Nat) (bm : Int32) (fbr : Nat → Int32) (fbf : Nat → Int32) (tl : Nat) (ta : Nat) (ts : Nat) (tst : Int32) (tcl : Int32) (tnu : Int32) (tfl : Nat → Int32) (k : Nat) (dp : Nat) (x : Int32) (hfi : fi ≤ 6) (hgl : gl ≤ 5) (hun : un ≤ 8) (hmi : mi ≤ 4) (hno : no ≤ 6) (hk : kw_bd 6 6 fk) (hq0 : fq 0 = some k0) (hq1 : fq 1 = some k1) (hq2 : fq 2 = some k2) (hq3 : fq 3 = some k3) (hq4 : fq 4 = some k4) (hq5 : fq 5 = some k5) (hkk : k < 6) (hdp : dp + 0 ≤ 6) : kw_Mv l yX10_roam wsX10_roam ({ frames := 2, cells := 0, slots := 0, locals := 82 }) D y [.ref g, .int (nI k), .int (nI dp), .int (nI dp), .int x] [(g, .inr (10, [.ref kk, .ref nw, .ref im, .ref kp, .ref tx, .ref tr, .ref be, .ref sh, .ref sd, .ref rf, .int ab, .int bl])), (nw, .inr (4, [.ref kk, .ref nk, .ref nd, .ref ne, .ref nm, .ref nn, .int (nI fi), .int (nI gl), .int (nI un), .int (nI mi), .int (nI no)])), (nk, .inl (y 0, 6, .inl fk)), (tr, .inr (1, [.ref tl, .ref ta, .ref ts, .int tst, .int tcl, .int tnu])), (tl, .inl (y 0, 6, .inl tfl)), (be, .inr (0, [.ref br, .ref bf, .int bm])), (br, .inl (y 0, 6, .inl fbr)), (bf, .inl (y 0, 6, .inl fbf)), (kk, .inl (y 5, 6, .inr (.inr (.inr (.inr fq))))), (k0, .inr (5, [])), (k1, .inr (8, [])), (k2, .inr (9, [])), (k3, .inr (6, [])), (k4, .inr (2, [])), (k5, .inr (3, []))] (fun (u : Int32 × (Nat → Int32)) => True) (fun u => [(g, .inr (10, [.ref kk, .ref nw, .ref im, .ref kp, .ref tx, .ref tr, .ref be, .ref sh, .ref sd, .ref rf, .int ab, .int bl])), (nw, .inr (4, [.ref kk, .ref nk, .ref nd, .ref ne, .ref nm, .ref nn, .int (nI fi), .int (nI gl), .int (nI un), .int (nI mi), .int (nI no)])), (nk, .inl (y 0, 6, .inl fk)), (tr, .inr (1, [.ref tl, .ref ta, .ref ts, .int tst, .int tcl, .int tnu])), (tl, .inl (y 0, 6, .inl tfl)), (be, .inr (0, [.ref br, .ref bf, .int u.1])), (br, .inl (y 0, 6, .inl fbr)), (bf, .inl (y 0, 6, .inl u.2)), (kk, .inl (y 5, 6, .inr (.inr (.inr (.inr fq))))), (k0, .inr (5, [])), (k1, .inr (8, [])), (k2, .inr (9, [])), (k3, .inr (6, [])), (k4, .inr (2, [])), (k5, .inr (3, []))]) 0 0 := by
  refine kw_Mv.of (cc := cX10_roam) (maxL := 6) (ret := none) (by decide) rfl ?_
  intro pZ eZ s mZ beZ meZ cZ A hE
  obtain ⟨hx, hb, hr, hml, hts, hown, hlocks, hin, hA, hP, hD, hK, hN⟩ := hE
  have hS : va_S A s.heap s.heap [] := va_S.rf
  have hl := lv_entry ([.ref g, .int (nI k), .int (nI dp), .int (nI dp), .int x]) (n := 6) (Nat.le_of_ble_eq_true rfl)
  rw [lg_entry_eq]
  generalize (lg_sl ([.ref g, .int (nI k), .int (nI dp), .int (nI dp), .int x]) ++ List.replicate (6 - (lg_sl ([.ref g, .int (nI k), .int (nI dp), .int (nI dp), .int x])).length) Slot.unset).toArray = ls at hl ⊢
  have hl : lv_has ls 6 [(0, .ref g), (1, .int (nI k)), (2, .int (nI dp)), (3, .int (nI dp)), (4, .int x)] := hl
  have fw1 := hts (.fieldLink RX10 65 "GleanDusk" "best" "LGleanDusk$Best;") (List.mem_of_getElem? (i := 1) rfl)
  have iw10 : ∀ w ∈ wsX100, w ∈ wsX10_roam := fun _ h => List.mem_cons_of_mem _ (List.mem_append_left _ (List.mem_append_left _ (List.mem_append_left _ (List.mem_append_right _ h))))
  refine lv_iload_n hx hb dX10_roam_0 rfl (lv_at hl 2 rfl) ?_
  refine lv_iload_n hx hb dX10_roam_1 rfl (lv_at hl 3 rfl) ?_
  refine lv_icmp_lt (tgt := 16) hx hb dX10_roam_2 (by decide) (fun h1 => ?_) (fun h2 => ?_)
  · skip
    have h1 : dp < dp := (nI_ltI (a := dp) (b := dp) (by omega) (by omega)).mp h1
    exact absurd h1 (by omega)
  · skip
    have h2 : ¬ dp < dp := fun q9 => h2 ((nI_ltI (a := dp) (b := dp) (by omega) (by omega)).mpr q9)
    refine lv_aload_n hx hb dX10_roam_5 rfl (lv_at hl 0 rfl) ?_
    refine va_get (D := D) (ci := 10) (v := .ref be) (C := RX10) (T := TX10) (N := 12) hx hb hts iw10 hown hK hP 0 rfl rfl 6 (by decide) fw1 (fun _ h9 => h9) rfl dX10_roam_6 ?_
    refine lv_iload hx hb dX10_roam_9 (lv_at hl 4 rfl) ?_
    refine lv_iload_n hx hb dX10_roam_11 rfl (lv_at hl 3 rfl) ?_
    have hs3 : kw_Split [(g, .inr (10, [.ref kk, .ref nw, .ref im, .ref kp, .ref tx, .ref tr, .ref be, .ref sh, .ref sd, .ref rf, .int ab, .int bl])), (nw, .inr (4, [.ref kk, .ref nk, .ref nd, .ref ne, .ref nm, .ref nn, .int (nI fi), .int (nI gl), .int (nI un), .int (nI mi), .int (nI no)])), (nk, .inl (y 0, 6, .inl fk)), (tr, .inr (1, [.ref tl, .ref ta, .ref ts, .int tst, .int tcl, .int tnu])), (tl, .inl (y 0, 6, .inl tfl)), (be, .inr (0, [.ref br, .ref bf, .int bm])), (br, .inl (y 0, 6, .inl fbr)), (bf, .inl (y 0, 6, .inl fbf)), (kk, .inl (y 5, 6, .inr (.inr (.inr (.inr fq))))), (k0, .inr (5, [])), (k1, .inr (8, [])), (k2, .inr (9, [])), (k3, .inr (6, [])), (k4, .inr (2, [])), (k5, .inr (3, []))] [(be, .inr (0, [.ref br, .ref bf, .int bm])), (br, .inl (y 0, 6, .inl fbr)), (bf, .inl (y 0, 6, .inl fbf))] [(g, .inr (10, [.ref kk, .ref nw, .ref im, .ref kp, .ref tx, .ref tr, .ref be, .ref sh, .ref sd, .ref rf, .int ab, .int bl])), (nw, .inr (4, [.ref kk, .ref nk, .ref nd, .ref ne, .ref nm, .ref nn, .int (nI fi), .int (nI gl), .int (nI un), .int (nI mi), .int (nI no)])), (nk, .inl (y 0, 6, .inl fk)), (tr, .inr (1, [.ref tl, .ref ta, .ref ts, .int tst, .int tcl, .int tnu])), (tl, .inl (y 0, 6, .inl tfl)), (kk, .inl (y 5, 6, .inr (.inr (.inr (.inr fq))))), (k0, .inr (5, [])), (k1, .inr (8, [])), (k2, .inr (9, [])), (k3, .inr (6, [])), (k4, .inr (2, [])), (k5, .inr (3, []))] [5, 6, 7] [0, 1, 2, 3, 4, 8, 9, 10, 11, 12, 13, 14] := ⟨rfl, rfl, rfl, rfl, rfl, by decide⟩
    refine kw_go_v hs3 hP hD hS hA (va_runV (As := [.int x, .int (nI dp)]) (rest := []) ⟨hx, hb, hml, hown, hts⟩ (gc_offer l D y be br bf bm fbr fbf x dp (by omega) _) (cwV 2 hts gX10_roam_X0_offer rfl rfl rfl (by decide +kernel) ⟨Nat.le_of_ble_eq_true rfl, Nat.le_of_ble_eq_true rfl⟩) (kw_PreV (ci := 0) (q0 := 5) hs3 hP hD hK hN rfl rfl) rfl rfl hl.1 rfl (lv_room (Nat.le_of_ble_eq_true rfl)) dX10_roam_12 ⟨Nat.le_of_ble_eq_true rfl, Nat.le_of_ble_eq_true rfl⟩) (fun u5 H locs hq hP hD hS => ?_)
    obtain ⟨v6, v7⟩ := u5
    have hP : va_P D vwCl [(g, .inr (10, [.ref kk, .ref nw, .ref im, .ref kp, .ref tx, .ref tr, .ref be, .ref sh, .ref sd, .ref rf, .int ab, .int bl])), (nw, .inr (4, [.ref kk, .ref nk, .ref nd, .ref ne, .ref nm, .ref nn, .int (nI fi), .int (nI gl), .int (nI un), .int (nI mi), .int (nI no)])), (nk, .inl (y 0, 6, .inl fk)), (tr, .inr (1, [.ref tl, .ref ta, .ref ts, .int tst, .int tcl, .int tnu])), (tl, .inl (y 0, 6, .inl tfl)), (kk, .inl (y 5, 6, .inr (.inr (.inr (.inr fq))))), (k0, .inr (5, [])), (k1, .inr (8, [])), (k2, .inr (9, [])), (k3, .inr (6, [])), (k4, .inr (2, [])), (k5, .inr (3, [])), (be, .inr (0, [.ref br, .ref bf, .int v6])), (br, .inl (y 0, 6, .inl fbr)), (bf, .inl (y 0, 6, .inl v7))] H := hP
    have hD : va_D A [(g, .inr (10, [.ref kk, .ref nw, .ref im, .ref kp, .ref tx, .ref tr, .ref be, .ref sh, .ref sd, .ref rf, .int ab, .int bl])), (nw, .inr (4, [.ref kk, .ref nk, .ref nd, .ref ne, .ref nm, .ref nn, .int (nI fi), .int (nI gl), .int (nI un), .int (nI mi), .int (nI no)])), (nk, .inl (y 0, 6, .inl fk)), (tr, .inr (1, [.ref tl, .ref ta, .ref ts, .int tst, .int tcl, .int tnu])), (tl, .inl (y 0, 6, .inl tfl)), (kk, .inl (y 5, 6, .inr (.inr (.inr (.inr fq))))), (k0, .inr (5, [])), (k1, .inr (8, [])), (k2, .inr (9, [])), (k3, .inr (6, [])), (k4, .inr (2, [])), (k5, .inr (3, [])), (be, .inr (0, [.ref br, .ref bf, .int v6])), (br, .inl (y 0, 6, .inl fbr)), (bf, .inl (y 0, 6, .inl v7))] := hD
    exact W.vret hx hb hr (fun tZ ht hW => ⟨⟨(v6, v7), rfl, trivial, by rw [ht]; exact hP.sub [0, 1, 2, 3, 4, 12, 13, 14, 5, 6, 7, 8, 9, 10, 11] rfl, hD.sub [0, 1, 2, 3, 4, 12, 13, 14, 5, 6, 7, 8, 9, 10, 11] (by decide) rfl⟩, hS.F ht⟩) hS.2.2 dX10_roam_15

set_option maxHeartbeats 4000000 in
set_option maxRecDepth 100000 in
theorem gc_stay1 (l : Launch) (D : va_G) (y : Nat → ClassId) (g : Nat) (kk : Nat) (nw : Nat) (im : Nat) (kp : Nat) (tx : Nat) (tr : Nat) (be : Nat) (sh : Nat) (sd : Nat) (rf : Nat) (ab : Int32) (bl : Int32) (nk : Nat) (nd : Nat) (ne : Nat) (nm : Nat) (nn : Nat) (fi : Nat) (gl : Nat) (un : Nat) (mi : Nat) (no : Nat) (fk : Nat → Int32) (k0 : Nat) (k1 : Nat) (k2 : Nat) (k3 : Nat) (k4 : Nat) (k5 : Nat) (fq : Nat → Option Nat) (br : Nat) (bf : Nat) (bm : Int32) (fbr : Nat → Int32) (fbf : Nat → Int32) (tl : Nat) (ta : Nat) (ts : Nat) (tst : Int32) (tcl : Int32) (tnu : Int32) (tfl : Nat → Int32) (k : Nat) (dp : Nat) (x : Int32) (hfi : fi ≤ 6) (hgl : gl ≤ 5) (hun : un ≤ 8) (hmi : mi ≤ 4) (hno : no ≤ 6) (hk : kw_bd 6 6 fk) (hq0 : fq 0 = some k0) (hq1 : fq 1 = some k1) (hq2 : fq 2 = some k2) (hq3 : fq 3 = some k3) (hq4 : fq 4 = some k4) (hq5 : fq 5 = some k5) (hkk : k < 6) (hdp : dp + 1 ≤ 6) : kw_Mv l yX10_stay wsX10_stay ({ frames := 5, cells := 0, slots := 0, locals := 153 }) D y [.ref g, .int (nI k), .int (nI dp), .int (nI (dp + 1)), .int x] [(g, .inr (10, [.ref kk, .ref nw, .ref im, .ref kp, .ref tx, .ref tr, .ref be, .ref sh, .ref sd, .ref rf, .int ab, .int bl])), (nw, .inr (4, [.ref kk, .ref nk, .ref nd, .ref ne, .ref nm, .ref nn, .int (nI fi), .int (nI gl), .int (nI un), .int (nI mi), .int (nI no)])), (nk, .inl (y 0, 6, .inl fk)), (tr, .inr (1, [.ref tl, .ref ta, .ref ts, .int tst, .int tcl, .int tnu])), (tl, .inl (y 0, 6, .inl tfl)), (be, .inr (0, [.ref br, .ref bf, .int bm])), (br, .inl (y 0, 6, .inl fbr)), (bf, .inl (y 0, 6, .inl fbf)), (kk, .inl (y 5, 6, .inr (.inr (.inr (.inr fq))))), (k0, .inr (5, [])), (k1, .inr (8, [])), (k2, .inr (9, [])), (k3, .inr (6, [])), (k4, .inr (2, [])), (k5, .inr (3, []))] (fun (u : (Nat → Int32) × Int32 × (Nat → Int32)) => True) (fun u => [(g, .inr (10, [.ref kk, .ref nw, .ref im, .ref kp, .ref tx, .ref tr, .ref be, .ref sh, .ref sd, .ref rf, .int ab, .int bl])), (nw, .inr (4, [.ref kk, .ref nk, .ref nd, .ref ne, .ref nm, .ref nn, .int (nI fi), .int (nI gl), .int (nI un), .int (nI mi), .int (nI no)])), (nk, .inl (y 0, 6, .inl fk)), (tr, .inr (1, [.ref tl, .ref ta, .ref ts, .int tst, .int tcl, .int tnu])), (tl, .inl (y 0, 6, .inl u.1)), (be, .inr (0, [.ref br, .ref bf, .int u.2.1])), (br, .inl (y 0, 6, .inl fbr)), (bf, .inl (y 0, 6, .inl u.2.2)), (kk, .inl (y 5, 6, .inr (.inr (.inr (.inr fq))))), (k0, .inr (5, [])), (k1, .inr (8, [])), (k2, .inr (9, [])), (k3, .inr (6, [])), (k4, .inr (2, [])), (k5, .inr (3, []))]) 0 0 := by
  refine kw_Mv.of (cc := cX10_stay) (maxL := 7) (ret := none) (by decide) rfl ?_
  intro pZ eZ s mZ beZ meZ cZ A hE
  obtain ⟨hx, hb, hr, hml, hts, hown, hlocks, hin, hA, hP, hD, hK, hN⟩ := hE
  have hS : va_S A s.heap s.heap [] := va_S.rf
  have hl := lv_entry ([.ref g, .int (nI k), .int (nI dp), .int (nI (dp + 1)), .int x]) (n := 7) (Nat.le_of_ble_eq_true rfl)
  rw [lg_entry_eq]
  generalize (lg_sl ([.ref g, .int (nI k), .int (nI dp), .int (nI (dp + 1)), .int x]) ++ List.replicate (7 - (lg_sl ([.ref g, .int (nI k), .int (nI dp), .int (nI (dp + 1)), .int x])).length) Slot.unset).toArray = ls at hl ⊢
  have hl : lv_has ls 7 [(0, .ref g), (1, .int (nI k)), (2, .int (nI dp)), (3, .int (nI (dp + 1))), (4, .int x)] := hl
  have fw1 := hts (.fieldLink RX10 58 "GleanDusk" "trial" "LGleanDusk$Dusk;") (List.mem_of_getElem? (i := 1) rfl)
  have fw2 := hts (.fieldLink RX10 185 "GleanDusk$Dusk" "light" "[I") (List.mem_of_getElem? (i := 2) rfl)
  have fw3 := hts (.fieldLink RX10 36 "GleanDusk" "now" "LGleanDusk$Parish;") (List.mem_of_getElem? (i := 3) rfl)
  have fw4 := hts (.fieldLink RX10 151 "GleanDusk$Dusk" "step" "I") (List.mem_of_getElem? (i := 4) rfl)
  have fw5 := hts (.methodLink RX10 315 Lib.Math.max.name) (List.mem_of_getElem? (i := 5) rfl)
  have fw6 := hts (.static Lib.Math.max.name) (List.mem_of_getElem? (i := 6) rfl)
  have fw7 := hts (.initialized "java/lang/Math") (List.mem_of_getElem? (i := 7) rfl)
  have fw8 := hts (.code Lib.Math.max.name Lib.Math.max.code 2 (some .int)) (List.mem_of_getElem? (i := 8) rfl)
  have iw10 : ∀ w ∈ wsX100, w ∈ wsX10_stay := fun _ h => List.mem_cons_of_mem _ (List.mem_append_left _ (List.mem_append_left _ (List.mem_append_left _ (List.mem_append_right _ h))))
  have iw1 : ∀ w ∈ wsX10, w ∈ wsX10_stay := fun _ h => List.mem_cons_of_mem _ (List.mem_append_right _ h)
  refine lv_aload_n hx hb dX10_stay_0 rfl (lv_at hl 0 rfl) ?_
  refine va_get (D := D) (ci := 10) (v := .ref tr) (C := RX10) (T := TX10) (N := 12) hx hb hts iw10 hown hK hP 0 rfl rfl 5 (by decide) fw1 (fun _ h9 => h9) rfl dX10_stay_1 ?_
  refine va_get (D := D) (ci := 1) (v := .ref tl) (C := RX1) (T := TX1) (N := 6) hx hb hts iw1 hown hK hP 3 rfl rfl 0 (by decide) fw2 (fun _ h9 => h9) rfl dX10_stay_4 ?_
  refine lv_iload_n hx hb dX10_stay_7 rfl (lv_at hl 1 rfl) ?_
  refine va_iald hx hb hK hP 4 0 rfl rfl (vp_in_nI (by omega) (by decide)) dX10_stay_8 ?_
  rw [nI_clamp (n := k) (by omega)]
  refine lv_istore (lv' := [(5, .int (tfl k)), (0, .ref g), (1, .int (nI k)), (2, .int (nI dp)), (3, .int (nI (dp + 1))), (4, .int x)]) hx hb dX10_stay_9 hl (by decide) rfl (fun ls hl => ?_)
  refine lv_aload_n hx hb dX10_stay_11 rfl (lv_at hl 1 rfl) ?_
  refine va_get (D := D) (ci := 10) (v := .ref nw) (C := RX10) (T := TX10) (N := 12) hx hb hts iw10 hown hK hP 0 rfl rfl 1 (by decide) fw3 (fun _ h9 => h9) rfl dX10_stay_12 ?_
  refine lv_aload_n hx hb dX10_stay_15 rfl (lv_at hl 1 rfl) ?_
  refine va_get (D := D) (ci := 10) (v := .ref tr) (C := RX10) (T := TX10) (N := 12) hx hb hts iw10 hown hK hP 0 rfl rfl 5 (by decide) fw1 (fun _ h9 => h9) rfl dX10_stay_16 ?_
  refine lv_iload_n hx hb dX10_stay_19 rfl (lv_at hl 2 rfl) ?_
  refine lv_aload_n hx hb dX10_stay_20 rfl (lv_at hl 1 rfl) ?_
  refine va_get (D := D) (ci := 10) (v := .ref tr) (C := RX10) (T := TX10) (N := 12) hx hb hts iw10 hown hK hP 0 rfl rfl 5 (by decide) fw1 (fun _ h9 => h9) rfl dX10_stay_21 ?_
  refine va_get (D := D) (ci := 1) (v := .int tst) (C := RX1) (T := TX1) (N := 6) hx hb hts iw1 hown hK hP 3 rfl rfl 3 (by decide) fw4 (fun _ h9 => h9) rfl dX10_stay_24 ?_
  refine lv_iload_n hx hb dX10_stay_27 rfl (lv_at hl 3 rfl) ?_
  refine lv_iadd hx hb dX10_stay_28 ?_
  have hs1 : kw_Split [(g, .inr (10, [.ref kk, .ref nw, .ref im, .ref kp, .ref tx, .ref tr, .ref be, .ref sh, .ref sd, .ref rf, .int ab, .int bl])), (nw, .inr (4, [.ref kk, .ref nk, .ref nd, .ref ne, .ref nm, .ref nn, .int (nI fi), .int (nI gl), .int (nI un), .int (nI mi), .int (nI no)])), (nk, .inl (y 0, 6, .inl fk)), (tr, .inr (1, [.ref tl, .ref ta, .ref ts, .int tst, .int tcl, .int tnu])), (tl, .inl (y 0, 6, .inl tfl)), (be, .inr (0, [.ref br, .ref bf, .int bm])), (br, .inl (y 0, 6, .inl fbr)), (bf, .inl (y 0, 6, .inl fbf)), (kk, .inl (y 5, 6, .inr (.inr (.inr (.inr fq))))), (k0, .inr (5, [])), (k1, .inr (8, [])), (k2, .inr (9, [])), (k3, .inr (6, [])), (k4, .inr (2, [])), (k5, .inr (3, []))] [(nw, .inr (4, [.ref kk, .ref nk, .ref nd, .ref ne, .ref nm, .ref nn, .int (nI fi), .int (nI gl), .int (nI un), .int (nI mi), .int (nI no)])), (nk, .inl (y 0, 6, .inl fk)), (tr, .inr (1, [.ref tl, .ref ta, .ref ts, .int tst, .int tcl, .int tnu])), (tl, .inl (y 0, 6, .inl tfl)), (kk, .inl (y 5, 6, .inr (.inr (.inr (.inr fq))))), (k0, .inr (5, [])), (k1, .inr (8, [])), (k2, .inr (9, [])), (k3, .inr (6, [])), (k4, .inr (2, [])), (k5, .inr (3, []))] [(g, .inr (10, [.ref kk, .ref nw, .ref im, .ref kp, .ref tx, .ref tr, .ref be, .ref sh, .ref sd, .ref rf, .int ab, .int bl])), (be, .inr (0, [.ref br, .ref bf, .int bm])), (br, .inl (y 0, 6, .inl fbr)), (bf, .inl (y 0, 6, .inl fbf))] [1, 2, 3, 4, 8, 9, 10, 11, 12, 13, 14] [0, 5, 6, 7] := ⟨rfl, rfl, rfl, rfl, rfl, by decide⟩
  refine kw_go_i hs1 hP hD hS hA (va_runV (As := [.ref tr, .int (nI k), .int (tst + (nI dp))]) (rest := []) ⟨hx, hb, hml, hown, hts⟩ (gc_shows l D y nw kk nk nd ne nm nn fi gl un mi no tr tl ta ts tst tcl tnu tfl fk k0 k1 k2 k3 k4 k5 fq k (tst + (nI dp)) hfi hgl hun hmi hno hk hq0 hq1 hq2 hq3 hq4 hq5 hkk _) (cwV 3 hts gX10_stay_X4_shows rfl rfl rfl (by decide +kernel) ⟨Nat.le_of_ble_eq_true rfl, Nat.le_of_ble_eq_true rfl⟩) (kw_PreV (ci := 4) (q0 := 1) hs1 hP hD hK hN rfl rfl) rfl rfl hl.1 rfl (lv_room (Nat.le_of_ble_eq_true rfl)) dX10_stay_29 ⟨Nat.le_of_ble_eq_true rfl, Nat.le_of_ble_eq_true rfl⟩) (fun r2 u3 H locs hq hP hD hS => ?_)
  have hP : va_P D vwCl [(g, .inr (10, [.ref kk, .ref nw, .ref im, .ref kp, .ref tx, .ref tr, .ref be, .ref sh, .ref sd, .ref rf, .int ab, .int bl])), (be, .inr (0, [.ref br, .ref bf, .int bm])), (br, .inl (y 0, 6, .inl fbr)), (bf, .inl (y 0, 6, .inl fbf)), (nw, .inr (4, [.ref kk, .ref nk, .ref nd, .ref ne, .ref nm, .ref nn, .int (nI fi), .int (nI gl), .int (nI un), .int (nI mi), .int (nI no)])), (nk, .inl (y 0, 6, .inl fk)), (tr, .inr (1, [.ref tl, .ref ta, .ref ts, .int tst, .int tcl, .int tnu])), (tl, .inl (y 0, 6, .inl tfl)), (kk, .inl (y 5, 6, .inr (.inr (.inr (.inr fq))))), (k0, .inr (5, [])), (k1, .inr (8, [])), (k2, .inr (9, [])), (k3, .inr (6, [])), (k4, .inr (2, [])), (k5, .inr (3, []))] H := hP
  have hD : va_D A [(g, .inr (10, [.ref kk, .ref nw, .ref im, .ref kp, .ref tx, .ref tr, .ref be, .ref sh, .ref sd, .ref rf, .int ab, .int bl])), (be, .inr (0, [.ref br, .ref bf, .int bm])), (br, .inl (y 0, 6, .inl fbr)), (bf, .inl (y 0, 6, .inl fbf)), (nw, .inr (4, [.ref kk, .ref nk, .ref nd, .ref ne, .ref nm, .ref nn, .int (nI fi), .int (nI gl), .int (nI un), .int (nI mi), .int (nI no)])), (nk, .inl (y 0, 6, .inl fk)), (tr, .inr (1, [.ref tl, .ref ta, .ref ts, .int tst, .int tcl, .int tnu])), (tl, .inl (y 0, 6, .inl tfl)), (kk, .inl (y 5, 6, .inr (.inr (.inr (.inr fq))))), (k0, .inr (5, [])), (k1, .inr (8, [])), (k2, .inr (9, [])), (k3, .inr (6, [])), (k4, .inr (2, [])), (k5, .inr (3, []))] := hD
  refine lv_istore (lv' := [(6, .int r2), (5, .int (tfl k)), (0, .ref g), (1, .int (nI k)), (2, .int (nI dp)), (3, .int (nI (dp + 1))), (4, .int x)]) hx hb dX10_stay_32 hl (by decide) rfl (fun ls hl => ?_)
  refine lv_aload_n hx hb dX10_stay_34 rfl (lv_at hl 2 rfl) ?_
  refine va_get (D := D) (ci := 10) (v := .ref tr) (C := RX10) (T := TX10) (N := 12) hx hb hts iw10 hown hK hP 0 rfl rfl 5 (by decide) fw1 (fun _ h9 => h9) rfl dX10_stay_35 ?_
  refine va_get (D := D) (ci := 1) (v := .ref tl) (C := RX1) (T := TX1) (N := 6) hx hb hts iw1 hown hK hP 6 rfl rfl 0 (by decide) fw2 (fun _ h9 => h9) rfl dX10_stay_38 ?_
  refine lv_iload_n hx hb dX10_stay_41 rfl (lv_at hl 3 rfl) ?_
  refine lv_iconst (v := 0) hx hb dX10_stay_42 (by decide) ?_
  refine lv_iload hx hb dX10_stay_43 (lv_at hl 1 rfl) ?_
  refine lv_iload hx hb dX10_stay_45 (lv_at hl 0 rfl) ?_
  refine lv_isub hx hb dX10_stay_47 ?_
  refine va_mmax hx hb (hml.trans hl.1.symm) hown fw5 fw6 fw7 fw8 (Nat.le_of_ble_eq_true rfl) (Nat.le_of_ble_eq_true rfl) (Nat.le_of_ble_eq_true rfl) (Nat.le_of_ble_eq_true rfl) dX10_stay_48 ?_
  refine va_iast hx hb hK hP hD hS 7 0 rfl rfl (vp_in_nI (by omega) (by decide)) dX10_stay_51 (fun H locs hP hD hS => ?_)
  rw [nI_clamp (n := k) (by omega)] at hP hD
  have hP : va_P D vwCl [(g, .inr (10, [.ref kk, .ref nw, .ref im, .ref kp, .ref tx, .ref tr, .ref be, .ref sh, .ref sd, .ref rf, .int ab, .int bl])), (be, .inr (0, [.ref br, .ref bf, .int bm])), (br, .inl (y 0, 6, .inl fbr)), (bf, .inl (y 0, 6, .inl fbf)), (nw, .inr (4, [.ref kk, .ref nk, .ref nd, .ref ne, .ref nm, .ref nn, .int (nI fi), .int (nI gl), .int (nI un), .int (nI mi), .int (nI no)])), (nk, .inl (y 0, 6, .inl fk)), (tr, .inr (1, [.ref tl, .ref ta, .ref ts, .int tst, .int tcl, .int tnu])), (tl, .inl (y 0, 6, .inl (upd tfl k (if 0 < ((tfl k) - r2) then ((tfl k) - r2) else 0)))), (kk, .inl (y 5, 6, .inr (.inr (.inr (.inr fq))))), (k0, .inr (5, [])), (k1, .inr (8, [])), (k2, .inr (9, [])), (k3, .inr (6, [])), (k4, .inr (2, [])), (k5, .inr (3, []))] H := hP
  have hD : va_D A [(g, .inr (10, [.ref kk, .ref nw, .ref im, .ref kp, .ref tx, .ref tr, .ref be, .ref sh, .ref sd, .ref rf, .int ab, .int bl])), (be, .inr (0, [.ref br, .ref bf, .int bm])), (br, .inl (y 0, 6, .inl fbr)), (bf, .inl (y 0, 6, .inl fbf)), (nw, .inr (4, [.ref kk, .ref nk, .ref nd, .ref ne, .ref nm, .ref nn, .int (nI fi), .int (nI gl), .int (nI un), .int (nI mi), .int (nI no)])), (nk, .inl (y 0, 6, .inl fk)), (tr, .inr (1, [.ref tl, .ref ta, .ref ts, .int tst, .int tcl, .int tnu])), (tl, .inl (y 0, 6, .inl (upd tfl k (if 0 < ((tfl k) - r2) then ((tfl k) - r2) else 0)))), (kk, .inl (y 5, 6, .inr (.inr (.inr (.inr fq))))), (k0, .inr (5, [])), (k1, .inr (8, [])), (k2, .inr (9, [])), (k3, .inr (6, [])), (k4, .inr (2, [])), (k5, .inr (3, []))] := hD
  refine lv_aload_n hx hb dX10_stay_52 rfl (lv_at hl 2 rfl) ?_
  refine lv_iload_n hx hb dX10_stay_53 rfl (lv_at hl 3 rfl) ?_
  refine lv_iload_n hx hb dX10_stay_54 rfl (lv_at hl 4 rfl) ?_
  refine lv_iconst (v := 1) hx hb dX10_stay_55 (by decide) ?_
  refine lv_iadd hx hb dX10_stay_56 ?_
  rw [show (nI dp) + 1 = nI (dp + 1) from nI_add dp 1]
  refine lv_iload_n hx hb dX10_stay_57 rfl (lv_at hl 5 rfl) ?_
  refine lv_iload hx hb dX10_stay_58 (lv_at hl 6 rfl) ?_
  refine lv_iload hx hb dX10_stay_60 (lv_at hl 0 rfl) ?_
  refine lv_iadd hx hb dX10_stay_62 ?_
  have hs4 : kw_Split [(g, .inr (10, [.ref kk, .ref nw, .ref im, .ref kp, .ref tx, .ref tr, .ref be, .ref sh, .ref sd, .ref rf, .int ab, .int bl])), (be, .inr (0, [.ref br, .ref bf, .int bm])), (br, .inl (y 0, 6, .inl fbr)), (bf, .inl (y 0, 6, .inl fbf)), (nw, .inr (4, [.ref kk, .ref nk, .ref nd, .ref ne, .ref nm, .ref nn, .int (nI fi), .int (nI gl), .int (nI un), .int (nI mi), .int (nI no)])), (nk, .inl (y 0, 6, .inl fk)), (tr, .inr (1, [.ref tl, .ref ta, .ref ts, .int tst, .int tcl, .int tnu])), (tl, .inl (y 0, 6, .inl (upd tfl k (if 0 < ((tfl k) - r2) then ((tfl k) - r2) else 0)))), (kk, .inl (y 5, 6, .inr (.inr (.inr (.inr fq))))), (k0, .inr (5, [])), (k1, .inr (8, [])), (k2, .inr (9, [])), (k3, .inr (6, [])), (k4, .inr (2, [])), (k5, .inr (3, []))] [(g, .inr (10, [.ref kk, .ref nw, .ref im, .ref kp, .ref tx, .ref tr, .ref be, .ref sh, .ref sd, .ref rf, .int ab, .int bl])), (nw, .inr (4, [.ref kk, .ref nk, .ref nd, .ref ne, .ref nm, .ref nn, .int (nI fi), .int (nI gl), .int (nI un), .int (nI mi), .int (nI no)])), (nk, .inl (y 0, 6, .inl fk)), (tr, .inr (1, [.ref tl, .ref ta, .ref ts, .int tst, .int tcl, .int tnu])), (tl, .inl (y 0, 6, .inl (upd tfl k (if 0 < ((tfl k) - r2) then ((tfl k) - r2) else 0)))), (be, .inr (0, [.ref br, .ref bf, .int bm])), (br, .inl (y 0, 6, .inl fbr)), (bf, .inl (y 0, 6, .inl fbf)), (kk, .inl (y 5, 6, .inr (.inr (.inr (.inr fq))))), (k0, .inr (5, [])), (k1, .inr (8, [])), (k2, .inr (9, [])), (k3, .inr (6, [])), (k4, .inr (2, [])), (k5, .inr (3, []))] [] [0, 4, 5, 6, 7, 1, 2, 3, 8, 9, 10, 11, 12, 13, 14] [] := ⟨rfl, rfl, rfl, rfl, rfl, by decide⟩
  refine kw_go_v hs4 hP hD hS hA (va_runV (As := [.int (nI k), .int (nI (dp + 1)), .int (nI (dp + 1)), .int (x + r2)]) (rest := []) ⟨hx, hb, hml, hown, hts⟩ (gc_roam0 l D y g kk nw im kp tx tr be sh sd rf ab bl nk nd ne nm nn fi gl un mi no fk k0 k1 k2 k3 k4 k5 fq br bf bm fbr fbf tl ta ts tst tcl tnu (upd tfl k (if 0 < ((tfl k) - r2) then ((tfl k) - r2) else 0)) k (dp + 1) (x + r2) hfi hgl hun hmi hno hk hq0 hq1 hq2 hq3 hq4 hq5 hkk (by omega) _) (cwV 4 hts gX10_stay_X10_roam rfl rfl rfl (by decide +kernel) ⟨Nat.le_of_ble_eq_true rfl, Nat.le_of_ble_eq_true rfl⟩) (kw_PreV (ci := 10) (q0 := 0) hs4 hP hD hK hN rfl rfl) rfl rfl hl.1 rfl (lv_room (Nat.le_of_ble_eq_true rfl)) dX10_stay_63 ⟨Nat.le_of_ble_eq_true rfl, Nat.le_of_ble_eq_true rfl⟩) (fun u6 H locs hq hP hD hS => ?_)
  obtain ⟨v7, v8⟩ := u6
  have hP : va_P D vwCl [(g, .inr (10, [.ref kk, .ref nw, .ref im, .ref kp, .ref tx, .ref tr, .ref be, .ref sh, .ref sd, .ref rf, .int ab, .int bl])), (nw, .inr (4, [.ref kk, .ref nk, .ref nd, .ref ne, .ref nm, .ref nn, .int (nI fi), .int (nI gl), .int (nI un), .int (nI mi), .int (nI no)])), (nk, .inl (y 0, 6, .inl fk)), (tr, .inr (1, [.ref tl, .ref ta, .ref ts, .int tst, .int tcl, .int tnu])), (tl, .inl (y 0, 6, .inl (upd tfl k (if 0 < ((tfl k) - r2) then ((tfl k) - r2) else 0)))), (be, .inr (0, [.ref br, .ref bf, .int v7])), (br, .inl (y 0, 6, .inl fbr)), (bf, .inl (y 0, 6, .inl v8)), (kk, .inl (y 5, 6, .inr (.inr (.inr (.inr fq))))), (k0, .inr (5, [])), (k1, .inr (8, [])), (k2, .inr (9, [])), (k3, .inr (6, [])), (k4, .inr (2, [])), (k5, .inr (3, []))] H := hP
  have hD : va_D A [(g, .inr (10, [.ref kk, .ref nw, .ref im, .ref kp, .ref tx, .ref tr, .ref be, .ref sh, .ref sd, .ref rf, .int ab, .int bl])), (nw, .inr (4, [.ref kk, .ref nk, .ref nd, .ref ne, .ref nm, .ref nn, .int (nI fi), .int (nI gl), .int (nI un), .int (nI mi), .int (nI no)])), (nk, .inl (y 0, 6, .inl fk)), (tr, .inr (1, [.ref tl, .ref ta, .ref ts, .int tst, .int tcl, .int tnu])), (tl, .inl (y 0, 6, .inl (upd tfl k (if 0 < ((tfl k) - r2) then ((tfl k) - r2) else 0)))), (be, .inr (0, [.ref br, .ref bf, .int v7])), (br, .inl (y 0, 6, .inl fbr)), (bf, .inl (y 0, 6, .inl v8)), (kk, .inl (y 5, 6, .inr (.inr (.inr (.inr fq))))), (k0, .inr (5, [])), (k1, .inr (8, [])), (k2, .inr (9, [])), (k3, .inr (6, [])), (k4, .inr (2, [])), (k5, .inr (3, []))] := hD
  refine lv_aload_n hx hb dX10_stay_66 rfl (lv_at hl 2 rfl) ?_
  refine va_get (D := D) (ci := 10) (v := .ref tr) (C := RX10) (T := TX10) (N := 12) hx hb hts iw10 hown hK hP 0 rfl rfl 5 (by decide) fw1 (fun _ h9 => h9) rfl dX10_stay_67 ?_
  refine va_get (D := D) (ci := 1) (v := .ref tl) (C := RX1) (T := TX1) (N := 6) hx hb hts iw1 hown hK hP 3 rfl rfl 0 (by decide) fw2 (fun _ h9 => h9) rfl dX10_stay_70 ?_
  refine lv_iload_n hx hb dX10_stay_73 rfl (lv_at hl 3 rfl) ?_
  refine lv_iload hx hb dX10_stay_74 (lv_at hl 1 rfl) ?_
  refine va_iast hx hb hK hP hD hS 4 0 rfl rfl (vp_in_nI (by omega) (by decide)) dX10_stay_76 (fun H locs hP hD hS => ?_)
  rw [nI_clamp (n := k) (by omega)] at hP hD
  have hP : va_P D vwCl [(g, .inr (10, [.ref kk, .ref nw, .ref im, .ref kp, .ref tx, .ref tr, .ref be, .ref sh, .ref sd, .ref rf, .int ab, .int bl])), (nw, .inr (4, [.ref kk, .ref nk, .ref nd, .ref ne, .ref nm, .ref nn, .int (nI fi), .int (nI gl), .int (nI un), .int (nI mi), .int (nI no)])), (nk, .inl (y 0, 6, .inl fk)), (tr, .inr (1, [.ref tl, .ref ta, .ref ts, .int tst, .int tcl, .int tnu])), (tl, .inl (y 0, 6, .inl (upd (upd tfl k (if 0 < ((tfl k) - r2) then ((tfl k) - r2) else 0)) k (tfl k)))), (be, .inr (0, [.ref br, .ref bf, .int v7])), (br, .inl (y 0, 6, .inl fbr)), (bf, .inl (y 0, 6, .inl v8)), (kk, .inl (y 5, 6, .inr (.inr (.inr (.inr fq))))), (k0, .inr (5, [])), (k1, .inr (8, [])), (k2, .inr (9, [])), (k3, .inr (6, [])), (k4, .inr (2, [])), (k5, .inr (3, []))] H := hP
  have hD : va_D A [(g, .inr (10, [.ref kk, .ref nw, .ref im, .ref kp, .ref tx, .ref tr, .ref be, .ref sh, .ref sd, .ref rf, .int ab, .int bl])), (nw, .inr (4, [.ref kk, .ref nk, .ref nd, .ref ne, .ref nm, .ref nn, .int (nI fi), .int (nI gl), .int (nI un), .int (nI mi), .int (nI no)])), (nk, .inl (y 0, 6, .inl fk)), (tr, .inr (1, [.ref tl, .ref ta, .ref ts, .int tst, .int tcl, .int tnu])), (tl, .inl (y 0, 6, .inl (upd (upd tfl k (if 0 < ((tfl k) - r2) then ((tfl k) - r2) else 0)) k (tfl k)))), (be, .inr (0, [.ref br, .ref bf, .int v7])), (br, .inl (y 0, 6, .inl fbr)), (bf, .inl (y 0, 6, .inl v8)), (kk, .inl (y 5, 6, .inr (.inr (.inr (.inr fq))))), (k0, .inr (5, [])), (k1, .inr (8, [])), (k2, .inr (9, [])), (k3, .inr (6, [])), (k4, .inr (2, [])), (k5, .inr (3, []))] := hD
  exact W.vret hx hb hr (fun tZ ht hW => ⟨⟨((upd (upd tfl k (if 0 < ((tfl k) - r2) then ((tfl k) - r2) else 0)) k (tfl k)), v7, v8), rfl, trivial, by rw [ht]; exact hP.sub [0, 1, 2, 3, 4, 5, 6, 7, 8, 9, 10, 11, 12, 13, 14] rfl, hD.sub [0, 1, 2, 3, 4, 5, 6, 7, 8, 9, 10, 11, 12, 13, 14] (by decide) rfl⟩, hS.F ht⟩) hS.2.2 dX10_stay_77
