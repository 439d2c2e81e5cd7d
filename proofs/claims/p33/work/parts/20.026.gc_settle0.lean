set_option maxHeartbeats 4000000 in
set_option maxRecDepth 100000 in
theorem gc_settle0 (l : Launch) (D : va_G) (y : Nat → ClassId) (g : Nat) (kk : Nat) (nw : Nat) (im : Nat) (kp : Nat) (tx : Nat) (tr : Nat) (be : Nat) (sh : Nat) (sd : Nat) (rf : Nat) (ab : Int32) (bl : Int32) (nk : Nat) (nd : Nat) (ne : Nat) (nm : Nat) (nn : Nat) (fi : Nat) (un : Nat) (mi : Nat) (no : Nat) (br : Nat) (bf : Nat) (bm : Int32) (fbr : Nat → Int32) (fbf : Nat → Int32) (fsh : Nat → Int32) (fsd : Nat → Int32) (k : Nat) (gg : Nat) (x : Int32) (hfi : fi ≤ 6) (hun : un ≤ 8) (hmi : mi ≤ 4) (hno : no ≤ 6) (hkk : k ≤ 6) (hgg : gg + 0 ≤ 5) : kw_Mv l yX10_settle wsX10_settle ({ frames := 2, cells := 0, slots := 0, locals := 82 }) D y [.ref g, .int x, .int (nI gg), .int (nI k)] [(g, .inr (10, [.ref kk, .ref nw, .ref im, .ref kp, .ref tx, .ref tr, .ref be, .ref sh, .ref sd, .ref rf, .int ab, .int bl])), (nw, .inr (4, [.ref kk, .ref nk, .ref nd, .ref ne, .ref nm, .ref nn, .int (nI fi), .int (nI gg), .int (nI un), .int (nI mi), .int (nI no)])), (be, .inr (0, [.ref br, .ref bf, .int bm])), (br, .inl (y 0, 6, .inl fbr)), (bf, .inl (y 0, 6, .inl fbf)), (sh, .inl (y 0, 6, .inl fsh)), (sd, .inl (y 0, 6, .inl fsd))] (fun (u : Int32 × (Nat → Int32)) => True) (fun u => [(g, .inr (10, [.ref kk, .ref nw, .ref im, .ref kp, .ref tx, .ref tr, .ref be, .ref sh, .ref sd, .ref rf, .int ab, .int bl])), (nw, .inr (4, [.ref kk, .ref nk, .ref nd, .ref ne, .ref nm, .ref nn, .int (nI fi), .int (nI gg), .int (nI un), .int (nI mi), .int (nI no)])), (be, .inr (0, [.ref br, .ref bf, .int u.1])), (br, .inl (y 0, 6, .inl fbr)), (bf, .inl (y 0, 6, .inl u.2)), (sh, .inl (y 0, 6, .inl fsh)), (sd, .inl (y 0, 6, .inl fsd))]) 0 0 := by
  refine kw_Mv.of (cc := cX10_settle) (maxL := 5) (ret := none) (by decide) rfl ?_
  intro pZ eZ s mZ beZ meZ cZ A hE
  obtain ⟨hx, hb, hr, hml, hts, hown, hlocks, hin, hA, hP, hD, hK, hN⟩ := hE
  have hS : va_S A s.heap s.heap [] := va_S.rf
  have hl := lv_entry ([.ref g, .int x, .int (nI gg), .int (nI k)]) (n := 5) (Nat.le_of_ble_eq_true rfl)
  rw [lg_entry_eq]
  generalize (lg_sl ([.ref g, .int x, .int (nI gg), .int (nI k)]) ++ List.replicate (5 - (lg_sl ([.ref g, .int x, .int (nI gg), .int (nI k)])).length) Slot.unset).toArray = ls at hl ⊢
  have hl : lv_has ls 5 [(0, .ref g), (1, .int x), (2, .int (nI gg)), (3, .int (nI k))] := hl
  have fw1 := hts (.fieldLink RX10 36 "GleanDusk" "now" "LGleanDusk$Parish;") (List.mem_of_getElem? (i := 1) rfl)
  have fw2 := hts (.fieldLink RX10 115 "GleanDusk$Parish" "gleaners" "I") (List.mem_of_getElem? (i := 2) rfl)
  have fw3 := hts (.fieldLink RX10 65 "GleanDusk" "best" "LGleanDusk$Best;") (List.mem_of_getElem? (i := 3) rfl)
  have iw10 : ∀ w ∈ wsX100, w ∈ wsX10_settle := fun _ h => List.mem_cons_of_mem _ (List.mem_append_left _ (List.mem_append_left _ (List.mem_append_right _ h)))
  have iw4 : ∀ w ∈ wsX40, w ∈ wsX10_settle := fun _ h => List.mem_cons_of_mem _ (List.mem_append_left _ (List.mem_append_right _ h))
  refine lv_iload_n hx hb dX10_settle_0 rfl (lv_at hl 2 rfl) ?_
  refine lv_aload_n hx hb dX10_settle_1 rfl (lv_at hl 0 rfl) ?_
  refine va_get (D := D) (ci := 10) (v := .ref nw) (C := RX10) (T := TX10) (N := 12) hx hb hts iw10 hown hK hP 0 rfl rfl 1 (by decide) fw1 (fun _ h9 => h9) rfl dX10_settle_2 ?_
  refine va_get (D := D) (ci := 4) (v := .int (nI gg)) (C := RX4) (T := TX4) (N := 11) hx hb hts iw4 hown hK hP 1 rfl rfl 7 (by decide) fw2 (fun _ h9 => h9) rfl dX10_settle_5 ?_
  refine lv_icmp_lt (tgt := 35) hx hb dX10_settle_8 (by decide) (fun h1 => ?_) (fun h2 => ?_)
  · skip
    have h1 : gg < gg := (nI_ltI (a := gg) (b := gg) (by omega) (by omega)).mp h1
    exact absurd h1 (by omega)
  · skip
    have h2 : ¬ gg < gg := fun q9 => h2 ((nI_ltI (a := gg) (b := gg) (by omega) (by omega)).mpr q9)
    refine lv_aload_n hx hb dX10_settle_11 rfl (lv_at hl 0 rfl) ?_
    refine va_get (D := D) (ci := 10) (v := .ref be) (C := RX10) (T := TX10) (N := 12) hx hb hts iw10 hown hK hP 0 rfl rfl 6 (by decide) fw3 (fun _ h9 => h9) rfl dX10_settle_12 ?_
    refine lv_iload_n hx hb dX10_settle_15 rfl (lv_at hl 1 rfl) ?_
    refine lv_if_ne (tgt := 26) hx hb dX10_settle_16 (by decide) (fun h3 => ?_) (fun h4 => ?_)
    · skip
      refine lv_aload_n hx hb dX10_settle_26 rfl (lv_at hl 0 rfl) ?_
      have hs5 : kw_Split [(g, .inr (10, [.ref kk, .ref nw, .ref im, .ref kp, .ref tx, .ref tr, .ref be, .ref sh, .ref sd, .ref rf, .int ab, .int bl])), (nw, .inr (4, [.ref kk, .ref nk, .ref nd, .ref ne, .ref nm, .ref nn, .int (nI fi), .int (nI gg), .int (nI un), .int (nI mi), .int (nI no)])), (be, .inr (0, [.ref br, .ref bf, .int bm])), (br, .inl (y 0, 6, .inl fbr)), (bf, .inl (y 0, 6, .inl fbf)), (sh, .inl (y 0, 6, .inl fsh)), (sd, .inl (y 0, 6, .inl fsd))] [(g, .inr (10, [.ref kk, .ref nw, .ref im, .ref kp, .ref tx, .ref tr, .ref be, .ref sh, .ref sd, .ref rf, .int ab, .int bl])), (nw, .inr (4, [.ref kk, .ref nk, .ref nd, .ref ne, .ref nm, .ref nn, .int (nI fi), .int (nI gg), .int (nI un), .int (nI mi), .int (nI no)])), (sh, .inl (y 0, 6, .inl fsh)), (sd, .inl (y 0, 6, .inl fsd))] [(be, .inr (0, [.ref br, .ref bf, .int bm])), (br, .inl (y 0, 6, .inl fbr)), (bf, .inl (y 0, 6, .inl fbf))] [0, 1, 5, 6] [2, 3, 4] := ⟨rfl, rfl, rfl, rfl, rfl, by decide⟩
      refine kw_go_i hs5 hP hD hS hA (va_runV (As := []) (rest := [.ref be]) ⟨hx, hb, hml, hown, hts⟩ (gc_poorestGets l D y g kk nw im kp tx tr be sh sd rf ab bl nk nd ne nm nn fi gg un mi no fsh fsd hfi (by omega) hun hmi hno _) (cwV 0 hts gX10_settle_X10_poorestGets rfl rfl rfl (by decide +kernel) ⟨Nat.le_of_ble_eq_true rfl, Nat.le_of_ble_eq_true rfl⟩) (kw_PreV (ci := 10) (q0 := 0) hs5 hP hD hK hN rfl rfl) rfl rfl hl.1 rfl (lv_room (Nat.le_of_ble_eq_true rfl)) dX10_settle_27 ⟨Nat.le_of_ble_eq_true rfl, Nat.le_of_ble_eq_true rfl⟩) (fun r6 u7 H locs hq hP hD hS => ?_)
      have hP : va_P D vwCl [(be, .inr (0, [.ref br, .ref bf, .int bm])), (br, .inl (y 0, 6, .inl fbr)), (bf, .inl (y 0, 6, .inl fbf)), (g, .inr (10, [.ref kk, .ref nw, .ref im, .ref kp, .ref tx, .ref tr, .ref be, .ref sh, .ref sd, .ref rf, .int ab, .int bl])), (nw, .inr (4, [.ref kk, .ref nk, .ref nd, .ref ne, .ref nm, .ref nn, .int (nI fi), .int (nI gg), .int (nI un), .int (nI mi), .int (nI no)])), (sh, .inl (y 0, 6, .inl fsh)), (sd, .inl (y 0, 6, .inl fsd))] H := hP
      have hD : va_D A [(be, .inr (0, [.ref br, .ref bf, .int bm])), (br, .inl (y 0, 6, .inl fbr)), (bf, .inl (y 0, 6, .inl fbf)), (g, .inr (10, [.ref kk, .ref nw, .ref im, .ref kp, .ref tx, .ref tr, .ref be, .ref sh, .ref sd, .ref rf, .int ab, .int bl])), (nw, .inr (4, [.ref kk, .ref nk, .ref nd, .ref ne, .ref nm, .ref nn, .int (nI fi), .int (nI gg), .int (nI un), .int (nI mi), .int (nI no)])), (sh, .inl (y 0, 6, .inl fsh)), (sd, .inl (y 0, 6, .inl fsd))] := hD
      refine lv_iload_n hx hb dX10_settle_30 rfl (lv_at hl 2 rfl) ?_
      have hs8 : kw_Split [(be, .inr (0, [.ref br, .ref bf, .int bm])), (br, .inl (y 0, 6, .inl fbr)), (bf, .inl (y 0, 6, .inl fbf)), (g, .inr (10, [.ref kk, .ref nw, .ref im, .ref kp, .ref tx, .ref tr, .ref be, .ref sh, .ref sd, .ref rf, .int ab, .int bl])), (nw, .inr (4, [.ref kk, .ref nk, .ref nd, .ref ne, .ref nm, .ref nn, .int (nI fi), .int (nI gg), .int (nI un), .int (nI mi), .int (nI no)])), (sh, .inl (y 0, 6, .inl fsh)), (sd, .inl (y 0, 6, .inl fsd))] [(be, .inr (0, [.ref br, .ref bf, .int bm])), (br, .inl (y 0, 6, .inl fbr)), (bf, .inl (y 0, 6, .inl fbf))] [(g, .inr (10, [.ref kk, .ref nw, .ref im, .ref kp, .ref tx, .ref tr, .ref be, .ref sh, .ref sd, .ref rf, .int ab, .int bl])), (nw, .inr (4, [.ref kk, .ref nk, .ref nd, .ref ne, .ref nm, .ref nn, .int (nI fi), .int (nI gg), .int (nI un), .int (nI mi), .int (nI no)])), (sh, .inl (y 0, 6, .inl fsh)), (sd, .inl (y 0, 6, .inl fsd))] [0, 1, 2] [3, 4, 5, 6] := ⟨rfl, rfl, rfl, rfl, rfl, by decide⟩
      refine kw_go_v hs8 hP hD hS hA (va_runV (As := [.int r6, .int (nI gg)]) (rest := []) ⟨hx, hb, hml, hown, hts⟩ (gc_offer l D y be br bf bm fbr fbf r6 gg (by omega) _) (cwV 2 hts gX10_settle_X0_offer rfl rfl rfl (by decide +kernel) ⟨Nat.le_of_ble_eq_true rfl, Nat.le_of_ble_eq_true rfl⟩) (kw_PreV (ci := 0) (q0 := 0) hs8 hP hD hK hN rfl rfl) rfl rfl hl.1 rfl (lv_room (Nat.le_of_ble_eq_true rfl)) dX10_settle_31 ⟨Nat.le_of_ble_eq_true rfl, Nat.le_of_ble_eq_true rfl⟩) (fun u10 H locs hq hP hD hS => ?_)
      obtain ⟨v11, v12⟩ := u10
      have hP : va_P D vwCl [(g, .inr (10, [.ref kk, .ref nw, .ref im, .ref kp, .ref tx, .ref tr, .ref be, .ref sh, .ref sd, .ref rf, .int ab, .int bl])), (nw, .inr (4, [.ref kk, .ref nk, .ref nd, .ref ne, .ref nm, .ref nn, .int (nI fi), .int (nI gg), .int (nI un), .int (nI mi), .int (nI no)])), (sh, .inl (y 0, 6, .inl fsh)), (sd, .inl (y 0, 6, .inl fsd)), (be, .inr (0, [.ref br, .ref bf, .int v11])), (br, .inl (y 0, 6, .inl fbr)), (bf, .inl (y 0, 6, .inl v12))] H := hP
      have hD : va_D A [(g, .inr (10, [.ref kk, .ref nw, .ref im, .ref kp, .ref tx, .ref tr, .ref be, .ref sh, .ref sd, .ref rf, .int ab, .int bl])), (nw, .inr (4, [.ref kk, .ref nk, .ref nd, .ref ne, .ref nm, .ref nn, .int (nI fi), .int (nI gg), .int (nI un), .int (nI mi), .int (nI no)])), (sh, .inl (y 0, 6, .inl fsh)), (sd, .inl (y 0, 6, .inl fsd)), (be, .inr (0, [.ref br, .ref bf, .int v11])), (br, .inl (y 0, 6, .inl fbr)), (bf, .inl (y 0, 6, .inl v12))] := hD
      exact W.vret hx hb hr (fun tZ ht hW => ⟨⟨(v11, v12), rfl, trivial, by rw [ht]; exact hP.sub [0, 1, 4, 5, 6, 2, 3] rfl, hD.sub [0, 1, 4, 5, 6, 2, 3] (by decide) rfl⟩, hS.F ht⟩) hS.2.2 dX10_settle_34
    · skip
      refine lv_aload_n hx hb dX10_settle_19 rfl (lv_at hl 0 rfl) ?_
      have hs13 : kw_Split [(g, .inr (10, [.ref kk, .ref nw, .ref im, .ref kp, .ref tx, .ref tr, .ref be, .ref sh, .ref sd, .ref rf, .int ab, .int bl])), (nw, .inr (4, [.ref kk, .ref nk, .ref nd, .ref ne, .ref nm, .ref nn, .int (nI fi), .int (nI gg), .int (nI un), .int (nI mi), .int (nI no)])), (be, .inr (0, [.ref br, .ref bf, .int bm])), (br, .inl (y 0, 6, .inl fbr)), (bf, .inl (y 0, 6, .inl fbf)), (sh, .inl (y 0, 6, .inl fsh)), (sd, .inl (y 0, 6, .inl fsd))] [(g, .inr (10, [.ref kk, .ref nw, .ref im, .ref kp, .ref tx, .ref tr, .ref be, .ref sh, .ref sd, .ref rf, .int ab, .int bl])), (nw, .inr (4, [.ref kk, .ref nk, .ref nd, .ref ne, .ref nm, .ref nn, .int (nI fi), .int (nI gg), .int (nI un), .int (nI mi), .int (nI no)])), (sh, .inl (y 0, 6, .inl fsh)), (sd, .inl (y 0, 6, .inl fsd))] [(be, .inr (0, [.ref br, .ref bf, .int bm])), (br, .inl (y 0, 6, .inl fbr)), (bf, .inl (y 0, 6, .inl fbf))] [0, 1, 5, 6] [2, 3, 4] := ⟨rfl, rfl, rfl, rfl, rfl, by decide⟩
      refine kw_go_i hs13 hP hD hS hA (va_runV (As := []) (rest := [.ref be]) ⟨hx, hb, hml, hown, hts⟩ (gc_allGet l D y g kk nw im kp tx tr be sh sd rf ab bl nk nd ne nm nn fi gg un mi no fsh fsd hfi (by omega) hun hmi hno _) (cwV 0 hts gX10_settle_X10_allGet rfl rfl rfl (by decide +kernel) ⟨Nat.le_of_ble_eq_true rfl, Nat.le_of_ble_eq_true rfl⟩) (kw_PreV (ci := 10) (q0 := 0) hs13 hP hD hK hN rfl rfl) rfl rfl hl.1 rfl (lv_room (Nat.le_of_ble_eq_true rfl)) dX10_settle_20 ⟨Nat.le_of_ble_eq_true rfl, Nat.le_of_ble_eq_true rfl⟩) (fun r14 u15 H locs hq hP hD hS => ?_)
      have hP : va_P D vwCl [(be, .inr (0, [.ref br, .ref bf, .int bm])), (br, .inl (y 0, 6, .inl fbr)), (bf, .inl (y 0, 6, .inl fbf)), (g, .inr (10, [.ref kk, .ref nw, .ref im, .ref kp, .ref tx, .ref tr, .ref be, .ref sh, .ref sd, .ref rf, .int ab, .int bl])), (nw, .inr (4, [.ref kk, .ref nk, .ref nd, .ref ne, .ref nm, .ref nn, .int (nI fi), .int (nI gg), .int (nI un), .int (nI mi), .int (nI no)])), (sh, .inl (y 0, 6, .inl fsh)), (sd, .inl (y 0, 6, .inl fsd))] H := hP
      have hD : va_D A [(be, .inr (0, [.ref br, .ref bf, .int bm])), (br, .inl (y 0, 6, .inl fbr)), (bf, .inl (y 0, 6, .inl fbf)), (g, .inr (10, [.ref kk, .ref nw, .ref im, .ref kp, .ref tx, .ref tr, .ref be, .ref sh, .ref sd, .ref rf, .int ab, .int bl])), (nw, .inr (4, [.ref kk, .ref nk, .ref nd, .ref ne, .ref nm, .ref nn, .int (nI fi), .int (nI gg), .int (nI un), .int (nI mi), .int (nI no)])), (sh, .inl (y 0, 6, .inl fsh)), (sd, .inl (y 0, 6, .inl fsd))] := hD
      refine lv_goto (tgt := 30) hx hb dX10_settle_23 (by decide) ?_
      refine lv_iload_n hx hb dX10_settle_30 rfl (lv_at hl 2 rfl) ?_
      have hs16 : kw_Split [(be, .inr (0, [.ref br, .ref bf, .int bm])), (br, .inl (y 0, 6, .inl fbr)), (bf, .inl (y 0, 6, .inl fbf)), (g, .inr (10, [.ref kk, .ref nw, .ref im, .ref kp, .ref tx, .ref tr, .ref be, .ref sh, .ref sd, .ref rf, .int ab, .int bl])), (nw, .inr (4, [.ref kk, .ref nk, .ref nd, .ref ne, .ref nm, .ref nn, .int (nI fi), .int (nI gg), .int (nI un), .int (nI mi), .int (nI no)])), (sh, .inl (y 0, 6, .inl fsh)), (sd, .inl (y 0, 6, .inl fsd))] [(be, .inr (0, [.ref br, .ref bf, .int bm])), (br, .inl (y 0, 6, .inl fbr)), (bf, .inl (y 0, 6, .inl fbf))] [(g, .inr (10, [.ref kk, .ref nw, .ref im, .ref kp, .ref tx, .ref tr, .ref be, .ref sh, .ref sd, .ref rf, .int ab, .int bl])), (nw, .inr (4, [.ref kk, .ref nk, .ref nd, .ref ne, .ref nm, .ref nn, .int (nI fi), .int (nI gg), .int (nI un), .int (nI mi), .int (nI no)])), (sh, .inl (y 0, 6, .inl fsh)), (sd, .inl (y 0, 6, .inl fsd))] [0, 1, 2] [3, 4, 5, 6] := ⟨rfl, rfl, rfl, rfl, rfl, by decide⟩
      refine kw_go_v hs16 hP hD hS hA (va_runV (As := [.int r14, .int (nI gg)]) (rest := []) ⟨hx, hb, hml, hown, hts⟩ (gc_offer l D y be br bf bm fbr fbf r14 gg (by omega) _) (cwV 2 hts gX10_settle_X0_offer rfl rfl rfl (by decide +kernel) ⟨Nat.le_of_ble_eq_true rfl, Nat.le_of_ble_eq_true rfl⟩) (kw_PreV (ci := 0) (q0 := 0) hs16 hP hD hK hN rfl rfl) rfl rfl hl.1 rfl (lv_room (Nat.le_of_ble_eq_true rfl)) dX10_settle_31 ⟨Nat.le_of_ble_eq_true rfl, Nat.le_of_ble_eq_true rfl⟩) (fun u18 H locs hq hP hD hS => ?_)
      obtain ⟨v19, v20⟩ := u18
      have hP : va_P D vwCl [(g, .inr (10, [.ref kk, .ref nw, .ref im, .ref kp, .ref tx, .ref tr, .ref be, .ref sh, .ref sd, .ref rf, .int ab, .int bl])), (nw, .inr (4, [.ref kk, .ref nk, .ref nd, .ref ne, .ref nm, .ref nn, .int (nI fi), .int (nI gg), .int (nI un), .int (nI mi), .int (nI no)])), (sh, .inl (y 0, 6, .inl fsh)), (sd, .inl (y 0, 6, .inl fsd)), (be, .inr (0, [.ref br, .ref bf, .int v19])), (br, .inl (y 0, 6, .inl fbr)), (bf, .inl (y 0, 6, .inl v20))] H := hP
      have hD : va_D A [(g, .inr (10, [.ref kk, .ref nw, .ref im, .ref kp, .ref tx, .ref tr, .ref be, .ref sh, .ref sd, .ref rf, .int ab, .int bl])), (nw, .inr (4, [.ref kk, .ref nk, .ref nd, .ref ne, .ref nm, .ref nn, .int (nI fi), .int (nI gg), .int (nI un), .int (nI mi), .int (nI no)])), (sh, .inl (y 0, 6, .inl fsh)), (sd, .inl (y 0, 6, .inl fsd)), (be, .inr (0, [.ref br, .ref bf, .int v19])), (br, .inl (y 0, 6, .inl fbr)), (bf, .inl (y 0, 6, .inl v20))] := hD
      exact W.vret hx hb hr (fun tZ ht hW => ⟨⟨(v19, v20), rfl, trivial, by rw [ht]; exact hP.sub [0, 1, 4, 5, 6, 2, 3] rfl, hD.sub [0, 1, 4, 5, 6, 2, 3] (by decide) rfl⟩, hS.F ht⟩) hS.2.2 dX10_settle_34

set_option maxHeartbeats 4000000 in
set_option maxRecDepth 100000 in
theorem gc_settle1 (l : Launch) (D : va_G) (y : Nat → ClassId) (g : Nat) (kk : Nat) (nw : Nat) (im : Nat) (kp : Nat) (tx : Nat) (tr : Nat) (be : Nat) (sh : Nat) (sd : Nat) (rf : Nat) (ab : Int32) (bl : Int32) (nk : Nat) (nd : Nat) (ne : Nat) (nm : Nat) (nn : Nat) (fi : Nat) (un : Nat) (mi : Nat) (no : Nat) (br : Nat) (bf : Nat) (bm : Int32) (fbr : Nat → Int32) (fbf : Nat → Int32) (fsh : Nat → Int32) (fsd : Nat → Int32) (k : Nat) (gg : Nat) (x : Int32) (hfi : fi ≤ 6) (hun : un ≤ 8) (hmi : mi ≤ 4) (hno : no ≤ 6) (hkk : k ≤ 6) (hgg : gg + 1 ≤ 5) : kw_Mv l yX10_settle wsX10_settle ({ frames := 3, cells := 0, slots := 0, locals := 106 }) D y [.ref g, .int x, .int (nI gg), .int (nI k)] [(g, .inr (10, [.ref kk, .ref nw, .ref im, .ref kp, .ref tx, .ref tr, .ref be, .ref sh, .ref sd, .ref rf, .int ab, .int bl])), (nw, .inr (4, [.ref kk, .ref nk, .ref nd, .ref ne, .ref nm, .ref nn, .int (nI fi), .int (nI (gg + 1)), .int (nI un), .int (nI mi), .int (nI no)])), (be, .inr (0, [.ref br, .ref bf, .int bm])), (br, .inl (y 0, 6, .inl fbr)), (bf, .inl (y 0, 6, .inl fbf)), (sh, .inl (y 0, 6, .inl fsh)), (sd, .inl (y 0, 6, .inl fsd))] (fun (u : Int32 × (Nat → Int32) × (Nat → Int32) × (Nat → Int32)) => True) (fun u => [(g, .inr (10, [.ref kk, .ref nw, .ref im, .ref kp, .ref tx, .ref tr, .ref be, .ref sh, .ref sd, .ref rf, .int ab, .int bl])), (nw, .inr (4, [.ref kk, .ref nk, .ref nd, .ref ne, .ref nm, .ref nn, .int (nI fi), .int (nI (gg + 1)), .int (nI un), .int (nI mi), .int (nI no)])), (be, .inr (0, [.ref br, .ref bf, .int u.1])), (br, .inl (y 0, 6, .inl u.2.1)), (bf, .inl (y 0, 6, .inl u.2.2.1)), (sh, .inl (y 0, 6, .inl fsh)), (sd, .inl (y 0, 6, .inl u.2.2.2))]) 0 0 := by
  refine kw_Mv.of (cc := cX10_settle) (maxL := 5) (ret := none) (by decide) rfl ?_
  intro pZ eZ s mZ beZ meZ cZ A hE
  obtain ⟨hx, hb, hr, hml, hts, hown, hlocks, hin, hA, hP, hD, hK, hN⟩ := hE
  have hS : va_S A s.heap s.heap [] := va_S.rf
  have hl := lv_entry ([.ref g, .int x, .int (nI gg), .int (nI k)]) (n := 5) (Nat.le_of_ble_eq_true rfl)
  rw [lg_entry_eq]
  generalize (lg_sl ([.ref g, .int x, .int (nI gg), .int (nI k)]) ++ List.replicate (5 - (lg_sl ([.ref g, .int x, .int (nI gg), .int (nI k)])).length) Slot.unset).toArray = ls at hl ⊢
  have hl : lv_has ls 5 [(0, .ref g), (1, .int x), (2, .int (nI gg)), (3, .int (nI k))] := hl
  have fw1 := hts (.fieldLink RX10 36 "GleanDusk" "now" "LGleanDusk$Parish;") (List.mem_of_getElem? (i := 1) rfl)
  have fw2 := hts (.fieldLink RX10 115 "GleanDusk$Parish" "gleaners" "I") (List.mem_of_getElem? (i := 2) rfl)
  have fw3 := hts (.fieldLink RX10 94 "GleanDusk$Parish" "fields" "I") (List.mem_of_getElem? (i := 4) rfl)
  have fw4 := hts (.fieldLink RX10 65 "GleanDusk" "best" "LGleanDusk$Best;") (List.mem_of_getElem? (i := 3) rfl)
  have fw5 := hts (.fieldLink RX10 309 "GleanDusk$Best" "row" "[I") (List.mem_of_getElem? (i := 5) rfl)
  have fw6 := hts (.fieldLink RX10 73 "GleanDusk" "standing" "[I") (List.mem_of_getElem? (i := 6) rfl)
  have iw10 : ∀ w ∈ wsX100, w ∈ wsX10_settle := fun _ h => List.mem_cons_of_mem _ (List.mem_append_left _ (List.mem_append_left _ (List.mem_append_right _ h)))
  have iw4 : ∀ w ∈ wsX40, w ∈ wsX10_settle := fun _ h => List.mem_cons_of_mem _ (List.mem_append_left _ (List.mem_append_right _ h))
  have iw0 : ∀ w ∈ wsX00, w ∈ wsX10_settle := fun _ h => List.mem_cons_of_mem _ (List.mem_append_right _ h)
  refine lv_iload_n hx hb dX10_settle_0 rfl (lv_at hl 2 rfl) ?_
  refine lv_aload_n hx hb dX10_settle_1 rfl (lv_at hl 0 rfl) ?_
  refine va_get (D := D) (ci := 10) (v := .ref nw) (C := RX10) (T := TX10) (N := 12) hx hb hts iw10 hown hK hP 0 rfl rfl 1 (by decide) fw1 (fun _ h9 => h9) rfl dX10_settle_2 ?_
  refine va_get (D := D) (ci := 4) (v := .int (nI (gg + 1))) (C := RX4) (T := TX4) (N := 11) hx hb hts iw4 hown hK hP 1 rfl rfl 7 (by decide) fw2 (fun _ h9 => h9) rfl dX10_settle_5 ?_
  refine lv_icmp_lt (tgt := 35) hx hb dX10_settle_8 (by decide) (fun h1 => ?_) (fun h2 => ?_)
  · skip
    have h1 : gg < (gg + 1) := (nI_ltI (a := gg) (b := (gg + 1)) (by omega) (by omega)).mp h1
    refine lv_iload_n hx hb dX10_settle_35 rfl (lv_at hl 3 rfl) ?_
    refine lv_istore (lv' := [(4, .int (nI k)), (0, .ref g), (1, .int x), (2, .int (nI gg)), (3, .int (nI k))]) hx hb dX10_settle_36 hl (by decide) rfl (fun ls hl => ?_)
    have lp21 : ∀ (fuj91 j91 : Nat) (x10 : Int32) (x11 : Nat → Int32) (x12 : Nat → Int32) (x13 : Nat → Int32) (H : Heap) (locs : List Loc) (ls : Array Slot), j91 ≤ max k fi → max k fi - j91 < fuj91 → va_P D vwCl [(g, .inr (10, [.ref kk, .ref nw, .ref im, .ref kp, .ref tx, .ref tr, .ref be, .ref sh, .ref sd, .ref rf, .int ab, .int bl])), (nw, .inr (4, [.ref kk, .ref nk, .ref nd, .ref ne, .ref nm, .ref nn, .int (nI fi), .int (nI (gg + 1)), .int (nI un), .int (nI mi), .int (nI no)])), (be, .inr (0, [.ref br, .ref bf, .int x10])), (br, .inl (y 0, 6, .inl x11)), (bf, .inl (y 0, 6, .inl x12)), (sh, .inl (y 0, 6, .inl fsh)), (sd, .inl (y 0, 6, .inl x13))] H → va_D A [(g, .inr (10, [.ref kk, .ref nw, .ref im, .ref kp, .ref tx, .ref tr, .ref be, .ref sh, .ref sd, .ref rf, .int ab, .int bl])), (nw, .inr (4, [.ref kk, .ref nk, .ref nd, .ref ne, .ref nm, .ref nn, .int (nI fi), .int (nI (gg + 1)), .int (nI un), .int (nI mi), .int (nI no)])), (be, .inr (0, [.ref br, .ref bf, .int x10])), (br, .inl (y 0, 6, .inl x11)), (bf, .inl (y 0, 6, .inl x12)), (sh, .inl (y 0, 6, .inl fsh)), (sd, .inl (y 0, 6, .inl x13))] → va_S A s.heap H locs → lv_has ls 5 [(4, .int (nI j91)), (0, .ref g), (1, .int x), (2, .int (nI gg)), (3, .int (nI k))] → W pZ l eZ ({ frames := 3, cells := 0, slots := 0, locals := 106 }) s mZ [.ref g, .int x, .int (nI gg), .int (nI k)].toArray beZ meZ cZ H locs 0 0 (MQ beZ (va_Qv (fun (u : Int32 × (Nat → Int32) × (Nat → Int32) × (Nat → Int32)) => True) (kw_B D (fun u => [(g, .inr (10, [.ref kk, .ref nw, .ref im, .ref kp, .ref tx, .ref tr, .ref be, .ref sh, .ref sd, .ref rf, .int ab, .int bl])), (nw, .inr (4, [.ref kk, .ref nk, .ref nd, .ref ne, .ref nm, .ref nn, .int (nI fi), .int (nI (gg + 1)), .int (nI un), .int (nI mi), .int (nI no)])), (be, .inr (0, [.ref br, .ref bf, .int u.1])), (br, .inl (y 0, 6, .inl u.2.1)), (bf, .inl (y 0, 6, .inl u.2.2.1)), (sh, .inl (y 0, 6, .inl fsh)), (sd, .inl (y 0, 6, .inl u.2.2.2))]) A) A) [.ref g, .int x, .int (nI gg), .int (nI k)].toArray s 0 0 A) (F0 mZ 38 ls []) := by
      intro fuj91
      induction fuj91 with
      | zero => intro j91 x10 x11 x12 x13 H locs ls hj9 hf9; exact absurd hf9 (Nat.not_lt_zero _)
      | succ fuj91 ihj91 =>
        intro j91 x10 x11 x12 x13 H locs ls hj91 hfj91  hP hD hS hl
        refine lv_iload hx hb dX10_settle_38 (lv_at hl 0 rfl) ?_
        refine lv_aload_n hx hb dX10_settle_40 rfl (lv_at hl 1 rfl) ?_
        refine va_get (D := D) (ci := 10) (v := .ref nw) (C := RX10) (T := TX10) (N := 12) hx hb hts iw10 hown hK hP 0 rfl rfl 1 (by decide) fw1 (fun _ h9 => h9) rfl dX10_settle_41 ?_
        refine va_get (D := D) (ci := 4) (v := .int (nI fi)) (C := RX4) (T := TX4) (N := 11) hx hb hts iw4 hown hK hP 1 rfl rfl 6 (by decide) fw3 (fun _ h9 => h9) rfl dX10_settle_44 ?_
        refine lv_icmp_ge (tgt := 99) hx hb dX10_settle_47 (by decide) (fun h22 => ?_) (fun h23 => ?_)
        · skip
          have h22 : fi ≤ j91 := (nI_leI (a := fi) (b := j91) (by omega) (by omega)).mp h22
          exact W.vret hx hb hr (fun tZ ht hW => ⟨⟨(x10, x11, x12, x13), rfl, trivial, by rw [ht]; exact hP.sub [0, 1, 2, 3, 4, 5, 6] rfl, hD.sub [0, 1, 2, 3, 4, 5, 6] (by decide) rfl⟩, hS.F ht⟩) hS.2.2 dX10_settle_99
        · skip
          have h23 : ¬ fi ≤ j91 := fun q9 => h23 ((nI_leI (a := fi) (b := j91) (by omega) (by omega)).mpr q9)
          refine lv_aload_n hx hb dX10_settle_50 rfl (lv_at hl 1 rfl) ?_
          refine va_get (D := D) (ci := 10) (v := .ref be) (C := RX10) (T := TX10) (N := 12) hx hb hts iw10 hown hK hP 0 rfl rfl 6 (by decide) fw4 (fun _ h9 => h9) rfl dX10_settle_51 ?_
          refine va_get (D := D) (ci := 0) (v := .ref br) (C := RX0) (T := TX0) (N := 3) hx hb hts iw0 hown hK hP 2 rfl rfl 0 (by decide) fw5 (fun _ h9 => h9) rfl dX10_settle_54 ?_
          refine lv_iload_n hx hb dX10_settle_57 rfl (lv_at hl 3 rfl) ?_
          refine lv_iload hx hb dX10_settle_58 (lv_at hl 0 rfl) ?_
          refine va_iast hx hb hK hP hD hS 3 0 rfl rfl (vp_in_nI (by omega) (by decide)) dX10_settle_60 (fun H locs hP hD hS => ?_)
          rw [nI_clamp (n := gg) (by omega)] at hP hD
          have hP : va_P D vwCl [(g, .inr (10, [.ref kk, .ref nw, .ref im, .ref kp, .ref tx, .ref tr, .ref be, .ref sh, .ref sd, .ref rf, .int ab, .int bl])), (nw, .inr (4, [.ref kk, .ref nk, .ref nd, .ref ne, .ref nm, .ref nn, .int (nI fi), .int (nI (gg + 1)), .int (nI un), .int (nI mi), .int (nI no)])), (be, .inr (0, [.ref br, .ref bf, .int x10])), (br, .inl (y 0, 6, .inl (upd x11 gg (nI j91)))), (bf, .inl (y 0, 6, .inl x12)), (sh, .inl (y 0, 6, .inl fsh)), (sd, .inl (y 0, 6, .inl x13))] H := hP
          have hD : va_D A [(g, .inr (10, [.ref kk, .ref nw, .ref im, .ref kp, .ref tx, .ref tr, .ref be, .ref sh, .ref sd, .ref rf, .int ab, .int bl])), (nw, .inr (4, [.ref kk, .ref nk, .ref nd, .ref ne, .ref nm, .ref nn, .int (nI fi), .int (nI (gg + 1)), .int (nI un), .int (nI mi), .int (nI no)])), (be, .inr (0, [.ref br, .ref bf, .int x10])), (br, .inl (y 0, 6, .inl (upd x11 gg (nI j91)))), (bf, .inl (y 0, 6, .inl x12)), (sh, .inl (y 0, 6, .inl fsh)), (sd, .inl (y 0, 6, .inl x13))] := hD
          refine lv_aload_n hx hb dX10_settle_61 rfl (lv_at hl 1 rfl) ?_
          refine va_get (D := D) (ci := 10) (v := .ref sd) (C := RX10) (T := TX10) (N := 12) hx hb hts iw10 hown hK hP 0 rfl rfl 8 (by decide) fw6 (fun _ h9 => h9) rfl dX10_settle_62 ?_
          refine lv_iload hx hb dX10_settle_65 (lv_at hl 0 rfl) ?_
          refine lv_dup2_11 hx hb dX10_settle_67 rfl rfl ?_
          refine va_iald hx hb hK hP 6 0 rfl rfl (vp_in_nI (by omega) (by decide)) dX10_settle_68 ?_
          rw [nI_clamp (n := j91) (by omega)]
          refine lv_iconst (v := 1) hx hb dX10_settle_69 (by decide) ?_
          refine lv_iadd hx hb dX10_settle_70 ?_
          refine va_iast hx hb hK hP hD hS 6 0 rfl rfl (vp_in_nI (by omega) (by decide)) dX10_settle_71 (fun H locs hP hD hS => ?_)
          rw [nI_clamp (n := j91) (by omega)] at hP hD
          have hP : va_P D vwCl [(g, .inr (10, [.ref kk, .ref nw, .ref im, .ref kp, .ref tx, .ref tr, .ref be, .ref sh, .ref sd, .ref rf, .int ab, .int bl])), (nw, .inr (4, [.ref kk, .ref nk, .ref nd, .ref ne, .ref nm, .ref nn, .int (nI fi), .int (nI (gg + 1)), .int (nI un), .int (nI mi), .int (nI no)])), (be, .inr (0, [.ref br, .ref bf, .int x10])), (br, .inl (y 0, 6, .inl (upd x11 gg (nI j91)))), (bf, .inl (y 0, 6, .inl x12)), (sh, .inl (y 0, 6, .inl fsh)), (sd, .inl (y 0, 6, .inl (upd x13 j91 ((x13 j91) + 1))))] H := hP
          have hD : va_D A [(g, .inr (10, [.ref kk, .ref nw, .ref im, .ref kp, .ref tx, .ref tr, .ref be, .ref sh, .ref sd, .ref rf, .int ab, .int bl])), (nw, .inr (4, [.ref kk, .ref nk, .ref nd, .ref ne, .ref nm, .ref nn, .int (nI fi), .int (nI (gg + 1)), .int (nI un), .int (nI mi), .int (nI no)])), (be, .inr (0, [.ref br, .ref bf, .int x10])), (br, .inl (y 0, 6, .inl (upd x11 gg (nI j91)))), (bf, .inl (y 0, 6, .inl x12)), (sh, .inl (y 0, 6, .inl fsh)), (sd, .inl (y 0, 6, .inl (upd x13 j91 ((x13 j91) + 1))))] := hD
          refine lv_aload_n hx hb dX10_settle_72 rfl (lv_at hl 1 rfl) ?_
          refine lv_iload_n hx hb dX10_settle_73 rfl (lv_at hl 2 rfl) ?_
          refine lv_iload_n hx hb dX10_settle_74 rfl (lv_at hl 3 rfl) ?_
          refine lv_iconst (v := 1) hx hb dX10_settle_75 (by decide) ?_
          refine lv_iadd hx hb dX10_settle_76 ?_
          rw [show (nI gg) + 1 = nI (gg + 1) from nI_add gg 1]
          refine lv_iload hx hb dX10_settle_77 (lv_at hl 0 rfl) ?_
          have hs24 : kw_Split [(g, .inr (10, [.ref kk, .ref nw, .ref im, .ref kp, .ref tx, .ref tr, .ref be, .ref sh, .ref sd, .ref rf, .int ab, .int bl])), (nw, .inr (4, [.ref kk, .ref nk, .ref nd, .ref ne, .ref nm, .ref nn, .int (nI fi), .int (nI (gg + 1)), .int (nI un), .int (nI mi), .int (nI no)])), (be, .inr (0, [.ref br, .ref bf, .int x10])), (br, .inl (y 0, 6, .inl (upd x11 gg (nI j91)))), (bf, .inl (y 0, 6, .inl x12)), (sh, .inl (y 0, 6, .inl fsh)), (sd, .inl (y 0, 6, .inl (upd x13 j91 ((x13 j91) + 1))))] [(g, .inr (10, [.ref kk, .ref nw, .ref im, .ref kp, .ref tx, .ref tr, .ref be, .ref sh, .ref sd, .ref rf, .int ab, .int bl])), (nw, .inr (4, [.ref kk, .ref nk, .ref nd, .ref ne, .ref nm, .ref nn, .int (nI fi), .int (nI (gg + 1)), .int (nI un), .int (nI mi), .int (nI no)])), (be, .inr (0, [.ref br, .ref bf, .int x10])), (br, .inl (y 0, 6, .inl (upd x11 gg (nI j91)))), (bf, .inl (y 0, 6, .inl x12)), (sh, .inl (y 0, 6, .inl fsh)), (sd, .inl (y 0, 6, .inl (upd x13 j91 ((x13 j91) + 1))))] [] [0, 1, 2, 3, 4, 5, 6] [] := ⟨rfl, rfl, rfl, rfl, rfl, by decide⟩
          refine kw_go_v hs24 hP hD hS hA (va_runV (As := [.int x, .int (nI (gg + 1)), .int (nI j91)]) (rest := []) ⟨hx, hb, hml, hown, hts⟩ (gc_settle0 l D y g kk nw im kp tx tr be sh sd rf ab bl nk nd ne nm nn fi un mi no br bf x10 (upd x11 gg (nI j91)) x12 fsh (upd x13 j91 ((x13 j91) + 1)) j91 (gg + 1) x hfi hun hmi hno (by omega) (by omega) _) (cwV 3 hts gX10_settle_X10_settle rfl rfl rfl (by decide +kernel) ⟨Nat.le_of_ble_eq_true rfl, Nat.le_of_ble_eq_true rfl⟩) (kw_PreV (ci := 10) (q0 := 0) hs24 hP hD hK hN rfl rfl) rfl rfl hl.1 rfl (lv_room (Nat.le_of_ble_eq_true rfl)) dX10_settle_79 ⟨Nat.le_of_ble_eq_true rfl, Nat.le_of_ble_eq_true rfl⟩) (fun u26 H locs hq hP hD hS => ?_)
          obtain ⟨v27, v28⟩ := u26
          have hP : va_P D vwCl [(g, .inr (10, [.ref kk, .ref nw, .ref im, .ref kp, .ref tx, .ref tr, .ref be, .ref sh, .ref sd, .ref rf, .int ab, .int bl])), (nw, .inr (4, [.ref kk, .ref nk, .ref nd, .ref ne, .ref nm, .ref nn, .int (nI fi), .int (nI (gg + 1)), .int (nI un), .int (nI mi), .int (nI no)])), (be, .inr (0, [.ref br, .ref bf, .int v27])), (br, .inl (y 0, 6, .inl (upd x11 gg (nI j91)))), (bf, .inl (y 0, 6, .inl v28)), (sh, .inl (y 0, 6, .inl fsh)), (sd, .inl (y 0, 6, .inl (upd x13 j91 ((x13 j91) + 1))))] H := hP
          have hD : va_D A [(g, .inr (10, [.ref kk, .ref nw, .ref im, .ref kp, .ref tx, .ref tr, .ref be, .ref sh, .ref sd, .ref rf, .int ab, .int bl])), (nw, .inr (4, [.ref kk, .ref nk, .ref nd, .ref ne, .ref nm, .ref nn, .int (nI fi), .int (nI (gg + 1)), .int (nI un), .int (nI mi), .int (nI no)])), (be, .inr (0, [.ref br, .ref bf, .int v27])), (br, .inl (y 0, 6, .inl (upd x11 gg (nI j91)))), (bf, .inl (y 0, 6, .inl v28)), (sh, .inl (y 0, 6, .inl fsh)), (sd, .inl (y 0, 6, .inl (upd x13 j91 ((x13 j91) + 1))))] := hD
          refine lv_aload_n hx hb dX10_settle_82 rfl (lv_at hl 1 rfl) ?_
          refine va_get (D := D) (ci := 10) (v := .ref sd) (C := RX10) (T := TX10) (N := 12) hx hb hts iw10 hown hK hP 0 rfl rfl 8 (by decide) fw6 (fun _ h9 => h9) rfl dX10_settle_83 ?_
          refine lv_iload hx hb dX10_settle_86 (lv_at hl 0 rfl) ?_
          refine lv_dup2_11 hx hb dX10_settle_88 rfl rfl ?_
          refine va_iald hx hb hK hP 6 0 rfl rfl (vp_in_nI (by omega) (by decide)) dX10_settle_89 ?_
          rw [nI_clamp (n := j91) (by omega)]
          refine lv_iconst (v := 1) hx hb dX10_settle_90 (by decide) ?_
          refine lv_isub hx hb dX10_settle_91 ?_
          refine va_iast hx hb hK hP hD hS 6 0 rfl rfl (vp_in_nI (by omega) (by decide)) dX10_settle_92 (fun H locs hP hD hS => ?_)
          rw [nI_clamp (n := j91) (by omega)] at hP hD
          have hP : va_P D vwCl [(g, .inr (10, [.ref kk, .ref nw, .ref im, .ref kp, .ref tx, .ref tr, .ref be, .ref sh, .ref sd, .ref rf, .int ab, .int bl])), (nw, .inr (4, [.ref kk, .ref nk, .ref nd, .ref ne, .ref nm, .ref nn, .int (nI fi), .int (nI (gg + 1)), .int (nI un), .int (nI mi), .int (nI no)])), (be, .inr (0, [.ref br, .ref bf, .int v27])), (br, .inl (y 0, 6, .inl (upd x11 gg (nI j91)))), (bf, .inl (y 0, 6, .inl v28)), (sh, .inl (y 0, 6, .inl fsh)), (sd, .inl (y 0, 6, .inl (upd (upd x13 j91 ((x13 j91) + 1)) j91 (((upd x13 j91 ((x13 j91) + 1)) j91) - 1))))] H := hP
          have hD : va_D A [(g, .inr (10, [.ref kk, .ref nw, .ref im, .ref kp, .ref tx, .ref tr, .ref be, .ref sh, .ref sd, .ref rf, .int ab, .int bl])), (nw, .inr (4, [.ref kk, .ref nk, .ref nd, .ref ne, .ref nm, .ref nn, .int (nI fi), .int (nI (gg + 1)), .int (nI un), .int (nI mi), .int (nI no)])), (be, .inr (0, [.ref br, .ref bf, .int v27])), (br, .inl (y 0, 6, .inl (upd x11 gg (nI j91)))), (bf, .inl (y 0, 6, .inl v28)), (sh, .inl (y 0, 6, .inl fsh)), (sd, .inl (y 0, 6, .inl (upd (upd x13 j91 ((x13 j91) + 1)) j91 (((upd x13 j91 ((x13 j91) + 1)) j91) - 1))))] := hD
          refine lv_iinc (v := (nI (j91 + 1))) (lv' := [(4, .int (nI (j91 + 1))), (0, .ref g), (1, .int x), (2, .int (nI gg)), (3, .int (nI k))]) hx hb dX10_settle_93 hl (k := 0) rfl (nI_1 j91) (by decide) rfl (fun ls hl => ?_)
          refine lv_goto (tgt := 38) hx hb dX10_settle_96 (by decide) ?_
          exact ihj91 (j91 + 1) v27 (upd x11 gg (nI j91)) v28 (upd (upd x13 j91 ((x13 j91) + 1)) j91 (((upd x13 j91 ((x13 j91) + 1)) j91) - 1)) H locs ls (by omega) (by omega)  (hP.sub [0, 1, 2, 3, 4, 5, 6] rfl) (hD.sub [0, 1, 2, 3, 4, 5, 6] (by decide) rfl) hS (lv_sub hl [0, 1, 2, 3, 4] rfl)
    exact lp21 ((max k fi) + 1) k bm fbr fbf fsd _ _ _ (by omega) (by omega)  hP hD hS (lv_sub hl [0, 1, 2, 3, 4] rfl)
  · skip
    have h2 : ¬ gg < (gg + 1) := fun q9 => h2 ((nI_ltI (a := gg) (b := (gg + 1)) (by omega) (by omega)).mpr q9)
    exact absurd h2 (by omega)

set_option maxHeartbeats 4000000 in
set_option maxRecDepth 100000 in
theorem gc_settle2 (l : Launch) (D : va_G) (y : Nat → ClassId) (g : Nat) (kk : Nat) (nw : Nat) (im : Nat) (kp : Nat) (tx : Nat) (tr : Nat) (be : Nat) (sh : Nat) (sd : Nat) (rf : Nat) (ab : Int32) (bl : Int32) (nk : Nat) (nd : Nat) (ne : Nat) (nm : Nat) (nn : Nat) (fi : Nat) (un : Nat) (mi : Nat) (no : Nat) (br : Nat) (bf : Nat) (bm : Int32) (fbr : Nat → Int32) (fbf : Nat → Int32) (fsh : Nat → Int32) (fsd : Nat → Int32) (k : Nat) (gg : Nat) (x : Int32) (hfi : fi ≤ 6) (hun : un ≤ 8) (hmi : mi ≤ 4) (hno : no ≤ 6) (hkk : k ≤ 6) (hgg : gg + 2 ≤ 5) : kw_Mv l yX10_settle wsX10_settle ({ frames := 4, cells := 0, slots := 0, locals := 130 }) D y [.ref g, .int x, .int (nI gg), .int (nI k)] [(g, .inr (10, [.ref kk, .ref nw, .ref im, .ref kp, .ref tx, .ref tr, .ref be, .ref sh, .ref sd, .ref rf, .int ab, .int bl])), (nw, .inr (4, [.ref kk, .ref nk, .ref nd, .ref ne, .ref nm, .ref nn, .int (nI fi), .int (nI (gg + 2)), .int (nI un), .int (nI mi), .int (nI no)])), (be, .inr (0, [.ref br, .ref bf, .int bm])), (br, .inl (y 0, 6, .inl fbr)), (bf, .inl (y 0, 6, .inl fbf)), (sh, .inl (y 0, 6, .inl fsh)), (sd, .inl (y 0, 6, .inl fsd))] (fun (u : Int32 × (Nat → Int32) × (Nat → Int32) × (Nat → Int32)) => True) (fun u => [(g, .inr (10, [.ref kk, .ref nw, .ref im, .ref kp, .ref tx, .ref tr, .ref be, .ref sh, .ref sd, .ref rf, .int ab, .int bl])), (nw, .inr (4, [.ref kk, .ref nk, .ref nd, .ref ne, .ref nm, .ref nn, .int (nI fi), .int (nI (gg + 2)), .int (nI un), .int (nI mi), .int (nI no)])), (be, .inr (0, [.ref br, .ref bf, .int u.1])), (br, .inl (y 0, 6, .inl u.2.1)), (bf, .inl (y 0, 6, .inl u.2.2.1)), (sh, .inl (y 0, 6, .inl fsh)), (sd, .inl (y 0, 6, .inl u.2.2.2))]) 0 0 := by
  refine kw_Mv.of (cc := cX10_settle) (maxL := 5) (ret := none) (by decide) rfl ?_
  intro pZ eZ s mZ beZ meZ cZ A hE
  obtain ⟨hx, hb, hr, hml, hts, hown, hlocks, hin, hA, hP, hD, hK, hN⟩ := hE
  have hS : va_S A s.heap s.heap [] := va_S.rf
  have hl := lv_entry ([.ref g, .int x, .int (nI gg), .int (nI k)]) (n := 5) (Nat.le_of_ble_eq_true rfl)
  rw [lg_entry_eq]
  generalize (lg_sl ([.ref g, .int x, .int (nI gg), .int (nI k)]) ++ List.replicate (5 - (lg_sl ([.ref g, .int x, .int (nI gg), .int (nI k)])).length) Slot.unset).toArray = ls at hl ⊢
  have hl : lv_has ls 5 [(0, .ref g), (1, .int x), (2, .int (nI gg)), (3, .int (nI k))] := hl
  have fw1 := hts (.fieldLink RX10 36 "GleanDusk" "now" "LGleanDusk$Parish;") (List.mem_of_getElem? (i := 1) rfl)
  have fw2 := hts (.fieldLink RX10 115 "GleanDusk$Parish" "gleaners" "I") (List.mem_of_getElem? (i := 2) rfl)
  have fw3 := hts (.fieldLink RX10 94 "GleanDusk$Parish" "fields" "I") (List.mem_of_getElem? (i := 4) rfl)
  have fw4 := hts (.fieldLink RX10 65 "GleanDusk" "best" "LGleanDusk$Best;") (List.mem_of_getElem? (i := 3) rfl)
  have fw5 := hts (.fieldLink RX10 309 "GleanDusk$Best" "row" "[I") (List.mem_of_getElem? (i := 5) rfl)
  have fw6 := hts (.fieldLink RX10 73 "GleanDusk" "standing" "[I") (List.mem_of_getElem? (i := 6) rfl)
  have iw10 : ∀ w ∈ wsX100, w ∈ wsX10_settle := fun _ h => List.mem_cons_of_mem _ (List.mem_append_left _ (List.mem_append_left _ (List.mem_append_right _ h)))
  have iw4 : ∀ w ∈ wsX40, w ∈ wsX10_settle := fun _ h => List.mem_cons_of_mem _ (List.mem_append_left _ (List.mem_append_right _ h))
  have iw0 : ∀ w ∈ wsX00, w ∈ wsX10_settle := fun _ h => List.mem_cons_of_mem _ (List.mem_append_right _ h)
  refine lv_iload_n hx hb dX10_settle_0 rfl (lv_at hl 2 rfl) ?_
  refine lv_aload_n hx hb dX10_settle_1 rfl (lv_at hl 0 rfl) ?_
  refine va_get (D := D) (ci := 10) (v := .ref nw) (C := RX10) (T := TX10) (N := 12) hx hb hts iw10 hown hK hP 0 rfl rfl 1 (by decide) fw1 (fun _ h9 => h9) rfl dX10_settle_2 ?_
  refine va_get (D := D) (ci := 4) (v := .int (nI (gg + 2))) (C := RX4) (T := TX4) (N := 11) hx hb hts iw4 hown hK hP 1 rfl rfl 7 (by decide) fw2 (fun _ h9 => h9) rfl dX10_settle_5 ?_
  refine lv_icmp_lt (tgt := 35) hx hb dX10_settle_8 (by decide) (fun h1 => ?_) (fun h2 => ?_)
  · skip
    have h1 : gg < (gg + 2) := (nI_ltI (a := gg) (b := (gg + 2)) (by omega) (by omega)).mp h1
    refine lv_iload_n hx hb dX10_settle_35 rfl (lv_at hl 3 rfl) ?_
    refine lv_istore (lv' := [(4, .int (nI k)), (0, .ref g), (1, .int x), (2, .int (nI gg)), (3, .int (nI k))]) hx hb dX10_settle_36 hl (by decide) rfl (fun ls hl => ?_)
    have lp25 : ∀ (fuj91 j91 : Nat) (x12 : Int32) (x13 : Nat → Int32) (x14 : Nat → Int32) (x15 : Nat → Int32) (H : Heap) (locs : List Loc) (ls : Array Slot), j91 ≤ max k fi → max k fi - j91 < fuj91 → va_P D vwCl [(g, .inr (10, [.ref kk, .ref nw, .ref im, .ref kp, .ref tx, .ref tr, .ref be, .ref sh, .ref sd, .ref rf, .int ab, .int bl])), (nw, .inr (4, [.ref kk, .ref nk, .ref nd, .ref ne, .ref nm, .ref nn, .int (nI fi), .int (nI (gg + 2)), .int (nI un), .int (nI mi), .int (nI no)])), (be, .inr (0, [.ref br, .ref bf, .int x12])), (br, .inl (y 0, 6, .inl x13)), (bf, .inl (y 0, 6, .inl x14)), (sh, .inl (y 0, 6, .inl fsh)), (sd, .inl (y 0, 6, .inl x15))] H → va_D A [(g, .inr (10, [.ref kk, .ref nw, .ref im, .ref kp, .ref tx, .ref tr, .ref be, .ref sh, .ref sd, .ref rf, .int ab, .int bl])), (nw, .inr (4, [.ref kk, .ref nk, .ref nd, .ref ne, .ref nm, .ref nn, .int (nI fi), .int (nI (gg + 2)), .int (nI un), .int (nI mi), .int (nI no)])), (be, .inr (0, [.ref br, .ref bf, .int x12])), (br, .inl (y 0, 6, .inl x13)), (bf, .inl (y 0, 6, .inl x14)), (sh, .inl (y 0, 6, .inl fsh)), (sd, .inl (y 0, 6, .inl x15))] → va_S A s.heap H locs → lv_has ls 5 [(4, .int (nI j91)), (0, .ref g), (1, .int x), (2, .int (nI gg)), (3, .int (nI k))] → W pZ l eZ ({ frames := 4, cells := 0, slots := 0, locals := 130 }) s mZ [.ref g, .int x, .int (nI gg), .int (nI k)].toArray beZ meZ cZ H locs 0 0 (MQ beZ (va_Qv (fun (u : Int32 × (Nat → Int32) × (Nat → Int32) × (Nat → Int32)) => True) (kw_B D (fun u => [(g, .inr (10, [.ref kk, .ref nw, .ref im, .ref kp, .ref tx, .ref tr, .ref be, .ref sh, .ref sd, .ref rf, .int ab, .int bl])), (nw, .inr (4, [.ref kk, .ref nk, .ref nd, .ref ne, .ref nm, .ref nn, .int (nI fi), .int (nI (gg + 2)), .int (nI un), .int (nI mi), .int (nI no)])), (be, .inr (0, [.ref br, .ref bf, .int u.1])), (br, .inl (y 0, 6, .inl u.2.1)), (bf, .inl (y 0, 6, .inl u.2.2.1)), (sh, .inl (y 0, 6, .inl fsh)), (sd, .inl (y 0, 6, .inl u.2.2.2))]) A) A) [.ref g, .int x, .int (nI gg), .int (nI k)].toArray s 0 0 A) (F0 mZ 38 ls []) := by
      intro fuj91
      induction fuj91 with
      | zero => intro j91 x12 x13 x14 x15 H locs ls hj9 hf9; exact absurd hf9 (Nat.not_lt_zero _)
      | succ fuj91 ihj91 =>
        intro j91 x12 x13 x14 x15 H locs ls hj91 hfj91  hP hD hS hl
        refine lv_iload hx hb dX10_settle_38 (lv_at hl 0 rfl) ?_
        refine lv_aload_n hx hb dX10_settle_40 rfl (lv_at hl 1 rfl) ?_
        refine va_get (D := D) (ci := 10) (v := .ref nw) (C := RX10) (T := TX10) (N := 12) hx hb hts iw10 hown hK hP 0 rfl rfl 1 (by decide) fw1 (fun _ h9 => h9) rfl dX10_settle_41 ?_
        refine va_get (D := D) (ci := 4) (v := .int (nI fi)) (C := RX4) (T := TX4) (N := 11) hx hb hts iw4 hown hK hP 1 rfl rfl 6 (by decide) fw3 (fun _ h9 => h9) rfl dX10_settle_44 ?_
        refine lv_icmp_ge (tgt := 99) hx hb dX10_settle_47 (by decide) (fun h26 => ?_) (fun h27 => ?_)
        · skip
          have h26 : fi ≤ j91 := (nI_leI (a := fi) (b := j91) (by omega) (by omega)).mp h26
          exact W.vret hx hb hr (fun tZ ht hW => ⟨⟨(x12, x13, x14, x15), rfl, trivial, by rw [ht]; exact hP.sub [0, 1, 2, 3, 4, 5, 6] rfl, hD.sub [0, 1, 2, 3, 4, 5, 6] (by decide) rfl⟩, hS.F ht⟩) hS.2.2 dX10_settle_99
        · skip
          have h27 : ¬ fi ≤ j91 := fun q9 => h27 ((nI_leI (a := fi) (b := j91) (by omega) (by omega)).mpr q9)
          refine lv_aload_n hx hb dX10_settle_50 rfl (lv_at hl 1 rfl) ?_
          refine va_get (D := D) (ci := 10) (v := .ref be) (C := RX10) (T := TX10) (N := 12) hx hb hts iw10 hown hK hP 0 rfl rfl 6 (by decide) fw4 (fun _ h9 => h9) rfl dX10_settle_51 ?_
          refine va_get (D := D) (ci := 0) (v := .ref br) (C := RX0) (T := TX0) (N := 3) hx hb hts iw0 hown hK hP 2 rfl rfl 0 (by decide) fw5 (fun _ h9 => h9) rfl dX10_settle_54 ?_
          refine lv_iload_n hx hb dX10_settle_57 rfl (lv_at hl 3 rfl) ?_
          refine lv_iload hx hb dX10_settle_58 (lv_at hl 0 rfl) ?_
          refine va_iast hx hb hK hP hD hS 3 0 rfl rfl (vp_in_nI (by omega) (by decide)) dX10_settle_60 (fun H locs hP hD hS => ?_)
          rw [nI_clamp (n := gg) (by omega)] at hP hD
          have hP : va_P D vwCl [(g, .inr (10, [.ref kk, .ref nw, .ref im, .ref kp, .ref tx, .ref tr, .ref be, .ref sh, .ref sd, .ref rf, .int ab, .int bl])), (nw, .inr (4, [.ref kk, .ref nk, .ref nd, .ref ne, .ref nm, .ref nn, .int (nI fi), .int (nI (gg + 2)), .int (nI un), .int (nI mi), .int (nI no)])), (be, .inr (0, [.ref br, .ref bf, .int x12])), (br, .inl (y 0, 6, .inl (upd x13 gg (nI j91)))), (bf, .inl (y 0, 6, .inl x14)), (sh, .inl (y 0, 6, .inl fsh)), (sd, .inl (y 0, 6, .inl x15))] H := hP
          have hD : va_D A [(g, .inr (10, [.ref kk, .ref nw, .ref im, .ref kp, .ref tx, .ref tr, .ref be, .ref sh, .ref sd, .ref rf, .int ab, .int bl])), (nw, .inr (4, [.ref kk, .ref nk, .ref nd, .ref ne, .ref nm, .ref nn, .int (nI fi), .int (nI (gg + 2)), .int (nI un), .int (nI mi), .int (nI no)])), (be, .inr (0, [.ref br, .ref bf, .int x12])), (br, .inl (y 0, 6, .inl (upd x13 gg (nI j91)))), (bf, .inl (y 0, 6, .inl x14)), (sh, .inl (y 0, 6, .inl fsh)), (sd, .inl (y 0, 6, .inl x15))] := hD
          refine lv_aload_n hx hb dX10_settle_61 rfl (lv_at hl 1 rfl) ?_
          refine va_get (D := D) (ci := 10) (v := .ref sd) (C := RX10) (T := TX10) (N := 12) hx hb hts iw10 hown hK hP 0 rfl rfl 8 (by decide) fw6 (fun _ h9 => h9) rfl dX10_settle_62 ?_
          refine lv_iload hx hb dX10_settle_65 (lv_at hl 0 rfl) ?_
          refine lv_dup2_11 hx hb dX10_settle_67 rfl rfl ?_
          refine va_iald hx hb hK hP 6 0 rfl rfl (vp_in_nI (by omega) (by decide)) dX10_settle_68 ?_
          rw [nI_clamp (n := j91) (by omega)]
          refine lv_iconst (v := 1) hx hb dX10_settle_69 (by decide) ?_
          refine lv_iadd hx hb dX10_settle_70 ?_
          refine va_iast hx hb hK hP hD hS 6 0 rfl rfl (vp_in_nI (by omega) (by decide)) dX10_settle_71 (fun H locs hP hD hS => ?_)
          rw [nI_clamp (n := j91) (by omega)] at hP hD
          have hP : va_P D vwCl [(g, .inr (10, [.ref kk, .ref nw, .ref im, .ref kp, .ref tx, .ref tr, .ref be, .ref sh, .ref sd, .ref rf, .int ab, .int bl])), (nw, .inr (4, [.ref kk, .ref nk, .ref nd, .ref ne, .ref nm, .ref nn, .int (nI fi), .int (nI (gg + 2)), .int (nI un), .int (nI mi), .int (nI no)])), (be, .inr (0, [.ref br, .ref bf, .int x12])), (br, .inl (y 0, 6, .inl (upd x13 gg (nI j91)))), (bf, .inl (y 0, 6, .inl x14)), (sh, .inl (y 0, 6, .inl fsh)), (sd, .inl (y 0, 6, .inl (upd x15 j91 ((x15 j91) + 1))))] H := hP
          have hD : va_D A [(g, .inr (10, [.ref kk, .ref nw, .ref im, .ref kp, .ref tx, .ref tr, .ref be, .ref sh, .ref sd, .ref rf, .int ab, .int bl])), (nw, .inr (4, [.ref kk, .ref nk, .ref nd, .ref ne, .ref nm, .ref nn, .int (nI fi), .int (nI (gg + 2)), .int (nI un), .int (nI mi), .int (nI no)])), (be, .inr (0, [.ref br, .ref bf, .int x12])), (br, .inl (y 0, 6, .inl (upd x13 gg (nI j91)))), (bf, .inl (y 0, 6, .inl x14)), (sh, .inl (y 0, 6, .inl fsh)), (sd, .inl (y 0, 6, .inl (upd x15 j91 ((x15 j91) + 1))))] := hD
          refine lv_aload_n hx hb dX10_settle_72 rfl (lv_at hl 1 rfl) ?_
          refine lv_iload_n hx hb dX10_settle_73 rfl (lv_at hl 2 rfl) ?_
          refine lv_iload_n hx hb dX10_settle_74 rfl (lv_at hl 3 rfl) ?_
          refine lv_iconst (v := 1) hx hb dX10_settle_75 (by decide) ?_
          refine lv_iadd hx hb dX10_settle_76 ?_
          rw [show (nI gg) + 1 = nI (gg + 1) from nI_add gg 1]
          refine lv_iload hx hb dX10_settle_77 (lv_at hl 0 rfl) ?_
          have hs28 : kw_Split [(g, .inr (10, [.ref kk, .ref nw, .ref im, .ref kp, .ref tx, .ref tr, .ref be, .ref sh, .ref sd, .ref rf, .int ab, .int bl])), (nw, .inr (4, [.ref kk, .ref nk, .ref nd, .ref ne, .ref nm, .ref nn, .int (nI fi), .int (nI (gg + 2)), .int (nI un), .int (nI mi), .int (nI no)])), (be, .inr (0, [.ref br, .ref bf, .int x12])), (br, .inl (y 0, 6, .inl (upd x13 gg (nI j91)))), (bf, .inl (y 0, 6, .inl x14)), (sh, .inl (y 0, 6, .inl fsh)), (sd, .inl (y 0, 6, .inl (upd x15 j91 ((x15 j91) + 1))))] [(g, .inr (10, [.ref kk, .ref nw, .ref im, .ref kp, .ref tx, .ref tr, .ref be, .ref sh, .ref sd, .ref rf, .int ab, .int bl])), (nw, .inr (4, [.ref kk, .ref nk, .ref nd, .ref ne, .ref nm, .ref nn, .int (nI fi), .int (nI (gg + 2)), .int (nI un), .int (nI mi), .int (nI no)])), (be, .inr (0, [.ref br, .ref bf, .int x12])), (br, .inl (y 0, 6, .inl (upd x13 gg (nI j91)))), (bf, .inl (y 0, 6, .inl x14)), (sh, .inl (y 0, 6, .inl fsh)), (sd, .inl (y 0, 6, .inl (upd x15 j91 ((x15 j91) + 1))))] [] [0, 1, 2, 3, 4, 5, 6] [] := ⟨rfl, rfl, rfl, rfl, rfl, by decide⟩
          refine kw_go_v hs28 hP hD hS hA (va_runV (As := [.int x, .int (nI (gg + 1)), .int (nI j91)]) (rest := []) ⟨hx, hb, hml, hown, hts⟩ (gc_settle1 l D y g kk nw im kp tx tr be sh sd rf ab bl nk nd ne nm nn fi un mi no br bf x12 (upd x13 gg (nI j91)) x14 fsh (upd x15 j91 ((x15 j91) + 1)) j91 (gg + 1) x hfi hun hmi hno (by omega) (by omega) _) (cwV 3 hts gX10_settle_X10_settle rfl rfl rfl (by decide +kernel) ⟨Nat.le_of_ble_eq_true rfl, Nat.le_of_ble_eq_true rfl⟩) (kw_PreV (ci := 10) (q0 := 0) hs28 hP hD hK hN rfl rfl) rfl rfl hl.1 rfl (lv_room (Nat.le_of_ble_eq_true rfl)) dX10_settle_79 ⟨Nat.le_of_ble_eq_true rfl, Nat.le_of_ble_eq_true rfl⟩) (fun u30 H locs hq hP hD hS => ?_)
          obtain ⟨v31, v32, v33, v34⟩ := u30
          have hP : va_P D vwCl [(g, .inr (10, [.ref kk, .ref nw, .ref im, .ref kp, .ref tx, .ref tr, .ref be, .ref sh, .ref sd, .ref rf, .int ab, .int bl])), (nw, .inr (4, [.ref kk, .ref nk, .ref nd, .ref ne, .ref nm, .ref nn, .int (nI fi), .int (nI (gg + 2)), .int (nI un), .int (nI mi), .int (nI no)])), (be, .inr (0, [.ref br, .ref bf, .int v31])), (br, .inl (y 0, 6, .inl v32)), (bf, .inl (y 0, 6, .inl v33)), (sh, .inl (y 0, 6, .inl fsh)), (sd, .inl (y 0, 6, .inl v34))] H := hP
          have hD : va_D A [(g, .inr (10, [.ref kk, .ref nw, .ref im, .ref kp, .ref tx, .ref tr, .ref be, .ref sh, .ref sd, .ref rf, .int ab, .int bl])), (nw, .inr (4, [.ref kk, .ref nk, .ref nd, .ref ne, .ref nm, .ref nn, .int (nI fi), .int (nI (gg + 2)), .int (nI un), .int (nI mi), .int (nI no)])), (be, .inr (0, [.ref br, .ref bf, .int v31])), (br, .inl (y 0, 6, .inl v32)), (bf, .inl (y 0, 6, .inl v33)), (sh, .inl (y 0, 6, .inl fsh)), (sd, .inl (y 0, 6, .inl v34))] := hD
          refine lv_aload_n hx hb dX10_settle_82 rfl (lv_at hl 1 rfl) ?_
          refine va_get (D := D) (ci := 10) (v := .ref sd) (C := RX10) (T := TX10) (N := 12) hx hb hts iw10 hown hK hP 0 rfl rfl 8 (by decide) fw6 (fun _ h9 => h9) rfl dX10_settle_83 ?_
          refine lv_iload hx hb dX10_settle_86 (lv_at hl 0 rfl) ?_
          refine lv_dup2_11 hx hb dX10_settle_88 rfl rfl ?_
          refine va_iald hx hb hK hP 6 0 rfl rfl (vp_in_nI (by omega) (by decide)) dX10_settle_89 ?_
          rw [nI_clamp (n := j91) (by omega)]
          refine lv_iconst (v := 1) hx hb dX10_settle_90 (by decide) ?_
          refine lv_isub hx hb dX10_settle_91 ?_
          refine va_iast hx hb hK hP hD hS 6 0 rfl rfl (vp_in_nI (by omega) (by decide)) dX10_settle_92 (fun H locs hP hD hS => ?_)
          rw [nI_clamp (n := j91) (by omega)] at hP hD
          have hP : va_P D vwCl [(g, .inr (10, [.ref kk, .ref nw, .ref im, .ref kp, .ref tx, .ref tr, .ref be, .ref sh, .ref sd, .ref rf, .int ab, .int bl])), (nw, .inr (4, [.ref kk, .ref nk, .ref nd, .ref ne, .ref nm, .ref nn, .int (nI fi), .int (nI (gg + 2)), .int (nI un), .int (nI mi), .int (nI no)])), (be, .inr (0, [.ref br, .ref bf, .int v31])), (br, .inl (y 0, 6, .inl v32)), (bf, .inl (y 0, 6, .inl v33)), (sh, .inl (y 0, 6, .inl fsh)), (sd, .inl (y 0, 6, .inl (upd v34 j91 ((v34 j91) - 1))))] H := hP
          have hD : va_D A [(g, .inr (10, [.ref kk, .ref nw, .ref im, .ref kp, .ref tx, .ref tr, .ref be, .ref sh, .ref sd, .ref rf, .int ab, .int bl])), (nw, .inr (4, [.ref kk, .ref nk, .ref nd, .ref ne, .ref nm, .ref nn, .int (nI fi), .int (nI (gg + 2)), .int (nI un), .int (nI mi), .int (nI no)])), (be, .inr (0, [.ref br, .ref bf, .int v31])), (br, .inl (y 0, 6, .inl v32)), (bf, .inl (y 0, 6, .inl v33)), (sh, .inl (y 0, 6, .inl fsh)), (sd, .inl (y 0, 6, .inl (upd v34 j91 ((v34 j91) - 1))))] := hD
          refine lv_iinc (v := (nI (j91 + 1))) (lv' := [(4, .int (nI (j91 + 1))), (0, .ref g), (1, .int x), (2, .int (nI gg)), (3, .int (nI k))]) hx hb dX10_settle_93 hl (k := 0) rfl (nI_1 j91) (by decide) rfl (fun ls hl => ?_)
          refine lv_goto (tgt := 38) hx hb dX10_settle_96 (by decide) ?_
          exact ihj91 (j91 + 1) v31 v32 v33 (upd v34 j91 ((v34 j91) - 1)) H locs ls (by omega) (by omega)  (hP.sub [0, 1, 2, 3, 4, 5, 6] rfl) (hD.sub [0, 1, 2, 3, 4, 5, 6] (by decide) rfl) hS (lv_sub hl [0, 1, 2, 3, 4] rfl)
    exact lp25 ((max k fi) + 1) k bm fbr fbf fsd _ _ _ (by omega) (by omega)  hP hD hS (lv_sub hl [0, 1, 2, 3, 4] rfl)
  · skip
    have h2 : ¬ gg < (gg + 2) := fun q9 => h2 ((nI_ltI (a := gg) (b := (gg + 2)) (by omega) (by omega)).mpr q9)
    exact absurd h2 (by omega)

set_option maxHeartbeats 4000000 in
set_option maxRecDepth 100000 in
theorem gc_settle3 (l : Launch) (D : va_G) (y : Nat → ClassId) (g : Nat) (kk : Nat) (nw : Nat) (im : Nat) (kp : Nat) (tx : Nat) (tr : Nat) (be : Nat) (sh : Nat) (sd : Nat) (rf : Nat) (ab : Int32) (bl : Int32) (nk : Nat) (nd : Nat) (ne : Nat) (nm : Nat) (nn : Nat) (fi : Nat) (un : Nat) (mi : Nat) (no : Nat) (br : Nat) (bf : Nat) (bm : Int32) (fbr : Nat → Int32) (fbf : Nat → Int32) (fsh : Nat → Int32) (fsd : Nat → Int32) (k : Nat) (gg : Nat) (x : Int32) (hfi : fi ≤ 6) (hun : un ≤ 8) (hmi : mi ≤ 4) (hno : no ≤ 6) (hkk : k ≤ 6) (hgg : gg + 3 ≤ 5) : kw_Mv l yX10_settle wsX10_settle ({ frames := 5, cells := 0, slots := 0, locals := 154 }) D y [.ref g, .int x, .int (nI gg), .int (nI k)] [(g, .inr (10, [.ref kk, .ref nw, .ref im, .ref kp, .ref tx, .ref tr, .ref be, .ref sh, .ref sd, .ref rf, .int ab, .int bl])), (nw, .inr (4, [.ref kk, .ref nk, .ref nd, .ref ne, .ref nm, .ref nn, .int (nI fi), .int (nI (gg + 3)), .int (nI un), .int (nI mi), .int (nI no)])), (be, .inr (0, [.ref br, .ref bf, .int bm])), (br, .inl (y 0, 6, .inl fbr)), (bf, .inl (y 0, 6, .inl fbf)), (sh, .inl (y 0, 6, .inl fsh)), (sd, .inl (y 0, 6, .inl fsd))] (fun (u : Int32 × (Nat → Int32) × (Nat → Int32) × (Nat → Int32)) => True) (fun u => [(g, .inr (10, [.ref kk, .ref nw, .ref im, .ref kp, .ref tx, .ref tr, .ref be, .ref sh, .ref sd, .ref rf, .int ab, .int bl])), (nw, .inr (4, [.ref kk, .ref nk, .ref nd, .ref ne, .ref nm, .ref nn, .int (nI fi), .int (nI (gg + 3)), .int (nI un), .int (nI mi), .int (nI no)])), (be, .inr (0, [.ref br, .ref bf, .int u.1])), (br, .inl (y 0, 6, .inl u.2.1)), (bf, .inl (y 0, 6, .inl u.2.2.1)), (sh, .inl (y 0, 6, .inl fsh)), (sd, .inl (y 0, 6, .inl u.2.2.2))]) 0 0 := by
  refine kw_Mv.of (cc := cX10_settle) (maxL := 5) (ret := none) (by decide) rfl ?_
  intro pZ eZ s mZ beZ meZ cZ A hE
  obtain ⟨hx, hb, hr, hml, hts, hown, hlocks, hin, hA, hP, hD, hK, hN⟩ := hE
  have hS : va_S A s.heap s.heap [] := va_S.rf
  have hl := lv_entry ([.ref g, .int x, .int (nI gg), .int (nI k)]) (n := 5) (Nat.le_of_ble_eq_true rfl)
  rw [lg_entry_eq]
  generalize (lg_sl ([.ref g, .int x, .int (nI gg), .int (nI k)]) ++ List.replicate (5 - (lg_sl ([.ref g, .int x, .int (nI gg), .int (nI k)])).length) Slot.unset).toArray = ls at hl ⊢
  have hl : lv_has ls 5 [(0, .ref g), (1, .int x), (2, .int (nI gg)), (3, .int (nI k))] := hl
  have fw1 := hts (.fieldLink RX10 36 "GleanDusk" "now" "LGleanDusk$Parish;") (List.mem_of_getElem? (i := 1) rfl)
  have fw2 := hts (.fieldLink RX10 115 "GleanDusk$Parish" "gleaners" "I") (List.mem_of_getElem? (i := 2) rfl)
  have fw3 := hts (.fieldLink RX10 94 "GleanDusk$Parish" "fields" "I") (List.mem_of_getElem? (i := 4) rfl)
  have fw4 := hts (.fieldLink RX10 65 "GleanDusk" "best" "LGleanDusk$Best;") (List.mem_of_getElem? (i := 3) rfl)
  have fw5 := hts (.fieldLink RX10 309 "GleanDusk$Best" "row" "[I") (List.mem_of_getElem? (i := 5) rfl)
  have fw6 := hts (.fieldLink RX10 73 "GleanDusk" "standing" "[I") (List.mem_of_getElem? (i := 6) rfl)
  have iw10 : ∀ w ∈ wsX100, w ∈ wsX10_settle := fun _ h => List.mem_cons_of_mem _ (List.mem_append_left _ (List.mem_append_left _ (List.mem_append_right _ h)))
  have iw4 : ∀ w ∈ wsX40, w ∈ wsX10_settle := fun _ h => List.mem_cons_of_mem _ (List.mem_append_left _ (List.mem_append_right _ h))
  have iw0 : ∀ w ∈ wsX00, w ∈ wsX10_settle := fun _ h => List.mem_cons_of_mem _ (List.mem_append_right _ h)
  refine lv_iload_n hx hb dX10_settle_0 rfl (lv_at hl 2 rfl) ?_
  refine lv_aload_n hx hb dX10_settle_1 rfl (lv_at hl 0 rfl) ?_
  refine va_get (D := D) (ci := 10) (v := .ref nw) (C := RX10) (T := TX10) (N := 12) hx hb hts iw10 hown hK hP 0 rfl rfl 1 (by decide) fw1 (fun _ h9 => h9) rfl dX10_settle_2 ?_
  refine va_get (D := D) (ci := 4) (v := .int (nI (gg + 3))) (C := RX4) (T := TX4) (N := 11) hx hb hts iw4 hown hK hP 1 rfl rfl 7 (by decide) fw2 (fun _ h9 => h9) rfl dX10_settle_5 ?_
  refine lv_icmp_lt (tgt := 35) hx hb dX10_settle_8 (by decide) (fun h1 => ?_) (fun h2 => ?_)
  · skip
    have h1 : gg < (gg + 3) := (nI_ltI (a := gg) (b := (gg + 3)) (by omega) (by omega)).mp h1
    refine lv_iload_n hx hb dX10_settle_35 rfl (lv_at hl 3 rfl) ?_
    refine lv_istore (lv' := [(4, .int (nI k)), (0, .ref g), (1, .int x), (2, .int (nI gg)), (3, .int (nI k))]) hx hb dX10_settle_36 hl (by decide) rfl (fun ls hl => ?_)
    have lp25 : ∀ (fuj91 j91 : Nat) (x12 : Int32) (x13 : Nat → Int32) (x14 : Nat → Int32) (x15 : Nat → Int32) (H : Heap) (locs : List Loc) (ls : Array Slot), j91 ≤ max k fi → max k fi - j91 < fuj91 → va_P D vwCl [(g, .inr (10, [.ref kk, .ref nw, .ref im, .ref kp, .ref tx, .ref tr, .ref be, .ref sh, .ref sd, .ref rf, .int ab, .int bl])), (nw, .inr (4, [.ref kk, .ref nk, .ref nd, .ref ne, .ref nm, .ref nn, .int (nI fi), .int (nI (gg + 3)), .int (nI un), .int (nI mi), .int (nI no)])), (be, .inr (0, [.ref br, .ref bf, .int x12])), (br, .inl (y 0, 6, .inl x13)), (bf, .inl (y 0, 6, .inl x14)), (sh, .inl (y 0, 6, .inl fsh)), (sd, .inl (y 0, 6, .inl x15))] H → va_D A [(g, .inr (10, [.ref kk, .ref nw, .ref im, .ref kp, .ref tx, .ref tr, .ref be, .ref sh, .ref sd, .ref rf, .int ab, .int bl])), (nw, .inr (4, [.ref kk, .ref nk, .ref nd, .ref ne, .ref nm, .ref nn, .int (nI fi), .int (nI (gg + 3)), .int (nI un), .int (nI mi), .int (nI no)])), (be, .inr (0, [.ref br, .ref bf, .int x12])), (br, .inl (y 0, 6, .inl x13)), (bf, .inl (y 0, 6, .inl x14)), (sh, .inl (y 0, 6, .inl fsh)), (sd, .inl (y 0, 6, .inl x15))] → va_S A s.heap H locs → lv_has ls 5 [(4, .int (nI j91)), (0, .ref g), (1, .int x), (2, .int (nI gg)), (3, .int (nI k))] → W pZ l eZ ({ frames := 5, cells := 0, slots := 0, locals := 154 }) s mZ [.ref g, .int x, .int (nI gg), .int (nI k)].toArray beZ meZ cZ H locs 0 0 (MQ beZ (va_Qv (fun (u : Int32 × (Nat → Int32) × (Nat → Int32) × (Nat → Int32)) => True) (kw_B D (fun u => [(g, .inr (10, [.ref kk, .ref nw, .ref im, .ref kp, .ref tx, .ref tr, .ref be, .ref sh, .ref sd, .ref rf, .int ab, .int bl])), (nw, .inr (4, [.ref kk, .ref nk, .ref nd, .ref ne, .ref nm, .ref nn, .int (nI fi), .int (nI (gg + 3)), .int (nI un), .int (nI mi), .int (nI no)])), (be, .inr (0, [.ref br, .ref bf, .int u.1])), (br, .inl (y 0, 6, .inl u.2.1)), (bf, .inl (y 0, 6, .inl u.2.2.1)), (sh, .inl (y 0, 6, .inl fsh)), (sd, .inl (y 0, 6, .inl u.2.2.2))]) A) A) [.ref g, .int x, .int (nI gg), .int (nI k)].toArray s 0 0 A) (F0 mZ 38 ls []) := by
      intro fuj91
      induction fuj91 with
      | zero => intro j91 x12 x13 x14 x15 H locs ls hj9 hf9; exact absurd hf9 (Nat.not_lt_zero _)
      | succ fuj91 ihj91 =>
        intro j91 x12 x13 x14 x15 H locs ls hj91 hfj91  hP hD hS hl
        refine lv_iload hx hb dX10_settle_38 (lv_at hl 0 rfl) ?_
        refine lv_aload_n hx hb dX10_settle_40 rfl (lv_at hl 1 rfl) ?_
        refine va_get (D := D) (ci := 10) (v := .ref nw) (C := RX10) (T := TX10) (N := 12) hx hb hts iw10 hown hK hP 0 rfl rfl 1 (by decide) fw1 (fun _ h9 => h9) rfl dX10_settle_41 ?_
        refine va_get (D := D) (ci := 4) (v := .int (nI fi)) (C := RX4) (T := TX4) (N := 11) hx hb hts iw4 hown hK hP 1 rfl rfl 6 (by decide) fw3 (fun _ h9 => h9) rfl dX10_settle_44 ?_
        refine lv_icmp_ge (tgt := 99) hx hb dX10_settle_47 (by decide) (fun h26 => ?_) (fun h27 => ?_)
        · skip
          have h26 : fi ≤ j91 := (nI_leI (a := fi) (b := j91) (by omega) (by omega)).mp h26
          exact W.vret hx hb hr (fun tZ ht hW => ⟨⟨(x12, x13, x14, x15), rfl, trivial, by rw [ht]; exact hP.sub [0, 1, 2, 3, 4, 5, 6] rfl, hD.sub [0, 1, 2, 3, 4, 5, 6] (by decide) rfl⟩, hS.F ht⟩) hS.2.2 dX10_settle_99
        · skip
          have h27 : ¬ fi ≤ j91 := fun q9 => h27 ((nI_leI (a := fi) (b := j91) (by omega) (by omega)).mpr q9)
          refine lv_aload_n hx hb dX10_settle_50 rfl (lv_at hl 1 rfl) ?_
          refine va_get (D := D) (ci := 10) (v := .ref be) (C := RX10) (T := TX10) (N := 12) hx hb hts iw10 hown hK hP 0 rfl rfl 6 (by decide) fw4 (fun _ h9 => h9) rfl dX10_settle_51 ?_
          refine va_get (D := D) (ci := 0) (v := .ref br) (C := RX0) (T := TX0) (N := 3) hx hb hts iw0 hown hK hP 2 rfl rfl 0 (by decide) fw5 (fun _ h9 => h9) rfl dX10_settle_54 ?_
          refine lv_iload_n hx hb dX10_settle_57 rfl (lv_at hl 3 rfl) ?_
          refine lv_iload hx hb dX10_settle_58 (lv_at hl 0 rfl) ?_
          refine va_iast hx hb hK hP hD hS 3 0 rfl rfl (vp_in_nI (by omega) (by decide)) dX10_settle_60 (fun H locs hP hD hS => ?_)
          rw [nI_clamp (n := gg) (by omega)] at hP hD
          have hP : va_P D vwCl [(g, .inr (10, [.ref kk, .ref nw, .ref im, .ref kp, .ref tx, .ref tr, .ref be, .ref sh, .ref sd, .ref rf, .int ab, .int bl])), (nw, .inr (4, [.ref kk, .ref nk, .ref nd, .ref ne, .ref nm, .ref nn, .int (nI fi), .int (nI (gg + 3)), .int (nI un), .int (nI mi), .int (nI no)])), (be, .inr (0, [.ref br, .ref bf, .int x12])), (br, .inl (y 0, 6, .inl (upd x13 gg (nI j91)))), (bf, .inl (y 0, 6, .inl x14)), (sh, .inl (y 0, 6, .inl fsh)), (sd, .inl (y 0, 6, .inl x15))] H := hP
          have hD : va_D A [(g, .inr (10, [.ref kk, .ref nw, .ref im, .ref kp, .ref tx, .ref tr, .ref be, .ref sh, .ref sd, .ref rf, .int ab, .int bl])), (nw, .inr (4, [.ref kk, .ref nk, .ref nd, .ref ne, .ref nm, .ref nn, .int (nI fi), .int (nI (gg + 3)), .int (nI un), .int (nI mi), .int (nI no)])), (be, .inr (0, [.ref br, .ref bf, .int x12])), (br, .inl (y 0, 6, .inl (upd x13 gg (nI j91)))), (bf, .inl (y 0, 6, .inl x14)), (sh, .inl (y 0, 6, .inl fsh)), (sd, .inl (y 0, 6, .inl x15))] := hD
          refine lv_aload_n hx hb dX10_settle_61 rfl (lv_at hl 1 rfl) ?_
          refine va_get (D := D) (ci := 10) (v := .ref sd) (C := RX10) (T := TX10) (N := 12) hx hb hts iw10 hown hK hP 0 rfl rfl 8 (by decide) fw6 (fun _ h9 => h9) rfl dX10_settle_62 ?_
          refine lv_iload hx hb dX10_settle_65 (lv_at hl 0 rfl) ?_
          refine lv_dup2_11 hx hb dX10_settle_67 rfl rfl ?_
          refine va_iald hx hb hK hP 6 0 rfl rfl (vp_in_nI (by omega) (by decide)) dX10_settle_68 ?_
          rw [nI_clamp (n := j91) (by omega)]
          refine lv_iconst (v := 1) hx hb dX10_settle_69 (by decide) ?_
          refine lv_iadd hx hb dX10_settle_70 ?_
          refine va_iast hx hb hK hP hD hS 6 0 rfl rfl (vp_in_nI (by omega) (by decide)) dX10_settle_71 (fun H locs hP hD hS => ?_)
          rw [nI_clamp (n := j91) (by omega)] at hP hD
          have hP : va_P D vwCl [(g, .inr (10, [.ref kk, .ref nw, .ref im, .ref kp, .ref tx, .ref tr, .ref be, .ref sh, .ref sd, .ref rf, .int ab, .int bl])), (nw, .inr (4, [.ref kk, .ref nk, .ref nd, .ref ne, .ref nm, .ref nn, .int (nI fi), .int (nI (gg + 3)), .int (nI un), .int (nI mi), .int (nI no)])), (be, .inr (0, [.ref br, .ref bf, .int x12])), (br, .inl (y 0, 6, .inl (upd x13 gg (nI j91)))), (bf, .inl (y 0, 6, .inl x14)), (sh, .inl (y 0, 6, .inl fsh)), (sd, .inl (y 0, 6, .inl (upd x15 j91 ((x15 j91) + 1))))] H := hP
          have hD : va_D A [(g, .inr (10, [.ref kk, .ref nw, .ref im, .ref kp, .ref tx, .ref tr, .ref be, .ref sh, .ref sd, .ref rf, .int ab, .int bl])), (nw, .inr (4, [.ref kk, .ref nk, .ref nd, .ref ne, .ref nm, .ref nn, .int (nI fi), .int (nI (gg + 3)), .int (nI un), .int (nI mi), .int (nI no)])), (be, .inr (0, [.ref br, .ref bf, .int x12])), (br, .inl (y 0, 6, .inl (upd x13 gg (nI j91)))), (bf, .inl (y 0, 6, .inl x14)), (sh, .inl (y 0, 6, .inl fsh)), (sd, .inl (y 0, 6, .inl (upd x15 j91 ((x15 j91) + 1))))] := hD
          refine lv_aload_n hx hb dX10_settle_72 rfl (lv_at hl 1 rfl) ?_
          refine lv_iload_n hx hb dX10_settle_73 rfl (lv_at hl 2 rfl) ?_
          refine lv_iload_n hx hb dX10_settle_74 rfl (lv_at hl 3 rfl) ?_
          refine lv_iconst (v := 1) hx hb dX10_settle_75 (by decide) ?_
          refine lv_iadd hx hb dX10_settle_76 ?_
          rw [show (nI gg) + 1 = nI (gg + 1) from nI_add gg 1]
          refine lv_iload hx hb dX10_settle_77 (lv_at hl 0 rfl) ?_
          have hs28 : kw_Split [(g, .inr (10, [.ref kk, .ref nw, .ref im, .ref kp, .ref tx, .ref tr, .ref be, .ref sh, .ref sd, .ref rf, .int ab, .int bl])), (nw, .inr (4, [.ref kk, .ref nk, .ref nd, .ref ne, .ref nm, .ref nn, .int (nI fi), .int (nI (gg + 3)), .int (nI un), .int (nI mi), .int (nI no)])), (be, .inr (0, [.ref br, .ref bf, .int x12])), (br, .inl (y 0, 6, .inl (upd x13 gg (nI j91)))), (bf, .inl (y 0, 6, .inl x14)), (sh, .inl (y 0, 6, .inl fsh)), (sd, .inl (y 0, 6, .inl (upd x15 j91 ((x15 j91) + 1))))] [(g, .inr (10, [.ref kk, .ref nw, .ref im, .ref kp, .ref tx, .ref tr, .ref be, .ref sh, .ref sd, .ref rf, .int ab, .int bl])), (nw, .inr (4, [.ref kk, .ref nk, .ref nd, .ref ne, .ref nm, .ref nn, .int (nI fi), .int (nI (gg + 3)), .int (nI un), .int (nI mi), .int (nI no)])), (be, .inr (0, [.ref br, .ref bf, .int x12])), (br, .inl (y 0, 6, .inl (upd x13 gg (nI j91)))), (bf, .inl (y 0, 6, .inl x14)), (sh, .inl (y 0, 6, .inl fsh)), (sd, .inl (y 0, 6, .inl (upd x15 j91 ((x15 j91) + 1))))] [] [0, 1, 2, 3, 4, 5, 6] [] := ⟨rfl, rfl, rfl, rfl, rfl, by decide⟩
          refine kw_go_v hs28 hP hD hS hA (va_runV (As := [.int x, .int (nI (gg + 1)), .int (nI j91)]) (rest := []) ⟨hx, hb, hml, hown, hts⟩ (gc_settle2 l D y g kk nw im kp tx tr be sh sd rf ab bl nk nd ne nm nn fi un mi no br bf x12 (upd x13 gg (nI j91)) x14 fsh (upd x15 j91 ((x15 j91) + 1)) j91 (gg + 1) x hfi hun hmi hno (by omega) (by omega) _) (cwV 3 hts gX10_settle_X10_settle rfl rfl rfl (by decide +kernel) ⟨Nat.le_of_ble_eq_true rfl, Nat.le_of_ble_eq_true rfl⟩) (kw_PreV (ci := 10) (q0 := 0) hs28 hP hD hK hN rfl rfl) rfl rfl hl.1 rfl (lv_room (Nat.le_of_ble_eq_true rfl)) dX10_settle_79 ⟨Nat.le_of_ble_eq_true rfl, Nat.le_of_ble_eq_true rfl⟩) (fun u30 H locs hq hP hD hS => ?_)
          obtain ⟨v31, v32, v33, v34⟩ := u30
          have hP : va_P D vwCl [(g, .inr (10, [.ref kk, .ref nw, .ref im, .ref kp, .ref tx, .ref tr, .ref be, .ref sh, .ref sd, .ref rf, .int ab, .int bl])), (nw, .inr (4, [.ref kk, .ref nk, .ref nd, .ref ne, .ref nm, .ref nn, .int (nI fi), .int (nI (gg + 3)), .int (nI un), .int (nI mi), .int (nI no)])), (be, .inr (0, [.ref br, .ref bf, .int v31])), (br, .inl (y 0, 6, .inl v32)), (bf, .inl (y 0, 6, .inl v33)), (sh, .inl (y 0, 6, .inl fsh)), (sd, .inl (y 0, 6, .inl v34))] H := hP
          have hD : va_D A [(g, .inr (10, [.ref kk, .ref nw, .ref im, .ref kp, .ref tx, .ref tr, .ref be, .ref sh, .ref sd, .ref rf, .int ab, .int bl])), (nw, .inr (4, [.ref kk, .ref nk, .ref nd, .ref ne, .ref nm, .ref nn, .int (nI fi), .int (nI (gg + 3)), .int (nI un), .int (nI mi), .int (nI no)])), (be, .inr (0, [.ref br, .ref bf, .int v31])), (br, .inl (y 0, 6, .inl v32)), (bf, .inl (y 0, 6, .inl v33)), (sh, .inl (y 0, 6, .inl fsh)), (sd, .inl (y 0, 6, .inl v34))] := hD
          refine lv_aload_n hx hb dX10_settle_82 rfl (lv_at hl 1 rfl) ?_
          refine va_get (D := D) (ci := 10) (v := .ref sd) (C := RX10) (T := TX10) (N := 12) hx hb hts iw10 hown hK hP 0 rfl rfl 8 (by decide) fw6 (fun _ h9 => h9) rfl dX10_settle_83 ?_
          refine lv_iload hx hb dX10_settle_86 (lv_at hl 0 rfl) ?_
          refine lv_dup2_11 hx hb dX10_settle_88 rfl rfl ?_
          refine va_iald hx hb hK hP 6 0 rfl rfl (vp_in_nI (by omega) (by decide)) dX10_settle_89 ?_
          rw [nI_clamp (n := j91) (by omega)]
          refine lv_iconst (v := 1) hx hb dX10_settle_90 (by decide) ?_
          refine lv_isub hx hb dX10_settle_91 ?_
          refine va_iast hx hb hK hP hD hS 6 0 rfl rfl (vp_in_nI (by omega) (by decide)) dX10_settle_92 (fun H locs hP hD hS => ?_)
          rw [nI_clamp (n := j91) (by omega)] at hP hD
          have hP : va_P D vwCl [(g, .inr (10, [.ref kk, .ref nw, .ref im, .ref kp, .ref tx, .ref tr, .ref be, .ref sh, .ref sd, .ref rf, .int ab, .int bl])), (nw, .inr (4, [.ref kk, .ref nk, .ref nd, .ref ne, .ref nm, .ref nn, .int (nI fi), .int (nI (gg + 3)), .int (nI un), .int (nI mi), .int (nI no)])), (be, .inr (0, [.ref br, .ref bf, .int v31])), (br, .inl (y 0, 6, .inl v32)), (bf, .inl (y 0, 6, .inl v33)), (sh, .inl (y 0, 6, .inl fsh)), (sd, .inl (y 0, 6, .inl (upd v34 j91 ((v34 j91) - 1))))] H := hP
          have hD : va_D A [(g, .inr (10, [.ref kk, .ref nw, .ref im, .ref kp, .ref tx, .ref tr, .ref be, .ref sh, .ref sd, .ref rf, .int ab, .int bl])), (nw, .inr (4, [.ref kk, .ref nk, .ref nd, .ref ne, .ref nm, .ref nn, .int (nI fi), .int (nI (gg + 3)), .int (nI un), .int (nI mi), .int (nI no)])), (be, .inr (0, [.ref br, .ref bf, .int v31])), (br, .inl (y 0, 6, .inl v32)), (bf, .inl (y 0, 6, .inl v33)), (sh, .inl (y 0, 6, .inl fsh)), (sd, .inl (y 0, 6, .inl (upd v34 j91 ((v34 j91) - 1))))] := hD
          refine lv_iinc (v := (nI (j91 + 1))) (lv' := [(4, .int (nI (j91 + 1))), (0, .ref g), (1, .int x), (2, .int (nI gg)), (3, .int (nI k))]) hx hb dX10_settle_93 hl (k := 0) rfl (nI_1 j91) (by decide) rfl (fun ls hl => ?_)
          refine lv_goto (tgt := 38) hx hb dX10_settle_96 (by decide) ?_
          exact ihj91 (j91 + 1) v31 v32 v33 (upd v34 j91 ((v34 j91) - 1)) H locs ls (by omega) (by omega)  (hP.sub [0, 1, 2, 3, 4, 5, 6] rfl) (hD.sub [0, 1, 2, 3, 4, 5, 6] (by decide) rfl) hS (lv_sub hl [0, 1, 2, 3, 4] rfl)
    exact lp25 ((max k fi) + 1) k bm fbr fbf fsd _ _ _ (by omega) (by omega)  hP hD hS (lv_sub hl [0, 1, 2, 3, 4] rfl)
  · skip
    have h2 : ¬ gg < (gg + 3) := fun q9 => h2 ((nI_ltI (a := gg) (b := (gg + 3)) (by omega) (by omega)).mpr q9)
    exact absurd h2 (by omega)

set_option maxHeartbeats 4000000 in
set_option maxRecDepth 100000 in
theorem gc_settle4 (l : Launch) (D : va_G) (y : Nat → ClassId) (g : Nat) (kk : Nat) (nw : Nat) (im : Nat) (kp : Nat) (tx : Nat) (tr : Nat) (be : Nat) (sh : Nat) (sd : Nat) (rf : Nat) (ab : Int32) (bl : Int32) (nk : Nat) (nd : Nat) (ne : Nat) (nm : Nat) (nn : Nat) (fi : Nat) (un : Nat) (mi : Nat) (no : Nat) (br : Nat) (bf : Nat) (bm : Int32) (fbr : Nat → Int32) (fbf : Nat → Int32) (fsh : Nat → Int32) (fsd : Nat → Int32) (k : Nat) (gg : Nat) (x : Int32) (hfi : fi ≤ 6) (hun : un ≤ 8) (hmi : mi ≤ 4) (hno : no ≤ 6) (hkk : k ≤ 6) (hgg : gg + 4 ≤ 5) : kw_Mv l yX10_settle wsX10_settle ({ frames := 6, cells := 0, slots := 0, locals := 178 }) D y [.ref g, .int x, .int (nI gg), .int (nI k)] [(g, .inr (10, [.ref kk, .ref nw, .ref im, .ref kp, .ref tx, .ref tr, .ref be, .ref sh, .ref sd, .ref rf, .int ab, .int bl])), (nw, .inr (4, [.ref kk, .ref nk, .ref nd, .ref ne, .ref nm, .ref nn, .int (nI fi), .int (nI (gg + 4)), .int (nI un), .int (nI mi), .int (nI no)])), (be, .inr (0, [.ref br, .ref bf, .int bm])), (br, .inl (y 0, 6, .inl fbr)), (bf, .inl (y 0, 6, .inl fbf)), (sh, .inl (y 0, 6, .inl fsh)), (sd, .inl (y 0, 6, .inl fsd))] (fun (u : Int32 × (Nat → Int32) × (Nat → Int32) × (Nat → Int32)) => True) (fun u => [(g, .inr (10, [.ref kk, .ref nw, .ref im, .ref kp, .ref tx, .ref tr, .ref be, .ref sh, .ref sd, .ref rf, .int ab, .int bl])), (nw, .inr (4, [.ref kk, .ref nk, .ref nd, .ref ne, .ref nm, .ref nn, .int (nI fi), .int (nI (gg + 4)), .int (nI un), .int (nI mi), .int (nI no)])), (be, .inr (0, [.ref br, .ref bf, .int u.1])), (br, .inl (y 0, 6, .inl u.2.1)), (bf, .inl (y 0, 6, .inl u.2.2.1)), (sh, .inl (y 0, 6, .inl fsh)), (sd, .inl (y 0, 6, .inl u.2.2.2))]) 0 0 := by
  refine kw_Mv.of (cc := cX10_settle) (maxL := 5) (ret := none) (by decide) rfl ?_
  intro pZ eZ s mZ beZ meZ cZ A hE
  obtain ⟨hx, hb, hr, hml, hts, hown, hlocks, hin, hA, hP, hD, hK, hN⟩ := hE
  have hS : va_S A s.heap s.heap [] := va_S.rf
  have hl := lv_entry ([.ref g, .int x, .int (nI gg), .int (nI k)]) (n := 5) (Nat.le_of_ble_eq_true rfl)
  rw [lg_entry_eq]
  generalize (lg_sl ([.ref g, .int x, .int (nI gg), .int (nI k)]) ++ List.replicate (5 - (lg_sl ([.ref g, .int x, .int (nI gg), .int (nI k)])).length) Slot.unset).toArray = ls at hl ⊢
  have hl : lv_has ls 5 [(0, .ref g), (1, .int x), (2, .int (nI gg)), (3, .int (nI k))] := hl
  have fw1 := hts (.fieldLink RX10 36 "GleanDusk" "now" "LGleanDusk$Parish;") (List.mem_of_getElem? (i := 1) rfl)
  have fw2 := hts (.fieldLink RX10 115 "GleanDusk$Parish" "gleaners" "I") (List.mem_of_getElem? (i := 2) rfl)
  have fw3 := hts (.fieldLink RX10 94 "GleanDusk$Parish" "fields" "I") (List.mem_of_getElem? (i := 4) rfl)
  have fw4 := hts (.fieldLink RX10 65 "GleanDusk" "best" "LGleanDusk$Best;") (List.mem_of_getElem? (i := 3) rfl)
  have fw5 := hts (.fieldLink RX10 309 "GleanDusk$Best" "row" "[I") (List.mem_of_getElem? (i := 5) rfl)
  have fw6 := hts (.fieldLink RX10 73 "GleanDusk" "standing" "[I") (List.mem_of_getElem? (i := 6) rfl)
  have iw10 : ∀ w ∈ wsX100, w ∈ wsX10_settle := fun _ h => List.mem_cons_of_mem _ (List.mem_append_left _ (List.mem_append_left _ (List.mem_append_right _ h)))
  have iw4 : ∀ w ∈ wsX40, w ∈ wsX10_settle := fun _ h => List.mem_cons_of_mem _ (List.mem_append_left _ (List.mem_append_right _ h))
  have iw0 : ∀ w ∈ wsX00, w ∈ wsX10_settle := fun _ h => List.mem_cons_of_mem _ (List.mem_append_right _ h)
  refine lv_iload_n hx hb dX10_settle_0 rfl (lv_at hl 2 rfl) ?_
  refine lv_aload_n hx hb dX10_settle_1 rfl (lv_at hl 0 rfl) ?_
  refine va_get (D := D) (ci := 10) (v := .ref nw) (C := RX10) (T := TX10) (N := 12) hx hb hts iw10 hown hK hP 0 rfl rfl 1 (by decide) fw1 (fun _ h9 => h9) rfl dX10_settle_2 ?_
  refine va_get (D := D) (ci := 4) (v := .int (nI (gg + 4))) (C := RX4) (T := TX4) (N := 11) hx hb hts iw4 hown hK hP 1 rfl rfl 7 (by decide) fw2 (fun _ h9 => h9) rfl dX10_settle_5 ?_
  refine lv_icmp_lt (tgt := 35) hx hb dX10_settle_8 (by decide) (fun h1 => ?_) (fun h2 => ?_)
  · skip
    have h1 : gg < (gg + 4) := (nI_ltI (a := gg) (b := (gg + 4)) (by omega) (by omega)).mp h1
    refine lv_iload_n hx hb dX10_settle_35 rfl (lv_at hl 3 rfl) ?_
    refine lv_istore (lv' := [(4, .int (nI k)), (0, .ref g), (1, .int x), (2, .int (nI gg)), (3, .int (nI k))]) hx hb dX10_settle_36 hl (by decide) rfl (fun ls hl => ?_)
    have lp25 : ∀ (fuj91 j91 : Nat) (x12 : Int32) (x13 : Nat → Int32) (x14 : Nat → Int32) (x15 : Nat → Int32) (H : Heap) (locs : List Loc) (ls : Array Slot), j91 ≤ max k fi → max k fi - j91 < fuj91 → va_P D vwCl [(g, .inr (10, [.ref kk, .ref nw, .ref im, .ref kp, .ref tx, .ref tr, .ref be, .ref sh, .ref sd, .ref rf, .int ab, .int bl])), (nw, .inr (4, [.ref kk, .ref nk, .ref nd, .ref ne, .ref nm, .ref nn, .int (nI fi), .int (nI (gg + 4)), .int (nI un), .int (nI mi), .int (nI no)])), (be, .inr (0, [.ref br, .ref bf, .int x12])), (br, .inl (y 0, 6, .inl x13)), (bf, .inl (y 0, 6, .inl x14)), (sh, .inl (y 0, 6, .inl fsh)), (sd, .inl (y 0, 6, .inl x15))] H → va_D A [(g, .inr (10, [.ref kk, .ref nw, .ref im, .ref kp, .ref tx, .ref tr, .ref be, .ref sh, .ref sd, .ref rf, .int ab, .int bl])), (nw, .inr (4, [.ref kk, .ref nk, .ref nd, .ref ne, .ref nm, .ref nn, .int (nI fi), .int (nI (gg + 4)), .int (nI un), .int (nI mi), .int (nI no)])), (be, .inr (0, [.ref br, .ref bf, .int x12])), (br, .inl (y 0, 6, .inl x13)), (bf, .inl (y 0, 6, .inl x14)), (sh, .inl (y 0, 6, .inl fsh)), (sd, .inl (y 0, 6, .inl x15))] → va_S A s.heap H locs → lv_has ls 5 [(4, .int (nI j91)), (0, .ref g), (1, .int x), (2, .int (nI gg)), (3, .int (nI k))] → W pZ l eZ ({ frames := 6, cells := 0, slots := 0, locals := 178 }) s mZ [.ref g, .int x, .int (nI gg), .int (nI k)].toArray beZ meZ cZ H locs 0 0 (MQ beZ (va_Qv (fun (u : Int32 × (Nat → Int32) × (Nat → Int32) × (Nat → Int32)) => True) (kw_B D (fun u => [(g, .inr (10, [.ref kk, .ref nw, .ref im, .ref kp, .ref tx, .ref tr, .ref be, .ref sh, .ref sd, .ref rf, .int ab, .int bl])), (nw, .inr (4, [.ref kk, .ref nk, .ref nd, .ref ne, .ref nm, .ref nn, .int (nI fi), .int (nI (gg + 4)), .int (nI un), .int (nI mi), .int (nI no)])), (be, .inr (0, [.ref br, .ref bf, .int u.1])), (br, .inl (y 0, 6, .inl u.2.1)), (bf, .inl (y 0, 6, .inl u.2.2.1)), (sh, .inl (y 0, 6, .inl fsh)), (sd, .inl (y 0, 6, .inl u.2.2.2))]) A) A) [.ref g, .int x, .int (nI gg), .int (nI k)].toArray s 0 0 A) (F0 mZ 38 ls []) := by
      intro fuj91
      induction fuj91 with
      | zero => intro j91 x12 x13 x14 x15 H locs ls hj9 hf9; exact absurd hf9 (Nat.not_lt_zero _)
      | succ fuj91 ihj91 =>
        intro j91 x12 x13 x14 x15 H locs ls hj91 hfj91  hP hD hS hl
        refine lv_iload hx hb dX10_settle_38 (lv_at hl 0 rfl) ?_
        refine lv_aload_n hx hb dX10_settle_40 rfl (lv_at hl 1 rfl) ?_
        refine va_get (D := D) (ci := 10) (v := .ref nw) (C := RX10) (T := TX10) (N := 12) hx hb hts iw10 hown hK hP 0 rfl rfl 1 (by decide) fw1 (fun _ h9 => h9) rfl dX10_settle_41 ?_
        refine va_get (D := D) (ci := 4) (v := .int (nI fi)) (C := RX4) (T := TX4) (N := 11) hx hb hts iw4 hown hK hP 1 rfl rfl 6 (by decide) fw3 (fun _ h9 => h9) rfl dX10_settle_44 ?_
        refine lv_icmp_ge (tgt := 99) hx hb dX10_settle_47 (by decide) (fun h26 => ?_) (fun h27 => ?_)
        · skip
          have h26 : fi ≤ j91 := (nI_leI (a := fi) (b := j91) (by omega) (by omega)).mp h26
          exact W.vret hx hb hr (fun tZ ht hW => ⟨⟨(x12, x13, x14, x15), rfl, trivial, by rw [ht]; exact hP.sub [0, 1, 2, 3, 4, 5, 6] rfl, hD.sub [0, 1, 2, 3, 4, 5, 6] (by decide) rfl⟩, hS.F ht⟩) hS.2.2 dX10_settle_99
        · skip
          have h27 : ¬ fi ≤ j91 := fun q9 => h27 ((nI_leI (a := fi) (b := j91) (by omega) (by omega)).mpr q9)
          refine lv_aload_n hx hb dX10_settle_50 rfl (lv_at hl 1 rfl) ?_
          refine va_get (D := D) (ci := 10) (v := .ref be) (C := RX10) (T := TX10) (N := 12) hx hb hts iw10 hown hK hP 0 rfl rfl 6 (by decide) fw4 (fun _ h9 => h9) rfl dX10_settle_51 ?_
          refine va_get (D := D) (ci := 0) (v := .ref br) (C := RX0) (T := TX0) (N := 3) hx hb hts iw0 hown hK hP 2 rfl rfl 0 (by decide) fw5 (fun _ h9 => h9) rfl dX10_settle_54 ?_
          refine lv_iload_n hx hb dX10_settle_57 rfl (lv_at hl 3 rfl) ?_
          refine lv_iload hx hb dX10_settle_58 (lv_at hl 0 rfl) ?_
          refine va_iast hx hb hK hP hD hS 3 0 rfl rfl (vp_in_nI (by omega) (by decide)) dX10_settle_60 (fun H locs hP hD hS => ?_)
          rw [nI_clamp (n := gg) (by omega)] at hP hD
          have hP : va_P D vwCl [(g, .inr (10, [.ref kk, .ref nw, .ref im, .ref kp, .ref tx, .ref tr, .ref be, .ref sh, .ref sd, .ref rf, .int ab, .int bl])), (nw, .inr (4, [.ref kk, .ref nk, .ref nd, .ref ne, .ref nm, .ref nn, .int (nI fi), .int (nI (gg + 4)), .int (nI un), .int (nI mi), .int (nI no)])), (be, .inr (0, [.ref br, .ref bf, .int x12])), (br, .inl (y 0, 6, .inl (upd x13 gg (nI j91)))), (bf, .inl (y 0, 6, .inl x14)), (sh, .inl (y 0, 6, .inl fsh)), (sd, .inl (y 0, 6, .inl x15))] H := hP
          have hD : va_D A [(g, .inr (10, [.ref kk, .ref nw, .ref im, .ref kp, .ref tx, .ref tr, .ref be, .ref sh, .ref sd, .ref rf, .int ab, .int bl])), (nw, .inr (4, [.ref kk, .ref nk, .ref nd, .ref ne, .ref nm, .ref nn, .int (nI fi), .int (nI (gg + 4)), .int (nI un), .int (nI mi), .int (nI no)])), (be, .inr (0, [.ref br, .ref bf, .int x12])), (br, .inl (y 0, 6, .inl (upd x13 gg (nI j91)))), (bf, .inl (y 0, 6, .inl x14)), (sh, .inl (y 0, 6, .inl fsh)), (sd, .inl (y 0, 6, .inl x15))] := hD
          refine lv_aload_n hx hb dX10_settle_61 rfl (lv_at hl 1 rfl) ?_
          refine va_get (D := D) (ci := 10) (v := .ref sd) (C := RX10) (T := TX10) (N := 12) hx hb hts iw10 hown hK hP 0 rfl rfl 8 (by decide) fw6 (fun _ h9 => h9) rfl dX10_settle_62 ?_
          refine lv_iload hx hb dX10_settle_65 (lv_at hl 0 rfl) ?_
          refine lv_dup2_11 hx hb dX10_settle_67 rfl rfl ?_
          refine va_iald hx hb hK hP 6 0 rfl rfl (vp_in_nI (by omega) (by decide)) dX10_settle_68 ?_
          rw [nI_clamp (n := j91) (by omega)]
          refine lv_iconst (v := 1) hx hb dX10_settle_69 (by decide) ?_
          refine lv_iadd hx hb dX10_settle_70 ?_
          refine va_iast hx hb hK hP hD hS 6 0 rfl rfl (vp_in_nI (by omega) (by decide)) dX10_settle_71 (fun H locs hP hD hS => ?_)
          rw [nI_clamp (n := j91) (by omega)] at hP hD
          have hP : va_P D vwCl [(g, .inr (10, [.ref kk, .ref nw, .ref im, .ref kp, .ref tx, .ref tr, .ref be, .ref sh, .ref sd, .ref rf, .int ab, .int bl])), (nw, .inr (4, [.ref kk, .ref nk, .ref nd, .ref ne, .ref nm, .ref nn, .int (nI fi), .int (nI (gg + 4)), .int (nI un), .int (nI mi), .int (nI no)])), (be, .inr (0, [.ref br, .ref bf, .int x12])), (br, .inl (y 0, 6, .inl (upd x13 gg (nI j91)))), (bf, .inl (y 0, 6, .inl x14)), (sh, .inl (y 0, 6, .inl fsh)), (sd, .inl (y 0, 6, .inl (upd x15 j91 ((x15 j91) + 1))))] H := hP
          have hD : va_D A [(g, .inr (10, [.ref kk, .ref nw, .ref im, .ref kp, .ref tx, .ref tr, .ref be, .ref sh, .ref sd, .ref rf, .int ab, .int bl])), (nw, .inr (4, [.ref kk, .ref nk, .ref nd, .ref ne, .ref nm, .ref nn, .int (nI fi), .int (nI (gg + 4)), .int (nI un), .int (nI mi), .int (nI no)])), (be, .inr (0, [.ref br, .ref bf, .int x12])), (br, .inl (y 0, 6, .inl (upd x13 gg (nI j91)))), (bf, .inl (y 0, 6, .inl x14)), (sh, .inl (y 0, 6, .inl fsh)), (sd, .inl (y 0, 6, .inl (upd x15 j91 ((x15 j91) + 1))))] := hD
          refine lv_aload_n hx hb dX10_settle_72 rfl (lv_at hl 1 rfl) ?_
          refine lv_iload_n hx hb dX10_settle_73 rfl (lv_at hl 2 rfl) ?_
          refine lv_iload_n hx hb dX10_settle_74 rfl (lv_at hl 3 rfl) ?_
          refine lv_iconst (v := 1) hx hb dX10_settle_75 (by decide) ?_
          refine lv_iadd hx hb dX10_settle_76 ?_
          rw [show (nI gg) + 1 = nI (gg + 1) from nI_add gg 1]
          refine lv_iload hx hb dX10_settle_77 (lv_at hl 0 rfl) ?_
          have hs28 : kw_Split [(g, .inr (10, [.ref kk, .ref nw, .ref im, .ref kp, .ref tx, .ref tr, .ref be, .ref sh, .ref sd, .ref rf, .int ab, .int bl])), (nw, .inr (4, [.ref kk, .ref nk, .ref nd, .ref ne, .ref nm, .ref nn, .int (nI fi), .int (nI (gg + 4)), .int (nI un), .int (nI mi), .int (nI no)])), (be, .inr (0, [.ref br, .ref bf, .int x12])), (br, .inl (y 0, 6, .inl (upd x13 gg (nI j91)))), (bf, .inl (y 0, 6, .inl x14)), (sh, .inl (y 0, 6, .inl fsh)), (sd, .inl (y 0, 6, .inl (upd x15 j91 ((x15 j91) + 1))))] [(g, .inr (10, [.ref kk, .ref nw, .ref im, .ref kp, .ref tx, .ref tr, .ref be, .ref sh, .ref sd, .ref rf, .int ab, .int bl])), (nw, .inr (4, [.ref kk, .ref nk, .ref nd, .ref ne, .ref nm, .ref nn, .int (nI fi), .int (nI (gg + 4)), .int (nI un), .int (nI mi), .int (nI no)])), (be, .inr (0, [.ref br, .ref bf, .int x12])), (br, .inl (y 0, 6, .inl (upd x13 gg (nI j91)))), (bf, .inl (y 0, 6, .inl x14)), (sh, .inl (y 0, 6, .inl fsh)), (sd, .inl (y 0, 6, .inl (upd x15 j91 ((x15 j91) + 1))))] [] [0, 1, 2, 3, 4, 5, 6] [] := ⟨rfl, rfl, rfl, rfl, rfl, by decide⟩
          refine kw_go_v hs28 hP hD hS hA (va_runV (As := [.int x, .int (nI (gg + 1)), .int (nI j91)]) (rest := []) ⟨hx, hb, hml, hown, hts⟩ (gc_settle3 l D y g kk nw im kp tx tr be sh sd rf ab bl nk nd ne nm nn fi un mi no br bf x12 (upd x13 gg (nI j91)) x14 fsh (upd x15 j91 ((x15 j91) + 1)) j91 (gg + 1) x hfi hun hmi hno (by omega) (by omega) _) (cwV 3 hts gX10_settle_X10_settle rfl rfl rfl (by decide +kernel) ⟨Nat.le_of_ble_eq_true rfl, Nat.le_of_ble_eq_true rfl⟩) (kw_PreV (ci := 10) (q0 := 0) hs28 hP hD hK hN rfl rfl) rfl rfl hl.1 rfl (lv_room (Nat.le_of_ble_eq_true rfl)) dX10_settle_79 ⟨Nat.le_of_ble_eq_true rfl, Nat.le_of_ble_eq_true rfl⟩) (fun u30 H locs hq hP hD hS => ?_)
          obtain ⟨v31, v32, v33, v34⟩ := u30
          have hP : va_P D vwCl [(g, .inr (10, [.ref kk, .ref nw, .ref im, .ref kp, .ref tx, .ref tr, .ref be, .ref sh, .ref sd, .ref rf, .int ab, .int bl])), (nw, .inr (4, [.ref kk, .ref nk, .ref nd, .ref ne, .ref nm, .ref nn, .int (nI fi), .int (nI (gg + 4)), .int (nI un), .int (nI mi), .int (nI no)])), (be, .inr (0, [.ref br, .ref bf, .int v31])), (br, .inl (y 0, 6, .inl v32)), (bf, .inl (y 0, 6, .inl v33)), (sh, .inl (y 0, 6, .inl fsh)), (sd, .inl (y 0, 6, .inl v34))] H := hP
          have hD : va_D A [(g, .inr (10, [.ref kk, .ref nw, .ref im, .ref kp, .ref tx, .ref tr, .ref be, .ref sh, .ref sd, .ref rf, .int ab, .int bl])), (nw, .inr (4, [.ref kk, .ref nk, .ref nd, .ref ne, .ref nm, .ref nn, .int (nI fi), .int (nI (gg + 4)), .int (nI un), .int (nI mi), .int (nI no)])), (be, .inr (0, [.ref br, .ref bf, .int v31])), (br, .inl (y 0, 6, .inl v32)), (bf, .inl (y 0, 6, .inl v33)), (sh, .inl (y 0, 6, .inl fsh)), (sd, .inl (y 0, 6, .inl v34))] := hD
          refine lv_aload_n hx hb dX10_settle_82 rfl (lv_at hl 1 rfl) ?_
          refine va_get (D := D) (ci := 10) (v := .ref sd) (C := RX10) (T := TX10) (N := 12) hx hb hts iw10 hown hK hP 0 rfl rfl 8 (by decide) fw6 (fun _ h9 => h9) rfl dX10_settle_83 ?_
          refine lv_iload hx hb dX10_settle_86 (lv_at hl 0 rfl) ?_
          refine lv_dup2_11 hx hb dX10_settle_88 rfl rfl ?_
          refine va_iald hx hb hK hP 6 0 rfl rfl (vp_in_nI (by omega) (by decide)) dX10_settle_89 ?_
          rw [nI_clamp (n := j91) (by omega)]
          refine lv_iconst (v := 1) hx hb dX10_settle_90 (by decide) ?_
          refine lv_isub hx hb dX10_settle_91 ?_
          refine va_iast hx hb hK hP hD hS 6 0 rfl rfl (vp_in_nI (by omega) (by decide)) dX10_settle_92 (fun H locs hP hD hS => ?_)
          rw [nI_clamp (n := j91) (by omega)] at hP hD
          have hP : va_P D vwCl [(g, .inr (10, [.ref kk, .ref nw, .ref im, .ref kp, .ref tx, .ref tr, .ref be, .ref sh, .ref sd, .ref rf, .int ab, .int bl])), (nw, .inr (4, [.ref kk, .ref nk, .ref nd, .ref ne, .ref nm, .ref nn, .int (nI fi), .int (nI (gg + 4)), .int (nI un), .int (nI mi), .int (nI no)])), (be, .inr (0, [.ref br, .ref bf, .int v31])), (br, .inl (y 0, 6, .inl v32)), (bf, .inl (y 0, 6, .inl v33)), (sh, .inl (y 0, 6, .inl fsh)), (sd, .inl (y 0, 6, .inl (upd v34 j91 ((v34 j91) - 1))))] H := hP
          have hD : va_D A [(g, .inr (10, [.ref kk, .ref nw, .ref im, .ref kp, .ref tx, .ref tr, .ref be, .ref sh, .ref sd, .ref rf, .int ab, .int bl])), (nw, .inr (4, [.ref kk, .ref nk, .ref nd, .ref ne, .ref nm, .ref nn, .int (nI fi), .int (nI (gg + 4)), .int (nI un), .int (nI mi), .int (nI no)])), (be, .inr (0, [.ref br, .ref bf, .int v31])), (br, .inl (y 0, 6, .inl v32)), (bf, .inl (y 0, 6, .inl v33)), (sh, .inl (y 0, 6, .inl fsh)), (sd, .inl (y 0, 6, .inl (upd v34 j91 ((v34 j91) - 1))))] := hD
          refine lv_iinc (v := (nI (j91 + 1))) (lv' := [(4, .int (nI (j91 + 1))), (0, .ref g), (1, .int x), (2, .int (nI gg)), (3, .int (nI k))]) hx hb dX10_settle_93 hl (k := 0) rfl (nI_1 j91) (by decide) rfl (fun ls hl => ?_)
          refine lv_goto (tgt := 38) hx hb dX10_settle_96 (by decide) ?_
          exact ihj91 (j91 + 1) v31 v32 v33 (upd v34 j91 ((v34 j91) - 1)) H locs ls (by omega) (by omega)  (hP.sub [0, 1, 2, 3, 4, 5, 6] rfl) (hD.sub [0, 1, 2, 3, 4, 5, 6] (by decide) rfl) hS (lv_sub hl [0, 1, 2, 3, 4] rfl)
    exact lp25 ((max k fi) + 1) k bm fbr fbf fsd _ _ _ (by omega) (by omega)  hP hD hS (lv_sub hl [0, 1, 2, 3, 4] rfl)
  · skip
    have h2 : ¬ gg < (gg + 4) := fun q9 => h2 ((nI_ltI (a := gg) (b := (gg + 4)) (by omega) (by omega)).mpr q9)
    exact absurd h2 (by omega)
