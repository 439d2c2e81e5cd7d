set_option maxHeartbeats 4000000 in
set_option maxRecDepth 100000 in
theorem gx_is_ok (l : Launch) (D : va_G) (y : Nat → ClassId) (g : Nat) (kk : Nat) (nw : Nat) (im : Nat) (kp : Nat) (tx : Nat) (tr : Nat) (be : Nat) (sh : Nat) (sd : Nat) (rf : Nat) (ab : Int32) (bl : Int32) (frf : Nat → Int32) (nk : Nat) (nd : Nat) (ne : Nat) (nm : Nat) (nn : Nat) (fi : Nat) (gl : Nat) (un : Nat) (mi : Nat) (no : Nat) (k0 : Nat) (k1 : Nat) (k2 : Nat) (k3 : Nat) (k4 : Nat) (k5 : Nat) (fq : Nat → Option Nat) (t0 : Nat) (t1 : Nat) (t2 : Nat) (t3 : Nat) (t4 : Nat) (t5 : Nat) (t0f : Nat → Int32) (t1f : Nat → Int32) (t2f : Nat → Int32) (t3f : Nat → Int32) (t4f : Nat → Int32) (t5f : Nat → Int32) (fn_ : Nat → Option Nat) (f : Nat → Int32) (an1 : Nat) (hfi : fi ≤ 6) (hgl : gl ≤ 5) (hun : un ≤ 8) (hmi : mi ≤ 4) (hno : no ≤ 6) (hq0 : fq 0 = some k0) (hq1 : fq 1 = some k1) (hq2 : fq 2 = some k2) (hq3 : fq 3 = some k3) (hq4 : fq 4 = some k4) (hq5 : fq 5 = some k5) (hn0 : fn_ 0 = some t0) (hn1 : fn_ 1 = some t1) (hn2 : fn_ 2 = some t2) (hn3 : fn_ 3 = some t3) (hn4 : fn_ 4 = some t4) (hn5 : fn_ 5 = some t5) (hPN : kz_PN f no t0f t1f t2f t3f t4f t5f) (hB0_ : an1 < fi) : kw_Mi l yX10_is wsX10_is ({ frames := 6, cells := 0, slots := 0, locals := 177 }) D y [.ref g, .int (nI an1)] [(g, .inr (10, [.ref kk, .ref nw, .ref im, .ref kp, .ref tx, .ref tr, .ref be, .ref sh, .ref sd, .ref rf, .int ab, .int bl])), (rf, .inl (y 0, 3, .inl frf)), (nw, .inr (4, [.ref kk, .ref nk, .ref nd, .ref ne, .ref nm, .ref nn, .int (nI fi), .int (nI gl), .int (nI un), .int (nI mi), .int (nI no)])), (kk, .inl (y 5, 6, .inr (.inr (.inr (.inr fq))))), (k0, .inr (5, [])), (k1, .inr (8, [])), (k2, .inr (9, [])), (k3, .inr (6, [])), (k4, .inr (2, [])), (k5, .inr (3, [])), (nn, .inl (y 6, 6, .inr (.inr (.inr (.inr fn_))))), (t0, .inl (y 0, 5, .inl t0f)), (t1, .inl (y 0, 5, .inl t1f)), (t2, .inl (y 0, 5, .inl t2f)), (t3, .inl (y 0, 5, .inl t3f)), (t4, .inl (y 0, 5, .inl t4f)), (t5, .inl (y 0, 5, .inl t5f))] (fun (r : Int32) (u : Unit) => r = (cb (fun k => nt_ok f (nI an1) k no) 6)) (fun _ => [(g, .inr (10, [.ref kk, .ref nw, .ref im, .ref kp, .ref tx, .ref tr, .ref be, .ref sh, .ref sd, .ref rf, .int ab, .int bl])), (rf, .inl (y 0, 3, .inl frf)), (nw, .inr (4, [.ref kk, .ref nk, .ref nd, .ref ne, .ref nm, .ref nn, .int (nI fi), .int (nI gl), .int (nI un), .int (nI mi), .int (nI no)])), (kk, .inl (y 5, 6, .inr (.inr (.inr (.inr fq))))), (k0, .inr (5, [])), (k1, .inr (8, [])), (k2, .inr (9, [])), (k3, .inr (6, [])), (k4, .inr (2, [])), (k5, .inr (3, [])), (nn, .inl (y 6, 6, .inr (.inr (.inr (.inr fn_))))), (t0, .inl (y 0, 5, .inl t0f)), (t1, .inl (y 0, 5, .inl t1f)), (t2, .inl (y 0, 5, .inl t2f)), (t3, .inl (y 0, 5, .inl t3f)), (t4, .inl (y 0, 5, .inl t4f)), (t5, .inl (y 0, 5, .inl t5f))]) 0 0 := by
  refine kw_Mi.of (cc := cX10_is) (maxL := 2) (ret := (some .int)) (by decide) rfl ?_
  intro pZ eZ s mZ beZ meZ cZ A hE
  obtain ⟨hx, hb, hr, hml, hts, hown, hlocks, hin, hA, hP, hD, hK, hN⟩ := hE
  have hS : va_S A s.heap s.heap [] := va_S.rf
  have hl := lv_entry ([.ref g, .int (nI an1)]) (n := 2) (Nat.le_of_ble_eq_true rfl)
  rw [lg_entry_eq]
  generalize (lg_sl ([.ref g, .int (nI an1)]) ++ List.replicate (2 - (lg_sl ([.ref g, .int (nI an1)])).length) Slot.unset).toArray = ls at hl ⊢
  have hl : lv_has ls 2 [(0, .ref g), (1, .int (nI an1))] := hl
  have fw1 := hts (.fieldLink RX10 36 "GleanDusk" "now" "LGleanDusk$Parish;") (List.mem_of_getElem? (i := 1) rfl)
  have iw10 : ∀ w ∈ wsX100, w ∈ wsX10_is := fun _ h => List.mem_cons_of_mem _ (List.mem_append_left _ (List.mem_append_right _ h))
  refine lv_aload_n hx hb dX10_is_0 rfl (lv_at hl 0 rfl) ?_
  refine va_get (D := D) (ci := 10) (v := .ref nw) (C := RX10) (T := TX10) (N := 12) hx hb hts iw10 hown hK hP 0 rfl rfl 1 (by decide) fw1 (fun _ h9 => h9) rfl dX10_is_1 ?_
  refine lv_iload_n hx hb dX10_is_4 rfl (lv_at hl 1 rfl) ?_
  have hs1 : kw_Split [(g, .inr (10, [.ref kk, .ref nw, .ref im, .ref kp, .ref tx, .ref tr, .ref be, .ref sh, .ref sd, .ref rf, .int ab, .int bl])), (rf, .inl (y 0, 3, .inl frf)), (nw, .inr (4, [.ref kk, .ref nk, .ref nd, .ref ne, .ref nm, .ref nn, .int (nI fi), .int (nI gl), .int (nI un), .int (nI mi), .int (nI no)])), (kk, .inl (y 5, 6, .inr (.inr (.inr (.inr fq))))), (k0, .inr (5, [])), (k1, .inr (8, [])), (k2, .inr (9, [])), (k3, .inr (6, [])), (k4, .inr (2, [])), (k5, .inr (3, [])), (nn, .inl (y 6, 6, .inr (.inr (.inr (.inr fn_))))), (t0, .inl (y 0, 5, .inl t0f)), (t1, .inl (y 0, 5, .inl t1f)), (t2, .inl (y 0, 5, .inl t2f)), (t3, .inl (y 0, 5, .inl t3f)), (t4, .inl (y 0, 5, .inl t4f)), (t5, .inl (y 0, 5, .inl t5f))] [(nw, .inr (4, [.ref kk, .ref nk, .ref nd, .ref ne, .ref nm, .ref nn, .int (nI fi), .int (nI gl), .int (nI un), .int (nI mi), .int (nI no)]))] [(g, .inr (10, [.ref kk, .ref nw, .ref im, .ref kp, .ref tx, .ref tr, .ref be, .ref sh, .ref sd, .ref rf, .int ab, .int bl])), (rf, .inl (y 0, 3, .inl frf)), (kk, .inl (y 5, 6, .inr (.inr (.inr (.inr fq))))), (k0, .inr (5, [])), (k1, .inr (8, [])), (k2, .inr (9, [])), (k3, .inr (6, [])), (k4, .inr (2, [])), (k5, .inr (3, [])), (nn, .inl (y 6, 6, .inr (.inr (.inr (.inr fn_))))), (t0, .inl (y 0, 5, .inl t0f)), (t1, .inl (y 0, 5, .inl t1f)), (t2, .inl (y 0, 5, .inl t2f)), (t3, .inl (y 0, 5, .inl t3f)), (t4, .inl (y 0, 5, .inl t4f)), (t5, .inl (y 0, 5, .inl t5f))] [2] [0, 1, 3, 4, 5, 6, 7, 8, 9, 10, 11, 12, 13, 14, 15, 16] := ⟨rfl, rfl, rfl, rfl, rfl, by decide⟩
  refine kw_go_i hs1 hP hD hS hA (va_runV (As := [.int (nI an1)]) (rest := []) ⟨hx, hb, hml, hown, hts⟩ (gc_hasField l D y nw kk nk nd ne nm nn fi gl un mi no (nI an1) hfi hgl hun hmi hno _) (cwV 1 hts gX10_is_X4_hasField rfl rfl rfl (by decide +kernel) ⟨Nat.le_of_ble_eq_true rfl, Nat.le_of_ble_eq_true rfl⟩) (kw_PreV (ci := 4) (q0 := 2) hs1 hP hD hK hN rfl rfl) rfl rfl hl.1 rfl (lv_room (Nat.le_of_ble_eq_true rfl)) dX10_is_5 ⟨Nat.le_of_ble_eq_true rfl, Nat.le_of_ble_eq_true rfl⟩) (fun r2 u3 H locs hq hP hD hS => ?_)
  rcases hq with ⟨j4, h5, h6, rfl⟩ | ⟨h7, rfl⟩
  · skip
    have h6 : an1 = j4 := (nI_eq (a := an1) (b := j4) (by omega) (by omega)).mp h6
    have hP : va_P D vwCl [(g, .inr (10, [.ref kk, .ref nw, .ref im, .ref kp, .ref tx, .ref tr, .ref be, .ref sh, .ref sd, .ref rf, .int ab, .int bl])), (rf, .inl (y 0, 3, .inl frf)), (kk, .inl (y 5, 6, .inr (.inr (.inr (.inr fq))))), (k0, .inr (5, [])), (k1, .inr (8, [])), (k2, .inr (9, [])), (k3, .inr (6, [])), (k4, .inr (2, [])), (k5, .inr (3, [])), (nn, .inl (y 6, 6, .inr (.inr (.inr (.inr fn_))))), (t0, .inl (y 0, 5, .inl t0f)), (t1, .inl (y 0, 5, .inl t1f)), (t2, .inl (y 0, 5, .inl t2f)), (t3, .inl (y 0, 5, .inl t3f)), (t4, .inl (y 0, 5, .inl t4f)), (t5, .inl (y 0, 5, .inl t5f)), (nw, .inr (4, [.ref kk, .ref nk, .ref nd, .ref ne, .ref nm, .ref nn, .int (nI fi), .int (nI gl), .int (nI un), .int (nI mi), .int (nI no)]))] H := hP
    have hD : va_D A [(g, .inr (10, [.ref kk, .ref nw, .ref im, .ref kp, .ref tx, .ref tr, .ref be, .ref sh, .ref sd, .ref rf, .int ab, .int bl])), (rf, .inl (y 0, 3, .inl frf)), (kk, .inl (y 5, 6, .inr (.inr (.inr (.inr fq))))), (k0, .inr (5, [])), (k1, .inr (8, [])), (k2, .inr (9, [])), (k3, .inr (6, [])), (k4, .inr (2, [])), (k5, .inr (3, [])), (nn, .inl (y 6, 6, .inr (.inr (.inr (.inr fn_))))), (t0, .inl (y 0, 5, .inl t0f)), (t1, .inl (y 0, 5, .inl t1f)), (t2, .inl (y 0, 5, .inl t2f)), (t3, .inl (y 0, 5, .inl t3f)), (t4, .inl (y 0, 5, .inl t4f)), (t5, .inl (y 0, 5, .inl t5f)), (nw, .inr (4, [.ref kk, .ref nk, .ref nd, .ref ne, .ref nm, .ref nn, .int (nI fi), .int (nI gl), .int (nI un), .int (nI mi), .int (nI no)]))] := hD
    refine lv_if_ne (tgt := 16) hx hb dX10_is_8 (by decide) (fun _ => ?_) (fun h9 => absurd h9 (by decide))
    refine lv_aload_n hx hb dX10_is_16 rfl (lv_at hl 0 rfl) ?_
    refine va_get (D := D) (ci := 10) (v := .ref nw) (C := RX10) (T := TX10) (N := 12) hx hb hts iw10 hown hK hP 0 rfl rfl 1 (by decide) fw1 (fun _ h9 => h9) rfl dX10_is_17 ?_
    refine lv_iload_n hx hb dX10_is_20 rfl (lv_at hl 1 rfl) ?_
    have hs8 : kw_Split [(g, .inr (10, [.ref kk, .ref nw, .ref im, .ref kp, .ref tx, .ref tr, .ref be, .ref sh, .ref sd, .ref rf, .int ab, .int bl])), (rf, .inl (y 0, 3, .inl frf)), (kk, .inl (y 5, 6, .inr (.inr (.inr (.inr fq))))), (k0, .inr (5, [])), (k1, .inr (8, [])), (k2, .inr (9, [])), (k3, .inr (6, [])), (k4, .inr (2, [])), (k5, .inr (3, [])), (nn, .inl (y 6, 6, .inr (.inr (.inr (.inr fn_))))), (t0, .inl (y 0, 5, .inl t0f)), (t1, .inl (y 0, 5, .inl t1f)), (t2, .inl (y 0, 5, .inl t2f)), (t3, .inl (y 0, 5, .inl t3f)), (t4, .inl (y 0, 5, .inl t4f)), (t5, .inl (y 0, 5, .inl t5f)), (nw, .inr (4, [.ref kk, .ref nk, .ref nd, .ref ne, .ref nm, .ref nn, .int (nI fi), .int (nI gl), .int (nI un), .int (nI mi), .int (nI no)]))] [(nw, .inr (4, [.ref kk, .ref nk, .ref nd, .ref ne, .ref nm, .ref nn, .int (nI fi), .int (nI gl), .int (nI un), .int (nI mi), .int (nI no)])), (kk, .inl (y 5, 6, .inr (.inr (.inr (.inr fq))))), (k0, .inr (5, [])), (k1, .inr (8, [])), (k2, .inr (9, [])), (k3, .inr (6, [])), (k4, .inr (2, [])), (k5, .inr (3, [])), (nn, .inl (y 6, 6, .inr (.inr (.inr (.inr fn_))))), (t0, .inl (y 0, 5, .inl t0f)), (t1, .inl (y 0, 5, .inl t1f)), (t2, .inl (y 0, 5, .inl t2f)), (t3, .inl (y 0, 5, .inl t3f)), (t4, .inl (y 0, 5, .inl t4f)), (t5, .inl (y 0, 5, .inl t5f))] [(g, .inr (10, [.ref kk, .ref nw, .ref im, .ref kp, .ref tx, .ref tr, .ref be, .ref sh, .ref sd, .ref rf, .int ab, .int bl])), (rf, .inl (y 0, 3, .inl frf))] [16, 2, 3, 4, 5, 6, 7, 8, 9, 10, 11, 12, 13, 14, 15] [0, 1] := ⟨rfl, rfl, rfl, rfl, rfl, by decide⟩
    refine kw_go_i hs8 hP hD hS hA (va_runV (As := [.int (nI an1)]) (rest := []) ⟨hx, hb, hml, hown, hts⟩ (gb_kindsThatFit l D y nw kk nk nd ne nm nn fi gl un mi no t0 t1 t2 t3 t4 t5 t0f t1f t2f t3f t4f t5f fn_ k0 k1 k2 k3 k4 k5 fq (nI an1) f hfi hgl hun hmi hno hn0 hn1 hn2 hn3 hn4 hn5 hq0 hq1 hq2 hq3 hq4 hq5 hPN _) (cwV 1 hts gX10_is_X4_kindsThatFit rfl rfl rfl (by decide +kernel) ⟨Nat.le_of_ble_eq_true rfl, Nat.le_of_ble_eq_true rfl⟩) (kw_PreV (ci := 4) (q0 := 16) hs8 hP hD hK hN rfl rfl) rfl rfl hl.1 rfl (lv_room (Nat.le_of_ble_eq_true rfl)) dX10_is_21 ⟨Nat.le_of_ble_eq_true rfl, Nat.le_of_ble_eq_true rfl⟩) (fun r9 u10 H locs hq hP hD hS => ?_)
    obtain rfl := hq
    have hP : va_P D vwCl [(g, .inr (10, [.ref kk, .ref nw, .ref im, .ref kp, .ref tx, .ref tr, .ref be, .ref sh, .ref sd, .ref rf, .int ab, .int bl])), (rf, .inl (y 0, 3, .inl frf)), (nw, .inr (4, [.ref kk, .ref nk, .ref nd, .ref ne, .ref nm, .ref nn, .int (nI fi), .int (nI gl), .int (nI un), .int (nI mi), .int (nI no)])), (kk, .inl (y 5, 6, .inr (.inr (.inr (.inr fq))))), (k0, .inr (5, [])), (k1, .inr (8, [])), (k2, .inr (9, [])), (k3, .inr (6, [])), (k4, .inr (2, [])), (k5, .inr (3, [])), (nn, .inl (y 6, 6, .inr (.inr (.inr (.inr fn_))))), (t0, .inl (y 0, 5, .inl t0f)), (t1, .inl (y 0, 5, .inl t1f)), (t2, .inl (y 0, 5, .inl t2f)), (t3, .inl (y 0, 5, .inl t3f)), (t4, .inl (y 0, 5, .inl t4f)), (t5, .inl (y 0, 5, .inl t5f))] H := hP
    have hD : va_D A [(g, .inr (10, [.ref kk, .ref nw, .ref im, .ref kp, .ref tx, .ref tr, .ref be, .ref sh, .ref sd, .ref rf, .int ab, .int bl])), (rf, .inl (y 0, 3, .inl frf)), (nw, .inr (4, [.ref kk, .ref nk, .ref nd, .ref ne, .ref nm, .ref nn, .int (nI fi), .int (nI gl), .int (nI un), .int (nI mi), .int (nI no)])), (kk, .inl (y 5, 6, .inr (.inr (.inr (.inr fq))))), (k0, .inr (5, [])), (k1, .inr (8, [])), (k2, .inr (9, [])), (k3, .inr (6, [])), (k4, .inr (2, [])), (k5, .inr (3, [])), (nn, .inl (y 6, 6, .inr (.inr (.inr (.inr fn_))))), (t0, .inl (y 0, 5, .inl t0f)), (t1, .inl (y 0, 5, .inl t1f)), (t2, .inl (y 0, 5, .inl t2f)), (t3, .inl (y 0, 5, .inl t3f)), (t4, .inl (y 0, 5, .inl t4f)), (t5, .inl (y 0, 5, .inl t5f))] := hD
    exact W.iret (v := (cb (fun k => nt_ok f (nI an1) k no) 6)) hx hb hr (fun tZ ht hW => ⟨⟨(cb (fun k => nt_ok f (nI an1) k no) 6), (), rfl, rfl, by rw [ht]; exact hP.sub [0, 1, 2, 3, 4, 5, 6, 7, 8, 9, 10, 11, 12, 13, 14, 15, 16] rfl, hD.sub [0, 1, 2, 3, 4, 5, 6, 7, 8, 9, 10, 11, 12, 13, 14, 15, 16] (by decide) rfl⟩, hS.F ht⟩) hS.2.2 dX10_is_24
  · skip
    exact absurd ⟨an1, by omega, rfl⟩ h7

set_option maxHeartbeats 4000000 in
set_option maxRecDepth 100000 in
theorem gb_Mplainly (l : Launch) (D : va_G) (y : Nat → ClassId) (x : Int32) (x2 : Int32) (x3 : Int32)  : kw_Mi l yX11_plainly wsX11_plainly ({ frames := 1, cells := 0, slots := 0, locals := 60 }) D y [.int x, .int x2, .int x3] [] (fun (r : Int32) (u : Unit) => r = (sg_0 x2 x x3)) (fun _ => []) 0 0 := by
  refine kw_Mi.of (cc := cX11_plainly) (maxL := 4) (ret := (some .int)) (by decide) rfl ?_
  intro pZ eZ s mZ beZ meZ cZ A hE
  obtain ⟨hx, hb, hr, hml, hts, hown, hlocks, hin, hA, hP, hD, hK, hN⟩ := hE
  have hS : va_S A s.heap s.heap [] := va_S.rf
  have hl := lv_entry ([.int x, .int x2, .int x3]) (n := 4) (Nat.le_of_ble_eq_true rfl)
  rw [lg_entry_eq]
  generalize (lg_sl ([.int x, .int x2, .int x3]) ++ List.replicate (4 - (lg_sl ([.int x, .int x2, .int x3])).length) Slot.unset).toArray = ls at hl ⊢
  have hl : lv_has ls 4 [(0, .int x), (1, .int x2), (2, .int x3)] := hl
  refine lv_iload_n hx hb dX11_plainly_0 rfl (lv_at hl 0 rfl) ?_
  refine lv_iconst (v := 2) hx hb dX11_plainly_1 (by decide) ?_
  refine lv_iload_n hx hb dX11_plainly_2 rfl (lv_at hl 1 rfl) ?_
  refine lv_imul hx hb dX11_plainly_3 ?_
  refine lv_isub hx hb dX11_plainly_4 ?_
  refine lv_iload_n hx hb dX11_plainly_5 rfl (lv_at hl 2 rfl) ?_
  refine lv_isub hx hb dX11_plainly_6 ?_
  refine lv_istore_n (lv' := [(3, .int ((x - (2 * x2)) - x3)), (0, .int x), (1, .int x2), (2, .int x3)]) hx hb dX11_plainly_7 rfl hl (by decide) rfl (fun ls hl => ?_)
  refine lv_iload_n hx hb dX11_plainly_8 rfl (lv_at hl 0 rfl) ?_
  refine lv_if_ge (tgt := 16) hx hb dX11_plainly_9 (by decide) (fun h1 => ?_) (fun h2 => ?_)
  · skip
    refine lv_iload_n hx hb dX11_plainly_16 rfl (lv_at hl 0 rfl) ?_
    exact W.iret (v := ((x - (2 * x2)) - x3)) hx hb hr (fun tZ ht hW => ⟨⟨((x - (2 * x2)) - x3), (), rfl, sg_0b h1, by rw [ht]; exact hP.sub [] rfl, hD.sub [] (by decide) rfl⟩, hS.F ht⟩) hS.2.2 dX11_plainly_17
  · skip
    refine lv_iconst (v := 0) hx hb dX11_plainly_12 (by decide) ?_
    refine lv_goto (tgt := 17) hx hb dX11_plainly_13 (by decide) ?_
    exact W.iret (v := 0) hx hb hr (fun tZ ht hW => ⟨⟨0, (), rfl, sg_0a (Int32.not_le.mp h2), by rw [ht]; exact hP.sub [] rfl, hD.sub [] (by decide) rfl⟩, hS.F ht⟩) hS.2.2 dX11_plainly_17

set_option maxHeartbeats 4000000 in
set_option maxRecDepth 100000 in
theorem gb_Mwesterly (l : Launch) (D : va_G) (y : Nat → ClassId) (x : Int32) (x2 : Int32) (x3 : Int32)  : kw_Mi l yX11_westerly wsX11_westerly ({ frames := 2, cells := 0, slots := 0, locals := 83 }) D y [.int x, .int x2, .int x3] [] (fun (r : Int32) (u : Unit) => r = (sg_1 x2 x x3)) (fun _ => []) 0 0 := by
  refine kw_Mi.of (cc := cX11_westerly) (maxL := 3) (ret := (some .int)) (by decide) rfl ?_
  intro pZ eZ s mZ beZ meZ cZ A hE
  obtain ⟨hx, hb, hr, hml, hts, hown, hlocks, hin, hA, hP, hD, hK, hN⟩ := hE
  have hS : va_S A s.heap s.heap [] := va_S.rf
  have hl := lv_entry ([.int x, .int x2, .int x3]) (n := 3) (Nat.le_of_ble_eq_true rfl)
  rw [lg_entry_eq]
  generalize (lg_sl ([.int x, .int x2, .int x3]) ++ List.replicate (3 - (lg_sl ([.int x, .int x2, .int x3])).length) Slot.unset).toArray = ls at hl ⊢
  have hl : lv_has ls 3 [(0, .int x), (1, .int x2), (2, .int x3)] := hl
  refine lv_iload_n hx hb dX11_westerly_0 rfl (lv_at hl 0 rfl) ?_
  refine lv_iload_n hx hb dX11_westerly_1 rfl (lv_at hl 1 rfl) ?_
  refine lv_iload_n hx hb dX11_westerly_2 rfl (lv_at hl 2 rfl) ?_
  have hs1 : kw_Split [] [] [] [] [] := ⟨rfl, rfl, rfl, rfl, rfl, by decide⟩
  refine kw_go_i hs1 hP hD hS hA (va_runS (As := [.int x, .int x2, .int x3]) (rest := []) ⟨hx, hb, hml, hown, hts⟩ (gb_Mplainly l D y x x2 x3  _) (va_cwS 3 hts gX11_westerly_X11_plainly rfl rfl rfl (by decide +kernel) ⟨Nat.le_of_ble_eq_true rfl, Nat.le_of_ble_eq_true rfl⟩) (kw_PreS hs1 hP hD hK hN) rfl rfl hl.1 rfl (lv_room (Nat.le_of_ble_eq_true rfl)) dX11_westerly_3 ⟨Nat.le_of_ble_eq_true rfl, Nat.le_of_ble_eq_true rfl⟩) (fun r2 u3 H locs hq hP hD hS => ?_)
  obtain rfl := hq
  have hP : va_P D vwCl [] H := hP
  have hD : va_D A [] := hD
  refine lv_iload_n hx hb dX11_westerly_6 rfl (lv_at hl 1 rfl) ?_
  refine lv_bipush (v := 6) hx hb dX11_westerly_7 (by decide) ?_
  refine lv_icmp_lt (tgt := 21) hx hb dX11_westerly_9 (by decide) (fun h4 => ?_) (fun h5 => ?_)
  · skip
    refine lv_iconst (v := 0) hx hb dX11_westerly_21 (by decide) ?_
    refine lv_iadd hx hb dX11_westerly_22 ?_
    exact W.iret (v := ((sg_0 x2 x x3) + 0)) hx hb hr (fun tZ ht hW => ⟨⟨((sg_0 x2 x x3) + 0), (), rfl, sg_10 (sg_1b h4), by rw [ht]; exact hP.sub [] rfl, hD.sub [] (by decide) rfl⟩, hS.F ht⟩) hS.2.2 dX11_westerly_23
  · skip
    refine lv_iload_n hx hb dX11_westerly_12 rfl (lv_at hl 0 rfl) ?_
    refine lv_iconst (v := 1) hx hb dX11_westerly_13 (by decide) ?_
    refine lv_icmp_lt (tgt := 21) hx hb dX11_westerly_14 (by decide) (fun h6 => ?_) (fun h7 => ?_)
    · skip
      refine lv_iconst (v := 0) hx hb dX11_westerly_21 (by decide) ?_
      refine lv_iadd hx hb dX11_westerly_22 ?_
      exact W.iret (v := ((sg_0 x2 x x3) + 0)) hx hb hr (fun tZ ht hW => ⟨⟨((sg_0 x2 x x3) + 0), (), rfl, sg_10 (sg_1c h6), by rw [ht]; exact hP.sub [] rfl, hD.sub [] (by decide) rfl⟩, hS.F ht⟩) hS.2.2 dX11_westerly_23
    · skip
      refine lv_iload_n hx hb dX11_westerly_17 rfl (lv_at hl 1 rfl) ?_
      refine lv_goto (tgt := 22) hx hb dX11_westerly_18 (by decide) ?_
      refine lv_iadd hx hb dX11_westerly_22 ?_
      exact W.iret (v := ((sg_0 x2 x x3) + x2)) hx hb hr (fun tZ ht hW => ⟨⟨((sg_0 x2 x x3) + x2), (), rfl, sg_1a h5 h7, by rw [ht]; exact hP.sub [] rfl, hD.sub [] (by decide) rfl⟩, hS.F ht⟩) hS.2.2 dX11_westerly_23

set_option maxHeartbeats 4000000 in
set_option maxRecDepth 100000 in
theorem gb_MseenAs (l : Launch) (D : va_G) (y : Nat → ClassId) (k : Nat) (x2 : Int32) (x3 : Int32) (cw : Nat) (hk : k < 6) (hcw : cw < 10) : kw_Mi l yX11_seenAs wsX11_seenAs ({ frames := 3, cells := 0, slots := 0, locals := 105 }) D y [.int (nI k), .int x2, .int x3, .int (nI cw)] [] (fun (r : Int32) (u : Unit) => r = (sgk k x3 x2 (nI cw))) (fun _ => []) 0 0 := by
  refine kw_Mi.of (cc := cX11_seenAs) (maxL := 5) (ret := (some .int)) (by decide) rfl ?_
  intro pZ eZ s mZ beZ meZ cZ A hE
  obtain ⟨hx, hb, hr, hml, hts, hown, hlocks, hin, hA, hP, hD, hK, hN⟩ := hE
  have hS : va_S A s.heap s.heap [] := va_S.rf
  have hl := lv_entry ([.int (nI k), .int x2, .int x3, .int (nI cw)]) (n := 5) (Nat.le_of_ble_eq_true rfl)
  rw [lg_entry_eq]
  generalize (lg_sl ([.int (nI k), .int x2, .int x3, .int (nI cw)]) ++ List.replicate (5 - (lg_sl ([.int (nI k), .int x2, .int x3, .int (nI cw)])).length) Slot.unset).toArray = ls at hl ⊢
  have hl : lv_has ls 5 [(0, .int (nI k)), (1, .int x2), (2, .int x3), (3, .int (nI cw))] := hl
  rcases (show k = 0 ∨ k = 1 ∨ k = 2 ∨ k = 3 ∨ k = 4 ∨ k = 5 by omega) with rfl | rfl | rfl | rfl | rfl | rfl
  · skip
    refine lv_iload_n hx hb dX11_seenAs_0 rfl (lv_at hl 1 rfl) ?_
    refine lv_iload_n hx hb dX11_seenAs_1 rfl (lv_at hl 2 rfl) ?_
    refine lv_iload_n hx hb dX11_seenAs_2 rfl (lv_at hl 3 rfl) ?_
    have hs1 : kw_Split [] [] [] [] [] := ⟨rfl, rfl, rfl, rfl, rfl, by decide⟩
    refine kw_go_i hs1 hP hD hS hA (va_runS (As := [.int x2, .int x3, .int (nI cw)]) (rest := []) ⟨hx, hb, hml, hown, hts⟩ (gb_Mplainly l D y x2 x3 (nI cw)  _) (va_cwS 3 hts gX11_seenAs_X11_plainly rfl rfl rfl (by decide +kernel) ⟨Nat.le_of_ble_eq_true rfl, Nat.le_of_ble_eq_true rfl⟩) (kw_PreS hs1 hP hD hK hN) rfl rfl hl.1 rfl (lv_room (Nat.le_of_ble_eq_true rfl)) dX11_seenAs_3 ⟨Nat.le_of_ble_eq_true rfl, Nat.le_of_ble_eq_true rfl⟩) (fun r2 u3 H locs hq hP hD hS => ?_)
    obtain rfl := hq
    have hP : va_P D vwCl [] H := hP
    have hD : va_D A [] := hD
    refine lv_istore (lv' := [(4, .int (sg_0 x3 x2 (nI cw))), (0, .int (nI 0)), (1, .int x2), (2, .int x3), (3, .int (nI cw))]) hx hb dX11_seenAs_6 hl (by decide) rfl (fun ls hl => ?_)
    refine lv_iload_n hx hb dX11_seenAs_8 rfl (lv_at hl 1 rfl) ?_
    refine lv_tableOut (tgt := 106) hx hb dX11_seenAs_9 (by decide) (by decide) ?_
    refine lv_iload hx hb dX11_seenAs_106 (lv_at hl 0 rfl) ?_
    exact W.iret (v := (sg_0 x3 x2 (nI cw))) hx hb hr (fun tZ ht hW => ⟨⟨(sg_0 x3 x2 (nI cw)), (), rfl, rfl, by rw [ht]; exact hP.sub [] rfl, hD.sub [] (by decide) rfl⟩, hS.F ht⟩) hS.2.2 dX11_seenAs_108
  · skip
    refine lv_iload_n hx hb dX11_seenAs_0 rfl (lv_at hl 1 rfl) ?_
    refine lv_iload_n hx hb dX11_seenAs_1 rfl (lv_at hl 2 rfl) ?_
    refine lv_iload_n hx hb dX11_seenAs_2 rfl (lv_at hl 3 rfl) ?_
    have hs4 : kw_Split [] [] [] [] [] := ⟨rfl, rfl, rfl, rfl, rfl, by decide⟩
    refine kw_go_i hs4 hP hD hS hA (va_runS (As := [.int x2, .int x3, .int (nI cw)]) (rest := []) ⟨hx, hb, hml, hown, hts⟩ (gb_Mplainly l D y x2 x3 (nI cw)  _) (va_cwS 3 hts gX11_seenAs_X11_plainly rfl rfl rfl (by decide +kernel) ⟨Nat.le_of_ble_eq_true rfl, Nat.le_of_ble_eq_true rfl⟩) (kw_PreS hs4 hP hD hK hN) rfl rfl hl.1 rfl (lv_room (Nat.le_of_ble_eq_true rfl)) dX11_seenAs_3 ⟨Nat.le_of_ble_eq_true rfl, Nat.le_of_ble_eq_true rfl⟩) (fun r5 u6 H locs hq hP hD hS => ?_)
    obtain rfl := hq
    have hP : va_P D vwCl [] H := hP
    have hD : va_D A [] := hD
    refine lv_istore (lv' := [(4, .int (sg_0 x3 x2 (nI cw))), (0, .int (nI 1)), (1, .int x2), (2, .int x3), (3, .int (nI cw))]) hx hb dX11_seenAs_6 hl (by decide) rfl (fun ls hl => ?_)
    refine lv_iload_n hx hb dX11_seenAs_8 rfl (lv_at hl 1 rfl) ?_
    refine lv_tableIn (off := 35) (tgt := 44) hx hb dX11_seenAs_9 (by decide) (by decide) (by decide +kernel) (by decide) ?_
    refine lv_iload_n hx hb dX11_seenAs_44 rfl (lv_at hl 2 rfl) ?_
    refine lv_iload_n hx hb dX11_seenAs_45 rfl (lv_at hl 3 rfl) ?_
    refine lv_iload_n hx hb dX11_seenAs_46 rfl (lv_at hl 4 rfl) ?_
    have hs7 : kw_Split [] [] [] [] [] := ⟨rfl, rfl, rfl, rfl, rfl, by decide⟩
    refine kw_go_i hs7 hP hD hS hA (va_runS (As := [.int x2, .int x3, .int (nI cw)]) (rest := []) ⟨hx, hb, hml, hown, hts⟩ (gb_Mwesterly l D y x2 x3 (nI cw)  _) (va_cwS 3 hts gX11_seenAs_X11_westerly rfl rfl rfl (by decide +kernel) ⟨Nat.le_of_ble_eq_true rfl, Nat.le_of_ble_eq_true rfl⟩) (kw_PreS hs7 hP hD hK hN) rfl rfl hl.1 rfl (lv_room (Nat.le_of_ble_eq_true rfl)) dX11_seenAs_47 ⟨Nat.le_of_ble_eq_true rfl, Nat.le_of_ble_eq_true rfl⟩) (fun r8 u9 H locs hq hP hD hS => ?_)
    obtain rfl := hq
    have hP : va_P D vwCl [] H := hP
    have hD : va_D A [] := hD
    exact W.iret (v := (sg_1 x3 x2 (nI cw))) hx hb hr (fun tZ ht hW => ⟨⟨(sg_1 x3 x2 (nI cw)), (), rfl, rfl, by rw [ht]; exact hP.sub [] rfl, hD.sub [] (by decide) rfl⟩, hS.F ht⟩) hS.2.2 dX11_seenAs_50
  · skip
    refine lv_iload_n hx hb dX11_seenAs_0 rfl (lv_at hl 1 rfl) ?_
    refine lv_iload_n hx hb dX11_seenAs_1 rfl (lv_at hl 2 rfl) ?_
    refine lv_iload_n hx hb dX11_seenAs_2 rfl (lv_at hl 3 rfl) ?_
    have hs10 : kw_Split [] [] [] [] [] := ⟨rfl, rfl, rfl, rfl, rfl, by decide⟩
    refine kw_go_i hs10 hP hD hS hA (va_runS (As := [.int x2, .int x3, .int (nI cw)]) (rest := []) ⟨hx, hb, hml, hown, hts⟩ (gb_Mplainly l D y x2 x3 (nI cw)  _) (va_cwS 3 hts gX11_seenAs_X11_plainly rfl rfl rfl (by decide +kernel) ⟨Nat.le_of_ble_eq_true rfl, Nat.le_of_ble_eq_true rfl⟩) (kw_PreS hs10 hP hD hK hN) rfl rfl hl.1 rfl (lv_room (Nat.le_of_ble_eq_true rfl)) dX11_seenAs_3 ⟨Nat.le_of_ble_eq_true rfl, Nat.le_of_ble_eq_true rfl⟩) (fun r11 u12 H locs hq hP hD hS => ?_)
    obtain rfl := hq
    have hP : va_P D vwCl [] H := hP
    have hD : va_D A [] := hD
    refine lv_istore (lv' := [(4, .int (sg_0 x3 x2 (nI cw))), (0, .int (nI 2)), (1, .int x2), (2, .int x3), (3, .int (nI cw))]) hx hb dX11_seenAs_6 hl (by decide) rfl (fun ls hl => ?_)
    refine lv_iload_n hx hb dX11_seenAs_8 rfl (lv_at hl 1 rfl) ?_
    refine lv_tableIn (off := 42) (tgt := 51) hx hb dX11_seenAs_9 (by decide) (by decide) (by decide +kernel) (by decide) ?_
    refine lv_iload hx hb dX11_seenAs_51 (lv_at hl 0 rfl) ?_
    refine lv_iconst (v := 2) hx hb dX11_seenAs_53 (by decide) ?_
    refine lv_idiv hx hb dX11_seenAs_54 (by decide) ?_
    exact W.iret (v := ((sg_0 x3 x2 (nI cw)) / 2)) hx hb hr (fun tZ ht hW => ⟨⟨((sg_0 x3 x2 (nI cw)) / 2), (), rfl, rfl, by rw [ht]; exact hP.sub [] rfl, hD.sub [] (by decide) rfl⟩, hS.F ht⟩) hS.2.2 dX11_seenAs_55
  · skip
    refine lv_iload_n hx hb dX11_seenAs_0 rfl (lv_at hl 1 rfl) ?_
    refine lv_iload_n hx hb dX11_seenAs_1 rfl (lv_at hl 2 rfl) ?_
    refine lv_iload_n hx hb dX11_seenAs_2 rfl (lv_at hl 3 rfl) ?_
    have hs13 : kw_Split [] [] [] [] [] := ⟨rfl, rfl, rfl, rfl, rfl, by decide⟩
    refine kw_go_i hs13 hP hD hS hA (va_runS (As := [.int x2, .int x3, .int (nI cw)]) (rest := []) ⟨hx, hb, hml, hown, hts⟩ (gb_Mplainly l D y x2 x3 (nI cw)  _) (va_cwS 3 hts gX11_seenAs_X11_plainly rfl rfl rfl (by decide +kernel) ⟨Nat.le_of_ble_eq_true rfl, Nat.le_of_ble_eq_true rfl⟩) (kw_PreS hs13 hP hD hK hN) rfl rfl hl.1 rfl (lv_room (Nat.le_of_ble_eq_true rfl)) dX11_seenAs_3 ⟨Nat.le_of_ble_eq_true rfl, Nat.le_of_ble_eq_true rfl⟩) (fun r14 u15 H locs hq hP hD hS => ?_)
    obtain rfl := hq
    have hP : va_P D vwCl [] H := hP
    have hD : va_D A [] := hD
    refine lv_istore (lv' := [(4, .int (sg_0 x3 x2 (nI cw))), (0, .int (nI 3)), (1, .int x2), (2, .int x3), (3, .int (nI cw))]) hx hb dX11_seenAs_6 hl (by decide) rfl (fun ls hl => ?_)
    refine lv_iload_n hx hb dX11_seenAs_8 rfl (lv_at hl 1 rfl) ?_
    refine lv_tableIn (off := 47) (tgt := 56) hx hb dX11_seenAs_9 (by decide) (by decide) (by decide +kernel) (by decide) ?_
    refine lv_iload hx hb dX11_seenAs_56 (lv_at hl 0 rfl) ?_
    refine lv_iload_n hx hb dX11_seenAs_58 rfl (lv_at hl 4 rfl) ?_
    refine lv_iadd hx hb dX11_seenAs_59 ?_
    refine lv_iload_n hx hb dX11_seenAs_60 rfl (lv_at hl 2 rfl) ?_
    refine lv_icmp_ge (tgt := 71) hx hb dX11_seenAs_61 (by decide) (fun h16 => ?_) (fun h17 => ?_)
    · skip
      refine lv_iload_n hx hb dX11_seenAs_71 rfl (lv_at hl 2 rfl) ?_
      exact W.iret (v := x2) hx hb hr (fun tZ ht hW => ⟨⟨x2, (), rfl, sg_3b h16, by rw [ht]; exact hP.sub [] rfl, hD.sub [] (by decide) rfl⟩, hS.F ht⟩) hS.2.2 dX11_seenAs_72
    · skip
      refine lv_iload hx hb dX11_seenAs_64 (lv_at hl 0 rfl) ?_
      refine lv_iload_n hx hb dX11_seenAs_66 rfl (lv_at hl 4 rfl) ?_
      refine lv_iadd hx hb dX11_seenAs_67 ?_
      refine lv_goto (tgt := 72) hx hb dX11_seenAs_68 (by decide) ?_
      exact W.iret (v := ((sg_0 x3 x2 (nI cw)) + (nI cw))) hx hb hr (fun tZ ht hW => ⟨⟨((sg_0 x3 x2 (nI cw)) + (nI cw)), (), rfl, sg_3a h17, by rw [ht]; exact hP.sub [] rfl, hD.sub [] (by decide) rfl⟩, hS.F ht⟩) hS.2.2 dX11_seenAs_72
  · skip
    refine lv_iload_n hx hb dX11_seenAs_0 rfl (lv_at hl 1 rfl) ?_
    refine lv_iload_n hx hb dX11_seenAs_1 rfl (lv_at hl 2 rfl) ?_
    refine lv_iload_n hx hb dX11_seenAs_2 rfl (lv_at hl 3 rfl) ?_
    have hs18 : kw_Split [] [] [] [] [] := ⟨rfl, rfl, rfl, rfl, rfl, by decide⟩
    refine kw_go_i hs18 hP hD hS hA (va_runS (As := [.int x2, .int x3, .int (nI cw)]) (rest := []) ⟨hx, hb, hml, hown, hts⟩ (gb_Mplainly l D y x2 x3 (nI cw)  _) (va_cwS 3 hts gX11_seenAs_X11_plainly rfl rfl rfl (by decide +kernel) ⟨Nat.le_of_ble_eq_true rfl, Nat.le_of_ble_eq_true rfl⟩) (kw_PreS hs18 hP hD hK hN) rfl rfl hl.1 rfl (lv_room (Nat.le_of_ble_eq_true rfl)) dX11_seenAs_3 ⟨Nat.le_of_ble_eq_true rfl, Nat.le_of_ble_eq_true rfl⟩) (fun r19 u20 H locs hq hP hD hS => ?_)
    obtain rfl := hq
    have hP : va_P D vwCl [] H := hP
    have hD : va_D A [] := hD
    refine lv_istore (lv' := [(4, .int (sg_0 x3 x2 (nI cw))), (0, .int (nI 4)), (1, .int x2), (2, .int x3), (3, .int (nI cw))]) hx hb dX11_seenAs_6 hl (by decide) rfl (fun ls hl => ?_)
    refine lv_iload_n hx hb dX11_seenAs_8 rfl (lv_at hl 1 rfl) ?_
    refine lv_tableIn (off := 64) (tgt := 73) hx hb dX11_seenAs_9 (by decide) (by decide) (by decide +kernel) (by decide) ?_
    refine lv_iload_n hx hb dX11_seenAs_73 rfl (lv_at hl 2 rfl) ?_
    refine lv_iload_n hx hb dX11_seenAs_74 rfl (lv_at hl 3 rfl) ?_
    refine lv_iload_n hx hb dX11_seenAs_75 rfl (lv_at hl 4 rfl) ?_
    refine lv_iconst (v := 3) hx hb dX11_seenAs_76 (by decide) ?_
    refine lv_icmp_ge (tgt := 84) hx hb dX11_seenAs_77 (by decide) (fun h21 => ?_) (fun h22 => ?_)
    · skip
      have h21 : 3 ≤ cw := (nI_leI (a := 3) (b := cw) (by omega) (by omega)).mp h21
      refine lv_iload_n hx hb dX11_seenAs_84 rfl (lv_at hl 4 rfl) ?_
      refine lv_iconst (v := 3) hx hb dX11_seenAs_85 (by decide) ?_
      refine lv_isub hx hb dX11_seenAs_86 ?_
      have hs23 : kw_Split [] [] [] [] [] := ⟨rfl, rfl, rfl, rfl, rfl, by decide⟩
      refine kw_go_i hs23 hP hD hS hA (va_runS (As := [.int x2, .int x3, .int ((nI cw) - 3)]) (rest := []) ⟨hx, hb, hml, hown, hts⟩ (gb_Mwesterly l D y x2 x3 ((nI cw) - 3)  _) (va_cwS 3 hts gX11_seenAs_X11_westerly rfl rfl rfl (by decide +kernel) ⟨Nat.le_of_ble_eq_true rfl, Nat.le_of_ble_eq_true rfl⟩) (kw_PreS hs23 hP hD hK hN) rfl rfl hl.1 rfl (lv_room (Nat.le_of_ble_eq_true rfl)) dX11_seenAs_87 ⟨Nat.le_of_ble_eq_true rfl, Nat.le_of_ble_eq_true rfl⟩) (fun r24 u25 H locs hq hP hD hS => ?_)
      obtain rfl := hq
      have hP : va_P D vwCl [] H := hP
      have hD : va_D A [] := hD
      exact W.iret (v := (sg_1 x3 x2 ((nI cw) - 3))) hx hb hr (fun tZ ht hW => ⟨⟨(sg_1 x3 x2 ((nI cw) - 3)), (), rfl, sg_4a hcw ((nI_leI (a := 3) (b := cw) (by decide) (by omega)).mpr h21), by rw [ht]; exact hP.sub [] rfl, hD.sub [] (by decide) rfl⟩, hS.F ht⟩) hS.2.2 dX11_seenAs_90
    · skip
      have h22 : ¬ 3 ≤ cw := fun q9 => h22 ((nI_leI (a := 3) (b := cw) (by omega) (by omega)).mpr q9)
      refine lv_iconst (v := 0) hx hb dX11_seenAs_80 (by decide) ?_
      refine lv_goto (tgt := 87) hx hb dX11_seenAs_81 (by decide) ?_
      have hs26 : kw_Split [] [] [] [] [] := ⟨rfl, rfl, rfl, rfl, rfl, by decide⟩
      refine kw_go_i hs26 hP hD hS hA (va_runS (As := [.int x2, .int x3, .int 0]) (rest := []) ⟨hx, hb, hml, hown, hts⟩ (gb_Mwesterly l D y x2 x3 0  _) (va_cwS 3 hts gX11_seenAs_X11_westerly rfl rfl rfl (by decide +kernel) ⟨Nat.le_of_ble_eq_true rfl, Nat.le_of_ble_eq_true rfl⟩) (kw_PreS hs26 hP hD hK hN) rfl rfl hl.1 rfl (lv_room (Nat.le_of_ble_eq_true rfl)) dX11_seenAs_87 ⟨Nat.le_of_ble_eq_true rfl, Nat.le_of_ble_eq_true rfl⟩) (fun r27 u28 H locs hq hP hD hS => ?_)
      obtain rfl := hq
      have hP : va_P D vwCl [] H := hP
      have hD : va_D A [] := hD
      exact W.iret (v := (sg_1 x3 x2 0)) hx hb hr (fun tZ ht hW => ⟨⟨(sg_1 x3 x2 0), (), rfl, sg_4b hcw (fun q9 => h22 ((nI_leI (a := 3) (b := cw) (by decide) (by omega)).mp q9)), by rw [ht]; exact hP.sub [] rfl, hD.sub [] (by decide) rfl⟩, hS.F ht⟩) hS.2.2 dX11_seenAs_90
  · skip
    refine lv_iload_n hx hb dX11_seenAs_0 rfl (lv_at hl 1 rfl) ?_
    refine lv_iload_n hx hb dX11_seenAs_1 rfl (lv_at hl 2 rfl) ?_
    refine lv_iload_n hx hb dX11_seenAs_2 rfl (lv_at hl 3 rfl) ?_
    have hs29 : kw_Split [] [] [] [] [] := ⟨rfl, rfl, rfl, rfl, rfl, by decide⟩
    refine kw_go_i hs29 hP hD hS hA (va_runS (As := [.int x2, .int x3, .int (nI cw)]) (rest := []) ⟨hx, hb, hml, hown, hts⟩ (gb_Mplainly l D y x2 x3 (nI cw)  _) (va_cwS 3 hts gX11_seenAs_X11_plainly rfl rfl rfl (by decide +kernel) ⟨Nat.le_of_ble_eq_true rfl, Nat.le_of_ble_eq_true rfl⟩) (kw_PreS hs29 hP hD hK hN) rfl rfl hl.1 rfl (lv_room (Nat.le_of_ble_eq_true rfl)) dX11_seenAs_3 ⟨Nat.le_of_ble_eq_true rfl, Nat.le_of_ble_eq_true rfl⟩) (fun r30 u31 H locs hq hP hD hS => ?_)
    obtain rfl := hq
    have hP : va_P D vwCl [] H := hP
    have hD : va_D A [] := hD
    refine lv_istore (lv' := [(4, .int (sg_0 x3 x2 (nI cw))), (0, .int (nI 5)), (1, .int x2), (2, .int x3), (3, .int (nI cw))]) hx hb dX11_seenAs_6 hl (by decide) rfl (fun ls hl => ?_)
    refine lv_iload_n hx hb dX11_seenAs_8 rfl (lv_at hl 1 rfl) ?_
    refine lv_tableIn (off := 82) (tgt := 91) hx hb dX11_seenAs_9 (by decide) (by decide) (by decide +kernel) (by decide) ?_
    refine lv_iload_n hx hb dX11_seenAs_91 rfl (lv_at hl 3 rfl) ?_
    refine lv_bipush (v := 8) hx hb dX11_seenAs_92 (by decide) ?_
    refine lv_icmp_lt (tgt := 101) hx hb dX11_seenAs_94 (by decide) (fun h32 => ?_) (fun h33 => ?_)
    · skip
      refine lv_iload hx hb dX11_seenAs_101 (lv_at hl 0 rfl) ?_
      refine lv_iconst (v := 2) hx hb dX11_seenAs_103 (by decide) ?_
      refine lv_idiv hx hb dX11_seenAs_104 (by decide) ?_
      exact W.iret (v := ((sg_0 x3 x2 (nI cw)) / 2)) hx hb hr (fun tZ ht hW => ⟨⟨((sg_0 x3 x2 (nI cw)) / 2), (), rfl, sg_5b h32, by rw [ht]; exact hP.sub [] rfl, hD.sub [] (by decide) rfl⟩, hS.F ht⟩) hS.2.2 dX11_seenAs_105
    · skip
      refine lv_iconst (v := 0) hx hb dX11_seenAs_97 (by decide) ?_
      refine lv_goto (tgt := 105) hx hb dX11_seenAs_98 (by decide) ?_
      exact W.iret (v := 0) hx hb hr (fun tZ ht hW => ⟨⟨0, (), rfl, sg_5a h33, by rw [ht]; exact hP.sub [] rfl, hD.sub [] (by decide) rfl⟩, hS.F ht⟩) hS.2.2 dX11_seenAs_105

set_option maxHeartbeats 4000000 in
set_option maxRecDepth 100000 in
theorem gb_Mclouds (l : Launch) (D : va_G) (y : Nat → ClassId) (mo : Nat) (to : Nat) (ke : Nat) (ik : Nat) (mrf : Nat) (ha : Nat) (r0 : Nat) (mbr : Nat) (mbp : Nat) (mby : Nat) (an : Nat) (va : Nat) (mab : Int64) (mbl : Int64) (bl : Nat) (ta : Nat) (tl : Nat) (tk : Nat) (vv : Int32) (ft : Nat → Int32) (fi : Nat) (gl : Nat) (mi : Nat) (no : Nat) (un : Nat) (hk0_ : ft 0 = (nI fi)) (hk1_ : ft 1 = (nI gl)) (hk2_ : ft 2 = (nI mi)) (hk3_ : ft 3 = (nI no)) (hk4_ : ft 4 = (nI un)) (hkt : kr_t 228 ft) (hfi : fi ≤ 6) (hgl : gl ≤ 5) (hmi : mi ≤ 4) (hno : no ≤ 6) (hun : un ≤ 8) (hgf : (gl = 0 ∨ 0 < fi)) (hkin : kz_kin ft fi) (hmin : kz_min ft mi fi) : kw_Mi l yX11_clouds wsX11_clouds ({ frames := 4, cells := 0, slots := 0, locals := 129 }) D y [.ref mo] [(mo, .inr (11, [.ref to, .ref ke, .ref ik, .ref mrf, .long mab, .long mbl, .ref ha, .ref r0, .ref mbr, .ref mbp, .ref mby, .int (nI bl), .int (nI ta), .int (nI tl), .int (nI tk), .int vv, .ref an, .ref va])), (to, .inl (y 0, 228, .inl ft))] (fun (r : Int32) (u : Unit) => (gl = 0 ∨ 0 < fi) ∧ r = (cb (fun k => cl_ok ft (nI k) mi) 10)) (fun _ => [(mo, .inr (11, [.ref to, .ref ke, .ref ik, .ref mrf, .long mab, .long mbl, .ref ha, .ref r0, .ref mbr, .ref mbp, .ref mby, .int (nI bl), .int (nI ta), .int (nI tl), .int (nI tk), .int vv, .ref an, .ref va])), (to, .inl (y 0, 228, .inl ft))]) 0 0 := by
  refine kw_Mi.of (cc := cX11_clouds) (maxL := 6) (ret := (some .int)) (by decide) rfl ?_
  intro pZ eZ s mZ beZ meZ cZ A hE
  obtain ⟨hx, hb, hr, hml, hts, hown, hlocks, hin, hA, hP, hD, hK, hN⟩ := hE
  have hS : va_S A s.heap s.heap [] := va_S.rf
  have hl := lv_entry ([.ref mo]) (n := 6) (Nat.le_of_ble_eq_true rfl)
  rw [lg_entry_eq]
  generalize (lg_sl ([.ref mo]) ++ List.replicate (6 - (lg_sl ([.ref mo])).length) Slot.unset).toArray = ls at hl ⊢
  have hl : lv_has ls 6 [(0, .ref mo)] := hl
  have fw1 := hts (.fieldLink RX11 7 "GleanDuskModel" "told" "[I") (List.mem_of_getElem? (i := 1) rfl)
  have iw11 : ∀ w ∈ wsX110, w ∈ wsX11_clouds := fun _ h => List.mem_cons_of_mem _ (List.mem_append_right _ h)
  refine lv_iconst (v := 0) hx hb dX11_clouds_0 (by decide) ?_
  refine lv_istore_n (lv' := [(1, .int 0), (0, .ref mo)]) hx hb dX11_clouds_1 rfl hl (by decide) rfl (fun ls hl => ?_)
  refine lv_iconst (v := 0) hx hb dX11_clouds_2 (by decide) ?_
  refine lv_istore_n (lv' := [(2, .int 0), (1, .int 0), (0, .ref mo)]) hx hb dX11_clouds_3 rfl hl (by decide) rfl (fun ls hl => ?_)
  have lp106 : ∀ (fuj91 j91 : Nat) (x54 : Int32) (H : Heap) (locs : List Loc) (ls : Array Slot), j91 ≤ 10 → 10 - j91 < fuj91 → x54 = cb (fun k => cl_ok ft (nI k) mi) j91 → va_P D vwCl [(mo, .inr (11, [.ref to, .ref ke, .ref ik, .ref mrf, .long mab, .long mbl, .ref ha, .ref r0, .ref mbr, .ref mbp, .ref mby, .int (nI bl), .int (nI ta), .int (nI tl), .int (nI tk), .int vv, .ref an, .ref va])), (to, .inl (y 0, 228, .inl ft))] H → va_D A [(mo, .inr (11, [.ref to, .ref ke, .ref ik, .ref mrf, .long mab, .long mbl, .ref ha, .ref r0, .ref mbr, .ref mbp, .ref mby, .int (nI bl), .int (nI ta), .int (nI tl), .int (nI tk), .int vv, .ref an, .ref va])), (to, .inl (y 0, 228, .inl ft))] → va_S A s.heap H locs → lv_has ls 6 [(2, .int (nI j91)), (1, .int x54), (0, .ref mo)] → W pZ l eZ ({ frames := 4, cells := 0, slots := 0, locals := 129 }) s mZ [.ref mo].toArray beZ meZ cZ H locs 0 0 (MQ beZ (va_Qi (fun (r : Int32) (u : Unit) => (gl = 0 ∨ 0 < fi) ∧ r = (cb (fun k => cl_ok ft (nI k) mi) 10)) (kw_B D (fun _ => [(mo, .inr (11, [.ref to, .ref ke, .ref ik, .ref mrf, .long mab, .long mbl, .ref ha, .ref r0, .ref mbr, .ref mbp, .ref mby, .int (nI bl), .int (nI ta), .int (nI tl), .int (nI tk), .int vv, .ref an, .ref va])), (to, .inl (y 0, 228, .inl ft))]) A) A) [.ref mo].toArray s 0 0 A) (F0 mZ 4 ls []) := by
    intro fuj91
    induction fuj91 with
    | zero => intro j91 x54 H locs ls hj9 hf9; exact absurd hf9 (Nat.not_lt_zero _)
    | succ fuj91 ihj91 =>
      intro j91 x54 H locs ls hj91 hfj91 hI0_j91 hP hD hS hl
      refine lv_iload_n hx hb dX11_clouds_4 rfl (lv_at hl 0 rfl) ?_
      refine lv_bipush (v := 10) hx hb dX11_clouds_5 (by decide) ?_
      refine lv_icmp_ge (tgt := 120) hx hb dX11_clouds_7 (by decide) (fun h107 => ?_) (fun h108 => ?_)
      · skip
        have h107 : 10 ≤ j91 := (nI_leI (a := 10) (b := j91) (by omega) (by omega)).mp h107
        refine lv_iload_n hx hb dX11_clouds_120 rfl (lv_at hl 1 rfl) ?_
        exact W.iret (v := x54) hx hb hr (fun tZ ht hW => ⟨⟨x54, (), rfl, ⟨by first | omega | (dsimp only; omega), (show j91 = 10 by omega) ▸ hI0_j91⟩, by rw [ht]; exact hP.sub [0, 1] rfl, hD.sub [0, 1] (by decide) rfl⟩, hS.F ht⟩) hS.2.2 dX11_clouds_121
      · skip
        have h108 : ¬ 10 ≤ j91 := fun q9 => h108 ((nI_leI (a := 10) (b := j91) (by omega) (by omega)).mpr q9)
        refine lv_iconst (v := 1) hx hb dX11_clouds_10 (by decide) ?_
        refine lv_istore_n (lv' := [(3, .int 1), (2, .int (nI j91)), (1, .int x54), (0, .ref mo)]) hx hb dX11_clouds_11 rfl hl (by decide) rfl (fun ls hl => ?_)
        refine lv_iconst (v := 0) hx hb dX11_clouds_12 (by decide) ?_
        refine lv_istore (lv' := [(4, .int 0), (3, .int 1), (2, .int (nI j91)), (1, .int x54), (0, .ref mo)]) hx hb dX11_clouds_13 hl (by decide) rfl (fun ls hl => ?_)
        have lp140 : ∀ (fuj92 j92 : Nat) (x122 : Nat) (H : Heap) (locs : List Loc) (ls : Array Slot), j92 ≤ mi → mi - j92 < fuj92 → x122 ≤ 1 → (x122 = 1 ↔ cl_ok ft (nI j91) j92 = true) → va_P D vwCl [(mo, .inr (11, [.ref to, .ref ke, .ref ik, .ref mrf, .long mab, .long mbl, .ref ha, .ref r0, .ref mbr, .ref mbp, .ref mby, .int (nI bl), .int (nI ta), .int (nI tl), .int (nI tk), .int vv, .ref an, .ref va])), (to, .inl (y 0, 228, .inl ft))] H → va_D A [(mo, .inr (11, [.ref to, .ref ke, .ref ik, .ref mrf, .long mab, .long mbl, .ref ha, .ref r0, .ref mbr, .ref mbp, .ref mby, .int (nI bl), .int (nI ta), .int (nI tl), .int (nI tk), .int vv, .ref an, .ref va])), (to, .inl (y 0, 228, .inl ft))] → va_S A s.heap H locs → lv_has ls 6 [(4, .int (nI j92)), (3, .int (nI x122)), (2, .int (nI j91)), (1, .int x54), (0, .ref mo)] → W pZ l eZ ({ frames := 4, cells := 0, slots := 0, locals := 129 }) s mZ [.ref mo].toArray beZ meZ cZ H locs 0 0 (MQ beZ (va_Qi (fun (r : Int32) (u : Unit) => (gl = 0 ∨ 0 < fi) ∧ r = (cb (fun k => cl_ok ft (nI k) mi) 10)) (kw_B D (fun _ => [(mo, .inr (11, [.ref to, .ref ke, .ref ik, .ref mrf, .long mab, .long mbl, .ref ha, .ref r0, .ref mbr, .ref mbp, .ref mby, .int (nI bl), .int (nI ta), .int (nI tl), .int (nI tk), .int vv, .ref an, .ref va])), (to, .inl (y 0, 228, .inl ft))]) A) A) [.ref mo].toArray s 0 0 A) (F0 mZ 15 ls []) := by
          intro fuj92
          induction fuj92 with
          | zero => intro j92 x122 H locs ls hj9 hf9; exact absurd hf9 (Nat.not_lt_zero _)
          | succ fuj92 ihj92 =>
            intro j92 x122 H locs ls hj92 hfj92 hn_x122 hI0_j92 hP hD hS hl
            refine lv_iload hx hb dX11_clouds_15 (lv_at hl 0 rfl) ?_
            refine lv_aload_n hx hb dX11_clouds_17 rfl (lv_at hl 4 rfl) ?_
            refine va_get (D := D) (ci := 11) (v := .ref to) (C := RX11) (T := TX11) (N := 18) hx hb hts iw11 hown hK hP 0 rfl rfl 0 (by decide) fw1 (fun _ h9 => h9) rfl dX11_clouds_18 ?_
            refine lv_iconst (v := 2) hx hb dX11_clouds_21 (by decide) ?_
            refine va_iald hx hb hK hP 1 0 rfl rfl (by unfold vp_in; decide) dX11_clouds_22 ?_
            rw [show ((2 : Int32)).toNatClampNeg = 2 from rfl]
            rw [show (ft 2) = (nI mi) from hk2_]
            refine lv_icmp_ge (tgt := 100) hx hb dX11_clouds_23 (by decide) (fun h141 => ?_) (fun h142 => ?_)
            · skip
              have h141 : mi ≤ j92 := (nI_leI (a := mi) (b := j92) (by omega) (by omega)).mp h141
              refine lv_iload_n hx hb dX11_clouds_100 rfl (lv_at hl 3 rfl) ?_
              refine lv_iload_n hx hb dX11_clouds_101 rfl (lv_at hl 1 rfl) ?_
              refine lv_if_eq (tgt := 111) hx hb dX11_clouds_102 (by decide) (fun h143 => ?_) (fun h144 => ?_)
              · skip
                have h143 : x122 = 0 := (nI_eq (a := x122) (b := 0) (by omega) (by omega)).mp h143
                refine lv_iconst (v := 0) hx hb dX11_clouds_111 (by decide) ?_
                refine lv_ior hx hb dX11_clouds_112 ?_
                refine lv_istore_n (lv' := [(1, .int (x54 ||| 0)), (4, .int (nI j92)), (3, .int (nI x122)), (2, .int (nI j91)), (0, .ref mo)]) hx hb dX11_clouds_113 rfl hl (by decide) rfl (fun ls hl => ?_)
                refine lv_iinc (v := (nI (j91 + 1))) (lv' := [(2, .int (nI (j91 + 1))), (1, .int (x54 ||| 0)), (4, .int (nI j92)), (3, .int (nI x122)), (0, .ref mo)]) hx hb dX11_clouds_114 hl (k := 3) rfl (nI_1 j91) (by decide) rfl (fun ls hl => ?_)
                refine lv_goto (tgt := 4) hx hb dX11_clouds_117 (by decide) ?_
                exact ihj91 (j91 + 1) (x54 ||| 0) H locs ls (by omega) (by omega) (cb_n0 hI0_j91 (fun q9 => absurd (((show j92 = mi by omega) ▸ hI0_j92).mpr q9) (by omega))) (hP.sub [0, 1] rfl) (hD.sub [0, 1] (by decide) rfl) hS (lv_sub hl [0, 1, 4] rfl)
              · skip
                have h144 : ¬ x122 = 0 := fun q9 => h144 ((nI_eq (a := x122) (b := 0) (by omega) (by omega)).mpr q9)
                refine lv_iconst (v := 1) hx hb dX11_clouds_105 (by decide) ?_
                refine lv_iload_n hx hb dX11_clouds_106 rfl (lv_at hl 2 rfl) ?_
                refine lv_ishl hx hb dX11_clouds_107 ?_
                refine lv_goto (tgt := 112) hx hb dX11_clouds_108 (by decide) ?_
                refine lv_ior hx hb dX11_clouds_112 ?_
                refine lv_istore_n (lv' := [(1, .int (x54 ||| (1 <<< ((nI j91) &&& 31)))), (4, .int (nI j92)), (3, .int (nI x122)), (2, .int (nI j91)), (0, .ref mo)]) hx hb dX11_clouds_113 rfl hl (by decide) rfl (fun ls hl => ?_)
                refine lv_iinc (v := (nI (j91 + 1))) (lv' := [(2, .int (nI (j91 + 1))), (1, .int (x54 ||| (1 <<< ((nI j91) &&& 31)))), (4, .int (nI j92)), (3, .int (nI x122)), (0, .ref mo)]) hx hb dX11_clouds_114 hl (k := 3) rfl (nI_1 j91) (by decide) rfl (fun ls hl => ?_)
                refine lv_goto (tgt := 4) hx hb dX11_clouds_117 (by decide) ?_
                exact ihj91 (j91 + 1) (x54 ||| (1 <<< ((nI j91) &&& 31))) H locs ls (by omega) (by omega) (cb_y hI0_j91 (((show j92 = mi by omega) ▸ hI0_j92).mp (by omega))) (hP.sub [0, 1] rfl) (hD.sub [0, 1] (by decide) rfl) hS (lv_sub hl [0, 1, 4] rfl)
            · skip
              have h142 : ¬ mi ≤ j92 := fun q9 => h142 ((nI_leI (a := mi) (b := j92) (by omega) (by omega)).mpr q9)
              refine lv_bipush (v := 30) hx hb dX11_clouds_26 (by decide) ?_
              refine lv_iconst (v := 4) hx hb dX11_clouds_28 (by decide) ?_
              refine lv_iload hx hb dX11_clouds_29 (lv_at hl 0 rfl) ?_
              refine lv_imul hx hb dX11_clouds_31 ?_
              rw [show 4 * (nI j92) = nI (4 * j92) from pk_mul 4 j92]
              refine lv_iadd hx hb dX11_clouds_32 ?_
              rw [show 30 + (nI (4 * j92)) = nI (30 + (4 * j92)) from nI_add 30 (4 * j92)]
              refine lv_istore (lv' := [(5, .int (nI (30 + (4 * j92)))), (4, .int (nI j92)), (3, .int (nI x122)), (2, .int (nI j91)), (1, .int x54), (0, .ref mo)]) hx hb dX11_clouds_33 hl (by decide) rfl (fun ls hl => ?_)
              refine lv_iload_n hx hb dX11_clouds_35 rfl (lv_at hl 2 rfl) ?_
              refine lv_if_eq (tgt := 92) hx hb dX11_clouds_36 (by decide) (fun h145 => ?_) (fun h146 => ?_)
              · skip
                have h145 : x122 = 0 := (nI_eq (a := x122) (b := 0) (by omega) (by omega)).mp h145
                refine lv_iconst (v := 0) hx hb dX11_clouds_92 (by decide) ?_
                refine lv_istore_n (lv' := [(3, .int 0), (5, .int (nI (30 + (4 * j92)))), (4, .int (nI j92)), (2, .int (nI j91)), (1, .int x54), (0, .ref mo)]) hx hb dX11_clouds_93 rfl hl (by decide) rfl (fun ls hl => ?_)
                refine lv_iinc (v := (nI (j92 + 1))) (lv' := [(4, .int (nI (j92 + 1))), (3, .int 0), (5, .int (nI (30 + (4 * j92)))), (2, .int (nI j91)), (1, .int x54), (0, .ref mo)]) hx hb dX11_clouds_94 hl (k := 2) rfl (nI_1 j92) (by decide) rfl (fun ls hl => ?_)
                refine lv_goto (tgt := 15) hx hb dX11_clouds_97 (by decide) ?_
                exact ihj92 (j92 + 1) 0 H locs ls (by omega) (by omega) (by omega) (cl_i3 hI0_j92 (by omega)) (hP.sub [0, 1] rfl) (hD.sub [0, 1] (by decide) rfl) hS (lv_sub hl [0, 1, 3, 4, 5] rfl)
              · skip
                have h146 : ¬ x122 = 0 := fun q9 => h146 ((nI_eq (a := x122) (b := 0) (by omega) (by omega)).mpr q9)
                refine lv_aload_n hx hb dX11_clouds_39 rfl (lv_at hl 5 rfl) ?_
                refine va_get (D := D) (ci := 11) (v := .ref to) (C := RX11) (T := TX11) (N := 18) hx hb hts iw11 hown hK hP 0 rfl rfl 0 (by decide) fw1 (fun _ h9 => h9) rfl dX11_clouds_40 ?_
                refine lv_bipush (v := 24) hx hb dX11_clouds_43 (by decide) ?_
                refine lv_aload_n hx hb dX11_clouds_45 rfl (lv_at hl 5 rfl) ?_
                refine va_get (D := D) (ci := 11) (v := .ref to) (C := RX11) (T := TX11) (N := 18) hx hb hts iw11 hown hK hP 0 rfl rfl 0 (by decide) fw1 (fun _ h9 => h9) rfl dX11_clouds_46 ?_
                refine lv_iload hx hb dX11_clouds_49 (lv_at hl 0 rfl) ?_
                refine va_iald hx hb hK hP 1 0 rfl rfl (vp_in_nI (by omega) (by decide)) dX11_clouds_51 ?_
                rw [nI_clamp (n := (30 + (4 * j92))) (by omega)]
                obtain ⟨w147, h148, h149⟩ := kr_at hkt (p := (30 + (4 * j92))) (by omega) (by unfold kr_a; omega)
                rw [h149]
                refine lv_iadd hx hb dX11_clouds_52 ?_
                rw [show 24 + (nI w147) = nI (w147 + 24) from (nI_add 24 w147).trans (congrArg nI (by omega))]
                refine va_iald hx hb hK hP 1 0 rfl rfl (vp_in_nI (by omega) (by decide)) dX11_clouds_53 ?_
                rw [nI_clamp (n := (w147 + 24)) (by omega)]
                obtain ⟨K150, h151, h152⟩ := kz_kd hkin hmin hfi (by omega) h149 (by omega)
                rw [h152]
                refine lv_aload_n hx hb dX11_clouds_54 rfl (lv_at hl 5 rfl) ?_
                refine va_get (D := D) (ci := 11) (v := .ref to) (C := RX11) (T := TX11) (N := 18) hx hb hts iw11 hown hK hP 0 rfl rfl 0 (by decide) fw1 (fun _ h9 => h9) rfl dX11_clouds_55 ?_
                refine lv_iload hx hb dX11_clouds_58 (lv_at hl 0 rfl) ?_
                refine lv_iconst (v := 2) hx hb dX11_clouds_60 (by decide) ?_
                refine lv_iadd hx hb dX11_clouds_61 ?_
                rw [show (nI (30 + (4 * j92))) + 2 = nI ((30 + (4 * j92)) + 2) from nI_add (30 + (4 * j92)) 2]
                refine va_iald hx hb hK hP 1 0 rfl rfl (vp_in_nI (by omega) (by decide)) dX11_clouds_62 ?_
                rw [nI_clamp (n := ((30 + (4 * j92)) + 2)) (by omega)]
                refine lv_aload_n hx hb dX11_clouds_63 rfl (lv_at hl 5 rfl) ?_
                refine va_get (D := D) (ci := 11) (v := .ref to) (C := RX11) (T := TX11) (N := 18) hx hb hts iw11 hown hK hP 0 rfl rfl 0 (by decide) fw1 (fun _ h9 => h9) rfl dX11_clouds_64 ?_
                refine lv_iload hx hb dX11_clouds_67 (lv_at hl 0 rfl) ?_
                refine lv_iconst (v := 1) hx hb dX11_clouds_69 (by decide) ?_
                refine lv_iadd hx hb dX11_clouds_70 ?_
                rw [show (nI (30 + (4 * j92))) + 1 = nI ((30 + (4 * j92)) + 1) from nI_add (30 + (4 * j92)) 1]
                refine va_iald hx hb hK hP 1 0 rfl rfl (vp_in_nI (by omega) (by decide)) dX11_clouds_71 ?_
                rw [nI_clamp (n := ((30 + (4 * j92)) + 1)) (by omega)]
                refine lv_iload_n hx hb dX11_clouds_72 rfl (lv_at hl 3 rfl) ?_
                have hs153 : kw_Split [(mo, .inr (11, [.ref to, .ref ke, .ref ik, .ref mrf, .long mab, .long mbl, .ref ha, .ref r0, .ref mbr, .ref mbp, .ref mby, .int (nI bl), .int (nI ta), .int (nI tl), .int (nI tk), .int vv, .ref an, .ref va])), (to, .inl (y 0, 228, .inl ft))] [] [(mo, .inr (11, [.ref to, .ref ke, .ref ik, .ref mrf, .long mab, .long mbl, .ref ha, .ref r0, .ref mbr, .ref mbp, .ref mby, .int (nI bl), .int (nI ta), .int (nI tl), .int (nI tk), .int vv, .ref an, .ref va])), (to, .inl (y 0, 228, .inl ft))] [] [0, 1] := ⟨rfl, rfl, rfl, rfl, rfl, by decide⟩
                refine kw_go_i hs153 hP hD hS hA (va_runS (As := [.int (nI K150), .int (ft ((30 + (4 * j92)) + 2)), .int (ft ((30 + (4 * j92)) + 1)), .int (nI j91)]) (rest := []) ⟨hx, hb, hml, hown, hts⟩ (gb_MseenAs l D y K150 (ft ((30 + (4 * j92)) + 2)) (ft ((30 + (4 * j92)) + 1)) j91 (by omega) (by omega) _) (va_cwS 4 hts gX11_clouds_X11_seenAs rfl rfl rfl (by decide +kernel) ⟨Nat.le_of_ble_eq_true rfl, Nat.le_of_ble_eq_true rfl⟩) (kw_PreS hs153 hP hD hK hN) rfl rfl hl.1 rfl (lv_room (Nat.le_of_ble_eq_true rfl)) dX11_clouds_73 ⟨Nat.le_of_ble_eq_true rfl, Nat.le_of_ble_eq_true rfl⟩) (fun r154 u155 H locs hq hP hD hS => ?_)
                obtain rfl := hq
                have hP : va_P D vwCl [(mo, .inr (11, [.ref to, .ref ke, .ref ik, .ref mrf, .long mab, .long mbl, .ref ha, .ref r0, .ref mbr, .ref mbp, .ref mby, .int (nI bl), .int (nI ta), .int (nI tl), .int (nI tk), .int vv, .ref an, .ref va])), (to, .inl (y 0, 228, .inl ft))] H := hP
                have hD : va_D A [(mo, .inr (11, [.ref to, .ref ke, .ref ik, .ref mrf, .long mab, .long mbl, .ref ha, .ref r0, .ref mbr, .ref mbp, .ref mby, .int (nI bl), .int (nI ta), .int (nI tl), .int (nI tk), .int vv, .ref an, .ref va])), (to, .inl (y 0, 228, .inl ft))] := hD
                refine lv_aload_n hx hb dX11_clouds_76 rfl (lv_at hl 5 rfl) ?_
                refine va_get (D := D) (ci := 11) (v := .ref to) (C := RX11) (T := TX11) (N := 18) hx hb hts iw11 hown hK hP 0 rfl rfl 0 (by decide) fw1 (fun _ h9 => h9) rfl dX11_clouds_77 ?_
                refine lv_iload hx hb dX11_clouds_80 (lv_at hl 0 rfl) ?_
                refine lv_iconst (v := 3) hx hb dX11_clouds_82 (by decide) ?_
                refine lv_iadd hx hb dX11_clouds_83 ?_
                rw [show (nI (30 + (4 * j92))) + 3 = nI ((30 + (4 * j92)) + 3) from nI_add (30 + (4 * j92)) 3]
                refine va_iald hx hb hK hP 1 0 rfl rfl (vp_in_nI (by omega) (by decide)) dX11_clouds_84 ?_
                rw [nI_clamp (n := ((30 + (4 * j92)) + 3)) (by omega)]
                refine lv_icmp_ne (tgt := 92) hx hb dX11_clouds_85 (by decide) (fun h156 => ?_) (fun h157 => ?_)
                · skip
                  refine lv_iconst (v := 0) hx hb dX11_clouds_92 (by decide) ?_
                  refine lv_istore_n (lv' := [(3, .int 0), (5, .int (nI (30 + (4 * j92)))), (4, .int (nI j92)), (2, .int (nI j91)), (1, .int x54), (0, .ref mo)]) hx hb dX11_clouds_93 rfl hl (by decide) rfl (fun ls hl => ?_)
                  refine lv_iinc (v := (nI (j92 + 1))) (lv' := [(4, .int (nI (j92 + 1))), (3, .int 0), (5, .int (nI (30 + (4 * j92)))), (2, .int (nI j91)), (1, .int x54), (0, .ref mo)]) hx hb dX11_clouds_94 hl (k := 2) rfl (nI_1 j92) (by decide) rfl (fun ls hl => ?_)
                  refine lv_goto (tgt := 15) hx hb dX11_clouds_97 (by decide) ?_
                  exact ihj92 (j92 + 1) 0 H locs ls (by omega) (by omega) (by omega) (cl_i2 (by rw [cl_row_r h149 (by omega) h152 (by omega)]; exact fun q9 => h156 (of_decide_eq_true q9))) (hP.sub [0, 1] rfl) (hD.sub [0, 1] (by decide) rfl) hS (lv_sub hl [0, 1, 3, 4, 5] rfl)
                · skip
                  refine lv_iconst (v := 1) hx hb dX11_clouds_88 (by decide) ?_
                  refine lv_goto (tgt := 93) hx hb dX11_clouds_89 (by decide) ?_
                  refine lv_istore_n (lv' := [(3, .int 1), (5, .int (nI (30 + (4 * j92)))), (4, .int (nI j92)), (2, .int (nI j91)), (1, .int x54), (0, .ref mo)]) hx hb dX11_clouds_93 rfl hl (by decide) rfl (fun ls hl => ?_)
                  refine lv_iinc (v := (nI (j92 + 1))) (lv' := [(4, .int (nI (j92 + 1))), (3, .int 1), (5, .int (nI (30 + (4 * j92)))), (2, .int (nI j91)), (1, .int x54), (0, .ref mo)]) hx hb dX11_clouds_94 hl (k := 2) rfl (nI_1 j92) (by decide) rfl (fun ls hl => ?_)
                  refine lv_goto (tgt := 15) hx hb dX11_clouds_97 (by decide) ?_
                  exact ihj92 (j92 + 1) 1 H locs ls (by omega) (by omega) (by omega) (cl_i1 hI0_j92 (by omega) (by rw [cl_row_r h149 (by omega) h152 (by omega)]; exact decide_eq_true h157)) (hP.sub [0, 1] rfl) (hD.sub [0, 1] (by decide) rfl) hS (lv_sub hl [0, 1, 3, 4, 5] rfl)
        exact lp140 (mi + 1) 0 1 _ _ _ (by omega) (by omega) (by omega) cl_i0 hP hD hS (lv_sub hl [0, 1, 2, 3, 4] rfl)
  exact lp106 (10 + 1) 0 0 _ _ _ (by omega) (by omega) rfl hP hD hS (lv_sub hl [0, 1, 2] rfl)

set_option maxHeartbeats 4000000 in
set_option maxRecDepth 100000 in
theorem gb_MkindsOf (l : Launch) (D : va_G) (y : Nat → ClassId) (mo : Nat) (to : Nat) (ke : Nat) (ik : Nat) (mrf : Nat) (ha : Nat) (r0 : Nat) (mbr : Nat) (mbp : Nat) (mby : Nat) (an : Nat) (va : Nat) (mab : Int64) (mbl : Int64) (bl : Nat) (ta : Nat) (tl : Nat) (tk : Nat) (vv : Int32) (ft : Nat → Int32) (fi : Nat) (gl : Nat) (mi : Nat) (no : Nat) (un : Nat) (x : Int32) (hk0_ : ft 0 = (nI fi)) (hk1_ : ft 1 = (nI gl)) (hk2_ : ft 2 = (nI mi)) (hk3_ : ft 3 = (nI no)) (hk4_ : ft 4 = (nI un)) (hkt : kr_t 228 ft) (hfi : fi ≤ 6) (hgl : gl ≤ 5) (hmi : mi ≤ 4) (hno : no ≤ 6) (hun : un ≤ 8) (hnin : kz_nin ft no) : kw_Mi l yX11_kindsOf wsX11_kindsOf ({ frames := 4, cells := 0, slots := 0, locals := 129 }) D y [.ref mo, .int x] [(mo, .inr (11, [.ref to, .ref ke, .ref ik, .ref mrf, .long mab, .long mbl, .ref ha, .ref r0, .ref mbr, .ref mbp, .ref mby, .int (nI bl), .int (nI ta), .int (nI tl), .int (nI tk), .int vv, .ref an, .ref va])), (to, .inl (y 0, 228, .inl ft))] (fun (r : Int32) (u : Unit) => r = (cb (fun k => nt_ok ft x k no) 6)) (fun _ => [(mo, .inr (11, [.ref to, .ref ke, .ref ik, .ref mrf, .long mab, .long mbl, .ref ha, .ref r0, .ref mbr, .ref mbp, .ref mby, .int (nI bl), .int (nI ta), .int (nI tl), .int (nI tk), .int vv, .ref an, .ref va])), (to, .inl (y 0, 228, .inl ft))]) 0 0 := by
  refine kw_Mi.of (cc := cX11_kindsOf) (maxL := 7) (ret := (some .int)) (by decide) rfl ?_
  intro pZ eZ s mZ beZ meZ cZ A hE
  obtain ⟨hx, hb, hr, hml, hts, hown, hlocks, hin, hA, hP, hD, hK, hN⟩ := hE
  have hS : va_S A s.heap s.heap [] := va_S.rf
  have hl := lv_entry ([.ref mo, .int x]) (n := 7) (Nat.le_of_ble_eq_true rfl)
  rw [lg_entry_eq]
  generalize (lg_sl ([.ref mo, .int x]) ++ List.replicate (7 - (lg_sl ([.ref mo, .int x])).length) Slot.unset).toArray = ls at hl ⊢
  have hl : lv_has ls 7 [(0, .ref mo), (1, .int x)] := hl
  have fw1 := hts (.fieldLink RX11 7 "GleanDuskModel" "told" "[I") (List.mem_of_getElem? (i := 1) rfl)
  have iw11 : ∀ w ∈ wsX110, w ∈ wsX11_kindsOf := fun _ h => List.mem_cons_of_mem _ (List.mem_append_right _ h)
  refine lv_iconst (v := 0) hx hb dX11_kindsOf_0 (by decide) ?_
  refine lv_istore_n (lv' := [(2, .int 0), (0, .ref mo), (1, .int x)]) hx hb dX11_kindsOf_1 rfl hl (by decide) rfl (fun ls hl => ?_)
  refine lv_iconst (v := 0) hx hb dX11_kindsOf_2 (by decide) ?_
  refine lv_istore_n (lv' := [(3, .int 0), (2, .int 0), (0, .ref mo), (1, .int x)]) hx hb dX11_kindsOf_3 rfl hl (by decide) rfl (fun ls hl => ?_)
  have lp100 : ∀ (fuj91 j91 : Nat) (x51 : Int32) (H : Heap) (locs : List Loc) (ls : Array Slot), j91 ≤ 6 → 6 - j91 < fuj91 → x51 = cb (fun k => nt_ok ft x k no) j91 → va_P D vwCl [(mo, .inr (11, [.ref to, .ref ke, .ref ik, .ref mrf, .long mab, .long mbl, .ref ha, .ref r0, .ref mbr, .ref mbp, .ref mby, .int (nI bl), .int (nI ta), .int (nI tl), .int (nI tk), .int vv, .ref an, .ref va])), (to, .inl (y 0, 228, .inl ft))] H → va_D A [(mo, .inr (11, [.ref to, .ref ke, .ref ik, .ref mrf, .long mab, .long mbl, .ref ha, .ref r0, .ref mbr, .ref mbp, .ref mby, .int (nI bl), .int (nI ta), .int (nI tl), .int (nI tk), .int vv, .ref an, .ref va])), (to, .inl (y 0, 228, .inl ft))] → va_S A s.heap H locs → lv_has ls 7 [(3, .int (nI j91)), (2, .int x51), (0, .ref mo), (1, .int x)] → W pZ l eZ ({ frames := 4, cells := 0, slots := 0, locals := 129 }) s mZ [.ref mo, .int x].toArray beZ meZ cZ H locs 0 0 (MQ beZ (va_Qi (fun (r : Int32) (u : Unit) => r = (cb (fun k => nt_ok ft x k no) 6)) (kw_B D (fun _ => [(mo, .inr (11, [.ref to, .ref ke, .ref ik, .ref mrf, .long mab, .long mbl, .ref ha, .ref r0, .ref mbr, .ref mbp, .ref mby, .int (nI bl), .int (nI ta), .int (nI tl), .int (nI tk), .int vv, .ref an, .ref va])), (to, .inl (y 0, 228, .inl ft))]) A) A) [.ref mo, .int x].toArray s 0 0 A) (F0 mZ 4 ls []) := by
    intro fuj91
    induction fuj91 with
    | zero => intro j91 x51 H locs ls hj9 hf9; exact absurd hf9 (Nat.not_lt_zero _)
    | succ fuj91 ihj91 =>
      intro j91 x51 H locs ls hj91 hfj91 hI0_j91 hP hD hS hl
      refine lv_iload_n hx hb dX11_kindsOf_4 rfl (lv_at hl 0 rfl) ?_
      refine lv_bipush (v := 6) hx hb dX11_kindsOf_5 (by decide) ?_
      refine lv_icmp_ge (tgt := 129) hx hb dX11_kindsOf_7 (by decide) (fun h101 => ?_) (fun h102 => ?_)
      · skip
        have h101 : 6 ≤ j91 := (nI_leI (a := 6) (b := j91) (by omega) (by omega)).mp h101
        refine lv_iload_n hx hb dX11_kindsOf_129 rfl (lv_at hl 1 rfl) ?_
        exact W.iret (v := x51) hx hb hr (fun tZ ht hW => ⟨⟨x51, (), rfl, (show j91 = 6 by omega) ▸ hI0_j91, by rw [ht]; exact hP.sub [0, 1] rfl, hD.sub [0, 1] (by decide) rfl⟩, hS.F ht⟩) hS.2.2 dX11_kindsOf_130
      · skip
        have h102 : ¬ 6 ≤ j91 := fun q9 => h102 ((nI_leI (a := 6) (b := j91) (by omega) (by omega)).mpr q9)
        refine lv_iconst (v := 1) hx hb dX11_kindsOf_10 (by decide) ?_
        refine lv_istore (lv' := [(4, .int 1), (3, .int (nI j91)), (2, .int x51), (0, .ref mo), (1, .int x)]) hx hb dX11_kindsOf_11 hl (by decide) rfl (fun ls hl => ?_)
        refine lv_iconst (v := 0) hx hb dX11_kindsOf_13 (by decide) ?_
        refine lv_istore (lv' := [(5, .int 0), (4, .int 1), (3, .int (nI j91)), (2, .int x51), (0, .ref mo), (1, .int x)]) hx hb dX11_kindsOf_14 hl (by decide) rfl (fun ls hl => ?_)
        have lp132 : ∀ (fuj92 j92 : Nat) (x115 : Nat) (H : Heap) (locs : List Loc) (ls : Array Slot), j92 ≤ no → no - j92 < fuj92 → x115 ≤ 1 → (x115 = 1 ↔ nt_ok ft x j91 j92 = true) → va_P D vwCl [(mo, .inr (11, [.ref to, .ref ke, .ref ik, .ref mrf, .long mab, .long mbl, .ref ha, .ref r0, .ref mbr, .ref mbp, .ref mby, .int (nI bl), .int (nI ta), .int (nI tl), .int (nI tk), .int vv, .ref an, .ref va])), (to, .inl (y 0, 228, .inl ft))] H → va_D A [(mo, .inr (11, [.ref to, .ref ke, .ref ik, .ref mrf, .long mab, .long mbl, .ref ha, .ref r0, .ref mbr, .ref mbp, .ref mby, .int (nI bl), .int (nI ta), .int (nI tl), .int (nI tk), .int vv, .ref an, .ref va])), (to, .inl (y 0, 228, .inl ft))] → va_S A s.heap H locs → lv_has ls 7 [(5, .int (nI j92)), (4, .int (nI x115)), (3, .int (nI j91)), (2, .int x51), (0, .ref mo), (1, .int x)] → W pZ l eZ ({ frames := 4, cells := 0, slots := 0, locals := 129 }) s mZ [.ref mo, .int x].toArray beZ meZ cZ H locs 0 0 (MQ beZ (va_Qi (fun (r : Int32) (u : Unit) => r = (cb (fun k => nt_ok ft x k no) 6)) (kw_B D (fun _ => [(mo, .inr (11, [.ref to, .ref ke, .ref ik, .ref mrf, .long mab, .long mbl, .ref ha, .ref r0, .ref mbr, .ref mbp, .ref mby, .int (nI bl), .int (nI ta), .int (nI tl), .int (nI tk), .int vv, .ref an, .ref va])), (to, .inl (y 0, 228, .inl ft))]) A) A) [.ref mo, .int x].toArray s 0 0 A) (F0 mZ 16 ls []) := by
          intro fuj92
          induction fuj92 with
          | zero => intro j92 x115 H locs ls hj9 hf9; exact absurd hf9 (Nat.not_lt_zero _)
          | succ fuj92 ihj92 =>
            intro j92 x115 H locs ls hj92 hfj92 hn_x115 hI0_j92 hP hD hS hl
            refine lv_iload hx hb dX11_kindsOf_16 (lv_at hl 0 rfl) ?_
            refine lv_aload_n hx hb dX11_kindsOf_18 rfl (lv_at hl 4 rfl) ?_
            refine va_get (D := D) (ci := 11) (v := .ref to) (C := RX11) (T := TX11) (N := 18) hx hb hts iw11 hown hK hP 0 rfl rfl 0 (by decide) fw1 (fun _ h9 => h9) rfl dX11_kindsOf_19 ?_
            refine lv_iconst (v := 3) hx hb dX11_kindsOf_22 (by decide) ?_
            refine va_iald hx hb hK hP 1 0 rfl rfl (by unfold vp_in; decide) dX11_kindsOf_23 ?_
            rw [show ((3 : Int32)).toNatClampNeg = 3 from rfl]
            rw [show (ft 3) = (nI no) from hk3_]
            refine lv_icmp_ge (tgt := 108) hx hb dX11_kindsOf_24 (by decide) (fun h133 => ?_) (fun h134 => ?_)
            · skip
              have h133 : no ≤ j92 := (nI_leI (a := no) (b := j92) (by omega) (by omega)).mp h133
              refine lv_iload_n hx hb dX11_kindsOf_108 rfl (lv_at hl 3 rfl) ?_
              refine lv_iload hx hb dX11_kindsOf_109 (lv_at hl 1 rfl) ?_
              refine lv_if_eq (tgt := 120) hx hb dX11_kindsOf_111 (by decide) (fun h135 => ?_) (fun h136 => ?_)
              · skip
                have h135 : x115 = 0 := (nI_eq (a := x115) (b := 0) (by omega) (by omega)).mp h135
                refine lv_iconst (v := 0) hx hb dX11_kindsOf_120 (by decide) ?_
                refine lv_ior hx hb dX11_kindsOf_121 ?_
                refine lv_istore_n (lv' := [(2, .int (x51 ||| 0)), (5, .int (nI j92)), (4, .int (nI x115)), (3, .int (nI j91)), (0, .ref mo), (1, .int x)]) hx hb dX11_kindsOf_122 rfl hl (by decide) rfl (fun ls hl => ?_)
                refine lv_iinc (v := (nI (j91 + 1))) (lv' := [(3, .int (nI (j91 + 1))), (2, .int (x51 ||| 0)), (5, .int (nI j92)), (4, .int (nI x115)), (0, .ref mo), (1, .int x)]) hx hb dX11_kindsOf_123 hl (k := 3) rfl (nI_1 j91) (by decide) rfl (fun ls hl => ?_)
                refine lv_goto (tgt := 4) hx hb dX11_kindsOf_126 (by decide) ?_
                exact ihj91 (j91 + 1) (x51 ||| 0) H locs ls (by omega) (by omega) (cb_n0 hI0_j91 (fun q9 => absurd (((show j92 = no by omega) ▸ hI0_j92).mpr q9) (by omega))) (hP.sub [0, 1] rfl) (hD.sub [0, 1] (by decide) rfl) hS (lv_sub hl [0, 1, 4, 5] rfl)
              · skip
                have h136 : ¬ x115 = 0 := fun q9 => h136 ((nI_eq (a := x115) (b := 0) (by omega) (by omega)).mpr q9)
                refine lv_iconst (v := 1) hx hb dX11_kindsOf_114 (by decide) ?_
                refine lv_iload_n hx hb dX11_kindsOf_115 rfl (lv_at hl 2 rfl) ?_
                refine lv_ishl hx hb dX11_kindsOf_116 ?_
                refine lv_goto (tgt := 121) hx hb dX11_kindsOf_117 (by decide) ?_
                refine lv_ior hx hb dX11_kindsOf_121 ?_
                refine lv_istore_n (lv' := [(2, .int (x51 ||| (1 <<< ((nI j91) &&& 31)))), (5, .int (nI j92)), (4, .int (nI x115)), (3, .int (nI j91)), (0, .ref mo), (1, .int x)]) hx hb dX11_kindsOf_122 rfl hl (by decide) rfl (fun ls hl => ?_)
                refine lv_iinc (v := (nI (j91 + 1))) (lv' := [(3, .int (nI (j91 + 1))), (2, .int (x51 ||| (1 <<< ((nI j91) &&& 31)))), (5, .int (nI j92)), (4, .int (nI x115)), (0, .ref mo), (1, .int x)]) hx hb dX11_kindsOf_123 hl (k := 3) rfl (nI_1 j91) (by decide) rfl (fun ls hl => ?_)
                refine lv_goto (tgt := 4) hx hb dX11_kindsOf_126 (by decide) ?_
                exact ihj91 (j91 + 1) (x51 ||| (1 <<< ((nI j91) &&& 31))) H locs ls (by omega) (by omega) (cb_y hI0_j91 (((show j92 = no by omega) ▸ hI0_j92).mp (by omega))) (hP.sub [0, 1] rfl) (hD.sub [0, 1] (by decide) rfl) hS (lv_sub hl [0, 1, 4, 5] rfl)
            · skip
              have h134 : ¬ no ≤ j92 := fun q9 => h134 ((nI_leI (a := no) (b := j92) (by omega) (by omega)).mpr q9)
              refine lv_bipush (v := 46) hx hb dX11_kindsOf_27 (by decide) ?_
              refine lv_iconst (v := 5) hx hb dX11_kindsOf_29 (by decide) ?_
              refine lv_iload hx hb dX11_kindsOf_30 (lv_at hl 0 rfl) ?_
              refine lv_imul hx hb dX11_kindsOf_32 ?_
              rw [show 5 * (nI j92) = nI (5 * j92) from pk_mul 5 j92]
              refine lv_iadd hx hb dX11_kindsOf_33 ?_
              rw [show 46 + (nI (5 * j92)) = nI (46 + (5 * j92)) from nI_add 46 (5 * j92)]
              refine lv_istore (lv' := [(6, .int (nI (46 + (5 * j92)))), (5, .int (nI j92)), (4, .int (nI x115)), (3, .int (nI j91)), (2, .int x51), (0, .ref mo), (1, .int x)]) hx hb dX11_kindsOf_34 hl (by decide) rfl (fun ls hl => ?_)
              refine lv_iload hx hb dX11_kindsOf_36 (lv_at hl 2 rfl) ?_
              refine lv_if_eq (tgt := 99) hx hb dX11_kindsOf_38 (by decide) (fun h137 => ?_) (fun h138 => ?_)
              · skip
                have h137 : x115 = 0 := (nI_eq (a := x115) (b := 0) (by omega) (by omega)).mp h137
                refine lv_iconst (v := 0) hx hb dX11_kindsOf_99 (by decide) ?_
                refine lv_istore (lv' := [(4, .int 0), (6, .int (nI (46 + (5 * j92)))), (5, .int (nI j92)), (3, .int (nI j91)), (2, .int x51), (0, .ref mo), (1, .int x)]) hx hb dX11_kindsOf_100 hl (by decide) rfl (fun ls hl => ?_)
                refine lv_iinc (v := (nI (j92 + 1))) (lv' := [(5, .int (nI (j92 + 1))), (4, .int 0), (6, .int (nI (46 + (5 * j92)))), (3, .int (nI j91)), (2, .int x51), (0, .ref mo), (1, .int x)]) hx hb dX11_kindsOf_102 hl (k := 2) rfl (nI_1 j92) (by decide) rfl (fun ls hl => ?_)
                refine lv_goto (tgt := 16) hx hb dX11_kindsOf_105 (by decide) ?_
                exact ihj92 (j92 + 1) 0 H locs ls (by omega) (by omega) (by omega) (nt_i3 hI0_j92 (by omega)) (hP.sub [0, 1] rfl) (hD.sub [0, 1] (by decide) rfl) hS (lv_sub hl [0, 1, 3, 4, 5, 6] rfl)
              · skip
                have h138 : ¬ x115 = 0 := fun q9 => h138 ((nI_eq (a := x115) (b := 0) (by omega) (by omega)).mpr q9)
                refine lv_aload_n hx hb dX11_kindsOf_41 rfl (lv_at hl 5 rfl) ?_
                refine va_get (D := D) (ci := 11) (v := .ref to) (C := RX11) (T := TX11) (N := 18) hx hb hts iw11 hown hK hP 0 rfl rfl 0 (by decide) fw1 (fun _ h9 => h9) rfl dX11_kindsOf_42 ?_
                refine lv_iload hx hb dX11_kindsOf_45 (lv_at hl 0 rfl) ?_
                refine va_iald hx hb hK hP 1 0 rfl rfl (vp_in_nI (by omega) (by decide)) dX11_kindsOf_47 ?_
                rw [nI_clamp (n := (46 + (5 * j92))) (by omega)]
                refine lv_iload_n hx hb dX11_kindsOf_48 rfl (lv_at hl 6 rfl) ?_
                refine lv_icmp_ne (tgt := 95) hx hb dX11_kindsOf_49 (by decide) (fun h139 => ?_) (fun h140 => ?_)
                · skip
                  refine lv_iconst (v := 1) hx hb dX11_kindsOf_95 (by decide) ?_
                  refine lv_goto (tgt := 100) hx hb dX11_kindsOf_96 (by decide) ?_
                  refine lv_istore (lv' := [(4, .int 1), (6, .int (nI (46 + (5 * j92)))), (5, .int (nI j92)), (3, .int (nI j91)), (2, .int x51), (0, .ref mo), (1, .int x)]) hx hb dX11_kindsOf_100 hl (by decide) rfl (fun ls hl => ?_)
                  refine lv_iinc (v := (nI (j92 + 1))) (lv' := [(5, .int (nI (j92 + 1))), (4, .int 1), (6, .int (nI (46 + (5 * j92)))), (3, .int (nI j91)), (2, .int x51), (0, .ref mo), (1, .int x)]) hx hb dX11_kindsOf_102 hl (k := 2) rfl (nI_1 j92) (by decide) rfl (fun ls hl => ?_)
                  refine lv_goto (tgt := 16) hx hb dX11_kindsOf_105 (by decide) ?_
                  exact ihj92 (j92 + 1) 1 H locs ls (by omega) (by omega) (by omega) (nt_i1 hI0_j92 (by omega) (decide_eq_true (fun q9 => absurd q9 h139))) (hP.sub [0, 1] rfl) (hD.sub [0, 1] (by decide) rfl) hS (lv_sub hl [0, 1, 3, 4, 5, 6] rfl)
                · skip
                  refine lv_iload_n hx hb dX11_kindsOf_52 rfl (lv_at hl 3 rfl) ?_
                  refine lv_aload_n hx hb dX11_kindsOf_53 rfl (lv_at hl 5 rfl) ?_
                  refine va_get (D := D) (ci := 11) (v := .ref to) (C := RX11) (T := TX11) (N := 18) hx hb hts iw11 hown hK hP 0 rfl rfl 0 (by decide) fw1 (fun _ h9 => h9) rfl dX11_kindsOf_54 ?_
                  refine lv_iload hx hb dX11_kindsOf_57 (lv_at hl 0 rfl) ?_
                  refine lv_iconst (v := 2) hx hb dX11_kindsOf_59 (by decide) ?_
                  refine lv_iadd hx hb dX11_kindsOf_60 ?_
                  rw [show (nI (46 + (5 * j92))) + 2 = nI ((46 + (5 * j92)) + 2) from nI_add (46 + (5 * j92)) 2]
                  refine va_iald hx hb hK hP 1 0 rfl rfl (vp_in_nI (by omega) (by decide)) dX11_kindsOf_61 ?_
                  rw [nI_clamp (n := ((46 + (5 * j92)) + 2)) (by omega)]
                  refine lv_aload_n hx hb dX11_kindsOf_62 rfl (lv_at hl 5 rfl) ?_
                  refine va_get (D := D) (ci := 11) (v := .ref to) (C := RX11) (T := TX11) (N := 18) hx hb hts iw11 hown hK hP 0 rfl rfl 0 (by decide) fw1 (fun _ h9 => h9) rfl dX11_kindsOf_63 ?_
                  refine lv_iload hx hb dX11_kindsOf_66 (lv_at hl 0 rfl) ?_
                  refine lv_iconst (v := 1) hx hb dX11_kindsOf_68 (by decide) ?_
                  refine lv_iadd hx hb dX11_kindsOf_69 ?_
                  rw [show (nI (46 + (5 * j92))) + 1 = nI ((46 + (5 * j92)) + 1) from nI_add (46 + (5 * j92)) 1]
                  refine va_iald hx hb hK hP 1 0 rfl rfl (vp_in_nI (by omega) (by decide)) dX11_kindsOf_70 ?_
                  rw [nI_clamp (n := ((46 + (5 * j92)) + 1)) (by omega)]
                  refine lv_aload_n hx hb dX11_kindsOf_71 rfl (lv_at hl 5 rfl) ?_
                  refine va_get (D := D) (ci := 11) (v := .ref to) (C := RX11) (T := TX11) (N := 18) hx hb hts iw11 hown hK hP 0 rfl rfl 0 (by decide) fw1 (fun _ h9 => h9) rfl dX11_kindsOf_72 ?_
                  refine lv_iload hx hb dX11_kindsOf_75 (lv_at hl 0 rfl) ?_
                  refine lv_iconst (v := 3) hx hb dX11_kindsOf_77 (by decide) ?_
                  refine lv_iadd hx hb dX11_kindsOf_78 ?_
                  rw [show (nI (46 + (5 * j92))) + 3 = nI ((46 + (5 * j92)) + 3) from nI_add (46 + (5 * j92)) 3]
                  refine va_iald hx hb hK hP 1 0 rfl rfl (vp_in_nI (by omega) (by decide)) dX11_kindsOf_79 ?_
                  rw [nI_clamp (n := ((46 + (5 * j92)) + 3)) (by omega)]
                  obtain ⟨w141, h142, h143⟩ := kz_nd hnin (j := j92) (by omega)
                  rw [h143]
                  have hs144 : kw_Split [(mo, .inr (11, [.ref to, .ref ke, .ref ik, .ref mrf, .long mab, .long mbl, .ref ha, .ref r0, .ref mbr, .ref mbp, .ref mby, .int (nI bl), .int (nI ta), .int (nI tl), .int (nI tk), .int vv, .ref an, .ref va])), (to, .inl (y 0, 228, .inl ft))] [] [(mo, .inr (11, [.ref to, .ref ke, .ref ik, .ref mrf, .long mab, .long mbl, .ref ha, .ref r0, .ref mbr, .ref mbp, .ref mby, .int (nI bl), .int (nI ta), .int (nI tl), .int (nI tk), .int vv, .ref an, .ref va])), (to, .inl (y 0, 228, .inl ft))] [] [0, 1] := ⟨rfl, rfl, rfl, rfl, rfl, by decide⟩
                  refine kw_go_i hs144 hP hD hS hA (va_runS (As := [.int (nI j91), .int (ft ((46 + (5 * j92)) + 2)), .int (ft ((46 + (5 * j92)) + 1)), .int (nI w141)]) (rest := []) ⟨hx, hb, hml, hown, hts⟩ (gb_MseenAs l D y j91 (ft ((46 + (5 * j92)) + 2)) (ft ((46 + (5 * j92)) + 1)) w141 (by omega) (by omega) _) (va_cwS 4 hts gX11_kindsOf_X11_seenAs rfl rfl rfl (by decide +kernel) ⟨Nat.le_of_ble_eq_true rfl, Nat.le_of_ble_eq_true rfl⟩) (kw_PreS hs144 hP hD hK hN) rfl rfl hl.1 rfl (lv_room (Nat.le_of_ble_eq_true rfl)) dX11_kindsOf_80 ⟨Nat.le_of_ble_eq_true rfl, Nat.le_of_ble_eq_true rfl⟩) (fun r145 u146 H locs hq hP hD hS => ?_)
                  obtain rfl := hq
                  have hP : va_P D vwCl [(mo, .inr (11, [.ref to, .ref ke, .ref ik, .ref mrf, .long mab, .long mbl, .ref ha, .ref r0, .ref mbr, .ref mbp, .ref mby, .int (nI bl), .int (nI ta), .int (nI tl), .int (nI tk), .int vv, .ref an, .ref va])), (to, .inl (y 0, 228, .inl ft))] H := hP
                  have hD : va_D A [(mo, .inr (11, [.ref to, .ref ke, .ref ik, .ref mrf, .long mab, .long mbl, .ref ha, .ref r0, .ref mbr, .ref mbp, .ref mby, .int (nI bl), .int (nI ta), .int (nI tl), .int (nI tk), .int vv, .ref an, .ref va])), (to, .inl (y 0, 228, .inl ft))] := hD
                  refine lv_aload_n hx hb dX11_kindsOf_83 rfl (lv_at hl 5 rfl) ?_
                  refine va_get (D := D) (ci := 11) (v := .ref to) (C := RX11) (T := TX11) (N := 18) hx hb hts iw11 hown hK hP 0 rfl rfl 0 (by decide) fw1 (fun _ h9 => h9) rfl dX11_kindsOf_84 ?_
                  refine lv_iload hx hb dX11_kindsOf_87 (lv_at hl 0 rfl) ?_
                  refine lv_iconst (v := 4) hx hb dX11_kindsOf_89 (by decide) ?_
                  refine lv_iadd hx hb dX11_kindsOf_90 ?_
                  rw [show (nI (46 + (5 * j92))) + 4 = nI ((46 + (5 * j92)) + 4) from nI_add (46 + (5 * j92)) 4]
                  refine va_iald hx hb hK hP 1 0 rfl rfl (vp_in_nI (by omega) (by decide)) dX11_kindsOf_91 ?_
                  rw [nI_clamp (n := ((46 + (5 * j92)) + 4)) (by omega)]
                  refine lv_icmp_ne (tgt := 99) hx hb dX11_kindsOf_92 (by decide) (fun h147 => ?_) (fun h148 => ?_)
                  · skip
                    refine lv_iconst (v := 0) hx hb dX11_kindsOf_99 (by decide) ?_
                    refine lv_istore (lv' := [(4, .int 0), (6, .int (nI (46 + (5 * j92)))), (5, .int (nI j92)), (3, .int (nI j91)), (2, .int x51), (0, .ref mo), (1, .int x)]) hx hb dX11_kindsOf_100 hl (by decide) rfl (fun ls hl => ?_)
                    refine lv_iinc (v := (nI (j92 + 1))) (lv' := [(5, .int (nI (j92 + 1))), (4, .int 0), (6, .int (nI (46 + (5 * j92)))), (3, .int (nI j91)), (2, .int x51), (0, .ref mo), (1, .int x)]) hx hb dX11_kindsOf_102 hl (k := 2) rfl (nI_1 j92) (by decide) rfl (fun ls hl => ?_)
                    refine lv_goto (tgt := 16) hx hb dX11_kindsOf_105 (by decide) ?_
                    exact ihj92 (j92 + 1) 0 H locs ls (by omega) (by omega) (by omega) (nt_i2 (fun q9 => h147 (by rw [← h143]; exact of_decide_eq_true q9 h140))) (hP.sub [0, 1] rfl) (hD.sub [0, 1] (by decide) rfl) hS (lv_sub hl [0, 1, 3, 4, 5, 6] rfl)
                  · skip
                    refine lv_iconst (v := 1) hx hb dX11_kindsOf_95 (by decide) ?_
                    refine lv_goto (tgt := 100) hx hb dX11_kindsOf_96 (by decide) ?_
                    refine lv_istore (lv' := [(4, .int 1), (6, .int (nI (46 + (5 * j92)))), (5, .int (nI j92)), (3, .int (nI j91)), (2, .int x51), (0, .ref mo), (1, .int x)]) hx hb dX11_kindsOf_100 hl (by decide) rfl (fun ls hl => ?_)
                    refine lv_iinc (v := (nI (j92 + 1))) (lv' := [(5, .int (nI (j92 + 1))), (4, .int 1), (6, .int (nI (46 + (5 * j92)))), (3, .int (nI j91)), (2, .int x51), (0, .ref mo), (1, .int x)]) hx hb dX11_kindsOf_102 hl (k := 2) rfl (nI_1 j92) (by decide) rfl (fun ls hl => ?_)
                    refine lv_goto (tgt := 16) hx hb dX11_kindsOf_105 (by decide) ?_
                    exact ihj92 (j92 + 1) 1 H locs ls (by omega) (by omega) (by omega) (nt_i1 hI0_j92 (by omega) (decide_eq_true (fun _ => by rw [h143]; exact h148))) (hP.sub [0, 1] rfl) (hD.sub [0, 1] (by decide) rfl) hS (lv_sub hl [0, 1, 3, 4, 5, 6] rfl)
        exact lp132 (no + 1) 0 1 _ _ _ (by omega) (by omega) (by omega) nt_i0 hP hD hS (lv_sub hl [0, 1, 2, 3, 4, 5] rfl)
  exact lp100 (6 + 1) 0 0 _ _ _ (by omega) (by omega) rfl hP hD hS (lv_sub hl [0, 1, 2, 3] rfl)

set_option maxHeartbeats 4000000 in
set_option maxRecDepth 100000 in
theorem gy_is_ok (l : Launch) (D : va_G) (y : Nat → ClassId) (mo : Nat) (to : Nat) (ke : Nat) (ik : Nat) (mrf : Nat) (ha : Nat) (r0 : Nat) (mbr : Nat) (mbp : Nat) (mby : Nat) (an : Nat) (va : Nat) (mab : Int64) (mbl : Int64) (bl : Nat) (ta : Nat) (tl : Nat) (tk : Nat) (vv : Int32) (frf : Nat → Int32) (ft : Nat → Int32) (fi : Nat) (gl : Nat) (mi : Nat) (no : Nat) (un : Nat) (an1 : Nat) (hk0_ : ft 0 = (nI fi)) (hk1_ : ft 1 = (nI gl)) (hk2_ : ft 2 = (nI mi)) (hk3_ : ft 3 = (nI no)) (hk4_ : ft 4 = (nI un)) (hkt : kr_t 228 ft) (hfi : fi ≤ 6) (hgl : gl ≤ 5) (hmi : mi ≤ 4) (hno : no ≤ 6) (hun : un ≤ 8) (hgf : (gl = 0 ∨ 0 < fi)) (hnin : kz_nin ft no) (hB0_ : an1 < fi) : kw_Mi l yX11_is wsX11_is ({ frames := 5, cells := 0, slots := 0, locals := 155 }) D y [.ref mo, .int (nI an1)] [(mo, .inr (11, [.ref to, .ref ke, .ref ik, .ref mrf, .long mab, .long mbl, .ref ha, .ref r0, .ref mbr, .ref mbp, .ref mby, .int (nI bl), .int (nI ta), .int (nI tl), .int (nI tk), .int vv, .ref an, .ref va])), (mrf, .inl (y 0, 3, .inl frf)), (to, .inl (y 0, 228, .inl ft))] (fun (r : Int32) (u : Unit) => (gl = 0 ∨ 0 < fi) ∧ r = (cb (fun k => nt_ok ft (nI an1) k no) 6)) (fun _ => [(mo, .inr (11, [.ref to, .ref ke, .ref ik, .ref mrf, .long mab, .long mbl, .ref ha, .ref r0, .ref mbr, .ref mbp, .ref mby, .int (nI bl), .int (nI ta), .int (nI tl), .int (nI tk), .int vv, .ref an, .ref va])), (mrf, .inl (y 0, 3, .inl frf)), (to, .inl (y 0, 228, .inl ft))]) 0 0 := by
  refine kw_Mi.of (cc := cX11_is) (maxL := 2) (ret := (some .int)) (by decide) rfl ?_
  intro pZ eZ s mZ beZ meZ cZ A hE
  obtain ⟨hx, hb, hr, hml, hts, hown, hlocks, hin, hA, hP, hD, hK, hN⟩ := hE
  have hS : va_S A s.heap s.heap [] := va_S.rf
  have hl := lv_entry ([.ref mo, .int (nI an1)]) (n := 2) (Nat.le_of_ble_eq_true rfl)
  rw [lg_entry_eq]
  generalize (lg_sl ([.ref mo, .int (nI an1)]) ++ List.replicate (2 - (lg_sl ([.ref mo, .int (nI an1)])).length) Slot.unset).toArray = ls at hl ⊢
  have hl : lv_has ls 2 [(0, .ref mo), (1, .int (nI an1))] := hl
  refine lv_aload_n hx hb dX11_is_0 rfl (lv_at hl 0 rfl) ?_
  refine lv_iload_n hx hb dX11_is_1 rfl (lv_at hl 1 rfl) ?_
  have hs1 : kw_Split [(mo, .inr (11, [.ref to, .ref ke, .ref ik, .ref mrf, .long mab, .long mbl, .ref ha, .ref r0, .ref mbr, .ref mbp, .ref mby, .int (nI bl), .int (nI ta), .int (nI tl), .int (nI tk), .int vv, .ref an, .ref va])), (mrf, .inl (y 0, 3, .inl frf)), (to, .inl (y 0, 228, .inl ft))] [(mo, .inr (11, [.ref to, .ref ke, .ref ik, .ref mrf, .long mab, .long mbl, .ref ha, .ref r0, .ref mbr, .ref mbp, .ref mby, .int (nI bl), .int (nI ta), .int (nI tl), .int (nI tk), .int vv, .ref an, .ref va])), (to, .inl (y 0, 228, .inl ft))] [(mrf, .inl (y 0, 3, .inl frf))] [0, 2] [1] := ⟨rfl, rfl, rfl, rfl, rfl, by decide⟩
  refine kw_go_i hs1 hP hD hS hA (va_runV (As := [.int (nI an1)]) (rest := []) ⟨hx, hb, hml, hown, hts⟩ (gr_isField l D y mo to ke ik mrf ha r0 mbr mbp mby an va mab mbl bl ta tl tk vv ft fi gl mi no un (nI an1) hk0_ hk1_ hk2_ hk3_ hk4_ hkt hfi hgl hmi hno hun _) (cwV 1 hts gX11_is_X11_isField rfl rfl rfl (by decide +kernel) ⟨Nat.le_of_ble_eq_true rfl, Nat.le_of_ble_eq_true rfl⟩) (kw_PreV (ci := 11) (q0 := 0) hs1 hP hD hK hN rfl rfl) rfl rfl hl.1 rfl (lv_room (Nat.le_of_ble_eq_true rfl)) dX11_is_2 ⟨Nat.le_of_ble_eq_true rfl, Nat.le_of_ble_eq_true rfl⟩) (fun r2 u3 H locs hq hP hD hS => ?_)
  rcases hq with ⟨j4, h5, h6, rfl⟩ | ⟨h7, rfl⟩
  · skip
    have h6 : an1 = j4 := (nI_eq (a := an1) (b := j4) (by omega) (by omega)).mp h6
    have hP : va_P D vwCl [(mrf, .inl (y 0, 3, .inl frf)), (mo, .inr (11, [.ref to, .ref ke, .ref ik, .ref mrf, .long mab, .long mbl, .ref ha, .ref r0, .ref mbr, .ref mbp, .ref mby, .int (nI bl), .int (nI ta), .int (nI tl), .int (nI tk), .int vv, .ref an, .ref va])), (to, .inl (y 0, 228, .inl ft))] H := hP
    have hD : va_D A [(mrf, .inl (y 0, 3, .inl frf)), (mo, .inr (11, [.ref to, .ref ke, .ref ik, .ref mrf, .long mab, .long mbl, .ref ha, .ref r0, .ref mbr, .ref mbp, .ref mby, .int (nI bl), .int (nI ta), .int (nI tl), .int (nI tk), .int vv, .ref an, .ref va])), (to, .inl (y 0, 228, .inl ft))] := hD
    refine lv_if_eq (tgt := 16) hx hb dX11_is_5 (by decide) (fun h9 => absurd h9 (by decide)) (fun _ => ?_)
    refine lv_aload_n hx hb dX11_is_8 rfl (lv_at hl 0 rfl) ?_
    refine lv_iload_n hx hb dX11_is_9 rfl (lv_at hl 1 rfl) ?_
    have hs8 : kw_Split [(mrf, .inl (y 0, 3, .inl frf)), (mo, .inr (11, [.ref to, .ref ke, .ref ik, .ref mrf, .long mab, .long mbl, .ref ha, .ref r0, .ref mbr, .ref mbp, .ref mby, .int (nI bl), .int (nI ta), .int (nI tl), .int (nI tk), .int vv, .ref an, .ref va])), (to, .inl (y 0, 228, .inl ft))] [(mo, .inr (11, [.ref to, .ref ke, .ref ik, .ref mrf, .long mab, .long mbl, .ref ha, .ref r0, .ref mbr, .ref mbp, .ref mby, .int (nI bl), .int (nI ta), .int (nI tl), .int (nI tk), .int vv, .ref an, .ref va])), (to, .inl (y 0, 228, .inl ft))] [(mrf, .inl (y 0, 3, .inl frf))] [1, 2] [0] := ⟨rfl, rfl, rfl, rfl, rfl, by decide⟩
    refine kw_go_i hs8 hP hD hS hA (va_runV (As := [.int (nI an1)]) (rest := []) ⟨hx, hb, hml, hown, hts⟩ (gb_MkindsOf l D y mo to ke ik mrf ha r0 mbr mbp mby an va mab mbl bl ta tl tk vv ft fi gl mi no un (nI an1) hk0_ hk1_ hk2_ hk3_ hk4_ hkt hfi hgl hmi hno hun hnin _) (cwV 1 hts gX11_is_X11_kindsOf rfl rfl rfl (by decide +kernel) ⟨Nat.le_of_ble_eq_true rfl, Nat.le_of_ble_eq_true rfl⟩) (kw_PreV (ci := 11) (q0 := 1) hs8 hP hD hK hN rfl rfl) rfl rfl hl.1 rfl (lv_room (Nat.le_of_ble_eq_true rfl)) dX11_is_10 ⟨Nat.le_of_ble_eq_true rfl, Nat.le_of_ble_eq_true rfl⟩) (fun r9 u10 H locs hq hP hD hS => ?_)
    obtain rfl := hq
    have hP : va_P D vwCl [(mrf, .inl (y 0, 3, .inl frf)), (mo, .inr (11, [.ref to, .ref ke, .ref ik, .ref mrf, .long mab, .long mbl, .ref ha, .ref r0, .ref mbr, .ref mbp, .ref mby, .int (nI bl), .int (nI ta), .int (nI tl), .int (nI tk), .int vv, .ref an, .ref va])), (to, .inl (y 0, 228, .inl ft))] H := hP
    have hD : va_D A [(mrf, .inl (y 0, 3, .inl frf)), (mo, .inr (11, [.ref to, .ref ke, .ref ik, .ref mrf, .long mab, .long mbl, .ref ha, .ref r0, .ref mbr, .ref mbp, .ref mby, .int (nI bl), .int (nI ta), .int (nI tl), .int (nI tk), .int vv, .ref an, .ref va])), (to, .inl (y 0, 228, .inl ft))] := hD
    refine lv_goto (tgt := 22) hx hb dX11_is_13 (by decide) ?_
    exact W.iret (v := (cb (fun k => nt_ok ft (nI an1) k no) 6)) hx hb hr (fun tZ ht hW => ⟨⟨(cb (fun k => nt_ok ft (nI an1) k no) 6), (), rfl, ⟨by first | omega | (dsimp only; omega), rfl⟩, by rw [ht]; exact hP.sub [1, 0, 2] rfl, hD.sub [1, 0, 2] (by decide) rfl⟩, hS.F ht⟩) hS.2.2 dX11_is_22
  · skip
    exact absurd ⟨an1, by omega, rfl⟩ h7

set_option maxHeartbeats 4000000 in
set_option maxRecDepth 100000 in
theorem gr_Dkeep (l : Launch) (D : va_G) (y : Nat → ClassId) (mo : Nat) (to : Nat) (ke : Nat) (ik : Nat) (mrf : Nat) (ha : Nat) (r0 : Nat) (mbr : Nat) (mbp : Nat) (mby : Nat) (an : Nat) (va : Nat) (mab : Int64) (mbl : Int64) (bl : Nat) (ta : Nat) (tl : Nat) (tk : Nat) (vv : Int32) (ft : Nat → Int32) (fi : Nat) (gl : Nat) (mi : Nat) (no : Nat) (un : Nat) (hk0_ : ft 0 = (nI fi)) (hk1_ : ft 1 = (nI gl)) (hk2_ : ft 2 = (nI mi)) (hk3_ : ft 3 = (nI no)) (hk4_ : ft 4 = (nI un)) (hkt : kr_t 228 ft) (hfi : fi ≤ 6) (hgl : gl ≤ 5) (hmi : mi ≤ 4) (hno : no ≤ 6) (hun : un ≤ 8) : kw_Mv l yX11_keep wsX11_keep ({ frames := 1, cells := 0, slots := 0, locals := 60 }) D y [.ref mo] [(mo, .inr (11, [.ref to, .ref ke, .ref ik, .ref mrf, .long mab, .long mbl, .ref ha, .ref r0, .ref mbr, .ref mbp, .ref mby, .int (nI bl), .int (nI ta), .int (nI tl), .int (nI tk), .int vv, .ref an, .ref va])), (to, .inl (y 0, 228, .inl ft))] (fun (u : (Nat → Int32) × Nat) => kr_t 228 u.1 ∧ u.1 0 = (nI fi) ∧ u.1 1 = (nI gl) ∧ u.1 2 = (nI mi) ∧ u.1 3 = (nI no) ∧ u.2 ≤ 8 ∧ u.1 4 = (nI u.2) ∧ kz_k2 ft u.1) (fun u => [(mo, .inr (11, [.ref to, .ref ke, .ref ik, .ref mrf, .long mab, .long mbl, .ref ha, .ref r0, .ref mbr, .ref mbp, .ref mby, .int (nI bl), .int (nI ta), .int (nI tl), .int (nI tk), .int vv, .ref an, .ref va])), (to, .inl (y 0, 228, .inl u.1))]) 0 0 := by
  refine kw_Mv.of (cc := cX11_keep) (maxL := 2) (ret := none) (by decide) rfl ?_
  intro pZ eZ s mZ beZ meZ cZ A hE
  obtain ⟨hx, hb, hr, hml, hts, hown, hlocks, hin, hA, hP, hD, hK, hN⟩ := hE
  have hS : va_S A s.heap s.heap [] := va_S.rf
  have hl := lv_entry ([.ref mo]) (n := 2) (Nat.le_of_ble_eq_true rfl)
  rw [lg_entry_eq]
  generalize (lg_sl ([.ref mo]) ++ List.replicate (2 - (lg_sl ([.ref mo])).length) Slot.unset).toArray = ls at hl ⊢
  have hl : lv_has ls 2 [(0, .ref mo)] := hl
  have fw1 := hts (.fieldLink RX11 7 "GleanDuskModel" "told" "[I") (List.mem_of_getElem? (i := 1) rfl)
  have iw11 : ∀ w ∈ wsX110, w ∈ wsX11_keep := fun _ h => List.mem_cons_of_mem _ (List.mem_append_right _ h)
  refine lv_aload_n hx hb dX11_keep_0 rfl (lv_at hl 0 rfl) ?_
  refine va_get (D := D) (ci := 11) (v := .ref to) (C := RX11) (T := TX11) (N := 18) hx hb hts iw11 hown hK hP 0 rfl rfl 0 (by decide) fw1 (fun _ h9 => h9) rfl dX11_keep_1 ?_
  refine lv_iconst (v := 4) hx hb dX11_keep_4 (by decide) ?_
  refine va_iald hx hb hK hP 1 0 rfl rfl (by unfold vp_in; decide) dX11_keep_5 ?_
  rw [show ((4 : Int32)).toNatClampNeg = 4 from rfl]
  rw [show (ft 4) = (nI un) from hk4_]
  refine lv_bipush (v := 8) hx hb dX11_keep_6 (by decide) ?_
  refine lv_icmp_ne (tgt := 52) hx hb dX11_keep_8 (by decide) (fun h1 => ?_) (fun h2 => ?_)
  · skip
    have h1 : ¬ un = 8 := fun q9 => h1 ((nI_eq (a := un) (b := 8) (by omega) (by omega)).mpr q9)
    refine lv_iconst (v := 0) hx hb dX11_keep_52 (by decide) ?_
    refine lv_istore_n (lv' := [(1, .int 0), (0, .ref mo)]) hx hb dX11_keep_53 rfl hl (by decide) rfl (fun ls hl => ?_)
    have lp32 : ∀ (fuj91 j91 : Nat) (x17 : Nat → Int32) (H : Heap) (locs : List Loc) (ls : Array Slot), j91 ≤ 19 → 19 - j91 < fuj91 → kr_t 228 x17 → x17 0 = (nI fi) → x17 1 = (nI gl) → x17 2 = (nI mi) → x17 3 = (nI no) → x17 4 = (nI un) → kz_k2 ft x17 → va_P D vwCl [(mo, .inr (11, [.ref to, .ref ke, .ref ik, .ref mrf, .long mab, .long mbl, .ref ha, .ref r0, .ref mbr, .ref mbp, .ref mby, .int (nI bl), .int (nI ta), .int (nI tl), .int (nI tk), .int vv, .ref an, .ref va])), (to, .inl (y 0, 228, .inl x17))] H → va_D A [(mo, .inr (11, [.ref to, .ref ke, .ref ik, .ref mrf, .long mab, .long mbl, .ref ha, .ref r0, .ref mbr, .ref mbp, .ref mby, .int (nI bl), .int (nI ta), .int (nI tl), .int (nI tk), .int vv, .ref an, .ref va])), (to, .inl (y 0, 228, .inl x17))] → va_S A s.heap H locs → lv_has ls 2 [(1, .int (nI j91)), (0, .ref mo)] → W pZ l eZ ({ frames := 1, cells := 0, slots := 0, locals := 60 }) s mZ [.ref mo].toArray beZ meZ cZ H locs 0 0 (MQ beZ (va_Qv (fun (u : (Nat → Int32) × Nat) => kr_t 228 u.1 ∧ u.1 0 = (nI fi) ∧ u.1 1 = (nI gl) ∧ u.1 2 = (nI mi) ∧ u.1 3 = (nI no) ∧ u.2 ≤ 8 ∧ u.1 4 = (nI u.2) ∧ kz_k2 ft u.1) (kw_B D (fun u => [(mo, .inr (11, [.ref to, .ref ke, .ref ik, .ref mrf, .long mab, .long mbl, .ref ha, .ref r0, .ref mbr, .ref mbp, .ref mby, .int (nI bl), .int (nI ta), .int (nI tl), .int (nI tk), .int vv, .ref an, .ref va])), (to, .inl (y 0, 228, .inl u.1))]) A) A) [.ref mo].toArray s 0 0 A) (F0 mZ 54 ls []) := by
      intro fuj91
      induction fuj91 with
      | zero => intro j91 x17 H locs ls hj9 hf9; exact absurd hf9 (Nat.not_lt_zero _)
      | succ fuj91 ihj91 =>
        intro j91 x17 H locs ls hj91 hfj91 hr_x17 hk_x17_0 hk_x17_1 hk_x17_2 hk_x17_3 hk_x17_4 hI0_j91 hP hD hS hl
        refine lv_iload_n hx hb dX11_keep_54 rfl (lv_at hl 0 rfl) ?_
        refine lv_bipush (v := 19) hx hb dX11_keep_55 (by decide) ?_
        refine lv_icmp_ge (tgt := 93) hx hb dX11_keep_57 (by decide) (fun h33 => ?_) (fun h34 => ?_)
        · skip
          have h33 : 19 ≤ j91 := (nI_leI (a := 19) (b := j91) (by omega) (by omega)).mp h33
          refine lv_aload_n hx hb dX11_keep_93 rfl (lv_at hl 1 rfl) ?_
          refine va_get (D := D) (ci := 11) (v := .ref to) (C := RX11) (T := TX11) (N := 18) hx hb hts iw11 hown hK hP 0 rfl rfl 0 (by decide) fw1 (fun _ h9 => h9) rfl dX11_keep_94 ?_
          refine lv_iconst (v := 4) hx hb dX11_keep_97 (by decide) ?_
          refine lv_dup2_11 hx hb dX11_keep_98 rfl rfl ?_
          refine va_iald hx hb hK hP 1 0 rfl rfl (by unfold vp_in; decide) dX11_keep_99 ?_
          rw [show ((4 : Int32)).toNatClampNeg = 4 from rfl]
          rw [show (x17 4) = (nI un) from hk_x17_4]
          refine lv_iconst (v := 1) hx hb dX11_keep_100 (by decide) ?_
          refine lv_iadd hx hb dX11_keep_101 ?_
          rw [show (nI un) + 1 = nI (un + 1) from nI_add un 1]
          refine va_iast hx hb hK hP hD hS 1 0 rfl rfl (by unfold vp_in; decide) dX11_keep_102 (fun H locs hP hD hS => ?_)
          rw [show ((4 : Int32)).toNatClampNeg = 4 from rfl] at hP hD
          have hr35 : kr_t 228 (upd x17 4 (nI (un + 1))) := kr_up hr_x17 (kr_free (by unfold kr_a; omega) (by unfold kr_s; omega))
          have hk36 : (upd x17 4 (nI (un + 1))) 0 = (nI fi) := (pk_un (by decide)).trans hk_x17_0
          have hk37 : (upd x17 4 (nI (un + 1))) 1 = (nI gl) := (pk_un (by decide)).trans hk_x17_1
          have hk38 : (upd x17 4 (nI (un + 1))) 2 = (nI mi) := (pk_un (by decide)).trans hk_x17_2
          have hk39 : (upd x17 4 (nI (un + 1))) 3 = (nI no) := (pk_un (by decide)).trans hk_x17_3
          have hk40 : (upd x17 4 (nI (un + 1))) 4 = (nI (un + 1)) := pk_us
          have hP : va_P D vwCl [(mo, .inr (11, [.ref to, .ref ke, .ref ik, .ref mrf, .long mab, .long mbl, .ref ha, .ref r0, .ref mbr, .ref mbp, .ref mby, .int (nI bl), .int (nI ta), .int (nI tl), .int (nI tk), .int vv, .ref an, .ref va])), (to, .inl (y 0, 228, .inl (upd x17 4 (nI (un + 1)))))] H := hP
          have hD : va_D A [(mo, .inr (11, [.ref to, .ref ke, .ref ik, .ref mrf, .long mab, .long mbl, .ref ha, .ref r0, .ref mbr, .ref mbp, .ref mby, .int (nI bl), .int (nI ta), .int (nI tl), .int (nI tk), .int vv, .ref an, .ref va])), (to, .inl (y 0, 228, .inl (upd x17 4 (nI (un + 1)))))] := hD
          exact W.vret hx hb hr (fun tZ ht hW => ⟨⟨((upd x17 4 (nI (un + 1))), un + 1), rfl, ⟨hr35, hk36, hk37, hk38, hk39, by first | omega | (dsimp only; omega), hk40, kz_k2_u (hI0_j91) (by first | omega | (dsimp only; omega))⟩, by rw [ht]; exact hP.sub [0, 1] rfl, hD.sub [0, 1] (by decide) rfl⟩, hS.F ht⟩) hS.2.2 dX11_keep_103
        · skip
          have h34 : ¬ 19 ≤ j91 := fun q9 => h34 ((nI_leI (a := 19) (b := j91) (by omega) (by omega)).mpr q9)
          refine lv_aload_n hx hb dX11_keep_60 rfl (lv_at hl 1 rfl) ?_
          refine va_get (D := D) (ci := 11) (v := .ref to) (C := RX11) (T := TX11) (N := 18) hx hb hts iw11 hown hK hP 0 rfl rfl 0 (by decide) fw1 (fun _ h9 => h9) rfl dX11_keep_61 ?_
          refine lv_bipush (v := 76) hx hb dX11_keep_64 (by decide) ?_
          refine lv_bipush (v := 19) hx hb dX11_keep_66 (by decide) ?_
          refine lv_aload_n hx hb dX11_keep_68 rfl (lv_at hl 1 rfl) ?_
          refine va_get (D := D) (ci := 11) (v := .ref to) (C := RX11) (T := TX11) (N := 18) hx hb hts iw11 hown hK hP 0 rfl rfl 0 (by decide) fw1 (fun _ h9 => h9) rfl dX11_keep_69 ?_
          refine lv_iconst (v := 4) hx hb dX11_keep_72 (by decide) ?_
          refine va_iald hx hb hK hP 1 0 rfl rfl (by unfold vp_in; decide) dX11_keep_73 ?_
          rw [show ((4 : Int32)).toNatClampNeg = 4 from rfl]
          rw [show (x17 4) = (nI un) from hk_x17_4]
          refine lv_imul hx hb dX11_keep_74 ?_
          rw [show 19 * (nI un) = nI (19 * un) from pk_mul 19 un]
          refine lv_iadd hx hb dX11_keep_75 ?_
          rw [show 76 + (nI (19 * un)) = nI (76 + (19 * un)) from nI_add 76 (19 * un)]
          refine lv_iload_n hx hb dX11_keep_76 rfl (lv_at hl 0 rfl) ?_
          refine lv_iadd hx hb dX11_keep_77 ?_
          rw [show (nI (76 + (19 * un))) + (nI j91) = nI ((76 + (19 * un)) + j91) from nI_add (76 + (19 * un)) j91]
          refine lv_aload_n hx hb dX11_keep_78 rfl (lv_at hl 1 rfl) ?_
          refine va_get (D := D) (ci := 11) (v := .ref to) (C := RX11) (T := TX11) (N := 18) hx hb hts iw11 hown hK hP 0 rfl rfl 0 (by decide) fw1 (fun _ h9 => h9) rfl dX11_keep_79 ?_
          refine lv_iconst (v := 5) hx hb dX11_keep_82 (by decide) ?_
          refine lv_iload_n hx hb dX11_keep_83 rfl (lv_at hl 0 rfl) ?_
          refine lv_iadd hx hb dX11_keep_84 ?_
          rw [show 5 + (nI j91) = nI (j91 + 5) from (nI_add 5 j91).trans (congrArg nI (by omega))]
          refine va_iald hx hb hK hP 1 0 rfl rfl (vp_in_nI (by omega) (by decide)) dX11_keep_85 ?_
          rw [nI_clamp (n := (j91 + 5)) (by omega)]
          refine va_iast hx hb hK hP hD hS 1 0 rfl rfl (vp_in_nI (by omega) (by decide)) dX11_keep_86 (fun H locs hP hD hS => ?_)
          rw [nI_clamp (n := ((76 + (19 * un)) + j91)) (by omega)] at hP hD
          have hr41 : kr_t 228 (upd x17 ((76 + (19 * un)) + j91) (x17 (j91 + 5))) := kr_up hr_x17 (kr_move (p := (j91 + 5)) (hr_x17 (j91 + 5) (by omega)) (by unfold kr_a; omega) (by unfold kr_s; omega))
          have hk42 : (upd x17 ((76 + (19 * un)) + j91) (x17 (j91 + 5))) 0 = (nI fi) := (pk_un (by omega)).trans hk_x17_0
          have hk43 : (upd x17 ((76 + (19 * un)) + j91) (x17 (j91 + 5))) 1 = (nI gl) := (pk_un (by omega)).trans hk_x17_1
          have hk44 : (upd x17 ((76 + (19 * un)) + j91) (x17 (j91 + 5))) 2 = (nI mi) := (pk_un (by omega)).trans hk_x17_2
          have hk45 : (upd x17 ((76 + (19 * un)) + j91) (x17 (j91 + 5))) 3 = (nI no) := (pk_un (by omega)).trans hk_x17_3
          have hk46 : (upd x17 ((76 + (19 * un)) + j91) (x17 (j91 + 5))) 4 = (nI un) := (pk_un (by omega)).trans hk_x17_4
          have hP : va_P D vwCl [(mo, .inr (11, [.ref to, .ref ke, .ref ik, .ref mrf, .long mab, .long mbl, .ref ha, .ref r0, .ref mbr, .ref mbp, .ref mby, .int (nI bl), .int (nI ta), .int (nI tl), .int (nI tk), .int vv, .ref an, .ref va])), (to, .inl (y 0, 228, .inl (upd x17 ((76 + (19 * un)) + j91) (x17 (j91 + 5)))))] H := hP
          have hD : va_D A [(mo, .inr (11, [.ref to, .ref ke, .ref ik, .ref mrf, .long mab, .long mbl, .ref ha, .ref r0, .ref mbr, .ref mbp, .ref mby, .int (nI bl), .int (nI ta), .int (nI tl), .int (nI tk), .int vv, .ref an, .ref va])), (to, .inl (y 0, 228, .inl (upd x17 ((76 + (19 * un)) + j91) (x17 (j91 + 5)))))] := hD
          refine lv_iinc (v := (nI (j91 + 1))) (lv' := [(1, .int (nI (j91 + 1))), (0, .ref mo)]) hx hb dX11_keep_87 hl (k := 0) rfl (nI_1 j91) (by decide) rfl (fun ls hl => ?_)
          refine lv_goto (tgt := 54) hx hb dX11_keep_90 (by decide) ?_
          exact ihj91 (j91 + 1) (upd x17 ((76 + (19 * un)) + j91) (x17 (j91 + 5))) H locs ls (by omega) (by omega) hr41 hk42 hk43 hk44 hk45 hk46 (kz_k2_u (hI0_j91) (by omega)) (hP.sub [0, 1] rfl) (hD.sub [0, 1] (by decide) rfl) hS (lv_sub hl [0, 1] rfl)
    exact lp32 (19 + 1) 0 ft _ _ _ (by omega) (by omega) hkt hk0_ hk1_ hk2_ hk3_ hk4_ kz_k2_0 hP hD hS (lv_sub hl [0, 1] rfl)
  · skip
    have h2 : un = 8 := (nI_eq (a := un) (b := 8) (by omega) (by omega)).mp h2
    refine lv_iconst (v := 0) hx hb dX11_keep_11 (by decide) ?_
    refine lv_istore_n (lv' := [(1, .int 0), (0, .ref mo)]) hx hb dX11_keep_12 rfl hl (by decide) rfl (fun ls hl => ?_)
    have lp182 : ∀ (fuj91 j91 : Nat) (x114 : Nat → Int32) (H : Heap) (locs : List Loc) (ls : Array Slot), j91 ≤ 133 → 133 - j91 < fuj91 → kr_t 228 x114 → x114 0 = (nI fi) → x114 1 = (nI gl) → x114 2 = (nI mi) → x114 3 = (nI no) → x114 4 = (nI un) → kz_k2 ft x114 → va_P D vwCl [(mo, .inr (11, [.ref to, .ref ke, .ref ik, .ref mrf, .long mab, .long mbl, .ref ha, .ref r0, .ref mbr, .ref mbp, .ref mby, .int (nI bl), .int (nI ta), .int (nI tl), .int (nI tk), .int vv, .ref an, .ref va])), (to, .inl (y 0, 228, .inl x114))] H → va_D A [(mo, .inr (11, [.ref to, .ref ke, .ref ik, .ref mrf, .long mab, .long mbl, .ref ha, .ref r0, .ref mbr, .ref mbp, .ref mby, .int (nI bl), .int (nI ta), .int (nI tl), .int (nI tk), .int vv, .ref an, .ref va])), (to, .inl (y 0, 228, .inl x114))] → va_S A s.heap H locs → lv_has ls 2 [(1, .int (nI j91)), (0, .ref mo)] → W pZ l eZ ({ frames := 1, cells := 0, slots := 0, locals := 60 }) s mZ [.ref mo].toArray beZ meZ cZ H locs 0 0 (MQ beZ (va_Qv (fun (u : (Nat → Int32) × Nat) => kr_t 228 u.1 ∧ u.1 0 = (nI fi) ∧ u.1 1 = (nI gl) ∧ u.1 2 = (nI mi) ∧ u.1 3 = (nI no) ∧ u.2 ≤ 8 ∧ u.1 4 = (nI u.2) ∧ kz_k2 ft u.1) (kw_B D (fun u => [(mo, .inr (11, [.ref to, .ref ke, .ref ik, .ref mrf, .long mab, .long mbl, .ref ha, .ref r0, .ref mbr, .ref mbp, .ref mby, .int (nI bl), .int (nI ta), .int (nI tl), .int (nI tk), .int vv, .ref an, .ref va])), (to, .inl (y 0, 228, .inl u.1))]) A) A) [.ref mo].toArray s 0 0 A) (F0 mZ 13 ls []) := by
      intro fuj91
      induction fuj91 with
      | zero => intro j91 x114 H locs ls hj9 hf9; exact absurd hf9 (Nat.not_lt_zero _)
      | succ fuj91 ihj91 =>
        intro j91 x114 H locs ls hj91 hfj91 hr_x114 hk_x114_0 hk_x114_1 hk_x114_2 hk_x114_3 hk_x114_4 hI0_j91 hP hD hS hl
        refine lv_iload_n hx hb dX11_keep_13 rfl (lv_at hl 0 rfl) ?_
        refine lv_sipush (v := 133) hx hb dX11_keep_14 (by decide) ?_
        refine lv_icmp_ge (tgt := 44) hx hb dX11_keep_17 (by decide) (fun h183 => ?_) (fun h184 => ?_)
        · skip
          have h183 : 133 ≤ j91 := (nI_leI (a := 133) (b := j91) (by omega) (by omega)).mp h183
          refine lv_aload_n hx hb dX11_keep_44 rfl (lv_at hl 1 rfl) ?_
          refine va_get (D := D) (ci := 11) (v := .ref to) (C := RX11) (T := TX11) (N := 18) hx hb hts iw11 hown hK hP 0 rfl rfl 0 (by decide) fw1 (fun _ h9 => h9) rfl dX11_keep_45 ?_
          refine lv_iconst (v := 4) hx hb dX11_keep_48 (by decide) ?_
          refine lv_bipush (v := 7) hx hb dX11_keep_49 (by decide) ?_
          refine va_iast hx hb hK hP hD hS 1 0 rfl rfl (by unfold vp_in; decide) dX11_keep_51 (fun H locs hP hD hS => ?_)
          rw [show ((4 : Int32)).toNatClampNeg = 4 from rfl] at hP hD
          have hr185 : kr_t 228 (upd x114 4 7) := kr_up hr_x114 (kr_free (by unfold kr_a; omega) (by unfold kr_s; omega))
          have hk186 : (upd x114 4 7) 0 = (nI fi) := (pk_un (by decide)).trans hk_x114_0
          have hk187 : (upd x114 4 7) 1 = (nI gl) := (pk_un (by decide)).trans hk_x114_1
          have hk188 : (upd x114 4 7) 2 = (nI mi) := (pk_un (by decide)).trans hk_x114_2
          have hk189 : (upd x114 4 7) 3 = (nI no) := (pk_un (by decide)).trans hk_x114_3
          have hk190 : (upd x114 4 7) 4 = 7 := pk_us
          have hP : va_P D vwCl [(mo, .inr (11, [.ref to, .ref ke, .ref ik, .ref mrf, .long mab, .long mbl, .ref ha, .ref r0, .ref mbr, .ref mbp, .ref mby, .int (nI bl), .int (nI ta), .int (nI tl), .int (nI tk), .int vv, .ref an, .ref va])), (to, .inl (y 0, 228, .inl (upd x114 4 7)))] H := hP
          have hD : va_D A [(mo, .inr (11, [.ref to, .ref ke, .ref ik, .ref mrf, .long mab, .long mbl, .ref ha, .ref r0, .ref mbr, .ref mbp, .ref mby, .int (nI bl), .int (nI ta), .int (nI tl), .int (nI tk), .int vv, .ref an, .ref va])), (to, .inl (y 0, 228, .inl (upd x114 4 7)))] := hD
          refine lv_iconst (v := 0) hx hb dX11_keep_52 (by decide) ?_
          refine lv_istore_n (lv' := [(1, .int 0), (0, .ref mo)]) hx hb dX11_keep_53 rfl hl (by decide) rfl (fun ls hl => ?_)
          have lp226 : ∀ (fuj92 j92 : Nat) (x208 : Nat → Int32) (H : Heap) (locs : List Loc) (ls : Array Slot), j92 ≤ 19 → 19 - j92 < fuj92 → kr_t 228 x208 → x208 0 = (nI fi) → x208 1 = (nI gl) → x208 2 = (nI mi) → x208 3 = (nI no) → x208 4 = 7 → kz_k2 ft x208 → va_P D vwCl [(mo, .inr (11, [.ref to, .ref ke, .ref ik, .ref mrf, .long mab, .long mbl, .ref ha, .ref r0, .ref mbr, .ref mbp, .ref mby, .int (nI bl), .int (nI ta), .int (nI tl), .int (nI tk), .int vv, .ref an, .ref va])), (to, .inl (y 0, 228, .inl x208))] H → va_D A [(mo, .inr (11, [.ref to, .ref ke, .ref ik, .ref mrf, .long mab, .long mbl, .ref ha, .ref r0, .ref mbr, .ref mbp, .ref mby, .int (nI bl), .int (nI ta), .int (nI tl), .int (nI tk), .int vv, .ref an, .ref va])), (to, .inl (y 0, 228, .inl x208))] → va_S A s.heap H locs → lv_has ls 2 [(1, .int (nI j92)), (0, .ref mo)] → W pZ l eZ ({ frames := 1, cells := 0, slots := 0, locals := 60 }) s mZ [.ref mo].toArray beZ meZ cZ H locs 0 0 (MQ beZ (va_Qv (fun (u : (Nat → Int32) × Nat) => kr_t 228 u.1 ∧ u.1 0 = (nI fi) ∧ u.1 1 = (nI gl) ∧ u.1 2 = (nI mi) ∧ u.1 3 = (nI no) ∧ u.2 ≤ 8 ∧ u.1 4 = (nI u.2) ∧ kz_k2 ft u.1) (kw_B D (fun u => [(mo, .inr (11, [.ref to, .ref ke, .ref ik, .ref mrf, .long mab, .long mbl, .ref ha, .ref r0, .ref mbr, .ref mbp, .ref mby, .int (nI bl), .int (nI ta), .int (nI tl), .int (nI tk), .int vv, .ref an, .ref va])), (to, .inl (y 0, 228, .inl u.1))]) A) A) [.ref mo].toArray s 0 0 A) (F0 mZ 54 ls []) := by
            intro fuj92
            induction fuj92 with
            | zero => intro j92 x208 H locs ls hj9 hf9; exact absurd hf9 (Nat.not_lt_zero _)
            | succ fuj92 ihj92 =>
              intro j92 x208 H locs ls hj92 hfj92 hr_x208 hk_x208_0 hk_x208_1 hk_x208_2 hk_x208_3 hk_x208_4 hI0_j92 hP hD hS hl
              refine lv_iload_n hx hb dX11_keep_54 rfl (lv_at hl 0 rfl) ?_
              refine lv_bipush (v := 19) hx hb dX11_keep_55 (by decide) ?_
              refine lv_icmp_ge (tgt := 93) hx hb dX11_keep_57 (by decide) (fun h227 => ?_) (fun h228 => ?_)
              · skip
                have h227 : 19 ≤ j92 := (nI_leI (a := 19) (b := j92) (by omega) (by omega)).mp h227
                refine lv_aload_n hx hb dX11_keep_93 rfl (lv_at hl 1 rfl) ?_
                refine va_get (D := D) (ci := 11) (v := .ref to) (C := RX11) (T := TX11) (N := 18) hx hb hts iw11 hown hK hP 0 rfl rfl 0 (by decide) fw1 (fun _ h9 => h9) rfl dX11_keep_94 ?_
                refine lv_iconst (v := 4) hx hb dX11_keep_97 (by decide) ?_
                refine lv_dup2_11 hx hb dX11_keep_98 rfl rfl ?_
                refine va_iald hx hb hK hP 1 0 rfl rfl (by unfold vp_in; decide) dX11_keep_99 ?_
                rw [show ((4 : Int32)).toNatClampNeg = 4 from rfl]
                rw [show (x208 4) = 7 from hk_x208_4]
                refine lv_iconst (v := 1) hx hb dX11_keep_100 (by decide) ?_
                refine lv_iadd hx hb dX11_keep_101 ?_
                refine lv_topi (fun z229 hz229 => ?_)
                obtain rfl : z229 = 8 := hz229.trans (by decide)
                refine va_iast hx hb hK hP hD hS 1 0 rfl rfl (by unfold vp_in; decide) dX11_keep_102 (fun H locs hP hD hS => ?_)
                rw [show ((4 : Int32)).toNatClampNeg = 4 from rfl] at hP hD
                have hr230 : kr_t 228 (upd x208 4 8) := kr_up hr_x208 (kr_free (by unfold kr_a; omega) (by unfold kr_s; omega))
                have hk231 : (upd x208 4 8) 0 = (nI fi) := (pk_un (by decide)).trans hk_x208_0
                have hk232 : (upd x208 4 8) 1 = (nI gl) := (pk_un (by decide)).trans hk_x208_1
                have hk233 : (upd x208 4 8) 2 = (nI mi) := (pk_un (by decide)).trans hk_x208_2
                have hk234 : (upd x208 4 8) 3 = (nI no) := (pk_un (by decide)).trans hk_x208_3
                have hk235 : (upd x208 4 8) 4 = 8 := pk_us
                have hP : va_P D vwCl [(mo, .inr (11, [.ref to, .ref ke, .ref ik, .ref mrf, .long mab, .long mbl, .ref ha, .ref r0, .ref mbr, .ref mbp, .ref mby, .int (nI bl), .int (nI ta), .int (nI tl), .int (nI tk), .int vv, .ref an, .ref va])), (to, .inl (y 0, 228, .inl (upd x208 4 8)))] H := hP
                have hD : va_D A [(mo, .inr (11, [.ref to, .ref ke, .ref ik, .ref mrf, .long mab, .long mbl, .ref ha, .ref r0, .ref mbr, .ref mbp, .ref mby, .int (nI bl), .int (nI ta), .int (nI tl), .int (nI tk), .int vv, .ref an, .ref va])), (to, .inl (y 0, 228, .inl (upd x208 4 8)))] := hD
                exact W.vret hx hb hr (fun tZ ht hW => ⟨⟨((upd x208 4 8), 8), rfl, ⟨hr230, hk231, hk232, hk233, hk234, by first | omega | (dsimp only; omega), hk235, kz_k2_u (hI0_j92) (by first | omega | (dsimp only; omega))⟩, by rw [ht]; exact hP.sub [0, 1] rfl, hD.sub [0, 1] (by decide) rfl⟩, hS.F ht⟩) hS.2.2 dX11_keep_103
              · skip
                have h228 : ¬ 19 ≤ j92 := fun q9 => h228 ((nI_leI (a := 19) (b := j92) (by omega) (by omega)).mpr q9)
                refine lv_aload_n hx hb dX11_keep_60 rfl (lv_at hl 1 rfl) ?_
                refine va_get (D := D) (ci := 11) (v := .ref to) (C := RX11) (T := TX11) (N := 18) hx hb hts iw11 hown hK hP 0 rfl rfl 0 (by decide) fw1 (fun _ h9 => h9) rfl dX11_keep_61 ?_
                refine lv_bipush (v := 76) hx hb dX11_keep_64 (by decide) ?_
                refine lv_bipush (v := 19) hx hb dX11_keep_66 (by decide) ?_
                refine lv_aload_n hx hb dX11_keep_68 rfl (lv_at hl 1 rfl) ?_
                refine va_get (D := D) (ci := 11) (v := .ref to) (C := RX11) (T := TX11) (N := 18) hx hb hts iw11 hown hK hP 0 rfl rfl 0 (by decide) fw1 (fun _ h9 => h9) rfl dX11_keep_69 ?_
                refine lv_iconst (v := 4) hx hb dX11_keep_72 (by decide) ?_
                refine va_iald hx hb hK hP 1 0 rfl rfl (by unfold vp_in; decide) dX11_keep_73 ?_
                rw [show ((4 : Int32)).toNatClampNeg = 4 from rfl]
                rw [show (x208 4) = 7 from hk_x208_4]
                refine lv_imul hx hb dX11_keep_74 ?_
                refine lv_topi (fun z236 hz236 => ?_)
                obtain rfl : z236 = 133 := hz236.trans (by decide)
                refine lv_iadd hx hb dX11_keep_75 ?_
                refine lv_topi (fun z237 hz237 => ?_)
                obtain rfl : z237 = 209 := hz237.trans (by decide)
                refine lv_iload_n hx hb dX11_keep_76 rfl (lv_at hl 0 rfl) ?_
                refine lv_iadd hx hb dX11_keep_77 ?_
                rw [show 209 + (nI j92) = nI (j92 + 209) from (nI_add 209 j92).trans (congrArg nI (by omega))]
                refine lv_aload_n hx hb dX11_keep_78 rfl (lv_at hl 1 rfl) ?_
                refine va_get (D := D) (ci := 11) (v := .ref to) (C := RX11) (T := TX11) (N := 18) hx hb hts iw11 hown hK hP 0 rfl rfl 0 (by decide) fw1 (fun _ h9 => h9) rfl dX11_keep_79 ?_
                refine lv_iconst (v := 5) hx hb dX11_keep_82 (by decide) ?_
                refine lv_iload_n hx hb dX11_keep_83 rfl (lv_at hl 0 rfl) ?_
                refine lv_iadd hx hb dX11_keep_84 ?_
                rw [show 5 + (nI j92) = nI (j92 + 5) from (nI_add 5 j92).trans (congrArg nI (by omega))]
                refine va_iald hx hb hK hP 1 0 rfl rfl (vp_in_nI (by omega) (by decide)) dX11_keep_85 ?_
                rw [nI_clamp (n := (j92 + 5)) (by omega)]
                refine va_iast hx hb hK hP hD hS 1 0 rfl rfl (vp_in_nI (by omega) (by decide)) dX11_keep_86 (fun H locs hP hD hS => ?_)
                rw [nI_clamp (n := (j92 + 209)) (by omega)] at hP hD
                have hr238 : kr_t 228 (upd x208 (j92 + 209) (x208 (j92 + 5))) := kr_up hr_x208 (kr_move (p := (j92 + 5)) (hr_x208 (j92 + 5) (by omega)) (by unfold kr_a; omega) (by unfold kr_s; omega))
                have hk239 : (upd x208 (j92 + 209) (x208 (j92 + 5))) 0 = (nI fi) := (pk_un (by omega)).trans hk_x208_0
                have hk240 : (upd x208 (j92 + 209) (x208 (j92 + 5))) 1 = (nI gl) := (pk_un (by omega)).trans hk_x208_1
                have hk241 : (upd x208 (j92 + 209) (x208 (j92 + 5))) 2 = (nI mi) := (pk_un (by omega)).trans hk_x208_2
                have hk242 : (upd x208 (j92 + 209) (x208 (j92 + 5))) 3 = (nI no) := (pk_un (by omega)).trans hk_x208_3
                have hk243 : (upd x208 (j92 + 209) (x208 (j92 + 5))) 4 = 7 := (pk_un (by omega)).trans hk_x208_4
                have hP : va_P D vwCl [(mo, .inr (11, [.ref to, .ref ke, .ref ik, .ref mrf, .long mab, .long mbl, .ref ha, .ref r0, .ref mbr, .ref mbp, .ref mby, .int (nI bl), .int (nI ta), .int (nI tl), .int (nI tk), .int vv, .ref an, .ref va])), (to, .inl (y 0, 228, .inl (upd x208 (j92 + 209) (x208 (j92 + 5)))))] H := hP
                have hD : va_D A [(mo, .inr (11, [.ref to, .ref ke, .ref ik, .ref mrf, .long mab, .long mbl, .ref ha, .ref r0, .ref mbr, .ref mbp, .ref mby, .int (nI bl), .int (nI ta), .int (nI tl), .int (nI tk), .int vv, .ref an, .ref va])), (to, .inl (y 0, 228, .inl (upd x208 (j92 + 209) (x208 (j92 + 5)))))] := hD
                refine lv_iinc (v := (nI (j92 + 1))) (lv' := [(1, .int (nI (j92 + 1))), (0, .ref mo)]) hx hb dX11_keep_87 hl (k := 0) rfl (nI_1 j92) (by decide) rfl (fun ls hl => ?_)
                refine lv_goto (tgt := 54) hx hb dX11_keep_90 (by decide) ?_
                exact ihj92 (j92 + 1) (upd x208 (j92 + 209) (x208 (j92 + 5))) H locs ls (by omega) (by omega) hr238 hk239 hk240 hk241 hk242 hk243 (kz_k2_u (hI0_j92) (by omega)) (hP.sub [0, 1] rfl) (hD.sub [0, 1] (by decide) rfl) hS (lv_sub hl [0, 1] rfl)
          exact lp226 (19 + 1) 0 (upd x114 4 7) _ _ _ (by omega) (by omega) hr185 hk186 hk187 hk188 hk189 hk190 (kz_k2_u (hI0_j91) (by omega)) hP hD hS (lv_sub hl [0, 1] rfl)
        · skip
          have h184 : ¬ 133 ≤ j91 := fun q9 => h184 ((nI_leI (a := 133) (b := j91) (by omega) (by omega)).mpr q9)
          refine lv_aload_n hx hb dX11_keep_20 rfl (lv_at hl 1 rfl) ?_
          refine va_get (D := D) (ci := 11) (v := .ref to) (C := RX11) (T := TX11) (N := 18) hx hb hts iw11 hown hK hP 0 rfl rfl 0 (by decide) fw1 (fun _ h9 => h9) rfl dX11_keep_21 ?_
          refine lv_bipush (v := 76) hx hb dX11_keep_24 (by decide) ?_
          refine lv_iload_n hx hb dX11_keep_26 rfl (lv_at hl 0 rfl) ?_
          refine lv_iadd hx hb dX11_keep_27 ?_
          rw [show 76 + (nI j91) = nI (j91 + 76) from (nI_add 76 j91).trans (congrArg nI (by omega))]
          refine lv_aload_n hx hb dX11_keep_28 rfl (lv_at hl 1 rfl) ?_
          refine va_get (D := D) (ci := 11) (v := .ref to) (C := RX11) (T := TX11) (N := 18) hx hb hts iw11 hown hK hP 0 rfl rfl 0 (by decide) fw1 (fun _ h9 => h9) rfl dX11_keep_29 ?_
          refine lv_bipush (v := 95) hx hb dX11_keep_32 (by decide) ?_
          refine lv_iload_n hx hb dX11_keep_34 rfl (lv_at hl 0 rfl) ?_
          refine lv_iadd hx hb dX11_keep_35 ?_
          rw [show 95 + (nI j91) = nI (j91 + 95) from (nI_add 95 j91).trans (congrArg nI (by omega))]
          refine va_iald hx hb hK hP 1 0 rfl rfl (vp_in_nI (by omega) (by decide)) dX11_keep_36 ?_
          rw [nI_clamp (n := (j91 + 95)) (by omega)]
          refine va_iast hx hb hK hP hD hS 1 0 rfl rfl (vp_in_nI (by omega) (by decide)) dX11_keep_37 (fun H locs hP hD hS => ?_)
          rw [nI_clamp (n := (j91 + 76)) (by omega)] at hP hD
          have hr244 : kr_t 228 (upd x114 (j91 + 76) (x114 (j91 + 95))) := kr_up hr_x114 (kr_move (p := (j91 + 95)) (hr_x114 (j91 + 95) (by omega)) (by unfold kr_a; omega) (by unfold kr_s; omega))
          have hk245 : (upd x114 (j91 + 76) (x114 (j91 + 95))) 0 = (nI fi) := (pk_un (by omega)).trans hk_x114_0
          have hk246 : (upd x114 (j91 + 76) (x114 (j91 + 95))) 1 = (nI gl) := (pk_un (by omega)).trans hk_x114_1
          have hk247 : (upd x114 (j91 + 76) (x114 (j91 + 95))) 2 = (nI mi) := (pk_un (by omega)).trans hk_x114_2
          have hk248 : (upd x114 (j91 + 76) (x114 (j91 + 95))) 3 = (nI no) := (pk_un (by omega)).trans hk_x114_3
          have hk249 : (upd x114 (j91 + 76) (x114 (j91 + 95))) 4 = (nI un) := (pk_un (by omega)).trans hk_x114_4
          have hP : va_P D vwCl [(mo, .inr (11, [.ref to, .ref ke, .ref ik, .ref mrf, .long mab, .long mbl, .ref ha, .ref r0, .ref mbr, .ref mbp, .ref mby, .int (nI bl), .int (nI ta), .int (nI tl), .int (nI tk), .int vv, .ref an, .ref va])), (to, .inl (y 0, 228, .inl (upd x114 (j91 + 76) (x114 (j91 + 95)))))] H := hP
          have hD : va_D A [(mo, .inr (11, [.ref to, .ref ke, .ref ik, .ref mrf, .long mab, .long mbl, .ref ha, .ref r0, .ref mbr, .ref mbp, .ref mby, .int (nI bl), .int (nI ta), .int (nI tl), .int (nI tk), .int vv, .ref an, .ref va])), (to, .inl (y 0, 228, .inl (upd x114 (j91 + 76) (x114 (j91 + 95)))))] := hD
          refine lv_iinc (v := (nI (j91 + 1))) (lv' := [(1, .int (nI (j91 + 1))), (0, .ref mo)]) hx hb dX11_keep_38 hl (k := 0) rfl (nI_1 j91) (by decide) rfl (fun ls hl => ?_)
          refine lv_goto (tgt := 13) hx hb dX11_keep_41 (by decide) ?_
          exact ihj91 (j91 + 1) (upd x114 (j91 + 76) (x114 (j91 + 95))) H locs ls (by omega) (by omega) hr244 hk245 hk246 hk247 hk248 hk249 (kz_k2_u (hI0_j91) (by omega)) (hP.sub [0, 1] rfl) (hD.sub [0, 1] (by decide) rfl) hS (lv_sub hl [0, 1] rfl)
    exact lp182 (133 + 1) 0 ft _ _ _ (by omega) (by omega) hkt hk0_ hk1_ hk2_ hk3_ hk4_ kz_k2_0 hP hD hS (lv_sub hl [0, 1] rfl)

set_option maxHeartbeats 4000000 in
set_option maxRecDepth 100000 in
theorem gr_DgoStep (l : Launch) (D : va_G) (y : Nat → ClassId) (to : Nat) (ft : Nat → Int32) (fi : Nat) (gl : Nat) (mi : Nat) (no : Nat) (un : Nat) (hk0_ : ft 0 = (nI fi)) (hk1_ : ft 1 = (nI gl)) (hk2_ : ft 2 = (nI mi)) (hk3_ : ft 3 = (nI no)) (hk4_ : ft 4 = (nI un)) (hkt : kr_t 228 ft) (hfi : fi ≤ 6) (hgl : gl ≤ 5) (hmi : mi ≤ 4) (hno : no ≤ 6) (hun : un ≤ 8) : kw_Mi l yX11_goStep wsX11_goStep ({ frames := 5, cells := 0, slots := 0, locals := 151 }) D y [.ref to] [(to, .inl (y 0, 228, .inl ft))] (fun (r : Int32) (u : (Nat → Int32)) => kr_t 228 u ∧ u 0 = (nI fi) ∧ u 1 = (nI gl) ∧ u 2 = (nI mi) ∧ u 3 = (nI no) ∧ u 4 = (nI un) ∧ kz_k2 ft u) (fun u => [(to, .inl (y 0, 228, .inl u))]) 0 0 := by
  refine kw_Mi.of (cc := cX11_goStep) (maxL := 7) (ret := (some .int)) (by decide) rfl ?_
  intro pZ eZ s mZ beZ meZ cZ A hE
  obtain ⟨hx, hb, hr, hml, hts, hown, hlocks, hin, hA, hP, hD, hK, hN⟩ := hE
  have hS : va_S A s.heap s.heap [] := va_S.rf
  have hl := lv_entry ([.ref to]) (n := 7) (Nat.le_of_ble_eq_true rfl)
  rw [lg_entry_eq]
  generalize (lg_sl ([.ref to]) ++ List.replicate (7 - (lg_sl ([.ref to])).length) Slot.unset).toArray = ls at hl ⊢
  have hl : lv_has ls 7 [(0, .ref to)] := hl
  refine lv_iconst (v := 0) hx hb dX11_goStep_0 (by decide) ?_
  refine lv_istore_n (lv' := [(1, .int 0), (0, .ref to)]) hx hb dX11_goStep_1 rfl hl (by decide) rfl (fun ls hl => ?_)
  refine lv_iconst (v := 0) hx hb dX11_goStep_2 (by decide) ?_
  refine lv_istore_n (lv' := [(2, .int 0), (1, .int 0), (0, .ref to)]) hx hb dX11_goStep_3 rfl hl (by decide) rfl (fun ls hl => ?_)
  have lp559 : ∀ (fuj91 j91 : Nat) (x279 : Int32) (x280 : Nat → Int32) (H : Heap) (locs : List Loc) (ls : Array Slot), j91 ≤ fi → fi - j91 < fuj91 → kr_t 228 x280 → x280 0 = (nI fi) → x280 1 = (nI gl) → x280 2 = (nI mi) → x280 3 = (nI no) → x280 4 = (nI un) → kz_k2 ft x280 → va_P D vwCl [(to, .inl (y 0, 228, .inl x280))] H → va_D A [(to, .inl (y 0, 228, .inl x280))] → va_S A s.heap H locs → lv_has ls 7 [(2, .int (nI j91)), (1, .int x279), (0, .ref to)] → W pZ l eZ ({ frames := 5, cells := 0, slots := 0, locals := 151 }) s mZ [.ref to].toArray beZ meZ cZ H locs 0 0 (MQ beZ (va_Qi (fun (r : Int32) (u : (Nat → Int32)) => kr_t 228 u ∧ u 0 = (nI fi) ∧ u 1 = (nI gl) ∧ u 2 = (nI mi) ∧ u 3 = (nI no) ∧ u 4 = (nI un) ∧ kz_k2 ft u) (kw_B D (fun u => [(to, .inl (y 0, 228, .inl u))]) A) A) [.ref to].toArray s 0 0 A) (F0 mZ 4 ls []) := by
    intro fuj91
    induction fuj91 with
    | zero => intro j91 x279 x280 H locs ls hj9 hf9; exact absurd hf9 (Nat.not_lt_zero _)
    | succ fuj91 ihj91 =>
      intro j91 x279 x280 H locs ls hj91 hfj91 hr_x280 hk_x280_0 hk_x280_1 hk_x280_2 hk_x280_3 hk_x280_4 hI0_j91 hP hD hS hl
      refine lv_iload_n hx hb dX11_goStep_4 rfl (lv_at hl 0 rfl) ?_
      refine lv_aload_n hx hb dX11_goStep_5 rfl (lv_at hl 2 rfl) ?_
      refine lv_iconst (v := 0) hx hb dX11_goStep_6 (by decide) ?_
      refine va_iald hx hb hK hP 0 0 rfl rfl (by unfold vp_in; decide) dX11_goStep_7 ?_
      rw [show ((0 : Int32)).toNatClampNeg = 0 from rfl]
      rw [show (x280 0) = (nI fi) from hk_x280_0]
      refine lv_icmp_ge (tgt := 152) hx hb dX11_goStep_8 (by decide) (fun h560 => ?_) (fun h561 => ?_)
      · skip
        have h560 : fi ≤ j91 := (nI_leI (a := fi) (b := j91) (by omega) (by omega)).mp h560
        refine lv_aload_n hx hb dX11_goStep_152 rfl (lv_at hl 2 rfl) ?_
        refine lv_bipush (v := 21) hx hb dX11_goStep_153 (by decide) ?_
        refine lv_dup2_11 hx hb dX11_goStep_155 rfl rfl ?_
        refine va_iald hx hb hK hP 0 0 rfl rfl (by unfold vp_in; decide) dX11_goStep_156 ?_
        rw [show ((21 : Int32)).toNatClampNeg = 21 from rfl]
        refine lv_iconst (v := 1) hx hb dX11_goStep_157 (by decide) ?_
        refine lv_iadd hx hb dX11_goStep_158 ?_
        refine va_iast hx hb hK hP hD hS 0 0 rfl rfl (by unfold vp_in; decide) dX11_goStep_159 (fun H locs hP hD hS => ?_)
        rw [show ((21 : Int32)).toNatClampNeg = 21 from rfl] at hP hD
        have hr562 : kr_t 228 (upd x280 21 ((x280 21) + 1)) := kr_up hr_x280 (kr_free (by unfold kr_a; omega) (by unfold kr_s; omega))
        have hk563 : (upd x280 21 ((x280 21) + 1)) 0 = (nI fi) := (pk_un (by decide)).trans hk_x280_0
        have hk564 : (upd x280 21 ((x280 21) + 1)) 1 = (nI gl) := (pk_un (by decide)).trans hk_x280_1
        have hk565 : (upd x280 21 ((x280 21) + 1)) 2 = (nI mi) := (pk_un (by decide)).trans hk_x280_2
        have hk566 : (upd x280 21 ((x280 21) + 1)) 3 = (nI no) := (pk_un (by decide)).trans hk_x280_3
        have hk567 : (upd x280 21 ((x280 21) + 1)) 4 = (nI un) := (pk_un (by decide)).trans hk_x280_4
        have hP : va_P D vwCl [(to, .inl (y 0, 228, .inl (upd x280 21 ((x280 21) + 1))))] H := hP
        have hD : va_D A [(to, .inl (y 0, 228, .inl (upd x280 21 ((x280 21) + 1))))] := hD
        refine lv_iload_n hx hb dX11_goStep_160 rfl (lv_at hl 1 rfl) ?_
        exact W.iret (v := x279) hx hb hr (fun tZ ht hW => ⟨⟨x279, ((upd x280 21 ((x280 21) + 1))), rfl, ⟨hr562, hk563, hk564, hk565, hk566, hk567, kz_k2_u (hI0_j91) (by first | omega | (dsimp only; omega))⟩, by rw [ht]; exact hP.sub [0] rfl, hD.sub [0] (by decide) rfl⟩, hS.F ht⟩) hS.2.2 dX11_goStep_161
      · skip
        have h561 : ¬ fi ≤ j91 := fun q9 => h561 ((nI_leI (a := fi) (b := j91) (by omega) (by omega)).mpr q9)
        refine lv_aload_n hx hb dX11_goStep_11 rfl (lv_at hl 2 rfl) ?_
        refine lv_iload_n hx hb dX11_goStep_12 rfl (lv_at hl 0 rfl) ?_
        have hs568 : kw_Split [(to, .inl (y 0, 228, .inl x280))] [(to, .inl (y 0, 228, .inl x280))] [] [0] [] := ⟨rfl, rfl, rfl, rfl, rfl, by decide⟩
        refine kw_go_i hs568 hP hD hS hA (va_runS (As := [.ref to, .int (nI j91)]) (rest := []) ⟨hx, hb, hml, hown, hts⟩ (gr_manyOn228 l D y to x280 fi gl mi no un (nI j91) hk_x280_0 hk_x280_1 hk_x280_2 hk_x280_3 hk_x280_4 hr_x280 hfi hgl hmi hno hun _) (va_cwS 2 hts gX11_goStep_X11_manyOn rfl rfl rfl (by decide +kernel) ⟨Nat.le_of_ble_eq_true rfl, Nat.le_of_ble_eq_true rfl⟩) (kw_PreS hs568 hP hD hK hN) rfl rfl hl.1 rfl (lv_room (Nat.le_of_ble_eq_true rfl)) dX11_goStep_13 ⟨Nat.le_of_ble_eq_true rfl, Nat.le_of_ble_eq_true rfl⟩) (fun r569 u570 H locs hq hP hD hS => ?_)
        have hP : va_P D vwCl [(to, .inl (y 0, 228, .inl x280))] H := hP
        have hD : va_D A [(to, .inl (y 0, 228, .inl x280))] := hD
        refine lv_istore_n (lv' := [(3, .int r569), (2, .int (nI j91)), (1, .int x279), (0, .ref to)]) hx hb dX11_goStep_16 rfl hl (by decide) rfl (fun ls hl => ?_)
        refine lv_iload_n hx hb dX11_goStep_17 rfl (lv_at hl 0 rfl) ?_
        refine lv_if_ne (tgt := 25) hx hb dX11_goStep_18 (by decide) (fun h571 => ?_) (fun h572 => ?_)
        · skip
          refine lv_aload_n hx hb dX11_goStep_25 rfl (lv_at hl 3 rfl) ?_
          refine lv_iload_n hx hb dX11_goStep_26 rfl (lv_at hl 1 rfl) ?_
          refine lv_aload_n hx hb dX11_goStep_27 rfl (lv_at hl 3 rfl) ?_
          refine lv_bipush (v := 21) hx hb dX11_goStep_28 (by decide) ?_
          refine va_iald hx hb hK hP 0 0 rfl rfl (by unfold vp_in; decide) dX11_goStep_30 ?_
          rw [show ((21 : Int32)).toNatClampNeg = 21 from rfl]
          have hs573 : kw_Split [(to, .inl (y 0, 228, .inl x280))] [(to, .inl (y 0, 228, .inl x280))] [] [0] [] := ⟨rfl, rfl, rfl, rfl, rfl, by decide⟩
          refine kw_go_i hs573 hP hD hS hA (va_runS (As := [.ref to, .int (nI j91), .int (x280 21)]) (rest := []) ⟨hx, hb, hml, hown, hts⟩ (gr_seenOn228 l D y to x280 fi gl mi no un j91 (x280 21) hk_x280_0 hk_x280_1 hk_x280_2 hk_x280_3 hk_x280_4 hr_x280 hfi hgl hmi hno hun (by omega) _) (va_cwS 3 hts gX11_goStep_X11_seenOn rfl rfl rfl (by decide +kernel) ⟨Nat.le_of_ble_eq_true rfl, Nat.le_of_ble_eq_true rfl⟩) (kw_PreS hs573 hP hD hK hN) rfl rfl hl.1 rfl (lv_room (Nat.le_of_ble_eq_true rfl)) dX11_goStep_31 ⟨Nat.le_of_ble_eq_true rfl, Nat.le_of_ble_eq_true rfl⟩) (fun r574 u575 H locs hq hP hD hS => ?_)
          have hP : va_P D vwCl [(to, .inl (y 0, 228, .inl x280))] H := hP
          have hD : va_D A [(to, .inl (y 0, 228, .inl x280))] := hD
          refine lv_iload_n hx hb dX11_goStep_34 rfl (lv_at hl 0 rfl) ?_
          refine lv_idiv hx hb dX11_goStep_35 (h571) ?_
          refine lv_istore (lv' := [(4, .int (r574 / r569)), (3, .int r569), (2, .int (nI j91)), (1, .int x279), (0, .ref to)]) hx hb dX11_goStep_36 hl (by decide) rfl (fun ls hl => ?_)
          refine lv_iconst (v := 0) hx hb dX11_goStep_38 (by decide) ?_
          refine lv_istore (lv' := [(5, .int 0), (4, .int (r574 / r569)), (3, .int r569), (2, .int (nI j91)), (1, .int x279), (0, .ref to)]) hx hb dX11_goStep_39 hl (by decide) rfl (fun ls hl => ?_)
          have lp663 : ∀ (fuj92 j92 : Nat) (x619 : Nat → Int32) (H : Heap) (locs : List Loc) (ls : Array Slot), j92 ≤ gl → gl - j92 < fuj92 → kr_t 228 x619 → x619 0 = (nI fi) → x619 1 = (nI gl) → x619 2 = (nI mi) → x619 3 = (nI no) → x619 4 = (nI un) → kz_k2 ft x619 → va_P D vwCl [(to, .inl (y 0, 228, .inl x619))] H → va_D A [(to, .inl (y 0, 228, .inl x619))] → va_S A s.heap H locs → lv_has ls 7 [(5, .int (nI j92)), (4, .int (r574 / r569)), (3, .int r569), (2, .int (nI j91)), (1, .int x279), (0, .ref to)] → W pZ l eZ ({ frames := 5, cells := 0, slots := 0, locals := 151 }) s mZ [.ref to].toArray beZ meZ cZ H locs 0 0 (MQ beZ (va_Qi (fun (r : Int32) (u : (Nat → Int32)) => kr_t 228 u ∧ u 0 = (nI fi) ∧ u 1 = (nI gl) ∧ u 2 = (nI mi) ∧ u 3 = (nI no) ∧ u 4 = (nI un) ∧ kz_k2 ft u) (kw_B D (fun u => [(to, .inl (y 0, 228, .inl u))]) A) A) [.ref to].toArray s 0 0 A) (F0 mZ 41 ls []) := by
            intro fuj92
            induction fuj92 with
            | zero => intro j92 x619 H locs ls hj9 hf9; exact absurd hf9 (Nat.not_lt_zero _)
            | succ fuj92 ihj92 =>
              intro j92 x619 H locs ls hj92 hfj92 hr_x619 hk_x619_0 hk_x619_1 hk_x619_2 hk_x619_3 hk_x619_4 hI0_j92 hP hD hS hl
              refine lv_iload hx hb dX11_goStep_41 (lv_at hl 0 rfl) ?_
              refine lv_aload_n hx hb dX11_goStep_43 rfl (lv_at hl 5 rfl) ?_
              refine lv_iconst (v := 1) hx hb dX11_goStep_44 (by decide) ?_
              refine va_iald hx hb hK hP 0 0 rfl rfl (by unfold vp_in; decide) dX11_goStep_45 ?_
              rw [show ((1 : Int32)).toNatClampNeg = 1 from rfl]
              rw [show (x619 1) = (nI gl) from hk_x619_1]
              refine lv_icmp_ge (tgt := 111) hx hb dX11_goStep_46 (by decide) (fun h664 => ?_) (fun h665 => ?_)
              · skip
                have h664 : gl ≤ j92 := (nI_leI (a := gl) (b := j92) (by omega) (by omega)).mp h664
                refine lv_aload_n hx hb dX11_goStep_111 rfl (lv_at hl 5 rfl) ?_
                refine lv_iconst (v := 5) hx hb dX11_goStep_112 (by decide) ?_
                refine lv_iload_n hx hb dX11_goStep_113 rfl (lv_at hl 3 rfl) ?_
                refine lv_iadd hx hb dX11_goStep_114 ?_
                rw [show 5 + (nI j91) = nI (j91 + 5) from (nI_add 5 j91).trans (congrArg nI (by omega))]
                refine va_iald hx hb hK hP 0 0 rfl rfl (vp_in_nI (by omega) (by decide)) dX11_goStep_115 ?_
                rw [nI_clamp (n := (j91 + 5)) (by omega)]
                refine lv_iload hx hb dX11_goStep_116 (lv_at hl 1 rfl) ?_
                refine lv_iload_n hx hb dX11_goStep_118 rfl (lv_at hl 2 rfl) ?_
                refine lv_imul hx hb dX11_goStep_119 ?_
                refine lv_isub hx hb dX11_goStep_120 ?_
                refine lv_istore (lv' := [(5, .int ((x619 (j91 + 5)) - ((r574 / r569) * r569))), (4, .int (r574 / r569)), (3, .int r569), (2, .int (nI j91)), (1, .int x279), (0, .ref to)]) hx hb dX11_goStep_121 hl (by decide) rfl (fun ls hl => ?_)
                refine lv_aload_n hx hb dX11_goStep_123 rfl (lv_at hl 5 rfl) ?_
                refine lv_iconst (v := 5) hx hb dX11_goStep_124 (by decide) ?_
                refine lv_iload_n hx hb dX11_goStep_125 rfl (lv_at hl 3 rfl) ?_
                refine lv_iadd hx hb dX11_goStep_126 ?_
                rw [show 5 + (nI j91) = nI (j91 + 5) from (nI_add 5 j91).trans (congrArg nI (by omega))]
                refine lv_iload hx hb dX11_goStep_127 (lv_at hl 0 rfl) ?_
                refine lv_if_ge (tgt := 136) hx hb dX11_goStep_129 (by decide) (fun h666 => ?_) (fun h667 => ?_)
                · skip
                  refine lv_iload hx hb dX11_goStep_136 (lv_at hl 0 rfl) ?_
                  refine va_iast hx hb hK hP hD hS 0 0 rfl rfl (vp_in_nI (by omega) (by decide)) dX11_goStep_138 (fun H locs hP hD hS => ?_)
                  rw [nI_clamp (n := (j91 + 5)) (by omega)] at hP hD
                  have hr668 : kr_t 228 (upd x619 (j91 + 5) ((x619 (j91 + 5)) - ((r574 / r569) * r569))) := kr_up hr_x619 (kr_free (by unfold kr_a; omega) (by unfold kr_s; omega))
                  have hk669 : (upd x619 (j91 + 5) ((x619 (j91 + 5)) - ((r574 / r569) * r569))) 0 = (nI fi) := (pk_un (by omega)).trans hk_x619_0
                  have hk670 : (upd x619 (j91 + 5) ((x619 (j91 + 5)) - ((r574 / r569) * r569))) 1 = (nI gl) := (pk_un (by omega)).trans hk_x619_1
                  have hk671 : (upd x619 (j91 + 5) ((x619 (j91 + 5)) - ((r574 / r569) * r569))) 2 = (nI mi) := (pk_un (by omega)).trans hk_x619_2
                  have hk672 : (upd x619 (j91 + 5) ((x619 (j91 + 5)) - ((r574 / r569) * r569))) 3 = (nI no) := (pk_un (by omega)).trans hk_x619_3
                  have hk673 : (upd x619 (j91 + 5) ((x619 (j91 + 5)) - ((r574 / r569) * r569))) 4 = (nI un) := (pk_un (by omega)).trans hk_x619_4
                  have hP : va_P D vwCl [(to, .inl (y 0, 228, .inl (upd x619 (j91 + 5) ((x619 (j91 + 5)) - ((r574 / r569) * r569)))))] H := hP
                  have hD : va_D A [(to, .inl (y 0, 228, .inl (upd x619 (j91 + 5) ((x619 (j91 + 5)) - ((r574 / r569) * r569)))))] := hD
                  refine lv_iload_n hx hb dX11_goStep_139 rfl (lv_at hl 4 rfl) ?_
                  refine lv_iload hx hb dX11_goStep_140 (lv_at hl 1 rfl) ?_
                  refine lv_iload_n hx hb dX11_goStep_142 rfl (lv_at hl 2 rfl) ?_
                  refine lv_imul hx hb dX11_goStep_143 ?_
                  refine lv_iadd hx hb dX11_goStep_144 ?_
                  refine lv_istore_n (lv' := [(1, .int (x279 + ((r574 / r569) * r569))), (5, .int ((x619 (j91 + 5)) - ((r574 / r569) * r569))), (4, .int (r574 / r569)), (3, .int r569), (2, .int (nI j91)), (0, .ref to)]) hx hb dX11_goStep_145 rfl hl (by decide) rfl (fun ls hl => ?_)
                  refine lv_iinc (v := (nI (j91 + 1))) (lv' := [(2, .int (nI (j91 + 1))), (1, .int (x279 + ((r574 / r569) * r569))), (5, .int ((x619 (j91 + 5)) - ((r574 / r569) * r569))), (4, .int (r574 / r569)), (3, .int r569), (0, .ref to)]) hx hb dX11_goStep_146 hl (k := 4) rfl (nI_1 j91) (by decide) rfl (fun ls hl => ?_)
                  refine lv_goto (tgt := 4) hx hb dX11_goStep_149 (by decide) ?_
                  exact ihj91 (j91 + 1) (x279 + ((r574 / r569) * r569)) (upd x619 (j91 + 5) ((x619 (j91 + 5)) - ((r574 / r569) * r569))) H locs ls (by omega) (by omega) hr668 hk669 hk670 hk671 hk672 hk673 (kz_k2_u (hI0_j92) (by omega)) (hP.sub [0] rfl) (hD.sub [0] (by decide) rfl) hS (lv_sub hl [0, 1, 5] rfl)
                · skip
                  refine lv_iconst (v := 0) hx hb dX11_goStep_132 (by decide) ?_
                  refine lv_goto (tgt := 138) hx hb dX11_goStep_133 (by decide) ?_
                  refine va_iast hx hb hK hP hD hS 0 0 rfl rfl (vp_in_nI (by omega) (by decide)) dX11_goStep_138 (fun H locs hP hD hS => ?_)
                  rw [nI_clamp (n := (j91 + 5)) (by omega)] at hP hD
                  have hr674 : kr_t 228 (upd x619 (j91 + 5) 0) := kr_up hr_x619 (kr_ok0)
                  have hk675 : (upd x619 (j91 + 5) 0) 0 = (nI fi) := (pk_un (by omega)).trans hk_x619_0
                  have hk676 : (upd x619 (j91 + 5) 0) 1 = (nI gl) := (pk_un (by omega)).trans hk_x619_1
                  have hk677 : (upd x619 (j91 + 5) 0) 2 = (nI mi) := (pk_un (by omega)).trans hk_x619_2
                  have hk678 : (upd x619 (j91 + 5) 0) 3 = (nI no) := (pk_un (by omega)).trans hk_x619_3
                  have hk679 : (upd x619 (j91 + 5) 0) 4 = (nI un) := (pk_un (by omega)).trans hk_x619_4
                  have hP : va_P D vwCl [(to, .inl (y 0, 228, .inl (upd x619 (j91 + 5) 0)))] H := hP
                  have hD : va_D A [(to, .inl (y 0, 228, .inl (upd x619 (j91 + 5) 0)))] := hD
                  refine lv_iload_n hx hb dX11_goStep_139 rfl (lv_at hl 4 rfl) ?_
                  refine lv_iload hx hb dX11_goStep_140 (lv_at hl 1 rfl) ?_
                  refine lv_iload_n hx hb dX11_goStep_142 rfl (lv_at hl 2 rfl) ?_
                  refine lv_imul hx hb dX11_goStep_143 ?_
                  refine lv_iadd hx hb dX11_goStep_144 ?_
                  refine lv_istore_n (lv' := [(1, .int (x279 + ((r574 / r569) * r569))), (5, .int ((x619 (j91 + 5)) - ((r574 / r569) * r569))), (4, .int (r574 / r569)), (3, .int r569), (2, .int (nI j91)), (0, .ref to)]) hx hb dX11_goStep_145 rfl hl (by decide) rfl (fun ls hl => ?_)
                  refine lv_iinc (v := (nI (j91 + 1))) (lv' := [(2, .int (nI (j91 + 1))), (1, .int (x279 + ((r574 / r569) * r569))), (5, .int ((x619 (j91 + 5)) - ((r574 / r569) * r569))), (4, .int (r574 / r569)), (3, .int r569), (0, .ref to)]) hx hb dX11_goStep_146 hl (k := 4) rfl (nI_1 j91) (by decide) rfl (fun ls hl => ?_)
                  refine lv_goto (tgt := 4) hx hb dX11_goStep_149 (by decide) ?_
                  exact ihj91 (j91 + 1) (x279 + ((r574 / r569) * r569)) (upd x619 (j91 + 5) 0) H locs ls (by omega) (by omega) hr674 hk675 hk676 hk677 hk678 hk679 (kz_k2_u (hI0_j92) (by omega)) (hP.sub [0] rfl) (hD.sub [0] (by decide) rfl) hS (lv_sub hl [0, 1, 5] rfl)
              · skip
                have h665 : ¬ gl ≤ j92 := fun q9 => h665 ((nI_leI (a := gl) (b := j92) (by omega) (by omega)).mpr q9)
                refine lv_aload_n hx hb dX11_goStep_49 rfl (lv_at hl 5 rfl) ?_
                refine lv_bipush (v := 11) hx hb dX11_goStep_50 (by decide) ?_
                refine lv_iload hx hb dX11_goStep_52 (lv_at hl 0 rfl) ?_
                refine lv_iadd hx hb dX11_goStep_54 ?_
                rw [show 11 + (nI j92) = nI (j92 + 11) from (nI_add 11 j92).trans (congrArg nI (by omega))]
                refine va_iald hx hb hK hP 0 0 rfl rfl (vp_in_nI (by omega) (by decide)) dX11_goStep_55 ?_
                rw [nI_clamp (n := (j92 + 11)) (by omega)]
                obtain ⟨w680, h681, h682⟩ := kr_at hr_x619 (p := (j92 + 11)) (by omega) (by unfold kr_a; omega)
                rw [h682]
                refine lv_iload_n hx hb dX11_goStep_56 rfl (lv_at hl 3 rfl) ?_
                refine lv_icmp_ne (tgt := 73) hx hb dX11_goStep_57 (by decide) (fun h683 => ?_) (fun h684 => ?_)
                · skip
                  have h683 : ¬ w680 = j91 := fun q9 => h683 ((nI_eq (a := w680) (b := j91) (by omega) (by omega)).mpr q9)
                  refine lv_aload_n hx hb dX11_goStep_73 rfl (lv_at hl 5 rfl) ?_
                  refine lv_bipush (v := 16) hx hb dX11_goStep_74 (by decide) ?_
                  refine lv_iload hx hb dX11_goStep_76 (lv_at hl 0 rfl) ?_
                  refine lv_iadd hx hb dX11_goStep_78 ?_
                  rw [show 16 + (nI j92) = nI (j92 + 16) from (nI_add 16 j92).trans (congrArg nI (by omega))]
                  refine va_iald hx hb hK hP 0 0 rfl rfl (vp_in_nI (by omega) (by decide)) dX11_goStep_79 ?_
                  rw [nI_clamp (n := (j92 + 16)) (by omega)]
                  refine lv_istore (lv' := [(6, .int (x619 (j92 + 16))), (5, .int (nI j92)), (4, .int (r574 / r569)), (3, .int r569), (2, .int (nI j91)), (1, .int x279), (0, .ref to)]) hx hb dX11_goStep_80 hl (by decide) rfl (fun ls hl => ?_)
                  refine lv_aload_n hx hb dX11_goStep_82 rfl (lv_at hl 6 rfl) ?_
                  refine lv_bipush (v := 16) hx hb dX11_goStep_83 (by decide) ?_
                  refine lv_iload hx hb dX11_goStep_85 (lv_at hl 1 rfl) ?_
                  refine lv_iadd hx hb dX11_goStep_87 ?_
                  rw [show 16 + (nI j92) = nI (j92 + 16) from (nI_add 16 j92).trans (congrArg nI (by omega))]
                  refine lv_iload hx hb dX11_goStep_88 (lv_at hl 0 rfl) ?_
                  refine lv_sipush (v := 999) hx hb dX11_goStep_90 (by decide) ?_
                  refine lv_icmp_le (tgt := 102) hx hb dX11_goStep_93 (by decide) (fun h685 => ?_) (fun h686 => ?_)
                  · skip
                    refine lv_iload hx hb dX11_goStep_102 (lv_at hl 0 rfl) ?_
                    refine va_iast hx hb hK hP hD hS 0 0 rfl rfl (vp_in_nI (by omega) (by decide)) dX11_goStep_104 (fun H locs hP hD hS => ?_)
                    rw [nI_clamp (n := (j92 + 16)) (by omega)] at hP hD
                    have hr687 : kr_t 228 (upd x619 (j92 + 16) (x619 (j92 + 16))) := kr_up hr_x619 (kr_move (p := (j92 + 16)) (hr_x619 (j92 + 16) (by omega)) (by unfold kr_a; omega) (by unfold kr_s; omega))
                    have hk688 : (upd x619 (j92 + 16) (x619 (j92 + 16))) 0 = (nI fi) := (pk_un (by omega)).trans hk_x619_0
                    have hk689 : (upd x619 (j92 + 16) (x619 (j92 + 16))) 1 = (nI gl) := (pk_un (by omega)).trans hk_x619_1
                    have hk690 : (upd x619 (j92 + 16) (x619 (j92 + 16))) 2 = (nI mi) := (pk_un (by omega)).trans hk_x619_2
                    have hk691 : (upd x619 (j92 + 16) (x619 (j92 + 16))) 3 = (nI no) := (pk_un (by omega)).trans hk_x619_3
                    have hk692 : (upd x619 (j92 + 16) (x619 (j92 + 16))) 4 = (nI un) := (pk_un (by omega)).trans hk_x619_4
                    have hP : va_P D vwCl [(to, .inl (y 0, 228, .inl (upd x619 (j92 + 16) (x619 (j92 + 16)))))] H := hP
                    have hD : va_D A [(to, .inl (y 0, 228, .inl (upd x619 (j92 + 16) (x619 (j92 + 16)))))] := hD
                    refine lv_iinc (v := (nI (j92 + 1))) (lv' := [(5, .int (nI (j92 + 1))), (6, .int (x619 (j92 + 16))), (4, .int (r574 / r569)), (3, .int r569), (2, .int (nI j91)), (1, .int x279), (0, .ref to)]) hx hb dX11_goStep_105 hl (k := 1) rfl (nI_1 j92) (by decide) rfl (fun ls hl => ?_)
                    refine lv_goto (tgt := 41) hx hb dX11_goStep_108 (by decide) ?_
                    exact ihj92 (j92 + 1) (upd x619 (j92 + 16) (x619 (j92 + 16))) H locs ls (by omega) (by omega) hr687 hk688 hk689 hk690 hk691 hk692 (kz_k2_u (hI0_j92) (by omega)) (hP.sub [0] rfl) (hD.sub [0] (by decide) rfl) hS (lv_sub hl [0, 2, 3, 4, 5, 6] rfl)
                  · skip
                    exact absurd ((hr_x619 (j92 + 16) (by omega)).2 (by unfold kr_s; omega)) h686
                · skip
                  have h684 : w680 = j91 := (nI_eq (a := w680) (b := j91) (by omega) (by omega)).mp h684
                  refine lv_aload_n hx hb dX11_goStep_60 rfl (lv_at hl 5 rfl) ?_
                  refine lv_bipush (v := 16) hx hb dX11_goStep_61 (by decide) ?_
                  refine lv_iload hx hb dX11_goStep_63 (lv_at hl 0 rfl) ?_
                  refine lv_iadd hx hb dX11_goStep_65 ?_
                  rw [show 16 + (nI j92) = nI (j92 + 16) from (nI_add 16 j92).trans (congrArg nI (by omega))]
                  refine va_iald hx hb hK hP 0 0 rfl rfl (vp_in_nI (by omega) (by decide)) dX11_goStep_66 ?_
                  rw [nI_clamp (n := (j92 + 16)) (by omega)]
                  refine lv_iload hx hb dX11_goStep_67 (lv_at hl 1 rfl) ?_
                  refine lv_iadd hx hb dX11_goStep_69 ?_
                  refine lv_goto (tgt := 80) hx hb dX11_goStep_70 (by decide) ?_
                  refine lv_istore (lv' := [(6, .int ((x619 (j92 + 16)) + (r574 / r569))), (5, .int (nI j92)), (4, .int (r574 / r569)), (3, .int r569), (2, .int (nI j91)), (1, .int x279), (0, .ref to)]) hx hb dX11_goStep_80 hl (by decide) rfl (fun ls hl => ?_)
                  refine lv_aload_n hx hb dX11_goStep_82 rfl (lv_at hl 6 rfl) ?_
                  refine lv_bipush (v := 16) hx hb dX11_goStep_83 (by decide) ?_
                  refine lv_iload hx hb dX11_goStep_85 (lv_at hl 1 rfl) ?_
                  refine lv_iadd hx hb dX11_goStep_87 ?_
                  rw [show 16 + (nI j92) = nI (j92 + 16) from (nI_add 16 j92).trans (congrArg nI (by omega))]
                  refine lv_iload hx hb dX11_goStep_88 (lv_at hl 0 rfl) ?_
                  refine lv_sipush (v := 999) hx hb dX11_goStep_90 (by decide) ?_
                  refine lv_icmp_le (tgt := 102) hx hb dX11_goStep_93 (by decide) (fun h693 => ?_) (fun h694 => ?_)
                  · skip
                    refine lv_iload hx hb dX11_goStep_102 (lv_at hl 0 rfl) ?_
                    refine va_iast hx hb hK hP hD hS 0 0 rfl rfl (vp_in_nI (by omega) (by decide)) dX11_goStep_104 (fun H locs hP hD hS => ?_)
                    rw [nI_clamp (n := (j92 + 16)) (by omega)] at hP hD
                    have hr695 : kr_t 228 (upd x619 (j92 + 16) ((x619 (j92 + 16)) + (r574 / r569))) := kr_up hr_x619 (kr_oks (by unfold kr_a; omega) (h693))
                    have hk696 : (upd x619 (j92 + 16) ((x619 (j92 + 16)) + (r574 / r569))) 0 = (nI fi) := (pk_un (by omega)).trans hk_x619_0
                    have hk697 : (upd x619 (j92 + 16) ((x619 (j92 + 16)) + (r574 / r569))) 1 = (nI gl) := (pk_un (by omega)).trans hk_x619_1
                    have hk698 : (upd x619 (j92 + 16) ((x619 (j92 + 16)) + (r574 / r569))) 2 = (nI mi) := (pk_un (by omega)).trans hk_x619_2
                    have hk699 : (upd x619 (j92 + 16) ((x619 (j92 + 16)) + (r574 / r569))) 3 = (nI no) := (pk_un (by omega)).trans hk_x619_3
                    have hk700 : (upd x619 (j92 + 16) ((x619 (j92 + 16)) + (r574 / r569))) 4 = (nI un) := (pk_un (by omega)).trans hk_x619_4
                    have hP : va_P D vwCl [(to, .inl (y 0, 228, .inl (upd x619 (j92 + 16) ((x619 (j92 + 16)) + (r574 / r569)))))] H := hP
                    have hD : va_D A [(to, .inl (y 0, 228, .inl (upd x619 (j92 + 16) ((x619 (j92 + 16)) + (r574 / r569)))))] := hD
                    refine lv_iinc (v := (nI (j92 + 1))) (lv' := [(5, .int (nI (j92 + 1))), (6, .int ((x619 (j92 + 16)) + (r574 / r569))), (4, .int (r574 / r569)), (3, .int r569), (2, .int (nI j91)), (1, .int x279), (0, .ref to)]) hx hb dX11_goStep_105 hl (k := 1) rfl (nI_1 j92) (by decide) rfl (fun ls hl => ?_)
                    refine lv_goto (tgt := 41) hx hb dX11_goStep_108 (by decide) ?_
                    exact ihj92 (j92 + 1) (upd x619 (j92 + 16) ((x619 (j92 + 16)) + (r574 / r569))) H locs ls (by omega) (by omega) hr695 hk696 hk697 hk698 hk699 hk700 (kz_k2_u (hI0_j92) (by omega)) (hP.sub [0] rfl) (hD.sub [0] (by decide) rfl) hS (lv_sub hl [0, 2, 3, 4, 5, 6] rfl)
                  · skip
                    refine lv_sipush (v := 999) hx hb dX11_goStep_96 (by decide) ?_
                    refine lv_goto (tgt := 104) hx hb dX11_goStep_99 (by decide) ?_
                    refine va_iast hx hb hK hP hD hS 0 0 rfl rfl (vp_in_nI (by omega) (by decide)) dX11_goStep_104 (fun H locs hP hD hS => ?_)
                    rw [nI_clamp (n := (j92 + 16)) (by omega)] at hP hD
                    have hr701 : kr_t 228 (upd x619 (j92 + 16) 999) := kr_up hr_x619 (kr_oks (by unfold kr_a; omega) (by decide))
                    have hk702 : (upd x619 (j92 + 16) 999) 0 = (nI fi) := (pk_un (by omega)).trans hk_x619_0
                    have hk703 : (upd x619 (j92 + 16) 999) 1 = (nI gl) := (pk_un (by omega)).trans hk_x619_1
                    have hk704 : (upd x619 (j92 + 16) 999) 2 = (nI mi) := (pk_un (by omega)).trans hk_x619_2
                    have hk705 : (upd x619 (j92 + 16) 999) 3 = (nI no) := (pk_un (by omega)).trans hk_x619_3
                    have hk706 : (upd x619 (j92 + 16) 999) 4 = (nI un) := (pk_un (by omega)).trans hk_x619_4
                    have hP : va_P D vwCl [(to, .inl (y 0, 228, .inl (upd x619 (j92 + 16) 999)))] H := hP
                    have hD : va_D A [(to, .inl (y 0, 228, .inl (upd x619 (j92 + 16) 999)))] := hD
                    refine lv_iinc (v := (nI (j92 + 1))) (lv' := [(5, .int (nI (j92 + 1))), (6, .int ((x619 (j92 + 16)) + (r574 / r569))), (4, .int (r574 / r569)), (3, .int r569), (2, .int (nI j91)), (1, .int x279), (0, .ref to)]) hx hb dX11_goStep_105 hl (k := 1) rfl (nI_1 j92) (by decide) rfl (fun ls hl => ?_)
                    refine lv_goto (tgt := 41) hx hb dX11_goStep_108 (by decide) ?_
                    exact ihj92 (j92 + 1) (upd x619 (j92 + 16) 999) H locs ls (by omega) (by omega) hr701 hk702 hk703 hk704 hk705 hk706 (kz_k2_u (hI0_j92) (by omega)) (hP.sub [0] rfl) (hD.sub [0] (by decide) rfl) hS (lv_sub hl [0, 2, 3, 4, 5, 6] rfl)
          exact lp663 (gl + 1) 0 x280 _ _ _ (by omega) (by omega) hr_x280 hk_x280_0 hk_x280_1 hk_x280_2 hk_x280_3 hk_x280_4 hI0_j91 hP hD hS (lv_sub hl [0, 1, 2, 3, 4, 5] rfl)
        · skip
          refine lv_iconst (v := 0) hx hb dX11_goStep_21 (by decide) ?_
          refine lv_goto (tgt := 36) hx hb dX11_goStep_22 (by decide) ?_
          refine lv_istore (lv' := [(4, .int 0), (3, .int r569), (2, .int (nI j91)), (1, .int x279), (0, .ref to)]) hx hb dX11_goStep_36 hl (by decide) rfl (fun ls hl => ?_)
          refine lv_iconst (v := 0) hx hb dX11_goStep_38 (by decide) ?_
          refine lv_istore (lv' := [(5, .int 0), (4, .int 0), (3, .int r569), (2, .int (nI j91)), (1, .int x279), (0, .ref to)]) hx hb dX11_goStep_39 hl (by decide) rfl (fun ls hl => ?_)
          have lp794 : ∀ (fuj92 j92 : Nat) (x750 : Nat → Int32) (H : Heap) (locs : List Loc) (ls : Array Slot), j92 ≤ gl → gl - j92 < fuj92 → kr_t 228 x750 → x750 0 = (nI fi) → x750 1 = (nI gl) → x750 2 = (nI mi) → x750 3 = (nI no) → x750 4 = (nI un) → kz_k2 ft x750 → va_P D vwCl [(to, .inl (y 0, 228, .inl x750))] H → va_D A [(to, .inl (y 0, 228, .inl x750))] → va_S A s.heap H locs → lv_has ls 7 [(5, .int (nI j92)), (4, .int 0), (3, .int r569), (2, .int (nI j91)), (1, .int x279), (0, .ref to)] → W pZ l eZ ({ frames := 5, cells := 0, slots := 0, locals := 151 }) s mZ [.ref to].toArray beZ meZ cZ H locs 0 0 (MQ beZ (va_Qi (fun (r : Int32) (u : (Nat → Int32)) => kr_t 228 u ∧ u 0 = (nI fi) ∧ u 1 = (nI gl) ∧ u 2 = (nI mi) ∧ u 3 = (nI no) ∧ u 4 = (nI un) ∧ kz_k2 ft u) (kw_B D (fun u => [(to, .inl (y 0, 228, .inl u))]) A) A) [.ref to].toArray s 0 0 A) (F0 mZ 41 ls []) := by
            intro fuj92
            induction fuj92 with
            | zero => intro j92 x750 H locs ls hj9 hf9; exact absurd hf9 (Nat.not_lt_zero _)
            | succ fuj92 ihj92 =>
              intro j92 x750 H locs ls hj92 hfj92 hr_x750 hk_x750_0 hk_x750_1 hk_x750_2 hk_x750_3 hk_x750_4 hI0_j92 hP hD hS hl
              refine lv_iload hx hb dX11_goStep_41 (lv_at hl 0 rfl) ?_
              refine lv_aload_n hx hb dX11_goStep_43 rfl (lv_at hl 5 rfl) ?_
              refine lv_iconst (v := 1) hx hb dX11_goStep_44 (by decide) ?_
              refine va_iald hx hb hK hP 0 0 rfl rfl (by unfold vp_in; decide) dX11_goStep_45 ?_
              rw [show ((1 : Int32)).toNatClampNeg = 1 from rfl]
              rw [show (x750 1) = (nI gl) from hk_x750_1]
              refine lv_icmp_ge (tgt := 111) hx hb dX11_goStep_46 (by decide) (fun h795 => ?_) (fun h796 => ?_)
              · skip
                have h795 : gl ≤ j92 := (nI_leI (a := gl) (b := j92) (by omega) (by omega)).mp h795
                refine lv_aload_n hx hb dX11_goStep_111 rfl (lv_at hl 5 rfl) ?_
                refine lv_iconst (v := 5) hx hb dX11_goStep_112 (by decide) ?_
                refine lv_iload_n hx hb dX11_goStep_113 rfl (lv_at hl 3 rfl) ?_
                refine lv_iadd hx hb dX11_goStep_114 ?_
                rw [show 5 + (nI j91) = nI (j91 + 5) from (nI_add 5 j91).trans (congrArg nI (by omega))]
                refine va_iald hx hb hK hP 0 0 rfl rfl (vp_in_nI (by omega) (by decide)) dX11_goStep_115 ?_
                rw [nI_clamp (n := (j91 + 5)) (by omega)]
                refine lv_iload hx hb dX11_goStep_116 (lv_at hl 1 rfl) ?_
                refine lv_iload_n hx hb dX11_goStep_118 rfl (lv_at hl 2 rfl) ?_
                refine lv_imul hx hb dX11_goStep_119 ?_
                refine lv_isub hx hb dX11_goStep_120 ?_
                refine lv_istore (lv' := [(5, .int ((x750 (j91 + 5)) - (0 * r569))), (4, .int 0), (3, .int r569), (2, .int (nI j91)), (1, .int x279), (0, .ref to)]) hx hb dX11_goStep_121 hl (by decide) rfl (fun ls hl => ?_)
                refine lv_aload_n hx hb dX11_goStep_123 rfl (lv_at hl 5 rfl) ?_
                refine lv_iconst (v := 5) hx hb dX11_goStep_124 (by decide) ?_
                refine lv_iload_n hx hb dX11_goStep_125 rfl (lv_at hl 3 rfl) ?_
                refine lv_iadd hx hb dX11_goStep_126 ?_
                rw [show 5 + (nI j91) = nI (j91 + 5) from (nI_add 5 j91).trans (congrArg nI (by omega))]
                refine lv_iload hx hb dX11_goStep_127 (lv_at hl 0 rfl) ?_
                refine lv_if_ge (tgt := 136) hx hb dX11_goStep_129 (by decide) (fun h797 => ?_) (fun h798 => ?_)
                · skip
                  refine lv_iload hx hb dX11_goStep_136 (lv_at hl 0 rfl) ?_
                  refine va_iast hx hb hK hP hD hS 0 0 rfl rfl (vp_in_nI (by omega) (by decide)) dX11_goStep_138 (fun H locs hP hD hS => ?_)
                  rw [nI_clamp (n := (j91 + 5)) (by omega)] at hP hD
                  have hr799 : kr_t 228 (upd x750 (j91 + 5) ((x750 (j91 + 5)) - (0 * r569))) := kr_up hr_x750 (kr_free (by unfold kr_a; omega) (by unfold kr_s; omega))
                  have hk800 : (upd x750 (j91 + 5) ((x750 (j91 + 5)) - (0 * r569))) 0 = (nI fi) := (pk_un (by omega)).trans hk_x750_0
                  have hk801 : (upd x750 (j91 + 5) ((x750 (j91 + 5)) - (0 * r569))) 1 = (nI gl) := (pk_un (by omega)).trans hk_x750_1
                  have hk802 : (upd x750 (j91 + 5) ((x750 (j91 + 5)) - (0 * r569))) 2 = (nI mi) := (pk_un (by omega)).trans hk_x750_2
                  have hk803 : (upd x750 (j91 + 5) ((x750 (j91 + 5)) - (0 * r569))) 3 = (nI no) := (pk_un (by omega)).trans hk_x750_3
                  have hk804 : (upd x750 (j91 + 5) ((x750 (j91 + 5)) - (0 * r569))) 4 = (nI un) := (pk_un (by omega)).trans hk_x750_4
                  have hP : va_P D vwCl [(to, .inl (y 0, 228, .inl (upd x750 (j91 + 5) ((x750 (j91 + 5)) - (0 * r569)))))] H := hP
                  have hD : va_D A [(to, .inl (y 0, 228, .inl (upd x750 (j91 + 5) ((x750 (j91 + 5)) - (0 * r569)))))] := hD
                  refine lv_iload_n hx hb dX11_goStep_139 rfl (lv_at hl 4 rfl) ?_
                  refine lv_iload hx hb dX11_goStep_140 (lv_at hl 1 rfl) ?_
                  refine lv_iload_n hx hb dX11_goStep_142 rfl (lv_at hl 2 rfl) ?_
                  refine lv_imul hx hb dX11_goStep_143 ?_
                  refine lv_iadd hx hb dX11_goStep_144 ?_
                  refine lv_istore_n (lv' := [(1, .int (x279 + (0 * r569))), (5, .int ((x750 (j91 + 5)) - (0 * r569))), (4, .int 0), (3, .int r569), (2, .int (nI j91)), (0, .ref to)]) hx hb dX11_goStep_145 rfl hl (by decide) rfl (fun ls hl => ?_)
                  refine lv_iinc (v := (nI (j91 + 1))) (lv' := [(2, .int (nI (j91 + 1))), (1, .int (x279 + (0 * r569))), (5, .int ((x750 (j91 + 5)) - (0 * r569))), (4, .int 0), (3, .int r569), (0, .ref to)]) hx hb dX11_goStep_146 hl (k := 4) rfl (nI_1 j91) (by decide) rfl (fun ls hl => ?_)
                  refine lv_goto (tgt := 4) hx hb dX11_goStep_149 (by decide) ?_
                  exact ihj91 (j91 + 1) (x279 + (0 * r569)) (upd x750 (j91 + 5) ((x750 (j91 + 5)) - (0 * r569))) H locs ls (by omega) (by omega) hr799 hk800 hk801 hk802 hk803 hk804 (kz_k2_u (hI0_j92) (by omega)) (hP.sub [0] rfl) (hD.sub [0] (by decide) rfl) hS (lv_sub hl [0, 1, 5] rfl)
                · skip
                  refine lv_iconst (v := 0) hx hb dX11_goStep_132 (by decide) ?_
                  refine lv_goto (tgt := 138) hx hb dX11_goStep_133 (by decide) ?_
                  refine va_iast hx hb hK hP hD hS 0 0 rfl rfl (vp_in_nI (by omega) (by decide)) dX11_goStep_138 (fun H locs hP hD hS => ?_)
                  rw [nI_clamp (n := (j91 + 5)) (by omega)] at hP hD
                  have hr805 : kr_t 228 (upd x750 (j91 + 5) 0) := kr_up hr_x750 (kr_ok0)
                  have hk806 : (upd x750 (j91 + 5) 0) 0 = (nI fi) := (pk_un (by omega)).trans hk_x750_0
                  have hk807 : (upd x750 (j91 + 5) 0) 1 = (nI gl) := (pk_un (by omega)).trans hk_x750_1
                  have hk808 : (upd x750 (j91 + 5) 0) 2 = (nI mi) := (pk_un (by omega)).trans hk_x750_2
                  have hk809 : (upd x750 (j91 + 5) 0) 3 = (nI no) := (pk_un (by omega)).trans hk_x750_3
                  have hk810 : (upd x750 (j91 + 5) 0) 4 = (nI un) := (pk_un (by omega)).trans hk_x750_4
                  have hP : va_P D vwCl [(to, .inl (y 0, 228, .inl (upd x750 (j91 + 5) 0)))] H := hP
                  have hD : va_D A [(to, .inl (y 0, 228, .inl (upd x750 (j91 + 5) 0)))] := hD
                  refine lv_iload_n hx hb dX11_goStep_139 rfl (lv_at hl 4 rfl) ?_
                  refine lv_iload hx hb dX11_goStep_140 (lv_at hl 1 rfl) ?_
                  refine lv_iload_n hx hb dX11_goStep_142 rfl (lv_at hl 2 rfl) ?_
                  refine lv_imul hx hb dX11_goStep_143 ?_
                  refine lv_iadd hx hb dX11_goStep_144 ?_
                  refine lv_istore_n (lv' := [(1, .int (x279 + (0 * r569))), (5, .int ((x750 (j91 + 5)) - (0 * r569))), (4, .int 0), (3, .int r569), (2, .int (nI j91)), (0, .ref to)]) hx hb dX11_goStep_145 rfl hl (by decide) rfl (fun ls hl => ?_)
                  refine lv_iinc (v := (nI (j91 + 1))) (lv' := [(2, .int (nI (j91 + 1))), (1, .int (x279 + (0 * r569))), (5, .int ((x750 (j91 + 5)) - (0 * r569))), (4, .int 0), (3, .int r569), (0, .ref to)]) hx hb dX11_goStep_146 hl (k := 4) rfl (nI_1 j91) (by decide) rfl (fun ls hl => ?_)
                  refine lv_goto (tgt := 4) hx hb dX11_goStep_149 (by decide) ?_
                  exact ihj91 (j91 + 1) (x279 + (0 * r569)) (upd x750 (j91 + 5) 0) H locs ls (by omega) (by omega) hr805 hk806 hk807 hk808 hk809 hk810 (kz_k2_u (hI0_j92) (by omega)) (hP.sub [0] rfl) (hD.sub [0] (by decide) rfl) hS (lv_sub hl [0, 1, 5] rfl)
              · skip
                have h796 : ¬ gl ≤ j92 := fun q9 => h796 ((nI_leI (a := gl) (b := j92) (by omega) (by omega)).mpr q9)
                refine lv_aload_n hx hb dX11_goStep_49 rfl (lv_at hl 5 rfl) ?_
                refine lv_bipush (v := 11) hx hb dX11_goStep_50 (by decide) ?_
                refine lv_iload hx hb dX11_goStep_52 (lv_at hl 0 rfl) ?_
                refine lv_iadd hx hb dX11_goStep_54 ?_
                rw [show 11 + (nI j92) = nI (j92 + 11) from (nI_add 11 j92).trans (congrArg nI (by omega))]
                refine va_iald hx hb hK hP 0 0 rfl rfl (vp_in_nI (by omega) (by decide)) dX11_goStep_55 ?_
                rw [nI_clamp (n := (j92 + 11)) (by omega)]
                obtain ⟨w811, h812, h813⟩ := kr_at hr_x750 (p := (j92 + 11)) (by omega) (by unfold kr_a; omega)
                rw [h813]
                refine lv_iload_n hx hb dX11_goStep_56 rfl (lv_at hl 3 rfl) ?_
                refine lv_icmp_ne (tgt := 73) hx hb dX11_goStep_57 (by decide) (fun h814 => ?_) (fun h815 => ?_)
                · skip
                  have h814 : ¬ w811 = j91 := fun q9 => h814 ((nI_eq (a := w811) (b := j91) (by omega) (by omega)).mpr q9)
                  refine lv_aload_n hx hb dX11_goStep_73 rfl (lv_at hl 5 rfl) ?_
                  refine lv_bipush (v := 16) hx hb dX11_goStep_74 (by decide) ?_
                  refine lv_iload hx hb dX11_goStep_76 (lv_at hl 0 rfl) ?_
                  refine lv_iadd hx hb dX11_goStep_78 ?_
                  rw [show 16 + (nI j92) = nI (j92 + 16) from (nI_add 16 j92).trans (congrArg nI (by omega))]
                  refine va_iald hx hb hK hP 0 0 rfl rfl (vp_in_nI (by omega) (by decide)) dX11_goStep_79 ?_
                  rw [nI_clamp (n := (j92 + 16)) (by omega)]
                  refine lv_istore (lv' := [(6, .int (x750 (j92 + 16))), (5, .int (nI j92)), (4, .int 0), (3, .int r569), (2, .int (nI j91)), (1, .int x279), (0, .ref to)]) hx hb dX11_goStep_80 hl (by decide) rfl (fun ls hl => ?_)
                  refine lv_aload_n hx hb dX11_goStep_82 rfl (lv_at hl 6 rfl) ?_
                  refine lv_bipush (v := 16) hx hb dX11_goStep_83 (by decide) ?_
                  refine lv_iload hx hb dX11_goStep_85 (lv_at hl 1 rfl) ?_
                  refine lv_iadd hx hb dX11_goStep_87 ?_
                  rw [show 16 + (nI j92) = nI (j92 + 16) from (nI_add 16 j92).trans (congrArg nI (by omega))]
                  refine lv_iload hx hb dX11_goStep_88 (lv_at hl 0 rfl) ?_
                  refine lv_sipush (v := 999) hx hb dX11_goStep_90 (by decide) ?_
                  refine lv_icmp_le (tgt := 102) hx hb dX11_goStep_93 (by decide) (fun h816 => ?_) (fun h817 => ?_)
                  · skip
                    refine lv_iload hx hb dX11_goStep_102 (lv_at hl 0 rfl) ?_
                    refine va_iast hx hb hK hP hD hS 0 0 rfl rfl (vp_in_nI (by omega) (by decide)) dX11_goStep_104 (fun H locs hP hD hS => ?_)
                    rw [nI_clamp (n := (j92 + 16)) (by omega)] at hP hD
                    have hr818 : kr_t 228 (upd x750 (j92 + 16) (x750 (j92 + 16))) := kr_up hr_x750 (kr_move (p := (j92 + 16)) (hr_x750 (j92 + 16) (by omega)) (by unfold kr_a; omega) (by unfold kr_s; omega))
                    have hk819 : (upd x750 (j92 + 16) (x750 (j92 + 16))) 0 = (nI fi) := (pk_un (by omega)).trans hk_x750_0
                    have hk820 : (upd x750 (j92 + 16) (x750 (j92 + 16))) 1 = (nI gl) := (pk_un (by omega)).trans hk_x750_1
                    have hk821 : (upd x750 (j92 + 16) (x750 (j92 + 16))) 2 = (nI mi) := (pk_un (by omega)).trans hk_x750_2
                    have hk822 : (upd x750 (j92 + 16) (x750 (j92 + 16))) 3 = (nI no) := (pk_un (by omega)).trans hk_x750_3
                    have hk823 : (upd x750 (j92 + 16) (x750 (j92 + 16))) 4 = (nI un) := (pk_un (by omega)).trans hk_x750_4
                    have hP : va_P D vwCl [(to, .inl (y 0, 228, .inl (upd x750 (j92 + 16) (x750 (j92 + 16)))))] H := hP
                    have hD : va_D A [(to, .inl (y 0, 228, .inl (upd x750 (j92 + 16) (x750 (j92 + 16)))))] := hD
                    refine lv_iinc (v := (nI (j92 + 1))) (lv' := [(5, .int (nI (j92 + 1))), (6, .int (x750 (j92 + 16))), (4, .int 0), (3, .int r569), (2, .int (nI j91)), (1, .int x279), (0, .ref to)]) hx hb dX11_goStep_105 hl (k := 1) rfl (nI_1 j92) (by decide) rfl (fun ls hl => ?_)
                    refine lv_goto (tgt := 41) hx hb dX11_goStep_108 (by decide) ?_
                    exact ihj92 (j92 + 1) (upd x750 (j92 + 16) (x750 (j92 + 16))) H locs ls (by omega) (by omega) hr818 hk819 hk820 hk821 hk822 hk823 (kz_k2_u (hI0_j92) (by omega)) (hP.sub [0] rfl) (hD.sub [0] (by decide) rfl) hS (lv_sub hl [0, 2, 3, 4, 5, 6] rfl)
                  · skip
                    exact absurd ((hr_x750 (j92 + 16) (by omega)).2 (by unfold kr_s; omega)) h817
                · skip
                  have h815 : w811 = j91 := (nI_eq (a := w811) (b := j91) (by omega) (by omega)).mp h815
                  refine lv_aload_n hx hb dX11_goStep_60 rfl (lv_at hl 5 rfl) ?_
                  refine lv_bipush (v := 16) hx hb dX11_goStep_61 (by decide) ?_
                  refine lv_iload hx hb dX11_goStep_63 (lv_at hl 0 rfl) ?_
                  refine lv_iadd hx hb dX11_goStep_65 ?_
                  rw [show 16 + (nI j92) = nI (j92 + 16) from (nI_add 16 j92).trans (congrArg nI (by omega))]
                  refine va_iald hx hb hK hP 0 0 rfl rfl (vp_in_nI (by omega) (by decide)) dX11_goStep_66 ?_
                  rw [nI_clamp (n := (j92 + 16)) (by omega)]
                  refine lv_iload hx hb dX11_goStep_67 (lv_at hl 1 rfl) ?_
                  refine lv_iadd hx hb dX11_goStep_69 ?_
                  refine lv_goto (tgt := 80) hx hb dX11_goStep_70 (by decide) ?_
                  refine lv_istore (lv' := [(6, .int ((x750 (j92 + 16)) + 0)), (5, .int (nI j92)), (4, .int 0), (3, .int r569), (2, .int (nI j91)), (1, .int x279), (0, .ref to)]) hx hb dX11_goStep_80 hl (by decide) rfl (fun ls hl => ?_)
                  refine lv_aload_n hx hb dX11_goStep_82 rfl (lv_at hl 6 rfl) ?_
                  refine lv_bipush (v := 16) hx hb dX11_goStep_83 (by decide) ?_
                  refine lv_iload hx hb dX11_goStep_85 (lv_at hl 1 rfl) ?_
                  refine lv_iadd hx hb dX11_goStep_87 ?_
                  rw [show 16 + (nI j92) = nI (j92 + 16) from (nI_add 16 j92).trans (congrArg nI (by omega))]
                  refine lv_iload hx hb dX11_goStep_88 (lv_at hl 0 rfl) ?_
                  refine lv_sipush (v := 999) hx hb dX11_goStep_90 (by decide) ?_
                  refine lv_icmp_le (tgt := 102) hx hb dX11_goStep_93 (by decide) (fun h824 => ?_) (fun h825 => ?_)
                  · skip
                    refine lv_iload hx hb dX11_goStep_102 (lv_at hl 0 rfl) ?_
                    refine va_iast hx hb hK hP hD hS 0 0 rfl rfl (vp_in_nI (by omega) (by decide)) dX11_goStep_104 (fun H locs hP hD hS => ?_)
                    rw [nI_clamp (n := (j92 + 16)) (by omega)] at hP hD
                    have hr826 : kr_t 228 (upd x750 (j92 + 16) ((x750 (j92 + 16)) + 0)) := kr_up hr_x750 (kr_oks (by unfold kr_a; omega) (h824))
                    have hk827 : (upd x750 (j92 + 16) ((x750 (j92 + 16)) + 0)) 0 = (nI fi) := (pk_un (by omega)).trans hk_x750_0
                    have hk828 : (upd x750 (j92 + 16) ((x750 (j92 + 16)) + 0)) 1 = (nI gl) := (pk_un (by omega)).trans hk_x750_1
                    have hk829 : (upd x750 (j92 + 16) ((x750 (j92 + 16)) + 0)) 2 = (nI mi) := (pk_un (by omega)).trans hk_x750_2
                    have hk830 : (upd x750 (j92 + 16) ((x750 (j92 + 16)) + 0)) 3 = (nI no) := (pk_un (by omega)).trans hk_x750_3
                    have hk831 : (upd x750 (j92 + 16) ((x750 (j92 + 16)) + 0)) 4 = (nI un) := (pk_un (by omega)).trans hk_x750_4
                    have hP : va_P D vwCl [(to, .inl (y 0, 228, .inl (upd x750 (j92 + 16) ((x750 (j92 + 16)) + 0))))] H := hP
                    have hD : va_D A [(to, .inl (y 0, 228, .inl (upd x750 (j92 + 16) ((x750 (j92 + 16)) + 0))))] := hD
                    refine lv_iinc (v := (nI (j92 + 1))) (lv' := [(5, .int (nI (j92 + 1))), (6, .int ((x750 (j92 + 16)) + 0)), (4, .int 0), (3, .int r569), (2, .int (nI j91)), (1, .int x279), (0, .ref to)]) hx hb dX11_goStep_105 hl (k := 1) rfl (nI_1 j92) (by decide) rfl (fun ls hl => ?_)
                    refine lv_goto (tgt := 41) hx hb dX11_goStep_108 (by decide) ?_
                    exact ihj92 (j92 + 1) (upd x750 (j92 + 16) ((x750 (j92 + 16)) + 0)) H locs ls (by omega) (by omega) hr826 hk827 hk828 hk829 hk830 hk831 (kz_k2_u (hI0_j92) (by omega)) (hP.sub [0] rfl) (hD.sub [0] (by decide) rfl) hS (lv_sub hl [0, 2, 3, 4, 5, 6] rfl)
                  · skip
                    refine lv_sipush (v := 999) hx hb dX11_goStep_96 (by decide) ?_
                    refine lv_goto (tgt := 104) hx hb dX11_goStep_99 (by decide) ?_
                    refine va_iast hx hb hK hP hD hS 0 0 rfl rfl (vp_in_nI (by omega) (by decide)) dX11_goStep_104 (fun H locs hP hD hS => ?_)
                    rw [nI_clamp (n := (j92 + 16)) (by omega)] at hP hD
                    have hr832 : kr_t 228 (upd x750 (j92 + 16) 999) := kr_up hr_x750 (kr_oks (by unfold kr_a; omega) (by decide))
                    have hk833 : (upd x750 (j92 + 16) 999) 0 = (nI fi) := (pk_un (by omega)).trans hk_x750_0
                    have hk834 : (upd x750 (j92 + 16) 999) 1 = (nI gl) := (pk_un (by omega)).trans hk_x750_1
                    have hk835 : (upd x750 (j92 + 16) 999) 2 = (nI mi) := (pk_un (by omega)).trans hk_x750_2
                    have hk836 : (upd x750 (j92 + 16) 999) 3 = (nI no) := (pk_un (by omega)).trans hk_x750_3
                    have hk837 : (upd x750 (j92 + 16) 999) 4 = (nI un) := (pk_un (by omega)).trans hk_x750_4
                    have hP : va_P D vwCl [(to, .inl (y 0, 228, .inl (upd x750 (j92 + 16) 999)))] H := hP
                    have hD : va_D A [(to, .inl (y 0, 228, .inl (upd x750 (j92 + 16) 999)))] := hD
                    refine lv_iinc (v := (nI (j92 + 1))) (lv' := [(5, .int (nI (j92 + 1))), (6, .int ((x750 (j92 + 16)) + 0)), (4, .int 0), (3, .int r569), (2, .int (nI j91)), (1, .int x279), (0, .ref to)]) hx hb dX11_goStep_105 hl (k := 1) rfl (nI_1 j92) (by decide) rfl (fun ls hl => ?_)
                    refine lv_goto (tgt := 41) hx hb dX11_goStep_108 (by decide) ?_
                    exact ihj92 (j92 + 1) (upd x750 (j92 + 16) 999) H locs ls (by omega) (by omega) hr832 hk833 hk834 hk835 hk836 hk837 (kz_k2_u (hI0_j92) (by omega)) (hP.sub [0] rfl) (hD.sub [0] (by decide) rfl) hS (lv_sub hl [0, 2, 3, 4, 5, 6] rfl)
          exact lp794 (gl + 1) 0 x280 _ _ _ (by omega) (by omega) hr_x280 hk_x280_0 hk_x280_1 hk_x280_2 hk_x280_3 hk_x280_4 hI0_j91 hP hD hS (lv_sub hl [0, 1, 2, 3, 4, 5] rfl)
  exact lp559 (fi + 1) 0 0 ft _ _ _ (by omega) (by omega) hkt hk0_ hk1_ hk2_ hk3_ hk4_ kz_k2_0 hP hD hS (lv_sub hl [0, 1, 2] rfl)

set_option maxHeartbeats 4000000 in
set_option maxRecDepth 100000 in
theorem gr_DgoNight (l : Launch) (D : va_G) (y : Nat → ClassId) (to : Nat) (ft : Nat → Int32) (fi : Nat) (gl : Nat) (mi : Nat) (no : Nat) (un : Nat) (hk0_ : ft 0 = (nI fi)) (hk1_ : ft 1 = (nI gl)) (hk2_ : ft 2 = (nI mi)) (hk3_ : ft 3 = (nI no)) (hk4_ : ft 4 = (nI un)) (hkt : kr_t 228 ft) (hfi : fi ≤ 6) (hgl : gl ≤ 5) (hmi : mi ≤ 4) (hno : no ≤ 6) (hun : un ≤ 8) : kw_Mv l yX11_goNight wsX11_goNight ({ frames := 2, cells := 0, slots := 0, locals := 80 }) D y [.ref to] [(to, .inl (y 0, 228, .inl ft))] (fun (u : (Nat → Int32)) => kr_t 228 u ∧ u 0 = (nI fi) ∧ u 1 = (nI gl) ∧ u 2 = (nI mi) ∧ u 3 = (nI no) ∧ u 4 = (nI un) ∧ kz_k2 ft u) (fun u => [(to, .inl (y 0, 228, .inl u))]) 0 0 := by
  refine kw_Mv.of (cc := cX11_goNight) (maxL := 3) (ret := none) (by decide) rfl ?_
  intro pZ eZ s mZ beZ meZ cZ A hE
  obtain ⟨hx, hb, hr, hml, hts, hown, hlocks, hin, hA, hP, hD, hK, hN⟩ := hE
  have hS : va_S A s.heap s.heap [] := va_S.rf
  have hl := lv_entry ([.ref to]) (n := 3) (Nat.le_of_ble_eq_true rfl)
  rw [lg_entry_eq]
  generalize (lg_sl ([.ref to]) ++ List.replicate (3 - (lg_sl ([.ref to])).length) Slot.unset).toArray = ls at hl ⊢
  have hl : lv_has ls 3 [(0, .ref to)] := hl
  refine lv_iconst (v := 0) hx hb dX11_goNight_0 (by decide) ?_
  refine lv_istore_n (lv' := [(1, .int 0), (0, .ref to)]) hx hb dX11_goNight_1 rfl hl (by decide) rfl (fun ls hl => ?_)
  have lp282 : ∀ (fuj91 j91 : Nat) (x141 : Nat → Int32) (H : Heap) (locs : List Loc) (ls : Array Slot), j91 ≤ gl → gl - j91 < fuj91 → kr_t 228 x141 → x141 0 = (nI fi) → x141 1 = (nI gl) → x141 2 = (nI mi) → x141 3 = (nI no) → x141 4 = (nI un) → kz_k2 ft x141 → va_P D vwCl [(to, .inl (y 0, 228, .inl x141))] H → va_D A [(to, .inl (y 0, 228, .inl x141))] → va_S A s.heap H locs → lv_has ls 3 [(1, .int (nI j91)), (0, .ref to)] → W pZ l eZ ({ frames := 2, cells := 0, slots := 0, locals := 80 }) s mZ [.ref to].toArray beZ meZ cZ H locs 0 0 (MQ beZ (va_Qv (fun (u : (Nat → Int32)) => kr_t 228 u ∧ u 0 = (nI fi) ∧ u 1 = (nI gl) ∧ u 2 = (nI mi) ∧ u 3 = (nI no) ∧ u 4 = (nI un) ∧ kz_k2 ft u) (kw_B D (fun u => [(to, .inl (y 0, 228, .inl u))]) A) A) [.ref to].toArray s 0 0 A) (F0 mZ 2 ls []) := by
    intro fuj91
    induction fuj91 with
    | zero => intro j91 x141 H locs ls hj9 hf9; exact absurd hf9 (Nat.not_lt_zero _)
    | succ fuj91 ihj91 =>
      intro j91 x141 H locs ls hj91 hfj91 hr_x141 hk_x141_0 hk_x141_1 hk_x141_2 hk_x141_3 hk_x141_4 hI0_j91 hP hD hS hl
      refine lv_iload_n hx hb dX11_goNight_2 rfl (lv_at hl 0 rfl) ?_
      refine lv_aload_n hx hb dX11_goNight_3 rfl (lv_at hl 1 rfl) ?_
      refine lv_iconst (v := 1) hx hb dX11_goNight_4 (by decide) ?_
      refine va_iald hx hb hK hP 0 0 rfl rfl (by unfold vp_in; decide) dX11_goNight_5 ?_
      rw [show ((1 : Int32)).toNatClampNeg = 1 from rfl]
      rw [show (x141 1) = (nI gl) from hk_x141_1]
      refine lv_icmp_ge (tgt := 30) hx hb dX11_goNight_6 (by decide) (fun h283 => ?_) (fun h284 => ?_)
      · skip
        have h283 : gl ≤ j91 := (nI_leI (a := gl) (b := j91) (by omega) (by omega)).mp h283
        refine lv_iconst (v := 0) hx hb dX11_goNight_30 (by decide) ?_
        refine lv_istore_n (lv' := [(1, .int 0), (0, .ref to)]) hx hb dX11_goNight_31 rfl hl (by decide) rfl (fun ls hl => ?_)
        have lp370 : ∀ (fuj92 j92 : Nat) (x327 : Nat → Int32) (H : Heap) (locs : List Loc) (ls : Array Slot), j92 ≤ fi → fi - j92 < fuj92 → kr_t 228 x327 → x327 0 = (nI fi) → x327 1 = (nI gl) → x327 2 = (nI mi) → x327 3 = (nI no) → x327 4 = (nI un) → kz_k2 ft x327 → va_P D vwCl [(to, .inl (y 0, 228, .inl x327))] H → va_D A [(to, .inl (y 0, 228, .inl x327))] → va_S A s.heap H locs → lv_has ls 3 [(1, .int (nI j92)), (0, .ref to)] → W pZ l eZ ({ frames := 2, cells := 0, slots := 0, locals := 80 }) s mZ [.ref to].toArray beZ meZ cZ H locs 0 0 (MQ beZ (va_Qv (fun (u : (Nat → Int32)) => kr_t 228 u ∧ u 0 = (nI fi) ∧ u 1 = (nI gl) ∧ u 2 = (nI mi) ∧ u 3 = (nI no) ∧ u 4 = (nI un) ∧ kz_k2 ft u) (kw_B D (fun u => [(to, .inl (y 0, 228, .inl u))]) A) A) [.ref to].toArray s 0 0 A) (F0 mZ 32 ls []) := by
          intro fuj92
          induction fuj92 with
          | zero => intro j92 x327 H locs ls hj9 hf9; exact absurd hf9 (Nat.not_lt_zero _)
          | succ fuj92 ihj92 =>
            intro j92 x327 H locs ls hj92 hfj92 hr_x327 hk_x327_0 hk_x327_1 hk_x327_2 hk_x327_3 hk_x327_4 hI0_j92 hP hD hS hl
            refine lv_iload_n hx hb dX11_goNight_32 rfl (lv_at hl 0 rfl) ?_
            refine lv_aload_n hx hb dX11_goNight_33 rfl (lv_at hl 1 rfl) ?_
            refine lv_iconst (v := 0) hx hb dX11_goNight_34 (by decide) ?_
            refine va_iald hx hb hK hP 0 0 rfl rfl (by unfold vp_in; decide) dX11_goNight_35 ?_
            rw [show ((0 : Int32)).toNatClampNeg = 0 from rfl]
            rw [show (x327 0) = (nI fi) from hk_x327_0]
            refine lv_icmp_ge (tgt := 71) hx hb dX11_goNight_36 (by decide) (fun h371 => ?_) (fun h372 => ?_)
            · skip
              have h371 : fi ≤ j92 := (nI_leI (a := fi) (b := j92) (by omega) (by omega)).mp h371
              refine lv_aload_n hx hb dX11_goNight_71 rfl (lv_at hl 1 rfl) ?_
              refine lv_bipush (v := 23) hx hb dX11_goNight_72 (by decide) ?_
              refine lv_dup2_11 hx hb dX11_goNight_74 rfl rfl ?_
              refine va_iald hx hb hK hP 0 0 rfl rfl (by unfold vp_in; decide) dX11_goNight_75 ?_
              rw [show ((23 : Int32)).toNatClampNeg = 23 from rfl]
              refine lv_aload_n hx hb dX11_goNight_76 rfl (lv_at hl 1 rfl) ?_
              refine lv_bipush (v := 23) hx hb dX11_goNight_77 (by decide) ?_
              refine va_iald hx hb hK hP 0 0 rfl rfl (by unfold vp_in; decide) dX11_goNight_79 ?_
              rw [show ((23 : Int32)).toNatClampNeg = 23 from rfl]
              refine lv_sipush (v := 999) hx hb dX11_goNight_80 (by decide) ?_
              refine lv_icmp_ge (tgt := 90) hx hb dX11_goNight_83 (by decide) (fun h373 => ?_) (fun h374 => ?_)
              · skip
                refine lv_iconst (v := 0) hx hb dX11_goNight_90 (by decide) ?_
                refine lv_iadd hx hb dX11_goNight_91 ?_
                refine va_iast hx hb hK hP hD hS 0 0 rfl rfl (by unfold vp_in; decide) dX11_goNight_92 (fun H locs hP hD hS => ?_)
                rw [show ((23 : Int32)).toNatClampNeg = 23 from rfl] at hP hD
                have hr375 : kr_t 228 (upd x327 23 ((x327 23) + 0)) := kr_up hr_x327 (kr_free (by unfold kr_a; omega) (by unfold kr_s; omega))
                have hk376 : (upd x327 23 ((x327 23) + 0)) 0 = (nI fi) := (pk_un (by decide)).trans hk_x327_0
                have hk377 : (upd x327 23 ((x327 23) + 0)) 1 = (nI gl) := (pk_un (by decide)).trans hk_x327_1
                have hk378 : (upd x327 23 ((x327 23) + 0)) 2 = (nI mi) := (pk_un (by decide)).trans hk_x327_2
                have hk379 : (upd x327 23 ((x327 23) + 0)) 3 = (nI no) := (pk_un (by decide)).trans hk_x327_3
                have hk380 : (upd x327 23 ((x327 23) + 0)) 4 = (nI un) := (pk_un (by decide)).trans hk_x327_4
                have hP : va_P D vwCl [(to, .inl (y 0, 228, .inl (upd x327 23 ((x327 23) + 0))))] H := hP
                have hD : va_D A [(to, .inl (y 0, 228, .inl (upd x327 23 ((x327 23) + 0))))] := hD
                refine lv_aload_n hx hb dX11_goNight_93 rfl (lv_at hl 1 rfl) ?_
                refine lv_bipush (v := 21) hx hb dX11_goNight_94 (by decide) ?_
                refine lv_iconst (v := 0) hx hb dX11_goNight_96 (by decide) ?_
                refine va_iast hx hb hK hP hD hS 0 0 rfl rfl (by unfold vp_in; decide) dX11_goNight_97 (fun H locs hP hD hS => ?_)
                rw [show ((21 : Int32)).toNatClampNeg = 21 from rfl] at hP hD
                have hr381 : kr_t 228 (upd (upd x327 23 ((x327 23) + 0)) 21 0) := kr_up hr375 (kr_ok0)
                have hk382 : (upd (upd x327 23 ((x327 23) + 0)) 21 0) 0 = (nI fi) := (pk_un (by decide)).trans hk376
                have hk383 : (upd (upd x327 23 ((x327 23) + 0)) 21 0) 1 = (nI gl) := (pk_un (by decide)).trans hk377
                have hk384 : (upd (upd x327 23 ((x327 23) + 0)) 21 0) 2 = (nI mi) := (pk_un (by decide)).trans hk378
                have hk385 : (upd (upd x327 23 ((x327 23) + 0)) 21 0) 3 = (nI no) := (pk_un (by decide)).trans hk379
                have hk386 : (upd (upd x327 23 ((x327 23) + 0)) 21 0) 4 = (nI un) := (pk_un (by decide)).trans hk380
                have hP : va_P D vwCl [(to, .inl (y 0, 228, .inl (upd (upd x327 23 ((x327 23) + 0)) 21 0)))] H := hP
                have hD : va_D A [(to, .inl (y 0, 228, .inl (upd (upd x327 23 ((x327 23) + 0)) 21 0)))] := hD
                exact W.vret hx hb hr (fun tZ ht hW => ⟨⟨((upd (upd x327 23 ((x327 23) + 0)) 21 0)), rfl, ⟨hr381, hk382, hk383, hk384, hk385, hk386, kz_k2_u (kz_k2_u (hI0_j92) (by first | omega | (dsimp only; omega))) (by first | omega | (dsimp only; omega))⟩, by rw [ht]; exact hP.sub [0] rfl, hD.sub [0] (by decide) rfl⟩, hS.F ht⟩) hS.2.2 dX11_goNight_98
              · skip
                refine lv_iconst (v := 1) hx hb dX11_goNight_86 (by decide) ?_
                refine lv_goto (tgt := 91) hx hb dX11_goNight_87 (by decide) ?_
                refine lv_iadd hx hb dX11_goNight_91 ?_
                refine va_iast hx hb hK hP hD hS 0 0 rfl rfl (by unfold vp_in; decide) dX11_goNight_92 (fun H locs hP hD hS => ?_)
                rw [show ((23 : Int32)).toNatClampNeg = 23 from rfl] at hP hD
                have hr387 : kr_t 228 (upd x327 23 ((x327 23) + 1)) := kr_up hr_x327 (kr_free (by unfold kr_a; omega) (by unfold kr_s; omega))
                have hk388 : (upd x327 23 ((x327 23) + 1)) 0 = (nI fi) := (pk_un (by decide)).trans hk_x327_0
                have hk389 : (upd x327 23 ((x327 23) + 1)) 1 = (nI gl) := (pk_un (by decide)).trans hk_x327_1
                have hk390 : (upd x327 23 ((x327 23) + 1)) 2 = (nI mi) := (pk_un (by decide)).trans hk_x327_2
                have hk391 : (upd x327 23 ((x327 23) + 1)) 3 = (nI no) := (pk_un (by decide)).trans hk_x327_3
                have hk392 : (upd x327 23 ((x327 23) + 1)) 4 = (nI un) := (pk_un (by decide)).trans hk_x327_4
                have hP : va_P D vwCl [(to, .inl (y 0, 228, .inl (upd x327 23 ((x327 23) + 1))))] H := hP
                have hD : va_D A [(to, .inl (y 0, 228, .inl (upd x327 23 ((x327 23) + 1))))] := hD
                refine lv_aload_n hx hb dX11_goNight_93 rfl (lv_at hl 1 rfl) ?_
                refine lv_bipush (v := 21) hx hb dX11_goNight_94 (by decide) ?_
                refine lv_iconst (v := 0) hx hb dX11_goNight_96 (by decide) ?_
                refine va_iast hx hb hK hP hD hS 0 0 rfl rfl (by unfold vp_in; decide) dX11_goNight_97 (fun H locs hP hD hS => ?_)
                rw [show ((21 : Int32)).toNatClampNeg = 21 from rfl] at hP hD
                have hr393 : kr_t 228 (upd (upd x327 23 ((x327 23) + 1)) 21 0) := kr_up hr387 (kr_ok0)
                have hk394 : (upd (upd x327 23 ((x327 23) + 1)) 21 0) 0 = (nI fi) := (pk_un (by decide)).trans hk388
                have hk395 : (upd (upd x327 23 ((x327 23) + 1)) 21 0) 1 = (nI gl) := (pk_un (by decide)).trans hk389
                have hk396 : (upd (upd x327 23 ((x327 23) + 1)) 21 0) 2 = (nI mi) := (pk_un (by decide)).trans hk390
                have hk397 : (upd (upd x327 23 ((x327 23) + 1)) 21 0) 3 = (nI no) := (pk_un (by decide)).trans hk391
                have hk398 : (upd (upd x327 23 ((x327 23) + 1)) 21 0) 4 = (nI un) := (pk_un (by decide)).trans hk392
                have hP : va_P D vwCl [(to, .inl (y 0, 228, .inl (upd (upd x327 23 ((x327 23) + 1)) 21 0)))] H := hP
                have hD : va_D A [(to, .inl (y 0, 228, .inl (upd (upd x327 23 ((x327 23) + 1)) 21 0)))] := hD
                exact W.vret hx hb hr (fun tZ ht hW => ⟨⟨((upd (upd x327 23 ((x327 23) + 1)) 21 0)), rfl, ⟨hr393, hk394, hk395, hk396, hk397, hk398, kz_k2_u (kz_k2_u (hI0_j92) (by first | omega | (dsimp only; omega))) (by first | omega | (dsimp only; omega))⟩, by rw [ht]; exact hP.sub [0] rfl, hD.sub [0] (by decide) rfl⟩, hS.F ht⟩) hS.2.2 dX11_goNight_98
            · skip
              have h372 : ¬ fi ≤ j92 := fun q9 => h372 ((nI_leI (a := fi) (b := j92) (by omega) (by omega)).mpr q9)
              refine lv_aload_n hx hb dX11_goNight_39 rfl (lv_at hl 1 rfl) ?_
              refine lv_iconst (v := 5) hx hb dX11_goNight_40 (by decide) ?_
              refine lv_iload_n hx hb dX11_goNight_41 rfl (lv_at hl 0 rfl) ?_
              refine lv_iadd hx hb dX11_goNight_42 ?_
              rw [show 5 + (nI j92) = nI (j92 + 5) from (nI_add 5 j92).trans (congrArg nI (by omega))]
              refine va_iald hx hb hK hP 0 0 rfl rfl (vp_in_nI (by omega) (by decide)) dX11_goNight_43 ?_
              rw [nI_clamp (n := (j92 + 5)) (by omega)]
              refine lv_bipush (v := 20) hx hb dX11_goNight_44 (by decide) ?_
              refine lv_iadd hx hb dX11_goNight_46 ?_
              refine lv_istore_n (lv' := [(2, .int ((x327 (j92 + 5)) + 20)), (1, .int (nI j92)), (0, .ref to)]) hx hb dX11_goNight_47 rfl hl (by decide) rfl (fun ls hl => ?_)
              refine lv_aload_n hx hb dX11_goNight_48 rfl (lv_at hl 2 rfl) ?_
              refine lv_iconst (v := 5) hx hb dX11_goNight_49 (by decide) ?_
              refine lv_iload_n hx hb dX11_goNight_50 rfl (lv_at hl 1 rfl) ?_
              refine lv_iadd hx hb dX11_goNight_51 ?_
              rw [show 5 + (nI j92) = nI (j92 + 5) from (nI_add 5 j92).trans (congrArg nI (by omega))]
              refine lv_iload_n hx hb dX11_goNight_52 rfl (lv_at hl 0 rfl) ?_
              refine lv_bipush (v := 60) hx hb dX11_goNight_53 (by decide) ?_
              refine lv_icmp_le (tgt := 63) hx hb dX11_goNight_55 (by decide) (fun h399 => ?_) (fun h400 => ?_)
              · skip
                refine lv_iload_n hx hb dX11_goNight_63 rfl (lv_at hl 0 rfl) ?_
                refine va_iast hx hb hK hP hD hS 0 0 rfl rfl (vp_in_nI (by omega) (by decide)) dX11_goNight_64 (fun H locs hP hD hS => ?_)
                rw [nI_clamp (n := (j92 + 5)) (by omega)] at hP hD
                have hr401 : kr_t 228 (upd x327 (j92 + 5) ((x327 (j92 + 5)) + 20)) := kr_up hr_x327 (kr_free (by unfold kr_a; omega) (by unfold kr_s; omega))
                have hk402 : (upd x327 (j92 + 5) ((x327 (j92 + 5)) + 20)) 0 = (nI fi) := (pk_un (by omega)).trans hk_x327_0
                have hk403 : (upd x327 (j92 + 5) ((x327 (j92 + 5)) + 20)) 1 = (nI gl) := (pk_un (by omega)).trans hk_x327_1
                have hk404 : (upd x327 (j92 + 5) ((x327 (j92 + 5)) + 20)) 2 = (nI mi) := (pk_un (by omega)).trans hk_x327_2
                have hk405 : (upd x327 (j92 + 5) ((x327 (j92 + 5)) + 20)) 3 = (nI no) := (pk_un (by omega)).trans hk_x327_3
                have hk406 : (upd x327 (j92 + 5) ((x327 (j92 + 5)) + 20)) 4 = (nI un) := (pk_un (by omega)).trans hk_x327_4
                have hP : va_P D vwCl [(to, .inl (y 0, 228, .inl (upd x327 (j92 + 5) ((x327 (j92 + 5)) + 20))))] H := hP
                have hD : va_D A [(to, .inl (y 0, 228, .inl (upd x327 (j92 + 5) ((x327 (j92 + 5)) + 20))))] := hD
                refine lv_iinc (v := (nI (j92 + 1))) (lv' := [(1, .int (nI (j92 + 1))), (2, .int ((x327 (j92 + 5)) + 20)), (0, .ref to)]) hx hb dX11_goNight_65 hl (k := 1) rfl (nI_1 j92) (by decide) rfl (fun ls hl => ?_)
                refine lv_goto (tgt := 32) hx hb dX11_goNight_68 (by decide) ?_
                exact ihj92 (j92 + 1) (upd x327 (j92 + 5) ((x327 (j92 + 5)) + 20)) H locs ls (by omega) (by omega) hr401 hk402 hk403 hk404 hk405 hk406 (kz_k2_u (hI0_j92) (by omega)) (hP.sub [0] rfl) (hD.sub [0] (by decide) rfl) hS (lv_sub hl [0, 2] rfl)
              · skip
                refine lv_bipush (v := 60) hx hb dX11_goNight_58 (by decide) ?_
                refine lv_goto (tgt := 64) hx hb dX11_goNight_60 (by decide) ?_
                refine va_iast hx hb hK hP hD hS 0 0 rfl rfl (vp_in_nI (by omega) (by decide)) dX11_goNight_64 (fun H locs hP hD hS => ?_)
                rw [nI_clamp (n := (j92 + 5)) (by omega)] at hP hD
                have hr407 : kr_t 228 (upd x327 (j92 + 5) 60) := kr_up hr_x327 (kr_free (by unfold kr_a; omega) (by unfold kr_s; omega))
                have hk408 : (upd x327 (j92 + 5) 60) 0 = (nI fi) := (pk_un (by omega)).trans hk_x327_0
                have hk409 : (upd x327 (j92 + 5) 60) 1 = (nI gl) := (pk_un (by omega)).trans hk_x327_1
                have hk410 : (upd x327 (j92 + 5) 60) 2 = (nI mi) := (pk_un (by omega)).trans hk_x327_2
                have hk411 : (upd x327 (j92 + 5) 60) 3 = (nI no) := (pk_un (by omega)).trans hk_x327_3
                have hk412 : (upd x327 (j92 + 5) 60) 4 = (nI un) := (pk_un (by omega)).trans hk_x327_4
                have hP : va_P D vwCl [(to, .inl (y 0, 228, .inl (upd x327 (j92 + 5) 60)))] H := hP
                have hD : va_D A [(to, .inl (y 0, 228, .inl (upd x327 (j92 + 5) 60)))] := hD
                refine lv_iinc (v := (nI (j92 + 1))) (lv' := [(1, .int (nI (j92 + 1))), (2, .int ((x327 (j92 + 5)) + 20)), (0, .ref to)]) hx hb dX11_goNight_65 hl (k := 1) rfl (nI_1 j92) (by decide) rfl (fun ls hl => ?_)
                refine lv_goto (tgt := 32) hx hb dX11_goNight_68 (by decide) ?_
                exact ihj92 (j92 + 1) (upd x327 (j92 + 5) 60) H locs ls (by omega) (by omega) hr407 hk408 hk409 hk410 hk411 hk412 (kz_k2_u (hI0_j92) (by omega)) (hP.sub [0] rfl) (hD.sub [0] (by decide) rfl) hS (lv_sub hl [0, 2] rfl)
        exact lp370 (fi + 1) 0 x141 _ _ _ (by omega) (by omega) hr_x141 hk_x141_0 hk_x141_1 hk_x141_2 hk_x141_3 hk_x141_4 hI0_j91 hP hD hS (lv_sub hl [0, 1] rfl)
      · skip
        have h284 : ¬ gl ≤ j91 := fun q9 => h284 ((nI_leI (a := gl) (b := j91) (by omega) (by omega)).mpr q9)
        refine lv_aload_n hx hb dX11_goNight_9 rfl (lv_at hl 1 rfl) ?_
        refine lv_bipush (v := 16) hx hb dX11_goNight_10 (by decide) ?_
        refine lv_iload_n hx hb dX11_goNight_12 rfl (lv_at hl 0 rfl) ?_
        refine lv_iadd hx hb dX11_goNight_13 ?_
        rw [show 16 + (nI j91) = nI (j91 + 16) from (nI_add 16 j91).trans (congrArg nI (by omega))]
        refine lv_aload_n hx hb dX11_goNight_14 rfl (lv_at hl 1 rfl) ?_
        refine lv_bipush (v := 16) hx hb dX11_goNight_15 (by decide) ?_
        refine lv_iload_n hx hb dX11_goNight_17 rfl (lv_at hl 0 rfl) ?_
        refine lv_iadd hx hb dX11_goNight_18 ?_
        rw [show 16 + (nI j91) = nI (j91 + 16) from (nI_add 16 j91).trans (congrArg nI (by omega))]
        refine va_iald hx hb hK hP 0 0 rfl rfl (vp_in_nI (by omega) (by decide)) dX11_goNight_19 ?_
        rw [nI_clamp (n := (j91 + 16)) (by omega)]
        have hs413 : kw_Split [(to, .inl (y 0, 228, .inl x141))] [] [(to, .inl (y 0, 228, .inl x141))] [] [0] := ⟨rfl, rfl, rfl, rfl, rfl, by decide⟩
        refine kw_go_i hs413 hP hD hS hA (va_runS (As := [.int (x141 (j91 + 16))]) (rest := [.int (nI (j91 + 16)), .ref to]) ⟨hx, hb, hml, hown, hts⟩ (gr_fadedBy l D y (x141 (j91 + 16)) ((hr_x141 (j91 + 16) (by omega)).2 (by unfold kr_s; omega)) _) (va_cwS 1 hts gX11_goNight_X11_fadedBy rfl rfl rfl (by decide +kernel) ⟨Nat.le_of_ble_eq_true rfl, Nat.le_of_ble_eq_true rfl⟩) (kw_PreS hs413 hP hD hK hN) rfl rfl hl.1 rfl (lv_room (Nat.le_of_ble_eq_true rfl)) dX11_goNight_20 ⟨Nat.le_of_ble_eq_true rfl, Nat.le_of_ble_eq_true rfl⟩) (fun r414 u415 H locs hq hP hD hS => ?_)
        obtain ⟨h416, rfl⟩ := hq
        have hP : va_P D vwCl [(to, .inl (y 0, 228, .inl x141))] H := hP
        have hD : va_D A [(to, .inl (y 0, 228, .inl x141))] := hD
        refine va_iast hx hb hK hP hD hS 0 0 rfl rfl (vp_in_nI (by omega) (by decide)) dX11_goNight_23 (fun H locs hP hD hS => ?_)
        rw [nI_clamp (n := (j91 + 16)) (by omega)] at hP hD
        have hr417 : kr_t 228 (upd x141 (j91 + 16) ((x141 (j91 + 16)) - (((x141 (j91 + 16)) + 3) / 4))) := kr_up hr_x141 (kr_oks (by unfold kr_a; omega) (h416))
        have hk418 : (upd x141 (j91 + 16) ((x141 (j91 + 16)) - (((x141 (j91 + 16)) + 3) / 4))) 0 = (nI fi) := (pk_un (by omega)).trans hk_x141_0
        have hk419 : (upd x141 (j91 + 16) ((x141 (j91 + 16)) - (((x141 (j91 + 16)) + 3) / 4))) 1 = (nI gl) := (pk_un (by omega)).trans hk_x141_1
        have hk420 : (upd x141 (j91 + 16) ((x141 (j91 + 16)) - (((x141 (j91 + 16)) + 3) / 4))) 2 = (nI mi) := (pk_un (by omega)).trans hk_x141_2
        have hk421 : (upd x141 (j91 + 16) ((x141 (j91 + 16)) - (((x141 (j91 + 16)) + 3) / 4))) 3 = (nI no) := (pk_un (by omega)).trans hk_x141_3
        have hk422 : (upd x141 (j91 + 16) ((x141 (j91 + 16)) - (((x141 (j91 + 16)) + 3) / 4))) 4 = (nI un) := (pk_un (by omega)).trans hk_x141_4
        have hP : va_P D vwCl [(to, .inl (y 0, 228, .inl (upd x141 (j91 + 16) ((x141 (j91 + 16)) - (((x141 (j91 + 16)) + 3) / 4)))))] H := hP
        have hD : va_D A [(to, .inl (y 0, 228, .inl (upd x141 (j91 + 16) ((x141 (j91 + 16)) - (((x141 (j91 + 16)) + 3) / 4)))))] := hD
        refine lv_iinc (v := (nI (j91 + 1))) (lv' := [(1, .int (nI (j91 + 1))), (0, .ref to)]) hx hb dX11_goNight_24 hl (k := 0) rfl (nI_1 j91) (by decide) rfl (fun ls hl => ?_)
        refine lv_goto (tgt := 2) hx hb dX11_goNight_27 (by decide) ?_
        exact ihj91 (j91 + 1) (upd x141 (j91 + 16) ((x141 (j91 + 16)) - (((x141 (j91 + 16)) + 3) / 4))) H locs ls (by omega) (by omega) hr417 hk418 hk419 hk420 hk421 hk422 (kz_k2_u (hI0_j91) (by omega)) (hP.sub [0] rfl) (hD.sub [0] (by decide) rfl) hS (lv_sub hl [0, 1] rfl)
  exact lp282 (gl + 1) 0 ft _ _ _ (by omega) (by omega) hkt hk0_ hk1_ hk2_ hk3_ hk4_ kz_k2_0 hP hD hS (lv_sub hl [0, 1] rfl)

set_option maxHeartbeats 4000000 in
set_option maxRecDepth 100000 in
theorem gq_d_glean (l : Launch) (D : va_G) (y : Nat → ClassId) (mo : Nat) (to : Nat) (ke : Nat) (ik : Nat) (mrf : Nat) (ha : Nat) (r0 : Nat) (mbr : Nat) (mbp : Nat) (mby : Nat) (an : Nat) (va : Nat) (mab : Int64) (mbl : Int64) (bl : Nat) (ta : Nat) (tl : Nat) (tk : Nat) (vv : Int32) (frf : Nat → Int32) (ft : Nat → Int32) (fi : Nat) (gl : Nat) (mi : Nat) (no : Nat) (un : Nat) (x : Int32) (hk0_ : ft 0 = (nI fi)) (hk1_ : ft 1 = (nI gl)) (hk2_ : ft 2 = (nI mi)) (hk3_ : ft 3 = (nI no)) (hk4_ : ft 4 = (nI un)) (hkt : kr_t 228 ft) (hfi : fi ≤ 6) (hgl : gl ≤ 5) (hmi : mi ≤ 4) (hno : no ≤ 6) (hun : un ≤ 8) (hgf : (gl = 0 ∨ 0 < fi)) : kw_Mi l yX11_glean wsX11_glean ({ frames := 6, cells := 0, slots := 0, locals := 177 }) D y [.ref mo, .int x] [(mo, .inr (11, [.ref to, .ref ke, .ref ik, .ref mrf, .long mab, .long mbl, .ref ha, .ref r0, .ref mbr, .ref mbp, .ref mby, .int (nI bl), .int (nI ta), .int (nI tl), .int (nI tk), .int vv, .ref an, .ref va])), (mrf, .inl (y 0, 3, .inl frf)), (to, .inl (y 0, 228, .inl ft))] (fun (r : Int32) (u : (Nat → Int32) × (Nat → Int32) × Nat) => kr_t 228 u.2.1 ∧ u.2.1 0 = (nI fi) ∧ u.2.1 1 = (nI gl) ∧ u.2.1 2 = (nI mi) ∧ u.2.1 3 = (nI no) ∧ u.2.2 ≤ 8 ∧ u.2.1 4 = (nI u.2.2) ∧ kz_k2 ft u.2.1 ∧ (gl = 0 ∨ 0 < fi)) (fun u => [(mo, .inr (11, [.ref to, .ref ke, .ref ik, .ref mrf, .long mab, .long mbl, .ref ha, .ref r0, .ref mbr, .ref mbp, .ref mby, .int (nI bl), .int (nI ta), .int (nI tl), .int (nI tk), .int vv, .ref an, .ref va])), (mrf, .inl (y 0, 3, .inl u.1)), (to, .inl (y 0, 228, .inl u.2.1))]) 0 0 := by
  refine kw_Mi.of (cc := cX11_glean) (maxL := 4) (ret := (some .int)) (by decide) rfl ?_
  intro pZ eZ s mZ beZ meZ cZ A hE
  obtain ⟨hx, hb, hr, hml, hts, hown, hlocks, hin, hA, hP, hD, hK, hN⟩ := hE
  have hS : va_S A s.heap s.heap [] := va_S.rf
  have hl := lv_entry ([.ref mo, .int x]) (n := 4) (Nat.le_of_ble_eq_true rfl)
  rw [lg_entry_eq]
  generalize (lg_sl ([.ref mo, .int x]) ++ List.replicate (4 - (lg_sl ([.ref mo, .int x])).length) Slot.unset).toArray = ls at hl ⊢
  have hl : lv_has ls 4 [(0, .ref mo), (1, .int x)] := hl
  have fw1 := hts (.constantLong RX11 117 (12)) (List.mem_of_getElem? (i := 1) rfl)
  have fw2 := hts (.fieldLink RX11 7 "GleanDuskModel" "told" "[I") (List.mem_of_getElem? (i := 2) rfl)
  have iw11 : ∀ w ∈ wsX110, w ∈ wsX11_glean := fun _ h => List.mem_cons_of_mem _ (List.mem_append_right _ h)
  refine lv_iload_n hx hb dX11_glean_0 rfl (lv_at hl 1 rfl) ?_
  refine lv_i2l (v := x.toInt64) hx hb dX11_glean_1 (rfl) ?_
  refine lv_lconst (v := 1) hx hb dX11_glean_2 (by decide) ?_
  refine lv_ldc2 (v := 12) hx hb hown fw1 dX11_glean_3 ?_
  have hs1 : kw_Split [(mo, .inr (11, [.ref to, .ref ke, .ref ik, .ref mrf, .long mab, .long mbl, .ref ha, .ref r0, .ref mbr, .ref mbp, .ref mby, .int (nI bl), .int (nI ta), .int (nI tl), .int (nI tk), .int vv, .ref an, .ref va])), (mrf, .inl (y 0, 3, .inl frf)), (to, .inl (y 0, 228, .inl ft))] [] [(mo, .inr (11, [.ref to, .ref ke, .ref ik, .ref mrf, .long mab, .long mbl, .ref ha, .ref r0, .ref mbr, .ref mbp, .ref mby, .int (nI bl), .int (nI ta), .int (nI tl), .int (nI tk), .int vv, .ref an, .ref va])), (mrf, .inl (y 0, 3, .inl frf)), (to, .inl (y 0, 228, .inl ft))] [] [0, 1, 2] := ⟨rfl, rfl, rfl, rfl, rfl, by decide⟩
  refine kw_go_i hs1 hP hD hS hA (va_runS (As := [.long x.toInt64, .long 1, .long 12]) (rest := []) ⟨hx, hb, hml, hown, hts⟩ (gr_in l D y x 1 12 (by omega) (by omega) _) (va_cwS 3 hts gX11_glean_X11_in rfl rfl rfl (by decide +kernel) ⟨Nat.le_of_ble_eq_true rfl, Nat.le_of_ble_eq_true rfl⟩) (kw_PreS hs1 hP hD hK hN) rfl rfl hl.1 rfl (lv_room (Nat.le_of_ble_eq_true rfl)) dX11_glean_6 ⟨Nat.le_of_ble_eq_true rfl, Nat.le_of_ble_eq_true rfl⟩) (fun r2 u3 H locs hq hP hD hS => ?_)
  rcases hq with ⟨j4, h5, h6, rfl, rfl⟩ | ⟨h7, rfl⟩
  · skip
    have hP : va_P D vwCl [(mo, .inr (11, [.ref to, .ref ke, .ref ik, .ref mrf, .long mab, .long mbl, .ref ha, .ref r0, .ref mbr, .ref mbp, .ref mby, .int (nI bl), .int (nI ta), .int (nI tl), .int (nI tk), .int vv, .ref an, .ref va])), (mrf, .inl (y 0, 3, .inl frf)), (to, .inl (y 0, 228, .inl ft))] H := hP
    have hD : va_D A [(mo, .inr (11, [.ref to, .ref ke, .ref ik, .ref mrf, .long mab, .long mbl, .ref ha, .ref r0, .ref mbr, .ref mbp, .ref mby, .int (nI bl), .int (nI ta), .int (nI tl), .int (nI tk), .int vv, .ref an, .ref va])), (mrf, .inl (y 0, 3, .inl frf)), (to, .inl (y 0, 228, .inl ft))] := hD
    refine lv_if_ne (tgt := 19) hx hb dX11_glean_9 (by decide) (fun _ => ?_) (fun h9 => absurd h9 (by decide))
    refine lv_aload_n hx hb dX11_glean_19 rfl (lv_at hl 0 rfl) ?_
    refine va_get (D := D) (ci := 11) (v := .ref to) (C := RX11) (T := TX11) (N := 18) hx hb hts iw11 hown hK hP 0 rfl rfl 0 (by decide) fw2 (fun _ h9 => h9) rfl dX11_glean_20 ?_
    refine lv_bipush (v := 21) hx hb dX11_glean_23 (by decide) ?_
    refine va_iald hx hb hK hP 2 0 rfl rfl (by unfold vp_in; decide) dX11_glean_25 ?_
    rw [show ((21 : Int32)).toNatClampNeg = 21 from rfl]
    refine lv_iload_n hx hb dX11_glean_26 rfl (lv_at hl 1 rfl) ?_
    refine lv_iadd hx hb dX11_glean_27 ?_
    refine lv_bipush (v := 12) hx hb dX11_glean_28 (by decide) ?_
    refine lv_icmp_le (tgt := 38) hx hb dX11_glean_30 (by decide) (fun h8 => ?_) (fun h9 => ?_)
    · skip
      refine lv_iconst (v := 0) hx hb dX11_glean_38 (by decide) ?_
      refine lv_istore_n (lv' := [(2, .int 0), (0, .ref mo), (1, .int (nI j4))]) hx hb dX11_glean_39 rfl hl (by decide) rfl (fun ls hl => ?_)
      refine lv_aload_n hx hb dX11_glean_40 rfl (lv_at hl 1 rfl) ?_
      have hs10 : kw_Split [(mo, .inr (11, [.ref to, .ref ke, .ref ik, .ref mrf, .long mab, .long mbl, .ref ha, .ref r0, .ref mbr, .ref mbp, .ref mby, .int (nI bl), .int (nI ta), .int (nI tl), .int (nI tk), .int vv, .ref an, .ref va])), (mrf, .inl (y 0, 3, .inl frf)), (to, .inl (y 0, 228, .inl ft))] [(mo, .inr (11, [.ref to, .ref ke, .ref ik, .ref mrf, .long mab, .long mbl, .ref ha, .ref r0, .ref mbr, .ref mbp, .ref mby, .int (nI bl), .int (nI ta), .int (nI tl), .int (nI tk), .int vv, .ref an, .ref va])), (to, .inl (y 0, 228, .inl ft))] [(mrf, .inl (y 0, 3, .inl frf))] [0, 2] [1] := ⟨rfl, rfl, rfl, rfl, rfl, by decide⟩
      refine kw_go_v hs10 hP hD hS hA (va_runV (As := []) (rest := []) ⟨hx, hb, hml, hown, hts⟩ (gr_Dkeep l D y mo to ke ik mrf ha r0 mbr mbp mby an va mab mbl bl ta tl tk vv ft fi gl mi no un hk0_ hk1_ hk2_ hk3_ hk4_ hkt hfi hgl hmi hno hun _) (cwV 0 hts gX11_glean_X11_keep rfl rfl rfl (by decide +kernel) ⟨Nat.le_of_ble_eq_true rfl, Nat.le_of_ble_eq_true rfl⟩) (kw_PreV (ci := 11) (q0 := 0) hs10 hP hD hK hN rfl rfl) rfl rfl hl.1 rfl (lv_room (Nat.le_of_ble_eq_true rfl)) dX11_glean_41 ⟨Nat.le_of_ble_eq_true rfl, Nat.le_of_ble_eq_true rfl⟩) (fun u12 H locs hq hP hD hS => ?_)
      obtain ⟨v13, v14⟩ := u12
      try dsimp only at hq
      obtain ⟨h15, h16, h17, h18, h19, h20, h21, h22⟩ := hq
      have hP : va_P D vwCl [(mrf, .inl (y 0, 3, .inl frf)), (mo, .inr (11, [.ref to, .ref ke, .ref ik, .ref mrf, .long mab, .long mbl, .ref ha, .ref r0, .ref mbr, .ref mbp, .ref mby, .int (nI bl), .int (nI ta), .int (nI tl), .int (nI tk), .int vv, .ref an, .ref va])), (to, .inl (y 0, 228, .inl v13))] H := hP
      have hD : va_D A [(mrf, .inl (y 0, 3, .inl frf)), (mo, .inr (11, [.ref to, .ref ke, .ref ik, .ref mrf, .long mab, .long mbl, .ref ha, .ref r0, .ref mbr, .ref mbp, .ref mby, .int (nI bl), .int (nI ta), .int (nI tl), .int (nI tk), .int vv, .ref an, .ref va])), (to, .inl (y 0, 228, .inl v13))] := hD
      refine lv_iconst (v := 0) hx hb dX11_glean_44 (by decide) ?_
      refine lv_istore_n (lv' := [(3, .int 0), (2, .int 0), (0, .ref mo), (1, .int (nI j4))]) hx hb dX11_glean_45 rfl hl (by decide) rfl (fun ls hl => ?_)
      have lp51 : ∀ (fuj91 j91 : Nat) (x36 : Int32) (x37 : Nat → Int32) (H : Heap) (locs : List Loc) (ls : Array Slot), j91 ≤ j4 → j4 - j91 < fuj91 → kr_t 228 x37 → x37 0 = (nI fi) → x37 1 = (nI gl) → x37 2 = (nI mi) → x37 3 = (nI no) → x37 4 = (nI v14) → kz_k2 ft x37 → va_P D vwCl [(mrf, .inl (y 0, 3, .inl frf)), (mo, .inr (11, [.ref to, .ref ke, .ref ik, .ref mrf, .long mab, .long mbl, .ref ha, .ref r0, .ref mbr, .ref mbp, .ref mby, .int (nI bl), .int (nI ta), .int (nI tl), .int (nI tk), .int vv, .ref an, .ref va])), (to, .inl (y 0, 228, .inl x37))] H → va_D A [(mrf, .inl (y 0, 3, .inl frf)), (mo, .inr (11, [.ref to, .ref ke, .ref ik, .ref mrf, .long mab, .long mbl, .ref ha, .ref r0, .ref mbr, .ref mbp, .ref mby, .int (nI bl), .int (nI ta), .int (nI tl), .int (nI tk), .int vv, .ref an, .ref va])), (to, .inl (y 0, 228, .inl x37))] → va_S A s.heap H locs → lv_has ls 4 [(3, .int (nI j91)), (2, .int x36), (0, .ref mo), (1, .int (nI j4))] → W pZ l eZ ({ frames := 6, cells := 0, slots := 0, locals := 177 }) s mZ [.ref mo, .int (nI j4)].toArray beZ meZ cZ H locs 0 0 (MQ beZ (va_Qi (fun (r : Int32) (u : (Nat → Int32) × (Nat → Int32) × Nat) => kr_t 228 u.2.1 ∧ u.2.1 0 = (nI fi) ∧ u.2.1 1 = (nI gl) ∧ u.2.1 2 = (nI mi) ∧ u.2.1 3 = (nI no) ∧ u.2.2 ≤ 8 ∧ u.2.1 4 = (nI u.2.2) ∧ kz_k2 ft u.2.1 ∧ (gl = 0 ∨ 0 < fi)) (kw_B D (fun u => [(mo, .inr (11, [.ref to, .ref ke, .ref ik, .ref mrf, .long mab, .long mbl, .ref ha, .ref r0, .ref mbr, .ref mbp, .ref mby, .int (nI bl), .int (nI ta), .int (nI tl), .int (nI tk), .int vv, .ref an, .ref va])), (mrf, .inl (y 0, 3, .inl u.1)), (to, .inl (y 0, 228, .inl u.2.1))]) A) A) [.ref mo, .int (nI j4)].toArray s 0 0 A) (F0 mZ 46 ls []) := by
        intro fuj91
        induction fuj91 with
        | zero => intro j91 x36 x37 H locs ls hj9 hf9; exact absurd hf9 (Nat.not_lt_zero _)
        | succ fuj91 ihj91 =>
          intro j91 x36 x37 H locs ls hj91 hfj91 hr_x37 hk_x37_0 hk_x37_1 hk_x37_2 hk_x37_3 hk_x37_4 hI0_j91 hP hD hS hl
          refine lv_iload_n hx hb dX11_glean_46 rfl (lv_at hl 0 rfl) ?_
          refine lv_iload_n hx hb dX11_glean_47 rfl (lv_at hl 3 rfl) ?_
          refine lv_icmp_ge (tgt := 67) hx hb dX11_glean_48 (by decide) (fun h52 => ?_) (fun h53 => ?_)
          · skip
            have h52 : j4 ≤ j91 := (nI_leI (a := j4) (b := j91) (by omega) (by omega)).mp h52
            refine lv_iload_n hx hb dX11_glean_67 rfl (lv_at hl 1 rfl) ?_
            exact W.iret (v := x36) hx hb hr (fun tZ ht hW => ⟨⟨x36, (frf, x37, v14), rfl, ⟨hr_x37, hk_x37_0, hk_x37_1, hk_x37_2, hk_x37_3, by first | omega | (dsimp only; omega), hk_x37_4, hI0_j91, by first | omega | (dsimp only; omega)⟩, by rw [ht]; exact hP.sub [1, 0, 2] rfl, hD.sub [1, 0, 2] (by decide) rfl⟩, hS.F ht⟩) hS.2.2 dX11_glean_68
          · skip
            have h53 : ¬ j4 ≤ j91 := fun q9 => h53 ((nI_leI (a := j4) (b := j91) (by omega) (by omega)).mpr q9)
            refine lv_iload_n hx hb dX11_glean_51 rfl (lv_at hl 1 rfl) ?_
            refine lv_aload_n hx hb dX11_glean_52 rfl (lv_at hl 2 rfl) ?_
            refine va_get (D := D) (ci := 11) (v := .ref to) (C := RX11) (T := TX11) (N := 18) hx hb hts iw11 hown hK hP 1 rfl rfl 0 (by decide) fw2 (fun _ h9 => h9) rfl dX11_glean_53 ?_
            have hs54 : kw_Split [(mrf, .inl (y 0, 3, .inl frf)), (mo, .inr (11, [.ref to, .ref ke, .ref ik, .ref mrf, .long mab, .long mbl, .ref ha, .ref r0, .ref mbr, .ref mbp, .ref mby, .int (nI bl), .int (nI ta), .int (nI tl), .int (nI tk), .int vv, .ref an, .ref va])), (to, .inl (y 0, 228, .inl x37))] [(to, .inl (y 0, 228, .inl x37))] [(mrf, .inl (y 0, 3, .inl frf)), (mo, .inr (11, [.ref to, .ref ke, .ref ik, .ref mrf, .long mab, .long mbl, .ref ha, .ref r0, .ref mbr, .ref mbp, .ref mby, .int (nI bl), .int (nI ta), .int (nI tl), .int (nI tk), .int vv, .ref an, .ref va]))] [2] [0, 1] := ⟨rfl, rfl, rfl, rfl, rfl, by decide⟩
            refine kw_go_i hs54 hP hD hS hA (va_runS (As := [.ref to]) (rest := [.int x36]) ⟨hx, hb, hml, hown, hts⟩ (gr_DgoStep l D y to x37 fi gl mi no v14 hk_x37_0 hk_x37_1 hk_x37_2 hk_x37_3 hk_x37_4 hr_x37 hfi hgl hmi hno (by omega) _) (va_cwS 1 hts gX11_glean_X11_goStep rfl rfl rfl (by decide +kernel) ⟨Nat.le_of_ble_eq_true rfl, Nat.le_of_ble_eq_true rfl⟩) (kw_PreS hs54 hP hD hK hN) rfl rfl hl.1 rfl (lv_room (Nat.le_of_ble_eq_true rfl)) dX11_glean_56 ⟨Nat.le_of_ble_eq_true rfl, Nat.le_of_ble_eq_true rfl⟩) (fun r55 u56 H locs hq hP hD hS => ?_)
            obtain ⟨v57, rfl⟩ : ∃ z, z = u56 := ⟨_, rfl⟩
            try dsimp only at hq
            obtain ⟨h58, h59, h60, h61, h62, h63, h64⟩ := hq
            have hP : va_P D vwCl [(mrf, .inl (y 0, 3, .inl frf)), (mo, .inr (11, [.ref to, .ref ke, .ref ik, .ref mrf, .long mab, .long mbl, .ref ha, .ref r0, .ref mbr, .ref mbp, .ref mby, .int (nI bl), .int (nI ta), .int (nI tl), .int (nI tk), .int vv, .ref an, .ref va])), (to, .inl (y 0, 228, .inl v57))] H := hP
            have hD : va_D A [(mrf, .inl (y 0, 3, .inl frf)), (mo, .inr (11, [.ref to, .ref ke, .ref ik, .ref mrf, .long mab, .long mbl, .ref ha, .ref r0, .ref mbr, .ref mbp, .ref mby, .int (nI bl), .int (nI ta), .int (nI tl), .int (nI tk), .int vv, .ref an, .ref va])), (to, .inl (y 0, 228, .inl v57))] := hD
            refine lv_iadd hx hb dX11_glean_59 ?_
            refine lv_istore_n (lv' := [(2, .int (x36 + r55)), (3, .int (nI j91)), (0, .ref mo), (1, .int (nI j4))]) hx hb dX11_glean_60 rfl hl (by decide) rfl (fun ls hl => ?_)
            refine lv_iinc (v := (nI (j91 + 1))) (lv' := [(3, .int (nI (j91 + 1))), (2, .int (x36 + r55)), (0, .ref mo), (1, .int (nI j4))]) hx hb dX11_glean_61 hl (k := 1) rfl (nI_1 j91) (by decide) rfl (fun ls hl => ?_)
            refine lv_goto (tgt := 46) hx hb dX11_glean_64 (by decide) ?_
            exact ihj91 (j91 + 1) (x36 + r55) v57 H locs ls (by omega) (by omega) h58 h59 h60 h61 h62 h63 (kz_k2_t (hI0_j91) h64) (hP.sub [0, 1, 2] rfl) (hD.sub [0, 1, 2] (by decide) rfl) hS (lv_sub hl [0, 1, 2, 3] rfl)
      exact lp51 (j4 + 1) 0 0 v13 _ _ _ (by omega) (by omega) h15 h16 h17 h18 h19 h21 h22 hP hD hS (lv_sub hl [0, 1, 2, 3] rfl)
    · skip
      refine lv_aload_n hx hb dX11_glean_33 rfl (lv_at hl 0 rfl) ?_
      have hs65 : kw_Split [(mo, .inr (11, [.ref to, .ref ke, .ref ik, .ref mrf, .long mab, .long mbl, .ref ha, .ref r0, .ref mbr, .ref mbp, .ref mby, .int (nI bl), .int (nI ta), .int (nI tl), .int (nI tk), .int vv, .ref an, .ref va])), (mrf, .inl (y 0, 3, .inl frf)), (to, .inl (y 0, 228, .inl ft))] [(mo, .inr (11, [.ref to, .ref ke, .ref ik, .ref mrf, .long mab, .long mbl, .ref ha, .ref r0, .ref mbr, .ref mbp, .ref mby, .int (nI bl), .int (nI ta), .int (nI tl), .int (nI tk), .int vv, .ref an, .ref va])), (mrf, .inl (y 0, 3, .inl frf))] [(to, .inl (y 0, 228, .inl ft))] [0, 1] [2] := ⟨rfl, rfl, rfl, rfl, rfl, by decide⟩
      refine kw_go_i hs65 hP hD hS hA (va_runV (As := []) (rest := []) ⟨hx, hb, hml, hown, hts⟩ (gr_no l D y mo to ke ik mrf ha r0 mbr mbp mby an va mab mbl bl ta tl tk vv frf  _) (cwV 0 hts gX11_glean_X11_no rfl rfl rfl (by decide +kernel) ⟨Nat.le_of_ble_eq_true rfl, Nat.le_of_ble_eq_true rfl⟩) (kw_PreV (ci := 11) (q0 := 0) hs65 hP hD hK hN rfl rfl) rfl rfl hl.1 rfl (lv_room (Nat.le_of_ble_eq_true rfl)) dX11_glean_34 ⟨Nat.le_of_ble_eq_true rfl, Nat.le_of_ble_eq_true rfl⟩) (fun r66 u67 H locs hq hP hD hS => ?_)
      obtain rfl := hq
      have hP : va_P D vwCl [(to, .inl (y 0, 228, .inl ft)), (mo, .inr (11, [.ref to, .ref ke, .ref ik, .ref mrf, .long mab, .long mbl, .ref ha, .ref r0, .ref mbr, .ref mbp, .ref mby, .int (nI bl), .int (nI ta), .int (nI tl), .int (nI tk), .int vv, .ref an, .ref va])), (mrf, .inl (y 0, 3, .inl (upd frf 1 ((frf 1) + 1))))] H := hP
      have hD : va_D A [(to, .inl (y 0, 228, .inl ft)), (mo, .inr (11, [.ref to, .ref ke, .ref ik, .ref mrf, .long mab, .long mbl, .ref ha, .ref r0, .ref mbr, .ref mbp, .ref mby, .int (nI bl), .int (nI ta), .int (nI tl), .int (nI tk), .int vv, .ref an, .ref va])), (mrf, .inl (y 0, 3, .inl (upd frf 1 ((frf 1) + 1))))] := hD
      exact W.iret (v := (-3)) hx hb hr (fun tZ ht hW => ⟨⟨(-3), ((upd frf 1 ((frf 1) + 1)), ft, un), rfl, ⟨hkt, hk0_, hk1_, hk2_, hk3_, by first | omega | (dsimp only; omega), hk4_, kz_k2_0, by first | omega | (dsimp only; omega)⟩, by rw [ht]; exact hP.sub [1, 2, 0] rfl, hD.sub [1, 2, 0] (by decide) rfl⟩, hS.F ht⟩) hS.2.2 dX11_glean_37
  · skip
    have hP : va_P D vwCl [(mo, .inr (11, [.ref to, .ref ke, .ref ik, .ref mrf, .long mab, .long mbl, .ref ha, .ref r0, .ref mbr, .ref mbp, .ref mby, .int (nI bl), .int (nI ta), .int (nI tl), .int (nI tk), .int vv, .ref an, .ref va])), (mrf, .inl (y 0, 3, .inl frf)), (to, .inl (y 0, 228, .inl ft))] H := hP
    have hD : va_D A [(mo, .inr (11, [.ref to, .ref ke, .ref ik, .ref mrf, .long mab, .long mbl, .ref ha, .ref r0, .ref mbr, .ref mbp, .ref mby, .int (nI bl), .int (nI ta), .int (nI tl), .int (nI tk), .int vv, .ref an, .ref va])), (mrf, .inl (y 0, 3, .inl frf)), (to, .inl (y 0, 228, .inl ft))] := hD
    refine lv_if_ne (tgt := 19) hx hb dX11_glean_9 (by decide) (fun h9 => absurd h9 (by decide)) (fun _ => ?_)
    refine lv_aload_n hx hb dX11_glean_12 rfl (lv_at hl 0 rfl) ?_
    refine lv_bipush (v := (-2)) hx hb dX11_glean_13 (by decide) ?_
    have hs68 : kw_Split [(mo, .inr (11, [.ref to, .ref ke, .ref ik, .ref mrf, .long mab, .long mbl, .ref ha, .ref r0, .ref mbr, .ref mbp, .ref mby, .int (nI bl), .int (nI ta), .int (nI tl), .int (nI tk), .int vv, .ref an, .ref va])), (mrf, .inl (y 0, 3, .inl frf)), (to, .inl (y 0, 228, .inl ft))] [(mo, .inr (11, [.ref to, .ref ke, .ref ik, .ref mrf, .long mab, .long mbl, .ref ha, .ref r0, .ref mbr, .ref mbp, .ref mby, .int (nI bl), .int (nI ta), .int (nI tl), .int (nI tk), .int vv, .ref an, .ref va])), (mrf, .inl (y 0, 3, .inl frf))] [(to, .inl (y 0, 228, .inl ft))] [0, 1] [2] := ⟨rfl, rfl, rfl, rfl, rfl, by decide⟩
    refine kw_go_i hs68 hP hD hS hA (va_runV (As := [.int (-2)]) (rest := []) ⟨hx, hb, hml, hown, hts⟩ (gr_bad l D y mo to ke ik mrf ha r0 mbr mbp mby an va mab mbl bl ta tl tk vv frf (-2)  _) (cwV 1 hts gX11_glean_X11_bad rfl rfl rfl (by decide +kernel) ⟨Nat.le_of_ble_eq_true rfl, Nat.le_of_ble_eq_true rfl⟩) (kw_PreV (ci := 11) (q0 := 0) hs68 hP hD hK hN rfl rfl) rfl rfl hl.1 rfl (lv_room (Nat.le_of_ble_eq_true rfl)) dX11_glean_15 ⟨Nat.le_of_ble_eq_true rfl, Nat.le_of_ble_eq_true rfl⟩) (fun r69 u70 H locs hq hP hD hS => ?_)
    obtain rfl := hq
    have hP : va_P D vwCl [(to, .inl (y 0, 228, .inl ft)), (mo, .inr (11, [.ref to, .ref ke, .ref ik, .ref mrf, .long mab, .long mbl, .ref ha, .ref r0, .ref mbr, .ref mbp, .ref mby, .int (nI bl), .int (nI ta), .int (nI tl), .int (nI tk), .int vv, .ref an, .ref va])), (mrf, .inl (y 0, 3, .inl (upd frf 0 ((frf 0) + 1))))] H := hP
    have hD : va_D A [(to, .inl (y 0, 228, .inl ft)), (mo, .inr (11, [.ref to, .ref ke, .ref ik, .ref mrf, .long mab, .long mbl, .ref ha, .ref r0, .ref mbr, .ref mbp, .ref mby, .int (nI bl), .int (nI ta), .int (nI tl), .int (nI tk), .int vv, .ref an, .ref va])), (mrf, .inl (y 0, 3, .inl (upd frf 0 ((frf 0) + 1))))] := hD
    exact W.iret (v := (-2)) hx hb hr (fun tZ ht hW => ⟨⟨(-2), ((upd frf 0 ((frf 0) + 1)), ft, un), rfl, ⟨hkt, hk0_, hk1_, hk2_, hk3_, by first | omega | (dsimp only; omega), hk4_, kz_k2_0, by first | omega | (dsimp only; omega)⟩, by rw [ht]; exact hP.sub [1, 2, 0] rfl, hD.sub [1, 2, 0] (by decide) rfl⟩, hS.F ht⟩) hS.2.2 dX11_glean_18

set_option maxHeartbeats 4000000 in
set_option maxRecDepth 100000 in
theorem gq_d_night (l : Launch) (D : va_G) (y : Nat → ClassId) (mo : Nat) (to : Nat) (ke : Nat) (ik : Nat) (mrf : Nat) (ha : Nat) (r0 : Nat) (mbr : Nat) (mbp : Nat) (mby : Nat) (an : Nat) (va : Nat) (mab : Int64) (mbl : Int64) (bl : Nat) (ta : Nat) (tl : Nat) (tk : Nat) (vv : Int32) (frf : Nat → Int32) (ft : Nat → Int32) (fi : Nat) (gl : Nat) (mi : Nat) (no : Nat) (un : Nat) (hk0_ : ft 0 = (nI fi)) (hk1_ : ft 1 = (nI gl)) (hk2_ : ft 2 = (nI mi)) (hk3_ : ft 3 = (nI no)) (hk4_ : ft 4 = (nI un)) (hkt : kr_t 228 ft) (hfi : fi ≤ 6) (hgl : gl ≤ 5) (hmi : mi ≤ 4) (hno : no ≤ 6) (hun : un ≤ 8) (hgf : (gl = 0 ∨ 0 < fi)) : kw_Mi l yX11_night wsX11_night ({ frames := 3, cells := 0, slots := 0, locals := 102 }) D y [.ref mo] [(mo, .inr (11, [.ref to, .ref ke, .ref ik, .ref mrf, .long mab, .long mbl, .ref ha, .ref r0, .ref mbr, .ref mbp, .ref mby, .int (nI bl), .int (nI ta), .int (nI tl), .int (nI tk), .int vv, .ref an, .ref va])), (mrf, .inl (y 0, 3, .inl frf)), (to, .inl (y 0, 228, .inl ft))] (fun (r : Int32) (u : (Nat → Int32) × Nat) => kr_t 228 u.1 ∧ u.1 0 = (nI fi) ∧ u.1 1 = (nI gl) ∧ u.1 2 = (nI mi) ∧ u.1 3 = (nI no) ∧ u.2 ≤ 8 ∧ u.1 4 = (nI u.2) ∧ kz_k2 ft u.1 ∧ (gl = 0 ∨ 0 < fi)) (fun u => [(mo, .inr (11, [.ref to, .ref ke, .ref ik, .ref mrf, .long mab, .long mbl, .ref ha, .ref r0, .ref mbr, .ref mbp, .ref mby, .int (nI bl), .int (nI ta), .int (nI tl), .int (nI tk), .int vv, .ref an, .ref va])), (mrf, .inl (y 0, 3, .inl frf)), (to, .inl (y 0, 228, .inl u.1))]) 0 0 := by
  refine kw_Mi.of (cc := cX11_night) (maxL := 1) (ret := (some .int)) (by decide) rfl ?_
  intro pZ eZ s mZ beZ meZ cZ A hE
  obtain ⟨hx, hb, hr, hml, hts, hown, hlocks, hin, hA, hP, hD, hK, hN⟩ := hE
  have hS : va_S A s.heap s.heap [] := va_S.rf
  have hl := lv_entry ([.ref mo]) (n := 1) (Nat.le_of_ble_eq_true rfl)
  rw [lg_entry_eq]
  generalize (lg_sl ([.ref mo]) ++ List.replicate (1 - (lg_sl ([.ref mo])).length) Slot.unset).toArray = ls at hl ⊢
  have hl : lv_has ls 1 [(0, .ref mo)] := hl
  have fw1 := hts (.fieldLink RX11 7 "GleanDuskModel" "told" "[I") (List.mem_of_getElem? (i := 1) rfl)
  have iw11 : ∀ w ∈ wsX110, w ∈ wsX11_night := fun _ h => List.mem_cons_of_mem _ (List.mem_append_right _ h)
  refine lv_aload_n hx hb dX11_night_0 rfl (lv_at hl 0 rfl) ?_
  have hs1 : kw_Split [(mo, .inr (11, [.ref to, .ref ke, .ref ik, .ref mrf, .long mab, .long mbl, .ref ha, .ref r0, .ref mbr, .ref mbp, .ref mby, .int (nI bl), .int (nI ta), .int (nI tl), .int (nI tk), .int vv, .ref an, .ref va])), (mrf, .inl (y 0, 3, .inl frf)), (to, .inl (y 0, 228, .inl ft))] [(mo, .inr (11, [.ref to, .ref ke, .ref ik, .ref mrf, .long mab, .long mbl, .ref ha, .ref r0, .ref mbr, .ref mbp, .ref mby, .int (nI bl), .int (nI ta), .int (nI tl), .int (nI tk), .int vv, .ref an, .ref va])), (to, .inl (y 0, 228, .inl ft))] [(mrf, .inl (y 0, 3, .inl frf))] [0, 2] [1] := ⟨rfl, rfl, rfl, rfl, rfl, by decide⟩
  refine kw_go_v hs1 hP hD hS hA (va_runV (As := []) (rest := []) ⟨hx, hb, hml, hown, hts⟩ (gr_Dkeep l D y mo to ke ik mrf ha r0 mbr mbp mby an va mab mbl bl ta tl tk vv ft fi gl mi no un hk0_ hk1_ hk2_ hk3_ hk4_ hkt hfi hgl hmi hno hun _) (cwV 0 hts gX11_night_X11_keep rfl rfl rfl (by decide +kernel) ⟨Nat.le_of_ble_eq_true rfl, Nat.le_of_ble_eq_true rfl⟩) (kw_PreV (ci := 11) (q0 := 0) hs1 hP hD hK hN rfl rfl) rfl rfl hl.1 rfl (lv_room (Nat.le_of_ble_eq_true rfl)) dX11_night_1 ⟨Nat.le_of_ble_eq_true rfl, Nat.le_of_ble_eq_true rfl⟩) (fun u3 H locs hq hP hD hS => ?_)
  obtain ⟨v4, v5⟩ := u3
  try dsimp only at hq
  obtain ⟨h6, h7, h8, h9, h10, h11, h12, h13⟩ := hq
  have hP : va_P D vwCl [(mrf, .inl (y 0, 3, .inl frf)), (mo, .inr (11, [.ref to, .ref ke, .ref ik, .ref mrf, .long mab, .long mbl, .ref ha, .ref r0, .ref mbr, .ref mbp, .ref mby, .int (nI bl), .int (nI ta), .int (nI tl), .int (nI tk), .int vv, .ref an, .ref va])), (to, .inl (y 0, 228, .inl v4))] H := hP
  have hD : va_D A [(mrf, .inl (y 0, 3, .inl frf)), (mo, .inr (11, [.ref to, .ref ke, .ref ik, .ref mrf, .long mab, .long mbl, .ref ha, .ref r0, .ref mbr, .ref mbp, .ref mby, .int (nI bl), .int (nI ta), .int (nI tl), .int (nI tk), .int vv, .ref an, .ref va])), (to, .inl (y 0, 228, .inl v4))] := hD
  refine lv_aload_n hx hb dX11_night_4 rfl (lv_at hl 0 rfl) ?_
  refine va_get (D := D) (ci := 11) (v := .ref to) (C := RX11) (T := TX11) (N := 18) hx hb hts iw11 hown hK hP 1 rfl rfl 0 (by decide) fw1 (fun _ h9 => h9) rfl dX11_night_5 ?_
  have hs14 : kw_Split [(mrf, .inl (y 0, 3, .inl frf)), (mo, .inr (11, [.ref to, .ref ke, .ref ik, .ref mrf, .long mab, .long mbl, .ref ha, .ref r0, .ref mbr, .ref mbp, .ref mby, .int (nI bl), .int (nI ta), .int (nI tl), .int (nI tk), .int vv, .ref an, .ref va])), (to, .inl (y 0, 228, .inl v4))] [(to, .inl (y 0, 228, .inl v4))] [(mrf, .inl (y 0, 3, .inl frf)), (mo, .inr (11, [.ref to, .ref ke, .ref ik, .ref mrf, .long mab, .long mbl, .ref ha, .ref r0, .ref mbr, .ref mbp, .ref mby, .int (nI bl), .int (nI ta), .int (nI tl), .int (nI tk), .int vv, .ref an, .ref va]))] [2] [0, 1] := ⟨rfl, rfl, rfl, rfl, rfl, by decide⟩
  refine kw_go_v hs14 hP hD hS hA (va_runS (As := [.ref to]) (rest := []) ⟨hx, hb, hml, hown, hts⟩ (gr_DgoNight l D y to v4 fi gl mi no v5 h7 h8 h9 h10 h12 h6 hfi hgl hmi hno (by omega) _) (va_cwS 1 hts gX11_night_X11_goNight rfl rfl rfl (by decide +kernel) ⟨Nat.le_of_ble_eq_true rfl, Nat.le_of_ble_eq_true rfl⟩) (kw_PreS hs14 hP hD hK hN) rfl rfl hl.1 rfl (lv_room (Nat.le_of_ble_eq_true rfl)) dX11_night_8 ⟨Nat.le_of_ble_eq_true rfl, Nat.le_of_ble_eq_true rfl⟩) (fun u16 H locs hq hP hD hS => ?_)
  obtain ⟨v17, rfl⟩ : ∃ z, z = u16 := ⟨_, rfl⟩
  try dsimp only at hq
  obtain ⟨h18, h19, h20, h21, h22, h23, h24⟩ := hq
  have hP : va_P D vwCl [(mrf, .inl (y 0, 3, .inl frf)), (mo, .inr (11, [.ref to, .ref ke, .ref ik, .ref mrf, .long mab, .long mbl, .ref ha, .ref r0, .ref mbr, .ref mbp, .ref mby, .int (nI bl), .int (nI ta), .int (nI tl), .int (nI tk), .int vv, .ref an, .ref va])), (to, .inl (y 0, 228, .inl v17))] H := hP
  have hD : va_D A [(mrf, .inl (y 0, 3, .inl frf)), (mo, .inr (11, [.ref to, .ref ke, .ref ik, .ref mrf, .long mab, .long mbl, .ref ha, .ref r0, .ref mbr, .ref mbp, .ref mby, .int (nI bl), .int (nI ta), .int (nI tl), .int (nI tk), .int vv, .ref an, .ref va])), (to, .inl (y 0, 228, .inl v17))] := hD
  refine lv_aload_n hx hb dX11_night_11 rfl (lv_at hl 0 rfl) ?_
  refine va_get (D := D) (ci := 11) (v := .ref to) (C := RX11) (T := TX11) (N := 18) hx hb hts iw11 hown hK hP 1 rfl rfl 0 (by decide) fw1 (fun _ h9 => h9) rfl dX11_night_12 ?_
  refine lv_bipush (v := 23) hx hb dX11_night_15 (by decide) ?_
  refine va_iald hx hb hK hP 2 0 rfl rfl (by unfold vp_in; decide) dX11_night_17 ?_
  rw [show ((23 : Int32)).toNatClampNeg = 23 from rfl]
  exact W.iret (v := (v17 23)) hx hb hr (fun tZ ht hW => ⟨⟨(v17 23), (v17, v5), rfl, ⟨h18, h19, h20, h21, h22, by first | omega | (dsimp only; omega), h23, kz_k2_t (h13) h24, by first | omega | (dsimp only; omega)⟩, by rw [ht]; exact hP.sub [1, 0, 2] rfl, hD.sub [1, 0, 2] (by decide) rfl⟩, hS.F ht⟩) hS.2.2 dX11_night_18

set_option maxHeartbeats 4000000 in
set_option maxRecDepth 100000 in
theorem gq_d_goes (l : Launch) (D : va_G) (y : Nat → ClassId) (mo : Nat) (to : Nat) (ke : Nat) (ik : Nat) (mrf : Nat) (ha : Nat) (r0 : Nat) (mbr : Nat) (mbp : Nat) (mby : Nat) (an : Nat) (va : Nat) (mab : Int64) (mbl : Int64) (bl : Nat) (ta : Nat) (tl : Nat) (tk : Nat) (vv : Int32) (frf : Nat → Int32) (ft : Nat → Int32) (fi : Nat) (gl : Nat) (mi : Nat) (no : Nat) (un : Nat) (x : Int32) (x2 : Int32) (hk0_ : ft 0 = (nI fi)) (hk1_ : ft 1 = (nI gl)) (hk2_ : ft 2 = (nI mi)) (hk3_ : ft 3 = (nI no)) (hk4_ : ft 4 = (nI un)) (hkt : kr_t 228 ft) (hfi : fi ≤ 6) (hgl : gl ≤ 5) (hmi : mi ≤ 4) (hno : no ≤ 6) (hun : un ≤ 8) (hgf : (gl = 0 ∨ 0 < fi)) : kw_Mi l yX11_goes wsX11_goes ({ frames := 3, cells := 0, slots := 0, locals := 106 }) D y [.ref mo, .int x, .int x2] [(mo, .inr (11, [.ref to, .ref ke, .ref ik, .ref mrf, .long mab, .long mbl, .ref ha, .ref r0, .ref mbr, .ref mbp, .ref mby, .int (nI bl), .int (nI ta), .int (nI tl), .int (nI tk), .int vv, .ref an, .ref va])), (mrf, .inl (y 0, 3, .inl frf)), (to, .inl (y 0, 228, .inl ft))] (fun (r : Int32) (u : (Nat → Int32) × (Nat → Int32) × Nat) => kr_t 228 u.2.1 ∧ u.2.1 0 = (nI fi) ∧ u.2.1 1 = (nI gl) ∧ u.2.1 2 = (nI mi) ∧ u.2.1 3 = (nI no) ∧ u.2.2 ≤ 8 ∧ u.2.1 4 = (nI u.2.2) ∧ kz_k2 ft u.2.1 ∧ (gl = 0 ∨ 0 < fi)) (fun u => [(mo, .inr (11, [.ref to, .ref ke, .ref ik, .ref mrf, .long mab, .long mbl, .ref ha, .ref r0, .ref mbr, .ref mbp, .ref mby, .int (nI bl), .int (nI ta), .int (nI tl), .int (nI tk), .int vv, .ref an, .ref va])), (mrf, .inl (y 0, 3, .inl u.1)), (to, .inl (y 0, 228, .inl u.2.1))]) 0 0 := by
  refine kw_Mi.of (cc := cX11_goes) (maxL := 4) (ret := (some .int)) (by decide) rfl ?_
  intro pZ eZ s mZ beZ meZ cZ A hE
  obtain ⟨hx, hb, hr, hml, hts, hown, hlocks, hin, hA, hP, hD, hK, hN⟩ := hE
  have hS : va_S A s.heap s.heap [] := va_S.rf
  have hl := lv_entry ([.ref mo, .int x, .int x2]) (n := 4) (Nat.le_of_ble_eq_true rfl)
  rw [lg_entry_eq]
  generalize (lg_sl ([.ref mo, .int x, .int x2]) ++ List.replicate (4 - (lg_sl ([.ref mo, .int x, .int x2])).length) Slot.unset).toArray = ls at hl ⊢
  have hl : lv_has ls 4 [(0, .ref mo), (1, .int x), (2, .int x2)] := hl
  have fw1 := hts (.fieldLink RX11 7 "GleanDuskModel" "told" "[I") (List.mem_of_getElem? (i := 1) rfl)
  have iw11 : ∀ w ∈ wsX110, w ∈ wsX11_goes := fun _ h => List.mem_cons_of_mem _ (List.mem_append_right _ h)
  refine lv_aload_n hx hb dX11_goes_0 rfl (lv_at hl 0 rfl) ?_
  refine lv_iload_n hx hb dX11_goes_1 rfl (lv_at hl 1 rfl) ?_
  have hs1 : kw_Split [(mo, .inr (11, [.ref to, .ref ke, .ref ik, .ref mrf, .long mab, .long mbl, .ref ha, .ref r0, .ref mbr, .ref mbp, .ref mby, .int (nI bl), .int (nI ta), .int (nI tl), .int (nI tk), .int vv, .ref an, .ref va])), (mrf, .inl (y 0, 3, .inl frf)), (to, .inl (y 0, 228, .inl ft))] [(mo, .inr (11, [.ref to, .ref ke, .ref ik, .ref mrf, .long mab, .long mbl, .ref ha, .ref r0, .ref mbr, .ref mbp, .ref mby, .int (nI bl), .int (nI ta), .int (nI tl), .int (nI tk), .int vv, .ref an, .ref va])), (to, .inl (y 0, 228, .inl ft))] [(mrf, .inl (y 0, 3, .inl frf))] [0, 2] [1] := ⟨rfl, rfl, rfl, rfl, rfl, by decide⟩
  refine kw_go_i hs1 hP hD hS hA (va_runV (As := [.int x]) (rest := []) ⟨hx, hb, hml, hown, hts⟩ (gr_isGleaner l D y mo to ke ik mrf ha r0 mbr mbp mby an va mab mbl bl ta tl tk vv ft fi gl mi no un x hk0_ hk1_ hk2_ hk3_ hk4_ hkt hfi hgl hmi hno hun _) (cwV 1 hts gX11_goes_X11_isGleaner rfl rfl rfl (by decide +kernel) ⟨Nat.le_of_ble_eq_true rfl, Nat.le_of_ble_eq_true rfl⟩) (kw_PreV (ci := 11) (q0 := 0) hs1 hP hD hK hN rfl rfl) rfl rfl hl.1 rfl (lv_room (Nat.le_of_ble_eq_true rfl)) dX11_goes_2 ⟨Nat.le_of_ble_eq_true rfl, Nat.le_of_ble_eq_true rfl⟩) (fun r2 u3 H locs hq hP hD hS => ?_)
  rcases hq with ⟨j4, h5, rfl, rfl⟩ | ⟨h6, rfl⟩
  · skip
    have hP : va_P D vwCl [(mrf, .inl (y 0, 3, .inl frf)), (mo, .inr (11, [.ref to, .ref ke, .ref ik, .ref mrf, .long mab, .long mbl, .ref ha, .ref r0, .ref mbr, .ref mbp, .ref mby, .int (nI bl), .int (nI ta), .int (nI tl), .int (nI tk), .int vv, .ref an, .ref va])), (to, .inl (y 0, 228, .inl ft))] H := hP
    have hD : va_D A [(mrf, .inl (y 0, 3, .inl frf)), (mo, .inr (11, [.ref to, .ref ke, .ref ik, .ref mrf, .long mab, .long mbl, .ref ha, .ref r0, .ref mbr, .ref mbp, .ref mby, .int (nI bl), .int (nI ta), .int (nI tl), .int (nI tk), .int vv, .ref an, .ref va])), (to, .inl (y 0, 228, .inl ft))] := hD
    refine lv_if_eq (tgt := 16) hx hb dX11_goes_5 (by decide) (fun h9 => absurd h9 (by decide)) (fun _ => ?_)
    refine lv_aload_n hx hb dX11_goes_8 rfl (lv_at hl 0 rfl) ?_
    refine lv_iload_n hx hb dX11_goes_9 rfl (lv_at hl 2 rfl) ?_
    have hs7 : kw_Split [(mrf, .inl (y 0, 3, .inl frf)), (mo, .inr (11, [.ref to, .ref ke, .ref ik, .ref mrf, .long mab, .long mbl, .ref ha, .ref r0, .ref mbr, .ref mbp, .ref mby, .int (nI bl), .int (nI ta), .int (nI tl), .int (nI tk), .int vv, .ref an, .ref va])), (to, .inl (y 0, 228, .inl ft))] [(mo, .inr (11, [.ref to, .ref ke, .ref ik, .ref mrf, .long mab, .long mbl, .ref ha, .ref r0, .ref mbr, .ref mbp, .ref mby, .int (nI bl), .int (nI ta), .int (nI tl), .int (nI tk), .int vv, .ref an, .ref va])), (to, .inl (y 0, 228, .inl ft))] [(mrf, .inl (y 0, 3, .inl frf))] [1, 2] [0] := ⟨rfl, rfl, rfl, rfl, rfl, by decide⟩
    refine kw_go_i hs7 hP hD hS hA (va_runV (As := [.int x2]) (rest := []) ⟨hx, hb, hml, hown, hts⟩ (gr_isField l D y mo to ke ik mrf ha r0 mbr mbp mby an va mab mbl bl ta tl tk vv ft fi gl mi no un x2 hk0_ hk1_ hk2_ hk3_ hk4_ hkt hfi hgl hmi hno hun _) (cwV 1 hts gX11_goes_X11_isField rfl rfl rfl (by decide +kernel) ⟨Nat.le_of_ble_eq_true rfl, Nat.le_of_ble_eq_true rfl⟩) (kw_PreV (ci := 11) (q0 := 1) hs7 hP hD hK hN rfl rfl) rfl rfl hl.1 rfl (lv_room (Nat.le_of_ble_eq_true rfl)) dX11_goes_10 ⟨Nat.le_of_ble_eq_true rfl, Nat.le_of_ble_eq_true rfl⟩) (fun r8 u9 H locs hq hP hD hS => ?_)
    rcases hq with ⟨j10, h11, rfl, rfl⟩ | ⟨h12, rfl⟩
    · skip
      have hP : va_P D vwCl [(mrf, .inl (y 0, 3, .inl frf)), (mo, .inr (11, [.ref to, .ref ke, .ref ik, .ref mrf, .long mab, .long mbl, .ref ha, .ref r0, .ref mbr, .ref mbp, .ref mby, .int (nI bl), .int (nI ta), .int (nI tl), .int (nI tk), .int vv, .ref an, .ref va])), (to, .inl (y 0, 228, .inl ft))] H := hP
      have hD : va_D A [(mrf, .inl (y 0, 3, .inl frf)), (mo, .inr (11, [.ref to, .ref ke, .ref ik, .ref mrf, .long mab, .long mbl, .ref ha, .ref r0, .ref mbr, .ref mbp, .ref mby, .int (nI bl), .int (nI ta), .int (nI tl), .int (nI tk), .int vv, .ref an, .ref va])), (to, .inl (y 0, 228, .inl ft))] := hD
      refine lv_if_ne (tgt := 23) hx hb dX11_goes_13 (by decide) (fun _ => ?_) (fun h9 => absurd h9 (by decide))
      refine lv_aload_n hx hb dX11_goes_23 rfl (lv_at hl 0 rfl) ?_
      refine va_get (D := D) (ci := 11) (v := .ref to) (C := RX11) (T := TX11) (N := 18) hx hb hts iw11 hown hK hP 1 rfl rfl 0 (by decide) fw1 (fun _ h9 => h9) rfl dX11_goes_24 ?_
      refine lv_bipush (v := 11) hx hb dX11_goes_27 (by decide) ?_
      refine lv_iload_n hx hb dX11_goes_29 rfl (lv_at hl 1 rfl) ?_
      refine lv_iadd hx hb dX11_goes_30 ?_
      rw [show 11 + (nI j4) = nI (j4 + 11) from (nI_add 11 j4).trans (congrArg nI (by omega))]
      refine va_iald hx hb hK hP 2 0 rfl rfl (vp_in_nI (by omega) (by decide)) dX11_goes_31 ?_
      rw [nI_clamp (n := (j4 + 11)) (by omega)]
      obtain ⟨w13, h14, h15⟩ := kr_at hkt (p := (j4 + 11)) (by omega) (by unfold kr_a; omega)
      rw [h15]
      refine lv_istore_n (lv' := [(3, .int (nI w13)), (0, .ref mo), (1, .int (nI j4)), (2, .int (nI j10))]) hx hb dX11_goes_32 rfl hl (by decide) rfl (fun ls hl => ?_)
      refine lv_aload_n hx hb dX11_goes_33 rfl (lv_at hl 1 rfl) ?_
      have hs16 : kw_Split [(mrf, .inl (y 0, 3, .inl frf)), (mo, .inr (11, [.ref to, .ref ke, .ref ik, .ref mrf, .long mab, .long mbl, .ref ha, .ref r0, .ref mbr, .ref mbp, .ref mby, .int (nI bl), .int (nI ta), .int (nI tl), .int (nI tk), .int vv, .ref an, .ref va])), (to, .inl (y 0, 228, .inl ft))] [(mo, .inr (11, [.ref to, .ref ke, .ref ik, .ref mrf, .long mab, .long mbl, .ref ha, .ref r0, .ref mbr, .ref mbp, .ref mby, .int (nI bl), .int (nI ta), .int (nI tl), .int (nI tk), .int vv, .ref an, .ref va])), (to, .inl (y 0, 228, .inl ft))] [(mrf, .inl (y 0, 3, .inl frf))] [1, 2] [0] := ⟨rfl, rfl, rfl, rfl, rfl, by decide⟩
      refine kw_go_v hs16 hP hD hS hA (va_runV (As := []) (rest := []) ⟨hx, hb, hml, hown, hts⟩ (gr_Dkeep l D y mo to ke ik mrf ha r0 mbr mbp mby an va mab mbl bl ta tl tk vv ft fi gl mi no un hk0_ hk1_ hk2_ hk3_ hk4_ hkt hfi hgl hmi hno hun _) (cwV 0 hts gX11_goes_X11_keep rfl rfl rfl (by decide +kernel) ⟨Nat.le_of_ble_eq_true rfl, Nat.le_of_ble_eq_true rfl⟩) (kw_PreV (ci := 11) (q0 := 1) hs16 hP hD hK hN rfl rfl) rfl rfl hl.1 rfl (lv_room (Nat.le_of_ble_eq_true rfl)) dX11_goes_34 ⟨Nat.le_of_ble_eq_true rfl, Nat.le_of_ble_eq_true rfl⟩) (fun u18 H locs hq hP hD hS => ?_)
      obtain ⟨v19, v20⟩ := u18
      try dsimp only at hq
      obtain ⟨h21, h22, h23, h24, h25, h26, h27, h28⟩ := hq
      have hP : va_P D vwCl [(mrf, .inl (y 0, 3, .inl frf)), (mo, .inr (11, [.ref to, .ref ke, .ref ik, .ref mrf, .long mab, .long mbl, .ref ha, .ref r0, .ref mbr, .ref mbp, .ref mby, .int (nI bl), .int (nI ta), .int (nI tl), .int (nI tk), .int vv, .ref an, .ref va])), (to, .inl (y 0, 228, .inl v19))] H := hP
      have hD : va_D A [(mrf, .inl (y 0, 3, .inl frf)), (mo, .inr (11, [.ref to, .ref ke, .ref ik, .ref mrf, .long mab, .long mbl, .ref ha, .ref r0, .ref mbr, .ref mbp, .ref mby, .int (nI bl), .int (nI ta), .int (nI tl), .int (nI tk), .int vv, .ref an, .ref va])), (to, .inl (y 0, 228, .inl v19))] := hD
      refine lv_aload_n hx hb dX11_goes_37 rfl (lv_at hl 1 rfl) ?_
      refine va_get (D := D) (ci := 11) (v := .ref to) (C := RX11) (T := TX11) (N := 18) hx hb hts iw11 hown hK hP 1 rfl rfl 0 (by decide) fw1 (fun _ h9 => h9) rfl dX11_goes_38 ?_
      refine lv_bipush (v := 11) hx hb dX11_goes_41 (by decide) ?_
      refine lv_iload_n hx hb dX11_goes_43 rfl (lv_at hl 2 rfl) ?_
      refine lv_iadd hx hb dX11_goes_44 ?_
      rw [show 11 + (nI j4) = nI (j4 + 11) from (nI_add 11 j4).trans (congrArg nI (by omega))]
      refine lv_iload_n hx hb dX11_goes_45 rfl (lv_at hl 3 rfl) ?_
      refine va_iast hx hb hK hP hD hS 2 0 rfl rfl (vp_in_nI (by omega) (by decide)) dX11_goes_46 (fun H locs hP hD hS => ?_)
      rw [nI_clamp (n := (j4 + 11)) (by omega)] at hP hD
      have hr29 : kr_t 228 (upd v19 (j4 + 11) (nI j10)) := kr_up h21 (kr_oka (vp_in_nI (by omega) (by decide)) (by unfold kr_s; omega))
      have hk30 : (upd v19 (j4 + 11) (nI j10)) 0 = (nI fi) := (pk_un (by omega)).trans h22
      have hk31 : (upd v19 (j4 + 11) (nI j10)) 1 = (nI gl) := (pk_un (by omega)).trans h23
      have hk32 : (upd v19 (j4 + 11) (nI j10)) 2 = (nI mi) := (pk_un (by omega)).trans h24
      have hk33 : (upd v19 (j4 + 11) (nI j10)) 3 = (nI no) := (pk_un (by omega)).trans h25
      have hk34 : (upd v19 (j4 + 11) (nI j10)) 4 = (nI v20) := (pk_un (by omega)).trans h27
      have hP : va_P D vwCl [(mrf, .inl (y 0, 3, .inl frf)), (mo, .inr (11, [.ref to, .ref ke, .ref ik, .ref mrf, .long mab, .long mbl, .ref ha, .ref r0, .ref mbr, .ref mbp, .ref mby, .int (nI bl), .int (nI ta), .int (nI tl), .int (nI tk), .int vv, .ref an, .ref va])), (to, .inl (y 0, 228, .inl (upd v19 (j4 + 11) (nI j10))))] H := hP
      have hD : va_D A [(mrf, .inl (y 0, 3, .inl frf)), (mo, .inr (11, [.ref to, .ref ke, .ref ik, .ref mrf, .long mab, .long mbl, .ref ha, .ref r0, .ref mbr, .ref mbp, .ref mby, .int (nI bl), .int (nI ta), .int (nI tl), .int (nI tk), .int vv, .ref an, .ref va])), (to, .inl (y 0, 228, .inl (upd v19 (j4 + 11) (nI j10))))] := hD
      refine lv_iload_n hx hb dX11_goes_47 rfl (lv_at hl 0 rfl) ?_
      exact W.iret (v := (nI w13)) hx hb hr (fun tZ ht hW => ⟨⟨(nI w13), (frf, (upd v19 (j4 + 11) (nI j10)), v20), rfl, ⟨hr29, hk30, hk31, hk32, hk33, by first | omega | (dsimp only; omega), hk34, kz_k2_u (h28) (by first | omega | (dsimp only; omega)), by first | omega | (dsimp only; omega)⟩, by rw [ht]; exact hP.sub [1, 0, 2] rfl, hD.sub [1, 0, 2] (by decide) rfl⟩, hS.F ht⟩) hS.2.2 dX11_goes_48
    · skip
      have hP : va_P D vwCl [(mrf, .inl (y 0, 3, .inl frf)), (mo, .inr (11, [.ref to, .ref ke, .ref ik, .ref mrf, .long mab, .long mbl, .ref ha, .ref r0, .ref mbr, .ref mbp, .ref mby, .int (nI bl), .int (nI ta), .int (nI tl), .int (nI tk), .int vv, .ref an, .ref va])), (to, .inl (y 0, 228, .inl ft))] H := hP
      have hD : va_D A [(mrf, .inl (y 0, 3, .inl frf)), (mo, .inr (11, [.ref to, .ref ke, .ref ik, .ref mrf, .long mab, .long mbl, .ref ha, .ref r0, .ref mbr, .ref mbp, .ref mby, .int (nI bl), .int (nI ta), .int (nI tl), .int (nI tk), .int vv, .ref an, .ref va])), (to, .inl (y 0, 228, .inl ft))] := hD
      refine lv_if_ne (tgt := 23) hx hb dX11_goes_13 (by decide) (fun h9 => absurd h9 (by decide)) (fun _ => ?_)
      refine lv_aload_n hx hb dX11_goes_16 rfl (lv_at hl 0 rfl) ?_
      refine lv_bipush (v := (-2)) hx hb dX11_goes_17 (by decide) ?_
      have hs35 : kw_Split [(mrf, .inl (y 0, 3, .inl frf)), (mo, .inr (11, [.ref to, .ref ke, .ref ik, .ref mrf, .long mab, .long mbl, .ref ha, .ref r0, .ref mbr, .ref mbp, .ref mby, .int (nI bl), .int (nI ta), .int (nI tl), .int (nI tk), .int vv, .ref an, .ref va])), (to, .inl (y 0, 228, .inl ft))] [(mo, .inr (11, [.ref to, .ref ke, .ref ik, .ref mrf, .long mab, .long mbl, .ref ha, .ref r0, .ref mbr, .ref mbp, .ref mby, .int (nI bl), .int (nI ta), .int (nI tl), .int (nI tk), .int vv, .ref an, .ref va])), (mrf, .inl (y 0, 3, .inl frf))] [(to, .inl (y 0, 228, .inl ft))] [1, 0] [2] := ⟨rfl, rfl, rfl, rfl, rfl, by decide⟩
      refine kw_go_i hs35 hP hD hS hA (va_runV (As := [.int (-2)]) (rest := []) ⟨hx, hb, hml, hown, hts⟩ (gr_bad l D y mo to ke ik mrf ha r0 mbr mbp mby an va mab mbl bl ta tl tk vv frf (-2)  _) (cwV 1 hts gX11_goes_X11_bad rfl rfl rfl (by decide +kernel) ⟨Nat.le_of_ble_eq_true rfl, Nat.le_of_ble_eq_true rfl⟩) (kw_PreV (ci := 11) (q0 := 1) hs35 hP hD hK hN rfl rfl) rfl rfl hl.1 rfl (lv_room (Nat.le_of_ble_eq_true rfl)) dX11_goes_19 ⟨Nat.le_of_ble_eq_true rfl, Nat.le_of_ble_eq_true rfl⟩) (fun r36 u37 H locs hq hP hD hS => ?_)
      obtain rfl := hq
      have hP : va_P D vwCl [(to, .inl (y 0, 228, .inl ft)), (mo, .inr (11, [.ref to, .ref ke, .ref ik, .ref mrf, .long mab, .long mbl, .ref ha, .ref r0, .ref mbr, .ref mbp, .ref mby, .int (nI bl), .int (nI ta), .int (nI tl), .int (nI tk), .int vv, .ref an, .ref va])), (mrf, .inl (y 0, 3, .inl (upd frf 0 ((frf 0) + 1))))] H := hP
      have hD : va_D A [(to, .inl (y 0, 228, .inl ft)), (mo, .inr (11, [.ref to, .ref ke, .ref ik, .ref mrf, .long mab, .long mbl, .ref ha, .ref r0, .ref mbr, .ref mbp, .ref mby, .int (nI bl), .int (nI ta), .int (nI tl), .int (nI tk), .int vv, .ref an, .ref va])), (mrf, .inl (y 0, 3, .inl (upd frf 0 ((frf 0) + 1))))] := hD
      exact W.iret (v := (-2)) hx hb hr (fun tZ ht hW => ⟨⟨(-2), ((upd frf 0 ((frf 0) + 1)), ft, un), rfl, ⟨hkt, hk0_, hk1_, hk2_, hk3_, by first | omega | (dsimp only; omega), hk4_, kz_k2_0, by first | omega | (dsimp only; omega)⟩, by rw [ht]; exact hP.sub [1, 2, 0] rfl, hD.sub [1, 2, 0] (by decide) rfl⟩, hS.F ht⟩) hS.2.2 dX11_goes_22
  · skip
    have hP : va_P D vwCl [(mrf, .inl (y 0, 3, .inl frf)), (mo, .inr (11, [.ref to, .ref ke, .ref ik, .ref mrf, .long mab, .long mbl, .ref ha, .ref r0, .ref mbr, .ref mbp, .ref mby, .int (nI bl), .int (nI ta), .int (nI tl), .int (nI tk), .int vv, .ref an, .ref va])), (to, .inl (y 0, 228, .inl ft))] H := hP
    have hD : va_D A [(mrf, .inl (y 0, 3, .inl frf)), (mo, .inr (11, [.ref to, .ref ke, .ref ik, .ref mrf, .long mab, .long mbl, .ref ha, .ref r0, .ref mbr, .ref mbp, .ref mby, .int (nI bl), .int (nI ta), .int (nI tl), .int (nI tk), .int vv, .ref an, .ref va])), (to, .inl (y 0, 228, .inl ft))] := hD
    refine lv_if_eq (tgt := 16) hx hb dX11_goes_5 (by decide) (fun _ => ?_) (fun h9 => absurd h9 (by decide))
    refine lv_aload_n hx hb dX11_goes_16 rfl (lv_at hl 0 rfl) ?_
    refine lv_bipush (v := (-2)) hx hb dX11_goes_17 (by decide) ?_
    have hs38 : kw_Split [(mrf, .inl (y 0, 3, .inl frf)), (mo, .inr (11, [.ref to, .ref ke, .ref ik, .ref mrf, .long mab, .long mbl, .ref ha, .ref r0, .ref mbr, .ref mbp, .ref mby, .int (nI bl), .int (nI ta), .int (nI tl), .int (nI tk), .int vv, .ref an, .ref va])), (to, .inl (y 0, 228, .inl ft))] [(mo, .inr (11, [.ref to, .ref ke, .ref ik, .ref mrf, .long mab, .long mbl, .ref ha, .ref r0, .ref mbr, .ref mbp, .ref mby, .int (nI bl), .int (nI ta), .int (nI tl), .int (nI tk), .int vv, .ref an, .ref va])), (mrf, .inl (y 0, 3, .inl frf))] [(to, .inl (y 0, 228, .inl ft))] [1, 0] [2] := ⟨rfl, rfl, rfl, rfl, rfl, by decide⟩
    refine kw_go_i hs38 hP hD hS hA (va_runV (As := [.int (-2)]) (rest := []) ⟨hx, hb, hml, hown, hts⟩ (gr_bad l D y mo to ke ik mrf ha r0 mbr mbp mby an va mab mbl bl ta tl tk vv frf (-2)  _) (cwV 1 hts gX11_goes_X11_bad rfl rfl rfl (by decide +kernel) ⟨Nat.le_of_ble_eq_true rfl, Nat.le_of_ble_eq_true rfl⟩) (kw_PreV (ci := 11) (q0 := 1) hs38 hP hD hK hN rfl rfl) rfl rfl hl.1 rfl (lv_room (Nat.le_of_ble_eq_true rfl)) dX11_goes_19 ⟨Nat.le_of_ble_eq_true rfl, Nat.le_of_ble_eq_true rfl⟩) (fun r39 u40 H locs hq hP hD hS => ?_)
    obtain rfl := hq
    have hP : va_P D vwCl [(to, .inl (y 0, 228, .inl ft)), (mo, .inr (11, [.ref to, .ref ke, .ref ik, .ref mrf, .long mab, .long mbl, .ref ha, .ref r0, .ref mbr, .ref mbp, .ref mby, .int (nI bl), .int (nI ta), .int (nI tl), .int (nI tk), .int vv, .ref an, .ref va])), (mrf, .inl (y 0, 3, .inl (upd frf 0 ((frf 0) + 1))))] H := hP
    have hD : va_D A [(to, .inl (y 0, 228, .inl ft)), (mo, .inr (11, [.ref to, .ref ke, .ref ik, .ref mrf, .long mab, .long mbl, .ref ha, .ref r0, .ref mbr, .ref mbp, .ref mby, .int (nI bl), .int (nI ta), .int (nI tl), .int (nI tk), .int vv, .ref an, .ref va])), (mrf, .inl (y 0, 3, .inl (upd frf 0 ((frf 0) + 1))))] := hD
    exact W.iret (v := (-2)) hx hb hr (fun tZ ht hW => ⟨⟨(-2), ((upd frf 0 ((frf 0) + 1)), ft, un), rfl, ⟨hkt, hk0_, hk1_, hk2_, hk3_, by first | omega | (dsimp only; omega), hk4_, kz_k2_0, by first | omega | (dsimp only; omega)⟩, by rw [ht]; exact hP.sub [1, 2, 0] rfl, hD.sub [1, 2, 0] (by decide) rfl⟩, hS.F ht⟩) hS.2.2 dX11_goes_22

set_option maxHeartbeats 4000000 in
set_option maxRecDepth 100000 in
theorem gq_d_cloud (l : Launch) (D : va_G) (y : Nat → ClassId) (mo : Nat) (to : Nat) (ke : Nat) (ik : Nat) (mrf : Nat) (ha : Nat) (r0 : Nat) (mbr : Nat) (mbp : Nat) (mby : Nat) (an : Nat) (va : Nat) (mab : Int64) (mbl : Int64) (bl : Nat) (ta : Nat) (tl : Nat) (tk : Nat) (vv : Int32) (frf : Nat → Int32) (ft : Nat → Int32) (fi : Nat) (gl : Nat) (mi : Nat) (no : Nat) (un : Nat) (x : Int32) (hk0_ : ft 0 = (nI fi)) (hk1_ : ft 1 = (nI gl)) (hk2_ : ft 2 = (nI mi)) (hk3_ : ft 3 = (nI no)) (hk4_ : ft 4 = (nI un)) (hkt : kr_t 228 ft) (hfi : fi ≤ 6) (hgl : gl ≤ 5) (hmi : mi ≤ 4) (hno : no ≤ 6) (hun : un ≤ 8) (hgf : (gl = 0 ∨ 0 < fi)) : kw_Mi l yX11_cloud wsX11_cloud ({ frames := 3, cells := 0, slots := 0, locals := 105 }) D y [.ref mo, .int x] [(mo, .inr (11, [.ref to, .ref ke, .ref ik, .ref mrf, .long mab, .long mbl, .ref ha, .ref r0, .ref mbr, .ref mbp, .ref mby, .int (nI bl), .int (nI ta), .int (nI tl), .int (nI tk), .int vv, .ref an, .ref va])), (mrf, .inl (y 0, 3, .inl frf)), (to, .inl (y 0, 228, .inl ft))] (fun (r : Int32) (u : (Nat → Int32) × (Nat → Int32) × Nat) => kr_t 228 u.2.1 ∧ u.2.1 0 = (nI fi) ∧ u.2.1 1 = (nI gl) ∧ u.2.1 2 = (nI mi) ∧ u.2.1 3 = (nI no) ∧ u.2.2 ≤ 8 ∧ u.2.1 4 = (nI u.2.2) ∧ kz_k2 ft u.2.1 ∧ (gl = 0 ∨ 0 < fi)) (fun u => [(mo, .inr (11, [.ref to, .ref ke, .ref ik, .ref mrf, .long mab, .long mbl, .ref ha, .ref r0, .ref mbr, .ref mbp, .ref mby, .int (nI bl), .int (nI ta), .int (nI tl), .int (nI tk), .int vv, .ref an, .ref va])), (mrf, .inl (y 0, 3, .inl u.1)), (to, .inl (y 0, 228, .inl u.2.1))]) 0 0 := by
  refine kw_Mi.of (cc := cX11_cloud) (maxL := 3) (ret := (some .int)) (by decide) rfl ?_
  intro pZ eZ s mZ beZ meZ cZ A hE
  obtain ⟨hx, hb, hr, hml, hts, hown, hlocks, hin, hA, hP, hD, hK, hN⟩ := hE
  have hS : va_S A s.heap s.heap [] := va_S.rf
  have hl := lv_entry ([.ref mo, .int x]) (n := 3) (Nat.le_of_ble_eq_true rfl)
  rw [lg_entry_eq]
  generalize (lg_sl ([.ref mo, .int x]) ++ List.replicate (3 - (lg_sl ([.ref mo, .int x])).length) Slot.unset).toArray = ls at hl ⊢
  have hl : lv_has ls 3 [(0, .ref mo), (1, .int x)] := hl
  have fw1 := hts (.fieldLink RX11 7 "GleanDuskModel" "told" "[I") (List.mem_of_getElem? (i := 1) rfl)
  have iw11 : ∀ w ∈ wsX110, w ∈ wsX11_cloud := fun _ h => List.mem_cons_of_mem _ (List.mem_append_right _ h)
  refine lv_iload_n hx hb dX11_cloud_0 rfl (lv_at hl 1 rfl) ?_
  have hs1 : kw_Split [(mo, .inr (11, [.ref to, .ref ke, .ref ik, .ref mrf, .long mab, .long mbl, .ref ha, .ref r0, .ref mbr, .ref mbp, .ref mby, .int (nI bl), .int (nI ta), .int (nI tl), .int (nI tk), .int vv, .ref an, .ref va])), (mrf, .inl (y 0, 3, .inl frf)), (to, .inl (y 0, 228, .inl ft))] [] [(mo, .inr (11, [.ref to, .ref ke, .ref ik, .ref mrf, .long mab, .long mbl, .ref ha, .ref r0, .ref mbr, .ref mbp, .ref mby, .int (nI bl), .int (nI ta), .int (nI tl), .int (nI tk), .int vv, .ref an, .ref va])), (mrf, .inl (y 0, 3, .inl frf)), (to, .inl (y 0, 228, .inl ft))] [] [0, 1, 2] := ⟨rfl, rfl, rfl, rfl, rfl, by decide⟩
  refine kw_go_i hs1 hP hD hS hA (va_runS (As := [.int x]) (rest := []) ⟨hx, hb, hml, hown, hts⟩ (gr_isCloud l D y x  _) (va_cwS 1 hts gX11_cloud_X11_isCloud rfl rfl rfl (by decide +kernel) ⟨Nat.le_of_ble_eq_true rfl, Nat.le_of_ble_eq_true rfl⟩) (kw_PreS hs1 hP hD hK hN) rfl rfl hl.1 rfl (lv_room (Nat.le_of_ble_eq_true rfl)) dX11_cloud_1 ⟨Nat.le_of_ble_eq_true rfl, Nat.le_of_ble_eq_true rfl⟩) (fun r2 u3 H locs hq hP hD hS => ?_)
  rcases hq with ⟨j4, h5, rfl, rfl⟩ | ⟨h6, rfl⟩
  · skip
    have hP : va_P D vwCl [(mo, .inr (11, [.ref to, .ref ke, .ref ik, .ref mrf, .long mab, .long mbl, .ref ha, .ref r0, .ref mbr, .ref mbp, .ref mby, .int (nI bl), .int (nI ta), .int (nI tl), .int (nI tk), .int vv, .ref an, .ref va])), (mrf, .inl (y 0, 3, .inl frf)), (to, .inl (y 0, 228, .inl ft))] H := hP
    have hD : va_D A [(mo, .inr (11, [.ref to, .ref ke, .ref ik, .ref mrf, .long mab, .long mbl, .ref ha, .ref r0, .ref mbr, .ref mbp, .ref mby, .int (nI bl), .int (nI ta), .int (nI tl), .int (nI tk), .int vv, .ref an, .ref va])), (mrf, .inl (y 0, 3, .inl frf)), (to, .inl (y 0, 228, .inl ft))] := hD
    refine lv_if_ne (tgt := 14) hx hb dX11_cloud_4 (by decide) (fun _ => ?_) (fun h9 => absurd h9 (by decide))
    refine lv_aload_n hx hb dX11_cloud_14 rfl (lv_at hl 0 rfl) ?_
    refine va_get (D := D) (ci := 11) (v := .ref to) (C := RX11) (T := TX11) (N := 18) hx hb hts iw11 hown hK hP 0 rfl rfl 0 (by decide) fw1 (fun _ h9 => h9) rfl dX11_cloud_15 ?_
    refine lv_bipush (v := 22) hx hb dX11_cloud_18 (by decide) ?_
    refine va_iald hx hb hK hP 2 0 rfl rfl (by unfold vp_in; decide) dX11_cloud_20 ?_
    rw [show ((22 : Int32)).toNatClampNeg = 22 from rfl]
    refine lv_istore_n (lv' := [(2, .int (ft 22)), (0, .ref mo), (1, .int (nI j4))]) hx hb dX11_cloud_21 rfl hl (by decide) rfl (fun ls hl => ?_)
    refine lv_aload_n hx hb dX11_cloud_22 rfl (lv_at hl 1 rfl) ?_
    have hs7 : kw_Split [(mo, .inr (11, [.ref to, .ref ke, .ref ik, .ref mrf, .long mab, .long mbl, .ref ha, .ref r0, .ref mbr, .ref mbp, .ref mby, .int (nI bl), .int (nI ta), .int (nI tl), .int (nI tk), .int vv, .ref an, .ref va])), (mrf, .inl (y 0, 3, .inl frf)), (to, .inl (y 0, 228, .inl ft))] [(mo, .inr (11, [.ref to, .ref ke, .ref ik, .ref mrf, .long mab, .long mbl, .ref ha, .ref r0, .ref mbr, .ref mbp, .ref mby, .int (nI bl), .int (nI ta), .int (nI tl), .int (nI tk), .int vv, .ref an, .ref va])), (to, .inl (y 0, 228, .inl ft))] [(mrf, .inl (y 0, 3, .inl frf))] [0, 2] [1] := ⟨rfl, rfl, rfl, rfl, rfl, by decide⟩
    refine kw_go_v hs7 hP hD hS hA (va_runV (As := []) (rest := []) ⟨hx, hb, hml, hown, hts⟩ (gr_Dkeep l D y mo to ke ik mrf ha r0 mbr mbp mby an va mab mbl bl ta tl tk vv ft fi gl mi no un hk0_ hk1_ hk2_ hk3_ hk4_ hkt hfi hgl hmi hno hun _) (cwV 0 hts gX11_cloud_X11_keep rfl rfl rfl (by decide +kernel) ⟨Nat.le_of_ble_eq_true rfl, Nat.le_of_ble_eq_true rfl⟩) (kw_PreV (ci := 11) (q0 := 0) hs7 hP hD hK hN rfl rfl) rfl rfl hl.1 rfl (lv_room (Nat.le_of_ble_eq_true rfl)) dX11_cloud_23 ⟨Nat.le_of_ble_eq_true rfl, Nat.le_of_ble_eq_true rfl⟩) (fun u9 H locs hq hP hD hS => ?_)
    obtain ⟨v10, v11⟩ := u9
    try dsimp only at hq
    obtain ⟨h12, h13, h14, h15, h16, h17, h18, h19⟩ := hq
    have hP : va_P D vwCl [(mrf, .inl (y 0, 3, .inl frf)), (mo, .inr (11, [.ref to, .ref ke, .ref ik, .ref mrf, .long mab, .long mbl, .ref ha, .ref r0, .ref mbr, .ref mbp, .ref mby, .int (nI bl), .int (nI ta), .int (nI tl), .int (nI tk), .int vv, .ref an, .ref va])), (to, .inl (y 0, 228, .inl v10))] H := hP
    have hD : va_D A [(mrf, .inl (y 0, 3, .inl frf)), (mo, .inr (11, [.ref to, .ref ke, .ref ik, .ref mrf, .long mab, .long mbl, .ref ha, .ref r0, .ref mbr, .ref mbp, .ref mby, .int (nI bl), .int (nI ta), .int (nI tl), .int (nI tk), .int vv, .ref an, .ref va])), (to, .inl (y 0, 228, .inl v10))] := hD
    refine lv_aload_n hx hb dX11_cloud_26 rfl (lv_at hl 1 rfl) ?_
    refine va_get (D := D) (ci := 11) (v := .ref to) (C := RX11) (T := TX11) (N := 18) hx hb hts iw11 hown hK hP 1 rfl rfl 0 (by decide) fw1 (fun _ h9 => h9) rfl dX11_cloud_27 ?_
    refine lv_bipush (v := 22) hx hb dX11_cloud_30 (by decide) ?_
    refine lv_iload_n hx hb dX11_cloud_32 rfl (lv_at hl 2 rfl) ?_
    refine va_iast hx hb hK hP hD hS 2 0 rfl rfl (by unfold vp_in; decide) dX11_cloud_33 (fun H locs hP hD hS => ?_)
    rw [show ((22 : Int32)).toNatClampNeg = 22 from rfl] at hP hD
    have hr20 : kr_t 228 (upd v10 22 (nI j4)) := kr_up h12 (kr_free (by unfold kr_a; omega) (by unfold kr_s; omega))
    have hk21 : (upd v10 22 (nI j4)) 0 = (nI fi) := (pk_un (by decide)).trans h13
    have hk22 : (upd v10 22 (nI j4)) 1 = (nI gl) := (pk_un (by decide)).trans h14
    have hk23 : (upd v10 22 (nI j4)) 2 = (nI mi) := (pk_un (by decide)).trans h15
    have hk24 : (upd v10 22 (nI j4)) 3 = (nI no) := (pk_un (by decide)).trans h16
    have hk25 : (upd v10 22 (nI j4)) 4 = (nI v11) := (pk_un (by decide)).trans h18
    have hP : va_P D vwCl [(mrf, .inl (y 0, 3, .inl frf)), (mo, .inr (11, [.ref to, .ref ke, .ref ik, .ref mrf, .long mab, .long mbl, .ref ha, .ref r0, .ref mbr, .ref mbp, .ref mby, .int (nI bl), .int (nI ta), .int (nI tl), .int (nI tk), .int vv, .ref an, .ref va])), (to, .inl (y 0, 228, .inl (upd v10 22 (nI j4))))] H := hP
    have hD : va_D A [(mrf, .inl (y 0, 3, .inl frf)), (mo, .inr (11, [.ref to, .ref ke, .ref ik, .ref mrf, .long mab, .long mbl, .ref ha, .ref r0, .ref mbr, .ref mbp, .ref mby, .int (nI bl), .int (nI ta), .int (nI tl), .int (nI tk), .int vv, .ref an, .ref va])), (to, .inl (y 0, 228, .inl (upd v10 22 (nI j4))))] := hD
    refine lv_iload_n hx hb dX11_cloud_34 rfl (lv_at hl 0 rfl) ?_
    exact W.iret (v := (ft 22)) hx hb hr (fun tZ ht hW => ⟨⟨(ft 22), (frf, (upd v10 22 (nI j4)), v11), rfl, ⟨hr20, hk21, hk22, hk23, hk24, by first | omega | (dsimp only; omega), hk25, kz_k2_u (h19) (by first | omega | (dsimp only; omega)), by first | omega | (dsimp only; omega)⟩, by rw [ht]; exact hP.sub [1, 0, 2] rfl, hD.sub [1, 0, 2] (by decide) rfl⟩, hS.F ht⟩) hS.2.2 dX11_cloud_35
  · skip
    have hP : va_P D vwCl [(mo, .inr (11, [.ref to, .ref ke, .ref ik, .ref mrf, .long mab, .long mbl, .ref ha, .ref r0, .ref mbr, .ref mbp, .ref mby, .int (nI bl), .int (nI ta), .int (nI tl), .int (nI tk), .int vv, .ref an, .ref va])), (mrf, .inl (y 0, 3, .inl frf)), (to, .inl (y 0, 228, .inl ft))] H := hP
    have hD : va_D A [(mo, .inr (11, [.ref to, .ref ke, .ref ik, .ref mrf, .long mab, .long mbl, .ref ha, .ref r0, .ref mbr, .ref mbp, .ref mby, .int (nI bl), .int (nI ta), .int (nI tl), .int (nI tk), .int vv, .ref an, .ref va])), (mrf, .inl (y 0, 3, .inl frf)), (to, .inl (y 0, 228, .inl ft))] := hD
    refine lv_if_ne (tgt := 14) hx hb dX11_cloud_4 (by decide) (fun h9 => absurd h9 (by decide)) (fun _ => ?_)
    refine lv_aload_n hx hb dX11_cloud_7 rfl (lv_at hl 0 rfl) ?_
    refine lv_bipush (v := (-2)) hx hb dX11_cloud_8 (by decide) ?_
    have hs26 : kw_Split [(mo, .inr (11, [.ref to, .ref ke, .ref ik, .ref mrf, .long mab, .long mbl, .ref ha, .ref r0, .ref mbr, .ref mbp, .ref mby, .int (nI bl), .int (nI ta), .int (nI tl), .int (nI tk), .int vv, .ref an, .ref va])), (mrf, .inl (y 0, 3, .inl frf)), (to, .inl (y 0, 228, .inl ft))] [(mo, .inr (11, [.ref to, .ref ke, .ref ik, .ref mrf, .long mab, .long mbl, .ref ha, .ref r0, .ref mbr, .ref mbp, .ref mby, .int (nI bl), .int (nI ta), .int (nI tl), .int (nI tk), .int vv, .ref an, .ref va])), (mrf, .inl (y 0, 3, .inl frf))] [(to, .inl (y 0, 228, .inl ft))] [0, 1] [2] := ⟨rfl, rfl, rfl, rfl, rfl, by decide⟩
    refine kw_go_i hs26 hP hD hS hA (va_runV (As := [.int (-2)]) (rest := []) ⟨hx, hb, hml, hown, hts⟩ (gr_bad l D y mo to ke ik mrf ha r0 mbr mbp mby an va mab mbl bl ta tl tk vv frf (-2)  _) (cwV 1 hts gX11_cloud_X11_bad rfl rfl rfl (by decide +kernel) ⟨Nat.le_of_ble_eq_true rfl, Nat.le_of_ble_eq_true rfl⟩) (kw_PreV (ci := 11) (q0 := 0) hs26 hP hD hK hN rfl rfl) rfl rfl hl.1 rfl (lv_room (Nat.le_of_ble_eq_true rfl)) dX11_cloud_10 ⟨Nat.le_of_ble_eq_true rfl, Nat.le_of_ble_eq_true rfl⟩) (fun r27 u28 H locs hq hP hD hS => ?_)
    obtain rfl := hq
    have hP : va_P D vwCl [(to, .inl (y 0, 228, .inl ft)), (mo, .inr (11, [.ref to, .ref ke, .ref ik, .ref mrf, .long mab, .long mbl, .ref ha, .ref r0, .ref mbr, .ref mbp, .ref mby, .int (nI bl), .int (nI ta), .int (nI tl), .int (nI tk), .int vv, .ref an, .ref va])), (mrf, .inl (y 0, 3, .inl (upd frf 0 ((frf 0) + 1))))] H := hP
    have hD : va_D A [(to, .inl (y 0, 228, .inl ft)), (mo, .inr (11, [.ref to, .ref ke, .ref ik, .ref mrf, .long mab, .long mbl, .ref ha, .ref r0, .ref mbr, .ref mbp, .ref mby, .int (nI bl), .int (nI ta), .int (nI tl), .int (nI tk), .int vv, .ref an, .ref va])), (mrf, .inl (y 0, 3, .inl (upd frf 0 ((frf 0) + 1))))] := hD
    exact W.iret (v := (-2)) hx hb hr (fun tZ ht hW => ⟨⟨(-2), ((upd frf 0 ((frf 0) + 1)), ft, un), rfl, ⟨hkt, hk0_, hk1_, hk2_, hk3_, by first | omega | (dsimp only; omega), hk4_, kz_k2_0, by first | omega | (dsimp only; omega)⟩, by rw [ht]; exact hP.sub [1, 2, 0] rfl, hD.sub [1, 2, 0] (by decide) rfl⟩, hS.F ht⟩) hS.2.2 dX11_cloud_13
