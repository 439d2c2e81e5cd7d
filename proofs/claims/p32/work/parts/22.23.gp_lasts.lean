set_option maxHeartbeats 4000000 in
set_option maxRecDepth 100000 in
theorem gp_lasts (l : Launch) (D : va_G) (y : Nat → ClassId) (g : Nat) (kk : Nat) (nw : Nat) (im : Nat) (kp : Nat) (tx : Nat) (tr : Nat) (be : Nat) (sh : Nat) (sd : Nat) (rf : Nat) (ab : Int32) (bl : Int32) (frf : Nat → Int32) (nk : Nat) (nd : Nat) (ne : Nat) (nm : Nat) (nn : Nat) (fi : Nat) (gl : Nat) (un : Nat) (mi : Nat) (no : Nat) (nd : Nat) (nl : Nat) (na : Nat) (ns : Nat) (nst : Int32) (ncl : Int32) (nnu : Int32) (nfs : Nat → Int32) (x : Int32) (x2 : Int32) (hfi : fi ≤ 6) (hgl : gl ≤ 5) (hun : un ≤ 8) (hmi : mi ≤ 4) (hno : no ≤ 6) : kw_Mi l yX10_lasts wsX10_lasts ({ frames := 3, cells := 0, slots := 0, locals := 102 }) D y [.ref g, .int x, .int x2] [(g, .inr (10, [.ref kk, .ref nw, .ref im, .ref kp, .ref tx, .ref tr, .ref be, .ref sh, .ref sd, .ref rf, .int ab, .int bl])), (rf, .inl (y 0, 3, .inl frf)), (nw, .inr (4, [.ref kk, .ref nk, .ref nd, .ref ne, .ref nm, .ref nn, .int (nI fi), .int (nI gl), .int (nI un), .int (nI mi), .int (nI no)])), (nd, .inr (1, [.ref nl, .ref na, .ref ns, .int nst, .int ncl, .int nnu])), (ns, .inl (y 0, 5, .inl nfs))] (fun (r : Int32) (u : (Nat → Int32)) => True) (fun u => [(g, .inr (10, [.ref kk, .ref nw, .ref im, .ref kp, .ref tx, .ref tr, .ref be, .ref sh, .ref sd, .ref rf, .int ab, .int bl])), (rf, .inl (y 0, 3, .inl u)), (nw, .inr (4, [.ref kk, .ref nk, .ref nd, .ref ne, .ref nm, .ref nn, .int (nI fi), .int (nI gl), .int (nI un), .int (nI mi), .int (nI no)])), (nd, .inr (1, [.ref nl, .ref na, .ref ns, .int nst, .int ncl, .int nnu])), (ns, .inl (y 0, 5, .inl nfs))]) 0 0 := by
  refine kw_Mi.of (cc := cX10_lasts) (maxL := 5) (ret := (some .int)) (by decide) rfl ?_
  intro pZ eZ s mZ beZ meZ cZ A hE
  obtain ⟨hx, hb, hr, hml, hts, hown, hlocks, hin, hA, hP, hD, hK, hN⟩ := hE
  have hS : va_S A s.heap s.heap [] := va_S.rf
  have hl := lv_entry ([.ref g, .int x, .int x2]) (n := 5) (Nat.le_of_ble_eq_true rfl)
  rw [lg_entry_eq]
  generalize (lg_sl ([.ref g, .int x, .int x2]) ++ List.replicate (5 - (lg_sl ([.ref g, .int x, .int x2])).length) Slot.unset).toArray = ls at hl ⊢
  have hl : lv_has ls 5 [(0, .ref g), (1, .int x), (2, .int x2)] := hl
  have fw1 := hts (.fieldLink RX10 36 "GleanDusk" "now" "LGleanDusk$Parish;") (List.mem_of_getElem? (i := 1) rfl)
  have fw2 := hts (.fieldLink RX10 140 "GleanDusk$Parish" "dusk" "LGleanDusk$Dusk;") (List.mem_of_getElem? (i := 2) rfl)
  have fw3 := hts (.fieldLink RX10 191 "GleanDusk$Dusk" "store" "[I") (List.mem_of_getElem? (i := 3) rfl)
  have iw10 : ∀ w ∈ wsX100, w ∈ wsX10_lasts := fun _ h => List.mem_cons_of_mem _ (List.mem_append_left _ (List.mem_append_left _ (List.mem_append_right _ h)))
  have iw4 : ∀ w ∈ wsX40, w ∈ wsX10_lasts := fun _ h => List.mem_cons_of_mem _ (List.mem_append_left _ (List.mem_append_right _ h))
  have iw1 : ∀ w ∈ wsX10, w ∈ wsX10_lasts := fun _ h => List.mem_cons_of_mem _ (List.mem_append_right _ h)
  refine lv_aload_n hx hb dX10_lasts_0 rfl (lv_at hl 0 rfl) ?_
  refine va_get (D := D) (ci := 10) (v := .ref nw) (C := RX10) (T := TX10) (N := 12) hx hb hts iw10 hown hK hP 0 rfl rfl 1 (by decide) fw1 (fun _ h9 => h9) rfl dX10_lasts_1 ?_
  refine lv_iload_n hx hb dX10_lasts_4 rfl (lv_at hl 1 rfl) ?_
  have hs1 : kw_Split [(g, .inr (10, [.ref kk, .ref nw, .ref im, .ref kp, .ref tx, .ref tr, .ref be, .ref sh, .ref sd, .ref rf, .int ab, .int bl])), (rf, .inl (y 0, 3, .inl frf)), (nw, .inr (4, [.ref kk, .ref nk, .ref nd, .ref ne, .ref nm, .ref nn, .int (nI fi), .int (nI gl), .int (nI un), .int (nI mi), .int (nI no)])), (nd, .inr (1, [.ref nl, .ref na, .ref ns, .int nst, .int ncl, .int nnu])), (ns, .inl (y 0, 5, .inl nfs))] [(nw, .inr (4, [.ref kk, .ref nk, .ref nd, .ref ne, .ref nm, .ref nn, .int (nI fi), .int (nI gl), .int (nI un), .int (nI mi), .int (nI no)]))] [(g, .inr (10, [.ref kk, .ref nw, .ref im, .ref kp, .ref tx, .ref tr, .ref be, .ref sh, .ref sd, .ref rf, .int ab, .int bl])), (rf, .inl (y 0, 3, .inl frf)), (nd, .inr (1, [.ref nl, .ref na, .ref ns, .int nst, .int ncl, .int nnu])), (ns, .inl (y 0, 5, .inl nfs))] [2] [0, 1, 3, 4] := ⟨rfl, rfl, rfl, rfl, rfl, by decide⟩
  refine kw_go_i hs1 hP hD hS hA (va_runV (As := [.int x]) (rest := []) ⟨hx, hb, hml, hown, hts⟩ (gc_hasGleaner l D y nw kk nk nd ne nm nn fi gl un mi no x hfi hgl hun hmi hno _) (cwV 1 hts gX10_lasts_X4_hasGleaner rfl rfl rfl (by decide +kernel) ⟨Nat.le_of_ble_eq_true rfl, Nat.le_of_ble_eq_true rfl⟩) (kw_PreV (ci := 4) (q0 := 2) hs1 hP hD hK hN rfl rfl) rfl rfl hl.1 rfl (lv_room (Nat.le_of_ble_eq_true rfl)) dX10_lasts_5 ⟨Nat.le_of_ble_eq_true rfl, Nat.le_of_ble_eq_true rfl⟩) (fun r2 u3 H locs hq hP hD hS => ?_)
  rcases hq with ⟨j4, h5, rfl, rfl⟩ | ⟨h6, rfl⟩
  · skip
    have hP : va_P D vwCl [(g, .inr (10, [.ref kk, .ref nw, .ref im, .ref kp, .ref tx, .ref tr, .ref be, .ref sh, .ref sd, .ref rf, .int ab, .int bl])), (rf, .inl (y 0, 3, .inl frf)), (nd, .inr (1, [.ref nl, .ref na, .ref ns, .int nst, .int ncl, .int nnu])), (ns, .inl (y 0, 5, .inl nfs)), (nw, .inr (4, [.ref kk, .ref nk, .ref nd, .ref ne, .ref nm, .ref nn, .int (nI fi), .int (nI gl), .int (nI un), .int (nI mi), .int (nI no)]))] H := hP
    have hD : va_D A [(g, .inr (10, [.ref kk, .ref nw, .ref im, .ref kp, .ref tx, .ref tr, .ref be, .ref sh, .ref sd, .ref rf, .int ab, .int bl])), (rf, .inl (y 0, 3, .inl frf)), (nd, .inr (1, [.ref nl, .ref na, .ref ns, .int nst, .int ncl, .int nnu])), (ns, .inl (y 0, 5, .inl nfs)), (nw, .inr (4, [.ref kk, .ref nk, .ref nd, .ref ne, .ref nm, .ref nn, .int (nI fi), .int (nI gl), .int (nI un), .int (nI mi), .int (nI no)]))] := hD
    refine lv_if_eq (tgt := 22) hx hb dX10_lasts_8 (by decide) (fun h9 => absurd h9 (by decide)) (fun _ => ?_)
    refine lv_iload_n hx hb dX10_lasts_11 rfl (lv_at hl 2 rfl) ?_
    refine lv_iconst (v := 1) hx hb dX10_lasts_12 (by decide) ?_
    refine lv_sipush (v := 999) hx hb dX10_lasts_13 (by decide) ?_
    have hs7 : kw_Split [(g, .inr (10, [.ref kk, .ref nw, .ref im, .ref kp, .ref tx, .ref tr, .ref be, .ref sh, .ref sd, .ref rf, .int ab, .int bl])), (rf, .inl (y 0, 3, .inl frf)), (nd, .inr (1, [.ref nl, .ref na, .ref ns, .int nst, .int ncl, .int nnu])), (ns, .inl (y 0, 5, .inl nfs)), (nw, .inr (4, [.ref kk, .ref nk, .ref nd, .ref ne, .ref nm, .ref nn, .int (nI fi), .int (nI gl), .int (nI un), .int (nI mi), .int (nI no)]))] [] [(g, .inr (10, [.ref kk, .ref nw, .ref im, .ref kp, .ref tx, .ref tr, .ref be, .ref sh, .ref sd, .ref rf, .int ab, .int bl])), (rf, .inl (y 0, 3, .inl frf)), (nd, .inr (1, [.ref nl, .ref na, .ref ns, .int nst, .int ncl, .int nnu])), (ns, .inl (y 0, 5, .inl nfs)), (nw, .inr (4, [.ref kk, .ref nk, .ref nd, .ref ne, .ref nm, .ref nn, .int (nI fi), .int (nI gl), .int (nI un), .int (nI mi), .int (nI no)]))] [] [0, 1, 2, 3, 4] := ⟨rfl, rfl, rfl, rfl, rfl, by decide⟩
    refine kw_go_i hs7 hP hD hS hA (va_runS (As := [.int x2, .int 1, .int 999]) (rest := []) ⟨hx, hb, hml, hown, hts⟩ (gc_isIn l D y x2 1 999 (by omega) (by omega) _) (va_cwS 3 hts gX10_lasts_X10_isIn rfl rfl rfl (by decide +kernel) ⟨Nat.le_of_ble_eq_true rfl, Nat.le_of_ble_eq_true rfl⟩) (kw_PreS hs7 hP hD hK hN) rfl rfl hl.1 rfl (lv_room (Nat.le_of_ble_eq_true rfl)) dX10_lasts_16 ⟨Nat.le_of_ble_eq_true rfl, Nat.le_of_ble_eq_true rfl⟩) (fun r8 u9 H locs hq hP hD hS => ?_)
    rcases hq with ⟨j10, h11, h12, rfl, rfl⟩ | ⟨h13, rfl⟩
    · skip
      have hP : va_P D vwCl [(g, .inr (10, [.ref kk, .ref nw, .ref im, .ref kp, .ref tx, .ref tr, .ref be, .ref sh, .ref sd, .ref rf, .int ab, .int bl])), (rf, .inl (y 0, 3, .inl frf)), (nd, .inr (1, [.ref nl, .ref na, .ref ns, .int nst, .int ncl, .int nnu])), (ns, .inl (y 0, 5, .inl nfs)), (nw, .inr (4, [.ref kk, .ref nk, .ref nd, .ref ne, .ref nm, .ref nn, .int (nI fi), .int (nI gl), .int (nI un), .int (nI mi), .int (nI no)]))] H := hP
      have hD : va_D A [(g, .inr (10, [.ref kk, .ref nw, .ref im, .ref kp, .ref tx, .ref tr, .ref be, .ref sh, .ref sd, .ref rf, .int ab, .int bl])), (rf, .inl (y 0, 3, .inl frf)), (nd, .inr (1, [.ref nl, .ref na, .ref ns, .int nst, .int ncl, .int nnu])), (ns, .inl (y 0, 5, .inl nfs)), (nw, .inr (4, [.ref kk, .ref nk, .ref nd, .ref ne, .ref nm, .ref nn, .int (nI fi), .int (nI gl), .int (nI un), .int (nI mi), .int (nI no)]))] := hD
      refine lv_if_ne (tgt := 27) hx hb dX10_lasts_19 (by decide) (fun _ => ?_) (fun h9 => absurd h9 (by decide))
      refine lv_aload_n hx hb dX10_lasts_27 rfl (lv_at hl 0 rfl) ?_
      refine va_get (D := D) (ci := 10) (v := .ref nw) (C := RX10) (T := TX10) (N := 12) hx hb hts iw10 hown hK hP 0 rfl rfl 1 (by decide) fw1 (fun _ h9 => h9) rfl dX10_lasts_28 ?_
      refine va_get (D := D) (ci := 4) (v := .ref nd) (C := RX4) (T := TX4) (N := 11) hx hb hts iw4 hown hK hP 4 rfl rfl 2 (by decide) fw2 (fun _ h9 => h9) rfl dX10_lasts_31 ?_
      refine va_get (D := D) (ci := 1) (v := .ref ns) (C := RX1) (T := TX1) (N := 6) hx hb hts iw1 hown hK hP 2 rfl rfl 2 (by decide) fw3 (fun _ h9 => h9) rfl dX10_lasts_34 ?_
      refine lv_iload_n hx hb dX10_lasts_37 rfl (lv_at hl 1 rfl) ?_
      refine va_iald hx hb hK hP 3 0 rfl rfl (vp_in_nI (by omega) (by decide)) dX10_lasts_38 ?_
      rw [nI_clamp (n := j4) (by omega)]
      refine lv_istore_n (lv' := [(3, .int (nfs j4)), (0, .ref g), (1, .int (nI j4)), (2, .int (nI j10))]) hx hb dX10_lasts_39 rfl hl (by decide) rfl (fun ls hl => ?_)
      refine lv_iconst (v := 0) hx hb dX10_lasts_40 (by decide) ?_
      refine lv_istore (lv' := [(4, .int 0), (3, .int (nfs j4)), (0, .ref g), (1, .int (nI j4)), (2, .int (nI j10))]) hx hb dX10_lasts_41 hl (by decide) rfl (fun ls hl => ?_)
      have lp29 : ∀ (fuj91 j91 : Nat) (x21 : Int32) (H : Heap) (locs : List Loc) (ls : Array Slot), j91 ≤ 1000 → 1000 - j91 < fuj91 → va_P D vwCl [(g, .inr (10, [.ref kk, .ref nw, .ref im, .ref kp, .ref tx, .ref tr, .ref be, .ref sh, .ref sd, .ref rf, .int ab, .int bl])), (rf, .inl (y 0, 3, .inl frf)), (nd, .inr (1, [.ref nl, .ref na, .ref ns, .int nst, .int ncl, .int nnu])), (ns, .inl (y 0, 5, .inl nfs)), (nw, .inr (4, [.ref kk, .ref nk, .ref nd, .ref ne, .ref nm, .ref nn, .int (nI fi), .int (nI gl), .int (nI un), .int (nI mi), .int (nI no)]))] H → va_D A [(g, .inr (10, [.ref kk, .ref nw, .ref im, .ref kp, .ref tx, .ref tr, .ref be, .ref sh, .ref sd, .ref rf, .int ab, .int bl])), (rf, .inl (y 0, 3, .inl frf)), (nd, .inr (1, [.ref nl, .ref na, .ref ns, .int nst, .int ncl, .int nnu])), (ns, .inl (y 0, 5, .inl nfs)), (nw, .inr (4, [.ref kk, .ref nk, .ref nd, .ref ne, .ref nm, .ref nn, .int (nI fi), .int (nI gl), .int (nI un), .int (nI mi), .int (nI no)]))] → va_S A s.heap H locs → lv_has ls 5 [(4, .int (nI j91)), (3, .int x21), (0, .ref g), (1, .int (nI j4)), (2, .int (nI j10))] → W pZ l eZ ({ frames := 3, cells := 0, slots := 0, locals := 102 }) s mZ [.ref g, .int (nI j4), .int (nI j10)].toArray beZ meZ cZ H locs 0 0 (MQ beZ (va_Qi (fun (r : Int32) (u : (Nat → Int32)) => True) (kw_B D (fun u => [(g, .inr (10, [.ref kk, .ref nw, .ref im, .ref kp, .ref tx, .ref tr, .ref be, .ref sh, .ref sd, .ref rf, .int ab, .int bl])), (rf, .inl (y 0, 3, .inl u)), (nw, .inr (4, [.ref kk, .ref nk, .ref nd, .ref ne, .ref nm, .ref nn, .int (nI fi), .int (nI gl), .int (nI un), .int (nI mi), .int (nI no)])), (nd, .inr (1, [.ref nl, .ref na, .ref ns, .int nst, .int ncl, .int nnu])), (ns, .inl (y 0, 5, .inl nfs))]) A) A) [.ref g, .int (nI j4), .int (nI j10)].toArray s 0 0 A) (F0 mZ 43 ls []) := by
        intro fuj91
        induction fuj91 with
        | zero => intro j91 x21 H locs ls hj9 hf9; exact absurd hf9 (Nat.not_lt_zero _)
        | succ fuj91 ihj91 =>
          intro j91 x21 H locs ls hj91 hfj91  hP hD hS hl
          refine lv_iload hx hb dX10_lasts_43 (lv_at hl 0 rfl) ?_
          refine lv_sipush (v := 999) hx hb dX10_lasts_45 (by decide) ?_
          refine lv_icmp_gt (tgt := 67) hx hb dX10_lasts_48 (by decide) (fun h30 => ?_) (fun h31 => ?_)
          · skip
            have h30 : 999 < j91 := (nI_ltI (a := 999) (b := j91) (by omega) (by omega)).mp h30
            refine lv_iload hx hb dX10_lasts_67 (lv_at hl 0 rfl) ?_
            exact W.iret (v := (nI j91)) hx hb hr (fun tZ ht hW => ⟨⟨(nI j91), (frf), rfl, trivial, by rw [ht]; exact hP.sub [0, 1, 4, 2, 3] rfl, hD.sub [0, 1, 4, 2, 3] (by decide) rfl⟩, hS.F ht⟩) hS.2.2 dX10_lasts_69
          · skip
            have h31 : ¬ 999 < j91 := fun q9 => h31 ((nI_ltI (a := 999) (b := j91) (by omega) (by omega)).mpr q9)
            refine lv_iload_n hx hb dX10_lasts_51 rfl (lv_at hl 1 rfl) ?_
            refine lv_iload_n hx hb dX10_lasts_52 rfl (lv_at hl 4 rfl) ?_
            refine lv_icmp_lt (tgt := 67) hx hb dX10_lasts_53 (by decide) (fun h32 => ?_) (fun h33 => ?_)
            · skip
              refine lv_iload hx hb dX10_lasts_67 (lv_at hl 0 rfl) ?_
              exact W.iret (v := (nI j91)) hx hb hr (fun tZ ht hW => ⟨⟨(nI j91), (frf), rfl, trivial, by rw [ht]; exact hP.sub [0, 1, 4, 2, 3] rfl, hD.sub [0, 1, 4, 2, 3] (by decide) rfl⟩, hS.F ht⟩) hS.2.2 dX10_lasts_69
            · skip
              refine lv_iload_n hx hb dX10_lasts_56 rfl (lv_at hl 1 rfl) ?_
              have hs34 : kw_Split [(g, .inr (10, [.ref kk, .ref nw, .ref im, .ref kp, .ref tx, .ref tr, .ref be, .ref sh, .ref sd, .ref rf, .int ab, .int bl])), (rf, .inl (y 0, 3, .inl frf)), (nd, .inr (1, [.ref nl, .ref na, .ref ns, .int nst, .int ncl, .int nnu])), (ns, .inl (y 0, 5, .inl nfs)), (nw, .inr (4, [.ref kk, .ref nk, .ref nd, .ref ne, .ref nm, .ref nn, .int (nI fi), .int (nI gl), .int (nI un), .int (nI mi), .int (nI no)]))] [] [(g, .inr (10, [.ref kk, .ref nw, .ref im, .ref kp, .ref tx, .ref tr, .ref be, .ref sh, .ref sd, .ref rf, .int ab, .int bl])), (rf, .inl (y 0, 3, .inl frf)), (nd, .inr (1, [.ref nl, .ref na, .ref ns, .int nst, .int ncl, .int nnu])), (ns, .inl (y 0, 5, .inl nfs)), (nw, .inr (4, [.ref kk, .ref nk, .ref nd, .ref ne, .ref nm, .ref nn, .int (nI fi), .int (nI gl), .int (nI un), .int (nI mi), .int (nI no)]))] [] [0, 1, 2, 3, 4] := ⟨rfl, rfl, rfl, rfl, rfl, by decide⟩
              refine kw_go_i hs34 hP hD hS hA (va_runS (As := [.int x21]) (rest := []) ⟨hx, hb, hml, hown, hts⟩ (gc_faded l D y x21  _) (va_cwS 1 hts gX10_lasts_X10_faded rfl rfl rfl (by decide +kernel) ⟨Nat.le_of_ble_eq_true rfl, Nat.le_of_ble_eq_true rfl⟩) (kw_PreS hs34 hP hD hK hN) rfl rfl hl.1 rfl (lv_room (Nat.le_of_ble_eq_true rfl)) dX10_lasts_57 ⟨Nat.le_of_ble_eq_true rfl, Nat.le_of_ble_eq_true rfl⟩) (fun r35 u36 H locs hq hP hD hS => ?_)
              obtain rfl := hq
              have hP : va_P D vwCl [(g, .inr (10, [.ref kk, .ref nw, .ref im, .ref kp, .ref tx, .ref tr, .ref be, .ref sh, .ref sd, .ref rf, .int ab, .int bl])), (rf, .inl (y 0, 3, .inl frf)), (nd, .inr (1, [.ref nl, .ref na, .ref ns, .int nst, .int ncl, .int nnu])), (ns, .inl (y 0, 5, .inl nfs)), (nw, .inr (4, [.ref kk, .ref nk, .ref nd, .ref ne, .ref nm, .ref nn, .int (nI fi), .int (nI gl), .int (nI un), .int (nI mi), .int (nI no)]))] H := hP
              have hD : va_D A [(g, .inr (10, [.ref kk, .ref nw, .ref im, .ref kp, .ref tx, .ref tr, .ref be, .ref sh, .ref sd, .ref rf, .int ab, .int bl])), (rf, .inl (y 0, 3, .inl frf)), (nd, .inr (1, [.ref nl, .ref na, .ref ns, .int nst, .int ncl, .int nnu])), (ns, .inl (y 0, 5, .inl nfs)), (nw, .inr (4, [.ref kk, .ref nk, .ref nd, .ref ne, .ref nm, .ref nn, .int (nI fi), .int (nI gl), .int (nI un), .int (nI mi), .int (nI no)]))] := hD
              refine lv_istore_n (lv' := [(3, .int (x21 - ((x21 + 3) / 4))), (4, .int (nI j91)), (0, .ref g), (1, .int (nI j4)), (2, .int (nI j10))]) hx hb dX10_lasts_60 rfl hl (by decide) rfl (fun ls hl => ?_)
              refine lv_iinc (v := (nI (j91 + 1))) (lv' := [(4, .int (nI (j91 + 1))), (3, .int (x21 - ((x21 + 3) / 4))), (0, .ref g), (1, .int (nI j4)), (2, .int (nI j10))]) hx hb dX10_lasts_61 hl (k := 1) rfl (nI_1 j91) (by decide) rfl (fun ls hl => ?_)
              refine lv_goto (tgt := 43) hx hb dX10_lasts_64 (by decide) ?_
              exact ihj91 (j91 + 1) (x21 - ((x21 + 3) / 4)) H locs ls (by omega) (by omega)  (hP.sub [0, 1, 2, 3, 4] rfl) (hD.sub [0, 1, 2, 3, 4] (by decide) rfl) hS (lv_sub hl [0, 1, 2, 3, 4] rfl)
      exact lp29 (1000 + 1) 0 (nfs j4) _ _ _ (by omega) (by omega)  hP hD hS (lv_sub hl [0, 1, 2, 3, 4] rfl)
    · skip
      have hP : va_P D vwCl [(g, .inr (10, [.ref kk, .ref nw, .ref im, .ref kp, .ref tx, .ref tr, .ref be, .ref sh, .ref sd, .ref rf, .int ab, .int bl])), (rf, .inl (y 0, 3, .inl frf)), (nd, .inr (1, [.ref nl, .ref na, .ref ns, .int nst, .int ncl, .int nnu])), (ns, .inl (y 0, 5, .inl nfs)), (nw, .inr (4, [.ref kk, .ref nk, .ref nd, .ref ne, .ref nm, .ref nn, .int (nI fi), .int (nI gl), .int (nI un), .int (nI mi), .int (nI no)]))] H := hP
      have hD : va_D A [(g, .inr (10, [.ref kk, .ref nw, .ref im, .ref kp, .ref tx, .ref tr, .ref be, .ref sh, .ref sd, .ref rf, .int ab, .int bl])), (rf, .inl (y 0, 3, .inl frf)), (nd, .inr (1, [.ref nl, .ref na, .ref ns, .int nst, .int ncl, .int nnu])), (ns, .inl (y 0, 5, .inl nfs)), (nw, .inr (4, [.ref kk, .ref nk, .ref nd, .ref ne, .ref nm, .ref nn, .int (nI fi), .int (nI gl), .int (nI un), .int (nI mi), .int (nI no)]))] := hD
      refine lv_if_ne (tgt := 27) hx hb dX10_lasts_19 (by decide) (fun h9 => absurd h9 (by decide)) (fun _ => ?_)
      refine lv_aload_n hx hb dX10_lasts_22 rfl (lv_at hl 0 rfl) ?_
      have hs37 : kw_Split [(g, .inr (10, [.ref kk, .ref nw, .ref im, .ref kp, .ref tx, .ref tr, .ref be, .ref sh, .ref sd, .ref rf, .int ab, .int bl])), (rf, .inl (y 0, 3, .inl frf)), (nd, .inr (1, [.ref nl, .ref na, .ref ns, .int nst, .int ncl, .int nnu])), (ns, .inl (y 0, 5, .inl nfs)), (nw, .inr (4, [.ref kk, .ref nk, .ref nd, .ref ne, .ref nm, .ref nn, .int (nI fi), .int (nI gl), .int (nI un), .int (nI mi), .int (nI no)]))] [(g, .inr (10, [.ref kk, .ref nw, .ref im, .ref kp, .ref tx, .ref tr, .ref be, .ref sh, .ref sd, .ref rf, .int ab, .int bl])), (rf, .inl (y 0, 3, .inl frf))] [(nd, .inr (1, [.ref nl, .ref na, .ref ns, .int nst, .int ncl, .int nnu])), (ns, .inl (y 0, 5, .inl nfs)), (nw, .inr (4, [.ref kk, .ref nk, .ref nd, .ref ne, .ref nm, .ref nn, .int (nI fi), .int (nI gl), .int (nI un), .int (nI mi), .int (nI no)]))] [0, 1] [2, 3, 4] := ⟨rfl, rfl, rfl, rfl, rfl, by decide⟩
      refine kw_go_i hs37 hP hD hS hA (va_runV (As := []) (rest := []) ⟨hx, hb, hml, hown, hts⟩ (gc_refuseBad l D y g kk nw im kp tx tr be sh sd rf ab bl frf  _) (cwV 0 hts gX10_lasts_X10_refuseBad rfl rfl rfl (by decide +kernel) ⟨Nat.le_of_ble_eq_true rfl, Nat.le_of_ble_eq_true rfl⟩) (kw_PreV (ci := 10) (q0 := 0) hs37 hP hD hK hN rfl rfl) rfl rfl hl.1 rfl (lv_room (Nat.le_of_ble_eq_true rfl)) dX10_lasts_23 ⟨Nat.le_of_ble_eq_true rfl, Nat.le_of_ble_eq_true rfl⟩) (fun r38 u39 H locs hq hP hD hS => ?_)
      obtain rfl := hq
      have hP : va_P D vwCl [(nd, .inr (1, [.ref nl, .ref na, .ref ns, .int nst, .int ncl, .int nnu])), (ns, .inl (y 0, 5, .inl nfs)), (nw, .inr (4, [.ref kk, .ref nk, .ref nd, .ref ne, .ref nm, .ref nn, .int (nI fi), .int (nI gl), .int (nI un), .int (nI mi), .int (nI no)])), (g, .inr (10, [.ref kk, .ref nw, .ref im, .ref kp, .ref tx, .ref tr, .ref be, .ref sh, .ref sd, .ref rf, .int ab, .int bl])), (rf, .inl (y 0, 3, .inl (upd frf 0 ((frf 0) + 1))))] H := hP
      have hD : va_D A [(nd, .inr (1, [.ref nl, .ref na, .ref ns, .int nst, .int ncl, .int nnu])), (ns, .inl (y 0, 5, .inl nfs)), (nw, .inr (4, [.ref kk, .ref nk, .ref nd, .ref ne, .ref nm, .ref nn, .int (nI fi), .int (nI gl), .int (nI un), .int (nI mi), .int (nI no)])), (g, .inr (10, [.ref kk, .ref nw, .ref im, .ref kp, .ref tx, .ref tr, .ref be, .ref sh, .ref sd, .ref rf, .int ab, .int bl])), (rf, .inl (y 0, 3, .inl (upd frf 0 ((frf 0) + 1))))] := hD
      exact W.iret (v := (-2)) hx hb hr (fun tZ ht hW => ⟨⟨(-2), ((upd frf 0 ((frf 0) + 1))), rfl, trivial, by rw [ht]; exact hP.sub [3, 4, 2, 0, 1] rfl, hD.sub [3, 4, 2, 0, 1] (by decide) rfl⟩, hS.F ht⟩) hS.2.2 dX10_lasts_26
  · skip
    have hP : va_P D vwCl [(g, .inr (10, [.ref kk, .ref nw, .ref im, .ref kp, .ref tx, .ref tr, .ref be, .ref sh, .ref sd, .ref rf, .int ab, .int bl])), (rf, .inl (y 0, 3, .inl frf)), (nd, .inr (1, [.ref nl, .ref na, .ref ns, .int nst, .int ncl, .int nnu])), (ns, .inl (y 0, 5, .inl nfs)), (nw, .inr (4, [.ref kk, .ref nk, .ref nd, .ref ne, .ref nm, .ref nn, .int (nI fi), .int (nI gl), .int (nI un), .int (nI mi), .int (nI no)]))] H := hP
    have hD : va_D A [(g, .inr (10, [.ref kk, .ref nw, .ref im, .ref kp, .ref tx, .ref tr, .ref be, .ref sh, .ref sd, .ref rf, .int ab, .int bl])), (rf, .inl (y 0, 3, .inl frf)), (nd, .inr (1, [.ref nl, .ref na, .ref ns, .int nst, .int ncl, .int nnu])), (ns, .inl (y 0, 5, .inl nfs)), (nw, .inr (4, [.ref kk, .ref nk, .ref nd, .ref ne, .ref nm, .ref nn, .int (nI fi), .int (nI gl), .int (nI un), .int (nI mi), .int (nI no)]))] := hD
    refine lv_if_eq (tgt := 22) hx hb dX10_lasts_8 (by decide) (fun _ => ?_) (fun h9 => absurd h9 (by decide))
    refine lv_aload_n hx hb dX10_lasts_22 rfl (lv_at hl 0 rfl) ?_
    have hs40 : kw_Split [(g, .inr (10, [.ref kk, .ref nw, .ref im, .ref kp, .ref tx, .ref tr, .ref be, .ref sh, .ref sd, .ref rf, .int ab, .int bl])), (rf, .inl (y 0, 3, .inl frf)), (nd, .inr (1, [.ref nl, .ref na, .ref ns, .int nst, .int ncl, .int nnu])), (ns, .inl (y 0, 5, .inl nfs)), (nw, .inr (4, [.ref kk, .ref nk, .ref nd, .ref ne, .ref nm, .ref nn, .int (nI fi), .int (nI gl), .int (nI un), .int (nI mi), .int (nI no)]))] [(g, .inr (10, [.ref kk, .ref nw, .ref im, .ref kp, .ref tx, .ref tr, .ref be, .ref sh, .ref sd, .ref rf, .int ab, .int bl])), (rf, .inl (y 0, 3, .inl frf))] [(nd, .inr (1, [.ref nl, .ref na, .ref ns, .int nst, .int ncl, .int nnu])), (ns, .inl (y 0, 5, .inl nfs)), (nw, .inr (4, [.ref kk, .ref nk, .ref nd, .ref ne, .ref nm, .ref nn, .int (nI fi), .int (nI gl), .int (nI un), .int (nI mi), .int (nI no)]))] [0, 1] [2, 3, 4] := ⟨rfl, rfl, rfl, rfl, rfl, by decide⟩
    refine kw_go_i hs40 hP hD hS hA (va_runV (As := []) (rest := []) ⟨hx, hb, hml, hown, hts⟩ (gc_refuseBad l D y g kk nw im kp tx tr be sh sd rf ab bl frf  _) (cwV 0 hts gX10_lasts_X10_refuseBad rfl rfl rfl (by decide +kernel) ⟨Nat.le_of_ble_eq_true rfl, Nat.le_of_ble_eq_true rfl⟩) (kw_PreV (ci := 10) (q0 := 0) hs40 hP hD hK hN rfl rfl) rfl rfl hl.1 rfl (lv_room (Nat.le_of_ble_eq_true rfl)) dX10_lasts_23 ⟨Nat.le_of_ble_eq_true rfl, Nat.le_of_ble_eq_true rfl⟩) (fun r41 u42 H locs hq hP hD hS => ?_)
    obtain rfl := hq
    have hP : va_P D vwCl [(nd, .inr (1, [.ref nl, .ref na, .ref ns, .int nst, .int ncl, .int nnu])), (ns, .inl (y 0, 5, .inl nfs)), (nw, .inr (4, [.ref kk, .ref nk, .ref nd, .ref ne, .ref nm, .ref nn, .int (nI fi), .int (nI gl), .int (nI un), .int (nI mi), .int (nI no)])), (g, .inr (10, [.ref kk, .ref nw, .ref im, .ref kp, .ref tx, .ref tr, .ref be, .ref sh, .ref sd, .ref rf, .int ab, .int bl])), (rf, .inl (y 0, 3, .inl (upd frf 0 ((frf 0) + 1))))] H := hP
    have hD : va_D A [(nd, .inr (1, [.ref nl, .ref na, .ref ns, .int nst, .int ncl, .int nnu])), (ns, .inl (y 0, 5, .inl nfs)), (nw, .inr (4, [.ref kk, .ref nk, .ref nd, .ref ne, .ref nm, .ref nn, .int (nI fi), .int (nI gl), .int (nI un), .int (nI mi), .int (nI no)])), (g, .inr (10, [.ref kk, .ref nw, .ref im, .ref kp, .ref tx, .ref tr, .ref be, .ref sh, .ref sd, .ref rf, .int ab, .int bl])), (rf, .inl (y 0, 3, .inl (upd frf 0 ((frf 0) + 1))))] := hD
    exact W.iret (v := (-2)) hx hb hr (fun tZ ht hW => ⟨⟨(-2), ((upd frf 0 ((frf 0) + 1))), rfl, trivial, by rw [ht]; exact hP.sub [3, 4, 2, 0, 1] rfl, hD.sub [3, 4, 2, 0, 1] (by decide) rfl⟩, hS.F ht⟩) hS.2.2 dX10_lasts_26

set_option maxHeartbeats 4000000 in
set_option maxRecDepth 100000 in
theorem gp_forget (l : Launch) (D : va_G) (y : Nat → ClassId) (g : Nat) (kk : Nat) (nw : Nat) (im : Nat) (kp : Nat) (tx : Nat) (tr : Nat) (be : Nat) (sh : Nat) (sd : Nat) (rf : Nat) (ab : Int32) (bl : Int32) (frf : Nat → Int32) (nk : Nat) (nd : Nat) (ne : Nat) (nm : Nat) (nn : Nat) (fi : Nat) (gl : Nat) (un : Nat) (mi : Nat) (no : Nat) (x : Int32) (hfi : fi ≤ 6) (hgl : gl ≤ 5) (hun : un ≤ 8) (hmi : mi ≤ 4) (hno : no ≤ 6) : kw_Mi l yX10_forget wsX10_forget ({ frames := 2, cells := 0, slots := 0, locals := 81 }) D y [.ref g, .int x] [(g, .inr (10, [.ref kk, .ref nw, .ref im, .ref kp, .ref tx, .ref tr, .ref be, .ref sh, .ref sd, .ref rf, .int ab, .int bl])), (rf, .inl (y 0, 3, .inl frf)), (nw, .inr (4, [.ref kk, .ref nk, .ref nd, .ref ne, .ref nm, .ref nn, .int (nI fi), .int (nI gl), .int (nI un), .int (nI mi), .int (nI no)]))] (fun (r : Int32) (u : (Nat → Int32) × Nat × Nat) => u.2.1 ≤ 4 ∧ u.2.2 ≤ 6) (fun u => [(g, .inr (10, [.ref kk, .ref nw, .ref im, .ref kp, .ref tx, .ref tr, .ref be, .ref sh, .ref sd, .ref rf, .int ab, .int bl])), (rf, .inl (y 0, 3, .inl u.1)), (nw, .inr (4, [.ref kk, .ref nk, .ref nd, .ref ne, .ref nm, .ref nn, .int (nI fi), .int (nI gl), .int (nI un), .int (nI u.2.1), .int (nI u.2.2)]))]) 0 0 := by
  refine kw_Mi.of (cc := cX10_forget) (maxL := 3) (ret := (some .int)) (by decide) rfl ?_
  intro pZ eZ s mZ beZ meZ cZ A hE
  obtain ⟨hx, hb, hr, hml, hts, hown, hlocks, hin, hA, hP, hD, hK, hN⟩ := hE
  have hS : va_S A s.heap s.heap [] := va_S.rf
  have hl := lv_entry ([.ref g, .int x]) (n := 3) (Nat.le_of_ble_eq_true rfl)
  rw [lg_entry_eq]
  generalize (lg_sl ([.ref g, .int x]) ++ List.replicate (3 - (lg_sl ([.ref g, .int x])).length) Slot.unset).toArray = ls at hl ⊢
  have hl : lv_has ls 3 [(0, .ref g), (1, .int x)] := hl
  have fw1 := hts (.fieldLink RX10 36 "GleanDusk" "now" "LGleanDusk$Parish;") (List.mem_of_getElem? (i := 1) rfl)
  have fw2 := hts (.fieldLink RX10 250 "GleanDusk$Parish" "noteCount" "I") (List.mem_of_getElem? (i := 3) rfl)
  have fw3 := hts (.fieldLink RX10 240 "GleanDusk$Parish" "missedCount" "I") (List.mem_of_getElem? (i := 2) rfl)
  have iw10 : ∀ w ∈ wsX100, w ∈ wsX10_forget := fun _ h => List.mem_cons_of_mem _ (List.mem_append_left _ (List.mem_append_right _ h))
  have iw4 : ∀ w ∈ wsX40, w ∈ wsX10_forget := fun _ h => List.mem_cons_of_mem _ (List.mem_append_right _ h)
  refine lv_iload_n hx hb dX10_forget_0 rfl (lv_at hl 1 rfl) ?_
  refine lv_iconst (v := 2) hx hb dX10_forget_1 (by decide) ?_
  have hs1 : kw_Split [(g, .inr (10, [.ref kk, .ref nw, .ref im, .ref kp, .ref tx, .ref tr, .ref be, .ref sh, .ref sd, .ref rf, .int ab, .int bl])), (rf, .inl (y 0, 3, .inl frf)), (nw, .inr (4, [.ref kk, .ref nk, .ref nd, .ref ne, .ref nm, .ref nn, .int (nI fi), .int (nI gl), .int (nI un), .int (nI mi), .int (nI no)]))] [] [(g, .inr (10, [.ref kk, .ref nw, .ref im, .ref kp, .ref tx, .ref tr, .ref be, .ref sh, .ref sd, .ref rf, .int ab, .int bl])), (rf, .inl (y 0, 3, .inl frf)), (nw, .inr (4, [.ref kk, .ref nk, .ref nd, .ref ne, .ref nm, .ref nn, .int (nI fi), .int (nI gl), .int (nI un), .int (nI mi), .int (nI no)]))] [] [0, 1, 2] := ⟨rfl, rfl, rfl, rfl, rfl, by decide⟩
  refine kw_go_i hs1 hP hD hS hA (va_runS (As := [.int x, .int 2]) (rest := []) ⟨hx, hb, hml, hown, hts⟩ (gc_isBelow l D y x 2 (by omega) _) (va_cwS 2 hts gX10_forget_X10_isBelow rfl rfl rfl (by decide +kernel) ⟨Nat.le_of_ble_eq_true rfl, Nat.le_of_ble_eq_true rfl⟩) (kw_PreS hs1 hP hD hK hN) rfl rfl hl.1 rfl (lv_room (Nat.le_of_ble_eq_true rfl)) dX10_forget_2 ⟨Nat.le_of_ble_eq_true rfl, Nat.le_of_ble_eq_true rfl⟩) (fun r2 u3 H locs hq hP hD hS => ?_)
  rcases hq with ⟨j4, h5, rfl, rfl⟩ | ⟨h6, rfl⟩
  · skip
    have hP : va_P D vwCl [(g, .inr (10, [.ref kk, .ref nw, .ref im, .ref kp, .ref tx, .ref tr, .ref be, .ref sh, .ref sd, .ref rf, .int ab, .int bl])), (rf, .inl (y 0, 3, .inl frf)), (nw, .inr (4, [.ref kk, .ref nk, .ref nd, .ref ne, .ref nm, .ref nn, .int (nI fi), .int (nI gl), .int (nI un), .int (nI mi), .int (nI no)]))] H := hP
    have hD : va_D A [(g, .inr (10, [.ref kk, .ref nw, .ref im, .ref kp, .ref tx, .ref tr, .ref be, .ref sh, .ref sd, .ref rf, .int ab, .int bl])), (rf, .inl (y 0, 3, .inl frf)), (nw, .inr (4, [.ref kk, .ref nk, .ref nd, .ref ne, .ref nm, .ref nn, .int (nI fi), .int (nI gl), .int (nI un), .int (nI mi), .int (nI no)]))] := hD
    refine lv_if_ne (tgt := 13) hx hb dX10_forget_5 (by decide) (fun _ => ?_) (fun h9 => absurd h9 (by decide))
    refine lv_iload_n hx hb dX10_forget_13 rfl (lv_at hl 1 rfl) ?_
    refine lv_if_ne (tgt := 27) hx hb dX10_forget_14 (by decide) (fun h7 => ?_) (fun h8 => ?_)
    · skip
      have h7 : ¬ j4 = 0 := fun q9 => h7 ((nI_eq (a := j4) (b := 0) (by omega) (by omega)).mpr q9)
      refine lv_aload_n hx hb dX10_forget_27 rfl (lv_at hl 0 rfl) ?_
      refine va_get (D := D) (ci := 10) (v := .ref nw) (C := RX10) (T := TX10) (N := 12) hx hb hts iw10 hown hK hP 0 rfl rfl 1 (by decide) fw1 (fun _ h9 => h9) rfl dX10_forget_28 ?_
      refine va_get (D := D) (ci := 4) (v := .int (nI no)) (C := RX4) (T := TX4) (N := 11) hx hb hts iw4 hown hK hP 2 rfl rfl 10 (by decide) fw2 (fun _ h9 => h9) rfl dX10_forget_31 ?_
      refine lv_istore_n (lv' := [(2, .int (nI no)), (0, .ref g), (1, .int (nI j4))]) hx hb dX10_forget_34 rfl hl (by decide) rfl (fun ls hl => ?_)
      refine lv_iload_n hx hb dX10_forget_35 rfl (lv_at hl 2 rfl) ?_
      refine lv_if_ne (tgt := 50) hx hb dX10_forget_36 (by decide) (fun h9 => ?_) (fun h10 => ?_)
      · skip
        have h9 : ¬ j4 = 0 := fun q9 => h9 ((nI_eq (a := j4) (b := 0) (by omega) (by omega)).mpr q9)
        refine lv_aload_n hx hb dX10_forget_50 rfl (lv_at hl 1 rfl) ?_
        refine va_get (D := D) (ci := 10) (v := .ref nw) (C := RX10) (T := TX10) (N := 12) hx hb hts iw10 hown hK hP 0 rfl rfl 1 (by decide) fw1 (fun _ h9 => h9) rfl dX10_forget_51 ?_
        refine lv_iconst (v := 0) hx hb dX10_forget_54 (by decide) ?_
        refine va_put (D := D) (ci := 4) (v := .int 0) (ty := .int) (C := RX4) (T := TX4) (N := 11) hx hb hts iw4 tyX4 tyX4_ok nmX4 hown hK hP hD hS 2 rfl rfl 10 (by decide) fw2 (fun _ h9 => h9) rfl (by decide +kernel) rfl rfl (Nat.le_of_ble_eq_true rfl) dX10_forget_55 (fun H locs hP hD hS => ?_)
        have hP : va_P D vwCl [(g, .inr (10, [.ref kk, .ref nw, .ref im, .ref kp, .ref tx, .ref tr, .ref be, .ref sh, .ref sd, .ref rf, .int ab, .int bl])), (rf, .inl (y 0, 3, .inl frf)), (nw, .inr (4, [.ref kk, .ref nk, .ref nd, .ref ne, .ref nm, .ref nn, .int (nI fi), .int (nI gl), .int (nI un), .int (nI mi), .int 0]))] H := hP
        have hD : va_D A [(g, .inr (10, [.ref kk, .ref nw, .ref im, .ref kp, .ref tx, .ref tr, .ref be, .ref sh, .ref sd, .ref rf, .int ab, .int bl])), (rf, .inl (y 0, 3, .inl frf)), (nw, .inr (4, [.ref kk, .ref nk, .ref nd, .ref ne, .ref nm, .ref nn, .int (nI fi), .int (nI gl), .int (nI un), .int (nI mi), .int 0]))] := hD
        refine lv_iload_n hx hb dX10_forget_58 rfl (lv_at hl 0 rfl) ?_
        exact W.iret (v := (nI no)) hx hb hr (fun tZ ht hW => ⟨⟨(nI no), (frf, mi, 0), rfl, ⟨by first | omega | (dsimp only; omega), by first | omega | (dsimp only; omega)⟩, by rw [ht]; exact hP.sub [0, 1, 2] rfl, hD.sub [0, 1, 2] (by decide) rfl⟩, hS.F ht⟩) hS.2.2 dX10_forget_59
      · skip
        have h10 : j4 = 0 := (nI_eq (a := j4) (b := 0) (by omega) (by omega)).mp h10
        refine lv_aload_n hx hb dX10_forget_39 rfl (lv_at hl 1 rfl) ?_
        refine va_get (D := D) (ci := 10) (v := .ref nw) (C := RX10) (T := TX10) (N := 12) hx hb hts iw10 hown hK hP 0 rfl rfl 1 (by decide) fw1 (fun _ h9 => h9) rfl dX10_forget_40 ?_
        refine lv_iconst (v := 0) hx hb dX10_forget_43 (by decide) ?_
        refine va_put (D := D) (ci := 4) (v := .int 0) (ty := .int) (C := RX4) (T := TX4) (N := 11) hx hb hts iw4 tyX4 tyX4_ok nmX4 hown hK hP hD hS 2 rfl rfl 9 (by decide) fw3 (fun _ h9 => h9) rfl (by decide +kernel) rfl rfl (Nat.le_of_ble_eq_true rfl) dX10_forget_44 (fun H locs hP hD hS => ?_)
        have hP : va_P D vwCl [(g, .inr (10, [.ref kk, .ref nw, .ref im, .ref kp, .ref tx, .ref tr, .ref be, .ref sh, .ref sd, .ref rf, .int ab, .int bl])), (rf, .inl (y 0, 3, .inl frf)), (nw, .inr (4, [.ref kk, .ref nk, .ref nd, .ref ne, .ref nm, .ref nn, .int (nI fi), .int (nI gl), .int (nI un), .int 0, .int (nI no)]))] H := hP
        have hD : va_D A [(g, .inr (10, [.ref kk, .ref nw, .ref im, .ref kp, .ref tx, .ref tr, .ref be, .ref sh, .ref sd, .ref rf, .int ab, .int bl])), (rf, .inl (y 0, 3, .inl frf)), (nw, .inr (4, [.ref kk, .ref nk, .ref nd, .ref ne, .ref nm, .ref nn, .int (nI fi), .int (nI gl), .int (nI un), .int 0, .int (nI no)]))] := hD
        refine lv_goto (tgt := 58) hx hb dX10_forget_47 (by decide) ?_
        refine lv_iload_n hx hb dX10_forget_58 rfl (lv_at hl 0 rfl) ?_
        exact W.iret (v := (nI no)) hx hb hr (fun tZ ht hW => ⟨⟨(nI no), (frf, 0, no), rfl, ⟨by first | omega | (dsimp only; omega), by first | omega | (dsimp only; omega)⟩, by rw [ht]; exact hP.sub [0, 1, 2] rfl, hD.sub [0, 1, 2] (by decide) rfl⟩, hS.F ht⟩) hS.2.2 dX10_forget_59
    · skip
      have h8 : j4 = 0 := (nI_eq (a := j4) (b := 0) (by omega) (by omega)).mp h8
      refine lv_aload_n hx hb dX10_forget_17 rfl (lv_at hl 0 rfl) ?_
      refine va_get (D := D) (ci := 10) (v := .ref nw) (C := RX10) (T := TX10) (N := 12) hx hb hts iw10 hown hK hP 0 rfl rfl 1 (by decide) fw1 (fun _ h9 => h9) rfl dX10_forget_18 ?_
      refine va_get (D := D) (ci := 4) (v := .int (nI mi)) (C := RX4) (T := TX4) (N := 11) hx hb hts iw4 hown hK hP 2 rfl rfl 9 (by decide) fw3 (fun _ h9 => h9) rfl dX10_forget_21 ?_
      refine lv_goto (tgt := 34) hx hb dX10_forget_24 (by decide) ?_
      refine lv_istore_n (lv' := [(2, .int (nI mi)), (0, .ref g), (1, .int (nI j4))]) hx hb dX10_forget_34 rfl hl (by decide) rfl (fun ls hl => ?_)
      refine lv_iload_n hx hb dX10_forget_35 rfl (lv_at hl 2 rfl) ?_
      refine lv_if_ne (tgt := 50) hx hb dX10_forget_36 (by decide) (fun h11 => ?_) (fun h12 => ?_)
      · skip
        have h11 : ¬ j4 = 0 := fun q9 => h11 ((nI_eq (a := j4) (b := 0) (by omega) (by omega)).mpr q9)
        refine lv_aload_n hx hb dX10_forget_50 rfl (lv_at hl 1 rfl) ?_
        refine va_get (D := D) (ci := 10) (v := .ref nw) (C := RX10) (T := TX10) (N := 12) hx hb hts iw10 hown hK hP 0 rfl rfl 1 (by decide) fw1 (fun _ h9 => h9) rfl dX10_forget_51 ?_
        refine lv_iconst (v := 0) hx hb dX10_forget_54 (by decide) ?_
        refine va_put (D := D) (ci := 4) (v := .int 0) (ty := .int) (C := RX4) (T := TX4) (N := 11) hx hb hts iw4 tyX4 tyX4_ok nmX4 hown hK hP hD hS 2 rfl rfl 10 (by decide) fw2 (fun _ h9 => h9) rfl (by decide +kernel) rfl rfl (Nat.le_of_ble_eq_true rfl) dX10_forget_55 (fun H locs hP hD hS => ?_)
        have hP : va_P D vwCl [(g, .inr (10, [.ref kk, .ref nw, .ref im, .ref kp, .ref tx, .ref tr, .ref be, .ref sh, .ref sd, .ref rf, .int ab, .int bl])), (rf, .inl (y 0, 3, .inl frf)), (nw, .inr (4, [.ref kk, .ref nk, .ref nd, .ref ne, .ref nm, .ref nn, .int (nI fi), .int (nI gl), .int (nI un), .int (nI mi), .int 0]))] H := hP
        have hD : va_D A [(g, .inr (10, [.ref kk, .ref nw, .ref im, .ref kp, .ref tx, .ref tr, .ref be, .ref sh, .ref sd, .ref rf, .int ab, .int bl])), (rf, .inl (y 0, 3, .inl frf)), (nw, .inr (4, [.ref kk, .ref nk, .ref nd, .ref ne, .ref nm, .ref nn, .int (nI fi), .int (nI gl), .int (nI un), .int (nI mi), .int 0]))] := hD
        refine lv_iload_n hx hb dX10_forget_58 rfl (lv_at hl 0 rfl) ?_
        exact W.iret (v := (nI mi)) hx hb hr (fun tZ ht hW => ⟨⟨(nI mi), (frf, mi, 0), rfl, ⟨by first | omega | (dsimp only; omega), by first | omega | (dsimp only; omega)⟩, by rw [ht]; exact hP.sub [0, 1, 2] rfl, hD.sub [0, 1, 2] (by decide) rfl⟩, hS.F ht⟩) hS.2.2 dX10_forget_59
      · skip
        have h12 : j4 = 0 := (nI_eq (a := j4) (b := 0) (by omega) (by omega)).mp h12
        refine lv_aload_n hx hb dX10_forget_39 rfl (lv_at hl 1 rfl) ?_
        refine va_get (D := D) (ci := 10) (v := .ref nw) (C := RX10) (T := TX10) (N := 12) hx hb hts iw10 hown hK hP 0 rfl rfl 1 (by decide) fw1 (fun _ h9 => h9) rfl dX10_forget_40 ?_
        refine lv_iconst (v := 0) hx hb dX10_forget_43 (by decide) ?_
        refine va_put (D := D) (ci := 4) (v := .int 0) (ty := .int) (C := RX4) (T := TX4) (N := 11) hx hb hts iw4 tyX4 tyX4_ok nmX4 hown hK hP hD hS 2 rfl rfl 9 (by decide) fw3 (fun _ h9 => h9) rfl (by decide +kernel) rfl rfl (Nat.le_of_ble_eq_true rfl) dX10_forget_44 (fun H locs hP hD hS => ?_)
        have hP : va_P D vwCl [(g, .inr (10, [.ref kk, .ref nw, .ref im, .ref kp, .ref tx, .ref tr, .ref be, .ref sh, .ref sd, .ref rf, .int ab, .int bl])), (rf, .inl (y 0, 3, .inl frf)), (nw, .inr (4, [.ref kk, .ref nk, .ref nd, .ref ne, .ref nm, .ref nn, .int (nI fi), .int (nI gl), .int (nI un), .int 0, .int (nI no)]))] H := hP
        have hD : va_D A [(g, .inr (10, [.ref kk, .ref nw, .ref im, .ref kp, .ref tx, .ref tr, .ref be, .ref sh, .ref sd, .ref rf, .int ab, .int bl])), (rf, .inl (y 0, 3, .inl frf)), (nw, .inr (4, [.ref kk, .ref nk, .ref nd, .ref ne, .ref nm, .ref nn, .int (nI fi), .int (nI gl), .int (nI un), .int 0, .int (nI no)]))] := hD
        refine lv_goto (tgt := 58) hx hb dX10_forget_47 (by decide) ?_
        refine lv_iload_n hx hb dX10_forget_58 rfl (lv_at hl 0 rfl) ?_
        exact W.iret (v := (nI mi)) hx hb hr (fun tZ ht hW => ⟨⟨(nI mi), (frf, 0, no), rfl, ⟨by first | omega | (dsimp only; omega), by first | omega | (dsimp only; omega)⟩, by rw [ht]; exact hP.sub [0, 1, 2] rfl, hD.sub [0, 1, 2] (by decide) rfl⟩, hS.F ht⟩) hS.2.2 dX10_forget_59
  · skip
    have hP : va_P D vwCl [(g, .inr (10, [.ref kk, .ref nw, .ref im, .ref kp, .ref tx, .ref tr, .ref be, .ref sh, .ref sd, .ref rf, .int ab, .int bl])), (rf, .inl (y 0, 3, .inl frf)), (nw, .inr (4, [.ref kk, .ref nk, .ref nd, .ref ne, .ref nm, .ref nn, .int (nI fi), .int (nI gl), .int (nI un), .int (nI mi), .int (nI no)]))] H := hP
    have hD : va_D A [(g, .inr (10, [.ref kk, .ref nw, .ref im, .ref kp, .ref tx, .ref tr, .ref be, .ref sh, .ref sd, .ref rf, .int ab, .int bl])), (rf, .inl (y 0, 3, .inl frf)), (nw, .inr (4, [.ref kk, .ref nk, .ref nd, .ref ne, .ref nm, .ref nn, .int (nI fi), .int (nI gl), .int (nI un), .int (nI mi), .int (nI no)]))] := hD
    refine lv_if_ne (tgt := 13) hx hb dX10_forget_5 (by decide) (fun h9 => absurd h9 (by decide)) (fun _ => ?_)
    refine lv_aload_n hx hb dX10_forget_8 rfl (lv_at hl 0 rfl) ?_
    have hs13 : kw_Split [(g, .inr (10, [.ref kk, .ref nw, .ref im, .ref kp, .ref tx, .ref tr, .ref be, .ref sh, .ref sd, .ref rf, .int ab, .int bl])), (rf, .inl (y 0, 3, .inl frf)), (nw, .inr (4, [.ref kk, .ref nk, .ref nd, .ref ne, .ref nm, .ref nn, .int (nI fi), .int (nI gl), .int (nI un), .int (nI mi), .int (nI no)]))] [(g, .inr (10, [.ref kk, .ref nw, .ref im, .ref kp, .ref tx, .ref tr, .ref be, .ref sh, .ref sd, .ref rf, .int ab, .int bl])), (rf, .inl (y 0, 3, .inl frf))] [(nw, .inr (4, [.ref kk, .ref nk, .ref nd, .ref ne, .ref nm, .ref nn, .int (nI fi), .int (nI gl), .int (nI un), .int (nI mi), .int (nI no)]))] [0, 1] [2] := ⟨rfl, rfl, rfl, rfl, rfl, by decide⟩
    refine kw_go_i hs13 hP hD hS hA (va_runV (As := []) (rest := []) ⟨hx, hb, hml, hown, hts⟩ (gc_refuseBad l D y g kk nw im kp tx tr be sh sd rf ab bl frf  _) (cwV 0 hts gX10_forget_X10_refuseBad rfl rfl rfl (by decide +kernel) ⟨Nat.le_of_ble_eq_true rfl, Nat.le_of_ble_eq_true rfl⟩) (kw_PreV (ci := 10) (q0 := 0) hs13 hP hD hK hN rfl rfl) rfl rfl hl.1 rfl (lv_room (Nat.le_of_ble_eq_true rfl)) dX10_forget_9 ⟨Nat.le_of_ble_eq_true rfl, Nat.le_of_ble_eq_true rfl⟩) (fun r14 u15 H locs hq hP hD hS => ?_)
    obtain rfl := hq
    have hP : va_P D vwCl [(nw, .inr (4, [.ref kk, .ref nk, .ref nd, .ref ne, .ref nm, .ref nn, .int (nI fi), .int (nI gl), .int (nI un), .int (nI mi), .int (nI no)])), (g, .inr (10, [.ref kk, .ref nw, .ref im, .ref kp, .ref tx, .ref tr, .ref be, .ref sh, .ref sd, .ref rf, .int ab, .int bl])), (rf, .inl (y 0, 3, .inl (upd frf 0 ((frf 0) + 1))))] H := hP
    have hD : va_D A [(nw, .inr (4, [.ref kk, .ref nk, .ref nd, .ref ne, .ref nm, .ref nn, .int (nI fi), .int (nI gl), .int (nI un), .int (nI mi), .int (nI no)])), (g, .inr (10, [.ref kk, .ref nw, .ref im, .ref kp, .ref tx, .ref tr, .ref be, .ref sh, .ref sd, .ref rf, .int ab, .int bl])), (rf, .inl (y 0, 3, .inl (upd frf 0 ((frf 0) + 1))))] := hD
    exact W.iret (v := (-2)) hx hb hr (fun tZ ht hW => ⟨⟨(-2), ((upd frf 0 ((frf 0) + 1)), mi, no), rfl, ⟨by first | omega | (dsimp only; omega), by first | omega | (dsimp only; omega)⟩, by rw [ht]; exact hP.sub [1, 2, 0] rfl, hD.sub [1, 2, 0] (by decide) rfl⟩, hS.F ht⟩) hS.2.2 dX10_forget_12
