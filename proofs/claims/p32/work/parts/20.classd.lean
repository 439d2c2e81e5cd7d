set_option maxHeartbeats 4000000 in
set_option maxRecDepth 100000 in
theorem gc_gather (l : Launch) (D : va_G) (y : Nat → ClassId) (nw : Nat) (kk : Nat) (nk : Nat) (nd : Nat) (ne : Nat) (nm : Nat) (nn : Nat) (fi : Nat) (gl : Nat) (un : Nat) (mi : Nat) (no : Nat) (d : Nat) (dl : Nat) (da : Nat) (ds : Nat) (dst : Int32) (dcl : Int32) (dnu : Int32) (dfl : Nat → Int32) (dfa : Nat → Int32) (dfs : Nat → Int32) (fk : Nat → Int32) (k0 : Nat) (k1 : Nat) (k2 : Nat) (k3 : Nat) (k4 : Nat) (k5 : Nat) (fq : Nat → Option Nat) (x : Int32) (hfi : fi ≤ 6) (hgl : gl ≤ 5) (hun : un ≤ 8) (hmi : mi ≤ 4) (hno : no ≤ 6) (hk : kw_bd 6 6 fk) (hda : kw_bd 6 5 dfa) (hq0 : fq 0 = some k0) (hq1 : fq 1 = some k1) (hq2 : fq 2 = some k2) (hq3 : fq 3 = some k3) (hq4 : fq 4 = some k4) (hq5 : fq 5 = some k5) : kw_Mi l yX4_gather wsX4_gather ({ frames := 6, cells := 0, slots := 0, locals := 176 }) D y [.ref nw, .ref d, .int x] [(nw, .inr (4, [.ref kk, .ref nk, .ref nd, .ref ne, .ref nm, .ref nn, .int (nI fi), .int (nI gl), .int (nI un), .int (nI mi), .int (nI no)])), (nk, .inl (y 0, 6, .inl fk)), (d, .inr (1, [.ref dl, .ref da, .ref ds, .int dst, .int dcl, .int dnu])), (dl, .inl (y 0, 6, .inl dfl)), (da, .inl (y 0, 5, .inl dfa)), (ds, .inl (y 0, 5, .inl dfs)), (kk, .inl (y 5, 6, .inr (.inr (.inr (.inr fq))))), (k0, .inr (5, [])), (k1, .inr (8, [])), (k2, .inr (9, [])), (k3, .inr (6, [])), (k4, .inr (2, [])), (k5, .inr (3, []))] (fun (r : Int32) (u : Int32 × (Nat → Int32) × (Nat → Int32)) => True) (fun u => [(nw, .inr (4, [.ref kk, .ref nk, .ref nd, .ref ne, .ref nm, .ref nn, .int (nI fi), .int (nI gl), .int (nI un), .int (nI mi), .int (nI no)])), (nk, .inl (y 0, 6, .inl fk)), (d, .inr (1, [.ref dl, .ref da, .ref ds, .int u.1, .int dcl, .int dnu])), (dl, .inl (y 0, 6, .inl u.2.1)), (da, .inl (y 0, 5, .inl dfa)), (ds, .inl (y 0, 5, .inl u.2.2)), (kk, .inl (y 5, 6, .inr (.inr (.inr (.inr fq))))), (k0, .inr (5, [])), (k1, .inr (8, [])), (k2, .inr (9, [])), (k3, .inr (6, [])), (k4, .inr (2, [])), (k5, .inr (3, []))]) 0 0 := by
  refine kw_Mi.of (cc := cX4_gather) (maxL := 6) (ret := (some .int)) (by decide) rfl ?_
  intro pZ eZ s mZ beZ meZ cZ A hE
  obtain ⟨hx, hb, hr, hml, hts, hown, hlocks, hin, hA, hP, hD, hK, hN⟩ := hE
  have hS : va_S A s.heap s.heap [] := va_S.rf
  have hl := lv_entry ([.ref nw, .ref d, .int x]) (n := 6) (Nat.le_of_ble_eq_true rfl)
  rw [lg_entry_eq]
  generalize (lg_sl ([.ref nw, .ref d, .int x]) ++ List.replicate (6 - (lg_sl ([.ref nw, .ref d, .int x])).length) Slot.unset).toArray = ls at hl ⊢
  have hl : lv_has ls 6 [(0, .ref nw), (1, .ref d), (2, .int x)] := hl
  have fw1 := hts (.fieldLink RX4 38 "GleanDusk$Parish" "fields" "I") (List.mem_of_getElem? (i := 1) rfl)
  have fw2 := hts (.fieldLink RX4 54 "GleanDusk$Dusk" "step" "I") (List.mem_of_getElem? (i := 2) rfl)
  have iw4 : ∀ w ∈ wsX40, w ∈ wsX4_gather := fun _ h => List.mem_cons_of_mem _ (List.mem_append_left _ (List.mem_append_right _ h))
  have iw1 : ∀ w ∈ wsX10, w ∈ wsX4_gather := fun _ h => List.mem_cons_of_mem _ (List.mem_append_right _ h)
  rcases kw_nn x with h1 | ⟨NN, hNN, rfl⟩
  · skip
    have h2 : x ≤ 0 := Int32.le_of_lt h1
    refine lv_iconst (v := 0) hx hb dX4_gather_0 (by decide) ?_
    refine lv_istore_n (lv' := [(3, .int 0), (0, .ref nw), (1, .ref d), (2, .int x)]) hx hb dX4_gather_1 rfl hl (by decide) rfl (fun ls hl => ?_)
    refine lv_iconst (v := 0) hx hb dX4_gather_2 (by decide) ?_
    refine lv_istore (lv' := [(4, .int 0), (3, .int 0), (0, .ref nw), (1, .ref d), (2, .int x)]) hx hb dX4_gather_3 hl (by decide) rfl (fun ls hl => ?_)
    refine lv_iload hx hb dX4_gather_5 (lv_at hl 0 rfl) ?_
    refine lv_iload_n hx hb dX4_gather_7 rfl (lv_at hl 4 rfl) ?_
    refine lv_icmp_ge (tgt := 62) hx hb dX4_gather_8 (by decide) (fun h3 => ?_) (fun h4 => ?_)
    · skip
      refine lv_iload_n hx hb dX4_gather_62 rfl (lv_at hl 1 rfl) ?_
      exact W.iret (v := 0) hx hb hr (fun tZ ht hW => ⟨⟨0, (dst, dfl, dfs), rfl, trivial, by rw [ht]; exact hP.sub [0, 1, 2, 3, 4, 5, 6, 7, 8, 9, 10, 11, 12] rfl, hD.sub [0, 1, 2, 3, 4, 5, 6, 7, 8, 9, 10, 11, 12] (by decide) rfl⟩, hS.F ht⟩) hS.2.2 dX4_gather_63
    · skip
      exact absurd h2 h4
  · skip
    refine lv_iconst (v := 0) hx hb dX4_gather_0 (by decide) ?_
    refine lv_istore_n (lv' := [(3, .int 0), (0, .ref nw), (1, .ref d), (2, .int (nI NN))]) hx hb dX4_gather_1 rfl hl (by decide) rfl (fun ls hl => ?_)
    refine lv_iconst (v := 0) hx hb dX4_gather_2 (by decide) ?_
    refine lv_istore (lv' := [(4, .int 0), (3, .int 0), (0, .ref nw), (1, .ref d), (2, .int (nI NN))]) hx hb dX4_gather_3 hl (by decide) rfl (fun ls hl => ?_)
    have lp81 : ∀ (fuj91 j91 : Nat) (x41 : Int32) (x42 : Int32) (x43 : Nat → Int32) (x44 : Nat → Int32) (H : Heap) (locs : List Loc) (ls : Array Slot), j91 ≤ NN → NN - j91 < fuj91 → va_P D vwCl [(nw, .inr (4, [.ref kk, .ref nk, .ref nd, .ref ne, .ref nm, .ref nn, .int (nI fi), .int (nI gl), .int (nI un), .int (nI mi), .int (nI no)])), (nk, .inl (y 0, 6, .inl fk)), (d, .inr (1, [.ref dl, .ref da, .ref ds, .int x41, .int dcl, .int dnu])), (dl, .inl (y 0, 6, .inl x43)), (da, .inl (y 0, 5, .inl dfa)), (ds, .inl (y 0, 5, .inl x44)), (kk, .inl (y 5, 6, .inr (.inr (.inr (.inr fq))))), (k0, .inr (5, [])), (k1, .inr (8, [])), (k2, .inr (9, [])), (k3, .inr (6, [])), (k4, .inr (2, [])), (k5, .inr (3, []))] H → va_D A [(nw, .inr (4, [.ref kk, .ref nk, .ref nd, .ref ne, .ref nm, .ref nn, .int (nI fi), .int (nI gl), .int (nI un), .int (nI mi), .int (nI no)])), (nk, .inl (y 0, 6, .inl fk)), (d, .inr (1, [.ref dl, .ref da, .ref ds, .int x41, .int dcl, .int dnu])), (dl, .inl (y 0, 6, .inl x43)), (da, .inl (y 0, 5, .inl dfa)), (ds, .inl (y 0, 5, .inl x44)), (kk, .inl (y 5, 6, .inr (.inr (.inr (.inr fq))))), (k0, .inr (5, [])), (k1, .inr (8, [])), (k2, .inr (9, [])), (k3, .inr (6, [])), (k4, .inr (2, [])), (k5, .inr (3, []))] → va_S A s.heap H locs → lv_has ls 6 [(4, .int (nI j91)), (3, .int x42), (0, .ref nw), (1, .ref d), (2, .int (nI NN))] → W pZ l eZ ({ frames := 6, cells := 0, slots := 0, locals := 176 }) s mZ [.ref nw, .ref d, .int (nI NN)].toArray beZ meZ cZ H locs 0 0 (MQ beZ (va_Qi (fun (r : Int32) (u : Int32 × (Nat → Int32) × (Nat → Int32)) => True) (kw_B D (fun u => [(nw, .inr (4, [.ref kk, .ref nk, .ref nd, .ref ne, .ref nm, .ref nn, .int (nI fi), .int (nI gl), .int (nI un), .int (nI mi), .int (nI no)])), (nk, .inl (y 0, 6, .inl fk)), (d, .inr (1, [.ref dl, .ref da, .ref ds, .int u.1, .int dcl, .int dnu])), (dl, .inl (y 0, 6, .inl u.2.1)), (da, .inl (y 0, 5, .inl dfa)), (ds, .inl (y 0, 5, .inl u.2.2)), (kk, .inl (y 5, 6, .inr (.inr (.inr (.inr fq))))), (k0, .inr (5, [])), (k1, .inr (8, [])), (k2, .inr (9, [])), (k3, .inr (6, [])), (k4, .inr (2, [])), (k5, .inr (3, []))]) A) A) [.ref nw, .ref d, .int (nI NN)].toArray s 0 0 A) (F0 mZ 5 ls []) := by
      intro fuj91
      induction fuj91 with
      | zero => intro j91 x41 x42 x43 x44 H locs ls hj9 hf9; exact absurd hf9 (Nat.not_lt_zero _)
      | succ fuj91 ihj91 =>
        intro j91 x41 x42 x43 x44 H locs ls hj91 hfj91  hP hD hS hl
        refine lv_iload hx hb dX4_gather_5 (lv_at hl 0 rfl) ?_
        refine lv_iload_n hx hb dX4_gather_7 rfl (lv_at hl 4 rfl) ?_
        refine lv_icmp_ge (tgt := 62) hx hb dX4_gather_8 (by decide) (fun h82 => ?_) (fun h83 => ?_)
        · skip
          have h82 : NN ≤ j91 := (nI_leI (a := NN) (b := j91) (by omega) (by omega)).mp h82
          refine lv_iload_n hx hb dX4_gather_62 rfl (lv_at hl 1 rfl) ?_
          exact W.iret (v := x42) hx hb hr (fun tZ ht hW => ⟨⟨x42, (x41, x43, x44), rfl, trivial, by rw [ht]; exact hP.sub [0, 1, 2, 3, 4, 5, 6, 7, 8, 9, 10, 11, 12] rfl, hD.sub [0, 1, 2, 3, 4, 5, 6, 7, 8, 9, 10, 11, 12] (by decide) rfl⟩, hS.F ht⟩) hS.2.2 dX4_gather_63
        · skip
          have h83 : ¬ NN ≤ j91 := fun q9 => h83 ((nI_leI (a := NN) (b := j91) (by omega) (by omega)).mpr q9)
          refine lv_iconst (v := 0) hx hb dX4_gather_11 (by decide) ?_
          refine lv_istore (lv' := [(5, .int 0), (4, .int (nI j91)), (3, .int x42), (0, .ref nw), (1, .ref d), (2, .int (nI NN))]) hx hb dX4_gather_12 hl (by decide) rfl (fun ls hl => ?_)
          have lp107 : ∀ (fuj92 j92 : Nat) (x94 : Int32) (x95 : Nat → Int32) (x96 : Nat → Int32) (H : Heap) (locs : List Loc) (ls : Array Slot), j92 ≤ fi → fi - j92 < fuj92 → va_P D vwCl [(nw, .inr (4, [.ref kk, .ref nk, .ref nd, .ref ne, .ref nm, .ref nn, .int (nI fi), .int (nI gl), .int (nI un), .int (nI mi), .int (nI no)])), (nk, .inl (y 0, 6, .inl fk)), (d, .inr (1, [.ref dl, .ref da, .ref ds, .int x41, .int dcl, .int dnu])), (dl, .inl (y 0, 6, .inl x95)), (da, .inl (y 0, 5, .inl dfa)), (ds, .inl (y 0, 5, .inl x96)), (kk, .inl (y 5, 6, .inr (.inr (.inr (.inr fq))))), (k0, .inr (5, [])), (k1, .inr (8, [])), (k2, .inr (9, [])), (k3, .inr (6, [])), (k4, .inr (2, [])), (k5, .inr (3, []))] H → va_D A [(nw, .inr (4, [.ref kk, .ref nk, .ref nd, .ref ne, .ref nm, .ref nn, .int (nI fi), .int (nI gl), .int (nI un), .int (nI mi), .int (nI no)])), (nk, .inl (y 0, 6, .inl fk)), (d, .inr (1, [.ref dl, .ref da, .ref ds, .int x41, .int dcl, .int dnu])), (dl, .inl (y 0, 6, .inl x95)), (da, .inl (y 0, 5, .inl dfa)), (ds, .inl (y 0, 5, .inl x96)), (kk, .inl (y 5, 6, .inr (.inr (.inr (.inr fq))))), (k0, .inr (5, [])), (k1, .inr (8, [])), (k2, .inr (9, [])), (k3, .inr (6, [])), (k4, .inr (2, [])), (k5, .inr (3, []))] → va_S A s.heap H locs → lv_has ls 6 [(5, .int (nI j92)), (4, .int (nI j91)), (3, .int x94), (0, .ref nw), (1, .ref d), (2, .int (nI NN))] → W pZ l eZ ({ frames := 6, cells := 0, slots := 0, locals := 176 }) s mZ [.ref nw, .ref d, .int (nI NN)].toArray beZ meZ cZ H locs 0 0 (MQ beZ (va_Qi (fun (r : Int32) (u : Int32 × (Nat → Int32) × (Nat → Int32)) => True) (kw_B D (fun u => [(nw, .inr (4, [.ref kk, .ref nk, .ref nd, .ref ne, .ref nm, .ref nn, .int (nI fi), .int (nI gl), .int (nI un), .int (nI mi), .int (nI no)])), (nk, .inl (y 0, 6, .inl fk)), (d, .inr (1, [.ref dl, .ref da, .ref ds, .int u.1, .int dcl, .int dnu])), (dl, .inl (y 0, 6, .inl u.2.1)), (da, .inl (y 0, 5, .inl dfa)), (ds, .inl (y 0, 5, .inl u.2.2)), (kk, .inl (y 5, 6, .inr (.inr (.inr (.inr fq))))), (k0, .inr (5, [])), (k1, .inr (8, [])), (k2, .inr (9, [])), (k3, .inr (6, [])), (k4, .inr (2, [])), (k5, .inr (3, []))]) A) A) [.ref nw, .ref d, .int (nI NN)].toArray s 0 0 A) (F0 mZ 14 ls []) := by
            intro fuj92
            induction fuj92 with
            | zero => intro j92 x94 x95 x96 H locs ls hj9 hf9; exact absurd hf9 (Nat.not_lt_zero _)
            | succ fuj92 ihj92 =>
              intro j92 x94 x95 x96 H locs ls hj92 hfj92  hP hD hS hl
              refine lv_iload hx hb dX4_gather_14 (lv_at hl 0 rfl) ?_
              refine lv_aload_n hx hb dX4_gather_16 rfl (lv_at hl 3 rfl) ?_
              refine va_get (D := D) (ci := 4) (v := .int (nI fi)) (C := RX4) (T := TX4) (N := 11) hx hb hts iw4 hown hK hP 0 rfl rfl 6 (by decide) fw1 (fun _ h9 => h9) rfl dX4_gather_17 ?_
              refine lv_icmp_ge (tgt := 46) hx hb dX4_gather_20 (by decide) (fun h108 => ?_) (fun h109 => ?_)
              · skip
                have h108 : fi ≤ j92 := (nI_leI (a := fi) (b := j92) (by omega) (by omega)).mp h108
                refine lv_aload_n hx hb dX4_gather_46 rfl (lv_at hl 4 rfl) ?_
                refine lv_dup hx hb dX4_gather_47 rfl ?_
                refine va_get (D := D) (ci := 1) (v := .int x41) (C := RX1) (T := TX1) (N := 6) hx hb hts iw1 hown hK hP 2 rfl rfl 3 (by decide) fw2 (fun _ h9 => h9) rfl dX4_gather_48 ?_
                refine lv_iconst (v := 1) hx hb dX4_gather_51 (by decide) ?_
                refine lv_iadd hx hb dX4_gather_52 ?_
                refine va_put (D := D) (ci := 1) (v := .int (x41 + 1)) (ty := .int) (C := RX1) (T := TX1) (N := 6) hx hb hts iw1 tyX1 tyX1_ok nmX1 hown hK hP hD hS 2 rfl rfl 3 (by decide) fw2 (fun _ h9 => h9) rfl (by decide +kernel) rfl rfl (Nat.le_of_ble_eq_true rfl) dX4_gather_53 (fun H locs hP hD hS => ?_)
                have hP : va_P D vwCl [(nw, .inr (4, [.ref kk, .ref nk, .ref nd, .ref ne, .ref nm, .ref nn, .int (nI fi), .int (nI gl), .int (nI un), .int (nI mi), .int (nI no)])), (nk, .inl (y 0, 6, .inl fk)), (d, .inr (1, [.ref dl, .ref da, .ref ds, .int (x41 + 1), .int dcl, .int dnu])), (dl, .inl (y 0, 6, .inl x95)), (da, .inl (y 0, 5, .inl dfa)), (ds, .inl (y 0, 5, .inl x96)), (kk, .inl (y 5, 6, .inr (.inr (.inr (.inr fq))))), (k0, .inr (5, [])), (k1, .inr (8, [])), (k2, .inr (9, [])), (k3, .inr (6, [])), (k4, .inr (2, [])), (k5, .inr (3, []))] H := hP
                have hD : va_D A [(nw, .inr (4, [.ref kk, .ref nk, .ref nd, .ref ne, .ref nm, .ref nn, .int (nI fi), .int (nI gl), .int (nI un), .int (nI mi), .int (nI no)])), (nk, .inl (y 0, 6, .inl fk)), (d, .inr (1, [.ref dl, .ref da, .ref ds, .int (x41 + 1), .int dcl, .int dnu])), (dl, .inl (y 0, 6, .inl x95)), (da, .inl (y 0, 5, .inl dfa)), (ds, .inl (y 0, 5, .inl x96)), (kk, .inl (y 5, 6, .inr (.inr (.inr (.inr fq))))), (k0, .inr (5, [])), (k1, .inr (8, [])), (k2, .inr (9, [])), (k3, .inr (6, [])), (k4, .inr (2, [])), (k5, .inr (3, []))] := hD
                refine lv_iinc (v := (nI (j91 + 1))) (lv' := [(4, .int (nI (j91 + 1))), (5, .int (nI j92)), (3, .int x94), (0, .ref nw), (1, .ref d), (2, .int (nI NN))]) hx hb dX4_gather_56 hl (k := 1) rfl (nI_1 j91) (by decide) rfl (fun ls hl => ?_)
                refine lv_goto (tgt := 5) hx hb dX4_gather_59 (by decide) ?_
                exact ihj91 (j91 + 1) (x41 + 1) x94 x95 x96 H locs ls (by omega) (by omega)  (hP.sub [0, 1, 2, 3, 4, 5, 6, 7, 8, 9, 10, 11, 12] rfl) (hD.sub [0, 1, 2, 3, 4, 5, 6, 7, 8, 9, 10, 11, 12] (by decide) rfl) hS (lv_sub hl [0, 2, 3, 4, 5] rfl)
              · skip
                have h109 : ¬ fi ≤ j92 := fun q9 => h109 ((nI_leI (a := fi) (b := j92) (by omega) (by omega)).mpr q9)
                refine lv_iload_n hx hb dX4_gather_23 rfl (lv_at hl 2 rfl) ?_
                refine lv_aload_n hx hb dX4_gather_24 rfl (lv_at hl 3 rfl) ?_
                refine lv_aload_n hx hb dX4_gather_25 rfl (lv_at hl 4 rfl) ?_
                refine lv_iload hx hb dX4_gather_26 (lv_at hl 0 rfl) ?_
                refine lv_aload_n hx hb dX4_gather_28 rfl (lv_at hl 3 rfl) ?_
                refine lv_aload_n hx hb dX4_gather_29 rfl (lv_at hl 4 rfl) ?_
                refine lv_iload hx hb dX4_gather_30 (lv_at hl 0 rfl) ?_
                have hs110 : kw_Split [(nw, .inr (4, [.ref kk, .ref nk, .ref nd, .ref ne, .ref nm, .ref nn, .int (nI fi), .int (nI gl), .int (nI un), .int (nI mi), .int (nI no)])), (nk, .inl (y 0, 6, .inl fk)), (d, .inr (1, [.ref dl, .ref da, .ref ds, .int x41, .int dcl, .int dnu])), (dl, .inl (y 0, 6, .inl x95)), (da, .inl (y 0, 5, .inl dfa)), (ds, .inl (y 0, 5, .inl x96)), (kk, .inl (y 5, 6, .inr (.inr (.inr (.inr fq))))), (k0, .inr (5, [])), (k1, .inr (8, [])), (k2, .inr (9, [])), (k3, .inr (6, [])), (k4, .inr (2, [])), (k5, .inr (3, []))] [(nw, .inr (4, [.ref kk, .ref nk, .ref nd, .ref ne, .ref nm, .ref nn, .int (nI fi), .int (nI gl), .int (nI un), .int (nI mi), .int (nI no)])), (nk, .inl (y 0, 6, .inl fk)), (d, .inr (1, [.ref dl, .ref da, .ref ds, .int x41, .int dcl, .int dnu])), (dl, .inl (y 0, 6, .inl x95)), (da, .inl (y 0, 5, .inl dfa)), (kk, .inl (y 5, 6, .inr (.inr (.inr (.inr fq))))), (k0, .inr (5, [])), (k1, .inr (8, [])), (k2, .inr (9, [])), (k3, .inr (6, [])), (k4, .inr (2, [])), (k5, .inr (3, []))] [(ds, .inl (y 0, 5, .inl x96))] [0, 1, 2, 3, 4, 6, 7, 8, 9, 10, 11, 12] [5] := ⟨rfl, rfl, rfl, rfl, rfl, by decide⟩
                refine kw_go_i hs110 hP hD hS hA (va_runV (As := [.ref d, .int (nI j92)]) (rest := [.int (nI j92), .ref d, .ref nw, .int x94]) ⟨hx, hb, hml, hown, hts⟩ (gc_share l D y nw kk nk nd ne nm nn fi gl un mi no d dl da ds x41 dcl dnu x95 dfa fk k0 k1 k2 k3 k4 k5 fq j92 hfi hgl hun hmi hno hk hda hq0 hq1 hq2 hq3 hq4 hq5 (by omega) _) (cwV 2 hts gX4_gather_X4_share rfl rfl rfl (by decide +kernel) ⟨Nat.le_of_ble_eq_true rfl, Nat.le_of_ble_eq_true rfl⟩) (kw_PreV (ci := 4) (q0 := 0) hs110 hP hD hK hN rfl rfl) rfl rfl hl.1 rfl (lv_room (Nat.le_of_ble_eq_true rfl)) dX4_gather_32 ⟨Nat.le_of_ble_eq_true rfl, Nat.le_of_ble_eq_true rfl⟩) (fun r111 u112 H locs hq hP hD hS => ?_)
                have hP : va_P D vwCl [(ds, .inl (y 0, 5, .inl x96)), (nw, .inr (4, [.ref kk, .ref nk, .ref nd, .ref ne, .ref nm, .ref nn, .int (nI fi), .int (nI gl), .int (nI un), .int (nI mi), .int (nI no)])), (nk, .inl (y 0, 6, .inl fk)), (d, .inr (1, [.ref dl, .ref da, .ref ds, .int x41, .int dcl, .int dnu])), (dl, .inl (y 0, 6, .inl x95)), (da, .inl (y 0, 5, .inl dfa)), (kk, .inl (y 5, 6, .inr (.inr (.inr (.inr fq))))), (k0, .inr (5, [])), (k1, .inr (8, [])), (k2, .inr (9, [])), (k3, .inr (6, [])), (k4, .inr (2, [])), (k5, .inr (3, []))] H := hP
                have hD : va_D A [(ds, .inl (y 0, 5, .inl x96)), (nw, .inr (4, [.ref kk, .ref nk, .ref nd, .ref ne, .ref nm, .ref nn, .int (nI fi), .int (nI gl), .int (nI un), .int (nI mi), .int (nI no)])), (nk, .inl (y 0, 6, .inl fk)), (d, .inr (1, [.ref dl, .ref da, .ref ds, .int x41, .int dcl, .int dnu])), (dl, .inl (y 0, 6, .inl x95)), (da, .inl (y 0, 5, .inl dfa)), (kk, .inl (y 5, 6, .inr (.inr (.inr (.inr fq))))), (k0, .inr (5, [])), (k1, .inr (8, [])), (k2, .inr (9, [])), (k3, .inr (6, [])), (k4, .inr (2, [])), (k5, .inr (3, []))] := hD
                have hs113 : kw_Split [(ds, .inl (y 0, 5, .inl x96)), (nw, .inr (4, [.ref kk, .ref nk, .ref nd, .ref ne, .ref nm, .ref nn, .int (nI fi), .int (nI gl), .int (nI un), .int (nI mi), .int (nI no)])), (nk, .inl (y 0, 6, .inl fk)), (d, .inr (1, [.ref dl, .ref da, .ref ds, .int x41, .int dcl, .int dnu])), (dl, .inl (y 0, 6, .inl x95)), (da, .inl (y 0, 5, .inl dfa)), (kk, .inl (y 5, 6, .inr (.inr (.inr (.inr fq))))), (k0, .inr (5, [])), (k1, .inr (8, [])), (k2, .inr (9, [])), (k3, .inr (6, [])), (k4, .inr (2, [])), (k5, .inr (3, []))] [(nw, .inr (4, [.ref kk, .ref nk, .ref nd, .ref ne, .ref nm, .ref nn, .int (nI fi), .int (nI gl), .int (nI un), .int (nI mi), .int (nI no)])), (d, .inr (1, [.ref dl, .ref da, .ref ds, .int x41, .int dcl, .int dnu])), (dl, .inl (y 0, 6, .inl x95)), (da, .inl (y 0, 5, .inl dfa)), (ds, .inl (y 0, 5, .inl x96))] [(nk, .inl (y 0, 6, .inl fk)), (kk, .inl (y 5, 6, .inr (.inr (.inr (.inr fq))))), (k0, .inr (5, [])), (k1, .inr (8, [])), (k2, .inr (9, [])), (k3, .inr (6, [])), (k4, .inr (2, [])), (k5, .inr (3, []))] [1, 3, 4, 5, 0] [2, 6, 7, 8, 9, 10, 11, 12] := ⟨rfl, rfl, rfl, rfl, rfl, by decide⟩
                refine kw_go_i hs113 hP hD hS hA (va_runV (As := [.ref d, .int (nI j92), .int r111]) (rest := [.int x94]) ⟨hx, hb, hml, hown, hts⟩ (gc_give l D y nw kk nk nd ne nm nn fi gl un mi no d dl da ds x41 dcl dnu x95 dfa x96 j92 r111 hfi hgl hun hmi hno hda (by omega) _) (cwV 3 hts gX4_gather_X4_give rfl rfl rfl (by decide +kernel) ⟨Nat.le_of_ble_eq_true rfl, Nat.le_of_ble_eq_true rfl⟩) (kw_PreV (ci := 4) (q0 := 1) hs113 hP hD hK hN rfl rfl) rfl rfl hl.1 rfl (lv_room (Nat.le_of_ble_eq_true rfl)) dX4_gather_35 ⟨Nat.le_of_ble_eq_true rfl, Nat.le_of_ble_eq_true rfl⟩) (fun r114 u115 H locs hq hP hD hS => ?_)
                obtain ⟨v116, v117⟩ := u115
                have hP : va_P D vwCl [(nk, .inl (y 0, 6, .inl fk)), (kk, .inl (y 5, 6, .inr (.inr (.inr (.inr fq))))), (k0, .inr (5, [])), (k1, .inr (8, [])), (k2, .inr (9, [])), (k3, .inr (6, [])), (k4, .inr (2, [])), (k5, .inr (3, [])), (nw, .inr (4, [.ref kk, .ref nk, .ref nd, .ref ne, .ref nm, .ref nn, .int (nI fi), .int (nI gl), .int (nI un), .int (nI mi), .int (nI no)])), (d, .inr (1, [.ref dl, .ref da, .ref ds, .int x41, .int dcl, .int dnu])), (dl, .inl (y 0, 6, .inl v116)), (da, .inl (y 0, 5, .inl dfa)), (ds, .inl (y 0, 5, .inl v117))] H := hP
                have hD : va_D A [(nk, .inl (y 0, 6, .inl fk)), (kk, .inl (y 5, 6, .inr (.inr (.inr (.inr fq))))), (k0, .inr (5, [])), (k1, .inr (8, [])), (k2, .inr (9, [])), (k3, .inr (6, [])), (k4, .inr (2, [])), (k5, .inr (3, [])), (nw, .inr (4, [.ref kk, .ref nk, .ref nd, .ref ne, .ref nm, .ref nn, .int (nI fi), .int (nI gl), .int (nI un), .int (nI mi), .int (nI no)])), (d, .inr (1, [.ref dl, .ref da, .ref ds, .int x41, .int dcl, .int dnu])), (dl, .inl (y 0, 6, .inl v116)), (da, .inl (y 0, 5, .inl dfa)), (ds, .inl (y 0, 5, .inl v117))] := hD
                refine lv_iadd hx hb dX4_gather_38 ?_
                refine lv_istore_n (lv' := [(3, .int (x94 + r114)), (5, .int (nI j92)), (4, .int (nI j91)), (0, .ref nw), (1, .ref d), (2, .int (nI NN))]) hx hb dX4_gather_39 rfl hl (by decide) rfl (fun ls hl => ?_)
                refine lv_iinc (v := (nI (j92 + 1))) (lv' := [(5, .int (nI (j92 + 1))), (3, .int (x94 + r114)), (4, .int (nI j91)), (0, .ref nw), (1, .ref d), (2, .int (nI NN))]) hx hb dX4_gather_40 hl (k := 1) rfl (nI_1 j92) (by decide) rfl (fun ls hl => ?_)
                refine lv_goto (tgt := 14) hx hb dX4_gather_43 (by decide) ?_
                exact ihj92 (j92 + 1) (x94 + r114) v116 v117 H locs ls (by omega) (by omega)  (hP.sub [8, 0, 9, 10, 11, 12, 1, 2, 3, 4, 5, 6, 7] rfl) (hD.sub [8, 0, 9, 10, 11, 12, 1, 2, 3, 4, 5, 6, 7] (by decide) rfl) hS (lv_sub hl [0, 2, 1, 3, 4, 5] rfl)
          exact lp107 (fi + 1) 0 x42 x43 x44 _ _ _ (by omega) (by omega)  hP hD hS (lv_sub hl [0, 1, 2, 3, 4, 5] rfl)
    exact lp81 (NN + 1) 0 dst 0 dfl dfs _ _ _ (by omega) (by omega)  hP hD hS (lv_sub hl [0, 1, 2, 3, 4] rfl)

set_option maxHeartbeats 4000000 in
set_option maxRecDepth 100000 in
theorem gc_dropOldest (l : Launch) (D : va_G) (y : Nat → ClassId) (nw : Nat) (kk : Nat) (nk : Nat) (nd : Nat) (ne : Nat) (nm : Nat) (nn : Nat) (fi : Nat) (gl : Nat) (un : Nat) (mi : Nat) (no : Nat) (e0 : Nat) (e0l : Nat) (e0a : Nat) (e0s : Nat) (e0st : Int32) (e0cl : Int32) (e0nu : Int32) (e1 : Nat) (e1l : Nat) (e1a : Nat) (e1s : Nat) (e1st : Int32) (e1cl : Int32) (e1nu : Int32) (e2 : Nat) (e2l : Nat) (e2a : Nat) (e2s : Nat) (e2st : Int32) (e2cl : Int32) (e2nu : Int32) (e3 : Nat) (e3l : Nat) (e3a : Nat) (e3s : Nat) (e3st : Int32) (e3cl : Int32) (e3nu : Int32) (e4 : Nat) (e4l : Nat) (e4a : Nat) (e4s : Nat) (e4st : Int32) (e4cl : Int32) (e4nu : Int32) (e5 : Nat) (e5l : Nat) (e5a : Nat) (e5s : Nat) (e5st : Int32) (e5cl : Int32) (e5nu : Int32) (e6 : Nat) (e6l : Nat) (e6a : Nat) (e6s : Nat) (e6st : Int32) (e6cl : Int32) (e6nu : Int32) (e7 : Nat) (e7l : Nat) (e7a : Nat) (e7s : Nat) (e7st : Int32) (e7cl : Int32) (e7nu : Int32) (fe : Nat → Option Nat) (hfi : fi ≤ 6) (hgl : gl ≤ 5) (hun : un ≤ 8) (hmi : mi ≤ 4) (hno : no ≤ 6) (he0 : fe 0 = some e0) (he1 : fe 1 = some e1) (he2 : fe 2 = some e2) (he3 : fe 3 = some e3) (he4 : fe 4 = some e4) (he5 : fe 5 = some e5) (he6 : fe 6 = some e6) (he7 : fe 7 = some e7) (hu1 : 1 ≤ un) : kw_Mv l yX4_dropOldest wsX4_dropOldest ({ frames := 1, cells := 0, slots := 0, locals := 60 }) D y [.ref nw] [(nw, .inr (4, [.ref kk, .ref nk, .ref nd, .ref ne, .ref nm, .ref nn, .int (nI fi), .int (nI gl), .int (nI un), .int (nI mi), .int (nI no)])), (ne, .inl (y 3, 8, .inr (.inr (.inr (.inr fe))))), (e0, .inr (1, [.ref e0l, .ref e0a, .ref e0s, .int e0st, .int e0cl, .int e0nu])), (e1, .inr (1, [.ref e1l, .ref e1a, .ref e1s, .int e1st, .int e1cl, .int e1nu])), (e2, .inr (1, [.ref e2l, .ref e2a, .ref e2s, .int e2st, .int e2cl, .int e2nu])), (e3, .inr (1, [.ref e3l, .ref e3a, .ref e3s, .int e3st, .int e3cl, .int e3nu])), (e4, .inr (1, [.ref e4l, .ref e4a, .ref e4s, .int e4st, .int e4cl, .int e4nu])), (e5, .inr (1, [.ref e5l, .ref e5a, .ref e5s, .int e5st, .int e5cl, .int e5nu])), (e6, .inr (1, [.ref e6l, .ref e6a, .ref e6s, .int e6st, .int e6cl, .int e6nu])), (e7, .inr (1, [.ref e7l, .ref e7a, .ref e7s, .int e7st, .int e7cl, .int e7nu]))] (fun (u : (Nat → Nat) × (Nat → Int32) × (Nat → Nat → Int32) × (Nat → Nat → Option Nat) × (Nat → Int64)) => (u.2.2.2.1 0) 0 = some e1 ∧ (u.2.2.2.1 0) 1 = some e2 ∧ (u.2.2.2.1 0) 2 = some e3 ∧ (u.2.2.2.1 0) 3 = some e4 ∧ (u.2.2.2.1 0) 4 = some e5 ∧ (u.2.2.2.1 0) 5 = some e6 ∧ (u.2.2.2.1 0) 6 = some e7 ∧ (u.2.2.2.1 0) 7 = some e0) (fun u => [(nw, .inr (4, [.ref kk, .ref nk, .ref nd, .ref ne, .ref nm, .ref nn, .int (nI fi), .int (nI gl), .int (nI (un - 1)), .int (nI mi), .int (nI no)])), (ne, .inl (y 3, 8, .inr (.inr (.inr (.inr (u.2.2.2.1 0)))))), (e1, .inr (1, [.ref e1l, .ref e1a, .ref e1s, .int e1st, .int e1cl, .int e1nu])), (e2, .inr (1, [.ref e2l, .ref e2a, .ref e2s, .int e2st, .int e2cl, .int e2nu])), (e3, .inr (1, [.ref e3l, .ref e3a, .ref e3s, .int e3st, .int e3cl, .int e3nu])), (e4, .inr (1, [.ref e4l, .ref e4a, .ref e4s, .int e4st, .int e4cl, .int e4nu])), (e5, .inr (1, [.ref e5l, .ref e5a, .ref e5s, .int e5st, .int e5cl, .int e5nu])), (e6, .inr (1, [.ref e6l, .ref e6a, .ref e6s, .int e6st, .int e6cl, .int e6nu])), (e7, .inr (1, [.ref e7l, .ref e7a, .ref e7s, .int e7st, .int e7cl, .int e7nu])), (e0, .inr (1, [.ref e0l, .ref e0a, .ref e0s, .int e0st, .int e0cl, .int e0nu]))]) 0 0 := by
  refine kw_Mv.of (cc := cX4_dropOldest) (maxL := 3) (ret := none) (by decide) rfl ?_
  intro pZ eZ s mZ beZ meZ cZ A hE
  obtain ⟨hx, hb, hr, hml, hts, hown, hlocks, hin, hA, hP, hD, hK, hN⟩ := hE
  have hS : va_S A s.heap s.heap [] := va_S.rf
  have hl := lv_entry ([.ref nw]) (n := 3) (Nat.le_of_ble_eq_true rfl)
  rw [lg_entry_eq]
  generalize (lg_sl ([.ref nw]) ++ List.replicate (3 - (lg_sl ([.ref nw])).length) Slot.unset).toArray = ls at hl ⊢
  have hl : lv_has ls 3 [(0, .ref nw)] := hl
  have fw1 := hts (.fieldLink RX4 22 "GleanDusk$Parish" "earlier" "[LGleanDusk$Dusk;") (List.mem_of_getElem? (i := 1) rfl)
  have fw2 := hts (.fieldLink RX4 45 "GleanDusk$Parish" "undoable" "I") (List.mem_of_getElem? (i := 2) rfl)
  have iw4 : ∀ w ∈ wsX40, w ∈ wsX4_dropOldest := fun _ h => List.mem_cons_of_mem _ (List.mem_append_right _ h)
  refine lv_aload_n hx hb dX4_dropOldest_0 rfl (lv_at hl 0 rfl) ?_
  refine va_get (D := D) (ci := 4) (v := .ref ne) (C := RX4) (T := TX4) (N := 11) hx hb hts iw4 hown hK hP 0 rfl rfl 3 (by decide) fw1 (fun _ h9 => h9) rfl dX4_dropOldest_1 ?_
  refine lv_iconst (v := 0) hx hb dX4_dropOldest_4 (by decide) ?_
  refine va_aldq hx hb hK hP 1 3 rfl rfl (by unfold vp_in; decide) dX4_dropOldest_5 ?_
  rw [show ((0 : Int32)).toNatClampNeg = 0 from rfl, show va_rf (fe 0) = .ref e0 from congrArg va_rf he0]
  refine lv_astore_n (lv' := [(1, .ref e0), (0, .ref nw)]) hx hb dX4_dropOldest_6 rfl hl (by decide) rfl (fun ls hl => ?_)
  refine lv_iconst (v := 1) hx hb dX4_dropOldest_7 (by decide) ?_
  refine lv_istore_n (lv' := [(2, .int 1), (1, .ref e0), (0, .ref nw)]) hx hb dX4_dropOldest_8 rfl hl (by decide) rfl (fun ls hl => ?_)
  refine lv_iload_n hx hb dX4_dropOldest_9 rfl (lv_at hl 0 rfl) ?_
  refine lv_bipush (v := 8) hx hb dX4_dropOldest_10 (by decide) ?_
  refine lv_icmp_ge (tgt := 35) hx hb dX4_dropOldest_12 (by decide) (fun h9 => absurd h9 (by decide)) (fun _ => ?_)
  refine lv_aload_n hx hb dX4_dropOldest_15 rfl (lv_at hl 2 rfl) ?_
  refine va_get (D := D) (ci := 4) (v := .ref ne) (C := RX4) (T := TX4) (N := 11) hx hb hts iw4 hown hK hP 0 rfl rfl 3 (by decide) fw1 (fun _ h9 => h9) rfl dX4_dropOldest_16 ?_
  refine lv_iload_n hx hb dX4_dropOldest_19 rfl (lv_at hl 0 rfl) ?_
  refine lv_iconst (v := 1) hx hb dX4_dropOldest_20 (by decide) ?_
  refine lv_isub hx hb dX4_dropOldest_21 ?_
  refine lv_topi (fun z1 hz1 => ?_)
  obtain rfl : z1 = 0 := hz1.trans (by decide)
  refine lv_aload_n hx hb dX4_dropOldest_22 rfl (lv_at hl 2 rfl) ?_
  refine va_get (D := D) (ci := 4) (v := .ref ne) (C := RX4) (T := TX4) (N := 11) hx hb hts iw4 hown hK hP 0 rfl rfl 3 (by decide) fw1 (fun _ h9 => h9) rfl dX4_dropOldest_23 ?_
  refine lv_iload_n hx hb dX4_dropOldest_26 rfl (lv_at hl 0 rfl) ?_
  refine va_aldq hx hb hK hP 1 3 rfl rfl (by unfold vp_in; decide) dX4_dropOldest_27 ?_
  rw [show ((1 : Int32)).toNatClampNeg = 1 from rfl, show va_rf (fe 1) = .ref e1 from congrArg va_rf he1]
  refine va_astq hx hb hK hP hD hS 1 3 3 1 rfl rfl rfl rfl (by unfold vp_in; decide) dX4_dropOldest_28 (fun H locs hP hD hS => ?_)
  rw [show ((0 : Int32)).toNatClampNeg = 0 from rfl] at hP hD
  have hk3 : (va_up fe 0 (some e1)) 1 = some e1 := (va_up_ne _ _ (by decide)).trans he1
  have hk4 : (va_up fe 0 (some e1)) 2 = some e2 := (va_up_ne _ _ (by decide)).trans he2
  have hk5 : (va_up fe 0 (some e1)) 3 = some e3 := (va_up_ne _ _ (by decide)).trans he3
  have hk6 : (va_up fe 0 (some e1)) 4 = some e4 := (va_up_ne _ _ (by decide)).trans he4
  have hk7 : (va_up fe 0 (some e1)) 5 = some e5 := (va_up_ne _ _ (by decide)).trans he5
  have hk8 : (va_up fe 0 (some e1)) 6 = some e6 := (va_up_ne _ _ (by decide)).trans he6
  have hk9 : (va_up fe 0 (some e1)) 7 = some e7 := (va_up_ne _ _ (by decide)).trans he7
  have hk10 : (va_up fe 0 (some e1)) 0 = some e1 := va_up_self _ _ _
  have hP : va_P D vwCl [(nw, .inr (4, [.ref kk, .ref nk, .ref nd, .ref ne, .ref nm, .ref nn, .int (nI fi), .int (nI gl), .int (nI un), .int (nI mi), .int (nI no)])), (ne, .inl (y 3, 8, .inr (.inr (.inr (.inr (va_up fe 0 (some e1))))))), (e0, .inr (1, [.ref e0l, .ref e0a, .ref e0s, .int e0st, .int e0cl, .int e0nu])), (e1, .inr (1, [.ref e1l, .ref e1a, .ref e1s, .int e1st, .int e1cl, .int e1nu])), (e2, .inr (1, [.ref e2l, .ref e2a, .ref e2s, .int e2st, .int e2cl, .int e2nu])), (e3, .inr (1, [.ref e3l, .ref e3a, .ref e3s, .int e3st, .int e3cl, .int e3nu])), (e4, .inr (1, [.ref e4l, .ref e4a, .ref e4s, .int e4st, .int e4cl, .int e4nu])), (e5, .inr (1, [.ref e5l, .ref e5a, .ref e5s, .int e5st, .int e5cl, .int e5nu])), (e6, .inr (1, [.ref e6l, .ref e6a, .ref e6s, .int e6st, .int e6cl, .int e6nu])), (e7, .inr (1, [.ref e7l, .ref e7a, .ref e7s, .int e7st, .int e7cl, .int e7nu]))] H := hP
  have hD : va_D A [(nw, .inr (4, [.ref kk, .ref nk, .ref nd, .ref ne, .ref nm, .ref nn, .int (nI fi), .int (nI gl), .int (nI un), .int (nI mi), .int (nI no)])), (ne, .inl (y 3, 8, .inr (.inr (.inr (.inr (va_up fe 0 (some e1))))))), (e0, .inr (1, [.ref e0l, .ref e0a, .ref e0s, .int e0st, .int e0cl, .int e0nu])), (e1, .inr (1, [.ref e1l, .ref e1a, .ref e1s, .int e1st, .int e1cl, .int e1nu])), (e2, .inr (1, [.ref e2l, .ref e2a, .ref e2s, .int e2st, .int e2cl, .int e2nu])), (e3, .inr (1, [.ref e3l, .ref e3a, .ref e3s, .int e3st, .int e3cl, .int e3nu])), (e4, .inr (1, [.ref e4l, .ref e4a, .ref e4s, .int e4st, .int e4cl, .int e4nu])), (e5, .inr (1, [.ref e5l, .ref e5a, .ref e5s, .int e5st, .int e5cl, .int e5nu])), (e6, .inr (1, [.ref e6l, .ref e6a, .ref e6s, .int e6st, .int e6cl, .int e6nu])), (e7, .inr (1, [.ref e7l, .ref e7a, .ref e7s, .int e7st, .int e7cl, .int e7nu]))] := hD
  refine lv_iinc (v := 2) (lv' := [(2, .int 2), (1, .ref e0), (0, .ref nw)]) hx hb dX4_dropOldest_29 hl (k := 0) rfl (by decide) (by decide) rfl (fun ls hl => ?_)
  refine lv_goto (tgt := 9) hx hb dX4_dropOldest_32 (by decide) ?_
  refine lv_iload_n hx hb dX4_dropOldest_9 rfl (lv_at hl 0 rfl) ?_
  refine lv_bipush (v := 8) hx hb dX4_dropOldest_10 (by decide) ?_
  refine lv_icmp_ge (tgt := 35) hx hb dX4_dropOldest_12 (by decide) (fun h9 => absurd h9 (by decide)) (fun _ => ?_)
  refine lv_aload_n hx hb dX4_dropOldest_15 rfl (lv_at hl 2 rfl) ?_
  refine va_get (D := D) (ci := 4) (v := .ref ne) (C := RX4) (T := TX4) (N := 11) hx hb hts iw4 hown hK hP 0 rfl rfl 3 (by decide) fw1 (fun _ h9 => h9) rfl dX4_dropOldest_16 ?_
  refine lv_iload_n hx hb dX4_dropOldest_19 rfl (lv_at hl 0 rfl) ?_
  refine lv_iconst (v := 1) hx hb dX4_dropOldest_20 (by decide) ?_
  refine lv_isub hx hb dX4_dropOldest_21 ?_
  refine lv_topi (fun z11 hz11 => ?_)
  obtain rfl : z11 = 1 := hz11.trans (by decide)
  refine lv_aload_n hx hb dX4_dropOldest_22 rfl (lv_at hl 2 rfl) ?_
  refine va_get (D := D) (ci := 4) (v := .ref ne) (C := RX4) (T := TX4) (N := 11) hx hb hts iw4 hown hK hP 0 rfl rfl 3 (by decide) fw1 (fun _ h9 => h9) rfl dX4_dropOldest_23 ?_
  refine lv_iload_n hx hb dX4_dropOldest_26 rfl (lv_at hl 0 rfl) ?_
  refine va_aldq hx hb hK hP 1 3 rfl rfl (by unfold vp_in; decide) dX4_dropOldest_27 ?_
  rw [show ((2 : Int32)).toNatClampNeg = 2 from rfl, show va_rf ((va_up fe 0 (some e1)) 2) = .ref e2 from congrArg va_rf hk4]
  refine va_astq hx hb hK hP hD hS 1 3 4 1 rfl rfl rfl rfl (by unfold vp_in; decide) dX4_dropOldest_28 (fun H locs hP hD hS => ?_)
  rw [show ((1 : Int32)).toNatClampNeg = 1 from rfl] at hP hD
  have hk13 : (va_up (va_up fe 0 (some e1)) 1 (some e2)) 2 = some e2 := (va_up_ne _ _ (by decide)).trans hk4
  have hk14 : (va_up (va_up fe 0 (some e1)) 1 (some e2)) 3 = some e3 := (va_up_ne _ _ (by decide)).trans hk5
  have hk15 : (va_up (va_up fe 0 (some e1)) 1 (some e2)) 4 = some e4 := (va_up_ne _ _ (by decide)).trans hk6
  have hk16 : (va_up (va_up fe 0 (some e1)) 1 (some e2)) 5 = some e5 := (va_up_ne _ _ (by decide)).trans hk7
  have hk17 : (va_up (va_up fe 0 (some e1)) 1 (some e2)) 6 = some e6 := (va_up_ne _ _ (by decide)).trans hk8
  have hk18 : (va_up (va_up fe 0 (some e1)) 1 (some e2)) 7 = some e7 := (va_up_ne _ _ (by decide)).trans hk9
  have hk19 : (va_up (va_up fe 0 (some e1)) 1 (some e2)) 0 = some e1 := (va_up_ne _ _ (by decide)).trans hk10
  have hk20 : (va_up (va_up fe 0 (some e1)) 1 (some e2)) 1 = some e2 := va_up_self _ _ _
  have hP : va_P D vwCl [(nw, .inr (4, [.ref kk, .ref nk, .ref nd, .ref ne, .ref nm, .ref nn, .int (nI fi), .int (nI gl), .int (nI un), .int (nI mi), .int (nI no)])), (ne, .inl (y 3, 8, .inr (.inr (.inr (.inr (va_up (va_up fe 0 (some e1)) 1 (some e2))))))), (e0, .inr (1, [.ref e0l, .ref e0a, .ref e0s, .int e0st, .int e0cl, .int e0nu])), (e1, .inr (1, [.ref e1l, .ref e1a, .ref e1s, .int e1st, .int e1cl, .int e1nu])), (e2, .inr (1, [.ref e2l, .ref e2a, .ref e2s, .int e2st, .int e2cl, .int e2nu])), (e3, .inr (1, [.ref e3l, .ref e3a, .ref e3s, .int e3st, .int e3cl, .int e3nu])), (e4, .inr (1, [.ref e4l, .ref e4a, .ref e4s, .int e4st, .int e4cl, .int e4nu])), (e5, .inr (1, [.ref e5l, .ref e5a, .ref e5s, .int e5st, .int e5cl, .int e5nu])), (e6, .inr (1, [.ref e6l, .ref e6a, .ref e6s, .int e6st, .int e6cl, .int e6nu])), (e7, .inr (1, [.ref e7l, .ref e7a, .ref e7s, .int e7st, .int e7cl, .int e7nu]))] H := hP
  have hD : va_D A [(nw, .inr (4, [.ref kk, .ref nk, .ref nd, .ref ne, .ref nm, .ref nn, .int (nI fi), .int (nI gl), .int (nI un), .int (nI mi), .int (nI no)])), (ne, .inl (y 3, 8, .inr (.inr (.inr (.inr (va_up (va_up fe 0 (some e1)) 1 (some e2))))))), (e0, .inr (1, [.ref e0l, .ref e0a, .ref e0s, .int e0st, .int e0cl, .int e0nu])), (e1, .inr (1, [.ref e1l, .ref e1a, .ref e1s, .int e1st, .int e1cl, .int e1nu])), (e2, .inr (1, [.ref e2l, .ref e2a, .ref e2s, .int e2st, .int e2cl, .int e2nu])), (e3, .inr (1, [.ref e3l, .ref e3a, .ref e3s, .int e3st, .int e3cl, .int e3nu])), (e4, .inr (1, [.ref e4l, .ref e4a, .ref e4s, .int e4st, .int e4cl, .int e4nu])), (e5, .inr (1, [.ref e5l, .ref e5a, .ref e5s, .int e5st, .int e5cl, .int e5nu])), (e6, .inr (1, [.ref e6l, .ref e6a, .ref e6s, .int e6st, .int e6cl, .int e6nu])), (e7, .inr (1, [.ref e7l, .ref e7a, .ref e7s, .int e7st, .int e7cl, .int e7nu]))] := hD
  refine lv_iinc (v := 3) (lv' := [(2, .int 3), (1, .ref e0), (0, .ref nw)]) hx hb dX4_dropOldest_29 hl (k := 0) rfl (by decide) (by decide) rfl (fun ls hl => ?_)
  refine lv_goto (tgt := 9) hx hb dX4_dropOldest_32 (by decide) ?_
  refine lv_iload_n hx hb dX4_dropOldest_9 rfl (lv_at hl 0 rfl) ?_
  refine lv_bipush (v := 8) hx hb dX4_dropOldest_10 (by decide) ?_
  refine lv_icmp_ge (tgt := 35) hx hb dX4_dropOldest_12 (by decide) (fun h9 => absurd h9 (by decide)) (fun _ => ?_)
  refine lv_aload_n hx hb dX4_dropOldest_15 rfl (lv_at hl 2 rfl) ?_
  refine va_get (D := D) (ci := 4) (v := .ref ne) (C := RX4) (T := TX4) (N := 11) hx hb hts iw4 hown hK hP 0 rfl rfl 3 (by decide) fw1 (fun _ h9 => h9) rfl dX4_dropOldest_16 ?_
  refine lv_iload_n hx hb dX4_dropOldest_19 rfl (lv_at hl 0 rfl) ?_
  refine lv_iconst (v := 1) hx hb dX4_dropOldest_20 (by decide) ?_
  refine lv_isub hx hb dX4_dropOldest_21 ?_
  refine lv_topi (fun z21 hz21 => ?_)
  obtain rfl : z21 = 2 := hz21.trans (by decide)
  refine lv_aload_n hx hb dX4_dropOldest_22 rfl (lv_at hl 2 rfl) ?_
  refine va_get (D := D) (ci := 4) (v := .ref ne) (C := RX4) (T := TX4) (N := 11) hx hb hts iw4 hown hK hP 0 rfl rfl 3 (by decide) fw1 (fun _ h9 => h9) rfl dX4_dropOldest_23 ?_
  refine lv_iload_n hx hb dX4_dropOldest_26 rfl (lv_at hl 0 rfl) ?_
  refine va_aldq hx hb hK hP 1 3 rfl rfl (by unfold vp_in; decide) dX4_dropOldest_27 ?_
  rw [show ((3 : Int32)).toNatClampNeg = 3 from rfl, show va_rf ((va_up (va_up fe 0 (some e1)) 1 (some e2)) 3) = .ref e3 from congrArg va_rf hk14]
  refine va_astq hx hb hK hP hD hS 1 3 5 1 rfl rfl rfl rfl (by unfold vp_in; decide) dX4_dropOldest_28 (fun H locs hP hD hS => ?_)
  rw [show ((2 : Int32)).toNatClampNeg = 2 from rfl] at hP hD
  have hk23 : (va_up (va_up (va_up fe 0 (some e1)) 1 (some e2)) 2 (some e3)) 3 = some e3 := (va_up_ne _ _ (by decide)).trans hk14
  have hk24 : (va_up (va_up (va_up fe 0 (some e1)) 1 (some e2)) 2 (some e3)) 4 = some e4 := (va_up_ne _ _ (by decide)).trans hk15
  have hk25 : (va_up (va_up (va_up fe 0 (some e1)) 1 (some e2)) 2 (some e3)) 5 = some e5 := (va_up_ne _ _ (by decide)).trans hk16
  have hk26 : (va_up (va_up (va_up fe 0 (some e1)) 1 (some e2)) 2 (some e3)) 6 = some e6 := (va_up_ne _ _ (by decide)).trans hk17
  have hk27 : (va_up (va_up (va_up fe 0 (some e1)) 1 (some e2)) 2 (some e3)) 7 = some e7 := (va_up_ne _ _ (by decide)).trans hk18
  have hk28 : (va_up (va_up (va_up fe 0 (some e1)) 1 (some e2)) 2 (some e3)) 0 = some e1 := (va_up_ne _ _ (by decide)).trans hk19
  have hk29 : (va_up (va_up (va_up fe 0 (some e1)) 1 (some e2)) 2 (some e3)) 1 = some e2 := (va_up_ne _ _ (by decide)).trans hk20
  have hk30 : (va_up (va_up (va_up fe 0 (some e1)) 1 (some e2)) 2 (some e3)) 2 = some e3 := va_up_self _ _ _
  have hP : va_P D vwCl [(nw, .inr (4, [.ref kk, .ref nk, .ref nd, .ref ne, .ref nm, .ref nn, .int (nI fi), .int (nI gl), .int (nI un), .int (nI mi), .int (nI no)])), (ne, .inl (y 3, 8, .inr (.inr (.inr (.inr (va_up (va_up (va_up fe 0 (some e1)) 1 (some e2)) 2 (some e3))))))), (e0, .inr (1, [.ref e0l, .ref e0a, .ref e0s, .int e0st, .int e0cl, .int e0nu])), (e1, .inr (1, [.ref e1l, .ref e1a, .ref e1s, .int e1st, .int e1cl, .int e1nu])), (e2, .inr (1, [.ref e2l, .ref e2a, .ref e2s, .int e2st, .int e2cl, .int e2nu])), (e3, .inr (1, [.ref e3l, .ref e3a, .ref e3s, .int e3st, .int e3cl, .int e3nu])), (e4, .inr (1, [.ref e4l, .ref e4a, .ref e4s, .int e4st, .int e4cl, .int e4nu])), (e5, .inr (1, [.ref e5l, .ref e5a, .ref e5s, .int e5st, .int e5cl, .int e5nu])), (e6, .inr (1, [.ref e6l, .ref e6a, .ref e6s, .int e6st, .int e6cl, .int e6nu])), (e7, .inr (1, [.ref e7l, .ref e7a, .ref e7s, .int e7st, .int e7cl, .int e7nu]))] H := hP
  have hD : va_D A [(nw, .inr (4, [.ref kk, .ref nk, .ref nd, .ref ne, .ref nm, .ref nn, .int (nI fi), .int (nI gl), .int (nI un), .int (nI mi), .int (nI no)])), (ne, .inl (y 3, 8, .inr (.inr (.inr (.inr (va_up (va_up (va_up fe 0 (some e1)) 1 (some e2)) 2 (some e3))))))), (e0, .inr (1, [.ref e0l, .ref e0a, .ref e0s, .int e0st, .int e0cl, .int e0nu])), (e1, .inr (1, [.ref e1l, .ref e1a, .ref e1s, .int e1st, .int e1cl, .int e1nu])), (e2, .inr (1, [.ref e2l, .ref e2a, .ref e2s, .int e2st, .int e2cl, .int e2nu])), (e3, .inr (1, [.ref e3l, .ref e3a, .ref e3s, .int e3st, .int e3cl, .int e3nu])), (e4, .inr (1, [.ref e4l, .ref e4a, .ref e4s, .int e4st, .int e4cl, .int e4nu])), (e5, .inr (1, [.ref e5l, .ref e5a, .ref e5s, .int e5st, .int e5cl, .int e5nu])), (e6, .inr (1, [.ref e6l, .ref e6a, .ref e6s, .int e6st, .int e6cl, .int e6nu])), (e7, .inr (1, [.ref e7l, .ref e7a, .ref e7s, .int e7st, .int e7cl, .int e7nu]))] := hD
  refine lv_iinc (v := 4) (lv' := [(2, .int 4), (1, .ref e0), (0, .ref nw)]) hx hb dX4_dropOldest_29 hl (k := 0) rfl (by decide) (by decide) rfl (fun ls hl => ?_)
  refine lv_goto (tgt := 9) hx hb dX4_dropOldest_32 (by decide) ?_
  refine lv_iload_n hx hb dX4_dropOldest_9 rfl (lv_at hl 0 rfl) ?_
  refine lv_bipush (v := 8) hx hb dX4_dropOldest_10 (by decide) ?_
  refine lv_icmp_ge (tgt := 35) hx hb dX4_dropOldest_12 (by decide) (fun h9 => absurd h9 (by decide)) (fun _ => ?_)
  refine lv_aload_n hx hb dX4_dropOldest_15 rfl (lv_at hl 2 rfl) ?_
  refine va_get (D := D) (ci := 4) (v := .ref ne) (C := RX4) (T := TX4) (N := 11) hx hb hts iw4 hown hK hP 0 rfl rfl 3 (by decide) fw1 (fun _ h9 => h9) rfl dX4_dropOldest_16 ?_
  refine lv_iload_n hx hb dX4_dropOldest_19 rfl (lv_at hl 0 rfl) ?_
  refine lv_iconst (v := 1) hx hb dX4_dropOldest_20 (by decide) ?_
  refine lv_isub hx hb dX4_dropOldest_21 ?_
  refine lv_topi (fun z31 hz31 => ?_)
  obtain rfl : z31 = 3 := hz31.trans (by decide)
  refine lv_aload_n hx hb dX4_dropOldest_22 rfl (lv_at hl 2 rfl) ?_
  refine va_get (D := D) (ci := 4) (v := .ref ne) (C := RX4) (T := TX4) (N := 11) hx hb hts iw4 hown hK hP 0 rfl rfl 3 (by decide) fw1 (fun _ h9 => h9) rfl dX4_dropOldest_23 ?_
  refine lv_iload_n hx hb dX4_dropOldest_26 rfl (lv_at hl 0 rfl) ?_
  refine va_aldq hx hb hK hP 1 3 rfl rfl (by unfold vp_in; decide) dX4_dropOldest_27 ?_
  rw [show ((4 : Int32)).toNatClampNeg = 4 from rfl, show va_rf ((va_up (va_up (va_up fe 0 (some e1)) 1 (some e2)) 2 (some e3)) 4) = .ref e4 from congrArg va_rf hk24]
  refine va_astq hx hb hK hP hD hS 1 3 6 1 rfl rfl rfl rfl (by unfold vp_in; decide) dX4_dropOldest_28 (fun H locs hP hD hS => ?_)
  rw [show ((3 : Int32)).toNatClampNeg = 3 from rfl] at hP hD
  have hk33 : (va_up (va_up (va_up (va_up fe 0 (some e1)) 1 (some e2)) 2 (some e3)) 3 (some e4)) 4 = some e4 := (va_up_ne _ _ (by decide)).trans hk24
  have hk34 : (va_up (va_up (va_up (va_up fe 0 (some e1)) 1 (some e2)) 2 (some e3)) 3 (some e4)) 5 = some e5 := (va_up_ne _ _ (by decide)).trans hk25
  have hk35 : (va_up (va_up (va_up (va_up fe 0 (some e1)) 1 (some e2)) 2 (some e3)) 3 (some e4)) 6 = some e6 := (va_up_ne _ _ (by decide)).trans hk26
  have hk36 : (va_up (va_up (va_up (va_up fe 0 (some e1)) 1 (some e2)) 2 (some e3)) 3 (some e4)) 7 = some e7 := (va_up_ne _ _ (by decide)).trans hk27
  have hk37 : (va_up (va_up (va_up (va_up fe 0 (some e1)) 1 (some e2)) 2 (some e3)) 3 (some e4)) 0 = some e1 := (va_up_ne _ _ (by decide)).trans hk28
  have hk38 : (va_up (va_up (va_up (va_up fe 0 (some e1)) 1 (some e2)) 2 (some e3)) 3 (some e4)) 1 = some e2 := (va_up_ne _ _ (by decide)).trans hk29
  have hk39 : (va_up (va_up (va_up (va_up fe 0 (some e1)) 1 (some e2)) 2 (some e3)) 3 (some e4)) 2 = some e3 := (va_up_ne _ _ (by decide)).trans hk30
  have hk40 : (va_up (va_up (va_up (va_up fe 0 (some e1)) 1 (some e2)) 2 (some e3)) 3 (some e4)) 3 = some e4 := va_up_self _ _ _
  have hP : va_P D vwCl [(nw, .inr (4, [.ref kk, .ref nk, .ref nd, .ref ne, .ref nm, .ref nn, .int (nI fi), .int (nI gl), .int (nI un), .int (nI mi), .int (nI no)])), (ne, .inl (y 3, 8, .inr (.inr (.inr (.inr (va_up (va_up (va_up (va_up fe 0 (some e1)) 1 (some e2)) 2 (some e3)) 3 (some e4))))))), (e0, .inr (1, [.ref e0l, .ref e0a, .ref e0s, .int e0st, .int e0cl, .int e0nu])), (e1, .inr (1, [.ref e1l, .ref e1a, .ref e1s, .int e1st, .int e1cl, .int e1nu])), (e2, .inr (1, [.ref e2l, .ref e2a, .ref e2s, .int e2st, .int e2cl, .int e2nu])), (e3, .inr (1, [.ref e3l, .ref e3a, .ref e3s, .int e3st, .int e3cl, .int e3nu])), (e4, .inr (1, [.ref e4l, .ref e4a, .ref e4s, .int e4st, .int e4cl, .int e4nu])), (e5, .inr (1, [.ref e5l, .ref e5a, .ref e5s, .int e5st, .int e5cl, .int e5nu])), (e6, .inr (1, [.ref e6l, .ref e6a, .ref e6s, .int e6st, .int e6cl, .int e6nu])), (e7, .inr (1, [.ref e7l, .ref e7a, .ref e7s, .int e7st, .int e7cl, .int e7nu]))] H := hP
  have hD : va_D A [(nw, .inr (4, [.ref kk, .ref nk, .ref nd, .ref ne, .ref nm, .ref nn, .int (nI fi), .int (nI gl), .int (nI un), .int (nI mi), .int (nI no)])), (ne, .inl (y 3, 8, .inr (.inr (.inr (.inr (va_up (va_up (va_up (va_up fe 0 (some e1)) 1 (some e2)) 2 (some e3)) 3 (some e4))))))), (e0, .inr (1, [.ref e0l, .ref e0a, .ref e0s, .int e0st, .int e0cl, .int e0nu])), (e1, .inr (1, [.ref e1l, .ref e1a, .ref e1s, .int e1st, .int e1cl, .int e1nu])), (e2, .inr (1, [.ref e2l, .ref e2a, .ref e2s, .int e2st, .int e2cl, .int e2nu])), (e3, .inr (1, [.ref e3l, .ref e3a, .ref e3s, .int e3st, .int e3cl, .int e3nu])), (e4, .inr (1, [.ref e4l, .ref e4a, .ref e4s, .int e4st, .int e4cl, .int e4nu])), (e5, .inr (1, [.ref e5l, .ref e5a, .ref e5s, .int e5st, .int e5cl, .int e5nu])), (e6, .inr (1, [.ref e6l, .ref e6a, .ref e6s, .int e6st, .int e6cl, .int e6nu])), (e7, .inr (1, [.ref e7l, .ref e7a, .ref e7s, .int e7st, .int e7cl, .int e7nu]))] := hD
  refine lv_iinc (v := 5) (lv' := [(2, .int 5), (1, .ref e0), (0, .ref nw)]) hx hb dX4_dropOldest_29 hl (k := 0) rfl (by decide) (by decide) rfl (fun ls hl => ?_)
  refine lv_goto (tgt := 9) hx hb dX4_dropOldest_32 (by decide) ?_
  refine lv_iload_n hx hb dX4_dropOldest_9 rfl (lv_at hl 0 rfl) ?_
  refine lv_bipush (v := 8) hx hb dX4_dropOldest_10 (by decide) ?_
  refine lv_icmp_ge (tgt := 35) hx hb dX4_dropOldest_12 (by decide) (fun h9 => absurd h9 (by decide)) (fun _ => ?_)
  refine lv_aload_n hx hb dX4_dropOldest_15 rfl (lv_at hl 2 rfl) ?_
  refine va_get (D := D) (ci := 4) (v := .ref ne) (C := RX4) (T := TX4) (N := 11) hx hb hts iw4 hown hK hP 0 rfl rfl 3 (by decide) fw1 (fun _ h9 => h9) rfl dX4_dropOldest_16 ?_
  refine lv_iload_n hx hb dX4_dropOldest_19 rfl (lv_at hl 0 rfl) ?_
  refine lv_iconst (v := 1) hx hb dX4_dropOldest_20 (by decide) ?_
  refine lv_isub hx hb dX4_dropOldest_21 ?_
  refine lv_topi (fun z41 hz41 => ?_)
  obtain rfl : z41 = 4 := hz41.trans (by decide)
  refine lv_aload_n hx hb dX4_dropOldest_22 rfl (lv_at hl 2 rfl) ?_
  refine va_get (D := D) (ci := 4) (v := .ref ne) (C := RX4) (T := TX4) (N := 11) hx hb hts iw4 hown hK hP 0 rfl rfl 3 (by decide) fw1 (fun _ h9 => h9) rfl dX4_dropOldest_23 ?_
  refine lv_iload_n hx hb dX4_dropOldest_26 rfl (lv_at hl 0 rfl) ?_
  refine va_aldq hx hb hK hP 1 3 rfl rfl (by unfold vp_in; decide) dX4_dropOldest_27 ?_
  rw [show ((5 : Int32)).toNatClampNeg = 5 from rfl, show va_rf ((va_up (va_up (va_up (va_up fe 0 (some e1)) 1 (some e2)) 2 (some e3)) 3 (some e4)) 5) = .ref e5 from congrArg va_rf hk34]
  refine va_astq hx hb hK hP hD hS 1 3 7 1 rfl rfl rfl rfl (by unfold vp_in; decide) dX4_dropOldest_28 (fun H locs hP hD hS => ?_)
  rw [show ((4 : Int32)).toNatClampNeg = 4 from rfl] at hP hD
  have hk43 : (va_up (va_up (va_up (va_up (va_up fe 0 (some e1)) 1 (some e2)) 2 (some e3)) 3 (some e4)) 4 (some e5)) 5 = some e5 := (va_up_ne _ _ (by decide)).trans hk34
  have hk44 : (va_up (va_up (va_up (va_up (va_up fe 0 (some e1)) 1 (some e2)) 2 (some e3)) 3 (some e4)) 4 (some e5)) 6 = some e6 := (va_up_ne _ _ (by decide)).trans hk35
  have hk45 : (va_up (va_up (va_up (va_up (va_up fe 0 (some e1)) 1 (some e2)) 2 (some e3)) 3 (some e4)) 4 (some e5)) 7 = some e7 := (va_up_ne _ _ (by decide)).trans hk36
  have hk46 : (va_up (va_up (va_up (va_up (va_up fe 0 (some e1)) 1 (some e2)) 2 (some e3)) 3 (some e4)) 4 (some e5)) 0 = some e1 := (va_up_ne _ _ (by decide)).trans hk37
  have hk47 : (va_up (va_up (va_up (va_up (va_up fe 0 (some e1)) 1 (some e2)) 2 (some e3)) 3 (some e4)) 4 (some e5)) 1 = some e2 := (va_up_ne _ _ (by decide)).trans hk38
  have hk48 : (va_up (va_up (va_up (va_up (va_up fe 0 (some e1)) 1 (some e2)) 2 (some e3)) 3 (some e4)) 4 (some e5)) 2 = some e3 := (va_up_ne _ _ (by decide)).trans hk39
  have hk49 : (va_up (va_up (va_up (va_up (va_up fe 0 (some e1)) 1 (some e2)) 2 (some e3)) 3 (some e4)) 4 (some e5)) 3 = some e4 := (va_up_ne _ _ (by decide)).trans hk40
  have hk50 : (va_up (va_up (va_up (va_up (va_up fe 0 (some e1)) 1 (some e2)) 2 (some e3)) 3 (some e4)) 4 (some e5)) 4 = some e5 := va_up_self _ _ _
  have hP : va_P D vwCl [(nw, .inr (4, [.ref kk, .ref nk, .ref nd, .ref ne, .ref nm, .ref nn, .int (nI fi), .int (nI gl), .int (nI un), .int (nI mi), .int (nI no)])), (ne, .inl (y 3, 8, .inr (.inr (.inr (.inr (va_up (va_up (va_up (va_up (va_up fe 0 (some e1)) 1 (some e2)) 2 (some e3)) 3 (some e4)) 4 (some e5))))))), (e0, .inr (1, [.ref e0l, .ref e0a, .ref e0s, .int e0st, .int e0cl, .int e0nu])), (e1, .inr (1, [.ref e1l, .ref e1a, .ref e1s, .int e1st, .int e1cl, .int e1nu])), (e2, .inr (1, [.ref e2l, .ref e2a, .ref e2s, .int e2st, .int e2cl, .int e2nu])), (e3, .inr (1, [.ref e3l, .ref e3a, .ref e3s, .int e3st, .int e3cl, .int e3nu])), (e4, .inr (1, [.ref e4l, .ref e4a, .ref e4s, .int e4st, .int e4cl, .int e4nu])), (e5, .inr (1, [.ref e5l, .ref e5a, .ref e5s, .int e5st, .int e5cl, .int e5nu])), (e6, .inr (1, [.ref e6l, .ref e6a, .ref e6s, .int e6st, .int e6cl, .int e6nu])), (e7, .inr (1, [.ref e7l, .ref e7a, .ref e7s, .int e7st, .int e7cl, .int e7nu]))] H := hP
  have hD : va_D A [(nw, .inr (4, [.ref kk, .ref nk, .ref nd, .ref ne, .ref nm, .ref nn, .int (nI fi), .int (nI gl), .int (nI un), .int (nI mi), .int (nI no)])), (ne, .inl (y 3, 8, .inr (.inr (.inr (.inr (va_up (va_up (va_up (va_up (va_up fe 0 (some e1)) 1 (some e2)) 2 (some e3)) 3 (some e4)) 4 (some e5))))))), (e0, .inr (1, [.ref e0l, .ref e0a, .ref e0s, .int e0st, .int e0cl, .int e0nu])), (e1, .inr (1, [.ref e1l, .ref e1a, .ref e1s, .int e1st, .int e1cl, .int e1nu])), (e2, .inr (1, [.ref e2l, .ref e2a, .ref e2s, .int e2st, .int e2cl, .int e2nu])), (e3, .inr (1, [.ref e3l, .ref e3a, .ref e3s, .int e3st, .int e3cl, .int e3nu])), (e4, .inr (1, [.ref e4l, .ref e4a, .ref e4s, .int e4st, .int e4cl, .int e4nu])), (e5, .inr (1, [.ref e5l, .ref e5a, .ref e5s, .int e5st, .int e5cl, .int e5nu])), (e6, .inr (1, [.ref e6l, .ref e6a, .ref e6s, .int e6st, .int e6cl, .int e6nu])), (e7, .inr (1, [.ref e7l, .ref e7a, .ref e7s, .int e7st, .int e7cl, .int e7nu]))] := hD
  refine lv_iinc (v := 6) (lv' := [(2, .int 6), (1, .ref e0), (0, .ref nw)]) hx hb dX4_dropOldest_29 hl (k := 0) rfl (by decide) (by decide) rfl (fun ls hl => ?_)
  refine lv_goto (tgt := 9) hx hb dX4_dropOldest_32 (by decide) ?_
  refine lv_iload_n hx hb dX4_dropOldest_9 rfl (lv_at hl 0 rfl) ?_
  refine lv_bipush (v := 8) hx hb dX4_dropOldest_10 (by decide) ?_
  refine lv_icmp_ge (tgt := 35) hx hb dX4_dropOldest_12 (by decide) (fun h9 => absurd h9 (by decide)) (fun _ => ?_)
  refine lv_aload_n hx hb dX4_dropOldest_15 rfl (lv_at hl 2 rfl) ?_
  refine va_get (D := D) (ci := 4) (v := .ref ne) (C := RX4) (T := TX4) (N := 11) hx hb hts iw4 hown hK hP 0 rfl rfl 3 (by decide) fw1 (fun _ h9 => h9) rfl dX4_dropOldest_16 ?_
  refine lv_iload_n hx hb dX4_dropOldest_19 rfl (lv_at hl 0 rfl) ?_
  refine lv_iconst (v := 1) hx hb dX4_dropOldest_20 (by decide) ?_
  refine lv_isub hx hb dX4_dropOldest_21 ?_
  refine lv_topi (fun z51 hz51 => ?_)
  obtain rfl : z51 = 5 := hz51.trans (by decide)
  refine lv_aload_n hx hb dX4_dropOldest_22 rfl (lv_at hl 2 rfl) ?_
  refine va_get (D := D) (ci := 4) (v := .ref ne) (C := RX4) (T := TX4) (N := 11) hx hb hts iw4 hown hK hP 0 rfl rfl 3 (by decide) fw1 (fun _ h9 => h9) rfl dX4_dropOldest_23 ?_
  refine lv_iload_n hx hb dX4_dropOldest_26 rfl (lv_at hl 0 rfl) ?_
  refine va_aldq hx hb hK hP 1 3 rfl rfl (by unfold vp_in; decide) dX4_dropOldest_27 ?_
  rw [show ((6 : Int32)).toNatClampNeg = 6 from rfl, show va_rf ((va_up (va_up (va_up (va_up (va_up fe 0 (some e1)) 1 (some e2)) 2 (some e3)) 3 (some e4)) 4 (some e5)) 6) = .ref e6 from congrArg va_rf hk44]
  refine va_astq hx hb hK hP hD hS 1 3 8 1 rfl rfl rfl rfl (by unfold vp_in; decide) dX4_dropOldest_28 (fun H locs hP hD hS => ?_)
  rw [show ((5 : Int32)).toNatClampNeg = 5 from rfl] at hP hD
  have hk53 : (va_up (va_up (va_up (va_up (va_up (va_up fe 0 (some e1)) 1 (some e2)) 2 (some e3)) 3 (some e4)) 4 (some e5)) 5 (some e6)) 6 = some e6 := (va_up_ne _ _ (by decide)).trans hk44
  have hk54 : (va_up (va_up (va_up (va_up (va_up (va_up fe 0 (some e1)) 1 (some e2)) 2 (some e3)) 3 (some e4)) 4 (some e5)) 5 (some e6)) 7 = some e7 := (va_up_ne _ _ (by decide)).trans hk45
  have hk55 : (va_up (va_up (va_up (va_up (va_up (va_up fe 0 (some e1)) 1 (some e2)) 2 (some e3)) 3 (some e4)) 4 (some e5)) 5 (some e6)) 0 = some e1 := (va_up_ne _ _ (by decide)).trans hk46
  have hk56 : (va_up (va_up (va_up (va_up (va_up (va_up fe 0 (some e1)) 1 (some e2)) 2 (some e3)) 3 (some e4)) 4 (some e5)) 5 (some e6)) 1 = some e2 := (va_up_ne _ _ (by decide)).trans hk47
  have hk57 : (va_up (va_up (va_up (va_up (va_up (va_up fe 0 (some e1)) 1 (some e2)) 2 (some e3)) 3 (some e4)) 4 (some e5)) 5 (some e6)) 2 = some e3 := (va_up_ne _ _ (by decide)).trans hk48
  have hk58 : (va_up (va_up (va_up (va_up (va_up (va_up fe 0 (some e1)) 1 (some e2)) 2 (some e3)) 3 (some e4)) 4 (some e5)) 5 (some e6)) 3 = some e4 := (va_up_ne _ _ (by decide)).trans hk49
  have hk59 : (va_up (va_up (va_up (va_up (va_up (va_up fe 0 (some e1)) 1 (some e2)) 2 (some e3)) 3 (some e4)) 4 (some e5)) 5 (some e6)) 4 = some e5 := (va_up_ne _ _ (by decide)).trans hk50
  have hk60 : (va_up (va_up (va_up (va_up (va_up (va_up fe 0 (some e1)) 1 (some e2)) 2 (some e3)) 3 (some e4)) 4 (some e5)) 5 (some e6)) 5 = some e6 := va_up_self _ _ _
  have hP : va_P D vwCl [(nw, .inr (4, [.ref kk, .ref nk, .ref nd, .ref ne, .ref nm, .ref nn, .int (nI fi), .int (nI gl), .int (nI un), .int (nI mi), .int (nI no)])), (ne, .inl (y 3, 8, .inr (.inr (.inr (.inr (va_up (va_up (va_up (va_up (va_up (va_up fe 0 (some e1)) 1 (some e2)) 2 (some e3)) 3 (some e4)) 4 (some e5)) 5 (some e6))))))), (e0, .inr (1, [.ref e0l, .ref e0a, .ref e0s, .int e0st, .int e0cl, .int e0nu])), (e1, .inr (1, [.ref e1l, .ref e1a, .ref e1s, .int e1st, .int e1cl, .int e1nu])), (e2, .inr (1, [.ref e2l, .ref e2a, .ref e2s, .int e2st, .int e2cl, .int e2nu])), (e3, .inr (1, [.ref e3l, .ref e3a, .ref e3s, .int e3st, .int e3cl, .int e3nu])), (e4, .inr (1, [.ref e4l, .ref e4a, .ref e4s, .int e4st, .int e4cl, .int e4nu])), (e5, .inr (1, [.ref e5l, .ref e5a, .ref e5s, .int e5st, .int e5cl, .int e5nu])), (e6, .inr (1, [.ref e6l, .ref e6a, .ref e6s, .int e6st, .int e6cl, .int e6nu])), (e7, .inr (1, [.ref e7l, .ref e7a, .ref e7s, .int e7st, .int e7cl, .int e7nu]))] H := hP
  have hD : va_D A [(nw, .inr (4, [.ref kk, .ref nk, .ref nd, .ref ne, .ref nm, .ref nn, .int (nI fi), .int (nI gl), .int (nI un), .int (nI mi), .int (nI no)])), (ne, .inl (y 3, 8, .inr (.inr (.inr (.inr (va_up (va_up (va_up (va_up (va_up (va_up fe 0 (some e1)) 1 (some e2)) 2 (some e3)) 3 (some e4)) 4 (some e5)) 5 (some e6))))))), (e0, .inr (1, [.ref e0l, .ref e0a, .ref e0s, .int e0st, .int e0cl, .int e0nu])), (e1, .inr (1, [.ref e1l, .ref e1a, .ref e1s, .int e1st, .int e1cl, .int e1nu])), (e2, .inr (1, [.ref e2l, .ref e2a, .ref e2s, .int e2st, .int e2cl, .int e2nu])), (e3, .inr (1, [.ref e3l, .ref e3a, .ref e3s, .int e3st, .int e3cl, .int e3nu])), (e4, .inr (1, [.ref e4l, .ref e4a, .ref e4s, .int e4st, .int e4cl, .int e4nu])), (e5, .inr (1, [.ref e5l, .ref e5a, .ref e5s, .int e5st, .int e5cl, .int e5nu])), (e6, .inr (1, [.ref e6l, .ref e6a, .ref e6s, .int e6st, .int e6cl, .int e6nu])), (e7, .inr (1, [.ref e7l, .ref e7a, .ref e7s, .int e7st, .int e7cl, .int e7nu]))] := hD
  refine lv_iinc (v := 7) (lv' := [(2, .int 7), (1, .ref e0), (0, .ref nw)]) hx hb dX4_dropOldest_29 hl (k := 0) rfl (by decide) (by decide) rfl (fun ls hl => ?_)
  refine lv_goto (tgt := 9) hx hb dX4_dropOldest_32 (by decide) ?_
  refine lv_iload_n hx hb dX4_dropOldest_9 rfl (lv_at hl 0 rfl) ?_
  refine lv_bipush (v := 8) hx hb dX4_dropOldest_10 (by decide) ?_
  refine lv_icmp_ge (tgt := 35) hx hb dX4_dropOldest_12 (by decide) (fun h9 => absurd h9 (by decide)) (fun _ => ?_)
  refine lv_aload_n hx hb dX4_dropOldest_15 rfl (lv_at hl 2 rfl) ?_
  refine va_get (D := D) (ci := 4) (v := .ref ne) (C := RX4) (T := TX4) (N := 11) hx hb hts iw4 hown hK hP 0 rfl rfl 3 (by decide) fw1 (fun _ h9 => h9) rfl dX4_dropOldest_16 ?_
  refine lv_iload_n hx hb dX4_dropOldest_19 rfl (lv_at hl 0 rfl) ?_
  refine lv_iconst (v := 1) hx hb dX4_dropOldest_20 (by decide) ?_
  refine lv_isub hx hb dX4_dropOldest_21 ?_
  refine lv_topi (fun z61 hz61 => ?_)
  obtain rfl : z61 = 6 := hz61.trans (by decide)
  refine lv_aload_n hx hb dX4_dropOldest_22 rfl (lv_at hl 2 rfl) ?_
  refine va_get (D := D) (ci := 4) (v := .ref ne) (C := RX4) (T := TX4) (N := 11) hx hb hts iw4 hown hK hP 0 rfl rfl 3 (by decide) fw1 (fun _ h9 => h9) rfl dX4_dropOldest_23 ?_
  refine lv_iload_n hx hb dX4_dropOldest_26 rfl (lv_at hl 0 rfl) ?_
  refine va_aldq hx hb hK hP 1 3 rfl rfl (by unfold vp_in; decide) dX4_dropOldest_27 ?_
  rw [show ((7 : Int32)).toNatClampNeg = 7 from rfl, show va_rf ((va_up (va_up (va_up (va_up (va_up (va_up fe 0 (some e1)) 1 (some e2)) 2 (some e3)) 3 (some e4)) 4 (some e5)) 5 (some e6)) 7) = .ref e7 from congrArg va_rf hk54]
  refine va_astq hx hb hK hP hD hS 1 3 9 1 rfl rfl rfl rfl (by unfold vp_in; decide) dX4_dropOldest_28 (fun H locs hP hD hS => ?_)
  rw [show ((6 : Int32)).toNatClampNeg = 6 from rfl] at hP hD
  have hk63 : (va_up (va_up (va_up (va_up (va_up (va_up (va_up fe 0 (some e1)) 1 (some e2)) 2 (some e3)) 3 (some e4)) 4 (some e5)) 5 (some e6)) 6 (some e7)) 7 = some e7 := (va_up_ne _ _ (by decide)).trans hk54
  have hk64 : (va_up (va_up (va_up (va_up (va_up (va_up (va_up fe 0 (some e1)) 1 (some e2)) 2 (some e3)) 3 (some e4)) 4 (some e5)) 5 (some e6)) 6 (some e7)) 0 = some e1 := (va_up_ne _ _ (by decide)).trans hk55
  have hk65 : (va_up (va_up (va_up (va_up (va_up (va_up (va_up fe 0 (some e1)) 1 (some e2)) 2 (some e3)) 3 (some e4)) 4 (some e5)) 5 (some e6)) 6 (some e7)) 1 = some e2 := (va_up_ne _ _ (by decide)).trans hk56
  have hk66 : (va_up (va_up (va_up (va_up (va_up (va_up (va_up fe 0 (some e1)) 1 (some e2)) 2 (some e3)) 3 (some e4)) 4 (some e5)) 5 (some e6)) 6 (some e7)) 2 = some e3 := (va_up_ne _ _ (by decide)).trans hk57
  have hk67 : (va_up (va_up (va_up (va_up (va_up (va_up (va_up fe 0 (some e1)) 1 (some e2)) 2 (some e3)) 3 (some e4)) 4 (some e5)) 5 (some e6)) 6 (some e7)) 3 = some e4 := (va_up_ne _ _ (by decide)).trans hk58
  have hk68 : (va_up (va_up (va_up (va_up (va_up (va_up (va_up fe 0 (some e1)) 1 (some e2)) 2 (some e3)) 3 (some e4)) 4 (some e5)) 5 (some e6)) 6 (some e7)) 4 = some e5 := (va_up_ne _ _ (by decide)).trans hk59
  have hk69 : (va_up (va_up (va_up (va_up (va_up (va_up (va_up fe 0 (some e1)) 1 (some e2)) 2 (some e3)) 3 (some e4)) 4 (some e5)) 5 (some e6)) 6 (some e7)) 5 = some e6 := (va_up_ne _ _ (by decide)).trans hk60
  have hk70 : (va_up (va_up (va_up (va_up (va_up (va_up (va_up fe 0 (some e1)) 1 (some e2)) 2 (some e3)) 3 (some e4)) 4 (some e5)) 5 (some e6)) 6 (some e7)) 6 = some e7 := va_up_self _ _ _
  have hP : va_P D vwCl [(nw, .inr (4, [.ref kk, .ref nk, .ref nd, .ref ne, .ref nm, .ref nn, .int (nI fi), .int (nI gl), .int (nI un), .int (nI mi), .int (nI no)])), (ne, .inl (y 3, 8, .inr (.inr (.inr (.inr (va_up (va_up (va_up (va_up (va_up (va_up (va_up fe 0 (some e1)) 1 (some e2)) 2 (some e3)) 3 (some e4)) 4 (some e5)) 5 (some e6)) 6 (some e7))))))), (e0, .inr (1, [.ref e0l, .ref e0a, .ref e0s, .int e0st, .int e0cl, .int e0nu])), (e1, .inr (1, [.ref e1l, .ref e1a, .ref e1s, .int e1st, .int e1cl, .int e1nu])), (e2, .inr (1, [.ref e2l, .ref e2a, .ref e2s, .int e2st, .int e2cl, .int e2nu])), (e3, .inr (1, [.ref e3l, .ref e3a, .ref e3s, .int e3st, .int e3cl, .int e3nu])), (e4, .inr (1, [.ref e4l, .ref e4a, .ref e4s, .int e4st, .int e4cl, .int e4nu])), (e5, .inr (1, [.ref e5l, .ref e5a, .ref e5s, .int e5st, .int e5cl, .int e5nu])), (e6, .inr (1, [.ref e6l, .ref e6a, .ref e6s, .int e6st, .int e6cl, .int e6nu])), (e7, .inr (1, [.ref e7l, .ref e7a, .ref e7s, .int e7st, .int e7cl, .int e7nu]))] H := hP
  have hD : va_D A [(nw, .inr (4, [.ref kk, .ref nk, .ref nd, .ref ne, .ref nm, .ref nn, .int (nI fi), .int (nI gl), .int (nI un), .int (nI mi), .int (nI no)])), (ne, .inl (y 3, 8, .inr (.inr (.inr (.inr (va_up (va_up (va_up (va_up (va_up (va_up (va_up fe 0 (some e1)) 1 (some e2)) 2 (some e3)) 3 (some e4)) 4 (some e5)) 5 (some e6)) 6 (some e7))))))), (e0, .inr (1, [.ref e0l, .ref e0a, .ref e0s, .int e0st, .int e0cl, .int e0nu])), (e1, .inr (1, [.ref e1l, .ref e1a, .ref e1s, .int e1st, .int e1cl, .int e1nu])), (e2, .inr (1, [.ref e2l, .ref e2a, .ref e2s, .int e2st, .int e2cl, .int e2nu])), (e3, .inr (1, [.ref e3l, .ref e3a, .ref e3s, .int e3st, .int e3cl, .int e3nu])), (e4, .inr (1, [.ref e4l, .ref e4a, .ref e4s, .int e4st, .int e4cl, .int e4nu])), (e5, .inr (1, [.ref e5l, .ref e5a, .ref e5s, .int e5st, .int e5cl, .int e5nu])), (e6, .inr (1, [.ref e6l, .ref e6a, .ref e6s, .int e6st, .int e6cl, .int e6nu])), (e7, .inr (1, [.ref e7l, .ref e7a, .ref e7s, .int e7st, .int e7cl, .int e7nu]))] := hD
  refine lv_iinc (v := 8) (lv' := [(2, .int 8), (1, .ref e0), (0, .ref nw)]) hx hb dX4_dropOldest_29 hl (k := 0) rfl (by decide) (by decide) rfl (fun ls hl => ?_)
  refine lv_goto (tgt := 9) hx hb dX4_dropOldest_32 (by decide) ?_
  refine lv_iload_n hx hb dX4_dropOldest_9 rfl (lv_at hl 0 rfl) ?_
  refine lv_bipush (v := 8) hx hb dX4_dropOldest_10 (by decide) ?_
  refine lv_icmp_ge (tgt := 35) hx hb dX4_dropOldest_12 (by decide) (fun _ => ?_) (fun h9 => absurd h9 (by decide))
  refine lv_aload_n hx hb dX4_dropOldest_35 rfl (lv_at hl 2 rfl) ?_
  refine va_get (D := D) (ci := 4) (v := .ref ne) (C := RX4) (T := TX4) (N := 11) hx hb hts iw4 hown hK hP 0 rfl rfl 3 (by decide) fw1 (fun _ h9 => h9) rfl dX4_dropOldest_36 ?_
  refine lv_bipush (v := 7) hx hb dX4_dropOldest_39 (by decide) ?_
  refine lv_aload_n hx hb dX4_dropOldest_41 rfl (lv_at hl 1 rfl) ?_
  refine va_astq hx hb hK hP hD hS 1 3 2 1 rfl rfl rfl rfl (by unfold vp_in; decide) dX4_dropOldest_42 (fun H locs hP hD hS => ?_)
  rw [show ((7 : Int32)).toNatClampNeg = 7 from rfl] at hP hD
  have hk72 : (va_up (va_up (va_up (va_up (va_up (va_up (va_up (va_up fe 0 (some e1)) 1 (some e2)) 2 (some e3)) 3 (some e4)) 4 (some e5)) 5 (some e6)) 6 (some e7)) 7 (some e0)) 0 = some e1 := (va_up_ne _ _ (by decide)).trans hk64
  have hk73 : (va_up (va_up (va_up (va_up (va_up (va_up (va_up (va_up fe 0 (some e1)) 1 (some e2)) 2 (some e3)) 3 (some e4)) 4 (some e5)) 5 (some e6)) 6 (some e7)) 7 (some e0)) 1 = some e2 := (va_up_ne _ _ (by decide)).trans hk65
  have hk74 : (va_up (va_up (va_up (va_up (va_up (va_up (va_up (va_up fe 0 (some e1)) 1 (some e2)) 2 (some e3)) 3 (some e4)) 4 (some e5)) 5 (some e6)) 6 (some e7)) 7 (some e0)) 2 = some e3 := (va_up_ne _ _ (by decide)).trans hk66
  have hk75 : (va_up (va_up (va_up (va_up (va_up (va_up (va_up (va_up fe 0 (some e1)) 1 (some e2)) 2 (some e3)) 3 (some e4)) 4 (some e5)) 5 (some e6)) 6 (some e7)) 7 (some e0)) 3 = some e4 := (va_up_ne _ _ (by decide)).trans hk67
  have hk76 : (va_up (va_up (va_up (va_up (va_up (va_up (va_up (va_up fe 0 (some e1)) 1 (some e2)) 2 (some e3)) 3 (some e4)) 4 (some e5)) 5 (some e6)) 6 (some e7)) 7 (some e0)) 4 = some e5 := (va_up_ne _ _ (by decide)).trans hk68
  have hk77 : (va_up (va_up (va_up (va_up (va_up (va_up (va_up (va_up fe 0 (some e1)) 1 (some e2)) 2 (some e3)) 3 (some e4)) 4 (some e5)) 5 (some e6)) 6 (some e7)) 7 (some e0)) 5 = some e6 := (va_up_ne _ _ (by decide)).trans hk69
  have hk78 : (va_up (va_up (va_up (va_up (va_up (va_up (va_up (va_up fe 0 (some e1)) 1 (some e2)) 2 (some e3)) 3 (some e4)) 4 (some e5)) 5 (some e6)) 6 (some e7)) 7 (some e0)) 6 = some e7 := (va_up_ne _ _ (by decide)).trans hk70
  have hk79 : (va_up (va_up (va_up (va_up (va_up (va_up (va_up (va_up fe 0 (some e1)) 1 (some e2)) 2 (some e3)) 3 (some e4)) 4 (some e5)) 5 (some e6)) 6 (some e7)) 7 (some e0)) 7 = some e0 := va_up_self _ _ _
  have hP : va_P D vwCl [(nw, .inr (4, [.ref kk, .ref nk, .ref nd, .ref ne, .ref nm, .ref nn, .int (nI fi), .int (nI gl), .int (nI un), .int (nI mi), .int (nI no)])), (ne, .inl (y 3, 8, .inr (.inr (.inr (.inr (va_up (va_up (va_up (va_up (va_up (va_up (va_up (va_up fe 0 (some e1)) 1 (some e2)) 2 (some e3)) 3 (some e4)) 4 (some e5)) 5 (some e6)) 6 (some e7)) 7 (some e0))))))), (e0, .inr (1, [.ref e0l, .ref e0a, .ref e0s, .int e0st, .int e0cl, .int e0nu])), (e1, .inr (1, [.ref e1l, .ref e1a, .ref e1s, .int e1st, .int e1cl, .int e1nu])), (e2, .inr (1, [.ref e2l, .ref e2a, .ref e2s, .int e2st, .int e2cl, .int e2nu])), (e3, .inr (1, [.ref e3l, .ref e3a, .ref e3s, .int e3st, .int e3cl, .int e3nu])), (e4, .inr (1, [.ref e4l, .ref e4a, .ref e4s, .int e4st, .int e4cl, .int e4nu])), (e5, .inr (1, [.ref e5l, .ref e5a, .ref e5s, .int e5st, .int e5cl, .int e5nu])), (e6, .inr (1, [.ref e6l, .ref e6a, .ref e6s, .int e6st, .int e6cl, .int e6nu])), (e7, .inr (1, [.ref e7l, .ref e7a, .ref e7s, .int e7st, .int e7cl, .int e7nu]))] H := hP
  have hD : va_D A [(nw, .inr (4, [.ref kk, .ref nk, .ref nd, .ref ne, .ref nm, .ref nn, .int (nI fi), .int (nI gl), .int (nI un), .int (nI mi), .int (nI no)])), (ne, .inl (y 3, 8, .inr (.inr (.inr (.inr (va_up (va_up (va_up (va_up (va_up (va_up (va_up (va_up fe 0 (some e1)) 1 (some e2)) 2 (some e3)) 3 (some e4)) 4 (some e5)) 5 (some e6)) 6 (some e7)) 7 (some e0))))))), (e0, .inr (1, [.ref e0l, .ref e0a, .ref e0s, .int e0st, .int e0cl, .int e0nu])), (e1, .inr (1, [.ref e1l, .ref e1a, .ref e1s, .int e1st, .int e1cl, .int e1nu])), (e2, .inr (1, [.ref e2l, .ref e2a, .ref e2s, .int e2st, .int e2cl, .int e2nu])), (e3, .inr (1, [.ref e3l, .ref e3a, .ref e3s, .int e3st, .int e3cl, .int e3nu])), (e4, .inr (1, [.ref e4l, .ref e4a, .ref e4s, .int e4st, .int e4cl, .int e4nu])), (e5, .inr (1, [.ref e5l, .ref e5a, .ref e5s, .int e5st, .int e5cl, .int e5nu])), (e6, .inr (1, [.ref e6l, .ref e6a, .ref e6s, .int e6st, .int e6cl, .int e6nu])), (e7, .inr (1, [.ref e7l, .ref e7a, .ref e7s, .int e7st, .int e7cl, .int e7nu]))] := hD
  refine lv_aload_n hx hb dX4_dropOldest_43 rfl (lv_at hl 2 rfl) ?_
  refine lv_dup hx hb dX4_dropOldest_44 rfl ?_
  refine va_get (D := D) (ci := 4) (v := .int (nI un)) (C := RX4) (T := TX4) (N := 11) hx hb hts iw4 hown hK hP 0 rfl rfl 8 (by decide) fw2 (fun _ h9 => h9) rfl dX4_dropOldest_45 ?_
  refine lv_iconst (v := 1) hx hb dX4_dropOldest_48 (by decide) ?_
  refine lv_isub hx hb dX4_dropOldest_49 ?_
  rw [show (nI un) - 1 = nI (un - 1) from pk_sub (a := un) (b := 1) (by omega)]
  refine va_put (D := D) (ci := 4) (v := .int (nI (un - 1))) (ty := .int) (C := RX4) (T := TX4) (N := 11) hx hb hts iw4 tyX4 tyX4_ok nmX4 hown hK hP hD hS 0 rfl rfl 8 (by decide) fw2 (fun _ h9 => h9) rfl (by decide +kernel) rfl rfl (Nat.le_of_ble_eq_true rfl) dX4_dropOldest_50 (fun H locs hP hD hS => ?_)
  have hP : va_P D vwCl [(nw, .inr (4, [.ref kk, .ref nk, .ref nd, .ref ne, .ref nm, .ref nn, .int (nI fi), .int (nI gl), .int (nI (un - 1)), .int (nI mi), .int (nI no)])), (ne, .inl (y 3, 8, .inr (.inr (.inr (.inr (va_up (va_up (va_up (va_up (va_up (va_up (va_up (va_up fe 0 (some e1)) 1 (some e2)) 2 (some e3)) 3 (some e4)) 4 (some e5)) 5 (some e6)) 6 (some e7)) 7 (some e0))))))), (e0, .inr (1, [.ref e0l, .ref e0a, .ref e0s, .int e0st, .int e0cl, .int e0nu])), (e1, .inr (1, [.ref e1l, .ref e1a, .ref e1s, .int e1st, .int e1cl, .int e1nu])), (e2, .inr (1, [.ref e2l, .ref e2a, .ref e2s, .int e2st, .int e2cl, .int e2nu])), (e3, .inr (1, [.ref e3l, .ref e3a, .ref e3s, .int e3st, .int e3cl, .int e3nu])), (e4, .inr (1, [.ref e4l, .ref e4a, .ref e4s, .int e4st, .int e4cl, .int e4nu])), (e5, .inr (1, [.ref e5l, .ref e5a, .ref e5s, .int e5st, .int e5cl, .int e5nu])), (e6, .inr (1, [.ref e6l, .ref e6a, .ref e6s, .int e6st, .int e6cl, .int e6nu])), (e7, .inr (1, [.ref e7l, .ref e7a, .ref e7s, .int e7st, .int e7cl, .int e7nu]))] H := hP
  have hD : va_D A [(nw, .inr (4, [.ref kk, .ref nk, .ref nd, .ref ne, .ref nm, .ref nn, .int (nI fi), .int (nI gl), .int (nI (un - 1)), .int (nI mi), .int (nI no)])), (ne, .inl (y 3, 8, .inr (.inr (.inr (.inr (va_up (va_up (va_up (va_up (va_up (va_up (va_up (va_up fe 0 (some e1)) 1 (some e2)) 2 (some e3)) 3 (some e4)) 4 (some e5)) 5 (some e6)) 6 (some e7)) 7 (some e0))))))), (e0, .inr (1, [.ref e0l, .ref e0a, .ref e0s, .int e0st, .int e0cl, .int e0nu])), (e1, .inr (1, [.ref e1l, .ref e1a, .ref e1s, .int e1st, .int e1cl, .int e1nu])), (e2, .inr (1, [.ref e2l, .ref e2a, .ref e2s, .int e2st, .int e2cl, .int e2nu])), (e3, .inr (1, [.ref e3l, .ref e3a, .ref e3s, .int e3st, .int e3cl, .int e3nu])), (e4, .inr (1, [.ref e4l, .ref e4a, .ref e4s, .int e4st, .int e4cl, .int e4nu])), (e5, .inr (1, [.ref e5l, .ref e5a, .ref e5s, .int e5st, .int e5cl, .int e5nu])), (e6, .inr (1, [.ref e6l, .ref e6a, .ref e6s, .int e6st, .int e6cl, .int e6nu])), (e7, .inr (1, [.ref e7l, .ref e7a, .ref e7s, .int e7st, .int e7cl, .int e7nu]))] := hD
  exact W.vret hx hb hr (fun tZ ht hW => ⟨⟨((fun _ => 0), (fun _ => 0), (fun _ => (fun _ => 0)), (fun _ => (va_up (va_up (va_up (va_up (va_up (va_up (va_up (va_up fe 0 (some e1)) 1 (some e2)) 2 (some e3)) 3 (some e4)) 4 (some e5)) 5 (some e6)) 6 (some e7)) 7 (some e0))), (fun _ => 0)), rfl, ⟨hk72, hk73, hk74, hk75, hk76, hk77, hk78, hk79⟩, by rw [ht]; exact hP.sub [0, 1, 3, 4, 5, 6, 7, 8, 9, 2] rfl, hD.sub [0, 1, 3, 4, 5, 6, 7, 8, 9, 2] (by decide) rfl⟩, hS.F ht⟩) hS.2.2 dX4_dropOldest_53
